theorem u_84 : Cond.classLink RL 8 RX6 ∈ yU := yu_tables_1_1 28 (by decide +kernel) (by decide +kernel)
theorem u_85 : Cond.instantiable RX6 6 ∈ yU := yu_tables_1_1 29 (by decide +kernel) (by decide +kernel)
theorem u_86 : Cond.methodLink RL 86 yX6_init ∈ yU := yu_tables_1_1 30 (by decide +kernel) (by decide +kernel)
theorem u_87 : Cond.instanceMethod yX6_init ∈ yU := yu_tables_1_1 31 (by decide +kernel) (by decide +kernel)
theorem u_1188 : Cond.classLink RL 87 RX9 ∈ yU := yu_tables_1_5 172 (by decide +kernel) (by decide +kernel)
theorem u_1189 : Cond.instantiable RX9 17 ∈ yU := yu_tables_1_5 173 (by decide +kernel) (by decide +kernel)
theorem u_1190 : Cond.methodLink RL 89 yX9_init ∈ yU := yu_tables_1_5 174 (by decide +kernel) (by decide +kernel)
theorem u_1191 : Cond.instanceMethod yX9_init ∈ yU := yu_tables_1_5 175 (by decide +kernel) (by decide +kernel)
theorem u_550 : Cond.classLink RL 14 RX7 ∈ yU := yu_tables_1_3 14 (by decide +kernel) (by decide +kernel)
theorem u_551 : Cond.instantiable RX7 2 ∈ yU := yu_tables_1_3 15 (by decide +kernel) (by decide +kernel)
theorem u_553 : Cond.instanceMethod yX7_init ∈ yU := yu_tables_1_3 17 (by decide +kernel) (by decide +kernel)
theorem u_563 : Cond.methodLink RL 91 yL_shape ∈ yU := yu_tables_1_3 27 (by decide +kernel) (by decide +kernel)
theorem u_564 : Cond.static yL_shape ∈ yU := yu_tables_1_3 28 (by decide +kernel) (by decide +kernel)
theorem u_1294 : Cond.methodLink RL 96 yX9_shape ∈ yU := yu_tables_1_6 38 (by decide +kernel) (by decide +kernel)
theorem u_1295 : Cond.instanceMethod yX9_shape ∈ yU := yu_tables_1_6 39 (by decide +kernel) (by decide +kernel)
theorem u_1296 : Cond.selects RX9 yX9_shape yX9_shape ∈ yU := yu_tables_1_6 40 (by decide +kernel) (by decide +kernel)
theorem u_651 : Cond.methodLink RL 97 yL_left ∈ yU := yu_tables_1_3 115 (by decide +kernel) (by decide +kernel)
theorem u_652 : Cond.static yL_left ∈ yU := yu_tables_1_3 116 (by decide +kernel) (by decide +kernel)
theorem u_1315 : Cond.methodLink RL 99 yX9_left ∈ yU := yu_tables_1_6 59 (by decide +kernel) (by decide +kernel)
theorem u_1316 : Cond.instanceMethod yX9_left ∈ yU := yu_tables_1_6 60 (by decide +kernel) (by decide +kernel)
theorem u_1317 : Cond.selects RX9 yX9_left yX9_left ∈ yU := yu_tables_1_6 61 (by decide +kernel) (by decide +kernel)
theorem u_683 : Cond.methodLink RL 100 yL_top ∈ yU := yu_tables_1_3 147 (by decide +kernel) (by decide +kernel)
theorem u_684 : Cond.static yL_top ∈ yU := yu_tables_1_3 148 (by decide +kernel) (by decide +kernel)
theorem u_1319 : Cond.methodLink RL 102 yX9_top ∈ yU := yu_tables_1_6 63 (by decide +kernel) (by decide +kernel)
theorem u_1320 : Cond.instanceMethod yX9_top ∈ yU := yu_tables_1_6 64 (by decide +kernel) (by decide +kernel)
theorem u_1321 : Cond.selects RX9 yX9_top yX9_top ∈ yU := yu_tables_1_6 65 (by decide +kernel) (by decide +kernel)
theorem u_691 : Cond.methodLink RL 103 yL_kind ∈ yU := yu_tables_1_3 155 (by decide +kernel) (by decide +kernel)
theorem u_692 : Cond.static yL_kind ∈ yU := yu_tables_1_3 156 (by decide +kernel) (by decide +kernel)
theorem u_1323 : Cond.methodLink RL 106 yX9_kind ∈ yU := yu_tables_1_6 67 (by decide +kernel) (by decide +kernel)
theorem u_1324 : Cond.instanceMethod yX9_kind ∈ yU := yu_tables_1_6 68 (by decide +kernel) (by decide +kernel)
theorem u_1325 : Cond.selects RX9 yX9_kind yX9_kind ∈ yU := yu_tables_1_6 69 (by decide +kernel) (by decide +kernel)
theorem u_699 : Cond.methodLink RL 107 yL_checked ∈ yU := yu_tables_1_3 163 (by decide +kernel) (by decide +kernel)
theorem u_700 : Cond.static yL_checked ∈ yU := yu_tables_1_3 164 (by decide +kernel) (by decide +kernel)
theorem u_1327 : Cond.methodLink RL 110 yX9_checked ∈ yU := yu_tables_1_6 71 (by decide +kernel) (by decide +kernel)
theorem u_1328 : Cond.instanceMethod yX9_checked ∈ yU := yu_tables_1_6 72 (by decide +kernel) (by decide +kernel)
theorem u_1329 : Cond.selects RX9 yX9_checked yX9_checked ∈ yU := yu_tables_1_6 73 (by decide +kernel) (by decide +kernel)
theorem u_723 : Cond.methodLink RL 111 yL_broken ∈ yU := yu_tables_1_3 187 (by decide +kernel) (by decide +kernel)
theorem u_724 : Cond.static yL_broken ∈ yU := yu_tables_1_3 188 (by decide +kernel) (by decide +kernel)
theorem u_1331 : Cond.methodLink RL 114 yX9_broken ∈ yU := yu_tables_1_6 75 (by decide +kernel) (by decide +kernel)
theorem u_1332 : Cond.instanceMethod yX9_broken ∈ yU := yu_tables_1_6 76 (by decide +kernel) (by decide +kernel)
theorem u_1333 : Cond.selects RX9 yX9_broken yX9_broken ∈ yU := yu_tables_1_6 77 (by decide +kernel) (by decide +kernel)
theorem u_738 : Cond.methodLink RL 115 yL_test ∈ yU := yu_tables_1_3 202 (by decide +kernel) (by decide +kernel)
theorem u_739 : Cond.static yL_test ∈ yU := yu_tables_1_3 203 (by decide +kernel) (by decide +kernel)
theorem u_1342 : Cond.methodLink RL 118 yX9_test ∈ yU := yu_tables_1_6 86 (by decide +kernel) (by decide +kernel)
theorem u_1343 : Cond.instanceMethod yX9_test ∈ yU := yu_tables_1_6 87 (by decide +kernel) (by decide +kernel)
theorem u_1344 : Cond.selects RX9 yX9_test yX9_test ∈ yU := yu_tables_1_6 88 (by decide +kernel) (by decide +kernel)
theorem u_751 : Cond.methodLink RL 119 yL_start ∈ yU := yu_tables_1_3 215 (by decide +kernel) (by decide +kernel)
theorem u_752 : Cond.static yL_start ∈ yU := yu_tables_1_3 216 (by decide +kernel) (by decide +kernel)
theorem u_1351 : Cond.methodLink RL 121 yX9_start_ ∈ yU := yu_tables_1_6 95 (by decide +kernel) (by decide +kernel)
theorem u_1352 : Cond.instanceMethod yX9_start_ ∈ yU := yu_tables_1_6 96 (by decide +kernel) (by decide +kernel)
theorem u_1353 : Cond.selects RX9 yX9_start_ yX9_start_ ∈ yU := yu_tables_1_6 97 (by decide +kernel) (by decide +kernel)
theorem u_787 : Cond.methodLink RL 122 yL_beat ∈ yU := yu_tables_1_4 11 (by decide +kernel) (by decide +kernel)
theorem u_788 : Cond.static yL_beat ∈ yU := yu_tables_1_4 12 (by decide +kernel) (by decide +kernel)
theorem u_1434 : Cond.methodLink RL 124 yX9_beat ∈ yU := yu_tables_1_6 178 (by decide +kernel) (by decide +kernel)
theorem u_1435 : Cond.instanceMethod yX9_beat ∈ yU := yu_tables_1_6 179 (by decide +kernel) (by decide +kernel)
theorem u_1436 : Cond.selects RX9 yX9_beat yX9_beat ∈ yU := yu_tables_1_6 180 (by decide +kernel) (by decide +kernel)
theorem u_829 : Cond.methodLink RL 125 yL_bend ∈ yU := yu_tables_1_4 53 (by decide +kernel) (by decide +kernel)
theorem u_830 : Cond.static yL_bend ∈ yU := yu_tables_1_4 54 (by decide +kernel) (by decide +kernel)
theorem u_1484 : Cond.methodLink RL 127 yX9_bend ∈ yU := yu_tables_1_6 228 (by decide +kernel) (by decide +kernel)
theorem u_1485 : Cond.instanceMethod yX9_bend ∈ yU := yu_tables_1_6 229 (by decide +kernel) (by decide +kernel)
theorem u_1486 : Cond.selects RX9 yX9_bend yX9_bend ∈ yU := yu_tables_1_6 230 (by decide +kernel) (by decide +kernel)
theorem u_842 : Cond.methodLink RL 128 yL_check ∈ yU := yu_tables_1_4 66 (by decide +kernel) (by decide +kernel)
theorem u_843 : Cond.static yL_check ∈ yU := yu_tables_1_4 67 (by decide +kernel) (by decide +kernel)
theorem u_1492 : Cond.methodLink RL 130 yX9_check ∈ yU := yu_tables_1_6 236 (by decide +kernel) (by decide +kernel)
theorem u_1493 : Cond.instanceMethod yX9_check ∈ yU := yu_tables_1_6 237 (by decide +kernel) (by decide +kernel)
theorem u_1494 : Cond.selects RX9 yX9_check yX9_check ∈ yU := yu_tables_1_6 238 (by decide +kernel) (by decide +kernel)
theorem u_868 : Cond.methodLink RL 131 yL_mesh ∈ yU := yu_tables_1_4 92 (by decide +kernel) (by decide +kernel)
theorem u_869 : Cond.static yL_mesh ∈ yU := yu_tables_1_4 93 (by decide +kernel) (by decide +kernel)
theorem u_1508 : Cond.methodLink RL 133 yX9_mesh ∈ yU := yu_tables_1_7 12 (by decide +kernel) (by decide +kernel)
theorem u_1509 : Cond.instanceMethod yX9_mesh ∈ yU := yu_tables_1_7 13 (by decide +kernel) (by decide +kernel)
theorem u_1510 : Cond.selects RX9 yX9_mesh yX9_mesh ∈ yU := yu_tables_1_7 14 (by decide +kernel) (by decide +kernel)
theorem u_876 : Cond.methodLink RL 134 yL_ofCell ∈ yU := yu_tables_1_4 100 (by decide +kernel) (by decide +kernel)
theorem u_877 : Cond.static yL_ofCell ∈ yU := yu_tables_1_4 101 (by decide +kernel) (by decide +kernel)
theorem u_1516 : Cond.methodLink RL 136 yX9_ofCell ∈ yU := yu_tables_1_7 20 (by decide +kernel) (by decide +kernel)
theorem u_1517 : Cond.instanceMethod yX9_ofCell ∈ yU := yu_tables_1_7 21 (by decide +kernel) (by decide +kernel)
theorem u_1518 : Cond.selects RX9 yX9_ofCell yX9_ofCell ∈ yU := yu_tables_1_7 22 (by decide +kernel) (by decide +kernel)
theorem u_884 : Cond.methodLink RL 137 yL_result ∈ yU := yu_tables_1_4 108 (by decide +kernel) (by decide +kernel)
theorem u_885 : Cond.static yL_result ∈ yU := yu_tables_1_4 109 (by decide +kernel) (by decide +kernel)
theorem u_1531 : Cond.methodLink RL 140 yX9_result ∈ yU := yu_tables_1_7 35 (by decide +kernel) (by decide +kernel)
theorem u_1532 : Cond.instanceMethod yX9_result ∈ yU := yu_tables_1_7 36 (by decide +kernel) (by decide +kernel)
theorem u_1533 : Cond.selects RX9 yX9_result yX9_result ∈ yU := yu_tables_1_7 37 (by decide +kernel) (by decide +kernel)
theorem u_891 : Cond.methodLink RL 141 yL_plain ∈ yU := yu_tables_1_4 115 (by decide +kernel) (by decide +kernel)
theorem u_892 : Cond.static yL_plain ∈ yU := yu_tables_1_4 116 (by decide +kernel) (by decide +kernel)
theorem u_1535 : Cond.methodLink RL 143 yX9_plain ∈ yU := yu_tables_1_7 39 (by decide +kernel) (by decide +kernel)
theorem u_1536 : Cond.instanceMethod yX9_plain ∈ yU := yu_tables_1_7 40 (by decide +kernel) (by decide +kernel)
theorem u_1537 : Cond.selects RX9 yX9_plain yX9_plain ∈ yU := yu_tables_1_7 41 (by decide +kernel) (by decide +kernel)
theorem u_899 : Cond.methodLink RL 144 yL_row ∈ yU := yu_tables_1_4 123 (by decide +kernel) (by decide +kernel)
theorem u_900 : Cond.static yL_row ∈ yU := yu_tables_1_4 124 (by decide +kernel) (by decide +kernel)
theorem u_1547 : Cond.methodLink RL 146 yX9_row ∈ yU := yu_tables_1_7 51 (by decide +kernel) (by decide +kernel)
theorem u_1548 : Cond.instanceMethod yX9_row ∈ yU := yu_tables_1_7 52 (by decide +kernel) (by decide +kernel)
theorem u_1549 : Cond.selects RX9 yX9_row yX9_row ∈ yU := yu_tables_1_7 53 (by decide +kernel) (by decide +kernel)
theorem u_1290 : Cond.methodLink RL 147 yX9_thrown ∈ yU := yu_tables_1_6 34 (by decide +kernel) (by decide +kernel)
theorem u_1291 : Cond.instanceMethod yX9_thrown ∈ yU := yu_tables_1_6 35 (by decide +kernel) (by decide +kernel)
theorem u_1292 : Cond.selects RX9 yX9_thrown yX9_thrown ∈ yU := yu_tables_1_6 36 (by decide +kernel) (by decide +kernel)
theorem u_1597 : Cond.methodLink RL 150 yJ0_equals_9ea2d ∈ yU := yu_tables_1_7 101 (by decide +kernel) (by decide +kernel)
theorem u_1598 : Cond.instanceMethod yJ0_equals_9ea2d ∈ yU := yu_tables_1_7 102 (by decide +kernel) (by decide +kernel)
theorem u_1599 : Cond.selects RJ0 yJ0_equals_9ea2d yJ0_equals_9ea2d ∈ yU := yu_tables_1_7 103 (by decide +kernel) (by decide +kernel)
theorem u_1172 : Cond.methodLink RL 156 yL_beats ∈ yU := yu_tables_1_5 156 (by decide +kernel) (by decide +kernel)
theorem u_1173 : Cond.static yL_beats ∈ yU := yu_tables_1_5 157 (by decide +kernel) (by decide +kernel)
theorem u_1556 : Cond.methodLink RL 158 yX9_beats ∈ yU := yu_tables_1_7 60 (by decide +kernel) (by decide +kernel)
theorem u_1557 : Cond.instanceMethod yX9_beats ∈ yU := yu_tables_1_7 61 (by decide +kernel) (by decide +kernel)
theorem u_1558 : Cond.selects RX9 yX9_beats yX9_beats ∈ yU := yu_tables_1_7 62 (by decide +kernel) (by decide +kernel)
theorem u_1180 : Cond.methodLink RL 159 yL_best ∈ yU := yu_tables_1_5 164 (by decide +kernel) (by decide +kernel)
theorem u_1181 : Cond.static yL_best ∈ yU := yu_tables_1_5 165 (by decide +kernel) (by decide +kernel)
theorem u_1560 : Cond.methodLink RL 161 yX9_best ∈ yU := yu_tables_1_7 64 (by decide +kernel) (by decide +kernel)
theorem u_1561 : Cond.instanceMethod yX9_best ∈ yU := yu_tables_1_7 65 (by decide +kernel) (by decide +kernel)
theorem u_1562 : Cond.selects RX9 yX9_best yX9_best ∈ yU := yu_tables_1_7 66 (by decide +kernel) (by decide +kernel)
theorem u_308 : Cond.methodLink RL 162 yX6_saved ∈ yU := yu_tables_1_2 12 (by decide +kernel) (by decide +kernel)
theorem u_309 : Cond.instanceMethod yX6_saved ∈ yU := yu_tables_1_2 13 (by decide +kernel) (by decide +kernel)
theorem u_310 : Cond.selects RX6 yX6_saved yX6_saved ∈ yU := yu_tables_1_2 14 (by decide +kernel) (by decide +kernel)
theorem u_1568 : Cond.methodLink RL 165 yX9_saved ∈ yU := yu_tables_1_7 72 (by decide +kernel) (by decide +kernel)
theorem u_1569 : Cond.instanceMethod yX9_saved ∈ yU := yu_tables_1_7 73 (by decide +kernel) (by decide +kernel)
theorem u_1570 : Cond.selects RX9 yX9_saved yX9_saved ∈ yU := yu_tables_1_7 74 (by decide +kernel) (by decide +kernel)
theorem u_391 : Cond.methodLink RL 166 yX6_isSound ∈ yU := yu_tables_1_2 95 (by decide +kernel) (by decide +kernel)
theorem u_392 : Cond.instanceMethod yX6_isSound ∈ yU := yu_tables_1_2 96 (by decide +kernel) (by decide +kernel)
theorem u_393 : Cond.selects RX6 yX6_isSound yX6_isSound ∈ yU := yu_tables_1_2 97 (by decide +kernel) (by decide +kernel)
theorem u_1576 : Cond.methodLink RL 170 yX9_isSound ∈ yU := yu_tables_1_7 80 (by decide +kernel) (by decide +kernel)
theorem u_1577 : Cond.instanceMethod yX9_isSound ∈ yU := yu_tables_1_7 81 (by decide +kernel) (by decide +kernel)
theorem u_1578 : Cond.selects RX9 yX9_isSound yX9_isSound ∈ yU := yu_tables_1_7 82 (by decide +kernel) (by decide +kernel)
theorem u_456 : Cond.methodLink RL 171 yX6_digest ∈ yU := yu_tables_1_2 160 (by decide +kernel) (by decide +kernel)
theorem u_457 : Cond.instanceMethod yX6_digest ∈ yU := yu_tables_1_2 161 (by decide +kernel) (by decide +kernel)
theorem u_458 : Cond.selects RX6 yX6_digest yX6_digest ∈ yU := yu_tables_1_2 162 (by decide +kernel) (by decide +kernel)
theorem u_1588 : Cond.methodLink RL 175 yX9_digest ∈ yU := yu_tables_1_7 92 (by decide +kernel) (by decide +kernel)
theorem u_1589 : Cond.instanceMethod yX9_digest ∈ yU := yu_tables_1_7 93 (by decide +kernel) (by decide +kernel)
theorem u_1590 : Cond.selects RX9 yX9_digest yX9_digest ∈ yU := yu_tables_1_7 94 (by decide +kernel) (by decide +kernel)
theorem dL_law_43 : decode cL_law 43 = .ok (.tableswitch 846 0 20 #[97, 149, 201, 253, 281, 325, 393, 409, 425, 453, 505, 521, 549, 601, 641, 681, 739, 779, 807, 820, 833], 97) := by decide +kernel
theorem dd_L_law_0 : dk_R cL_law [(0, .new 8, 3), (3, .dup, 1), (4, .invokespecial 86, 3), (7, .astore_n 1, 1), (8, .new 87, 3), (11, .dup, 1), (12, .invokespecial 89, 3), (15, .astore_n 2, 1), (16, .new 14, 3), (19, .dup, 1), (20, .invokespecial 90, 3), (23, .astore_n 3, 1), (24, .iconst 0, 1), (25, .istore 4, 2), (27, .iload 4, 2), (29, .aload_n 0, 1)] := dk_use _ _ (by decide +kernel)
theorem dd_L_law_1 : dk_R cL_law [(30, .arraylength, 1), (31, .iconst 4, 1), (32, .isub, 1), (33, .if_icmp .gt 862, 3), (36, .aload_n 0, 1), (37, .iload 4, 2), (39, .iaload, 1), (40, .bipush 31, 2), (42, .iand, 1), (140, .aload_n 1, 1), (141, .aload_n 0, 1), (142, .iload 4, 2), (144, .iconst 1, 1), (145, .iadd, 1), (146, .iaload, 1), (147, .aload_n 0, 1)] := dk_use _ _ (by decide +kernel)
theorem dd_L_law_2 : dk_R cL_law [(148, .iload 4, 2), (150, .iconst 2, 1), (151, .iadd, 1), (152, .iaload, 1), (153, .aload_n 0, 1), (154, .iload 4, 2), (156, .iconst 3, 1), (157, .iadd, 1), (158, .iaload, 1), (159, .aload_n 3, 1), (160, .invokestatic 91, 3), (163, .istore 5, 2), (165, .aload_n 2, 1), (166, .aload_n 0, 1), (167, .iload 4, 2), (169, .iconst 1, 1)] := dk_use _ _ (by decide +kernel)
theorem dd_L_law_3 : dk_R cL_law [(170, .iadd, 1), (171, .iaload, 1), (172, .aload_n 0, 1), (173, .iload 4, 2), (175, .iconst 2, 1), (176, .iadd, 1), (177, .iaload, 1), (178, .aload_n 0, 1), (179, .iload 4, 2), (181, .iconst 3, 1), (182, .iadd, 1), (183, .iaload, 1), (184, .invokevirtual 96, 3), (187, .istore 6, 2), (189, .goto 700, 3), (192, .aload_n 1, 1)] := dk_use _ _ (by decide +kernel)
theorem dd_L_law_4 : dk_R cL_law [(193, .aload_n 0, 1), (194, .iload 4, 2), (196, .iconst 1, 1), (197, .iadd, 1), (198, .iaload, 1), (199, .aload_n 0, 1), (200, .iload 4, 2), (202, .iconst 2, 1), (203, .iadd, 1), (204, .iaload, 1), (205, .aload_n 0, 1), (206, .iload 4, 2), (208, .iconst 3, 1), (209, .iadd, 1), (210, .iaload, 1), (211, .aload_n 3, 1)] := dk_use _ _ (by decide +kernel)
theorem dd_L_law_5 : dk_R cL_law [(212, .invokestatic 97, 3), (215, .istore 5, 2), (217, .aload_n 2, 1), (218, .aload_n 0, 1), (219, .iload 4, 2), (221, .iconst 1, 1), (222, .iadd, 1), (223, .iaload, 1), (224, .aload_n 0, 1), (225, .iload 4, 2), (227, .iconst 2, 1), (228, .iadd, 1), (229, .iaload, 1), (230, .aload_n 0, 1), (231, .iload 4, 2), (233, .iconst 3, 1)] := dk_use _ _ (by decide +kernel)
theorem dd_L_law_6 : dk_R cL_law [(234, .iadd, 1), (235, .iaload, 1), (236, .invokevirtual 99, 3), (239, .istore 6, 2), (241, .goto 648, 3), (244, .aload_n 1, 1), (245, .aload_n 0, 1), (246, .iload 4, 2), (248, .iconst 1, 1), (249, .iadd, 1), (250, .iaload, 1), (251, .aload_n 0, 1), (252, .iload 4, 2), (254, .iconst 2, 1), (255, .iadd, 1), (256, .iaload, 1)] := dk_use _ _ (by decide +kernel)
theorem dd_L_law_7 : dk_R cL_law [(257, .aload_n 0, 1), (258, .iload 4, 2), (260, .iconst 3, 1), (261, .iadd, 1), (262, .iaload, 1), (263, .aload_n 3, 1), (264, .invokestatic 100, 3), (267, .istore 5, 2), (269, .aload_n 2, 1), (270, .aload_n 0, 1), (271, .iload 4, 2), (273, .iconst 1, 1), (274, .iadd, 1), (275, .iaload, 1), (276, .aload_n 0, 1), (277, .iload 4, 2)] := dk_use _ _ (by decide +kernel)
theorem dd_L_law_8 : dk_R cL_law [(279, .iconst 2, 1), (280, .iadd, 1), (281, .iaload, 1), (282, .aload_n 0, 1), (283, .iload 4, 2), (285, .iconst 3, 1), (286, .iadd, 1), (287, .iaload, 1), (288, .invokevirtual 102, 3), (291, .istore 6, 2), (293, .goto 596, 3), (296, .aload_n 1, 1), (297, .aload_n 0, 1), (298, .iload 4, 2), (300, .iconst 1, 1), (301, .iadd, 1)] := dk_use _ _ (by decide +kernel)
theorem dd_L_law_9 : dk_R cL_law [(302, .iaload, 1), (303, .aload_n 3, 1), (304, .invokestatic 103, 3), (307, .istore 5, 2), (309, .aload_n 2, 1), (310, .aload_n 0, 1), (311, .iload 4, 2), (313, .iconst 1, 1), (314, .iadd, 1), (315, .iaload, 1), (316, .invokevirtual 106, 3), (319, .istore 6, 2), (321, .goto 568, 3), (324, .aload_n 1, 1), (325, .aload_n 0, 1), (326, .iload 4, 2)] := dk_use _ _ (by decide +kernel)
theorem dd_L_law_10 : dk_R cL_law [(328, .iconst 1, 1), (329, .iadd, 1), (330, .iaload, 1), (331, .ifCond .eq 7, 3), (334, .iconst 1, 1), (335, .goto 4, 3), (338, .iconst 0, 1), (339, .aload_n 3, 1), (340, .invokestatic 107, 3), (343, .istore 5, 2), (345, .aload_n 2, 1), (346, .aload_n 0, 1), (347, .iload 4, 2), (349, .iconst 1, 1), (350, .iadd, 1), (351, .iaload, 1)] := dk_use _ _ (by decide +kernel)
theorem dd_L_law_11 : dk_R cL_law [(352, .ifCond .eq 7, 3), (355, .iconst 1, 1), (356, .goto 4, 3), (359, .iconst 0, 1), (360, .invokevirtual 110, 3), (363, .istore 6, 2), (365, .goto 524, 3), (368, .aload_n 1, 1), (369, .aload_n 0, 1), (370, .iload 4, 2), (372, .iconst 1, 1), (373, .iadd, 1), (374, .iaload, 1), (375, .aload_n 0, 1), (376, .iload 4, 2), (378, .iconst 2, 1)] := dk_use _ _ (by decide +kernel)
theorem dd_L_law_12 : dk_R cL_law [(379, .iadd, 1), (380, .iaload, 1), (381, .aload_n 0, 1), (382, .iload 4, 2), (384, .iconst 3, 1), (385, .iadd, 1), (386, .iaload, 1), (387, .ifCond .eq 7, 3), (390, .iconst 1, 1), (391, .goto 4, 3), (394, .iconst 0, 1), (395, .aload_n 3, 1), (396, .invokestatic 111, 3), (399, .istore 5, 2), (401, .aload_n 2, 1), (402, .aload_n 0, 1)] := dk_use _ _ (by decide +kernel)
theorem dd_L_law_13 : dk_R cL_law [(403, .iload 4, 2), (405, .iconst 1, 1), (406, .iadd, 1), (407, .iaload, 1), (408, .aload_n 0, 1), (409, .iload 4, 2), (411, .iconst 2, 1), (412, .iadd, 1), (413, .iaload, 1), (414, .aload_n 0, 1), (415, .iload 4, 2), (417, .iconst 3, 1), (418, .iadd, 1), (419, .iaload, 1), (420, .ifCond .eq 7, 3), (423, .iconst 1, 1)] := dk_use _ _ (by decide +kernel)
theorem dd_L_law_14 : dk_R cL_law [(424, .goto 4, 3), (427, .iconst 0, 1), (428, .invokevirtual 114, 3), (431, .istore 6, 2), (433, .goto 456, 3), (436, .aload_n 1, 1), (437, .aload_n 3, 1), (438, .invokestatic 115, 3), (441, .istore 5, 2), (443, .aload_n 2, 1), (444, .invokevirtual 118, 3), (447, .istore 6, 2), (449, .goto 440, 3), (452, .aload_n 1, 1), (453, .aload_n 3, 1), (454, .invokestatic 119, 3)] := dk_use _ _ (by decide +kernel)
theorem dd_L_law_15 : dk_R cL_law [(457, .istore 5, 2), (459, .aload_n 2, 1), (460, .invokevirtual 121, 3), (463, .istore 6, 2), (465, .goto 424, 3), (468, .aload_n 1, 1), (469, .aload_n 0, 1), (470, .iload 4, 2), (472, .iconst 1, 1), (473, .iadd, 1), (474, .iaload, 1), (475, .aload_n 3, 1), (476, .invokestatic 122, 3), (479, .istore 5, 2), (481, .aload_n 2, 1), (482, .aload_n 0, 1)] := dk_use _ _ (by decide +kernel)
theorem dd_L_law_16 : dk_R cL_law [(483, .iload 4, 2), (485, .iconst 1, 1), (486, .iadd, 1), (487, .iaload, 1), (488, .invokevirtual 124, 3), (491, .istore 6, 2), (493, .goto 396, 3), (496, .aload_n 1, 1), (497, .aload_n 0, 1), (498, .iload 4, 2), (500, .iconst 1, 1), (501, .iadd, 1), (502, .iaload, 1), (503, .aload_n 0, 1), (504, .iload 4, 2), (506, .iconst 2, 1)] := dk_use _ _ (by decide +kernel)
theorem dd_L_law_17 : dk_R cL_law [(507, .iadd, 1), (508, .iaload, 1), (509, .aload_n 0, 1), (510, .iload 4, 2), (512, .iconst 3, 1), (513, .iadd, 1), (514, .iaload, 1), (515, .aload_n 3, 1), (516, .invokestatic 125, 3), (519, .istore 5, 2), (521, .aload_n 2, 1), (522, .aload_n 0, 1), (523, .iload 4, 2), (525, .iconst 1, 1), (526, .iadd, 1), (527, .iaload, 1)] := dk_use _ _ (by decide +kernel)
theorem dd_L_law_18 : dk_R cL_law [(528, .aload_n 0, 1), (529, .iload 4, 2), (531, .iconst 2, 1), (532, .iadd, 1), (533, .iaload, 1), (534, .aload_n 0, 1), (535, .iload 4, 2), (537, .iconst 3, 1), (538, .iadd, 1), (539, .iaload, 1), (540, .invokevirtual 127, 3), (543, .istore 6, 2), (545, .goto 344, 3), (548, .aload_n 1, 1), (549, .aload_n 3, 1), (550, .invokestatic 128, 3)] := dk_use _ _ (by decide +kernel)
theorem dd_L_law_19 : dk_R cL_law [(553, .istore 5, 2), (555, .aload_n 2, 1), (556, .invokevirtual 130, 3), (559, .istore 6, 2), (561, .goto 328, 3), (564, .aload_n 1, 1), (565, .aload_n 0, 1), (566, .iload 4, 2), (568, .iconst 1, 1), (569, .iadd, 1), (570, .iaload, 1), (571, .aload_n 3, 1), (572, .invokestatic 131, 3), (575, .istore 5, 2), (577, .aload_n 2, 1), (578, .aload_n 0, 1)] := dk_use _ _ (by decide +kernel)
theorem dd_L_law_20 : dk_R cL_law [(579, .iload 4, 2), (581, .iconst 1, 1), (582, .iadd, 1), (583, .iaload, 1), (584, .invokevirtual 133, 3), (587, .istore 6, 2), (589, .goto 300, 3), (592, .aload_n 1, 1), (593, .aload_n 0, 1), (594, .iload 4, 2), (596, .iconst 1, 1), (597, .iadd, 1), (598, .iaload, 1), (599, .aload_n 0, 1), (600, .iload 4, 2), (602, .iconst 2, 1)] := dk_use _ _ (by decide +kernel)
theorem dd_L_law_21 : dk_R cL_law [(603, .iadd, 1), (604, .iaload, 1), (605, .aload_n 0, 1), (606, .iload 4, 2), (608, .iconst 3, 1), (609, .iadd, 1), (610, .iaload, 1), (611, .aload_n 3, 1), (612, .invokestatic 134, 3), (615, .istore 5, 2), (617, .aload_n 2, 1), (618, .aload_n 0, 1), (619, .iload 4, 2), (621, .iconst 1, 1), (622, .iadd, 1), (623, .iaload, 1)] := dk_use _ _ (by decide +kernel)
theorem dd_L_law_22 : dk_R cL_law [(624, .aload_n 0, 1), (625, .iload 4, 2), (627, .iconst 2, 1), (628, .iadd, 1), (629, .iaload, 1), (630, .aload_n 0, 1), (631, .iload 4, 2), (633, .iconst 3, 1), (634, .iadd, 1), (635, .iaload, 1), (636, .invokevirtual 136, 3), (639, .istore 6, 2), (641, .goto 248, 3), (644, .aload_n 1, 1), (645, .aload_n 0, 1), (646, .iload 4, 2)] := dk_use _ _ (by decide +kernel)
theorem dd_L_law_23 : dk_R cL_law [(648, .iconst 1, 1), (649, .iadd, 1), (650, .iaload, 1), (651, .aload_n 0, 1), (652, .iload 4, 2), (654, .iconst 2, 1), (655, .iadd, 1), (656, .iaload, 1), (657, .aload_n 3, 1), (658, .invokestatic 137, 3), (661, .istore 5, 2), (663, .aload_n 2, 1), (664, .aload_n 0, 1), (665, .iload 4, 2), (667, .iconst 1, 1), (668, .iadd, 1)] := dk_use _ _ (by decide +kernel)
theorem dd_L_law_24 : dk_R cL_law [(669, .iaload, 1), (670, .aload_n 0, 1), (671, .iload 4, 2), (673, .iconst 2, 1), (674, .iadd, 1), (675, .iaload, 1), (676, .invokevirtual 140, 3), (679, .istore 6, 2), (681, .goto 208, 3), (684, .aload_n 1, 1), (685, .aload_n 0, 1), (686, .iload 4, 2), (688, .iconst 1, 1), (689, .iadd, 1), (690, .iaload, 1), (691, .aload_n 0, 1)] := dk_use _ _ (by decide +kernel)
theorem dd_L_law_25 : dk_R cL_law [(692, .iload 4, 2), (694, .iconst 2, 1), (695, .iadd, 1), (696, .iaload, 1), (697, .aload_n 3, 1), (698, .invokestatic 141, 3), (701, .istore 5, 2), (703, .aload_n 2, 1), (704, .aload_n 0, 1), (705, .iload 4, 2), (707, .iconst 1, 1), (708, .iadd, 1), (709, .iaload, 1), (710, .aload_n 0, 1), (711, .iload 4, 2), (713, .iconst 2, 1)] := dk_use _ _ (by decide +kernel)
theorem dd_L_law_26 : dk_R cL_law [(714, .iadd, 1), (715, .iaload, 1), (716, .invokevirtual 143, 3), (719, .istore 6, 2), (721, .goto 168, 3), (724, .aload_n 1, 1), (725, .aload_n 0, 1), (726, .iload 4, 2), (728, .iconst 1, 1), (729, .iadd, 1), (730, .iaload, 1), (731, .aload_n 3, 1), (732, .invokestatic 144, 3), (735, .istore 5, 2), (737, .aload_n 2, 1), (738, .aload_n 0, 1)] := dk_use _ _ (by decide +kernel)
theorem dd_L_law_27 : dk_R cL_law [(739, .iload 4, 2), (741, .iconst 1, 1), (742, .iadd, 1), (743, .iaload, 1), (744, .invokevirtual 146, 3), (747, .astore 6, 2), (749, .aload_n 2, 1), (750, .invokevirtual 147, 3), (753, .iload 5, 2), (755, .if_icmp .eq 5, 3), (758, .iconst 0, 1), (759, .ireturn, 1), (760, .iload 5, 2), (762, .ifCond .ne 17, 3), (765, .aload_n 3, 1), (766, .getfield 76, 3)] := dk_use _ _ (by decide +kernel)
theorem dd_L_law_28 : dk_R cL_law [(769, .aload 6, 2), (771, .invokevirtual 150, 3), (774, .ifCond .ne 5, 3), (777, .iconst 0, 1), (778, .ireturn, 1), (779, .goto 110, 3), (782, .aload_n 1, 1), (783, .aload_n 0, 1), (784, .iload 4, 2), (786, .iconst 1, 1), (787, .iadd, 1), (788, .iaload, 1), (789, .aload_n 0, 1), (790, .iload 4, 2), (792, .iconst 2, 1), (793, .iadd, 1)] := dk_use _ _ (by decide +kernel)
theorem dd_L_law_29 : dk_R cL_law [(794, .iaload, 1), (795, .aload_n 3, 1), (796, .invokestatic 156, 3), (799, .istore 5, 2), (801, .aload_n 2, 1), (802, .aload_n 0, 1), (803, .iload 4, 2), (805, .iconst 1, 1), (806, .iadd, 1), (807, .iaload, 1), (808, .aload_n 0, 1), (809, .iload 4, 2), (811, .iconst 2, 1), (812, .iadd, 1), (813, .iaload, 1), (814, .invokevirtual 158, 3)] := dk_use _ _ (by decide +kernel)
theorem dd_L_law_30 : dk_R cL_law [(817, .istore 6, 2), (819, .goto 70, 3), (822, .aload_n 1, 1), (823, .aload_n 0, 1), (824, .iload 4, 2), (826, .iconst 1, 1), (827, .iadd, 1), (828, .iaload, 1), (829, .aload_n 3, 1), (830, .invokestatic 159, 3), (833, .istore 5, 2), (835, .aload_n 2, 1), (836, .aload_n 0, 1), (837, .iload 4, 2), (839, .iconst 1, 1), (840, .iadd, 1)] := dk_use _ _ (by decide +kernel)
theorem dd_L_law_31 : dk_R cL_law [(841, .iaload, 1), (842, .invokevirtual 161, 3), (845, .istore 6, 2), (847, .goto 42, 3), (850, .aload_n 1, 1), (851, .invokevirtual 162, 3), (854, .pop, 1), (855, .aload_n 2, 1), (856, .invokevirtual 165, 3), (859, .pop, 1), (860, .goto 29, 3), (863, .aload_n 1, 1), (864, .invokevirtual 166, 3), (867, .pop, 1), (868, .aload_n 2, 1), (869, .invokevirtual 170, 3)] := dk_use _ _ (by decide +kernel)
theorem dd_L_law_32 : dk_R cL_law [(872, .pop, 1), (873, .goto 16, 3), (876, .aload_n 1, 1), (877, .invokevirtual 171, 3), (880, .pop2, 1), (881, .aload_n 2, 1), (882, .invokevirtual 175, 3), (885, .pop2, 1), (886, .goto 3, 3), (889, .iinc 4 4, 3), (892, .goto (-865), 3), (895, .iconst 1, 1), (896, .ireturn, 1)] := dk_use _ _ (by decide +kernel)
def fL_law (nL : Nat) (xs : Nat → Int32) : Option (Int32) := ((fX6_init).bind fun x_2 => ((fX9_init).bind fun _ => ((fX7_init).bind fun x_54 => ((wl (S := Int32 × Nat × (Nat → Int32) × Int64 × (Nat → Nat) × (Nat → Nat → Nat → Int32) × (Nat → Int32) × (Nat → Nat → Int32) × Int64 × Nat × Nat) (B := (Int32 × Nat × (Nat → Int32) × Int64 × (Nat → Nat) × (Nat → Nat → Nat → Int32) × (Nat → Int32) × (Nat → Nat → Int32) × Int64 × Nat × Nat) ⊕ Int32) (fun s_58 => (if s_58.2.2.2.2.2.2.2.2.2.1 ≤ 1005400 ∧ s_58.2.2.2.2.2.2.2.2.2.2 ≤ 6079904 then (if ((nI nL) - 4) < s_58.1 then some (.inr (.inl (s_58.1, s_58.2.1, s_58.2.2.1, s_58.2.2.2.1, s_58.2.2.2.2.1, s_58.2.2.2.2.2.1, s_58.2.2.2.2.2.2.1, s_58.2.2.2.2.2.2.2.1, s_58.2.2.2.2.2.2.2.2.1, s_58.2.2.2.2.2.2.2.2.2.1, s_58.2.2.2.2.2.2.2.2.2.2))) else (if ¬ (s_58.1 < 0 ∨ nL ≤ s_58.1.toNatClampNeg) then (if ((xs s_58.1.toNatClampNeg) &&& 31) = 0 then (if ¬ ((s_58.1 + 1) < 0 ∨ nL ≤ (s_58.1 + 1).toNatClampNeg) then (if ¬ ((s_58.1 + 2) < 0 ∨ nL ≤ (s_58.1 + 2).toNatClampNeg) then (if ¬ ((s_58.1 + 3) < 0 ∨ nL ≤ (s_58.1 + 3).toNatClampNeg) then ((gL_shape s_58.2.2.2.2.2.2.1 s_58.2.2.2.2.2.2.2.1 s_58.2.2.2.2.2.2.2.2.1 (xs (s_58.1 + 1).toNatClampNeg) (xs (s_58.1 + 2).toNatClampNeg) (xs (s_58.1 + 3).toNatClampNeg)).bind fun x_68 => (if s_58.2.2.2.2.2.2.2.2.2.1 + 1 ≤ 1005400 ∧ s_58.2.2.2.2.2.2.2.2.2.2 + 6 ≤ 6079904 then (if ¬ ((s_58.1 + 1) < 0 ∨ nL ≤ (s_58.1 + 1).toNatClampNeg) then (if ¬ ((s_58.1 + 2) < 0 ∨ nL ≤ (s_58.1 + 2).toNatClampNeg) then (if ¬ ((s_58.1 + 3) < 0 ∨ nL ≤ (s_58.1 + 3).toNatClampNeg) then ((gX9w_shape s_58.2.1 s_58.2.2.1 s_58.2.2.2.1 s_58.2.2.2.2.1 s_58.2.2.2.2.2.1 (xs (s_58.1 + 1).toNatClampNeg) (xs (s_58.1 + 2).toNatClampNeg) (xs (s_58.1 + 3).toNatClampNeg)).bind fun x_77 => (if s_58.2.2.2.2.2.2.2.2.2.1 + 1 + 20 ≤ 1005400 ∧ s_58.2.2.2.2.2.2.2.2.2.2 + 6 + 180 ≤ 6079904 then some (.inl (s_58.1 + 4, x_77.2.1, x_77.2.2.1, x_77.2.2.2.1, x_77.2.2.2.2.1, x_77.2.2.2.2.2, x_68.2.1, x_68.2.2.1, x_68.2.2.2, s_58.2.2.2.2.2.2.2.2.2.1 + 1 + 20, s_58.2.2.2.2.2.2.2.2.2.2 + 6 + 180)) else none)) else none) else none) else none) else none)) else none) else none) else none) else (if ((xs s_58.1.toNatClampNeg) &&& 31) = 1 then (if ¬ ((s_58.1 + 1) < 0 ∨ nL ≤ (s_58.1 + 1).toNatClampNeg) then (if ¬ ((s_58.1 + 2) < 0 ∨ nL ≤ (s_58.1 + 2).toNatClampNeg) then (if ¬ ((s_58.1 + 3) < 0 ∨ nL ≤ (s_58.1 + 3).toNatClampNeg) then ((gL_left s_58.2.2.2.2.2.2.1 s_58.2.2.2.2.2.2.2.1 s_58.2.2.2.2.2.2.2.2.1 (xs (s_58.1 + 1).toNatClampNeg) (xs (s_58.1 + 2).toNatClampNeg) (xs (s_58.1 + 3).toNatClampNeg)).bind fun x_88 => (if s_58.2.2.2.2.2.2.2.2.2.1 + 1 ≤ 1005400 ∧ s_58.2.2.2.2.2.2.2.2.2.2 + 6 ≤ 6079904 then (if ¬ ((s_58.1 + 1) < 0 ∨ nL ≤ (s_58.1 + 1).toNatClampNeg) then (if ¬ ((s_58.1 + 2) < 0 ∨ nL ≤ (s_58.1 + 2).toNatClampNeg) then (if ¬ ((s_58.1 + 3) < 0 ∨ nL ≤ (s_58.1 + 3).toNatClampNeg) then ((gX9w_left s_58.2.1 s_58.2.2.1 s_58.2.2.2.1 s_58.2.2.2.2.1 s_58.2.2.2.2.2.1 (xs (s_58.1 + 1).toNatClampNeg) (xs (s_58.1 + 2).toNatClampNeg) (xs (s_58.1 + 3).toNatClampNeg)).bind fun x_97 => some (.inl (s_58.1 + 4, x_97.2.1, x_97.2.2.1, x_97.2.2.2.1, x_97.2.2.2.2.1, x_97.2.2.2.2.2, x_88.2.1, x_88.2.2.1, x_88.2.2.2, s_58.2.2.2.2.2.2.2.2.2.1 + 1, s_58.2.2.2.2.2.2.2.2.2.2 + 6))) else none) else none) else none) else none)) else none) else none) else none) else (if ((xs s_58.1.toNatClampNeg) &&& 31) = 2 then (if ¬ ((s_58.1 + 1) < 0 ∨ nL ≤ (s_58.1 + 1).toNatClampNeg) then (if ¬ ((s_58.1 + 2) < 0 ∨ nL ≤ (s_58.1 + 2).toNatClampNeg) then (if ¬ ((s_58.1 + 3) < 0 ∨ nL ≤ (s_58.1 + 3).toNatClampNeg) then ((gL_top s_58.2.2.2.2.2.2.1 s_58.2.2.2.2.2.2.2.1 s_58.2.2.2.2.2.2.2.2.1 (xs (s_58.1 + 1).toNatClampNeg) (xs (s_58.1 + 2).toNatClampNeg) (xs (s_58.1 + 3).toNatClampNeg)).bind fun x_107 => (if s_58.2.2.2.2.2.2.2.2.2.1 + 1 ≤ 1005400 ∧ s_58.2.2.2.2.2.2.2.2.2.2 + 6 ≤ 6079904 then (if ¬ ((s_58.1 + 1) < 0 ∨ nL ≤ (s_58.1 + 1).toNatClampNeg) then (if ¬ ((s_58.1 + 2) < 0 ∨ nL ≤ (s_58.1 + 2).toNatClampNeg) then (if ¬ ((s_58.1 + 3) < 0 ∨ nL ≤ (s_58.1 + 3).toNatClampNeg) then ((gX9w_top s_58.2.1 s_58.2.2.1 s_58.2.2.2.1 s_58.2.2.2.2.1 s_58.2.2.2.2.2.1 (xs (s_58.1 + 1).toNatClampNeg) (xs (s_58.1 + 2).toNatClampNeg) (xs (s_58.1 + 3).toNatClampNeg)).bind fun x_116 => some (.inl (s_58.1 + 4, x_116.2.1, x_116.2.2.1, x_116.2.2.2.1, x_116.2.2.2.2.1, x_116.2.2.2.2.2, x_107.2.1, x_107.2.2.1, x_107.2.2.2, s_58.2.2.2.2.2.2.2.2.2.1 + 1, s_58.2.2.2.2.2.2.2.2.2.2 + 6))) else none) else none) else none) else none)) else none) else none) else none) else (if ((xs s_58.1.toNatClampNeg) &&& 31) = 3 then (if ¬ ((s_58.1 + 1) < 0 ∨ nL ≤ (s_58.1 + 1).toNatClampNeg) then ((gL_kind s_58.2.2.2.2.2.2.1 s_58.2.2.2.2.2.2.2.1 s_58.2.2.2.2.2.2.2.2.1 (xs (s_58.1 + 1).toNatClampNeg)).bind fun x_124 => (if s_58.2.2.2.2.2.2.2.2.2.1 + 1 ≤ 1005400 ∧ s_58.2.2.2.2.2.2.2.2.2.2 + 6 ≤ 6079904 then (if ¬ ((s_58.1 + 1) < 0 ∨ nL ≤ (s_58.1 + 1).toNatClampNeg) then ((gX9w_kind s_58.2.1 s_58.2.2.1 s_58.2.2.2.1 s_58.2.2.2.2.1 s_58.2.2.2.2.2.1 (xs (s_58.1 + 1).toNatClampNeg)).bind fun x_131 => some (.inl (s_58.1 + 4, x_131.2.1, x_131.2.2.1, x_131.2.2.2.1, x_131.2.2.2.2.1, x_131.2.2.2.2.2, x_124.2.1, x_124.2.2.1, x_124.2.2.2, s_58.2.2.2.2.2.2.2.2.2.1 + 1, s_58.2.2.2.2.2.2.2.2.2.2 + 6))) else none) else none)) else none) else (if ((xs s_58.1.toNatClampNeg) &&& 31) = 4 then (if ¬ ((s_58.1 + 1) < 0 ∨ nL ≤ (s_58.1 + 1).toNatClampNeg) then ((((if (xs (s_58.1 + 1).toNatClampNeg) = 0 then some 0 else some 1) : Option (Int32))).bind fun r_140 => ((gL_checked s_58.2.2.2.2.2.2.1 s_58.2.2.2.2.2.2.2.1 s_58.2.2.2.2.2.2.2.2.1 r_140).bind fun x_141 => (if s_58.2.2.2.2.2.2.2.2.2.1 + 1 ≤ 1005400 ∧ s_58.2.2.2.2.2.2.2.2.2.2 + 6 ≤ 6079904 then (if ¬ ((s_58.1 + 1) < 0 ∨ nL ≤ (s_58.1 + 1).toNatClampNeg) then ((((if (xs (s_58.1 + 1).toNatClampNeg) = 0 then some 0 else some 1) : Option (Int32))).bind fun r_149 => ((gX9w_checked s_58.2.1 s_58.2.2.1 s_58.2.2.2.1 s_58.2.2.2.2.1 s_58.2.2.2.2.2.1 r_149).bind fun x_150 => some (.inl (s_58.1 + 4, x_150.2.1, x_150.2.2.1, x_150.2.2.2.1, x_150.2.2.2.2.1, x_150.2.2.2.2.2, x_141.2.1, x_141.2.2.1, x_141.2.2.2, s_58.2.2.2.2.2.2.2.2.2.1 + 1, s_58.2.2.2.2.2.2.2.2.2.2 + 6)))) else none) else none))) else none) else (if ((xs s_58.1.toNatClampNeg) &&& 31) = 5 then (if ¬ ((s_58.1 + 1) < 0 ∨ nL ≤ (s_58.1 + 1).toNatClampNeg) then (if ¬ ((s_58.1 + 2) < 0 ∨ nL ≤ (s_58.1 + 2).toNatClampNeg) then (if ¬ ((s_58.1 + 3) < 0 ∨ nL ≤ (s_58.1 + 3).toNatClampNeg) then ((((if (xs (s_58.1 + 3).toNatClampNeg) = 0 then some 0 else some 1) : Option (Int32))).bind fun r_167 => ((gL_broken s_58.2.2.2.2.2.2.1 s_58.2.2.2.2.2.2.2.1 s_58.2.2.2.2.2.2.2.2.1 (xs (s_58.1 + 1).toNatClampNeg) (xs (s_58.1 + 2).toNatClampNeg) r_167).bind fun x_168 => (if s_58.2.2.2.2.2.2.2.2.2.1 + 1 ≤ 1005400 ∧ s_58.2.2.2.2.2.2.2.2.2.2 + 6 ≤ 6079904 then (if ¬ ((s_58.1 + 1) < 0 ∨ nL ≤ (s_58.1 + 1).toNatClampNeg) then (if ¬ ((s_58.1 + 2) < 0 ∨ nL ≤ (s_58.1 + 2).toNatClampNeg) then (if ¬ ((s_58.1 + 3) < 0 ∨ nL ≤ (s_58.1 + 3).toNatClampNeg) then ((((if (xs (s_58.1 + 3).toNatClampNeg) = 0 then some 0 else some 1) : Option (Int32))).bind fun r_178 => ((gX9w_broken s_58.2.1 s_58.2.2.1 s_58.2.2.2.1 s_58.2.2.2.2.1 s_58.2.2.2.2.2.1 (xs (s_58.1 + 1).toNatClampNeg) (xs (s_58.1 + 2).toNatClampNeg) r_178).bind fun x_179 => some (.inl (s_58.1 + 4, x_179.2.1, x_179.2.2.1, x_179.2.2.2.1, x_179.2.2.2.2.1, x_179.2.2.2.2.2, x_168.2.1, x_168.2.2.1, x_168.2.2.2, s_58.2.2.2.2.2.2.2.2.2.1 + 1, s_58.2.2.2.2.2.2.2.2.2.2 + 6)))) else none) else none) else none) else none))) else none) else none) else none) else (if ((xs s_58.1.toNatClampNeg) &&& 31) = 6 then ((gL_test s_58.2.2.2.2.2.2.1 s_58.2.2.2.2.2.2.2.1 s_58.2.2.2.2.2.2.2.2.1).bind fun x_192 => (if s_58.2.2.2.2.2.2.2.2.2.1 + 1 ≤ 1005400 ∧ s_58.2.2.2.2.2.2.2.2.2.2 + 6 ≤ 6079904 then ((gX9w_test s_58.2.1 s_58.2.2.1 s_58.2.2.2.1 s_58.2.2.2.2.1 s_58.2.2.2.2.2.1).bind fun x_198 => (if s_58.2.2.2.2.2.2.2.2.2.1 + 1 + 10 ≤ 1005400 ∧ s_58.2.2.2.2.2.2.2.2.2.2 + 6 + 50 ≤ 6079904 then some (.inl (s_58.1 + 4, x_198.2.1, x_198.2.2.1, x_198.2.2.2.1, x_198.2.2.2.2.1, x_198.2.2.2.2.2, x_192.2.1, x_192.2.2.1, x_192.2.2.2, s_58.2.2.2.2.2.2.2.2.2.1 + 1 + 10, s_58.2.2.2.2.2.2.2.2.2.2 + 6 + 50)) else none)) else none)) else (if ((xs s_58.1.toNatClampNeg) &&& 31) = 7 then ((gL_start s_58.2.2.2.2.2.2.1 s_58.2.2.2.2.2.2.2.1 s_58.2.2.2.2.2.2.2.2.1).bind fun x_206 => (if s_58.2.2.2.2.2.2.2.2.2.1 + 1 ≤ 1005400 ∧ s_58.2.2.2.2.2.2.2.2.2.2 + 6 ≤ 6079904 then ((gX9w_begin s_58.2.1 s_58.2.2.1 s_58.2.2.2.1 s_58.2.2.2.2.1 s_58.2.2.2.2.2.1).bind fun x_212 => (if s_58.2.2.2.2.2.2.2.2.2.1 + 1 + 100 ≤ 1005400 ∧ s_58.2.2.2.2.2.2.2.2.2.2 + 6 + 500 ≤ 6079904 then some (.inl (s_58.1 + 4, x_212.2.1, x_212.2.2.1, x_212.2.2.2.1, x_212.2.2.2.2.1, x_212.2.2.2.2.2, x_206.2.1, x_206.2.2.1, x_206.2.2.2, s_58.2.2.2.2.2.2.2.2.2.1 + 1 + 100, s_58.2.2.2.2.2.2.2.2.2.2 + 6 + 500)) else none)) else none)) else (if ((xs s_58.1.toNatClampNeg) &&& 31) = 8 then (if ¬ ((s_58.1 + 1) < 0 ∨ nL ≤ (s_58.1 + 1).toNatClampNeg) then ((gL_beat s_58.2.2.2.2.2.2.1 s_58.2.2.2.2.2.2.2.1 s_58.2.2.2.2.2.2.2.2.1 (xs (s_58.1 + 1).toNatClampNeg)).bind fun x_221 => (if s_58.2.2.2.2.2.2.2.2.2.1 + 1 ≤ 1005400 ∧ s_58.2.2.2.2.2.2.2.2.2.2 + 6 ≤ 6079904 then (if ¬ ((s_58.1 + 1) < 0 ∨ nL ≤ (s_58.1 + 1).toNatClampNeg) then ((gX9w_beat s_58.2.1 s_58.2.2.1 s_58.2.2.2.1 s_58.2.2.2.2.1 s_58.2.2.2.2.2.1 (xs (s_58.1 + 1).toNatClampNeg)).bind fun x_228 => (if s_58.2.2.2.2.2.2.2.2.2.1 + 1 + 200 ≤ 1005400 ∧ s_58.2.2.2.2.2.2.2.2.2.2 + 6 + 1800 ≤ 6079904 then some (.inl (s_58.1 + 4, x_228.2.1, x_228.2.2.1, x_228.2.2.2.1, x_228.2.2.2.2.1, x_228.2.2.2.2.2, x_221.2.1, x_221.2.2.1, x_221.2.2.2, s_58.2.2.2.2.2.2.2.2.2.1 + 1 + 200, s_58.2.2.2.2.2.2.2.2.2.2 + 6 + 1800)) else none)) else none) else none)) else none) else (if ((xs s_58.1.toNatClampNeg) &&& 31) = 9 then (if ¬ ((s_58.1 + 1) < 0 ∨ nL ≤ (s_58.1 + 1).toNatClampNeg) then (if ¬ ((s_58.1 + 2) < 0 ∨ nL ≤ (s_58.1 + 2).toNatClampNeg) then (if ¬ ((s_58.1 + 3) < 0 ∨ nL ≤ (s_58.1 + 3).toNatClampNeg) then ((gL_bend s_58.2.2.2.2.2.2.1 s_58.2.2.2.2.2.2.2.1 s_58.2.2.2.2.2.2.2.2.1 (xs (s_58.1 + 1).toNatClampNeg) (xs (s_58.1 + 2).toNatClampNeg) (xs (s_58.1 + 3).toNatClampNeg)).bind fun x_239 => (if s_58.2.2.2.2.2.2.2.2.2.1 + 1 ≤ 1005400 ∧ s_58.2.2.2.2.2.2.2.2.2.2 + 6 ≤ 6079904 then (if ¬ ((s_58.1 + 1) < 0 ∨ nL ≤ (s_58.1 + 1).toNatClampNeg) then (if ¬ ((s_58.1 + 2) < 0 ∨ nL ≤ (s_58.1 + 2).toNatClampNeg) then (if ¬ ((s_58.1 + 3) < 0 ∨ nL ≤ (s_58.1 + 3).toNatClampNeg) then ((gX9w_bend s_58.2.1 s_58.2.2.1 s_58.2.2.2.1 s_58.2.2.2.2.1 s_58.2.2.2.2.2.1 (xs (s_58.1 + 1).toNatClampNeg) (xs (s_58.1 + 2).toNatClampNeg) (xs (s_58.1 + 3).toNatClampNeg)).bind fun x_248 => some (.inl (s_58.1 + 4, x_248.2.1, x_248.2.2.1, x_248.2.2.2.1, x_248.2.2.2.2.1, x_248.2.2.2.2.2, x_239.2.1, x_239.2.2.1, x_239.2.2.2, s_58.2.2.2.2.2.2.2.2.2.1 + 1, s_58.2.2.2.2.2.2.2.2.2.2 + 6))) else none) else none) else none) else none)) else none) else none) else none) else (if ((xs s_58.1.toNatClampNeg) &&& 31) = 10 then ((gL_check s_58.2.2.2.2.2.2.1 s_58.2.2.2.2.2.2.2.1 s_58.2.2.2.2.2.2.2.2.1).bind fun x_255 => (if s_58.2.2.2.2.2.2.2.2.2.1 + 1 ≤ 1005400 ∧ s_58.2.2.2.2.2.2.2.2.2.2 + 6 ≤ 6079904 then ((gX9w_check s_58.2.1 s_58.2.2.1 s_58.2.2.2.1 s_58.2.2.2.2.1 s_58.2.2.2.2.2.1).bind fun x_261 => some (.inl (s_58.1 + 4, x_261.2.1, x_261.2.2.1, x_261.2.2.2.1, x_261.2.2.2.2.1, x_261.2.2.2.2.2, x_255.2.1, x_255.2.2.1, x_255.2.2.2, s_58.2.2.2.2.2.2.2.2.2.1 + 1, s_58.2.2.2.2.2.2.2.2.2.2 + 6))) else none)) else (if ((xs s_58.1.toNatClampNeg) &&& 31) = 11 then (if ¬ ((s_58.1 + 1) < 0 ∨ nL ≤ (s_58.1 + 1).toNatClampNeg) then ((gL_mesh s_58.2.2.2.2.2.2.1 s_58.2.2.2.2.2.2.2.1 s_58.2.2.2.2.2.2.2.2.1 (xs (s_58.1 + 1).toNatClampNeg)).bind fun x_269 => (if s_58.2.2.2.2.2.2.2.2.2.1 + 1 ≤ 1005400 ∧ s_58.2.2.2.2.2.2.2.2.2.2 + 6 ≤ 6079904 then (if ¬ ((s_58.1 + 1) < 0 ∨ nL ≤ (s_58.1 + 1).toNatClampNeg) then ((gX9w_mesh s_58.2.1 s_58.2.2.1 s_58.2.2.2.1 s_58.2.2.2.2.1 s_58.2.2.2.2.2.1 (xs (s_58.1 + 1).toNatClampNeg)).bind fun x_276 => some (.inl (s_58.1 + 4, x_276.2.1, x_276.2.2.1, x_276.2.2.2.1, x_276.2.2.2.2.1, x_276.2.2.2.2.2, x_269.2.1, x_269.2.2.1, x_269.2.2.2, s_58.2.2.2.2.2.2.2.2.2.1 + 1, s_58.2.2.2.2.2.2.2.2.2.2 + 6))) else none) else none)) else none) else (if ((xs s_58.1.toNatClampNeg) &&& 31) = 12 then (if ¬ ((s_58.1 + 1) < 0 ∨ nL ≤ (s_58.1 + 1).toNatClampNeg) then (if ¬ ((s_58.1 + 2) < 0 ∨ nL ≤ (s_58.1 + 2).toNatClampNeg) then (if ¬ ((s_58.1 + 3) < 0 ∨ nL ≤ (s_58.1 + 3).toNatClampNeg) then ((gL_ofCell s_58.2.2.2.2.2.2.1 s_58.2.2.2.2.2.2.2.1 s_58.2.2.2.2.2.2.2.2.1 (xs (s_58.1 + 1).toNatClampNeg) (xs (s_58.1 + 2).toNatClampNeg) (xs (s_58.1 + 3).toNatClampNeg)).bind fun x_286 => (if s_58.2.2.2.2.2.2.2.2.2.1 + 1 ≤ 1005400 ∧ s_58.2.2.2.2.2.2.2.2.2.2 + 6 ≤ 6079904 then (if ¬ ((s_58.1 + 1) < 0 ∨ nL ≤ (s_58.1 + 1).toNatClampNeg) then (if ¬ ((s_58.1 + 2) < 0 ∨ nL ≤ (s_58.1 + 2).toNatClampNeg) then (if ¬ ((s_58.1 + 3) < 0 ∨ nL ≤ (s_58.1 + 3).toNatClampNeg) then ((gX9w_ofCell s_58.2.1 s_58.2.2.1 s_58.2.2.2.1 s_58.2.2.2.2.1 s_58.2.2.2.2.2.1 (xs (s_58.1 + 1).toNatClampNeg) (xs (s_58.1 + 2).toNatClampNeg) (xs (s_58.1 + 3).toNatClampNeg)).bind fun x_295 => some (.inl (s_58.1 + 4, x_295.2.1, x_295.2.2.1, x_295.2.2.2.1, x_295.2.2.2.2.1, x_295.2.2.2.2.2, x_286.2.1, x_286.2.2.1, x_286.2.2.2, s_58.2.2.2.2.2.2.2.2.2.1 + 1, s_58.2.2.2.2.2.2.2.2.2.2 + 6))) else none) else none) else none) else none)) else none) else none) else none) else (if ((xs s_58.1.toNatClampNeg) &&& 31) = 13 then (if ¬ ((s_58.1 + 1) < 0 ∨ nL ≤ (s_58.1 + 1).toNatClampNeg) then (if ¬ ((s_58.1 + 2) < 0 ∨ nL ≤ (s_58.1 + 2).toNatClampNeg) then ((gL_result s_58.2.2.2.2.2.2.1 s_58.2.2.2.2.2.2.2.1 s_58.2.2.2.2.2.2.2.2.1 (xs (s_58.1 + 1).toNatClampNeg) (xs (s_58.1 + 2).toNatClampNeg)).bind fun x_304 => (if s_58.2.2.2.2.2.2.2.2.2.1 + 1 ≤ 1005400 ∧ s_58.2.2.2.2.2.2.2.2.2.2 + 6 ≤ 6079904 then (if ¬ ((s_58.1 + 1) < 0 ∨ nL ≤ (s_58.1 + 1).toNatClampNeg) then (if ¬ ((s_58.1 + 2) < 0 ∨ nL ≤ (s_58.1 + 2).toNatClampNeg) then ((gX9w_result s_58.2.1 s_58.2.2.1 s_58.2.2.2.1 s_58.2.2.2.2.1 s_58.2.2.2.2.2.1 (xs (s_58.1 + 1).toNatClampNeg) (xs (s_58.1 + 2).toNatClampNeg)).bind fun x_312 => some (.inl (s_58.1 + 4, x_312.2.1, x_312.2.2.1, x_312.2.2.2.1, x_312.2.2.2.2.1, x_312.2.2.2.2.2, x_304.2.1, x_304.2.2.1, x_304.2.2.2, s_58.2.2.2.2.2.2.2.2.2.1 + 1, s_58.2.2.2.2.2.2.2.2.2.2 + 6))) else none) else none) else none)) else none) else none) else (if ((xs s_58.1.toNatClampNeg) &&& 31) = 14 then (if ¬ ((s_58.1 + 1) < 0 ∨ nL ≤ (s_58.1 + 1).toNatClampNeg) then (if ¬ ((s_58.1 + 2) < 0 ∨ nL ≤ (s_58.1 + 2).toNatClampNeg) then ((gL_plain s_58.2.2.2.2.2.2.1 s_58.2.2.2.2.2.2.2.1 s_58.2.2.2.2.2.2.2.2.1 (xs (s_58.1 + 1).toNatClampNeg) (xs (s_58.1 + 2).toNatClampNeg)).bind fun x_321 => (if s_58.2.2.2.2.2.2.2.2.2.1 + 1 ≤ 1005400 ∧ s_58.2.2.2.2.2.2.2.2.2.2 + 6 ≤ 6079904 then (if ¬ ((s_58.1 + 1) < 0 ∨ nL ≤ (s_58.1 + 1).toNatClampNeg) then (if ¬ ((s_58.1 + 2) < 0 ∨ nL ≤ (s_58.1 + 2).toNatClampNeg) then ((gX9w_plain s_58.2.1 s_58.2.2.1 s_58.2.2.2.1 s_58.2.2.2.2.1 s_58.2.2.2.2.2.1 (xs (s_58.1 + 1).toNatClampNeg) (xs (s_58.1 + 2).toNatClampNeg)).bind fun x_329 => some (.inl (s_58.1 + 4, x_329.2.1, x_329.2.2.1, x_329.2.2.2.1, x_329.2.2.2.2.1, x_329.2.2.2.2.2, x_321.2.1, x_321.2.2.1, x_321.2.2.2, s_58.2.2.2.2.2.2.2.2.2.1 + 1, s_58.2.2.2.2.2.2.2.2.2.2 + 6))) else none) else none) else none)) else none) else none) else (if ((xs s_58.1.toNatClampNeg) &&& 31) = 15 then (if ¬ ((s_58.1 + 1) < 0 ∨ nL ≤ (s_58.1 + 1).toNatClampNeg) then ((gL_row s_58.2.2.2.2.2.2.1 s_58.2.2.2.2.2.2.2.1 s_58.2.2.2.2.2.2.2.2.1 (xs (s_58.1 + 1).toNatClampNeg)).bind fun x_337 => (if s_58.2.2.2.2.2.2.2.2.2.1 + 4 ≤ 1005400 ∧ s_58.2.2.2.2.2.2.2.2.2.2 + 40 ≤ 6079904 then ybr x_337 (fun w_345 => (if ¬ ((s_58.1 + 1) < 0 ∨ nL ≤ (s_58.1 + 1).toNatClampNeg) then ((gX9w_row s_58.2.1 s_58.2.2.1 s_58.2.2.2.1 s_58.2.2.2.2.1 s_58.2.2.2.2.2.1 (xs (s_58.1 + 1).toNatClampNeg)).bind fun x_347 => (if s_58.2.2.2.2.2.2.2.2.2.1 + 4 + 4 ≤ 1005400 ∧ s_58.2.2.2.2.2.2.2.2.2.2 + 40 + 40 ≤ 6079904 then ybr x_347 (fun w_359 => ((gX9w_thrown w_359.1 w_359.2.1 w_359.2.2.1 w_359.2.2.2.1 w_359.2.2.2.2.1).bind fun x_360 => (if x_360.1 = w_345.1 then (if w_345.1 = 0 then ((fJ0_equals_9ea2d w_345.2.2.2.2.2 w_345.2.2.2.2.1 w_359.2.2.2.2.2.2 w_359.2.2.2.2.2.1).bind fun x_368 => (if x_368 = 0 then some (.inr (.inr 0)) else some (.inl (s_58.1 + 4, x_360.2.1, x_360.2.2.1, x_360.2.2.2.1, x_360.2.2.2.2.1, x_360.2.2.2.2.2, w_345.2.1, w_345.2.2.1, w_345.2.2.2.1, s_58.2.2.2.2.2.2.2.2.2.1 + 4 + 4, s_58.2.2.2.2.2.2.2.2.2.2 + 40 + 40)))) else some (.inl (s_58.1 + 4, x_360.2.1, x_360.2.2.1, x_360.2.2.2.1, x_360.2.2.2.2.1, x_360.2.2.2.2.2, w_345.2.1, w_345.2.2.1, w_345.2.2.2.1, s_58.2.2.2.2.2.2.2.2.2.1 + 4 + 4, s_58.2.2.2.2.2.2.2.2.2.2 + 40 + 40))) else some (.inr (.inr 0))))) (fun w_359 => ((gX9w_thrown w_359.1 w_359.2.1 w_359.2.2.1 w_359.2.2.2.1 w_359.2.2.2.2).bind fun x_375 => (if x_375.1 = w_345.1 then (if w_345.1 = 0 then none else some (.inl (s_58.1 + 4, x_375.2.1, x_375.2.2.1, x_375.2.2.2.1, x_375.2.2.2.2.1, x_375.2.2.2.2.2, w_345.2.1, w_345.2.2.1, w_345.2.2.2.1, s_58.2.2.2.2.2.2.2.2.2.1 + 4 + 4, s_58.2.2.2.2.2.2.2.2.2.2 + 40 + 40))) else some (.inr (.inr 0))))) else none)) else none)) (fun w_345 => (if ¬ ((s_58.1 + 1) < 0 ∨ nL ≤ (s_58.1 + 1).toNatClampNeg) then ((gX9w_row s_58.2.1 s_58.2.2.1 s_58.2.2.2.1 s_58.2.2.2.2.1 s_58.2.2.2.2.2.1 (xs (s_58.1 + 1).toNatClampNeg)).bind fun x_385 => (if s_58.2.2.2.2.2.2.2.2.2.1 + 4 + 4 ≤ 1005400 ∧ s_58.2.2.2.2.2.2.2.2.2.2 + 40 + 40 ≤ 6079904 then ybr x_385 (fun w_397 => ((gX9w_thrown w_397.1 w_397.2.1 w_397.2.2.1 w_397.2.2.2.1 w_397.2.2.2.2.1).bind fun x_398 => (if x_398.1 = w_345.1 then (if w_345.1 = 0 then none else some (.inl (s_58.1 + 4, x_398.2.1, x_398.2.2.1, x_398.2.2.2.1, x_398.2.2.2.2.1, x_398.2.2.2.2.2, w_345.2.1, w_345.2.2.1, w_345.2.2.2, s_58.2.2.2.2.2.2.2.2.2.1 + 4 + 4, s_58.2.2.2.2.2.2.2.2.2.2 + 40 + 40))) else some (.inr (.inr 0))))) (fun w_397 => ((gX9w_thrown w_397.1 w_397.2.1 w_397.2.2.1 w_397.2.2.2.1 w_397.2.2.2.2).bind fun x_407 => (if x_407.1 = w_345.1 then (if w_345.1 = 0 then none else some (.inl (s_58.1 + 4, x_407.2.1, x_407.2.2.1, x_407.2.2.2.1, x_407.2.2.2.2.1, x_407.2.2.2.2.2, w_345.2.1, w_345.2.2.1, w_345.2.2.2, s_58.2.2.2.2.2.2.2.2.2.1 + 4 + 4, s_58.2.2.2.2.2.2.2.2.2.2 + 40 + 40))) else some (.inr (.inr 0))))) else none)) else none)) else none)) else none) else (if ((xs s_58.1.toNatClampNeg) &&& 31) = 16 then (if ¬ ((s_58.1 + 1) < 0 ∨ nL ≤ (s_58.1 + 1).toNatClampNeg) then (if ¬ ((s_58.1 + 2) < 0 ∨ nL ≤ (s_58.1 + 2).toNatClampNeg) then ((gL_beats s_58.2.2.2.2.2.2.1 s_58.2.2.2.2.2.2.2.1 s_58.2.2.2.2.2.2.2.2.1 (xs (s_58.1 + 1).toNatClampNeg) (xs (s_58.1 + 2).toNatClampNeg)).bind fun x_419 => (if s_58.2.2.2.2.2.2.2.2.2.1 + 1 ≤ 1005400 ∧ s_58.2.2.2.2.2.2.2.2.2.2 + 6 ≤ 6079904 then (if ¬ ((s_58.1 + 1) < 0 ∨ nL ≤ (s_58.1 + 1).toNatClampNeg) then (if ¬ ((s_58.1 + 2) < 0 ∨ nL ≤ (s_58.1 + 2).toNatClampNeg) then ((gX9w_beats s_58.2.1 s_58.2.2.1 s_58.2.2.2.1 s_58.2.2.2.2.1 s_58.2.2.2.2.2.1 (xs (s_58.1 + 1).toNatClampNeg) (xs (s_58.1 + 2).toNatClampNeg)).bind fun x_427 => some (.inl (s_58.1 + 4, x_427.2.1, x_427.2.2.1, x_427.2.2.2.1, x_427.2.2.2.2.1, x_427.2.2.2.2.2, x_419.2.1, x_419.2.2.1, x_419.2.2.2, s_58.2.2.2.2.2.2.2.2.2.1 + 1, s_58.2.2.2.2.2.2.2.2.2.2 + 6))) else none) else none) else none)) else none) else none) else (if ((xs s_58.1.toNatClampNeg) &&& 31) = 17 then (if ¬ ((s_58.1 + 1) < 0 ∨ nL ≤ (s_58.1 + 1).toNatClampNeg) then ((gL_best s_58.2.2.2.2.2.2.1 s_58.2.2.2.2.2.2.2.1 s_58.2.2.2.2.2.2.2.2.1 (xs (s_58.1 + 1).toNatClampNeg)).bind fun x_435 => (if s_58.2.2.2.2.2.2.2.2.2.1 + 1 ≤ 1005400 ∧ s_58.2.2.2.2.2.2.2.2.2.2 + 6 ≤ 6079904 then (if ¬ ((s_58.1 + 1) < 0 ∨ nL ≤ (s_58.1 + 1).toNatClampNeg) then ((gX9w_best s_58.2.1 s_58.2.2.1 s_58.2.2.2.1 s_58.2.2.2.2.1 s_58.2.2.2.2.2.1 (xs (s_58.1 + 1).toNatClampNeg)).bind fun x_442 => (if s_58.2.2.2.2.2.2.2.2.2.1 + 1 + 30 ≤ 1005400 ∧ s_58.2.2.2.2.2.2.2.2.2.2 + 6 + 60 ≤ 6079904 then some (.inl (s_58.1 + 4, x_442.2.1, x_442.2.2.1, x_442.2.2.2.1, x_442.2.2.2.2.1, x_442.2.2.2.2.2, x_435.2.1, x_435.2.2.1, x_435.2.2.2, s_58.2.2.2.2.2.2.2.2.2.1 + 1 + 30, s_58.2.2.2.2.2.2.2.2.2.2 + 6 + 60)) else none)) else none) else none)) else none) else (if ((xs s_58.1.toNatClampNeg) &&& 31) = 18 then ((gX6_saved s_58.2.2.2.2.2.2.1 s_58.2.2.2.2.2.2.2.1).bind fun x_450 => ((gX9w_saved s_58.2.1 s_58.2.2.1 s_58.2.2.2.1 s_58.2.2.2.2.1 s_58.2.2.2.2.2.1).bind fun x_454 => (if s_58.2.2.2.2.2.2.2.2.2.1 + 60 ≤ 1005400 ∧ s_58.2.2.2.2.2.2.2.2.2.2 + 120 ≤ 6079904 then some (.inl (s_58.1 + 4, x_454.2.1, x_454.2.2.1, x_454.2.2.2.1, x_454.2.2.2.2.1, x_454.2.2.2.2.2, x_450.2.1, x_450.2.2, s_58.2.2.2.2.2.2.2.2.1, s_58.2.2.2.2.2.2.2.2.2.1 + 60, s_58.2.2.2.2.2.2.2.2.2.2 + 120)) else none))) else (if ((xs s_58.1.toNatClampNeg) &&& 31) = 19 then ((gX6_isSound s_58.2.2.2.2.2.2.1 s_58.2.2.2.2.2.2.2.1).bind fun x_462 => ((gX9w_isSound s_58.2.1 s_58.2.2.1 s_58.2.2.2.1 s_58.2.2.2.2.1 s_58.2.2.2.2.2.1).bind fun x_466 => (if s_58.2.2.2.2.2.2.2.2.2.1 + 30 ≤ 1005400 ∧ s_58.2.2.2.2.2.2.2.2.2.2 + 60 ≤ 6079904 then some (.inl (s_58.1 + 4, x_466.2.1, x_466.2.2.1, x_466.2.2.2.1, x_466.2.2.2.2.1, x_466.2.2.2.2.2, x_462.2.1, x_462.2.2, s_58.2.2.2.2.2.2.2.2.1, s_58.2.2.2.2.2.2.2.2.2.1 + 30, s_58.2.2.2.2.2.2.2.2.2.2 + 60)) else none))) else (if ((xs s_58.1.toNatClampNeg) &&& 31) = 20 then ((gX6_digest s_58.2.2.2.2.2.2.1 s_58.2.2.2.2.2.2.2.1).bind fun x_474 => ((gX9w_digest s_58.2.1 s_58.2.2.1 s_58.2.2.2.1 s_58.2.2.2.2.1 s_58.2.2.2.2.2.1).bind fun x_478 => (if s_58.2.2.2.2.2.2.2.2.2.1 + 300 ≤ 1005400 ∧ s_58.2.2.2.2.2.2.2.2.2.2 + 600 ≤ 6079904 then some (.inl (s_58.1 + 4, x_478.2.1, x_478.2.2.1, x_478.2.2.2.1, x_478.2.2.2.2.1, x_478.2.2.2.2.2, x_474.2.1, x_474.2.2, s_58.2.2.2.2.2.2.2.2.1, s_58.2.2.2.2.2.2.2.2.2.1 + 300, s_58.2.2.2.2.2.2.2.2.2.2 + 600)) else none))) else some (.inl (s_58.1 + 4, s_58.2.1, s_58.2.2.1, s_58.2.2.2.1, s_58.2.2.2.2.1, s_58.2.2.2.2.2.1, s_58.2.2.2.2.2.2.1, s_58.2.2.2.2.2.2.2.1, s_58.2.2.2.2.2.2.2.2.1, s_58.2.2.2.2.2.2.2.2.2.1, s_58.2.2.2.2.2.2.2.2.2.2))))))))))))))))))))))) else none)) else none)) yFuel (0, 0, MN0, ML0, MK0, MG0, CN0, CT0, 0, 0 + 1 + 22 + 1 + 47 + 1, 0 + 6 + 637 + 17 + 307 + 2)).bind fun b_58 => ybr b_58 (fun z_58 => (if z_58.2.2.2.2.2.2.2.2.2.1 ≤ 1005400 ∧ z_58.2.2.2.2.2.2.2.2.2.2 ≤ 6079904 then some 1 else none)) (fun r => some r)))))
set_option maxHeartbeats 4000000 in
set_option maxRecDepth 100000 in
theorem kL_law (l : Launch) (D : va_G) (cy : Nat → ClassId) (hl0 : l.stackTraces = false) (b nL : Nat) (xs : Nat → Int32) {res : Int32} (hR : fL_law nL xs = some res) {p : Program} {e : Env} {s : State} {m : MethodId} {args : Array Value} {below : List Frame} {meth : Method} {c : Code} {A : Nat → Prop} {H0 : Heap} {Q : State → Prop} (C : YC p s m args c cL_law RL D cy 7 A H0) (hX : va_X b nL xs s H0) (hbl : b < H0.size) (hbA : ¬ A b) (ret : ∀ {u : List va_W} {cells slots : Nat} {lv : List (Nat × Value)} {pc : Nat} (v : Int32), v = res → cells ≤ 1005400 → slots ≤ 6079904 → decode cL_law pc = .ok (.ireturn, 1) → X p l e room_1 s m args below meth c D A H0 7 Q u cells slots lv pc [.int v]) : X p l e room_1 s m args below meth c D A H0 7 Q [] 0 0 [(0, .ref b)] 0 [] := by
  unfold fL_law at hR
  refine xr_new (n := 3) (ci := 8) C tyX6 tyX6_ok in_X6 u_84 u_85 u_57 rfl [.null, .null, .null, .null, .null, .null] (by decide) (Nat.le_of_ble_eq_true rfl) (Nat.le_of_ble_eq_true rfl) dd_L_law_0.1 rfl (fun q_1 => ?_)
  refine xr_eq (bs' := [[(q_1, .inr (8, [.null, .null, .null, .null, .null, .null]))]]) rfl ?_
  refine xr_dup (n := 4) C dd_L_law_0.2.1 rfl rfl ?_
  obtain ⟨x_2, hx_2, hR⟩ := yf_b hR
  refine xr_callI (n := 7) (As := []) (rest := [.ref q_1]) C (kX6_init l D cy (x := q_1) hx_2) mX6_init u_86 u_87 rfl 1 [0] [] rfl (by decide +kernel) rfl rfl rfl rfl (Nat.le_of_ble_eq_true rfl) (Nat.le_of_ble_eq_true rfl) (Nat.le_of_ble_eq_true rfl) (Nat.le_of_ble_eq_true rfl) (Nat.le_of_ble_eq_true rfl) dd_L_law_0.2.2.1 rfl (fun v_3 u_4 hp_5 => ?_)
  obtain ⟨q_6, q_7, q_8, q_9, q_10, q_11, q_12, q_13, q_14, q_15, q_16, q_17, q_18, q_19, q_20, q_21, q_22, q_23, q_24, q_25, q_26, q_27, rfl, rfl⟩ := hp_5
  refine xr_perm C 23 [0, 1, 2, 3, 4, 5, 6, 7, 8, 9, 10, 11, 12, 13, 14, 15, 16, 17, 18, 19, 20, 21, 22] [] [[(q_1, .inr (8, [.ref q_6, .ref q_7, .ref q_8, .ref q_9, .ref q_10, .ref q_11]))], [(q_6, .inr (3, [.ref q_12, .ref q_13, .int 2, .int 2, .int 2, .int 0, .int 0]))], [(q_12, .inr (6, [.ref q_14]))], [(q_14, .inl (cy 1, 81, .inl (fun _ => 0)))], [(q_13, .inr (6, [.ref q_15]))], [(q_15, .inl (cy 1, 81, .inl (fun _ => 0)))], [(q_7, .inr (2, [.ref q_16, .ref q_17, .int 0, .int 0]))], [(q_16, .inr (6, [.ref q_18]))], [(q_18, .inl (cy 1, 81, .inl (fun _ => 0)))], [(q_17, .inr (6, [.ref q_19]))], [(q_19, .inl (cy 1, 81, .inl (fun _ => 0)))], [(q_8, .inr (5, [.ref q_20, .int 0, .int 0, .int 0]))], [(q_20, .inr (6, [.ref q_21]))], [(q_21, .inl (cy 1, 81, .inl (fun _ => 0)))], [(q_9, .inr (7, [.ref q_22, .ref q_23, .int 0, .int 0, .int 0, .int 0, .int 0, .int 0, .int 0, .int 0, .int 0]))], [(q_22, .inr (3, [.ref q_24, .ref q_25, .int 2, .int 2, .int 2, .int 0, .int 0]))], [(q_24, .inr (6, [.ref q_26]))], [(q_26, .inl (cy 1, 81, .inl (fun _ => 0)))], [(q_25, .inr (6, [.ref q_27]))], [(q_27, .inl (cy 1, 81, .inl (fun _ => 0)))], [(q_23, .inr (4, [.int 0, .int 0, .int 0, .int 0, .int 0, .int 0, .int 0, .int 0, .int 0, .int 0]))], [(q_10, .inr (4, [.int 0, .int 0, .int 0, .int 0, .int 0, .int 0, .int 0, .int 0, .int 0, .int 0]))], [(q_11, .inr (4, [.int 0, .int 0, .int 0, .int 0, .int 0, .int 0, .int 0, .int 0, .int 0, .int 0]))]] rfl (by decide +kernel) rfl ?_
  obtain ⟨z_28, rfl, rfl, rfl, rfl, rfl, rfl, rfl, rfl, rfl, rfl, rfl, rfl, rfl, rfl, rfl, rfl, rfl, rfl, rfl, rfl, rfl, rfl⟩ : ∃ z_28 : Nat → Nat, z_28 0 = q_6 ∧ z_28 1 = q_7 ∧ z_28 2 = q_8 ∧ z_28 3 = q_9 ∧ z_28 4 = q_10 ∧ z_28 5 = q_11 ∧ z_28 6 = q_12 ∧ z_28 7 = q_13 ∧ z_28 8 = q_14 ∧ z_28 9 = q_15 ∧ z_28 10 = q_16 ∧ z_28 11 = q_17 ∧ z_28 12 = q_18 ∧ z_28 13 = q_19 ∧ z_28 14 = q_20 ∧ z_28 15 = q_21 ∧ z_28 16 = q_22 ∧ z_28 17 = q_23 ∧ z_28 18 = q_24 ∧ z_28 19 = q_25 ∧ z_28 20 = q_26 ∧ z_28 21 = q_27 := ⟨fun i => match i with | 0 => q_6 | 1 => q_7 | 2 => q_8 | 3 => q_9 | 4 => q_10 | 5 => q_11 | 6 => q_12 | 7 => q_13 | 8 => q_14 | 9 => q_15 | 10 => q_16 | 11 => q_17 | 12 => q_18 | 13 => q_19 | 14 => q_20 | 15 => q_21 | 16 => q_22 | 17 => q_23 | 18 => q_24 | 19 => q_25 | 20 => q_26 | 21 => q_27 | _ => 0, rfl, rfl, rfl, rfl, rfl, rfl, rfl, rfl, rfl, rfl, rfl, rfl, rfl, rfl, rfl, rfl, rfl, rfl, rfl, rfl, rfl, rfl⟩
  refine xr_perm C 23 [0, 1, 2, 3, 4, 5, 6, 7, 8, 9, 10, 11, 12, 13, 14, 15, 16, 17, 18, 19, 20, 21, 22] [] [[(q_1, .inr (8, [.ref (z_28 0), .ref (z_28 1), .ref (z_28 2), .ref (z_28 3), .ref (z_28 4), .ref (z_28 5)]))], [((z_28 0), .inr (3, [.ref (z_28 6), .ref (z_28 7), .int 2, .int 2, .int 2, .int 0, .int 0]))], [((z_28 6), .inr (6, [.ref (z_28 8)]))], [((z_28 8), .inl (cy 1, 81, .inl (fun _ => 0)))], [((z_28 7), .inr (6, [.ref (z_28 9)]))], [((z_28 9), .inl (cy 1, 81, .inl (fun _ => 0)))], [((z_28 1), .inr (2, [.ref (z_28 10), .ref (z_28 11), .int 0, .int 0]))], [((z_28 10), .inr (6, [.ref (z_28 12)]))], [((z_28 12), .inl (cy 1, 81, .inl (fun _ => 0)))], [((z_28 11), .inr (6, [.ref (z_28 13)]))], [((z_28 13), .inl (cy 1, 81, .inl (fun _ => 0)))], [((z_28 2), .inr (5, [.ref (z_28 14), .int 0, .int 0, .int 0]))], [((z_28 14), .inr (6, [.ref (z_28 15)]))], [((z_28 15), .inl (cy 1, 81, .inl (fun _ => 0)))], [((z_28 3), .inr (7, [.ref (z_28 16), .ref (z_28 17), .int 0, .int 0, .int 0, .int 0, .int 0, .int 0, .int 0, .int 0, .int 0]))], [((z_28 16), .inr (3, [.ref (z_28 18), .ref (z_28 19), .int 2, .int 2, .int 2, .int 0, .int 0]))], [((z_28 18), .inr (6, [.ref (z_28 20)]))], [((z_28 20), .inl (cy 1, 81, .inl (fun _ => 0)))], [((z_28 19), .inr (6, [.ref (z_28 21)]))], [((z_28 21), .inl (cy 1, 81, .inl (fun _ => 0)))], [((z_28 17), .inr (4, [.int 0, .int 0, .int 0, .int 0, .int 0, .int 0, .int 0, .int 0, .int 0, .int 0]))], [((z_28 4), .inr (4, [.int 0, .int 0, .int 0, .int 0, .int 0, .int 0, .int 0, .int 0, .int 0, .int 0]))], [((z_28 5), .inr (4, [.int 0, .int 0, .int 0, .int 0, .int 0, .int 0, .int 0, .int 0, .int 0, .int 0]))]] rfl (by decide +kernel) rfl ?_
  refine xr_pack (CWL q_1 z_28 cy CN0 CT0) [] rfl ?_
  refine xr_eq (bs' := [CW q_1 z_28 cy CN0 CT0]) rfl ?_
  refine xr_astore_n (n := 8) C [(1, .ref q_1), (0, .ref b)] dd_L_law_0.2.2.2.1 (by decide) rfl rfl ?_
  refine xr_new (n := 11) (ci := 11) C tyX9 tyX9_ok in_X9 u_1188 u_1189 u_64 rfl [.int 0, .null, .null, .null, .null, .null, .int 0, .int 0, .long 0, .null, .int 0, .int 0, .int 0, .int 0, .null, .int 0, .null] (by decide) (Nat.le_of_ble_eq_true rfl) (Nat.le_of_ble_eq_true rfl) dd_L_law_0.2.2.2.2.1 rfl (fun q_29 => ?_)
  refine xr_eq (bs' := [CW q_1 z_28 cy CN0 CT0, [(q_29, .inr (11, [.int 0, .null, .null, .null, .null, .null, .int 0, .int 0, .long 0, .null, .int 0, .int 0, .int 0, .int 0, .null, .int 0, .null]))]]) rfl ?_
  refine xr_dup (n := 12) C dd_L_law_0.2.2.2.2.2.1 rfl rfl ?_
  obtain ⟨x_30, hx_30, hR⟩ := yf_b hR
  obtain rfl := iX9_init hx_30
  refine xr_callI (n := 15) (As := []) (rest := [.ref q_29]) C (kX9_init l D cy (g := q_29) hx_30) mX9_init u_1190 u_1191 rfl 2 [1] [0] rfl (by decide +kernel) rfl rfl rfl rfl (Nat.le_of_ble_eq_true rfl) (Nat.le_of_ble_eq_true rfl) (Nat.le_of_ble_eq_true rfl) (Nat.le_of_ble_eq_true rfl) (Nat.le_of_ble_eq_true rfl) dd_L_law_0.2.2.2.2.2.2.1 rfl (fun v_31 u_32 hp_33 => ?_)
  obtain ⟨q_34, q_35, q_36, q_37, q_38, q_39, q_40, q_41, q_42, q_43, q_44, q_45, q_46, q_47, q_48, q_49, q_50, rfl, rfl⟩ := hp_33
  refine xr_perm C 19 [18, 0, 1, 2, 3, 4, 5, 6, 7, 8, 9, 10, 11, 12, 13, 14, 15, 16, 17] [] [CW q_1 z_28 cy CN0 CT0, [(q_29, .inr (11, [.int rX9_init.1, .ref q_34, .ref q_35, .ref q_36, .ref q_37, .ref q_38, .int rX9_init.2.1, .int rX9_init.2.2.1, .long rX9_init.2.2.2.1, .null, .int rX9_init.2.2.2.2.1, .int rX9_init.2.2.2.2.2.1, .int rX9_init.2.2.2.2.2.2.1, .int rX9_init.2.2.2.2.2.2.2.1, .ref q_39, .int rX9_init.2.2.2.2.2.2.2.2.1, .ref q_40]))], [(q_34, .inr (10, [.int rX9_init.2.2.2.2.2.2.2.2.2.1, .int rX9_init.2.2.2.2.2.2.2.2.2.2.1, .int rX9_init.2.2.2.2.2.2.2.2.2.2.2.1, .int rX9_init.2.2.2.2.2.2.2.2.2.2.2.2.1, .int rX9_init.2.2.2.2.2.2.2.2.2.2.2.2.2.1, .ref q_41, .ref q_42]))], [(q_41, .inl (cy 3, rX9_init.2.2.2.2.2.2.2.2.2.2.2.2.2.2.1, .inr (.inr (.inr (.inr (yad q_43))))))], xg_rows q_43 rX9_init.2.2.2.2.2.2.2.2.2.2.2.2.2.2.1 (cy 1) rX9_init.2.2.2.2.2.2.2.2.2.2.2.2.2.2.2.1 rX9_init.2.2.2.2.2.2.2.2.2.2.2.2.2.2.2.2.1, [(q_42, .inl (cy 3, rX9_init.2.2.2.2.2.2.2.2.2.2.2.2.2.2.2.2.2.1, .inr (.inr (.inr (.inr (yad q_44))))))], xg_rows q_44 rX9_init.2.2.2.2.2.2.2.2.2.2.2.2.2.2.2.2.2.1 (cy 1) rX9_init.2.2.2.2.2.2.2.2.2.2.2.2.2.2.2.2.2.2.1 rX9_init.2.2.2.2.2.2.2.2.2.2.2.2.2.2.2.2.2.2.2, [(q_35, .inl (cy 4, 5, .inr (.inr (.inr (.inr (yad q_45))))))], xg_rows q_45 5 (cy 2) 5 (fun _ _ => 0), [(q_36, .inl (cy 4, 5, .inr (.inr (.inr (.inr (yad q_46))))))], xg_rows q_46 5 (cy 2) 5 (fun _ _ => 0), [(q_37, .inl (cy 3, 5, .inr (.inr (.inr (.inr (yad q_47))))))], xg_rows q_47 5 (cy 1) 5 (fun _ _ => 0), [(q_38, .inl (cy 3, 5, .inr (.inr (.inr (.inr (yad q_48))))))], xg_rows q_48 5 (cy 1) 5 (fun _ _ => 0), [(q_39, .inl (cy 3, 0, .inr (.inr (.inr (.inr (yad q_49))))))], xg_rows q_49 0 (cy 1) 0 (fun _ _ => 0), [(q_40, .inl (cy 3, 0, .inr (.inr (.inr (.inr (yad q_50))))))], xg_rows q_50 0 (cy 1) 0 (fun _ _ => 0)] rfl (by decide +kernel) rfl ?_
  obtain ⟨z_51, rfl, rfl, rfl, rfl, rfl, rfl, rfl, rfl, rfl⟩ : ∃ z_51 : Nat → Nat, z_51 0 = q_34 ∧ z_51 1 = q_35 ∧ z_51 2 = q_36 ∧ z_51 3 = q_37 ∧ z_51 4 = q_38 ∧ z_51 6 = q_39 ∧ z_51 7 = q_40 ∧ z_51 8 = q_41 ∧ z_51 9 = q_42 := ⟨fun i => match i with | 0 => q_34 | 1 => q_35 | 2 => q_36 | 3 => q_37 | 4 => q_38 | 6 => q_39 | 7 => q_40 | 8 => q_41 | 9 => q_42 | _ => 0, rfl, rfl, rfl, rfl, rfl, rfl, rfl, rfl, rfl⟩
  obtain ⟨z_52, rfl, rfl, rfl, rfl, rfl, rfl, rfl, rfl⟩ : ∃ z_52 : Nat → Nat → Nat, z_52 0 = q_43 ∧ z_52 1 = q_44 ∧ z_52 2 = q_45 ∧ z_52 3 = q_46 ∧ z_52 4 = q_47 ∧ z_52 5 = q_48 ∧ z_52 6 = q_49 ∧ z_52 7 = q_50 := ⟨fun i => match i with | 0 => q_43 | 1 => q_44 | 2 => q_45 | 3 => q_46 | 4 => q_47 | 5 => q_48 | 6 => q_49 | 7 => q_50 | _ => fun _ => 0, rfl, rfl, rfl, rfl, rfl, rfl, rfl, rfl⟩
  refine xr_perm C 19 [1, 2, 3, 4, 5, 6, 7, 8, 9, 10, 11, 12, 13, 14, 15, 16, 17, 18, 0] [] [[(q_29, .inr (11, [.int rX9_init.1, .ref (z_51 0), .ref (z_51 1), .ref (z_51 2), .ref (z_51 3), .ref (z_51 4), .int rX9_init.2.1, .int rX9_init.2.2.1, .long rX9_init.2.2.2.1, .null, .int rX9_init.2.2.2.2.1, .int rX9_init.2.2.2.2.2.1, .int rX9_init.2.2.2.2.2.2.1, .int rX9_init.2.2.2.2.2.2.2.1, .ref (z_51 6), .int rX9_init.2.2.2.2.2.2.2.2.1, .ref (z_51 7)]))], [((z_51 0), .inr (10, [.int rX9_init.2.2.2.2.2.2.2.2.2.1, .int rX9_init.2.2.2.2.2.2.2.2.2.2.1, .int rX9_init.2.2.2.2.2.2.2.2.2.2.2.1, .int rX9_init.2.2.2.2.2.2.2.2.2.2.2.2.1, .int rX9_init.2.2.2.2.2.2.2.2.2.2.2.2.2.1, .ref (z_51 8), .ref (z_51 9)]))], [((z_51 8), .inl (cy 3, rX9_init.2.2.2.2.2.2.2.2.2.2.2.2.2.2.1, .inr (.inr (.inr (.inr (yad (z_52 0)))))))], xg_rows (z_52 0) rX9_init.2.2.2.2.2.2.2.2.2.2.2.2.2.2.1 (cy 1) rX9_init.2.2.2.2.2.2.2.2.2.2.2.2.2.2.2.1 rX9_init.2.2.2.2.2.2.2.2.2.2.2.2.2.2.2.2.1, [((z_51 9), .inl (cy 3, rX9_init.2.2.2.2.2.2.2.2.2.2.2.2.2.2.2.2.2.1, .inr (.inr (.inr (.inr (yad (z_52 1)))))))], xg_rows (z_52 1) rX9_init.2.2.2.2.2.2.2.2.2.2.2.2.2.2.2.2.2.1 (cy 1) rX9_init.2.2.2.2.2.2.2.2.2.2.2.2.2.2.2.2.2.2.1 rX9_init.2.2.2.2.2.2.2.2.2.2.2.2.2.2.2.2.2.2.2, [((z_51 1), .inl (cy 4, 5, .inr (.inr (.inr (.inr (yad (z_52 2)))))))], xg_rows (z_52 2) 5 (cy 2) 5 (fun _ _ => 0), [((z_51 2), .inl (cy 4, 5, .inr (.inr (.inr (.inr (yad (z_52 3)))))))], xg_rows (z_52 3) 5 (cy 2) 5 (fun _ _ => 0), [((z_51 3), .inl (cy 3, 5, .inr (.inr (.inr (.inr (yad (z_52 4)))))))], xg_rows (z_52 4) 5 (cy 1) 5 (fun _ _ => 0), [((z_51 4), .inl (cy 3, 5, .inr (.inr (.inr (.inr (yad (z_52 5)))))))], xg_rows (z_52 5) 5 (cy 1) 5 (fun _ _ => 0), [((z_51 6), .inl (cy 3, 0, .inr (.inr (.inr (.inr (yad (z_52 6)))))))], xg_rows (z_52 6) 0 (cy 1) 0 (fun _ _ => 0), [((z_51 7), .inl (cy 3, 0, .inr (.inr (.inr (.inr (yad (z_52 7)))))))], xg_rows (z_52 7) 0 (cy 1) 0 (fun _ _ => 0), CW q_1 z_28 cy CN0 CT0] rfl (by decide +kernel) rfl ?_
  refine xr_pack (MWL q_29 z_51 z_52 cy 0 MN0 ML0 MK0 MG0) [CW q_1 z_28 cy CN0 CT0] rfl ?_
  refine xr_eq (bs' := [MW q_29 z_51 z_52 cy 0 MN0 ML0 MK0 MG0, CW q_1 z_28 cy CN0 CT0]) rfl ?_
  refine xr_astore_n (n := 16) C [(2, .ref q_29), (1, .ref q_1), (0, .ref b)] dd_L_law_0.2.2.2.2.2.2.2.1 (by decide) rfl rfl ?_
  refine xr_new (n := 19) (ci := 9) C tyX7 tyX7_ok in_X7 u_550 u_551 u_66 rfl [.long 0, .null] (by decide) (Nat.le_of_ble_eq_true rfl) (Nat.le_of_ble_eq_true rfl) dd_L_law_0.2.2.2.2.2.2.2.2.1 rfl (fun q_53 => ?_)
  refine xr_eq (bs' := [MW q_29 z_51 z_52 cy 0 MN0 ML0 MK0 MG0, CW q_1 z_28 cy CN0 CT0, [(q_53, .inr (9, [.long 0, .null]))]]) rfl ?_
  refine xr_dup (n := 20) C dd_L_law_0.2.2.2.2.2.2.2.2.2.1 rfl rfl ?_
  obtain ⟨x_54, hx_54, hR⟩ := yf_b hR
  refine xr_callINp (n := 23) (As := []) (rest := [.ref q_53]) C (kX7_init l D cy (vo := q_53) hx_54) mX7_init (host := RL) (List.mem_of_getElem? (i := 45) rfl) u_553 rfl 3 [2] [0, 1] rfl (by decide +kernel) rfl rfl rfl rfl (Nat.le_of_ble_eq_true rfl) (Nat.le_of_ble_eq_true rfl) (Nat.le_of_ble_eq_true rfl) (Nat.le_of_ble_eq_true rfl) (Nat.le_of_ble_eq_true rfl) dd_L_law_0.2.2.2.2.2.2.2.2.2.2.1 rfl (fun _ _ hp => hp.2) (fun v_55 hp_57 => ?_)
  obtain ⟨rfl, -⟩ := hp_57
  refine xr_astore_n (n := 24) C [(3, .ref q_53), (2, .ref q_29), (1, .ref q_1), (0, .ref b)] dd_L_law_0.2.2.2.2.2.2.2.2.2.2.2.1 (by decide) rfl rfl ?_
  refine xr_iconst (n := 25) (v := 0) C dd_L_law_0.2.2.2.2.2.2.2.2.2.2.2.2.1 rfl rfl ?_
  refine xr_istore (n := 27) C [(4, .int 0), (3, .ref q_53), (2, .ref q_29), (1, .ref q_1), (0, .ref b)] dd_L_law_0.2.2.2.2.2.2.2.2.2.2.2.2.2.1 (by decide) rfl rfl ?_
  refine xr_lv (lv' := [(0, .ref b), (1, .ref q_1), (2, .ref q_29), (3, .ref q_53), (4, .int 0)]) [4, 3, 2, 1, 0] rfl ?_
  obtain ⟨b_58, hb_58, hR⟩ := yf_b hR
  have K_58 : ∀ z_58, b_58 = .inl z_58 → ∀ a0_58 : Nat → Nat, ∀ a1_58 : Nat → Nat → Nat, ∀ a2_58 : Value, X p l e room_1 s m args below meth c D A H0 7 Q [MW q_29 a0_58 a1_58 cy z_58.2.1 z_58.2.2.1 z_58.2.2.2.1 z_58.2.2.2.2.1 z_58.2.2.2.2.2.1, CW q_1 z_28 cy z_58.2.2.2.2.2.2.1 z_58.2.2.2.2.2.2.2.1, [(q_53, .inr (9, [.long z_58.2.2.2.2.2.2.2.2.1, a2_58]))]] z_58.2.2.2.2.2.2.2.2.2.1 z_58.2.2.2.2.2.2.2.2.2.2 [] 895 [] := by
    intro z_58 e_58; subst e_58; replace hR := ybr_l hR
    intro a0_58 a1_58 a2_58
    obtain ⟨g_59, hR⟩ := yf_g hR
    refine xr_iconst (n := 896) (v := 1) C dd_L_law_32.2.2.2.2.2.2.2.2.2.2.2.1 rfl rfl ?_
    obtain rfl := Option.some.inj hR
    exact ret 1 rfl g_59.1 g_59.2 dd_L_law_32.2.2.2.2.2.2.2.2.2.2.2.2.1
  refine y_loop (P := fun (s_58 : Int32 × Nat × (Nat → Int32) × Int64 × (Nat → Nat) × (Nat → Nat → Nat → Int32) × (Nat → Int32) × (Nat → Nat → Int32) × Int64 × Nat × Nat) => ∀ a0_58 : Nat → Nat, ∀ a1_58 : Nat → Nat → Nat, ∀ a2_58 : Value, X p l e room_1 s m args below meth c D A H0 7 Q [MW q_29 a0_58 a1_58 cy s_58.2.1 s_58.2.2.1 s_58.2.2.2.1 s_58.2.2.2.2.1 s_58.2.2.2.2.2.1, CW q_1 z_28 cy s_58.2.2.2.2.2.2.1 s_58.2.2.2.2.2.2.2.1, [(q_53, .inr (9, [.long s_58.2.2.2.2.2.2.2.2.1, a2_58]))]] s_58.2.2.2.2.2.2.2.2.2.1 s_58.2.2.2.2.2.2.2.2.2.2 [(0, .ref b), (1, .ref q_1), (2, .ref q_29), (3, .ref q_53), (4, .int s_58.1)] 27 []) ?_ _ (0, 0, MN0, ML0, MK0, MG0, CN0, CT0, 0, 0 + 1 + 22 + 1 + 47 + 1, 0 + 6 + 637 + 17 + 307 + 2) hb_58 z_51 z_52 .null
  intro s_58 o_58 ho_58 hk_58 hx_58 a0_58 a1_58 a2_58
  obtain ⟨g_60, ho_58⟩ := yf_g ho_58
  refine xr_iload (n := 29) (j := 4) C dd_L_law_0.2.2.2.2.2.2.2.2.2.2.2.2.2.2.1 rfl rfl ?_
  refine xr_aload_n (n := 30) (j := 0) C dd_L_law_0.2.2.2.2.2.2.2.2.2.2.2.2.2.2.2.1 rfl rfl ?_
  refine xr_slen (n := 31) C hX hbl hbA dd_L_law_1.1 rfl ?_
  refine xr_iconst (n := 32) (v := 4) C dd_L_law_1.2.1 rfl rfl ?_
  refine xr_isub (n := 33) C dd_L_law_1.2.2.1 rfl ?_
  refine xr_icmp_gt (tgt := 895) (n := 36) C dd_L_law_1.2.2.2.1 rfl rfl (fun c_61 => ?_) (fun c_61 => ?_)
  · replace ho_58 := yf_t c_61 ho_58
    refine xr_lv (lv' := []) [] rfl ?_
    have e_62 := hx_58 _ (Option.some.inj ho_58).symm
    exact K_58 (s_58.1, s_58.2.1, s_58.2.2.1, s_58.2.2.2.1, s_58.2.2.2.2.1, s_58.2.2.2.2.2.1, s_58.2.2.2.2.2.2.1, s_58.2.2.2.2.2.2.2.1, s_58.2.2.2.2.2.2.2.2.1, s_58.2.2.2.2.2.2.2.2.2.1, s_58.2.2.2.2.2.2.2.2.2.2) e_62.symm a0_58 a1_58 a2_58
  · replace ho_58 := yf_f c_61 ho_58
    refine xr_aload_n (n := 37) (j := 0) C dd_L_law_1.2.2.2.2.1 rfl rfl ?_
    refine xr_iload (n := 39) (j := 4) C dd_L_law_1.2.2.2.2.2.1 rfl rfl ?_
    obtain ⟨g_63, ho_58⟩ := yf_g ho_58
    refine xr_sld (n := 40) C hX hbl hbA g_63 dd_L_law_1.2.2.2.2.2.2.1 rfl ?_
    refine xr_bipush (n := 42) (v := 31) C dd_L_law_1.2.2.2.2.2.2.2.1 rfl rfl ?_
    refine xr_iand (n := 43) C dd_L_law_1.2.2.2.2.2.2.2.2.1 rfl ?_
    by_cases c_64 : ((xs s_58.1.toNatClampNeg) &&& 31) = 0
    · replace ho_58 := yf_t c_64 ho_58
      refine xr_tableIn (off := 97) (tgt := 140) C dL_law_43 (by rw [c_64]; decide) (by rw [c_64]; decide) (by rw [c_64]; decide) rfl ?_
      refine xr_aload_n (n := 141) (j := 1) C dd_L_law_1.2.2.2.2.2.2.2.2.2.1 rfl rfl ?_
      refine xr_aload_n (n := 142) (j := 0) C dd_L_law_1.2.2.2.2.2.2.2.2.2.2.1 rfl rfl ?_
      refine xr_iload (n := 144) (j := 4) C dd_L_law_1.2.2.2.2.2.2.2.2.2.2.2.1 rfl rfl ?_
      refine xr_iconst (n := 145) (v := 1) C dd_L_law_1.2.2.2.2.2.2.2.2.2.2.2.2.1 rfl rfl ?_
      refine xr_iadd (n := 146) C dd_L_law_1.2.2.2.2.2.2.2.2.2.2.2.2.2.1 rfl ?_
      obtain ⟨g_65, ho_58⟩ := yf_g ho_58
      refine xr_sld (n := 147) C hX hbl hbA g_65 dd_L_law_1.2.2.2.2.2.2.2.2.2.2.2.2.2.2.1 rfl ?_
      refine xr_aload_n (n := 148) (j := 0) C dd_L_law_1.2.2.2.2.2.2.2.2.2.2.2.2.2.2.2.1 rfl rfl ?_
      refine xr_iload (n := 150) (j := 4) C dd_L_law_2.1 rfl rfl ?_
      refine xr_iconst (n := 151) (v := 2) C dd_L_law_2.2.1 rfl rfl ?_
      refine xr_iadd (n := 152) C dd_L_law_2.2.2.1 rfl ?_
      obtain ⟨g_66, ho_58⟩ := yf_g ho_58
      refine xr_sld (n := 153) C hX hbl hbA g_66 dd_L_law_2.2.2.2.1 rfl ?_
      refine xr_aload_n (n := 154) (j := 0) C dd_L_law_2.2.2.2.2.1 rfl rfl ?_
      refine xr_iload (n := 156) (j := 4) C dd_L_law_2.2.2.2.2.2.1 rfl rfl ?_
      refine xr_iconst (n := 157) (v := 3) C dd_L_law_2.2.2.2.2.2.2.1 rfl rfl ?_
      refine xr_iadd (n := 158) C dd_L_law_2.2.2.2.2.2.2.2.1 rfl ?_
      obtain ⟨g_67, ho_58⟩ := yf_g ho_58
      refine xr_sld (n := 159) C hX hbl hbA g_67 dd_L_law_2.2.2.2.2.2.2.2.2.1 rfl ?_
      refine xr_aload_n (n := 160) (j := 3) C dd_L_law_2.2.2.2.2.2.2.2.2.2.1 rfl rfl ?_
      obtain ⟨x_68, hx_68, ho_58⟩ := yf_b ho_58
      obtain ⟨g_69, ho_58⟩ := yf_g ho_58
      refine xr_callSW (n := 163) (As := [.ref q_1, .int (xs (s_58.1 + 1).toNatClampNeg), .int (xs (s_58.1 + 2).toNatClampNeg), .int (xs (s_58.1 + 3).toNatClampNeg), .ref q_53]) (rest := []) C (kgL_shape l D cy hl0 (x := q_1) (a := z_28) (o := q_53) (os := a2_58) (n := s_58.2.2.2.2.2.2.1) (t := s_58.2.2.2.2.2.2.2.1) (on := s_58.2.2.2.2.2.2.2.2.1) (i1 := xs (s_58.1 + 1).toNatClampNeg) (i2 := xs (s_58.1 + 2).toNatClampNeg) (i3 := xs (s_58.1 + 3).toNatClampNeg) hx_68) mL_shape u_563 u_564 3 [1, 2] [0] rfl (by decide +kernel) rfl rfl rfl rfl (Nat.le_of_ble_eq_true rfl) (Nat.le_of_ble_eq_true rfl) (Nat.le_of_ble_eq_true rfl) g_69.1 g_69.2 dd_L_law_2.2.2.2.2.2.2.2.2.2.2.1 rfl (fun v_70 u_71 hp_72 => ?_)
      obtain ⟨q_73, rfl, rfl⟩ := hp_72
      refine xr_perm C 3 [2, 0, 1] [] [MW q_29 a0_58 a1_58 cy s_58.2.1 s_58.2.2.1 s_58.2.2.2.1 s_58.2.2.2.2.1 s_58.2.2.2.2.2.1, CW q_1 z_28 cy x_68.2.1 x_68.2.2.1, [(q_53, .inr (9, [.long x_68.2.2.2, q_73]))]] rfl (by decide +kernel) rfl ?_
      refine xr_st (st' := [.int x_68.1]) rfl ?_
      refine xr_istore (n := 165) C [(5, .int x_68.1), (0, .ref b), (1, .ref q_1), (2, .ref q_29), (3, .ref q_53), (4, .int s_58.1)] dd_L_law_2.2.2.2.2.2.2.2.2.2.2.2.1 (by decide) rfl rfl ?_
      refine xr_aload_n (n := 166) (j := 3) C dd_L_law_2.2.2.2.2.2.2.2.2.2.2.2.2.1 rfl rfl ?_
      refine xr_aload_n (n := 167) (j := 1) C dd_L_law_2.2.2.2.2.2.2.2.2.2.2.2.2.2.1 rfl rfl ?_
      refine xr_iload (n := 169) (j := 5) C dd_L_law_2.2.2.2.2.2.2.2.2.2.2.2.2.2.2.1 rfl rfl ?_
      refine xr_iconst (n := 170) (v := 1) C dd_L_law_2.2.2.2.2.2.2.2.2.2.2.2.2.2.2.2.1 rfl rfl ?_
      refine xr_iadd (n := 171) C dd_L_law_3.1 rfl ?_
      obtain ⟨g_74, ho_58⟩ := yf_g ho_58
      refine xr_sld (n := 172) C hX hbl hbA g_74 dd_L_law_3.2.1 rfl ?_
      refine xr_aload_n (n := 173) (j := 1) C dd_L_law_3.2.2.1 rfl rfl ?_
      refine xr_iload (n := 175) (j := 5) C dd_L_law_3.2.2.2.1 rfl rfl ?_
      refine xr_iconst (n := 176) (v := 2) C dd_L_law_3.2.2.2.2.1 rfl rfl ?_
      refine xr_iadd (n := 177) C dd_L_law_3.2.2.2.2.2.1 rfl ?_
      obtain ⟨g_75, ho_58⟩ := yf_g ho_58
      refine xr_sld (n := 178) C hX hbl hbA g_75 dd_L_law_3.2.2.2.2.2.2.1 rfl ?_
      refine xr_aload_n (n := 179) (j := 1) C dd_L_law_3.2.2.2.2.2.2.2.1 rfl rfl ?_
      refine xr_iload (n := 181) (j := 5) C dd_L_law_3.2.2.2.2.2.2.2.2.1 rfl rfl ?_
      refine xr_iconst (n := 182) (v := 3) C dd_L_law_3.2.2.2.2.2.2.2.2.2.1 rfl rfl ?_
      refine xr_iadd (n := 183) C dd_L_law_3.2.2.2.2.2.2.2.2.2.2.1 rfl ?_
      obtain ⟨g_76, ho_58⟩ := yf_g ho_58
      refine xr_sld (n := 184) C hX hbl hbA g_76 dd_L_law_3.2.2.2.2.2.2.2.2.2.2.2.1 rfl ?_
      obtain ⟨x_77, hx_77, ho_58⟩ := yf_b ho_58
      obtain ⟨g_78, ho_58⟩ := yf_g ho_58
      refine xr_callVP (n := 187) (As := [.int (xs (s_58.1 + 1).toNatClampNeg), .int (xs (s_58.1 + 2).toNatClampNeg), .int (xs (s_58.1 + 3).toNatClampNeg)]) (rest := []) C (kgX9w_shape l D cy (g := q_29) (a := a0_58) (ad := a1_58) (sh := s_58.2.1) (n := s_58.2.2.1) (L := s_58.2.2.2.1) (k := s_58.2.2.2.2.1) (G := s_58.2.2.2.2.2.1) (i1 := xs (s_58.1 + 1).toNatClampNeg) (i2 := xs (s_58.1 + 2).toNatClampNeg) (i3 := xs (s_58.1 + 3).toNatClampNeg) hx_77) mX9_shape u_1294 u_1295 u_1296 0 rfl (MW_head _ _ _ _ _ _ _ _ _) rfl 3 [0] [1, 2] rfl (by decide +kernel) rfl rfl rfl rfl (Nat.le_of_ble_eq_true rfl) (Nat.le_of_ble_eq_true rfl) (Nat.le_of_ble_eq_true rfl) g_78.1 g_78.2 dd_L_law_3.2.2.2.2.2.2.2.2.2.2.2.2.1 rfl (fun v_79 u_80 hp_81 => ?_)
      obtain ⟨q_82, q_83, rfl, rfl⟩ := hp_81
      refine xr_perm C 3 [0, 1, 2] [] [MW q_29 q_82 q_83 cy x_77.2.1 x_77.2.2.1 x_77.2.2.2.1 x_77.2.2.2.2.1 x_77.2.2.2.2.2, CW q_1 z_28 cy x_68.2.1 x_68.2.2.1, [(q_53, .inr (9, [.long x_68.2.2.2, q_73]))]] rfl (by decide +kernel) rfl ?_
      refine xr_st (st' := [.int x_77.1]) rfl ?_
      refine xr_istore (n := 189) C [(6, .int x_77.1), (5, .int x_68.1), (0, .ref b), (1, .ref q_1), (2, .ref q_29), (3, .ref q_53), (4, .int s_58.1)] dd_L_law_3.2.2.2.2.2.2.2.2.2.2.2.2.2.1 (by decide) rfl rfl ?_
      refine xr_goto (tgt := 889) C dd_L_law_3.2.2.2.2.2.2.2.2.2.2.2.2.2.2.1 rfl ?_
      refine xr_iinc (j := 6) (v := s_58.1 + 4) (n := 892) C [(4, .int (s_58.1 + 4)), (6, .int x_77.1), (5, .int x_68.1), (0, .ref b), (1, .ref q_1), (2, .ref q_29), (3, .ref q_53)] dd_L_law_32.2.2.2.2.2.2.2.2.2.1 rfl rfl (by decide) rfl rfl ?_
      refine xr_goto (tgt := 27) C dd_L_law_32.2.2.2.2.2.2.2.2.2.2.1 rfl ?_
      refine xr_lv (lv' := [(0, .ref b), (1, .ref q_1), (2, .ref q_29), (3, .ref q_53), (4, .int (s_58.1 + 4))]) [3, 4, 5, 6, 0] rfl ?_
      exact hk_58 (s_58.1 + 4, x_77.2.1, x_77.2.2.1, x_77.2.2.2.1, x_77.2.2.2.2.1, x_77.2.2.2.2.2, x_68.2.1, x_68.2.2.1, x_68.2.2.2, s_58.2.2.2.2.2.2.2.2.2.1 + 1 + 20, s_58.2.2.2.2.2.2.2.2.2.2 + 6 + 180) (Option.some.inj ho_58).symm q_82 q_83 q_73
    replace ho_58 := yf_f c_64 ho_58
    by_cases c_84 : ((xs s_58.1.toNatClampNeg) &&& 31) = 1
    · replace ho_58 := yf_t c_84 ho_58
      refine xr_tableIn (off := 149) (tgt := 192) C dL_law_43 (by rw [c_84]; decide) (by rw [c_84]; decide) (by rw [c_84]; decide) rfl ?_
      refine xr_aload_n (n := 193) (j := 1) C dd_L_law_3.2.2.2.2.2.2.2.2.2.2.2.2.2.2.2.1 rfl rfl ?_
      refine xr_aload_n (n := 194) (j := 0) C dd_L_law_4.1 rfl rfl ?_
      refine xr_iload (n := 196) (j := 4) C dd_L_law_4.2.1 rfl rfl ?_
      refine xr_iconst (n := 197) (v := 1) C dd_L_law_4.2.2.1 rfl rfl ?_
      refine xr_iadd (n := 198) C dd_L_law_4.2.2.2.1 rfl ?_
      obtain ⟨g_85, ho_58⟩ := yf_g ho_58
      refine xr_sld (n := 199) C hX hbl hbA g_85 dd_L_law_4.2.2.2.2.1 rfl ?_
      refine xr_aload_n (n := 200) (j := 0) C dd_L_law_4.2.2.2.2.2.1 rfl rfl ?_
      refine xr_iload (n := 202) (j := 4) C dd_L_law_4.2.2.2.2.2.2.1 rfl rfl ?_
      refine xr_iconst (n := 203) (v := 2) C dd_L_law_4.2.2.2.2.2.2.2.1 rfl rfl ?_
      refine xr_iadd (n := 204) C dd_L_law_4.2.2.2.2.2.2.2.2.1 rfl ?_
      obtain ⟨g_86, ho_58⟩ := yf_g ho_58
      refine xr_sld (n := 205) C hX hbl hbA g_86 dd_L_law_4.2.2.2.2.2.2.2.2.2.1 rfl ?_
      refine xr_aload_n (n := 206) (j := 0) C dd_L_law_4.2.2.2.2.2.2.2.2.2.2.1 rfl rfl ?_
      refine xr_iload (n := 208) (j := 4) C dd_L_law_4.2.2.2.2.2.2.2.2.2.2.2.1 rfl rfl ?_
      refine xr_iconst (n := 209) (v := 3) C dd_L_law_4.2.2.2.2.2.2.2.2.2.2.2.2.1 rfl rfl ?_
      refine xr_iadd (n := 210) C dd_L_law_4.2.2.2.2.2.2.2.2.2.2.2.2.2.1 rfl ?_
      obtain ⟨g_87, ho_58⟩ := yf_g ho_58
      refine xr_sld (n := 211) C hX hbl hbA g_87 dd_L_law_4.2.2.2.2.2.2.2.2.2.2.2.2.2.2.1 rfl ?_
      refine xr_aload_n (n := 212) (j := 3) C dd_L_law_4.2.2.2.2.2.2.2.2.2.2.2.2.2.2.2.1 rfl rfl ?_
      obtain ⟨x_88, hx_88, ho_58⟩ := yf_b ho_58
      obtain ⟨g_89, ho_58⟩ := yf_g ho_58
      refine xr_callSW (n := 215) (As := [.ref q_1, .int (xs (s_58.1 + 1).toNatClampNeg), .int (xs (s_58.1 + 2).toNatClampNeg), .int (xs (s_58.1 + 3).toNatClampNeg), .ref q_53]) (rest := []) C (kgL_left l D cy hl0 (x := q_1) (a := z_28) (o := q_53) (os := a2_58) (n := s_58.2.2.2.2.2.2.1) (t := s_58.2.2.2.2.2.2.2.1) (on := s_58.2.2.2.2.2.2.2.2.1) (i1 := xs (s_58.1 + 1).toNatClampNeg) (i2 := xs (s_58.1 + 2).toNatClampNeg) (i3 := xs (s_58.1 + 3).toNatClampNeg) hx_88) mL_left u_651 u_652 3 [1, 2] [0] rfl (by decide +kernel) rfl rfl rfl rfl (Nat.le_of_ble_eq_true rfl) (Nat.le_of_ble_eq_true rfl) (Nat.le_of_ble_eq_true rfl) g_89.1 g_89.2 dd_L_law_5.1 rfl (fun v_90 u_91 hp_92 => ?_)
      obtain ⟨q_93, rfl, rfl⟩ := hp_92
      refine xr_perm C 3 [2, 0, 1] [] [MW q_29 a0_58 a1_58 cy s_58.2.1 s_58.2.2.1 s_58.2.2.2.1 s_58.2.2.2.2.1 s_58.2.2.2.2.2.1, CW q_1 z_28 cy x_88.2.1 x_88.2.2.1, [(q_53, .inr (9, [.long x_88.2.2.2, q_93]))]] rfl (by decide +kernel) rfl ?_
      refine xr_st (st' := [.int x_88.1]) rfl ?_
      refine xr_istore (n := 217) C [(5, .int x_88.1), (0, .ref b), (1, .ref q_1), (2, .ref q_29), (3, .ref q_53), (4, .int s_58.1)] dd_L_law_5.2.1 (by decide) rfl rfl ?_
      refine xr_aload_n (n := 218) (j := 3) C dd_L_law_5.2.2.1 rfl rfl ?_
      refine xr_aload_n (n := 219) (j := 1) C dd_L_law_5.2.2.2.1 rfl rfl ?_
      refine xr_iload (n := 221) (j := 5) C dd_L_law_5.2.2.2.2.1 rfl rfl ?_
      refine xr_iconst (n := 222) (v := 1) C dd_L_law_5.2.2.2.2.2.1 rfl rfl ?_
      refine xr_iadd (n := 223) C dd_L_law_5.2.2.2.2.2.2.1 rfl ?_
      obtain ⟨g_94, ho_58⟩ := yf_g ho_58
      refine xr_sld (n := 224) C hX hbl hbA g_94 dd_L_law_5.2.2.2.2.2.2.2.1 rfl ?_
      refine xr_aload_n (n := 225) (j := 1) C dd_L_law_5.2.2.2.2.2.2.2.2.1 rfl rfl ?_
      refine xr_iload (n := 227) (j := 5) C dd_L_law_5.2.2.2.2.2.2.2.2.2.1 rfl rfl ?_
      refine xr_iconst (n := 228) (v := 2) C dd_L_law_5.2.2.2.2.2.2.2.2.2.2.1 rfl rfl ?_
      refine xr_iadd (n := 229) C dd_L_law_5.2.2.2.2.2.2.2.2.2.2.2.1 rfl ?_
      obtain ⟨g_95, ho_58⟩ := yf_g ho_58
      refine xr_sld (n := 230) C hX hbl hbA g_95 dd_L_law_5.2.2.2.2.2.2.2.2.2.2.2.2.1 rfl ?_
      refine xr_aload_n (n := 231) (j := 1) C dd_L_law_5.2.2.2.2.2.2.2.2.2.2.2.2.2.1 rfl rfl ?_
      refine xr_iload (n := 233) (j := 5) C dd_L_law_5.2.2.2.2.2.2.2.2.2.2.2.2.2.2.1 rfl rfl ?_
      refine xr_iconst (n := 234) (v := 3) C dd_L_law_5.2.2.2.2.2.2.2.2.2.2.2.2.2.2.2.1 rfl rfl ?_
      refine xr_iadd (n := 235) C dd_L_law_6.1 rfl ?_
      obtain ⟨g_96, ho_58⟩ := yf_g ho_58
      refine xr_sld (n := 236) C hX hbl hbA g_96 dd_L_law_6.2.1 rfl ?_
      obtain ⟨x_97, hx_97, ho_58⟩ := yf_b ho_58
      refine xr_callVP (n := 239) (As := [.int (xs (s_58.1 + 1).toNatClampNeg), .int (xs (s_58.1 + 2).toNatClampNeg), .int (xs (s_58.1 + 3).toNatClampNeg)]) (rest := []) C (kgX9w_left l D cy (g := q_29) (a := a0_58) (ad := a1_58) (sh := s_58.2.1) (n := s_58.2.2.1) (L := s_58.2.2.2.1) (k := s_58.2.2.2.2.1) (G := s_58.2.2.2.2.2.1) (i1 := xs (s_58.1 + 1).toNatClampNeg) (i2 := xs (s_58.1 + 2).toNatClampNeg) (i3 := xs (s_58.1 + 3).toNatClampNeg) hx_97) mX9_left u_1315 u_1316 u_1317 0 rfl (MW_head _ _ _ _ _ _ _ _ _) rfl 3 [0] [1, 2] rfl (by decide +kernel) rfl rfl rfl rfl (Nat.le_of_ble_eq_true rfl) (Nat.le_of_ble_eq_true rfl) (Nat.le_of_ble_eq_true rfl) g_89.1 g_89.2 dd_L_law_6.2.2.1 rfl (fun v_98 u_99 hp_100 => ?_)
      obtain ⟨q_101, q_102, rfl, rfl⟩ := hp_100
      refine xr_perm C 3 [0, 1, 2] [] [MW q_29 q_101 q_102 cy x_97.2.1 x_97.2.2.1 x_97.2.2.2.1 x_97.2.2.2.2.1 x_97.2.2.2.2.2, CW q_1 z_28 cy x_88.2.1 x_88.2.2.1, [(q_53, .inr (9, [.long x_88.2.2.2, q_93]))]] rfl (by decide +kernel) rfl ?_
      refine xr_st (st' := [.int x_97.1]) rfl ?_
      refine xr_istore (n := 241) C [(6, .int x_97.1), (5, .int x_88.1), (0, .ref b), (1, .ref q_1), (2, .ref q_29), (3, .ref q_53), (4, .int s_58.1)] dd_L_law_6.2.2.2.1 (by decide) rfl rfl ?_
      refine xr_goto (tgt := 889) C dd_L_law_6.2.2.2.2.1 rfl ?_
      refine xr_iinc (j := 6) (v := s_58.1 + 4) (n := 892) C [(4, .int (s_58.1 + 4)), (6, .int x_97.1), (5, .int x_88.1), (0, .ref b), (1, .ref q_1), (2, .ref q_29), (3, .ref q_53)] dd_L_law_32.2.2.2.2.2.2.2.2.2.1 rfl rfl (by decide) rfl rfl ?_
      refine xr_goto (tgt := 27) C dd_L_law_32.2.2.2.2.2.2.2.2.2.2.1 rfl ?_
      refine xr_lv (lv' := [(0, .ref b), (1, .ref q_1), (2, .ref q_29), (3, .ref q_53), (4, .int (s_58.1 + 4))]) [3, 4, 5, 6, 0] rfl ?_
      exact hk_58 (s_58.1 + 4, x_97.2.1, x_97.2.2.1, x_97.2.2.2.1, x_97.2.2.2.2.1, x_97.2.2.2.2.2, x_88.2.1, x_88.2.2.1, x_88.2.2.2, s_58.2.2.2.2.2.2.2.2.2.1 + 1, s_58.2.2.2.2.2.2.2.2.2.2 + 6) (Option.some.inj ho_58).symm q_101 q_102 q_93
    replace ho_58 := yf_f c_84 ho_58
    by_cases c_103 : ((xs s_58.1.toNatClampNeg) &&& 31) = 2
    · replace ho_58 := yf_t c_103 ho_58
      refine xr_tableIn (off := 201) (tgt := 244) C dL_law_43 (by rw [c_103]; decide) (by rw [c_103]; decide) (by rw [c_103]; decide) rfl ?_
      refine xr_aload_n (n := 245) (j := 1) C dd_L_law_6.2.2.2.2.2.1 rfl rfl ?_
      refine xr_aload_n (n := 246) (j := 0) C dd_L_law_6.2.2.2.2.2.2.1 rfl rfl ?_
      refine xr_iload (n := 248) (j := 4) C dd_L_law_6.2.2.2.2.2.2.2.1 rfl rfl ?_
      refine xr_iconst (n := 249) (v := 1) C dd_L_law_6.2.2.2.2.2.2.2.2.1 rfl rfl ?_
      refine xr_iadd (n := 250) C dd_L_law_6.2.2.2.2.2.2.2.2.2.1 rfl ?_
      obtain ⟨g_104, ho_58⟩ := yf_g ho_58
      refine xr_sld (n := 251) C hX hbl hbA g_104 dd_L_law_6.2.2.2.2.2.2.2.2.2.2.1 rfl ?_
      refine xr_aload_n (n := 252) (j := 0) C dd_L_law_6.2.2.2.2.2.2.2.2.2.2.2.1 rfl rfl ?_
      refine xr_iload (n := 254) (j := 4) C dd_L_law_6.2.2.2.2.2.2.2.2.2.2.2.2.1 rfl rfl ?_
      refine xr_iconst (n := 255) (v := 2) C dd_L_law_6.2.2.2.2.2.2.2.2.2.2.2.2.2.1 rfl rfl ?_
      refine xr_iadd (n := 256) C dd_L_law_6.2.2.2.2.2.2.2.2.2.2.2.2.2.2.1 rfl ?_
      obtain ⟨g_105, ho_58⟩ := yf_g ho_58
      refine xr_sld (n := 257) C hX hbl hbA g_105 dd_L_law_6.2.2.2.2.2.2.2.2.2.2.2.2.2.2.2.1 rfl ?_
      refine xr_aload_n (n := 258) (j := 0) C dd_L_law_7.1 rfl rfl ?_
      refine xr_iload (n := 260) (j := 4) C dd_L_law_7.2.1 rfl rfl ?_
      refine xr_iconst (n := 261) (v := 3) C dd_L_law_7.2.2.1 rfl rfl ?_
      refine xr_iadd (n := 262) C dd_L_law_7.2.2.2.1 rfl ?_
      obtain ⟨g_106, ho_58⟩ := yf_g ho_58
      refine xr_sld (n := 263) C hX hbl hbA g_106 dd_L_law_7.2.2.2.2.1 rfl ?_
      refine xr_aload_n (n := 264) (j := 3) C dd_L_law_7.2.2.2.2.2.1 rfl rfl ?_
      obtain ⟨x_107, hx_107, ho_58⟩ := yf_b ho_58
      obtain ⟨g_108, ho_58⟩ := yf_g ho_58
      refine xr_callSW (n := 267) (As := [.ref q_1, .int (xs (s_58.1 + 1).toNatClampNeg), .int (xs (s_58.1 + 2).toNatClampNeg), .int (xs (s_58.1 + 3).toNatClampNeg), .ref q_53]) (rest := []) C (kgL_top l D cy hl0 (x := q_1) (a := z_28) (o := q_53) (os := a2_58) (n := s_58.2.2.2.2.2.2.1) (t := s_58.2.2.2.2.2.2.2.1) (on := s_58.2.2.2.2.2.2.2.2.1) (i1 := xs (s_58.1 + 1).toNatClampNeg) (i2 := xs (s_58.1 + 2).toNatClampNeg) (i3 := xs (s_58.1 + 3).toNatClampNeg) hx_107) mL_top u_683 u_684 3 [1, 2] [0] rfl (by decide +kernel) rfl rfl rfl rfl (Nat.le_of_ble_eq_true rfl) (Nat.le_of_ble_eq_true rfl) (Nat.le_of_ble_eq_true rfl) g_108.1 g_108.2 dd_L_law_7.2.2.2.2.2.2.1 rfl (fun v_109 u_110 hp_111 => ?_)
      obtain ⟨q_112, rfl, rfl⟩ := hp_111
      refine xr_perm C 3 [2, 0, 1] [] [MW q_29 a0_58 a1_58 cy s_58.2.1 s_58.2.2.1 s_58.2.2.2.1 s_58.2.2.2.2.1 s_58.2.2.2.2.2.1, CW q_1 z_28 cy x_107.2.1 x_107.2.2.1, [(q_53, .inr (9, [.long x_107.2.2.2, q_112]))]] rfl (by decide +kernel) rfl ?_
      refine xr_st (st' := [.int x_107.1]) rfl ?_
      refine xr_istore (n := 269) C [(5, .int x_107.1), (0, .ref b), (1, .ref q_1), (2, .ref q_29), (3, .ref q_53), (4, .int s_58.1)] dd_L_law_7.2.2.2.2.2.2.2.1 (by decide) rfl rfl ?_
      refine xr_aload_n (n := 270) (j := 3) C dd_L_law_7.2.2.2.2.2.2.2.2.1 rfl rfl ?_
      refine xr_aload_n (n := 271) (j := 1) C dd_L_law_7.2.2.2.2.2.2.2.2.2.1 rfl rfl ?_
      refine xr_iload (n := 273) (j := 5) C dd_L_law_7.2.2.2.2.2.2.2.2.2.2.1 rfl rfl ?_
      refine xr_iconst (n := 274) (v := 1) C dd_L_law_7.2.2.2.2.2.2.2.2.2.2.2.1 rfl rfl ?_
      refine xr_iadd (n := 275) C dd_L_law_7.2.2.2.2.2.2.2.2.2.2.2.2.1 rfl ?_
      obtain ⟨g_113, ho_58⟩ := yf_g ho_58
      refine xr_sld (n := 276) C hX hbl hbA g_113 dd_L_law_7.2.2.2.2.2.2.2.2.2.2.2.2.2.1 rfl ?_
      refine xr_aload_n (n := 277) (j := 1) C dd_L_law_7.2.2.2.2.2.2.2.2.2.2.2.2.2.2.1 rfl rfl ?_
      refine xr_iload (n := 279) (j := 5) C dd_L_law_7.2.2.2.2.2.2.2.2.2.2.2.2.2.2.2.1 rfl rfl ?_
      refine xr_iconst (n := 280) (v := 2) C dd_L_law_8.1 rfl rfl ?_
      refine xr_iadd (n := 281) C dd_L_law_8.2.1 rfl ?_
      obtain ⟨g_114, ho_58⟩ := yf_g ho_58
      refine xr_sld (n := 282) C hX hbl hbA g_114 dd_L_law_8.2.2.1 rfl ?_
      refine xr_aload_n (n := 283) (j := 1) C dd_L_law_8.2.2.2.1 rfl rfl ?_
      refine xr_iload (n := 285) (j := 5) C dd_L_law_8.2.2.2.2.1 rfl rfl ?_
      refine xr_iconst (n := 286) (v := 3) C dd_L_law_8.2.2.2.2.2.1 rfl rfl ?_
      refine xr_iadd (n := 287) C dd_L_law_8.2.2.2.2.2.2.1 rfl ?_
      obtain ⟨g_115, ho_58⟩ := yf_g ho_58
      refine xr_sld (n := 288) C hX hbl hbA g_115 dd_L_law_8.2.2.2.2.2.2.2.1 rfl ?_
      obtain ⟨x_116, hx_116, ho_58⟩ := yf_b ho_58
      refine xr_callVP (n := 291) (As := [.int (xs (s_58.1 + 1).toNatClampNeg), .int (xs (s_58.1 + 2).toNatClampNeg), .int (xs (s_58.1 + 3).toNatClampNeg)]) (rest := []) C (kgX9w_top l D cy (g := q_29) (a := a0_58) (ad := a1_58) (sh := s_58.2.1) (n := s_58.2.2.1) (L := s_58.2.2.2.1) (k := s_58.2.2.2.2.1) (G := s_58.2.2.2.2.2.1) (i1 := xs (s_58.1 + 1).toNatClampNeg) (i2 := xs (s_58.1 + 2).toNatClampNeg) (i3 := xs (s_58.1 + 3).toNatClampNeg) hx_116) mX9_top u_1319 u_1320 u_1321 0 rfl (MW_head _ _ _ _ _ _ _ _ _) rfl 3 [0] [1, 2] rfl (by decide +kernel) rfl rfl rfl rfl (Nat.le_of_ble_eq_true rfl) (Nat.le_of_ble_eq_true rfl) (Nat.le_of_ble_eq_true rfl) g_108.1 g_108.2 dd_L_law_8.2.2.2.2.2.2.2.2.1 rfl (fun v_117 u_118 hp_119 => ?_)
      obtain ⟨q_120, q_121, rfl, rfl⟩ := hp_119
      refine xr_perm C 3 [0, 1, 2] [] [MW q_29 q_120 q_121 cy x_116.2.1 x_116.2.2.1 x_116.2.2.2.1 x_116.2.2.2.2.1 x_116.2.2.2.2.2, CW q_1 z_28 cy x_107.2.1 x_107.2.2.1, [(q_53, .inr (9, [.long x_107.2.2.2, q_112]))]] rfl (by decide +kernel) rfl ?_
      refine xr_st (st' := [.int x_116.1]) rfl ?_
      refine xr_istore (n := 293) C [(6, .int x_116.1), (5, .int x_107.1), (0, .ref b), (1, .ref q_1), (2, .ref q_29), (3, .ref q_53), (4, .int s_58.1)] dd_L_law_8.2.2.2.2.2.2.2.2.2.1 (by decide) rfl rfl ?_
      refine xr_goto (tgt := 889) C dd_L_law_8.2.2.2.2.2.2.2.2.2.2.1 rfl ?_
      refine xr_iinc (j := 6) (v := s_58.1 + 4) (n := 892) C [(4, .int (s_58.1 + 4)), (6, .int x_116.1), (5, .int x_107.1), (0, .ref b), (1, .ref q_1), (2, .ref q_29), (3, .ref q_53)] dd_L_law_32.2.2.2.2.2.2.2.2.2.1 rfl rfl (by decide) rfl rfl ?_
      refine xr_goto (tgt := 27) C dd_L_law_32.2.2.2.2.2.2.2.2.2.2.1 rfl ?_
      refine xr_lv (lv' := [(0, .ref b), (1, .ref q_1), (2, .ref q_29), (3, .ref q_53), (4, .int (s_58.1 + 4))]) [3, 4, 5, 6, 0] rfl ?_
      exact hk_58 (s_58.1 + 4, x_116.2.1, x_116.2.2.1, x_116.2.2.2.1, x_116.2.2.2.2.1, x_116.2.2.2.2.2, x_107.2.1, x_107.2.2.1, x_107.2.2.2, s_58.2.2.2.2.2.2.2.2.2.1 + 1, s_58.2.2.2.2.2.2.2.2.2.2 + 6) (Option.some.inj ho_58).symm q_120 q_121 q_112
    replace ho_58 := yf_f c_103 ho_58
    by_cases c_122 : ((xs s_58.1.toNatClampNeg) &&& 31) = 3
    · replace ho_58 := yf_t c_122 ho_58
      refine xr_tableIn (off := 253) (tgt := 296) C dL_law_43 (by rw [c_122]; decide) (by rw [c_122]; decide) (by rw [c_122]; decide) rfl ?_
      refine xr_aload_n (n := 297) (j := 1) C dd_L_law_8.2.2.2.2.2.2.2.2.2.2.2.1 rfl rfl ?_
      refine xr_aload_n (n := 298) (j := 0) C dd_L_law_8.2.2.2.2.2.2.2.2.2.2.2.2.1 rfl rfl ?_
      refine xr_iload (n := 300) (j := 4) C dd_L_law_8.2.2.2.2.2.2.2.2.2.2.2.2.2.1 rfl rfl ?_
      refine xr_iconst (n := 301) (v := 1) C dd_L_law_8.2.2.2.2.2.2.2.2.2.2.2.2.2.2.1 rfl rfl ?_
      refine xr_iadd (n := 302) C dd_L_law_8.2.2.2.2.2.2.2.2.2.2.2.2.2.2.2.1 rfl ?_
      obtain ⟨g_123, ho_58⟩ := yf_g ho_58
      refine xr_sld (n := 303) C hX hbl hbA g_123 dd_L_law_9.1 rfl ?_
      refine xr_aload_n (n := 304) (j := 3) C dd_L_law_9.2.1 rfl rfl ?_
      obtain ⟨x_124, hx_124, ho_58⟩ := yf_b ho_58
      obtain ⟨g_125, ho_58⟩ := yf_g ho_58
      refine xr_callSW (n := 307) (As := [.ref q_1, .int (xs (s_58.1 + 1).toNatClampNeg), .ref q_53]) (rest := []) C (kgL_kind l D cy hl0 (x := q_1) (a := z_28) (o := q_53) (os := a2_58) (n := s_58.2.2.2.2.2.2.1) (t := s_58.2.2.2.2.2.2.2.1) (on := s_58.2.2.2.2.2.2.2.2.1) (i1 := xs (s_58.1 + 1).toNatClampNeg) hx_124) mL_kind u_691 u_692 3 [1, 2] [0] rfl (by decide +kernel) rfl rfl rfl rfl (Nat.le_of_ble_eq_true rfl) (Nat.le_of_ble_eq_true rfl) (Nat.le_of_ble_eq_true rfl) g_125.1 g_125.2 dd_L_law_9.2.2.1 rfl (fun v_126 u_127 hp_128 => ?_)
      obtain ⟨q_129, rfl, rfl⟩ := hp_128
      refine xr_perm C 3 [2, 0, 1] [] [MW q_29 a0_58 a1_58 cy s_58.2.1 s_58.2.2.1 s_58.2.2.2.1 s_58.2.2.2.2.1 s_58.2.2.2.2.2.1, CW q_1 z_28 cy x_124.2.1 x_124.2.2.1, [(q_53, .inr (9, [.long x_124.2.2.2, q_129]))]] rfl (by decide +kernel) rfl ?_
      refine xr_st (st' := [.int x_124.1]) rfl ?_
      refine xr_istore (n := 309) C [(5, .int x_124.1), (0, .ref b), (1, .ref q_1), (2, .ref q_29), (3, .ref q_53), (4, .int s_58.1)] dd_L_law_9.2.2.2.1 (by decide) rfl rfl ?_
      refine xr_aload_n (n := 310) (j := 3) C dd_L_law_9.2.2.2.2.1 rfl rfl ?_
      refine xr_aload_n (n := 311) (j := 1) C dd_L_law_9.2.2.2.2.2.1 rfl rfl ?_
      refine xr_iload (n := 313) (j := 5) C dd_L_law_9.2.2.2.2.2.2.1 rfl rfl ?_
      refine xr_iconst (n := 314) (v := 1) C dd_L_law_9.2.2.2.2.2.2.2.1 rfl rfl ?_
      refine xr_iadd (n := 315) C dd_L_law_9.2.2.2.2.2.2.2.2.1 rfl ?_
      obtain ⟨g_130, ho_58⟩ := yf_g ho_58
      refine xr_sld (n := 316) C hX hbl hbA g_130 dd_L_law_9.2.2.2.2.2.2.2.2.2.1 rfl ?_
      obtain ⟨x_131, hx_131, ho_58⟩ := yf_b ho_58
      refine xr_callVP (n := 319) (As := [.int (xs (s_58.1 + 1).toNatClampNeg)]) (rest := []) C (kgX9w_kind l D cy (g := q_29) (a := a0_58) (ad := a1_58) (sh := s_58.2.1) (n := s_58.2.2.1) (L := s_58.2.2.2.1) (k := s_58.2.2.2.2.1) (G := s_58.2.2.2.2.2.1) (i1 := xs (s_58.1 + 1).toNatClampNeg) hx_131) mX9_kind u_1323 u_1324 u_1325 0 rfl (MW_head _ _ _ _ _ _ _ _ _) rfl 3 [0] [1, 2] rfl (by decide +kernel) rfl rfl rfl rfl (Nat.le_of_ble_eq_true rfl) (Nat.le_of_ble_eq_true rfl) (Nat.le_of_ble_eq_true rfl) g_125.1 g_125.2 dd_L_law_9.2.2.2.2.2.2.2.2.2.2.1 rfl (fun v_132 u_133 hp_134 => ?_)
      obtain ⟨q_135, q_136, rfl, rfl⟩ := hp_134
      refine xr_perm C 3 [0, 1, 2] [] [MW q_29 q_135 q_136 cy x_131.2.1 x_131.2.2.1 x_131.2.2.2.1 x_131.2.2.2.2.1 x_131.2.2.2.2.2, CW q_1 z_28 cy x_124.2.1 x_124.2.2.1, [(q_53, .inr (9, [.long x_124.2.2.2, q_129]))]] rfl (by decide +kernel) rfl ?_
      refine xr_st (st' := [.int x_131.1]) rfl ?_
      refine xr_istore (n := 321) C [(6, .int x_131.1), (5, .int x_124.1), (0, .ref b), (1, .ref q_1), (2, .ref q_29), (3, .ref q_53), (4, .int s_58.1)] dd_L_law_9.2.2.2.2.2.2.2.2.2.2.2.1 (by decide) rfl rfl ?_
      refine xr_goto (tgt := 889) C dd_L_law_9.2.2.2.2.2.2.2.2.2.2.2.2.1 rfl ?_
      refine xr_iinc (j := 6) (v := s_58.1 + 4) (n := 892) C [(4, .int (s_58.1 + 4)), (6, .int x_131.1), (5, .int x_124.1), (0, .ref b), (1, .ref q_1), (2, .ref q_29), (3, .ref q_53)] dd_L_law_32.2.2.2.2.2.2.2.2.2.1 rfl rfl (by decide) rfl rfl ?_
      refine xr_goto (tgt := 27) C dd_L_law_32.2.2.2.2.2.2.2.2.2.2.1 rfl ?_
      refine xr_lv (lv' := [(0, .ref b), (1, .ref q_1), (2, .ref q_29), (3, .ref q_53), (4, .int (s_58.1 + 4))]) [3, 4, 5, 6, 0] rfl ?_
      exact hk_58 (s_58.1 + 4, x_131.2.1, x_131.2.2.1, x_131.2.2.2.1, x_131.2.2.2.2.1, x_131.2.2.2.2.2, x_124.2.1, x_124.2.2.1, x_124.2.2.2, s_58.2.2.2.2.2.2.2.2.2.1 + 1, s_58.2.2.2.2.2.2.2.2.2.2 + 6) (Option.some.inj ho_58).symm q_135 q_136 q_129
    replace ho_58 := yf_f c_122 ho_58
    by_cases c_137 : ((xs s_58.1.toNatClampNeg) &&& 31) = 4
    · replace ho_58 := yf_t c_137 ho_58
      refine xr_tableIn (off := 281) (tgt := 324) C dL_law_43 (by rw [c_137]; decide) (by rw [c_137]; decide) (by rw [c_137]; decide) rfl ?_
      refine xr_aload_n (n := 325) (j := 1) C dd_L_law_9.2.2.2.2.2.2.2.2.2.2.2.2.2.1 rfl rfl ?_
      refine xr_aload_n (n := 326) (j := 0) C dd_L_law_9.2.2.2.2.2.2.2.2.2.2.2.2.2.2.1 rfl rfl ?_
      refine xr_iload (n := 328) (j := 4) C dd_L_law_9.2.2.2.2.2.2.2.2.2.2.2.2.2.2.2.1 rfl rfl ?_
      refine xr_iconst (n := 329) (v := 1) C dd_L_law_10.1 rfl rfl ?_
      refine xr_iadd (n := 330) C dd_L_law_10.2.1 rfl ?_
      obtain ⟨g_138, ho_58⟩ := yf_g ho_58
      refine xr_sld (n := 331) C hX hbl hbA g_138 dd_L_law_10.2.2.1 rfl ?_
      obtain ⟨r_140, hE_140, ho_58⟩ := yf_b ho_58
      have J_140 : X p l e room_1 s m args below meth c D A H0 7 Q [MW q_29 a0_58 a1_58 cy s_58.2.1 s_58.2.2.1 s_58.2.2.2.1 s_58.2.2.2.2.1 s_58.2.2.2.2.2.1, CW q_1 z_28 cy s_58.2.2.2.2.2.2.1 s_58.2.2.2.2.2.2.2.1, [(q_53, .inr (9, [.long s_58.2.2.2.2.2.2.2.2.1, a2_58]))]] s_58.2.2.2.2.2.2.2.2.2.1 s_58.2.2.2.2.2.2.2.2.2.2 [(0, .ref b), (1, .ref q_1), (2, .ref q_29), (3, .ref q_53), (4, .int s_58.1)] 339 [.int r_140, .ref q_1] := by
        refine xr_aload_n (n := 340) (j := 3) C dd_L_law_10.2.2.2.2.2.2.2.1 rfl rfl ?_
        obtain ⟨x_141, hx_141, ho_58⟩ := yf_b ho_58
        obtain ⟨g_142, ho_58⟩ := yf_g ho_58
        refine xr_callSW (n := 343) (As := [.ref q_1, .int r_140, .ref q_53]) (rest := []) C (kgL_checked l D cy hl0 (x := q_1) (a := z_28) (o := q_53) (os := a2_58) (n := s_58.2.2.2.2.2.2.1) (t := s_58.2.2.2.2.2.2.2.1) (on := s_58.2.2.2.2.2.2.2.2.1) (i1 := r_140) hx_141) mL_checked u_699 u_700 3 [1, 2] [0] rfl (by decide +kernel) rfl rfl rfl rfl (Nat.le_of_ble_eq_true rfl) (Nat.le_of_ble_eq_true rfl) (Nat.le_of_ble_eq_true rfl) g_142.1 g_142.2 dd_L_law_10.2.2.2.2.2.2.2.2.1 rfl (fun v_143 u_144 hp_145 => ?_)
        obtain ⟨q_146, rfl, rfl⟩ := hp_145
        refine xr_perm C 3 [2, 0, 1] [] [MW q_29 a0_58 a1_58 cy s_58.2.1 s_58.2.2.1 s_58.2.2.2.1 s_58.2.2.2.2.1 s_58.2.2.2.2.2.1, CW q_1 z_28 cy x_141.2.1 x_141.2.2.1, [(q_53, .inr (9, [.long x_141.2.2.2, q_146]))]] rfl (by decide +kernel) rfl ?_
        refine xr_st (st' := [.int x_141.1]) rfl ?_
        refine xr_istore (n := 345) C [(5, .int x_141.1), (0, .ref b), (1, .ref q_1), (2, .ref q_29), (3, .ref q_53), (4, .int s_58.1)] dd_L_law_10.2.2.2.2.2.2.2.2.2.1 (by decide) rfl rfl ?_
        refine xr_aload_n (n := 346) (j := 3) C dd_L_law_10.2.2.2.2.2.2.2.2.2.2.1 rfl rfl ?_
        refine xr_aload_n (n := 347) (j := 1) C dd_L_law_10.2.2.2.2.2.2.2.2.2.2.2.1 rfl rfl ?_
        refine xr_iload (n := 349) (j := 5) C dd_L_law_10.2.2.2.2.2.2.2.2.2.2.2.2.1 rfl rfl ?_
        refine xr_iconst (n := 350) (v := 1) C dd_L_law_10.2.2.2.2.2.2.2.2.2.2.2.2.2.1 rfl rfl ?_
        refine xr_iadd (n := 351) C dd_L_law_10.2.2.2.2.2.2.2.2.2.2.2.2.2.2.1 rfl ?_
        obtain ⟨g_147, ho_58⟩ := yf_g ho_58
        refine xr_sld (n := 352) C hX hbl hbA g_147 dd_L_law_10.2.2.2.2.2.2.2.2.2.2.2.2.2.2.2.1 rfl ?_
        obtain ⟨r_149, hE_149, ho_58⟩ := yf_b ho_58
        have J_149 : X p l e room_1 s m args below meth c D A H0 7 Q [MW q_29 a0_58 a1_58 cy s_58.2.1 s_58.2.2.1 s_58.2.2.2.1 s_58.2.2.2.2.1 s_58.2.2.2.2.2.1, CW q_1 z_28 cy x_141.2.1 x_141.2.2.1, [(q_53, .inr (9, [.long x_141.2.2.2, q_146]))]] (s_58.2.2.2.2.2.2.2.2.2.1 + 1) (s_58.2.2.2.2.2.2.2.2.2.2 + 6) [(0, .ref b), (1, .ref q_1), (2, .ref q_29), (3, .ref q_53), (4, .int s_58.1)] 360 [.int r_149, .ref q_29] := by
          obtain ⟨x_150, hx_150, ho_58⟩ := yf_b ho_58
          refine xr_callVP (n := 363) (As := [.int r_149]) (rest := []) C (kgX9w_checked l D cy (g := q_29) (a := a0_58) (ad := a1_58) (sh := s_58.2.1) (n := s_58.2.2.1) (L := s_58.2.2.2.1) (k := s_58.2.2.2.2.1) (G := s_58.2.2.2.2.2.1) (i1 := r_149) hx_150) mX9_checked u_1327 u_1328 u_1329 0 rfl (MW_head _ _ _ _ _ _ _ _ _) rfl 3 [0] [1, 2] rfl (by decide +kernel) rfl rfl rfl rfl (Nat.le_of_ble_eq_true rfl) (Nat.le_of_ble_eq_true rfl) (Nat.le_of_ble_eq_true rfl) g_142.1 g_142.2 dd_L_law_11.2.2.2.2.1 rfl (fun v_151 u_152 hp_153 => ?_)
          obtain ⟨q_154, q_155, rfl, rfl⟩ := hp_153
          refine xr_perm C 3 [0, 1, 2] [] [MW q_29 q_154 q_155 cy x_150.2.1 x_150.2.2.1 x_150.2.2.2.1 x_150.2.2.2.2.1 x_150.2.2.2.2.2, CW q_1 z_28 cy x_141.2.1 x_141.2.2.1, [(q_53, .inr (9, [.long x_141.2.2.2, q_146]))]] rfl (by decide +kernel) rfl ?_
          refine xr_st (st' := [.int x_150.1]) rfl ?_
          refine xr_istore (n := 365) C [(6, .int x_150.1), (0, .ref b), (1, .ref q_1), (2, .ref q_29), (3, .ref q_53), (4, .int s_58.1)] dd_L_law_11.2.2.2.2.2.1 (by decide) rfl rfl ?_
          refine xr_goto (tgt := 889) C dd_L_law_11.2.2.2.2.2.2.1 rfl ?_
          refine xr_iinc (j := 5) (v := s_58.1 + 4) (n := 892) C [(4, .int (s_58.1 + 4)), (6, .int x_150.1), (0, .ref b), (1, .ref q_1), (2, .ref q_29), (3, .ref q_53)] dd_L_law_32.2.2.2.2.2.2.2.2.2.1 rfl rfl (by decide) rfl rfl ?_
          refine xr_goto (tgt := 27) C dd_L_law_32.2.2.2.2.2.2.2.2.2.2.1 rfl ?_
          refine xr_lv (lv' := [(0, .ref b), (1, .ref q_1), (2, .ref q_29), (3, .ref q_53), (4, .int (s_58.1 + 4))]) [2, 3, 4, 5, 0] rfl ?_
          exact hk_58 (s_58.1 + 4, x_150.2.1, x_150.2.2.1, x_150.2.2.2.1, x_150.2.2.2.2.1, x_150.2.2.2.2.2, x_141.2.1, x_141.2.2.1, x_141.2.2.2, s_58.2.2.2.2.2.2.2.2.2.1 + 1, s_58.2.2.2.2.2.2.2.2.2.2 + 6) (Option.some.inj ho_58).symm q_154 q_155 q_146
        refine xr_if_eq (tgt := 359) (n := 355) C dd_L_law_11.1 rfl rfl (fun c_156 => ?_) (fun c_156 => ?_)
        · replace hE_149 := yf_t c_156 hE_149
          refine xr_iconst (n := 360) (v := 0) C dd_L_law_11.2.2.2.1 rfl rfl ?_
          refine xr_lv (lv' := [(0, .ref b), (1, .ref q_1), (2, .ref q_29), (3, .ref q_53), (4, .int s_58.1)]) [1, 2, 3, 4, 5] rfl ?_
          have e_157 := Option.some.inj hE_149
          subst e_157
          exact J_149
        · replace hE_149 := yf_f c_156 hE_149
          refine xr_iconst (n := 356) (v := 1) C dd_L_law_11.2.1 rfl rfl ?_
          refine xr_goto (tgt := 360) C dd_L_law_11.2.2.1 rfl ?_
          refine xr_lv (lv' := [(0, .ref b), (1, .ref q_1), (2, .ref q_29), (3, .ref q_53), (4, .int s_58.1)]) [1, 2, 3, 4, 5] rfl ?_
          have e_158 := Option.some.inj hE_149
          subst e_158
          exact J_149
      refine xr_if_eq (tgt := 338) (n := 334) C dd_L_law_10.2.2.2.1 rfl rfl (fun c_159 => ?_) (fun c_159 => ?_)
      · replace hE_140 := yf_t c_159 hE_140
        refine xr_iconst (n := 339) (v := 0) C dd_L_law_10.2.2.2.2.2.2.1 rfl rfl ?_
        have e_160 := Option.some.inj hE_140
        subst e_160
        exact J_140
      · replace hE_140 := yf_f c_159 hE_140
        refine xr_iconst (n := 335) (v := 1) C dd_L_law_10.2.2.2.2.1 rfl rfl ?_
        refine xr_goto (tgt := 339) C dd_L_law_10.2.2.2.2.2.1 rfl ?_
        have e_161 := Option.some.inj hE_140
        subst e_161
        exact J_140
    replace ho_58 := yf_f c_137 ho_58
    by_cases c_162 : ((xs s_58.1.toNatClampNeg) &&& 31) = 5
    · replace ho_58 := yf_t c_162 ho_58
      refine xr_tableIn (off := 325) (tgt := 368) C dL_law_43 (by rw [c_162]; decide) (by rw [c_162]; decide) (by rw [c_162]; decide) rfl ?_
      refine xr_aload_n (n := 369) (j := 1) C dd_L_law_11.2.2.2.2.2.2.2.1 rfl rfl ?_
      refine xr_aload_n (n := 370) (j := 0) C dd_L_law_11.2.2.2.2.2.2.2.2.1 rfl rfl ?_
      refine xr_iload (n := 372) (j := 4) C dd_L_law_11.2.2.2.2.2.2.2.2.2.1 rfl rfl ?_
      refine xr_iconst (n := 373) (v := 1) C dd_L_law_11.2.2.2.2.2.2.2.2.2.2.1 rfl rfl ?_
      refine xr_iadd (n := 374) C dd_L_law_11.2.2.2.2.2.2.2.2.2.2.2.1 rfl ?_
      obtain ⟨g_163, ho_58⟩ := yf_g ho_58
      refine xr_sld (n := 375) C hX hbl hbA g_163 dd_L_law_11.2.2.2.2.2.2.2.2.2.2.2.2.1 rfl ?_
      refine xr_aload_n (n := 376) (j := 0) C dd_L_law_11.2.2.2.2.2.2.2.2.2.2.2.2.2.1 rfl rfl ?_
      refine xr_iload (n := 378) (j := 4) C dd_L_law_11.2.2.2.2.2.2.2.2.2.2.2.2.2.2.1 rfl rfl ?_
      refine xr_iconst (n := 379) (v := 2) C dd_L_law_11.2.2.2.2.2.2.2.2.2.2.2.2.2.2.2.1 rfl rfl ?_
      refine xr_iadd (n := 380) C dd_L_law_12.1 rfl ?_
      obtain ⟨g_164, ho_58⟩ := yf_g ho_58
      refine xr_sld (n := 381) C hX hbl hbA g_164 dd_L_law_12.2.1 rfl ?_
      refine xr_aload_n (n := 382) (j := 0) C dd_L_law_12.2.2.1 rfl rfl ?_
      refine xr_iload (n := 384) (j := 4) C dd_L_law_12.2.2.2.1 rfl rfl ?_
      refine xr_iconst (n := 385) (v := 3) C dd_L_law_12.2.2.2.2.1 rfl rfl ?_
      refine xr_iadd (n := 386) C dd_L_law_12.2.2.2.2.2.1 rfl ?_
      obtain ⟨g_165, ho_58⟩ := yf_g ho_58
      refine xr_sld (n := 387) C hX hbl hbA g_165 dd_L_law_12.2.2.2.2.2.2.1 rfl ?_
      obtain ⟨r_167, hE_167, ho_58⟩ := yf_b ho_58
      have J_167 : X p l e room_1 s m args below meth c D A H0 7 Q [MW q_29 a0_58 a1_58 cy s_58.2.1 s_58.2.2.1 s_58.2.2.2.1 s_58.2.2.2.2.1 s_58.2.2.2.2.2.1, CW q_1 z_28 cy s_58.2.2.2.2.2.2.1 s_58.2.2.2.2.2.2.2.1, [(q_53, .inr (9, [.long s_58.2.2.2.2.2.2.2.2.1, a2_58]))]] s_58.2.2.2.2.2.2.2.2.2.1 s_58.2.2.2.2.2.2.2.2.2.2 [(0, .ref b), (1, .ref q_1), (2, .ref q_29), (3, .ref q_53), (4, .int s_58.1)] 395 [.int r_167, .int (xs (s_58.1 + 2).toNatClampNeg), .int (xs (s_58.1 + 1).toNatClampNeg), .ref q_1] := by
        refine xr_aload_n (n := 396) (j := 3) C dd_L_law_12.2.2.2.2.2.2.2.2.2.2.2.1 rfl rfl ?_
        obtain ⟨x_168, hx_168, ho_58⟩ := yf_b ho_58
        obtain ⟨g_169, ho_58⟩ := yf_g ho_58
        refine xr_callSW (n := 399) (As := [.ref q_1, .int (xs (s_58.1 + 1).toNatClampNeg), .int (xs (s_58.1 + 2).toNatClampNeg), .int r_167, .ref q_53]) (rest := []) C (kgL_broken l D cy hl0 (x := q_1) (a := z_28) (o := q_53) (os := a2_58) (n := s_58.2.2.2.2.2.2.1) (t := s_58.2.2.2.2.2.2.2.1) (on := s_58.2.2.2.2.2.2.2.2.1) (i1 := xs (s_58.1 + 1).toNatClampNeg) (i2 := xs (s_58.1 + 2).toNatClampNeg) (isb := r_167) hx_168) mL_broken u_723 u_724 3 [1, 2] [0] rfl (by decide +kernel) rfl rfl rfl rfl (Nat.le_of_ble_eq_true rfl) (Nat.le_of_ble_eq_true rfl) (Nat.le_of_ble_eq_true rfl) g_169.1 g_169.2 dd_L_law_12.2.2.2.2.2.2.2.2.2.2.2.2.1 rfl (fun v_170 u_171 hp_172 => ?_)
        obtain ⟨q_173, rfl, rfl⟩ := hp_172
        refine xr_perm C 3 [2, 0, 1] [] [MW q_29 a0_58 a1_58 cy s_58.2.1 s_58.2.2.1 s_58.2.2.2.1 s_58.2.2.2.2.1 s_58.2.2.2.2.2.1, CW q_1 z_28 cy x_168.2.1 x_168.2.2.1, [(q_53, .inr (9, [.long x_168.2.2.2, q_173]))]] rfl (by decide +kernel) rfl ?_
        refine xr_st (st' := [.int x_168.1]) rfl ?_
        refine xr_istore (n := 401) C [(5, .int x_168.1), (0, .ref b), (1, .ref q_1), (2, .ref q_29), (3, .ref q_53), (4, .int s_58.1)] dd_L_law_12.2.2.2.2.2.2.2.2.2.2.2.2.2.1 (by decide) rfl rfl ?_
        refine xr_aload_n (n := 402) (j := 3) C dd_L_law_12.2.2.2.2.2.2.2.2.2.2.2.2.2.2.1 rfl rfl ?_
        refine xr_aload_n (n := 403) (j := 1) C dd_L_law_12.2.2.2.2.2.2.2.2.2.2.2.2.2.2.2.1 rfl rfl ?_
        refine xr_iload (n := 405) (j := 5) C dd_L_law_13.1 rfl rfl ?_
        refine xr_iconst (n := 406) (v := 1) C dd_L_law_13.2.1 rfl rfl ?_
        refine xr_iadd (n := 407) C dd_L_law_13.2.2.1 rfl ?_
        obtain ⟨g_174, ho_58⟩ := yf_g ho_58
        refine xr_sld (n := 408) C hX hbl hbA g_174 dd_L_law_13.2.2.2.1 rfl ?_
        refine xr_aload_n (n := 409) (j := 1) C dd_L_law_13.2.2.2.2.1 rfl rfl ?_
        refine xr_iload (n := 411) (j := 5) C dd_L_law_13.2.2.2.2.2.1 rfl rfl ?_
        refine xr_iconst (n := 412) (v := 2) C dd_L_law_13.2.2.2.2.2.2.1 rfl rfl ?_
        refine xr_iadd (n := 413) C dd_L_law_13.2.2.2.2.2.2.2.1 rfl ?_
        obtain ⟨g_175, ho_58⟩ := yf_g ho_58
        refine xr_sld (n := 414) C hX hbl hbA g_175 dd_L_law_13.2.2.2.2.2.2.2.2.1 rfl ?_
        refine xr_aload_n (n := 415) (j := 1) C dd_L_law_13.2.2.2.2.2.2.2.2.2.1 rfl rfl ?_
        refine xr_iload (n := 417) (j := 5) C dd_L_law_13.2.2.2.2.2.2.2.2.2.2.1 rfl rfl ?_
        refine xr_iconst (n := 418) (v := 3) C dd_L_law_13.2.2.2.2.2.2.2.2.2.2.2.1 rfl rfl ?_
        refine xr_iadd (n := 419) C dd_L_law_13.2.2.2.2.2.2.2.2.2.2.2.2.1 rfl ?_
        obtain ⟨g_176, ho_58⟩ := yf_g ho_58
        refine xr_sld (n := 420) C hX hbl hbA g_176 dd_L_law_13.2.2.2.2.2.2.2.2.2.2.2.2.2.1 rfl ?_
        obtain ⟨r_178, hE_178, ho_58⟩ := yf_b ho_58
        have J_178 : X p l e room_1 s m args below meth c D A H0 7 Q [MW q_29 a0_58 a1_58 cy s_58.2.1 s_58.2.2.1 s_58.2.2.2.1 s_58.2.2.2.2.1 s_58.2.2.2.2.2.1, CW q_1 z_28 cy x_168.2.1 x_168.2.2.1, [(q_53, .inr (9, [.long x_168.2.2.2, q_173]))]] (s_58.2.2.2.2.2.2.2.2.2.1 + 1) (s_58.2.2.2.2.2.2.2.2.2.2 + 6) [(0, .ref b), (1, .ref q_1), (2, .ref q_29), (3, .ref q_53), (4, .int s_58.1)] 428 [.int r_178, .int (xs (s_58.1 + 2).toNatClampNeg), .int (xs (s_58.1 + 1).toNatClampNeg), .ref q_29] := by
          obtain ⟨x_179, hx_179, ho_58⟩ := yf_b ho_58
          refine xr_callVP (n := 431) (As := [.int (xs (s_58.1 + 1).toNatClampNeg), .int (xs (s_58.1 + 2).toNatClampNeg), .int r_178]) (rest := []) C (kgX9w_broken l D cy (g := q_29) (a := a0_58) (ad := a1_58) (sh := s_58.2.1) (n := s_58.2.2.1) (L := s_58.2.2.2.1) (k := s_58.2.2.2.2.1) (G := s_58.2.2.2.2.2.1) (i1 := xs (s_58.1 + 1).toNatClampNeg) (i2 := xs (s_58.1 + 2).toNatClampNeg) (isb := r_178) hx_179) mX9_broken u_1331 u_1332 u_1333 0 rfl (MW_head _ _ _ _ _ _ _ _ _) rfl 3 [0] [1, 2] rfl (by decide +kernel) rfl rfl rfl rfl (Nat.le_of_ble_eq_true rfl) (Nat.le_of_ble_eq_true rfl) (Nat.le_of_ble_eq_true rfl) g_169.1 g_169.2 dd_L_law_14.2.2.1 rfl (fun v_180 u_181 hp_182 => ?_)
          obtain ⟨q_183, q_184, rfl, rfl⟩ := hp_182
          refine xr_perm C 3 [0, 1, 2] [] [MW q_29 q_183 q_184 cy x_179.2.1 x_179.2.2.1 x_179.2.2.2.1 x_179.2.2.2.2.1 x_179.2.2.2.2.2, CW q_1 z_28 cy x_168.2.1 x_168.2.2.1, [(q_53, .inr (9, [.long x_168.2.2.2, q_173]))]] rfl (by decide +kernel) rfl ?_
          refine xr_st (st' := [.int x_179.1]) rfl ?_
          refine xr_istore (n := 433) C [(6, .int x_179.1), (0, .ref b), (1, .ref q_1), (2, .ref q_29), (3, .ref q_53), (4, .int s_58.1)] dd_L_law_14.2.2.2.1 (by decide) rfl rfl ?_
          refine xr_goto (tgt := 889) C dd_L_law_14.2.2.2.2.1 rfl ?_
          refine xr_iinc (j := 5) (v := s_58.1 + 4) (n := 892) C [(4, .int (s_58.1 + 4)), (6, .int x_179.1), (0, .ref b), (1, .ref q_1), (2, .ref q_29), (3, .ref q_53)] dd_L_law_32.2.2.2.2.2.2.2.2.2.1 rfl rfl (by decide) rfl rfl ?_
          refine xr_goto (tgt := 27) C dd_L_law_32.2.2.2.2.2.2.2.2.2.2.1 rfl ?_
          refine xr_lv (lv' := [(0, .ref b), (1, .ref q_1), (2, .ref q_29), (3, .ref q_53), (4, .int (s_58.1 + 4))]) [2, 3, 4, 5, 0] rfl ?_
          exact hk_58 (s_58.1 + 4, x_179.2.1, x_179.2.2.1, x_179.2.2.2.1, x_179.2.2.2.2.1, x_179.2.2.2.2.2, x_168.2.1, x_168.2.2.1, x_168.2.2.2, s_58.2.2.2.2.2.2.2.2.2.1 + 1, s_58.2.2.2.2.2.2.2.2.2.2 + 6) (Option.some.inj ho_58).symm q_183 q_184 q_173
        refine xr_if_eq (tgt := 427) (n := 423) C dd_L_law_13.2.2.2.2.2.2.2.2.2.2.2.2.2.2.1 rfl rfl (fun c_185 => ?_) (fun c_185 => ?_)
        · replace hE_178 := yf_t c_185 hE_178
          refine xr_iconst (n := 428) (v := 0) C dd_L_law_14.2.1 rfl rfl ?_
          refine xr_lv (lv' := [(0, .ref b), (1, .ref q_1), (2, .ref q_29), (3, .ref q_53), (4, .int s_58.1)]) [1, 2, 3, 4, 5] rfl ?_
          have e_186 := Option.some.inj hE_178
          subst e_186
          exact J_178
        · replace hE_178 := yf_f c_185 hE_178
          refine xr_iconst (n := 424) (v := 1) C dd_L_law_13.2.2.2.2.2.2.2.2.2.2.2.2.2.2.2.1 rfl rfl ?_
          refine xr_goto (tgt := 428) C dd_L_law_14.1 rfl ?_
          refine xr_lv (lv' := [(0, .ref b), (1, .ref q_1), (2, .ref q_29), (3, .ref q_53), (4, .int s_58.1)]) [1, 2, 3, 4, 5] rfl ?_
          have e_187 := Option.some.inj hE_178
          subst e_187
          exact J_178
      refine xr_if_eq (tgt := 394) (n := 390) C dd_L_law_12.2.2.2.2.2.2.2.1 rfl rfl (fun c_188 => ?_) (fun c_188 => ?_)
      · replace hE_167 := yf_t c_188 hE_167
        refine xr_iconst (n := 395) (v := 0) C dd_L_law_12.2.2.2.2.2.2.2.2.2.2.1 rfl rfl ?_
        have e_189 := Option.some.inj hE_167
        subst e_189
        exact J_167
      · replace hE_167 := yf_f c_188 hE_167
        refine xr_iconst (n := 391) (v := 1) C dd_L_law_12.2.2.2.2.2.2.2.2.1 rfl rfl ?_
        refine xr_goto (tgt := 395) C dd_L_law_12.2.2.2.2.2.2.2.2.2.1 rfl ?_
        have e_190 := Option.some.inj hE_167
        subst e_190
        exact J_167
    replace ho_58 := yf_f c_162 ho_58
    by_cases c_191 : ((xs s_58.1.toNatClampNeg) &&& 31) = 6
    · replace ho_58 := yf_t c_191 ho_58
      refine xr_tableIn (off := 393) (tgt := 436) C dL_law_43 (by rw [c_191]; decide) (by rw [c_191]; decide) (by rw [c_191]; decide) rfl ?_
      refine xr_aload_n (n := 437) (j := 1) C dd_L_law_14.2.2.2.2.2.1 rfl rfl ?_
      refine xr_aload_n (n := 438) (j := 3) C dd_L_law_14.2.2.2.2.2.2.1 rfl rfl ?_
      obtain ⟨x_192, hx_192, ho_58⟩ := yf_b ho_58
      obtain ⟨g_193, ho_58⟩ := yf_g ho_58
      refine xr_callSW (n := 441) (As := [.ref q_1, .ref q_53]) (rest := []) C (kgL_test l D cy hl0 (x := q_1) (a := z_28) (o := q_53) (os := a2_58) (n := s_58.2.2.2.2.2.2.1) (t := s_58.2.2.2.2.2.2.2.1) (on := s_58.2.2.2.2.2.2.2.2.1) hx_192) mL_test u_738 u_739 3 [1, 2] [0] rfl (by decide +kernel) rfl rfl rfl rfl (Nat.le_of_ble_eq_true rfl) (Nat.le_of_ble_eq_true rfl) (Nat.le_of_ble_eq_true rfl) g_193.1 g_193.2 dd_L_law_14.2.2.2.2.2.2.2.1 rfl (fun v_194 u_195 hp_196 => ?_)
      obtain ⟨q_197, rfl, rfl⟩ := hp_196
      refine xr_perm C 3 [2, 0, 1] [] [MW q_29 a0_58 a1_58 cy s_58.2.1 s_58.2.2.1 s_58.2.2.2.1 s_58.2.2.2.2.1 s_58.2.2.2.2.2.1, CW q_1 z_28 cy x_192.2.1 x_192.2.2.1, [(q_53, .inr (9, [.long x_192.2.2.2, q_197]))]] rfl (by decide +kernel) rfl ?_
      refine xr_st (st' := [.int x_192.1]) rfl ?_
      refine xr_istore (n := 443) C [(5, .int x_192.1), (0, .ref b), (1, .ref q_1), (2, .ref q_29), (3, .ref q_53), (4, .int s_58.1)] dd_L_law_14.2.2.2.2.2.2.2.2.1 (by decide) rfl rfl ?_
      refine xr_aload_n (n := 444) (j := 3) C dd_L_law_14.2.2.2.2.2.2.2.2.2.1 rfl rfl ?_
      obtain ⟨x_198, hx_198, ho_58⟩ := yf_b ho_58
      obtain ⟨g_199, ho_58⟩ := yf_g ho_58
      refine xr_callVP (n := 447) (As := []) (rest := []) C (kgX9w_test l D cy (g := q_29) (a := a0_58) (ad := a1_58) (sh := s_58.2.1) (n := s_58.2.2.1) (L := s_58.2.2.2.1) (k := s_58.2.2.2.2.1) (G := s_58.2.2.2.2.2.1) hx_198) mX9_test u_1342 u_1343 u_1344 0 rfl (MW_head _ _ _ _ _ _ _ _ _) rfl 3 [0] [1, 2] rfl (by decide +kernel) rfl rfl rfl rfl (Nat.le_of_ble_eq_true rfl) (Nat.le_of_ble_eq_true rfl) (Nat.le_of_ble_eq_true rfl) g_199.1 g_199.2 dd_L_law_14.2.2.2.2.2.2.2.2.2.2.1 rfl (fun v_200 u_201 hp_202 => ?_)
      obtain ⟨q_203, q_204, rfl, rfl⟩ := hp_202
      refine xr_perm C 3 [0, 1, 2] [] [MW q_29 q_203 q_204 cy x_198.2.1 x_198.2.2.1 x_198.2.2.2.1 x_198.2.2.2.2.1 x_198.2.2.2.2.2, CW q_1 z_28 cy x_192.2.1 x_192.2.2.1, [(q_53, .inr (9, [.long x_192.2.2.2, q_197]))]] rfl (by decide +kernel) rfl ?_
      refine xr_st (st' := [.int x_198.1]) rfl ?_
      refine xr_istore (n := 449) C [(6, .int x_198.1), (5, .int x_192.1), (0, .ref b), (1, .ref q_1), (2, .ref q_29), (3, .ref q_53), (4, .int s_58.1)] dd_L_law_14.2.2.2.2.2.2.2.2.2.2.2.1 (by decide) rfl rfl ?_
      refine xr_goto (tgt := 889) C dd_L_law_14.2.2.2.2.2.2.2.2.2.2.2.2.1 rfl ?_
      refine xr_iinc (j := 6) (v := s_58.1 + 4) (n := 892) C [(4, .int (s_58.1 + 4)), (6, .int x_198.1), (5, .int x_192.1), (0, .ref b), (1, .ref q_1), (2, .ref q_29), (3, .ref q_53)] dd_L_law_32.2.2.2.2.2.2.2.2.2.1 rfl rfl (by decide) rfl rfl ?_
      refine xr_goto (tgt := 27) C dd_L_law_32.2.2.2.2.2.2.2.2.2.2.1 rfl ?_
      refine xr_lv (lv' := [(0, .ref b), (1, .ref q_1), (2, .ref q_29), (3, .ref q_53), (4, .int (s_58.1 + 4))]) [3, 4, 5, 6, 0] rfl ?_
      exact hk_58 (s_58.1 + 4, x_198.2.1, x_198.2.2.1, x_198.2.2.2.1, x_198.2.2.2.2.1, x_198.2.2.2.2.2, x_192.2.1, x_192.2.2.1, x_192.2.2.2, s_58.2.2.2.2.2.2.2.2.2.1 + 1 + 10, s_58.2.2.2.2.2.2.2.2.2.2 + 6 + 50) (Option.some.inj ho_58).symm q_203 q_204 q_197
    replace ho_58 := yf_f c_191 ho_58
    by_cases c_205 : ((xs s_58.1.toNatClampNeg) &&& 31) = 7
    · replace ho_58 := yf_t c_205 ho_58
      refine xr_tableIn (off := 409) (tgt := 452) C dL_law_43 (by rw [c_205]; decide) (by rw [c_205]; decide) (by rw [c_205]; decide) rfl ?_
      refine xr_aload_n (n := 453) (j := 1) C dd_L_law_14.2.2.2.2.2.2.2.2.2.2.2.2.2.1 rfl rfl ?_
      refine xr_aload_n (n := 454) (j := 3) C dd_L_law_14.2.2.2.2.2.2.2.2.2.2.2.2.2.2.1 rfl rfl ?_
      obtain ⟨x_206, hx_206, ho_58⟩ := yf_b ho_58
      obtain ⟨g_207, ho_58⟩ := yf_g ho_58
      refine xr_callSW (n := 457) (As := [.ref q_1, .ref q_53]) (rest := []) C (kgL_start l D cy hl0 (x := q_1) (a := z_28) (o := q_53) (os := a2_58) (n := s_58.2.2.2.2.2.2.1) (t := s_58.2.2.2.2.2.2.2.1) (on := s_58.2.2.2.2.2.2.2.2.1) hx_206) mL_start u_751 u_752 3 [1, 2] [0] rfl (by decide +kernel) rfl rfl rfl rfl (Nat.le_of_ble_eq_true rfl) (Nat.le_of_ble_eq_true rfl) (Nat.le_of_ble_eq_true rfl) g_207.1 g_207.2 dd_L_law_14.2.2.2.2.2.2.2.2.2.2.2.2.2.2.2.1 rfl (fun v_208 u_209 hp_210 => ?_)
      obtain ⟨q_211, rfl, rfl⟩ := hp_210
      refine xr_perm C 3 [2, 0, 1] [] [MW q_29 a0_58 a1_58 cy s_58.2.1 s_58.2.2.1 s_58.2.2.2.1 s_58.2.2.2.2.1 s_58.2.2.2.2.2.1, CW q_1 z_28 cy x_206.2.1 x_206.2.2.1, [(q_53, .inr (9, [.long x_206.2.2.2, q_211]))]] rfl (by decide +kernel) rfl ?_
      refine xr_st (st' := [.int x_206.1]) rfl ?_
      refine xr_istore (n := 459) C [(5, .int x_206.1), (0, .ref b), (1, .ref q_1), (2, .ref q_29), (3, .ref q_53), (4, .int s_58.1)] dd_L_law_15.1 (by decide) rfl rfl ?_
      refine xr_aload_n (n := 460) (j := 3) C dd_L_law_15.2.1 rfl rfl ?_
      obtain ⟨x_212, hx_212, ho_58⟩ := yf_b ho_58
      obtain ⟨g_213, ho_58⟩ := yf_g ho_58
      refine xr_callVP (n := 463) (As := []) (rest := []) C (kgX9w_begin l D cy (g := q_29) (a := a0_58) (ad := a1_58) (sh := s_58.2.1) (n := s_58.2.2.1) (L := s_58.2.2.2.1) (k := s_58.2.2.2.2.1) (G := s_58.2.2.2.2.2.1) hx_212) mX9_start_ u_1351 u_1352 u_1353 0 rfl (MW_head _ _ _ _ _ _ _ _ _) rfl 3 [0] [1, 2] rfl (by decide +kernel) rfl rfl rfl rfl (Nat.le_of_ble_eq_true rfl) (Nat.le_of_ble_eq_true rfl) (Nat.le_of_ble_eq_true rfl) g_213.1 g_213.2 dd_L_law_15.2.2.1 rfl (fun v_214 u_215 hp_216 => ?_)
      obtain ⟨q_217, q_218, rfl, rfl⟩ := hp_216
      refine xr_perm C 3 [0, 1, 2] [] [MW q_29 q_217 q_218 cy x_212.2.1 x_212.2.2.1 x_212.2.2.2.1 x_212.2.2.2.2.1 x_212.2.2.2.2.2, CW q_1 z_28 cy x_206.2.1 x_206.2.2.1, [(q_53, .inr (9, [.long x_206.2.2.2, q_211]))]] rfl (by decide +kernel) rfl ?_
      refine xr_st (st' := [.int x_212.1]) rfl ?_
      refine xr_istore (n := 465) C [(6, .int x_212.1), (5, .int x_206.1), (0, .ref b), (1, .ref q_1), (2, .ref q_29), (3, .ref q_53), (4, .int s_58.1)] dd_L_law_15.2.2.2.1 (by decide) rfl rfl ?_
      refine xr_goto (tgt := 889) C dd_L_law_15.2.2.2.2.1 rfl ?_
      refine xr_iinc (j := 6) (v := s_58.1 + 4) (n := 892) C [(4, .int (s_58.1 + 4)), (6, .int x_212.1), (5, .int x_206.1), (0, .ref b), (1, .ref q_1), (2, .ref q_29), (3, .ref q_53)] dd_L_law_32.2.2.2.2.2.2.2.2.2.1 rfl rfl (by decide) rfl rfl ?_
      refine xr_goto (tgt := 27) C dd_L_law_32.2.2.2.2.2.2.2.2.2.2.1 rfl ?_
      refine xr_lv (lv' := [(0, .ref b), (1, .ref q_1), (2, .ref q_29), (3, .ref q_53), (4, .int (s_58.1 + 4))]) [3, 4, 5, 6, 0] rfl ?_
      exact hk_58 (s_58.1 + 4, x_212.2.1, x_212.2.2.1, x_212.2.2.2.1, x_212.2.2.2.2.1, x_212.2.2.2.2.2, x_206.2.1, x_206.2.2.1, x_206.2.2.2, s_58.2.2.2.2.2.2.2.2.2.1 + 1 + 100, s_58.2.2.2.2.2.2.2.2.2.2 + 6 + 500) (Option.some.inj ho_58).symm q_217 q_218 q_211
    replace ho_58 := yf_f c_205 ho_58
    by_cases c_219 : ((xs s_58.1.toNatClampNeg) &&& 31) = 8
    · replace ho_58 := yf_t c_219 ho_58
      refine xr_tableIn (off := 425) (tgt := 468) C dL_law_43 (by rw [c_219]; decide) (by rw [c_219]; decide) (by rw [c_219]; decide) rfl ?_
      refine xr_aload_n (n := 469) (j := 1) C dd_L_law_15.2.2.2.2.2.1 rfl rfl ?_
      refine xr_aload_n (n := 470) (j := 0) C dd_L_law_15.2.2.2.2.2.2.1 rfl rfl ?_
      refine xr_iload (n := 472) (j := 4) C dd_L_law_15.2.2.2.2.2.2.2.1 rfl rfl ?_
      refine xr_iconst (n := 473) (v := 1) C dd_L_law_15.2.2.2.2.2.2.2.2.1 rfl rfl ?_
      refine xr_iadd (n := 474) C dd_L_law_15.2.2.2.2.2.2.2.2.2.1 rfl ?_
      obtain ⟨g_220, ho_58⟩ := yf_g ho_58
      refine xr_sld (n := 475) C hX hbl hbA g_220 dd_L_law_15.2.2.2.2.2.2.2.2.2.2.1 rfl ?_
      refine xr_aload_n (n := 476) (j := 3) C dd_L_law_15.2.2.2.2.2.2.2.2.2.2.2.1 rfl rfl ?_
      obtain ⟨x_221, hx_221, ho_58⟩ := yf_b ho_58
      obtain ⟨g_222, ho_58⟩ := yf_g ho_58
      refine xr_callSW (n := 479) (As := [.ref q_1, .int (xs (s_58.1 + 1).toNatClampNeg), .ref q_53]) (rest := []) C (kgL_beat l D cy hl0 (x := q_1) (a := z_28) (o := q_53) (os := a2_58) (n := s_58.2.2.2.2.2.2.1) (t := s_58.2.2.2.2.2.2.2.1) (on := s_58.2.2.2.2.2.2.2.2.1) (i1 := xs (s_58.1 + 1).toNatClampNeg) hx_221) mL_beat u_787 u_788 3 [1, 2] [0] rfl (by decide +kernel) rfl rfl rfl rfl (Nat.le_of_ble_eq_true rfl) (Nat.le_of_ble_eq_true rfl) (Nat.le_of_ble_eq_true rfl) g_222.1 g_222.2 dd_L_law_15.2.2.2.2.2.2.2.2.2.2.2.2.1 rfl (fun v_223 u_224 hp_225 => ?_)
      obtain ⟨q_226, rfl, rfl⟩ := hp_225
      refine xr_perm C 3 [2, 0, 1] [] [MW q_29 a0_58 a1_58 cy s_58.2.1 s_58.2.2.1 s_58.2.2.2.1 s_58.2.2.2.2.1 s_58.2.2.2.2.2.1, CW q_1 z_28 cy x_221.2.1 x_221.2.2.1, [(q_53, .inr (9, [.long x_221.2.2.2, q_226]))]] rfl (by decide +kernel) rfl ?_
      refine xr_st (st' := [.int x_221.1]) rfl ?_
      refine xr_istore (n := 481) C [(5, .int x_221.1), (0, .ref b), (1, .ref q_1), (2, .ref q_29), (3, .ref q_53), (4, .int s_58.1)] dd_L_law_15.2.2.2.2.2.2.2.2.2.2.2.2.2.1 (by decide) rfl rfl ?_
      refine xr_aload_n (n := 482) (j := 3) C dd_L_law_15.2.2.2.2.2.2.2.2.2.2.2.2.2.2.1 rfl rfl ?_
      refine xr_aload_n (n := 483) (j := 1) C dd_L_law_15.2.2.2.2.2.2.2.2.2.2.2.2.2.2.2.1 rfl rfl ?_
      refine xr_iload (n := 485) (j := 5) C dd_L_law_16.1 rfl rfl ?_
      refine xr_iconst (n := 486) (v := 1) C dd_L_law_16.2.1 rfl rfl ?_
      refine xr_iadd (n := 487) C dd_L_law_16.2.2.1 rfl ?_
      obtain ⟨g_227, ho_58⟩ := yf_g ho_58
      refine xr_sld (n := 488) C hX hbl hbA g_227 dd_L_law_16.2.2.2.1 rfl ?_
      obtain ⟨x_228, hx_228, ho_58⟩ := yf_b ho_58
      obtain ⟨g_229, ho_58⟩ := yf_g ho_58
      refine xr_callVP (n := 491) (As := [.int (xs (s_58.1 + 1).toNatClampNeg)]) (rest := []) C (kgX9w_beat l D cy (g := q_29) (a := a0_58) (ad := a1_58) (sh := s_58.2.1) (n := s_58.2.2.1) (L := s_58.2.2.2.1) (k := s_58.2.2.2.2.1) (G := s_58.2.2.2.2.2.1) (i1 := xs (s_58.1 + 1).toNatClampNeg) hx_228) mX9_beat u_1434 u_1435 u_1436 0 rfl (MW_head _ _ _ _ _ _ _ _ _) rfl 3 [0] [1, 2] rfl (by decide +kernel) rfl rfl rfl rfl (Nat.le_of_ble_eq_true rfl) (Nat.le_of_ble_eq_true rfl) (Nat.le_of_ble_eq_true rfl) g_229.1 g_229.2 dd_L_law_16.2.2.2.2.1 rfl (fun v_230 u_231 hp_232 => ?_)
      obtain ⟨q_233, q_234, rfl, rfl⟩ := hp_232
      refine xr_perm C 3 [0, 1, 2] [] [MW q_29 q_233 q_234 cy x_228.2.1 x_228.2.2.1 x_228.2.2.2.1 x_228.2.2.2.2.1 x_228.2.2.2.2.2, CW q_1 z_28 cy x_221.2.1 x_221.2.2.1, [(q_53, .inr (9, [.long x_221.2.2.2, q_226]))]] rfl (by decide +kernel) rfl ?_
      refine xr_st (st' := [.int x_228.1]) rfl ?_
      refine xr_istore (n := 493) C [(6, .int x_228.1), (5, .int x_221.1), (0, .ref b), (1, .ref q_1), (2, .ref q_29), (3, .ref q_53), (4, .int s_58.1)] dd_L_law_16.2.2.2.2.2.1 (by decide) rfl rfl ?_
      refine xr_goto (tgt := 889) C dd_L_law_16.2.2.2.2.2.2.1 rfl ?_
      refine xr_iinc (j := 6) (v := s_58.1 + 4) (n := 892) C [(4, .int (s_58.1 + 4)), (6, .int x_228.1), (5, .int x_221.1), (0, .ref b), (1, .ref q_1), (2, .ref q_29), (3, .ref q_53)] dd_L_law_32.2.2.2.2.2.2.2.2.2.1 rfl rfl (by decide) rfl rfl ?_
      refine xr_goto (tgt := 27) C dd_L_law_32.2.2.2.2.2.2.2.2.2.2.1 rfl ?_
      refine xr_lv (lv' := [(0, .ref b), (1, .ref q_1), (2, .ref q_29), (3, .ref q_53), (4, .int (s_58.1 + 4))]) [3, 4, 5, 6, 0] rfl ?_
      exact hk_58 (s_58.1 + 4, x_228.2.1, x_228.2.2.1, x_228.2.2.2.1, x_228.2.2.2.2.1, x_228.2.2.2.2.2, x_221.2.1, x_221.2.2.1, x_221.2.2.2, s_58.2.2.2.2.2.2.2.2.2.1 + 1 + 200, s_58.2.2.2.2.2.2.2.2.2.2 + 6 + 1800) (Option.some.inj ho_58).symm q_233 q_234 q_226
    replace ho_58 := yf_f c_219 ho_58
    by_cases c_235 : ((xs s_58.1.toNatClampNeg) &&& 31) = 9
    · replace ho_58 := yf_t c_235 ho_58
      refine xr_tableIn (off := 453) (tgt := 496) C dL_law_43 (by rw [c_235]; decide) (by rw [c_235]; decide) (by rw [c_235]; decide) rfl ?_
      refine xr_aload_n (n := 497) (j := 1) C dd_L_law_16.2.2.2.2.2.2.2.1 rfl rfl ?_
      refine xr_aload_n (n := 498) (j := 0) C dd_L_law_16.2.2.2.2.2.2.2.2.1 rfl rfl ?_
      refine xr_iload (n := 500) (j := 4) C dd_L_law_16.2.2.2.2.2.2.2.2.2.1 rfl rfl ?_
      refine xr_iconst (n := 501) (v := 1) C dd_L_law_16.2.2.2.2.2.2.2.2.2.2.1 rfl rfl ?_
      refine xr_iadd (n := 502) C dd_L_law_16.2.2.2.2.2.2.2.2.2.2.2.1 rfl ?_
      obtain ⟨g_236, ho_58⟩ := yf_g ho_58
      refine xr_sld (n := 503) C hX hbl hbA g_236 dd_L_law_16.2.2.2.2.2.2.2.2.2.2.2.2.1 rfl ?_
      refine xr_aload_n (n := 504) (j := 0) C dd_L_law_16.2.2.2.2.2.2.2.2.2.2.2.2.2.1 rfl rfl ?_
      refine xr_iload (n := 506) (j := 4) C dd_L_law_16.2.2.2.2.2.2.2.2.2.2.2.2.2.2.1 rfl rfl ?_
      refine xr_iconst (n := 507) (v := 2) C dd_L_law_16.2.2.2.2.2.2.2.2.2.2.2.2.2.2.2.1 rfl rfl ?_
      refine xr_iadd (n := 508) C dd_L_law_17.1 rfl ?_
      obtain ⟨g_237, ho_58⟩ := yf_g ho_58
      refine xr_sld (n := 509) C hX hbl hbA g_237 dd_L_law_17.2.1 rfl ?_
      refine xr_aload_n (n := 510) (j := 0) C dd_L_law_17.2.2.1 rfl rfl ?_
      refine xr_iload (n := 512) (j := 4) C dd_L_law_17.2.2.2.1 rfl rfl ?_
      refine xr_iconst (n := 513) (v := 3) C dd_L_law_17.2.2.2.2.1 rfl rfl ?_
      refine xr_iadd (n := 514) C dd_L_law_17.2.2.2.2.2.1 rfl ?_
      obtain ⟨g_238, ho_58⟩ := yf_g ho_58
      refine xr_sld (n := 515) C hX hbl hbA g_238 dd_L_law_17.2.2.2.2.2.2.1 rfl ?_
      refine xr_aload_n (n := 516) (j := 3) C dd_L_law_17.2.2.2.2.2.2.2.1 rfl rfl ?_
      obtain ⟨x_239, hx_239, ho_58⟩ := yf_b ho_58
      obtain ⟨g_240, ho_58⟩ := yf_g ho_58
      refine xr_callSW (n := 519) (As := [.ref q_1, .int (xs (s_58.1 + 1).toNatClampNeg), .int (xs (s_58.1 + 2).toNatClampNeg), .int (xs (s_58.1 + 3).toNatClampNeg), .ref q_53]) (rest := []) C (kgL_bend l D cy hl0 (x := q_1) (a := z_28) (o := q_53) (os := a2_58) (n := s_58.2.2.2.2.2.2.1) (t := s_58.2.2.2.2.2.2.2.1) (on := s_58.2.2.2.2.2.2.2.2.1) (i1 := xs (s_58.1 + 1).toNatClampNeg) (i2 := xs (s_58.1 + 2).toNatClampNeg) (i3 := xs (s_58.1 + 3).toNatClampNeg) hx_239) mL_bend u_829 u_830 3 [1, 2] [0] rfl (by decide +kernel) rfl rfl rfl rfl (Nat.le_of_ble_eq_true rfl) (Nat.le_of_ble_eq_true rfl) (Nat.le_of_ble_eq_true rfl) g_240.1 g_240.2 dd_L_law_17.2.2.2.2.2.2.2.2.1 rfl (fun v_241 u_242 hp_243 => ?_)
      obtain ⟨q_244, rfl, rfl⟩ := hp_243
      refine xr_perm C 3 [2, 0, 1] [] [MW q_29 a0_58 a1_58 cy s_58.2.1 s_58.2.2.1 s_58.2.2.2.1 s_58.2.2.2.2.1 s_58.2.2.2.2.2.1, CW q_1 z_28 cy x_239.2.1 x_239.2.2.1, [(q_53, .inr (9, [.long x_239.2.2.2, q_244]))]] rfl (by decide +kernel) rfl ?_
      refine xr_st (st' := [.int x_239.1]) rfl ?_
      refine xr_istore (n := 521) C [(5, .int x_239.1), (0, .ref b), (1, .ref q_1), (2, .ref q_29), (3, .ref q_53), (4, .int s_58.1)] dd_L_law_17.2.2.2.2.2.2.2.2.2.1 (by decide) rfl rfl ?_
      refine xr_aload_n (n := 522) (j := 3) C dd_L_law_17.2.2.2.2.2.2.2.2.2.2.1 rfl rfl ?_
      refine xr_aload_n (n := 523) (j := 1) C dd_L_law_17.2.2.2.2.2.2.2.2.2.2.2.1 rfl rfl ?_
      refine xr_iload (n := 525) (j := 5) C dd_L_law_17.2.2.2.2.2.2.2.2.2.2.2.2.1 rfl rfl ?_
      refine xr_iconst (n := 526) (v := 1) C dd_L_law_17.2.2.2.2.2.2.2.2.2.2.2.2.2.1 rfl rfl ?_
      refine xr_iadd (n := 527) C dd_L_law_17.2.2.2.2.2.2.2.2.2.2.2.2.2.2.1 rfl ?_
      obtain ⟨g_245, ho_58⟩ := yf_g ho_58
      refine xr_sld (n := 528) C hX hbl hbA g_245 dd_L_law_17.2.2.2.2.2.2.2.2.2.2.2.2.2.2.2.1 rfl ?_
      refine xr_aload_n (n := 529) (j := 1) C dd_L_law_18.1 rfl rfl ?_
      refine xr_iload (n := 531) (j := 5) C dd_L_law_18.2.1 rfl rfl ?_
      refine xr_iconst (n := 532) (v := 2) C dd_L_law_18.2.2.1 rfl rfl ?_
      refine xr_iadd (n := 533) C dd_L_law_18.2.2.2.1 rfl ?_
      obtain ⟨g_246, ho_58⟩ := yf_g ho_58
      refine xr_sld (n := 534) C hX hbl hbA g_246 dd_L_law_18.2.2.2.2.1 rfl ?_
      refine xr_aload_n (n := 535) (j := 1) C dd_L_law_18.2.2.2.2.2.1 rfl rfl ?_
      refine xr_iload (n := 537) (j := 5) C dd_L_law_18.2.2.2.2.2.2.1 rfl rfl ?_
      refine xr_iconst (n := 538) (v := 3) C dd_L_law_18.2.2.2.2.2.2.2.1 rfl rfl ?_
      refine xr_iadd (n := 539) C dd_L_law_18.2.2.2.2.2.2.2.2.1 rfl ?_
      obtain ⟨g_247, ho_58⟩ := yf_g ho_58
      refine xr_sld (n := 540) C hX hbl hbA g_247 dd_L_law_18.2.2.2.2.2.2.2.2.2.1 rfl ?_
      obtain ⟨x_248, hx_248, ho_58⟩ := yf_b ho_58
      refine xr_callVP (n := 543) (As := [.int (xs (s_58.1 + 1).toNatClampNeg), .int (xs (s_58.1 + 2).toNatClampNeg), .int (xs (s_58.1 + 3).toNatClampNeg)]) (rest := []) C (kgX9w_bend l D cy (g := q_29) (a := a0_58) (ad := a1_58) (sh := s_58.2.1) (n := s_58.2.2.1) (L := s_58.2.2.2.1) (k := s_58.2.2.2.2.1) (G := s_58.2.2.2.2.2.1) (i1 := xs (s_58.1 + 1).toNatClampNeg) (i2 := xs (s_58.1 + 2).toNatClampNeg) (i3 := xs (s_58.1 + 3).toNatClampNeg) hx_248) mX9_bend u_1484 u_1485 u_1486 0 rfl (MW_head _ _ _ _ _ _ _ _ _) rfl 3 [0] [1, 2] rfl (by decide +kernel) rfl rfl rfl rfl (Nat.le_of_ble_eq_true rfl) (Nat.le_of_ble_eq_true rfl) (Nat.le_of_ble_eq_true rfl) g_240.1 g_240.2 dd_L_law_18.2.2.2.2.2.2.2.2.2.2.1 rfl (fun v_249 u_250 hp_251 => ?_)
      obtain ⟨q_252, q_253, rfl, rfl⟩ := hp_251
      refine xr_perm C 3 [0, 1, 2] [] [MW q_29 q_252 q_253 cy x_248.2.1 x_248.2.2.1 x_248.2.2.2.1 x_248.2.2.2.2.1 x_248.2.2.2.2.2, CW q_1 z_28 cy x_239.2.1 x_239.2.2.1, [(q_53, .inr (9, [.long x_239.2.2.2, q_244]))]] rfl (by decide +kernel) rfl ?_
      refine xr_st (st' := [.int x_248.1]) rfl ?_
      refine xr_istore (n := 545) C [(6, .int x_248.1), (5, .int x_239.1), (0, .ref b), (1, .ref q_1), (2, .ref q_29), (3, .ref q_53), (4, .int s_58.1)] dd_L_law_18.2.2.2.2.2.2.2.2.2.2.2.1 (by decide) rfl rfl ?_
      refine xr_goto (tgt := 889) C dd_L_law_18.2.2.2.2.2.2.2.2.2.2.2.2.1 rfl ?_
      refine xr_iinc (j := 6) (v := s_58.1 + 4) (n := 892) C [(4, .int (s_58.1 + 4)), (6, .int x_248.1), (5, .int x_239.1), (0, .ref b), (1, .ref q_1), (2, .ref q_29), (3, .ref q_53)] dd_L_law_32.2.2.2.2.2.2.2.2.2.1 rfl rfl (by decide) rfl rfl ?_
      refine xr_goto (tgt := 27) C dd_L_law_32.2.2.2.2.2.2.2.2.2.2.1 rfl ?_
      refine xr_lv (lv' := [(0, .ref b), (1, .ref q_1), (2, .ref q_29), (3, .ref q_53), (4, .int (s_58.1 + 4))]) [3, 4, 5, 6, 0] rfl ?_
      exact hk_58 (s_58.1 + 4, x_248.2.1, x_248.2.2.1, x_248.2.2.2.1, x_248.2.2.2.2.1, x_248.2.2.2.2.2, x_239.2.1, x_239.2.2.1, x_239.2.2.2, s_58.2.2.2.2.2.2.2.2.2.1 + 1, s_58.2.2.2.2.2.2.2.2.2.2 + 6) (Option.some.inj ho_58).symm q_252 q_253 q_244
    replace ho_58 := yf_f c_235 ho_58
    by_cases c_254 : ((xs s_58.1.toNatClampNeg) &&& 31) = 10
    · replace ho_58 := yf_t c_254 ho_58
      refine xr_tableIn (off := 505) (tgt := 548) C dL_law_43 (by rw [c_254]; decide) (by rw [c_254]; decide) (by rw [c_254]; decide) rfl ?_
      refine xr_aload_n (n := 549) (j := 1) C dd_L_law_18.2.2.2.2.2.2.2.2.2.2.2.2.2.1 rfl rfl ?_
      refine xr_aload_n (n := 550) (j := 3) C dd_L_law_18.2.2.2.2.2.2.2.2.2.2.2.2.2.2.1 rfl rfl ?_
      obtain ⟨x_255, hx_255, ho_58⟩ := yf_b ho_58
      obtain ⟨g_256, ho_58⟩ := yf_g ho_58
      refine xr_callSW (n := 553) (As := [.ref q_1, .ref q_53]) (rest := []) C (kgL_check l D cy hl0 (x := q_1) (a := z_28) (o := q_53) (os := a2_58) (n := s_58.2.2.2.2.2.2.1) (t := s_58.2.2.2.2.2.2.2.1) (on := s_58.2.2.2.2.2.2.2.2.1) hx_255) mL_check u_842 u_843 3 [1, 2] [0] rfl (by decide +kernel) rfl rfl rfl rfl (Nat.le_of_ble_eq_true rfl) (Nat.le_of_ble_eq_true rfl) (Nat.le_of_ble_eq_true rfl) g_256.1 g_256.2 dd_L_law_18.2.2.2.2.2.2.2.2.2.2.2.2.2.2.2.1 rfl (fun v_257 u_258 hp_259 => ?_)
      obtain ⟨q_260, rfl, rfl⟩ := hp_259
      refine xr_perm C 3 [2, 0, 1] [] [MW q_29 a0_58 a1_58 cy s_58.2.1 s_58.2.2.1 s_58.2.2.2.1 s_58.2.2.2.2.1 s_58.2.2.2.2.2.1, CW q_1 z_28 cy x_255.2.1 x_255.2.2.1, [(q_53, .inr (9, [.long x_255.2.2.2, q_260]))]] rfl (by decide +kernel) rfl ?_
      refine xr_st (st' := [.int x_255.1]) rfl ?_
      refine xr_istore (n := 555) C [(5, .int x_255.1), (0, .ref b), (1, .ref q_1), (2, .ref q_29), (3, .ref q_53), (4, .int s_58.1)] dd_L_law_19.1 (by decide) rfl rfl ?_
      refine xr_aload_n (n := 556) (j := 3) C dd_L_law_19.2.1 rfl rfl ?_
      obtain ⟨x_261, hx_261, ho_58⟩ := yf_b ho_58
      refine xr_callVP (n := 559) (As := []) (rest := []) C (kgX9w_check l D cy (g := q_29) (a := a0_58) (ad := a1_58) (sh := s_58.2.1) (n := s_58.2.2.1) (L := s_58.2.2.2.1) (k := s_58.2.2.2.2.1) (G := s_58.2.2.2.2.2.1) hx_261) mX9_check u_1492 u_1493 u_1494 0 rfl (MW_head _ _ _ _ _ _ _ _ _) rfl 3 [0] [1, 2] rfl (by decide +kernel) rfl rfl rfl rfl (Nat.le_of_ble_eq_true rfl) (Nat.le_of_ble_eq_true rfl) (Nat.le_of_ble_eq_true rfl) g_256.1 g_256.2 dd_L_law_19.2.2.1 rfl (fun v_262 u_263 hp_264 => ?_)
      obtain ⟨q_265, q_266, rfl, rfl⟩ := hp_264
      refine xr_perm C 3 [0, 1, 2] [] [MW q_29 q_265 q_266 cy x_261.2.1 x_261.2.2.1 x_261.2.2.2.1 x_261.2.2.2.2.1 x_261.2.2.2.2.2, CW q_1 z_28 cy x_255.2.1 x_255.2.2.1, [(q_53, .inr (9, [.long x_255.2.2.2, q_260]))]] rfl (by decide +kernel) rfl ?_
      refine xr_st (st' := [.int x_261.1]) rfl ?_
      refine xr_istore (n := 561) C [(6, .int x_261.1), (5, .int x_255.1), (0, .ref b), (1, .ref q_1), (2, .ref q_29), (3, .ref q_53), (4, .int s_58.1)] dd_L_law_19.2.2.2.1 (by decide) rfl rfl ?_
      refine xr_goto (tgt := 889) C dd_L_law_19.2.2.2.2.1 rfl ?_
      refine xr_iinc (j := 6) (v := s_58.1 + 4) (n := 892) C [(4, .int (s_58.1 + 4)), (6, .int x_261.1), (5, .int x_255.1), (0, .ref b), (1, .ref q_1), (2, .ref q_29), (3, .ref q_53)] dd_L_law_32.2.2.2.2.2.2.2.2.2.1 rfl rfl (by decide) rfl rfl ?_
      refine xr_goto (tgt := 27) C dd_L_law_32.2.2.2.2.2.2.2.2.2.2.1 rfl ?_
      refine xr_lv (lv' := [(0, .ref b), (1, .ref q_1), (2, .ref q_29), (3, .ref q_53), (4, .int (s_58.1 + 4))]) [3, 4, 5, 6, 0] rfl ?_
      exact hk_58 (s_58.1 + 4, x_261.2.1, x_261.2.2.1, x_261.2.2.2.1, x_261.2.2.2.2.1, x_261.2.2.2.2.2, x_255.2.1, x_255.2.2.1, x_255.2.2.2, s_58.2.2.2.2.2.2.2.2.2.1 + 1, s_58.2.2.2.2.2.2.2.2.2.2 + 6) (Option.some.inj ho_58).symm q_265 q_266 q_260
    replace ho_58 := yf_f c_254 ho_58
    by_cases c_267 : ((xs s_58.1.toNatClampNeg) &&& 31) = 11
    · replace ho_58 := yf_t c_267 ho_58
      refine xr_tableIn (off := 521) (tgt := 564) C dL_law_43 (by rw [c_267]; decide) (by rw [c_267]; decide) (by rw [c_267]; decide) rfl ?_
      refine xr_aload_n (n := 565) (j := 1) C dd_L_law_19.2.2.2.2.2.1 rfl rfl ?_
      refine xr_aload_n (n := 566) (j := 0) C dd_L_law_19.2.2.2.2.2.2.1 rfl rfl ?_
      refine xr_iload (n := 568) (j := 4) C dd_L_law_19.2.2.2.2.2.2.2.1 rfl rfl ?_
      refine xr_iconst (n := 569) (v := 1) C dd_L_law_19.2.2.2.2.2.2.2.2.1 rfl rfl ?_
      refine xr_iadd (n := 570) C dd_L_law_19.2.2.2.2.2.2.2.2.2.1 rfl ?_
      obtain ⟨g_268, ho_58⟩ := yf_g ho_58
      refine xr_sld (n := 571) C hX hbl hbA g_268 dd_L_law_19.2.2.2.2.2.2.2.2.2.2.1 rfl ?_
      refine xr_aload_n (n := 572) (j := 3) C dd_L_law_19.2.2.2.2.2.2.2.2.2.2.2.1 rfl rfl ?_
      obtain ⟨x_269, hx_269, ho_58⟩ := yf_b ho_58
      obtain ⟨g_270, ho_58⟩ := yf_g ho_58
      refine xr_callSW (n := 575) (As := [.ref q_1, .int (xs (s_58.1 + 1).toNatClampNeg), .ref q_53]) (rest := []) C (kgL_mesh l D cy hl0 (x := q_1) (a := z_28) (o := q_53) (os := a2_58) (n := s_58.2.2.2.2.2.2.1) (t := s_58.2.2.2.2.2.2.2.1) (on := s_58.2.2.2.2.2.2.2.2.1) (i1 := xs (s_58.1 + 1).toNatClampNeg) hx_269) mL_mesh u_868 u_869 3 [1, 2] [0] rfl (by decide +kernel) rfl rfl rfl rfl (Nat.le_of_ble_eq_true rfl) (Nat.le_of_ble_eq_true rfl) (Nat.le_of_ble_eq_true rfl) g_270.1 g_270.2 dd_L_law_19.2.2.2.2.2.2.2.2.2.2.2.2.1 rfl (fun v_271 u_272 hp_273 => ?_)
      obtain ⟨q_274, rfl, rfl⟩ := hp_273
      refine xr_perm C 3 [2, 0, 1] [] [MW q_29 a0_58 a1_58 cy s_58.2.1 s_58.2.2.1 s_58.2.2.2.1 s_58.2.2.2.2.1 s_58.2.2.2.2.2.1, CW q_1 z_28 cy x_269.2.1 x_269.2.2.1, [(q_53, .inr (9, [.long x_269.2.2.2, q_274]))]] rfl (by decide +kernel) rfl ?_
      refine xr_st (st' := [.int x_269.1]) rfl ?_
      refine xr_istore (n := 577) C [(5, .int x_269.1), (0, .ref b), (1, .ref q_1), (2, .ref q_29), (3, .ref q_53), (4, .int s_58.1)] dd_L_law_19.2.2.2.2.2.2.2.2.2.2.2.2.2.1 (by decide) rfl rfl ?_
      refine xr_aload_n (n := 578) (j := 3) C dd_L_law_19.2.2.2.2.2.2.2.2.2.2.2.2.2.2.1 rfl rfl ?_
      refine xr_aload_n (n := 579) (j := 1) C dd_L_law_19.2.2.2.2.2.2.2.2.2.2.2.2.2.2.2.1 rfl rfl ?_
      refine xr_iload (n := 581) (j := 5) C dd_L_law_20.1 rfl rfl ?_
      refine xr_iconst (n := 582) (v := 1) C dd_L_law_20.2.1 rfl rfl ?_
      refine xr_iadd (n := 583) C dd_L_law_20.2.2.1 rfl ?_
      obtain ⟨g_275, ho_58⟩ := yf_g ho_58
      refine xr_sld (n := 584) C hX hbl hbA g_275 dd_L_law_20.2.2.2.1 rfl ?_
      obtain ⟨x_276, hx_276, ho_58⟩ := yf_b ho_58
      refine xr_callVP (n := 587) (As := [.int (xs (s_58.1 + 1).toNatClampNeg)]) (rest := []) C (kgX9w_mesh l D cy (g := q_29) (a := a0_58) (ad := a1_58) (sh := s_58.2.1) (n := s_58.2.2.1) (L := s_58.2.2.2.1) (k := s_58.2.2.2.2.1) (G := s_58.2.2.2.2.2.1) (i1 := xs (s_58.1 + 1).toNatClampNeg) hx_276) mX9_mesh u_1508 u_1509 u_1510 0 rfl (MW_head _ _ _ _ _ _ _ _ _) rfl 3 [0] [1, 2] rfl (by decide +kernel) rfl rfl rfl rfl (Nat.le_of_ble_eq_true rfl) (Nat.le_of_ble_eq_true rfl) (Nat.le_of_ble_eq_true rfl) g_270.1 g_270.2 dd_L_law_20.2.2.2.2.1 rfl (fun v_277 u_278 hp_279 => ?_)
      obtain ⟨q_280, q_281, rfl, rfl⟩ := hp_279
      refine xr_perm C 3 [0, 1, 2] [] [MW q_29 q_280 q_281 cy x_276.2.1 x_276.2.2.1 x_276.2.2.2.1 x_276.2.2.2.2.1 x_276.2.2.2.2.2, CW q_1 z_28 cy x_269.2.1 x_269.2.2.1, [(q_53, .inr (9, [.long x_269.2.2.2, q_274]))]] rfl (by decide +kernel) rfl ?_
      refine xr_st (st' := [.int x_276.1]) rfl ?_
      refine xr_istore (n := 589) C [(6, .int x_276.1), (5, .int x_269.1), (0, .ref b), (1, .ref q_1), (2, .ref q_29), (3, .ref q_53), (4, .int s_58.1)] dd_L_law_20.2.2.2.2.2.1 (by decide) rfl rfl ?_
      refine xr_goto (tgt := 889) C dd_L_law_20.2.2.2.2.2.2.1 rfl ?_
      refine xr_iinc (j := 6) (v := s_58.1 + 4) (n := 892) C [(4, .int (s_58.1 + 4)), (6, .int x_276.1), (5, .int x_269.1), (0, .ref b), (1, .ref q_1), (2, .ref q_29), (3, .ref q_53)] dd_L_law_32.2.2.2.2.2.2.2.2.2.1 rfl rfl (by decide) rfl rfl ?_
      refine xr_goto (tgt := 27) C dd_L_law_32.2.2.2.2.2.2.2.2.2.2.1 rfl ?_
      refine xr_lv (lv' := [(0, .ref b), (1, .ref q_1), (2, .ref q_29), (3, .ref q_53), (4, .int (s_58.1 + 4))]) [3, 4, 5, 6, 0] rfl ?_
      exact hk_58 (s_58.1 + 4, x_276.2.1, x_276.2.2.1, x_276.2.2.2.1, x_276.2.2.2.2.1, x_276.2.2.2.2.2, x_269.2.1, x_269.2.2.1, x_269.2.2.2, s_58.2.2.2.2.2.2.2.2.2.1 + 1, s_58.2.2.2.2.2.2.2.2.2.2 + 6) (Option.some.inj ho_58).symm q_280 q_281 q_274
    replace ho_58 := yf_f c_267 ho_58
    by_cases c_282 : ((xs s_58.1.toNatClampNeg) &&& 31) = 12
    · replace ho_58 := yf_t c_282 ho_58
      refine xr_tableIn (off := 549) (tgt := 592) C dL_law_43 (by rw [c_282]; decide) (by rw [c_282]; decide) (by rw [c_282]; decide) rfl ?_
      refine xr_aload_n (n := 593) (j := 1) C dd_L_law_20.2.2.2.2.2.2.2.1 rfl rfl ?_
      refine xr_aload_n (n := 594) (j := 0) C dd_L_law_20.2.2.2.2.2.2.2.2.1 rfl rfl ?_
      refine xr_iload (n := 596) (j := 4) C dd_L_law_20.2.2.2.2.2.2.2.2.2.1 rfl rfl ?_
      refine xr_iconst (n := 597) (v := 1) C dd_L_law_20.2.2.2.2.2.2.2.2.2.2.1 rfl rfl ?_
      refine xr_iadd (n := 598) C dd_L_law_20.2.2.2.2.2.2.2.2.2.2.2.1 rfl ?_
      obtain ⟨g_283, ho_58⟩ := yf_g ho_58
      refine xr_sld (n := 599) C hX hbl hbA g_283 dd_L_law_20.2.2.2.2.2.2.2.2.2.2.2.2.1 rfl ?_
      refine xr_aload_n (n := 600) (j := 0) C dd_L_law_20.2.2.2.2.2.2.2.2.2.2.2.2.2.1 rfl rfl ?_
      refine xr_iload (n := 602) (j := 4) C dd_L_law_20.2.2.2.2.2.2.2.2.2.2.2.2.2.2.1 rfl rfl ?_
      refine xr_iconst (n := 603) (v := 2) C dd_L_law_20.2.2.2.2.2.2.2.2.2.2.2.2.2.2.2.1 rfl rfl ?_
      refine xr_iadd (n := 604) C dd_L_law_21.1 rfl ?_
      obtain ⟨g_284, ho_58⟩ := yf_g ho_58
      refine xr_sld (n := 605) C hX hbl hbA g_284 dd_L_law_21.2.1 rfl ?_
      refine xr_aload_n (n := 606) (j := 0) C dd_L_law_21.2.2.1 rfl rfl ?_
      refine xr_iload (n := 608) (j := 4) C dd_L_law_21.2.2.2.1 rfl rfl ?_
      refine xr_iconst (n := 609) (v := 3) C dd_L_law_21.2.2.2.2.1 rfl rfl ?_
      refine xr_iadd (n := 610) C dd_L_law_21.2.2.2.2.2.1 rfl ?_
      obtain ⟨g_285, ho_58⟩ := yf_g ho_58
      refine xr_sld (n := 611) C hX hbl hbA g_285 dd_L_law_21.2.2.2.2.2.2.1 rfl ?_
      refine xr_aload_n (n := 612) (j := 3) C dd_L_law_21.2.2.2.2.2.2.2.1 rfl rfl ?_
      obtain ⟨x_286, hx_286, ho_58⟩ := yf_b ho_58
      obtain ⟨g_287, ho_58⟩ := yf_g ho_58
      refine xr_callSW (n := 615) (As := [.ref q_1, .int (xs (s_58.1 + 1).toNatClampNeg), .int (xs (s_58.1 + 2).toNatClampNeg), .int (xs (s_58.1 + 3).toNatClampNeg), .ref q_53]) (rest := []) C (kgL_ofCell l D cy hl0 (x := q_1) (a := z_28) (o := q_53) (os := a2_58) (n := s_58.2.2.2.2.2.2.1) (t := s_58.2.2.2.2.2.2.2.1) (on := s_58.2.2.2.2.2.2.2.2.1) (i1 := xs (s_58.1 + 1).toNatClampNeg) (i2 := xs (s_58.1 + 2).toNatClampNeg) (i3 := xs (s_58.1 + 3).toNatClampNeg) hx_286) mL_ofCell u_876 u_877 3 [1, 2] [0] rfl (by decide +kernel) rfl rfl rfl rfl (Nat.le_of_ble_eq_true rfl) (Nat.le_of_ble_eq_true rfl) (Nat.le_of_ble_eq_true rfl) g_287.1 g_287.2 dd_L_law_21.2.2.2.2.2.2.2.2.1 rfl (fun v_288 u_289 hp_290 => ?_)
      obtain ⟨q_291, rfl, rfl⟩ := hp_290
      refine xr_perm C 3 [2, 0, 1] [] [MW q_29 a0_58 a1_58 cy s_58.2.1 s_58.2.2.1 s_58.2.2.2.1 s_58.2.2.2.2.1 s_58.2.2.2.2.2.1, CW q_1 z_28 cy x_286.2.1 x_286.2.2.1, [(q_53, .inr (9, [.long x_286.2.2.2, q_291]))]] rfl (by decide +kernel) rfl ?_
      refine xr_st (st' := [.int x_286.1]) rfl ?_
      refine xr_istore (n := 617) C [(5, .int x_286.1), (0, .ref b), (1, .ref q_1), (2, .ref q_29), (3, .ref q_53), (4, .int s_58.1)] dd_L_law_21.2.2.2.2.2.2.2.2.2.1 (by decide) rfl rfl ?_
      refine xr_aload_n (n := 618) (j := 3) C dd_L_law_21.2.2.2.2.2.2.2.2.2.2.1 rfl rfl ?_
      refine xr_aload_n (n := 619) (j := 1) C dd_L_law_21.2.2.2.2.2.2.2.2.2.2.2.1 rfl rfl ?_
      refine xr_iload (n := 621) (j := 5) C dd_L_law_21.2.2.2.2.2.2.2.2.2.2.2.2.1 rfl rfl ?_
      refine xr_iconst (n := 622) (v := 1) C dd_L_law_21.2.2.2.2.2.2.2.2.2.2.2.2.2.1 rfl rfl ?_
      refine xr_iadd (n := 623) C dd_L_law_21.2.2.2.2.2.2.2.2.2.2.2.2.2.2.1 rfl ?_
      obtain ⟨g_292, ho_58⟩ := yf_g ho_58
      refine xr_sld (n := 624) C hX hbl hbA g_292 dd_L_law_21.2.2.2.2.2.2.2.2.2.2.2.2.2.2.2.1 rfl ?_
      refine xr_aload_n (n := 625) (j := 1) C dd_L_law_22.1 rfl rfl ?_
      refine xr_iload (n := 627) (j := 5) C dd_L_law_22.2.1 rfl rfl ?_
      refine xr_iconst (n := 628) (v := 2) C dd_L_law_22.2.2.1 rfl rfl ?_
      refine xr_iadd (n := 629) C dd_L_law_22.2.2.2.1 rfl ?_
      obtain ⟨g_293, ho_58⟩ := yf_g ho_58
      refine xr_sld (n := 630) C hX hbl hbA g_293 dd_L_law_22.2.2.2.2.1 rfl ?_
      refine xr_aload_n (n := 631) (j := 1) C dd_L_law_22.2.2.2.2.2.1 rfl rfl ?_
      refine xr_iload (n := 633) (j := 5) C dd_L_law_22.2.2.2.2.2.2.1 rfl rfl ?_
      refine xr_iconst (n := 634) (v := 3) C dd_L_law_22.2.2.2.2.2.2.2.1 rfl rfl ?_
      refine xr_iadd (n := 635) C dd_L_law_22.2.2.2.2.2.2.2.2.1 rfl ?_
      obtain ⟨g_294, ho_58⟩ := yf_g ho_58
      refine xr_sld (n := 636) C hX hbl hbA g_294 dd_L_law_22.2.2.2.2.2.2.2.2.2.1 rfl ?_
      obtain ⟨x_295, hx_295, ho_58⟩ := yf_b ho_58
      refine xr_callVP (n := 639) (As := [.int (xs (s_58.1 + 1).toNatClampNeg), .int (xs (s_58.1 + 2).toNatClampNeg), .int (xs (s_58.1 + 3).toNatClampNeg)]) (rest := []) C (kgX9w_ofCell l D cy (g := q_29) (a := a0_58) (ad := a1_58) (sh := s_58.2.1) (n := s_58.2.2.1) (L := s_58.2.2.2.1) (k := s_58.2.2.2.2.1) (G := s_58.2.2.2.2.2.1) (i1 := xs (s_58.1 + 1).toNatClampNeg) (i2 := xs (s_58.1 + 2).toNatClampNeg) (i3 := xs (s_58.1 + 3).toNatClampNeg) hx_295) mX9_ofCell u_1516 u_1517 u_1518 0 rfl (MW_head _ _ _ _ _ _ _ _ _) rfl 3 [0] [1, 2] rfl (by decide +kernel) rfl rfl rfl rfl (Nat.le_of_ble_eq_true rfl) (Nat.le_of_ble_eq_true rfl) (Nat.le_of_ble_eq_true rfl) g_287.1 g_287.2 dd_L_law_22.2.2.2.2.2.2.2.2.2.2.1 rfl (fun v_296 u_297 hp_298 => ?_)
      obtain ⟨q_299, q_300, rfl, rfl⟩ := hp_298
      refine xr_perm C 3 [0, 1, 2] [] [MW q_29 q_299 q_300 cy x_295.2.1 x_295.2.2.1 x_295.2.2.2.1 x_295.2.2.2.2.1 x_295.2.2.2.2.2, CW q_1 z_28 cy x_286.2.1 x_286.2.2.1, [(q_53, .inr (9, [.long x_286.2.2.2, q_291]))]] rfl (by decide +kernel) rfl ?_
      refine xr_st (st' := [.int x_295.1]) rfl ?_
      refine xr_istore (n := 641) C [(6, .int x_295.1), (5, .int x_286.1), (0, .ref b), (1, .ref q_1), (2, .ref q_29), (3, .ref q_53), (4, .int s_58.1)] dd_L_law_22.2.2.2.2.2.2.2.2.2.2.2.1 (by decide) rfl rfl ?_
      refine xr_goto (tgt := 889) C dd_L_law_22.2.2.2.2.2.2.2.2.2.2.2.2.1 rfl ?_
      refine xr_iinc (j := 6) (v := s_58.1 + 4) (n := 892) C [(4, .int (s_58.1 + 4)), (6, .int x_295.1), (5, .int x_286.1), (0, .ref b), (1, .ref q_1), (2, .ref q_29), (3, .ref q_53)] dd_L_law_32.2.2.2.2.2.2.2.2.2.1 rfl rfl (by decide) rfl rfl ?_
      refine xr_goto (tgt := 27) C dd_L_law_32.2.2.2.2.2.2.2.2.2.2.1 rfl ?_
      refine xr_lv (lv' := [(0, .ref b), (1, .ref q_1), (2, .ref q_29), (3, .ref q_53), (4, .int (s_58.1 + 4))]) [3, 4, 5, 6, 0] rfl ?_
      exact hk_58 (s_58.1 + 4, x_295.2.1, x_295.2.2.1, x_295.2.2.2.1, x_295.2.2.2.2.1, x_295.2.2.2.2.2, x_286.2.1, x_286.2.2.1, x_286.2.2.2, s_58.2.2.2.2.2.2.2.2.2.1 + 1, s_58.2.2.2.2.2.2.2.2.2.2 + 6) (Option.some.inj ho_58).symm q_299 q_300 q_291
    replace ho_58 := yf_f c_282 ho_58
    by_cases c_301 : ((xs s_58.1.toNatClampNeg) &&& 31) = 13
    · replace ho_58 := yf_t c_301 ho_58
      refine xr_tableIn (off := 601) (tgt := 644) C dL_law_43 (by rw [c_301]; decide) (by rw [c_301]; decide) (by rw [c_301]; decide) rfl ?_
      refine xr_aload_n (n := 645) (j := 1) C dd_L_law_22.2.2.2.2.2.2.2.2.2.2.2.2.2.1 rfl rfl ?_
      refine xr_aload_n (n := 646) (j := 0) C dd_L_law_22.2.2.2.2.2.2.2.2.2.2.2.2.2.2.1 rfl rfl ?_
      refine xr_iload (n := 648) (j := 4) C dd_L_law_22.2.2.2.2.2.2.2.2.2.2.2.2.2.2.2.1 rfl rfl ?_
      refine xr_iconst (n := 649) (v := 1) C dd_L_law_23.1 rfl rfl ?_
      refine xr_iadd (n := 650) C dd_L_law_23.2.1 rfl ?_
      obtain ⟨g_302, ho_58⟩ := yf_g ho_58
      refine xr_sld (n := 651) C hX hbl hbA g_302 dd_L_law_23.2.2.1 rfl ?_
      refine xr_aload_n (n := 652) (j := 0) C dd_L_law_23.2.2.2.1 rfl rfl ?_
      refine xr_iload (n := 654) (j := 4) C dd_L_law_23.2.2.2.2.1 rfl rfl ?_
      refine xr_iconst (n := 655) (v := 2) C dd_L_law_23.2.2.2.2.2.1 rfl rfl ?_
      refine xr_iadd (n := 656) C dd_L_law_23.2.2.2.2.2.2.1 rfl ?_
      obtain ⟨g_303, ho_58⟩ := yf_g ho_58
      refine xr_sld (n := 657) C hX hbl hbA g_303 dd_L_law_23.2.2.2.2.2.2.2.1 rfl ?_
      refine xr_aload_n (n := 658) (j := 3) C dd_L_law_23.2.2.2.2.2.2.2.2.1 rfl rfl ?_
      obtain ⟨x_304, hx_304, ho_58⟩ := yf_b ho_58
      obtain ⟨g_305, ho_58⟩ := yf_g ho_58
      refine xr_callSW (n := 661) (As := [.ref q_1, .int (xs (s_58.1 + 1).toNatClampNeg), .int (xs (s_58.1 + 2).toNatClampNeg), .ref q_53]) (rest := []) C (kgL_result l D cy hl0 (x := q_1) (a := z_28) (o := q_53) (os := a2_58) (n := s_58.2.2.2.2.2.2.1) (t := s_58.2.2.2.2.2.2.2.1) (on := s_58.2.2.2.2.2.2.2.2.1) (i1 := xs (s_58.1 + 1).toNatClampNeg) (i2 := xs (s_58.1 + 2).toNatClampNeg) hx_304) mL_result u_884 u_885 3 [1, 2] [0] rfl (by decide +kernel) rfl rfl rfl rfl (Nat.le_of_ble_eq_true rfl) (Nat.le_of_ble_eq_true rfl) (Nat.le_of_ble_eq_true rfl) g_305.1 g_305.2 dd_L_law_23.2.2.2.2.2.2.2.2.2.1 rfl (fun v_306 u_307 hp_308 => ?_)
      obtain ⟨q_309, rfl, rfl⟩ := hp_308
      refine xr_perm C 3 [2, 0, 1] [] [MW q_29 a0_58 a1_58 cy s_58.2.1 s_58.2.2.1 s_58.2.2.2.1 s_58.2.2.2.2.1 s_58.2.2.2.2.2.1, CW q_1 z_28 cy x_304.2.1 x_304.2.2.1, [(q_53, .inr (9, [.long x_304.2.2.2, q_309]))]] rfl (by decide +kernel) rfl ?_
      refine xr_st (st' := [.int x_304.1]) rfl ?_
      refine xr_istore (n := 663) C [(5, .int x_304.1), (0, .ref b), (1, .ref q_1), (2, .ref q_29), (3, .ref q_53), (4, .int s_58.1)] dd_L_law_23.2.2.2.2.2.2.2.2.2.2.1 (by decide) rfl rfl ?_
      refine xr_aload_n (n := 664) (j := 3) C dd_L_law_23.2.2.2.2.2.2.2.2.2.2.2.1 rfl rfl ?_
      refine xr_aload_n (n := 665) (j := 1) C dd_L_law_23.2.2.2.2.2.2.2.2.2.2.2.2.1 rfl rfl ?_
      refine xr_iload (n := 667) (j := 5) C dd_L_law_23.2.2.2.2.2.2.2.2.2.2.2.2.2.1 rfl rfl ?_
      refine xr_iconst (n := 668) (v := 1) C dd_L_law_23.2.2.2.2.2.2.2.2.2.2.2.2.2.2.1 rfl rfl ?_
      refine xr_iadd (n := 669) C dd_L_law_23.2.2.2.2.2.2.2.2.2.2.2.2.2.2.2.1 rfl ?_
      obtain ⟨g_310, ho_58⟩ := yf_g ho_58
      refine xr_sld (n := 670) C hX hbl hbA g_310 dd_L_law_24.1 rfl ?_
      refine xr_aload_n (n := 671) (j := 1) C dd_L_law_24.2.1 rfl rfl ?_
      refine xr_iload (n := 673) (j := 5) C dd_L_law_24.2.2.1 rfl rfl ?_
      refine xr_iconst (n := 674) (v := 2) C dd_L_law_24.2.2.2.1 rfl rfl ?_
      refine xr_iadd (n := 675) C dd_L_law_24.2.2.2.2.1 rfl ?_
      obtain ⟨g_311, ho_58⟩ := yf_g ho_58
      refine xr_sld (n := 676) C hX hbl hbA g_311 dd_L_law_24.2.2.2.2.2.1 rfl ?_
      obtain ⟨x_312, hx_312, ho_58⟩ := yf_b ho_58
      refine xr_callVP (n := 679) (As := [.int (xs (s_58.1 + 1).toNatClampNeg), .int (xs (s_58.1 + 2).toNatClampNeg)]) (rest := []) C (kgX9w_result l D cy (g := q_29) (a := a0_58) (ad := a1_58) (sh := s_58.2.1) (n := s_58.2.2.1) (L := s_58.2.2.2.1) (k := s_58.2.2.2.2.1) (G := s_58.2.2.2.2.2.1) (i1 := xs (s_58.1 + 1).toNatClampNeg) (i2 := xs (s_58.1 + 2).toNatClampNeg) hx_312) mX9_result u_1531 u_1532 u_1533 0 rfl (MW_head _ _ _ _ _ _ _ _ _) rfl 3 [0] [1, 2] rfl (by decide +kernel) rfl rfl rfl rfl (Nat.le_of_ble_eq_true rfl) (Nat.le_of_ble_eq_true rfl) (Nat.le_of_ble_eq_true rfl) g_305.1 g_305.2 dd_L_law_24.2.2.2.2.2.2.1 rfl (fun v_313 u_314 hp_315 => ?_)
      obtain ⟨q_316, q_317, rfl, rfl⟩ := hp_315
      refine xr_perm C 3 [0, 1, 2] [] [MW q_29 q_316 q_317 cy x_312.2.1 x_312.2.2.1 x_312.2.2.2.1 x_312.2.2.2.2.1 x_312.2.2.2.2.2, CW q_1 z_28 cy x_304.2.1 x_304.2.2.1, [(q_53, .inr (9, [.long x_304.2.2.2, q_309]))]] rfl (by decide +kernel) rfl ?_
      refine xr_st (st' := [.int x_312.1]) rfl ?_
      refine xr_istore (n := 681) C [(6, .int x_312.1), (5, .int x_304.1), (0, .ref b), (1, .ref q_1), (2, .ref q_29), (3, .ref q_53), (4, .int s_58.1)] dd_L_law_24.2.2.2.2.2.2.2.1 (by decide) rfl rfl ?_
      refine xr_goto (tgt := 889) C dd_L_law_24.2.2.2.2.2.2.2.2.1 rfl ?_
      refine xr_iinc (j := 6) (v := s_58.1 + 4) (n := 892) C [(4, .int (s_58.1 + 4)), (6, .int x_312.1), (5, .int x_304.1), (0, .ref b), (1, .ref q_1), (2, .ref q_29), (3, .ref q_53)] dd_L_law_32.2.2.2.2.2.2.2.2.2.1 rfl rfl (by decide) rfl rfl ?_
      refine xr_goto (tgt := 27) C dd_L_law_32.2.2.2.2.2.2.2.2.2.2.1 rfl ?_
      refine xr_lv (lv' := [(0, .ref b), (1, .ref q_1), (2, .ref q_29), (3, .ref q_53), (4, .int (s_58.1 + 4))]) [3, 4, 5, 6, 0] rfl ?_
      exact hk_58 (s_58.1 + 4, x_312.2.1, x_312.2.2.1, x_312.2.2.2.1, x_312.2.2.2.2.1, x_312.2.2.2.2.2, x_304.2.1, x_304.2.2.1, x_304.2.2.2, s_58.2.2.2.2.2.2.2.2.2.1 + 1, s_58.2.2.2.2.2.2.2.2.2.2 + 6) (Option.some.inj ho_58).symm q_316 q_317 q_309
    replace ho_58 := yf_f c_301 ho_58
    by_cases c_318 : ((xs s_58.1.toNatClampNeg) &&& 31) = 14
    · replace ho_58 := yf_t c_318 ho_58
      refine xr_tableIn (off := 641) (tgt := 684) C dL_law_43 (by rw [c_318]; decide) (by rw [c_318]; decide) (by rw [c_318]; decide) rfl ?_
      refine xr_aload_n (n := 685) (j := 1) C dd_L_law_24.2.2.2.2.2.2.2.2.2.1 rfl rfl ?_
      refine xr_aload_n (n := 686) (j := 0) C dd_L_law_24.2.2.2.2.2.2.2.2.2.2.1 rfl rfl ?_
      refine xr_iload (n := 688) (j := 4) C dd_L_law_24.2.2.2.2.2.2.2.2.2.2.2.1 rfl rfl ?_
      refine xr_iconst (n := 689) (v := 1) C dd_L_law_24.2.2.2.2.2.2.2.2.2.2.2.2.1 rfl rfl ?_
      refine xr_iadd (n := 690) C dd_L_law_24.2.2.2.2.2.2.2.2.2.2.2.2.2.1 rfl ?_
      obtain ⟨g_319, ho_58⟩ := yf_g ho_58
      refine xr_sld (n := 691) C hX hbl hbA g_319 dd_L_law_24.2.2.2.2.2.2.2.2.2.2.2.2.2.2.1 rfl ?_
      refine xr_aload_n (n := 692) (j := 0) C dd_L_law_24.2.2.2.2.2.2.2.2.2.2.2.2.2.2.2.1 rfl rfl ?_
      refine xr_iload (n := 694) (j := 4) C dd_L_law_25.1 rfl rfl ?_
      refine xr_iconst (n := 695) (v := 2) C dd_L_law_25.2.1 rfl rfl ?_
      refine xr_iadd (n := 696) C dd_L_law_25.2.2.1 rfl ?_
      obtain ⟨g_320, ho_58⟩ := yf_g ho_58
      refine xr_sld (n := 697) C hX hbl hbA g_320 dd_L_law_25.2.2.2.1 rfl ?_
      refine xr_aload_n (n := 698) (j := 3) C dd_L_law_25.2.2.2.2.1 rfl rfl ?_
      obtain ⟨x_321, hx_321, ho_58⟩ := yf_b ho_58
      obtain ⟨g_322, ho_58⟩ := yf_g ho_58
      refine xr_callSW (n := 701) (As := [.ref q_1, .int (xs (s_58.1 + 1).toNatClampNeg), .int (xs (s_58.1 + 2).toNatClampNeg), .ref q_53]) (rest := []) C (kgL_plain l D cy hl0 (x := q_1) (a := z_28) (o := q_53) (os := a2_58) (n := s_58.2.2.2.2.2.2.1) (t := s_58.2.2.2.2.2.2.2.1) (on := s_58.2.2.2.2.2.2.2.2.1) (i1 := xs (s_58.1 + 1).toNatClampNeg) (i2 := xs (s_58.1 + 2).toNatClampNeg) hx_321) mL_plain u_891 u_892 3 [1, 2] [0] rfl (by decide +kernel) rfl rfl rfl rfl (Nat.le_of_ble_eq_true rfl) (Nat.le_of_ble_eq_true rfl) (Nat.le_of_ble_eq_true rfl) g_322.1 g_322.2 dd_L_law_25.2.2.2.2.2.1 rfl (fun v_323 u_324 hp_325 => ?_)
      obtain ⟨q_326, rfl, rfl⟩ := hp_325
      refine xr_perm C 3 [2, 0, 1] [] [MW q_29 a0_58 a1_58 cy s_58.2.1 s_58.2.2.1 s_58.2.2.2.1 s_58.2.2.2.2.1 s_58.2.2.2.2.2.1, CW q_1 z_28 cy x_321.2.1 x_321.2.2.1, [(q_53, .inr (9, [.long x_321.2.2.2, q_326]))]] rfl (by decide +kernel) rfl ?_
      refine xr_st (st' := [.int x_321.1]) rfl ?_
      refine xr_istore (n := 703) C [(5, .int x_321.1), (0, .ref b), (1, .ref q_1), (2, .ref q_29), (3, .ref q_53), (4, .int s_58.1)] dd_L_law_25.2.2.2.2.2.2.1 (by decide) rfl rfl ?_
      refine xr_aload_n (n := 704) (j := 3) C dd_L_law_25.2.2.2.2.2.2.2.1 rfl rfl ?_
      refine xr_aload_n (n := 705) (j := 1) C dd_L_law_25.2.2.2.2.2.2.2.2.1 rfl rfl ?_
      refine xr_iload (n := 707) (j := 5) C dd_L_law_25.2.2.2.2.2.2.2.2.2.1 rfl rfl ?_
      refine xr_iconst (n := 708) (v := 1) C dd_L_law_25.2.2.2.2.2.2.2.2.2.2.1 rfl rfl ?_
      refine xr_iadd (n := 709) C dd_L_law_25.2.2.2.2.2.2.2.2.2.2.2.1 rfl ?_
      obtain ⟨g_327, ho_58⟩ := yf_g ho_58
      refine xr_sld (n := 710) C hX hbl hbA g_327 dd_L_law_25.2.2.2.2.2.2.2.2.2.2.2.2.1 rfl ?_
      refine xr_aload_n (n := 711) (j := 1) C dd_L_law_25.2.2.2.2.2.2.2.2.2.2.2.2.2.1 rfl rfl ?_
      refine xr_iload (n := 713) (j := 5) C dd_L_law_25.2.2.2.2.2.2.2.2.2.2.2.2.2.2.1 rfl rfl ?_
      refine xr_iconst (n := 714) (v := 2) C dd_L_law_25.2.2.2.2.2.2.2.2.2.2.2.2.2.2.2.1 rfl rfl ?_
      refine xr_iadd (n := 715) C dd_L_law_26.1 rfl ?_
      obtain ⟨g_328, ho_58⟩ := yf_g ho_58
      refine xr_sld (n := 716) C hX hbl hbA g_328 dd_L_law_26.2.1 rfl ?_
      obtain ⟨x_329, hx_329, ho_58⟩ := yf_b ho_58
      refine xr_callVP (n := 719) (As := [.int (xs (s_58.1 + 1).toNatClampNeg), .int (xs (s_58.1 + 2).toNatClampNeg)]) (rest := []) C (kgX9w_plain l D cy (g := q_29) (a := a0_58) (ad := a1_58) (sh := s_58.2.1) (n := s_58.2.2.1) (L := s_58.2.2.2.1) (k := s_58.2.2.2.2.1) (G := s_58.2.2.2.2.2.1) (i1 := xs (s_58.1 + 1).toNatClampNeg) (i2 := xs (s_58.1 + 2).toNatClampNeg) hx_329) mX9_plain u_1535 u_1536 u_1537 0 rfl (MW_head _ _ _ _ _ _ _ _ _) rfl 3 [0] [1, 2] rfl (by decide +kernel) rfl rfl rfl rfl (Nat.le_of_ble_eq_true rfl) (Nat.le_of_ble_eq_true rfl) (Nat.le_of_ble_eq_true rfl) g_322.1 g_322.2 dd_L_law_26.2.2.1 rfl (fun v_330 u_331 hp_332 => ?_)
      obtain ⟨q_333, q_334, rfl, rfl⟩ := hp_332
      refine xr_perm C 3 [0, 1, 2] [] [MW q_29 q_333 q_334 cy x_329.2.1 x_329.2.2.1 x_329.2.2.2.1 x_329.2.2.2.2.1 x_329.2.2.2.2.2, CW q_1 z_28 cy x_321.2.1 x_321.2.2.1, [(q_53, .inr (9, [.long x_321.2.2.2, q_326]))]] rfl (by decide +kernel) rfl ?_
      refine xr_st (st' := [.int x_329.1]) rfl ?_
      refine xr_istore (n := 721) C [(6, .int x_329.1), (5, .int x_321.1), (0, .ref b), (1, .ref q_1), (2, .ref q_29), (3, .ref q_53), (4, .int s_58.1)] dd_L_law_26.2.2.2.1 (by decide) rfl rfl ?_
      refine xr_goto (tgt := 889) C dd_L_law_26.2.2.2.2.1 rfl ?_
      refine xr_iinc (j := 6) (v := s_58.1 + 4) (n := 892) C [(4, .int (s_58.1 + 4)), (6, .int x_329.1), (5, .int x_321.1), (0, .ref b), (1, .ref q_1), (2, .ref q_29), (3, .ref q_53)] dd_L_law_32.2.2.2.2.2.2.2.2.2.1 rfl rfl (by decide) rfl rfl ?_
      refine xr_goto (tgt := 27) C dd_L_law_32.2.2.2.2.2.2.2.2.2.2.1 rfl ?_
      refine xr_lv (lv' := [(0, .ref b), (1, .ref q_1), (2, .ref q_29), (3, .ref q_53), (4, .int (s_58.1 + 4))]) [3, 4, 5, 6, 0] rfl ?_
      exact hk_58 (s_58.1 + 4, x_329.2.1, x_329.2.2.1, x_329.2.2.2.1, x_329.2.2.2.2.1, x_329.2.2.2.2.2, x_321.2.1, x_321.2.2.1, x_321.2.2.2, s_58.2.2.2.2.2.2.2.2.2.1 + 1, s_58.2.2.2.2.2.2.2.2.2.2 + 6) (Option.some.inj ho_58).symm q_333 q_334 q_326
    replace ho_58 := yf_f c_318 ho_58
    by_cases c_335 : ((xs s_58.1.toNatClampNeg) &&& 31) = 15
    · replace ho_58 := yf_t c_335 ho_58
      refine xr_tableIn (off := 681) (tgt := 724) C dL_law_43 (by rw [c_335]; decide) (by rw [c_335]; decide) (by rw [c_335]; decide) rfl ?_
      refine xr_aload_n (n := 725) (j := 1) C dd_L_law_26.2.2.2.2.2.1 rfl rfl ?_
      refine xr_aload_n (n := 726) (j := 0) C dd_L_law_26.2.2.2.2.2.2.1 rfl rfl ?_
      refine xr_iload (n := 728) (j := 4) C dd_L_law_26.2.2.2.2.2.2.2.1 rfl rfl ?_
      refine xr_iconst (n := 729) (v := 1) C dd_L_law_26.2.2.2.2.2.2.2.2.1 rfl rfl ?_
      refine xr_iadd (n := 730) C dd_L_law_26.2.2.2.2.2.2.2.2.2.1 rfl ?_
      obtain ⟨g_336, ho_58⟩ := yf_g ho_58
      refine xr_sld (n := 731) C hX hbl hbA g_336 dd_L_law_26.2.2.2.2.2.2.2.2.2.2.1 rfl ?_
      refine xr_aload_n (n := 732) (j := 3) C dd_L_law_26.2.2.2.2.2.2.2.2.2.2.2.1 rfl rfl ?_
      obtain ⟨x_337, hx_337, ho_58⟩ := yf_b ho_58
      obtain ⟨g_338, ho_58⟩ := yf_g ho_58
      refine xr_callSW (n := 735) (As := [.ref q_1, .int (xs (s_58.1 + 1).toNatClampNeg), .ref q_53]) (rest := []) C (kgL_row l D cy hl0 (x := q_1) (a := z_28) (o := q_53) (os := a2_58) (n := s_58.2.2.2.2.2.2.1) (t := s_58.2.2.2.2.2.2.2.1) (on := s_58.2.2.2.2.2.2.2.2.1) (i1 := xs (s_58.1 + 1).toNatClampNeg) hx_337) mL_row u_899 u_900 3 [1, 2] [0] rfl (by decide +kernel) rfl rfl rfl rfl (Nat.le_of_ble_eq_true rfl) (Nat.le_of_ble_eq_true rfl) (Nat.le_of_ble_eq_true rfl) g_338.1 g_338.2 dd_L_law_26.2.2.2.2.2.2.2.2.2.2.2.2.1 rfl (fun v_339 u_340 hp_341 => ?_)
      rcases hp_341 with ⟨w_345, ew_345, q_342, q_343, rfl, rfl⟩ | ⟨w_345, ew_345, q_344, rfl, rfl⟩
      · subst ew_345
        replace ho_58 := ybr_l ho_58
        refine xr_perm C 5 [4, 0, 1, 2, 3] [] [MW q_29 a0_58 a1_58 cy s_58.2.1 s_58.2.2.1 s_58.2.2.2.1 s_58.2.2.2.2.1 s_58.2.2.2.2.2.1, CW q_1 z_28 cy w_345.2.1 w_345.2.2.1, [(q_53, .inr (9, [.long w_345.2.2.2.1, .ref q_342]))], [(q_342, .inr (0, [.ref q_343, .int 0, .int 0, .int 0]))], [(q_343, .inl (cy 0, w_345.2.2.2.2.1, .inl w_345.2.2.2.2.2))]] rfl (by decide +kernel) rfl ?_
        refine xr_st (st' := [.int w_345.1]) rfl ?_
        refine xr_istore (n := 737) C [(5, .int w_345.1), (0, .ref b), (1, .ref q_1), (2, .ref q_29), (3, .ref q_53), (4, .int s_58.1)] dd_L_law_26.2.2.2.2.2.2.2.2.2.2.2.2.2.1 (by decide) rfl rfl ?_
        refine xr_aload_n (n := 738) (j := 3) C dd_L_law_26.2.2.2.2.2.2.2.2.2.2.2.2.2.2.1 rfl rfl ?_
        refine xr_aload_n (n := 739) (j := 1) C dd_L_law_26.2.2.2.2.2.2.2.2.2.2.2.2.2.2.2.1 rfl rfl ?_
        refine xr_iload (n := 741) (j := 5) C dd_L_law_27.1 rfl rfl ?_
        refine xr_iconst (n := 742) (v := 1) C dd_L_law_27.2.1 rfl rfl ?_
        refine xr_iadd (n := 743) C dd_L_law_27.2.2.1 rfl ?_
        obtain ⟨g_346, ho_58⟩ := yf_g ho_58
        refine xr_sld (n := 744) C hX hbl hbA g_346 dd_L_law_27.2.2.2.1 rfl ?_
        obtain ⟨x_347, hx_347, ho_58⟩ := yf_b ho_58
        obtain ⟨g_348, ho_58⟩ := yf_g ho_58
        refine xr_callVP (n := 747) (As := [.int (xs (s_58.1 + 1).toNatClampNeg)]) (rest := []) C (kgX9w_row l D cy (g := q_29) (a := a0_58) (ad := a1_58) (sh := s_58.2.1) (n := s_58.2.2.1) (L := s_58.2.2.2.1) (k := s_58.2.2.2.2.1) (G := s_58.2.2.2.2.2.1) (i1 := xs (s_58.1 + 1).toNatClampNeg) hx_347) mX9_row u_1547 u_1548 u_1549 0 rfl (MW_head _ _ _ _ _ _ _ _ _) rfl 5 [0] [1, 2, 3, 4] rfl (by decide +kernel) rfl rfl rfl rfl (Nat.le_of_ble_eq_true rfl) (Nat.le_of_ble_eq_true rfl) (Nat.le_of_ble_eq_true rfl) g_348.1 g_348.2 dd_L_law_27.2.2.2.2.1 rfl (fun v_349 u_350 hp_351 => ?_)
        rcases hp_351 with ⟨w_359, ew_359, q_352, q_353, q_354, q_355, rfl, rfl⟩ | ⟨w_359, ew_359, q_356, q_357, q_358, rfl, rfl⟩
        · subst ew_359
          replace ho_58 := ybr_l ho_58
          refine xr_perm C 7 [0, 3, 4, 5, 6, 1, 2] [] [MW q_29 q_352 q_353 cy w_359.1 w_359.2.1 w_359.2.2.1 w_359.2.2.2.1 w_359.2.2.2.2.1, CW q_1 z_28 cy w_345.2.1 w_345.2.2.1, [(q_53, .inr (9, [.long w_345.2.2.2.1, .ref q_342]))], [(q_342, .inr (0, [.ref q_343, .int 0, .int 0, .int 0]))], [(q_343, .inl (cy 0, w_345.2.2.2.2.1, .inl w_345.2.2.2.2.2))], [(q_354, .inr (0, [.ref q_355, .int 0, .int 0, .int 0]))], [(q_355, .inl (cy 0, w_359.2.2.2.2.2.1, .inl w_359.2.2.2.2.2.2))]] rfl (by decide +kernel) rfl ?_
          refine xr_st (st' := [.ref q_354]) rfl ?_
          refine xr_astore (n := 749) C [(6, .ref q_354), (5, .int w_345.1), (0, .ref b), (1, .ref q_1), (2, .ref q_29), (3, .ref q_53), (4, .int s_58.1)] dd_L_law_27.2.2.2.2.2.1 (by decide) rfl rfl ?_
          refine xr_aload_n (n := 750) (j := 4) C dd_L_law_27.2.2.2.2.2.2.1 rfl rfl ?_
          obtain ⟨x_360, hx_360, ho_58⟩ := yf_b ho_58
          refine xr_callVP (n := 753) (As := []) (rest := []) C (kgX9w_thrown l D cy (g := q_29) (a := q_352) (ad := q_353) (sh := w_359.1) (n := w_359.2.1) (L := w_359.2.2.1) (k := w_359.2.2.2.1) (G := w_359.2.2.2.2.1) hx_360) mX9_thrown u_1290 u_1291 u_1292 0 rfl (MW_head _ _ _ _ _ _ _ _ _) rfl 7 [0] [1, 2, 3, 4, 5, 6] rfl (by decide +kernel) rfl rfl rfl rfl (Nat.le_of_ble_eq_true rfl) (Nat.le_of_ble_eq_true rfl) (Nat.le_of_ble_eq_true rfl) g_348.1 g_348.2 dd_L_law_27.2.2.2.2.2.2.2.1 rfl (fun v_361 u_362 hp_363 => ?_)
          obtain ⟨q_364, q_365, rfl, rfl⟩ := hp_363
          refine xr_perm C 7 [0, 1, 2, 3, 4, 5, 6] [] [MW q_29 q_364 q_365 cy x_360.2.1 x_360.2.2.1 x_360.2.2.2.1 x_360.2.2.2.2.1 x_360.2.2.2.2.2, CW q_1 z_28 cy w_345.2.1 w_345.2.2.1, [(q_53, .inr (9, [.long w_345.2.2.2.1, .ref q_342]))], [(q_342, .inr (0, [.ref q_343, .int 0, .int 0, .int 0]))], [(q_343, .inl (cy 0, w_345.2.2.2.2.1, .inl w_345.2.2.2.2.2))], [(q_354, .inr (0, [.ref q_355, .int 0, .int 0, .int 0]))], [(q_355, .inl (cy 0, w_359.2.2.2.2.2.1, .inl w_359.2.2.2.2.2.2))]] rfl (by decide +kernel) rfl ?_
          refine xr_st (st' := [.int x_360.1]) rfl ?_
          refine xr_iload (n := 755) (j := 1) C dd_L_law_27.2.2.2.2.2.2.2.2.1 rfl rfl ?_
          refine xr_icmp_eq (tgt := 760) (n := 758) C dd_L_law_27.2.2.2.2.2.2.2.2.2.1 rfl rfl (fun c_366 => ?_) (fun c_366 => ?_)
          · replace ho_58 := yf_t c_366 ho_58
            refine xr_iload (n := 762) (j := 1) C dd_L_law_27.2.2.2.2.2.2.2.2.2.2.2.2.1 rfl rfl ?_
            refine xr_if_ne (tgt := 779) (n := 765) C dd_L_law_27.2.2.2.2.2.2.2.2.2.2.2.2.2.1 rfl rfl (fun c_367 => ?_) (fun c_367 => ?_)
            · replace ho_58 := yf_f c_367 ho_58
              refine xr_goto (tgt := 889) C dd_L_law_28.2.2.2.2.2.1 rfl ?_
              refine xr_iinc (j := 6) (v := s_58.1 + 4) (n := 892) C [(4, .int (s_58.1 + 4)), (6, .ref q_354), (5, .int w_345.1), (0, .ref b), (1, .ref q_1), (2, .ref q_29), (3, .ref q_53)] dd_L_law_32.2.2.2.2.2.2.2.2.2.1 rfl rfl (by decide) rfl rfl ?_
              refine xr_goto (tgt := 27) C dd_L_law_32.2.2.2.2.2.2.2.2.2.2.1 rfl ?_
              refine xr_lv (lv' := [(0, .ref b), (1, .ref q_1), (2, .ref q_29), (3, .ref q_53), (4, .int (s_58.1 + 4))]) [3, 4, 5, 6, 0] rfl ?_
              refine xr_perm C 7 [0, 1, 2] [3, 4, 5, 6] [MW q_29 q_364 q_365 cy x_360.2.1 x_360.2.2.1 x_360.2.2.2.1 x_360.2.2.2.2.1 x_360.2.2.2.2.2, CW q_1 z_28 cy w_345.2.1 w_345.2.2.1, [(q_53, .inr (9, [.long w_345.2.2.2.1, .ref q_342]))]] rfl (by decide +kernel) rfl ?_
              exact hk_58 (s_58.1 + 4, x_360.2.1, x_360.2.2.1, x_360.2.2.2.1, x_360.2.2.2.2.1, x_360.2.2.2.2.2, w_345.2.1, w_345.2.2.1, w_345.2.2.2.1, s_58.2.2.2.2.2.2.2.2.2.1 + 4 + 4, s_58.2.2.2.2.2.2.2.2.2.2 + 40 + 40) (Option.some.inj ho_58).symm q_364 q_365 (.ref q_342)
            · replace ho_58 := yf_t c_367 ho_58
              refine xr_aload_n (n := 766) (j := 5) C dd_L_law_27.2.2.2.2.2.2.2.2.2.2.2.2.2.2.1 rfl rfl ?_
              refine xr_getN (n := 769) C 2 rfl rfl 1 (by decide) in_X7 RL (List.mem_of_getElem? (i := 47) rfl) rfl (v := .ref q_342) rfl dd_L_law_27.2.2.2.2.2.2.2.2.2.2.2.2.2.2.2.1 rfl ?_
              refine xr_aload (n := 771) (j := 0) C dd_L_law_28.1 rfl rfl ?_
              obtain ⟨x_368, hx_368, ho_58⟩ := yf_b ho_58
              refine xr_callVp (n := 774) (As := [.ref q_354]) (rest := []) C (kJ0_equals_9ea2d l D cy (a := q_342) (av := q_343) (af := w_345.2.2.2.2.2) (an := w_345.2.2.2.2.1) (b := q_354) (bv := q_355) (bf := w_359.2.2.2.2.2.2) (bn := w_359.2.2.2.2.2.1) hx_368) mJ0_equals_9ea2d u_1597 u_1598 u_1599 3 rfl rfl 7 [3, 4, 5, 6] [0, 1, 2] rfl (by decide +kernel) rfl rfl rfl rfl (Nat.le_of_ble_eq_true rfl) (Nat.le_of_ble_eq_true rfl) (Nat.le_of_ble_eq_true rfl) g_348.1 g_348.2 dd_L_law_28.2.1 rfl (fun _ _ hp => hp.2) (fun v_369 hp_371 => ?_)
              obtain ⟨rfl, -⟩ := hp_371
              refine xr_st (st' := [.int x_368]) rfl ?_
              refine xr_if_ne (tgt := 779) (n := 777) C dd_L_law_28.2.2.1 rfl rfl (fun c_372 => ?_) (fun c_372 => ?_)
              · replace ho_58 := yf_f c_372 ho_58
                refine xr_goto (tgt := 889) C dd_L_law_28.2.2.2.2.2.1 rfl ?_
                refine xr_iinc (j := 6) (v := s_58.1 + 4) (n := 892) C [(4, .int (s_58.1 + 4)), (6, .ref q_354), (5, .int w_345.1), (0, .ref b), (1, .ref q_1), (2, .ref q_29), (3, .ref q_53)] dd_L_law_32.2.2.2.2.2.2.2.2.2.1 rfl rfl (by decide) rfl rfl ?_
                refine xr_goto (tgt := 27) C dd_L_law_32.2.2.2.2.2.2.2.2.2.2.1 rfl ?_
                refine xr_lv (lv' := [(0, .ref b), (1, .ref q_1), (2, .ref q_29), (3, .ref q_53), (4, .int (s_58.1 + 4))]) [3, 4, 5, 6, 0] rfl ?_
                refine xr_perm C 7 [0, 1, 2] [3, 4, 5, 6] [MW q_29 q_364 q_365 cy x_360.2.1 x_360.2.2.1 x_360.2.2.2.1 x_360.2.2.2.2.1 x_360.2.2.2.2.2, CW q_1 z_28 cy w_345.2.1 w_345.2.2.1, [(q_53, .inr (9, [.long w_345.2.2.2.1, .ref q_342]))]] rfl (by decide +kernel) rfl ?_
                exact hk_58 (s_58.1 + 4, x_360.2.1, x_360.2.2.1, x_360.2.2.2.1, x_360.2.2.2.2.1, x_360.2.2.2.2.2, w_345.2.1, w_345.2.2.1, w_345.2.2.2.1, s_58.2.2.2.2.2.2.2.2.2.1 + 4 + 4, s_58.2.2.2.2.2.2.2.2.2.2 + 40 + 40) (Option.some.inj ho_58).symm q_364 q_365 (.ref q_342)
              · replace ho_58 := yf_t c_372 ho_58
                refine xr_iconst (n := 778) (v := 0) C dd_L_law_28.2.2.2.1 rfl rfl ?_
                have e_373 := hx_58 _ (Option.some.inj ho_58).symm
                subst e_373
                replace hR := ybr_r hR
                obtain rfl := Option.some.inj hR
                exact ret 0 rfl g_348.1 g_348.2 dd_L_law_28.2.2.2.2.1
          · replace ho_58 := yf_f c_366 ho_58
            refine xr_iconst (n := 759) (v := 0) C dd_L_law_27.2.2.2.2.2.2.2.2.2.2.1 rfl rfl ?_
            have e_374 := hx_58 _ (Option.some.inj ho_58).symm
            subst e_374
            replace hR := ybr_r hR
            obtain rfl := Option.some.inj hR
            exact ret 0 rfl g_348.1 g_348.2 dd_L_law_27.2.2.2.2.2.2.2.2.2.2.2.1
        · subst ew_359
          replace ho_58 := ybr_r ho_58
          refine xr_perm C 5 [0, 1, 2, 3, 4] [] [MW q_29 q_356 q_357 cy w_359.1 w_359.2.1 w_359.2.2.1 w_359.2.2.2.1 w_359.2.2.2.2, CW q_1 z_28 cy w_345.2.1 w_345.2.2.1, [(q_53, .inr (9, [.long w_345.2.2.2.1, .ref q_342]))], [(q_342, .inr (0, [.ref q_343, .int 0, .int 0, .int 0]))], [(q_343, .inl (cy 0, w_345.2.2.2.2.1, .inl w_345.2.2.2.2.2))]] rfl (by decide +kernel) rfl ?_
          refine xr_st (st' := [.ref q_358]) rfl ?_
          refine xr_astore (n := 749) C [(6, .ref q_358), (5, .int w_345.1), (0, .ref b), (1, .ref q_1), (2, .ref q_29), (3, .ref q_53), (4, .int s_58.1)] dd_L_law_27.2.2.2.2.2.1 (by decide) rfl rfl ?_
          refine xr_aload_n (n := 750) (j := 4) C dd_L_law_27.2.2.2.2.2.2.1 rfl rfl ?_
          obtain ⟨x_375, hx_375, ho_58⟩ := yf_b ho_58
          refine xr_callVP (n := 753) (As := []) (rest := []) C (kgX9w_thrown l D cy (g := q_29) (a := q_356) (ad := q_357) (sh := w_359.1) (n := w_359.2.1) (L := w_359.2.2.1) (k := w_359.2.2.2.1) (G := w_359.2.2.2.2) hx_375) mX9_thrown u_1290 u_1291 u_1292 0 rfl (MW_head _ _ _ _ _ _ _ _ _) rfl 5 [0] [1, 2, 3, 4] rfl (by decide +kernel) rfl rfl rfl rfl (Nat.le_of_ble_eq_true rfl) (Nat.le_of_ble_eq_true rfl) (Nat.le_of_ble_eq_true rfl) g_348.1 g_348.2 dd_L_law_27.2.2.2.2.2.2.2.1 rfl (fun v_376 u_377 hp_378 => ?_)
          obtain ⟨q_379, q_380, rfl, rfl⟩ := hp_378
          refine xr_perm C 5 [0, 1, 2, 3, 4] [] [MW q_29 q_379 q_380 cy x_375.2.1 x_375.2.2.1 x_375.2.2.2.1 x_375.2.2.2.2.1 x_375.2.2.2.2.2, CW q_1 z_28 cy w_345.2.1 w_345.2.2.1, [(q_53, .inr (9, [.long w_345.2.2.2.1, .ref q_342]))], [(q_342, .inr (0, [.ref q_343, .int 0, .int 0, .int 0]))], [(q_343, .inl (cy 0, w_345.2.2.2.2.1, .inl w_345.2.2.2.2.2))]] rfl (by decide +kernel) rfl ?_
          refine xr_st (st' := [.int x_375.1]) rfl ?_
          refine xr_iload (n := 755) (j := 1) C dd_L_law_27.2.2.2.2.2.2.2.2.1 rfl rfl ?_
          refine xr_icmp_eq (tgt := 760) (n := 758) C dd_L_law_27.2.2.2.2.2.2.2.2.2.1 rfl rfl (fun c_381 => ?_) (fun c_381 => ?_)
          · replace ho_58 := yf_t c_381 ho_58
            refine xr_iload (n := 762) (j := 1) C dd_L_law_27.2.2.2.2.2.2.2.2.2.2.2.2.1 rfl rfl ?_
            refine xr_if_ne (tgt := 779) (n := 765) C dd_L_law_27.2.2.2.2.2.2.2.2.2.2.2.2.2.1 rfl rfl (fun c_382 => ?_) (fun c_382 => ?_)
            · replace ho_58 := yf_f c_382 ho_58
              refine xr_goto (tgt := 889) C dd_L_law_28.2.2.2.2.2.1 rfl ?_
              refine xr_iinc (j := 6) (v := s_58.1 + 4) (n := 892) C [(4, .int (s_58.1 + 4)), (6, .ref q_358), (5, .int w_345.1), (0, .ref b), (1, .ref q_1), (2, .ref q_29), (3, .ref q_53)] dd_L_law_32.2.2.2.2.2.2.2.2.2.1 rfl rfl (by decide) rfl rfl ?_
              refine xr_goto (tgt := 27) C dd_L_law_32.2.2.2.2.2.2.2.2.2.2.1 rfl ?_
              refine xr_lv (lv' := [(0, .ref b), (1, .ref q_1), (2, .ref q_29), (3, .ref q_53), (4, .int (s_58.1 + 4))]) [3, 4, 5, 6, 0] rfl ?_
              refine xr_perm C 5 [0, 1, 2] [3, 4] [MW q_29 q_379 q_380 cy x_375.2.1 x_375.2.2.1 x_375.2.2.2.1 x_375.2.2.2.2.1 x_375.2.2.2.2.2, CW q_1 z_28 cy w_345.2.1 w_345.2.2.1, [(q_53, .inr (9, [.long w_345.2.2.2.1, .ref q_342]))]] rfl (by decide +kernel) rfl ?_
              exact hk_58 (s_58.1 + 4, x_375.2.1, x_375.2.2.1, x_375.2.2.2.1, x_375.2.2.2.2.1, x_375.2.2.2.2.2, w_345.2.1, w_345.2.2.1, w_345.2.2.2.1, s_58.2.2.2.2.2.2.2.2.2.1 + 4 + 4, s_58.2.2.2.2.2.2.2.2.2.2 + 40 + 40) (Option.some.inj ho_58).symm q_379 q_380 (.ref q_342)
            · replace ho_58 := yf_t c_382 ho_58
              refine xr_aload_n (n := 766) (j := 5) C dd_L_law_27.2.2.2.2.2.2.2.2.2.2.2.2.2.2.1 rfl rfl ?_
              refine xr_getN (n := 769) C 2 rfl rfl 1 (by decide) in_X7 RL (List.mem_of_getElem? (i := 47) rfl) rfl (v := .ref q_342) rfl dd_L_law_27.2.2.2.2.2.2.2.2.2.2.2.2.2.2.2.1 rfl ?_
              refine xr_aload (n := 771) (j := 0) C dd_L_law_28.1 rfl rfl ?_
              cases ho_58
          · replace ho_58 := yf_f c_381 ho_58
            refine xr_iconst (n := 759) (v := 0) C dd_L_law_27.2.2.2.2.2.2.2.2.2.2.1 rfl rfl ?_
            have e_383 := hx_58 _ (Option.some.inj ho_58).symm
            subst e_383
            replace hR := ybr_r hR
            obtain rfl := Option.some.inj hR
            exact ret 0 rfl g_348.1 g_348.2 dd_L_law_27.2.2.2.2.2.2.2.2.2.2.2.1
      · subst ew_345
        replace ho_58 := ybr_r ho_58
        refine xr_perm C 3 [2, 0, 1] [] [MW q_29 a0_58 a1_58 cy s_58.2.1 s_58.2.2.1 s_58.2.2.2.1 s_58.2.2.2.2.1 s_58.2.2.2.2.2.1, CW q_1 z_28 cy w_345.2.1 w_345.2.2.1, [(q_53, .inr (9, [.long w_345.2.2.2, q_344]))]] rfl (by decide +kernel) rfl ?_
        refine xr_st (st' := [.int w_345.1]) rfl ?_
        refine xr_istore (n := 737) C [(5, .int w_345.1), (0, .ref b), (1, .ref q_1), (2, .ref q_29), (3, .ref q_53), (4, .int s_58.1)] dd_L_law_26.2.2.2.2.2.2.2.2.2.2.2.2.2.1 (by decide) rfl rfl ?_
        refine xr_aload_n (n := 738) (j := 3) C dd_L_law_26.2.2.2.2.2.2.2.2.2.2.2.2.2.2.1 rfl rfl ?_
        refine xr_aload_n (n := 739) (j := 1) C dd_L_law_26.2.2.2.2.2.2.2.2.2.2.2.2.2.2.2.1 rfl rfl ?_
        refine xr_iload (n := 741) (j := 5) C dd_L_law_27.1 rfl rfl ?_
        refine xr_iconst (n := 742) (v := 1) C dd_L_law_27.2.1 rfl rfl ?_
        refine xr_iadd (n := 743) C dd_L_law_27.2.2.1 rfl ?_
        obtain ⟨g_384, ho_58⟩ := yf_g ho_58
        refine xr_sld (n := 744) C hX hbl hbA g_384 dd_L_law_27.2.2.2.1 rfl ?_
        obtain ⟨x_385, hx_385, ho_58⟩ := yf_b ho_58
        obtain ⟨g_386, ho_58⟩ := yf_g ho_58
        refine xr_callVP (n := 747) (As := [.int (xs (s_58.1 + 1).toNatClampNeg)]) (rest := []) C (kgX9w_row l D cy (g := q_29) (a := a0_58) (ad := a1_58) (sh := s_58.2.1) (n := s_58.2.2.1) (L := s_58.2.2.2.1) (k := s_58.2.2.2.2.1) (G := s_58.2.2.2.2.2.1) (i1 := xs (s_58.1 + 1).toNatClampNeg) hx_385) mX9_row u_1547 u_1548 u_1549 0 rfl (MW_head _ _ _ _ _ _ _ _ _) rfl 3 [0] [1, 2] rfl (by decide +kernel) rfl rfl rfl rfl (Nat.le_of_ble_eq_true rfl) (Nat.le_of_ble_eq_true rfl) (Nat.le_of_ble_eq_true rfl) g_386.1 g_386.2 dd_L_law_27.2.2.2.2.1 rfl (fun v_387 u_388 hp_389 => ?_)
        rcases hp_389 with ⟨w_397, ew_397, q_390, q_391, q_392, q_393, rfl, rfl⟩ | ⟨w_397, ew_397, q_394, q_395, q_396, rfl, rfl⟩
        · subst ew_397
          replace ho_58 := ybr_l ho_58
          refine xr_perm C 5 [0, 3, 4, 1, 2] [] [MW q_29 q_390 q_391 cy w_397.1 w_397.2.1 w_397.2.2.1 w_397.2.2.2.1 w_397.2.2.2.2.1, CW q_1 z_28 cy w_345.2.1 w_345.2.2.1, [(q_53, .inr (9, [.long w_345.2.2.2, q_344]))], [(q_392, .inr (0, [.ref q_393, .int 0, .int 0, .int 0]))], [(q_393, .inl (cy 0, w_397.2.2.2.2.2.1, .inl w_397.2.2.2.2.2.2))]] rfl (by decide +kernel) rfl ?_
          refine xr_st (st' := [.ref q_392]) rfl ?_
          refine xr_astore (n := 749) C [(6, .ref q_392), (5, .int w_345.1), (0, .ref b), (1, .ref q_1), (2, .ref q_29), (3, .ref q_53), (4, .int s_58.1)] dd_L_law_27.2.2.2.2.2.1 (by decide) rfl rfl ?_
          refine xr_aload_n (n := 750) (j := 4) C dd_L_law_27.2.2.2.2.2.2.1 rfl rfl ?_
          obtain ⟨x_398, hx_398, ho_58⟩ := yf_b ho_58
          refine xr_callVP (n := 753) (As := []) (rest := []) C (kgX9w_thrown l D cy (g := q_29) (a := q_390) (ad := q_391) (sh := w_397.1) (n := w_397.2.1) (L := w_397.2.2.1) (k := w_397.2.2.2.1) (G := w_397.2.2.2.2.1) hx_398) mX9_thrown u_1290 u_1291 u_1292 0 rfl (MW_head _ _ _ _ _ _ _ _ _) rfl 5 [0] [1, 2, 3, 4] rfl (by decide +kernel) rfl rfl rfl rfl (Nat.le_of_ble_eq_true rfl) (Nat.le_of_ble_eq_true rfl) (Nat.le_of_ble_eq_true rfl) g_386.1 g_386.2 dd_L_law_27.2.2.2.2.2.2.2.1 rfl (fun v_399 u_400 hp_401 => ?_)
          obtain ⟨q_402, q_403, rfl, rfl⟩ := hp_401
          refine xr_perm C 5 [0, 1, 2, 3, 4] [] [MW q_29 q_402 q_403 cy x_398.2.1 x_398.2.2.1 x_398.2.2.2.1 x_398.2.2.2.2.1 x_398.2.2.2.2.2, CW q_1 z_28 cy w_345.2.1 w_345.2.2.1, [(q_53, .inr (9, [.long w_345.2.2.2, q_344]))], [(q_392, .inr (0, [.ref q_393, .int 0, .int 0, .int 0]))], [(q_393, .inl (cy 0, w_397.2.2.2.2.2.1, .inl w_397.2.2.2.2.2.2))]] rfl (by decide +kernel) rfl ?_
          refine xr_st (st' := [.int x_398.1]) rfl ?_
          refine xr_iload (n := 755) (j := 1) C dd_L_law_27.2.2.2.2.2.2.2.2.1 rfl rfl ?_
          refine xr_icmp_eq (tgt := 760) (n := 758) C dd_L_law_27.2.2.2.2.2.2.2.2.2.1 rfl rfl (fun c_404 => ?_) (fun c_404 => ?_)
          · replace ho_58 := yf_t c_404 ho_58
            refine xr_iload (n := 762) (j := 1) C dd_L_law_27.2.2.2.2.2.2.2.2.2.2.2.2.1 rfl rfl ?_
            refine xr_if_ne (tgt := 779) (n := 765) C dd_L_law_27.2.2.2.2.2.2.2.2.2.2.2.2.2.1 rfl rfl (fun c_405 => ?_) (fun c_405 => ?_)
            · replace ho_58 := yf_f c_405 ho_58
              refine xr_goto (tgt := 889) C dd_L_law_28.2.2.2.2.2.1 rfl ?_
              refine xr_iinc (j := 6) (v := s_58.1 + 4) (n := 892) C [(4, .int (s_58.1 + 4)), (6, .ref q_392), (5, .int w_345.1), (0, .ref b), (1, .ref q_1), (2, .ref q_29), (3, .ref q_53)] dd_L_law_32.2.2.2.2.2.2.2.2.2.1 rfl rfl (by decide) rfl rfl ?_
              refine xr_goto (tgt := 27) C dd_L_law_32.2.2.2.2.2.2.2.2.2.2.1 rfl ?_
              refine xr_lv (lv' := [(0, .ref b), (1, .ref q_1), (2, .ref q_29), (3, .ref q_53), (4, .int (s_58.1 + 4))]) [3, 4, 5, 6, 0] rfl ?_
              refine xr_perm C 5 [0, 1, 2] [3, 4] [MW q_29 q_402 q_403 cy x_398.2.1 x_398.2.2.1 x_398.2.2.2.1 x_398.2.2.2.2.1 x_398.2.2.2.2.2, CW q_1 z_28 cy w_345.2.1 w_345.2.2.1, [(q_53, .inr (9, [.long w_345.2.2.2, q_344]))]] rfl (by decide +kernel) rfl ?_
              exact hk_58 (s_58.1 + 4, x_398.2.1, x_398.2.2.1, x_398.2.2.2.1, x_398.2.2.2.2.1, x_398.2.2.2.2.2, w_345.2.1, w_345.2.2.1, w_345.2.2.2, s_58.2.2.2.2.2.2.2.2.2.1 + 4 + 4, s_58.2.2.2.2.2.2.2.2.2.2 + 40 + 40) (Option.some.inj ho_58).symm q_402 q_403 q_344
            · replace ho_58 := yf_t c_405 ho_58
              refine xr_aload_n (n := 766) (j := 5) C dd_L_law_27.2.2.2.2.2.2.2.2.2.2.2.2.2.2.1 rfl rfl ?_
              refine xr_getN (n := 769) C 2 rfl rfl 1 (by decide) in_X7 RL (List.mem_of_getElem? (i := 47) rfl) rfl (v := q_344) rfl dd_L_law_27.2.2.2.2.2.2.2.2.2.2.2.2.2.2.2.1 rfl ?_
              refine xr_aload (n := 771) (j := 0) C dd_L_law_28.1 rfl rfl ?_
              cases ho_58
          · replace ho_58 := yf_f c_404 ho_58
            refine xr_iconst (n := 759) (v := 0) C dd_L_law_27.2.2.2.2.2.2.2.2.2.2.1 rfl rfl ?_
            have e_406 := hx_58 _ (Option.some.inj ho_58).symm
            subst e_406
            replace hR := ybr_r hR
            obtain rfl := Option.some.inj hR
            exact ret 0 rfl g_386.1 g_386.2 dd_L_law_27.2.2.2.2.2.2.2.2.2.2.2.1
        · subst ew_397
          replace ho_58 := ybr_r ho_58
          refine xr_perm C 3 [0, 1, 2] [] [MW q_29 q_394 q_395 cy w_397.1 w_397.2.1 w_397.2.2.1 w_397.2.2.2.1 w_397.2.2.2.2, CW q_1 z_28 cy w_345.2.1 w_345.2.2.1, [(q_53, .inr (9, [.long w_345.2.2.2, q_344]))]] rfl (by decide +kernel) rfl ?_
          refine xr_st (st' := [.ref q_396]) rfl ?_
          refine xr_astore (n := 749) C [(6, .ref q_396), (5, .int w_345.1), (0, .ref b), (1, .ref q_1), (2, .ref q_29), (3, .ref q_53), (4, .int s_58.1)] dd_L_law_27.2.2.2.2.2.1 (by decide) rfl rfl ?_
          refine xr_aload_n (n := 750) (j := 4) C dd_L_law_27.2.2.2.2.2.2.1 rfl rfl ?_
          obtain ⟨x_407, hx_407, ho_58⟩ := yf_b ho_58
          refine xr_callVP (n := 753) (As := []) (rest := []) C (kgX9w_thrown l D cy (g := q_29) (a := q_394) (ad := q_395) (sh := w_397.1) (n := w_397.2.1) (L := w_397.2.2.1) (k := w_397.2.2.2.1) (G := w_397.2.2.2.2) hx_407) mX9_thrown u_1290 u_1291 u_1292 0 rfl (MW_head _ _ _ _ _ _ _ _ _) rfl 3 [0] [1, 2] rfl (by decide +kernel) rfl rfl rfl rfl (Nat.le_of_ble_eq_true rfl) (Nat.le_of_ble_eq_true rfl) (Nat.le_of_ble_eq_true rfl) g_386.1 g_386.2 dd_L_law_27.2.2.2.2.2.2.2.1 rfl (fun v_408 u_409 hp_410 => ?_)
          obtain ⟨q_411, q_412, rfl, rfl⟩ := hp_410
          refine xr_perm C 3 [0, 1, 2] [] [MW q_29 q_411 q_412 cy x_407.2.1 x_407.2.2.1 x_407.2.2.2.1 x_407.2.2.2.2.1 x_407.2.2.2.2.2, CW q_1 z_28 cy w_345.2.1 w_345.2.2.1, [(q_53, .inr (9, [.long w_345.2.2.2, q_344]))]] rfl (by decide +kernel) rfl ?_
          refine xr_st (st' := [.int x_407.1]) rfl ?_
          refine xr_iload (n := 755) (j := 1) C dd_L_law_27.2.2.2.2.2.2.2.2.1 rfl rfl ?_
          refine xr_icmp_eq (tgt := 760) (n := 758) C dd_L_law_27.2.2.2.2.2.2.2.2.2.1 rfl rfl (fun c_413 => ?_) (fun c_413 => ?_)
          · replace ho_58 := yf_t c_413 ho_58
            refine xr_iload (n := 762) (j := 1) C dd_L_law_27.2.2.2.2.2.2.2.2.2.2.2.2.1 rfl rfl ?_
            refine xr_if_ne (tgt := 779) (n := 765) C dd_L_law_27.2.2.2.2.2.2.2.2.2.2.2.2.2.1 rfl rfl (fun c_414 => ?_) (fun c_414 => ?_)
            · replace ho_58 := yf_f c_414 ho_58
              refine xr_goto (tgt := 889) C dd_L_law_28.2.2.2.2.2.1 rfl ?_
              refine xr_iinc (j := 6) (v := s_58.1 + 4) (n := 892) C [(4, .int (s_58.1 + 4)), (6, .ref q_396), (5, .int w_345.1), (0, .ref b), (1, .ref q_1), (2, .ref q_29), (3, .ref q_53)] dd_L_law_32.2.2.2.2.2.2.2.2.2.1 rfl rfl (by decide) rfl rfl ?_
              refine xr_goto (tgt := 27) C dd_L_law_32.2.2.2.2.2.2.2.2.2.2.1 rfl ?_
              refine xr_lv (lv' := [(0, .ref b), (1, .ref q_1), (2, .ref q_29), (3, .ref q_53), (4, .int (s_58.1 + 4))]) [3, 4, 5, 6, 0] rfl ?_
              exact hk_58 (s_58.1 + 4, x_407.2.1, x_407.2.2.1, x_407.2.2.2.1, x_407.2.2.2.2.1, x_407.2.2.2.2.2, w_345.2.1, w_345.2.2.1, w_345.2.2.2, s_58.2.2.2.2.2.2.2.2.2.1 + 4 + 4, s_58.2.2.2.2.2.2.2.2.2.2 + 40 + 40) (Option.some.inj ho_58).symm q_411 q_412 q_344
            · replace ho_58 := yf_t c_414 ho_58
              refine xr_aload_n (n := 766) (j := 5) C dd_L_law_27.2.2.2.2.2.2.2.2.2.2.2.2.2.2.1 rfl rfl ?_
              refine xr_getN (n := 769) C 2 rfl rfl 1 (by decide) in_X7 RL (List.mem_of_getElem? (i := 47) rfl) rfl (v := q_344) rfl dd_L_law_27.2.2.2.2.2.2.2.2.2.2.2.2.2.2.2.1 rfl ?_
              refine xr_aload (n := 771) (j := 0) C dd_L_law_28.1 rfl rfl ?_
              cases ho_58
          · replace ho_58 := yf_f c_413 ho_58
            refine xr_iconst (n := 759) (v := 0) C dd_L_law_27.2.2.2.2.2.2.2.2.2.2.1 rfl rfl ?_
            have e_415 := hx_58 _ (Option.some.inj ho_58).symm
            subst e_415
            replace hR := ybr_r hR
            obtain rfl := Option.some.inj hR
            exact ret 0 rfl g_386.1 g_386.2 dd_L_law_27.2.2.2.2.2.2.2.2.2.2.2.1
    replace ho_58 := yf_f c_335 ho_58
    by_cases c_416 : ((xs s_58.1.toNatClampNeg) &&& 31) = 16
    · replace ho_58 := yf_t c_416 ho_58
      refine xr_tableIn (off := 739) (tgt := 782) C dL_law_43 (by rw [c_416]; decide) (by rw [c_416]; decide) (by rw [c_416]; decide) rfl ?_
      refine xr_aload_n (n := 783) (j := 1) C dd_L_law_28.2.2.2.2.2.2.1 rfl rfl ?_
      refine xr_aload_n (n := 784) (j := 0) C dd_L_law_28.2.2.2.2.2.2.2.1 rfl rfl ?_
      refine xr_iload (n := 786) (j := 4) C dd_L_law_28.2.2.2.2.2.2.2.2.1 rfl rfl ?_
      refine xr_iconst (n := 787) (v := 1) C dd_L_law_28.2.2.2.2.2.2.2.2.2.1 rfl rfl ?_
      refine xr_iadd (n := 788) C dd_L_law_28.2.2.2.2.2.2.2.2.2.2.1 rfl ?_
      obtain ⟨g_417, ho_58⟩ := yf_g ho_58
      refine xr_sld (n := 789) C hX hbl hbA g_417 dd_L_law_28.2.2.2.2.2.2.2.2.2.2.2.1 rfl ?_
      refine xr_aload_n (n := 790) (j := 0) C dd_L_law_28.2.2.2.2.2.2.2.2.2.2.2.2.1 rfl rfl ?_
      refine xr_iload (n := 792) (j := 4) C dd_L_law_28.2.2.2.2.2.2.2.2.2.2.2.2.2.1 rfl rfl ?_
      refine xr_iconst (n := 793) (v := 2) C dd_L_law_28.2.2.2.2.2.2.2.2.2.2.2.2.2.2.1 rfl rfl ?_
      refine xr_iadd (n := 794) C dd_L_law_28.2.2.2.2.2.2.2.2.2.2.2.2.2.2.2.1 rfl ?_
      obtain ⟨g_418, ho_58⟩ := yf_g ho_58
      refine xr_sld (n := 795) C hX hbl hbA g_418 dd_L_law_29.1 rfl ?_
      refine xr_aload_n (n := 796) (j := 3) C dd_L_law_29.2.1 rfl rfl ?_
      obtain ⟨x_419, hx_419, ho_58⟩ := yf_b ho_58
      obtain ⟨g_420, ho_58⟩ := yf_g ho_58
      refine xr_callSW (n := 799) (As := [.ref q_1, .int (xs (s_58.1 + 1).toNatClampNeg), .int (xs (s_58.1 + 2).toNatClampNeg), .ref q_53]) (rest := []) C (kgL_beats l D cy hl0 (x := q_1) (a := z_28) (o := q_53) (os := a2_58) (n := s_58.2.2.2.2.2.2.1) (t := s_58.2.2.2.2.2.2.2.1) (on := s_58.2.2.2.2.2.2.2.2.1) (i1 := xs (s_58.1 + 1).toNatClampNeg) (i2 := xs (s_58.1 + 2).toNatClampNeg) hx_419) mL_beats u_1172 u_1173 3 [1, 2] [0] rfl (by decide +kernel) rfl rfl rfl rfl (Nat.le_of_ble_eq_true rfl) (Nat.le_of_ble_eq_true rfl) (Nat.le_of_ble_eq_true rfl) g_420.1 g_420.2 dd_L_law_29.2.2.1 rfl (fun v_421 u_422 hp_423 => ?_)
      obtain ⟨q_424, rfl, rfl⟩ := hp_423
      refine xr_perm C 3 [2, 0, 1] [] [MW q_29 a0_58 a1_58 cy s_58.2.1 s_58.2.2.1 s_58.2.2.2.1 s_58.2.2.2.2.1 s_58.2.2.2.2.2.1, CW q_1 z_28 cy x_419.2.1 x_419.2.2.1, [(q_53, .inr (9, [.long x_419.2.2.2, q_424]))]] rfl (by decide +kernel) rfl ?_
      refine xr_st (st' := [.int x_419.1]) rfl ?_
      refine xr_istore (n := 801) C [(5, .int x_419.1), (0, .ref b), (1, .ref q_1), (2, .ref q_29), (3, .ref q_53), (4, .int s_58.1)] dd_L_law_29.2.2.2.1 (by decide) rfl rfl ?_
      refine xr_aload_n (n := 802) (j := 3) C dd_L_law_29.2.2.2.2.1 rfl rfl ?_
      refine xr_aload_n (n := 803) (j := 1) C dd_L_law_29.2.2.2.2.2.1 rfl rfl ?_
      refine xr_iload (n := 805) (j := 5) C dd_L_law_29.2.2.2.2.2.2.1 rfl rfl ?_
      refine xr_iconst (n := 806) (v := 1) C dd_L_law_29.2.2.2.2.2.2.2.1 rfl rfl ?_
      refine xr_iadd (n := 807) C dd_L_law_29.2.2.2.2.2.2.2.2.1 rfl ?_
      obtain ⟨g_425, ho_58⟩ := yf_g ho_58
      refine xr_sld (n := 808) C hX hbl hbA g_425 dd_L_law_29.2.2.2.2.2.2.2.2.2.1 rfl ?_
      refine xr_aload_n (n := 809) (j := 1) C dd_L_law_29.2.2.2.2.2.2.2.2.2.2.1 rfl rfl ?_
      refine xr_iload (n := 811) (j := 5) C dd_L_law_29.2.2.2.2.2.2.2.2.2.2.2.1 rfl rfl ?_
      refine xr_iconst (n := 812) (v := 2) C dd_L_law_29.2.2.2.2.2.2.2.2.2.2.2.2.1 rfl rfl ?_
      refine xr_iadd (n := 813) C dd_L_law_29.2.2.2.2.2.2.2.2.2.2.2.2.2.1 rfl ?_
      obtain ⟨g_426, ho_58⟩ := yf_g ho_58
      refine xr_sld (n := 814) C hX hbl hbA g_426 dd_L_law_29.2.2.2.2.2.2.2.2.2.2.2.2.2.2.1 rfl ?_
      obtain ⟨x_427, hx_427, ho_58⟩ := yf_b ho_58
      refine xr_callVP (n := 817) (As := [.int (xs (s_58.1 + 1).toNatClampNeg), .int (xs (s_58.1 + 2).toNatClampNeg)]) (rest := []) C (kgX9w_beats l D cy (g := q_29) (a := a0_58) (ad := a1_58) (sh := s_58.2.1) (n := s_58.2.2.1) (L := s_58.2.2.2.1) (k := s_58.2.2.2.2.1) (G := s_58.2.2.2.2.2.1) (i1 := xs (s_58.1 + 1).toNatClampNeg) (i2 := xs (s_58.1 + 2).toNatClampNeg) hx_427) mX9_beats u_1556 u_1557 u_1558 0 rfl (MW_head _ _ _ _ _ _ _ _ _) rfl 3 [0] [1, 2] rfl (by decide +kernel) rfl rfl rfl rfl (Nat.le_of_ble_eq_true rfl) (Nat.le_of_ble_eq_true rfl) (Nat.le_of_ble_eq_true rfl) g_420.1 g_420.2 dd_L_law_29.2.2.2.2.2.2.2.2.2.2.2.2.2.2.2.1 rfl (fun v_428 u_429 hp_430 => ?_)
      obtain ⟨q_431, q_432, rfl, rfl⟩ := hp_430
      refine xr_perm C 3 [0, 1, 2] [] [MW q_29 q_431 q_432 cy x_427.2.1 x_427.2.2.1 x_427.2.2.2.1 x_427.2.2.2.2.1 x_427.2.2.2.2.2, CW q_1 z_28 cy x_419.2.1 x_419.2.2.1, [(q_53, .inr (9, [.long x_419.2.2.2, q_424]))]] rfl (by decide +kernel) rfl ?_
      refine xr_st (st' := [.int x_427.1]) rfl ?_
      refine xr_istore (n := 819) C [(6, .int x_427.1), (5, .int x_419.1), (0, .ref b), (1, .ref q_1), (2, .ref q_29), (3, .ref q_53), (4, .int s_58.1)] dd_L_law_30.1 (by decide) rfl rfl ?_
      refine xr_goto (tgt := 889) C dd_L_law_30.2.1 rfl ?_
      refine xr_iinc (j := 6) (v := s_58.1 + 4) (n := 892) C [(4, .int (s_58.1 + 4)), (6, .int x_427.1), (5, .int x_419.1), (0, .ref b), (1, .ref q_1), (2, .ref q_29), (3, .ref q_53)] dd_L_law_32.2.2.2.2.2.2.2.2.2.1 rfl rfl (by decide) rfl rfl ?_
      refine xr_goto (tgt := 27) C dd_L_law_32.2.2.2.2.2.2.2.2.2.2.1 rfl ?_
      refine xr_lv (lv' := [(0, .ref b), (1, .ref q_1), (2, .ref q_29), (3, .ref q_53), (4, .int (s_58.1 + 4))]) [3, 4, 5, 6, 0] rfl ?_
      exact hk_58 (s_58.1 + 4, x_427.2.1, x_427.2.2.1, x_427.2.2.2.1, x_427.2.2.2.2.1, x_427.2.2.2.2.2, x_419.2.1, x_419.2.2.1, x_419.2.2.2, s_58.2.2.2.2.2.2.2.2.2.1 + 1, s_58.2.2.2.2.2.2.2.2.2.2 + 6) (Option.some.inj ho_58).symm q_431 q_432 q_424
    replace ho_58 := yf_f c_416 ho_58
    by_cases c_433 : ((xs s_58.1.toNatClampNeg) &&& 31) = 17
    · replace ho_58 := yf_t c_433 ho_58
      refine xr_tableIn (off := 779) (tgt := 822) C dL_law_43 (by rw [c_433]; decide) (by rw [c_433]; decide) (by rw [c_433]; decide) rfl ?_
      refine xr_aload_n (n := 823) (j := 1) C dd_L_law_30.2.2.1 rfl rfl ?_
      refine xr_aload_n (n := 824) (j := 0) C dd_L_law_30.2.2.2.1 rfl rfl ?_
      refine xr_iload (n := 826) (j := 4) C dd_L_law_30.2.2.2.2.1 rfl rfl ?_
      refine xr_iconst (n := 827) (v := 1) C dd_L_law_30.2.2.2.2.2.1 rfl rfl ?_
      refine xr_iadd (n := 828) C dd_L_law_30.2.2.2.2.2.2.1 rfl ?_
      obtain ⟨g_434, ho_58⟩ := yf_g ho_58
      refine xr_sld (n := 829) C hX hbl hbA g_434 dd_L_law_30.2.2.2.2.2.2.2.1 rfl ?_
      refine xr_aload_n (n := 830) (j := 3) C dd_L_law_30.2.2.2.2.2.2.2.2.1 rfl rfl ?_
      obtain ⟨x_435, hx_435, ho_58⟩ := yf_b ho_58
      obtain ⟨g_436, ho_58⟩ := yf_g ho_58
      refine xr_callSW (n := 833) (As := [.ref q_1, .int (xs (s_58.1 + 1).toNatClampNeg), .ref q_53]) (rest := []) C (kgL_best l D cy hl0 (x := q_1) (a := z_28) (o := q_53) (os := a2_58) (n := s_58.2.2.2.2.2.2.1) (t := s_58.2.2.2.2.2.2.2.1) (on := s_58.2.2.2.2.2.2.2.2.1) (i1 := xs (s_58.1 + 1).toNatClampNeg) hx_435) mL_best u_1180 u_1181 3 [1, 2] [0] rfl (by decide +kernel) rfl rfl rfl rfl (Nat.le_of_ble_eq_true rfl) (Nat.le_of_ble_eq_true rfl) (Nat.le_of_ble_eq_true rfl) g_436.1 g_436.2 dd_L_law_30.2.2.2.2.2.2.2.2.2.1 rfl (fun v_437 u_438 hp_439 => ?_)
      obtain ⟨q_440, rfl, rfl⟩ := hp_439
      refine xr_perm C 3 [2, 0, 1] [] [MW q_29 a0_58 a1_58 cy s_58.2.1 s_58.2.2.1 s_58.2.2.2.1 s_58.2.2.2.2.1 s_58.2.2.2.2.2.1, CW q_1 z_28 cy x_435.2.1 x_435.2.2.1, [(q_53, .inr (9, [.long x_435.2.2.2, q_440]))]] rfl (by decide +kernel) rfl ?_
      refine xr_st (st' := [.int x_435.1]) rfl ?_
      refine xr_istore (n := 835) C [(5, .int x_435.1), (0, .ref b), (1, .ref q_1), (2, .ref q_29), (3, .ref q_53), (4, .int s_58.1)] dd_L_law_30.2.2.2.2.2.2.2.2.2.2.1 (by decide) rfl rfl ?_
      refine xr_aload_n (n := 836) (j := 3) C dd_L_law_30.2.2.2.2.2.2.2.2.2.2.2.1 rfl rfl ?_
      refine xr_aload_n (n := 837) (j := 1) C dd_L_law_30.2.2.2.2.2.2.2.2.2.2.2.2.1 rfl rfl ?_
      refine xr_iload (n := 839) (j := 5) C dd_L_law_30.2.2.2.2.2.2.2.2.2.2.2.2.2.1 rfl rfl ?_
      refine xr_iconst (n := 840) (v := 1) C dd_L_law_30.2.2.2.2.2.2.2.2.2.2.2.2.2.2.1 rfl rfl ?_
      refine xr_iadd (n := 841) C dd_L_law_30.2.2.2.2.2.2.2.2.2.2.2.2.2.2.2.1 rfl ?_
      obtain ⟨g_441, ho_58⟩ := yf_g ho_58
      refine xr_sld (n := 842) C hX hbl hbA g_441 dd_L_law_31.1 rfl ?_
      obtain ⟨x_442, hx_442, ho_58⟩ := yf_b ho_58
      obtain ⟨g_443, ho_58⟩ := yf_g ho_58
      refine xr_callVP (n := 845) (As := [.int (xs (s_58.1 + 1).toNatClampNeg)]) (rest := []) C (kgX9w_best l D cy (g := q_29) (a := a0_58) (ad := a1_58) (sh := s_58.2.1) (n := s_58.2.2.1) (L := s_58.2.2.2.1) (k := s_58.2.2.2.2.1) (G := s_58.2.2.2.2.2.1) (i1 := xs (s_58.1 + 1).toNatClampNeg) hx_442) mX9_best u_1560 u_1561 u_1562 0 rfl (MW_head _ _ _ _ _ _ _ _ _) rfl 3 [0] [1, 2] rfl (by decide +kernel) rfl rfl rfl rfl (Nat.le_of_ble_eq_true rfl) (Nat.le_of_ble_eq_true rfl) (Nat.le_of_ble_eq_true rfl) g_443.1 g_443.2 dd_L_law_31.2.1 rfl (fun v_444 u_445 hp_446 => ?_)
      obtain ⟨q_447, q_448, rfl, rfl⟩ := hp_446
      refine xr_perm C 3 [0, 1, 2] [] [MW q_29 q_447 q_448 cy x_442.2.1 x_442.2.2.1 x_442.2.2.2.1 x_442.2.2.2.2.1 x_442.2.2.2.2.2, CW q_1 z_28 cy x_435.2.1 x_435.2.2.1, [(q_53, .inr (9, [.long x_435.2.2.2, q_440]))]] rfl (by decide +kernel) rfl ?_
      refine xr_st (st' := [.int x_442.1]) rfl ?_
      refine xr_istore (n := 847) C [(6, .int x_442.1), (5, .int x_435.1), (0, .ref b), (1, .ref q_1), (2, .ref q_29), (3, .ref q_53), (4, .int s_58.1)] dd_L_law_31.2.2.1 (by decide) rfl rfl ?_
      refine xr_goto (tgt := 889) C dd_L_law_31.2.2.2.1 rfl ?_
      refine xr_iinc (j := 6) (v := s_58.1 + 4) (n := 892) C [(4, .int (s_58.1 + 4)), (6, .int x_442.1), (5, .int x_435.1), (0, .ref b), (1, .ref q_1), (2, .ref q_29), (3, .ref q_53)] dd_L_law_32.2.2.2.2.2.2.2.2.2.1 rfl rfl (by decide) rfl rfl ?_
      refine xr_goto (tgt := 27) C dd_L_law_32.2.2.2.2.2.2.2.2.2.2.1 rfl ?_
      refine xr_lv (lv' := [(0, .ref b), (1, .ref q_1), (2, .ref q_29), (3, .ref q_53), (4, .int (s_58.1 + 4))]) [3, 4, 5, 6, 0] rfl ?_
      exact hk_58 (s_58.1 + 4, x_442.2.1, x_442.2.2.1, x_442.2.2.2.1, x_442.2.2.2.2.1, x_442.2.2.2.2.2, x_435.2.1, x_435.2.2.1, x_435.2.2.2, s_58.2.2.2.2.2.2.2.2.2.1 + 1 + 30, s_58.2.2.2.2.2.2.2.2.2.2 + 6 + 60) (Option.some.inj ho_58).symm q_447 q_448 q_440
    replace ho_58 := yf_f c_433 ho_58
    by_cases c_449 : ((xs s_58.1.toNatClampNeg) &&& 31) = 18
    · replace ho_58 := yf_t c_449 ho_58
      refine xr_tableIn (off := 807) (tgt := 850) C dL_law_43 (by rw [c_449]; decide) (by rw [c_449]; decide) (by rw [c_449]; decide) rfl ?_
      refine xr_aload_n (n := 851) (j := 1) C dd_L_law_31.2.2.2.2.1 rfl rfl ?_
      obtain ⟨x_450, hx_450, ho_58⟩ := yf_b ho_58
      refine xr_callVP (n := 854) (As := []) (rest := []) C (kgX6_saved l D cy (x := q_1) (a := z_28) (n := s_58.2.2.2.2.2.2.1) (t := s_58.2.2.2.2.2.2.2.1) hx_450) mX6_saved u_308 u_309 u_310 1 rfl (CW_head _ _ _ _ _) rfl 3 [1] [0, 2] rfl (by decide +kernel) rfl rfl rfl rfl (Nat.le_of_ble_eq_true rfl) (Nat.le_of_ble_eq_true rfl) (Nat.le_of_ble_eq_true rfl) g_60.1 g_60.2 dd_L_law_31.2.2.2.2.2.1 rfl (fun v_451 u_452 hp_453 => ?_)
      obtain ⟨rfl, rfl⟩ := hp_453
      refine xr_perm C 3 [1, 0, 2] [] [MW q_29 a0_58 a1_58 cy s_58.2.1 s_58.2.2.1 s_58.2.2.2.1 s_58.2.2.2.2.1 s_58.2.2.2.2.2.1, CW q_1 z_28 cy x_450.2.1 x_450.2.2, [(q_53, .inr (9, [.long s_58.2.2.2.2.2.2.2.2.1, a2_58]))]] rfl (by decide +kernel) rfl ?_
      refine xr_st (st' := [.int x_450.1]) rfl ?_
      refine xr_pop (n := 855) C dd_L_law_31.2.2.2.2.2.2.1 rfl rfl ?_
      refine xr_aload_n (n := 856) (j := 2) C dd_L_law_31.2.2.2.2.2.2.2.1 rfl rfl ?_
      obtain ⟨x_454, hx_454, ho_58⟩ := yf_b ho_58
      obtain ⟨g_455, ho_58⟩ := yf_g ho_58
      refine xr_callVP (n := 859) (As := []) (rest := []) C (kgX9w_saved l D cy (g := q_29) (a := a0_58) (ad := a1_58) (sh := s_58.2.1) (n := s_58.2.2.1) (L := s_58.2.2.2.1) (k := s_58.2.2.2.2.1) (G := s_58.2.2.2.2.2.1) hx_454) mX9_saved u_1568 u_1569 u_1570 0 rfl (MW_head _ _ _ _ _ _ _ _ _) rfl 3 [0] [1, 2] rfl (by decide +kernel) rfl rfl rfl rfl (Nat.le_of_ble_eq_true rfl) (Nat.le_of_ble_eq_true rfl) (Nat.le_of_ble_eq_true rfl) g_455.1 g_455.2 dd_L_law_31.2.2.2.2.2.2.2.2.1 rfl (fun v_456 u_457 hp_458 => ?_)
      obtain ⟨q_459, q_460, rfl, rfl⟩ := hp_458
      refine xr_perm C 3 [0, 1, 2] [] [MW q_29 q_459 q_460 cy x_454.2.1 x_454.2.2.1 x_454.2.2.2.1 x_454.2.2.2.2.1 x_454.2.2.2.2.2, CW q_1 z_28 cy x_450.2.1 x_450.2.2, [(q_53, .inr (9, [.long s_58.2.2.2.2.2.2.2.2.1, a2_58]))]] rfl (by decide +kernel) rfl ?_
      refine xr_st (st' := [.int x_454.1]) rfl ?_
      refine xr_pop (n := 860) C dd_L_law_31.2.2.2.2.2.2.2.2.2.1 rfl rfl ?_
      refine xr_goto (tgt := 889) C dd_L_law_31.2.2.2.2.2.2.2.2.2.2.1 rfl ?_
      refine xr_iinc (j := 4) (v := s_58.1 + 4) (n := 892) C [(4, .int (s_58.1 + 4)), (0, .ref b), (1, .ref q_1), (2, .ref q_29), (3, .ref q_53)] dd_L_law_32.2.2.2.2.2.2.2.2.2.1 rfl rfl (by decide) rfl rfl ?_
      refine xr_goto (tgt := 27) C dd_L_law_32.2.2.2.2.2.2.2.2.2.2.1 rfl ?_
      refine xr_lv (lv' := [(0, .ref b), (1, .ref q_1), (2, .ref q_29), (3, .ref q_53), (4, .int (s_58.1 + 4))]) [1, 2, 3, 4, 0] rfl ?_
      exact hk_58 (s_58.1 + 4, x_454.2.1, x_454.2.2.1, x_454.2.2.2.1, x_454.2.2.2.2.1, x_454.2.2.2.2.2, x_450.2.1, x_450.2.2, s_58.2.2.2.2.2.2.2.2.1, s_58.2.2.2.2.2.2.2.2.2.1 + 60, s_58.2.2.2.2.2.2.2.2.2.2 + 120) (Option.some.inj ho_58).symm q_459 q_460 a2_58
    replace ho_58 := yf_f c_449 ho_58
    by_cases c_461 : ((xs s_58.1.toNatClampNeg) &&& 31) = 19
    · replace ho_58 := yf_t c_461 ho_58
      refine xr_tableIn (off := 820) (tgt := 863) C dL_law_43 (by rw [c_461]; decide) (by rw [c_461]; decide) (by rw [c_461]; decide) rfl ?_
      refine xr_aload_n (n := 864) (j := 1) C dd_L_law_31.2.2.2.2.2.2.2.2.2.2.2.1 rfl rfl ?_
      obtain ⟨x_462, hx_462, ho_58⟩ := yf_b ho_58
      refine xr_callVP (n := 867) (As := []) (rest := []) C (kgX6_isSound l D cy (x := q_1) (a := z_28) (n := s_58.2.2.2.2.2.2.1) (t := s_58.2.2.2.2.2.2.2.1) hx_462) mX6_isSound u_391 u_392 u_393 1 rfl (CW_head _ _ _ _ _) rfl 3 [1] [0, 2] rfl (by decide +kernel) rfl rfl rfl rfl (Nat.le_of_ble_eq_true rfl) (Nat.le_of_ble_eq_true rfl) (Nat.le_of_ble_eq_true rfl) g_60.1 g_60.2 dd_L_law_31.2.2.2.2.2.2.2.2.2.2.2.2.1 rfl (fun v_463 u_464 hp_465 => ?_)
      obtain ⟨rfl, rfl⟩ := hp_465
      refine xr_perm C 3 [1, 0, 2] [] [MW q_29 a0_58 a1_58 cy s_58.2.1 s_58.2.2.1 s_58.2.2.2.1 s_58.2.2.2.2.1 s_58.2.2.2.2.2.1, CW q_1 z_28 cy x_462.2.1 x_462.2.2, [(q_53, .inr (9, [.long s_58.2.2.2.2.2.2.2.2.1, a2_58]))]] rfl (by decide +kernel) rfl ?_
      refine xr_st (st' := [.int x_462.1]) rfl ?_
      refine xr_pop (n := 868) C dd_L_law_31.2.2.2.2.2.2.2.2.2.2.2.2.2.1 rfl rfl ?_
      refine xr_aload_n (n := 869) (j := 2) C dd_L_law_31.2.2.2.2.2.2.2.2.2.2.2.2.2.2.1 rfl rfl ?_
      obtain ⟨x_466, hx_466, ho_58⟩ := yf_b ho_58
      obtain ⟨g_467, ho_58⟩ := yf_g ho_58
      refine xr_callVP (n := 872) (As := []) (rest := []) C (kgX9w_isSound l D cy (g := q_29) (a := a0_58) (ad := a1_58) (sh := s_58.2.1) (n := s_58.2.2.1) (L := s_58.2.2.2.1) (k := s_58.2.2.2.2.1) (G := s_58.2.2.2.2.2.1) hx_466) mX9_isSound u_1576 u_1577 u_1578 0 rfl (MW_head _ _ _ _ _ _ _ _ _) rfl 3 [0] [1, 2] rfl (by decide +kernel) rfl rfl rfl rfl (Nat.le_of_ble_eq_true rfl) (Nat.le_of_ble_eq_true rfl) (Nat.le_of_ble_eq_true rfl) g_467.1 g_467.2 dd_L_law_31.2.2.2.2.2.2.2.2.2.2.2.2.2.2.2.1 rfl (fun v_468 u_469 hp_470 => ?_)
      obtain ⟨q_471, q_472, rfl, rfl⟩ := hp_470
      refine xr_perm C 3 [0, 1, 2] [] [MW q_29 q_471 q_472 cy x_466.2.1 x_466.2.2.1 x_466.2.2.2.1 x_466.2.2.2.2.1 x_466.2.2.2.2.2, CW q_1 z_28 cy x_462.2.1 x_462.2.2, [(q_53, .inr (9, [.long s_58.2.2.2.2.2.2.2.2.1, a2_58]))]] rfl (by decide +kernel) rfl ?_
      refine xr_st (st' := [.int x_466.1]) rfl ?_
      refine xr_pop (n := 873) C dd_L_law_32.1 rfl rfl ?_
      refine xr_goto (tgt := 889) C dd_L_law_32.2.1 rfl ?_
      refine xr_iinc (j := 4) (v := s_58.1 + 4) (n := 892) C [(4, .int (s_58.1 + 4)), (0, .ref b), (1, .ref q_1), (2, .ref q_29), (3, .ref q_53)] dd_L_law_32.2.2.2.2.2.2.2.2.2.1 rfl rfl (by decide) rfl rfl ?_
      refine xr_goto (tgt := 27) C dd_L_law_32.2.2.2.2.2.2.2.2.2.2.1 rfl ?_
      refine xr_lv (lv' := [(0, .ref b), (1, .ref q_1), (2, .ref q_29), (3, .ref q_53), (4, .int (s_58.1 + 4))]) [1, 2, 3, 4, 0] rfl ?_
      exact hk_58 (s_58.1 + 4, x_466.2.1, x_466.2.2.1, x_466.2.2.2.1, x_466.2.2.2.2.1, x_466.2.2.2.2.2, x_462.2.1, x_462.2.2, s_58.2.2.2.2.2.2.2.2.1, s_58.2.2.2.2.2.2.2.2.2.1 + 30, s_58.2.2.2.2.2.2.2.2.2.2 + 60) (Option.some.inj ho_58).symm q_471 q_472 a2_58
    replace ho_58 := yf_f c_461 ho_58
    by_cases c_473 : ((xs s_58.1.toNatClampNeg) &&& 31) = 20
    · replace ho_58 := yf_t c_473 ho_58
      refine xr_tableIn (off := 833) (tgt := 876) C dL_law_43 (by rw [c_473]; decide) (by rw [c_473]; decide) (by rw [c_473]; decide) rfl ?_
      refine xr_aload_n (n := 877) (j := 1) C dd_L_law_32.2.2.1 rfl rfl ?_
      obtain ⟨x_474, hx_474, ho_58⟩ := yf_b ho_58
      refine xr_callVP (n := 880) (As := []) (rest := []) C (kgX6_digest l D cy (x := q_1) (a := z_28) (n := s_58.2.2.2.2.2.2.1) (t := s_58.2.2.2.2.2.2.2.1) hx_474) mX6_digest u_456 u_457 u_458 1 rfl (CW_head _ _ _ _ _) rfl 3 [1] [0, 2] rfl (by decide +kernel) rfl rfl rfl rfl (Nat.le_of_ble_eq_true rfl) (Nat.le_of_ble_eq_true rfl) (Nat.le_of_ble_eq_true rfl) g_60.1 g_60.2 dd_L_law_32.2.2.2.1 rfl (fun v_475 u_476 hp_477 => ?_)
      obtain ⟨rfl, rfl⟩ := hp_477
      refine xr_perm C 3 [1, 0, 2] [] [MW q_29 a0_58 a1_58 cy s_58.2.1 s_58.2.2.1 s_58.2.2.2.1 s_58.2.2.2.2.1 s_58.2.2.2.2.2.1, CW q_1 z_28 cy x_474.2.1 x_474.2.2, [(q_53, .inr (9, [.long s_58.2.2.2.2.2.2.2.2.1, a2_58]))]] rfl (by decide +kernel) rfl ?_
      refine xr_st (st' := [.long x_474.1]) rfl ?_
      refine xr_pop2L (n := 881) C dd_L_law_32.2.2.2.2.1 rfl ?_
      refine xr_aload_n (n := 882) (j := 2) C dd_L_law_32.2.2.2.2.2.1 rfl rfl ?_
      obtain ⟨x_478, hx_478, ho_58⟩ := yf_b ho_58
      obtain ⟨g_479, ho_58⟩ := yf_g ho_58
      refine xr_callVP (n := 885) (As := []) (rest := []) C (kgX9w_digest l D cy (g := q_29) (a := a0_58) (ad := a1_58) (sh := s_58.2.1) (n := s_58.2.2.1) (L := s_58.2.2.2.1) (k := s_58.2.2.2.2.1) (G := s_58.2.2.2.2.2.1) hx_478) mX9_digest u_1588 u_1589 u_1590 0 rfl (MW_head _ _ _ _ _ _ _ _ _) rfl 3 [0] [1, 2] rfl (by decide +kernel) rfl rfl rfl rfl (Nat.le_of_ble_eq_true rfl) (Nat.le_of_ble_eq_true rfl) (Nat.le_of_ble_eq_true rfl) g_479.1 g_479.2 dd_L_law_32.2.2.2.2.2.2.1 rfl (fun v_480 u_481 hp_482 => ?_)
      obtain ⟨q_483, q_484, rfl, rfl⟩ := hp_482
      refine xr_perm C 3 [0, 1, 2] [] [MW q_29 q_483 q_484 cy x_478.2.1 x_478.2.2.1 x_478.2.2.2.1 x_478.2.2.2.2.1 x_478.2.2.2.2.2, CW q_1 z_28 cy x_474.2.1 x_474.2.2, [(q_53, .inr (9, [.long s_58.2.2.2.2.2.2.2.2.1, a2_58]))]] rfl (by decide +kernel) rfl ?_
      refine xr_st (st' := [.long x_478.1]) rfl ?_
      refine xr_pop2L (n := 886) C dd_L_law_32.2.2.2.2.2.2.2.1 rfl ?_
      refine xr_goto (tgt := 889) C dd_L_law_32.2.2.2.2.2.2.2.2.1 rfl ?_
      refine xr_iinc (j := 4) (v := s_58.1 + 4) (n := 892) C [(4, .int (s_58.1 + 4)), (0, .ref b), (1, .ref q_1), (2, .ref q_29), (3, .ref q_53)] dd_L_law_32.2.2.2.2.2.2.2.2.2.1 rfl rfl (by decide) rfl rfl ?_
      refine xr_goto (tgt := 27) C dd_L_law_32.2.2.2.2.2.2.2.2.2.2.1 rfl ?_
      refine xr_lv (lv' := [(0, .ref b), (1, .ref q_1), (2, .ref q_29), (3, .ref q_53), (4, .int (s_58.1 + 4))]) [1, 2, 3, 4, 0] rfl ?_
      exact hk_58 (s_58.1 + 4, x_478.2.1, x_478.2.2.1, x_478.2.2.2.1, x_478.2.2.2.2.1, x_478.2.2.2.2.2, x_474.2.1, x_474.2.2, s_58.2.2.2.2.2.2.2.2.1, s_58.2.2.2.2.2.2.2.2.2.1 + 300, s_58.2.2.2.2.2.2.2.2.2.2 + 600) (Option.some.inj ho_58).symm q_483 q_484 a2_58
    replace ho_58 := yf_f c_473 ho_58
    refine xr_tableOut (tgt := 889) C dL_law_43 (ytab_out (fun k h1 h2 => by
      rcases (show k = 0 ∨ k = 1 ∨ k = 2 ∨ k = 3 ∨ k = 4 ∨ k = 5 ∨ k = 6 ∨ k = 7 ∨ k = 8 ∨ k = 9 ∨ k = 10 ∨ k = 11 ∨ k = 12 ∨ k = 13 ∨ k = 14 ∨ k = 15 ∨ k = 16 ∨ k = 17 ∨ k = 18 ∨ k = 19 ∨ k = 20 by omega) with rfl | rfl | rfl | rfl | rfl | rfl | rfl | rfl | rfl | rfl | rfl | rfl | rfl | rfl | rfl | rfl | rfl | rfl | rfl | rfl | rfl
      · exact c_64
      · exact c_84
      · exact c_103
      · exact c_122
      · exact c_137
      · exact c_162
      · exact c_191
      · exact c_205
      · exact c_219
      · exact c_235
      · exact c_254
      · exact c_267
      · exact c_282
      · exact c_301
      · exact c_318
      · exact c_335
      · exact c_416
      · exact c_433
      · exact c_449
      · exact c_461
      · exact c_473)) rfl ?_
    refine xr_iinc (j := 4) (v := s_58.1 + 4) (n := 892) C [(4, .int (s_58.1 + 4)), (0, .ref b), (1, .ref q_1), (2, .ref q_29), (3, .ref q_53)] dd_L_law_32.2.2.2.2.2.2.2.2.2.1 rfl rfl (by decide) rfl rfl ?_
    refine xr_goto (tgt := 27) C dd_L_law_32.2.2.2.2.2.2.2.2.2.2.1 rfl ?_
    refine xr_lv (lv' := [(0, .ref b), (1, .ref q_1), (2, .ref q_29), (3, .ref q_53), (4, .int (s_58.1 + 4))]) [1, 2, 3, 4, 0] rfl ?_
    exact hk_58 (s_58.1 + 4, s_58.2.1, s_58.2.2.1, s_58.2.2.2.1, s_58.2.2.2.2.1, s_58.2.2.2.2.2.1, s_58.2.2.2.2.2.2.1, s_58.2.2.2.2.2.2.2.1, s_58.2.2.2.2.2.2.2.2.1, s_58.2.2.2.2.2.2.2.2.2.1, s_58.2.2.2.2.2.2.2.2.2.2) (Option.some.inj ho_58).symm a0_58 a1_58 a2_58
