/-! rows by which simp reads the tables, by program -/
theorem fl_0_9 : ax_fld 0 9 = some (0, 0, 0, true) := by decide +kernel
theorem fl_0_15 : ax_fld 0 15 = some (0, 1, 2, true) := by decide +kernel
theorem fl_0_19 : ax_fld 0 19 = some (0, 5, 0, false) := by decide +kernel
theorem fl_0_22 : ax_fld 0 22 = some (0, 2, 0, true) := by decide +kernel
theorem fl_0_25 : ax_fld 0 25 = some (0, 3, 0, true) := by decide +kernel
theorem fl_0_28 : ax_fld 0 28 = some (0, 4, 0, true) := by decide +kernel
theorem fl_0_31 : ax_fld 0 31 = some (0, 6, 0, false) := by decide +kernel
theorem fl_0_38 : ax_fld 0 38 = some (0, 7, 0, false) := by decide +kernel
theorem fl_1_11 : ax_fld 1 11 = some (1, 3, 2, true) := by decide +kernel
theorem fl_1_17 : ax_fld 1 17 = some (1, 4, 2, true) := by decide +kernel
theorem fl_1_20 : ax_fld 1 20 = some (1, 5, 2, true) := by decide +kernel
theorem fl_1_23 : ax_fld 1 23 = some (1, 6, 2, true) := by decide +kernel
theorem fl_1_27 : ax_fld 1 27 = some (1, 0, 2, false) := by decide +kernel
theorem fl_1_31 : ax_fld 1 31 = some (1, 1, 0, false) := by decide +kernel
theorem fl_1_43 : ax_fld 1 43 = some (0, 1, 2, true) := by decide +kernel
theorem fl_1_51 : ax_fld 1 51 = some (0, 0, 0, true) := by decide +kernel
theorem fl_1_61 : ax_fld 1 61 = some (0, 7, 0, false) := by decide +kernel
theorem fl_1_64 : ax_fld 1 64 = some (0, 11, 0, false) := by decide +kernel
theorem fl_1_67 : ax_fld 1 67 = some (1, 2, 0, false) := by decide +kernel
theorem fl_1_70 : ax_fld 1 70 = some (0, 5, 0, false) := by decide +kernel
theorem fl_1_73 : ax_fld 1 73 = some (0, 8, 0, false) := by decide +kernel
theorem fl_1_76 : ax_fld 1 76 = some (0, 6, 0, false) := by decide +kernel
theorem fl_1_79 : ax_fld 1 79 = some (0, 9, 0, false) := by decide +kernel
theorem fl_1_82 : ax_fld 1 82 = some (0, 10, 0, false) := by decide +kernel
theorem fl_2_9 : ax_fld 2 9 = some (2, 0, 2, true) := by decide +kernel
theorem fl_2_15 : ax_fld 2 15 = some (2, 1, 2, true) := by decide +kernel
theorem fl_2_18 : ax_fld 2 18 = some (2, 2, 2, true) := by decide +kernel
theorem fl_2_23 : ax_fld 2 23 = some (2, 3, 2, true) := by decide +kernel
theorem fl_2_26 : ax_fld 2 26 = some (2, 4, 0, false) := by decide +kernel
theorem fl_2_40 : ax_fld 2 40 = some (0, 7, 0, false) := by decide +kernel
theorem fl_2_47 : ax_fld 2 47 = some (0, 4, 0, true) := by decide +kernel
theorem fl_2_50 : ax_fld 2 50 = some (0, 6, 0, false) := by decide +kernel
theorem fl_3_9 : ax_fld 3 9 = some (3, 1, 2, true) := by decide +kernel
theorem fl_3_15 : ax_fld 3 15 = some (3, 6, 2, true) := by decide +kernel
theorem fl_3_18 : ax_fld 3 18 = some (3, 0, 0, false) := by decide +kernel
theorem fl_3_41 : ax_fld 3 41 = some (3, 2, 0, false) := by decide +kernel
theorem fl_3_47 : ax_fld 3 47 = some (3, 4, 0, false) := by decide +kernel
theorem fl_3_52 : ax_fld 3 52 = some (3, 5, 0, false) := by decide +kernel
theorem fl_3_62 : ax_fld 3 62 = some (3, 3, 0, false) := by decide +kernel
theorem fl_3_65 : ax_fld 3 65 = some (3, 7, 0, false) := by decide +kernel
theorem fl_3_68 : ax_fld 3 68 = some (3, 8, 0, false) := by decide +kernel
theorem fl_4_9 : ax_fld 4 9 = some (4, 0, 0, false) := by decide +kernel
theorem fl_4_15 : ax_fld 4 15 = some (4, 2, 2, true) := by decide +kernel
theorem fl_4_19 : ax_fld 4 19 = some (4, 1, 0, false) := by decide +kernel
theorem fl_4_45 : ax_fld 4 45 = some (0, 5, 0, false) := by decide +kernel
theorem fl_4_50 : ax_fld 4 50 = some (0, 6, 0, false) := by decide +kernel
theorem fl_5_10 : ax_fld 5 10 = some (5, 1, 2, true) := by decide +kernel
theorem fl_5_18 : ax_fld 5 18 = some (5, 2, 2, true) := by decide +kernel
theorem fl_5_24 : ax_fld 5 24 = some (5, 3, 2, true) := by decide +kernel
theorem fl_5_28 : ax_fld 5 28 = some (5, 4, 0, false) := by decide +kernel
theorem fl_5_32 : ax_fld 5 32 = some (5, 5, 0, false) := by decide +kernel
theorem fl_5_35 : ax_fld 5 35 = some (5, 6, 0, false) := by decide +kernel
theorem fl_5_55 : ax_fld 5 55 = some (5, 0, 2, true) := by decide +kernel
theorem fl_5_59 : ax_fld 5 59 = some (1, 1, 0, false) := by decide +kernel
theorem fl_5_75 : ax_fld 5 75 = some (3, 0, 0, false) := by decide +kernel
theorem fl_5_92 : ax_fld 5 92 = some (1, 0, 2, false) := by decide +kernel
theorem fl_5_117 : ax_fld 5 117 = some (0, 5, 0, false) := by decide +kernel
theorem fl_5_120 : ax_fld 5 120 = some (0, 6, 0, false) := by decide +kernel
theorem fl_5_123 : ax_fld 5 123 = some (0, 7, 0, false) := by decide +kernel
theorem fl_5_126 : ax_fld 5 126 = some (0, 1, 2, true) := by decide +kernel
theorem fl_5_133 : ax_fld 5 133 = some (0, 2, 0, true) := by decide +kernel
theorem fl_5_136 : ax_fld 5 136 = some (0, 3, 0, true) := by decide +kernel
theorem fl_5_139 : ax_fld 5 139 = some (0, 4, 0, true) := by decide +kernel
theorem fl_5_226 : ax_fld 5 226 = some (0, 0, 0, true) := by decide +kernel
theorem fl_5_269 : ax_fld 5 269 = some (4, 0, 0, false) := by decide +kernel
theorem fl_5_276 : ax_fld 5 276 = some (4, 2, 2, true) := by decide +kernel
theorem fl_6_7 : ax_fld 6 7 = some (6, 1, 2, true) := by decide +kernel
theorem fl_6_13 : ax_fld 6 13 = some (6, 2, 2, true) := by decide +kernel
theorem fl_6_16 : ax_fld 6 16 = some (6, 3, 2, true) := by decide +kernel
theorem fl_6_19 : ax_fld 6 19 = some (6, 4, 2, true) := by decide +kernel
theorem fl_6_22 : ax_fld 6 22 = some (6, 5, 2, true) := by decide +kernel
theorem fl_6_25 : ax_fld 6 25 = some (6, 6, 2, true) := by decide +kernel
theorem fl_6_28 : ax_fld 6 28 = some (6, 7, 2, true) := by decide +kernel
theorem fl_6_31 : ax_fld 6 31 = some (6, 8, 2, true) := by decide +kernel
theorem fl_6_34 : ax_fld 6 34 = some (6, 10, 2, true) := by decide +kernel
theorem fl_6_37 : ax_fld 6 37 = some (6, 11, 2, true) := by decide +kernel
theorem fl_6_40 : ax_fld 6 40 = some (6, 17, 2, true) := by decide +kernel
theorem fl_6_43 : ax_fld 6 43 = some (6, 18, 2, true) := by decide +kernel
theorem fl_6_46 : ax_fld 6 46 = some (6, 19, 2, true) := by decide +kernel
theorem fl_6_49 : ax_fld 6 49 = some (6, 20, 2, true) := by decide +kernel
theorem fl_6_52 : ax_fld 6 52 = some (6, 21, 2, true) := by decide +kernel
theorem fl_6_55 : ax_fld 6 55 = some (6, 26, 2, true) := by decide +kernel
theorem fl_6_58 : ax_fld 6 58 = some (6, 27, 2, true) := by decide +kernel
theorem fl_6_61 : ax_fld 6 61 = some (6, 31, 2, true) := by decide +kernel
theorem fl_6_64 : ax_fld 6 64 = some (6, 32, 2, true) := by decide +kernel
theorem fl_6_67 : ax_fld 6 67 = some (6, 33, 2, true) := by decide +kernel
theorem fl_6_70 : ax_fld 6 70 = some (6, 34, 2, true) := by decide +kernel
theorem fl_6_73 : ax_fld 6 73 = some (6, 36, 2, true) := by decide +kernel
theorem fl_6_76 : ax_fld 6 76 = some (6, 9, 0, false) := by decide +kernel
theorem fl_6_84 : ax_fld 6 84 = some (6, 0, 0, false) := by decide +kernel
theorem fl_6_108 : ax_fld 6 108 = some (6, 12, 0, false) := by decide +kernel
theorem fl_6_111 : ax_fld 6 111 = some (6, 13, 0, false) := by decide +kernel
theorem fl_6_117 : ax_fld 6 117 = some (6, 22, 0, false) := by decide +kernel
theorem fl_6_120 : ax_fld 6 120 = some (6, 23, 0, false) := by decide +kernel
theorem fl_6_123 : ax_fld 6 123 = some (6, 24, 0, false) := by decide +kernel
theorem fl_6_126 : ax_fld 6 126 = some (6, 25, 0, false) := by decide +kernel
theorem fl_6_133 : ax_fld 6 133 = some (6, 30, 0, false) := by decide +kernel
theorem fl_6_136 : ax_fld 6 136 = some (6, 28, 0, false) := by decide +kernel
theorem fl_6_142 : ax_fld 6 142 = some (6, 29, 0, false) := by decide +kernel
theorem fl_6_265 : ax_fld 6 265 = some (6, 35, 0, false) := by decide +kernel
theorem fl_6_271 : ax_fld 6 271 = some (6, 38, 0, false) := by decide +kernel
theorem fl_6_274 : ax_fld 6 274 = some (6, 37, 0, false) := by decide +kernel
theorem fl_6_318 : ax_fld 6 318 = some (6, 14, 1, false) := by decide +kernel
theorem fl_6_322 : ax_fld 6 322 = some (6, 15, 0, false) := by decide +kernel
theorem fl_6_325 : ax_fld 6 325 = some (6, 16, 0, false) := by decide +kernel
theorem cl_0_3 : ax_call 0 3 = some (0, 4, 1, 0) := by decide +kernel
theorem cl_0_34 : ax_call 0 34 = some (78, 1, 2, 0) := by decide +kernel
theorem cl_0_41 : ax_call 0 41 = some (0, 7, 2, 0) := by decide +kernel
theorem cl_0_47 : ax_call 0 47 = some (46, 1, 1, 0) := by decide +kernel
theorem cl_1_3 : ax_call 1 3 = some (0, 4, 1, 0) := by decide +kernel
theorem cl_1_35 : ax_call 1 35 = some (34, 1, 2, 1) := by decide +kernel
theorem cl_1_39 : ax_call 1 39 = some (35, 1, 2, 1) := by decide +kernel
theorem cl_1_47 : ax_call 1 47 = some (50, 1, 1, 1) := by decide +kernel
theorem cl_1_54 : ax_call 1 54 = some (33, 1, 2, 1) := by decide +kernel
theorem cl_1_57 : ax_call 1 57 = some (61, 1, 1, 0) := by decide +kernel
theorem cl_1_85 : ax_call 1 85 = some (45, 1, 4, 2) := by decide +kernel
theorem cl_1_91 : ax_call 1 91 = some (77, 1, 2, 0) := by decide +kernel
theorem cl_1_95 : ax_call 1 95 = some (0, 8, 2, 0) := by decide +kernel
theorem cl_1_101 : ax_call 1 101 = some (46, 1, 1, 0) := by decide +kernel
theorem cl_1_104 : ax_call 1 104 = some (70, 1, 3, 1) := by decide +kernel
theorem cl_1_108 : ax_call 1 108 = some (73, 1, 1, 0) := by decide +kernel
theorem cl_1_111 : ax_call 1 111 = some (76, 1, 3, 1) := by decide +kernel
theorem cl_1_117 : ax_call 1 117 = some (91, 1, 1, 0) := by decide +kernel
theorem cl_1_120 : ax_call 1 120 = some (72, 1, 3, 1) := by decide +kernel
theorem cl_1_124 : ax_call 1 124 = some (85, 1, 1, 1) := by decide +kernel
theorem cl_1_127 : ax_call 1 127 = some (87, 1, 1, 1) := by decide +kernel
theorem cl_1_134 : ax_call 1 134 = some (94, 1, 1, 1) := by decide +kernel
theorem cl_1_138 : ax_call 1 138 = some (95, 1, 3, 1) := by decide +kernel
theorem cl_1_142 : ax_call 1 142 = some (96, 1, 4, 1) := by decide +kernel
theorem cl_1_146 : ax_call 1 146 = some (98, 1, 2, 1) := by decide +kernel
theorem cl_1_149 : ax_call 1 149 = some (56, 6, 1, 0) := by decide +kernel
theorem cl_1_153 : ax_call 1 153 = some (97, 1, 1, 1) := by decide +kernel
theorem cl_1_156 : ax_call 1 156 = some (0, 7, 2, 0) := by decide +kernel
theorem cl_2_3 : ax_call 2 3 = some (0, 4, 1, 0) := by decide +kernel
theorem cl_2_30 : ax_call 2 30 = some (67, 1, 2, 0) := by decide +kernel
theorem cl_2_36 : ax_call 2 36 = some (45, 1, 4, 2) := by decide +kernel
theorem cl_2_43 : ax_call 2 43 = some (46, 1, 1, 0) := by decide +kernel
theorem cl_2_53 : ax_call 2 53 = some (47, 1, 4, 2) := by decide +kernel
theorem cl_2_57 : ax_call 2 57 = some (0, 8, 2, 0) := by decide +kernel
theorem cl_2_63 : ax_call 2 63 = some (0, 7, 2, 0) := by decide +kernel
theorem cl_2_66 : ax_call 2 66 = some (48, 0, 3, 0) := by decide +kernel
theorem cl_3_3 : ax_call 3 3 = some (0, 4, 1, 0) := by decide +kernel
theorem cl_3_22 : ax_call 3 22 = some (5, 1, 1, 11) := by decide +kernel
theorem cl_3_28 : ax_call 3 28 = some (6, 1, 2, 11) := by decide +kernel
theorem cl_3_32 : ax_call 3 32 = some (7, 1, 2, 3) := by decide +kernel
theorem cl_3_36 : ax_call 3 36 = some (9, 1, 1, 2) := by decide +kernel
theorem cl_3_44 : ax_call 3 44 = some (10, 1, 1, 3) := by decide +kernel
theorem cl_3_55 : ax_call 3 55 = some (19, 1, 2, 3) := by decide +kernel
theorem cl_3_59 : ax_call 3 59 = some (29, 1, 2, 2) := by decide +kernel
theorem cl_3_71 : ax_call 3 71 = some (20, 1, 3, 2) := by decide +kernel
theorem cl_3_75 : ax_call 3 75 = some (21, 1, 1, 3) := by decide +kernel
theorem cl_3_79 : ax_call 3 79 = some (25, 1, 3, 3) := by decide +kernel
theorem cl_3_83 : ax_call 3 83 = some (26, 1, 2, 3) := by decide +kernel
theorem cl_3_86 : ax_call 3 86 = some (27, 1, 2, 3) := by decide +kernel
theorem cl_3_89 : ax_call 3 89 = some (22, 1, 1, 3) := by decide +kernel
theorem cl_3_92 : ax_call 3 92 = some (23, 0, 1, 0) := by decide +kernel
theorem cl_3_96 : ax_call 3 96 = some (24, 1, 2, 3) := by decide +kernel
theorem cl_3_99 : ax_call 3 99 = some (28, 0, 1, 0) := by decide +kernel
theorem cl_3_103 : ax_call 3 103 = some (11, 1, 1, 3) := by decide +kernel
theorem cl_3_106 : ax_call 3 106 = some (12, 1, 2, 3) := by decide +kernel
theorem cl_3_109 : ax_call 3 109 = some (13, 0, 1, 0) := by decide +kernel
theorem cl_3_112 : ax_call 3 112 = some (14, 1, 1, 3) := by decide +kernel
theorem cl_3_115 : ax_call 3 115 = some (16, 0, 1, 0) := by decide +kernel
theorem cl_3_118 : ax_call 3 118 = some (17, 1, 1, 3) := by decide +kernel
theorem cl_3_121 : ax_call 3 121 = some (18, 0, 1, 0) := by decide +kernel
theorem cl_3_124 : ax_call 3 124 = some (15, 1, 1, 3) := by decide +kernel
theorem cl_4_3 : ax_call 4 3 = some (0, 4, 1, 0) := by decide +kernel
theorem cl_4_22 : ax_call 4 22 = some (0, 8, 2, 0) := by decide +kernel
theorem cl_4_28 : ax_call 4 28 = some (0, 7, 2, 0) := by decide +kernel
theorem cl_4_31 : ax_call 4 31 = some (105, 1, 2, 4) := by decide +kernel
theorem cl_4_35 : ax_call 4 35 = some (104, 1, 2, 4) := by decide +kernel
theorem cl_4_39 : ax_call 4 39 = some (68, 1, 3, 2) := by decide +kernel
theorem cl_4_53 : ax_call 4 53 = some (103, 1, 3, 4) := by decide +kernel
theorem cl_5_1 : ax_call 5 1 = some (0, 4, 1, 0) := by decide +kernel
theorem cl_5_9 : ax_call 5 9 = some (1, 3, 1, 3) := by decide +kernel
theorem cl_5_38 : ax_call 5 38 = some (2, 3, 1, 2) := by decide +kernel
theorem cl_5_39 : ax_call 5 39 = some (3, 3, 1, 4) := by decide +kernel
theorem cl_5_42 : ax_call 5 42 = some (4, 1, 2, 3) := by decide +kernel
theorem cl_5_46 : ax_call 5 46 = some (8, 1, 2, 3) := by decide +kernel
theorem cl_5_52 : ax_call 5 52 = some (30, 2, 2, 1) := by decide +kernel
theorem cl_5_62 : ax_call 5 62 = some (32, 1, 1, 1) := by decide +kernel
theorem cl_5_66 : ax_call 5 66 = some (36, 0, 1, 0) := by decide +kernel
theorem cl_5_72 : ax_call 5 72 = some (37, 1, 1, 1) := by decide +kernel
theorem cl_5_76 : ax_call 5 76 = some (39, 0, 3, 0) := by decide +kernel
theorem cl_5_80 : ax_call 5 80 = some (40, 0, 1, 0) := by decide +kernel
theorem cl_5_84 : ax_call 5 84 = some (7, 1, 2, 3) := by decide +kernel
theorem cl_5_88 : ax_call 5 88 = some (42, 1, 3, 5) := by decide +kernel
theorem cl_5_96 : ax_call 5 96 = some (34, 1, 2, 1) := by decide +kernel
theorem cl_5_100 : ax_call 5 100 = some (45, 1, 4, 2) := by decide +kernel
theorem cl_5_104 : ax_call 5 104 = some (50, 1, 1, 1) := by decide +kernel
theorem cl_5_110 : ax_call 5 110 = some (51, 2, 6, 0) := by decide +kernel
theorem cl_5_113 : ax_call 5 113 = some (52, 1, 2, 1) := by decide +kernel
theorem cl_5_130 : ax_call 5 130 = some (56, 0, 1, 0) := by decide +kernel
theorem cl_5_142 : ax_call 5 142 = some (46, 1, 1, 0) := by decide +kernel
theorem cl_5_145 : ax_call 5 145 = some (57, 1, 1, 0) := by decide +kernel
theorem cl_5_148 : ax_call 5 148 = some (60, 1, 1, 0) := by decide +kernel
theorem cl_5_152 : ax_call 5 152 = some (61, 1, 1, 0) := by decide +kernel
theorem cl_5_155 : ax_call 5 155 = some (62, 1, 2, 1) := by decide +kernel
theorem cl_5_158 : ax_call 5 158 = some (63, 1, 2, 0) := by decide +kernel
theorem cl_5_161 : ax_call 5 161 = some (65, 1, 2, 0) := by decide +kernel
theorem cl_5_164 : ax_call 5 164 = some (33, 1, 2, 1) := by decide +kernel
theorem cl_5_167 : ax_call 5 167 = some (67, 1, 2, 0) := by decide +kernel
theorem cl_5_170 : ax_call 5 170 = some (68, 1, 3, 2) := by decide +kernel
theorem cl_5_174 : ax_call 5 174 = some (70, 1, 3, 1) := by decide +kernel
theorem cl_5_178 : ax_call 5 178 = some (72, 1, 3, 1) := by decide +kernel
theorem cl_5_182 : ax_call 5 182 = some (0, 7, 2, 0) := by decide +kernel
theorem cl_5_188 : ax_call 5 188 = some (76, 1, 3, 1) := by decide +kernel
theorem cl_5_192 : ax_call 5 192 = some (79, 1, 1, 0) := by decide +kernel
theorem cl_5_196 : ax_call 5 196 = some (82, 1, 1, 0) := by decide +kernel
theorem cl_5_203 : ax_call 5 203 = some (85, 1, 1, 1) := by decide +kernel
theorem cl_5_206 : ax_call 5 206 = some (86, 1, 4, 1) := by decide +kernel
theorem cl_5_210 : ax_call 5 210 = some (87, 1, 1, 1) := by decide +kernel
theorem cl_5_215 : ax_call 5 215 = some (90, 1, 6, 1) := by decide +kernel
theorem cl_5_219 : ax_call 5 219 = some (93, 1, 3, 1) := by decide +kernel
theorem cl_5_222 : ax_call 5 222 = some (35, 1, 2, 1) := by decide +kernel
theorem cl_5_229 : ax_call 5 229 = some (101, 1, 2, 5) := by decide +kernel
theorem cl_5_233 : ax_call 5 233 = some (102, 1, 1, 4) := by decide +kernel
theorem cl_5_236 : ax_call 5 236 = some (103, 1, 3, 4) := by decide +kernel
theorem cl_5_240 : ax_call 5 240 = some (109, 1, 5, 4) := by decide +kernel
theorem cl_5_244 : ax_call 5 244 = some (111, 1, 3, 4) := by decide +kernel
theorem cl_5_248 : ax_call 5 248 = some (112, 1, 3, 4) := by decide +kernel
theorem cl_5_252 : ax_call 5 252 = some (114, 1, 4, 1) := by decide +kernel
theorem cl_5_256 : ax_call 5 256 = some (115, 1, 4, 1) := by decide +kernel
theorem cl_5_260 : ax_call 5 260 = some (118, 1, 1, 1) := by decide +kernel
theorem cl_5_263 : ax_call 5 263 = some (120, 1, 1, 1) := by decide +kernel
theorem cl_5_266 : ax_call 5 266 = some (105, 1, 2, 4) := by decide +kernel
theorem cl_5_272 : ax_call 5 272 = some (124, 1, 3, 4) := by decide +kernel
theorem cl_5_280 : ax_call 5 280 = some (0, 5, 5, 0) := by decide +kernel
theorem cl_5_286 : ax_call 5 286 = some (104, 1, 2, 4) := by decide +kernel
theorem cl_5_289 : ax_call 5 289 = some (49, 1, 5, 5) := by decide +kernel
theorem cl_5_293 : ax_call 5 293 = some (78, 1, 2, 0) := by decide +kernel
theorem cl_6_1 : ax_call 6 1 = some (0, 4, 1, 0) := by decide +kernel
theorem cl_6_80 : ax_call 6 80 = some (128, 1, 1, 6) := by decide +kernel
theorem cl_6_87 : ax_call 6 87 = some (130, 0, 3, 0) := by decide +kernel
theorem cl_6_91 : ax_call 6 91 = some (143, 1, 2, 6) := by decide +kernel
theorem cl_6_95 : ax_call 6 95 = some (142, 1, 2, 6) := by decide +kernel
theorem cl_6_98 : ax_call 6 98 = some (144, 1, 2, 6) := by decide +kernel
theorem cl_6_101 : ax_call 6 101 = some (141, 1, 2, 6) := by decide +kernel
theorem cl_6_105 : ax_call 6 105 = some (145, 0, 1, 0) := by decide +kernel
theorem cl_6_114 : ax_call 6 114 = some (147, 0, 1, 0) := by decide +kernel
theorem cl_6_129 : ax_call 6 129 = some (131, 1, 3, 6) := by decide +kernel
theorem cl_6_139 : ax_call 6 139 = some (135, 0, 1, 0) := by decide +kernel
theorem cl_6_145 : ax_call 6 145 = some (133, 1, 2, 6) := by decide +kernel
theorem cl_6_149 : ax_call 6 149 = some (137, 1, 2, 6) := by decide +kernel
theorem cl_6_152 : ax_call 6 152 = some (134, 1, 2, 6) := by decide +kernel
theorem cl_6_155 : ax_call 6 155 = some (129, 1, 1, 6) := by decide +kernel
theorem cl_6_159 : ax_call 6 159 = some (136, 1, 2, 6) := by decide +kernel
theorem cl_6_162 : ax_call 6 162 = some (138, 1, 1, 6) := by decide +kernel
theorem cl_6_165 : ax_call 6 165 = some (139, 1, 2, 6) := by decide +kernel
theorem cl_6_168 : ax_call 6 168 = some (132, 1, 1, 6) := by decide +kernel
theorem cl_6_172 : ax_call 6 172 = some (154, 0, 3, 0) := by decide +kernel
theorem cl_6_176 : ax_call 6 176 = some (152, 0, 3, 0) := by decide +kernel
theorem cl_6_179 : ax_call 6 179 = some (151, 1, 2, 6) := by decide +kernel
theorem cl_6_182 : ax_call 6 182 = some (153, 1, 2, 6) := by decide +kernel
theorem cl_6_185 : ax_call 6 185 = some (150, 1, 5, 6) := by decide +kernel
theorem cl_6_189 : ax_call 6 189 = some (157, 0, 2, 0) := by decide +kernel
theorem cl_6_193 : ax_call 6 193 = some (160, 1, 2, 6) := by decide +kernel
theorem cl_6_196 : ax_call 6 196 = some (164, 1, 2, 6) := by decide +kernel
theorem cl_6_199 : ax_call 6 199 = some (163, 1, 2, 6) := by decide +kernel
theorem cl_6_202 : ax_call 6 202 = some (165, 1, 2, 6) := by decide +kernel
theorem cl_6_205 : ax_call 6 205 = some (166, 1, 2, 6) := by decide +kernel
theorem cl_6_208 : ax_call 6 208 = some (169, 1, 3, 6) := by decide +kernel
theorem cl_6_211 : ax_call 6 211 = some (171, 1, 2, 6) := by decide +kernel
theorem cl_6_214 : ax_call 6 214 = some (170, 1, 3, 6) := by decide +kernel
theorem cl_6_217 : ax_call 6 217 = some (173, 1, 3, 6) := by decide +kernel
theorem cl_6_220 : ax_call 6 220 = some (176, 1, 2, 6) := by decide +kernel
theorem cl_6_223 : ax_call 6 223 = some (175, 1, 3, 6) := by decide +kernel
theorem cl_6_226 : ax_call 6 226 = some (181, 1, 3, 6) := by decide +kernel
theorem cl_6_229 : ax_call 6 229 = some (179, 0, 1, 0) := by decide +kernel
theorem cl_6_232 : ax_call 6 232 = some (180, 1, 3, 6) := by decide +kernel
theorem cl_6_236 : ax_call 6 236 = some (182, 1, 2, 6) := by decide +kernel
theorem cl_6_239 : ax_call 6 239 = some (185, 1, 3, 6) := by decide +kernel
theorem cl_6_249 : ax_call 6 249 = some (188, 1, 1, 6) := by decide +kernel
theorem cl_6_252 : ax_call 6 252 = some (189, 1, 4, 6) := by decide +kernel
theorem cl_6_256 : ax_call 6 256 = some (190, 1, 1, 6) := by decide +kernel
theorem cl_6_261 : ax_call 6 261 = some (193, 1, 6, 6) := by decide +kernel
theorem cl_6_268 : ax_call 6 268 = some (197, 1, 1, 6) := by decide +kernel
theorem cl_6_277 : ax_call 6 277 = some (196, 1, 4, 6) := by decide +kernel
theorem cl_6_281 : ax_call 6 281 = some (195, 1, 6, 6) := by decide +kernel
theorem cl_6_285 : ax_call 6 285 = some (199, 1, 2, 6) := by decide +kernel
theorem cl_6_288 : ax_call 6 288 = some (202, 1, 2, 6) := by decide +kernel
theorem cl_6_291 : ax_call 6 291 = some (201, 1, 3, 6) := by decide +kernel
theorem cl_6_294 : ax_call 6 294 = some (203, 1, 3, 6) := by decide +kernel
theorem cl_6_297 : ax_call 6 297 = some (207, 1, 5, 6) := by decide +kernel
theorem cl_6_306 : ax_call 6 306 = some (210, 0, 3, 0) := by decide +kernel
theorem cl_6_309 : ax_call 6 309 = some (211, 1, 5, 6) := by decide +kernel
theorem cl_6_314 : ax_call 6 314 = some (213, 0, 3, 0) := by decide +kernel
theorem cl_6_328 : ax_call 6 328 = some (155, 1, 5, 6) := by decide +kernel
theorem cl_6_331 : ax_call 6 331 = some (221, 0, 2, 0) := by decide +kernel
theorem cl_8_9 : ax_call 8 9 = some (0, 2, 1, 5) := by decide +kernel
theorem cl_8_12 : ax_call 8 12 = some (127, 2, 1, 6) := by decide +kernel
theorem cl_8_13 : ax_call 8 13 = some (31, 1, 2, 5) := by decide +kernel
theorem cl_8_17 : ax_call 8 17 = some (140, 1, 2, 6) := by decide +kernel
theorem cl_8_18 : ax_call 8 18 = some (38, 1, 7, 5) := by decide +kernel
theorem cl_8_22 : ax_call 8 22 = some (146, 1, 7, 6) := by decide +kernel
theorem cl_8_23 : ax_call 8 23 = some (41, 1, 1, 5) := by decide +kernel
theorem cl_8_27 : ax_call 8 27 = some (128, 1, 1, 6) := by decide +kernel
theorem cl_8_28 : ax_call 8 28 = some (43, 1, 2, 5) := by decide +kernel
theorem cl_8_31 : ax_call 8 31 = some (148, 1, 2, 6) := by decide +kernel
theorem cl_8_32 : ax_call 8 32 = some (44, 1, 5, 5) := by decide +kernel
theorem cl_8_36 : ax_call 8 36 = some (149, 1, 5, 6) := by decide +kernel
theorem cl_8_37 : ax_call 8 37 = some (49, 1, 5, 5) := by decide +kernel
theorem cl_8_40 : ax_call 8 40 = some (155, 1, 5, 6) := by decide +kernel
theorem cl_8_41 : ax_call 8 41 = some (53, 1, 4, 5) := by decide +kernel
theorem cl_8_45 : ax_call 8 45 = some (156, 1, 4, 6) := by decide +kernel
theorem cl_8_46 : ax_call 8 46 = some (54, 1, 3, 5) := by decide +kernel
theorem cl_8_50 : ax_call 8 50 = some (158, 1, 3, 6) := by decide +kernel
theorem cl_8_51 : ax_call 8 51 = some (55, 1, 3, 5) := by decide +kernel
theorem cl_8_54 : ax_call 8 54 = some (159, 1, 3, 6) := by decide +kernel
theorem cl_8_55 : ax_call 8 55 = some (58, 1, 2, 5) := by decide +kernel
theorem cl_8_58 : ax_call 8 58 = some (161, 1, 2, 6) := by decide +kernel
theorem cl_8_59 : ax_call 8 59 = some (59, 1, 3, 5) := by decide +kernel
theorem cl_8_62 : ax_call 8 62 = some (162, 1, 3, 6) := by decide +kernel
theorem cl_8_63 : ax_call 8 63 = some (64, 1, 3, 5) := by decide +kernel
theorem cl_8_66 : ax_call 8 66 = some (167, 1, 3, 6) := by decide +kernel
theorem cl_8_67 : ax_call 8 67 = some (66, 1, 4, 5) := by decide +kernel
theorem cl_8_70 : ax_call 8 70 = some (168, 1, 4, 6) := by decide +kernel
theorem cl_8_71 : ax_call 8 71 = some (69, 1, 4, 5) := by decide +kernel
theorem cl_8_74 : ax_call 8 74 = some (172, 1, 4, 6) := by decide +kernel
theorem cl_8_75 : ax_call 8 75 = some (71, 1, 3, 5) := by decide +kernel
theorem cl_8_78 : ax_call 8 78 = some (174, 1, 3, 6) := by decide +kernel
theorem cl_8_79 : ax_call 8 79 = some (74, 1, 2, 5) := by decide +kernel
theorem cl_8_82 : ax_call 8 82 = some (177, 1, 2, 6) := by decide +kernel
theorem cl_8_83 : ax_call 8 83 = some (75, 1, 4, 5) := by decide +kernel
theorem cl_8_86 : ax_call 8 86 = some (178, 1, 4, 6) := by decide +kernel
theorem cl_8_87 : ax_call 8 87 = some (80, 1, 4, 5) := by decide +kernel
theorem cl_8_90 : ax_call 8 90 = some (183, 1, 4, 6) := by decide +kernel
theorem cl_8_91 : ax_call 8 91 = some (81, 1, 3, 5) := by decide +kernel
theorem cl_8_94 : ax_call 8 94 = some (184, 1, 3, 6) := by decide +kernel
theorem cl_8_95 : ax_call 8 95 = some (83, 1, 2, 5) := by decide +kernel
theorem cl_8_98 : ax_call 8 98 = some (186, 1, 2, 6) := by decide +kernel
theorem cl_8_99 : ax_call 8 99 = some (84, 1, 4, 5) := by decide +kernel
theorem cl_8_103 : ax_call 8 103 = some (187, 1, 4, 6) := by decide +kernel
theorem cl_8_104 : ax_call 8 104 = some (88, 1, 4, 5) := by decide +kernel
theorem cl_8_107 : ax_call 8 107 = some (191, 1, 4, 6) := by decide +kernel
theorem cl_8_108 : ax_call 8 108 = some (89, 1, 5, 5) := by decide +kernel
theorem cl_8_111 : ax_call 8 111 = some (192, 1, 5, 6) := by decide +kernel
theorem cl_8_112 : ax_call 8 112 = some (92, 1, 4, 5) := by decide +kernel
theorem cl_8_115 : ax_call 8 115 = some (194, 1, 4, 6) := by decide +kernel
theorem cl_8_116 : ax_call 8 116 = some (99, 1, 4, 5) := by decide +kernel
theorem cl_8_119 : ax_call 8 119 = some (198, 1, 4, 6) := by decide +kernel
theorem cl_8_120 : ax_call 8 120 = some (100, 1, 3, 5) := by decide +kernel
theorem cl_8_123 : ax_call 8 123 = some (200, 1, 3, 6) := by decide +kernel
theorem cl_8_124 : ax_call 8 124 = some (106, 1, 2, 5) := by decide +kernel
theorem cl_8_127 : ax_call 8 127 = some (204, 1, 2, 6) := by decide +kernel
theorem cl_8_128 : ax_call 8 128 = some (107, 1, 3, 5) := by decide +kernel
theorem cl_8_131 : ax_call 8 131 = some (205, 1, 3, 6) := by decide +kernel
theorem cl_8_132 : ax_call 8 132 = some (108, 1, 4, 5) := by decide +kernel
theorem cl_8_135 : ax_call 8 135 = some (206, 1, 4, 6) := by decide +kernel
theorem cl_8_136 : ax_call 8 136 = some (110, 1, 4, 5) := by decide +kernel
theorem cl_8_139 : ax_call 8 139 = some (208, 1, 4, 6) := by decide +kernel
theorem cl_8_140 : ax_call 8 140 = some (113, 1, 5, 5) := by decide +kernel
theorem cl_8_143 : ax_call 8 143 = some (209, 1, 5, 6) := by decide +kernel
theorem cl_8_144 : ax_call 8 144 = some (116, 1, 6, 5) := by decide +kernel
theorem cl_8_148 : ax_call 8 148 = some (212, 1, 6, 6) := by decide +kernel
theorem cl_8_149 : ax_call 8 149 = some (117, 1, 1, 5) := by decide +kernel
theorem cl_8_152 : ax_call 8 152 = some (214, 1, 1, 6) := by decide +kernel
theorem cl_8_153 : ax_call 8 153 = some (119, 1, 1, 5) := by decide +kernel
theorem cl_8_156 : ax_call 8 156 = some (215, 1, 1, 6) := by decide +kernel
theorem cl_8_157 : ax_call 8 157 = some (121, 1, 4, 5) := by decide +kernel
theorem cl_8_160 : ax_call 8 160 = some (216, 1, 4, 6) := by decide +kernel
theorem cl_8_161 : ax_call 8 161 = some (122, 1, 4, 5) := by decide +kernel
theorem cl_8_164 : ax_call 8 164 = some (217, 1, 4, 6) := by decide +kernel
theorem cl_8_165 : ax_call 8 165 = some (123, 1, 6, 5) := by decide +kernel
theorem cl_8_169 : ax_call 8 169 = some (218, 1, 6, 6) := by decide +kernel
theorem cl_8_170 : ax_call 8 170 = some (125, 1, 5, 5) := by decide +kernel
theorem cl_8_173 : ax_call 8 173 = some (219, 1, 5, 6) := by decide +kernel
theorem cl_8_174 : ax_call 8 174 = some (126, 1, 3, 5) := by decide +kernel
theorem cl_8_177 : ax_call 8 177 = some (220, 1, 3, 6) := by decide +kernel
theorem kl_1_9 : ax_cls 1 9 = some 0 := by decide +kernel
theorem kl_5_7 : ax_cls 5 7 = some 3 := by decide +kernel
theorem kl_5_16 : ax_cls 5 16 = some 2 := by decide +kernel
theorem kl_5_22 : ax_cls 5 22 = some 4 := by decide +kernel
theorem kl_5_50 : ax_cls 5 50 = some 1 := by decide +kernel
theorem kl_5_108 : ax_cls 5 108 = some 0 := by decide +kernel
theorem kl_8_7 : ax_cls 8 7 = some 5 := by decide +kernel
theorem kl_8_10 : ax_cls 8 10 = some 6 := by decide +kernel
theorem il_1_137 : ax_ldc 1 137 = some (1000000 : Int32) := by decide +kernel
theorem sl_1_137 : ax_ldcS 1 137 = none := by decide +kernel
theorem il_5_195 : ax_ldc 5 195 = some (-100000 : Int32) := by decide +kernel
theorem sl_5_195 : ax_ldcS 5 195 = none := by decide +kernel
theorem il_5_251 : ax_ldc 5 251 = some (99999 : Int32) := by decide +kernel
theorem sl_5_251 : ax_ldcS 5 251 = none := by decide +kernel
theorem il_6_158 : ax_ldc 6 158 = some (100000 : Int32) := by decide +kernel
theorem sl_6_158 : ax_ldcS 6 158 = none := by decide +kernel
theorem il_6_242 : ax_ldc 6 242 = some (-100000 : Int32) := by decide +kernel
theorem sl_6_242 : ax_ldcS 6 242 = none := by decide +kernel
theorem il_6_305 : ax_ldc 6 305 = some (99999 : Int32) := by decide +kernel
theorem sl_6_305 : ax_ldcS 6 305 = none := by decide +kernel
theorem il_10_265 : ax_ldc 10 265 = some (1431655765 : Int32) := by decide +kernel
theorem sl_10_265 : ax_ldcS 10 265 = none := by decide +kernel
theorem il_10_266 : ax_ldc 10 266 = some (858993459 : Int32) := by decide +kernel
theorem sl_10_266 : ax_ldcS 10 266 = none := by decide +kernel
theorem il_10_267 : ax_ldc 10 267 = some (252645135 : Int32) := by decide +kernel
theorem sl_10_267 : ax_ldcS 10 267 = none := by decide +kernel
theorem ll_1_115 : ax_ldc2 1 115 = some (100 : Int64) := by decide +kernel
theorem ll_1_130 : ax_ldc2 1 130 = some (48271 : Int64) := by decide +kernel
theorem ll_1_132 : ax_ldc2 1 132 = some (2147483647 : Int64) := by decide +kernel
theorem ll_5_199 : ax_ldc2 5 199 = some (-4611686018427387904 : Int64) := by decide +kernel
theorem ll_5_201 : ax_ldc2 5 201 = some (1000000000 : Int64) := by decide +kernel
theorem ll_5_213 : ax_ldc2 5 213 = some (10000000 : Int64) := by decide +kernel
theorem ll_6_243 : ax_ldc2 6 243 = some (100 : Int64) := by decide +kernel
theorem ll_6_245 : ax_ldc2 6 245 = some (-4611686018427387904 : Int64) := by decide +kernel
theorem ll_6_247 : ax_ldc2 6 247 = some (1000000000 : Int64) := by decide +kernel
theorem ll_6_259 : ax_ldc2 6 259 = some (10000000 : Int64) := by decide +kernel
theorem ll_6_301 : ax_ldc2 6 301 = some (48271 : Int64) := by decide +kernel
theorem ll_6_303 : ax_ldc2 6 303 = some (2147483647 : Int64) := by decide +kernel
theorem ll_6_312 : ax_ldc2 6 312 = some (20 : Int64) := by decide +kernel
theorem sl_5_40 : ax_ldcS 5 40 = some 0 := by decide +kernel
theorem sl_3_127 : ax_ldcS 3 127 = some 1 := by decide +kernel
theorem kb_m100 : (Int8.ofInt (-100)).toInt32 = (-100) := by decide +kernel
theorem kb_m14 : (Int8.ofInt (-14)).toInt32 = (-14) := by decide +kernel
theorem kb_m13 : (Int8.ofInt (-13)).toInt32 = (-13) := by decide +kernel
theorem kb_m12 : (Int8.ofInt (-12)).toInt32 = (-12) := by decide +kernel
theorem kb_m11 : (Int8.ofInt (-11)).toInt32 = (-11) := by decide +kernel
theorem kb_m7 : (Int8.ofInt (-7)).toInt32 = (-7) := by decide +kernel
theorem kb_m5 : (Int8.ofInt (-5)).toInt32 = (-5) := by decide +kernel
theorem kb_m4 : (Int8.ofInt (-4)).toInt32 = (-4) := by decide +kernel
theorem kb_m3 : (Int8.ofInt (-3)).toInt32 = (-3) := by decide +kernel
theorem kb_m2 : (Int8.ofInt (-2)).toInt32 = (-2) := by decide +kernel
theorem kb_6 : (Int8.ofInt 6).toInt32 = 6 := by decide +kernel
theorem kb_7 : (Int8.ofInt 7).toInt32 = 7 := by decide +kernel
theorem kb_8 : (Int8.ofInt 8).toInt32 = 8 := by decide +kernel
theorem kb_9 : (Int8.ofInt 9).toInt32 = 9 := by decide +kernel
theorem kb_10 : (Int8.ofInt 10).toInt32 = 10 := by decide +kernel
theorem kb_11 : (Int8.ofInt 11).toInt32 = 11 := by decide +kernel
theorem kb_12 : (Int8.ofInt 12).toInt32 = 12 := by decide +kernel
theorem kb_13 : (Int8.ofInt 13).toInt32 = 13 := by decide +kernel
theorem kb_14 : (Int8.ofInt 14).toInt32 = 14 := by decide +kernel
theorem kb_15 : (Int8.ofInt 15).toInt32 = 15 := by decide +kernel
theorem kb_16 : (Int8.ofInt 16).toInt32 = 16 := by decide +kernel
theorem kb_17 : (Int8.ofInt 17).toInt32 = 17 := by decide +kernel
theorem kb_18 : (Int8.ofInt 18).toInt32 = 18 := by decide +kernel
theorem kb_19 : (Int8.ofInt 19).toInt32 = 19 := by decide +kernel
theorem kb_20 : (Int8.ofInt 20).toInt32 = 20 := by decide +kernel
theorem kb_21 : (Int8.ofInt 21).toInt32 = 21 := by decide +kernel
theorem kb_22 : (Int8.ofInt 22).toInt32 = 22 := by decide +kernel
theorem kb_23 : (Int8.ofInt 23).toInt32 = 23 := by decide +kernel
theorem kb_24 : (Int8.ofInt 24).toInt32 = 24 := by decide +kernel
theorem kb_25 : (Int8.ofInt 25).toInt32 = 25 := by decide +kernel
theorem kb_26 : (Int8.ofInt 26).toInt32 = 26 := by decide +kernel
theorem kb_27 : (Int8.ofInt 27).toInt32 = 27 := by decide +kernel
theorem kb_28 : (Int8.ofInt 28).toInt32 = 28 := by decide +kernel
theorem kb_29 : (Int8.ofInt 29).toInt32 = 29 := by decide +kernel
theorem kb_30 : (Int8.ofInt 30).toInt32 = 30 := by decide +kernel
theorem kb_31 : (Int8.ofInt 31).toInt32 = 31 := by decide +kernel
theorem kb_32 : (Int8.ofInt 32).toInt32 = 32 := by decide +kernel
theorem kb_33 : (Int8.ofInt 33).toInt32 = 33 := by decide +kernel
theorem kb_34 : (Int8.ofInt 34).toInt32 = 34 := by decide +kernel
theorem kb_35 : (Int8.ofInt 35).toInt32 = 35 := by decide +kernel
theorem kb_36 : (Int8.ofInt 36).toInt32 = 36 := by decide +kernel
theorem kb_37 : (Int8.ofInt 37).toInt32 = 37 := by decide +kernel
theorem kb_38 : (Int8.ofInt 38).toInt32 = 38 := by decide +kernel
theorem kb_39 : (Int8.ofInt 39).toInt32 = 39 := by decide +kernel
theorem kb_40 : (Int8.ofInt 40).toInt32 = 40 := by decide +kernel
theorem kb_41 : (Int8.ofInt 41).toInt32 = 41 := by decide +kernel
theorem kb_42 : (Int8.ofInt 42).toInt32 = 42 := by decide +kernel
theorem kb_43 : (Int8.ofInt 43).toInt32 = 43 := by decide +kernel
theorem kb_44 : (Int8.ofInt 44).toInt32 = 44 := by decide +kernel
theorem kb_45 : (Int8.ofInt 45).toInt32 = 45 := by decide +kernel
theorem kb_46 : (Int8.ofInt 46).toInt32 = 46 := by decide +kernel
theorem kb_47 : (Int8.ofInt 47).toInt32 = 47 := by decide +kernel
theorem kb_48 : (Int8.ofInt 48).toInt32 = 48 := by decide +kernel
theorem kb_49 : (Int8.ofInt 49).toInt32 = 49 := by decide +kernel
theorem kb_50 : (Int8.ofInt 50).toInt32 = 50 := by decide +kernel
theorem kb_51 : (Int8.ofInt 51).toInt32 = 51 := by decide +kernel
theorem kb_52 : (Int8.ofInt 52).toInt32 = 52 := by decide +kernel
theorem kb_53 : (Int8.ofInt 53).toInt32 = 53 := by decide +kernel
theorem kb_54 : (Int8.ofInt 54).toInt32 = 54 := by decide +kernel
theorem kb_55 : (Int8.ofInt 55).toInt32 = 55 := by decide +kernel
theorem kb_56 : (Int8.ofInt 56).toInt32 = 56 := by decide +kernel
theorem kb_57 : (Int8.ofInt 57).toInt32 = 57 := by decide +kernel
theorem kb_58 : (Int8.ofInt 58).toInt32 = 58 := by decide +kernel
theorem kb_59 : (Int8.ofInt 59).toInt32 = 59 := by decide +kernel
theorem kb_60 : (Int8.ofInt 60).toInt32 = 60 := by decide +kernel
theorem kb_61 : (Int8.ofInt 61).toInt32 = 61 := by decide +kernel
theorem kb_62 : (Int8.ofInt 62).toInt32 = 62 := by decide +kernel
theorem kb_63 : (Int8.ofInt 63).toInt32 = 63 := by decide +kernel
theorem kb_64 : (Int8.ofInt 64).toInt32 = 64 := by decide +kernel
theorem kb_65 : (Int8.ofInt 65).toInt32 = 65 := by decide +kernel
theorem kb_66 : (Int8.ofInt 66).toInt32 = 66 := by decide +kernel
theorem kb_67 : (Int8.ofInt 67).toInt32 = 67 := by decide +kernel
theorem kb_68 : (Int8.ofInt 68).toInt32 = 68 := by decide +kernel
theorem kb_69 : (Int8.ofInt 69).toInt32 = 69 := by decide +kernel
theorem kb_70 : (Int8.ofInt 70).toInt32 = 70 := by decide +kernel
theorem kb_71 : (Int8.ofInt 71).toInt32 = 71 := by decide +kernel
theorem kb_72 : (Int8.ofInt 72).toInt32 = 72 := by decide +kernel
theorem kb_73 : (Int8.ofInt 73).toInt32 = 73 := by decide +kernel
theorem kb_74 : (Int8.ofInt 74).toInt32 = 74 := by decide +kernel
theorem kb_75 : (Int8.ofInt 75).toInt32 = 75 := by decide +kernel
theorem kb_76 : (Int8.ofInt 76).toInt32 = 76 := by decide +kernel
theorem kb_77 : (Int8.ofInt 77).toInt32 = 77 := by decide +kernel
theorem kb_78 : (Int8.ofInt 78).toInt32 = 78 := by decide +kernel
theorem kb_79 : (Int8.ofInt 79).toInt32 = 79 := by decide +kernel
theorem kb_80 : (Int8.ofInt 80).toInt32 = 80 := by decide +kernel
theorem kb_81 : (Int8.ofInt 81).toInt32 = 81 := by decide +kernel
theorem kb_82 : (Int8.ofInt 82).toInt32 = 82 := by decide +kernel
theorem kb_83 : (Int8.ofInt 83).toInt32 = 83 := by decide +kernel
theorem kb_84 : (Int8.ofInt 84).toInt32 = 84 := by decide +kernel
theorem kb_85 : (Int8.ofInt 85).toInt32 = 85 := by decide +kernel
theorem kb_86 : (Int8.ofInt 86).toInt32 = 86 := by decide +kernel
theorem kb_87 : (Int8.ofInt 87).toInt32 = 87 := by decide +kernel
theorem kb_88 : (Int8.ofInt 88).toInt32 = 88 := by decide +kernel
theorem kb_89 : (Int8.ofInt 89).toInt32 = 89 := by decide +kernel
theorem kb_90 : (Int8.ofInt 90).toInt32 = 90 := by decide +kernel
theorem kb_91 : (Int8.ofInt 91).toInt32 = 91 := by decide +kernel
theorem kb_92 : (Int8.ofInt 92).toInt32 = 92 := by decide +kernel
theorem kb_93 : (Int8.ofInt 93).toInt32 = 93 := by decide +kernel
theorem kb_94 : (Int8.ofInt 94).toInt32 = 94 := by decide +kernel
theorem kb_95 : (Int8.ofInt 95).toInt32 = 95 := by decide +kernel
theorem kb_96 : (Int8.ofInt 96).toInt32 = 96 := by decide +kernel
theorem kb_97 : (Int8.ofInt 97).toInt32 = 97 := by decide +kernel
theorem kb_98 : (Int8.ofInt 98).toInt32 = 98 := by decide +kernel
theorem kb_99 : (Int8.ofInt 99).toInt32 = 99 := by decide +kernel
theorem kb_100 : (Int8.ofInt 100).toInt32 = 100 := by decide +kernel
theorem kb_101 : (Int8.ofInt 101).toInt32 = 101 := by decide +kernel
theorem kb_104 : (Int8.ofInt 104).toInt32 = 104 := by decide +kernel
theorem kb_105 : (Int8.ofInt 105).toInt32 = 105 := by decide +kernel
theorem kb_109 : (Int8.ofInt 109).toInt32 = 109 := by decide +kernel
theorem kb_110 : (Int8.ofInt 110).toInt32 = 110 := by decide +kernel
theorem kb_111 : (Int8.ofInt 111).toInt32 = 111 := by decide +kernel
theorem kb_114 : (Int8.ofInt 114).toInt32 = 114 := by decide +kernel
theorem kb_115 : (Int8.ofInt 115).toInt32 = 115 := by decide +kernel
theorem kb_116 : (Int8.ofInt 116).toInt32 = 116 := by decide +kernel
theorem kb_117 : (Int8.ofInt 117).toInt32 = 117 := by decide +kernel
theorem kb_118 : (Int8.ofInt 118).toInt32 = 118 := by decide +kernel
theorem kb_119 : (Int8.ofInt 119).toInt32 = 119 := by decide +kernel
theorem kb_121 : (Int8.ofInt 121).toInt32 = 121 := by decide +kernel
theorem kb_122 : (Int8.ofInt 122).toInt32 = 122 := by decide +kernel
theorem ki_m1 : Int32.ofInt (-1) = (-1) := by decide +kernel
theorem ki_0 : Int32.ofInt 0 = 0 := by decide +kernel
theorem ki_1 : Int32.ofInt 1 = 1 := by decide +kernel
theorem ki_2 : Int32.ofInt 2 = 2 := by decide +kernel
theorem ki_3 : Int32.ofInt 3 = 3 := by decide +kernel
theorem ki_4 : Int32.ofInt 4 = 4 := by decide +kernel
theorem ki_5 : Int32.ofInt 5 = 5 := by decide +kernel
theorem ki_7 : Int32.ofInt 7 = 7 := by decide +kernel
theorem kl_0 : Int64.ofNat ((0 : Fin 2) : Nat) = 0 := by decide +kernel
theorem kl_1 : Int64.ofNat ((1 : Fin 2) : Nat) = 1 := by decide +kernel
theorem ks_160 : (Int16.ofInt 160).toInt32 = 160 := by decide +kernel
theorem ks_200 : (Int16.ofInt 200).toInt32 = 200 := by decide +kernel
theorem ks_255 : (Int16.ofInt 255).toInt32 = 255 := by decide +kernel
theorem ks_400 : (Int16.ofInt 400).toInt32 = 400 := by decide +kernel
theorem ks_1000 : (Int16.ofInt 1000).toInt32 = 1000 := by decide +kernel
theorem ks_1200 : (Int16.ofInt 1200).toInt32 = 1200 := by decide +kernel
theorem ks_10000 : (Int16.ofInt 10000).toInt32 = 10000 := by decide +kernel
theorem z32 : (((2 : Int32) = 0) = False ∧ ((10 : Int32) = 0) = False ∧ ((100 : Int32) = 0) = False ∧ ((32 : Int32) = 0) = False ∧ ((10000 : Int32) = 0) = False ∧ ((1 : Int32) = 0) = False ∧ ((0 : Int32) = 0) = True) := ⟨eq_false (by decide), eq_false (by decide), eq_false (by decide), eq_false (by decide), eq_false (by decide), eq_false (by decide), eq_true rfl⟩
theorem z64 : (((100 : Int64) = 0) = False ∧ ((2147483647 : Int64) = 0) = False) := ⟨eq_false (by decide), eq_false (by decide)⟩
theorem fn0 : ((0 : Fin 4) : Nat) = 0 := rfl
theorem fn1 : ((1 : Fin 4) : Nat) = 1 := rfl
theorem fn2 : ((2 : Fin 4) : Nat) = 2 := rfl
theorem fn3 : ((3 : Fin 4) : Nat) = 3 := rfl
theorem ct_int (x : Int32) : (Value.int x).category = 1 := rfl
theorem ct_long (x : Int64) : (Value.long x).category = 2 := rfl
theorem ct_ref (a : Nat) : (Value.ref a).category = 1 := rfl
theorem ct_null : Value.null.category = 1 := rfl
theorem ct_rf (r : Option Nat) : (va_rf r).category = 1 := by cases r <;> rfl
theorem rf_ref (a : Nat) : ax_rf (.ref a) = some a := rfl
theorem rf_null : ax_rf .null = none := rfl
theorem isR_ref (a : Nat) : ax_isR (.ref a) = true := rfl
theorem isR_null : ax_isR .null = true := rfl
theorem va_rf_s (a : Nat) : va_rf (some a) = .ref a := rfl
theorem va_rf_n : va_rf none = .null := rfl
theorem gv_0 (h : AH) (a k : Nat) : ax_gv h a k 0 = .int (h.2.1 a k) := rfl
theorem gv_1 (h : AH) (a k : Nat) : ax_gv h a k 1 = .int (h.2.1 a k) := rfl
theorem gv_2 (h : AH) (a k : Nat) : ax_gv h a k 2 = va_rf (h.2.2 a k) := rfl
theorem pv_i (h : AH) (a k t : Nat) (x : Int32) : ax_pv h a k t (.int x) = ax_setI h a k x := rfl
theorem pv_r (h : AH) (a k t b : Nat) : ax_pv h a k t (.ref b) = ax_setR h a k (some b) := rfl
theorem pv_n (h : AH) (a k t : Nat) : ax_pv h a k t .null = ax_setR h a k none := rfl
theorem pv_q (h : AH) (a k t : Nat) (r : Option Nat) : ax_pv h a k t (va_rf r) = ax_setR h a k r := by cases r <;> rfl
theorem pk_0 (x : Int32) : ax_pk 0 (.int x) = True := propext ⟨fun _ => trivial, fun _ => ⟨x, rfl⟩⟩
theorem pk_2 (a : Nat) : ax_pk 2 (.ref a) = True := propext ⟨fun _ => trivial, fun _ => rfl⟩
theorem pk_2n : ax_pk 2 .null = True := propext ⟨fun _ => trivial, fun _ => rfl⟩
theorem pk_2q (r : Option Nat) : ax_pk 2 (va_rf r) = True := propext ⟨fun _ => trivial, fun _ => ax_isR_rf r⟩
theorem pk_10 : ax_pk 1 (.int 0) = True := propext ⟨fun _ => trivial, fun _ => Or.inl rfl⟩
theorem pk_11 : ax_pk 1 (.int 1) = True := propext ⟨fun _ => trivial, fun _ => Or.inr rfl⟩
theorem rok_i (x : Int32) : ax_rok (some .int) (some (.int x)) = True := propext ⟨fun _ => trivial, fun _ => ⟨.int, rfl, vp_nar_int x⟩⟩
theorem rok_z0 : ax_rok (some .boolean) (some (.int 0)) = True := propext ⟨fun _ => trivial, fun _ => ⟨.boolean, rfl, by decide +kernel⟩⟩
theorem rok_z1 : ax_rok (some .boolean) (some (.int 1)) = True := propext ⟨fun _ => trivial, fun _ => ⟨.boolean, rfl, by decide +kernel⟩⟩
theorem ex_eq {α : Sort _} {a : α} {P : α → Prop} : (∃ x, some a = some x ∧ P x) = P a := propext ⟨fun ⟨x, e, p⟩ => by cases e; exact p, fun p => ⟨a, rfl, p⟩⟩
theorem ex_z {c n : Nat} : (∃ z, some (c, n) = some (c, z)) = True := propext ⟨fun _ => trivial, fun _ => ⟨n, rfl⟩⟩
theorem ex_z2 {c n : Nat} {P : Nat → Prop} : (∃ z, some (c, n) = some (c, z) ∧ P z) = P n := propext ⟨fun ⟨x, e, p⟩ => by cases e; exact p, fun p => ⟨n, rfl, p⟩⟩
theorem ex_cz {c n : Nat} {P : Nat → Nat → Prop} : (∃ c' z, some (c, n) = some (c', z) ∧ P c' z) = P c n := propext ⟨fun ⟨_, _, e, p⟩ => by cases e; exact p, fun p => ⟨c, n, rfl, p⟩⟩
theorem b01 {c : Prop} [Decidable c] : ((if c then (1 : Int32) else 0) = 0) = ¬ c := by by_cases h : c <;> simp [h]
theorem m_X6_init : ax_cc jX6_init = cX6_init ∧ ax_nL jX6_init = 2 ∧ ax_ret jX6_init = (Option.none : Option FieldType) := ⟨rfl, rfl, rfl⟩
theorem m_X3_init : ax_cc jX3_init = cX3_init ∧ ax_nL jX3_init = 1 ∧ ax_ret jX3_init = (Option.none : Option FieldType) := ⟨rfl, rfl, rfl⟩
theorem m_X2_init : ax_cc jX2_init = cX2_init ∧ ax_nL jX2_init = 1 ∧ ax_ret jX2_init = (Option.none : Option FieldType) := ⟨rfl, rfl, rfl⟩
theorem m_X4_init : ax_cc jX4_init = cX4_init ∧ ax_nL jX4_init = 1 ∧ ax_ret jX4_init = (Option.none : Option FieldType) := ⟨rfl, rfl, rfl⟩
theorem m_X3_write : ax_cc jX3_write = cX3_write ∧ ax_nL jX3_write = 3 ∧ ax_ret jX3_write = (Option.none : Option FieldType) := ⟨rfl, rfl, rfl⟩
theorem m_J0_length_8abf5 : ax_cc jJ0_length_8abf5 = cJ0_length_8abf5 ∧ ax_nL jJ0_length_8abf5 = 1 ∧ ax_ret jJ0_length_8abf5 = (Option.some FieldType.int) := ⟨rfl, rfl, rfl⟩
theorem m_J0_charAt_5068e : ax_cc jJ0_charAt_5068e = cJ0_charAt_5068e ∧ ax_nL jJ0_charAt_5068e = 2 ∧ ax_ret jJ0_charAt_5068e = (Option.some FieldType.char) := ⟨rfl, rfl, rfl⟩
theorem m_X3_append : ax_cc jX3_append = cX3_append ∧ ax_nL jX3_append = 2 ∧ ax_ret jX3_append = (Option.none : Option FieldType) := ⟨rfl, rfl, rfl⟩
theorem m_X3_read : ax_cc jX3_read = cX3_read ∧ ax_nL jX3_read = 4 ∧ ax_ret jX3_read = (Option.some FieldType.int) := ⟨rfl, rfl, rfl⟩
theorem m_X2_clear : ax_cc jX2_clear = cX2_clear ∧ ax_nL jX2_clear = 1 ∧ ax_ret jX2_clear = (Option.none : Option FieldType) := ⟨rfl, rfl, rfl⟩
theorem m_X3_next : ax_cc jX3_next = cX3_next ∧ ax_nL jX3_next = 2 ∧ ax_ret jX3_next = (Option.none : Option FieldType) := ⟨rfl, rfl, rfl⟩
theorem m_X3_skipBlanks : ax_cc jX3_skipBlanks = cX3_skipBlanks ∧ ax_nL jX3_skipBlanks = 2 ∧ ax_ret jX3_skipBlanks = (Option.none : Option FieldType) := ⟨rfl, rfl, rfl⟩
theorem m_X3_byteAt : ax_cc jX3_byteAt = cX3_byteAt ∧ ax_nL jX3_byteAt = 2 ∧ ax_ret jX3_byteAt = (Option.some FieldType.int) := ⟨rfl, rfl, rfl⟩
theorem m_X3_isLetter : ax_cc jX3_isLetter = cX3_isLetter ∧ ax_nL jX3_isLetter = 1 ∧ ax_ret jX3_isLetter = (Option.some FieldType.boolean) := ⟨rfl, rfl, rfl⟩
theorem m_X3_readWord : ax_cc jX3_readWord = cX3_readWord ∧ ax_nL jX3_readWord = 2 ∧ ax_ret jX3_readWord = (Option.none : Option FieldType) := ⟨rfl, rfl, rfl⟩
theorem m_X3_wordNumber : ax_cc jX3_wordNumber = cX3_wordNumber ∧ ax_nL jX3_wordNumber = 5 ∧ ax_ret jX3_wordNumber = (Option.some FieldType.int) := ⟨rfl, rfl, rfl⟩
theorem m_X3_isDigit : ax_cc jX3_isDigit = cX3_isDigit ∧ ax_nL jX3_isDigit = 1 ∧ ax_ret jX3_isDigit = (Option.some FieldType.boolean) := ⟨rfl, rfl, rfl⟩
theorem m_X3_readNumber : ax_cc jX3_readNumber = cX3_readNumber ∧ ax_nL jX3_readNumber = 2 ∧ ax_ret jX3_readNumber = (Option.none : Option FieldType) := ⟨rfl, rfl, rfl⟩
theorem m_X5_ofByte : ax_cc jX5_ofByte = cX5_ofByte ∧ ax_nL jX5_ofByte = 1 ∧ ax_ret jX5_ofByte = (Option.some FieldType.int) := ⟨rfl, rfl, rfl⟩
theorem m_X3_readSaying : ax_cc jX3_readSaying = cX3_readSaying ∧ ax_nL jX3_readSaying = 4 ∧ ax_ret jX3_readSaying = (Option.some FieldType.boolean) := ⟨rfl, rfl, rfl⟩
theorem m_X2_addStep : ax_cc jX2_addStep = cX2_addStep ∧ ax_nL jX2_addStep = 3 ∧ ax_ret jX2_addStep = (Option.none : Option FieldType) := ⟨rfl, rfl, rfl⟩
theorem m_X3_opens : ax_cc jX3_opens = cX3_opens ∧ ax_nL jX3_opens = 2 ∧ ax_ret jX3_opens = (Option.some FieldType.boolean) := ⟨rfl, rfl, rfl⟩
theorem m_X3_lastWaiting : ax_cc jX3_lastWaiting = cX3_lastWaiting ∧ ax_nL jX3_lastWaiting = 1 ∧ ax_ret jX3_lastWaiting = (Option.some FieldType.int) := ⟨rfl, rfl, rfl⟩
theorem m_X5_binds : ax_cc jX5_binds = cX5_binds ∧ ax_nL jX5_binds = 1 ∧ ax_ret jX5_binds = (Option.some FieldType.int) := ⟨rfl, rfl, rfl⟩
theorem m_X3_await : ax_cc jX3_await = cX3_await ∧ ax_nL jX3_await = 2 ∧ ax_ret jX3_await = (Option.none : Option FieldType) := ⟨rfl, rfl, rfl⟩
theorem m_X3_settle : ax_cc jX3_settle = cX3_settle ∧ ax_nL jX3_settle = 5 ∧ ax_ret jX3_settle = (Option.none : Option FieldType) := ⟨rfl, rfl, rfl⟩
theorem m_X3_closes : ax_cc jX3_closes = cX3_closes ∧ ax_nL jX3_closes = 2 ∧ ax_ret jX3_closes = (Option.some FieldType.boolean) := ⟨rfl, rfl, rfl⟩
theorem m_X3_joins : ax_cc jX3_joins = cX3_joins ∧ ax_nL jX3_joins = 3 ∧ ax_ret jX3_joins = (Option.some FieldType.boolean) := ⟨rfl, rfl, rfl⟩
theorem m_X5_joinsTwo : ax_cc jX5_joinsTwo = cX5_joinsTwo ∧ ax_nL jX5_joinsTwo = 1 ∧ ax_ret jX5_joinsTwo = (Option.some FieldType.boolean) := ⟨rfl, rfl, rfl⟩
theorem m_X2_endPart : ax_cc jX2_endPart = cX2_endPart ∧ ax_nL jX2_endPart = 2 ∧ ax_ret jX2_endPart = (Option.none : Option FieldType) := ⟨rfl, rfl, rfl⟩
theorem m_X1_init : ax_cc jX1_init = cX1_init ∧ ax_nL jX1_init = 2 ∧ ax_ret jX1_init = (Option.none : Option FieldType) := ⟨rfl, rfl, rfl⟩
theorem m_X6_count : ax_cc jX6_count = cX6_count ∧ ax_nL jX6_count = 2 ∧ ax_ret jX6_count = (Option.some FieldType.int) := ⟨rfl, rfl, rfl⟩
theorem m_X1_fireplaces : ax_cc jX1_fireplaces = cX1_fireplaces ∧ ax_nL jX1_fireplaces = 3 ∧ ax_ret jX1_fireplaces = (Option.some FieldType.int) := ⟨rfl, rfl, rfl⟩
theorem m_X1_fireplaceAt : ax_cc jX1_fireplaceAt = cX1_fireplaceAt ∧ ax_nL jX1_fireplaceAt = 3 ∧ ax_ret jX1_fireplaceAt = (Option.some (FieldType.object "UpTheFlue$Bit")) := ⟨rfl, rfl, rfl⟩
theorem m_X1_bitAt : ax_cc jX1_bitAt = cX1_bitAt ∧ ax_nL jX1_bitAt = 2 ∧ ax_ret jX1_bitAt = (Option.some (FieldType.object "UpTheFlue$Bit")) := ⟨rfl, rfl, rfl⟩
theorem m_X1_firstUnder : ax_cc jX1_firstUnder = cX1_firstUnder ∧ ax_nL jX1_firstUnder = 4 ∧ ax_ret jX1_firstUnder = (Option.some (FieldType.object "UpTheFlue$Bit")) := ⟨rfl, rfl, rfl⟩
theorem m_J6_bitCount_0f7a4 : ax_cc jJ6_bitCount_0f7a4 = cJ6_bitCount_0f7a4 ∧ ax_nL jJ6_bitCount_0f7a4 = 1 ∧ ax_ret jJ6_bitCount_0f7a4 = (Option.some FieldType.int) := ⟨rfl, rfl, rfl⟩
theorem m_X1_pots : ax_cc jX1_pots = cX1_pots ∧ ax_nL jX1_pots = 4 ∧ ax_ret jX1_pots = (Option.some FieldType.int) := ⟨rfl, rfl, rfl⟩
theorem m_X6_feed : ax_cc jX6_feed = cX6_feed ∧ ax_nL jX6_feed = 8 ∧ ax_ret jX6_feed = (Option.some FieldType.int) := ⟨rfl, rfl, rfl⟩
theorem m_X6_in : ax_cc jX6_in = cX6_in ∧ ax_nL jX6_in = 3 ∧ ax_ret jX6_in = (Option.some FieldType.boolean) := ⟨rfl, rfl, rfl⟩
theorem m_X6_isByte : ax_cc jX6_isByte = cX6_isByte ∧ ax_nL jX6_isByte = 1 ∧ ax_ret jX6_isByte = (Option.some FieldType.boolean) := ⟨rfl, rfl, rfl⟩
theorem m_X6_text : ax_cc jX6_text = cX6_text ∧ ax_nL jX6_text = 3 ∧ ax_ret jX6_text = (Option.some FieldType.int) := ⟨rfl, rfl, rfl⟩
theorem m_X6_textAt : ax_cc jX6_textAt = cX6_textAt ∧ ax_nL jX6_textAt = 3 ∧ ax_ret jX6_textAt = (Option.some (FieldType.object "UpTheFlue$Law")) := ⟨rfl, rfl, rfl⟩
theorem m_X6_force : ax_cc jX6_force = cX6_force ∧ ax_nL jX6_force = 4 ∧ ax_ret jX6_force = (Option.some FieldType.int) := ⟨rfl, rfl, rfl⟩
theorem m_X6_asks : ax_cc jX6_asks = cX6_asks ∧ ax_nL jX6_asks = 6 ∧ ax_ret jX6_asks = (Option.some FieldType.int) := ⟨rfl, rfl, rfl⟩
theorem m_X2_says : ax_cc jX2_says = cX2_says ∧ ax_nL jX2_says = 6 ∧ ax_ret jX2_says = (Option.some FieldType.int) := ⟨rfl, rfl, rfl⟩
theorem m_X0_isWide : ax_cc jX0_isWide = cX0_isWide ∧ ax_nL jX0_isWide = 2 ∧ ax_ret jX0_isWide = (Option.some FieldType.int) := ⟨rfl, rfl, rfl⟩
theorem m_X2_step : ax_cc jX2_step = cX2_step ∧ ax_nL jX2_step = 6 ∧ ax_ret jX2_step = (Option.some FieldType.int) := ⟨rfl, rfl, rfl⟩
theorem m_X2_joined : ax_cc jX2_joined = cX2_joined ∧ ax_nL jX2_joined = 3 ∧ ax_ret jX2_joined = (Option.some FieldType.int) := ⟨rfl, rfl, rfl⟩
theorem m_X6_bit : ax_cc jX6_bit = cX6_bit ∧ ax_nL jX6_bit = 5 ∧ ax_ret jX6_bit = (Option.some FieldType.int) := ⟨rfl, rfl, rfl⟩
theorem m_X1_isFull : ax_cc jX1_isFull = cX1_isFull ∧ ax_nL jX1_isFull = 1 ∧ ax_ret jX1_isFull = (Option.some FieldType.boolean) := ⟨rfl, rfl, rfl⟩
theorem m_X0_init : ax_cc jX0_init = cX0_init ∧ ax_nL jX0_init = 6 ∧ ax_ret jX0_init = (Option.none : Option FieldType) := ⟨rfl, rfl, rfl⟩
theorem m_X1_add : ax_cc jX1_add = cX1_add ∧ ax_nL jX1_add = 2 ∧ ax_ret jX1_add = (Option.some FieldType.int) := ⟨rfl, rfl, rfl⟩
theorem m_X6_mend : ax_cc jX6_mend = cX6_mend ∧ ax_nL jX6_mend = 6 ∧ ax_ret jX6_mend = (Option.some FieldType.int) := ⟨rfl, rfl, rfl⟩
theorem m_X6_lay : ax_cc jX6_lay = cX6_lay ∧ ax_nL jX6_lay = 5 ∧ ax_ret jX6_lay = (Option.some FieldType.int) := ⟨rfl, rfl, rfl⟩
theorem m_X6_told : ax_cc jX6_told = cX6_told ∧ ax_nL jX6_told = 4 ∧ ax_ret jX6_told = (Option.some FieldType.int) := ⟨rfl, rfl, rfl⟩
theorem m_X6_numberOf : ax_cc jX6_numberOf = cX6_numberOf ∧ ax_nL jX6_numberOf = 1 ∧ ax_ret jX6_numberOf = (Option.some FieldType.int) := ⟨rfl, rfl, rfl⟩
theorem m_X0_leaks : ax_cc jX0_leaks = cX0_leaks ∧ ax_nL jX0_leaks = 1 ∧ ax_ret jX0_leaks = (Option.some FieldType.int) := ⟨rfl, rfl, rfl⟩
theorem m_X6_all : ax_cc jX6_all = cX6_all ∧ ax_nL jX6_all = 2 ∧ ax_ret jX6_all = (Option.some FieldType.int) := ⟨rfl, rfl, rfl⟩
theorem m_X6_flue : ax_cc jX6_flue = cX6_flue ∧ ax_nL jX6_flue = 4 ∧ ax_ret jX6_flue = (Option.some FieldType.int) := ⟨rfl, rfl, rfl⟩
theorem m_X0_last : ax_cc jX0_last = cX0_last ∧ ax_nL jX0_last = 3 ∧ ax_ret jX0_last = (Option.some (FieldType.object "UpTheFlue$Bit")) := ⟨rfl, rfl, rfl⟩
theorem m_X0_bitsUp : ax_cc jX0_bitsUp = cX0_bitsUp ∧ ax_nL jX0_bitsUp = 3 ∧ ax_ret jX0_bitsUp = (Option.some FieldType.int) := ⟨rfl, rfl, rfl⟩
theorem m_X1_fireplacesUnder : ax_cc jX1_fireplacesUnder = cX1_fireplacesUnder ∧ ax_nL jX1_fireplacesUnder = 5 ∧ ax_ret jX1_fireplacesUnder = (Option.some FieldType.int) := ⟨rfl, rfl, rfl⟩
theorem m_X0_rodsUpTo : ax_cc jX0_rodsUpTo = cX0_rodsUpTo ∧ ax_nL jX0_rodsUpTo = 4 ∧ ax_ret jX0_rodsUpTo = (Option.some FieldType.int) := ⟨rfl, rfl, rfl⟩
theorem m_X6_join : ax_cc jX6_join = cX6_join ∧ ax_nL jX6_join = 5 ∧ ax_ret jX6_join = (Option.some FieldType.int) := ⟨rfl, rfl, rfl⟩
theorem m_X0_firstUpIn : ax_cc jX0_firstUpIn = cX0_firstUpIn ∧ ax_nL jX0_firstUpIn = 3 ∧ ax_ret jX0_firstUpIn = (Option.some (FieldType.object "UpTheFlue$Bit")) := ⟨rfl, rfl, rfl⟩
theorem m_X6_rod : ax_cc jX6_rod = cX6_rod ∧ ax_nL jX6_rod = 5 ∧ ax_ret jX6_rod = (Option.some FieldType.int) := ⟨rfl, rfl, rfl⟩
theorem m_X0_reachedBy : ax_cc jX0_reachedBy = cX0_reachedBy ∧ ax_nL jX0_reachedBy = 4 ∧ ax_ret jX0_reachedBy = (Option.some (FieldType.object "UpTheFlue$Bit")) := ⟨rfl, rfl, rfl⟩
theorem m_X2_heavyBy : ax_cc jX2_heavyBy = cX2_heavyBy ∧ ax_nL jX2_heavyBy = 4 ∧ ax_ret jX2_heavyBy = (Option.some FieldType.int) := ⟨rfl, rfl, rfl⟩
theorem m_X6_push : ax_cc jX6_push = cX6_push ∧ ax_nL jX6_push = 6 ∧ ax_ret jX6_push = (Option.some FieldType.int) := ⟨rfl, rfl, rfl⟩
theorem m_X1_staysIn : ax_cc jX1_staysIn = cX1_staysIn ∧ ax_nL jX1_staysIn = 4 ∧ ax_ret jX1_staysIn = (Option.some (FieldType.object "UpTheFlue$Bit")) := ⟨rfl, rfl, rfl⟩
theorem m_X6_sweep : ax_cc jX6_sweep = cX6_sweep ∧ ax_nL jX6_sweep = 4 ∧ ax_ret jX6_sweep = (Option.some FieldType.int) := ⟨rfl, rfl, rfl⟩
theorem m_X1_brush : ax_cc jX1_brush = cX1_brush ∧ ax_nL jX1_brush = 7 ∧ ax_ret jX1_brush = (Option.some FieldType.int) := ⟨rfl, rfl, rfl⟩
theorem m_X0_left : ax_cc jX0_left = cX0_left ∧ ax_nL jX0_left = 1 ∧ ax_ret jX0_left = (Option.some FieldType.int) := ⟨rfl, rfl, rfl⟩
theorem m_X6_needs : ax_cc jX6_needs = cX6_needs ∧ ax_nL jX6_needs = 5 ∧ ax_ret jX6_needs = (Option.some FieldType.int) := ⟨rfl, rfl, rfl⟩
theorem m_X6_fire : ax_cc jX6_fire = cX6_fire ∧ ax_nL jX6_fire = 6 ∧ ax_ret jX6_fire = (Option.some FieldType.int) := ⟨rfl, rfl, rfl⟩
theorem m_X1_light : ax_cc jX1_light = cX1_light ∧ ax_nL jX1_light = 5 ∧ ax_ret jX1_light = (Option.none : Option FieldType) := ⟨rfl, rfl, rfl⟩
theorem m_X0_grows : ax_cc jX0_grows = cX0_grows ∧ ax_nL jX0_grows = 2 ∧ ax_ret jX0_grows = (Option.some FieldType.int) := ⟨rfl, rfl, rfl⟩
theorem m_X0_isOne : ax_cc jX0_isOne = cX0_isOne ∧ ax_nL jX0_isOne = 2 ∧ ax_ret jX0_isOne = (Option.some FieldType.boolean) := ⟨rfl, rfl, rfl⟩
theorem m_X0_sootUp : ax_cc jX0_sootUp = cX0_sootUp ∧ ax_nL jX0_sootUp = 3 ∧ ax_ret jX0_sootUp = (Option.some FieldType.int) := ⟨rfl, rfl, rfl⟩
theorem m_X6_smoke : ax_cc jX6_smoke = cX6_smoke ∧ ax_nL jX6_smoke = 10 ∧ ax_ret jX6_smoke = (Option.some FieldType.int) := ⟨rfl, rfl, rfl⟩
theorem m_X6_draw : ax_cc jX6_draw = cX6_draw ∧ ax_nL jX6_draw = 4 ∧ ax_ret jX6_draw = (Option.some FieldType.int) := ⟨rfl, rfl, rfl⟩
theorem m_X0_drawUp : ax_cc jX0_drawUp = cX0_drawUp ∧ ax_nL jX0_drawUp = 3 ∧ ax_ret jX0_drawUp = (Option.some FieldType.int) := ⟨rfl, rfl, rfl⟩
theorem m_X6_smokes : ax_cc jX6_smokes = cX6_smokes ∧ ax_nL jX6_smokes = 5 ∧ ax_ret jX6_smokes = (Option.some FieldType.int) := ⟨rfl, rfl, rfl⟩
theorem m_X6_fine : ax_cc jX6_fine = cX6_fine ∧ ax_nL jX6_fine = 8 ∧ ax_ret jX6_fine = (Option.some FieldType.long) := ⟨rfl, rfl, rfl⟩
theorem m_X1_setSootAside : ax_cc jX1_setSootAside = cX1_setSootAside ∧ ax_nL jX1_setSootAside = 3 ∧ ax_ret jX1_setSootAside = (Option.none : Option FieldType) := ⟨rfl, rfl, rfl⟩
theorem m_X1_fineBehindFire : ax_cc jX1_fineBehindFire = cX1_fineBehindFire ∧ ax_nL jX1_fineBehindFire = 8 ∧ ax_ret jX1_fineBehindFire = (Option.some FieldType.long) := ⟨rfl, rfl, rfl⟩
theorem m_X1_putSootBack : ax_cc jX1_putSootBack = cX1_putSootBack ∧ ax_nL jX1_putSootBack = 3 ∧ ax_ret jX1_putSootBack = (Option.none : Option FieldType) := ⟨rfl, rfl, rfl⟩
theorem m_X6_when : ax_cc jX6_when = cX6_when ∧ ax_nL jX6_when = 11 ∧ ax_ret jX6_when = (Option.some FieldType.int) := ⟨rfl, rfl, rfl⟩
theorem m_X6_often : ax_cc jX6_often = cX6_often ∧ ax_nL jX6_often = 8 ∧ ax_ret jX6_often = (Option.some FieldType.int) := ⟨rfl, rfl, rfl⟩
theorem m_X1_staysBelow : ax_cc jX1_staysBelow = cX1_staysBelow ∧ ax_nL jX1_staysBelow = 8 ∧ ax_ret jX1_staysBelow = (Option.some FieldType.boolean) := ⟨rfl, rfl, rfl⟩
theorem m_X0_mostSootUp : ax_cc jX0_mostSootUp = cX0_mostSootUp ∧ ax_nL jX0_mostSootUp = 3 ∧ ax_ret jX0_mostSootUp = (Option.some FieldType.int) := ⟨rfl, rfl, rfl⟩
theorem m_X6_round : ax_cc jX6_round = cX6_round ∧ ax_nL jX6_round = 5 ∧ ax_ret jX6_round = (Option.some FieldType.int) := ⟨rfl, rfl, rfl⟩
theorem m_X1_bestRound : ax_cc jX1_bestRound = cX1_bestRound ∧ ax_nL jX1_bestRound = 8 ∧ ax_ret jX1_bestRound = (Option.some FieldType.int) := ⟨rfl, rfl, rfl⟩
theorem m_X1_gatherPlaces : ax_cc jX1_gatherPlaces = cX1_gatherPlaces ∧ ax_nL jX1_gatherPlaces = 4 ∧ ax_ret jX1_gatherPlaces = (Option.some FieldType.int) := ⟨rfl, rfl, rfl⟩
theorem m_X1_layOrder : ax_cc jX1_layOrder = cX1_layOrder ∧ ax_nL jX1_layOrder = 7 ∧ ax_ret jX1_layOrder = (Option.some FieldType.boolean) := ⟨rfl, rfl, rfl⟩
theorem m_X1_mostSootInRound : ax_cc jX1_mostSootInRound = cX1_mostSootInRound ∧ ax_nL jX1_mostSootInRound = 7 ∧ ax_ret jX1_mostSootInRound = (Option.some FieldType.int) := ⟨rfl, rfl, rfl⟩
theorem m_X1_mostSoot : ax_cc jX1_mostSoot = cX1_mostSoot ∧ ax_nL jX1_mostSoot = 4 ∧ ax_ret jX1_mostSoot = (Option.some FieldType.int) := ⟨rfl, rfl, rfl⟩
theorem m_X1_orderAsDigits : ax_cc jX1_orderAsDigits = cX1_orderAsDigits ∧ ax_nL jX1_orderAsDigits = 4 ∧ ax_ret jX1_orderAsDigits = (Option.some FieldType.int) := ⟨rfl, rfl, rfl⟩
theorem m_X6_ball : ax_cc jX6_ball = cX6_ball ∧ ax_nL jX6_ball = 9 ∧ ax_ret jX6_ball = (Option.some FieldType.int) := ⟨rfl, rfl, rfl⟩
theorem m_X6_judge : ax_cc jX6_judge = cX6_judge ∧ ax_nL jX6_judge = 5 ∧ ax_ret jX6_judge = (Option.some FieldType.int) := ⟨rfl, rfl, rfl⟩
theorem m_X6_sheetAt : ax_cc jX6_sheetAt = cX6_sheetAt ∧ ax_nL jX6_sheetAt = 2 ∧ ax_ret jX6_sheetAt = (Option.some (FieldType.object "UpTheFlue$Sheet")) := ⟨rfl, rfl, rfl⟩
theorem m_X4_isMissing : ax_cc jX4_isMissing = cX4_isMissing ∧ ax_nL jX4_isMissing = 1 ∧ ax_ret jX4_isMissing = (Option.some FieldType.boolean) := ⟨rfl, rfl, rfl⟩
theorem m_X4_otherwise : ax_cc jX4_otherwise = cX4_otherwise ∧ ax_nL jX4_otherwise = 4 ∧ ax_ret jX4_otherwise = (Option.some FieldType.int) := ⟨rfl, rfl, rfl⟩
theorem m_X4_get : ax_cc jX4_get = cX4_get ∧ ax_nL jX4_get = 2 ∧ ax_ret jX4_get = (Option.some FieldType.int) := ⟨rfl, rfl, rfl⟩
theorem m_X4_has : ax_cc jX4_has = cX4_has ∧ ax_nL jX4_has = 2 ∧ ax_ret jX4_has = (Option.some FieldType.boolean) := ⟨rfl, rfl, rfl⟩
theorem m_X6_whose : ax_cc jX6_whose = cX6_whose ∧ ax_nL jX6_whose = 6 ∧ ax_ret jX6_whose = (Option.some FieldType.int) := ⟨rfl, rfl, rfl⟩
theorem m_X6_laws : ax_cc jX6_laws = cX6_laws ∧ ax_nL jX6_laws = 8 ∧ ax_ret jX6_laws = (Option.some FieldType.int) := ⟨rfl, rfl, rfl⟩
theorem m_X6_blocked : ax_cc jX6_blocked = cX6_blocked ∧ ax_nL jX6_blocked = 10 ∧ ax_ret jX6_blocked = (Option.some FieldType.int) := ⟨rfl, rfl, rfl⟩
theorem m_X4_tellsBlocked : ax_cc jX4_tellsBlocked = cX4_tellsBlocked ∧ ax_nL jX4_tellsBlocked = 8 ∧ ax_ret jX4_tellsBlocked = (Option.some FieldType.boolean) := ⟨rfl, rfl, rfl⟩
theorem m_X6_film : ax_cc jX6_film = cX6_film ∧ ax_nL jX6_film = 7 ∧ ax_ret jX6_film = (Option.some FieldType.int) := ⟨rfl, rfl, rfl⟩
theorem m_X4_become : ax_cc jX4_become = cX4_become ∧ ax_nL jX4_become = 4 ∧ ax_ret jX4_become = (Option.none : Option FieldType) := ⟨rfl, rfl, rfl⟩
theorem m_X4_put : ax_cc jX4_put = cX4_put ∧ ax_nL jX4_put = 3 ∧ ax_ret jX4_put = (Option.none : Option FieldType) := ⟨rfl, rfl, rfl⟩
theorem m_X6_drawn : ax_cc jX6_drawn = cX6_drawn ∧ ax_nL jX6_drawn = 6 ∧ ax_ret jX6_drawn = (Option.some FieldType.int) := ⟨rfl, rfl, rfl⟩
theorem m_X1_weighBurning : ax_cc jX1_weighBurning = cX1_weighBurning ∧ ax_nL jX1_weighBurning = 7 ∧ ax_ret jX1_weighBurning = (Option.none : Option FieldType) := ⟨rfl, rfl, rfl⟩
theorem m_X1_firstBurning : ax_cc jX1_firstBurning = cX1_firstBurning ∧ ax_nL jX1_firstBurning = 10 ∧ ax_ret jX1_firstBurning = (Option.some FieldType.int) := ⟨rfl, rfl, rfl⟩
theorem m_X6_odds : ax_cc jX6_odds = cX6_odds ∧ ax_nL jX6_odds = 10 ∧ ax_ret jX6_odds = (Option.some FieldType.long) := ⟨rfl, rfl, rfl⟩
theorem m_X6_image : ax_cc jX6_image = cX6_image ∧ ax_nL jX6_image = 1 ∧ ax_ret jX6_image = (Option.some FieldType.int) := ⟨rfl, rfl, rfl⟩
theorem m_X1_keepImage : ax_cc jX1_keepImage = cX1_keepImage ∧ ax_nL jX1_keepImage = 3 ∧ ax_ret jX1_keepImage = (Option.none : Option FieldType) := ⟨rfl, rfl, rfl⟩
theorem m_X6_back : ax_cc jX6_back = cX6_back ∧ ax_nL jX6_back = 2 ∧ ax_ret jX6_back = (Option.some FieldType.int) := ⟨rfl, rfl, rfl⟩
theorem m_X1_goBack : ax_cc jX1_goBack = cX1_goBack ∧ ax_nL jX1_goBack = 3 ∧ ax_ret jX1_goBack = (Option.none : Option FieldType) := ⟨rfl, rfl, rfl⟩
theorem m_X6_sheet : ax_cc jX6_sheet = cX6_sheet ∧ ax_nL jX6_sheet = 5 ∧ ax_ret jX6_sheet = (Option.some FieldType.int) := ⟨rfl, rfl, rfl⟩
theorem m_X6_cell : ax_cc jX6_cell = cX6_cell ∧ ax_nL jX6_cell = 5 ∧ ax_ret jX6_cell = (Option.some FieldType.int) := ⟨rfl, rfl, rfl⟩
theorem m_X6_copy : ax_cc jX6_copy = cX6_copy ∧ ax_nL jX6_copy = 8 ∧ ax_ret jX6_copy = (Option.some FieldType.int) := ⟨rfl, rfl, rfl⟩
theorem m_X4_hasRun : ax_cc jX4_hasRun = cX4_hasRun ∧ ax_nL jX4_hasRun = 3 ∧ ax_ret jX4_hasRun = (Option.some FieldType.boolean) := ⟨rfl, rfl, rfl⟩
theorem m_X6_bitsBy : ax_cc jX6_bitsBy = cX6_bitsBy ∧ ax_nL jX6_bitsBy = 10 ∧ ax_ret jX6_bitsBy = (Option.some FieldType.int) := ⟨rfl, rfl, rfl⟩
theorem m_X6_taken : ax_cc jX6_taken = cX6_taken ∧ ax_nL jX6_taken = 5 ∧ ax_ret jX6_taken = (Option.some FieldType.int) := ⟨rfl, rfl, rfl⟩
theorem m_X7_init : ax_cc jX7_init = cX7_init ∧ ax_nL jX7_init = 2 ∧ ax_ret jX7_init = (Option.none : Option FieldType) := ⟨rfl, rfl, rfl⟩
theorem m_X7_text : ax_cc jX7_text = cX7_text ∧ ax_nL jX7_text = 3 ∧ ax_ret jX7_text = (Option.some FieldType.int) := ⟨rfl, rfl, rfl⟩
theorem m_X7_next : ax_cc jX7_next = cX7_next ∧ ax_nL jX7_next = 3 ∧ ax_ret jX7_next = (Option.none : Option FieldType) := ⟨rfl, rfl, rfl⟩
theorem m_X7_in : ax_cc jX7_in = cX7_in ∧ ax_nL jX7_in = 3 ∧ ax_ret jX7_in = (Option.some FieldType.boolean) := ⟨rfl, rfl, rfl⟩
theorem m_X7_wordFrom : ax_cc jX7_wordFrom = cX7_wordFrom ∧ ax_nL jX7_wordFrom = 6 ∧ ax_ret jX7_wordFrom = (Option.some FieldType.int) := ⟨rfl, rfl, rfl⟩
theorem m_X7_eRead : ax_cc jX7_eRead = cX7_eRead ∧ ax_nL jX7_eRead = 4 ∧ ax_ret jX7_eRead = (Option.some FieldType.boolean) := ⟨rfl, rfl, rfl⟩
theorem m_X7_puts : ax_cc jX7_puts = cX7_puts ∧ ax_nL jX7_puts = 2 ∧ ax_ret jX7_puts = (Option.none : Option FieldType) := ⟨rfl, rfl, rfl⟩
theorem m_X7_unwinds : ax_cc jX7_unwinds = cX7_unwinds ∧ ax_nL jX7_unwinds = 3 ∧ ax_ret jX7_unwinds = (Option.none : Option FieldType) := ⟨rfl, rfl, rfl⟩
theorem m_X7_rank : ax_cc jX7_rank = cX7_rank ∧ ax_nL jX7_rank = 1 ∧ ax_ret jX7_rank = (Option.some FieldType.int) := ⟨rfl, rfl, rfl⟩
theorem m_X7_opensOne : ax_cc jX7_opensOne = cX7_opensOne ∧ ax_nL jX7_opensOne = 2 ∧ ax_ret jX7_opensOne = (Option.some FieldType.boolean) := ⟨rfl, rfl, rfl⟩
theorem m_X7_holds : ax_cc jX7_holds = cX7_holds ∧ ax_nL jX7_holds = 2 ∧ ax_ret jX7_holds = (Option.none : Option FieldType) := ⟨rfl, rfl, rfl⟩
theorem m_X7_signOf : ax_cc jX7_signOf = cX7_signOf ∧ ax_nL jX7_signOf = 1 ∧ ax_ret jX7_signOf = (Option.some FieldType.int) := ⟨rfl, rfl, rfl⟩
theorem m_X7_between : ax_cc jX7_between = cX7_between ∧ ax_nL jX7_between = 2 ∧ ax_ret jX7_between = (Option.some FieldType.boolean) := ⟨rfl, rfl, rfl⟩
theorem m_X7_count : ax_cc jX7_count = cX7_count ∧ ax_nL jX7_count = 2 ∧ ax_ret jX7_count = (Option.some FieldType.int) := ⟨rfl, rfl, rfl⟩
theorem m_X7_setOf : ax_cc jX7_setOf = cX7_setOf ∧ ax_nL jX7_setOf = 5 ∧ ax_ret jX7_setOf = (Option.some FieldType.int) := ⟨rfl, rfl, rfl⟩
theorem m_X7_isFireplace : ax_cc jX7_isFireplace = cX7_isFireplace ∧ ax_nL jX7_isFireplace = 4 ∧ ax_ret jX7_isFireplace = (Option.some FieldType.boolean) := ⟨rfl, rfl, rfl⟩
theorem m_X7_isBit : ax_cc jX7_isBit = cX7_isBit ∧ ax_nL jX7_isBit = 2 ∧ ax_ret jX7_isBit = (Option.some FieldType.boolean) := ⟨rfl, rfl, rfl⟩
theorem m_X7_isPot : ax_cc jX7_isPot = cX7_isPot ∧ ax_nL jX7_isPot = 2 ∧ ax_ret jX7_isPot = (Option.some FieldType.boolean) := ⟨rfl, rfl, rfl⟩
theorem m_X7_ones : ax_cc jX7_ones = cX7_ones ∧ ax_nL jX7_ones = 3 ∧ ax_ret jX7_ones = (Option.some FieldType.int) := ⟨rfl, rfl, rfl⟩
theorem m_X7_feed : ax_cc jX7_feed = cX7_feed ∧ ax_nL jX7_feed = 8 ∧ ax_ret jX7_feed = (Option.some FieldType.int) := ⟨rfl, rfl, rfl⟩
theorem m_X7_isByte : ax_cc jX7_isByte = cX7_isByte ∧ ax_nL jX7_isByte = 1 ∧ ax_ret jX7_isByte = (Option.some FieldType.boolean) := ⟨rfl, rfl, rfl⟩
theorem m_X7_force : ax_cc jX7_force = cX7_force ∧ ax_nL jX7_force = 3 ∧ ax_ret jX7_force = (Option.some FieldType.int) := ⟨rfl, rfl, rfl⟩
theorem m_X7_asks : ax_cc jX7_asks = cX7_asks ∧ ax_nL jX7_asks = 5 ∧ ax_ret jX7_asks = (Option.some FieldType.int) := ⟨rfl, rfl, rfl⟩
theorem m_X7_asksOf : ax_cc jX7_asksOf = cX7_asksOf ∧ ax_nL jX7_asksOf = 5 ∧ ax_ret jX7_asksOf = (Option.some FieldType.int) := ⟨rfl, rfl, rfl⟩
theorem m_X7_is : ax_cc jX7_is = cX7_is ∧ ax_nL jX7_is = 4 ∧ ax_ret jX7_is = (Option.some FieldType.int) := ⟨rfl, rfl, rfl⟩
theorem m_X7_within : ax_cc jX7_within = cX7_within ∧ ax_nL jX7_within = 3 ∧ ax_ret jX7_within = (Option.some FieldType.int) := ⟨rfl, rfl, rfl⟩
theorem m_X7_worth : ax_cc jX7_worth = cX7_worth ∧ ax_nL jX7_worth = 5 ∧ ax_ret jX7_worth = (Option.some FieldType.int) := ⟨rfl, rfl, rfl⟩
theorem m_X7_two : ax_cc jX7_two = cX7_two ∧ ax_nL jX7_two = 3 ∧ ax_ret jX7_two = (Option.some FieldType.int) := ⟨rfl, rfl, rfl⟩
theorem m_X7_bit : ax_cc jX7_bit = cX7_bit ∧ ax_nL jX7_bit = 6 ∧ ax_ret jX7_bit = (Option.some FieldType.int) := ⟨rfl, rfl, rfl⟩
theorem m_X7_mend : ax_cc jX7_mend = cX7_mend ∧ ax_nL jX7_mend = 5 ∧ ax_ret jX7_mend = (Option.some FieldType.int) := ⟨rfl, rfl, rfl⟩
theorem m_X7_isSo : ax_cc jX7_isSo = cX7_isSo ∧ ax_nL jX7_isSo = 2 ∧ ax_ret jX7_isSo = (Option.some FieldType.boolean) := ⟨rfl, rfl, rfl⟩
theorem m_X7_lay : ax_cc jX7_lay = cX7_lay ∧ ax_nL jX7_lay = 4 ∧ ax_ret jX7_lay = (Option.some FieldType.int) := ⟨rfl, rfl, rfl⟩
theorem m_X7_told : ax_cc jX7_told = cX7_told ∧ ax_nL jX7_told = 3 ∧ ax_ret jX7_told = (Option.some FieldType.int) := ⟨rfl, rfl, rfl⟩
theorem m_X7_leaks : ax_cc jX7_leaks = cX7_leaks ∧ ax_nL jX7_leaks = 2 ∧ ax_ret jX7_leaks = (Option.some FieldType.int) := ⟨rfl, rfl, rfl⟩
theorem m_X7_all : ax_cc jX7_all = cX7_all ∧ ax_nL jX7_all = 2 ∧ ax_ret jX7_all = (Option.some FieldType.int) := ⟨rfl, rfl, rfl⟩
theorem m_X7_flue : ax_cc jX7_flue = cX7_flue ∧ ax_nL jX7_flue = 3 ∧ ax_ret jX7_flue = (Option.some FieldType.int) := ⟨rfl, rfl, rfl⟩
theorem m_X7_lastOf : ax_cc jX7_lastOf = cX7_lastOf ∧ ax_nL jX7_lastOf = 3 ∧ ax_ret jX7_lastOf = (Option.some FieldType.int) := ⟨rfl, rfl, rfl⟩
theorem m_X7_flueOf : ax_cc jX7_flueOf = cX7_flueOf ∧ ax_nL jX7_flueOf = 4 ∧ ax_ret jX7_flueOf = (Option.some FieldType.int) := ⟨rfl, rfl, rfl⟩
theorem m_X7_fireplacesOf : ax_cc jX7_fireplacesOf = cX7_fireplacesOf ∧ ax_nL jX7_fireplacesOf = 4 ∧ ax_ret jX7_fireplacesOf = (Option.some FieldType.int) := ⟨rfl, rfl, rfl⟩
theorem m_X7_rodsOf : ax_cc jX7_rodsOf = cX7_rodsOf ∧ ax_nL jX7_rodsOf = 4 ∧ ax_ret jX7_rodsOf = (Option.some FieldType.int) := ⟨rfl, rfl, rfl⟩
theorem m_X7_join : ax_cc jX7_join = cX7_join ∧ ax_nL jX7_join = 5 ∧ ax_ret jX7_join = (Option.some FieldType.int) := ⟨rfl, rfl, rfl⟩
theorem m_X7_rod : ax_cc jX7_rod = cX7_rod ∧ ax_nL jX7_rod = 4 ∧ ax_ret jX7_rod = (Option.some FieldType.int) := ⟨rfl, rfl, rfl⟩
theorem m_X7_reached : ax_cc jX7_reached = cX7_reached ∧ ax_nL jX7_reached = 5 ∧ ax_ret jX7_reached = (Option.some FieldType.int) := ⟨rfl, rfl, rfl⟩
theorem m_X7_heavyAt : ax_cc jX7_heavyAt = cX7_heavyAt ∧ ax_nL jX7_heavyAt = 4 ∧ ax_ret jX7_heavyAt = (Option.some FieldType.int) := ⟨rfl, rfl, rfl⟩
theorem m_X7_heavy : ax_cc jX7_heavy = cX7_heavy ∧ ax_nL jX7_heavy = 2 ∧ ax_ret jX7_heavy = (Option.some FieldType.int) := ⟨rfl, rfl, rfl⟩
theorem m_X7_push : ax_cc jX7_push = cX7_push ∧ ax_nL jX7_push = 5 ∧ ax_ret jX7_push = (Option.some FieldType.int) := ⟨rfl, rfl, rfl⟩
theorem m_X7_staysIn : ax_cc jX7_staysIn = cX7_staysIn ∧ ax_nL jX7_staysIn = 4 ∧ ax_ret jX7_staysIn = (Option.some FieldType.int) := ⟨rfl, rfl, rfl⟩
theorem m_X7_sweep : ax_cc jX7_sweep = cX7_sweep ∧ ax_nL jX7_sweep = 3 ∧ ax_ret jX7_sweep = (Option.some FieldType.int) := ⟨rfl, rfl, rfl⟩
theorem m_X7_sweeps : ax_cc jX7_sweeps = cX7_sweeps ∧ ax_nL jX7_sweeps = 7 ∧ ax_ret jX7_sweeps = (Option.some FieldType.int) := ⟨rfl, rfl, rfl⟩
theorem m_X7_remains : ax_cc jX7_remains = cX7_remains ∧ ax_nL jX7_remains = 2 ∧ ax_ret jX7_remains = (Option.some FieldType.int) := ⟨rfl, rfl, rfl⟩
theorem m_X7_needs : ax_cc jX7_needs = cX7_needs ∧ ax_nL jX7_needs = 4 ∧ ax_ret jX7_needs = (Option.some FieldType.int) := ⟨rfl, rfl, rfl⟩
theorem m_X7_fire : ax_cc jX7_fire = cX7_fire ∧ ax_nL jX7_fire = 5 ∧ ax_ret jX7_fire = (Option.some FieldType.int) := ⟨rfl, rfl, rfl⟩
theorem m_X7_isFire : ax_cc jX7_isFire = cX7_isFire ∧ ax_nL jX7_isFire = 1 ∧ ax_ret jX7_isFire = (Option.some FieldType.boolean) := ⟨rfl, rfl, rfl⟩
theorem m_X7_burnsOnce : ax_cc jX7_burnsOnce = cX7_burnsOnce ∧ ax_nL jX7_burnsOnce = 4 ∧ ax_ret jX7_burnsOnce = (Option.none : Option FieldType) := ⟨rfl, rfl, rfl⟩
theorem m_X7_grows : ax_cc jX7_grows = cX7_grows ∧ ax_nL jX7_grows = 5 ∧ ax_ret jX7_grows = (Option.some FieldType.int) := ⟨rfl, rfl, rfl⟩
theorem m_X7_sootOf : ax_cc jX7_sootOf = cX7_sootOf ∧ ax_nL jX7_sootOf = 4 ∧ ax_ret jX7_sootOf = (Option.some FieldType.int) := ⟨rfl, rfl, rfl⟩
theorem m_X7_smoke : ax_cc jX7_smoke = cX7_smoke ∧ ax_nL jX7_smoke = 8 ∧ ax_ret jX7_smoke = (Option.some FieldType.int) := ⟨rfl, rfl, rfl⟩
theorem m_X7_draw : ax_cc jX7_draw = cX7_draw ∧ ax_nL jX7_draw = 3 ∧ ax_ret jX7_draw = (Option.some FieldType.int) := ⟨rfl, rfl, rfl⟩
theorem m_X7_drawOf : ax_cc jX7_drawOf = cX7_drawOf ∧ ax_nL jX7_drawOf = 5 ∧ ax_ret jX7_drawOf = (Option.some FieldType.int) := ⟨rfl, rfl, rfl⟩
theorem m_X7_smokes : ax_cc jX7_smokes = cX7_smokes ∧ ax_nL jX7_smokes = 4 ∧ ax_ret jX7_smokes = (Option.some FieldType.int) := ⟨rfl, rfl, rfl⟩
theorem m_X7_fine : ax_cc jX7_fine = cX7_fine ∧ ax_nL jX7_fine = 7 ∧ ax_ret jX7_fine = (Option.some FieldType.long) := ⟨rfl, rfl, rfl⟩
theorem m_X7_keeps : ax_cc jX7_keeps = cX7_keeps ∧ ax_nL jX7_keeps = 2 ∧ ax_ret jX7_keeps = (Option.none : Option FieldType) := ⟨rfl, rfl, rfl⟩
theorem m_X7_fineBehind : ax_cc jX7_fineBehind = cX7_fineBehind ∧ ax_nL jX7_fineBehind = 8 ∧ ax_ret jX7_fineBehind = (Option.some FieldType.long) := ⟨rfl, rfl, rfl⟩
theorem m_X7_laysBack : ax_cc jX7_laysBack = cX7_laysBack ∧ ax_nL jX7_laysBack = 2 ∧ ax_ret jX7_laysBack = (Option.none : Option FieldType) := ⟨rfl, rfl, rfl⟩
theorem m_X7_when : ax_cc jX7_when = cX7_when ∧ ax_nL jX7_when = 8 ∧ ax_ret jX7_when = (Option.some FieldType.int) := ⟨rfl, rfl, rfl⟩
theorem m_X7_often : ax_cc jX7_often = cX7_often ∧ ax_nL jX7_often = 6 ∧ ax_ret jX7_often = (Option.some FieldType.int) := ⟨rfl, rfl, rfl⟩
theorem m_X7_keepsBelow : ax_cc jX7_keepsBelow = cX7_keepsBelow ∧ ax_nL jX7_keepsBelow = 9 ∧ ax_ret jX7_keepsBelow = (Option.some FieldType.boolean) := ⟨rfl, rfl, rfl⟩
theorem m_X7_round : ax_cc jX7_round = cX7_round ∧ ax_nL jX7_round = 5 ∧ ax_ret jX7_round = (Option.some FieldType.int) := ⟨rfl, rfl, rfl⟩
theorem m_X7_orders : ax_cc jX7_orders = cX7_orders ∧ ax_nL jX7_orders = 7 ∧ ax_ret jX7_orders = (Option.none : Option FieldType) := ⟨rfl, rfl, rfl⟩
theorem m_X7_goesRound : ax_cc jX7_goesRound = cX7_goesRound ∧ ax_nL jX7_goesRound = 7 ∧ ax_ret jX7_goesRound = (Option.none : Option FieldType) := ⟨rfl, rfl, rfl⟩
theorem m_X7_mostSoot : ax_cc jX7_mostSoot = cX7_mostSoot ∧ ax_nL jX7_mostSoot = 3 ∧ ax_ret jX7_mostSoot = (Option.some FieldType.int) := ⟨rfl, rfl, rfl⟩
theorem m_X7_ball : ax_cc jX7_ball = cX7_ball ∧ ax_nL jX7_ball = 7 ∧ ax_ret jX7_ball = (Option.some FieldType.int) := ⟨rfl, rfl, rfl⟩
theorem m_X7_below : ax_cc jX7_below = cX7_below ∧ ax_nL jX7_below = 3 ∧ ax_ret jX7_below = (Option.some FieldType.int) := ⟨rfl, rfl, rfl⟩
theorem m_X7_judge : ax_cc jX7_judge = cX7_judge ∧ ax_nL jX7_judge = 4 ∧ ax_ret jX7_judge = (Option.some FieldType.int) := ⟨rfl, rfl, rfl⟩
theorem m_X7_toldWrong : ax_cc jX7_toldWrong = cX7_toldWrong ∧ ax_nL jX7_toldWrong = 4 ∧ ax_ret jX7_toldWrong = (Option.some FieldType.int) := ⟨rfl, rfl, rfl⟩
theorem m_X7_sheetWrong : ax_cc jX7_sheetWrong = cX7_sheetWrong ∧ ax_nL jX7_sheetWrong = 2 ∧ ax_ret jX7_sheetWrong = (Option.some FieldType.int) := ⟨rfl, rfl, rfl⟩
theorem m_X7_unlike : ax_cc jX7_unlike = cX7_unlike ∧ ax_nL jX7_unlike = 4 ∧ ax_ret jX7_unlike = (Option.some FieldType.int) := ⟨rfl, rfl, rfl⟩
theorem m_X7_whose : ax_cc jX7_whose = cX7_whose ∧ ax_nL jX7_whose = 5 ∧ ax_ret jX7_whose = (Option.some FieldType.int) := ⟨rfl, rfl, rfl⟩
theorem m_X7_laws : ax_cc jX7_laws = cX7_laws ∧ ax_nL jX7_laws = 7 ∧ ax_ret jX7_laws = (Option.some FieldType.int) := ⟨rfl, rfl, rfl⟩
theorem m_X7_blocked : ax_cc jX7_blocked = cX7_blocked ∧ ax_nL jX7_blocked = 9 ∧ ax_ret jX7_blocked = (Option.some FieldType.int) := ⟨rfl, rfl, rfl⟩
theorem m_X7_fitsBlocked : ax_cc jX7_fitsBlocked = cX7_fitsBlocked ∧ ax_nL jX7_fitsBlocked = 8 ∧ ax_ret jX7_fitsBlocked = (Option.some FieldType.boolean) := ⟨rfl, rfl, rfl⟩
theorem m_X7_film : ax_cc jX7_film = cX7_film ∧ ax_nL jX7_film = 5 ∧ ax_ret jX7_film = (Option.some FieldType.int) := ⟨rfl, rfl, rfl⟩
theorem m_X7_drawn : ax_cc jX7_drawn = cX7_drawn ∧ ax_nL jX7_drawn = 5 ∧ ax_ret jX7_drawn = (Option.some FieldType.int) := ⟨rfl, rfl, rfl⟩
theorem m_X7_isYear : ax_cc jX7_isYear = cX7_isYear ∧ ax_nL jX7_isYear = 3 ∧ ax_ret jX7_isYear = (Option.some FieldType.boolean) := ⟨rfl, rfl, rfl⟩
theorem m_X7_firstBurns : ax_cc jX7_firstBurns = cX7_firstBurns ∧ ax_nL jX7_firstBurns = 11 ∧ ax_ret jX7_firstBurns = (Option.some FieldType.int) := ⟨rfl, rfl, rfl⟩
theorem m_X7_odds : ax_cc jX7_odds = cX7_odds ∧ ax_nL jX7_odds = 9 ∧ ax_ret jX7_odds = (Option.some FieldType.long) := ⟨rfl, rfl, rfl⟩
theorem m_X7_lowest : ax_cc jX7_lowest = cX7_lowest ∧ ax_nL jX7_lowest = 11 ∧ ax_ret jX7_lowest = (Option.some FieldType.long) := ⟨rfl, rfl, rfl⟩
theorem m_X7_image : ax_cc jX7_image = cX7_image ∧ ax_nL jX7_image = 2 ∧ ax_ret jX7_image = (Option.some FieldType.int) := ⟨rfl, rfl, rfl⟩
theorem m_X7_back : ax_cc jX7_back = cX7_back ∧ ax_nL jX7_back = 2 ∧ ax_ret jX7_back = (Option.some FieldType.int) := ⟨rfl, rfl, rfl⟩
theorem m_X7_sheet : ax_cc jX7_sheet = cX7_sheet ∧ ax_nL jX7_sheet = 5 ∧ ax_ret jX7_sheet = (Option.some FieldType.int) := ⟨rfl, rfl, rfl⟩
theorem m_X7_cell : ax_cc jX7_cell = cX7_cell ∧ ax_nL jX7_cell = 4 ∧ ax_ret jX7_cell = (Option.some FieldType.int) := ⟨rfl, rfl, rfl⟩
theorem m_X7_copy : ax_cc jX7_copy = cX7_copy ∧ ax_nL jX7_copy = 10 ∧ ax_ret jX7_copy = (Option.some FieldType.int) := ⟨rfl, rfl, rfl⟩
theorem m_X7_bitsBy : ax_cc jX7_bitsBy = cX7_bitsBy ∧ ax_nL jX7_bitsBy = 9 ∧ ax_ret jX7_bitsBy = (Option.some FieldType.int) := ⟨rfl, rfl, rfl⟩
theorem m_X7_taken : ax_cc jX7_taken = cX7_taken ∧ ax_nL jX7_taken = 4 ∧ ax_ret jX7_taken = (Option.some FieldType.int) := ⟨rfl, rfl, rfl⟩
theorem m_X7_isUnder : ax_cc jX7_isUnder = cX7_isUnder ∧ ax_nL jX7_isUnder = 2 ∧ ax_ret jX7_isUnder = (Option.some FieldType.boolean) := ⟨rfl, rfl, rfl⟩
/-- the answer v, and nothing changed -/
def Pu (v : Value) (h : AH) : Option Value → AH → Prop := fun r h' => r = some v ∧ h' = h
theorem ax_pu {G : AG} {d j rc rs pc : Nat} {L : AL} {S : List Value} {As : List Value} {h : AH} {K : AK} {d' : Nat} {v : Value} (hM : AC G j d' 0 0 As h (Pu v h)) (hn : d' + 1 ≤ d) (k : K rc rs pc L (v :: S) h) : ax_cal G d j rc rs pc L S As h K := ax_do hM ⟨hn, Nat.zero_le _, Nat.zero_le _⟩ (by rintro _ _ ⟨rfl, rfl⟩ -; exact k)
