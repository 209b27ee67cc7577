def dX7_init_q0 : List (Nat × (Instr × Nat)) := [(0, .aload_n 0, 1), (1, .invokespecial 1, 3), (4, .aload_n 0, 1), (5, .bipush 10, 2), (7, .newarray .int, 2), (9, .putfield 7, 3), (12, .aload_n 0, 1), (13, .bipush 10, 2), (15, .newarray .int, 2), (17, .putfield 13, 3), (20, .aload_n 0, 1), (21, .bipush 10, 2), (23, .newarray .int, 2), (25, .putfield 16, 3), (28, .aload_n 0, 1), (29, .bipush 10, 2), (31, .newarray .int, 2), (33, .putfield 19, 3), (36, .aload_n 0, 1), (37, .bipush 10, 2), (39, .newarray .int, 2), (41, .putfield 22, 3), (44, .aload_n 0, 1), (45, .bipush 10, 2), (47, .newarray .int, 2), (49, .putfield 25, 3), (52, .aload_n 0, 1), (53, .bipush 10, 2), (55, .newarray .int, 2), (57, .putfield 28, 3), (60, .aload_n 0, 1), (61, .sipush 160, 3)]
set_option maxRecDepth 100000 in
theorem dX7_init_q0_ok : ax_decs cX7_init dX7_init_q0 = true := by decide +kernel
theorem dX7_init_0 : decode cX7_init 0 = .ok (.aload_n 0, 1) := ax_dec dX7_init_q0_ok 0 (0, .aload_n 0, 1) rfl
theorem dX7_init_1 : decode cX7_init 1 = .ok (.invokespecial 1, 3) := ax_dec dX7_init_q0_ok 1 (1, .invokespecial 1, 3) rfl
theorem dX7_init_4 : decode cX7_init 4 = .ok (.aload_n 0, 1) := ax_dec dX7_init_q0_ok 2 (4, .aload_n 0, 1) rfl
theorem dX7_init_5 : decode cX7_init 5 = .ok (.bipush 10, 2) := ax_dec dX7_init_q0_ok 3 (5, .bipush 10, 2) rfl
theorem dX7_init_7 : decode cX7_init 7 = .ok (.newarray .int, 2) := ax_dec dX7_init_q0_ok 4 (7, .newarray .int, 2) rfl
theorem dX7_init_9 : decode cX7_init 9 = .ok (.putfield 7, 3) := ax_dec dX7_init_q0_ok 5 (9, .putfield 7, 3) rfl
theorem dX7_init_12 : decode cX7_init 12 = .ok (.aload_n 0, 1) := ax_dec dX7_init_q0_ok 6 (12, .aload_n 0, 1) rfl
theorem dX7_init_13 : decode cX7_init 13 = .ok (.bipush 10, 2) := ax_dec dX7_init_q0_ok 7 (13, .bipush 10, 2) rfl
theorem dX7_init_15 : decode cX7_init 15 = .ok (.newarray .int, 2) := ax_dec dX7_init_q0_ok 8 (15, .newarray .int, 2) rfl
theorem dX7_init_17 : decode cX7_init 17 = .ok (.putfield 13, 3) := ax_dec dX7_init_q0_ok 9 (17, .putfield 13, 3) rfl
theorem dX7_init_20 : decode cX7_init 20 = .ok (.aload_n 0, 1) := ax_dec dX7_init_q0_ok 10 (20, .aload_n 0, 1) rfl
theorem dX7_init_21 : decode cX7_init 21 = .ok (.bipush 10, 2) := ax_dec dX7_init_q0_ok 11 (21, .bipush 10, 2) rfl
theorem dX7_init_23 : decode cX7_init 23 = .ok (.newarray .int, 2) := ax_dec dX7_init_q0_ok 12 (23, .newarray .int, 2) rfl
theorem dX7_init_25 : decode cX7_init 25 = .ok (.putfield 16, 3) := ax_dec dX7_init_q0_ok 13 (25, .putfield 16, 3) rfl
theorem dX7_init_28 : decode cX7_init 28 = .ok (.aload_n 0, 1) := ax_dec dX7_init_q0_ok 14 (28, .aload_n 0, 1) rfl
theorem dX7_init_29 : decode cX7_init 29 = .ok (.bipush 10, 2) := ax_dec dX7_init_q0_ok 15 (29, .bipush 10, 2) rfl
theorem dX7_init_31 : decode cX7_init 31 = .ok (.newarray .int, 2) := ax_dec dX7_init_q0_ok 16 (31, .newarray .int, 2) rfl
theorem dX7_init_33 : decode cX7_init 33 = .ok (.putfield 19, 3) := ax_dec dX7_init_q0_ok 17 (33, .putfield 19, 3) rfl
theorem dX7_init_36 : decode cX7_init 36 = .ok (.aload_n 0, 1) := ax_dec dX7_init_q0_ok 18 (36, .aload_n 0, 1) rfl
theorem dX7_init_37 : decode cX7_init 37 = .ok (.bipush 10, 2) := ax_dec dX7_init_q0_ok 19 (37, .bipush 10, 2) rfl
theorem dX7_init_39 : decode cX7_init 39 = .ok (.newarray .int, 2) := ax_dec dX7_init_q0_ok 20 (39, .newarray .int, 2) rfl
theorem dX7_init_41 : decode cX7_init 41 = .ok (.putfield 22, 3) := ax_dec dX7_init_q0_ok 21 (41, .putfield 22, 3) rfl
theorem dX7_init_44 : decode cX7_init 44 = .ok (.aload_n 0, 1) := ax_dec dX7_init_q0_ok 22 (44, .aload_n 0, 1) rfl
theorem dX7_init_45 : decode cX7_init 45 = .ok (.bipush 10, 2) := ax_dec dX7_init_q0_ok 23 (45, .bipush 10, 2) rfl
theorem dX7_init_47 : decode cX7_init 47 = .ok (.newarray .int, 2) := ax_dec dX7_init_q0_ok 24 (47, .newarray .int, 2) rfl
theorem dX7_init_49 : decode cX7_init 49 = .ok (.putfield 25, 3) := ax_dec dX7_init_q0_ok 25 (49, .putfield 25, 3) rfl
theorem dX7_init_52 : decode cX7_init 52 = .ok (.aload_n 0, 1) := ax_dec dX7_init_q0_ok 26 (52, .aload_n 0, 1) rfl
theorem dX7_init_53 : decode cX7_init 53 = .ok (.bipush 10, 2) := ax_dec dX7_init_q0_ok 27 (53, .bipush 10, 2) rfl
theorem dX7_init_55 : decode cX7_init 55 = .ok (.newarray .int, 2) := ax_dec dX7_init_q0_ok 28 (55, .newarray .int, 2) rfl
theorem dX7_init_57 : decode cX7_init 57 = .ok (.putfield 28, 3) := ax_dec dX7_init_q0_ok 29 (57, .putfield 28, 3) rfl
theorem dX7_init_60 : decode cX7_init 60 = .ok (.aload_n 0, 1) := ax_dec dX7_init_q0_ok 30 (60, .aload_n 0, 1) rfl
theorem dX7_init_61 : decode cX7_init 61 = .ok (.sipush 160, 3) := ax_dec dX7_init_q0_ok 31 (61, .sipush 160, 3) rfl
def dX7_init_q1 : List (Nat × (Instr × Nat)) := [(64, .newarray .int, 2), (66, .putfield 31, 3), (69, .aload_n 0, 1), (70, .sipush 1200, 3), (73, .newarray .int, 2), (75, .putfield 34, 3), (78, .aload_n 0, 1), (79, .bipush 24, 2), (81, .newarray .int, 2), (83, .putfield 37, 3), (86, .aload_n 0, 1), (87, .bipush 30, 2), (89, .newarray .int, 2), (91, .putfield 40, 3), (94, .aload_n 0, 1), (95, .iconst 4, 1), (96, .newarray .int, 2), (98, .dup, 1), (99, .iconst 0, 1), (100, .iconst (-1), 1), (101, .iastore, 1), (102, .dup, 1), (103, .iconst 1, 1), (104, .iconst (-1), 1), (105, .iastore, 1), (106, .dup, 1), (107, .iconst 2, 1), (108, .iconst (-1), 1), (109, .iastore, 1), (110, .dup, 1), (111, .iconst 3, 1), (112, .iconst (-1), 1)]
set_option maxRecDepth 100000 in
theorem dX7_init_q1_ok : ax_decs cX7_init dX7_init_q1 = true := by decide +kernel
theorem dX7_init_64 : decode cX7_init 64 = .ok (.newarray .int, 2) := ax_dec dX7_init_q1_ok 0 (64, .newarray .int, 2) rfl
theorem dX7_init_66 : decode cX7_init 66 = .ok (.putfield 31, 3) := ax_dec dX7_init_q1_ok 1 (66, .putfield 31, 3) rfl
theorem dX7_init_69 : decode cX7_init 69 = .ok (.aload_n 0, 1) := ax_dec dX7_init_q1_ok 2 (69, .aload_n 0, 1) rfl
theorem dX7_init_70 : decode cX7_init 70 = .ok (.sipush 1200, 3) := ax_dec dX7_init_q1_ok 3 (70, .sipush 1200, 3) rfl
theorem dX7_init_73 : decode cX7_init 73 = .ok (.newarray .int, 2) := ax_dec dX7_init_q1_ok 4 (73, .newarray .int, 2) rfl
theorem dX7_init_75 : decode cX7_init 75 = .ok (.putfield 34, 3) := ax_dec dX7_init_q1_ok 5 (75, .putfield 34, 3) rfl
theorem dX7_init_78 : decode cX7_init 78 = .ok (.aload_n 0, 1) := ax_dec dX7_init_q1_ok 6 (78, .aload_n 0, 1) rfl
theorem dX7_init_79 : decode cX7_init 79 = .ok (.bipush 24, 2) := ax_dec dX7_init_q1_ok 7 (79, .bipush 24, 2) rfl
theorem dX7_init_81 : decode cX7_init 81 = .ok (.newarray .int, 2) := ax_dec dX7_init_q1_ok 8 (81, .newarray .int, 2) rfl
theorem dX7_init_83 : decode cX7_init 83 = .ok (.putfield 37, 3) := ax_dec dX7_init_q1_ok 9 (83, .putfield 37, 3) rfl
theorem dX7_init_86 : decode cX7_init 86 = .ok (.aload_n 0, 1) := ax_dec dX7_init_q1_ok 10 (86, .aload_n 0, 1) rfl
theorem dX7_init_87 : decode cX7_init 87 = .ok (.bipush 30, 2) := ax_dec dX7_init_q1_ok 11 (87, .bipush 30, 2) rfl
theorem dX7_init_89 : decode cX7_init 89 = .ok (.newarray .int, 2) := ax_dec dX7_init_q1_ok 12 (89, .newarray .int, 2) rfl
theorem dX7_init_91 : decode cX7_init 91 = .ok (.putfield 40, 3) := ax_dec dX7_init_q1_ok 13 (91, .putfield 40, 3) rfl
theorem dX7_init_94 : decode cX7_init 94 = .ok (.aload_n 0, 1) := ax_dec dX7_init_q1_ok 14 (94, .aload_n 0, 1) rfl
theorem dX7_init_95 : decode cX7_init 95 = .ok (.iconst 4, 1) := ax_dec dX7_init_q1_ok 15 (95, .iconst 4, 1) rfl
theorem dX7_init_96 : decode cX7_init 96 = .ok (.newarray .int, 2) := ax_dec dX7_init_q1_ok 16 (96, .newarray .int, 2) rfl
theorem dX7_init_98 : decode cX7_init 98 = .ok (.dup, 1) := ax_dec dX7_init_q1_ok 17 (98, .dup, 1) rfl
theorem dX7_init_99 : decode cX7_init 99 = .ok (.iconst 0, 1) := ax_dec dX7_init_q1_ok 18 (99, .iconst 0, 1) rfl
theorem dX7_init_100 : decode cX7_init 100 = .ok (.iconst (-1), 1) := ax_dec dX7_init_q1_ok 19 (100, .iconst (-1), 1) rfl
theorem dX7_init_101 : decode cX7_init 101 = .ok (.iastore, 1) := ax_dec dX7_init_q1_ok 20 (101, .iastore, 1) rfl
theorem dX7_init_102 : decode cX7_init 102 = .ok (.dup, 1) := ax_dec dX7_init_q1_ok 21 (102, .dup, 1) rfl
theorem dX7_init_103 : decode cX7_init 103 = .ok (.iconst 1, 1) := ax_dec dX7_init_q1_ok 22 (103, .iconst 1, 1) rfl
theorem dX7_init_104 : decode cX7_init 104 = .ok (.iconst (-1), 1) := ax_dec dX7_init_q1_ok 23 (104, .iconst (-1), 1) rfl
theorem dX7_init_105 : decode cX7_init 105 = .ok (.iastore, 1) := ax_dec dX7_init_q1_ok 24 (105, .iastore, 1) rfl
theorem dX7_init_106 : decode cX7_init 106 = .ok (.dup, 1) := ax_dec dX7_init_q1_ok 25 (106, .dup, 1) rfl
theorem dX7_init_107 : decode cX7_init 107 = .ok (.iconst 2, 1) := ax_dec dX7_init_q1_ok 26 (107, .iconst 2, 1) rfl
theorem dX7_init_108 : decode cX7_init 108 = .ok (.iconst (-1), 1) := ax_dec dX7_init_q1_ok 27 (108, .iconst (-1), 1) rfl
theorem dX7_init_109 : decode cX7_init 109 = .ok (.iastore, 1) := ax_dec dX7_init_q1_ok 28 (109, .iastore, 1) rfl
theorem dX7_init_110 : decode cX7_init 110 = .ok (.dup, 1) := ax_dec dX7_init_q1_ok 29 (110, .dup, 1) rfl
theorem dX7_init_111 : decode cX7_init 111 = .ok (.iconst 3, 1) := ax_dec dX7_init_q1_ok 30 (111, .iconst 3, 1) rfl
theorem dX7_init_112 : decode cX7_init 112 = .ok (.iconst (-1), 1) := ax_dec dX7_init_q1_ok 31 (112, .iconst (-1), 1) rfl
def dX7_init_q2 : List (Nat × (Instr × Nat)) := [(113, .iastore, 1), (114, .putfield 43, 3), (117, .aload_n 0, 1), (118, .iconst 4, 1), (119, .newarray .int, 2), (121, .putfield 46, 3), (124, .aload_n 0, 1), (125, .sipush 160, 3), (128, .newarray .int, 2), (130, .putfield 49, 3), (133, .aload_n 0, 1), (134, .bipush 74, 2), (136, .newarray .int, 2), (138, .dup, 1), (139, .iconst 0, 1), (140, .bipush 97, 2), (142, .iastore, 1), (143, .dup, 1), (144, .iconst 1, 1), (145, .bipush 100, 2), (147, .iastore, 1), (148, .dup, 1), (149, .iconst 2, 1), (150, .bipush 100, 2), (152, .iastore, 1), (153, .dup, 1), (154, .iconst 3, 1), (155, .bipush 115, 2), (157, .iastore, 1), (158, .dup, 1), (159, .iconst 4, 1), (160, .bipush 32, 2)]
set_option maxRecDepth 100000 in
theorem dX7_init_q2_ok : ax_decs cX7_init dX7_init_q2 = true := by decide +kernel
theorem dX7_init_113 : decode cX7_init 113 = .ok (.iastore, 1) := ax_dec dX7_init_q2_ok 0 (113, .iastore, 1) rfl
theorem dX7_init_114 : decode cX7_init 114 = .ok (.putfield 43, 3) := ax_dec dX7_init_q2_ok 1 (114, .putfield 43, 3) rfl
theorem dX7_init_117 : decode cX7_init 117 = .ok (.aload_n 0, 1) := ax_dec dX7_init_q2_ok 2 (117, .aload_n 0, 1) rfl
theorem dX7_init_118 : decode cX7_init 118 = .ok (.iconst 4, 1) := ax_dec dX7_init_q2_ok 3 (118, .iconst 4, 1) rfl
theorem dX7_init_119 : decode cX7_init 119 = .ok (.newarray .int, 2) := ax_dec dX7_init_q2_ok 4 (119, .newarray .int, 2) rfl
theorem dX7_init_121 : decode cX7_init 121 = .ok (.putfield 46, 3) := ax_dec dX7_init_q2_ok 5 (121, .putfield 46, 3) rfl
theorem dX7_init_124 : decode cX7_init 124 = .ok (.aload_n 0, 1) := ax_dec dX7_init_q2_ok 6 (124, .aload_n 0, 1) rfl
theorem dX7_init_125 : decode cX7_init 125 = .ok (.sipush 160, 3) := ax_dec dX7_init_q2_ok 7 (125, .sipush 160, 3) rfl
theorem dX7_init_128 : decode cX7_init 128 = .ok (.newarray .int, 2) := ax_dec dX7_init_q2_ok 8 (128, .newarray .int, 2) rfl
theorem dX7_init_130 : decode cX7_init 130 = .ok (.putfield 49, 3) := ax_dec dX7_init_q2_ok 9 (130, .putfield 49, 3) rfl
theorem dX7_init_133 : decode cX7_init 133 = .ok (.aload_n 0, 1) := ax_dec dX7_init_q2_ok 10 (133, .aload_n 0, 1) rfl
theorem dX7_init_134 : decode cX7_init 134 = .ok (.bipush 74, 2) := ax_dec dX7_init_q2_ok 11 (134, .bipush 74, 2) rfl
theorem dX7_init_136 : decode cX7_init 136 = .ok (.newarray .int, 2) := ax_dec dX7_init_q2_ok 12 (136, .newarray .int, 2) rfl
theorem dX7_init_138 : decode cX7_init 138 = .ok (.dup, 1) := ax_dec dX7_init_q2_ok 13 (138, .dup, 1) rfl
theorem dX7_init_139 : decode cX7_init 139 = .ok (.iconst 0, 1) := ax_dec dX7_init_q2_ok 14 (139, .iconst 0, 1) rfl
theorem dX7_init_140 : decode cX7_init 140 = .ok (.bipush 97, 2) := ax_dec dX7_init_q2_ok 15 (140, .bipush 97, 2) rfl
theorem dX7_init_142 : decode cX7_init 142 = .ok (.iastore, 1) := ax_dec dX7_init_q2_ok 16 (142, .iastore, 1) rfl
theorem dX7_init_143 : decode cX7_init 143 = .ok (.dup, 1) := ax_dec dX7_init_q2_ok 17 (143, .dup, 1) rfl
theorem dX7_init_144 : decode cX7_init 144 = .ok (.iconst 1, 1) := ax_dec dX7_init_q2_ok 18 (144, .iconst 1, 1) rfl
theorem dX7_init_145 : decode cX7_init 145 = .ok (.bipush 100, 2) := ax_dec dX7_init_q2_ok 19 (145, .bipush 100, 2) rfl
theorem dX7_init_147 : decode cX7_init 147 = .ok (.iastore, 1) := ax_dec dX7_init_q2_ok 20 (147, .iastore, 1) rfl
theorem dX7_init_148 : decode cX7_init 148 = .ok (.dup, 1) := ax_dec dX7_init_q2_ok 21 (148, .dup, 1) rfl
theorem dX7_init_149 : decode cX7_init 149 = .ok (.iconst 2, 1) := ax_dec dX7_init_q2_ok 22 (149, .iconst 2, 1) rfl
theorem dX7_init_150 : decode cX7_init 150 = .ok (.bipush 100, 2) := ax_dec dX7_init_q2_ok 23 (150, .bipush 100, 2) rfl
theorem dX7_init_152 : decode cX7_init 152 = .ok (.iastore, 1) := ax_dec dX7_init_q2_ok 24 (152, .iastore, 1) rfl
theorem dX7_init_153 : decode cX7_init 153 = .ok (.dup, 1) := ax_dec dX7_init_q2_ok 25 (153, .dup, 1) rfl
theorem dX7_init_154 : decode cX7_init 154 = .ok (.iconst 3, 1) := ax_dec dX7_init_q2_ok 26 (154, .iconst 3, 1) rfl
theorem dX7_init_155 : decode cX7_init 155 = .ok (.bipush 115, 2) := ax_dec dX7_init_q2_ok 27 (155, .bipush 115, 2) rfl
theorem dX7_init_157 : decode cX7_init 157 = .ok (.iastore, 1) := ax_dec dX7_init_q2_ok 28 (157, .iastore, 1) rfl
theorem dX7_init_158 : decode cX7_init 158 = .ok (.dup, 1) := ax_dec dX7_init_q2_ok 29 (158, .dup, 1) rfl
theorem dX7_init_159 : decode cX7_init 159 = .ok (.iconst 4, 1) := ax_dec dX7_init_q2_ok 30 (159, .iconst 4, 1) rfl
theorem dX7_init_160 : decode cX7_init 160 = .ok (.bipush 32, 2) := ax_dec dX7_init_q2_ok 31 (160, .bipush 32, 2) rfl
def dX7_init_q3 : List (Nat × (Instr × Nat)) := [(162, .iastore, 1), (163, .dup, 1), (164, .iconst 5, 1), (165, .bipush 49, 2), (167, .iastore, 1), (168, .dup, 1), (169, .bipush 6, 2), (171, .bipush 32, 2), (173, .iastore, 1), (174, .dup, 1), (175, .bipush 7, 2), (177, .bipush 43, 2), (179, .iastore, 1), (180, .dup, 1), (181, .bipush 8, 2), (183, .bipush 32, 2), (185, .iastore, 1), (186, .dup, 1), (187, .bipush 9, 2), (189, .bipush 104, 2), (191, .iastore, 1), (192, .dup, 1), (193, .bipush 10, 2), (195, .bipush 101, 2), (197, .iastore, 1), (198, .dup, 1), (199, .bipush 11, 2), (201, .bipush 97, 2), (203, .iastore, 1), (204, .dup, 1), (205, .bipush 12, 2), (207, .bipush 116, 2)]
set_option maxRecDepth 100000 in
theorem dX7_init_q3_ok : ax_decs cX7_init dX7_init_q3 = true := by decide +kernel
theorem dX7_init_162 : decode cX7_init 162 = .ok (.iastore, 1) := ax_dec dX7_init_q3_ok 0 (162, .iastore, 1) rfl
theorem dX7_init_163 : decode cX7_init 163 = .ok (.dup, 1) := ax_dec dX7_init_q3_ok 1 (163, .dup, 1) rfl
theorem dX7_init_164 : decode cX7_init 164 = .ok (.iconst 5, 1) := ax_dec dX7_init_q3_ok 2 (164, .iconst 5, 1) rfl
theorem dX7_init_165 : decode cX7_init 165 = .ok (.bipush 49, 2) := ax_dec dX7_init_q3_ok 3 (165, .bipush 49, 2) rfl
theorem dX7_init_167 : decode cX7_init 167 = .ok (.iastore, 1) := ax_dec dX7_init_q3_ok 4 (167, .iastore, 1) rfl
theorem dX7_init_168 : decode cX7_init 168 = .ok (.dup, 1) := ax_dec dX7_init_q3_ok 5 (168, .dup, 1) rfl
theorem dX7_init_169 : decode cX7_init 169 = .ok (.bipush 6, 2) := ax_dec dX7_init_q3_ok 6 (169, .bipush 6, 2) rfl
theorem dX7_init_171 : decode cX7_init 171 = .ok (.bipush 32, 2) := ax_dec dX7_init_q3_ok 7 (171, .bipush 32, 2) rfl
theorem dX7_init_173 : decode cX7_init 173 = .ok (.iastore, 1) := ax_dec dX7_init_q3_ok 8 (173, .iastore, 1) rfl
theorem dX7_init_174 : decode cX7_init 174 = .ok (.dup, 1) := ax_dec dX7_init_q3_ok 9 (174, .dup, 1) rfl
theorem dX7_init_175 : decode cX7_init 175 = .ok (.bipush 7, 2) := ax_dec dX7_init_q3_ok 10 (175, .bipush 7, 2) rfl
theorem dX7_init_177 : decode cX7_init 177 = .ok (.bipush 43, 2) := ax_dec dX7_init_q3_ok 11 (177, .bipush 43, 2) rfl
theorem dX7_init_179 : decode cX7_init 179 = .ok (.iastore, 1) := ax_dec dX7_init_q3_ok 12 (179, .iastore, 1) rfl
theorem dX7_init_180 : decode cX7_init 180 = .ok (.dup, 1) := ax_dec dX7_init_q3_ok 13 (180, .dup, 1) rfl
theorem dX7_init_181 : decode cX7_init 181 = .ok (.bipush 8, 2) := ax_dec dX7_init_q3_ok 14 (181, .bipush 8, 2) rfl
theorem dX7_init_183 : decode cX7_init 183 = .ok (.bipush 32, 2) := ax_dec dX7_init_q3_ok 15 (183, .bipush 32, 2) rfl
theorem dX7_init_185 : decode cX7_init 185 = .ok (.iastore, 1) := ax_dec dX7_init_q3_ok 16 (185, .iastore, 1) rfl
theorem dX7_init_186 : decode cX7_init 186 = .ok (.dup, 1) := ax_dec dX7_init_q3_ok 17 (186, .dup, 1) rfl
theorem dX7_init_187 : decode cX7_init 187 = .ok (.bipush 9, 2) := ax_dec dX7_init_q3_ok 18 (187, .bipush 9, 2) rfl
theorem dX7_init_189 : decode cX7_init 189 = .ok (.bipush 104, 2) := ax_dec dX7_init_q3_ok 19 (189, .bipush 104, 2) rfl
theorem dX7_init_191 : decode cX7_init 191 = .ok (.iastore, 1) := ax_dec dX7_init_q3_ok 20 (191, .iastore, 1) rfl
theorem dX7_init_192 : decode cX7_init 192 = .ok (.dup, 1) := ax_dec dX7_init_q3_ok 21 (192, .dup, 1) rfl
theorem dX7_init_193 : decode cX7_init 193 = .ok (.bipush 10, 2) := ax_dec dX7_init_q3_ok 22 (193, .bipush 10, 2) rfl
theorem dX7_init_195 : decode cX7_init 195 = .ok (.bipush 101, 2) := ax_dec dX7_init_q3_ok 23 (195, .bipush 101, 2) rfl
theorem dX7_init_197 : decode cX7_init 197 = .ok (.iastore, 1) := ax_dec dX7_init_q3_ok 24 (197, .iastore, 1) rfl
theorem dX7_init_198 : decode cX7_init 198 = .ok (.dup, 1) := ax_dec dX7_init_q3_ok 25 (198, .dup, 1) rfl
theorem dX7_init_199 : decode cX7_init 199 = .ok (.bipush 11, 2) := ax_dec dX7_init_q3_ok 26 (199, .bipush 11, 2) rfl
theorem dX7_init_201 : decode cX7_init 201 = .ok (.bipush 97, 2) := ax_dec dX7_init_q3_ok 27 (201, .bipush 97, 2) rfl
theorem dX7_init_203 : decode cX7_init 203 = .ok (.iastore, 1) := ax_dec dX7_init_q3_ok 28 (203, .iastore, 1) rfl
theorem dX7_init_204 : decode cX7_init 204 = .ok (.dup, 1) := ax_dec dX7_init_q3_ok 29 (204, .dup, 1) rfl
theorem dX7_init_205 : decode cX7_init 205 = .ok (.bipush 12, 2) := ax_dec dX7_init_q3_ok 30 (205, .bipush 12, 2) rfl
theorem dX7_init_207 : decode cX7_init 207 = .ok (.bipush 116, 2) := ax_dec dX7_init_q3_ok 31 (207, .bipush 116, 2) rfl
def dX7_init_q4 : List (Nat × (Instr × Nat)) := [(209, .iastore, 1), (210, .dup, 1), (211, .bipush 13, 2), (213, .bipush 32, 2), (215, .iastore, 1), (216, .dup, 1), (217, .bipush 14, 2), (219, .bipush 43, 2), (221, .iastore, 1), (222, .dup, 1), (223, .bipush 15, 2), (225, .bipush 32, 2), (227, .iastore, 1), (228, .dup, 1), (229, .bipush 16, 2), (231, .bipush 119, 2), (233, .iastore, 1), (234, .dup, 1), (235, .bipush 17, 2), (237, .bipush 101, 2), (239, .iastore, 1), (240, .dup, 1), (241, .bipush 18, 2), (243, .bipush 116, 2), (245, .iastore, 1), (246, .dup, 1), (247, .bipush 19, 2), (249, .bipush 32, 2), (251, .iastore, 1), (252, .dup, 1), (253, .bipush 20, 2), (255, .bipush 42, 2)]
set_option maxRecDepth 100000 in
theorem dX7_init_q4_ok : ax_decs cX7_init dX7_init_q4 = true := by decide +kernel
theorem dX7_init_209 : decode cX7_init 209 = .ok (.iastore, 1) := ax_dec dX7_init_q4_ok 0 (209, .iastore, 1) rfl
theorem dX7_init_210 : decode cX7_init 210 = .ok (.dup, 1) := ax_dec dX7_init_q4_ok 1 (210, .dup, 1) rfl
theorem dX7_init_211 : decode cX7_init 211 = .ok (.bipush 13, 2) := ax_dec dX7_init_q4_ok 2 (211, .bipush 13, 2) rfl
theorem dX7_init_213 : decode cX7_init 213 = .ok (.bipush 32, 2) := ax_dec dX7_init_q4_ok 3 (213, .bipush 32, 2) rfl
theorem dX7_init_215 : decode cX7_init 215 = .ok (.iastore, 1) := ax_dec dX7_init_q4_ok 4 (215, .iastore, 1) rfl
theorem dX7_init_216 : decode cX7_init 216 = .ok (.dup, 1) := ax_dec dX7_init_q4_ok 5 (216, .dup, 1) rfl
theorem dX7_init_217 : decode cX7_init 217 = .ok (.bipush 14, 2) := ax_dec dX7_init_q4_ok 6 (217, .bipush 14, 2) rfl
theorem dX7_init_219 : decode cX7_init 219 = .ok (.bipush 43, 2) := ax_dec dX7_init_q4_ok 7 (219, .bipush 43, 2) rfl
theorem dX7_init_221 : decode cX7_init 221 = .ok (.iastore, 1) := ax_dec dX7_init_q4_ok 8 (221, .iastore, 1) rfl
theorem dX7_init_222 : decode cX7_init 222 = .ok (.dup, 1) := ax_dec dX7_init_q4_ok 9 (222, .dup, 1) rfl
theorem dX7_init_223 : decode cX7_init 223 = .ok (.bipush 15, 2) := ax_dec dX7_init_q4_ok 10 (223, .bipush 15, 2) rfl
theorem dX7_init_225 : decode cX7_init 225 = .ok (.bipush 32, 2) := ax_dec dX7_init_q4_ok 11 (225, .bipush 32, 2) rfl
theorem dX7_init_227 : decode cX7_init 227 = .ok (.iastore, 1) := ax_dec dX7_init_q4_ok 12 (227, .iastore, 1) rfl
theorem dX7_init_228 : decode cX7_init 228 = .ok (.dup, 1) := ax_dec dX7_init_q4_ok 13 (228, .dup, 1) rfl
theorem dX7_init_229 : decode cX7_init 229 = .ok (.bipush 16, 2) := ax_dec dX7_init_q4_ok 14 (229, .bipush 16, 2) rfl
theorem dX7_init_231 : decode cX7_init 231 = .ok (.bipush 119, 2) := ax_dec dX7_init_q4_ok 15 (231, .bipush 119, 2) rfl
theorem dX7_init_233 : decode cX7_init 233 = .ok (.iastore, 1) := ax_dec dX7_init_q4_ok 16 (233, .iastore, 1) rfl
theorem dX7_init_234 : decode cX7_init 234 = .ok (.dup, 1) := ax_dec dX7_init_q4_ok 17 (234, .dup, 1) rfl
theorem dX7_init_235 : decode cX7_init 235 = .ok (.bipush 17, 2) := ax_dec dX7_init_q4_ok 18 (235, .bipush 17, 2) rfl
theorem dX7_init_237 : decode cX7_init 237 = .ok (.bipush 101, 2) := ax_dec dX7_init_q4_ok 19 (237, .bipush 101, 2) rfl
theorem dX7_init_239 : decode cX7_init 239 = .ok (.iastore, 1) := ax_dec dX7_init_q4_ok 20 (239, .iastore, 1) rfl
theorem dX7_init_240 : decode cX7_init 240 = .ok (.dup, 1) := ax_dec dX7_init_q4_ok 21 (240, .dup, 1) rfl
theorem dX7_init_241 : decode cX7_init 241 = .ok (.bipush 18, 2) := ax_dec dX7_init_q4_ok 22 (241, .bipush 18, 2) rfl
theorem dX7_init_243 : decode cX7_init 243 = .ok (.bipush 116, 2) := ax_dec dX7_init_q4_ok 23 (243, .bipush 116, 2) rfl
theorem dX7_init_245 : decode cX7_init 245 = .ok (.iastore, 1) := ax_dec dX7_init_q4_ok 24 (245, .iastore, 1) rfl
theorem dX7_init_246 : decode cX7_init 246 = .ok (.dup, 1) := ax_dec dX7_init_q4_ok 25 (246, .dup, 1) rfl
theorem dX7_init_247 : decode cX7_init 247 = .ok (.bipush 19, 2) := ax_dec dX7_init_q4_ok 26 (247, .bipush 19, 2) rfl
theorem dX7_init_249 : decode cX7_init 249 = .ok (.bipush 32, 2) := ax_dec dX7_init_q4_ok 27 (249, .bipush 32, 2) rfl
theorem dX7_init_251 : decode cX7_init 251 = .ok (.iastore, 1) := ax_dec dX7_init_q4_ok 28 (251, .iastore, 1) rfl
theorem dX7_init_252 : decode cX7_init 252 = .ok (.dup, 1) := ax_dec dX7_init_q4_ok 29 (252, .dup, 1) rfl
theorem dX7_init_253 : decode cX7_init 253 = .ok (.bipush 20, 2) := ax_dec dX7_init_q4_ok 30 (253, .bipush 20, 2) rfl
theorem dX7_init_255 : decode cX7_init 255 = .ok (.bipush 42, 2) := ax_dec dX7_init_q4_ok 31 (255, .bipush 42, 2) rfl
def dX7_init_q5 : List (Nat × (Instr × Nat)) := [(257, .iastore, 1), (258, .dup, 1), (259, .bipush 21, 2), (261, .bipush 32, 2), (263, .iastore, 1), (264, .dup, 1), (265, .bipush 22, 2), (267, .bipush 50, 2), (269, .iastore, 1), (270, .dup, 1), (271, .bipush 23, 2), (273, .bipush 32, 2), (275, .iastore, 1), (276, .dup, 1), (277, .bipush 24, 2), (279, .bipush 59, 2), (281, .iastore, 1), (282, .dup, 1), (283, .bipush 25, 2), (285, .bipush 32, 2), (287, .iastore, 1), (288, .dup, 1), (289, .bipush 26, 2), (291, .bipush 104, 2), (293, .iastore, 1), (294, .dup, 1), (295, .bipush 27, 2), (297, .bipush 101, 2), (299, .iastore, 1), (300, .dup, 1), (301, .bipush 28, 2), (303, .bipush 97, 2)]
set_option maxRecDepth 100000 in
theorem dX7_init_q5_ok : ax_decs cX7_init dX7_init_q5 = true := by decide +kernel
theorem dX7_init_257 : decode cX7_init 257 = .ok (.iastore, 1) := ax_dec dX7_init_q5_ok 0 (257, .iastore, 1) rfl
theorem dX7_init_258 : decode cX7_init 258 = .ok (.dup, 1) := ax_dec dX7_init_q5_ok 1 (258, .dup, 1) rfl
theorem dX7_init_259 : decode cX7_init 259 = .ok (.bipush 21, 2) := ax_dec dX7_init_q5_ok 2 (259, .bipush 21, 2) rfl
theorem dX7_init_261 : decode cX7_init 261 = .ok (.bipush 32, 2) := ax_dec dX7_init_q5_ok 3 (261, .bipush 32, 2) rfl
theorem dX7_init_263 : decode cX7_init 263 = .ok (.iastore, 1) := ax_dec dX7_init_q5_ok 4 (263, .iastore, 1) rfl
theorem dX7_init_264 : decode cX7_init 264 = .ok (.dup, 1) := ax_dec dX7_init_q5_ok 5 (264, .dup, 1) rfl
theorem dX7_init_265 : decode cX7_init 265 = .ok (.bipush 22, 2) := ax_dec dX7_init_q5_ok 6 (265, .bipush 22, 2) rfl
theorem dX7_init_267 : decode cX7_init 267 = .ok (.bipush 50, 2) := ax_dec dX7_init_q5_ok 7 (267, .bipush 50, 2) rfl
theorem dX7_init_269 : decode cX7_init 269 = .ok (.iastore, 1) := ax_dec dX7_init_q5_ok 8 (269, .iastore, 1) rfl
theorem dX7_init_270 : decode cX7_init 270 = .ok (.dup, 1) := ax_dec dX7_init_q5_ok 9 (270, .dup, 1) rfl
theorem dX7_init_271 : decode cX7_init 271 = .ok (.bipush 23, 2) := ax_dec dX7_init_q5_ok 10 (271, .bipush 23, 2) rfl
theorem dX7_init_273 : decode cX7_init 273 = .ok (.bipush 32, 2) := ax_dec dX7_init_q5_ok 11 (273, .bipush 32, 2) rfl
theorem dX7_init_275 : decode cX7_init 275 = .ok (.iastore, 1) := ax_dec dX7_init_q5_ok 12 (275, .iastore, 1) rfl
theorem dX7_init_276 : decode cX7_init 276 = .ok (.dup, 1) := ax_dec dX7_init_q5_ok 13 (276, .dup, 1) rfl
theorem dX7_init_277 : decode cX7_init 277 = .ok (.bipush 24, 2) := ax_dec dX7_init_q5_ok 14 (277, .bipush 24, 2) rfl
theorem dX7_init_279 : decode cX7_init 279 = .ok (.bipush 59, 2) := ax_dec dX7_init_q5_ok 15 (279, .bipush 59, 2) rfl
theorem dX7_init_281 : decode cX7_init 281 = .ok (.iastore, 1) := ax_dec dX7_init_q5_ok 16 (281, .iastore, 1) rfl
theorem dX7_init_282 : decode cX7_init 282 = .ok (.dup, 1) := ax_dec dX7_init_q5_ok 17 (282, .dup, 1) rfl
theorem dX7_init_283 : decode cX7_init 283 = .ok (.bipush 25, 2) := ax_dec dX7_init_q5_ok 18 (283, .bipush 25, 2) rfl
theorem dX7_init_285 : decode cX7_init 285 = .ok (.bipush 32, 2) := ax_dec dX7_init_q5_ok 19 (285, .bipush 32, 2) rfl
theorem dX7_init_287 : decode cX7_init 287 = .ok (.iastore, 1) := ax_dec dX7_init_q5_ok 20 (287, .iastore, 1) rfl
theorem dX7_init_288 : decode cX7_init 288 = .ok (.dup, 1) := ax_dec dX7_init_q5_ok 21 (288, .dup, 1) rfl
theorem dX7_init_289 : decode cX7_init 289 = .ok (.bipush 26, 2) := ax_dec dX7_init_q5_ok 22 (289, .bipush 26, 2) rfl
theorem dX7_init_291 : decode cX7_init 291 = .ok (.bipush 104, 2) := ax_dec dX7_init_q5_ok 23 (291, .bipush 104, 2) rfl
theorem dX7_init_293 : decode cX7_init 293 = .ok (.iastore, 1) := ax_dec dX7_init_q5_ok 24 (293, .iastore, 1) rfl
theorem dX7_init_294 : decode cX7_init 294 = .ok (.dup, 1) := ax_dec dX7_init_q5_ok 25 (294, .dup, 1) rfl
theorem dX7_init_295 : decode cX7_init 295 = .ok (.bipush 27, 2) := ax_dec dX7_init_q5_ok 26 (295, .bipush 27, 2) rfl
theorem dX7_init_297 : decode cX7_init 297 = .ok (.bipush 101, 2) := ax_dec dX7_init_q5_ok 27 (297, .bipush 101, 2) rfl
theorem dX7_init_299 : decode cX7_init 299 = .ok (.iastore, 1) := ax_dec dX7_init_q5_ok 28 (299, .iastore, 1) rfl
theorem dX7_init_300 : decode cX7_init 300 = .ok (.dup, 1) := ax_dec dX7_init_q5_ok 29 (300, .dup, 1) rfl
theorem dX7_init_301 : decode cX7_init 301 = .ok (.bipush 28, 2) := ax_dec dX7_init_q5_ok 30 (301, .bipush 28, 2) rfl
theorem dX7_init_303 : decode cX7_init 303 = .ok (.bipush 97, 2) := ax_dec dX7_init_q5_ok 31 (303, .bipush 97, 2) rfl
def dX7_init_q6 : List (Nat × (Instr × Nat)) := [(305, .iastore, 1), (306, .dup, 1), (307, .bipush 29, 2), (309, .bipush 118, 2), (311, .iastore, 1), (312, .dup, 1), (313, .bipush 30, 2), (315, .bipush 121, 2), (317, .iastore, 1), (318, .dup, 1), (319, .bipush 31, 2), (321, .bipush 32, 2), (323, .iastore, 1), (324, .dup, 1), (325, .bipush 32, 2), (327, .bipush 98, 2), (329, .iastore, 1), (330, .dup, 1), (331, .bipush 33, 2), (333, .bipush 101, 2), (335, .iastore, 1), (336, .dup, 1), (337, .bipush 34, 2), (339, .bipush 110, 2), (341, .iastore, 1), (342, .dup, 1), (343, .bipush 35, 2), (345, .bipush 100, 2), (347, .iastore, 1), (348, .dup, 1), (349, .bipush 36, 2), (351, .bipush 32, 2)]
set_option maxRecDepth 100000 in
theorem dX7_init_q6_ok : ax_decs cX7_init dX7_init_q6 = true := by decide +kernel
theorem dX7_init_305 : decode cX7_init 305 = .ok (.iastore, 1) := ax_dec dX7_init_q6_ok 0 (305, .iastore, 1) rfl
theorem dX7_init_306 : decode cX7_init 306 = .ok (.dup, 1) := ax_dec dX7_init_q6_ok 1 (306, .dup, 1) rfl
theorem dX7_init_307 : decode cX7_init 307 = .ok (.bipush 29, 2) := ax_dec dX7_init_q6_ok 2 (307, .bipush 29, 2) rfl
theorem dX7_init_309 : decode cX7_init 309 = .ok (.bipush 118, 2) := ax_dec dX7_init_q6_ok 3 (309, .bipush 118, 2) rfl
theorem dX7_init_311 : decode cX7_init 311 = .ok (.iastore, 1) := ax_dec dX7_init_q6_ok 4 (311, .iastore, 1) rfl
theorem dX7_init_312 : decode cX7_init 312 = .ok (.dup, 1) := ax_dec dX7_init_q6_ok 5 (312, .dup, 1) rfl
theorem dX7_init_313 : decode cX7_init 313 = .ok (.bipush 30, 2) := ax_dec dX7_init_q6_ok 6 (313, .bipush 30, 2) rfl
theorem dX7_init_315 : decode cX7_init 315 = .ok (.bipush 121, 2) := ax_dec dX7_init_q6_ok 7 (315, .bipush 121, 2) rfl
theorem dX7_init_317 : decode cX7_init 317 = .ok (.iastore, 1) := ax_dec dX7_init_q6_ok 8 (317, .iastore, 1) rfl
theorem dX7_init_318 : decode cX7_init 318 = .ok (.dup, 1) := ax_dec dX7_init_q6_ok 9 (318, .dup, 1) rfl
theorem dX7_init_319 : decode cX7_init 319 = .ok (.bipush 31, 2) := ax_dec dX7_init_q6_ok 10 (319, .bipush 31, 2) rfl
theorem dX7_init_321 : decode cX7_init 321 = .ok (.bipush 32, 2) := ax_dec dX7_init_q6_ok 11 (321, .bipush 32, 2) rfl
theorem dX7_init_323 : decode cX7_init 323 = .ok (.iastore, 1) := ax_dec dX7_init_q6_ok 12 (323, .iastore, 1) rfl
theorem dX7_init_324 : decode cX7_init 324 = .ok (.dup, 1) := ax_dec dX7_init_q6_ok 13 (324, .dup, 1) rfl
theorem dX7_init_325 : decode cX7_init 325 = .ok (.bipush 32, 2) := ax_dec dX7_init_q6_ok 14 (325, .bipush 32, 2) rfl
theorem dX7_init_327 : decode cX7_init 327 = .ok (.bipush 98, 2) := ax_dec dX7_init_q6_ok 15 (327, .bipush 98, 2) rfl
theorem dX7_init_329 : decode cX7_init 329 = .ok (.iastore, 1) := ax_dec dX7_init_q6_ok 16 (329, .iastore, 1) rfl
theorem dX7_init_330 : decode cX7_init 330 = .ok (.dup, 1) := ax_dec dX7_init_q6_ok 17 (330, .dup, 1) rfl
theorem dX7_init_331 : decode cX7_init 331 = .ok (.bipush 33, 2) := ax_dec dX7_init_q6_ok 18 (331, .bipush 33, 2) rfl
theorem dX7_init_333 : decode cX7_init 333 = .ok (.bipush 101, 2) := ax_dec dX7_init_q6_ok 19 (333, .bipush 101, 2) rfl
theorem dX7_init_335 : decode cX7_init 335 = .ok (.iastore, 1) := ax_dec dX7_init_q6_ok 20 (335, .iastore, 1) rfl
theorem dX7_init_336 : decode cX7_init 336 = .ok (.dup, 1) := ax_dec dX7_init_q6_ok 21 (336, .dup, 1) rfl
theorem dX7_init_337 : decode cX7_init 337 = .ok (.bipush 34, 2) := ax_dec dX7_init_q6_ok 22 (337, .bipush 34, 2) rfl
theorem dX7_init_339 : decode cX7_init 339 = .ok (.bipush 110, 2) := ax_dec dX7_init_q6_ok 23 (339, .bipush 110, 2) rfl
theorem dX7_init_341 : decode cX7_init 341 = .ok (.iastore, 1) := ax_dec dX7_init_q6_ok 24 (341, .iastore, 1) rfl
theorem dX7_init_342 : decode cX7_init 342 = .ok (.dup, 1) := ax_dec dX7_init_q6_ok 25 (342, .dup, 1) rfl
theorem dX7_init_343 : decode cX7_init 343 = .ok (.bipush 35, 2) := ax_dec dX7_init_q6_ok 26 (343, .bipush 35, 2) rfl
theorem dX7_init_345 : decode cX7_init 345 = .ok (.bipush 100, 2) := ax_dec dX7_init_q6_ok 27 (345, .bipush 100, 2) rfl
theorem dX7_init_347 : decode cX7_init 347 = .ok (.iastore, 1) := ax_dec dX7_init_q6_ok 28 (347, .iastore, 1) rfl
theorem dX7_init_348 : decode cX7_init 348 = .ok (.dup, 1) := ax_dec dX7_init_q6_ok 29 (348, .dup, 1) rfl
theorem dX7_init_349 : decode cX7_init 349 = .ok (.bipush 36, 2) := ax_dec dX7_init_q6_ok 30 (349, .bipush 36, 2) rfl
theorem dX7_init_351 : decode cX7_init 351 = .ok (.bipush 32, 2) := ax_dec dX7_init_q6_ok 31 (351, .bipush 32, 2) rfl
def dX7_init_q7 : List (Nat × (Instr × Nat)) := [(353, .iastore, 1), (354, .dup, 1), (355, .bipush 37, 2), (357, .bipush 42, 2), (359, .iastore, 1), (360, .dup, 1), (361, .bipush 38, 2), (363, .bipush 32, 2), (365, .iastore, 1), (366, .dup, 1), (367, .bipush 39, 2), (369, .bipush 53, 2), (371, .iastore, 1), (372, .dup, 1), (373, .bipush 40, 2), (375, .bipush 32, 2), (377, .iastore, 1), (378, .dup, 1), (379, .bipush 41, 2), (381, .bipush 43, 2), (383, .iastore, 1), (384, .dup, 1), (385, .bipush 42, 2), (387, .bipush 32, 2), (389, .iastore, 1), (390, .dup, 1), (391, .bipush 43, 2), (393, .bipush 115, 2), (395, .iastore, 1), (396, .dup, 1), (397, .bipush 44, 2), (399, .bipush 111, 2)]
set_option maxRecDepth 100000 in
theorem dX7_init_q7_ok : ax_decs cX7_init dX7_init_q7 = true := by decide +kernel
theorem dX7_init_353 : decode cX7_init 353 = .ok (.iastore, 1) := ax_dec dX7_init_q7_ok 0 (353, .iastore, 1) rfl
theorem dX7_init_354 : decode cX7_init 354 = .ok (.dup, 1) := ax_dec dX7_init_q7_ok 1 (354, .dup, 1) rfl
theorem dX7_init_355 : decode cX7_init 355 = .ok (.bipush 37, 2) := ax_dec dX7_init_q7_ok 2 (355, .bipush 37, 2) rfl
theorem dX7_init_357 : decode cX7_init 357 = .ok (.bipush 42, 2) := ax_dec dX7_init_q7_ok 3 (357, .bipush 42, 2) rfl
theorem dX7_init_359 : decode cX7_init 359 = .ok (.iastore, 1) := ax_dec dX7_init_q7_ok 4 (359, .iastore, 1) rfl
theorem dX7_init_360 : decode cX7_init 360 = .ok (.dup, 1) := ax_dec dX7_init_q7_ok 5 (360, .dup, 1) rfl
theorem dX7_init_361 : decode cX7_init 361 = .ok (.bipush 38, 2) := ax_dec dX7_init_q7_ok 6 (361, .bipush 38, 2) rfl
theorem dX7_init_363 : decode cX7_init 363 = .ok (.bipush 32, 2) := ax_dec dX7_init_q7_ok 7 (363, .bipush 32, 2) rfl
theorem dX7_init_365 : decode cX7_init 365 = .ok (.iastore, 1) := ax_dec dX7_init_q7_ok 8 (365, .iastore, 1) rfl
theorem dX7_init_366 : decode cX7_init 366 = .ok (.dup, 1) := ax_dec dX7_init_q7_ok 9 (366, .dup, 1) rfl
theorem dX7_init_367 : decode cX7_init 367 = .ok (.bipush 39, 2) := ax_dec dX7_init_q7_ok 10 (367, .bipush 39, 2) rfl
theorem dX7_init_369 : decode cX7_init 369 = .ok (.bipush 53, 2) := ax_dec dX7_init_q7_ok 11 (369, .bipush 53, 2) rfl
theorem dX7_init_371 : decode cX7_init 371 = .ok (.iastore, 1) := ax_dec dX7_init_q7_ok 12 (371, .iastore, 1) rfl
theorem dX7_init_372 : decode cX7_init 372 = .ok (.dup, 1) := ax_dec dX7_init_q7_ok 13 (372, .dup, 1) rfl
theorem dX7_init_373 : decode cX7_init 373 = .ok (.bipush 40, 2) := ax_dec dX7_init_q7_ok 14 (373, .bipush 40, 2) rfl
theorem dX7_init_375 : decode cX7_init 375 = .ok (.bipush 32, 2) := ax_dec dX7_init_q7_ok 15 (375, .bipush 32, 2) rfl
theorem dX7_init_377 : decode cX7_init 377 = .ok (.iastore, 1) := ax_dec dX7_init_q7_ok 16 (377, .iastore, 1) rfl
theorem dX7_init_378 : decode cX7_init 378 = .ok (.dup, 1) := ax_dec dX7_init_q7_ok 17 (378, .dup, 1) rfl
theorem dX7_init_379 : decode cX7_init 379 = .ok (.bipush 41, 2) := ax_dec dX7_init_q7_ok 18 (379, .bipush 41, 2) rfl
theorem dX7_init_381 : decode cX7_init 381 = .ok (.bipush 43, 2) := ax_dec dX7_init_q7_ok 19 (381, .bipush 43, 2) rfl
theorem dX7_init_383 : decode cX7_init 383 = .ok (.iastore, 1) := ax_dec dX7_init_q7_ok 20 (383, .iastore, 1) rfl
theorem dX7_init_384 : decode cX7_init 384 = .ok (.dup, 1) := ax_dec dX7_init_q7_ok 21 (384, .dup, 1) rfl
theorem dX7_init_385 : decode cX7_init 385 = .ok (.bipush 42, 2) := ax_dec dX7_init_q7_ok 22 (385, .bipush 42, 2) rfl
theorem dX7_init_387 : decode cX7_init 387 = .ok (.bipush 32, 2) := ax_dec dX7_init_q7_ok 23 (387, .bipush 32, 2) rfl
theorem dX7_init_389 : decode cX7_init 389 = .ok (.iastore, 1) := ax_dec dX7_init_q7_ok 24 (389, .iastore, 1) rfl
theorem dX7_init_390 : decode cX7_init 390 = .ok (.dup, 1) := ax_dec dX7_init_q7_ok 25 (390, .dup, 1) rfl
theorem dX7_init_391 : decode cX7_init 391 = .ok (.bipush 43, 2) := ax_dec dX7_init_q7_ok 26 (391, .bipush 43, 2) rfl
theorem dX7_init_393 : decode cX7_init 393 = .ok (.bipush 115, 2) := ax_dec dX7_init_q7_ok 27 (393, .bipush 115, 2) rfl
theorem dX7_init_395 : decode cX7_init 395 = .ok (.iastore, 1) := ax_dec dX7_init_q7_ok 28 (395, .iastore, 1) rfl
theorem dX7_init_396 : decode cX7_init 396 = .ok (.dup, 1) := ax_dec dX7_init_q7_ok 29 (396, .dup, 1) rfl
theorem dX7_init_397 : decode cX7_init 397 = .ok (.bipush 44, 2) := ax_dec dX7_init_q7_ok 30 (397, .bipush 44, 2) rfl
theorem dX7_init_399 : decode cX7_init 399 = .ok (.bipush 111, 2) := ax_dec dX7_init_q7_ok 31 (399, .bipush 111, 2) rfl
def dX7_init_q8 : List (Nat × (Instr × Nat)) := [(401, .iastore, 1), (402, .dup, 1), (403, .bipush 45, 2), (405, .bipush 111, 2), (407, .iastore, 1), (408, .dup, 1), (409, .bipush 46, 2), (411, .bipush 116, 2), (413, .iastore, 1), (414, .dup, 1), (415, .bipush 47, 2), (417, .bipush 32, 2), (419, .iastore, 1), (420, .dup, 1), (421, .bipush 48, 2), (423, .bipush 45, 2), (425, .iastore, 1), (426, .dup, 1), (427, .bipush 49, 2), (429, .bipush 32, 2), (431, .iastore, 1), (432, .dup, 1), (433, .bipush 50, 2), (435, .bipush 119, 2), (437, .iastore, 1), (438, .dup, 1), (439, .bipush 51, 2), (441, .bipush 105, 2), (443, .iastore, 1), (444, .dup, 1), (445, .bipush 52, 2), (447, .bipush 100, 2)]
set_option maxRecDepth 100000 in
theorem dX7_init_q8_ok : ax_decs cX7_init dX7_init_q8 = true := by decide +kernel
theorem dX7_init_401 : decode cX7_init 401 = .ok (.iastore, 1) := ax_dec dX7_init_q8_ok 0 (401, .iastore, 1) rfl
theorem dX7_init_402 : decode cX7_init 402 = .ok (.dup, 1) := ax_dec dX7_init_q8_ok 1 (402, .dup, 1) rfl
theorem dX7_init_403 : decode cX7_init 403 = .ok (.bipush 45, 2) := ax_dec dX7_init_q8_ok 2 (403, .bipush 45, 2) rfl
theorem dX7_init_405 : decode cX7_init 405 = .ok (.bipush 111, 2) := ax_dec dX7_init_q8_ok 3 (405, .bipush 111, 2) rfl
theorem dX7_init_407 : decode cX7_init 407 = .ok (.iastore, 1) := ax_dec dX7_init_q8_ok 4 (407, .iastore, 1) rfl
theorem dX7_init_408 : decode cX7_init 408 = .ok (.dup, 1) := ax_dec dX7_init_q8_ok 5 (408, .dup, 1) rfl
theorem dX7_init_409 : decode cX7_init 409 = .ok (.bipush 46, 2) := ax_dec dX7_init_q8_ok 6 (409, .bipush 46, 2) rfl
theorem dX7_init_411 : decode cX7_init 411 = .ok (.bipush 116, 2) := ax_dec dX7_init_q8_ok 7 (411, .bipush 116, 2) rfl
theorem dX7_init_413 : decode cX7_init 413 = .ok (.iastore, 1) := ax_dec dX7_init_q8_ok 8 (413, .iastore, 1) rfl
theorem dX7_init_414 : decode cX7_init 414 = .ok (.dup, 1) := ax_dec dX7_init_q8_ok 9 (414, .dup, 1) rfl
theorem dX7_init_415 : decode cX7_init 415 = .ok (.bipush 47, 2) := ax_dec dX7_init_q8_ok 10 (415, .bipush 47, 2) rfl
theorem dX7_init_417 : decode cX7_init 417 = .ok (.bipush 32, 2) := ax_dec dX7_init_q8_ok 11 (417, .bipush 32, 2) rfl
theorem dX7_init_419 : decode cX7_init 419 = .ok (.iastore, 1) := ax_dec dX7_init_q8_ok 12 (419, .iastore, 1) rfl
theorem dX7_init_420 : decode cX7_init 420 = .ok (.dup, 1) := ax_dec dX7_init_q8_ok 13 (420, .dup, 1) rfl
theorem dX7_init_421 : decode cX7_init 421 = .ok (.bipush 48, 2) := ax_dec dX7_init_q8_ok 14 (421, .bipush 48, 2) rfl
theorem dX7_init_423 : decode cX7_init 423 = .ok (.bipush 45, 2) := ax_dec dX7_init_q8_ok 15 (423, .bipush 45, 2) rfl
theorem dX7_init_425 : decode cX7_init 425 = .ok (.iastore, 1) := ax_dec dX7_init_q8_ok 16 (425, .iastore, 1) rfl
theorem dX7_init_426 : decode cX7_init 426 = .ok (.dup, 1) := ax_dec dX7_init_q8_ok 17 (426, .dup, 1) rfl
theorem dX7_init_427 : decode cX7_init 427 = .ok (.bipush 49, 2) := ax_dec dX7_init_q8_ok 18 (427, .bipush 49, 2) rfl
theorem dX7_init_429 : decode cX7_init 429 = .ok (.bipush 32, 2) := ax_dec dX7_init_q8_ok 19 (429, .bipush 32, 2) rfl
theorem dX7_init_431 : decode cX7_init 431 = .ok (.iastore, 1) := ax_dec dX7_init_q8_ok 20 (431, .iastore, 1) rfl
theorem dX7_init_432 : decode cX7_init 432 = .ok (.dup, 1) := ax_dec dX7_init_q8_ok 21 (432, .dup, 1) rfl
theorem dX7_init_433 : decode cX7_init 433 = .ok (.bipush 50, 2) := ax_dec dX7_init_q8_ok 22 (433, .bipush 50, 2) rfl
theorem dX7_init_435 : decode cX7_init 435 = .ok (.bipush 119, 2) := ax_dec dX7_init_q8_ok 23 (435, .bipush 119, 2) rfl
theorem dX7_init_437 : decode cX7_init 437 = .ok (.iastore, 1) := ax_dec dX7_init_q8_ok 24 (437, .iastore, 1) rfl
theorem dX7_init_438 : decode cX7_init 438 = .ok (.dup, 1) := ax_dec dX7_init_q8_ok 25 (438, .dup, 1) rfl
theorem dX7_init_439 : decode cX7_init 439 = .ok (.bipush 51, 2) := ax_dec dX7_init_q8_ok 26 (439, .bipush 51, 2) rfl
theorem dX7_init_441 : decode cX7_init 441 = .ok (.bipush 105, 2) := ax_dec dX7_init_q8_ok 27 (441, .bipush 105, 2) rfl
theorem dX7_init_443 : decode cX7_init 443 = .ok (.iastore, 1) := ax_dec dX7_init_q8_ok 28 (443, .iastore, 1) rfl
theorem dX7_init_444 : decode cX7_init 444 = .ok (.dup, 1) := ax_dec dX7_init_q8_ok 29 (444, .dup, 1) rfl
theorem dX7_init_445 : decode cX7_init 445 = .ok (.bipush 52, 2) := ax_dec dX7_init_q8_ok 30 (445, .bipush 52, 2) rfl
theorem dX7_init_447 : decode cX7_init 447 = .ok (.bipush 100, 2) := ax_dec dX7_init_q8_ok 31 (447, .bipush 100, 2) rfl
def dX7_init_q9 : List (Nat × (Instr × Nat)) := [(449, .iastore, 1), (450, .dup, 1), (451, .bipush 53, 2), (453, .bipush 101, 2), (455, .iastore, 1), (456, .dup, 1), (457, .bipush 54, 2), (459, .bipush 32, 2), (461, .iastore, 1), (462, .dup, 1), (463, .bipush 55, 2), (465, .bipush 59, 2), (467, .iastore, 1), (468, .dup, 1), (469, .bipush 56, 2), (471, .bipush 32, 2), (473, .iastore, 1), (474, .dup, 1), (475, .bipush 57, 2), (477, .bipush 98, 2), (479, .iastore, 1), (480, .dup, 1), (481, .bipush 58, 2), (483, .bipush 117, 2), (485, .iastore, 1), (486, .dup, 1), (487, .bipush 59, 2), (489, .bipush 114, 2), (491, .iastore, 1), (492, .dup, 1), (493, .bipush 60, 2), (495, .bipush 110, 2)]
set_option maxRecDepth 100000 in
theorem dX7_init_q9_ok : ax_decs cX7_init dX7_init_q9 = true := by decide +kernel
theorem dX7_init_449 : decode cX7_init 449 = .ok (.iastore, 1) := ax_dec dX7_init_q9_ok 0 (449, .iastore, 1) rfl
theorem dX7_init_450 : decode cX7_init 450 = .ok (.dup, 1) := ax_dec dX7_init_q9_ok 1 (450, .dup, 1) rfl
theorem dX7_init_451 : decode cX7_init 451 = .ok (.bipush 53, 2) := ax_dec dX7_init_q9_ok 2 (451, .bipush 53, 2) rfl
theorem dX7_init_453 : decode cX7_init 453 = .ok (.bipush 101, 2) := ax_dec dX7_init_q9_ok 3 (453, .bipush 101, 2) rfl
theorem dX7_init_455 : decode cX7_init 455 = .ok (.iastore, 1) := ax_dec dX7_init_q9_ok 4 (455, .iastore, 1) rfl
theorem dX7_init_456 : decode cX7_init 456 = .ok (.dup, 1) := ax_dec dX7_init_q9_ok 5 (456, .dup, 1) rfl
theorem dX7_init_457 : decode cX7_init 457 = .ok (.bipush 54, 2) := ax_dec dX7_init_q9_ok 6 (457, .bipush 54, 2) rfl
theorem dX7_init_459 : decode cX7_init 459 = .ok (.bipush 32, 2) := ax_dec dX7_init_q9_ok 7 (459, .bipush 32, 2) rfl
theorem dX7_init_461 : decode cX7_init 461 = .ok (.iastore, 1) := ax_dec dX7_init_q9_ok 8 (461, .iastore, 1) rfl
theorem dX7_init_462 : decode cX7_init 462 = .ok (.dup, 1) := ax_dec dX7_init_q9_ok 9 (462, .dup, 1) rfl
theorem dX7_init_463 : decode cX7_init 463 = .ok (.bipush 55, 2) := ax_dec dX7_init_q9_ok 10 (463, .bipush 55, 2) rfl
theorem dX7_init_465 : decode cX7_init 465 = .ok (.bipush 59, 2) := ax_dec dX7_init_q9_ok 11 (465, .bipush 59, 2) rfl
theorem dX7_init_467 : decode cX7_init 467 = .ok (.iastore, 1) := ax_dec dX7_init_q9_ok 12 (467, .iastore, 1) rfl
theorem dX7_init_468 : decode cX7_init 468 = .ok (.dup, 1) := ax_dec dX7_init_q9_ok 13 (468, .dup, 1) rfl
theorem dX7_init_469 : decode cX7_init 469 = .ok (.bipush 56, 2) := ax_dec dX7_init_q9_ok 14 (469, .bipush 56, 2) rfl
theorem dX7_init_471 : decode cX7_init 471 = .ok (.bipush 32, 2) := ax_dec dX7_init_q9_ok 15 (471, .bipush 32, 2) rfl
theorem dX7_init_473 : decode cX7_init 473 = .ok (.iastore, 1) := ax_dec dX7_init_q9_ok 16 (473, .iastore, 1) rfl
theorem dX7_init_474 : decode cX7_init 474 = .ok (.dup, 1) := ax_dec dX7_init_q9_ok 17 (474, .dup, 1) rfl
theorem dX7_init_475 : decode cX7_init 475 = .ok (.bipush 57, 2) := ax_dec dX7_init_q9_ok 18 (475, .bipush 57, 2) rfl
theorem dX7_init_477 : decode cX7_init 477 = .ok (.bipush 98, 2) := ax_dec dX7_init_q9_ok 19 (477, .bipush 98, 2) rfl
theorem dX7_init_479 : decode cX7_init 479 = .ok (.iastore, 1) := ax_dec dX7_init_q9_ok 20 (479, .iastore, 1) rfl
theorem dX7_init_480 : decode cX7_init 480 = .ok (.dup, 1) := ax_dec dX7_init_q9_ok 21 (480, .dup, 1) rfl
theorem dX7_init_481 : decode cX7_init 481 = .ok (.bipush 58, 2) := ax_dec dX7_init_q9_ok 22 (481, .bipush 58, 2) rfl
theorem dX7_init_483 : decode cX7_init 483 = .ok (.bipush 117, 2) := ax_dec dX7_init_q9_ok 23 (483, .bipush 117, 2) rfl
theorem dX7_init_485 : decode cX7_init 485 = .ok (.iastore, 1) := ax_dec dX7_init_q9_ok 24 (485, .iastore, 1) rfl
theorem dX7_init_486 : decode cX7_init 486 = .ok (.dup, 1) := ax_dec dX7_init_q9_ok 25 (486, .dup, 1) rfl
theorem dX7_init_487 : decode cX7_init 487 = .ok (.bipush 59, 2) := ax_dec dX7_init_q9_ok 26 (487, .bipush 59, 2) rfl
theorem dX7_init_489 : decode cX7_init 489 = .ok (.bipush 114, 2) := ax_dec dX7_init_q9_ok 27 (489, .bipush 114, 2) rfl
theorem dX7_init_491 : decode cX7_init 491 = .ok (.iastore, 1) := ax_dec dX7_init_q9_ok 28 (491, .iastore, 1) rfl
theorem dX7_init_492 : decode cX7_init 492 = .ok (.dup, 1) := ax_dec dX7_init_q9_ok 29 (492, .dup, 1) rfl
theorem dX7_init_493 : decode cX7_init 493 = .ok (.bipush 60, 2) := ax_dec dX7_init_q9_ok 30 (493, .bipush 60, 2) rfl
theorem dX7_init_495 : decode cX7_init 495 = .ok (.bipush 110, 2) := ax_dec dX7_init_q9_ok 31 (495, .bipush 110, 2) rfl
def dX7_init_q10 : List (Nat × (Instr × Nat)) := [(497, .iastore, 1), (498, .dup, 1), (499, .bipush 61, 2), (501, .bipush 115, 2), (503, .iastore, 1), (504, .dup, 1), (505, .bipush 62, 2), (507, .bipush 32, 2), (509, .iastore, 1), (510, .dup, 1), (511, .bipush 63, 2), (513, .bipush 115, 2), (515, .iastore, 1), (516, .dup, 1), (517, .bipush 64, 2), (519, .bipush 111, 2), (521, .iastore, 1), (522, .dup, 1), (523, .bipush 65, 2), (525, .bipush 111, 2), (527, .iastore, 1), (528, .dup, 1), (529, .bipush 66, 2), (531, .bipush 116, 2), (533, .iastore, 1), (534, .dup, 1), (535, .bipush 67, 2), (537, .bipush 32, 2), (539, .iastore, 1), (540, .dup, 1), (541, .bipush 68, 2), (543, .bipush 45, 2)]
set_option maxRecDepth 100000 in
theorem dX7_init_q10_ok : ax_decs cX7_init dX7_init_q10 = true := by decide +kernel
theorem dX7_init_497 : decode cX7_init 497 = .ok (.iastore, 1) := ax_dec dX7_init_q10_ok 0 (497, .iastore, 1) rfl
theorem dX7_init_498 : decode cX7_init 498 = .ok (.dup, 1) := ax_dec dX7_init_q10_ok 1 (498, .dup, 1) rfl
theorem dX7_init_499 : decode cX7_init 499 = .ok (.bipush 61, 2) := ax_dec dX7_init_q10_ok 2 (499, .bipush 61, 2) rfl
theorem dX7_init_501 : decode cX7_init 501 = .ok (.bipush 115, 2) := ax_dec dX7_init_q10_ok 3 (501, .bipush 115, 2) rfl
theorem dX7_init_503 : decode cX7_init 503 = .ok (.iastore, 1) := ax_dec dX7_init_q10_ok 4 (503, .iastore, 1) rfl
theorem dX7_init_504 : decode cX7_init 504 = .ok (.dup, 1) := ax_dec dX7_init_q10_ok 5 (504, .dup, 1) rfl
theorem dX7_init_505 : decode cX7_init 505 = .ok (.bipush 62, 2) := ax_dec dX7_init_q10_ok 6 (505, .bipush 62, 2) rfl
theorem dX7_init_507 : decode cX7_init 507 = .ok (.bipush 32, 2) := ax_dec dX7_init_q10_ok 7 (507, .bipush 32, 2) rfl
theorem dX7_init_509 : decode cX7_init 509 = .ok (.iastore, 1) := ax_dec dX7_init_q10_ok 8 (509, .iastore, 1) rfl
theorem dX7_init_510 : decode cX7_init 510 = .ok (.dup, 1) := ax_dec dX7_init_q10_ok 9 (510, .dup, 1) rfl
theorem dX7_init_511 : decode cX7_init 511 = .ok (.bipush 63, 2) := ax_dec dX7_init_q10_ok 10 (511, .bipush 63, 2) rfl
theorem dX7_init_513 : decode cX7_init 513 = .ok (.bipush 115, 2) := ax_dec dX7_init_q10_ok 11 (513, .bipush 115, 2) rfl
theorem dX7_init_515 : decode cX7_init 515 = .ok (.iastore, 1) := ax_dec dX7_init_q10_ok 12 (515, .iastore, 1) rfl
theorem dX7_init_516 : decode cX7_init 516 = .ok (.dup, 1) := ax_dec dX7_init_q10_ok 13 (516, .dup, 1) rfl
theorem dX7_init_517 : decode cX7_init 517 = .ok (.bipush 64, 2) := ax_dec dX7_init_q10_ok 14 (517, .bipush 64, 2) rfl
theorem dX7_init_519 : decode cX7_init 519 = .ok (.bipush 111, 2) := ax_dec dX7_init_q10_ok 15 (519, .bipush 111, 2) rfl
theorem dX7_init_521 : decode cX7_init 521 = .ok (.iastore, 1) := ax_dec dX7_init_q10_ok 16 (521, .iastore, 1) rfl
theorem dX7_init_522 : decode cX7_init 522 = .ok (.dup, 1) := ax_dec dX7_init_q10_ok 17 (522, .dup, 1) rfl
theorem dX7_init_523 : decode cX7_init 523 = .ok (.bipush 65, 2) := ax_dec dX7_init_q10_ok 18 (523, .bipush 65, 2) rfl
theorem dX7_init_525 : decode cX7_init 525 = .ok (.bipush 111, 2) := ax_dec dX7_init_q10_ok 19 (525, .bipush 111, 2) rfl
theorem dX7_init_527 : decode cX7_init 527 = .ok (.iastore, 1) := ax_dec dX7_init_q10_ok 20 (527, .iastore, 1) rfl
theorem dX7_init_528 : decode cX7_init 528 = .ok (.dup, 1) := ax_dec dX7_init_q10_ok 21 (528, .dup, 1) rfl
theorem dX7_init_529 : decode cX7_init 529 = .ok (.bipush 66, 2) := ax_dec dX7_init_q10_ok 22 (529, .bipush 66, 2) rfl
theorem dX7_init_531 : decode cX7_init 531 = .ok (.bipush 116, 2) := ax_dec dX7_init_q10_ok 23 (531, .bipush 116, 2) rfl
theorem dX7_init_533 : decode cX7_init 533 = .ok (.iastore, 1) := ax_dec dX7_init_q10_ok 24 (533, .iastore, 1) rfl
theorem dX7_init_534 : decode cX7_init 534 = .ok (.dup, 1) := ax_dec dX7_init_q10_ok 25 (534, .dup, 1) rfl
theorem dX7_init_535 : decode cX7_init 535 = .ok (.bipush 67, 2) := ax_dec dX7_init_q10_ok 26 (535, .bipush 67, 2) rfl
theorem dX7_init_537 : decode cX7_init 537 = .ok (.bipush 32, 2) := ax_dec dX7_init_q10_ok 27 (537, .bipush 32, 2) rfl
theorem dX7_init_539 : decode cX7_init 539 = .ok (.iastore, 1) := ax_dec dX7_init_q10_ok 28 (539, .iastore, 1) rfl
theorem dX7_init_540 : decode cX7_init 540 = .ok (.dup, 1) := ax_dec dX7_init_q10_ok 29 (540, .dup, 1) rfl
theorem dX7_init_541 : decode cX7_init 541 = .ok (.bipush 68, 2) := ax_dec dX7_init_q10_ok 30 (541, .bipush 68, 2) rfl
theorem dX7_init_543 : decode cX7_init 543 = .ok (.bipush 45, 2) := ax_dec dX7_init_q10_ok 31 (543, .bipush 45, 2) rfl
def dX7_init_q11 : List (Nat × (Instr × Nat)) := [(545, .iastore, 1), (546, .dup, 1), (547, .bipush 69, 2), (549, .bipush 32, 2), (551, .iastore, 1), (552, .dup, 1), (553, .bipush 70, 2), (555, .bipush 53, 2), (557, .iastore, 1), (558, .dup, 1), (559, .bipush 71, 2), (561, .bipush 48, 2), (563, .iastore, 1), (564, .dup, 1), (565, .bipush 72, 2), (567, .bipush 32, 2), (569, .iastore, 1), (570, .dup, 1), (571, .bipush 73, 2), (573, .bipush 59, 2), (575, .iastore, 1), (576, .putfield 52, 3), (579, .aload_n 0, 1), (580, .bipush 96, 2), (582, .newarray .int, 2), (584, .dup, 1), (585, .iconst 0, 1), (586, .bipush 97, 2), (588, .iastore, 1), (589, .dup, 1), (590, .iconst 1, 1), (591, .bipush 100, 2)]
set_option maxRecDepth 100000 in
theorem dX7_init_q11_ok : ax_decs cX7_init dX7_init_q11 = true := by decide +kernel
theorem dX7_init_545 : decode cX7_init 545 = .ok (.iastore, 1) := ax_dec dX7_init_q11_ok 0 (545, .iastore, 1) rfl
theorem dX7_init_546 : decode cX7_init 546 = .ok (.dup, 1) := ax_dec dX7_init_q11_ok 1 (546, .dup, 1) rfl
theorem dX7_init_547 : decode cX7_init 547 = .ok (.bipush 69, 2) := ax_dec dX7_init_q11_ok 2 (547, .bipush 69, 2) rfl
theorem dX7_init_549 : decode cX7_init 549 = .ok (.bipush 32, 2) := ax_dec dX7_init_q11_ok 3 (549, .bipush 32, 2) rfl
theorem dX7_init_551 : decode cX7_init 551 = .ok (.iastore, 1) := ax_dec dX7_init_q11_ok 4 (551, .iastore, 1) rfl
theorem dX7_init_552 : decode cX7_init 552 = .ok (.dup, 1) := ax_dec dX7_init_q11_ok 5 (552, .dup, 1) rfl
theorem dX7_init_553 : decode cX7_init 553 = .ok (.bipush 70, 2) := ax_dec dX7_init_q11_ok 6 (553, .bipush 70, 2) rfl
theorem dX7_init_555 : decode cX7_init 555 = .ok (.bipush 53, 2) := ax_dec dX7_init_q11_ok 7 (555, .bipush 53, 2) rfl
theorem dX7_init_557 : decode cX7_init 557 = .ok (.iastore, 1) := ax_dec dX7_init_q11_ok 8 (557, .iastore, 1) rfl
theorem dX7_init_558 : decode cX7_init 558 = .ok (.dup, 1) := ax_dec dX7_init_q11_ok 9 (558, .dup, 1) rfl
theorem dX7_init_559 : decode cX7_init 559 = .ok (.bipush 71, 2) := ax_dec dX7_init_q11_ok 10 (559, .bipush 71, 2) rfl
theorem dX7_init_561 : decode cX7_init 561 = .ok (.bipush 48, 2) := ax_dec dX7_init_q11_ok 11 (561, .bipush 48, 2) rfl
theorem dX7_init_563 : decode cX7_init 563 = .ok (.iastore, 1) := ax_dec dX7_init_q11_ok 12 (563, .iastore, 1) rfl
theorem dX7_init_564 : decode cX7_init 564 = .ok (.dup, 1) := ax_dec dX7_init_q11_ok 13 (564, .dup, 1) rfl
theorem dX7_init_565 : decode cX7_init 565 = .ok (.bipush 72, 2) := ax_dec dX7_init_q11_ok 14 (565, .bipush 72, 2) rfl
theorem dX7_init_567 : decode cX7_init 567 = .ok (.bipush 32, 2) := ax_dec dX7_init_q11_ok 15 (567, .bipush 32, 2) rfl
theorem dX7_init_569 : decode cX7_init 569 = .ok (.iastore, 1) := ax_dec dX7_init_q11_ok 16 (569, .iastore, 1) rfl
theorem dX7_init_570 : decode cX7_init 570 = .ok (.dup, 1) := ax_dec dX7_init_q11_ok 17 (570, .dup, 1) rfl
theorem dX7_init_571 : decode cX7_init 571 = .ok (.bipush 73, 2) := ax_dec dX7_init_q11_ok 18 (571, .bipush 73, 2) rfl
theorem dX7_init_573 : decode cX7_init 573 = .ok (.bipush 59, 2) := ax_dec dX7_init_q11_ok 19 (573, .bipush 59, 2) rfl
theorem dX7_init_575 : decode cX7_init 575 = .ok (.iastore, 1) := ax_dec dX7_init_q11_ok 20 (575, .iastore, 1) rfl
theorem dX7_init_576 : decode cX7_init 576 = .ok (.putfield 52, 3) := ax_dec dX7_init_q11_ok 21 (576, .putfield 52, 3) rfl
theorem dX7_init_579 : decode cX7_init 579 = .ok (.aload_n 0, 1) := ax_dec dX7_init_q11_ok 22 (579, .aload_n 0, 1) rfl
theorem dX7_init_580 : decode cX7_init 580 = .ok (.bipush 96, 2) := ax_dec dX7_init_q11_ok 23 (580, .bipush 96, 2) rfl
theorem dX7_init_582 : decode cX7_init 582 = .ok (.newarray .int, 2) := ax_dec dX7_init_q11_ok 24 (582, .newarray .int, 2) rfl
theorem dX7_init_584 : decode cX7_init 584 = .ok (.dup, 1) := ax_dec dX7_init_q11_ok 25 (584, .dup, 1) rfl
theorem dX7_init_585 : decode cX7_init 585 = .ok (.iconst 0, 1) := ax_dec dX7_init_q11_ok 26 (585, .iconst 0, 1) rfl
theorem dX7_init_586 : decode cX7_init 586 = .ok (.bipush 97, 2) := ax_dec dX7_init_q11_ok 27 (586, .bipush 97, 2) rfl
theorem dX7_init_588 : decode cX7_init 588 = .ok (.iastore, 1) := ax_dec dX7_init_q11_ok 28 (588, .iastore, 1) rfl
theorem dX7_init_589 : decode cX7_init 589 = .ok (.dup, 1) := ax_dec dX7_init_q11_ok 29 (589, .dup, 1) rfl
theorem dX7_init_590 : decode cX7_init 590 = .ok (.iconst 1, 1) := ax_dec dX7_init_q11_ok 30 (590, .iconst 1, 1) rfl
theorem dX7_init_591 : decode cX7_init 591 = .ok (.bipush 100, 2) := ax_dec dX7_init_q11_ok 31 (591, .bipush 100, 2) rfl
def dX7_init_q12 : List (Nat × (Instr × Nat)) := [(593, .iastore, 1), (594, .dup, 1), (595, .iconst 2, 1), (596, .bipush 100, 2), (598, .iastore, 1), (599, .dup, 1), (600, .iconst 3, 1), (601, .bipush 115, 2), (603, .iastore, 1), (604, .dup, 1), (605, .iconst 4, 1), (606, .bipush 32, 2), (608, .iastore, 1), (609, .dup, 1), (610, .iconst 5, 1), (611, .bipush 32, 2), (613, .iastore, 1), (614, .dup, 1), (615, .bipush 6, 2), (617, .bipush 32, 2), (619, .iastore, 1), (620, .dup, 1), (621, .bipush 7, 2), (623, .bipush 32, 2), (625, .iastore, 1), (626, .dup, 1), (627, .bipush 8, 2), (629, .bipush 104, 2), (631, .iastore, 1), (632, .dup, 1), (633, .bipush 9, 2), (635, .bipush 101, 2)]
set_option maxRecDepth 100000 in
theorem dX7_init_q12_ok : ax_decs cX7_init dX7_init_q12 = true := by decide +kernel
theorem dX7_init_593 : decode cX7_init 593 = .ok (.iastore, 1) := ax_dec dX7_init_q12_ok 0 (593, .iastore, 1) rfl
theorem dX7_init_594 : decode cX7_init 594 = .ok (.dup, 1) := ax_dec dX7_init_q12_ok 1 (594, .dup, 1) rfl
theorem dX7_init_595 : decode cX7_init 595 = .ok (.iconst 2, 1) := ax_dec dX7_init_q12_ok 2 (595, .iconst 2, 1) rfl
theorem dX7_init_596 : decode cX7_init 596 = .ok (.bipush 100, 2) := ax_dec dX7_init_q12_ok 3 (596, .bipush 100, 2) rfl
theorem dX7_init_598 : decode cX7_init 598 = .ok (.iastore, 1) := ax_dec dX7_init_q12_ok 4 (598, .iastore, 1) rfl
theorem dX7_init_599 : decode cX7_init 599 = .ok (.dup, 1) := ax_dec dX7_init_q12_ok 5 (599, .dup, 1) rfl
theorem dX7_init_600 : decode cX7_init 600 = .ok (.iconst 3, 1) := ax_dec dX7_init_q12_ok 6 (600, .iconst 3, 1) rfl
theorem dX7_init_601 : decode cX7_init 601 = .ok (.bipush 115, 2) := ax_dec dX7_init_q12_ok 7 (601, .bipush 115, 2) rfl
theorem dX7_init_603 : decode cX7_init 603 = .ok (.iastore, 1) := ax_dec dX7_init_q12_ok 8 (603, .iastore, 1) rfl
theorem dX7_init_604 : decode cX7_init 604 = .ok (.dup, 1) := ax_dec dX7_init_q12_ok 9 (604, .dup, 1) rfl
theorem dX7_init_605 : decode cX7_init 605 = .ok (.iconst 4, 1) := ax_dec dX7_init_q12_ok 10 (605, .iconst 4, 1) rfl
theorem dX7_init_606 : decode cX7_init 606 = .ok (.bipush 32, 2) := ax_dec dX7_init_q12_ok 11 (606, .bipush 32, 2) rfl
theorem dX7_init_608 : decode cX7_init 608 = .ok (.iastore, 1) := ax_dec dX7_init_q12_ok 12 (608, .iastore, 1) rfl
theorem dX7_init_609 : decode cX7_init 609 = .ok (.dup, 1) := ax_dec dX7_init_q12_ok 13 (609, .dup, 1) rfl
theorem dX7_init_610 : decode cX7_init 610 = .ok (.iconst 5, 1) := ax_dec dX7_init_q12_ok 14 (610, .iconst 5, 1) rfl
theorem dX7_init_611 : decode cX7_init 611 = .ok (.bipush 32, 2) := ax_dec dX7_init_q12_ok 15 (611, .bipush 32, 2) rfl
theorem dX7_init_613 : decode cX7_init 613 = .ok (.iastore, 1) := ax_dec dX7_init_q12_ok 16 (613, .iastore, 1) rfl
theorem dX7_init_614 : decode cX7_init 614 = .ok (.dup, 1) := ax_dec dX7_init_q12_ok 17 (614, .dup, 1) rfl
theorem dX7_init_615 : decode cX7_init 615 = .ok (.bipush 6, 2) := ax_dec dX7_init_q12_ok 18 (615, .bipush 6, 2) rfl
theorem dX7_init_617 : decode cX7_init 617 = .ok (.bipush 32, 2) := ax_dec dX7_init_q12_ok 19 (617, .bipush 32, 2) rfl
theorem dX7_init_619 : decode cX7_init 619 = .ok (.iastore, 1) := ax_dec dX7_init_q12_ok 20 (619, .iastore, 1) rfl
theorem dX7_init_620 : decode cX7_init 620 = .ok (.dup, 1) := ax_dec dX7_init_q12_ok 21 (620, .dup, 1) rfl
theorem dX7_init_621 : decode cX7_init 621 = .ok (.bipush 7, 2) := ax_dec dX7_init_q12_ok 22 (621, .bipush 7, 2) rfl
theorem dX7_init_623 : decode cX7_init 623 = .ok (.bipush 32, 2) := ax_dec dX7_init_q12_ok 23 (623, .bipush 32, 2) rfl
theorem dX7_init_625 : decode cX7_init 625 = .ok (.iastore, 1) := ax_dec dX7_init_q12_ok 24 (625, .iastore, 1) rfl
theorem dX7_init_626 : decode cX7_init 626 = .ok (.dup, 1) := ax_dec dX7_init_q12_ok 25 (626, .dup, 1) rfl
theorem dX7_init_627 : decode cX7_init 627 = .ok (.bipush 8, 2) := ax_dec dX7_init_q12_ok 26 (627, .bipush 8, 2) rfl
theorem dX7_init_629 : decode cX7_init 629 = .ok (.bipush 104, 2) := ax_dec dX7_init_q12_ok 27 (629, .bipush 104, 2) rfl
theorem dX7_init_631 : decode cX7_init 631 = .ok (.iastore, 1) := ax_dec dX7_init_q12_ok 28 (631, .iastore, 1) rfl
theorem dX7_init_632 : decode cX7_init 632 = .ok (.dup, 1) := ax_dec dX7_init_q12_ok 29 (632, .dup, 1) rfl
theorem dX7_init_633 : decode cX7_init 633 = .ok (.bipush 9, 2) := ax_dec dX7_init_q12_ok 30 (633, .bipush 9, 2) rfl
theorem dX7_init_635 : decode cX7_init 635 = .ok (.bipush 101, 2) := ax_dec dX7_init_q12_ok 31 (635, .bipush 101, 2) rfl
def dX7_init_q13 : List (Nat × (Instr × Nat)) := [(637, .iastore, 1), (638, .dup, 1), (639, .bipush 10, 2), (641, .bipush 97, 2), (643, .iastore, 1), (644, .dup, 1), (645, .bipush 11, 2), (647, .bipush 118, 2), (649, .iastore, 1), (650, .dup, 1), (651, .bipush 12, 2), (653, .bipush 121, 2), (655, .iastore, 1), (656, .dup, 1), (657, .bipush 13, 2), (659, .bipush 32, 2), (661, .iastore, 1), (662, .dup, 1), (663, .bipush 14, 2), (665, .bipush 32, 2), (667, .iastore, 1), (668, .dup, 1), (669, .bipush 15, 2), (671, .bipush 32, 2), (673, .iastore, 1), (674, .dup, 1), (675, .bipush 16, 2), (677, .bipush 98, 2), (679, .iastore, 1), (680, .dup, 1), (681, .bipush 17, 2), (683, .bipush 117, 2)]
set_option maxRecDepth 100000 in
theorem dX7_init_q13_ok : ax_decs cX7_init dX7_init_q13 = true := by decide +kernel
theorem dX7_init_637 : decode cX7_init 637 = .ok (.iastore, 1) := ax_dec dX7_init_q13_ok 0 (637, .iastore, 1) rfl
theorem dX7_init_638 : decode cX7_init 638 = .ok (.dup, 1) := ax_dec dX7_init_q13_ok 1 (638, .dup, 1) rfl
theorem dX7_init_639 : decode cX7_init 639 = .ok (.bipush 10, 2) := ax_dec dX7_init_q13_ok 2 (639, .bipush 10, 2) rfl
theorem dX7_init_641 : decode cX7_init 641 = .ok (.bipush 97, 2) := ax_dec dX7_init_q13_ok 3 (641, .bipush 97, 2) rfl
theorem dX7_init_643 : decode cX7_init 643 = .ok (.iastore, 1) := ax_dec dX7_init_q13_ok 4 (643, .iastore, 1) rfl
theorem dX7_init_644 : decode cX7_init 644 = .ok (.dup, 1) := ax_dec dX7_init_q13_ok 5 (644, .dup, 1) rfl
theorem dX7_init_645 : decode cX7_init 645 = .ok (.bipush 11, 2) := ax_dec dX7_init_q13_ok 6 (645, .bipush 11, 2) rfl
theorem dX7_init_647 : decode cX7_init 647 = .ok (.bipush 118, 2) := ax_dec dX7_init_q13_ok 7 (647, .bipush 118, 2) rfl
theorem dX7_init_649 : decode cX7_init 649 = .ok (.iastore, 1) := ax_dec dX7_init_q13_ok 8 (649, .iastore, 1) rfl
theorem dX7_init_650 : decode cX7_init 650 = .ok (.dup, 1) := ax_dec dX7_init_q13_ok 9 (650, .dup, 1) rfl
theorem dX7_init_651 : decode cX7_init 651 = .ok (.bipush 12, 2) := ax_dec dX7_init_q13_ok 10 (651, .bipush 12, 2) rfl
theorem dX7_init_653 : decode cX7_init 653 = .ok (.bipush 121, 2) := ax_dec dX7_init_q13_ok 11 (653, .bipush 121, 2) rfl
theorem dX7_init_655 : decode cX7_init 655 = .ok (.iastore, 1) := ax_dec dX7_init_q13_ok 12 (655, .iastore, 1) rfl
theorem dX7_init_656 : decode cX7_init 656 = .ok (.dup, 1) := ax_dec dX7_init_q13_ok 13 (656, .dup, 1) rfl
theorem dX7_init_657 : decode cX7_init 657 = .ok (.bipush 13, 2) := ax_dec dX7_init_q13_ok 14 (657, .bipush 13, 2) rfl
theorem dX7_init_659 : decode cX7_init 659 = .ok (.bipush 32, 2) := ax_dec dX7_init_q13_ok 15 (659, .bipush 32, 2) rfl
theorem dX7_init_661 : decode cX7_init 661 = .ok (.iastore, 1) := ax_dec dX7_init_q13_ok 16 (661, .iastore, 1) rfl
theorem dX7_init_662 : decode cX7_init 662 = .ok (.dup, 1) := ax_dec dX7_init_q13_ok 17 (662, .dup, 1) rfl
theorem dX7_init_663 : decode cX7_init 663 = .ok (.bipush 14, 2) := ax_dec dX7_init_q13_ok 18 (663, .bipush 14, 2) rfl
theorem dX7_init_665 : decode cX7_init 665 = .ok (.bipush 32, 2) := ax_dec dX7_init_q13_ok 19 (665, .bipush 32, 2) rfl
theorem dX7_init_667 : decode cX7_init 667 = .ok (.iastore, 1) := ax_dec dX7_init_q13_ok 20 (667, .iastore, 1) rfl
theorem dX7_init_668 : decode cX7_init 668 = .ok (.dup, 1) := ax_dec dX7_init_q13_ok 21 (668, .dup, 1) rfl
theorem dX7_init_669 : decode cX7_init 669 = .ok (.bipush 15, 2) := ax_dec dX7_init_q13_ok 22 (669, .bipush 15, 2) rfl
theorem dX7_init_671 : decode cX7_init 671 = .ok (.bipush 32, 2) := ax_dec dX7_init_q13_ok 23 (671, .bipush 32, 2) rfl
theorem dX7_init_673 : decode cX7_init 673 = .ok (.iastore, 1) := ax_dec dX7_init_q13_ok 24 (673, .iastore, 1) rfl
theorem dX7_init_674 : decode cX7_init 674 = .ok (.dup, 1) := ax_dec dX7_init_q13_ok 25 (674, .dup, 1) rfl
theorem dX7_init_675 : decode cX7_init 675 = .ok (.bipush 16, 2) := ax_dec dX7_init_q13_ok 26 (675, .bipush 16, 2) rfl
theorem dX7_init_677 : decode cX7_init 677 = .ok (.bipush 98, 2) := ax_dec dX7_init_q13_ok 27 (677, .bipush 98, 2) rfl
theorem dX7_init_679 : decode cX7_init 679 = .ok (.iastore, 1) := ax_dec dX7_init_q13_ok 28 (679, .iastore, 1) rfl
theorem dX7_init_680 : decode cX7_init 680 = .ok (.dup, 1) := ax_dec dX7_init_q13_ok 29 (680, .dup, 1) rfl
theorem dX7_init_681 : decode cX7_init 681 = .ok (.bipush 17, 2) := ax_dec dX7_init_q13_ok 30 (681, .bipush 17, 2) rfl
theorem dX7_init_683 : decode cX7_init 683 = .ok (.bipush 117, 2) := ax_dec dX7_init_q13_ok 31 (683, .bipush 117, 2) rfl
def dX7_init_q14 : List (Nat × (Instr × Nat)) := [(685, .iastore, 1), (686, .dup, 1), (687, .bipush 18, 2), (689, .bipush 114, 2), (691, .iastore, 1), (692, .dup, 1), (693, .bipush 19, 2), (695, .bipush 110, 2), (697, .iastore, 1), (698, .dup, 1), (699, .bipush 20, 2), (701, .bipush 115, 2), (703, .iastore, 1), (704, .dup, 1), (705, .bipush 21, 2), (707, .bipush 32, 2), (709, .iastore, 1), (710, .dup, 1), (711, .bipush 22, 2), (713, .bipush 32, 2), (715, .iastore, 1), (716, .dup, 1), (717, .bipush 23, 2), (719, .bipush 32, 2), (721, .iastore, 1), (722, .dup, 1), (723, .bipush 24, 2), (725, .bipush 115, 2), (727, .iastore, 1), (728, .dup, 1), (729, .bipush 25, 2), (731, .bipush 111, 2)]
set_option maxRecDepth 100000 in
theorem dX7_init_q14_ok : ax_decs cX7_init dX7_init_q14 = true := by decide +kernel
theorem dX7_init_685 : decode cX7_init 685 = .ok (.iastore, 1) := ax_dec dX7_init_q14_ok 0 (685, .iastore, 1) rfl
theorem dX7_init_686 : decode cX7_init 686 = .ok (.dup, 1) := ax_dec dX7_init_q14_ok 1 (686, .dup, 1) rfl
theorem dX7_init_687 : decode cX7_init 687 = .ok (.bipush 18, 2) := ax_dec dX7_init_q14_ok 2 (687, .bipush 18, 2) rfl
theorem dX7_init_689 : decode cX7_init 689 = .ok (.bipush 114, 2) := ax_dec dX7_init_q14_ok 3 (689, .bipush 114, 2) rfl
theorem dX7_init_691 : decode cX7_init 691 = .ok (.iastore, 1) := ax_dec dX7_init_q14_ok 4 (691, .iastore, 1) rfl
theorem dX7_init_692 : decode cX7_init 692 = .ok (.dup, 1) := ax_dec dX7_init_q14_ok 5 (692, .dup, 1) rfl
theorem dX7_init_693 : decode cX7_init 693 = .ok (.bipush 19, 2) := ax_dec dX7_init_q14_ok 6 (693, .bipush 19, 2) rfl
theorem dX7_init_695 : decode cX7_init 695 = .ok (.bipush 110, 2) := ax_dec dX7_init_q14_ok 7 (695, .bipush 110, 2) rfl
theorem dX7_init_697 : decode cX7_init 697 = .ok (.iastore, 1) := ax_dec dX7_init_q14_ok 8 (697, .iastore, 1) rfl
theorem dX7_init_698 : decode cX7_init 698 = .ok (.dup, 1) := ax_dec dX7_init_q14_ok 9 (698, .dup, 1) rfl
theorem dX7_init_699 : decode cX7_init 699 = .ok (.bipush 20, 2) := ax_dec dX7_init_q14_ok 10 (699, .bipush 20, 2) rfl
theorem dX7_init_701 : decode cX7_init 701 = .ok (.bipush 115, 2) := ax_dec dX7_init_q14_ok 11 (701, .bipush 115, 2) rfl
theorem dX7_init_703 : decode cX7_init 703 = .ok (.iastore, 1) := ax_dec dX7_init_q14_ok 12 (703, .iastore, 1) rfl
theorem dX7_init_704 : decode cX7_init 704 = .ok (.dup, 1) := ax_dec dX7_init_q14_ok 13 (704, .dup, 1) rfl
theorem dX7_init_705 : decode cX7_init 705 = .ok (.bipush 21, 2) := ax_dec dX7_init_q14_ok 14 (705, .bipush 21, 2) rfl
theorem dX7_init_707 : decode cX7_init 707 = .ok (.bipush 32, 2) := ax_dec dX7_init_q14_ok 15 (707, .bipush 32, 2) rfl
theorem dX7_init_709 : decode cX7_init 709 = .ok (.iastore, 1) := ax_dec dX7_init_q14_ok 16 (709, .iastore, 1) rfl
theorem dX7_init_710 : decode cX7_init 710 = .ok (.dup, 1) := ax_dec dX7_init_q14_ok 17 (710, .dup, 1) rfl
theorem dX7_init_711 : decode cX7_init 711 = .ok (.bipush 22, 2) := ax_dec dX7_init_q14_ok 18 (711, .bipush 22, 2) rfl
theorem dX7_init_713 : decode cX7_init 713 = .ok (.bipush 32, 2) := ax_dec dX7_init_q14_ok 19 (713, .bipush 32, 2) rfl
theorem dX7_init_715 : decode cX7_init 715 = .ok (.iastore, 1) := ax_dec dX7_init_q14_ok 20 (715, .iastore, 1) rfl
theorem dX7_init_716 : decode cX7_init 716 = .ok (.dup, 1) := ax_dec dX7_init_q14_ok 21 (716, .dup, 1) rfl
theorem dX7_init_717 : decode cX7_init 717 = .ok (.bipush 23, 2) := ax_dec dX7_init_q14_ok 22 (717, .bipush 23, 2) rfl
theorem dX7_init_719 : decode cX7_init 719 = .ok (.bipush 32, 2) := ax_dec dX7_init_q14_ok 23 (719, .bipush 32, 2) rfl
theorem dX7_init_721 : decode cX7_init 721 = .ok (.iastore, 1) := ax_dec dX7_init_q14_ok 24 (721, .iastore, 1) rfl
theorem dX7_init_722 : decode cX7_init 722 = .ok (.dup, 1) := ax_dec dX7_init_q14_ok 25 (722, .dup, 1) rfl
theorem dX7_init_723 : decode cX7_init 723 = .ok (.bipush 24, 2) := ax_dec dX7_init_q14_ok 26 (723, .bipush 24, 2) rfl
theorem dX7_init_725 : decode cX7_init 725 = .ok (.bipush 115, 2) := ax_dec dX7_init_q14_ok 27 (725, .bipush 115, 2) rfl
theorem dX7_init_727 : decode cX7_init 727 = .ok (.iastore, 1) := ax_dec dX7_init_q14_ok 28 (727, .iastore, 1) rfl
theorem dX7_init_728 : decode cX7_init 728 = .ok (.dup, 1) := ax_dec dX7_init_q14_ok 29 (728, .dup, 1) rfl
theorem dX7_init_729 : decode cX7_init 729 = .ok (.bipush 25, 2) := ax_dec dX7_init_q14_ok 30 (729, .bipush 25, 2) rfl
theorem dX7_init_731 : decode cX7_init 731 = .ok (.bipush 111, 2) := ax_dec dX7_init_q14_ok 31 (731, .bipush 111, 2) rfl
def dX7_init_q15 : List (Nat × (Instr × Nat)) := [(733, .iastore, 1), (734, .dup, 1), (735, .bipush 26, 2), (737, .bipush 111, 2), (739, .iastore, 1), (740, .dup, 1), (741, .bipush 27, 2), (743, .bipush 116, 2), (745, .iastore, 1), (746, .dup, 1), (747, .bipush 28, 2), (749, .bipush 32, 2), (751, .iastore, 1), (752, .dup, 1), (753, .bipush 29, 2), (755, .bipush 32, 2), (757, .iastore, 1), (758, .dup, 1), (759, .bipush 30, 2), (761, .bipush 32, 2), (763, .iastore, 1), (764, .dup, 1), (765, .bipush 31, 2), (767, .bipush 32, 2), (769, .iastore, 1), (770, .dup, 1), (771, .bipush 32, 2), (773, .bipush 119, 2), (775, .iastore, 1), (776, .dup, 1), (777, .bipush 33, 2), (779, .bipush 105, 2)]
set_option maxRecDepth 100000 in
theorem dX7_init_q15_ok : ax_decs cX7_init dX7_init_q15 = true := by decide +kernel
theorem dX7_init_733 : decode cX7_init 733 = .ok (.iastore, 1) := ax_dec dX7_init_q15_ok 0 (733, .iastore, 1) rfl
theorem dX7_init_734 : decode cX7_init 734 = .ok (.dup, 1) := ax_dec dX7_init_q15_ok 1 (734, .dup, 1) rfl
theorem dX7_init_735 : decode cX7_init 735 = .ok (.bipush 26, 2) := ax_dec dX7_init_q15_ok 2 (735, .bipush 26, 2) rfl
theorem dX7_init_737 : decode cX7_init 737 = .ok (.bipush 111, 2) := ax_dec dX7_init_q15_ok 3 (737, .bipush 111, 2) rfl
theorem dX7_init_739 : decode cX7_init 739 = .ok (.iastore, 1) := ax_dec dX7_init_q15_ok 4 (739, .iastore, 1) rfl
theorem dX7_init_740 : decode cX7_init 740 = .ok (.dup, 1) := ax_dec dX7_init_q15_ok 5 (740, .dup, 1) rfl
theorem dX7_init_741 : decode cX7_init 741 = .ok (.bipush 27, 2) := ax_dec dX7_init_q15_ok 6 (741, .bipush 27, 2) rfl
theorem dX7_init_743 : decode cX7_init 743 = .ok (.bipush 116, 2) := ax_dec dX7_init_q15_ok 7 (743, .bipush 116, 2) rfl
theorem dX7_init_745 : decode cX7_init 745 = .ok (.iastore, 1) := ax_dec dX7_init_q15_ok 8 (745, .iastore, 1) rfl
theorem dX7_init_746 : decode cX7_init 746 = .ok (.dup, 1) := ax_dec dX7_init_q15_ok 9 (746, .dup, 1) rfl
theorem dX7_init_747 : decode cX7_init 747 = .ok (.bipush 28, 2) := ax_dec dX7_init_q15_ok 10 (747, .bipush 28, 2) rfl
theorem dX7_init_749 : decode cX7_init 749 = .ok (.bipush 32, 2) := ax_dec dX7_init_q15_ok 11 (749, .bipush 32, 2) rfl
theorem dX7_init_751 : decode cX7_init 751 = .ok (.iastore, 1) := ax_dec dX7_init_q15_ok 12 (751, .iastore, 1) rfl
theorem dX7_init_752 : decode cX7_init 752 = .ok (.dup, 1) := ax_dec dX7_init_q15_ok 13 (752, .dup, 1) rfl
theorem dX7_init_753 : decode cX7_init 753 = .ok (.bipush 29, 2) := ax_dec dX7_init_q15_ok 14 (753, .bipush 29, 2) rfl
theorem dX7_init_755 : decode cX7_init 755 = .ok (.bipush 32, 2) := ax_dec dX7_init_q15_ok 15 (755, .bipush 32, 2) rfl
theorem dX7_init_757 : decode cX7_init 757 = .ok (.iastore, 1) := ax_dec dX7_init_q15_ok 16 (757, .iastore, 1) rfl
theorem dX7_init_758 : decode cX7_init 758 = .ok (.dup, 1) := ax_dec dX7_init_q15_ok 17 (758, .dup, 1) rfl
theorem dX7_init_759 : decode cX7_init 759 = .ok (.bipush 30, 2) := ax_dec dX7_init_q15_ok 18 (759, .bipush 30, 2) rfl
theorem dX7_init_761 : decode cX7_init 761 = .ok (.bipush 32, 2) := ax_dec dX7_init_q15_ok 19 (761, .bipush 32, 2) rfl
theorem dX7_init_763 : decode cX7_init 763 = .ok (.iastore, 1) := ax_dec dX7_init_q15_ok 20 (763, .iastore, 1) rfl
theorem dX7_init_764 : decode cX7_init 764 = .ok (.dup, 1) := ax_dec dX7_init_q15_ok 21 (764, .dup, 1) rfl
theorem dX7_init_765 : decode cX7_init 765 = .ok (.bipush 31, 2) := ax_dec dX7_init_q15_ok 22 (765, .bipush 31, 2) rfl
theorem dX7_init_767 : decode cX7_init 767 = .ok (.bipush 32, 2) := ax_dec dX7_init_q15_ok 23 (767, .bipush 32, 2) rfl
theorem dX7_init_769 : decode cX7_init 769 = .ok (.iastore, 1) := ax_dec dX7_init_q15_ok 24 (769, .iastore, 1) rfl
theorem dX7_init_770 : decode cX7_init 770 = .ok (.dup, 1) := ax_dec dX7_init_q15_ok 25 (770, .dup, 1) rfl
theorem dX7_init_771 : decode cX7_init 771 = .ok (.bipush 32, 2) := ax_dec dX7_init_q15_ok 26 (771, .bipush 32, 2) rfl
theorem dX7_init_773 : decode cX7_init 773 = .ok (.bipush 119, 2) := ax_dec dX7_init_q15_ok 27 (773, .bipush 119, 2) rfl
theorem dX7_init_775 : decode cX7_init 775 = .ok (.iastore, 1) := ax_dec dX7_init_q15_ok 28 (775, .iastore, 1) rfl
theorem dX7_init_776 : decode cX7_init 776 = .ok (.dup, 1) := ax_dec dX7_init_q15_ok 29 (776, .dup, 1) rfl
theorem dX7_init_777 : decode cX7_init 777 = .ok (.bipush 33, 2) := ax_dec dX7_init_q15_ok 30 (777, .bipush 33, 2) rfl
theorem dX7_init_779 : decode cX7_init 779 = .ok (.bipush 105, 2) := ax_dec dX7_init_q15_ok 31 (779, .bipush 105, 2) rfl
def dX7_init_q16 : List (Nat × (Instr × Nat)) := [(781, .iastore, 1), (782, .dup, 1), (783, .bipush 34, 2), (785, .bipush 100, 2), (787, .iastore, 1), (788, .dup, 1), (789, .bipush 35, 2), (791, .bipush 101, 2), (793, .iastore, 1), (794, .dup, 1), (795, .bipush 36, 2), (797, .bipush 32, 2), (799, .iastore, 1), (800, .dup, 1), (801, .bipush 37, 2), (803, .bipush 32, 2), (805, .iastore, 1), (806, .dup, 1), (807, .bipush 38, 2), (809, .bipush 32, 2), (811, .iastore, 1), (812, .dup, 1), (813, .bipush 39, 2), (815, .bipush 32, 2), (817, .iastore, 1), (818, .dup, 1), (819, .bipush 40, 2), (821, .bipush 98, 2), (823, .iastore, 1), (824, .dup, 1), (825, .bipush 41, 2), (827, .bipush 101, 2)]
set_option maxRecDepth 100000 in
theorem dX7_init_q16_ok : ax_decs cX7_init dX7_init_q16 = true := by decide +kernel
theorem dX7_init_781 : decode cX7_init 781 = .ok (.iastore, 1) := ax_dec dX7_init_q16_ok 0 (781, .iastore, 1) rfl
theorem dX7_init_782 : decode cX7_init 782 = .ok (.dup, 1) := ax_dec dX7_init_q16_ok 1 (782, .dup, 1) rfl
theorem dX7_init_783 : decode cX7_init 783 = .ok (.bipush 34, 2) := ax_dec dX7_init_q16_ok 2 (783, .bipush 34, 2) rfl
theorem dX7_init_785 : decode cX7_init 785 = .ok (.bipush 100, 2) := ax_dec dX7_init_q16_ok 3 (785, .bipush 100, 2) rfl
theorem dX7_init_787 : decode cX7_init 787 = .ok (.iastore, 1) := ax_dec dX7_init_q16_ok 4 (787, .iastore, 1) rfl
theorem dX7_init_788 : decode cX7_init 788 = .ok (.dup, 1) := ax_dec dX7_init_q16_ok 5 (788, .dup, 1) rfl
theorem dX7_init_789 : decode cX7_init 789 = .ok (.bipush 35, 2) := ax_dec dX7_init_q16_ok 6 (789, .bipush 35, 2) rfl
theorem dX7_init_791 : decode cX7_init 791 = .ok (.bipush 101, 2) := ax_dec dX7_init_q16_ok 7 (791, .bipush 101, 2) rfl
theorem dX7_init_793 : decode cX7_init 793 = .ok (.iastore, 1) := ax_dec dX7_init_q16_ok 8 (793, .iastore, 1) rfl
theorem dX7_init_794 : decode cX7_init 794 = .ok (.dup, 1) := ax_dec dX7_init_q16_ok 9 (794, .dup, 1) rfl
theorem dX7_init_795 : decode cX7_init 795 = .ok (.bipush 36, 2) := ax_dec dX7_init_q16_ok 10 (795, .bipush 36, 2) rfl
theorem dX7_init_797 : decode cX7_init 797 = .ok (.bipush 32, 2) := ax_dec dX7_init_q16_ok 11 (797, .bipush 32, 2) rfl
theorem dX7_init_799 : decode cX7_init 799 = .ok (.iastore, 1) := ax_dec dX7_init_q16_ok 12 (799, .iastore, 1) rfl
theorem dX7_init_800 : decode cX7_init 800 = .ok (.dup, 1) := ax_dec dX7_init_q16_ok 13 (800, .dup, 1) rfl
theorem dX7_init_801 : decode cX7_init 801 = .ok (.bipush 37, 2) := ax_dec dX7_init_q16_ok 14 (801, .bipush 37, 2) rfl
theorem dX7_init_803 : decode cX7_init 803 = .ok (.bipush 32, 2) := ax_dec dX7_init_q16_ok 15 (803, .bipush 32, 2) rfl
theorem dX7_init_805 : decode cX7_init 805 = .ok (.iastore, 1) := ax_dec dX7_init_q16_ok 16 (805, .iastore, 1) rfl
theorem dX7_init_806 : decode cX7_init 806 = .ok (.dup, 1) := ax_dec dX7_init_q16_ok 17 (806, .dup, 1) rfl
theorem dX7_init_807 : decode cX7_init 807 = .ok (.bipush 38, 2) := ax_dec dX7_init_q16_ok 18 (807, .bipush 38, 2) rfl
theorem dX7_init_809 : decode cX7_init 809 = .ok (.bipush 32, 2) := ax_dec dX7_init_q16_ok 19 (809, .bipush 32, 2) rfl
theorem dX7_init_811 : decode cX7_init 811 = .ok (.iastore, 1) := ax_dec dX7_init_q16_ok 20 (811, .iastore, 1) rfl
theorem dX7_init_812 : decode cX7_init 812 = .ok (.dup, 1) := ax_dec dX7_init_q16_ok 21 (812, .dup, 1) rfl
theorem dX7_init_813 : decode cX7_init 813 = .ok (.bipush 39, 2) := ax_dec dX7_init_q16_ok 22 (813, .bipush 39, 2) rfl
theorem dX7_init_815 : decode cX7_init 815 = .ok (.bipush 32, 2) := ax_dec dX7_init_q16_ok 23 (815, .bipush 32, 2) rfl
theorem dX7_init_817 : decode cX7_init 817 = .ok (.iastore, 1) := ax_dec dX7_init_q16_ok 24 (817, .iastore, 1) rfl
theorem dX7_init_818 : decode cX7_init 818 = .ok (.dup, 1) := ax_dec dX7_init_q16_ok 25 (818, .dup, 1) rfl
theorem dX7_init_819 : decode cX7_init 819 = .ok (.bipush 40, 2) := ax_dec dX7_init_q16_ok 26 (819, .bipush 40, 2) rfl
theorem dX7_init_821 : decode cX7_init 821 = .ok (.bipush 98, 2) := ax_dec dX7_init_q16_ok 27 (821, .bipush 98, 2) rfl
theorem dX7_init_823 : decode cX7_init 823 = .ok (.iastore, 1) := ax_dec dX7_init_q16_ok 28 (823, .iastore, 1) rfl
theorem dX7_init_824 : decode cX7_init 824 = .ok (.dup, 1) := ax_dec dX7_init_q16_ok 29 (824, .dup, 1) rfl
theorem dX7_init_825 : decode cX7_init 825 = .ok (.bipush 41, 2) := ax_dec dX7_init_q16_ok 30 (825, .bipush 41, 2) rfl
theorem dX7_init_827 : decode cX7_init 827 = .ok (.bipush 101, 2) := ax_dec dX7_init_q16_ok 31 (827, .bipush 101, 2) rfl
def dX7_init_q17 : List (Nat × (Instr × Nat)) := [(829, .iastore, 1), (830, .dup, 1), (831, .bipush 42, 2), (833, .bipush 110, 2), (835, .iastore, 1), (836, .dup, 1), (837, .bipush 43, 2), (839, .bipush 100, 2), (841, .iastore, 1), (842, .dup, 1), (843, .bipush 44, 2), (845, .bipush 32, 2), (847, .iastore, 1), (848, .dup, 1), (849, .bipush 45, 2), (851, .bipush 32, 2), (853, .iastore, 1), (854, .dup, 1), (855, .bipush 46, 2), (857, .bipush 32, 2), (859, .iastore, 1), (860, .dup, 1), (861, .bipush 47, 2), (863, .bipush 32, 2), (865, .iastore, 1), (866, .dup, 1), (867, .bipush 48, 2), (869, .bipush 109, 2), (871, .iastore, 1), (872, .dup, 1), (873, .bipush 49, 2), (875, .bipush 111, 2)]
set_option maxRecDepth 100000 in
theorem dX7_init_q17_ok : ax_decs cX7_init dX7_init_q17 = true := by decide +kernel
theorem dX7_init_829 : decode cX7_init 829 = .ok (.iastore, 1) := ax_dec dX7_init_q17_ok 0 (829, .iastore, 1) rfl
theorem dX7_init_830 : decode cX7_init 830 = .ok (.dup, 1) := ax_dec dX7_init_q17_ok 1 (830, .dup, 1) rfl
theorem dX7_init_831 : decode cX7_init 831 = .ok (.bipush 42, 2) := ax_dec dX7_init_q17_ok 2 (831, .bipush 42, 2) rfl
theorem dX7_init_833 : decode cX7_init 833 = .ok (.bipush 110, 2) := ax_dec dX7_init_q17_ok 3 (833, .bipush 110, 2) rfl
theorem dX7_init_835 : decode cX7_init 835 = .ok (.iastore, 1) := ax_dec dX7_init_q17_ok 4 (835, .iastore, 1) rfl
theorem dX7_init_836 : decode cX7_init 836 = .ok (.dup, 1) := ax_dec dX7_init_q17_ok 5 (836, .dup, 1) rfl
theorem dX7_init_837 : decode cX7_init 837 = .ok (.bipush 43, 2) := ax_dec dX7_init_q17_ok 6 (837, .bipush 43, 2) rfl
theorem dX7_init_839 : decode cX7_init 839 = .ok (.bipush 100, 2) := ax_dec dX7_init_q17_ok 7 (839, .bipush 100, 2) rfl
theorem dX7_init_841 : decode cX7_init 841 = .ok (.iastore, 1) := ax_dec dX7_init_q17_ok 8 (841, .iastore, 1) rfl
theorem dX7_init_842 : decode cX7_init 842 = .ok (.dup, 1) := ax_dec dX7_init_q17_ok 9 (842, .dup, 1) rfl
theorem dX7_init_843 : decode cX7_init 843 = .ok (.bipush 44, 2) := ax_dec dX7_init_q17_ok 10 (843, .bipush 44, 2) rfl
theorem dX7_init_845 : decode cX7_init 845 = .ok (.bipush 32, 2) := ax_dec dX7_init_q17_ok 11 (845, .bipush 32, 2) rfl
theorem dX7_init_847 : decode cX7_init 847 = .ok (.iastore, 1) := ax_dec dX7_init_q17_ok 12 (847, .iastore, 1) rfl
theorem dX7_init_848 : decode cX7_init 848 = .ok (.dup, 1) := ax_dec dX7_init_q17_ok 13 (848, .dup, 1) rfl
theorem dX7_init_849 : decode cX7_init 849 = .ok (.bipush 45, 2) := ax_dec dX7_init_q17_ok 14 (849, .bipush 45, 2) rfl
theorem dX7_init_851 : decode cX7_init 851 = .ok (.bipush 32, 2) := ax_dec dX7_init_q17_ok 15 (851, .bipush 32, 2) rfl
theorem dX7_init_853 : decode cX7_init 853 = .ok (.iastore, 1) := ax_dec dX7_init_q17_ok 16 (853, .iastore, 1) rfl
theorem dX7_init_854 : decode cX7_init 854 = .ok (.dup, 1) := ax_dec dX7_init_q17_ok 17 (854, .dup, 1) rfl
theorem dX7_init_855 : decode cX7_init 855 = .ok (.bipush 46, 2) := ax_dec dX7_init_q17_ok 18 (855, .bipush 46, 2) rfl
theorem dX7_init_857 : decode cX7_init 857 = .ok (.bipush 32, 2) := ax_dec dX7_init_q17_ok 19 (857, .bipush 32, 2) rfl
theorem dX7_init_859 : decode cX7_init 859 = .ok (.iastore, 1) := ax_dec dX7_init_q17_ok 20 (859, .iastore, 1) rfl
theorem dX7_init_860 : decode cX7_init 860 = .ok (.dup, 1) := ax_dec dX7_init_q17_ok 21 (860, .dup, 1) rfl
theorem dX7_init_861 : decode cX7_init 861 = .ok (.bipush 47, 2) := ax_dec dX7_init_q17_ok 22 (861, .bipush 47, 2) rfl
theorem dX7_init_863 : decode cX7_init 863 = .ok (.bipush 32, 2) := ax_dec dX7_init_q17_ok 23 (863, .bipush 32, 2) rfl
theorem dX7_init_865 : decode cX7_init 865 = .ok (.iastore, 1) := ax_dec dX7_init_q17_ok 24 (865, .iastore, 1) rfl
theorem dX7_init_866 : decode cX7_init 866 = .ok (.dup, 1) := ax_dec dX7_init_q17_ok 25 (866, .dup, 1) rfl
theorem dX7_init_867 : decode cX7_init 867 = .ok (.bipush 48, 2) := ax_dec dX7_init_q17_ok 26 (867, .bipush 48, 2) rfl
theorem dX7_init_869 : decode cX7_init 869 = .ok (.bipush 109, 2) := ax_dec dX7_init_q17_ok 27 (869, .bipush 109, 2) rfl
theorem dX7_init_871 : decode cX7_init 871 = .ok (.iastore, 1) := ax_dec dX7_init_q17_ok 28 (871, .iastore, 1) rfl
theorem dX7_init_872 : decode cX7_init 872 = .ok (.dup, 1) := ax_dec dX7_init_q17_ok 29 (872, .dup, 1) rfl
theorem dX7_init_873 : decode cX7_init 873 = .ok (.bipush 49, 2) := ax_dec dX7_init_q17_ok 30 (873, .bipush 49, 2) rfl
theorem dX7_init_875 : decode cX7_init 875 = .ok (.bipush 111, 2) := ax_dec dX7_init_q17_ok 31 (875, .bipush 111, 2) rfl
def dX7_init_q18 : List (Nat × (Instr × Nat)) := [(877, .iastore, 1), (878, .dup, 1), (879, .bipush 50, 2), (881, .bipush 114, 2), (883, .iastore, 1), (884, .dup, 1), (885, .bipush 51, 2), (887, .bipush 101, 2), (889, .iastore, 1), (890, .dup, 1), (891, .bipush 52, 2), (893, .bipush 32, 2), (895, .iastore, 1), (896, .dup, 1), (897, .bipush 53, 2), (899, .bipush 32, 2), (901, .iastore, 1), (902, .dup, 1), (903, .bipush 54, 2), (905, .bipush 32, 2), (907, .iastore, 1), (908, .dup, 1), (909, .bipush 55, 2), (911, .bipush 32, 2), (913, .iastore, 1), (914, .dup, 1), (915, .bipush 56, 2), (917, .bipush 104, 2), (919, .iastore, 1), (920, .dup, 1), (921, .bipush 57, 2), (923, .bipush 101, 2)]
set_option maxRecDepth 100000 in
theorem dX7_init_q18_ok : ax_decs cX7_init dX7_init_q18 = true := by decide +kernel
theorem dX7_init_877 : decode cX7_init 877 = .ok (.iastore, 1) := ax_dec dX7_init_q18_ok 0 (877, .iastore, 1) rfl
theorem dX7_init_878 : decode cX7_init 878 = .ok (.dup, 1) := ax_dec dX7_init_q18_ok 1 (878, .dup, 1) rfl
theorem dX7_init_879 : decode cX7_init 879 = .ok (.bipush 50, 2) := ax_dec dX7_init_q18_ok 2 (879, .bipush 50, 2) rfl
theorem dX7_init_881 : decode cX7_init 881 = .ok (.bipush 114, 2) := ax_dec dX7_init_q18_ok 3 (881, .bipush 114, 2) rfl
theorem dX7_init_883 : decode cX7_init 883 = .ok (.iastore, 1) := ax_dec dX7_init_q18_ok 4 (883, .iastore, 1) rfl
theorem dX7_init_884 : decode cX7_init 884 = .ok (.dup, 1) := ax_dec dX7_init_q18_ok 5 (884, .dup, 1) rfl
theorem dX7_init_885 : decode cX7_init 885 = .ok (.bipush 51, 2) := ax_dec dX7_init_q18_ok 6 (885, .bipush 51, 2) rfl
theorem dX7_init_887 : decode cX7_init 887 = .ok (.bipush 101, 2) := ax_dec dX7_init_q18_ok 7 (887, .bipush 101, 2) rfl
theorem dX7_init_889 : decode cX7_init 889 = .ok (.iastore, 1) := ax_dec dX7_init_q18_ok 8 (889, .iastore, 1) rfl
theorem dX7_init_890 : decode cX7_init 890 = .ok (.dup, 1) := ax_dec dX7_init_q18_ok 9 (890, .dup, 1) rfl
theorem dX7_init_891 : decode cX7_init 891 = .ok (.bipush 52, 2) := ax_dec dX7_init_q18_ok 10 (891, .bipush 52, 2) rfl
theorem dX7_init_893 : decode cX7_init 893 = .ok (.bipush 32, 2) := ax_dec dX7_init_q18_ok 11 (893, .bipush 32, 2) rfl
theorem dX7_init_895 : decode cX7_init 895 = .ok (.iastore, 1) := ax_dec dX7_init_q18_ok 12 (895, .iastore, 1) rfl
theorem dX7_init_896 : decode cX7_init 896 = .ok (.dup, 1) := ax_dec dX7_init_q18_ok 13 (896, .dup, 1) rfl
theorem dX7_init_897 : decode cX7_init 897 = .ok (.bipush 53, 2) := ax_dec dX7_init_q18_ok 14 (897, .bipush 53, 2) rfl
theorem dX7_init_899 : decode cX7_init 899 = .ok (.bipush 32, 2) := ax_dec dX7_init_q18_ok 15 (899, .bipush 32, 2) rfl
theorem dX7_init_901 : decode cX7_init 901 = .ok (.iastore, 1) := ax_dec dX7_init_q18_ok 16 (901, .iastore, 1) rfl
theorem dX7_init_902 : decode cX7_init 902 = .ok (.dup, 1) := ax_dec dX7_init_q18_ok 17 (902, .dup, 1) rfl
theorem dX7_init_903 : decode cX7_init 903 = .ok (.bipush 54, 2) := ax_dec dX7_init_q18_ok 18 (903, .bipush 54, 2) rfl
theorem dX7_init_905 : decode cX7_init 905 = .ok (.bipush 32, 2) := ax_dec dX7_init_q18_ok 19 (905, .bipush 32, 2) rfl
theorem dX7_init_907 : decode cX7_init 907 = .ok (.iastore, 1) := ax_dec dX7_init_q18_ok 20 (907, .iastore, 1) rfl
theorem dX7_init_908 : decode cX7_init 908 = .ok (.dup, 1) := ax_dec dX7_init_q18_ok 21 (908, .dup, 1) rfl
theorem dX7_init_909 : decode cX7_init 909 = .ok (.bipush 55, 2) := ax_dec dX7_init_q18_ok 22 (909, .bipush 55, 2) rfl
theorem dX7_init_911 : decode cX7_init 911 = .ok (.bipush 32, 2) := ax_dec dX7_init_q18_ok 23 (911, .bipush 32, 2) rfl
theorem dX7_init_913 : decode cX7_init 913 = .ok (.iastore, 1) := ax_dec dX7_init_q18_ok 24 (913, .iastore, 1) rfl
theorem dX7_init_914 : decode cX7_init 914 = .ok (.dup, 1) := ax_dec dX7_init_q18_ok 25 (914, .dup, 1) rfl
theorem dX7_init_915 : decode cX7_init 915 = .ok (.bipush 56, 2) := ax_dec dX7_init_q18_ok 26 (915, .bipush 56, 2) rfl
theorem dX7_init_917 : decode cX7_init 917 = .ok (.bipush 104, 2) := ax_dec dX7_init_q18_ok 27 (917, .bipush 104, 2) rfl
theorem dX7_init_919 : decode cX7_init 919 = .ok (.iastore, 1) := ax_dec dX7_init_q18_ok 28 (919, .iastore, 1) rfl
theorem dX7_init_920 : decode cX7_init 920 = .ok (.dup, 1) := ax_dec dX7_init_q18_ok 29 (920, .dup, 1) rfl
theorem dX7_init_921 : decode cX7_init 921 = .ok (.bipush 57, 2) := ax_dec dX7_init_q18_ok 30 (921, .bipush 57, 2) rfl
theorem dX7_init_923 : decode cX7_init 923 = .ok (.bipush 101, 2) := ax_dec dX7_init_q18_ok 31 (923, .bipush 101, 2) rfl
def dX7_init_q19 : List (Nat × (Instr × Nat)) := [(925, .iastore, 1), (926, .dup, 1), (927, .bipush 58, 2), (929, .bipush 97, 2), (931, .iastore, 1), (932, .dup, 1), (933, .bipush 59, 2), (935, .bipush 116, 2), (937, .iastore, 1), (938, .dup, 1), (939, .bipush 60, 2), (941, .bipush 32, 2), (943, .iastore, 1), (944, .dup, 1), (945, .bipush 61, 2), (947, .bipush 32, 2), (949, .iastore, 1), (950, .dup, 1), (951, .bipush 62, 2), (953, .bipush 32, 2), (955, .iastore, 1), (956, .dup, 1), (957, .bipush 63, 2), (959, .bipush 32, 2), (961, .iastore, 1), (962, .dup, 1), (963, .bipush 64, 2), (965, .bipush 119, 2), (967, .iastore, 1), (968, .dup, 1), (969, .bipush 65, 2), (971, .bipush 101, 2)]
set_option maxRecDepth 100000 in
theorem dX7_init_q19_ok : ax_decs cX7_init dX7_init_q19 = true := by decide +kernel
theorem dX7_init_925 : decode cX7_init 925 = .ok (.iastore, 1) := ax_dec dX7_init_q19_ok 0 (925, .iastore, 1) rfl
theorem dX7_init_926 : decode cX7_init 926 = .ok (.dup, 1) := ax_dec dX7_init_q19_ok 1 (926, .dup, 1) rfl
theorem dX7_init_927 : decode cX7_init 927 = .ok (.bipush 58, 2) := ax_dec dX7_init_q19_ok 2 (927, .bipush 58, 2) rfl
theorem dX7_init_929 : decode cX7_init 929 = .ok (.bipush 97, 2) := ax_dec dX7_init_q19_ok 3 (929, .bipush 97, 2) rfl
theorem dX7_init_931 : decode cX7_init 931 = .ok (.iastore, 1) := ax_dec dX7_init_q19_ok 4 (931, .iastore, 1) rfl
theorem dX7_init_932 : decode cX7_init 932 = .ok (.dup, 1) := ax_dec dX7_init_q19_ok 5 (932, .dup, 1) rfl
theorem dX7_init_933 : decode cX7_init 933 = .ok (.bipush 59, 2) := ax_dec dX7_init_q19_ok 6 (933, .bipush 59, 2) rfl
theorem dX7_init_935 : decode cX7_init 935 = .ok (.bipush 116, 2) := ax_dec dX7_init_q19_ok 7 (935, .bipush 116, 2) rfl
theorem dX7_init_937 : decode cX7_init 937 = .ok (.iastore, 1) := ax_dec dX7_init_q19_ok 8 (937, .iastore, 1) rfl
theorem dX7_init_938 : decode cX7_init 938 = .ok (.dup, 1) := ax_dec dX7_init_q19_ok 9 (938, .dup, 1) rfl
theorem dX7_init_939 : decode cX7_init 939 = .ok (.bipush 60, 2) := ax_dec dX7_init_q19_ok 10 (939, .bipush 60, 2) rfl
theorem dX7_init_941 : decode cX7_init 941 = .ok (.bipush 32, 2) := ax_dec dX7_init_q19_ok 11 (941, .bipush 32, 2) rfl
theorem dX7_init_943 : decode cX7_init 943 = .ok (.iastore, 1) := ax_dec dX7_init_q19_ok 12 (943, .iastore, 1) rfl
theorem dX7_init_944 : decode cX7_init 944 = .ok (.dup, 1) := ax_dec dX7_init_q19_ok 13 (944, .dup, 1) rfl
theorem dX7_init_945 : decode cX7_init 945 = .ok (.bipush 61, 2) := ax_dec dX7_init_q19_ok 14 (945, .bipush 61, 2) rfl
theorem dX7_init_947 : decode cX7_init 947 = .ok (.bipush 32, 2) := ax_dec dX7_init_q19_ok 15 (947, .bipush 32, 2) rfl
theorem dX7_init_949 : decode cX7_init 949 = .ok (.iastore, 1) := ax_dec dX7_init_q19_ok 16 (949, .iastore, 1) rfl
theorem dX7_init_950 : decode cX7_init 950 = .ok (.dup, 1) := ax_dec dX7_init_q19_ok 17 (950, .dup, 1) rfl
theorem dX7_init_951 : decode cX7_init 951 = .ok (.bipush 62, 2) := ax_dec dX7_init_q19_ok 18 (951, .bipush 62, 2) rfl
theorem dX7_init_953 : decode cX7_init 953 = .ok (.bipush 32, 2) := ax_dec dX7_init_q19_ok 19 (953, .bipush 32, 2) rfl
theorem dX7_init_955 : decode cX7_init 955 = .ok (.iastore, 1) := ax_dec dX7_init_q19_ok 20 (955, .iastore, 1) rfl
theorem dX7_init_956 : decode cX7_init 956 = .ok (.dup, 1) := ax_dec dX7_init_q19_ok 21 (956, .dup, 1) rfl
theorem dX7_init_957 : decode cX7_init 957 = .ok (.bipush 63, 2) := ax_dec dX7_init_q19_ok 22 (957, .bipush 63, 2) rfl
theorem dX7_init_959 : decode cX7_init 959 = .ok (.bipush 32, 2) := ax_dec dX7_init_q19_ok 23 (959, .bipush 32, 2) rfl
theorem dX7_init_961 : decode cX7_init 961 = .ok (.iastore, 1) := ax_dec dX7_init_q19_ok 24 (961, .iastore, 1) rfl
theorem dX7_init_962 : decode cX7_init 962 = .ok (.dup, 1) := ax_dec dX7_init_q19_ok 25 (962, .dup, 1) rfl
theorem dX7_init_963 : decode cX7_init 963 = .ok (.bipush 64, 2) := ax_dec dX7_init_q19_ok 26 (963, .bipush 64, 2) rfl
theorem dX7_init_965 : decode cX7_init 965 = .ok (.bipush 119, 2) := ax_dec dX7_init_q19_ok 27 (965, .bipush 119, 2) rfl
theorem dX7_init_967 : decode cX7_init 967 = .ok (.iastore, 1) := ax_dec dX7_init_q19_ok 28 (967, .iastore, 1) rfl
theorem dX7_init_968 : decode cX7_init 968 = .ok (.dup, 1) := ax_dec dX7_init_q19_ok 29 (968, .dup, 1) rfl
theorem dX7_init_969 : decode cX7_init 969 = .ok (.bipush 65, 2) := ax_dec dX7_init_q19_ok 30 (969, .bipush 65, 2) rfl
theorem dX7_init_971 : decode cX7_init 971 = .ok (.bipush 101, 2) := ax_dec dX7_init_q19_ok 31 (971, .bipush 101, 2) rfl
def dX7_init_q20 : List (Nat × (Instr × Nat)) := [(973, .iastore, 1), (974, .dup, 1), (975, .bipush 66, 2), (977, .bipush 116, 2), (979, .iastore, 1), (980, .dup, 1), (981, .bipush 67, 2), (983, .bipush 32, 2), (985, .iastore, 1), (986, .dup, 1), (987, .bipush 68, 2), (989, .bipush 32, 2), (991, .iastore, 1), (992, .dup, 1), (993, .bipush 69, 2), (995, .bipush 32, 2), (997, .iastore, 1), (998, .dup, 1), (999, .bipush 70, 2), (1001, .bipush 32, 2), (1003, .iastore, 1), (1004, .dup, 1), (1005, .bipush 71, 2), (1007, .bipush 32, 2), (1009, .iastore, 1), (1010, .dup, 1), (1011, .bipush 72, 2), (1013, .bipush 111, 2), (1015, .iastore, 1), (1016, .dup, 1), (1017, .bipush 73, 2), (1019, .bipush 114, 2)]
set_option maxRecDepth 100000 in
theorem dX7_init_q20_ok : ax_decs cX7_init dX7_init_q20 = true := by decide +kernel
theorem dX7_init_973 : decode cX7_init 973 = .ok (.iastore, 1) := ax_dec dX7_init_q20_ok 0 (973, .iastore, 1) rfl
theorem dX7_init_974 : decode cX7_init 974 = .ok (.dup, 1) := ax_dec dX7_init_q20_ok 1 (974, .dup, 1) rfl
theorem dX7_init_975 : decode cX7_init 975 = .ok (.bipush 66, 2) := ax_dec dX7_init_q20_ok 2 (975, .bipush 66, 2) rfl
theorem dX7_init_977 : decode cX7_init 977 = .ok (.bipush 116, 2) := ax_dec dX7_init_q20_ok 3 (977, .bipush 116, 2) rfl
theorem dX7_init_979 : decode cX7_init 979 = .ok (.iastore, 1) := ax_dec dX7_init_q20_ok 4 (979, .iastore, 1) rfl
theorem dX7_init_980 : decode cX7_init 980 = .ok (.dup, 1) := ax_dec dX7_init_q20_ok 5 (980, .dup, 1) rfl
theorem dX7_init_981 : decode cX7_init 981 = .ok (.bipush 67, 2) := ax_dec dX7_init_q20_ok 6 (981, .bipush 67, 2) rfl
theorem dX7_init_983 : decode cX7_init 983 = .ok (.bipush 32, 2) := ax_dec dX7_init_q20_ok 7 (983, .bipush 32, 2) rfl
theorem dX7_init_985 : decode cX7_init 985 = .ok (.iastore, 1) := ax_dec dX7_init_q20_ok 8 (985, .iastore, 1) rfl
theorem dX7_init_986 : decode cX7_init 986 = .ok (.dup, 1) := ax_dec dX7_init_q20_ok 9 (986, .dup, 1) rfl
theorem dX7_init_987 : decode cX7_init 987 = .ok (.bipush 68, 2) := ax_dec dX7_init_q20_ok 10 (987, .bipush 68, 2) rfl
theorem dX7_init_989 : decode cX7_init 989 = .ok (.bipush 32, 2) := ax_dec dX7_init_q20_ok 11 (989, .bipush 32, 2) rfl
theorem dX7_init_991 : decode cX7_init 991 = .ok (.iastore, 1) := ax_dec dX7_init_q20_ok 12 (991, .iastore, 1) rfl
theorem dX7_init_992 : decode cX7_init 992 = .ok (.dup, 1) := ax_dec dX7_init_q20_ok 13 (992, .dup, 1) rfl
theorem dX7_init_993 : decode cX7_init 993 = .ok (.bipush 69, 2) := ax_dec dX7_init_q20_ok 14 (993, .bipush 69, 2) rfl
theorem dX7_init_995 : decode cX7_init 995 = .ok (.bipush 32, 2) := ax_dec dX7_init_q20_ok 15 (995, .bipush 32, 2) rfl
theorem dX7_init_997 : decode cX7_init 997 = .ok (.iastore, 1) := ax_dec dX7_init_q20_ok 16 (997, .iastore, 1) rfl
theorem dX7_init_998 : decode cX7_init 998 = .ok (.dup, 1) := ax_dec dX7_init_q20_ok 17 (998, .dup, 1) rfl
theorem dX7_init_999 : decode cX7_init 999 = .ok (.bipush 70, 2) := ax_dec dX7_init_q20_ok 18 (999, .bipush 70, 2) rfl
theorem dX7_init_1001 : decode cX7_init 1001 = .ok (.bipush 32, 2) := ax_dec dX7_init_q20_ok 19 (1001, .bipush 32, 2) rfl
theorem dX7_init_1003 : decode cX7_init 1003 = .ok (.iastore, 1) := ax_dec dX7_init_q20_ok 20 (1003, .iastore, 1) rfl
theorem dX7_init_1004 : decode cX7_init 1004 = .ok (.dup, 1) := ax_dec dX7_init_q20_ok 21 (1004, .dup, 1) rfl
theorem dX7_init_1005 : decode cX7_init 1005 = .ok (.bipush 71, 2) := ax_dec dX7_init_q20_ok 22 (1005, .bipush 71, 2) rfl
theorem dX7_init_1007 : decode cX7_init 1007 = .ok (.bipush 32, 2) := ax_dec dX7_init_q20_ok 23 (1007, .bipush 32, 2) rfl
theorem dX7_init_1009 : decode cX7_init 1009 = .ok (.iastore, 1) := ax_dec dX7_init_q20_ok 24 (1009, .iastore, 1) rfl
theorem dX7_init_1010 : decode cX7_init 1010 = .ok (.dup, 1) := ax_dec dX7_init_q20_ok 25 (1010, .dup, 1) rfl
theorem dX7_init_1011 : decode cX7_init 1011 = .ok (.bipush 72, 2) := ax_dec dX7_init_q20_ok 26 (1011, .bipush 72, 2) rfl
theorem dX7_init_1013 : decode cX7_init 1013 = .ok (.bipush 111, 2) := ax_dec dX7_init_q20_ok 27 (1013, .bipush 111, 2) rfl
theorem dX7_init_1015 : decode cX7_init 1015 = .ok (.iastore, 1) := ax_dec dX7_init_q20_ok 28 (1015, .iastore, 1) rfl
theorem dX7_init_1016 : decode cX7_init 1016 = .ok (.dup, 1) := ax_dec dX7_init_q20_ok 29 (1016, .dup, 1) rfl
theorem dX7_init_1017 : decode cX7_init 1017 = .ok (.bipush 73, 2) := ax_dec dX7_init_q20_ok 30 (1017, .bipush 73, 2) rfl
theorem dX7_init_1019 : decode cX7_init 1019 = .ok (.bipush 114, 2) := ax_dec dX7_init_q20_ok 31 (1019, .bipush 114, 2) rfl
def dX7_init_q21 : List (Nat × (Instr × Nat)) := [(1021, .iastore, 1), (1022, .dup, 1), (1023, .bipush 74, 2), (1025, .bipush 32, 2), (1027, .iastore, 1), (1028, .dup, 1), (1029, .bipush 75, 2), (1031, .bipush 32, 2), (1033, .iastore, 1), (1034, .dup, 1), (1035, .bipush 76, 2), (1037, .bipush 32, 2), (1039, .iastore, 1), (1040, .dup, 1), (1041, .bipush 77, 2), (1043, .bipush 32, 2), (1045, .iastore, 1), (1046, .dup, 1), (1047, .bipush 78, 2), (1049, .bipush 32, 2), (1051, .iastore, 1), (1052, .dup, 1), (1053, .bipush 79, 2), (1055, .bipush 32, 2), (1057, .iastore, 1), (1058, .dup, 1), (1059, .bipush 80, 2), (1061, .bipush 97, 2), (1063, .iastore, 1), (1064, .dup, 1), (1065, .bipush 81, 2), (1067, .bipush 110, 2)]
set_option maxRecDepth 100000 in
theorem dX7_init_q21_ok : ax_decs cX7_init dX7_init_q21 = true := by decide +kernel
theorem dX7_init_1021 : decode cX7_init 1021 = .ok (.iastore, 1) := ax_dec dX7_init_q21_ok 0 (1021, .iastore, 1) rfl
theorem dX7_init_1022 : decode cX7_init 1022 = .ok (.dup, 1) := ax_dec dX7_init_q21_ok 1 (1022, .dup, 1) rfl
theorem dX7_init_1023 : decode cX7_init 1023 = .ok (.bipush 74, 2) := ax_dec dX7_init_q21_ok 2 (1023, .bipush 74, 2) rfl
theorem dX7_init_1025 : decode cX7_init 1025 = .ok (.bipush 32, 2) := ax_dec dX7_init_q21_ok 3 (1025, .bipush 32, 2) rfl
theorem dX7_init_1027 : decode cX7_init 1027 = .ok (.iastore, 1) := ax_dec dX7_init_q21_ok 4 (1027, .iastore, 1) rfl
theorem dX7_init_1028 : decode cX7_init 1028 = .ok (.dup, 1) := ax_dec dX7_init_q21_ok 5 (1028, .dup, 1) rfl
theorem dX7_init_1029 : decode cX7_init 1029 = .ok (.bipush 75, 2) := ax_dec dX7_init_q21_ok 6 (1029, .bipush 75, 2) rfl
theorem dX7_init_1031 : decode cX7_init 1031 = .ok (.bipush 32, 2) := ax_dec dX7_init_q21_ok 7 (1031, .bipush 32, 2) rfl
theorem dX7_init_1033 : decode cX7_init 1033 = .ok (.iastore, 1) := ax_dec dX7_init_q21_ok 8 (1033, .iastore, 1) rfl
theorem dX7_init_1034 : decode cX7_init 1034 = .ok (.dup, 1) := ax_dec dX7_init_q21_ok 9 (1034, .dup, 1) rfl
theorem dX7_init_1035 : decode cX7_init 1035 = .ok (.bipush 76, 2) := ax_dec dX7_init_q21_ok 10 (1035, .bipush 76, 2) rfl
theorem dX7_init_1037 : decode cX7_init 1037 = .ok (.bipush 32, 2) := ax_dec dX7_init_q21_ok 11 (1037, .bipush 32, 2) rfl
theorem dX7_init_1039 : decode cX7_init 1039 = .ok (.iastore, 1) := ax_dec dX7_init_q21_ok 12 (1039, .iastore, 1) rfl
theorem dX7_init_1040 : decode cX7_init 1040 = .ok (.dup, 1) := ax_dec dX7_init_q21_ok 13 (1040, .dup, 1) rfl
theorem dX7_init_1041 : decode cX7_init 1041 = .ok (.bipush 77, 2) := ax_dec dX7_init_q21_ok 14 (1041, .bipush 77, 2) rfl
theorem dX7_init_1043 : decode cX7_init 1043 = .ok (.bipush 32, 2) := ax_dec dX7_init_q21_ok 15 (1043, .bipush 32, 2) rfl
theorem dX7_init_1045 : decode cX7_init 1045 = .ok (.iastore, 1) := ax_dec dX7_init_q21_ok 16 (1045, .iastore, 1) rfl
theorem dX7_init_1046 : decode cX7_init 1046 = .ok (.dup, 1) := ax_dec dX7_init_q21_ok 17 (1046, .dup, 1) rfl
theorem dX7_init_1047 : decode cX7_init 1047 = .ok (.bipush 78, 2) := ax_dec dX7_init_q21_ok 18 (1047, .bipush 78, 2) rfl
theorem dX7_init_1049 : decode cX7_init 1049 = .ok (.bipush 32, 2) := ax_dec dX7_init_q21_ok 19 (1049, .bipush 32, 2) rfl
theorem dX7_init_1051 : decode cX7_init 1051 = .ok (.iastore, 1) := ax_dec dX7_init_q21_ok 20 (1051, .iastore, 1) rfl
theorem dX7_init_1052 : decode cX7_init 1052 = .ok (.dup, 1) := ax_dec dX7_init_q21_ok 21 (1052, .dup, 1) rfl
theorem dX7_init_1053 : decode cX7_init 1053 = .ok (.bipush 79, 2) := ax_dec dX7_init_q21_ok 22 (1053, .bipush 79, 2) rfl
theorem dX7_init_1055 : decode cX7_init 1055 = .ok (.bipush 32, 2) := ax_dec dX7_init_q21_ok 23 (1055, .bipush 32, 2) rfl
theorem dX7_init_1057 : decode cX7_init 1057 = .ok (.iastore, 1) := ax_dec dX7_init_q21_ok 24 (1057, .iastore, 1) rfl
theorem dX7_init_1058 : decode cX7_init 1058 = .ok (.dup, 1) := ax_dec dX7_init_q21_ok 25 (1058, .dup, 1) rfl
theorem dX7_init_1059 : decode cX7_init 1059 = .ok (.bipush 80, 2) := ax_dec dX7_init_q21_ok 26 (1059, .bipush 80, 2) rfl
theorem dX7_init_1061 : decode cX7_init 1061 = .ok (.bipush 97, 2) := ax_dec dX7_init_q21_ok 27 (1061, .bipush 97, 2) rfl
theorem dX7_init_1063 : decode cX7_init 1063 = .ok (.iastore, 1) := ax_dec dX7_init_q21_ok 28 (1063, .iastore, 1) rfl
theorem dX7_init_1064 : decode cX7_init 1064 = .ok (.dup, 1) := ax_dec dX7_init_q21_ok 29 (1064, .dup, 1) rfl
theorem dX7_init_1065 : decode cX7_init 1065 = .ok (.bipush 81, 2) := ax_dec dX7_init_q21_ok 30 (1065, .bipush 81, 2) rfl
theorem dX7_init_1067 : decode cX7_init 1067 = .ok (.bipush 110, 2) := ax_dec dX7_init_q21_ok 31 (1067, .bipush 110, 2) rfl
def dX7_init_q22 : List (Nat × (Instr × Nat)) := [(1069, .iastore, 1), (1070, .dup, 1), (1071, .bipush 82, 2), (1073, .bipush 100, 2), (1075, .iastore, 1), (1076, .dup, 1), (1077, .bipush 83, 2), (1079, .bipush 32, 2), (1081, .iastore, 1), (1082, .dup, 1), (1083, .bipush 84, 2), (1085, .bipush 32, 2), (1087, .iastore, 1), (1088, .dup, 1), (1089, .bipush 85, 2), (1091, .bipush 32, 2), (1093, .iastore, 1), (1094, .dup, 1), (1095, .bipush 86, 2), (1097, .bipush 32, 2), (1099, .iastore, 1), (1100, .dup, 1), (1101, .bipush 87, 2), (1103, .bipush 32, 2), (1105, .iastore, 1), (1106, .dup, 1), (1107, .bipush 88, 2), (1109, .bipush 110, 2), (1111, .iastore, 1), (1112, .dup, 1), (1113, .bipush 89, 2), (1115, .bipush 111, 2)]
set_option maxRecDepth 100000 in
theorem dX7_init_q22_ok : ax_decs cX7_init dX7_init_q22 = true := by decide +kernel
theorem dX7_init_1069 : decode cX7_init 1069 = .ok (.iastore, 1) := ax_dec dX7_init_q22_ok 0 (1069, .iastore, 1) rfl
theorem dX7_init_1070 : decode cX7_init 1070 = .ok (.dup, 1) := ax_dec dX7_init_q22_ok 1 (1070, .dup, 1) rfl
theorem dX7_init_1071 : decode cX7_init 1071 = .ok (.bipush 82, 2) := ax_dec dX7_init_q22_ok 2 (1071, .bipush 82, 2) rfl
theorem dX7_init_1073 : decode cX7_init 1073 = .ok (.bipush 100, 2) := ax_dec dX7_init_q22_ok 3 (1073, .bipush 100, 2) rfl
theorem dX7_init_1075 : decode cX7_init 1075 = .ok (.iastore, 1) := ax_dec dX7_init_q22_ok 4 (1075, .iastore, 1) rfl
theorem dX7_init_1076 : decode cX7_init 1076 = .ok (.dup, 1) := ax_dec dX7_init_q22_ok 5 (1076, .dup, 1) rfl
theorem dX7_init_1077 : decode cX7_init 1077 = .ok (.bipush 83, 2) := ax_dec dX7_init_q22_ok 6 (1077, .bipush 83, 2) rfl
theorem dX7_init_1079 : decode cX7_init 1079 = .ok (.bipush 32, 2) := ax_dec dX7_init_q22_ok 7 (1079, .bipush 32, 2) rfl
theorem dX7_init_1081 : decode cX7_init 1081 = .ok (.iastore, 1) := ax_dec dX7_init_q22_ok 8 (1081, .iastore, 1) rfl
theorem dX7_init_1082 : decode cX7_init 1082 = .ok (.dup, 1) := ax_dec dX7_init_q22_ok 9 (1082, .dup, 1) rfl
theorem dX7_init_1083 : decode cX7_init 1083 = .ok (.bipush 84, 2) := ax_dec dX7_init_q22_ok 10 (1083, .bipush 84, 2) rfl
theorem dX7_init_1085 : decode cX7_init 1085 = .ok (.bipush 32, 2) := ax_dec dX7_init_q22_ok 11 (1085, .bipush 32, 2) rfl
theorem dX7_init_1087 : decode cX7_init 1087 = .ok (.iastore, 1) := ax_dec dX7_init_q22_ok 12 (1087, .iastore, 1) rfl
theorem dX7_init_1088 : decode cX7_init 1088 = .ok (.dup, 1) := ax_dec dX7_init_q22_ok 13 (1088, .dup, 1) rfl
theorem dX7_init_1089 : decode cX7_init 1089 = .ok (.bipush 85, 2) := ax_dec dX7_init_q22_ok 14 (1089, .bipush 85, 2) rfl
theorem dX7_init_1091 : decode cX7_init 1091 = .ok (.bipush 32, 2) := ax_dec dX7_init_q22_ok 15 (1091, .bipush 32, 2) rfl
theorem dX7_init_1093 : decode cX7_init 1093 = .ok (.iastore, 1) := ax_dec dX7_init_q22_ok 16 (1093, .iastore, 1) rfl
theorem dX7_init_1094 : decode cX7_init 1094 = .ok (.dup, 1) := ax_dec dX7_init_q22_ok 17 (1094, .dup, 1) rfl
theorem dX7_init_1095 : decode cX7_init 1095 = .ok (.bipush 86, 2) := ax_dec dX7_init_q22_ok 18 (1095, .bipush 86, 2) rfl
theorem dX7_init_1097 : decode cX7_init 1097 = .ok (.bipush 32, 2) := ax_dec dX7_init_q22_ok 19 (1097, .bipush 32, 2) rfl
theorem dX7_init_1099 : decode cX7_init 1099 = .ok (.iastore, 1) := ax_dec dX7_init_q22_ok 20 (1099, .iastore, 1) rfl
theorem dX7_init_1100 : decode cX7_init 1100 = .ok (.dup, 1) := ax_dec dX7_init_q22_ok 21 (1100, .dup, 1) rfl
theorem dX7_init_1101 : decode cX7_init 1101 = .ok (.bipush 87, 2) := ax_dec dX7_init_q22_ok 22 (1101, .bipush 87, 2) rfl
theorem dX7_init_1103 : decode cX7_init 1103 = .ok (.bipush 32, 2) := ax_dec dX7_init_q22_ok 23 (1103, .bipush 32, 2) rfl
theorem dX7_init_1105 : decode cX7_init 1105 = .ok (.iastore, 1) := ax_dec dX7_init_q22_ok 24 (1105, .iastore, 1) rfl
theorem dX7_init_1106 : decode cX7_init 1106 = .ok (.dup, 1) := ax_dec dX7_init_q22_ok 25 (1106, .dup, 1) rfl
theorem dX7_init_1107 : decode cX7_init 1107 = .ok (.bipush 88, 2) := ax_dec dX7_init_q22_ok 26 (1107, .bipush 88, 2) rfl
theorem dX7_init_1109 : decode cX7_init 1109 = .ok (.bipush 110, 2) := ax_dec dX7_init_q22_ok 27 (1109, .bipush 110, 2) rfl
theorem dX7_init_1111 : decode cX7_init 1111 = .ok (.iastore, 1) := ax_dec dX7_init_q22_ok 28 (1111, .iastore, 1) rfl
theorem dX7_init_1112 : decode cX7_init 1112 = .ok (.dup, 1) := ax_dec dX7_init_q22_ok 29 (1112, .dup, 1) rfl
theorem dX7_init_1113 : decode cX7_init 1113 = .ok (.bipush 89, 2) := ax_dec dX7_init_q22_ok 30 (1113, .bipush 89, 2) rfl
theorem dX7_init_1115 : decode cX7_init 1115 = .ok (.bipush 111, 2) := ax_dec dX7_init_q22_ok 31 (1115, .bipush 111, 2) rfl
def dX7_init_q23 : List (Nat × (Instr × Nat)) := [(1117, .iastore, 1), (1118, .dup, 1), (1119, .bipush 90, 2), (1121, .bipush 116, 2), (1123, .iastore, 1), (1124, .dup, 1), (1125, .bipush 91, 2), (1127, .bipush 32, 2), (1129, .iastore, 1), (1130, .dup, 1), (1131, .bipush 92, 2), (1133, .bipush 32, 2), (1135, .iastore, 1), (1136, .dup, 1), (1137, .bipush 93, 2), (1139, .bipush 32, 2), (1141, .iastore, 1), (1142, .dup, 1), (1143, .bipush 94, 2), (1145, .bipush 32, 2), (1147, .iastore, 1), (1148, .dup, 1), (1149, .bipush 95, 2), (1151, .bipush 32, 2), (1153, .iastore, 1), (1154, .putfield 55, 3), (1157, .aload_n 0, 1), (1158, .sipush 200, 3), (1161, .newarray .int, 2), (1163, .putfield 58, 3), (1166, .aload_n 0, 1), (1167, .sipush 200, 3)]
set_option maxRecDepth 100000 in
theorem dX7_init_q23_ok : ax_decs cX7_init dX7_init_q23 = true := by decide +kernel
theorem dX7_init_1117 : decode cX7_init 1117 = .ok (.iastore, 1) := ax_dec dX7_init_q23_ok 0 (1117, .iastore, 1) rfl
theorem dX7_init_1118 : decode cX7_init 1118 = .ok (.dup, 1) := ax_dec dX7_init_q23_ok 1 (1118, .dup, 1) rfl
theorem dX7_init_1119 : decode cX7_init 1119 = .ok (.bipush 90, 2) := ax_dec dX7_init_q23_ok 2 (1119, .bipush 90, 2) rfl
theorem dX7_init_1121 : decode cX7_init 1121 = .ok (.bipush 116, 2) := ax_dec dX7_init_q23_ok 3 (1121, .bipush 116, 2) rfl
theorem dX7_init_1123 : decode cX7_init 1123 = .ok (.iastore, 1) := ax_dec dX7_init_q23_ok 4 (1123, .iastore, 1) rfl
theorem dX7_init_1124 : decode cX7_init 1124 = .ok (.dup, 1) := ax_dec dX7_init_q23_ok 5 (1124, .dup, 1) rfl
theorem dX7_init_1125 : decode cX7_init 1125 = .ok (.bipush 91, 2) := ax_dec dX7_init_q23_ok 6 (1125, .bipush 91, 2) rfl
theorem dX7_init_1127 : decode cX7_init 1127 = .ok (.bipush 32, 2) := ax_dec dX7_init_q23_ok 7 (1127, .bipush 32, 2) rfl
theorem dX7_init_1129 : decode cX7_init 1129 = .ok (.iastore, 1) := ax_dec dX7_init_q23_ok 8 (1129, .iastore, 1) rfl
theorem dX7_init_1130 : decode cX7_init 1130 = .ok (.dup, 1) := ax_dec dX7_init_q23_ok 9 (1130, .dup, 1) rfl
theorem dX7_init_1131 : decode cX7_init 1131 = .ok (.bipush 92, 2) := ax_dec dX7_init_q23_ok 10 (1131, .bipush 92, 2) rfl
theorem dX7_init_1133 : decode cX7_init 1133 = .ok (.bipush 32, 2) := ax_dec dX7_init_q23_ok 11 (1133, .bipush 32, 2) rfl
theorem dX7_init_1135 : decode cX7_init 1135 = .ok (.iastore, 1) := ax_dec dX7_init_q23_ok 12 (1135, .iastore, 1) rfl
theorem dX7_init_1136 : decode cX7_init 1136 = .ok (.dup, 1) := ax_dec dX7_init_q23_ok 13 (1136, .dup, 1) rfl
theorem dX7_init_1137 : decode cX7_init 1137 = .ok (.bipush 93, 2) := ax_dec dX7_init_q23_ok 14 (1137, .bipush 93, 2) rfl
theorem dX7_init_1139 : decode cX7_init 1139 = .ok (.bipush 32, 2) := ax_dec dX7_init_q23_ok 15 (1139, .bipush 32, 2) rfl
theorem dX7_init_1141 : decode cX7_init 1141 = .ok (.iastore, 1) := ax_dec dX7_init_q23_ok 16 (1141, .iastore, 1) rfl
theorem dX7_init_1142 : decode cX7_init 1142 = .ok (.dup, 1) := ax_dec dX7_init_q23_ok 17 (1142, .dup, 1) rfl
theorem dX7_init_1143 : decode cX7_init 1143 = .ok (.bipush 94, 2) := ax_dec dX7_init_q23_ok 18 (1143, .bipush 94, 2) rfl
theorem dX7_init_1145 : decode cX7_init 1145 = .ok (.bipush 32, 2) := ax_dec dX7_init_q23_ok 19 (1145, .bipush 32, 2) rfl
theorem dX7_init_1147 : decode cX7_init 1147 = .ok (.iastore, 1) := ax_dec dX7_init_q23_ok 20 (1147, .iastore, 1) rfl
theorem dX7_init_1148 : decode cX7_init 1148 = .ok (.dup, 1) := ax_dec dX7_init_q23_ok 21 (1148, .dup, 1) rfl
theorem dX7_init_1149 : decode cX7_init 1149 = .ok (.bipush 95, 2) := ax_dec dX7_init_q23_ok 22 (1149, .bipush 95, 2) rfl
theorem dX7_init_1151 : decode cX7_init 1151 = .ok (.bipush 32, 2) := ax_dec dX7_init_q23_ok 23 (1151, .bipush 32, 2) rfl
theorem dX7_init_1153 : decode cX7_init 1153 = .ok (.iastore, 1) := ax_dec dX7_init_q23_ok 24 (1153, .iastore, 1) rfl
theorem dX7_init_1154 : decode cX7_init 1154 = .ok (.putfield 55, 3) := ax_dec dX7_init_q23_ok 25 (1154, .putfield 55, 3) rfl
theorem dX7_init_1157 : decode cX7_init 1157 = .ok (.aload_n 0, 1) := ax_dec dX7_init_q23_ok 26 (1157, .aload_n 0, 1) rfl
theorem dX7_init_1158 : decode cX7_init 1158 = .ok (.sipush 200, 3) := ax_dec dX7_init_q23_ok 27 (1158, .sipush 200, 3) rfl
theorem dX7_init_1161 : decode cX7_init 1161 = .ok (.newarray .int, 2) := ax_dec dX7_init_q23_ok 28 (1161, .newarray .int, 2) rfl
theorem dX7_init_1163 : decode cX7_init 1163 = .ok (.putfield 58, 3) := ax_dec dX7_init_q23_ok 29 (1163, .putfield 58, 3) rfl
theorem dX7_init_1166 : decode cX7_init 1166 = .ok (.aload_n 0, 1) := ax_dec dX7_init_q23_ok 30 (1166, .aload_n 0, 1) rfl
theorem dX7_init_1167 : decode cX7_init 1167 = .ok (.sipush 200, 3) := ax_dec dX7_init_q23_ok 31 (1167, .sipush 200, 3) rfl
def dX7_init_q24 : List (Nat × (Instr × Nat)) := [(1170, .newarray .int, 2), (1172, .putfield 61, 3), (1175, .aload_n 0, 1), (1176, .bipush 6, 2), (1178, .newarray .int, 2), (1180, .putfield 64, 3), (1183, .aload_n 0, 1), (1184, .bipush 10, 2), (1186, .newarray .int, 2), (1188, .putfield 67, 3), (1191, .aload_n 0, 1), (1192, .iconst 4, 1), (1193, .newarray .int, 2), (1195, .putfield 70, 3), (1198, .aload_n 0, 1), (1199, .iconst 4, 1), (1200, .newarray .int, 2), (1202, .putfield 73, 3), (1205, .iconst 0, 1), (1206, .istore_n 1, 1), (1207, .iload_n 1, 1), (1208, .bipush 74, 2), (1210, .if_icmp .ge 21, 3), (1213, .aload_n 0, 1), (1214, .getfield 31, 3), (1217, .iload_n 1, 1), (1218, .aload_n 0, 1), (1219, .getfield 52, 3), (1222, .iload_n 1, 1), (1223, .iaload, 1), (1224, .iastore, 1), (1225, .iinc 1 1, 3)]
set_option maxRecDepth 100000 in
theorem dX7_init_q24_ok : ax_decs cX7_init dX7_init_q24 = true := by decide +kernel
theorem dX7_init_1170 : decode cX7_init 1170 = .ok (.newarray .int, 2) := ax_dec dX7_init_q24_ok 0 (1170, .newarray .int, 2) rfl
theorem dX7_init_1172 : decode cX7_init 1172 = .ok (.putfield 61, 3) := ax_dec dX7_init_q24_ok 1 (1172, .putfield 61, 3) rfl
theorem dX7_init_1175 : decode cX7_init 1175 = .ok (.aload_n 0, 1) := ax_dec dX7_init_q24_ok 2 (1175, .aload_n 0, 1) rfl
theorem dX7_init_1176 : decode cX7_init 1176 = .ok (.bipush 6, 2) := ax_dec dX7_init_q24_ok 3 (1176, .bipush 6, 2) rfl
theorem dX7_init_1178 : decode cX7_init 1178 = .ok (.newarray .int, 2) := ax_dec dX7_init_q24_ok 4 (1178, .newarray .int, 2) rfl
theorem dX7_init_1180 : decode cX7_init 1180 = .ok (.putfield 64, 3) := ax_dec dX7_init_q24_ok 5 (1180, .putfield 64, 3) rfl
theorem dX7_init_1183 : decode cX7_init 1183 = .ok (.aload_n 0, 1) := ax_dec dX7_init_q24_ok 6 (1183, .aload_n 0, 1) rfl
theorem dX7_init_1184 : decode cX7_init 1184 = .ok (.bipush 10, 2) := ax_dec dX7_init_q24_ok 7 (1184, .bipush 10, 2) rfl
theorem dX7_init_1186 : decode cX7_init 1186 = .ok (.newarray .int, 2) := ax_dec dX7_init_q24_ok 8 (1186, .newarray .int, 2) rfl
theorem dX7_init_1188 : decode cX7_init 1188 = .ok (.putfield 67, 3) := ax_dec dX7_init_q24_ok 9 (1188, .putfield 67, 3) rfl
theorem dX7_init_1191 : decode cX7_init 1191 = .ok (.aload_n 0, 1) := ax_dec dX7_init_q24_ok 10 (1191, .aload_n 0, 1) rfl
theorem dX7_init_1192 : decode cX7_init 1192 = .ok (.iconst 4, 1) := ax_dec dX7_init_q24_ok 11 (1192, .iconst 4, 1) rfl
theorem dX7_init_1193 : decode cX7_init 1193 = .ok (.newarray .int, 2) := ax_dec dX7_init_q24_ok 12 (1193, .newarray .int, 2) rfl
theorem dX7_init_1195 : decode cX7_init 1195 = .ok (.putfield 70, 3) := ax_dec dX7_init_q24_ok 13 (1195, .putfield 70, 3) rfl
theorem dX7_init_1198 : decode cX7_init 1198 = .ok (.aload_n 0, 1) := ax_dec dX7_init_q24_ok 14 (1198, .aload_n 0, 1) rfl
theorem dX7_init_1199 : decode cX7_init 1199 = .ok (.iconst 4, 1) := ax_dec dX7_init_q24_ok 15 (1199, .iconst 4, 1) rfl
theorem dX7_init_1200 : decode cX7_init 1200 = .ok (.newarray .int, 2) := ax_dec dX7_init_q24_ok 16 (1200, .newarray .int, 2) rfl
theorem dX7_init_1202 : decode cX7_init 1202 = .ok (.putfield 73, 3) := ax_dec dX7_init_q24_ok 17 (1202, .putfield 73, 3) rfl
theorem dX7_init_1205 : decode cX7_init 1205 = .ok (.iconst 0, 1) := ax_dec dX7_init_q24_ok 18 (1205, .iconst 0, 1) rfl
theorem dX7_init_1206 : decode cX7_init 1206 = .ok (.istore_n 1, 1) := ax_dec dX7_init_q24_ok 19 (1206, .istore_n 1, 1) rfl
theorem dX7_init_1207 : decode cX7_init 1207 = .ok (.iload_n 1, 1) := ax_dec dX7_init_q24_ok 20 (1207, .iload_n 1, 1) rfl
theorem dX7_init_1208 : decode cX7_init 1208 = .ok (.bipush 74, 2) := ax_dec dX7_init_q24_ok 21 (1208, .bipush 74, 2) rfl
theorem dX7_init_1210 : decode cX7_init 1210 = .ok (.if_icmp .ge 21, 3) := ax_dec dX7_init_q24_ok 22 (1210, .if_icmp .ge 21, 3) rfl
theorem dX7_init_1213 : decode cX7_init 1213 = .ok (.aload_n 0, 1) := ax_dec dX7_init_q24_ok 23 (1213, .aload_n 0, 1) rfl
theorem dX7_init_1214 : decode cX7_init 1214 = .ok (.getfield 31, 3) := ax_dec dX7_init_q24_ok 24 (1214, .getfield 31, 3) rfl
theorem dX7_init_1217 : decode cX7_init 1217 = .ok (.iload_n 1, 1) := ax_dec dX7_init_q24_ok 25 (1217, .iload_n 1, 1) rfl
theorem dX7_init_1218 : decode cX7_init 1218 = .ok (.aload_n 0, 1) := ax_dec dX7_init_q24_ok 26 (1218, .aload_n 0, 1) rfl
theorem dX7_init_1219 : decode cX7_init 1219 = .ok (.getfield 52, 3) := ax_dec dX7_init_q24_ok 27 (1219, .getfield 52, 3) rfl
theorem dX7_init_1222 : decode cX7_init 1222 = .ok (.iload_n 1, 1) := ax_dec dX7_init_q24_ok 28 (1222, .iload_n 1, 1) rfl
theorem dX7_init_1223 : decode cX7_init 1223 = .ok (.iaload, 1) := ax_dec dX7_init_q24_ok 29 (1223, .iaload, 1) rfl
theorem dX7_init_1224 : decode cX7_init 1224 = .ok (.iastore, 1) := ax_dec dX7_init_q24_ok 30 (1224, .iastore, 1) rfl
theorem dX7_init_1225 : decode cX7_init 1225 = .ok (.iinc 1 1, 3) := ax_dec dX7_init_q24_ok 31 (1225, .iinc 1 1, 3) rfl
def dX7_init_q25 : List (Nat × (Instr × Nat)) := [(1228, .goto (-21), 3), (1231, .aload_n 0, 1), (1232, .bipush 74, 2), (1234, .putfield 76, 3), (1237, .aload_n 0, 1), (1238, .invokevirtual 80, 3), (1241, .pop, 1), (1242, .return_, 1)]
set_option maxRecDepth 100000 in
theorem dX7_init_q25_ok : ax_decs cX7_init dX7_init_q25 = true := by decide +kernel
theorem dX7_init_1228 : decode cX7_init 1228 = .ok (.goto (-21), 3) := ax_dec dX7_init_q25_ok 0 (1228, .goto (-21), 3) rfl
theorem dX7_init_1231 : decode cX7_init 1231 = .ok (.aload_n 0, 1) := ax_dec dX7_init_q25_ok 1 (1231, .aload_n 0, 1) rfl
theorem dX7_init_1232 : decode cX7_init 1232 = .ok (.bipush 74, 2) := ax_dec dX7_init_q25_ok 2 (1232, .bipush 74, 2) rfl
theorem dX7_init_1234 : decode cX7_init 1234 = .ok (.putfield 76, 3) := ax_dec dX7_init_q25_ok 3 (1234, .putfield 76, 3) rfl
theorem dX7_init_1237 : decode cX7_init 1237 = .ok (.aload_n 0, 1) := ax_dec dX7_init_q25_ok 4 (1237, .aload_n 0, 1) rfl
theorem dX7_init_1238 : decode cX7_init 1238 = .ok (.invokevirtual 80, 3) := ax_dec dX7_init_q25_ok 5 (1238, .invokevirtual 80, 3) rfl
theorem dX7_init_1241 : decode cX7_init 1241 = .ok (.pop, 1) := ax_dec dX7_init_q25_ok 6 (1241, .pop, 1) rfl
theorem dX7_init_1242 : decode cX7_init 1242 = .ok (.return_, 1) := ax_dec dX7_init_q25_ok 7 (1242, .return_, 1) rfl
def dX7_in_q0 : List (Nat × (Instr × Nat)) := [(0, .iload_n 0, 1), (1, .iload_n 1, 1), (2, .if_icmp .lt 12, 3), (5, .iload_n 0, 1), (6, .iload_n 2, 1), (7, .if_icmp .gt 7, 3), (10, .iconst 1, 1), (11, .goto 4, 3), (14, .iconst 0, 1), (15, .ireturn, 1)]
set_option maxRecDepth 100000 in
theorem dX7_in_q0_ok : ax_decs cX7_in dX7_in_q0 = true := by decide +kernel
theorem dX7_in_0 : decode cX7_in 0 = .ok (.iload_n 0, 1) := ax_dec dX7_in_q0_ok 0 (0, .iload_n 0, 1) rfl
theorem dX7_in_1 : decode cX7_in 1 = .ok (.iload_n 1, 1) := ax_dec dX7_in_q0_ok 1 (1, .iload_n 1, 1) rfl
theorem dX7_in_2 : decode cX7_in 2 = .ok (.if_icmp .lt 12, 3) := ax_dec dX7_in_q0_ok 2 (2, .if_icmp .lt 12, 3) rfl
theorem dX7_in_5 : decode cX7_in 5 = .ok (.iload_n 0, 1) := ax_dec dX7_in_q0_ok 3 (5, .iload_n 0, 1) rfl
theorem dX7_in_6 : decode cX7_in 6 = .ok (.iload_n 2, 1) := ax_dec dX7_in_q0_ok 4 (6, .iload_n 2, 1) rfl
theorem dX7_in_7 : decode cX7_in 7 = .ok (.if_icmp .gt 7, 3) := ax_dec dX7_in_q0_ok 5 (7, .if_icmp .gt 7, 3) rfl
theorem dX7_in_10 : decode cX7_in 10 = .ok (.iconst 1, 1) := ax_dec dX7_in_q0_ok 6 (10, .iconst 1, 1) rfl
theorem dX7_in_11 : decode cX7_in 11 = .ok (.goto 4, 3) := ax_dec dX7_in_q0_ok 7 (11, .goto 4, 3) rfl
theorem dX7_in_14 : decode cX7_in 14 = .ok (.iconst 0, 1) := ax_dec dX7_in_q0_ok 8 (14, .iconst 0, 1) rfl
theorem dX7_in_15 : decode cX7_in 15 = .ok (.ireturn, 1) := ax_dec dX7_in_q0_ok 9 (15, .ireturn, 1) rfl
def dX7_within_q0 : List (Nat × (Instr × Nat)) := [(0, .iload_n 0, 1), (1, .iload_n 1, 1), (2, .if_icmp .ge 7, 3), (5, .iload_n 1, 1), (6, .goto 13, 3), (9, .iload_n 0, 1), (10, .iload_n 2, 1), (11, .if_icmp .le 7, 3), (14, .iload_n 2, 1), (15, .goto 4, 3), (18, .iload_n 0, 1), (19, .ireturn, 1)]
set_option maxRecDepth 100000 in
theorem dX7_within_q0_ok : ax_decs cX7_within dX7_within_q0 = true := by decide +kernel
theorem dX7_within_0 : decode cX7_within 0 = .ok (.iload_n 0, 1) := ax_dec dX7_within_q0_ok 0 (0, .iload_n 0, 1) rfl
theorem dX7_within_1 : decode cX7_within 1 = .ok (.iload_n 1, 1) := ax_dec dX7_within_q0_ok 1 (1, .iload_n 1, 1) rfl
theorem dX7_within_2 : decode cX7_within 2 = .ok (.if_icmp .ge 7, 3) := ax_dec dX7_within_q0_ok 2 (2, .if_icmp .ge 7, 3) rfl
theorem dX7_within_5 : decode cX7_within 5 = .ok (.iload_n 1, 1) := ax_dec dX7_within_q0_ok 3 (5, .iload_n 1, 1) rfl
theorem dX7_within_6 : decode cX7_within 6 = .ok (.goto 13, 3) := ax_dec dX7_within_q0_ok 4 (6, .goto 13, 3) rfl
theorem dX7_within_9 : decode cX7_within 9 = .ok (.iload_n 0, 1) := ax_dec dX7_within_q0_ok 5 (9, .iload_n 0, 1) rfl
theorem dX7_within_10 : decode cX7_within 10 = .ok (.iload_n 2, 1) := ax_dec dX7_within_q0_ok 6 (10, .iload_n 2, 1) rfl
theorem dX7_within_11 : decode cX7_within 11 = .ok (.if_icmp .le 7, 3) := ax_dec dX7_within_q0_ok 7 (11, .if_icmp .le 7, 3) rfl
theorem dX7_within_14 : decode cX7_within 14 = .ok (.iload_n 2, 1) := ax_dec dX7_within_q0_ok 8 (14, .iload_n 2, 1) rfl
theorem dX7_within_15 : decode cX7_within 15 = .ok (.goto 4, 3) := ax_dec dX7_within_q0_ok 9 (15, .goto 4, 3) rfl
theorem dX7_within_18 : decode cX7_within 18 = .ok (.iload_n 0, 1) := ax_dec dX7_within_q0_ok 10 (18, .iload_n 0, 1) rfl
theorem dX7_within_19 : decode cX7_within 19 = .ok (.ireturn, 1) := ax_dec dX7_within_q0_ok 11 (19, .ireturn, 1) rfl
def dX7_isBit_q0 : List (Nat × (Instr × Nat)) := [(0, .iload_n 1, 1), (1, .iconst 0, 1), (2, .aload_n 0, 1), (3, .getfield 84, 3), (6, .iconst 1, 1), (7, .isub, 1), (8, .invokestatic 87, 3), (11, .ireturn, 1)]
set_option maxRecDepth 100000 in
theorem dX7_isBit_q0_ok : ax_decs cX7_isBit dX7_isBit_q0 = true := by decide +kernel
theorem dX7_isBit_0 : decode cX7_isBit 0 = .ok (.iload_n 1, 1) := ax_dec dX7_isBit_q0_ok 0 (0, .iload_n 1, 1) rfl
theorem dX7_isBit_1 : decode cX7_isBit 1 = .ok (.iconst 0, 1) := ax_dec dX7_isBit_q0_ok 1 (1, .iconst 0, 1) rfl
theorem dX7_isBit_2 : decode cX7_isBit 2 = .ok (.aload_n 0, 1) := ax_dec dX7_isBit_q0_ok 2 (2, .aload_n 0, 1) rfl
theorem dX7_isBit_3 : decode cX7_isBit 3 = .ok (.getfield 84, 3) := ax_dec dX7_isBit_q0_ok 3 (3, .getfield 84, 3) rfl
theorem dX7_isBit_6 : decode cX7_isBit 6 = .ok (.iconst 1, 1) := ax_dec dX7_isBit_q0_ok 4 (6, .iconst 1, 1) rfl
theorem dX7_isBit_7 : decode cX7_isBit 7 = .ok (.isub, 1) := ax_dec dX7_isBit_q0_ok 5 (7, .isub, 1) rfl
theorem dX7_isBit_8 : decode cX7_isBit 8 = .ok (.invokestatic 87, 3) := ax_dec dX7_isBit_q0_ok 6 (8, .invokestatic 87, 3) rfl
theorem dX7_isBit_11 : decode cX7_isBit 11 = .ok (.ireturn, 1) := ax_dec dX7_isBit_q0_ok 7 (11, .ireturn, 1) rfl
def dX7_isFireplace_q0 : List (Nat × (Instr × Nat)) := [(0, .aload_n 0, 1), (1, .iload_n 1, 1), (2, .invokevirtual 91, 3), (5, .istore_n 2, 1), (6, .iconst 0, 1), (7, .istore_n 3, 1), (8, .iload_n 3, 1), (9, .aload_n 0, 1), (10, .getfield 84, 3), (13, .if_icmp .ge 29, 3), (16, .iload_n 2, 1), (17, .ifCond .eq 17, 3), (20, .aload_n 0, 1), (21, .getfield 7, 3), (24, .iload_n 3, 1), (25, .iaload, 1), (26, .iload_n 1, 1), (27, .if_icmp .eq 7, 3), (30, .iconst 1, 1), (31, .goto 4, 3), (34, .iconst 0, 1), (35, .istore_n 2, 1), (36, .iinc 3 1, 3), (39, .goto (-31), 3), (42, .iload_n 2, 1), (43, .ireturn, 1)]
set_option maxRecDepth 100000 in
theorem dX7_isFireplace_q0_ok : ax_decs cX7_isFireplace dX7_isFireplace_q0 = true := by decide +kernel
theorem dX7_isFireplace_0 : decode cX7_isFireplace 0 = .ok (.aload_n 0, 1) := ax_dec dX7_isFireplace_q0_ok 0 (0, .aload_n 0, 1) rfl
theorem dX7_isFireplace_1 : decode cX7_isFireplace 1 = .ok (.iload_n 1, 1) := ax_dec dX7_isFireplace_q0_ok 1 (1, .iload_n 1, 1) rfl
theorem dX7_isFireplace_2 : decode cX7_isFireplace 2 = .ok (.invokevirtual 91, 3) := ax_dec dX7_isFireplace_q0_ok 2 (2, .invokevirtual 91, 3) rfl
theorem dX7_isFireplace_5 : decode cX7_isFireplace 5 = .ok (.istore_n 2, 1) := ax_dec dX7_isFireplace_q0_ok 3 (5, .istore_n 2, 1) rfl
theorem dX7_isFireplace_6 : decode cX7_isFireplace 6 = .ok (.iconst 0, 1) := ax_dec dX7_isFireplace_q0_ok 4 (6, .iconst 0, 1) rfl
theorem dX7_isFireplace_7 : decode cX7_isFireplace 7 = .ok (.istore_n 3, 1) := ax_dec dX7_isFireplace_q0_ok 5 (7, .istore_n 3, 1) rfl
theorem dX7_isFireplace_8 : decode cX7_isFireplace 8 = .ok (.iload_n 3, 1) := ax_dec dX7_isFireplace_q0_ok 6 (8, .iload_n 3, 1) rfl
theorem dX7_isFireplace_9 : decode cX7_isFireplace 9 = .ok (.aload_n 0, 1) := ax_dec dX7_isFireplace_q0_ok 7 (9, .aload_n 0, 1) rfl
theorem dX7_isFireplace_10 : decode cX7_isFireplace 10 = .ok (.getfield 84, 3) := ax_dec dX7_isFireplace_q0_ok 8 (10, .getfield 84, 3) rfl
theorem dX7_isFireplace_13 : decode cX7_isFireplace 13 = .ok (.if_icmp .ge 29, 3) := ax_dec dX7_isFireplace_q0_ok 9 (13, .if_icmp .ge 29, 3) rfl
theorem dX7_isFireplace_16 : decode cX7_isFireplace 16 = .ok (.iload_n 2, 1) := ax_dec dX7_isFireplace_q0_ok 10 (16, .iload_n 2, 1) rfl
theorem dX7_isFireplace_17 : decode cX7_isFireplace 17 = .ok (.ifCond .eq 17, 3) := ax_dec dX7_isFireplace_q0_ok 11 (17, .ifCond .eq 17, 3) rfl
theorem dX7_isFireplace_20 : decode cX7_isFireplace 20 = .ok (.aload_n 0, 1) := ax_dec dX7_isFireplace_q0_ok 12 (20, .aload_n 0, 1) rfl
theorem dX7_isFireplace_21 : decode cX7_isFireplace 21 = .ok (.getfield 7, 3) := ax_dec dX7_isFireplace_q0_ok 13 (21, .getfield 7, 3) rfl
theorem dX7_isFireplace_24 : decode cX7_isFireplace 24 = .ok (.iload_n 3, 1) := ax_dec dX7_isFireplace_q0_ok 14 (24, .iload_n 3, 1) rfl
theorem dX7_isFireplace_25 : decode cX7_isFireplace 25 = .ok (.iaload, 1) := ax_dec dX7_isFireplace_q0_ok 15 (25, .iaload, 1) rfl
theorem dX7_isFireplace_26 : decode cX7_isFireplace 26 = .ok (.iload_n 1, 1) := ax_dec dX7_isFireplace_q0_ok 16 (26, .iload_n 1, 1) rfl
theorem dX7_isFireplace_27 : decode cX7_isFireplace 27 = .ok (.if_icmp .eq 7, 3) := ax_dec dX7_isFireplace_q0_ok 17 (27, .if_icmp .eq 7, 3) rfl
theorem dX7_isFireplace_30 : decode cX7_isFireplace 30 = .ok (.iconst 1, 1) := ax_dec dX7_isFireplace_q0_ok 18 (30, .iconst 1, 1) rfl
theorem dX7_isFireplace_31 : decode cX7_isFireplace 31 = .ok (.goto 4, 3) := ax_dec dX7_isFireplace_q0_ok 19 (31, .goto 4, 3) rfl
theorem dX7_isFireplace_34 : decode cX7_isFireplace 34 = .ok (.iconst 0, 1) := ax_dec dX7_isFireplace_q0_ok 20 (34, .iconst 0, 1) rfl
theorem dX7_isFireplace_35 : decode cX7_isFireplace 35 = .ok (.istore_n 2, 1) := ax_dec dX7_isFireplace_q0_ok 21 (35, .istore_n 2, 1) rfl
theorem dX7_isFireplace_36 : decode cX7_isFireplace 36 = .ok (.iinc 3 1, 3) := ax_dec dX7_isFireplace_q0_ok 22 (36, .iinc 3 1, 3) rfl
theorem dX7_isFireplace_39 : decode cX7_isFireplace 39 = .ok (.goto (-31), 3) := ax_dec dX7_isFireplace_q0_ok 23 (39, .goto (-31), 3) rfl
theorem dX7_isFireplace_42 : decode cX7_isFireplace 42 = .ok (.iload_n 2, 1) := ax_dec dX7_isFireplace_q0_ok 24 (42, .iload_n 2, 1) rfl
theorem dX7_isFireplace_43 : decode cX7_isFireplace 43 = .ok (.ireturn, 1) := ax_dec dX7_isFireplace_q0_ok 25 (43, .ireturn, 1) rfl
def dX7_isPot_q0 : List (Nat × (Instr × Nat)) := [(0, .aload_n 0, 1), (1, .iload_n 1, 1), (2, .invokevirtual 91, 3), (5, .ifCond .eq 17, 3), (8, .aload_n 0, 1), (9, .getfield 7, 3), (12, .iload_n 1, 1), (13, .iaload, 1), (14, .iconst (-1), 1), (15, .if_icmp .ne 7, 3), (18, .iconst 1, 1), (19, .goto 4, 3), (22, .iconst 0, 1), (23, .ireturn, 1)]
set_option maxRecDepth 100000 in
theorem dX7_isPot_q0_ok : ax_decs cX7_isPot dX7_isPot_q0 = true := by decide +kernel
theorem dX7_isPot_0 : decode cX7_isPot 0 = .ok (.aload_n 0, 1) := ax_dec dX7_isPot_q0_ok 0 (0, .aload_n 0, 1) rfl
theorem dX7_isPot_1 : decode cX7_isPot 1 = .ok (.iload_n 1, 1) := ax_dec dX7_isPot_q0_ok 1 (1, .iload_n 1, 1) rfl
theorem dX7_isPot_2 : decode cX7_isPot 2 = .ok (.invokevirtual 91, 3) := ax_dec dX7_isPot_q0_ok 2 (2, .invokevirtual 91, 3) rfl
theorem dX7_isPot_5 : decode cX7_isPot 5 = .ok (.ifCond .eq 17, 3) := ax_dec dX7_isPot_q0_ok 3 (5, .ifCond .eq 17, 3) rfl
theorem dX7_isPot_8 : decode cX7_isPot 8 = .ok (.aload_n 0, 1) := ax_dec dX7_isPot_q0_ok 4 (8, .aload_n 0, 1) rfl
theorem dX7_isPot_9 : decode cX7_isPot 9 = .ok (.getfield 7, 3) := ax_dec dX7_isPot_q0_ok 5 (9, .getfield 7, 3) rfl
theorem dX7_isPot_12 : decode cX7_isPot 12 = .ok (.iload_n 1, 1) := ax_dec dX7_isPot_q0_ok 6 (12, .iload_n 1, 1) rfl
theorem dX7_isPot_13 : decode cX7_isPot 13 = .ok (.iaload, 1) := ax_dec dX7_isPot_q0_ok 7 (13, .iaload, 1) rfl
theorem dX7_isPot_14 : decode cX7_isPot 14 = .ok (.iconst (-1), 1) := ax_dec dX7_isPot_q0_ok 8 (14, .iconst (-1), 1) rfl
theorem dX7_isPot_15 : decode cX7_isPot 15 = .ok (.if_icmp .ne 7, 3) := ax_dec dX7_isPot_q0_ok 9 (15, .if_icmp .ne 7, 3) rfl
theorem dX7_isPot_18 : decode cX7_isPot 18 = .ok (.iconst 1, 1) := ax_dec dX7_isPot_q0_ok 10 (18, .iconst 1, 1) rfl
theorem dX7_isPot_19 : decode cX7_isPot 19 = .ok (.goto 4, 3) := ax_dec dX7_isPot_q0_ok 11 (19, .goto 4, 3) rfl
theorem dX7_isPot_22 : decode cX7_isPot 22 = .ok (.iconst 0, 1) := ax_dec dX7_isPot_q0_ok 12 (22, .iconst 0, 1) rfl
theorem dX7_isPot_23 : decode cX7_isPot 23 = .ok (.ireturn, 1) := ax_dec dX7_isPot_q0_ok 13 (23, .ireturn, 1) rfl
def dX7_setOf_q0 : List (Nat × (Instr × Nat)) := [(0, .iconst 0, 1), (1, .istore_n 2, 1), (2, .iconst 0, 1), (3, .istore_n 3, 1), (4, .iload_n 3, 1), (5, .aload_n 0, 1), (6, .getfield 84, 3), (9, .if_icmp .ge 43, 3), (12, .iload_n 1, 1), (13, .ifCond .ne 11, 3), (16, .aload_n 0, 1), (17, .iload_n 3, 1), (18, .invokevirtual 95, 3), (21, .goto 8, 3), (24, .aload_n 0, 1), (25, .iload_n 3, 1), (26, .invokevirtual 98, 3), (29, .istore 4, 2), (31, .iload_n 2, 1), (32, .iload 4, 2), (34, .ifCond .eq 9, 3), (37, .iconst 1, 1), (38, .iload_n 3, 1), (39, .ishl, 1), (40, .goto 4, 3), (43, .iconst 0, 1), (44, .ior, 1), (45, .istore_n 2, 1), (46, .iinc 3 1, 3), (49, .goto (-45), 3), (52, .iload_n 2, 1), (53, .ireturn, 1)]
set_option maxRecDepth 100000 in
theorem dX7_setOf_q0_ok : ax_decs cX7_setOf dX7_setOf_q0 = true := by decide +kernel
theorem dX7_setOf_0 : decode cX7_setOf 0 = .ok (.iconst 0, 1) := ax_dec dX7_setOf_q0_ok 0 (0, .iconst 0, 1) rfl
theorem dX7_setOf_1 : decode cX7_setOf 1 = .ok (.istore_n 2, 1) := ax_dec dX7_setOf_q0_ok 1 (1, .istore_n 2, 1) rfl
theorem dX7_setOf_2 : decode cX7_setOf 2 = .ok (.iconst 0, 1) := ax_dec dX7_setOf_q0_ok 2 (2, .iconst 0, 1) rfl
theorem dX7_setOf_3 : decode cX7_setOf 3 = .ok (.istore_n 3, 1) := ax_dec dX7_setOf_q0_ok 3 (3, .istore_n 3, 1) rfl
theorem dX7_setOf_4 : decode cX7_setOf 4 = .ok (.iload_n 3, 1) := ax_dec dX7_setOf_q0_ok 4 (4, .iload_n 3, 1) rfl
theorem dX7_setOf_5 : decode cX7_setOf 5 = .ok (.aload_n 0, 1) := ax_dec dX7_setOf_q0_ok 5 (5, .aload_n 0, 1) rfl
theorem dX7_setOf_6 : decode cX7_setOf 6 = .ok (.getfield 84, 3) := ax_dec dX7_setOf_q0_ok 6 (6, .getfield 84, 3) rfl
theorem dX7_setOf_9 : decode cX7_setOf 9 = .ok (.if_icmp .ge 43, 3) := ax_dec dX7_setOf_q0_ok 7 (9, .if_icmp .ge 43, 3) rfl
theorem dX7_setOf_12 : decode cX7_setOf 12 = .ok (.iload_n 1, 1) := ax_dec dX7_setOf_q0_ok 8 (12, .iload_n 1, 1) rfl
theorem dX7_setOf_13 : decode cX7_setOf 13 = .ok (.ifCond .ne 11, 3) := ax_dec dX7_setOf_q0_ok 9 (13, .ifCond .ne 11, 3) rfl
theorem dX7_setOf_16 : decode cX7_setOf 16 = .ok (.aload_n 0, 1) := ax_dec dX7_setOf_q0_ok 10 (16, .aload_n 0, 1) rfl
theorem dX7_setOf_17 : decode cX7_setOf 17 = .ok (.iload_n 3, 1) := ax_dec dX7_setOf_q0_ok 11 (17, .iload_n 3, 1) rfl
theorem dX7_setOf_18 : decode cX7_setOf 18 = .ok (.invokevirtual 95, 3) := ax_dec dX7_setOf_q0_ok 12 (18, .invokevirtual 95, 3) rfl
theorem dX7_setOf_21 : decode cX7_setOf 21 = .ok (.goto 8, 3) := ax_dec dX7_setOf_q0_ok 13 (21, .goto 8, 3) rfl
theorem dX7_setOf_24 : decode cX7_setOf 24 = .ok (.aload_n 0, 1) := ax_dec dX7_setOf_q0_ok 14 (24, .aload_n 0, 1) rfl
theorem dX7_setOf_25 : decode cX7_setOf 25 = .ok (.iload_n 3, 1) := ax_dec dX7_setOf_q0_ok 15 (25, .iload_n 3, 1) rfl
theorem dX7_setOf_26 : decode cX7_setOf 26 = .ok (.invokevirtual 98, 3) := ax_dec dX7_setOf_q0_ok 16 (26, .invokevirtual 98, 3) rfl
theorem dX7_setOf_29 : decode cX7_setOf 29 = .ok (.istore 4, 2) := ax_dec dX7_setOf_q0_ok 17 (29, .istore 4, 2) rfl
theorem dX7_setOf_31 : decode cX7_setOf 31 = .ok (.iload_n 2, 1) := ax_dec dX7_setOf_q0_ok 18 (31, .iload_n 2, 1) rfl
theorem dX7_setOf_32 : decode cX7_setOf 32 = .ok (.iload 4, 2) := ax_dec dX7_setOf_q0_ok 19 (32, .iload 4, 2) rfl
theorem dX7_setOf_34 : decode cX7_setOf 34 = .ok (.ifCond .eq 9, 3) := ax_dec dX7_setOf_q0_ok 20 (34, .ifCond .eq 9, 3) rfl
theorem dX7_setOf_37 : decode cX7_setOf 37 = .ok (.iconst 1, 1) := ax_dec dX7_setOf_q0_ok 21 (37, .iconst 1, 1) rfl
theorem dX7_setOf_38 : decode cX7_setOf 38 = .ok (.iload_n 3, 1) := ax_dec dX7_setOf_q0_ok 22 (38, .iload_n 3, 1) rfl
theorem dX7_setOf_39 : decode cX7_setOf 39 = .ok (.ishl, 1) := ax_dec dX7_setOf_q0_ok 23 (39, .ishl, 1) rfl
theorem dX7_setOf_40 : decode cX7_setOf 40 = .ok (.goto 4, 3) := ax_dec dX7_setOf_q0_ok 24 (40, .goto 4, 3) rfl
theorem dX7_setOf_43 : decode cX7_setOf 43 = .ok (.iconst 0, 1) := ax_dec dX7_setOf_q0_ok 25 (43, .iconst 0, 1) rfl
theorem dX7_setOf_44 : decode cX7_setOf 44 = .ok (.ior, 1) := ax_dec dX7_setOf_q0_ok 26 (44, .ior, 1) rfl
theorem dX7_setOf_45 : decode cX7_setOf 45 = .ok (.istore_n 2, 1) := ax_dec dX7_setOf_q0_ok 27 (45, .istore_n 2, 1) rfl
theorem dX7_setOf_46 : decode cX7_setOf 46 = .ok (.iinc 3 1, 3) := ax_dec dX7_setOf_q0_ok 28 (46, .iinc 3 1, 3) rfl
theorem dX7_setOf_49 : decode cX7_setOf 49 = .ok (.goto (-45), 3) := ax_dec dX7_setOf_q0_ok 29 (49, .goto (-45), 3) rfl
theorem dX7_setOf_52 : decode cX7_setOf 52 = .ok (.iload_n 2, 1) := ax_dec dX7_setOf_q0_ok 30 (52, .iload_n 2, 1) rfl
theorem dX7_setOf_53 : decode cX7_setOf 53 = .ok (.ireturn, 1) := ax_dec dX7_setOf_q0_ok 31 (53, .ireturn, 1) rfl
def dX7_ones_q0 : List (Nat × (Instr × Nat)) := [(0, .iconst 0, 1), (1, .istore_n 1, 1), (2, .iconst 0, 1), (3, .istore_n 2, 1), (4, .iload_n 2, 1), (5, .bipush 10, 2), (7, .if_icmp .ge 17, 3), (10, .iload_n 1, 1), (11, .iload_n 0, 1), (12, .iload_n 2, 1), (13, .ishr, 1), (14, .iconst 1, 1), (15, .iand, 1), (16, .iadd, 1), (17, .istore_n 1, 1), (18, .iinc 2 1, 3), (21, .goto (-17), 3), (24, .iload_n 1, 1), (25, .ireturn, 1)]
set_option maxRecDepth 100000 in
theorem dX7_ones_q0_ok : ax_decs cX7_ones dX7_ones_q0 = true := by decide +kernel
theorem dX7_ones_0 : decode cX7_ones 0 = .ok (.iconst 0, 1) := ax_dec dX7_ones_q0_ok 0 (0, .iconst 0, 1) rfl
theorem dX7_ones_1 : decode cX7_ones 1 = .ok (.istore_n 1, 1) := ax_dec dX7_ones_q0_ok 1 (1, .istore_n 1, 1) rfl
theorem dX7_ones_2 : decode cX7_ones 2 = .ok (.iconst 0, 1) := ax_dec dX7_ones_q0_ok 2 (2, .iconst 0, 1) rfl
theorem dX7_ones_3 : decode cX7_ones 3 = .ok (.istore_n 2, 1) := ax_dec dX7_ones_q0_ok 3 (3, .istore_n 2, 1) rfl
theorem dX7_ones_4 : decode cX7_ones 4 = .ok (.iload_n 2, 1) := ax_dec dX7_ones_q0_ok 4 (4, .iload_n 2, 1) rfl
theorem dX7_ones_5 : decode cX7_ones 5 = .ok (.bipush 10, 2) := ax_dec dX7_ones_q0_ok 5 (5, .bipush 10, 2) rfl
theorem dX7_ones_7 : decode cX7_ones 7 = .ok (.if_icmp .ge 17, 3) := ax_dec dX7_ones_q0_ok 6 (7, .if_icmp .ge 17, 3) rfl
theorem dX7_ones_10 : decode cX7_ones 10 = .ok (.iload_n 1, 1) := ax_dec dX7_ones_q0_ok 7 (10, .iload_n 1, 1) rfl
theorem dX7_ones_11 : decode cX7_ones 11 = .ok (.iload_n 0, 1) := ax_dec dX7_ones_q0_ok 8 (11, .iload_n 0, 1) rfl
theorem dX7_ones_12 : decode cX7_ones 12 = .ok (.iload_n 2, 1) := ax_dec dX7_ones_q0_ok 9 (12, .iload_n 2, 1) rfl
theorem dX7_ones_13 : decode cX7_ones 13 = .ok (.ishr, 1) := ax_dec dX7_ones_q0_ok 10 (13, .ishr, 1) rfl
theorem dX7_ones_14 : decode cX7_ones 14 = .ok (.iconst 1, 1) := ax_dec dX7_ones_q0_ok 11 (14, .iconst 1, 1) rfl
theorem dX7_ones_15 : decode cX7_ones 15 = .ok (.iand, 1) := ax_dec dX7_ones_q0_ok 12 (15, .iand, 1) rfl
theorem dX7_ones_16 : decode cX7_ones 16 = .ok (.iadd, 1) := ax_dec dX7_ones_q0_ok 13 (16, .iadd, 1) rfl
theorem dX7_ones_17 : decode cX7_ones 17 = .ok (.istore_n 1, 1) := ax_dec dX7_ones_q0_ok 14 (17, .istore_n 1, 1) rfl
theorem dX7_ones_18 : decode cX7_ones 18 = .ok (.iinc 2 1, 3) := ax_dec dX7_ones_q0_ok 15 (18, .iinc 2 1, 3) rfl
theorem dX7_ones_21 : decode cX7_ones 21 = .ok (.goto (-17), 3) := ax_dec dX7_ones_q0_ok 16 (21, .goto (-17), 3) rfl
theorem dX7_ones_24 : decode cX7_ones 24 = .ok (.iload_n 1, 1) := ax_dec dX7_ones_q0_ok 17 (24, .iload_n 1, 1) rfl
theorem dX7_ones_25 : decode cX7_ones 25 = .ok (.ireturn, 1) := ax_dec dX7_ones_q0_ok 18 (25, .ireturn, 1) rfl
def dX7_count_q0 : List (Nat × (Instr × Nat)) := [(0, .iload_n 1, 1), (1, .tableswitch 70 0 5 #[39, 44, 44, 55, 60, 65], 39), (40, .aload_n 0, 1), (41, .getfield 84, 3), (44, .ireturn, 1), (45, .aload_n 0, 1), (46, .iload_n 1, 1), (47, .iconst 1, 1), (48, .isub, 1), (49, .invokevirtual 101, 3), (52, .invokestatic 105, 3), (55, .ireturn, 1), (56, .aload_n 0, 1), (57, .getfield 108, 3), (60, .ireturn, 1), (61, .aload_n 0, 1), (62, .getfield 111, 3), (65, .ireturn, 1), (66, .aload_n 0, 1), (67, .getfield 76, 3), (70, .ireturn, 1), (71, .bipush (-2), 2), (73, .ireturn, 1)]
set_option maxRecDepth 100000 in
theorem dX7_count_q0_ok : ax_decs cX7_count dX7_count_q0 = true := by decide +kernel
theorem dX7_count_0 : decode cX7_count 0 = .ok (.iload_n 1, 1) := ax_dec dX7_count_q0_ok 0 (0, .iload_n 1, 1) rfl
theorem dX7_count_1 : decode cX7_count 1 = .ok (.tableswitch 70 0 5 #[39, 44, 44, 55, 60, 65], 39) := ax_dec dX7_count_q0_ok 1 (1, .tableswitch 70 0 5 #[39, 44, 44, 55, 60, 65], 39) rfl
theorem dX7_count_40 : decode cX7_count 40 = .ok (.aload_n 0, 1) := ax_dec dX7_count_q0_ok 2 (40, .aload_n 0, 1) rfl
theorem dX7_count_41 : decode cX7_count 41 = .ok (.getfield 84, 3) := ax_dec dX7_count_q0_ok 3 (41, .getfield 84, 3) rfl
theorem dX7_count_44 : decode cX7_count 44 = .ok (.ireturn, 1) := ax_dec dX7_count_q0_ok 4 (44, .ireturn, 1) rfl
theorem dX7_count_45 : decode cX7_count 45 = .ok (.aload_n 0, 1) := ax_dec dX7_count_q0_ok 5 (45, .aload_n 0, 1) rfl
theorem dX7_count_46 : decode cX7_count 46 = .ok (.iload_n 1, 1) := ax_dec dX7_count_q0_ok 6 (46, .iload_n 1, 1) rfl
theorem dX7_count_47 : decode cX7_count 47 = .ok (.iconst 1, 1) := ax_dec dX7_count_q0_ok 7 (47, .iconst 1, 1) rfl
theorem dX7_count_48 : decode cX7_count 48 = .ok (.isub, 1) := ax_dec dX7_count_q0_ok 8 (48, .isub, 1) rfl
theorem dX7_count_49 : decode cX7_count 49 = .ok (.invokevirtual 101, 3) := ax_dec dX7_count_q0_ok 9 (49, .invokevirtual 101, 3) rfl
theorem dX7_count_52 : decode cX7_count 52 = .ok (.invokestatic 105, 3) := ax_dec dX7_count_q0_ok 10 (52, .invokestatic 105, 3) rfl
theorem dX7_count_55 : decode cX7_count 55 = .ok (.ireturn, 1) := ax_dec dX7_count_q0_ok 11 (55, .ireturn, 1) rfl
theorem dX7_count_56 : decode cX7_count 56 = .ok (.aload_n 0, 1) := ax_dec dX7_count_q0_ok 12 (56, .aload_n 0, 1) rfl
theorem dX7_count_57 : decode cX7_count 57 = .ok (.getfield 108, 3) := ax_dec dX7_count_q0_ok 13 (57, .getfield 108, 3) rfl
theorem dX7_count_60 : decode cX7_count 60 = .ok (.ireturn, 1) := ax_dec dX7_count_q0_ok 14 (60, .ireturn, 1) rfl
theorem dX7_count_61 : decode cX7_count 61 = .ok (.aload_n 0, 1) := ax_dec dX7_count_q0_ok 15 (61, .aload_n 0, 1) rfl
theorem dX7_count_62 : decode cX7_count 62 = .ok (.getfield 111, 3) := ax_dec dX7_count_q0_ok 16 (62, .getfield 111, 3) rfl
theorem dX7_count_65 : decode cX7_count 65 = .ok (.ireturn, 1) := ax_dec dX7_count_q0_ok 17 (65, .ireturn, 1) rfl
theorem dX7_count_66 : decode cX7_count 66 = .ok (.aload_n 0, 1) := ax_dec dX7_count_q0_ok 18 (66, .aload_n 0, 1) rfl
theorem dX7_count_67 : decode cX7_count 67 = .ok (.getfield 76, 3) := ax_dec dX7_count_q0_ok 19 (67, .getfield 76, 3) rfl
theorem dX7_count_70 : decode cX7_count 70 = .ok (.ireturn, 1) := ax_dec dX7_count_q0_ok 20 (70, .ireturn, 1) rfl
theorem dX7_count_71 : decode cX7_count 71 = .ok (.bipush (-2), 2) := ax_dec dX7_count_q0_ok 21 (71, .bipush (-2), 2) rfl
theorem dX7_count_73 : decode cX7_count 73 = .ok (.ireturn, 1) := ax_dec dX7_count_q0_ok 22 (73, .ireturn, 1) rfl
def dX7_isByte_q0 : List (Nat × (Instr × Nat)) := [(0, .iload_n 0, 1), (1, .iconst 0, 1), (2, .sipush 255, 3), (5, .invokestatic 87, 3), (8, .ireturn, 1)]
set_option maxRecDepth 100000 in
theorem dX7_isByte_q0_ok : ax_decs cX7_isByte dX7_isByte_q0 = true := by decide +kernel
theorem dX7_isByte_0 : decode cX7_isByte 0 = .ok (.iload_n 0, 1) := ax_dec dX7_isByte_q0_ok 0 (0, .iload_n 0, 1) rfl
theorem dX7_isByte_1 : decode cX7_isByte 1 = .ok (.iconst 0, 1) := ax_dec dX7_isByte_q0_ok 1 (1, .iconst 0, 1) rfl
theorem dX7_isByte_2 : decode cX7_isByte 2 = .ok (.sipush 255, 3) := ax_dec dX7_isByte_q0_ok 2 (2, .sipush 255, 3) rfl
theorem dX7_isByte_5 : decode cX7_isByte 5 = .ok (.invokestatic 87, 3) := ax_dec dX7_isByte_q0_ok 3 (5, .invokestatic 87, 3) rfl
theorem dX7_isByte_8 : decode cX7_isByte 8 = .ok (.ireturn, 1) := ax_dec dX7_isByte_q0_ok 4 (8, .ireturn, 1) rfl
def dX7_feed_q0 : List (Nat × (Instr × Nat)) := [(0, .iload_n 1, 1), (1, .iconst 1, 1), (2, .iconst 5, 1), (3, .invokestatic 87, 3), (6, .ifCond .eq 41, 3), (9, .iload_n 2, 1), (10, .invokestatic 114, 3), (13, .ifCond .eq 34, 3), (16, .iload_n 3, 1), (17, .invokestatic 114, 3), (20, .ifCond .eq 27, 3), (23, .iload 4, 2), (25, .invokestatic 114, 3), (28, .ifCond .eq 19, 3), (31, .iload 5, 2), (33, .invokestatic 114, 3), (36, .ifCond .eq 11, 3), (39, .iload 6, 2), (41, .invokestatic 114, 3), (44, .ifCond .ne 6, 3), (47, .bipush (-2), 2), (49, .ireturn, 1), (50, .aload_n 0, 1), (51, .getfield 76, 3), (54, .iload_n 1, 1), (55, .iadd, 1), (56, .sipush 160, 3), (59, .if_icmp .le 6, 3), (62, .bipush (-4), 2), (64, .ireturn, 1), (65, .iconst 0, 1), (66, .istore 7, 2)]
set_option maxRecDepth 100000 in
theorem dX7_feed_q0_ok : ax_decs cX7_feed dX7_feed_q0 = true := by decide +kernel
theorem dX7_feed_0 : decode cX7_feed 0 = .ok (.iload_n 1, 1) := ax_dec dX7_feed_q0_ok 0 (0, .iload_n 1, 1) rfl
theorem dX7_feed_1 : decode cX7_feed 1 = .ok (.iconst 1, 1) := ax_dec dX7_feed_q0_ok 1 (1, .iconst 1, 1) rfl
theorem dX7_feed_2 : decode cX7_feed 2 = .ok (.iconst 5, 1) := ax_dec dX7_feed_q0_ok 2 (2, .iconst 5, 1) rfl
theorem dX7_feed_3 : decode cX7_feed 3 = .ok (.invokestatic 87, 3) := ax_dec dX7_feed_q0_ok 3 (3, .invokestatic 87, 3) rfl
theorem dX7_feed_6 : decode cX7_feed 6 = .ok (.ifCond .eq 41, 3) := ax_dec dX7_feed_q0_ok 4 (6, .ifCond .eq 41, 3) rfl
theorem dX7_feed_9 : decode cX7_feed 9 = .ok (.iload_n 2, 1) := ax_dec dX7_feed_q0_ok 5 (9, .iload_n 2, 1) rfl
theorem dX7_feed_10 : decode cX7_feed 10 = .ok (.invokestatic 114, 3) := ax_dec dX7_feed_q0_ok 6 (10, .invokestatic 114, 3) rfl
theorem dX7_feed_13 : decode cX7_feed 13 = .ok (.ifCond .eq 34, 3) := ax_dec dX7_feed_q0_ok 7 (13, .ifCond .eq 34, 3) rfl
theorem dX7_feed_16 : decode cX7_feed 16 = .ok (.iload_n 3, 1) := ax_dec dX7_feed_q0_ok 8 (16, .iload_n 3, 1) rfl
theorem dX7_feed_17 : decode cX7_feed 17 = .ok (.invokestatic 114, 3) := ax_dec dX7_feed_q0_ok 9 (17, .invokestatic 114, 3) rfl
theorem dX7_feed_20 : decode cX7_feed 20 = .ok (.ifCond .eq 27, 3) := ax_dec dX7_feed_q0_ok 10 (20, .ifCond .eq 27, 3) rfl
theorem dX7_feed_23 : decode cX7_feed 23 = .ok (.iload 4, 2) := ax_dec dX7_feed_q0_ok 11 (23, .iload 4, 2) rfl
theorem dX7_feed_25 : decode cX7_feed 25 = .ok (.invokestatic 114, 3) := ax_dec dX7_feed_q0_ok 12 (25, .invokestatic 114, 3) rfl
theorem dX7_feed_28 : decode cX7_feed 28 = .ok (.ifCond .eq 19, 3) := ax_dec dX7_feed_q0_ok 13 (28, .ifCond .eq 19, 3) rfl
theorem dX7_feed_31 : decode cX7_feed 31 = .ok (.iload 5, 2) := ax_dec dX7_feed_q0_ok 14 (31, .iload 5, 2) rfl
theorem dX7_feed_33 : decode cX7_feed 33 = .ok (.invokestatic 114, 3) := ax_dec dX7_feed_q0_ok 15 (33, .invokestatic 114, 3) rfl
theorem dX7_feed_36 : decode cX7_feed 36 = .ok (.ifCond .eq 11, 3) := ax_dec dX7_feed_q0_ok 16 (36, .ifCond .eq 11, 3) rfl
theorem dX7_feed_39 : decode cX7_feed 39 = .ok (.iload 6, 2) := ax_dec dX7_feed_q0_ok 17 (39, .iload 6, 2) rfl
theorem dX7_feed_41 : decode cX7_feed 41 = .ok (.invokestatic 114, 3) := ax_dec dX7_feed_q0_ok 18 (41, .invokestatic 114, 3) rfl
theorem dX7_feed_44 : decode cX7_feed 44 = .ok (.ifCond .ne 6, 3) := ax_dec dX7_feed_q0_ok 19 (44, .ifCond .ne 6, 3) rfl
theorem dX7_feed_47 : decode cX7_feed 47 = .ok (.bipush (-2), 2) := ax_dec dX7_feed_q0_ok 20 (47, .bipush (-2), 2) rfl
theorem dX7_feed_49 : decode cX7_feed 49 = .ok (.ireturn, 1) := ax_dec dX7_feed_q0_ok 21 (49, .ireturn, 1) rfl
theorem dX7_feed_50 : decode cX7_feed 50 = .ok (.aload_n 0, 1) := ax_dec dX7_feed_q0_ok 22 (50, .aload_n 0, 1) rfl
theorem dX7_feed_51 : decode cX7_feed 51 = .ok (.getfield 76, 3) := ax_dec dX7_feed_q0_ok 23 (51, .getfield 76, 3) rfl
theorem dX7_feed_54 : decode cX7_feed 54 = .ok (.iload_n 1, 1) := ax_dec dX7_feed_q0_ok 24 (54, .iload_n 1, 1) rfl
theorem dX7_feed_55 : decode cX7_feed 55 = .ok (.iadd, 1) := ax_dec dX7_feed_q0_ok 25 (55, .iadd, 1) rfl
theorem dX7_feed_56 : decode cX7_feed 56 = .ok (.sipush 160, 3) := ax_dec dX7_feed_q0_ok 26 (56, .sipush 160, 3) rfl
theorem dX7_feed_59 : decode cX7_feed 59 = .ok (.if_icmp .le 6, 3) := ax_dec dX7_feed_q0_ok 27 (59, .if_icmp .le 6, 3) rfl
theorem dX7_feed_62 : decode cX7_feed 62 = .ok (.bipush (-4), 2) := ax_dec dX7_feed_q0_ok 28 (62, .bipush (-4), 2) rfl
theorem dX7_feed_64 : decode cX7_feed 64 = .ok (.ireturn, 1) := ax_dec dX7_feed_q0_ok 29 (64, .ireturn, 1) rfl
theorem dX7_feed_65 : decode cX7_feed 65 = .ok (.iconst 0, 1) := ax_dec dX7_feed_q0_ok 30 (65, .iconst 0, 1) rfl
theorem dX7_feed_66 : decode cX7_feed 66 = .ok (.istore 7, 2) := ax_dec dX7_feed_q0_ok 31 (66, .istore 7, 2) rfl
def dX7_feed_q1 : List (Nat × (Instr × Nat)) := [(68, .iload 7, 2), (70, .iload_n 1, 1), (71, .if_icmp .ge 71, 3), (74, .aload_n 0, 1), (75, .getfield 31, 3), (78, .aload_n 0, 1), (79, .getfield 76, 3), (82, .iload 7, 2), (84, .ifCond .ne 7, 3), (87, .iload_n 2, 1), (88, .goto 37, 3), (91, .iload 7, 2), (93, .iconst 1, 1), (94, .if_icmp .ne 7, 3), (97, .iload_n 3, 1), (98, .goto 27, 3), (101, .iload 7, 2), (103, .iconst 2, 1), (104, .if_icmp .ne 8, 3), (107, .iload 4, 2), (109, .goto 16, 3), (112, .iload 7, 2), (114, .iconst 3, 1), (115, .if_icmp .ne 8, 3), (118, .iload 5, 2), (120, .goto 5, 3), (123, .iload 6, 2), (125, .iastore, 1), (126, .aload_n 0, 1), (127, .dup, 1), (128, .getfield 76, 3), (131, .iconst 1, 1)]
set_option maxRecDepth 100000 in
theorem dX7_feed_q1_ok : ax_decs cX7_feed dX7_feed_q1 = true := by decide +kernel
theorem dX7_feed_68 : decode cX7_feed 68 = .ok (.iload 7, 2) := ax_dec dX7_feed_q1_ok 0 (68, .iload 7, 2) rfl
theorem dX7_feed_70 : decode cX7_feed 70 = .ok (.iload_n 1, 1) := ax_dec dX7_feed_q1_ok 1 (70, .iload_n 1, 1) rfl
theorem dX7_feed_71 : decode cX7_feed 71 = .ok (.if_icmp .ge 71, 3) := ax_dec dX7_feed_q1_ok 2 (71, .if_icmp .ge 71, 3) rfl
theorem dX7_feed_74 : decode cX7_feed 74 = .ok (.aload_n 0, 1) := ax_dec dX7_feed_q1_ok 3 (74, .aload_n 0, 1) rfl
theorem dX7_feed_75 : decode cX7_feed 75 = .ok (.getfield 31, 3) := ax_dec dX7_feed_q1_ok 4 (75, .getfield 31, 3) rfl
theorem dX7_feed_78 : decode cX7_feed 78 = .ok (.aload_n 0, 1) := ax_dec dX7_feed_q1_ok 5 (78, .aload_n 0, 1) rfl
theorem dX7_feed_79 : decode cX7_feed 79 = .ok (.getfield 76, 3) := ax_dec dX7_feed_q1_ok 6 (79, .getfield 76, 3) rfl
theorem dX7_feed_82 : decode cX7_feed 82 = .ok (.iload 7, 2) := ax_dec dX7_feed_q1_ok 7 (82, .iload 7, 2) rfl
theorem dX7_feed_84 : decode cX7_feed 84 = .ok (.ifCond .ne 7, 3) := ax_dec dX7_feed_q1_ok 8 (84, .ifCond .ne 7, 3) rfl
theorem dX7_feed_87 : decode cX7_feed 87 = .ok (.iload_n 2, 1) := ax_dec dX7_feed_q1_ok 9 (87, .iload_n 2, 1) rfl
theorem dX7_feed_88 : decode cX7_feed 88 = .ok (.goto 37, 3) := ax_dec dX7_feed_q1_ok 10 (88, .goto 37, 3) rfl
theorem dX7_feed_91 : decode cX7_feed 91 = .ok (.iload 7, 2) := ax_dec dX7_feed_q1_ok 11 (91, .iload 7, 2) rfl
theorem dX7_feed_93 : decode cX7_feed 93 = .ok (.iconst 1, 1) := ax_dec dX7_feed_q1_ok 12 (93, .iconst 1, 1) rfl
theorem dX7_feed_94 : decode cX7_feed 94 = .ok (.if_icmp .ne 7, 3) := ax_dec dX7_feed_q1_ok 13 (94, .if_icmp .ne 7, 3) rfl
theorem dX7_feed_97 : decode cX7_feed 97 = .ok (.iload_n 3, 1) := ax_dec dX7_feed_q1_ok 14 (97, .iload_n 3, 1) rfl
theorem dX7_feed_98 : decode cX7_feed 98 = .ok (.goto 27, 3) := ax_dec dX7_feed_q1_ok 15 (98, .goto 27, 3) rfl
theorem dX7_feed_101 : decode cX7_feed 101 = .ok (.iload 7, 2) := ax_dec dX7_feed_q1_ok 16 (101, .iload 7, 2) rfl
theorem dX7_feed_103 : decode cX7_feed 103 = .ok (.iconst 2, 1) := ax_dec dX7_feed_q1_ok 17 (103, .iconst 2, 1) rfl
theorem dX7_feed_104 : decode cX7_feed 104 = .ok (.if_icmp .ne 8, 3) := ax_dec dX7_feed_q1_ok 18 (104, .if_icmp .ne 8, 3) rfl
theorem dX7_feed_107 : decode cX7_feed 107 = .ok (.iload 4, 2) := ax_dec dX7_feed_q1_ok 19 (107, .iload 4, 2) rfl
theorem dX7_feed_109 : decode cX7_feed 109 = .ok (.goto 16, 3) := ax_dec dX7_feed_q1_ok 20 (109, .goto 16, 3) rfl
theorem dX7_feed_112 : decode cX7_feed 112 = .ok (.iload 7, 2) := ax_dec dX7_feed_q1_ok 21 (112, .iload 7, 2) rfl
theorem dX7_feed_114 : decode cX7_feed 114 = .ok (.iconst 3, 1) := ax_dec dX7_feed_q1_ok 22 (114, .iconst 3, 1) rfl
theorem dX7_feed_115 : decode cX7_feed 115 = .ok (.if_icmp .ne 8, 3) := ax_dec dX7_feed_q1_ok 23 (115, .if_icmp .ne 8, 3) rfl
theorem dX7_feed_118 : decode cX7_feed 118 = .ok (.iload 5, 2) := ax_dec dX7_feed_q1_ok 24 (118, .iload 5, 2) rfl
theorem dX7_feed_120 : decode cX7_feed 120 = .ok (.goto 5, 3) := ax_dec dX7_feed_q1_ok 25 (120, .goto 5, 3) rfl
theorem dX7_feed_123 : decode cX7_feed 123 = .ok (.iload 6, 2) := ax_dec dX7_feed_q1_ok 26 (123, .iload 6, 2) rfl
theorem dX7_feed_125 : decode cX7_feed 125 = .ok (.iastore, 1) := ax_dec dX7_feed_q1_ok 27 (125, .iastore, 1) rfl
theorem dX7_feed_126 : decode cX7_feed 126 = .ok (.aload_n 0, 1) := ax_dec dX7_feed_q1_ok 28 (126, .aload_n 0, 1) rfl
theorem dX7_feed_127 : decode cX7_feed 127 = .ok (.dup, 1) := ax_dec dX7_feed_q1_ok 29 (127, .dup, 1) rfl
theorem dX7_feed_128 : decode cX7_feed 128 = .ok (.getfield 76, 3) := ax_dec dX7_feed_q1_ok 30 (128, .getfield 76, 3) rfl
theorem dX7_feed_131 : decode cX7_feed 131 = .ok (.iconst 1, 1) := ax_dec dX7_feed_q1_ok 31 (131, .iconst 1, 1) rfl
def dX7_feed_q2 : List (Nat × (Instr × Nat)) := [(132, .iadd, 1), (133, .putfield 76, 3), (136, .iinc 7 1, 3), (139, .goto (-71), 3), (142, .aload_n 0, 1), (143, .getfield 76, 3), (146, .ireturn, 1)]
set_option maxRecDepth 100000 in
theorem dX7_feed_q2_ok : ax_decs cX7_feed dX7_feed_q2 = true := by decide +kernel
theorem dX7_feed_132 : decode cX7_feed 132 = .ok (.iadd, 1) := ax_dec dX7_feed_q2_ok 0 (132, .iadd, 1) rfl
theorem dX7_feed_133 : decode cX7_feed 133 = .ok (.putfield 76, 3) := ax_dec dX7_feed_q2_ok 1 (133, .putfield 76, 3) rfl
theorem dX7_feed_136 : decode cX7_feed 136 = .ok (.iinc 7 1, 3) := ax_dec dX7_feed_q2_ok 2 (136, .iinc 7 1, 3) rfl
theorem dX7_feed_139 : decode cX7_feed 139 = .ok (.goto (-71), 3) := ax_dec dX7_feed_q2_ok 3 (139, .goto (-71), 3) rfl
theorem dX7_feed_142 : decode cX7_feed 142 = .ok (.aload_n 0, 1) := ax_dec dX7_feed_q2_ok 4 (142, .aload_n 0, 1) rfl
theorem dX7_feed_143 : decode cX7_feed 143 = .ok (.getfield 76, 3) := ax_dec dX7_feed_q2_ok 5 (143, .getfield 76, 3) rfl
theorem dX7_feed_146 : decode cX7_feed 146 = .ok (.ireturn, 1) := ax_dec dX7_feed_q2_ok 6 (146, .ireturn, 1) rfl
def dX7_wordFrom_q0 : List (Nat × (Instr × Nat)) := [(0, .iconst 0, 1), (1, .istore_n 3, 1), (2, .iload_n 3, 1), (3, .bipush 12, 2), (5, .if_icmp .ge 96, 3), (8, .iload_n 2, 1), (9, .iload_n 1, 1), (10, .isub, 1), (11, .bipush 8, 2), (13, .if_icmp .gt 7, 3), (16, .iconst 1, 1), (17, .goto 4, 3), (20, .iconst 0, 1), (21, .istore 4, 2), (23, .iconst 0, 1), (24, .istore 5, 2), (26, .iload 5, 2), (28, .bipush 8, 2), (30, .if_icmp .ge 58, 3), (33, .iload 4, 2), (35, .ifCond .eq 53, 3), (38, .aload_n 0, 1), (39, .getfield 55, 3), (42, .bipush 8, 2), (44, .iload_n 3, 1), (45, .imul, 1), (46, .iload 5, 2), (48, .iadd, 1), (49, .iaload, 1), (50, .iload_n 1, 1), (51, .iload 5, 2), (53, .iadd, 1)]
set_option maxRecDepth 100000 in
theorem dX7_wordFrom_q0_ok : ax_decs cX7_wordFrom dX7_wordFrom_q0 = true := by decide +kernel
theorem dX7_wordFrom_0 : decode cX7_wordFrom 0 = .ok (.iconst 0, 1) := ax_dec dX7_wordFrom_q0_ok 0 (0, .iconst 0, 1) rfl
theorem dX7_wordFrom_1 : decode cX7_wordFrom 1 = .ok (.istore_n 3, 1) := ax_dec dX7_wordFrom_q0_ok 1 (1, .istore_n 3, 1) rfl
theorem dX7_wordFrom_2 : decode cX7_wordFrom 2 = .ok (.iload_n 3, 1) := ax_dec dX7_wordFrom_q0_ok 2 (2, .iload_n 3, 1) rfl
theorem dX7_wordFrom_3 : decode cX7_wordFrom 3 = .ok (.bipush 12, 2) := ax_dec dX7_wordFrom_q0_ok 3 (3, .bipush 12, 2) rfl
theorem dX7_wordFrom_5 : decode cX7_wordFrom 5 = .ok (.if_icmp .ge 96, 3) := ax_dec dX7_wordFrom_q0_ok 4 (5, .if_icmp .ge 96, 3) rfl
theorem dX7_wordFrom_8 : decode cX7_wordFrom 8 = .ok (.iload_n 2, 1) := ax_dec dX7_wordFrom_q0_ok 5 (8, .iload_n 2, 1) rfl
theorem dX7_wordFrom_9 : decode cX7_wordFrom 9 = .ok (.iload_n 1, 1) := ax_dec dX7_wordFrom_q0_ok 6 (9, .iload_n 1, 1) rfl
theorem dX7_wordFrom_10 : decode cX7_wordFrom 10 = .ok (.isub, 1) := ax_dec dX7_wordFrom_q0_ok 7 (10, .isub, 1) rfl
theorem dX7_wordFrom_11 : decode cX7_wordFrom 11 = .ok (.bipush 8, 2) := ax_dec dX7_wordFrom_q0_ok 8 (11, .bipush 8, 2) rfl
theorem dX7_wordFrom_13 : decode cX7_wordFrom 13 = .ok (.if_icmp .gt 7, 3) := ax_dec dX7_wordFrom_q0_ok 9 (13, .if_icmp .gt 7, 3) rfl
theorem dX7_wordFrom_16 : decode cX7_wordFrom 16 = .ok (.iconst 1, 1) := ax_dec dX7_wordFrom_q0_ok 10 (16, .iconst 1, 1) rfl
theorem dX7_wordFrom_17 : decode cX7_wordFrom 17 = .ok (.goto 4, 3) := ax_dec dX7_wordFrom_q0_ok 11 (17, .goto 4, 3) rfl
theorem dX7_wordFrom_20 : decode cX7_wordFrom 20 = .ok (.iconst 0, 1) := ax_dec dX7_wordFrom_q0_ok 12 (20, .iconst 0, 1) rfl
theorem dX7_wordFrom_21 : decode cX7_wordFrom 21 = .ok (.istore 4, 2) := ax_dec dX7_wordFrom_q0_ok 13 (21, .istore 4, 2) rfl
theorem dX7_wordFrom_23 : decode cX7_wordFrom 23 = .ok (.iconst 0, 1) := ax_dec dX7_wordFrom_q0_ok 14 (23, .iconst 0, 1) rfl
theorem dX7_wordFrom_24 : decode cX7_wordFrom 24 = .ok (.istore 5, 2) := ax_dec dX7_wordFrom_q0_ok 15 (24, .istore 5, 2) rfl
theorem dX7_wordFrom_26 : decode cX7_wordFrom 26 = .ok (.iload 5, 2) := ax_dec dX7_wordFrom_q0_ok 16 (26, .iload 5, 2) rfl
theorem dX7_wordFrom_28 : decode cX7_wordFrom 28 = .ok (.bipush 8, 2) := ax_dec dX7_wordFrom_q0_ok 17 (28, .bipush 8, 2) rfl
theorem dX7_wordFrom_30 : decode cX7_wordFrom 30 = .ok (.if_icmp .ge 58, 3) := ax_dec dX7_wordFrom_q0_ok 18 (30, .if_icmp .ge 58, 3) rfl
theorem dX7_wordFrom_33 : decode cX7_wordFrom 33 = .ok (.iload 4, 2) := ax_dec dX7_wordFrom_q0_ok 19 (33, .iload 4, 2) rfl
theorem dX7_wordFrom_35 : decode cX7_wordFrom 35 = .ok (.ifCond .eq 53, 3) := ax_dec dX7_wordFrom_q0_ok 20 (35, .ifCond .eq 53, 3) rfl
theorem dX7_wordFrom_38 : decode cX7_wordFrom 38 = .ok (.aload_n 0, 1) := ax_dec dX7_wordFrom_q0_ok 21 (38, .aload_n 0, 1) rfl
theorem dX7_wordFrom_39 : decode cX7_wordFrom 39 = .ok (.getfield 55, 3) := ax_dec dX7_wordFrom_q0_ok 22 (39, .getfield 55, 3) rfl
theorem dX7_wordFrom_42 : decode cX7_wordFrom 42 = .ok (.bipush 8, 2) := ax_dec dX7_wordFrom_q0_ok 23 (42, .bipush 8, 2) rfl
theorem dX7_wordFrom_44 : decode cX7_wordFrom 44 = .ok (.iload_n 3, 1) := ax_dec dX7_wordFrom_q0_ok 24 (44, .iload_n 3, 1) rfl
theorem dX7_wordFrom_45 : decode cX7_wordFrom 45 = .ok (.imul, 1) := ax_dec dX7_wordFrom_q0_ok 25 (45, .imul, 1) rfl
theorem dX7_wordFrom_46 : decode cX7_wordFrom 46 = .ok (.iload 5, 2) := ax_dec dX7_wordFrom_q0_ok 26 (46, .iload 5, 2) rfl
theorem dX7_wordFrom_48 : decode cX7_wordFrom 48 = .ok (.iadd, 1) := ax_dec dX7_wordFrom_q0_ok 27 (48, .iadd, 1) rfl
theorem dX7_wordFrom_49 : decode cX7_wordFrom 49 = .ok (.iaload, 1) := ax_dec dX7_wordFrom_q0_ok 28 (49, .iaload, 1) rfl
theorem dX7_wordFrom_50 : decode cX7_wordFrom 50 = .ok (.iload_n 1, 1) := ax_dec dX7_wordFrom_q0_ok 29 (50, .iload_n 1, 1) rfl
theorem dX7_wordFrom_51 : decode cX7_wordFrom 51 = .ok (.iload 5, 2) := ax_dec dX7_wordFrom_q0_ok 30 (51, .iload 5, 2) rfl
theorem dX7_wordFrom_53 : decode cX7_wordFrom 53 = .ok (.iadd, 1) := ax_dec dX7_wordFrom_q0_ok 31 (53, .iadd, 1) rfl
def dX7_wordFrom_q1 : List (Nat × (Instr × Nat)) := [(54, .iload_n 2, 1), (55, .if_icmp .ge 15, 3), (58, .aload_n 0, 1), (59, .getfield 31, 3), (62, .iload_n 1, 1), (63, .iload 5, 2), (65, .iadd, 1), (66, .iaload, 1), (67, .goto 5, 3), (70, .bipush 32, 2), (72, .if_icmp .ne 7, 3), (75, .iconst 1, 1), (76, .goto 4, 3), (79, .iconst 0, 1), (80, .istore 4, 2), (82, .iinc 5 1, 3), (85, .goto (-59), 3), (88, .iload 4, 2), (90, .ifCond .eq 5, 3), (93, .iload_n 3, 1), (94, .ireturn, 1), (95, .iinc 3 1, 3), (98, .goto (-96), 3), (101, .bipush 12, 2), (103, .ireturn, 1)]
set_option maxRecDepth 100000 in
theorem dX7_wordFrom_q1_ok : ax_decs cX7_wordFrom dX7_wordFrom_q1 = true := by decide +kernel
theorem dX7_wordFrom_54 : decode cX7_wordFrom 54 = .ok (.iload_n 2, 1) := ax_dec dX7_wordFrom_q1_ok 0 (54, .iload_n 2, 1) rfl
theorem dX7_wordFrom_55 : decode cX7_wordFrom 55 = .ok (.if_icmp .ge 15, 3) := ax_dec dX7_wordFrom_q1_ok 1 (55, .if_icmp .ge 15, 3) rfl
theorem dX7_wordFrom_58 : decode cX7_wordFrom 58 = .ok (.aload_n 0, 1) := ax_dec dX7_wordFrom_q1_ok 2 (58, .aload_n 0, 1) rfl
theorem dX7_wordFrom_59 : decode cX7_wordFrom 59 = .ok (.getfield 31, 3) := ax_dec dX7_wordFrom_q1_ok 3 (59, .getfield 31, 3) rfl
theorem dX7_wordFrom_62 : decode cX7_wordFrom 62 = .ok (.iload_n 1, 1) := ax_dec dX7_wordFrom_q1_ok 4 (62, .iload_n 1, 1) rfl
theorem dX7_wordFrom_63 : decode cX7_wordFrom 63 = .ok (.iload 5, 2) := ax_dec dX7_wordFrom_q1_ok 5 (63, .iload 5, 2) rfl
theorem dX7_wordFrom_65 : decode cX7_wordFrom 65 = .ok (.iadd, 1) := ax_dec dX7_wordFrom_q1_ok 6 (65, .iadd, 1) rfl
theorem dX7_wordFrom_66 : decode cX7_wordFrom 66 = .ok (.iaload, 1) := ax_dec dX7_wordFrom_q1_ok 7 (66, .iaload, 1) rfl
theorem dX7_wordFrom_67 : decode cX7_wordFrom 67 = .ok (.goto 5, 3) := ax_dec dX7_wordFrom_q1_ok 8 (67, .goto 5, 3) rfl
theorem dX7_wordFrom_70 : decode cX7_wordFrom 70 = .ok (.bipush 32, 2) := ax_dec dX7_wordFrom_q1_ok 9 (70, .bipush 32, 2) rfl
theorem dX7_wordFrom_72 : decode cX7_wordFrom 72 = .ok (.if_icmp .ne 7, 3) := ax_dec dX7_wordFrom_q1_ok 10 (72, .if_icmp .ne 7, 3) rfl
theorem dX7_wordFrom_75 : decode cX7_wordFrom 75 = .ok (.iconst 1, 1) := ax_dec dX7_wordFrom_q1_ok 11 (75, .iconst 1, 1) rfl
theorem dX7_wordFrom_76 : decode cX7_wordFrom 76 = .ok (.goto 4, 3) := ax_dec dX7_wordFrom_q1_ok 12 (76, .goto 4, 3) rfl
theorem dX7_wordFrom_79 : decode cX7_wordFrom 79 = .ok (.iconst 0, 1) := ax_dec dX7_wordFrom_q1_ok 13 (79, .iconst 0, 1) rfl
theorem dX7_wordFrom_80 : decode cX7_wordFrom 80 = .ok (.istore 4, 2) := ax_dec dX7_wordFrom_q1_ok 14 (80, .istore 4, 2) rfl
theorem dX7_wordFrom_82 : decode cX7_wordFrom 82 = .ok (.iinc 5 1, 3) := ax_dec dX7_wordFrom_q1_ok 15 (82, .iinc 5 1, 3) rfl
theorem dX7_wordFrom_85 : decode cX7_wordFrom 85 = .ok (.goto (-59), 3) := ax_dec dX7_wordFrom_q1_ok 16 (85, .goto (-59), 3) rfl
theorem dX7_wordFrom_88 : decode cX7_wordFrom 88 = .ok (.iload 4, 2) := ax_dec dX7_wordFrom_q1_ok 17 (88, .iload 4, 2) rfl
theorem dX7_wordFrom_90 : decode cX7_wordFrom 90 = .ok (.ifCond .eq 5, 3) := ax_dec dX7_wordFrom_q1_ok 18 (90, .ifCond .eq 5, 3) rfl
theorem dX7_wordFrom_93 : decode cX7_wordFrom 93 = .ok (.iload_n 3, 1) := ax_dec dX7_wordFrom_q1_ok 19 (93, .iload_n 3, 1) rfl
theorem dX7_wordFrom_94 : decode cX7_wordFrom 94 = .ok (.ireturn, 1) := ax_dec dX7_wordFrom_q1_ok 20 (94, .ireturn, 1) rfl
theorem dX7_wordFrom_95 : decode cX7_wordFrom 95 = .ok (.iinc 3 1, 3) := ax_dec dX7_wordFrom_q1_ok 21 (95, .iinc 3 1, 3) rfl
theorem dX7_wordFrom_98 : decode cX7_wordFrom 98 = .ok (.goto (-96), 3) := ax_dec dX7_wordFrom_q1_ok 22 (98, .goto (-96), 3) rfl
theorem dX7_wordFrom_101 : decode cX7_wordFrom 101 = .ok (.bipush 12, 2) := ax_dec dX7_wordFrom_q1_ok 23 (101, .bipush 12, 2) rfl
theorem dX7_wordFrom_103 : decode cX7_wordFrom 103 = .ok (.ireturn, 1) := ax_dec dX7_wordFrom_q1_ok 24 (103, .ireturn, 1) rfl
def dX7_next_q0 : List (Nat × (Instr × Nat)) := [(0, .aload_n 0, 1), (1, .getfield 117, 3), (4, .aload_n 0, 1), (5, .getfield 76, 3), (8, .if_icmp .ge 44, 3), (11, .aload_n 0, 1), (12, .getfield 31, 3), (15, .aload_n 0, 1), (16, .getfield 117, 3), (19, .iaload, 1), (20, .bipush 32, 2), (22, .if_icmp .eq 17, 3), (25, .aload_n 0, 1), (26, .getfield 31, 3), (29, .aload_n 0, 1), (30, .getfield 117, 3), (33, .iaload, 1), (34, .bipush 10, 2), (36, .if_icmp .ne 16, 3), (39, .aload_n 0, 1), (40, .dup, 1), (41, .getfield 117, 3), (44, .iconst 1, 1), (45, .iadd, 1), (46, .putfield 117, 3), (49, .goto (-49), 3), (52, .aload_n 0, 1), (53, .aload_n 0, 1), (54, .getfield 117, 3), (57, .putfield 120, 3), (60, .aload_n 0, 1), (61, .iconst 0, 1)]
set_option maxRecDepth 100000 in
theorem dX7_next_q0_ok : ax_decs cX7_next dX7_next_q0 = true := by decide +kernel
theorem dX7_next_0 : decode cX7_next 0 = .ok (.aload_n 0, 1) := ax_dec dX7_next_q0_ok 0 (0, .aload_n 0, 1) rfl
theorem dX7_next_1 : decode cX7_next 1 = .ok (.getfield 117, 3) := ax_dec dX7_next_q0_ok 1 (1, .getfield 117, 3) rfl
theorem dX7_next_4 : decode cX7_next 4 = .ok (.aload_n 0, 1) := ax_dec dX7_next_q0_ok 2 (4, .aload_n 0, 1) rfl
theorem dX7_next_5 : decode cX7_next 5 = .ok (.getfield 76, 3) := ax_dec dX7_next_q0_ok 3 (5, .getfield 76, 3) rfl
theorem dX7_next_8 : decode cX7_next 8 = .ok (.if_icmp .ge 44, 3) := ax_dec dX7_next_q0_ok 4 (8, .if_icmp .ge 44, 3) rfl
theorem dX7_next_11 : decode cX7_next 11 = .ok (.aload_n 0, 1) := ax_dec dX7_next_q0_ok 5 (11, .aload_n 0, 1) rfl
theorem dX7_next_12 : decode cX7_next 12 = .ok (.getfield 31, 3) := ax_dec dX7_next_q0_ok 6 (12, .getfield 31, 3) rfl
theorem dX7_next_15 : decode cX7_next 15 = .ok (.aload_n 0, 1) := ax_dec dX7_next_q0_ok 7 (15, .aload_n 0, 1) rfl
theorem dX7_next_16 : decode cX7_next 16 = .ok (.getfield 117, 3) := ax_dec dX7_next_q0_ok 8 (16, .getfield 117, 3) rfl
theorem dX7_next_19 : decode cX7_next 19 = .ok (.iaload, 1) := ax_dec dX7_next_q0_ok 9 (19, .iaload, 1) rfl
theorem dX7_next_20 : decode cX7_next 20 = .ok (.bipush 32, 2) := ax_dec dX7_next_q0_ok 10 (20, .bipush 32, 2) rfl
theorem dX7_next_22 : decode cX7_next 22 = .ok (.if_icmp .eq 17, 3) := ax_dec dX7_next_q0_ok 11 (22, .if_icmp .eq 17, 3) rfl
theorem dX7_next_25 : decode cX7_next 25 = .ok (.aload_n 0, 1) := ax_dec dX7_next_q0_ok 12 (25, .aload_n 0, 1) rfl
theorem dX7_next_26 : decode cX7_next 26 = .ok (.getfield 31, 3) := ax_dec dX7_next_q0_ok 13 (26, .getfield 31, 3) rfl
theorem dX7_next_29 : decode cX7_next 29 = .ok (.aload_n 0, 1) := ax_dec dX7_next_q0_ok 14 (29, .aload_n 0, 1) rfl
theorem dX7_next_30 : decode cX7_next 30 = .ok (.getfield 117, 3) := ax_dec dX7_next_q0_ok 15 (30, .getfield 117, 3) rfl
theorem dX7_next_33 : decode cX7_next 33 = .ok (.iaload, 1) := ax_dec dX7_next_q0_ok 16 (33, .iaload, 1) rfl
theorem dX7_next_34 : decode cX7_next 34 = .ok (.bipush 10, 2) := ax_dec dX7_next_q0_ok 17 (34, .bipush 10, 2) rfl
theorem dX7_next_36 : decode cX7_next 36 = .ok (.if_icmp .ne 16, 3) := ax_dec dX7_next_q0_ok 18 (36, .if_icmp .ne 16, 3) rfl
theorem dX7_next_39 : decode cX7_next 39 = .ok (.aload_n 0, 1) := ax_dec dX7_next_q0_ok 19 (39, .aload_n 0, 1) rfl
theorem dX7_next_40 : decode cX7_next 40 = .ok (.dup, 1) := ax_dec dX7_next_q0_ok 20 (40, .dup, 1) rfl
theorem dX7_next_41 : decode cX7_next 41 = .ok (.getfield 117, 3) := ax_dec dX7_next_q0_ok 21 (41, .getfield 117, 3) rfl
theorem dX7_next_44 : decode cX7_next 44 = .ok (.iconst 1, 1) := ax_dec dX7_next_q0_ok 22 (44, .iconst 1, 1) rfl
theorem dX7_next_45 : decode cX7_next 45 = .ok (.iadd, 1) := ax_dec dX7_next_q0_ok 23 (45, .iadd, 1) rfl
theorem dX7_next_46 : decode cX7_next 46 = .ok (.putfield 117, 3) := ax_dec dX7_next_q0_ok 24 (46, .putfield 117, 3) rfl
theorem dX7_next_49 : decode cX7_next 49 = .ok (.goto (-49), 3) := ax_dec dX7_next_q0_ok 25 (49, .goto (-49), 3) rfl
theorem dX7_next_52 : decode cX7_next 52 = .ok (.aload_n 0, 1) := ax_dec dX7_next_q0_ok 26 (52, .aload_n 0, 1) rfl
theorem dX7_next_53 : decode cX7_next 53 = .ok (.aload_n 0, 1) := ax_dec dX7_next_q0_ok 27 (53, .aload_n 0, 1) rfl
theorem dX7_next_54 : decode cX7_next 54 = .ok (.getfield 117, 3) := ax_dec dX7_next_q0_ok 28 (54, .getfield 117, 3) rfl
theorem dX7_next_57 : decode cX7_next 57 = .ok (.putfield 120, 3) := ax_dec dX7_next_q0_ok 29 (57, .putfield 120, 3) rfl
theorem dX7_next_60 : decode cX7_next 60 = .ok (.aload_n 0, 1) := ax_dec dX7_next_q0_ok 30 (60, .aload_n 0, 1) rfl
theorem dX7_next_61 : decode cX7_next 61 = .ok (.iconst 0, 1) := ax_dec dX7_next_q0_ok 31 (61, .iconst 0, 1) rfl
def dX7_next_q1 : List (Nat × (Instr × Nat)) := [(62, .putfield 123, 3), (65, .aload_n 0, 1), (66, .iconst 0, 1), (67, .putfield 126, 3), (70, .aload_n 0, 1), (71, .getfield 117, 3), (74, .aload_n 0, 1), (75, .getfield 76, 3), (78, .if_icmp .ne 4, 3), (81, .return_, 1), (82, .aload_n 0, 1), (83, .getfield 31, 3), (86, .aload_n 0, 1), (87, .getfield 117, 3), (90, .iaload, 1), (91, .istore_n 1, 1), (92, .iload_n 1, 1), (93, .bipush 97, 2), (95, .bipush 122, 2), (97, .invokestatic 87, 3), (100, .ifCond .eq 117, 3), (103, .aload_n 0, 1), (104, .getfield 117, 3), (107, .aload_n 0, 1), (108, .getfield 76, 3), (111, .if_icmp .ge 35, 3), (114, .aload_n 0, 1), (115, .getfield 31, 3), (118, .aload_n 0, 1), (119, .getfield 117, 3), (122, .iaload, 1), (123, .bipush 97, 2)]
set_option maxRecDepth 100000 in
theorem dX7_next_q1_ok : ax_decs cX7_next dX7_next_q1 = true := by decide +kernel
theorem dX7_next_62 : decode cX7_next 62 = .ok (.putfield 123, 3) := ax_dec dX7_next_q1_ok 0 (62, .putfield 123, 3) rfl
theorem dX7_next_65 : decode cX7_next 65 = .ok (.aload_n 0, 1) := ax_dec dX7_next_q1_ok 1 (65, .aload_n 0, 1) rfl
theorem dX7_next_66 : decode cX7_next 66 = .ok (.iconst 0, 1) := ax_dec dX7_next_q1_ok 2 (66, .iconst 0, 1) rfl
theorem dX7_next_67 : decode cX7_next 67 = .ok (.putfield 126, 3) := ax_dec dX7_next_q1_ok 3 (67, .putfield 126, 3) rfl
theorem dX7_next_70 : decode cX7_next 70 = .ok (.aload_n 0, 1) := ax_dec dX7_next_q1_ok 4 (70, .aload_n 0, 1) rfl
theorem dX7_next_71 : decode cX7_next 71 = .ok (.getfield 117, 3) := ax_dec dX7_next_q1_ok 5 (71, .getfield 117, 3) rfl
theorem dX7_next_74 : decode cX7_next 74 = .ok (.aload_n 0, 1) := ax_dec dX7_next_q1_ok 6 (74, .aload_n 0, 1) rfl
theorem dX7_next_75 : decode cX7_next 75 = .ok (.getfield 76, 3) := ax_dec dX7_next_q1_ok 7 (75, .getfield 76, 3) rfl
theorem dX7_next_78 : decode cX7_next 78 = .ok (.if_icmp .ne 4, 3) := ax_dec dX7_next_q1_ok 8 (78, .if_icmp .ne 4, 3) rfl
theorem dX7_next_81 : decode cX7_next 81 = .ok (.return_, 1) := ax_dec dX7_next_q1_ok 9 (81, .return_, 1) rfl
theorem dX7_next_82 : decode cX7_next 82 = .ok (.aload_n 0, 1) := ax_dec dX7_next_q1_ok 10 (82, .aload_n 0, 1) rfl
theorem dX7_next_83 : decode cX7_next 83 = .ok (.getfield 31, 3) := ax_dec dX7_next_q1_ok 11 (83, .getfield 31, 3) rfl
theorem dX7_next_86 : decode cX7_next 86 = .ok (.aload_n 0, 1) := ax_dec dX7_next_q1_ok 12 (86, .aload_n 0, 1) rfl
theorem dX7_next_87 : decode cX7_next 87 = .ok (.getfield 117, 3) := ax_dec dX7_next_q1_ok 13 (87, .getfield 117, 3) rfl
theorem dX7_next_90 : decode cX7_next 90 = .ok (.iaload, 1) := ax_dec dX7_next_q1_ok 14 (90, .iaload, 1) rfl
theorem dX7_next_91 : decode cX7_next 91 = .ok (.istore_n 1, 1) := ax_dec dX7_next_q1_ok 15 (91, .istore_n 1, 1) rfl
theorem dX7_next_92 : decode cX7_next 92 = .ok (.iload_n 1, 1) := ax_dec dX7_next_q1_ok 16 (92, .iload_n 1, 1) rfl
theorem dX7_next_93 : decode cX7_next 93 = .ok (.bipush 97, 2) := ax_dec dX7_next_q1_ok 17 (93, .bipush 97, 2) rfl
theorem dX7_next_95 : decode cX7_next 95 = .ok (.bipush 122, 2) := ax_dec dX7_next_q1_ok 18 (95, .bipush 122, 2) rfl
theorem dX7_next_97 : decode cX7_next 97 = .ok (.invokestatic 87, 3) := ax_dec dX7_next_q1_ok 19 (97, .invokestatic 87, 3) rfl
theorem dX7_next_100 : decode cX7_next 100 = .ok (.ifCond .eq 117, 3) := ax_dec dX7_next_q1_ok 20 (100, .ifCond .eq 117, 3) rfl
theorem dX7_next_103 : decode cX7_next 103 = .ok (.aload_n 0, 1) := ax_dec dX7_next_q1_ok 21 (103, .aload_n 0, 1) rfl
theorem dX7_next_104 : decode cX7_next 104 = .ok (.getfield 117, 3) := ax_dec dX7_next_q1_ok 22 (104, .getfield 117, 3) rfl
theorem dX7_next_107 : decode cX7_next 107 = .ok (.aload_n 0, 1) := ax_dec dX7_next_q1_ok 23 (107, .aload_n 0, 1) rfl
theorem dX7_next_108 : decode cX7_next 108 = .ok (.getfield 76, 3) := ax_dec dX7_next_q1_ok 24 (108, .getfield 76, 3) rfl
theorem dX7_next_111 : decode cX7_next 111 = .ok (.if_icmp .ge 35, 3) := ax_dec dX7_next_q1_ok 25 (111, .if_icmp .ge 35, 3) rfl
theorem dX7_next_114 : decode cX7_next 114 = .ok (.aload_n 0, 1) := ax_dec dX7_next_q1_ok 26 (114, .aload_n 0, 1) rfl
theorem dX7_next_115 : decode cX7_next 115 = .ok (.getfield 31, 3) := ax_dec dX7_next_q1_ok 27 (115, .getfield 31, 3) rfl
theorem dX7_next_118 : decode cX7_next 118 = .ok (.aload_n 0, 1) := ax_dec dX7_next_q1_ok 28 (118, .aload_n 0, 1) rfl
theorem dX7_next_119 : decode cX7_next 119 = .ok (.getfield 117, 3) := ax_dec dX7_next_q1_ok 29 (119, .getfield 117, 3) rfl
theorem dX7_next_122 : decode cX7_next 122 = .ok (.iaload, 1) := ax_dec dX7_next_q1_ok 30 (122, .iaload, 1) rfl
theorem dX7_next_123 : decode cX7_next 123 = .ok (.bipush 97, 2) := ax_dec dX7_next_q1_ok 31 (123, .bipush 97, 2) rfl
def dX7_next_q2 : List (Nat × (Instr × Nat)) := [(125, .bipush 122, 2), (127, .invokestatic 87, 3), (130, .ifCond .eq 16, 3), (133, .aload_n 0, 1), (134, .dup, 1), (135, .getfield 117, 3), (138, .iconst 1, 1), (139, .iadd, 1), (140, .putfield 117, 3), (143, .goto (-40), 3), (146, .aload_n 0, 1), (147, .aload_n 0, 1), (148, .getfield 120, 3), (151, .aload_n 0, 1), (152, .getfield 117, 3), (155, .invokevirtual 129, 3), (158, .istore_n 2, 1), (159, .aload_n 0, 1), (160, .iload_n 2, 1), (161, .iconst 3, 1), (162, .if_icmp .ge 7, 3), (165, .iconst 3, 1), (166, .goto 29, 3), (169, .iload_n 2, 1), (170, .bipush 9, 2), (172, .if_icmp .ge 7, 3), (175, .iconst 2, 1), (176, .goto 19, 3), (179, .iload_n 2, 1), (180, .bipush 12, 2), (182, .if_icmp .ne 7, 3), (185, .iconst (-1), 1)]
set_option maxRecDepth 100000 in
theorem dX7_next_q2_ok : ax_decs cX7_next dX7_next_q2 = true := by decide +kernel
theorem dX7_next_125 : decode cX7_next 125 = .ok (.bipush 122, 2) := ax_dec dX7_next_q2_ok 0 (125, .bipush 122, 2) rfl
theorem dX7_next_127 : decode cX7_next 127 = .ok (.invokestatic 87, 3) := ax_dec dX7_next_q2_ok 1 (127, .invokestatic 87, 3) rfl
theorem dX7_next_130 : decode cX7_next 130 = .ok (.ifCond .eq 16, 3) := ax_dec dX7_next_q2_ok 2 (130, .ifCond .eq 16, 3) rfl
theorem dX7_next_133 : decode cX7_next 133 = .ok (.aload_n 0, 1) := ax_dec dX7_next_q2_ok 3 (133, .aload_n 0, 1) rfl
theorem dX7_next_134 : decode cX7_next 134 = .ok (.dup, 1) := ax_dec dX7_next_q2_ok 4 (134, .dup, 1) rfl
theorem dX7_next_135 : decode cX7_next 135 = .ok (.getfield 117, 3) := ax_dec dX7_next_q2_ok 5 (135, .getfield 117, 3) rfl
theorem dX7_next_138 : decode cX7_next 138 = .ok (.iconst 1, 1) := ax_dec dX7_next_q2_ok 6 (138, .iconst 1, 1) rfl
theorem dX7_next_139 : decode cX7_next 139 = .ok (.iadd, 1) := ax_dec dX7_next_q2_ok 7 (139, .iadd, 1) rfl
theorem dX7_next_140 : decode cX7_next 140 = .ok (.putfield 117, 3) := ax_dec dX7_next_q2_ok 8 (140, .putfield 117, 3) rfl
theorem dX7_next_143 : decode cX7_next 143 = .ok (.goto (-40), 3) := ax_dec dX7_next_q2_ok 9 (143, .goto (-40), 3) rfl
theorem dX7_next_146 : decode cX7_next 146 = .ok (.aload_n 0, 1) := ax_dec dX7_next_q2_ok 10 (146, .aload_n 0, 1) rfl
theorem dX7_next_147 : decode cX7_next 147 = .ok (.aload_n 0, 1) := ax_dec dX7_next_q2_ok 11 (147, .aload_n 0, 1) rfl
theorem dX7_next_148 : decode cX7_next 148 = .ok (.getfield 120, 3) := ax_dec dX7_next_q2_ok 12 (148, .getfield 120, 3) rfl
theorem dX7_next_151 : decode cX7_next 151 = .ok (.aload_n 0, 1) := ax_dec dX7_next_q2_ok 13 (151, .aload_n 0, 1) rfl
theorem dX7_next_152 : decode cX7_next 152 = .ok (.getfield 117, 3) := ax_dec dX7_next_q2_ok 14 (152, .getfield 117, 3) rfl
theorem dX7_next_155 : decode cX7_next 155 = .ok (.invokevirtual 129, 3) := ax_dec dX7_next_q2_ok 15 (155, .invokevirtual 129, 3) rfl
theorem dX7_next_158 : decode cX7_next 158 = .ok (.istore_n 2, 1) := ax_dec dX7_next_q2_ok 16 (158, .istore_n 2, 1) rfl
theorem dX7_next_159 : decode cX7_next 159 = .ok (.aload_n 0, 1) := ax_dec dX7_next_q2_ok 17 (159, .aload_n 0, 1) rfl
theorem dX7_next_160 : decode cX7_next 160 = .ok (.iload_n 2, 1) := ax_dec dX7_next_q2_ok 18 (160, .iload_n 2, 1) rfl
theorem dX7_next_161 : decode cX7_next 161 = .ok (.iconst 3, 1) := ax_dec dX7_next_q2_ok 19 (161, .iconst 3, 1) rfl
theorem dX7_next_162 : decode cX7_next 162 = .ok (.if_icmp .ge 7, 3) := ax_dec dX7_next_q2_ok 20 (162, .if_icmp .ge 7, 3) rfl
theorem dX7_next_165 : decode cX7_next 165 = .ok (.iconst 3, 1) := ax_dec dX7_next_q2_ok 21 (165, .iconst 3, 1) rfl
theorem dX7_next_166 : decode cX7_next 166 = .ok (.goto 29, 3) := ax_dec dX7_next_q2_ok 22 (166, .goto 29, 3) rfl
theorem dX7_next_169 : decode cX7_next 169 = .ok (.iload_n 2, 1) := ax_dec dX7_next_q2_ok 23 (169, .iload_n 2, 1) rfl
theorem dX7_next_170 : decode cX7_next 170 = .ok (.bipush 9, 2) := ax_dec dX7_next_q2_ok 24 (170, .bipush 9, 2) rfl
theorem dX7_next_172 : decode cX7_next 172 = .ok (.if_icmp .ge 7, 3) := ax_dec dX7_next_q2_ok 25 (172, .if_icmp .ge 7, 3) rfl
theorem dX7_next_175 : decode cX7_next 175 = .ok (.iconst 2, 1) := ax_dec dX7_next_q2_ok 26 (175, .iconst 2, 1) rfl
theorem dX7_next_176 : decode cX7_next 176 = .ok (.goto 19, 3) := ax_dec dX7_next_q2_ok 27 (176, .goto 19, 3) rfl
theorem dX7_next_179 : decode cX7_next 179 = .ok (.iload_n 2, 1) := ax_dec dX7_next_q2_ok 28 (179, .iload_n 2, 1) rfl
theorem dX7_next_180 : decode cX7_next 180 = .ok (.bipush 12, 2) := ax_dec dX7_next_q2_ok 29 (180, .bipush 12, 2) rfl
theorem dX7_next_182 : decode cX7_next 182 = .ok (.if_icmp .ne 7, 3) := ax_dec dX7_next_q2_ok 30 (182, .if_icmp .ne 7, 3) rfl
theorem dX7_next_185 : decode cX7_next 185 = .ok (.iconst (-1), 1) := ax_dec dX7_next_q2_ok 31 (185, .iconst (-1), 1) rfl
def dX7_next_q3 : List (Nat × (Instr × Nat)) := [(186, .goto 9, 3), (189, .iconst 4, 1), (190, .iload_n 2, 1), (191, .iadd, 1), (192, .bipush 9, 2), (194, .isub, 1), (195, .putfield 123, 3), (198, .aload_n 0, 1), (199, .iload_n 2, 1), (200, .iconst 3, 1), (201, .if_icmp .ge 7, 3), (204, .iload_n 2, 1), (205, .goto 6, 3), (208, .iload_n 2, 1), (209, .iconst 3, 1), (210, .isub, 1), (211, .putfield 126, 3), (214, .goto 189, 3), (217, .iload_n 1, 1), (218, .bipush 48, 2), (220, .bipush 57, 2), (222, .invokestatic 87, 3), (225, .ifCond .eq 101, 3), (228, .iconst 0, 1), (229, .istore_n 2, 1), (230, .aload_n 0, 1), (231, .getfield 117, 3), (234, .aload_n 0, 1), (235, .getfield 76, 3), (238, .if_icmp .ge 71, 3), (241, .aload_n 0, 1), (242, .getfield 31, 3)]
set_option maxRecDepth 100000 in
theorem dX7_next_q3_ok : ax_decs cX7_next dX7_next_q3 = true := by decide +kernel
theorem dX7_next_186 : decode cX7_next 186 = .ok (.goto 9, 3) := ax_dec dX7_next_q3_ok 0 (186, .goto 9, 3) rfl
theorem dX7_next_189 : decode cX7_next 189 = .ok (.iconst 4, 1) := ax_dec dX7_next_q3_ok 1 (189, .iconst 4, 1) rfl
theorem dX7_next_190 : decode cX7_next 190 = .ok (.iload_n 2, 1) := ax_dec dX7_next_q3_ok 2 (190, .iload_n 2, 1) rfl
theorem dX7_next_191 : decode cX7_next 191 = .ok (.iadd, 1) := ax_dec dX7_next_q3_ok 3 (191, .iadd, 1) rfl
theorem dX7_next_192 : decode cX7_next 192 = .ok (.bipush 9, 2) := ax_dec dX7_next_q3_ok 4 (192, .bipush 9, 2) rfl
theorem dX7_next_194 : decode cX7_next 194 = .ok (.isub, 1) := ax_dec dX7_next_q3_ok 5 (194, .isub, 1) rfl
theorem dX7_next_195 : decode cX7_next 195 = .ok (.putfield 123, 3) := ax_dec dX7_next_q3_ok 6 (195, .putfield 123, 3) rfl
theorem dX7_next_198 : decode cX7_next 198 = .ok (.aload_n 0, 1) := ax_dec dX7_next_q3_ok 7 (198, .aload_n 0, 1) rfl
theorem dX7_next_199 : decode cX7_next 199 = .ok (.iload_n 2, 1) := ax_dec dX7_next_q3_ok 8 (199, .iload_n 2, 1) rfl
theorem dX7_next_200 : decode cX7_next 200 = .ok (.iconst 3, 1) := ax_dec dX7_next_q3_ok 9 (200, .iconst 3, 1) rfl
theorem dX7_next_201 : decode cX7_next 201 = .ok (.if_icmp .ge 7, 3) := ax_dec dX7_next_q3_ok 10 (201, .if_icmp .ge 7, 3) rfl
theorem dX7_next_204 : decode cX7_next 204 = .ok (.iload_n 2, 1) := ax_dec dX7_next_q3_ok 11 (204, .iload_n 2, 1) rfl
theorem dX7_next_205 : decode cX7_next 205 = .ok (.goto 6, 3) := ax_dec dX7_next_q3_ok 12 (205, .goto 6, 3) rfl
theorem dX7_next_208 : decode cX7_next 208 = .ok (.iload_n 2, 1) := ax_dec dX7_next_q3_ok 13 (208, .iload_n 2, 1) rfl
theorem dX7_next_209 : decode cX7_next 209 = .ok (.iconst 3, 1) := ax_dec dX7_next_q3_ok 14 (209, .iconst 3, 1) rfl
theorem dX7_next_210 : decode cX7_next 210 = .ok (.isub, 1) := ax_dec dX7_next_q3_ok 15 (210, .isub, 1) rfl
theorem dX7_next_211 : decode cX7_next 211 = .ok (.putfield 126, 3) := ax_dec dX7_next_q3_ok 16 (211, .putfield 126, 3) rfl
theorem dX7_next_214 : decode cX7_next 214 = .ok (.goto 189, 3) := ax_dec dX7_next_q3_ok 17 (214, .goto 189, 3) rfl
theorem dX7_next_217 : decode cX7_next 217 = .ok (.iload_n 1, 1) := ax_dec dX7_next_q3_ok 18 (217, .iload_n 1, 1) rfl
theorem dX7_next_218 : decode cX7_next 218 = .ok (.bipush 48, 2) := ax_dec dX7_next_q3_ok 19 (218, .bipush 48, 2) rfl
theorem dX7_next_220 : decode cX7_next 220 = .ok (.bipush 57, 2) := ax_dec dX7_next_q3_ok 20 (220, .bipush 57, 2) rfl
theorem dX7_next_222 : decode cX7_next 222 = .ok (.invokestatic 87, 3) := ax_dec dX7_next_q3_ok 21 (222, .invokestatic 87, 3) rfl
theorem dX7_next_225 : decode cX7_next 225 = .ok (.ifCond .eq 101, 3) := ax_dec dX7_next_q3_ok 22 (225, .ifCond .eq 101, 3) rfl
theorem dX7_next_228 : decode cX7_next 228 = .ok (.iconst 0, 1) := ax_dec dX7_next_q3_ok 23 (228, .iconst 0, 1) rfl
theorem dX7_next_229 : decode cX7_next 229 = .ok (.istore_n 2, 1) := ax_dec dX7_next_q3_ok 24 (229, .istore_n 2, 1) rfl
theorem dX7_next_230 : decode cX7_next 230 = .ok (.aload_n 0, 1) := ax_dec dX7_next_q3_ok 25 (230, .aload_n 0, 1) rfl
theorem dX7_next_231 : decode cX7_next 231 = .ok (.getfield 117, 3) := ax_dec dX7_next_q3_ok 26 (231, .getfield 117, 3) rfl
theorem dX7_next_234 : decode cX7_next 234 = .ok (.aload_n 0, 1) := ax_dec dX7_next_q3_ok 27 (234, .aload_n 0, 1) rfl
theorem dX7_next_235 : decode cX7_next 235 = .ok (.getfield 76, 3) := ax_dec dX7_next_q3_ok 28 (235, .getfield 76, 3) rfl
theorem dX7_next_238 : decode cX7_next 238 = .ok (.if_icmp .ge 71, 3) := ax_dec dX7_next_q3_ok 29 (238, .if_icmp .ge 71, 3) rfl
theorem dX7_next_241 : decode cX7_next 241 = .ok (.aload_n 0, 1) := ax_dec dX7_next_q3_ok 30 (241, .aload_n 0, 1) rfl
theorem dX7_next_242 : decode cX7_next 242 = .ok (.getfield 31, 3) := ax_dec dX7_next_q3_ok 31 (242, .getfield 31, 3) rfl
def dX7_next_q4 : List (Nat × (Instr × Nat)) := [(245, .aload_n 0, 1), (246, .getfield 117, 3), (249, .iaload, 1), (250, .bipush 48, 2), (252, .bipush 57, 2), (254, .invokestatic 87, 3), (257, .ifCond .eq 52, 3), (260, .aload_n 0, 1), (261, .iload_n 2, 1), (262, .iconst 4, 1), (263, .if_icmp .ge 26, 3), (266, .bipush 10, 2), (268, .aload_n 0, 1), (269, .getfield 126, 3), (272, .imul, 1), (273, .aload_n 0, 1), (274, .getfield 31, 3), (277, .aload_n 0, 1), (278, .getfield 117, 3), (281, .iaload, 1), (282, .iadd, 1), (283, .bipush 48, 2), (285, .isub, 1), (286, .goto 4, 3), (289, .iconst 0, 1), (290, .putfield 126, 3), (293, .iinc 2 1, 3), (296, .aload_n 0, 1), (297, .dup, 1), (298, .getfield 117, 3), (301, .iconst 1, 1), (302, .iadd, 1)]
set_option maxRecDepth 100000 in
theorem dX7_next_q4_ok : ax_decs cX7_next dX7_next_q4 = true := by decide +kernel
theorem dX7_next_245 : decode cX7_next 245 = .ok (.aload_n 0, 1) := ax_dec dX7_next_q4_ok 0 (245, .aload_n 0, 1) rfl
theorem dX7_next_246 : decode cX7_next 246 = .ok (.getfield 117, 3) := ax_dec dX7_next_q4_ok 1 (246, .getfield 117, 3) rfl
theorem dX7_next_249 : decode cX7_next 249 = .ok (.iaload, 1) := ax_dec dX7_next_q4_ok 2 (249, .iaload, 1) rfl
theorem dX7_next_250 : decode cX7_next 250 = .ok (.bipush 48, 2) := ax_dec dX7_next_q4_ok 3 (250, .bipush 48, 2) rfl
theorem dX7_next_252 : decode cX7_next 252 = .ok (.bipush 57, 2) := ax_dec dX7_next_q4_ok 4 (252, .bipush 57, 2) rfl
theorem dX7_next_254 : decode cX7_next 254 = .ok (.invokestatic 87, 3) := ax_dec dX7_next_q4_ok 5 (254, .invokestatic 87, 3) rfl
theorem dX7_next_257 : decode cX7_next 257 = .ok (.ifCond .eq 52, 3) := ax_dec dX7_next_q4_ok 6 (257, .ifCond .eq 52, 3) rfl
theorem dX7_next_260 : decode cX7_next 260 = .ok (.aload_n 0, 1) := ax_dec dX7_next_q4_ok 7 (260, .aload_n 0, 1) rfl
theorem dX7_next_261 : decode cX7_next 261 = .ok (.iload_n 2, 1) := ax_dec dX7_next_q4_ok 8 (261, .iload_n 2, 1) rfl
theorem dX7_next_262 : decode cX7_next 262 = .ok (.iconst 4, 1) := ax_dec dX7_next_q4_ok 9 (262, .iconst 4, 1) rfl
theorem dX7_next_263 : decode cX7_next 263 = .ok (.if_icmp .ge 26, 3) := ax_dec dX7_next_q4_ok 10 (263, .if_icmp .ge 26, 3) rfl
theorem dX7_next_266 : decode cX7_next 266 = .ok (.bipush 10, 2) := ax_dec dX7_next_q4_ok 11 (266, .bipush 10, 2) rfl
theorem dX7_next_268 : decode cX7_next 268 = .ok (.aload_n 0, 1) := ax_dec dX7_next_q4_ok 12 (268, .aload_n 0, 1) rfl
theorem dX7_next_269 : decode cX7_next 269 = .ok (.getfield 126, 3) := ax_dec dX7_next_q4_ok 13 (269, .getfield 126, 3) rfl
theorem dX7_next_272 : decode cX7_next 272 = .ok (.imul, 1) := ax_dec dX7_next_q4_ok 14 (272, .imul, 1) rfl
theorem dX7_next_273 : decode cX7_next 273 = .ok (.aload_n 0, 1) := ax_dec dX7_next_q4_ok 15 (273, .aload_n 0, 1) rfl
theorem dX7_next_274 : decode cX7_next 274 = .ok (.getfield 31, 3) := ax_dec dX7_next_q4_ok 16 (274, .getfield 31, 3) rfl
theorem dX7_next_277 : decode cX7_next 277 = .ok (.aload_n 0, 1) := ax_dec dX7_next_q4_ok 17 (277, .aload_n 0, 1) rfl
theorem dX7_next_278 : decode cX7_next 278 = .ok (.getfield 117, 3) := ax_dec dX7_next_q4_ok 18 (278, .getfield 117, 3) rfl
theorem dX7_next_281 : decode cX7_next 281 = .ok (.iaload, 1) := ax_dec dX7_next_q4_ok 19 (281, .iaload, 1) rfl
theorem dX7_next_282 : decode cX7_next 282 = .ok (.iadd, 1) := ax_dec dX7_next_q4_ok 20 (282, .iadd, 1) rfl
theorem dX7_next_283 : decode cX7_next 283 = .ok (.bipush 48, 2) := ax_dec dX7_next_q4_ok 21 (283, .bipush 48, 2) rfl
theorem dX7_next_285 : decode cX7_next 285 = .ok (.isub, 1) := ax_dec dX7_next_q4_ok 22 (285, .isub, 1) rfl
theorem dX7_next_286 : decode cX7_next 286 = .ok (.goto 4, 3) := ax_dec dX7_next_q4_ok 23 (286, .goto 4, 3) rfl
theorem dX7_next_289 : decode cX7_next 289 = .ok (.iconst 0, 1) := ax_dec dX7_next_q4_ok 24 (289, .iconst 0, 1) rfl
theorem dX7_next_290 : decode cX7_next 290 = .ok (.putfield 126, 3) := ax_dec dX7_next_q4_ok 25 (290, .putfield 126, 3) rfl
theorem dX7_next_293 : decode cX7_next 293 = .ok (.iinc 2 1, 3) := ax_dec dX7_next_q4_ok 26 (293, .iinc 2 1, 3) rfl
theorem dX7_next_296 : decode cX7_next 296 = .ok (.aload_n 0, 1) := ax_dec dX7_next_q4_ok 27 (296, .aload_n 0, 1) rfl
theorem dX7_next_297 : decode cX7_next 297 = .ok (.dup, 1) := ax_dec dX7_next_q4_ok 28 (297, .dup, 1) rfl
theorem dX7_next_298 : decode cX7_next 298 = .ok (.getfield 117, 3) := ax_dec dX7_next_q4_ok 29 (298, .getfield 117, 3) rfl
theorem dX7_next_301 : decode cX7_next 301 = .ok (.iconst 1, 1) := ax_dec dX7_next_q4_ok 30 (301, .iconst 1, 1) rfl
theorem dX7_next_302 : decode cX7_next 302 = .ok (.iadd, 1) := ax_dec dX7_next_q4_ok 31 (302, .iadd, 1) rfl
def dX7_next_q5 : List (Nat × (Instr × Nat)) := [(303, .putfield 117, 3), (306, .goto (-76), 3), (309, .aload_n 0, 1), (310, .iload_n 2, 1), (311, .iconst 4, 1), (312, .if_icmp .le 7, 3), (315, .iconst (-1), 1), (316, .goto 4, 3), (319, .iconst 1, 1), (320, .putfield 123, 3), (323, .goto 80, 3), (326, .iload_n 1, 1), (327, .bipush 40, 2), (329, .if_icmp .eq 45, 3), (332, .iload_n 1, 1), (333, .bipush 41, 2), (335, .if_icmp .eq 39, 3), (338, .iload_n 1, 1), (339, .bipush 59, 2), (341, .if_icmp .eq 33, 3), (344, .iload_n 1, 1), (345, .bipush 43, 2), (347, .if_icmp .eq 27, 3), (350, .iload_n 1, 1), (351, .bipush 45, 2), (353, .if_icmp .eq 21, 3), (356, .iload_n 1, 1), (357, .bipush 42, 2), (359, .if_icmp .eq 15, 3), (362, .iload_n 1, 1), (363, .bipush 60, 2), (365, .if_icmp .eq 9, 3)]
set_option maxRecDepth 100000 in
theorem dX7_next_q5_ok : ax_decs cX7_next dX7_next_q5 = true := by decide +kernel
theorem dX7_next_303 : decode cX7_next 303 = .ok (.putfield 117, 3) := ax_dec dX7_next_q5_ok 0 (303, .putfield 117, 3) rfl
theorem dX7_next_306 : decode cX7_next 306 = .ok (.goto (-76), 3) := ax_dec dX7_next_q5_ok 1 (306, .goto (-76), 3) rfl
theorem dX7_next_309 : decode cX7_next 309 = .ok (.aload_n 0, 1) := ax_dec dX7_next_q5_ok 2 (309, .aload_n 0, 1) rfl
theorem dX7_next_310 : decode cX7_next 310 = .ok (.iload_n 2, 1) := ax_dec dX7_next_q5_ok 3 (310, .iload_n 2, 1) rfl
theorem dX7_next_311 : decode cX7_next 311 = .ok (.iconst 4, 1) := ax_dec dX7_next_q5_ok 4 (311, .iconst 4, 1) rfl
theorem dX7_next_312 : decode cX7_next 312 = .ok (.if_icmp .le 7, 3) := ax_dec dX7_next_q5_ok 5 (312, .if_icmp .le 7, 3) rfl
theorem dX7_next_315 : decode cX7_next 315 = .ok (.iconst (-1), 1) := ax_dec dX7_next_q5_ok 6 (315, .iconst (-1), 1) rfl
theorem dX7_next_316 : decode cX7_next 316 = .ok (.goto 4, 3) := ax_dec dX7_next_q5_ok 7 (316, .goto 4, 3) rfl
theorem dX7_next_319 : decode cX7_next 319 = .ok (.iconst 1, 1) := ax_dec dX7_next_q5_ok 8 (319, .iconst 1, 1) rfl
theorem dX7_next_320 : decode cX7_next 320 = .ok (.putfield 123, 3) := ax_dec dX7_next_q5_ok 9 (320, .putfield 123, 3) rfl
theorem dX7_next_323 : decode cX7_next 323 = .ok (.goto 80, 3) := ax_dec dX7_next_q5_ok 10 (323, .goto 80, 3) rfl
theorem dX7_next_326 : decode cX7_next 326 = .ok (.iload_n 1, 1) := ax_dec dX7_next_q5_ok 11 (326, .iload_n 1, 1) rfl
theorem dX7_next_327 : decode cX7_next 327 = .ok (.bipush 40, 2) := ax_dec dX7_next_q5_ok 12 (327, .bipush 40, 2) rfl
theorem dX7_next_329 : decode cX7_next 329 = .ok (.if_icmp .eq 45, 3) := ax_dec dX7_next_q5_ok 13 (329, .if_icmp .eq 45, 3) rfl
theorem dX7_next_332 : decode cX7_next 332 = .ok (.iload_n 1, 1) := ax_dec dX7_next_q5_ok 14 (332, .iload_n 1, 1) rfl
theorem dX7_next_333 : decode cX7_next 333 = .ok (.bipush 41, 2) := ax_dec dX7_next_q5_ok 15 (333, .bipush 41, 2) rfl
theorem dX7_next_335 : decode cX7_next 335 = .ok (.if_icmp .eq 39, 3) := ax_dec dX7_next_q5_ok 16 (335, .if_icmp .eq 39, 3) rfl
theorem dX7_next_338 : decode cX7_next 338 = .ok (.iload_n 1, 1) := ax_dec dX7_next_q5_ok 17 (338, .iload_n 1, 1) rfl
theorem dX7_next_339 : decode cX7_next 339 = .ok (.bipush 59, 2) := ax_dec dX7_next_q5_ok 18 (339, .bipush 59, 2) rfl
theorem dX7_next_341 : decode cX7_next 341 = .ok (.if_icmp .eq 33, 3) := ax_dec dX7_next_q5_ok 19 (341, .if_icmp .eq 33, 3) rfl
theorem dX7_next_344 : decode cX7_next 344 = .ok (.iload_n 1, 1) := ax_dec dX7_next_q5_ok 20 (344, .iload_n 1, 1) rfl
theorem dX7_next_345 : decode cX7_next 345 = .ok (.bipush 43, 2) := ax_dec dX7_next_q5_ok 21 (345, .bipush 43, 2) rfl
theorem dX7_next_347 : decode cX7_next 347 = .ok (.if_icmp .eq 27, 3) := ax_dec dX7_next_q5_ok 22 (347, .if_icmp .eq 27, 3) rfl
theorem dX7_next_350 : decode cX7_next 350 = .ok (.iload_n 1, 1) := ax_dec dX7_next_q5_ok 23 (350, .iload_n 1, 1) rfl
theorem dX7_next_351 : decode cX7_next 351 = .ok (.bipush 45, 2) := ax_dec dX7_next_q5_ok 24 (351, .bipush 45, 2) rfl
theorem dX7_next_353 : decode cX7_next 353 = .ok (.if_icmp .eq 21, 3) := ax_dec dX7_next_q5_ok 25 (353, .if_icmp .eq 21, 3) rfl
theorem dX7_next_356 : decode cX7_next 356 = .ok (.iload_n 1, 1) := ax_dec dX7_next_q5_ok 26 (356, .iload_n 1, 1) rfl
theorem dX7_next_357 : decode cX7_next 357 = .ok (.bipush 42, 2) := ax_dec dX7_next_q5_ok 27 (357, .bipush 42, 2) rfl
theorem dX7_next_359 : decode cX7_next 359 = .ok (.if_icmp .eq 15, 3) := ax_dec dX7_next_q5_ok 28 (359, .if_icmp .eq 15, 3) rfl
theorem dX7_next_362 : decode cX7_next 362 = .ok (.iload_n 1, 1) := ax_dec dX7_next_q5_ok 29 (362, .iload_n 1, 1) rfl
theorem dX7_next_363 : decode cX7_next 363 = .ok (.bipush 60, 2) := ax_dec dX7_next_q5_ok 30 (363, .bipush 60, 2) rfl
theorem dX7_next_365 : decode cX7_next 365 = .ok (.if_icmp .eq 9, 3) := ax_dec dX7_next_q5_ok 31 (365, .if_icmp .eq 9, 3) rfl
def dX7_next_q6 : List (Nat × (Instr × Nat)) := [(368, .iload_n 1, 1), (369, .bipush 61, 2), (371, .if_icmp .ne 7, 3), (374, .iconst 1, 1), (375, .goto 4, 3), (378, .iconst 0, 1), (379, .istore_n 2, 1), (380, .aload_n 0, 1), (381, .iload_n 2, 1), (382, .ifCond .eq 7, 3), (385, .iload_n 1, 1), (386, .goto 4, 3), (389, .iconst (-1), 1), (390, .putfield 123, 3), (393, .aload_n 0, 1), (394, .dup, 1), (395, .getfield 117, 3), (398, .iconst 1, 1), (399, .iadd, 1), (400, .putfield 117, 3), (403, .return_, 1)]
set_option maxRecDepth 100000 in
theorem dX7_next_q6_ok : ax_decs cX7_next dX7_next_q6 = true := by decide +kernel
theorem dX7_next_368 : decode cX7_next 368 = .ok (.iload_n 1, 1) := ax_dec dX7_next_q6_ok 0 (368, .iload_n 1, 1) rfl
theorem dX7_next_369 : decode cX7_next 369 = .ok (.bipush 61, 2) := ax_dec dX7_next_q6_ok 1 (369, .bipush 61, 2) rfl
theorem dX7_next_371 : decode cX7_next 371 = .ok (.if_icmp .ne 7, 3) := ax_dec dX7_next_q6_ok 2 (371, .if_icmp .ne 7, 3) rfl
theorem dX7_next_374 : decode cX7_next 374 = .ok (.iconst 1, 1) := ax_dec dX7_next_q6_ok 3 (374, .iconst 1, 1) rfl
theorem dX7_next_375 : decode cX7_next 375 = .ok (.goto 4, 3) := ax_dec dX7_next_q6_ok 4 (375, .goto 4, 3) rfl
theorem dX7_next_378 : decode cX7_next 378 = .ok (.iconst 0, 1) := ax_dec dX7_next_q6_ok 5 (378, .iconst 0, 1) rfl
theorem dX7_next_379 : decode cX7_next 379 = .ok (.istore_n 2, 1) := ax_dec dX7_next_q6_ok 6 (379, .istore_n 2, 1) rfl
theorem dX7_next_380 : decode cX7_next 380 = .ok (.aload_n 0, 1) := ax_dec dX7_next_q6_ok 7 (380, .aload_n 0, 1) rfl
theorem dX7_next_381 : decode cX7_next 381 = .ok (.iload_n 2, 1) := ax_dec dX7_next_q6_ok 8 (381, .iload_n 2, 1) rfl
theorem dX7_next_382 : decode cX7_next 382 = .ok (.ifCond .eq 7, 3) := ax_dec dX7_next_q6_ok 9 (382, .ifCond .eq 7, 3) rfl
theorem dX7_next_385 : decode cX7_next 385 = .ok (.iload_n 1, 1) := ax_dec dX7_next_q6_ok 10 (385, .iload_n 1, 1) rfl
theorem dX7_next_386 : decode cX7_next 386 = .ok (.goto 4, 3) := ax_dec dX7_next_q6_ok 11 (386, .goto 4, 3) rfl
theorem dX7_next_389 : decode cX7_next 389 = .ok (.iconst (-1), 1) := ax_dec dX7_next_q6_ok 12 (389, .iconst (-1), 1) rfl
theorem dX7_next_390 : decode cX7_next 390 = .ok (.putfield 123, 3) := ax_dec dX7_next_q6_ok 13 (390, .putfield 123, 3) rfl
theorem dX7_next_393 : decode cX7_next 393 = .ok (.aload_n 0, 1) := ax_dec dX7_next_q6_ok 14 (393, .aload_n 0, 1) rfl
theorem dX7_next_394 : decode cX7_next 394 = .ok (.dup, 1) := ax_dec dX7_next_q6_ok 15 (394, .dup, 1) rfl
theorem dX7_next_395 : decode cX7_next 395 = .ok (.getfield 117, 3) := ax_dec dX7_next_q6_ok 16 (395, .getfield 117, 3) rfl
theorem dX7_next_398 : decode cX7_next 398 = .ok (.iconst 1, 1) := ax_dec dX7_next_q6_ok 17 (398, .iconst 1, 1) rfl
theorem dX7_next_399 : decode cX7_next 399 = .ok (.iadd, 1) := ax_dec dX7_next_q6_ok 18 (399, .iadd, 1) rfl
theorem dX7_next_400 : decode cX7_next 400 = .ok (.putfield 117, 3) := ax_dec dX7_next_q6_ok 19 (400, .putfield 117, 3) rfl
theorem dX7_next_403 : decode cX7_next 403 = .ok (.return_, 1) := ax_dec dX7_next_q6_ok 20 (403, .return_, 1) rfl
def dX7_rank_q0 : List (Nat × (Instr × Nat)) := [(0, .iload_n 0, 1), (1, .ifCond .ne 7, 3), (4, .iconst 0, 1), (5, .goto 66, 3), (8, .iload_n 0, 1), (9, .bipush 11, 2), (11, .if_icmp .ne 7, 3), (14, .iconst 1, 1), (15, .goto 56, 3), (18, .iload_n 0, 1), (19, .bipush 12, 2), (21, .if_icmp .ne 7, 3), (24, .iconst 2, 1), (25, .goto 46, 3), (28, .iload_n 0, 1), (29, .bipush 13, 2), (31, .if_icmp .ne 7, 3), (34, .iconst 3, 1), (35, .goto 36, 3), (38, .iload_n 0, 1), (39, .bipush 15, 2), (41, .if_icmp .gt 7, 3), (44, .iconst 4, 1), (45, .goto 26, 3), (48, .iload_n 0, 1), (49, .bipush 17, 2), (51, .if_icmp .gt 7, 3), (54, .iconst 5, 1), (55, .goto 16, 3), (58, .iload_n 0, 1), (59, .bipush 18, 2), (61, .if_icmp .ne 8, 3)]
set_option maxRecDepth 100000 in
theorem dX7_rank_q0_ok : ax_decs cX7_rank dX7_rank_q0 = true := by decide +kernel
theorem dX7_rank_0 : decode cX7_rank 0 = .ok (.iload_n 0, 1) := ax_dec dX7_rank_q0_ok 0 (0, .iload_n 0, 1) rfl
theorem dX7_rank_1 : decode cX7_rank 1 = .ok (.ifCond .ne 7, 3) := ax_dec dX7_rank_q0_ok 1 (1, .ifCond .ne 7, 3) rfl
theorem dX7_rank_4 : decode cX7_rank 4 = .ok (.iconst 0, 1) := ax_dec dX7_rank_q0_ok 2 (4, .iconst 0, 1) rfl
theorem dX7_rank_5 : decode cX7_rank 5 = .ok (.goto 66, 3) := ax_dec dX7_rank_q0_ok 3 (5, .goto 66, 3) rfl
theorem dX7_rank_8 : decode cX7_rank 8 = .ok (.iload_n 0, 1) := ax_dec dX7_rank_q0_ok 4 (8, .iload_n 0, 1) rfl
theorem dX7_rank_9 : decode cX7_rank 9 = .ok (.bipush 11, 2) := ax_dec dX7_rank_q0_ok 5 (9, .bipush 11, 2) rfl
theorem dX7_rank_11 : decode cX7_rank 11 = .ok (.if_icmp .ne 7, 3) := ax_dec dX7_rank_q0_ok 6 (11, .if_icmp .ne 7, 3) rfl
theorem dX7_rank_14 : decode cX7_rank 14 = .ok (.iconst 1, 1) := ax_dec dX7_rank_q0_ok 7 (14, .iconst 1, 1) rfl
theorem dX7_rank_15 : decode cX7_rank 15 = .ok (.goto 56, 3) := ax_dec dX7_rank_q0_ok 8 (15, .goto 56, 3) rfl
theorem dX7_rank_18 : decode cX7_rank 18 = .ok (.iload_n 0, 1) := ax_dec dX7_rank_q0_ok 9 (18, .iload_n 0, 1) rfl
theorem dX7_rank_19 : decode cX7_rank 19 = .ok (.bipush 12, 2) := ax_dec dX7_rank_q0_ok 10 (19, .bipush 12, 2) rfl
theorem dX7_rank_21 : decode cX7_rank 21 = .ok (.if_icmp .ne 7, 3) := ax_dec dX7_rank_q0_ok 11 (21, .if_icmp .ne 7, 3) rfl
theorem dX7_rank_24 : decode cX7_rank 24 = .ok (.iconst 2, 1) := ax_dec dX7_rank_q0_ok 12 (24, .iconst 2, 1) rfl
theorem dX7_rank_25 : decode cX7_rank 25 = .ok (.goto 46, 3) := ax_dec dX7_rank_q0_ok 13 (25, .goto 46, 3) rfl
theorem dX7_rank_28 : decode cX7_rank 28 = .ok (.iload_n 0, 1) := ax_dec dX7_rank_q0_ok 14 (28, .iload_n 0, 1) rfl
theorem dX7_rank_29 : decode cX7_rank 29 = .ok (.bipush 13, 2) := ax_dec dX7_rank_q0_ok 15 (29, .bipush 13, 2) rfl
theorem dX7_rank_31 : decode cX7_rank 31 = .ok (.if_icmp .ne 7, 3) := ax_dec dX7_rank_q0_ok 16 (31, .if_icmp .ne 7, 3) rfl
theorem dX7_rank_34 : decode cX7_rank 34 = .ok (.iconst 3, 1) := ax_dec dX7_rank_q0_ok 17 (34, .iconst 3, 1) rfl
theorem dX7_rank_35 : decode cX7_rank 35 = .ok (.goto 36, 3) := ax_dec dX7_rank_q0_ok 18 (35, .goto 36, 3) rfl
theorem dX7_rank_38 : decode cX7_rank 38 = .ok (.iload_n 0, 1) := ax_dec dX7_rank_q0_ok 19 (38, .iload_n 0, 1) rfl
theorem dX7_rank_39 : decode cX7_rank 39 = .ok (.bipush 15, 2) := ax_dec dX7_rank_q0_ok 20 (39, .bipush 15, 2) rfl
theorem dX7_rank_41 : decode cX7_rank 41 = .ok (.if_icmp .gt 7, 3) := ax_dec dX7_rank_q0_ok 21 (41, .if_icmp .gt 7, 3) rfl
theorem dX7_rank_44 : decode cX7_rank 44 = .ok (.iconst 4, 1) := ax_dec dX7_rank_q0_ok 22 (44, .iconst 4, 1) rfl
theorem dX7_rank_45 : decode cX7_rank 45 = .ok (.goto 26, 3) := ax_dec dX7_rank_q0_ok 23 (45, .goto 26, 3) rfl
theorem dX7_rank_48 : decode cX7_rank 48 = .ok (.iload_n 0, 1) := ax_dec dX7_rank_q0_ok 24 (48, .iload_n 0, 1) rfl
theorem dX7_rank_49 : decode cX7_rank 49 = .ok (.bipush 17, 2) := ax_dec dX7_rank_q0_ok 25 (49, .bipush 17, 2) rfl
theorem dX7_rank_51 : decode cX7_rank 51 = .ok (.if_icmp .gt 7, 3) := ax_dec dX7_rank_q0_ok 26 (51, .if_icmp .gt 7, 3) rfl
theorem dX7_rank_54 : decode cX7_rank 54 = .ok (.iconst 5, 1) := ax_dec dX7_rank_q0_ok 27 (54, .iconst 5, 1) rfl
theorem dX7_rank_55 : decode cX7_rank 55 = .ok (.goto 16, 3) := ax_dec dX7_rank_q0_ok 28 (55, .goto 16, 3) rfl
theorem dX7_rank_58 : decode cX7_rank 58 = .ok (.iload_n 0, 1) := ax_dec dX7_rank_q0_ok 29 (58, .iload_n 0, 1) rfl
theorem dX7_rank_59 : decode cX7_rank 59 = .ok (.bipush 18, 2) := ax_dec dX7_rank_q0_ok 30 (59, .bipush 18, 2) rfl
theorem dX7_rank_61 : decode cX7_rank 61 = .ok (.if_icmp .ne 8, 3) := ax_dec dX7_rank_q0_ok 31 (61, .if_icmp .ne 8, 3) rfl
def dX7_rank_q1 : List (Nat × (Instr × Nat)) := [(64, .bipush 6, 2), (66, .goto 5, 3), (69, .bipush 7, 2), (71, .ireturn, 1)]
set_option maxRecDepth 100000 in
theorem dX7_rank_q1_ok : ax_decs cX7_rank dX7_rank_q1 = true := by decide +kernel
theorem dX7_rank_64 : decode cX7_rank 64 = .ok (.bipush 6, 2) := ax_dec dX7_rank_q1_ok 0 (64, .bipush 6, 2) rfl
theorem dX7_rank_66 : decode cX7_rank 66 = .ok (.goto 5, 3) := ax_dec dX7_rank_q1_ok 1 (66, .goto 5, 3) rfl
theorem dX7_rank_69 : decode cX7_rank 69 = .ok (.bipush 7, 2) := ax_dec dX7_rank_q1_ok 2 (69, .bipush 7, 2) rfl
theorem dX7_rank_71 : decode cX7_rank 71 = .ok (.ireturn, 1) := ax_dec dX7_rank_q1_ok 3 (71, .ireturn, 1) rfl
def dX7_puts_q0 : List (Nat × (Instr × Nat)) := [(0, .aload_n 0, 1), (1, .getfield 34, 3), (4, .sipush 200, 3), (7, .aload_n 0, 1), (8, .getfield 108, 3), (11, .imul, 1), (12, .aload_n 0, 1), (13, .getfield 133, 3), (16, .iadd, 1), (17, .iload_n 1, 1), (18, .iastore, 1), (19, .aload_n 0, 1), (20, .dup, 1), (21, .getfield 133, 3), (24, .iconst 1, 1), (25, .iadd, 1), (26, .putfield 133, 3), (29, .return_, 1)]
set_option maxRecDepth 100000 in
theorem dX7_puts_q0_ok : ax_decs cX7_puts dX7_puts_q0 = true := by decide +kernel
theorem dX7_puts_0 : decode cX7_puts 0 = .ok (.aload_n 0, 1) := ax_dec dX7_puts_q0_ok 0 (0, .aload_n 0, 1) rfl
theorem dX7_puts_1 : decode cX7_puts 1 = .ok (.getfield 34, 3) := ax_dec dX7_puts_q0_ok 1 (1, .getfield 34, 3) rfl
theorem dX7_puts_4 : decode cX7_puts 4 = .ok (.sipush 200, 3) := ax_dec dX7_puts_q0_ok 2 (4, .sipush 200, 3) rfl
theorem dX7_puts_7 : decode cX7_puts 7 = .ok (.aload_n 0, 1) := ax_dec dX7_puts_q0_ok 3 (7, .aload_n 0, 1) rfl
theorem dX7_puts_8 : decode cX7_puts 8 = .ok (.getfield 108, 3) := ax_dec dX7_puts_q0_ok 4 (8, .getfield 108, 3) rfl
theorem dX7_puts_11 : decode cX7_puts 11 = .ok (.imul, 1) := ax_dec dX7_puts_q0_ok 5 (11, .imul, 1) rfl
theorem dX7_puts_12 : decode cX7_puts 12 = .ok (.aload_n 0, 1) := ax_dec dX7_puts_q0_ok 6 (12, .aload_n 0, 1) rfl
theorem dX7_puts_13 : decode cX7_puts 13 = .ok (.getfield 133, 3) := ax_dec dX7_puts_q0_ok 7 (13, .getfield 133, 3) rfl
theorem dX7_puts_16 : decode cX7_puts 16 = .ok (.iadd, 1) := ax_dec dX7_puts_q0_ok 8 (16, .iadd, 1) rfl
theorem dX7_puts_17 : decode cX7_puts 17 = .ok (.iload_n 1, 1) := ax_dec dX7_puts_q0_ok 9 (17, .iload_n 1, 1) rfl
theorem dX7_puts_18 : decode cX7_puts 18 = .ok (.iastore, 1) := ax_dec dX7_puts_q0_ok 10 (18, .iastore, 1) rfl
theorem dX7_puts_19 : decode cX7_puts 19 = .ok (.aload_n 0, 1) := ax_dec dX7_puts_q0_ok 11 (19, .aload_n 0, 1) rfl
theorem dX7_puts_20 : decode cX7_puts 20 = .ok (.dup, 1) := ax_dec dX7_puts_q0_ok 12 (20, .dup, 1) rfl
theorem dX7_puts_21 : decode cX7_puts 21 = .ok (.getfield 133, 3) := ax_dec dX7_puts_q0_ok 13 (21, .getfield 133, 3) rfl
theorem dX7_puts_24 : decode cX7_puts 24 = .ok (.iconst 1, 1) := ax_dec dX7_puts_q0_ok 14 (24, .iconst 1, 1) rfl
theorem dX7_puts_25 : decode cX7_puts 25 = .ok (.iadd, 1) := ax_dec dX7_puts_q0_ok 15 (25, .iadd, 1) rfl
theorem dX7_puts_26 : decode cX7_puts 26 = .ok (.putfield 133, 3) := ax_dec dX7_puts_q0_ok 16 (26, .putfield 133, 3) rfl
theorem dX7_puts_29 : decode cX7_puts 29 = .ok (.return_, 1) := ax_dec dX7_puts_q0_ok 17 (29, .return_, 1) rfl
def dX7_unwinds_q0 : List (Nat × (Instr × Nat)) := [(0, .aload_n 0, 1), (1, .getfield 136, 3), (4, .ifCond .le 75, 3), (7, .aload_n 0, 1), (8, .getfield 58, 3), (11, .aload_n 0, 1), (12, .getfield 136, 3), (15, .iconst 1, 1), (16, .isub, 1), (17, .iaload, 1), (18, .invokestatic 139, 3), (21, .iload_n 1, 1), (22, .if_icmp .lt 57, 3), (25, .aload_n 0, 1), (26, .dup, 1), (27, .getfield 136, 3), (30, .iconst 1, 1), (31, .isub, 1), (32, .putfield 136, 3), (35, .aload_n 0, 1), (36, .getfield 58, 3), (39, .aload_n 0, 1), (40, .getfield 136, 3), (43, .iaload, 1), (44, .istore_n 2, 1), (45, .aload_n 0, 1), (46, .dup, 1), (47, .getfield 142, 3), (50, .iload_n 2, 1), (51, .bipush 13, 2), (53, .if_icmp .eq 9, 3), (56, .iload_n 2, 1)]
set_option maxRecDepth 100000 in
theorem dX7_unwinds_q0_ok : ax_decs cX7_unwinds dX7_unwinds_q0 = true := by decide +kernel
theorem dX7_unwinds_0 : decode cX7_unwinds 0 = .ok (.aload_n 0, 1) := ax_dec dX7_unwinds_q0_ok 0 (0, .aload_n 0, 1) rfl
theorem dX7_unwinds_1 : decode cX7_unwinds 1 = .ok (.getfield 136, 3) := ax_dec dX7_unwinds_q0_ok 1 (1, .getfield 136, 3) rfl
theorem dX7_unwinds_4 : decode cX7_unwinds 4 = .ok (.ifCond .le 75, 3) := ax_dec dX7_unwinds_q0_ok 2 (4, .ifCond .le 75, 3) rfl
theorem dX7_unwinds_7 : decode cX7_unwinds 7 = .ok (.aload_n 0, 1) := ax_dec dX7_unwinds_q0_ok 3 (7, .aload_n 0, 1) rfl
theorem dX7_unwinds_8 : decode cX7_unwinds 8 = .ok (.getfield 58, 3) := ax_dec dX7_unwinds_q0_ok 4 (8, .getfield 58, 3) rfl
theorem dX7_unwinds_11 : decode cX7_unwinds 11 = .ok (.aload_n 0, 1) := ax_dec dX7_unwinds_q0_ok 5 (11, .aload_n 0, 1) rfl
theorem dX7_unwinds_12 : decode cX7_unwinds 12 = .ok (.getfield 136, 3) := ax_dec dX7_unwinds_q0_ok 6 (12, .getfield 136, 3) rfl
theorem dX7_unwinds_15 : decode cX7_unwinds 15 = .ok (.iconst 1, 1) := ax_dec dX7_unwinds_q0_ok 7 (15, .iconst 1, 1) rfl
theorem dX7_unwinds_16 : decode cX7_unwinds 16 = .ok (.isub, 1) := ax_dec dX7_unwinds_q0_ok 8 (16, .isub, 1) rfl
theorem dX7_unwinds_17 : decode cX7_unwinds 17 = .ok (.iaload, 1) := ax_dec dX7_unwinds_q0_ok 9 (17, .iaload, 1) rfl
theorem dX7_unwinds_18 : decode cX7_unwinds 18 = .ok (.invokestatic 139, 3) := ax_dec dX7_unwinds_q0_ok 10 (18, .invokestatic 139, 3) rfl
theorem dX7_unwinds_21 : decode cX7_unwinds 21 = .ok (.iload_n 1, 1) := ax_dec dX7_unwinds_q0_ok 11 (21, .iload_n 1, 1) rfl
theorem dX7_unwinds_22 : decode cX7_unwinds 22 = .ok (.if_icmp .lt 57, 3) := ax_dec dX7_unwinds_q0_ok 12 (22, .if_icmp .lt 57, 3) rfl
theorem dX7_unwinds_25 : decode cX7_unwinds 25 = .ok (.aload_n 0, 1) := ax_dec dX7_unwinds_q0_ok 13 (25, .aload_n 0, 1) rfl
theorem dX7_unwinds_26 : decode cX7_unwinds 26 = .ok (.dup, 1) := ax_dec dX7_unwinds_q0_ok 14 (26, .dup, 1) rfl
theorem dX7_unwinds_27 : decode cX7_unwinds 27 = .ok (.getfield 136, 3) := ax_dec dX7_unwinds_q0_ok 15 (27, .getfield 136, 3) rfl
theorem dX7_unwinds_30 : decode cX7_unwinds 30 = .ok (.iconst 1, 1) := ax_dec dX7_unwinds_q0_ok 16 (30, .iconst 1, 1) rfl
theorem dX7_unwinds_31 : decode cX7_unwinds 31 = .ok (.isub, 1) := ax_dec dX7_unwinds_q0_ok 17 (31, .isub, 1) rfl
theorem dX7_unwinds_32 : decode cX7_unwinds 32 = .ok (.putfield 136, 3) := ax_dec dX7_unwinds_q0_ok 18 (32, .putfield 136, 3) rfl
theorem dX7_unwinds_35 : decode cX7_unwinds 35 = .ok (.aload_n 0, 1) := ax_dec dX7_unwinds_q0_ok 19 (35, .aload_n 0, 1) rfl
theorem dX7_unwinds_36 : decode cX7_unwinds 36 = .ok (.getfield 58, 3) := ax_dec dX7_unwinds_q0_ok 20 (36, .getfield 58, 3) rfl
theorem dX7_unwinds_39 : decode cX7_unwinds 39 = .ok (.aload_n 0, 1) := ax_dec dX7_unwinds_q0_ok 21 (39, .aload_n 0, 1) rfl
theorem dX7_unwinds_40 : decode cX7_unwinds 40 = .ok (.getfield 136, 3) := ax_dec dX7_unwinds_q0_ok 22 (40, .getfield 136, 3) rfl
theorem dX7_unwinds_43 : decode cX7_unwinds 43 = .ok (.iaload, 1) := ax_dec dX7_unwinds_q0_ok 23 (43, .iaload, 1) rfl
theorem dX7_unwinds_44 : decode cX7_unwinds 44 = .ok (.istore_n 2, 1) := ax_dec dX7_unwinds_q0_ok 24 (44, .istore_n 2, 1) rfl
theorem dX7_unwinds_45 : decode cX7_unwinds 45 = .ok (.aload_n 0, 1) := ax_dec dX7_unwinds_q0_ok 25 (45, .aload_n 0, 1) rfl
theorem dX7_unwinds_46 : decode cX7_unwinds 46 = .ok (.dup, 1) := ax_dec dX7_unwinds_q0_ok 26 (46, .dup, 1) rfl
theorem dX7_unwinds_47 : decode cX7_unwinds 47 = .ok (.getfield 142, 3) := ax_dec dX7_unwinds_q0_ok 27 (47, .getfield 142, 3) rfl
theorem dX7_unwinds_50 : decode cX7_unwinds 50 = .ok (.iload_n 2, 1) := ax_dec dX7_unwinds_q0_ok 28 (50, .iload_n 2, 1) rfl
theorem dX7_unwinds_51 : decode cX7_unwinds 51 = .ok (.bipush 13, 2) := ax_dec dX7_unwinds_q0_ok 29 (51, .bipush 13, 2) rfl
theorem dX7_unwinds_53 : decode cX7_unwinds 53 = .ok (.if_icmp .eq 9, 3) := ax_dec dX7_unwinds_q0_ok 30 (53, .if_icmp .eq 9, 3) rfl
theorem dX7_unwinds_56 : decode cX7_unwinds 56 = .ok (.iload_n 2, 1) := ax_dec dX7_unwinds_q0_ok 31 (56, .iload_n 2, 1) rfl
def dX7_unwinds_q1 : List (Nat × (Instr × Nat)) := [(57, .bipush 19, 2), (59, .if_icmp .ne 7, 3), (62, .iconst 1, 1), (63, .goto 4, 3), (66, .iconst 0, 1), (67, .isub, 1), (68, .putfield 142, 3), (71, .aload_n 0, 1), (72, .iload_n 2, 1), (73, .invokevirtual 145, 3), (76, .goto (-76), 3), (79, .return_, 1)]
set_option maxRecDepth 100000 in
theorem dX7_unwinds_q1_ok : ax_decs cX7_unwinds dX7_unwinds_q1 = true := by decide +kernel
theorem dX7_unwinds_57 : decode cX7_unwinds 57 = .ok (.bipush 19, 2) := ax_dec dX7_unwinds_q1_ok 0 (57, .bipush 19, 2) rfl
theorem dX7_unwinds_59 : decode cX7_unwinds 59 = .ok (.if_icmp .ne 7, 3) := ax_dec dX7_unwinds_q1_ok 1 (59, .if_icmp .ne 7, 3) rfl
theorem dX7_unwinds_62 : decode cX7_unwinds 62 = .ok (.iconst 1, 1) := ax_dec dX7_unwinds_q1_ok 2 (62, .iconst 1, 1) rfl
theorem dX7_unwinds_63 : decode cX7_unwinds 63 = .ok (.goto 4, 3) := ax_dec dX7_unwinds_q1_ok 3 (63, .goto 4, 3) rfl
theorem dX7_unwinds_66 : decode cX7_unwinds 66 = .ok (.iconst 0, 1) := ax_dec dX7_unwinds_q1_ok 4 (66, .iconst 0, 1) rfl
theorem dX7_unwinds_67 : decode cX7_unwinds 67 = .ok (.isub, 1) := ax_dec dX7_unwinds_q1_ok 5 (67, .isub, 1) rfl
theorem dX7_unwinds_68 : decode cX7_unwinds 68 = .ok (.putfield 142, 3) := ax_dec dX7_unwinds_q1_ok 6 (68, .putfield 142, 3) rfl
theorem dX7_unwinds_71 : decode cX7_unwinds 71 = .ok (.aload_n 0, 1) := ax_dec dX7_unwinds_q1_ok 7 (71, .aload_n 0, 1) rfl
theorem dX7_unwinds_72 : decode cX7_unwinds 72 = .ok (.iload_n 2, 1) := ax_dec dX7_unwinds_q1_ok 8 (72, .iload_n 2, 1) rfl
theorem dX7_unwinds_73 : decode cX7_unwinds 73 = .ok (.invokevirtual 145, 3) := ax_dec dX7_unwinds_q1_ok 9 (73, .invokevirtual 145, 3) rfl
theorem dX7_unwinds_76 : decode cX7_unwinds 76 = .ok (.goto (-76), 3) := ax_dec dX7_unwinds_q1_ok 10 (76, .goto (-76), 3) rfl
theorem dX7_unwinds_79 : decode cX7_unwinds 79 = .ok (.return_, 1) := ax_dec dX7_unwinds_q1_ok 11 (79, .return_, 1) rfl
def dX7_holds_q0 : List (Nat × (Instr × Nat)) := [(0, .aload_n 0, 1), (1, .getfield 58, 3), (4, .aload_n 0, 1), (5, .getfield 136, 3), (8, .iload_n 1, 1), (9, .iastore, 1), (10, .aload_n 0, 1), (11, .dup, 1), (12, .getfield 136, 3), (15, .iconst 1, 1), (16, .iadd, 1), (17, .putfield 136, 3), (20, .return_, 1)]
set_option maxRecDepth 100000 in
theorem dX7_holds_q0_ok : ax_decs cX7_holds dX7_holds_q0 = true := by decide +kernel
theorem dX7_holds_0 : decode cX7_holds 0 = .ok (.aload_n 0, 1) := ax_dec dX7_holds_q0_ok 0 (0, .aload_n 0, 1) rfl
theorem dX7_holds_1 : decode cX7_holds 1 = .ok (.getfield 58, 3) := ax_dec dX7_holds_q0_ok 1 (1, .getfield 58, 3) rfl
theorem dX7_holds_4 : decode cX7_holds 4 = .ok (.aload_n 0, 1) := ax_dec dX7_holds_q0_ok 2 (4, .aload_n 0, 1) rfl
theorem dX7_holds_5 : decode cX7_holds 5 = .ok (.getfield 136, 3) := ax_dec dX7_holds_q0_ok 3 (5, .getfield 136, 3) rfl
theorem dX7_holds_8 : decode cX7_holds 8 = .ok (.iload_n 1, 1) := ax_dec dX7_holds_q0_ok 4 (8, .iload_n 1, 1) rfl
theorem dX7_holds_9 : decode cX7_holds 9 = .ok (.iastore, 1) := ax_dec dX7_holds_q0_ok 5 (9, .iastore, 1) rfl
theorem dX7_holds_10 : decode cX7_holds 10 = .ok (.aload_n 0, 1) := ax_dec dX7_holds_q0_ok 6 (10, .aload_n 0, 1) rfl
theorem dX7_holds_11 : decode cX7_holds 11 = .ok (.dup, 1) := ax_dec dX7_holds_q0_ok 7 (11, .dup, 1) rfl
theorem dX7_holds_12 : decode cX7_holds 12 = .ok (.getfield 136, 3) := ax_dec dX7_holds_q0_ok 8 (12, .getfield 136, 3) rfl
theorem dX7_holds_15 : decode cX7_holds 15 = .ok (.iconst 1, 1) := ax_dec dX7_holds_q0_ok 9 (15, .iconst 1, 1) rfl
theorem dX7_holds_16 : decode cX7_holds 16 = .ok (.iadd, 1) := ax_dec dX7_holds_q0_ok 10 (16, .iadd, 1) rfl
theorem dX7_holds_17 : decode cX7_holds 17 = .ok (.putfield 136, 3) := ax_dec dX7_holds_q0_ok 11 (17, .putfield 136, 3) rfl
theorem dX7_holds_20 : decode cX7_holds 20 = .ok (.return_, 1) := ax_dec dX7_holds_q0_ok 12 (20, .return_, 1) rfl
def dX7_opensOne_q0 : List (Nat × (Instr × Nat)) := [(0, .aload_n 0, 1), (1, .getfield 142, 3), (4, .iconst 5, 1), (5, .if_icmp .ne 5, 3), (8, .iconst 0, 1), (9, .ireturn, 1), (10, .aload_n 0, 1), (11, .dup, 1), (12, .getfield 142, 3), (15, .iconst 1, 1), (16, .iadd, 1), (17, .putfield 142, 3), (20, .aload_n 0, 1), (21, .iload_n 1, 1), (22, .invokevirtual 149, 3), (25, .iconst 1, 1), (26, .ireturn, 1)]
set_option maxRecDepth 100000 in
theorem dX7_opensOne_q0_ok : ax_decs cX7_opensOne dX7_opensOne_q0 = true := by decide +kernel
theorem dX7_opensOne_0 : decode cX7_opensOne 0 = .ok (.aload_n 0, 1) := ax_dec dX7_opensOne_q0_ok 0 (0, .aload_n 0, 1) rfl
theorem dX7_opensOne_1 : decode cX7_opensOne 1 = .ok (.getfield 142, 3) := ax_dec dX7_opensOne_q0_ok 1 (1, .getfield 142, 3) rfl
theorem dX7_opensOne_4 : decode cX7_opensOne 4 = .ok (.iconst 5, 1) := ax_dec dX7_opensOne_q0_ok 2 (4, .iconst 5, 1) rfl
theorem dX7_opensOne_5 : decode cX7_opensOne 5 = .ok (.if_icmp .ne 5, 3) := ax_dec dX7_opensOne_q0_ok 3 (5, .if_icmp .ne 5, 3) rfl
theorem dX7_opensOne_8 : decode cX7_opensOne 8 = .ok (.iconst 0, 1) := ax_dec dX7_opensOne_q0_ok 4 (8, .iconst 0, 1) rfl
theorem dX7_opensOne_9 : decode cX7_opensOne 9 = .ok (.ireturn, 1) := ax_dec dX7_opensOne_q0_ok 5 (9, .ireturn, 1) rfl
theorem dX7_opensOne_10 : decode cX7_opensOne 10 = .ok (.aload_n 0, 1) := ax_dec dX7_opensOne_q0_ok 6 (10, .aload_n 0, 1) rfl
theorem dX7_opensOne_11 : decode cX7_opensOne 11 = .ok (.dup, 1) := ax_dec dX7_opensOne_q0_ok 7 (11, .dup, 1) rfl
theorem dX7_opensOne_12 : decode cX7_opensOne 12 = .ok (.getfield 142, 3) := ax_dec dX7_opensOne_q0_ok 8 (12, .getfield 142, 3) rfl
theorem dX7_opensOne_15 : decode cX7_opensOne 15 = .ok (.iconst 1, 1) := ax_dec dX7_opensOne_q0_ok 9 (15, .iconst 1, 1) rfl
theorem dX7_opensOne_16 : decode cX7_opensOne 16 = .ok (.iadd, 1) := ax_dec dX7_opensOne_q0_ok 10 (16, .iadd, 1) rfl
theorem dX7_opensOne_17 : decode cX7_opensOne 17 = .ok (.putfield 142, 3) := ax_dec dX7_opensOne_q0_ok 11 (17, .putfield 142, 3) rfl
theorem dX7_opensOne_20 : decode cX7_opensOne 20 = .ok (.aload_n 0, 1) := ax_dec dX7_opensOne_q0_ok 12 (20, .aload_n 0, 1) rfl
theorem dX7_opensOne_21 : decode cX7_opensOne 21 = .ok (.iload_n 1, 1) := ax_dec dX7_opensOne_q0_ok 13 (21, .iload_n 1, 1) rfl
theorem dX7_opensOne_22 : decode cX7_opensOne 22 = .ok (.invokevirtual 149, 3) := ax_dec dX7_opensOne_q0_ok 14 (22, .invokevirtual 149, 3) rfl
theorem dX7_opensOne_25 : decode cX7_opensOne 25 = .ok (.iconst 1, 1) := ax_dec dX7_opensOne_q0_ok 15 (25, .iconst 1, 1) rfl
theorem dX7_opensOne_26 : decode cX7_opensOne 26 = .ok (.ireturn, 1) := ax_dec dX7_opensOne_q0_ok 16 (26, .ireturn, 1) rfl
def dX7_between_q0 : List (Nat × (Instr × Nat)) := [(0, .aload_n 0, 1), (1, .iload_n 1, 1), (2, .invokestatic 139, 3), (5, .iconst 4, 1), (6, .if_icmp .ne 7, 3), (9, .iconst 5, 1), (10, .goto 7, 3), (13, .iload_n 1, 1), (14, .invokestatic 139, 3), (17, .invokevirtual 152, 3), (20, .iload_n 1, 1), (21, .invokestatic 139, 3), (24, .iconst 4, 1), (25, .if_icmp .ne 30, 3), (28, .aload_n 0, 1), (29, .getfield 136, 3), (32, .ifCond .le 23, 3), (35, .aload_n 0, 1), (36, .getfield 58, 3), (39, .aload_n 0, 1), (40, .getfield 136, 3), (43, .iconst 1, 1), (44, .isub, 1), (45, .iaload, 1), (46, .invokestatic 139, 3), (49, .iconst 4, 1), (50, .if_icmp .ne 5, 3), (53, .iconst 0, 1), (54, .ireturn, 1), (55, .aload_n 0, 1), (56, .iload_n 1, 1), (57, .invokevirtual 149, 3)]
set_option maxRecDepth 100000 in
theorem dX7_between_q0_ok : ax_decs cX7_between dX7_between_q0 = true := by decide +kernel
theorem dX7_between_0 : decode cX7_between 0 = .ok (.aload_n 0, 1) := ax_dec dX7_between_q0_ok 0 (0, .aload_n 0, 1) rfl
theorem dX7_between_1 : decode cX7_between 1 = .ok (.iload_n 1, 1) := ax_dec dX7_between_q0_ok 1 (1, .iload_n 1, 1) rfl
theorem dX7_between_2 : decode cX7_between 2 = .ok (.invokestatic 139, 3) := ax_dec dX7_between_q0_ok 2 (2, .invokestatic 139, 3) rfl
theorem dX7_between_5 : decode cX7_between 5 = .ok (.iconst 4, 1) := ax_dec dX7_between_q0_ok 3 (5, .iconst 4, 1) rfl
theorem dX7_between_6 : decode cX7_between 6 = .ok (.if_icmp .ne 7, 3) := ax_dec dX7_between_q0_ok 4 (6, .if_icmp .ne 7, 3) rfl
theorem dX7_between_9 : decode cX7_between 9 = .ok (.iconst 5, 1) := ax_dec dX7_between_q0_ok 5 (9, .iconst 5, 1) rfl
theorem dX7_between_10 : decode cX7_between 10 = .ok (.goto 7, 3) := ax_dec dX7_between_q0_ok 6 (10, .goto 7, 3) rfl
theorem dX7_between_13 : decode cX7_between 13 = .ok (.iload_n 1, 1) := ax_dec dX7_between_q0_ok 7 (13, .iload_n 1, 1) rfl
theorem dX7_between_14 : decode cX7_between 14 = .ok (.invokestatic 139, 3) := ax_dec dX7_between_q0_ok 8 (14, .invokestatic 139, 3) rfl
theorem dX7_between_17 : decode cX7_between 17 = .ok (.invokevirtual 152, 3) := ax_dec dX7_between_q0_ok 9 (17, .invokevirtual 152, 3) rfl
theorem dX7_between_20 : decode cX7_between 20 = .ok (.iload_n 1, 1) := ax_dec dX7_between_q0_ok 10 (20, .iload_n 1, 1) rfl
theorem dX7_between_21 : decode cX7_between 21 = .ok (.invokestatic 139, 3) := ax_dec dX7_between_q0_ok 11 (21, .invokestatic 139, 3) rfl
theorem dX7_between_24 : decode cX7_between 24 = .ok (.iconst 4, 1) := ax_dec dX7_between_q0_ok 12 (24, .iconst 4, 1) rfl
theorem dX7_between_25 : decode cX7_between 25 = .ok (.if_icmp .ne 30, 3) := ax_dec dX7_between_q0_ok 13 (25, .if_icmp .ne 30, 3) rfl
theorem dX7_between_28 : decode cX7_between 28 = .ok (.aload_n 0, 1) := ax_dec dX7_between_q0_ok 14 (28, .aload_n 0, 1) rfl
theorem dX7_between_29 : decode cX7_between 29 = .ok (.getfield 136, 3) := ax_dec dX7_between_q0_ok 15 (29, .getfield 136, 3) rfl
theorem dX7_between_32 : decode cX7_between 32 = .ok (.ifCond .le 23, 3) := ax_dec dX7_between_q0_ok 16 (32, .ifCond .le 23, 3) rfl
theorem dX7_between_35 : decode cX7_between 35 = .ok (.aload_n 0, 1) := ax_dec dX7_between_q0_ok 17 (35, .aload_n 0, 1) rfl
theorem dX7_between_36 : decode cX7_between 36 = .ok (.getfield 58, 3) := ax_dec dX7_between_q0_ok 18 (36, .getfield 58, 3) rfl
theorem dX7_between_39 : decode cX7_between 39 = .ok (.aload_n 0, 1) := ax_dec dX7_between_q0_ok 19 (39, .aload_n 0, 1) rfl
theorem dX7_between_40 : decode cX7_between 40 = .ok (.getfield 136, 3) := ax_dec dX7_between_q0_ok 20 (40, .getfield 136, 3) rfl
theorem dX7_between_43 : decode cX7_between 43 = .ok (.iconst 1, 1) := ax_dec dX7_between_q0_ok 21 (43, .iconst 1, 1) rfl
theorem dX7_between_44 : decode cX7_between 44 = .ok (.isub, 1) := ax_dec dX7_between_q0_ok 22 (44, .isub, 1) rfl
theorem dX7_between_45 : decode cX7_between 45 = .ok (.iaload, 1) := ax_dec dX7_between_q0_ok 23 (45, .iaload, 1) rfl
theorem dX7_between_46 : decode cX7_between 46 = .ok (.invokestatic 139, 3) := ax_dec dX7_between_q0_ok 24 (46, .invokestatic 139, 3) rfl
theorem dX7_between_49 : decode cX7_between 49 = .ok (.iconst 4, 1) := ax_dec dX7_between_q0_ok 25 (49, .iconst 4, 1) rfl
theorem dX7_between_50 : decode cX7_between 50 = .ok (.if_icmp .ne 5, 3) := ax_dec dX7_between_q0_ok 26 (50, .if_icmp .ne 5, 3) rfl
theorem dX7_between_53 : decode cX7_between 53 = .ok (.iconst 0, 1) := ax_dec dX7_between_q0_ok 27 (53, .iconst 0, 1) rfl
theorem dX7_between_54 : decode cX7_between 54 = .ok (.ireturn, 1) := ax_dec dX7_between_q0_ok 28 (54, .ireturn, 1) rfl
theorem dX7_between_55 : decode cX7_between 55 = .ok (.aload_n 0, 1) := ax_dec dX7_between_q0_ok 29 (55, .aload_n 0, 1) rfl
theorem dX7_between_56 : decode cX7_between 56 = .ok (.iload_n 1, 1) := ax_dec dX7_between_q0_ok 30 (56, .iload_n 1, 1) rfl
theorem dX7_between_57 : decode cX7_between 57 = .ok (.invokevirtual 149, 3) := ax_dec dX7_between_q0_ok 31 (57, .invokevirtual 149, 3) rfl
def dX7_between_q1 : List (Nat × (Instr × Nat)) := [(60, .iconst 1, 1), (61, .ireturn, 1)]
set_option maxRecDepth 100000 in
theorem dX7_between_q1_ok : ax_decs cX7_between dX7_between_q1 = true := by decide +kernel
theorem dX7_between_60 : decode cX7_between 60 = .ok (.iconst 1, 1) := ax_dec dX7_between_q1_ok 0 (60, .iconst 1, 1) rfl
theorem dX7_between_61 : decode cX7_between 61 = .ok (.ireturn, 1) := ax_dec dX7_between_q1_ok 1 (61, .ireturn, 1) rfl
def dX7_signOf_q0 : List (Nat × (Instr × Nat)) := [(0, .aload_n 0, 1), (1, .getfield 123, 3), (4, .iconst 4, 1), (5, .if_icmp .ne 8, 3), (8, .bipush 11, 2), (10, .goto 87, 3), (13, .aload_n 0, 1), (14, .getfield 123, 3), (17, .iconst 5, 1), (18, .if_icmp .ne 8, 3), (21, .bipush 12, 2), (23, .goto 74, 3), (26, .aload_n 0, 1), (27, .getfield 123, 3), (30, .bipush 60, 2), (32, .if_icmp .ne 8, 3), (35, .bipush 14, 2), (37, .goto 60, 3), (40, .aload_n 0, 1), (41, .getfield 123, 3), (44, .bipush 61, 2), (46, .if_icmp .ne 8, 3), (49, .bipush 15, 2), (51, .goto 46, 3), (54, .aload_n 0, 1), (55, .getfield 123, 3), (58, .bipush 43, 2), (60, .if_icmp .ne 8, 3), (63, .bipush 16, 2), (65, .goto 32, 3), (68, .aload_n 0, 1), (69, .getfield 123, 3)]
set_option maxRecDepth 100000 in
theorem dX7_signOf_q0_ok : ax_decs cX7_signOf dX7_signOf_q0 = true := by decide +kernel
theorem dX7_signOf_0 : decode cX7_signOf 0 = .ok (.aload_n 0, 1) := ax_dec dX7_signOf_q0_ok 0 (0, .aload_n 0, 1) rfl
theorem dX7_signOf_1 : decode cX7_signOf 1 = .ok (.getfield 123, 3) := ax_dec dX7_signOf_q0_ok 1 (1, .getfield 123, 3) rfl
theorem dX7_signOf_4 : decode cX7_signOf 4 = .ok (.iconst 4, 1) := ax_dec dX7_signOf_q0_ok 2 (4, .iconst 4, 1) rfl
theorem dX7_signOf_5 : decode cX7_signOf 5 = .ok (.if_icmp .ne 8, 3) := ax_dec dX7_signOf_q0_ok 3 (5, .if_icmp .ne 8, 3) rfl
theorem dX7_signOf_8 : decode cX7_signOf 8 = .ok (.bipush 11, 2) := ax_dec dX7_signOf_q0_ok 4 (8, .bipush 11, 2) rfl
theorem dX7_signOf_10 : decode cX7_signOf 10 = .ok (.goto 87, 3) := ax_dec dX7_signOf_q0_ok 5 (10, .goto 87, 3) rfl
theorem dX7_signOf_13 : decode cX7_signOf 13 = .ok (.aload_n 0, 1) := ax_dec dX7_signOf_q0_ok 6 (13, .aload_n 0, 1) rfl
theorem dX7_signOf_14 : decode cX7_signOf 14 = .ok (.getfield 123, 3) := ax_dec dX7_signOf_q0_ok 7 (14, .getfield 123, 3) rfl
theorem dX7_signOf_17 : decode cX7_signOf 17 = .ok (.iconst 5, 1) := ax_dec dX7_signOf_q0_ok 8 (17, .iconst 5, 1) rfl
theorem dX7_signOf_18 : decode cX7_signOf 18 = .ok (.if_icmp .ne 8, 3) := ax_dec dX7_signOf_q0_ok 9 (18, .if_icmp .ne 8, 3) rfl
theorem dX7_signOf_21 : decode cX7_signOf 21 = .ok (.bipush 12, 2) := ax_dec dX7_signOf_q0_ok 10 (21, .bipush 12, 2) rfl
theorem dX7_signOf_23 : decode cX7_signOf 23 = .ok (.goto 74, 3) := ax_dec dX7_signOf_q0_ok 11 (23, .goto 74, 3) rfl
theorem dX7_signOf_26 : decode cX7_signOf 26 = .ok (.aload_n 0, 1) := ax_dec dX7_signOf_q0_ok 12 (26, .aload_n 0, 1) rfl
theorem dX7_signOf_27 : decode cX7_signOf 27 = .ok (.getfield 123, 3) := ax_dec dX7_signOf_q0_ok 13 (27, .getfield 123, 3) rfl
theorem dX7_signOf_30 : decode cX7_signOf 30 = .ok (.bipush 60, 2) := ax_dec dX7_signOf_q0_ok 14 (30, .bipush 60, 2) rfl
theorem dX7_signOf_32 : decode cX7_signOf 32 = .ok (.if_icmp .ne 8, 3) := ax_dec dX7_signOf_q0_ok 15 (32, .if_icmp .ne 8, 3) rfl
theorem dX7_signOf_35 : decode cX7_signOf 35 = .ok (.bipush 14, 2) := ax_dec dX7_signOf_q0_ok 16 (35, .bipush 14, 2) rfl
theorem dX7_signOf_37 : decode cX7_signOf 37 = .ok (.goto 60, 3) := ax_dec dX7_signOf_q0_ok 17 (37, .goto 60, 3) rfl
theorem dX7_signOf_40 : decode cX7_signOf 40 = .ok (.aload_n 0, 1) := ax_dec dX7_signOf_q0_ok 18 (40, .aload_n 0, 1) rfl
theorem dX7_signOf_41 : decode cX7_signOf 41 = .ok (.getfield 123, 3) := ax_dec dX7_signOf_q0_ok 19 (41, .getfield 123, 3) rfl
theorem dX7_signOf_44 : decode cX7_signOf 44 = .ok (.bipush 61, 2) := ax_dec dX7_signOf_q0_ok 20 (44, .bipush 61, 2) rfl
theorem dX7_signOf_46 : decode cX7_signOf 46 = .ok (.if_icmp .ne 8, 3) := ax_dec dX7_signOf_q0_ok 21 (46, .if_icmp .ne 8, 3) rfl
theorem dX7_signOf_49 : decode cX7_signOf 49 = .ok (.bipush 15, 2) := ax_dec dX7_signOf_q0_ok 22 (49, .bipush 15, 2) rfl
theorem dX7_signOf_51 : decode cX7_signOf 51 = .ok (.goto 46, 3) := ax_dec dX7_signOf_q0_ok 23 (51, .goto 46, 3) rfl
theorem dX7_signOf_54 : decode cX7_signOf 54 = .ok (.aload_n 0, 1) := ax_dec dX7_signOf_q0_ok 24 (54, .aload_n 0, 1) rfl
theorem dX7_signOf_55 : decode cX7_signOf 55 = .ok (.getfield 123, 3) := ax_dec dX7_signOf_q0_ok 25 (55, .getfield 123, 3) rfl
theorem dX7_signOf_58 : decode cX7_signOf 58 = .ok (.bipush 43, 2) := ax_dec dX7_signOf_q0_ok 26 (58, .bipush 43, 2) rfl
theorem dX7_signOf_60 : decode cX7_signOf 60 = .ok (.if_icmp .ne 8, 3) := ax_dec dX7_signOf_q0_ok 27 (60, .if_icmp .ne 8, 3) rfl
theorem dX7_signOf_63 : decode cX7_signOf 63 = .ok (.bipush 16, 2) := ax_dec dX7_signOf_q0_ok 28 (63, .bipush 16, 2) rfl
theorem dX7_signOf_65 : decode cX7_signOf 65 = .ok (.goto 32, 3) := ax_dec dX7_signOf_q0_ok 29 (65, .goto 32, 3) rfl
theorem dX7_signOf_68 : decode cX7_signOf 68 = .ok (.aload_n 0, 1) := ax_dec dX7_signOf_q0_ok 30 (68, .aload_n 0, 1) rfl
theorem dX7_signOf_69 : decode cX7_signOf 69 = .ok (.getfield 123, 3) := ax_dec dX7_signOf_q0_ok 31 (69, .getfield 123, 3) rfl
def dX7_signOf_q1 : List (Nat × (Instr × Nat)) := [(72, .bipush 45, 2), (74, .if_icmp .ne 8, 3), (77, .bipush 17, 2), (79, .goto 18, 3), (82, .aload_n 0, 1), (83, .getfield 123, 3), (86, .bipush 42, 2), (88, .if_icmp .ne 8, 3), (91, .bipush 18, 2), (93, .goto 4, 3), (96, .iconst (-1), 1), (97, .ireturn, 1)]
set_option maxRecDepth 100000 in
theorem dX7_signOf_q1_ok : ax_decs cX7_signOf dX7_signOf_q1 = true := by decide +kernel
theorem dX7_signOf_72 : decode cX7_signOf 72 = .ok (.bipush 45, 2) := ax_dec dX7_signOf_q1_ok 0 (72, .bipush 45, 2) rfl
theorem dX7_signOf_74 : decode cX7_signOf 74 = .ok (.if_icmp .ne 8, 3) := ax_dec dX7_signOf_q1_ok 1 (74, .if_icmp .ne 8, 3) rfl
theorem dX7_signOf_77 : decode cX7_signOf 77 = .ok (.bipush 17, 2) := ax_dec dX7_signOf_q1_ok 2 (77, .bipush 17, 2) rfl
theorem dX7_signOf_79 : decode cX7_signOf 79 = .ok (.goto 18, 3) := ax_dec dX7_signOf_q1_ok 3 (79, .goto 18, 3) rfl
theorem dX7_signOf_82 : decode cX7_signOf 82 = .ok (.aload_n 0, 1) := ax_dec dX7_signOf_q1_ok 4 (82, .aload_n 0, 1) rfl
theorem dX7_signOf_83 : decode cX7_signOf 83 = .ok (.getfield 123, 3) := ax_dec dX7_signOf_q1_ok 5 (83, .getfield 123, 3) rfl
theorem dX7_signOf_86 : decode cX7_signOf 86 = .ok (.bipush 42, 2) := ax_dec dX7_signOf_q1_ok 6 (86, .bipush 42, 2) rfl
theorem dX7_signOf_88 : decode cX7_signOf 88 = .ok (.if_icmp .ne 8, 3) := ax_dec dX7_signOf_q1_ok 7 (88, .if_icmp .ne 8, 3) rfl
theorem dX7_signOf_91 : decode cX7_signOf 91 = .ok (.bipush 18, 2) := ax_dec dX7_signOf_q1_ok 8 (91, .bipush 18, 2) rfl
theorem dX7_signOf_93 : decode cX7_signOf 93 = .ok (.goto 4, 3) := ax_dec dX7_signOf_q1_ok 9 (93, .goto 4, 3) rfl
theorem dX7_signOf_96 : decode cX7_signOf 96 = .ok (.iconst (-1), 1) := ax_dec dX7_signOf_q1_ok 10 (96, .iconst (-1), 1) rfl
theorem dX7_signOf_97 : decode cX7_signOf 97 = .ok (.ireturn, 1) := ax_dec dX7_signOf_q1_ok 11 (97, .ireturn, 1) rfl
def dX7_eRead_q0 : List (Nat × (Instr × Nat)) := [(0, .aload_n 0, 1), (1, .iconst 0, 1), (2, .putfield 136, 3), (5, .aload_n 0, 1), (6, .iconst 0, 1), (7, .putfield 142, 3), (10, .iconst 1, 1), (11, .istore_n 1, 1), (12, .iconst 1, 1), (13, .istore_n 2, 1), (14, .aload_n 0, 1), (15, .invokevirtual 155, 3), (18, .iload_n 1, 1), (19, .ifCond .eq 131, 3), (22, .aload_n 0, 1), (23, .getfield 123, 3), (26, .iconst 1, 1), (27, .if_icmp .eq 11, 3), (30, .aload_n 0, 1), (31, .getfield 123, 3), (34, .iconst 2, 1), (35, .if_icmp .ne 40, 3), (38, .aload_n 0, 1), (39, .aload_n 0, 1), (40, .getfield 123, 3), (43, .iconst 1, 1), (44, .if_icmp .ne 13, 3), (47, .ldc 158, 2), (49, .aload_n 0, 1), (50, .getfield 126, 3), (53, .iadd, 1), (54, .goto 7, 3)]
set_option maxRecDepth 100000 in
theorem dX7_eRead_q0_ok : ax_decs cX7_eRead dX7_eRead_q0 = true := by decide +kernel
theorem dX7_eRead_0 : decode cX7_eRead 0 = .ok (.aload_n 0, 1) := ax_dec dX7_eRead_q0_ok 0 (0, .aload_n 0, 1) rfl
theorem dX7_eRead_1 : decode cX7_eRead 1 = .ok (.iconst 0, 1) := ax_dec dX7_eRead_q0_ok 1 (1, .iconst 0, 1) rfl
theorem dX7_eRead_2 : decode cX7_eRead 2 = .ok (.putfield 136, 3) := ax_dec dX7_eRead_q0_ok 2 (2, .putfield 136, 3) rfl
theorem dX7_eRead_5 : decode cX7_eRead 5 = .ok (.aload_n 0, 1) := ax_dec dX7_eRead_q0_ok 3 (5, .aload_n 0, 1) rfl
theorem dX7_eRead_6 : decode cX7_eRead 6 = .ok (.iconst 0, 1) := ax_dec dX7_eRead_q0_ok 4 (6, .iconst 0, 1) rfl
theorem dX7_eRead_7 : decode cX7_eRead 7 = .ok (.putfield 142, 3) := ax_dec dX7_eRead_q0_ok 5 (7, .putfield 142, 3) rfl
theorem dX7_eRead_10 : decode cX7_eRead 10 = .ok (.iconst 1, 1) := ax_dec dX7_eRead_q0_ok 6 (10, .iconst 1, 1) rfl
theorem dX7_eRead_11 : decode cX7_eRead 11 = .ok (.istore_n 1, 1) := ax_dec dX7_eRead_q0_ok 7 (11, .istore_n 1, 1) rfl
theorem dX7_eRead_12 : decode cX7_eRead 12 = .ok (.iconst 1, 1) := ax_dec dX7_eRead_q0_ok 8 (12, .iconst 1, 1) rfl
theorem dX7_eRead_13 : decode cX7_eRead 13 = .ok (.istore_n 2, 1) := ax_dec dX7_eRead_q0_ok 9 (13, .istore_n 2, 1) rfl
theorem dX7_eRead_14 : decode cX7_eRead 14 = .ok (.aload_n 0, 1) := ax_dec dX7_eRead_q0_ok 10 (14, .aload_n 0, 1) rfl
theorem dX7_eRead_15 : decode cX7_eRead 15 = .ok (.invokevirtual 155, 3) := ax_dec dX7_eRead_q0_ok 11 (15, .invokevirtual 155, 3) rfl
theorem dX7_eRead_18 : decode cX7_eRead 18 = .ok (.iload_n 1, 1) := ax_dec dX7_eRead_q0_ok 12 (18, .iload_n 1, 1) rfl
theorem dX7_eRead_19 : decode cX7_eRead 19 = .ok (.ifCond .eq 131, 3) := ax_dec dX7_eRead_q0_ok 13 (19, .ifCond .eq 131, 3) rfl
theorem dX7_eRead_22 : decode cX7_eRead 22 = .ok (.aload_n 0, 1) := ax_dec dX7_eRead_q0_ok 14 (22, .aload_n 0, 1) rfl
theorem dX7_eRead_23 : decode cX7_eRead 23 = .ok (.getfield 123, 3) := ax_dec dX7_eRead_q0_ok 15 (23, .getfield 123, 3) rfl
theorem dX7_eRead_26 : decode cX7_eRead 26 = .ok (.iconst 1, 1) := ax_dec dX7_eRead_q0_ok 16 (26, .iconst 1, 1) rfl
theorem dX7_eRead_27 : decode cX7_eRead 27 = .ok (.if_icmp .eq 11, 3) := ax_dec dX7_eRead_q0_ok 17 (27, .if_icmp .eq 11, 3) rfl
theorem dX7_eRead_30 : decode cX7_eRead 30 = .ok (.aload_n 0, 1) := ax_dec dX7_eRead_q0_ok 18 (30, .aload_n 0, 1) rfl
theorem dX7_eRead_31 : decode cX7_eRead 31 = .ok (.getfield 123, 3) := ax_dec dX7_eRead_q0_ok 19 (31, .getfield 123, 3) rfl
theorem dX7_eRead_34 : decode cX7_eRead 34 = .ok (.iconst 2, 1) := ax_dec dX7_eRead_q0_ok 20 (34, .iconst 2, 1) rfl
theorem dX7_eRead_35 : decode cX7_eRead 35 = .ok (.if_icmp .ne 40, 3) := ax_dec dX7_eRead_q0_ok 21 (35, .if_icmp .ne 40, 3) rfl
theorem dX7_eRead_38 : decode cX7_eRead 38 = .ok (.aload_n 0, 1) := ax_dec dX7_eRead_q0_ok 22 (38, .aload_n 0, 1) rfl
theorem dX7_eRead_39 : decode cX7_eRead 39 = .ok (.aload_n 0, 1) := ax_dec dX7_eRead_q0_ok 23 (39, .aload_n 0, 1) rfl
theorem dX7_eRead_40 : decode cX7_eRead 40 = .ok (.getfield 123, 3) := ax_dec dX7_eRead_q0_ok 24 (40, .getfield 123, 3) rfl
theorem dX7_eRead_43 : decode cX7_eRead 43 = .ok (.iconst 1, 1) := ax_dec dX7_eRead_q0_ok 25 (43, .iconst 1, 1) rfl
theorem dX7_eRead_44 : decode cX7_eRead 44 = .ok (.if_icmp .ne 13, 3) := ax_dec dX7_eRead_q0_ok 26 (44, .if_icmp .ne 13, 3) rfl
theorem dX7_eRead_47 : decode cX7_eRead 47 = .ok (.ldc 158, 2) := ax_dec dX7_eRead_q0_ok 27 (47, .ldc 158, 2) rfl
theorem dX7_eRead_49 : decode cX7_eRead 49 = .ok (.aload_n 0, 1) := ax_dec dX7_eRead_q0_ok 28 (49, .aload_n 0, 1) rfl
theorem dX7_eRead_50 : decode cX7_eRead 50 = .ok (.getfield 126, 3) := ax_dec dX7_eRead_q0_ok 29 (50, .getfield 126, 3) rfl
theorem dX7_eRead_53 : decode cX7_eRead 53 = .ok (.iadd, 1) := ax_dec dX7_eRead_q0_ok 30 (53, .iadd, 1) rfl
theorem dX7_eRead_54 : decode cX7_eRead 54 = .ok (.goto 7, 3) := ax_dec dX7_eRead_q0_ok 31 (54, .goto 7, 3) rfl
def dX7_eRead_q1 : List (Nat × (Instr × Nat)) := [(57, .aload_n 0, 1), (58, .getfield 126, 3), (61, .invokevirtual 145, 3), (64, .aload_n 0, 1), (65, .bipush 7, 2), (67, .invokevirtual 152, 3), (70, .iconst 0, 1), (71, .istore_n 1, 1), (72, .goto (-58), 3), (75, .aload_n 0, 1), (76, .getfield 123, 3), (79, .bipush 6, 2), (81, .if_icmp .ne 18, 3), (84, .iload_n 2, 1), (85, .ifCond .eq 14, 3), (88, .aload_n 0, 1), (89, .bipush 13, 2), (91, .invokevirtual 159, 3), (94, .ifCond .ne (-80), 3), (97, .iconst 0, 1), (98, .ireturn, 1), (99, .aload_n 0, 1), (100, .getfield 123, 3), (103, .bipush 45, 2), (105, .if_icmp .ne 19, 3), (108, .aload_n 0, 1), (109, .bipush 19, 2), (111, .invokevirtual 159, 3), (114, .ifCond .ne 5, 3), (117, .iconst 0, 1), (118, .ireturn, 1), (119, .iconst 0, 1)]
set_option maxRecDepth 100000 in
theorem dX7_eRead_q1_ok : ax_decs cX7_eRead dX7_eRead_q1 = true := by decide +kernel
theorem dX7_eRead_57 : decode cX7_eRead 57 = .ok (.aload_n 0, 1) := ax_dec dX7_eRead_q1_ok 0 (57, .aload_n 0, 1) rfl
theorem dX7_eRead_58 : decode cX7_eRead 58 = .ok (.getfield 126, 3) := ax_dec dX7_eRead_q1_ok 1 (58, .getfield 126, 3) rfl
theorem dX7_eRead_61 : decode cX7_eRead 61 = .ok (.invokevirtual 145, 3) := ax_dec dX7_eRead_q1_ok 2 (61, .invokevirtual 145, 3) rfl
theorem dX7_eRead_64 : decode cX7_eRead 64 = .ok (.aload_n 0, 1) := ax_dec dX7_eRead_q1_ok 3 (64, .aload_n 0, 1) rfl
theorem dX7_eRead_65 : decode cX7_eRead 65 = .ok (.bipush 7, 2) := ax_dec dX7_eRead_q1_ok 4 (65, .bipush 7, 2) rfl
theorem dX7_eRead_67 : decode cX7_eRead 67 = .ok (.invokevirtual 152, 3) := ax_dec dX7_eRead_q1_ok 5 (67, .invokevirtual 152, 3) rfl
theorem dX7_eRead_70 : decode cX7_eRead 70 = .ok (.iconst 0, 1) := ax_dec dX7_eRead_q1_ok 6 (70, .iconst 0, 1) rfl
theorem dX7_eRead_71 : decode cX7_eRead 71 = .ok (.istore_n 1, 1) := ax_dec dX7_eRead_q1_ok 7 (71, .istore_n 1, 1) rfl
theorem dX7_eRead_72 : decode cX7_eRead 72 = .ok (.goto (-58), 3) := ax_dec dX7_eRead_q1_ok 8 (72, .goto (-58), 3) rfl
theorem dX7_eRead_75 : decode cX7_eRead 75 = .ok (.aload_n 0, 1) := ax_dec dX7_eRead_q1_ok 9 (75, .aload_n 0, 1) rfl
theorem dX7_eRead_76 : decode cX7_eRead 76 = .ok (.getfield 123, 3) := ax_dec dX7_eRead_q1_ok 10 (76, .getfield 123, 3) rfl
theorem dX7_eRead_79 : decode cX7_eRead 79 = .ok (.bipush 6, 2) := ax_dec dX7_eRead_q1_ok 11 (79, .bipush 6, 2) rfl
theorem dX7_eRead_81 : decode cX7_eRead 81 = .ok (.if_icmp .ne 18, 3) := ax_dec dX7_eRead_q1_ok 12 (81, .if_icmp .ne 18, 3) rfl
theorem dX7_eRead_84 : decode cX7_eRead 84 = .ok (.iload_n 2, 1) := ax_dec dX7_eRead_q1_ok 13 (84, .iload_n 2, 1) rfl
theorem dX7_eRead_85 : decode cX7_eRead 85 = .ok (.ifCond .eq 14, 3) := ax_dec dX7_eRead_q1_ok 14 (85, .ifCond .eq 14, 3) rfl
theorem dX7_eRead_88 : decode cX7_eRead 88 = .ok (.aload_n 0, 1) := ax_dec dX7_eRead_q1_ok 15 (88, .aload_n 0, 1) rfl
theorem dX7_eRead_89 : decode cX7_eRead 89 = .ok (.bipush 13, 2) := ax_dec dX7_eRead_q1_ok 16 (89, .bipush 13, 2) rfl
theorem dX7_eRead_91 : decode cX7_eRead 91 = .ok (.invokevirtual 159, 3) := ax_dec dX7_eRead_q1_ok 17 (91, .invokevirtual 159, 3) rfl
theorem dX7_eRead_94 : decode cX7_eRead 94 = .ok (.ifCond .ne (-80), 3) := ax_dec dX7_eRead_q1_ok 18 (94, .ifCond .ne (-80), 3) rfl
theorem dX7_eRead_97 : decode cX7_eRead 97 = .ok (.iconst 0, 1) := ax_dec dX7_eRead_q1_ok 19 (97, .iconst 0, 1) rfl
theorem dX7_eRead_98 : decode cX7_eRead 98 = .ok (.ireturn, 1) := ax_dec dX7_eRead_q1_ok 20 (98, .ireturn, 1) rfl
theorem dX7_eRead_99 : decode cX7_eRead 99 = .ok (.aload_n 0, 1) := ax_dec dX7_eRead_q1_ok 21 (99, .aload_n 0, 1) rfl
theorem dX7_eRead_100 : decode cX7_eRead 100 = .ok (.getfield 123, 3) := ax_dec dX7_eRead_q1_ok 22 (100, .getfield 123, 3) rfl
theorem dX7_eRead_103 : decode cX7_eRead 103 = .ok (.bipush 45, 2) := ax_dec dX7_eRead_q1_ok 23 (103, .bipush 45, 2) rfl
theorem dX7_eRead_105 : decode cX7_eRead 105 = .ok (.if_icmp .ne 19, 3) := ax_dec dX7_eRead_q1_ok 24 (105, .if_icmp .ne 19, 3) rfl
theorem dX7_eRead_108 : decode cX7_eRead 108 = .ok (.aload_n 0, 1) := ax_dec dX7_eRead_q1_ok 25 (108, .aload_n 0, 1) rfl
theorem dX7_eRead_109 : decode cX7_eRead 109 = .ok (.bipush 19, 2) := ax_dec dX7_eRead_q1_ok 26 (109, .bipush 19, 2) rfl
theorem dX7_eRead_111 : decode cX7_eRead 111 = .ok (.invokevirtual 159, 3) := ax_dec dX7_eRead_q1_ok 27 (111, .invokevirtual 159, 3) rfl
theorem dX7_eRead_114 : decode cX7_eRead 114 = .ok (.ifCond .ne 5, 3) := ax_dec dX7_eRead_q1_ok 28 (114, .ifCond .ne 5, 3) rfl
theorem dX7_eRead_117 : decode cX7_eRead 117 = .ok (.iconst 0, 1) := ax_dec dX7_eRead_q1_ok 29 (117, .iconst 0, 1) rfl
theorem dX7_eRead_118 : decode cX7_eRead 118 = .ok (.ireturn, 1) := ax_dec dX7_eRead_q1_ok 30 (118, .ireturn, 1) rfl
theorem dX7_eRead_119 : decode cX7_eRead 119 = .ok (.iconst 0, 1) := ax_dec dX7_eRead_q1_ok 31 (119, .iconst 0, 1) rfl
def dX7_eRead_q2 : List (Nat × (Instr × Nat)) := [(120, .istore_n 2, 1), (121, .goto (-107), 3), (124, .aload_n 0, 1), (125, .getfield 123, 3), (128, .bipush 40, 2), (130, .if_icmp .ne 18, 3), (133, .aload_n 0, 1), (134, .iconst 0, 1), (135, .invokevirtual 159, 3), (138, .ifCond .ne 5, 3), (141, .iconst 0, 1), (142, .ireturn, 1), (143, .iconst 1, 1), (144, .istore_n 2, 1), (145, .goto (-131), 3), (148, .iconst 0, 1), (149, .ireturn, 1), (150, .aload_n 0, 1), (151, .getfield 123, 3), (154, .bipush 59, 2), (156, .if_icmp .ne 21, 3), (159, .aload_n 0, 1), (160, .iconst 1, 1), (161, .invokevirtual 152, 3), (164, .aload_n 0, 1), (165, .getfield 136, 3), (168, .ifCond .ne 7, 3), (171, .iconst 1, 1), (172, .goto 4, 3), (175, .iconst 0, 1), (176, .ireturn, 1), (177, .aload_n 0, 1)]
set_option maxRecDepth 100000 in
theorem dX7_eRead_q2_ok : ax_decs cX7_eRead dX7_eRead_q2 = true := by decide +kernel
theorem dX7_eRead_120 : decode cX7_eRead 120 = .ok (.istore_n 2, 1) := ax_dec dX7_eRead_q2_ok 0 (120, .istore_n 2, 1) rfl
theorem dX7_eRead_121 : decode cX7_eRead 121 = .ok (.goto (-107), 3) := ax_dec dX7_eRead_q2_ok 1 (121, .goto (-107), 3) rfl
theorem dX7_eRead_124 : decode cX7_eRead 124 = .ok (.aload_n 0, 1) := ax_dec dX7_eRead_q2_ok 2 (124, .aload_n 0, 1) rfl
theorem dX7_eRead_125 : decode cX7_eRead 125 = .ok (.getfield 123, 3) := ax_dec dX7_eRead_q2_ok 3 (125, .getfield 123, 3) rfl
theorem dX7_eRead_128 : decode cX7_eRead 128 = .ok (.bipush 40, 2) := ax_dec dX7_eRead_q2_ok 4 (128, .bipush 40, 2) rfl
theorem dX7_eRead_130 : decode cX7_eRead 130 = .ok (.if_icmp .ne 18, 3) := ax_dec dX7_eRead_q2_ok 5 (130, .if_icmp .ne 18, 3) rfl
theorem dX7_eRead_133 : decode cX7_eRead 133 = .ok (.aload_n 0, 1) := ax_dec dX7_eRead_q2_ok 6 (133, .aload_n 0, 1) rfl
theorem dX7_eRead_134 : decode cX7_eRead 134 = .ok (.iconst 0, 1) := ax_dec dX7_eRead_q2_ok 7 (134, .iconst 0, 1) rfl
theorem dX7_eRead_135 : decode cX7_eRead 135 = .ok (.invokevirtual 159, 3) := ax_dec dX7_eRead_q2_ok 8 (135, .invokevirtual 159, 3) rfl
theorem dX7_eRead_138 : decode cX7_eRead 138 = .ok (.ifCond .ne 5, 3) := ax_dec dX7_eRead_q2_ok 9 (138, .ifCond .ne 5, 3) rfl
theorem dX7_eRead_141 : decode cX7_eRead 141 = .ok (.iconst 0, 1) := ax_dec dX7_eRead_q2_ok 10 (141, .iconst 0, 1) rfl
theorem dX7_eRead_142 : decode cX7_eRead 142 = .ok (.ireturn, 1) := ax_dec dX7_eRead_q2_ok 11 (142, .ireturn, 1) rfl
theorem dX7_eRead_143 : decode cX7_eRead 143 = .ok (.iconst 1, 1) := ax_dec dX7_eRead_q2_ok 12 (143, .iconst 1, 1) rfl
theorem dX7_eRead_144 : decode cX7_eRead 144 = .ok (.istore_n 2, 1) := ax_dec dX7_eRead_q2_ok 13 (144, .istore_n 2, 1) rfl
theorem dX7_eRead_145 : decode cX7_eRead 145 = .ok (.goto (-131), 3) := ax_dec dX7_eRead_q2_ok 14 (145, .goto (-131), 3) rfl
theorem dX7_eRead_148 : decode cX7_eRead 148 = .ok (.iconst 0, 1) := ax_dec dX7_eRead_q2_ok 15 (148, .iconst 0, 1) rfl
theorem dX7_eRead_149 : decode cX7_eRead 149 = .ok (.ireturn, 1) := ax_dec dX7_eRead_q2_ok 16 (149, .ireturn, 1) rfl
theorem dX7_eRead_150 : decode cX7_eRead 150 = .ok (.aload_n 0, 1) := ax_dec dX7_eRead_q2_ok 17 (150, .aload_n 0, 1) rfl
theorem dX7_eRead_151 : decode cX7_eRead 151 = .ok (.getfield 123, 3) := ax_dec dX7_eRead_q2_ok 18 (151, .getfield 123, 3) rfl
theorem dX7_eRead_154 : decode cX7_eRead 154 = .ok (.bipush 59, 2) := ax_dec dX7_eRead_q2_ok 19 (154, .bipush 59, 2) rfl
theorem dX7_eRead_156 : decode cX7_eRead 156 = .ok (.if_icmp .ne 21, 3) := ax_dec dX7_eRead_q2_ok 20 (156, .if_icmp .ne 21, 3) rfl
theorem dX7_eRead_159 : decode cX7_eRead 159 = .ok (.aload_n 0, 1) := ax_dec dX7_eRead_q2_ok 21 (159, .aload_n 0, 1) rfl
theorem dX7_eRead_160 : decode cX7_eRead 160 = .ok (.iconst 1, 1) := ax_dec dX7_eRead_q2_ok 22 (160, .iconst 1, 1) rfl
theorem dX7_eRead_161 : decode cX7_eRead 161 = .ok (.invokevirtual 152, 3) := ax_dec dX7_eRead_q2_ok 23 (161, .invokevirtual 152, 3) rfl
theorem dX7_eRead_164 : decode cX7_eRead 164 = .ok (.aload_n 0, 1) := ax_dec dX7_eRead_q2_ok 24 (164, .aload_n 0, 1) rfl
theorem dX7_eRead_165 : decode cX7_eRead 165 = .ok (.getfield 136, 3) := ax_dec dX7_eRead_q2_ok 25 (165, .getfield 136, 3) rfl
theorem dX7_eRead_168 : decode cX7_eRead 168 = .ok (.ifCond .ne 7, 3) := ax_dec dX7_eRead_q2_ok 26 (168, .ifCond .ne 7, 3) rfl
theorem dX7_eRead_171 : decode cX7_eRead 171 = .ok (.iconst 1, 1) := ax_dec dX7_eRead_q2_ok 27 (171, .iconst 1, 1) rfl
theorem dX7_eRead_172 : decode cX7_eRead 172 = .ok (.goto 4, 3) := ax_dec dX7_eRead_q2_ok 28 (172, .goto 4, 3) rfl
theorem dX7_eRead_175 : decode cX7_eRead 175 = .ok (.iconst 0, 1) := ax_dec dX7_eRead_q2_ok 29 (175, .iconst 0, 1) rfl
theorem dX7_eRead_176 : decode cX7_eRead 176 = .ok (.ireturn, 1) := ax_dec dX7_eRead_q2_ok 30 (176, .ireturn, 1) rfl
theorem dX7_eRead_177 : decode cX7_eRead 177 = .ok (.aload_n 0, 1) := ax_dec dX7_eRead_q2_ok 31 (177, .aload_n 0, 1) rfl
def dX7_eRead_q3 : List (Nat × (Instr × Nat)) := [(178, .getfield 123, 3), (181, .bipush 41, 2), (183, .if_icmp .ne 46, 3), (186, .aload_n 0, 1), (187, .iconst 1, 1), (188, .invokevirtual 152, 3), (191, .aload_n 0, 1), (192, .getfield 136, 3), (195, .ifCond .ne 5, 3), (198, .iconst 0, 1), (199, .ireturn, 1), (200, .aload_n 0, 1), (201, .dup, 1), (202, .getfield 136, 3), (205, .iconst 1, 1), (206, .isub, 1), (207, .putfield 136, 3), (210, .aload_n 0, 1), (211, .dup, 1), (212, .getfield 142, 3), (215, .iconst 1, 1), (216, .isub, 1), (217, .putfield 142, 3), (220, .aload_n 0, 1), (221, .bipush 7, 2), (223, .invokevirtual 152, 3), (226, .goto (-212), 3), (229, .aload_n 0, 1), (230, .invokevirtual 162, 3), (233, .istore_n 3, 1), (234, .iload_n 3, 1), (235, .iconst (-1), 1)]
set_option maxRecDepth 100000 in
theorem dX7_eRead_q3_ok : ax_decs cX7_eRead dX7_eRead_q3 = true := by decide +kernel
theorem dX7_eRead_178 : decode cX7_eRead 178 = .ok (.getfield 123, 3) := ax_dec dX7_eRead_q3_ok 0 (178, .getfield 123, 3) rfl
theorem dX7_eRead_181 : decode cX7_eRead 181 = .ok (.bipush 41, 2) := ax_dec dX7_eRead_q3_ok 1 (181, .bipush 41, 2) rfl
theorem dX7_eRead_183 : decode cX7_eRead 183 = .ok (.if_icmp .ne 46, 3) := ax_dec dX7_eRead_q3_ok 2 (183, .if_icmp .ne 46, 3) rfl
theorem dX7_eRead_186 : decode cX7_eRead 186 = .ok (.aload_n 0, 1) := ax_dec dX7_eRead_q3_ok 3 (186, .aload_n 0, 1) rfl
theorem dX7_eRead_187 : decode cX7_eRead 187 = .ok (.iconst 1, 1) := ax_dec dX7_eRead_q3_ok 4 (187, .iconst 1, 1) rfl
theorem dX7_eRead_188 : decode cX7_eRead 188 = .ok (.invokevirtual 152, 3) := ax_dec dX7_eRead_q3_ok 5 (188, .invokevirtual 152, 3) rfl
theorem dX7_eRead_191 : decode cX7_eRead 191 = .ok (.aload_n 0, 1) := ax_dec dX7_eRead_q3_ok 6 (191, .aload_n 0, 1) rfl
theorem dX7_eRead_192 : decode cX7_eRead 192 = .ok (.getfield 136, 3) := ax_dec dX7_eRead_q3_ok 7 (192, .getfield 136, 3) rfl
theorem dX7_eRead_195 : decode cX7_eRead 195 = .ok (.ifCond .ne 5, 3) := ax_dec dX7_eRead_q3_ok 8 (195, .ifCond .ne 5, 3) rfl
theorem dX7_eRead_198 : decode cX7_eRead 198 = .ok (.iconst 0, 1) := ax_dec dX7_eRead_q3_ok 9 (198, .iconst 0, 1) rfl
theorem dX7_eRead_199 : decode cX7_eRead 199 = .ok (.ireturn, 1) := ax_dec dX7_eRead_q3_ok 10 (199, .ireturn, 1) rfl
theorem dX7_eRead_200 : decode cX7_eRead 200 = .ok (.aload_n 0, 1) := ax_dec dX7_eRead_q3_ok 11 (200, .aload_n 0, 1) rfl
theorem dX7_eRead_201 : decode cX7_eRead 201 = .ok (.dup, 1) := ax_dec dX7_eRead_q3_ok 12 (201, .dup, 1) rfl
theorem dX7_eRead_202 : decode cX7_eRead 202 = .ok (.getfield 136, 3) := ax_dec dX7_eRead_q3_ok 13 (202, .getfield 136, 3) rfl
theorem dX7_eRead_205 : decode cX7_eRead 205 = .ok (.iconst 1, 1) := ax_dec dX7_eRead_q3_ok 14 (205, .iconst 1, 1) rfl
theorem dX7_eRead_206 : decode cX7_eRead 206 = .ok (.isub, 1) := ax_dec dX7_eRead_q3_ok 15 (206, .isub, 1) rfl
theorem dX7_eRead_207 : decode cX7_eRead 207 = .ok (.putfield 136, 3) := ax_dec dX7_eRead_q3_ok 16 (207, .putfield 136, 3) rfl
theorem dX7_eRead_210 : decode cX7_eRead 210 = .ok (.aload_n 0, 1) := ax_dec dX7_eRead_q3_ok 17 (210, .aload_n 0, 1) rfl
theorem dX7_eRead_211 : decode cX7_eRead 211 = .ok (.dup, 1) := ax_dec dX7_eRead_q3_ok 18 (211, .dup, 1) rfl
theorem dX7_eRead_212 : decode cX7_eRead 212 = .ok (.getfield 142, 3) := ax_dec dX7_eRead_q3_ok 19 (212, .getfield 142, 3) rfl
theorem dX7_eRead_215 : decode cX7_eRead 215 = .ok (.iconst 1, 1) := ax_dec dX7_eRead_q3_ok 20 (215, .iconst 1, 1) rfl
theorem dX7_eRead_216 : decode cX7_eRead 216 = .ok (.isub, 1) := ax_dec dX7_eRead_q3_ok 21 (216, .isub, 1) rfl
theorem dX7_eRead_217 : decode cX7_eRead 217 = .ok (.putfield 142, 3) := ax_dec dX7_eRead_q3_ok 22 (217, .putfield 142, 3) rfl
theorem dX7_eRead_220 : decode cX7_eRead 220 = .ok (.aload_n 0, 1) := ax_dec dX7_eRead_q3_ok 23 (220, .aload_n 0, 1) rfl
theorem dX7_eRead_221 : decode cX7_eRead 221 = .ok (.bipush 7, 2) := ax_dec dX7_eRead_q3_ok 24 (221, .bipush 7, 2) rfl
theorem dX7_eRead_223 : decode cX7_eRead 223 = .ok (.invokevirtual 152, 3) := ax_dec dX7_eRead_q3_ok 25 (223, .invokevirtual 152, 3) rfl
theorem dX7_eRead_226 : decode cX7_eRead 226 = .ok (.goto (-212), 3) := ax_dec dX7_eRead_q3_ok 26 (226, .goto (-212), 3) rfl
theorem dX7_eRead_229 : decode cX7_eRead 229 = .ok (.aload_n 0, 1) := ax_dec dX7_eRead_q3_ok 27 (229, .aload_n 0, 1) rfl
theorem dX7_eRead_230 : decode cX7_eRead 230 = .ok (.invokevirtual 162, 3) := ax_dec dX7_eRead_q3_ok 28 (230, .invokevirtual 162, 3) rfl
theorem dX7_eRead_233 : decode cX7_eRead 233 = .ok (.istore_n 3, 1) := ax_dec dX7_eRead_q3_ok 29 (233, .istore_n 3, 1) rfl
theorem dX7_eRead_234 : decode cX7_eRead 234 = .ok (.iload_n 3, 1) := ax_dec dX7_eRead_q3_ok 30 (234, .iload_n 3, 1) rfl
theorem dX7_eRead_235 : decode cX7_eRead 235 = .ok (.iconst (-1), 1) := ax_dec dX7_eRead_q3_ok 31 (235, .iconst (-1), 1) rfl
def dX7_eRead_q4 : List (Nat × (Instr × Nat)) := [(236, .if_icmp .eq 11, 3), (239, .aload_n 0, 1), (240, .iload_n 3, 1), (241, .invokevirtual 165, 3), (244, .ifCond .ne 5, 3), (247, .iconst 0, 1), (248, .ireturn, 1), (249, .iconst 1, 1), (250, .istore_n 1, 1), (251, .iload_n 3, 1), (252, .bipush 12, 2), (254, .if_icmp .gt 7, 3), (257, .iconst 1, 1), (258, .goto 4, 3), (261, .iconst 0, 1), (262, .istore_n 2, 1), (263, .goto (-249), 3)]
set_option maxRecDepth 100000 in
theorem dX7_eRead_q4_ok : ax_decs cX7_eRead dX7_eRead_q4 = true := by decide +kernel
theorem dX7_eRead_236 : decode cX7_eRead 236 = .ok (.if_icmp .eq 11, 3) := ax_dec dX7_eRead_q4_ok 0 (236, .if_icmp .eq 11, 3) rfl
theorem dX7_eRead_239 : decode cX7_eRead 239 = .ok (.aload_n 0, 1) := ax_dec dX7_eRead_q4_ok 1 (239, .aload_n 0, 1) rfl
theorem dX7_eRead_240 : decode cX7_eRead 240 = .ok (.iload_n 3, 1) := ax_dec dX7_eRead_q4_ok 2 (240, .iload_n 3, 1) rfl
theorem dX7_eRead_241 : decode cX7_eRead 241 = .ok (.invokevirtual 165, 3) := ax_dec dX7_eRead_q4_ok 3 (241, .invokevirtual 165, 3) rfl
theorem dX7_eRead_244 : decode cX7_eRead 244 = .ok (.ifCond .ne 5, 3) := ax_dec dX7_eRead_q4_ok 4 (244, .ifCond .ne 5, 3) rfl
theorem dX7_eRead_247 : decode cX7_eRead 247 = .ok (.iconst 0, 1) := ax_dec dX7_eRead_q4_ok 5 (247, .iconst 0, 1) rfl
theorem dX7_eRead_248 : decode cX7_eRead 248 = .ok (.ireturn, 1) := ax_dec dX7_eRead_q4_ok 6 (248, .ireturn, 1) rfl
theorem dX7_eRead_249 : decode cX7_eRead 249 = .ok (.iconst 1, 1) := ax_dec dX7_eRead_q4_ok 7 (249, .iconst 1, 1) rfl
theorem dX7_eRead_250 : decode cX7_eRead 250 = .ok (.istore_n 1, 1) := ax_dec dX7_eRead_q4_ok 8 (250, .istore_n 1, 1) rfl
theorem dX7_eRead_251 : decode cX7_eRead 251 = .ok (.iload_n 3, 1) := ax_dec dX7_eRead_q4_ok 9 (251, .iload_n 3, 1) rfl
theorem dX7_eRead_252 : decode cX7_eRead 252 = .ok (.bipush 12, 2) := ax_dec dX7_eRead_q4_ok 10 (252, .bipush 12, 2) rfl
theorem dX7_eRead_254 : decode cX7_eRead 254 = .ok (.if_icmp .gt 7, 3) := ax_dec dX7_eRead_q4_ok 11 (254, .if_icmp .gt 7, 3) rfl
theorem dX7_eRead_257 : decode cX7_eRead 257 = .ok (.iconst 1, 1) := ax_dec dX7_eRead_q4_ok 12 (257, .iconst 1, 1) rfl
theorem dX7_eRead_258 : decode cX7_eRead 258 = .ok (.goto 4, 3) := ax_dec dX7_eRead_q4_ok 13 (258, .goto 4, 3) rfl
theorem dX7_eRead_261 : decode cX7_eRead 261 = .ok (.iconst 0, 1) := ax_dec dX7_eRead_q4_ok 14 (261, .iconst 0, 1) rfl
theorem dX7_eRead_262 : decode cX7_eRead 262 = .ok (.istore_n 2, 1) := ax_dec dX7_eRead_q4_ok 15 (262, .istore_n 2, 1) rfl
theorem dX7_eRead_263 : decode cX7_eRead 263 = .ok (.goto (-249), 3) := ax_dec dX7_eRead_q4_ok 16 (263, .goto (-249), 3) rfl
def dX7_text_q0 : List (Nat × (Instr × Nat)) := [(0, .aload_n 0, 1), (1, .getfield 108, 3), (4, .bipush 6, 2), (6, .if_icmp .ne 6, 3), (9, .bipush (-4), 2), (11, .ireturn, 1), (12, .aload_n 0, 1), (13, .iconst 0, 1), (14, .putfield 117, 3), (17, .aload_n 0, 1), (18, .iconst 0, 1), (19, .putfield 133, 3), (22, .iconst 1, 1), (23, .istore_n 1, 1), (24, .iconst 0, 1), (25, .istore_n 2, 1), (26, .iload_n 2, 1), (27, .iconst 3, 1), (28, .if_icmp .ge 73, 3), (31, .iload_n 1, 1), (32, .ifCond .eq 69, 3), (35, .aload_n 0, 1), (36, .invokevirtual 155, 3), (39, .aload_n 0, 1), (40, .getfield 123, 3), (43, .iconst 3, 1), (44, .if_icmp .ne 15, 3), (47, .aload_n 0, 1), (48, .getfield 126, 3), (51, .iload_n 2, 1), (52, .if_icmp .ne 7, 3), (55, .iconst 1, 1)]
set_option maxRecDepth 100000 in
theorem dX7_text_q0_ok : ax_decs cX7_text dX7_text_q0 = true := by decide +kernel
theorem dX7_text_0 : decode cX7_text 0 = .ok (.aload_n 0, 1) := ax_dec dX7_text_q0_ok 0 (0, .aload_n 0, 1) rfl
theorem dX7_text_1 : decode cX7_text 1 = .ok (.getfield 108, 3) := ax_dec dX7_text_q0_ok 1 (1, .getfield 108, 3) rfl
theorem dX7_text_4 : decode cX7_text 4 = .ok (.bipush 6, 2) := ax_dec dX7_text_q0_ok 2 (4, .bipush 6, 2) rfl
theorem dX7_text_6 : decode cX7_text 6 = .ok (.if_icmp .ne 6, 3) := ax_dec dX7_text_q0_ok 3 (6, .if_icmp .ne 6, 3) rfl
theorem dX7_text_9 : decode cX7_text 9 = .ok (.bipush (-4), 2) := ax_dec dX7_text_q0_ok 4 (9, .bipush (-4), 2) rfl
theorem dX7_text_11 : decode cX7_text 11 = .ok (.ireturn, 1) := ax_dec dX7_text_q0_ok 5 (11, .ireturn, 1) rfl
theorem dX7_text_12 : decode cX7_text 12 = .ok (.aload_n 0, 1) := ax_dec dX7_text_q0_ok 6 (12, .aload_n 0, 1) rfl
theorem dX7_text_13 : decode cX7_text 13 = .ok (.iconst 0, 1) := ax_dec dX7_text_q0_ok 7 (13, .iconst 0, 1) rfl
theorem dX7_text_14 : decode cX7_text 14 = .ok (.putfield 117, 3) := ax_dec dX7_text_q0_ok 8 (14, .putfield 117, 3) rfl
theorem dX7_text_17 : decode cX7_text 17 = .ok (.aload_n 0, 1) := ax_dec dX7_text_q0_ok 9 (17, .aload_n 0, 1) rfl
theorem dX7_text_18 : decode cX7_text 18 = .ok (.iconst 0, 1) := ax_dec dX7_text_q0_ok 10 (18, .iconst 0, 1) rfl
theorem dX7_text_19 : decode cX7_text 19 = .ok (.putfield 133, 3) := ax_dec dX7_text_q0_ok 11 (19, .putfield 133, 3) rfl
theorem dX7_text_22 : decode cX7_text 22 = .ok (.iconst 1, 1) := ax_dec dX7_text_q0_ok 12 (22, .iconst 1, 1) rfl
theorem dX7_text_23 : decode cX7_text 23 = .ok (.istore_n 1, 1) := ax_dec dX7_text_q0_ok 13 (23, .istore_n 1, 1) rfl
theorem dX7_text_24 : decode cX7_text 24 = .ok (.iconst 0, 1) := ax_dec dX7_text_q0_ok 14 (24, .iconst 0, 1) rfl
theorem dX7_text_25 : decode cX7_text 25 = .ok (.istore_n 2, 1) := ax_dec dX7_text_q0_ok 15 (25, .istore_n 2, 1) rfl
theorem dX7_text_26 : decode cX7_text 26 = .ok (.iload_n 2, 1) := ax_dec dX7_text_q0_ok 16 (26, .iload_n 2, 1) rfl
theorem dX7_text_27 : decode cX7_text 27 = .ok (.iconst 3, 1) := ax_dec dX7_text_q0_ok 17 (27, .iconst 3, 1) rfl
theorem dX7_text_28 : decode cX7_text 28 = .ok (.if_icmp .ge 73, 3) := ax_dec dX7_text_q0_ok 18 (28, .if_icmp .ge 73, 3) rfl
theorem dX7_text_31 : decode cX7_text 31 = .ok (.iload_n 1, 1) := ax_dec dX7_text_q0_ok 19 (31, .iload_n 1, 1) rfl
theorem dX7_text_32 : decode cX7_text 32 = .ok (.ifCond .eq 69, 3) := ax_dec dX7_text_q0_ok 20 (32, .ifCond .eq 69, 3) rfl
theorem dX7_text_35 : decode cX7_text 35 = .ok (.aload_n 0, 1) := ax_dec dX7_text_q0_ok 21 (35, .aload_n 0, 1) rfl
theorem dX7_text_36 : decode cX7_text 36 = .ok (.invokevirtual 155, 3) := ax_dec dX7_text_q0_ok 22 (36, .invokevirtual 155, 3) rfl
theorem dX7_text_39 : decode cX7_text 39 = .ok (.aload_n 0, 1) := ax_dec dX7_text_q0_ok 23 (39, .aload_n 0, 1) rfl
theorem dX7_text_40 : decode cX7_text 40 = .ok (.getfield 123, 3) := ax_dec dX7_text_q0_ok 24 (40, .getfield 123, 3) rfl
theorem dX7_text_43 : decode cX7_text 43 = .ok (.iconst 3, 1) := ax_dec dX7_text_q0_ok 25 (43, .iconst 3, 1) rfl
theorem dX7_text_44 : decode cX7_text 44 = .ok (.if_icmp .ne 15, 3) := ax_dec dX7_text_q0_ok 26 (44, .if_icmp .ne 15, 3) rfl
theorem dX7_text_47 : decode cX7_text 47 = .ok (.aload_n 0, 1) := ax_dec dX7_text_q0_ok 27 (47, .aload_n 0, 1) rfl
theorem dX7_text_48 : decode cX7_text 48 = .ok (.getfield 126, 3) := ax_dec dX7_text_q0_ok 28 (48, .getfield 126, 3) rfl
theorem dX7_text_51 : decode cX7_text 51 = .ok (.iload_n 2, 1) := ax_dec dX7_text_q0_ok 29 (51, .iload_n 2, 1) rfl
theorem dX7_text_52 : decode cX7_text 52 = .ok (.if_icmp .ne 7, 3) := ax_dec dX7_text_q0_ok 30 (52, .if_icmp .ne 7, 3) rfl
theorem dX7_text_55 : decode cX7_text 55 = .ok (.iconst 1, 1) := ax_dec dX7_text_q0_ok 31 (55, .iconst 1, 1) rfl
def dX7_text_q1 : List (Nat × (Instr × Nat)) := [(56, .goto 4, 3), (59, .iconst 0, 1), (60, .istore_n 1, 1), (61, .aload_n 0, 1), (62, .getfield 37, 3), (65, .iconst 4, 1), (66, .aload_n 0, 1), (67, .getfield 108, 3), (70, .imul, 1), (71, .iload_n 2, 1), (72, .iadd, 1), (73, .aload_n 0, 1), (74, .getfield 133, 3), (77, .iastore, 1), (78, .iload_n 1, 1), (79, .ifCond .eq 14, 3), (82, .aload_n 0, 1), (83, .invokevirtual 168, 3), (86, .ifCond .eq 7, 3), (89, .iconst 1, 1), (90, .goto 4, 3), (93, .iconst 0, 1), (94, .istore_n 1, 1), (95, .iinc 2 1, 3), (98, .goto (-72), 3), (101, .iload_n 1, 1), (102, .ifCond .eq 20, 3), (105, .aload_n 0, 1), (106, .invokevirtual 155, 3), (109, .aload_n 0, 1), (110, .getfield 123, 3), (113, .ifCond .ne 7, 3)]
set_option maxRecDepth 100000 in
theorem dX7_text_q1_ok : ax_decs cX7_text dX7_text_q1 = true := by decide +kernel
theorem dX7_text_56 : decode cX7_text 56 = .ok (.goto 4, 3) := ax_dec dX7_text_q1_ok 0 (56, .goto 4, 3) rfl
theorem dX7_text_59 : decode cX7_text 59 = .ok (.iconst 0, 1) := ax_dec dX7_text_q1_ok 1 (59, .iconst 0, 1) rfl
theorem dX7_text_60 : decode cX7_text 60 = .ok (.istore_n 1, 1) := ax_dec dX7_text_q1_ok 2 (60, .istore_n 1, 1) rfl
theorem dX7_text_61 : decode cX7_text 61 = .ok (.aload_n 0, 1) := ax_dec dX7_text_q1_ok 3 (61, .aload_n 0, 1) rfl
theorem dX7_text_62 : decode cX7_text 62 = .ok (.getfield 37, 3) := ax_dec dX7_text_q1_ok 4 (62, .getfield 37, 3) rfl
theorem dX7_text_65 : decode cX7_text 65 = .ok (.iconst 4, 1) := ax_dec dX7_text_q1_ok 5 (65, .iconst 4, 1) rfl
theorem dX7_text_66 : decode cX7_text 66 = .ok (.aload_n 0, 1) := ax_dec dX7_text_q1_ok 6 (66, .aload_n 0, 1) rfl
theorem dX7_text_67 : decode cX7_text 67 = .ok (.getfield 108, 3) := ax_dec dX7_text_q1_ok 7 (67, .getfield 108, 3) rfl
theorem dX7_text_70 : decode cX7_text 70 = .ok (.imul, 1) := ax_dec dX7_text_q1_ok 8 (70, .imul, 1) rfl
theorem dX7_text_71 : decode cX7_text 71 = .ok (.iload_n 2, 1) := ax_dec dX7_text_q1_ok 9 (71, .iload_n 2, 1) rfl
theorem dX7_text_72 : decode cX7_text 72 = .ok (.iadd, 1) := ax_dec dX7_text_q1_ok 10 (72, .iadd, 1) rfl
theorem dX7_text_73 : decode cX7_text 73 = .ok (.aload_n 0, 1) := ax_dec dX7_text_q1_ok 11 (73, .aload_n 0, 1) rfl
theorem dX7_text_74 : decode cX7_text 74 = .ok (.getfield 133, 3) := ax_dec dX7_text_q1_ok 12 (74, .getfield 133, 3) rfl
theorem dX7_text_77 : decode cX7_text 77 = .ok (.iastore, 1) := ax_dec dX7_text_q1_ok 13 (77, .iastore, 1) rfl
theorem dX7_text_78 : decode cX7_text 78 = .ok (.iload_n 1, 1) := ax_dec dX7_text_q1_ok 14 (78, .iload_n 1, 1) rfl
theorem dX7_text_79 : decode cX7_text 79 = .ok (.ifCond .eq 14, 3) := ax_dec dX7_text_q1_ok 15 (79, .ifCond .eq 14, 3) rfl
theorem dX7_text_82 : decode cX7_text 82 = .ok (.aload_n 0, 1) := ax_dec dX7_text_q1_ok 16 (82, .aload_n 0, 1) rfl
theorem dX7_text_83 : decode cX7_text 83 = .ok (.invokevirtual 168, 3) := ax_dec dX7_text_q1_ok 17 (83, .invokevirtual 168, 3) rfl
theorem dX7_text_86 : decode cX7_text 86 = .ok (.ifCond .eq 7, 3) := ax_dec dX7_text_q1_ok 18 (86, .ifCond .eq 7, 3) rfl
theorem dX7_text_89 : decode cX7_text 89 = .ok (.iconst 1, 1) := ax_dec dX7_text_q1_ok 19 (89, .iconst 1, 1) rfl
theorem dX7_text_90 : decode cX7_text 90 = .ok (.goto 4, 3) := ax_dec dX7_text_q1_ok 20 (90, .goto 4, 3) rfl
theorem dX7_text_93 : decode cX7_text 93 = .ok (.iconst 0, 1) := ax_dec dX7_text_q1_ok 21 (93, .iconst 0, 1) rfl
theorem dX7_text_94 : decode cX7_text 94 = .ok (.istore_n 1, 1) := ax_dec dX7_text_q1_ok 22 (94, .istore_n 1, 1) rfl
theorem dX7_text_95 : decode cX7_text 95 = .ok (.iinc 2 1, 3) := ax_dec dX7_text_q1_ok 23 (95, .iinc 2 1, 3) rfl
theorem dX7_text_98 : decode cX7_text 98 = .ok (.goto (-72), 3) := ax_dec dX7_text_q1_ok 24 (98, .goto (-72), 3) rfl
theorem dX7_text_101 : decode cX7_text 101 = .ok (.iload_n 1, 1) := ax_dec dX7_text_q1_ok 25 (101, .iload_n 1, 1) rfl
theorem dX7_text_102 : decode cX7_text 102 = .ok (.ifCond .eq 20, 3) := ax_dec dX7_text_q1_ok 26 (102, .ifCond .eq 20, 3) rfl
theorem dX7_text_105 : decode cX7_text 105 = .ok (.aload_n 0, 1) := ax_dec dX7_text_q1_ok 27 (105, .aload_n 0, 1) rfl
theorem dX7_text_106 : decode cX7_text 106 = .ok (.invokevirtual 155, 3) := ax_dec dX7_text_q1_ok 28 (106, .invokevirtual 155, 3) rfl
theorem dX7_text_109 : decode cX7_text 109 = .ok (.aload_n 0, 1) := ax_dec dX7_text_q1_ok 29 (109, .aload_n 0, 1) rfl
theorem dX7_text_110 : decode cX7_text 110 = .ok (.getfield 123, 3) := ax_dec dX7_text_q1_ok 30 (110, .getfield 123, 3) rfl
theorem dX7_text_113 : decode cX7_text 113 = .ok (.ifCond .ne 7, 3) := ax_dec dX7_text_q1_ok 31 (113, .ifCond .ne 7, 3) rfl
def dX7_text_q2 : List (Nat × (Instr × Nat)) := [(116, .iconst 1, 1), (117, .goto 4, 3), (120, .iconst 0, 1), (121, .istore_n 1, 1), (122, .aload_n 0, 1), (123, .getfield 37, 3), (126, .iconst 4, 1), (127, .aload_n 0, 1), (128, .getfield 108, 3), (131, .imul, 1), (132, .iconst 3, 1), (133, .iadd, 1), (134, .aload_n 0, 1), (135, .getfield 133, 3), (138, .iastore, 1), (139, .aload_n 0, 1), (140, .iconst 0, 1), (141, .putfield 76, 3), (144, .iload_n 1, 1), (145, .ifCond .ne 11, 3), (148, .bipush (-100), 2), (150, .aload_n 0, 1), (151, .getfield 120, 3), (154, .isub, 1), (155, .ireturn, 1), (156, .aload_n 0, 1), (157, .dup, 1), (158, .getfield 108, 3), (161, .iconst 1, 1), (162, .iadd, 1), (163, .putfield 108, 3), (166, .aload_n 0, 1)]
set_option maxRecDepth 100000 in
theorem dX7_text_q2_ok : ax_decs cX7_text dX7_text_q2 = true := by decide +kernel
theorem dX7_text_116 : decode cX7_text 116 = .ok (.iconst 1, 1) := ax_dec dX7_text_q2_ok 0 (116, .iconst 1, 1) rfl
theorem dX7_text_117 : decode cX7_text 117 = .ok (.goto 4, 3) := ax_dec dX7_text_q2_ok 1 (117, .goto 4, 3) rfl
theorem dX7_text_120 : decode cX7_text 120 = .ok (.iconst 0, 1) := ax_dec dX7_text_q2_ok 2 (120, .iconst 0, 1) rfl
theorem dX7_text_121 : decode cX7_text 121 = .ok (.istore_n 1, 1) := ax_dec dX7_text_q2_ok 3 (121, .istore_n 1, 1) rfl
theorem dX7_text_122 : decode cX7_text 122 = .ok (.aload_n 0, 1) := ax_dec dX7_text_q2_ok 4 (122, .aload_n 0, 1) rfl
theorem dX7_text_123 : decode cX7_text 123 = .ok (.getfield 37, 3) := ax_dec dX7_text_q2_ok 5 (123, .getfield 37, 3) rfl
theorem dX7_text_126 : decode cX7_text 126 = .ok (.iconst 4, 1) := ax_dec dX7_text_q2_ok 6 (126, .iconst 4, 1) rfl
theorem dX7_text_127 : decode cX7_text 127 = .ok (.aload_n 0, 1) := ax_dec dX7_text_q2_ok 7 (127, .aload_n 0, 1) rfl
theorem dX7_text_128 : decode cX7_text 128 = .ok (.getfield 108, 3) := ax_dec dX7_text_q2_ok 8 (128, .getfield 108, 3) rfl
theorem dX7_text_131 : decode cX7_text 131 = .ok (.imul, 1) := ax_dec dX7_text_q2_ok 9 (131, .imul, 1) rfl
theorem dX7_text_132 : decode cX7_text 132 = .ok (.iconst 3, 1) := ax_dec dX7_text_q2_ok 10 (132, .iconst 3, 1) rfl
theorem dX7_text_133 : decode cX7_text 133 = .ok (.iadd, 1) := ax_dec dX7_text_q2_ok 11 (133, .iadd, 1) rfl
theorem dX7_text_134 : decode cX7_text 134 = .ok (.aload_n 0, 1) := ax_dec dX7_text_q2_ok 12 (134, .aload_n 0, 1) rfl
theorem dX7_text_135 : decode cX7_text 135 = .ok (.getfield 133, 3) := ax_dec dX7_text_q2_ok 13 (135, .getfield 133, 3) rfl
theorem dX7_text_138 : decode cX7_text 138 = .ok (.iastore, 1) := ax_dec dX7_text_q2_ok 14 (138, .iastore, 1) rfl
theorem dX7_text_139 : decode cX7_text 139 = .ok (.aload_n 0, 1) := ax_dec dX7_text_q2_ok 15 (139, .aload_n 0, 1) rfl
theorem dX7_text_140 : decode cX7_text 140 = .ok (.iconst 0, 1) := ax_dec dX7_text_q2_ok 16 (140, .iconst 0, 1) rfl
theorem dX7_text_141 : decode cX7_text 141 = .ok (.putfield 76, 3) := ax_dec dX7_text_q2_ok 17 (141, .putfield 76, 3) rfl
theorem dX7_text_144 : decode cX7_text 144 = .ok (.iload_n 1, 1) := ax_dec dX7_text_q2_ok 18 (144, .iload_n 1, 1) rfl
theorem dX7_text_145 : decode cX7_text 145 = .ok (.ifCond .ne 11, 3) := ax_dec dX7_text_q2_ok 19 (145, .ifCond .ne 11, 3) rfl
theorem dX7_text_148 : decode cX7_text 148 = .ok (.bipush (-100), 2) := ax_dec dX7_text_q2_ok 20 (148, .bipush (-100), 2) rfl
theorem dX7_text_150 : decode cX7_text 150 = .ok (.aload_n 0, 1) := ax_dec dX7_text_q2_ok 21 (150, .aload_n 0, 1) rfl
theorem dX7_text_151 : decode cX7_text 151 = .ok (.getfield 120, 3) := ax_dec dX7_text_q2_ok 22 (151, .getfield 120, 3) rfl
theorem dX7_text_154 : decode cX7_text 154 = .ok (.isub, 1) := ax_dec dX7_text_q2_ok 23 (154, .isub, 1) rfl
theorem dX7_text_155 : decode cX7_text 155 = .ok (.ireturn, 1) := ax_dec dX7_text_q2_ok 24 (155, .ireturn, 1) rfl
theorem dX7_text_156 : decode cX7_text 156 = .ok (.aload_n 0, 1) := ax_dec dX7_text_q2_ok 25 (156, .aload_n 0, 1) rfl
theorem dX7_text_157 : decode cX7_text 157 = .ok (.dup, 1) := ax_dec dX7_text_q2_ok 26 (157, .dup, 1) rfl
theorem dX7_text_158 : decode cX7_text 158 = .ok (.getfield 108, 3) := ax_dec dX7_text_q2_ok 27 (158, .getfield 108, 3) rfl
theorem dX7_text_161 : decode cX7_text 161 = .ok (.iconst 1, 1) := ax_dec dX7_text_q2_ok 28 (161, .iconst 1, 1) rfl
theorem dX7_text_162 : decode cX7_text 162 = .ok (.iadd, 1) := ax_dec dX7_text_q2_ok 29 (162, .iadd, 1) rfl
theorem dX7_text_163 : decode cX7_text 163 = .ok (.putfield 108, 3) := ax_dec dX7_text_q2_ok 30 (163, .putfield 108, 3) rfl
theorem dX7_text_166 : decode cX7_text 166 = .ok (.aload_n 0, 1) := ax_dec dX7_text_q2_ok 31 (166, .aload_n 0, 1) rfl
def dX7_text_q3 : List (Nat × (Instr × Nat)) := [(167, .getfield 108, 3), (170, .iconst 1, 1), (171, .isub, 1), (172, .ireturn, 1)]
set_option maxRecDepth 100000 in
theorem dX7_text_q3_ok : ax_decs cX7_text dX7_text_q3 = true := by decide +kernel
theorem dX7_text_167 : decode cX7_text 167 = .ok (.getfield 108, 3) := ax_dec dX7_text_q3_ok 0 (167, .getfield 108, 3) rfl
theorem dX7_text_170 : decode cX7_text 170 = .ok (.iconst 1, 1) := ax_dec dX7_text_q3_ok 1 (170, .iconst 1, 1) rfl
theorem dX7_text_171 : decode cX7_text 171 = .ok (.isub, 1) := ax_dec dX7_text_q3_ok 2 (171, .isub, 1) rfl
theorem dX7_text_172 : decode cX7_text 172 = .ok (.ireturn, 1) := ax_dec dX7_text_q3_ok 3 (172, .ireturn, 1) rfl
def dX7_two_q0 : List (Nat × (Instr × Nat)) := [(0, .iload_n 0, 1), (1, .tableswitch 101 11 17 #[43, 57, 101, 71, 82, 93, 97], 43), (44, .iload_n 1, 1), (45, .ifCond .ne 7, 3), (48, .iload_n 2, 1), (49, .ifCond .eq 7, 3), (52, .iconst 1, 1), (53, .goto 4, 3), (56, .iconst 0, 1), (57, .ireturn, 1), (58, .iload_n 1, 1), (59, .ifCond .eq 11, 3), (62, .iload_n 2, 1), (63, .ifCond .eq 7, 3), (66, .iconst 1, 1), (67, .goto 4, 3), (70, .iconst 0, 1), (71, .ireturn, 1), (72, .iload_n 1, 1), (73, .iload_n 2, 1), (74, .if_icmp .ge 7, 3), (77, .iconst 1, 1), (78, .goto 4, 3), (81, .iconst 0, 1), (82, .ireturn, 1), (83, .iload_n 1, 1), (84, .iload_n 2, 1), (85, .if_icmp .ne 7, 3), (88, .iconst 1, 1), (89, .goto 4, 3), (92, .iconst 0, 1), (93, .ireturn, 1)]
set_option maxRecDepth 100000 in
theorem dX7_two_q0_ok : ax_decs cX7_two dX7_two_q0 = true := by decide +kernel
theorem dX7_two_0 : decode cX7_two 0 = .ok (.iload_n 0, 1) := ax_dec dX7_two_q0_ok 0 (0, .iload_n 0, 1) rfl
theorem dX7_two_1 : decode cX7_two 1 = .ok (.tableswitch 101 11 17 #[43, 57, 101, 71, 82, 93, 97], 43) := ax_dec dX7_two_q0_ok 1 (1, .tableswitch 101 11 17 #[43, 57, 101, 71, 82, 93, 97], 43) rfl
theorem dX7_two_44 : decode cX7_two 44 = .ok (.iload_n 1, 1) := ax_dec dX7_two_q0_ok 2 (44, .iload_n 1, 1) rfl
theorem dX7_two_45 : decode cX7_two 45 = .ok (.ifCond .ne 7, 3) := ax_dec dX7_two_q0_ok 3 (45, .ifCond .ne 7, 3) rfl
theorem dX7_two_48 : decode cX7_two 48 = .ok (.iload_n 2, 1) := ax_dec dX7_two_q0_ok 4 (48, .iload_n 2, 1) rfl
theorem dX7_two_49 : decode cX7_two 49 = .ok (.ifCond .eq 7, 3) := ax_dec dX7_two_q0_ok 5 (49, .ifCond .eq 7, 3) rfl
theorem dX7_two_52 : decode cX7_two 52 = .ok (.iconst 1, 1) := ax_dec dX7_two_q0_ok 6 (52, .iconst 1, 1) rfl
theorem dX7_two_53 : decode cX7_two 53 = .ok (.goto 4, 3) := ax_dec dX7_two_q0_ok 7 (53, .goto 4, 3) rfl
theorem dX7_two_56 : decode cX7_two 56 = .ok (.iconst 0, 1) := ax_dec dX7_two_q0_ok 8 (56, .iconst 0, 1) rfl
theorem dX7_two_57 : decode cX7_two 57 = .ok (.ireturn, 1) := ax_dec dX7_two_q0_ok 9 (57, .ireturn, 1) rfl
theorem dX7_two_58 : decode cX7_two 58 = .ok (.iload_n 1, 1) := ax_dec dX7_two_q0_ok 10 (58, .iload_n 1, 1) rfl
theorem dX7_two_59 : decode cX7_two 59 = .ok (.ifCond .eq 11, 3) := ax_dec dX7_two_q0_ok 11 (59, .ifCond .eq 11, 3) rfl
theorem dX7_two_62 : decode cX7_two 62 = .ok (.iload_n 2, 1) := ax_dec dX7_two_q0_ok 12 (62, .iload_n 2, 1) rfl
theorem dX7_two_63 : decode cX7_two 63 = .ok (.ifCond .eq 7, 3) := ax_dec dX7_two_q0_ok 13 (63, .ifCond .eq 7, 3) rfl
theorem dX7_two_66 : decode cX7_two 66 = .ok (.iconst 1, 1) := ax_dec dX7_two_q0_ok 14 (66, .iconst 1, 1) rfl
theorem dX7_two_67 : decode cX7_two 67 = .ok (.goto 4, 3) := ax_dec dX7_two_q0_ok 15 (67, .goto 4, 3) rfl
theorem dX7_two_70 : decode cX7_two 70 = .ok (.iconst 0, 1) := ax_dec dX7_two_q0_ok 16 (70, .iconst 0, 1) rfl
theorem dX7_two_71 : decode cX7_two 71 = .ok (.ireturn, 1) := ax_dec dX7_two_q0_ok 17 (71, .ireturn, 1) rfl
theorem dX7_two_72 : decode cX7_two 72 = .ok (.iload_n 1, 1) := ax_dec dX7_two_q0_ok 18 (72, .iload_n 1, 1) rfl
theorem dX7_two_73 : decode cX7_two 73 = .ok (.iload_n 2, 1) := ax_dec dX7_two_q0_ok 19 (73, .iload_n 2, 1) rfl
theorem dX7_two_74 : decode cX7_two 74 = .ok (.if_icmp .ge 7, 3) := ax_dec dX7_two_q0_ok 20 (74, .if_icmp .ge 7, 3) rfl
theorem dX7_two_77 : decode cX7_two 77 = .ok (.iconst 1, 1) := ax_dec dX7_two_q0_ok 21 (77, .iconst 1, 1) rfl
theorem dX7_two_78 : decode cX7_two 78 = .ok (.goto 4, 3) := ax_dec dX7_two_q0_ok 22 (78, .goto 4, 3) rfl
theorem dX7_two_81 : decode cX7_two 81 = .ok (.iconst 0, 1) := ax_dec dX7_two_q0_ok 23 (81, .iconst 0, 1) rfl
theorem dX7_two_82 : decode cX7_two 82 = .ok (.ireturn, 1) := ax_dec dX7_two_q0_ok 24 (82, .ireturn, 1) rfl
theorem dX7_two_83 : decode cX7_two 83 = .ok (.iload_n 1, 1) := ax_dec dX7_two_q0_ok 25 (83, .iload_n 1, 1) rfl
theorem dX7_two_84 : decode cX7_two 84 = .ok (.iload_n 2, 1) := ax_dec dX7_two_q0_ok 26 (84, .iload_n 2, 1) rfl
theorem dX7_two_85 : decode cX7_two 85 = .ok (.if_icmp .ne 7, 3) := ax_dec dX7_two_q0_ok 27 (85, .if_icmp .ne 7, 3) rfl
theorem dX7_two_88 : decode cX7_two 88 = .ok (.iconst 1, 1) := ax_dec dX7_two_q0_ok 28 (88, .iconst 1, 1) rfl
theorem dX7_two_89 : decode cX7_two 89 = .ok (.goto 4, 3) := ax_dec dX7_two_q0_ok 29 (89, .goto 4, 3) rfl
theorem dX7_two_92 : decode cX7_two 92 = .ok (.iconst 0, 1) := ax_dec dX7_two_q0_ok 30 (92, .iconst 0, 1) rfl
theorem dX7_two_93 : decode cX7_two 93 = .ok (.ireturn, 1) := ax_dec dX7_two_q0_ok 31 (93, .ireturn, 1) rfl
def dX7_two_q1 : List (Nat × (Instr × Nat)) := [(94, .iload_n 1, 1), (95, .iload_n 2, 1), (96, .iadd, 1), (97, .ireturn, 1), (98, .iload_n 1, 1), (99, .iload_n 2, 1), (100, .isub, 1), (101, .ireturn, 1), (102, .iload_n 1, 1), (103, .iload_n 2, 1), (104, .imul, 1), (105, .ireturn, 1)]
set_option maxRecDepth 100000 in
theorem dX7_two_q1_ok : ax_decs cX7_two dX7_two_q1 = true := by decide +kernel
theorem dX7_two_94 : decode cX7_two 94 = .ok (.iload_n 1, 1) := ax_dec dX7_two_q1_ok 0 (94, .iload_n 1, 1) rfl
theorem dX7_two_95 : decode cX7_two 95 = .ok (.iload_n 2, 1) := ax_dec dX7_two_q1_ok 1 (95, .iload_n 2, 1) rfl
theorem dX7_two_96 : decode cX7_two 96 = .ok (.iadd, 1) := ax_dec dX7_two_q1_ok 2 (96, .iadd, 1) rfl
theorem dX7_two_97 : decode cX7_two 97 = .ok (.ireturn, 1) := ax_dec dX7_two_q1_ok 3 (97, .ireturn, 1) rfl
theorem dX7_two_98 : decode cX7_two 98 = .ok (.iload_n 1, 1) := ax_dec dX7_two_q1_ok 4 (98, .iload_n 1, 1) rfl
theorem dX7_two_99 : decode cX7_two 99 = .ok (.iload_n 2, 1) := ax_dec dX7_two_q1_ok 5 (99, .iload_n 2, 1) rfl
theorem dX7_two_100 : decode cX7_two 100 = .ok (.isub, 1) := ax_dec dX7_two_q1_ok 6 (100, .isub, 1) rfl
theorem dX7_two_101 : decode cX7_two 101 = .ok (.ireturn, 1) := ax_dec dX7_two_q1_ok 7 (101, .ireturn, 1) rfl
theorem dX7_two_102 : decode cX7_two 102 = .ok (.iload_n 1, 1) := ax_dec dX7_two_q1_ok 8 (102, .iload_n 1, 1) rfl
theorem dX7_two_103 : decode cX7_two 103 = .ok (.iload_n 2, 1) := ax_dec dX7_two_q1_ok 9 (103, .iload_n 2, 1) rfl
theorem dX7_two_104 : decode cX7_two 104 = .ok (.imul, 1) := ax_dec dX7_two_q1_ok 10 (104, .imul, 1) rfl
theorem dX7_two_105 : decode cX7_two 105 = .ok (.ireturn, 1) := ax_dec dX7_two_q1_ok 11 (105, .ireturn, 1) rfl
def dX7_worth_q0 : List (Nat × (Instr × Nat)) := [(0, .iconst 0, 1), (1, .istore_n 2, 1), (2, .aload_n 0, 1), (3, .getfield 37, 3), (6, .iconst 4, 1), (7, .aload_n 0, 1), (8, .getfield 111, 3), (11, .imul, 1), (12, .iload_n 1, 1), (13, .iadd, 1), (14, .iaload, 1), (15, .istore_n 3, 1), (16, .iload_n 3, 1), (17, .aload_n 0, 1), (18, .getfield 37, 3), (21, .iconst 4, 1), (22, .aload_n 0, 1), (23, .getfield 111, 3), (26, .imul, 1), (27, .iload_n 1, 1), (28, .iadd, 1), (29, .iconst 1, 1), (30, .iadd, 1), (31, .iaload, 1), (32, .if_icmp .ge 165, 3), (35, .aload_n 0, 1), (36, .getfield 34, 3), (39, .sipush 200, 3), (42, .aload_n 0, 1), (43, .getfield 111, 3), (46, .imul, 1), (47, .iload_n 3, 1)]
set_option maxRecDepth 100000 in
theorem dX7_worth_q0_ok : ax_decs cX7_worth dX7_worth_q0 = true := by decide +kernel
theorem dX7_worth_0 : decode cX7_worth 0 = .ok (.iconst 0, 1) := ax_dec dX7_worth_q0_ok 0 (0, .iconst 0, 1) rfl
theorem dX7_worth_1 : decode cX7_worth 1 = .ok (.istore_n 2, 1) := ax_dec dX7_worth_q0_ok 1 (1, .istore_n 2, 1) rfl
theorem dX7_worth_2 : decode cX7_worth 2 = .ok (.aload_n 0, 1) := ax_dec dX7_worth_q0_ok 2 (2, .aload_n 0, 1) rfl
theorem dX7_worth_3 : decode cX7_worth 3 = .ok (.getfield 37, 3) := ax_dec dX7_worth_q0_ok 3 (3, .getfield 37, 3) rfl
theorem dX7_worth_6 : decode cX7_worth 6 = .ok (.iconst 4, 1) := ax_dec dX7_worth_q0_ok 4 (6, .iconst 4, 1) rfl
theorem dX7_worth_7 : decode cX7_worth 7 = .ok (.aload_n 0, 1) := ax_dec dX7_worth_q0_ok 5 (7, .aload_n 0, 1) rfl
theorem dX7_worth_8 : decode cX7_worth 8 = .ok (.getfield 111, 3) := ax_dec dX7_worth_q0_ok 6 (8, .getfield 111, 3) rfl
theorem dX7_worth_11 : decode cX7_worth 11 = .ok (.imul, 1) := ax_dec dX7_worth_q0_ok 7 (11, .imul, 1) rfl
theorem dX7_worth_12 : decode cX7_worth 12 = .ok (.iload_n 1, 1) := ax_dec dX7_worth_q0_ok 8 (12, .iload_n 1, 1) rfl
theorem dX7_worth_13 : decode cX7_worth 13 = .ok (.iadd, 1) := ax_dec dX7_worth_q0_ok 9 (13, .iadd, 1) rfl
theorem dX7_worth_14 : decode cX7_worth 14 = .ok (.iaload, 1) := ax_dec dX7_worth_q0_ok 10 (14, .iaload, 1) rfl
theorem dX7_worth_15 : decode cX7_worth 15 = .ok (.istore_n 3, 1) := ax_dec dX7_worth_q0_ok 11 (15, .istore_n 3, 1) rfl
theorem dX7_worth_16 : decode cX7_worth 16 = .ok (.iload_n 3, 1) := ax_dec dX7_worth_q0_ok 12 (16, .iload_n 3, 1) rfl
theorem dX7_worth_17 : decode cX7_worth 17 = .ok (.aload_n 0, 1) := ax_dec dX7_worth_q0_ok 13 (17, .aload_n 0, 1) rfl
theorem dX7_worth_18 : decode cX7_worth 18 = .ok (.getfield 37, 3) := ax_dec dX7_worth_q0_ok 14 (18, .getfield 37, 3) rfl
theorem dX7_worth_21 : decode cX7_worth 21 = .ok (.iconst 4, 1) := ax_dec dX7_worth_q0_ok 15 (21, .iconst 4, 1) rfl
theorem dX7_worth_22 : decode cX7_worth 22 = .ok (.aload_n 0, 1) := ax_dec dX7_worth_q0_ok 16 (22, .aload_n 0, 1) rfl
theorem dX7_worth_23 : decode cX7_worth 23 = .ok (.getfield 111, 3) := ax_dec dX7_worth_q0_ok 17 (23, .getfield 111, 3) rfl
theorem dX7_worth_26 : decode cX7_worth 26 = .ok (.imul, 1) := ax_dec dX7_worth_q0_ok 18 (26, .imul, 1) rfl
theorem dX7_worth_27 : decode cX7_worth 27 = .ok (.iload_n 1, 1) := ax_dec dX7_worth_q0_ok 19 (27, .iload_n 1, 1) rfl
theorem dX7_worth_28 : decode cX7_worth 28 = .ok (.iadd, 1) := ax_dec dX7_worth_q0_ok 20 (28, .iadd, 1) rfl
theorem dX7_worth_29 : decode cX7_worth 29 = .ok (.iconst 1, 1) := ax_dec dX7_worth_q0_ok 21 (29, .iconst 1, 1) rfl
theorem dX7_worth_30 : decode cX7_worth 30 = .ok (.iadd, 1) := ax_dec dX7_worth_q0_ok 22 (30, .iadd, 1) rfl
theorem dX7_worth_31 : decode cX7_worth 31 = .ok (.iaload, 1) := ax_dec dX7_worth_q0_ok 23 (31, .iaload, 1) rfl
theorem dX7_worth_32 : decode cX7_worth 32 = .ok (.if_icmp .ge 165, 3) := ax_dec dX7_worth_q0_ok 24 (32, .if_icmp .ge 165, 3) rfl
theorem dX7_worth_35 : decode cX7_worth 35 = .ok (.aload_n 0, 1) := ax_dec dX7_worth_q0_ok 25 (35, .aload_n 0, 1) rfl
theorem dX7_worth_36 : decode cX7_worth 36 = .ok (.getfield 34, 3) := ax_dec dX7_worth_q0_ok 26 (36, .getfield 34, 3) rfl
theorem dX7_worth_39 : decode cX7_worth 39 = .ok (.sipush 200, 3) := ax_dec dX7_worth_q0_ok 27 (39, .sipush 200, 3) rfl
theorem dX7_worth_42 : decode cX7_worth 42 = .ok (.aload_n 0, 1) := ax_dec dX7_worth_q0_ok 28 (42, .aload_n 0, 1) rfl
theorem dX7_worth_43 : decode cX7_worth 43 = .ok (.getfield 111, 3) := ax_dec dX7_worth_q0_ok 29 (43, .getfield 111, 3) rfl
theorem dX7_worth_46 : decode cX7_worth 46 = .ok (.imul, 1) := ax_dec dX7_worth_q0_ok 30 (46, .imul, 1) rfl
theorem dX7_worth_47 : decode cX7_worth 47 = .ok (.iload_n 3, 1) := ax_dec dX7_worth_q0_ok 31 (47, .iload_n 3, 1) rfl
def dX7_worth_q1 : List (Nat × (Instr × Nat)) := [(48, .iadd, 1), (49, .iaload, 1), (50, .istore 4, 2), (52, .iload 4, 2), (54, .ldc 158, 2), (56, .if_icmp .ge 10, 3), (59, .iload 4, 2), (61, .bipush 11, 2), (63, .if_icmp .ge 37, 3), (66, .aload_n 0, 1), (67, .getfield 61, 3), (70, .iload_n 2, 1), (71, .iload 4, 2), (73, .bipush 11, 2), (75, .if_icmp .ge 13, 3), (78, .aload_n 0, 1), (79, .getfield 64, 3), (82, .iload 4, 2), (84, .iaload, 1), (85, .goto 8, 3), (88, .iload 4, 2), (90, .ldc 158, 2), (92, .isub, 1), (93, .iastore, 1), (94, .iinc 2 1, 3), (97, .goto 94, 3), (100, .iload 4, 2), (102, .bipush 13, 2), (104, .if_icmp .ne 30, 3), (107, .aload_n 0, 1), (108, .getfield 61, 3), (111, .iload_n 2, 1)]
set_option maxRecDepth 100000 in
theorem dX7_worth_q1_ok : ax_decs cX7_worth dX7_worth_q1 = true := by decide +kernel
theorem dX7_worth_48 : decode cX7_worth 48 = .ok (.iadd, 1) := ax_dec dX7_worth_q1_ok 0 (48, .iadd, 1) rfl
theorem dX7_worth_49 : decode cX7_worth 49 = .ok (.iaload, 1) := ax_dec dX7_worth_q1_ok 1 (49, .iaload, 1) rfl
theorem dX7_worth_50 : decode cX7_worth 50 = .ok (.istore 4, 2) := ax_dec dX7_worth_q1_ok 2 (50, .istore 4, 2) rfl
theorem dX7_worth_52 : decode cX7_worth 52 = .ok (.iload 4, 2) := ax_dec dX7_worth_q1_ok 3 (52, .iload 4, 2) rfl
theorem dX7_worth_54 : decode cX7_worth 54 = .ok (.ldc 158, 2) := ax_dec dX7_worth_q1_ok 4 (54, .ldc 158, 2) rfl
theorem dX7_worth_56 : decode cX7_worth 56 = .ok (.if_icmp .ge 10, 3) := ax_dec dX7_worth_q1_ok 5 (56, .if_icmp .ge 10, 3) rfl
theorem dX7_worth_59 : decode cX7_worth 59 = .ok (.iload 4, 2) := ax_dec dX7_worth_q1_ok 6 (59, .iload 4, 2) rfl
theorem dX7_worth_61 : decode cX7_worth 61 = .ok (.bipush 11, 2) := ax_dec dX7_worth_q1_ok 7 (61, .bipush 11, 2) rfl
theorem dX7_worth_63 : decode cX7_worth 63 = .ok (.if_icmp .ge 37, 3) := ax_dec dX7_worth_q1_ok 8 (63, .if_icmp .ge 37, 3) rfl
theorem dX7_worth_66 : decode cX7_worth 66 = .ok (.aload_n 0, 1) := ax_dec dX7_worth_q1_ok 9 (66, .aload_n 0, 1) rfl
theorem dX7_worth_67 : decode cX7_worth 67 = .ok (.getfield 61, 3) := ax_dec dX7_worth_q1_ok 10 (67, .getfield 61, 3) rfl
theorem dX7_worth_70 : decode cX7_worth 70 = .ok (.iload_n 2, 1) := ax_dec dX7_worth_q1_ok 11 (70, .iload_n 2, 1) rfl
theorem dX7_worth_71 : decode cX7_worth 71 = .ok (.iload 4, 2) := ax_dec dX7_worth_q1_ok 12 (71, .iload 4, 2) rfl
theorem dX7_worth_73 : decode cX7_worth 73 = .ok (.bipush 11, 2) := ax_dec dX7_worth_q1_ok 13 (73, .bipush 11, 2) rfl
theorem dX7_worth_75 : decode cX7_worth 75 = .ok (.if_icmp .ge 13, 3) := ax_dec dX7_worth_q1_ok 14 (75, .if_icmp .ge 13, 3) rfl
theorem dX7_worth_78 : decode cX7_worth 78 = .ok (.aload_n 0, 1) := ax_dec dX7_worth_q1_ok 15 (78, .aload_n 0, 1) rfl
theorem dX7_worth_79 : decode cX7_worth 79 = .ok (.getfield 64, 3) := ax_dec dX7_worth_q1_ok 16 (79, .getfield 64, 3) rfl
theorem dX7_worth_82 : decode cX7_worth 82 = .ok (.iload 4, 2) := ax_dec dX7_worth_q1_ok 17 (82, .iload 4, 2) rfl
theorem dX7_worth_84 : decode cX7_worth 84 = .ok (.iaload, 1) := ax_dec dX7_worth_q1_ok 18 (84, .iaload, 1) rfl
theorem dX7_worth_85 : decode cX7_worth 85 = .ok (.goto 8, 3) := ax_dec dX7_worth_q1_ok 19 (85, .goto 8, 3) rfl
theorem dX7_worth_88 : decode cX7_worth 88 = .ok (.iload 4, 2) := ax_dec dX7_worth_q1_ok 20 (88, .iload 4, 2) rfl
theorem dX7_worth_90 : decode cX7_worth 90 = .ok (.ldc 158, 2) := ax_dec dX7_worth_q1_ok 21 (90, .ldc 158, 2) rfl
theorem dX7_worth_92 : decode cX7_worth 92 = .ok (.isub, 1) := ax_dec dX7_worth_q1_ok 22 (92, .isub, 1) rfl
theorem dX7_worth_93 : decode cX7_worth 93 = .ok (.iastore, 1) := ax_dec dX7_worth_q1_ok 23 (93, .iastore, 1) rfl
theorem dX7_worth_94 : decode cX7_worth 94 = .ok (.iinc 2 1, 3) := ax_dec dX7_worth_q1_ok 24 (94, .iinc 2 1, 3) rfl
theorem dX7_worth_97 : decode cX7_worth 97 = .ok (.goto 94, 3) := ax_dec dX7_worth_q1_ok 25 (97, .goto 94, 3) rfl
theorem dX7_worth_100 : decode cX7_worth 100 = .ok (.iload 4, 2) := ax_dec dX7_worth_q1_ok 26 (100, .iload 4, 2) rfl
theorem dX7_worth_102 : decode cX7_worth 102 = .ok (.bipush 13, 2) := ax_dec dX7_worth_q1_ok 27 (102, .bipush 13, 2) rfl
theorem dX7_worth_104 : decode cX7_worth 104 = .ok (.if_icmp .ne 30, 3) := ax_dec dX7_worth_q1_ok 28 (104, .if_icmp .ne 30, 3) rfl
theorem dX7_worth_107 : decode cX7_worth 107 = .ok (.aload_n 0, 1) := ax_dec dX7_worth_q1_ok 29 (107, .aload_n 0, 1) rfl
theorem dX7_worth_108 : decode cX7_worth 108 = .ok (.getfield 61, 3) := ax_dec dX7_worth_q1_ok 30 (108, .getfield 61, 3) rfl
theorem dX7_worth_111 : decode cX7_worth 111 = .ok (.iload_n 2, 1) := ax_dec dX7_worth_q1_ok 31 (111, .iload_n 2, 1) rfl
def dX7_worth_q2 : List (Nat × (Instr × Nat)) := [(112, .iconst 1, 1), (113, .isub, 1), (114, .aload_n 0, 1), (115, .getfield 61, 3), (118, .iload_n 2, 1), (119, .iconst 1, 1), (120, .isub, 1), (121, .iaload, 1), (122, .ifCond .ne 7, 3), (125, .iconst 1, 1), (126, .goto 4, 3), (129, .iconst 0, 1), (130, .iastore, 1), (131, .goto 60, 3), (134, .iload 4, 2), (136, .bipush 19, 2), (138, .if_icmp .ne 23, 3), (141, .aload_n 0, 1), (142, .getfield 61, 3), (145, .iload_n 2, 1), (146, .iconst 1, 1), (147, .isub, 1), (148, .aload_n 0, 1), (149, .getfield 61, 3), (152, .iload_n 2, 1), (153, .iconst 1, 1), (154, .isub, 1), (155, .iaload, 1), (156, .ineg, 1), (157, .iastore, 1), (158, .goto 33, 3), (161, .iinc 2 (-1), 3)]
set_option maxRecDepth 100000 in
theorem dX7_worth_q2_ok : ax_decs cX7_worth dX7_worth_q2 = true := by decide +kernel
theorem dX7_worth_112 : decode cX7_worth 112 = .ok (.iconst 1, 1) := ax_dec dX7_worth_q2_ok 0 (112, .iconst 1, 1) rfl
theorem dX7_worth_113 : decode cX7_worth 113 = .ok (.isub, 1) := ax_dec dX7_worth_q2_ok 1 (113, .isub, 1) rfl
theorem dX7_worth_114 : decode cX7_worth 114 = .ok (.aload_n 0, 1) := ax_dec dX7_worth_q2_ok 2 (114, .aload_n 0, 1) rfl
theorem dX7_worth_115 : decode cX7_worth 115 = .ok (.getfield 61, 3) := ax_dec dX7_worth_q2_ok 3 (115, .getfield 61, 3) rfl
theorem dX7_worth_118 : decode cX7_worth 118 = .ok (.iload_n 2, 1) := ax_dec dX7_worth_q2_ok 4 (118, .iload_n 2, 1) rfl
theorem dX7_worth_119 : decode cX7_worth 119 = .ok (.iconst 1, 1) := ax_dec dX7_worth_q2_ok 5 (119, .iconst 1, 1) rfl
theorem dX7_worth_120 : decode cX7_worth 120 = .ok (.isub, 1) := ax_dec dX7_worth_q2_ok 6 (120, .isub, 1) rfl
theorem dX7_worth_121 : decode cX7_worth 121 = .ok (.iaload, 1) := ax_dec dX7_worth_q2_ok 7 (121, .iaload, 1) rfl
theorem dX7_worth_122 : decode cX7_worth 122 = .ok (.ifCond .ne 7, 3) := ax_dec dX7_worth_q2_ok 8 (122, .ifCond .ne 7, 3) rfl
theorem dX7_worth_125 : decode cX7_worth 125 = .ok (.iconst 1, 1) := ax_dec dX7_worth_q2_ok 9 (125, .iconst 1, 1) rfl
theorem dX7_worth_126 : decode cX7_worth 126 = .ok (.goto 4, 3) := ax_dec dX7_worth_q2_ok 10 (126, .goto 4, 3) rfl
theorem dX7_worth_129 : decode cX7_worth 129 = .ok (.iconst 0, 1) := ax_dec dX7_worth_q2_ok 11 (129, .iconst 0, 1) rfl
theorem dX7_worth_130 : decode cX7_worth 130 = .ok (.iastore, 1) := ax_dec dX7_worth_q2_ok 12 (130, .iastore, 1) rfl
theorem dX7_worth_131 : decode cX7_worth 131 = .ok (.goto 60, 3) := ax_dec dX7_worth_q2_ok 13 (131, .goto 60, 3) rfl
theorem dX7_worth_134 : decode cX7_worth 134 = .ok (.iload 4, 2) := ax_dec dX7_worth_q2_ok 14 (134, .iload 4, 2) rfl
theorem dX7_worth_136 : decode cX7_worth 136 = .ok (.bipush 19, 2) := ax_dec dX7_worth_q2_ok 15 (136, .bipush 19, 2) rfl
theorem dX7_worth_138 : decode cX7_worth 138 = .ok (.if_icmp .ne 23, 3) := ax_dec dX7_worth_q2_ok 16 (138, .if_icmp .ne 23, 3) rfl
theorem dX7_worth_141 : decode cX7_worth 141 = .ok (.aload_n 0, 1) := ax_dec dX7_worth_q2_ok 17 (141, .aload_n 0, 1) rfl
theorem dX7_worth_142 : decode cX7_worth 142 = .ok (.getfield 61, 3) := ax_dec dX7_worth_q2_ok 18 (142, .getfield 61, 3) rfl
theorem dX7_worth_145 : decode cX7_worth 145 = .ok (.iload_n 2, 1) := ax_dec dX7_worth_q2_ok 19 (145, .iload_n 2, 1) rfl
theorem dX7_worth_146 : decode cX7_worth 146 = .ok (.iconst 1, 1) := ax_dec dX7_worth_q2_ok 20 (146, .iconst 1, 1) rfl
theorem dX7_worth_147 : decode cX7_worth 147 = .ok (.isub, 1) := ax_dec dX7_worth_q2_ok 21 (147, .isub, 1) rfl
theorem dX7_worth_148 : decode cX7_worth 148 = .ok (.aload_n 0, 1) := ax_dec dX7_worth_q2_ok 22 (148, .aload_n 0, 1) rfl
theorem dX7_worth_149 : decode cX7_worth 149 = .ok (.getfield 61, 3) := ax_dec dX7_worth_q2_ok 23 (149, .getfield 61, 3) rfl
theorem dX7_worth_152 : decode cX7_worth 152 = .ok (.iload_n 2, 1) := ax_dec dX7_worth_q2_ok 24 (152, .iload_n 2, 1) rfl
theorem dX7_worth_153 : decode cX7_worth 153 = .ok (.iconst 1, 1) := ax_dec dX7_worth_q2_ok 25 (153, .iconst 1, 1) rfl
theorem dX7_worth_154 : decode cX7_worth 154 = .ok (.isub, 1) := ax_dec dX7_worth_q2_ok 26 (154, .isub, 1) rfl
theorem dX7_worth_155 : decode cX7_worth 155 = .ok (.iaload, 1) := ax_dec dX7_worth_q2_ok 27 (155, .iaload, 1) rfl
theorem dX7_worth_156 : decode cX7_worth 156 = .ok (.ineg, 1) := ax_dec dX7_worth_q2_ok 28 (156, .ineg, 1) rfl
theorem dX7_worth_157 : decode cX7_worth 157 = .ok (.iastore, 1) := ax_dec dX7_worth_q2_ok 29 (157, .iastore, 1) rfl
theorem dX7_worth_158 : decode cX7_worth 158 = .ok (.goto 33, 3) := ax_dec dX7_worth_q2_ok 30 (158, .goto 33, 3) rfl
theorem dX7_worth_161 : decode cX7_worth 161 = .ok (.iinc 2 (-1), 3) := ax_dec dX7_worth_q2_ok 31 (161, .iinc 2 (-1), 3) rfl
def dX7_worth_q3 : List (Nat × (Instr × Nat)) := [(164, .aload_n 0, 1), (165, .getfield 61, 3), (168, .iload_n 2, 1), (169, .iconst 1, 1), (170, .isub, 1), (171, .iload 4, 2), (173, .aload_n 0, 1), (174, .getfield 61, 3), (177, .iload_n 2, 1), (178, .iconst 1, 1), (179, .isub, 1), (180, .iaload, 1), (181, .aload_n 0, 1), (182, .getfield 61, 3), (185, .iload_n 2, 1), (186, .iaload, 1), (187, .invokestatic 172, 3), (190, .iastore, 1), (191, .iinc 3 1, 3), (194, .goto (-178), 3), (197, .aload_n 0, 1), (198, .getfield 61, 3), (201, .iconst 0, 1), (202, .iaload, 1), (203, .ireturn, 1)]
set_option maxRecDepth 100000 in
theorem dX7_worth_q3_ok : ax_decs cX7_worth dX7_worth_q3 = true := by decide +kernel
theorem dX7_worth_164 : decode cX7_worth 164 = .ok (.aload_n 0, 1) := ax_dec dX7_worth_q3_ok 0 (164, .aload_n 0, 1) rfl
theorem dX7_worth_165 : decode cX7_worth 165 = .ok (.getfield 61, 3) := ax_dec dX7_worth_q3_ok 1 (165, .getfield 61, 3) rfl
theorem dX7_worth_168 : decode cX7_worth 168 = .ok (.iload_n 2, 1) := ax_dec dX7_worth_q3_ok 2 (168, .iload_n 2, 1) rfl
theorem dX7_worth_169 : decode cX7_worth 169 = .ok (.iconst 1, 1) := ax_dec dX7_worth_q3_ok 3 (169, .iconst 1, 1) rfl
theorem dX7_worth_170 : decode cX7_worth 170 = .ok (.isub, 1) := ax_dec dX7_worth_q3_ok 4 (170, .isub, 1) rfl
theorem dX7_worth_171 : decode cX7_worth 171 = .ok (.iload 4, 2) := ax_dec dX7_worth_q3_ok 5 (171, .iload 4, 2) rfl
theorem dX7_worth_173 : decode cX7_worth 173 = .ok (.aload_n 0, 1) := ax_dec dX7_worth_q3_ok 6 (173, .aload_n 0, 1) rfl
theorem dX7_worth_174 : decode cX7_worth 174 = .ok (.getfield 61, 3) := ax_dec dX7_worth_q3_ok 7 (174, .getfield 61, 3) rfl
theorem dX7_worth_177 : decode cX7_worth 177 = .ok (.iload_n 2, 1) := ax_dec dX7_worth_q3_ok 8 (177, .iload_n 2, 1) rfl
theorem dX7_worth_178 : decode cX7_worth 178 = .ok (.iconst 1, 1) := ax_dec dX7_worth_q3_ok 9 (178, .iconst 1, 1) rfl
theorem dX7_worth_179 : decode cX7_worth 179 = .ok (.isub, 1) := ax_dec dX7_worth_q3_ok 10 (179, .isub, 1) rfl
theorem dX7_worth_180 : decode cX7_worth 180 = .ok (.iaload, 1) := ax_dec dX7_worth_q3_ok 11 (180, .iaload, 1) rfl
theorem dX7_worth_181 : decode cX7_worth 181 = .ok (.aload_n 0, 1) := ax_dec dX7_worth_q3_ok 12 (181, .aload_n 0, 1) rfl
theorem dX7_worth_182 : decode cX7_worth 182 = .ok (.getfield 61, 3) := ax_dec dX7_worth_q3_ok 13 (182, .getfield 61, 3) rfl
theorem dX7_worth_185 : decode cX7_worth 185 = .ok (.iload_n 2, 1) := ax_dec dX7_worth_q3_ok 14 (185, .iload_n 2, 1) rfl
theorem dX7_worth_186 : decode cX7_worth 186 = .ok (.iaload, 1) := ax_dec dX7_worth_q3_ok 15 (186, .iaload, 1) rfl
theorem dX7_worth_187 : decode cX7_worth 187 = .ok (.invokestatic 172, 3) := ax_dec dX7_worth_q3_ok 16 (187, .invokestatic 172, 3) rfl
theorem dX7_worth_190 : decode cX7_worth 190 = .ok (.iastore, 1) := ax_dec dX7_worth_q3_ok 17 (190, .iastore, 1) rfl
theorem dX7_worth_191 : decode cX7_worth 191 = .ok (.iinc 3 1, 3) := ax_dec dX7_worth_q3_ok 18 (191, .iinc 3 1, 3) rfl
theorem dX7_worth_194 : decode cX7_worth 194 = .ok (.goto (-178), 3) := ax_dec dX7_worth_q3_ok 19 (194, .goto (-178), 3) rfl
theorem dX7_worth_197 : decode cX7_worth 197 = .ok (.aload_n 0, 1) := ax_dec dX7_worth_q3_ok 20 (197, .aload_n 0, 1) rfl
theorem dX7_worth_198 : decode cX7_worth 198 = .ok (.getfield 61, 3) := ax_dec dX7_worth_q3_ok 21 (198, .getfield 61, 3) rfl
theorem dX7_worth_201 : decode cX7_worth 201 = .ok (.iconst 0, 1) := ax_dec dX7_worth_q3_ok 22 (201, .iconst 0, 1) rfl
theorem dX7_worth_202 : decode cX7_worth 202 = .ok (.iaload, 1) := ax_dec dX7_worth_q3_ok 23 (202, .iaload, 1) rfl
theorem dX7_worth_203 : decode cX7_worth 203 = .ok (.ireturn, 1) := ax_dec dX7_worth_q3_ok 24 (203, .ireturn, 1) rfl
def dX7_force_q0 : List (Nat × (Instr × Nat)) := [(0, .iload_n 1, 1), (1, .iconst 0, 1), (2, .aload_n 0, 1), (3, .getfield 108, 3), (6, .iconst 1, 1), (7, .isub, 1), (8, .invokestatic 87, 3), (11, .ifCond .ne 6, 3), (14, .bipush (-2), 2), (16, .ireturn, 1), (17, .aload_n 0, 1), (18, .getfield 111, 3), (21, .istore_n 2, 1), (22, .aload_n 0, 1), (23, .iload_n 1, 1), (24, .putfield 111, 3), (27, .iload_n 2, 1), (28, .ireturn, 1)]
set_option maxRecDepth 100000 in
theorem dX7_force_q0_ok : ax_decs cX7_force dX7_force_q0 = true := by decide +kernel
theorem dX7_force_0 : decode cX7_force 0 = .ok (.iload_n 1, 1) := ax_dec dX7_force_q0_ok 0 (0, .iload_n 1, 1) rfl
theorem dX7_force_1 : decode cX7_force 1 = .ok (.iconst 0, 1) := ax_dec dX7_force_q0_ok 1 (1, .iconst 0, 1) rfl
theorem dX7_force_2 : decode cX7_force 2 = .ok (.aload_n 0, 1) := ax_dec dX7_force_q0_ok 2 (2, .aload_n 0, 1) rfl
theorem dX7_force_3 : decode cX7_force 3 = .ok (.getfield 108, 3) := ax_dec dX7_force_q0_ok 3 (3, .getfield 108, 3) rfl
theorem dX7_force_6 : decode cX7_force 6 = .ok (.iconst 1, 1) := ax_dec dX7_force_q0_ok 4 (6, .iconst 1, 1) rfl
theorem dX7_force_7 : decode cX7_force 7 = .ok (.isub, 1) := ax_dec dX7_force_q0_ok 5 (7, .isub, 1) rfl
theorem dX7_force_8 : decode cX7_force 8 = .ok (.invokestatic 87, 3) := ax_dec dX7_force_q0_ok 6 (8, .invokestatic 87, 3) rfl
theorem dX7_force_11 : decode cX7_force 11 = .ok (.ifCond .ne 6, 3) := ax_dec dX7_force_q0_ok 7 (11, .ifCond .ne 6, 3) rfl
theorem dX7_force_14 : decode cX7_force 14 = .ok (.bipush (-2), 2) := ax_dec dX7_force_q0_ok 8 (14, .bipush (-2), 2) rfl
theorem dX7_force_16 : decode cX7_force 16 = .ok (.ireturn, 1) := ax_dec dX7_force_q0_ok 9 (16, .ireturn, 1) rfl
theorem dX7_force_17 : decode cX7_force 17 = .ok (.aload_n 0, 1) := ax_dec dX7_force_q0_ok 10 (17, .aload_n 0, 1) rfl
theorem dX7_force_18 : decode cX7_force 18 = .ok (.getfield 111, 3) := ax_dec dX7_force_q0_ok 11 (18, .getfield 111, 3) rfl
theorem dX7_force_21 : decode cX7_force 21 = .ok (.istore_n 2, 1) := ax_dec dX7_force_q0_ok 12 (21, .istore_n 2, 1) rfl
theorem dX7_force_22 : decode cX7_force 22 = .ok (.aload_n 0, 1) := ax_dec dX7_force_q0_ok 13 (22, .aload_n 0, 1) rfl
theorem dX7_force_23 : decode cX7_force 23 = .ok (.iload_n 1, 1) := ax_dec dX7_force_q0_ok 14 (23, .iload_n 1, 1) rfl
theorem dX7_force_24 : decode cX7_force 24 = .ok (.putfield 111, 3) := ax_dec dX7_force_q0_ok 15 (24, .putfield 111, 3) rfl
theorem dX7_force_27 : decode cX7_force 27 = .ok (.iload_n 2, 1) := ax_dec dX7_force_q0_ok 16 (27, .iload_n 2, 1) rfl
theorem dX7_force_28 : decode cX7_force 28 = .ok (.ireturn, 1) := ax_dec dX7_force_q0_ok 17 (28, .ireturn, 1) rfl
def dX7_is_q0 : List (Nat × (Instr × Nat)) := [(0, .aload_n 0, 1), (1, .getfield 13, 3), (4, .iload_n 1, 1), (5, .iaload, 1), (6, .istore_n 2, 1), (7, .aload_n 0, 1), (8, .getfield 19, 3), (11, .iload_n 1, 1), (12, .iaload, 1), (13, .aload_n 0, 1), (14, .getfield 25, 3), (17, .iload_n 1, 1), (18, .iaload, 1), (19, .isub, 1), (20, .iconst 0, 1), (21, .bipush 9, 2), (23, .invokestatic 176, 3), (26, .istore_n 3, 1), (27, .iload_n 2, 1), (28, .iconst 2, 1), (29, .if_icmp .ne 7, 3), (32, .iload_n 3, 1), (33, .goto 34, 3), (36, .iload_n 2, 1), (37, .iconst 4, 1), (38, .if_icmp .ne 23, 3), (41, .iload_n 3, 1), (42, .aload_n 0, 1), (43, .getfield 28, 3), (46, .iload_n 1, 1), (47, .iaload, 1), (48, .bipush 10, 2)]
set_option maxRecDepth 100000 in
theorem dX7_is_q0_ok : ax_decs cX7_is dX7_is_q0 = true := by decide +kernel
theorem dX7_is_0 : decode cX7_is 0 = .ok (.aload_n 0, 1) := ax_dec dX7_is_q0_ok 0 (0, .aload_n 0, 1) rfl
theorem dX7_is_1 : decode cX7_is 1 = .ok (.getfield 13, 3) := ax_dec dX7_is_q0_ok 1 (1, .getfield 13, 3) rfl
theorem dX7_is_4 : decode cX7_is 4 = .ok (.iload_n 1, 1) := ax_dec dX7_is_q0_ok 2 (4, .iload_n 1, 1) rfl
theorem dX7_is_5 : decode cX7_is 5 = .ok (.iaload, 1) := ax_dec dX7_is_q0_ok 3 (5, .iaload, 1) rfl
theorem dX7_is_6 : decode cX7_is 6 = .ok (.istore_n 2, 1) := ax_dec dX7_is_q0_ok 4 (6, .istore_n 2, 1) rfl
theorem dX7_is_7 : decode cX7_is 7 = .ok (.aload_n 0, 1) := ax_dec dX7_is_q0_ok 5 (7, .aload_n 0, 1) rfl
theorem dX7_is_8 : decode cX7_is 8 = .ok (.getfield 19, 3) := ax_dec dX7_is_q0_ok 6 (8, .getfield 19, 3) rfl
theorem dX7_is_11 : decode cX7_is 11 = .ok (.iload_n 1, 1) := ax_dec dX7_is_q0_ok 7 (11, .iload_n 1, 1) rfl
theorem dX7_is_12 : decode cX7_is 12 = .ok (.iaload, 1) := ax_dec dX7_is_q0_ok 8 (12, .iaload, 1) rfl
theorem dX7_is_13 : decode cX7_is 13 = .ok (.aload_n 0, 1) := ax_dec dX7_is_q0_ok 9 (13, .aload_n 0, 1) rfl
theorem dX7_is_14 : decode cX7_is 14 = .ok (.getfield 25, 3) := ax_dec dX7_is_q0_ok 10 (14, .getfield 25, 3) rfl
theorem dX7_is_17 : decode cX7_is 17 = .ok (.iload_n 1, 1) := ax_dec dX7_is_q0_ok 11 (17, .iload_n 1, 1) rfl
theorem dX7_is_18 : decode cX7_is 18 = .ok (.iaload, 1) := ax_dec dX7_is_q0_ok 12 (18, .iaload, 1) rfl
theorem dX7_is_19 : decode cX7_is 19 = .ok (.isub, 1) := ax_dec dX7_is_q0_ok 13 (19, .isub, 1) rfl
theorem dX7_is_20 : decode cX7_is 20 = .ok (.iconst 0, 1) := ax_dec dX7_is_q0_ok 14 (20, .iconst 0, 1) rfl
theorem dX7_is_21 : decode cX7_is 21 = .ok (.bipush 9, 2) := ax_dec dX7_is_q0_ok 15 (21, .bipush 9, 2) rfl
theorem dX7_is_23 : decode cX7_is 23 = .ok (.invokestatic 176, 3) := ax_dec dX7_is_q0_ok 16 (23, .invokestatic 176, 3) rfl
theorem dX7_is_26 : decode cX7_is 26 = .ok (.istore_n 3, 1) := ax_dec dX7_is_q0_ok 17 (26, .istore_n 3, 1) rfl
theorem dX7_is_27 : decode cX7_is 27 = .ok (.iload_n 2, 1) := ax_dec dX7_is_q0_ok 18 (27, .iload_n 2, 1) rfl
theorem dX7_is_28 : decode cX7_is 28 = .ok (.iconst 2, 1) := ax_dec dX7_is_q0_ok 19 (28, .iconst 2, 1) rfl
theorem dX7_is_29 : decode cX7_is 29 = .ok (.if_icmp .ne 7, 3) := ax_dec dX7_is_q0_ok 20 (29, .if_icmp .ne 7, 3) rfl
theorem dX7_is_32 : decode cX7_is 32 = .ok (.iload_n 3, 1) := ax_dec dX7_is_q0_ok 21 (32, .iload_n 3, 1) rfl
theorem dX7_is_33 : decode cX7_is 33 = .ok (.goto 34, 3) := ax_dec dX7_is_q0_ok 22 (33, .goto 34, 3) rfl
theorem dX7_is_36 : decode cX7_is 36 = .ok (.iload_n 2, 1) := ax_dec dX7_is_q0_ok 23 (36, .iload_n 2, 1) rfl
theorem dX7_is_37 : decode cX7_is 37 = .ok (.iconst 4, 1) := ax_dec dX7_is_q0_ok 24 (37, .iconst 4, 1) rfl
theorem dX7_is_38 : decode cX7_is 38 = .ok (.if_icmp .ne 23, 3) := ax_dec dX7_is_q0_ok 25 (38, .if_icmp .ne 23, 3) rfl
theorem dX7_is_41 : decode cX7_is 41 = .ok (.iload_n 3, 1) := ax_dec dX7_is_q0_ok 26 (41, .iload_n 3, 1) rfl
theorem dX7_is_42 : decode cX7_is 42 = .ok (.aload_n 0, 1) := ax_dec dX7_is_q0_ok 27 (42, .aload_n 0, 1) rfl
theorem dX7_is_43 : decode cX7_is 43 = .ok (.getfield 28, 3) := ax_dec dX7_is_q0_ok 28 (43, .getfield 28, 3) rfl
theorem dX7_is_46 : decode cX7_is 46 = .ok (.iload_n 1, 1) := ax_dec dX7_is_q0_ok 29 (46, .iload_n 1, 1) rfl
theorem dX7_is_47 : decode cX7_is 47 = .ok (.iaload, 1) := ax_dec dX7_is_q0_ok 30 (47, .iaload, 1) rfl
theorem dX7_is_48 : decode cX7_is 48 = .ok (.bipush 10, 2) := ax_dec dX7_is_q0_ok 31 (48, .bipush 10, 2) rfl
def dX7_is_q1 : List (Nat × (Instr × Nat)) := [(50, .idiv, 1), (51, .isub, 1), (52, .iconst 0, 1), (53, .bipush 9, 2), (55, .invokestatic 176, 3), (58, .goto 9, 3), (61, .aload_n 0, 1), (62, .getfield 19, 3), (65, .iload_n 1, 1), (66, .iaload, 1), (67, .ireturn, 1)]
set_option maxRecDepth 100000 in
theorem dX7_is_q1_ok : ax_decs cX7_is dX7_is_q1 = true := by decide +kernel
theorem dX7_is_50 : decode cX7_is 50 = .ok (.idiv, 1) := ax_dec dX7_is_q1_ok 0 (50, .idiv, 1) rfl
theorem dX7_is_51 : decode cX7_is 51 = .ok (.isub, 1) := ax_dec dX7_is_q1_ok 1 (51, .isub, 1) rfl
theorem dX7_is_52 : decode cX7_is 52 = .ok (.iconst 0, 1) := ax_dec dX7_is_q1_ok 2 (52, .iconst 0, 1) rfl
theorem dX7_is_53 : decode cX7_is 53 = .ok (.bipush 9, 2) := ax_dec dX7_is_q1_ok 3 (53, .bipush 9, 2) rfl
theorem dX7_is_55 : decode cX7_is 55 = .ok (.invokestatic 176, 3) := ax_dec dX7_is_q1_ok 4 (55, .invokestatic 176, 3) rfl
theorem dX7_is_58 : decode cX7_is 58 = .ok (.goto 9, 3) := ax_dec dX7_is_q1_ok 5 (58, .goto 9, 3) rfl
theorem dX7_is_61 : decode cX7_is 61 = .ok (.aload_n 0, 1) := ax_dec dX7_is_q1_ok 6 (61, .aload_n 0, 1) rfl
theorem dX7_is_62 : decode cX7_is 62 = .ok (.getfield 19, 3) := ax_dec dX7_is_q1_ok 7 (62, .getfield 19, 3) rfl
theorem dX7_is_65 : decode cX7_is 65 = .ok (.iload_n 1, 1) := ax_dec dX7_is_q1_ok 8 (65, .iload_n 1, 1) rfl
theorem dX7_is_66 : decode cX7_is 66 = .ok (.iaload, 1) := ax_dec dX7_is_q1_ok 9 (66, .iaload, 1) rfl
theorem dX7_is_67 : decode cX7_is 67 = .ok (.ireturn, 1) := ax_dec dX7_is_q1_ok 10 (67, .ireturn, 1) rfl
def dX7_asksOf_q0 : List (Nat × (Instr × Nat)) := [(0, .aload_n 0, 1), (1, .getfield 64, 3), (4, .iconst 0, 1), (5, .aload_n 0, 1), (6, .getfield 28, 3), (9, .iload_n 2, 1), (10, .iaload, 1), (11, .iastore, 1), (12, .aload_n 0, 1), (13, .getfield 64, 3), (16, .iconst 1, 1), (17, .aload_n 0, 1), (18, .iload_n 2, 1), (19, .invokevirtual 179, 3), (22, .iastore, 1), (23, .aload_n 0, 1), (24, .getfield 64, 3), (27, .iconst 2, 1), (28, .aload_n 0, 1), (29, .getfield 22, 3), (32, .iload_n 2, 1), (33, .iaload, 1), (34, .iastore, 1), (35, .aload_n 0, 1), (36, .getfield 64, 3), (39, .iconst 3, 1), (40, .aload_n 0, 1), (41, .getfield 25, 3), (44, .iload_n 2, 1), (45, .iaload, 1), (46, .iastore, 1), (47, .aload_n 0, 1)]
set_option maxRecDepth 100000 in
theorem dX7_asksOf_q0_ok : ax_decs cX7_asksOf dX7_asksOf_q0 = true := by decide +kernel
theorem dX7_asksOf_0 : decode cX7_asksOf 0 = .ok (.aload_n 0, 1) := ax_dec dX7_asksOf_q0_ok 0 (0, .aload_n 0, 1) rfl
theorem dX7_asksOf_1 : decode cX7_asksOf 1 = .ok (.getfield 64, 3) := ax_dec dX7_asksOf_q0_ok 1 (1, .getfield 64, 3) rfl
theorem dX7_asksOf_4 : decode cX7_asksOf 4 = .ok (.iconst 0, 1) := ax_dec dX7_asksOf_q0_ok 2 (4, .iconst 0, 1) rfl
theorem dX7_asksOf_5 : decode cX7_asksOf 5 = .ok (.aload_n 0, 1) := ax_dec dX7_asksOf_q0_ok 3 (5, .aload_n 0, 1) rfl
theorem dX7_asksOf_6 : decode cX7_asksOf 6 = .ok (.getfield 28, 3) := ax_dec dX7_asksOf_q0_ok 4 (6, .getfield 28, 3) rfl
theorem dX7_asksOf_9 : decode cX7_asksOf 9 = .ok (.iload_n 2, 1) := ax_dec dX7_asksOf_q0_ok 5 (9, .iload_n 2, 1) rfl
theorem dX7_asksOf_10 : decode cX7_asksOf 10 = .ok (.iaload, 1) := ax_dec dX7_asksOf_q0_ok 6 (10, .iaload, 1) rfl
theorem dX7_asksOf_11 : decode cX7_asksOf 11 = .ok (.iastore, 1) := ax_dec dX7_asksOf_q0_ok 7 (11, .iastore, 1) rfl
theorem dX7_asksOf_12 : decode cX7_asksOf 12 = .ok (.aload_n 0, 1) := ax_dec dX7_asksOf_q0_ok 8 (12, .aload_n 0, 1) rfl
theorem dX7_asksOf_13 : decode cX7_asksOf 13 = .ok (.getfield 64, 3) := ax_dec dX7_asksOf_q0_ok 9 (13, .getfield 64, 3) rfl
theorem dX7_asksOf_16 : decode cX7_asksOf 16 = .ok (.iconst 1, 1) := ax_dec dX7_asksOf_q0_ok 10 (16, .iconst 1, 1) rfl
theorem dX7_asksOf_17 : decode cX7_asksOf 17 = .ok (.aload_n 0, 1) := ax_dec dX7_asksOf_q0_ok 11 (17, .aload_n 0, 1) rfl
theorem dX7_asksOf_18 : decode cX7_asksOf 18 = .ok (.iload_n 2, 1) := ax_dec dX7_asksOf_q0_ok 12 (18, .iload_n 2, 1) rfl
theorem dX7_asksOf_19 : decode cX7_asksOf 19 = .ok (.invokevirtual 179, 3) := ax_dec dX7_asksOf_q0_ok 13 (19, .invokevirtual 179, 3) rfl
theorem dX7_asksOf_22 : decode cX7_asksOf 22 = .ok (.iastore, 1) := ax_dec dX7_asksOf_q0_ok 14 (22, .iastore, 1) rfl
theorem dX7_asksOf_23 : decode cX7_asksOf 23 = .ok (.aload_n 0, 1) := ax_dec dX7_asksOf_q0_ok 15 (23, .aload_n 0, 1) rfl
theorem dX7_asksOf_24 : decode cX7_asksOf 24 = .ok (.getfield 64, 3) := ax_dec dX7_asksOf_q0_ok 16 (24, .getfield 64, 3) rfl
theorem dX7_asksOf_27 : decode cX7_asksOf 27 = .ok (.iconst 2, 1) := ax_dec dX7_asksOf_q0_ok 17 (27, .iconst 2, 1) rfl
theorem dX7_asksOf_28 : decode cX7_asksOf 28 = .ok (.aload_n 0, 1) := ax_dec dX7_asksOf_q0_ok 18 (28, .aload_n 0, 1) rfl
theorem dX7_asksOf_29 : decode cX7_asksOf 29 = .ok (.getfield 22, 3) := ax_dec dX7_asksOf_q0_ok 19 (29, .getfield 22, 3) rfl
theorem dX7_asksOf_32 : decode cX7_asksOf 32 = .ok (.iload_n 2, 1) := ax_dec dX7_asksOf_q0_ok 20 (32, .iload_n 2, 1) rfl
theorem dX7_asksOf_33 : decode cX7_asksOf 33 = .ok (.iaload, 1) := ax_dec dX7_asksOf_q0_ok 21 (33, .iaload, 1) rfl
theorem dX7_asksOf_34 : decode cX7_asksOf 34 = .ok (.iastore, 1) := ax_dec dX7_asksOf_q0_ok 22 (34, .iastore, 1) rfl
theorem dX7_asksOf_35 : decode cX7_asksOf 35 = .ok (.aload_n 0, 1) := ax_dec dX7_asksOf_q0_ok 23 (35, .aload_n 0, 1) rfl
theorem dX7_asksOf_36 : decode cX7_asksOf 36 = .ok (.getfield 64, 3) := ax_dec dX7_asksOf_q0_ok 24 (36, .getfield 64, 3) rfl
theorem dX7_asksOf_39 : decode cX7_asksOf 39 = .ok (.iconst 3, 1) := ax_dec dX7_asksOf_q0_ok 25 (39, .iconst 3, 1) rfl
theorem dX7_asksOf_40 : decode cX7_asksOf 40 = .ok (.aload_n 0, 1) := ax_dec dX7_asksOf_q0_ok 26 (40, .aload_n 0, 1) rfl
theorem dX7_asksOf_41 : decode cX7_asksOf 41 = .ok (.getfield 25, 3) := ax_dec dX7_asksOf_q0_ok 27 (41, .getfield 25, 3) rfl
theorem dX7_asksOf_44 : decode cX7_asksOf 44 = .ok (.iload_n 2, 1) := ax_dec dX7_asksOf_q0_ok 28 (44, .iload_n 2, 1) rfl
theorem dX7_asksOf_45 : decode cX7_asksOf 45 = .ok (.iaload, 1) := ax_dec dX7_asksOf_q0_ok 29 (45, .iaload, 1) rfl
theorem dX7_asksOf_46 : decode cX7_asksOf 46 = .ok (.iastore, 1) := ax_dec dX7_asksOf_q0_ok 30 (46, .iastore, 1) rfl
theorem dX7_asksOf_47 : decode cX7_asksOf 47 = .ok (.aload_n 0, 1) := ax_dec dX7_asksOf_q0_ok 31 (47, .aload_n 0, 1) rfl
def dX7_asksOf_q1 : List (Nat × (Instr × Nat)) := [(48, .getfield 64, 3), (51, .iconst 4, 1), (52, .iload_n 3, 1), (53, .iastore, 1), (54, .aload_n 0, 1), (55, .getfield 64, 3), (58, .iconst 5, 1), (59, .iload 4, 2), (61, .iastore, 1), (62, .aload_n 0, 1), (63, .iload_n 1, 1), (64, .invokevirtual 182, 3), (67, .iconst 0, 1), (68, .iload_n 1, 1), (69, .iconst 2, 1), (70, .if_icmp .ne 8, 3), (73, .bipush 100, 2), (75, .goto 5, 3), (78, .bipush 99, 2), (80, .invokestatic 176, 3), (83, .ireturn, 1)]
set_option maxRecDepth 100000 in
theorem dX7_asksOf_q1_ok : ax_decs cX7_asksOf dX7_asksOf_q1 = true := by decide +kernel
theorem dX7_asksOf_48 : decode cX7_asksOf 48 = .ok (.getfield 64, 3) := ax_dec dX7_asksOf_q1_ok 0 (48, .getfield 64, 3) rfl
theorem dX7_asksOf_51 : decode cX7_asksOf 51 = .ok (.iconst 4, 1) := ax_dec dX7_asksOf_q1_ok 1 (51, .iconst 4, 1) rfl
theorem dX7_asksOf_52 : decode cX7_asksOf 52 = .ok (.iload_n 3, 1) := ax_dec dX7_asksOf_q1_ok 2 (52, .iload_n 3, 1) rfl
theorem dX7_asksOf_53 : decode cX7_asksOf 53 = .ok (.iastore, 1) := ax_dec dX7_asksOf_q1_ok 3 (53, .iastore, 1) rfl
theorem dX7_asksOf_54 : decode cX7_asksOf 54 = .ok (.aload_n 0, 1) := ax_dec dX7_asksOf_q1_ok 4 (54, .aload_n 0, 1) rfl
theorem dX7_asksOf_55 : decode cX7_asksOf 55 = .ok (.getfield 64, 3) := ax_dec dX7_asksOf_q1_ok 5 (55, .getfield 64, 3) rfl
theorem dX7_asksOf_58 : decode cX7_asksOf 58 = .ok (.iconst 5, 1) := ax_dec dX7_asksOf_q1_ok 6 (58, .iconst 5, 1) rfl
theorem dX7_asksOf_59 : decode cX7_asksOf 59 = .ok (.iload 4, 2) := ax_dec dX7_asksOf_q1_ok 7 (59, .iload 4, 2) rfl
theorem dX7_asksOf_61 : decode cX7_asksOf 61 = .ok (.iastore, 1) := ax_dec dX7_asksOf_q1_ok 8 (61, .iastore, 1) rfl
theorem dX7_asksOf_62 : decode cX7_asksOf 62 = .ok (.aload_n 0, 1) := ax_dec dX7_asksOf_q1_ok 9 (62, .aload_n 0, 1) rfl
theorem dX7_asksOf_63 : decode cX7_asksOf 63 = .ok (.iload_n 1, 1) := ax_dec dX7_asksOf_q1_ok 10 (63, .iload_n 1, 1) rfl
theorem dX7_asksOf_64 : decode cX7_asksOf 64 = .ok (.invokevirtual 182, 3) := ax_dec dX7_asksOf_q1_ok 11 (64, .invokevirtual 182, 3) rfl
theorem dX7_asksOf_67 : decode cX7_asksOf 67 = .ok (.iconst 0, 1) := ax_dec dX7_asksOf_q1_ok 12 (67, .iconst 0, 1) rfl
theorem dX7_asksOf_68 : decode cX7_asksOf 68 = .ok (.iload_n 1, 1) := ax_dec dX7_asksOf_q1_ok 13 (68, .iload_n 1, 1) rfl
theorem dX7_asksOf_69 : decode cX7_asksOf 69 = .ok (.iconst 2, 1) := ax_dec dX7_asksOf_q1_ok 14 (69, .iconst 2, 1) rfl
theorem dX7_asksOf_70 : decode cX7_asksOf 70 = .ok (.if_icmp .ne 8, 3) := ax_dec dX7_asksOf_q1_ok 15 (70, .if_icmp .ne 8, 3) rfl
theorem dX7_asksOf_73 : decode cX7_asksOf 73 = .ok (.bipush 100, 2) := ax_dec dX7_asksOf_q1_ok 16 (73, .bipush 100, 2) rfl
theorem dX7_asksOf_75 : decode cX7_asksOf 75 = .ok (.goto 5, 3) := ax_dec dX7_asksOf_q1_ok 17 (75, .goto 5, 3) rfl
theorem dX7_asksOf_78 : decode cX7_asksOf 78 = .ok (.bipush 99, 2) := ax_dec dX7_asksOf_q1_ok 18 (78, .bipush 99, 2) rfl
theorem dX7_asksOf_80 : decode cX7_asksOf 80 = .ok (.invokestatic 176, 3) := ax_dec dX7_asksOf_q1_ok 19 (80, .invokestatic 176, 3) rfl
theorem dX7_asksOf_83 : decode cX7_asksOf 83 = .ok (.ireturn, 1) := ax_dec dX7_asksOf_q1_ok 20 (83, .ireturn, 1) rfl
def dX7_asks_q0 : List (Nat × (Instr × Nat)) := [(0, .aload_n 0, 1), (1, .iload_n 2, 1), (2, .invokevirtual 91, 3), (5, .ifCond .ne 6, 3), (8, .bipush (-5), 2), (10, .ireturn, 1), (11, .iload_n 1, 1), (12, .iconst 0, 1), (13, .iconst 2, 1), (14, .invokestatic 87, 3), (17, .ifCond .eq 36, 3), (20, .iload_n 3, 1), (21, .iconst 0, 1), (22, .bipush 9, 2), (24, .invokestatic 87, 3), (27, .ifCond .eq 26, 3), (30, .iload 4, 2), (32, .iconst 0, 1), (33, .bipush 9, 2), (35, .invokestatic 87, 3), (38, .ifCond .eq 15, 3), (41, .aload_n 0, 1), (42, .iload_n 1, 1), (43, .iload_n 2, 1), (44, .iload_n 3, 1), (45, .iload 4, 2), (47, .invokevirtual 185, 3), (50, .goto 5, 3), (53, .bipush (-7), 2), (55, .ireturn, 1)]
set_option maxRecDepth 100000 in
theorem dX7_asks_q0_ok : ax_decs cX7_asks dX7_asks_q0 = true := by decide +kernel
theorem dX7_asks_0 : decode cX7_asks 0 = .ok (.aload_n 0, 1) := ax_dec dX7_asks_q0_ok 0 (0, .aload_n 0, 1) rfl
theorem dX7_asks_1 : decode cX7_asks 1 = .ok (.iload_n 2, 1) := ax_dec dX7_asks_q0_ok 1 (1, .iload_n 2, 1) rfl
theorem dX7_asks_2 : decode cX7_asks 2 = .ok (.invokevirtual 91, 3) := ax_dec dX7_asks_q0_ok 2 (2, .invokevirtual 91, 3) rfl
theorem dX7_asks_5 : decode cX7_asks 5 = .ok (.ifCond .ne 6, 3) := ax_dec dX7_asks_q0_ok 3 (5, .ifCond .ne 6, 3) rfl
theorem dX7_asks_8 : decode cX7_asks 8 = .ok (.bipush (-5), 2) := ax_dec dX7_asks_q0_ok 4 (8, .bipush (-5), 2) rfl
theorem dX7_asks_10 : decode cX7_asks 10 = .ok (.ireturn, 1) := ax_dec dX7_asks_q0_ok 5 (10, .ireturn, 1) rfl
theorem dX7_asks_11 : decode cX7_asks 11 = .ok (.iload_n 1, 1) := ax_dec dX7_asks_q0_ok 6 (11, .iload_n 1, 1) rfl
theorem dX7_asks_12 : decode cX7_asks 12 = .ok (.iconst 0, 1) := ax_dec dX7_asks_q0_ok 7 (12, .iconst 0, 1) rfl
theorem dX7_asks_13 : decode cX7_asks 13 = .ok (.iconst 2, 1) := ax_dec dX7_asks_q0_ok 8 (13, .iconst 2, 1) rfl
theorem dX7_asks_14 : decode cX7_asks 14 = .ok (.invokestatic 87, 3) := ax_dec dX7_asks_q0_ok 9 (14, .invokestatic 87, 3) rfl
theorem dX7_asks_17 : decode cX7_asks 17 = .ok (.ifCond .eq 36, 3) := ax_dec dX7_asks_q0_ok 10 (17, .ifCond .eq 36, 3) rfl
theorem dX7_asks_20 : decode cX7_asks 20 = .ok (.iload_n 3, 1) := ax_dec dX7_asks_q0_ok 11 (20, .iload_n 3, 1) rfl
theorem dX7_asks_21 : decode cX7_asks 21 = .ok (.iconst 0, 1) := ax_dec dX7_asks_q0_ok 12 (21, .iconst 0, 1) rfl
theorem dX7_asks_22 : decode cX7_asks 22 = .ok (.bipush 9, 2) := ax_dec dX7_asks_q0_ok 13 (22, .bipush 9, 2) rfl
theorem dX7_asks_24 : decode cX7_asks 24 = .ok (.invokestatic 87, 3) := ax_dec dX7_asks_q0_ok 14 (24, .invokestatic 87, 3) rfl
theorem dX7_asks_27 : decode cX7_asks 27 = .ok (.ifCond .eq 26, 3) := ax_dec dX7_asks_q0_ok 15 (27, .ifCond .eq 26, 3) rfl
theorem dX7_asks_30 : decode cX7_asks 30 = .ok (.iload 4, 2) := ax_dec dX7_asks_q0_ok 16 (30, .iload 4, 2) rfl
theorem dX7_asks_32 : decode cX7_asks 32 = .ok (.iconst 0, 1) := ax_dec dX7_asks_q0_ok 17 (32, .iconst 0, 1) rfl
theorem dX7_asks_33 : decode cX7_asks 33 = .ok (.bipush 9, 2) := ax_dec dX7_asks_q0_ok 18 (33, .bipush 9, 2) rfl
theorem dX7_asks_35 : decode cX7_asks 35 = .ok (.invokestatic 87, 3) := ax_dec dX7_asks_q0_ok 19 (35, .invokestatic 87, 3) rfl
theorem dX7_asks_38 : decode cX7_asks 38 = .ok (.ifCond .eq 15, 3) := ax_dec dX7_asks_q0_ok 20 (38, .ifCond .eq 15, 3) rfl
theorem dX7_asks_41 : decode cX7_asks 41 = .ok (.aload_n 0, 1) := ax_dec dX7_asks_q0_ok 21 (41, .aload_n 0, 1) rfl
theorem dX7_asks_42 : decode cX7_asks 42 = .ok (.iload_n 1, 1) := ax_dec dX7_asks_q0_ok 22 (42, .iload_n 1, 1) rfl
theorem dX7_asks_43 : decode cX7_asks 43 = .ok (.iload_n 2, 1) := ax_dec dX7_asks_q0_ok 23 (43, .iload_n 2, 1) rfl
theorem dX7_asks_44 : decode cX7_asks 44 = .ok (.iload_n 3, 1) := ax_dec dX7_asks_q0_ok 24 (44, .iload_n 3, 1) rfl
theorem dX7_asks_45 : decode cX7_asks 45 = .ok (.iload 4, 2) := ax_dec dX7_asks_q0_ok 25 (45, .iload 4, 2) rfl
theorem dX7_asks_47 : decode cX7_asks 47 = .ok (.invokevirtual 185, 3) := ax_dec dX7_asks_q0_ok 26 (47, .invokevirtual 185, 3) rfl
theorem dX7_asks_50 : decode cX7_asks 50 = .ok (.goto 5, 3) := ax_dec dX7_asks_q0_ok 27 (50, .goto 5, 3) rfl
theorem dX7_asks_53 : decode cX7_asks 53 = .ok (.bipush (-7), 2) := ax_dec dX7_asks_q0_ok 28 (53, .bipush (-7), 2) rfl
theorem dX7_asks_55 : decode cX7_asks 55 = .ok (.ireturn, 1) := ax_dec dX7_asks_q0_ok 29 (55, .ireturn, 1) rfl
def dX7_heavy_q0 : List (Nat × (Instr × Nat)) := [(0, .aload_n 0, 1), (1, .iconst 1, 1), (2, .iload_n 1, 1), (3, .iconst 0, 1), (4, .iconst 0, 1), (5, .invokevirtual 185, 3), (8, .ireturn, 1)]
set_option maxRecDepth 100000 in
theorem dX7_heavy_q0_ok : ax_decs cX7_heavy dX7_heavy_q0 = true := by decide +kernel
theorem dX7_heavy_0 : decode cX7_heavy 0 = .ok (.aload_n 0, 1) := ax_dec dX7_heavy_q0_ok 0 (0, .aload_n 0, 1) rfl
theorem dX7_heavy_1 : decode cX7_heavy 1 = .ok (.iconst 1, 1) := ax_dec dX7_heavy_q0_ok 1 (1, .iconst 1, 1) rfl
theorem dX7_heavy_2 : decode cX7_heavy 2 = .ok (.iload_n 1, 1) := ax_dec dX7_heavy_q0_ok 2 (2, .iload_n 1, 1) rfl
theorem dX7_heavy_3 : decode cX7_heavy 3 = .ok (.iconst 0, 1) := ax_dec dX7_heavy_q0_ok 3 (3, .iconst 0, 1) rfl
theorem dX7_heavy_4 : decode cX7_heavy 4 = .ok (.iconst 0, 1) := ax_dec dX7_heavy_q0_ok 4 (4, .iconst 0, 1) rfl
theorem dX7_heavy_5 : decode cX7_heavy 5 = .ok (.invokevirtual 185, 3) := ax_dec dX7_heavy_q0_ok 5 (5, .invokevirtual 185, 3) rfl
theorem dX7_heavy_8 : decode cX7_heavy 8 = .ok (.ireturn, 1) := ax_dec dX7_heavy_q0_ok 6 (8, .ireturn, 1) rfl
def dX7_grows_q0 : List (Nat × (Instr × Nat)) := [(0, .aload_n 0, 1), (1, .iconst 0, 1), (2, .iload_n 1, 1), (3, .iload_n 2, 1), (4, .bipush 10, 2), (6, .idiv, 1), (7, .iload_n 2, 1), (8, .bipush 10, 2), (10, .irem, 1), (11, .invokevirtual 185, 3), (14, .istore_n 3, 1), (15, .aload_n 0, 1), (16, .getfield 13, 3), (19, .iload_n 1, 1), (20, .iaload, 1), (21, .istore 4, 2), (23, .iload 4, 2), (25, .iconst 1, 1), (26, .if_icmp .eq 9, 3), (29, .iload 4, 2), (31, .iconst 3, 1), (32, .if_icmp .ne 14, 3), (35, .iload_n 3, 1), (36, .aload_n 0, 1), (37, .getfield 25, 3), (40, .iload_n 1, 1), (41, .iaload, 1), (42, .iadd, 1), (43, .goto 16, 3), (46, .iload 4, 2), (48, .iconst 5, 1), (49, .if_icmp .ne 9, 3)]
set_option maxRecDepth 100000 in
theorem dX7_grows_q0_ok : ax_decs cX7_grows dX7_grows_q0 = true := by decide +kernel
theorem dX7_grows_0 : decode cX7_grows 0 = .ok (.aload_n 0, 1) := ax_dec dX7_grows_q0_ok 0 (0, .aload_n 0, 1) rfl
theorem dX7_grows_1 : decode cX7_grows 1 = .ok (.iconst 0, 1) := ax_dec dX7_grows_q0_ok 1 (1, .iconst 0, 1) rfl
theorem dX7_grows_2 : decode cX7_grows 2 = .ok (.iload_n 1, 1) := ax_dec dX7_grows_q0_ok 2 (2, .iload_n 1, 1) rfl
theorem dX7_grows_3 : decode cX7_grows 3 = .ok (.iload_n 2, 1) := ax_dec dX7_grows_q0_ok 3 (3, .iload_n 2, 1) rfl
theorem dX7_grows_4 : decode cX7_grows 4 = .ok (.bipush 10, 2) := ax_dec dX7_grows_q0_ok 4 (4, .bipush 10, 2) rfl
theorem dX7_grows_6 : decode cX7_grows 6 = .ok (.idiv, 1) := ax_dec dX7_grows_q0_ok 5 (6, .idiv, 1) rfl
theorem dX7_grows_7 : decode cX7_grows 7 = .ok (.iload_n 2, 1) := ax_dec dX7_grows_q0_ok 6 (7, .iload_n 2, 1) rfl
theorem dX7_grows_8 : decode cX7_grows 8 = .ok (.bipush 10, 2) := ax_dec dX7_grows_q0_ok 7 (8, .bipush 10, 2) rfl
theorem dX7_grows_10 : decode cX7_grows 10 = .ok (.irem, 1) := ax_dec dX7_grows_q0_ok 8 (10, .irem, 1) rfl
theorem dX7_grows_11 : decode cX7_grows 11 = .ok (.invokevirtual 185, 3) := ax_dec dX7_grows_q0_ok 9 (11, .invokevirtual 185, 3) rfl
theorem dX7_grows_14 : decode cX7_grows 14 = .ok (.istore_n 3, 1) := ax_dec dX7_grows_q0_ok 10 (14, .istore_n 3, 1) rfl
theorem dX7_grows_15 : decode cX7_grows 15 = .ok (.aload_n 0, 1) := ax_dec dX7_grows_q0_ok 11 (15, .aload_n 0, 1) rfl
theorem dX7_grows_16 : decode cX7_grows 16 = .ok (.getfield 13, 3) := ax_dec dX7_grows_q0_ok 12 (16, .getfield 13, 3) rfl
theorem dX7_grows_19 : decode cX7_grows 19 = .ok (.iload_n 1, 1) := ax_dec dX7_grows_q0_ok 13 (19, .iload_n 1, 1) rfl
theorem dX7_grows_20 : decode cX7_grows 20 = .ok (.iaload, 1) := ax_dec dX7_grows_q0_ok 14 (20, .iaload, 1) rfl
theorem dX7_grows_21 : decode cX7_grows 21 = .ok (.istore 4, 2) := ax_dec dX7_grows_q0_ok 15 (21, .istore 4, 2) rfl
theorem dX7_grows_23 : decode cX7_grows 23 = .ok (.iload 4, 2) := ax_dec dX7_grows_q0_ok 16 (23, .iload 4, 2) rfl
theorem dX7_grows_25 : decode cX7_grows 25 = .ok (.iconst 1, 1) := ax_dec dX7_grows_q0_ok 17 (25, .iconst 1, 1) rfl
theorem dX7_grows_26 : decode cX7_grows 26 = .ok (.if_icmp .eq 9, 3) := ax_dec dX7_grows_q0_ok 18 (26, .if_icmp .eq 9, 3) rfl
theorem dX7_grows_29 : decode cX7_grows 29 = .ok (.iload 4, 2) := ax_dec dX7_grows_q0_ok 19 (29, .iload 4, 2) rfl
theorem dX7_grows_31 : decode cX7_grows 31 = .ok (.iconst 3, 1) := ax_dec dX7_grows_q0_ok 20 (31, .iconst 3, 1) rfl
theorem dX7_grows_32 : decode cX7_grows 32 = .ok (.if_icmp .ne 14, 3) := ax_dec dX7_grows_q0_ok 21 (32, .if_icmp .ne 14, 3) rfl
theorem dX7_grows_35 : decode cX7_grows 35 = .ok (.iload_n 3, 1) := ax_dec dX7_grows_q0_ok 22 (35, .iload_n 3, 1) rfl
theorem dX7_grows_36 : decode cX7_grows 36 = .ok (.aload_n 0, 1) := ax_dec dX7_grows_q0_ok 23 (36, .aload_n 0, 1) rfl
theorem dX7_grows_37 : decode cX7_grows 37 = .ok (.getfield 25, 3) := ax_dec dX7_grows_q0_ok 24 (37, .getfield 25, 3) rfl
theorem dX7_grows_40 : decode cX7_grows 40 = .ok (.iload_n 1, 1) := ax_dec dX7_grows_q0_ok 25 (40, .iload_n 1, 1) rfl
theorem dX7_grows_41 : decode cX7_grows 41 = .ok (.iaload, 1) := ax_dec dX7_grows_q0_ok 26 (41, .iaload, 1) rfl
theorem dX7_grows_42 : decode cX7_grows 42 = .ok (.iadd, 1) := ax_dec dX7_grows_q0_ok 27 (42, .iadd, 1) rfl
theorem dX7_grows_43 : decode cX7_grows 43 = .ok (.goto 16, 3) := ax_dec dX7_grows_q0_ok 28 (43, .goto 16, 3) rfl
theorem dX7_grows_46 : decode cX7_grows 46 = .ok (.iload 4, 2) := ax_dec dX7_grows_q0_ok 29 (46, .iload 4, 2) rfl
theorem dX7_grows_48 : decode cX7_grows 48 = .ok (.iconst 5, 1) := ax_dec dX7_grows_q0_ok 30 (48, .iconst 5, 1) rfl
theorem dX7_grows_49 : decode cX7_grows 49 = .ok (.if_icmp .ne 9, 3) := ax_dec dX7_grows_q0_ok 31 (49, .if_icmp .ne 9, 3) rfl
def dX7_grows_q1 : List (Nat × (Instr × Nat)) := [(52, .iload_n 3, 1), (53, .iconst 2, 1), (54, .idiv, 1), (55, .goto 4, 3), (58, .iload_n 3, 1), (59, .ireturn, 1)]
set_option maxRecDepth 100000 in
theorem dX7_grows_q1_ok : ax_decs cX7_grows dX7_grows_q1 = true := by decide +kernel
theorem dX7_grows_52 : decode cX7_grows 52 = .ok (.iload_n 3, 1) := ax_dec dX7_grows_q1_ok 0 (52, .iload_n 3, 1) rfl
theorem dX7_grows_53 : decode cX7_grows 53 = .ok (.iconst 2, 1) := ax_dec dX7_grows_q1_ok 1 (53, .iconst 2, 1) rfl
theorem dX7_grows_54 : decode cX7_grows 54 = .ok (.idiv, 1) := ax_dec dX7_grows_q1_ok 2 (54, .idiv, 1) rfl
theorem dX7_grows_55 : decode cX7_grows 55 = .ok (.goto 4, 3) := ax_dec dX7_grows_q1_ok 3 (55, .goto 4, 3) rfl
theorem dX7_grows_58 : decode cX7_grows 58 = .ok (.iload_n 3, 1) := ax_dec dX7_grows_q1_ok 4 (58, .iload_n 3, 1) rfl
theorem dX7_grows_59 : decode cX7_grows 59 = .ok (.ireturn, 1) := ax_dec dX7_grows_q1_ok 5 (59, .ireturn, 1) rfl
def dX7_remains_q0 : List (Nat × (Instr × Nat)) := [(0, .aload_n 0, 1), (1, .getfield 13, 3), (4, .iload_n 1, 1), (5, .iaload, 1), (6, .iconst 4, 1), (7, .if_icmp .ne 12, 3), (10, .aload_n 0, 1), (11, .getfield 28, 3), (14, .iload_n 1, 1), (15, .iaload, 1), (16, .goto 25, 3), (19, .aload_n 0, 1), (20, .getfield 13, 3), (23, .iload_n 1, 1), (24, .iaload, 1), (25, .iconst 3, 1), (26, .if_icmp .ne 14, 3), (29, .aload_n 0, 1), (30, .getfield 28, 3), (33, .iload_n 1, 1), (34, .iaload, 1), (35, .iconst 2, 1), (36, .idiv, 1), (37, .goto 4, 3), (40, .iconst 0, 1), (41, .ireturn, 1)]
set_option maxRecDepth 100000 in
theorem dX7_remains_q0_ok : ax_decs cX7_remains dX7_remains_q0 = true := by decide +kernel
theorem dX7_remains_0 : decode cX7_remains 0 = .ok (.aload_n 0, 1) := ax_dec dX7_remains_q0_ok 0 (0, .aload_n 0, 1) rfl
theorem dX7_remains_1 : decode cX7_remains 1 = .ok (.getfield 13, 3) := ax_dec dX7_remains_q0_ok 1 (1, .getfield 13, 3) rfl
theorem dX7_remains_4 : decode cX7_remains 4 = .ok (.iload_n 1, 1) := ax_dec dX7_remains_q0_ok 2 (4, .iload_n 1, 1) rfl
theorem dX7_remains_5 : decode cX7_remains 5 = .ok (.iaload, 1) := ax_dec dX7_remains_q0_ok 3 (5, .iaload, 1) rfl
theorem dX7_remains_6 : decode cX7_remains 6 = .ok (.iconst 4, 1) := ax_dec dX7_remains_q0_ok 4 (6, .iconst 4, 1) rfl
theorem dX7_remains_7 : decode cX7_remains 7 = .ok (.if_icmp .ne 12, 3) := ax_dec dX7_remains_q0_ok 5 (7, .if_icmp .ne 12, 3) rfl
theorem dX7_remains_10 : decode cX7_remains 10 = .ok (.aload_n 0, 1) := ax_dec dX7_remains_q0_ok 6 (10, .aload_n 0, 1) rfl
theorem dX7_remains_11 : decode cX7_remains 11 = .ok (.getfield 28, 3) := ax_dec dX7_remains_q0_ok 7 (11, .getfield 28, 3) rfl
theorem dX7_remains_14 : decode cX7_remains 14 = .ok (.iload_n 1, 1) := ax_dec dX7_remains_q0_ok 8 (14, .iload_n 1, 1) rfl
theorem dX7_remains_15 : decode cX7_remains 15 = .ok (.iaload, 1) := ax_dec dX7_remains_q0_ok 9 (15, .iaload, 1) rfl
theorem dX7_remains_16 : decode cX7_remains 16 = .ok (.goto 25, 3) := ax_dec dX7_remains_q0_ok 10 (16, .goto 25, 3) rfl
theorem dX7_remains_19 : decode cX7_remains 19 = .ok (.aload_n 0, 1) := ax_dec dX7_remains_q0_ok 11 (19, .aload_n 0, 1) rfl
theorem dX7_remains_20 : decode cX7_remains 20 = .ok (.getfield 13, 3) := ax_dec dX7_remains_q0_ok 12 (20, .getfield 13, 3) rfl
theorem dX7_remains_23 : decode cX7_remains 23 = .ok (.iload_n 1, 1) := ax_dec dX7_remains_q0_ok 13 (23, .iload_n 1, 1) rfl
theorem dX7_remains_24 : decode cX7_remains 24 = .ok (.iaload, 1) := ax_dec dX7_remains_q0_ok 14 (24, .iaload, 1) rfl
theorem dX7_remains_25 : decode cX7_remains 25 = .ok (.iconst 3, 1) := ax_dec dX7_remains_q0_ok 15 (25, .iconst 3, 1) rfl
theorem dX7_remains_26 : decode cX7_remains 26 = .ok (.if_icmp .ne 14, 3) := ax_dec dX7_remains_q0_ok 16 (26, .if_icmp .ne 14, 3) rfl
theorem dX7_remains_29 : decode cX7_remains 29 = .ok (.aload_n 0, 1) := ax_dec dX7_remains_q0_ok 17 (29, .aload_n 0, 1) rfl
theorem dX7_remains_30 : decode cX7_remains 30 = .ok (.getfield 28, 3) := ax_dec dX7_remains_q0_ok 18 (30, .getfield 28, 3) rfl
theorem dX7_remains_33 : decode cX7_remains 33 = .ok (.iload_n 1, 1) := ax_dec dX7_remains_q0_ok 19 (33, .iload_n 1, 1) rfl
theorem dX7_remains_34 : decode cX7_remains 34 = .ok (.iaload, 1) := ax_dec dX7_remains_q0_ok 20 (34, .iaload, 1) rfl
theorem dX7_remains_35 : decode cX7_remains 35 = .ok (.iconst 2, 1) := ax_dec dX7_remains_q0_ok 21 (35, .iconst 2, 1) rfl
theorem dX7_remains_36 : decode cX7_remains 36 = .ok (.idiv, 1) := ax_dec dX7_remains_q0_ok 22 (36, .idiv, 1) rfl
theorem dX7_remains_37 : decode cX7_remains 37 = .ok (.goto 4, 3) := ax_dec dX7_remains_q0_ok 23 (37, .goto 4, 3) rfl
theorem dX7_remains_40 : decode cX7_remains 40 = .ok (.iconst 0, 1) := ax_dec dX7_remains_q0_ok 24 (40, .iconst 0, 1) rfl
theorem dX7_remains_41 : decode cX7_remains 41 = .ok (.ireturn, 1) := ax_dec dX7_remains_q0_ok 25 (41, .ireturn, 1) rfl
def dX7_leaks_q0 : List (Nat × (Instr × Nat)) := [(0, .aload_n 0, 1), (1, .getfield 13, 3), (4, .iload_n 1, 1), (5, .iaload, 1), (6, .iconst 5, 1), (7, .if_icmp .ne 15, 3), (10, .bipush 10, 2), (12, .aload_n 0, 1), (13, .getfield 25, 3), (16, .iload_n 1, 1), (17, .iaload, 1), (18, .imul, 1), (19, .goto 4, 3), (22, .iconst 0, 1), (23, .ireturn, 1)]
set_option maxRecDepth 100000 in
theorem dX7_leaks_q0_ok : ax_decs cX7_leaks dX7_leaks_q0 = true := by decide +kernel
theorem dX7_leaks_0 : decode cX7_leaks 0 = .ok (.aload_n 0, 1) := ax_dec dX7_leaks_q0_ok 0 (0, .aload_n 0, 1) rfl
theorem dX7_leaks_1 : decode cX7_leaks 1 = .ok (.getfield 13, 3) := ax_dec dX7_leaks_q0_ok 1 (1, .getfield 13, 3) rfl
theorem dX7_leaks_4 : decode cX7_leaks 4 = .ok (.iload_n 1, 1) := ax_dec dX7_leaks_q0_ok 2 (4, .iload_n 1, 1) rfl
theorem dX7_leaks_5 : decode cX7_leaks 5 = .ok (.iaload, 1) := ax_dec dX7_leaks_q0_ok 3 (5, .iaload, 1) rfl
theorem dX7_leaks_6 : decode cX7_leaks 6 = .ok (.iconst 5, 1) := ax_dec dX7_leaks_q0_ok 4 (6, .iconst 5, 1) rfl
theorem dX7_leaks_7 : decode cX7_leaks 7 = .ok (.if_icmp .ne 15, 3) := ax_dec dX7_leaks_q0_ok 5 (7, .if_icmp .ne 15, 3) rfl
theorem dX7_leaks_10 : decode cX7_leaks 10 = .ok (.bipush 10, 2) := ax_dec dX7_leaks_q0_ok 6 (10, .bipush 10, 2) rfl
theorem dX7_leaks_12 : decode cX7_leaks 12 = .ok (.aload_n 0, 1) := ax_dec dX7_leaks_q0_ok 7 (12, .aload_n 0, 1) rfl
theorem dX7_leaks_13 : decode cX7_leaks 13 = .ok (.getfield 25, 3) := ax_dec dX7_leaks_q0_ok 8 (13, .getfield 25, 3) rfl
theorem dX7_leaks_16 : decode cX7_leaks 16 = .ok (.iload_n 1, 1) := ax_dec dX7_leaks_q0_ok 9 (16, .iload_n 1, 1) rfl
theorem dX7_leaks_17 : decode cX7_leaks 17 = .ok (.iaload, 1) := ax_dec dX7_leaks_q0_ok 10 (17, .iaload, 1) rfl
theorem dX7_leaks_18 : decode cX7_leaks 18 = .ok (.imul, 1) := ax_dec dX7_leaks_q0_ok 11 (18, .imul, 1) rfl
theorem dX7_leaks_19 : decode cX7_leaks 19 = .ok (.goto 4, 3) := ax_dec dX7_leaks_q0_ok 12 (19, .goto 4, 3) rfl
theorem dX7_leaks_22 : decode cX7_leaks 22 = .ok (.iconst 0, 1) := ax_dec dX7_leaks_q0_ok 13 (22, .iconst 0, 1) rfl
theorem dX7_leaks_23 : decode cX7_leaks 23 = .ok (.ireturn, 1) := ax_dec dX7_leaks_q0_ok 14 (23, .ireturn, 1) rfl
def dX7_isSo_q0 : List (Nat × (Instr × Nat)) := [(0, .iload_n 0, 1), (1, .iconst 0, 1), (2, .iconst 5, 1), (3, .invokestatic 87, 3), (6, .ifCond .eq 17, 3), (9, .iload_n 1, 1), (10, .iconst 0, 1), (11, .bipush 9, 2), (13, .invokestatic 87, 3), (16, .ifCond .eq 7, 3), (19, .iconst 1, 1), (20, .goto 4, 3), (23, .iconst 0, 1), (24, .ireturn, 1)]
set_option maxRecDepth 100000 in
theorem dX7_isSo_q0_ok : ax_decs cX7_isSo dX7_isSo_q0 = true := by decide +kernel
theorem dX7_isSo_0 : decode cX7_isSo 0 = .ok (.iload_n 0, 1) := ax_dec dX7_isSo_q0_ok 0 (0, .iload_n 0, 1) rfl
theorem dX7_isSo_1 : decode cX7_isSo 1 = .ok (.iconst 0, 1) := ax_dec dX7_isSo_q0_ok 1 (1, .iconst 0, 1) rfl
theorem dX7_isSo_2 : decode cX7_isSo 2 = .ok (.iconst 5, 1) := ax_dec dX7_isSo_q0_ok 2 (2, .iconst 5, 1) rfl
theorem dX7_isSo_3 : decode cX7_isSo 3 = .ok (.invokestatic 87, 3) := ax_dec dX7_isSo_q0_ok 3 (3, .invokestatic 87, 3) rfl
theorem dX7_isSo_6 : decode cX7_isSo 6 = .ok (.ifCond .eq 17, 3) := ax_dec dX7_isSo_q0_ok 4 (6, .ifCond .eq 17, 3) rfl
theorem dX7_isSo_9 : decode cX7_isSo 9 = .ok (.iload_n 1, 1) := ax_dec dX7_isSo_q0_ok 5 (9, .iload_n 1, 1) rfl
theorem dX7_isSo_10 : decode cX7_isSo 10 = .ok (.iconst 0, 1) := ax_dec dX7_isSo_q0_ok 6 (10, .iconst 0, 1) rfl
theorem dX7_isSo_11 : decode cX7_isSo 11 = .ok (.bipush 9, 2) := ax_dec dX7_isSo_q0_ok 7 (11, .bipush 9, 2) rfl
theorem dX7_isSo_13 : decode cX7_isSo 13 = .ok (.invokestatic 87, 3) := ax_dec dX7_isSo_q0_ok 8 (13, .invokestatic 87, 3) rfl
theorem dX7_isSo_16 : decode cX7_isSo 16 = .ok (.ifCond .eq 7, 3) := ax_dec dX7_isSo_q0_ok 9 (16, .ifCond .eq 7, 3) rfl
theorem dX7_isSo_19 : decode cX7_isSo 19 = .ok (.iconst 1, 1) := ax_dec dX7_isSo_q0_ok 10 (19, .iconst 1, 1) rfl
theorem dX7_isSo_20 : decode cX7_isSo 20 = .ok (.goto 4, 3) := ax_dec dX7_isSo_q0_ok 11 (20, .goto 4, 3) rfl
theorem dX7_isSo_23 : decode cX7_isSo 23 = .ok (.iconst 0, 1) := ax_dec dX7_isSo_q0_ok 12 (23, .iconst 0, 1) rfl
theorem dX7_isSo_24 : decode cX7_isSo 24 = .ok (.ireturn, 1) := ax_dec dX7_isSo_q0_ok 13 (24, .ireturn, 1) rfl
def dX7_bit_q0 : List (Nat × (Instr × Nat)) := [(0, .iload_n 1, 1), (1, .iconst (-1), 1), (2, .aload_n 0, 1), (3, .getfield 84, 3), (6, .iconst 1, 1), (7, .isub, 1), (8, .invokestatic 87, 3), (11, .ifCond .eq 38, 3), (14, .iload_n 2, 1), (15, .iconst 0, 1), (16, .iconst 5, 1), (17, .invokestatic 87, 3), (20, .ifCond .eq 29, 3), (23, .iload_n 3, 1), (24, .bipush 10, 2), (26, .bipush 69, 2), (28, .invokestatic 87, 3), (31, .ifCond .eq 18, 3), (34, .iload 4, 2), (36, .iconst 0, 1), (37, .bipush 49, 2), (39, .invokestatic 87, 3), (42, .ifCond .eq 7, 3), (45, .iconst 1, 1), (46, .goto 4, 3), (49, .iconst 0, 1), (50, .istore 5, 2), (52, .iload 5, 2), (54, .ifCond .ne 6, 3), (57, .bipush (-2), 2), (59, .ireturn, 1), (60, .aload_n 0, 1)]
set_option maxRecDepth 100000 in
theorem dX7_bit_q0_ok : ax_decs cX7_bit dX7_bit_q0 = true := by decide +kernel
theorem dX7_bit_0 : decode cX7_bit 0 = .ok (.iload_n 1, 1) := ax_dec dX7_bit_q0_ok 0 (0, .iload_n 1, 1) rfl
theorem dX7_bit_1 : decode cX7_bit 1 = .ok (.iconst (-1), 1) := ax_dec dX7_bit_q0_ok 1 (1, .iconst (-1), 1) rfl
theorem dX7_bit_2 : decode cX7_bit 2 = .ok (.aload_n 0, 1) := ax_dec dX7_bit_q0_ok 2 (2, .aload_n 0, 1) rfl
theorem dX7_bit_3 : decode cX7_bit 3 = .ok (.getfield 84, 3) := ax_dec dX7_bit_q0_ok 3 (3, .getfield 84, 3) rfl
theorem dX7_bit_6 : decode cX7_bit 6 = .ok (.iconst 1, 1) := ax_dec dX7_bit_q0_ok 4 (6, .iconst 1, 1) rfl
theorem dX7_bit_7 : decode cX7_bit 7 = .ok (.isub, 1) := ax_dec dX7_bit_q0_ok 5 (7, .isub, 1) rfl
theorem dX7_bit_8 : decode cX7_bit 8 = .ok (.invokestatic 87, 3) := ax_dec dX7_bit_q0_ok 6 (8, .invokestatic 87, 3) rfl
theorem dX7_bit_11 : decode cX7_bit 11 = .ok (.ifCond .eq 38, 3) := ax_dec dX7_bit_q0_ok 7 (11, .ifCond .eq 38, 3) rfl
theorem dX7_bit_14 : decode cX7_bit 14 = .ok (.iload_n 2, 1) := ax_dec dX7_bit_q0_ok 8 (14, .iload_n 2, 1) rfl
theorem dX7_bit_15 : decode cX7_bit 15 = .ok (.iconst 0, 1) := ax_dec dX7_bit_q0_ok 9 (15, .iconst 0, 1) rfl
theorem dX7_bit_16 : decode cX7_bit 16 = .ok (.iconst 5, 1) := ax_dec dX7_bit_q0_ok 10 (16, .iconst 5, 1) rfl
theorem dX7_bit_17 : decode cX7_bit 17 = .ok (.invokestatic 87, 3) := ax_dec dX7_bit_q0_ok 11 (17, .invokestatic 87, 3) rfl
theorem dX7_bit_20 : decode cX7_bit 20 = .ok (.ifCond .eq 29, 3) := ax_dec dX7_bit_q0_ok 12 (20, .ifCond .eq 29, 3) rfl
theorem dX7_bit_23 : decode cX7_bit 23 = .ok (.iload_n 3, 1) := ax_dec dX7_bit_q0_ok 13 (23, .iload_n 3, 1) rfl
theorem dX7_bit_24 : decode cX7_bit 24 = .ok (.bipush 10, 2) := ax_dec dX7_bit_q0_ok 14 (24, .bipush 10, 2) rfl
theorem dX7_bit_26 : decode cX7_bit 26 = .ok (.bipush 69, 2) := ax_dec dX7_bit_q0_ok 15 (26, .bipush 69, 2) rfl
theorem dX7_bit_28 : decode cX7_bit 28 = .ok (.invokestatic 87, 3) := ax_dec dX7_bit_q0_ok 16 (28, .invokestatic 87, 3) rfl
theorem dX7_bit_31 : decode cX7_bit 31 = .ok (.ifCond .eq 18, 3) := ax_dec dX7_bit_q0_ok 17 (31, .ifCond .eq 18, 3) rfl
theorem dX7_bit_34 : decode cX7_bit 34 = .ok (.iload 4, 2) := ax_dec dX7_bit_q0_ok 18 (34, .iload 4, 2) rfl
theorem dX7_bit_36 : decode cX7_bit 36 = .ok (.iconst 0, 1) := ax_dec dX7_bit_q0_ok 19 (36, .iconst 0, 1) rfl
theorem dX7_bit_37 : decode cX7_bit 37 = .ok (.bipush 49, 2) := ax_dec dX7_bit_q0_ok 20 (37, .bipush 49, 2) rfl
theorem dX7_bit_39 : decode cX7_bit 39 = .ok (.invokestatic 87, 3) := ax_dec dX7_bit_q0_ok 21 (39, .invokestatic 87, 3) rfl
theorem dX7_bit_42 : decode cX7_bit 42 = .ok (.ifCond .eq 7, 3) := ax_dec dX7_bit_q0_ok 22 (42, .ifCond .eq 7, 3) rfl
theorem dX7_bit_45 : decode cX7_bit 45 = .ok (.iconst 1, 1) := ax_dec dX7_bit_q0_ok 23 (45, .iconst 1, 1) rfl
theorem dX7_bit_46 : decode cX7_bit 46 = .ok (.goto 4, 3) := ax_dec dX7_bit_q0_ok 24 (46, .goto 4, 3) rfl
theorem dX7_bit_49 : decode cX7_bit 49 = .ok (.iconst 0, 1) := ax_dec dX7_bit_q0_ok 25 (49, .iconst 0, 1) rfl
theorem dX7_bit_50 : decode cX7_bit 50 = .ok (.istore 5, 2) := ax_dec dX7_bit_q0_ok 26 (50, .istore 5, 2) rfl
theorem dX7_bit_52 : decode cX7_bit 52 = .ok (.iload 5, 2) := ax_dec dX7_bit_q0_ok 27 (52, .iload 5, 2) rfl
theorem dX7_bit_54 : decode cX7_bit 54 = .ok (.ifCond .ne 6, 3) := ax_dec dX7_bit_q0_ok 28 (54, .ifCond .ne 6, 3) rfl
theorem dX7_bit_57 : decode cX7_bit 57 = .ok (.bipush (-2), 2) := ax_dec dX7_bit_q0_ok 29 (57, .bipush (-2), 2) rfl
theorem dX7_bit_59 : decode cX7_bit 59 = .ok (.ireturn, 1) := ax_dec dX7_bit_q0_ok 30 (59, .ireturn, 1) rfl
theorem dX7_bit_60 : decode cX7_bit 60 = .ok (.aload_n 0, 1) := ax_dec dX7_bit_q0_ok 31 (60, .aload_n 0, 1) rfl
def dX7_bit_q1 : List (Nat × (Instr × Nat)) := [(61, .getfield 84, 3), (64, .bipush 10, 2), (66, .if_icmp .ne 6, 3), (69, .bipush (-4), 2), (71, .ireturn, 1), (72, .aload_n 0, 1), (73, .getfield 7, 3), (76, .aload_n 0, 1), (77, .getfield 84, 3), (80, .iload_n 1, 1), (81, .iastore, 1), (82, .aload_n 0, 1), (83, .getfield 13, 3), (86, .aload_n 0, 1), (87, .getfield 84, 3), (90, .iload_n 2, 1), (91, .iastore, 1), (92, .aload_n 0, 1), (93, .getfield 16, 3), (96, .aload_n 0, 1), (97, .getfield 84, 3), (100, .iload_n 3, 1), (101, .bipush 10, 2), (103, .idiv, 1), (104, .iastore, 1), (105, .aload_n 0, 1), (106, .getfield 19, 3), (109, .aload_n 0, 1), (110, .getfield 84, 3), (113, .iload_n 3, 1), (114, .bipush 10, 2), (116, .irem, 1)]
set_option maxRecDepth 100000 in
theorem dX7_bit_q1_ok : ax_decs cX7_bit dX7_bit_q1 = true := by decide +kernel
theorem dX7_bit_61 : decode cX7_bit 61 = .ok (.getfield 84, 3) := ax_dec dX7_bit_q1_ok 0 (61, .getfield 84, 3) rfl
theorem dX7_bit_64 : decode cX7_bit 64 = .ok (.bipush 10, 2) := ax_dec dX7_bit_q1_ok 1 (64, .bipush 10, 2) rfl
theorem dX7_bit_66 : decode cX7_bit 66 = .ok (.if_icmp .ne 6, 3) := ax_dec dX7_bit_q1_ok 2 (66, .if_icmp .ne 6, 3) rfl
theorem dX7_bit_69 : decode cX7_bit 69 = .ok (.bipush (-4), 2) := ax_dec dX7_bit_q1_ok 3 (69, .bipush (-4), 2) rfl
theorem dX7_bit_71 : decode cX7_bit 71 = .ok (.ireturn, 1) := ax_dec dX7_bit_q1_ok 4 (71, .ireturn, 1) rfl
theorem dX7_bit_72 : decode cX7_bit 72 = .ok (.aload_n 0, 1) := ax_dec dX7_bit_q1_ok 5 (72, .aload_n 0, 1) rfl
theorem dX7_bit_73 : decode cX7_bit 73 = .ok (.getfield 7, 3) := ax_dec dX7_bit_q1_ok 6 (73, .getfield 7, 3) rfl
theorem dX7_bit_76 : decode cX7_bit 76 = .ok (.aload_n 0, 1) := ax_dec dX7_bit_q1_ok 7 (76, .aload_n 0, 1) rfl
theorem dX7_bit_77 : decode cX7_bit 77 = .ok (.getfield 84, 3) := ax_dec dX7_bit_q1_ok 8 (77, .getfield 84, 3) rfl
theorem dX7_bit_80 : decode cX7_bit 80 = .ok (.iload_n 1, 1) := ax_dec dX7_bit_q1_ok 9 (80, .iload_n 1, 1) rfl
theorem dX7_bit_81 : decode cX7_bit 81 = .ok (.iastore, 1) := ax_dec dX7_bit_q1_ok 10 (81, .iastore, 1) rfl
theorem dX7_bit_82 : decode cX7_bit 82 = .ok (.aload_n 0, 1) := ax_dec dX7_bit_q1_ok 11 (82, .aload_n 0, 1) rfl
theorem dX7_bit_83 : decode cX7_bit 83 = .ok (.getfield 13, 3) := ax_dec dX7_bit_q1_ok 12 (83, .getfield 13, 3) rfl
theorem dX7_bit_86 : decode cX7_bit 86 = .ok (.aload_n 0, 1) := ax_dec dX7_bit_q1_ok 13 (86, .aload_n 0, 1) rfl
theorem dX7_bit_87 : decode cX7_bit 87 = .ok (.getfield 84, 3) := ax_dec dX7_bit_q1_ok 14 (87, .getfield 84, 3) rfl
theorem dX7_bit_90 : decode cX7_bit 90 = .ok (.iload_n 2, 1) := ax_dec dX7_bit_q1_ok 15 (90, .iload_n 2, 1) rfl
theorem dX7_bit_91 : decode cX7_bit 91 = .ok (.iastore, 1) := ax_dec dX7_bit_q1_ok 16 (91, .iastore, 1) rfl
theorem dX7_bit_92 : decode cX7_bit 92 = .ok (.aload_n 0, 1) := ax_dec dX7_bit_q1_ok 17 (92, .aload_n 0, 1) rfl
theorem dX7_bit_93 : decode cX7_bit 93 = .ok (.getfield 16, 3) := ax_dec dX7_bit_q1_ok 18 (93, .getfield 16, 3) rfl
theorem dX7_bit_96 : decode cX7_bit 96 = .ok (.aload_n 0, 1) := ax_dec dX7_bit_q1_ok 19 (96, .aload_n 0, 1) rfl
theorem dX7_bit_97 : decode cX7_bit 97 = .ok (.getfield 84, 3) := ax_dec dX7_bit_q1_ok 20 (97, .getfield 84, 3) rfl
theorem dX7_bit_100 : decode cX7_bit 100 = .ok (.iload_n 3, 1) := ax_dec dX7_bit_q1_ok 21 (100, .iload_n 3, 1) rfl
theorem dX7_bit_101 : decode cX7_bit 101 = .ok (.bipush 10, 2) := ax_dec dX7_bit_q1_ok 22 (101, .bipush 10, 2) rfl
theorem dX7_bit_103 : decode cX7_bit 103 = .ok (.idiv, 1) := ax_dec dX7_bit_q1_ok 23 (103, .idiv, 1) rfl
theorem dX7_bit_104 : decode cX7_bit 104 = .ok (.iastore, 1) := ax_dec dX7_bit_q1_ok 24 (104, .iastore, 1) rfl
theorem dX7_bit_105 : decode cX7_bit 105 = .ok (.aload_n 0, 1) := ax_dec dX7_bit_q1_ok 25 (105, .aload_n 0, 1) rfl
theorem dX7_bit_106 : decode cX7_bit 106 = .ok (.getfield 19, 3) := ax_dec dX7_bit_q1_ok 26 (106, .getfield 19, 3) rfl
theorem dX7_bit_109 : decode cX7_bit 109 = .ok (.aload_n 0, 1) := ax_dec dX7_bit_q1_ok 27 (109, .aload_n 0, 1) rfl
theorem dX7_bit_110 : decode cX7_bit 110 = .ok (.getfield 84, 3) := ax_dec dX7_bit_q1_ok 28 (110, .getfield 84, 3) rfl
theorem dX7_bit_113 : decode cX7_bit 113 = .ok (.iload_n 3, 1) := ax_dec dX7_bit_q1_ok 29 (113, .iload_n 3, 1) rfl
theorem dX7_bit_114 : decode cX7_bit 114 = .ok (.bipush 10, 2) := ax_dec dX7_bit_q1_ok 30 (114, .bipush 10, 2) rfl
theorem dX7_bit_116 : decode cX7_bit 116 = .ok (.irem, 1) := ax_dec dX7_bit_q1_ok 31 (116, .irem, 1) rfl
def dX7_bit_q2 : List (Nat × (Instr × Nat)) := [(117, .iastore, 1), (118, .aload_n 0, 1), (119, .getfield 22, 3), (122, .aload_n 0, 1), (123, .getfield 84, 3), (126, .iload 4, 2), (128, .bipush 10, 2), (130, .idiv, 1), (131, .iastore, 1), (132, .aload_n 0, 1), (133, .getfield 25, 3), (136, .aload_n 0, 1), (137, .getfield 84, 3), (140, .iload 4, 2), (142, .bipush 10, 2), (144, .irem, 1), (145, .iastore, 1), (146, .aload_n 0, 1), (147, .getfield 28, 3), (150, .aload_n 0, 1), (151, .getfield 84, 3), (154, .iconst 0, 1), (155, .iastore, 1), (156, .aload_n 0, 1), (157, .dup, 1), (158, .getfield 84, 3), (161, .iconst 1, 1), (162, .iadd, 1), (163, .putfield 84, 3), (166, .aload_n 0, 1), (167, .getfield 84, 3), (170, .iconst 1, 1)]
set_option maxRecDepth 100000 in
theorem dX7_bit_q2_ok : ax_decs cX7_bit dX7_bit_q2 = true := by decide +kernel
theorem dX7_bit_117 : decode cX7_bit 117 = .ok (.iastore, 1) := ax_dec dX7_bit_q2_ok 0 (117, .iastore, 1) rfl
theorem dX7_bit_118 : decode cX7_bit 118 = .ok (.aload_n 0, 1) := ax_dec dX7_bit_q2_ok 1 (118, .aload_n 0, 1) rfl
theorem dX7_bit_119 : decode cX7_bit 119 = .ok (.getfield 22, 3) := ax_dec dX7_bit_q2_ok 2 (119, .getfield 22, 3) rfl
theorem dX7_bit_122 : decode cX7_bit 122 = .ok (.aload_n 0, 1) := ax_dec dX7_bit_q2_ok 3 (122, .aload_n 0, 1) rfl
theorem dX7_bit_123 : decode cX7_bit 123 = .ok (.getfield 84, 3) := ax_dec dX7_bit_q2_ok 4 (123, .getfield 84, 3) rfl
theorem dX7_bit_126 : decode cX7_bit 126 = .ok (.iload 4, 2) := ax_dec dX7_bit_q2_ok 5 (126, .iload 4, 2) rfl
theorem dX7_bit_128 : decode cX7_bit 128 = .ok (.bipush 10, 2) := ax_dec dX7_bit_q2_ok 6 (128, .bipush 10, 2) rfl
theorem dX7_bit_130 : decode cX7_bit 130 = .ok (.idiv, 1) := ax_dec dX7_bit_q2_ok 7 (130, .idiv, 1) rfl
theorem dX7_bit_131 : decode cX7_bit 131 = .ok (.iastore, 1) := ax_dec dX7_bit_q2_ok 8 (131, .iastore, 1) rfl
theorem dX7_bit_132 : decode cX7_bit 132 = .ok (.aload_n 0, 1) := ax_dec dX7_bit_q2_ok 9 (132, .aload_n 0, 1) rfl
theorem dX7_bit_133 : decode cX7_bit 133 = .ok (.getfield 25, 3) := ax_dec dX7_bit_q2_ok 10 (133, .getfield 25, 3) rfl
theorem dX7_bit_136 : decode cX7_bit 136 = .ok (.aload_n 0, 1) := ax_dec dX7_bit_q2_ok 11 (136, .aload_n 0, 1) rfl
theorem dX7_bit_137 : decode cX7_bit 137 = .ok (.getfield 84, 3) := ax_dec dX7_bit_q2_ok 12 (137, .getfield 84, 3) rfl
theorem dX7_bit_140 : decode cX7_bit 140 = .ok (.iload 4, 2) := ax_dec dX7_bit_q2_ok 13 (140, .iload 4, 2) rfl
theorem dX7_bit_142 : decode cX7_bit 142 = .ok (.bipush 10, 2) := ax_dec dX7_bit_q2_ok 14 (142, .bipush 10, 2) rfl
theorem dX7_bit_144 : decode cX7_bit 144 = .ok (.irem, 1) := ax_dec dX7_bit_q2_ok 15 (144, .irem, 1) rfl
theorem dX7_bit_145 : decode cX7_bit 145 = .ok (.iastore, 1) := ax_dec dX7_bit_q2_ok 16 (145, .iastore, 1) rfl
theorem dX7_bit_146 : decode cX7_bit 146 = .ok (.aload_n 0, 1) := ax_dec dX7_bit_q2_ok 17 (146, .aload_n 0, 1) rfl
theorem dX7_bit_147 : decode cX7_bit 147 = .ok (.getfield 28, 3) := ax_dec dX7_bit_q2_ok 18 (147, .getfield 28, 3) rfl
theorem dX7_bit_150 : decode cX7_bit 150 = .ok (.aload_n 0, 1) := ax_dec dX7_bit_q2_ok 19 (150, .aload_n 0, 1) rfl
theorem dX7_bit_151 : decode cX7_bit 151 = .ok (.getfield 84, 3) := ax_dec dX7_bit_q2_ok 20 (151, .getfield 84, 3) rfl
theorem dX7_bit_154 : decode cX7_bit 154 = .ok (.iconst 0, 1) := ax_dec dX7_bit_q2_ok 21 (154, .iconst 0, 1) rfl
theorem dX7_bit_155 : decode cX7_bit 155 = .ok (.iastore, 1) := ax_dec dX7_bit_q2_ok 22 (155, .iastore, 1) rfl
theorem dX7_bit_156 : decode cX7_bit 156 = .ok (.aload_n 0, 1) := ax_dec dX7_bit_q2_ok 23 (156, .aload_n 0, 1) rfl
theorem dX7_bit_157 : decode cX7_bit 157 = .ok (.dup, 1) := ax_dec dX7_bit_q2_ok 24 (157, .dup, 1) rfl
theorem dX7_bit_158 : decode cX7_bit 158 = .ok (.getfield 84, 3) := ax_dec dX7_bit_q2_ok 25 (158, .getfield 84, 3) rfl
theorem dX7_bit_161 : decode cX7_bit 161 = .ok (.iconst 1, 1) := ax_dec dX7_bit_q2_ok 26 (161, .iconst 1, 1) rfl
theorem dX7_bit_162 : decode cX7_bit 162 = .ok (.iadd, 1) := ax_dec dX7_bit_q2_ok 27 (162, .iadd, 1) rfl
theorem dX7_bit_163 : decode cX7_bit 163 = .ok (.putfield 84, 3) := ax_dec dX7_bit_q2_ok 28 (163, .putfield 84, 3) rfl
theorem dX7_bit_166 : decode cX7_bit 166 = .ok (.aload_n 0, 1) := ax_dec dX7_bit_q2_ok 29 (166, .aload_n 0, 1) rfl
theorem dX7_bit_167 : decode cX7_bit 167 = .ok (.getfield 84, 3) := ax_dec dX7_bit_q2_ok 30 (167, .getfield 84, 3) rfl
theorem dX7_bit_170 : decode cX7_bit 170 = .ok (.iconst 1, 1) := ax_dec dX7_bit_q2_ok 31 (170, .iconst 1, 1) rfl
def dX7_bit_q3 : List (Nat × (Instr × Nat)) := [(171, .isub, 1), (172, .ireturn, 1)]
set_option maxRecDepth 100000 in
theorem dX7_bit_q3_ok : ax_decs cX7_bit dX7_bit_q3 = true := by decide +kernel
theorem dX7_bit_171 : decode cX7_bit 171 = .ok (.isub, 1) := ax_dec dX7_bit_q3_ok 0 (171, .isub, 1) rfl
theorem dX7_bit_172 : decode cX7_bit 172 = .ok (.ireturn, 1) := ax_dec dX7_bit_q3_ok 1 (172, .ireturn, 1) rfl
def dX7_mend_q0 : List (Nat × (Instr × Nat)) := [(0, .aload_n 0, 1), (1, .iload_n 1, 1), (2, .invokevirtual 91, 3), (5, .ifCond .ne 6, 3), (8, .bipush (-5), 2), (10, .ireturn, 1), (11, .iload_n 2, 1), (12, .iload_n 3, 1), (13, .invokestatic 189, 3), (16, .ifCond .ne 6, 3), (19, .bipush (-7), 2), (21, .ireturn, 1), (22, .aload_n 0, 1), (23, .getfield 13, 3), (26, .iload_n 1, 1), (27, .iaload, 1), (28, .istore 4, 2), (30, .aload_n 0, 1), (31, .getfield 13, 3), (34, .iload_n 1, 1), (35, .iload_n 2, 1), (36, .iastore, 1), (37, .aload_n 0, 1), (38, .getfield 25, 3), (41, .iload_n 1, 1), (42, .iload_n 3, 1), (43, .iastore, 1), (44, .iload 4, 2), (46, .ireturn, 1)]
set_option maxRecDepth 100000 in
theorem dX7_mend_q0_ok : ax_decs cX7_mend dX7_mend_q0 = true := by decide +kernel
theorem dX7_mend_0 : decode cX7_mend 0 = .ok (.aload_n 0, 1) := ax_dec dX7_mend_q0_ok 0 (0, .aload_n 0, 1) rfl
theorem dX7_mend_1 : decode cX7_mend 1 = .ok (.iload_n 1, 1) := ax_dec dX7_mend_q0_ok 1 (1, .iload_n 1, 1) rfl
theorem dX7_mend_2 : decode cX7_mend 2 = .ok (.invokevirtual 91, 3) := ax_dec dX7_mend_q0_ok 2 (2, .invokevirtual 91, 3) rfl
theorem dX7_mend_5 : decode cX7_mend 5 = .ok (.ifCond .ne 6, 3) := ax_dec dX7_mend_q0_ok 3 (5, .ifCond .ne 6, 3) rfl
theorem dX7_mend_8 : decode cX7_mend 8 = .ok (.bipush (-5), 2) := ax_dec dX7_mend_q0_ok 4 (8, .bipush (-5), 2) rfl
theorem dX7_mend_10 : decode cX7_mend 10 = .ok (.ireturn, 1) := ax_dec dX7_mend_q0_ok 5 (10, .ireturn, 1) rfl
theorem dX7_mend_11 : decode cX7_mend 11 = .ok (.iload_n 2, 1) := ax_dec dX7_mend_q0_ok 6 (11, .iload_n 2, 1) rfl
theorem dX7_mend_12 : decode cX7_mend 12 = .ok (.iload_n 3, 1) := ax_dec dX7_mend_q0_ok 7 (12, .iload_n 3, 1) rfl
theorem dX7_mend_13 : decode cX7_mend 13 = .ok (.invokestatic 189, 3) := ax_dec dX7_mend_q0_ok 8 (13, .invokestatic 189, 3) rfl
theorem dX7_mend_16 : decode cX7_mend 16 = .ok (.ifCond .ne 6, 3) := ax_dec dX7_mend_q0_ok 9 (16, .ifCond .ne 6, 3) rfl
theorem dX7_mend_19 : decode cX7_mend 19 = .ok (.bipush (-7), 2) := ax_dec dX7_mend_q0_ok 10 (19, .bipush (-7), 2) rfl
theorem dX7_mend_21 : decode cX7_mend 21 = .ok (.ireturn, 1) := ax_dec dX7_mend_q0_ok 11 (21, .ireturn, 1) rfl
theorem dX7_mend_22 : decode cX7_mend 22 = .ok (.aload_n 0, 1) := ax_dec dX7_mend_q0_ok 12 (22, .aload_n 0, 1) rfl
theorem dX7_mend_23 : decode cX7_mend 23 = .ok (.getfield 13, 3) := ax_dec dX7_mend_q0_ok 13 (23, .getfield 13, 3) rfl
theorem dX7_mend_26 : decode cX7_mend 26 = .ok (.iload_n 1, 1) := ax_dec dX7_mend_q0_ok 14 (26, .iload_n 1, 1) rfl
theorem dX7_mend_27 : decode cX7_mend 27 = .ok (.iaload, 1) := ax_dec dX7_mend_q0_ok 15 (27, .iaload, 1) rfl
theorem dX7_mend_28 : decode cX7_mend 28 = .ok (.istore 4, 2) := ax_dec dX7_mend_q0_ok 16 (28, .istore 4, 2) rfl
theorem dX7_mend_30 : decode cX7_mend 30 = .ok (.aload_n 0, 1) := ax_dec dX7_mend_q0_ok 17 (30, .aload_n 0, 1) rfl
theorem dX7_mend_31 : decode cX7_mend 31 = .ok (.getfield 13, 3) := ax_dec dX7_mend_q0_ok 18 (31, .getfield 13, 3) rfl
theorem dX7_mend_34 : decode cX7_mend 34 = .ok (.iload_n 1, 1) := ax_dec dX7_mend_q0_ok 19 (34, .iload_n 1, 1) rfl
theorem dX7_mend_35 : decode cX7_mend 35 = .ok (.iload_n 2, 1) := ax_dec dX7_mend_q0_ok 20 (35, .iload_n 2, 1) rfl
theorem dX7_mend_36 : decode cX7_mend 36 = .ok (.iastore, 1) := ax_dec dX7_mend_q0_ok 21 (36, .iastore, 1) rfl
theorem dX7_mend_37 : decode cX7_mend 37 = .ok (.aload_n 0, 1) := ax_dec dX7_mend_q0_ok 22 (37, .aload_n 0, 1) rfl
theorem dX7_mend_38 : decode cX7_mend 38 = .ok (.getfield 25, 3) := ax_dec dX7_mend_q0_ok 23 (38, .getfield 25, 3) rfl
theorem dX7_mend_41 : decode cX7_mend 41 = .ok (.iload_n 1, 1) := ax_dec dX7_mend_q0_ok 24 (41, .iload_n 1, 1) rfl
theorem dX7_mend_42 : decode cX7_mend 42 = .ok (.iload_n 3, 1) := ax_dec dX7_mend_q0_ok 25 (42, .iload_n 3, 1) rfl
theorem dX7_mend_43 : decode cX7_mend 43 = .ok (.iastore, 1) := ax_dec dX7_mend_q0_ok 26 (43, .iastore, 1) rfl
theorem dX7_mend_44 : decode cX7_mend 44 = .ok (.iload 4, 2) := ax_dec dX7_mend_q0_ok 27 (44, .iload 4, 2) rfl
theorem dX7_mend_46 : decode cX7_mend 46 = .ok (.ireturn, 1) := ax_dec dX7_mend_q0_ok 28 (46, .ireturn, 1) rfl
def dX7_lay_q0 : List (Nat × (Instr × Nat)) := [(0, .aload_n 0, 1), (1, .iload_n 1, 1), (2, .invokevirtual 91, 3), (5, .ifCond .ne 6, 3), (8, .bipush (-5), 2), (10, .ireturn, 1), (11, .iload_n 2, 1), (12, .iconst 0, 1), (13, .bipush 99, 2), (15, .invokestatic 87, 3), (18, .ifCond .ne 6, 3), (21, .bipush (-7), 2), (23, .ireturn, 1), (24, .aload_n 0, 1), (25, .getfield 28, 3), (28, .iload_n 1, 1), (29, .iaload, 1), (30, .istore_n 3, 1), (31, .aload_n 0, 1), (32, .getfield 28, 3), (35, .iload_n 1, 1), (36, .iload_n 2, 1), (37, .iastore, 1), (38, .iload_n 3, 1), (39, .ireturn, 1)]
set_option maxRecDepth 100000 in
theorem dX7_lay_q0_ok : ax_decs cX7_lay dX7_lay_q0 = true := by decide +kernel
theorem dX7_lay_0 : decode cX7_lay 0 = .ok (.aload_n 0, 1) := ax_dec dX7_lay_q0_ok 0 (0, .aload_n 0, 1) rfl
theorem dX7_lay_1 : decode cX7_lay 1 = .ok (.iload_n 1, 1) := ax_dec dX7_lay_q0_ok 1 (1, .iload_n 1, 1) rfl
theorem dX7_lay_2 : decode cX7_lay 2 = .ok (.invokevirtual 91, 3) := ax_dec dX7_lay_q0_ok 2 (2, .invokevirtual 91, 3) rfl
theorem dX7_lay_5 : decode cX7_lay 5 = .ok (.ifCond .ne 6, 3) := ax_dec dX7_lay_q0_ok 3 (5, .ifCond .ne 6, 3) rfl
theorem dX7_lay_8 : decode cX7_lay 8 = .ok (.bipush (-5), 2) := ax_dec dX7_lay_q0_ok 4 (8, .bipush (-5), 2) rfl
theorem dX7_lay_10 : decode cX7_lay 10 = .ok (.ireturn, 1) := ax_dec dX7_lay_q0_ok 5 (10, .ireturn, 1) rfl
theorem dX7_lay_11 : decode cX7_lay 11 = .ok (.iload_n 2, 1) := ax_dec dX7_lay_q0_ok 6 (11, .iload_n 2, 1) rfl
theorem dX7_lay_12 : decode cX7_lay 12 = .ok (.iconst 0, 1) := ax_dec dX7_lay_q0_ok 7 (12, .iconst 0, 1) rfl
theorem dX7_lay_13 : decode cX7_lay 13 = .ok (.bipush 99, 2) := ax_dec dX7_lay_q0_ok 8 (13, .bipush 99, 2) rfl
theorem dX7_lay_15 : decode cX7_lay 15 = .ok (.invokestatic 87, 3) := ax_dec dX7_lay_q0_ok 9 (15, .invokestatic 87, 3) rfl
theorem dX7_lay_18 : decode cX7_lay 18 = .ok (.ifCond .ne 6, 3) := ax_dec dX7_lay_q0_ok 10 (18, .ifCond .ne 6, 3) rfl
theorem dX7_lay_21 : decode cX7_lay 21 = .ok (.bipush (-7), 2) := ax_dec dX7_lay_q0_ok 11 (21, .bipush (-7), 2) rfl
theorem dX7_lay_23 : decode cX7_lay 23 = .ok (.ireturn, 1) := ax_dec dX7_lay_q0_ok 12 (23, .ireturn, 1) rfl
theorem dX7_lay_24 : decode cX7_lay 24 = .ok (.aload_n 0, 1) := ax_dec dX7_lay_q0_ok 13 (24, .aload_n 0, 1) rfl
theorem dX7_lay_25 : decode cX7_lay 25 = .ok (.getfield 28, 3) := ax_dec dX7_lay_q0_ok 14 (25, .getfield 28, 3) rfl
theorem dX7_lay_28 : decode cX7_lay 28 = .ok (.iload_n 1, 1) := ax_dec dX7_lay_q0_ok 15 (28, .iload_n 1, 1) rfl
theorem dX7_lay_29 : decode cX7_lay 29 = .ok (.iaload, 1) := ax_dec dX7_lay_q0_ok 16 (29, .iaload, 1) rfl
theorem dX7_lay_30 : decode cX7_lay 30 = .ok (.istore_n 3, 1) := ax_dec dX7_lay_q0_ok 17 (30, .istore_n 3, 1) rfl
theorem dX7_lay_31 : decode cX7_lay 31 = .ok (.aload_n 0, 1) := ax_dec dX7_lay_q0_ok 18 (31, .aload_n 0, 1) rfl
theorem dX7_lay_32 : decode cX7_lay 32 = .ok (.getfield 28, 3) := ax_dec dX7_lay_q0_ok 19 (32, .getfield 28, 3) rfl
theorem dX7_lay_35 : decode cX7_lay 35 = .ok (.iload_n 1, 1) := ax_dec dX7_lay_q0_ok 20 (35, .iload_n 1, 1) rfl
theorem dX7_lay_36 : decode cX7_lay 36 = .ok (.iload_n 2, 1) := ax_dec dX7_lay_q0_ok 21 (36, .iload_n 2, 1) rfl
theorem dX7_lay_37 : decode cX7_lay 37 = .ok (.iastore, 1) := ax_dec dX7_lay_q0_ok 22 (37, .iastore, 1) rfl
theorem dX7_lay_38 : decode cX7_lay 38 = .ok (.iload_n 3, 1) := ax_dec dX7_lay_q0_ok 23 (38, .iload_n 3, 1) rfl
theorem dX7_lay_39 : decode cX7_lay 39 = .ok (.ireturn, 1) := ax_dec dX7_lay_q0_ok 24 (39, .ireturn, 1) rfl
def dX7_told_q0 : List (Nat × (Instr × Nat)) := [(0, .aload_n 0, 1), (1, .iload_n 1, 1), (2, .invokevirtual 91, 3), (5, .ifCond .ne 6, 3), (8, .bipush (-5), 2), (10, .ireturn, 1), (11, .iload_n 2, 1), (12, .tableswitch 113 0 8 #[52, 59, 66, 73, 80, 87, 94, 101, 107], 52), (64, .aload_n 0, 1), (65, .getfield 13, 3), (68, .iload_n 1, 1), (69, .iaload, 1), (70, .ireturn, 1), (71, .aload_n 0, 1), (72, .getfield 7, 3), (75, .iload_n 1, 1), (76, .iaload, 1), (77, .ireturn, 1), (78, .aload_n 0, 1), (79, .getfield 16, 3), (82, .iload_n 1, 1), (83, .iaload, 1), (84, .ireturn, 1), (85, .aload_n 0, 1), (86, .getfield 19, 3), (89, .iload_n 1, 1), (90, .iaload, 1), (91, .ireturn, 1), (92, .aload_n 0, 1), (93, .getfield 22, 3), (96, .iload_n 1, 1), (97, .iaload, 1)]
set_option maxRecDepth 100000 in
theorem dX7_told_q0_ok : ax_decs cX7_told dX7_told_q0 = true := by decide +kernel
theorem dX7_told_0 : decode cX7_told 0 = .ok (.aload_n 0, 1) := ax_dec dX7_told_q0_ok 0 (0, .aload_n 0, 1) rfl
theorem dX7_told_1 : decode cX7_told 1 = .ok (.iload_n 1, 1) := ax_dec dX7_told_q0_ok 1 (1, .iload_n 1, 1) rfl
theorem dX7_told_2 : decode cX7_told 2 = .ok (.invokevirtual 91, 3) := ax_dec dX7_told_q0_ok 2 (2, .invokevirtual 91, 3) rfl
theorem dX7_told_5 : decode cX7_told 5 = .ok (.ifCond .ne 6, 3) := ax_dec dX7_told_q0_ok 3 (5, .ifCond .ne 6, 3) rfl
theorem dX7_told_8 : decode cX7_told 8 = .ok (.bipush (-5), 2) := ax_dec dX7_told_q0_ok 4 (8, .bipush (-5), 2) rfl
theorem dX7_told_10 : decode cX7_told 10 = .ok (.ireturn, 1) := ax_dec dX7_told_q0_ok 5 (10, .ireturn, 1) rfl
theorem dX7_told_11 : decode cX7_told 11 = .ok (.iload_n 2, 1) := ax_dec dX7_told_q0_ok 6 (11, .iload_n 2, 1) rfl
theorem dX7_told_12 : decode cX7_told 12 = .ok (.tableswitch 113 0 8 #[52, 59, 66, 73, 80, 87, 94, 101, 107], 52) := ax_dec dX7_told_q0_ok 7 (12, .tableswitch 113 0 8 #[52, 59, 66, 73, 80, 87, 94, 101, 107], 52) rfl
theorem dX7_told_64 : decode cX7_told 64 = .ok (.aload_n 0, 1) := ax_dec dX7_told_q0_ok 8 (64, .aload_n 0, 1) rfl
theorem dX7_told_65 : decode cX7_told 65 = .ok (.getfield 13, 3) := ax_dec dX7_told_q0_ok 9 (65, .getfield 13, 3) rfl
theorem dX7_told_68 : decode cX7_told 68 = .ok (.iload_n 1, 1) := ax_dec dX7_told_q0_ok 10 (68, .iload_n 1, 1) rfl
theorem dX7_told_69 : decode cX7_told 69 = .ok (.iaload, 1) := ax_dec dX7_told_q0_ok 11 (69, .iaload, 1) rfl
theorem dX7_told_70 : decode cX7_told 70 = .ok (.ireturn, 1) := ax_dec dX7_told_q0_ok 12 (70, .ireturn, 1) rfl
theorem dX7_told_71 : decode cX7_told 71 = .ok (.aload_n 0, 1) := ax_dec dX7_told_q0_ok 13 (71, .aload_n 0, 1) rfl
theorem dX7_told_72 : decode cX7_told 72 = .ok (.getfield 7, 3) := ax_dec dX7_told_q0_ok 14 (72, .getfield 7, 3) rfl
theorem dX7_told_75 : decode cX7_told 75 = .ok (.iload_n 1, 1) := ax_dec dX7_told_q0_ok 15 (75, .iload_n 1, 1) rfl
theorem dX7_told_76 : decode cX7_told 76 = .ok (.iaload, 1) := ax_dec dX7_told_q0_ok 16 (76, .iaload, 1) rfl
theorem dX7_told_77 : decode cX7_told 77 = .ok (.ireturn, 1) := ax_dec dX7_told_q0_ok 17 (77, .ireturn, 1) rfl
theorem dX7_told_78 : decode cX7_told 78 = .ok (.aload_n 0, 1) := ax_dec dX7_told_q0_ok 18 (78, .aload_n 0, 1) rfl
theorem dX7_told_79 : decode cX7_told 79 = .ok (.getfield 16, 3) := ax_dec dX7_told_q0_ok 19 (79, .getfield 16, 3) rfl
theorem dX7_told_82 : decode cX7_told 82 = .ok (.iload_n 1, 1) := ax_dec dX7_told_q0_ok 20 (82, .iload_n 1, 1) rfl
theorem dX7_told_83 : decode cX7_told 83 = .ok (.iaload, 1) := ax_dec dX7_told_q0_ok 21 (83, .iaload, 1) rfl
theorem dX7_told_84 : decode cX7_told 84 = .ok (.ireturn, 1) := ax_dec dX7_told_q0_ok 22 (84, .ireturn, 1) rfl
theorem dX7_told_85 : decode cX7_told 85 = .ok (.aload_n 0, 1) := ax_dec dX7_told_q0_ok 23 (85, .aload_n 0, 1) rfl
theorem dX7_told_86 : decode cX7_told 86 = .ok (.getfield 19, 3) := ax_dec dX7_told_q0_ok 24 (86, .getfield 19, 3) rfl
theorem dX7_told_89 : decode cX7_told 89 = .ok (.iload_n 1, 1) := ax_dec dX7_told_q0_ok 25 (89, .iload_n 1, 1) rfl
theorem dX7_told_90 : decode cX7_told 90 = .ok (.iaload, 1) := ax_dec dX7_told_q0_ok 26 (90, .iaload, 1) rfl
theorem dX7_told_91 : decode cX7_told 91 = .ok (.ireturn, 1) := ax_dec dX7_told_q0_ok 27 (91, .ireturn, 1) rfl
theorem dX7_told_92 : decode cX7_told 92 = .ok (.aload_n 0, 1) := ax_dec dX7_told_q0_ok 28 (92, .aload_n 0, 1) rfl
theorem dX7_told_93 : decode cX7_told 93 = .ok (.getfield 22, 3) := ax_dec dX7_told_q0_ok 29 (93, .getfield 22, 3) rfl
theorem dX7_told_96 : decode cX7_told 96 = .ok (.iload_n 1, 1) := ax_dec dX7_told_q0_ok 30 (96, .iload_n 1, 1) rfl
theorem dX7_told_97 : decode cX7_told 97 = .ok (.iaload, 1) := ax_dec dX7_told_q0_ok 31 (97, .iaload, 1) rfl
def dX7_told_q1 : List (Nat × (Instr × Nat)) := [(98, .ireturn, 1), (99, .aload_n 0, 1), (100, .getfield 25, 3), (103, .iload_n 1, 1), (104, .iaload, 1), (105, .ireturn, 1), (106, .aload_n 0, 1), (107, .getfield 28, 3), (110, .iload_n 1, 1), (111, .iaload, 1), (112, .ireturn, 1), (113, .aload_n 0, 1), (114, .iload_n 1, 1), (115, .invokevirtual 179, 3), (118, .ireturn, 1), (119, .aload_n 0, 1), (120, .iload_n 1, 1), (121, .invokevirtual 193, 3), (124, .ireturn, 1), (125, .bipush (-7), 2), (127, .ireturn, 1)]
set_option maxRecDepth 100000 in
theorem dX7_told_q1_ok : ax_decs cX7_told dX7_told_q1 = true := by decide +kernel
theorem dX7_told_98 : decode cX7_told 98 = .ok (.ireturn, 1) := ax_dec dX7_told_q1_ok 0 (98, .ireturn, 1) rfl
theorem dX7_told_99 : decode cX7_told 99 = .ok (.aload_n 0, 1) := ax_dec dX7_told_q1_ok 1 (99, .aload_n 0, 1) rfl
theorem dX7_told_100 : decode cX7_told 100 = .ok (.getfield 25, 3) := ax_dec dX7_told_q1_ok 2 (100, .getfield 25, 3) rfl
theorem dX7_told_103 : decode cX7_told 103 = .ok (.iload_n 1, 1) := ax_dec dX7_told_q1_ok 3 (103, .iload_n 1, 1) rfl
theorem dX7_told_104 : decode cX7_told 104 = .ok (.iaload, 1) := ax_dec dX7_told_q1_ok 4 (104, .iaload, 1) rfl
theorem dX7_told_105 : decode cX7_told 105 = .ok (.ireturn, 1) := ax_dec dX7_told_q1_ok 5 (105, .ireturn, 1) rfl
theorem dX7_told_106 : decode cX7_told 106 = .ok (.aload_n 0, 1) := ax_dec dX7_told_q1_ok 6 (106, .aload_n 0, 1) rfl
theorem dX7_told_107 : decode cX7_told 107 = .ok (.getfield 28, 3) := ax_dec dX7_told_q1_ok 7 (107, .getfield 28, 3) rfl
theorem dX7_told_110 : decode cX7_told 110 = .ok (.iload_n 1, 1) := ax_dec dX7_told_q1_ok 8 (110, .iload_n 1, 1) rfl
theorem dX7_told_111 : decode cX7_told 111 = .ok (.iaload, 1) := ax_dec dX7_told_q1_ok 9 (111, .iaload, 1) rfl
theorem dX7_told_112 : decode cX7_told 112 = .ok (.ireturn, 1) := ax_dec dX7_told_q1_ok 10 (112, .ireturn, 1) rfl
theorem dX7_told_113 : decode cX7_told 113 = .ok (.aload_n 0, 1) := ax_dec dX7_told_q1_ok 11 (113, .aload_n 0, 1) rfl
theorem dX7_told_114 : decode cX7_told 114 = .ok (.iload_n 1, 1) := ax_dec dX7_told_q1_ok 12 (114, .iload_n 1, 1) rfl
theorem dX7_told_115 : decode cX7_told 115 = .ok (.invokevirtual 179, 3) := ax_dec dX7_told_q1_ok 13 (115, .invokevirtual 179, 3) rfl
theorem dX7_told_118 : decode cX7_told 118 = .ok (.ireturn, 1) := ax_dec dX7_told_q1_ok 14 (118, .ireturn, 1) rfl
theorem dX7_told_119 : decode cX7_told 119 = .ok (.aload_n 0, 1) := ax_dec dX7_told_q1_ok 15 (119, .aload_n 0, 1) rfl
theorem dX7_told_120 : decode cX7_told 120 = .ok (.iload_n 1, 1) := ax_dec dX7_told_q1_ok 16 (120, .iload_n 1, 1) rfl
theorem dX7_told_121 : decode cX7_told 121 = .ok (.invokevirtual 193, 3) := ax_dec dX7_told_q1_ok 17 (121, .invokevirtual 193, 3) rfl
theorem dX7_told_124 : decode cX7_told 124 = .ok (.ireturn, 1) := ax_dec dX7_told_q1_ok 18 (124, .ireturn, 1) rfl
theorem dX7_told_125 : decode cX7_told 125 = .ok (.bipush (-7), 2) := ax_dec dX7_told_q1_ok 19 (125, .bipush (-7), 2) rfl
theorem dX7_told_127 : decode cX7_told 127 = .ok (.ireturn, 1) := ax_dec dX7_told_q1_ok 20 (127, .ireturn, 1) rfl
def dX7_all_q0 : List (Nat × (Instr × Nat)) := [(0, .iload_n 1, 1), (1, .iconst 0, 1), (2, .iconst 1, 1), (3, .invokestatic 87, 3), (6, .ifCond .eq 11, 3), (9, .aload_n 0, 1), (10, .iload_n 1, 1), (11, .invokevirtual 101, 3), (14, .goto 5, 3), (17, .bipush (-2), 2), (19, .ireturn, 1)]
set_option maxRecDepth 100000 in
theorem dX7_all_q0_ok : ax_decs cX7_all dX7_all_q0 = true := by decide +kernel
theorem dX7_all_0 : decode cX7_all 0 = .ok (.iload_n 1, 1) := ax_dec dX7_all_q0_ok 0 (0, .iload_n 1, 1) rfl
theorem dX7_all_1 : decode cX7_all 1 = .ok (.iconst 0, 1) := ax_dec dX7_all_q0_ok 1 (1, .iconst 0, 1) rfl
theorem dX7_all_2 : decode cX7_all 2 = .ok (.iconst 1, 1) := ax_dec dX7_all_q0_ok 2 (2, .iconst 1, 1) rfl
theorem dX7_all_3 : decode cX7_all 3 = .ok (.invokestatic 87, 3) := ax_dec dX7_all_q0_ok 3 (3, .invokestatic 87, 3) rfl
theorem dX7_all_6 : decode cX7_all 6 = .ok (.ifCond .eq 11, 3) := ax_dec dX7_all_q0_ok 4 (6, .ifCond .eq 11, 3) rfl
theorem dX7_all_9 : decode cX7_all 9 = .ok (.aload_n 0, 1) := ax_dec dX7_all_q0_ok 5 (9, .aload_n 0, 1) rfl
theorem dX7_all_10 : decode cX7_all 10 = .ok (.iload_n 1, 1) := ax_dec dX7_all_q0_ok 6 (10, .iload_n 1, 1) rfl
theorem dX7_all_11 : decode cX7_all 11 = .ok (.invokevirtual 101, 3) := ax_dec dX7_all_q0_ok 7 (11, .invokevirtual 101, 3) rfl
theorem dX7_all_14 : decode cX7_all 14 = .ok (.goto 5, 3) := ax_dec dX7_all_q0_ok 8 (14, .goto 5, 3) rfl
theorem dX7_all_17 : decode cX7_all 17 = .ok (.bipush (-2), 2) := ax_dec dX7_all_q0_ok 9 (17, .bipush (-2), 2) rfl
theorem dX7_all_19 : decode cX7_all 19 = .ok (.ireturn, 1) := ax_dec dX7_all_q0_ok 10 (19, .ireturn, 1) rfl
def dX7_flueOf_q0 : List (Nat × (Instr × Nat)) := [(0, .iconst 0, 1), (1, .istore_n 2, 1), (2, .iload_n 1, 1), (3, .istore_n 3, 1), (4, .iload_n 3, 1), (5, .iconst (-1), 1), (6, .if_icmp .eq 19, 3), (9, .iload_n 2, 1), (10, .iconst 1, 1), (11, .iload_n 3, 1), (12, .ishl, 1), (13, .ior, 1), (14, .istore_n 2, 1), (15, .aload_n 0, 1), (16, .getfield 7, 3), (19, .iload_n 3, 1), (20, .iaload, 1), (21, .istore_n 3, 1), (22, .goto (-18), 3), (25, .iload_n 2, 1), (26, .ireturn, 1)]
set_option maxRecDepth 100000 in
theorem dX7_flueOf_q0_ok : ax_decs cX7_flueOf dX7_flueOf_q0 = true := by decide +kernel
theorem dX7_flueOf_0 : decode cX7_flueOf 0 = .ok (.iconst 0, 1) := ax_dec dX7_flueOf_q0_ok 0 (0, .iconst 0, 1) rfl
theorem dX7_flueOf_1 : decode cX7_flueOf 1 = .ok (.istore_n 2, 1) := ax_dec dX7_flueOf_q0_ok 1 (1, .istore_n 2, 1) rfl
theorem dX7_flueOf_2 : decode cX7_flueOf 2 = .ok (.iload_n 1, 1) := ax_dec dX7_flueOf_q0_ok 2 (2, .iload_n 1, 1) rfl
theorem dX7_flueOf_3 : decode cX7_flueOf 3 = .ok (.istore_n 3, 1) := ax_dec dX7_flueOf_q0_ok 3 (3, .istore_n 3, 1) rfl
theorem dX7_flueOf_4 : decode cX7_flueOf 4 = .ok (.iload_n 3, 1) := ax_dec dX7_flueOf_q0_ok 4 (4, .iload_n 3, 1) rfl
theorem dX7_flueOf_5 : decode cX7_flueOf 5 = .ok (.iconst (-1), 1) := ax_dec dX7_flueOf_q0_ok 5 (5, .iconst (-1), 1) rfl
theorem dX7_flueOf_6 : decode cX7_flueOf 6 = .ok (.if_icmp .eq 19, 3) := ax_dec dX7_flueOf_q0_ok 6 (6, .if_icmp .eq 19, 3) rfl
theorem dX7_flueOf_9 : decode cX7_flueOf 9 = .ok (.iload_n 2, 1) := ax_dec dX7_flueOf_q0_ok 7 (9, .iload_n 2, 1) rfl
theorem dX7_flueOf_10 : decode cX7_flueOf 10 = .ok (.iconst 1, 1) := ax_dec dX7_flueOf_q0_ok 8 (10, .iconst 1, 1) rfl
theorem dX7_flueOf_11 : decode cX7_flueOf 11 = .ok (.iload_n 3, 1) := ax_dec dX7_flueOf_q0_ok 9 (11, .iload_n 3, 1) rfl
theorem dX7_flueOf_12 : decode cX7_flueOf 12 = .ok (.ishl, 1) := ax_dec dX7_flueOf_q0_ok 10 (12, .ishl, 1) rfl
theorem dX7_flueOf_13 : decode cX7_flueOf 13 = .ok (.ior, 1) := ax_dec dX7_flueOf_q0_ok 11 (13, .ior, 1) rfl
theorem dX7_flueOf_14 : decode cX7_flueOf 14 = .ok (.istore_n 2, 1) := ax_dec dX7_flueOf_q0_ok 12 (14, .istore_n 2, 1) rfl
theorem dX7_flueOf_15 : decode cX7_flueOf 15 = .ok (.aload_n 0, 1) := ax_dec dX7_flueOf_q0_ok 13 (15, .aload_n 0, 1) rfl
theorem dX7_flueOf_16 : decode cX7_flueOf 16 = .ok (.getfield 7, 3) := ax_dec dX7_flueOf_q0_ok 14 (16, .getfield 7, 3) rfl
theorem dX7_flueOf_19 : decode cX7_flueOf 19 = .ok (.iload_n 3, 1) := ax_dec dX7_flueOf_q0_ok 15 (19, .iload_n 3, 1) rfl
theorem dX7_flueOf_20 : decode cX7_flueOf 20 = .ok (.iaload, 1) := ax_dec dX7_flueOf_q0_ok 16 (20, .iaload, 1) rfl
theorem dX7_flueOf_21 : decode cX7_flueOf 21 = .ok (.istore_n 3, 1) := ax_dec dX7_flueOf_q0_ok 17 (21, .istore_n 3, 1) rfl
theorem dX7_flueOf_22 : decode cX7_flueOf 22 = .ok (.goto (-18), 3) := ax_dec dX7_flueOf_q0_ok 18 (22, .goto (-18), 3) rfl
theorem dX7_flueOf_25 : decode cX7_flueOf 25 = .ok (.iload_n 2, 1) := ax_dec dX7_flueOf_q0_ok 19 (25, .iload_n 2, 1) rfl
theorem dX7_flueOf_26 : decode cX7_flueOf 26 = .ok (.ireturn, 1) := ax_dec dX7_flueOf_q0_ok 20 (26, .ireturn, 1) rfl
def dX7_lastOf_q0 : List (Nat × (Instr × Nat)) := [(0, .iload_n 1, 1), (1, .istore_n 2, 1), (2, .aload_n 0, 1), (3, .getfield 7, 3), (6, .iload_n 2, 1), (7, .iaload, 1), (8, .iconst (-1), 1), (9, .if_icmp .eq 13, 3), (12, .aload_n 0, 1), (13, .getfield 7, 3), (16, .iload_n 2, 1), (17, .iaload, 1), (18, .istore_n 2, 1), (19, .goto (-17), 3), (22, .iload_n 2, 1), (23, .ireturn, 1)]
set_option maxRecDepth 100000 in
theorem dX7_lastOf_q0_ok : ax_decs cX7_lastOf dX7_lastOf_q0 = true := by decide +kernel
theorem dX7_lastOf_0 : decode cX7_lastOf 0 = .ok (.iload_n 1, 1) := ax_dec dX7_lastOf_q0_ok 0 (0, .iload_n 1, 1) rfl
theorem dX7_lastOf_1 : decode cX7_lastOf 1 = .ok (.istore_n 2, 1) := ax_dec dX7_lastOf_q0_ok 1 (1, .istore_n 2, 1) rfl
theorem dX7_lastOf_2 : decode cX7_lastOf 2 = .ok (.aload_n 0, 1) := ax_dec dX7_lastOf_q0_ok 2 (2, .aload_n 0, 1) rfl
theorem dX7_lastOf_3 : decode cX7_lastOf 3 = .ok (.getfield 7, 3) := ax_dec dX7_lastOf_q0_ok 3 (3, .getfield 7, 3) rfl
theorem dX7_lastOf_6 : decode cX7_lastOf 6 = .ok (.iload_n 2, 1) := ax_dec dX7_lastOf_q0_ok 4 (6, .iload_n 2, 1) rfl
theorem dX7_lastOf_7 : decode cX7_lastOf 7 = .ok (.iaload, 1) := ax_dec dX7_lastOf_q0_ok 5 (7, .iaload, 1) rfl
theorem dX7_lastOf_8 : decode cX7_lastOf 8 = .ok (.iconst (-1), 1) := ax_dec dX7_lastOf_q0_ok 6 (8, .iconst (-1), 1) rfl
theorem dX7_lastOf_9 : decode cX7_lastOf 9 = .ok (.if_icmp .eq 13, 3) := ax_dec dX7_lastOf_q0_ok 7 (9, .if_icmp .eq 13, 3) rfl
theorem dX7_lastOf_12 : decode cX7_lastOf 12 = .ok (.aload_n 0, 1) := ax_dec dX7_lastOf_q0_ok 8 (12, .aload_n 0, 1) rfl
theorem dX7_lastOf_13 : decode cX7_lastOf 13 = .ok (.getfield 7, 3) := ax_dec dX7_lastOf_q0_ok 9 (13, .getfield 7, 3) rfl
theorem dX7_lastOf_16 : decode cX7_lastOf 16 = .ok (.iload_n 2, 1) := ax_dec dX7_lastOf_q0_ok 10 (16, .iload_n 2, 1) rfl
theorem dX7_lastOf_17 : decode cX7_lastOf 17 = .ok (.iaload, 1) := ax_dec dX7_lastOf_q0_ok 11 (17, .iaload, 1) rfl
theorem dX7_lastOf_18 : decode cX7_lastOf 18 = .ok (.istore_n 2, 1) := ax_dec dX7_lastOf_q0_ok 12 (18, .istore_n 2, 1) rfl
theorem dX7_lastOf_19 : decode cX7_lastOf 19 = .ok (.goto (-17), 3) := ax_dec dX7_lastOf_q0_ok 13 (19, .goto (-17), 3) rfl
theorem dX7_lastOf_22 : decode cX7_lastOf 22 = .ok (.iload_n 2, 1) := ax_dec dX7_lastOf_q0_ok 14 (22, .iload_n 2, 1) rfl
theorem dX7_lastOf_23 : decode cX7_lastOf 23 = .ok (.ireturn, 1) := ax_dec dX7_lastOf_q0_ok 15 (23, .ireturn, 1) rfl
def dX7_rodsOf_q0 : List (Nat × (Instr × Nat)) := [(0, .iconst 0, 1), (1, .istore_n 2, 1), (2, .iload_n 1, 1), (3, .istore_n 3, 1), (4, .iload_n 3, 1), (5, .iconst (-1), 1), (6, .if_icmp .eq 22, 3), (9, .iload_n 2, 1), (10, .aload_n 0, 1), (11, .getfield 16, 3), (14, .iload_n 3, 1), (15, .iaload, 1), (16, .iadd, 1), (17, .istore_n 2, 1), (18, .aload_n 0, 1), (19, .getfield 7, 3), (22, .iload_n 3, 1), (23, .iaload, 1), (24, .istore_n 3, 1), (25, .goto (-21), 3), (28, .iload_n 2, 1), (29, .ireturn, 1)]
set_option maxRecDepth 100000 in
theorem dX7_rodsOf_q0_ok : ax_decs cX7_rodsOf dX7_rodsOf_q0 = true := by decide +kernel
theorem dX7_rodsOf_0 : decode cX7_rodsOf 0 = .ok (.iconst 0, 1) := ax_dec dX7_rodsOf_q0_ok 0 (0, .iconst 0, 1) rfl
theorem dX7_rodsOf_1 : decode cX7_rodsOf 1 = .ok (.istore_n 2, 1) := ax_dec dX7_rodsOf_q0_ok 1 (1, .istore_n 2, 1) rfl
theorem dX7_rodsOf_2 : decode cX7_rodsOf 2 = .ok (.iload_n 1, 1) := ax_dec dX7_rodsOf_q0_ok 2 (2, .iload_n 1, 1) rfl
theorem dX7_rodsOf_3 : decode cX7_rodsOf 3 = .ok (.istore_n 3, 1) := ax_dec dX7_rodsOf_q0_ok 3 (3, .istore_n 3, 1) rfl
theorem dX7_rodsOf_4 : decode cX7_rodsOf 4 = .ok (.iload_n 3, 1) := ax_dec dX7_rodsOf_q0_ok 4 (4, .iload_n 3, 1) rfl
theorem dX7_rodsOf_5 : decode cX7_rodsOf 5 = .ok (.iconst (-1), 1) := ax_dec dX7_rodsOf_q0_ok 5 (5, .iconst (-1), 1) rfl
theorem dX7_rodsOf_6 : decode cX7_rodsOf 6 = .ok (.if_icmp .eq 22, 3) := ax_dec dX7_rodsOf_q0_ok 6 (6, .if_icmp .eq 22, 3) rfl
theorem dX7_rodsOf_9 : decode cX7_rodsOf 9 = .ok (.iload_n 2, 1) := ax_dec dX7_rodsOf_q0_ok 7 (9, .iload_n 2, 1) rfl
theorem dX7_rodsOf_10 : decode cX7_rodsOf 10 = .ok (.aload_n 0, 1) := ax_dec dX7_rodsOf_q0_ok 8 (10, .aload_n 0, 1) rfl
theorem dX7_rodsOf_11 : decode cX7_rodsOf 11 = .ok (.getfield 16, 3) := ax_dec dX7_rodsOf_q0_ok 9 (11, .getfield 16, 3) rfl
theorem dX7_rodsOf_14 : decode cX7_rodsOf 14 = .ok (.iload_n 3, 1) := ax_dec dX7_rodsOf_q0_ok 10 (14, .iload_n 3, 1) rfl
theorem dX7_rodsOf_15 : decode cX7_rodsOf 15 = .ok (.iaload, 1) := ax_dec dX7_rodsOf_q0_ok 11 (15, .iaload, 1) rfl
theorem dX7_rodsOf_16 : decode cX7_rodsOf 16 = .ok (.iadd, 1) := ax_dec dX7_rodsOf_q0_ok 12 (16, .iadd, 1) rfl
theorem dX7_rodsOf_17 : decode cX7_rodsOf 17 = .ok (.istore_n 2, 1) := ax_dec dX7_rodsOf_q0_ok 13 (17, .istore_n 2, 1) rfl
theorem dX7_rodsOf_18 : decode cX7_rodsOf 18 = .ok (.aload_n 0, 1) := ax_dec dX7_rodsOf_q0_ok 14 (18, .aload_n 0, 1) rfl
theorem dX7_rodsOf_19 : decode cX7_rodsOf 19 = .ok (.getfield 7, 3) := ax_dec dX7_rodsOf_q0_ok 15 (19, .getfield 7, 3) rfl
theorem dX7_rodsOf_22 : decode cX7_rodsOf 22 = .ok (.iload_n 3, 1) := ax_dec dX7_rodsOf_q0_ok 16 (22, .iload_n 3, 1) rfl
theorem dX7_rodsOf_23 : decode cX7_rodsOf 23 = .ok (.iaload, 1) := ax_dec dX7_rodsOf_q0_ok 17 (23, .iaload, 1) rfl
theorem dX7_rodsOf_24 : decode cX7_rodsOf 24 = .ok (.istore_n 3, 1) := ax_dec dX7_rodsOf_q0_ok 18 (24, .istore_n 3, 1) rfl
theorem dX7_rodsOf_25 : decode cX7_rodsOf 25 = .ok (.goto (-21), 3) := ax_dec dX7_rodsOf_q0_ok 19 (25, .goto (-21), 3) rfl
theorem dX7_rodsOf_28 : decode cX7_rodsOf 28 = .ok (.iload_n 2, 1) := ax_dec dX7_rodsOf_q0_ok 20 (28, .iload_n 2, 1) rfl
theorem dX7_rodsOf_29 : decode cX7_rodsOf 29 = .ok (.ireturn, 1) := ax_dec dX7_rodsOf_q0_ok 21 (29, .ireturn, 1) rfl
def dX7_fireplacesOf_q0 : List (Nat × (Instr × Nat)) := [(0, .iconst 0, 1), (1, .istore_n 2, 1), (2, .iconst 0, 1), (3, .istore_n 3, 1), (4, .iload_n 3, 1), (5, .aload_n 0, 1), (6, .getfield 84, 3), (9, .if_icmp .ge 40, 3), (12, .iload_n 2, 1), (13, .aload_n 0, 1), (14, .iload_n 3, 1), (15, .invokevirtual 95, 3), (18, .ifCond .eq 22, 3), (21, .aload_n 0, 1), (22, .iload_n 3, 1), (23, .invokevirtual 196, 3), (26, .iload_n 1, 1), (27, .ishr, 1), (28, .iconst 1, 1), (29, .iand, 1), (30, .iconst 1, 1), (31, .if_icmp .ne 9, 3), (34, .iconst 1, 1), (35, .iload_n 3, 1), (36, .ishl, 1), (37, .goto 4, 3), (40, .iconst 0, 1), (41, .ior, 1), (42, .istore_n 2, 1), (43, .iinc 3 1, 3), (46, .goto (-42), 3), (49, .iload_n 2, 1)]
set_option maxRecDepth 100000 in
theorem dX7_fireplacesOf_q0_ok : ax_decs cX7_fireplacesOf dX7_fireplacesOf_q0 = true := by decide +kernel
theorem dX7_fireplacesOf_0 : decode cX7_fireplacesOf 0 = .ok (.iconst 0, 1) := ax_dec dX7_fireplacesOf_q0_ok 0 (0, .iconst 0, 1) rfl
theorem dX7_fireplacesOf_1 : decode cX7_fireplacesOf 1 = .ok (.istore_n 2, 1) := ax_dec dX7_fireplacesOf_q0_ok 1 (1, .istore_n 2, 1) rfl
theorem dX7_fireplacesOf_2 : decode cX7_fireplacesOf 2 = .ok (.iconst 0, 1) := ax_dec dX7_fireplacesOf_q0_ok 2 (2, .iconst 0, 1) rfl
theorem dX7_fireplacesOf_3 : decode cX7_fireplacesOf 3 = .ok (.istore_n 3, 1) := ax_dec dX7_fireplacesOf_q0_ok 3 (3, .istore_n 3, 1) rfl
theorem dX7_fireplacesOf_4 : decode cX7_fireplacesOf 4 = .ok (.iload_n 3, 1) := ax_dec dX7_fireplacesOf_q0_ok 4 (4, .iload_n 3, 1) rfl
theorem dX7_fireplacesOf_5 : decode cX7_fireplacesOf 5 = .ok (.aload_n 0, 1) := ax_dec dX7_fireplacesOf_q0_ok 5 (5, .aload_n 0, 1) rfl
theorem dX7_fireplacesOf_6 : decode cX7_fireplacesOf 6 = .ok (.getfield 84, 3) := ax_dec dX7_fireplacesOf_q0_ok 6 (6, .getfield 84, 3) rfl
theorem dX7_fireplacesOf_9 : decode cX7_fireplacesOf 9 = .ok (.if_icmp .ge 40, 3) := ax_dec dX7_fireplacesOf_q0_ok 7 (9, .if_icmp .ge 40, 3) rfl
theorem dX7_fireplacesOf_12 : decode cX7_fireplacesOf 12 = .ok (.iload_n 2, 1) := ax_dec dX7_fireplacesOf_q0_ok 8 (12, .iload_n 2, 1) rfl
theorem dX7_fireplacesOf_13 : decode cX7_fireplacesOf 13 = .ok (.aload_n 0, 1) := ax_dec dX7_fireplacesOf_q0_ok 9 (13, .aload_n 0, 1) rfl
theorem dX7_fireplacesOf_14 : decode cX7_fireplacesOf 14 = .ok (.iload_n 3, 1) := ax_dec dX7_fireplacesOf_q0_ok 10 (14, .iload_n 3, 1) rfl
theorem dX7_fireplacesOf_15 : decode cX7_fireplacesOf 15 = .ok (.invokevirtual 95, 3) := ax_dec dX7_fireplacesOf_q0_ok 11 (15, .invokevirtual 95, 3) rfl
theorem dX7_fireplacesOf_18 : decode cX7_fireplacesOf 18 = .ok (.ifCond .eq 22, 3) := ax_dec dX7_fireplacesOf_q0_ok 12 (18, .ifCond .eq 22, 3) rfl
theorem dX7_fireplacesOf_21 : decode cX7_fireplacesOf 21 = .ok (.aload_n 0, 1) := ax_dec dX7_fireplacesOf_q0_ok 13 (21, .aload_n 0, 1) rfl
theorem dX7_fireplacesOf_22 : decode cX7_fireplacesOf 22 = .ok (.iload_n 3, 1) := ax_dec dX7_fireplacesOf_q0_ok 14 (22, .iload_n 3, 1) rfl
theorem dX7_fireplacesOf_23 : decode cX7_fireplacesOf 23 = .ok (.invokevirtual 196, 3) := ax_dec dX7_fireplacesOf_q0_ok 15 (23, .invokevirtual 196, 3) rfl
theorem dX7_fireplacesOf_26 : decode cX7_fireplacesOf 26 = .ok (.iload_n 1, 1) := ax_dec dX7_fireplacesOf_q0_ok 16 (26, .iload_n 1, 1) rfl
theorem dX7_fireplacesOf_27 : decode cX7_fireplacesOf 27 = .ok (.ishr, 1) := ax_dec dX7_fireplacesOf_q0_ok 17 (27, .ishr, 1) rfl
theorem dX7_fireplacesOf_28 : decode cX7_fireplacesOf 28 = .ok (.iconst 1, 1) := ax_dec dX7_fireplacesOf_q0_ok 18 (28, .iconst 1, 1) rfl
theorem dX7_fireplacesOf_29 : decode cX7_fireplacesOf 29 = .ok (.iand, 1) := ax_dec dX7_fireplacesOf_q0_ok 19 (29, .iand, 1) rfl
theorem dX7_fireplacesOf_30 : decode cX7_fireplacesOf 30 = .ok (.iconst 1, 1) := ax_dec dX7_fireplacesOf_q0_ok 20 (30, .iconst 1, 1) rfl
theorem dX7_fireplacesOf_31 : decode cX7_fireplacesOf 31 = .ok (.if_icmp .ne 9, 3) := ax_dec dX7_fireplacesOf_q0_ok 21 (31, .if_icmp .ne 9, 3) rfl
theorem dX7_fireplacesOf_34 : decode cX7_fireplacesOf 34 = .ok (.iconst 1, 1) := ax_dec dX7_fireplacesOf_q0_ok 22 (34, .iconst 1, 1) rfl
theorem dX7_fireplacesOf_35 : decode cX7_fireplacesOf 35 = .ok (.iload_n 3, 1) := ax_dec dX7_fireplacesOf_q0_ok 23 (35, .iload_n 3, 1) rfl
theorem dX7_fireplacesOf_36 : decode cX7_fireplacesOf 36 = .ok (.ishl, 1) := ax_dec dX7_fireplacesOf_q0_ok 24 (36, .ishl, 1) rfl
theorem dX7_fireplacesOf_37 : decode cX7_fireplacesOf 37 = .ok (.goto 4, 3) := ax_dec dX7_fireplacesOf_q0_ok 25 (37, .goto 4, 3) rfl
theorem dX7_fireplacesOf_40 : decode cX7_fireplacesOf 40 = .ok (.iconst 0, 1) := ax_dec dX7_fireplacesOf_q0_ok 26 (40, .iconst 0, 1) rfl
theorem dX7_fireplacesOf_41 : decode cX7_fireplacesOf 41 = .ok (.ior, 1) := ax_dec dX7_fireplacesOf_q0_ok 27 (41, .ior, 1) rfl
theorem dX7_fireplacesOf_42 : decode cX7_fireplacesOf 42 = .ok (.istore_n 2, 1) := ax_dec dX7_fireplacesOf_q0_ok 28 (42, .istore_n 2, 1) rfl
theorem dX7_fireplacesOf_43 : decode cX7_fireplacesOf 43 = .ok (.iinc 3 1, 3) := ax_dec dX7_fireplacesOf_q0_ok 29 (43, .iinc 3 1, 3) rfl
theorem dX7_fireplacesOf_46 : decode cX7_fireplacesOf 46 = .ok (.goto (-42), 3) := ax_dec dX7_fireplacesOf_q0_ok 30 (46, .goto (-42), 3) rfl
theorem dX7_fireplacesOf_49 : decode cX7_fireplacesOf 49 = .ok (.iload_n 2, 1) := ax_dec dX7_fireplacesOf_q0_ok 31 (49, .iload_n 2, 1) rfl
def dX7_fireplacesOf_q1 : List (Nat × (Instr × Nat)) := [(50, .ireturn, 1)]
set_option maxRecDepth 100000 in
theorem dX7_fireplacesOf_q1_ok : ax_decs cX7_fireplacesOf dX7_fireplacesOf_q1 = true := by decide +kernel
theorem dX7_fireplacesOf_50 : decode cX7_fireplacesOf 50 = .ok (.ireturn, 1) := ax_dec dX7_fireplacesOf_q1_ok 0 (50, .ireturn, 1) rfl
def dX7_flue_q0 : List (Nat × (Instr × Nat)) := [(0, .aload_n 0, 1), (1, .iload_n 1, 1), (2, .invokevirtual 91, 3), (5, .ifCond .ne 6, 3), (8, .bipush (-5), 2), (10, .ireturn, 1), (11, .iload_n 2, 1), (12, .tableswitch 56 0 3 #[32, 38, 44, 50], 32), (44, .aload_n 0, 1), (45, .iload_n 1, 1), (46, .invokevirtual 199, 3), (49, .ireturn, 1), (50, .aload_n 0, 1), (51, .iload_n 1, 1), (52, .invokevirtual 196, 3), (55, .ireturn, 1), (56, .aload_n 0, 1), (57, .iload_n 1, 1), (58, .invokevirtual 202, 3), (61, .ireturn, 1), (62, .aload_n 0, 1), (63, .iload_n 1, 1), (64, .invokevirtual 205, 3), (67, .ireturn, 1), (68, .bipush (-7), 2), (70, .ireturn, 1)]
set_option maxRecDepth 100000 in
theorem dX7_flue_q0_ok : ax_decs cX7_flue dX7_flue_q0 = true := by decide +kernel
theorem dX7_flue_0 : decode cX7_flue 0 = .ok (.aload_n 0, 1) := ax_dec dX7_flue_q0_ok 0 (0, .aload_n 0, 1) rfl
theorem dX7_flue_1 : decode cX7_flue 1 = .ok (.iload_n 1, 1) := ax_dec dX7_flue_q0_ok 1 (1, .iload_n 1, 1) rfl
theorem dX7_flue_2 : decode cX7_flue 2 = .ok (.invokevirtual 91, 3) := ax_dec dX7_flue_q0_ok 2 (2, .invokevirtual 91, 3) rfl
theorem dX7_flue_5 : decode cX7_flue 5 = .ok (.ifCond .ne 6, 3) := ax_dec dX7_flue_q0_ok 3 (5, .ifCond .ne 6, 3) rfl
theorem dX7_flue_8 : decode cX7_flue 8 = .ok (.bipush (-5), 2) := ax_dec dX7_flue_q0_ok 4 (8, .bipush (-5), 2) rfl
theorem dX7_flue_10 : decode cX7_flue 10 = .ok (.ireturn, 1) := ax_dec dX7_flue_q0_ok 5 (10, .ireturn, 1) rfl
theorem dX7_flue_11 : decode cX7_flue 11 = .ok (.iload_n 2, 1) := ax_dec dX7_flue_q0_ok 6 (11, .iload_n 2, 1) rfl
theorem dX7_flue_12 : decode cX7_flue 12 = .ok (.tableswitch 56 0 3 #[32, 38, 44, 50], 32) := ax_dec dX7_flue_q0_ok 7 (12, .tableswitch 56 0 3 #[32, 38, 44, 50], 32) rfl
theorem dX7_flue_44 : decode cX7_flue 44 = .ok (.aload_n 0, 1) := ax_dec dX7_flue_q0_ok 8 (44, .aload_n 0, 1) rfl
theorem dX7_flue_45 : decode cX7_flue 45 = .ok (.iload_n 1, 1) := ax_dec dX7_flue_q0_ok 9 (45, .iload_n 1, 1) rfl
theorem dX7_flue_46 : decode cX7_flue 46 = .ok (.invokevirtual 199, 3) := ax_dec dX7_flue_q0_ok 10 (46, .invokevirtual 199, 3) rfl
theorem dX7_flue_49 : decode cX7_flue 49 = .ok (.ireturn, 1) := ax_dec dX7_flue_q0_ok 11 (49, .ireturn, 1) rfl
theorem dX7_flue_50 : decode cX7_flue 50 = .ok (.aload_n 0, 1) := ax_dec dX7_flue_q0_ok 12 (50, .aload_n 0, 1) rfl
theorem dX7_flue_51 : decode cX7_flue 51 = .ok (.iload_n 1, 1) := ax_dec dX7_flue_q0_ok 13 (51, .iload_n 1, 1) rfl
theorem dX7_flue_52 : decode cX7_flue 52 = .ok (.invokevirtual 196, 3) := ax_dec dX7_flue_q0_ok 14 (52, .invokevirtual 196, 3) rfl
theorem dX7_flue_55 : decode cX7_flue 55 = .ok (.ireturn, 1) := ax_dec dX7_flue_q0_ok 15 (55, .ireturn, 1) rfl
theorem dX7_flue_56 : decode cX7_flue 56 = .ok (.aload_n 0, 1) := ax_dec dX7_flue_q0_ok 16 (56, .aload_n 0, 1) rfl
theorem dX7_flue_57 : decode cX7_flue 57 = .ok (.iload_n 1, 1) := ax_dec dX7_flue_q0_ok 17 (57, .iload_n 1, 1) rfl
theorem dX7_flue_58 : decode cX7_flue 58 = .ok (.invokevirtual 202, 3) := ax_dec dX7_flue_q0_ok 18 (58, .invokevirtual 202, 3) rfl
theorem dX7_flue_61 : decode cX7_flue 61 = .ok (.ireturn, 1) := ax_dec dX7_flue_q0_ok 19 (61, .ireturn, 1) rfl
theorem dX7_flue_62 : decode cX7_flue 62 = .ok (.aload_n 0, 1) := ax_dec dX7_flue_q0_ok 20 (62, .aload_n 0, 1) rfl
theorem dX7_flue_63 : decode cX7_flue 63 = .ok (.iload_n 1, 1) := ax_dec dX7_flue_q0_ok 21 (63, .iload_n 1, 1) rfl
theorem dX7_flue_64 : decode cX7_flue 64 = .ok (.invokevirtual 205, 3) := ax_dec dX7_flue_q0_ok 22 (64, .invokevirtual 205, 3) rfl
theorem dX7_flue_67 : decode cX7_flue 67 = .ok (.ireturn, 1) := ax_dec dX7_flue_q0_ok 23 (67, .ireturn, 1) rfl
theorem dX7_flue_68 : decode cX7_flue 68 = .ok (.bipush (-7), 2) := ax_dec dX7_flue_q0_ok 24 (68, .bipush (-7), 2) rfl
theorem dX7_flue_70 : decode cX7_flue 70 = .ok (.ireturn, 1) := ax_dec dX7_flue_q0_ok 25 (70, .ireturn, 1) rfl
def dX7_join_q0 : List (Nat × (Instr × Nat)) := [(0, .aload_n 0, 1), (1, .iload_n 1, 1), (2, .invokevirtual 91, 3), (5, .ifCond .eq 11, 3), (8, .aload_n 0, 1), (9, .iload_n 2, 1), (10, .invokevirtual 91, 3), (13, .ifCond .ne 6, 3), (16, .bipush (-5), 2), (18, .ireturn, 1), (19, .aload_n 0, 1), (20, .iload_n 2, 1), (21, .invokevirtual 196, 3), (24, .istore_n 3, 1), (25, .iload_n 1, 1), (26, .istore 4, 2), (28, .iload 4, 2), (30, .iconst (-1), 1), (31, .if_icmp .eq 24, 3), (34, .iload_n 3, 1), (35, .iload 4, 2), (37, .ishr, 1), (38, .iconst 1, 1), (39, .iand, 1), (40, .ifCond .ne 15, 3), (43, .aload_n 0, 1), (44, .getfield 7, 3), (47, .iload 4, 2), (49, .iaload, 1), (50, .istore 4, 2), (52, .goto (-24), 3), (55, .iload 4, 2)]
set_option maxRecDepth 100000 in
theorem dX7_join_q0_ok : ax_decs cX7_join dX7_join_q0 = true := by decide +kernel
theorem dX7_join_0 : decode cX7_join 0 = .ok (.aload_n 0, 1) := ax_dec dX7_join_q0_ok 0 (0, .aload_n 0, 1) rfl
theorem dX7_join_1 : decode cX7_join 1 = .ok (.iload_n 1, 1) := ax_dec dX7_join_q0_ok 1 (1, .iload_n 1, 1) rfl
theorem dX7_join_2 : decode cX7_join 2 = .ok (.invokevirtual 91, 3) := ax_dec dX7_join_q0_ok 2 (2, .invokevirtual 91, 3) rfl
theorem dX7_join_5 : decode cX7_join 5 = .ok (.ifCond .eq 11, 3) := ax_dec dX7_join_q0_ok 3 (5, .ifCond .eq 11, 3) rfl
theorem dX7_join_8 : decode cX7_join 8 = .ok (.aload_n 0, 1) := ax_dec dX7_join_q0_ok 4 (8, .aload_n 0, 1) rfl
theorem dX7_join_9 : decode cX7_join 9 = .ok (.iload_n 2, 1) := ax_dec dX7_join_q0_ok 5 (9, .iload_n 2, 1) rfl
theorem dX7_join_10 : decode cX7_join 10 = .ok (.invokevirtual 91, 3) := ax_dec dX7_join_q0_ok 6 (10, .invokevirtual 91, 3) rfl
theorem dX7_join_13 : decode cX7_join 13 = .ok (.ifCond .ne 6, 3) := ax_dec dX7_join_q0_ok 7 (13, .ifCond .ne 6, 3) rfl
theorem dX7_join_16 : decode cX7_join 16 = .ok (.bipush (-5), 2) := ax_dec dX7_join_q0_ok 8 (16, .bipush (-5), 2) rfl
theorem dX7_join_18 : decode cX7_join 18 = .ok (.ireturn, 1) := ax_dec dX7_join_q0_ok 9 (18, .ireturn, 1) rfl
theorem dX7_join_19 : decode cX7_join 19 = .ok (.aload_n 0, 1) := ax_dec dX7_join_q0_ok 10 (19, .aload_n 0, 1) rfl
theorem dX7_join_20 : decode cX7_join 20 = .ok (.iload_n 2, 1) := ax_dec dX7_join_q0_ok 11 (20, .iload_n 2, 1) rfl
theorem dX7_join_21 : decode cX7_join 21 = .ok (.invokevirtual 196, 3) := ax_dec dX7_join_q0_ok 12 (21, .invokevirtual 196, 3) rfl
theorem dX7_join_24 : decode cX7_join 24 = .ok (.istore_n 3, 1) := ax_dec dX7_join_q0_ok 13 (24, .istore_n 3, 1) rfl
theorem dX7_join_25 : decode cX7_join 25 = .ok (.iload_n 1, 1) := ax_dec dX7_join_q0_ok 14 (25, .iload_n 1, 1) rfl
theorem dX7_join_26 : decode cX7_join 26 = .ok (.istore 4, 2) := ax_dec dX7_join_q0_ok 15 (26, .istore 4, 2) rfl
theorem dX7_join_28 : decode cX7_join 28 = .ok (.iload 4, 2) := ax_dec dX7_join_q0_ok 16 (28, .iload 4, 2) rfl
theorem dX7_join_30 : decode cX7_join 30 = .ok (.iconst (-1), 1) := ax_dec dX7_join_q0_ok 17 (30, .iconst (-1), 1) rfl
theorem dX7_join_31 : decode cX7_join 31 = .ok (.if_icmp .eq 24, 3) := ax_dec dX7_join_q0_ok 18 (31, .if_icmp .eq 24, 3) rfl
theorem dX7_join_34 : decode cX7_join 34 = .ok (.iload_n 3, 1) := ax_dec dX7_join_q0_ok 19 (34, .iload_n 3, 1) rfl
theorem dX7_join_35 : decode cX7_join 35 = .ok (.iload 4, 2) := ax_dec dX7_join_q0_ok 20 (35, .iload 4, 2) rfl
theorem dX7_join_37 : decode cX7_join 37 = .ok (.ishr, 1) := ax_dec dX7_join_q0_ok 21 (37, .ishr, 1) rfl
theorem dX7_join_38 : decode cX7_join 38 = .ok (.iconst 1, 1) := ax_dec dX7_join_q0_ok 22 (38, .iconst 1, 1) rfl
theorem dX7_join_39 : decode cX7_join 39 = .ok (.iand, 1) := ax_dec dX7_join_q0_ok 23 (39, .iand, 1) rfl
theorem dX7_join_40 : decode cX7_join 40 = .ok (.ifCond .ne 15, 3) := ax_dec dX7_join_q0_ok 24 (40, .ifCond .ne 15, 3) rfl
theorem dX7_join_43 : decode cX7_join 43 = .ok (.aload_n 0, 1) := ax_dec dX7_join_q0_ok 25 (43, .aload_n 0, 1) rfl
theorem dX7_join_44 : decode cX7_join 44 = .ok (.getfield 7, 3) := ax_dec dX7_join_q0_ok 26 (44, .getfield 7, 3) rfl
theorem dX7_join_47 : decode cX7_join 47 = .ok (.iload 4, 2) := ax_dec dX7_join_q0_ok 27 (47, .iload 4, 2) rfl
theorem dX7_join_49 : decode cX7_join 49 = .ok (.iaload, 1) := ax_dec dX7_join_q0_ok 28 (49, .iaload, 1) rfl
theorem dX7_join_50 : decode cX7_join 50 = .ok (.istore 4, 2) := ax_dec dX7_join_q0_ok 29 (50, .istore 4, 2) rfl
theorem dX7_join_52 : decode cX7_join 52 = .ok (.goto (-24), 3) := ax_dec dX7_join_q0_ok 30 (52, .goto (-24), 3) rfl
theorem dX7_join_55 : decode cX7_join 55 = .ok (.iload 4, 2) := ax_dec dX7_join_q0_ok 31 (55, .iload 4, 2) rfl
def dX7_join_q1 : List (Nat × (Instr × Nat)) := [(57, .ireturn, 1)]
set_option maxRecDepth 100000 in
theorem dX7_join_q1_ok : ax_decs cX7_join dX7_join_q1 = true := by decide +kernel
theorem dX7_join_57 : decode cX7_join 57 = .ok (.ireturn, 1) := ax_dec dX7_join_q1_ok 0 (57, .ireturn, 1) rfl
def dX7_reached_q0 : List (Nat × (Instr × Nat)) := [(0, .iload_n 2, 1), (1, .istore_n 3, 1), (2, .iload_n 1, 1), (3, .istore 4, 2), (5, .iload 4, 2), (7, .iconst (-1), 1), (8, .if_icmp .eq 36, 3), (11, .iload_n 3, 1), (12, .aload_n 0, 1), (13, .getfield 16, 3), (16, .iload 4, 2), (18, .iaload, 1), (19, .if_icmp .le 25, 3), (22, .iload_n 3, 1), (23, .aload_n 0, 1), (24, .getfield 16, 3), (27, .iload 4, 2), (29, .iaload, 1), (30, .isub, 1), (31, .istore_n 3, 1), (32, .aload_n 0, 1), (33, .getfield 7, 3), (36, .iload 4, 2), (38, .iaload, 1), (39, .istore 4, 2), (41, .goto (-36), 3), (44, .iload 4, 2), (46, .ireturn, 1)]
set_option maxRecDepth 100000 in
theorem dX7_reached_q0_ok : ax_decs cX7_reached dX7_reached_q0 = true := by decide +kernel
theorem dX7_reached_0 : decode cX7_reached 0 = .ok (.iload_n 2, 1) := ax_dec dX7_reached_q0_ok 0 (0, .iload_n 2, 1) rfl
theorem dX7_reached_1 : decode cX7_reached 1 = .ok (.istore_n 3, 1) := ax_dec dX7_reached_q0_ok 1 (1, .istore_n 3, 1) rfl
theorem dX7_reached_2 : decode cX7_reached 2 = .ok (.iload_n 1, 1) := ax_dec dX7_reached_q0_ok 2 (2, .iload_n 1, 1) rfl
theorem dX7_reached_3 : decode cX7_reached 3 = .ok (.istore 4, 2) := ax_dec dX7_reached_q0_ok 3 (3, .istore 4, 2) rfl
theorem dX7_reached_5 : decode cX7_reached 5 = .ok (.iload 4, 2) := ax_dec dX7_reached_q0_ok 4 (5, .iload 4, 2) rfl
theorem dX7_reached_7 : decode cX7_reached 7 = .ok (.iconst (-1), 1) := ax_dec dX7_reached_q0_ok 5 (7, .iconst (-1), 1) rfl
theorem dX7_reached_8 : decode cX7_reached 8 = .ok (.if_icmp .eq 36, 3) := ax_dec dX7_reached_q0_ok 6 (8, .if_icmp .eq 36, 3) rfl
theorem dX7_reached_11 : decode cX7_reached 11 = .ok (.iload_n 3, 1) := ax_dec dX7_reached_q0_ok 7 (11, .iload_n 3, 1) rfl
theorem dX7_reached_12 : decode cX7_reached 12 = .ok (.aload_n 0, 1) := ax_dec dX7_reached_q0_ok 8 (12, .aload_n 0, 1) rfl
theorem dX7_reached_13 : decode cX7_reached 13 = .ok (.getfield 16, 3) := ax_dec dX7_reached_q0_ok 9 (13, .getfield 16, 3) rfl
theorem dX7_reached_16 : decode cX7_reached 16 = .ok (.iload 4, 2) := ax_dec dX7_reached_q0_ok 10 (16, .iload 4, 2) rfl
theorem dX7_reached_18 : decode cX7_reached 18 = .ok (.iaload, 1) := ax_dec dX7_reached_q0_ok 11 (18, .iaload, 1) rfl
theorem dX7_reached_19 : decode cX7_reached 19 = .ok (.if_icmp .le 25, 3) := ax_dec dX7_reached_q0_ok 12 (19, .if_icmp .le 25, 3) rfl
theorem dX7_reached_22 : decode cX7_reached 22 = .ok (.iload_n 3, 1) := ax_dec dX7_reached_q0_ok 13 (22, .iload_n 3, 1) rfl
theorem dX7_reached_23 : decode cX7_reached 23 = .ok (.aload_n 0, 1) := ax_dec dX7_reached_q0_ok 14 (23, .aload_n 0, 1) rfl
theorem dX7_reached_24 : decode cX7_reached 24 = .ok (.getfield 16, 3) := ax_dec dX7_reached_q0_ok 15 (24, .getfield 16, 3) rfl
theorem dX7_reached_27 : decode cX7_reached 27 = .ok (.iload 4, 2) := ax_dec dX7_reached_q0_ok 16 (27, .iload 4, 2) rfl
theorem dX7_reached_29 : decode cX7_reached 29 = .ok (.iaload, 1) := ax_dec dX7_reached_q0_ok 17 (29, .iaload, 1) rfl
theorem dX7_reached_30 : decode cX7_reached 30 = .ok (.isub, 1) := ax_dec dX7_reached_q0_ok 18 (30, .isub, 1) rfl
theorem dX7_reached_31 : decode cX7_reached 31 = .ok (.istore_n 3, 1) := ax_dec dX7_reached_q0_ok 19 (31, .istore_n 3, 1) rfl
theorem dX7_reached_32 : decode cX7_reached 32 = .ok (.aload_n 0, 1) := ax_dec dX7_reached_q0_ok 20 (32, .aload_n 0, 1) rfl
theorem dX7_reached_33 : decode cX7_reached 33 = .ok (.getfield 7, 3) := ax_dec dX7_reached_q0_ok 21 (33, .getfield 7, 3) rfl
theorem dX7_reached_36 : decode cX7_reached 36 = .ok (.iload 4, 2) := ax_dec dX7_reached_q0_ok 22 (36, .iload 4, 2) rfl
theorem dX7_reached_38 : decode cX7_reached 38 = .ok (.iaload, 1) := ax_dec dX7_reached_q0_ok 23 (38, .iaload, 1) rfl
theorem dX7_reached_39 : decode cX7_reached 39 = .ok (.istore 4, 2) := ax_dec dX7_reached_q0_ok 24 (39, .istore 4, 2) rfl
theorem dX7_reached_41 : decode cX7_reached 41 = .ok (.goto (-36), 3) := ax_dec dX7_reached_q0_ok 25 (41, .goto (-36), 3) rfl
theorem dX7_reached_44 : decode cX7_reached 44 = .ok (.iload 4, 2) := ax_dec dX7_reached_q0_ok 26 (44, .iload 4, 2) rfl
theorem dX7_reached_46 : decode cX7_reached 46 = .ok (.ireturn, 1) := ax_dec dX7_reached_q0_ok 27 (46, .ireturn, 1) rfl
def dX7_heavyAt_q0 : List (Nat × (Instr × Nat)) := [(0, .aload_n 0, 1), (1, .iload_n 1, 1), (2, .iload_n 2, 1), (3, .invokevirtual 208, 3), (6, .istore_n 3, 1), (7, .iload_n 3, 1), (8, .iconst (-1), 1), (9, .if_icmp .ne 7, 3), (12, .iconst (-1), 1), (13, .goto 8, 3), (16, .aload_n 0, 1), (17, .iload_n 3, 1), (18, .invokevirtual 211, 3), (21, .ireturn, 1)]
set_option maxRecDepth 100000 in
theorem dX7_heavyAt_q0_ok : ax_decs cX7_heavyAt dX7_heavyAt_q0 = true := by decide +kernel
theorem dX7_heavyAt_0 : decode cX7_heavyAt 0 = .ok (.aload_n 0, 1) := ax_dec dX7_heavyAt_q0_ok 0 (0, .aload_n 0, 1) rfl
theorem dX7_heavyAt_1 : decode cX7_heavyAt 1 = .ok (.iload_n 1, 1) := ax_dec dX7_heavyAt_q0_ok 1 (1, .iload_n 1, 1) rfl
theorem dX7_heavyAt_2 : decode cX7_heavyAt 2 = .ok (.iload_n 2, 1) := ax_dec dX7_heavyAt_q0_ok 2 (2, .iload_n 2, 1) rfl
theorem dX7_heavyAt_3 : decode cX7_heavyAt 3 = .ok (.invokevirtual 208, 3) := ax_dec dX7_heavyAt_q0_ok 3 (3, .invokevirtual 208, 3) rfl
theorem dX7_heavyAt_6 : decode cX7_heavyAt 6 = .ok (.istore_n 3, 1) := ax_dec dX7_heavyAt_q0_ok 4 (6, .istore_n 3, 1) rfl
theorem dX7_heavyAt_7 : decode cX7_heavyAt 7 = .ok (.iload_n 3, 1) := ax_dec dX7_heavyAt_q0_ok 5 (7, .iload_n 3, 1) rfl
theorem dX7_heavyAt_8 : decode cX7_heavyAt 8 = .ok (.iconst (-1), 1) := ax_dec dX7_heavyAt_q0_ok 6 (8, .iconst (-1), 1) rfl
theorem dX7_heavyAt_9 : decode cX7_heavyAt 9 = .ok (.if_icmp .ne 7, 3) := ax_dec dX7_heavyAt_q0_ok 7 (9, .if_icmp .ne 7, 3) rfl
theorem dX7_heavyAt_12 : decode cX7_heavyAt 12 = .ok (.iconst (-1), 1) := ax_dec dX7_heavyAt_q0_ok 8 (12, .iconst (-1), 1) rfl
theorem dX7_heavyAt_13 : decode cX7_heavyAt 13 = .ok (.goto 8, 3) := ax_dec dX7_heavyAt_q0_ok 9 (13, .goto 8, 3) rfl
theorem dX7_heavyAt_16 : decode cX7_heavyAt 16 = .ok (.aload_n 0, 1) := ax_dec dX7_heavyAt_q0_ok 10 (16, .aload_n 0, 1) rfl
theorem dX7_heavyAt_17 : decode cX7_heavyAt 17 = .ok (.iload_n 3, 1) := ax_dec dX7_heavyAt_q0_ok 11 (17, .iload_n 3, 1) rfl
theorem dX7_heavyAt_18 : decode cX7_heavyAt 18 = .ok (.invokevirtual 211, 3) := ax_dec dX7_heavyAt_q0_ok 12 (18, .invokevirtual 211, 3) rfl
theorem dX7_heavyAt_21 : decode cX7_heavyAt 21 = .ok (.ireturn, 1) := ax_dec dX7_heavyAt_q0_ok 13 (21, .ireturn, 1) rfl
def dX7_rod_q0 : List (Nat × (Instr × Nat)) := [(0, .aload_n 0, 1), (1, .iload_n 1, 1), (2, .invokevirtual 95, 3), (5, .ifCond .ne 6, 3), (8, .bipush (-5), 2), (10, .ireturn, 1), (11, .iload_n 2, 1), (12, .iconst 1, 1), (13, .bipush 60, 2), (15, .invokestatic 87, 3), (18, .ifCond .eq 12, 3), (21, .iload_n 3, 1), (22, .iconst 0, 1), (23, .iconst 1, 1), (24, .invokestatic 87, 3), (27, .ifCond .ne 6, 3), (30, .bipush (-7), 2), (32, .ireturn, 1), (33, .iload_n 3, 1), (34, .ifCond .ne 12, 3), (37, .aload_n 0, 1), (38, .iload_n 1, 1), (39, .iload_n 2, 1), (40, .invokevirtual 208, 3), (43, .goto 9, 3), (46, .aload_n 0, 1), (47, .iload_n 1, 1), (48, .iload_n 2, 1), (49, .invokevirtual 214, 3), (52, .ireturn, 1)]
set_option maxRecDepth 100000 in
theorem dX7_rod_q0_ok : ax_decs cX7_rod dX7_rod_q0 = true := by decide +kernel
theorem dX7_rod_0 : decode cX7_rod 0 = .ok (.aload_n 0, 1) := ax_dec dX7_rod_q0_ok 0 (0, .aload_n 0, 1) rfl
theorem dX7_rod_1 : decode cX7_rod 1 = .ok (.iload_n 1, 1) := ax_dec dX7_rod_q0_ok 1 (1, .iload_n 1, 1) rfl
theorem dX7_rod_2 : decode cX7_rod 2 = .ok (.invokevirtual 95, 3) := ax_dec dX7_rod_q0_ok 2 (2, .invokevirtual 95, 3) rfl
theorem dX7_rod_5 : decode cX7_rod 5 = .ok (.ifCond .ne 6, 3) := ax_dec dX7_rod_q0_ok 3 (5, .ifCond .ne 6, 3) rfl
theorem dX7_rod_8 : decode cX7_rod 8 = .ok (.bipush (-5), 2) := ax_dec dX7_rod_q0_ok 4 (8, .bipush (-5), 2) rfl
theorem dX7_rod_10 : decode cX7_rod 10 = .ok (.ireturn, 1) := ax_dec dX7_rod_q0_ok 5 (10, .ireturn, 1) rfl
theorem dX7_rod_11 : decode cX7_rod 11 = .ok (.iload_n 2, 1) := ax_dec dX7_rod_q0_ok 6 (11, .iload_n 2, 1) rfl
theorem dX7_rod_12 : decode cX7_rod 12 = .ok (.iconst 1, 1) := ax_dec dX7_rod_q0_ok 7 (12, .iconst 1, 1) rfl
theorem dX7_rod_13 : decode cX7_rod 13 = .ok (.bipush 60, 2) := ax_dec dX7_rod_q0_ok 8 (13, .bipush 60, 2) rfl
theorem dX7_rod_15 : decode cX7_rod 15 = .ok (.invokestatic 87, 3) := ax_dec dX7_rod_q0_ok 9 (15, .invokestatic 87, 3) rfl
theorem dX7_rod_18 : decode cX7_rod 18 = .ok (.ifCond .eq 12, 3) := ax_dec dX7_rod_q0_ok 10 (18, .ifCond .eq 12, 3) rfl
theorem dX7_rod_21 : decode cX7_rod 21 = .ok (.iload_n 3, 1) := ax_dec dX7_rod_q0_ok 11 (21, .iload_n 3, 1) rfl
theorem dX7_rod_22 : decode cX7_rod 22 = .ok (.iconst 0, 1) := ax_dec dX7_rod_q0_ok 12 (22, .iconst 0, 1) rfl
theorem dX7_rod_23 : decode cX7_rod 23 = .ok (.iconst 1, 1) := ax_dec dX7_rod_q0_ok 13 (23, .iconst 1, 1) rfl
theorem dX7_rod_24 : decode cX7_rod 24 = .ok (.invokestatic 87, 3) := ax_dec dX7_rod_q0_ok 14 (24, .invokestatic 87, 3) rfl
theorem dX7_rod_27 : decode cX7_rod 27 = .ok (.ifCond .ne 6, 3) := ax_dec dX7_rod_q0_ok 15 (27, .ifCond .ne 6, 3) rfl
theorem dX7_rod_30 : decode cX7_rod 30 = .ok (.bipush (-7), 2) := ax_dec dX7_rod_q0_ok 16 (30, .bipush (-7), 2) rfl
theorem dX7_rod_32 : decode cX7_rod 32 = .ok (.ireturn, 1) := ax_dec dX7_rod_q0_ok 17 (32, .ireturn, 1) rfl
theorem dX7_rod_33 : decode cX7_rod 33 = .ok (.iload_n 3, 1) := ax_dec dX7_rod_q0_ok 18 (33, .iload_n 3, 1) rfl
theorem dX7_rod_34 : decode cX7_rod 34 = .ok (.ifCond .ne 12, 3) := ax_dec dX7_rod_q0_ok 19 (34, .ifCond .ne 12, 3) rfl
theorem dX7_rod_37 : decode cX7_rod 37 = .ok (.aload_n 0, 1) := ax_dec dX7_rod_q0_ok 20 (37, .aload_n 0, 1) rfl
theorem dX7_rod_38 : decode cX7_rod 38 = .ok (.iload_n 1, 1) := ax_dec dX7_rod_q0_ok 21 (38, .iload_n 1, 1) rfl
theorem dX7_rod_39 : decode cX7_rod 39 = .ok (.iload_n 2, 1) := ax_dec dX7_rod_q0_ok 22 (39, .iload_n 2, 1) rfl
theorem dX7_rod_40 : decode cX7_rod 40 = .ok (.invokevirtual 208, 3) := ax_dec dX7_rod_q0_ok 23 (40, .invokevirtual 208, 3) rfl
theorem dX7_rod_43 : decode cX7_rod 43 = .ok (.goto 9, 3) := ax_dec dX7_rod_q0_ok 24 (43, .goto 9, 3) rfl
theorem dX7_rod_46 : decode cX7_rod 46 = .ok (.aload_n 0, 1) := ax_dec dX7_rod_q0_ok 25 (46, .aload_n 0, 1) rfl
theorem dX7_rod_47 : decode cX7_rod 47 = .ok (.iload_n 1, 1) := ax_dec dX7_rod_q0_ok 26 (47, .iload_n 1, 1) rfl
theorem dX7_rod_48 : decode cX7_rod 48 = .ok (.iload_n 2, 1) := ax_dec dX7_rod_q0_ok 27 (48, .iload_n 2, 1) rfl
theorem dX7_rod_49 : decode cX7_rod 49 = .ok (.invokevirtual 214, 3) := ax_dec dX7_rod_q0_ok 28 (49, .invokevirtual 214, 3) rfl
theorem dX7_rod_52 : decode cX7_rod 52 = .ok (.ireturn, 1) := ax_dec dX7_rod_q0_ok 29 (52, .ireturn, 1) rfl
def dX7_staysIn_q0 : List (Nat × (Instr × Nat)) := [(0, .iload_n 1, 1), (1, .istore_n 3, 1), (2, .iload_n 3, 1), (3, .iconst (-1), 1), (4, .if_icmp .eq 30, 3), (7, .aload_n 0, 1), (8, .iload_n 3, 1), (9, .invokevirtual 179, 3), (12, .ifCond .le 22, 3), (15, .aload_n 0, 1), (16, .iload_n 3, 1), (17, .invokevirtual 211, 3), (20, .iload_n 2, 1), (21, .if_icmp .gt 13, 3), (24, .aload_n 0, 1), (25, .getfield 7, 3), (28, .iload_n 3, 1), (29, .iaload, 1), (30, .istore_n 3, 1), (31, .goto (-29), 3), (34, .iload_n 3, 1), (35, .ireturn, 1)]
set_option maxRecDepth 100000 in
theorem dX7_staysIn_q0_ok : ax_decs cX7_staysIn dX7_staysIn_q0 = true := by decide +kernel
theorem dX7_staysIn_0 : decode cX7_staysIn 0 = .ok (.iload_n 1, 1) := ax_dec dX7_staysIn_q0_ok 0 (0, .iload_n 1, 1) rfl
theorem dX7_staysIn_1 : decode cX7_staysIn 1 = .ok (.istore_n 3, 1) := ax_dec dX7_staysIn_q0_ok 1 (1, .istore_n 3, 1) rfl
theorem dX7_staysIn_2 : decode cX7_staysIn 2 = .ok (.iload_n 3, 1) := ax_dec dX7_staysIn_q0_ok 2 (2, .iload_n 3, 1) rfl
theorem dX7_staysIn_3 : decode cX7_staysIn 3 = .ok (.iconst (-1), 1) := ax_dec dX7_staysIn_q0_ok 3 (3, .iconst (-1), 1) rfl
theorem dX7_staysIn_4 : decode cX7_staysIn 4 = .ok (.if_icmp .eq 30, 3) := ax_dec dX7_staysIn_q0_ok 4 (4, .if_icmp .eq 30, 3) rfl
theorem dX7_staysIn_7 : decode cX7_staysIn 7 = .ok (.aload_n 0, 1) := ax_dec dX7_staysIn_q0_ok 5 (7, .aload_n 0, 1) rfl
theorem dX7_staysIn_8 : decode cX7_staysIn 8 = .ok (.iload_n 3, 1) := ax_dec dX7_staysIn_q0_ok 6 (8, .iload_n 3, 1) rfl
theorem dX7_staysIn_9 : decode cX7_staysIn 9 = .ok (.invokevirtual 179, 3) := ax_dec dX7_staysIn_q0_ok 7 (9, .invokevirtual 179, 3) rfl
theorem dX7_staysIn_12 : decode cX7_staysIn 12 = .ok (.ifCond .le 22, 3) := ax_dec dX7_staysIn_q0_ok 8 (12, .ifCond .le 22, 3) rfl
theorem dX7_staysIn_15 : decode cX7_staysIn 15 = .ok (.aload_n 0, 1) := ax_dec dX7_staysIn_q0_ok 9 (15, .aload_n 0, 1) rfl
theorem dX7_staysIn_16 : decode cX7_staysIn 16 = .ok (.iload_n 3, 1) := ax_dec dX7_staysIn_q0_ok 10 (16, .iload_n 3, 1) rfl
theorem dX7_staysIn_17 : decode cX7_staysIn 17 = .ok (.invokevirtual 211, 3) := ax_dec dX7_staysIn_q0_ok 11 (17, .invokevirtual 211, 3) rfl
theorem dX7_staysIn_20 : decode cX7_staysIn 20 = .ok (.iload_n 2, 1) := ax_dec dX7_staysIn_q0_ok 12 (20, .iload_n 2, 1) rfl
theorem dX7_staysIn_21 : decode cX7_staysIn 21 = .ok (.if_icmp .gt 13, 3) := ax_dec dX7_staysIn_q0_ok 13 (21, .if_icmp .gt 13, 3) rfl
theorem dX7_staysIn_24 : decode cX7_staysIn 24 = .ok (.aload_n 0, 1) := ax_dec dX7_staysIn_q0_ok 14 (24, .aload_n 0, 1) rfl
theorem dX7_staysIn_25 : decode cX7_staysIn 25 = .ok (.getfield 7, 3) := ax_dec dX7_staysIn_q0_ok 15 (25, .getfield 7, 3) rfl
theorem dX7_staysIn_28 : decode cX7_staysIn 28 = .ok (.iload_n 3, 1) := ax_dec dX7_staysIn_q0_ok 16 (28, .iload_n 3, 1) rfl
theorem dX7_staysIn_29 : decode cX7_staysIn 29 = .ok (.iaload, 1) := ax_dec dX7_staysIn_q0_ok 17 (29, .iaload, 1) rfl
theorem dX7_staysIn_30 : decode cX7_staysIn 30 = .ok (.istore_n 3, 1) := ax_dec dX7_staysIn_q0_ok 18 (30, .istore_n 3, 1) rfl
theorem dX7_staysIn_31 : decode cX7_staysIn 31 = .ok (.goto (-29), 3) := ax_dec dX7_staysIn_q0_ok 19 (31, .goto (-29), 3) rfl
theorem dX7_staysIn_34 : decode cX7_staysIn 34 = .ok (.iload_n 3, 1) := ax_dec dX7_staysIn_q0_ok 20 (34, .iload_n 3, 1) rfl
theorem dX7_staysIn_35 : decode cX7_staysIn 35 = .ok (.ireturn, 1) := ax_dec dX7_staysIn_q0_ok 21 (35, .ireturn, 1) rfl
def dX7_push_q0 : List (Nat × (Instr × Nat)) := [(0, .aload_n 0, 1), (1, .iload_n 1, 1), (2, .invokevirtual 95, 3), (5, .ifCond .ne 6, 3), (8, .bipush (-5), 2), (10, .ireturn, 1), (11, .iload_n 2, 1), (12, .iconst 0, 1), (13, .bipush 99, 2), (15, .invokestatic 87, 3), (18, .ifCond .eq 12, 3), (21, .iload_n 3, 1), (22, .iconst 0, 1), (23, .iconst 1, 1), (24, .invokestatic 87, 3), (27, .ifCond .ne 6, 3), (30, .bipush (-7), 2), (32, .ireturn, 1), (33, .aload_n 0, 1), (34, .iload_n 1, 1), (35, .iload_n 2, 1), (36, .invokevirtual 217, 3), (39, .istore 4, 2), (41, .iload_n 3, 1), (42, .ifCond .ne 8, 3), (45, .iload 4, 2), (47, .goto 25, 3), (50, .aload_n 0, 1), (51, .iload_n 1, 1), (52, .invokevirtual 205, 3), (55, .iload 4, 2), (57, .iconst (-1), 1)]
set_option maxRecDepth 100000 in
theorem dX7_push_q0_ok : ax_decs cX7_push dX7_push_q0 = true := by decide +kernel
theorem dX7_push_0 : decode cX7_push 0 = .ok (.aload_n 0, 1) := ax_dec dX7_push_q0_ok 0 (0, .aload_n 0, 1) rfl
theorem dX7_push_1 : decode cX7_push 1 = .ok (.iload_n 1, 1) := ax_dec dX7_push_q0_ok 1 (1, .iload_n 1, 1) rfl
theorem dX7_push_2 : decode cX7_push 2 = .ok (.invokevirtual 95, 3) := ax_dec dX7_push_q0_ok 2 (2, .invokevirtual 95, 3) rfl
theorem dX7_push_5 : decode cX7_push 5 = .ok (.ifCond .ne 6, 3) := ax_dec dX7_push_q0_ok 3 (5, .ifCond .ne 6, 3) rfl
theorem dX7_push_8 : decode cX7_push 8 = .ok (.bipush (-5), 2) := ax_dec dX7_push_q0_ok 4 (8, .bipush (-5), 2) rfl
theorem dX7_push_10 : decode cX7_push 10 = .ok (.ireturn, 1) := ax_dec dX7_push_q0_ok 5 (10, .ireturn, 1) rfl
theorem dX7_push_11 : decode cX7_push 11 = .ok (.iload_n 2, 1) := ax_dec dX7_push_q0_ok 6 (11, .iload_n 2, 1) rfl
theorem dX7_push_12 : decode cX7_push 12 = .ok (.iconst 0, 1) := ax_dec dX7_push_q0_ok 7 (12, .iconst 0, 1) rfl
theorem dX7_push_13 : decode cX7_push 13 = .ok (.bipush 99, 2) := ax_dec dX7_push_q0_ok 8 (13, .bipush 99, 2) rfl
theorem dX7_push_15 : decode cX7_push 15 = .ok (.invokestatic 87, 3) := ax_dec dX7_push_q0_ok 9 (15, .invokestatic 87, 3) rfl
theorem dX7_push_18 : decode cX7_push 18 = .ok (.ifCond .eq 12, 3) := ax_dec dX7_push_q0_ok 10 (18, .ifCond .eq 12, 3) rfl
theorem dX7_push_21 : decode cX7_push 21 = .ok (.iload_n 3, 1) := ax_dec dX7_push_q0_ok 11 (21, .iload_n 3, 1) rfl
theorem dX7_push_22 : decode cX7_push 22 = .ok (.iconst 0, 1) := ax_dec dX7_push_q0_ok 12 (22, .iconst 0, 1) rfl
theorem dX7_push_23 : decode cX7_push 23 = .ok (.iconst 1, 1) := ax_dec dX7_push_q0_ok 13 (23, .iconst 1, 1) rfl
theorem dX7_push_24 : decode cX7_push 24 = .ok (.invokestatic 87, 3) := ax_dec dX7_push_q0_ok 14 (24, .invokestatic 87, 3) rfl
theorem dX7_push_27 : decode cX7_push 27 = .ok (.ifCond .ne 6, 3) := ax_dec dX7_push_q0_ok 15 (27, .ifCond .ne 6, 3) rfl
theorem dX7_push_30 : decode cX7_push 30 = .ok (.bipush (-7), 2) := ax_dec dX7_push_q0_ok 16 (30, .bipush (-7), 2) rfl
theorem dX7_push_32 : decode cX7_push 32 = .ok (.ireturn, 1) := ax_dec dX7_push_q0_ok 17 (32, .ireturn, 1) rfl
theorem dX7_push_33 : decode cX7_push 33 = .ok (.aload_n 0, 1) := ax_dec dX7_push_q0_ok 18 (33, .aload_n 0, 1) rfl
theorem dX7_push_34 : decode cX7_push 34 = .ok (.iload_n 1, 1) := ax_dec dX7_push_q0_ok 19 (34, .iload_n 1, 1) rfl
theorem dX7_push_35 : decode cX7_push 35 = .ok (.iload_n 2, 1) := ax_dec dX7_push_q0_ok 20 (35, .iload_n 2, 1) rfl
theorem dX7_push_36 : decode cX7_push 36 = .ok (.invokevirtual 217, 3) := ax_dec dX7_push_q0_ok 21 (36, .invokevirtual 217, 3) rfl
theorem dX7_push_39 : decode cX7_push 39 = .ok (.istore 4, 2) := ax_dec dX7_push_q0_ok 22 (39, .istore 4, 2) rfl
theorem dX7_push_41 : decode cX7_push 41 = .ok (.iload_n 3, 1) := ax_dec dX7_push_q0_ok 23 (41, .iload_n 3, 1) rfl
theorem dX7_push_42 : decode cX7_push 42 = .ok (.ifCond .ne 8, 3) := ax_dec dX7_push_q0_ok 24 (42, .ifCond .ne 8, 3) rfl
theorem dX7_push_45 : decode cX7_push 45 = .ok (.iload 4, 2) := ax_dec dX7_push_q0_ok 25 (45, .iload 4, 2) rfl
theorem dX7_push_47 : decode cX7_push 47 = .ok (.goto 25, 3) := ax_dec dX7_push_q0_ok 26 (47, .goto 25, 3) rfl
theorem dX7_push_50 : decode cX7_push 50 = .ok (.aload_n 0, 1) := ax_dec dX7_push_q0_ok 27 (50, .aload_n 0, 1) rfl
theorem dX7_push_51 : decode cX7_push 51 = .ok (.iload_n 1, 1) := ax_dec dX7_push_q0_ok 28 (51, .iload_n 1, 1) rfl
theorem dX7_push_52 : decode cX7_push 52 = .ok (.invokevirtual 205, 3) := ax_dec dX7_push_q0_ok 29 (52, .invokevirtual 205, 3) rfl
theorem dX7_push_55 : decode cX7_push 55 = .ok (.iload 4, 2) := ax_dec dX7_push_q0_ok 30 (55, .iload 4, 2) rfl
theorem dX7_push_57 : decode cX7_push 57 = .ok (.iconst (-1), 1) := ax_dec dX7_push_q0_ok 31 (57, .iconst (-1), 1) rfl
def dX7_push_q1 : List (Nat × (Instr × Nat)) := [(58, .if_icmp .ne 7, 3), (61, .iconst 0, 1), (62, .goto 9, 3), (65, .aload_n 0, 1), (66, .iload 4, 2), (68, .invokevirtual 205, 3), (71, .isub, 1), (72, .ireturn, 1)]
set_option maxRecDepth 100000 in
theorem dX7_push_q1_ok : ax_decs cX7_push dX7_push_q1 = true := by decide +kernel
theorem dX7_push_58 : decode cX7_push 58 = .ok (.if_icmp .ne 7, 3) := ax_dec dX7_push_q1_ok 0 (58, .if_icmp .ne 7, 3) rfl
theorem dX7_push_61 : decode cX7_push 61 = .ok (.iconst 0, 1) := ax_dec dX7_push_q1_ok 1 (61, .iconst 0, 1) rfl
theorem dX7_push_62 : decode cX7_push 62 = .ok (.goto 9, 3) := ax_dec dX7_push_q1_ok 2 (62, .goto 9, 3) rfl
theorem dX7_push_65 : decode cX7_push 65 = .ok (.aload_n 0, 1) := ax_dec dX7_push_q1_ok 3 (65, .aload_n 0, 1) rfl
theorem dX7_push_66 : decode cX7_push 66 = .ok (.iload 4, 2) := ax_dec dX7_push_q1_ok 4 (66, .iload 4, 2) rfl
theorem dX7_push_68 : decode cX7_push 68 = .ok (.invokevirtual 205, 3) := ax_dec dX7_push_q1_ok 5 (68, .invokevirtual 205, 3) rfl
theorem dX7_push_71 : decode cX7_push 71 = .ok (.isub, 1) := ax_dec dX7_push_q1_ok 6 (71, .isub, 1) rfl
theorem dX7_push_72 : decode cX7_push 72 = .ok (.ireturn, 1) := ax_dec dX7_push_q1_ok 7 (72, .ireturn, 1) rfl
def dX7_sweeps_q0 : List (Nat × (Instr × Nat)) := [(0, .aload_n 0, 1), (1, .iload_n 1, 1), (2, .iload_n 2, 1), (3, .invokevirtual 217, 3), (6, .istore_n 3, 1), (7, .iconst 0, 1), (8, .istore 4, 2), (10, .iload_n 1, 1), (11, .istore 5, 2), (13, .iload 5, 2), (15, .iload_n 3, 1), (16, .if_icmp .eq 47, 3), (19, .aload_n 0, 1), (20, .iload 5, 2), (22, .invokevirtual 220, 3), (25, .istore 6, 2), (27, .iload 4, 2), (29, .aload_n 0, 1), (30, .getfield 28, 3), (33, .iload 5, 2), (35, .iaload, 1), (36, .iload 6, 2), (38, .isub, 1), (39, .iadd, 1), (40, .istore 4, 2), (42, .aload_n 0, 1), (43, .getfield 28, 3), (46, .iload 5, 2), (48, .iload 6, 2), (50, .iastore, 1), (51, .aload_n 0, 1), (52, .getfield 7, 3)]
set_option maxRecDepth 100000 in
theorem dX7_sweeps_q0_ok : ax_decs cX7_sweeps dX7_sweeps_q0 = true := by decide +kernel
theorem dX7_sweeps_0 : decode cX7_sweeps 0 = .ok (.aload_n 0, 1) := ax_dec dX7_sweeps_q0_ok 0 (0, .aload_n 0, 1) rfl
theorem dX7_sweeps_1 : decode cX7_sweeps 1 = .ok (.iload_n 1, 1) := ax_dec dX7_sweeps_q0_ok 1 (1, .iload_n 1, 1) rfl
theorem dX7_sweeps_2 : decode cX7_sweeps 2 = .ok (.iload_n 2, 1) := ax_dec dX7_sweeps_q0_ok 2 (2, .iload_n 2, 1) rfl
theorem dX7_sweeps_3 : decode cX7_sweeps 3 = .ok (.invokevirtual 217, 3) := ax_dec dX7_sweeps_q0_ok 3 (3, .invokevirtual 217, 3) rfl
theorem dX7_sweeps_6 : decode cX7_sweeps 6 = .ok (.istore_n 3, 1) := ax_dec dX7_sweeps_q0_ok 4 (6, .istore_n 3, 1) rfl
theorem dX7_sweeps_7 : decode cX7_sweeps 7 = .ok (.iconst 0, 1) := ax_dec dX7_sweeps_q0_ok 5 (7, .iconst 0, 1) rfl
theorem dX7_sweeps_8 : decode cX7_sweeps 8 = .ok (.istore 4, 2) := ax_dec dX7_sweeps_q0_ok 6 (8, .istore 4, 2) rfl
theorem dX7_sweeps_10 : decode cX7_sweeps 10 = .ok (.iload_n 1, 1) := ax_dec dX7_sweeps_q0_ok 7 (10, .iload_n 1, 1) rfl
theorem dX7_sweeps_11 : decode cX7_sweeps 11 = .ok (.istore 5, 2) := ax_dec dX7_sweeps_q0_ok 8 (11, .istore 5, 2) rfl
theorem dX7_sweeps_13 : decode cX7_sweeps 13 = .ok (.iload 5, 2) := ax_dec dX7_sweeps_q0_ok 9 (13, .iload 5, 2) rfl
theorem dX7_sweeps_15 : decode cX7_sweeps 15 = .ok (.iload_n 3, 1) := ax_dec dX7_sweeps_q0_ok 10 (15, .iload_n 3, 1) rfl
theorem dX7_sweeps_16 : decode cX7_sweeps 16 = .ok (.if_icmp .eq 47, 3) := ax_dec dX7_sweeps_q0_ok 11 (16, .if_icmp .eq 47, 3) rfl
theorem dX7_sweeps_19 : decode cX7_sweeps 19 = .ok (.aload_n 0, 1) := ax_dec dX7_sweeps_q0_ok 12 (19, .aload_n 0, 1) rfl
theorem dX7_sweeps_20 : decode cX7_sweeps 20 = .ok (.iload 5, 2) := ax_dec dX7_sweeps_q0_ok 13 (20, .iload 5, 2) rfl
theorem dX7_sweeps_22 : decode cX7_sweeps 22 = .ok (.invokevirtual 220, 3) := ax_dec dX7_sweeps_q0_ok 14 (22, .invokevirtual 220, 3) rfl
theorem dX7_sweeps_25 : decode cX7_sweeps 25 = .ok (.istore 6, 2) := ax_dec dX7_sweeps_q0_ok 15 (25, .istore 6, 2) rfl
theorem dX7_sweeps_27 : decode cX7_sweeps 27 = .ok (.iload 4, 2) := ax_dec dX7_sweeps_q0_ok 16 (27, .iload 4, 2) rfl
theorem dX7_sweeps_29 : decode cX7_sweeps 29 = .ok (.aload_n 0, 1) := ax_dec dX7_sweeps_q0_ok 17 (29, .aload_n 0, 1) rfl
theorem dX7_sweeps_30 : decode cX7_sweeps 30 = .ok (.getfield 28, 3) := ax_dec dX7_sweeps_q0_ok 18 (30, .getfield 28, 3) rfl
theorem dX7_sweeps_33 : decode cX7_sweeps 33 = .ok (.iload 5, 2) := ax_dec dX7_sweeps_q0_ok 19 (33, .iload 5, 2) rfl
theorem dX7_sweeps_35 : decode cX7_sweeps 35 = .ok (.iaload, 1) := ax_dec dX7_sweeps_q0_ok 20 (35, .iaload, 1) rfl
theorem dX7_sweeps_36 : decode cX7_sweeps 36 = .ok (.iload 6, 2) := ax_dec dX7_sweeps_q0_ok 21 (36, .iload 6, 2) rfl
theorem dX7_sweeps_38 : decode cX7_sweeps 38 = .ok (.isub, 1) := ax_dec dX7_sweeps_q0_ok 22 (38, .isub, 1) rfl
theorem dX7_sweeps_39 : decode cX7_sweeps 39 = .ok (.iadd, 1) := ax_dec dX7_sweeps_q0_ok 23 (39, .iadd, 1) rfl
theorem dX7_sweeps_40 : decode cX7_sweeps 40 = .ok (.istore 4, 2) := ax_dec dX7_sweeps_q0_ok 24 (40, .istore 4, 2) rfl
theorem dX7_sweeps_42 : decode cX7_sweeps 42 = .ok (.aload_n 0, 1) := ax_dec dX7_sweeps_q0_ok 25 (42, .aload_n 0, 1) rfl
theorem dX7_sweeps_43 : decode cX7_sweeps 43 = .ok (.getfield 28, 3) := ax_dec dX7_sweeps_q0_ok 26 (43, .getfield 28, 3) rfl
theorem dX7_sweeps_46 : decode cX7_sweeps 46 = .ok (.iload 5, 2) := ax_dec dX7_sweeps_q0_ok 27 (46, .iload 5, 2) rfl
theorem dX7_sweeps_48 : decode cX7_sweeps 48 = .ok (.iload 6, 2) := ax_dec dX7_sweeps_q0_ok 28 (48, .iload 6, 2) rfl
theorem dX7_sweeps_50 : decode cX7_sweeps 50 = .ok (.iastore, 1) := ax_dec dX7_sweeps_q0_ok 29 (50, .iastore, 1) rfl
theorem dX7_sweeps_51 : decode cX7_sweeps 51 = .ok (.aload_n 0, 1) := ax_dec dX7_sweeps_q0_ok 30 (51, .aload_n 0, 1) rfl
theorem dX7_sweeps_52 : decode cX7_sweeps 52 = .ok (.getfield 7, 3) := ax_dec dX7_sweeps_q0_ok 31 (52, .getfield 7, 3) rfl
def dX7_sweeps_q1 : List (Nat × (Instr × Nat)) := [(55, .iload 5, 2), (57, .iaload, 1), (58, .istore 5, 2), (60, .goto (-47), 3), (63, .iload 4, 2), (65, .ireturn, 1)]
set_option maxRecDepth 100000 in
theorem dX7_sweeps_q1_ok : ax_decs cX7_sweeps dX7_sweeps_q1 = true := by decide +kernel
theorem dX7_sweeps_55 : decode cX7_sweeps 55 = .ok (.iload 5, 2) := ax_dec dX7_sweeps_q1_ok 0 (55, .iload 5, 2) rfl
theorem dX7_sweeps_57 : decode cX7_sweeps 57 = .ok (.iaload, 1) := ax_dec dX7_sweeps_q1_ok 1 (57, .iaload, 1) rfl
theorem dX7_sweeps_58 : decode cX7_sweeps 58 = .ok (.istore 5, 2) := ax_dec dX7_sweeps_q1_ok 2 (58, .istore 5, 2) rfl
theorem dX7_sweeps_60 : decode cX7_sweeps 60 = .ok (.goto (-47), 3) := ax_dec dX7_sweeps_q1_ok 3 (60, .goto (-47), 3) rfl
theorem dX7_sweeps_63 : decode cX7_sweeps 63 = .ok (.iload 4, 2) := ax_dec dX7_sweeps_q1_ok 4 (63, .iload 4, 2) rfl
theorem dX7_sweeps_65 : decode cX7_sweeps 65 = .ok (.ireturn, 1) := ax_dec dX7_sweeps_q1_ok 5 (65, .ireturn, 1) rfl
def dX7_sweep_q0 : List (Nat × (Instr × Nat)) := [(0, .aload_n 0, 1), (1, .iload_n 1, 1), (2, .invokevirtual 95, 3), (5, .ifCond .ne 6, 3), (8, .bipush (-5), 2), (10, .ireturn, 1), (11, .iload_n 2, 1), (12, .iconst 0, 1), (13, .bipush 99, 2), (15, .invokestatic 87, 3), (18, .ifCond .eq 12, 3), (21, .aload_n 0, 1), (22, .iload_n 1, 1), (23, .iload_n 2, 1), (24, .invokevirtual 223, 3), (27, .goto 5, 3), (30, .bipush (-7), 2), (32, .ireturn, 1)]
set_option maxRecDepth 100000 in
theorem dX7_sweep_q0_ok : ax_decs cX7_sweep dX7_sweep_q0 = true := by decide +kernel
theorem dX7_sweep_0 : decode cX7_sweep 0 = .ok (.aload_n 0, 1) := ax_dec dX7_sweep_q0_ok 0 (0, .aload_n 0, 1) rfl
theorem dX7_sweep_1 : decode cX7_sweep 1 = .ok (.iload_n 1, 1) := ax_dec dX7_sweep_q0_ok 1 (1, .iload_n 1, 1) rfl
theorem dX7_sweep_2 : decode cX7_sweep 2 = .ok (.invokevirtual 95, 3) := ax_dec dX7_sweep_q0_ok 2 (2, .invokevirtual 95, 3) rfl
theorem dX7_sweep_5 : decode cX7_sweep 5 = .ok (.ifCond .ne 6, 3) := ax_dec dX7_sweep_q0_ok 3 (5, .ifCond .ne 6, 3) rfl
theorem dX7_sweep_8 : decode cX7_sweep 8 = .ok (.bipush (-5), 2) := ax_dec dX7_sweep_q0_ok 4 (8, .bipush (-5), 2) rfl
theorem dX7_sweep_10 : decode cX7_sweep 10 = .ok (.ireturn, 1) := ax_dec dX7_sweep_q0_ok 5 (10, .ireturn, 1) rfl
theorem dX7_sweep_11 : decode cX7_sweep 11 = .ok (.iload_n 2, 1) := ax_dec dX7_sweep_q0_ok 6 (11, .iload_n 2, 1) rfl
theorem dX7_sweep_12 : decode cX7_sweep 12 = .ok (.iconst 0, 1) := ax_dec dX7_sweep_q0_ok 7 (12, .iconst 0, 1) rfl
theorem dX7_sweep_13 : decode cX7_sweep 13 = .ok (.bipush 99, 2) := ax_dec dX7_sweep_q0_ok 8 (13, .bipush 99, 2) rfl
theorem dX7_sweep_15 : decode cX7_sweep 15 = .ok (.invokestatic 87, 3) := ax_dec dX7_sweep_q0_ok 9 (15, .invokestatic 87, 3) rfl
theorem dX7_sweep_18 : decode cX7_sweep 18 = .ok (.ifCond .eq 12, 3) := ax_dec dX7_sweep_q0_ok 10 (18, .ifCond .eq 12, 3) rfl
theorem dX7_sweep_21 : decode cX7_sweep 21 = .ok (.aload_n 0, 1) := ax_dec dX7_sweep_q0_ok 11 (21, .aload_n 0, 1) rfl
theorem dX7_sweep_22 : decode cX7_sweep 22 = .ok (.iload_n 1, 1) := ax_dec dX7_sweep_q0_ok 12 (22, .iload_n 1, 1) rfl
theorem dX7_sweep_23 : decode cX7_sweep 23 = .ok (.iload_n 2, 1) := ax_dec dX7_sweep_q0_ok 13 (23, .iload_n 2, 1) rfl
theorem dX7_sweep_24 : decode cX7_sweep 24 = .ok (.invokevirtual 223, 3) := ax_dec dX7_sweep_q0_ok 14 (24, .invokevirtual 223, 3) rfl
theorem dX7_sweep_27 : decode cX7_sweep 27 = .ok (.goto 5, 3) := ax_dec dX7_sweep_q0_ok 15 (27, .goto 5, 3) rfl
theorem dX7_sweep_30 : decode cX7_sweep 30 = .ok (.bipush (-7), 2) := ax_dec dX7_sweep_q0_ok 16 (30, .bipush (-7), 2) rfl
theorem dX7_sweep_32 : decode cX7_sweep 32 = .ok (.ireturn, 1) := ax_dec dX7_sweep_q0_ok 17 (32, .ireturn, 1) rfl
def dX7_needs_q0 : List (Nat × (Instr × Nat)) := [(0, .aload_n 0, 1), (1, .iload_n 1, 1), (2, .invokevirtual 95, 3), (5, .ifCond .ne 6, 3), (8, .bipush (-5), 2), (10, .ireturn, 1), (11, .iconst 0, 1), (12, .istore_n 2, 1), (13, .iload_n 1, 1), (14, .istore_n 3, 1), (15, .iload_n 3, 1), (16, .iconst (-1), 1), (17, .if_icmp .eq 42, 3), (20, .aload_n 0, 1), (21, .iload_n 3, 1), (22, .invokevirtual 179, 3), (25, .ifCond .ne 5, 3), (28, .iconst (-1), 1), (29, .ireturn, 1), (30, .aload_n 0, 1), (31, .iload_n 3, 1), (32, .invokevirtual 211, 3), (35, .iload_n 2, 1), (36, .if_icmp .le 11, 3), (39, .aload_n 0, 1), (40, .iload_n 3, 1), (41, .invokevirtual 211, 3), (44, .goto 4, 3), (47, .iload_n 2, 1), (48, .istore_n 2, 1), (49, .aload_n 0, 1), (50, .getfield 7, 3)]
set_option maxRecDepth 100000 in
theorem dX7_needs_q0_ok : ax_decs cX7_needs dX7_needs_q0 = true := by decide +kernel
theorem dX7_needs_0 : decode cX7_needs 0 = .ok (.aload_n 0, 1) := ax_dec dX7_needs_q0_ok 0 (0, .aload_n 0, 1) rfl
theorem dX7_needs_1 : decode cX7_needs 1 = .ok (.iload_n 1, 1) := ax_dec dX7_needs_q0_ok 1 (1, .iload_n 1, 1) rfl
theorem dX7_needs_2 : decode cX7_needs 2 = .ok (.invokevirtual 95, 3) := ax_dec dX7_needs_q0_ok 2 (2, .invokevirtual 95, 3) rfl
theorem dX7_needs_5 : decode cX7_needs 5 = .ok (.ifCond .ne 6, 3) := ax_dec dX7_needs_q0_ok 3 (5, .ifCond .ne 6, 3) rfl
theorem dX7_needs_8 : decode cX7_needs 8 = .ok (.bipush (-5), 2) := ax_dec dX7_needs_q0_ok 4 (8, .bipush (-5), 2) rfl
theorem dX7_needs_10 : decode cX7_needs 10 = .ok (.ireturn, 1) := ax_dec dX7_needs_q0_ok 5 (10, .ireturn, 1) rfl
theorem dX7_needs_11 : decode cX7_needs 11 = .ok (.iconst 0, 1) := ax_dec dX7_needs_q0_ok 6 (11, .iconst 0, 1) rfl
theorem dX7_needs_12 : decode cX7_needs 12 = .ok (.istore_n 2, 1) := ax_dec dX7_needs_q0_ok 7 (12, .istore_n 2, 1) rfl
theorem dX7_needs_13 : decode cX7_needs 13 = .ok (.iload_n 1, 1) := ax_dec dX7_needs_q0_ok 8 (13, .iload_n 1, 1) rfl
theorem dX7_needs_14 : decode cX7_needs 14 = .ok (.istore_n 3, 1) := ax_dec dX7_needs_q0_ok 9 (14, .istore_n 3, 1) rfl
theorem dX7_needs_15 : decode cX7_needs 15 = .ok (.iload_n 3, 1) := ax_dec dX7_needs_q0_ok 10 (15, .iload_n 3, 1) rfl
theorem dX7_needs_16 : decode cX7_needs 16 = .ok (.iconst (-1), 1) := ax_dec dX7_needs_q0_ok 11 (16, .iconst (-1), 1) rfl
theorem dX7_needs_17 : decode cX7_needs 17 = .ok (.if_icmp .eq 42, 3) := ax_dec dX7_needs_q0_ok 12 (17, .if_icmp .eq 42, 3) rfl
theorem dX7_needs_20 : decode cX7_needs 20 = .ok (.aload_n 0, 1) := ax_dec dX7_needs_q0_ok 13 (20, .aload_n 0, 1) rfl
theorem dX7_needs_21 : decode cX7_needs 21 = .ok (.iload_n 3, 1) := ax_dec dX7_needs_q0_ok 14 (21, .iload_n 3, 1) rfl
theorem dX7_needs_22 : decode cX7_needs 22 = .ok (.invokevirtual 179, 3) := ax_dec dX7_needs_q0_ok 15 (22, .invokevirtual 179, 3) rfl
theorem dX7_needs_25 : decode cX7_needs 25 = .ok (.ifCond .ne 5, 3) := ax_dec dX7_needs_q0_ok 16 (25, .ifCond .ne 5, 3) rfl
theorem dX7_needs_28 : decode cX7_needs 28 = .ok (.iconst (-1), 1) := ax_dec dX7_needs_q0_ok 17 (28, .iconst (-1), 1) rfl
theorem dX7_needs_29 : decode cX7_needs 29 = .ok (.ireturn, 1) := ax_dec dX7_needs_q0_ok 18 (29, .ireturn, 1) rfl
theorem dX7_needs_30 : decode cX7_needs 30 = .ok (.aload_n 0, 1) := ax_dec dX7_needs_q0_ok 19 (30, .aload_n 0, 1) rfl
theorem dX7_needs_31 : decode cX7_needs 31 = .ok (.iload_n 3, 1) := ax_dec dX7_needs_q0_ok 20 (31, .iload_n 3, 1) rfl
theorem dX7_needs_32 : decode cX7_needs 32 = .ok (.invokevirtual 211, 3) := ax_dec dX7_needs_q0_ok 21 (32, .invokevirtual 211, 3) rfl
theorem dX7_needs_35 : decode cX7_needs 35 = .ok (.iload_n 2, 1) := ax_dec dX7_needs_q0_ok 22 (35, .iload_n 2, 1) rfl
theorem dX7_needs_36 : decode cX7_needs 36 = .ok (.if_icmp .le 11, 3) := ax_dec dX7_needs_q0_ok 23 (36, .if_icmp .le 11, 3) rfl
theorem dX7_needs_39 : decode cX7_needs 39 = .ok (.aload_n 0, 1) := ax_dec dX7_needs_q0_ok 24 (39, .aload_n 0, 1) rfl
theorem dX7_needs_40 : decode cX7_needs 40 = .ok (.iload_n 3, 1) := ax_dec dX7_needs_q0_ok 25 (40, .iload_n 3, 1) rfl
theorem dX7_needs_41 : decode cX7_needs 41 = .ok (.invokevirtual 211, 3) := ax_dec dX7_needs_q0_ok 26 (41, .invokevirtual 211, 3) rfl
theorem dX7_needs_44 : decode cX7_needs 44 = .ok (.goto 4, 3) := ax_dec dX7_needs_q0_ok 27 (44, .goto 4, 3) rfl
theorem dX7_needs_47 : decode cX7_needs 47 = .ok (.iload_n 2, 1) := ax_dec dX7_needs_q0_ok 28 (47, .iload_n 2, 1) rfl
theorem dX7_needs_48 : decode cX7_needs 48 = .ok (.istore_n 2, 1) := ax_dec dX7_needs_q0_ok 29 (48, .istore_n 2, 1) rfl
theorem dX7_needs_49 : decode cX7_needs 49 = .ok (.aload_n 0, 1) := ax_dec dX7_needs_q0_ok 30 (49, .aload_n 0, 1) rfl
theorem dX7_needs_50 : decode cX7_needs 50 = .ok (.getfield 7, 3) := ax_dec dX7_needs_q0_ok 31 (50, .getfield 7, 3) rfl
def dX7_needs_q1 : List (Nat × (Instr × Nat)) := [(53, .iload_n 3, 1), (54, .iaload, 1), (55, .istore_n 3, 1), (56, .goto (-41), 3), (59, .iload_n 2, 1), (60, .ireturn, 1)]
set_option maxRecDepth 100000 in
theorem dX7_needs_q1_ok : ax_decs cX7_needs dX7_needs_q1 = true := by decide +kernel
theorem dX7_needs_53 : decode cX7_needs 53 = .ok (.iload_n 3, 1) := ax_dec dX7_needs_q1_ok 0 (53, .iload_n 3, 1) rfl
theorem dX7_needs_54 : decode cX7_needs 54 = .ok (.iaload, 1) := ax_dec dX7_needs_q1_ok 1 (54, .iaload, 1) rfl
theorem dX7_needs_55 : decode cX7_needs 55 = .ok (.istore_n 3, 1) := ax_dec dX7_needs_q1_ok 2 (55, .istore_n 3, 1) rfl
theorem dX7_needs_56 : decode cX7_needs 56 = .ok (.goto (-41), 3) := ax_dec dX7_needs_q1_ok 3 (56, .goto (-41), 3) rfl
theorem dX7_needs_59 : decode cX7_needs 59 = .ok (.iload_n 2, 1) := ax_dec dX7_needs_q1_ok 4 (59, .iload_n 2, 1) rfl
theorem dX7_needs_60 : decode cX7_needs 60 = .ok (.ireturn, 1) := ax_dec dX7_needs_q1_ok 5 (60, .ireturn, 1) rfl
def dX7_isFire_q0 : List (Nat × (Instr × Nat)) := [(0, .iload_n 0, 1), (1, .iconst 0, 1), (2, .bipush 99, 2), (4, .invokestatic 87, 3), (7, .ireturn, 1)]
set_option maxRecDepth 100000 in
theorem dX7_isFire_q0_ok : ax_decs cX7_isFire dX7_isFire_q0 = true := by decide +kernel
theorem dX7_isFire_0 : decode cX7_isFire 0 = .ok (.iload_n 0, 1) := ax_dec dX7_isFire_q0_ok 0 (0, .iload_n 0, 1) rfl
theorem dX7_isFire_1 : decode cX7_isFire 1 = .ok (.iconst 0, 1) := ax_dec dX7_isFire_q0_ok 1 (1, .iconst 0, 1) rfl
theorem dX7_isFire_2 : decode cX7_isFire 2 = .ok (.bipush 99, 2) := ax_dec dX7_isFire_q0_ok 2 (2, .bipush 99, 2) rfl
theorem dX7_isFire_4 : decode cX7_isFire 4 = .ok (.invokestatic 87, 3) := ax_dec dX7_isFire_q0_ok 3 (4, .invokestatic 87, 3) rfl
theorem dX7_isFire_7 : decode cX7_isFire 7 = .ok (.ireturn, 1) := ax_dec dX7_isFire_q0_ok 4 (7, .ireturn, 1) rfl
def dX7_burnsOnce_q0 : List (Nat × (Instr × Nat)) := [(0, .iload_n 1, 1), (1, .istore_n 3, 1), (2, .iload_n 3, 1), (3, .iconst (-1), 1), (4, .if_icmp .eq 38, 3), (7, .aload_n 0, 1), (8, .getfield 28, 3), (11, .iload_n 3, 1), (12, .aload_n 0, 1), (13, .getfield 28, 3), (16, .iload_n 3, 1), (17, .iaload, 1), (18, .aload_n 0, 1), (19, .iload_n 3, 1), (20, .iload_n 2, 1), (21, .invokevirtual 226, 3), (24, .iadd, 1), (25, .iconst 0, 1), (26, .bipush 99, 2), (28, .invokestatic 176, 3), (31, .iastore, 1), (32, .aload_n 0, 1), (33, .getfield 7, 3), (36, .iload_n 3, 1), (37, .iaload, 1), (38, .istore_n 3, 1), (39, .goto (-37), 3), (42, .return_, 1)]
set_option maxRecDepth 100000 in
theorem dX7_burnsOnce_q0_ok : ax_decs cX7_burnsOnce dX7_burnsOnce_q0 = true := by decide +kernel
theorem dX7_burnsOnce_0 : decode cX7_burnsOnce 0 = .ok (.iload_n 1, 1) := ax_dec dX7_burnsOnce_q0_ok 0 (0, .iload_n 1, 1) rfl
theorem dX7_burnsOnce_1 : decode cX7_burnsOnce 1 = .ok (.istore_n 3, 1) := ax_dec dX7_burnsOnce_q0_ok 1 (1, .istore_n 3, 1) rfl
theorem dX7_burnsOnce_2 : decode cX7_burnsOnce 2 = .ok (.iload_n 3, 1) := ax_dec dX7_burnsOnce_q0_ok 2 (2, .iload_n 3, 1) rfl
theorem dX7_burnsOnce_3 : decode cX7_burnsOnce 3 = .ok (.iconst (-1), 1) := ax_dec dX7_burnsOnce_q0_ok 3 (3, .iconst (-1), 1) rfl
theorem dX7_burnsOnce_4 : decode cX7_burnsOnce 4 = .ok (.if_icmp .eq 38, 3) := ax_dec dX7_burnsOnce_q0_ok 4 (4, .if_icmp .eq 38, 3) rfl
theorem dX7_burnsOnce_7 : decode cX7_burnsOnce 7 = .ok (.aload_n 0, 1) := ax_dec dX7_burnsOnce_q0_ok 5 (7, .aload_n 0, 1) rfl
theorem dX7_burnsOnce_8 : decode cX7_burnsOnce 8 = .ok (.getfield 28, 3) := ax_dec dX7_burnsOnce_q0_ok 6 (8, .getfield 28, 3) rfl
theorem dX7_burnsOnce_11 : decode cX7_burnsOnce 11 = .ok (.iload_n 3, 1) := ax_dec dX7_burnsOnce_q0_ok 7 (11, .iload_n 3, 1) rfl
theorem dX7_burnsOnce_12 : decode cX7_burnsOnce 12 = .ok (.aload_n 0, 1) := ax_dec dX7_burnsOnce_q0_ok 8 (12, .aload_n 0, 1) rfl
theorem dX7_burnsOnce_13 : decode cX7_burnsOnce 13 = .ok (.getfield 28, 3) := ax_dec dX7_burnsOnce_q0_ok 9 (13, .getfield 28, 3) rfl
theorem dX7_burnsOnce_16 : decode cX7_burnsOnce 16 = .ok (.iload_n 3, 1) := ax_dec dX7_burnsOnce_q0_ok 10 (16, .iload_n 3, 1) rfl
theorem dX7_burnsOnce_17 : decode cX7_burnsOnce 17 = .ok (.iaload, 1) := ax_dec dX7_burnsOnce_q0_ok 11 (17, .iaload, 1) rfl
theorem dX7_burnsOnce_18 : decode cX7_burnsOnce 18 = .ok (.aload_n 0, 1) := ax_dec dX7_burnsOnce_q0_ok 12 (18, .aload_n 0, 1) rfl
theorem dX7_burnsOnce_19 : decode cX7_burnsOnce 19 = .ok (.iload_n 3, 1) := ax_dec dX7_burnsOnce_q0_ok 13 (19, .iload_n 3, 1) rfl
theorem dX7_burnsOnce_20 : decode cX7_burnsOnce 20 = .ok (.iload_n 2, 1) := ax_dec dX7_burnsOnce_q0_ok 14 (20, .iload_n 2, 1) rfl
theorem dX7_burnsOnce_21 : decode cX7_burnsOnce 21 = .ok (.invokevirtual 226, 3) := ax_dec dX7_burnsOnce_q0_ok 15 (21, .invokevirtual 226, 3) rfl
theorem dX7_burnsOnce_24 : decode cX7_burnsOnce 24 = .ok (.iadd, 1) := ax_dec dX7_burnsOnce_q0_ok 16 (24, .iadd, 1) rfl
theorem dX7_burnsOnce_25 : decode cX7_burnsOnce 25 = .ok (.iconst 0, 1) := ax_dec dX7_burnsOnce_q0_ok 17 (25, .iconst 0, 1) rfl
theorem dX7_burnsOnce_26 : decode cX7_burnsOnce 26 = .ok (.bipush 99, 2) := ax_dec dX7_burnsOnce_q0_ok 18 (26, .bipush 99, 2) rfl
theorem dX7_burnsOnce_28 : decode cX7_burnsOnce 28 = .ok (.invokestatic 176, 3) := ax_dec dX7_burnsOnce_q0_ok 19 (28, .invokestatic 176, 3) rfl
theorem dX7_burnsOnce_31 : decode cX7_burnsOnce 31 = .ok (.iastore, 1) := ax_dec dX7_burnsOnce_q0_ok 20 (31, .iastore, 1) rfl
theorem dX7_burnsOnce_32 : decode cX7_burnsOnce 32 = .ok (.aload_n 0, 1) := ax_dec dX7_burnsOnce_q0_ok 21 (32, .aload_n 0, 1) rfl
theorem dX7_burnsOnce_33 : decode cX7_burnsOnce 33 = .ok (.getfield 7, 3) := ax_dec dX7_burnsOnce_q0_ok 22 (33, .getfield 7, 3) rfl
theorem dX7_burnsOnce_36 : decode cX7_burnsOnce 36 = .ok (.iload_n 3, 1) := ax_dec dX7_burnsOnce_q0_ok 23 (36, .iload_n 3, 1) rfl
theorem dX7_burnsOnce_37 : decode cX7_burnsOnce 37 = .ok (.iaload, 1) := ax_dec dX7_burnsOnce_q0_ok 24 (37, .iaload, 1) rfl
theorem dX7_burnsOnce_38 : decode cX7_burnsOnce 38 = .ok (.istore_n 3, 1) := ax_dec dX7_burnsOnce_q0_ok 25 (38, .istore_n 3, 1) rfl
theorem dX7_burnsOnce_39 : decode cX7_burnsOnce 39 = .ok (.goto (-37), 3) := ax_dec dX7_burnsOnce_q0_ok 26 (39, .goto (-37), 3) rfl
theorem dX7_burnsOnce_42 : decode cX7_burnsOnce 42 = .ok (.return_, 1) := ax_dec dX7_burnsOnce_q0_ok 27 (42, .return_, 1) rfl
def dX7_sootOf_q0 : List (Nat × (Instr × Nat)) := [(0, .iconst 0, 1), (1, .istore_n 2, 1), (2, .iload_n 1, 1), (3, .istore_n 3, 1), (4, .iload_n 3, 1), (5, .iconst (-1), 1), (6, .if_icmp .eq 22, 3), (9, .iload_n 2, 1), (10, .aload_n 0, 1), (11, .getfield 28, 3), (14, .iload_n 3, 1), (15, .iaload, 1), (16, .iadd, 1), (17, .istore_n 2, 1), (18, .aload_n 0, 1), (19, .getfield 7, 3), (22, .iload_n 3, 1), (23, .iaload, 1), (24, .istore_n 3, 1), (25, .goto (-21), 3), (28, .iload_n 2, 1), (29, .ireturn, 1)]
set_option maxRecDepth 100000 in
theorem dX7_sootOf_q0_ok : ax_decs cX7_sootOf dX7_sootOf_q0 = true := by decide +kernel
theorem dX7_sootOf_0 : decode cX7_sootOf 0 = .ok (.iconst 0, 1) := ax_dec dX7_sootOf_q0_ok 0 (0, .iconst 0, 1) rfl
theorem dX7_sootOf_1 : decode cX7_sootOf 1 = .ok (.istore_n 2, 1) := ax_dec dX7_sootOf_q0_ok 1 (1, .istore_n 2, 1) rfl
theorem dX7_sootOf_2 : decode cX7_sootOf 2 = .ok (.iload_n 1, 1) := ax_dec dX7_sootOf_q0_ok 2 (2, .iload_n 1, 1) rfl
theorem dX7_sootOf_3 : decode cX7_sootOf 3 = .ok (.istore_n 3, 1) := ax_dec dX7_sootOf_q0_ok 3 (3, .istore_n 3, 1) rfl
theorem dX7_sootOf_4 : decode cX7_sootOf 4 = .ok (.iload_n 3, 1) := ax_dec dX7_sootOf_q0_ok 4 (4, .iload_n 3, 1) rfl
theorem dX7_sootOf_5 : decode cX7_sootOf 5 = .ok (.iconst (-1), 1) := ax_dec dX7_sootOf_q0_ok 5 (5, .iconst (-1), 1) rfl
theorem dX7_sootOf_6 : decode cX7_sootOf 6 = .ok (.if_icmp .eq 22, 3) := ax_dec dX7_sootOf_q0_ok 6 (6, .if_icmp .eq 22, 3) rfl
theorem dX7_sootOf_9 : decode cX7_sootOf 9 = .ok (.iload_n 2, 1) := ax_dec dX7_sootOf_q0_ok 7 (9, .iload_n 2, 1) rfl
theorem dX7_sootOf_10 : decode cX7_sootOf 10 = .ok (.aload_n 0, 1) := ax_dec dX7_sootOf_q0_ok 8 (10, .aload_n 0, 1) rfl
theorem dX7_sootOf_11 : decode cX7_sootOf 11 = .ok (.getfield 28, 3) := ax_dec dX7_sootOf_q0_ok 9 (11, .getfield 28, 3) rfl
theorem dX7_sootOf_14 : decode cX7_sootOf 14 = .ok (.iload_n 3, 1) := ax_dec dX7_sootOf_q0_ok 10 (14, .iload_n 3, 1) rfl
theorem dX7_sootOf_15 : decode cX7_sootOf 15 = .ok (.iaload, 1) := ax_dec dX7_sootOf_q0_ok 11 (15, .iaload, 1) rfl
theorem dX7_sootOf_16 : decode cX7_sootOf 16 = .ok (.iadd, 1) := ax_dec dX7_sootOf_q0_ok 12 (16, .iadd, 1) rfl
theorem dX7_sootOf_17 : decode cX7_sootOf 17 = .ok (.istore_n 2, 1) := ax_dec dX7_sootOf_q0_ok 13 (17, .istore_n 2, 1) rfl
theorem dX7_sootOf_18 : decode cX7_sootOf 18 = .ok (.aload_n 0, 1) := ax_dec dX7_sootOf_q0_ok 14 (18, .aload_n 0, 1) rfl
theorem dX7_sootOf_19 : decode cX7_sootOf 19 = .ok (.getfield 7, 3) := ax_dec dX7_sootOf_q0_ok 15 (19, .getfield 7, 3) rfl
theorem dX7_sootOf_22 : decode cX7_sootOf 22 = .ok (.iload_n 3, 1) := ax_dec dX7_sootOf_q0_ok 16 (22, .iload_n 3, 1) rfl
theorem dX7_sootOf_23 : decode cX7_sootOf 23 = .ok (.iaload, 1) := ax_dec dX7_sootOf_q0_ok 17 (23, .iaload, 1) rfl
theorem dX7_sootOf_24 : decode cX7_sootOf 24 = .ok (.istore_n 3, 1) := ax_dec dX7_sootOf_q0_ok 18 (24, .istore_n 3, 1) rfl
theorem dX7_sootOf_25 : decode cX7_sootOf 25 = .ok (.goto (-21), 3) := ax_dec dX7_sootOf_q0_ok 19 (25, .goto (-21), 3) rfl
theorem dX7_sootOf_28 : decode cX7_sootOf 28 = .ok (.iload_n 2, 1) := ax_dec dX7_sootOf_q0_ok 20 (28, .iload_n 2, 1) rfl
theorem dX7_sootOf_29 : decode cX7_sootOf 29 = .ok (.ireturn, 1) := ax_dec dX7_sootOf_q0_ok 21 (29, .ireturn, 1) rfl
def dX7_fire_q0 : List (Nat × (Instr × Nat)) := [(0, .aload_n 0, 1), (1, .iload_n 1, 1), (2, .invokevirtual 95, 3), (5, .ifCond .ne 6, 3), (8, .bipush (-5), 2), (10, .ireturn, 1), (11, .iload_n 2, 1), (12, .iconst 1, 1), (13, .bipush 20, 2), (15, .invokestatic 87, 3), (18, .ifCond .eq 10, 3), (21, .iload_n 3, 1), (22, .invokestatic 229, 3), (25, .ifCond .ne 6, 3), (28, .bipush (-7), 2), (30, .ireturn, 1), (31, .iconst 0, 1), (32, .istore 4, 2), (34, .iload 4, 2), (36, .iload_n 2, 1), (37, .if_icmp .ge 15, 3), (40, .aload_n 0, 1), (41, .iload_n 1, 1), (42, .iload_n 3, 1), (43, .invokevirtual 232, 3), (46, .iinc 4 1, 3), (49, .goto (-15), 3), (52, .aload_n 0, 1), (53, .iload_n 1, 1), (54, .invokevirtual 236, 3), (57, .ireturn, 1)]
set_option maxRecDepth 100000 in
theorem dX7_fire_q0_ok : ax_decs cX7_fire dX7_fire_q0 = true := by decide +kernel
theorem dX7_fire_0 : decode cX7_fire 0 = .ok (.aload_n 0, 1) := ax_dec dX7_fire_q0_ok 0 (0, .aload_n 0, 1) rfl
theorem dX7_fire_1 : decode cX7_fire 1 = .ok (.iload_n 1, 1) := ax_dec dX7_fire_q0_ok 1 (1, .iload_n 1, 1) rfl
theorem dX7_fire_2 : decode cX7_fire 2 = .ok (.invokevirtual 95, 3) := ax_dec dX7_fire_q0_ok 2 (2, .invokevirtual 95, 3) rfl
theorem dX7_fire_5 : decode cX7_fire 5 = .ok (.ifCond .ne 6, 3) := ax_dec dX7_fire_q0_ok 3 (5, .ifCond .ne 6, 3) rfl
theorem dX7_fire_8 : decode cX7_fire 8 = .ok (.bipush (-5), 2) := ax_dec dX7_fire_q0_ok 4 (8, .bipush (-5), 2) rfl
theorem dX7_fire_10 : decode cX7_fire 10 = .ok (.ireturn, 1) := ax_dec dX7_fire_q0_ok 5 (10, .ireturn, 1) rfl
theorem dX7_fire_11 : decode cX7_fire 11 = .ok (.iload_n 2, 1) := ax_dec dX7_fire_q0_ok 6 (11, .iload_n 2, 1) rfl
theorem dX7_fire_12 : decode cX7_fire 12 = .ok (.iconst 1, 1) := ax_dec dX7_fire_q0_ok 7 (12, .iconst 1, 1) rfl
theorem dX7_fire_13 : decode cX7_fire 13 = .ok (.bipush 20, 2) := ax_dec dX7_fire_q0_ok 8 (13, .bipush 20, 2) rfl
theorem dX7_fire_15 : decode cX7_fire 15 = .ok (.invokestatic 87, 3) := ax_dec dX7_fire_q0_ok 9 (15, .invokestatic 87, 3) rfl
theorem dX7_fire_18 : decode cX7_fire 18 = .ok (.ifCond .eq 10, 3) := ax_dec dX7_fire_q0_ok 10 (18, .ifCond .eq 10, 3) rfl
theorem dX7_fire_21 : decode cX7_fire 21 = .ok (.iload_n 3, 1) := ax_dec dX7_fire_q0_ok 11 (21, .iload_n 3, 1) rfl
theorem dX7_fire_22 : decode cX7_fire 22 = .ok (.invokestatic 229, 3) := ax_dec dX7_fire_q0_ok 12 (22, .invokestatic 229, 3) rfl
theorem dX7_fire_25 : decode cX7_fire 25 = .ok (.ifCond .ne 6, 3) := ax_dec dX7_fire_q0_ok 13 (25, .ifCond .ne 6, 3) rfl
theorem dX7_fire_28 : decode cX7_fire 28 = .ok (.bipush (-7), 2) := ax_dec dX7_fire_q0_ok 14 (28, .bipush (-7), 2) rfl
theorem dX7_fire_30 : decode cX7_fire 30 = .ok (.ireturn, 1) := ax_dec dX7_fire_q0_ok 15 (30, .ireturn, 1) rfl
theorem dX7_fire_31 : decode cX7_fire 31 = .ok (.iconst 0, 1) := ax_dec dX7_fire_q0_ok 16 (31, .iconst 0, 1) rfl
theorem dX7_fire_32 : decode cX7_fire 32 = .ok (.istore 4, 2) := ax_dec dX7_fire_q0_ok 17 (32, .istore 4, 2) rfl
theorem dX7_fire_34 : decode cX7_fire 34 = .ok (.iload 4, 2) := ax_dec dX7_fire_q0_ok 18 (34, .iload 4, 2) rfl
theorem dX7_fire_36 : decode cX7_fire 36 = .ok (.iload_n 2, 1) := ax_dec dX7_fire_q0_ok 19 (36, .iload_n 2, 1) rfl
theorem dX7_fire_37 : decode cX7_fire 37 = .ok (.if_icmp .ge 15, 3) := ax_dec dX7_fire_q0_ok 20 (37, .if_icmp .ge 15, 3) rfl
theorem dX7_fire_40 : decode cX7_fire 40 = .ok (.aload_n 0, 1) := ax_dec dX7_fire_q0_ok 21 (40, .aload_n 0, 1) rfl
theorem dX7_fire_41 : decode cX7_fire 41 = .ok (.iload_n 1, 1) := ax_dec dX7_fire_q0_ok 22 (41, .iload_n 1, 1) rfl
theorem dX7_fire_42 : decode cX7_fire 42 = .ok (.iload_n 3, 1) := ax_dec dX7_fire_q0_ok 23 (42, .iload_n 3, 1) rfl
theorem dX7_fire_43 : decode cX7_fire 43 = .ok (.invokevirtual 232, 3) := ax_dec dX7_fire_q0_ok 24 (43, .invokevirtual 232, 3) rfl
theorem dX7_fire_46 : decode cX7_fire 46 = .ok (.iinc 4 1, 3) := ax_dec dX7_fire_q0_ok 25 (46, .iinc 4 1, 3) rfl
theorem dX7_fire_49 : decode cX7_fire 49 = .ok (.goto (-15), 3) := ax_dec dX7_fire_q0_ok 26 (49, .goto (-15), 3) rfl
theorem dX7_fire_52 : decode cX7_fire 52 = .ok (.aload_n 0, 1) := ax_dec dX7_fire_q0_ok 27 (52, .aload_n 0, 1) rfl
theorem dX7_fire_53 : decode cX7_fire 53 = .ok (.iload_n 1, 1) := ax_dec dX7_fire_q0_ok 28 (53, .iload_n 1, 1) rfl
theorem dX7_fire_54 : decode cX7_fire 54 = .ok (.invokevirtual 236, 3) := ax_dec dX7_fire_q0_ok 29 (54, .invokevirtual 236, 3) rfl
theorem dX7_fire_57 : decode cX7_fire 57 = .ok (.ireturn, 1) := ax_dec dX7_fire_q0_ok 30 (57, .ireturn, 1) rfl
def dX7_smoke_q0 : List (Nat × (Instr × Nat)) := [(0, .aload_n 0, 1), (1, .iload_n 1, 1), (2, .invokevirtual 95, 3), (5, .ifCond .eq 11, 3), (8, .aload_n 0, 1), (9, .iload_n 2, 1), (10, .invokevirtual 91, 3), (13, .ifCond .ne 6, 3), (16, .bipush (-5), 2), (18, .ireturn, 1), (19, .iload_n 3, 1), (20, .iconst 0, 1), (21, .iconst 1, 1), (22, .invokestatic 87, 3), (25, .ifCond .ne 6, 3), (28, .bipush (-7), 2), (30, .ireturn, 1), (31, .sipush 1000, 3), (34, .istore 4, 2), (36, .iconst 0, 1), (37, .istore 5, 2), (39, .iload_n 1, 1), (40, .istore 6, 2), (42, .iload 6, 2), (44, .iconst (-1), 1), (45, .if_icmp .eq 51, 3), (48, .iload 4, 2), (50, .aload_n 0, 1), (51, .iload 6, 2), (53, .invokevirtual 193, 3), (56, .imul, 1), (57, .bipush 100, 2)]
set_option maxRecDepth 100000 in
theorem dX7_smoke_q0_ok : ax_decs cX7_smoke dX7_smoke_q0 = true := by decide +kernel
theorem dX7_smoke_0 : decode cX7_smoke 0 = .ok (.aload_n 0, 1) := ax_dec dX7_smoke_q0_ok 0 (0, .aload_n 0, 1) rfl
theorem dX7_smoke_1 : decode cX7_smoke 1 = .ok (.iload_n 1, 1) := ax_dec dX7_smoke_q0_ok 1 (1, .iload_n 1, 1) rfl
theorem dX7_smoke_2 : decode cX7_smoke 2 = .ok (.invokevirtual 95, 3) := ax_dec dX7_smoke_q0_ok 2 (2, .invokevirtual 95, 3) rfl
theorem dX7_smoke_5 : decode cX7_smoke 5 = .ok (.ifCond .eq 11, 3) := ax_dec dX7_smoke_q0_ok 3 (5, .ifCond .eq 11, 3) rfl
theorem dX7_smoke_8 : decode cX7_smoke 8 = .ok (.aload_n 0, 1) := ax_dec dX7_smoke_q0_ok 4 (8, .aload_n 0, 1) rfl
theorem dX7_smoke_9 : decode cX7_smoke 9 = .ok (.iload_n 2, 1) := ax_dec dX7_smoke_q0_ok 5 (9, .iload_n 2, 1) rfl
theorem dX7_smoke_10 : decode cX7_smoke 10 = .ok (.invokevirtual 91, 3) := ax_dec dX7_smoke_q0_ok 6 (10, .invokevirtual 91, 3) rfl
theorem dX7_smoke_13 : decode cX7_smoke 13 = .ok (.ifCond .ne 6, 3) := ax_dec dX7_smoke_q0_ok 7 (13, .ifCond .ne 6, 3) rfl
theorem dX7_smoke_16 : decode cX7_smoke 16 = .ok (.bipush (-5), 2) := ax_dec dX7_smoke_q0_ok 8 (16, .bipush (-5), 2) rfl
theorem dX7_smoke_18 : decode cX7_smoke 18 = .ok (.ireturn, 1) := ax_dec dX7_smoke_q0_ok 9 (18, .ireturn, 1) rfl
theorem dX7_smoke_19 : decode cX7_smoke 19 = .ok (.iload_n 3, 1) := ax_dec dX7_smoke_q0_ok 10 (19, .iload_n 3, 1) rfl
theorem dX7_smoke_20 : decode cX7_smoke 20 = .ok (.iconst 0, 1) := ax_dec dX7_smoke_q0_ok 11 (20, .iconst 0, 1) rfl
theorem dX7_smoke_21 : decode cX7_smoke 21 = .ok (.iconst 1, 1) := ax_dec dX7_smoke_q0_ok 12 (21, .iconst 1, 1) rfl
theorem dX7_smoke_22 : decode cX7_smoke 22 = .ok (.invokestatic 87, 3) := ax_dec dX7_smoke_q0_ok 13 (22, .invokestatic 87, 3) rfl
theorem dX7_smoke_25 : decode cX7_smoke 25 = .ok (.ifCond .ne 6, 3) := ax_dec dX7_smoke_q0_ok 14 (25, .ifCond .ne 6, 3) rfl
theorem dX7_smoke_28 : decode cX7_smoke 28 = .ok (.bipush (-7), 2) := ax_dec dX7_smoke_q0_ok 15 (28, .bipush (-7), 2) rfl
theorem dX7_smoke_30 : decode cX7_smoke 30 = .ok (.ireturn, 1) := ax_dec dX7_smoke_q0_ok 16 (30, .ireturn, 1) rfl
theorem dX7_smoke_31 : decode cX7_smoke 31 = .ok (.sipush 1000, 3) := ax_dec dX7_smoke_q0_ok 17 (31, .sipush 1000, 3) rfl
theorem dX7_smoke_34 : decode cX7_smoke 34 = .ok (.istore 4, 2) := ax_dec dX7_smoke_q0_ok 18 (34, .istore 4, 2) rfl
theorem dX7_smoke_36 : decode cX7_smoke 36 = .ok (.iconst 0, 1) := ax_dec dX7_smoke_q0_ok 19 (36, .iconst 0, 1) rfl
theorem dX7_smoke_37 : decode cX7_smoke 37 = .ok (.istore 5, 2) := ax_dec dX7_smoke_q0_ok 20 (37, .istore 5, 2) rfl
theorem dX7_smoke_39 : decode cX7_smoke 39 = .ok (.iload_n 1, 1) := ax_dec dX7_smoke_q0_ok 21 (39, .iload_n 1, 1) rfl
theorem dX7_smoke_40 : decode cX7_smoke 40 = .ok (.istore 6, 2) := ax_dec dX7_smoke_q0_ok 22 (40, .istore 6, 2) rfl
theorem dX7_smoke_42 : decode cX7_smoke 42 = .ok (.iload 6, 2) := ax_dec dX7_smoke_q0_ok 23 (42, .iload 6, 2) rfl
theorem dX7_smoke_44 : decode cX7_smoke 44 = .ok (.iconst (-1), 1) := ax_dec dX7_smoke_q0_ok 24 (44, .iconst (-1), 1) rfl
theorem dX7_smoke_45 : decode cX7_smoke 45 = .ok (.if_icmp .eq 51, 3) := ax_dec dX7_smoke_q0_ok 25 (45, .if_icmp .eq 51, 3) rfl
theorem dX7_smoke_48 : decode cX7_smoke 48 = .ok (.iload 4, 2) := ax_dec dX7_smoke_q0_ok 26 (48, .iload 4, 2) rfl
theorem dX7_smoke_50 : decode cX7_smoke 50 = .ok (.aload_n 0, 1) := ax_dec dX7_smoke_q0_ok 27 (50, .aload_n 0, 1) rfl
theorem dX7_smoke_51 : decode cX7_smoke 51 = .ok (.iload 6, 2) := ax_dec dX7_smoke_q0_ok 28 (51, .iload 6, 2) rfl
theorem dX7_smoke_53 : decode cX7_smoke 53 = .ok (.invokevirtual 193, 3) := ax_dec dX7_smoke_q0_ok 29 (53, .invokevirtual 193, 3) rfl
theorem dX7_smoke_56 : decode cX7_smoke 56 = .ok (.imul, 1) := ax_dec dX7_smoke_q0_ok 30 (56, .imul, 1) rfl
theorem dX7_smoke_57 : decode cX7_smoke 57 = .ok (.bipush 100, 2) := ax_dec dX7_smoke_q0_ok 31 (57, .bipush 100, 2) rfl
def dX7_smoke_q1 : List (Nat × (Instr × Nat)) := [(59, .idiv, 1), (60, .istore 7, 2), (62, .iload 6, 2), (64, .iload_n 2, 1), (65, .if_icmp .ne 8, 3), (68, .iload 7, 2), (70, .goto 5, 3), (73, .iload 5, 2), (75, .istore 5, 2), (77, .iload 4, 2), (79, .iload 7, 2), (81, .isub, 1), (82, .istore 4, 2), (84, .aload_n 0, 1), (85, .getfield 7, 3), (88, .iload 6, 2), (90, .iaload, 1), (91, .istore 6, 2), (93, .goto (-51), 3), (96, .iload_n 3, 1), (97, .ifCond .ne 8, 3), (100, .iload 5, 2), (102, .goto 5, 3), (105, .iload 4, 2), (107, .ireturn, 1)]
set_option maxRecDepth 100000 in
theorem dX7_smoke_q1_ok : ax_decs cX7_smoke dX7_smoke_q1 = true := by decide +kernel
theorem dX7_smoke_59 : decode cX7_smoke 59 = .ok (.idiv, 1) := ax_dec dX7_smoke_q1_ok 0 (59, .idiv, 1) rfl
theorem dX7_smoke_60 : decode cX7_smoke 60 = .ok (.istore 7, 2) := ax_dec dX7_smoke_q1_ok 1 (60, .istore 7, 2) rfl
theorem dX7_smoke_62 : decode cX7_smoke 62 = .ok (.iload 6, 2) := ax_dec dX7_smoke_q1_ok 2 (62, .iload 6, 2) rfl
theorem dX7_smoke_64 : decode cX7_smoke 64 = .ok (.iload_n 2, 1) := ax_dec dX7_smoke_q1_ok 3 (64, .iload_n 2, 1) rfl
theorem dX7_smoke_65 : decode cX7_smoke 65 = .ok (.if_icmp .ne 8, 3) := ax_dec dX7_smoke_q1_ok 4 (65, .if_icmp .ne 8, 3) rfl
theorem dX7_smoke_68 : decode cX7_smoke 68 = .ok (.iload 7, 2) := ax_dec dX7_smoke_q1_ok 5 (68, .iload 7, 2) rfl
theorem dX7_smoke_70 : decode cX7_smoke 70 = .ok (.goto 5, 3) := ax_dec dX7_smoke_q1_ok 6 (70, .goto 5, 3) rfl
theorem dX7_smoke_73 : decode cX7_smoke 73 = .ok (.iload 5, 2) := ax_dec dX7_smoke_q1_ok 7 (73, .iload 5, 2) rfl
theorem dX7_smoke_75 : decode cX7_smoke 75 = .ok (.istore 5, 2) := ax_dec dX7_smoke_q1_ok 8 (75, .istore 5, 2) rfl
theorem dX7_smoke_77 : decode cX7_smoke 77 = .ok (.iload 4, 2) := ax_dec dX7_smoke_q1_ok 9 (77, .iload 4, 2) rfl
theorem dX7_smoke_79 : decode cX7_smoke 79 = .ok (.iload 7, 2) := ax_dec dX7_smoke_q1_ok 10 (79, .iload 7, 2) rfl
theorem dX7_smoke_81 : decode cX7_smoke 81 = .ok (.isub, 1) := ax_dec dX7_smoke_q1_ok 11 (81, .isub, 1) rfl
theorem dX7_smoke_82 : decode cX7_smoke 82 = .ok (.istore 4, 2) := ax_dec dX7_smoke_q1_ok 12 (82, .istore 4, 2) rfl
theorem dX7_smoke_84 : decode cX7_smoke 84 = .ok (.aload_n 0, 1) := ax_dec dX7_smoke_q1_ok 13 (84, .aload_n 0, 1) rfl
theorem dX7_smoke_85 : decode cX7_smoke 85 = .ok (.getfield 7, 3) := ax_dec dX7_smoke_q1_ok 14 (85, .getfield 7, 3) rfl
theorem dX7_smoke_88 : decode cX7_smoke 88 = .ok (.iload 6, 2) := ax_dec dX7_smoke_q1_ok 15 (88, .iload 6, 2) rfl
theorem dX7_smoke_90 : decode cX7_smoke 90 = .ok (.iaload, 1) := ax_dec dX7_smoke_q1_ok 16 (90, .iaload, 1) rfl
theorem dX7_smoke_91 : decode cX7_smoke 91 = .ok (.istore 6, 2) := ax_dec dX7_smoke_q1_ok 17 (91, .istore 6, 2) rfl
theorem dX7_smoke_93 : decode cX7_smoke 93 = .ok (.goto (-51), 3) := ax_dec dX7_smoke_q1_ok 18 (93, .goto (-51), 3) rfl
theorem dX7_smoke_96 : decode cX7_smoke 96 = .ok (.iload_n 3, 1) := ax_dec dX7_smoke_q1_ok 19 (96, .iload_n 3, 1) rfl
theorem dX7_smoke_97 : decode cX7_smoke 97 = .ok (.ifCond .ne 8, 3) := ax_dec dX7_smoke_q1_ok 20 (97, .ifCond .ne 8, 3) rfl
theorem dX7_smoke_100 : decode cX7_smoke 100 = .ok (.iload 5, 2) := ax_dec dX7_smoke_q1_ok 21 (100, .iload 5, 2) rfl
theorem dX7_smoke_102 : decode cX7_smoke 102 = .ok (.goto 5, 3) := ax_dec dX7_smoke_q1_ok 22 (102, .goto 5, 3) rfl
theorem dX7_smoke_105 : decode cX7_smoke 105 = .ok (.iload 4, 2) := ax_dec dX7_smoke_q1_ok 23 (105, .iload 4, 2) rfl
theorem dX7_smoke_107 : decode cX7_smoke 107 = .ok (.ireturn, 1) := ax_dec dX7_smoke_q1_ok 24 (107, .ireturn, 1) rfl
def dX7_drawOf_q0 : List (Nat × (Instr × Nat)) := [(0, .iload_n 2, 1), (1, .ineg, 1), (2, .istore_n 3, 1), (3, .iload_n 1, 1), (4, .istore 4, 2), (6, .iload 4, 2), (8, .iconst (-1), 1), (9, .if_icmp .eq 47, 3), (12, .iload_n 3, 1), (13, .iconst 5, 1), (14, .aload_n 0, 1), (15, .getfield 16, 3), (18, .iload 4, 2), (20, .iaload, 1), (21, .imul, 1), (22, .iconst 2, 1), (23, .aload_n 0, 1), (24, .getfield 22, 3), (27, .iload 4, 2), (29, .iaload, 1), (30, .imul, 1), (31, .isub, 1), (32, .bipush 9, 2), (34, .aload_n 0, 1), (35, .iload 4, 2), (37, .invokevirtual 179, 3), (40, .isub, 1), (41, .isub, 1), (42, .iadd, 1), (43, .istore_n 3, 1), (44, .aload_n 0, 1), (45, .getfield 7, 3)]
set_option maxRecDepth 100000 in
theorem dX7_drawOf_q0_ok : ax_decs cX7_drawOf dX7_drawOf_q0 = true := by decide +kernel
theorem dX7_drawOf_0 : decode cX7_drawOf 0 = .ok (.iload_n 2, 1) := ax_dec dX7_drawOf_q0_ok 0 (0, .iload_n 2, 1) rfl
theorem dX7_drawOf_1 : decode cX7_drawOf 1 = .ok (.ineg, 1) := ax_dec dX7_drawOf_q0_ok 1 (1, .ineg, 1) rfl
theorem dX7_drawOf_2 : decode cX7_drawOf 2 = .ok (.istore_n 3, 1) := ax_dec dX7_drawOf_q0_ok 2 (2, .istore_n 3, 1) rfl
theorem dX7_drawOf_3 : decode cX7_drawOf 3 = .ok (.iload_n 1, 1) := ax_dec dX7_drawOf_q0_ok 3 (3, .iload_n 1, 1) rfl
theorem dX7_drawOf_4 : decode cX7_drawOf 4 = .ok (.istore 4, 2) := ax_dec dX7_drawOf_q0_ok 4 (4, .istore 4, 2) rfl
theorem dX7_drawOf_6 : decode cX7_drawOf 6 = .ok (.iload 4, 2) := ax_dec dX7_drawOf_q0_ok 5 (6, .iload 4, 2) rfl
theorem dX7_drawOf_8 : decode cX7_drawOf 8 = .ok (.iconst (-1), 1) := ax_dec dX7_drawOf_q0_ok 6 (8, .iconst (-1), 1) rfl
theorem dX7_drawOf_9 : decode cX7_drawOf 9 = .ok (.if_icmp .eq 47, 3) := ax_dec dX7_drawOf_q0_ok 7 (9, .if_icmp .eq 47, 3) rfl
theorem dX7_drawOf_12 : decode cX7_drawOf 12 = .ok (.iload_n 3, 1) := ax_dec dX7_drawOf_q0_ok 8 (12, .iload_n 3, 1) rfl
theorem dX7_drawOf_13 : decode cX7_drawOf 13 = .ok (.iconst 5, 1) := ax_dec dX7_drawOf_q0_ok 9 (13, .iconst 5, 1) rfl
theorem dX7_drawOf_14 : decode cX7_drawOf 14 = .ok (.aload_n 0, 1) := ax_dec dX7_drawOf_q0_ok 10 (14, .aload_n 0, 1) rfl
theorem dX7_drawOf_15 : decode cX7_drawOf 15 = .ok (.getfield 16, 3) := ax_dec dX7_drawOf_q0_ok 11 (15, .getfield 16, 3) rfl
theorem dX7_drawOf_18 : decode cX7_drawOf 18 = .ok (.iload 4, 2) := ax_dec dX7_drawOf_q0_ok 12 (18, .iload 4, 2) rfl
theorem dX7_drawOf_20 : decode cX7_drawOf 20 = .ok (.iaload, 1) := ax_dec dX7_drawOf_q0_ok 13 (20, .iaload, 1) rfl
theorem dX7_drawOf_21 : decode cX7_drawOf 21 = .ok (.imul, 1) := ax_dec dX7_drawOf_q0_ok 14 (21, .imul, 1) rfl
theorem dX7_drawOf_22 : decode cX7_drawOf 22 = .ok (.iconst 2, 1) := ax_dec dX7_drawOf_q0_ok 15 (22, .iconst 2, 1) rfl
theorem dX7_drawOf_23 : decode cX7_drawOf 23 = .ok (.aload_n 0, 1) := ax_dec dX7_drawOf_q0_ok 16 (23, .aload_n 0, 1) rfl
theorem dX7_drawOf_24 : decode cX7_drawOf 24 = .ok (.getfield 22, 3) := ax_dec dX7_drawOf_q0_ok 17 (24, .getfield 22, 3) rfl
theorem dX7_drawOf_27 : decode cX7_drawOf 27 = .ok (.iload 4, 2) := ax_dec dX7_drawOf_q0_ok 18 (27, .iload 4, 2) rfl
theorem dX7_drawOf_29 : decode cX7_drawOf 29 = .ok (.iaload, 1) := ax_dec dX7_drawOf_q0_ok 19 (29, .iaload, 1) rfl
theorem dX7_drawOf_30 : decode cX7_drawOf 30 = .ok (.imul, 1) := ax_dec dX7_drawOf_q0_ok 20 (30, .imul, 1) rfl
theorem dX7_drawOf_31 : decode cX7_drawOf 31 = .ok (.isub, 1) := ax_dec dX7_drawOf_q0_ok 21 (31, .isub, 1) rfl
theorem dX7_drawOf_32 : decode cX7_drawOf 32 = .ok (.bipush 9, 2) := ax_dec dX7_drawOf_q0_ok 22 (32, .bipush 9, 2) rfl
theorem dX7_drawOf_34 : decode cX7_drawOf 34 = .ok (.aload_n 0, 1) := ax_dec dX7_drawOf_q0_ok 23 (34, .aload_n 0, 1) rfl
theorem dX7_drawOf_35 : decode cX7_drawOf 35 = .ok (.iload 4, 2) := ax_dec dX7_drawOf_q0_ok 24 (35, .iload 4, 2) rfl
theorem dX7_drawOf_37 : decode cX7_drawOf 37 = .ok (.invokevirtual 179, 3) := ax_dec dX7_drawOf_q0_ok 25 (37, .invokevirtual 179, 3) rfl
theorem dX7_drawOf_40 : decode cX7_drawOf 40 = .ok (.isub, 1) := ax_dec dX7_drawOf_q0_ok 26 (40, .isub, 1) rfl
theorem dX7_drawOf_41 : decode cX7_drawOf 41 = .ok (.isub, 1) := ax_dec dX7_drawOf_q0_ok 27 (41, .isub, 1) rfl
theorem dX7_drawOf_42 : decode cX7_drawOf 42 = .ok (.iadd, 1) := ax_dec dX7_drawOf_q0_ok 28 (42, .iadd, 1) rfl
theorem dX7_drawOf_43 : decode cX7_drawOf 43 = .ok (.istore_n 3, 1) := ax_dec dX7_drawOf_q0_ok 29 (43, .istore_n 3, 1) rfl
theorem dX7_drawOf_44 : decode cX7_drawOf 44 = .ok (.aload_n 0, 1) := ax_dec dX7_drawOf_q0_ok 30 (44, .aload_n 0, 1) rfl
theorem dX7_drawOf_45 : decode cX7_drawOf 45 = .ok (.getfield 7, 3) := ax_dec dX7_drawOf_q0_ok 31 (45, .getfield 7, 3) rfl
def dX7_drawOf_q1 : List (Nat × (Instr × Nat)) := [(48, .iload 4, 2), (50, .iaload, 1), (51, .istore 4, 2), (53, .goto (-47), 3), (56, .iload_n 3, 1), (57, .ireturn, 1)]
set_option maxRecDepth 100000 in
theorem dX7_drawOf_q1_ok : ax_decs cX7_drawOf dX7_drawOf_q1 = true := by decide +kernel
theorem dX7_drawOf_48 : decode cX7_drawOf 48 = .ok (.iload 4, 2) := ax_dec dX7_drawOf_q1_ok 0 (48, .iload 4, 2) rfl
theorem dX7_drawOf_50 : decode cX7_drawOf 50 = .ok (.iaload, 1) := ax_dec dX7_drawOf_q1_ok 1 (50, .iaload, 1) rfl
theorem dX7_drawOf_51 : decode cX7_drawOf 51 = .ok (.istore 4, 2) := ax_dec dX7_drawOf_q1_ok 2 (51, .istore 4, 2) rfl
theorem dX7_drawOf_53 : decode cX7_drawOf 53 = .ok (.goto (-47), 3) := ax_dec dX7_drawOf_q1_ok 3 (53, .goto (-47), 3) rfl
theorem dX7_drawOf_56 : decode cX7_drawOf 56 = .ok (.iload_n 3, 1) := ax_dec dX7_drawOf_q1_ok 4 (56, .iload_n 3, 1) rfl
theorem dX7_drawOf_57 : decode cX7_drawOf 57 = .ok (.ireturn, 1) := ax_dec dX7_drawOf_q1_ok 5 (57, .ireturn, 1) rfl
def dX7_draw_q0 : List (Nat × (Instr × Nat)) := [(0, .aload_n 0, 1), (1, .iload_n 1, 1), (2, .invokevirtual 95, 3), (5, .ifCond .eq 22, 3), (8, .iload_n 2, 1), (9, .iconst 0, 1), (10, .bipush 99, 2), (12, .invokestatic 87, 3), (15, .ifCond .eq 12, 3), (18, .aload_n 0, 1), (19, .iload_n 1, 1), (20, .iload_n 2, 1), (21, .invokevirtual 239, 3), (24, .goto 5, 3), (27, .ldc 242, 2), (29, .ireturn, 1)]
set_option maxRecDepth 100000 in
theorem dX7_draw_q0_ok : ax_decs cX7_draw dX7_draw_q0 = true := by decide +kernel
theorem dX7_draw_0 : decode cX7_draw 0 = .ok (.aload_n 0, 1) := ax_dec dX7_draw_q0_ok 0 (0, .aload_n 0, 1) rfl
theorem dX7_draw_1 : decode cX7_draw 1 = .ok (.iload_n 1, 1) := ax_dec dX7_draw_q0_ok 1 (1, .iload_n 1, 1) rfl
theorem dX7_draw_2 : decode cX7_draw 2 = .ok (.invokevirtual 95, 3) := ax_dec dX7_draw_q0_ok 2 (2, .invokevirtual 95, 3) rfl
theorem dX7_draw_5 : decode cX7_draw 5 = .ok (.ifCond .eq 22, 3) := ax_dec dX7_draw_q0_ok 3 (5, .ifCond .eq 22, 3) rfl
theorem dX7_draw_8 : decode cX7_draw 8 = .ok (.iload_n 2, 1) := ax_dec dX7_draw_q0_ok 4 (8, .iload_n 2, 1) rfl
theorem dX7_draw_9 : decode cX7_draw 9 = .ok (.iconst 0, 1) := ax_dec dX7_draw_q0_ok 5 (9, .iconst 0, 1) rfl
theorem dX7_draw_10 : decode cX7_draw 10 = .ok (.bipush 99, 2) := ax_dec dX7_draw_q0_ok 6 (10, .bipush 99, 2) rfl
theorem dX7_draw_12 : decode cX7_draw 12 = .ok (.invokestatic 87, 3) := ax_dec dX7_draw_q0_ok 7 (12, .invokestatic 87, 3) rfl
theorem dX7_draw_15 : decode cX7_draw 15 = .ok (.ifCond .eq 12, 3) := ax_dec dX7_draw_q0_ok 8 (15, .ifCond .eq 12, 3) rfl
theorem dX7_draw_18 : decode cX7_draw 18 = .ok (.aload_n 0, 1) := ax_dec dX7_draw_q0_ok 9 (18, .aload_n 0, 1) rfl
theorem dX7_draw_19 : decode cX7_draw 19 = .ok (.iload_n 1, 1) := ax_dec dX7_draw_q0_ok 10 (19, .iload_n 1, 1) rfl
theorem dX7_draw_20 : decode cX7_draw 20 = .ok (.iload_n 2, 1) := ax_dec dX7_draw_q0_ok 11 (20, .iload_n 2, 1) rfl
theorem dX7_draw_21 : decode cX7_draw 21 = .ok (.invokevirtual 239, 3) := ax_dec dX7_draw_q0_ok 12 (21, .invokevirtual 239, 3) rfl
theorem dX7_draw_24 : decode cX7_draw 24 = .ok (.goto 5, 3) := ax_dec dX7_draw_q0_ok 13 (24, .goto 5, 3) rfl
theorem dX7_draw_27 : decode cX7_draw 27 = .ok (.ldc 242, 2) := ax_dec dX7_draw_q0_ok 14 (27, .ldc 242, 2) rfl
theorem dX7_draw_29 : decode cX7_draw 29 = .ok (.ireturn, 1) := ax_dec dX7_draw_q0_ok 15 (29, .ireturn, 1) rfl
def dX7_smokes_q0 : List (Nat × (Instr × Nat)) := [(0, .iload_n 1, 1), (1, .iconst 0, 1), (2, .bipush 99, 2), (4, .invokestatic 87, 3), (7, .ifCond .ne 6, 3), (10, .bipush (-2), 2), (12, .ireturn, 1), (13, .iconst 0, 1), (14, .istore_n 2, 1), (15, .iconst 0, 1), (16, .istore_n 3, 1), (17, .iload_n 3, 1), (18, .aload_n 0, 1), (19, .getfield 84, 3), (22, .if_icmp .ge 36, 3), (25, .iload_n 2, 1), (26, .aload_n 0, 1), (27, .iload_n 3, 1), (28, .invokevirtual 95, 3), (31, .ifCond .eq 18, 3), (34, .aload_n 0, 1), (35, .iload_n 3, 1), (36, .iload_n 1, 1), (37, .invokevirtual 239, 3), (40, .ifCond .ge 9, 3), (43, .iconst 1, 1), (44, .iload_n 3, 1), (45, .ishl, 1), (46, .goto 4, 3), (49, .iconst 0, 1), (50, .ior, 1), (51, .istore_n 2, 1)]
set_option maxRecDepth 100000 in
theorem dX7_smokes_q0_ok : ax_decs cX7_smokes dX7_smokes_q0 = true := by decide +kernel
theorem dX7_smokes_0 : decode cX7_smokes 0 = .ok (.iload_n 1, 1) := ax_dec dX7_smokes_q0_ok 0 (0, .iload_n 1, 1) rfl
theorem dX7_smokes_1 : decode cX7_smokes 1 = .ok (.iconst 0, 1) := ax_dec dX7_smokes_q0_ok 1 (1, .iconst 0, 1) rfl
theorem dX7_smokes_2 : decode cX7_smokes 2 = .ok (.bipush 99, 2) := ax_dec dX7_smokes_q0_ok 2 (2, .bipush 99, 2) rfl
theorem dX7_smokes_4 : decode cX7_smokes 4 = .ok (.invokestatic 87, 3) := ax_dec dX7_smokes_q0_ok 3 (4, .invokestatic 87, 3) rfl
theorem dX7_smokes_7 : decode cX7_smokes 7 = .ok (.ifCond .ne 6, 3) := ax_dec dX7_smokes_q0_ok 4 (7, .ifCond .ne 6, 3) rfl
theorem dX7_smokes_10 : decode cX7_smokes 10 = .ok (.bipush (-2), 2) := ax_dec dX7_smokes_q0_ok 5 (10, .bipush (-2), 2) rfl
theorem dX7_smokes_12 : decode cX7_smokes 12 = .ok (.ireturn, 1) := ax_dec dX7_smokes_q0_ok 6 (12, .ireturn, 1) rfl
theorem dX7_smokes_13 : decode cX7_smokes 13 = .ok (.iconst 0, 1) := ax_dec dX7_smokes_q0_ok 7 (13, .iconst 0, 1) rfl
theorem dX7_smokes_14 : decode cX7_smokes 14 = .ok (.istore_n 2, 1) := ax_dec dX7_smokes_q0_ok 8 (14, .istore_n 2, 1) rfl
theorem dX7_smokes_15 : decode cX7_smokes 15 = .ok (.iconst 0, 1) := ax_dec dX7_smokes_q0_ok 9 (15, .iconst 0, 1) rfl
theorem dX7_smokes_16 : decode cX7_smokes 16 = .ok (.istore_n 3, 1) := ax_dec dX7_smokes_q0_ok 10 (16, .istore_n 3, 1) rfl
theorem dX7_smokes_17 : decode cX7_smokes 17 = .ok (.iload_n 3, 1) := ax_dec dX7_smokes_q0_ok 11 (17, .iload_n 3, 1) rfl
theorem dX7_smokes_18 : decode cX7_smokes 18 = .ok (.aload_n 0, 1) := ax_dec dX7_smokes_q0_ok 12 (18, .aload_n 0, 1) rfl
theorem dX7_smokes_19 : decode cX7_smokes 19 = .ok (.getfield 84, 3) := ax_dec dX7_smokes_q0_ok 13 (19, .getfield 84, 3) rfl
theorem dX7_smokes_22 : decode cX7_smokes 22 = .ok (.if_icmp .ge 36, 3) := ax_dec dX7_smokes_q0_ok 14 (22, .if_icmp .ge 36, 3) rfl
theorem dX7_smokes_25 : decode cX7_smokes 25 = .ok (.iload_n 2, 1) := ax_dec dX7_smokes_q0_ok 15 (25, .iload_n 2, 1) rfl
theorem dX7_smokes_26 : decode cX7_smokes 26 = .ok (.aload_n 0, 1) := ax_dec dX7_smokes_q0_ok 16 (26, .aload_n 0, 1) rfl
theorem dX7_smokes_27 : decode cX7_smokes 27 = .ok (.iload_n 3, 1) := ax_dec dX7_smokes_q0_ok 17 (27, .iload_n 3, 1) rfl
theorem dX7_smokes_28 : decode cX7_smokes 28 = .ok (.invokevirtual 95, 3) := ax_dec dX7_smokes_q0_ok 18 (28, .invokevirtual 95, 3) rfl
theorem dX7_smokes_31 : decode cX7_smokes 31 = .ok (.ifCond .eq 18, 3) := ax_dec dX7_smokes_q0_ok 19 (31, .ifCond .eq 18, 3) rfl
theorem dX7_smokes_34 : decode cX7_smokes 34 = .ok (.aload_n 0, 1) := ax_dec dX7_smokes_q0_ok 20 (34, .aload_n 0, 1) rfl
theorem dX7_smokes_35 : decode cX7_smokes 35 = .ok (.iload_n 3, 1) := ax_dec dX7_smokes_q0_ok 21 (35, .iload_n 3, 1) rfl
theorem dX7_smokes_36 : decode cX7_smokes 36 = .ok (.iload_n 1, 1) := ax_dec dX7_smokes_q0_ok 22 (36, .iload_n 1, 1) rfl
theorem dX7_smokes_37 : decode cX7_smokes 37 = .ok (.invokevirtual 239, 3) := ax_dec dX7_smokes_q0_ok 23 (37, .invokevirtual 239, 3) rfl
theorem dX7_smokes_40 : decode cX7_smokes 40 = .ok (.ifCond .ge 9, 3) := ax_dec dX7_smokes_q0_ok 24 (40, .ifCond .ge 9, 3) rfl
theorem dX7_smokes_43 : decode cX7_smokes 43 = .ok (.iconst 1, 1) := ax_dec dX7_smokes_q0_ok 25 (43, .iconst 1, 1) rfl
theorem dX7_smokes_44 : decode cX7_smokes 44 = .ok (.iload_n 3, 1) := ax_dec dX7_smokes_q0_ok 26 (44, .iload_n 3, 1) rfl
theorem dX7_smokes_45 : decode cX7_smokes 45 = .ok (.ishl, 1) := ax_dec dX7_smokes_q0_ok 27 (45, .ishl, 1) rfl
theorem dX7_smokes_46 : decode cX7_smokes 46 = .ok (.goto 4, 3) := ax_dec dX7_smokes_q0_ok 28 (46, .goto 4, 3) rfl
theorem dX7_smokes_49 : decode cX7_smokes 49 = .ok (.iconst 0, 1) := ax_dec dX7_smokes_q0_ok 29 (49, .iconst 0, 1) rfl
theorem dX7_smokes_50 : decode cX7_smokes 50 = .ok (.ior, 1) := ax_dec dX7_smokes_q0_ok 30 (50, .ior, 1) rfl
theorem dX7_smokes_51 : decode cX7_smokes 51 = .ok (.istore_n 2, 1) := ax_dec dX7_smokes_q0_ok 31 (51, .istore_n 2, 1) rfl
def dX7_smokes_q1 : List (Nat × (Instr × Nat)) := [(52, .iinc 3 1, 3), (55, .goto (-38), 3), (58, .iload_n 2, 1), (59, .ireturn, 1)]
set_option maxRecDepth 100000 in
theorem dX7_smokes_q1_ok : ax_decs cX7_smokes dX7_smokes_q1 = true := by decide +kernel
theorem dX7_smokes_52 : decode cX7_smokes 52 = .ok (.iinc 3 1, 3) := ax_dec dX7_smokes_q1_ok 0 (52, .iinc 3 1, 3) rfl
theorem dX7_smokes_55 : decode cX7_smokes 55 = .ok (.goto (-38), 3) := ax_dec dX7_smokes_q1_ok 1 (55, .goto (-38), 3) rfl
theorem dX7_smokes_58 : decode cX7_smokes 58 = .ok (.iload_n 2, 1) := ax_dec dX7_smokes_q1_ok 2 (58, .iload_n 2, 1) rfl
theorem dX7_smokes_59 : decode cX7_smokes 59 = .ok (.ireturn, 1) := ax_dec dX7_smokes_q1_ok 3 (59, .ireturn, 1) rfl
def dX7_keeps_q0 : List (Nat × (Instr × Nat)) := [(0, .iconst 0, 1), (1, .istore_n 1, 1), (2, .iload_n 1, 1), (3, .bipush 10, 2), (5, .if_icmp .ge 21, 3), (8, .aload_n 0, 1), (9, .getfield 67, 3), (12, .iload_n 1, 1), (13, .aload_n 0, 1), (14, .getfield 28, 3), (17, .iload_n 1, 1), (18, .iaload, 1), (19, .iastore, 1), (20, .iinc 1 1, 3), (23, .goto (-21), 3), (26, .return_, 1)]
set_option maxRecDepth 100000 in
theorem dX7_keeps_q0_ok : ax_decs cX7_keeps dX7_keeps_q0 = true := by decide +kernel
theorem dX7_keeps_0 : decode cX7_keeps 0 = .ok (.iconst 0, 1) := ax_dec dX7_keeps_q0_ok 0 (0, .iconst 0, 1) rfl
theorem dX7_keeps_1 : decode cX7_keeps 1 = .ok (.istore_n 1, 1) := ax_dec dX7_keeps_q0_ok 1 (1, .istore_n 1, 1) rfl
theorem dX7_keeps_2 : decode cX7_keeps 2 = .ok (.iload_n 1, 1) := ax_dec dX7_keeps_q0_ok 2 (2, .iload_n 1, 1) rfl
theorem dX7_keeps_3 : decode cX7_keeps 3 = .ok (.bipush 10, 2) := ax_dec dX7_keeps_q0_ok 3 (3, .bipush 10, 2) rfl
theorem dX7_keeps_5 : decode cX7_keeps 5 = .ok (.if_icmp .ge 21, 3) := ax_dec dX7_keeps_q0_ok 4 (5, .if_icmp .ge 21, 3) rfl
theorem dX7_keeps_8 : decode cX7_keeps 8 = .ok (.aload_n 0, 1) := ax_dec dX7_keeps_q0_ok 5 (8, .aload_n 0, 1) rfl
theorem dX7_keeps_9 : decode cX7_keeps 9 = .ok (.getfield 67, 3) := ax_dec dX7_keeps_q0_ok 6 (9, .getfield 67, 3) rfl
theorem dX7_keeps_12 : decode cX7_keeps 12 = .ok (.iload_n 1, 1) := ax_dec dX7_keeps_q0_ok 7 (12, .iload_n 1, 1) rfl
theorem dX7_keeps_13 : decode cX7_keeps 13 = .ok (.aload_n 0, 1) := ax_dec dX7_keeps_q0_ok 8 (13, .aload_n 0, 1) rfl
theorem dX7_keeps_14 : decode cX7_keeps 14 = .ok (.getfield 28, 3) := ax_dec dX7_keeps_q0_ok 9 (14, .getfield 28, 3) rfl
theorem dX7_keeps_17 : decode cX7_keeps 17 = .ok (.iload_n 1, 1) := ax_dec dX7_keeps_q0_ok 10 (17, .iload_n 1, 1) rfl
theorem dX7_keeps_18 : decode cX7_keeps 18 = .ok (.iaload, 1) := ax_dec dX7_keeps_q0_ok 11 (18, .iaload, 1) rfl
theorem dX7_keeps_19 : decode cX7_keeps 19 = .ok (.iastore, 1) := ax_dec dX7_keeps_q0_ok 12 (19, .iastore, 1) rfl
theorem dX7_keeps_20 : decode cX7_keeps 20 = .ok (.iinc 1 1, 3) := ax_dec dX7_keeps_q0_ok 13 (20, .iinc 1 1, 3) rfl
theorem dX7_keeps_23 : decode cX7_keeps 23 = .ok (.goto (-21), 3) := ax_dec dX7_keeps_q0_ok 14 (23, .goto (-21), 3) rfl
theorem dX7_keeps_26 : decode cX7_keeps 26 = .ok (.return_, 1) := ax_dec dX7_keeps_q0_ok 15 (26, .return_, 1) rfl
def dX7_laysBack_q0 : List (Nat × (Instr × Nat)) := [(0, .iconst 0, 1), (1, .istore_n 1, 1), (2, .iload_n 1, 1), (3, .bipush 10, 2), (5, .if_icmp .ge 21, 3), (8, .aload_n 0, 1), (9, .getfield 28, 3), (12, .iload_n 1, 1), (13, .aload_n 0, 1), (14, .getfield 67, 3), (17, .iload_n 1, 1), (18, .iaload, 1), (19, .iastore, 1), (20, .iinc 1 1, 3), (23, .goto (-21), 3), (26, .return_, 1)]
set_option maxRecDepth 100000 in
theorem dX7_laysBack_q0_ok : ax_decs cX7_laysBack dX7_laysBack_q0 = true := by decide +kernel
theorem dX7_laysBack_0 : decode cX7_laysBack 0 = .ok (.iconst 0, 1) := ax_dec dX7_laysBack_q0_ok 0 (0, .iconst 0, 1) rfl
theorem dX7_laysBack_1 : decode cX7_laysBack 1 = .ok (.istore_n 1, 1) := ax_dec dX7_laysBack_q0_ok 1 (1, .istore_n 1, 1) rfl
theorem dX7_laysBack_2 : decode cX7_laysBack 2 = .ok (.iload_n 1, 1) := ax_dec dX7_laysBack_q0_ok 2 (2, .iload_n 1, 1) rfl
theorem dX7_laysBack_3 : decode cX7_laysBack 3 = .ok (.bipush 10, 2) := ax_dec dX7_laysBack_q0_ok 3 (3, .bipush 10, 2) rfl
theorem dX7_laysBack_5 : decode cX7_laysBack 5 = .ok (.if_icmp .ge 21, 3) := ax_dec dX7_laysBack_q0_ok 4 (5, .if_icmp .ge 21, 3) rfl
theorem dX7_laysBack_8 : decode cX7_laysBack 8 = .ok (.aload_n 0, 1) := ax_dec dX7_laysBack_q0_ok 5 (8, .aload_n 0, 1) rfl
theorem dX7_laysBack_9 : decode cX7_laysBack 9 = .ok (.getfield 28, 3) := ax_dec dX7_laysBack_q0_ok 6 (9, .getfield 28, 3) rfl
theorem dX7_laysBack_12 : decode cX7_laysBack 12 = .ok (.iload_n 1, 1) := ax_dec dX7_laysBack_q0_ok 7 (12, .iload_n 1, 1) rfl
theorem dX7_laysBack_13 : decode cX7_laysBack 13 = .ok (.aload_n 0, 1) := ax_dec dX7_laysBack_q0_ok 8 (13, .aload_n 0, 1) rfl
theorem dX7_laysBack_14 : decode cX7_laysBack 14 = .ok (.getfield 67, 3) := ax_dec dX7_laysBack_q0_ok 9 (14, .getfield 67, 3) rfl
theorem dX7_laysBack_17 : decode cX7_laysBack 17 = .ok (.iload_n 1, 1) := ax_dec dX7_laysBack_q0_ok 10 (17, .iload_n 1, 1) rfl
theorem dX7_laysBack_18 : decode cX7_laysBack 18 = .ok (.iaload, 1) := ax_dec dX7_laysBack_q0_ok 11 (18, .iaload, 1) rfl
theorem dX7_laysBack_19 : decode cX7_laysBack 19 = .ok (.iastore, 1) := ax_dec dX7_laysBack_q0_ok 12 (19, .iastore, 1) rfl
theorem dX7_laysBack_20 : decode cX7_laysBack 20 = .ok (.iinc 1 1, 3) := ax_dec dX7_laysBack_q0_ok 13 (20, .iinc 1 1, 3) rfl
theorem dX7_laysBack_23 : decode cX7_laysBack 23 = .ok (.goto (-21), 3) := ax_dec dX7_laysBack_q0_ok 14 (23, .goto (-21), 3) rfl
theorem dX7_laysBack_26 : decode cX7_laysBack 26 = .ok (.return_, 1) := ax_dec dX7_laysBack_q0_ok 15 (26, .return_, 1) rfl
def dX7_fineBehind_q0 : List (Nat × (Instr × Nat)) := [(0, .lload_n 3, 1), (1, .lstore 5, 2), (3, .aload_n 0, 1), (4, .iload_n 1, 1), (5, .iload_n 2, 1), (6, .invokevirtual 232, 3), (9, .iload_n 1, 1), (10, .istore 7, 2), (12, .iload 7, 2), (14, .iconst (-1), 1), (15, .if_icmp .eq 43, 3), (18, .lload 5, 2), (20, .bipush 100, 2), (22, .aload_n 0, 1), (23, .iconst 2, 1), (24, .iload 7, 2), (26, .iload_n 2, 1), (27, .bipush 10, 2), (29, .idiv, 1), (30, .iload_n 2, 1), (31, .bipush 10, 2), (33, .irem, 1), (34, .invokevirtual 185, 3), (37, .isub, 1), (38, .i2l, 1), (39, .lmul, 1), (40, .ldc2_w 243, 3), (43, .ldiv, 1), (44, .lstore 5, 2), (46, .aload_n 0, 1), (47, .getfield 7, 3), (50, .iload 7, 2)]
set_option maxRecDepth 100000 in
theorem dX7_fineBehind_q0_ok : ax_decs cX7_fineBehind dX7_fineBehind_q0 = true := by decide +kernel
theorem dX7_fineBehind_0 : decode cX7_fineBehind 0 = .ok (.lload_n 3, 1) := ax_dec dX7_fineBehind_q0_ok 0 (0, .lload_n 3, 1) rfl
theorem dX7_fineBehind_1 : decode cX7_fineBehind 1 = .ok (.lstore 5, 2) := ax_dec dX7_fineBehind_q0_ok 1 (1, .lstore 5, 2) rfl
theorem dX7_fineBehind_3 : decode cX7_fineBehind 3 = .ok (.aload_n 0, 1) := ax_dec dX7_fineBehind_q0_ok 2 (3, .aload_n 0, 1) rfl
theorem dX7_fineBehind_4 : decode cX7_fineBehind 4 = .ok (.iload_n 1, 1) := ax_dec dX7_fineBehind_q0_ok 3 (4, .iload_n 1, 1) rfl
theorem dX7_fineBehind_5 : decode cX7_fineBehind 5 = .ok (.iload_n 2, 1) := ax_dec dX7_fineBehind_q0_ok 4 (5, .iload_n 2, 1) rfl
theorem dX7_fineBehind_6 : decode cX7_fineBehind 6 = .ok (.invokevirtual 232, 3) := ax_dec dX7_fineBehind_q0_ok 5 (6, .invokevirtual 232, 3) rfl
theorem dX7_fineBehind_9 : decode cX7_fineBehind 9 = .ok (.iload_n 1, 1) := ax_dec dX7_fineBehind_q0_ok 6 (9, .iload_n 1, 1) rfl
theorem dX7_fineBehind_10 : decode cX7_fineBehind 10 = .ok (.istore 7, 2) := ax_dec dX7_fineBehind_q0_ok 7 (10, .istore 7, 2) rfl
theorem dX7_fineBehind_12 : decode cX7_fineBehind 12 = .ok (.iload 7, 2) := ax_dec dX7_fineBehind_q0_ok 8 (12, .iload 7, 2) rfl
theorem dX7_fineBehind_14 : decode cX7_fineBehind 14 = .ok (.iconst (-1), 1) := ax_dec dX7_fineBehind_q0_ok 9 (14, .iconst (-1), 1) rfl
theorem dX7_fineBehind_15 : decode cX7_fineBehind 15 = .ok (.if_icmp .eq 43, 3) := ax_dec dX7_fineBehind_q0_ok 10 (15, .if_icmp .eq 43, 3) rfl
theorem dX7_fineBehind_18 : decode cX7_fineBehind 18 = .ok (.lload 5, 2) := ax_dec dX7_fineBehind_q0_ok 11 (18, .lload 5, 2) rfl
theorem dX7_fineBehind_20 : decode cX7_fineBehind 20 = .ok (.bipush 100, 2) := ax_dec dX7_fineBehind_q0_ok 12 (20, .bipush 100, 2) rfl
theorem dX7_fineBehind_22 : decode cX7_fineBehind 22 = .ok (.aload_n 0, 1) := ax_dec dX7_fineBehind_q0_ok 13 (22, .aload_n 0, 1) rfl
theorem dX7_fineBehind_23 : decode cX7_fineBehind 23 = .ok (.iconst 2, 1) := ax_dec dX7_fineBehind_q0_ok 14 (23, .iconst 2, 1) rfl
theorem dX7_fineBehind_24 : decode cX7_fineBehind 24 = .ok (.iload 7, 2) := ax_dec dX7_fineBehind_q0_ok 15 (24, .iload 7, 2) rfl
theorem dX7_fineBehind_26 : decode cX7_fineBehind 26 = .ok (.iload_n 2, 1) := ax_dec dX7_fineBehind_q0_ok 16 (26, .iload_n 2, 1) rfl
theorem dX7_fineBehind_27 : decode cX7_fineBehind 27 = .ok (.bipush 10, 2) := ax_dec dX7_fineBehind_q0_ok 17 (27, .bipush 10, 2) rfl
theorem dX7_fineBehind_29 : decode cX7_fineBehind 29 = .ok (.idiv, 1) := ax_dec dX7_fineBehind_q0_ok 18 (29, .idiv, 1) rfl
theorem dX7_fineBehind_30 : decode cX7_fineBehind 30 = .ok (.iload_n 2, 1) := ax_dec dX7_fineBehind_q0_ok 19 (30, .iload_n 2, 1) rfl
theorem dX7_fineBehind_31 : decode cX7_fineBehind 31 = .ok (.bipush 10, 2) := ax_dec dX7_fineBehind_q0_ok 20 (31, .bipush 10, 2) rfl
theorem dX7_fineBehind_33 : decode cX7_fineBehind 33 = .ok (.irem, 1) := ax_dec dX7_fineBehind_q0_ok 21 (33, .irem, 1) rfl
theorem dX7_fineBehind_34 : decode cX7_fineBehind 34 = .ok (.invokevirtual 185, 3) := ax_dec dX7_fineBehind_q0_ok 22 (34, .invokevirtual 185, 3) rfl
theorem dX7_fineBehind_37 : decode cX7_fineBehind 37 = .ok (.isub, 1) := ax_dec dX7_fineBehind_q0_ok 23 (37, .isub, 1) rfl
theorem dX7_fineBehind_38 : decode cX7_fineBehind 38 = .ok (.i2l, 1) := ax_dec dX7_fineBehind_q0_ok 24 (38, .i2l, 1) rfl
theorem dX7_fineBehind_39 : decode cX7_fineBehind 39 = .ok (.lmul, 1) := ax_dec dX7_fineBehind_q0_ok 25 (39, .lmul, 1) rfl
theorem dX7_fineBehind_40 : decode cX7_fineBehind 40 = .ok (.ldc2_w 243, 3) := ax_dec dX7_fineBehind_q0_ok 26 (40, .ldc2_w 243, 3) rfl
theorem dX7_fineBehind_43 : decode cX7_fineBehind 43 = .ok (.ldiv, 1) := ax_dec dX7_fineBehind_q0_ok 27 (43, .ldiv, 1) rfl
theorem dX7_fineBehind_44 : decode cX7_fineBehind 44 = .ok (.lstore 5, 2) := ax_dec dX7_fineBehind_q0_ok 28 (44, .lstore 5, 2) rfl
theorem dX7_fineBehind_46 : decode cX7_fineBehind 46 = .ok (.aload_n 0, 1) := ax_dec dX7_fineBehind_q0_ok 29 (46, .aload_n 0, 1) rfl
theorem dX7_fineBehind_47 : decode cX7_fineBehind 47 = .ok (.getfield 7, 3) := ax_dec dX7_fineBehind_q0_ok 30 (47, .getfield 7, 3) rfl
theorem dX7_fineBehind_50 : decode cX7_fineBehind 50 = .ok (.iload 7, 2) := ax_dec dX7_fineBehind_q0_ok 31 (50, .iload 7, 2) rfl
def dX7_fineBehind_q1 : List (Nat × (Instr × Nat)) := [(52, .iaload, 1), (53, .istore 7, 2), (55, .goto (-43), 3), (58, .lload 5, 2), (60, .lreturn, 1)]
set_option maxRecDepth 100000 in
theorem dX7_fineBehind_q1_ok : ax_decs cX7_fineBehind dX7_fineBehind_q1 = true := by decide +kernel
theorem dX7_fineBehind_52 : decode cX7_fineBehind 52 = .ok (.iaload, 1) := ax_dec dX7_fineBehind_q1_ok 0 (52, .iaload, 1) rfl
theorem dX7_fineBehind_53 : decode cX7_fineBehind 53 = .ok (.istore 7, 2) := ax_dec dX7_fineBehind_q1_ok 1 (53, .istore 7, 2) rfl
theorem dX7_fineBehind_55 : decode cX7_fineBehind 55 = .ok (.goto (-43), 3) := ax_dec dX7_fineBehind_q1_ok 2 (55, .goto (-43), 3) rfl
theorem dX7_fineBehind_58 : decode cX7_fineBehind 58 = .ok (.lload 5, 2) := ax_dec dX7_fineBehind_q1_ok 3 (58, .lload 5, 2) rfl
theorem dX7_fineBehind_60 : decode cX7_fineBehind 60 = .ok (.lreturn, 1) := ax_dec dX7_fineBehind_q1_ok 4 (60, .lreturn, 1) rfl
def dX7_fine_q0 : List (Nat × (Instr × Nat)) := [(0, .aload_n 0, 1), (1, .iload_n 1, 1), (2, .invokevirtual 95, 3), (5, .ifCond .eq 20, 3), (8, .iload_n 2, 1), (9, .iconst 0, 1), (10, .bipush 40, 2), (12, .invokestatic 87, 3), (15, .ifCond .eq 10, 3), (18, .iload_n 3, 1), (19, .invokestatic 229, 3), (22, .ifCond .ne 7, 3), (25, .ldc2_w 245, 3), (28, .lreturn, 1), (29, .ldc2_w 247, 3), (32, .lstore 4, 2), (34, .aload_n 0, 1), (35, .invokevirtual 249, 3), (38, .iconst 0, 1), (39, .istore 6, 2), (41, .iload 6, 2), (43, .iload_n 2, 1), (44, .if_icmp .ge 19, 3), (47, .aload_n 0, 1), (48, .iload_n 1, 1), (49, .iload_n 3, 1), (50, .lload 4, 2), (52, .invokevirtual 252, 3), (55, .lstore 4, 2), (57, .iinc 6 1, 3), (60, .goto (-19), 3), (63, .aload_n 0, 1)]
set_option maxRecDepth 100000 in
theorem dX7_fine_q0_ok : ax_decs cX7_fine dX7_fine_q0 = true := by decide +kernel
theorem dX7_fine_0 : decode cX7_fine 0 = .ok (.aload_n 0, 1) := ax_dec dX7_fine_q0_ok 0 (0, .aload_n 0, 1) rfl
theorem dX7_fine_1 : decode cX7_fine 1 = .ok (.iload_n 1, 1) := ax_dec dX7_fine_q0_ok 1 (1, .iload_n 1, 1) rfl
theorem dX7_fine_2 : decode cX7_fine 2 = .ok (.invokevirtual 95, 3) := ax_dec dX7_fine_q0_ok 2 (2, .invokevirtual 95, 3) rfl
theorem dX7_fine_5 : decode cX7_fine 5 = .ok (.ifCond .eq 20, 3) := ax_dec dX7_fine_q0_ok 3 (5, .ifCond .eq 20, 3) rfl
theorem dX7_fine_8 : decode cX7_fine 8 = .ok (.iload_n 2, 1) := ax_dec dX7_fine_q0_ok 4 (8, .iload_n 2, 1) rfl
theorem dX7_fine_9 : decode cX7_fine 9 = .ok (.iconst 0, 1) := ax_dec dX7_fine_q0_ok 5 (9, .iconst 0, 1) rfl
theorem dX7_fine_10 : decode cX7_fine 10 = .ok (.bipush 40, 2) := ax_dec dX7_fine_q0_ok 6 (10, .bipush 40, 2) rfl
theorem dX7_fine_12 : decode cX7_fine 12 = .ok (.invokestatic 87, 3) := ax_dec dX7_fine_q0_ok 7 (12, .invokestatic 87, 3) rfl
theorem dX7_fine_15 : decode cX7_fine 15 = .ok (.ifCond .eq 10, 3) := ax_dec dX7_fine_q0_ok 8 (15, .ifCond .eq 10, 3) rfl
theorem dX7_fine_18 : decode cX7_fine 18 = .ok (.iload_n 3, 1) := ax_dec dX7_fine_q0_ok 9 (18, .iload_n 3, 1) rfl
theorem dX7_fine_19 : decode cX7_fine 19 = .ok (.invokestatic 229, 3) := ax_dec dX7_fine_q0_ok 10 (19, .invokestatic 229, 3) rfl
theorem dX7_fine_22 : decode cX7_fine 22 = .ok (.ifCond .ne 7, 3) := ax_dec dX7_fine_q0_ok 11 (22, .ifCond .ne 7, 3) rfl
theorem dX7_fine_25 : decode cX7_fine 25 = .ok (.ldc2_w 245, 3) := ax_dec dX7_fine_q0_ok 12 (25, .ldc2_w 245, 3) rfl
theorem dX7_fine_28 : decode cX7_fine 28 = .ok (.lreturn, 1) := ax_dec dX7_fine_q0_ok 13 (28, .lreturn, 1) rfl
theorem dX7_fine_29 : decode cX7_fine 29 = .ok (.ldc2_w 247, 3) := ax_dec dX7_fine_q0_ok 14 (29, .ldc2_w 247, 3) rfl
theorem dX7_fine_32 : decode cX7_fine 32 = .ok (.lstore 4, 2) := ax_dec dX7_fine_q0_ok 15 (32, .lstore 4, 2) rfl
theorem dX7_fine_34 : decode cX7_fine 34 = .ok (.aload_n 0, 1) := ax_dec dX7_fine_q0_ok 16 (34, .aload_n 0, 1) rfl
theorem dX7_fine_35 : decode cX7_fine 35 = .ok (.invokevirtual 249, 3) := ax_dec dX7_fine_q0_ok 17 (35, .invokevirtual 249, 3) rfl
theorem dX7_fine_38 : decode cX7_fine 38 = .ok (.iconst 0, 1) := ax_dec dX7_fine_q0_ok 18 (38, .iconst 0, 1) rfl
theorem dX7_fine_39 : decode cX7_fine 39 = .ok (.istore 6, 2) := ax_dec dX7_fine_q0_ok 19 (39, .istore 6, 2) rfl
theorem dX7_fine_41 : decode cX7_fine 41 = .ok (.iload 6, 2) := ax_dec dX7_fine_q0_ok 20 (41, .iload 6, 2) rfl
theorem dX7_fine_43 : decode cX7_fine 43 = .ok (.iload_n 2, 1) := ax_dec dX7_fine_q0_ok 21 (43, .iload_n 2, 1) rfl
theorem dX7_fine_44 : decode cX7_fine 44 = .ok (.if_icmp .ge 19, 3) := ax_dec dX7_fine_q0_ok 22 (44, .if_icmp .ge 19, 3) rfl
theorem dX7_fine_47 : decode cX7_fine 47 = .ok (.aload_n 0, 1) := ax_dec dX7_fine_q0_ok 23 (47, .aload_n 0, 1) rfl
theorem dX7_fine_48 : decode cX7_fine 48 = .ok (.iload_n 1, 1) := ax_dec dX7_fine_q0_ok 24 (48, .iload_n 1, 1) rfl
theorem dX7_fine_49 : decode cX7_fine 49 = .ok (.iload_n 3, 1) := ax_dec dX7_fine_q0_ok 25 (49, .iload_n 3, 1) rfl
theorem dX7_fine_50 : decode cX7_fine 50 = .ok (.lload 4, 2) := ax_dec dX7_fine_q0_ok 26 (50, .lload 4, 2) rfl
theorem dX7_fine_52 : decode cX7_fine 52 = .ok (.invokevirtual 252, 3) := ax_dec dX7_fine_q0_ok 27 (52, .invokevirtual 252, 3) rfl
theorem dX7_fine_55 : decode cX7_fine 55 = .ok (.lstore 4, 2) := ax_dec dX7_fine_q0_ok 28 (55, .lstore 4, 2) rfl
theorem dX7_fine_57 : decode cX7_fine 57 = .ok (.iinc 6 1, 3) := ax_dec dX7_fine_q0_ok 29 (57, .iinc 6 1, 3) rfl
theorem dX7_fine_60 : decode cX7_fine 60 = .ok (.goto (-19), 3) := ax_dec dX7_fine_q0_ok 30 (60, .goto (-19), 3) rfl
theorem dX7_fine_63 : decode cX7_fine 63 = .ok (.aload_n 0, 1) := ax_dec dX7_fine_q0_ok 31 (63, .aload_n 0, 1) rfl
def dX7_fine_q1 : List (Nat × (Instr × Nat)) := [(64, .invokevirtual 256, 3), (67, .lload 4, 2), (69, .lreturn, 1)]
set_option maxRecDepth 100000 in
theorem dX7_fine_q1_ok : ax_decs cX7_fine dX7_fine_q1 = true := by decide +kernel
theorem dX7_fine_64 : decode cX7_fine 64 = .ok (.invokevirtual 256, 3) := ax_dec dX7_fine_q1_ok 0 (64, .invokevirtual 256, 3) rfl
theorem dX7_fine_67 : decode cX7_fine 67 = .ok (.lload 4, 2) := ax_dec dX7_fine_q1_ok 1 (67, .lload 4, 2) rfl
theorem dX7_fine_69 : decode cX7_fine 69 = .ok (.lreturn, 1) := ax_dec dX7_fine_q1_ok 2 (69, .lreturn, 1) rfl
def dX7_when_q0 : List (Nat × (Instr × Nat)) := [(0, .aload_n 0, 1), (1, .iload_n 1, 1), (2, .invokevirtual 95, 3), (5, .ifCond .ne 6, 3), (8, .bipush (-5), 2), (10, .ireturn, 1), (11, .iload_n 2, 1), (12, .invokestatic 229, 3), (15, .ifCond .eq 13, 3), (18, .iload_n 3, 1), (19, .iconst 0, 1), (20, .bipush 99, 2), (22, .invokestatic 87, 3), (25, .ifCond .ne 6, 3), (28, .bipush (-7), 2), (30, .ireturn, 1), (31, .ldc2_w 247, 3), (34, .lstore 4, 2), (36, .iconst (-1), 1), (37, .istore 6, 2), (39, .aload_n 0, 1), (40, .invokevirtual 249, 3), (43, .iconst 1, 1), (44, .istore 7, 2), (46, .iload 7, 2), (48, .bipush 40, 2), (50, .if_icmp .gt 49, 3), (53, .iload 6, 2), (55, .iconst (-1), 1), (56, .if_icmp .ne 43, 3), (59, .aload_n 0, 1), (60, .iload_n 1, 1)]
set_option maxRecDepth 100000 in
theorem dX7_when_q0_ok : ax_decs cX7_when dX7_when_q0 = true := by decide +kernel
theorem dX7_when_0 : decode cX7_when 0 = .ok (.aload_n 0, 1) := ax_dec dX7_when_q0_ok 0 (0, .aload_n 0, 1) rfl
theorem dX7_when_1 : decode cX7_when 1 = .ok (.iload_n 1, 1) := ax_dec dX7_when_q0_ok 1 (1, .iload_n 1, 1) rfl
theorem dX7_when_2 : decode cX7_when 2 = .ok (.invokevirtual 95, 3) := ax_dec dX7_when_q0_ok 2 (2, .invokevirtual 95, 3) rfl
theorem dX7_when_5 : decode cX7_when 5 = .ok (.ifCond .ne 6, 3) := ax_dec dX7_when_q0_ok 3 (5, .ifCond .ne 6, 3) rfl
theorem dX7_when_8 : decode cX7_when 8 = .ok (.bipush (-5), 2) := ax_dec dX7_when_q0_ok 4 (8, .bipush (-5), 2) rfl
theorem dX7_when_10 : decode cX7_when 10 = .ok (.ireturn, 1) := ax_dec dX7_when_q0_ok 5 (10, .ireturn, 1) rfl
theorem dX7_when_11 : decode cX7_when 11 = .ok (.iload_n 2, 1) := ax_dec dX7_when_q0_ok 6 (11, .iload_n 2, 1) rfl
theorem dX7_when_12 : decode cX7_when 12 = .ok (.invokestatic 229, 3) := ax_dec dX7_when_q0_ok 7 (12, .invokestatic 229, 3) rfl
theorem dX7_when_15 : decode cX7_when 15 = .ok (.ifCond .eq 13, 3) := ax_dec dX7_when_q0_ok 8 (15, .ifCond .eq 13, 3) rfl
theorem dX7_when_18 : decode cX7_when 18 = .ok (.iload_n 3, 1) := ax_dec dX7_when_q0_ok 9 (18, .iload_n 3, 1) rfl
theorem dX7_when_19 : decode cX7_when 19 = .ok (.iconst 0, 1) := ax_dec dX7_when_q0_ok 10 (19, .iconst 0, 1) rfl
theorem dX7_when_20 : decode cX7_when 20 = .ok (.bipush 99, 2) := ax_dec dX7_when_q0_ok 11 (20, .bipush 99, 2) rfl
theorem dX7_when_22 : decode cX7_when 22 = .ok (.invokestatic 87, 3) := ax_dec dX7_when_q0_ok 12 (22, .invokestatic 87, 3) rfl
theorem dX7_when_25 : decode cX7_when 25 = .ok (.ifCond .ne 6, 3) := ax_dec dX7_when_q0_ok 13 (25, .ifCond .ne 6, 3) rfl
theorem dX7_when_28 : decode cX7_when 28 = .ok (.bipush (-7), 2) := ax_dec dX7_when_q0_ok 14 (28, .bipush (-7), 2) rfl
theorem dX7_when_30 : decode cX7_when 30 = .ok (.ireturn, 1) := ax_dec dX7_when_q0_ok 15 (30, .ireturn, 1) rfl
theorem dX7_when_31 : decode cX7_when 31 = .ok (.ldc2_w 247, 3) := ax_dec dX7_when_q0_ok 16 (31, .ldc2_w 247, 3) rfl
theorem dX7_when_34 : decode cX7_when 34 = .ok (.lstore 4, 2) := ax_dec dX7_when_q0_ok 17 (34, .lstore 4, 2) rfl
theorem dX7_when_36 : decode cX7_when 36 = .ok (.iconst (-1), 1) := ax_dec dX7_when_q0_ok 18 (36, .iconst (-1), 1) rfl
theorem dX7_when_37 : decode cX7_when 37 = .ok (.istore 6, 2) := ax_dec dX7_when_q0_ok 19 (37, .istore 6, 2) rfl
theorem dX7_when_39 : decode cX7_when 39 = .ok (.aload_n 0, 1) := ax_dec dX7_when_q0_ok 20 (39, .aload_n 0, 1) rfl
theorem dX7_when_40 : decode cX7_when 40 = .ok (.invokevirtual 249, 3) := ax_dec dX7_when_q0_ok 21 (40, .invokevirtual 249, 3) rfl
theorem dX7_when_43 : decode cX7_when 43 = .ok (.iconst 1, 1) := ax_dec dX7_when_q0_ok 22 (43, .iconst 1, 1) rfl
theorem dX7_when_44 : decode cX7_when 44 = .ok (.istore 7, 2) := ax_dec dX7_when_q0_ok 23 (44, .istore 7, 2) rfl
theorem dX7_when_46 : decode cX7_when 46 = .ok (.iload 7, 2) := ax_dec dX7_when_q0_ok 24 (46, .iload 7, 2) rfl
theorem dX7_when_48 : decode cX7_when 48 = .ok (.bipush 40, 2) := ax_dec dX7_when_q0_ok 25 (48, .bipush 40, 2) rfl
theorem dX7_when_50 : decode cX7_when 50 = .ok (.if_icmp .gt 49, 3) := ax_dec dX7_when_q0_ok 26 (50, .if_icmp .gt 49, 3) rfl
theorem dX7_when_53 : decode cX7_when 53 = .ok (.iload 6, 2) := ax_dec dX7_when_q0_ok 27 (53, .iload 6, 2) rfl
theorem dX7_when_55 : decode cX7_when 55 = .ok (.iconst (-1), 1) := ax_dec dX7_when_q0_ok 28 (55, .iconst (-1), 1) rfl
theorem dX7_when_56 : decode cX7_when 56 = .ok (.if_icmp .ne 43, 3) := ax_dec dX7_when_q0_ok 29 (56, .if_icmp .ne 43, 3) rfl
theorem dX7_when_59 : decode cX7_when 59 = .ok (.aload_n 0, 1) := ax_dec dX7_when_q0_ok 30 (59, .aload_n 0, 1) rfl
theorem dX7_when_60 : decode cX7_when 60 = .ok (.iload_n 1, 1) := ax_dec dX7_when_q0_ok 31 (60, .iload_n 1, 1) rfl
def dX7_when_q1 : List (Nat × (Instr × Nat)) := [(61, .iload_n 2, 1), (62, .lload 4, 2), (64, .invokevirtual 252, 3), (67, .lstore 4, 2), (69, .lload 4, 2), (71, .ldc2_w 243, 3), (74, .iload_n 3, 1), (75, .i2l, 1), (76, .lsub, 1), (77, .ldc2_w 259, 3), (80, .lmul, 1), (81, .lcmp, 1), (82, .ifCond .ge 8, 3), (85, .iload 7, 2), (87, .goto 4, 3), (90, .iconst (-1), 1), (91, .istore 6, 2), (93, .iinc 7 1, 3), (96, .goto (-50), 3), (99, .aload_n 0, 1), (100, .invokevirtual 256, 3), (103, .iload 6, 2), (105, .ireturn, 1)]
set_option maxRecDepth 100000 in
theorem dX7_when_q1_ok : ax_decs cX7_when dX7_when_q1 = true := by decide +kernel
theorem dX7_when_61 : decode cX7_when 61 = .ok (.iload_n 2, 1) := ax_dec dX7_when_q1_ok 0 (61, .iload_n 2, 1) rfl
theorem dX7_when_62 : decode cX7_when 62 = .ok (.lload 4, 2) := ax_dec dX7_when_q1_ok 1 (62, .lload 4, 2) rfl
theorem dX7_when_64 : decode cX7_when 64 = .ok (.invokevirtual 252, 3) := ax_dec dX7_when_q1_ok 2 (64, .invokevirtual 252, 3) rfl
theorem dX7_when_67 : decode cX7_when 67 = .ok (.lstore 4, 2) := ax_dec dX7_when_q1_ok 3 (67, .lstore 4, 2) rfl
theorem dX7_when_69 : decode cX7_when 69 = .ok (.lload 4, 2) := ax_dec dX7_when_q1_ok 4 (69, .lload 4, 2) rfl
theorem dX7_when_71 : decode cX7_when 71 = .ok (.ldc2_w 243, 3) := ax_dec dX7_when_q1_ok 5 (71, .ldc2_w 243, 3) rfl
theorem dX7_when_74 : decode cX7_when 74 = .ok (.iload_n 3, 1) := ax_dec dX7_when_q1_ok 6 (74, .iload_n 3, 1) rfl
theorem dX7_when_75 : decode cX7_when 75 = .ok (.i2l, 1) := ax_dec dX7_when_q1_ok 7 (75, .i2l, 1) rfl
theorem dX7_when_76 : decode cX7_when 76 = .ok (.lsub, 1) := ax_dec dX7_when_q1_ok 8 (76, .lsub, 1) rfl
theorem dX7_when_77 : decode cX7_when 77 = .ok (.ldc2_w 259, 3) := ax_dec dX7_when_q1_ok 9 (77, .ldc2_w 259, 3) rfl
theorem dX7_when_80 : decode cX7_when 80 = .ok (.lmul, 1) := ax_dec dX7_when_q1_ok 10 (80, .lmul, 1) rfl
theorem dX7_when_81 : decode cX7_when 81 = .ok (.lcmp, 1) := ax_dec dX7_when_q1_ok 11 (81, .lcmp, 1) rfl
theorem dX7_when_82 : decode cX7_when 82 = .ok (.ifCond .ge 8, 3) := ax_dec dX7_when_q1_ok 12 (82, .ifCond .ge 8, 3) rfl
theorem dX7_when_85 : decode cX7_when 85 = .ok (.iload 7, 2) := ax_dec dX7_when_q1_ok 13 (85, .iload 7, 2) rfl
theorem dX7_when_87 : decode cX7_when 87 = .ok (.goto 4, 3) := ax_dec dX7_when_q1_ok 14 (87, .goto 4, 3) rfl
theorem dX7_when_90 : decode cX7_when 90 = .ok (.iconst (-1), 1) := ax_dec dX7_when_q1_ok 15 (90, .iconst (-1), 1) rfl
theorem dX7_when_91 : decode cX7_when 91 = .ok (.istore 6, 2) := ax_dec dX7_when_q1_ok 16 (91, .istore 6, 2) rfl
theorem dX7_when_93 : decode cX7_when 93 = .ok (.iinc 7 1, 3) := ax_dec dX7_when_q1_ok 17 (93, .iinc 7 1, 3) rfl
theorem dX7_when_96 : decode cX7_when 96 = .ok (.goto (-50), 3) := ax_dec dX7_when_q1_ok 18 (96, .goto (-50), 3) rfl
theorem dX7_when_99 : decode cX7_when 99 = .ok (.aload_n 0, 1) := ax_dec dX7_when_q1_ok 19 (99, .aload_n 0, 1) rfl
theorem dX7_when_100 : decode cX7_when 100 = .ok (.invokevirtual 256, 3) := ax_dec dX7_when_q1_ok 20 (100, .invokevirtual 256, 3) rfl
theorem dX7_when_103 : decode cX7_when 103 = .ok (.iload 6, 2) := ax_dec dX7_when_q1_ok 21 (103, .iload 6, 2) rfl
theorem dX7_when_105 : decode cX7_when 105 = .ok (.ireturn, 1) := ax_dec dX7_when_q1_ok 22 (105, .ireturn, 1) rfl
def dX7_keepsBelow_q0 : List (Nat × (Instr × Nat)) := [(0, .iconst 1, 1), (1, .istore 6, 2), (3, .aload_n 0, 1), (4, .invokevirtual 249, 3), (7, .iconst 1, 1), (8, .istore 7, 2), (10, .iload 7, 2), (12, .bipush 24, 2), (14, .if_icmp .gt 75, 3), (17, .aload_n 0, 1), (18, .iload_n 1, 1), (19, .iload_n 2, 1), (20, .invokevirtual 232, 3), (23, .iload_n 1, 1), (24, .istore 8, 2), (26, .iload 8, 2), (28, .iconst (-1), 1), (29, .if_icmp .eq 39, 3), (32, .iload 6, 2), (34, .ifCond .eq 19, 3), (37, .aload_n 0, 1), (38, .getfield 28, 3), (41, .iload 8, 2), (43, .iaload, 1), (44, .iload 4, 2), (46, .if_icmp .gt 7, 3), (49, .iconst 1, 1), (50, .goto 4, 3), (53, .iconst 0, 1), (54, .istore 6, 2), (56, .aload_n 0, 1), (57, .getfield 7, 3)]
set_option maxRecDepth 100000 in
theorem dX7_keepsBelow_q0_ok : ax_decs cX7_keepsBelow dX7_keepsBelow_q0 = true := by decide +kernel
theorem dX7_keepsBelow_0 : decode cX7_keepsBelow 0 = .ok (.iconst 1, 1) := ax_dec dX7_keepsBelow_q0_ok 0 (0, .iconst 1, 1) rfl
theorem dX7_keepsBelow_1 : decode cX7_keepsBelow 1 = .ok (.istore 6, 2) := ax_dec dX7_keepsBelow_q0_ok 1 (1, .istore 6, 2) rfl
theorem dX7_keepsBelow_3 : decode cX7_keepsBelow 3 = .ok (.aload_n 0, 1) := ax_dec dX7_keepsBelow_q0_ok 2 (3, .aload_n 0, 1) rfl
theorem dX7_keepsBelow_4 : decode cX7_keepsBelow 4 = .ok (.invokevirtual 249, 3) := ax_dec dX7_keepsBelow_q0_ok 3 (4, .invokevirtual 249, 3) rfl
theorem dX7_keepsBelow_7 : decode cX7_keepsBelow 7 = .ok (.iconst 1, 1) := ax_dec dX7_keepsBelow_q0_ok 4 (7, .iconst 1, 1) rfl
theorem dX7_keepsBelow_8 : decode cX7_keepsBelow 8 = .ok (.istore 7, 2) := ax_dec dX7_keepsBelow_q0_ok 5 (8, .istore 7, 2) rfl
theorem dX7_keepsBelow_10 : decode cX7_keepsBelow 10 = .ok (.iload 7, 2) := ax_dec dX7_keepsBelow_q0_ok 6 (10, .iload 7, 2) rfl
theorem dX7_keepsBelow_12 : decode cX7_keepsBelow 12 = .ok (.bipush 24, 2) := ax_dec dX7_keepsBelow_q0_ok 7 (12, .bipush 24, 2) rfl
theorem dX7_keepsBelow_14 : decode cX7_keepsBelow 14 = .ok (.if_icmp .gt 75, 3) := ax_dec dX7_keepsBelow_q0_ok 8 (14, .if_icmp .gt 75, 3) rfl
theorem dX7_keepsBelow_17 : decode cX7_keepsBelow 17 = .ok (.aload_n 0, 1) := ax_dec dX7_keepsBelow_q0_ok 9 (17, .aload_n 0, 1) rfl
theorem dX7_keepsBelow_18 : decode cX7_keepsBelow 18 = .ok (.iload_n 1, 1) := ax_dec dX7_keepsBelow_q0_ok 10 (18, .iload_n 1, 1) rfl
theorem dX7_keepsBelow_19 : decode cX7_keepsBelow 19 = .ok (.iload_n 2, 1) := ax_dec dX7_keepsBelow_q0_ok 11 (19, .iload_n 2, 1) rfl
theorem dX7_keepsBelow_20 : decode cX7_keepsBelow 20 = .ok (.invokevirtual 232, 3) := ax_dec dX7_keepsBelow_q0_ok 12 (20, .invokevirtual 232, 3) rfl
theorem dX7_keepsBelow_23 : decode cX7_keepsBelow 23 = .ok (.iload_n 1, 1) := ax_dec dX7_keepsBelow_q0_ok 13 (23, .iload_n 1, 1) rfl
theorem dX7_keepsBelow_24 : decode cX7_keepsBelow 24 = .ok (.istore 8, 2) := ax_dec dX7_keepsBelow_q0_ok 14 (24, .istore 8, 2) rfl
theorem dX7_keepsBelow_26 : decode cX7_keepsBelow 26 = .ok (.iload 8, 2) := ax_dec dX7_keepsBelow_q0_ok 15 (26, .iload 8, 2) rfl
theorem dX7_keepsBelow_28 : decode cX7_keepsBelow 28 = .ok (.iconst (-1), 1) := ax_dec dX7_keepsBelow_q0_ok 16 (28, .iconst (-1), 1) rfl
theorem dX7_keepsBelow_29 : decode cX7_keepsBelow 29 = .ok (.if_icmp .eq 39, 3) := ax_dec dX7_keepsBelow_q0_ok 17 (29, .if_icmp .eq 39, 3) rfl
theorem dX7_keepsBelow_32 : decode cX7_keepsBelow 32 = .ok (.iload 6, 2) := ax_dec dX7_keepsBelow_q0_ok 18 (32, .iload 6, 2) rfl
theorem dX7_keepsBelow_34 : decode cX7_keepsBelow 34 = .ok (.ifCond .eq 19, 3) := ax_dec dX7_keepsBelow_q0_ok 19 (34, .ifCond .eq 19, 3) rfl
theorem dX7_keepsBelow_37 : decode cX7_keepsBelow 37 = .ok (.aload_n 0, 1) := ax_dec dX7_keepsBelow_q0_ok 20 (37, .aload_n 0, 1) rfl
theorem dX7_keepsBelow_38 : decode cX7_keepsBelow 38 = .ok (.getfield 28, 3) := ax_dec dX7_keepsBelow_q0_ok 21 (38, .getfield 28, 3) rfl
theorem dX7_keepsBelow_41 : decode cX7_keepsBelow 41 = .ok (.iload 8, 2) := ax_dec dX7_keepsBelow_q0_ok 22 (41, .iload 8, 2) rfl
theorem dX7_keepsBelow_43 : decode cX7_keepsBelow 43 = .ok (.iaload, 1) := ax_dec dX7_keepsBelow_q0_ok 23 (43, .iaload, 1) rfl
theorem dX7_keepsBelow_44 : decode cX7_keepsBelow 44 = .ok (.iload 4, 2) := ax_dec dX7_keepsBelow_q0_ok 24 (44, .iload 4, 2) rfl
theorem dX7_keepsBelow_46 : decode cX7_keepsBelow 46 = .ok (.if_icmp .gt 7, 3) := ax_dec dX7_keepsBelow_q0_ok 25 (46, .if_icmp .gt 7, 3) rfl
theorem dX7_keepsBelow_49 : decode cX7_keepsBelow 49 = .ok (.iconst 1, 1) := ax_dec dX7_keepsBelow_q0_ok 26 (49, .iconst 1, 1) rfl
theorem dX7_keepsBelow_50 : decode cX7_keepsBelow 50 = .ok (.goto 4, 3) := ax_dec dX7_keepsBelow_q0_ok 27 (50, .goto 4, 3) rfl
theorem dX7_keepsBelow_53 : decode cX7_keepsBelow 53 = .ok (.iconst 0, 1) := ax_dec dX7_keepsBelow_q0_ok 28 (53, .iconst 0, 1) rfl
theorem dX7_keepsBelow_54 : decode cX7_keepsBelow 54 = .ok (.istore 6, 2) := ax_dec dX7_keepsBelow_q0_ok 29 (54, .istore 6, 2) rfl
theorem dX7_keepsBelow_56 : decode cX7_keepsBelow 56 = .ok (.aload_n 0, 1) := ax_dec dX7_keepsBelow_q0_ok 30 (56, .aload_n 0, 1) rfl
theorem dX7_keepsBelow_57 : decode cX7_keepsBelow 57 = .ok (.getfield 7, 3) := ax_dec dX7_keepsBelow_q0_ok 31 (57, .getfield 7, 3) rfl
def dX7_keepsBelow_q1 : List (Nat × (Instr × Nat)) := [(60, .iload 8, 2), (62, .iaload, 1), (63, .istore 8, 2), (65, .goto (-39), 3), (68, .iload 7, 2), (70, .iload 5, 2), (72, .irem, 1), (73, .ifCond .ne 10, 3), (76, .aload_n 0, 1), (77, .iload_n 1, 1), (78, .iload_n 3, 1), (79, .invokevirtual 223, 3), (82, .pop, 1), (83, .iinc 7 1, 3), (86, .goto (-76), 3), (89, .aload_n 0, 1), (90, .invokevirtual 256, 3), (93, .iload 6, 2), (95, .ireturn, 1)]
set_option maxRecDepth 100000 in
theorem dX7_keepsBelow_q1_ok : ax_decs cX7_keepsBelow dX7_keepsBelow_q1 = true := by decide +kernel
theorem dX7_keepsBelow_60 : decode cX7_keepsBelow 60 = .ok (.iload 8, 2) := ax_dec dX7_keepsBelow_q1_ok 0 (60, .iload 8, 2) rfl
theorem dX7_keepsBelow_62 : decode cX7_keepsBelow 62 = .ok (.iaload, 1) := ax_dec dX7_keepsBelow_q1_ok 1 (62, .iaload, 1) rfl
theorem dX7_keepsBelow_63 : decode cX7_keepsBelow 63 = .ok (.istore 8, 2) := ax_dec dX7_keepsBelow_q1_ok 2 (63, .istore 8, 2) rfl
theorem dX7_keepsBelow_65 : decode cX7_keepsBelow 65 = .ok (.goto (-39), 3) := ax_dec dX7_keepsBelow_q1_ok 3 (65, .goto (-39), 3) rfl
theorem dX7_keepsBelow_68 : decode cX7_keepsBelow 68 = .ok (.iload 7, 2) := ax_dec dX7_keepsBelow_q1_ok 4 (68, .iload 7, 2) rfl
theorem dX7_keepsBelow_70 : decode cX7_keepsBelow 70 = .ok (.iload 5, 2) := ax_dec dX7_keepsBelow_q1_ok 5 (70, .iload 5, 2) rfl
theorem dX7_keepsBelow_72 : decode cX7_keepsBelow 72 = .ok (.irem, 1) := ax_dec dX7_keepsBelow_q1_ok 6 (72, .irem, 1) rfl
theorem dX7_keepsBelow_73 : decode cX7_keepsBelow 73 = .ok (.ifCond .ne 10, 3) := ax_dec dX7_keepsBelow_q1_ok 7 (73, .ifCond .ne 10, 3) rfl
theorem dX7_keepsBelow_76 : decode cX7_keepsBelow 76 = .ok (.aload_n 0, 1) := ax_dec dX7_keepsBelow_q1_ok 8 (76, .aload_n 0, 1) rfl
theorem dX7_keepsBelow_77 : decode cX7_keepsBelow 77 = .ok (.iload_n 1, 1) := ax_dec dX7_keepsBelow_q1_ok 9 (77, .iload_n 1, 1) rfl
theorem dX7_keepsBelow_78 : decode cX7_keepsBelow 78 = .ok (.iload_n 3, 1) := ax_dec dX7_keepsBelow_q1_ok 10 (78, .iload_n 3, 1) rfl
theorem dX7_keepsBelow_79 : decode cX7_keepsBelow 79 = .ok (.invokevirtual 223, 3) := ax_dec dX7_keepsBelow_q1_ok 11 (79, .invokevirtual 223, 3) rfl
theorem dX7_keepsBelow_82 : decode cX7_keepsBelow 82 = .ok (.pop, 1) := ax_dec dX7_keepsBelow_q1_ok 12 (82, .pop, 1) rfl
theorem dX7_keepsBelow_83 : decode cX7_keepsBelow 83 = .ok (.iinc 7 1, 3) := ax_dec dX7_keepsBelow_q1_ok 13 (83, .iinc 7 1, 3) rfl
theorem dX7_keepsBelow_86 : decode cX7_keepsBelow 86 = .ok (.goto (-76), 3) := ax_dec dX7_keepsBelow_q1_ok 14 (86, .goto (-76), 3) rfl
theorem dX7_keepsBelow_89 : decode cX7_keepsBelow 89 = .ok (.aload_n 0, 1) := ax_dec dX7_keepsBelow_q1_ok 15 (89, .aload_n 0, 1) rfl
theorem dX7_keepsBelow_90 : decode cX7_keepsBelow 90 = .ok (.invokevirtual 256, 3) := ax_dec dX7_keepsBelow_q1_ok 16 (90, .invokevirtual 256, 3) rfl
theorem dX7_keepsBelow_93 : decode cX7_keepsBelow 93 = .ok (.iload 6, 2) := ax_dec dX7_keepsBelow_q1_ok 17 (93, .iload 6, 2) rfl
theorem dX7_keepsBelow_95 : decode cX7_keepsBelow 95 = .ok (.ireturn, 1) := ax_dec dX7_keepsBelow_q1_ok 18 (95, .ireturn, 1) rfl
def dX7_often_q0 : List (Nat × (Instr × Nat)) := [(0, .aload_n 0, 1), (1, .iload_n 1, 1), (2, .invokevirtual 95, 3), (5, .ifCond .ne 6, 3), (8, .bipush (-5), 2), (10, .ireturn, 1), (11, .iload_n 2, 1), (12, .invokestatic 229, 3), (15, .ifCond .eq 24, 3), (18, .iload_n 3, 1), (19, .iconst 0, 1), (20, .bipush 99, 2), (22, .invokestatic 87, 3), (25, .ifCond .eq 14, 3), (28, .iload 4, 2), (30, .iconst 0, 1), (31, .bipush 99, 2), (33, .invokestatic 87, 3), (36, .ifCond .ne 6, 3), (39, .bipush (-7), 2), (41, .ireturn, 1), (42, .bipush 24, 2), (44, .istore 5, 2), (46, .iload 5, 2), (48, .iconst 1, 1), (49, .if_icmp .lt 26, 3), (52, .aload_n 0, 1), (53, .iload_n 1, 1), (54, .iload_n 2, 1), (55, .iload_n 3, 1), (56, .iload 4, 2), (58, .iload 5, 2)]
set_option maxRecDepth 100000 in
theorem dX7_often_q0_ok : ax_decs cX7_often dX7_often_q0 = true := by decide +kernel
theorem dX7_often_0 : decode cX7_often 0 = .ok (.aload_n 0, 1) := ax_dec dX7_often_q0_ok 0 (0, .aload_n 0, 1) rfl
theorem dX7_often_1 : decode cX7_often 1 = .ok (.iload_n 1, 1) := ax_dec dX7_often_q0_ok 1 (1, .iload_n 1, 1) rfl
theorem dX7_often_2 : decode cX7_often 2 = .ok (.invokevirtual 95, 3) := ax_dec dX7_often_q0_ok 2 (2, .invokevirtual 95, 3) rfl
theorem dX7_often_5 : decode cX7_often 5 = .ok (.ifCond .ne 6, 3) := ax_dec dX7_often_q0_ok 3 (5, .ifCond .ne 6, 3) rfl
theorem dX7_often_8 : decode cX7_often 8 = .ok (.bipush (-5), 2) := ax_dec dX7_often_q0_ok 4 (8, .bipush (-5), 2) rfl
theorem dX7_often_10 : decode cX7_often 10 = .ok (.ireturn, 1) := ax_dec dX7_often_q0_ok 5 (10, .ireturn, 1) rfl
theorem dX7_often_11 : decode cX7_often 11 = .ok (.iload_n 2, 1) := ax_dec dX7_often_q0_ok 6 (11, .iload_n 2, 1) rfl
theorem dX7_often_12 : decode cX7_often 12 = .ok (.invokestatic 229, 3) := ax_dec dX7_often_q0_ok 7 (12, .invokestatic 229, 3) rfl
theorem dX7_often_15 : decode cX7_often 15 = .ok (.ifCond .eq 24, 3) := ax_dec dX7_often_q0_ok 8 (15, .ifCond .eq 24, 3) rfl
theorem dX7_often_18 : decode cX7_often 18 = .ok (.iload_n 3, 1) := ax_dec dX7_often_q0_ok 9 (18, .iload_n 3, 1) rfl
theorem dX7_often_19 : decode cX7_often 19 = .ok (.iconst 0, 1) := ax_dec dX7_often_q0_ok 10 (19, .iconst 0, 1) rfl
theorem dX7_often_20 : decode cX7_often 20 = .ok (.bipush 99, 2) := ax_dec dX7_often_q0_ok 11 (20, .bipush 99, 2) rfl
theorem dX7_often_22 : decode cX7_often 22 = .ok (.invokestatic 87, 3) := ax_dec dX7_often_q0_ok 12 (22, .invokestatic 87, 3) rfl
theorem dX7_often_25 : decode cX7_often 25 = .ok (.ifCond .eq 14, 3) := ax_dec dX7_often_q0_ok 13 (25, .ifCond .eq 14, 3) rfl
theorem dX7_often_28 : decode cX7_often 28 = .ok (.iload 4, 2) := ax_dec dX7_often_q0_ok 14 (28, .iload 4, 2) rfl
theorem dX7_often_30 : decode cX7_often 30 = .ok (.iconst 0, 1) := ax_dec dX7_often_q0_ok 15 (30, .iconst 0, 1) rfl
theorem dX7_often_31 : decode cX7_often 31 = .ok (.bipush 99, 2) := ax_dec dX7_often_q0_ok 16 (31, .bipush 99, 2) rfl
theorem dX7_often_33 : decode cX7_often 33 = .ok (.invokestatic 87, 3) := ax_dec dX7_often_q0_ok 17 (33, .invokestatic 87, 3) rfl
theorem dX7_often_36 : decode cX7_often 36 = .ok (.ifCond .ne 6, 3) := ax_dec dX7_often_q0_ok 18 (36, .ifCond .ne 6, 3) rfl
theorem dX7_often_39 : decode cX7_often 39 = .ok (.bipush (-7), 2) := ax_dec dX7_often_q0_ok 19 (39, .bipush (-7), 2) rfl
theorem dX7_often_41 : decode cX7_often 41 = .ok (.ireturn, 1) := ax_dec dX7_often_q0_ok 20 (41, .ireturn, 1) rfl
theorem dX7_often_42 : decode cX7_often 42 = .ok (.bipush 24, 2) := ax_dec dX7_often_q0_ok 21 (42, .bipush 24, 2) rfl
theorem dX7_often_44 : decode cX7_often 44 = .ok (.istore 5, 2) := ax_dec dX7_often_q0_ok 22 (44, .istore 5, 2) rfl
theorem dX7_often_46 : decode cX7_often 46 = .ok (.iload 5, 2) := ax_dec dX7_often_q0_ok 23 (46, .iload 5, 2) rfl
theorem dX7_often_48 : decode cX7_often 48 = .ok (.iconst 1, 1) := ax_dec dX7_often_q0_ok 24 (48, .iconst 1, 1) rfl
theorem dX7_often_49 : decode cX7_often 49 = .ok (.if_icmp .lt 26, 3) := ax_dec dX7_often_q0_ok 25 (49, .if_icmp .lt 26, 3) rfl
theorem dX7_often_52 : decode cX7_often 52 = .ok (.aload_n 0, 1) := ax_dec dX7_often_q0_ok 26 (52, .aload_n 0, 1) rfl
theorem dX7_often_53 : decode cX7_often 53 = .ok (.iload_n 1, 1) := ax_dec dX7_often_q0_ok 27 (53, .iload_n 1, 1) rfl
theorem dX7_often_54 : decode cX7_often 54 = .ok (.iload_n 2, 1) := ax_dec dX7_often_q0_ok 28 (54, .iload_n 2, 1) rfl
theorem dX7_often_55 : decode cX7_often 55 = .ok (.iload_n 3, 1) := ax_dec dX7_often_q0_ok 29 (55, .iload_n 3, 1) rfl
theorem dX7_often_56 : decode cX7_often 56 = .ok (.iload 4, 2) := ax_dec dX7_often_q0_ok 30 (56, .iload 4, 2) rfl
theorem dX7_often_58 : decode cX7_often 58 = .ok (.iload 5, 2) := ax_dec dX7_often_q0_ok 31 (58, .iload 5, 2) rfl
def dX7_often_q1 : List (Nat × (Instr × Nat)) := [(60, .invokevirtual 261, 3), (63, .ifCond .eq 6, 3), (66, .iload 5, 2), (68, .ireturn, 1), (69, .iinc 5 (-1), 3), (72, .goto (-26), 3), (75, .iconst (-1), 1), (76, .ireturn, 1)]
set_option maxRecDepth 100000 in
theorem dX7_often_q1_ok : ax_decs cX7_often dX7_often_q1 = true := by decide +kernel
theorem dX7_often_60 : decode cX7_often 60 = .ok (.invokevirtual 261, 3) := ax_dec dX7_often_q1_ok 0 (60, .invokevirtual 261, 3) rfl
theorem dX7_often_63 : decode cX7_often 63 = .ok (.ifCond .eq 6, 3) := ax_dec dX7_often_q1_ok 1 (63, .ifCond .eq 6, 3) rfl
theorem dX7_often_66 : decode cX7_often 66 = .ok (.iload 5, 2) := ax_dec dX7_often_q1_ok 2 (66, .iload 5, 2) rfl
theorem dX7_often_68 : decode cX7_often 68 = .ok (.ireturn, 1) := ax_dec dX7_often_q1_ok 3 (68, .ireturn, 1) rfl
theorem dX7_often_69 : decode cX7_often 69 = .ok (.iinc 5 (-1), 3) := ax_dec dX7_often_q1_ok 4 (69, .iinc 5 (-1), 3) rfl
theorem dX7_often_72 : decode cX7_often 72 = .ok (.goto (-26), 3) := ax_dec dX7_often_q1_ok 5 (72, .goto (-26), 3) rfl
theorem dX7_often_75 : decode cX7_often 75 = .ok (.iconst (-1), 1) := ax_dec dX7_often_q1_ok 6 (75, .iconst (-1), 1) rfl
theorem dX7_often_76 : decode cX7_often 76 = .ok (.ireturn, 1) := ax_dec dX7_often_q1_ok 7 (76, .ireturn, 1) rfl
def dX7_mostSoot_q0 : List (Nat × (Instr × Nat)) := [(0, .iconst 0, 1), (1, .istore_n 1, 1), (2, .iconst 0, 1), (3, .istore_n 2, 1), (4, .iload_n 2, 1), (5, .aload_n 0, 1), (6, .getfield 84, 3), (9, .if_icmp .ge 30, 3), (12, .aload_n 0, 1), (13, .getfield 28, 3), (16, .iload_n 2, 1), (17, .iaload, 1), (18, .iload_n 1, 1), (19, .if_icmp .le 12, 3), (22, .aload_n 0, 1), (23, .getfield 28, 3), (26, .iload_n 2, 1), (27, .iaload, 1), (28, .goto 4, 3), (31, .iload_n 1, 1), (32, .istore_n 1, 1), (33, .iinc 2 1, 3), (36, .goto (-32), 3), (39, .iload_n 1, 1), (40, .ireturn, 1)]
set_option maxRecDepth 100000 in
theorem dX7_mostSoot_q0_ok : ax_decs cX7_mostSoot dX7_mostSoot_q0 = true := by decide +kernel
theorem dX7_mostSoot_0 : decode cX7_mostSoot 0 = .ok (.iconst 0, 1) := ax_dec dX7_mostSoot_q0_ok 0 (0, .iconst 0, 1) rfl
theorem dX7_mostSoot_1 : decode cX7_mostSoot 1 = .ok (.istore_n 1, 1) := ax_dec dX7_mostSoot_q0_ok 1 (1, .istore_n 1, 1) rfl
theorem dX7_mostSoot_2 : decode cX7_mostSoot 2 = .ok (.iconst 0, 1) := ax_dec dX7_mostSoot_q0_ok 2 (2, .iconst 0, 1) rfl
theorem dX7_mostSoot_3 : decode cX7_mostSoot 3 = .ok (.istore_n 2, 1) := ax_dec dX7_mostSoot_q0_ok 3 (3, .istore_n 2, 1) rfl
theorem dX7_mostSoot_4 : decode cX7_mostSoot 4 = .ok (.iload_n 2, 1) := ax_dec dX7_mostSoot_q0_ok 4 (4, .iload_n 2, 1) rfl
theorem dX7_mostSoot_5 : decode cX7_mostSoot 5 = .ok (.aload_n 0, 1) := ax_dec dX7_mostSoot_q0_ok 5 (5, .aload_n 0, 1) rfl
theorem dX7_mostSoot_6 : decode cX7_mostSoot 6 = .ok (.getfield 84, 3) := ax_dec dX7_mostSoot_q0_ok 6 (6, .getfield 84, 3) rfl
theorem dX7_mostSoot_9 : decode cX7_mostSoot 9 = .ok (.if_icmp .ge 30, 3) := ax_dec dX7_mostSoot_q0_ok 7 (9, .if_icmp .ge 30, 3) rfl
theorem dX7_mostSoot_12 : decode cX7_mostSoot 12 = .ok (.aload_n 0, 1) := ax_dec dX7_mostSoot_q0_ok 8 (12, .aload_n 0, 1) rfl
theorem dX7_mostSoot_13 : decode cX7_mostSoot 13 = .ok (.getfield 28, 3) := ax_dec dX7_mostSoot_q0_ok 9 (13, .getfield 28, 3) rfl
theorem dX7_mostSoot_16 : decode cX7_mostSoot 16 = .ok (.iload_n 2, 1) := ax_dec dX7_mostSoot_q0_ok 10 (16, .iload_n 2, 1) rfl
theorem dX7_mostSoot_17 : decode cX7_mostSoot 17 = .ok (.iaload, 1) := ax_dec dX7_mostSoot_q0_ok 11 (17, .iaload, 1) rfl
theorem dX7_mostSoot_18 : decode cX7_mostSoot 18 = .ok (.iload_n 1, 1) := ax_dec dX7_mostSoot_q0_ok 12 (18, .iload_n 1, 1) rfl
theorem dX7_mostSoot_19 : decode cX7_mostSoot 19 = .ok (.if_icmp .le 12, 3) := ax_dec dX7_mostSoot_q0_ok 13 (19, .if_icmp .le 12, 3) rfl
theorem dX7_mostSoot_22 : decode cX7_mostSoot 22 = .ok (.aload_n 0, 1) := ax_dec dX7_mostSoot_q0_ok 14 (22, .aload_n 0, 1) rfl
theorem dX7_mostSoot_23 : decode cX7_mostSoot 23 = .ok (.getfield 28, 3) := ax_dec dX7_mostSoot_q0_ok 15 (23, .getfield 28, 3) rfl
theorem dX7_mostSoot_26 : decode cX7_mostSoot 26 = .ok (.iload_n 2, 1) := ax_dec dX7_mostSoot_q0_ok 16 (26, .iload_n 2, 1) rfl
theorem dX7_mostSoot_27 : decode cX7_mostSoot 27 = .ok (.iaload, 1) := ax_dec dX7_mostSoot_q0_ok 17 (27, .iaload, 1) rfl
theorem dX7_mostSoot_28 : decode cX7_mostSoot 28 = .ok (.goto 4, 3) := ax_dec dX7_mostSoot_q0_ok 18 (28, .goto 4, 3) rfl
theorem dX7_mostSoot_31 : decode cX7_mostSoot 31 = .ok (.iload_n 1, 1) := ax_dec dX7_mostSoot_q0_ok 19 (31, .iload_n 1, 1) rfl
theorem dX7_mostSoot_32 : decode cX7_mostSoot 32 = .ok (.istore_n 1, 1) := ax_dec dX7_mostSoot_q0_ok 20 (32, .istore_n 1, 1) rfl
theorem dX7_mostSoot_33 : decode cX7_mostSoot 33 = .ok (.iinc 2 1, 3) := ax_dec dX7_mostSoot_q0_ok 21 (33, .iinc 2 1, 3) rfl
theorem dX7_mostSoot_36 : decode cX7_mostSoot 36 = .ok (.goto (-32), 3) := ax_dec dX7_mostSoot_q0_ok 22 (36, .goto (-32), 3) rfl
theorem dX7_mostSoot_39 : decode cX7_mostSoot 39 = .ok (.iload_n 1, 1) := ax_dec dX7_mostSoot_q0_ok 23 (39, .iload_n 1, 1) rfl
theorem dX7_mostSoot_40 : decode cX7_mostSoot 40 = .ok (.ireturn, 1) := ax_dec dX7_mostSoot_q0_ok 24 (40, .ireturn, 1) rfl
def dX7_goesRound_q0 : List (Nat × (Instr × Nat)) := [(0, .iconst 0, 1), (1, .istore 4, 2), (3, .aload_n 0, 1), (4, .invokevirtual 249, 3), (7, .iconst 0, 1), (8, .istore 5, 2), (10, .iload 5, 2), (12, .aload_n 0, 1), (13, .getfield 265, 3), (16, .if_icmp .ge 72, 3), (19, .iconst 0, 1), (20, .istore 6, 2), (22, .iload 6, 2), (24, .aload_n 0, 1), (25, .getfield 265, 3), (28, .if_icmp .ge 21, 3), (31, .aload_n 0, 1), (32, .aload_n 0, 1), (33, .getfield 70, 3), (36, .iload 6, 2), (38, .iaload, 1), (39, .iload_n 2, 1), (40, .invokevirtual 232, 3), (43, .iinc 6 1, 3), (46, .goto (-24), 3), (49, .aload_n 0, 1), (50, .invokevirtual 268, 3), (53, .iload 4, 2), (55, .if_icmp .le 10, 3), (58, .aload_n 0, 1), (59, .invokevirtual 268, 3), (62, .goto 5, 3)]
set_option maxRecDepth 100000 in
theorem dX7_goesRound_q0_ok : ax_decs cX7_goesRound dX7_goesRound_q0 = true := by decide +kernel
theorem dX7_goesRound_0 : decode cX7_goesRound 0 = .ok (.iconst 0, 1) := ax_dec dX7_goesRound_q0_ok 0 (0, .iconst 0, 1) rfl
theorem dX7_goesRound_1 : decode cX7_goesRound 1 = .ok (.istore 4, 2) := ax_dec dX7_goesRound_q0_ok 1 (1, .istore 4, 2) rfl
theorem dX7_goesRound_3 : decode cX7_goesRound 3 = .ok (.aload_n 0, 1) := ax_dec dX7_goesRound_q0_ok 2 (3, .aload_n 0, 1) rfl
theorem dX7_goesRound_4 : decode cX7_goesRound 4 = .ok (.invokevirtual 249, 3) := ax_dec dX7_goesRound_q0_ok 3 (4, .invokevirtual 249, 3) rfl
theorem dX7_goesRound_7 : decode cX7_goesRound 7 = .ok (.iconst 0, 1) := ax_dec dX7_goesRound_q0_ok 4 (7, .iconst 0, 1) rfl
theorem dX7_goesRound_8 : decode cX7_goesRound 8 = .ok (.istore 5, 2) := ax_dec dX7_goesRound_q0_ok 5 (8, .istore 5, 2) rfl
theorem dX7_goesRound_10 : decode cX7_goesRound 10 = .ok (.iload 5, 2) := ax_dec dX7_goesRound_q0_ok 6 (10, .iload 5, 2) rfl
theorem dX7_goesRound_12 : decode cX7_goesRound 12 = .ok (.aload_n 0, 1) := ax_dec dX7_goesRound_q0_ok 7 (12, .aload_n 0, 1) rfl
theorem dX7_goesRound_13 : decode cX7_goesRound 13 = .ok (.getfield 265, 3) := ax_dec dX7_goesRound_q0_ok 8 (13, .getfield 265, 3) rfl
theorem dX7_goesRound_16 : decode cX7_goesRound 16 = .ok (.if_icmp .ge 72, 3) := ax_dec dX7_goesRound_q0_ok 9 (16, .if_icmp .ge 72, 3) rfl
theorem dX7_goesRound_19 : decode cX7_goesRound 19 = .ok (.iconst 0, 1) := ax_dec dX7_goesRound_q0_ok 10 (19, .iconst 0, 1) rfl
theorem dX7_goesRound_20 : decode cX7_goesRound 20 = .ok (.istore 6, 2) := ax_dec dX7_goesRound_q0_ok 11 (20, .istore 6, 2) rfl
theorem dX7_goesRound_22 : decode cX7_goesRound 22 = .ok (.iload 6, 2) := ax_dec dX7_goesRound_q0_ok 12 (22, .iload 6, 2) rfl
theorem dX7_goesRound_24 : decode cX7_goesRound 24 = .ok (.aload_n 0, 1) := ax_dec dX7_goesRound_q0_ok 13 (24, .aload_n 0, 1) rfl
theorem dX7_goesRound_25 : decode cX7_goesRound 25 = .ok (.getfield 265, 3) := ax_dec dX7_goesRound_q0_ok 14 (25, .getfield 265, 3) rfl
theorem dX7_goesRound_28 : decode cX7_goesRound 28 = .ok (.if_icmp .ge 21, 3) := ax_dec dX7_goesRound_q0_ok 15 (28, .if_icmp .ge 21, 3) rfl
theorem dX7_goesRound_31 : decode cX7_goesRound 31 = .ok (.aload_n 0, 1) := ax_dec dX7_goesRound_q0_ok 16 (31, .aload_n 0, 1) rfl
theorem dX7_goesRound_32 : decode cX7_goesRound 32 = .ok (.aload_n 0, 1) := ax_dec dX7_goesRound_q0_ok 17 (32, .aload_n 0, 1) rfl
theorem dX7_goesRound_33 : decode cX7_goesRound 33 = .ok (.getfield 70, 3) := ax_dec dX7_goesRound_q0_ok 18 (33, .getfield 70, 3) rfl
theorem dX7_goesRound_36 : decode cX7_goesRound 36 = .ok (.iload 6, 2) := ax_dec dX7_goesRound_q0_ok 19 (36, .iload 6, 2) rfl
theorem dX7_goesRound_38 : decode cX7_goesRound 38 = .ok (.iaload, 1) := ax_dec dX7_goesRound_q0_ok 20 (38, .iaload, 1) rfl
theorem dX7_goesRound_39 : decode cX7_goesRound 39 = .ok (.iload_n 2, 1) := ax_dec dX7_goesRound_q0_ok 21 (39, .iload_n 2, 1) rfl
theorem dX7_goesRound_40 : decode cX7_goesRound 40 = .ok (.invokevirtual 232, 3) := ax_dec dX7_goesRound_q0_ok 22 (40, .invokevirtual 232, 3) rfl
theorem dX7_goesRound_43 : decode cX7_goesRound 43 = .ok (.iinc 6 1, 3) := ax_dec dX7_goesRound_q0_ok 23 (43, .iinc 6 1, 3) rfl
theorem dX7_goesRound_46 : decode cX7_goesRound 46 = .ok (.goto (-24), 3) := ax_dec dX7_goesRound_q0_ok 24 (46, .goto (-24), 3) rfl
theorem dX7_goesRound_49 : decode cX7_goesRound 49 = .ok (.aload_n 0, 1) := ax_dec dX7_goesRound_q0_ok 25 (49, .aload_n 0, 1) rfl
theorem dX7_goesRound_50 : decode cX7_goesRound 50 = .ok (.invokevirtual 268, 3) := ax_dec dX7_goesRound_q0_ok 26 (50, .invokevirtual 268, 3) rfl
theorem dX7_goesRound_53 : decode cX7_goesRound 53 = .ok (.iload 4, 2) := ax_dec dX7_goesRound_q0_ok 27 (53, .iload 4, 2) rfl
theorem dX7_goesRound_55 : decode cX7_goesRound 55 = .ok (.if_icmp .le 10, 3) := ax_dec dX7_goesRound_q0_ok 28 (55, .if_icmp .le 10, 3) rfl
theorem dX7_goesRound_58 : decode cX7_goesRound 58 = .ok (.aload_n 0, 1) := ax_dec dX7_goesRound_q0_ok 29 (58, .aload_n 0, 1) rfl
theorem dX7_goesRound_59 : decode cX7_goesRound 59 = .ok (.invokevirtual 268, 3) := ax_dec dX7_goesRound_q0_ok 30 (59, .invokevirtual 268, 3) rfl
theorem dX7_goesRound_62 : decode cX7_goesRound 62 = .ok (.goto 5, 3) := ax_dec dX7_goesRound_q0_ok 31 (62, .goto 5, 3) rfl
def dX7_goesRound_q1 : List (Nat × (Instr × Nat)) := [(65, .iload 4, 2), (67, .istore 4, 2), (69, .aload_n 0, 1), (70, .aload_n 0, 1), (71, .getfield 73, 3), (74, .iload 5, 2), (76, .iaload, 1), (77, .iload_n 3, 1), (78, .invokevirtual 223, 3), (81, .pop, 1), (82, .iinc 5 1, 3), (85, .goto (-75), 3), (88, .aload_n 0, 1), (89, .invokevirtual 256, 3), (92, .aload_n 0, 1), (93, .getfield 271, 3), (96, .iconst (-1), 1), (97, .if_icmp .eq 12, 3), (100, .iload 4, 2), (102, .aload_n 0, 1), (103, .getfield 271, 3), (106, .if_icmp .ge 14, 3), (109, .aload_n 0, 1), (110, .iload 4, 2), (112, .putfield 271, 3), (115, .aload_n 0, 1), (116, .iload_n 1, 1), (117, .putfield 274, 3), (120, .return_, 1)]
set_option maxRecDepth 100000 in
theorem dX7_goesRound_q1_ok : ax_decs cX7_goesRound dX7_goesRound_q1 = true := by decide +kernel
theorem dX7_goesRound_65 : decode cX7_goesRound 65 = .ok (.iload 4, 2) := ax_dec dX7_goesRound_q1_ok 0 (65, .iload 4, 2) rfl
theorem dX7_goesRound_67 : decode cX7_goesRound 67 = .ok (.istore 4, 2) := ax_dec dX7_goesRound_q1_ok 1 (67, .istore 4, 2) rfl
theorem dX7_goesRound_69 : decode cX7_goesRound 69 = .ok (.aload_n 0, 1) := ax_dec dX7_goesRound_q1_ok 2 (69, .aload_n 0, 1) rfl
theorem dX7_goesRound_70 : decode cX7_goesRound 70 = .ok (.aload_n 0, 1) := ax_dec dX7_goesRound_q1_ok 3 (70, .aload_n 0, 1) rfl
theorem dX7_goesRound_71 : decode cX7_goesRound 71 = .ok (.getfield 73, 3) := ax_dec dX7_goesRound_q1_ok 4 (71, .getfield 73, 3) rfl
theorem dX7_goesRound_74 : decode cX7_goesRound 74 = .ok (.iload 5, 2) := ax_dec dX7_goesRound_q1_ok 5 (74, .iload 5, 2) rfl
theorem dX7_goesRound_76 : decode cX7_goesRound 76 = .ok (.iaload, 1) := ax_dec dX7_goesRound_q1_ok 6 (76, .iaload, 1) rfl
theorem dX7_goesRound_77 : decode cX7_goesRound 77 = .ok (.iload_n 3, 1) := ax_dec dX7_goesRound_q1_ok 7 (77, .iload_n 3, 1) rfl
theorem dX7_goesRound_78 : decode cX7_goesRound 78 = .ok (.invokevirtual 223, 3) := ax_dec dX7_goesRound_q1_ok 8 (78, .invokevirtual 223, 3) rfl
theorem dX7_goesRound_81 : decode cX7_goesRound 81 = .ok (.pop, 1) := ax_dec dX7_goesRound_q1_ok 9 (81, .pop, 1) rfl
theorem dX7_goesRound_82 : decode cX7_goesRound 82 = .ok (.iinc 5 1, 3) := ax_dec dX7_goesRound_q1_ok 10 (82, .iinc 5 1, 3) rfl
theorem dX7_goesRound_85 : decode cX7_goesRound 85 = .ok (.goto (-75), 3) := ax_dec dX7_goesRound_q1_ok 11 (85, .goto (-75), 3) rfl
theorem dX7_goesRound_88 : decode cX7_goesRound 88 = .ok (.aload_n 0, 1) := ax_dec dX7_goesRound_q1_ok 12 (88, .aload_n 0, 1) rfl
theorem dX7_goesRound_89 : decode cX7_goesRound 89 = .ok (.invokevirtual 256, 3) := ax_dec dX7_goesRound_q1_ok 13 (89, .invokevirtual 256, 3) rfl
theorem dX7_goesRound_92 : decode cX7_goesRound 92 = .ok (.aload_n 0, 1) := ax_dec dX7_goesRound_q1_ok 14 (92, .aload_n 0, 1) rfl
theorem dX7_goesRound_93 : decode cX7_goesRound 93 = .ok (.getfield 271, 3) := ax_dec dX7_goesRound_q1_ok 15 (93, .getfield 271, 3) rfl
theorem dX7_goesRound_96 : decode cX7_goesRound 96 = .ok (.iconst (-1), 1) := ax_dec dX7_goesRound_q1_ok 16 (96, .iconst (-1), 1) rfl
theorem dX7_goesRound_97 : decode cX7_goesRound 97 = .ok (.if_icmp .eq 12, 3) := ax_dec dX7_goesRound_q1_ok 17 (97, .if_icmp .eq 12, 3) rfl
theorem dX7_goesRound_100 : decode cX7_goesRound 100 = .ok (.iload 4, 2) := ax_dec dX7_goesRound_q1_ok 18 (100, .iload 4, 2) rfl
theorem dX7_goesRound_102 : decode cX7_goesRound 102 = .ok (.aload_n 0, 1) := ax_dec dX7_goesRound_q1_ok 19 (102, .aload_n 0, 1) rfl
theorem dX7_goesRound_103 : decode cX7_goesRound 103 = .ok (.getfield 271, 3) := ax_dec dX7_goesRound_q1_ok 20 (103, .getfield 271, 3) rfl
theorem dX7_goesRound_106 : decode cX7_goesRound 106 = .ok (.if_icmp .ge 14, 3) := ax_dec dX7_goesRound_q1_ok 21 (106, .if_icmp .ge 14, 3) rfl
theorem dX7_goesRound_109 : decode cX7_goesRound 109 = .ok (.aload_n 0, 1) := ax_dec dX7_goesRound_q1_ok 22 (109, .aload_n 0, 1) rfl
theorem dX7_goesRound_110 : decode cX7_goesRound 110 = .ok (.iload 4, 2) := ax_dec dX7_goesRound_q1_ok 23 (110, .iload 4, 2) rfl
theorem dX7_goesRound_112 : decode cX7_goesRound 112 = .ok (.putfield 271, 3) := ax_dec dX7_goesRound_q1_ok 24 (112, .putfield 271, 3) rfl
theorem dX7_goesRound_115 : decode cX7_goesRound 115 = .ok (.aload_n 0, 1) := ax_dec dX7_goesRound_q1_ok 25 (115, .aload_n 0, 1) rfl
theorem dX7_goesRound_116 : decode cX7_goesRound 116 = .ok (.iload_n 1, 1) := ax_dec dX7_goesRound_q1_ok 26 (116, .iload_n 1, 1) rfl
theorem dX7_goesRound_117 : decode cX7_goesRound 117 = .ok (.putfield 274, 3) := ax_dec dX7_goesRound_q1_ok 27 (117, .putfield 274, 3) rfl
theorem dX7_goesRound_120 : decode cX7_goesRound 120 = .ok (.return_, 1) := ax_dec dX7_goesRound_q1_ok 28 (120, .return_, 1) rfl
def dX7_orders_q0 : List (Nat × (Instr × Nat)) := [(0, .iload_n 1, 1), (1, .aload_n 0, 1), (2, .getfield 265, 3), (5, .if_icmp .ne 13, 3), (8, .aload_n 0, 1), (9, .iload_n 3, 1), (10, .iload 4, 2), (12, .iload 5, 2), (14, .invokevirtual 277, 3), (17, .return_, 1), (18, .iconst 0, 1), (19, .istore 6, 2), (21, .iload 6, 2), (23, .aload_n 0, 1), (24, .getfield 265, 3), (27, .if_icmp .ge 60, 3), (30, .iload_n 2, 1), (31, .iload 6, 2), (33, .ishr, 1), (34, .iconst 1, 1), (35, .iand, 1), (36, .ifCond .ne 45, 3), (39, .aload_n 0, 1), (40, .getfield 73, 3), (43, .iload_n 1, 1), (44, .aload_n 0, 1), (45, .getfield 70, 3), (48, .iload 6, 2), (50, .iaload, 1), (51, .iastore, 1), (52, .aload_n 0, 1), (53, .iload_n 1, 1)]
set_option maxRecDepth 100000 in
theorem dX7_orders_q0_ok : ax_decs cX7_orders dX7_orders_q0 = true := by decide +kernel
theorem dX7_orders_0 : decode cX7_orders 0 = .ok (.iload_n 1, 1) := ax_dec dX7_orders_q0_ok 0 (0, .iload_n 1, 1) rfl
theorem dX7_orders_1 : decode cX7_orders 1 = .ok (.aload_n 0, 1) := ax_dec dX7_orders_q0_ok 1 (1, .aload_n 0, 1) rfl
theorem dX7_orders_2 : decode cX7_orders 2 = .ok (.getfield 265, 3) := ax_dec dX7_orders_q0_ok 2 (2, .getfield 265, 3) rfl
theorem dX7_orders_5 : decode cX7_orders 5 = .ok (.if_icmp .ne 13, 3) := ax_dec dX7_orders_q0_ok 3 (5, .if_icmp .ne 13, 3) rfl
theorem dX7_orders_8 : decode cX7_orders 8 = .ok (.aload_n 0, 1) := ax_dec dX7_orders_q0_ok 4 (8, .aload_n 0, 1) rfl
theorem dX7_orders_9 : decode cX7_orders 9 = .ok (.iload_n 3, 1) := ax_dec dX7_orders_q0_ok 5 (9, .iload_n 3, 1) rfl
theorem dX7_orders_10 : decode cX7_orders 10 = .ok (.iload 4, 2) := ax_dec dX7_orders_q0_ok 6 (10, .iload 4, 2) rfl
theorem dX7_orders_12 : decode cX7_orders 12 = .ok (.iload 5, 2) := ax_dec dX7_orders_q0_ok 7 (12, .iload 5, 2) rfl
theorem dX7_orders_14 : decode cX7_orders 14 = .ok (.invokevirtual 277, 3) := ax_dec dX7_orders_q0_ok 8 (14, .invokevirtual 277, 3) rfl
theorem dX7_orders_17 : decode cX7_orders 17 = .ok (.return_, 1) := ax_dec dX7_orders_q0_ok 9 (17, .return_, 1) rfl
theorem dX7_orders_18 : decode cX7_orders 18 = .ok (.iconst 0, 1) := ax_dec dX7_orders_q0_ok 10 (18, .iconst 0, 1) rfl
theorem dX7_orders_19 : decode cX7_orders 19 = .ok (.istore 6, 2) := ax_dec dX7_orders_q0_ok 11 (19, .istore 6, 2) rfl
theorem dX7_orders_21 : decode cX7_orders 21 = .ok (.iload 6, 2) := ax_dec dX7_orders_q0_ok 12 (21, .iload 6, 2) rfl
theorem dX7_orders_23 : decode cX7_orders 23 = .ok (.aload_n 0, 1) := ax_dec dX7_orders_q0_ok 13 (23, .aload_n 0, 1) rfl
theorem dX7_orders_24 : decode cX7_orders 24 = .ok (.getfield 265, 3) := ax_dec dX7_orders_q0_ok 14 (24, .getfield 265, 3) rfl
theorem dX7_orders_27 : decode cX7_orders 27 = .ok (.if_icmp .ge 60, 3) := ax_dec dX7_orders_q0_ok 15 (27, .if_icmp .ge 60, 3) rfl
theorem dX7_orders_30 : decode cX7_orders 30 = .ok (.iload_n 2, 1) := ax_dec dX7_orders_q0_ok 16 (30, .iload_n 2, 1) rfl
theorem dX7_orders_31 : decode cX7_orders 31 = .ok (.iload 6, 2) := ax_dec dX7_orders_q0_ok 17 (31, .iload 6, 2) rfl
theorem dX7_orders_33 : decode cX7_orders 33 = .ok (.ishr, 1) := ax_dec dX7_orders_q0_ok 18 (33, .ishr, 1) rfl
theorem dX7_orders_34 : decode cX7_orders 34 = .ok (.iconst 1, 1) := ax_dec dX7_orders_q0_ok 19 (34, .iconst 1, 1) rfl
theorem dX7_orders_35 : decode cX7_orders 35 = .ok (.iand, 1) := ax_dec dX7_orders_q0_ok 20 (35, .iand, 1) rfl
theorem dX7_orders_36 : decode cX7_orders 36 = .ok (.ifCond .ne 45, 3) := ax_dec dX7_orders_q0_ok 21 (36, .ifCond .ne 45, 3) rfl
theorem dX7_orders_39 : decode cX7_orders 39 = .ok (.aload_n 0, 1) := ax_dec dX7_orders_q0_ok 22 (39, .aload_n 0, 1) rfl
theorem dX7_orders_40 : decode cX7_orders 40 = .ok (.getfield 73, 3) := ax_dec dX7_orders_q0_ok 23 (40, .getfield 73, 3) rfl
theorem dX7_orders_43 : decode cX7_orders 43 = .ok (.iload_n 1, 1) := ax_dec dX7_orders_q0_ok 24 (43, .iload_n 1, 1) rfl
theorem dX7_orders_44 : decode cX7_orders 44 = .ok (.aload_n 0, 1) := ax_dec dX7_orders_q0_ok 25 (44, .aload_n 0, 1) rfl
theorem dX7_orders_45 : decode cX7_orders 45 = .ok (.getfield 70, 3) := ax_dec dX7_orders_q0_ok 26 (45, .getfield 70, 3) rfl
theorem dX7_orders_48 : decode cX7_orders 48 = .ok (.iload 6, 2) := ax_dec dX7_orders_q0_ok 27 (48, .iload 6, 2) rfl
theorem dX7_orders_50 : decode cX7_orders 50 = .ok (.iaload, 1) := ax_dec dX7_orders_q0_ok 28 (50, .iaload, 1) rfl
theorem dX7_orders_51 : decode cX7_orders 51 = .ok (.iastore, 1) := ax_dec dX7_orders_q0_ok 29 (51, .iastore, 1) rfl
theorem dX7_orders_52 : decode cX7_orders 52 = .ok (.aload_n 0, 1) := ax_dec dX7_orders_q0_ok 30 (52, .aload_n 0, 1) rfl
theorem dX7_orders_53 : decode cX7_orders 53 = .ok (.iload_n 1, 1) := ax_dec dX7_orders_q0_ok 31 (53, .iload_n 1, 1) rfl
def dX7_orders_q1 : List (Nat × (Instr × Nat)) := [(54, .iconst 1, 1), (55, .iadd, 1), (56, .iload_n 2, 1), (57, .iconst 1, 1), (58, .iload 6, 2), (60, .ishl, 1), (61, .ior, 1), (62, .bipush 10, 2), (64, .iload_n 3, 1), (65, .imul, 1), (66, .aload_n 0, 1), (67, .getfield 70, 3), (70, .iload 6, 2), (72, .iaload, 1), (73, .iadd, 1), (74, .iload 4, 2), (76, .iload 5, 2), (78, .invokevirtual 281, 3), (81, .iinc 6 1, 3), (84, .goto (-63), 3), (87, .return_, 1)]
set_option maxRecDepth 100000 in
theorem dX7_orders_q1_ok : ax_decs cX7_orders dX7_orders_q1 = true := by decide +kernel
theorem dX7_orders_54 : decode cX7_orders 54 = .ok (.iconst 1, 1) := ax_dec dX7_orders_q1_ok 0 (54, .iconst 1, 1) rfl
theorem dX7_orders_55 : decode cX7_orders 55 = .ok (.iadd, 1) := ax_dec dX7_orders_q1_ok 1 (55, .iadd, 1) rfl
theorem dX7_orders_56 : decode cX7_orders 56 = .ok (.iload_n 2, 1) := ax_dec dX7_orders_q1_ok 2 (56, .iload_n 2, 1) rfl
theorem dX7_orders_57 : decode cX7_orders 57 = .ok (.iconst 1, 1) := ax_dec dX7_orders_q1_ok 3 (57, .iconst 1, 1) rfl
theorem dX7_orders_58 : decode cX7_orders 58 = .ok (.iload 6, 2) := ax_dec dX7_orders_q1_ok 4 (58, .iload 6, 2) rfl
theorem dX7_orders_60 : decode cX7_orders 60 = .ok (.ishl, 1) := ax_dec dX7_orders_q1_ok 5 (60, .ishl, 1) rfl
theorem dX7_orders_61 : decode cX7_orders 61 = .ok (.ior, 1) := ax_dec dX7_orders_q1_ok 6 (61, .ior, 1) rfl
theorem dX7_orders_62 : decode cX7_orders 62 = .ok (.bipush 10, 2) := ax_dec dX7_orders_q1_ok 7 (62, .bipush 10, 2) rfl
theorem dX7_orders_64 : decode cX7_orders 64 = .ok (.iload_n 3, 1) := ax_dec dX7_orders_q1_ok 8 (64, .iload_n 3, 1) rfl
theorem dX7_orders_65 : decode cX7_orders 65 = .ok (.imul, 1) := ax_dec dX7_orders_q1_ok 9 (65, .imul, 1) rfl
theorem dX7_orders_66 : decode cX7_orders 66 = .ok (.aload_n 0, 1) := ax_dec dX7_orders_q1_ok 10 (66, .aload_n 0, 1) rfl
theorem dX7_orders_67 : decode cX7_orders 67 = .ok (.getfield 70, 3) := ax_dec dX7_orders_q1_ok 11 (67, .getfield 70, 3) rfl
theorem dX7_orders_70 : decode cX7_orders 70 = .ok (.iload 6, 2) := ax_dec dX7_orders_q1_ok 12 (70, .iload 6, 2) rfl
theorem dX7_orders_72 : decode cX7_orders 72 = .ok (.iaload, 1) := ax_dec dX7_orders_q1_ok 13 (72, .iaload, 1) rfl
theorem dX7_orders_73 : decode cX7_orders 73 = .ok (.iadd, 1) := ax_dec dX7_orders_q1_ok 14 (73, .iadd, 1) rfl
theorem dX7_orders_74 : decode cX7_orders 74 = .ok (.iload 4, 2) := ax_dec dX7_orders_q1_ok 15 (74, .iload 4, 2) rfl
theorem dX7_orders_76 : decode cX7_orders 76 = .ok (.iload 5, 2) := ax_dec dX7_orders_q1_ok 16 (76, .iload 5, 2) rfl
theorem dX7_orders_78 : decode cX7_orders 78 = .ok (.invokevirtual 281, 3) := ax_dec dX7_orders_q1_ok 17 (78, .invokevirtual 281, 3) rfl
theorem dX7_orders_81 : decode cX7_orders 81 = .ok (.iinc 6 1, 3) := ax_dec dX7_orders_q1_ok 18 (81, .iinc 6 1, 3) rfl
theorem dX7_orders_84 : decode cX7_orders 84 = .ok (.goto (-63), 3) := ax_dec dX7_orders_q1_ok 19 (84, .goto (-63), 3) rfl
theorem dX7_orders_87 : decode cX7_orders 87 = .ok (.return_, 1) := ax_dec dX7_orders_q1_ok 20 (87, .return_, 1) rfl
def dX7_round_q0 : List (Nat × (Instr × Nat)) := [(0, .iload_n 1, 1), (1, .invokestatic 229, 3), (4, .ifCond .eq 22, 3), (7, .iload_n 2, 1), (8, .iconst 0, 1), (9, .bipush 99, 2), (11, .invokestatic 87, 3), (14, .ifCond .eq 12, 3), (17, .iload_n 3, 1), (18, .iconst 0, 1), (19, .iconst 1, 1), (20, .invokestatic 87, 3), (23, .ifCond .ne 6, 3), (26, .bipush (-2), 2), (28, .ireturn, 1), (29, .aload_n 0, 1), (30, .iconst 0, 1), (31, .putfield 265, 3), (34, .iconst 0, 1), (35, .istore 4, 2), (37, .iload 4, 2), (39, .aload_n 0, 1), (40, .getfield 84, 3), (43, .if_icmp .ge 47, 3), (46, .aload_n 0, 1), (47, .iload 4, 2), (49, .invokevirtual 95, 3), (52, .ifCond .eq 32, 3), (55, .aload_n 0, 1), (56, .getfield 265, 3), (59, .iconst 4, 1), (60, .if_icmp .ge 24, 3)]
set_option maxRecDepth 100000 in
theorem dX7_round_q0_ok : ax_decs cX7_round dX7_round_q0 = true := by decide +kernel
theorem dX7_round_0 : decode cX7_round 0 = .ok (.iload_n 1, 1) := ax_dec dX7_round_q0_ok 0 (0, .iload_n 1, 1) rfl
theorem dX7_round_1 : decode cX7_round 1 = .ok (.invokestatic 229, 3) := ax_dec dX7_round_q0_ok 1 (1, .invokestatic 229, 3) rfl
theorem dX7_round_4 : decode cX7_round 4 = .ok (.ifCond .eq 22, 3) := ax_dec dX7_round_q0_ok 2 (4, .ifCond .eq 22, 3) rfl
theorem dX7_round_7 : decode cX7_round 7 = .ok (.iload_n 2, 1) := ax_dec dX7_round_q0_ok 3 (7, .iload_n 2, 1) rfl
theorem dX7_round_8 : decode cX7_round 8 = .ok (.iconst 0, 1) := ax_dec dX7_round_q0_ok 4 (8, .iconst 0, 1) rfl
theorem dX7_round_9 : decode cX7_round 9 = .ok (.bipush 99, 2) := ax_dec dX7_round_q0_ok 5 (9, .bipush 99, 2) rfl
theorem dX7_round_11 : decode cX7_round 11 = .ok (.invokestatic 87, 3) := ax_dec dX7_round_q0_ok 6 (11, .invokestatic 87, 3) rfl
theorem dX7_round_14 : decode cX7_round 14 = .ok (.ifCond .eq 12, 3) := ax_dec dX7_round_q0_ok 7 (14, .ifCond .eq 12, 3) rfl
theorem dX7_round_17 : decode cX7_round 17 = .ok (.iload_n 3, 1) := ax_dec dX7_round_q0_ok 8 (17, .iload_n 3, 1) rfl
theorem dX7_round_18 : decode cX7_round 18 = .ok (.iconst 0, 1) := ax_dec dX7_round_q0_ok 9 (18, .iconst 0, 1) rfl
theorem dX7_round_19 : decode cX7_round 19 = .ok (.iconst 1, 1) := ax_dec dX7_round_q0_ok 10 (19, .iconst 1, 1) rfl
theorem dX7_round_20 : decode cX7_round 20 = .ok (.invokestatic 87, 3) := ax_dec dX7_round_q0_ok 11 (20, .invokestatic 87, 3) rfl
theorem dX7_round_23 : decode cX7_round 23 = .ok (.ifCond .ne 6, 3) := ax_dec dX7_round_q0_ok 12 (23, .ifCond .ne 6, 3) rfl
theorem dX7_round_26 : decode cX7_round 26 = .ok (.bipush (-2), 2) := ax_dec dX7_round_q0_ok 13 (26, .bipush (-2), 2) rfl
theorem dX7_round_28 : decode cX7_round 28 = .ok (.ireturn, 1) := ax_dec dX7_round_q0_ok 14 (28, .ireturn, 1) rfl
theorem dX7_round_29 : decode cX7_round 29 = .ok (.aload_n 0, 1) := ax_dec dX7_round_q0_ok 15 (29, .aload_n 0, 1) rfl
theorem dX7_round_30 : decode cX7_round 30 = .ok (.iconst 0, 1) := ax_dec dX7_round_q0_ok 16 (30, .iconst 0, 1) rfl
theorem dX7_round_31 : decode cX7_round 31 = .ok (.putfield 265, 3) := ax_dec dX7_round_q0_ok 17 (31, .putfield 265, 3) rfl
theorem dX7_round_34 : decode cX7_round 34 = .ok (.iconst 0, 1) := ax_dec dX7_round_q0_ok 18 (34, .iconst 0, 1) rfl
theorem dX7_round_35 : decode cX7_round 35 = .ok (.istore 4, 2) := ax_dec dX7_round_q0_ok 19 (35, .istore 4, 2) rfl
theorem dX7_round_37 : decode cX7_round 37 = .ok (.iload 4, 2) := ax_dec dX7_round_q0_ok 20 (37, .iload 4, 2) rfl
theorem dX7_round_39 : decode cX7_round 39 = .ok (.aload_n 0, 1) := ax_dec dX7_round_q0_ok 21 (39, .aload_n 0, 1) rfl
theorem dX7_round_40 : decode cX7_round 40 = .ok (.getfield 84, 3) := ax_dec dX7_round_q0_ok 22 (40, .getfield 84, 3) rfl
theorem dX7_round_43 : decode cX7_round 43 = .ok (.if_icmp .ge 47, 3) := ax_dec dX7_round_q0_ok 23 (43, .if_icmp .ge 47, 3) rfl
theorem dX7_round_46 : decode cX7_round 46 = .ok (.aload_n 0, 1) := ax_dec dX7_round_q0_ok 24 (46, .aload_n 0, 1) rfl
theorem dX7_round_47 : decode cX7_round 47 = .ok (.iload 4, 2) := ax_dec dX7_round_q0_ok 25 (47, .iload 4, 2) rfl
theorem dX7_round_49 : decode cX7_round 49 = .ok (.invokevirtual 95, 3) := ax_dec dX7_round_q0_ok 26 (49, .invokevirtual 95, 3) rfl
theorem dX7_round_52 : decode cX7_round 52 = .ok (.ifCond .eq 32, 3) := ax_dec dX7_round_q0_ok 27 (52, .ifCond .eq 32, 3) rfl
theorem dX7_round_55 : decode cX7_round 55 = .ok (.aload_n 0, 1) := ax_dec dX7_round_q0_ok 28 (55, .aload_n 0, 1) rfl
theorem dX7_round_56 : decode cX7_round 56 = .ok (.getfield 265, 3) := ax_dec dX7_round_q0_ok 29 (56, .getfield 265, 3) rfl
theorem dX7_round_59 : decode cX7_round 59 = .ok (.iconst 4, 1) := ax_dec dX7_round_q0_ok 30 (59, .iconst 4, 1) rfl
theorem dX7_round_60 : decode cX7_round 60 = .ok (.if_icmp .ge 24, 3) := ax_dec dX7_round_q0_ok 31 (60, .if_icmp .ge 24, 3) rfl
def dX7_round_q1 : List (Nat × (Instr × Nat)) := [(63, .aload_n 0, 1), (64, .getfield 70, 3), (67, .aload_n 0, 1), (68, .getfield 265, 3), (71, .iload 4, 2), (73, .iastore, 1), (74, .aload_n 0, 1), (75, .dup, 1), (76, .getfield 265, 3), (79, .iconst 1, 1), (80, .iadd, 1), (81, .putfield 265, 3), (84, .iinc 4 1, 3), (87, .goto (-50), 3), (90, .aload_n 0, 1), (91, .iconst (-1), 1), (92, .putfield 271, 3), (95, .aload_n 0, 1), (96, .iconst 0, 1), (97, .putfield 274, 3), (100, .aload_n 0, 1), (101, .getfield 84, 3), (104, .ifCond .le 12, 3), (107, .aload_n 0, 1), (108, .iconst 0, 1), (109, .iconst 0, 1), (110, .iconst 0, 1), (111, .iload_n 1, 1), (112, .iload_n 2, 1), (113, .invokevirtual 281, 3), (116, .iload_n 3, 1), (117, .ifCond .ne 10, 3)]
set_option maxRecDepth 100000 in
theorem dX7_round_q1_ok : ax_decs cX7_round dX7_round_q1 = true := by decide +kernel
theorem dX7_round_63 : decode cX7_round 63 = .ok (.aload_n 0, 1) := ax_dec dX7_round_q1_ok 0 (63, .aload_n 0, 1) rfl
theorem dX7_round_64 : decode cX7_round 64 = .ok (.getfield 70, 3) := ax_dec dX7_round_q1_ok 1 (64, .getfield 70, 3) rfl
theorem dX7_round_67 : decode cX7_round 67 = .ok (.aload_n 0, 1) := ax_dec dX7_round_q1_ok 2 (67, .aload_n 0, 1) rfl
theorem dX7_round_68 : decode cX7_round 68 = .ok (.getfield 265, 3) := ax_dec dX7_round_q1_ok 3 (68, .getfield 265, 3) rfl
theorem dX7_round_71 : decode cX7_round 71 = .ok (.iload 4, 2) := ax_dec dX7_round_q1_ok 4 (71, .iload 4, 2) rfl
theorem dX7_round_73 : decode cX7_round 73 = .ok (.iastore, 1) := ax_dec dX7_round_q1_ok 5 (73, .iastore, 1) rfl
theorem dX7_round_74 : decode cX7_round 74 = .ok (.aload_n 0, 1) := ax_dec dX7_round_q1_ok 6 (74, .aload_n 0, 1) rfl
theorem dX7_round_75 : decode cX7_round 75 = .ok (.dup, 1) := ax_dec dX7_round_q1_ok 7 (75, .dup, 1) rfl
theorem dX7_round_76 : decode cX7_round 76 = .ok (.getfield 265, 3) := ax_dec dX7_round_q1_ok 8 (76, .getfield 265, 3) rfl
theorem dX7_round_79 : decode cX7_round 79 = .ok (.iconst 1, 1) := ax_dec dX7_round_q1_ok 9 (79, .iconst 1, 1) rfl
theorem dX7_round_80 : decode cX7_round 80 = .ok (.iadd, 1) := ax_dec dX7_round_q1_ok 10 (80, .iadd, 1) rfl
theorem dX7_round_81 : decode cX7_round 81 = .ok (.putfield 265, 3) := ax_dec dX7_round_q1_ok 11 (81, .putfield 265, 3) rfl
theorem dX7_round_84 : decode cX7_round 84 = .ok (.iinc 4 1, 3) := ax_dec dX7_round_q1_ok 12 (84, .iinc 4 1, 3) rfl
theorem dX7_round_87 : decode cX7_round 87 = .ok (.goto (-50), 3) := ax_dec dX7_round_q1_ok 13 (87, .goto (-50), 3) rfl
theorem dX7_round_90 : decode cX7_round 90 = .ok (.aload_n 0, 1) := ax_dec dX7_round_q1_ok 14 (90, .aload_n 0, 1) rfl
theorem dX7_round_91 : decode cX7_round 91 = .ok (.iconst (-1), 1) := ax_dec dX7_round_q1_ok 15 (91, .iconst (-1), 1) rfl
theorem dX7_round_92 : decode cX7_round 92 = .ok (.putfield 271, 3) := ax_dec dX7_round_q1_ok 16 (92, .putfield 271, 3) rfl
theorem dX7_round_95 : decode cX7_round 95 = .ok (.aload_n 0, 1) := ax_dec dX7_round_q1_ok 17 (95, .aload_n 0, 1) rfl
theorem dX7_round_96 : decode cX7_round 96 = .ok (.iconst 0, 1) := ax_dec dX7_round_q1_ok 18 (96, .iconst 0, 1) rfl
theorem dX7_round_97 : decode cX7_round 97 = .ok (.putfield 274, 3) := ax_dec dX7_round_q1_ok 19 (97, .putfield 274, 3) rfl
theorem dX7_round_100 : decode cX7_round 100 = .ok (.aload_n 0, 1) := ax_dec dX7_round_q1_ok 20 (100, .aload_n 0, 1) rfl
theorem dX7_round_101 : decode cX7_round 101 = .ok (.getfield 84, 3) := ax_dec dX7_round_q1_ok 21 (101, .getfield 84, 3) rfl
theorem dX7_round_104 : decode cX7_round 104 = .ok (.ifCond .le 12, 3) := ax_dec dX7_round_q1_ok 22 (104, .ifCond .le 12, 3) rfl
theorem dX7_round_107 : decode cX7_round 107 = .ok (.aload_n 0, 1) := ax_dec dX7_round_q1_ok 23 (107, .aload_n 0, 1) rfl
theorem dX7_round_108 : decode cX7_round 108 = .ok (.iconst 0, 1) := ax_dec dX7_round_q1_ok 24 (108, .iconst 0, 1) rfl
theorem dX7_round_109 : decode cX7_round 109 = .ok (.iconst 0, 1) := ax_dec dX7_round_q1_ok 25 (109, .iconst 0, 1) rfl
theorem dX7_round_110 : decode cX7_round 110 = .ok (.iconst 0, 1) := ax_dec dX7_round_q1_ok 26 (110, .iconst 0, 1) rfl
theorem dX7_round_111 : decode cX7_round 111 = .ok (.iload_n 1, 1) := ax_dec dX7_round_q1_ok 27 (111, .iload_n 1, 1) rfl
theorem dX7_round_112 : decode cX7_round 112 = .ok (.iload_n 2, 1) := ax_dec dX7_round_q1_ok 28 (112, .iload_n 2, 1) rfl
theorem dX7_round_113 : decode cX7_round 113 = .ok (.invokevirtual 281, 3) := ax_dec dX7_round_q1_ok 29 (113, .invokevirtual 281, 3) rfl
theorem dX7_round_116 : decode cX7_round 116 = .ok (.iload_n 3, 1) := ax_dec dX7_round_q1_ok 30 (116, .iload_n 3, 1) rfl
theorem dX7_round_117 : decode cX7_round 117 = .ok (.ifCond .ne 10, 3) := ax_dec dX7_round_q1_ok 31 (117, .ifCond .ne 10, 3) rfl
def dX7_round_q2 : List (Nat × (Instr × Nat)) := [(120, .aload_n 0, 1), (121, .getfield 274, 3), (124, .goto 19, 3), (127, .aload_n 0, 1), (128, .getfield 271, 3), (131, .iconst (-1), 1), (132, .if_icmp .ne 7, 3), (135, .iconst 0, 1), (136, .goto 7, 3), (139, .aload_n 0, 1), (140, .getfield 271, 3), (143, .ireturn, 1)]
set_option maxRecDepth 100000 in
theorem dX7_round_q2_ok : ax_decs cX7_round dX7_round_q2 = true := by decide +kernel
theorem dX7_round_120 : decode cX7_round 120 = .ok (.aload_n 0, 1) := ax_dec dX7_round_q2_ok 0 (120, .aload_n 0, 1) rfl
theorem dX7_round_121 : decode cX7_round 121 = .ok (.getfield 274, 3) := ax_dec dX7_round_q2_ok 1 (121, .getfield 274, 3) rfl
theorem dX7_round_124 : decode cX7_round 124 = .ok (.goto 19, 3) := ax_dec dX7_round_q2_ok 2 (124, .goto 19, 3) rfl
theorem dX7_round_127 : decode cX7_round 127 = .ok (.aload_n 0, 1) := ax_dec dX7_round_q2_ok 3 (127, .aload_n 0, 1) rfl
theorem dX7_round_128 : decode cX7_round 128 = .ok (.getfield 271, 3) := ax_dec dX7_round_q2_ok 4 (128, .getfield 271, 3) rfl
theorem dX7_round_131 : decode cX7_round 131 = .ok (.iconst (-1), 1) := ax_dec dX7_round_q2_ok 5 (131, .iconst (-1), 1) rfl
theorem dX7_round_132 : decode cX7_round 132 = .ok (.if_icmp .ne 7, 3) := ax_dec dX7_round_q2_ok 6 (132, .if_icmp .ne 7, 3) rfl
theorem dX7_round_135 : decode cX7_round 135 = .ok (.iconst 0, 1) := ax_dec dX7_round_q2_ok 7 (135, .iconst 0, 1) rfl
theorem dX7_round_136 : decode cX7_round 136 = .ok (.goto 7, 3) := ax_dec dX7_round_q2_ok 8 (136, .goto 7, 3) rfl
theorem dX7_round_139 : decode cX7_round 139 = .ok (.aload_n 0, 1) := ax_dec dX7_round_q2_ok 9 (139, .aload_n 0, 1) rfl
theorem dX7_round_140 : decode cX7_round 140 = .ok (.getfield 271, 3) := ax_dec dX7_round_q2_ok 10 (140, .getfield 271, 3) rfl
theorem dX7_round_143 : decode cX7_round 143 = .ok (.ireturn, 1) := ax_dec dX7_round_q2_ok 11 (143, .ireturn, 1) rfl
def dX7_below_q0 : List (Nat × (Instr × Nat)) := [(0, .iconst 0, 1), (1, .istore_n 2, 1), (2, .iload_n 2, 1), (3, .aload_n 0, 1), (4, .getfield 84, 3), (7, .if_icmp .ge 21, 3), (10, .aload_n 0, 1), (11, .getfield 7, 3), (14, .iload_n 2, 1), (15, .iaload, 1), (16, .iload_n 1, 1), (17, .if_icmp .ne 5, 3), (20, .iload_n 2, 1), (21, .ireturn, 1), (22, .iinc 2 1, 3), (25, .goto (-23), 3), (28, .iconst (-1), 1), (29, .ireturn, 1)]
set_option maxRecDepth 100000 in
theorem dX7_below_q0_ok : ax_decs cX7_below dX7_below_q0 = true := by decide +kernel
theorem dX7_below_0 : decode cX7_below 0 = .ok (.iconst 0, 1) := ax_dec dX7_below_q0_ok 0 (0, .iconst 0, 1) rfl
theorem dX7_below_1 : decode cX7_below 1 = .ok (.istore_n 2, 1) := ax_dec dX7_below_q0_ok 1 (1, .istore_n 2, 1) rfl
theorem dX7_below_2 : decode cX7_below 2 = .ok (.iload_n 2, 1) := ax_dec dX7_below_q0_ok 2 (2, .iload_n 2, 1) rfl
theorem dX7_below_3 : decode cX7_below 3 = .ok (.aload_n 0, 1) := ax_dec dX7_below_q0_ok 3 (3, .aload_n 0, 1) rfl
theorem dX7_below_4 : decode cX7_below 4 = .ok (.getfield 84, 3) := ax_dec dX7_below_q0_ok 4 (4, .getfield 84, 3) rfl
theorem dX7_below_7 : decode cX7_below 7 = .ok (.if_icmp .ge 21, 3) := ax_dec dX7_below_q0_ok 5 (7, .if_icmp .ge 21, 3) rfl
theorem dX7_below_10 : decode cX7_below 10 = .ok (.aload_n 0, 1) := ax_dec dX7_below_q0_ok 6 (10, .aload_n 0, 1) rfl
theorem dX7_below_11 : decode cX7_below 11 = .ok (.getfield 7, 3) := ax_dec dX7_below_q0_ok 7 (11, .getfield 7, 3) rfl
theorem dX7_below_14 : decode cX7_below 14 = .ok (.iload_n 2, 1) := ax_dec dX7_below_q0_ok 8 (14, .iload_n 2, 1) rfl
theorem dX7_below_15 : decode cX7_below 15 = .ok (.iaload, 1) := ax_dec dX7_below_q0_ok 9 (15, .iaload, 1) rfl
theorem dX7_below_16 : decode cX7_below 16 = .ok (.iload_n 1, 1) := ax_dec dX7_below_q0_ok 10 (16, .iload_n 1, 1) rfl
theorem dX7_below_17 : decode cX7_below 17 = .ok (.if_icmp .ne 5, 3) := ax_dec dX7_below_q0_ok 11 (17, .if_icmp .ne 5, 3) rfl
theorem dX7_below_20 : decode cX7_below 20 = .ok (.iload_n 2, 1) := ax_dec dX7_below_q0_ok 12 (20, .iload_n 2, 1) rfl
theorem dX7_below_21 : decode cX7_below 21 = .ok (.ireturn, 1) := ax_dec dX7_below_q0_ok 13 (21, .ireturn, 1) rfl
theorem dX7_below_22 : decode cX7_below 22 = .ok (.iinc 2 1, 3) := ax_dec dX7_below_q0_ok 14 (22, .iinc 2 1, 3) rfl
theorem dX7_below_25 : decode cX7_below 25 = .ok (.goto (-23), 3) := ax_dec dX7_below_q0_ok 15 (25, .goto (-23), 3) rfl
theorem dX7_below_28 : decode cX7_below 28 = .ok (.iconst (-1), 1) := ax_dec dX7_below_q0_ok 16 (28, .iconst (-1), 1) rfl
theorem dX7_below_29 : decode cX7_below 29 = .ok (.ireturn, 1) := ax_dec dX7_below_q0_ok 17 (29, .ireturn, 1) rfl
def dX7_ball_q0 : List (Nat × (Instr × Nat)) := [(0, .aload_n 0, 1), (1, .iload_n 1, 1), (2, .invokevirtual 98, 3), (5, .ifCond .ne 6, 3), (8, .bipush (-5), 2), (10, .ireturn, 1), (11, .iload_n 2, 1), (12, .iconst 0, 1), (13, .bipush 9, 2), (15, .invokestatic 87, 3), (18, .ifCond .eq 12, 3), (21, .iload_n 3, 1), (22, .iconst 0, 1), (23, .iconst 2, 1), (24, .invokestatic 87, 3), (27, .ifCond .ne 6, 3), (30, .bipush (-7), 2), (32, .ireturn, 1), (33, .iload_n 1, 1), (34, .istore 4, 2), (36, .iconst (-1), 1), (37, .istore 5, 2), (39, .iconst 0, 1), (40, .istore 6, 2), (42, .iload 4, 2), (44, .iconst (-1), 1), (45, .if_icmp .eq 40, 3), (48, .aload_n 0, 1), (49, .iload 4, 2), (51, .invokevirtual 179, 3), (54, .iload_n 2, 1), (55, .if_icmp .lt 30, 3)]
set_option maxRecDepth 100000 in
theorem dX7_ball_q0_ok : ax_decs cX7_ball dX7_ball_q0 = true := by decide +kernel
theorem dX7_ball_0 : decode cX7_ball 0 = .ok (.aload_n 0, 1) := ax_dec dX7_ball_q0_ok 0 (0, .aload_n 0, 1) rfl
theorem dX7_ball_1 : decode cX7_ball 1 = .ok (.iload_n 1, 1) := ax_dec dX7_ball_q0_ok 1 (1, .iload_n 1, 1) rfl
theorem dX7_ball_2 : decode cX7_ball 2 = .ok (.invokevirtual 98, 3) := ax_dec dX7_ball_q0_ok 2 (2, .invokevirtual 98, 3) rfl
theorem dX7_ball_5 : decode cX7_ball 5 = .ok (.ifCond .ne 6, 3) := ax_dec dX7_ball_q0_ok 3 (5, .ifCond .ne 6, 3) rfl
theorem dX7_ball_8 : decode cX7_ball 8 = .ok (.bipush (-5), 2) := ax_dec dX7_ball_q0_ok 4 (8, .bipush (-5), 2) rfl
theorem dX7_ball_10 : decode cX7_ball 10 = .ok (.ireturn, 1) := ax_dec dX7_ball_q0_ok 5 (10, .ireturn, 1) rfl
theorem dX7_ball_11 : decode cX7_ball 11 = .ok (.iload_n 2, 1) := ax_dec dX7_ball_q0_ok 6 (11, .iload_n 2, 1) rfl
theorem dX7_ball_12 : decode cX7_ball 12 = .ok (.iconst 0, 1) := ax_dec dX7_ball_q0_ok 7 (12, .iconst 0, 1) rfl
theorem dX7_ball_13 : decode cX7_ball 13 = .ok (.bipush 9, 2) := ax_dec dX7_ball_q0_ok 8 (13, .bipush 9, 2) rfl
theorem dX7_ball_15 : decode cX7_ball 15 = .ok (.invokestatic 87, 3) := ax_dec dX7_ball_q0_ok 9 (15, .invokestatic 87, 3) rfl
theorem dX7_ball_18 : decode cX7_ball 18 = .ok (.ifCond .eq 12, 3) := ax_dec dX7_ball_q0_ok 10 (18, .ifCond .eq 12, 3) rfl
theorem dX7_ball_21 : decode cX7_ball 21 = .ok (.iload_n 3, 1) := ax_dec dX7_ball_q0_ok 11 (21, .iload_n 3, 1) rfl
theorem dX7_ball_22 : decode cX7_ball 22 = .ok (.iconst 0, 1) := ax_dec dX7_ball_q0_ok 12 (22, .iconst 0, 1) rfl
theorem dX7_ball_23 : decode cX7_ball 23 = .ok (.iconst 2, 1) := ax_dec dX7_ball_q0_ok 13 (23, .iconst 2, 1) rfl
theorem dX7_ball_24 : decode cX7_ball 24 = .ok (.invokestatic 87, 3) := ax_dec dX7_ball_q0_ok 14 (24, .invokestatic 87, 3) rfl
theorem dX7_ball_27 : decode cX7_ball 27 = .ok (.ifCond .ne 6, 3) := ax_dec dX7_ball_q0_ok 15 (27, .ifCond .ne 6, 3) rfl
theorem dX7_ball_30 : decode cX7_ball 30 = .ok (.bipush (-7), 2) := ax_dec dX7_ball_q0_ok 16 (30, .bipush (-7), 2) rfl
theorem dX7_ball_32 : decode cX7_ball 32 = .ok (.ireturn, 1) := ax_dec dX7_ball_q0_ok 17 (32, .ireturn, 1) rfl
theorem dX7_ball_33 : decode cX7_ball 33 = .ok (.iload_n 1, 1) := ax_dec dX7_ball_q0_ok 18 (33, .iload_n 1, 1) rfl
theorem dX7_ball_34 : decode cX7_ball 34 = .ok (.istore 4, 2) := ax_dec dX7_ball_q0_ok 19 (34, .istore 4, 2) rfl
theorem dX7_ball_36 : decode cX7_ball 36 = .ok (.iconst (-1), 1) := ax_dec dX7_ball_q0_ok 20 (36, .iconst (-1), 1) rfl
theorem dX7_ball_37 : decode cX7_ball 37 = .ok (.istore 5, 2) := ax_dec dX7_ball_q0_ok 21 (37, .istore 5, 2) rfl
theorem dX7_ball_39 : decode cX7_ball 39 = .ok (.iconst 0, 1) := ax_dec dX7_ball_q0_ok 22 (39, .iconst 0, 1) rfl
theorem dX7_ball_40 : decode cX7_ball 40 = .ok (.istore 6, 2) := ax_dec dX7_ball_q0_ok 23 (40, .istore 6, 2) rfl
theorem dX7_ball_42 : decode cX7_ball 42 = .ok (.iload 4, 2) := ax_dec dX7_ball_q0_ok 24 (42, .iload 4, 2) rfl
theorem dX7_ball_44 : decode cX7_ball 44 = .ok (.iconst (-1), 1) := ax_dec dX7_ball_q0_ok 25 (44, .iconst (-1), 1) rfl
theorem dX7_ball_45 : decode cX7_ball 45 = .ok (.if_icmp .eq 40, 3) := ax_dec dX7_ball_q0_ok 26 (45, .if_icmp .eq 40, 3) rfl
theorem dX7_ball_48 : decode cX7_ball 48 = .ok (.aload_n 0, 1) := ax_dec dX7_ball_q0_ok 27 (48, .aload_n 0, 1) rfl
theorem dX7_ball_49 : decode cX7_ball 49 = .ok (.iload 4, 2) := ax_dec dX7_ball_q0_ok 28 (49, .iload 4, 2) rfl
theorem dX7_ball_51 : decode cX7_ball 51 = .ok (.invokevirtual 179, 3) := ax_dec dX7_ball_q0_ok 29 (51, .invokevirtual 179, 3) rfl
theorem dX7_ball_54 : decode cX7_ball 54 = .ok (.iload_n 2, 1) := ax_dec dX7_ball_q0_ok 30 (54, .iload_n 2, 1) rfl
theorem dX7_ball_55 : decode cX7_ball 55 = .ok (.if_icmp .lt 30, 3) := ax_dec dX7_ball_q0_ok 31 (55, .if_icmp .lt 30, 3) rfl
def dX7_ball_q1 : List (Nat × (Instr × Nat)) := [(58, .iload 6, 2), (60, .aload_n 0, 1), (61, .getfield 16, 3), (64, .iload 4, 2), (66, .iaload, 1), (67, .iadd, 1), (68, .istore 6, 2), (70, .iload 4, 2), (72, .istore 5, 2), (74, .aload_n 0, 1), (75, .iload 4, 2), (77, .invokevirtual 285, 3), (80, .istore 4, 2), (82, .goto (-40), 3), (85, .iload_n 3, 1), (86, .ifCond .ne 8, 3), (89, .iload 4, 2), (91, .goto 25, 3), (94, .iload_n 3, 1), (95, .iconst 2, 1), (96, .if_icmp .ne 8, 3), (99, .iload 6, 2), (101, .goto 15, 3), (104, .iload 4, 2), (106, .iconst (-1), 1), (107, .if_icmp .ne 8, 3), (110, .iload 5, 2), (112, .goto 4, 3), (115, .iconst (-1), 1), (116, .ireturn, 1)]
set_option maxRecDepth 100000 in
theorem dX7_ball_q1_ok : ax_decs cX7_ball dX7_ball_q1 = true := by decide +kernel
theorem dX7_ball_58 : decode cX7_ball 58 = .ok (.iload 6, 2) := ax_dec dX7_ball_q1_ok 0 (58, .iload 6, 2) rfl
theorem dX7_ball_60 : decode cX7_ball 60 = .ok (.aload_n 0, 1) := ax_dec dX7_ball_q1_ok 1 (60, .aload_n 0, 1) rfl
theorem dX7_ball_61 : decode cX7_ball 61 = .ok (.getfield 16, 3) := ax_dec dX7_ball_q1_ok 2 (61, .getfield 16, 3) rfl
theorem dX7_ball_64 : decode cX7_ball 64 = .ok (.iload 4, 2) := ax_dec dX7_ball_q1_ok 3 (64, .iload 4, 2) rfl
theorem dX7_ball_66 : decode cX7_ball 66 = .ok (.iaload, 1) := ax_dec dX7_ball_q1_ok 4 (66, .iaload, 1) rfl
theorem dX7_ball_67 : decode cX7_ball 67 = .ok (.iadd, 1) := ax_dec dX7_ball_q1_ok 5 (67, .iadd, 1) rfl
theorem dX7_ball_68 : decode cX7_ball 68 = .ok (.istore 6, 2) := ax_dec dX7_ball_q1_ok 6 (68, .istore 6, 2) rfl
theorem dX7_ball_70 : decode cX7_ball 70 = .ok (.iload 4, 2) := ax_dec dX7_ball_q1_ok 7 (70, .iload 4, 2) rfl
theorem dX7_ball_72 : decode cX7_ball 72 = .ok (.istore 5, 2) := ax_dec dX7_ball_q1_ok 8 (72, .istore 5, 2) rfl
theorem dX7_ball_74 : decode cX7_ball 74 = .ok (.aload_n 0, 1) := ax_dec dX7_ball_q1_ok 9 (74, .aload_n 0, 1) rfl
theorem dX7_ball_75 : decode cX7_ball 75 = .ok (.iload 4, 2) := ax_dec dX7_ball_q1_ok 10 (75, .iload 4, 2) rfl
theorem dX7_ball_77 : decode cX7_ball 77 = .ok (.invokevirtual 285, 3) := ax_dec dX7_ball_q1_ok 11 (77, .invokevirtual 285, 3) rfl
theorem dX7_ball_80 : decode cX7_ball 80 = .ok (.istore 4, 2) := ax_dec dX7_ball_q1_ok 12 (80, .istore 4, 2) rfl
theorem dX7_ball_82 : decode cX7_ball 82 = .ok (.goto (-40), 3) := ax_dec dX7_ball_q1_ok 13 (82, .goto (-40), 3) rfl
theorem dX7_ball_85 : decode cX7_ball 85 = .ok (.iload_n 3, 1) := ax_dec dX7_ball_q1_ok 14 (85, .iload_n 3, 1) rfl
theorem dX7_ball_86 : decode cX7_ball 86 = .ok (.ifCond .ne 8, 3) := ax_dec dX7_ball_q1_ok 15 (86, .ifCond .ne 8, 3) rfl
theorem dX7_ball_89 : decode cX7_ball 89 = .ok (.iload 4, 2) := ax_dec dX7_ball_q1_ok 16 (89, .iload 4, 2) rfl
theorem dX7_ball_91 : decode cX7_ball 91 = .ok (.goto 25, 3) := ax_dec dX7_ball_q1_ok 17 (91, .goto 25, 3) rfl
theorem dX7_ball_94 : decode cX7_ball 94 = .ok (.iload_n 3, 1) := ax_dec dX7_ball_q1_ok 18 (94, .iload_n 3, 1) rfl
theorem dX7_ball_95 : decode cX7_ball 95 = .ok (.iconst 2, 1) := ax_dec dX7_ball_q1_ok 19 (95, .iconst 2, 1) rfl
theorem dX7_ball_96 : decode cX7_ball 96 = .ok (.if_icmp .ne 8, 3) := ax_dec dX7_ball_q1_ok 20 (96, .if_icmp .ne 8, 3) rfl
theorem dX7_ball_99 : decode cX7_ball 99 = .ok (.iload 6, 2) := ax_dec dX7_ball_q1_ok 21 (99, .iload 6, 2) rfl
theorem dX7_ball_101 : decode cX7_ball 101 = .ok (.goto 15, 3) := ax_dec dX7_ball_q1_ok 22 (101, .goto 15, 3) rfl
theorem dX7_ball_104 : decode cX7_ball 104 = .ok (.iload 4, 2) := ax_dec dX7_ball_q1_ok 23 (104, .iload 4, 2) rfl
theorem dX7_ball_106 : decode cX7_ball 106 = .ok (.iconst (-1), 1) := ax_dec dX7_ball_q1_ok 24 (106, .iconst (-1), 1) rfl
theorem dX7_ball_107 : decode cX7_ball 107 = .ok (.if_icmp .ne 8, 3) := ax_dec dX7_ball_q1_ok 25 (107, .if_icmp .ne 8, 3) rfl
theorem dX7_ball_110 : decode cX7_ball 110 = .ok (.iload 5, 2) := ax_dec dX7_ball_q1_ok 26 (110, .iload 5, 2) rfl
theorem dX7_ball_112 : decode cX7_ball 112 = .ok (.goto 4, 3) := ax_dec dX7_ball_q1_ok 27 (112, .goto 4, 3) rfl
theorem dX7_ball_115 : decode cX7_ball 115 = .ok (.iconst (-1), 1) := ax_dec dX7_ball_q1_ok 28 (115, .iconst (-1), 1) rfl
theorem dX7_ball_116 : decode cX7_ball 116 = .ok (.ireturn, 1) := ax_dec dX7_ball_q1_ok 29 (116, .ireturn, 1) rfl
def dX7_sheetWrong_q0 : List (Nat × (Instr × Nat)) := [(0, .iload_n 1, 1), (1, .iconst 0, 1), (2, .iconst 3, 1), (3, .invokestatic 87, 3), (6, .ifCond .ne 8, 3), (9, .bipush (-2), 2), (11, .goto 19, 3), (14, .aload_n 0, 1), (15, .getfield 43, 3), (18, .iload_n 1, 1), (19, .iaload, 1), (20, .iconst (-1), 1), (21, .if_icmp .ne 8, 3), (24, .bipush (-11), 2), (26, .goto 4, 3), (29, .iconst 0, 1), (30, .ireturn, 1)]
set_option maxRecDepth 100000 in
theorem dX7_sheetWrong_q0_ok : ax_decs cX7_sheetWrong dX7_sheetWrong_q0 = true := by decide +kernel
theorem dX7_sheetWrong_0 : decode cX7_sheetWrong 0 = .ok (.iload_n 1, 1) := ax_dec dX7_sheetWrong_q0_ok 0 (0, .iload_n 1, 1) rfl
theorem dX7_sheetWrong_1 : decode cX7_sheetWrong 1 = .ok (.iconst 0, 1) := ax_dec dX7_sheetWrong_q0_ok 1 (1, .iconst 0, 1) rfl
theorem dX7_sheetWrong_2 : decode cX7_sheetWrong 2 = .ok (.iconst 3, 1) := ax_dec dX7_sheetWrong_q0_ok 2 (2, .iconst 3, 1) rfl
theorem dX7_sheetWrong_3 : decode cX7_sheetWrong 3 = .ok (.invokestatic 87, 3) := ax_dec dX7_sheetWrong_q0_ok 3 (3, .invokestatic 87, 3) rfl
theorem dX7_sheetWrong_6 : decode cX7_sheetWrong 6 = .ok (.ifCond .ne 8, 3) := ax_dec dX7_sheetWrong_q0_ok 4 (6, .ifCond .ne 8, 3) rfl
theorem dX7_sheetWrong_9 : decode cX7_sheetWrong 9 = .ok (.bipush (-2), 2) := ax_dec dX7_sheetWrong_q0_ok 5 (9, .bipush (-2), 2) rfl
theorem dX7_sheetWrong_11 : decode cX7_sheetWrong 11 = .ok (.goto 19, 3) := ax_dec dX7_sheetWrong_q0_ok 6 (11, .goto 19, 3) rfl
theorem dX7_sheetWrong_14 : decode cX7_sheetWrong 14 = .ok (.aload_n 0, 1) := ax_dec dX7_sheetWrong_q0_ok 7 (14, .aload_n 0, 1) rfl
theorem dX7_sheetWrong_15 : decode cX7_sheetWrong 15 = .ok (.getfield 43, 3) := ax_dec dX7_sheetWrong_q0_ok 8 (15, .getfield 43, 3) rfl
theorem dX7_sheetWrong_18 : decode cX7_sheetWrong 18 = .ok (.iload_n 1, 1) := ax_dec dX7_sheetWrong_q0_ok 9 (18, .iload_n 1, 1) rfl
theorem dX7_sheetWrong_19 : decode cX7_sheetWrong 19 = .ok (.iaload, 1) := ax_dec dX7_sheetWrong_q0_ok 10 (19, .iaload, 1) rfl
theorem dX7_sheetWrong_20 : decode cX7_sheetWrong 20 = .ok (.iconst (-1), 1) := ax_dec dX7_sheetWrong_q0_ok 11 (20, .iconst (-1), 1) rfl
theorem dX7_sheetWrong_21 : decode cX7_sheetWrong 21 = .ok (.if_icmp .ne 8, 3) := ax_dec dX7_sheetWrong_q0_ok 12 (21, .if_icmp .ne 8, 3) rfl
theorem dX7_sheetWrong_24 : decode cX7_sheetWrong 24 = .ok (.bipush (-11), 2) := ax_dec dX7_sheetWrong_q0_ok 13 (24, .bipush (-11), 2) rfl
theorem dX7_sheetWrong_26 : decode cX7_sheetWrong 26 = .ok (.goto 4, 3) := ax_dec dX7_sheetWrong_q0_ok 14 (26, .goto 4, 3) rfl
theorem dX7_sheetWrong_29 : decode cX7_sheetWrong 29 = .ok (.iconst 0, 1) := ax_dec dX7_sheetWrong_q0_ok 15 (29, .iconst 0, 1) rfl
theorem dX7_sheetWrong_30 : decode cX7_sheetWrong 30 = .ok (.ireturn, 1) := ax_dec dX7_sheetWrong_q0_ok 16 (30, .ireturn, 1) rfl
def dX7_unlike_q0 : List (Nat × (Instr × Nat)) := [(0, .iconst 1, 1), (1, .istore_n 3, 1), (2, .iload_n 3, 1), (3, .aload_n 0, 1), (4, .getfield 46, 3), (7, .iload_n 1, 1), (8, .iaload, 1), (9, .if_icmp .gt 33, 3), (12, .aload_n 0, 1), (13, .getfield 49, 3), (16, .bipush 40, 2), (18, .iload_n 1, 1), (19, .imul, 1), (20, .iload_n 3, 1), (21, .iadd, 1), (22, .iconst 1, 1), (23, .isub, 1), (24, .iaload, 1), (25, .aload_n 0, 1), (26, .iload_n 2, 1), (27, .iload_n 3, 1), (28, .invokevirtual 214, 3), (31, .if_icmp .eq 5, 3), (34, .iload_n 3, 1), (35, .ireturn, 1), (36, .iinc 3 1, 3), (39, .goto (-37), 3), (42, .iconst (-1), 1), (43, .ireturn, 1)]
set_option maxRecDepth 100000 in
theorem dX7_unlike_q0_ok : ax_decs cX7_unlike dX7_unlike_q0 = true := by decide +kernel
theorem dX7_unlike_0 : decode cX7_unlike 0 = .ok (.iconst 1, 1) := ax_dec dX7_unlike_q0_ok 0 (0, .iconst 1, 1) rfl
theorem dX7_unlike_1 : decode cX7_unlike 1 = .ok (.istore_n 3, 1) := ax_dec dX7_unlike_q0_ok 1 (1, .istore_n 3, 1) rfl
theorem dX7_unlike_2 : decode cX7_unlike 2 = .ok (.iload_n 3, 1) := ax_dec dX7_unlike_q0_ok 2 (2, .iload_n 3, 1) rfl
theorem dX7_unlike_3 : decode cX7_unlike 3 = .ok (.aload_n 0, 1) := ax_dec dX7_unlike_q0_ok 3 (3, .aload_n 0, 1) rfl
theorem dX7_unlike_4 : decode cX7_unlike 4 = .ok (.getfield 46, 3) := ax_dec dX7_unlike_q0_ok 4 (4, .getfield 46, 3) rfl
theorem dX7_unlike_7 : decode cX7_unlike 7 = .ok (.iload_n 1, 1) := ax_dec dX7_unlike_q0_ok 5 (7, .iload_n 1, 1) rfl
theorem dX7_unlike_8 : decode cX7_unlike 8 = .ok (.iaload, 1) := ax_dec dX7_unlike_q0_ok 6 (8, .iaload, 1) rfl
theorem dX7_unlike_9 : decode cX7_unlike 9 = .ok (.if_icmp .gt 33, 3) := ax_dec dX7_unlike_q0_ok 7 (9, .if_icmp .gt 33, 3) rfl
theorem dX7_unlike_12 : decode cX7_unlike 12 = .ok (.aload_n 0, 1) := ax_dec dX7_unlike_q0_ok 8 (12, .aload_n 0, 1) rfl
theorem dX7_unlike_13 : decode cX7_unlike 13 = .ok (.getfield 49, 3) := ax_dec dX7_unlike_q0_ok 9 (13, .getfield 49, 3) rfl
theorem dX7_unlike_16 : decode cX7_unlike 16 = .ok (.bipush 40, 2) := ax_dec dX7_unlike_q0_ok 10 (16, .bipush 40, 2) rfl
theorem dX7_unlike_18 : decode cX7_unlike 18 = .ok (.iload_n 1, 1) := ax_dec dX7_unlike_q0_ok 11 (18, .iload_n 1, 1) rfl
theorem dX7_unlike_19 : decode cX7_unlike 19 = .ok (.imul, 1) := ax_dec dX7_unlike_q0_ok 12 (19, .imul, 1) rfl
theorem dX7_unlike_20 : decode cX7_unlike 20 = .ok (.iload_n 3, 1) := ax_dec dX7_unlike_q0_ok 13 (20, .iload_n 3, 1) rfl
theorem dX7_unlike_21 : decode cX7_unlike 21 = .ok (.iadd, 1) := ax_dec dX7_unlike_q0_ok 14 (21, .iadd, 1) rfl
theorem dX7_unlike_22 : decode cX7_unlike 22 = .ok (.iconst 1, 1) := ax_dec dX7_unlike_q0_ok 15 (22, .iconst 1, 1) rfl
theorem dX7_unlike_23 : decode cX7_unlike 23 = .ok (.isub, 1) := ax_dec dX7_unlike_q0_ok 16 (23, .isub, 1) rfl
theorem dX7_unlike_24 : decode cX7_unlike 24 = .ok (.iaload, 1) := ax_dec dX7_unlike_q0_ok 17 (24, .iaload, 1) rfl
theorem dX7_unlike_25 : decode cX7_unlike 25 = .ok (.aload_n 0, 1) := ax_dec dX7_unlike_q0_ok 18 (25, .aload_n 0, 1) rfl
theorem dX7_unlike_26 : decode cX7_unlike 26 = .ok (.iload_n 2, 1) := ax_dec dX7_unlike_q0_ok 19 (26, .iload_n 2, 1) rfl
theorem dX7_unlike_27 : decode cX7_unlike 27 = .ok (.iload_n 3, 1) := ax_dec dX7_unlike_q0_ok 20 (27, .iload_n 3, 1) rfl
theorem dX7_unlike_28 : decode cX7_unlike 28 = .ok (.invokevirtual 214, 3) := ax_dec dX7_unlike_q0_ok 21 (28, .invokevirtual 214, 3) rfl
theorem dX7_unlike_31 : decode cX7_unlike 31 = .ok (.if_icmp .eq 5, 3) := ax_dec dX7_unlike_q0_ok 22 (31, .if_icmp .eq 5, 3) rfl
theorem dX7_unlike_34 : decode cX7_unlike 34 = .ok (.iload_n 3, 1) := ax_dec dX7_unlike_q0_ok 23 (34, .iload_n 3, 1) rfl
theorem dX7_unlike_35 : decode cX7_unlike 35 = .ok (.ireturn, 1) := ax_dec dX7_unlike_q0_ok 24 (35, .ireturn, 1) rfl
theorem dX7_unlike_36 : decode cX7_unlike 36 = .ok (.iinc 3 1, 3) := ax_dec dX7_unlike_q0_ok 25 (36, .iinc 3 1, 3) rfl
theorem dX7_unlike_39 : decode cX7_unlike 39 = .ok (.goto (-37), 3) := ax_dec dX7_unlike_q0_ok 26 (39, .goto (-37), 3) rfl
theorem dX7_unlike_42 : decode cX7_unlike 42 = .ok (.iconst (-1), 1) := ax_dec dX7_unlike_q0_ok 27 (42, .iconst (-1), 1) rfl
theorem dX7_unlike_43 : decode cX7_unlike 43 = .ok (.ireturn, 1) := ax_dec dX7_unlike_q0_ok 28 (43, .ireturn, 1) rfl
def dX7_toldWrong_q0 : List (Nat × (Instr × Nat)) := [(0, .aload_n 0, 1), (1, .iload_n 1, 1), (2, .invokevirtual 288, 3), (5, .istore_n 3, 1), (6, .iload_n 3, 1), (7, .ifCond .eq 7, 3), (10, .iload_n 3, 1), (11, .goto 17, 3), (14, .aload_n 0, 1), (15, .iload_n 2, 1), (16, .invokevirtual 95, 3), (19, .ifCond .eq 7, 3), (22, .iconst 0, 1), (23, .goto 5, 3), (26, .bipush (-5), 2), (28, .ireturn, 1)]
set_option maxRecDepth 100000 in
theorem dX7_toldWrong_q0_ok : ax_decs cX7_toldWrong dX7_toldWrong_q0 = true := by decide +kernel
theorem dX7_toldWrong_0 : decode cX7_toldWrong 0 = .ok (.aload_n 0, 1) := ax_dec dX7_toldWrong_q0_ok 0 (0, .aload_n 0, 1) rfl
theorem dX7_toldWrong_1 : decode cX7_toldWrong 1 = .ok (.iload_n 1, 1) := ax_dec dX7_toldWrong_q0_ok 1 (1, .iload_n 1, 1) rfl
theorem dX7_toldWrong_2 : decode cX7_toldWrong 2 = .ok (.invokevirtual 288, 3) := ax_dec dX7_toldWrong_q0_ok 2 (2, .invokevirtual 288, 3) rfl
theorem dX7_toldWrong_5 : decode cX7_toldWrong 5 = .ok (.istore_n 3, 1) := ax_dec dX7_toldWrong_q0_ok 3 (5, .istore_n 3, 1) rfl
theorem dX7_toldWrong_6 : decode cX7_toldWrong 6 = .ok (.iload_n 3, 1) := ax_dec dX7_toldWrong_q0_ok 4 (6, .iload_n 3, 1) rfl
theorem dX7_toldWrong_7 : decode cX7_toldWrong 7 = .ok (.ifCond .eq 7, 3) := ax_dec dX7_toldWrong_q0_ok 5 (7, .ifCond .eq 7, 3) rfl
theorem dX7_toldWrong_10 : decode cX7_toldWrong 10 = .ok (.iload_n 3, 1) := ax_dec dX7_toldWrong_q0_ok 6 (10, .iload_n 3, 1) rfl
theorem dX7_toldWrong_11 : decode cX7_toldWrong 11 = .ok (.goto 17, 3) := ax_dec dX7_toldWrong_q0_ok 7 (11, .goto 17, 3) rfl
theorem dX7_toldWrong_14 : decode cX7_toldWrong 14 = .ok (.aload_n 0, 1) := ax_dec dX7_toldWrong_q0_ok 8 (14, .aload_n 0, 1) rfl
theorem dX7_toldWrong_15 : decode cX7_toldWrong 15 = .ok (.iload_n 2, 1) := ax_dec dX7_toldWrong_q0_ok 9 (15, .iload_n 2, 1) rfl
theorem dX7_toldWrong_16 : decode cX7_toldWrong 16 = .ok (.invokevirtual 95, 3) := ax_dec dX7_toldWrong_q0_ok 10 (16, .invokevirtual 95, 3) rfl
theorem dX7_toldWrong_19 : decode cX7_toldWrong 19 = .ok (.ifCond .eq 7, 3) := ax_dec dX7_toldWrong_q0_ok 11 (19, .ifCond .eq 7, 3) rfl
theorem dX7_toldWrong_22 : decode cX7_toldWrong 22 = .ok (.iconst 0, 1) := ax_dec dX7_toldWrong_q0_ok 12 (22, .iconst 0, 1) rfl
theorem dX7_toldWrong_23 : decode cX7_toldWrong 23 = .ok (.goto 5, 3) := ax_dec dX7_toldWrong_q0_ok 13 (23, .goto 5, 3) rfl
theorem dX7_toldWrong_26 : decode cX7_toldWrong 26 = .ok (.bipush (-5), 2) := ax_dec dX7_toldWrong_q0_ok 14 (26, .bipush (-5), 2) rfl
theorem dX7_toldWrong_28 : decode cX7_toldWrong 28 = .ok (.ireturn, 1) := ax_dec dX7_toldWrong_q0_ok 15 (28, .ireturn, 1) rfl
def dX7_judge_q0 : List (Nat × (Instr × Nat)) := [(0, .aload_n 0, 1), (1, .iload_n 1, 1), (2, .iload_n 2, 1), (3, .invokevirtual 291, 3), (6, .istore_n 3, 1), (7, .iload_n 3, 1), (8, .ifCond .ne 12, 3), (11, .aload_n 0, 1), (12, .iload_n 1, 1), (13, .iload_n 2, 1), (14, .invokevirtual 294, 3), (17, .goto 4, 3), (20, .iload_n 3, 1), (21, .ireturn, 1)]
set_option maxRecDepth 100000 in
theorem dX7_judge_q0_ok : ax_decs cX7_judge dX7_judge_q0 = true := by decide +kernel
theorem dX7_judge_0 : decode cX7_judge 0 = .ok (.aload_n 0, 1) := ax_dec dX7_judge_q0_ok 0 (0, .aload_n 0, 1) rfl
theorem dX7_judge_1 : decode cX7_judge 1 = .ok (.iload_n 1, 1) := ax_dec dX7_judge_q0_ok 1 (1, .iload_n 1, 1) rfl
theorem dX7_judge_2 : decode cX7_judge 2 = .ok (.iload_n 2, 1) := ax_dec dX7_judge_q0_ok 2 (2, .iload_n 2, 1) rfl
theorem dX7_judge_3 : decode cX7_judge 3 = .ok (.invokevirtual 291, 3) := ax_dec dX7_judge_q0_ok 3 (3, .invokevirtual 291, 3) rfl
theorem dX7_judge_6 : decode cX7_judge 6 = .ok (.istore_n 3, 1) := ax_dec dX7_judge_q0_ok 4 (6, .istore_n 3, 1) rfl
theorem dX7_judge_7 : decode cX7_judge 7 = .ok (.iload_n 3, 1) := ax_dec dX7_judge_q0_ok 5 (7, .iload_n 3, 1) rfl
theorem dX7_judge_8 : decode cX7_judge 8 = .ok (.ifCond .ne 12, 3) := ax_dec dX7_judge_q0_ok 6 (8, .ifCond .ne 12, 3) rfl
theorem dX7_judge_11 : decode cX7_judge 11 = .ok (.aload_n 0, 1) := ax_dec dX7_judge_q0_ok 7 (11, .aload_n 0, 1) rfl
theorem dX7_judge_12 : decode cX7_judge 12 = .ok (.iload_n 1, 1) := ax_dec dX7_judge_q0_ok 8 (12, .iload_n 1, 1) rfl
theorem dX7_judge_13 : decode cX7_judge 13 = .ok (.iload_n 2, 1) := ax_dec dX7_judge_q0_ok 9 (13, .iload_n 2, 1) rfl
theorem dX7_judge_14 : decode cX7_judge 14 = .ok (.invokevirtual 294, 3) := ax_dec dX7_judge_q0_ok 10 (14, .invokevirtual 294, 3) rfl
theorem dX7_judge_17 : decode cX7_judge 17 = .ok (.goto 4, 3) := ax_dec dX7_judge_q0_ok 11 (17, .goto 4, 3) rfl
theorem dX7_judge_20 : decode cX7_judge 20 = .ok (.iload_n 3, 1) := ax_dec dX7_judge_q0_ok 12 (20, .iload_n 3, 1) rfl
theorem dX7_judge_21 : decode cX7_judge 21 = .ok (.ireturn, 1) := ax_dec dX7_judge_q0_ok 13 (21, .ireturn, 1) rfl
def dX7_whose_q0 : List (Nat × (Instr × Nat)) := [(0, .aload_n 0, 1), (1, .iload_n 1, 1), (2, .invokevirtual 288, 3), (5, .istore_n 2, 1), (6, .iload_n 2, 1), (7, .ifCond .eq 5, 3), (10, .iload_n 2, 1), (11, .ireturn, 1), (12, .iconst 0, 1), (13, .istore_n 3, 1), (14, .iconst 0, 1), (15, .istore 4, 2), (17, .iload 4, 2), (19, .aload_n 0, 1), (20, .getfield 84, 3), (23, .if_icmp .ge 40, 3), (26, .iload_n 3, 1), (27, .aload_n 0, 1), (28, .iload 4, 2), (30, .invokevirtual 95, 3), (33, .ifCond .eq 21, 3), (36, .aload_n 0, 1), (37, .iload_n 1, 1), (38, .iload 4, 2), (40, .invokevirtual 294, 3), (43, .iconst (-1), 1), (44, .if_icmp .ne 10, 3), (47, .iconst 1, 1), (48, .iload 4, 2), (50, .ishl, 1), (51, .goto 4, 3), (54, .iconst 0, 1)]
set_option maxRecDepth 100000 in
theorem dX7_whose_q0_ok : ax_decs cX7_whose dX7_whose_q0 = true := by decide +kernel
theorem dX7_whose_0 : decode cX7_whose 0 = .ok (.aload_n 0, 1) := ax_dec dX7_whose_q0_ok 0 (0, .aload_n 0, 1) rfl
theorem dX7_whose_1 : decode cX7_whose 1 = .ok (.iload_n 1, 1) := ax_dec dX7_whose_q0_ok 1 (1, .iload_n 1, 1) rfl
theorem dX7_whose_2 : decode cX7_whose 2 = .ok (.invokevirtual 288, 3) := ax_dec dX7_whose_q0_ok 2 (2, .invokevirtual 288, 3) rfl
theorem dX7_whose_5 : decode cX7_whose 5 = .ok (.istore_n 2, 1) := ax_dec dX7_whose_q0_ok 3 (5, .istore_n 2, 1) rfl
theorem dX7_whose_6 : decode cX7_whose 6 = .ok (.iload_n 2, 1) := ax_dec dX7_whose_q0_ok 4 (6, .iload_n 2, 1) rfl
theorem dX7_whose_7 : decode cX7_whose 7 = .ok (.ifCond .eq 5, 3) := ax_dec dX7_whose_q0_ok 5 (7, .ifCond .eq 5, 3) rfl
theorem dX7_whose_10 : decode cX7_whose 10 = .ok (.iload_n 2, 1) := ax_dec dX7_whose_q0_ok 6 (10, .iload_n 2, 1) rfl
theorem dX7_whose_11 : decode cX7_whose 11 = .ok (.ireturn, 1) := ax_dec dX7_whose_q0_ok 7 (11, .ireturn, 1) rfl
theorem dX7_whose_12 : decode cX7_whose 12 = .ok (.iconst 0, 1) := ax_dec dX7_whose_q0_ok 8 (12, .iconst 0, 1) rfl
theorem dX7_whose_13 : decode cX7_whose 13 = .ok (.istore_n 3, 1) := ax_dec dX7_whose_q0_ok 9 (13, .istore_n 3, 1) rfl
theorem dX7_whose_14 : decode cX7_whose 14 = .ok (.iconst 0, 1) := ax_dec dX7_whose_q0_ok 10 (14, .iconst 0, 1) rfl
theorem dX7_whose_15 : decode cX7_whose 15 = .ok (.istore 4, 2) := ax_dec dX7_whose_q0_ok 11 (15, .istore 4, 2) rfl
theorem dX7_whose_17 : decode cX7_whose 17 = .ok (.iload 4, 2) := ax_dec dX7_whose_q0_ok 12 (17, .iload 4, 2) rfl
theorem dX7_whose_19 : decode cX7_whose 19 = .ok (.aload_n 0, 1) := ax_dec dX7_whose_q0_ok 13 (19, .aload_n 0, 1) rfl
theorem dX7_whose_20 : decode cX7_whose 20 = .ok (.getfield 84, 3) := ax_dec dX7_whose_q0_ok 14 (20, .getfield 84, 3) rfl
theorem dX7_whose_23 : decode cX7_whose 23 = .ok (.if_icmp .ge 40, 3) := ax_dec dX7_whose_q0_ok 15 (23, .if_icmp .ge 40, 3) rfl
theorem dX7_whose_26 : decode cX7_whose 26 = .ok (.iload_n 3, 1) := ax_dec dX7_whose_q0_ok 16 (26, .iload_n 3, 1) rfl
theorem dX7_whose_27 : decode cX7_whose 27 = .ok (.aload_n 0, 1) := ax_dec dX7_whose_q0_ok 17 (27, .aload_n 0, 1) rfl
theorem dX7_whose_28 : decode cX7_whose 28 = .ok (.iload 4, 2) := ax_dec dX7_whose_q0_ok 18 (28, .iload 4, 2) rfl
theorem dX7_whose_30 : decode cX7_whose 30 = .ok (.invokevirtual 95, 3) := ax_dec dX7_whose_q0_ok 19 (30, .invokevirtual 95, 3) rfl
theorem dX7_whose_33 : decode cX7_whose 33 = .ok (.ifCond .eq 21, 3) := ax_dec dX7_whose_q0_ok 20 (33, .ifCond .eq 21, 3) rfl
theorem dX7_whose_36 : decode cX7_whose 36 = .ok (.aload_n 0, 1) := ax_dec dX7_whose_q0_ok 21 (36, .aload_n 0, 1) rfl
theorem dX7_whose_37 : decode cX7_whose 37 = .ok (.iload_n 1, 1) := ax_dec dX7_whose_q0_ok 22 (37, .iload_n 1, 1) rfl
theorem dX7_whose_38 : decode cX7_whose 38 = .ok (.iload 4, 2) := ax_dec dX7_whose_q0_ok 23 (38, .iload 4, 2) rfl
theorem dX7_whose_40 : decode cX7_whose 40 = .ok (.invokevirtual 294, 3) := ax_dec dX7_whose_q0_ok 24 (40, .invokevirtual 294, 3) rfl
theorem dX7_whose_43 : decode cX7_whose 43 = .ok (.iconst (-1), 1) := ax_dec dX7_whose_q0_ok 25 (43, .iconst (-1), 1) rfl
theorem dX7_whose_44 : decode cX7_whose 44 = .ok (.if_icmp .ne 10, 3) := ax_dec dX7_whose_q0_ok 26 (44, .if_icmp .ne 10, 3) rfl
theorem dX7_whose_47 : decode cX7_whose 47 = .ok (.iconst 1, 1) := ax_dec dX7_whose_q0_ok 27 (47, .iconst 1, 1) rfl
theorem dX7_whose_48 : decode cX7_whose 48 = .ok (.iload 4, 2) := ax_dec dX7_whose_q0_ok 28 (48, .iload 4, 2) rfl
theorem dX7_whose_50 : decode cX7_whose 50 = .ok (.ishl, 1) := ax_dec dX7_whose_q0_ok 29 (50, .ishl, 1) rfl
theorem dX7_whose_51 : decode cX7_whose 51 = .ok (.goto 4, 3) := ax_dec dX7_whose_q0_ok 30 (51, .goto 4, 3) rfl
theorem dX7_whose_54 : decode cX7_whose 54 = .ok (.iconst 0, 1) := ax_dec dX7_whose_q0_ok 31 (54, .iconst 0, 1) rfl
def dX7_whose_q1 : List (Nat × (Instr × Nat)) := [(55, .ior, 1), (56, .istore_n 3, 1), (57, .iinc 4 1, 3), (60, .goto (-43), 3), (63, .iload_n 3, 1), (64, .ireturn, 1)]
set_option maxRecDepth 100000 in
theorem dX7_whose_q1_ok : ax_decs cX7_whose dX7_whose_q1 = true := by decide +kernel
theorem dX7_whose_55 : decode cX7_whose 55 = .ok (.ior, 1) := ax_dec dX7_whose_q1_ok 0 (55, .ior, 1) rfl
theorem dX7_whose_56 : decode cX7_whose 56 = .ok (.istore_n 3, 1) := ax_dec dX7_whose_q1_ok 1 (56, .istore_n 3, 1) rfl
theorem dX7_whose_57 : decode cX7_whose 57 = .ok (.iinc 4 1, 3) := ax_dec dX7_whose_q1_ok 2 (57, .iinc 4 1, 3) rfl
theorem dX7_whose_60 : decode cX7_whose 60 = .ok (.goto (-43), 3) := ax_dec dX7_whose_q1_ok 3 (60, .goto (-43), 3) rfl
theorem dX7_whose_63 : decode cX7_whose 63 = .ok (.iload_n 3, 1) := ax_dec dX7_whose_q1_ok 4 (63, .iload_n 3, 1) rfl
theorem dX7_whose_64 : decode cX7_whose 64 = .ok (.ireturn, 1) := ax_dec dX7_whose_q1_ok 5 (64, .ireturn, 1) rfl
def dX7_laws_q0 : List (Nat × (Instr × Nat)) := [(0, .aload_n 0, 1), (1, .iload_n 1, 1), (2, .iload_n 2, 1), (3, .invokevirtual 291, 3), (6, .istore_n 3, 1), (7, .iload_n 3, 1), (8, .ifCond .eq 5, 3), (11, .iload_n 3, 1), (12, .ireturn, 1), (13, .aload_n 0, 1), (14, .getfield 111, 3), (17, .istore 4, 2), (19, .iconst 0, 1), (20, .istore 5, 2), (22, .iconst 0, 1), (23, .istore 6, 2), (25, .iload 6, 2), (27, .aload_n 0, 1), (28, .getfield 108, 3), (31, .if_icmp .ge 38, 3), (34, .aload_n 0, 1), (35, .iload 6, 2), (37, .putfield 111, 3), (40, .iload 5, 2), (42, .aload_n 0, 1), (43, .iload_n 1, 1), (44, .iload_n 2, 1), (45, .invokevirtual 294, 3), (48, .iconst (-1), 1), (49, .if_icmp .ne 10, 3), (52, .iconst 1, 1), (53, .iload 6, 2)]
set_option maxRecDepth 100000 in
theorem dX7_laws_q0_ok : ax_decs cX7_laws dX7_laws_q0 = true := by decide +kernel
theorem dX7_laws_0 : decode cX7_laws 0 = .ok (.aload_n 0, 1) := ax_dec dX7_laws_q0_ok 0 (0, .aload_n 0, 1) rfl
theorem dX7_laws_1 : decode cX7_laws 1 = .ok (.iload_n 1, 1) := ax_dec dX7_laws_q0_ok 1 (1, .iload_n 1, 1) rfl
theorem dX7_laws_2 : decode cX7_laws 2 = .ok (.iload_n 2, 1) := ax_dec dX7_laws_q0_ok 2 (2, .iload_n 2, 1) rfl
theorem dX7_laws_3 : decode cX7_laws 3 = .ok (.invokevirtual 291, 3) := ax_dec dX7_laws_q0_ok 3 (3, .invokevirtual 291, 3) rfl
theorem dX7_laws_6 : decode cX7_laws 6 = .ok (.istore_n 3, 1) := ax_dec dX7_laws_q0_ok 4 (6, .istore_n 3, 1) rfl
theorem dX7_laws_7 : decode cX7_laws 7 = .ok (.iload_n 3, 1) := ax_dec dX7_laws_q0_ok 5 (7, .iload_n 3, 1) rfl
theorem dX7_laws_8 : decode cX7_laws 8 = .ok (.ifCond .eq 5, 3) := ax_dec dX7_laws_q0_ok 6 (8, .ifCond .eq 5, 3) rfl
theorem dX7_laws_11 : decode cX7_laws 11 = .ok (.iload_n 3, 1) := ax_dec dX7_laws_q0_ok 7 (11, .iload_n 3, 1) rfl
theorem dX7_laws_12 : decode cX7_laws 12 = .ok (.ireturn, 1) := ax_dec dX7_laws_q0_ok 8 (12, .ireturn, 1) rfl
theorem dX7_laws_13 : decode cX7_laws 13 = .ok (.aload_n 0, 1) := ax_dec dX7_laws_q0_ok 9 (13, .aload_n 0, 1) rfl
theorem dX7_laws_14 : decode cX7_laws 14 = .ok (.getfield 111, 3) := ax_dec dX7_laws_q0_ok 10 (14, .getfield 111, 3) rfl
theorem dX7_laws_17 : decode cX7_laws 17 = .ok (.istore 4, 2) := ax_dec dX7_laws_q0_ok 11 (17, .istore 4, 2) rfl
theorem dX7_laws_19 : decode cX7_laws 19 = .ok (.iconst 0, 1) := ax_dec dX7_laws_q0_ok 12 (19, .iconst 0, 1) rfl
theorem dX7_laws_20 : decode cX7_laws 20 = .ok (.istore 5, 2) := ax_dec dX7_laws_q0_ok 13 (20, .istore 5, 2) rfl
theorem dX7_laws_22 : decode cX7_laws 22 = .ok (.iconst 0, 1) := ax_dec dX7_laws_q0_ok 14 (22, .iconst 0, 1) rfl
theorem dX7_laws_23 : decode cX7_laws 23 = .ok (.istore 6, 2) := ax_dec dX7_laws_q0_ok 15 (23, .istore 6, 2) rfl
theorem dX7_laws_25 : decode cX7_laws 25 = .ok (.iload 6, 2) := ax_dec dX7_laws_q0_ok 16 (25, .iload 6, 2) rfl
theorem dX7_laws_27 : decode cX7_laws 27 = .ok (.aload_n 0, 1) := ax_dec dX7_laws_q0_ok 17 (27, .aload_n 0, 1) rfl
theorem dX7_laws_28 : decode cX7_laws 28 = .ok (.getfield 108, 3) := ax_dec dX7_laws_q0_ok 18 (28, .getfield 108, 3) rfl
theorem dX7_laws_31 : decode cX7_laws 31 = .ok (.if_icmp .ge 38, 3) := ax_dec dX7_laws_q0_ok 19 (31, .if_icmp .ge 38, 3) rfl
theorem dX7_laws_34 : decode cX7_laws 34 = .ok (.aload_n 0, 1) := ax_dec dX7_laws_q0_ok 20 (34, .aload_n 0, 1) rfl
theorem dX7_laws_35 : decode cX7_laws 35 = .ok (.iload 6, 2) := ax_dec dX7_laws_q0_ok 21 (35, .iload 6, 2) rfl
theorem dX7_laws_37 : decode cX7_laws 37 = .ok (.putfield 111, 3) := ax_dec dX7_laws_q0_ok 22 (37, .putfield 111, 3) rfl
theorem dX7_laws_40 : decode cX7_laws 40 = .ok (.iload 5, 2) := ax_dec dX7_laws_q0_ok 23 (40, .iload 5, 2) rfl
theorem dX7_laws_42 : decode cX7_laws 42 = .ok (.aload_n 0, 1) := ax_dec dX7_laws_q0_ok 24 (42, .aload_n 0, 1) rfl
theorem dX7_laws_43 : decode cX7_laws 43 = .ok (.iload_n 1, 1) := ax_dec dX7_laws_q0_ok 25 (43, .iload_n 1, 1) rfl
theorem dX7_laws_44 : decode cX7_laws 44 = .ok (.iload_n 2, 1) := ax_dec dX7_laws_q0_ok 26 (44, .iload_n 2, 1) rfl
theorem dX7_laws_45 : decode cX7_laws 45 = .ok (.invokevirtual 294, 3) := ax_dec dX7_laws_q0_ok 27 (45, .invokevirtual 294, 3) rfl
theorem dX7_laws_48 : decode cX7_laws 48 = .ok (.iconst (-1), 1) := ax_dec dX7_laws_q0_ok 28 (48, .iconst (-1), 1) rfl
theorem dX7_laws_49 : decode cX7_laws 49 = .ok (.if_icmp .ne 10, 3) := ax_dec dX7_laws_q0_ok 29 (49, .if_icmp .ne 10, 3) rfl
theorem dX7_laws_52 : decode cX7_laws 52 = .ok (.iconst 1, 1) := ax_dec dX7_laws_q0_ok 30 (52, .iconst 1, 1) rfl
theorem dX7_laws_53 : decode cX7_laws 53 = .ok (.iload 6, 2) := ax_dec dX7_laws_q0_ok 31 (53, .iload 6, 2) rfl
def dX7_laws_q1 : List (Nat × (Instr × Nat)) := [(55, .ishl, 1), (56, .goto 4, 3), (59, .iconst 0, 1), (60, .ior, 1), (61, .istore 5, 2), (63, .iinc 6 1, 3), (66, .goto (-41), 3), (69, .aload_n 0, 1), (70, .iload 4, 2), (72, .putfield 111, 3), (75, .iload 5, 2), (77, .ireturn, 1)]
set_option maxRecDepth 100000 in
theorem dX7_laws_q1_ok : ax_decs cX7_laws dX7_laws_q1 = true := by decide +kernel
theorem dX7_laws_55 : decode cX7_laws 55 = .ok (.ishl, 1) := ax_dec dX7_laws_q1_ok 0 (55, .ishl, 1) rfl
theorem dX7_laws_56 : decode cX7_laws 56 = .ok (.goto 4, 3) := ax_dec dX7_laws_q1_ok 1 (56, .goto 4, 3) rfl
theorem dX7_laws_59 : decode cX7_laws 59 = .ok (.iconst 0, 1) := ax_dec dX7_laws_q1_ok 2 (59, .iconst 0, 1) rfl
theorem dX7_laws_60 : decode cX7_laws 60 = .ok (.ior, 1) := ax_dec dX7_laws_q1_ok 3 (60, .ior, 1) rfl
theorem dX7_laws_61 : decode cX7_laws 61 = .ok (.istore 5, 2) := ax_dec dX7_laws_q1_ok 4 (61, .istore 5, 2) rfl
theorem dX7_laws_63 : decode cX7_laws 63 = .ok (.iinc 6 1, 3) := ax_dec dX7_laws_q1_ok 5 (63, .iinc 6 1, 3) rfl
theorem dX7_laws_66 : decode cX7_laws 66 = .ok (.goto (-41), 3) := ax_dec dX7_laws_q1_ok 6 (66, .goto (-41), 3) rfl
theorem dX7_laws_69 : decode cX7_laws 69 = .ok (.aload_n 0, 1) := ax_dec dX7_laws_q1_ok 7 (69, .aload_n 0, 1) rfl
theorem dX7_laws_70 : decode cX7_laws 70 = .ok (.iload 4, 2) := ax_dec dX7_laws_q1_ok 8 (70, .iload 4, 2) rfl
theorem dX7_laws_72 : decode cX7_laws 72 = .ok (.putfield 111, 3) := ax_dec dX7_laws_q1_ok 9 (72, .putfield 111, 3) rfl
theorem dX7_laws_75 : decode cX7_laws 75 = .ok (.iload 5, 2) := ax_dec dX7_laws_q1_ok 10 (75, .iload 5, 2) rfl
theorem dX7_laws_77 : decode cX7_laws 77 = .ok (.ireturn, 1) := ax_dec dX7_laws_q1_ok 11 (77, .ireturn, 1) rfl
def dX7_fitsBlocked_q0 : List (Nat × (Instr × Nat)) := [(0, .aload_n 0, 1), (1, .getfield 13, 3), (4, .iload_n 3, 1), (5, .iaload, 1), (6, .istore 5, 2), (8, .aload_n 0, 1), (9, .getfield 25, 3), (12, .iload_n 3, 1), (13, .iaload, 1), (14, .istore 6, 2), (16, .aload_n 0, 1), (17, .getfield 13, 3), (20, .iload_n 3, 1), (21, .iconst 2, 1), (22, .iastore, 1), (23, .aload_n 0, 1), (24, .getfield 25, 3), (27, .iload_n 3, 1), (28, .iload 4, 2), (30, .iastore, 1), (31, .aload_n 0, 1), (32, .iload_n 1, 1), (33, .iload_n 2, 1), (34, .invokevirtual 294, 3), (37, .iconst (-1), 1), (38, .if_icmp .ne 7, 3), (41, .iconst 1, 1), (42, .goto 4, 3), (45, .iconst 0, 1), (46, .istore 7, 2), (48, .aload_n 0, 1), (49, .getfield 13, 3)]
set_option maxRecDepth 100000 in
theorem dX7_fitsBlocked_q0_ok : ax_decs cX7_fitsBlocked dX7_fitsBlocked_q0 = true := by decide +kernel
theorem dX7_fitsBlocked_0 : decode cX7_fitsBlocked 0 = .ok (.aload_n 0, 1) := ax_dec dX7_fitsBlocked_q0_ok 0 (0, .aload_n 0, 1) rfl
theorem dX7_fitsBlocked_1 : decode cX7_fitsBlocked 1 = .ok (.getfield 13, 3) := ax_dec dX7_fitsBlocked_q0_ok 1 (1, .getfield 13, 3) rfl
theorem dX7_fitsBlocked_4 : decode cX7_fitsBlocked 4 = .ok (.iload_n 3, 1) := ax_dec dX7_fitsBlocked_q0_ok 2 (4, .iload_n 3, 1) rfl
theorem dX7_fitsBlocked_5 : decode cX7_fitsBlocked 5 = .ok (.iaload, 1) := ax_dec dX7_fitsBlocked_q0_ok 3 (5, .iaload, 1) rfl
theorem dX7_fitsBlocked_6 : decode cX7_fitsBlocked 6 = .ok (.istore 5, 2) := ax_dec dX7_fitsBlocked_q0_ok 4 (6, .istore 5, 2) rfl
theorem dX7_fitsBlocked_8 : decode cX7_fitsBlocked 8 = .ok (.aload_n 0, 1) := ax_dec dX7_fitsBlocked_q0_ok 5 (8, .aload_n 0, 1) rfl
theorem dX7_fitsBlocked_9 : decode cX7_fitsBlocked 9 = .ok (.getfield 25, 3) := ax_dec dX7_fitsBlocked_q0_ok 6 (9, .getfield 25, 3) rfl
theorem dX7_fitsBlocked_12 : decode cX7_fitsBlocked 12 = .ok (.iload_n 3, 1) := ax_dec dX7_fitsBlocked_q0_ok 7 (12, .iload_n 3, 1) rfl
theorem dX7_fitsBlocked_13 : decode cX7_fitsBlocked 13 = .ok (.iaload, 1) := ax_dec dX7_fitsBlocked_q0_ok 8 (13, .iaload, 1) rfl
theorem dX7_fitsBlocked_14 : decode cX7_fitsBlocked 14 = .ok (.istore 6, 2) := ax_dec dX7_fitsBlocked_q0_ok 9 (14, .istore 6, 2) rfl
theorem dX7_fitsBlocked_16 : decode cX7_fitsBlocked 16 = .ok (.aload_n 0, 1) := ax_dec dX7_fitsBlocked_q0_ok 10 (16, .aload_n 0, 1) rfl
theorem dX7_fitsBlocked_17 : decode cX7_fitsBlocked 17 = .ok (.getfield 13, 3) := ax_dec dX7_fitsBlocked_q0_ok 11 (17, .getfield 13, 3) rfl
theorem dX7_fitsBlocked_20 : decode cX7_fitsBlocked 20 = .ok (.iload_n 3, 1) := ax_dec dX7_fitsBlocked_q0_ok 12 (20, .iload_n 3, 1) rfl
theorem dX7_fitsBlocked_21 : decode cX7_fitsBlocked 21 = .ok (.iconst 2, 1) := ax_dec dX7_fitsBlocked_q0_ok 13 (21, .iconst 2, 1) rfl
theorem dX7_fitsBlocked_22 : decode cX7_fitsBlocked 22 = .ok (.iastore, 1) := ax_dec dX7_fitsBlocked_q0_ok 14 (22, .iastore, 1) rfl
theorem dX7_fitsBlocked_23 : decode cX7_fitsBlocked 23 = .ok (.aload_n 0, 1) := ax_dec dX7_fitsBlocked_q0_ok 15 (23, .aload_n 0, 1) rfl
theorem dX7_fitsBlocked_24 : decode cX7_fitsBlocked 24 = .ok (.getfield 25, 3) := ax_dec dX7_fitsBlocked_q0_ok 16 (24, .getfield 25, 3) rfl
theorem dX7_fitsBlocked_27 : decode cX7_fitsBlocked 27 = .ok (.iload_n 3, 1) := ax_dec dX7_fitsBlocked_q0_ok 17 (27, .iload_n 3, 1) rfl
theorem dX7_fitsBlocked_28 : decode cX7_fitsBlocked 28 = .ok (.iload 4, 2) := ax_dec dX7_fitsBlocked_q0_ok 18 (28, .iload 4, 2) rfl
theorem dX7_fitsBlocked_30 : decode cX7_fitsBlocked 30 = .ok (.iastore, 1) := ax_dec dX7_fitsBlocked_q0_ok 19 (30, .iastore, 1) rfl
theorem dX7_fitsBlocked_31 : decode cX7_fitsBlocked 31 = .ok (.aload_n 0, 1) := ax_dec dX7_fitsBlocked_q0_ok 20 (31, .aload_n 0, 1) rfl
theorem dX7_fitsBlocked_32 : decode cX7_fitsBlocked 32 = .ok (.iload_n 1, 1) := ax_dec dX7_fitsBlocked_q0_ok 21 (32, .iload_n 1, 1) rfl
theorem dX7_fitsBlocked_33 : decode cX7_fitsBlocked 33 = .ok (.iload_n 2, 1) := ax_dec dX7_fitsBlocked_q0_ok 22 (33, .iload_n 2, 1) rfl
theorem dX7_fitsBlocked_34 : decode cX7_fitsBlocked 34 = .ok (.invokevirtual 294, 3) := ax_dec dX7_fitsBlocked_q0_ok 23 (34, .invokevirtual 294, 3) rfl
theorem dX7_fitsBlocked_37 : decode cX7_fitsBlocked 37 = .ok (.iconst (-1), 1) := ax_dec dX7_fitsBlocked_q0_ok 24 (37, .iconst (-1), 1) rfl
theorem dX7_fitsBlocked_38 : decode cX7_fitsBlocked 38 = .ok (.if_icmp .ne 7, 3) := ax_dec dX7_fitsBlocked_q0_ok 25 (38, .if_icmp .ne 7, 3) rfl
theorem dX7_fitsBlocked_41 : decode cX7_fitsBlocked 41 = .ok (.iconst 1, 1) := ax_dec dX7_fitsBlocked_q0_ok 26 (41, .iconst 1, 1) rfl
theorem dX7_fitsBlocked_42 : decode cX7_fitsBlocked 42 = .ok (.goto 4, 3) := ax_dec dX7_fitsBlocked_q0_ok 27 (42, .goto 4, 3) rfl
theorem dX7_fitsBlocked_45 : decode cX7_fitsBlocked 45 = .ok (.iconst 0, 1) := ax_dec dX7_fitsBlocked_q0_ok 28 (45, .iconst 0, 1) rfl
theorem dX7_fitsBlocked_46 : decode cX7_fitsBlocked 46 = .ok (.istore 7, 2) := ax_dec dX7_fitsBlocked_q0_ok 29 (46, .istore 7, 2) rfl
theorem dX7_fitsBlocked_48 : decode cX7_fitsBlocked 48 = .ok (.aload_n 0, 1) := ax_dec dX7_fitsBlocked_q0_ok 30 (48, .aload_n 0, 1) rfl
theorem dX7_fitsBlocked_49 : decode cX7_fitsBlocked 49 = .ok (.getfield 13, 3) := ax_dec dX7_fitsBlocked_q0_ok 31 (49, .getfield 13, 3) rfl
def dX7_fitsBlocked_q1 : List (Nat × (Instr × Nat)) := [(52, .iload_n 3, 1), (53, .iload 5, 2), (55, .iastore, 1), (56, .aload_n 0, 1), (57, .getfield 25, 3), (60, .iload_n 3, 1), (61, .iload 6, 2), (63, .iastore, 1), (64, .iload 7, 2), (66, .ireturn, 1)]
set_option maxRecDepth 100000 in
theorem dX7_fitsBlocked_q1_ok : ax_decs cX7_fitsBlocked dX7_fitsBlocked_q1 = true := by decide +kernel
theorem dX7_fitsBlocked_52 : decode cX7_fitsBlocked 52 = .ok (.iload_n 3, 1) := ax_dec dX7_fitsBlocked_q1_ok 0 (52, .iload_n 3, 1) rfl
theorem dX7_fitsBlocked_53 : decode cX7_fitsBlocked 53 = .ok (.iload 5, 2) := ax_dec dX7_fitsBlocked_q1_ok 1 (53, .iload 5, 2) rfl
theorem dX7_fitsBlocked_55 : decode cX7_fitsBlocked 55 = .ok (.iastore, 1) := ax_dec dX7_fitsBlocked_q1_ok 2 (55, .iastore, 1) rfl
theorem dX7_fitsBlocked_56 : decode cX7_fitsBlocked 56 = .ok (.aload_n 0, 1) := ax_dec dX7_fitsBlocked_q1_ok 3 (56, .aload_n 0, 1) rfl
theorem dX7_fitsBlocked_57 : decode cX7_fitsBlocked 57 = .ok (.getfield 25, 3) := ax_dec dX7_fitsBlocked_q1_ok 4 (57, .getfield 25, 3) rfl
theorem dX7_fitsBlocked_60 : decode cX7_fitsBlocked 60 = .ok (.iload_n 3, 1) := ax_dec dX7_fitsBlocked_q1_ok 5 (60, .iload_n 3, 1) rfl
theorem dX7_fitsBlocked_61 : decode cX7_fitsBlocked 61 = .ok (.iload 6, 2) := ax_dec dX7_fitsBlocked_q1_ok 6 (61, .iload 6, 2) rfl
theorem dX7_fitsBlocked_63 : decode cX7_fitsBlocked 63 = .ok (.iastore, 1) := ax_dec dX7_fitsBlocked_q1_ok 7 (63, .iastore, 1) rfl
theorem dX7_fitsBlocked_64 : decode cX7_fitsBlocked 64 = .ok (.iload 7, 2) := ax_dec dX7_fitsBlocked_q1_ok 8 (64, .iload 7, 2) rfl
theorem dX7_fitsBlocked_66 : decode cX7_fitsBlocked 66 = .ok (.ireturn, 1) := ax_dec dX7_fitsBlocked_q1_ok 9 (66, .ireturn, 1) rfl
def dX7_blocked_q0 : List (Nat × (Instr × Nat)) := [(0, .aload_n 0, 1), (1, .iload_n 1, 1), (2, .iload_n 2, 1), (3, .invokevirtual 291, 3), (6, .istore 4, 2), (8, .iload 4, 2), (10, .ifCond .ne 12, 3), (13, .iload_n 3, 1), (14, .iconst 0, 1), (15, .iconst 1, 1), (16, .invokestatic 87, 3), (19, .ifCond .ne 16, 3), (22, .iload 4, 2), (24, .ifCond .eq 8, 3), (27, .iload 4, 2), (29, .goto 5, 3), (32, .bipush (-7), 2), (34, .ireturn, 1), (35, .iconst (-1), 1), (36, .istore 5, 2), (38, .iconst 0, 1), (39, .istore 6, 2), (41, .iload_n 2, 1), (42, .istore 7, 2), (44, .iload 7, 2), (46, .iconst (-1), 1), (47, .if_icmp .eq 68, 3), (50, .iconst 1, 1), (51, .istore 8, 2), (53, .iload 8, 2), (55, .bipush 9, 2), (57, .if_icmp .gt 46, 3)]
set_option maxRecDepth 100000 in
theorem dX7_blocked_q0_ok : ax_decs cX7_blocked dX7_blocked_q0 = true := by decide +kernel
theorem dX7_blocked_0 : decode cX7_blocked 0 = .ok (.aload_n 0, 1) := ax_dec dX7_blocked_q0_ok 0 (0, .aload_n 0, 1) rfl
theorem dX7_blocked_1 : decode cX7_blocked 1 = .ok (.iload_n 1, 1) := ax_dec dX7_blocked_q0_ok 1 (1, .iload_n 1, 1) rfl
theorem dX7_blocked_2 : decode cX7_blocked 2 = .ok (.iload_n 2, 1) := ax_dec dX7_blocked_q0_ok 2 (2, .iload_n 2, 1) rfl
theorem dX7_blocked_3 : decode cX7_blocked 3 = .ok (.invokevirtual 291, 3) := ax_dec dX7_blocked_q0_ok 3 (3, .invokevirtual 291, 3) rfl
theorem dX7_blocked_6 : decode cX7_blocked 6 = .ok (.istore 4, 2) := ax_dec dX7_blocked_q0_ok 4 (6, .istore 4, 2) rfl
theorem dX7_blocked_8 : decode cX7_blocked 8 = .ok (.iload 4, 2) := ax_dec dX7_blocked_q0_ok 5 (8, .iload 4, 2) rfl
theorem dX7_blocked_10 : decode cX7_blocked 10 = .ok (.ifCond .ne 12, 3) := ax_dec dX7_blocked_q0_ok 6 (10, .ifCond .ne 12, 3) rfl
theorem dX7_blocked_13 : decode cX7_blocked 13 = .ok (.iload_n 3, 1) := ax_dec dX7_blocked_q0_ok 7 (13, .iload_n 3, 1) rfl
theorem dX7_blocked_14 : decode cX7_blocked 14 = .ok (.iconst 0, 1) := ax_dec dX7_blocked_q0_ok 8 (14, .iconst 0, 1) rfl
theorem dX7_blocked_15 : decode cX7_blocked 15 = .ok (.iconst 1, 1) := ax_dec dX7_blocked_q0_ok 9 (15, .iconst 1, 1) rfl
theorem dX7_blocked_16 : decode cX7_blocked 16 = .ok (.invokestatic 87, 3) := ax_dec dX7_blocked_q0_ok 10 (16, .invokestatic 87, 3) rfl
theorem dX7_blocked_19 : decode cX7_blocked 19 = .ok (.ifCond .ne 16, 3) := ax_dec dX7_blocked_q0_ok 11 (19, .ifCond .ne 16, 3) rfl
theorem dX7_blocked_22 : decode cX7_blocked 22 = .ok (.iload 4, 2) := ax_dec dX7_blocked_q0_ok 12 (22, .iload 4, 2) rfl
theorem dX7_blocked_24 : decode cX7_blocked 24 = .ok (.ifCond .eq 8, 3) := ax_dec dX7_blocked_q0_ok 13 (24, .ifCond .eq 8, 3) rfl
theorem dX7_blocked_27 : decode cX7_blocked 27 = .ok (.iload 4, 2) := ax_dec dX7_blocked_q0_ok 14 (27, .iload 4, 2) rfl
theorem dX7_blocked_29 : decode cX7_blocked 29 = .ok (.goto 5, 3) := ax_dec dX7_blocked_q0_ok 15 (29, .goto 5, 3) rfl
theorem dX7_blocked_32 : decode cX7_blocked 32 = .ok (.bipush (-7), 2) := ax_dec dX7_blocked_q0_ok 16 (32, .bipush (-7), 2) rfl
theorem dX7_blocked_34 : decode cX7_blocked 34 = .ok (.ireturn, 1) := ax_dec dX7_blocked_q0_ok 17 (34, .ireturn, 1) rfl
theorem dX7_blocked_35 : decode cX7_blocked 35 = .ok (.iconst (-1), 1) := ax_dec dX7_blocked_q0_ok 18 (35, .iconst (-1), 1) rfl
theorem dX7_blocked_36 : decode cX7_blocked 36 = .ok (.istore 5, 2) := ax_dec dX7_blocked_q0_ok 19 (36, .istore 5, 2) rfl
theorem dX7_blocked_38 : decode cX7_blocked 38 = .ok (.iconst 0, 1) := ax_dec dX7_blocked_q0_ok 20 (38, .iconst 0, 1) rfl
theorem dX7_blocked_39 : decode cX7_blocked 39 = .ok (.istore 6, 2) := ax_dec dX7_blocked_q0_ok 21 (39, .istore 6, 2) rfl
theorem dX7_blocked_41 : decode cX7_blocked 41 = .ok (.iload_n 2, 1) := ax_dec dX7_blocked_q0_ok 22 (41, .iload_n 2, 1) rfl
theorem dX7_blocked_42 : decode cX7_blocked 42 = .ok (.istore 7, 2) := ax_dec dX7_blocked_q0_ok 23 (42, .istore 7, 2) rfl
theorem dX7_blocked_44 : decode cX7_blocked 44 = .ok (.iload 7, 2) := ax_dec dX7_blocked_q0_ok 24 (44, .iload 7, 2) rfl
theorem dX7_blocked_46 : decode cX7_blocked 46 = .ok (.iconst (-1), 1) := ax_dec dX7_blocked_q0_ok 25 (46, .iconst (-1), 1) rfl
theorem dX7_blocked_47 : decode cX7_blocked 47 = .ok (.if_icmp .eq 68, 3) := ax_dec dX7_blocked_q0_ok 26 (47, .if_icmp .eq 68, 3) rfl
theorem dX7_blocked_50 : decode cX7_blocked 50 = .ok (.iconst 1, 1) := ax_dec dX7_blocked_q0_ok 27 (50, .iconst 1, 1) rfl
theorem dX7_blocked_51 : decode cX7_blocked 51 = .ok (.istore 8, 2) := ax_dec dX7_blocked_q0_ok 28 (51, .istore 8, 2) rfl
theorem dX7_blocked_53 : decode cX7_blocked 53 = .ok (.iload 8, 2) := ax_dec dX7_blocked_q0_ok 29 (53, .iload 8, 2) rfl
theorem dX7_blocked_55 : decode cX7_blocked 55 = .ok (.bipush 9, 2) := ax_dec dX7_blocked_q0_ok 30 (55, .bipush 9, 2) rfl
theorem dX7_blocked_57 : decode cX7_blocked 57 = .ok (.if_icmp .gt 46, 3) := ax_dec dX7_blocked_q0_ok 31 (57, .if_icmp .gt 46, 3) rfl
def dX7_blocked_q1 : List (Nat × (Instr × Nat)) := [(60, .aload_n 0, 1), (61, .iload_n 1, 1), (62, .iload_n 2, 1), (63, .iload 7, 2), (65, .iload 8, 2), (67, .invokevirtual 297, 3), (70, .ifCond .eq 27, 3), (73, .iload 5, 2), (75, .iconst (-1), 1), (76, .if_icmp .ne 14, 3), (79, .bipush 10, 2), (81, .iload 7, 2), (83, .imul, 1), (84, .iload 8, 2), (86, .iadd, 1), (87, .goto 5, 3), (90, .iload 5, 2), (92, .istore 5, 2), (94, .iinc 6 1, 3), (97, .iinc 8 1, 3), (100, .goto (-47), 3), (103, .aload_n 0, 1), (104, .getfield 7, 3), (107, .iload 7, 2), (109, .iaload, 1), (110, .istore 7, 2), (112, .goto (-68), 3), (115, .iload_n 3, 1), (116, .ifCond .ne 8, 3), (119, .iload 5, 2), (121, .goto 5, 3), (124, .iload 6, 2)]
set_option maxRecDepth 100000 in
theorem dX7_blocked_q1_ok : ax_decs cX7_blocked dX7_blocked_q1 = true := by decide +kernel
theorem dX7_blocked_60 : decode cX7_blocked 60 = .ok (.aload_n 0, 1) := ax_dec dX7_blocked_q1_ok 0 (60, .aload_n 0, 1) rfl
theorem dX7_blocked_61 : decode cX7_blocked 61 = .ok (.iload_n 1, 1) := ax_dec dX7_blocked_q1_ok 1 (61, .iload_n 1, 1) rfl
theorem dX7_blocked_62 : decode cX7_blocked 62 = .ok (.iload_n 2, 1) := ax_dec dX7_blocked_q1_ok 2 (62, .iload_n 2, 1) rfl
theorem dX7_blocked_63 : decode cX7_blocked 63 = .ok (.iload 7, 2) := ax_dec dX7_blocked_q1_ok 3 (63, .iload 7, 2) rfl
theorem dX7_blocked_65 : decode cX7_blocked 65 = .ok (.iload 8, 2) := ax_dec dX7_blocked_q1_ok 4 (65, .iload 8, 2) rfl
theorem dX7_blocked_67 : decode cX7_blocked 67 = .ok (.invokevirtual 297, 3) := ax_dec dX7_blocked_q1_ok 5 (67, .invokevirtual 297, 3) rfl
theorem dX7_blocked_70 : decode cX7_blocked 70 = .ok (.ifCond .eq 27, 3) := ax_dec dX7_blocked_q1_ok 6 (70, .ifCond .eq 27, 3) rfl
theorem dX7_blocked_73 : decode cX7_blocked 73 = .ok (.iload 5, 2) := ax_dec dX7_blocked_q1_ok 7 (73, .iload 5, 2) rfl
theorem dX7_blocked_75 : decode cX7_blocked 75 = .ok (.iconst (-1), 1) := ax_dec dX7_blocked_q1_ok 8 (75, .iconst (-1), 1) rfl
theorem dX7_blocked_76 : decode cX7_blocked 76 = .ok (.if_icmp .ne 14, 3) := ax_dec dX7_blocked_q1_ok 9 (76, .if_icmp .ne 14, 3) rfl
theorem dX7_blocked_79 : decode cX7_blocked 79 = .ok (.bipush 10, 2) := ax_dec dX7_blocked_q1_ok 10 (79, .bipush 10, 2) rfl
theorem dX7_blocked_81 : decode cX7_blocked 81 = .ok (.iload 7, 2) := ax_dec dX7_blocked_q1_ok 11 (81, .iload 7, 2) rfl
theorem dX7_blocked_83 : decode cX7_blocked 83 = .ok (.imul, 1) := ax_dec dX7_blocked_q1_ok 12 (83, .imul, 1) rfl
theorem dX7_blocked_84 : decode cX7_blocked 84 = .ok (.iload 8, 2) := ax_dec dX7_blocked_q1_ok 13 (84, .iload 8, 2) rfl
theorem dX7_blocked_86 : decode cX7_blocked 86 = .ok (.iadd, 1) := ax_dec dX7_blocked_q1_ok 14 (86, .iadd, 1) rfl
theorem dX7_blocked_87 : decode cX7_blocked 87 = .ok (.goto 5, 3) := ax_dec dX7_blocked_q1_ok 15 (87, .goto 5, 3) rfl
theorem dX7_blocked_90 : decode cX7_blocked 90 = .ok (.iload 5, 2) := ax_dec dX7_blocked_q1_ok 16 (90, .iload 5, 2) rfl
theorem dX7_blocked_92 : decode cX7_blocked 92 = .ok (.istore 5, 2) := ax_dec dX7_blocked_q1_ok 17 (92, .istore 5, 2) rfl
theorem dX7_blocked_94 : decode cX7_blocked 94 = .ok (.iinc 6 1, 3) := ax_dec dX7_blocked_q1_ok 18 (94, .iinc 6 1, 3) rfl
theorem dX7_blocked_97 : decode cX7_blocked 97 = .ok (.iinc 8 1, 3) := ax_dec dX7_blocked_q1_ok 19 (97, .iinc 8 1, 3) rfl
theorem dX7_blocked_100 : decode cX7_blocked 100 = .ok (.goto (-47), 3) := ax_dec dX7_blocked_q1_ok 20 (100, .goto (-47), 3) rfl
theorem dX7_blocked_103 : decode cX7_blocked 103 = .ok (.aload_n 0, 1) := ax_dec dX7_blocked_q1_ok 21 (103, .aload_n 0, 1) rfl
theorem dX7_blocked_104 : decode cX7_blocked 104 = .ok (.getfield 7, 3) := ax_dec dX7_blocked_q1_ok 22 (104, .getfield 7, 3) rfl
theorem dX7_blocked_107 : decode cX7_blocked 107 = .ok (.iload 7, 2) := ax_dec dX7_blocked_q1_ok 23 (107, .iload 7, 2) rfl
theorem dX7_blocked_109 : decode cX7_blocked 109 = .ok (.iaload, 1) := ax_dec dX7_blocked_q1_ok 24 (109, .iaload, 1) rfl
theorem dX7_blocked_110 : decode cX7_blocked 110 = .ok (.istore 7, 2) := ax_dec dX7_blocked_q1_ok 25 (110, .istore 7, 2) rfl
theorem dX7_blocked_112 : decode cX7_blocked 112 = .ok (.goto (-68), 3) := ax_dec dX7_blocked_q1_ok 26 (112, .goto (-68), 3) rfl
theorem dX7_blocked_115 : decode cX7_blocked 115 = .ok (.iload_n 3, 1) := ax_dec dX7_blocked_q1_ok 27 (115, .iload_n 3, 1) rfl
theorem dX7_blocked_116 : decode cX7_blocked 116 = .ok (.ifCond .ne 8, 3) := ax_dec dX7_blocked_q1_ok 28 (116, .ifCond .ne 8, 3) rfl
theorem dX7_blocked_119 : decode cX7_blocked 119 = .ok (.iload 5, 2) := ax_dec dX7_blocked_q1_ok 29 (119, .iload 5, 2) rfl
theorem dX7_blocked_121 : decode cX7_blocked 121 = .ok (.goto 5, 3) := ax_dec dX7_blocked_q1_ok 30 (121, .goto 5, 3) rfl
theorem dX7_blocked_124 : decode cX7_blocked 124 = .ok (.iload 6, 2) := ax_dec dX7_blocked_q1_ok 31 (124, .iload 6, 2) rfl
def dX7_blocked_q2 : List (Nat × (Instr × Nat)) := [(126, .ireturn, 1)]
set_option maxRecDepth 100000 in
theorem dX7_blocked_q2_ok : ax_decs cX7_blocked dX7_blocked_q2 = true := by decide +kernel
theorem dX7_blocked_126 : decode cX7_blocked 126 = .ok (.ireturn, 1) := ax_dec dX7_blocked_q2_ok 0 (126, .ireturn, 1) rfl
def dX7_film_q0 : List (Nat × (Instr × Nat)) := [(0, .iload_n 1, 1), (1, .iconst 0, 1), (2, .iconst 3, 1), (3, .invokestatic 87, 3), (6, .ifCond .ne 6, 3), (9, .bipush (-2), 2), (11, .ireturn, 1), (12, .aload_n 0, 1), (13, .iload_n 2, 1), (14, .invokevirtual 95, 3), (17, .ifCond .ne 6, 3), (20, .bipush (-5), 2), (22, .ireturn, 1), (23, .iload_n 3, 1), (24, .iconst 0, 1), (25, .bipush 40, 2), (27, .invokestatic 87, 3), (30, .ifCond .ne 6, 3), (33, .bipush (-7), 2), (35, .ireturn, 1), (36, .aload_n 0, 1), (37, .getfield 43, 3), (40, .iload_n 1, 1), (41, .iconst 2, 1), (42, .iastore, 1), (43, .aload_n 0, 1), (44, .getfield 46, 3), (47, .iload_n 1, 1), (48, .iload_n 3, 1), (49, .iastore, 1), (50, .iconst 0, 1), (51, .istore 4, 2)]
set_option maxRecDepth 100000 in
theorem dX7_film_q0_ok : ax_decs cX7_film dX7_film_q0 = true := by decide +kernel
theorem dX7_film_0 : decode cX7_film 0 = .ok (.iload_n 1, 1) := ax_dec dX7_film_q0_ok 0 (0, .iload_n 1, 1) rfl
theorem dX7_film_1 : decode cX7_film 1 = .ok (.iconst 0, 1) := ax_dec dX7_film_q0_ok 1 (1, .iconst 0, 1) rfl
theorem dX7_film_2 : decode cX7_film 2 = .ok (.iconst 3, 1) := ax_dec dX7_film_q0_ok 2 (2, .iconst 3, 1) rfl
theorem dX7_film_3 : decode cX7_film 3 = .ok (.invokestatic 87, 3) := ax_dec dX7_film_q0_ok 3 (3, .invokestatic 87, 3) rfl
theorem dX7_film_6 : decode cX7_film 6 = .ok (.ifCond .ne 6, 3) := ax_dec dX7_film_q0_ok 4 (6, .ifCond .ne 6, 3) rfl
theorem dX7_film_9 : decode cX7_film 9 = .ok (.bipush (-2), 2) := ax_dec dX7_film_q0_ok 5 (9, .bipush (-2), 2) rfl
theorem dX7_film_11 : decode cX7_film 11 = .ok (.ireturn, 1) := ax_dec dX7_film_q0_ok 6 (11, .ireturn, 1) rfl
theorem dX7_film_12 : decode cX7_film 12 = .ok (.aload_n 0, 1) := ax_dec dX7_film_q0_ok 7 (12, .aload_n 0, 1) rfl
theorem dX7_film_13 : decode cX7_film 13 = .ok (.iload_n 2, 1) := ax_dec dX7_film_q0_ok 8 (13, .iload_n 2, 1) rfl
theorem dX7_film_14 : decode cX7_film 14 = .ok (.invokevirtual 95, 3) := ax_dec dX7_film_q0_ok 9 (14, .invokevirtual 95, 3) rfl
theorem dX7_film_17 : decode cX7_film 17 = .ok (.ifCond .ne 6, 3) := ax_dec dX7_film_q0_ok 10 (17, .ifCond .ne 6, 3) rfl
theorem dX7_film_20 : decode cX7_film 20 = .ok (.bipush (-5), 2) := ax_dec dX7_film_q0_ok 11 (20, .bipush (-5), 2) rfl
theorem dX7_film_22 : decode cX7_film 22 = .ok (.ireturn, 1) := ax_dec dX7_film_q0_ok 12 (22, .ireturn, 1) rfl
theorem dX7_film_23 : decode cX7_film 23 = .ok (.iload_n 3, 1) := ax_dec dX7_film_q0_ok 13 (23, .iload_n 3, 1) rfl
theorem dX7_film_24 : decode cX7_film 24 = .ok (.iconst 0, 1) := ax_dec dX7_film_q0_ok 14 (24, .iconst 0, 1) rfl
theorem dX7_film_25 : decode cX7_film 25 = .ok (.bipush 40, 2) := ax_dec dX7_film_q0_ok 15 (25, .bipush 40, 2) rfl
theorem dX7_film_27 : decode cX7_film 27 = .ok (.invokestatic 87, 3) := ax_dec dX7_film_q0_ok 16 (27, .invokestatic 87, 3) rfl
theorem dX7_film_30 : decode cX7_film 30 = .ok (.ifCond .ne 6, 3) := ax_dec dX7_film_q0_ok 17 (30, .ifCond .ne 6, 3) rfl
theorem dX7_film_33 : decode cX7_film 33 = .ok (.bipush (-7), 2) := ax_dec dX7_film_q0_ok 18 (33, .bipush (-7), 2) rfl
theorem dX7_film_35 : decode cX7_film 35 = .ok (.ireturn, 1) := ax_dec dX7_film_q0_ok 19 (35, .ireturn, 1) rfl
theorem dX7_film_36 : decode cX7_film 36 = .ok (.aload_n 0, 1) := ax_dec dX7_film_q0_ok 20 (36, .aload_n 0, 1) rfl
theorem dX7_film_37 : decode cX7_film 37 = .ok (.getfield 43, 3) := ax_dec dX7_film_q0_ok 21 (37, .getfield 43, 3) rfl
theorem dX7_film_40 : decode cX7_film 40 = .ok (.iload_n 1, 1) := ax_dec dX7_film_q0_ok 22 (40, .iload_n 1, 1) rfl
theorem dX7_film_41 : decode cX7_film 41 = .ok (.iconst 2, 1) := ax_dec dX7_film_q0_ok 23 (41, .iconst 2, 1) rfl
theorem dX7_film_42 : decode cX7_film 42 = .ok (.iastore, 1) := ax_dec dX7_film_q0_ok 24 (42, .iastore, 1) rfl
theorem dX7_film_43 : decode cX7_film 43 = .ok (.aload_n 0, 1) := ax_dec dX7_film_q0_ok 25 (43, .aload_n 0, 1) rfl
theorem dX7_film_44 : decode cX7_film 44 = .ok (.getfield 46, 3) := ax_dec dX7_film_q0_ok 26 (44, .getfield 46, 3) rfl
theorem dX7_film_47 : decode cX7_film 47 = .ok (.iload_n 1, 1) := ax_dec dX7_film_q0_ok 27 (47, .iload_n 1, 1) rfl
theorem dX7_film_48 : decode cX7_film 48 = .ok (.iload_n 3, 1) := ax_dec dX7_film_q0_ok 28 (48, .iload_n 3, 1) rfl
theorem dX7_film_49 : decode cX7_film 49 = .ok (.iastore, 1) := ax_dec dX7_film_q0_ok 29 (49, .iastore, 1) rfl
theorem dX7_film_50 : decode cX7_film 50 = .ok (.iconst 0, 1) := ax_dec dX7_film_q0_ok 30 (50, .iconst 0, 1) rfl
theorem dX7_film_51 : decode cX7_film 51 = .ok (.istore 4, 2) := ax_dec dX7_film_q0_ok 31 (51, .istore 4, 2) rfl
def dX7_film_q1 : List (Nat × (Instr × Nat)) := [(53, .iload 4, 2), (55, .bipush 40, 2), (57, .if_icmp .ge 40, 3), (60, .aload_n 0, 1), (61, .getfield 49, 3), (64, .bipush 40, 2), (66, .iload_n 1, 1), (67, .imul, 1), (68, .iload 4, 2), (70, .iadd, 1), (71, .iload 4, 2), (73, .iload_n 3, 1), (74, .if_icmp .ge 15, 3), (77, .aload_n 0, 1), (78, .iload_n 2, 1), (79, .iload 4, 2), (81, .iconst 1, 1), (82, .iadd, 1), (83, .invokevirtual 214, 3), (86, .goto 4, 3), (89, .iconst 0, 1), (90, .iastore, 1), (91, .iinc 4 1, 3), (94, .goto (-41), 3), (97, .iload_n 3, 1), (98, .ireturn, 1)]
set_option maxRecDepth 100000 in
theorem dX7_film_q1_ok : ax_decs cX7_film dX7_film_q1 = true := by decide +kernel
theorem dX7_film_53 : decode cX7_film 53 = .ok (.iload 4, 2) := ax_dec dX7_film_q1_ok 0 (53, .iload 4, 2) rfl
theorem dX7_film_55 : decode cX7_film 55 = .ok (.bipush 40, 2) := ax_dec dX7_film_q1_ok 1 (55, .bipush 40, 2) rfl
theorem dX7_film_57 : decode cX7_film 57 = .ok (.if_icmp .ge 40, 3) := ax_dec dX7_film_q1_ok 2 (57, .if_icmp .ge 40, 3) rfl
theorem dX7_film_60 : decode cX7_film 60 = .ok (.aload_n 0, 1) := ax_dec dX7_film_q1_ok 3 (60, .aload_n 0, 1) rfl
theorem dX7_film_61 : decode cX7_film 61 = .ok (.getfield 49, 3) := ax_dec dX7_film_q1_ok 4 (61, .getfield 49, 3) rfl
theorem dX7_film_64 : decode cX7_film 64 = .ok (.bipush 40, 2) := ax_dec dX7_film_q1_ok 5 (64, .bipush 40, 2) rfl
theorem dX7_film_66 : decode cX7_film 66 = .ok (.iload_n 1, 1) := ax_dec dX7_film_q1_ok 6 (66, .iload_n 1, 1) rfl
theorem dX7_film_67 : decode cX7_film 67 = .ok (.imul, 1) := ax_dec dX7_film_q1_ok 7 (67, .imul, 1) rfl
theorem dX7_film_68 : decode cX7_film 68 = .ok (.iload 4, 2) := ax_dec dX7_film_q1_ok 8 (68, .iload 4, 2) rfl
theorem dX7_film_70 : decode cX7_film 70 = .ok (.iadd, 1) := ax_dec dX7_film_q1_ok 9 (70, .iadd, 1) rfl
theorem dX7_film_71 : decode cX7_film 71 = .ok (.iload 4, 2) := ax_dec dX7_film_q1_ok 10 (71, .iload 4, 2) rfl
theorem dX7_film_73 : decode cX7_film 73 = .ok (.iload_n 3, 1) := ax_dec dX7_film_q1_ok 11 (73, .iload_n 3, 1) rfl
theorem dX7_film_74 : decode cX7_film 74 = .ok (.if_icmp .ge 15, 3) := ax_dec dX7_film_q1_ok 12 (74, .if_icmp .ge 15, 3) rfl
theorem dX7_film_77 : decode cX7_film 77 = .ok (.aload_n 0, 1) := ax_dec dX7_film_q1_ok 13 (77, .aload_n 0, 1) rfl
theorem dX7_film_78 : decode cX7_film 78 = .ok (.iload_n 2, 1) := ax_dec dX7_film_q1_ok 14 (78, .iload_n 2, 1) rfl
theorem dX7_film_79 : decode cX7_film 79 = .ok (.iload 4, 2) := ax_dec dX7_film_q1_ok 15 (79, .iload 4, 2) rfl
theorem dX7_film_81 : decode cX7_film 81 = .ok (.iconst 1, 1) := ax_dec dX7_film_q1_ok 16 (81, .iconst 1, 1) rfl
theorem dX7_film_82 : decode cX7_film 82 = .ok (.iadd, 1) := ax_dec dX7_film_q1_ok 17 (82, .iadd, 1) rfl
theorem dX7_film_83 : decode cX7_film 83 = .ok (.invokevirtual 214, 3) := ax_dec dX7_film_q1_ok 18 (83, .invokevirtual 214, 3) rfl
theorem dX7_film_86 : decode cX7_film 86 = .ok (.goto 4, 3) := ax_dec dX7_film_q1_ok 19 (86, .goto 4, 3) rfl
theorem dX7_film_89 : decode cX7_film 89 = .ok (.iconst 0, 1) := ax_dec dX7_film_q1_ok 20 (89, .iconst 0, 1) rfl
theorem dX7_film_90 : decode cX7_film 90 = .ok (.iastore, 1) := ax_dec dX7_film_q1_ok 21 (90, .iastore, 1) rfl
theorem dX7_film_91 : decode cX7_film 91 = .ok (.iinc 4 1, 3) := ax_dec dX7_film_q1_ok 22 (91, .iinc 4 1, 3) rfl
theorem dX7_film_94 : decode cX7_film 94 = .ok (.goto (-41), 3) := ax_dec dX7_film_q1_ok 23 (94, .goto (-41), 3) rfl
theorem dX7_film_97 : decode cX7_film 97 = .ok (.iload_n 3, 1) := ax_dec dX7_film_q1_ok 24 (97, .iload_n 3, 1) rfl
theorem dX7_film_98 : decode cX7_film 98 = .ok (.ireturn, 1) := ax_dec dX7_film_q1_ok 25 (98, .ireturn, 1) rfl
def dX7_firstBurns_q0 : List (Nat × (Instr × Nat)) := [(0, .iload_n 1, 1), (1, .i2l, 1), (2, .lconst 1, 1), (3, .ladd, 1), (4, .lstore 5, 2), (6, .iconst (-1), 1), (7, .istore 7, 2), (9, .aload_n 0, 1), (10, .invokevirtual 249, 3), (13, .iconst 1, 1), (14, .istore 8, 2), (16, .iload 8, 2), (18, .iload_n 3, 1), (19, .if_icmp .gt 104, 3), (22, .aload_n 0, 1), (23, .iload_n 2, 1), (24, .iload 4, 2), (26, .invokevirtual 232, 3), (29, .iload_n 2, 1), (30, .istore 9, 2), (32, .iload 9, 2), (34, .iconst (-1), 1), (35, .if_icmp .eq 82, 3), (38, .lload 5, 2), (40, .ldc2_w 301, 3), (43, .lmul, 1), (44, .ldc2_w 303, 3), (47, .lrem, 1), (48, .lstore 5, 2), (50, .lload 5, 2), (52, .ldc2_w 243, 3), (55, .lrem, 1)]
set_option maxRecDepth 100000 in
theorem dX7_firstBurns_q0_ok : ax_decs cX7_firstBurns dX7_firstBurns_q0 = true := by decide +kernel
theorem dX7_firstBurns_0 : decode cX7_firstBurns 0 = .ok (.iload_n 1, 1) := ax_dec dX7_firstBurns_q0_ok 0 (0, .iload_n 1, 1) rfl
theorem dX7_firstBurns_1 : decode cX7_firstBurns 1 = .ok (.i2l, 1) := ax_dec dX7_firstBurns_q0_ok 1 (1, .i2l, 1) rfl
theorem dX7_firstBurns_2 : decode cX7_firstBurns 2 = .ok (.lconst 1, 1) := ax_dec dX7_firstBurns_q0_ok 2 (2, .lconst 1, 1) rfl
theorem dX7_firstBurns_3 : decode cX7_firstBurns 3 = .ok (.ladd, 1) := ax_dec dX7_firstBurns_q0_ok 3 (3, .ladd, 1) rfl
theorem dX7_firstBurns_4 : decode cX7_firstBurns 4 = .ok (.lstore 5, 2) := ax_dec dX7_firstBurns_q0_ok 4 (4, .lstore 5, 2) rfl
theorem dX7_firstBurns_6 : decode cX7_firstBurns 6 = .ok (.iconst (-1), 1) := ax_dec dX7_firstBurns_q0_ok 5 (6, .iconst (-1), 1) rfl
theorem dX7_firstBurns_7 : decode cX7_firstBurns 7 = .ok (.istore 7, 2) := ax_dec dX7_firstBurns_q0_ok 6 (7, .istore 7, 2) rfl
theorem dX7_firstBurns_9 : decode cX7_firstBurns 9 = .ok (.aload_n 0, 1) := ax_dec dX7_firstBurns_q0_ok 7 (9, .aload_n 0, 1) rfl
theorem dX7_firstBurns_10 : decode cX7_firstBurns 10 = .ok (.invokevirtual 249, 3) := ax_dec dX7_firstBurns_q0_ok 8 (10, .invokevirtual 249, 3) rfl
theorem dX7_firstBurns_13 : decode cX7_firstBurns 13 = .ok (.iconst 1, 1) := ax_dec dX7_firstBurns_q0_ok 9 (13, .iconst 1, 1) rfl
theorem dX7_firstBurns_14 : decode cX7_firstBurns 14 = .ok (.istore 8, 2) := ax_dec dX7_firstBurns_q0_ok 10 (14, .istore 8, 2) rfl
theorem dX7_firstBurns_16 : decode cX7_firstBurns 16 = .ok (.iload 8, 2) := ax_dec dX7_firstBurns_q0_ok 11 (16, .iload 8, 2) rfl
theorem dX7_firstBurns_18 : decode cX7_firstBurns 18 = .ok (.iload_n 3, 1) := ax_dec dX7_firstBurns_q0_ok 12 (18, .iload_n 3, 1) rfl
theorem dX7_firstBurns_19 : decode cX7_firstBurns 19 = .ok (.if_icmp .gt 104, 3) := ax_dec dX7_firstBurns_q0_ok 13 (19, .if_icmp .gt 104, 3) rfl
theorem dX7_firstBurns_22 : decode cX7_firstBurns 22 = .ok (.aload_n 0, 1) := ax_dec dX7_firstBurns_q0_ok 14 (22, .aload_n 0, 1) rfl
theorem dX7_firstBurns_23 : decode cX7_firstBurns 23 = .ok (.iload_n 2, 1) := ax_dec dX7_firstBurns_q0_ok 15 (23, .iload_n 2, 1) rfl
theorem dX7_firstBurns_24 : decode cX7_firstBurns 24 = .ok (.iload 4, 2) := ax_dec dX7_firstBurns_q0_ok 16 (24, .iload 4, 2) rfl
theorem dX7_firstBurns_26 : decode cX7_firstBurns 26 = .ok (.invokevirtual 232, 3) := ax_dec dX7_firstBurns_q0_ok 17 (26, .invokevirtual 232, 3) rfl
theorem dX7_firstBurns_29 : decode cX7_firstBurns 29 = .ok (.iload_n 2, 1) := ax_dec dX7_firstBurns_q0_ok 18 (29, .iload_n 2, 1) rfl
theorem dX7_firstBurns_30 : decode cX7_firstBurns 30 = .ok (.istore 9, 2) := ax_dec dX7_firstBurns_q0_ok 19 (30, .istore 9, 2) rfl
theorem dX7_firstBurns_32 : decode cX7_firstBurns 32 = .ok (.iload 9, 2) := ax_dec dX7_firstBurns_q0_ok 20 (32, .iload 9, 2) rfl
theorem dX7_firstBurns_34 : decode cX7_firstBurns 34 = .ok (.iconst (-1), 1) := ax_dec dX7_firstBurns_q0_ok 21 (34, .iconst (-1), 1) rfl
theorem dX7_firstBurns_35 : decode cX7_firstBurns 35 = .ok (.if_icmp .eq 82, 3) := ax_dec dX7_firstBurns_q0_ok 22 (35, .if_icmp .eq 82, 3) rfl
theorem dX7_firstBurns_38 : decode cX7_firstBurns 38 = .ok (.lload 5, 2) := ax_dec dX7_firstBurns_q0_ok 23 (38, .lload 5, 2) rfl
theorem dX7_firstBurns_40 : decode cX7_firstBurns 40 = .ok (.ldc2_w 301, 3) := ax_dec dX7_firstBurns_q0_ok 24 (40, .ldc2_w 301, 3) rfl
theorem dX7_firstBurns_43 : decode cX7_firstBurns 43 = .ok (.lmul, 1) := ax_dec dX7_firstBurns_q0_ok 25 (43, .lmul, 1) rfl
theorem dX7_firstBurns_44 : decode cX7_firstBurns 44 = .ok (.ldc2_w 303, 3) := ax_dec dX7_firstBurns_q0_ok 26 (44, .ldc2_w 303, 3) rfl
theorem dX7_firstBurns_47 : decode cX7_firstBurns 47 = .ok (.lrem, 1) := ax_dec dX7_firstBurns_q0_ok 27 (47, .lrem, 1) rfl
theorem dX7_firstBurns_48 : decode cX7_firstBurns 48 = .ok (.lstore 5, 2) := ax_dec dX7_firstBurns_q0_ok 28 (48, .lstore 5, 2) rfl
theorem dX7_firstBurns_50 : decode cX7_firstBurns 50 = .ok (.lload 5, 2) := ax_dec dX7_firstBurns_q0_ok 29 (50, .lload 5, 2) rfl
theorem dX7_firstBurns_52 : decode cX7_firstBurns 52 = .ok (.ldc2_w 243, 3) := ax_dec dX7_firstBurns_q0_ok 30 (52, .ldc2_w 243, 3) rfl
theorem dX7_firstBurns_55 : decode cX7_firstBurns 55 = .ok (.lrem, 1) := ax_dec dX7_firstBurns_q0_ok 31 (55, .lrem, 1) rfl
def dX7_firstBurns_q1 : List (Nat × (Instr × Nat)) := [(56, .aload_n 0, 1), (57, .iconst 2, 1), (58, .iload 9, 2), (60, .iload 4, 2), (62, .bipush 10, 2), (64, .idiv, 1), (65, .iload 4, 2), (67, .bipush 10, 2), (69, .irem, 1), (70, .invokevirtual 185, 3), (73, .i2l, 1), (74, .lcmp, 1), (75, .ifCond .ge 7, 3), (78, .iconst 1, 1), (79, .goto 4, 3), (82, .iconst 0, 1), (83, .istore 10, 2), (85, .iload 10, 2), (87, .ifCond .eq 14, 3), (90, .iload 7, 2), (92, .iconst (-1), 1), (93, .if_icmp .ne 8, 3), (96, .iload 8, 2), (98, .goto 5, 3), (101, .iload 7, 2), (103, .istore 7, 2), (105, .aload_n 0, 1), (106, .getfield 7, 3), (109, .iload 9, 2), (111, .iaload, 1), (112, .istore 9, 2), (114, .goto (-82), 3)]
set_option maxRecDepth 100000 in
theorem dX7_firstBurns_q1_ok : ax_decs cX7_firstBurns dX7_firstBurns_q1 = true := by decide +kernel
theorem dX7_firstBurns_56 : decode cX7_firstBurns 56 = .ok (.aload_n 0, 1) := ax_dec dX7_firstBurns_q1_ok 0 (56, .aload_n 0, 1) rfl
theorem dX7_firstBurns_57 : decode cX7_firstBurns 57 = .ok (.iconst 2, 1) := ax_dec dX7_firstBurns_q1_ok 1 (57, .iconst 2, 1) rfl
theorem dX7_firstBurns_58 : decode cX7_firstBurns 58 = .ok (.iload 9, 2) := ax_dec dX7_firstBurns_q1_ok 2 (58, .iload 9, 2) rfl
theorem dX7_firstBurns_60 : decode cX7_firstBurns 60 = .ok (.iload 4, 2) := ax_dec dX7_firstBurns_q1_ok 3 (60, .iload 4, 2) rfl
theorem dX7_firstBurns_62 : decode cX7_firstBurns 62 = .ok (.bipush 10, 2) := ax_dec dX7_firstBurns_q1_ok 4 (62, .bipush 10, 2) rfl
theorem dX7_firstBurns_64 : decode cX7_firstBurns 64 = .ok (.idiv, 1) := ax_dec dX7_firstBurns_q1_ok 5 (64, .idiv, 1) rfl
theorem dX7_firstBurns_65 : decode cX7_firstBurns 65 = .ok (.iload 4, 2) := ax_dec dX7_firstBurns_q1_ok 6 (65, .iload 4, 2) rfl
theorem dX7_firstBurns_67 : decode cX7_firstBurns 67 = .ok (.bipush 10, 2) := ax_dec dX7_firstBurns_q1_ok 7 (67, .bipush 10, 2) rfl
theorem dX7_firstBurns_69 : decode cX7_firstBurns 69 = .ok (.irem, 1) := ax_dec dX7_firstBurns_q1_ok 8 (69, .irem, 1) rfl
theorem dX7_firstBurns_70 : decode cX7_firstBurns 70 = .ok (.invokevirtual 185, 3) := ax_dec dX7_firstBurns_q1_ok 9 (70, .invokevirtual 185, 3) rfl
theorem dX7_firstBurns_73 : decode cX7_firstBurns 73 = .ok (.i2l, 1) := ax_dec dX7_firstBurns_q1_ok 10 (73, .i2l, 1) rfl
theorem dX7_firstBurns_74 : decode cX7_firstBurns 74 = .ok (.lcmp, 1) := ax_dec dX7_firstBurns_q1_ok 11 (74, .lcmp, 1) rfl
theorem dX7_firstBurns_75 : decode cX7_firstBurns 75 = .ok (.ifCond .ge 7, 3) := ax_dec dX7_firstBurns_q1_ok 12 (75, .ifCond .ge 7, 3) rfl
theorem dX7_firstBurns_78 : decode cX7_firstBurns 78 = .ok (.iconst 1, 1) := ax_dec dX7_firstBurns_q1_ok 13 (78, .iconst 1, 1) rfl
theorem dX7_firstBurns_79 : decode cX7_firstBurns 79 = .ok (.goto 4, 3) := ax_dec dX7_firstBurns_q1_ok 14 (79, .goto 4, 3) rfl
theorem dX7_firstBurns_82 : decode cX7_firstBurns 82 = .ok (.iconst 0, 1) := ax_dec dX7_firstBurns_q1_ok 15 (82, .iconst 0, 1) rfl
theorem dX7_firstBurns_83 : decode cX7_firstBurns 83 = .ok (.istore 10, 2) := ax_dec dX7_firstBurns_q1_ok 16 (83, .istore 10, 2) rfl
theorem dX7_firstBurns_85 : decode cX7_firstBurns 85 = .ok (.iload 10, 2) := ax_dec dX7_firstBurns_q1_ok 17 (85, .iload 10, 2) rfl
theorem dX7_firstBurns_87 : decode cX7_firstBurns 87 = .ok (.ifCond .eq 14, 3) := ax_dec dX7_firstBurns_q1_ok 18 (87, .ifCond .eq 14, 3) rfl
theorem dX7_firstBurns_90 : decode cX7_firstBurns 90 = .ok (.iload 7, 2) := ax_dec dX7_firstBurns_q1_ok 19 (90, .iload 7, 2) rfl
theorem dX7_firstBurns_92 : decode cX7_firstBurns 92 = .ok (.iconst (-1), 1) := ax_dec dX7_firstBurns_q1_ok 20 (92, .iconst (-1), 1) rfl
theorem dX7_firstBurns_93 : decode cX7_firstBurns 93 = .ok (.if_icmp .ne 8, 3) := ax_dec dX7_firstBurns_q1_ok 21 (93, .if_icmp .ne 8, 3) rfl
theorem dX7_firstBurns_96 : decode cX7_firstBurns 96 = .ok (.iload 8, 2) := ax_dec dX7_firstBurns_q1_ok 22 (96, .iload 8, 2) rfl
theorem dX7_firstBurns_98 : decode cX7_firstBurns 98 = .ok (.goto 5, 3) := ax_dec dX7_firstBurns_q1_ok 23 (98, .goto 5, 3) rfl
theorem dX7_firstBurns_101 : decode cX7_firstBurns 101 = .ok (.iload 7, 2) := ax_dec dX7_firstBurns_q1_ok 24 (101, .iload 7, 2) rfl
theorem dX7_firstBurns_103 : decode cX7_firstBurns 103 = .ok (.istore 7, 2) := ax_dec dX7_firstBurns_q1_ok 25 (103, .istore 7, 2) rfl
theorem dX7_firstBurns_105 : decode cX7_firstBurns 105 = .ok (.aload_n 0, 1) := ax_dec dX7_firstBurns_q1_ok 26 (105, .aload_n 0, 1) rfl
theorem dX7_firstBurns_106 : decode cX7_firstBurns 106 = .ok (.getfield 7, 3) := ax_dec dX7_firstBurns_q1_ok 27 (106, .getfield 7, 3) rfl
theorem dX7_firstBurns_109 : decode cX7_firstBurns 109 = .ok (.iload 9, 2) := ax_dec dX7_firstBurns_q1_ok 28 (109, .iload 9, 2) rfl
theorem dX7_firstBurns_111 : decode cX7_firstBurns 111 = .ok (.iaload, 1) := ax_dec dX7_firstBurns_q1_ok 29 (111, .iaload, 1) rfl
theorem dX7_firstBurns_112 : decode cX7_firstBurns 112 = .ok (.istore 9, 2) := ax_dec dX7_firstBurns_q1_ok 30 (112, .istore 9, 2) rfl
theorem dX7_firstBurns_114 : decode cX7_firstBurns 114 = .ok (.goto (-82), 3) := ax_dec dX7_firstBurns_q1_ok 31 (114, .goto (-82), 3) rfl
def dX7_firstBurns_q2 : List (Nat × (Instr × Nat)) := [(117, .iinc 8 1, 3), (120, .goto (-104), 3), (123, .aload_n 0, 1), (124, .invokevirtual 256, 3), (127, .iload 7, 2), (129, .ireturn, 1)]
set_option maxRecDepth 100000 in
theorem dX7_firstBurns_q2_ok : ax_decs cX7_firstBurns dX7_firstBurns_q2 = true := by decide +kernel
theorem dX7_firstBurns_117 : decode cX7_firstBurns 117 = .ok (.iinc 8 1, 3) := ax_dec dX7_firstBurns_q2_ok 0 (117, .iinc 8 1, 3) rfl
theorem dX7_firstBurns_120 : decode cX7_firstBurns 120 = .ok (.goto (-104), 3) := ax_dec dX7_firstBurns_q2_ok 1 (120, .goto (-104), 3) rfl
theorem dX7_firstBurns_123 : decode cX7_firstBurns 123 = .ok (.aload_n 0, 1) := ax_dec dX7_firstBurns_q2_ok 2 (123, .aload_n 0, 1) rfl
theorem dX7_firstBurns_124 : decode cX7_firstBurns 124 = .ok (.invokevirtual 256, 3) := ax_dec dX7_firstBurns_q2_ok 3 (124, .invokevirtual 256, 3) rfl
theorem dX7_firstBurns_127 : decode cX7_firstBurns 127 = .ok (.iload 7, 2) := ax_dec dX7_firstBurns_q2_ok 4 (127, .iload 7, 2) rfl
theorem dX7_firstBurns_129 : decode cX7_firstBurns 129 = .ok (.ireturn, 1) := ax_dec dX7_firstBurns_q2_ok 5 (129, .ireturn, 1) rfl
def dX7_isYear_q0 : List (Nat × (Instr × Nat)) := [(0, .iload_n 0, 1), (1, .iconst 0, 1), (2, .ldc_w 305, 3), (5, .invokestatic 87, 3), (8, .ifCond .eq 24, 3), (11, .iload_n 1, 1), (12, .iconst 0, 1), (13, .bipush 40, 2), (15, .invokestatic 87, 3), (18, .ifCond .eq 14, 3), (21, .iload_n 2, 1), (22, .invokestatic 229, 3), (25, .ifCond .eq 7, 3), (28, .iconst 1, 1), (29, .goto 4, 3), (32, .iconst 0, 1), (33, .ireturn, 1)]
set_option maxRecDepth 100000 in
theorem dX7_isYear_q0_ok : ax_decs cX7_isYear dX7_isYear_q0 = true := by decide +kernel
theorem dX7_isYear_0 : decode cX7_isYear 0 = .ok (.iload_n 0, 1) := ax_dec dX7_isYear_q0_ok 0 (0, .iload_n 0, 1) rfl
theorem dX7_isYear_1 : decode cX7_isYear 1 = .ok (.iconst 0, 1) := ax_dec dX7_isYear_q0_ok 1 (1, .iconst 0, 1) rfl
theorem dX7_isYear_2 : decode cX7_isYear 2 = .ok (.ldc_w 305, 3) := ax_dec dX7_isYear_q0_ok 2 (2, .ldc_w 305, 3) rfl
theorem dX7_isYear_5 : decode cX7_isYear 5 = .ok (.invokestatic 87, 3) := ax_dec dX7_isYear_q0_ok 3 (5, .invokestatic 87, 3) rfl
theorem dX7_isYear_8 : decode cX7_isYear 8 = .ok (.ifCond .eq 24, 3) := ax_dec dX7_isYear_q0_ok 4 (8, .ifCond .eq 24, 3) rfl
theorem dX7_isYear_11 : decode cX7_isYear 11 = .ok (.iload_n 1, 1) := ax_dec dX7_isYear_q0_ok 5 (11, .iload_n 1, 1) rfl
theorem dX7_isYear_12 : decode cX7_isYear 12 = .ok (.iconst 0, 1) := ax_dec dX7_isYear_q0_ok 6 (12, .iconst 0, 1) rfl
theorem dX7_isYear_13 : decode cX7_isYear 13 = .ok (.bipush 40, 2) := ax_dec dX7_isYear_q0_ok 7 (13, .bipush 40, 2) rfl
theorem dX7_isYear_15 : decode cX7_isYear 15 = .ok (.invokestatic 87, 3) := ax_dec dX7_isYear_q0_ok 8 (15, .invokestatic 87, 3) rfl
theorem dX7_isYear_18 : decode cX7_isYear 18 = .ok (.ifCond .eq 14, 3) := ax_dec dX7_isYear_q0_ok 9 (18, .ifCond .eq 14, 3) rfl
theorem dX7_isYear_21 : decode cX7_isYear 21 = .ok (.iload_n 2, 1) := ax_dec dX7_isYear_q0_ok 10 (21, .iload_n 2, 1) rfl
theorem dX7_isYear_22 : decode cX7_isYear 22 = .ok (.invokestatic 229, 3) := ax_dec dX7_isYear_q0_ok 11 (22, .invokestatic 229, 3) rfl
theorem dX7_isYear_25 : decode cX7_isYear 25 = .ok (.ifCond .eq 7, 3) := ax_dec dX7_isYear_q0_ok 12 (25, .ifCond .eq 7, 3) rfl
theorem dX7_isYear_28 : decode cX7_isYear 28 = .ok (.iconst 1, 1) := ax_dec dX7_isYear_q0_ok 13 (28, .iconst 1, 1) rfl
theorem dX7_isYear_29 : decode cX7_isYear 29 = .ok (.goto 4, 3) := ax_dec dX7_isYear_q0_ok 14 (29, .goto 4, 3) rfl
theorem dX7_isYear_32 : decode cX7_isYear 32 = .ok (.iconst 0, 1) := ax_dec dX7_isYear_q0_ok 15 (32, .iconst 0, 1) rfl
theorem dX7_isYear_33 : decode cX7_isYear 33 = .ok (.ireturn, 1) := ax_dec dX7_isYear_q0_ok 16 (33, .ireturn, 1) rfl
def dX7_drawn_q0 : List (Nat × (Instr × Nat)) := [(0, .aload_n 0, 1), (1, .iload_n 2, 1), (2, .invokevirtual 95, 3), (5, .ifCond .ne 6, 3), (8, .bipush (-5), 2), (10, .ireturn, 1), (11, .iload_n 1, 1), (12, .iload_n 3, 1), (13, .iload 4, 2), (15, .invokestatic 306, 3), (18, .ifCond .eq 15, 3), (21, .aload_n 0, 1), (22, .iload_n 1, 1), (23, .iload_n 2, 1), (24, .iload_n 3, 1), (25, .iload 4, 2), (27, .invokevirtual 309, 3), (30, .goto 5, 3), (33, .bipush (-7), 2), (35, .ireturn, 1)]
set_option maxRecDepth 100000 in
theorem dX7_drawn_q0_ok : ax_decs cX7_drawn dX7_drawn_q0 = true := by decide +kernel
theorem dX7_drawn_0 : decode cX7_drawn 0 = .ok (.aload_n 0, 1) := ax_dec dX7_drawn_q0_ok 0 (0, .aload_n 0, 1) rfl
theorem dX7_drawn_1 : decode cX7_drawn 1 = .ok (.iload_n 2, 1) := ax_dec dX7_drawn_q0_ok 1 (1, .iload_n 2, 1) rfl
theorem dX7_drawn_2 : decode cX7_drawn 2 = .ok (.invokevirtual 95, 3) := ax_dec dX7_drawn_q0_ok 2 (2, .invokevirtual 95, 3) rfl
theorem dX7_drawn_5 : decode cX7_drawn 5 = .ok (.ifCond .ne 6, 3) := ax_dec dX7_drawn_q0_ok 3 (5, .ifCond .ne 6, 3) rfl
theorem dX7_drawn_8 : decode cX7_drawn 8 = .ok (.bipush (-5), 2) := ax_dec dX7_drawn_q0_ok 4 (8, .bipush (-5), 2) rfl
theorem dX7_drawn_10 : decode cX7_drawn 10 = .ok (.ireturn, 1) := ax_dec dX7_drawn_q0_ok 5 (10, .ireturn, 1) rfl
theorem dX7_drawn_11 : decode cX7_drawn 11 = .ok (.iload_n 1, 1) := ax_dec dX7_drawn_q0_ok 6 (11, .iload_n 1, 1) rfl
theorem dX7_drawn_12 : decode cX7_drawn 12 = .ok (.iload_n 3, 1) := ax_dec dX7_drawn_q0_ok 7 (12, .iload_n 3, 1) rfl
theorem dX7_drawn_13 : decode cX7_drawn 13 = .ok (.iload 4, 2) := ax_dec dX7_drawn_q0_ok 8 (13, .iload 4, 2) rfl
theorem dX7_drawn_15 : decode cX7_drawn 15 = .ok (.invokestatic 306, 3) := ax_dec dX7_drawn_q0_ok 9 (15, .invokestatic 306, 3) rfl
theorem dX7_drawn_18 : decode cX7_drawn 18 = .ok (.ifCond .eq 15, 3) := ax_dec dX7_drawn_q0_ok 10 (18, .ifCond .eq 15, 3) rfl
theorem dX7_drawn_21 : decode cX7_drawn 21 = .ok (.aload_n 0, 1) := ax_dec dX7_drawn_q0_ok 11 (21, .aload_n 0, 1) rfl
theorem dX7_drawn_22 : decode cX7_drawn 22 = .ok (.iload_n 1, 1) := ax_dec dX7_drawn_q0_ok 12 (22, .iload_n 1, 1) rfl
theorem dX7_drawn_23 : decode cX7_drawn 23 = .ok (.iload_n 2, 1) := ax_dec dX7_drawn_q0_ok 13 (23, .iload_n 2, 1) rfl
theorem dX7_drawn_24 : decode cX7_drawn 24 = .ok (.iload_n 3, 1) := ax_dec dX7_drawn_q0_ok 14 (24, .iload_n 3, 1) rfl
theorem dX7_drawn_25 : decode cX7_drawn 25 = .ok (.iload 4, 2) := ax_dec dX7_drawn_q0_ok 15 (25, .iload 4, 2) rfl
theorem dX7_drawn_27 : decode cX7_drawn 27 = .ok (.invokevirtual 309, 3) := ax_dec dX7_drawn_q0_ok 16 (27, .invokevirtual 309, 3) rfl
theorem dX7_drawn_30 : decode cX7_drawn 30 = .ok (.goto 5, 3) := ax_dec dX7_drawn_q0_ok 17 (30, .goto 5, 3) rfl
theorem dX7_drawn_33 : decode cX7_drawn 33 = .ok (.bipush (-7), 2) := ax_dec dX7_drawn_q0_ok 18 (33, .bipush (-7), 2) rfl
theorem dX7_drawn_35 : decode cX7_drawn 35 = .ok (.ireturn, 1) := ax_dec dX7_drawn_q0_ok 19 (35, .ireturn, 1) rfl
def dX7_lowest_q0 : List (Nat × (Instr × Nat)) := [(0, .lload_n 0, 1), (1, .lconst 0, 1), (2, .lcmp, 1), (3, .ifCond .ne 7, 3), (6, .iload 4, 2), (8, .i2l, 1), (9, .lreturn, 1), (10, .lload_n 0, 1), (11, .lstore 5, 2), (13, .lload_n 2, 1), (14, .lstore 7, 2), (16, .lload 7, 2), (18, .lconst 0, 1), (19, .lcmp, 1), (20, .ifCond .eq 21, 3), (23, .lload 5, 2), (25, .lload 7, 2), (27, .lrem, 1), (28, .lstore 9, 2), (30, .lload 7, 2), (32, .lstore 5, 2), (34, .lload 9, 2), (36, .lstore 7, 2), (38, .goto (-22), 3), (41, .iload 4, 2), (43, .ifCond .ne 7, 3), (46, .lload_n 0, 1), (47, .goto 4, 3), (50, .lload_n 2, 1), (51, .lload 5, 2), (53, .ldiv, 1), (54, .lreturn, 1)]
set_option maxRecDepth 100000 in
theorem dX7_lowest_q0_ok : ax_decs cX7_lowest dX7_lowest_q0 = true := by decide +kernel
theorem dX7_lowest_0 : decode cX7_lowest 0 = .ok (.lload_n 0, 1) := ax_dec dX7_lowest_q0_ok 0 (0, .lload_n 0, 1) rfl
theorem dX7_lowest_1 : decode cX7_lowest 1 = .ok (.lconst 0, 1) := ax_dec dX7_lowest_q0_ok 1 (1, .lconst 0, 1) rfl
theorem dX7_lowest_2 : decode cX7_lowest 2 = .ok (.lcmp, 1) := ax_dec dX7_lowest_q0_ok 2 (2, .lcmp, 1) rfl
theorem dX7_lowest_3 : decode cX7_lowest 3 = .ok (.ifCond .ne 7, 3) := ax_dec dX7_lowest_q0_ok 3 (3, .ifCond .ne 7, 3) rfl
theorem dX7_lowest_6 : decode cX7_lowest 6 = .ok (.iload 4, 2) := ax_dec dX7_lowest_q0_ok 4 (6, .iload 4, 2) rfl
theorem dX7_lowest_8 : decode cX7_lowest 8 = .ok (.i2l, 1) := ax_dec dX7_lowest_q0_ok 5 (8, .i2l, 1) rfl
theorem dX7_lowest_9 : decode cX7_lowest 9 = .ok (.lreturn, 1) := ax_dec dX7_lowest_q0_ok 6 (9, .lreturn, 1) rfl
theorem dX7_lowest_10 : decode cX7_lowest 10 = .ok (.lload_n 0, 1) := ax_dec dX7_lowest_q0_ok 7 (10, .lload_n 0, 1) rfl
theorem dX7_lowest_11 : decode cX7_lowest 11 = .ok (.lstore 5, 2) := ax_dec dX7_lowest_q0_ok 8 (11, .lstore 5, 2) rfl
theorem dX7_lowest_13 : decode cX7_lowest 13 = .ok (.lload_n 2, 1) := ax_dec dX7_lowest_q0_ok 9 (13, .lload_n 2, 1) rfl
theorem dX7_lowest_14 : decode cX7_lowest 14 = .ok (.lstore 7, 2) := ax_dec dX7_lowest_q0_ok 10 (14, .lstore 7, 2) rfl
theorem dX7_lowest_16 : decode cX7_lowest 16 = .ok (.lload 7, 2) := ax_dec dX7_lowest_q0_ok 11 (16, .lload 7, 2) rfl
theorem dX7_lowest_18 : decode cX7_lowest 18 = .ok (.lconst 0, 1) := ax_dec dX7_lowest_q0_ok 12 (18, .lconst 0, 1) rfl
theorem dX7_lowest_19 : decode cX7_lowest 19 = .ok (.lcmp, 1) := ax_dec dX7_lowest_q0_ok 13 (19, .lcmp, 1) rfl
theorem dX7_lowest_20 : decode cX7_lowest 20 = .ok (.ifCond .eq 21, 3) := ax_dec dX7_lowest_q0_ok 14 (20, .ifCond .eq 21, 3) rfl
theorem dX7_lowest_23 : decode cX7_lowest 23 = .ok (.lload 5, 2) := ax_dec dX7_lowest_q0_ok 15 (23, .lload 5, 2) rfl
theorem dX7_lowest_25 : decode cX7_lowest 25 = .ok (.lload 7, 2) := ax_dec dX7_lowest_q0_ok 16 (25, .lload 7, 2) rfl
theorem dX7_lowest_27 : decode cX7_lowest 27 = .ok (.lrem, 1) := ax_dec dX7_lowest_q0_ok 17 (27, .lrem, 1) rfl
theorem dX7_lowest_28 : decode cX7_lowest 28 = .ok (.lstore 9, 2) := ax_dec dX7_lowest_q0_ok 18 (28, .lstore 9, 2) rfl
theorem dX7_lowest_30 : decode cX7_lowest 30 = .ok (.lload 7, 2) := ax_dec dX7_lowest_q0_ok 19 (30, .lload 7, 2) rfl
theorem dX7_lowest_32 : decode cX7_lowest 32 = .ok (.lstore 5, 2) := ax_dec dX7_lowest_q0_ok 20 (32, .lstore 5, 2) rfl
theorem dX7_lowest_34 : decode cX7_lowest 34 = .ok (.lload 9, 2) := ax_dec dX7_lowest_q0_ok 21 (34, .lload 9, 2) rfl
theorem dX7_lowest_36 : decode cX7_lowest 36 = .ok (.lstore 7, 2) := ax_dec dX7_lowest_q0_ok 22 (36, .lstore 7, 2) rfl
theorem dX7_lowest_38 : decode cX7_lowest 38 = .ok (.goto (-22), 3) := ax_dec dX7_lowest_q0_ok 23 (38, .goto (-22), 3) rfl
theorem dX7_lowest_41 : decode cX7_lowest 41 = .ok (.iload 4, 2) := ax_dec dX7_lowest_q0_ok 24 (41, .iload 4, 2) rfl
theorem dX7_lowest_43 : decode cX7_lowest 43 = .ok (.ifCond .ne 7, 3) := ax_dec dX7_lowest_q0_ok 25 (43, .ifCond .ne 7, 3) rfl
theorem dX7_lowest_46 : decode cX7_lowest 46 = .ok (.lload_n 0, 1) := ax_dec dX7_lowest_q0_ok 26 (46, .lload_n 0, 1) rfl
theorem dX7_lowest_47 : decode cX7_lowest 47 = .ok (.goto 4, 3) := ax_dec dX7_lowest_q0_ok 27 (47, .goto 4, 3) rfl
theorem dX7_lowest_50 : decode cX7_lowest 50 = .ok (.lload_n 2, 1) := ax_dec dX7_lowest_q0_ok 28 (50, .lload_n 2, 1) rfl
theorem dX7_lowest_51 : decode cX7_lowest 51 = .ok (.lload 5, 2) := ax_dec dX7_lowest_q0_ok 29 (51, .lload 5, 2) rfl
theorem dX7_lowest_53 : decode cX7_lowest 53 = .ok (.ldiv, 1) := ax_dec dX7_lowest_q0_ok 30 (53, .ldiv, 1) rfl
theorem dX7_lowest_54 : decode cX7_lowest 54 = .ok (.lreturn, 1) := ax_dec dX7_lowest_q0_ok 31 (54, .lreturn, 1) rfl
def dX7_odds_q0 : List (Nat × (Instr × Nat)) := [(0, .aload_n 0, 1), (1, .iload_n 2, 1), (2, .invokevirtual 95, 3), (5, .ifCond .eq 23, 3), (8, .iload_n 1, 1), (9, .iload_n 3, 1), (10, .iload 4, 2), (12, .invokestatic 306, 3), (15, .ifCond .eq 13, 3), (18, .iload 5, 2), (20, .iconst 0, 1), (21, .iconst 1, 1), (22, .invokestatic 87, 3), (25, .ifCond .ne 7, 3), (28, .ldc2_w 245, 3), (31, .lreturn, 1), (32, .lconst 0, 1), (33, .lstore 6, 2), (35, .iconst 0, 1), (36, .istore 8, 2), (38, .iload 8, 2), (40, .bipush 20, 2), (42, .if_icmp .ge 35, 3), (45, .lload 6, 2), (47, .aload_n 0, 1), (48, .iload_n 1, 1), (49, .iload 8, 2), (51, .iadd, 1), (52, .iload_n 2, 1), (53, .iload_n 3, 1), (54, .iload 4, 2), (56, .invokevirtual 309, 3)]
set_option maxRecDepth 100000 in
theorem dX7_odds_q0_ok : ax_decs cX7_odds dX7_odds_q0 = true := by decide +kernel
theorem dX7_odds_0 : decode cX7_odds 0 = .ok (.aload_n 0, 1) := ax_dec dX7_odds_q0_ok 0 (0, .aload_n 0, 1) rfl
theorem dX7_odds_1 : decode cX7_odds 1 = .ok (.iload_n 2, 1) := ax_dec dX7_odds_q0_ok 1 (1, .iload_n 2, 1) rfl
theorem dX7_odds_2 : decode cX7_odds 2 = .ok (.invokevirtual 95, 3) := ax_dec dX7_odds_q0_ok 2 (2, .invokevirtual 95, 3) rfl
theorem dX7_odds_5 : decode cX7_odds 5 = .ok (.ifCond .eq 23, 3) := ax_dec dX7_odds_q0_ok 3 (5, .ifCond .eq 23, 3) rfl
theorem dX7_odds_8 : decode cX7_odds 8 = .ok (.iload_n 1, 1) := ax_dec dX7_odds_q0_ok 4 (8, .iload_n 1, 1) rfl
theorem dX7_odds_9 : decode cX7_odds 9 = .ok (.iload_n 3, 1) := ax_dec dX7_odds_q0_ok 5 (9, .iload_n 3, 1) rfl
theorem dX7_odds_10 : decode cX7_odds 10 = .ok (.iload 4, 2) := ax_dec dX7_odds_q0_ok 6 (10, .iload 4, 2) rfl
theorem dX7_odds_12 : decode cX7_odds 12 = .ok (.invokestatic 306, 3) := ax_dec dX7_odds_q0_ok 7 (12, .invokestatic 306, 3) rfl
theorem dX7_odds_15 : decode cX7_odds 15 = .ok (.ifCond .eq 13, 3) := ax_dec dX7_odds_q0_ok 8 (15, .ifCond .eq 13, 3) rfl
theorem dX7_odds_18 : decode cX7_odds 18 = .ok (.iload 5, 2) := ax_dec dX7_odds_q0_ok 9 (18, .iload 5, 2) rfl
theorem dX7_odds_20 : decode cX7_odds 20 = .ok (.iconst 0, 1) := ax_dec dX7_odds_q0_ok 10 (20, .iconst 0, 1) rfl
theorem dX7_odds_21 : decode cX7_odds 21 = .ok (.iconst 1, 1) := ax_dec dX7_odds_q0_ok 11 (21, .iconst 1, 1) rfl
theorem dX7_odds_22 : decode cX7_odds 22 = .ok (.invokestatic 87, 3) := ax_dec dX7_odds_q0_ok 12 (22, .invokestatic 87, 3) rfl
theorem dX7_odds_25 : decode cX7_odds 25 = .ok (.ifCond .ne 7, 3) := ax_dec dX7_odds_q0_ok 13 (25, .ifCond .ne 7, 3) rfl
theorem dX7_odds_28 : decode cX7_odds 28 = .ok (.ldc2_w 245, 3) := ax_dec dX7_odds_q0_ok 14 (28, .ldc2_w 245, 3) rfl
theorem dX7_odds_31 : decode cX7_odds 31 = .ok (.lreturn, 1) := ax_dec dX7_odds_q0_ok 15 (31, .lreturn, 1) rfl
theorem dX7_odds_32 : decode cX7_odds 32 = .ok (.lconst 0, 1) := ax_dec dX7_odds_q0_ok 16 (32, .lconst 0, 1) rfl
theorem dX7_odds_33 : decode cX7_odds 33 = .ok (.lstore 6, 2) := ax_dec dX7_odds_q0_ok 17 (33, .lstore 6, 2) rfl
theorem dX7_odds_35 : decode cX7_odds 35 = .ok (.iconst 0, 1) := ax_dec dX7_odds_q0_ok 18 (35, .iconst 0, 1) rfl
theorem dX7_odds_36 : decode cX7_odds 36 = .ok (.istore 8, 2) := ax_dec dX7_odds_q0_ok 19 (36, .istore 8, 2) rfl
theorem dX7_odds_38 : decode cX7_odds 38 = .ok (.iload 8, 2) := ax_dec dX7_odds_q0_ok 20 (38, .iload 8, 2) rfl
theorem dX7_odds_40 : decode cX7_odds 40 = .ok (.bipush 20, 2) := ax_dec dX7_odds_q0_ok 21 (40, .bipush 20, 2) rfl
theorem dX7_odds_42 : decode cX7_odds 42 = .ok (.if_icmp .ge 35, 3) := ax_dec dX7_odds_q0_ok 22 (42, .if_icmp .ge 35, 3) rfl
theorem dX7_odds_45 : decode cX7_odds 45 = .ok (.lload 6, 2) := ax_dec dX7_odds_q0_ok 23 (45, .lload 6, 2) rfl
theorem dX7_odds_47 : decode cX7_odds 47 = .ok (.aload_n 0, 1) := ax_dec dX7_odds_q0_ok 24 (47, .aload_n 0, 1) rfl
theorem dX7_odds_48 : decode cX7_odds 48 = .ok (.iload_n 1, 1) := ax_dec dX7_odds_q0_ok 25 (48, .iload_n 1, 1) rfl
theorem dX7_odds_49 : decode cX7_odds 49 = .ok (.iload 8, 2) := ax_dec dX7_odds_q0_ok 26 (49, .iload 8, 2) rfl
theorem dX7_odds_51 : decode cX7_odds 51 = .ok (.iadd, 1) := ax_dec dX7_odds_q0_ok 27 (51, .iadd, 1) rfl
theorem dX7_odds_52 : decode cX7_odds 52 = .ok (.iload_n 2, 1) := ax_dec dX7_odds_q0_ok 28 (52, .iload_n 2, 1) rfl
theorem dX7_odds_53 : decode cX7_odds 53 = .ok (.iload_n 3, 1) := ax_dec dX7_odds_q0_ok 29 (53, .iload_n 3, 1) rfl
theorem dX7_odds_54 : decode cX7_odds 54 = .ok (.iload 4, 2) := ax_dec dX7_odds_q0_ok 30 (54, .iload 4, 2) rfl
theorem dX7_odds_56 : decode cX7_odds 56 = .ok (.invokevirtual 309, 3) := ax_dec dX7_odds_q0_ok 31 (56, .invokevirtual 309, 3) rfl
def dX7_odds_q1 : List (Nat × (Instr × Nat)) := [(59, .iconst (-1), 1), (60, .if_icmp .ne 7, 3), (63, .lconst 1, 1), (64, .goto 4, 3), (67, .lconst 0, 1), (68, .ladd, 1), (69, .lstore 6, 2), (71, .iinc 8 1, 3), (74, .goto (-36), 3), (77, .lload 6, 2), (79, .ldc2_w 312, 3), (82, .iload 5, 2), (84, .invokestatic 314, 3), (87, .lreturn, 1)]
set_option maxRecDepth 100000 in
theorem dX7_odds_q1_ok : ax_decs cX7_odds dX7_odds_q1 = true := by decide +kernel
theorem dX7_odds_59 : decode cX7_odds 59 = .ok (.iconst (-1), 1) := ax_dec dX7_odds_q1_ok 0 (59, .iconst (-1), 1) rfl
theorem dX7_odds_60 : decode cX7_odds 60 = .ok (.if_icmp .ne 7, 3) := ax_dec dX7_odds_q1_ok 1 (60, .if_icmp .ne 7, 3) rfl
theorem dX7_odds_63 : decode cX7_odds 63 = .ok (.lconst 1, 1) := ax_dec dX7_odds_q1_ok 2 (63, .lconst 1, 1) rfl
theorem dX7_odds_64 : decode cX7_odds 64 = .ok (.goto 4, 3) := ax_dec dX7_odds_q1_ok 3 (64, .goto 4, 3) rfl
theorem dX7_odds_67 : decode cX7_odds 67 = .ok (.lconst 0, 1) := ax_dec dX7_odds_q1_ok 4 (67, .lconst 0, 1) rfl
theorem dX7_odds_68 : decode cX7_odds 68 = .ok (.ladd, 1) := ax_dec dX7_odds_q1_ok 5 (68, .ladd, 1) rfl
theorem dX7_odds_69 : decode cX7_odds 69 = .ok (.lstore 6, 2) := ax_dec dX7_odds_q1_ok 6 (69, .lstore 6, 2) rfl
theorem dX7_odds_71 : decode cX7_odds 71 = .ok (.iinc 8 1, 3) := ax_dec dX7_odds_q1_ok 7 (71, .iinc 8 1, 3) rfl
theorem dX7_odds_74 : decode cX7_odds 74 = .ok (.goto (-36), 3) := ax_dec dX7_odds_q1_ok 8 (74, .goto (-36), 3) rfl
theorem dX7_odds_77 : decode cX7_odds 77 = .ok (.lload 6, 2) := ax_dec dX7_odds_q1_ok 9 (77, .lload 6, 2) rfl
theorem dX7_odds_79 : decode cX7_odds 79 = .ok (.ldc2_w 312, 3) := ax_dec dX7_odds_q1_ok 10 (79, .ldc2_w 312, 3) rfl
theorem dX7_odds_82 : decode cX7_odds 82 = .ok (.iload 5, 2) := ax_dec dX7_odds_q1_ok 11 (82, .iload 5, 2) rfl
theorem dX7_odds_84 : decode cX7_odds 84 = .ok (.invokestatic 314, 3) := ax_dec dX7_odds_q1_ok 12 (84, .invokestatic 314, 3) rfl
theorem dX7_odds_87 : decode cX7_odds 87 = .ok (.lreturn, 1) := ax_dec dX7_odds_q1_ok 13 (87, .lreturn, 1) rfl
def dX7_image_q0 : List (Nat × (Instr × Nat)) := [(0, .aload_n 0, 1), (1, .iconst 1, 1), (2, .putfield 318, 3), (5, .aload_n 0, 1), (6, .aload_n 0, 1), (7, .getfield 84, 3), (10, .putfield 322, 3), (13, .aload_n 0, 1), (14, .aload_n 0, 1), (15, .getfield 111, 3), (18, .putfield 325, 3), (21, .iconst 0, 1), (22, .istore_n 1, 1), (23, .iload_n 1, 1), (24, .bipush 10, 2), (26, .if_icmp .ge 51, 3), (29, .aload_n 0, 1), (30, .getfield 40, 3), (33, .iload_n 1, 1), (34, .aload_n 0, 1), (35, .getfield 28, 3), (38, .iload_n 1, 1), (39, .iaload, 1), (40, .iastore, 1), (41, .aload_n 0, 1), (42, .getfield 40, 3), (45, .bipush 10, 2), (47, .iload_n 1, 1), (48, .iadd, 1), (49, .aload_n 0, 1), (50, .getfield 13, 3), (53, .iload_n 1, 1)]
set_option maxRecDepth 100000 in
theorem dX7_image_q0_ok : ax_decs cX7_image dX7_image_q0 = true := by decide +kernel
theorem dX7_image_0 : decode cX7_image 0 = .ok (.aload_n 0, 1) := ax_dec dX7_image_q0_ok 0 (0, .aload_n 0, 1) rfl
theorem dX7_image_1 : decode cX7_image 1 = .ok (.iconst 1, 1) := ax_dec dX7_image_q0_ok 1 (1, .iconst 1, 1) rfl
theorem dX7_image_2 : decode cX7_image 2 = .ok (.putfield 318, 3) := ax_dec dX7_image_q0_ok 2 (2, .putfield 318, 3) rfl
theorem dX7_image_5 : decode cX7_image 5 = .ok (.aload_n 0, 1) := ax_dec dX7_image_q0_ok 3 (5, .aload_n 0, 1) rfl
theorem dX7_image_6 : decode cX7_image 6 = .ok (.aload_n 0, 1) := ax_dec dX7_image_q0_ok 4 (6, .aload_n 0, 1) rfl
theorem dX7_image_7 : decode cX7_image 7 = .ok (.getfield 84, 3) := ax_dec dX7_image_q0_ok 5 (7, .getfield 84, 3) rfl
theorem dX7_image_10 : decode cX7_image 10 = .ok (.putfield 322, 3) := ax_dec dX7_image_q0_ok 6 (10, .putfield 322, 3) rfl
theorem dX7_image_13 : decode cX7_image 13 = .ok (.aload_n 0, 1) := ax_dec dX7_image_q0_ok 7 (13, .aload_n 0, 1) rfl
theorem dX7_image_14 : decode cX7_image 14 = .ok (.aload_n 0, 1) := ax_dec dX7_image_q0_ok 8 (14, .aload_n 0, 1) rfl
theorem dX7_image_15 : decode cX7_image 15 = .ok (.getfield 111, 3) := ax_dec dX7_image_q0_ok 9 (15, .getfield 111, 3) rfl
theorem dX7_image_18 : decode cX7_image 18 = .ok (.putfield 325, 3) := ax_dec dX7_image_q0_ok 10 (18, .putfield 325, 3) rfl
theorem dX7_image_21 : decode cX7_image 21 = .ok (.iconst 0, 1) := ax_dec dX7_image_q0_ok 11 (21, .iconst 0, 1) rfl
theorem dX7_image_22 : decode cX7_image 22 = .ok (.istore_n 1, 1) := ax_dec dX7_image_q0_ok 12 (22, .istore_n 1, 1) rfl
theorem dX7_image_23 : decode cX7_image 23 = .ok (.iload_n 1, 1) := ax_dec dX7_image_q0_ok 13 (23, .iload_n 1, 1) rfl
theorem dX7_image_24 : decode cX7_image 24 = .ok (.bipush 10, 2) := ax_dec dX7_image_q0_ok 14 (24, .bipush 10, 2) rfl
theorem dX7_image_26 : decode cX7_image 26 = .ok (.if_icmp .ge 51, 3) := ax_dec dX7_image_q0_ok 15 (26, .if_icmp .ge 51, 3) rfl
theorem dX7_image_29 : decode cX7_image 29 = .ok (.aload_n 0, 1) := ax_dec dX7_image_q0_ok 16 (29, .aload_n 0, 1) rfl
theorem dX7_image_30 : decode cX7_image 30 = .ok (.getfield 40, 3) := ax_dec dX7_image_q0_ok 17 (30, .getfield 40, 3) rfl
theorem dX7_image_33 : decode cX7_image 33 = .ok (.iload_n 1, 1) := ax_dec dX7_image_q0_ok 18 (33, .iload_n 1, 1) rfl
theorem dX7_image_34 : decode cX7_image 34 = .ok (.aload_n 0, 1) := ax_dec dX7_image_q0_ok 19 (34, .aload_n 0, 1) rfl
theorem dX7_image_35 : decode cX7_image 35 = .ok (.getfield 28, 3) := ax_dec dX7_image_q0_ok 20 (35, .getfield 28, 3) rfl
theorem dX7_image_38 : decode cX7_image 38 = .ok (.iload_n 1, 1) := ax_dec dX7_image_q0_ok 21 (38, .iload_n 1, 1) rfl
theorem dX7_image_39 : decode cX7_image 39 = .ok (.iaload, 1) := ax_dec dX7_image_q0_ok 22 (39, .iaload, 1) rfl
theorem dX7_image_40 : decode cX7_image 40 = .ok (.iastore, 1) := ax_dec dX7_image_q0_ok 23 (40, .iastore, 1) rfl
theorem dX7_image_41 : decode cX7_image 41 = .ok (.aload_n 0, 1) := ax_dec dX7_image_q0_ok 24 (41, .aload_n 0, 1) rfl
theorem dX7_image_42 : decode cX7_image 42 = .ok (.getfield 40, 3) := ax_dec dX7_image_q0_ok 25 (42, .getfield 40, 3) rfl
theorem dX7_image_45 : decode cX7_image 45 = .ok (.bipush 10, 2) := ax_dec dX7_image_q0_ok 26 (45, .bipush 10, 2) rfl
theorem dX7_image_47 : decode cX7_image 47 = .ok (.iload_n 1, 1) := ax_dec dX7_image_q0_ok 27 (47, .iload_n 1, 1) rfl
theorem dX7_image_48 : decode cX7_image 48 = .ok (.iadd, 1) := ax_dec dX7_image_q0_ok 28 (48, .iadd, 1) rfl
theorem dX7_image_49 : decode cX7_image 49 = .ok (.aload_n 0, 1) := ax_dec dX7_image_q0_ok 29 (49, .aload_n 0, 1) rfl
theorem dX7_image_50 : decode cX7_image 50 = .ok (.getfield 13, 3) := ax_dec dX7_image_q0_ok 30 (50, .getfield 13, 3) rfl
theorem dX7_image_53 : decode cX7_image 53 = .ok (.iload_n 1, 1) := ax_dec dX7_image_q0_ok 31 (53, .iload_n 1, 1) rfl
def dX7_image_q1 : List (Nat × (Instr × Nat)) := [(54, .iaload, 1), (55, .iastore, 1), (56, .aload_n 0, 1), (57, .getfield 40, 3), (60, .bipush 20, 2), (62, .iload_n 1, 1), (63, .iadd, 1), (64, .aload_n 0, 1), (65, .getfield 25, 3), (68, .iload_n 1, 1), (69, .iaload, 1), (70, .iastore, 1), (71, .iinc 1 1, 3), (74, .goto (-51), 3), (77, .aload_n 0, 1), (78, .getfield 84, 3), (81, .ireturn, 1)]
set_option maxRecDepth 100000 in
theorem dX7_image_q1_ok : ax_decs cX7_image dX7_image_q1 = true := by decide +kernel
theorem dX7_image_54 : decode cX7_image 54 = .ok (.iaload, 1) := ax_dec dX7_image_q1_ok 0 (54, .iaload, 1) rfl
theorem dX7_image_55 : decode cX7_image 55 = .ok (.iastore, 1) := ax_dec dX7_image_q1_ok 1 (55, .iastore, 1) rfl
theorem dX7_image_56 : decode cX7_image 56 = .ok (.aload_n 0, 1) := ax_dec dX7_image_q1_ok 2 (56, .aload_n 0, 1) rfl
theorem dX7_image_57 : decode cX7_image 57 = .ok (.getfield 40, 3) := ax_dec dX7_image_q1_ok 3 (57, .getfield 40, 3) rfl
theorem dX7_image_60 : decode cX7_image 60 = .ok (.bipush 20, 2) := ax_dec dX7_image_q1_ok 4 (60, .bipush 20, 2) rfl
theorem dX7_image_62 : decode cX7_image 62 = .ok (.iload_n 1, 1) := ax_dec dX7_image_q1_ok 5 (62, .iload_n 1, 1) rfl
theorem dX7_image_63 : decode cX7_image 63 = .ok (.iadd, 1) := ax_dec dX7_image_q1_ok 6 (63, .iadd, 1) rfl
theorem dX7_image_64 : decode cX7_image 64 = .ok (.aload_n 0, 1) := ax_dec dX7_image_q1_ok 7 (64, .aload_n 0, 1) rfl
theorem dX7_image_65 : decode cX7_image 65 = .ok (.getfield 25, 3) := ax_dec dX7_image_q1_ok 8 (65, .getfield 25, 3) rfl
theorem dX7_image_68 : decode cX7_image 68 = .ok (.iload_n 1, 1) := ax_dec dX7_image_q1_ok 9 (68, .iload_n 1, 1) rfl
theorem dX7_image_69 : decode cX7_image 69 = .ok (.iaload, 1) := ax_dec dX7_image_q1_ok 10 (69, .iaload, 1) rfl
theorem dX7_image_70 : decode cX7_image 70 = .ok (.iastore, 1) := ax_dec dX7_image_q1_ok 11 (70, .iastore, 1) rfl
theorem dX7_image_71 : decode cX7_image 71 = .ok (.iinc 1 1, 3) := ax_dec dX7_image_q1_ok 12 (71, .iinc 1 1, 3) rfl
theorem dX7_image_74 : decode cX7_image 74 = .ok (.goto (-51), 3) := ax_dec dX7_image_q1_ok 13 (74, .goto (-51), 3) rfl
theorem dX7_image_77 : decode cX7_image 77 = .ok (.aload_n 0, 1) := ax_dec dX7_image_q1_ok 14 (77, .aload_n 0, 1) rfl
theorem dX7_image_78 : decode cX7_image 78 = .ok (.getfield 84, 3) := ax_dec dX7_image_q1_ok 15 (78, .getfield 84, 3) rfl
theorem dX7_image_81 : decode cX7_image 81 = .ok (.ireturn, 1) := ax_dec dX7_image_q1_ok 16 (81, .ireturn, 1) rfl
def dX7_back_q0 : List (Nat × (Instr × Nat)) := [(0, .aload_n 0, 1), (1, .getfield 318, 3), (4, .ifCond .ne 6, 3), (7, .bipush (-3), 2), (9, .ireturn, 1), (10, .aload_n 0, 1), (11, .aload_n 0, 1), (12, .getfield 322, 3), (15, .putfield 84, 3), (18, .aload_n 0, 1), (19, .aload_n 0, 1), (20, .getfield 325, 3), (23, .putfield 111, 3), (26, .iconst 0, 1), (27, .istore_n 1, 1), (28, .iload_n 1, 1), (29, .bipush 10, 2), (31, .if_icmp .ge 51, 3), (34, .aload_n 0, 1), (35, .getfield 28, 3), (38, .iload_n 1, 1), (39, .aload_n 0, 1), (40, .getfield 40, 3), (43, .iload_n 1, 1), (44, .iaload, 1), (45, .iastore, 1), (46, .aload_n 0, 1), (47, .getfield 13, 3), (50, .iload_n 1, 1), (51, .aload_n 0, 1), (52, .getfield 40, 3), (55, .bipush 10, 2)]
set_option maxRecDepth 100000 in
theorem dX7_back_q0_ok : ax_decs cX7_back dX7_back_q0 = true := by decide +kernel
theorem dX7_back_0 : decode cX7_back 0 = .ok (.aload_n 0, 1) := ax_dec dX7_back_q0_ok 0 (0, .aload_n 0, 1) rfl
theorem dX7_back_1 : decode cX7_back 1 = .ok (.getfield 318, 3) := ax_dec dX7_back_q0_ok 1 (1, .getfield 318, 3) rfl
theorem dX7_back_4 : decode cX7_back 4 = .ok (.ifCond .ne 6, 3) := ax_dec dX7_back_q0_ok 2 (4, .ifCond .ne 6, 3) rfl
theorem dX7_back_7 : decode cX7_back 7 = .ok (.bipush (-3), 2) := ax_dec dX7_back_q0_ok 3 (7, .bipush (-3), 2) rfl
theorem dX7_back_9 : decode cX7_back 9 = .ok (.ireturn, 1) := ax_dec dX7_back_q0_ok 4 (9, .ireturn, 1) rfl
theorem dX7_back_10 : decode cX7_back 10 = .ok (.aload_n 0, 1) := ax_dec dX7_back_q0_ok 5 (10, .aload_n 0, 1) rfl
theorem dX7_back_11 : decode cX7_back 11 = .ok (.aload_n 0, 1) := ax_dec dX7_back_q0_ok 6 (11, .aload_n 0, 1) rfl
theorem dX7_back_12 : decode cX7_back 12 = .ok (.getfield 322, 3) := ax_dec dX7_back_q0_ok 7 (12, .getfield 322, 3) rfl
theorem dX7_back_15 : decode cX7_back 15 = .ok (.putfield 84, 3) := ax_dec dX7_back_q0_ok 8 (15, .putfield 84, 3) rfl
theorem dX7_back_18 : decode cX7_back 18 = .ok (.aload_n 0, 1) := ax_dec dX7_back_q0_ok 9 (18, .aload_n 0, 1) rfl
theorem dX7_back_19 : decode cX7_back 19 = .ok (.aload_n 0, 1) := ax_dec dX7_back_q0_ok 10 (19, .aload_n 0, 1) rfl
theorem dX7_back_20 : decode cX7_back 20 = .ok (.getfield 325, 3) := ax_dec dX7_back_q0_ok 11 (20, .getfield 325, 3) rfl
theorem dX7_back_23 : decode cX7_back 23 = .ok (.putfield 111, 3) := ax_dec dX7_back_q0_ok 12 (23, .putfield 111, 3) rfl
theorem dX7_back_26 : decode cX7_back 26 = .ok (.iconst 0, 1) := ax_dec dX7_back_q0_ok 13 (26, .iconst 0, 1) rfl
theorem dX7_back_27 : decode cX7_back 27 = .ok (.istore_n 1, 1) := ax_dec dX7_back_q0_ok 14 (27, .istore_n 1, 1) rfl
theorem dX7_back_28 : decode cX7_back 28 = .ok (.iload_n 1, 1) := ax_dec dX7_back_q0_ok 15 (28, .iload_n 1, 1) rfl
theorem dX7_back_29 : decode cX7_back 29 = .ok (.bipush 10, 2) := ax_dec dX7_back_q0_ok 16 (29, .bipush 10, 2) rfl
theorem dX7_back_31 : decode cX7_back 31 = .ok (.if_icmp .ge 51, 3) := ax_dec dX7_back_q0_ok 17 (31, .if_icmp .ge 51, 3) rfl
theorem dX7_back_34 : decode cX7_back 34 = .ok (.aload_n 0, 1) := ax_dec dX7_back_q0_ok 18 (34, .aload_n 0, 1) rfl
theorem dX7_back_35 : decode cX7_back 35 = .ok (.getfield 28, 3) := ax_dec dX7_back_q0_ok 19 (35, .getfield 28, 3) rfl
theorem dX7_back_38 : decode cX7_back 38 = .ok (.iload_n 1, 1) := ax_dec dX7_back_q0_ok 20 (38, .iload_n 1, 1) rfl
theorem dX7_back_39 : decode cX7_back 39 = .ok (.aload_n 0, 1) := ax_dec dX7_back_q0_ok 21 (39, .aload_n 0, 1) rfl
theorem dX7_back_40 : decode cX7_back 40 = .ok (.getfield 40, 3) := ax_dec dX7_back_q0_ok 22 (40, .getfield 40, 3) rfl
theorem dX7_back_43 : decode cX7_back 43 = .ok (.iload_n 1, 1) := ax_dec dX7_back_q0_ok 23 (43, .iload_n 1, 1) rfl
theorem dX7_back_44 : decode cX7_back 44 = .ok (.iaload, 1) := ax_dec dX7_back_q0_ok 24 (44, .iaload, 1) rfl
theorem dX7_back_45 : decode cX7_back 45 = .ok (.iastore, 1) := ax_dec dX7_back_q0_ok 25 (45, .iastore, 1) rfl
theorem dX7_back_46 : decode cX7_back 46 = .ok (.aload_n 0, 1) := ax_dec dX7_back_q0_ok 26 (46, .aload_n 0, 1) rfl
theorem dX7_back_47 : decode cX7_back 47 = .ok (.getfield 13, 3) := ax_dec dX7_back_q0_ok 27 (47, .getfield 13, 3) rfl
theorem dX7_back_50 : decode cX7_back 50 = .ok (.iload_n 1, 1) := ax_dec dX7_back_q0_ok 28 (50, .iload_n 1, 1) rfl
theorem dX7_back_51 : decode cX7_back 51 = .ok (.aload_n 0, 1) := ax_dec dX7_back_q0_ok 29 (51, .aload_n 0, 1) rfl
theorem dX7_back_52 : decode cX7_back 52 = .ok (.getfield 40, 3) := ax_dec dX7_back_q0_ok 30 (52, .getfield 40, 3) rfl
theorem dX7_back_55 : decode cX7_back 55 = .ok (.bipush 10, 2) := ax_dec dX7_back_q0_ok 31 (55, .bipush 10, 2) rfl
def dX7_back_q1 : List (Nat × (Instr × Nat)) := [(57, .iload_n 1, 1), (58, .iadd, 1), (59, .iaload, 1), (60, .iastore, 1), (61, .aload_n 0, 1), (62, .getfield 25, 3), (65, .iload_n 1, 1), (66, .aload_n 0, 1), (67, .getfield 40, 3), (70, .bipush 20, 2), (72, .iload_n 1, 1), (73, .iadd, 1), (74, .iaload, 1), (75, .iastore, 1), (76, .iinc 1 1, 3), (79, .goto (-51), 3), (82, .aload_n 0, 1), (83, .getfield 84, 3), (86, .ireturn, 1)]
set_option maxRecDepth 100000 in
theorem dX7_back_q1_ok : ax_decs cX7_back dX7_back_q1 = true := by decide +kernel
theorem dX7_back_57 : decode cX7_back 57 = .ok (.iload_n 1, 1) := ax_dec dX7_back_q1_ok 0 (57, .iload_n 1, 1) rfl
theorem dX7_back_58 : decode cX7_back 58 = .ok (.iadd, 1) := ax_dec dX7_back_q1_ok 1 (58, .iadd, 1) rfl
theorem dX7_back_59 : decode cX7_back 59 = .ok (.iaload, 1) := ax_dec dX7_back_q1_ok 2 (59, .iaload, 1) rfl
theorem dX7_back_60 : decode cX7_back 60 = .ok (.iastore, 1) := ax_dec dX7_back_q1_ok 3 (60, .iastore, 1) rfl
theorem dX7_back_61 : decode cX7_back 61 = .ok (.aload_n 0, 1) := ax_dec dX7_back_q1_ok 4 (61, .aload_n 0, 1) rfl
theorem dX7_back_62 : decode cX7_back 62 = .ok (.getfield 25, 3) := ax_dec dX7_back_q1_ok 5 (62, .getfield 25, 3) rfl
theorem dX7_back_65 : decode cX7_back 65 = .ok (.iload_n 1, 1) := ax_dec dX7_back_q1_ok 6 (65, .iload_n 1, 1) rfl
theorem dX7_back_66 : decode cX7_back 66 = .ok (.aload_n 0, 1) := ax_dec dX7_back_q1_ok 7 (66, .aload_n 0, 1) rfl
theorem dX7_back_67 : decode cX7_back 67 = .ok (.getfield 40, 3) := ax_dec dX7_back_q1_ok 8 (67, .getfield 40, 3) rfl
theorem dX7_back_70 : decode cX7_back 70 = .ok (.bipush 20, 2) := ax_dec dX7_back_q1_ok 9 (70, .bipush 20, 2) rfl
theorem dX7_back_72 : decode cX7_back 72 = .ok (.iload_n 1, 1) := ax_dec dX7_back_q1_ok 10 (72, .iload_n 1, 1) rfl
theorem dX7_back_73 : decode cX7_back 73 = .ok (.iadd, 1) := ax_dec dX7_back_q1_ok 11 (73, .iadd, 1) rfl
theorem dX7_back_74 : decode cX7_back 74 = .ok (.iaload, 1) := ax_dec dX7_back_q1_ok 12 (74, .iaload, 1) rfl
theorem dX7_back_75 : decode cX7_back 75 = .ok (.iastore, 1) := ax_dec dX7_back_q1_ok 13 (75, .iastore, 1) rfl
theorem dX7_back_76 : decode cX7_back 76 = .ok (.iinc 1 1, 3) := ax_dec dX7_back_q1_ok 14 (76, .iinc 1 1, 3) rfl
theorem dX7_back_79 : decode cX7_back 79 = .ok (.goto (-51), 3) := ax_dec dX7_back_q1_ok 15 (79, .goto (-51), 3) rfl
theorem dX7_back_82 : decode cX7_back 82 = .ok (.aload_n 0, 1) := ax_dec dX7_back_q1_ok 16 (82, .aload_n 0, 1) rfl
theorem dX7_back_83 : decode cX7_back 83 = .ok (.getfield 84, 3) := ax_dec dX7_back_q1_ok 17 (83, .getfield 84, 3) rfl
theorem dX7_back_86 : decode cX7_back 86 = .ok (.ireturn, 1) := ax_dec dX7_back_q1_ok 18 (86, .ireturn, 1) rfl
def dX7_sheet_q0 : List (Nat × (Instr × Nat)) := [(0, .iload_n 1, 1), (1, .iconst 0, 1), (2, .iconst 3, 1), (3, .invokestatic 87, 3), (6, .ifCond .eq 23, 3), (9, .iload_n 2, 1), (10, .iconst (-1), 1), (11, .iconst 2, 1), (12, .invokestatic 87, 3), (15, .ifCond .eq 14, 3), (18, .iload_n 2, 1), (19, .iconst (-1), 1), (20, .if_icmp .eq 12, 3), (23, .iload_n 3, 1), (24, .bipush 40, 2), (26, .if_icmp .le 6, 3), (29, .bipush (-2), 2), (31, .ireturn, 1), (32, .iload_n 2, 1), (33, .iconst (-1), 1), (34, .if_icmp .eq 10, 3), (37, .iload_n 3, 1), (38, .ifCond .ge 6, 3), (41, .bipush (-14), 2), (43, .ireturn, 1), (44, .aload_n 0, 1), (45, .getfield 43, 3), (48, .iload_n 1, 1), (49, .iload_n 2, 1), (50, .iastore, 1), (51, .aload_n 0, 1), (52, .getfield 46, 3)]
set_option maxRecDepth 100000 in
theorem dX7_sheet_q0_ok : ax_decs cX7_sheet dX7_sheet_q0 = true := by decide +kernel
theorem dX7_sheet_0 : decode cX7_sheet 0 = .ok (.iload_n 1, 1) := ax_dec dX7_sheet_q0_ok 0 (0, .iload_n 1, 1) rfl
theorem dX7_sheet_1 : decode cX7_sheet 1 = .ok (.iconst 0, 1) := ax_dec dX7_sheet_q0_ok 1 (1, .iconst 0, 1) rfl
theorem dX7_sheet_2 : decode cX7_sheet 2 = .ok (.iconst 3, 1) := ax_dec dX7_sheet_q0_ok 2 (2, .iconst 3, 1) rfl
theorem dX7_sheet_3 : decode cX7_sheet 3 = .ok (.invokestatic 87, 3) := ax_dec dX7_sheet_q0_ok 3 (3, .invokestatic 87, 3) rfl
theorem dX7_sheet_6 : decode cX7_sheet 6 = .ok (.ifCond .eq 23, 3) := ax_dec dX7_sheet_q0_ok 4 (6, .ifCond .eq 23, 3) rfl
theorem dX7_sheet_9 : decode cX7_sheet 9 = .ok (.iload_n 2, 1) := ax_dec dX7_sheet_q0_ok 5 (9, .iload_n 2, 1) rfl
theorem dX7_sheet_10 : decode cX7_sheet 10 = .ok (.iconst (-1), 1) := ax_dec dX7_sheet_q0_ok 6 (10, .iconst (-1), 1) rfl
theorem dX7_sheet_11 : decode cX7_sheet 11 = .ok (.iconst 2, 1) := ax_dec dX7_sheet_q0_ok 7 (11, .iconst 2, 1) rfl
theorem dX7_sheet_12 : decode cX7_sheet 12 = .ok (.invokestatic 87, 3) := ax_dec dX7_sheet_q0_ok 8 (12, .invokestatic 87, 3) rfl
theorem dX7_sheet_15 : decode cX7_sheet 15 = .ok (.ifCond .eq 14, 3) := ax_dec dX7_sheet_q0_ok 9 (15, .ifCond .eq 14, 3) rfl
theorem dX7_sheet_18 : decode cX7_sheet 18 = .ok (.iload_n 2, 1) := ax_dec dX7_sheet_q0_ok 10 (18, .iload_n 2, 1) rfl
theorem dX7_sheet_19 : decode cX7_sheet 19 = .ok (.iconst (-1), 1) := ax_dec dX7_sheet_q0_ok 11 (19, .iconst (-1), 1) rfl
theorem dX7_sheet_20 : decode cX7_sheet 20 = .ok (.if_icmp .eq 12, 3) := ax_dec dX7_sheet_q0_ok 12 (20, .if_icmp .eq 12, 3) rfl
theorem dX7_sheet_23 : decode cX7_sheet 23 = .ok (.iload_n 3, 1) := ax_dec dX7_sheet_q0_ok 13 (23, .iload_n 3, 1) rfl
theorem dX7_sheet_24 : decode cX7_sheet 24 = .ok (.bipush 40, 2) := ax_dec dX7_sheet_q0_ok 14 (24, .bipush 40, 2) rfl
theorem dX7_sheet_26 : decode cX7_sheet 26 = .ok (.if_icmp .le 6, 3) := ax_dec dX7_sheet_q0_ok 15 (26, .if_icmp .le 6, 3) rfl
theorem dX7_sheet_29 : decode cX7_sheet 29 = .ok (.bipush (-2), 2) := ax_dec dX7_sheet_q0_ok 16 (29, .bipush (-2), 2) rfl
theorem dX7_sheet_31 : decode cX7_sheet 31 = .ok (.ireturn, 1) := ax_dec dX7_sheet_q0_ok 17 (31, .ireturn, 1) rfl
theorem dX7_sheet_32 : decode cX7_sheet 32 = .ok (.iload_n 2, 1) := ax_dec dX7_sheet_q0_ok 18 (32, .iload_n 2, 1) rfl
theorem dX7_sheet_33 : decode cX7_sheet 33 = .ok (.iconst (-1), 1) := ax_dec dX7_sheet_q0_ok 19 (33, .iconst (-1), 1) rfl
theorem dX7_sheet_34 : decode cX7_sheet 34 = .ok (.if_icmp .eq 10, 3) := ax_dec dX7_sheet_q0_ok 20 (34, .if_icmp .eq 10, 3) rfl
theorem dX7_sheet_37 : decode cX7_sheet 37 = .ok (.iload_n 3, 1) := ax_dec dX7_sheet_q0_ok 21 (37, .iload_n 3, 1) rfl
theorem dX7_sheet_38 : decode cX7_sheet 38 = .ok (.ifCond .ge 6, 3) := ax_dec dX7_sheet_q0_ok 22 (38, .ifCond .ge 6, 3) rfl
theorem dX7_sheet_41 : decode cX7_sheet 41 = .ok (.bipush (-14), 2) := ax_dec dX7_sheet_q0_ok 23 (41, .bipush (-14), 2) rfl
theorem dX7_sheet_43 : decode cX7_sheet 43 = .ok (.ireturn, 1) := ax_dec dX7_sheet_q0_ok 24 (43, .ireturn, 1) rfl
theorem dX7_sheet_44 : decode cX7_sheet 44 = .ok (.aload_n 0, 1) := ax_dec dX7_sheet_q0_ok 25 (44, .aload_n 0, 1) rfl
theorem dX7_sheet_45 : decode cX7_sheet 45 = .ok (.getfield 43, 3) := ax_dec dX7_sheet_q0_ok 26 (45, .getfield 43, 3) rfl
theorem dX7_sheet_48 : decode cX7_sheet 48 = .ok (.iload_n 1, 1) := ax_dec dX7_sheet_q0_ok 27 (48, .iload_n 1, 1) rfl
theorem dX7_sheet_49 : decode cX7_sheet 49 = .ok (.iload_n 2, 1) := ax_dec dX7_sheet_q0_ok 28 (49, .iload_n 2, 1) rfl
theorem dX7_sheet_50 : decode cX7_sheet 50 = .ok (.iastore, 1) := ax_dec dX7_sheet_q0_ok 29 (50, .iastore, 1) rfl
theorem dX7_sheet_51 : decode cX7_sheet 51 = .ok (.aload_n 0, 1) := ax_dec dX7_sheet_q0_ok 30 (51, .aload_n 0, 1) rfl
theorem dX7_sheet_52 : decode cX7_sheet 52 = .ok (.getfield 46, 3) := ax_dec dX7_sheet_q0_ok 31 (52, .getfield 46, 3) rfl
def dX7_sheet_q1 : List (Nat × (Instr × Nat)) := [(55, .iload_n 1, 1), (56, .iload_n 2, 1), (57, .iconst (-1), 1), (58, .if_icmp .ne 7, 3), (61, .iconst 0, 1), (62, .goto 4, 3), (65, .iload_n 3, 1), (66, .iastore, 1), (67, .iconst 0, 1), (68, .istore 4, 2), (70, .iload 4, 2), (72, .bipush 40, 2), (74, .if_icmp .ge 22, 3), (77, .aload_n 0, 1), (78, .getfield 49, 3), (81, .bipush 40, 2), (83, .iload_n 1, 1), (84, .imul, 1), (85, .iload 4, 2), (87, .iadd, 1), (88, .iconst 0, 1), (89, .iastore, 1), (90, .iinc 4 1, 3), (93, .goto (-23), 3), (96, .iconst 1, 1), (97, .ireturn, 1)]
set_option maxRecDepth 100000 in
theorem dX7_sheet_q1_ok : ax_decs cX7_sheet dX7_sheet_q1 = true := by decide +kernel
theorem dX7_sheet_55 : decode cX7_sheet 55 = .ok (.iload_n 1, 1) := ax_dec dX7_sheet_q1_ok 0 (55, .iload_n 1, 1) rfl
theorem dX7_sheet_56 : decode cX7_sheet 56 = .ok (.iload_n 2, 1) := ax_dec dX7_sheet_q1_ok 1 (56, .iload_n 2, 1) rfl
theorem dX7_sheet_57 : decode cX7_sheet 57 = .ok (.iconst (-1), 1) := ax_dec dX7_sheet_q1_ok 2 (57, .iconst (-1), 1) rfl
theorem dX7_sheet_58 : decode cX7_sheet 58 = .ok (.if_icmp .ne 7, 3) := ax_dec dX7_sheet_q1_ok 3 (58, .if_icmp .ne 7, 3) rfl
theorem dX7_sheet_61 : decode cX7_sheet 61 = .ok (.iconst 0, 1) := ax_dec dX7_sheet_q1_ok 4 (61, .iconst 0, 1) rfl
theorem dX7_sheet_62 : decode cX7_sheet 62 = .ok (.goto 4, 3) := ax_dec dX7_sheet_q1_ok 5 (62, .goto 4, 3) rfl
theorem dX7_sheet_65 : decode cX7_sheet 65 = .ok (.iload_n 3, 1) := ax_dec dX7_sheet_q1_ok 6 (65, .iload_n 3, 1) rfl
theorem dX7_sheet_66 : decode cX7_sheet 66 = .ok (.iastore, 1) := ax_dec dX7_sheet_q1_ok 7 (66, .iastore, 1) rfl
theorem dX7_sheet_67 : decode cX7_sheet 67 = .ok (.iconst 0, 1) := ax_dec dX7_sheet_q1_ok 8 (67, .iconst 0, 1) rfl
theorem dX7_sheet_68 : decode cX7_sheet 68 = .ok (.istore 4, 2) := ax_dec dX7_sheet_q1_ok 9 (68, .istore 4, 2) rfl
theorem dX7_sheet_70 : decode cX7_sheet 70 = .ok (.iload 4, 2) := ax_dec dX7_sheet_q1_ok 10 (70, .iload 4, 2) rfl
theorem dX7_sheet_72 : decode cX7_sheet 72 = .ok (.bipush 40, 2) := ax_dec dX7_sheet_q1_ok 11 (72, .bipush 40, 2) rfl
theorem dX7_sheet_74 : decode cX7_sheet 74 = .ok (.if_icmp .ge 22, 3) := ax_dec dX7_sheet_q1_ok 12 (74, .if_icmp .ge 22, 3) rfl
theorem dX7_sheet_77 : decode cX7_sheet 77 = .ok (.aload_n 0, 1) := ax_dec dX7_sheet_q1_ok 13 (77, .aload_n 0, 1) rfl
theorem dX7_sheet_78 : decode cX7_sheet 78 = .ok (.getfield 49, 3) := ax_dec dX7_sheet_q1_ok 14 (78, .getfield 49, 3) rfl
theorem dX7_sheet_81 : decode cX7_sheet 81 = .ok (.bipush 40, 2) := ax_dec dX7_sheet_q1_ok 15 (81, .bipush 40, 2) rfl
theorem dX7_sheet_83 : decode cX7_sheet 83 = .ok (.iload_n 1, 1) := ax_dec dX7_sheet_q1_ok 16 (83, .iload_n 1, 1) rfl
theorem dX7_sheet_84 : decode cX7_sheet 84 = .ok (.imul, 1) := ax_dec dX7_sheet_q1_ok 17 (84, .imul, 1) rfl
theorem dX7_sheet_85 : decode cX7_sheet 85 = .ok (.iload 4, 2) := ax_dec dX7_sheet_q1_ok 18 (85, .iload 4, 2) rfl
theorem dX7_sheet_87 : decode cX7_sheet 87 = .ok (.iadd, 1) := ax_dec dX7_sheet_q1_ok 19 (87, .iadd, 1) rfl
theorem dX7_sheet_88 : decode cX7_sheet 88 = .ok (.iconst 0, 1) := ax_dec dX7_sheet_q1_ok 20 (88, .iconst 0, 1) rfl
theorem dX7_sheet_89 : decode cX7_sheet 89 = .ok (.iastore, 1) := ax_dec dX7_sheet_q1_ok 21 (89, .iastore, 1) rfl
theorem dX7_sheet_90 : decode cX7_sheet 90 = .ok (.iinc 4 1, 3) := ax_dec dX7_sheet_q1_ok 22 (90, .iinc 4 1, 3) rfl
theorem dX7_sheet_93 : decode cX7_sheet 93 = .ok (.goto (-23), 3) := ax_dec dX7_sheet_q1_ok 23 (93, .goto (-23), 3) rfl
theorem dX7_sheet_96 : decode cX7_sheet 96 = .ok (.iconst 1, 1) := ax_dec dX7_sheet_q1_ok 24 (96, .iconst 1, 1) rfl
theorem dX7_sheet_97 : decode cX7_sheet 97 = .ok (.ireturn, 1) := ax_dec dX7_sheet_q1_ok 25 (97, .ireturn, 1) rfl
def dX7_cell_q0 : List (Nat × (Instr × Nat)) := [(0, .iload_n 1, 1), (1, .iconst 0, 1), (2, .iconst 3, 1), (3, .invokestatic 87, 3), (6, .ifCond .ne 6, 3), (9, .bipush (-2), 2), (11, .ireturn, 1), (12, .aload_n 0, 1), (13, .getfield 43, 3), (16, .iload_n 1, 1), (17, .iaload, 1), (18, .iconst (-1), 1), (19, .if_icmp .ne 6, 3), (22, .bipush (-11), 2), (24, .ireturn, 1), (25, .iload_n 2, 1), (26, .iconst 0, 1), (27, .aload_n 0, 1), (28, .getfield 46, 3), (31, .iload_n 1, 1), (32, .iaload, 1), (33, .iconst 1, 1), (34, .isub, 1), (35, .invokestatic 87, 3), (38, .ifCond .ne 6, 3), (41, .bipush (-12), 2), (43, .ireturn, 1), (44, .aload_n 0, 1), (45, .getfield 49, 3), (48, .bipush 40, 2), (50, .iload_n 1, 1), (51, .imul, 1)]
set_option maxRecDepth 100000 in
theorem dX7_cell_q0_ok : ax_decs cX7_cell dX7_cell_q0 = true := by decide +kernel
theorem dX7_cell_0 : decode cX7_cell 0 = .ok (.iload_n 1, 1) := ax_dec dX7_cell_q0_ok 0 (0, .iload_n 1, 1) rfl
theorem dX7_cell_1 : decode cX7_cell 1 = .ok (.iconst 0, 1) := ax_dec dX7_cell_q0_ok 1 (1, .iconst 0, 1) rfl
theorem dX7_cell_2 : decode cX7_cell 2 = .ok (.iconst 3, 1) := ax_dec dX7_cell_q0_ok 2 (2, .iconst 3, 1) rfl
theorem dX7_cell_3 : decode cX7_cell 3 = .ok (.invokestatic 87, 3) := ax_dec dX7_cell_q0_ok 3 (3, .invokestatic 87, 3) rfl
theorem dX7_cell_6 : decode cX7_cell 6 = .ok (.ifCond .ne 6, 3) := ax_dec dX7_cell_q0_ok 4 (6, .ifCond .ne 6, 3) rfl
theorem dX7_cell_9 : decode cX7_cell 9 = .ok (.bipush (-2), 2) := ax_dec dX7_cell_q0_ok 5 (9, .bipush (-2), 2) rfl
theorem dX7_cell_11 : decode cX7_cell 11 = .ok (.ireturn, 1) := ax_dec dX7_cell_q0_ok 6 (11, .ireturn, 1) rfl
theorem dX7_cell_12 : decode cX7_cell 12 = .ok (.aload_n 0, 1) := ax_dec dX7_cell_q0_ok 7 (12, .aload_n 0, 1) rfl
theorem dX7_cell_13 : decode cX7_cell 13 = .ok (.getfield 43, 3) := ax_dec dX7_cell_q0_ok 8 (13, .getfield 43, 3) rfl
theorem dX7_cell_16 : decode cX7_cell 16 = .ok (.iload_n 1, 1) := ax_dec dX7_cell_q0_ok 9 (16, .iload_n 1, 1) rfl
theorem dX7_cell_17 : decode cX7_cell 17 = .ok (.iaload, 1) := ax_dec dX7_cell_q0_ok 10 (17, .iaload, 1) rfl
theorem dX7_cell_18 : decode cX7_cell 18 = .ok (.iconst (-1), 1) := ax_dec dX7_cell_q0_ok 11 (18, .iconst (-1), 1) rfl
theorem dX7_cell_19 : decode cX7_cell 19 = .ok (.if_icmp .ne 6, 3) := ax_dec dX7_cell_q0_ok 12 (19, .if_icmp .ne 6, 3) rfl
theorem dX7_cell_22 : decode cX7_cell 22 = .ok (.bipush (-11), 2) := ax_dec dX7_cell_q0_ok 13 (22, .bipush (-11), 2) rfl
theorem dX7_cell_24 : decode cX7_cell 24 = .ok (.ireturn, 1) := ax_dec dX7_cell_q0_ok 14 (24, .ireturn, 1) rfl
theorem dX7_cell_25 : decode cX7_cell 25 = .ok (.iload_n 2, 1) := ax_dec dX7_cell_q0_ok 15 (25, .iload_n 2, 1) rfl
theorem dX7_cell_26 : decode cX7_cell 26 = .ok (.iconst 0, 1) := ax_dec dX7_cell_q0_ok 16 (26, .iconst 0, 1) rfl
theorem dX7_cell_27 : decode cX7_cell 27 = .ok (.aload_n 0, 1) := ax_dec dX7_cell_q0_ok 17 (27, .aload_n 0, 1) rfl
theorem dX7_cell_28 : decode cX7_cell 28 = .ok (.getfield 46, 3) := ax_dec dX7_cell_q0_ok 18 (28, .getfield 46, 3) rfl
theorem dX7_cell_31 : decode cX7_cell 31 = .ok (.iload_n 1, 1) := ax_dec dX7_cell_q0_ok 19 (31, .iload_n 1, 1) rfl
theorem dX7_cell_32 : decode cX7_cell 32 = .ok (.iaload, 1) := ax_dec dX7_cell_q0_ok 20 (32, .iaload, 1) rfl
theorem dX7_cell_33 : decode cX7_cell 33 = .ok (.iconst 1, 1) := ax_dec dX7_cell_q0_ok 21 (33, .iconst 1, 1) rfl
theorem dX7_cell_34 : decode cX7_cell 34 = .ok (.isub, 1) := ax_dec dX7_cell_q0_ok 22 (34, .isub, 1) rfl
theorem dX7_cell_35 : decode cX7_cell 35 = .ok (.invokestatic 87, 3) := ax_dec dX7_cell_q0_ok 23 (35, .invokestatic 87, 3) rfl
theorem dX7_cell_38 : decode cX7_cell 38 = .ok (.ifCond .ne 6, 3) := ax_dec dX7_cell_q0_ok 24 (38, .ifCond .ne 6, 3) rfl
theorem dX7_cell_41 : decode cX7_cell 41 = .ok (.bipush (-12), 2) := ax_dec dX7_cell_q0_ok 25 (41, .bipush (-12), 2) rfl
theorem dX7_cell_43 : decode cX7_cell 43 = .ok (.ireturn, 1) := ax_dec dX7_cell_q0_ok 26 (43, .ireturn, 1) rfl
theorem dX7_cell_44 : decode cX7_cell 44 = .ok (.aload_n 0, 1) := ax_dec dX7_cell_q0_ok 27 (44, .aload_n 0, 1) rfl
theorem dX7_cell_45 : decode cX7_cell 45 = .ok (.getfield 49, 3) := ax_dec dX7_cell_q0_ok 28 (45, .getfield 49, 3) rfl
theorem dX7_cell_48 : decode cX7_cell 48 = .ok (.bipush 40, 2) := ax_dec dX7_cell_q0_ok 29 (48, .bipush 40, 2) rfl
theorem dX7_cell_50 : decode cX7_cell 50 = .ok (.iload_n 1, 1) := ax_dec dX7_cell_q0_ok 30 (50, .iload_n 1, 1) rfl
theorem dX7_cell_51 : decode cX7_cell 51 = .ok (.imul, 1) := ax_dec dX7_cell_q0_ok 31 (51, .imul, 1) rfl
def dX7_cell_q1 : List (Nat × (Instr × Nat)) := [(52, .iload_n 2, 1), (53, .iadd, 1), (54, .aload_n 0, 1), (55, .getfield 43, 3), (58, .iload_n 1, 1), (59, .iaload, 1), (60, .ifCond .ne 8, 3), (63, .iload_n 3, 1), (64, .i2b, 1), (65, .goto 19, 3), (68, .aload_n 0, 1), (69, .getfield 43, 3), (72, .iload_n 1, 1), (73, .iaload, 1), (74, .iconst 1, 1), (75, .if_icmp .ne 8, 3), (78, .iload_n 3, 1), (79, .i2s, 1), (80, .goto 4, 3), (83, .iload_n 3, 1), (84, .iastore, 1), (85, .iconst 1, 1), (86, .ireturn, 1)]
set_option maxRecDepth 100000 in
theorem dX7_cell_q1_ok : ax_decs cX7_cell dX7_cell_q1 = true := by decide +kernel
theorem dX7_cell_52 : decode cX7_cell 52 = .ok (.iload_n 2, 1) := ax_dec dX7_cell_q1_ok 0 (52, .iload_n 2, 1) rfl
theorem dX7_cell_53 : decode cX7_cell 53 = .ok (.iadd, 1) := ax_dec dX7_cell_q1_ok 1 (53, .iadd, 1) rfl
theorem dX7_cell_54 : decode cX7_cell 54 = .ok (.aload_n 0, 1) := ax_dec dX7_cell_q1_ok 2 (54, .aload_n 0, 1) rfl
theorem dX7_cell_55 : decode cX7_cell 55 = .ok (.getfield 43, 3) := ax_dec dX7_cell_q1_ok 3 (55, .getfield 43, 3) rfl
theorem dX7_cell_58 : decode cX7_cell 58 = .ok (.iload_n 1, 1) := ax_dec dX7_cell_q1_ok 4 (58, .iload_n 1, 1) rfl
theorem dX7_cell_59 : decode cX7_cell 59 = .ok (.iaload, 1) := ax_dec dX7_cell_q1_ok 5 (59, .iaload, 1) rfl
theorem dX7_cell_60 : decode cX7_cell 60 = .ok (.ifCond .ne 8, 3) := ax_dec dX7_cell_q1_ok 6 (60, .ifCond .ne 8, 3) rfl
theorem dX7_cell_63 : decode cX7_cell 63 = .ok (.iload_n 3, 1) := ax_dec dX7_cell_q1_ok 7 (63, .iload_n 3, 1) rfl
theorem dX7_cell_64 : decode cX7_cell 64 = .ok (.i2b, 1) := ax_dec dX7_cell_q1_ok 8 (64, .i2b, 1) rfl
theorem dX7_cell_65 : decode cX7_cell 65 = .ok (.goto 19, 3) := ax_dec dX7_cell_q1_ok 9 (65, .goto 19, 3) rfl
theorem dX7_cell_68 : decode cX7_cell 68 = .ok (.aload_n 0, 1) := ax_dec dX7_cell_q1_ok 10 (68, .aload_n 0, 1) rfl
theorem dX7_cell_69 : decode cX7_cell 69 = .ok (.getfield 43, 3) := ax_dec dX7_cell_q1_ok 11 (69, .getfield 43, 3) rfl
theorem dX7_cell_72 : decode cX7_cell 72 = .ok (.iload_n 1, 1) := ax_dec dX7_cell_q1_ok 12 (72, .iload_n 1, 1) rfl
theorem dX7_cell_73 : decode cX7_cell 73 = .ok (.iaload, 1) := ax_dec dX7_cell_q1_ok 13 (73, .iaload, 1) rfl
theorem dX7_cell_74 : decode cX7_cell 74 = .ok (.iconst 1, 1) := ax_dec dX7_cell_q1_ok 14 (74, .iconst 1, 1) rfl
theorem dX7_cell_75 : decode cX7_cell 75 = .ok (.if_icmp .ne 8, 3) := ax_dec dX7_cell_q1_ok 15 (75, .if_icmp .ne 8, 3) rfl
theorem dX7_cell_78 : decode cX7_cell 78 = .ok (.iload_n 3, 1) := ax_dec dX7_cell_q1_ok 16 (78, .iload_n 3, 1) rfl
theorem dX7_cell_79 : decode cX7_cell 79 = .ok (.i2s, 1) := ax_dec dX7_cell_q1_ok 17 (79, .i2s, 1) rfl
theorem dX7_cell_80 : decode cX7_cell 80 = .ok (.goto 4, 3) := ax_dec dX7_cell_q1_ok 18 (80, .goto 4, 3) rfl
theorem dX7_cell_83 : decode cX7_cell 83 = .ok (.iload_n 3, 1) := ax_dec dX7_cell_q1_ok 19 (83, .iload_n 3, 1) rfl
theorem dX7_cell_84 : decode cX7_cell 84 = .ok (.iastore, 1) := ax_dec dX7_cell_q1_ok 20 (84, .iastore, 1) rfl
theorem dX7_cell_85 : decode cX7_cell 85 = .ok (.iconst 1, 1) := ax_dec dX7_cell_q1_ok 21 (85, .iconst 1, 1) rfl
theorem dX7_cell_86 : decode cX7_cell 86 = .ok (.ireturn, 1) := ax_dec dX7_cell_q1_ok 22 (86, .ireturn, 1) rfl
def dX7_copy_q0 : List (Nat × (Instr × Nat)) := [(0, .iload_n 1, 1), (1, .iconst 0, 1), (2, .iconst 3, 1), (3, .invokestatic 87, 3), (6, .ifCond .eq 12, 3), (9, .iload_n 3, 1), (10, .iconst 0, 1), (11, .iconst 3, 1), (12, .invokestatic 87, 3), (15, .ifCond .ne 6, 3), (18, .bipush (-2), 2), (20, .ireturn, 1), (21, .aload_n 0, 1), (22, .getfield 43, 3), (25, .iload_n 1, 1), (26, .iaload, 1), (27, .iconst (-1), 1), (28, .if_icmp .eq 13, 3), (31, .aload_n 0, 1), (32, .getfield 43, 3), (35, .iload_n 3, 1), (36, .iaload, 1), (37, .iconst (-1), 1), (38, .if_icmp .ne 6, 3), (41, .bipush (-11), 2), (43, .ireturn, 1), (44, .aload_n 0, 1), (45, .getfield 43, 3), (48, .iload_n 1, 1), (49, .iaload, 1), (50, .aload_n 0, 1), (51, .getfield 43, 3)]
set_option maxRecDepth 100000 in
theorem dX7_copy_q0_ok : ax_decs cX7_copy dX7_copy_q0 = true := by decide +kernel
theorem dX7_copy_0 : decode cX7_copy 0 = .ok (.iload_n 1, 1) := ax_dec dX7_copy_q0_ok 0 (0, .iload_n 1, 1) rfl
theorem dX7_copy_1 : decode cX7_copy 1 = .ok (.iconst 0, 1) := ax_dec dX7_copy_q0_ok 1 (1, .iconst 0, 1) rfl
theorem dX7_copy_2 : decode cX7_copy 2 = .ok (.iconst 3, 1) := ax_dec dX7_copy_q0_ok 2 (2, .iconst 3, 1) rfl
theorem dX7_copy_3 : decode cX7_copy 3 = .ok (.invokestatic 87, 3) := ax_dec dX7_copy_q0_ok 3 (3, .invokestatic 87, 3) rfl
theorem dX7_copy_6 : decode cX7_copy 6 = .ok (.ifCond .eq 12, 3) := ax_dec dX7_copy_q0_ok 4 (6, .ifCond .eq 12, 3) rfl
theorem dX7_copy_9 : decode cX7_copy 9 = .ok (.iload_n 3, 1) := ax_dec dX7_copy_q0_ok 5 (9, .iload_n 3, 1) rfl
theorem dX7_copy_10 : decode cX7_copy 10 = .ok (.iconst 0, 1) := ax_dec dX7_copy_q0_ok 6 (10, .iconst 0, 1) rfl
theorem dX7_copy_11 : decode cX7_copy 11 = .ok (.iconst 3, 1) := ax_dec dX7_copy_q0_ok 7 (11, .iconst 3, 1) rfl
theorem dX7_copy_12 : decode cX7_copy 12 = .ok (.invokestatic 87, 3) := ax_dec dX7_copy_q0_ok 8 (12, .invokestatic 87, 3) rfl
theorem dX7_copy_15 : decode cX7_copy 15 = .ok (.ifCond .ne 6, 3) := ax_dec dX7_copy_q0_ok 9 (15, .ifCond .ne 6, 3) rfl
theorem dX7_copy_18 : decode cX7_copy 18 = .ok (.bipush (-2), 2) := ax_dec dX7_copy_q0_ok 10 (18, .bipush (-2), 2) rfl
theorem dX7_copy_20 : decode cX7_copy 20 = .ok (.ireturn, 1) := ax_dec dX7_copy_q0_ok 11 (20, .ireturn, 1) rfl
theorem dX7_copy_21 : decode cX7_copy 21 = .ok (.aload_n 0, 1) := ax_dec dX7_copy_q0_ok 12 (21, .aload_n 0, 1) rfl
theorem dX7_copy_22 : decode cX7_copy 22 = .ok (.getfield 43, 3) := ax_dec dX7_copy_q0_ok 13 (22, .getfield 43, 3) rfl
theorem dX7_copy_25 : decode cX7_copy 25 = .ok (.iload_n 1, 1) := ax_dec dX7_copy_q0_ok 14 (25, .iload_n 1, 1) rfl
theorem dX7_copy_26 : decode cX7_copy 26 = .ok (.iaload, 1) := ax_dec dX7_copy_q0_ok 15 (26, .iaload, 1) rfl
theorem dX7_copy_27 : decode cX7_copy 27 = .ok (.iconst (-1), 1) := ax_dec dX7_copy_q0_ok 16 (27, .iconst (-1), 1) rfl
theorem dX7_copy_28 : decode cX7_copy 28 = .ok (.if_icmp .eq 13, 3) := ax_dec dX7_copy_q0_ok 17 (28, .if_icmp .eq 13, 3) rfl
theorem dX7_copy_31 : decode cX7_copy 31 = .ok (.aload_n 0, 1) := ax_dec dX7_copy_q0_ok 18 (31, .aload_n 0, 1) rfl
theorem dX7_copy_32 : decode cX7_copy 32 = .ok (.getfield 43, 3) := ax_dec dX7_copy_q0_ok 19 (32, .getfield 43, 3) rfl
theorem dX7_copy_35 : decode cX7_copy 35 = .ok (.iload_n 3, 1) := ax_dec dX7_copy_q0_ok 20 (35, .iload_n 3, 1) rfl
theorem dX7_copy_36 : decode cX7_copy 36 = .ok (.iaload, 1) := ax_dec dX7_copy_q0_ok 21 (36, .iaload, 1) rfl
theorem dX7_copy_37 : decode cX7_copy 37 = .ok (.iconst (-1), 1) := ax_dec dX7_copy_q0_ok 22 (37, .iconst (-1), 1) rfl
theorem dX7_copy_38 : decode cX7_copy 38 = .ok (.if_icmp .ne 6, 3) := ax_dec dX7_copy_q0_ok 23 (38, .if_icmp .ne 6, 3) rfl
theorem dX7_copy_41 : decode cX7_copy 41 = .ok (.bipush (-11), 2) := ax_dec dX7_copy_q0_ok 24 (41, .bipush (-11), 2) rfl
theorem dX7_copy_43 : decode cX7_copy 43 = .ok (.ireturn, 1) := ax_dec dX7_copy_q0_ok 25 (43, .ireturn, 1) rfl
theorem dX7_copy_44 : decode cX7_copy 44 = .ok (.aload_n 0, 1) := ax_dec dX7_copy_q0_ok 26 (44, .aload_n 0, 1) rfl
theorem dX7_copy_45 : decode cX7_copy 45 = .ok (.getfield 43, 3) := ax_dec dX7_copy_q0_ok 27 (45, .getfield 43, 3) rfl
theorem dX7_copy_48 : decode cX7_copy 48 = .ok (.iload_n 1, 1) := ax_dec dX7_copy_q0_ok 28 (48, .iload_n 1, 1) rfl
theorem dX7_copy_49 : decode cX7_copy 49 = .ok (.iaload, 1) := ax_dec dX7_copy_q0_ok 29 (49, .iaload, 1) rfl
theorem dX7_copy_50 : decode cX7_copy 50 = .ok (.aload_n 0, 1) := ax_dec dX7_copy_q0_ok 30 (50, .aload_n 0, 1) rfl
theorem dX7_copy_51 : decode cX7_copy 51 = .ok (.getfield 43, 3) := ax_dec dX7_copy_q0_ok 31 (51, .getfield 43, 3) rfl
def dX7_copy_q1 : List (Nat × (Instr × Nat)) := [(54, .iload_n 3, 1), (55, .iaload, 1), (56, .if_icmp .eq 6, 3), (59, .bipush (-13), 2), (61, .ireturn, 1), (62, .iload 5, 2), (64, .ifCond .lt 60, 3), (67, .iload_n 2, 1), (68, .ifCond .lt 56, 3), (71, .iload 4, 2), (73, .ifCond .lt 51, 3), (76, .iload_n 2, 1), (77, .aload_n 0, 1), (78, .getfield 46, 3), (81, .iload_n 1, 1), (82, .iaload, 1), (83, .if_icmp .gt 41, 3), (86, .iload 4, 2), (88, .aload_n 0, 1), (89, .getfield 46, 3), (92, .iload_n 3, 1), (93, .iaload, 1), (94, .if_icmp .gt 30, 3), (97, .iload 5, 2), (99, .aload_n 0, 1), (100, .getfield 46, 3), (103, .iload_n 1, 1), (104, .iaload, 1), (105, .iload_n 2, 1), (106, .isub, 1), (107, .if_icmp .gt 17, 3), (110, .iload 5, 2)]
set_option maxRecDepth 100000 in
theorem dX7_copy_q1_ok : ax_decs cX7_copy dX7_copy_q1 = true := by decide +kernel
theorem dX7_copy_54 : decode cX7_copy 54 = .ok (.iload_n 3, 1) := ax_dec dX7_copy_q1_ok 0 (54, .iload_n 3, 1) rfl
theorem dX7_copy_55 : decode cX7_copy 55 = .ok (.iaload, 1) := ax_dec dX7_copy_q1_ok 1 (55, .iaload, 1) rfl
theorem dX7_copy_56 : decode cX7_copy 56 = .ok (.if_icmp .eq 6, 3) := ax_dec dX7_copy_q1_ok 2 (56, .if_icmp .eq 6, 3) rfl
theorem dX7_copy_59 : decode cX7_copy 59 = .ok (.bipush (-13), 2) := ax_dec dX7_copy_q1_ok 3 (59, .bipush (-13), 2) rfl
theorem dX7_copy_61 : decode cX7_copy 61 = .ok (.ireturn, 1) := ax_dec dX7_copy_q1_ok 4 (61, .ireturn, 1) rfl
theorem dX7_copy_62 : decode cX7_copy 62 = .ok (.iload 5, 2) := ax_dec dX7_copy_q1_ok 5 (62, .iload 5, 2) rfl
theorem dX7_copy_64 : decode cX7_copy 64 = .ok (.ifCond .lt 60, 3) := ax_dec dX7_copy_q1_ok 6 (64, .ifCond .lt 60, 3) rfl
theorem dX7_copy_67 : decode cX7_copy 67 = .ok (.iload_n 2, 1) := ax_dec dX7_copy_q1_ok 7 (67, .iload_n 2, 1) rfl
theorem dX7_copy_68 : decode cX7_copy 68 = .ok (.ifCond .lt 56, 3) := ax_dec dX7_copy_q1_ok 8 (68, .ifCond .lt 56, 3) rfl
theorem dX7_copy_71 : decode cX7_copy 71 = .ok (.iload 4, 2) := ax_dec dX7_copy_q1_ok 9 (71, .iload 4, 2) rfl
theorem dX7_copy_73 : decode cX7_copy 73 = .ok (.ifCond .lt 51, 3) := ax_dec dX7_copy_q1_ok 10 (73, .ifCond .lt 51, 3) rfl
theorem dX7_copy_76 : decode cX7_copy 76 = .ok (.iload_n 2, 1) := ax_dec dX7_copy_q1_ok 11 (76, .iload_n 2, 1) rfl
theorem dX7_copy_77 : decode cX7_copy 77 = .ok (.aload_n 0, 1) := ax_dec dX7_copy_q1_ok 12 (77, .aload_n 0, 1) rfl
theorem dX7_copy_78 : decode cX7_copy 78 = .ok (.getfield 46, 3) := ax_dec dX7_copy_q1_ok 13 (78, .getfield 46, 3) rfl
theorem dX7_copy_81 : decode cX7_copy 81 = .ok (.iload_n 1, 1) := ax_dec dX7_copy_q1_ok 14 (81, .iload_n 1, 1) rfl
theorem dX7_copy_82 : decode cX7_copy 82 = .ok (.iaload, 1) := ax_dec dX7_copy_q1_ok 15 (82, .iaload, 1) rfl
theorem dX7_copy_83 : decode cX7_copy 83 = .ok (.if_icmp .gt 41, 3) := ax_dec dX7_copy_q1_ok 16 (83, .if_icmp .gt 41, 3) rfl
theorem dX7_copy_86 : decode cX7_copy 86 = .ok (.iload 4, 2) := ax_dec dX7_copy_q1_ok 17 (86, .iload 4, 2) rfl
theorem dX7_copy_88 : decode cX7_copy 88 = .ok (.aload_n 0, 1) := ax_dec dX7_copy_q1_ok 18 (88, .aload_n 0, 1) rfl
theorem dX7_copy_89 : decode cX7_copy 89 = .ok (.getfield 46, 3) := ax_dec dX7_copy_q1_ok 19 (89, .getfield 46, 3) rfl
theorem dX7_copy_92 : decode cX7_copy 92 = .ok (.iload_n 3, 1) := ax_dec dX7_copy_q1_ok 20 (92, .iload_n 3, 1) rfl
theorem dX7_copy_93 : decode cX7_copy 93 = .ok (.iaload, 1) := ax_dec dX7_copy_q1_ok 21 (93, .iaload, 1) rfl
theorem dX7_copy_94 : decode cX7_copy 94 = .ok (.if_icmp .gt 30, 3) := ax_dec dX7_copy_q1_ok 22 (94, .if_icmp .gt 30, 3) rfl
theorem dX7_copy_97 : decode cX7_copy 97 = .ok (.iload 5, 2) := ax_dec dX7_copy_q1_ok 23 (97, .iload 5, 2) rfl
theorem dX7_copy_99 : decode cX7_copy 99 = .ok (.aload_n 0, 1) := ax_dec dX7_copy_q1_ok 24 (99, .aload_n 0, 1) rfl
theorem dX7_copy_100 : decode cX7_copy 100 = .ok (.getfield 46, 3) := ax_dec dX7_copy_q1_ok 25 (100, .getfield 46, 3) rfl
theorem dX7_copy_103 : decode cX7_copy 103 = .ok (.iload_n 1, 1) := ax_dec dX7_copy_q1_ok 26 (103, .iload_n 1, 1) rfl
theorem dX7_copy_104 : decode cX7_copy 104 = .ok (.iaload, 1) := ax_dec dX7_copy_q1_ok 27 (104, .iaload, 1) rfl
theorem dX7_copy_105 : decode cX7_copy 105 = .ok (.iload_n 2, 1) := ax_dec dX7_copy_q1_ok 28 (105, .iload_n 2, 1) rfl
theorem dX7_copy_106 : decode cX7_copy 106 = .ok (.isub, 1) := ax_dec dX7_copy_q1_ok 29 (106, .isub, 1) rfl
theorem dX7_copy_107 : decode cX7_copy 107 = .ok (.if_icmp .gt 17, 3) := ax_dec dX7_copy_q1_ok 30 (107, .if_icmp .gt 17, 3) rfl
theorem dX7_copy_110 : decode cX7_copy 110 = .ok (.iload 5, 2) := ax_dec dX7_copy_q1_ok 31 (110, .iload 5, 2) rfl
def dX7_copy_q2 : List (Nat × (Instr × Nat)) := [(112, .aload_n 0, 1), (113, .getfield 46, 3), (116, .iload_n 3, 1), (117, .iaload, 1), (118, .iload 4, 2), (120, .isub, 1), (121, .if_icmp .le 6, 3), (124, .bipush (-12), 2), (126, .ireturn, 1), (127, .bipush 40, 2), (129, .iload_n 1, 1), (130, .imul, 1), (131, .iload_n 2, 1), (132, .iadd, 1), (133, .istore 6, 2), (135, .bipush 40, 2), (137, .iload_n 3, 1), (138, .imul, 1), (139, .iload 4, 2), (141, .iadd, 1), (142, .istore 7, 2), (144, .iconst 0, 1), (145, .istore 8, 2), (147, .iload 8, 2), (149, .iload 5, 2), (151, .if_icmp .ge 50, 3), (154, .iload 6, 2), (156, .iload 7, 2), (158, .if_icmp .ge 13, 3), (161, .iload 5, 2), (163, .iconst 1, 1), (164, .isub, 1)]
set_option maxRecDepth 100000 in
theorem dX7_copy_q2_ok : ax_decs cX7_copy dX7_copy_q2 = true := by decide +kernel
theorem dX7_copy_112 : decode cX7_copy 112 = .ok (.aload_n 0, 1) := ax_dec dX7_copy_q2_ok 0 (112, .aload_n 0, 1) rfl
theorem dX7_copy_113 : decode cX7_copy 113 = .ok (.getfield 46, 3) := ax_dec dX7_copy_q2_ok 1 (113, .getfield 46, 3) rfl
theorem dX7_copy_116 : decode cX7_copy 116 = .ok (.iload_n 3, 1) := ax_dec dX7_copy_q2_ok 2 (116, .iload_n 3, 1) rfl
theorem dX7_copy_117 : decode cX7_copy 117 = .ok (.iaload, 1) := ax_dec dX7_copy_q2_ok 3 (117, .iaload, 1) rfl
theorem dX7_copy_118 : decode cX7_copy 118 = .ok (.iload 4, 2) := ax_dec dX7_copy_q2_ok 4 (118, .iload 4, 2) rfl
theorem dX7_copy_120 : decode cX7_copy 120 = .ok (.isub, 1) := ax_dec dX7_copy_q2_ok 5 (120, .isub, 1) rfl
theorem dX7_copy_121 : decode cX7_copy 121 = .ok (.if_icmp .le 6, 3) := ax_dec dX7_copy_q2_ok 6 (121, .if_icmp .le 6, 3) rfl
theorem dX7_copy_124 : decode cX7_copy 124 = .ok (.bipush (-12), 2) := ax_dec dX7_copy_q2_ok 7 (124, .bipush (-12), 2) rfl
theorem dX7_copy_126 : decode cX7_copy 126 = .ok (.ireturn, 1) := ax_dec dX7_copy_q2_ok 8 (126, .ireturn, 1) rfl
theorem dX7_copy_127 : decode cX7_copy 127 = .ok (.bipush 40, 2) := ax_dec dX7_copy_q2_ok 9 (127, .bipush 40, 2) rfl
theorem dX7_copy_129 : decode cX7_copy 129 = .ok (.iload_n 1, 1) := ax_dec dX7_copy_q2_ok 10 (129, .iload_n 1, 1) rfl
theorem dX7_copy_130 : decode cX7_copy 130 = .ok (.imul, 1) := ax_dec dX7_copy_q2_ok 11 (130, .imul, 1) rfl
theorem dX7_copy_131 : decode cX7_copy 131 = .ok (.iload_n 2, 1) := ax_dec dX7_copy_q2_ok 12 (131, .iload_n 2, 1) rfl
theorem dX7_copy_132 : decode cX7_copy 132 = .ok (.iadd, 1) := ax_dec dX7_copy_q2_ok 13 (132, .iadd, 1) rfl
theorem dX7_copy_133 : decode cX7_copy 133 = .ok (.istore 6, 2) := ax_dec dX7_copy_q2_ok 14 (133, .istore 6, 2) rfl
theorem dX7_copy_135 : decode cX7_copy 135 = .ok (.bipush 40, 2) := ax_dec dX7_copy_q2_ok 15 (135, .bipush 40, 2) rfl
theorem dX7_copy_137 : decode cX7_copy 137 = .ok (.iload_n 3, 1) := ax_dec dX7_copy_q2_ok 16 (137, .iload_n 3, 1) rfl
theorem dX7_copy_138 : decode cX7_copy 138 = .ok (.imul, 1) := ax_dec dX7_copy_q2_ok 17 (138, .imul, 1) rfl
theorem dX7_copy_139 : decode cX7_copy 139 = .ok (.iload 4, 2) := ax_dec dX7_copy_q2_ok 18 (139, .iload 4, 2) rfl
theorem dX7_copy_141 : decode cX7_copy 141 = .ok (.iadd, 1) := ax_dec dX7_copy_q2_ok 19 (141, .iadd, 1) rfl
theorem dX7_copy_142 : decode cX7_copy 142 = .ok (.istore 7, 2) := ax_dec dX7_copy_q2_ok 20 (142, .istore 7, 2) rfl
theorem dX7_copy_144 : decode cX7_copy 144 = .ok (.iconst 0, 1) := ax_dec dX7_copy_q2_ok 21 (144, .iconst 0, 1) rfl
theorem dX7_copy_145 : decode cX7_copy 145 = .ok (.istore 8, 2) := ax_dec dX7_copy_q2_ok 22 (145, .istore 8, 2) rfl
theorem dX7_copy_147 : decode cX7_copy 147 = .ok (.iload 8, 2) := ax_dec dX7_copy_q2_ok 23 (147, .iload 8, 2) rfl
theorem dX7_copy_149 : decode cX7_copy 149 = .ok (.iload 5, 2) := ax_dec dX7_copy_q2_ok 24 (149, .iload 5, 2) rfl
theorem dX7_copy_151 : decode cX7_copy 151 = .ok (.if_icmp .ge 50, 3) := ax_dec dX7_copy_q2_ok 25 (151, .if_icmp .ge 50, 3) rfl
theorem dX7_copy_154 : decode cX7_copy 154 = .ok (.iload 6, 2) := ax_dec dX7_copy_q2_ok 26 (154, .iload 6, 2) rfl
theorem dX7_copy_156 : decode cX7_copy 156 = .ok (.iload 7, 2) := ax_dec dX7_copy_q2_ok 27 (156, .iload 7, 2) rfl
theorem dX7_copy_158 : decode cX7_copy 158 = .ok (.if_icmp .ge 13, 3) := ax_dec dX7_copy_q2_ok 28 (158, .if_icmp .ge 13, 3) rfl
theorem dX7_copy_161 : decode cX7_copy 161 = .ok (.iload 5, 2) := ax_dec dX7_copy_q2_ok 29 (161, .iload 5, 2) rfl
theorem dX7_copy_163 : decode cX7_copy 163 = .ok (.iconst 1, 1) := ax_dec dX7_copy_q2_ok 30 (163, .iconst 1, 1) rfl
theorem dX7_copy_164 : decode cX7_copy 164 = .ok (.isub, 1) := ax_dec dX7_copy_q2_ok 31 (164, .isub, 1) rfl
def dX7_copy_q3 : List (Nat × (Instr × Nat)) := [(165, .iload 8, 2), (167, .isub, 1), (168, .goto 5, 3), (171, .iload 8, 2), (173, .istore 9, 2), (175, .aload_n 0, 1), (176, .getfield 49, 3), (179, .iload 7, 2), (181, .iload 9, 2), (183, .iadd, 1), (184, .aload_n 0, 1), (185, .getfield 49, 3), (188, .iload 6, 2), (190, .iload 9, 2), (192, .iadd, 1), (193, .iaload, 1), (194, .iastore, 1), (195, .iinc 8 1, 3), (198, .goto (-51), 3), (201, .iload 5, 2), (203, .ireturn, 1)]
set_option maxRecDepth 100000 in
theorem dX7_copy_q3_ok : ax_decs cX7_copy dX7_copy_q3 = true := by decide +kernel
theorem dX7_copy_165 : decode cX7_copy 165 = .ok (.iload 8, 2) := ax_dec dX7_copy_q3_ok 0 (165, .iload 8, 2) rfl
theorem dX7_copy_167 : decode cX7_copy 167 = .ok (.isub, 1) := ax_dec dX7_copy_q3_ok 1 (167, .isub, 1) rfl
theorem dX7_copy_168 : decode cX7_copy 168 = .ok (.goto 5, 3) := ax_dec dX7_copy_q3_ok 2 (168, .goto 5, 3) rfl
theorem dX7_copy_171 : decode cX7_copy 171 = .ok (.iload 8, 2) := ax_dec dX7_copy_q3_ok 3 (171, .iload 8, 2) rfl
theorem dX7_copy_173 : decode cX7_copy 173 = .ok (.istore 9, 2) := ax_dec dX7_copy_q3_ok 4 (173, .istore 9, 2) rfl
theorem dX7_copy_175 : decode cX7_copy 175 = .ok (.aload_n 0, 1) := ax_dec dX7_copy_q3_ok 5 (175, .aload_n 0, 1) rfl
theorem dX7_copy_176 : decode cX7_copy 176 = .ok (.getfield 49, 3) := ax_dec dX7_copy_q3_ok 6 (176, .getfield 49, 3) rfl
theorem dX7_copy_179 : decode cX7_copy 179 = .ok (.iload 7, 2) := ax_dec dX7_copy_q3_ok 7 (179, .iload 7, 2) rfl
theorem dX7_copy_181 : decode cX7_copy 181 = .ok (.iload 9, 2) := ax_dec dX7_copy_q3_ok 8 (181, .iload 9, 2) rfl
theorem dX7_copy_183 : decode cX7_copy 183 = .ok (.iadd, 1) := ax_dec dX7_copy_q3_ok 9 (183, .iadd, 1) rfl
theorem dX7_copy_184 : decode cX7_copy 184 = .ok (.aload_n 0, 1) := ax_dec dX7_copy_q3_ok 10 (184, .aload_n 0, 1) rfl
theorem dX7_copy_185 : decode cX7_copy 185 = .ok (.getfield 49, 3) := ax_dec dX7_copy_q3_ok 11 (185, .getfield 49, 3) rfl
theorem dX7_copy_188 : decode cX7_copy 188 = .ok (.iload 6, 2) := ax_dec dX7_copy_q3_ok 12 (188, .iload 6, 2) rfl
theorem dX7_copy_190 : decode cX7_copy 190 = .ok (.iload 9, 2) := ax_dec dX7_copy_q3_ok 13 (190, .iload 9, 2) rfl
theorem dX7_copy_192 : decode cX7_copy 192 = .ok (.iadd, 1) := ax_dec dX7_copy_q3_ok 14 (192, .iadd, 1) rfl
theorem dX7_copy_193 : decode cX7_copy 193 = .ok (.iaload, 1) := ax_dec dX7_copy_q3_ok 15 (193, .iaload, 1) rfl
theorem dX7_copy_194 : decode cX7_copy 194 = .ok (.iastore, 1) := ax_dec dX7_copy_q3_ok 16 (194, .iastore, 1) rfl
theorem dX7_copy_195 : decode cX7_copy 195 = .ok (.iinc 8 1, 3) := ax_dec dX7_copy_q3_ok 17 (195, .iinc 8 1, 3) rfl
theorem dX7_copy_198 : decode cX7_copy 198 = .ok (.goto (-51), 3) := ax_dec dX7_copy_q3_ok 18 (198, .goto (-51), 3) rfl
theorem dX7_copy_201 : decode cX7_copy 201 = .ok (.iload 5, 2) := ax_dec dX7_copy_q3_ok 19 (201, .iload 5, 2) rfl
theorem dX7_copy_203 : decode cX7_copy 203 = .ok (.ireturn, 1) := ax_dec dX7_copy_q3_ok 20 (203, .ireturn, 1) rfl
def dX7_bitsBy_q0 : List (Nat × (Instr × Nat)) := [(0, .iload_n 1, 1), (1, .iconst 0, 1), (2, .iconst 3, 1), (3, .invokestatic 87, 3), (6, .ifCond .eq 23, 3), (9, .iload_n 2, 1), (10, .iconst 0, 1), (11, .iconst 2, 1), (12, .invokestatic 87, 3), (15, .ifCond .eq 14, 3), (18, .iload 4, 2), (20, .iconst 0, 1), (21, .bipush 10, 2), (23, .invokestatic 87, 3), (26, .ifCond .ne 6, 3), (29, .bipush (-2), 2), (31, .ireturn, 1), (32, .aload_n 0, 1), (33, .getfield 43, 3), (36, .iload_n 1, 1), (37, .iaload, 1), (38, .iconst (-1), 1), (39, .if_icmp .ne 6, 3), (42, .bipush (-11), 2), (44, .ireturn, 1), (45, .aload_n 0, 1), (46, .getfield 43, 3), (49, .iload_n 1, 1), (50, .iaload, 1), (51, .iload_n 2, 1), (52, .if_icmp .eq 6, 3), (55, .bipush (-13), 2)]
set_option maxRecDepth 100000 in
theorem dX7_bitsBy_q0_ok : ax_decs cX7_bitsBy dX7_bitsBy_q0 = true := by decide +kernel
theorem dX7_bitsBy_0 : decode cX7_bitsBy 0 = .ok (.iload_n 1, 1) := ax_dec dX7_bitsBy_q0_ok 0 (0, .iload_n 1, 1) rfl
theorem dX7_bitsBy_1 : decode cX7_bitsBy 1 = .ok (.iconst 0, 1) := ax_dec dX7_bitsBy_q0_ok 1 (1, .iconst 0, 1) rfl
theorem dX7_bitsBy_2 : decode cX7_bitsBy 2 = .ok (.iconst 3, 1) := ax_dec dX7_bitsBy_q0_ok 2 (2, .iconst 3, 1) rfl
theorem dX7_bitsBy_3 : decode cX7_bitsBy 3 = .ok (.invokestatic 87, 3) := ax_dec dX7_bitsBy_q0_ok 3 (3, .invokestatic 87, 3) rfl
theorem dX7_bitsBy_6 : decode cX7_bitsBy 6 = .ok (.ifCond .eq 23, 3) := ax_dec dX7_bitsBy_q0_ok 4 (6, .ifCond .eq 23, 3) rfl
theorem dX7_bitsBy_9 : decode cX7_bitsBy 9 = .ok (.iload_n 2, 1) := ax_dec dX7_bitsBy_q0_ok 5 (9, .iload_n 2, 1) rfl
theorem dX7_bitsBy_10 : decode cX7_bitsBy 10 = .ok (.iconst 0, 1) := ax_dec dX7_bitsBy_q0_ok 6 (10, .iconst 0, 1) rfl
theorem dX7_bitsBy_11 : decode cX7_bitsBy 11 = .ok (.iconst 2, 1) := ax_dec dX7_bitsBy_q0_ok 7 (11, .iconst 2, 1) rfl
theorem dX7_bitsBy_12 : decode cX7_bitsBy 12 = .ok (.invokestatic 87, 3) := ax_dec dX7_bitsBy_q0_ok 8 (12, .invokestatic 87, 3) rfl
theorem dX7_bitsBy_15 : decode cX7_bitsBy 15 = .ok (.ifCond .eq 14, 3) := ax_dec dX7_bitsBy_q0_ok 9 (15, .ifCond .eq 14, 3) rfl
theorem dX7_bitsBy_18 : decode cX7_bitsBy 18 = .ok (.iload 4, 2) := ax_dec dX7_bitsBy_q0_ok 10 (18, .iload 4, 2) rfl
theorem dX7_bitsBy_20 : decode cX7_bitsBy 20 = .ok (.iconst 0, 1) := ax_dec dX7_bitsBy_q0_ok 11 (20, .iconst 0, 1) rfl
theorem dX7_bitsBy_21 : decode cX7_bitsBy 21 = .ok (.bipush 10, 2) := ax_dec dX7_bitsBy_q0_ok 12 (21, .bipush 10, 2) rfl
theorem dX7_bitsBy_23 : decode cX7_bitsBy 23 = .ok (.invokestatic 87, 3) := ax_dec dX7_bitsBy_q0_ok 13 (23, .invokestatic 87, 3) rfl
theorem dX7_bitsBy_26 : decode cX7_bitsBy 26 = .ok (.ifCond .ne 6, 3) := ax_dec dX7_bitsBy_q0_ok 14 (26, .ifCond .ne 6, 3) rfl
theorem dX7_bitsBy_29 : decode cX7_bitsBy 29 = .ok (.bipush (-2), 2) := ax_dec dX7_bitsBy_q0_ok 15 (29, .bipush (-2), 2) rfl
theorem dX7_bitsBy_31 : decode cX7_bitsBy 31 = .ok (.ireturn, 1) := ax_dec dX7_bitsBy_q0_ok 16 (31, .ireturn, 1) rfl
theorem dX7_bitsBy_32 : decode cX7_bitsBy 32 = .ok (.aload_n 0, 1) := ax_dec dX7_bitsBy_q0_ok 17 (32, .aload_n 0, 1) rfl
theorem dX7_bitsBy_33 : decode cX7_bitsBy 33 = .ok (.getfield 43, 3) := ax_dec dX7_bitsBy_q0_ok 18 (33, .getfield 43, 3) rfl
theorem dX7_bitsBy_36 : decode cX7_bitsBy 36 = .ok (.iload_n 1, 1) := ax_dec dX7_bitsBy_q0_ok 19 (36, .iload_n 1, 1) rfl
theorem dX7_bitsBy_37 : decode cX7_bitsBy 37 = .ok (.iaload, 1) := ax_dec dX7_bitsBy_q0_ok 20 (37, .iaload, 1) rfl
theorem dX7_bitsBy_38 : decode cX7_bitsBy 38 = .ok (.iconst (-1), 1) := ax_dec dX7_bitsBy_q0_ok 21 (38, .iconst (-1), 1) rfl
theorem dX7_bitsBy_39 : decode cX7_bitsBy 39 = .ok (.if_icmp .ne 6, 3) := ax_dec dX7_bitsBy_q0_ok 22 (39, .if_icmp .ne 6, 3) rfl
theorem dX7_bitsBy_42 : decode cX7_bitsBy 42 = .ok (.bipush (-11), 2) := ax_dec dX7_bitsBy_q0_ok 23 (42, .bipush (-11), 2) rfl
theorem dX7_bitsBy_44 : decode cX7_bitsBy 44 = .ok (.ireturn, 1) := ax_dec dX7_bitsBy_q0_ok 24 (44, .ireturn, 1) rfl
theorem dX7_bitsBy_45 : decode cX7_bitsBy 45 = .ok (.aload_n 0, 1) := ax_dec dX7_bitsBy_q0_ok 25 (45, .aload_n 0, 1) rfl
theorem dX7_bitsBy_46 : decode cX7_bitsBy 46 = .ok (.getfield 43, 3) := ax_dec dX7_bitsBy_q0_ok 26 (46, .getfield 43, 3) rfl
theorem dX7_bitsBy_49 : decode cX7_bitsBy 49 = .ok (.iload_n 1, 1) := ax_dec dX7_bitsBy_q0_ok 27 (49, .iload_n 1, 1) rfl
theorem dX7_bitsBy_50 : decode cX7_bitsBy 50 = .ok (.iaload, 1) := ax_dec dX7_bitsBy_q0_ok 28 (50, .iaload, 1) rfl
theorem dX7_bitsBy_51 : decode cX7_bitsBy 51 = .ok (.iload_n 2, 1) := ax_dec dX7_bitsBy_q0_ok 29 (51, .iload_n 2, 1) rfl
theorem dX7_bitsBy_52 : decode cX7_bitsBy 52 = .ok (.if_icmp .eq 6, 3) := ax_dec dX7_bitsBy_q0_ok 30 (52, .if_icmp .eq 6, 3) rfl
theorem dX7_bitsBy_55 : decode cX7_bitsBy 55 = .ok (.bipush (-13), 2) := ax_dec dX7_bitsBy_q0_ok 31 (55, .bipush (-13), 2) rfl
def dX7_bitsBy_q1 : List (Nat × (Instr × Nat)) := [(57, .ireturn, 1), (58, .iconst 0, 1), (59, .istore 5, 2), (61, .iconst 0, 1), (62, .istore 6, 2), (64, .iload 6, 2), (66, .iload 4, 2), (68, .if_icmp .ge 103, 3), (71, .iload_n 3, 1), (72, .iconst 4, 1), (73, .iload 6, 2), (75, .imul, 1), (76, .iadd, 1), (77, .istore 7, 2), (79, .iload_n 3, 1), (80, .ifCond .lt 22, 3), (83, .iload 7, 2), (85, .iload_n 3, 1), (86, .if_icmp .lt 16, 3), (89, .iload 7, 2), (91, .aload_n 0, 1), (92, .getfield 46, 3), (95, .iload_n 1, 1), (96, .iaload, 1), (97, .iconst 4, 1), (98, .isub, 1), (99, .if_icmp .le 6, 3), (102, .bipush (-12), 2), (104, .ireturn, 1), (105, .bipush 40, 2), (107, .iload_n 1, 1), (108, .imul, 1)]
set_option maxRecDepth 100000 in
theorem dX7_bitsBy_q1_ok : ax_decs cX7_bitsBy dX7_bitsBy_q1 = true := by decide +kernel
theorem dX7_bitsBy_57 : decode cX7_bitsBy 57 = .ok (.ireturn, 1) := ax_dec dX7_bitsBy_q1_ok 0 (57, .ireturn, 1) rfl
theorem dX7_bitsBy_58 : decode cX7_bitsBy 58 = .ok (.iconst 0, 1) := ax_dec dX7_bitsBy_q1_ok 1 (58, .iconst 0, 1) rfl
theorem dX7_bitsBy_59 : decode cX7_bitsBy 59 = .ok (.istore 5, 2) := ax_dec dX7_bitsBy_q1_ok 2 (59, .istore 5, 2) rfl
theorem dX7_bitsBy_61 : decode cX7_bitsBy 61 = .ok (.iconst 0, 1) := ax_dec dX7_bitsBy_q1_ok 3 (61, .iconst 0, 1) rfl
theorem dX7_bitsBy_62 : decode cX7_bitsBy 62 = .ok (.istore 6, 2) := ax_dec dX7_bitsBy_q1_ok 4 (62, .istore 6, 2) rfl
theorem dX7_bitsBy_64 : decode cX7_bitsBy 64 = .ok (.iload 6, 2) := ax_dec dX7_bitsBy_q1_ok 5 (64, .iload 6, 2) rfl
theorem dX7_bitsBy_66 : decode cX7_bitsBy 66 = .ok (.iload 4, 2) := ax_dec dX7_bitsBy_q1_ok 6 (66, .iload 4, 2) rfl
theorem dX7_bitsBy_68 : decode cX7_bitsBy 68 = .ok (.if_icmp .ge 103, 3) := ax_dec dX7_bitsBy_q1_ok 7 (68, .if_icmp .ge 103, 3) rfl
theorem dX7_bitsBy_71 : decode cX7_bitsBy 71 = .ok (.iload_n 3, 1) := ax_dec dX7_bitsBy_q1_ok 8 (71, .iload_n 3, 1) rfl
theorem dX7_bitsBy_72 : decode cX7_bitsBy 72 = .ok (.iconst 4, 1) := ax_dec dX7_bitsBy_q1_ok 9 (72, .iconst 4, 1) rfl
theorem dX7_bitsBy_73 : decode cX7_bitsBy 73 = .ok (.iload 6, 2) := ax_dec dX7_bitsBy_q1_ok 10 (73, .iload 6, 2) rfl
theorem dX7_bitsBy_75 : decode cX7_bitsBy 75 = .ok (.imul, 1) := ax_dec dX7_bitsBy_q1_ok 11 (75, .imul, 1) rfl
theorem dX7_bitsBy_76 : decode cX7_bitsBy 76 = .ok (.iadd, 1) := ax_dec dX7_bitsBy_q1_ok 12 (76, .iadd, 1) rfl
theorem dX7_bitsBy_77 : decode cX7_bitsBy 77 = .ok (.istore 7, 2) := ax_dec dX7_bitsBy_q1_ok 13 (77, .istore 7, 2) rfl
theorem dX7_bitsBy_79 : decode cX7_bitsBy 79 = .ok (.iload_n 3, 1) := ax_dec dX7_bitsBy_q1_ok 14 (79, .iload_n 3, 1) rfl
theorem dX7_bitsBy_80 : decode cX7_bitsBy 80 = .ok (.ifCond .lt 22, 3) := ax_dec dX7_bitsBy_q1_ok 15 (80, .ifCond .lt 22, 3) rfl
theorem dX7_bitsBy_83 : decode cX7_bitsBy 83 = .ok (.iload 7, 2) := ax_dec dX7_bitsBy_q1_ok 16 (83, .iload 7, 2) rfl
theorem dX7_bitsBy_85 : decode cX7_bitsBy 85 = .ok (.iload_n 3, 1) := ax_dec dX7_bitsBy_q1_ok 17 (85, .iload_n 3, 1) rfl
theorem dX7_bitsBy_86 : decode cX7_bitsBy 86 = .ok (.if_icmp .lt 16, 3) := ax_dec dX7_bitsBy_q1_ok 18 (86, .if_icmp .lt 16, 3) rfl
theorem dX7_bitsBy_89 : decode cX7_bitsBy 89 = .ok (.iload 7, 2) := ax_dec dX7_bitsBy_q1_ok 19 (89, .iload 7, 2) rfl
theorem dX7_bitsBy_91 : decode cX7_bitsBy 91 = .ok (.aload_n 0, 1) := ax_dec dX7_bitsBy_q1_ok 20 (91, .aload_n 0, 1) rfl
theorem dX7_bitsBy_92 : decode cX7_bitsBy 92 = .ok (.getfield 46, 3) := ax_dec dX7_bitsBy_q1_ok 21 (92, .getfield 46, 3) rfl
theorem dX7_bitsBy_95 : decode cX7_bitsBy 95 = .ok (.iload_n 1, 1) := ax_dec dX7_bitsBy_q1_ok 22 (95, .iload_n 1, 1) rfl
theorem dX7_bitsBy_96 : decode cX7_bitsBy 96 = .ok (.iaload, 1) := ax_dec dX7_bitsBy_q1_ok 23 (96, .iaload, 1) rfl
theorem dX7_bitsBy_97 : decode cX7_bitsBy 97 = .ok (.iconst 4, 1) := ax_dec dX7_bitsBy_q1_ok 24 (97, .iconst 4, 1) rfl
theorem dX7_bitsBy_98 : decode cX7_bitsBy 98 = .ok (.isub, 1) := ax_dec dX7_bitsBy_q1_ok 25 (98, .isub, 1) rfl
theorem dX7_bitsBy_99 : decode cX7_bitsBy 99 = .ok (.if_icmp .le 6, 3) := ax_dec dX7_bitsBy_q1_ok 26 (99, .if_icmp .le 6, 3) rfl
theorem dX7_bitsBy_102 : decode cX7_bitsBy 102 = .ok (.bipush (-12), 2) := ax_dec dX7_bitsBy_q1_ok 27 (102, .bipush (-12), 2) rfl
theorem dX7_bitsBy_104 : decode cX7_bitsBy 104 = .ok (.ireturn, 1) := ax_dec dX7_bitsBy_q1_ok 28 (104, .ireturn, 1) rfl
theorem dX7_bitsBy_105 : decode cX7_bitsBy 105 = .ok (.bipush 40, 2) := ax_dec dX7_bitsBy_q1_ok 29 (105, .bipush 40, 2) rfl
theorem dX7_bitsBy_107 : decode cX7_bitsBy 107 = .ok (.iload_n 1, 1) := ax_dec dX7_bitsBy_q1_ok 30 (107, .iload_n 1, 1) rfl
theorem dX7_bitsBy_108 : decode cX7_bitsBy 108 = .ok (.imul, 1) := ax_dec dX7_bitsBy_q1_ok 31 (108, .imul, 1) rfl
def dX7_bitsBy_q2 : List (Nat × (Instr × Nat)) := [(109, .iload 7, 2), (111, .iadd, 1), (112, .istore 8, 2), (114, .iload 5, 2), (116, .aload_n 0, 1), (117, .aload_n 0, 1), (118, .getfield 49, 3), (121, .iload 8, 2), (123, .iaload, 1), (124, .aload_n 0, 1), (125, .getfield 49, 3), (128, .iload 8, 2), (130, .iconst 1, 1), (131, .iadd, 1), (132, .iaload, 1), (133, .aload_n 0, 1), (134, .getfield 49, 3), (137, .iload 8, 2), (139, .iconst 2, 1), (140, .iadd, 1), (141, .iaload, 1), (142, .aload_n 0, 1), (143, .getfield 49, 3), (146, .iload 8, 2), (148, .iconst 3, 1), (149, .iadd, 1), (150, .iaload, 1), (151, .invokevirtual 328, 3), (154, .ifCond .lt 7, 3), (157, .iconst 1, 1), (158, .goto 4, 3), (161, .iconst 0, 1)]
set_option maxRecDepth 100000 in
theorem dX7_bitsBy_q2_ok : ax_decs cX7_bitsBy dX7_bitsBy_q2 = true := by decide +kernel
theorem dX7_bitsBy_109 : decode cX7_bitsBy 109 = .ok (.iload 7, 2) := ax_dec dX7_bitsBy_q2_ok 0 (109, .iload 7, 2) rfl
theorem dX7_bitsBy_111 : decode cX7_bitsBy 111 = .ok (.iadd, 1) := ax_dec dX7_bitsBy_q2_ok 1 (111, .iadd, 1) rfl
theorem dX7_bitsBy_112 : decode cX7_bitsBy 112 = .ok (.istore 8, 2) := ax_dec dX7_bitsBy_q2_ok 2 (112, .istore 8, 2) rfl
theorem dX7_bitsBy_114 : decode cX7_bitsBy 114 = .ok (.iload 5, 2) := ax_dec dX7_bitsBy_q2_ok 3 (114, .iload 5, 2) rfl
theorem dX7_bitsBy_116 : decode cX7_bitsBy 116 = .ok (.aload_n 0, 1) := ax_dec dX7_bitsBy_q2_ok 4 (116, .aload_n 0, 1) rfl
theorem dX7_bitsBy_117 : decode cX7_bitsBy 117 = .ok (.aload_n 0, 1) := ax_dec dX7_bitsBy_q2_ok 5 (117, .aload_n 0, 1) rfl
theorem dX7_bitsBy_118 : decode cX7_bitsBy 118 = .ok (.getfield 49, 3) := ax_dec dX7_bitsBy_q2_ok 6 (118, .getfield 49, 3) rfl
theorem dX7_bitsBy_121 : decode cX7_bitsBy 121 = .ok (.iload 8, 2) := ax_dec dX7_bitsBy_q2_ok 7 (121, .iload 8, 2) rfl
theorem dX7_bitsBy_123 : decode cX7_bitsBy 123 = .ok (.iaload, 1) := ax_dec dX7_bitsBy_q2_ok 8 (123, .iaload, 1) rfl
theorem dX7_bitsBy_124 : decode cX7_bitsBy 124 = .ok (.aload_n 0, 1) := ax_dec dX7_bitsBy_q2_ok 9 (124, .aload_n 0, 1) rfl
theorem dX7_bitsBy_125 : decode cX7_bitsBy 125 = .ok (.getfield 49, 3) := ax_dec dX7_bitsBy_q2_ok 10 (125, .getfield 49, 3) rfl
theorem dX7_bitsBy_128 : decode cX7_bitsBy 128 = .ok (.iload 8, 2) := ax_dec dX7_bitsBy_q2_ok 11 (128, .iload 8, 2) rfl
theorem dX7_bitsBy_130 : decode cX7_bitsBy 130 = .ok (.iconst 1, 1) := ax_dec dX7_bitsBy_q2_ok 12 (130, .iconst 1, 1) rfl
theorem dX7_bitsBy_131 : decode cX7_bitsBy 131 = .ok (.iadd, 1) := ax_dec dX7_bitsBy_q2_ok 13 (131, .iadd, 1) rfl
theorem dX7_bitsBy_132 : decode cX7_bitsBy 132 = .ok (.iaload, 1) := ax_dec dX7_bitsBy_q2_ok 14 (132, .iaload, 1) rfl
theorem dX7_bitsBy_133 : decode cX7_bitsBy 133 = .ok (.aload_n 0, 1) := ax_dec dX7_bitsBy_q2_ok 15 (133, .aload_n 0, 1) rfl
theorem dX7_bitsBy_134 : decode cX7_bitsBy 134 = .ok (.getfield 49, 3) := ax_dec dX7_bitsBy_q2_ok 16 (134, .getfield 49, 3) rfl
theorem dX7_bitsBy_137 : decode cX7_bitsBy 137 = .ok (.iload 8, 2) := ax_dec dX7_bitsBy_q2_ok 17 (137, .iload 8, 2) rfl
theorem dX7_bitsBy_139 : decode cX7_bitsBy 139 = .ok (.iconst 2, 1) := ax_dec dX7_bitsBy_q2_ok 18 (139, .iconst 2, 1) rfl
theorem dX7_bitsBy_140 : decode cX7_bitsBy 140 = .ok (.iadd, 1) := ax_dec dX7_bitsBy_q2_ok 19 (140, .iadd, 1) rfl
theorem dX7_bitsBy_141 : decode cX7_bitsBy 141 = .ok (.iaload, 1) := ax_dec dX7_bitsBy_q2_ok 20 (141, .iaload, 1) rfl
theorem dX7_bitsBy_142 : decode cX7_bitsBy 142 = .ok (.aload_n 0, 1) := ax_dec dX7_bitsBy_q2_ok 21 (142, .aload_n 0, 1) rfl
theorem dX7_bitsBy_143 : decode cX7_bitsBy 143 = .ok (.getfield 49, 3) := ax_dec dX7_bitsBy_q2_ok 22 (143, .getfield 49, 3) rfl
theorem dX7_bitsBy_146 : decode cX7_bitsBy 146 = .ok (.iload 8, 2) := ax_dec dX7_bitsBy_q2_ok 23 (146, .iload 8, 2) rfl
theorem dX7_bitsBy_148 : decode cX7_bitsBy 148 = .ok (.iconst 3, 1) := ax_dec dX7_bitsBy_q2_ok 24 (148, .iconst 3, 1) rfl
theorem dX7_bitsBy_149 : decode cX7_bitsBy 149 = .ok (.iadd, 1) := ax_dec dX7_bitsBy_q2_ok 25 (149, .iadd, 1) rfl
theorem dX7_bitsBy_150 : decode cX7_bitsBy 150 = .ok (.iaload, 1) := ax_dec dX7_bitsBy_q2_ok 26 (150, .iaload, 1) rfl
theorem dX7_bitsBy_151 : decode cX7_bitsBy 151 = .ok (.invokevirtual 328, 3) := ax_dec dX7_bitsBy_q2_ok 27 (151, .invokevirtual 328, 3) rfl
theorem dX7_bitsBy_154 : decode cX7_bitsBy 154 = .ok (.ifCond .lt 7, 3) := ax_dec dX7_bitsBy_q2_ok 28 (154, .ifCond .lt 7, 3) rfl
theorem dX7_bitsBy_157 : decode cX7_bitsBy 157 = .ok (.iconst 1, 1) := ax_dec dX7_bitsBy_q2_ok 29 (157, .iconst 1, 1) rfl
theorem dX7_bitsBy_158 : decode cX7_bitsBy 158 = .ok (.goto 4, 3) := ax_dec dX7_bitsBy_q2_ok 30 (158, .goto 4, 3) rfl
theorem dX7_bitsBy_161 : decode cX7_bitsBy 161 = .ok (.iconst 0, 1) := ax_dec dX7_bitsBy_q2_ok 31 (161, .iconst 0, 1) rfl
def dX7_bitsBy_q3 : List (Nat × (Instr × Nat)) := [(162, .iadd, 1), (163, .istore 5, 2), (165, .iinc 6 1, 3), (168, .goto (-104), 3), (171, .iload 5, 2), (173, .ireturn, 1)]
set_option maxRecDepth 100000 in
theorem dX7_bitsBy_q3_ok : ax_decs cX7_bitsBy dX7_bitsBy_q3 = true := by decide +kernel
theorem dX7_bitsBy_162 : decode cX7_bitsBy 162 = .ok (.iadd, 1) := ax_dec dX7_bitsBy_q3_ok 0 (162, .iadd, 1) rfl
theorem dX7_bitsBy_163 : decode cX7_bitsBy 163 = .ok (.istore 5, 2) := ax_dec dX7_bitsBy_q3_ok 1 (163, .istore 5, 2) rfl
theorem dX7_bitsBy_165 : decode cX7_bitsBy 165 = .ok (.iinc 6 1, 3) := ax_dec dX7_bitsBy_q3_ok 2 (165, .iinc 6 1, 3) rfl
theorem dX7_bitsBy_168 : decode cX7_bitsBy 168 = .ok (.goto (-104), 3) := ax_dec dX7_bitsBy_q3_ok 3 (168, .goto (-104), 3) rfl
theorem dX7_bitsBy_171 : decode cX7_bitsBy 171 = .ok (.iload 5, 2) := ax_dec dX7_bitsBy_q3_ok 4 (171, .iload 5, 2) rfl
theorem dX7_bitsBy_173 : decode cX7_bitsBy 173 = .ok (.ireturn, 1) := ax_dec dX7_bitsBy_q3_ok 5 (173, .ireturn, 1) rfl
def dX7_isUnder_q0 : List (Nat × (Instr × Nat)) := [(0, .iload_n 1, 1), (1, .ifCond .eq 28, 3), (4, .iload_n 0, 1), (5, .iload_n 1, 1), (6, .if_icmp .eq 23, 3), (9, .iload_n 1, 1), (10, .iconst 1, 1), (11, .if_icmp .ne 8, 3), (14, .iload_n 0, 1), (15, .iconst 3, 1), (16, .if_icmp .eq 13, 3), (19, .iload_n 1, 1), (20, .iconst 2, 1), (21, .if_icmp .ne 12, 3), (24, .iload_n 0, 1), (25, .iconst 4, 1), (26, .if_icmp .ne 7, 3), (29, .iconst 1, 1), (30, .goto 4, 3), (33, .iconst 0, 1), (34, .ireturn, 1)]
set_option maxRecDepth 100000 in
theorem dX7_isUnder_q0_ok : ax_decs cX7_isUnder dX7_isUnder_q0 = true := by decide +kernel
theorem dX7_isUnder_0 : decode cX7_isUnder 0 = .ok (.iload_n 1, 1) := ax_dec dX7_isUnder_q0_ok 0 (0, .iload_n 1, 1) rfl
theorem dX7_isUnder_1 : decode cX7_isUnder 1 = .ok (.ifCond .eq 28, 3) := ax_dec dX7_isUnder_q0_ok 1 (1, .ifCond .eq 28, 3) rfl
theorem dX7_isUnder_4 : decode cX7_isUnder 4 = .ok (.iload_n 0, 1) := ax_dec dX7_isUnder_q0_ok 2 (4, .iload_n 0, 1) rfl
theorem dX7_isUnder_5 : decode cX7_isUnder 5 = .ok (.iload_n 1, 1) := ax_dec dX7_isUnder_q0_ok 3 (5, .iload_n 1, 1) rfl
theorem dX7_isUnder_6 : decode cX7_isUnder 6 = .ok (.if_icmp .eq 23, 3) := ax_dec dX7_isUnder_q0_ok 4 (6, .if_icmp .eq 23, 3) rfl
theorem dX7_isUnder_9 : decode cX7_isUnder 9 = .ok (.iload_n 1, 1) := ax_dec dX7_isUnder_q0_ok 5 (9, .iload_n 1, 1) rfl
theorem dX7_isUnder_10 : decode cX7_isUnder 10 = .ok (.iconst 1, 1) := ax_dec dX7_isUnder_q0_ok 6 (10, .iconst 1, 1) rfl
theorem dX7_isUnder_11 : decode cX7_isUnder 11 = .ok (.if_icmp .ne 8, 3) := ax_dec dX7_isUnder_q0_ok 7 (11, .if_icmp .ne 8, 3) rfl
theorem dX7_isUnder_14 : decode cX7_isUnder 14 = .ok (.iload_n 0, 1) := ax_dec dX7_isUnder_q0_ok 8 (14, .iload_n 0, 1) rfl
theorem dX7_isUnder_15 : decode cX7_isUnder 15 = .ok (.iconst 3, 1) := ax_dec dX7_isUnder_q0_ok 9 (15, .iconst 3, 1) rfl
theorem dX7_isUnder_16 : decode cX7_isUnder 16 = .ok (.if_icmp .eq 13, 3) := ax_dec dX7_isUnder_q0_ok 10 (16, .if_icmp .eq 13, 3) rfl
theorem dX7_isUnder_19 : decode cX7_isUnder 19 = .ok (.iload_n 1, 1) := ax_dec dX7_isUnder_q0_ok 11 (19, .iload_n 1, 1) rfl
theorem dX7_isUnder_20 : decode cX7_isUnder 20 = .ok (.iconst 2, 1) := ax_dec dX7_isUnder_q0_ok 12 (20, .iconst 2, 1) rfl
theorem dX7_isUnder_21 : decode cX7_isUnder 21 = .ok (.if_icmp .ne 12, 3) := ax_dec dX7_isUnder_q0_ok 13 (21, .if_icmp .ne 12, 3) rfl
theorem dX7_isUnder_24 : decode cX7_isUnder 24 = .ok (.iload_n 0, 1) := ax_dec dX7_isUnder_q0_ok 14 (24, .iload_n 0, 1) rfl
theorem dX7_isUnder_25 : decode cX7_isUnder 25 = .ok (.iconst 4, 1) := ax_dec dX7_isUnder_q0_ok 15 (25, .iconst 4, 1) rfl
theorem dX7_isUnder_26 : decode cX7_isUnder 26 = .ok (.if_icmp .ne 7, 3) := ax_dec dX7_isUnder_q0_ok 16 (26, .if_icmp .ne 7, 3) rfl
theorem dX7_isUnder_29 : decode cX7_isUnder 29 = .ok (.iconst 1, 1) := ax_dec dX7_isUnder_q0_ok 17 (29, .iconst 1, 1) rfl
theorem dX7_isUnder_30 : decode cX7_isUnder 30 = .ok (.goto 4, 3) := ax_dec dX7_isUnder_q0_ok 18 (30, .goto 4, 3) rfl
theorem dX7_isUnder_33 : decode cX7_isUnder 33 = .ok (.iconst 0, 1) := ax_dec dX7_isUnder_q0_ok 19 (33, .iconst 0, 1) rfl
theorem dX7_isUnder_34 : decode cX7_isUnder 34 = .ok (.ireturn, 1) := ax_dec dX7_isUnder_q0_ok 20 (34, .ireturn, 1) rfl
def dX7_taken_q0 : List (Nat × (Instr × Nat)) := [(0, .iload_n 2, 1), (1, .iconst 0, 1), (2, .bipush 6, 2), (4, .invokestatic 87, 3), (7, .ifCond .ne 6, 3), (10, .bipush (-2), 2), (12, .ireturn, 1), (13, .iload_n 1, 1), (14, .iconst 0, 1), (15, .bipush 19, 2), (17, .invokestatic 87, 3), (20, .ifCond .ne 6, 3), (23, .bipush (-12), 2), (25, .ireturn, 1), (26, .iload_n 1, 1), (27, .bipush 10, 2), (29, .if_icmp .ge 42, 3), (32, .iload_n 1, 1), (33, .aload_n 0, 1), (34, .getfield 84, 3), (37, .if_icmp .lt 8, 3), (40, .bipush (-11), 2), (42, .goto 28, 3), (45, .iload_n 2, 1), (46, .bipush 6, 2), (48, .if_icmp .ge 20, 3), (51, .aload_n 0, 1), (52, .getfield 13, 3), (55, .iload_n 1, 1), (56, .iaload, 1), (57, .iload_n 2, 1), (58, .invokestatic 331, 3)]
set_option maxRecDepth 100000 in
theorem dX7_taken_q0_ok : ax_decs cX7_taken dX7_taken_q0 = true := by decide +kernel
theorem dX7_taken_0 : decode cX7_taken 0 = .ok (.iload_n 2, 1) := ax_dec dX7_taken_q0_ok 0 (0, .iload_n 2, 1) rfl
theorem dX7_taken_1 : decode cX7_taken 1 = .ok (.iconst 0, 1) := ax_dec dX7_taken_q0_ok 1 (1, .iconst 0, 1) rfl
theorem dX7_taken_2 : decode cX7_taken 2 = .ok (.bipush 6, 2) := ax_dec dX7_taken_q0_ok 2 (2, .bipush 6, 2) rfl
theorem dX7_taken_4 : decode cX7_taken 4 = .ok (.invokestatic 87, 3) := ax_dec dX7_taken_q0_ok 3 (4, .invokestatic 87, 3) rfl
theorem dX7_taken_7 : decode cX7_taken 7 = .ok (.ifCond .ne 6, 3) := ax_dec dX7_taken_q0_ok 4 (7, .ifCond .ne 6, 3) rfl
theorem dX7_taken_10 : decode cX7_taken 10 = .ok (.bipush (-2), 2) := ax_dec dX7_taken_q0_ok 5 (10, .bipush (-2), 2) rfl
theorem dX7_taken_12 : decode cX7_taken 12 = .ok (.ireturn, 1) := ax_dec dX7_taken_q0_ok 6 (12, .ireturn, 1) rfl
theorem dX7_taken_13 : decode cX7_taken 13 = .ok (.iload_n 1, 1) := ax_dec dX7_taken_q0_ok 7 (13, .iload_n 1, 1) rfl
theorem dX7_taken_14 : decode cX7_taken 14 = .ok (.iconst 0, 1) := ax_dec dX7_taken_q0_ok 8 (14, .iconst 0, 1) rfl
theorem dX7_taken_15 : decode cX7_taken 15 = .ok (.bipush 19, 2) := ax_dec dX7_taken_q0_ok 9 (15, .bipush 19, 2) rfl
theorem dX7_taken_17 : decode cX7_taken 17 = .ok (.invokestatic 87, 3) := ax_dec dX7_taken_q0_ok 10 (17, .invokestatic 87, 3) rfl
theorem dX7_taken_20 : decode cX7_taken 20 = .ok (.ifCond .ne 6, 3) := ax_dec dX7_taken_q0_ok 11 (20, .ifCond .ne 6, 3) rfl
theorem dX7_taken_23 : decode cX7_taken 23 = .ok (.bipush (-12), 2) := ax_dec dX7_taken_q0_ok 12 (23, .bipush (-12), 2) rfl
theorem dX7_taken_25 : decode cX7_taken 25 = .ok (.ireturn, 1) := ax_dec dX7_taken_q0_ok 13 (25, .ireturn, 1) rfl
theorem dX7_taken_26 : decode cX7_taken 26 = .ok (.iload_n 1, 1) := ax_dec dX7_taken_q0_ok 14 (26, .iload_n 1, 1) rfl
theorem dX7_taken_27 : decode cX7_taken 27 = .ok (.bipush 10, 2) := ax_dec dX7_taken_q0_ok 15 (27, .bipush 10, 2) rfl
theorem dX7_taken_29 : decode cX7_taken 29 = .ok (.if_icmp .ge 42, 3) := ax_dec dX7_taken_q0_ok 16 (29, .if_icmp .ge 42, 3) rfl
theorem dX7_taken_32 : decode cX7_taken 32 = .ok (.iload_n 1, 1) := ax_dec dX7_taken_q0_ok 17 (32, .iload_n 1, 1) rfl
theorem dX7_taken_33 : decode cX7_taken 33 = .ok (.aload_n 0, 1) := ax_dec dX7_taken_q0_ok 18 (33, .aload_n 0, 1) rfl
theorem dX7_taken_34 : decode cX7_taken 34 = .ok (.getfield 84, 3) := ax_dec dX7_taken_q0_ok 19 (34, .getfield 84, 3) rfl
theorem dX7_taken_37 : decode cX7_taken 37 = .ok (.if_icmp .lt 8, 3) := ax_dec dX7_taken_q0_ok 20 (37, .if_icmp .lt 8, 3) rfl
theorem dX7_taken_40 : decode cX7_taken 40 = .ok (.bipush (-11), 2) := ax_dec dX7_taken_q0_ok 21 (40, .bipush (-11), 2) rfl
theorem dX7_taken_42 : decode cX7_taken 42 = .ok (.goto 28, 3) := ax_dec dX7_taken_q0_ok 22 (42, .goto 28, 3) rfl
theorem dX7_taken_45 : decode cX7_taken 45 = .ok (.iload_n 2, 1) := ax_dec dX7_taken_q0_ok 23 (45, .iload_n 2, 1) rfl
theorem dX7_taken_46 : decode cX7_taken 46 = .ok (.bipush 6, 2) := ax_dec dX7_taken_q0_ok 24 (46, .bipush 6, 2) rfl
theorem dX7_taken_48 : decode cX7_taken 48 = .ok (.if_icmp .ge 20, 3) := ax_dec dX7_taken_q0_ok 25 (48, .if_icmp .ge 20, 3) rfl
theorem dX7_taken_51 : decode cX7_taken 51 = .ok (.aload_n 0, 1) := ax_dec dX7_taken_q0_ok 26 (51, .aload_n 0, 1) rfl
theorem dX7_taken_52 : decode cX7_taken 52 = .ok (.getfield 13, 3) := ax_dec dX7_taken_q0_ok 27 (52, .getfield 13, 3) rfl
theorem dX7_taken_55 : decode cX7_taken 55 = .ok (.iload_n 1, 1) := ax_dec dX7_taken_q0_ok 28 (55, .iload_n 1, 1) rfl
theorem dX7_taken_56 : decode cX7_taken 56 = .ok (.iaload, 1) := ax_dec dX7_taken_q0_ok 29 (56, .iaload, 1) rfl
theorem dX7_taken_57 : decode cX7_taken 57 = .ok (.iload_n 2, 1) := ax_dec dX7_taken_q0_ok 30 (57, .iload_n 2, 1) rfl
theorem dX7_taken_58 : decode cX7_taken 58 = .ok (.invokestatic 331, 3) := ax_dec dX7_taken_q0_ok 31 (58, .invokestatic 331, 3) rfl
def dX7_taken_q1 : List (Nat × (Instr × Nat)) := [(61, .ifCond .eq 7, 3), (64, .iload_n 1, 1), (65, .goto 5, 3), (68, .bipush (-13), 2), (70, .ireturn, 1), (71, .iload_n 1, 1), (72, .bipush 10, 2), (74, .isub, 1), (75, .aload_n 0, 1), (76, .getfield 84, 3), (79, .if_icmp .ge 19, 3), (82, .aload_n 0, 1), (83, .getfield 28, 3), (86, .iload_n 1, 1), (87, .bipush 10, 2), (89, .isub, 1), (90, .iaload, 1), (91, .ifCond .le 7, 3), (94, .iconst 1, 1), (95, .goto 4, 3), (98, .iconst 0, 1), (99, .istore_n 3, 1), (100, .iload_n 3, 1), (101, .ifCond .ne 8, 3), (104, .bipush (-11), 2), (106, .goto 23, 3), (109, .iload_n 2, 1), (110, .bipush 6, 2), (112, .if_icmp .ne 15, 3), (115, .aload_n 0, 1), (116, .getfield 28, 3), (119, .iload_n 1, 1)]
set_option maxRecDepth 100000 in
theorem dX7_taken_q1_ok : ax_decs cX7_taken dX7_taken_q1 = true := by decide +kernel
theorem dX7_taken_61 : decode cX7_taken 61 = .ok (.ifCond .eq 7, 3) := ax_dec dX7_taken_q1_ok 0 (61, .ifCond .eq 7, 3) rfl
theorem dX7_taken_64 : decode cX7_taken 64 = .ok (.iload_n 1, 1) := ax_dec dX7_taken_q1_ok 1 (64, .iload_n 1, 1) rfl
theorem dX7_taken_65 : decode cX7_taken 65 = .ok (.goto 5, 3) := ax_dec dX7_taken_q1_ok 2 (65, .goto 5, 3) rfl
theorem dX7_taken_68 : decode cX7_taken 68 = .ok (.bipush (-13), 2) := ax_dec dX7_taken_q1_ok 3 (68, .bipush (-13), 2) rfl
theorem dX7_taken_70 : decode cX7_taken 70 = .ok (.ireturn, 1) := ax_dec dX7_taken_q1_ok 4 (70, .ireturn, 1) rfl
theorem dX7_taken_71 : decode cX7_taken 71 = .ok (.iload_n 1, 1) := ax_dec dX7_taken_q1_ok 5 (71, .iload_n 1, 1) rfl
theorem dX7_taken_72 : decode cX7_taken 72 = .ok (.bipush 10, 2) := ax_dec dX7_taken_q1_ok 6 (72, .bipush 10, 2) rfl
theorem dX7_taken_74 : decode cX7_taken 74 = .ok (.isub, 1) := ax_dec dX7_taken_q1_ok 7 (74, .isub, 1) rfl
theorem dX7_taken_75 : decode cX7_taken 75 = .ok (.aload_n 0, 1) := ax_dec dX7_taken_q1_ok 8 (75, .aload_n 0, 1) rfl
theorem dX7_taken_76 : decode cX7_taken 76 = .ok (.getfield 84, 3) := ax_dec dX7_taken_q1_ok 9 (76, .getfield 84, 3) rfl
theorem dX7_taken_79 : decode cX7_taken 79 = .ok (.if_icmp .ge 19, 3) := ax_dec dX7_taken_q1_ok 10 (79, .if_icmp .ge 19, 3) rfl
theorem dX7_taken_82 : decode cX7_taken 82 = .ok (.aload_n 0, 1) := ax_dec dX7_taken_q1_ok 11 (82, .aload_n 0, 1) rfl
theorem dX7_taken_83 : decode cX7_taken 83 = .ok (.getfield 28, 3) := ax_dec dX7_taken_q1_ok 12 (83, .getfield 28, 3) rfl
theorem dX7_taken_86 : decode cX7_taken 86 = .ok (.iload_n 1, 1) := ax_dec dX7_taken_q1_ok 13 (86, .iload_n 1, 1) rfl
theorem dX7_taken_87 : decode cX7_taken 87 = .ok (.bipush 10, 2) := ax_dec dX7_taken_q1_ok 14 (87, .bipush 10, 2) rfl
theorem dX7_taken_89 : decode cX7_taken 89 = .ok (.isub, 1) := ax_dec dX7_taken_q1_ok 15 (89, .isub, 1) rfl
theorem dX7_taken_90 : decode cX7_taken 90 = .ok (.iaload, 1) := ax_dec dX7_taken_q1_ok 16 (90, .iaload, 1) rfl
theorem dX7_taken_91 : decode cX7_taken 91 = .ok (.ifCond .le 7, 3) := ax_dec dX7_taken_q1_ok 17 (91, .ifCond .le 7, 3) rfl
theorem dX7_taken_94 : decode cX7_taken 94 = .ok (.iconst 1, 1) := ax_dec dX7_taken_q1_ok 18 (94, .iconst 1, 1) rfl
theorem dX7_taken_95 : decode cX7_taken 95 = .ok (.goto 4, 3) := ax_dec dX7_taken_q1_ok 19 (95, .goto 4, 3) rfl
theorem dX7_taken_98 : decode cX7_taken 98 = .ok (.iconst 0, 1) := ax_dec dX7_taken_q1_ok 20 (98, .iconst 0, 1) rfl
theorem dX7_taken_99 : decode cX7_taken 99 = .ok (.istore_n 3, 1) := ax_dec dX7_taken_q1_ok 21 (99, .istore_n 3, 1) rfl
theorem dX7_taken_100 : decode cX7_taken 100 = .ok (.iload_n 3, 1) := ax_dec dX7_taken_q1_ok 22 (100, .iload_n 3, 1) rfl
theorem dX7_taken_101 : decode cX7_taken 101 = .ok (.ifCond .ne 8, 3) := ax_dec dX7_taken_q1_ok 23 (101, .ifCond .ne 8, 3) rfl
theorem dX7_taken_104 : decode cX7_taken 104 = .ok (.bipush (-11), 2) := ax_dec dX7_taken_q1_ok 24 (104, .bipush (-11), 2) rfl
theorem dX7_taken_106 : decode cX7_taken 106 = .ok (.goto 23, 3) := ax_dec dX7_taken_q1_ok 25 (106, .goto 23, 3) rfl
theorem dX7_taken_109 : decode cX7_taken 109 = .ok (.iload_n 2, 1) := ax_dec dX7_taken_q1_ok 26 (109, .iload_n 2, 1) rfl
theorem dX7_taken_110 : decode cX7_taken 110 = .ok (.bipush 6, 2) := ax_dec dX7_taken_q1_ok 27 (110, .bipush 6, 2) rfl
theorem dX7_taken_112 : decode cX7_taken 112 = .ok (.if_icmp .ne 15, 3) := ax_dec dX7_taken_q1_ok 28 (112, .if_icmp .ne 15, 3) rfl
theorem dX7_taken_115 : decode cX7_taken 115 = .ok (.aload_n 0, 1) := ax_dec dX7_taken_q1_ok 29 (115, .aload_n 0, 1) rfl
theorem dX7_taken_116 : decode cX7_taken 116 = .ok (.getfield 28, 3) := ax_dec dX7_taken_q1_ok 30 (116, .getfield 28, 3) rfl
theorem dX7_taken_119 : decode cX7_taken 119 = .ok (.iload_n 1, 1) := ax_dec dX7_taken_q1_ok 31 (119, .iload_n 1, 1) rfl
def dX7_taken_q2 : List (Nat × (Instr × Nat)) := [(120, .bipush 10, 2), (122, .isub, 1), (123, .iaload, 1), (124, .goto 5, 3), (127, .bipush (-13), 2), (129, .ireturn, 1)]
set_option maxRecDepth 100000 in
theorem dX7_taken_q2_ok : ax_decs cX7_taken dX7_taken_q2 = true := by decide +kernel
theorem dX7_taken_120 : decode cX7_taken 120 = .ok (.bipush 10, 2) := ax_dec dX7_taken_q2_ok 0 (120, .bipush 10, 2) rfl
theorem dX7_taken_122 : decode cX7_taken 122 = .ok (.isub, 1) := ax_dec dX7_taken_q2_ok 1 (122, .isub, 1) rfl
theorem dX7_taken_123 : decode cX7_taken 123 = .ok (.iaload, 1) := ax_dec dX7_taken_q2_ok 2 (123, .iaload, 1) rfl
theorem dX7_taken_124 : decode cX7_taken 124 = .ok (.goto 5, 3) := ax_dec dX7_taken_q2_ok 3 (124, .goto 5, 3) rfl
theorem dX7_taken_127 : decode cX7_taken 127 = .ok (.bipush (-13), 2) := ax_dec dX7_taken_q2_ok 4 (127, .bipush (-13), 2) rfl
theorem dX7_taken_129 : decode cX7_taken 129 = .ok (.ireturn, 1) := ax_dec dX7_taken_q2_ok 5 (129, .ireturn, 1) rfl
def dJ6_bitCount_0f7a4_q0 : List (Nat × (Instr × Nat)) := [(0, .iload_n 0, 1), (1, .iload_n 0, 1), (2, .iconst 1, 1), (3, .iushr, 1), (4, .ldc_w 265, 3), (7, .iand, 1), (8, .isub, 1), (9, .istore_n 0, 1), (10, .iload_n 0, 1), (11, .ldc_w 266, 3), (14, .iand, 1), (15, .iload_n 0, 1), (16, .iconst 2, 1), (17, .iushr, 1), (18, .ldc_w 266, 3), (21, .iand, 1), (22, .iadd, 1), (23, .istore_n 0, 1), (24, .iload_n 0, 1), (25, .iload_n 0, 1), (26, .iconst 4, 1), (27, .iushr, 1), (28, .iadd, 1), (29, .ldc_w 267, 3), (32, .iand, 1), (33, .istore_n 0, 1), (34, .iload_n 0, 1), (35, .iload_n 0, 1), (36, .bipush 8, 2), (38, .iushr, 1), (39, .iadd, 1), (40, .istore_n 0, 1)]
set_option maxRecDepth 100000 in
theorem dJ6_bitCount_0f7a4_q0_ok : ax_decs cJ6_bitCount_0f7a4 dJ6_bitCount_0f7a4_q0 = true := by decide +kernel
theorem dJ6_bitCount_0f7a4_0 : decode cJ6_bitCount_0f7a4 0 = .ok (.iload_n 0, 1) := ax_dec dJ6_bitCount_0f7a4_q0_ok 0 (0, .iload_n 0, 1) rfl
theorem dJ6_bitCount_0f7a4_1 : decode cJ6_bitCount_0f7a4 1 = .ok (.iload_n 0, 1) := ax_dec dJ6_bitCount_0f7a4_q0_ok 1 (1, .iload_n 0, 1) rfl
theorem dJ6_bitCount_0f7a4_2 : decode cJ6_bitCount_0f7a4 2 = .ok (.iconst 1, 1) := ax_dec dJ6_bitCount_0f7a4_q0_ok 2 (2, .iconst 1, 1) rfl
theorem dJ6_bitCount_0f7a4_3 : decode cJ6_bitCount_0f7a4 3 = .ok (.iushr, 1) := ax_dec dJ6_bitCount_0f7a4_q0_ok 3 (3, .iushr, 1) rfl
theorem dJ6_bitCount_0f7a4_4 : decode cJ6_bitCount_0f7a4 4 = .ok (.ldc_w 265, 3) := ax_dec dJ6_bitCount_0f7a4_q0_ok 4 (4, .ldc_w 265, 3) rfl
theorem dJ6_bitCount_0f7a4_7 : decode cJ6_bitCount_0f7a4 7 = .ok (.iand, 1) := ax_dec dJ6_bitCount_0f7a4_q0_ok 5 (7, .iand, 1) rfl
theorem dJ6_bitCount_0f7a4_8 : decode cJ6_bitCount_0f7a4 8 = .ok (.isub, 1) := ax_dec dJ6_bitCount_0f7a4_q0_ok 6 (8, .isub, 1) rfl
theorem dJ6_bitCount_0f7a4_9 : decode cJ6_bitCount_0f7a4 9 = .ok (.istore_n 0, 1) := ax_dec dJ6_bitCount_0f7a4_q0_ok 7 (9, .istore_n 0, 1) rfl
theorem dJ6_bitCount_0f7a4_10 : decode cJ6_bitCount_0f7a4 10 = .ok (.iload_n 0, 1) := ax_dec dJ6_bitCount_0f7a4_q0_ok 8 (10, .iload_n 0, 1) rfl
theorem dJ6_bitCount_0f7a4_11 : decode cJ6_bitCount_0f7a4 11 = .ok (.ldc_w 266, 3) := ax_dec dJ6_bitCount_0f7a4_q0_ok 9 (11, .ldc_w 266, 3) rfl
theorem dJ6_bitCount_0f7a4_14 : decode cJ6_bitCount_0f7a4 14 = .ok (.iand, 1) := ax_dec dJ6_bitCount_0f7a4_q0_ok 10 (14, .iand, 1) rfl
theorem dJ6_bitCount_0f7a4_15 : decode cJ6_bitCount_0f7a4 15 = .ok (.iload_n 0, 1) := ax_dec dJ6_bitCount_0f7a4_q0_ok 11 (15, .iload_n 0, 1) rfl
theorem dJ6_bitCount_0f7a4_16 : decode cJ6_bitCount_0f7a4 16 = .ok (.iconst 2, 1) := ax_dec dJ6_bitCount_0f7a4_q0_ok 12 (16, .iconst 2, 1) rfl
theorem dJ6_bitCount_0f7a4_17 : decode cJ6_bitCount_0f7a4 17 = .ok (.iushr, 1) := ax_dec dJ6_bitCount_0f7a4_q0_ok 13 (17, .iushr, 1) rfl
theorem dJ6_bitCount_0f7a4_18 : decode cJ6_bitCount_0f7a4 18 = .ok (.ldc_w 266, 3) := ax_dec dJ6_bitCount_0f7a4_q0_ok 14 (18, .ldc_w 266, 3) rfl
theorem dJ6_bitCount_0f7a4_21 : decode cJ6_bitCount_0f7a4 21 = .ok (.iand, 1) := ax_dec dJ6_bitCount_0f7a4_q0_ok 15 (21, .iand, 1) rfl
theorem dJ6_bitCount_0f7a4_22 : decode cJ6_bitCount_0f7a4 22 = .ok (.iadd, 1) := ax_dec dJ6_bitCount_0f7a4_q0_ok 16 (22, .iadd, 1) rfl
theorem dJ6_bitCount_0f7a4_23 : decode cJ6_bitCount_0f7a4 23 = .ok (.istore_n 0, 1) := ax_dec dJ6_bitCount_0f7a4_q0_ok 17 (23, .istore_n 0, 1) rfl
theorem dJ6_bitCount_0f7a4_24 : decode cJ6_bitCount_0f7a4 24 = .ok (.iload_n 0, 1) := ax_dec dJ6_bitCount_0f7a4_q0_ok 18 (24, .iload_n 0, 1) rfl
theorem dJ6_bitCount_0f7a4_25 : decode cJ6_bitCount_0f7a4 25 = .ok (.iload_n 0, 1) := ax_dec dJ6_bitCount_0f7a4_q0_ok 19 (25, .iload_n 0, 1) rfl
theorem dJ6_bitCount_0f7a4_26 : decode cJ6_bitCount_0f7a4 26 = .ok (.iconst 4, 1) := ax_dec dJ6_bitCount_0f7a4_q0_ok 20 (26, .iconst 4, 1) rfl
theorem dJ6_bitCount_0f7a4_27 : decode cJ6_bitCount_0f7a4 27 = .ok (.iushr, 1) := ax_dec dJ6_bitCount_0f7a4_q0_ok 21 (27, .iushr, 1) rfl
theorem dJ6_bitCount_0f7a4_28 : decode cJ6_bitCount_0f7a4 28 = .ok (.iadd, 1) := ax_dec dJ6_bitCount_0f7a4_q0_ok 22 (28, .iadd, 1) rfl
theorem dJ6_bitCount_0f7a4_29 : decode cJ6_bitCount_0f7a4 29 = .ok (.ldc_w 267, 3) := ax_dec dJ6_bitCount_0f7a4_q0_ok 23 (29, .ldc_w 267, 3) rfl
theorem dJ6_bitCount_0f7a4_32 : decode cJ6_bitCount_0f7a4 32 = .ok (.iand, 1) := ax_dec dJ6_bitCount_0f7a4_q0_ok 24 (32, .iand, 1) rfl
theorem dJ6_bitCount_0f7a4_33 : decode cJ6_bitCount_0f7a4 33 = .ok (.istore_n 0, 1) := ax_dec dJ6_bitCount_0f7a4_q0_ok 25 (33, .istore_n 0, 1) rfl
theorem dJ6_bitCount_0f7a4_34 : decode cJ6_bitCount_0f7a4 34 = .ok (.iload_n 0, 1) := ax_dec dJ6_bitCount_0f7a4_q0_ok 26 (34, .iload_n 0, 1) rfl
theorem dJ6_bitCount_0f7a4_35 : decode cJ6_bitCount_0f7a4 35 = .ok (.iload_n 0, 1) := ax_dec dJ6_bitCount_0f7a4_q0_ok 27 (35, .iload_n 0, 1) rfl
theorem dJ6_bitCount_0f7a4_36 : decode cJ6_bitCount_0f7a4 36 = .ok (.bipush 8, 2) := ax_dec dJ6_bitCount_0f7a4_q0_ok 28 (36, .bipush 8, 2) rfl
theorem dJ6_bitCount_0f7a4_38 : decode cJ6_bitCount_0f7a4 38 = .ok (.iushr, 1) := ax_dec dJ6_bitCount_0f7a4_q0_ok 29 (38, .iushr, 1) rfl
theorem dJ6_bitCount_0f7a4_39 : decode cJ6_bitCount_0f7a4 39 = .ok (.iadd, 1) := ax_dec dJ6_bitCount_0f7a4_q0_ok 30 (39, .iadd, 1) rfl
theorem dJ6_bitCount_0f7a4_40 : decode cJ6_bitCount_0f7a4 40 = .ok (.istore_n 0, 1) := ax_dec dJ6_bitCount_0f7a4_q0_ok 31 (40, .istore_n 0, 1) rfl
def dJ6_bitCount_0f7a4_q1 : List (Nat × (Instr × Nat)) := [(41, .iload_n 0, 1), (42, .iload_n 0, 1), (43, .bipush 16, 2), (45, .iushr, 1), (46, .iadd, 1), (47, .istore_n 0, 1), (48, .iload_n 0, 1), (49, .bipush 63, 2), (51, .iand, 1), (52, .ireturn, 1)]
set_option maxRecDepth 100000 in
theorem dJ6_bitCount_0f7a4_q1_ok : ax_decs cJ6_bitCount_0f7a4 dJ6_bitCount_0f7a4_q1 = true := by decide +kernel
theorem dJ6_bitCount_0f7a4_41 : decode cJ6_bitCount_0f7a4 41 = .ok (.iload_n 0, 1) := ax_dec dJ6_bitCount_0f7a4_q1_ok 0 (41, .iload_n 0, 1) rfl
theorem dJ6_bitCount_0f7a4_42 : decode cJ6_bitCount_0f7a4 42 = .ok (.iload_n 0, 1) := ax_dec dJ6_bitCount_0f7a4_q1_ok 1 (42, .iload_n 0, 1) rfl
theorem dJ6_bitCount_0f7a4_43 : decode cJ6_bitCount_0f7a4 43 = .ok (.bipush 16, 2) := ax_dec dJ6_bitCount_0f7a4_q1_ok 2 (43, .bipush 16, 2) rfl
theorem dJ6_bitCount_0f7a4_45 : decode cJ6_bitCount_0f7a4 45 = .ok (.iushr, 1) := ax_dec dJ6_bitCount_0f7a4_q1_ok 3 (45, .iushr, 1) rfl
theorem dJ6_bitCount_0f7a4_46 : decode cJ6_bitCount_0f7a4 46 = .ok (.iadd, 1) := ax_dec dJ6_bitCount_0f7a4_q1_ok 4 (46, .iadd, 1) rfl
theorem dJ6_bitCount_0f7a4_47 : decode cJ6_bitCount_0f7a4 47 = .ok (.istore_n 0, 1) := ax_dec dJ6_bitCount_0f7a4_q1_ok 5 (47, .istore_n 0, 1) rfl
theorem dJ6_bitCount_0f7a4_48 : decode cJ6_bitCount_0f7a4 48 = .ok (.iload_n 0, 1) := ax_dec dJ6_bitCount_0f7a4_q1_ok 6 (48, .iload_n 0, 1) rfl
theorem dJ6_bitCount_0f7a4_49 : decode cJ6_bitCount_0f7a4 49 = .ok (.bipush 63, 2) := ax_dec dJ6_bitCount_0f7a4_q1_ok 7 (49, .bipush 63, 2) rfl
theorem dJ6_bitCount_0f7a4_51 : decode cJ6_bitCount_0f7a4 51 = .ok (.iand, 1) := ax_dec dJ6_bitCount_0f7a4_q1_ok 8 (51, .iand, 1) rfl
theorem dJ6_bitCount_0f7a4_52 : decode cJ6_bitCount_0f7a4 52 = .ok (.ireturn, 1) := ax_dec dJ6_bitCount_0f7a4_q1_ok 9 (52, .ireturn, 1) rfl
def dJ9_max_7cf53_q0 : List (Nat × (Instr × Nat)) := [(0, .iload_n 0, 1), (1, .iload_n 1, 1), (2, .if_icmp .lt 7, 3), (5, .iload_n 0, 1), (6, .goto 4, 3), (9, .iload_n 1, 1), (10, .ireturn, 1)]
set_option maxRecDepth 100000 in
theorem dJ9_max_7cf53_q0_ok : ax_decs cJ9_max_7cf53 dJ9_max_7cf53_q0 = true := by decide +kernel
theorem dJ9_max_7cf53_0 : decode cJ9_max_7cf53 0 = .ok (.iload_n 0, 1) := ax_dec dJ9_max_7cf53_q0_ok 0 (0, .iload_n 0, 1) rfl
theorem dJ9_max_7cf53_1 : decode cJ9_max_7cf53 1 = .ok (.iload_n 1, 1) := ax_dec dJ9_max_7cf53_q0_ok 1 (1, .iload_n 1, 1) rfl
theorem dJ9_max_7cf53_2 : decode cJ9_max_7cf53 2 = .ok (.if_icmp .lt 7, 3) := ax_dec dJ9_max_7cf53_q0_ok 2 (2, .if_icmp .lt 7, 3) rfl
theorem dJ9_max_7cf53_5 : decode cJ9_max_7cf53 5 = .ok (.iload_n 0, 1) := ax_dec dJ9_max_7cf53_q0_ok 3 (5, .iload_n 0, 1) rfl
theorem dJ9_max_7cf53_6 : decode cJ9_max_7cf53 6 = .ok (.goto 4, 3) := ax_dec dJ9_max_7cf53_q0_ok 4 (6, .goto 4, 3) rfl
theorem dJ9_max_7cf53_9 : decode cJ9_max_7cf53 9 = .ok (.iload_n 1, 1) := ax_dec dJ9_max_7cf53_q0_ok 5 (9, .iload_n 1, 1) rfl
theorem dJ9_max_7cf53_10 : decode cJ9_max_7cf53 10 = .ok (.ireturn, 1) := ax_dec dJ9_max_7cf53_q0_ok 6 (10, .ireturn, 1) rfl
def dJ9_min_7cf53_q0 : List (Nat × (Instr × Nat)) := [(0, .iload_n 0, 1), (1, .iload_n 1, 1), (2, .if_icmp .gt 7, 3), (5, .iload_n 0, 1), (6, .goto 4, 3), (9, .iload_n 1, 1), (10, .ireturn, 1)]
set_option maxRecDepth 100000 in
theorem dJ9_min_7cf53_q0_ok : ax_decs cJ9_min_7cf53 dJ9_min_7cf53_q0 = true := by decide +kernel
theorem dJ9_min_7cf53_0 : decode cJ9_min_7cf53 0 = .ok (.iload_n 0, 1) := ax_dec dJ9_min_7cf53_q0_ok 0 (0, .iload_n 0, 1) rfl
theorem dJ9_min_7cf53_1 : decode cJ9_min_7cf53 1 = .ok (.iload_n 1, 1) := ax_dec dJ9_min_7cf53_q0_ok 1 (1, .iload_n 1, 1) rfl
theorem dJ9_min_7cf53_2 : decode cJ9_min_7cf53 2 = .ok (.if_icmp .gt 7, 3) := ax_dec dJ9_min_7cf53_q0_ok 2 (2, .if_icmp .gt 7, 3) rfl
theorem dJ9_min_7cf53_5 : decode cJ9_min_7cf53 5 = .ok (.iload_n 0, 1) := ax_dec dJ9_min_7cf53_q0_ok 3 (5, .iload_n 0, 1) rfl
theorem dJ9_min_7cf53_6 : decode cJ9_min_7cf53 6 = .ok (.goto 4, 3) := ax_dec dJ9_min_7cf53_q0_ok 4 (6, .goto 4, 3) rfl
theorem dJ9_min_7cf53_9 : decode cJ9_min_7cf53 9 = .ok (.iload_n 1, 1) := ax_dec dJ9_min_7cf53_q0_ok 5 (9, .iload_n 1, 1) rfl
theorem dJ9_min_7cf53_10 : decode cJ9_min_7cf53 10 = .ok (.ireturn, 1) := ax_dec dJ9_min_7cf53_q0_ok 6 (10, .ireturn, 1) rfl
def dJ0_length_8abf5_q0 : List (Nat × (Instr × Nat)) := [(0, .aload_n 0, 1), (1, .getfield 9, 3), (4, .arraylength, 1), (5, .aload_n 0, 1), (6, .invokevirtual 335, 3), (9, .ishr, 1), (10, .ireturn, 1)]
set_option maxRecDepth 100000 in
theorem dJ0_length_8abf5_q0_ok : ax_decs cJ0_length_8abf5 dJ0_length_8abf5_q0 = true := by decide +kernel
theorem dJ0_length_8abf5_0 : decode cJ0_length_8abf5 0 = .ok (.aload_n 0, 1) := ax_dec dJ0_length_8abf5_q0_ok 0 (0, .aload_n 0, 1) rfl
theorem dJ0_length_8abf5_1 : decode cJ0_length_8abf5 1 = .ok (.getfield 9, 3) := ax_dec dJ0_length_8abf5_q0_ok 1 (1, .getfield 9, 3) rfl
theorem dJ0_length_8abf5_4 : decode cJ0_length_8abf5 4 = .ok (.arraylength, 1) := ax_dec dJ0_length_8abf5_q0_ok 2 (4, .arraylength, 1) rfl
theorem dJ0_length_8abf5_5 : decode cJ0_length_8abf5 5 = .ok (.aload_n 0, 1) := ax_dec dJ0_length_8abf5_q0_ok 3 (5, .aload_n 0, 1) rfl
theorem dJ0_length_8abf5_6 : decode cJ0_length_8abf5 6 = .ok (.invokevirtual 335, 3) := ax_dec dJ0_length_8abf5_q0_ok 4 (6, .invokevirtual 335, 3) rfl
theorem dJ0_length_8abf5_9 : decode cJ0_length_8abf5 9 = .ok (.ishr, 1) := ax_dec dJ0_length_8abf5_q0_ok 5 (9, .ishr, 1) rfl
theorem dJ0_length_8abf5_10 : decode cJ0_length_8abf5 10 = .ok (.ireturn, 1) := ax_dec dJ0_length_8abf5_q0_ok 6 (10, .ireturn, 1) rfl
def dJ0_charAt_5068e_q0 : List (Nat × (Instr × Nat)) := [(0, .aload_n 0, 1), (1, .invokevirtual 492, 3), (4, .ifCond .eq 12, 3), (7, .aload_n 0, 1), (8, .getfield 9, 3), (11, .iload_n 1, 1), (12, .invokestatic 495, 3), (15, .ireturn, 1), (16, .aload_n 0, 1), (17, .getfield 9, 3), (20, .iload_n 1, 1), (21, .invokestatic 498, 3), (24, .ireturn, 1)]
set_option maxRecDepth 100000 in
theorem dJ0_charAt_5068e_q0_ok : ax_decs cJ0_charAt_5068e dJ0_charAt_5068e_q0 = true := by decide +kernel
theorem dJ0_charAt_5068e_0 : decode cJ0_charAt_5068e 0 = .ok (.aload_n 0, 1) := ax_dec dJ0_charAt_5068e_q0_ok 0 (0, .aload_n 0, 1) rfl
theorem dJ0_charAt_5068e_1 : decode cJ0_charAt_5068e 1 = .ok (.invokevirtual 492, 3) := ax_dec dJ0_charAt_5068e_q0_ok 1 (1, .invokevirtual 492, 3) rfl
theorem dJ0_charAt_5068e_4 : decode cJ0_charAt_5068e 4 = .ok (.ifCond .eq 12, 3) := ax_dec dJ0_charAt_5068e_q0_ok 2 (4, .ifCond .eq 12, 3) rfl
theorem dJ0_charAt_5068e_7 : decode cJ0_charAt_5068e 7 = .ok (.aload_n 0, 1) := ax_dec dJ0_charAt_5068e_q0_ok 3 (7, .aload_n 0, 1) rfl
theorem dJ0_charAt_5068e_8 : decode cJ0_charAt_5068e 8 = .ok (.getfield 9, 3) := ax_dec dJ0_charAt_5068e_q0_ok 4 (8, .getfield 9, 3) rfl
theorem dJ0_charAt_5068e_11 : decode cJ0_charAt_5068e 11 = .ok (.iload_n 1, 1) := ax_dec dJ0_charAt_5068e_q0_ok 5 (11, .iload_n 1, 1) rfl
theorem dJ0_charAt_5068e_12 : decode cJ0_charAt_5068e 12 = .ok (.invokestatic 495, 3) := ax_dec dJ0_charAt_5068e_q0_ok 6 (12, .invokestatic 495, 3) rfl
theorem dJ0_charAt_5068e_15 : decode cJ0_charAt_5068e 15 = .ok (.ireturn, 1) := ax_dec dJ0_charAt_5068e_q0_ok 7 (15, .ireturn, 1) rfl
theorem dJ0_charAt_5068e_16 : decode cJ0_charAt_5068e 16 = .ok (.aload_n 0, 1) := ax_dec dJ0_charAt_5068e_q0_ok 8 (16, .aload_n 0, 1) rfl
theorem dJ0_charAt_5068e_17 : decode cJ0_charAt_5068e 17 = .ok (.getfield 9, 3) := ax_dec dJ0_charAt_5068e_q0_ok 9 (17, .getfield 9, 3) rfl
theorem dJ0_charAt_5068e_20 : decode cJ0_charAt_5068e 20 = .ok (.iload_n 1, 1) := ax_dec dJ0_charAt_5068e_q0_ok 10 (20, .iload_n 1, 1) rfl
theorem dJ0_charAt_5068e_21 : decode cJ0_charAt_5068e 21 = .ok (.invokestatic 498, 3) := ax_dec dJ0_charAt_5068e_q0_ok 11 (21, .invokestatic 498, 3) rfl
theorem dJ0_charAt_5068e_24 : decode cJ0_charAt_5068e 24 = .ok (.ireturn, 1) := ax_dec dJ0_charAt_5068e_q0_ok 12 (24, .ireturn, 1) rfl
def dJ0_coder_7d493_q0 : List (Nat × (Instr × Nat)) := [(0, .getstatic 38, 3), (3, .ifCond .eq 10, 3), (6, .aload_n 0, 1), (7, .getfield 15, 3), (10, .goto 4, 3), (13, .iconst 1, 1), (14, .ireturn, 1)]
set_option maxRecDepth 100000 in
theorem dJ0_coder_7d493_q0_ok : ax_decs cJ0_coder_7d493 dJ0_coder_7d493_q0 = true := by decide +kernel
theorem dJ0_coder_7d493_0 : decode cJ0_coder_7d493 0 = .ok (.getstatic 38, 3) := ax_dec dJ0_coder_7d493_q0_ok 0 (0, .getstatic 38, 3) rfl
theorem dJ0_coder_7d493_3 : decode cJ0_coder_7d493 3 = .ok (.ifCond .eq 10, 3) := ax_dec dJ0_coder_7d493_q0_ok 1 (3, .ifCond .eq 10, 3) rfl
theorem dJ0_coder_7d493_6 : decode cJ0_coder_7d493 6 = .ok (.aload_n 0, 1) := ax_dec dJ0_coder_7d493_q0_ok 2 (6, .aload_n 0, 1) rfl
theorem dJ0_coder_7d493_7 : decode cJ0_coder_7d493 7 = .ok (.getfield 15, 3) := ax_dec dJ0_coder_7d493_q0_ok 3 (7, .getfield 15, 3) rfl
theorem dJ0_coder_7d493_10 : decode cJ0_coder_7d493 10 = .ok (.goto 4, 3) := ax_dec dJ0_coder_7d493_q0_ok 4 (10, .goto 4, 3) rfl
theorem dJ0_coder_7d493_13 : decode cJ0_coder_7d493 13 = .ok (.iconst 1, 1) := ax_dec dJ0_coder_7d493_q0_ok 5 (13, .iconst 1, 1) rfl
theorem dJ0_coder_7d493_14 : decode cJ0_coder_7d493 14 = .ok (.ireturn, 1) := ax_dec dJ0_coder_7d493_q0_ok 6 (14, .ireturn, 1) rfl
def dJ0_isLatin1_aae02_q0 : List (Nat × (Instr × Nat)) := [(0, .getstatic 38, 3), (3, .ifCond .eq 14, 3), (6, .aload_n 0, 1), (7, .getfield 15, 3), (10, .ifCond .ne 7, 3), (13, .iconst 1, 1), (14, .goto 4, 3), (17, .iconst 0, 1), (18, .ireturn, 1)]
set_option maxRecDepth 100000 in
theorem dJ0_isLatin1_aae02_q0_ok : ax_decs cJ0_isLatin1_aae02 dJ0_isLatin1_aae02_q0 = true := by decide +kernel
theorem dJ0_isLatin1_aae02_0 : decode cJ0_isLatin1_aae02 0 = .ok (.getstatic 38, 3) := ax_dec dJ0_isLatin1_aae02_q0_ok 0 (0, .getstatic 38, 3) rfl
theorem dJ0_isLatin1_aae02_3 : decode cJ0_isLatin1_aae02 3 = .ok (.ifCond .eq 14, 3) := ax_dec dJ0_isLatin1_aae02_q0_ok 1 (3, .ifCond .eq 14, 3) rfl
theorem dJ0_isLatin1_aae02_6 : decode cJ0_isLatin1_aae02 6 = .ok (.aload_n 0, 1) := ax_dec dJ0_isLatin1_aae02_q0_ok 2 (6, .aload_n 0, 1) rfl
theorem dJ0_isLatin1_aae02_7 : decode cJ0_isLatin1_aae02 7 = .ok (.getfield 15, 3) := ax_dec dJ0_isLatin1_aae02_q0_ok 3 (7, .getfield 15, 3) rfl
theorem dJ0_isLatin1_aae02_10 : decode cJ0_isLatin1_aae02 10 = .ok (.ifCond .ne 7, 3) := ax_dec dJ0_isLatin1_aae02_q0_ok 4 (10, .ifCond .ne 7, 3) rfl
theorem dJ0_isLatin1_aae02_13 : decode cJ0_isLatin1_aae02 13 = .ok (.iconst 1, 1) := ax_dec dJ0_isLatin1_aae02_q0_ok 5 (13, .iconst 1, 1) rfl
theorem dJ0_isLatin1_aae02_14 : decode cJ0_isLatin1_aae02 14 = .ok (.goto 4, 3) := ax_dec dJ0_isLatin1_aae02_q0_ok 6 (14, .goto 4, 3) rfl
theorem dJ0_isLatin1_aae02_17 : decode cJ0_isLatin1_aae02 17 = .ok (.iconst 0, 1) := ax_dec dJ0_isLatin1_aae02_q0_ok 7 (17, .iconst 0, 1) rfl
theorem dJ0_isLatin1_aae02_18 : decode cJ0_isLatin1_aae02 18 = .ok (.ireturn, 1) := ax_dec dJ0_isLatin1_aae02_q0_ok 8 (18, .ireturn, 1) rfl
def dJ0_checkIndex_df160_q0 : List (Nat × (Instr × Nat)) := [(0, .iload_n 0, 1), (1, .iload_n 1, 1), (2, .getstatic 1053, 3), (5, .invokestatic 1059, 3), (8, .pop, 1), (9, .return_, 1)]
set_option maxRecDepth 100000 in
theorem dJ0_checkIndex_df160_q0_ok : ax_decs cJ0_checkIndex_df160 dJ0_checkIndex_df160_q0 = true := by decide +kernel
theorem dJ0_checkIndex_df160_0 : decode cJ0_checkIndex_df160 0 = .ok (.iload_n 0, 1) := ax_dec dJ0_checkIndex_df160_q0_ok 0 (0, .iload_n 0, 1) rfl
theorem dJ0_checkIndex_df160_1 : decode cJ0_checkIndex_df160 1 = .ok (.iload_n 1, 1) := ax_dec dJ0_checkIndex_df160_q0_ok 1 (1, .iload_n 1, 1) rfl
theorem dJ0_checkIndex_df160_2 : decode cJ0_checkIndex_df160 2 = .ok (.getstatic 1053, 3) := ax_dec dJ0_checkIndex_df160_q0_ok 2 (2, .getstatic 1053, 3) rfl
theorem dJ0_checkIndex_df160_5 : decode cJ0_checkIndex_df160 5 = .ok (.invokestatic 1059, 3) := ax_dec dJ0_checkIndex_df160_q0_ok 3 (5, .invokestatic 1059, 3) rfl
theorem dJ0_checkIndex_df160_8 : decode cJ0_checkIndex_df160 8 = .ok (.pop, 1) := ax_dec dJ0_checkIndex_df160_q0_ok 4 (8, .pop, 1) rfl
theorem dJ0_checkIndex_df160_9 : decode cJ0_checkIndex_df160 9 = .ok (.return_, 1) := ax_dec dJ0_checkIndex_df160_q0_ok 5 (9, .return_, 1) rfl
def dJ1_charAt_3b067_q0 : List (Nat × (Instr × Nat)) := [(0, .iload_n 1, 1), (1, .aload_n 0, 1), (2, .arraylength, 1), (3, .invokestatic 9, 3), (6, .aload_n 0, 1), (7, .iload_n 1, 1), (8, .baload, 1), (9, .sipush 255, 3), (12, .iand, 1), (13, .i2c, 1), (14, .ireturn, 1)]
set_option maxRecDepth 100000 in
theorem dJ1_charAt_3b067_q0_ok : ax_decs cJ1_charAt_3b067 dJ1_charAt_3b067_q0 = true := by decide +kernel
theorem dJ1_charAt_3b067_0 : decode cJ1_charAt_3b067 0 = .ok (.iload_n 1, 1) := ax_dec dJ1_charAt_3b067_q0_ok 0 (0, .iload_n 1, 1) rfl
theorem dJ1_charAt_3b067_1 : decode cJ1_charAt_3b067 1 = .ok (.aload_n 0, 1) := ax_dec dJ1_charAt_3b067_q0_ok 1 (1, .aload_n 0, 1) rfl
theorem dJ1_charAt_3b067_2 : decode cJ1_charAt_3b067 2 = .ok (.arraylength, 1) := ax_dec dJ1_charAt_3b067_q0_ok 2 (2, .arraylength, 1) rfl
theorem dJ1_charAt_3b067_3 : decode cJ1_charAt_3b067 3 = .ok (.invokestatic 9, 3) := ax_dec dJ1_charAt_3b067_q0_ok 3 (3, .invokestatic 9, 3) rfl
theorem dJ1_charAt_3b067_6 : decode cJ1_charAt_3b067 6 = .ok (.aload_n 0, 1) := ax_dec dJ1_charAt_3b067_q0_ok 4 (6, .aload_n 0, 1) rfl
theorem dJ1_charAt_3b067_7 : decode cJ1_charAt_3b067 7 = .ok (.iload_n 1, 1) := ax_dec dJ1_charAt_3b067_q0_ok 5 (7, .iload_n 1, 1) rfl
theorem dJ1_charAt_3b067_8 : decode cJ1_charAt_3b067 8 = .ok (.baload, 1) := ax_dec dJ1_charAt_3b067_q0_ok 6 (8, .baload, 1) rfl
theorem dJ1_charAt_3b067_9 : decode cJ1_charAt_3b067 9 = .ok (.sipush 255, 3) := ax_dec dJ1_charAt_3b067_q0_ok 7 (9, .sipush 255, 3) rfl
theorem dJ1_charAt_3b067_12 : decode cJ1_charAt_3b067 12 = .ok (.iand, 1) := ax_dec dJ1_charAt_3b067_q0_ok 8 (12, .iand, 1) rfl
theorem dJ1_charAt_3b067_13 : decode cJ1_charAt_3b067 13 = .ok (.i2c, 1) := ax_dec dJ1_charAt_3b067_q0_ok 9 (13, .i2c, 1) rfl
theorem dJ1_charAt_3b067_14 : decode cJ1_charAt_3b067 14 = .ok (.ireturn, 1) := ax_dec dJ1_charAt_3b067_q0_ok 10 (14, .ireturn, 1) rfl
def dJ2_getChar_3b067_q0 : List (Nat × (Instr × Nat)) := [(0, .getstatic 44, 3), (3, .ifCond .ne 25, 3), (6, .iload_n 1, 1), (7, .ifCond .lt 11, 3), (10, .iload_n 1, 1), (11, .aload_n 0, 1), (12, .invokestatic 48, 3), (15, .if_icmp .lt 13, 3), (18, .new 52, 3), (21, .dup, 1), (22, .ldc 54, 2), (24, .invokespecial 56, 3), (27, .athrow, 1), (28, .iload_n 1, 1), (29, .iconst 1, 1), (30, .ishl, 1), (31, .istore_n 1, 1), (32, .aload_n 0, 1), (33, .iload_n 1, 1), (34, .iinc 1 1, 3), (37, .baload, 1), (38, .sipush 255, 3), (41, .iand, 1), (42, .getstatic 59, 3), (45, .ishl, 1), (46, .aload_n 0, 1), (47, .iload_n 1, 1), (48, .baload, 1), (49, .sipush 255, 3), (52, .iand, 1), (53, .getstatic 63, 3), (56, .ishl, 1)]
set_option maxRecDepth 100000 in
theorem dJ2_getChar_3b067_q0_ok : ax_decs cJ2_getChar_3b067 dJ2_getChar_3b067_q0 = true := by decide +kernel
theorem dJ2_getChar_3b067_0 : decode cJ2_getChar_3b067 0 = .ok (.getstatic 44, 3) := ax_dec dJ2_getChar_3b067_q0_ok 0 (0, .getstatic 44, 3) rfl
theorem dJ2_getChar_3b067_3 : decode cJ2_getChar_3b067 3 = .ok (.ifCond .ne 25, 3) := ax_dec dJ2_getChar_3b067_q0_ok 1 (3, .ifCond .ne 25, 3) rfl
theorem dJ2_getChar_3b067_6 : decode cJ2_getChar_3b067 6 = .ok (.iload_n 1, 1) := ax_dec dJ2_getChar_3b067_q0_ok 2 (6, .iload_n 1, 1) rfl
theorem dJ2_getChar_3b067_7 : decode cJ2_getChar_3b067 7 = .ok (.ifCond .lt 11, 3) := ax_dec dJ2_getChar_3b067_q0_ok 3 (7, .ifCond .lt 11, 3) rfl
theorem dJ2_getChar_3b067_10 : decode cJ2_getChar_3b067 10 = .ok (.iload_n 1, 1) := ax_dec dJ2_getChar_3b067_q0_ok 4 (10, .iload_n 1, 1) rfl
theorem dJ2_getChar_3b067_11 : decode cJ2_getChar_3b067 11 = .ok (.aload_n 0, 1) := ax_dec dJ2_getChar_3b067_q0_ok 5 (11, .aload_n 0, 1) rfl
theorem dJ2_getChar_3b067_12 : decode cJ2_getChar_3b067 12 = .ok (.invokestatic 48, 3) := ax_dec dJ2_getChar_3b067_q0_ok 6 (12, .invokestatic 48, 3) rfl
theorem dJ2_getChar_3b067_15 : decode cJ2_getChar_3b067 15 = .ok (.if_icmp .lt 13, 3) := ax_dec dJ2_getChar_3b067_q0_ok 7 (15, .if_icmp .lt 13, 3) rfl
theorem dJ2_getChar_3b067_18 : decode cJ2_getChar_3b067 18 = .ok (.new 52, 3) := ax_dec dJ2_getChar_3b067_q0_ok 8 (18, .new 52, 3) rfl
theorem dJ2_getChar_3b067_21 : decode cJ2_getChar_3b067 21 = .ok (.dup, 1) := ax_dec dJ2_getChar_3b067_q0_ok 9 (21, .dup, 1) rfl
theorem dJ2_getChar_3b067_22 : decode cJ2_getChar_3b067 22 = .ok (.ldc 54, 2) := ax_dec dJ2_getChar_3b067_q0_ok 10 (22, .ldc 54, 2) rfl
theorem dJ2_getChar_3b067_24 : decode cJ2_getChar_3b067 24 = .ok (.invokespecial 56, 3) := ax_dec dJ2_getChar_3b067_q0_ok 11 (24, .invokespecial 56, 3) rfl
theorem dJ2_getChar_3b067_27 : decode cJ2_getChar_3b067 27 = .ok (.athrow, 1) := ax_dec dJ2_getChar_3b067_q0_ok 12 (27, .athrow, 1) rfl
theorem dJ2_getChar_3b067_28 : decode cJ2_getChar_3b067 28 = .ok (.iload_n 1, 1) := ax_dec dJ2_getChar_3b067_q0_ok 13 (28, .iload_n 1, 1) rfl
theorem dJ2_getChar_3b067_29 : decode cJ2_getChar_3b067 29 = .ok (.iconst 1, 1) := ax_dec dJ2_getChar_3b067_q0_ok 14 (29, .iconst 1, 1) rfl
theorem dJ2_getChar_3b067_30 : decode cJ2_getChar_3b067 30 = .ok (.ishl, 1) := ax_dec dJ2_getChar_3b067_q0_ok 15 (30, .ishl, 1) rfl
theorem dJ2_getChar_3b067_31 : decode cJ2_getChar_3b067 31 = .ok (.istore_n 1, 1) := ax_dec dJ2_getChar_3b067_q0_ok 16 (31, .istore_n 1, 1) rfl
theorem dJ2_getChar_3b067_32 : decode cJ2_getChar_3b067 32 = .ok (.aload_n 0, 1) := ax_dec dJ2_getChar_3b067_q0_ok 17 (32, .aload_n 0, 1) rfl
theorem dJ2_getChar_3b067_33 : decode cJ2_getChar_3b067 33 = .ok (.iload_n 1, 1) := ax_dec dJ2_getChar_3b067_q0_ok 18 (33, .iload_n 1, 1) rfl
theorem dJ2_getChar_3b067_34 : decode cJ2_getChar_3b067 34 = .ok (.iinc 1 1, 3) := ax_dec dJ2_getChar_3b067_q0_ok 19 (34, .iinc 1 1, 3) rfl
theorem dJ2_getChar_3b067_37 : decode cJ2_getChar_3b067 37 = .ok (.baload, 1) := ax_dec dJ2_getChar_3b067_q0_ok 20 (37, .baload, 1) rfl
theorem dJ2_getChar_3b067_38 : decode cJ2_getChar_3b067 38 = .ok (.sipush 255, 3) := ax_dec dJ2_getChar_3b067_q0_ok 21 (38, .sipush 255, 3) rfl
theorem dJ2_getChar_3b067_41 : decode cJ2_getChar_3b067 41 = .ok (.iand, 1) := ax_dec dJ2_getChar_3b067_q0_ok 22 (41, .iand, 1) rfl
theorem dJ2_getChar_3b067_42 : decode cJ2_getChar_3b067 42 = .ok (.getstatic 59, 3) := ax_dec dJ2_getChar_3b067_q0_ok 23 (42, .getstatic 59, 3) rfl
theorem dJ2_getChar_3b067_45 : decode cJ2_getChar_3b067 45 = .ok (.ishl, 1) := ax_dec dJ2_getChar_3b067_q0_ok 24 (45, .ishl, 1) rfl
theorem dJ2_getChar_3b067_46 : decode cJ2_getChar_3b067 46 = .ok (.aload_n 0, 1) := ax_dec dJ2_getChar_3b067_q0_ok 25 (46, .aload_n 0, 1) rfl
theorem dJ2_getChar_3b067_47 : decode cJ2_getChar_3b067 47 = .ok (.iload_n 1, 1) := ax_dec dJ2_getChar_3b067_q0_ok 26 (47, .iload_n 1, 1) rfl
theorem dJ2_getChar_3b067_48 : decode cJ2_getChar_3b067 48 = .ok (.baload, 1) := ax_dec dJ2_getChar_3b067_q0_ok 27 (48, .baload, 1) rfl
theorem dJ2_getChar_3b067_49 : decode cJ2_getChar_3b067 49 = .ok (.sipush 255, 3) := ax_dec dJ2_getChar_3b067_q0_ok 28 (49, .sipush 255, 3) rfl
theorem dJ2_getChar_3b067_52 : decode cJ2_getChar_3b067 52 = .ok (.iand, 1) := ax_dec dJ2_getChar_3b067_q0_ok 29 (52, .iand, 1) rfl
theorem dJ2_getChar_3b067_53 : decode cJ2_getChar_3b067 53 = .ok (.getstatic 63, 3) := ax_dec dJ2_getChar_3b067_q0_ok 30 (53, .getstatic 63, 3) rfl
theorem dJ2_getChar_3b067_56 : decode cJ2_getChar_3b067 56 = .ok (.ishl, 1) := ax_dec dJ2_getChar_3b067_q0_ok 31 (56, .ishl, 1) rfl
def dJ2_getChar_3b067_q1 : List (Nat × (Instr × Nat)) := [(57, .ior, 1), (58, .i2c, 1), (59, .ireturn, 1)]
set_option maxRecDepth 100000 in
theorem dJ2_getChar_3b067_q1_ok : ax_decs cJ2_getChar_3b067 dJ2_getChar_3b067_q1 = true := by decide +kernel
theorem dJ2_getChar_3b067_57 : decode cJ2_getChar_3b067 57 = .ok (.ior, 1) := ax_dec dJ2_getChar_3b067_q1_ok 0 (57, .ior, 1) rfl
theorem dJ2_getChar_3b067_58 : decode cJ2_getChar_3b067 58 = .ok (.i2c, 1) := ax_dec dJ2_getChar_3b067_q1_ok 1 (58, .i2c, 1) rfl
theorem dJ2_getChar_3b067_59 : decode cJ2_getChar_3b067 59 = .ok (.ireturn, 1) := ax_dec dJ2_getChar_3b067_q1_ok 2 (59, .ireturn, 1) rfl
def dJ2_length_9d52b_q0 : List (Nat × (Instr × Nat)) := [(0, .aload_n 0, 1), (1, .arraylength, 1), (2, .iconst 1, 1), (3, .ishr, 1), (4, .ireturn, 1)]
set_option maxRecDepth 100000 in
theorem dJ2_length_9d52b_q0_ok : ax_decs cJ2_length_9d52b dJ2_length_9d52b_q0 = true := by decide +kernel
theorem dJ2_length_9d52b_0 : decode cJ2_length_9d52b 0 = .ok (.aload_n 0, 1) := ax_dec dJ2_length_9d52b_q0_ok 0 (0, .aload_n 0, 1) rfl
theorem dJ2_length_9d52b_1 : decode cJ2_length_9d52b 1 = .ok (.arraylength, 1) := ax_dec dJ2_length_9d52b_q0_ok 1 (1, .arraylength, 1) rfl
theorem dJ2_length_9d52b_2 : decode cJ2_length_9d52b 2 = .ok (.iconst 1, 1) := ax_dec dJ2_length_9d52b_q0_ok 2 (2, .iconst 1, 1) rfl
theorem dJ2_length_9d52b_3 : decode cJ2_length_9d52b 3 = .ok (.ishr, 1) := ax_dec dJ2_length_9d52b_q0_ok 3 (3, .ishr, 1) rfl
theorem dJ2_length_9d52b_4 : decode cJ2_length_9d52b 4 = .ok (.ireturn, 1) := ax_dec dJ2_length_9d52b_q0_ok 4 (4, .ireturn, 1) rfl
def dJ2_charAt_3b067_q0 : List (Nat × (Instr × Nat)) := [(0, .iload_n 1, 1), (1, .aload_n 0, 1), (2, .invokestatic 67, 3), (5, .aload_n 0, 1), (6, .iload_n 1, 1), (7, .invokestatic 71, 3), (10, .ireturn, 1)]
set_option maxRecDepth 100000 in
theorem dJ2_charAt_3b067_q0_ok : ax_decs cJ2_charAt_3b067 dJ2_charAt_3b067_q0 = true := by decide +kernel
theorem dJ2_charAt_3b067_0 : decode cJ2_charAt_3b067 0 = .ok (.iload_n 1, 1) := ax_dec dJ2_charAt_3b067_q0_ok 0 (0, .iload_n 1, 1) rfl
theorem dJ2_charAt_3b067_1 : decode cJ2_charAt_3b067 1 = .ok (.aload_n 0, 1) := ax_dec dJ2_charAt_3b067_q0_ok 1 (1, .aload_n 0, 1) rfl
theorem dJ2_charAt_3b067_2 : decode cJ2_charAt_3b067 2 = .ok (.invokestatic 67, 3) := ax_dec dJ2_charAt_3b067_q0_ok 2 (2, .invokestatic 67, 3) rfl
theorem dJ2_charAt_3b067_5 : decode cJ2_charAt_3b067 5 = .ok (.aload_n 0, 1) := ax_dec dJ2_charAt_3b067_q0_ok 3 (5, .aload_n 0, 1) rfl
theorem dJ2_charAt_3b067_6 : decode cJ2_charAt_3b067 6 = .ok (.iload_n 1, 1) := ax_dec dJ2_charAt_3b067_q0_ok 4 (6, .iload_n 1, 1) rfl
theorem dJ2_charAt_3b067_7 : decode cJ2_charAt_3b067 7 = .ok (.invokestatic 71, 3) := ax_dec dJ2_charAt_3b067_q0_ok 5 (7, .invokestatic 71, 3) rfl
theorem dJ2_charAt_3b067_10 : decode cJ2_charAt_3b067 10 = .ok (.ireturn, 1) := ax_dec dJ2_charAt_3b067_q0_ok 6 (10, .ireturn, 1) rfl
def dJ2_checkIndex_2214a_q0 : List (Nat × (Instr × Nat)) := [(0, .iload_n 0, 1), (1, .aload_n 1, 1), (2, .invokestatic 48, 3), (5, .invokestatic 414, 3), (8, .return_, 1)]
set_option maxRecDepth 100000 in
theorem dJ2_checkIndex_2214a_q0_ok : ax_decs cJ2_checkIndex_2214a dJ2_checkIndex_2214a_q0 = true := by decide +kernel
theorem dJ2_checkIndex_2214a_0 : decode cJ2_checkIndex_2214a 0 = .ok (.iload_n 0, 1) := ax_dec dJ2_checkIndex_2214a_q0_ok 0 (0, .iload_n 0, 1) rfl
theorem dJ2_checkIndex_2214a_1 : decode cJ2_checkIndex_2214a 1 = .ok (.aload_n 1, 1) := ax_dec dJ2_checkIndex_2214a_q0_ok 1 (1, .aload_n 1, 1) rfl
theorem dJ2_checkIndex_2214a_2 : decode cJ2_checkIndex_2214a 2 = .ok (.invokestatic 48, 3) := ax_dec dJ2_checkIndex_2214a_q0_ok 2 (2, .invokestatic 48, 3) rfl
theorem dJ2_checkIndex_2214a_5 : decode cJ2_checkIndex_2214a 5 = .ok (.invokestatic 414, 3) := ax_dec dJ2_checkIndex_2214a_q0_ok 3 (5, .invokestatic 414, 3) rfl
theorem dJ2_checkIndex_2214a_8 : decode cJ2_checkIndex_2214a 8 = .ok (.return_, 1) := ax_dec dJ2_checkIndex_2214a_q0_ok 4 (8, .return_, 1) rfl
def dJ3_checkIndex_8e157_q0 : List (Nat × (Instr × Nat)) := [(0, .iload_n 0, 1), (1, .ifCond .lt 8, 3), (4, .iload_n 0, 1), (5, .iload_n 1, 1), (6, .if_icmp .lt 10, 3), (9, .aload_n 2, 1), (10, .iload_n 0, 1), (11, .iload_n 1, 1), (12, .invokestatic 95, 3), (15, .athrow, 1), (16, .iload_n 0, 1), (17, .ireturn, 1)]
set_option maxRecDepth 100000 in
theorem dJ3_checkIndex_8e157_q0_ok : ax_decs cJ3_checkIndex_8e157 dJ3_checkIndex_8e157_q0 = true := by decide +kernel
theorem dJ3_checkIndex_8e157_0 : decode cJ3_checkIndex_8e157 0 = .ok (.iload_n 0, 1) := ax_dec dJ3_checkIndex_8e157_q0_ok 0 (0, .iload_n 0, 1) rfl
theorem dJ3_checkIndex_8e157_1 : decode cJ3_checkIndex_8e157 1 = .ok (.ifCond .lt 8, 3) := ax_dec dJ3_checkIndex_8e157_q0_ok 1 (1, .ifCond .lt 8, 3) rfl
theorem dJ3_checkIndex_8e157_4 : decode cJ3_checkIndex_8e157 4 = .ok (.iload_n 0, 1) := ax_dec dJ3_checkIndex_8e157_q0_ok 2 (4, .iload_n 0, 1) rfl
theorem dJ3_checkIndex_8e157_5 : decode cJ3_checkIndex_8e157 5 = .ok (.iload_n 1, 1) := ax_dec dJ3_checkIndex_8e157_q0_ok 3 (5, .iload_n 1, 1) rfl
theorem dJ3_checkIndex_8e157_6 : decode cJ3_checkIndex_8e157 6 = .ok (.if_icmp .lt 10, 3) := ax_dec dJ3_checkIndex_8e157_q0_ok 4 (6, .if_icmp .lt 10, 3) rfl
theorem dJ3_checkIndex_8e157_9 : decode cJ3_checkIndex_8e157 9 = .ok (.aload_n 2, 1) := ax_dec dJ3_checkIndex_8e157_q0_ok 5 (9, .aload_n 2, 1) rfl
theorem dJ3_checkIndex_8e157_10 : decode cJ3_checkIndex_8e157 10 = .ok (.iload_n 0, 1) := ax_dec dJ3_checkIndex_8e157_q0_ok 6 (10, .iload_n 0, 1) rfl
theorem dJ3_checkIndex_8e157_11 : decode cJ3_checkIndex_8e157 11 = .ok (.iload_n 1, 1) := ax_dec dJ3_checkIndex_8e157_q0_ok 7 (11, .iload_n 1, 1) rfl
theorem dJ3_checkIndex_8e157_12 : decode cJ3_checkIndex_8e157 12 = .ok (.invokestatic 95, 3) := ax_dec dJ3_checkIndex_8e157_q0_ok 8 (12, .invokestatic 95, 3) rfl
theorem dJ3_checkIndex_8e157_15 : decode cJ3_checkIndex_8e157 15 = .ok (.athrow, 1) := ax_dec dJ3_checkIndex_8e157_q0_ok 9 (15, .athrow, 1) rfl
theorem dJ3_checkIndex_8e157_16 : decode cJ3_checkIndex_8e157 16 = .ok (.iload_n 0, 1) := ax_dec dJ3_checkIndex_8e157_q0_ok 10 (16, .iload_n 0, 1) rfl
theorem dJ3_checkIndex_8e157_17 : decode cJ3_checkIndex_8e157 17 = .ok (.ireturn, 1) := ax_dec dJ3_checkIndex_8e157_q0_ok 11 (17, .ireturn, 1) rfl
def dL_law_q0 : List (Nat × (Instr × Nat)) := [(0, .new 7, 3), (3, .dup, 1), (4, .invokespecial 9, 3), (7, .astore_n 1, 1), (8, .new 10, 3), (11, .dup, 1), (12, .invokespecial 12, 3), (15, .astore_n 2, 1), (16, .iconst 0, 1), (17, .istore_n 3, 1), (18, .iload_n 3, 1), (19, .aload_n 0, 1), (20, .arraylength, 1), (21, .bipush 7, 2), (23, .isub, 1), (24, .if_icmp .gt 1687, 3), (27, .aload_n 0, 1), (28, .iload_n 3, 1), (29, .iaload, 1), (30, .bipush 63, 2), (32, .iand, 1), (33, .tableswitch 1672 0 38 #[171, 194, 269, 282, 305, 358, 411, 454, 487, 520, 543, 576, 609, 652, 695, 728, 751, 794, 837, 870, 893, 937, 980, 1033, 1076, 1119, 1152, 1175, 1208, 1251, 1294, 1347, 1411, 1424, 1437, 1480, 1523, 1586, 1639], 171), (204, .aload_n 1, 1), (205, .aload_n 0, 1), (206, .iload_n 3, 1), (207, .iconst 1, 1), (208, .iadd, 1), (209, .iaload, 1), (210, .invokevirtual 13, 3), (213, .aload_n 2, 1), (214, .aload_n 0, 1), (215, .iload_n 3, 1)]
set_option maxRecDepth 100000 in
theorem dL_law_q0_ok : ax_decs cL_law dL_law_q0 = true := by decide +kernel
theorem dL_law_0 : decode cL_law 0 = .ok (.new 7, 3) := ax_dec dL_law_q0_ok 0 (0, .new 7, 3) rfl
theorem dL_law_3 : decode cL_law 3 = .ok (.dup, 1) := ax_dec dL_law_q0_ok 1 (3, .dup, 1) rfl
theorem dL_law_4 : decode cL_law 4 = .ok (.invokespecial 9, 3) := ax_dec dL_law_q0_ok 2 (4, .invokespecial 9, 3) rfl
theorem dL_law_7 : decode cL_law 7 = .ok (.astore_n 1, 1) := ax_dec dL_law_q0_ok 3 (7, .astore_n 1, 1) rfl
theorem dL_law_8 : decode cL_law 8 = .ok (.new 10, 3) := ax_dec dL_law_q0_ok 4 (8, .new 10, 3) rfl
theorem dL_law_11 : decode cL_law 11 = .ok (.dup, 1) := ax_dec dL_law_q0_ok 5 (11, .dup, 1) rfl
theorem dL_law_12 : decode cL_law 12 = .ok (.invokespecial 12, 3) := ax_dec dL_law_q0_ok 6 (12, .invokespecial 12, 3) rfl
theorem dL_law_15 : decode cL_law 15 = .ok (.astore_n 2, 1) := ax_dec dL_law_q0_ok 7 (15, .astore_n 2, 1) rfl
theorem dL_law_16 : decode cL_law 16 = .ok (.iconst 0, 1) := ax_dec dL_law_q0_ok 8 (16, .iconst 0, 1) rfl
theorem dL_law_17 : decode cL_law 17 = .ok (.istore_n 3, 1) := ax_dec dL_law_q0_ok 9 (17, .istore_n 3, 1) rfl
theorem dL_law_18 : decode cL_law 18 = .ok (.iload_n 3, 1) := ax_dec dL_law_q0_ok 10 (18, .iload_n 3, 1) rfl
theorem dL_law_19 : decode cL_law 19 = .ok (.aload_n 0, 1) := ax_dec dL_law_q0_ok 11 (19, .aload_n 0, 1) rfl
theorem dL_law_20 : decode cL_law 20 = .ok (.arraylength, 1) := ax_dec dL_law_q0_ok 12 (20, .arraylength, 1) rfl
theorem dL_law_21 : decode cL_law 21 = .ok (.bipush 7, 2) := ax_dec dL_law_q0_ok 13 (21, .bipush 7, 2) rfl
theorem dL_law_23 : decode cL_law 23 = .ok (.isub, 1) := ax_dec dL_law_q0_ok 14 (23, .isub, 1) rfl
theorem dL_law_24 : decode cL_law 24 = .ok (.if_icmp .gt 1687, 3) := ax_dec dL_law_q0_ok 15 (24, .if_icmp .gt 1687, 3) rfl
theorem dL_law_27 : decode cL_law 27 = .ok (.aload_n 0, 1) := ax_dec dL_law_q0_ok 16 (27, .aload_n 0, 1) rfl
theorem dL_law_28 : decode cL_law 28 = .ok (.iload_n 3, 1) := ax_dec dL_law_q0_ok 17 (28, .iload_n 3, 1) rfl
theorem dL_law_29 : decode cL_law 29 = .ok (.iaload, 1) := ax_dec dL_law_q0_ok 18 (29, .iaload, 1) rfl
theorem dL_law_30 : decode cL_law 30 = .ok (.bipush 63, 2) := ax_dec dL_law_q0_ok 19 (30, .bipush 63, 2) rfl
theorem dL_law_32 : decode cL_law 32 = .ok (.iand, 1) := ax_dec dL_law_q0_ok 20 (32, .iand, 1) rfl
theorem dL_law_33 : decode cL_law 33 = .ok (.tableswitch 1672 0 38 #[171, 194, 269, 282, 305, 358, 411, 454, 487, 520, 543, 576, 609, 652, 695, 728, 751, 794, 837, 870, 893, 937, 980, 1033, 1076, 1119, 1152, 1175, 1208, 1251, 1294, 1347, 1411, 1424, 1437, 1480, 1523, 1586, 1639], 171) := ax_dec dL_law_q0_ok 21 (33, .tableswitch 1672 0 38 #[171, 194, 269, 282, 305, 358, 411, 454, 487, 520, 543, 576, 609, 652, 695, 728, 751, 794, 837, 870, 893, 937, 980, 1033, 1076, 1119, 1152, 1175, 1208, 1251, 1294, 1347, 1411, 1424, 1437, 1480, 1523, 1586, 1639], 171) rfl
theorem dL_law_204 : decode cL_law 204 = .ok (.aload_n 1, 1) := ax_dec dL_law_q0_ok 22 (204, .aload_n 1, 1) rfl
theorem dL_law_205 : decode cL_law 205 = .ok (.aload_n 0, 1) := ax_dec dL_law_q0_ok 23 (205, .aload_n 0, 1) rfl
theorem dL_law_206 : decode cL_law 206 = .ok (.iload_n 3, 1) := ax_dec dL_law_q0_ok 24 (206, .iload_n 3, 1) rfl
theorem dL_law_207 : decode cL_law 207 = .ok (.iconst 1, 1) := ax_dec dL_law_q0_ok 25 (207, .iconst 1, 1) rfl
theorem dL_law_208 : decode cL_law 208 = .ok (.iadd, 1) := ax_dec dL_law_q0_ok 26 (208, .iadd, 1) rfl
theorem dL_law_209 : decode cL_law 209 = .ok (.iaload, 1) := ax_dec dL_law_q0_ok 27 (209, .iaload, 1) rfl
theorem dL_law_210 : decode cL_law 210 = .ok (.invokevirtual 13, 3) := ax_dec dL_law_q0_ok 28 (210, .invokevirtual 13, 3) rfl
theorem dL_law_213 : decode cL_law 213 = .ok (.aload_n 2, 1) := ax_dec dL_law_q0_ok 29 (213, .aload_n 2, 1) rfl
theorem dL_law_214 : decode cL_law 214 = .ok (.aload_n 0, 1) := ax_dec dL_law_q0_ok 30 (214, .aload_n 0, 1) rfl
theorem dL_law_215 : decode cL_law 215 = .ok (.iload_n 3, 1) := ax_dec dL_law_q0_ok 31 (215, .iload_n 3, 1) rfl
def dL_law_q1 : List (Nat × (Instr × Nat)) := [(216, .iconst 1, 1), (217, .iadd, 1), (218, .iaload, 1), (219, .invokevirtual 17, 3), (222, .if_icmp .eq 1483, 3), (225, .iconst 0, 1), (226, .ireturn, 1), (227, .aload_n 1, 1), (228, .aload_n 0, 1), (229, .iload_n 3, 1), (230, .iconst 1, 1), (231, .iadd, 1), (232, .iaload, 1), (233, .aload_n 0, 1), (234, .iload_n 3, 1), (235, .iconst 2, 1), (236, .iadd, 1), (237, .iaload, 1), (238, .aload_n 0, 1), (239, .iload_n 3, 1), (240, .iconst 3, 1), (241, .iadd, 1), (242, .iaload, 1), (243, .aload_n 0, 1), (244, .iload_n 3, 1), (245, .iconst 4, 1), (246, .iadd, 1), (247, .iaload, 1), (248, .aload_n 0, 1), (249, .iload_n 3, 1), (250, .iconst 5, 1), (251, .iadd, 1)]
set_option maxRecDepth 100000 in
theorem dL_law_q1_ok : ax_decs cL_law dL_law_q1 = true := by decide +kernel
theorem dL_law_216 : decode cL_law 216 = .ok (.iconst 1, 1) := ax_dec dL_law_q1_ok 0 (216, .iconst 1, 1) rfl
theorem dL_law_217 : decode cL_law 217 = .ok (.iadd, 1) := ax_dec dL_law_q1_ok 1 (217, .iadd, 1) rfl
theorem dL_law_218 : decode cL_law 218 = .ok (.iaload, 1) := ax_dec dL_law_q1_ok 2 (218, .iaload, 1) rfl
theorem dL_law_219 : decode cL_law 219 = .ok (.invokevirtual 17, 3) := ax_dec dL_law_q1_ok 3 (219, .invokevirtual 17, 3) rfl
theorem dL_law_222 : decode cL_law 222 = .ok (.if_icmp .eq 1483, 3) := ax_dec dL_law_q1_ok 4 (222, .if_icmp .eq 1483, 3) rfl
theorem dL_law_225 : decode cL_law 225 = .ok (.iconst 0, 1) := ax_dec dL_law_q1_ok 5 (225, .iconst 0, 1) rfl
theorem dL_law_226 : decode cL_law 226 = .ok (.ireturn, 1) := ax_dec dL_law_q1_ok 6 (226, .ireturn, 1) rfl
theorem dL_law_227 : decode cL_law 227 = .ok (.aload_n 1, 1) := ax_dec dL_law_q1_ok 7 (227, .aload_n 1, 1) rfl
theorem dL_law_228 : decode cL_law 228 = .ok (.aload_n 0, 1) := ax_dec dL_law_q1_ok 8 (228, .aload_n 0, 1) rfl
theorem dL_law_229 : decode cL_law 229 = .ok (.iload_n 3, 1) := ax_dec dL_law_q1_ok 9 (229, .iload_n 3, 1) rfl
theorem dL_law_230 : decode cL_law 230 = .ok (.iconst 1, 1) := ax_dec dL_law_q1_ok 10 (230, .iconst 1, 1) rfl
theorem dL_law_231 : decode cL_law 231 = .ok (.iadd, 1) := ax_dec dL_law_q1_ok 11 (231, .iadd, 1) rfl
theorem dL_law_232 : decode cL_law 232 = .ok (.iaload, 1) := ax_dec dL_law_q1_ok 12 (232, .iaload, 1) rfl
theorem dL_law_233 : decode cL_law 233 = .ok (.aload_n 0, 1) := ax_dec dL_law_q1_ok 13 (233, .aload_n 0, 1) rfl
theorem dL_law_234 : decode cL_law 234 = .ok (.iload_n 3, 1) := ax_dec dL_law_q1_ok 14 (234, .iload_n 3, 1) rfl
theorem dL_law_235 : decode cL_law 235 = .ok (.iconst 2, 1) := ax_dec dL_law_q1_ok 15 (235, .iconst 2, 1) rfl
theorem dL_law_236 : decode cL_law 236 = .ok (.iadd, 1) := ax_dec dL_law_q1_ok 16 (236, .iadd, 1) rfl
theorem dL_law_237 : decode cL_law 237 = .ok (.iaload, 1) := ax_dec dL_law_q1_ok 17 (237, .iaload, 1) rfl
theorem dL_law_238 : decode cL_law 238 = .ok (.aload_n 0, 1) := ax_dec dL_law_q1_ok 18 (238, .aload_n 0, 1) rfl
theorem dL_law_239 : decode cL_law 239 = .ok (.iload_n 3, 1) := ax_dec dL_law_q1_ok 19 (239, .iload_n 3, 1) rfl
theorem dL_law_240 : decode cL_law 240 = .ok (.iconst 3, 1) := ax_dec dL_law_q1_ok 20 (240, .iconst 3, 1) rfl
theorem dL_law_241 : decode cL_law 241 = .ok (.iadd, 1) := ax_dec dL_law_q1_ok 21 (241, .iadd, 1) rfl
theorem dL_law_242 : decode cL_law 242 = .ok (.iaload, 1) := ax_dec dL_law_q1_ok 22 (242, .iaload, 1) rfl
theorem dL_law_243 : decode cL_law 243 = .ok (.aload_n 0, 1) := ax_dec dL_law_q1_ok 23 (243, .aload_n 0, 1) rfl
theorem dL_law_244 : decode cL_law 244 = .ok (.iload_n 3, 1) := ax_dec dL_law_q1_ok 24 (244, .iload_n 3, 1) rfl
theorem dL_law_245 : decode cL_law 245 = .ok (.iconst 4, 1) := ax_dec dL_law_q1_ok 25 (245, .iconst 4, 1) rfl
theorem dL_law_246 : decode cL_law 246 = .ok (.iadd, 1) := ax_dec dL_law_q1_ok 26 (246, .iadd, 1) rfl
theorem dL_law_247 : decode cL_law 247 = .ok (.iaload, 1) := ax_dec dL_law_q1_ok 27 (247, .iaload, 1) rfl
theorem dL_law_248 : decode cL_law 248 = .ok (.aload_n 0, 1) := ax_dec dL_law_q1_ok 28 (248, .aload_n 0, 1) rfl
theorem dL_law_249 : decode cL_law 249 = .ok (.iload_n 3, 1) := ax_dec dL_law_q1_ok 29 (249, .iload_n 3, 1) rfl
theorem dL_law_250 : decode cL_law 250 = .ok (.iconst 5, 1) := ax_dec dL_law_q1_ok 30 (250, .iconst 5, 1) rfl
theorem dL_law_251 : decode cL_law 251 = .ok (.iadd, 1) := ax_dec dL_law_q1_ok 31 (251, .iadd, 1) rfl
def dL_law_q2 : List (Nat × (Instr × Nat)) := [(252, .iaload, 1), (253, .aload_n 0, 1), (254, .iload_n 3, 1), (255, .bipush 6, 2), (257, .iadd, 1), (258, .iaload, 1), (259, .invokevirtual 18, 3), (262, .aload_n 2, 1), (263, .aload_n 0, 1), (264, .iload_n 3, 1), (265, .iconst 1, 1), (266, .iadd, 1), (267, .iaload, 1), (268, .aload_n 0, 1), (269, .iload_n 3, 1), (270, .iconst 2, 1), (271, .iadd, 1), (272, .iaload, 1), (273, .aload_n 0, 1), (274, .iload_n 3, 1), (275, .iconst 3, 1), (276, .iadd, 1), (277, .iaload, 1), (278, .aload_n 0, 1), (279, .iload_n 3, 1), (280, .iconst 4, 1), (281, .iadd, 1), (282, .iaload, 1), (283, .aload_n 0, 1), (284, .iload_n 3, 1), (285, .iconst 5, 1), (286, .iadd, 1)]
set_option maxRecDepth 100000 in
theorem dL_law_q2_ok : ax_decs cL_law dL_law_q2 = true := by decide +kernel
theorem dL_law_252 : decode cL_law 252 = .ok (.iaload, 1) := ax_dec dL_law_q2_ok 0 (252, .iaload, 1) rfl
theorem dL_law_253 : decode cL_law 253 = .ok (.aload_n 0, 1) := ax_dec dL_law_q2_ok 1 (253, .aload_n 0, 1) rfl
theorem dL_law_254 : decode cL_law 254 = .ok (.iload_n 3, 1) := ax_dec dL_law_q2_ok 2 (254, .iload_n 3, 1) rfl
theorem dL_law_255 : decode cL_law 255 = .ok (.bipush 6, 2) := ax_dec dL_law_q2_ok 3 (255, .bipush 6, 2) rfl
theorem dL_law_257 : decode cL_law 257 = .ok (.iadd, 1) := ax_dec dL_law_q2_ok 4 (257, .iadd, 1) rfl
theorem dL_law_258 : decode cL_law 258 = .ok (.iaload, 1) := ax_dec dL_law_q2_ok 5 (258, .iaload, 1) rfl
theorem dL_law_259 : decode cL_law 259 = .ok (.invokevirtual 18, 3) := ax_dec dL_law_q2_ok 6 (259, .invokevirtual 18, 3) rfl
theorem dL_law_262 : decode cL_law 262 = .ok (.aload_n 2, 1) := ax_dec dL_law_q2_ok 7 (262, .aload_n 2, 1) rfl
theorem dL_law_263 : decode cL_law 263 = .ok (.aload_n 0, 1) := ax_dec dL_law_q2_ok 8 (263, .aload_n 0, 1) rfl
theorem dL_law_264 : decode cL_law 264 = .ok (.iload_n 3, 1) := ax_dec dL_law_q2_ok 9 (264, .iload_n 3, 1) rfl
theorem dL_law_265 : decode cL_law 265 = .ok (.iconst 1, 1) := ax_dec dL_law_q2_ok 10 (265, .iconst 1, 1) rfl
theorem dL_law_266 : decode cL_law 266 = .ok (.iadd, 1) := ax_dec dL_law_q2_ok 11 (266, .iadd, 1) rfl
theorem dL_law_267 : decode cL_law 267 = .ok (.iaload, 1) := ax_dec dL_law_q2_ok 12 (267, .iaload, 1) rfl
theorem dL_law_268 : decode cL_law 268 = .ok (.aload_n 0, 1) := ax_dec dL_law_q2_ok 13 (268, .aload_n 0, 1) rfl
theorem dL_law_269 : decode cL_law 269 = .ok (.iload_n 3, 1) := ax_dec dL_law_q2_ok 14 (269, .iload_n 3, 1) rfl
theorem dL_law_270 : decode cL_law 270 = .ok (.iconst 2, 1) := ax_dec dL_law_q2_ok 15 (270, .iconst 2, 1) rfl
theorem dL_law_271 : decode cL_law 271 = .ok (.iadd, 1) := ax_dec dL_law_q2_ok 16 (271, .iadd, 1) rfl
theorem dL_law_272 : decode cL_law 272 = .ok (.iaload, 1) := ax_dec dL_law_q2_ok 17 (272, .iaload, 1) rfl
theorem dL_law_273 : decode cL_law 273 = .ok (.aload_n 0, 1) := ax_dec dL_law_q2_ok 18 (273, .aload_n 0, 1) rfl
theorem dL_law_274 : decode cL_law 274 = .ok (.iload_n 3, 1) := ax_dec dL_law_q2_ok 19 (274, .iload_n 3, 1) rfl
theorem dL_law_275 : decode cL_law 275 = .ok (.iconst 3, 1) := ax_dec dL_law_q2_ok 20 (275, .iconst 3, 1) rfl
theorem dL_law_276 : decode cL_law 276 = .ok (.iadd, 1) := ax_dec dL_law_q2_ok 21 (276, .iadd, 1) rfl
theorem dL_law_277 : decode cL_law 277 = .ok (.iaload, 1) := ax_dec dL_law_q2_ok 22 (277, .iaload, 1) rfl
theorem dL_law_278 : decode cL_law 278 = .ok (.aload_n 0, 1) := ax_dec dL_law_q2_ok 23 (278, .aload_n 0, 1) rfl
theorem dL_law_279 : decode cL_law 279 = .ok (.iload_n 3, 1) := ax_dec dL_law_q2_ok 24 (279, .iload_n 3, 1) rfl
theorem dL_law_280 : decode cL_law 280 = .ok (.iconst 4, 1) := ax_dec dL_law_q2_ok 25 (280, .iconst 4, 1) rfl
theorem dL_law_281 : decode cL_law 281 = .ok (.iadd, 1) := ax_dec dL_law_q2_ok 26 (281, .iadd, 1) rfl
theorem dL_law_282 : decode cL_law 282 = .ok (.iaload, 1) := ax_dec dL_law_q2_ok 27 (282, .iaload, 1) rfl
theorem dL_law_283 : decode cL_law 283 = .ok (.aload_n 0, 1) := ax_dec dL_law_q2_ok 28 (283, .aload_n 0, 1) rfl
theorem dL_law_284 : decode cL_law 284 = .ok (.iload_n 3, 1) := ax_dec dL_law_q2_ok 29 (284, .iload_n 3, 1) rfl
theorem dL_law_285 : decode cL_law 285 = .ok (.iconst 5, 1) := ax_dec dL_law_q2_ok 30 (285, .iconst 5, 1) rfl
theorem dL_law_286 : decode cL_law 286 = .ok (.iadd, 1) := ax_dec dL_law_q2_ok 31 (286, .iadd, 1) rfl
def dL_law_q3 : List (Nat × (Instr × Nat)) := [(287, .iaload, 1), (288, .aload_n 0, 1), (289, .iload_n 3, 1), (290, .bipush 6, 2), (292, .iadd, 1), (293, .iaload, 1), (294, .invokevirtual 22, 3), (297, .if_icmp .eq 1408, 3), (300, .iconst 0, 1), (301, .ireturn, 1), (302, .aload_n 1, 1), (303, .invokevirtual 23, 3), (306, .aload_n 2, 1), (307, .invokevirtual 27, 3), (310, .if_icmp .eq 1395, 3), (313, .iconst 0, 1), (314, .ireturn, 1), (315, .aload_n 1, 1), (316, .aload_n 0, 1), (317, .iload_n 3, 1), (318, .iconst 1, 1), (319, .iadd, 1), (320, .iaload, 1), (321, .invokevirtual 28, 3), (324, .aload_n 2, 1), (325, .aload_n 0, 1), (326, .iload_n 3, 1), (327, .iconst 1, 1), (328, .iadd, 1), (329, .iaload, 1), (330, .invokevirtual 31, 3), (333, .if_icmp .eq 1372, 3)]
set_option maxRecDepth 100000 in
theorem dL_law_q3_ok : ax_decs cL_law dL_law_q3 = true := by decide +kernel
theorem dL_law_287 : decode cL_law 287 = .ok (.iaload, 1) := ax_dec dL_law_q3_ok 0 (287, .iaload, 1) rfl
theorem dL_law_288 : decode cL_law 288 = .ok (.aload_n 0, 1) := ax_dec dL_law_q3_ok 1 (288, .aload_n 0, 1) rfl
theorem dL_law_289 : decode cL_law 289 = .ok (.iload_n 3, 1) := ax_dec dL_law_q3_ok 2 (289, .iload_n 3, 1) rfl
theorem dL_law_290 : decode cL_law 290 = .ok (.bipush 6, 2) := ax_dec dL_law_q3_ok 3 (290, .bipush 6, 2) rfl
theorem dL_law_292 : decode cL_law 292 = .ok (.iadd, 1) := ax_dec dL_law_q3_ok 4 (292, .iadd, 1) rfl
theorem dL_law_293 : decode cL_law 293 = .ok (.iaload, 1) := ax_dec dL_law_q3_ok 5 (293, .iaload, 1) rfl
theorem dL_law_294 : decode cL_law 294 = .ok (.invokevirtual 22, 3) := ax_dec dL_law_q3_ok 6 (294, .invokevirtual 22, 3) rfl
theorem dL_law_297 : decode cL_law 297 = .ok (.if_icmp .eq 1408, 3) := ax_dec dL_law_q3_ok 7 (297, .if_icmp .eq 1408, 3) rfl
theorem dL_law_300 : decode cL_law 300 = .ok (.iconst 0, 1) := ax_dec dL_law_q3_ok 8 (300, .iconst 0, 1) rfl
theorem dL_law_301 : decode cL_law 301 = .ok (.ireturn, 1) := ax_dec dL_law_q3_ok 9 (301, .ireturn, 1) rfl
theorem dL_law_302 : decode cL_law 302 = .ok (.aload_n 1, 1) := ax_dec dL_law_q3_ok 10 (302, .aload_n 1, 1) rfl
theorem dL_law_303 : decode cL_law 303 = .ok (.invokevirtual 23, 3) := ax_dec dL_law_q3_ok 11 (303, .invokevirtual 23, 3) rfl
theorem dL_law_306 : decode cL_law 306 = .ok (.aload_n 2, 1) := ax_dec dL_law_q3_ok 12 (306, .aload_n 2, 1) rfl
theorem dL_law_307 : decode cL_law 307 = .ok (.invokevirtual 27, 3) := ax_dec dL_law_q3_ok 13 (307, .invokevirtual 27, 3) rfl
theorem dL_law_310 : decode cL_law 310 = .ok (.if_icmp .eq 1395, 3) := ax_dec dL_law_q3_ok 14 (310, .if_icmp .eq 1395, 3) rfl
theorem dL_law_313 : decode cL_law 313 = .ok (.iconst 0, 1) := ax_dec dL_law_q3_ok 15 (313, .iconst 0, 1) rfl
theorem dL_law_314 : decode cL_law 314 = .ok (.ireturn, 1) := ax_dec dL_law_q3_ok 16 (314, .ireturn, 1) rfl
theorem dL_law_315 : decode cL_law 315 = .ok (.aload_n 1, 1) := ax_dec dL_law_q3_ok 17 (315, .aload_n 1, 1) rfl
theorem dL_law_316 : decode cL_law 316 = .ok (.aload_n 0, 1) := ax_dec dL_law_q3_ok 18 (316, .aload_n 0, 1) rfl
theorem dL_law_317 : decode cL_law 317 = .ok (.iload_n 3, 1) := ax_dec dL_law_q3_ok 19 (317, .iload_n 3, 1) rfl
theorem dL_law_318 : decode cL_law 318 = .ok (.iconst 1, 1) := ax_dec dL_law_q3_ok 20 (318, .iconst 1, 1) rfl
theorem dL_law_319 : decode cL_law 319 = .ok (.iadd, 1) := ax_dec dL_law_q3_ok 21 (319, .iadd, 1) rfl
theorem dL_law_320 : decode cL_law 320 = .ok (.iaload, 1) := ax_dec dL_law_q3_ok 22 (320, .iaload, 1) rfl
theorem dL_law_321 : decode cL_law 321 = .ok (.invokevirtual 28, 3) := ax_dec dL_law_q3_ok 23 (321, .invokevirtual 28, 3) rfl
theorem dL_law_324 : decode cL_law 324 = .ok (.aload_n 2, 1) := ax_dec dL_law_q3_ok 24 (324, .aload_n 2, 1) rfl
theorem dL_law_325 : decode cL_law 325 = .ok (.aload_n 0, 1) := ax_dec dL_law_q3_ok 25 (325, .aload_n 0, 1) rfl
theorem dL_law_326 : decode cL_law 326 = .ok (.iload_n 3, 1) := ax_dec dL_law_q3_ok 26 (326, .iload_n 3, 1) rfl
theorem dL_law_327 : decode cL_law 327 = .ok (.iconst 1, 1) := ax_dec dL_law_q3_ok 27 (327, .iconst 1, 1) rfl
theorem dL_law_328 : decode cL_law 328 = .ok (.iadd, 1) := ax_dec dL_law_q3_ok 28 (328, .iadd, 1) rfl
theorem dL_law_329 : decode cL_law 329 = .ok (.iaload, 1) := ax_dec dL_law_q3_ok 29 (329, .iaload, 1) rfl
theorem dL_law_330 : decode cL_law 330 = .ok (.invokevirtual 31, 3) := ax_dec dL_law_q3_ok 30 (330, .invokevirtual 31, 3) rfl
theorem dL_law_333 : decode cL_law 333 = .ok (.if_icmp .eq 1372, 3) := ax_dec dL_law_q3_ok 31 (333, .if_icmp .eq 1372, 3) rfl
def dL_law_q4 : List (Nat × (Instr × Nat)) := [(336, .iconst 0, 1), (337, .ireturn, 1), (338, .aload_n 1, 1), (339, .aload_n 0, 1), (340, .iload_n 3, 1), (341, .iconst 1, 1), (342, .iadd, 1), (343, .iaload, 1), (344, .aload_n 0, 1), (345, .iload_n 3, 1), (346, .iconst 2, 1), (347, .iadd, 1), (348, .iaload, 1), (349, .aload_n 0, 1), (350, .iload_n 3, 1), (351, .iconst 3, 1), (352, .iadd, 1), (353, .iaload, 1), (354, .aload_n 0, 1), (355, .iload_n 3, 1), (356, .iconst 4, 1), (357, .iadd, 1), (358, .iaload, 1), (359, .invokevirtual 32, 3), (362, .aload_n 2, 1), (363, .aload_n 0, 1), (364, .iload_n 3, 1), (365, .iconst 1, 1), (366, .iadd, 1), (367, .iaload, 1), (368, .aload_n 0, 1), (369, .iload_n 3, 1)]
set_option maxRecDepth 100000 in
theorem dL_law_q4_ok : ax_decs cL_law dL_law_q4 = true := by decide +kernel
theorem dL_law_336 : decode cL_law 336 = .ok (.iconst 0, 1) := ax_dec dL_law_q4_ok 0 (336, .iconst 0, 1) rfl
theorem dL_law_337 : decode cL_law 337 = .ok (.ireturn, 1) := ax_dec dL_law_q4_ok 1 (337, .ireturn, 1) rfl
theorem dL_law_338 : decode cL_law 338 = .ok (.aload_n 1, 1) := ax_dec dL_law_q4_ok 2 (338, .aload_n 1, 1) rfl
theorem dL_law_339 : decode cL_law 339 = .ok (.aload_n 0, 1) := ax_dec dL_law_q4_ok 3 (339, .aload_n 0, 1) rfl
theorem dL_law_340 : decode cL_law 340 = .ok (.iload_n 3, 1) := ax_dec dL_law_q4_ok 4 (340, .iload_n 3, 1) rfl
theorem dL_law_341 : decode cL_law 341 = .ok (.iconst 1, 1) := ax_dec dL_law_q4_ok 5 (341, .iconst 1, 1) rfl
theorem dL_law_342 : decode cL_law 342 = .ok (.iadd, 1) := ax_dec dL_law_q4_ok 6 (342, .iadd, 1) rfl
theorem dL_law_343 : decode cL_law 343 = .ok (.iaload, 1) := ax_dec dL_law_q4_ok 7 (343, .iaload, 1) rfl
theorem dL_law_344 : decode cL_law 344 = .ok (.aload_n 0, 1) := ax_dec dL_law_q4_ok 8 (344, .aload_n 0, 1) rfl
theorem dL_law_345 : decode cL_law 345 = .ok (.iload_n 3, 1) := ax_dec dL_law_q4_ok 9 (345, .iload_n 3, 1) rfl
theorem dL_law_346 : decode cL_law 346 = .ok (.iconst 2, 1) := ax_dec dL_law_q4_ok 10 (346, .iconst 2, 1) rfl
theorem dL_law_347 : decode cL_law 347 = .ok (.iadd, 1) := ax_dec dL_law_q4_ok 11 (347, .iadd, 1) rfl
theorem dL_law_348 : decode cL_law 348 = .ok (.iaload, 1) := ax_dec dL_law_q4_ok 12 (348, .iaload, 1) rfl
theorem dL_law_349 : decode cL_law 349 = .ok (.aload_n 0, 1) := ax_dec dL_law_q4_ok 13 (349, .aload_n 0, 1) rfl
theorem dL_law_350 : decode cL_law 350 = .ok (.iload_n 3, 1) := ax_dec dL_law_q4_ok 14 (350, .iload_n 3, 1) rfl
theorem dL_law_351 : decode cL_law 351 = .ok (.iconst 3, 1) := ax_dec dL_law_q4_ok 15 (351, .iconst 3, 1) rfl
theorem dL_law_352 : decode cL_law 352 = .ok (.iadd, 1) := ax_dec dL_law_q4_ok 16 (352, .iadd, 1) rfl
theorem dL_law_353 : decode cL_law 353 = .ok (.iaload, 1) := ax_dec dL_law_q4_ok 17 (353, .iaload, 1) rfl
theorem dL_law_354 : decode cL_law 354 = .ok (.aload_n 0, 1) := ax_dec dL_law_q4_ok 18 (354, .aload_n 0, 1) rfl
theorem dL_law_355 : decode cL_law 355 = .ok (.iload_n 3, 1) := ax_dec dL_law_q4_ok 19 (355, .iload_n 3, 1) rfl
theorem dL_law_356 : decode cL_law 356 = .ok (.iconst 4, 1) := ax_dec dL_law_q4_ok 20 (356, .iconst 4, 1) rfl
theorem dL_law_357 : decode cL_law 357 = .ok (.iadd, 1) := ax_dec dL_law_q4_ok 21 (357, .iadd, 1) rfl
theorem dL_law_358 : decode cL_law 358 = .ok (.iaload, 1) := ax_dec dL_law_q4_ok 22 (358, .iaload, 1) rfl
theorem dL_law_359 : decode cL_law 359 = .ok (.invokevirtual 32, 3) := ax_dec dL_law_q4_ok 23 (359, .invokevirtual 32, 3) rfl
theorem dL_law_362 : decode cL_law 362 = .ok (.aload_n 2, 1) := ax_dec dL_law_q4_ok 24 (362, .aload_n 2, 1) rfl
theorem dL_law_363 : decode cL_law 363 = .ok (.aload_n 0, 1) := ax_dec dL_law_q4_ok 25 (363, .aload_n 0, 1) rfl
theorem dL_law_364 : decode cL_law 364 = .ok (.iload_n 3, 1) := ax_dec dL_law_q4_ok 26 (364, .iload_n 3, 1) rfl
theorem dL_law_365 : decode cL_law 365 = .ok (.iconst 1, 1) := ax_dec dL_law_q4_ok 27 (365, .iconst 1, 1) rfl
theorem dL_law_366 : decode cL_law 366 = .ok (.iadd, 1) := ax_dec dL_law_q4_ok 28 (366, .iadd, 1) rfl
theorem dL_law_367 : decode cL_law 367 = .ok (.iaload, 1) := ax_dec dL_law_q4_ok 29 (367, .iaload, 1) rfl
theorem dL_law_368 : decode cL_law 368 = .ok (.aload_n 0, 1) := ax_dec dL_law_q4_ok 30 (368, .aload_n 0, 1) rfl
theorem dL_law_369 : decode cL_law 369 = .ok (.iload_n 3, 1) := ax_dec dL_law_q4_ok 31 (369, .iload_n 3, 1) rfl
def dL_law_q5 : List (Nat × (Instr × Nat)) := [(370, .iconst 2, 1), (371, .iadd, 1), (372, .iaload, 1), (373, .aload_n 0, 1), (374, .iload_n 3, 1), (375, .iconst 3, 1), (376, .iadd, 1), (377, .iaload, 1), (378, .aload_n 0, 1), (379, .iload_n 3, 1), (380, .iconst 4, 1), (381, .iadd, 1), (382, .iaload, 1), (383, .invokevirtual 36, 3), (386, .if_icmp .eq 1319, 3), (389, .iconst 0, 1), (390, .ireturn, 1), (391, .aload_n 1, 1), (392, .aload_n 0, 1), (393, .iload_n 3, 1), (394, .iconst 1, 1), (395, .iadd, 1), (396, .iaload, 1), (397, .aload_n 0, 1), (398, .iload_n 3, 1), (399, .iconst 2, 1), (400, .iadd, 1), (401, .iaload, 1), (402, .aload_n 0, 1), (403, .iload_n 3, 1), (404, .iconst 3, 1), (405, .iadd, 1)]
set_option maxRecDepth 100000 in
theorem dL_law_q5_ok : ax_decs cL_law dL_law_q5 = true := by decide +kernel
theorem dL_law_370 : decode cL_law 370 = .ok (.iconst 2, 1) := ax_dec dL_law_q5_ok 0 (370, .iconst 2, 1) rfl
theorem dL_law_371 : decode cL_law 371 = .ok (.iadd, 1) := ax_dec dL_law_q5_ok 1 (371, .iadd, 1) rfl
theorem dL_law_372 : decode cL_law 372 = .ok (.iaload, 1) := ax_dec dL_law_q5_ok 2 (372, .iaload, 1) rfl
theorem dL_law_373 : decode cL_law 373 = .ok (.aload_n 0, 1) := ax_dec dL_law_q5_ok 3 (373, .aload_n 0, 1) rfl
theorem dL_law_374 : decode cL_law 374 = .ok (.iload_n 3, 1) := ax_dec dL_law_q5_ok 4 (374, .iload_n 3, 1) rfl
theorem dL_law_375 : decode cL_law 375 = .ok (.iconst 3, 1) := ax_dec dL_law_q5_ok 5 (375, .iconst 3, 1) rfl
theorem dL_law_376 : decode cL_law 376 = .ok (.iadd, 1) := ax_dec dL_law_q5_ok 6 (376, .iadd, 1) rfl
theorem dL_law_377 : decode cL_law 377 = .ok (.iaload, 1) := ax_dec dL_law_q5_ok 7 (377, .iaload, 1) rfl
theorem dL_law_378 : decode cL_law 378 = .ok (.aload_n 0, 1) := ax_dec dL_law_q5_ok 8 (378, .aload_n 0, 1) rfl
theorem dL_law_379 : decode cL_law 379 = .ok (.iload_n 3, 1) := ax_dec dL_law_q5_ok 9 (379, .iload_n 3, 1) rfl
theorem dL_law_380 : decode cL_law 380 = .ok (.iconst 4, 1) := ax_dec dL_law_q5_ok 10 (380, .iconst 4, 1) rfl
theorem dL_law_381 : decode cL_law 381 = .ok (.iadd, 1) := ax_dec dL_law_q5_ok 11 (381, .iadd, 1) rfl
theorem dL_law_382 : decode cL_law 382 = .ok (.iaload, 1) := ax_dec dL_law_q5_ok 12 (382, .iaload, 1) rfl
theorem dL_law_383 : decode cL_law 383 = .ok (.invokevirtual 36, 3) := ax_dec dL_law_q5_ok 13 (383, .invokevirtual 36, 3) rfl
theorem dL_law_386 : decode cL_law 386 = .ok (.if_icmp .eq 1319, 3) := ax_dec dL_law_q5_ok 14 (386, .if_icmp .eq 1319, 3) rfl
theorem dL_law_389 : decode cL_law 389 = .ok (.iconst 0, 1) := ax_dec dL_law_q5_ok 15 (389, .iconst 0, 1) rfl
theorem dL_law_390 : decode cL_law 390 = .ok (.ireturn, 1) := ax_dec dL_law_q5_ok 16 (390, .ireturn, 1) rfl
theorem dL_law_391 : decode cL_law 391 = .ok (.aload_n 1, 1) := ax_dec dL_law_q5_ok 17 (391, .aload_n 1, 1) rfl
theorem dL_law_392 : decode cL_law 392 = .ok (.aload_n 0, 1) := ax_dec dL_law_q5_ok 18 (392, .aload_n 0, 1) rfl
theorem dL_law_393 : decode cL_law 393 = .ok (.iload_n 3, 1) := ax_dec dL_law_q5_ok 19 (393, .iload_n 3, 1) rfl
theorem dL_law_394 : decode cL_law 394 = .ok (.iconst 1, 1) := ax_dec dL_law_q5_ok 20 (394, .iconst 1, 1) rfl
theorem dL_law_395 : decode cL_law 395 = .ok (.iadd, 1) := ax_dec dL_law_q5_ok 21 (395, .iadd, 1) rfl
theorem dL_law_396 : decode cL_law 396 = .ok (.iaload, 1) := ax_dec dL_law_q5_ok 22 (396, .iaload, 1) rfl
theorem dL_law_397 : decode cL_law 397 = .ok (.aload_n 0, 1) := ax_dec dL_law_q5_ok 23 (397, .aload_n 0, 1) rfl
theorem dL_law_398 : decode cL_law 398 = .ok (.iload_n 3, 1) := ax_dec dL_law_q5_ok 24 (398, .iload_n 3, 1) rfl
theorem dL_law_399 : decode cL_law 399 = .ok (.iconst 2, 1) := ax_dec dL_law_q5_ok 25 (399, .iconst 2, 1) rfl
theorem dL_law_400 : decode cL_law 400 = .ok (.iadd, 1) := ax_dec dL_law_q5_ok 26 (400, .iadd, 1) rfl
theorem dL_law_401 : decode cL_law 401 = .ok (.iaload, 1) := ax_dec dL_law_q5_ok 27 (401, .iaload, 1) rfl
theorem dL_law_402 : decode cL_law 402 = .ok (.aload_n 0, 1) := ax_dec dL_law_q5_ok 28 (402, .aload_n 0, 1) rfl
theorem dL_law_403 : decode cL_law 403 = .ok (.iload_n 3, 1) := ax_dec dL_law_q5_ok 29 (403, .iload_n 3, 1) rfl
theorem dL_law_404 : decode cL_law 404 = .ok (.iconst 3, 1) := ax_dec dL_law_q5_ok 30 (404, .iconst 3, 1) rfl
theorem dL_law_405 : decode cL_law 405 = .ok (.iadd, 1) := ax_dec dL_law_q5_ok 31 (405, .iadd, 1) rfl
def dL_law_q6 : List (Nat × (Instr × Nat)) := [(406, .iaload, 1), (407, .aload_n 0, 1), (408, .iload_n 3, 1), (409, .iconst 4, 1), (410, .iadd, 1), (411, .iaload, 1), (412, .invokevirtual 37, 3), (415, .aload_n 2, 1), (416, .aload_n 0, 1), (417, .iload_n 3, 1), (418, .iconst 1, 1), (419, .iadd, 1), (420, .iaload, 1), (421, .aload_n 0, 1), (422, .iload_n 3, 1), (423, .iconst 2, 1), (424, .iadd, 1), (425, .iaload, 1), (426, .aload_n 0, 1), (427, .iload_n 3, 1), (428, .iconst 3, 1), (429, .iadd, 1), (430, .iaload, 1), (431, .aload_n 0, 1), (432, .iload_n 3, 1), (433, .iconst 4, 1), (434, .iadd, 1), (435, .iaload, 1), (436, .invokevirtual 40, 3), (439, .if_icmp .eq 1266, 3), (442, .iconst 0, 1), (443, .ireturn, 1)]
set_option maxRecDepth 100000 in
theorem dL_law_q6_ok : ax_decs cL_law dL_law_q6 = true := by decide +kernel
theorem dL_law_406 : decode cL_law 406 = .ok (.iaload, 1) := ax_dec dL_law_q6_ok 0 (406, .iaload, 1) rfl
theorem dL_law_407 : decode cL_law 407 = .ok (.aload_n 0, 1) := ax_dec dL_law_q6_ok 1 (407, .aload_n 0, 1) rfl
theorem dL_law_408 : decode cL_law 408 = .ok (.iload_n 3, 1) := ax_dec dL_law_q6_ok 2 (408, .iload_n 3, 1) rfl
theorem dL_law_409 : decode cL_law 409 = .ok (.iconst 4, 1) := ax_dec dL_law_q6_ok 3 (409, .iconst 4, 1) rfl
theorem dL_law_410 : decode cL_law 410 = .ok (.iadd, 1) := ax_dec dL_law_q6_ok 4 (410, .iadd, 1) rfl
theorem dL_law_411 : decode cL_law 411 = .ok (.iaload, 1) := ax_dec dL_law_q6_ok 5 (411, .iaload, 1) rfl
theorem dL_law_412 : decode cL_law 412 = .ok (.invokevirtual 37, 3) := ax_dec dL_law_q6_ok 6 (412, .invokevirtual 37, 3) rfl
theorem dL_law_415 : decode cL_law 415 = .ok (.aload_n 2, 1) := ax_dec dL_law_q6_ok 7 (415, .aload_n 2, 1) rfl
theorem dL_law_416 : decode cL_law 416 = .ok (.aload_n 0, 1) := ax_dec dL_law_q6_ok 8 (416, .aload_n 0, 1) rfl
theorem dL_law_417 : decode cL_law 417 = .ok (.iload_n 3, 1) := ax_dec dL_law_q6_ok 9 (417, .iload_n 3, 1) rfl
theorem dL_law_418 : decode cL_law 418 = .ok (.iconst 1, 1) := ax_dec dL_law_q6_ok 10 (418, .iconst 1, 1) rfl
theorem dL_law_419 : decode cL_law 419 = .ok (.iadd, 1) := ax_dec dL_law_q6_ok 11 (419, .iadd, 1) rfl
theorem dL_law_420 : decode cL_law 420 = .ok (.iaload, 1) := ax_dec dL_law_q6_ok 12 (420, .iaload, 1) rfl
theorem dL_law_421 : decode cL_law 421 = .ok (.aload_n 0, 1) := ax_dec dL_law_q6_ok 13 (421, .aload_n 0, 1) rfl
theorem dL_law_422 : decode cL_law 422 = .ok (.iload_n 3, 1) := ax_dec dL_law_q6_ok 14 (422, .iload_n 3, 1) rfl
theorem dL_law_423 : decode cL_law 423 = .ok (.iconst 2, 1) := ax_dec dL_law_q6_ok 15 (423, .iconst 2, 1) rfl
theorem dL_law_424 : decode cL_law 424 = .ok (.iadd, 1) := ax_dec dL_law_q6_ok 16 (424, .iadd, 1) rfl
theorem dL_law_425 : decode cL_law 425 = .ok (.iaload, 1) := ax_dec dL_law_q6_ok 17 (425, .iaload, 1) rfl
theorem dL_law_426 : decode cL_law 426 = .ok (.aload_n 0, 1) := ax_dec dL_law_q6_ok 18 (426, .aload_n 0, 1) rfl
theorem dL_law_427 : decode cL_law 427 = .ok (.iload_n 3, 1) := ax_dec dL_law_q6_ok 19 (427, .iload_n 3, 1) rfl
theorem dL_law_428 : decode cL_law 428 = .ok (.iconst 3, 1) := ax_dec dL_law_q6_ok 20 (428, .iconst 3, 1) rfl
theorem dL_law_429 : decode cL_law 429 = .ok (.iadd, 1) := ax_dec dL_law_q6_ok 21 (429, .iadd, 1) rfl
theorem dL_law_430 : decode cL_law 430 = .ok (.iaload, 1) := ax_dec dL_law_q6_ok 22 (430, .iaload, 1) rfl
theorem dL_law_431 : decode cL_law 431 = .ok (.aload_n 0, 1) := ax_dec dL_law_q6_ok 23 (431, .aload_n 0, 1) rfl
theorem dL_law_432 : decode cL_law 432 = .ok (.iload_n 3, 1) := ax_dec dL_law_q6_ok 24 (432, .iload_n 3, 1) rfl
theorem dL_law_433 : decode cL_law 433 = .ok (.iconst 4, 1) := ax_dec dL_law_q6_ok 25 (433, .iconst 4, 1) rfl
theorem dL_law_434 : decode cL_law 434 = .ok (.iadd, 1) := ax_dec dL_law_q6_ok 26 (434, .iadd, 1) rfl
theorem dL_law_435 : decode cL_law 435 = .ok (.iaload, 1) := ax_dec dL_law_q6_ok 27 (435, .iaload, 1) rfl
theorem dL_law_436 : decode cL_law 436 = .ok (.invokevirtual 40, 3) := ax_dec dL_law_q6_ok 28 (436, .invokevirtual 40, 3) rfl
theorem dL_law_439 : decode cL_law 439 = .ok (.if_icmp .eq 1266, 3) := ax_dec dL_law_q6_ok 29 (439, .if_icmp .eq 1266, 3) rfl
theorem dL_law_442 : decode cL_law 442 = .ok (.iconst 0, 1) := ax_dec dL_law_q6_ok 30 (442, .iconst 0, 1) rfl
theorem dL_law_443 : decode cL_law 443 = .ok (.ireturn, 1) := ax_dec dL_law_q6_ok 31 (443, .ireturn, 1) rfl
def dL_law_q7 : List (Nat × (Instr × Nat)) := [(444, .aload_n 1, 1), (445, .aload_n 0, 1), (446, .iload_n 3, 1), (447, .iconst 1, 1), (448, .iadd, 1), (449, .iaload, 1), (450, .aload_n 0, 1), (451, .iload_n 3, 1), (452, .iconst 2, 1), (453, .iadd, 1), (454, .iaload, 1), (455, .aload_n 0, 1), (456, .iload_n 3, 1), (457, .iconst 3, 1), (458, .iadd, 1), (459, .iaload, 1), (460, .invokevirtual 41, 3), (463, .aload_n 2, 1), (464, .aload_n 0, 1), (465, .iload_n 3, 1), (466, .iconst 1, 1), (467, .iadd, 1), (468, .iaload, 1), (469, .aload_n 0, 1), (470, .iload_n 3, 1), (471, .iconst 2, 1), (472, .iadd, 1), (473, .iaload, 1), (474, .aload_n 0, 1), (475, .iload_n 3, 1), (476, .iconst 3, 1), (477, .iadd, 1)]
set_option maxRecDepth 100000 in
theorem dL_law_q7_ok : ax_decs cL_law dL_law_q7 = true := by decide +kernel
theorem dL_law_444 : decode cL_law 444 = .ok (.aload_n 1, 1) := ax_dec dL_law_q7_ok 0 (444, .aload_n 1, 1) rfl
theorem dL_law_445 : decode cL_law 445 = .ok (.aload_n 0, 1) := ax_dec dL_law_q7_ok 1 (445, .aload_n 0, 1) rfl
theorem dL_law_446 : decode cL_law 446 = .ok (.iload_n 3, 1) := ax_dec dL_law_q7_ok 2 (446, .iload_n 3, 1) rfl
theorem dL_law_447 : decode cL_law 447 = .ok (.iconst 1, 1) := ax_dec dL_law_q7_ok 3 (447, .iconst 1, 1) rfl
theorem dL_law_448 : decode cL_law 448 = .ok (.iadd, 1) := ax_dec dL_law_q7_ok 4 (448, .iadd, 1) rfl
theorem dL_law_449 : decode cL_law 449 = .ok (.iaload, 1) := ax_dec dL_law_q7_ok 5 (449, .iaload, 1) rfl
theorem dL_law_450 : decode cL_law 450 = .ok (.aload_n 0, 1) := ax_dec dL_law_q7_ok 6 (450, .aload_n 0, 1) rfl
theorem dL_law_451 : decode cL_law 451 = .ok (.iload_n 3, 1) := ax_dec dL_law_q7_ok 7 (451, .iload_n 3, 1) rfl
theorem dL_law_452 : decode cL_law 452 = .ok (.iconst 2, 1) := ax_dec dL_law_q7_ok 8 (452, .iconst 2, 1) rfl
theorem dL_law_453 : decode cL_law 453 = .ok (.iadd, 1) := ax_dec dL_law_q7_ok 9 (453, .iadd, 1) rfl
theorem dL_law_454 : decode cL_law 454 = .ok (.iaload, 1) := ax_dec dL_law_q7_ok 10 (454, .iaload, 1) rfl
theorem dL_law_455 : decode cL_law 455 = .ok (.aload_n 0, 1) := ax_dec dL_law_q7_ok 11 (455, .aload_n 0, 1) rfl
theorem dL_law_456 : decode cL_law 456 = .ok (.iload_n 3, 1) := ax_dec dL_law_q7_ok 12 (456, .iload_n 3, 1) rfl
theorem dL_law_457 : decode cL_law 457 = .ok (.iconst 3, 1) := ax_dec dL_law_q7_ok 13 (457, .iconst 3, 1) rfl
theorem dL_law_458 : decode cL_law 458 = .ok (.iadd, 1) := ax_dec dL_law_q7_ok 14 (458, .iadd, 1) rfl
theorem dL_law_459 : decode cL_law 459 = .ok (.iaload, 1) := ax_dec dL_law_q7_ok 15 (459, .iaload, 1) rfl
theorem dL_law_460 : decode cL_law 460 = .ok (.invokevirtual 41, 3) := ax_dec dL_law_q7_ok 16 (460, .invokevirtual 41, 3) rfl
theorem dL_law_463 : decode cL_law 463 = .ok (.aload_n 2, 1) := ax_dec dL_law_q7_ok 17 (463, .aload_n 2, 1) rfl
theorem dL_law_464 : decode cL_law 464 = .ok (.aload_n 0, 1) := ax_dec dL_law_q7_ok 18 (464, .aload_n 0, 1) rfl
theorem dL_law_465 : decode cL_law 465 = .ok (.iload_n 3, 1) := ax_dec dL_law_q7_ok 19 (465, .iload_n 3, 1) rfl
theorem dL_law_466 : decode cL_law 466 = .ok (.iconst 1, 1) := ax_dec dL_law_q7_ok 20 (466, .iconst 1, 1) rfl
theorem dL_law_467 : decode cL_law 467 = .ok (.iadd, 1) := ax_dec dL_law_q7_ok 21 (467, .iadd, 1) rfl
theorem dL_law_468 : decode cL_law 468 = .ok (.iaload, 1) := ax_dec dL_law_q7_ok 22 (468, .iaload, 1) rfl
theorem dL_law_469 : decode cL_law 469 = .ok (.aload_n 0, 1) := ax_dec dL_law_q7_ok 23 (469, .aload_n 0, 1) rfl
theorem dL_law_470 : decode cL_law 470 = .ok (.iload_n 3, 1) := ax_dec dL_law_q7_ok 24 (470, .iload_n 3, 1) rfl
theorem dL_law_471 : decode cL_law 471 = .ok (.iconst 2, 1) := ax_dec dL_law_q7_ok 25 (471, .iconst 2, 1) rfl
theorem dL_law_472 : decode cL_law 472 = .ok (.iadd, 1) := ax_dec dL_law_q7_ok 26 (472, .iadd, 1) rfl
theorem dL_law_473 : decode cL_law 473 = .ok (.iaload, 1) := ax_dec dL_law_q7_ok 27 (473, .iaload, 1) rfl
theorem dL_law_474 : decode cL_law 474 = .ok (.aload_n 0, 1) := ax_dec dL_law_q7_ok 28 (474, .aload_n 0, 1) rfl
theorem dL_law_475 : decode cL_law 475 = .ok (.iload_n 3, 1) := ax_dec dL_law_q7_ok 29 (475, .iload_n 3, 1) rfl
theorem dL_law_476 : decode cL_law 476 = .ok (.iconst 3, 1) := ax_dec dL_law_q7_ok 30 (476, .iconst 3, 1) rfl
theorem dL_law_477 : decode cL_law 477 = .ok (.iadd, 1) := ax_dec dL_law_q7_ok 31 (477, .iadd, 1) rfl
def dL_law_q8 : List (Nat × (Instr × Nat)) := [(478, .iaload, 1), (479, .invokevirtual 45, 3), (482, .if_icmp .eq 1223, 3), (485, .iconst 0, 1), (486, .ireturn, 1), (487, .aload_n 1, 1), (488, .aload_n 0, 1), (489, .iload_n 3, 1), (490, .iconst 1, 1), (491, .iadd, 1), (492, .iaload, 1), (493, .aload_n 0, 1), (494, .iload_n 3, 1), (495, .iconst 2, 1), (496, .iadd, 1), (497, .iaload, 1), (498, .invokevirtual 46, 3), (501, .aload_n 2, 1), (502, .aload_n 0, 1), (503, .iload_n 3, 1), (504, .iconst 1, 1), (505, .iadd, 1), (506, .iaload, 1), (507, .aload_n 0, 1), (508, .iload_n 3, 1), (509, .iconst 2, 1), (510, .iadd, 1), (511, .iaload, 1), (512, .invokevirtual 50, 3), (515, .if_icmp .eq 1190, 3), (518, .iconst 0, 1), (519, .ireturn, 1)]
set_option maxRecDepth 100000 in
theorem dL_law_q8_ok : ax_decs cL_law dL_law_q8 = true := by decide +kernel
theorem dL_law_478 : decode cL_law 478 = .ok (.iaload, 1) := ax_dec dL_law_q8_ok 0 (478, .iaload, 1) rfl
theorem dL_law_479 : decode cL_law 479 = .ok (.invokevirtual 45, 3) := ax_dec dL_law_q8_ok 1 (479, .invokevirtual 45, 3) rfl
theorem dL_law_482 : decode cL_law 482 = .ok (.if_icmp .eq 1223, 3) := ax_dec dL_law_q8_ok 2 (482, .if_icmp .eq 1223, 3) rfl
theorem dL_law_485 : decode cL_law 485 = .ok (.iconst 0, 1) := ax_dec dL_law_q8_ok 3 (485, .iconst 0, 1) rfl
theorem dL_law_486 : decode cL_law 486 = .ok (.ireturn, 1) := ax_dec dL_law_q8_ok 4 (486, .ireturn, 1) rfl
theorem dL_law_487 : decode cL_law 487 = .ok (.aload_n 1, 1) := ax_dec dL_law_q8_ok 5 (487, .aload_n 1, 1) rfl
theorem dL_law_488 : decode cL_law 488 = .ok (.aload_n 0, 1) := ax_dec dL_law_q8_ok 6 (488, .aload_n 0, 1) rfl
theorem dL_law_489 : decode cL_law 489 = .ok (.iload_n 3, 1) := ax_dec dL_law_q8_ok 7 (489, .iload_n 3, 1) rfl
theorem dL_law_490 : decode cL_law 490 = .ok (.iconst 1, 1) := ax_dec dL_law_q8_ok 8 (490, .iconst 1, 1) rfl
theorem dL_law_491 : decode cL_law 491 = .ok (.iadd, 1) := ax_dec dL_law_q8_ok 9 (491, .iadd, 1) rfl
theorem dL_law_492 : decode cL_law 492 = .ok (.iaload, 1) := ax_dec dL_law_q8_ok 10 (492, .iaload, 1) rfl
theorem dL_law_493 : decode cL_law 493 = .ok (.aload_n 0, 1) := ax_dec dL_law_q8_ok 11 (493, .aload_n 0, 1) rfl
theorem dL_law_494 : decode cL_law 494 = .ok (.iload_n 3, 1) := ax_dec dL_law_q8_ok 12 (494, .iload_n 3, 1) rfl
theorem dL_law_495 : decode cL_law 495 = .ok (.iconst 2, 1) := ax_dec dL_law_q8_ok 13 (495, .iconst 2, 1) rfl
theorem dL_law_496 : decode cL_law 496 = .ok (.iadd, 1) := ax_dec dL_law_q8_ok 14 (496, .iadd, 1) rfl
theorem dL_law_497 : decode cL_law 497 = .ok (.iaload, 1) := ax_dec dL_law_q8_ok 15 (497, .iaload, 1) rfl
theorem dL_law_498 : decode cL_law 498 = .ok (.invokevirtual 46, 3) := ax_dec dL_law_q8_ok 16 (498, .invokevirtual 46, 3) rfl
theorem dL_law_501 : decode cL_law 501 = .ok (.aload_n 2, 1) := ax_dec dL_law_q8_ok 17 (501, .aload_n 2, 1) rfl
theorem dL_law_502 : decode cL_law 502 = .ok (.aload_n 0, 1) := ax_dec dL_law_q8_ok 18 (502, .aload_n 0, 1) rfl
theorem dL_law_503 : decode cL_law 503 = .ok (.iload_n 3, 1) := ax_dec dL_law_q8_ok 19 (503, .iload_n 3, 1) rfl
theorem dL_law_504 : decode cL_law 504 = .ok (.iconst 1, 1) := ax_dec dL_law_q8_ok 20 (504, .iconst 1, 1) rfl
theorem dL_law_505 : decode cL_law 505 = .ok (.iadd, 1) := ax_dec dL_law_q8_ok 21 (505, .iadd, 1) rfl
theorem dL_law_506 : decode cL_law 506 = .ok (.iaload, 1) := ax_dec dL_law_q8_ok 22 (506, .iaload, 1) rfl
theorem dL_law_507 : decode cL_law 507 = .ok (.aload_n 0, 1) := ax_dec dL_law_q8_ok 23 (507, .aload_n 0, 1) rfl
theorem dL_law_508 : decode cL_law 508 = .ok (.iload_n 3, 1) := ax_dec dL_law_q8_ok 24 (508, .iload_n 3, 1) rfl
theorem dL_law_509 : decode cL_law 509 = .ok (.iconst 2, 1) := ax_dec dL_law_q8_ok 25 (509, .iconst 2, 1) rfl
theorem dL_law_510 : decode cL_law 510 = .ok (.iadd, 1) := ax_dec dL_law_q8_ok 26 (510, .iadd, 1) rfl
theorem dL_law_511 : decode cL_law 511 = .ok (.iaload, 1) := ax_dec dL_law_q8_ok 27 (511, .iaload, 1) rfl
theorem dL_law_512 : decode cL_law 512 = .ok (.invokevirtual 50, 3) := ax_dec dL_law_q8_ok 28 (512, .invokevirtual 50, 3) rfl
theorem dL_law_515 : decode cL_law 515 = .ok (.if_icmp .eq 1190, 3) := ax_dec dL_law_q8_ok 29 (515, .if_icmp .eq 1190, 3) rfl
theorem dL_law_518 : decode cL_law 518 = .ok (.iconst 0, 1) := ax_dec dL_law_q8_ok 30 (518, .iconst 0, 1) rfl
theorem dL_law_519 : decode cL_law 519 = .ok (.ireturn, 1) := ax_dec dL_law_q8_ok 31 (519, .ireturn, 1) rfl
def dL_law_q9 : List (Nat × (Instr × Nat)) := [(520, .aload_n 1, 1), (521, .aload_n 0, 1), (522, .iload_n 3, 1), (523, .iconst 1, 1), (524, .iadd, 1), (525, .iaload, 1), (526, .aload_n 0, 1), (527, .iload_n 3, 1), (528, .iconst 2, 1), (529, .iadd, 1), (530, .iaload, 1), (531, .invokevirtual 51, 3), (534, .aload_n 2, 1), (535, .aload_n 0, 1), (536, .iload_n 3, 1), (537, .iconst 1, 1), (538, .iadd, 1), (539, .iaload, 1), (540, .aload_n 0, 1), (541, .iload_n 3, 1), (542, .iconst 2, 1), (543, .iadd, 1), (544, .iaload, 1), (545, .invokevirtual 54, 3), (548, .if_icmp .eq 1157, 3), (551, .iconst 0, 1), (552, .ireturn, 1), (553, .aload_n 1, 1), (554, .aload_n 0, 1), (555, .iload_n 3, 1), (556, .iconst 1, 1), (557, .iadd, 1)]
set_option maxRecDepth 100000 in
theorem dL_law_q9_ok : ax_decs cL_law dL_law_q9 = true := by decide +kernel
theorem dL_law_520 : decode cL_law 520 = .ok (.aload_n 1, 1) := ax_dec dL_law_q9_ok 0 (520, .aload_n 1, 1) rfl
theorem dL_law_521 : decode cL_law 521 = .ok (.aload_n 0, 1) := ax_dec dL_law_q9_ok 1 (521, .aload_n 0, 1) rfl
theorem dL_law_522 : decode cL_law 522 = .ok (.iload_n 3, 1) := ax_dec dL_law_q9_ok 2 (522, .iload_n 3, 1) rfl
theorem dL_law_523 : decode cL_law 523 = .ok (.iconst 1, 1) := ax_dec dL_law_q9_ok 3 (523, .iconst 1, 1) rfl
theorem dL_law_524 : decode cL_law 524 = .ok (.iadd, 1) := ax_dec dL_law_q9_ok 4 (524, .iadd, 1) rfl
theorem dL_law_525 : decode cL_law 525 = .ok (.iaload, 1) := ax_dec dL_law_q9_ok 5 (525, .iaload, 1) rfl
theorem dL_law_526 : decode cL_law 526 = .ok (.aload_n 0, 1) := ax_dec dL_law_q9_ok 6 (526, .aload_n 0, 1) rfl
theorem dL_law_527 : decode cL_law 527 = .ok (.iload_n 3, 1) := ax_dec dL_law_q9_ok 7 (527, .iload_n 3, 1) rfl
theorem dL_law_528 : decode cL_law 528 = .ok (.iconst 2, 1) := ax_dec dL_law_q9_ok 8 (528, .iconst 2, 1) rfl
theorem dL_law_529 : decode cL_law 529 = .ok (.iadd, 1) := ax_dec dL_law_q9_ok 9 (529, .iadd, 1) rfl
theorem dL_law_530 : decode cL_law 530 = .ok (.iaload, 1) := ax_dec dL_law_q9_ok 10 (530, .iaload, 1) rfl
theorem dL_law_531 : decode cL_law 531 = .ok (.invokevirtual 51, 3) := ax_dec dL_law_q9_ok 11 (531, .invokevirtual 51, 3) rfl
theorem dL_law_534 : decode cL_law 534 = .ok (.aload_n 2, 1) := ax_dec dL_law_q9_ok 12 (534, .aload_n 2, 1) rfl
theorem dL_law_535 : decode cL_law 535 = .ok (.aload_n 0, 1) := ax_dec dL_law_q9_ok 13 (535, .aload_n 0, 1) rfl
theorem dL_law_536 : decode cL_law 536 = .ok (.iload_n 3, 1) := ax_dec dL_law_q9_ok 14 (536, .iload_n 3, 1) rfl
theorem dL_law_537 : decode cL_law 537 = .ok (.iconst 1, 1) := ax_dec dL_law_q9_ok 15 (537, .iconst 1, 1) rfl
theorem dL_law_538 : decode cL_law 538 = .ok (.iadd, 1) := ax_dec dL_law_q9_ok 16 (538, .iadd, 1) rfl
theorem dL_law_539 : decode cL_law 539 = .ok (.iaload, 1) := ax_dec dL_law_q9_ok 17 (539, .iaload, 1) rfl
theorem dL_law_540 : decode cL_law 540 = .ok (.aload_n 0, 1) := ax_dec dL_law_q9_ok 18 (540, .aload_n 0, 1) rfl
theorem dL_law_541 : decode cL_law 541 = .ok (.iload_n 3, 1) := ax_dec dL_law_q9_ok 19 (541, .iload_n 3, 1) rfl
theorem dL_law_542 : decode cL_law 542 = .ok (.iconst 2, 1) := ax_dec dL_law_q9_ok 20 (542, .iconst 2, 1) rfl
theorem dL_law_543 : decode cL_law 543 = .ok (.iadd, 1) := ax_dec dL_law_q9_ok 21 (543, .iadd, 1) rfl
theorem dL_law_544 : decode cL_law 544 = .ok (.iaload, 1) := ax_dec dL_law_q9_ok 22 (544, .iaload, 1) rfl
theorem dL_law_545 : decode cL_law 545 = .ok (.invokevirtual 54, 3) := ax_dec dL_law_q9_ok 23 (545, .invokevirtual 54, 3) rfl
theorem dL_law_548 : decode cL_law 548 = .ok (.if_icmp .eq 1157, 3) := ax_dec dL_law_q9_ok 24 (548, .if_icmp .eq 1157, 3) rfl
theorem dL_law_551 : decode cL_law 551 = .ok (.iconst 0, 1) := ax_dec dL_law_q9_ok 25 (551, .iconst 0, 1) rfl
theorem dL_law_552 : decode cL_law 552 = .ok (.ireturn, 1) := ax_dec dL_law_q9_ok 26 (552, .ireturn, 1) rfl
theorem dL_law_553 : decode cL_law 553 = .ok (.aload_n 1, 1) := ax_dec dL_law_q9_ok 27 (553, .aload_n 1, 1) rfl
theorem dL_law_554 : decode cL_law 554 = .ok (.aload_n 0, 1) := ax_dec dL_law_q9_ok 28 (554, .aload_n 0, 1) rfl
theorem dL_law_555 : decode cL_law 555 = .ok (.iload_n 3, 1) := ax_dec dL_law_q9_ok 29 (555, .iload_n 3, 1) rfl
theorem dL_law_556 : decode cL_law 556 = .ok (.iconst 1, 1) := ax_dec dL_law_q9_ok 30 (556, .iconst 1, 1) rfl
theorem dL_law_557 : decode cL_law 557 = .ok (.iadd, 1) := ax_dec dL_law_q9_ok 31 (557, .iadd, 1) rfl
def dL_law_q10 : List (Nat × (Instr × Nat)) := [(558, .iaload, 1), (559, .invokevirtual 55, 3), (562, .aload_n 2, 1), (563, .aload_n 0, 1), (564, .iload_n 3, 1), (565, .iconst 1, 1), (566, .iadd, 1), (567, .iaload, 1), (568, .invokevirtual 58, 3), (571, .if_icmp .eq 1134, 3), (574, .iconst 0, 1), (575, .ireturn, 1), (576, .aload_n 1, 1), (577, .aload_n 0, 1), (578, .iload_n 3, 1), (579, .iconst 1, 1), (580, .iadd, 1), (581, .iaload, 1), (582, .aload_n 0, 1), (583, .iload_n 3, 1), (584, .iconst 2, 1), (585, .iadd, 1), (586, .iaload, 1), (587, .invokevirtual 59, 3), (590, .aload_n 2, 1), (591, .aload_n 0, 1), (592, .iload_n 3, 1), (593, .iconst 1, 1), (594, .iadd, 1), (595, .iaload, 1), (596, .aload_n 0, 1), (597, .iload_n 3, 1)]
set_option maxRecDepth 100000 in
theorem dL_law_q10_ok : ax_decs cL_law dL_law_q10 = true := by decide +kernel
theorem dL_law_558 : decode cL_law 558 = .ok (.iaload, 1) := ax_dec dL_law_q10_ok 0 (558, .iaload, 1) rfl
theorem dL_law_559 : decode cL_law 559 = .ok (.invokevirtual 55, 3) := ax_dec dL_law_q10_ok 1 (559, .invokevirtual 55, 3) rfl
theorem dL_law_562 : decode cL_law 562 = .ok (.aload_n 2, 1) := ax_dec dL_law_q10_ok 2 (562, .aload_n 2, 1) rfl
theorem dL_law_563 : decode cL_law 563 = .ok (.aload_n 0, 1) := ax_dec dL_law_q10_ok 3 (563, .aload_n 0, 1) rfl
theorem dL_law_564 : decode cL_law 564 = .ok (.iload_n 3, 1) := ax_dec dL_law_q10_ok 4 (564, .iload_n 3, 1) rfl
theorem dL_law_565 : decode cL_law 565 = .ok (.iconst 1, 1) := ax_dec dL_law_q10_ok 5 (565, .iconst 1, 1) rfl
theorem dL_law_566 : decode cL_law 566 = .ok (.iadd, 1) := ax_dec dL_law_q10_ok 6 (566, .iadd, 1) rfl
theorem dL_law_567 : decode cL_law 567 = .ok (.iaload, 1) := ax_dec dL_law_q10_ok 7 (567, .iaload, 1) rfl
theorem dL_law_568 : decode cL_law 568 = .ok (.invokevirtual 58, 3) := ax_dec dL_law_q10_ok 8 (568, .invokevirtual 58, 3) rfl
theorem dL_law_571 : decode cL_law 571 = .ok (.if_icmp .eq 1134, 3) := ax_dec dL_law_q10_ok 9 (571, .if_icmp .eq 1134, 3) rfl
theorem dL_law_574 : decode cL_law 574 = .ok (.iconst 0, 1) := ax_dec dL_law_q10_ok 10 (574, .iconst 0, 1) rfl
theorem dL_law_575 : decode cL_law 575 = .ok (.ireturn, 1) := ax_dec dL_law_q10_ok 11 (575, .ireturn, 1) rfl
theorem dL_law_576 : decode cL_law 576 = .ok (.aload_n 1, 1) := ax_dec dL_law_q10_ok 12 (576, .aload_n 1, 1) rfl
theorem dL_law_577 : decode cL_law 577 = .ok (.aload_n 0, 1) := ax_dec dL_law_q10_ok 13 (577, .aload_n 0, 1) rfl
theorem dL_law_578 : decode cL_law 578 = .ok (.iload_n 3, 1) := ax_dec dL_law_q10_ok 14 (578, .iload_n 3, 1) rfl
theorem dL_law_579 : decode cL_law 579 = .ok (.iconst 1, 1) := ax_dec dL_law_q10_ok 15 (579, .iconst 1, 1) rfl
theorem dL_law_580 : decode cL_law 580 = .ok (.iadd, 1) := ax_dec dL_law_q10_ok 16 (580, .iadd, 1) rfl
theorem dL_law_581 : decode cL_law 581 = .ok (.iaload, 1) := ax_dec dL_law_q10_ok 17 (581, .iaload, 1) rfl
theorem dL_law_582 : decode cL_law 582 = .ok (.aload_n 0, 1) := ax_dec dL_law_q10_ok 18 (582, .aload_n 0, 1) rfl
theorem dL_law_583 : decode cL_law 583 = .ok (.iload_n 3, 1) := ax_dec dL_law_q10_ok 19 (583, .iload_n 3, 1) rfl
theorem dL_law_584 : decode cL_law 584 = .ok (.iconst 2, 1) := ax_dec dL_law_q10_ok 20 (584, .iconst 2, 1) rfl
theorem dL_law_585 : decode cL_law 585 = .ok (.iadd, 1) := ax_dec dL_law_q10_ok 21 (585, .iadd, 1) rfl
theorem dL_law_586 : decode cL_law 586 = .ok (.iaload, 1) := ax_dec dL_law_q10_ok 22 (586, .iaload, 1) rfl
theorem dL_law_587 : decode cL_law 587 = .ok (.invokevirtual 59, 3) := ax_dec dL_law_q10_ok 23 (587, .invokevirtual 59, 3) rfl
theorem dL_law_590 : decode cL_law 590 = .ok (.aload_n 2, 1) := ax_dec dL_law_q10_ok 24 (590, .aload_n 2, 1) rfl
theorem dL_law_591 : decode cL_law 591 = .ok (.aload_n 0, 1) := ax_dec dL_law_q10_ok 25 (591, .aload_n 0, 1) rfl
theorem dL_law_592 : decode cL_law 592 = .ok (.iload_n 3, 1) := ax_dec dL_law_q10_ok 26 (592, .iload_n 3, 1) rfl
theorem dL_law_593 : decode cL_law 593 = .ok (.iconst 1, 1) := ax_dec dL_law_q10_ok 27 (593, .iconst 1, 1) rfl
theorem dL_law_594 : decode cL_law 594 = .ok (.iadd, 1) := ax_dec dL_law_q10_ok 28 (594, .iadd, 1) rfl
theorem dL_law_595 : decode cL_law 595 = .ok (.iaload, 1) := ax_dec dL_law_q10_ok 29 (595, .iaload, 1) rfl
theorem dL_law_596 : decode cL_law 596 = .ok (.aload_n 0, 1) := ax_dec dL_law_q10_ok 30 (596, .aload_n 0, 1) rfl
theorem dL_law_597 : decode cL_law 597 = .ok (.iload_n 3, 1) := ax_dec dL_law_q10_ok 31 (597, .iload_n 3, 1) rfl
def dL_law_q11 : List (Nat × (Instr × Nat)) := [(598, .iconst 2, 1), (599, .iadd, 1), (600, .iaload, 1), (601, .invokevirtual 62, 3), (604, .if_icmp .eq 1101, 3), (607, .iconst 0, 1), (608, .ireturn, 1), (609, .aload_n 1, 1), (610, .aload_n 0, 1), (611, .iload_n 3, 1), (612, .iconst 1, 1), (613, .iadd, 1), (614, .iaload, 1), (615, .aload_n 0, 1), (616, .iload_n 3, 1), (617, .iconst 2, 1), (618, .iadd, 1), (619, .iaload, 1), (620, .invokevirtual 63, 3), (623, .aload_n 2, 1), (624, .aload_n 0, 1), (625, .iload_n 3, 1), (626, .iconst 1, 1), (627, .iadd, 1), (628, .iaload, 1), (629, .aload_n 0, 1), (630, .iload_n 3, 1), (631, .iconst 2, 1), (632, .iadd, 1), (633, .iaload, 1), (634, .invokevirtual 66, 3), (637, .if_icmp .eq 1068, 3)]
set_option maxRecDepth 100000 in
theorem dL_law_q11_ok : ax_decs cL_law dL_law_q11 = true := by decide +kernel
theorem dL_law_598 : decode cL_law 598 = .ok (.iconst 2, 1) := ax_dec dL_law_q11_ok 0 (598, .iconst 2, 1) rfl
theorem dL_law_599 : decode cL_law 599 = .ok (.iadd, 1) := ax_dec dL_law_q11_ok 1 (599, .iadd, 1) rfl
theorem dL_law_600 : decode cL_law 600 = .ok (.iaload, 1) := ax_dec dL_law_q11_ok 2 (600, .iaload, 1) rfl
theorem dL_law_601 : decode cL_law 601 = .ok (.invokevirtual 62, 3) := ax_dec dL_law_q11_ok 3 (601, .invokevirtual 62, 3) rfl
theorem dL_law_604 : decode cL_law 604 = .ok (.if_icmp .eq 1101, 3) := ax_dec dL_law_q11_ok 4 (604, .if_icmp .eq 1101, 3) rfl
theorem dL_law_607 : decode cL_law 607 = .ok (.iconst 0, 1) := ax_dec dL_law_q11_ok 5 (607, .iconst 0, 1) rfl
theorem dL_law_608 : decode cL_law 608 = .ok (.ireturn, 1) := ax_dec dL_law_q11_ok 6 (608, .ireturn, 1) rfl
theorem dL_law_609 : decode cL_law 609 = .ok (.aload_n 1, 1) := ax_dec dL_law_q11_ok 7 (609, .aload_n 1, 1) rfl
theorem dL_law_610 : decode cL_law 610 = .ok (.aload_n 0, 1) := ax_dec dL_law_q11_ok 8 (610, .aload_n 0, 1) rfl
theorem dL_law_611 : decode cL_law 611 = .ok (.iload_n 3, 1) := ax_dec dL_law_q11_ok 9 (611, .iload_n 3, 1) rfl
theorem dL_law_612 : decode cL_law 612 = .ok (.iconst 1, 1) := ax_dec dL_law_q11_ok 10 (612, .iconst 1, 1) rfl
theorem dL_law_613 : decode cL_law 613 = .ok (.iadd, 1) := ax_dec dL_law_q11_ok 11 (613, .iadd, 1) rfl
theorem dL_law_614 : decode cL_law 614 = .ok (.iaload, 1) := ax_dec dL_law_q11_ok 12 (614, .iaload, 1) rfl
theorem dL_law_615 : decode cL_law 615 = .ok (.aload_n 0, 1) := ax_dec dL_law_q11_ok 13 (615, .aload_n 0, 1) rfl
theorem dL_law_616 : decode cL_law 616 = .ok (.iload_n 3, 1) := ax_dec dL_law_q11_ok 14 (616, .iload_n 3, 1) rfl
theorem dL_law_617 : decode cL_law 617 = .ok (.iconst 2, 1) := ax_dec dL_law_q11_ok 15 (617, .iconst 2, 1) rfl
theorem dL_law_618 : decode cL_law 618 = .ok (.iadd, 1) := ax_dec dL_law_q11_ok 16 (618, .iadd, 1) rfl
theorem dL_law_619 : decode cL_law 619 = .ok (.iaload, 1) := ax_dec dL_law_q11_ok 17 (619, .iaload, 1) rfl
theorem dL_law_620 : decode cL_law 620 = .ok (.invokevirtual 63, 3) := ax_dec dL_law_q11_ok 18 (620, .invokevirtual 63, 3) rfl
theorem dL_law_623 : decode cL_law 623 = .ok (.aload_n 2, 1) := ax_dec dL_law_q11_ok 19 (623, .aload_n 2, 1) rfl
theorem dL_law_624 : decode cL_law 624 = .ok (.aload_n 0, 1) := ax_dec dL_law_q11_ok 20 (624, .aload_n 0, 1) rfl
theorem dL_law_625 : decode cL_law 625 = .ok (.iload_n 3, 1) := ax_dec dL_law_q11_ok 21 (625, .iload_n 3, 1) rfl
theorem dL_law_626 : decode cL_law 626 = .ok (.iconst 1, 1) := ax_dec dL_law_q11_ok 22 (626, .iconst 1, 1) rfl
theorem dL_law_627 : decode cL_law 627 = .ok (.iadd, 1) := ax_dec dL_law_q11_ok 23 (627, .iadd, 1) rfl
theorem dL_law_628 : decode cL_law 628 = .ok (.iaload, 1) := ax_dec dL_law_q11_ok 24 (628, .iaload, 1) rfl
theorem dL_law_629 : decode cL_law 629 = .ok (.aload_n 0, 1) := ax_dec dL_law_q11_ok 25 (629, .aload_n 0, 1) rfl
theorem dL_law_630 : decode cL_law 630 = .ok (.iload_n 3, 1) := ax_dec dL_law_q11_ok 26 (630, .iload_n 3, 1) rfl
theorem dL_law_631 : decode cL_law 631 = .ok (.iconst 2, 1) := ax_dec dL_law_q11_ok 27 (631, .iconst 2, 1) rfl
theorem dL_law_632 : decode cL_law 632 = .ok (.iadd, 1) := ax_dec dL_law_q11_ok 28 (632, .iadd, 1) rfl
theorem dL_law_633 : decode cL_law 633 = .ok (.iaload, 1) := ax_dec dL_law_q11_ok 29 (633, .iaload, 1) rfl
theorem dL_law_634 : decode cL_law 634 = .ok (.invokevirtual 66, 3) := ax_dec dL_law_q11_ok 30 (634, .invokevirtual 66, 3) rfl
theorem dL_law_637 : decode cL_law 637 = .ok (.if_icmp .eq 1068, 3) := ax_dec dL_law_q11_ok 31 (637, .if_icmp .eq 1068, 3) rfl
def dL_law_q12 : List (Nat × (Instr × Nat)) := [(640, .iconst 0, 1), (641, .ireturn, 1), (642, .aload_n 1, 1), (643, .aload_n 0, 1), (644, .iload_n 3, 1), (645, .iconst 1, 1), (646, .iadd, 1), (647, .iaload, 1), (648, .aload_n 0, 1), (649, .iload_n 3, 1), (650, .iconst 2, 1), (651, .iadd, 1), (652, .iaload, 1), (653, .aload_n 0, 1), (654, .iload_n 3, 1), (655, .iconst 3, 1), (656, .iadd, 1), (657, .iaload, 1), (658, .invokevirtual 67, 3), (661, .aload_n 2, 1), (662, .aload_n 0, 1), (663, .iload_n 3, 1), (664, .iconst 1, 1), (665, .iadd, 1), (666, .iaload, 1), (667, .aload_n 0, 1), (668, .iload_n 3, 1), (669, .iconst 2, 1), (670, .iadd, 1), (671, .iaload, 1), (672, .aload_n 0, 1), (673, .iload_n 3, 1)]
set_option maxRecDepth 100000 in
theorem dL_law_q12_ok : ax_decs cL_law dL_law_q12 = true := by decide +kernel
theorem dL_law_640 : decode cL_law 640 = .ok (.iconst 0, 1) := ax_dec dL_law_q12_ok 0 (640, .iconst 0, 1) rfl
theorem dL_law_641 : decode cL_law 641 = .ok (.ireturn, 1) := ax_dec dL_law_q12_ok 1 (641, .ireturn, 1) rfl
theorem dL_law_642 : decode cL_law 642 = .ok (.aload_n 1, 1) := ax_dec dL_law_q12_ok 2 (642, .aload_n 1, 1) rfl
theorem dL_law_643 : decode cL_law 643 = .ok (.aload_n 0, 1) := ax_dec dL_law_q12_ok 3 (643, .aload_n 0, 1) rfl
theorem dL_law_644 : decode cL_law 644 = .ok (.iload_n 3, 1) := ax_dec dL_law_q12_ok 4 (644, .iload_n 3, 1) rfl
theorem dL_law_645 : decode cL_law 645 = .ok (.iconst 1, 1) := ax_dec dL_law_q12_ok 5 (645, .iconst 1, 1) rfl
theorem dL_law_646 : decode cL_law 646 = .ok (.iadd, 1) := ax_dec dL_law_q12_ok 6 (646, .iadd, 1) rfl
theorem dL_law_647 : decode cL_law 647 = .ok (.iaload, 1) := ax_dec dL_law_q12_ok 7 (647, .iaload, 1) rfl
theorem dL_law_648 : decode cL_law 648 = .ok (.aload_n 0, 1) := ax_dec dL_law_q12_ok 8 (648, .aload_n 0, 1) rfl
theorem dL_law_649 : decode cL_law 649 = .ok (.iload_n 3, 1) := ax_dec dL_law_q12_ok 9 (649, .iload_n 3, 1) rfl
theorem dL_law_650 : decode cL_law 650 = .ok (.iconst 2, 1) := ax_dec dL_law_q12_ok 10 (650, .iconst 2, 1) rfl
theorem dL_law_651 : decode cL_law 651 = .ok (.iadd, 1) := ax_dec dL_law_q12_ok 11 (651, .iadd, 1) rfl
theorem dL_law_652 : decode cL_law 652 = .ok (.iaload, 1) := ax_dec dL_law_q12_ok 12 (652, .iaload, 1) rfl
theorem dL_law_653 : decode cL_law 653 = .ok (.aload_n 0, 1) := ax_dec dL_law_q12_ok 13 (653, .aload_n 0, 1) rfl
theorem dL_law_654 : decode cL_law 654 = .ok (.iload_n 3, 1) := ax_dec dL_law_q12_ok 14 (654, .iload_n 3, 1) rfl
theorem dL_law_655 : decode cL_law 655 = .ok (.iconst 3, 1) := ax_dec dL_law_q12_ok 15 (655, .iconst 3, 1) rfl
theorem dL_law_656 : decode cL_law 656 = .ok (.iadd, 1) := ax_dec dL_law_q12_ok 16 (656, .iadd, 1) rfl
theorem dL_law_657 : decode cL_law 657 = .ok (.iaload, 1) := ax_dec dL_law_q12_ok 17 (657, .iaload, 1) rfl
theorem dL_law_658 : decode cL_law 658 = .ok (.invokevirtual 67, 3) := ax_dec dL_law_q12_ok 18 (658, .invokevirtual 67, 3) rfl
theorem dL_law_661 : decode cL_law 661 = .ok (.aload_n 2, 1) := ax_dec dL_law_q12_ok 19 (661, .aload_n 2, 1) rfl
theorem dL_law_662 : decode cL_law 662 = .ok (.aload_n 0, 1) := ax_dec dL_law_q12_ok 20 (662, .aload_n 0, 1) rfl
theorem dL_law_663 : decode cL_law 663 = .ok (.iload_n 3, 1) := ax_dec dL_law_q12_ok 21 (663, .iload_n 3, 1) rfl
theorem dL_law_664 : decode cL_law 664 = .ok (.iconst 1, 1) := ax_dec dL_law_q12_ok 22 (664, .iconst 1, 1) rfl
theorem dL_law_665 : decode cL_law 665 = .ok (.iadd, 1) := ax_dec dL_law_q12_ok 23 (665, .iadd, 1) rfl
theorem dL_law_666 : decode cL_law 666 = .ok (.iaload, 1) := ax_dec dL_law_q12_ok 24 (666, .iaload, 1) rfl
theorem dL_law_667 : decode cL_law 667 = .ok (.aload_n 0, 1) := ax_dec dL_law_q12_ok 25 (667, .aload_n 0, 1) rfl
theorem dL_law_668 : decode cL_law 668 = .ok (.iload_n 3, 1) := ax_dec dL_law_q12_ok 26 (668, .iload_n 3, 1) rfl
theorem dL_law_669 : decode cL_law 669 = .ok (.iconst 2, 1) := ax_dec dL_law_q12_ok 27 (669, .iconst 2, 1) rfl
theorem dL_law_670 : decode cL_law 670 = .ok (.iadd, 1) := ax_dec dL_law_q12_ok 28 (670, .iadd, 1) rfl
theorem dL_law_671 : decode cL_law 671 = .ok (.iaload, 1) := ax_dec dL_law_q12_ok 29 (671, .iaload, 1) rfl
theorem dL_law_672 : decode cL_law 672 = .ok (.aload_n 0, 1) := ax_dec dL_law_q12_ok 30 (672, .aload_n 0, 1) rfl
theorem dL_law_673 : decode cL_law 673 = .ok (.iload_n 3, 1) := ax_dec dL_law_q12_ok 31 (673, .iload_n 3, 1) rfl
def dL_law_q13 : List (Nat × (Instr × Nat)) := [(674, .iconst 3, 1), (675, .iadd, 1), (676, .iaload, 1), (677, .invokevirtual 70, 3), (680, .if_icmp .eq 1025, 3), (683, .iconst 0, 1), (684, .ireturn, 1), (685, .aload_n 1, 1), (686, .aload_n 0, 1), (687, .iload_n 3, 1), (688, .iconst 1, 1), (689, .iadd, 1), (690, .iaload, 1), (691, .aload_n 0, 1), (692, .iload_n 3, 1), (693, .iconst 2, 1), (694, .iadd, 1), (695, .iaload, 1), (696, .aload_n 0, 1), (697, .iload_n 3, 1), (698, .iconst 3, 1), (699, .iadd, 1), (700, .iaload, 1), (701, .invokevirtual 71, 3), (704, .aload_n 2, 1), (705, .aload_n 0, 1), (706, .iload_n 3, 1), (707, .iconst 1, 1), (708, .iadd, 1), (709, .iaload, 1), (710, .aload_n 0, 1), (711, .iload_n 3, 1)]
set_option maxRecDepth 100000 in
theorem dL_law_q13_ok : ax_decs cL_law dL_law_q13 = true := by decide +kernel
theorem dL_law_674 : decode cL_law 674 = .ok (.iconst 3, 1) := ax_dec dL_law_q13_ok 0 (674, .iconst 3, 1) rfl
theorem dL_law_675 : decode cL_law 675 = .ok (.iadd, 1) := ax_dec dL_law_q13_ok 1 (675, .iadd, 1) rfl
theorem dL_law_676 : decode cL_law 676 = .ok (.iaload, 1) := ax_dec dL_law_q13_ok 2 (676, .iaload, 1) rfl
theorem dL_law_677 : decode cL_law 677 = .ok (.invokevirtual 70, 3) := ax_dec dL_law_q13_ok 3 (677, .invokevirtual 70, 3) rfl
theorem dL_law_680 : decode cL_law 680 = .ok (.if_icmp .eq 1025, 3) := ax_dec dL_law_q13_ok 4 (680, .if_icmp .eq 1025, 3) rfl
theorem dL_law_683 : decode cL_law 683 = .ok (.iconst 0, 1) := ax_dec dL_law_q13_ok 5 (683, .iconst 0, 1) rfl
theorem dL_law_684 : decode cL_law 684 = .ok (.ireturn, 1) := ax_dec dL_law_q13_ok 6 (684, .ireturn, 1) rfl
theorem dL_law_685 : decode cL_law 685 = .ok (.aload_n 1, 1) := ax_dec dL_law_q13_ok 7 (685, .aload_n 1, 1) rfl
theorem dL_law_686 : decode cL_law 686 = .ok (.aload_n 0, 1) := ax_dec dL_law_q13_ok 8 (686, .aload_n 0, 1) rfl
theorem dL_law_687 : decode cL_law 687 = .ok (.iload_n 3, 1) := ax_dec dL_law_q13_ok 9 (687, .iload_n 3, 1) rfl
theorem dL_law_688 : decode cL_law 688 = .ok (.iconst 1, 1) := ax_dec dL_law_q13_ok 10 (688, .iconst 1, 1) rfl
theorem dL_law_689 : decode cL_law 689 = .ok (.iadd, 1) := ax_dec dL_law_q13_ok 11 (689, .iadd, 1) rfl
theorem dL_law_690 : decode cL_law 690 = .ok (.iaload, 1) := ax_dec dL_law_q13_ok 12 (690, .iaload, 1) rfl
theorem dL_law_691 : decode cL_law 691 = .ok (.aload_n 0, 1) := ax_dec dL_law_q13_ok 13 (691, .aload_n 0, 1) rfl
theorem dL_law_692 : decode cL_law 692 = .ok (.iload_n 3, 1) := ax_dec dL_law_q13_ok 14 (692, .iload_n 3, 1) rfl
theorem dL_law_693 : decode cL_law 693 = .ok (.iconst 2, 1) := ax_dec dL_law_q13_ok 15 (693, .iconst 2, 1) rfl
theorem dL_law_694 : decode cL_law 694 = .ok (.iadd, 1) := ax_dec dL_law_q13_ok 16 (694, .iadd, 1) rfl
theorem dL_law_695 : decode cL_law 695 = .ok (.iaload, 1) := ax_dec dL_law_q13_ok 17 (695, .iaload, 1) rfl
theorem dL_law_696 : decode cL_law 696 = .ok (.aload_n 0, 1) := ax_dec dL_law_q13_ok 18 (696, .aload_n 0, 1) rfl
theorem dL_law_697 : decode cL_law 697 = .ok (.iload_n 3, 1) := ax_dec dL_law_q13_ok 19 (697, .iload_n 3, 1) rfl
theorem dL_law_698 : decode cL_law 698 = .ok (.iconst 3, 1) := ax_dec dL_law_q13_ok 20 (698, .iconst 3, 1) rfl
theorem dL_law_699 : decode cL_law 699 = .ok (.iadd, 1) := ax_dec dL_law_q13_ok 21 (699, .iadd, 1) rfl
theorem dL_law_700 : decode cL_law 700 = .ok (.iaload, 1) := ax_dec dL_law_q13_ok 22 (700, .iaload, 1) rfl
theorem dL_law_701 : decode cL_law 701 = .ok (.invokevirtual 71, 3) := ax_dec dL_law_q13_ok 23 (701, .invokevirtual 71, 3) rfl
theorem dL_law_704 : decode cL_law 704 = .ok (.aload_n 2, 1) := ax_dec dL_law_q13_ok 24 (704, .aload_n 2, 1) rfl
theorem dL_law_705 : decode cL_law 705 = .ok (.aload_n 0, 1) := ax_dec dL_law_q13_ok 25 (705, .aload_n 0, 1) rfl
theorem dL_law_706 : decode cL_law 706 = .ok (.iload_n 3, 1) := ax_dec dL_law_q13_ok 26 (706, .iload_n 3, 1) rfl
theorem dL_law_707 : decode cL_law 707 = .ok (.iconst 1, 1) := ax_dec dL_law_q13_ok 27 (707, .iconst 1, 1) rfl
theorem dL_law_708 : decode cL_law 708 = .ok (.iadd, 1) := ax_dec dL_law_q13_ok 28 (708, .iadd, 1) rfl
theorem dL_law_709 : decode cL_law 709 = .ok (.iaload, 1) := ax_dec dL_law_q13_ok 29 (709, .iaload, 1) rfl
theorem dL_law_710 : decode cL_law 710 = .ok (.aload_n 0, 1) := ax_dec dL_law_q13_ok 30 (710, .aload_n 0, 1) rfl
theorem dL_law_711 : decode cL_law 711 = .ok (.iload_n 3, 1) := ax_dec dL_law_q13_ok 31 (711, .iload_n 3, 1) rfl
def dL_law_q14 : List (Nat × (Instr × Nat)) := [(712, .iconst 2, 1), (713, .iadd, 1), (714, .iaload, 1), (715, .aload_n 0, 1), (716, .iload_n 3, 1), (717, .iconst 3, 1), (718, .iadd, 1), (719, .iaload, 1), (720, .invokevirtual 74, 3), (723, .if_icmp .eq 982, 3), (726, .iconst 0, 1), (727, .ireturn, 1), (728, .aload_n 1, 1), (729, .aload_n 0, 1), (730, .iload_n 3, 1), (731, .iconst 1, 1), (732, .iadd, 1), (733, .iaload, 1), (734, .aload_n 0, 1), (735, .iload_n 3, 1), (736, .iconst 2, 1), (737, .iadd, 1), (738, .iaload, 1), (739, .invokevirtual 75, 3), (742, .aload_n 2, 1), (743, .aload_n 0, 1), (744, .iload_n 3, 1), (745, .iconst 1, 1), (746, .iadd, 1), (747, .iaload, 1), (748, .aload_n 0, 1), (749, .iload_n 3, 1)]
set_option maxRecDepth 100000 in
theorem dL_law_q14_ok : ax_decs cL_law dL_law_q14 = true := by decide +kernel
theorem dL_law_712 : decode cL_law 712 = .ok (.iconst 2, 1) := ax_dec dL_law_q14_ok 0 (712, .iconst 2, 1) rfl
theorem dL_law_713 : decode cL_law 713 = .ok (.iadd, 1) := ax_dec dL_law_q14_ok 1 (713, .iadd, 1) rfl
theorem dL_law_714 : decode cL_law 714 = .ok (.iaload, 1) := ax_dec dL_law_q14_ok 2 (714, .iaload, 1) rfl
theorem dL_law_715 : decode cL_law 715 = .ok (.aload_n 0, 1) := ax_dec dL_law_q14_ok 3 (715, .aload_n 0, 1) rfl
theorem dL_law_716 : decode cL_law 716 = .ok (.iload_n 3, 1) := ax_dec dL_law_q14_ok 4 (716, .iload_n 3, 1) rfl
theorem dL_law_717 : decode cL_law 717 = .ok (.iconst 3, 1) := ax_dec dL_law_q14_ok 5 (717, .iconst 3, 1) rfl
theorem dL_law_718 : decode cL_law 718 = .ok (.iadd, 1) := ax_dec dL_law_q14_ok 6 (718, .iadd, 1) rfl
theorem dL_law_719 : decode cL_law 719 = .ok (.iaload, 1) := ax_dec dL_law_q14_ok 7 (719, .iaload, 1) rfl
theorem dL_law_720 : decode cL_law 720 = .ok (.invokevirtual 74, 3) := ax_dec dL_law_q14_ok 8 (720, .invokevirtual 74, 3) rfl
theorem dL_law_723 : decode cL_law 723 = .ok (.if_icmp .eq 982, 3) := ax_dec dL_law_q14_ok 9 (723, .if_icmp .eq 982, 3) rfl
theorem dL_law_726 : decode cL_law 726 = .ok (.iconst 0, 1) := ax_dec dL_law_q14_ok 10 (726, .iconst 0, 1) rfl
theorem dL_law_727 : decode cL_law 727 = .ok (.ireturn, 1) := ax_dec dL_law_q14_ok 11 (727, .ireturn, 1) rfl
theorem dL_law_728 : decode cL_law 728 = .ok (.aload_n 1, 1) := ax_dec dL_law_q14_ok 12 (728, .aload_n 1, 1) rfl
theorem dL_law_729 : decode cL_law 729 = .ok (.aload_n 0, 1) := ax_dec dL_law_q14_ok 13 (729, .aload_n 0, 1) rfl
theorem dL_law_730 : decode cL_law 730 = .ok (.iload_n 3, 1) := ax_dec dL_law_q14_ok 14 (730, .iload_n 3, 1) rfl
theorem dL_law_731 : decode cL_law 731 = .ok (.iconst 1, 1) := ax_dec dL_law_q14_ok 15 (731, .iconst 1, 1) rfl
theorem dL_law_732 : decode cL_law 732 = .ok (.iadd, 1) := ax_dec dL_law_q14_ok 16 (732, .iadd, 1) rfl
theorem dL_law_733 : decode cL_law 733 = .ok (.iaload, 1) := ax_dec dL_law_q14_ok 17 (733, .iaload, 1) rfl
theorem dL_law_734 : decode cL_law 734 = .ok (.aload_n 0, 1) := ax_dec dL_law_q14_ok 18 (734, .aload_n 0, 1) rfl
theorem dL_law_735 : decode cL_law 735 = .ok (.iload_n 3, 1) := ax_dec dL_law_q14_ok 19 (735, .iload_n 3, 1) rfl
theorem dL_law_736 : decode cL_law 736 = .ok (.iconst 2, 1) := ax_dec dL_law_q14_ok 20 (736, .iconst 2, 1) rfl
theorem dL_law_737 : decode cL_law 737 = .ok (.iadd, 1) := ax_dec dL_law_q14_ok 21 (737, .iadd, 1) rfl
theorem dL_law_738 : decode cL_law 738 = .ok (.iaload, 1) := ax_dec dL_law_q14_ok 22 (738, .iaload, 1) rfl
theorem dL_law_739 : decode cL_law 739 = .ok (.invokevirtual 75, 3) := ax_dec dL_law_q14_ok 23 (739, .invokevirtual 75, 3) rfl
theorem dL_law_742 : decode cL_law 742 = .ok (.aload_n 2, 1) := ax_dec dL_law_q14_ok 24 (742, .aload_n 2, 1) rfl
theorem dL_law_743 : decode cL_law 743 = .ok (.aload_n 0, 1) := ax_dec dL_law_q14_ok 25 (743, .aload_n 0, 1) rfl
theorem dL_law_744 : decode cL_law 744 = .ok (.iload_n 3, 1) := ax_dec dL_law_q14_ok 26 (744, .iload_n 3, 1) rfl
theorem dL_law_745 : decode cL_law 745 = .ok (.iconst 1, 1) := ax_dec dL_law_q14_ok 27 (745, .iconst 1, 1) rfl
theorem dL_law_746 : decode cL_law 746 = .ok (.iadd, 1) := ax_dec dL_law_q14_ok 28 (746, .iadd, 1) rfl
theorem dL_law_747 : decode cL_law 747 = .ok (.iaload, 1) := ax_dec dL_law_q14_ok 29 (747, .iaload, 1) rfl
theorem dL_law_748 : decode cL_law 748 = .ok (.aload_n 0, 1) := ax_dec dL_law_q14_ok 30 (748, .aload_n 0, 1) rfl
theorem dL_law_749 : decode cL_law 749 = .ok (.iload_n 3, 1) := ax_dec dL_law_q14_ok 31 (749, .iload_n 3, 1) rfl
def dL_law_q15 : List (Nat × (Instr × Nat)) := [(750, .iconst 2, 1), (751, .iadd, 1), (752, .iaload, 1), (753, .invokevirtual 78, 3), (756, .if_icmp .eq 949, 3), (759, .iconst 0, 1), (760, .ireturn, 1), (761, .aload_n 1, 1), (762, .aload_n 0, 1), (763, .iload_n 3, 1), (764, .iconst 1, 1), (765, .iadd, 1), (766, .iaload, 1), (767, .invokevirtual 79, 3), (770, .aload_n 2, 1), (771, .aload_n 0, 1), (772, .iload_n 3, 1), (773, .iconst 1, 1), (774, .iadd, 1), (775, .iaload, 1), (776, .invokevirtual 82, 3), (779, .if_icmp .eq 926, 3), (782, .iconst 0, 1), (783, .ireturn, 1), (784, .aload_n 1, 1), (785, .aload_n 0, 1), (786, .iload_n 3, 1), (787, .iconst 1, 1), (788, .iadd, 1), (789, .iaload, 1), (790, .aload_n 0, 1), (791, .iload_n 3, 1)]
set_option maxRecDepth 100000 in
theorem dL_law_q15_ok : ax_decs cL_law dL_law_q15 = true := by decide +kernel
theorem dL_law_750 : decode cL_law 750 = .ok (.iconst 2, 1) := ax_dec dL_law_q15_ok 0 (750, .iconst 2, 1) rfl
theorem dL_law_751 : decode cL_law 751 = .ok (.iadd, 1) := ax_dec dL_law_q15_ok 1 (751, .iadd, 1) rfl
theorem dL_law_752 : decode cL_law 752 = .ok (.iaload, 1) := ax_dec dL_law_q15_ok 2 (752, .iaload, 1) rfl
theorem dL_law_753 : decode cL_law 753 = .ok (.invokevirtual 78, 3) := ax_dec dL_law_q15_ok 3 (753, .invokevirtual 78, 3) rfl
theorem dL_law_756 : decode cL_law 756 = .ok (.if_icmp .eq 949, 3) := ax_dec dL_law_q15_ok 4 (756, .if_icmp .eq 949, 3) rfl
theorem dL_law_759 : decode cL_law 759 = .ok (.iconst 0, 1) := ax_dec dL_law_q15_ok 5 (759, .iconst 0, 1) rfl
theorem dL_law_760 : decode cL_law 760 = .ok (.ireturn, 1) := ax_dec dL_law_q15_ok 6 (760, .ireturn, 1) rfl
theorem dL_law_761 : decode cL_law 761 = .ok (.aload_n 1, 1) := ax_dec dL_law_q15_ok 7 (761, .aload_n 1, 1) rfl
theorem dL_law_762 : decode cL_law 762 = .ok (.aload_n 0, 1) := ax_dec dL_law_q15_ok 8 (762, .aload_n 0, 1) rfl
theorem dL_law_763 : decode cL_law 763 = .ok (.iload_n 3, 1) := ax_dec dL_law_q15_ok 9 (763, .iload_n 3, 1) rfl
theorem dL_law_764 : decode cL_law 764 = .ok (.iconst 1, 1) := ax_dec dL_law_q15_ok 10 (764, .iconst 1, 1) rfl
theorem dL_law_765 : decode cL_law 765 = .ok (.iadd, 1) := ax_dec dL_law_q15_ok 11 (765, .iadd, 1) rfl
theorem dL_law_766 : decode cL_law 766 = .ok (.iaload, 1) := ax_dec dL_law_q15_ok 12 (766, .iaload, 1) rfl
theorem dL_law_767 : decode cL_law 767 = .ok (.invokevirtual 79, 3) := ax_dec dL_law_q15_ok 13 (767, .invokevirtual 79, 3) rfl
theorem dL_law_770 : decode cL_law 770 = .ok (.aload_n 2, 1) := ax_dec dL_law_q15_ok 14 (770, .aload_n 2, 1) rfl
theorem dL_law_771 : decode cL_law 771 = .ok (.aload_n 0, 1) := ax_dec dL_law_q15_ok 15 (771, .aload_n 0, 1) rfl
theorem dL_law_772 : decode cL_law 772 = .ok (.iload_n 3, 1) := ax_dec dL_law_q15_ok 16 (772, .iload_n 3, 1) rfl
theorem dL_law_773 : decode cL_law 773 = .ok (.iconst 1, 1) := ax_dec dL_law_q15_ok 17 (773, .iconst 1, 1) rfl
theorem dL_law_774 : decode cL_law 774 = .ok (.iadd, 1) := ax_dec dL_law_q15_ok 18 (774, .iadd, 1) rfl
theorem dL_law_775 : decode cL_law 775 = .ok (.iaload, 1) := ax_dec dL_law_q15_ok 19 (775, .iaload, 1) rfl
theorem dL_law_776 : decode cL_law 776 = .ok (.invokevirtual 82, 3) := ax_dec dL_law_q15_ok 20 (776, .invokevirtual 82, 3) rfl
theorem dL_law_779 : decode cL_law 779 = .ok (.if_icmp .eq 926, 3) := ax_dec dL_law_q15_ok 21 (779, .if_icmp .eq 926, 3) rfl
theorem dL_law_782 : decode cL_law 782 = .ok (.iconst 0, 1) := ax_dec dL_law_q15_ok 22 (782, .iconst 0, 1) rfl
theorem dL_law_783 : decode cL_law 783 = .ok (.ireturn, 1) := ax_dec dL_law_q15_ok 23 (783, .ireturn, 1) rfl
theorem dL_law_784 : decode cL_law 784 = .ok (.aload_n 1, 1) := ax_dec dL_law_q15_ok 24 (784, .aload_n 1, 1) rfl
theorem dL_law_785 : decode cL_law 785 = .ok (.aload_n 0, 1) := ax_dec dL_law_q15_ok 25 (785, .aload_n 0, 1) rfl
theorem dL_law_786 : decode cL_law 786 = .ok (.iload_n 3, 1) := ax_dec dL_law_q15_ok 26 (786, .iload_n 3, 1) rfl
theorem dL_law_787 : decode cL_law 787 = .ok (.iconst 1, 1) := ax_dec dL_law_q15_ok 27 (787, .iconst 1, 1) rfl
theorem dL_law_788 : decode cL_law 788 = .ok (.iadd, 1) := ax_dec dL_law_q15_ok 28 (788, .iadd, 1) rfl
theorem dL_law_789 : decode cL_law 789 = .ok (.iaload, 1) := ax_dec dL_law_q15_ok 29 (789, .iaload, 1) rfl
theorem dL_law_790 : decode cL_law 790 = .ok (.aload_n 0, 1) := ax_dec dL_law_q15_ok 30 (790, .aload_n 0, 1) rfl
theorem dL_law_791 : decode cL_law 791 = .ok (.iload_n 3, 1) := ax_dec dL_law_q15_ok 31 (791, .iload_n 3, 1) rfl
def dL_law_q16 : List (Nat × (Instr × Nat)) := [(792, .iconst 2, 1), (793, .iadd, 1), (794, .iaload, 1), (795, .aload_n 0, 1), (796, .iload_n 3, 1), (797, .iconst 3, 1), (798, .iadd, 1), (799, .iaload, 1), (800, .invokevirtual 83, 3), (803, .aload_n 2, 1), (804, .aload_n 0, 1), (805, .iload_n 3, 1), (806, .iconst 1, 1), (807, .iadd, 1), (808, .iaload, 1), (809, .aload_n 0, 1), (810, .iload_n 3, 1), (811, .iconst 2, 1), (812, .iadd, 1), (813, .iaload, 1), (814, .aload_n 0, 1), (815, .iload_n 3, 1), (816, .iconst 3, 1), (817, .iadd, 1), (818, .iaload, 1), (819, .invokevirtual 86, 3), (822, .if_icmp .eq 883, 3), (825, .iconst 0, 1), (826, .ireturn, 1), (827, .aload_n 1, 1), (828, .aload_n 0, 1), (829, .iload_n 3, 1)]
set_option maxRecDepth 100000 in
theorem dL_law_q16_ok : ax_decs cL_law dL_law_q16 = true := by decide +kernel
theorem dL_law_792 : decode cL_law 792 = .ok (.iconst 2, 1) := ax_dec dL_law_q16_ok 0 (792, .iconst 2, 1) rfl
theorem dL_law_793 : decode cL_law 793 = .ok (.iadd, 1) := ax_dec dL_law_q16_ok 1 (793, .iadd, 1) rfl
theorem dL_law_794 : decode cL_law 794 = .ok (.iaload, 1) := ax_dec dL_law_q16_ok 2 (794, .iaload, 1) rfl
theorem dL_law_795 : decode cL_law 795 = .ok (.aload_n 0, 1) := ax_dec dL_law_q16_ok 3 (795, .aload_n 0, 1) rfl
theorem dL_law_796 : decode cL_law 796 = .ok (.iload_n 3, 1) := ax_dec dL_law_q16_ok 4 (796, .iload_n 3, 1) rfl
theorem dL_law_797 : decode cL_law 797 = .ok (.iconst 3, 1) := ax_dec dL_law_q16_ok 5 (797, .iconst 3, 1) rfl
theorem dL_law_798 : decode cL_law 798 = .ok (.iadd, 1) := ax_dec dL_law_q16_ok 6 (798, .iadd, 1) rfl
theorem dL_law_799 : decode cL_law 799 = .ok (.iaload, 1) := ax_dec dL_law_q16_ok 7 (799, .iaload, 1) rfl
theorem dL_law_800 : decode cL_law 800 = .ok (.invokevirtual 83, 3) := ax_dec dL_law_q16_ok 8 (800, .invokevirtual 83, 3) rfl
theorem dL_law_803 : decode cL_law 803 = .ok (.aload_n 2, 1) := ax_dec dL_law_q16_ok 9 (803, .aload_n 2, 1) rfl
theorem dL_law_804 : decode cL_law 804 = .ok (.aload_n 0, 1) := ax_dec dL_law_q16_ok 10 (804, .aload_n 0, 1) rfl
theorem dL_law_805 : decode cL_law 805 = .ok (.iload_n 3, 1) := ax_dec dL_law_q16_ok 11 (805, .iload_n 3, 1) rfl
theorem dL_law_806 : decode cL_law 806 = .ok (.iconst 1, 1) := ax_dec dL_law_q16_ok 12 (806, .iconst 1, 1) rfl
theorem dL_law_807 : decode cL_law 807 = .ok (.iadd, 1) := ax_dec dL_law_q16_ok 13 (807, .iadd, 1) rfl
theorem dL_law_808 : decode cL_law 808 = .ok (.iaload, 1) := ax_dec dL_law_q16_ok 14 (808, .iaload, 1) rfl
theorem dL_law_809 : decode cL_law 809 = .ok (.aload_n 0, 1) := ax_dec dL_law_q16_ok 15 (809, .aload_n 0, 1) rfl
theorem dL_law_810 : decode cL_law 810 = .ok (.iload_n 3, 1) := ax_dec dL_law_q16_ok 16 (810, .iload_n 3, 1) rfl
theorem dL_law_811 : decode cL_law 811 = .ok (.iconst 2, 1) := ax_dec dL_law_q16_ok 17 (811, .iconst 2, 1) rfl
theorem dL_law_812 : decode cL_law 812 = .ok (.iadd, 1) := ax_dec dL_law_q16_ok 18 (812, .iadd, 1) rfl
theorem dL_law_813 : decode cL_law 813 = .ok (.iaload, 1) := ax_dec dL_law_q16_ok 19 (813, .iaload, 1) rfl
theorem dL_law_814 : decode cL_law 814 = .ok (.aload_n 0, 1) := ax_dec dL_law_q16_ok 20 (814, .aload_n 0, 1) rfl
theorem dL_law_815 : decode cL_law 815 = .ok (.iload_n 3, 1) := ax_dec dL_law_q16_ok 21 (815, .iload_n 3, 1) rfl
theorem dL_law_816 : decode cL_law 816 = .ok (.iconst 3, 1) := ax_dec dL_law_q16_ok 22 (816, .iconst 3, 1) rfl
theorem dL_law_817 : decode cL_law 817 = .ok (.iadd, 1) := ax_dec dL_law_q16_ok 23 (817, .iadd, 1) rfl
theorem dL_law_818 : decode cL_law 818 = .ok (.iaload, 1) := ax_dec dL_law_q16_ok 24 (818, .iaload, 1) rfl
theorem dL_law_819 : decode cL_law 819 = .ok (.invokevirtual 86, 3) := ax_dec dL_law_q16_ok 25 (819, .invokevirtual 86, 3) rfl
theorem dL_law_822 : decode cL_law 822 = .ok (.if_icmp .eq 883, 3) := ax_dec dL_law_q16_ok 26 (822, .if_icmp .eq 883, 3) rfl
theorem dL_law_825 : decode cL_law 825 = .ok (.iconst 0, 1) := ax_dec dL_law_q16_ok 27 (825, .iconst 0, 1) rfl
theorem dL_law_826 : decode cL_law 826 = .ok (.ireturn, 1) := ax_dec dL_law_q16_ok 28 (826, .ireturn, 1) rfl
theorem dL_law_827 : decode cL_law 827 = .ok (.aload_n 1, 1) := ax_dec dL_law_q16_ok 29 (827, .aload_n 1, 1) rfl
theorem dL_law_828 : decode cL_law 828 = .ok (.aload_n 0, 1) := ax_dec dL_law_q16_ok 30 (828, .aload_n 0, 1) rfl
theorem dL_law_829 : decode cL_law 829 = .ok (.iload_n 3, 1) := ax_dec dL_law_q16_ok 31 (829, .iload_n 3, 1) rfl
def dL_law_q17 : List (Nat × (Instr × Nat)) := [(830, .iconst 1, 1), (831, .iadd, 1), (832, .iaload, 1), (833, .aload_n 0, 1), (834, .iload_n 3, 1), (835, .iconst 2, 1), (836, .iadd, 1), (837, .iaload, 1), (838, .aload_n 0, 1), (839, .iload_n 3, 1), (840, .iconst 3, 1), (841, .iadd, 1), (842, .iaload, 1), (843, .invokevirtual 87, 3), (846, .aload_n 2, 1), (847, .aload_n 0, 1), (848, .iload_n 3, 1), (849, .iconst 1, 1), (850, .iadd, 1), (851, .iaload, 1), (852, .aload_n 0, 1), (853, .iload_n 3, 1), (854, .iconst 2, 1), (855, .iadd, 1), (856, .iaload, 1), (857, .aload_n 0, 1), (858, .iload_n 3, 1), (859, .iconst 3, 1), (860, .iadd, 1), (861, .iaload, 1), (862, .invokevirtual 90, 3), (865, .if_icmp .eq 840, 3)]
set_option maxRecDepth 100000 in
theorem dL_law_q17_ok : ax_decs cL_law dL_law_q17 = true := by decide +kernel
theorem dL_law_830 : decode cL_law 830 = .ok (.iconst 1, 1) := ax_dec dL_law_q17_ok 0 (830, .iconst 1, 1) rfl
theorem dL_law_831 : decode cL_law 831 = .ok (.iadd, 1) := ax_dec dL_law_q17_ok 1 (831, .iadd, 1) rfl
theorem dL_law_832 : decode cL_law 832 = .ok (.iaload, 1) := ax_dec dL_law_q17_ok 2 (832, .iaload, 1) rfl
theorem dL_law_833 : decode cL_law 833 = .ok (.aload_n 0, 1) := ax_dec dL_law_q17_ok 3 (833, .aload_n 0, 1) rfl
theorem dL_law_834 : decode cL_law 834 = .ok (.iload_n 3, 1) := ax_dec dL_law_q17_ok 4 (834, .iload_n 3, 1) rfl
theorem dL_law_835 : decode cL_law 835 = .ok (.iconst 2, 1) := ax_dec dL_law_q17_ok 5 (835, .iconst 2, 1) rfl
theorem dL_law_836 : decode cL_law 836 = .ok (.iadd, 1) := ax_dec dL_law_q17_ok 6 (836, .iadd, 1) rfl
theorem dL_law_837 : decode cL_law 837 = .ok (.iaload, 1) := ax_dec dL_law_q17_ok 7 (837, .iaload, 1) rfl
theorem dL_law_838 : decode cL_law 838 = .ok (.aload_n 0, 1) := ax_dec dL_law_q17_ok 8 (838, .aload_n 0, 1) rfl
theorem dL_law_839 : decode cL_law 839 = .ok (.iload_n 3, 1) := ax_dec dL_law_q17_ok 9 (839, .iload_n 3, 1) rfl
theorem dL_law_840 : decode cL_law 840 = .ok (.iconst 3, 1) := ax_dec dL_law_q17_ok 10 (840, .iconst 3, 1) rfl
theorem dL_law_841 : decode cL_law 841 = .ok (.iadd, 1) := ax_dec dL_law_q17_ok 11 (841, .iadd, 1) rfl
theorem dL_law_842 : decode cL_law 842 = .ok (.iaload, 1) := ax_dec dL_law_q17_ok 12 (842, .iaload, 1) rfl
theorem dL_law_843 : decode cL_law 843 = .ok (.invokevirtual 87, 3) := ax_dec dL_law_q17_ok 13 (843, .invokevirtual 87, 3) rfl
theorem dL_law_846 : decode cL_law 846 = .ok (.aload_n 2, 1) := ax_dec dL_law_q17_ok 14 (846, .aload_n 2, 1) rfl
theorem dL_law_847 : decode cL_law 847 = .ok (.aload_n 0, 1) := ax_dec dL_law_q17_ok 15 (847, .aload_n 0, 1) rfl
theorem dL_law_848 : decode cL_law 848 = .ok (.iload_n 3, 1) := ax_dec dL_law_q17_ok 16 (848, .iload_n 3, 1) rfl
theorem dL_law_849 : decode cL_law 849 = .ok (.iconst 1, 1) := ax_dec dL_law_q17_ok 17 (849, .iconst 1, 1) rfl
theorem dL_law_850 : decode cL_law 850 = .ok (.iadd, 1) := ax_dec dL_law_q17_ok 18 (850, .iadd, 1) rfl
theorem dL_law_851 : decode cL_law 851 = .ok (.iaload, 1) := ax_dec dL_law_q17_ok 19 (851, .iaload, 1) rfl
theorem dL_law_852 : decode cL_law 852 = .ok (.aload_n 0, 1) := ax_dec dL_law_q17_ok 20 (852, .aload_n 0, 1) rfl
theorem dL_law_853 : decode cL_law 853 = .ok (.iload_n 3, 1) := ax_dec dL_law_q17_ok 21 (853, .iload_n 3, 1) rfl
theorem dL_law_854 : decode cL_law 854 = .ok (.iconst 2, 1) := ax_dec dL_law_q17_ok 22 (854, .iconst 2, 1) rfl
theorem dL_law_855 : decode cL_law 855 = .ok (.iadd, 1) := ax_dec dL_law_q17_ok 23 (855, .iadd, 1) rfl
theorem dL_law_856 : decode cL_law 856 = .ok (.iaload, 1) := ax_dec dL_law_q17_ok 24 (856, .iaload, 1) rfl
theorem dL_law_857 : decode cL_law 857 = .ok (.aload_n 0, 1) := ax_dec dL_law_q17_ok 25 (857, .aload_n 0, 1) rfl
theorem dL_law_858 : decode cL_law 858 = .ok (.iload_n 3, 1) := ax_dec dL_law_q17_ok 26 (858, .iload_n 3, 1) rfl
theorem dL_law_859 : decode cL_law 859 = .ok (.iconst 3, 1) := ax_dec dL_law_q17_ok 27 (859, .iconst 3, 1) rfl
theorem dL_law_860 : decode cL_law 860 = .ok (.iadd, 1) := ax_dec dL_law_q17_ok 28 (860, .iadd, 1) rfl
theorem dL_law_861 : decode cL_law 861 = .ok (.iaload, 1) := ax_dec dL_law_q17_ok 29 (861, .iaload, 1) rfl
theorem dL_law_862 : decode cL_law 862 = .ok (.invokevirtual 90, 3) := ax_dec dL_law_q17_ok 30 (862, .invokevirtual 90, 3) rfl
theorem dL_law_865 : decode cL_law 865 = .ok (.if_icmp .eq 840, 3) := ax_dec dL_law_q17_ok 31 (865, .if_icmp .eq 840, 3) rfl
def dL_law_q18 : List (Nat × (Instr × Nat)) := [(868, .iconst 0, 1), (869, .ireturn, 1), (870, .aload_n 1, 1), (871, .aload_n 0, 1), (872, .iload_n 3, 1), (873, .iconst 1, 1), (874, .iadd, 1), (875, .iaload, 1), (876, .aload_n 0, 1), (877, .iload_n 3, 1), (878, .iconst 2, 1), (879, .iadd, 1), (880, .iaload, 1), (881, .invokevirtual 91, 3), (884, .aload_n 2, 1), (885, .aload_n 0, 1), (886, .iload_n 3, 1), (887, .iconst 1, 1), (888, .iadd, 1), (889, .iaload, 1), (890, .aload_n 0, 1), (891, .iload_n 3, 1), (892, .iconst 2, 1), (893, .iadd, 1), (894, .iaload, 1), (895, .invokevirtual 94, 3), (898, .if_icmp .eq 807, 3), (901, .iconst 0, 1), (902, .ireturn, 1), (903, .aload_n 1, 1), (904, .aload_n 0, 1), (905, .iload_n 3, 1)]
set_option maxRecDepth 100000 in
theorem dL_law_q18_ok : ax_decs cL_law dL_law_q18 = true := by decide +kernel
theorem dL_law_868 : decode cL_law 868 = .ok (.iconst 0, 1) := ax_dec dL_law_q18_ok 0 (868, .iconst 0, 1) rfl
theorem dL_law_869 : decode cL_law 869 = .ok (.ireturn, 1) := ax_dec dL_law_q18_ok 1 (869, .ireturn, 1) rfl
theorem dL_law_870 : decode cL_law 870 = .ok (.aload_n 1, 1) := ax_dec dL_law_q18_ok 2 (870, .aload_n 1, 1) rfl
theorem dL_law_871 : decode cL_law 871 = .ok (.aload_n 0, 1) := ax_dec dL_law_q18_ok 3 (871, .aload_n 0, 1) rfl
theorem dL_law_872 : decode cL_law 872 = .ok (.iload_n 3, 1) := ax_dec dL_law_q18_ok 4 (872, .iload_n 3, 1) rfl
theorem dL_law_873 : decode cL_law 873 = .ok (.iconst 1, 1) := ax_dec dL_law_q18_ok 5 (873, .iconst 1, 1) rfl
theorem dL_law_874 : decode cL_law 874 = .ok (.iadd, 1) := ax_dec dL_law_q18_ok 6 (874, .iadd, 1) rfl
theorem dL_law_875 : decode cL_law 875 = .ok (.iaload, 1) := ax_dec dL_law_q18_ok 7 (875, .iaload, 1) rfl
theorem dL_law_876 : decode cL_law 876 = .ok (.aload_n 0, 1) := ax_dec dL_law_q18_ok 8 (876, .aload_n 0, 1) rfl
theorem dL_law_877 : decode cL_law 877 = .ok (.iload_n 3, 1) := ax_dec dL_law_q18_ok 9 (877, .iload_n 3, 1) rfl
theorem dL_law_878 : decode cL_law 878 = .ok (.iconst 2, 1) := ax_dec dL_law_q18_ok 10 (878, .iconst 2, 1) rfl
theorem dL_law_879 : decode cL_law 879 = .ok (.iadd, 1) := ax_dec dL_law_q18_ok 11 (879, .iadd, 1) rfl
theorem dL_law_880 : decode cL_law 880 = .ok (.iaload, 1) := ax_dec dL_law_q18_ok 12 (880, .iaload, 1) rfl
theorem dL_law_881 : decode cL_law 881 = .ok (.invokevirtual 91, 3) := ax_dec dL_law_q18_ok 13 (881, .invokevirtual 91, 3) rfl
theorem dL_law_884 : decode cL_law 884 = .ok (.aload_n 2, 1) := ax_dec dL_law_q18_ok 14 (884, .aload_n 2, 1) rfl
theorem dL_law_885 : decode cL_law 885 = .ok (.aload_n 0, 1) := ax_dec dL_law_q18_ok 15 (885, .aload_n 0, 1) rfl
theorem dL_law_886 : decode cL_law 886 = .ok (.iload_n 3, 1) := ax_dec dL_law_q18_ok 16 (886, .iload_n 3, 1) rfl
theorem dL_law_887 : decode cL_law 887 = .ok (.iconst 1, 1) := ax_dec dL_law_q18_ok 17 (887, .iconst 1, 1) rfl
theorem dL_law_888 : decode cL_law 888 = .ok (.iadd, 1) := ax_dec dL_law_q18_ok 18 (888, .iadd, 1) rfl
theorem dL_law_889 : decode cL_law 889 = .ok (.iaload, 1) := ax_dec dL_law_q18_ok 19 (889, .iaload, 1) rfl
theorem dL_law_890 : decode cL_law 890 = .ok (.aload_n 0, 1) := ax_dec dL_law_q18_ok 20 (890, .aload_n 0, 1) rfl
theorem dL_law_891 : decode cL_law 891 = .ok (.iload_n 3, 1) := ax_dec dL_law_q18_ok 21 (891, .iload_n 3, 1) rfl
theorem dL_law_892 : decode cL_law 892 = .ok (.iconst 2, 1) := ax_dec dL_law_q18_ok 22 (892, .iconst 2, 1) rfl
theorem dL_law_893 : decode cL_law 893 = .ok (.iadd, 1) := ax_dec dL_law_q18_ok 23 (893, .iadd, 1) rfl
theorem dL_law_894 : decode cL_law 894 = .ok (.iaload, 1) := ax_dec dL_law_q18_ok 24 (894, .iaload, 1) rfl
theorem dL_law_895 : decode cL_law 895 = .ok (.invokevirtual 94, 3) := ax_dec dL_law_q18_ok 25 (895, .invokevirtual 94, 3) rfl
theorem dL_law_898 : decode cL_law 898 = .ok (.if_icmp .eq 807, 3) := ax_dec dL_law_q18_ok 26 (898, .if_icmp .eq 807, 3) rfl
theorem dL_law_901 : decode cL_law 901 = .ok (.iconst 0, 1) := ax_dec dL_law_q18_ok 27 (901, .iconst 0, 1) rfl
theorem dL_law_902 : decode cL_law 902 = .ok (.ireturn, 1) := ax_dec dL_law_q18_ok 28 (902, .ireturn, 1) rfl
theorem dL_law_903 : decode cL_law 903 = .ok (.aload_n 1, 1) := ax_dec dL_law_q18_ok 29 (903, .aload_n 1, 1) rfl
theorem dL_law_904 : decode cL_law 904 = .ok (.aload_n 0, 1) := ax_dec dL_law_q18_ok 30 (904, .aload_n 0, 1) rfl
theorem dL_law_905 : decode cL_law 905 = .ok (.iload_n 3, 1) := ax_dec dL_law_q18_ok 31 (905, .iload_n 3, 1) rfl
def dL_law_q19 : List (Nat × (Instr × Nat)) := [(906, .iconst 1, 1), (907, .iadd, 1), (908, .iaload, 1), (909, .invokevirtual 95, 3), (912, .aload_n 2, 1), (913, .aload_n 0, 1), (914, .iload_n 3, 1), (915, .iconst 1, 1), (916, .iadd, 1), (917, .iaload, 1), (918, .invokevirtual 98, 3), (921, .if_icmp .eq 784, 3), (924, .iconst 0, 1), (925, .ireturn, 1), (926, .aload_n 1, 1), (927, .aload_n 0, 1), (928, .iload_n 3, 1), (929, .iconst 1, 1), (930, .iadd, 1), (931, .iaload, 1), (932, .aload_n 0, 1), (933, .iload_n 3, 1), (934, .iconst 2, 1), (935, .iadd, 1), (936, .iaload, 1), (937, .aload_n 0, 1), (938, .iload_n 3, 1), (939, .iconst 3, 1), (940, .iadd, 1), (941, .iaload, 1), (942, .invokevirtual 99, 3), (945, .aload_n 2, 1)]
set_option maxRecDepth 100000 in
theorem dL_law_q19_ok : ax_decs cL_law dL_law_q19 = true := by decide +kernel
theorem dL_law_906 : decode cL_law 906 = .ok (.iconst 1, 1) := ax_dec dL_law_q19_ok 0 (906, .iconst 1, 1) rfl
theorem dL_law_907 : decode cL_law 907 = .ok (.iadd, 1) := ax_dec dL_law_q19_ok 1 (907, .iadd, 1) rfl
theorem dL_law_908 : decode cL_law 908 = .ok (.iaload, 1) := ax_dec dL_law_q19_ok 2 (908, .iaload, 1) rfl
theorem dL_law_909 : decode cL_law 909 = .ok (.invokevirtual 95, 3) := ax_dec dL_law_q19_ok 3 (909, .invokevirtual 95, 3) rfl
theorem dL_law_912 : decode cL_law 912 = .ok (.aload_n 2, 1) := ax_dec dL_law_q19_ok 4 (912, .aload_n 2, 1) rfl
theorem dL_law_913 : decode cL_law 913 = .ok (.aload_n 0, 1) := ax_dec dL_law_q19_ok 5 (913, .aload_n 0, 1) rfl
theorem dL_law_914 : decode cL_law 914 = .ok (.iload_n 3, 1) := ax_dec dL_law_q19_ok 6 (914, .iload_n 3, 1) rfl
theorem dL_law_915 : decode cL_law 915 = .ok (.iconst 1, 1) := ax_dec dL_law_q19_ok 7 (915, .iconst 1, 1) rfl
theorem dL_law_916 : decode cL_law 916 = .ok (.iadd, 1) := ax_dec dL_law_q19_ok 8 (916, .iadd, 1) rfl
theorem dL_law_917 : decode cL_law 917 = .ok (.iaload, 1) := ax_dec dL_law_q19_ok 9 (917, .iaload, 1) rfl
theorem dL_law_918 : decode cL_law 918 = .ok (.invokevirtual 98, 3) := ax_dec dL_law_q19_ok 10 (918, .invokevirtual 98, 3) rfl
theorem dL_law_921 : decode cL_law 921 = .ok (.if_icmp .eq 784, 3) := ax_dec dL_law_q19_ok 11 (921, .if_icmp .eq 784, 3) rfl
theorem dL_law_924 : decode cL_law 924 = .ok (.iconst 0, 1) := ax_dec dL_law_q19_ok 12 (924, .iconst 0, 1) rfl
theorem dL_law_925 : decode cL_law 925 = .ok (.ireturn, 1) := ax_dec dL_law_q19_ok 13 (925, .ireturn, 1) rfl
theorem dL_law_926 : decode cL_law 926 = .ok (.aload_n 1, 1) := ax_dec dL_law_q19_ok 14 (926, .aload_n 1, 1) rfl
theorem dL_law_927 : decode cL_law 927 = .ok (.aload_n 0, 1) := ax_dec dL_law_q19_ok 15 (927, .aload_n 0, 1) rfl
theorem dL_law_928 : decode cL_law 928 = .ok (.iload_n 3, 1) := ax_dec dL_law_q19_ok 16 (928, .iload_n 3, 1) rfl
theorem dL_law_929 : decode cL_law 929 = .ok (.iconst 1, 1) := ax_dec dL_law_q19_ok 17 (929, .iconst 1, 1) rfl
theorem dL_law_930 : decode cL_law 930 = .ok (.iadd, 1) := ax_dec dL_law_q19_ok 18 (930, .iadd, 1) rfl
theorem dL_law_931 : decode cL_law 931 = .ok (.iaload, 1) := ax_dec dL_law_q19_ok 19 (931, .iaload, 1) rfl
theorem dL_law_932 : decode cL_law 932 = .ok (.aload_n 0, 1) := ax_dec dL_law_q19_ok 20 (932, .aload_n 0, 1) rfl
theorem dL_law_933 : decode cL_law 933 = .ok (.iload_n 3, 1) := ax_dec dL_law_q19_ok 21 (933, .iload_n 3, 1) rfl
theorem dL_law_934 : decode cL_law 934 = .ok (.iconst 2, 1) := ax_dec dL_law_q19_ok 22 (934, .iconst 2, 1) rfl
theorem dL_law_935 : decode cL_law 935 = .ok (.iadd, 1) := ax_dec dL_law_q19_ok 23 (935, .iadd, 1) rfl
theorem dL_law_936 : decode cL_law 936 = .ok (.iaload, 1) := ax_dec dL_law_q19_ok 24 (936, .iaload, 1) rfl
theorem dL_law_937 : decode cL_law 937 = .ok (.aload_n 0, 1) := ax_dec dL_law_q19_ok 25 (937, .aload_n 0, 1) rfl
theorem dL_law_938 : decode cL_law 938 = .ok (.iload_n 3, 1) := ax_dec dL_law_q19_ok 26 (938, .iload_n 3, 1) rfl
theorem dL_law_939 : decode cL_law 939 = .ok (.iconst 3, 1) := ax_dec dL_law_q19_ok 27 (939, .iconst 3, 1) rfl
theorem dL_law_940 : decode cL_law 940 = .ok (.iadd, 1) := ax_dec dL_law_q19_ok 28 (940, .iadd, 1) rfl
theorem dL_law_941 : decode cL_law 941 = .ok (.iaload, 1) := ax_dec dL_law_q19_ok 29 (941, .iaload, 1) rfl
theorem dL_law_942 : decode cL_law 942 = .ok (.invokevirtual 99, 3) := ax_dec dL_law_q19_ok 30 (942, .invokevirtual 99, 3) rfl
theorem dL_law_945 : decode cL_law 945 = .ok (.aload_n 2, 1) := ax_dec dL_law_q19_ok 31 (945, .aload_n 2, 1) rfl
def dL_law_q20 : List (Nat × (Instr × Nat)) := [(946, .aload_n 0, 1), (947, .iload_n 3, 1), (948, .iconst 1, 1), (949, .iadd, 1), (950, .iaload, 1), (951, .aload_n 0, 1), (952, .iload_n 3, 1), (953, .iconst 2, 1), (954, .iadd, 1), (955, .iaload, 1), (956, .aload_n 0, 1), (957, .iload_n 3, 1), (958, .iconst 3, 1), (959, .iadd, 1), (960, .iaload, 1), (961, .invokevirtual 103, 3), (964, .lcmp, 1), (965, .ifCond .eq 740, 3), (968, .iconst 0, 1), (969, .ireturn, 1), (970, .aload_n 1, 1), (971, .aload_n 0, 1), (972, .iload_n 3, 1), (973, .iconst 1, 1), (974, .iadd, 1), (975, .iaload, 1), (976, .aload_n 0, 1), (977, .iload_n 3, 1), (978, .iconst 2, 1), (979, .iadd, 1), (980, .iaload, 1), (981, .aload_n 0, 1)]
set_option maxRecDepth 100000 in
theorem dL_law_q20_ok : ax_decs cL_law dL_law_q20 = true := by decide +kernel
theorem dL_law_946 : decode cL_law 946 = .ok (.aload_n 0, 1) := ax_dec dL_law_q20_ok 0 (946, .aload_n 0, 1) rfl
theorem dL_law_947 : decode cL_law 947 = .ok (.iload_n 3, 1) := ax_dec dL_law_q20_ok 1 (947, .iload_n 3, 1) rfl
theorem dL_law_948 : decode cL_law 948 = .ok (.iconst 1, 1) := ax_dec dL_law_q20_ok 2 (948, .iconst 1, 1) rfl
theorem dL_law_949 : decode cL_law 949 = .ok (.iadd, 1) := ax_dec dL_law_q20_ok 3 (949, .iadd, 1) rfl
theorem dL_law_950 : decode cL_law 950 = .ok (.iaload, 1) := ax_dec dL_law_q20_ok 4 (950, .iaload, 1) rfl
theorem dL_law_951 : decode cL_law 951 = .ok (.aload_n 0, 1) := ax_dec dL_law_q20_ok 5 (951, .aload_n 0, 1) rfl
theorem dL_law_952 : decode cL_law 952 = .ok (.iload_n 3, 1) := ax_dec dL_law_q20_ok 6 (952, .iload_n 3, 1) rfl
theorem dL_law_953 : decode cL_law 953 = .ok (.iconst 2, 1) := ax_dec dL_law_q20_ok 7 (953, .iconst 2, 1) rfl
theorem dL_law_954 : decode cL_law 954 = .ok (.iadd, 1) := ax_dec dL_law_q20_ok 8 (954, .iadd, 1) rfl
theorem dL_law_955 : decode cL_law 955 = .ok (.iaload, 1) := ax_dec dL_law_q20_ok 9 (955, .iaload, 1) rfl
theorem dL_law_956 : decode cL_law 956 = .ok (.aload_n 0, 1) := ax_dec dL_law_q20_ok 10 (956, .aload_n 0, 1) rfl
theorem dL_law_957 : decode cL_law 957 = .ok (.iload_n 3, 1) := ax_dec dL_law_q20_ok 11 (957, .iload_n 3, 1) rfl
theorem dL_law_958 : decode cL_law 958 = .ok (.iconst 3, 1) := ax_dec dL_law_q20_ok 12 (958, .iconst 3, 1) rfl
theorem dL_law_959 : decode cL_law 959 = .ok (.iadd, 1) := ax_dec dL_law_q20_ok 13 (959, .iadd, 1) rfl
theorem dL_law_960 : decode cL_law 960 = .ok (.iaload, 1) := ax_dec dL_law_q20_ok 14 (960, .iaload, 1) rfl
theorem dL_law_961 : decode cL_law 961 = .ok (.invokevirtual 103, 3) := ax_dec dL_law_q20_ok 15 (961, .invokevirtual 103, 3) rfl
theorem dL_law_964 : decode cL_law 964 = .ok (.lcmp, 1) := ax_dec dL_law_q20_ok 16 (964, .lcmp, 1) rfl
theorem dL_law_965 : decode cL_law 965 = .ok (.ifCond .eq 740, 3) := ax_dec dL_law_q20_ok 17 (965, .ifCond .eq 740, 3) rfl
theorem dL_law_968 : decode cL_law 968 = .ok (.iconst 0, 1) := ax_dec dL_law_q20_ok 18 (968, .iconst 0, 1) rfl
theorem dL_law_969 : decode cL_law 969 = .ok (.ireturn, 1) := ax_dec dL_law_q20_ok 19 (969, .ireturn, 1) rfl
theorem dL_law_970 : decode cL_law 970 = .ok (.aload_n 1, 1) := ax_dec dL_law_q20_ok 20 (970, .aload_n 1, 1) rfl
theorem dL_law_971 : decode cL_law 971 = .ok (.aload_n 0, 1) := ax_dec dL_law_q20_ok 21 (971, .aload_n 0, 1) rfl
theorem dL_law_972 : decode cL_law 972 = .ok (.iload_n 3, 1) := ax_dec dL_law_q20_ok 22 (972, .iload_n 3, 1) rfl
theorem dL_law_973 : decode cL_law 973 = .ok (.iconst 1, 1) := ax_dec dL_law_q20_ok 23 (973, .iconst 1, 1) rfl
theorem dL_law_974 : decode cL_law 974 = .ok (.iadd, 1) := ax_dec dL_law_q20_ok 24 (974, .iadd, 1) rfl
theorem dL_law_975 : decode cL_law 975 = .ok (.iaload, 1) := ax_dec dL_law_q20_ok 25 (975, .iaload, 1) rfl
theorem dL_law_976 : decode cL_law 976 = .ok (.aload_n 0, 1) := ax_dec dL_law_q20_ok 26 (976, .aload_n 0, 1) rfl
theorem dL_law_977 : decode cL_law 977 = .ok (.iload_n 3, 1) := ax_dec dL_law_q20_ok 27 (977, .iload_n 3, 1) rfl
theorem dL_law_978 : decode cL_law 978 = .ok (.iconst 2, 1) := ax_dec dL_law_q20_ok 28 (978, .iconst 2, 1) rfl
theorem dL_law_979 : decode cL_law 979 = .ok (.iadd, 1) := ax_dec dL_law_q20_ok 29 (979, .iadd, 1) rfl
theorem dL_law_980 : decode cL_law 980 = .ok (.iaload, 1) := ax_dec dL_law_q20_ok 30 (980, .iaload, 1) rfl
theorem dL_law_981 : decode cL_law 981 = .ok (.aload_n 0, 1) := ax_dec dL_law_q20_ok 31 (981, .aload_n 0, 1) rfl
def dL_law_q21 : List (Nat × (Instr × Nat)) := [(982, .iload_n 3, 1), (983, .iconst 3, 1), (984, .iadd, 1), (985, .iaload, 1), (986, .invokevirtual 104, 3), (989, .aload_n 2, 1), (990, .aload_n 0, 1), (991, .iload_n 3, 1), (992, .iconst 1, 1), (993, .iadd, 1), (994, .iaload, 1), (995, .aload_n 0, 1), (996, .iload_n 3, 1), (997, .iconst 2, 1), (998, .iadd, 1), (999, .iaload, 1), (1000, .aload_n 0, 1), (1001, .iload_n 3, 1), (1002, .iconst 3, 1), (1003, .iadd, 1), (1004, .iaload, 1), (1005, .invokevirtual 107, 3), (1008, .if_icmp .eq 697, 3), (1011, .iconst 0, 1), (1012, .ireturn, 1), (1013, .aload_n 1, 1), (1014, .aload_n 0, 1), (1015, .iload_n 3, 1), (1016, .iconst 1, 1), (1017, .iadd, 1), (1018, .iaload, 1), (1019, .aload_n 0, 1)]
set_option maxRecDepth 100000 in
theorem dL_law_q21_ok : ax_decs cL_law dL_law_q21 = true := by decide +kernel
theorem dL_law_982 : decode cL_law 982 = .ok (.iload_n 3, 1) := ax_dec dL_law_q21_ok 0 (982, .iload_n 3, 1) rfl
theorem dL_law_983 : decode cL_law 983 = .ok (.iconst 3, 1) := ax_dec dL_law_q21_ok 1 (983, .iconst 3, 1) rfl
theorem dL_law_984 : decode cL_law 984 = .ok (.iadd, 1) := ax_dec dL_law_q21_ok 2 (984, .iadd, 1) rfl
theorem dL_law_985 : decode cL_law 985 = .ok (.iaload, 1) := ax_dec dL_law_q21_ok 3 (985, .iaload, 1) rfl
theorem dL_law_986 : decode cL_law 986 = .ok (.invokevirtual 104, 3) := ax_dec dL_law_q21_ok 4 (986, .invokevirtual 104, 3) rfl
theorem dL_law_989 : decode cL_law 989 = .ok (.aload_n 2, 1) := ax_dec dL_law_q21_ok 5 (989, .aload_n 2, 1) rfl
theorem dL_law_990 : decode cL_law 990 = .ok (.aload_n 0, 1) := ax_dec dL_law_q21_ok 6 (990, .aload_n 0, 1) rfl
theorem dL_law_991 : decode cL_law 991 = .ok (.iload_n 3, 1) := ax_dec dL_law_q21_ok 7 (991, .iload_n 3, 1) rfl
theorem dL_law_992 : decode cL_law 992 = .ok (.iconst 1, 1) := ax_dec dL_law_q21_ok 8 (992, .iconst 1, 1) rfl
theorem dL_law_993 : decode cL_law 993 = .ok (.iadd, 1) := ax_dec dL_law_q21_ok 9 (993, .iadd, 1) rfl
theorem dL_law_994 : decode cL_law 994 = .ok (.iaload, 1) := ax_dec dL_law_q21_ok 10 (994, .iaload, 1) rfl
theorem dL_law_995 : decode cL_law 995 = .ok (.aload_n 0, 1) := ax_dec dL_law_q21_ok 11 (995, .aload_n 0, 1) rfl
theorem dL_law_996 : decode cL_law 996 = .ok (.iload_n 3, 1) := ax_dec dL_law_q21_ok 12 (996, .iload_n 3, 1) rfl
theorem dL_law_997 : decode cL_law 997 = .ok (.iconst 2, 1) := ax_dec dL_law_q21_ok 13 (997, .iconst 2, 1) rfl
theorem dL_law_998 : decode cL_law 998 = .ok (.iadd, 1) := ax_dec dL_law_q21_ok 14 (998, .iadd, 1) rfl
theorem dL_law_999 : decode cL_law 999 = .ok (.iaload, 1) := ax_dec dL_law_q21_ok 15 (999, .iaload, 1) rfl
theorem dL_law_1000 : decode cL_law 1000 = .ok (.aload_n 0, 1) := ax_dec dL_law_q21_ok 16 (1000, .aload_n 0, 1) rfl
theorem dL_law_1001 : decode cL_law 1001 = .ok (.iload_n 3, 1) := ax_dec dL_law_q21_ok 17 (1001, .iload_n 3, 1) rfl
theorem dL_law_1002 : decode cL_law 1002 = .ok (.iconst 3, 1) := ax_dec dL_law_q21_ok 18 (1002, .iconst 3, 1) rfl
theorem dL_law_1003 : decode cL_law 1003 = .ok (.iadd, 1) := ax_dec dL_law_q21_ok 19 (1003, .iadd, 1) rfl
theorem dL_law_1004 : decode cL_law 1004 = .ok (.iaload, 1) := ax_dec dL_law_q21_ok 20 (1004, .iaload, 1) rfl
theorem dL_law_1005 : decode cL_law 1005 = .ok (.invokevirtual 107, 3) := ax_dec dL_law_q21_ok 21 (1005, .invokevirtual 107, 3) rfl
theorem dL_law_1008 : decode cL_law 1008 = .ok (.if_icmp .eq 697, 3) := ax_dec dL_law_q21_ok 22 (1008, .if_icmp .eq 697, 3) rfl
theorem dL_law_1011 : decode cL_law 1011 = .ok (.iconst 0, 1) := ax_dec dL_law_q21_ok 23 (1011, .iconst 0, 1) rfl
theorem dL_law_1012 : decode cL_law 1012 = .ok (.ireturn, 1) := ax_dec dL_law_q21_ok 24 (1012, .ireturn, 1) rfl
theorem dL_law_1013 : decode cL_law 1013 = .ok (.aload_n 1, 1) := ax_dec dL_law_q21_ok 25 (1013, .aload_n 1, 1) rfl
theorem dL_law_1014 : decode cL_law 1014 = .ok (.aload_n 0, 1) := ax_dec dL_law_q21_ok 26 (1014, .aload_n 0, 1) rfl
theorem dL_law_1015 : decode cL_law 1015 = .ok (.iload_n 3, 1) := ax_dec dL_law_q21_ok 27 (1015, .iload_n 3, 1) rfl
theorem dL_law_1016 : decode cL_law 1016 = .ok (.iconst 1, 1) := ax_dec dL_law_q21_ok 28 (1016, .iconst 1, 1) rfl
theorem dL_law_1017 : decode cL_law 1017 = .ok (.iadd, 1) := ax_dec dL_law_q21_ok 29 (1017, .iadd, 1) rfl
theorem dL_law_1018 : decode cL_law 1018 = .ok (.iaload, 1) := ax_dec dL_law_q21_ok 30 (1018, .iaload, 1) rfl
theorem dL_law_1019 : decode cL_law 1019 = .ok (.aload_n 0, 1) := ax_dec dL_law_q21_ok 31 (1019, .aload_n 0, 1) rfl
def dL_law_q22 : List (Nat × (Instr × Nat)) := [(1020, .iload_n 3, 1), (1021, .iconst 2, 1), (1022, .iadd, 1), (1023, .iaload, 1), (1024, .aload_n 0, 1), (1025, .iload_n 3, 1), (1026, .iconst 3, 1), (1027, .iadd, 1), (1028, .iaload, 1), (1029, .aload_n 0, 1), (1030, .iload_n 3, 1), (1031, .iconst 4, 1), (1032, .iadd, 1), (1033, .iaload, 1), (1034, .invokevirtual 108, 3), (1037, .aload_n 2, 1), (1038, .aload_n 0, 1), (1039, .iload_n 3, 1), (1040, .iconst 1, 1), (1041, .iadd, 1), (1042, .iaload, 1), (1043, .aload_n 0, 1), (1044, .iload_n 3, 1), (1045, .iconst 2, 1), (1046, .iadd, 1), (1047, .iaload, 1), (1048, .aload_n 0, 1), (1049, .iload_n 3, 1), (1050, .iconst 3, 1), (1051, .iadd, 1), (1052, .iaload, 1), (1053, .aload_n 0, 1)]
set_option maxRecDepth 100000 in
theorem dL_law_q22_ok : ax_decs cL_law dL_law_q22 = true := by decide +kernel
theorem dL_law_1020 : decode cL_law 1020 = .ok (.iload_n 3, 1) := ax_dec dL_law_q22_ok 0 (1020, .iload_n 3, 1) rfl
theorem dL_law_1021 : decode cL_law 1021 = .ok (.iconst 2, 1) := ax_dec dL_law_q22_ok 1 (1021, .iconst 2, 1) rfl
theorem dL_law_1022 : decode cL_law 1022 = .ok (.iadd, 1) := ax_dec dL_law_q22_ok 2 (1022, .iadd, 1) rfl
theorem dL_law_1023 : decode cL_law 1023 = .ok (.iaload, 1) := ax_dec dL_law_q22_ok 3 (1023, .iaload, 1) rfl
theorem dL_law_1024 : decode cL_law 1024 = .ok (.aload_n 0, 1) := ax_dec dL_law_q22_ok 4 (1024, .aload_n 0, 1) rfl
theorem dL_law_1025 : decode cL_law 1025 = .ok (.iload_n 3, 1) := ax_dec dL_law_q22_ok 5 (1025, .iload_n 3, 1) rfl
theorem dL_law_1026 : decode cL_law 1026 = .ok (.iconst 3, 1) := ax_dec dL_law_q22_ok 6 (1026, .iconst 3, 1) rfl
theorem dL_law_1027 : decode cL_law 1027 = .ok (.iadd, 1) := ax_dec dL_law_q22_ok 7 (1027, .iadd, 1) rfl
theorem dL_law_1028 : decode cL_law 1028 = .ok (.iaload, 1) := ax_dec dL_law_q22_ok 8 (1028, .iaload, 1) rfl
theorem dL_law_1029 : decode cL_law 1029 = .ok (.aload_n 0, 1) := ax_dec dL_law_q22_ok 9 (1029, .aload_n 0, 1) rfl
theorem dL_law_1030 : decode cL_law 1030 = .ok (.iload_n 3, 1) := ax_dec dL_law_q22_ok 10 (1030, .iload_n 3, 1) rfl
theorem dL_law_1031 : decode cL_law 1031 = .ok (.iconst 4, 1) := ax_dec dL_law_q22_ok 11 (1031, .iconst 4, 1) rfl
theorem dL_law_1032 : decode cL_law 1032 = .ok (.iadd, 1) := ax_dec dL_law_q22_ok 12 (1032, .iadd, 1) rfl
theorem dL_law_1033 : decode cL_law 1033 = .ok (.iaload, 1) := ax_dec dL_law_q22_ok 13 (1033, .iaload, 1) rfl
theorem dL_law_1034 : decode cL_law 1034 = .ok (.invokevirtual 108, 3) := ax_dec dL_law_q22_ok 14 (1034, .invokevirtual 108, 3) rfl
theorem dL_law_1037 : decode cL_law 1037 = .ok (.aload_n 2, 1) := ax_dec dL_law_q22_ok 15 (1037, .aload_n 2, 1) rfl
theorem dL_law_1038 : decode cL_law 1038 = .ok (.aload_n 0, 1) := ax_dec dL_law_q22_ok 16 (1038, .aload_n 0, 1) rfl
theorem dL_law_1039 : decode cL_law 1039 = .ok (.iload_n 3, 1) := ax_dec dL_law_q22_ok 17 (1039, .iload_n 3, 1) rfl
theorem dL_law_1040 : decode cL_law 1040 = .ok (.iconst 1, 1) := ax_dec dL_law_q22_ok 18 (1040, .iconst 1, 1) rfl
theorem dL_law_1041 : decode cL_law 1041 = .ok (.iadd, 1) := ax_dec dL_law_q22_ok 19 (1041, .iadd, 1) rfl
theorem dL_law_1042 : decode cL_law 1042 = .ok (.iaload, 1) := ax_dec dL_law_q22_ok 20 (1042, .iaload, 1) rfl
theorem dL_law_1043 : decode cL_law 1043 = .ok (.aload_n 0, 1) := ax_dec dL_law_q22_ok 21 (1043, .aload_n 0, 1) rfl
theorem dL_law_1044 : decode cL_law 1044 = .ok (.iload_n 3, 1) := ax_dec dL_law_q22_ok 22 (1044, .iload_n 3, 1) rfl
theorem dL_law_1045 : decode cL_law 1045 = .ok (.iconst 2, 1) := ax_dec dL_law_q22_ok 23 (1045, .iconst 2, 1) rfl
theorem dL_law_1046 : decode cL_law 1046 = .ok (.iadd, 1) := ax_dec dL_law_q22_ok 24 (1046, .iadd, 1) rfl
theorem dL_law_1047 : decode cL_law 1047 = .ok (.iaload, 1) := ax_dec dL_law_q22_ok 25 (1047, .iaload, 1) rfl
theorem dL_law_1048 : decode cL_law 1048 = .ok (.aload_n 0, 1) := ax_dec dL_law_q22_ok 26 (1048, .aload_n 0, 1) rfl
theorem dL_law_1049 : decode cL_law 1049 = .ok (.iload_n 3, 1) := ax_dec dL_law_q22_ok 27 (1049, .iload_n 3, 1) rfl
theorem dL_law_1050 : decode cL_law 1050 = .ok (.iconst 3, 1) := ax_dec dL_law_q22_ok 28 (1050, .iconst 3, 1) rfl
theorem dL_law_1051 : decode cL_law 1051 = .ok (.iadd, 1) := ax_dec dL_law_q22_ok 29 (1051, .iadd, 1) rfl
theorem dL_law_1052 : decode cL_law 1052 = .ok (.iaload, 1) := ax_dec dL_law_q22_ok 30 (1052, .iaload, 1) rfl
theorem dL_law_1053 : decode cL_law 1053 = .ok (.aload_n 0, 1) := ax_dec dL_law_q22_ok 31 (1053, .aload_n 0, 1) rfl
def dL_law_q23 : List (Nat × (Instr × Nat)) := [(1054, .iload_n 3, 1), (1055, .iconst 4, 1), (1056, .iadd, 1), (1057, .iaload, 1), (1058, .invokevirtual 111, 3), (1061, .if_icmp .eq 644, 3), (1064, .iconst 0, 1), (1065, .ireturn, 1), (1066, .aload_n 1, 1), (1067, .aload_n 0, 1), (1068, .iload_n 3, 1), (1069, .iconst 1, 1), (1070, .iadd, 1), (1071, .iaload, 1), (1072, .aload_n 0, 1), (1073, .iload_n 3, 1), (1074, .iconst 2, 1), (1075, .iadd, 1), (1076, .iaload, 1), (1077, .aload_n 0, 1), (1078, .iload_n 3, 1), (1079, .iconst 3, 1), (1080, .iadd, 1), (1081, .iaload, 1), (1082, .invokevirtual 112, 3), (1085, .aload_n 2, 1), (1086, .aload_n 0, 1), (1087, .iload_n 3, 1), (1088, .iconst 1, 1), (1089, .iadd, 1), (1090, .iaload, 1), (1091, .aload_n 0, 1)]
set_option maxRecDepth 100000 in
theorem dL_law_q23_ok : ax_decs cL_law dL_law_q23 = true := by decide +kernel
theorem dL_law_1054 : decode cL_law 1054 = .ok (.iload_n 3, 1) := ax_dec dL_law_q23_ok 0 (1054, .iload_n 3, 1) rfl
theorem dL_law_1055 : decode cL_law 1055 = .ok (.iconst 4, 1) := ax_dec dL_law_q23_ok 1 (1055, .iconst 4, 1) rfl
theorem dL_law_1056 : decode cL_law 1056 = .ok (.iadd, 1) := ax_dec dL_law_q23_ok 2 (1056, .iadd, 1) rfl
theorem dL_law_1057 : decode cL_law 1057 = .ok (.iaload, 1) := ax_dec dL_law_q23_ok 3 (1057, .iaload, 1) rfl
theorem dL_law_1058 : decode cL_law 1058 = .ok (.invokevirtual 111, 3) := ax_dec dL_law_q23_ok 4 (1058, .invokevirtual 111, 3) rfl
theorem dL_law_1061 : decode cL_law 1061 = .ok (.if_icmp .eq 644, 3) := ax_dec dL_law_q23_ok 5 (1061, .if_icmp .eq 644, 3) rfl
theorem dL_law_1064 : decode cL_law 1064 = .ok (.iconst 0, 1) := ax_dec dL_law_q23_ok 6 (1064, .iconst 0, 1) rfl
theorem dL_law_1065 : decode cL_law 1065 = .ok (.ireturn, 1) := ax_dec dL_law_q23_ok 7 (1065, .ireturn, 1) rfl
theorem dL_law_1066 : decode cL_law 1066 = .ok (.aload_n 1, 1) := ax_dec dL_law_q23_ok 8 (1066, .aload_n 1, 1) rfl
theorem dL_law_1067 : decode cL_law 1067 = .ok (.aload_n 0, 1) := ax_dec dL_law_q23_ok 9 (1067, .aload_n 0, 1) rfl
theorem dL_law_1068 : decode cL_law 1068 = .ok (.iload_n 3, 1) := ax_dec dL_law_q23_ok 10 (1068, .iload_n 3, 1) rfl
theorem dL_law_1069 : decode cL_law 1069 = .ok (.iconst 1, 1) := ax_dec dL_law_q23_ok 11 (1069, .iconst 1, 1) rfl
theorem dL_law_1070 : decode cL_law 1070 = .ok (.iadd, 1) := ax_dec dL_law_q23_ok 12 (1070, .iadd, 1) rfl
theorem dL_law_1071 : decode cL_law 1071 = .ok (.iaload, 1) := ax_dec dL_law_q23_ok 13 (1071, .iaload, 1) rfl
theorem dL_law_1072 : decode cL_law 1072 = .ok (.aload_n 0, 1) := ax_dec dL_law_q23_ok 14 (1072, .aload_n 0, 1) rfl
theorem dL_law_1073 : decode cL_law 1073 = .ok (.iload_n 3, 1) := ax_dec dL_law_q23_ok 15 (1073, .iload_n 3, 1) rfl
theorem dL_law_1074 : decode cL_law 1074 = .ok (.iconst 2, 1) := ax_dec dL_law_q23_ok 16 (1074, .iconst 2, 1) rfl
theorem dL_law_1075 : decode cL_law 1075 = .ok (.iadd, 1) := ax_dec dL_law_q23_ok 17 (1075, .iadd, 1) rfl
theorem dL_law_1076 : decode cL_law 1076 = .ok (.iaload, 1) := ax_dec dL_law_q23_ok 18 (1076, .iaload, 1) rfl
theorem dL_law_1077 : decode cL_law 1077 = .ok (.aload_n 0, 1) := ax_dec dL_law_q23_ok 19 (1077, .aload_n 0, 1) rfl
theorem dL_law_1078 : decode cL_law 1078 = .ok (.iload_n 3, 1) := ax_dec dL_law_q23_ok 20 (1078, .iload_n 3, 1) rfl
theorem dL_law_1079 : decode cL_law 1079 = .ok (.iconst 3, 1) := ax_dec dL_law_q23_ok 21 (1079, .iconst 3, 1) rfl
theorem dL_law_1080 : decode cL_law 1080 = .ok (.iadd, 1) := ax_dec dL_law_q23_ok 22 (1080, .iadd, 1) rfl
theorem dL_law_1081 : decode cL_law 1081 = .ok (.iaload, 1) := ax_dec dL_law_q23_ok 23 (1081, .iaload, 1) rfl
theorem dL_law_1082 : decode cL_law 1082 = .ok (.invokevirtual 112, 3) := ax_dec dL_law_q23_ok 24 (1082, .invokevirtual 112, 3) rfl
theorem dL_law_1085 : decode cL_law 1085 = .ok (.aload_n 2, 1) := ax_dec dL_law_q23_ok 25 (1085, .aload_n 2, 1) rfl
theorem dL_law_1086 : decode cL_law 1086 = .ok (.aload_n 0, 1) := ax_dec dL_law_q23_ok 26 (1086, .aload_n 0, 1) rfl
theorem dL_law_1087 : decode cL_law 1087 = .ok (.iload_n 3, 1) := ax_dec dL_law_q23_ok 27 (1087, .iload_n 3, 1) rfl
theorem dL_law_1088 : decode cL_law 1088 = .ok (.iconst 1, 1) := ax_dec dL_law_q23_ok 28 (1088, .iconst 1, 1) rfl
theorem dL_law_1089 : decode cL_law 1089 = .ok (.iadd, 1) := ax_dec dL_law_q23_ok 29 (1089, .iadd, 1) rfl
theorem dL_law_1090 : decode cL_law 1090 = .ok (.iaload, 1) := ax_dec dL_law_q23_ok 30 (1090, .iaload, 1) rfl
theorem dL_law_1091 : decode cL_law 1091 = .ok (.aload_n 0, 1) := ax_dec dL_law_q23_ok 31 (1091, .aload_n 0, 1) rfl
def dL_law_q24 : List (Nat × (Instr × Nat)) := [(1092, .iload_n 3, 1), (1093, .iconst 2, 1), (1094, .iadd, 1), (1095, .iaload, 1), (1096, .aload_n 0, 1), (1097, .iload_n 3, 1), (1098, .iconst 3, 1), (1099, .iadd, 1), (1100, .iaload, 1), (1101, .invokevirtual 115, 3), (1104, .if_icmp .eq 601, 3), (1107, .iconst 0, 1), (1108, .ireturn, 1), (1109, .aload_n 1, 1), (1110, .aload_n 0, 1), (1111, .iload_n 3, 1), (1112, .iconst 1, 1), (1113, .iadd, 1), (1114, .iaload, 1), (1115, .aload_n 0, 1), (1116, .iload_n 3, 1), (1117, .iconst 2, 1), (1118, .iadd, 1), (1119, .iaload, 1), (1120, .aload_n 0, 1), (1121, .iload_n 3, 1), (1122, .iconst 3, 1), (1123, .iadd, 1), (1124, .iaload, 1), (1125, .invokevirtual 116, 3), (1128, .aload_n 2, 1), (1129, .aload_n 0, 1)]
set_option maxRecDepth 100000 in
theorem dL_law_q24_ok : ax_decs cL_law dL_law_q24 = true := by decide +kernel
theorem dL_law_1092 : decode cL_law 1092 = .ok (.iload_n 3, 1) := ax_dec dL_law_q24_ok 0 (1092, .iload_n 3, 1) rfl
theorem dL_law_1093 : decode cL_law 1093 = .ok (.iconst 2, 1) := ax_dec dL_law_q24_ok 1 (1093, .iconst 2, 1) rfl
theorem dL_law_1094 : decode cL_law 1094 = .ok (.iadd, 1) := ax_dec dL_law_q24_ok 2 (1094, .iadd, 1) rfl
theorem dL_law_1095 : decode cL_law 1095 = .ok (.iaload, 1) := ax_dec dL_law_q24_ok 3 (1095, .iaload, 1) rfl
theorem dL_law_1096 : decode cL_law 1096 = .ok (.aload_n 0, 1) := ax_dec dL_law_q24_ok 4 (1096, .aload_n 0, 1) rfl
theorem dL_law_1097 : decode cL_law 1097 = .ok (.iload_n 3, 1) := ax_dec dL_law_q24_ok 5 (1097, .iload_n 3, 1) rfl
theorem dL_law_1098 : decode cL_law 1098 = .ok (.iconst 3, 1) := ax_dec dL_law_q24_ok 6 (1098, .iconst 3, 1) rfl
theorem dL_law_1099 : decode cL_law 1099 = .ok (.iadd, 1) := ax_dec dL_law_q24_ok 7 (1099, .iadd, 1) rfl
theorem dL_law_1100 : decode cL_law 1100 = .ok (.iaload, 1) := ax_dec dL_law_q24_ok 8 (1100, .iaload, 1) rfl
theorem dL_law_1101 : decode cL_law 1101 = .ok (.invokevirtual 115, 3) := ax_dec dL_law_q24_ok 9 (1101, .invokevirtual 115, 3) rfl
theorem dL_law_1104 : decode cL_law 1104 = .ok (.if_icmp .eq 601, 3) := ax_dec dL_law_q24_ok 10 (1104, .if_icmp .eq 601, 3) rfl
theorem dL_law_1107 : decode cL_law 1107 = .ok (.iconst 0, 1) := ax_dec dL_law_q24_ok 11 (1107, .iconst 0, 1) rfl
theorem dL_law_1108 : decode cL_law 1108 = .ok (.ireturn, 1) := ax_dec dL_law_q24_ok 12 (1108, .ireturn, 1) rfl
theorem dL_law_1109 : decode cL_law 1109 = .ok (.aload_n 1, 1) := ax_dec dL_law_q24_ok 13 (1109, .aload_n 1, 1) rfl
theorem dL_law_1110 : decode cL_law 1110 = .ok (.aload_n 0, 1) := ax_dec dL_law_q24_ok 14 (1110, .aload_n 0, 1) rfl
theorem dL_law_1111 : decode cL_law 1111 = .ok (.iload_n 3, 1) := ax_dec dL_law_q24_ok 15 (1111, .iload_n 3, 1) rfl
theorem dL_law_1112 : decode cL_law 1112 = .ok (.iconst 1, 1) := ax_dec dL_law_q24_ok 16 (1112, .iconst 1, 1) rfl
theorem dL_law_1113 : decode cL_law 1113 = .ok (.iadd, 1) := ax_dec dL_law_q24_ok 17 (1113, .iadd, 1) rfl
theorem dL_law_1114 : decode cL_law 1114 = .ok (.iaload, 1) := ax_dec dL_law_q24_ok 18 (1114, .iaload, 1) rfl
theorem dL_law_1115 : decode cL_law 1115 = .ok (.aload_n 0, 1) := ax_dec dL_law_q24_ok 19 (1115, .aload_n 0, 1) rfl
theorem dL_law_1116 : decode cL_law 1116 = .ok (.iload_n 3, 1) := ax_dec dL_law_q24_ok 20 (1116, .iload_n 3, 1) rfl
theorem dL_law_1117 : decode cL_law 1117 = .ok (.iconst 2, 1) := ax_dec dL_law_q24_ok 21 (1117, .iconst 2, 1) rfl
theorem dL_law_1118 : decode cL_law 1118 = .ok (.iadd, 1) := ax_dec dL_law_q24_ok 22 (1118, .iadd, 1) rfl
theorem dL_law_1119 : decode cL_law 1119 = .ok (.iaload, 1) := ax_dec dL_law_q24_ok 23 (1119, .iaload, 1) rfl
theorem dL_law_1120 : decode cL_law 1120 = .ok (.aload_n 0, 1) := ax_dec dL_law_q24_ok 24 (1120, .aload_n 0, 1) rfl
theorem dL_law_1121 : decode cL_law 1121 = .ok (.iload_n 3, 1) := ax_dec dL_law_q24_ok 25 (1121, .iload_n 3, 1) rfl
theorem dL_law_1122 : decode cL_law 1122 = .ok (.iconst 3, 1) := ax_dec dL_law_q24_ok 26 (1122, .iconst 3, 1) rfl
theorem dL_law_1123 : decode cL_law 1123 = .ok (.iadd, 1) := ax_dec dL_law_q24_ok 27 (1123, .iadd, 1) rfl
theorem dL_law_1124 : decode cL_law 1124 = .ok (.iaload, 1) := ax_dec dL_law_q24_ok 28 (1124, .iaload, 1) rfl
theorem dL_law_1125 : decode cL_law 1125 = .ok (.invokevirtual 116, 3) := ax_dec dL_law_q24_ok 29 (1125, .invokevirtual 116, 3) rfl
theorem dL_law_1128 : decode cL_law 1128 = .ok (.aload_n 2, 1) := ax_dec dL_law_q24_ok 30 (1128, .aload_n 2, 1) rfl
theorem dL_law_1129 : decode cL_law 1129 = .ok (.aload_n 0, 1) := ax_dec dL_law_q24_ok 31 (1129, .aload_n 0, 1) rfl
def dL_law_q25 : List (Nat × (Instr × Nat)) := [(1130, .iload_n 3, 1), (1131, .iconst 1, 1), (1132, .iadd, 1), (1133, .iaload, 1), (1134, .aload_n 0, 1), (1135, .iload_n 3, 1), (1136, .iconst 2, 1), (1137, .iadd, 1), (1138, .iaload, 1), (1139, .aload_n 0, 1), (1140, .iload_n 3, 1), (1141, .iconst 3, 1), (1142, .iadd, 1), (1143, .iaload, 1), (1144, .invokevirtual 119, 3), (1147, .if_icmp .eq 558, 3), (1150, .iconst 0, 1), (1151, .ireturn, 1), (1152, .aload_n 1, 1), (1153, .aload_n 0, 1), (1154, .iload_n 3, 1), (1155, .iconst 1, 1), (1156, .iadd, 1), (1157, .iaload, 1), (1158, .aload_n 0, 1), (1159, .iload_n 3, 1), (1160, .iconst 2, 1), (1161, .iadd, 1), (1162, .iaload, 1), (1163, .invokevirtual 120, 3), (1166, .aload_n 2, 1), (1167, .aload_n 0, 1)]
set_option maxRecDepth 100000 in
theorem dL_law_q25_ok : ax_decs cL_law dL_law_q25 = true := by decide +kernel
theorem dL_law_1130 : decode cL_law 1130 = .ok (.iload_n 3, 1) := ax_dec dL_law_q25_ok 0 (1130, .iload_n 3, 1) rfl
theorem dL_law_1131 : decode cL_law 1131 = .ok (.iconst 1, 1) := ax_dec dL_law_q25_ok 1 (1131, .iconst 1, 1) rfl
theorem dL_law_1132 : decode cL_law 1132 = .ok (.iadd, 1) := ax_dec dL_law_q25_ok 2 (1132, .iadd, 1) rfl
theorem dL_law_1133 : decode cL_law 1133 = .ok (.iaload, 1) := ax_dec dL_law_q25_ok 3 (1133, .iaload, 1) rfl
theorem dL_law_1134 : decode cL_law 1134 = .ok (.aload_n 0, 1) := ax_dec dL_law_q25_ok 4 (1134, .aload_n 0, 1) rfl
theorem dL_law_1135 : decode cL_law 1135 = .ok (.iload_n 3, 1) := ax_dec dL_law_q25_ok 5 (1135, .iload_n 3, 1) rfl
theorem dL_law_1136 : decode cL_law 1136 = .ok (.iconst 2, 1) := ax_dec dL_law_q25_ok 6 (1136, .iconst 2, 1) rfl
theorem dL_law_1137 : decode cL_law 1137 = .ok (.iadd, 1) := ax_dec dL_law_q25_ok 7 (1137, .iadd, 1) rfl
theorem dL_law_1138 : decode cL_law 1138 = .ok (.iaload, 1) := ax_dec dL_law_q25_ok 8 (1138, .iaload, 1) rfl
theorem dL_law_1139 : decode cL_law 1139 = .ok (.aload_n 0, 1) := ax_dec dL_law_q25_ok 9 (1139, .aload_n 0, 1) rfl
theorem dL_law_1140 : decode cL_law 1140 = .ok (.iload_n 3, 1) := ax_dec dL_law_q25_ok 10 (1140, .iload_n 3, 1) rfl
theorem dL_law_1141 : decode cL_law 1141 = .ok (.iconst 3, 1) := ax_dec dL_law_q25_ok 11 (1141, .iconst 3, 1) rfl
theorem dL_law_1142 : decode cL_law 1142 = .ok (.iadd, 1) := ax_dec dL_law_q25_ok 12 (1142, .iadd, 1) rfl
theorem dL_law_1143 : decode cL_law 1143 = .ok (.iaload, 1) := ax_dec dL_law_q25_ok 13 (1143, .iaload, 1) rfl
theorem dL_law_1144 : decode cL_law 1144 = .ok (.invokevirtual 119, 3) := ax_dec dL_law_q25_ok 14 (1144, .invokevirtual 119, 3) rfl
theorem dL_law_1147 : decode cL_law 1147 = .ok (.if_icmp .eq 558, 3) := ax_dec dL_law_q25_ok 15 (1147, .if_icmp .eq 558, 3) rfl
theorem dL_law_1150 : decode cL_law 1150 = .ok (.iconst 0, 1) := ax_dec dL_law_q25_ok 16 (1150, .iconst 0, 1) rfl
theorem dL_law_1151 : decode cL_law 1151 = .ok (.ireturn, 1) := ax_dec dL_law_q25_ok 17 (1151, .ireturn, 1) rfl
theorem dL_law_1152 : decode cL_law 1152 = .ok (.aload_n 1, 1) := ax_dec dL_law_q25_ok 18 (1152, .aload_n 1, 1) rfl
theorem dL_law_1153 : decode cL_law 1153 = .ok (.aload_n 0, 1) := ax_dec dL_law_q25_ok 19 (1153, .aload_n 0, 1) rfl
theorem dL_law_1154 : decode cL_law 1154 = .ok (.iload_n 3, 1) := ax_dec dL_law_q25_ok 20 (1154, .iload_n 3, 1) rfl
theorem dL_law_1155 : decode cL_law 1155 = .ok (.iconst 1, 1) := ax_dec dL_law_q25_ok 21 (1155, .iconst 1, 1) rfl
theorem dL_law_1156 : decode cL_law 1156 = .ok (.iadd, 1) := ax_dec dL_law_q25_ok 22 (1156, .iadd, 1) rfl
theorem dL_law_1157 : decode cL_law 1157 = .ok (.iaload, 1) := ax_dec dL_law_q25_ok 23 (1157, .iaload, 1) rfl
theorem dL_law_1158 : decode cL_law 1158 = .ok (.aload_n 0, 1) := ax_dec dL_law_q25_ok 24 (1158, .aload_n 0, 1) rfl
theorem dL_law_1159 : decode cL_law 1159 = .ok (.iload_n 3, 1) := ax_dec dL_law_q25_ok 25 (1159, .iload_n 3, 1) rfl
theorem dL_law_1160 : decode cL_law 1160 = .ok (.iconst 2, 1) := ax_dec dL_law_q25_ok 26 (1160, .iconst 2, 1) rfl
theorem dL_law_1161 : decode cL_law 1161 = .ok (.iadd, 1) := ax_dec dL_law_q25_ok 27 (1161, .iadd, 1) rfl
theorem dL_law_1162 : decode cL_law 1162 = .ok (.iaload, 1) := ax_dec dL_law_q25_ok 28 (1162, .iaload, 1) rfl
theorem dL_law_1163 : decode cL_law 1163 = .ok (.invokevirtual 120, 3) := ax_dec dL_law_q25_ok 29 (1163, .invokevirtual 120, 3) rfl
theorem dL_law_1166 : decode cL_law 1166 = .ok (.aload_n 2, 1) := ax_dec dL_law_q25_ok 30 (1166, .aload_n 2, 1) rfl
theorem dL_law_1167 : decode cL_law 1167 = .ok (.aload_n 0, 1) := ax_dec dL_law_q25_ok 31 (1167, .aload_n 0, 1) rfl
def dL_law_q26 : List (Nat × (Instr × Nat)) := [(1168, .iload_n 3, 1), (1169, .iconst 1, 1), (1170, .iadd, 1), (1171, .iaload, 1), (1172, .aload_n 0, 1), (1173, .iload_n 3, 1), (1174, .iconst 2, 1), (1175, .iadd, 1), (1176, .iaload, 1), (1177, .invokevirtual 123, 3), (1180, .if_icmp .eq 525, 3), (1183, .iconst 0, 1), (1184, .ireturn, 1), (1185, .aload_n 1, 1), (1186, .aload_n 0, 1), (1187, .iload_n 3, 1), (1188, .iconst 1, 1), (1189, .iadd, 1), (1190, .iaload, 1), (1191, .invokevirtual 124, 3), (1194, .aload_n 2, 1), (1195, .aload_n 0, 1), (1196, .iload_n 3, 1), (1197, .iconst 1, 1), (1198, .iadd, 1), (1199, .iaload, 1), (1200, .invokevirtual 127, 3), (1203, .if_icmp .eq 502, 3), (1206, .iconst 0, 1), (1207, .ireturn, 1), (1208, .aload_n 1, 1), (1209, .aload_n 0, 1)]
set_option maxRecDepth 100000 in
theorem dL_law_q26_ok : ax_decs cL_law dL_law_q26 = true := by decide +kernel
theorem dL_law_1168 : decode cL_law 1168 = .ok (.iload_n 3, 1) := ax_dec dL_law_q26_ok 0 (1168, .iload_n 3, 1) rfl
theorem dL_law_1169 : decode cL_law 1169 = .ok (.iconst 1, 1) := ax_dec dL_law_q26_ok 1 (1169, .iconst 1, 1) rfl
theorem dL_law_1170 : decode cL_law 1170 = .ok (.iadd, 1) := ax_dec dL_law_q26_ok 2 (1170, .iadd, 1) rfl
theorem dL_law_1171 : decode cL_law 1171 = .ok (.iaload, 1) := ax_dec dL_law_q26_ok 3 (1171, .iaload, 1) rfl
theorem dL_law_1172 : decode cL_law 1172 = .ok (.aload_n 0, 1) := ax_dec dL_law_q26_ok 4 (1172, .aload_n 0, 1) rfl
theorem dL_law_1173 : decode cL_law 1173 = .ok (.iload_n 3, 1) := ax_dec dL_law_q26_ok 5 (1173, .iload_n 3, 1) rfl
theorem dL_law_1174 : decode cL_law 1174 = .ok (.iconst 2, 1) := ax_dec dL_law_q26_ok 6 (1174, .iconst 2, 1) rfl
theorem dL_law_1175 : decode cL_law 1175 = .ok (.iadd, 1) := ax_dec dL_law_q26_ok 7 (1175, .iadd, 1) rfl
theorem dL_law_1176 : decode cL_law 1176 = .ok (.iaload, 1) := ax_dec dL_law_q26_ok 8 (1176, .iaload, 1) rfl
theorem dL_law_1177 : decode cL_law 1177 = .ok (.invokevirtual 123, 3) := ax_dec dL_law_q26_ok 9 (1177, .invokevirtual 123, 3) rfl
theorem dL_law_1180 : decode cL_law 1180 = .ok (.if_icmp .eq 525, 3) := ax_dec dL_law_q26_ok 10 (1180, .if_icmp .eq 525, 3) rfl
theorem dL_law_1183 : decode cL_law 1183 = .ok (.iconst 0, 1) := ax_dec dL_law_q26_ok 11 (1183, .iconst 0, 1) rfl
theorem dL_law_1184 : decode cL_law 1184 = .ok (.ireturn, 1) := ax_dec dL_law_q26_ok 12 (1184, .ireturn, 1) rfl
theorem dL_law_1185 : decode cL_law 1185 = .ok (.aload_n 1, 1) := ax_dec dL_law_q26_ok 13 (1185, .aload_n 1, 1) rfl
theorem dL_law_1186 : decode cL_law 1186 = .ok (.aload_n 0, 1) := ax_dec dL_law_q26_ok 14 (1186, .aload_n 0, 1) rfl
theorem dL_law_1187 : decode cL_law 1187 = .ok (.iload_n 3, 1) := ax_dec dL_law_q26_ok 15 (1187, .iload_n 3, 1) rfl
theorem dL_law_1188 : decode cL_law 1188 = .ok (.iconst 1, 1) := ax_dec dL_law_q26_ok 16 (1188, .iconst 1, 1) rfl
theorem dL_law_1189 : decode cL_law 1189 = .ok (.iadd, 1) := ax_dec dL_law_q26_ok 17 (1189, .iadd, 1) rfl
theorem dL_law_1190 : decode cL_law 1190 = .ok (.iaload, 1) := ax_dec dL_law_q26_ok 18 (1190, .iaload, 1) rfl
theorem dL_law_1191 : decode cL_law 1191 = .ok (.invokevirtual 124, 3) := ax_dec dL_law_q26_ok 19 (1191, .invokevirtual 124, 3) rfl
theorem dL_law_1194 : decode cL_law 1194 = .ok (.aload_n 2, 1) := ax_dec dL_law_q26_ok 20 (1194, .aload_n 2, 1) rfl
theorem dL_law_1195 : decode cL_law 1195 = .ok (.aload_n 0, 1) := ax_dec dL_law_q26_ok 21 (1195, .aload_n 0, 1) rfl
theorem dL_law_1196 : decode cL_law 1196 = .ok (.iload_n 3, 1) := ax_dec dL_law_q26_ok 22 (1196, .iload_n 3, 1) rfl
theorem dL_law_1197 : decode cL_law 1197 = .ok (.iconst 1, 1) := ax_dec dL_law_q26_ok 23 (1197, .iconst 1, 1) rfl
theorem dL_law_1198 : decode cL_law 1198 = .ok (.iadd, 1) := ax_dec dL_law_q26_ok 24 (1198, .iadd, 1) rfl
theorem dL_law_1199 : decode cL_law 1199 = .ok (.iaload, 1) := ax_dec dL_law_q26_ok 25 (1199, .iaload, 1) rfl
theorem dL_law_1200 : decode cL_law 1200 = .ok (.invokevirtual 127, 3) := ax_dec dL_law_q26_ok 26 (1200, .invokevirtual 127, 3) rfl
theorem dL_law_1203 : decode cL_law 1203 = .ok (.if_icmp .eq 502, 3) := ax_dec dL_law_q26_ok 27 (1203, .if_icmp .eq 502, 3) rfl
theorem dL_law_1206 : decode cL_law 1206 = .ok (.iconst 0, 1) := ax_dec dL_law_q26_ok 28 (1206, .iconst 0, 1) rfl
theorem dL_law_1207 : decode cL_law 1207 = .ok (.ireturn, 1) := ax_dec dL_law_q26_ok 29 (1207, .ireturn, 1) rfl
theorem dL_law_1208 : decode cL_law 1208 = .ok (.aload_n 1, 1) := ax_dec dL_law_q26_ok 30 (1208, .aload_n 1, 1) rfl
theorem dL_law_1209 : decode cL_law 1209 = .ok (.aload_n 0, 1) := ax_dec dL_law_q26_ok 31 (1209, .aload_n 0, 1) rfl
def dL_law_q27 : List (Nat × (Instr × Nat)) := [(1210, .iload_n 3, 1), (1211, .iconst 1, 1), (1212, .iadd, 1), (1213, .iaload, 1), (1214, .aload_n 0, 1), (1215, .iload_n 3, 1), (1216, .iconst 2, 1), (1217, .iadd, 1), (1218, .iaload, 1), (1219, .invokevirtual 128, 3), (1222, .aload_n 2, 1), (1223, .aload_n 0, 1), (1224, .iload_n 3, 1), (1225, .iconst 1, 1), (1226, .iadd, 1), (1227, .iaload, 1), (1228, .aload_n 0, 1), (1229, .iload_n 3, 1), (1230, .iconst 2, 1), (1231, .iadd, 1), (1232, .iaload, 1), (1233, .invokevirtual 131, 3), (1236, .if_icmp .eq 469, 3), (1239, .iconst 0, 1), (1240, .ireturn, 1), (1241, .aload_n 1, 1), (1242, .aload_n 0, 1), (1243, .iload_n 3, 1), (1244, .iconst 1, 1), (1245, .iadd, 1), (1246, .iaload, 1), (1247, .aload_n 0, 1)]
set_option maxRecDepth 100000 in
theorem dL_law_q27_ok : ax_decs cL_law dL_law_q27 = true := by decide +kernel
theorem dL_law_1210 : decode cL_law 1210 = .ok (.iload_n 3, 1) := ax_dec dL_law_q27_ok 0 (1210, .iload_n 3, 1) rfl
theorem dL_law_1211 : decode cL_law 1211 = .ok (.iconst 1, 1) := ax_dec dL_law_q27_ok 1 (1211, .iconst 1, 1) rfl
theorem dL_law_1212 : decode cL_law 1212 = .ok (.iadd, 1) := ax_dec dL_law_q27_ok 2 (1212, .iadd, 1) rfl
theorem dL_law_1213 : decode cL_law 1213 = .ok (.iaload, 1) := ax_dec dL_law_q27_ok 3 (1213, .iaload, 1) rfl
theorem dL_law_1214 : decode cL_law 1214 = .ok (.aload_n 0, 1) := ax_dec dL_law_q27_ok 4 (1214, .aload_n 0, 1) rfl
theorem dL_law_1215 : decode cL_law 1215 = .ok (.iload_n 3, 1) := ax_dec dL_law_q27_ok 5 (1215, .iload_n 3, 1) rfl
theorem dL_law_1216 : decode cL_law 1216 = .ok (.iconst 2, 1) := ax_dec dL_law_q27_ok 6 (1216, .iconst 2, 1) rfl
theorem dL_law_1217 : decode cL_law 1217 = .ok (.iadd, 1) := ax_dec dL_law_q27_ok 7 (1217, .iadd, 1) rfl
theorem dL_law_1218 : decode cL_law 1218 = .ok (.iaload, 1) := ax_dec dL_law_q27_ok 8 (1218, .iaload, 1) rfl
theorem dL_law_1219 : decode cL_law 1219 = .ok (.invokevirtual 128, 3) := ax_dec dL_law_q27_ok 9 (1219, .invokevirtual 128, 3) rfl
theorem dL_law_1222 : decode cL_law 1222 = .ok (.aload_n 2, 1) := ax_dec dL_law_q27_ok 10 (1222, .aload_n 2, 1) rfl
theorem dL_law_1223 : decode cL_law 1223 = .ok (.aload_n 0, 1) := ax_dec dL_law_q27_ok 11 (1223, .aload_n 0, 1) rfl
theorem dL_law_1224 : decode cL_law 1224 = .ok (.iload_n 3, 1) := ax_dec dL_law_q27_ok 12 (1224, .iload_n 3, 1) rfl
theorem dL_law_1225 : decode cL_law 1225 = .ok (.iconst 1, 1) := ax_dec dL_law_q27_ok 13 (1225, .iconst 1, 1) rfl
theorem dL_law_1226 : decode cL_law 1226 = .ok (.iadd, 1) := ax_dec dL_law_q27_ok 14 (1226, .iadd, 1) rfl
theorem dL_law_1227 : decode cL_law 1227 = .ok (.iaload, 1) := ax_dec dL_law_q27_ok 15 (1227, .iaload, 1) rfl
theorem dL_law_1228 : decode cL_law 1228 = .ok (.aload_n 0, 1) := ax_dec dL_law_q27_ok 16 (1228, .aload_n 0, 1) rfl
theorem dL_law_1229 : decode cL_law 1229 = .ok (.iload_n 3, 1) := ax_dec dL_law_q27_ok 17 (1229, .iload_n 3, 1) rfl
theorem dL_law_1230 : decode cL_law 1230 = .ok (.iconst 2, 1) := ax_dec dL_law_q27_ok 18 (1230, .iconst 2, 1) rfl
theorem dL_law_1231 : decode cL_law 1231 = .ok (.iadd, 1) := ax_dec dL_law_q27_ok 19 (1231, .iadd, 1) rfl
theorem dL_law_1232 : decode cL_law 1232 = .ok (.iaload, 1) := ax_dec dL_law_q27_ok 20 (1232, .iaload, 1) rfl
theorem dL_law_1233 : decode cL_law 1233 = .ok (.invokevirtual 131, 3) := ax_dec dL_law_q27_ok 21 (1233, .invokevirtual 131, 3) rfl
theorem dL_law_1236 : decode cL_law 1236 = .ok (.if_icmp .eq 469, 3) := ax_dec dL_law_q27_ok 22 (1236, .if_icmp .eq 469, 3) rfl
theorem dL_law_1239 : decode cL_law 1239 = .ok (.iconst 0, 1) := ax_dec dL_law_q27_ok 23 (1239, .iconst 0, 1) rfl
theorem dL_law_1240 : decode cL_law 1240 = .ok (.ireturn, 1) := ax_dec dL_law_q27_ok 24 (1240, .ireturn, 1) rfl
theorem dL_law_1241 : decode cL_law 1241 = .ok (.aload_n 1, 1) := ax_dec dL_law_q27_ok 25 (1241, .aload_n 1, 1) rfl
theorem dL_law_1242 : decode cL_law 1242 = .ok (.aload_n 0, 1) := ax_dec dL_law_q27_ok 26 (1242, .aload_n 0, 1) rfl
theorem dL_law_1243 : decode cL_law 1243 = .ok (.iload_n 3, 1) := ax_dec dL_law_q27_ok 27 (1243, .iload_n 3, 1) rfl
theorem dL_law_1244 : decode cL_law 1244 = .ok (.iconst 1, 1) := ax_dec dL_law_q27_ok 28 (1244, .iconst 1, 1) rfl
theorem dL_law_1245 : decode cL_law 1245 = .ok (.iadd, 1) := ax_dec dL_law_q27_ok 29 (1245, .iadd, 1) rfl
theorem dL_law_1246 : decode cL_law 1246 = .ok (.iaload, 1) := ax_dec dL_law_q27_ok 30 (1246, .iaload, 1) rfl
theorem dL_law_1247 : decode cL_law 1247 = .ok (.aload_n 0, 1) := ax_dec dL_law_q27_ok 31 (1247, .aload_n 0, 1) rfl
def dL_law_q28 : List (Nat × (Instr × Nat)) := [(1248, .iload_n 3, 1), (1249, .iconst 2, 1), (1250, .iadd, 1), (1251, .iaload, 1), (1252, .aload_n 0, 1), (1253, .iload_n 3, 1), (1254, .iconst 3, 1), (1255, .iadd, 1), (1256, .iaload, 1), (1257, .invokevirtual 132, 3), (1260, .aload_n 2, 1), (1261, .aload_n 0, 1), (1262, .iload_n 3, 1), (1263, .iconst 1, 1), (1264, .iadd, 1), (1265, .iaload, 1), (1266, .aload_n 0, 1), (1267, .iload_n 3, 1), (1268, .iconst 2, 1), (1269, .iadd, 1), (1270, .iaload, 1), (1271, .aload_n 0, 1), (1272, .iload_n 3, 1), (1273, .iconst 3, 1), (1274, .iadd, 1), (1275, .iaload, 1), (1276, .invokevirtual 135, 3), (1279, .if_icmp .eq 426, 3), (1282, .iconst 0, 1), (1283, .ireturn, 1), (1284, .aload_n 1, 1), (1285, .aload_n 0, 1)]
set_option maxRecDepth 100000 in
theorem dL_law_q28_ok : ax_decs cL_law dL_law_q28 = true := by decide +kernel
theorem dL_law_1248 : decode cL_law 1248 = .ok (.iload_n 3, 1) := ax_dec dL_law_q28_ok 0 (1248, .iload_n 3, 1) rfl
theorem dL_law_1249 : decode cL_law 1249 = .ok (.iconst 2, 1) := ax_dec dL_law_q28_ok 1 (1249, .iconst 2, 1) rfl
theorem dL_law_1250 : decode cL_law 1250 = .ok (.iadd, 1) := ax_dec dL_law_q28_ok 2 (1250, .iadd, 1) rfl
theorem dL_law_1251 : decode cL_law 1251 = .ok (.iaload, 1) := ax_dec dL_law_q28_ok 3 (1251, .iaload, 1) rfl
theorem dL_law_1252 : decode cL_law 1252 = .ok (.aload_n 0, 1) := ax_dec dL_law_q28_ok 4 (1252, .aload_n 0, 1) rfl
theorem dL_law_1253 : decode cL_law 1253 = .ok (.iload_n 3, 1) := ax_dec dL_law_q28_ok 5 (1253, .iload_n 3, 1) rfl
theorem dL_law_1254 : decode cL_law 1254 = .ok (.iconst 3, 1) := ax_dec dL_law_q28_ok 6 (1254, .iconst 3, 1) rfl
theorem dL_law_1255 : decode cL_law 1255 = .ok (.iadd, 1) := ax_dec dL_law_q28_ok 7 (1255, .iadd, 1) rfl
theorem dL_law_1256 : decode cL_law 1256 = .ok (.iaload, 1) := ax_dec dL_law_q28_ok 8 (1256, .iaload, 1) rfl
theorem dL_law_1257 : decode cL_law 1257 = .ok (.invokevirtual 132, 3) := ax_dec dL_law_q28_ok 9 (1257, .invokevirtual 132, 3) rfl
theorem dL_law_1260 : decode cL_law 1260 = .ok (.aload_n 2, 1) := ax_dec dL_law_q28_ok 10 (1260, .aload_n 2, 1) rfl
theorem dL_law_1261 : decode cL_law 1261 = .ok (.aload_n 0, 1) := ax_dec dL_law_q28_ok 11 (1261, .aload_n 0, 1) rfl
theorem dL_law_1262 : decode cL_law 1262 = .ok (.iload_n 3, 1) := ax_dec dL_law_q28_ok 12 (1262, .iload_n 3, 1) rfl
theorem dL_law_1263 : decode cL_law 1263 = .ok (.iconst 1, 1) := ax_dec dL_law_q28_ok 13 (1263, .iconst 1, 1) rfl
theorem dL_law_1264 : decode cL_law 1264 = .ok (.iadd, 1) := ax_dec dL_law_q28_ok 14 (1264, .iadd, 1) rfl
theorem dL_law_1265 : decode cL_law 1265 = .ok (.iaload, 1) := ax_dec dL_law_q28_ok 15 (1265, .iaload, 1) rfl
theorem dL_law_1266 : decode cL_law 1266 = .ok (.aload_n 0, 1) := ax_dec dL_law_q28_ok 16 (1266, .aload_n 0, 1) rfl
theorem dL_law_1267 : decode cL_law 1267 = .ok (.iload_n 3, 1) := ax_dec dL_law_q28_ok 17 (1267, .iload_n 3, 1) rfl
theorem dL_law_1268 : decode cL_law 1268 = .ok (.iconst 2, 1) := ax_dec dL_law_q28_ok 18 (1268, .iconst 2, 1) rfl
theorem dL_law_1269 : decode cL_law 1269 = .ok (.iadd, 1) := ax_dec dL_law_q28_ok 19 (1269, .iadd, 1) rfl
theorem dL_law_1270 : decode cL_law 1270 = .ok (.iaload, 1) := ax_dec dL_law_q28_ok 20 (1270, .iaload, 1) rfl
theorem dL_law_1271 : decode cL_law 1271 = .ok (.aload_n 0, 1) := ax_dec dL_law_q28_ok 21 (1271, .aload_n 0, 1) rfl
theorem dL_law_1272 : decode cL_law 1272 = .ok (.iload_n 3, 1) := ax_dec dL_law_q28_ok 22 (1272, .iload_n 3, 1) rfl
theorem dL_law_1273 : decode cL_law 1273 = .ok (.iconst 3, 1) := ax_dec dL_law_q28_ok 23 (1273, .iconst 3, 1) rfl
theorem dL_law_1274 : decode cL_law 1274 = .ok (.iadd, 1) := ax_dec dL_law_q28_ok 24 (1274, .iadd, 1) rfl
theorem dL_law_1275 : decode cL_law 1275 = .ok (.iaload, 1) := ax_dec dL_law_q28_ok 25 (1275, .iaload, 1) rfl
theorem dL_law_1276 : decode cL_law 1276 = .ok (.invokevirtual 135, 3) := ax_dec dL_law_q28_ok 26 (1276, .invokevirtual 135, 3) rfl
theorem dL_law_1279 : decode cL_law 1279 = .ok (.if_icmp .eq 426, 3) := ax_dec dL_law_q28_ok 27 (1279, .if_icmp .eq 426, 3) rfl
theorem dL_law_1282 : decode cL_law 1282 = .ok (.iconst 0, 1) := ax_dec dL_law_q28_ok 28 (1282, .iconst 0, 1) rfl
theorem dL_law_1283 : decode cL_law 1283 = .ok (.ireturn, 1) := ax_dec dL_law_q28_ok 29 (1283, .ireturn, 1) rfl
theorem dL_law_1284 : decode cL_law 1284 = .ok (.aload_n 1, 1) := ax_dec dL_law_q28_ok 30 (1284, .aload_n 1, 1) rfl
theorem dL_law_1285 : decode cL_law 1285 = .ok (.aload_n 0, 1) := ax_dec dL_law_q28_ok 31 (1285, .aload_n 0, 1) rfl
def dL_law_q29 : List (Nat × (Instr × Nat)) := [(1286, .iload_n 3, 1), (1287, .iconst 1, 1), (1288, .iadd, 1), (1289, .iaload, 1), (1290, .aload_n 0, 1), (1291, .iload_n 3, 1), (1292, .iconst 2, 1), (1293, .iadd, 1), (1294, .iaload, 1), (1295, .aload_n 0, 1), (1296, .iload_n 3, 1), (1297, .iconst 3, 1), (1298, .iadd, 1), (1299, .iaload, 1), (1300, .invokevirtual 136, 3), (1303, .aload_n 2, 1), (1304, .aload_n 0, 1), (1305, .iload_n 3, 1), (1306, .iconst 1, 1), (1307, .iadd, 1), (1308, .iaload, 1), (1309, .aload_n 0, 1), (1310, .iload_n 3, 1), (1311, .iconst 2, 1), (1312, .iadd, 1), (1313, .iaload, 1), (1314, .aload_n 0, 1), (1315, .iload_n 3, 1), (1316, .iconst 3, 1), (1317, .iadd, 1), (1318, .iaload, 1), (1319, .invokevirtual 139, 3)]
set_option maxRecDepth 100000 in
theorem dL_law_q29_ok : ax_decs cL_law dL_law_q29 = true := by decide +kernel
theorem dL_law_1286 : decode cL_law 1286 = .ok (.iload_n 3, 1) := ax_dec dL_law_q29_ok 0 (1286, .iload_n 3, 1) rfl
theorem dL_law_1287 : decode cL_law 1287 = .ok (.iconst 1, 1) := ax_dec dL_law_q29_ok 1 (1287, .iconst 1, 1) rfl
theorem dL_law_1288 : decode cL_law 1288 = .ok (.iadd, 1) := ax_dec dL_law_q29_ok 2 (1288, .iadd, 1) rfl
theorem dL_law_1289 : decode cL_law 1289 = .ok (.iaload, 1) := ax_dec dL_law_q29_ok 3 (1289, .iaload, 1) rfl
theorem dL_law_1290 : decode cL_law 1290 = .ok (.aload_n 0, 1) := ax_dec dL_law_q29_ok 4 (1290, .aload_n 0, 1) rfl
theorem dL_law_1291 : decode cL_law 1291 = .ok (.iload_n 3, 1) := ax_dec dL_law_q29_ok 5 (1291, .iload_n 3, 1) rfl
theorem dL_law_1292 : decode cL_law 1292 = .ok (.iconst 2, 1) := ax_dec dL_law_q29_ok 6 (1292, .iconst 2, 1) rfl
theorem dL_law_1293 : decode cL_law 1293 = .ok (.iadd, 1) := ax_dec dL_law_q29_ok 7 (1293, .iadd, 1) rfl
theorem dL_law_1294 : decode cL_law 1294 = .ok (.iaload, 1) := ax_dec dL_law_q29_ok 8 (1294, .iaload, 1) rfl
theorem dL_law_1295 : decode cL_law 1295 = .ok (.aload_n 0, 1) := ax_dec dL_law_q29_ok 9 (1295, .aload_n 0, 1) rfl
theorem dL_law_1296 : decode cL_law 1296 = .ok (.iload_n 3, 1) := ax_dec dL_law_q29_ok 10 (1296, .iload_n 3, 1) rfl
theorem dL_law_1297 : decode cL_law 1297 = .ok (.iconst 3, 1) := ax_dec dL_law_q29_ok 11 (1297, .iconst 3, 1) rfl
theorem dL_law_1298 : decode cL_law 1298 = .ok (.iadd, 1) := ax_dec dL_law_q29_ok 12 (1298, .iadd, 1) rfl
theorem dL_law_1299 : decode cL_law 1299 = .ok (.iaload, 1) := ax_dec dL_law_q29_ok 13 (1299, .iaload, 1) rfl
theorem dL_law_1300 : decode cL_law 1300 = .ok (.invokevirtual 136, 3) := ax_dec dL_law_q29_ok 14 (1300, .invokevirtual 136, 3) rfl
theorem dL_law_1303 : decode cL_law 1303 = .ok (.aload_n 2, 1) := ax_dec dL_law_q29_ok 15 (1303, .aload_n 2, 1) rfl
theorem dL_law_1304 : decode cL_law 1304 = .ok (.aload_n 0, 1) := ax_dec dL_law_q29_ok 16 (1304, .aload_n 0, 1) rfl
theorem dL_law_1305 : decode cL_law 1305 = .ok (.iload_n 3, 1) := ax_dec dL_law_q29_ok 17 (1305, .iload_n 3, 1) rfl
theorem dL_law_1306 : decode cL_law 1306 = .ok (.iconst 1, 1) := ax_dec dL_law_q29_ok 18 (1306, .iconst 1, 1) rfl
theorem dL_law_1307 : decode cL_law 1307 = .ok (.iadd, 1) := ax_dec dL_law_q29_ok 19 (1307, .iadd, 1) rfl
theorem dL_law_1308 : decode cL_law 1308 = .ok (.iaload, 1) := ax_dec dL_law_q29_ok 20 (1308, .iaload, 1) rfl
theorem dL_law_1309 : decode cL_law 1309 = .ok (.aload_n 0, 1) := ax_dec dL_law_q29_ok 21 (1309, .aload_n 0, 1) rfl
theorem dL_law_1310 : decode cL_law 1310 = .ok (.iload_n 3, 1) := ax_dec dL_law_q29_ok 22 (1310, .iload_n 3, 1) rfl
theorem dL_law_1311 : decode cL_law 1311 = .ok (.iconst 2, 1) := ax_dec dL_law_q29_ok 23 (1311, .iconst 2, 1) rfl
theorem dL_law_1312 : decode cL_law 1312 = .ok (.iadd, 1) := ax_dec dL_law_q29_ok 24 (1312, .iadd, 1) rfl
theorem dL_law_1313 : decode cL_law 1313 = .ok (.iaload, 1) := ax_dec dL_law_q29_ok 25 (1313, .iaload, 1) rfl
theorem dL_law_1314 : decode cL_law 1314 = .ok (.aload_n 0, 1) := ax_dec dL_law_q29_ok 26 (1314, .aload_n 0, 1) rfl
theorem dL_law_1315 : decode cL_law 1315 = .ok (.iload_n 3, 1) := ax_dec dL_law_q29_ok 27 (1315, .iload_n 3, 1) rfl
theorem dL_law_1316 : decode cL_law 1316 = .ok (.iconst 3, 1) := ax_dec dL_law_q29_ok 28 (1316, .iconst 3, 1) rfl
theorem dL_law_1317 : decode cL_law 1317 = .ok (.iadd, 1) := ax_dec dL_law_q29_ok 29 (1317, .iadd, 1) rfl
theorem dL_law_1318 : decode cL_law 1318 = .ok (.iaload, 1) := ax_dec dL_law_q29_ok 30 (1318, .iaload, 1) rfl
theorem dL_law_1319 : decode cL_law 1319 = .ok (.invokevirtual 139, 3) := ax_dec dL_law_q29_ok 31 (1319, .invokevirtual 139, 3) rfl
def dL_law_q30 : List (Nat × (Instr × Nat)) := [(1322, .if_icmp .eq 383, 3), (1325, .iconst 0, 1), (1326, .ireturn, 1), (1327, .aload_n 1, 1), (1328, .aload_n 0, 1), (1329, .iload_n 3, 1), (1330, .iconst 1, 1), (1331, .iadd, 1), (1332, .iaload, 1), (1333, .aload_n 0, 1), (1334, .iload_n 3, 1), (1335, .iconst 2, 1), (1336, .iadd, 1), (1337, .iaload, 1), (1338, .aload_n 0, 1), (1339, .iload_n 3, 1), (1340, .iconst 3, 1), (1341, .iadd, 1), (1342, .iaload, 1), (1343, .aload_n 0, 1), (1344, .iload_n 3, 1), (1345, .iconst 4, 1), (1346, .iadd, 1), (1347, .iaload, 1), (1348, .invokevirtual 140, 3), (1351, .aload_n 2, 1), (1352, .aload_n 0, 1), (1353, .iload_n 3, 1), (1354, .iconst 1, 1), (1355, .iadd, 1), (1356, .iaload, 1), (1357, .aload_n 0, 1)]
set_option maxRecDepth 100000 in
theorem dL_law_q30_ok : ax_decs cL_law dL_law_q30 = true := by decide +kernel
theorem dL_law_1322 : decode cL_law 1322 = .ok (.if_icmp .eq 383, 3) := ax_dec dL_law_q30_ok 0 (1322, .if_icmp .eq 383, 3) rfl
theorem dL_law_1325 : decode cL_law 1325 = .ok (.iconst 0, 1) := ax_dec dL_law_q30_ok 1 (1325, .iconst 0, 1) rfl
theorem dL_law_1326 : decode cL_law 1326 = .ok (.ireturn, 1) := ax_dec dL_law_q30_ok 2 (1326, .ireturn, 1) rfl
theorem dL_law_1327 : decode cL_law 1327 = .ok (.aload_n 1, 1) := ax_dec dL_law_q30_ok 3 (1327, .aload_n 1, 1) rfl
theorem dL_law_1328 : decode cL_law 1328 = .ok (.aload_n 0, 1) := ax_dec dL_law_q30_ok 4 (1328, .aload_n 0, 1) rfl
theorem dL_law_1329 : decode cL_law 1329 = .ok (.iload_n 3, 1) := ax_dec dL_law_q30_ok 5 (1329, .iload_n 3, 1) rfl
theorem dL_law_1330 : decode cL_law 1330 = .ok (.iconst 1, 1) := ax_dec dL_law_q30_ok 6 (1330, .iconst 1, 1) rfl
theorem dL_law_1331 : decode cL_law 1331 = .ok (.iadd, 1) := ax_dec dL_law_q30_ok 7 (1331, .iadd, 1) rfl
theorem dL_law_1332 : decode cL_law 1332 = .ok (.iaload, 1) := ax_dec dL_law_q30_ok 8 (1332, .iaload, 1) rfl
theorem dL_law_1333 : decode cL_law 1333 = .ok (.aload_n 0, 1) := ax_dec dL_law_q30_ok 9 (1333, .aload_n 0, 1) rfl
theorem dL_law_1334 : decode cL_law 1334 = .ok (.iload_n 3, 1) := ax_dec dL_law_q30_ok 10 (1334, .iload_n 3, 1) rfl
theorem dL_law_1335 : decode cL_law 1335 = .ok (.iconst 2, 1) := ax_dec dL_law_q30_ok 11 (1335, .iconst 2, 1) rfl
theorem dL_law_1336 : decode cL_law 1336 = .ok (.iadd, 1) := ax_dec dL_law_q30_ok 12 (1336, .iadd, 1) rfl
theorem dL_law_1337 : decode cL_law 1337 = .ok (.iaload, 1) := ax_dec dL_law_q30_ok 13 (1337, .iaload, 1) rfl
theorem dL_law_1338 : decode cL_law 1338 = .ok (.aload_n 0, 1) := ax_dec dL_law_q30_ok 14 (1338, .aload_n 0, 1) rfl
theorem dL_law_1339 : decode cL_law 1339 = .ok (.iload_n 3, 1) := ax_dec dL_law_q30_ok 15 (1339, .iload_n 3, 1) rfl
theorem dL_law_1340 : decode cL_law 1340 = .ok (.iconst 3, 1) := ax_dec dL_law_q30_ok 16 (1340, .iconst 3, 1) rfl
theorem dL_law_1341 : decode cL_law 1341 = .ok (.iadd, 1) := ax_dec dL_law_q30_ok 17 (1341, .iadd, 1) rfl
theorem dL_law_1342 : decode cL_law 1342 = .ok (.iaload, 1) := ax_dec dL_law_q30_ok 18 (1342, .iaload, 1) rfl
theorem dL_law_1343 : decode cL_law 1343 = .ok (.aload_n 0, 1) := ax_dec dL_law_q30_ok 19 (1343, .aload_n 0, 1) rfl
theorem dL_law_1344 : decode cL_law 1344 = .ok (.iload_n 3, 1) := ax_dec dL_law_q30_ok 20 (1344, .iload_n 3, 1) rfl
theorem dL_law_1345 : decode cL_law 1345 = .ok (.iconst 4, 1) := ax_dec dL_law_q30_ok 21 (1345, .iconst 4, 1) rfl
theorem dL_law_1346 : decode cL_law 1346 = .ok (.iadd, 1) := ax_dec dL_law_q30_ok 22 (1346, .iadd, 1) rfl
theorem dL_law_1347 : decode cL_law 1347 = .ok (.iaload, 1) := ax_dec dL_law_q30_ok 23 (1347, .iaload, 1) rfl
theorem dL_law_1348 : decode cL_law 1348 = .ok (.invokevirtual 140, 3) := ax_dec dL_law_q30_ok 24 (1348, .invokevirtual 140, 3) rfl
theorem dL_law_1351 : decode cL_law 1351 = .ok (.aload_n 2, 1) := ax_dec dL_law_q30_ok 25 (1351, .aload_n 2, 1) rfl
theorem dL_law_1352 : decode cL_law 1352 = .ok (.aload_n 0, 1) := ax_dec dL_law_q30_ok 26 (1352, .aload_n 0, 1) rfl
theorem dL_law_1353 : decode cL_law 1353 = .ok (.iload_n 3, 1) := ax_dec dL_law_q30_ok 27 (1353, .iload_n 3, 1) rfl
theorem dL_law_1354 : decode cL_law 1354 = .ok (.iconst 1, 1) := ax_dec dL_law_q30_ok 28 (1354, .iconst 1, 1) rfl
theorem dL_law_1355 : decode cL_law 1355 = .ok (.iadd, 1) := ax_dec dL_law_q30_ok 29 (1355, .iadd, 1) rfl
theorem dL_law_1356 : decode cL_law 1356 = .ok (.iaload, 1) := ax_dec dL_law_q30_ok 30 (1356, .iaload, 1) rfl
theorem dL_law_1357 : decode cL_law 1357 = .ok (.aload_n 0, 1) := ax_dec dL_law_q30_ok 31 (1357, .aload_n 0, 1) rfl
def dL_law_q31 : List (Nat × (Instr × Nat)) := [(1358, .iload_n 3, 1), (1359, .iconst 2, 1), (1360, .iadd, 1), (1361, .iaload, 1), (1362, .aload_n 0, 1), (1363, .iload_n 3, 1), (1364, .iconst 3, 1), (1365, .iadd, 1), (1366, .iaload, 1), (1367, .aload_n 0, 1), (1368, .iload_n 3, 1), (1369, .iconst 4, 1), (1370, .iadd, 1), (1371, .iaload, 1), (1372, .invokevirtual 143, 3), (1375, .if_icmp .eq 330, 3), (1378, .iconst 0, 1), (1379, .ireturn, 1), (1380, .aload_n 1, 1), (1381, .aload_n 0, 1), (1382, .iload_n 3, 1), (1383, .iconst 1, 1), (1384, .iadd, 1), (1385, .iaload, 1), (1386, .aload_n 0, 1), (1387, .iload_n 3, 1), (1388, .iconst 2, 1), (1389, .iadd, 1), (1390, .iaload, 1), (1391, .aload_n 0, 1), (1392, .iload_n 3, 1), (1393, .iconst 3, 1)]
set_option maxRecDepth 100000 in
theorem dL_law_q31_ok : ax_decs cL_law dL_law_q31 = true := by decide +kernel
theorem dL_law_1358 : decode cL_law 1358 = .ok (.iload_n 3, 1) := ax_dec dL_law_q31_ok 0 (1358, .iload_n 3, 1) rfl
theorem dL_law_1359 : decode cL_law 1359 = .ok (.iconst 2, 1) := ax_dec dL_law_q31_ok 1 (1359, .iconst 2, 1) rfl
theorem dL_law_1360 : decode cL_law 1360 = .ok (.iadd, 1) := ax_dec dL_law_q31_ok 2 (1360, .iadd, 1) rfl
theorem dL_law_1361 : decode cL_law 1361 = .ok (.iaload, 1) := ax_dec dL_law_q31_ok 3 (1361, .iaload, 1) rfl
theorem dL_law_1362 : decode cL_law 1362 = .ok (.aload_n 0, 1) := ax_dec dL_law_q31_ok 4 (1362, .aload_n 0, 1) rfl
theorem dL_law_1363 : decode cL_law 1363 = .ok (.iload_n 3, 1) := ax_dec dL_law_q31_ok 5 (1363, .iload_n 3, 1) rfl
theorem dL_law_1364 : decode cL_law 1364 = .ok (.iconst 3, 1) := ax_dec dL_law_q31_ok 6 (1364, .iconst 3, 1) rfl
theorem dL_law_1365 : decode cL_law 1365 = .ok (.iadd, 1) := ax_dec dL_law_q31_ok 7 (1365, .iadd, 1) rfl
theorem dL_law_1366 : decode cL_law 1366 = .ok (.iaload, 1) := ax_dec dL_law_q31_ok 8 (1366, .iaload, 1) rfl
theorem dL_law_1367 : decode cL_law 1367 = .ok (.aload_n 0, 1) := ax_dec dL_law_q31_ok 9 (1367, .aload_n 0, 1) rfl
theorem dL_law_1368 : decode cL_law 1368 = .ok (.iload_n 3, 1) := ax_dec dL_law_q31_ok 10 (1368, .iload_n 3, 1) rfl
theorem dL_law_1369 : decode cL_law 1369 = .ok (.iconst 4, 1) := ax_dec dL_law_q31_ok 11 (1369, .iconst 4, 1) rfl
theorem dL_law_1370 : decode cL_law 1370 = .ok (.iadd, 1) := ax_dec dL_law_q31_ok 12 (1370, .iadd, 1) rfl
theorem dL_law_1371 : decode cL_law 1371 = .ok (.iaload, 1) := ax_dec dL_law_q31_ok 13 (1371, .iaload, 1) rfl
theorem dL_law_1372 : decode cL_law 1372 = .ok (.invokevirtual 143, 3) := ax_dec dL_law_q31_ok 14 (1372, .invokevirtual 143, 3) rfl
theorem dL_law_1375 : decode cL_law 1375 = .ok (.if_icmp .eq 330, 3) := ax_dec dL_law_q31_ok 15 (1375, .if_icmp .eq 330, 3) rfl
theorem dL_law_1378 : decode cL_law 1378 = .ok (.iconst 0, 1) := ax_dec dL_law_q31_ok 16 (1378, .iconst 0, 1) rfl
theorem dL_law_1379 : decode cL_law 1379 = .ok (.ireturn, 1) := ax_dec dL_law_q31_ok 17 (1379, .ireturn, 1) rfl
theorem dL_law_1380 : decode cL_law 1380 = .ok (.aload_n 1, 1) := ax_dec dL_law_q31_ok 18 (1380, .aload_n 1, 1) rfl
theorem dL_law_1381 : decode cL_law 1381 = .ok (.aload_n 0, 1) := ax_dec dL_law_q31_ok 19 (1381, .aload_n 0, 1) rfl
theorem dL_law_1382 : decode cL_law 1382 = .ok (.iload_n 3, 1) := ax_dec dL_law_q31_ok 20 (1382, .iload_n 3, 1) rfl
theorem dL_law_1383 : decode cL_law 1383 = .ok (.iconst 1, 1) := ax_dec dL_law_q31_ok 21 (1383, .iconst 1, 1) rfl
theorem dL_law_1384 : decode cL_law 1384 = .ok (.iadd, 1) := ax_dec dL_law_q31_ok 22 (1384, .iadd, 1) rfl
theorem dL_law_1385 : decode cL_law 1385 = .ok (.iaload, 1) := ax_dec dL_law_q31_ok 23 (1385, .iaload, 1) rfl
theorem dL_law_1386 : decode cL_law 1386 = .ok (.aload_n 0, 1) := ax_dec dL_law_q31_ok 24 (1386, .aload_n 0, 1) rfl
theorem dL_law_1387 : decode cL_law 1387 = .ok (.iload_n 3, 1) := ax_dec dL_law_q31_ok 25 (1387, .iload_n 3, 1) rfl
theorem dL_law_1388 : decode cL_law 1388 = .ok (.iconst 2, 1) := ax_dec dL_law_q31_ok 26 (1388, .iconst 2, 1) rfl
theorem dL_law_1389 : decode cL_law 1389 = .ok (.iadd, 1) := ax_dec dL_law_q31_ok 27 (1389, .iadd, 1) rfl
theorem dL_law_1390 : decode cL_law 1390 = .ok (.iaload, 1) := ax_dec dL_law_q31_ok 28 (1390, .iaload, 1) rfl
theorem dL_law_1391 : decode cL_law 1391 = .ok (.aload_n 0, 1) := ax_dec dL_law_q31_ok 29 (1391, .aload_n 0, 1) rfl
theorem dL_law_1392 : decode cL_law 1392 = .ok (.iload_n 3, 1) := ax_dec dL_law_q31_ok 30 (1392, .iload_n 3, 1) rfl
theorem dL_law_1393 : decode cL_law 1393 = .ok (.iconst 3, 1) := ax_dec dL_law_q31_ok 31 (1393, .iconst 3, 1) rfl
def dL_law_q32 : List (Nat × (Instr × Nat)) := [(1394, .iadd, 1), (1395, .iaload, 1), (1396, .aload_n 0, 1), (1397, .iload_n 3, 1), (1398, .iconst 4, 1), (1399, .iadd, 1), (1400, .iaload, 1), (1401, .aload_n 0, 1), (1402, .iload_n 3, 1), (1403, .iconst 5, 1), (1404, .iadd, 1), (1405, .iaload, 1), (1406, .invokevirtual 144, 3), (1409, .aload_n 2, 1), (1410, .aload_n 0, 1), (1411, .iload_n 3, 1), (1412, .iconst 1, 1), (1413, .iadd, 1), (1414, .iaload, 1), (1415, .aload_n 0, 1), (1416, .iload_n 3, 1), (1417, .iconst 2, 1), (1418, .iadd, 1), (1419, .iaload, 1), (1420, .aload_n 0, 1), (1421, .iload_n 3, 1), (1422, .iconst 3, 1), (1423, .iadd, 1), (1424, .iaload, 1), (1425, .aload_n 0, 1), (1426, .iload_n 3, 1), (1427, .iconst 4, 1)]
set_option maxRecDepth 100000 in
theorem dL_law_q32_ok : ax_decs cL_law dL_law_q32 = true := by decide +kernel
theorem dL_law_1394 : decode cL_law 1394 = .ok (.iadd, 1) := ax_dec dL_law_q32_ok 0 (1394, .iadd, 1) rfl
theorem dL_law_1395 : decode cL_law 1395 = .ok (.iaload, 1) := ax_dec dL_law_q32_ok 1 (1395, .iaload, 1) rfl
theorem dL_law_1396 : decode cL_law 1396 = .ok (.aload_n 0, 1) := ax_dec dL_law_q32_ok 2 (1396, .aload_n 0, 1) rfl
theorem dL_law_1397 : decode cL_law 1397 = .ok (.iload_n 3, 1) := ax_dec dL_law_q32_ok 3 (1397, .iload_n 3, 1) rfl
theorem dL_law_1398 : decode cL_law 1398 = .ok (.iconst 4, 1) := ax_dec dL_law_q32_ok 4 (1398, .iconst 4, 1) rfl
theorem dL_law_1399 : decode cL_law 1399 = .ok (.iadd, 1) := ax_dec dL_law_q32_ok 5 (1399, .iadd, 1) rfl
theorem dL_law_1400 : decode cL_law 1400 = .ok (.iaload, 1) := ax_dec dL_law_q32_ok 6 (1400, .iaload, 1) rfl
theorem dL_law_1401 : decode cL_law 1401 = .ok (.aload_n 0, 1) := ax_dec dL_law_q32_ok 7 (1401, .aload_n 0, 1) rfl
theorem dL_law_1402 : decode cL_law 1402 = .ok (.iload_n 3, 1) := ax_dec dL_law_q32_ok 8 (1402, .iload_n 3, 1) rfl
theorem dL_law_1403 : decode cL_law 1403 = .ok (.iconst 5, 1) := ax_dec dL_law_q32_ok 9 (1403, .iconst 5, 1) rfl
theorem dL_law_1404 : decode cL_law 1404 = .ok (.iadd, 1) := ax_dec dL_law_q32_ok 10 (1404, .iadd, 1) rfl
theorem dL_law_1405 : decode cL_law 1405 = .ok (.iaload, 1) := ax_dec dL_law_q32_ok 11 (1405, .iaload, 1) rfl
theorem dL_law_1406 : decode cL_law 1406 = .ok (.invokevirtual 144, 3) := ax_dec dL_law_q32_ok 12 (1406, .invokevirtual 144, 3) rfl
theorem dL_law_1409 : decode cL_law 1409 = .ok (.aload_n 2, 1) := ax_dec dL_law_q32_ok 13 (1409, .aload_n 2, 1) rfl
theorem dL_law_1410 : decode cL_law 1410 = .ok (.aload_n 0, 1) := ax_dec dL_law_q32_ok 14 (1410, .aload_n 0, 1) rfl
theorem dL_law_1411 : decode cL_law 1411 = .ok (.iload_n 3, 1) := ax_dec dL_law_q32_ok 15 (1411, .iload_n 3, 1) rfl
theorem dL_law_1412 : decode cL_law 1412 = .ok (.iconst 1, 1) := ax_dec dL_law_q32_ok 16 (1412, .iconst 1, 1) rfl
theorem dL_law_1413 : decode cL_law 1413 = .ok (.iadd, 1) := ax_dec dL_law_q32_ok 17 (1413, .iadd, 1) rfl
theorem dL_law_1414 : decode cL_law 1414 = .ok (.iaload, 1) := ax_dec dL_law_q32_ok 18 (1414, .iaload, 1) rfl
theorem dL_law_1415 : decode cL_law 1415 = .ok (.aload_n 0, 1) := ax_dec dL_law_q32_ok 19 (1415, .aload_n 0, 1) rfl
theorem dL_law_1416 : decode cL_law 1416 = .ok (.iload_n 3, 1) := ax_dec dL_law_q32_ok 20 (1416, .iload_n 3, 1) rfl
theorem dL_law_1417 : decode cL_law 1417 = .ok (.iconst 2, 1) := ax_dec dL_law_q32_ok 21 (1417, .iconst 2, 1) rfl
theorem dL_law_1418 : decode cL_law 1418 = .ok (.iadd, 1) := ax_dec dL_law_q32_ok 22 (1418, .iadd, 1) rfl
theorem dL_law_1419 : decode cL_law 1419 = .ok (.iaload, 1) := ax_dec dL_law_q32_ok 23 (1419, .iaload, 1) rfl
theorem dL_law_1420 : decode cL_law 1420 = .ok (.aload_n 0, 1) := ax_dec dL_law_q32_ok 24 (1420, .aload_n 0, 1) rfl
theorem dL_law_1421 : decode cL_law 1421 = .ok (.iload_n 3, 1) := ax_dec dL_law_q32_ok 25 (1421, .iload_n 3, 1) rfl
theorem dL_law_1422 : decode cL_law 1422 = .ok (.iconst 3, 1) := ax_dec dL_law_q32_ok 26 (1422, .iconst 3, 1) rfl
theorem dL_law_1423 : decode cL_law 1423 = .ok (.iadd, 1) := ax_dec dL_law_q32_ok 27 (1423, .iadd, 1) rfl
theorem dL_law_1424 : decode cL_law 1424 = .ok (.iaload, 1) := ax_dec dL_law_q32_ok 28 (1424, .iaload, 1) rfl
theorem dL_law_1425 : decode cL_law 1425 = .ok (.aload_n 0, 1) := ax_dec dL_law_q32_ok 29 (1425, .aload_n 0, 1) rfl
theorem dL_law_1426 : decode cL_law 1426 = .ok (.iload_n 3, 1) := ax_dec dL_law_q32_ok 30 (1426, .iload_n 3, 1) rfl
theorem dL_law_1427 : decode cL_law 1427 = .ok (.iconst 4, 1) := ax_dec dL_law_q32_ok 31 (1427, .iconst 4, 1) rfl
def dL_law_q33 : List (Nat × (Instr × Nat)) := [(1428, .iadd, 1), (1429, .iaload, 1), (1430, .aload_n 0, 1), (1431, .iload_n 3, 1), (1432, .iconst 5, 1), (1433, .iadd, 1), (1434, .iaload, 1), (1435, .invokevirtual 148, 3), (1438, .lcmp, 1), (1439, .ifCond .eq 266, 3), (1442, .iconst 0, 1), (1443, .ireturn, 1), (1444, .aload_n 1, 1), (1445, .invokevirtual 149, 3), (1448, .aload_n 2, 1), (1449, .invokevirtual 152, 3), (1452, .if_icmp .eq 253, 3), (1455, .iconst 0, 1), (1456, .ireturn, 1), (1457, .aload_n 1, 1), (1458, .invokevirtual 153, 3), (1461, .aload_n 2, 1), (1462, .invokevirtual 156, 3), (1465, .if_icmp .eq 240, 3), (1468, .iconst 0, 1), (1469, .ireturn, 1), (1470, .aload_n 1, 1), (1471, .aload_n 0, 1), (1472, .iload_n 3, 1), (1473, .iconst 1, 1), (1474, .iadd, 1), (1475, .iaload, 1)]
set_option maxRecDepth 100000 in
theorem dL_law_q33_ok : ax_decs cL_law dL_law_q33 = true := by decide +kernel
theorem dL_law_1428 : decode cL_law 1428 = .ok (.iadd, 1) := ax_dec dL_law_q33_ok 0 (1428, .iadd, 1) rfl
theorem dL_law_1429 : decode cL_law 1429 = .ok (.iaload, 1) := ax_dec dL_law_q33_ok 1 (1429, .iaload, 1) rfl
theorem dL_law_1430 : decode cL_law 1430 = .ok (.aload_n 0, 1) := ax_dec dL_law_q33_ok 2 (1430, .aload_n 0, 1) rfl
theorem dL_law_1431 : decode cL_law 1431 = .ok (.iload_n 3, 1) := ax_dec dL_law_q33_ok 3 (1431, .iload_n 3, 1) rfl
theorem dL_law_1432 : decode cL_law 1432 = .ok (.iconst 5, 1) := ax_dec dL_law_q33_ok 4 (1432, .iconst 5, 1) rfl
theorem dL_law_1433 : decode cL_law 1433 = .ok (.iadd, 1) := ax_dec dL_law_q33_ok 5 (1433, .iadd, 1) rfl
theorem dL_law_1434 : decode cL_law 1434 = .ok (.iaload, 1) := ax_dec dL_law_q33_ok 6 (1434, .iaload, 1) rfl
theorem dL_law_1435 : decode cL_law 1435 = .ok (.invokevirtual 148, 3) := ax_dec dL_law_q33_ok 7 (1435, .invokevirtual 148, 3) rfl
theorem dL_law_1438 : decode cL_law 1438 = .ok (.lcmp, 1) := ax_dec dL_law_q33_ok 8 (1438, .lcmp, 1) rfl
theorem dL_law_1439 : decode cL_law 1439 = .ok (.ifCond .eq 266, 3) := ax_dec dL_law_q33_ok 9 (1439, .ifCond .eq 266, 3) rfl
theorem dL_law_1442 : decode cL_law 1442 = .ok (.iconst 0, 1) := ax_dec dL_law_q33_ok 10 (1442, .iconst 0, 1) rfl
theorem dL_law_1443 : decode cL_law 1443 = .ok (.ireturn, 1) := ax_dec dL_law_q33_ok 11 (1443, .ireturn, 1) rfl
theorem dL_law_1444 : decode cL_law 1444 = .ok (.aload_n 1, 1) := ax_dec dL_law_q33_ok 12 (1444, .aload_n 1, 1) rfl
theorem dL_law_1445 : decode cL_law 1445 = .ok (.invokevirtual 149, 3) := ax_dec dL_law_q33_ok 13 (1445, .invokevirtual 149, 3) rfl
theorem dL_law_1448 : decode cL_law 1448 = .ok (.aload_n 2, 1) := ax_dec dL_law_q33_ok 14 (1448, .aload_n 2, 1) rfl
theorem dL_law_1449 : decode cL_law 1449 = .ok (.invokevirtual 152, 3) := ax_dec dL_law_q33_ok 15 (1449, .invokevirtual 152, 3) rfl
theorem dL_law_1452 : decode cL_law 1452 = .ok (.if_icmp .eq 253, 3) := ax_dec dL_law_q33_ok 16 (1452, .if_icmp .eq 253, 3) rfl
theorem dL_law_1455 : decode cL_law 1455 = .ok (.iconst 0, 1) := ax_dec dL_law_q33_ok 17 (1455, .iconst 0, 1) rfl
theorem dL_law_1456 : decode cL_law 1456 = .ok (.ireturn, 1) := ax_dec dL_law_q33_ok 18 (1456, .ireturn, 1) rfl
theorem dL_law_1457 : decode cL_law 1457 = .ok (.aload_n 1, 1) := ax_dec dL_law_q33_ok 19 (1457, .aload_n 1, 1) rfl
theorem dL_law_1458 : decode cL_law 1458 = .ok (.invokevirtual 153, 3) := ax_dec dL_law_q33_ok 20 (1458, .invokevirtual 153, 3) rfl
theorem dL_law_1461 : decode cL_law 1461 = .ok (.aload_n 2, 1) := ax_dec dL_law_q33_ok 21 (1461, .aload_n 2, 1) rfl
theorem dL_law_1462 : decode cL_law 1462 = .ok (.invokevirtual 156, 3) := ax_dec dL_law_q33_ok 22 (1462, .invokevirtual 156, 3) rfl
theorem dL_law_1465 : decode cL_law 1465 = .ok (.if_icmp .eq 240, 3) := ax_dec dL_law_q33_ok 23 (1465, .if_icmp .eq 240, 3) rfl
theorem dL_law_1468 : decode cL_law 1468 = .ok (.iconst 0, 1) := ax_dec dL_law_q33_ok 24 (1468, .iconst 0, 1) rfl
theorem dL_law_1469 : decode cL_law 1469 = .ok (.ireturn, 1) := ax_dec dL_law_q33_ok 25 (1469, .ireturn, 1) rfl
theorem dL_law_1470 : decode cL_law 1470 = .ok (.aload_n 1, 1) := ax_dec dL_law_q33_ok 26 (1470, .aload_n 1, 1) rfl
theorem dL_law_1471 : decode cL_law 1471 = .ok (.aload_n 0, 1) := ax_dec dL_law_q33_ok 27 (1471, .aload_n 0, 1) rfl
theorem dL_law_1472 : decode cL_law 1472 = .ok (.iload_n 3, 1) := ax_dec dL_law_q33_ok 28 (1472, .iload_n 3, 1) rfl
theorem dL_law_1473 : decode cL_law 1473 = .ok (.iconst 1, 1) := ax_dec dL_law_q33_ok 29 (1473, .iconst 1, 1) rfl
theorem dL_law_1474 : decode cL_law 1474 = .ok (.iadd, 1) := ax_dec dL_law_q33_ok 30 (1474, .iadd, 1) rfl
theorem dL_law_1475 : decode cL_law 1475 = .ok (.iaload, 1) := ax_dec dL_law_q33_ok 31 (1475, .iaload, 1) rfl
def dL_law_q34 : List (Nat × (Instr × Nat)) := [(1476, .aload_n 0, 1), (1477, .iload_n 3, 1), (1478, .iconst 2, 1), (1479, .iadd, 1), (1480, .iaload, 1), (1481, .aload_n 0, 1), (1482, .iload_n 3, 1), (1483, .iconst 3, 1), (1484, .iadd, 1), (1485, .iaload, 1), (1486, .invokevirtual 157, 3), (1489, .aload_n 2, 1), (1490, .aload_n 0, 1), (1491, .iload_n 3, 1), (1492, .iconst 1, 1), (1493, .iadd, 1), (1494, .iaload, 1), (1495, .aload_n 0, 1), (1496, .iload_n 3, 1), (1497, .iconst 2, 1), (1498, .iadd, 1), (1499, .iaload, 1), (1500, .aload_n 0, 1), (1501, .iload_n 3, 1), (1502, .iconst 3, 1), (1503, .iadd, 1), (1504, .iaload, 1), (1505, .invokevirtual 160, 3), (1508, .if_icmp .eq 197, 3), (1511, .iconst 0, 1), (1512, .ireturn, 1), (1513, .aload_n 1, 1)]
set_option maxRecDepth 100000 in
theorem dL_law_q34_ok : ax_decs cL_law dL_law_q34 = true := by decide +kernel
theorem dL_law_1476 : decode cL_law 1476 = .ok (.aload_n 0, 1) := ax_dec dL_law_q34_ok 0 (1476, .aload_n 0, 1) rfl
theorem dL_law_1477 : decode cL_law 1477 = .ok (.iload_n 3, 1) := ax_dec dL_law_q34_ok 1 (1477, .iload_n 3, 1) rfl
theorem dL_law_1478 : decode cL_law 1478 = .ok (.iconst 2, 1) := ax_dec dL_law_q34_ok 2 (1478, .iconst 2, 1) rfl
theorem dL_law_1479 : decode cL_law 1479 = .ok (.iadd, 1) := ax_dec dL_law_q34_ok 3 (1479, .iadd, 1) rfl
theorem dL_law_1480 : decode cL_law 1480 = .ok (.iaload, 1) := ax_dec dL_law_q34_ok 4 (1480, .iaload, 1) rfl
theorem dL_law_1481 : decode cL_law 1481 = .ok (.aload_n 0, 1) := ax_dec dL_law_q34_ok 5 (1481, .aload_n 0, 1) rfl
theorem dL_law_1482 : decode cL_law 1482 = .ok (.iload_n 3, 1) := ax_dec dL_law_q34_ok 6 (1482, .iload_n 3, 1) rfl
theorem dL_law_1483 : decode cL_law 1483 = .ok (.iconst 3, 1) := ax_dec dL_law_q34_ok 7 (1483, .iconst 3, 1) rfl
theorem dL_law_1484 : decode cL_law 1484 = .ok (.iadd, 1) := ax_dec dL_law_q34_ok 8 (1484, .iadd, 1) rfl
theorem dL_law_1485 : decode cL_law 1485 = .ok (.iaload, 1) := ax_dec dL_law_q34_ok 9 (1485, .iaload, 1) rfl
theorem dL_law_1486 : decode cL_law 1486 = .ok (.invokevirtual 157, 3) := ax_dec dL_law_q34_ok 10 (1486, .invokevirtual 157, 3) rfl
theorem dL_law_1489 : decode cL_law 1489 = .ok (.aload_n 2, 1) := ax_dec dL_law_q34_ok 11 (1489, .aload_n 2, 1) rfl
theorem dL_law_1490 : decode cL_law 1490 = .ok (.aload_n 0, 1) := ax_dec dL_law_q34_ok 12 (1490, .aload_n 0, 1) rfl
theorem dL_law_1491 : decode cL_law 1491 = .ok (.iload_n 3, 1) := ax_dec dL_law_q34_ok 13 (1491, .iload_n 3, 1) rfl
theorem dL_law_1492 : decode cL_law 1492 = .ok (.iconst 1, 1) := ax_dec dL_law_q34_ok 14 (1492, .iconst 1, 1) rfl
theorem dL_law_1493 : decode cL_law 1493 = .ok (.iadd, 1) := ax_dec dL_law_q34_ok 15 (1493, .iadd, 1) rfl
theorem dL_law_1494 : decode cL_law 1494 = .ok (.iaload, 1) := ax_dec dL_law_q34_ok 16 (1494, .iaload, 1) rfl
theorem dL_law_1495 : decode cL_law 1495 = .ok (.aload_n 0, 1) := ax_dec dL_law_q34_ok 17 (1495, .aload_n 0, 1) rfl
theorem dL_law_1496 : decode cL_law 1496 = .ok (.iload_n 3, 1) := ax_dec dL_law_q34_ok 18 (1496, .iload_n 3, 1) rfl
theorem dL_law_1497 : decode cL_law 1497 = .ok (.iconst 2, 1) := ax_dec dL_law_q34_ok 19 (1497, .iconst 2, 1) rfl
theorem dL_law_1498 : decode cL_law 1498 = .ok (.iadd, 1) := ax_dec dL_law_q34_ok 20 (1498, .iadd, 1) rfl
theorem dL_law_1499 : decode cL_law 1499 = .ok (.iaload, 1) := ax_dec dL_law_q34_ok 21 (1499, .iaload, 1) rfl
theorem dL_law_1500 : decode cL_law 1500 = .ok (.aload_n 0, 1) := ax_dec dL_law_q34_ok 22 (1500, .aload_n 0, 1) rfl
theorem dL_law_1501 : decode cL_law 1501 = .ok (.iload_n 3, 1) := ax_dec dL_law_q34_ok 23 (1501, .iload_n 3, 1) rfl
theorem dL_law_1502 : decode cL_law 1502 = .ok (.iconst 3, 1) := ax_dec dL_law_q34_ok 24 (1502, .iconst 3, 1) rfl
theorem dL_law_1503 : decode cL_law 1503 = .ok (.iadd, 1) := ax_dec dL_law_q34_ok 25 (1503, .iadd, 1) rfl
theorem dL_law_1504 : decode cL_law 1504 = .ok (.iaload, 1) := ax_dec dL_law_q34_ok 26 (1504, .iaload, 1) rfl
theorem dL_law_1505 : decode cL_law 1505 = .ok (.invokevirtual 160, 3) := ax_dec dL_law_q34_ok 27 (1505, .invokevirtual 160, 3) rfl
theorem dL_law_1508 : decode cL_law 1508 = .ok (.if_icmp .eq 197, 3) := ax_dec dL_law_q34_ok 28 (1508, .if_icmp .eq 197, 3) rfl
theorem dL_law_1511 : decode cL_law 1511 = .ok (.iconst 0, 1) := ax_dec dL_law_q34_ok 29 (1511, .iconst 0, 1) rfl
theorem dL_law_1512 : decode cL_law 1512 = .ok (.ireturn, 1) := ax_dec dL_law_q34_ok 30 (1512, .ireturn, 1) rfl
theorem dL_law_1513 : decode cL_law 1513 = .ok (.aload_n 1, 1) := ax_dec dL_law_q34_ok 31 (1513, .aload_n 1, 1) rfl
def dL_law_q35 : List (Nat × (Instr × Nat)) := [(1514, .aload_n 0, 1), (1515, .iload_n 3, 1), (1516, .iconst 1, 1), (1517, .iadd, 1), (1518, .iaload, 1), (1519, .aload_n 0, 1), (1520, .iload_n 3, 1), (1521, .iconst 2, 1), (1522, .iadd, 1), (1523, .iaload, 1), (1524, .aload_n 0, 1), (1525, .iload_n 3, 1), (1526, .iconst 3, 1), (1527, .iadd, 1), (1528, .iaload, 1), (1529, .invokevirtual 161, 3), (1532, .aload_n 2, 1), (1533, .aload_n 0, 1), (1534, .iload_n 3, 1), (1535, .iconst 1, 1), (1536, .iadd, 1), (1537, .iaload, 1), (1538, .aload_n 0, 1), (1539, .iload_n 3, 1), (1540, .iconst 2, 1), (1541, .iadd, 1), (1542, .iaload, 1), (1543, .aload_n 0, 1), (1544, .iload_n 3, 1), (1545, .iconst 3, 1), (1546, .iadd, 1), (1547, .iaload, 1)]
set_option maxRecDepth 100000 in
theorem dL_law_q35_ok : ax_decs cL_law dL_law_q35 = true := by decide +kernel
theorem dL_law_1514 : decode cL_law 1514 = .ok (.aload_n 0, 1) := ax_dec dL_law_q35_ok 0 (1514, .aload_n 0, 1) rfl
theorem dL_law_1515 : decode cL_law 1515 = .ok (.iload_n 3, 1) := ax_dec dL_law_q35_ok 1 (1515, .iload_n 3, 1) rfl
theorem dL_law_1516 : decode cL_law 1516 = .ok (.iconst 1, 1) := ax_dec dL_law_q35_ok 2 (1516, .iconst 1, 1) rfl
theorem dL_law_1517 : decode cL_law 1517 = .ok (.iadd, 1) := ax_dec dL_law_q35_ok 3 (1517, .iadd, 1) rfl
theorem dL_law_1518 : decode cL_law 1518 = .ok (.iaload, 1) := ax_dec dL_law_q35_ok 4 (1518, .iaload, 1) rfl
theorem dL_law_1519 : decode cL_law 1519 = .ok (.aload_n 0, 1) := ax_dec dL_law_q35_ok 5 (1519, .aload_n 0, 1) rfl
theorem dL_law_1520 : decode cL_law 1520 = .ok (.iload_n 3, 1) := ax_dec dL_law_q35_ok 6 (1520, .iload_n 3, 1) rfl
theorem dL_law_1521 : decode cL_law 1521 = .ok (.iconst 2, 1) := ax_dec dL_law_q35_ok 7 (1521, .iconst 2, 1) rfl
theorem dL_law_1522 : decode cL_law 1522 = .ok (.iadd, 1) := ax_dec dL_law_q35_ok 8 (1522, .iadd, 1) rfl
theorem dL_law_1523 : decode cL_law 1523 = .ok (.iaload, 1) := ax_dec dL_law_q35_ok 9 (1523, .iaload, 1) rfl
theorem dL_law_1524 : decode cL_law 1524 = .ok (.aload_n 0, 1) := ax_dec dL_law_q35_ok 10 (1524, .aload_n 0, 1) rfl
theorem dL_law_1525 : decode cL_law 1525 = .ok (.iload_n 3, 1) := ax_dec dL_law_q35_ok 11 (1525, .iload_n 3, 1) rfl
theorem dL_law_1526 : decode cL_law 1526 = .ok (.iconst 3, 1) := ax_dec dL_law_q35_ok 12 (1526, .iconst 3, 1) rfl
theorem dL_law_1527 : decode cL_law 1527 = .ok (.iadd, 1) := ax_dec dL_law_q35_ok 13 (1527, .iadd, 1) rfl
theorem dL_law_1528 : decode cL_law 1528 = .ok (.iaload, 1) := ax_dec dL_law_q35_ok 14 (1528, .iaload, 1) rfl
theorem dL_law_1529 : decode cL_law 1529 = .ok (.invokevirtual 161, 3) := ax_dec dL_law_q35_ok 15 (1529, .invokevirtual 161, 3) rfl
theorem dL_law_1532 : decode cL_law 1532 = .ok (.aload_n 2, 1) := ax_dec dL_law_q35_ok 16 (1532, .aload_n 2, 1) rfl
theorem dL_law_1533 : decode cL_law 1533 = .ok (.aload_n 0, 1) := ax_dec dL_law_q35_ok 17 (1533, .aload_n 0, 1) rfl
theorem dL_law_1534 : decode cL_law 1534 = .ok (.iload_n 3, 1) := ax_dec dL_law_q35_ok 18 (1534, .iload_n 3, 1) rfl
theorem dL_law_1535 : decode cL_law 1535 = .ok (.iconst 1, 1) := ax_dec dL_law_q35_ok 19 (1535, .iconst 1, 1) rfl
theorem dL_law_1536 : decode cL_law 1536 = .ok (.iadd, 1) := ax_dec dL_law_q35_ok 20 (1536, .iadd, 1) rfl
theorem dL_law_1537 : decode cL_law 1537 = .ok (.iaload, 1) := ax_dec dL_law_q35_ok 21 (1537, .iaload, 1) rfl
theorem dL_law_1538 : decode cL_law 1538 = .ok (.aload_n 0, 1) := ax_dec dL_law_q35_ok 22 (1538, .aload_n 0, 1) rfl
theorem dL_law_1539 : decode cL_law 1539 = .ok (.iload_n 3, 1) := ax_dec dL_law_q35_ok 23 (1539, .iload_n 3, 1) rfl
theorem dL_law_1540 : decode cL_law 1540 = .ok (.iconst 2, 1) := ax_dec dL_law_q35_ok 24 (1540, .iconst 2, 1) rfl
theorem dL_law_1541 : decode cL_law 1541 = .ok (.iadd, 1) := ax_dec dL_law_q35_ok 25 (1541, .iadd, 1) rfl
theorem dL_law_1542 : decode cL_law 1542 = .ok (.iaload, 1) := ax_dec dL_law_q35_ok 26 (1542, .iaload, 1) rfl
theorem dL_law_1543 : decode cL_law 1543 = .ok (.aload_n 0, 1) := ax_dec dL_law_q35_ok 27 (1543, .aload_n 0, 1) rfl
theorem dL_law_1544 : decode cL_law 1544 = .ok (.iload_n 3, 1) := ax_dec dL_law_q35_ok 28 (1544, .iload_n 3, 1) rfl
theorem dL_law_1545 : decode cL_law 1545 = .ok (.iconst 3, 1) := ax_dec dL_law_q35_ok 29 (1545, .iconst 3, 1) rfl
theorem dL_law_1546 : decode cL_law 1546 = .ok (.iadd, 1) := ax_dec dL_law_q35_ok 30 (1546, .iadd, 1) rfl
theorem dL_law_1547 : decode cL_law 1547 = .ok (.iaload, 1) := ax_dec dL_law_q35_ok 31 (1547, .iaload, 1) rfl
def dL_law_q36 : List (Nat × (Instr × Nat)) := [(1548, .invokevirtual 164, 3), (1551, .if_icmp .eq 154, 3), (1554, .iconst 0, 1), (1555, .ireturn, 1), (1556, .aload_n 1, 1), (1557, .aload_n 0, 1), (1558, .iload_n 3, 1), (1559, .iconst 1, 1), (1560, .iadd, 1), (1561, .iaload, 1), (1562, .aload_n 0, 1), (1563, .iload_n 3, 1), (1564, .iconst 2, 1), (1565, .iadd, 1), (1566, .iaload, 1), (1567, .aload_n 0, 1), (1568, .iload_n 3, 1), (1569, .iconst 3, 1), (1570, .iadd, 1), (1571, .iaload, 1), (1572, .aload_n 0, 1), (1573, .iload_n 3, 1), (1574, .iconst 4, 1), (1575, .iadd, 1), (1576, .iaload, 1), (1577, .aload_n 0, 1), (1578, .iload_n 3, 1), (1579, .iconst 5, 1), (1580, .iadd, 1), (1581, .iaload, 1), (1582, .invokevirtual 165, 3), (1585, .aload_n 2, 1)]
set_option maxRecDepth 100000 in
theorem dL_law_q36_ok : ax_decs cL_law dL_law_q36 = true := by decide +kernel
theorem dL_law_1548 : decode cL_law 1548 = .ok (.invokevirtual 164, 3) := ax_dec dL_law_q36_ok 0 (1548, .invokevirtual 164, 3) rfl
theorem dL_law_1551 : decode cL_law 1551 = .ok (.if_icmp .eq 154, 3) := ax_dec dL_law_q36_ok 1 (1551, .if_icmp .eq 154, 3) rfl
theorem dL_law_1554 : decode cL_law 1554 = .ok (.iconst 0, 1) := ax_dec dL_law_q36_ok 2 (1554, .iconst 0, 1) rfl
theorem dL_law_1555 : decode cL_law 1555 = .ok (.ireturn, 1) := ax_dec dL_law_q36_ok 3 (1555, .ireturn, 1) rfl
theorem dL_law_1556 : decode cL_law 1556 = .ok (.aload_n 1, 1) := ax_dec dL_law_q36_ok 4 (1556, .aload_n 1, 1) rfl
theorem dL_law_1557 : decode cL_law 1557 = .ok (.aload_n 0, 1) := ax_dec dL_law_q36_ok 5 (1557, .aload_n 0, 1) rfl
theorem dL_law_1558 : decode cL_law 1558 = .ok (.iload_n 3, 1) := ax_dec dL_law_q36_ok 6 (1558, .iload_n 3, 1) rfl
theorem dL_law_1559 : decode cL_law 1559 = .ok (.iconst 1, 1) := ax_dec dL_law_q36_ok 7 (1559, .iconst 1, 1) rfl
theorem dL_law_1560 : decode cL_law 1560 = .ok (.iadd, 1) := ax_dec dL_law_q36_ok 8 (1560, .iadd, 1) rfl
theorem dL_law_1561 : decode cL_law 1561 = .ok (.iaload, 1) := ax_dec dL_law_q36_ok 9 (1561, .iaload, 1) rfl
theorem dL_law_1562 : decode cL_law 1562 = .ok (.aload_n 0, 1) := ax_dec dL_law_q36_ok 10 (1562, .aload_n 0, 1) rfl
theorem dL_law_1563 : decode cL_law 1563 = .ok (.iload_n 3, 1) := ax_dec dL_law_q36_ok 11 (1563, .iload_n 3, 1) rfl
theorem dL_law_1564 : decode cL_law 1564 = .ok (.iconst 2, 1) := ax_dec dL_law_q36_ok 12 (1564, .iconst 2, 1) rfl
theorem dL_law_1565 : decode cL_law 1565 = .ok (.iadd, 1) := ax_dec dL_law_q36_ok 13 (1565, .iadd, 1) rfl
theorem dL_law_1566 : decode cL_law 1566 = .ok (.iaload, 1) := ax_dec dL_law_q36_ok 14 (1566, .iaload, 1) rfl
theorem dL_law_1567 : decode cL_law 1567 = .ok (.aload_n 0, 1) := ax_dec dL_law_q36_ok 15 (1567, .aload_n 0, 1) rfl
theorem dL_law_1568 : decode cL_law 1568 = .ok (.iload_n 3, 1) := ax_dec dL_law_q36_ok 16 (1568, .iload_n 3, 1) rfl
theorem dL_law_1569 : decode cL_law 1569 = .ok (.iconst 3, 1) := ax_dec dL_law_q36_ok 17 (1569, .iconst 3, 1) rfl
theorem dL_law_1570 : decode cL_law 1570 = .ok (.iadd, 1) := ax_dec dL_law_q36_ok 18 (1570, .iadd, 1) rfl
theorem dL_law_1571 : decode cL_law 1571 = .ok (.iaload, 1) := ax_dec dL_law_q36_ok 19 (1571, .iaload, 1) rfl
theorem dL_law_1572 : decode cL_law 1572 = .ok (.aload_n 0, 1) := ax_dec dL_law_q36_ok 20 (1572, .aload_n 0, 1) rfl
theorem dL_law_1573 : decode cL_law 1573 = .ok (.iload_n 3, 1) := ax_dec dL_law_q36_ok 21 (1573, .iload_n 3, 1) rfl
theorem dL_law_1574 : decode cL_law 1574 = .ok (.iconst 4, 1) := ax_dec dL_law_q36_ok 22 (1574, .iconst 4, 1) rfl
theorem dL_law_1575 : decode cL_law 1575 = .ok (.iadd, 1) := ax_dec dL_law_q36_ok 23 (1575, .iadd, 1) rfl
theorem dL_law_1576 : decode cL_law 1576 = .ok (.iaload, 1) := ax_dec dL_law_q36_ok 24 (1576, .iaload, 1) rfl
theorem dL_law_1577 : decode cL_law 1577 = .ok (.aload_n 0, 1) := ax_dec dL_law_q36_ok 25 (1577, .aload_n 0, 1) rfl
theorem dL_law_1578 : decode cL_law 1578 = .ok (.iload_n 3, 1) := ax_dec dL_law_q36_ok 26 (1578, .iload_n 3, 1) rfl
theorem dL_law_1579 : decode cL_law 1579 = .ok (.iconst 5, 1) := ax_dec dL_law_q36_ok 27 (1579, .iconst 5, 1) rfl
theorem dL_law_1580 : decode cL_law 1580 = .ok (.iadd, 1) := ax_dec dL_law_q36_ok 28 (1580, .iadd, 1) rfl
theorem dL_law_1581 : decode cL_law 1581 = .ok (.iaload, 1) := ax_dec dL_law_q36_ok 29 (1581, .iaload, 1) rfl
theorem dL_law_1582 : decode cL_law 1582 = .ok (.invokevirtual 165, 3) := ax_dec dL_law_q36_ok 30 (1582, .invokevirtual 165, 3) rfl
theorem dL_law_1585 : decode cL_law 1585 = .ok (.aload_n 2, 1) := ax_dec dL_law_q36_ok 31 (1585, .aload_n 2, 1) rfl
def dL_law_q37 : List (Nat × (Instr × Nat)) := [(1586, .aload_n 0, 1), (1587, .iload_n 3, 1), (1588, .iconst 1, 1), (1589, .iadd, 1), (1590, .iaload, 1), (1591, .aload_n 0, 1), (1592, .iload_n 3, 1), (1593, .iconst 2, 1), (1594, .iadd, 1), (1595, .iaload, 1), (1596, .aload_n 0, 1), (1597, .iload_n 3, 1), (1598, .iconst 3, 1), (1599, .iadd, 1), (1600, .iaload, 1), (1601, .aload_n 0, 1), (1602, .iload_n 3, 1), (1603, .iconst 4, 1), (1604, .iadd, 1), (1605, .iaload, 1), (1606, .aload_n 0, 1), (1607, .iload_n 3, 1), (1608, .iconst 5, 1), (1609, .iadd, 1), (1610, .iaload, 1), (1611, .invokevirtual 169, 3), (1614, .if_icmp .eq 91, 3), (1617, .iconst 0, 1), (1618, .ireturn, 1), (1619, .aload_n 1, 1), (1620, .aload_n 0, 1), (1621, .iload_n 3, 1)]
set_option maxRecDepth 100000 in
theorem dL_law_q37_ok : ax_decs cL_law dL_law_q37 = true := by decide +kernel
theorem dL_law_1586 : decode cL_law 1586 = .ok (.aload_n 0, 1) := ax_dec dL_law_q37_ok 0 (1586, .aload_n 0, 1) rfl
theorem dL_law_1587 : decode cL_law 1587 = .ok (.iload_n 3, 1) := ax_dec dL_law_q37_ok 1 (1587, .iload_n 3, 1) rfl
theorem dL_law_1588 : decode cL_law 1588 = .ok (.iconst 1, 1) := ax_dec dL_law_q37_ok 2 (1588, .iconst 1, 1) rfl
theorem dL_law_1589 : decode cL_law 1589 = .ok (.iadd, 1) := ax_dec dL_law_q37_ok 3 (1589, .iadd, 1) rfl
theorem dL_law_1590 : decode cL_law 1590 = .ok (.iaload, 1) := ax_dec dL_law_q37_ok 4 (1590, .iaload, 1) rfl
theorem dL_law_1591 : decode cL_law 1591 = .ok (.aload_n 0, 1) := ax_dec dL_law_q37_ok 5 (1591, .aload_n 0, 1) rfl
theorem dL_law_1592 : decode cL_law 1592 = .ok (.iload_n 3, 1) := ax_dec dL_law_q37_ok 6 (1592, .iload_n 3, 1) rfl
theorem dL_law_1593 : decode cL_law 1593 = .ok (.iconst 2, 1) := ax_dec dL_law_q37_ok 7 (1593, .iconst 2, 1) rfl
theorem dL_law_1594 : decode cL_law 1594 = .ok (.iadd, 1) := ax_dec dL_law_q37_ok 8 (1594, .iadd, 1) rfl
theorem dL_law_1595 : decode cL_law 1595 = .ok (.iaload, 1) := ax_dec dL_law_q37_ok 9 (1595, .iaload, 1) rfl
theorem dL_law_1596 : decode cL_law 1596 = .ok (.aload_n 0, 1) := ax_dec dL_law_q37_ok 10 (1596, .aload_n 0, 1) rfl
theorem dL_law_1597 : decode cL_law 1597 = .ok (.iload_n 3, 1) := ax_dec dL_law_q37_ok 11 (1597, .iload_n 3, 1) rfl
theorem dL_law_1598 : decode cL_law 1598 = .ok (.iconst 3, 1) := ax_dec dL_law_q37_ok 12 (1598, .iconst 3, 1) rfl
theorem dL_law_1599 : decode cL_law 1599 = .ok (.iadd, 1) := ax_dec dL_law_q37_ok 13 (1599, .iadd, 1) rfl
theorem dL_law_1600 : decode cL_law 1600 = .ok (.iaload, 1) := ax_dec dL_law_q37_ok 14 (1600, .iaload, 1) rfl
theorem dL_law_1601 : decode cL_law 1601 = .ok (.aload_n 0, 1) := ax_dec dL_law_q37_ok 15 (1601, .aload_n 0, 1) rfl
theorem dL_law_1602 : decode cL_law 1602 = .ok (.iload_n 3, 1) := ax_dec dL_law_q37_ok 16 (1602, .iload_n 3, 1) rfl
theorem dL_law_1603 : decode cL_law 1603 = .ok (.iconst 4, 1) := ax_dec dL_law_q37_ok 17 (1603, .iconst 4, 1) rfl
theorem dL_law_1604 : decode cL_law 1604 = .ok (.iadd, 1) := ax_dec dL_law_q37_ok 18 (1604, .iadd, 1) rfl
theorem dL_law_1605 : decode cL_law 1605 = .ok (.iaload, 1) := ax_dec dL_law_q37_ok 19 (1605, .iaload, 1) rfl
theorem dL_law_1606 : decode cL_law 1606 = .ok (.aload_n 0, 1) := ax_dec dL_law_q37_ok 20 (1606, .aload_n 0, 1) rfl
theorem dL_law_1607 : decode cL_law 1607 = .ok (.iload_n 3, 1) := ax_dec dL_law_q37_ok 21 (1607, .iload_n 3, 1) rfl
theorem dL_law_1608 : decode cL_law 1608 = .ok (.iconst 5, 1) := ax_dec dL_law_q37_ok 22 (1608, .iconst 5, 1) rfl
theorem dL_law_1609 : decode cL_law 1609 = .ok (.iadd, 1) := ax_dec dL_law_q37_ok 23 (1609, .iadd, 1) rfl
theorem dL_law_1610 : decode cL_law 1610 = .ok (.iaload, 1) := ax_dec dL_law_q37_ok 24 (1610, .iaload, 1) rfl
theorem dL_law_1611 : decode cL_law 1611 = .ok (.invokevirtual 169, 3) := ax_dec dL_law_q37_ok 25 (1611, .invokevirtual 169, 3) rfl
theorem dL_law_1614 : decode cL_law 1614 = .ok (.if_icmp .eq 91, 3) := ax_dec dL_law_q37_ok 26 (1614, .if_icmp .eq 91, 3) rfl
theorem dL_law_1617 : decode cL_law 1617 = .ok (.iconst 0, 1) := ax_dec dL_law_q37_ok 27 (1617, .iconst 0, 1) rfl
theorem dL_law_1618 : decode cL_law 1618 = .ok (.ireturn, 1) := ax_dec dL_law_q37_ok 28 (1618, .ireturn, 1) rfl
theorem dL_law_1619 : decode cL_law 1619 = .ok (.aload_n 1, 1) := ax_dec dL_law_q37_ok 29 (1619, .aload_n 1, 1) rfl
theorem dL_law_1620 : decode cL_law 1620 = .ok (.aload_n 0, 1) := ax_dec dL_law_q37_ok 30 (1620, .aload_n 0, 1) rfl
theorem dL_law_1621 : decode cL_law 1621 = .ok (.iload_n 3, 1) := ax_dec dL_law_q37_ok 31 (1621, .iload_n 3, 1) rfl
def dL_law_q38 : List (Nat × (Instr × Nat)) := [(1622, .iconst 1, 1), (1623, .iadd, 1), (1624, .iaload, 1), (1625, .aload_n 0, 1), (1626, .iload_n 3, 1), (1627, .iconst 2, 1), (1628, .iadd, 1), (1629, .iaload, 1), (1630, .aload_n 0, 1), (1631, .iload_n 3, 1), (1632, .iconst 3, 1), (1633, .iadd, 1), (1634, .iaload, 1), (1635, .aload_n 0, 1), (1636, .iload_n 3, 1), (1637, .iconst 4, 1), (1638, .iadd, 1), (1639, .iaload, 1), (1640, .invokevirtual 170, 3), (1643, .aload_n 2, 1), (1644, .aload_n 0, 1), (1645, .iload_n 3, 1), (1646, .iconst 1, 1), (1647, .iadd, 1), (1648, .iaload, 1), (1649, .aload_n 0, 1), (1650, .iload_n 3, 1), (1651, .iconst 2, 1), (1652, .iadd, 1), (1653, .iaload, 1), (1654, .aload_n 0, 1), (1655, .iload_n 3, 1)]
set_option maxRecDepth 100000 in
theorem dL_law_q38_ok : ax_decs cL_law dL_law_q38 = true := by decide +kernel
theorem dL_law_1622 : decode cL_law 1622 = .ok (.iconst 1, 1) := ax_dec dL_law_q38_ok 0 (1622, .iconst 1, 1) rfl
theorem dL_law_1623 : decode cL_law 1623 = .ok (.iadd, 1) := ax_dec dL_law_q38_ok 1 (1623, .iadd, 1) rfl
theorem dL_law_1624 : decode cL_law 1624 = .ok (.iaload, 1) := ax_dec dL_law_q38_ok 2 (1624, .iaload, 1) rfl
theorem dL_law_1625 : decode cL_law 1625 = .ok (.aload_n 0, 1) := ax_dec dL_law_q38_ok 3 (1625, .aload_n 0, 1) rfl
theorem dL_law_1626 : decode cL_law 1626 = .ok (.iload_n 3, 1) := ax_dec dL_law_q38_ok 4 (1626, .iload_n 3, 1) rfl
theorem dL_law_1627 : decode cL_law 1627 = .ok (.iconst 2, 1) := ax_dec dL_law_q38_ok 5 (1627, .iconst 2, 1) rfl
theorem dL_law_1628 : decode cL_law 1628 = .ok (.iadd, 1) := ax_dec dL_law_q38_ok 6 (1628, .iadd, 1) rfl
theorem dL_law_1629 : decode cL_law 1629 = .ok (.iaload, 1) := ax_dec dL_law_q38_ok 7 (1629, .iaload, 1) rfl
theorem dL_law_1630 : decode cL_law 1630 = .ok (.aload_n 0, 1) := ax_dec dL_law_q38_ok 8 (1630, .aload_n 0, 1) rfl
theorem dL_law_1631 : decode cL_law 1631 = .ok (.iload_n 3, 1) := ax_dec dL_law_q38_ok 9 (1631, .iload_n 3, 1) rfl
theorem dL_law_1632 : decode cL_law 1632 = .ok (.iconst 3, 1) := ax_dec dL_law_q38_ok 10 (1632, .iconst 3, 1) rfl
theorem dL_law_1633 : decode cL_law 1633 = .ok (.iadd, 1) := ax_dec dL_law_q38_ok 11 (1633, .iadd, 1) rfl
theorem dL_law_1634 : decode cL_law 1634 = .ok (.iaload, 1) := ax_dec dL_law_q38_ok 12 (1634, .iaload, 1) rfl
theorem dL_law_1635 : decode cL_law 1635 = .ok (.aload_n 0, 1) := ax_dec dL_law_q38_ok 13 (1635, .aload_n 0, 1) rfl
theorem dL_law_1636 : decode cL_law 1636 = .ok (.iload_n 3, 1) := ax_dec dL_law_q38_ok 14 (1636, .iload_n 3, 1) rfl
theorem dL_law_1637 : decode cL_law 1637 = .ok (.iconst 4, 1) := ax_dec dL_law_q38_ok 15 (1637, .iconst 4, 1) rfl
theorem dL_law_1638 : decode cL_law 1638 = .ok (.iadd, 1) := ax_dec dL_law_q38_ok 16 (1638, .iadd, 1) rfl
theorem dL_law_1639 : decode cL_law 1639 = .ok (.iaload, 1) := ax_dec dL_law_q38_ok 17 (1639, .iaload, 1) rfl
theorem dL_law_1640 : decode cL_law 1640 = .ok (.invokevirtual 170, 3) := ax_dec dL_law_q38_ok 18 (1640, .invokevirtual 170, 3) rfl
theorem dL_law_1643 : decode cL_law 1643 = .ok (.aload_n 2, 1) := ax_dec dL_law_q38_ok 19 (1643, .aload_n 2, 1) rfl
theorem dL_law_1644 : decode cL_law 1644 = .ok (.aload_n 0, 1) := ax_dec dL_law_q38_ok 20 (1644, .aload_n 0, 1) rfl
theorem dL_law_1645 : decode cL_law 1645 = .ok (.iload_n 3, 1) := ax_dec dL_law_q38_ok 21 (1645, .iload_n 3, 1) rfl
theorem dL_law_1646 : decode cL_law 1646 = .ok (.iconst 1, 1) := ax_dec dL_law_q38_ok 22 (1646, .iconst 1, 1) rfl
theorem dL_law_1647 : decode cL_law 1647 = .ok (.iadd, 1) := ax_dec dL_law_q38_ok 23 (1647, .iadd, 1) rfl
theorem dL_law_1648 : decode cL_law 1648 = .ok (.iaload, 1) := ax_dec dL_law_q38_ok 24 (1648, .iaload, 1) rfl
theorem dL_law_1649 : decode cL_law 1649 = .ok (.aload_n 0, 1) := ax_dec dL_law_q38_ok 25 (1649, .aload_n 0, 1) rfl
theorem dL_law_1650 : decode cL_law 1650 = .ok (.iload_n 3, 1) := ax_dec dL_law_q38_ok 26 (1650, .iload_n 3, 1) rfl
theorem dL_law_1651 : decode cL_law 1651 = .ok (.iconst 2, 1) := ax_dec dL_law_q38_ok 27 (1651, .iconst 2, 1) rfl
theorem dL_law_1652 : decode cL_law 1652 = .ok (.iadd, 1) := ax_dec dL_law_q38_ok 28 (1652, .iadd, 1) rfl
theorem dL_law_1653 : decode cL_law 1653 = .ok (.iaload, 1) := ax_dec dL_law_q38_ok 29 (1653, .iaload, 1) rfl
theorem dL_law_1654 : decode cL_law 1654 = .ok (.aload_n 0, 1) := ax_dec dL_law_q38_ok 30 (1654, .aload_n 0, 1) rfl
theorem dL_law_1655 : decode cL_law 1655 = .ok (.iload_n 3, 1) := ax_dec dL_law_q38_ok 31 (1655, .iload_n 3, 1) rfl
def dL_law_q39 : List (Nat × (Instr × Nat)) := [(1656, .iconst 3, 1), (1657, .iadd, 1), (1658, .iaload, 1), (1659, .aload_n 0, 1), (1660, .iload_n 3, 1), (1661, .iconst 4, 1), (1662, .iadd, 1), (1663, .iaload, 1), (1664, .invokevirtual 173, 3), (1667, .if_icmp .eq 38, 3), (1670, .iconst 0, 1), (1671, .ireturn, 1), (1672, .aload_n 1, 1), (1673, .aload_n 0, 1), (1674, .iload_n 3, 1), (1675, .iconst 1, 1), (1676, .iadd, 1), (1677, .iaload, 1), (1678, .aload_n 0, 1), (1679, .iload_n 3, 1), (1680, .iconst 2, 1), (1681, .iadd, 1), (1682, .iaload, 1), (1683, .invokevirtual 174, 3), (1686, .aload_n 2, 1), (1687, .aload_n 0, 1), (1688, .iload_n 3, 1), (1689, .iconst 1, 1), (1690, .iadd, 1), (1691, .iaload, 1), (1692, .aload_n 0, 1), (1693, .iload_n 3, 1)]
set_option maxRecDepth 100000 in
theorem dL_law_q39_ok : ax_decs cL_law dL_law_q39 = true := by decide +kernel
theorem dL_law_1656 : decode cL_law 1656 = .ok (.iconst 3, 1) := ax_dec dL_law_q39_ok 0 (1656, .iconst 3, 1) rfl
theorem dL_law_1657 : decode cL_law 1657 = .ok (.iadd, 1) := ax_dec dL_law_q39_ok 1 (1657, .iadd, 1) rfl
theorem dL_law_1658 : decode cL_law 1658 = .ok (.iaload, 1) := ax_dec dL_law_q39_ok 2 (1658, .iaload, 1) rfl
theorem dL_law_1659 : decode cL_law 1659 = .ok (.aload_n 0, 1) := ax_dec dL_law_q39_ok 3 (1659, .aload_n 0, 1) rfl
theorem dL_law_1660 : decode cL_law 1660 = .ok (.iload_n 3, 1) := ax_dec dL_law_q39_ok 4 (1660, .iload_n 3, 1) rfl
theorem dL_law_1661 : decode cL_law 1661 = .ok (.iconst 4, 1) := ax_dec dL_law_q39_ok 5 (1661, .iconst 4, 1) rfl
theorem dL_law_1662 : decode cL_law 1662 = .ok (.iadd, 1) := ax_dec dL_law_q39_ok 6 (1662, .iadd, 1) rfl
theorem dL_law_1663 : decode cL_law 1663 = .ok (.iaload, 1) := ax_dec dL_law_q39_ok 7 (1663, .iaload, 1) rfl
theorem dL_law_1664 : decode cL_law 1664 = .ok (.invokevirtual 173, 3) := ax_dec dL_law_q39_ok 8 (1664, .invokevirtual 173, 3) rfl
theorem dL_law_1667 : decode cL_law 1667 = .ok (.if_icmp .eq 38, 3) := ax_dec dL_law_q39_ok 9 (1667, .if_icmp .eq 38, 3) rfl
theorem dL_law_1670 : decode cL_law 1670 = .ok (.iconst 0, 1) := ax_dec dL_law_q39_ok 10 (1670, .iconst 0, 1) rfl
theorem dL_law_1671 : decode cL_law 1671 = .ok (.ireturn, 1) := ax_dec dL_law_q39_ok 11 (1671, .ireturn, 1) rfl
theorem dL_law_1672 : decode cL_law 1672 = .ok (.aload_n 1, 1) := ax_dec dL_law_q39_ok 12 (1672, .aload_n 1, 1) rfl
theorem dL_law_1673 : decode cL_law 1673 = .ok (.aload_n 0, 1) := ax_dec dL_law_q39_ok 13 (1673, .aload_n 0, 1) rfl
theorem dL_law_1674 : decode cL_law 1674 = .ok (.iload_n 3, 1) := ax_dec dL_law_q39_ok 14 (1674, .iload_n 3, 1) rfl
theorem dL_law_1675 : decode cL_law 1675 = .ok (.iconst 1, 1) := ax_dec dL_law_q39_ok 15 (1675, .iconst 1, 1) rfl
theorem dL_law_1676 : decode cL_law 1676 = .ok (.iadd, 1) := ax_dec dL_law_q39_ok 16 (1676, .iadd, 1) rfl
theorem dL_law_1677 : decode cL_law 1677 = .ok (.iaload, 1) := ax_dec dL_law_q39_ok 17 (1677, .iaload, 1) rfl
theorem dL_law_1678 : decode cL_law 1678 = .ok (.aload_n 0, 1) := ax_dec dL_law_q39_ok 18 (1678, .aload_n 0, 1) rfl
theorem dL_law_1679 : decode cL_law 1679 = .ok (.iload_n 3, 1) := ax_dec dL_law_q39_ok 19 (1679, .iload_n 3, 1) rfl
theorem dL_law_1680 : decode cL_law 1680 = .ok (.iconst 2, 1) := ax_dec dL_law_q39_ok 20 (1680, .iconst 2, 1) rfl
theorem dL_law_1681 : decode cL_law 1681 = .ok (.iadd, 1) := ax_dec dL_law_q39_ok 21 (1681, .iadd, 1) rfl
theorem dL_law_1682 : decode cL_law 1682 = .ok (.iaload, 1) := ax_dec dL_law_q39_ok 22 (1682, .iaload, 1) rfl
theorem dL_law_1683 : decode cL_law 1683 = .ok (.invokevirtual 174, 3) := ax_dec dL_law_q39_ok 23 (1683, .invokevirtual 174, 3) rfl
theorem dL_law_1686 : decode cL_law 1686 = .ok (.aload_n 2, 1) := ax_dec dL_law_q39_ok 24 (1686, .aload_n 2, 1) rfl
theorem dL_law_1687 : decode cL_law 1687 = .ok (.aload_n 0, 1) := ax_dec dL_law_q39_ok 25 (1687, .aload_n 0, 1) rfl
theorem dL_law_1688 : decode cL_law 1688 = .ok (.iload_n 3, 1) := ax_dec dL_law_q39_ok 26 (1688, .iload_n 3, 1) rfl
theorem dL_law_1689 : decode cL_law 1689 = .ok (.iconst 1, 1) := ax_dec dL_law_q39_ok 27 (1689, .iconst 1, 1) rfl
theorem dL_law_1690 : decode cL_law 1690 = .ok (.iadd, 1) := ax_dec dL_law_q39_ok 28 (1690, .iadd, 1) rfl
theorem dL_law_1691 : decode cL_law 1691 = .ok (.iaload, 1) := ax_dec dL_law_q39_ok 29 (1691, .iaload, 1) rfl
theorem dL_law_1692 : decode cL_law 1692 = .ok (.aload_n 0, 1) := ax_dec dL_law_q39_ok 30 (1692, .aload_n 0, 1) rfl
theorem dL_law_1693 : decode cL_law 1693 = .ok (.iload_n 3, 1) := ax_dec dL_law_q39_ok 31 (1693, .iload_n 3, 1) rfl
def dL_law_q40 : List (Nat × (Instr × Nat)) := [(1694, .iconst 2, 1), (1695, .iadd, 1), (1696, .iaload, 1), (1697, .invokevirtual 177, 3), (1700, .if_icmp .eq 5, 3), (1703, .iconst 0, 1), (1704, .ireturn, 1), (1705, .iinc 3 7, 3), (1708, .goto (-1690), 3), (1711, .iconst 1, 1), (1712, .ireturn, 1)]
set_option maxRecDepth 100000 in
theorem dL_law_q40_ok : ax_decs cL_law dL_law_q40 = true := by decide +kernel
theorem dL_law_1694 : decode cL_law 1694 = .ok (.iconst 2, 1) := ax_dec dL_law_q40_ok 0 (1694, .iconst 2, 1) rfl
theorem dL_law_1695 : decode cL_law 1695 = .ok (.iadd, 1) := ax_dec dL_law_q40_ok 1 (1695, .iadd, 1) rfl
theorem dL_law_1696 : decode cL_law 1696 = .ok (.iaload, 1) := ax_dec dL_law_q40_ok 2 (1696, .iaload, 1) rfl
theorem dL_law_1697 : decode cL_law 1697 = .ok (.invokevirtual 177, 3) := ax_dec dL_law_q40_ok 3 (1697, .invokevirtual 177, 3) rfl
theorem dL_law_1700 : decode cL_law 1700 = .ok (.if_icmp .eq 5, 3) := ax_dec dL_law_q40_ok 4 (1700, .if_icmp .eq 5, 3) rfl
theorem dL_law_1703 : decode cL_law 1703 = .ok (.iconst 0, 1) := ax_dec dL_law_q40_ok 5 (1703, .iconst 0, 1) rfl
theorem dL_law_1704 : decode cL_law 1704 = .ok (.ireturn, 1) := ax_dec dL_law_q40_ok 6 (1704, .ireturn, 1) rfl
theorem dL_law_1705 : decode cL_law 1705 = .ok (.iinc 3 7, 3) := ax_dec dL_law_q40_ok 7 (1705, .iinc 3 7, 3) rfl
theorem dL_law_1708 : decode cL_law 1708 = .ok (.goto (-1690), 3) := ax_dec dL_law_q40_ok 8 (1708, .goto (-1690), 3) rfl
theorem dL_law_1711 : decode cL_law 1711 = .ok (.iconst 1, 1) := ax_dec dL_law_q40_ok 9 (1711, .iconst 1, 1) rfl
theorem dL_law_1712 : decode cL_law 1712 = .ok (.ireturn, 1) := ax_dec dL_law_q40_ok 10 (1712, .ireturn, 1) rfl
