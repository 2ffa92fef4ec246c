def u_Md_init_0 : List (Nat × Instr × Nat) := [(0, .aload_n 0, 1), (1, .invokespecial 1, 3), (4, .aload_n 0, 1), (5, .iconst 3, 1), (6, .newarray .int, 2), (8, .putfield 7, 3), (11, .aload_n 0, 1), (12, .bipush 48, 2), (14, .newarray .int, 2), (16, .putfield 13, 3), (19, .aload_n 0, 1), (20, .bipush 12, 2), (22, .newarray .boolean, 2), (24, .putfield 16, 3), (27, .aload_n 0, 1), (28, .bipush 24, 2), (30, .newarray .int, 2), (32, .putfield 20, 3), (35, .aload_n 0, 1), (36, .iconst 3, 1), (37, .newarray .int, 2), (39, .putfield 23, 3), (42, .aload_n 0, 1), (43, .sipush 880, 3), (46, .newarray .int, 2), (48, .putfield 26, 3), (51, .aload_n 0, 1), (52, .sipush 220, 3), (55, .newarray .int, 2), (57, .putfield 29, 3), (60, .aload_n 0, 1), (61, .sipush 220, 3), (64, .newarray .int, 2), (66, .putfield 32, 3), (69, .aload_n 0, 1), (70, .sipush 220, 3), (73, .newarray .int, 2), (75, .putfield 35, 3), (78, .aload_n 0, 1), (79, .iconst 4, 1)]
theorem v_Md_init_0 : u_Md_init_0.all (zdq prog_8_method_1_code) = true := by decide +kernel
theorem d_Md_init_0 : decode prog_8_method_1_code 0 = .ok (.aload_n 0, 1) := zdt v_Md_init_0 0 (q := (0, .aload_n 0, 1)) rfl
theorem d_Md_init_1 : decode prog_8_method_1_code 1 = .ok (.invokespecial 1, 3) := zdt v_Md_init_0 1 (q := (1, .invokespecial 1, 3)) rfl
theorem d_Md_init_4 : decode prog_8_method_1_code 4 = .ok (.aload_n 0, 1) := zdt v_Md_init_0 2 (q := (4, .aload_n 0, 1)) rfl
theorem d_Md_init_5 : decode prog_8_method_1_code 5 = .ok (.iconst 3, 1) := zdt v_Md_init_0 3 (q := (5, .iconst 3, 1)) rfl
theorem d_Md_init_6 : decode prog_8_method_1_code 6 = .ok (.newarray .int, 2) := zdt v_Md_init_0 4 (q := (6, .newarray .int, 2)) rfl
theorem d_Md_init_8 : decode prog_8_method_1_code 8 = .ok (.putfield 7, 3) := zdt v_Md_init_0 5 (q := (8, .putfield 7, 3)) rfl
theorem d_Md_init_11 : decode prog_8_method_1_code 11 = .ok (.aload_n 0, 1) := zdt v_Md_init_0 6 (q := (11, .aload_n 0, 1)) rfl
theorem d_Md_init_12 : decode prog_8_method_1_code 12 = .ok (.bipush 48, 2) := zdt v_Md_init_0 7 (q := (12, .bipush 48, 2)) rfl
theorem d_Md_init_14 : decode prog_8_method_1_code 14 = .ok (.newarray .int, 2) := zdt v_Md_init_0 8 (q := (14, .newarray .int, 2)) rfl
theorem d_Md_init_16 : decode prog_8_method_1_code 16 = .ok (.putfield 13, 3) := zdt v_Md_init_0 9 (q := (16, .putfield 13, 3)) rfl
theorem d_Md_init_19 : decode prog_8_method_1_code 19 = .ok (.aload_n 0, 1) := zdt v_Md_init_0 10 (q := (19, .aload_n 0, 1)) rfl
theorem d_Md_init_20 : decode prog_8_method_1_code 20 = .ok (.bipush 12, 2) := zdt v_Md_init_0 11 (q := (20, .bipush 12, 2)) rfl
theorem d_Md_init_22 : decode prog_8_method_1_code 22 = .ok (.newarray .boolean, 2) := zdt v_Md_init_0 12 (q := (22, .newarray .boolean, 2)) rfl
theorem d_Md_init_24 : decode prog_8_method_1_code 24 = .ok (.putfield 16, 3) := zdt v_Md_init_0 13 (q := (24, .putfield 16, 3)) rfl
theorem d_Md_init_27 : decode prog_8_method_1_code 27 = .ok (.aload_n 0, 1) := zdt v_Md_init_0 14 (q := (27, .aload_n 0, 1)) rfl
theorem d_Md_init_28 : decode prog_8_method_1_code 28 = .ok (.bipush 24, 2) := zdt v_Md_init_0 15 (q := (28, .bipush 24, 2)) rfl
theorem d_Md_init_30 : decode prog_8_method_1_code 30 = .ok (.newarray .int, 2) := zdt v_Md_init_0 16 (q := (30, .newarray .int, 2)) rfl
theorem d_Md_init_32 : decode prog_8_method_1_code 32 = .ok (.putfield 20, 3) := zdt v_Md_init_0 17 (q := (32, .putfield 20, 3)) rfl
theorem d_Md_init_35 : decode prog_8_method_1_code 35 = .ok (.aload_n 0, 1) := zdt v_Md_init_0 18 (q := (35, .aload_n 0, 1)) rfl
theorem d_Md_init_36 : decode prog_8_method_1_code 36 = .ok (.iconst 3, 1) := zdt v_Md_init_0 19 (q := (36, .iconst 3, 1)) rfl
theorem d_Md_init_37 : decode prog_8_method_1_code 37 = .ok (.newarray .int, 2) := zdt v_Md_init_0 20 (q := (37, .newarray .int, 2)) rfl
theorem d_Md_init_39 : decode prog_8_method_1_code 39 = .ok (.putfield 23, 3) := zdt v_Md_init_0 21 (q := (39, .putfield 23, 3)) rfl
theorem d_Md_init_42 : decode prog_8_method_1_code 42 = .ok (.aload_n 0, 1) := zdt v_Md_init_0 22 (q := (42, .aload_n 0, 1)) rfl
theorem d_Md_init_43 : decode prog_8_method_1_code 43 = .ok (.sipush 880, 3) := zdt v_Md_init_0 23 (q := (43, .sipush 880, 3)) rfl
theorem d_Md_init_46 : decode prog_8_method_1_code 46 = .ok (.newarray .int, 2) := zdt v_Md_init_0 24 (q := (46, .newarray .int, 2)) rfl
theorem d_Md_init_48 : decode prog_8_method_1_code 48 = .ok (.putfield 26, 3) := zdt v_Md_init_0 25 (q := (48, .putfield 26, 3)) rfl
theorem d_Md_init_51 : decode prog_8_method_1_code 51 = .ok (.aload_n 0, 1) := zdt v_Md_init_0 26 (q := (51, .aload_n 0, 1)) rfl
theorem d_Md_init_52 : decode prog_8_method_1_code 52 = .ok (.sipush 220, 3) := zdt v_Md_init_0 27 (q := (52, .sipush 220, 3)) rfl
theorem d_Md_init_55 : decode prog_8_method_1_code 55 = .ok (.newarray .int, 2) := zdt v_Md_init_0 28 (q := (55, .newarray .int, 2)) rfl
theorem d_Md_init_57 : decode prog_8_method_1_code 57 = .ok (.putfield 29, 3) := zdt v_Md_init_0 29 (q := (57, .putfield 29, 3)) rfl
theorem d_Md_init_60 : decode prog_8_method_1_code 60 = .ok (.aload_n 0, 1) := zdt v_Md_init_0 30 (q := (60, .aload_n 0, 1)) rfl
theorem d_Md_init_61 : decode prog_8_method_1_code 61 = .ok (.sipush 220, 3) := zdt v_Md_init_0 31 (q := (61, .sipush 220, 3)) rfl
theorem d_Md_init_64 : decode prog_8_method_1_code 64 = .ok (.newarray .int, 2) := zdt v_Md_init_0 32 (q := (64, .newarray .int, 2)) rfl
theorem d_Md_init_66 : decode prog_8_method_1_code 66 = .ok (.putfield 32, 3) := zdt v_Md_init_0 33 (q := (66, .putfield 32, 3)) rfl
theorem d_Md_init_69 : decode prog_8_method_1_code 69 = .ok (.aload_n 0, 1) := zdt v_Md_init_0 34 (q := (69, .aload_n 0, 1)) rfl
theorem d_Md_init_70 : decode prog_8_method_1_code 70 = .ok (.sipush 220, 3) := zdt v_Md_init_0 35 (q := (70, .sipush 220, 3)) rfl
theorem d_Md_init_73 : decode prog_8_method_1_code 73 = .ok (.newarray .int, 2) := zdt v_Md_init_0 36 (q := (73, .newarray .int, 2)) rfl
theorem d_Md_init_75 : decode prog_8_method_1_code 75 = .ok (.putfield 35, 3) := zdt v_Md_init_0 37 (q := (75, .putfield 35, 3)) rfl
theorem d_Md_init_78 : decode prog_8_method_1_code 78 = .ok (.aload_n 0, 1) := zdt v_Md_init_0 38 (q := (78, .aload_n 0, 1)) rfl
theorem d_Md_init_79 : decode prog_8_method_1_code 79 = .ok (.iconst 4, 1) := zdt v_Md_init_0 39 (q := (79, .iconst 4, 1)) rfl
def u_Md_init_1 : List (Nat × Instr × Nat) := [(80, .newarray .int, 2), (82, .putfield 38, 3), (85, .aload_n 0, 1), (86, .bipush 64, 2), (88, .newarray .int, 2), (90, .putfield 41, 3), (93, .aload_n 0, 1), (94, .bipush 64, 2), (96, .newarray .int, 2), (98, .putfield 44, 3), (101, .aload_n 0, 1), (102, .bipush 64, 2), (104, .newarray .boolean, 2), (106, .putfield 47, 3), (109, .aload_n 0, 1), (110, .bipush 64, 2), (112, .newarray .int, 2), (114, .putfield 50, 3), (117, .aload_n 0, 1), (118, .bipush 64, 2), (120, .newarray .int, 2), (122, .putfield 53, 3), (125, .aload_n 0, 1), (126, .iconst 3, 1), (127, .newarray .int, 2), (129, .putfield 56, 3), (132, .aload_n 0, 1), (133, .iconst 3, 1), (134, .newarray .int, 2), (136, .putfield 59, 3), (139, .aload_n 0, 1), (140, .iconst 3, 1), (141, .newarray .int, 2), (143, .putfield 62, 3), (146, .aload_n 0, 1), (147, .iconst 3, 1), (148, .newarray .int, 2), (150, .putfield 65, 3), (153, .aload_n 0, 1), (154, .getfield 7, 3)]
theorem v_Md_init_1 : u_Md_init_1.all (zdq prog_8_method_1_code) = true := by decide +kernel
theorem d_Md_init_80 : decode prog_8_method_1_code 80 = .ok (.newarray .int, 2) := zdt v_Md_init_1 0 (q := (80, .newarray .int, 2)) rfl
theorem d_Md_init_82 : decode prog_8_method_1_code 82 = .ok (.putfield 38, 3) := zdt v_Md_init_1 1 (q := (82, .putfield 38, 3)) rfl
theorem d_Md_init_85 : decode prog_8_method_1_code 85 = .ok (.aload_n 0, 1) := zdt v_Md_init_1 2 (q := (85, .aload_n 0, 1)) rfl
theorem d_Md_init_86 : decode prog_8_method_1_code 86 = .ok (.bipush 64, 2) := zdt v_Md_init_1 3 (q := (86, .bipush 64, 2)) rfl
theorem d_Md_init_88 : decode prog_8_method_1_code 88 = .ok (.newarray .int, 2) := zdt v_Md_init_1 4 (q := (88, .newarray .int, 2)) rfl
theorem d_Md_init_90 : decode prog_8_method_1_code 90 = .ok (.putfield 41, 3) := zdt v_Md_init_1 5 (q := (90, .putfield 41, 3)) rfl
theorem d_Md_init_93 : decode prog_8_method_1_code 93 = .ok (.aload_n 0, 1) := zdt v_Md_init_1 6 (q := (93, .aload_n 0, 1)) rfl
theorem d_Md_init_94 : decode prog_8_method_1_code 94 = .ok (.bipush 64, 2) := zdt v_Md_init_1 7 (q := (94, .bipush 64, 2)) rfl
theorem d_Md_init_96 : decode prog_8_method_1_code 96 = .ok (.newarray .int, 2) := zdt v_Md_init_1 8 (q := (96, .newarray .int, 2)) rfl
theorem d_Md_init_98 : decode prog_8_method_1_code 98 = .ok (.putfield 44, 3) := zdt v_Md_init_1 9 (q := (98, .putfield 44, 3)) rfl
theorem d_Md_init_101 : decode prog_8_method_1_code 101 = .ok (.aload_n 0, 1) := zdt v_Md_init_1 10 (q := (101, .aload_n 0, 1)) rfl
theorem d_Md_init_102 : decode prog_8_method_1_code 102 = .ok (.bipush 64, 2) := zdt v_Md_init_1 11 (q := (102, .bipush 64, 2)) rfl
theorem d_Md_init_104 : decode prog_8_method_1_code 104 = .ok (.newarray .boolean, 2) := zdt v_Md_init_1 12 (q := (104, .newarray .boolean, 2)) rfl
theorem d_Md_init_106 : decode prog_8_method_1_code 106 = .ok (.putfield 47, 3) := zdt v_Md_init_1 13 (q := (106, .putfield 47, 3)) rfl
theorem d_Md_init_109 : decode prog_8_method_1_code 109 = .ok (.aload_n 0, 1) := zdt v_Md_init_1 14 (q := (109, .aload_n 0, 1)) rfl
theorem d_Md_init_110 : decode prog_8_method_1_code 110 = .ok (.bipush 64, 2) := zdt v_Md_init_1 15 (q := (110, .bipush 64, 2)) rfl
theorem d_Md_init_112 : decode prog_8_method_1_code 112 = .ok (.newarray .int, 2) := zdt v_Md_init_1 16 (q := (112, .newarray .int, 2)) rfl
theorem d_Md_init_114 : decode prog_8_method_1_code 114 = .ok (.putfield 50, 3) := zdt v_Md_init_1 17 (q := (114, .putfield 50, 3)) rfl
theorem d_Md_init_117 : decode prog_8_method_1_code 117 = .ok (.aload_n 0, 1) := zdt v_Md_init_1 18 (q := (117, .aload_n 0, 1)) rfl
theorem d_Md_init_118 : decode prog_8_method_1_code 118 = .ok (.bipush 64, 2) := zdt v_Md_init_1 19 (q := (118, .bipush 64, 2)) rfl
theorem d_Md_init_120 : decode prog_8_method_1_code 120 = .ok (.newarray .int, 2) := zdt v_Md_init_1 20 (q := (120, .newarray .int, 2)) rfl
theorem d_Md_init_122 : decode prog_8_method_1_code 122 = .ok (.putfield 53, 3) := zdt v_Md_init_1 21 (q := (122, .putfield 53, 3)) rfl
theorem d_Md_init_125 : decode prog_8_method_1_code 125 = .ok (.aload_n 0, 1) := zdt v_Md_init_1 22 (q := (125, .aload_n 0, 1)) rfl
theorem d_Md_init_126 : decode prog_8_method_1_code 126 = .ok (.iconst 3, 1) := zdt v_Md_init_1 23 (q := (126, .iconst 3, 1)) rfl
theorem d_Md_init_127 : decode prog_8_method_1_code 127 = .ok (.newarray .int, 2) := zdt v_Md_init_1 24 (q := (127, .newarray .int, 2)) rfl
theorem d_Md_init_129 : decode prog_8_method_1_code 129 = .ok (.putfield 56, 3) := zdt v_Md_init_1 25 (q := (129, .putfield 56, 3)) rfl
theorem d_Md_init_132 : decode prog_8_method_1_code 132 = .ok (.aload_n 0, 1) := zdt v_Md_init_1 26 (q := (132, .aload_n 0, 1)) rfl
theorem d_Md_init_133 : decode prog_8_method_1_code 133 = .ok (.iconst 3, 1) := zdt v_Md_init_1 27 (q := (133, .iconst 3, 1)) rfl
theorem d_Md_init_134 : decode prog_8_method_1_code 134 = .ok (.newarray .int, 2) := zdt v_Md_init_1 28 (q := (134, .newarray .int, 2)) rfl
theorem d_Md_init_136 : decode prog_8_method_1_code 136 = .ok (.putfield 59, 3) := zdt v_Md_init_1 29 (q := (136, .putfield 59, 3)) rfl
theorem d_Md_init_139 : decode prog_8_method_1_code 139 = .ok (.aload_n 0, 1) := zdt v_Md_init_1 30 (q := (139, .aload_n 0, 1)) rfl
theorem d_Md_init_140 : decode prog_8_method_1_code 140 = .ok (.iconst 3, 1) := zdt v_Md_init_1 31 (q := (140, .iconst 3, 1)) rfl
theorem d_Md_init_141 : decode prog_8_method_1_code 141 = .ok (.newarray .int, 2) := zdt v_Md_init_1 32 (q := (141, .newarray .int, 2)) rfl
theorem d_Md_init_143 : decode prog_8_method_1_code 143 = .ok (.putfield 62, 3) := zdt v_Md_init_1 33 (q := (143, .putfield 62, 3)) rfl
theorem d_Md_init_146 : decode prog_8_method_1_code 146 = .ok (.aload_n 0, 1) := zdt v_Md_init_1 34 (q := (146, .aload_n 0, 1)) rfl
theorem d_Md_init_147 : decode prog_8_method_1_code 147 = .ok (.iconst 3, 1) := zdt v_Md_init_1 35 (q := (147, .iconst 3, 1)) rfl
theorem d_Md_init_148 : decode prog_8_method_1_code 148 = .ok (.newarray .int, 2) := zdt v_Md_init_1 36 (q := (148, .newarray .int, 2)) rfl
theorem d_Md_init_150 : decode prog_8_method_1_code 150 = .ok (.putfield 65, 3) := zdt v_Md_init_1 37 (q := (150, .putfield 65, 3)) rfl
theorem d_Md_init_153 : decode prog_8_method_1_code 153 = .ok (.aload_n 0, 1) := zdt v_Md_init_1 38 (q := (153, .aload_n 0, 1)) rfl
theorem d_Md_init_154 : decode prog_8_method_1_code 154 = .ok (.getfield 7, 3) := zdt v_Md_init_1 39 (q := (154, .getfield 7, 3)) rfl
def u_Md_init_2 : List (Nat × Instr × Nat) := [(157, .iconst 0, 1), (158, .iload_n 1, 1), (159, .invokestatic 68, 3), (162, .iastore, 1), (163, .aload_n 0, 1), (164, .getfield 7, 3), (167, .iconst 1, 1), (168, .iload_n 2, 1), (169, .invokestatic 68, 3), (172, .iastore, 1), (173, .aload_n 0, 1), (174, .getfield 7, 3), (177, .iconst 2, 1), (178, .iload_n 3, 1), (179, .invokestatic 68, 3), (182, .iastore, 1), (183, .iconst 0, 1), (184, .istore 4, 2), (186, .iload 4, 2), (188, .bipush 6, 2), (190, .if_icmp .ge 62, 3), (193, .aload_n 0, 1), (194, .getfield 13, 3), (197, .iconst 4, 1), (198, .bipush 6, 2), (200, .iload 4, 2), (202, .iadd, 1), (203, .imul, 1), (204, .iload 4, 2), (206, .iconst 2, 1), (207, .idiv, 1), (208, .iadd, 1), (209, .iconst 1, 1), (210, .iastore, 1), (211, .aload_n 0, 1), (212, .getfield 13, 3), (215, .iconst 4, 1), (216, .bipush 6, 2), (218, .iload 4, 2), (220, .iadd, 1)]
theorem v_Md_init_2 : u_Md_init_2.all (zdq prog_8_method_1_code) = true := by decide +kernel
theorem d_Md_init_157 : decode prog_8_method_1_code 157 = .ok (.iconst 0, 1) := zdt v_Md_init_2 0 (q := (157, .iconst 0, 1)) rfl
theorem d_Md_init_158 : decode prog_8_method_1_code 158 = .ok (.iload_n 1, 1) := zdt v_Md_init_2 1 (q := (158, .iload_n 1, 1)) rfl
theorem d_Md_init_159 : decode prog_8_method_1_code 159 = .ok (.invokestatic 68, 3) := zdt v_Md_init_2 2 (q := (159, .invokestatic 68, 3)) rfl
theorem d_Md_init_162 : decode prog_8_method_1_code 162 = .ok (.iastore, 1) := zdt v_Md_init_2 3 (q := (162, .iastore, 1)) rfl
theorem d_Md_init_163 : decode prog_8_method_1_code 163 = .ok (.aload_n 0, 1) := zdt v_Md_init_2 4 (q := (163, .aload_n 0, 1)) rfl
theorem d_Md_init_164 : decode prog_8_method_1_code 164 = .ok (.getfield 7, 3) := zdt v_Md_init_2 5 (q := (164, .getfield 7, 3)) rfl
theorem d_Md_init_167 : decode prog_8_method_1_code 167 = .ok (.iconst 1, 1) := zdt v_Md_init_2 6 (q := (167, .iconst 1, 1)) rfl
theorem d_Md_init_168 : decode prog_8_method_1_code 168 = .ok (.iload_n 2, 1) := zdt v_Md_init_2 7 (q := (168, .iload_n 2, 1)) rfl
theorem d_Md_init_169 : decode prog_8_method_1_code 169 = .ok (.invokestatic 68, 3) := zdt v_Md_init_2 8 (q := (169, .invokestatic 68, 3)) rfl
theorem d_Md_init_172 : decode prog_8_method_1_code 172 = .ok (.iastore, 1) := zdt v_Md_init_2 9 (q := (172, .iastore, 1)) rfl
theorem d_Md_init_173 : decode prog_8_method_1_code 173 = .ok (.aload_n 0, 1) := zdt v_Md_init_2 10 (q := (173, .aload_n 0, 1)) rfl
theorem d_Md_init_174 : decode prog_8_method_1_code 174 = .ok (.getfield 7, 3) := zdt v_Md_init_2 11 (q := (174, .getfield 7, 3)) rfl
theorem d_Md_init_177 : decode prog_8_method_1_code 177 = .ok (.iconst 2, 1) := zdt v_Md_init_2 12 (q := (177, .iconst 2, 1)) rfl
theorem d_Md_init_178 : decode prog_8_method_1_code 178 = .ok (.iload_n 3, 1) := zdt v_Md_init_2 13 (q := (178, .iload_n 3, 1)) rfl
theorem d_Md_init_179 : decode prog_8_method_1_code 179 = .ok (.invokestatic 68, 3) := zdt v_Md_init_2 14 (q := (179, .invokestatic 68, 3)) rfl
theorem d_Md_init_182 : decode prog_8_method_1_code 182 = .ok (.iastore, 1) := zdt v_Md_init_2 15 (q := (182, .iastore, 1)) rfl
theorem d_Md_init_183 : decode prog_8_method_1_code 183 = .ok (.iconst 0, 1) := zdt v_Md_init_2 16 (q := (183, .iconst 0, 1)) rfl
theorem d_Md_init_184 : decode prog_8_method_1_code 184 = .ok (.istore 4, 2) := zdt v_Md_init_2 17 (q := (184, .istore 4, 2)) rfl
theorem d_Md_init_186 : decode prog_8_method_1_code 186 = .ok (.iload 4, 2) := zdt v_Md_init_2 18 (q := (186, .iload 4, 2)) rfl
theorem d_Md_init_188 : decode prog_8_method_1_code 188 = .ok (.bipush 6, 2) := zdt v_Md_init_2 19 (q := (188, .bipush 6, 2)) rfl
theorem d_Md_init_190 : decode prog_8_method_1_code 190 = .ok (.if_icmp .ge 62, 3) := zdt v_Md_init_2 20 (q := (190, .if_icmp .ge 62, 3)) rfl
theorem d_Md_init_193 : decode prog_8_method_1_code 193 = .ok (.aload_n 0, 1) := zdt v_Md_init_2 21 (q := (193, .aload_n 0, 1)) rfl
theorem d_Md_init_194 : decode prog_8_method_1_code 194 = .ok (.getfield 13, 3) := zdt v_Md_init_2 22 (q := (194, .getfield 13, 3)) rfl
theorem d_Md_init_197 : decode prog_8_method_1_code 197 = .ok (.iconst 4, 1) := zdt v_Md_init_2 23 (q := (197, .iconst 4, 1)) rfl
theorem d_Md_init_198 : decode prog_8_method_1_code 198 = .ok (.bipush 6, 2) := zdt v_Md_init_2 24 (q := (198, .bipush 6, 2)) rfl
theorem d_Md_init_200 : decode prog_8_method_1_code 200 = .ok (.iload 4, 2) := zdt v_Md_init_2 25 (q := (200, .iload 4, 2)) rfl
theorem d_Md_init_202 : decode prog_8_method_1_code 202 = .ok (.iadd, 1) := zdt v_Md_init_2 26 (q := (202, .iadd, 1)) rfl
theorem d_Md_init_203 : decode prog_8_method_1_code 203 = .ok (.imul, 1) := zdt v_Md_init_2 27 (q := (203, .imul, 1)) rfl
theorem d_Md_init_204 : decode prog_8_method_1_code 204 = .ok (.iload 4, 2) := zdt v_Md_init_2 28 (q := (204, .iload 4, 2)) rfl
theorem d_Md_init_206 : decode prog_8_method_1_code 206 = .ok (.iconst 2, 1) := zdt v_Md_init_2 29 (q := (206, .iconst 2, 1)) rfl
theorem d_Md_init_207 : decode prog_8_method_1_code 207 = .ok (.idiv, 1) := zdt v_Md_init_2 30 (q := (207, .idiv, 1)) rfl
theorem d_Md_init_208 : decode prog_8_method_1_code 208 = .ok (.iadd, 1) := zdt v_Md_init_2 31 (q := (208, .iadd, 1)) rfl
theorem d_Md_init_209 : decode prog_8_method_1_code 209 = .ok (.iconst 1, 1) := zdt v_Md_init_2 32 (q := (209, .iconst 1, 1)) rfl
theorem d_Md_init_210 : decode prog_8_method_1_code 210 = .ok (.iastore, 1) := zdt v_Md_init_2 33 (q := (210, .iastore, 1)) rfl
theorem d_Md_init_211 : decode prog_8_method_1_code 211 = .ok (.aload_n 0, 1) := zdt v_Md_init_2 34 (q := (211, .aload_n 0, 1)) rfl
theorem d_Md_init_212 : decode prog_8_method_1_code 212 = .ok (.getfield 13, 3) := zdt v_Md_init_2 35 (q := (212, .getfield 13, 3)) rfl
theorem d_Md_init_215 : decode prog_8_method_1_code 215 = .ok (.iconst 4, 1) := zdt v_Md_init_2 36 (q := (215, .iconst 4, 1)) rfl
theorem d_Md_init_216 : decode prog_8_method_1_code 216 = .ok (.bipush 6, 2) := zdt v_Md_init_2 37 (q := (216, .bipush 6, 2)) rfl
theorem d_Md_init_218 : decode prog_8_method_1_code 218 = .ok (.iload 4, 2) := zdt v_Md_init_2 38 (q := (218, .iload 4, 2)) rfl
theorem d_Md_init_220 : decode prog_8_method_1_code 220 = .ok (.iadd, 1) := zdt v_Md_init_2 39 (q := (220, .iadd, 1)) rfl
def u_Md_init_3 : List (Nat × Instr × Nat) := [(221, .imul, 1), (222, .iconst 3, 1), (223, .iadd, 1), (224, .iload 4, 2), (226, .iconst 2, 1), (227, .irem, 1), (228, .iconst 1, 1), (229, .if_icmp .ne 15, 3), (232, .aload_n 0, 1), (233, .getfield 7, 3), (236, .iload 4, 2), (238, .iconst 2, 1), (239, .idiv, 1), (240, .iaload, 1), (241, .goto 4, 3), (244, .iconst 0, 1), (245, .iastore, 1), (246, .iinc 4 1, 3), (249, .goto (-63), 3), (252, .aload_n 0, 1), (253, .getfield 23, 3), (256, .iconst 2, 1), (257, .iconst (-1), 1), (258, .iastore, 1), (259, .aload_n 0, 1), (260, .invokevirtual 72, 3), (263, .return_, 1)]
theorem v_Md_init_3 : u_Md_init_3.all (zdq prog_8_method_1_code) = true := by decide +kernel
theorem d_Md_init_221 : decode prog_8_method_1_code 221 = .ok (.imul, 1) := zdt v_Md_init_3 0 (q := (221, .imul, 1)) rfl
theorem d_Md_init_222 : decode prog_8_method_1_code 222 = .ok (.iconst 3, 1) := zdt v_Md_init_3 1 (q := (222, .iconst 3, 1)) rfl
theorem d_Md_init_223 : decode prog_8_method_1_code 223 = .ok (.iadd, 1) := zdt v_Md_init_3 2 (q := (223, .iadd, 1)) rfl
theorem d_Md_init_224 : decode prog_8_method_1_code 224 = .ok (.iload 4, 2) := zdt v_Md_init_3 3 (q := (224, .iload 4, 2)) rfl
theorem d_Md_init_226 : decode prog_8_method_1_code 226 = .ok (.iconst 2, 1) := zdt v_Md_init_3 4 (q := (226, .iconst 2, 1)) rfl
theorem d_Md_init_227 : decode prog_8_method_1_code 227 = .ok (.irem, 1) := zdt v_Md_init_3 5 (q := (227, .irem, 1)) rfl
theorem d_Md_init_228 : decode prog_8_method_1_code 228 = .ok (.iconst 1, 1) := zdt v_Md_init_3 6 (q := (228, .iconst 1, 1)) rfl
theorem d_Md_init_229 : decode prog_8_method_1_code 229 = .ok (.if_icmp .ne 15, 3) := zdt v_Md_init_3 7 (q := (229, .if_icmp .ne 15, 3)) rfl
theorem d_Md_init_232 : decode prog_8_method_1_code 232 = .ok (.aload_n 0, 1) := zdt v_Md_init_3 8 (q := (232, .aload_n 0, 1)) rfl
theorem d_Md_init_233 : decode prog_8_method_1_code 233 = .ok (.getfield 7, 3) := zdt v_Md_init_3 9 (q := (233, .getfield 7, 3)) rfl
theorem d_Md_init_236 : decode prog_8_method_1_code 236 = .ok (.iload 4, 2) := zdt v_Md_init_3 10 (q := (236, .iload 4, 2)) rfl
theorem d_Md_init_238 : decode prog_8_method_1_code 238 = .ok (.iconst 2, 1) := zdt v_Md_init_3 11 (q := (238, .iconst 2, 1)) rfl
theorem d_Md_init_239 : decode prog_8_method_1_code 239 = .ok (.idiv, 1) := zdt v_Md_init_3 12 (q := (239, .idiv, 1)) rfl
theorem d_Md_init_240 : decode prog_8_method_1_code 240 = .ok (.iaload, 1) := zdt v_Md_init_3 13 (q := (240, .iaload, 1)) rfl
theorem d_Md_init_241 : decode prog_8_method_1_code 241 = .ok (.goto 4, 3) := zdt v_Md_init_3 14 (q := (241, .goto 4, 3)) rfl
theorem d_Md_init_244 : decode prog_8_method_1_code 244 = .ok (.iconst 0, 1) := zdt v_Md_init_3 15 (q := (244, .iconst 0, 1)) rfl
theorem d_Md_init_245 : decode prog_8_method_1_code 245 = .ok (.iastore, 1) := zdt v_Md_init_3 16 (q := (245, .iastore, 1)) rfl
theorem d_Md_init_246 : decode prog_8_method_1_code 246 = .ok (.iinc 4 1, 3) := zdt v_Md_init_3 17 (q := (246, .iinc 4 1, 3)) rfl
theorem d_Md_init_249 : decode prog_8_method_1_code 249 = .ok (.goto (-63), 3) := zdt v_Md_init_3 18 (q := (249, .goto (-63), 3)) rfl
theorem d_Md_init_252 : decode prog_8_method_1_code 252 = .ok (.aload_n 0, 1) := zdt v_Md_init_3 19 (q := (252, .aload_n 0, 1)) rfl
theorem d_Md_init_253 : decode prog_8_method_1_code 253 = .ok (.getfield 23, 3) := zdt v_Md_init_3 20 (q := (253, .getfield 23, 3)) rfl
theorem d_Md_init_256 : decode prog_8_method_1_code 256 = .ok (.iconst 2, 1) := zdt v_Md_init_3 21 (q := (256, .iconst 2, 1)) rfl
theorem d_Md_init_257 : decode prog_8_method_1_code 257 = .ok (.iconst (-1), 1) := zdt v_Md_init_3 22 (q := (257, .iconst (-1), 1)) rfl
theorem d_Md_init_258 : decode prog_8_method_1_code 258 = .ok (.iastore, 1) := zdt v_Md_init_3 23 (q := (258, .iastore, 1)) rfl
theorem d_Md_init_259 : decode prog_8_method_1_code 259 = .ok (.aload_n 0, 1) := zdt v_Md_init_3 24 (q := (259, .aload_n 0, 1)) rfl
theorem d_Md_init_260 : decode prog_8_method_1_code 260 = .ok (.invokevirtual 72, 3) := zdt v_Md_init_3 25 (q := (260, .invokevirtual 72, 3)) rfl
theorem d_Md_init_263 : decode prog_8_method_1_code 263 = .ok (.return_, 1) := zdt v_Md_init_3 26 (q := (263, .return_, 1)) rfl
def u_Md_within_0 : List (Nat × Instr × Nat) := [(0, .iload_n 0, 1), (1, .iconst 1, 1), (2, .if_icmp .ge 7, 3), (5, .iconst 1, 1), (6, .goto 15, 3), (9, .iload_n 0, 1), (10, .bipush 8, 2), (12, .if_icmp .le 8, 3), (15, .bipush 8, 2), (17, .goto 4, 3), (20, .iload_n 0, 1), (21, .ireturn, 1)]
theorem v_Md_within_0 : u_Md_within_0.all (zdq prog_8_method_3_code) = true := by decide +kernel
theorem d_Md_within_0 : decode prog_8_method_3_code 0 = .ok (.iload_n 0, 1) := zdt v_Md_within_0 0 (q := (0, .iload_n 0, 1)) rfl
theorem d_Md_within_1 : decode prog_8_method_3_code 1 = .ok (.iconst 1, 1) := zdt v_Md_within_0 1 (q := (1, .iconst 1, 1)) rfl
theorem d_Md_within_2 : decode prog_8_method_3_code 2 = .ok (.if_icmp .ge 7, 3) := zdt v_Md_within_0 2 (q := (2, .if_icmp .ge 7, 3)) rfl
theorem d_Md_within_5 : decode prog_8_method_3_code 5 = .ok (.iconst 1, 1) := zdt v_Md_within_0 3 (q := (5, .iconst 1, 1)) rfl
theorem d_Md_within_6 : decode prog_8_method_3_code 6 = .ok (.goto 15, 3) := zdt v_Md_within_0 4 (q := (6, .goto 15, 3)) rfl
theorem d_Md_within_9 : decode prog_8_method_3_code 9 = .ok (.iload_n 0, 1) := zdt v_Md_within_0 5 (q := (9, .iload_n 0, 1)) rfl
theorem d_Md_within_10 : decode prog_8_method_3_code 10 = .ok (.bipush 8, 2) := zdt v_Md_within_0 6 (q := (10, .bipush 8, 2)) rfl
theorem d_Md_within_12 : decode prog_8_method_3_code 12 = .ok (.if_icmp .le 8, 3) := zdt v_Md_within_0 7 (q := (12, .if_icmp .le 8, 3)) rfl
theorem d_Md_within_15 : decode prog_8_method_3_code 15 = .ok (.bipush 8, 2) := zdt v_Md_within_0 8 (q := (15, .bipush 8, 2)) rfl
theorem d_Md_within_17 : decode prog_8_method_3_code 17 = .ok (.goto 4, 3) := zdt v_Md_within_0 9 (q := (17, .goto 4, 3)) rfl
theorem d_Md_within_20 : decode prog_8_method_3_code 20 = .ok (.iload_n 0, 1) := zdt v_Md_within_0 10 (q := (20, .iload_n 0, 1)) rfl
theorem d_Md_within_21 : decode prog_8_method_3_code 21 = .ok (.ireturn, 1) := zdt v_Md_within_0 11 (q := (21, .ireturn, 1)) rfl
def u_Md_cut_0 : List (Nat × Instr × Nat) := [(0, .aload_n 0, 1), (1, .iconst 0, 1), (2, .putfield 94, 3), (5, .iconst 0, 1), (6, .istore_n 1, 1), (7, .iload_n 1, 1), (8, .bipush 12, 2), (10, .if_icmp .ge 72, 3), (13, .iload_n 1, 1), (14, .iconst 1, 1), (15, .iadd, 1), (16, .istore_n 2, 1), (17, .iload_n 2, 1), (18, .bipush 12, 2), (20, .if_icmp .ge 56, 3), (23, .iload_n 2, 1), (24, .iconst 1, 1), (25, .iadd, 1), (26, .istore_n 3, 1), (27, .iload_n 3, 1), (28, .bipush 12, 2), (30, .if_icmp .ge 40, 3), (33, .aload_n 0, 1), (34, .iload_n 1, 1), (35, .invokevirtual 100, 3), (38, .ifCond .eq 26, 3), (41, .aload_n 0, 1), (42, .iload_n 2, 1), (43, .invokevirtual 100, 3), (46, .ifCond .eq 18, 3), (49, .aload_n 0, 1), (50, .iload_n 3, 1), (51, .invokevirtual 100, 3), (54, .ifCond .eq 10, 3), (57, .aload_n 0, 1), (58, .iload_n 1, 1), (59, .iload_n 2, 1), (60, .iload_n 3, 1), (61, .invokevirtual 104, 3), (64, .iinc 3 1, 3)]
theorem v_Md_cut_0 : u_Md_cut_0.all (zdq prog_8_method_12_code) = true := by decide +kernel
theorem d_Md_cut_0 : decode prog_8_method_12_code 0 = .ok (.aload_n 0, 1) := zdt v_Md_cut_0 0 (q := (0, .aload_n 0, 1)) rfl
theorem d_Md_cut_1 : decode prog_8_method_12_code 1 = .ok (.iconst 0, 1) := zdt v_Md_cut_0 1 (q := (1, .iconst 0, 1)) rfl
theorem d_Md_cut_2 : decode prog_8_method_12_code 2 = .ok (.putfield 94, 3) := zdt v_Md_cut_0 2 (q := (2, .putfield 94, 3)) rfl
theorem d_Md_cut_5 : decode prog_8_method_12_code 5 = .ok (.iconst 0, 1) := zdt v_Md_cut_0 3 (q := (5, .iconst 0, 1)) rfl
theorem d_Md_cut_6 : decode prog_8_method_12_code 6 = .ok (.istore_n 1, 1) := zdt v_Md_cut_0 4 (q := (6, .istore_n 1, 1)) rfl
theorem d_Md_cut_7 : decode prog_8_method_12_code 7 = .ok (.iload_n 1, 1) := zdt v_Md_cut_0 5 (q := (7, .iload_n 1, 1)) rfl
theorem d_Md_cut_8 : decode prog_8_method_12_code 8 = .ok (.bipush 12, 2) := zdt v_Md_cut_0 6 (q := (8, .bipush 12, 2)) rfl
theorem d_Md_cut_10 : decode prog_8_method_12_code 10 = .ok (.if_icmp .ge 72, 3) := zdt v_Md_cut_0 7 (q := (10, .if_icmp .ge 72, 3)) rfl
theorem d_Md_cut_13 : decode prog_8_method_12_code 13 = .ok (.iload_n 1, 1) := zdt v_Md_cut_0 8 (q := (13, .iload_n 1, 1)) rfl
theorem d_Md_cut_14 : decode prog_8_method_12_code 14 = .ok (.iconst 1, 1) := zdt v_Md_cut_0 9 (q := (14, .iconst 1, 1)) rfl
theorem d_Md_cut_15 : decode prog_8_method_12_code 15 = .ok (.iadd, 1) := zdt v_Md_cut_0 10 (q := (15, .iadd, 1)) rfl
theorem d_Md_cut_16 : decode prog_8_method_12_code 16 = .ok (.istore_n 2, 1) := zdt v_Md_cut_0 11 (q := (16, .istore_n 2, 1)) rfl
theorem d_Md_cut_17 : decode prog_8_method_12_code 17 = .ok (.iload_n 2, 1) := zdt v_Md_cut_0 12 (q := (17, .iload_n 2, 1)) rfl
theorem d_Md_cut_18 : decode prog_8_method_12_code 18 = .ok (.bipush 12, 2) := zdt v_Md_cut_0 13 (q := (18, .bipush 12, 2)) rfl
theorem d_Md_cut_20 : decode prog_8_method_12_code 20 = .ok (.if_icmp .ge 56, 3) := zdt v_Md_cut_0 14 (q := (20, .if_icmp .ge 56, 3)) rfl
theorem d_Md_cut_23 : decode prog_8_method_12_code 23 = .ok (.iload_n 2, 1) := zdt v_Md_cut_0 15 (q := (23, .iload_n 2, 1)) rfl
theorem d_Md_cut_24 : decode prog_8_method_12_code 24 = .ok (.iconst 1, 1) := zdt v_Md_cut_0 16 (q := (24, .iconst 1, 1)) rfl
theorem d_Md_cut_25 : decode prog_8_method_12_code 25 = .ok (.iadd, 1) := zdt v_Md_cut_0 17 (q := (25, .iadd, 1)) rfl
theorem d_Md_cut_26 : decode prog_8_method_12_code 26 = .ok (.istore_n 3, 1) := zdt v_Md_cut_0 18 (q := (26, .istore_n 3, 1)) rfl
theorem d_Md_cut_27 : decode prog_8_method_12_code 27 = .ok (.iload_n 3, 1) := zdt v_Md_cut_0 19 (q := (27, .iload_n 3, 1)) rfl
theorem d_Md_cut_28 : decode prog_8_method_12_code 28 = .ok (.bipush 12, 2) := zdt v_Md_cut_0 20 (q := (28, .bipush 12, 2)) rfl
theorem d_Md_cut_30 : decode prog_8_method_12_code 30 = .ok (.if_icmp .ge 40, 3) := zdt v_Md_cut_0 21 (q := (30, .if_icmp .ge 40, 3)) rfl
theorem d_Md_cut_33 : decode prog_8_method_12_code 33 = .ok (.aload_n 0, 1) := zdt v_Md_cut_0 22 (q := (33, .aload_n 0, 1)) rfl
theorem d_Md_cut_34 : decode prog_8_method_12_code 34 = .ok (.iload_n 1, 1) := zdt v_Md_cut_0 23 (q := (34, .iload_n 1, 1)) rfl
theorem d_Md_cut_35 : decode prog_8_method_12_code 35 = .ok (.invokevirtual 100, 3) := zdt v_Md_cut_0 24 (q := (35, .invokevirtual 100, 3)) rfl
theorem d_Md_cut_38 : decode prog_8_method_12_code 38 = .ok (.ifCond .eq 26, 3) := zdt v_Md_cut_0 25 (q := (38, .ifCond .eq 26, 3)) rfl
theorem d_Md_cut_41 : decode prog_8_method_12_code 41 = .ok (.aload_n 0, 1) := zdt v_Md_cut_0 26 (q := (41, .aload_n 0, 1)) rfl
theorem d_Md_cut_42 : decode prog_8_method_12_code 42 = .ok (.iload_n 2, 1) := zdt v_Md_cut_0 27 (q := (42, .iload_n 2, 1)) rfl
theorem d_Md_cut_43 : decode prog_8_method_12_code 43 = .ok (.invokevirtual 100, 3) := zdt v_Md_cut_0 28 (q := (43, .invokevirtual 100, 3)) rfl
theorem d_Md_cut_46 : decode prog_8_method_12_code 46 = .ok (.ifCond .eq 18, 3) := zdt v_Md_cut_0 29 (q := (46, .ifCond .eq 18, 3)) rfl
theorem d_Md_cut_49 : decode prog_8_method_12_code 49 = .ok (.aload_n 0, 1) := zdt v_Md_cut_0 30 (q := (49, .aload_n 0, 1)) rfl
theorem d_Md_cut_50 : decode prog_8_method_12_code 50 = .ok (.iload_n 3, 1) := zdt v_Md_cut_0 31 (q := (50, .iload_n 3, 1)) rfl
theorem d_Md_cut_51 : decode prog_8_method_12_code 51 = .ok (.invokevirtual 100, 3) := zdt v_Md_cut_0 32 (q := (51, .invokevirtual 100, 3)) rfl
theorem d_Md_cut_54 : decode prog_8_method_12_code 54 = .ok (.ifCond .eq 10, 3) := zdt v_Md_cut_0 33 (q := (54, .ifCond .eq 10, 3)) rfl
theorem d_Md_cut_57 : decode prog_8_method_12_code 57 = .ok (.aload_n 0, 1) := zdt v_Md_cut_0 34 (q := (57, .aload_n 0, 1)) rfl
theorem d_Md_cut_58 : decode prog_8_method_12_code 58 = .ok (.iload_n 1, 1) := zdt v_Md_cut_0 35 (q := (58, .iload_n 1, 1)) rfl
theorem d_Md_cut_59 : decode prog_8_method_12_code 59 = .ok (.iload_n 2, 1) := zdt v_Md_cut_0 36 (q := (59, .iload_n 2, 1)) rfl
theorem d_Md_cut_60 : decode prog_8_method_12_code 60 = .ok (.iload_n 3, 1) := zdt v_Md_cut_0 37 (q := (60, .iload_n 3, 1)) rfl
theorem d_Md_cut_61 : decode prog_8_method_12_code 61 = .ok (.invokevirtual 104, 3) := zdt v_Md_cut_0 38 (q := (61, .invokevirtual 104, 3)) rfl
theorem d_Md_cut_64 : decode prog_8_method_12_code 64 = .ok (.iinc 3 1, 3) := zdt v_Md_cut_0 39 (q := (64, .iinc 3 1, 3)) rfl
def u_Md_cut_1 : List (Nat × Instr × Nat) := [(67, .goto (-40), 3), (70, .iinc 2 1, 3), (73, .goto (-56), 3), (76, .iinc 1 1, 3), (79, .goto (-72), 3), (82, .iconst 0, 1), (83, .istore_n 1, 1), (84, .iload_n 1, 1), (85, .aload_n 0, 1), (86, .getfield 94, 3), (89, .if_icmp .ge 166, 3), (92, .aload_n 0, 1), (93, .getfield 29, 3), (96, .iload_n 1, 1), (97, .iconst 0, 1), (98, .iastore, 1), (99, .aload_n 0, 1), (100, .getfield 32, 3), (103, .iload_n 1, 1), (104, .iconst 0, 1), (105, .iastore, 1), (106, .aload_n 0, 1), (107, .getfield 35, 3), (110, .iload_n 1, 1), (111, .iconst 0, 1), (112, .iastore, 1), (113, .iconst 0, 1), (114, .istore_n 2, 1), (115, .iload_n 2, 1), (116, .bipush 12, 2), (118, .if_icmp .ge 131, 3), (121, .aload_n 0, 1), (122, .iload_n 2, 1), (123, .invokevirtual 100, 3), (126, .ifCond .eq 12, 3), (129, .aload_n 0, 1), (130, .iload_n 1, 1), (131, .iload_n 2, 1), (132, .invokevirtual 108, 3), (135, .goto 4, 3)]
theorem v_Md_cut_1 : u_Md_cut_1.all (zdq prog_8_method_12_code) = true := by decide +kernel
theorem d_Md_cut_67 : decode prog_8_method_12_code 67 = .ok (.goto (-40), 3) := zdt v_Md_cut_1 0 (q := (67, .goto (-40), 3)) rfl
theorem d_Md_cut_70 : decode prog_8_method_12_code 70 = .ok (.iinc 2 1, 3) := zdt v_Md_cut_1 1 (q := (70, .iinc 2 1, 3)) rfl
theorem d_Md_cut_73 : decode prog_8_method_12_code 73 = .ok (.goto (-56), 3) := zdt v_Md_cut_1 2 (q := (73, .goto (-56), 3)) rfl
theorem d_Md_cut_76 : decode prog_8_method_12_code 76 = .ok (.iinc 1 1, 3) := zdt v_Md_cut_1 3 (q := (76, .iinc 1 1, 3)) rfl
theorem d_Md_cut_79 : decode prog_8_method_12_code 79 = .ok (.goto (-72), 3) := zdt v_Md_cut_1 4 (q := (79, .goto (-72), 3)) rfl
theorem d_Md_cut_82 : decode prog_8_method_12_code 82 = .ok (.iconst 0, 1) := zdt v_Md_cut_1 5 (q := (82, .iconst 0, 1)) rfl
theorem d_Md_cut_83 : decode prog_8_method_12_code 83 = .ok (.istore_n 1, 1) := zdt v_Md_cut_1 6 (q := (83, .istore_n 1, 1)) rfl
theorem d_Md_cut_84 : decode prog_8_method_12_code 84 = .ok (.iload_n 1, 1) := zdt v_Md_cut_1 7 (q := (84, .iload_n 1, 1)) rfl
theorem d_Md_cut_85 : decode prog_8_method_12_code 85 = .ok (.aload_n 0, 1) := zdt v_Md_cut_1 8 (q := (85, .aload_n 0, 1)) rfl
theorem d_Md_cut_86 : decode prog_8_method_12_code 86 = .ok (.getfield 94, 3) := zdt v_Md_cut_1 9 (q := (86, .getfield 94, 3)) rfl
theorem d_Md_cut_89 : decode prog_8_method_12_code 89 = .ok (.if_icmp .ge 166, 3) := zdt v_Md_cut_1 10 (q := (89, .if_icmp .ge 166, 3)) rfl
theorem d_Md_cut_92 : decode prog_8_method_12_code 92 = .ok (.aload_n 0, 1) := zdt v_Md_cut_1 11 (q := (92, .aload_n 0, 1)) rfl
theorem d_Md_cut_93 : decode prog_8_method_12_code 93 = .ok (.getfield 29, 3) := zdt v_Md_cut_1 12 (q := (93, .getfield 29, 3)) rfl
theorem d_Md_cut_96 : decode prog_8_method_12_code 96 = .ok (.iload_n 1, 1) := zdt v_Md_cut_1 13 (q := (96, .iload_n 1, 1)) rfl
theorem d_Md_cut_97 : decode prog_8_method_12_code 97 = .ok (.iconst 0, 1) := zdt v_Md_cut_1 14 (q := (97, .iconst 0, 1)) rfl
theorem d_Md_cut_98 : decode prog_8_method_12_code 98 = .ok (.iastore, 1) := zdt v_Md_cut_1 15 (q := (98, .iastore, 1)) rfl
theorem d_Md_cut_99 : decode prog_8_method_12_code 99 = .ok (.aload_n 0, 1) := zdt v_Md_cut_1 16 (q := (99, .aload_n 0, 1)) rfl
theorem d_Md_cut_100 : decode prog_8_method_12_code 100 = .ok (.getfield 32, 3) := zdt v_Md_cut_1 17 (q := (100, .getfield 32, 3)) rfl
theorem d_Md_cut_103 : decode prog_8_method_12_code 103 = .ok (.iload_n 1, 1) := zdt v_Md_cut_1 18 (q := (103, .iload_n 1, 1)) rfl
theorem d_Md_cut_104 : decode prog_8_method_12_code 104 = .ok (.iconst 0, 1) := zdt v_Md_cut_1 19 (q := (104, .iconst 0, 1)) rfl
theorem d_Md_cut_105 : decode prog_8_method_12_code 105 = .ok (.iastore, 1) := zdt v_Md_cut_1 20 (q := (105, .iastore, 1)) rfl
theorem d_Md_cut_106 : decode prog_8_method_12_code 106 = .ok (.aload_n 0, 1) := zdt v_Md_cut_1 21 (q := (106, .aload_n 0, 1)) rfl
theorem d_Md_cut_107 : decode prog_8_method_12_code 107 = .ok (.getfield 35, 3) := zdt v_Md_cut_1 22 (q := (107, .getfield 35, 3)) rfl
theorem d_Md_cut_110 : decode prog_8_method_12_code 110 = .ok (.iload_n 1, 1) := zdt v_Md_cut_1 23 (q := (110, .iload_n 1, 1)) rfl
theorem d_Md_cut_111 : decode prog_8_method_12_code 111 = .ok (.iconst 0, 1) := zdt v_Md_cut_1 24 (q := (111, .iconst 0, 1)) rfl
theorem d_Md_cut_112 : decode prog_8_method_12_code 112 = .ok (.iastore, 1) := zdt v_Md_cut_1 25 (q := (112, .iastore, 1)) rfl
theorem d_Md_cut_113 : decode prog_8_method_12_code 113 = .ok (.iconst 0, 1) := zdt v_Md_cut_1 26 (q := (113, .iconst 0, 1)) rfl
theorem d_Md_cut_114 : decode prog_8_method_12_code 114 = .ok (.istore_n 2, 1) := zdt v_Md_cut_1 27 (q := (114, .istore_n 2, 1)) rfl
theorem d_Md_cut_115 : decode prog_8_method_12_code 115 = .ok (.iload_n 2, 1) := zdt v_Md_cut_1 28 (q := (115, .iload_n 2, 1)) rfl
theorem d_Md_cut_116 : decode prog_8_method_12_code 116 = .ok (.bipush 12, 2) := zdt v_Md_cut_1 29 (q := (116, .bipush 12, 2)) rfl
theorem d_Md_cut_118 : decode prog_8_method_12_code 118 = .ok (.if_icmp .ge 131, 3) := zdt v_Md_cut_1 30 (q := (118, .if_icmp .ge 131, 3)) rfl
theorem d_Md_cut_121 : decode prog_8_method_12_code 121 = .ok (.aload_n 0, 1) := zdt v_Md_cut_1 31 (q := (121, .aload_n 0, 1)) rfl
theorem d_Md_cut_122 : decode prog_8_method_12_code 122 = .ok (.iload_n 2, 1) := zdt v_Md_cut_1 32 (q := (122, .iload_n 2, 1)) rfl
theorem d_Md_cut_123 : decode prog_8_method_12_code 123 = .ok (.invokevirtual 100, 3) := zdt v_Md_cut_1 33 (q := (123, .invokevirtual 100, 3)) rfl
theorem d_Md_cut_126 : decode prog_8_method_12_code 126 = .ok (.ifCond .eq 12, 3) := zdt v_Md_cut_1 34 (q := (126, .ifCond .eq 12, 3)) rfl
theorem d_Md_cut_129 : decode prog_8_method_12_code 129 = .ok (.aload_n 0, 1) := zdt v_Md_cut_1 35 (q := (129, .aload_n 0, 1)) rfl
theorem d_Md_cut_130 : decode prog_8_method_12_code 130 = .ok (.iload_n 1, 1) := zdt v_Md_cut_1 36 (q := (130, .iload_n 1, 1)) rfl
theorem d_Md_cut_131 : decode prog_8_method_12_code 131 = .ok (.iload_n 2, 1) := zdt v_Md_cut_1 37 (q := (131, .iload_n 2, 1)) rfl
theorem d_Md_cut_132 : decode prog_8_method_12_code 132 = .ok (.invokevirtual 108, 3) := zdt v_Md_cut_1 38 (q := (132, .invokevirtual 108, 3)) rfl
theorem d_Md_cut_135 : decode prog_8_method_12_code 135 = .ok (.goto 4, 3) := zdt v_Md_cut_1 39 (q := (135, .goto 4, 3)) rfl
def u_Md_cut_2 : List (Nat × Instr × Nat) := [(138, .iconst 1, 1), (139, .istore_n 3, 1), (140, .aload_n 0, 1), (141, .getfield 29, 3), (144, .iload_n 1, 1), (145, .iload_n 3, 1), (146, .ifCond .ne 16, 3), (149, .aload_n 0, 1), (150, .getfield 29, 3), (153, .iload_n 1, 1), (154, .iaload, 1), (155, .iconst 1, 1), (156, .iload_n 2, 1), (157, .ishl, 1), (158, .ior, 1), (159, .goto 9, 3), (162, .aload_n 0, 1), (163, .getfield 29, 3), (166, .iload_n 1, 1), (167, .iaload, 1), (168, .iastore, 1), (169, .aload_n 0, 1), (170, .getfield 32, 3), (173, .iload_n 1, 1), (174, .iload_n 3, 1), (175, .ifCond .le 24, 3), (178, .iload_n 2, 1), (179, .aload_n 0, 1), (180, .getfield 83, 3), (183, .if_icmp .ge 16, 3), (186, .aload_n 0, 1), (187, .getfield 32, 3), (190, .iload_n 1, 1), (191, .iaload, 1), (192, .iconst 1, 1), (193, .iload_n 2, 1), (194, .ishl, 1), (195, .ior, 1), (196, .goto 9, 3), (199, .aload_n 0, 1)]
theorem v_Md_cut_2 : u_Md_cut_2.all (zdq prog_8_method_12_code) = true := by decide +kernel
theorem d_Md_cut_138 : decode prog_8_method_12_code 138 = .ok (.iconst 1, 1) := zdt v_Md_cut_2 0 (q := (138, .iconst 1, 1)) rfl
theorem d_Md_cut_139 : decode prog_8_method_12_code 139 = .ok (.istore_n 3, 1) := zdt v_Md_cut_2 1 (q := (139, .istore_n 3, 1)) rfl
theorem d_Md_cut_140 : decode prog_8_method_12_code 140 = .ok (.aload_n 0, 1) := zdt v_Md_cut_2 2 (q := (140, .aload_n 0, 1)) rfl
theorem d_Md_cut_141 : decode prog_8_method_12_code 141 = .ok (.getfield 29, 3) := zdt v_Md_cut_2 3 (q := (141, .getfield 29, 3)) rfl
theorem d_Md_cut_144 : decode prog_8_method_12_code 144 = .ok (.iload_n 1, 1) := zdt v_Md_cut_2 4 (q := (144, .iload_n 1, 1)) rfl
theorem d_Md_cut_145 : decode prog_8_method_12_code 145 = .ok (.iload_n 3, 1) := zdt v_Md_cut_2 5 (q := (145, .iload_n 3, 1)) rfl
theorem d_Md_cut_146 : decode prog_8_method_12_code 146 = .ok (.ifCond .ne 16, 3) := zdt v_Md_cut_2 6 (q := (146, .ifCond .ne 16, 3)) rfl
theorem d_Md_cut_149 : decode prog_8_method_12_code 149 = .ok (.aload_n 0, 1) := zdt v_Md_cut_2 7 (q := (149, .aload_n 0, 1)) rfl
theorem d_Md_cut_150 : decode prog_8_method_12_code 150 = .ok (.getfield 29, 3) := zdt v_Md_cut_2 8 (q := (150, .getfield 29, 3)) rfl
theorem d_Md_cut_153 : decode prog_8_method_12_code 153 = .ok (.iload_n 1, 1) := zdt v_Md_cut_2 9 (q := (153, .iload_n 1, 1)) rfl
theorem d_Md_cut_154 : decode prog_8_method_12_code 154 = .ok (.iaload, 1) := zdt v_Md_cut_2 10 (q := (154, .iaload, 1)) rfl
theorem d_Md_cut_155 : decode prog_8_method_12_code 155 = .ok (.iconst 1, 1) := zdt v_Md_cut_2 11 (q := (155, .iconst 1, 1)) rfl
theorem d_Md_cut_156 : decode prog_8_method_12_code 156 = .ok (.iload_n 2, 1) := zdt v_Md_cut_2 12 (q := (156, .iload_n 2, 1)) rfl
theorem d_Md_cut_157 : decode prog_8_method_12_code 157 = .ok (.ishl, 1) := zdt v_Md_cut_2 13 (q := (157, .ishl, 1)) rfl
theorem d_Md_cut_158 : decode prog_8_method_12_code 158 = .ok (.ior, 1) := zdt v_Md_cut_2 14 (q := (158, .ior, 1)) rfl
theorem d_Md_cut_159 : decode prog_8_method_12_code 159 = .ok (.goto 9, 3) := zdt v_Md_cut_2 15 (q := (159, .goto 9, 3)) rfl
theorem d_Md_cut_162 : decode prog_8_method_12_code 162 = .ok (.aload_n 0, 1) := zdt v_Md_cut_2 16 (q := (162, .aload_n 0, 1)) rfl
theorem d_Md_cut_163 : decode prog_8_method_12_code 163 = .ok (.getfield 29, 3) := zdt v_Md_cut_2 17 (q := (163, .getfield 29, 3)) rfl
theorem d_Md_cut_166 : decode prog_8_method_12_code 166 = .ok (.iload_n 1, 1) := zdt v_Md_cut_2 18 (q := (166, .iload_n 1, 1)) rfl
theorem d_Md_cut_167 : decode prog_8_method_12_code 167 = .ok (.iaload, 1) := zdt v_Md_cut_2 19 (q := (167, .iaload, 1)) rfl
theorem d_Md_cut_168 : decode prog_8_method_12_code 168 = .ok (.iastore, 1) := zdt v_Md_cut_2 20 (q := (168, .iastore, 1)) rfl
theorem d_Md_cut_169 : decode prog_8_method_12_code 169 = .ok (.aload_n 0, 1) := zdt v_Md_cut_2 21 (q := (169, .aload_n 0, 1)) rfl
theorem d_Md_cut_170 : decode prog_8_method_12_code 170 = .ok (.getfield 32, 3) := zdt v_Md_cut_2 22 (q := (170, .getfield 32, 3)) rfl
theorem d_Md_cut_173 : decode prog_8_method_12_code 173 = .ok (.iload_n 1, 1) := zdt v_Md_cut_2 23 (q := (173, .iload_n 1, 1)) rfl
theorem d_Md_cut_174 : decode prog_8_method_12_code 174 = .ok (.iload_n 3, 1) := zdt v_Md_cut_2 24 (q := (174, .iload_n 3, 1)) rfl
theorem d_Md_cut_175 : decode prog_8_method_12_code 175 = .ok (.ifCond .le 24, 3) := zdt v_Md_cut_2 25 (q := (175, .ifCond .le 24, 3)) rfl
theorem d_Md_cut_178 : decode prog_8_method_12_code 178 = .ok (.iload_n 2, 1) := zdt v_Md_cut_2 26 (q := (178, .iload_n 2, 1)) rfl
theorem d_Md_cut_179 : decode prog_8_method_12_code 179 = .ok (.aload_n 0, 1) := zdt v_Md_cut_2 27 (q := (179, .aload_n 0, 1)) rfl
theorem d_Md_cut_180 : decode prog_8_method_12_code 180 = .ok (.getfield 83, 3) := zdt v_Md_cut_2 28 (q := (180, .getfield 83, 3)) rfl
theorem d_Md_cut_183 : decode prog_8_method_12_code 183 = .ok (.if_icmp .ge 16, 3) := zdt v_Md_cut_2 29 (q := (183, .if_icmp .ge 16, 3)) rfl
theorem d_Md_cut_186 : decode prog_8_method_12_code 186 = .ok (.aload_n 0, 1) := zdt v_Md_cut_2 30 (q := (186, .aload_n 0, 1)) rfl
theorem d_Md_cut_187 : decode prog_8_method_12_code 187 = .ok (.getfield 32, 3) := zdt v_Md_cut_2 31 (q := (187, .getfield 32, 3)) rfl
theorem d_Md_cut_190 : decode prog_8_method_12_code 190 = .ok (.iload_n 1, 1) := zdt v_Md_cut_2 32 (q := (190, .iload_n 1, 1)) rfl
theorem d_Md_cut_191 : decode prog_8_method_12_code 191 = .ok (.iaload, 1) := zdt v_Md_cut_2 33 (q := (191, .iaload, 1)) rfl
theorem d_Md_cut_192 : decode prog_8_method_12_code 192 = .ok (.iconst 1, 1) := zdt v_Md_cut_2 34 (q := (192, .iconst 1, 1)) rfl
theorem d_Md_cut_193 : decode prog_8_method_12_code 193 = .ok (.iload_n 2, 1) := zdt v_Md_cut_2 35 (q := (193, .iload_n 2, 1)) rfl
theorem d_Md_cut_194 : decode prog_8_method_12_code 194 = .ok (.ishl, 1) := zdt v_Md_cut_2 36 (q := (194, .ishl, 1)) rfl
theorem d_Md_cut_195 : decode prog_8_method_12_code 195 = .ok (.ior, 1) := zdt v_Md_cut_2 37 (q := (195, .ior, 1)) rfl
theorem d_Md_cut_196 : decode prog_8_method_12_code 196 = .ok (.goto 9, 3) := zdt v_Md_cut_2 38 (q := (196, .goto 9, 3)) rfl
theorem d_Md_cut_199 : decode prog_8_method_12_code 199 = .ok (.aload_n 0, 1) := zdt v_Md_cut_2 39 (q := (199, .aload_n 0, 1)) rfl
def u_Md_cut_3 : List (Nat × Instr × Nat) := [(200, .getfield 32, 3), (203, .iload_n 1, 1), (204, .iaload, 1), (205, .iastore, 1), (206, .aload_n 0, 1), (207, .getfield 35, 3), (210, .iload_n 1, 1), (211, .iload_n 3, 1), (212, .ifCond .ge 24, 3), (215, .iload_n 2, 1), (216, .aload_n 0, 1), (217, .getfield 83, 3), (220, .if_icmp .ge 16, 3), (223, .aload_n 0, 1), (224, .getfield 35, 3), (227, .iload_n 1, 1), (228, .iaload, 1), (229, .iconst 1, 1), (230, .iload_n 2, 1), (231, .ishl, 1), (232, .ior, 1), (233, .goto 9, 3), (236, .aload_n 0, 1), (237, .getfield 35, 3), (240, .iload_n 1, 1), (241, .iaload, 1), (242, .iastore, 1), (243, .iinc 2 1, 3), (246, .goto (-131), 3), (249, .iinc 1 1, 3), (252, .goto (-168), 3), (255, .aload_n 0, 1), (256, .iconst 0, 1), (257, .putfield 111, 3), (260, .aload_n 0, 1), (261, .iconst 0, 1), (262, .putfield 114, 3), (265, .iconst 0, 1), (266, .istore_n 1, 1), (267, .iload_n 1, 1)]
theorem v_Md_cut_3 : u_Md_cut_3.all (zdq prog_8_method_12_code) = true := by decide +kernel
theorem d_Md_cut_200 : decode prog_8_method_12_code 200 = .ok (.getfield 32, 3) := zdt v_Md_cut_3 0 (q := (200, .getfield 32, 3)) rfl
theorem d_Md_cut_203 : decode prog_8_method_12_code 203 = .ok (.iload_n 1, 1) := zdt v_Md_cut_3 1 (q := (203, .iload_n 1, 1)) rfl
theorem d_Md_cut_204 : decode prog_8_method_12_code 204 = .ok (.iaload, 1) := zdt v_Md_cut_3 2 (q := (204, .iaload, 1)) rfl
theorem d_Md_cut_205 : decode prog_8_method_12_code 205 = .ok (.iastore, 1) := zdt v_Md_cut_3 3 (q := (205, .iastore, 1)) rfl
theorem d_Md_cut_206 : decode prog_8_method_12_code 206 = .ok (.aload_n 0, 1) := zdt v_Md_cut_3 4 (q := (206, .aload_n 0, 1)) rfl
theorem d_Md_cut_207 : decode prog_8_method_12_code 207 = .ok (.getfield 35, 3) := zdt v_Md_cut_3 5 (q := (207, .getfield 35, 3)) rfl
theorem d_Md_cut_210 : decode prog_8_method_12_code 210 = .ok (.iload_n 1, 1) := zdt v_Md_cut_3 6 (q := (210, .iload_n 1, 1)) rfl
theorem d_Md_cut_211 : decode prog_8_method_12_code 211 = .ok (.iload_n 3, 1) := zdt v_Md_cut_3 7 (q := (211, .iload_n 3, 1)) rfl
theorem d_Md_cut_212 : decode prog_8_method_12_code 212 = .ok (.ifCond .ge 24, 3) := zdt v_Md_cut_3 8 (q := (212, .ifCond .ge 24, 3)) rfl
theorem d_Md_cut_215 : decode prog_8_method_12_code 215 = .ok (.iload_n 2, 1) := zdt v_Md_cut_3 9 (q := (215, .iload_n 2, 1)) rfl
theorem d_Md_cut_216 : decode prog_8_method_12_code 216 = .ok (.aload_n 0, 1) := zdt v_Md_cut_3 10 (q := (216, .aload_n 0, 1)) rfl
theorem d_Md_cut_217 : decode prog_8_method_12_code 217 = .ok (.getfield 83, 3) := zdt v_Md_cut_3 11 (q := (217, .getfield 83, 3)) rfl
theorem d_Md_cut_220 : decode prog_8_method_12_code 220 = .ok (.if_icmp .ge 16, 3) := zdt v_Md_cut_3 12 (q := (220, .if_icmp .ge 16, 3)) rfl
theorem d_Md_cut_223 : decode prog_8_method_12_code 223 = .ok (.aload_n 0, 1) := zdt v_Md_cut_3 13 (q := (223, .aload_n 0, 1)) rfl
theorem d_Md_cut_224 : decode prog_8_method_12_code 224 = .ok (.getfield 35, 3) := zdt v_Md_cut_3 14 (q := (224, .getfield 35, 3)) rfl
theorem d_Md_cut_227 : decode prog_8_method_12_code 227 = .ok (.iload_n 1, 1) := zdt v_Md_cut_3 15 (q := (227, .iload_n 1, 1)) rfl
theorem d_Md_cut_228 : decode prog_8_method_12_code 228 = .ok (.iaload, 1) := zdt v_Md_cut_3 16 (q := (228, .iaload, 1)) rfl
theorem d_Md_cut_229 : decode prog_8_method_12_code 229 = .ok (.iconst 1, 1) := zdt v_Md_cut_3 17 (q := (229, .iconst 1, 1)) rfl
theorem d_Md_cut_230 : decode prog_8_method_12_code 230 = .ok (.iload_n 2, 1) := zdt v_Md_cut_3 18 (q := (230, .iload_n 2, 1)) rfl
theorem d_Md_cut_231 : decode prog_8_method_12_code 231 = .ok (.ishl, 1) := zdt v_Md_cut_3 19 (q := (231, .ishl, 1)) rfl
theorem d_Md_cut_232 : decode prog_8_method_12_code 232 = .ok (.ior, 1) := zdt v_Md_cut_3 20 (q := (232, .ior, 1)) rfl
theorem d_Md_cut_233 : decode prog_8_method_12_code 233 = .ok (.goto 9, 3) := zdt v_Md_cut_3 21 (q := (233, .goto 9, 3)) rfl
theorem d_Md_cut_236 : decode prog_8_method_12_code 236 = .ok (.aload_n 0, 1) := zdt v_Md_cut_3 22 (q := (236, .aload_n 0, 1)) rfl
theorem d_Md_cut_237 : decode prog_8_method_12_code 237 = .ok (.getfield 35, 3) := zdt v_Md_cut_3 23 (q := (237, .getfield 35, 3)) rfl
theorem d_Md_cut_240 : decode prog_8_method_12_code 240 = .ok (.iload_n 1, 1) := zdt v_Md_cut_3 24 (q := (240, .iload_n 1, 1)) rfl
theorem d_Md_cut_241 : decode prog_8_method_12_code 241 = .ok (.iaload, 1) := zdt v_Md_cut_3 25 (q := (241, .iaload, 1)) rfl
theorem d_Md_cut_242 : decode prog_8_method_12_code 242 = .ok (.iastore, 1) := zdt v_Md_cut_3 26 (q := (242, .iastore, 1)) rfl
theorem d_Md_cut_243 : decode prog_8_method_12_code 243 = .ok (.iinc 2 1, 3) := zdt v_Md_cut_3 27 (q := (243, .iinc 2 1, 3)) rfl
theorem d_Md_cut_246 : decode prog_8_method_12_code 246 = .ok (.goto (-131), 3) := zdt v_Md_cut_3 28 (q := (246, .goto (-131), 3)) rfl
theorem d_Md_cut_249 : decode prog_8_method_12_code 249 = .ok (.iinc 1 1, 3) := zdt v_Md_cut_3 29 (q := (249, .iinc 1 1, 3)) rfl
theorem d_Md_cut_252 : decode prog_8_method_12_code 252 = .ok (.goto (-168), 3) := zdt v_Md_cut_3 30 (q := (252, .goto (-168), 3)) rfl
theorem d_Md_cut_255 : decode prog_8_method_12_code 255 = .ok (.aload_n 0, 1) := zdt v_Md_cut_3 31 (q := (255, .aload_n 0, 1)) rfl
theorem d_Md_cut_256 : decode prog_8_method_12_code 256 = .ok (.iconst 0, 1) := zdt v_Md_cut_3 32 (q := (256, .iconst 0, 1)) rfl
theorem d_Md_cut_257 : decode prog_8_method_12_code 257 = .ok (.putfield 111, 3) := zdt v_Md_cut_3 33 (q := (257, .putfield 111, 3)) rfl
theorem d_Md_cut_260 : decode prog_8_method_12_code 260 = .ok (.aload_n 0, 1) := zdt v_Md_cut_3 34 (q := (260, .aload_n 0, 1)) rfl
theorem d_Md_cut_261 : decode prog_8_method_12_code 261 = .ok (.iconst 0, 1) := zdt v_Md_cut_3 35 (q := (261, .iconst 0, 1)) rfl
theorem d_Md_cut_262 : decode prog_8_method_12_code 262 = .ok (.putfield 114, 3) := zdt v_Md_cut_3 36 (q := (262, .putfield 114, 3)) rfl
theorem d_Md_cut_265 : decode prog_8_method_12_code 265 = .ok (.iconst 0, 1) := zdt v_Md_cut_3 37 (q := (265, .iconst 0, 1)) rfl
theorem d_Md_cut_266 : decode prog_8_method_12_code 266 = .ok (.istore_n 1, 1) := zdt v_Md_cut_3 38 (q := (266, .istore_n 1, 1)) rfl
theorem d_Md_cut_267 : decode prog_8_method_12_code 267 = .ok (.iload_n 1, 1) := zdt v_Md_cut_3 39 (q := (267, .iload_n 1, 1)) rfl
def u_Md_cut_4 : List (Nat × Instr × Nat) := [(268, .iconst 1, 1), (269, .aload_n 0, 1), (270, .getfield 83, 3), (273, .ishl, 1), (274, .if_icmp .ge 66, 3), (277, .aload_n 0, 1), (278, .getfield 47, 3), (281, .aload_n 0, 1), (282, .getfield 111, 3), (285, .iconst 0, 1), (286, .bastore, 1), (287, .aload_n 0, 1), (288, .iload_n 1, 1), (289, .iconst 0, 1), (290, .invokevirtual 117, 3), (293, .aload_n 0, 1), (294, .invokevirtual 120, 3), (297, .if_icmp .ne 37, 3), (300, .aload_n 0, 1), (301, .getfield 41, 3), (304, .aload_n 0, 1), (305, .getfield 111, 3), (308, .iload_n 1, 1), (309, .iastore, 1), (310, .aload_n 0, 1), (311, .getfield 44, 3), (314, .aload_n 0, 1), (315, .getfield 111, 3), (318, .aload_n 0, 1), (319, .iload_n 1, 1), (320, .invokevirtual 124, 3), (323, .iastore, 1), (324, .aload_n 0, 1), (325, .dup, 1), (326, .getfield 111, 3), (329, .iconst 1, 1), (330, .iadd, 1), (331, .putfield 111, 3), (334, .iinc 1 1, 3), (337, .goto (-70), 3)]
theorem v_Md_cut_4 : u_Md_cut_4.all (zdq prog_8_method_12_code) = true := by decide +kernel
theorem d_Md_cut_268 : decode prog_8_method_12_code 268 = .ok (.iconst 1, 1) := zdt v_Md_cut_4 0 (q := (268, .iconst 1, 1)) rfl
theorem d_Md_cut_269 : decode prog_8_method_12_code 269 = .ok (.aload_n 0, 1) := zdt v_Md_cut_4 1 (q := (269, .aload_n 0, 1)) rfl
theorem d_Md_cut_270 : decode prog_8_method_12_code 270 = .ok (.getfield 83, 3) := zdt v_Md_cut_4 2 (q := (270, .getfield 83, 3)) rfl
theorem d_Md_cut_273 : decode prog_8_method_12_code 273 = .ok (.ishl, 1) := zdt v_Md_cut_4 3 (q := (273, .ishl, 1)) rfl
theorem d_Md_cut_274 : decode prog_8_method_12_code 274 = .ok (.if_icmp .ge 66, 3) := zdt v_Md_cut_4 4 (q := (274, .if_icmp .ge 66, 3)) rfl
theorem d_Md_cut_277 : decode prog_8_method_12_code 277 = .ok (.aload_n 0, 1) := zdt v_Md_cut_4 5 (q := (277, .aload_n 0, 1)) rfl
theorem d_Md_cut_278 : decode prog_8_method_12_code 278 = .ok (.getfield 47, 3) := zdt v_Md_cut_4 6 (q := (278, .getfield 47, 3)) rfl
theorem d_Md_cut_281 : decode prog_8_method_12_code 281 = .ok (.aload_n 0, 1) := zdt v_Md_cut_4 7 (q := (281, .aload_n 0, 1)) rfl
theorem d_Md_cut_282 : decode prog_8_method_12_code 282 = .ok (.getfield 111, 3) := zdt v_Md_cut_4 8 (q := (282, .getfield 111, 3)) rfl
theorem d_Md_cut_285 : decode prog_8_method_12_code 285 = .ok (.iconst 0, 1) := zdt v_Md_cut_4 9 (q := (285, .iconst 0, 1)) rfl
theorem d_Md_cut_286 : decode prog_8_method_12_code 286 = .ok (.bastore, 1) := zdt v_Md_cut_4 10 (q := (286, .bastore, 1)) rfl
theorem d_Md_cut_287 : decode prog_8_method_12_code 287 = .ok (.aload_n 0, 1) := zdt v_Md_cut_4 11 (q := (287, .aload_n 0, 1)) rfl
theorem d_Md_cut_288 : decode prog_8_method_12_code 288 = .ok (.iload_n 1, 1) := zdt v_Md_cut_4 12 (q := (288, .iload_n 1, 1)) rfl
theorem d_Md_cut_289 : decode prog_8_method_12_code 289 = .ok (.iconst 0, 1) := zdt v_Md_cut_4 13 (q := (289, .iconst 0, 1)) rfl
theorem d_Md_cut_290 : decode prog_8_method_12_code 290 = .ok (.invokevirtual 117, 3) := zdt v_Md_cut_4 14 (q := (290, .invokevirtual 117, 3)) rfl
theorem d_Md_cut_293 : decode prog_8_method_12_code 293 = .ok (.aload_n 0, 1) := zdt v_Md_cut_4 15 (q := (293, .aload_n 0, 1)) rfl
theorem d_Md_cut_294 : decode prog_8_method_12_code 294 = .ok (.invokevirtual 120, 3) := zdt v_Md_cut_4 16 (q := (294, .invokevirtual 120, 3)) rfl
theorem d_Md_cut_297 : decode prog_8_method_12_code 297 = .ok (.if_icmp .ne 37, 3) := zdt v_Md_cut_4 17 (q := (297, .if_icmp .ne 37, 3)) rfl
theorem d_Md_cut_300 : decode prog_8_method_12_code 300 = .ok (.aload_n 0, 1) := zdt v_Md_cut_4 18 (q := (300, .aload_n 0, 1)) rfl
theorem d_Md_cut_301 : decode prog_8_method_12_code 301 = .ok (.getfield 41, 3) := zdt v_Md_cut_4 19 (q := (301, .getfield 41, 3)) rfl
theorem d_Md_cut_304 : decode prog_8_method_12_code 304 = .ok (.aload_n 0, 1) := zdt v_Md_cut_4 20 (q := (304, .aload_n 0, 1)) rfl
theorem d_Md_cut_305 : decode prog_8_method_12_code 305 = .ok (.getfield 111, 3) := zdt v_Md_cut_4 21 (q := (305, .getfield 111, 3)) rfl
theorem d_Md_cut_308 : decode prog_8_method_12_code 308 = .ok (.iload_n 1, 1) := zdt v_Md_cut_4 22 (q := (308, .iload_n 1, 1)) rfl
theorem d_Md_cut_309 : decode prog_8_method_12_code 309 = .ok (.iastore, 1) := zdt v_Md_cut_4 23 (q := (309, .iastore, 1)) rfl
theorem d_Md_cut_310 : decode prog_8_method_12_code 310 = .ok (.aload_n 0, 1) := zdt v_Md_cut_4 24 (q := (310, .aload_n 0, 1)) rfl
theorem d_Md_cut_311 : decode prog_8_method_12_code 311 = .ok (.getfield 44, 3) := zdt v_Md_cut_4 25 (q := (311, .getfield 44, 3)) rfl
theorem d_Md_cut_314 : decode prog_8_method_12_code 314 = .ok (.aload_n 0, 1) := zdt v_Md_cut_4 26 (q := (314, .aload_n 0, 1)) rfl
theorem d_Md_cut_315 : decode prog_8_method_12_code 315 = .ok (.getfield 111, 3) := zdt v_Md_cut_4 27 (q := (315, .getfield 111, 3)) rfl
theorem d_Md_cut_318 : decode prog_8_method_12_code 318 = .ok (.aload_n 0, 1) := zdt v_Md_cut_4 28 (q := (318, .aload_n 0, 1)) rfl
theorem d_Md_cut_319 : decode prog_8_method_12_code 319 = .ok (.iload_n 1, 1) := zdt v_Md_cut_4 29 (q := (319, .iload_n 1, 1)) rfl
theorem d_Md_cut_320 : decode prog_8_method_12_code 320 = .ok (.invokevirtual 124, 3) := zdt v_Md_cut_4 30 (q := (320, .invokevirtual 124, 3)) rfl
theorem d_Md_cut_323 : decode prog_8_method_12_code 323 = .ok (.iastore, 1) := zdt v_Md_cut_4 31 (q := (323, .iastore, 1)) rfl
theorem d_Md_cut_324 : decode prog_8_method_12_code 324 = .ok (.aload_n 0, 1) := zdt v_Md_cut_4 32 (q := (324, .aload_n 0, 1)) rfl
theorem d_Md_cut_325 : decode prog_8_method_12_code 325 = .ok (.dup, 1) := zdt v_Md_cut_4 33 (q := (325, .dup, 1)) rfl
theorem d_Md_cut_326 : decode prog_8_method_12_code 326 = .ok (.getfield 111, 3) := zdt v_Md_cut_4 34 (q := (326, .getfield 111, 3)) rfl
theorem d_Md_cut_329 : decode prog_8_method_12_code 329 = .ok (.iconst 1, 1) := zdt v_Md_cut_4 35 (q := (329, .iconst 1, 1)) rfl
theorem d_Md_cut_330 : decode prog_8_method_12_code 330 = .ok (.iadd, 1) := zdt v_Md_cut_4 36 (q := (330, .iadd, 1)) rfl
theorem d_Md_cut_331 : decode prog_8_method_12_code 331 = .ok (.putfield 111, 3) := zdt v_Md_cut_4 37 (q := (331, .putfield 111, 3)) rfl
theorem d_Md_cut_334 : decode prog_8_method_12_code 334 = .ok (.iinc 1 1, 3) := zdt v_Md_cut_4 38 (q := (334, .iinc 1 1, 3)) rfl
theorem d_Md_cut_337 : decode prog_8_method_12_code 337 = .ok (.goto (-70), 3) := zdt v_Md_cut_4 39 (q := (337, .goto (-70), 3)) rfl
def u_Md_cut_5 : List (Nat × Instr × Nat) := [(340, .return_, 1)]
theorem v_Md_cut_5 : u_Md_cut_5.all (zdq prog_8_method_12_code) = true := by decide +kernel
theorem d_Md_cut_340 : decode prog_8_method_12_code 340 = .ok (.return_, 1) := zdt v_Md_cut_5 0 (q := (340, .return_, 1)) rfl
def u_Md_isThere_0 : List (Nat × Instr × Nat) := [(0, .iload_n 1, 1), (1, .bipush 6, 2), (3, .if_icmp .ge 11, 3), (6, .iload_n 1, 1), (7, .aload_n 0, 1), (8, .getfield 83, 3), (11, .if_icmp .ge 7, 3), (14, .iconst 1, 1), (15, .goto 4, 3), (18, .iconst 0, 1), (19, .ireturn, 1)]
theorem v_Md_isThere_0 : u_Md_isThere_0.all (zdq prog_8_method_8_code) = true := by decide +kernel
theorem d_Md_isThere_0 : decode prog_8_method_8_code 0 = .ok (.iload_n 1, 1) := zdt v_Md_isThere_0 0 (q := (0, .iload_n 1, 1)) rfl
theorem d_Md_isThere_1 : decode prog_8_method_8_code 1 = .ok (.bipush 6, 2) := zdt v_Md_isThere_0 1 (q := (1, .bipush 6, 2)) rfl
theorem d_Md_isThere_3 : decode prog_8_method_8_code 3 = .ok (.if_icmp .ge 11, 3) := zdt v_Md_isThere_0 2 (q := (3, .if_icmp .ge 11, 3)) rfl
theorem d_Md_isThere_6 : decode prog_8_method_8_code 6 = .ok (.iload_n 1, 1) := zdt v_Md_isThere_0 3 (q := (6, .iload_n 1, 1)) rfl
theorem d_Md_isThere_7 : decode prog_8_method_8_code 7 = .ok (.aload_n 0, 1) := zdt v_Md_isThere_0 4 (q := (7, .aload_n 0, 1)) rfl
theorem d_Md_isThere_8 : decode prog_8_method_8_code 8 = .ok (.getfield 83, 3) := zdt v_Md_isThere_0 5 (q := (8, .getfield 83, 3)) rfl
theorem d_Md_isThere_11 : decode prog_8_method_8_code 11 = .ok (.if_icmp .ge 7, 3) := zdt v_Md_isThere_0 6 (q := (11, .if_icmp .ge 7, 3)) rfl
theorem d_Md_isThere_14 : decode prog_8_method_8_code 14 = .ok (.iconst 1, 1) := zdt v_Md_isThere_0 7 (q := (14, .iconst 1, 1)) rfl
theorem d_Md_isThere_15 : decode prog_8_method_8_code 15 = .ok (.goto 4, 3) := zdt v_Md_isThere_0 8 (q := (15, .goto 4, 3)) rfl
theorem d_Md_isThere_18 : decode prog_8_method_8_code 18 = .ok (.iconst 0, 1) := zdt v_Md_isThere_0 9 (q := (18, .iconst 0, 1)) rfl
theorem d_Md_isThere_19 : decode prog_8_method_8_code 19 = .ok (.ireturn, 1) := zdt v_Md_isThere_0 10 (q := (19, .ireturn, 1)) rfl
def u_Md_make_0 : List (Nat × Instr × Nat) := [(0, .aload_n 0, 1), (1, .iload_n 1, 1), (2, .iload_n 2, 1), (3, .iload_n 3, 1), (4, .iconst 3, 1), (5, .invokevirtual 86, 3), (8, .istore 4, 2), (10, .iload 4, 2), (12, .ifCond .ne 4, 3), (15, .return_, 1), (16, .iload 4, 2), (18, .ifCond .ge 7, 3), (21, .iconst (-1), 1), (22, .goto 4, 3), (25, .iconst 1, 1), (26, .istore 5, 2), (28, .iload 4, 2), (30, .istore 6, 2), (32, .iconst 0, 1), (33, .istore 7, 2), (35, .iload 7, 2), (37, .iconst 3, 1), (38, .if_icmp .ge 39, 3), (41, .aload_n 0, 1), (42, .getfield 38, 3), (45, .iload 7, 2), (47, .aload_n 0, 1), (48, .iload_n 1, 1), (49, .iload_n 2, 1), (50, .iload_n 3, 1), (51, .iload 7, 2), (53, .invokevirtual 86, 3), (56, .iastore, 1), (57, .iload 6, 2), (59, .aload_n 0, 1), (60, .getfield 38, 3), (63, .iload 7, 2), (65, .iaload, 1), (66, .invokestatic 90, 3), (69, .istore 6, 2)]
theorem v_Md_make_0 : u_Md_make_0.all (zdq prog_8_method_11_code) = true := by decide +kernel
theorem d_Md_make_0 : decode prog_8_method_11_code 0 = .ok (.aload_n 0, 1) := zdt v_Md_make_0 0 (q := (0, .aload_n 0, 1)) rfl
theorem d_Md_make_1 : decode prog_8_method_11_code 1 = .ok (.iload_n 1, 1) := zdt v_Md_make_0 1 (q := (1, .iload_n 1, 1)) rfl
theorem d_Md_make_2 : decode prog_8_method_11_code 2 = .ok (.iload_n 2, 1) := zdt v_Md_make_0 2 (q := (2, .iload_n 2, 1)) rfl
theorem d_Md_make_3 : decode prog_8_method_11_code 3 = .ok (.iload_n 3, 1) := zdt v_Md_make_0 3 (q := (3, .iload_n 3, 1)) rfl
theorem d_Md_make_4 : decode prog_8_method_11_code 4 = .ok (.iconst 3, 1) := zdt v_Md_make_0 4 (q := (4, .iconst 3, 1)) rfl
theorem d_Md_make_5 : decode prog_8_method_11_code 5 = .ok (.invokevirtual 86, 3) := zdt v_Md_make_0 5 (q := (5, .invokevirtual 86, 3)) rfl
theorem d_Md_make_8 : decode prog_8_method_11_code 8 = .ok (.istore 4, 2) := zdt v_Md_make_0 6 (q := (8, .istore 4, 2)) rfl
theorem d_Md_make_10 : decode prog_8_method_11_code 10 = .ok (.iload 4, 2) := zdt v_Md_make_0 7 (q := (10, .iload 4, 2)) rfl
theorem d_Md_make_12 : decode prog_8_method_11_code 12 = .ok (.ifCond .ne 4, 3) := zdt v_Md_make_0 8 (q := (12, .ifCond .ne 4, 3)) rfl
theorem d_Md_make_15 : decode prog_8_method_11_code 15 = .ok (.return_, 1) := zdt v_Md_make_0 9 (q := (15, .return_, 1)) rfl
theorem d_Md_make_16 : decode prog_8_method_11_code 16 = .ok (.iload 4, 2) := zdt v_Md_make_0 10 (q := (16, .iload 4, 2)) rfl
theorem d_Md_make_18 : decode prog_8_method_11_code 18 = .ok (.ifCond .ge 7, 3) := zdt v_Md_make_0 11 (q := (18, .ifCond .ge 7, 3)) rfl
theorem d_Md_make_21 : decode prog_8_method_11_code 21 = .ok (.iconst (-1), 1) := zdt v_Md_make_0 12 (q := (21, .iconst (-1), 1)) rfl
theorem d_Md_make_22 : decode prog_8_method_11_code 22 = .ok (.goto 4, 3) := zdt v_Md_make_0 13 (q := (22, .goto 4, 3)) rfl
theorem d_Md_make_25 : decode prog_8_method_11_code 25 = .ok (.iconst 1, 1) := zdt v_Md_make_0 14 (q := (25, .iconst 1, 1)) rfl
theorem d_Md_make_26 : decode prog_8_method_11_code 26 = .ok (.istore 5, 2) := zdt v_Md_make_0 15 (q := (26, .istore 5, 2)) rfl
theorem d_Md_make_28 : decode prog_8_method_11_code 28 = .ok (.iload 4, 2) := zdt v_Md_make_0 16 (q := (28, .iload 4, 2)) rfl
theorem d_Md_make_30 : decode prog_8_method_11_code 30 = .ok (.istore 6, 2) := zdt v_Md_make_0 17 (q := (30, .istore 6, 2)) rfl
theorem d_Md_make_32 : decode prog_8_method_11_code 32 = .ok (.iconst 0, 1) := zdt v_Md_make_0 18 (q := (32, .iconst 0, 1)) rfl
theorem d_Md_make_33 : decode prog_8_method_11_code 33 = .ok (.istore 7, 2) := zdt v_Md_make_0 19 (q := (33, .istore 7, 2)) rfl
theorem d_Md_make_35 : decode prog_8_method_11_code 35 = .ok (.iload 7, 2) := zdt v_Md_make_0 20 (q := (35, .iload 7, 2)) rfl
theorem d_Md_make_37 : decode prog_8_method_11_code 37 = .ok (.iconst 3, 1) := zdt v_Md_make_0 21 (q := (37, .iconst 3, 1)) rfl
theorem d_Md_make_38 : decode prog_8_method_11_code 38 = .ok (.if_icmp .ge 39, 3) := zdt v_Md_make_0 22 (q := (38, .if_icmp .ge 39, 3)) rfl
theorem d_Md_make_41 : decode prog_8_method_11_code 41 = .ok (.aload_n 0, 1) := zdt v_Md_make_0 23 (q := (41, .aload_n 0, 1)) rfl
theorem d_Md_make_42 : decode prog_8_method_11_code 42 = .ok (.getfield 38, 3) := zdt v_Md_make_0 24 (q := (42, .getfield 38, 3)) rfl
theorem d_Md_make_45 : decode prog_8_method_11_code 45 = .ok (.iload 7, 2) := zdt v_Md_make_0 25 (q := (45, .iload 7, 2)) rfl
theorem d_Md_make_47 : decode prog_8_method_11_code 47 = .ok (.aload_n 0, 1) := zdt v_Md_make_0 26 (q := (47, .aload_n 0, 1)) rfl
theorem d_Md_make_48 : decode prog_8_method_11_code 48 = .ok (.iload_n 1, 1) := zdt v_Md_make_0 27 (q := (48, .iload_n 1, 1)) rfl
theorem d_Md_make_49 : decode prog_8_method_11_code 49 = .ok (.iload_n 2, 1) := zdt v_Md_make_0 28 (q := (49, .iload_n 2, 1)) rfl
theorem d_Md_make_50 : decode prog_8_method_11_code 50 = .ok (.iload_n 3, 1) := zdt v_Md_make_0 29 (q := (50, .iload_n 3, 1)) rfl
theorem d_Md_make_51 : decode prog_8_method_11_code 51 = .ok (.iload 7, 2) := zdt v_Md_make_0 30 (q := (51, .iload 7, 2)) rfl
theorem d_Md_make_53 : decode prog_8_method_11_code 53 = .ok (.invokevirtual 86, 3) := zdt v_Md_make_0 31 (q := (53, .invokevirtual 86, 3)) rfl
theorem d_Md_make_56 : decode prog_8_method_11_code 56 = .ok (.iastore, 1) := zdt v_Md_make_0 32 (q := (56, .iastore, 1)) rfl
theorem d_Md_make_57 : decode prog_8_method_11_code 57 = .ok (.iload 6, 2) := zdt v_Md_make_0 33 (q := (57, .iload 6, 2)) rfl
theorem d_Md_make_59 : decode prog_8_method_11_code 59 = .ok (.aload_n 0, 1) := zdt v_Md_make_0 34 (q := (59, .aload_n 0, 1)) rfl
theorem d_Md_make_60 : decode prog_8_method_11_code 60 = .ok (.getfield 38, 3) := zdt v_Md_make_0 35 (q := (60, .getfield 38, 3)) rfl
theorem d_Md_make_63 : decode prog_8_method_11_code 63 = .ok (.iload 7, 2) := zdt v_Md_make_0 36 (q := (63, .iload 7, 2)) rfl
theorem d_Md_make_65 : decode prog_8_method_11_code 65 = .ok (.iaload, 1) := zdt v_Md_make_0 37 (q := (65, .iaload, 1)) rfl
theorem d_Md_make_66 : decode prog_8_method_11_code 66 = .ok (.invokestatic 90, 3) := zdt v_Md_make_0 38 (q := (66, .invokestatic 90, 3)) rfl
theorem d_Md_make_69 : decode prog_8_method_11_code 69 = .ok (.istore 6, 2) := zdt v_Md_make_0 39 (q := (69, .istore 6, 2)) rfl
def u_Md_make_1 : List (Nat × Instr × Nat) := [(71, .iinc 7 1, 3), (74, .goto (-39), 3), (77, .aload_n 0, 1), (78, .getfield 38, 3), (81, .iconst 3, 1), (82, .iload 5, 2), (84, .iload 4, 2), (86, .imul, 1), (87, .iload 6, 2), (89, .idiv, 1), (90, .iastore, 1), (91, .iconst 0, 1), (92, .istore 7, 2), (94, .iload 7, 2), (96, .iconst 3, 1), (97, .if_icmp .ge 64, 3), (100, .aload_n 0, 1), (101, .getfield 38, 3), (104, .iload 7, 2), (106, .iload 5, 2), (108, .aload_n 0, 1), (109, .getfield 38, 3), (112, .iload 7, 2), (114, .iaload, 1), (115, .imul, 1), (116, .iload 6, 2), (118, .idiv, 1), (119, .iastore, 1), (120, .aload_n 0, 1), (121, .getfield 38, 3), (124, .iload 7, 2), (126, .iaload, 1), (127, .ifCond .lt 27, 3), (130, .aload_n 0, 1), (131, .getfield 38, 3), (134, .iload 7, 2), (136, .iaload, 1), (137, .aload_n 0, 1), (138, .getfield 7, 3), (141, .iload 7, 2)]
theorem v_Md_make_1 : u_Md_make_1.all (zdq prog_8_method_11_code) = true := by decide +kernel
theorem d_Md_make_71 : decode prog_8_method_11_code 71 = .ok (.iinc 7 1, 3) := zdt v_Md_make_1 0 (q := (71, .iinc 7 1, 3)) rfl
theorem d_Md_make_74 : decode prog_8_method_11_code 74 = .ok (.goto (-39), 3) := zdt v_Md_make_1 1 (q := (74, .goto (-39), 3)) rfl
theorem d_Md_make_77 : decode prog_8_method_11_code 77 = .ok (.aload_n 0, 1) := zdt v_Md_make_1 2 (q := (77, .aload_n 0, 1)) rfl
theorem d_Md_make_78 : decode prog_8_method_11_code 78 = .ok (.getfield 38, 3) := zdt v_Md_make_1 3 (q := (78, .getfield 38, 3)) rfl
theorem d_Md_make_81 : decode prog_8_method_11_code 81 = .ok (.iconst 3, 1) := zdt v_Md_make_1 4 (q := (81, .iconst 3, 1)) rfl
theorem d_Md_make_82 : decode prog_8_method_11_code 82 = .ok (.iload 5, 2) := zdt v_Md_make_1 5 (q := (82, .iload 5, 2)) rfl
theorem d_Md_make_84 : decode prog_8_method_11_code 84 = .ok (.iload 4, 2) := zdt v_Md_make_1 6 (q := (84, .iload 4, 2)) rfl
theorem d_Md_make_86 : decode prog_8_method_11_code 86 = .ok (.imul, 1) := zdt v_Md_make_1 7 (q := (86, .imul, 1)) rfl
theorem d_Md_make_87 : decode prog_8_method_11_code 87 = .ok (.iload 6, 2) := zdt v_Md_make_1 8 (q := (87, .iload 6, 2)) rfl
theorem d_Md_make_89 : decode prog_8_method_11_code 89 = .ok (.idiv, 1) := zdt v_Md_make_1 9 (q := (89, .idiv, 1)) rfl
theorem d_Md_make_90 : decode prog_8_method_11_code 90 = .ok (.iastore, 1) := zdt v_Md_make_1 10 (q := (90, .iastore, 1)) rfl
theorem d_Md_make_91 : decode prog_8_method_11_code 91 = .ok (.iconst 0, 1) := zdt v_Md_make_1 11 (q := (91, .iconst 0, 1)) rfl
theorem d_Md_make_92 : decode prog_8_method_11_code 92 = .ok (.istore 7, 2) := zdt v_Md_make_1 12 (q := (92, .istore 7, 2)) rfl
theorem d_Md_make_94 : decode prog_8_method_11_code 94 = .ok (.iload 7, 2) := zdt v_Md_make_1 13 (q := (94, .iload 7, 2)) rfl
theorem d_Md_make_96 : decode prog_8_method_11_code 96 = .ok (.iconst 3, 1) := zdt v_Md_make_1 14 (q := (96, .iconst 3, 1)) rfl
theorem d_Md_make_97 : decode prog_8_method_11_code 97 = .ok (.if_icmp .ge 64, 3) := zdt v_Md_make_1 15 (q := (97, .if_icmp .ge 64, 3)) rfl
theorem d_Md_make_100 : decode prog_8_method_11_code 100 = .ok (.aload_n 0, 1) := zdt v_Md_make_1 16 (q := (100, .aload_n 0, 1)) rfl
theorem d_Md_make_101 : decode prog_8_method_11_code 101 = .ok (.getfield 38, 3) := zdt v_Md_make_1 17 (q := (101, .getfield 38, 3)) rfl
theorem d_Md_make_104 : decode prog_8_method_11_code 104 = .ok (.iload 7, 2) := zdt v_Md_make_1 18 (q := (104, .iload 7, 2)) rfl
theorem d_Md_make_106 : decode prog_8_method_11_code 106 = .ok (.iload 5, 2) := zdt v_Md_make_1 19 (q := (106, .iload 5, 2)) rfl
theorem d_Md_make_108 : decode prog_8_method_11_code 108 = .ok (.aload_n 0, 1) := zdt v_Md_make_1 20 (q := (108, .aload_n 0, 1)) rfl
theorem d_Md_make_109 : decode prog_8_method_11_code 109 = .ok (.getfield 38, 3) := zdt v_Md_make_1 21 (q := (109, .getfield 38, 3)) rfl
theorem d_Md_make_112 : decode prog_8_method_11_code 112 = .ok (.iload 7, 2) := zdt v_Md_make_1 22 (q := (112, .iload 7, 2)) rfl
theorem d_Md_make_114 : decode prog_8_method_11_code 114 = .ok (.iaload, 1) := zdt v_Md_make_1 23 (q := (114, .iaload, 1)) rfl
theorem d_Md_make_115 : decode prog_8_method_11_code 115 = .ok (.imul, 1) := zdt v_Md_make_1 24 (q := (115, .imul, 1)) rfl
theorem d_Md_make_116 : decode prog_8_method_11_code 116 = .ok (.iload 6, 2) := zdt v_Md_make_1 25 (q := (116, .iload 6, 2)) rfl
theorem d_Md_make_118 : decode prog_8_method_11_code 118 = .ok (.idiv, 1) := zdt v_Md_make_1 26 (q := (118, .idiv, 1)) rfl
theorem d_Md_make_119 : decode prog_8_method_11_code 119 = .ok (.iastore, 1) := zdt v_Md_make_1 27 (q := (119, .iastore, 1)) rfl
theorem d_Md_make_120 : decode prog_8_method_11_code 120 = .ok (.aload_n 0, 1) := zdt v_Md_make_1 28 (q := (120, .aload_n 0, 1)) rfl
theorem d_Md_make_121 : decode prog_8_method_11_code 121 = .ok (.getfield 38, 3) := zdt v_Md_make_1 29 (q := (121, .getfield 38, 3)) rfl
theorem d_Md_make_124 : decode prog_8_method_11_code 124 = .ok (.iload 7, 2) := zdt v_Md_make_1 30 (q := (124, .iload 7, 2)) rfl
theorem d_Md_make_126 : decode prog_8_method_11_code 126 = .ok (.iaload, 1) := zdt v_Md_make_1 31 (q := (126, .iaload, 1)) rfl
theorem d_Md_make_127 : decode prog_8_method_11_code 127 = .ok (.ifCond .lt 27, 3) := zdt v_Md_make_1 32 (q := (127, .ifCond .lt 27, 3)) rfl
theorem d_Md_make_130 : decode prog_8_method_11_code 130 = .ok (.aload_n 0, 1) := zdt v_Md_make_1 33 (q := (130, .aload_n 0, 1)) rfl
theorem d_Md_make_131 : decode prog_8_method_11_code 131 = .ok (.getfield 38, 3) := zdt v_Md_make_1 34 (q := (131, .getfield 38, 3)) rfl
theorem d_Md_make_134 : decode prog_8_method_11_code 134 = .ok (.iload 7, 2) := zdt v_Md_make_1 35 (q := (134, .iload 7, 2)) rfl
theorem d_Md_make_136 : decode prog_8_method_11_code 136 = .ok (.iaload, 1) := zdt v_Md_make_1 36 (q := (136, .iaload, 1)) rfl
theorem d_Md_make_137 : decode prog_8_method_11_code 137 = .ok (.aload_n 0, 1) := zdt v_Md_make_1 37 (q := (137, .aload_n 0, 1)) rfl
theorem d_Md_make_138 : decode prog_8_method_11_code 138 = .ok (.getfield 7, 3) := zdt v_Md_make_1 38 (q := (138, .getfield 7, 3)) rfl
theorem d_Md_make_141 : decode prog_8_method_11_code 141 = .ok (.iload 7, 2) := zdt v_Md_make_1 39 (q := (141, .iload 7, 2)) rfl
def u_Md_make_2 : List (Nat × Instr × Nat) := [(143, .iaload, 1), (144, .aload_n 0, 1), (145, .getfield 38, 3), (148, .iconst 3, 1), (149, .iaload, 1), (150, .imul, 1), (151, .if_icmp .le 4, 3), (154, .return_, 1), (155, .iinc 7 1, 3), (158, .goto (-64), 3), (161, .aload_n 0, 1), (162, .getfield 94, 3), (165, .istore 7, 2), (167, .iload 7, 2), (169, .ifCond .le 20, 3), (172, .aload_n 0, 1), (173, .iload 7, 2), (175, .iconst 1, 1), (176, .isub, 1), (177, .invokevirtual 97, 3), (180, .ifCond .ge 9, 3), (183, .iinc 7 (-1), 3), (186, .goto (-19), 3), (189, .iload 7, 2), (191, .ifCond .le 15, 3), (194, .aload_n 0, 1), (195, .iload 7, 2), (197, .iconst 1, 1), (198, .isub, 1), (199, .invokevirtual 97, 3), (202, .ifCond .ne 4, 3), (205, .return_, 1), (206, .iconst 4, 1), (207, .aload_n 0, 1), (208, .getfield 94, 3), (211, .imul, 1), (212, .iconst 1, 1), (213, .isub, 1), (214, .istore 8, 2), (216, .iload 8, 2)]
theorem v_Md_make_2 : u_Md_make_2.all (zdq prog_8_method_11_code) = true := by decide +kernel
theorem d_Md_make_143 : decode prog_8_method_11_code 143 = .ok (.iaload, 1) := zdt v_Md_make_2 0 (q := (143, .iaload, 1)) rfl
theorem d_Md_make_144 : decode prog_8_method_11_code 144 = .ok (.aload_n 0, 1) := zdt v_Md_make_2 1 (q := (144, .aload_n 0, 1)) rfl
theorem d_Md_make_145 : decode prog_8_method_11_code 145 = .ok (.getfield 38, 3) := zdt v_Md_make_2 2 (q := (145, .getfield 38, 3)) rfl
theorem d_Md_make_148 : decode prog_8_method_11_code 148 = .ok (.iconst 3, 1) := zdt v_Md_make_2 3 (q := (148, .iconst 3, 1)) rfl
theorem d_Md_make_149 : decode prog_8_method_11_code 149 = .ok (.iaload, 1) := zdt v_Md_make_2 4 (q := (149, .iaload, 1)) rfl
theorem d_Md_make_150 : decode prog_8_method_11_code 150 = .ok (.imul, 1) := zdt v_Md_make_2 5 (q := (150, .imul, 1)) rfl
theorem d_Md_make_151 : decode prog_8_method_11_code 151 = .ok (.if_icmp .le 4, 3) := zdt v_Md_make_2 6 (q := (151, .if_icmp .le 4, 3)) rfl
theorem d_Md_make_154 : decode prog_8_method_11_code 154 = .ok (.return_, 1) := zdt v_Md_make_2 7 (q := (154, .return_, 1)) rfl
theorem d_Md_make_155 : decode prog_8_method_11_code 155 = .ok (.iinc 7 1, 3) := zdt v_Md_make_2 8 (q := (155, .iinc 7 1, 3)) rfl
theorem d_Md_make_158 : decode prog_8_method_11_code 158 = .ok (.goto (-64), 3) := zdt v_Md_make_2 9 (q := (158, .goto (-64), 3)) rfl
theorem d_Md_make_161 : decode prog_8_method_11_code 161 = .ok (.aload_n 0, 1) := zdt v_Md_make_2 10 (q := (161, .aload_n 0, 1)) rfl
theorem d_Md_make_162 : decode prog_8_method_11_code 162 = .ok (.getfield 94, 3) := zdt v_Md_make_2 11 (q := (162, .getfield 94, 3)) rfl
theorem d_Md_make_165 : decode prog_8_method_11_code 165 = .ok (.istore 7, 2) := zdt v_Md_make_2 12 (q := (165, .istore 7, 2)) rfl
theorem d_Md_make_167 : decode prog_8_method_11_code 167 = .ok (.iload 7, 2) := zdt v_Md_make_2 13 (q := (167, .iload 7, 2)) rfl
theorem d_Md_make_169 : decode prog_8_method_11_code 169 = .ok (.ifCond .le 20, 3) := zdt v_Md_make_2 14 (q := (169, .ifCond .le 20, 3)) rfl
theorem d_Md_make_172 : decode prog_8_method_11_code 172 = .ok (.aload_n 0, 1) := zdt v_Md_make_2 15 (q := (172, .aload_n 0, 1)) rfl
theorem d_Md_make_173 : decode prog_8_method_11_code 173 = .ok (.iload 7, 2) := zdt v_Md_make_2 16 (q := (173, .iload 7, 2)) rfl
theorem d_Md_make_175 : decode prog_8_method_11_code 175 = .ok (.iconst 1, 1) := zdt v_Md_make_2 17 (q := (175, .iconst 1, 1)) rfl
theorem d_Md_make_176 : decode prog_8_method_11_code 176 = .ok (.isub, 1) := zdt v_Md_make_2 18 (q := (176, .isub, 1)) rfl
theorem d_Md_make_177 : decode prog_8_method_11_code 177 = .ok (.invokevirtual 97, 3) := zdt v_Md_make_2 19 (q := (177, .invokevirtual 97, 3)) rfl
theorem d_Md_make_180 : decode prog_8_method_11_code 180 = .ok (.ifCond .ge 9, 3) := zdt v_Md_make_2 20 (q := (180, .ifCond .ge 9, 3)) rfl
theorem d_Md_make_183 : decode prog_8_method_11_code 183 = .ok (.iinc 7 (-1), 3) := zdt v_Md_make_2 21 (q := (183, .iinc 7 (-1), 3)) rfl
theorem d_Md_make_186 : decode prog_8_method_11_code 186 = .ok (.goto (-19), 3) := zdt v_Md_make_2 22 (q := (186, .goto (-19), 3)) rfl
theorem d_Md_make_189 : decode prog_8_method_11_code 189 = .ok (.iload 7, 2) := zdt v_Md_make_2 23 (q := (189, .iload 7, 2)) rfl
theorem d_Md_make_191 : decode prog_8_method_11_code 191 = .ok (.ifCond .le 15, 3) := zdt v_Md_make_2 24 (q := (191, .ifCond .le 15, 3)) rfl
theorem d_Md_make_194 : decode prog_8_method_11_code 194 = .ok (.aload_n 0, 1) := zdt v_Md_make_2 25 (q := (194, .aload_n 0, 1)) rfl
theorem d_Md_make_195 : decode prog_8_method_11_code 195 = .ok (.iload 7, 2) := zdt v_Md_make_2 26 (q := (195, .iload 7, 2)) rfl
theorem d_Md_make_197 : decode prog_8_method_11_code 197 = .ok (.iconst 1, 1) := zdt v_Md_make_2 27 (q := (197, .iconst 1, 1)) rfl
theorem d_Md_make_198 : decode prog_8_method_11_code 198 = .ok (.isub, 1) := zdt v_Md_make_2 28 (q := (198, .isub, 1)) rfl
theorem d_Md_make_199 : decode prog_8_method_11_code 199 = .ok (.invokevirtual 97, 3) := zdt v_Md_make_2 29 (q := (199, .invokevirtual 97, 3)) rfl
theorem d_Md_make_202 : decode prog_8_method_11_code 202 = .ok (.ifCond .ne 4, 3) := zdt v_Md_make_2 30 (q := (202, .ifCond .ne 4, 3)) rfl
theorem d_Md_make_205 : decode prog_8_method_11_code 205 = .ok (.return_, 1) := zdt v_Md_make_2 31 (q := (205, .return_, 1)) rfl
theorem d_Md_make_206 : decode prog_8_method_11_code 206 = .ok (.iconst 4, 1) := zdt v_Md_make_2 32 (q := (206, .iconst 4, 1)) rfl
theorem d_Md_make_207 : decode prog_8_method_11_code 207 = .ok (.aload_n 0, 1) := zdt v_Md_make_2 33 (q := (207, .aload_n 0, 1)) rfl
theorem d_Md_make_208 : decode prog_8_method_11_code 208 = .ok (.getfield 94, 3) := zdt v_Md_make_2 34 (q := (208, .getfield 94, 3)) rfl
theorem d_Md_make_211 : decode prog_8_method_11_code 211 = .ok (.imul, 1) := zdt v_Md_make_2 35 (q := (211, .imul, 1)) rfl
theorem d_Md_make_212 : decode prog_8_method_11_code 212 = .ok (.iconst 1, 1) := zdt v_Md_make_2 36 (q := (212, .iconst 1, 1)) rfl
theorem d_Md_make_213 : decode prog_8_method_11_code 213 = .ok (.isub, 1) := zdt v_Md_make_2 37 (q := (213, .isub, 1)) rfl
theorem d_Md_make_214 : decode prog_8_method_11_code 214 = .ok (.istore 8, 2) := zdt v_Md_make_2 38 (q := (214, .istore 8, 2)) rfl
theorem d_Md_make_216 : decode prog_8_method_11_code 216 = .ok (.iload 8, 2) := zdt v_Md_make_2 39 (q := (216, .iload 8, 2)) rfl
def u_Md_make_3 : List (Nat × Instr × Nat) := [(218, .iconst 4, 1), (219, .iload 7, 2), (221, .imul, 1), (222, .if_icmp .lt 25, 3), (225, .aload_n 0, 1), (226, .getfield 26, 3), (229, .iload 8, 2), (231, .iconst 4, 1), (232, .iadd, 1), (233, .aload_n 0, 1), (234, .getfield 26, 3), (237, .iload 8, 2), (239, .iaload, 1), (240, .iastore, 1), (241, .iinc 8 (-1), 3), (244, .goto (-28), 3), (247, .iconst 0, 1), (248, .istore 8, 2), (250, .iload 8, 2), (252, .iconst 4, 1), (253, .if_icmp .ge 28, 3), (256, .aload_n 0, 1), (257, .getfield 26, 3), (260, .iconst 4, 1), (261, .iload 7, 2), (263, .imul, 1), (264, .iload 8, 2), (266, .iadd, 1), (267, .aload_n 0, 1), (268, .getfield 38, 3), (271, .iload 8, 2), (273, .iaload, 1), (274, .iastore, 1), (275, .iinc 8 1, 3), (278, .goto (-28), 3), (281, .aload_n 0, 1), (282, .dup, 1), (283, .getfield 94, 3), (286, .iconst 1, 1), (287, .iadd, 1)]
theorem v_Md_make_3 : u_Md_make_3.all (zdq prog_8_method_11_code) = true := by decide +kernel
theorem d_Md_make_218 : decode prog_8_method_11_code 218 = .ok (.iconst 4, 1) := zdt v_Md_make_3 0 (q := (218, .iconst 4, 1)) rfl
theorem d_Md_make_219 : decode prog_8_method_11_code 219 = .ok (.iload 7, 2) := zdt v_Md_make_3 1 (q := (219, .iload 7, 2)) rfl
theorem d_Md_make_221 : decode prog_8_method_11_code 221 = .ok (.imul, 1) := zdt v_Md_make_3 2 (q := (221, .imul, 1)) rfl
theorem d_Md_make_222 : decode prog_8_method_11_code 222 = .ok (.if_icmp .lt 25, 3) := zdt v_Md_make_3 3 (q := (222, .if_icmp .lt 25, 3)) rfl
theorem d_Md_make_225 : decode prog_8_method_11_code 225 = .ok (.aload_n 0, 1) := zdt v_Md_make_3 4 (q := (225, .aload_n 0, 1)) rfl
theorem d_Md_make_226 : decode prog_8_method_11_code 226 = .ok (.getfield 26, 3) := zdt v_Md_make_3 5 (q := (226, .getfield 26, 3)) rfl
theorem d_Md_make_229 : decode prog_8_method_11_code 229 = .ok (.iload 8, 2) := zdt v_Md_make_3 6 (q := (229, .iload 8, 2)) rfl
theorem d_Md_make_231 : decode prog_8_method_11_code 231 = .ok (.iconst 4, 1) := zdt v_Md_make_3 7 (q := (231, .iconst 4, 1)) rfl
theorem d_Md_make_232 : decode prog_8_method_11_code 232 = .ok (.iadd, 1) := zdt v_Md_make_3 8 (q := (232, .iadd, 1)) rfl
theorem d_Md_make_233 : decode prog_8_method_11_code 233 = .ok (.aload_n 0, 1) := zdt v_Md_make_3 9 (q := (233, .aload_n 0, 1)) rfl
theorem d_Md_make_234 : decode prog_8_method_11_code 234 = .ok (.getfield 26, 3) := zdt v_Md_make_3 10 (q := (234, .getfield 26, 3)) rfl
theorem d_Md_make_237 : decode prog_8_method_11_code 237 = .ok (.iload 8, 2) := zdt v_Md_make_3 11 (q := (237, .iload 8, 2)) rfl
theorem d_Md_make_239 : decode prog_8_method_11_code 239 = .ok (.iaload, 1) := zdt v_Md_make_3 12 (q := (239, .iaload, 1)) rfl
theorem d_Md_make_240 : decode prog_8_method_11_code 240 = .ok (.iastore, 1) := zdt v_Md_make_3 13 (q := (240, .iastore, 1)) rfl
theorem d_Md_make_241 : decode prog_8_method_11_code 241 = .ok (.iinc 8 (-1), 3) := zdt v_Md_make_3 14 (q := (241, .iinc 8 (-1), 3)) rfl
theorem d_Md_make_244 : decode prog_8_method_11_code 244 = .ok (.goto (-28), 3) := zdt v_Md_make_3 15 (q := (244, .goto (-28), 3)) rfl
theorem d_Md_make_247 : decode prog_8_method_11_code 247 = .ok (.iconst 0, 1) := zdt v_Md_make_3 16 (q := (247, .iconst 0, 1)) rfl
theorem d_Md_make_248 : decode prog_8_method_11_code 248 = .ok (.istore 8, 2) := zdt v_Md_make_3 17 (q := (248, .istore 8, 2)) rfl
theorem d_Md_make_250 : decode prog_8_method_11_code 250 = .ok (.iload 8, 2) := zdt v_Md_make_3 18 (q := (250, .iload 8, 2)) rfl
theorem d_Md_make_252 : decode prog_8_method_11_code 252 = .ok (.iconst 4, 1) := zdt v_Md_make_3 19 (q := (252, .iconst 4, 1)) rfl
theorem d_Md_make_253 : decode prog_8_method_11_code 253 = .ok (.if_icmp .ge 28, 3) := zdt v_Md_make_3 20 (q := (253, .if_icmp .ge 28, 3)) rfl
theorem d_Md_make_256 : decode prog_8_method_11_code 256 = .ok (.aload_n 0, 1) := zdt v_Md_make_3 21 (q := (256, .aload_n 0, 1)) rfl
theorem d_Md_make_257 : decode prog_8_method_11_code 257 = .ok (.getfield 26, 3) := zdt v_Md_make_3 22 (q := (257, .getfield 26, 3)) rfl
theorem d_Md_make_260 : decode prog_8_method_11_code 260 = .ok (.iconst 4, 1) := zdt v_Md_make_3 23 (q := (260, .iconst 4, 1)) rfl
theorem d_Md_make_261 : decode prog_8_method_11_code 261 = .ok (.iload 7, 2) := zdt v_Md_make_3 24 (q := (261, .iload 7, 2)) rfl
theorem d_Md_make_263 : decode prog_8_method_11_code 263 = .ok (.imul, 1) := zdt v_Md_make_3 25 (q := (263, .imul, 1)) rfl
theorem d_Md_make_264 : decode prog_8_method_11_code 264 = .ok (.iload 8, 2) := zdt v_Md_make_3 26 (q := (264, .iload 8, 2)) rfl
theorem d_Md_make_266 : decode prog_8_method_11_code 266 = .ok (.iadd, 1) := zdt v_Md_make_3 27 (q := (266, .iadd, 1)) rfl
theorem d_Md_make_267 : decode prog_8_method_11_code 267 = .ok (.aload_n 0, 1) := zdt v_Md_make_3 28 (q := (267, .aload_n 0, 1)) rfl
theorem d_Md_make_268 : decode prog_8_method_11_code 268 = .ok (.getfield 38, 3) := zdt v_Md_make_3 29 (q := (268, .getfield 38, 3)) rfl
theorem d_Md_make_271 : decode prog_8_method_11_code 271 = .ok (.iload 8, 2) := zdt v_Md_make_3 30 (q := (271, .iload 8, 2)) rfl
theorem d_Md_make_273 : decode prog_8_method_11_code 273 = .ok (.iaload, 1) := zdt v_Md_make_3 31 (q := (273, .iaload, 1)) rfl
theorem d_Md_make_274 : decode prog_8_method_11_code 274 = .ok (.iastore, 1) := zdt v_Md_make_3 32 (q := (274, .iastore, 1)) rfl
theorem d_Md_make_275 : decode prog_8_method_11_code 275 = .ok (.iinc 8 1, 3) := zdt v_Md_make_3 33 (q := (275, .iinc 8 1, 3)) rfl
theorem d_Md_make_278 : decode prog_8_method_11_code 278 = .ok (.goto (-28), 3) := zdt v_Md_make_3 34 (q := (278, .goto (-28), 3)) rfl
theorem d_Md_make_281 : decode prog_8_method_11_code 281 = .ok (.aload_n 0, 1) := zdt v_Md_make_3 35 (q := (281, .aload_n 0, 1)) rfl
theorem d_Md_make_282 : decode prog_8_method_11_code 282 = .ok (.dup, 1) := zdt v_Md_make_3 36 (q := (282, .dup, 1)) rfl
theorem d_Md_make_283 : decode prog_8_method_11_code 283 = .ok (.getfield 94, 3) := zdt v_Md_make_3 37 (q := (283, .getfield 94, 3)) rfl
theorem d_Md_make_286 : decode prog_8_method_11_code 286 = .ok (.iconst 1, 1) := zdt v_Md_make_3 38 (q := (286, .iconst 1, 1)) rfl
theorem d_Md_make_287 : decode prog_8_method_11_code 287 = .ok (.iadd, 1) := zdt v_Md_make_3 39 (q := (287, .iadd, 1)) rfl
def u_Md_make_4 : List (Nat × Instr × Nat) := [(288, .putfield 94, 3), (291, .return_, 1)]
theorem v_Md_make_4 : u_Md_make_4.all (zdq prog_8_method_11_code) = true := by decide +kernel
theorem d_Md_make_288 : decode prog_8_method_11_code 288 = .ok (.putfield 94, 3) := zdt v_Md_make_4 0 (q := (288, .putfield 94, 3)) rfl
theorem d_Md_make_291 : decode prog_8_method_11_code 291 = .ok (.return_, 1) := zdt v_Md_make_4 1 (q := (291, .return_, 1)) rfl
def u_Md_determinant_0 : List (Nat × Instr × Nat) := [(0, .aload_n 0, 1), (1, .iload_n 1, 1), (2, .iconst 0, 1), (3, .iload 4, 2), (5, .invokevirtual 79, 3), (8, .aload_n 0, 1), (9, .iload_n 2, 1), (10, .iconst 1, 1), (11, .iload 4, 2), (13, .invokevirtual 79, 3), (16, .aload_n 0, 1), (17, .iload_n 3, 1), (18, .iconst 2, 1), (19, .iload 4, 2), (21, .invokevirtual 79, 3), (24, .imul, 1), (25, .aload_n 0, 1), (26, .iload_n 2, 1), (27, .iconst 2, 1), (28, .iload 4, 2), (30, .invokevirtual 79, 3), (33, .aload_n 0, 1), (34, .iload_n 3, 1), (35, .iconst 1, 1), (36, .iload 4, 2), (38, .invokevirtual 79, 3), (41, .imul, 1), (42, .isub, 1), (43, .imul, 1), (44, .istore 5, 2), (46, .aload_n 0, 1), (47, .iload_n 1, 1), (48, .iconst 1, 1), (49, .iload 4, 2), (51, .invokevirtual 79, 3), (54, .aload_n 0, 1), (55, .iload_n 2, 1), (56, .iconst 0, 1), (57, .iload 4, 2), (59, .invokevirtual 79, 3)]
theorem v_Md_determinant_0 : u_Md_determinant_0.all (zdq prog_8_method_7_code) = true := by decide +kernel
theorem d_Md_determinant_0 : decode prog_8_method_7_code 0 = .ok (.aload_n 0, 1) := zdt v_Md_determinant_0 0 (q := (0, .aload_n 0, 1)) rfl
theorem d_Md_determinant_1 : decode prog_8_method_7_code 1 = .ok (.iload_n 1, 1) := zdt v_Md_determinant_0 1 (q := (1, .iload_n 1, 1)) rfl
theorem d_Md_determinant_2 : decode prog_8_method_7_code 2 = .ok (.iconst 0, 1) := zdt v_Md_determinant_0 2 (q := (2, .iconst 0, 1)) rfl
theorem d_Md_determinant_3 : decode prog_8_method_7_code 3 = .ok (.iload 4, 2) := zdt v_Md_determinant_0 3 (q := (3, .iload 4, 2)) rfl
theorem d_Md_determinant_5 : decode prog_8_method_7_code 5 = .ok (.invokevirtual 79, 3) := zdt v_Md_determinant_0 4 (q := (5, .invokevirtual 79, 3)) rfl
theorem d_Md_determinant_8 : decode prog_8_method_7_code 8 = .ok (.aload_n 0, 1) := zdt v_Md_determinant_0 5 (q := (8, .aload_n 0, 1)) rfl
theorem d_Md_determinant_9 : decode prog_8_method_7_code 9 = .ok (.iload_n 2, 1) := zdt v_Md_determinant_0 6 (q := (9, .iload_n 2, 1)) rfl
theorem d_Md_determinant_10 : decode prog_8_method_7_code 10 = .ok (.iconst 1, 1) := zdt v_Md_determinant_0 7 (q := (10, .iconst 1, 1)) rfl
theorem d_Md_determinant_11 : decode prog_8_method_7_code 11 = .ok (.iload 4, 2) := zdt v_Md_determinant_0 8 (q := (11, .iload 4, 2)) rfl
theorem d_Md_determinant_13 : decode prog_8_method_7_code 13 = .ok (.invokevirtual 79, 3) := zdt v_Md_determinant_0 9 (q := (13, .invokevirtual 79, 3)) rfl
theorem d_Md_determinant_16 : decode prog_8_method_7_code 16 = .ok (.aload_n 0, 1) := zdt v_Md_determinant_0 10 (q := (16, .aload_n 0, 1)) rfl
theorem d_Md_determinant_17 : decode prog_8_method_7_code 17 = .ok (.iload_n 3, 1) := zdt v_Md_determinant_0 11 (q := (17, .iload_n 3, 1)) rfl
theorem d_Md_determinant_18 : decode prog_8_method_7_code 18 = .ok (.iconst 2, 1) := zdt v_Md_determinant_0 12 (q := (18, .iconst 2, 1)) rfl
theorem d_Md_determinant_19 : decode prog_8_method_7_code 19 = .ok (.iload 4, 2) := zdt v_Md_determinant_0 13 (q := (19, .iload 4, 2)) rfl
theorem d_Md_determinant_21 : decode prog_8_method_7_code 21 = .ok (.invokevirtual 79, 3) := zdt v_Md_determinant_0 14 (q := (21, .invokevirtual 79, 3)) rfl
theorem d_Md_determinant_24 : decode prog_8_method_7_code 24 = .ok (.imul, 1) := zdt v_Md_determinant_0 15 (q := (24, .imul, 1)) rfl
theorem d_Md_determinant_25 : decode prog_8_method_7_code 25 = .ok (.aload_n 0, 1) := zdt v_Md_determinant_0 16 (q := (25, .aload_n 0, 1)) rfl
theorem d_Md_determinant_26 : decode prog_8_method_7_code 26 = .ok (.iload_n 2, 1) := zdt v_Md_determinant_0 17 (q := (26, .iload_n 2, 1)) rfl
theorem d_Md_determinant_27 : decode prog_8_method_7_code 27 = .ok (.iconst 2, 1) := zdt v_Md_determinant_0 18 (q := (27, .iconst 2, 1)) rfl
theorem d_Md_determinant_28 : decode prog_8_method_7_code 28 = .ok (.iload 4, 2) := zdt v_Md_determinant_0 19 (q := (28, .iload 4, 2)) rfl
theorem d_Md_determinant_30 : decode prog_8_method_7_code 30 = .ok (.invokevirtual 79, 3) := zdt v_Md_determinant_0 20 (q := (30, .invokevirtual 79, 3)) rfl
theorem d_Md_determinant_33 : decode prog_8_method_7_code 33 = .ok (.aload_n 0, 1) := zdt v_Md_determinant_0 21 (q := (33, .aload_n 0, 1)) rfl
theorem d_Md_determinant_34 : decode prog_8_method_7_code 34 = .ok (.iload_n 3, 1) := zdt v_Md_determinant_0 22 (q := (34, .iload_n 3, 1)) rfl
theorem d_Md_determinant_35 : decode prog_8_method_7_code 35 = .ok (.iconst 1, 1) := zdt v_Md_determinant_0 23 (q := (35, .iconst 1, 1)) rfl
theorem d_Md_determinant_36 : decode prog_8_method_7_code 36 = .ok (.iload 4, 2) := zdt v_Md_determinant_0 24 (q := (36, .iload 4, 2)) rfl
theorem d_Md_determinant_38 : decode prog_8_method_7_code 38 = .ok (.invokevirtual 79, 3) := zdt v_Md_determinant_0 25 (q := (38, .invokevirtual 79, 3)) rfl
theorem d_Md_determinant_41 : decode prog_8_method_7_code 41 = .ok (.imul, 1) := zdt v_Md_determinant_0 26 (q := (41, .imul, 1)) rfl
theorem d_Md_determinant_42 : decode prog_8_method_7_code 42 = .ok (.isub, 1) := zdt v_Md_determinant_0 27 (q := (42, .isub, 1)) rfl
theorem d_Md_determinant_43 : decode prog_8_method_7_code 43 = .ok (.imul, 1) := zdt v_Md_determinant_0 28 (q := (43, .imul, 1)) rfl
theorem d_Md_determinant_44 : decode prog_8_method_7_code 44 = .ok (.istore 5, 2) := zdt v_Md_determinant_0 29 (q := (44, .istore 5, 2)) rfl
theorem d_Md_determinant_46 : decode prog_8_method_7_code 46 = .ok (.aload_n 0, 1) := zdt v_Md_determinant_0 30 (q := (46, .aload_n 0, 1)) rfl
theorem d_Md_determinant_47 : decode prog_8_method_7_code 47 = .ok (.iload_n 1, 1) := zdt v_Md_determinant_0 31 (q := (47, .iload_n 1, 1)) rfl
theorem d_Md_determinant_48 : decode prog_8_method_7_code 48 = .ok (.iconst 1, 1) := zdt v_Md_determinant_0 32 (q := (48, .iconst 1, 1)) rfl
theorem d_Md_determinant_49 : decode prog_8_method_7_code 49 = .ok (.iload 4, 2) := zdt v_Md_determinant_0 33 (q := (49, .iload 4, 2)) rfl
theorem d_Md_determinant_51 : decode prog_8_method_7_code 51 = .ok (.invokevirtual 79, 3) := zdt v_Md_determinant_0 34 (q := (51, .invokevirtual 79, 3)) rfl
theorem d_Md_determinant_54 : decode prog_8_method_7_code 54 = .ok (.aload_n 0, 1) := zdt v_Md_determinant_0 35 (q := (54, .aload_n 0, 1)) rfl
theorem d_Md_determinant_55 : decode prog_8_method_7_code 55 = .ok (.iload_n 2, 1) := zdt v_Md_determinant_0 36 (q := (55, .iload_n 2, 1)) rfl
theorem d_Md_determinant_56 : decode prog_8_method_7_code 56 = .ok (.iconst 0, 1) := zdt v_Md_determinant_0 37 (q := (56, .iconst 0, 1)) rfl
theorem d_Md_determinant_57 : decode prog_8_method_7_code 57 = .ok (.iload 4, 2) := zdt v_Md_determinant_0 38 (q := (57, .iload 4, 2)) rfl
theorem d_Md_determinant_59 : decode prog_8_method_7_code 59 = .ok (.invokevirtual 79, 3) := zdt v_Md_determinant_0 39 (q := (59, .invokevirtual 79, 3)) rfl
def u_Md_determinant_1 : List (Nat × Instr × Nat) := [(62, .aload_n 0, 1), (63, .iload_n 3, 1), (64, .iconst 2, 1), (65, .iload 4, 2), (67, .invokevirtual 79, 3), (70, .imul, 1), (71, .aload_n 0, 1), (72, .iload_n 2, 1), (73, .iconst 2, 1), (74, .iload 4, 2), (76, .invokevirtual 79, 3), (79, .aload_n 0, 1), (80, .iload_n 3, 1), (81, .iconst 0, 1), (82, .iload 4, 2), (84, .invokevirtual 79, 3), (87, .imul, 1), (88, .isub, 1), (89, .imul, 1), (90, .istore 6, 2), (92, .aload_n 0, 1), (93, .iload_n 1, 1), (94, .iconst 2, 1), (95, .iload 4, 2), (97, .invokevirtual 79, 3), (100, .aload_n 0, 1), (101, .iload_n 2, 1), (102, .iconst 0, 1), (103, .iload 4, 2), (105, .invokevirtual 79, 3), (108, .aload_n 0, 1), (109, .iload_n 3, 1), (110, .iconst 1, 1), (111, .iload 4, 2), (113, .invokevirtual 79, 3), (116, .imul, 1), (117, .aload_n 0, 1), (118, .iload_n 2, 1), (119, .iconst 1, 1), (120, .iload 4, 2)]
theorem v_Md_determinant_1 : u_Md_determinant_1.all (zdq prog_8_method_7_code) = true := by decide +kernel
theorem d_Md_determinant_62 : decode prog_8_method_7_code 62 = .ok (.aload_n 0, 1) := zdt v_Md_determinant_1 0 (q := (62, .aload_n 0, 1)) rfl
theorem d_Md_determinant_63 : decode prog_8_method_7_code 63 = .ok (.iload_n 3, 1) := zdt v_Md_determinant_1 1 (q := (63, .iload_n 3, 1)) rfl
theorem d_Md_determinant_64 : decode prog_8_method_7_code 64 = .ok (.iconst 2, 1) := zdt v_Md_determinant_1 2 (q := (64, .iconst 2, 1)) rfl
theorem d_Md_determinant_65 : decode prog_8_method_7_code 65 = .ok (.iload 4, 2) := zdt v_Md_determinant_1 3 (q := (65, .iload 4, 2)) rfl
theorem d_Md_determinant_67 : decode prog_8_method_7_code 67 = .ok (.invokevirtual 79, 3) := zdt v_Md_determinant_1 4 (q := (67, .invokevirtual 79, 3)) rfl
theorem d_Md_determinant_70 : decode prog_8_method_7_code 70 = .ok (.imul, 1) := zdt v_Md_determinant_1 5 (q := (70, .imul, 1)) rfl
theorem d_Md_determinant_71 : decode prog_8_method_7_code 71 = .ok (.aload_n 0, 1) := zdt v_Md_determinant_1 6 (q := (71, .aload_n 0, 1)) rfl
theorem d_Md_determinant_72 : decode prog_8_method_7_code 72 = .ok (.iload_n 2, 1) := zdt v_Md_determinant_1 7 (q := (72, .iload_n 2, 1)) rfl
theorem d_Md_determinant_73 : decode prog_8_method_7_code 73 = .ok (.iconst 2, 1) := zdt v_Md_determinant_1 8 (q := (73, .iconst 2, 1)) rfl
theorem d_Md_determinant_74 : decode prog_8_method_7_code 74 = .ok (.iload 4, 2) := zdt v_Md_determinant_1 9 (q := (74, .iload 4, 2)) rfl
theorem d_Md_determinant_76 : decode prog_8_method_7_code 76 = .ok (.invokevirtual 79, 3) := zdt v_Md_determinant_1 10 (q := (76, .invokevirtual 79, 3)) rfl
theorem d_Md_determinant_79 : decode prog_8_method_7_code 79 = .ok (.aload_n 0, 1) := zdt v_Md_determinant_1 11 (q := (79, .aload_n 0, 1)) rfl
theorem d_Md_determinant_80 : decode prog_8_method_7_code 80 = .ok (.iload_n 3, 1) := zdt v_Md_determinant_1 12 (q := (80, .iload_n 3, 1)) rfl
theorem d_Md_determinant_81 : decode prog_8_method_7_code 81 = .ok (.iconst 0, 1) := zdt v_Md_determinant_1 13 (q := (81, .iconst 0, 1)) rfl
theorem d_Md_determinant_82 : decode prog_8_method_7_code 82 = .ok (.iload 4, 2) := zdt v_Md_determinant_1 14 (q := (82, .iload 4, 2)) rfl
theorem d_Md_determinant_84 : decode prog_8_method_7_code 84 = .ok (.invokevirtual 79, 3) := zdt v_Md_determinant_1 15 (q := (84, .invokevirtual 79, 3)) rfl
theorem d_Md_determinant_87 : decode prog_8_method_7_code 87 = .ok (.imul, 1) := zdt v_Md_determinant_1 16 (q := (87, .imul, 1)) rfl
theorem d_Md_determinant_88 : decode prog_8_method_7_code 88 = .ok (.isub, 1) := zdt v_Md_determinant_1 17 (q := (88, .isub, 1)) rfl
theorem d_Md_determinant_89 : decode prog_8_method_7_code 89 = .ok (.imul, 1) := zdt v_Md_determinant_1 18 (q := (89, .imul, 1)) rfl
theorem d_Md_determinant_90 : decode prog_8_method_7_code 90 = .ok (.istore 6, 2) := zdt v_Md_determinant_1 19 (q := (90, .istore 6, 2)) rfl
theorem d_Md_determinant_92 : decode prog_8_method_7_code 92 = .ok (.aload_n 0, 1) := zdt v_Md_determinant_1 20 (q := (92, .aload_n 0, 1)) rfl
theorem d_Md_determinant_93 : decode prog_8_method_7_code 93 = .ok (.iload_n 1, 1) := zdt v_Md_determinant_1 21 (q := (93, .iload_n 1, 1)) rfl
theorem d_Md_determinant_94 : decode prog_8_method_7_code 94 = .ok (.iconst 2, 1) := zdt v_Md_determinant_1 22 (q := (94, .iconst 2, 1)) rfl
theorem d_Md_determinant_95 : decode prog_8_method_7_code 95 = .ok (.iload 4, 2) := zdt v_Md_determinant_1 23 (q := (95, .iload 4, 2)) rfl
theorem d_Md_determinant_97 : decode prog_8_method_7_code 97 = .ok (.invokevirtual 79, 3) := zdt v_Md_determinant_1 24 (q := (97, .invokevirtual 79, 3)) rfl
theorem d_Md_determinant_100 : decode prog_8_method_7_code 100 = .ok (.aload_n 0, 1) := zdt v_Md_determinant_1 25 (q := (100, .aload_n 0, 1)) rfl
theorem d_Md_determinant_101 : decode prog_8_method_7_code 101 = .ok (.iload_n 2, 1) := zdt v_Md_determinant_1 26 (q := (101, .iload_n 2, 1)) rfl
theorem d_Md_determinant_102 : decode prog_8_method_7_code 102 = .ok (.iconst 0, 1) := zdt v_Md_determinant_1 27 (q := (102, .iconst 0, 1)) rfl
theorem d_Md_determinant_103 : decode prog_8_method_7_code 103 = .ok (.iload 4, 2) := zdt v_Md_determinant_1 28 (q := (103, .iload 4, 2)) rfl
theorem d_Md_determinant_105 : decode prog_8_method_7_code 105 = .ok (.invokevirtual 79, 3) := zdt v_Md_determinant_1 29 (q := (105, .invokevirtual 79, 3)) rfl
theorem d_Md_determinant_108 : decode prog_8_method_7_code 108 = .ok (.aload_n 0, 1) := zdt v_Md_determinant_1 30 (q := (108, .aload_n 0, 1)) rfl
theorem d_Md_determinant_109 : decode prog_8_method_7_code 109 = .ok (.iload_n 3, 1) := zdt v_Md_determinant_1 31 (q := (109, .iload_n 3, 1)) rfl
theorem d_Md_determinant_110 : decode prog_8_method_7_code 110 = .ok (.iconst 1, 1) := zdt v_Md_determinant_1 32 (q := (110, .iconst 1, 1)) rfl
theorem d_Md_determinant_111 : decode prog_8_method_7_code 111 = .ok (.iload 4, 2) := zdt v_Md_determinant_1 33 (q := (111, .iload 4, 2)) rfl
theorem d_Md_determinant_113 : decode prog_8_method_7_code 113 = .ok (.invokevirtual 79, 3) := zdt v_Md_determinant_1 34 (q := (113, .invokevirtual 79, 3)) rfl
theorem d_Md_determinant_116 : decode prog_8_method_7_code 116 = .ok (.imul, 1) := zdt v_Md_determinant_1 35 (q := (116, .imul, 1)) rfl
theorem d_Md_determinant_117 : decode prog_8_method_7_code 117 = .ok (.aload_n 0, 1) := zdt v_Md_determinant_1 36 (q := (117, .aload_n 0, 1)) rfl
theorem d_Md_determinant_118 : decode prog_8_method_7_code 118 = .ok (.iload_n 2, 1) := zdt v_Md_determinant_1 37 (q := (118, .iload_n 2, 1)) rfl
theorem d_Md_determinant_119 : decode prog_8_method_7_code 119 = .ok (.iconst 1, 1) := zdt v_Md_determinant_1 38 (q := (119, .iconst 1, 1)) rfl
theorem d_Md_determinant_120 : decode prog_8_method_7_code 120 = .ok (.iload 4, 2) := zdt v_Md_determinant_1 39 (q := (120, .iload 4, 2)) rfl
def u_Md_determinant_2 : List (Nat × Instr × Nat) := [(122, .invokevirtual 79, 3), (125, .aload_n 0, 1), (126, .iload_n 3, 1), (127, .iconst 0, 1), (128, .iload 4, 2), (130, .invokevirtual 79, 3), (133, .imul, 1), (134, .isub, 1), (135, .imul, 1), (136, .istore 7, 2), (138, .iload 5, 2), (140, .iload 6, 2), (142, .isub, 1), (143, .iload 7, 2), (145, .iadd, 1), (146, .ireturn, 1)]
theorem v_Md_determinant_2 : u_Md_determinant_2.all (zdq prog_8_method_7_code) = true := by decide +kernel
theorem d_Md_determinant_122 : decode prog_8_method_7_code 122 = .ok (.invokevirtual 79, 3) := zdt v_Md_determinant_2 0 (q := (122, .invokevirtual 79, 3)) rfl
theorem d_Md_determinant_125 : decode prog_8_method_7_code 125 = .ok (.aload_n 0, 1) := zdt v_Md_determinant_2 1 (q := (125, .aload_n 0, 1)) rfl
theorem d_Md_determinant_126 : decode prog_8_method_7_code 126 = .ok (.iload_n 3, 1) := zdt v_Md_determinant_2 2 (q := (126, .iload_n 3, 1)) rfl
theorem d_Md_determinant_127 : decode prog_8_method_7_code 127 = .ok (.iconst 0, 1) := zdt v_Md_determinant_2 3 (q := (127, .iconst 0, 1)) rfl
theorem d_Md_determinant_128 : decode prog_8_method_7_code 128 = .ok (.iload 4, 2) := zdt v_Md_determinant_2 4 (q := (128, .iload 4, 2)) rfl
theorem d_Md_determinant_130 : decode prog_8_method_7_code 130 = .ok (.invokevirtual 79, 3) := zdt v_Md_determinant_2 5 (q := (130, .invokevirtual 79, 3)) rfl
theorem d_Md_determinant_133 : decode prog_8_method_7_code 133 = .ok (.imul, 1) := zdt v_Md_determinant_2 6 (q := (133, .imul, 1)) rfl
theorem d_Md_determinant_134 : decode prog_8_method_7_code 134 = .ok (.isub, 1) := zdt v_Md_determinant_2 7 (q := (134, .isub, 1)) rfl
theorem d_Md_determinant_135 : decode prog_8_method_7_code 135 = .ok (.imul, 1) := zdt v_Md_determinant_2 8 (q := (135, .imul, 1)) rfl
theorem d_Md_determinant_136 : decode prog_8_method_7_code 136 = .ok (.istore 7, 2) := zdt v_Md_determinant_2 9 (q := (136, .istore 7, 2)) rfl
theorem d_Md_determinant_138 : decode prog_8_method_7_code 138 = .ok (.iload 5, 2) := zdt v_Md_determinant_2 10 (q := (138, .iload 5, 2)) rfl
theorem d_Md_determinant_140 : decode prog_8_method_7_code 140 = .ok (.iload 6, 2) := zdt v_Md_determinant_2 11 (q := (140, .iload 6, 2)) rfl
theorem d_Md_determinant_142 : decode prog_8_method_7_code 142 = .ok (.isub, 1) := zdt v_Md_determinant_2 12 (q := (142, .isub, 1)) rfl
theorem d_Md_determinant_143 : decode prog_8_method_7_code 143 = .ok (.iload 7, 2) := zdt v_Md_determinant_2 13 (q := (143, .iload 7, 2)) rfl
theorem d_Md_determinant_145 : decode prog_8_method_7_code 145 = .ok (.iadd, 1) := zdt v_Md_determinant_2 14 (q := (145, .iadd, 1)) rfl
theorem d_Md_determinant_146 : decode prog_8_method_7_code 146 = .ok (.ireturn, 1) := zdt v_Md_determinant_2 15 (q := (146, .ireturn, 1)) rfl
def u_Md_part_0 : List (Nat × Instr × Nat) := [(0, .aload_n 0, 1), (1, .getfield 13, 3), (4, .iconst 4, 1), (5, .iload_n 1, 1), (6, .imul, 1), (7, .iload_n 2, 1), (8, .iload_n 3, 1), (9, .if_icmp .ne 7, 3), (12, .iconst 3, 1), (13, .goto 4, 3), (16, .iload_n 2, 1), (17, .iadd, 1), (18, .iaload, 1), (19, .ireturn, 1)]
theorem v_Md_part_0 : u_Md_part_0.all (zdq prog_8_method_6_code) = true := by decide +kernel
theorem d_Md_part_0 : decode prog_8_method_6_code 0 = .ok (.aload_n 0, 1) := zdt v_Md_part_0 0 (q := (0, .aload_n 0, 1)) rfl
theorem d_Md_part_1 : decode prog_8_method_6_code 1 = .ok (.getfield 13, 3) := zdt v_Md_part_0 1 (q := (1, .getfield 13, 3)) rfl
theorem d_Md_part_4 : decode prog_8_method_6_code 4 = .ok (.iconst 4, 1) := zdt v_Md_part_0 2 (q := (4, .iconst 4, 1)) rfl
theorem d_Md_part_5 : decode prog_8_method_6_code 5 = .ok (.iload_n 1, 1) := zdt v_Md_part_0 3 (q := (5, .iload_n 1, 1)) rfl
theorem d_Md_part_6 : decode prog_8_method_6_code 6 = .ok (.imul, 1) := zdt v_Md_part_0 4 (q := (6, .imul, 1)) rfl
theorem d_Md_part_7 : decode prog_8_method_6_code 7 = .ok (.iload_n 2, 1) := zdt v_Md_part_0 5 (q := (7, .iload_n 2, 1)) rfl
theorem d_Md_part_8 : decode prog_8_method_6_code 8 = .ok (.iload_n 3, 1) := zdt v_Md_part_0 6 (q := (8, .iload_n 3, 1)) rfl
theorem d_Md_part_9 : decode prog_8_method_6_code 9 = .ok (.if_icmp .ne 7, 3) := zdt v_Md_part_0 7 (q := (9, .if_icmp .ne 7, 3)) rfl
theorem d_Md_part_12 : decode prog_8_method_6_code 12 = .ok (.iconst 3, 1) := zdt v_Md_part_0 8 (q := (12, .iconst 3, 1)) rfl
theorem d_Md_part_13 : decode prog_8_method_6_code 13 = .ok (.goto 4, 3) := zdt v_Md_part_0 9 (q := (13, .goto 4, 3)) rfl
theorem d_Md_part_16 : decode prog_8_method_6_code 16 = .ok (.iload_n 2, 1) := zdt v_Md_part_0 10 (q := (16, .iload_n 2, 1)) rfl
theorem d_Md_part_17 : decode prog_8_method_6_code 17 = .ok (.iadd, 1) := zdt v_Md_part_0 11 (q := (17, .iadd, 1)) rfl
theorem d_Md_part_18 : decode prog_8_method_6_code 18 = .ok (.iaload, 1) := zdt v_Md_part_0 12 (q := (18, .iaload, 1)) rfl
theorem d_Md_part_19 : decode prog_8_method_6_code 19 = .ok (.ireturn, 1) := zdt v_Md_part_0 13 (q := (19, .ireturn, 1)) rfl
def u_Md_common_0 : List (Nat × Instr × Nat) := [(0, .iload_n 0, 1), (1, .ifCond .ge 8, 3), (4, .iload_n 0, 1), (5, .ineg, 1), (6, .goto 4, 3), (9, .iload_n 0, 1), (10, .istore_n 2, 1), (11, .iload_n 1, 1), (12, .ifCond .ge 8, 3), (15, .iload_n 1, 1), (16, .ineg, 1), (17, .goto 4, 3), (20, .iload_n 1, 1), (21, .istore_n 3, 1), (22, .iload_n 3, 1), (23, .ifCond .eq 16, 3), (26, .iload_n 2, 1), (27, .iload_n 3, 1), (28, .irem, 1), (29, .istore 4, 2), (31, .iload_n 3, 1), (32, .istore_n 2, 1), (33, .iload 4, 2), (35, .istore_n 3, 1), (36, .goto (-14), 3), (39, .iload_n 2, 1), (40, .ireturn, 1)]
theorem v_Md_common_0 : u_Md_common_0.all (zdq prog_8_method_5_code) = true := by decide +kernel
theorem d_Md_common_0 : decode prog_8_method_5_code 0 = .ok (.iload_n 0, 1) := zdt v_Md_common_0 0 (q := (0, .iload_n 0, 1)) rfl
theorem d_Md_common_1 : decode prog_8_method_5_code 1 = .ok (.ifCond .ge 8, 3) := zdt v_Md_common_0 1 (q := (1, .ifCond .ge 8, 3)) rfl
theorem d_Md_common_4 : decode prog_8_method_5_code 4 = .ok (.iload_n 0, 1) := zdt v_Md_common_0 2 (q := (4, .iload_n 0, 1)) rfl
theorem d_Md_common_5 : decode prog_8_method_5_code 5 = .ok (.ineg, 1) := zdt v_Md_common_0 3 (q := (5, .ineg, 1)) rfl
theorem d_Md_common_6 : decode prog_8_method_5_code 6 = .ok (.goto 4, 3) := zdt v_Md_common_0 4 (q := (6, .goto 4, 3)) rfl
theorem d_Md_common_9 : decode prog_8_method_5_code 9 = .ok (.iload_n 0, 1) := zdt v_Md_common_0 5 (q := (9, .iload_n 0, 1)) rfl
theorem d_Md_common_10 : decode prog_8_method_5_code 10 = .ok (.istore_n 2, 1) := zdt v_Md_common_0 6 (q := (10, .istore_n 2, 1)) rfl
theorem d_Md_common_11 : decode prog_8_method_5_code 11 = .ok (.iload_n 1, 1) := zdt v_Md_common_0 7 (q := (11, .iload_n 1, 1)) rfl
theorem d_Md_common_12 : decode prog_8_method_5_code 12 = .ok (.ifCond .ge 8, 3) := zdt v_Md_common_0 8 (q := (12, .ifCond .ge 8, 3)) rfl
theorem d_Md_common_15 : decode prog_8_method_5_code 15 = .ok (.iload_n 1, 1) := zdt v_Md_common_0 9 (q := (15, .iload_n 1, 1)) rfl
theorem d_Md_common_16 : decode prog_8_method_5_code 16 = .ok (.ineg, 1) := zdt v_Md_common_0 10 (q := (16, .ineg, 1)) rfl
theorem d_Md_common_17 : decode prog_8_method_5_code 17 = .ok (.goto 4, 3) := zdt v_Md_common_0 11 (q := (17, .goto 4, 3)) rfl
theorem d_Md_common_20 : decode prog_8_method_5_code 20 = .ok (.iload_n 1, 1) := zdt v_Md_common_0 12 (q := (20, .iload_n 1, 1)) rfl
theorem d_Md_common_21 : decode prog_8_method_5_code 21 = .ok (.istore_n 3, 1) := zdt v_Md_common_0 13 (q := (21, .istore_n 3, 1)) rfl
theorem d_Md_common_22 : decode prog_8_method_5_code 22 = .ok (.iload_n 3, 1) := zdt v_Md_common_0 14 (q := (22, .iload_n 3, 1)) rfl
theorem d_Md_common_23 : decode prog_8_method_5_code 23 = .ok (.ifCond .eq 16, 3) := zdt v_Md_common_0 15 (q := (23, .ifCond .eq 16, 3)) rfl
theorem d_Md_common_26 : decode prog_8_method_5_code 26 = .ok (.iload_n 2, 1) := zdt v_Md_common_0 16 (q := (26, .iload_n 2, 1)) rfl
theorem d_Md_common_27 : decode prog_8_method_5_code 27 = .ok (.iload_n 3, 1) := zdt v_Md_common_0 17 (q := (27, .iload_n 3, 1)) rfl
theorem d_Md_common_28 : decode prog_8_method_5_code 28 = .ok (.irem, 1) := zdt v_Md_common_0 18 (q := (28, .irem, 1)) rfl
theorem d_Md_common_29 : decode prog_8_method_5_code 29 = .ok (.istore 4, 2) := zdt v_Md_common_0 19 (q := (29, .istore 4, 2)) rfl
theorem d_Md_common_31 : decode prog_8_method_5_code 31 = .ok (.iload_n 3, 1) := zdt v_Md_common_0 20 (q := (31, .iload_n 3, 1)) rfl
theorem d_Md_common_32 : decode prog_8_method_5_code 32 = .ok (.istore_n 2, 1) := zdt v_Md_common_0 21 (q := (32, .istore_n 2, 1)) rfl
theorem d_Md_common_33 : decode prog_8_method_5_code 33 = .ok (.iload 4, 2) := zdt v_Md_common_0 22 (q := (33, .iload 4, 2)) rfl
theorem d_Md_common_35 : decode prog_8_method_5_code 35 = .ok (.istore_n 3, 1) := zdt v_Md_common_0 23 (q := (35, .istore_n 3, 1)) rfl
theorem d_Md_common_36 : decode prog_8_method_5_code 36 = .ok (.goto (-14), 3) := zdt v_Md_common_0 24 (q := (36, .goto (-14), 3)) rfl
theorem d_Md_common_39 : decode prog_8_method_5_code 39 = .ok (.iload_n 2, 1) := zdt v_Md_common_0 25 (q := (39, .iload_n 2, 1)) rfl
theorem d_Md_common_40 : decode prog_8_method_5_code 40 = .ok (.ireturn, 1) := zdt v_Md_common_0 26 (q := (40, .ireturn, 1)) rfl
def u_Md_orderP_0 : List (Nat × Instr × Nat) := [(0, .iconst 0, 1), (1, .istore_n 2, 1), (2, .iload_n 2, 1), (3, .iconst 3, 1), (4, .if_icmp .ge 59, 3), (7, .aload_n 0, 1), (8, .getfield 38, 3), (11, .iload_n 2, 1), (12, .iaload, 1), (13, .aload_n 0, 1), (14, .getfield 26, 3), (17, .iconst 4, 1), (18, .iload_n 1, 1), (19, .imul, 1), (20, .iconst 3, 1), (21, .iadd, 1), (22, .iaload, 1), (23, .imul, 1), (24, .aload_n 0, 1), (25, .getfield 26, 3), (28, .iconst 4, 1), (29, .iload_n 1, 1), (30, .imul, 1), (31, .iload_n 2, 1), (32, .iadd, 1), (33, .iaload, 1), (34, .aload_n 0, 1), (35, .getfield 38, 3), (38, .iconst 3, 1), (39, .iaload, 1), (40, .imul, 1), (41, .isub, 1), (42, .istore_n 3, 1), (43, .iload_n 3, 1), (44, .ifCond .eq 13, 3), (47, .iload_n 3, 1), (48, .ifCond .ge 7, 3), (51, .iconst (-1), 1), (52, .goto 4, 3), (55, .iconst 1, 1)]
theorem v_Md_orderP_0 : u_Md_orderP_0.all (zdq prog_8_method_10_code) = true := by decide +kernel
theorem d_Md_orderP_0 : decode prog_8_method_10_code 0 = .ok (.iconst 0, 1) := zdt v_Md_orderP_0 0 (q := (0, .iconst 0, 1)) rfl
theorem d_Md_orderP_1 : decode prog_8_method_10_code 1 = .ok (.istore_n 2, 1) := zdt v_Md_orderP_0 1 (q := (1, .istore_n 2, 1)) rfl
theorem d_Md_orderP_2 : decode prog_8_method_10_code 2 = .ok (.iload_n 2, 1) := zdt v_Md_orderP_0 2 (q := (2, .iload_n 2, 1)) rfl
theorem d_Md_orderP_3 : decode prog_8_method_10_code 3 = .ok (.iconst 3, 1) := zdt v_Md_orderP_0 3 (q := (3, .iconst 3, 1)) rfl
theorem d_Md_orderP_4 : decode prog_8_method_10_code 4 = .ok (.if_icmp .ge 59, 3) := zdt v_Md_orderP_0 4 (q := (4, .if_icmp .ge 59, 3)) rfl
theorem d_Md_orderP_7 : decode prog_8_method_10_code 7 = .ok (.aload_n 0, 1) := zdt v_Md_orderP_0 5 (q := (7, .aload_n 0, 1)) rfl
theorem d_Md_orderP_8 : decode prog_8_method_10_code 8 = .ok (.getfield 38, 3) := zdt v_Md_orderP_0 6 (q := (8, .getfield 38, 3)) rfl
theorem d_Md_orderP_11 : decode prog_8_method_10_code 11 = .ok (.iload_n 2, 1) := zdt v_Md_orderP_0 7 (q := (11, .iload_n 2, 1)) rfl
theorem d_Md_orderP_12 : decode prog_8_method_10_code 12 = .ok (.iaload, 1) := zdt v_Md_orderP_0 8 (q := (12, .iaload, 1)) rfl
theorem d_Md_orderP_13 : decode prog_8_method_10_code 13 = .ok (.aload_n 0, 1) := zdt v_Md_orderP_0 9 (q := (13, .aload_n 0, 1)) rfl
theorem d_Md_orderP_14 : decode prog_8_method_10_code 14 = .ok (.getfield 26, 3) := zdt v_Md_orderP_0 10 (q := (14, .getfield 26, 3)) rfl
theorem d_Md_orderP_17 : decode prog_8_method_10_code 17 = .ok (.iconst 4, 1) := zdt v_Md_orderP_0 11 (q := (17, .iconst 4, 1)) rfl
theorem d_Md_orderP_18 : decode prog_8_method_10_code 18 = .ok (.iload_n 1, 1) := zdt v_Md_orderP_0 12 (q := (18, .iload_n 1, 1)) rfl
theorem d_Md_orderP_19 : decode prog_8_method_10_code 19 = .ok (.imul, 1) := zdt v_Md_orderP_0 13 (q := (19, .imul, 1)) rfl
theorem d_Md_orderP_20 : decode prog_8_method_10_code 20 = .ok (.iconst 3, 1) := zdt v_Md_orderP_0 14 (q := (20, .iconst 3, 1)) rfl
theorem d_Md_orderP_21 : decode prog_8_method_10_code 21 = .ok (.iadd, 1) := zdt v_Md_orderP_0 15 (q := (21, .iadd, 1)) rfl
theorem d_Md_orderP_22 : decode prog_8_method_10_code 22 = .ok (.iaload, 1) := zdt v_Md_orderP_0 16 (q := (22, .iaload, 1)) rfl
theorem d_Md_orderP_23 : decode prog_8_method_10_code 23 = .ok (.imul, 1) := zdt v_Md_orderP_0 17 (q := (23, .imul, 1)) rfl
theorem d_Md_orderP_24 : decode prog_8_method_10_code 24 = .ok (.aload_n 0, 1) := zdt v_Md_orderP_0 18 (q := (24, .aload_n 0, 1)) rfl
theorem d_Md_orderP_25 : decode prog_8_method_10_code 25 = .ok (.getfield 26, 3) := zdt v_Md_orderP_0 19 (q := (25, .getfield 26, 3)) rfl
theorem d_Md_orderP_28 : decode prog_8_method_10_code 28 = .ok (.iconst 4, 1) := zdt v_Md_orderP_0 20 (q := (28, .iconst 4, 1)) rfl
theorem d_Md_orderP_29 : decode prog_8_method_10_code 29 = .ok (.iload_n 1, 1) := zdt v_Md_orderP_0 21 (q := (29, .iload_n 1, 1)) rfl
theorem d_Md_orderP_30 : decode prog_8_method_10_code 30 = .ok (.imul, 1) := zdt v_Md_orderP_0 22 (q := (30, .imul, 1)) rfl
theorem d_Md_orderP_31 : decode prog_8_method_10_code 31 = .ok (.iload_n 2, 1) := zdt v_Md_orderP_0 23 (q := (31, .iload_n 2, 1)) rfl
theorem d_Md_orderP_32 : decode prog_8_method_10_code 32 = .ok (.iadd, 1) := zdt v_Md_orderP_0 24 (q := (32, .iadd, 1)) rfl
theorem d_Md_orderP_33 : decode prog_8_method_10_code 33 = .ok (.iaload, 1) := zdt v_Md_orderP_0 25 (q := (33, .iaload, 1)) rfl
theorem d_Md_orderP_34 : decode prog_8_method_10_code 34 = .ok (.aload_n 0, 1) := zdt v_Md_orderP_0 26 (q := (34, .aload_n 0, 1)) rfl
theorem d_Md_orderP_35 : decode prog_8_method_10_code 35 = .ok (.getfield 38, 3) := zdt v_Md_orderP_0 27 (q := (35, .getfield 38, 3)) rfl
theorem d_Md_orderP_38 : decode prog_8_method_10_code 38 = .ok (.iconst 3, 1) := zdt v_Md_orderP_0 28 (q := (38, .iconst 3, 1)) rfl
theorem d_Md_orderP_39 : decode prog_8_method_10_code 39 = .ok (.iaload, 1) := zdt v_Md_orderP_0 29 (q := (39, .iaload, 1)) rfl
theorem d_Md_orderP_40 : decode prog_8_method_10_code 40 = .ok (.imul, 1) := zdt v_Md_orderP_0 30 (q := (40, .imul, 1)) rfl
theorem d_Md_orderP_41 : decode prog_8_method_10_code 41 = .ok (.isub, 1) := zdt v_Md_orderP_0 31 (q := (41, .isub, 1)) rfl
theorem d_Md_orderP_42 : decode prog_8_method_10_code 42 = .ok (.istore_n 3, 1) := zdt v_Md_orderP_0 32 (q := (42, .istore_n 3, 1)) rfl
theorem d_Md_orderP_43 : decode prog_8_method_10_code 43 = .ok (.iload_n 3, 1) := zdt v_Md_orderP_0 33 (q := (43, .iload_n 3, 1)) rfl
theorem d_Md_orderP_44 : decode prog_8_method_10_code 44 = .ok (.ifCond .eq 13, 3) := zdt v_Md_orderP_0 34 (q := (44, .ifCond .eq 13, 3)) rfl
theorem d_Md_orderP_47 : decode prog_8_method_10_code 47 = .ok (.iload_n 3, 1) := zdt v_Md_orderP_0 35 (q := (47, .iload_n 3, 1)) rfl
theorem d_Md_orderP_48 : decode prog_8_method_10_code 48 = .ok (.ifCond .ge 7, 3) := zdt v_Md_orderP_0 36 (q := (48, .ifCond .ge 7, 3)) rfl
theorem d_Md_orderP_51 : decode prog_8_method_10_code 51 = .ok (.iconst (-1), 1) := zdt v_Md_orderP_0 37 (q := (51, .iconst (-1), 1)) rfl
theorem d_Md_orderP_52 : decode prog_8_method_10_code 52 = .ok (.goto 4, 3) := zdt v_Md_orderP_0 38 (q := (52, .goto 4, 3)) rfl
theorem d_Md_orderP_55 : decode prog_8_method_10_code 55 = .ok (.iconst 1, 1) := zdt v_Md_orderP_0 39 (q := (55, .iconst 1, 1)) rfl
def u_Md_orderP_1 : List (Nat × Instr × Nat) := [(56, .ireturn, 1), (57, .iinc 2 1, 3), (60, .goto (-58), 3), (63, .iconst 0, 1), (64, .ireturn, 1)]
theorem v_Md_orderP_1 : u_Md_orderP_1.all (zdq prog_8_method_10_code) = true := by decide +kernel
theorem d_Md_orderP_56 : decode prog_8_method_10_code 56 = .ok (.ireturn, 1) := zdt v_Md_orderP_1 0 (q := (56, .ireturn, 1)) rfl
theorem d_Md_orderP_57 : decode prog_8_method_10_code 57 = .ok (.iinc 2 1, 3) := zdt v_Md_orderP_1 1 (q := (57, .iinc 2 1, 3)) rfl
theorem d_Md_orderP_60 : decode prog_8_method_10_code 60 = .ok (.goto (-58), 3) := zdt v_Md_orderP_1 2 (q := (60, .goto (-58), 3)) rfl
theorem d_Md_orderP_63 : decode prog_8_method_10_code 63 = .ok (.iconst 0, 1) := zdt v_Md_orderP_1 3 (q := (63, .iconst 0, 1)) rfl
theorem d_Md_orderP_64 : decode prog_8_method_10_code 64 = .ok (.ireturn, 1) := zdt v_Md_orderP_1 4 (q := (64, .ireturn, 1)) rfl
def u_Md_more_0 : List (Nat × Instr × Nat) := [(0, .aload_n 0, 1), (1, .getfield 13, 3), (4, .iconst 4, 1), (5, .iload_n 2, 1), (6, .imul, 1), (7, .iaload, 1), (8, .aload_n 0, 1), (9, .getfield 26, 3), (12, .iconst 4, 1), (13, .iload_n 1, 1), (14, .imul, 1), (15, .iaload, 1), (16, .imul, 1), (17, .aload_n 0, 1), (18, .getfield 13, 3), (21, .iconst 4, 1), (22, .iload_n 2, 1), (23, .imul, 1), (24, .iconst 1, 1), (25, .iadd, 1), (26, .iaload, 1), (27, .aload_n 0, 1), (28, .getfield 26, 3), (31, .iconst 4, 1), (32, .iload_n 1, 1), (33, .imul, 1), (34, .iconst 1, 1), (35, .iadd, 1), (36, .iaload, 1), (37, .imul, 1), (38, .iadd, 1), (39, .aload_n 0, 1), (40, .getfield 13, 3), (43, .iconst 4, 1), (44, .iload_n 2, 1), (45, .imul, 1), (46, .iconst 2, 1), (47, .iadd, 1), (48, .iaload, 1), (49, .aload_n 0, 1)]
theorem v_Md_more_0 : u_Md_more_0.all (zdq prog_8_method_9_code) = true := by decide +kernel
theorem d_Md_more_0 : decode prog_8_method_9_code 0 = .ok (.aload_n 0, 1) := zdt v_Md_more_0 0 (q := (0, .aload_n 0, 1)) rfl
theorem d_Md_more_1 : decode prog_8_method_9_code 1 = .ok (.getfield 13, 3) := zdt v_Md_more_0 1 (q := (1, .getfield 13, 3)) rfl
theorem d_Md_more_4 : decode prog_8_method_9_code 4 = .ok (.iconst 4, 1) := zdt v_Md_more_0 2 (q := (4, .iconst 4, 1)) rfl
theorem d_Md_more_5 : decode prog_8_method_9_code 5 = .ok (.iload_n 2, 1) := zdt v_Md_more_0 3 (q := (5, .iload_n 2, 1)) rfl
theorem d_Md_more_6 : decode prog_8_method_9_code 6 = .ok (.imul, 1) := zdt v_Md_more_0 4 (q := (6, .imul, 1)) rfl
theorem d_Md_more_7 : decode prog_8_method_9_code 7 = .ok (.iaload, 1) := zdt v_Md_more_0 5 (q := (7, .iaload, 1)) rfl
theorem d_Md_more_8 : decode prog_8_method_9_code 8 = .ok (.aload_n 0, 1) := zdt v_Md_more_0 6 (q := (8, .aload_n 0, 1)) rfl
theorem d_Md_more_9 : decode prog_8_method_9_code 9 = .ok (.getfield 26, 3) := zdt v_Md_more_0 7 (q := (9, .getfield 26, 3)) rfl
theorem d_Md_more_12 : decode prog_8_method_9_code 12 = .ok (.iconst 4, 1) := zdt v_Md_more_0 8 (q := (12, .iconst 4, 1)) rfl
theorem d_Md_more_13 : decode prog_8_method_9_code 13 = .ok (.iload_n 1, 1) := zdt v_Md_more_0 9 (q := (13, .iload_n 1, 1)) rfl
theorem d_Md_more_14 : decode prog_8_method_9_code 14 = .ok (.imul, 1) := zdt v_Md_more_0 10 (q := (14, .imul, 1)) rfl
theorem d_Md_more_15 : decode prog_8_method_9_code 15 = .ok (.iaload, 1) := zdt v_Md_more_0 11 (q := (15, .iaload, 1)) rfl
theorem d_Md_more_16 : decode prog_8_method_9_code 16 = .ok (.imul, 1) := zdt v_Md_more_0 12 (q := (16, .imul, 1)) rfl
theorem d_Md_more_17 : decode prog_8_method_9_code 17 = .ok (.aload_n 0, 1) := zdt v_Md_more_0 13 (q := (17, .aload_n 0, 1)) rfl
theorem d_Md_more_18 : decode prog_8_method_9_code 18 = .ok (.getfield 13, 3) := zdt v_Md_more_0 14 (q := (18, .getfield 13, 3)) rfl
theorem d_Md_more_21 : decode prog_8_method_9_code 21 = .ok (.iconst 4, 1) := zdt v_Md_more_0 15 (q := (21, .iconst 4, 1)) rfl
theorem d_Md_more_22 : decode prog_8_method_9_code 22 = .ok (.iload_n 2, 1) := zdt v_Md_more_0 16 (q := (22, .iload_n 2, 1)) rfl
theorem d_Md_more_23 : decode prog_8_method_9_code 23 = .ok (.imul, 1) := zdt v_Md_more_0 17 (q := (23, .imul, 1)) rfl
theorem d_Md_more_24 : decode prog_8_method_9_code 24 = .ok (.iconst 1, 1) := zdt v_Md_more_0 18 (q := (24, .iconst 1, 1)) rfl
theorem d_Md_more_25 : decode prog_8_method_9_code 25 = .ok (.iadd, 1) := zdt v_Md_more_0 19 (q := (25, .iadd, 1)) rfl
theorem d_Md_more_26 : decode prog_8_method_9_code 26 = .ok (.iaload, 1) := zdt v_Md_more_0 20 (q := (26, .iaload, 1)) rfl
theorem d_Md_more_27 : decode prog_8_method_9_code 27 = .ok (.aload_n 0, 1) := zdt v_Md_more_0 21 (q := (27, .aload_n 0, 1)) rfl
theorem d_Md_more_28 : decode prog_8_method_9_code 28 = .ok (.getfield 26, 3) := zdt v_Md_more_0 22 (q := (28, .getfield 26, 3)) rfl
theorem d_Md_more_31 : decode prog_8_method_9_code 31 = .ok (.iconst 4, 1) := zdt v_Md_more_0 23 (q := (31, .iconst 4, 1)) rfl
theorem d_Md_more_32 : decode prog_8_method_9_code 32 = .ok (.iload_n 1, 1) := zdt v_Md_more_0 24 (q := (32, .iload_n 1, 1)) rfl
theorem d_Md_more_33 : decode prog_8_method_9_code 33 = .ok (.imul, 1) := zdt v_Md_more_0 25 (q := (33, .imul, 1)) rfl
theorem d_Md_more_34 : decode prog_8_method_9_code 34 = .ok (.iconst 1, 1) := zdt v_Md_more_0 26 (q := (34, .iconst 1, 1)) rfl
theorem d_Md_more_35 : decode prog_8_method_9_code 35 = .ok (.iadd, 1) := zdt v_Md_more_0 27 (q := (35, .iadd, 1)) rfl
theorem d_Md_more_36 : decode prog_8_method_9_code 36 = .ok (.iaload, 1) := zdt v_Md_more_0 28 (q := (36, .iaload, 1)) rfl
theorem d_Md_more_37 : decode prog_8_method_9_code 37 = .ok (.imul, 1) := zdt v_Md_more_0 29 (q := (37, .imul, 1)) rfl
theorem d_Md_more_38 : decode prog_8_method_9_code 38 = .ok (.iadd, 1) := zdt v_Md_more_0 30 (q := (38, .iadd, 1)) rfl
theorem d_Md_more_39 : decode prog_8_method_9_code 39 = .ok (.aload_n 0, 1) := zdt v_Md_more_0 31 (q := (39, .aload_n 0, 1)) rfl
theorem d_Md_more_40 : decode prog_8_method_9_code 40 = .ok (.getfield 13, 3) := zdt v_Md_more_0 32 (q := (40, .getfield 13, 3)) rfl
theorem d_Md_more_43 : decode prog_8_method_9_code 43 = .ok (.iconst 4, 1) := zdt v_Md_more_0 33 (q := (43, .iconst 4, 1)) rfl
theorem d_Md_more_44 : decode prog_8_method_9_code 44 = .ok (.iload_n 2, 1) := zdt v_Md_more_0 34 (q := (44, .iload_n 2, 1)) rfl
theorem d_Md_more_45 : decode prog_8_method_9_code 45 = .ok (.imul, 1) := zdt v_Md_more_0 35 (q := (45, .imul, 1)) rfl
theorem d_Md_more_46 : decode prog_8_method_9_code 46 = .ok (.iconst 2, 1) := zdt v_Md_more_0 36 (q := (46, .iconst 2, 1)) rfl
theorem d_Md_more_47 : decode prog_8_method_9_code 47 = .ok (.iadd, 1) := zdt v_Md_more_0 37 (q := (47, .iadd, 1)) rfl
theorem d_Md_more_48 : decode prog_8_method_9_code 48 = .ok (.iaload, 1) := zdt v_Md_more_0 38 (q := (48, .iaload, 1)) rfl
theorem d_Md_more_49 : decode prog_8_method_9_code 49 = .ok (.aload_n 0, 1) := zdt v_Md_more_0 39 (q := (49, .aload_n 0, 1)) rfl
def u_Md_more_1 : List (Nat × Instr × Nat) := [(50, .getfield 26, 3), (53, .iconst 4, 1), (54, .iload_n 1, 1), (55, .imul, 1), (56, .iconst 2, 1), (57, .iadd, 1), (58, .iaload, 1), (59, .imul, 1), (60, .iadd, 1), (61, .aload_n 0, 1), (62, .getfield 13, 3), (65, .iconst 4, 1), (66, .iload_n 2, 1), (67, .imul, 1), (68, .iconst 3, 1), (69, .iadd, 1), (70, .iaload, 1), (71, .aload_n 0, 1), (72, .getfield 26, 3), (75, .iconst 4, 1), (76, .iload_n 1, 1), (77, .imul, 1), (78, .iconst 3, 1), (79, .iadd, 1), (80, .iaload, 1), (81, .imul, 1), (82, .isub, 1), (83, .ireturn, 1)]
theorem v_Md_more_1 : u_Md_more_1.all (zdq prog_8_method_9_code) = true := by decide +kernel
theorem d_Md_more_50 : decode prog_8_method_9_code 50 = .ok (.getfield 26, 3) := zdt v_Md_more_1 0 (q := (50, .getfield 26, 3)) rfl
theorem d_Md_more_53 : decode prog_8_method_9_code 53 = .ok (.iconst 4, 1) := zdt v_Md_more_1 1 (q := (53, .iconst 4, 1)) rfl
theorem d_Md_more_54 : decode prog_8_method_9_code 54 = .ok (.iload_n 1, 1) := zdt v_Md_more_1 2 (q := (54, .iload_n 1, 1)) rfl
theorem d_Md_more_55 : decode prog_8_method_9_code 55 = .ok (.imul, 1) := zdt v_Md_more_1 3 (q := (55, .imul, 1)) rfl
theorem d_Md_more_56 : decode prog_8_method_9_code 56 = .ok (.iconst 2, 1) := zdt v_Md_more_1 4 (q := (56, .iconst 2, 1)) rfl
theorem d_Md_more_57 : decode prog_8_method_9_code 57 = .ok (.iadd, 1) := zdt v_Md_more_1 5 (q := (57, .iadd, 1)) rfl
theorem d_Md_more_58 : decode prog_8_method_9_code 58 = .ok (.iaload, 1) := zdt v_Md_more_1 6 (q := (58, .iaload, 1)) rfl
theorem d_Md_more_59 : decode prog_8_method_9_code 59 = .ok (.imul, 1) := zdt v_Md_more_1 7 (q := (59, .imul, 1)) rfl
theorem d_Md_more_60 : decode prog_8_method_9_code 60 = .ok (.iadd, 1) := zdt v_Md_more_1 8 (q := (60, .iadd, 1)) rfl
theorem d_Md_more_61 : decode prog_8_method_9_code 61 = .ok (.aload_n 0, 1) := zdt v_Md_more_1 9 (q := (61, .aload_n 0, 1)) rfl
theorem d_Md_more_62 : decode prog_8_method_9_code 62 = .ok (.getfield 13, 3) := zdt v_Md_more_1 10 (q := (62, .getfield 13, 3)) rfl
theorem d_Md_more_65 : decode prog_8_method_9_code 65 = .ok (.iconst 4, 1) := zdt v_Md_more_1 11 (q := (65, .iconst 4, 1)) rfl
theorem d_Md_more_66 : decode prog_8_method_9_code 66 = .ok (.iload_n 2, 1) := zdt v_Md_more_1 12 (q := (66, .iload_n 2, 1)) rfl
theorem d_Md_more_67 : decode prog_8_method_9_code 67 = .ok (.imul, 1) := zdt v_Md_more_1 13 (q := (67, .imul, 1)) rfl
theorem d_Md_more_68 : decode prog_8_method_9_code 68 = .ok (.iconst 3, 1) := zdt v_Md_more_1 14 (q := (68, .iconst 3, 1)) rfl
theorem d_Md_more_69 : decode prog_8_method_9_code 69 = .ok (.iadd, 1) := zdt v_Md_more_1 15 (q := (69, .iadd, 1)) rfl
theorem d_Md_more_70 : decode prog_8_method_9_code 70 = .ok (.iaload, 1) := zdt v_Md_more_1 16 (q := (70, .iaload, 1)) rfl
theorem d_Md_more_71 : decode prog_8_method_9_code 71 = .ok (.aload_n 0, 1) := zdt v_Md_more_1 17 (q := (71, .aload_n 0, 1)) rfl
theorem d_Md_more_72 : decode prog_8_method_9_code 72 = .ok (.getfield 26, 3) := zdt v_Md_more_1 18 (q := (72, .getfield 26, 3)) rfl
theorem d_Md_more_75 : decode prog_8_method_9_code 75 = .ok (.iconst 4, 1) := zdt v_Md_more_1 19 (q := (75, .iconst 4, 1)) rfl
theorem d_Md_more_76 : decode prog_8_method_9_code 76 = .ok (.iload_n 1, 1) := zdt v_Md_more_1 20 (q := (76, .iload_n 1, 1)) rfl
theorem d_Md_more_77 : decode prog_8_method_9_code 77 = .ok (.imul, 1) := zdt v_Md_more_1 21 (q := (77, .imul, 1)) rfl
theorem d_Md_more_78 : decode prog_8_method_9_code 78 = .ok (.iconst 3, 1) := zdt v_Md_more_1 22 (q := (78, .iconst 3, 1)) rfl
theorem d_Md_more_79 : decode prog_8_method_9_code 79 = .ok (.iadd, 1) := zdt v_Md_more_1 23 (q := (79, .iadd, 1)) rfl
theorem d_Md_more_80 : decode prog_8_method_9_code 80 = .ok (.iaload, 1) := zdt v_Md_more_1 24 (q := (80, .iaload, 1)) rfl
theorem d_Md_more_81 : decode prog_8_method_9_code 81 = .ok (.imul, 1) := zdt v_Md_more_1 25 (q := (81, .imul, 1)) rfl
theorem d_Md_more_82 : decode prog_8_method_9_code 82 = .ok (.isub, 1) := zdt v_Md_more_1 26 (q := (82, .isub, 1)) rfl
theorem d_Md_more_83 : decode prog_8_method_9_code 83 = .ok (.ireturn, 1) := zdt v_Md_more_1 27 (q := (83, .ireturn, 1)) rfl
def u_Md_freeOf_0 : List (Nat × Instr × Nat) := [(0, .iconst 0, 1), (1, .istore_n 3, 1), (2, .iconst 0, 1), (3, .istore 4, 2), (5, .iload 4, 2), (7, .aload_n 0, 1), (8, .getfield 94, 3), (11, .if_icmp .ge 48, 3), (14, .aload_n 0, 1), (15, .iload 4, 2), (17, .iload_n 1, 1), (18, .invokevirtual 127, 3), (21, .ifCond .eq 30, 3), (24, .aload_n 0, 1), (25, .getfield 29, 3), (28, .iload 4, 2), (30, .iaload, 1), (31, .iload_n 2, 1), (32, .iand, 1), (33, .iload_n 2, 1), (34, .if_icmp .ne 17, 3), (37, .iload_n 3, 1), (38, .aload_n 0, 1), (39, .getfield 29, 3), (42, .iload 4, 2), (44, .iaload, 1), (45, .iconst (-1), 1), (46, .ixor, 1), (47, .ior, 1), (48, .goto 4, 3), (51, .iload_n 3, 1), (52, .istore_n 3, 1), (53, .iinc 4 1, 3), (56, .goto (-51), 3), (59, .iload_n 3, 1), (60, .aload_n 0, 1), (61, .invokevirtual 120, 3), (64, .iand, 1), (65, .ireturn, 1)]
theorem v_Md_freeOf_0 : u_Md_freeOf_0.all (zdq prog_8_method_15_code) = true := by decide +kernel
theorem d_Md_freeOf_0 : decode prog_8_method_15_code 0 = .ok (.iconst 0, 1) := zdt v_Md_freeOf_0 0 (q := (0, .iconst 0, 1)) rfl
theorem d_Md_freeOf_1 : decode prog_8_method_15_code 1 = .ok (.istore_n 3, 1) := zdt v_Md_freeOf_0 1 (q := (1, .istore_n 3, 1)) rfl
theorem d_Md_freeOf_2 : decode prog_8_method_15_code 2 = .ok (.iconst 0, 1) := zdt v_Md_freeOf_0 2 (q := (2, .iconst 0, 1)) rfl
theorem d_Md_freeOf_3 : decode prog_8_method_15_code 3 = .ok (.istore 4, 2) := zdt v_Md_freeOf_0 3 (q := (3, .istore 4, 2)) rfl
theorem d_Md_freeOf_5 : decode prog_8_method_15_code 5 = .ok (.iload 4, 2) := zdt v_Md_freeOf_0 4 (q := (5, .iload 4, 2)) rfl
theorem d_Md_freeOf_7 : decode prog_8_method_15_code 7 = .ok (.aload_n 0, 1) := zdt v_Md_freeOf_0 5 (q := (7, .aload_n 0, 1)) rfl
theorem d_Md_freeOf_8 : decode prog_8_method_15_code 8 = .ok (.getfield 94, 3) := zdt v_Md_freeOf_0 6 (q := (8, .getfield 94, 3)) rfl
theorem d_Md_freeOf_11 : decode prog_8_method_15_code 11 = .ok (.if_icmp .ge 48, 3) := zdt v_Md_freeOf_0 7 (q := (11, .if_icmp .ge 48, 3)) rfl
theorem d_Md_freeOf_14 : decode prog_8_method_15_code 14 = .ok (.aload_n 0, 1) := zdt v_Md_freeOf_0 8 (q := (14, .aload_n 0, 1)) rfl
theorem d_Md_freeOf_15 : decode prog_8_method_15_code 15 = .ok (.iload 4, 2) := zdt v_Md_freeOf_0 9 (q := (15, .iload 4, 2)) rfl
theorem d_Md_freeOf_17 : decode prog_8_method_15_code 17 = .ok (.iload_n 1, 1) := zdt v_Md_freeOf_0 10 (q := (17, .iload_n 1, 1)) rfl
theorem d_Md_freeOf_18 : decode prog_8_method_15_code 18 = .ok (.invokevirtual 127, 3) := zdt v_Md_freeOf_0 11 (q := (18, .invokevirtual 127, 3)) rfl
theorem d_Md_freeOf_21 : decode prog_8_method_15_code 21 = .ok (.ifCond .eq 30, 3) := zdt v_Md_freeOf_0 12 (q := (21, .ifCond .eq 30, 3)) rfl
theorem d_Md_freeOf_24 : decode prog_8_method_15_code 24 = .ok (.aload_n 0, 1) := zdt v_Md_freeOf_0 13 (q := (24, .aload_n 0, 1)) rfl
theorem d_Md_freeOf_25 : decode prog_8_method_15_code 25 = .ok (.getfield 29, 3) := zdt v_Md_freeOf_0 14 (q := (25, .getfield 29, 3)) rfl
theorem d_Md_freeOf_28 : decode prog_8_method_15_code 28 = .ok (.iload 4, 2) := zdt v_Md_freeOf_0 15 (q := (28, .iload 4, 2)) rfl
theorem d_Md_freeOf_30 : decode prog_8_method_15_code 30 = .ok (.iaload, 1) := zdt v_Md_freeOf_0 16 (q := (30, .iaload, 1)) rfl
theorem d_Md_freeOf_31 : decode prog_8_method_15_code 31 = .ok (.iload_n 2, 1) := zdt v_Md_freeOf_0 17 (q := (31, .iload_n 2, 1)) rfl
theorem d_Md_freeOf_32 : decode prog_8_method_15_code 32 = .ok (.iand, 1) := zdt v_Md_freeOf_0 18 (q := (32, .iand, 1)) rfl
theorem d_Md_freeOf_33 : decode prog_8_method_15_code 33 = .ok (.iload_n 2, 1) := zdt v_Md_freeOf_0 19 (q := (33, .iload_n 2, 1)) rfl
theorem d_Md_freeOf_34 : decode prog_8_method_15_code 34 = .ok (.if_icmp .ne 17, 3) := zdt v_Md_freeOf_0 20 (q := (34, .if_icmp .ne 17, 3)) rfl
theorem d_Md_freeOf_37 : decode prog_8_method_15_code 37 = .ok (.iload_n 3, 1) := zdt v_Md_freeOf_0 21 (q := (37, .iload_n 3, 1)) rfl
theorem d_Md_freeOf_38 : decode prog_8_method_15_code 38 = .ok (.aload_n 0, 1) := zdt v_Md_freeOf_0 22 (q := (38, .aload_n 0, 1)) rfl
theorem d_Md_freeOf_39 : decode prog_8_method_15_code 39 = .ok (.getfield 29, 3) := zdt v_Md_freeOf_0 23 (q := (39, .getfield 29, 3)) rfl
theorem d_Md_freeOf_42 : decode prog_8_method_15_code 42 = .ok (.iload 4, 2) := zdt v_Md_freeOf_0 24 (q := (42, .iload 4, 2)) rfl
theorem d_Md_freeOf_44 : decode prog_8_method_15_code 44 = .ok (.iaload, 1) := zdt v_Md_freeOf_0 25 (q := (44, .iaload, 1)) rfl
theorem d_Md_freeOf_45 : decode prog_8_method_15_code 45 = .ok (.iconst (-1), 1) := zdt v_Md_freeOf_0 26 (q := (45, .iconst (-1), 1)) rfl
theorem d_Md_freeOf_46 : decode prog_8_method_15_code 46 = .ok (.ixor, 1) := zdt v_Md_freeOf_0 27 (q := (46, .ixor, 1)) rfl
theorem d_Md_freeOf_47 : decode prog_8_method_15_code 47 = .ok (.ior, 1) := zdt v_Md_freeOf_0 28 (q := (47, .ior, 1)) rfl
theorem d_Md_freeOf_48 : decode prog_8_method_15_code 48 = .ok (.goto 4, 3) := zdt v_Md_freeOf_0 29 (q := (48, .goto 4, 3)) rfl
theorem d_Md_freeOf_51 : decode prog_8_method_15_code 51 = .ok (.iload_n 3, 1) := zdt v_Md_freeOf_0 30 (q := (51, .iload_n 3, 1)) rfl
theorem d_Md_freeOf_52 : decode prog_8_method_15_code 52 = .ok (.istore_n 3, 1) := zdt v_Md_freeOf_0 31 (q := (52, .istore_n 3, 1)) rfl
theorem d_Md_freeOf_53 : decode prog_8_method_15_code 53 = .ok (.iinc 4 1, 3) := zdt v_Md_freeOf_0 32 (q := (53, .iinc 4 1, 3)) rfl
theorem d_Md_freeOf_56 : decode prog_8_method_15_code 56 = .ok (.goto (-51), 3) := zdt v_Md_freeOf_0 33 (q := (56, .goto (-51), 3)) rfl
theorem d_Md_freeOf_59 : decode prog_8_method_15_code 59 = .ok (.iload_n 3, 1) := zdt v_Md_freeOf_0 34 (q := (59, .iload_n 3, 1)) rfl
theorem d_Md_freeOf_60 : decode prog_8_method_15_code 60 = .ok (.aload_n 0, 1) := zdt v_Md_freeOf_0 35 (q := (60, .aload_n 0, 1)) rfl
theorem d_Md_freeOf_61 : decode prog_8_method_15_code 61 = .ok (.invokevirtual 120, 3) := zdt v_Md_freeOf_0 36 (q := (61, .invokevirtual 120, 3)) rfl
theorem d_Md_freeOf_64 : decode prog_8_method_15_code 64 = .ok (.iand, 1) := zdt v_Md_freeOf_0 37 (q := (64, .iand, 1)) rfl
theorem d_Md_freeOf_65 : decode prog_8_method_15_code 65 = .ok (.ireturn, 1) := zdt v_Md_freeOf_0 38 (q := (65, .ireturn, 1)) rfl
def u_Md_isOf_0 : List (Nat × Instr × Nat) := [(0, .aload_n 0, 1), (1, .getfield 32, 3), (4, .iload_n 1, 1), (5, .iaload, 1), (6, .iload_n 2, 1), (7, .iconst (-1), 1), (8, .ixor, 1), (9, .iand, 1), (10, .ifCond .ne 18, 3), (13, .aload_n 0, 1), (14, .getfield 35, 3), (17, .iload_n 1, 1), (18, .iaload, 1), (19, .iload_n 2, 1), (20, .iand, 1), (21, .ifCond .ne 7, 3), (24, .iconst 1, 1), (25, .goto 4, 3), (28, .iconst 0, 1), (29, .ireturn, 1)]
theorem v_Md_isOf_0 : u_Md_isOf_0.all (zdq prog_8_method_14_code) = true := by decide +kernel
theorem d_Md_isOf_0 : decode prog_8_method_14_code 0 = .ok (.aload_n 0, 1) := zdt v_Md_isOf_0 0 (q := (0, .aload_n 0, 1)) rfl
theorem d_Md_isOf_1 : decode prog_8_method_14_code 1 = .ok (.getfield 32, 3) := zdt v_Md_isOf_0 1 (q := (1, .getfield 32, 3)) rfl
theorem d_Md_isOf_4 : decode prog_8_method_14_code 4 = .ok (.iload_n 1, 1) := zdt v_Md_isOf_0 2 (q := (4, .iload_n 1, 1)) rfl
theorem d_Md_isOf_5 : decode prog_8_method_14_code 5 = .ok (.iaload, 1) := zdt v_Md_isOf_0 3 (q := (5, .iaload, 1)) rfl
theorem d_Md_isOf_6 : decode prog_8_method_14_code 6 = .ok (.iload_n 2, 1) := zdt v_Md_isOf_0 4 (q := (6, .iload_n 2, 1)) rfl
theorem d_Md_isOf_7 : decode prog_8_method_14_code 7 = .ok (.iconst (-1), 1) := zdt v_Md_isOf_0 5 (q := (7, .iconst (-1), 1)) rfl
theorem d_Md_isOf_8 : decode prog_8_method_14_code 8 = .ok (.ixor, 1) := zdt v_Md_isOf_0 6 (q := (8, .ixor, 1)) rfl
theorem d_Md_isOf_9 : decode prog_8_method_14_code 9 = .ok (.iand, 1) := zdt v_Md_isOf_0 7 (q := (9, .iand, 1)) rfl
theorem d_Md_isOf_10 : decode prog_8_method_14_code 10 = .ok (.ifCond .ne 18, 3) := zdt v_Md_isOf_0 8 (q := (10, .ifCond .ne 18, 3)) rfl
theorem d_Md_isOf_13 : decode prog_8_method_14_code 13 = .ok (.aload_n 0, 1) := zdt v_Md_isOf_0 9 (q := (13, .aload_n 0, 1)) rfl
theorem d_Md_isOf_14 : decode prog_8_method_14_code 14 = .ok (.getfield 35, 3) := zdt v_Md_isOf_0 10 (q := (14, .getfield 35, 3)) rfl
theorem d_Md_isOf_17 : decode prog_8_method_14_code 17 = .ok (.iload_n 1, 1) := zdt v_Md_isOf_0 11 (q := (17, .iload_n 1, 1)) rfl
theorem d_Md_isOf_18 : decode prog_8_method_14_code 18 = .ok (.iaload, 1) := zdt v_Md_isOf_0 12 (q := (18, .iaload, 1)) rfl
theorem d_Md_isOf_19 : decode prog_8_method_14_code 19 = .ok (.iload_n 2, 1) := zdt v_Md_isOf_0 13 (q := (19, .iload_n 2, 1)) rfl
theorem d_Md_isOf_20 : decode prog_8_method_14_code 20 = .ok (.iand, 1) := zdt v_Md_isOf_0 14 (q := (20, .iand, 1)) rfl
theorem d_Md_isOf_21 : decode prog_8_method_14_code 21 = .ok (.ifCond .ne 7, 3) := zdt v_Md_isOf_0 15 (q := (21, .ifCond .ne 7, 3)) rfl
theorem d_Md_isOf_24 : decode prog_8_method_14_code 24 = .ok (.iconst 1, 1) := zdt v_Md_isOf_0 16 (q := (24, .iconst 1, 1)) rfl
theorem d_Md_isOf_25 : decode prog_8_method_14_code 25 = .ok (.goto 4, 3) := zdt v_Md_isOf_0 17 (q := (25, .goto 4, 3)) rfl
theorem d_Md_isOf_28 : decode prog_8_method_14_code 28 = .ok (.iconst 0, 1) := zdt v_Md_isOf_0 18 (q := (28, .iconst 0, 1)) rfl
theorem d_Md_isOf_29 : decode prog_8_method_14_code 29 = .ok (.ireturn, 1) := zdt v_Md_isOf_0 19 (q := (29, .ireturn, 1)) rfl
def u_Md_all_0 : List (Nat × Instr × Nat) := [(0, .iconst 1, 1), (1, .aload_n 0, 1), (2, .getfield 83, 3), (5, .ishl, 1), (6, .iconst 1, 1), (7, .isub, 1), (8, .sipush 4032, 3), (11, .iadd, 1), (12, .ireturn, 1)]
theorem v_Md_all_0 : u_Md_all_0.all (zdq prog_8_method_13_code) = true := by decide +kernel
theorem d_Md_all_0 : decode prog_8_method_13_code 0 = .ok (.iconst 1, 1) := zdt v_Md_all_0 0 (q := (0, .iconst 1, 1)) rfl
theorem d_Md_all_1 : decode prog_8_method_13_code 1 = .ok (.aload_n 0, 1) := zdt v_Md_all_0 1 (q := (1, .aload_n 0, 1)) rfl
theorem d_Md_all_2 : decode prog_8_method_13_code 2 = .ok (.getfield 83, 3) := zdt v_Md_all_0 2 (q := (2, .getfield 83, 3)) rfl
theorem d_Md_all_5 : decode prog_8_method_13_code 5 = .ok (.ishl, 1) := zdt v_Md_all_0 3 (q := (5, .ishl, 1)) rfl
theorem d_Md_all_6 : decode prog_8_method_13_code 6 = .ok (.iconst 1, 1) := zdt v_Md_all_0 4 (q := (6, .iconst 1, 1)) rfl
theorem d_Md_all_7 : decode prog_8_method_13_code 7 = .ok (.isub, 1) := zdt v_Md_all_0 5 (q := (7, .isub, 1)) rfl
theorem d_Md_all_8 : decode prog_8_method_13_code 8 = .ok (.sipush 4032, 3) := zdt v_Md_all_0 6 (q := (8, .sipush 4032, 3)) rfl
theorem d_Md_all_11 : decode prog_8_method_13_code 11 = .ok (.iadd, 1) := zdt v_Md_all_0 7 (q := (11, .iadd, 1)) rfl
theorem d_Md_all_12 : decode prog_8_method_13_code 12 = .ok (.ireturn, 1) := zdt v_Md_all_0 8 (q := (12, .ireturn, 1)) rfl
def u_Md_findFaces_0 : List (Nat × Instr × Nat) := [(0, .iconst 0, 1), (1, .istore_n 2, 1), (2, .iconst 0, 1), (3, .istore_n 3, 1), (4, .iload_n 3, 1), (5, .bipush 12, 2), (7, .if_icmp .ge 44, 3), (10, .aload_n 0, 1), (11, .iload_n 3, 1), (12, .invokevirtual 100, 3), (15, .ifCond .eq 30, 3), (18, .aload_n 0, 1), (19, .iload_n 1, 1), (20, .iconst 1, 1), (21, .iload_n 3, 1), (22, .ishl, 1), (23, .invokevirtual 117, 3), (26, .aload_n 0, 1), (27, .invokevirtual 120, 3), (30, .iconst 1, 1), (31, .iload_n 3, 1), (32, .ishl, 1), (33, .iconst (-1), 1), (34, .ixor, 1), (35, .iand, 1), (36, .if_icmp .ne 9, 3), (39, .iload_n 2, 1), (40, .iconst 1, 1), (41, .iload_n 3, 1), (42, .ishl, 1), (43, .ior, 1), (44, .istore_n 2, 1), (45, .iinc 3 1, 3), (48, .goto (-44), 3), (51, .iload_n 2, 1), (52, .ireturn, 1)]
theorem v_Md_findFaces_0 : u_Md_findFaces_0.all (zdq prog_8_method_16_code) = true := by decide +kernel
theorem d_Md_findFaces_0 : decode prog_8_method_16_code 0 = .ok (.iconst 0, 1) := zdt v_Md_findFaces_0 0 (q := (0, .iconst 0, 1)) rfl
theorem d_Md_findFaces_1 : decode prog_8_method_16_code 1 = .ok (.istore_n 2, 1) := zdt v_Md_findFaces_0 1 (q := (1, .istore_n 2, 1)) rfl
theorem d_Md_findFaces_2 : decode prog_8_method_16_code 2 = .ok (.iconst 0, 1) := zdt v_Md_findFaces_0 2 (q := (2, .iconst 0, 1)) rfl
theorem d_Md_findFaces_3 : decode prog_8_method_16_code 3 = .ok (.istore_n 3, 1) := zdt v_Md_findFaces_0 3 (q := (3, .istore_n 3, 1)) rfl
theorem d_Md_findFaces_4 : decode prog_8_method_16_code 4 = .ok (.iload_n 3, 1) := zdt v_Md_findFaces_0 4 (q := (4, .iload_n 3, 1)) rfl
theorem d_Md_findFaces_5 : decode prog_8_method_16_code 5 = .ok (.bipush 12, 2) := zdt v_Md_findFaces_0 5 (q := (5, .bipush 12, 2)) rfl
theorem d_Md_findFaces_7 : decode prog_8_method_16_code 7 = .ok (.if_icmp .ge 44, 3) := zdt v_Md_findFaces_0 6 (q := (7, .if_icmp .ge 44, 3)) rfl
theorem d_Md_findFaces_10 : decode prog_8_method_16_code 10 = .ok (.aload_n 0, 1) := zdt v_Md_findFaces_0 7 (q := (10, .aload_n 0, 1)) rfl
theorem d_Md_findFaces_11 : decode prog_8_method_16_code 11 = .ok (.iload_n 3, 1) := zdt v_Md_findFaces_0 8 (q := (11, .iload_n 3, 1)) rfl
theorem d_Md_findFaces_12 : decode prog_8_method_16_code 12 = .ok (.invokevirtual 100, 3) := zdt v_Md_findFaces_0 9 (q := (12, .invokevirtual 100, 3)) rfl
theorem d_Md_findFaces_15 : decode prog_8_method_16_code 15 = .ok (.ifCond .eq 30, 3) := zdt v_Md_findFaces_0 10 (q := (15, .ifCond .eq 30, 3)) rfl
theorem d_Md_findFaces_18 : decode prog_8_method_16_code 18 = .ok (.aload_n 0, 1) := zdt v_Md_findFaces_0 11 (q := (18, .aload_n 0, 1)) rfl
theorem d_Md_findFaces_19 : decode prog_8_method_16_code 19 = .ok (.iload_n 1, 1) := zdt v_Md_findFaces_0 12 (q := (19, .iload_n 1, 1)) rfl
theorem d_Md_findFaces_20 : decode prog_8_method_16_code 20 = .ok (.iconst 1, 1) := zdt v_Md_findFaces_0 13 (q := (20, .iconst 1, 1)) rfl
theorem d_Md_findFaces_21 : decode prog_8_method_16_code 21 = .ok (.iload_n 3, 1) := zdt v_Md_findFaces_0 14 (q := (21, .iload_n 3, 1)) rfl
theorem d_Md_findFaces_22 : decode prog_8_method_16_code 22 = .ok (.ishl, 1) := zdt v_Md_findFaces_0 15 (q := (22, .ishl, 1)) rfl
theorem d_Md_findFaces_23 : decode prog_8_method_16_code 23 = .ok (.invokevirtual 117, 3) := zdt v_Md_findFaces_0 16 (q := (23, .invokevirtual 117, 3)) rfl
theorem d_Md_findFaces_26 : decode prog_8_method_16_code 26 = .ok (.aload_n 0, 1) := zdt v_Md_findFaces_0 17 (q := (26, .aload_n 0, 1)) rfl
theorem d_Md_findFaces_27 : decode prog_8_method_16_code 27 = .ok (.invokevirtual 120, 3) := zdt v_Md_findFaces_0 18 (q := (27, .invokevirtual 120, 3)) rfl
theorem d_Md_findFaces_30 : decode prog_8_method_16_code 30 = .ok (.iconst 1, 1) := zdt v_Md_findFaces_0 19 (q := (30, .iconst 1, 1)) rfl
theorem d_Md_findFaces_31 : decode prog_8_method_16_code 31 = .ok (.iload_n 3, 1) := zdt v_Md_findFaces_0 20 (q := (31, .iload_n 3, 1)) rfl
theorem d_Md_findFaces_32 : decode prog_8_method_16_code 32 = .ok (.ishl, 1) := zdt v_Md_findFaces_0 21 (q := (32, .ishl, 1)) rfl
theorem d_Md_findFaces_33 : decode prog_8_method_16_code 33 = .ok (.iconst (-1), 1) := zdt v_Md_findFaces_0 22 (q := (33, .iconst (-1), 1)) rfl
theorem d_Md_findFaces_34 : decode prog_8_method_16_code 34 = .ok (.ixor, 1) := zdt v_Md_findFaces_0 23 (q := (34, .ixor, 1)) rfl
theorem d_Md_findFaces_35 : decode prog_8_method_16_code 35 = .ok (.iand, 1) := zdt v_Md_findFaces_0 24 (q := (35, .iand, 1)) rfl
theorem d_Md_findFaces_36 : decode prog_8_method_16_code 36 = .ok (.if_icmp .ne 9, 3) := zdt v_Md_findFaces_0 25 (q := (36, .if_icmp .ne 9, 3)) rfl
theorem d_Md_findFaces_39 : decode prog_8_method_16_code 39 = .ok (.iload_n 2, 1) := zdt v_Md_findFaces_0 26 (q := (39, .iload_n 2, 1)) rfl
theorem d_Md_findFaces_40 : decode prog_8_method_16_code 40 = .ok (.iconst 1, 1) := zdt v_Md_findFaces_0 27 (q := (40, .iconst 1, 1)) rfl
theorem d_Md_findFaces_41 : decode prog_8_method_16_code 41 = .ok (.iload_n 3, 1) := zdt v_Md_findFaces_0 28 (q := (41, .iload_n 3, 1)) rfl
theorem d_Md_findFaces_42 : decode prog_8_method_16_code 42 = .ok (.ishl, 1) := zdt v_Md_findFaces_0 29 (q := (42, .ishl, 1)) rfl
theorem d_Md_findFaces_43 : decode prog_8_method_16_code 43 = .ok (.ior, 1) := zdt v_Md_findFaces_0 30 (q := (43, .ior, 1)) rfl
theorem d_Md_findFaces_44 : decode prog_8_method_16_code 44 = .ok (.istore_n 2, 1) := zdt v_Md_findFaces_0 31 (q := (44, .istore_n 2, 1)) rfl
theorem d_Md_findFaces_45 : decode prog_8_method_16_code 45 = .ok (.iinc 3 1, 3) := zdt v_Md_findFaces_0 32 (q := (45, .iinc 3 1, 3)) rfl
theorem d_Md_findFaces_48 : decode prog_8_method_16_code 48 = .ok (.goto (-44), 3) := zdt v_Md_findFaces_0 33 (q := (48, .goto (-44), 3)) rfl
theorem d_Md_findFaces_51 : decode prog_8_method_16_code 51 = .ok (.iload_n 2, 1) := zdt v_Md_findFaces_0 34 (q := (51, .iload_n 2, 1)) rfl
theorem d_Md_findFaces_52 : decode prog_8_method_16_code 52 = .ok (.ireturn, 1) := zdt v_Md_findFaces_0 35 (q := (52, .ireturn, 1)) rfl
def u_Md_thrown_0 : List (Nat × Instr × Nat) := [(0, .aload_n 0, 1), (1, .getfield 75, 3), (4, .ireturn, 1)]
theorem v_Md_thrown_0 : u_Md_thrown_0.all (zdq prog_8_method_2_code) = true := by decide +kernel
theorem d_Md_thrown_0 : decode prog_8_method_2_code 0 = .ok (.aload_n 0, 1) := zdt v_Md_thrown_0 0 (q := (0, .aload_n 0, 1)) rfl
theorem d_Md_thrown_1 : decode prog_8_method_2_code 1 = .ok (.getfield 75, 3) := zdt v_Md_thrown_0 1 (q := (1, .getfield 75, 3)) rfl
theorem d_Md_thrown_4 : decode prog_8_method_2_code 4 = .ok (.ireturn, 1) := zdt v_Md_thrown_0 2 (q := (4, .ireturn, 1)) rfl
def u_Md_joint_0 : List (Nat × Instr × Nat) := [(0, .aload_n 0, 1), (1, .aload_n 0, 1), (2, .iload_n 1, 1), (3, .iload_n 2, 1), (4, .iload_n 3, 1), (5, .iload 4, 2), (7, .invokevirtual 139, 3), (10, .ifCond .ne 7, 3), (13, .iconst 1, 1), (14, .goto 17, 3), (17, .aload_n 0, 1), (18, .getfield 83, 3), (21, .bipush 6, 2), (23, .if_icmp .ne 7, 3), (26, .iconst 2, 1), (27, .goto 4, 3), (30, .iconst 0, 1), (31, .putfield 75, 3), (34, .aload_n 0, 1), (35, .getfield 75, 3), (38, .ifCond .le 5, 3), (41, .iconst 0, 1), (42, .ireturn, 1), (43, .aload_n 0, 1), (44, .getfield 13, 3), (47, .iconst 4, 1), (48, .aload_n 0, 1), (49, .getfield 83, 3), (52, .imul, 1), (53, .iload_n 1, 1), (54, .iastore, 1), (55, .aload_n 0, 1), (56, .getfield 13, 3), (59, .iconst 4, 1), (60, .aload_n 0, 1), (61, .getfield 83, 3), (64, .imul, 1), (65, .iconst 1, 1), (66, .iadd, 1), (67, .iload_n 2, 1)]
theorem v_Md_joint_0 : u_Md_joint_0.all (zdq prog_8_method_19_code) = true := by decide +kernel
theorem d_Md_joint_0 : decode prog_8_method_19_code 0 = .ok (.aload_n 0, 1) := zdt v_Md_joint_0 0 (q := (0, .aload_n 0, 1)) rfl
theorem d_Md_joint_1 : decode prog_8_method_19_code 1 = .ok (.aload_n 0, 1) := zdt v_Md_joint_0 1 (q := (1, .aload_n 0, 1)) rfl
theorem d_Md_joint_2 : decode prog_8_method_19_code 2 = .ok (.iload_n 1, 1) := zdt v_Md_joint_0 2 (q := (2, .iload_n 1, 1)) rfl
theorem d_Md_joint_3 : decode prog_8_method_19_code 3 = .ok (.iload_n 2, 1) := zdt v_Md_joint_0 3 (q := (3, .iload_n 2, 1)) rfl
theorem d_Md_joint_4 : decode prog_8_method_19_code 4 = .ok (.iload_n 3, 1) := zdt v_Md_joint_0 4 (q := (4, .iload_n 3, 1)) rfl
theorem d_Md_joint_5 : decode prog_8_method_19_code 5 = .ok (.iload 4, 2) := zdt v_Md_joint_0 5 (q := (5, .iload 4, 2)) rfl
theorem d_Md_joint_7 : decode prog_8_method_19_code 7 = .ok (.invokevirtual 139, 3) := zdt v_Md_joint_0 6 (q := (7, .invokevirtual 139, 3)) rfl
theorem d_Md_joint_10 : decode prog_8_method_19_code 10 = .ok (.ifCond .ne 7, 3) := zdt v_Md_joint_0 7 (q := (10, .ifCond .ne 7, 3)) rfl
theorem d_Md_joint_13 : decode prog_8_method_19_code 13 = .ok (.iconst 1, 1) := zdt v_Md_joint_0 8 (q := (13, .iconst 1, 1)) rfl
theorem d_Md_joint_14 : decode prog_8_method_19_code 14 = .ok (.goto 17, 3) := zdt v_Md_joint_0 9 (q := (14, .goto 17, 3)) rfl
theorem d_Md_joint_17 : decode prog_8_method_19_code 17 = .ok (.aload_n 0, 1) := zdt v_Md_joint_0 10 (q := (17, .aload_n 0, 1)) rfl
theorem d_Md_joint_18 : decode prog_8_method_19_code 18 = .ok (.getfield 83, 3) := zdt v_Md_joint_0 11 (q := (18, .getfield 83, 3)) rfl
theorem d_Md_joint_21 : decode prog_8_method_19_code 21 = .ok (.bipush 6, 2) := zdt v_Md_joint_0 12 (q := (21, .bipush 6, 2)) rfl
theorem d_Md_joint_23 : decode prog_8_method_19_code 23 = .ok (.if_icmp .ne 7, 3) := zdt v_Md_joint_0 13 (q := (23, .if_icmp .ne 7, 3)) rfl
theorem d_Md_joint_26 : decode prog_8_method_19_code 26 = .ok (.iconst 2, 1) := zdt v_Md_joint_0 14 (q := (26, .iconst 2, 1)) rfl
theorem d_Md_joint_27 : decode prog_8_method_19_code 27 = .ok (.goto 4, 3) := zdt v_Md_joint_0 15 (q := (27, .goto 4, 3)) rfl
theorem d_Md_joint_30 : decode prog_8_method_19_code 30 = .ok (.iconst 0, 1) := zdt v_Md_joint_0 16 (q := (30, .iconst 0, 1)) rfl
theorem d_Md_joint_31 : decode prog_8_method_19_code 31 = .ok (.putfield 75, 3) := zdt v_Md_joint_0 17 (q := (31, .putfield 75, 3)) rfl
theorem d_Md_joint_34 : decode prog_8_method_19_code 34 = .ok (.aload_n 0, 1) := zdt v_Md_joint_0 18 (q := (34, .aload_n 0, 1)) rfl
theorem d_Md_joint_35 : decode prog_8_method_19_code 35 = .ok (.getfield 75, 3) := zdt v_Md_joint_0 19 (q := (35, .getfield 75, 3)) rfl
theorem d_Md_joint_38 : decode prog_8_method_19_code 38 = .ok (.ifCond .le 5, 3) := zdt v_Md_joint_0 20 (q := (38, .ifCond .le 5, 3)) rfl
theorem d_Md_joint_41 : decode prog_8_method_19_code 41 = .ok (.iconst 0, 1) := zdt v_Md_joint_0 21 (q := (41, .iconst 0, 1)) rfl
theorem d_Md_joint_42 : decode prog_8_method_19_code 42 = .ok (.ireturn, 1) := zdt v_Md_joint_0 22 (q := (42, .ireturn, 1)) rfl
theorem d_Md_joint_43 : decode prog_8_method_19_code 43 = .ok (.aload_n 0, 1) := zdt v_Md_joint_0 23 (q := (43, .aload_n 0, 1)) rfl
theorem d_Md_joint_44 : decode prog_8_method_19_code 44 = .ok (.getfield 13, 3) := zdt v_Md_joint_0 24 (q := (44, .getfield 13, 3)) rfl
theorem d_Md_joint_47 : decode prog_8_method_19_code 47 = .ok (.iconst 4, 1) := zdt v_Md_joint_0 25 (q := (47, .iconst 4, 1)) rfl
theorem d_Md_joint_48 : decode prog_8_method_19_code 48 = .ok (.aload_n 0, 1) := zdt v_Md_joint_0 26 (q := (48, .aload_n 0, 1)) rfl
theorem d_Md_joint_49 : decode prog_8_method_19_code 49 = .ok (.getfield 83, 3) := zdt v_Md_joint_0 27 (q := (49, .getfield 83, 3)) rfl
theorem d_Md_joint_52 : decode prog_8_method_19_code 52 = .ok (.imul, 1) := zdt v_Md_joint_0 28 (q := (52, .imul, 1)) rfl
theorem d_Md_joint_53 : decode prog_8_method_19_code 53 = .ok (.iload_n 1, 1) := zdt v_Md_joint_0 29 (q := (53, .iload_n 1, 1)) rfl
theorem d_Md_joint_54 : decode prog_8_method_19_code 54 = .ok (.iastore, 1) := zdt v_Md_joint_0 30 (q := (54, .iastore, 1)) rfl
theorem d_Md_joint_55 : decode prog_8_method_19_code 55 = .ok (.aload_n 0, 1) := zdt v_Md_joint_0 31 (q := (55, .aload_n 0, 1)) rfl
theorem d_Md_joint_56 : decode prog_8_method_19_code 56 = .ok (.getfield 13, 3) := zdt v_Md_joint_0 32 (q := (56, .getfield 13, 3)) rfl
theorem d_Md_joint_59 : decode prog_8_method_19_code 59 = .ok (.iconst 4, 1) := zdt v_Md_joint_0 33 (q := (59, .iconst 4, 1)) rfl
theorem d_Md_joint_60 : decode prog_8_method_19_code 60 = .ok (.aload_n 0, 1) := zdt v_Md_joint_0 34 (q := (60, .aload_n 0, 1)) rfl
theorem d_Md_joint_61 : decode prog_8_method_19_code 61 = .ok (.getfield 83, 3) := zdt v_Md_joint_0 35 (q := (61, .getfield 83, 3)) rfl
theorem d_Md_joint_64 : decode prog_8_method_19_code 64 = .ok (.imul, 1) := zdt v_Md_joint_0 36 (q := (64, .imul, 1)) rfl
theorem d_Md_joint_65 : decode prog_8_method_19_code 65 = .ok (.iconst 1, 1) := zdt v_Md_joint_0 37 (q := (65, .iconst 1, 1)) rfl
theorem d_Md_joint_66 : decode prog_8_method_19_code 66 = .ok (.iadd, 1) := zdt v_Md_joint_0 38 (q := (66, .iadd, 1)) rfl
theorem d_Md_joint_67 : decode prog_8_method_19_code 67 = .ok (.iload_n 2, 1) := zdt v_Md_joint_0 39 (q := (67, .iload_n 2, 1)) rfl
def u_Md_joint_1 : List (Nat × Instr × Nat) := [(68, .iastore, 1), (69, .aload_n 0, 1), (70, .getfield 13, 3), (73, .iconst 4, 1), (74, .aload_n 0, 1), (75, .getfield 83, 3), (78, .imul, 1), (79, .iconst 2, 1), (80, .iadd, 1), (81, .iload_n 3, 1), (82, .iastore, 1), (83, .aload_n 0, 1), (84, .getfield 13, 3), (87, .iconst 4, 1), (88, .aload_n 0, 1), (89, .getfield 83, 3), (92, .imul, 1), (93, .iconst 3, 1), (94, .iadd, 1), (95, .iload 4, 2), (97, .iastore, 1), (98, .aload_n 0, 1), (99, .dup, 1), (100, .getfield 83, 3), (103, .iconst 1, 1), (104, .iadd, 1), (105, .putfield 83, 3), (108, .aload_n 0, 1), (109, .invokevirtual 72, 3), (112, .aload_n 0, 1), (113, .getfield 83, 3), (116, .iconst 1, 1), (117, .isub, 1), (118, .ireturn, 1)]
theorem v_Md_joint_1 : u_Md_joint_1.all (zdq prog_8_method_19_code) = true := by decide +kernel
theorem d_Md_joint_68 : decode prog_8_method_19_code 68 = .ok (.iastore, 1) := zdt v_Md_joint_1 0 (q := (68, .iastore, 1)) rfl
theorem d_Md_joint_69 : decode prog_8_method_19_code 69 = .ok (.aload_n 0, 1) := zdt v_Md_joint_1 1 (q := (69, .aload_n 0, 1)) rfl
theorem d_Md_joint_70 : decode prog_8_method_19_code 70 = .ok (.getfield 13, 3) := zdt v_Md_joint_1 2 (q := (70, .getfield 13, 3)) rfl
theorem d_Md_joint_73 : decode prog_8_method_19_code 73 = .ok (.iconst 4, 1) := zdt v_Md_joint_1 3 (q := (73, .iconst 4, 1)) rfl
theorem d_Md_joint_74 : decode prog_8_method_19_code 74 = .ok (.aload_n 0, 1) := zdt v_Md_joint_1 4 (q := (74, .aload_n 0, 1)) rfl
theorem d_Md_joint_75 : decode prog_8_method_19_code 75 = .ok (.getfield 83, 3) := zdt v_Md_joint_1 5 (q := (75, .getfield 83, 3)) rfl
theorem d_Md_joint_78 : decode prog_8_method_19_code 78 = .ok (.imul, 1) := zdt v_Md_joint_1 6 (q := (78, .imul, 1)) rfl
theorem d_Md_joint_79 : decode prog_8_method_19_code 79 = .ok (.iconst 2, 1) := zdt v_Md_joint_1 7 (q := (79, .iconst 2, 1)) rfl
theorem d_Md_joint_80 : decode prog_8_method_19_code 80 = .ok (.iadd, 1) := zdt v_Md_joint_1 8 (q := (80, .iadd, 1)) rfl
theorem d_Md_joint_81 : decode prog_8_method_19_code 81 = .ok (.iload_n 3, 1) := zdt v_Md_joint_1 9 (q := (81, .iload_n 3, 1)) rfl
theorem d_Md_joint_82 : decode prog_8_method_19_code 82 = .ok (.iastore, 1) := zdt v_Md_joint_1 10 (q := (82, .iastore, 1)) rfl
theorem d_Md_joint_83 : decode prog_8_method_19_code 83 = .ok (.aload_n 0, 1) := zdt v_Md_joint_1 11 (q := (83, .aload_n 0, 1)) rfl
theorem d_Md_joint_84 : decode prog_8_method_19_code 84 = .ok (.getfield 13, 3) := zdt v_Md_joint_1 12 (q := (84, .getfield 13, 3)) rfl
theorem d_Md_joint_87 : decode prog_8_method_19_code 87 = .ok (.iconst 4, 1) := zdt v_Md_joint_1 13 (q := (87, .iconst 4, 1)) rfl
theorem d_Md_joint_88 : decode prog_8_method_19_code 88 = .ok (.aload_n 0, 1) := zdt v_Md_joint_1 14 (q := (88, .aload_n 0, 1)) rfl
theorem d_Md_joint_89 : decode prog_8_method_19_code 89 = .ok (.getfield 83, 3) := zdt v_Md_joint_1 15 (q := (89, .getfield 83, 3)) rfl
theorem d_Md_joint_92 : decode prog_8_method_19_code 92 = .ok (.imul, 1) := zdt v_Md_joint_1 16 (q := (92, .imul, 1)) rfl
theorem d_Md_joint_93 : decode prog_8_method_19_code 93 = .ok (.iconst 3, 1) := zdt v_Md_joint_1 17 (q := (93, .iconst 3, 1)) rfl
theorem d_Md_joint_94 : decode prog_8_method_19_code 94 = .ok (.iadd, 1) := zdt v_Md_joint_1 18 (q := (94, .iadd, 1)) rfl
theorem d_Md_joint_95 : decode prog_8_method_19_code 95 = .ok (.iload 4, 2) := zdt v_Md_joint_1 19 (q := (95, .iload 4, 2)) rfl
theorem d_Md_joint_97 : decode prog_8_method_19_code 97 = .ok (.iastore, 1) := zdt v_Md_joint_1 20 (q := (97, .iastore, 1)) rfl
theorem d_Md_joint_98 : decode prog_8_method_19_code 98 = .ok (.aload_n 0, 1) := zdt v_Md_joint_1 21 (q := (98, .aload_n 0, 1)) rfl
theorem d_Md_joint_99 : decode prog_8_method_19_code 99 = .ok (.dup, 1) := zdt v_Md_joint_1 22 (q := (99, .dup, 1)) rfl
theorem d_Md_joint_100 : decode prog_8_method_19_code 100 = .ok (.getfield 83, 3) := zdt v_Md_joint_1 23 (q := (100, .getfield 83, 3)) rfl
theorem d_Md_joint_103 : decode prog_8_method_19_code 103 = .ok (.iconst 1, 1) := zdt v_Md_joint_1 24 (q := (103, .iconst 1, 1)) rfl
theorem d_Md_joint_104 : decode prog_8_method_19_code 104 = .ok (.iadd, 1) := zdt v_Md_joint_1 25 (q := (104, .iadd, 1)) rfl
theorem d_Md_joint_105 : decode prog_8_method_19_code 105 = .ok (.putfield 83, 3) := zdt v_Md_joint_1 26 (q := (105, .putfield 83, 3)) rfl
theorem d_Md_joint_108 : decode prog_8_method_19_code 108 = .ok (.aload_n 0, 1) := zdt v_Md_joint_1 27 (q := (108, .aload_n 0, 1)) rfl
theorem d_Md_joint_109 : decode prog_8_method_19_code 109 = .ok (.invokevirtual 72, 3) := zdt v_Md_joint_1 28 (q := (109, .invokevirtual 72, 3)) rfl
theorem d_Md_joint_112 : decode prog_8_method_19_code 112 = .ok (.aload_n 0, 1) := zdt v_Md_joint_1 29 (q := (112, .aload_n 0, 1)) rfl
theorem d_Md_joint_113 : decode prog_8_method_19_code 113 = .ok (.getfield 83, 3) := zdt v_Md_joint_1 30 (q := (113, .getfield 83, 3)) rfl
theorem d_Md_joint_116 : decode prog_8_method_19_code 116 = .ok (.iconst 1, 1) := zdt v_Md_joint_1 31 (q := (116, .iconst 1, 1)) rfl
theorem d_Md_joint_117 : decode prog_8_method_19_code 117 = .ok (.isub, 1) := zdt v_Md_joint_1 32 (q := (117, .isub, 1)) rfl
theorem d_Md_joint_118 : decode prog_8_method_19_code 118 = .ok (.ireturn, 1) := zdt v_Md_joint_1 33 (q := (118, .ireturn, 1)) rfl
def u_Md_isRight_0 : List (Nat × Instr × Nat) := [(0, .iload_n 1, 1), (1, .bipush (-6), 2), (3, .bipush 6, 2), (5, .invokestatic 131, 3), (8, .ifCond .eq 53, 3), (11, .iload_n 2, 1), (12, .bipush (-6), 2), (14, .bipush 6, 2), (16, .invokestatic 131, 3), (19, .ifCond .eq 42, 3), (22, .iload_n 3, 1), (23, .bipush (-6), 2), (25, .bipush 6, 2), (27, .invokestatic 131, 3), (30, .ifCond .eq 31, 3), (33, .iload 4, 2), (35, .bipush (-100), 2), (37, .bipush 100, 2), (39, .invokestatic 131, 3), (42, .ifCond .eq 19, 3), (45, .iload_n 1, 1), (46, .ifCond .ne 11, 3), (49, .iload_n 2, 1), (50, .ifCond .ne 7, 3), (53, .iload_n 3, 1), (54, .ifCond .eq 7, 3), (57, .iconst 1, 1), (58, .goto 4, 3), (61, .iconst 0, 1), (62, .istore 5, 2), (64, .iload 5, 2), (66, .ifCond .ne 5, 3), (69, .iconst 0, 1), (70, .ireturn, 1), (71, .iconst 0, 1), (72, .istore 6, 2), (74, .iconst 0, 1), (75, .istore 7, 2), (77, .iconst 0, 1), (78, .istore 8, 2)]
theorem v_Md_isRight_0 : u_Md_isRight_0.all (zdq prog_8_method_18_code) = true := by decide +kernel
theorem d_Md_isRight_0 : decode prog_8_method_18_code 0 = .ok (.iload_n 1, 1) := zdt v_Md_isRight_0 0 (q := (0, .iload_n 1, 1)) rfl
theorem d_Md_isRight_1 : decode prog_8_method_18_code 1 = .ok (.bipush (-6), 2) := zdt v_Md_isRight_0 1 (q := (1, .bipush (-6), 2)) rfl
theorem d_Md_isRight_3 : decode prog_8_method_18_code 3 = .ok (.bipush 6, 2) := zdt v_Md_isRight_0 2 (q := (3, .bipush 6, 2)) rfl
theorem d_Md_isRight_5 : decode prog_8_method_18_code 5 = .ok (.invokestatic 131, 3) := zdt v_Md_isRight_0 3 (q := (5, .invokestatic 131, 3)) rfl
theorem d_Md_isRight_8 : decode prog_8_method_18_code 8 = .ok (.ifCond .eq 53, 3) := zdt v_Md_isRight_0 4 (q := (8, .ifCond .eq 53, 3)) rfl
theorem d_Md_isRight_11 : decode prog_8_method_18_code 11 = .ok (.iload_n 2, 1) := zdt v_Md_isRight_0 5 (q := (11, .iload_n 2, 1)) rfl
theorem d_Md_isRight_12 : decode prog_8_method_18_code 12 = .ok (.bipush (-6), 2) := zdt v_Md_isRight_0 6 (q := (12, .bipush (-6), 2)) rfl
theorem d_Md_isRight_14 : decode prog_8_method_18_code 14 = .ok (.bipush 6, 2) := zdt v_Md_isRight_0 7 (q := (14, .bipush 6, 2)) rfl
theorem d_Md_isRight_16 : decode prog_8_method_18_code 16 = .ok (.invokestatic 131, 3) := zdt v_Md_isRight_0 8 (q := (16, .invokestatic 131, 3)) rfl
theorem d_Md_isRight_19 : decode prog_8_method_18_code 19 = .ok (.ifCond .eq 42, 3) := zdt v_Md_isRight_0 9 (q := (19, .ifCond .eq 42, 3)) rfl
theorem d_Md_isRight_22 : decode prog_8_method_18_code 22 = .ok (.iload_n 3, 1) := zdt v_Md_isRight_0 10 (q := (22, .iload_n 3, 1)) rfl
theorem d_Md_isRight_23 : decode prog_8_method_18_code 23 = .ok (.bipush (-6), 2) := zdt v_Md_isRight_0 11 (q := (23, .bipush (-6), 2)) rfl
theorem d_Md_isRight_25 : decode prog_8_method_18_code 25 = .ok (.bipush 6, 2) := zdt v_Md_isRight_0 12 (q := (25, .bipush 6, 2)) rfl
theorem d_Md_isRight_27 : decode prog_8_method_18_code 27 = .ok (.invokestatic 131, 3) := zdt v_Md_isRight_0 13 (q := (27, .invokestatic 131, 3)) rfl
theorem d_Md_isRight_30 : decode prog_8_method_18_code 30 = .ok (.ifCond .eq 31, 3) := zdt v_Md_isRight_0 14 (q := (30, .ifCond .eq 31, 3)) rfl
theorem d_Md_isRight_33 : decode prog_8_method_18_code 33 = .ok (.iload 4, 2) := zdt v_Md_isRight_0 15 (q := (33, .iload 4, 2)) rfl
theorem d_Md_isRight_35 : decode prog_8_method_18_code 35 = .ok (.bipush (-100), 2) := zdt v_Md_isRight_0 16 (q := (35, .bipush (-100), 2)) rfl
theorem d_Md_isRight_37 : decode prog_8_method_18_code 37 = .ok (.bipush 100, 2) := zdt v_Md_isRight_0 17 (q := (37, .bipush 100, 2)) rfl
theorem d_Md_isRight_39 : decode prog_8_method_18_code 39 = .ok (.invokestatic 131, 3) := zdt v_Md_isRight_0 18 (q := (39, .invokestatic 131, 3)) rfl
theorem d_Md_isRight_42 : decode prog_8_method_18_code 42 = .ok (.ifCond .eq 19, 3) := zdt v_Md_isRight_0 19 (q := (42, .ifCond .eq 19, 3)) rfl
theorem d_Md_isRight_45 : decode prog_8_method_18_code 45 = .ok (.iload_n 1, 1) := zdt v_Md_isRight_0 20 (q := (45, .iload_n 1, 1)) rfl
theorem d_Md_isRight_46 : decode prog_8_method_18_code 46 = .ok (.ifCond .ne 11, 3) := zdt v_Md_isRight_0 21 (q := (46, .ifCond .ne 11, 3)) rfl
theorem d_Md_isRight_49 : decode prog_8_method_18_code 49 = .ok (.iload_n 2, 1) := zdt v_Md_isRight_0 22 (q := (49, .iload_n 2, 1)) rfl
theorem d_Md_isRight_50 : decode prog_8_method_18_code 50 = .ok (.ifCond .ne 7, 3) := zdt v_Md_isRight_0 23 (q := (50, .ifCond .ne 7, 3)) rfl
theorem d_Md_isRight_53 : decode prog_8_method_18_code 53 = .ok (.iload_n 3, 1) := zdt v_Md_isRight_0 24 (q := (53, .iload_n 3, 1)) rfl
theorem d_Md_isRight_54 : decode prog_8_method_18_code 54 = .ok (.ifCond .eq 7, 3) := zdt v_Md_isRight_0 25 (q := (54, .ifCond .eq 7, 3)) rfl
theorem d_Md_isRight_57 : decode prog_8_method_18_code 57 = .ok (.iconst 1, 1) := zdt v_Md_isRight_0 26 (q := (57, .iconst 1, 1)) rfl
theorem d_Md_isRight_58 : decode prog_8_method_18_code 58 = .ok (.goto 4, 3) := zdt v_Md_isRight_0 27 (q := (58, .goto 4, 3)) rfl
theorem d_Md_isRight_61 : decode prog_8_method_18_code 61 = .ok (.iconst 0, 1) := zdt v_Md_isRight_0 28 (q := (61, .iconst 0, 1)) rfl
theorem d_Md_isRight_62 : decode prog_8_method_18_code 62 = .ok (.istore 5, 2) := zdt v_Md_isRight_0 29 (q := (62, .istore 5, 2)) rfl
theorem d_Md_isRight_64 : decode prog_8_method_18_code 64 = .ok (.iload 5, 2) := zdt v_Md_isRight_0 30 (q := (64, .iload 5, 2)) rfl
theorem d_Md_isRight_66 : decode prog_8_method_18_code 66 = .ok (.ifCond .ne 5, 3) := zdt v_Md_isRight_0 31 (q := (66, .ifCond .ne 5, 3)) rfl
theorem d_Md_isRight_69 : decode prog_8_method_18_code 69 = .ok (.iconst 0, 1) := zdt v_Md_isRight_0 32 (q := (69, .iconst 0, 1)) rfl
theorem d_Md_isRight_70 : decode prog_8_method_18_code 70 = .ok (.ireturn, 1) := zdt v_Md_isRight_0 33 (q := (70, .ireturn, 1)) rfl
theorem d_Md_isRight_71 : decode prog_8_method_18_code 71 = .ok (.iconst 0, 1) := zdt v_Md_isRight_0 34 (q := (71, .iconst 0, 1)) rfl
theorem d_Md_isRight_72 : decode prog_8_method_18_code 72 = .ok (.istore 6, 2) := zdt v_Md_isRight_0 35 (q := (72, .istore 6, 2)) rfl
theorem d_Md_isRight_74 : decode prog_8_method_18_code 74 = .ok (.iconst 0, 1) := zdt v_Md_isRight_0 36 (q := (74, .iconst 0, 1)) rfl
theorem d_Md_isRight_75 : decode prog_8_method_18_code 75 = .ok (.istore 7, 2) := zdt v_Md_isRight_0 37 (q := (75, .istore 7, 2)) rfl
theorem d_Md_isRight_77 : decode prog_8_method_18_code 77 = .ok (.iconst 0, 1) := zdt v_Md_isRight_0 38 (q := (77, .iconst 0, 1)) rfl
theorem d_Md_isRight_78 : decode prog_8_method_18_code 78 = .ok (.istore 8, 2) := zdt v_Md_isRight_0 39 (q := (78, .istore 8, 2)) rfl
def u_Md_isRight_1 : List (Nat × Instr × Nat) := [(80, .iload 8, 2), (82, .iconst 3, 1), (83, .if_icmp .ge 73, 3), (86, .iload 8, 2), (88, .ifCond .ne 7, 3), (91, .iload_n 1, 1), (92, .goto 14, 3), (95, .iload 8, 2), (97, .iconst 1, 1), (98, .if_icmp .ne 7, 3), (101, .iload_n 2, 1), (102, .goto 4, 3), (105, .iload_n 3, 1), (106, .aload_n 0, 1), (107, .getfield 7, 3), (110, .iload 8, 2), (112, .iaload, 1), (113, .imul, 1), (114, .istore 9, 2), (116, .iload 9, 2), (118, .ifCond .ge 11, 3), (121, .iload 6, 2), (123, .iload 9, 2), (125, .iadd, 1), (126, .goto 5, 3), (129, .iload 6, 2), (131, .istore 6, 2), (133, .iload 9, 2), (135, .ifCond .le 11, 3), (138, .iload 7, 2), (140, .iload 9, 2), (142, .iadd, 1), (143, .goto 5, 3), (146, .iload 7, 2), (148, .istore 7, 2), (150, .iinc 8 1, 3), (153, .goto (-73), 3), (156, .iload 6, 2), (158, .iload 4, 2), (160, .if_icmp .ge 14, 3)]
theorem v_Md_isRight_1 : u_Md_isRight_1.all (zdq prog_8_method_18_code) = true := by decide +kernel
theorem d_Md_isRight_80 : decode prog_8_method_18_code 80 = .ok (.iload 8, 2) := zdt v_Md_isRight_1 0 (q := (80, .iload 8, 2)) rfl
theorem d_Md_isRight_82 : decode prog_8_method_18_code 82 = .ok (.iconst 3, 1) := zdt v_Md_isRight_1 1 (q := (82, .iconst 3, 1)) rfl
theorem d_Md_isRight_83 : decode prog_8_method_18_code 83 = .ok (.if_icmp .ge 73, 3) := zdt v_Md_isRight_1 2 (q := (83, .if_icmp .ge 73, 3)) rfl
theorem d_Md_isRight_86 : decode prog_8_method_18_code 86 = .ok (.iload 8, 2) := zdt v_Md_isRight_1 3 (q := (86, .iload 8, 2)) rfl
theorem d_Md_isRight_88 : decode prog_8_method_18_code 88 = .ok (.ifCond .ne 7, 3) := zdt v_Md_isRight_1 4 (q := (88, .ifCond .ne 7, 3)) rfl
theorem d_Md_isRight_91 : decode prog_8_method_18_code 91 = .ok (.iload_n 1, 1) := zdt v_Md_isRight_1 5 (q := (91, .iload_n 1, 1)) rfl
theorem d_Md_isRight_92 : decode prog_8_method_18_code 92 = .ok (.goto 14, 3) := zdt v_Md_isRight_1 6 (q := (92, .goto 14, 3)) rfl
theorem d_Md_isRight_95 : decode prog_8_method_18_code 95 = .ok (.iload 8, 2) := zdt v_Md_isRight_1 7 (q := (95, .iload 8, 2)) rfl
theorem d_Md_isRight_97 : decode prog_8_method_18_code 97 = .ok (.iconst 1, 1) := zdt v_Md_isRight_1 8 (q := (97, .iconst 1, 1)) rfl
theorem d_Md_isRight_98 : decode prog_8_method_18_code 98 = .ok (.if_icmp .ne 7, 3) := zdt v_Md_isRight_1 9 (q := (98, .if_icmp .ne 7, 3)) rfl
theorem d_Md_isRight_101 : decode prog_8_method_18_code 101 = .ok (.iload_n 2, 1) := zdt v_Md_isRight_1 10 (q := (101, .iload_n 2, 1)) rfl
theorem d_Md_isRight_102 : decode prog_8_method_18_code 102 = .ok (.goto 4, 3) := zdt v_Md_isRight_1 11 (q := (102, .goto 4, 3)) rfl
theorem d_Md_isRight_105 : decode prog_8_method_18_code 105 = .ok (.iload_n 3, 1) := zdt v_Md_isRight_1 12 (q := (105, .iload_n 3, 1)) rfl
theorem d_Md_isRight_106 : decode prog_8_method_18_code 106 = .ok (.aload_n 0, 1) := zdt v_Md_isRight_1 13 (q := (106, .aload_n 0, 1)) rfl
theorem d_Md_isRight_107 : decode prog_8_method_18_code 107 = .ok (.getfield 7, 3) := zdt v_Md_isRight_1 14 (q := (107, .getfield 7, 3)) rfl
theorem d_Md_isRight_110 : decode prog_8_method_18_code 110 = .ok (.iload 8, 2) := zdt v_Md_isRight_1 15 (q := (110, .iload 8, 2)) rfl
theorem d_Md_isRight_112 : decode prog_8_method_18_code 112 = .ok (.iaload, 1) := zdt v_Md_isRight_1 16 (q := (112, .iaload, 1)) rfl
theorem d_Md_isRight_113 : decode prog_8_method_18_code 113 = .ok (.imul, 1) := zdt v_Md_isRight_1 17 (q := (113, .imul, 1)) rfl
theorem d_Md_isRight_114 : decode prog_8_method_18_code 114 = .ok (.istore 9, 2) := zdt v_Md_isRight_1 18 (q := (114, .istore 9, 2)) rfl
theorem d_Md_isRight_116 : decode prog_8_method_18_code 116 = .ok (.iload 9, 2) := zdt v_Md_isRight_1 19 (q := (116, .iload 9, 2)) rfl
theorem d_Md_isRight_118 : decode prog_8_method_18_code 118 = .ok (.ifCond .ge 11, 3) := zdt v_Md_isRight_1 20 (q := (118, .ifCond .ge 11, 3)) rfl
theorem d_Md_isRight_121 : decode prog_8_method_18_code 121 = .ok (.iload 6, 2) := zdt v_Md_isRight_1 21 (q := (121, .iload 6, 2)) rfl
theorem d_Md_isRight_123 : decode prog_8_method_18_code 123 = .ok (.iload 9, 2) := zdt v_Md_isRight_1 22 (q := (123, .iload 9, 2)) rfl
theorem d_Md_isRight_125 : decode prog_8_method_18_code 125 = .ok (.iadd, 1) := zdt v_Md_isRight_1 23 (q := (125, .iadd, 1)) rfl
theorem d_Md_isRight_126 : decode prog_8_method_18_code 126 = .ok (.goto 5, 3) := zdt v_Md_isRight_1 24 (q := (126, .goto 5, 3)) rfl
theorem d_Md_isRight_129 : decode prog_8_method_18_code 129 = .ok (.iload 6, 2) := zdt v_Md_isRight_1 25 (q := (129, .iload 6, 2)) rfl
theorem d_Md_isRight_131 : decode prog_8_method_18_code 131 = .ok (.istore 6, 2) := zdt v_Md_isRight_1 26 (q := (131, .istore 6, 2)) rfl
theorem d_Md_isRight_133 : decode prog_8_method_18_code 133 = .ok (.iload 9, 2) := zdt v_Md_isRight_1 27 (q := (133, .iload 9, 2)) rfl
theorem d_Md_isRight_135 : decode prog_8_method_18_code 135 = .ok (.ifCond .le 11, 3) := zdt v_Md_isRight_1 28 (q := (135, .ifCond .le 11, 3)) rfl
theorem d_Md_isRight_138 : decode prog_8_method_18_code 138 = .ok (.iload 7, 2) := zdt v_Md_isRight_1 29 (q := (138, .iload 7, 2)) rfl
theorem d_Md_isRight_140 : decode prog_8_method_18_code 140 = .ok (.iload 9, 2) := zdt v_Md_isRight_1 30 (q := (140, .iload 9, 2)) rfl
theorem d_Md_isRight_142 : decode prog_8_method_18_code 142 = .ok (.iadd, 1) := zdt v_Md_isRight_1 31 (q := (142, .iadd, 1)) rfl
theorem d_Md_isRight_143 : decode prog_8_method_18_code 143 = .ok (.goto 5, 3) := zdt v_Md_isRight_1 32 (q := (143, .goto 5, 3)) rfl
theorem d_Md_isRight_146 : decode prog_8_method_18_code 146 = .ok (.iload 7, 2) := zdt v_Md_isRight_1 33 (q := (146, .iload 7, 2)) rfl
theorem d_Md_isRight_148 : decode prog_8_method_18_code 148 = .ok (.istore 7, 2) := zdt v_Md_isRight_1 34 (q := (148, .istore 7, 2)) rfl
theorem d_Md_isRight_150 : decode prog_8_method_18_code 150 = .ok (.iinc 8 1, 3) := zdt v_Md_isRight_1 35 (q := (150, .iinc 8 1, 3)) rfl
theorem d_Md_isRight_153 : decode prog_8_method_18_code 153 = .ok (.goto (-73), 3) := zdt v_Md_isRight_1 36 (q := (153, .goto (-73), 3)) rfl
theorem d_Md_isRight_156 : decode prog_8_method_18_code 156 = .ok (.iload 6, 2) := zdt v_Md_isRight_1 37 (q := (156, .iload 6, 2)) rfl
theorem d_Md_isRight_158 : decode prog_8_method_18_code 158 = .ok (.iload 4, 2) := zdt v_Md_isRight_1 38 (q := (158, .iload 4, 2)) rfl
theorem d_Md_isRight_160 : decode prog_8_method_18_code 160 = .ok (.if_icmp .ge 14, 3) := zdt v_Md_isRight_1 39 (q := (160, .if_icmp .ge 14, 3)) rfl
def u_Md_isRight_2 : List (Nat × Instr × Nat) := [(163, .iload 4, 2), (165, .iload 7, 2), (167, .if_icmp .ge 7, 3), (170, .iconst 1, 1), (171, .goto 4, 3), (174, .iconst 0, 1), (175, .istore 5, 2), (177, .iconst 0, 1), (178, .istore 8, 2), (180, .iload 8, 2), (182, .aload_n 0, 1), (183, .getfield 83, 3), (186, .if_icmp .ge 35, 3), (189, .iload 5, 2), (191, .ifCond .eq 21, 3), (194, .aload_n 0, 1), (195, .iload_n 1, 1), (196, .iload_n 2, 1), (197, .iload_n 3, 1), (198, .iload 4, 2), (200, .iload 8, 2), (202, .invokevirtual 135, 3), (205, .ifCond .ne 7, 3), (208, .iconst 1, 1), (209, .goto 4, 3), (212, .iconst 0, 1), (213, .istore 5, 2), (215, .iinc 8 1, 3), (218, .goto (-38), 3), (221, .iload 5, 2), (223, .ireturn, 1)]
theorem v_Md_isRight_2 : u_Md_isRight_2.all (zdq prog_8_method_18_code) = true := by decide +kernel
theorem d_Md_isRight_163 : decode prog_8_method_18_code 163 = .ok (.iload 4, 2) := zdt v_Md_isRight_2 0 (q := (163, .iload 4, 2)) rfl
theorem d_Md_isRight_165 : decode prog_8_method_18_code 165 = .ok (.iload 7, 2) := zdt v_Md_isRight_2 1 (q := (165, .iload 7, 2)) rfl
theorem d_Md_isRight_167 : decode prog_8_method_18_code 167 = .ok (.if_icmp .ge 7, 3) := zdt v_Md_isRight_2 2 (q := (167, .if_icmp .ge 7, 3)) rfl
theorem d_Md_isRight_170 : decode prog_8_method_18_code 170 = .ok (.iconst 1, 1) := zdt v_Md_isRight_2 3 (q := (170, .iconst 1, 1)) rfl
theorem d_Md_isRight_171 : decode prog_8_method_18_code 171 = .ok (.goto 4, 3) := zdt v_Md_isRight_2 4 (q := (171, .goto 4, 3)) rfl
theorem d_Md_isRight_174 : decode prog_8_method_18_code 174 = .ok (.iconst 0, 1) := zdt v_Md_isRight_2 5 (q := (174, .iconst 0, 1)) rfl
theorem d_Md_isRight_175 : decode prog_8_method_18_code 175 = .ok (.istore 5, 2) := zdt v_Md_isRight_2 6 (q := (175, .istore 5, 2)) rfl
theorem d_Md_isRight_177 : decode prog_8_method_18_code 177 = .ok (.iconst 0, 1) := zdt v_Md_isRight_2 7 (q := (177, .iconst 0, 1)) rfl
theorem d_Md_isRight_178 : decode prog_8_method_18_code 178 = .ok (.istore 8, 2) := zdt v_Md_isRight_2 8 (q := (178, .istore 8, 2)) rfl
theorem d_Md_isRight_180 : decode prog_8_method_18_code 180 = .ok (.iload 8, 2) := zdt v_Md_isRight_2 9 (q := (180, .iload 8, 2)) rfl
theorem d_Md_isRight_182 : decode prog_8_method_18_code 182 = .ok (.aload_n 0, 1) := zdt v_Md_isRight_2 10 (q := (182, .aload_n 0, 1)) rfl
theorem d_Md_isRight_183 : decode prog_8_method_18_code 183 = .ok (.getfield 83, 3) := zdt v_Md_isRight_2 11 (q := (183, .getfield 83, 3)) rfl
theorem d_Md_isRight_186 : decode prog_8_method_18_code 186 = .ok (.if_icmp .ge 35, 3) := zdt v_Md_isRight_2 12 (q := (186, .if_icmp .ge 35, 3)) rfl
theorem d_Md_isRight_189 : decode prog_8_method_18_code 189 = .ok (.iload 5, 2) := zdt v_Md_isRight_2 13 (q := (189, .iload 5, 2)) rfl
theorem d_Md_isRight_191 : decode prog_8_method_18_code 191 = .ok (.ifCond .eq 21, 3) := zdt v_Md_isRight_2 14 (q := (191, .ifCond .eq 21, 3)) rfl
theorem d_Md_isRight_194 : decode prog_8_method_18_code 194 = .ok (.aload_n 0, 1) := zdt v_Md_isRight_2 15 (q := (194, .aload_n 0, 1)) rfl
theorem d_Md_isRight_195 : decode prog_8_method_18_code 195 = .ok (.iload_n 1, 1) := zdt v_Md_isRight_2 16 (q := (195, .iload_n 1, 1)) rfl
theorem d_Md_isRight_196 : decode prog_8_method_18_code 196 = .ok (.iload_n 2, 1) := zdt v_Md_isRight_2 17 (q := (196, .iload_n 2, 1)) rfl
theorem d_Md_isRight_197 : decode prog_8_method_18_code 197 = .ok (.iload_n 3, 1) := zdt v_Md_isRight_2 18 (q := (197, .iload_n 3, 1)) rfl
theorem d_Md_isRight_198 : decode prog_8_method_18_code 198 = .ok (.iload 4, 2) := zdt v_Md_isRight_2 19 (q := (198, .iload 4, 2)) rfl
theorem d_Md_isRight_200 : decode prog_8_method_18_code 200 = .ok (.iload 8, 2) := zdt v_Md_isRight_2 20 (q := (200, .iload 8, 2)) rfl
theorem d_Md_isRight_202 : decode prog_8_method_18_code 202 = .ok (.invokevirtual 135, 3) := zdt v_Md_isRight_2 21 (q := (202, .invokevirtual 135, 3)) rfl
theorem d_Md_isRight_205 : decode prog_8_method_18_code 205 = .ok (.ifCond .ne 7, 3) := zdt v_Md_isRight_2 22 (q := (205, .ifCond .ne 7, 3)) rfl
theorem d_Md_isRight_208 : decode prog_8_method_18_code 208 = .ok (.iconst 1, 1) := zdt v_Md_isRight_2 23 (q := (208, .iconst 1, 1)) rfl
theorem d_Md_isRight_209 : decode prog_8_method_18_code 209 = .ok (.goto 4, 3) := zdt v_Md_isRight_2 24 (q := (209, .goto 4, 3)) rfl
theorem d_Md_isRight_212 : decode prog_8_method_18_code 212 = .ok (.iconst 0, 1) := zdt v_Md_isRight_2 25 (q := (212, .iconst 0, 1)) rfl
theorem d_Md_isRight_213 : decode prog_8_method_18_code 213 = .ok (.istore 5, 2) := zdt v_Md_isRight_2 26 (q := (213, .istore 5, 2)) rfl
theorem d_Md_isRight_215 : decode prog_8_method_18_code 215 = .ok (.iinc 8 1, 3) := zdt v_Md_isRight_2 27 (q := (215, .iinc 8 1, 3)) rfl
theorem d_Md_isRight_218 : decode prog_8_method_18_code 218 = .ok (.goto (-38), 3) := zdt v_Md_isRight_2 28 (q := (218, .goto (-38), 3)) rfl
theorem d_Md_isRight_221 : decode prog_8_method_18_code 221 = .ok (.iload 5, 2) := zdt v_Md_isRight_2 29 (q := (221, .iload 5, 2)) rfl
theorem d_Md_isRight_223 : decode prog_8_method_18_code 223 = .ok (.ireturn, 1) := zdt v_Md_isRight_2 30 (q := (223, .ireturn, 1)) rfl
def u_Md_in_0 : List (Nat × Instr × Nat) := [(0, .iload_n 0, 1), (1, .iload_n 1, 1), (2, .if_icmp .lt 12, 3), (5, .iload_n 0, 1), (6, .iload_n 2, 1), (7, .if_icmp .gt 7, 3), (10, .iconst 1, 1), (11, .goto 4, 3), (14, .iconst 0, 1), (15, .ireturn, 1)]
theorem v_Md_in_0 : u_Md_in_0.all (zdq prog_8_method_4_code) = true := by decide +kernel
theorem d_Md_in_0 : decode prog_8_method_4_code 0 = .ok (.iload_n 0, 1) := zdt v_Md_in_0 0 (q := (0, .iload_n 0, 1)) rfl
theorem d_Md_in_1 : decode prog_8_method_4_code 1 = .ok (.iload_n 1, 1) := zdt v_Md_in_0 1 (q := (1, .iload_n 1, 1)) rfl
theorem d_Md_in_2 : decode prog_8_method_4_code 2 = .ok (.if_icmp .lt 12, 3) := zdt v_Md_in_0 2 (q := (2, .if_icmp .lt 12, 3)) rfl
theorem d_Md_in_5 : decode prog_8_method_4_code 5 = .ok (.iload_n 0, 1) := zdt v_Md_in_0 3 (q := (5, .iload_n 0, 1)) rfl
theorem d_Md_in_6 : decode prog_8_method_4_code 6 = .ok (.iload_n 2, 1) := zdt v_Md_in_0 4 (q := (6, .iload_n 2, 1)) rfl
theorem d_Md_in_7 : decode prog_8_method_4_code 7 = .ok (.if_icmp .gt 7, 3) := zdt v_Md_in_0 5 (q := (7, .if_icmp .gt 7, 3)) rfl
theorem d_Md_in_10 : decode prog_8_method_4_code 10 = .ok (.iconst 1, 1) := zdt v_Md_in_0 6 (q := (10, .iconst 1, 1)) rfl
theorem d_Md_in_11 : decode prog_8_method_4_code 11 = .ok (.goto 4, 3) := zdt v_Md_in_0 7 (q := (11, .goto 4, 3)) rfl
theorem d_Md_in_14 : decode prog_8_method_4_code 14 = .ok (.iconst 0, 1) := zdt v_Md_in_0 8 (q := (14, .iconst 0, 1)) rfl
theorem d_Md_in_15 : decode prog_8_method_4_code 15 = .ok (.ireturn, 1) := zdt v_Md_in_0 9 (q := (15, .ireturn, 1)) rfl
def u_Md_isSame_0 : List (Nat × Instr × Nat) := [(0, .aload_n 0, 1), (1, .getfield 13, 3), (4, .iconst 4, 1), (5, .iload 5, 2), (7, .imul, 1), (8, .iaload, 1), (9, .istore 6, 2), (11, .aload_n 0, 1), (12, .getfield 13, 3), (15, .iconst 4, 1), (16, .iload 5, 2), (18, .imul, 1), (19, .iconst 1, 1), (20, .iadd, 1), (21, .iaload, 1), (22, .istore 7, 2), (24, .aload_n 0, 1), (25, .getfield 13, 3), (28, .iconst 4, 1), (29, .iload 5, 2), (31, .imul, 1), (32, .iconst 2, 1), (33, .iadd, 1), (34, .iaload, 1), (35, .istore 8, 2), (37, .aload_n 0, 1), (38, .getfield 13, 3), (41, .iconst 4, 1), (42, .iload 5, 2), (44, .imul, 1), (45, .iconst 3, 1), (46, .iadd, 1), (47, .iaload, 1), (48, .istore 9, 2), (50, .iload_n 1, 1), (51, .iload 7, 2), (53, .imul, 1), (54, .iload_n 2, 1), (55, .iload 6, 2), (57, .imul, 1)]
theorem v_Md_isSame_0 : u_Md_isSame_0.all (zdq prog_8_method_17_code) = true := by decide +kernel
theorem d_Md_isSame_0 : decode prog_8_method_17_code 0 = .ok (.aload_n 0, 1) := zdt v_Md_isSame_0 0 (q := (0, .aload_n 0, 1)) rfl
theorem d_Md_isSame_1 : decode prog_8_method_17_code 1 = .ok (.getfield 13, 3) := zdt v_Md_isSame_0 1 (q := (1, .getfield 13, 3)) rfl
theorem d_Md_isSame_4 : decode prog_8_method_17_code 4 = .ok (.iconst 4, 1) := zdt v_Md_isSame_0 2 (q := (4, .iconst 4, 1)) rfl
theorem d_Md_isSame_5 : decode prog_8_method_17_code 5 = .ok (.iload 5, 2) := zdt v_Md_isSame_0 3 (q := (5, .iload 5, 2)) rfl
theorem d_Md_isSame_7 : decode prog_8_method_17_code 7 = .ok (.imul, 1) := zdt v_Md_isSame_0 4 (q := (7, .imul, 1)) rfl
theorem d_Md_isSame_8 : decode prog_8_method_17_code 8 = .ok (.iaload, 1) := zdt v_Md_isSame_0 5 (q := (8, .iaload, 1)) rfl
theorem d_Md_isSame_9 : decode prog_8_method_17_code 9 = .ok (.istore 6, 2) := zdt v_Md_isSame_0 6 (q := (9, .istore 6, 2)) rfl
theorem d_Md_isSame_11 : decode prog_8_method_17_code 11 = .ok (.aload_n 0, 1) := zdt v_Md_isSame_0 7 (q := (11, .aload_n 0, 1)) rfl
theorem d_Md_isSame_12 : decode prog_8_method_17_code 12 = .ok (.getfield 13, 3) := zdt v_Md_isSame_0 8 (q := (12, .getfield 13, 3)) rfl
theorem d_Md_isSame_15 : decode prog_8_method_17_code 15 = .ok (.iconst 4, 1) := zdt v_Md_isSame_0 9 (q := (15, .iconst 4, 1)) rfl
theorem d_Md_isSame_16 : decode prog_8_method_17_code 16 = .ok (.iload 5, 2) := zdt v_Md_isSame_0 10 (q := (16, .iload 5, 2)) rfl
theorem d_Md_isSame_18 : decode prog_8_method_17_code 18 = .ok (.imul, 1) := zdt v_Md_isSame_0 11 (q := (18, .imul, 1)) rfl
theorem d_Md_isSame_19 : decode prog_8_method_17_code 19 = .ok (.iconst 1, 1) := zdt v_Md_isSame_0 12 (q := (19, .iconst 1, 1)) rfl
theorem d_Md_isSame_20 : decode prog_8_method_17_code 20 = .ok (.iadd, 1) := zdt v_Md_isSame_0 13 (q := (20, .iadd, 1)) rfl
theorem d_Md_isSame_21 : decode prog_8_method_17_code 21 = .ok (.iaload, 1) := zdt v_Md_isSame_0 14 (q := (21, .iaload, 1)) rfl
theorem d_Md_isSame_22 : decode prog_8_method_17_code 22 = .ok (.istore 7, 2) := zdt v_Md_isSame_0 15 (q := (22, .istore 7, 2)) rfl
theorem d_Md_isSame_24 : decode prog_8_method_17_code 24 = .ok (.aload_n 0, 1) := zdt v_Md_isSame_0 16 (q := (24, .aload_n 0, 1)) rfl
theorem d_Md_isSame_25 : decode prog_8_method_17_code 25 = .ok (.getfield 13, 3) := zdt v_Md_isSame_0 17 (q := (25, .getfield 13, 3)) rfl
theorem d_Md_isSame_28 : decode prog_8_method_17_code 28 = .ok (.iconst 4, 1) := zdt v_Md_isSame_0 18 (q := (28, .iconst 4, 1)) rfl
theorem d_Md_isSame_29 : decode prog_8_method_17_code 29 = .ok (.iload 5, 2) := zdt v_Md_isSame_0 19 (q := (29, .iload 5, 2)) rfl
theorem d_Md_isSame_31 : decode prog_8_method_17_code 31 = .ok (.imul, 1) := zdt v_Md_isSame_0 20 (q := (31, .imul, 1)) rfl
theorem d_Md_isSame_32 : decode prog_8_method_17_code 32 = .ok (.iconst 2, 1) := zdt v_Md_isSame_0 21 (q := (32, .iconst 2, 1)) rfl
theorem d_Md_isSame_33 : decode prog_8_method_17_code 33 = .ok (.iadd, 1) := zdt v_Md_isSame_0 22 (q := (33, .iadd, 1)) rfl
theorem d_Md_isSame_34 : decode prog_8_method_17_code 34 = .ok (.iaload, 1) := zdt v_Md_isSame_0 23 (q := (34, .iaload, 1)) rfl
theorem d_Md_isSame_35 : decode prog_8_method_17_code 35 = .ok (.istore 8, 2) := zdt v_Md_isSame_0 24 (q := (35, .istore 8, 2)) rfl
theorem d_Md_isSame_37 : decode prog_8_method_17_code 37 = .ok (.aload_n 0, 1) := zdt v_Md_isSame_0 25 (q := (37, .aload_n 0, 1)) rfl
theorem d_Md_isSame_38 : decode prog_8_method_17_code 38 = .ok (.getfield 13, 3) := zdt v_Md_isSame_0 26 (q := (38, .getfield 13, 3)) rfl
theorem d_Md_isSame_41 : decode prog_8_method_17_code 41 = .ok (.iconst 4, 1) := zdt v_Md_isSame_0 27 (q := (41, .iconst 4, 1)) rfl
theorem d_Md_isSame_42 : decode prog_8_method_17_code 42 = .ok (.iload 5, 2) := zdt v_Md_isSame_0 28 (q := (42, .iload 5, 2)) rfl
theorem d_Md_isSame_44 : decode prog_8_method_17_code 44 = .ok (.imul, 1) := zdt v_Md_isSame_0 29 (q := (44, .imul, 1)) rfl
theorem d_Md_isSame_45 : decode prog_8_method_17_code 45 = .ok (.iconst 3, 1) := zdt v_Md_isSame_0 30 (q := (45, .iconst 3, 1)) rfl
theorem d_Md_isSame_46 : decode prog_8_method_17_code 46 = .ok (.iadd, 1) := zdt v_Md_isSame_0 31 (q := (46, .iadd, 1)) rfl
theorem d_Md_isSame_47 : decode prog_8_method_17_code 47 = .ok (.iaload, 1) := zdt v_Md_isSame_0 32 (q := (47, .iaload, 1)) rfl
theorem d_Md_isSame_48 : decode prog_8_method_17_code 48 = .ok (.istore 9, 2) := zdt v_Md_isSame_0 33 (q := (48, .istore 9, 2)) rfl
theorem d_Md_isSame_50 : decode prog_8_method_17_code 50 = .ok (.iload_n 1, 1) := zdt v_Md_isSame_0 34 (q := (50, .iload_n 1, 1)) rfl
theorem d_Md_isSame_51 : decode prog_8_method_17_code 51 = .ok (.iload 7, 2) := zdt v_Md_isSame_0 35 (q := (51, .iload 7, 2)) rfl
theorem d_Md_isSame_53 : decode prog_8_method_17_code 53 = .ok (.imul, 1) := zdt v_Md_isSame_0 36 (q := (53, .imul, 1)) rfl
theorem d_Md_isSame_54 : decode prog_8_method_17_code 54 = .ok (.iload_n 2, 1) := zdt v_Md_isSame_0 37 (q := (54, .iload_n 2, 1)) rfl
theorem d_Md_isSame_55 : decode prog_8_method_17_code 55 = .ok (.iload 6, 2) := zdt v_Md_isSame_0 38 (q := (55, .iload 6, 2)) rfl
theorem d_Md_isSame_57 : decode prog_8_method_17_code 57 = .ok (.imul, 1) := zdt v_Md_isSame_0 39 (q := (57, .imul, 1)) rfl
def u_Md_isSame_1 : List (Nat × Instr × Nat) := [(58, .if_icmp .ne 65, 3), (61, .iload_n 1, 1), (62, .iload 8, 2), (64, .imul, 1), (65, .iload_n 3, 1), (66, .iload 6, 2), (68, .imul, 1), (69, .if_icmp .ne 54, 3), (72, .iload_n 2, 1), (73, .iload 8, 2), (75, .imul, 1), (76, .iload_n 3, 1), (77, .iload 7, 2), (79, .imul, 1), (80, .if_icmp .ne 43, 3), (83, .iload_n 1, 1), (84, .iload 9, 2), (86, .imul, 1), (87, .iload 4, 2), (89, .iload 6, 2), (91, .imul, 1), (92, .if_icmp .ne 31, 3), (95, .iload_n 2, 1), (96, .iload 9, 2), (98, .imul, 1), (99, .iload 4, 2), (101, .iload 7, 2), (103, .imul, 1), (104, .if_icmp .ne 19, 3), (107, .iload_n 3, 1), (108, .iload 9, 2), (110, .imul, 1), (111, .iload 4, 2), (113, .iload 8, 2), (115, .imul, 1), (116, .if_icmp .ne 7, 3), (119, .iconst 1, 1), (120, .goto 4, 3), (123, .iconst 0, 1), (124, .ireturn, 1)]
theorem v_Md_isSame_1 : u_Md_isSame_1.all (zdq prog_8_method_17_code) = true := by decide +kernel
theorem d_Md_isSame_58 : decode prog_8_method_17_code 58 = .ok (.if_icmp .ne 65, 3) := zdt v_Md_isSame_1 0 (q := (58, .if_icmp .ne 65, 3)) rfl
theorem d_Md_isSame_61 : decode prog_8_method_17_code 61 = .ok (.iload_n 1, 1) := zdt v_Md_isSame_1 1 (q := (61, .iload_n 1, 1)) rfl
theorem d_Md_isSame_62 : decode prog_8_method_17_code 62 = .ok (.iload 8, 2) := zdt v_Md_isSame_1 2 (q := (62, .iload 8, 2)) rfl
theorem d_Md_isSame_64 : decode prog_8_method_17_code 64 = .ok (.imul, 1) := zdt v_Md_isSame_1 3 (q := (64, .imul, 1)) rfl
theorem d_Md_isSame_65 : decode prog_8_method_17_code 65 = .ok (.iload_n 3, 1) := zdt v_Md_isSame_1 4 (q := (65, .iload_n 3, 1)) rfl
theorem d_Md_isSame_66 : decode prog_8_method_17_code 66 = .ok (.iload 6, 2) := zdt v_Md_isSame_1 5 (q := (66, .iload 6, 2)) rfl
theorem d_Md_isSame_68 : decode prog_8_method_17_code 68 = .ok (.imul, 1) := zdt v_Md_isSame_1 6 (q := (68, .imul, 1)) rfl
theorem d_Md_isSame_69 : decode prog_8_method_17_code 69 = .ok (.if_icmp .ne 54, 3) := zdt v_Md_isSame_1 7 (q := (69, .if_icmp .ne 54, 3)) rfl
theorem d_Md_isSame_72 : decode prog_8_method_17_code 72 = .ok (.iload_n 2, 1) := zdt v_Md_isSame_1 8 (q := (72, .iload_n 2, 1)) rfl
theorem d_Md_isSame_73 : decode prog_8_method_17_code 73 = .ok (.iload 8, 2) := zdt v_Md_isSame_1 9 (q := (73, .iload 8, 2)) rfl
theorem d_Md_isSame_75 : decode prog_8_method_17_code 75 = .ok (.imul, 1) := zdt v_Md_isSame_1 10 (q := (75, .imul, 1)) rfl
theorem d_Md_isSame_76 : decode prog_8_method_17_code 76 = .ok (.iload_n 3, 1) := zdt v_Md_isSame_1 11 (q := (76, .iload_n 3, 1)) rfl
theorem d_Md_isSame_77 : decode prog_8_method_17_code 77 = .ok (.iload 7, 2) := zdt v_Md_isSame_1 12 (q := (77, .iload 7, 2)) rfl
theorem d_Md_isSame_79 : decode prog_8_method_17_code 79 = .ok (.imul, 1) := zdt v_Md_isSame_1 13 (q := (79, .imul, 1)) rfl
theorem d_Md_isSame_80 : decode prog_8_method_17_code 80 = .ok (.if_icmp .ne 43, 3) := zdt v_Md_isSame_1 14 (q := (80, .if_icmp .ne 43, 3)) rfl
theorem d_Md_isSame_83 : decode prog_8_method_17_code 83 = .ok (.iload_n 1, 1) := zdt v_Md_isSame_1 15 (q := (83, .iload_n 1, 1)) rfl
theorem d_Md_isSame_84 : decode prog_8_method_17_code 84 = .ok (.iload 9, 2) := zdt v_Md_isSame_1 16 (q := (84, .iload 9, 2)) rfl
theorem d_Md_isSame_86 : decode prog_8_method_17_code 86 = .ok (.imul, 1) := zdt v_Md_isSame_1 17 (q := (86, .imul, 1)) rfl
theorem d_Md_isSame_87 : decode prog_8_method_17_code 87 = .ok (.iload 4, 2) := zdt v_Md_isSame_1 18 (q := (87, .iload 4, 2)) rfl
theorem d_Md_isSame_89 : decode prog_8_method_17_code 89 = .ok (.iload 6, 2) := zdt v_Md_isSame_1 19 (q := (89, .iload 6, 2)) rfl
theorem d_Md_isSame_91 : decode prog_8_method_17_code 91 = .ok (.imul, 1) := zdt v_Md_isSame_1 20 (q := (91, .imul, 1)) rfl
theorem d_Md_isSame_92 : decode prog_8_method_17_code 92 = .ok (.if_icmp .ne 31, 3) := zdt v_Md_isSame_1 21 (q := (92, .if_icmp .ne 31, 3)) rfl
theorem d_Md_isSame_95 : decode prog_8_method_17_code 95 = .ok (.iload_n 2, 1) := zdt v_Md_isSame_1 22 (q := (95, .iload_n 2, 1)) rfl
theorem d_Md_isSame_96 : decode prog_8_method_17_code 96 = .ok (.iload 9, 2) := zdt v_Md_isSame_1 23 (q := (96, .iload 9, 2)) rfl
theorem d_Md_isSame_98 : decode prog_8_method_17_code 98 = .ok (.imul, 1) := zdt v_Md_isSame_1 24 (q := (98, .imul, 1)) rfl
theorem d_Md_isSame_99 : decode prog_8_method_17_code 99 = .ok (.iload 4, 2) := zdt v_Md_isSame_1 25 (q := (99, .iload 4, 2)) rfl
theorem d_Md_isSame_101 : decode prog_8_method_17_code 101 = .ok (.iload 7, 2) := zdt v_Md_isSame_1 26 (q := (101, .iload 7, 2)) rfl
theorem d_Md_isSame_103 : decode prog_8_method_17_code 103 = .ok (.imul, 1) := zdt v_Md_isSame_1 27 (q := (103, .imul, 1)) rfl
theorem d_Md_isSame_104 : decode prog_8_method_17_code 104 = .ok (.if_icmp .ne 19, 3) := zdt v_Md_isSame_1 28 (q := (104, .if_icmp .ne 19, 3)) rfl
theorem d_Md_isSame_107 : decode prog_8_method_17_code 107 = .ok (.iload_n 3, 1) := zdt v_Md_isSame_1 29 (q := (107, .iload_n 3, 1)) rfl
theorem d_Md_isSame_108 : decode prog_8_method_17_code 108 = .ok (.iload 9, 2) := zdt v_Md_isSame_1 30 (q := (108, .iload 9, 2)) rfl
theorem d_Md_isSame_110 : decode prog_8_method_17_code 110 = .ok (.imul, 1) := zdt v_Md_isSame_1 31 (q := (110, .imul, 1)) rfl
theorem d_Md_isSame_111 : decode prog_8_method_17_code 111 = .ok (.iload 4, 2) := zdt v_Md_isSame_1 32 (q := (111, .iload 4, 2)) rfl
theorem d_Md_isSame_113 : decode prog_8_method_17_code 113 = .ok (.iload 8, 2) := zdt v_Md_isSame_1 33 (q := (113, .iload 8, 2)) rfl
theorem d_Md_isSame_115 : decode prog_8_method_17_code 115 = .ok (.imul, 1) := zdt v_Md_isSame_1 34 (q := (115, .imul, 1)) rfl
theorem d_Md_isSame_116 : decode prog_8_method_17_code 116 = .ok (.if_icmp .ne 7, 3) := zdt v_Md_isSame_1 35 (q := (116, .if_icmp .ne 7, 3)) rfl
theorem d_Md_isSame_119 : decode prog_8_method_17_code 119 = .ok (.iconst 1, 1) := zdt v_Md_isSame_1 36 (q := (119, .iconst 1, 1)) rfl
theorem d_Md_isSame_120 : decode prog_8_method_17_code 120 = .ok (.goto 4, 3) := zdt v_Md_isSame_1 37 (q := (120, .goto 4, 3)) rfl
theorem d_Md_isSame_123 : decode prog_8_method_17_code 123 = .ok (.iconst 0, 1) := zdt v_Md_isSame_1 38 (q := (123, .iconst 0, 1)) rfl
theorem d_Md_isSame_124 : decode prog_8_method_17_code 124 = .ok (.ireturn, 1) := zdt v_Md_isSame_1 39 (q := (124, .ireturn, 1)) rfl
def u_Md_unjoint_0 : List (Nat × Instr × Nat) := [(0, .aload_n 0, 1), (1, .iconst 0, 1), (2, .putfield 75, 3), (5, .aload_n 0, 1), (6, .getfield 83, 3), (9, .ifCond .ne 5, 3), (12, .iconst (-1), 1), (13, .ireturn, 1), (14, .aload_n 0, 1), (15, .dup, 1), (16, .getfield 83, 3), (19, .iconst 1, 1), (20, .isub, 1), (21, .putfield 83, 3), (24, .aload_n 0, 1), (25, .invokevirtual 72, 3), (28, .aload_n 0, 1), (29, .getfield 83, 3), (32, .ireturn, 1)]
theorem v_Md_unjoint_0 : u_Md_unjoint_0.all (zdq prog_8_method_20_code) = true := by decide +kernel
theorem d_Md_unjoint_0 : decode prog_8_method_20_code 0 = .ok (.aload_n 0, 1) := zdt v_Md_unjoint_0 0 (q := (0, .aload_n 0, 1)) rfl
theorem d_Md_unjoint_1 : decode prog_8_method_20_code 1 = .ok (.iconst 0, 1) := zdt v_Md_unjoint_0 1 (q := (1, .iconst 0, 1)) rfl
theorem d_Md_unjoint_2 : decode prog_8_method_20_code 2 = .ok (.putfield 75, 3) := zdt v_Md_unjoint_0 2 (q := (2, .putfield 75, 3)) rfl
theorem d_Md_unjoint_5 : decode prog_8_method_20_code 5 = .ok (.aload_n 0, 1) := zdt v_Md_unjoint_0 3 (q := (5, .aload_n 0, 1)) rfl
theorem d_Md_unjoint_6 : decode prog_8_method_20_code 6 = .ok (.getfield 83, 3) := zdt v_Md_unjoint_0 4 (q := (6, .getfield 83, 3)) rfl
theorem d_Md_unjoint_9 : decode prog_8_method_20_code 9 = .ok (.ifCond .ne 5, 3) := zdt v_Md_unjoint_0 5 (q := (9, .ifCond .ne 5, 3)) rfl
theorem d_Md_unjoint_12 : decode prog_8_method_20_code 12 = .ok (.iconst (-1), 1) := zdt v_Md_unjoint_0 6 (q := (12, .iconst (-1), 1)) rfl
theorem d_Md_unjoint_13 : decode prog_8_method_20_code 13 = .ok (.ireturn, 1) := zdt v_Md_unjoint_0 7 (q := (13, .ireturn, 1)) rfl
theorem d_Md_unjoint_14 : decode prog_8_method_20_code 14 = .ok (.aload_n 0, 1) := zdt v_Md_unjoint_0 8 (q := (14, .aload_n 0, 1)) rfl
theorem d_Md_unjoint_15 : decode prog_8_method_20_code 15 = .ok (.dup, 1) := zdt v_Md_unjoint_0 9 (q := (15, .dup, 1)) rfl
theorem d_Md_unjoint_16 : decode prog_8_method_20_code 16 = .ok (.getfield 83, 3) := zdt v_Md_unjoint_0 10 (q := (16, .getfield 83, 3)) rfl
theorem d_Md_unjoint_19 : decode prog_8_method_20_code 19 = .ok (.iconst 1, 1) := zdt v_Md_unjoint_0 11 (q := (19, .iconst 1, 1)) rfl
theorem d_Md_unjoint_20 : decode prog_8_method_20_code 20 = .ok (.isub, 1) := zdt v_Md_unjoint_0 12 (q := (20, .isub, 1)) rfl
theorem d_Md_unjoint_21 : decode prog_8_method_20_code 21 = .ok (.putfield 83, 3) := zdt v_Md_unjoint_0 13 (q := (21, .putfield 83, 3)) rfl
theorem d_Md_unjoint_24 : decode prog_8_method_20_code 24 = .ok (.aload_n 0, 1) := zdt v_Md_unjoint_0 14 (q := (24, .aload_n 0, 1)) rfl
theorem d_Md_unjoint_25 : decode prog_8_method_20_code 25 = .ok (.invokevirtual 72, 3) := zdt v_Md_unjoint_0 15 (q := (25, .invokevirtual 72, 3)) rfl
theorem d_Md_unjoint_28 : decode prog_8_method_20_code 28 = .ok (.aload_n 0, 1) := zdt v_Md_unjoint_0 16 (q := (28, .aload_n 0, 1)) rfl
theorem d_Md_unjoint_29 : decode prog_8_method_20_code 29 = .ok (.getfield 83, 3) := zdt v_Md_unjoint_0 17 (q := (29, .getfield 83, 3)) rfl
theorem d_Md_unjoint_32 : decode prog_8_method_20_code 32 = .ok (.ireturn, 1) := zdt v_Md_unjoint_0 18 (q := (32, .ireturn, 1)) rfl
def u_Md_open_0 : List (Nat × Instr × Nat) := [(0, .aload_n 0, 1), (1, .iload_n 1, 1), (2, .bipush 6, 2), (4, .bipush 11, 2), (6, .invokestatic 131, 3), (9, .ifCond .eq 7, 3), (12, .iconst 0, 1), (13, .goto 4, 3), (16, .iconst 1, 1), (17, .putfield 75, 3), (20, .aload_n 0, 1), (21, .getfield 75, 3), (24, .ifCond .le 5, 3), (27, .iconst 0, 1), (28, .ireturn, 1), (29, .aload_n 0, 1), (30, .getfield 16, 3), (33, .iload_n 1, 1), (34, .baload, 1), (35, .istore_n 3, 1), (36, .aload_n 0, 1), (37, .getfield 16, 3), (40, .iload_n 1, 1), (41, .iload_n 2, 1), (42, .bastore, 1), (43, .iload_n 3, 1), (44, .iload_n 2, 1), (45, .if_icmp .eq 7, 3), (48, .iconst 1, 1), (49, .goto 4, 3), (52, .iconst 0, 1), (53, .ireturn, 1)]
theorem v_Md_open_0 : u_Md_open_0.all (zdq prog_8_method_21_code) = true := by decide +kernel
theorem d_Md_open_0 : decode prog_8_method_21_code 0 = .ok (.aload_n 0, 1) := zdt v_Md_open_0 0 (q := (0, .aload_n 0, 1)) rfl
theorem d_Md_open_1 : decode prog_8_method_21_code 1 = .ok (.iload_n 1, 1) := zdt v_Md_open_0 1 (q := (1, .iload_n 1, 1)) rfl
theorem d_Md_open_2 : decode prog_8_method_21_code 2 = .ok (.bipush 6, 2) := zdt v_Md_open_0 2 (q := (2, .bipush 6, 2)) rfl
theorem d_Md_open_4 : decode prog_8_method_21_code 4 = .ok (.bipush 11, 2) := zdt v_Md_open_0 3 (q := (4, .bipush 11, 2)) rfl
theorem d_Md_open_6 : decode prog_8_method_21_code 6 = .ok (.invokestatic 131, 3) := zdt v_Md_open_0 4 (q := (6, .invokestatic 131, 3)) rfl
theorem d_Md_open_9 : decode prog_8_method_21_code 9 = .ok (.ifCond .eq 7, 3) := zdt v_Md_open_0 5 (q := (9, .ifCond .eq 7, 3)) rfl
theorem d_Md_open_12 : decode prog_8_method_21_code 12 = .ok (.iconst 0, 1) := zdt v_Md_open_0 6 (q := (12, .iconst 0, 1)) rfl
theorem d_Md_open_13 : decode prog_8_method_21_code 13 = .ok (.goto 4, 3) := zdt v_Md_open_0 7 (q := (13, .goto 4, 3)) rfl
theorem d_Md_open_16 : decode prog_8_method_21_code 16 = .ok (.iconst 1, 1) := zdt v_Md_open_0 8 (q := (16, .iconst 1, 1)) rfl
theorem d_Md_open_17 : decode prog_8_method_21_code 17 = .ok (.putfield 75, 3) := zdt v_Md_open_0 9 (q := (17, .putfield 75, 3)) rfl
theorem d_Md_open_20 : decode prog_8_method_21_code 20 = .ok (.aload_n 0, 1) := zdt v_Md_open_0 10 (q := (20, .aload_n 0, 1)) rfl
theorem d_Md_open_21 : decode prog_8_method_21_code 21 = .ok (.getfield 75, 3) := zdt v_Md_open_0 11 (q := (21, .getfield 75, 3)) rfl
theorem d_Md_open_24 : decode prog_8_method_21_code 24 = .ok (.ifCond .le 5, 3) := zdt v_Md_open_0 12 (q := (24, .ifCond .le 5, 3)) rfl
theorem d_Md_open_27 : decode prog_8_method_21_code 27 = .ok (.iconst 0, 1) := zdt v_Md_open_0 13 (q := (27, .iconst 0, 1)) rfl
theorem d_Md_open_28 : decode prog_8_method_21_code 28 = .ok (.ireturn, 1) := zdt v_Md_open_0 14 (q := (28, .ireturn, 1)) rfl
theorem d_Md_open_29 : decode prog_8_method_21_code 29 = .ok (.aload_n 0, 1) := zdt v_Md_open_0 15 (q := (29, .aload_n 0, 1)) rfl
theorem d_Md_open_30 : decode prog_8_method_21_code 30 = .ok (.getfield 16, 3) := zdt v_Md_open_0 16 (q := (30, .getfield 16, 3)) rfl
theorem d_Md_open_33 : decode prog_8_method_21_code 33 = .ok (.iload_n 1, 1) := zdt v_Md_open_0 17 (q := (33, .iload_n 1, 1)) rfl
theorem d_Md_open_34 : decode prog_8_method_21_code 34 = .ok (.baload, 1) := zdt v_Md_open_0 18 (q := (34, .baload, 1)) rfl
theorem d_Md_open_35 : decode prog_8_method_21_code 35 = .ok (.istore_n 3, 1) := zdt v_Md_open_0 19 (q := (35, .istore_n 3, 1)) rfl
theorem d_Md_open_36 : decode prog_8_method_21_code 36 = .ok (.aload_n 0, 1) := zdt v_Md_open_0 20 (q := (36, .aload_n 0, 1)) rfl
theorem d_Md_open_37 : decode prog_8_method_21_code 37 = .ok (.getfield 16, 3) := zdt v_Md_open_0 21 (q := (37, .getfield 16, 3)) rfl
theorem d_Md_open_40 : decode prog_8_method_21_code 40 = .ok (.iload_n 1, 1) := zdt v_Md_open_0 22 (q := (40, .iload_n 1, 1)) rfl
theorem d_Md_open_41 : decode prog_8_method_21_code 41 = .ok (.iload_n 2, 1) := zdt v_Md_open_0 23 (q := (41, .iload_n 2, 1)) rfl
theorem d_Md_open_42 : decode prog_8_method_21_code 42 = .ok (.bastore, 1) := zdt v_Md_open_0 24 (q := (42, .bastore, 1)) rfl
theorem d_Md_open_43 : decode prog_8_method_21_code 43 = .ok (.iload_n 3, 1) := zdt v_Md_open_0 25 (q := (43, .iload_n 3, 1)) rfl
theorem d_Md_open_44 : decode prog_8_method_21_code 44 = .ok (.iload_n 2, 1) := zdt v_Md_open_0 26 (q := (44, .iload_n 2, 1)) rfl
theorem d_Md_open_45 : decode prog_8_method_21_code 45 = .ok (.if_icmp .eq 7, 3) := zdt v_Md_open_0 27 (q := (45, .if_icmp .eq 7, 3)) rfl
theorem d_Md_open_48 : decode prog_8_method_21_code 48 = .ok (.iconst 1, 1) := zdt v_Md_open_0 28 (q := (48, .iconst 1, 1)) rfl
theorem d_Md_open_49 : decode prog_8_method_21_code 49 = .ok (.goto 4, 3) := zdt v_Md_open_0 29 (q := (49, .goto 4, 3)) rfl
theorem d_Md_open_52 : decode prog_8_method_21_code 52 = .ok (.iconst 0, 1) := zdt v_Md_open_0 30 (q := (52, .iconst 0, 1)) rfl
theorem d_Md_open_53 : decode prog_8_method_21_code 53 = .ok (.ireturn, 1) := zdt v_Md_open_0 31 (q := (53, .ireturn, 1)) rfl
def u_Md_direction_0 : List (Nat × Instr × Nat) := [(0, .aload_n 0, 1), (1, .iload_n 1, 1), (2, .iload_n 2, 1), (3, .iload_n 3, 1), (4, .invokestatic 143, 3), (7, .ifCond .eq 15, 3), (10, .iload_n 1, 1), (11, .ifCond .ne 15, 3), (14, .iload_n 2, 1), (15, .ifCond .ne 11, 3), (18, .iload_n 3, 1), (19, .ifCond .ne 7, 3), (22, .iconst 1, 1), (23, .goto 17, 3), (26, .aload_n 0, 1), (27, .getfield 146, 3), (30, .bipush 8, 2), (32, .if_icmp .ne 7, 3), (35, .iconst 2, 1), (36, .goto 4, 3), (39, .iconst 0, 1), (40, .putfield 75, 3), (43, .aload_n 0, 1), (44, .getfield 75, 3), (47, .ifCond .le 5, 3), (50, .iconst 0, 1), (51, .ireturn, 1), (52, .aload_n 0, 1), (53, .getfield 20, 3), (56, .iconst 3, 1), (57, .aload_n 0, 1), (58, .getfield 146, 3), (61, .imul, 1), (62, .iload_n 1, 1), (63, .iastore, 1), (64, .aload_n 0, 1), (65, .getfield 20, 3), (68, .iconst 3, 1), (69, .aload_n 0, 1), (70, .getfield 146, 3)]
theorem v_Md_direction_0 : u_Md_direction_0.all (zdq prog_8_method_23_code) = true := by decide +kernel
theorem d_Md_direction_0 : decode prog_8_method_23_code 0 = .ok (.aload_n 0, 1) := zdt v_Md_direction_0 0 (q := (0, .aload_n 0, 1)) rfl
theorem d_Md_direction_1 : decode prog_8_method_23_code 1 = .ok (.iload_n 1, 1) := zdt v_Md_direction_0 1 (q := (1, .iload_n 1, 1)) rfl
theorem d_Md_direction_2 : decode prog_8_method_23_code 2 = .ok (.iload_n 2, 1) := zdt v_Md_direction_0 2 (q := (2, .iload_n 2, 1)) rfl
theorem d_Md_direction_3 : decode prog_8_method_23_code 3 = .ok (.iload_n 3, 1) := zdt v_Md_direction_0 3 (q := (3, .iload_n 3, 1)) rfl
theorem d_Md_direction_4 : decode prog_8_method_23_code 4 = .ok (.invokestatic 143, 3) := zdt v_Md_direction_0 4 (q := (4, .invokestatic 143, 3)) rfl
theorem d_Md_direction_7 : decode prog_8_method_23_code 7 = .ok (.ifCond .eq 15, 3) := zdt v_Md_direction_0 5 (q := (7, .ifCond .eq 15, 3)) rfl
theorem d_Md_direction_10 : decode prog_8_method_23_code 10 = .ok (.iload_n 1, 1) := zdt v_Md_direction_0 6 (q := (10, .iload_n 1, 1)) rfl
theorem d_Md_direction_11 : decode prog_8_method_23_code 11 = .ok (.ifCond .ne 15, 3) := zdt v_Md_direction_0 7 (q := (11, .ifCond .ne 15, 3)) rfl
theorem d_Md_direction_14 : decode prog_8_method_23_code 14 = .ok (.iload_n 2, 1) := zdt v_Md_direction_0 8 (q := (14, .iload_n 2, 1)) rfl
theorem d_Md_direction_15 : decode prog_8_method_23_code 15 = .ok (.ifCond .ne 11, 3) := zdt v_Md_direction_0 9 (q := (15, .ifCond .ne 11, 3)) rfl
theorem d_Md_direction_18 : decode prog_8_method_23_code 18 = .ok (.iload_n 3, 1) := zdt v_Md_direction_0 10 (q := (18, .iload_n 3, 1)) rfl
theorem d_Md_direction_19 : decode prog_8_method_23_code 19 = .ok (.ifCond .ne 7, 3) := zdt v_Md_direction_0 11 (q := (19, .ifCond .ne 7, 3)) rfl
theorem d_Md_direction_22 : decode prog_8_method_23_code 22 = .ok (.iconst 1, 1) := zdt v_Md_direction_0 12 (q := (22, .iconst 1, 1)) rfl
theorem d_Md_direction_23 : decode prog_8_method_23_code 23 = .ok (.goto 17, 3) := zdt v_Md_direction_0 13 (q := (23, .goto 17, 3)) rfl
theorem d_Md_direction_26 : decode prog_8_method_23_code 26 = .ok (.aload_n 0, 1) := zdt v_Md_direction_0 14 (q := (26, .aload_n 0, 1)) rfl
theorem d_Md_direction_27 : decode prog_8_method_23_code 27 = .ok (.getfield 146, 3) := zdt v_Md_direction_0 15 (q := (27, .getfield 146, 3)) rfl
theorem d_Md_direction_30 : decode prog_8_method_23_code 30 = .ok (.bipush 8, 2) := zdt v_Md_direction_0 16 (q := (30, .bipush 8, 2)) rfl
theorem d_Md_direction_32 : decode prog_8_method_23_code 32 = .ok (.if_icmp .ne 7, 3) := zdt v_Md_direction_0 17 (q := (32, .if_icmp .ne 7, 3)) rfl
theorem d_Md_direction_35 : decode prog_8_method_23_code 35 = .ok (.iconst 2, 1) := zdt v_Md_direction_0 18 (q := (35, .iconst 2, 1)) rfl
theorem d_Md_direction_36 : decode prog_8_method_23_code 36 = .ok (.goto 4, 3) := zdt v_Md_direction_0 19 (q := (36, .goto 4, 3)) rfl
theorem d_Md_direction_39 : decode prog_8_method_23_code 39 = .ok (.iconst 0, 1) := zdt v_Md_direction_0 20 (q := (39, .iconst 0, 1)) rfl
theorem d_Md_direction_40 : decode prog_8_method_23_code 40 = .ok (.putfield 75, 3) := zdt v_Md_direction_0 21 (q := (40, .putfield 75, 3)) rfl
theorem d_Md_direction_43 : decode prog_8_method_23_code 43 = .ok (.aload_n 0, 1) := zdt v_Md_direction_0 22 (q := (43, .aload_n 0, 1)) rfl
theorem d_Md_direction_44 : decode prog_8_method_23_code 44 = .ok (.getfield 75, 3) := zdt v_Md_direction_0 23 (q := (44, .getfield 75, 3)) rfl
theorem d_Md_direction_47 : decode prog_8_method_23_code 47 = .ok (.ifCond .le 5, 3) := zdt v_Md_direction_0 24 (q := (47, .ifCond .le 5, 3)) rfl
theorem d_Md_direction_50 : decode prog_8_method_23_code 50 = .ok (.iconst 0, 1) := zdt v_Md_direction_0 25 (q := (50, .iconst 0, 1)) rfl
theorem d_Md_direction_51 : decode prog_8_method_23_code 51 = .ok (.ireturn, 1) := zdt v_Md_direction_0 26 (q := (51, .ireturn, 1)) rfl
theorem d_Md_direction_52 : decode prog_8_method_23_code 52 = .ok (.aload_n 0, 1) := zdt v_Md_direction_0 27 (q := (52, .aload_n 0, 1)) rfl
theorem d_Md_direction_53 : decode prog_8_method_23_code 53 = .ok (.getfield 20, 3) := zdt v_Md_direction_0 28 (q := (53, .getfield 20, 3)) rfl
theorem d_Md_direction_56 : decode prog_8_method_23_code 56 = .ok (.iconst 3, 1) := zdt v_Md_direction_0 29 (q := (56, .iconst 3, 1)) rfl
theorem d_Md_direction_57 : decode prog_8_method_23_code 57 = .ok (.aload_n 0, 1) := zdt v_Md_direction_0 30 (q := (57, .aload_n 0, 1)) rfl
theorem d_Md_direction_58 : decode prog_8_method_23_code 58 = .ok (.getfield 146, 3) := zdt v_Md_direction_0 31 (q := (58, .getfield 146, 3)) rfl
theorem d_Md_direction_61 : decode prog_8_method_23_code 61 = .ok (.imul, 1) := zdt v_Md_direction_0 32 (q := (61, .imul, 1)) rfl
theorem d_Md_direction_62 : decode prog_8_method_23_code 62 = .ok (.iload_n 1, 1) := zdt v_Md_direction_0 33 (q := (62, .iload_n 1, 1)) rfl
theorem d_Md_direction_63 : decode prog_8_method_23_code 63 = .ok (.iastore, 1) := zdt v_Md_direction_0 34 (q := (63, .iastore, 1)) rfl
theorem d_Md_direction_64 : decode prog_8_method_23_code 64 = .ok (.aload_n 0, 1) := zdt v_Md_direction_0 35 (q := (64, .aload_n 0, 1)) rfl
theorem d_Md_direction_65 : decode prog_8_method_23_code 65 = .ok (.getfield 20, 3) := zdt v_Md_direction_0 36 (q := (65, .getfield 20, 3)) rfl
theorem d_Md_direction_68 : decode prog_8_method_23_code 68 = .ok (.iconst 3, 1) := zdt v_Md_direction_0 37 (q := (68, .iconst 3, 1)) rfl
theorem d_Md_direction_69 : decode prog_8_method_23_code 69 = .ok (.aload_n 0, 1) := zdt v_Md_direction_0 38 (q := (69, .aload_n 0, 1)) rfl
theorem d_Md_direction_70 : decode prog_8_method_23_code 70 = .ok (.getfield 146, 3) := zdt v_Md_direction_0 39 (q := (70, .getfield 146, 3)) rfl
def u_Md_direction_1 : List (Nat × Instr × Nat) := [(73, .imul, 1), (74, .iconst 1, 1), (75, .iadd, 1), (76, .iload_n 2, 1), (77, .iastore, 1), (78, .aload_n 0, 1), (79, .getfield 20, 3), (82, .iconst 3, 1), (83, .aload_n 0, 1), (84, .getfield 146, 3), (87, .imul, 1), (88, .iconst 2, 1), (89, .iadd, 1), (90, .iload_n 3, 1), (91, .iastore, 1), (92, .aload_n 0, 1), (93, .dup, 1), (94, .getfield 146, 3), (97, .iconst 1, 1), (98, .iadd, 1), (99, .putfield 146, 3), (102, .aload_n 0, 1), (103, .getfield 146, 3), (106, .iconst 1, 1), (107, .isub, 1), (108, .ireturn, 1)]
theorem v_Md_direction_1 : u_Md_direction_1.all (zdq prog_8_method_23_code) = true := by decide +kernel
theorem d_Md_direction_73 : decode prog_8_method_23_code 73 = .ok (.imul, 1) := zdt v_Md_direction_1 0 (q := (73, .imul, 1)) rfl
theorem d_Md_direction_74 : decode prog_8_method_23_code 74 = .ok (.iconst 1, 1) := zdt v_Md_direction_1 1 (q := (74, .iconst 1, 1)) rfl
theorem d_Md_direction_75 : decode prog_8_method_23_code 75 = .ok (.iadd, 1) := zdt v_Md_direction_1 2 (q := (75, .iadd, 1)) rfl
theorem d_Md_direction_76 : decode prog_8_method_23_code 76 = .ok (.iload_n 2, 1) := zdt v_Md_direction_1 3 (q := (76, .iload_n 2, 1)) rfl
theorem d_Md_direction_77 : decode prog_8_method_23_code 77 = .ok (.iastore, 1) := zdt v_Md_direction_1 4 (q := (77, .iastore, 1)) rfl
theorem d_Md_direction_78 : decode prog_8_method_23_code 78 = .ok (.aload_n 0, 1) := zdt v_Md_direction_1 5 (q := (78, .aload_n 0, 1)) rfl
theorem d_Md_direction_79 : decode prog_8_method_23_code 79 = .ok (.getfield 20, 3) := zdt v_Md_direction_1 6 (q := (79, .getfield 20, 3)) rfl
theorem d_Md_direction_82 : decode prog_8_method_23_code 82 = .ok (.iconst 3, 1) := zdt v_Md_direction_1 7 (q := (82, .iconst 3, 1)) rfl
theorem d_Md_direction_83 : decode prog_8_method_23_code 83 = .ok (.aload_n 0, 1) := zdt v_Md_direction_1 8 (q := (83, .aload_n 0, 1)) rfl
theorem d_Md_direction_84 : decode prog_8_method_23_code 84 = .ok (.getfield 146, 3) := zdt v_Md_direction_1 9 (q := (84, .getfield 146, 3)) rfl
theorem d_Md_direction_87 : decode prog_8_method_23_code 87 = .ok (.imul, 1) := zdt v_Md_direction_1 10 (q := (87, .imul, 1)) rfl
theorem d_Md_direction_88 : decode prog_8_method_23_code 88 = .ok (.iconst 2, 1) := zdt v_Md_direction_1 11 (q := (88, .iconst 2, 1)) rfl
theorem d_Md_direction_89 : decode prog_8_method_23_code 89 = .ok (.iadd, 1) := zdt v_Md_direction_1 12 (q := (89, .iadd, 1)) rfl
theorem d_Md_direction_90 : decode prog_8_method_23_code 90 = .ok (.iload_n 3, 1) := zdt v_Md_direction_1 13 (q := (90, .iload_n 3, 1)) rfl
theorem d_Md_direction_91 : decode prog_8_method_23_code 91 = .ok (.iastore, 1) := zdt v_Md_direction_1 14 (q := (91, .iastore, 1)) rfl
theorem d_Md_direction_92 : decode prog_8_method_23_code 92 = .ok (.aload_n 0, 1) := zdt v_Md_direction_1 15 (q := (92, .aload_n 0, 1)) rfl
theorem d_Md_direction_93 : decode prog_8_method_23_code 93 = .ok (.dup, 1) := zdt v_Md_direction_1 16 (q := (93, .dup, 1)) rfl
theorem d_Md_direction_94 : decode prog_8_method_23_code 94 = .ok (.getfield 146, 3) := zdt v_Md_direction_1 17 (q := (94, .getfield 146, 3)) rfl
theorem d_Md_direction_97 : decode prog_8_method_23_code 97 = .ok (.iconst 1, 1) := zdt v_Md_direction_1 18 (q := (97, .iconst 1, 1)) rfl
theorem d_Md_direction_98 : decode prog_8_method_23_code 98 = .ok (.iadd, 1) := zdt v_Md_direction_1 19 (q := (98, .iadd, 1)) rfl
theorem d_Md_direction_99 : decode prog_8_method_23_code 99 = .ok (.putfield 146, 3) := zdt v_Md_direction_1 20 (q := (99, .putfield 146, 3)) rfl
theorem d_Md_direction_102 : decode prog_8_method_23_code 102 = .ok (.aload_n 0, 1) := zdt v_Md_direction_1 21 (q := (102, .aload_n 0, 1)) rfl
theorem d_Md_direction_103 : decode prog_8_method_23_code 103 = .ok (.getfield 146, 3) := zdt v_Md_direction_1 22 (q := (103, .getfield 146, 3)) rfl
theorem d_Md_direction_106 : decode prog_8_method_23_code 106 = .ok (.iconst 1, 1) := zdt v_Md_direction_1 23 (q := (106, .iconst 1, 1)) rfl
theorem d_Md_direction_107 : decode prog_8_method_23_code 107 = .ok (.isub, 1) := zdt v_Md_direction_1 24 (q := (107, .isub, 1)) rfl
theorem d_Md_direction_108 : decode prog_8_method_23_code 108 = .ok (.ireturn, 1) := zdt v_Md_direction_1 25 (q := (108, .ireturn, 1)) rfl
def u_Md_isVector_0 : List (Nat × Instr × Nat) := [(0, .iload_n 0, 1), (1, .bipush (-9), 2), (3, .bipush 9, 2), (5, .invokestatic 131, 3), (8, .ifCond .eq 29, 3), (11, .iload_n 1, 1), (12, .bipush (-9), 2), (14, .bipush 9, 2), (16, .invokestatic 131, 3), (19, .ifCond .eq 18, 3), (22, .iload_n 2, 1), (23, .bipush (-9), 2), (25, .bipush 9, 2), (27, .invokestatic 131, 3), (30, .ifCond .eq 7, 3), (33, .iconst 1, 1), (34, .goto 4, 3), (37, .iconst 0, 1), (38, .ireturn, 1)]
theorem v_Md_isVector_0 : u_Md_isVector_0.all (zdq prog_8_method_22_code) = true := by decide +kernel
theorem d_Md_isVector_0 : decode prog_8_method_22_code 0 = .ok (.iload_n 0, 1) := zdt v_Md_isVector_0 0 (q := (0, .iload_n 0, 1)) rfl
theorem d_Md_isVector_1 : decode prog_8_method_22_code 1 = .ok (.bipush (-9), 2) := zdt v_Md_isVector_0 1 (q := (1, .bipush (-9), 2)) rfl
theorem d_Md_isVector_3 : decode prog_8_method_22_code 3 = .ok (.bipush 9, 2) := zdt v_Md_isVector_0 2 (q := (3, .bipush 9, 2)) rfl
theorem d_Md_isVector_5 : decode prog_8_method_22_code 5 = .ok (.invokestatic 131, 3) := zdt v_Md_isVector_0 3 (q := (5, .invokestatic 131, 3)) rfl
theorem d_Md_isVector_8 : decode prog_8_method_22_code 8 = .ok (.ifCond .eq 29, 3) := zdt v_Md_isVector_0 4 (q := (8, .ifCond .eq 29, 3)) rfl
theorem d_Md_isVector_11 : decode prog_8_method_22_code 11 = .ok (.iload_n 1, 1) := zdt v_Md_isVector_0 5 (q := (11, .iload_n 1, 1)) rfl
theorem d_Md_isVector_12 : decode prog_8_method_22_code 12 = .ok (.bipush (-9), 2) := zdt v_Md_isVector_0 6 (q := (12, .bipush (-9), 2)) rfl
theorem d_Md_isVector_14 : decode prog_8_method_22_code 14 = .ok (.bipush 9, 2) := zdt v_Md_isVector_0 7 (q := (14, .bipush 9, 2)) rfl
theorem d_Md_isVector_16 : decode prog_8_method_22_code 16 = .ok (.invokestatic 131, 3) := zdt v_Md_isVector_0 8 (q := (16, .invokestatic 131, 3)) rfl
theorem d_Md_isVector_19 : decode prog_8_method_22_code 19 = .ok (.ifCond .eq 18, 3) := zdt v_Md_isVector_0 9 (q := (19, .ifCond .eq 18, 3)) rfl
theorem d_Md_isVector_22 : decode prog_8_method_22_code 22 = .ok (.iload_n 2, 1) := zdt v_Md_isVector_0 10 (q := (22, .iload_n 2, 1)) rfl
theorem d_Md_isVector_23 : decode prog_8_method_22_code 23 = .ok (.bipush (-9), 2) := zdt v_Md_isVector_0 11 (q := (23, .bipush (-9), 2)) rfl
theorem d_Md_isVector_25 : decode prog_8_method_22_code 25 = .ok (.bipush 9, 2) := zdt v_Md_isVector_0 12 (q := (25, .bipush 9, 2)) rfl
theorem d_Md_isVector_27 : decode prog_8_method_22_code 27 = .ok (.invokestatic 131, 3) := zdt v_Md_isVector_0 13 (q := (27, .invokestatic 131, 3)) rfl
theorem d_Md_isVector_30 : decode prog_8_method_22_code 30 = .ok (.ifCond .eq 7, 3) := zdt v_Md_isVector_0 14 (q := (30, .ifCond .eq 7, 3)) rfl
theorem d_Md_isVector_33 : decode prog_8_method_22_code 33 = .ok (.iconst 1, 1) := zdt v_Md_isVector_0 15 (q := (33, .iconst 1, 1)) rfl
theorem d_Md_isVector_34 : decode prog_8_method_22_code 34 = .ok (.goto 4, 3) := zdt v_Md_isVector_0 16 (q := (34, .goto 4, 3)) rfl
theorem d_Md_isVector_37 : decode prog_8_method_22_code 37 = .ok (.iconst 0, 1) := zdt v_Md_isVector_0 17 (q := (37, .iconst 0, 1)) rfl
theorem d_Md_isVector_38 : decode prog_8_method_22_code 38 = .ok (.ireturn, 1) := zdt v_Md_isVector_0 18 (q := (38, .ireturn, 1)) rfl
def u_Md_pull_0 : List (Nat × Instr × Nat) := [(0, .aload_n 0, 1), (1, .iload_n 1, 1), (2, .iload_n 2, 1), (3, .iload_n 3, 1), (4, .invokestatic 143, 3), (7, .ifCond .eq 7, 3), (10, .iconst 0, 1), (11, .goto 4, 3), (14, .iconst 1, 1), (15, .putfield 75, 3), (18, .aload_n 0, 1), (19, .getfield 75, 3), (22, .ifCond .le 4, 3), (25, .return_, 1), (26, .aload_n 0, 1), (27, .getfield 23, 3), (30, .iconst 0, 1), (31, .iload_n 1, 1), (32, .iastore, 1), (33, .aload_n 0, 1), (34, .getfield 23, 3), (37, .iconst 1, 1), (38, .iload_n 2, 1), (39, .iastore, 1), (40, .aload_n 0, 1), (41, .getfield 23, 3), (44, .iconst 2, 1), (45, .iload_n 3, 1), (46, .iastore, 1), (47, .return_, 1)]
theorem v_Md_pull_0 : u_Md_pull_0.all (zdq prog_8_method_24_code) = true := by decide +kernel
theorem d_Md_pull_0 : decode prog_8_method_24_code 0 = .ok (.aload_n 0, 1) := zdt v_Md_pull_0 0 (q := (0, .aload_n 0, 1)) rfl
theorem d_Md_pull_1 : decode prog_8_method_24_code 1 = .ok (.iload_n 1, 1) := zdt v_Md_pull_0 1 (q := (1, .iload_n 1, 1)) rfl
theorem d_Md_pull_2 : decode prog_8_method_24_code 2 = .ok (.iload_n 2, 1) := zdt v_Md_pull_0 2 (q := (2, .iload_n 2, 1)) rfl
theorem d_Md_pull_3 : decode prog_8_method_24_code 3 = .ok (.iload_n 3, 1) := zdt v_Md_pull_0 3 (q := (3, .iload_n 3, 1)) rfl
theorem d_Md_pull_4 : decode prog_8_method_24_code 4 = .ok (.invokestatic 143, 3) := zdt v_Md_pull_0 4 (q := (4, .invokestatic 143, 3)) rfl
theorem d_Md_pull_7 : decode prog_8_method_24_code 7 = .ok (.ifCond .eq 7, 3) := zdt v_Md_pull_0 5 (q := (7, .ifCond .eq 7, 3)) rfl
theorem d_Md_pull_10 : decode prog_8_method_24_code 10 = .ok (.iconst 0, 1) := zdt v_Md_pull_0 6 (q := (10, .iconst 0, 1)) rfl
theorem d_Md_pull_11 : decode prog_8_method_24_code 11 = .ok (.goto 4, 3) := zdt v_Md_pull_0 7 (q := (11, .goto 4, 3)) rfl
theorem d_Md_pull_14 : decode prog_8_method_24_code 14 = .ok (.iconst 1, 1) := zdt v_Md_pull_0 8 (q := (14, .iconst 1, 1)) rfl
theorem d_Md_pull_15 : decode prog_8_method_24_code 15 = .ok (.putfield 75, 3) := zdt v_Md_pull_0 9 (q := (15, .putfield 75, 3)) rfl
theorem d_Md_pull_18 : decode prog_8_method_24_code 18 = .ok (.aload_n 0, 1) := zdt v_Md_pull_0 10 (q := (18, .aload_n 0, 1)) rfl
theorem d_Md_pull_19 : decode prog_8_method_24_code 19 = .ok (.getfield 75, 3) := zdt v_Md_pull_0 11 (q := (19, .getfield 75, 3)) rfl
theorem d_Md_pull_22 : decode prog_8_method_24_code 22 = .ok (.ifCond .le 4, 3) := zdt v_Md_pull_0 12 (q := (22, .ifCond .le 4, 3)) rfl
theorem d_Md_pull_25 : decode prog_8_method_24_code 25 = .ok (.return_, 1) := zdt v_Md_pull_0 13 (q := (25, .return_, 1)) rfl
theorem d_Md_pull_26 : decode prog_8_method_24_code 26 = .ok (.aload_n 0, 1) := zdt v_Md_pull_0 14 (q := (26, .aload_n 0, 1)) rfl
theorem d_Md_pull_27 : decode prog_8_method_24_code 27 = .ok (.getfield 23, 3) := zdt v_Md_pull_0 15 (q := (27, .getfield 23, 3)) rfl
theorem d_Md_pull_30 : decode prog_8_method_24_code 30 = .ok (.iconst 0, 1) := zdt v_Md_pull_0 16 (q := (30, .iconst 0, 1)) rfl
theorem d_Md_pull_31 : decode prog_8_method_24_code 31 = .ok (.iload_n 1, 1) := zdt v_Md_pull_0 17 (q := (31, .iload_n 1, 1)) rfl
theorem d_Md_pull_32 : decode prog_8_method_24_code 32 = .ok (.iastore, 1) := zdt v_Md_pull_0 18 (q := (32, .iastore, 1)) rfl
theorem d_Md_pull_33 : decode prog_8_method_24_code 33 = .ok (.aload_n 0, 1) := zdt v_Md_pull_0 19 (q := (33, .aload_n 0, 1)) rfl
theorem d_Md_pull_34 : decode prog_8_method_24_code 34 = .ok (.getfield 23, 3) := zdt v_Md_pull_0 20 (q := (34, .getfield 23, 3)) rfl
theorem d_Md_pull_37 : decode prog_8_method_24_code 37 = .ok (.iconst 1, 1) := zdt v_Md_pull_0 21 (q := (37, .iconst 1, 1)) rfl
theorem d_Md_pull_38 : decode prog_8_method_24_code 38 = .ok (.iload_n 2, 1) := zdt v_Md_pull_0 22 (q := (38, .iload_n 2, 1)) rfl
theorem d_Md_pull_39 : decode prog_8_method_24_code 39 = .ok (.iastore, 1) := zdt v_Md_pull_0 23 (q := (39, .iastore, 1)) rfl
theorem d_Md_pull_40 : decode prog_8_method_24_code 40 = .ok (.aload_n 0, 1) := zdt v_Md_pull_0 24 (q := (40, .aload_n 0, 1)) rfl
theorem d_Md_pull_41 : decode prog_8_method_24_code 41 = .ok (.getfield 23, 3) := zdt v_Md_pull_0 25 (q := (41, .getfield 23, 3)) rfl
theorem d_Md_pull_44 : decode prog_8_method_24_code 44 = .ok (.iconst 2, 1) := zdt v_Md_pull_0 26 (q := (44, .iconst 2, 1)) rfl
theorem d_Md_pull_45 : decode prog_8_method_24_code 45 = .ok (.iload_n 3, 1) := zdt v_Md_pull_0 27 (q := (45, .iload_n 3, 1)) rfl
theorem d_Md_pull_46 : decode prog_8_method_24_code 46 = .ok (.iastore, 1) := zdt v_Md_pull_0 28 (q := (46, .iastore, 1)) rfl
theorem d_Md_pull_47 : decode prog_8_method_24_code 47 = .ok (.return_, 1) := zdt v_Md_pull_0 29 (q := (47, .return_, 1)) rfl
def u_Md_blocks_0 : List (Nat × Instr × Nat) := [(0, .aload_n 0, 1), (1, .iconst 0, 1), (2, .putfield 75, 3), (5, .aload_n 0, 1), (6, .getfield 111, 3), (9, .ireturn, 1)]
theorem v_Md_blocks_0 : u_Md_blocks_0.all (zdq prog_8_method_25_code) = true := by decide +kernel
theorem d_Md_blocks_0 : decode prog_8_method_25_code 0 = .ok (.aload_n 0, 1) := zdt v_Md_blocks_0 0 (q := (0, .aload_n 0, 1)) rfl
theorem d_Md_blocks_1 : decode prog_8_method_25_code 1 = .ok (.iconst 0, 1) := zdt v_Md_blocks_0 1 (q := (1, .iconst 0, 1)) rfl
theorem d_Md_blocks_2 : decode prog_8_method_25_code 2 = .ok (.putfield 75, 3) := zdt v_Md_blocks_0 2 (q := (2, .putfield 75, 3)) rfl
theorem d_Md_blocks_5 : decode prog_8_method_25_code 5 = .ok (.aload_n 0, 1) := zdt v_Md_blocks_0 3 (q := (5, .aload_n 0, 1)) rfl
theorem d_Md_blocks_6 : decode prog_8_method_25_code 6 = .ok (.getfield 111, 3) := zdt v_Md_blocks_0 4 (q := (6, .getfield 111, 3)) rfl
theorem d_Md_blocks_9 : decode prog_8_method_25_code 9 = .ok (.ireturn, 1) := zdt v_Md_blocks_0 5 (q := (9, .ireturn, 1)) rfl
def u_Md_block_0 : List (Nat × Instr × Nat) := [(0, .aload_n 0, 1), (1, .aload_n 0, 1), (2, .iload_n 1, 1), (3, .invokevirtual 152, 3), (6, .ifCond .eq 16, 3), (9, .iload_n 2, 1), (10, .iconst 0, 1), (11, .iconst 4, 1), (12, .invokestatic 131, 3), (15, .ifCond .eq 7, 3), (18, .iconst 0, 1), (19, .goto 4, 3), (22, .iconst 1, 1), (23, .putfield 75, 3), (26, .aload_n 0, 1), (27, .getfield 75, 3), (30, .ifCond .le 5, 3), (33, .iconst 0, 1), (34, .ireturn, 1), (35, .iload_n 2, 1), (36, .ifCond .ne 10, 3), (39, .aload_n 0, 1), (40, .getfield 41, 3), (43, .iload_n 1, 1), (44, .iaload, 1), (45, .ireturn, 1), (46, .iload_n 2, 1), (47, .iconst 1, 1), (48, .if_icmp .ne 10, 3), (51, .aload_n 0, 1), (52, .getfield 44, 3), (55, .iload_n 1, 1), (56, .iaload, 1), (57, .ireturn, 1), (58, .iload_n 2, 1), (59, .iconst 2, 1), (60, .if_icmp .ne 9, 3), (63, .aload_n 0, 1), (64, .iload_n 1, 1), (65, .invokevirtual 155, 3)]
theorem v_Md_block_0 : u_Md_block_0.all (zdq prog_8_method_30_code) = true := by decide +kernel
theorem d_Md_block_0 : decode prog_8_method_30_code 0 = .ok (.aload_n 0, 1) := zdt v_Md_block_0 0 (q := (0, .aload_n 0, 1)) rfl
theorem d_Md_block_1 : decode prog_8_method_30_code 1 = .ok (.aload_n 0, 1) := zdt v_Md_block_0 1 (q := (1, .aload_n 0, 1)) rfl
theorem d_Md_block_2 : decode prog_8_method_30_code 2 = .ok (.iload_n 1, 1) := zdt v_Md_block_0 2 (q := (2, .iload_n 1, 1)) rfl
theorem d_Md_block_3 : decode prog_8_method_30_code 3 = .ok (.invokevirtual 152, 3) := zdt v_Md_block_0 3 (q := (3, .invokevirtual 152, 3)) rfl
theorem d_Md_block_6 : decode prog_8_method_30_code 6 = .ok (.ifCond .eq 16, 3) := zdt v_Md_block_0 4 (q := (6, .ifCond .eq 16, 3)) rfl
theorem d_Md_block_9 : decode prog_8_method_30_code 9 = .ok (.iload_n 2, 1) := zdt v_Md_block_0 5 (q := (9, .iload_n 2, 1)) rfl
theorem d_Md_block_10 : decode prog_8_method_30_code 10 = .ok (.iconst 0, 1) := zdt v_Md_block_0 6 (q := (10, .iconst 0, 1)) rfl
theorem d_Md_block_11 : decode prog_8_method_30_code 11 = .ok (.iconst 4, 1) := zdt v_Md_block_0 7 (q := (11, .iconst 4, 1)) rfl
theorem d_Md_block_12 : decode prog_8_method_30_code 12 = .ok (.invokestatic 131, 3) := zdt v_Md_block_0 8 (q := (12, .invokestatic 131, 3)) rfl
theorem d_Md_block_15 : decode prog_8_method_30_code 15 = .ok (.ifCond .eq 7, 3) := zdt v_Md_block_0 9 (q := (15, .ifCond .eq 7, 3)) rfl
theorem d_Md_block_18 : decode prog_8_method_30_code 18 = .ok (.iconst 0, 1) := zdt v_Md_block_0 10 (q := (18, .iconst 0, 1)) rfl
theorem d_Md_block_19 : decode prog_8_method_30_code 19 = .ok (.goto 4, 3) := zdt v_Md_block_0 11 (q := (19, .goto 4, 3)) rfl
theorem d_Md_block_22 : decode prog_8_method_30_code 22 = .ok (.iconst 1, 1) := zdt v_Md_block_0 12 (q := (22, .iconst 1, 1)) rfl
theorem d_Md_block_23 : decode prog_8_method_30_code 23 = .ok (.putfield 75, 3) := zdt v_Md_block_0 13 (q := (23, .putfield 75, 3)) rfl
theorem d_Md_block_26 : decode prog_8_method_30_code 26 = .ok (.aload_n 0, 1) := zdt v_Md_block_0 14 (q := (26, .aload_n 0, 1)) rfl
theorem d_Md_block_27 : decode prog_8_method_30_code 27 = .ok (.getfield 75, 3) := zdt v_Md_block_0 15 (q := (27, .getfield 75, 3)) rfl
theorem d_Md_block_30 : decode prog_8_method_30_code 30 = .ok (.ifCond .le 5, 3) := zdt v_Md_block_0 16 (q := (30, .ifCond .le 5, 3)) rfl
theorem d_Md_block_33 : decode prog_8_method_30_code 33 = .ok (.iconst 0, 1) := zdt v_Md_block_0 17 (q := (33, .iconst 0, 1)) rfl
theorem d_Md_block_34 : decode prog_8_method_30_code 34 = .ok (.ireturn, 1) := zdt v_Md_block_0 18 (q := (34, .ireturn, 1)) rfl
theorem d_Md_block_35 : decode prog_8_method_30_code 35 = .ok (.iload_n 2, 1) := zdt v_Md_block_0 19 (q := (35, .iload_n 2, 1)) rfl
theorem d_Md_block_36 : decode prog_8_method_30_code 36 = .ok (.ifCond .ne 10, 3) := zdt v_Md_block_0 20 (q := (36, .ifCond .ne 10, 3)) rfl
theorem d_Md_block_39 : decode prog_8_method_30_code 39 = .ok (.aload_n 0, 1) := zdt v_Md_block_0 21 (q := (39, .aload_n 0, 1)) rfl
theorem d_Md_block_40 : decode prog_8_method_30_code 40 = .ok (.getfield 41, 3) := zdt v_Md_block_0 22 (q := (40, .getfield 41, 3)) rfl
theorem d_Md_block_43 : decode prog_8_method_30_code 43 = .ok (.iload_n 1, 1) := zdt v_Md_block_0 23 (q := (43, .iload_n 1, 1)) rfl
theorem d_Md_block_44 : decode prog_8_method_30_code 44 = .ok (.iaload, 1) := zdt v_Md_block_0 24 (q := (44, .iaload, 1)) rfl
theorem d_Md_block_45 : decode prog_8_method_30_code 45 = .ok (.ireturn, 1) := zdt v_Md_block_0 25 (q := (45, .ireturn, 1)) rfl
theorem d_Md_block_46 : decode prog_8_method_30_code 46 = .ok (.iload_n 2, 1) := zdt v_Md_block_0 26 (q := (46, .iload_n 2, 1)) rfl
theorem d_Md_block_47 : decode prog_8_method_30_code 47 = .ok (.iconst 1, 1) := zdt v_Md_block_0 27 (q := (47, .iconst 1, 1)) rfl
theorem d_Md_block_48 : decode prog_8_method_30_code 48 = .ok (.if_icmp .ne 10, 3) := zdt v_Md_block_0 28 (q := (48, .if_icmp .ne 10, 3)) rfl
theorem d_Md_block_51 : decode prog_8_method_30_code 51 = .ok (.aload_n 0, 1) := zdt v_Md_block_0 29 (q := (51, .aload_n 0, 1)) rfl
theorem d_Md_block_52 : decode prog_8_method_30_code 52 = .ok (.getfield 44, 3) := zdt v_Md_block_0 30 (q := (52, .getfield 44, 3)) rfl
theorem d_Md_block_55 : decode prog_8_method_30_code 55 = .ok (.iload_n 1, 1) := zdt v_Md_block_0 31 (q := (55, .iload_n 1, 1)) rfl
theorem d_Md_block_56 : decode prog_8_method_30_code 56 = .ok (.iaload, 1) := zdt v_Md_block_0 32 (q := (56, .iaload, 1)) rfl
theorem d_Md_block_57 : decode prog_8_method_30_code 57 = .ok (.ireturn, 1) := zdt v_Md_block_0 33 (q := (57, .ireturn, 1)) rfl
theorem d_Md_block_58 : decode prog_8_method_30_code 58 = .ok (.iload_n 2, 1) := zdt v_Md_block_0 34 (q := (58, .iload_n 2, 1)) rfl
theorem d_Md_block_59 : decode prog_8_method_30_code 59 = .ok (.iconst 2, 1) := zdt v_Md_block_0 35 (q := (59, .iconst 2, 1)) rfl
theorem d_Md_block_60 : decode prog_8_method_30_code 60 = .ok (.if_icmp .ne 9, 3) := zdt v_Md_block_0 36 (q := (60, .if_icmp .ne 9, 3)) rfl
theorem d_Md_block_63 : decode prog_8_method_30_code 63 = .ok (.aload_n 0, 1) := zdt v_Md_block_0 37 (q := (63, .aload_n 0, 1)) rfl
theorem d_Md_block_64 : decode prog_8_method_30_code 64 = .ok (.iload_n 1, 1) := zdt v_Md_block_0 38 (q := (64, .iload_n 1, 1)) rfl
theorem d_Md_block_65 : decode prog_8_method_30_code 65 = .ok (.invokevirtual 155, 3) := zdt v_Md_block_0 39 (q := (65, .invokevirtual 155, 3)) rfl
def u_Md_block_1 : List (Nat × Instr × Nat) := [(68, .ireturn, 1), (69, .iload_n 2, 1), (70, .iconst 3, 1), (71, .if_icmp .ne 9, 3), (74, .aload_n 0, 1), (75, .iload_n 1, 1), (76, .invokevirtual 158, 3), (79, .ireturn, 1), (80, .aload_n 0, 1), (81, .getfield 47, 3), (84, .iload_n 1, 1), (85, .baload, 1), (86, .ifCond .eq 7, 3), (89, .iconst 1, 1), (90, .goto 4, 3), (93, .iconst 0, 1), (94, .ireturn, 1)]
theorem v_Md_block_1 : u_Md_block_1.all (zdq prog_8_method_30_code) = true := by decide +kernel
theorem d_Md_block_68 : decode prog_8_method_30_code 68 = .ok (.ireturn, 1) := zdt v_Md_block_1 0 (q := (68, .ireturn, 1)) rfl
theorem d_Md_block_69 : decode prog_8_method_30_code 69 = .ok (.iload_n 2, 1) := zdt v_Md_block_1 1 (q := (69, .iload_n 2, 1)) rfl
theorem d_Md_block_70 : decode prog_8_method_30_code 70 = .ok (.iconst 3, 1) := zdt v_Md_block_1 2 (q := (70, .iconst 3, 1)) rfl
theorem d_Md_block_71 : decode prog_8_method_30_code 71 = .ok (.if_icmp .ne 9, 3) := zdt v_Md_block_1 3 (q := (71, .if_icmp .ne 9, 3)) rfl
theorem d_Md_block_74 : decode prog_8_method_30_code 74 = .ok (.aload_n 0, 1) := zdt v_Md_block_1 4 (q := (74, .aload_n 0, 1)) rfl
theorem d_Md_block_75 : decode prog_8_method_30_code 75 = .ok (.iload_n 1, 1) := zdt v_Md_block_1 5 (q := (75, .iload_n 1, 1)) rfl
theorem d_Md_block_76 : decode prog_8_method_30_code 76 = .ok (.invokevirtual 158, 3) := zdt v_Md_block_1 6 (q := (76, .invokevirtual 158, 3)) rfl
theorem d_Md_block_79 : decode prog_8_method_30_code 79 = .ok (.ireturn, 1) := zdt v_Md_block_1 7 (q := (79, .ireturn, 1)) rfl
theorem d_Md_block_80 : decode prog_8_method_30_code 80 = .ok (.aload_n 0, 1) := zdt v_Md_block_1 8 (q := (80, .aload_n 0, 1)) rfl
theorem d_Md_block_81 : decode prog_8_method_30_code 81 = .ok (.getfield 47, 3) := zdt v_Md_block_1 9 (q := (81, .getfield 47, 3)) rfl
theorem d_Md_block_84 : decode prog_8_method_30_code 84 = .ok (.iload_n 1, 1) := zdt v_Md_block_1 10 (q := (84, .iload_n 1, 1)) rfl
theorem d_Md_block_85 : decode prog_8_method_30_code 85 = .ok (.baload, 1) := zdt v_Md_block_1 11 (q := (85, .baload, 1)) rfl
theorem d_Md_block_86 : decode prog_8_method_30_code 86 = .ok (.ifCond .eq 7, 3) := zdt v_Md_block_1 12 (q := (86, .ifCond .eq 7, 3)) rfl
theorem d_Md_block_89 : decode prog_8_method_30_code 89 = .ok (.iconst 1, 1) := zdt v_Md_block_1 13 (q := (89, .iconst 1, 1)) rfl
theorem d_Md_block_90 : decode prog_8_method_30_code 90 = .ok (.goto 4, 3) := zdt v_Md_block_1 14 (q := (90, .goto 4, 3)) rfl
theorem d_Md_block_93 : decode prog_8_method_30_code 93 = .ok (.iconst 0, 1) := zdt v_Md_block_1 15 (q := (93, .iconst 0, 1)) rfl
theorem d_Md_block_94 : decode prog_8_method_30_code 94 = .ok (.ireturn, 1) := zdt v_Md_block_1 16 (q := (94, .ireturn, 1)) rfl
def u_Md_isBlock_0 : List (Nat × Instr × Nat) := [(0, .iload_n 1, 1), (1, .iconst 0, 1), (2, .aload_n 0, 1), (3, .getfield 111, 3), (6, .iconst 1, 1), (7, .isub, 1), (8, .invokestatic 131, 3), (11, .ireturn, 1)]
theorem v_Md_isBlock_0 : u_Md_isBlock_0.all (zdq prog_8_method_26_code) = true := by decide +kernel
theorem d_Md_isBlock_0 : decode prog_8_method_26_code 0 = .ok (.iload_n 1, 1) := zdt v_Md_isBlock_0 0 (q := (0, .iload_n 1, 1)) rfl
theorem d_Md_isBlock_1 : decode prog_8_method_26_code 1 = .ok (.iconst 0, 1) := zdt v_Md_isBlock_0 1 (q := (1, .iconst 0, 1)) rfl
theorem d_Md_isBlock_2 : decode prog_8_method_26_code 2 = .ok (.aload_n 0, 1) := zdt v_Md_isBlock_0 2 (q := (2, .aload_n 0, 1)) rfl
theorem d_Md_isBlock_3 : decode prog_8_method_26_code 3 = .ok (.getfield 111, 3) := zdt v_Md_isBlock_0 3 (q := (3, .getfield 111, 3)) rfl
theorem d_Md_isBlock_6 : decode prog_8_method_26_code 6 = .ok (.iconst 1, 1) := zdt v_Md_isBlock_0 4 (q := (6, .iconst 1, 1)) rfl
theorem d_Md_isBlock_7 : decode prog_8_method_26_code 7 = .ok (.isub, 1) := zdt v_Md_isBlock_0 5 (q := (7, .isub, 1)) rfl
theorem d_Md_isBlock_8 : decode prog_8_method_26_code 8 = .ok (.invokestatic 131, 3) := zdt v_Md_isBlock_0 6 (q := (8, .invokestatic 131, 3)) rfl
theorem d_Md_isBlock_11 : decode prog_8_method_26_code 11 = .ok (.ireturn, 1) := zdt v_Md_isBlock_0 7 (q := (11, .ireturn, 1)) rfl
def u_Md_cornersOf_0 : List (Nat × Instr × Nat) := [(0, .iconst 0, 1), (1, .istore_n 2, 1), (2, .iconst 0, 1), (3, .istore_n 3, 1), (4, .iload_n 3, 1), (5, .aload_n 0, 1), (6, .getfield 94, 3), (9, .if_icmp .ge 31, 3), (12, .aload_n 0, 1), (13, .iload_n 3, 1), (14, .aload_n 0, 1), (15, .getfield 41, 3), (18, .iload_n 1, 1), (19, .iaload, 1), (20, .invokevirtual 127, 3), (23, .ifCond .eq 9, 3), (26, .iload_n 2, 1), (27, .iconst 1, 1), (28, .iadd, 1), (29, .goto 4, 3), (32, .iload_n 2, 1), (33, .istore_n 2, 1), (34, .iinc 3 1, 3), (37, .goto (-33), 3), (40, .iload_n 2, 1), (41, .ireturn, 1)]
theorem v_Md_cornersOf_0 : u_Md_cornersOf_0.all (zdq prog_8_method_27_code) = true := by decide +kernel
theorem d_Md_cornersOf_0 : decode prog_8_method_27_code 0 = .ok (.iconst 0, 1) := zdt v_Md_cornersOf_0 0 (q := (0, .iconst 0, 1)) rfl
theorem d_Md_cornersOf_1 : decode prog_8_method_27_code 1 = .ok (.istore_n 2, 1) := zdt v_Md_cornersOf_0 1 (q := (1, .istore_n 2, 1)) rfl
theorem d_Md_cornersOf_2 : decode prog_8_method_27_code 2 = .ok (.iconst 0, 1) := zdt v_Md_cornersOf_0 2 (q := (2, .iconst 0, 1)) rfl
theorem d_Md_cornersOf_3 : decode prog_8_method_27_code 3 = .ok (.istore_n 3, 1) := zdt v_Md_cornersOf_0 3 (q := (3, .istore_n 3, 1)) rfl
theorem d_Md_cornersOf_4 : decode prog_8_method_27_code 4 = .ok (.iload_n 3, 1) := zdt v_Md_cornersOf_0 4 (q := (4, .iload_n 3, 1)) rfl
theorem d_Md_cornersOf_5 : decode prog_8_method_27_code 5 = .ok (.aload_n 0, 1) := zdt v_Md_cornersOf_0 5 (q := (5, .aload_n 0, 1)) rfl
theorem d_Md_cornersOf_6 : decode prog_8_method_27_code 6 = .ok (.getfield 94, 3) := zdt v_Md_cornersOf_0 6 (q := (6, .getfield 94, 3)) rfl
theorem d_Md_cornersOf_9 : decode prog_8_method_27_code 9 = .ok (.if_icmp .ge 31, 3) := zdt v_Md_cornersOf_0 7 (q := (9, .if_icmp .ge 31, 3)) rfl
theorem d_Md_cornersOf_12 : decode prog_8_method_27_code 12 = .ok (.aload_n 0, 1) := zdt v_Md_cornersOf_0 8 (q := (12, .aload_n 0, 1)) rfl
theorem d_Md_cornersOf_13 : decode prog_8_method_27_code 13 = .ok (.iload_n 3, 1) := zdt v_Md_cornersOf_0 9 (q := (13, .iload_n 3, 1)) rfl
theorem d_Md_cornersOf_14 : decode prog_8_method_27_code 14 = .ok (.aload_n 0, 1) := zdt v_Md_cornersOf_0 10 (q := (14, .aload_n 0, 1)) rfl
theorem d_Md_cornersOf_15 : decode prog_8_method_27_code 15 = .ok (.getfield 41, 3) := zdt v_Md_cornersOf_0 11 (q := (15, .getfield 41, 3)) rfl
theorem d_Md_cornersOf_18 : decode prog_8_method_27_code 18 = .ok (.iload_n 1, 1) := zdt v_Md_cornersOf_0 12 (q := (18, .iload_n 1, 1)) rfl
theorem d_Md_cornersOf_19 : decode prog_8_method_27_code 19 = .ok (.iaload, 1) := zdt v_Md_cornersOf_0 13 (q := (19, .iaload, 1)) rfl
theorem d_Md_cornersOf_20 : decode prog_8_method_27_code 20 = .ok (.invokevirtual 127, 3) := zdt v_Md_cornersOf_0 14 (q := (20, .invokevirtual 127, 3)) rfl
theorem d_Md_cornersOf_23 : decode prog_8_method_27_code 23 = .ok (.ifCond .eq 9, 3) := zdt v_Md_cornersOf_0 15 (q := (23, .ifCond .eq 9, 3)) rfl
theorem d_Md_cornersOf_26 : decode prog_8_method_27_code 26 = .ok (.iload_n 2, 1) := zdt v_Md_cornersOf_0 16 (q := (26, .iload_n 2, 1)) rfl
theorem d_Md_cornersOf_27 : decode prog_8_method_27_code 27 = .ok (.iconst 1, 1) := zdt v_Md_cornersOf_0 17 (q := (27, .iconst 1, 1)) rfl
theorem d_Md_cornersOf_28 : decode prog_8_method_27_code 28 = .ok (.iadd, 1) := zdt v_Md_cornersOf_0 18 (q := (28, .iadd, 1)) rfl
theorem d_Md_cornersOf_29 : decode prog_8_method_27_code 29 = .ok (.goto 4, 3) := zdt v_Md_cornersOf_0 19 (q := (29, .goto 4, 3)) rfl
theorem d_Md_cornersOf_32 : decode prog_8_method_27_code 32 = .ok (.iload_n 2, 1) := zdt v_Md_cornersOf_0 20 (q := (32, .iload_n 2, 1)) rfl
theorem d_Md_cornersOf_33 : decode prog_8_method_27_code 33 = .ok (.istore_n 2, 1) := zdt v_Md_cornersOf_0 21 (q := (33, .istore_n 2, 1)) rfl
theorem d_Md_cornersOf_34 : decode prog_8_method_27_code 34 = .ok (.iinc 3 1, 3) := zdt v_Md_cornersOf_0 22 (q := (34, .iinc 3 1, 3)) rfl
theorem d_Md_cornersOf_37 : decode prog_8_method_27_code 37 = .ok (.goto (-33), 3) := zdt v_Md_cornersOf_0 23 (q := (37, .goto (-33), 3)) rfl
theorem d_Md_cornersOf_40 : decode prog_8_method_27_code 40 = .ok (.iload_n 2, 1) := zdt v_Md_cornersOf_0 24 (q := (40, .iload_n 2, 1)) rfl
theorem d_Md_cornersOf_41 : decode prog_8_method_27_code 41 = .ok (.ireturn, 1) := zdt v_Md_cornersOf_0 25 (q := (41, .ireturn, 1)) rfl
def u_Md_insideOf_0 : List (Nat × Instr × Nat) := [(0, .iconst 0, 1), (1, .istore_n 2, 1), (2, .iconst 1, 1), (3, .istore_n 3, 1), (4, .iload_n 3, 1), (5, .aload_n 0, 1), (6, .getfield 7, 3), (9, .iconst 0, 1), (10, .iaload, 1), (11, .if_icmp .ge 70, 3), (14, .iconst 1, 1), (15, .istore 4, 2), (17, .iload 4, 2), (19, .aload_n 0, 1), (20, .getfield 7, 3), (23, .iconst 1, 1), (24, .iaload, 1), (25, .if_icmp .ge 50, 3), (28, .iconst 1, 1), (29, .istore 5, 2), (31, .iload 5, 2), (33, .aload_n 0, 1), (34, .getfield 7, 3), (37, .iconst 2, 1), (38, .iaload, 1), (39, .if_icmp .ge 30, 3), (42, .aload_n 0, 1), (43, .iload_n 1, 1), (44, .iload_n 3, 1), (45, .iload 4, 2), (47, .iload 5, 2), (49, .invokevirtual 149, 3), (52, .ifCond .eq 9, 3), (55, .iload_n 2, 1), (56, .iconst 1, 1), (57, .iadd, 1), (58, .goto 4, 3), (61, .iload_n 2, 1), (62, .istore_n 2, 1), (63, .iinc 5 1, 3)]
theorem v_Md_insideOf_0 : u_Md_insideOf_0.all (zdq prog_8_method_29_code) = true := by decide +kernel
theorem d_Md_insideOf_0 : decode prog_8_method_29_code 0 = .ok (.iconst 0, 1) := zdt v_Md_insideOf_0 0 (q := (0, .iconst 0, 1)) rfl
theorem d_Md_insideOf_1 : decode prog_8_method_29_code 1 = .ok (.istore_n 2, 1) := zdt v_Md_insideOf_0 1 (q := (1, .istore_n 2, 1)) rfl
theorem d_Md_insideOf_2 : decode prog_8_method_29_code 2 = .ok (.iconst 1, 1) := zdt v_Md_insideOf_0 2 (q := (2, .iconst 1, 1)) rfl
theorem d_Md_insideOf_3 : decode prog_8_method_29_code 3 = .ok (.istore_n 3, 1) := zdt v_Md_insideOf_0 3 (q := (3, .istore_n 3, 1)) rfl
theorem d_Md_insideOf_4 : decode prog_8_method_29_code 4 = .ok (.iload_n 3, 1) := zdt v_Md_insideOf_0 4 (q := (4, .iload_n 3, 1)) rfl
theorem d_Md_insideOf_5 : decode prog_8_method_29_code 5 = .ok (.aload_n 0, 1) := zdt v_Md_insideOf_0 5 (q := (5, .aload_n 0, 1)) rfl
theorem d_Md_insideOf_6 : decode prog_8_method_29_code 6 = .ok (.getfield 7, 3) := zdt v_Md_insideOf_0 6 (q := (6, .getfield 7, 3)) rfl
theorem d_Md_insideOf_9 : decode prog_8_method_29_code 9 = .ok (.iconst 0, 1) := zdt v_Md_insideOf_0 7 (q := (9, .iconst 0, 1)) rfl
theorem d_Md_insideOf_10 : decode prog_8_method_29_code 10 = .ok (.iaload, 1) := zdt v_Md_insideOf_0 8 (q := (10, .iaload, 1)) rfl
theorem d_Md_insideOf_11 : decode prog_8_method_29_code 11 = .ok (.if_icmp .ge 70, 3) := zdt v_Md_insideOf_0 9 (q := (11, .if_icmp .ge 70, 3)) rfl
theorem d_Md_insideOf_14 : decode prog_8_method_29_code 14 = .ok (.iconst 1, 1) := zdt v_Md_insideOf_0 10 (q := (14, .iconst 1, 1)) rfl
theorem d_Md_insideOf_15 : decode prog_8_method_29_code 15 = .ok (.istore 4, 2) := zdt v_Md_insideOf_0 11 (q := (15, .istore 4, 2)) rfl
theorem d_Md_insideOf_17 : decode prog_8_method_29_code 17 = .ok (.iload 4, 2) := zdt v_Md_insideOf_0 12 (q := (17, .iload 4, 2)) rfl
theorem d_Md_insideOf_19 : decode prog_8_method_29_code 19 = .ok (.aload_n 0, 1) := zdt v_Md_insideOf_0 13 (q := (19, .aload_n 0, 1)) rfl
theorem d_Md_insideOf_20 : decode prog_8_method_29_code 20 = .ok (.getfield 7, 3) := zdt v_Md_insideOf_0 14 (q := (20, .getfield 7, 3)) rfl
theorem d_Md_insideOf_23 : decode prog_8_method_29_code 23 = .ok (.iconst 1, 1) := zdt v_Md_insideOf_0 15 (q := (23, .iconst 1, 1)) rfl
theorem d_Md_insideOf_24 : decode prog_8_method_29_code 24 = .ok (.iaload, 1) := zdt v_Md_insideOf_0 16 (q := (24, .iaload, 1)) rfl
theorem d_Md_insideOf_25 : decode prog_8_method_29_code 25 = .ok (.if_icmp .ge 50, 3) := zdt v_Md_insideOf_0 17 (q := (25, .if_icmp .ge 50, 3)) rfl
theorem d_Md_insideOf_28 : decode prog_8_method_29_code 28 = .ok (.iconst 1, 1) := zdt v_Md_insideOf_0 18 (q := (28, .iconst 1, 1)) rfl
theorem d_Md_insideOf_29 : decode prog_8_method_29_code 29 = .ok (.istore 5, 2) := zdt v_Md_insideOf_0 19 (q := (29, .istore 5, 2)) rfl
theorem d_Md_insideOf_31 : decode prog_8_method_29_code 31 = .ok (.iload 5, 2) := zdt v_Md_insideOf_0 20 (q := (31, .iload 5, 2)) rfl
theorem d_Md_insideOf_33 : decode prog_8_method_29_code 33 = .ok (.aload_n 0, 1) := zdt v_Md_insideOf_0 21 (q := (33, .aload_n 0, 1)) rfl
theorem d_Md_insideOf_34 : decode prog_8_method_29_code 34 = .ok (.getfield 7, 3) := zdt v_Md_insideOf_0 22 (q := (34, .getfield 7, 3)) rfl
theorem d_Md_insideOf_37 : decode prog_8_method_29_code 37 = .ok (.iconst 2, 1) := zdt v_Md_insideOf_0 23 (q := (37, .iconst 2, 1)) rfl
theorem d_Md_insideOf_38 : decode prog_8_method_29_code 38 = .ok (.iaload, 1) := zdt v_Md_insideOf_0 24 (q := (38, .iaload, 1)) rfl
theorem d_Md_insideOf_39 : decode prog_8_method_29_code 39 = .ok (.if_icmp .ge 30, 3) := zdt v_Md_insideOf_0 25 (q := (39, .if_icmp .ge 30, 3)) rfl
theorem d_Md_insideOf_42 : decode prog_8_method_29_code 42 = .ok (.aload_n 0, 1) := zdt v_Md_insideOf_0 26 (q := (42, .aload_n 0, 1)) rfl
theorem d_Md_insideOf_43 : decode prog_8_method_29_code 43 = .ok (.iload_n 1, 1) := zdt v_Md_insideOf_0 27 (q := (43, .iload_n 1, 1)) rfl
theorem d_Md_insideOf_44 : decode prog_8_method_29_code 44 = .ok (.iload_n 3, 1) := zdt v_Md_insideOf_0 28 (q := (44, .iload_n 3, 1)) rfl
theorem d_Md_insideOf_45 : decode prog_8_method_29_code 45 = .ok (.iload 4, 2) := zdt v_Md_insideOf_0 29 (q := (45, .iload 4, 2)) rfl
theorem d_Md_insideOf_47 : decode prog_8_method_29_code 47 = .ok (.iload 5, 2) := zdt v_Md_insideOf_0 30 (q := (47, .iload 5, 2)) rfl
theorem d_Md_insideOf_49 : decode prog_8_method_29_code 49 = .ok (.invokevirtual 149, 3) := zdt v_Md_insideOf_0 31 (q := (49, .invokevirtual 149, 3)) rfl
theorem d_Md_insideOf_52 : decode prog_8_method_29_code 52 = .ok (.ifCond .eq 9, 3) := zdt v_Md_insideOf_0 32 (q := (52, .ifCond .eq 9, 3)) rfl
theorem d_Md_insideOf_55 : decode prog_8_method_29_code 55 = .ok (.iload_n 2, 1) := zdt v_Md_insideOf_0 33 (q := (55, .iload_n 2, 1)) rfl
theorem d_Md_insideOf_56 : decode prog_8_method_29_code 56 = .ok (.iconst 1, 1) := zdt v_Md_insideOf_0 34 (q := (56, .iconst 1, 1)) rfl
theorem d_Md_insideOf_57 : decode prog_8_method_29_code 57 = .ok (.iadd, 1) := zdt v_Md_insideOf_0 35 (q := (57, .iadd, 1)) rfl
theorem d_Md_insideOf_58 : decode prog_8_method_29_code 58 = .ok (.goto 4, 3) := zdt v_Md_insideOf_0 36 (q := (58, .goto 4, 3)) rfl
theorem d_Md_insideOf_61 : decode prog_8_method_29_code 61 = .ok (.iload_n 2, 1) := zdt v_Md_insideOf_0 37 (q := (61, .iload_n 2, 1)) rfl
theorem d_Md_insideOf_62 : decode prog_8_method_29_code 62 = .ok (.istore_n 2, 1) := zdt v_Md_insideOf_0 38 (q := (62, .istore_n 2, 1)) rfl
theorem d_Md_insideOf_63 : decode prog_8_method_29_code 63 = .ok (.iinc 5 1, 3) := zdt v_Md_insideOf_0 39 (q := (63, .iinc 5 1, 3)) rfl
def u_Md_insideOf_1 : List (Nat × Instr × Nat) := [(66, .goto (-35), 3), (69, .iinc 4 1, 3), (72, .goto (-55), 3), (75, .iinc 3 1, 3), (78, .goto (-74), 3), (81, .iload_n 2, 1), (82, .ireturn, 1)]
theorem v_Md_insideOf_1 : u_Md_insideOf_1.all (zdq prog_8_method_29_code) = true := by decide +kernel
theorem d_Md_insideOf_66 : decode prog_8_method_29_code 66 = .ok (.goto (-35), 3) := zdt v_Md_insideOf_1 0 (q := (66, .goto (-35), 3)) rfl
theorem d_Md_insideOf_69 : decode prog_8_method_29_code 69 = .ok (.iinc 4 1, 3) := zdt v_Md_insideOf_1 1 (q := (69, .iinc 4 1, 3)) rfl
theorem d_Md_insideOf_72 : decode prog_8_method_29_code 72 = .ok (.goto (-55), 3) := zdt v_Md_insideOf_1 2 (q := (72, .goto (-55), 3)) rfl
theorem d_Md_insideOf_75 : decode prog_8_method_29_code 75 = .ok (.iinc 3 1, 3) := zdt v_Md_insideOf_1 3 (q := (75, .iinc 3 1, 3)) rfl
theorem d_Md_insideOf_78 : decode prog_8_method_29_code 78 = .ok (.goto (-74), 3) := zdt v_Md_insideOf_1 4 (q := (78, .goto (-74), 3)) rfl
theorem d_Md_insideOf_81 : decode prog_8_method_29_code 81 = .ok (.iload_n 2, 1) := zdt v_Md_insideOf_1 5 (q := (81, .iload_n 2, 1)) rfl
theorem d_Md_insideOf_82 : decode prog_8_method_29_code 82 = .ok (.ireturn, 1) := zdt v_Md_insideOf_1 6 (q := (82, .ireturn, 1)) rfl
def u_Md_isInside_0 : List (Nat × Instr × Nat) := [(0, .iconst 1, 1), (1, .istore 5, 2), (3, .iconst 0, 1), (4, .istore 6, 2), (6, .iload 6, 2), (8, .aload_n 0, 1), (9, .getfield 83, 3), (12, .if_icmp .ge 103, 3), (15, .aload_n 0, 1), (16, .getfield 13, 3), (19, .iconst 4, 1), (20, .iload 6, 2), (22, .imul, 1), (23, .iaload, 1), (24, .iload_n 2, 1), (25, .imul, 1), (26, .aload_n 0, 1), (27, .getfield 13, 3), (30, .iconst 4, 1), (31, .iload 6, 2), (33, .imul, 1), (34, .iconst 1, 1), (35, .iadd, 1), (36, .iaload, 1), (37, .iload_n 3, 1), (38, .imul, 1), (39, .iadd, 1), (40, .aload_n 0, 1), (41, .getfield 13, 3), (44, .iconst 4, 1), (45, .iload 6, 2), (47, .imul, 1), (48, .iconst 2, 1), (49, .iadd, 1), (50, .iaload, 1), (51, .iload 4, 2), (53, .imul, 1), (54, .iadd, 1), (55, .aload_n 0, 1), (56, .getfield 13, 3)]
theorem v_Md_isInside_0 : u_Md_isInside_0.all (zdq prog_8_method_28_code) = true := by decide +kernel
theorem d_Md_isInside_0 : decode prog_8_method_28_code 0 = .ok (.iconst 1, 1) := zdt v_Md_isInside_0 0 (q := (0, .iconst 1, 1)) rfl
theorem d_Md_isInside_1 : decode prog_8_method_28_code 1 = .ok (.istore 5, 2) := zdt v_Md_isInside_0 1 (q := (1, .istore 5, 2)) rfl
theorem d_Md_isInside_3 : decode prog_8_method_28_code 3 = .ok (.iconst 0, 1) := zdt v_Md_isInside_0 2 (q := (3, .iconst 0, 1)) rfl
theorem d_Md_isInside_4 : decode prog_8_method_28_code 4 = .ok (.istore 6, 2) := zdt v_Md_isInside_0 3 (q := (4, .istore 6, 2)) rfl
theorem d_Md_isInside_6 : decode prog_8_method_28_code 6 = .ok (.iload 6, 2) := zdt v_Md_isInside_0 4 (q := (6, .iload 6, 2)) rfl
theorem d_Md_isInside_8 : decode prog_8_method_28_code 8 = .ok (.aload_n 0, 1) := zdt v_Md_isInside_0 5 (q := (8, .aload_n 0, 1)) rfl
theorem d_Md_isInside_9 : decode prog_8_method_28_code 9 = .ok (.getfield 83, 3) := zdt v_Md_isInside_0 6 (q := (9, .getfield 83, 3)) rfl
theorem d_Md_isInside_12 : decode prog_8_method_28_code 12 = .ok (.if_icmp .ge 103, 3) := zdt v_Md_isInside_0 7 (q := (12, .if_icmp .ge 103, 3)) rfl
theorem d_Md_isInside_15 : decode prog_8_method_28_code 15 = .ok (.aload_n 0, 1) := zdt v_Md_isInside_0 8 (q := (15, .aload_n 0, 1)) rfl
theorem d_Md_isInside_16 : decode prog_8_method_28_code 16 = .ok (.getfield 13, 3) := zdt v_Md_isInside_0 9 (q := (16, .getfield 13, 3)) rfl
theorem d_Md_isInside_19 : decode prog_8_method_28_code 19 = .ok (.iconst 4, 1) := zdt v_Md_isInside_0 10 (q := (19, .iconst 4, 1)) rfl
theorem d_Md_isInside_20 : decode prog_8_method_28_code 20 = .ok (.iload 6, 2) := zdt v_Md_isInside_0 11 (q := (20, .iload 6, 2)) rfl
theorem d_Md_isInside_22 : decode prog_8_method_28_code 22 = .ok (.imul, 1) := zdt v_Md_isInside_0 12 (q := (22, .imul, 1)) rfl
theorem d_Md_isInside_23 : decode prog_8_method_28_code 23 = .ok (.iaload, 1) := zdt v_Md_isInside_0 13 (q := (23, .iaload, 1)) rfl
theorem d_Md_isInside_24 : decode prog_8_method_28_code 24 = .ok (.iload_n 2, 1) := zdt v_Md_isInside_0 14 (q := (24, .iload_n 2, 1)) rfl
theorem d_Md_isInside_25 : decode prog_8_method_28_code 25 = .ok (.imul, 1) := zdt v_Md_isInside_0 15 (q := (25, .imul, 1)) rfl
theorem d_Md_isInside_26 : decode prog_8_method_28_code 26 = .ok (.aload_n 0, 1) := zdt v_Md_isInside_0 16 (q := (26, .aload_n 0, 1)) rfl
theorem d_Md_isInside_27 : decode prog_8_method_28_code 27 = .ok (.getfield 13, 3) := zdt v_Md_isInside_0 17 (q := (27, .getfield 13, 3)) rfl
theorem d_Md_isInside_30 : decode prog_8_method_28_code 30 = .ok (.iconst 4, 1) := zdt v_Md_isInside_0 18 (q := (30, .iconst 4, 1)) rfl
theorem d_Md_isInside_31 : decode prog_8_method_28_code 31 = .ok (.iload 6, 2) := zdt v_Md_isInside_0 19 (q := (31, .iload 6, 2)) rfl
theorem d_Md_isInside_33 : decode prog_8_method_28_code 33 = .ok (.imul, 1) := zdt v_Md_isInside_0 20 (q := (33, .imul, 1)) rfl
theorem d_Md_isInside_34 : decode prog_8_method_28_code 34 = .ok (.iconst 1, 1) := zdt v_Md_isInside_0 21 (q := (34, .iconst 1, 1)) rfl
theorem d_Md_isInside_35 : decode prog_8_method_28_code 35 = .ok (.iadd, 1) := zdt v_Md_isInside_0 22 (q := (35, .iadd, 1)) rfl
theorem d_Md_isInside_36 : decode prog_8_method_28_code 36 = .ok (.iaload, 1) := zdt v_Md_isInside_0 23 (q := (36, .iaload, 1)) rfl
theorem d_Md_isInside_37 : decode prog_8_method_28_code 37 = .ok (.iload_n 3, 1) := zdt v_Md_isInside_0 24 (q := (37, .iload_n 3, 1)) rfl
theorem d_Md_isInside_38 : decode prog_8_method_28_code 38 = .ok (.imul, 1) := zdt v_Md_isInside_0 25 (q := (38, .imul, 1)) rfl
theorem d_Md_isInside_39 : decode prog_8_method_28_code 39 = .ok (.iadd, 1) := zdt v_Md_isInside_0 26 (q := (39, .iadd, 1)) rfl
theorem d_Md_isInside_40 : decode prog_8_method_28_code 40 = .ok (.aload_n 0, 1) := zdt v_Md_isInside_0 27 (q := (40, .aload_n 0, 1)) rfl
theorem d_Md_isInside_41 : decode prog_8_method_28_code 41 = .ok (.getfield 13, 3) := zdt v_Md_isInside_0 28 (q := (41, .getfield 13, 3)) rfl
theorem d_Md_isInside_44 : decode prog_8_method_28_code 44 = .ok (.iconst 4, 1) := zdt v_Md_isInside_0 29 (q := (44, .iconst 4, 1)) rfl
theorem d_Md_isInside_45 : decode prog_8_method_28_code 45 = .ok (.iload 6, 2) := zdt v_Md_isInside_0 30 (q := (45, .iload 6, 2)) rfl
theorem d_Md_isInside_47 : decode prog_8_method_28_code 47 = .ok (.imul, 1) := zdt v_Md_isInside_0 31 (q := (47, .imul, 1)) rfl
theorem d_Md_isInside_48 : decode prog_8_method_28_code 48 = .ok (.iconst 2, 1) := zdt v_Md_isInside_0 32 (q := (48, .iconst 2, 1)) rfl
theorem d_Md_isInside_49 : decode prog_8_method_28_code 49 = .ok (.iadd, 1) := zdt v_Md_isInside_0 33 (q := (49, .iadd, 1)) rfl
theorem d_Md_isInside_50 : decode prog_8_method_28_code 50 = .ok (.iaload, 1) := zdt v_Md_isInside_0 34 (q := (50, .iaload, 1)) rfl
theorem d_Md_isInside_51 : decode prog_8_method_28_code 51 = .ok (.iload 4, 2) := zdt v_Md_isInside_0 35 (q := (51, .iload 4, 2)) rfl
theorem d_Md_isInside_53 : decode prog_8_method_28_code 53 = .ok (.imul, 1) := zdt v_Md_isInside_0 36 (q := (53, .imul, 1)) rfl
theorem d_Md_isInside_54 : decode prog_8_method_28_code 54 = .ok (.iadd, 1) := zdt v_Md_isInside_0 37 (q := (54, .iadd, 1)) rfl
theorem d_Md_isInside_55 : decode prog_8_method_28_code 55 = .ok (.aload_n 0, 1) := zdt v_Md_isInside_0 38 (q := (55, .aload_n 0, 1)) rfl
theorem d_Md_isInside_56 : decode prog_8_method_28_code 56 = .ok (.getfield 13, 3) := zdt v_Md_isInside_0 39 (q := (56, .getfield 13, 3)) rfl
def u_Md_isInside_1 : List (Nat × Instr × Nat) := [(59, .iconst 4, 1), (60, .iload 6, 2), (62, .imul, 1), (63, .iconst 3, 1), (64, .iadd, 1), (65, .iaload, 1), (66, .isub, 1), (67, .istore 7, 2), (69, .iload 5, 2), (71, .ifCond .eq 35, 3), (74, .aload_n 0, 1), (75, .getfield 41, 3), (78, .iload_n 1, 1), (79, .iaload, 1), (80, .iload 6, 2), (82, .ishr, 1), (83, .iconst 1, 1), (84, .iand, 1), (85, .iconst 1, 1), (86, .if_icmp .ne 11, 3), (89, .iload 7, 2), (91, .ifCond .le 15, 3), (94, .goto 8, 3), (97, .iload 7, 2), (99, .ifCond .ge 7, 3), (102, .iconst 1, 1), (103, .goto 4, 3), (106, .iconst 0, 1), (107, .istore 5, 2), (109, .iinc 6 1, 3), (112, .goto (-106), 3), (115, .iload 5, 2), (117, .ireturn, 1)]
theorem v_Md_isInside_1 : u_Md_isInside_1.all (zdq prog_8_method_28_code) = true := by decide +kernel
theorem d_Md_isInside_59 : decode prog_8_method_28_code 59 = .ok (.iconst 4, 1) := zdt v_Md_isInside_1 0 (q := (59, .iconst 4, 1)) rfl
theorem d_Md_isInside_60 : decode prog_8_method_28_code 60 = .ok (.iload 6, 2) := zdt v_Md_isInside_1 1 (q := (60, .iload 6, 2)) rfl
theorem d_Md_isInside_62 : decode prog_8_method_28_code 62 = .ok (.imul, 1) := zdt v_Md_isInside_1 2 (q := (62, .imul, 1)) rfl
theorem d_Md_isInside_63 : decode prog_8_method_28_code 63 = .ok (.iconst 3, 1) := zdt v_Md_isInside_1 3 (q := (63, .iconst 3, 1)) rfl
theorem d_Md_isInside_64 : decode prog_8_method_28_code 64 = .ok (.iadd, 1) := zdt v_Md_isInside_1 4 (q := (64, .iadd, 1)) rfl
theorem d_Md_isInside_65 : decode prog_8_method_28_code 65 = .ok (.iaload, 1) := zdt v_Md_isInside_1 5 (q := (65, .iaload, 1)) rfl
theorem d_Md_isInside_66 : decode prog_8_method_28_code 66 = .ok (.isub, 1) := zdt v_Md_isInside_1 6 (q := (66, .isub, 1)) rfl
theorem d_Md_isInside_67 : decode prog_8_method_28_code 67 = .ok (.istore 7, 2) := zdt v_Md_isInside_1 7 (q := (67, .istore 7, 2)) rfl
theorem d_Md_isInside_69 : decode prog_8_method_28_code 69 = .ok (.iload 5, 2) := zdt v_Md_isInside_1 8 (q := (69, .iload 5, 2)) rfl
theorem d_Md_isInside_71 : decode prog_8_method_28_code 71 = .ok (.ifCond .eq 35, 3) := zdt v_Md_isInside_1 9 (q := (71, .ifCond .eq 35, 3)) rfl
theorem d_Md_isInside_74 : decode prog_8_method_28_code 74 = .ok (.aload_n 0, 1) := zdt v_Md_isInside_1 10 (q := (74, .aload_n 0, 1)) rfl
theorem d_Md_isInside_75 : decode prog_8_method_28_code 75 = .ok (.getfield 41, 3) := zdt v_Md_isInside_1 11 (q := (75, .getfield 41, 3)) rfl
theorem d_Md_isInside_78 : decode prog_8_method_28_code 78 = .ok (.iload_n 1, 1) := zdt v_Md_isInside_1 12 (q := (78, .iload_n 1, 1)) rfl
theorem d_Md_isInside_79 : decode prog_8_method_28_code 79 = .ok (.iaload, 1) := zdt v_Md_isInside_1 13 (q := (79, .iaload, 1)) rfl
theorem d_Md_isInside_80 : decode prog_8_method_28_code 80 = .ok (.iload 6, 2) := zdt v_Md_isInside_1 14 (q := (80, .iload 6, 2)) rfl
theorem d_Md_isInside_82 : decode prog_8_method_28_code 82 = .ok (.ishr, 1) := zdt v_Md_isInside_1 15 (q := (82, .ishr, 1)) rfl
theorem d_Md_isInside_83 : decode prog_8_method_28_code 83 = .ok (.iconst 1, 1) := zdt v_Md_isInside_1 16 (q := (83, .iconst 1, 1)) rfl
theorem d_Md_isInside_84 : decode prog_8_method_28_code 84 = .ok (.iand, 1) := zdt v_Md_isInside_1 17 (q := (84, .iand, 1)) rfl
theorem d_Md_isInside_85 : decode prog_8_method_28_code 85 = .ok (.iconst 1, 1) := zdt v_Md_isInside_1 18 (q := (85, .iconst 1, 1)) rfl
theorem d_Md_isInside_86 : decode prog_8_method_28_code 86 = .ok (.if_icmp .ne 11, 3) := zdt v_Md_isInside_1 19 (q := (86, .if_icmp .ne 11, 3)) rfl
theorem d_Md_isInside_89 : decode prog_8_method_28_code 89 = .ok (.iload 7, 2) := zdt v_Md_isInside_1 20 (q := (89, .iload 7, 2)) rfl
theorem d_Md_isInside_91 : decode prog_8_method_28_code 91 = .ok (.ifCond .le 15, 3) := zdt v_Md_isInside_1 21 (q := (91, .ifCond .le 15, 3)) rfl
theorem d_Md_isInside_94 : decode prog_8_method_28_code 94 = .ok (.goto 8, 3) := zdt v_Md_isInside_1 22 (q := (94, .goto 8, 3)) rfl
theorem d_Md_isInside_97 : decode prog_8_method_28_code 97 = .ok (.iload 7, 2) := zdt v_Md_isInside_1 23 (q := (97, .iload 7, 2)) rfl
theorem d_Md_isInside_99 : decode prog_8_method_28_code 99 = .ok (.ifCond .ge 7, 3) := zdt v_Md_isInside_1 24 (q := (99, .ifCond .ge 7, 3)) rfl
theorem d_Md_isInside_102 : decode prog_8_method_28_code 102 = .ok (.iconst 1, 1) := zdt v_Md_isInside_1 25 (q := (102, .iconst 1, 1)) rfl
theorem d_Md_isInside_103 : decode prog_8_method_28_code 103 = .ok (.goto 4, 3) := zdt v_Md_isInside_1 26 (q := (103, .goto 4, 3)) rfl
theorem d_Md_isInside_106 : decode prog_8_method_28_code 106 = .ok (.iconst 0, 1) := zdt v_Md_isInside_1 27 (q := (106, .iconst 0, 1)) rfl
theorem d_Md_isInside_107 : decode prog_8_method_28_code 107 = .ok (.istore 5, 2) := zdt v_Md_isInside_1 28 (q := (107, .istore 5, 2)) rfl
theorem d_Md_isInside_109 : decode prog_8_method_28_code 109 = .ok (.iinc 6 1, 3) := zdt v_Md_isInside_1 29 (q := (109, .iinc 6 1, 3)) rfl
theorem d_Md_isInside_112 : decode prog_8_method_28_code 112 = .ok (.goto (-106), 3) := zdt v_Md_isInside_1 30 (q := (112, .goto (-106), 3)) rfl
theorem d_Md_isInside_115 : decode prog_8_method_28_code 115 = .ok (.iload 5, 2) := zdt v_Md_isInside_1 31 (q := (115, .iload 5, 2)) rfl
theorem d_Md_isInside_117 : decode prog_8_method_28_code 117 = .ok (.ireturn, 1) := zdt v_Md_isInside_1 32 (q := (117, .ireturn, 1)) rfl
def u_Md_corner_0 : List (Nat × Instr × Nat) := [(0, .aload_n 0, 1), (1, .iload_n 1, 1), (2, .invokevirtual 152, 3), (5, .ifCond .eq 20, 3), (8, .iload_n 3, 1), (9, .iconst 0, 1), (10, .iconst 3, 1), (11, .invokestatic 131, 3), (14, .ifCond .eq 11, 3), (17, .iload_n 2, 1), (18, .ifCond .lt 7, 3), (21, .iconst 1, 1), (22, .goto 4, 3), (25, .iconst 0, 1), (26, .istore 4, 2), (28, .aload_n 0, 1), (29, .iload 4, 2), (31, .ifCond .eq 16, 3), (34, .iload_n 2, 1), (35, .aload_n 0, 1), (36, .iload_n 1, 1), (37, .invokevirtual 155, 3), (40, .if_icmp .ge 7, 3), (43, .iconst 0, 1), (44, .goto 4, 3), (47, .iconst 1, 1), (48, .putfield 75, 3), (51, .aload_n 0, 1), (52, .getfield 75, 3), (55, .ifCond .le 5, 3), (58, .iconst 0, 1), (59, .ireturn, 1), (60, .iload_n 2, 1), (61, .istore 5, 2), (63, .iconst 0, 1), (64, .istore 6, 2), (66, .iload 5, 2), (68, .ifCond .gt 18, 3), (71, .aload_n 0, 1), (72, .iload 6, 2)]
theorem v_Md_corner_0 : u_Md_corner_0.all (zdq prog_8_method_31_code) = true := by decide +kernel
theorem d_Md_corner_0 : decode prog_8_method_31_code 0 = .ok (.aload_n 0, 1) := zdt v_Md_corner_0 0 (q := (0, .aload_n 0, 1)) rfl
theorem d_Md_corner_1 : decode prog_8_method_31_code 1 = .ok (.iload_n 1, 1) := zdt v_Md_corner_0 1 (q := (1, .iload_n 1, 1)) rfl
theorem d_Md_corner_2 : decode prog_8_method_31_code 2 = .ok (.invokevirtual 152, 3) := zdt v_Md_corner_0 2 (q := (2, .invokevirtual 152, 3)) rfl
theorem d_Md_corner_5 : decode prog_8_method_31_code 5 = .ok (.ifCond .eq 20, 3) := zdt v_Md_corner_0 3 (q := (5, .ifCond .eq 20, 3)) rfl
theorem d_Md_corner_8 : decode prog_8_method_31_code 8 = .ok (.iload_n 3, 1) := zdt v_Md_corner_0 4 (q := (8, .iload_n 3, 1)) rfl
theorem d_Md_corner_9 : decode prog_8_method_31_code 9 = .ok (.iconst 0, 1) := zdt v_Md_corner_0 5 (q := (9, .iconst 0, 1)) rfl
theorem d_Md_corner_10 : decode prog_8_method_31_code 10 = .ok (.iconst 3, 1) := zdt v_Md_corner_0 6 (q := (10, .iconst 3, 1)) rfl
theorem d_Md_corner_11 : decode prog_8_method_31_code 11 = .ok (.invokestatic 131, 3) := zdt v_Md_corner_0 7 (q := (11, .invokestatic 131, 3)) rfl
theorem d_Md_corner_14 : decode prog_8_method_31_code 14 = .ok (.ifCond .eq 11, 3) := zdt v_Md_corner_0 8 (q := (14, .ifCond .eq 11, 3)) rfl
theorem d_Md_corner_17 : decode prog_8_method_31_code 17 = .ok (.iload_n 2, 1) := zdt v_Md_corner_0 9 (q := (17, .iload_n 2, 1)) rfl
theorem d_Md_corner_18 : decode prog_8_method_31_code 18 = .ok (.ifCond .lt 7, 3) := zdt v_Md_corner_0 10 (q := (18, .ifCond .lt 7, 3)) rfl
theorem d_Md_corner_21 : decode prog_8_method_31_code 21 = .ok (.iconst 1, 1) := zdt v_Md_corner_0 11 (q := (21, .iconst 1, 1)) rfl
theorem d_Md_corner_22 : decode prog_8_method_31_code 22 = .ok (.goto 4, 3) := zdt v_Md_corner_0 12 (q := (22, .goto 4, 3)) rfl
theorem d_Md_corner_25 : decode prog_8_method_31_code 25 = .ok (.iconst 0, 1) := zdt v_Md_corner_0 13 (q := (25, .iconst 0, 1)) rfl
theorem d_Md_corner_26 : decode prog_8_method_31_code 26 = .ok (.istore 4, 2) := zdt v_Md_corner_0 14 (q := (26, .istore 4, 2)) rfl
theorem d_Md_corner_28 : decode prog_8_method_31_code 28 = .ok (.aload_n 0, 1) := zdt v_Md_corner_0 15 (q := (28, .aload_n 0, 1)) rfl
theorem d_Md_corner_29 : decode prog_8_method_31_code 29 = .ok (.iload 4, 2) := zdt v_Md_corner_0 16 (q := (29, .iload 4, 2)) rfl
theorem d_Md_corner_31 : decode prog_8_method_31_code 31 = .ok (.ifCond .eq 16, 3) := zdt v_Md_corner_0 17 (q := (31, .ifCond .eq 16, 3)) rfl
theorem d_Md_corner_34 : decode prog_8_method_31_code 34 = .ok (.iload_n 2, 1) := zdt v_Md_corner_0 18 (q := (34, .iload_n 2, 1)) rfl
theorem d_Md_corner_35 : decode prog_8_method_31_code 35 = .ok (.aload_n 0, 1) := zdt v_Md_corner_0 19 (q := (35, .aload_n 0, 1)) rfl
theorem d_Md_corner_36 : decode prog_8_method_31_code 36 = .ok (.iload_n 1, 1) := zdt v_Md_corner_0 20 (q := (36, .iload_n 1, 1)) rfl
theorem d_Md_corner_37 : decode prog_8_method_31_code 37 = .ok (.invokevirtual 155, 3) := zdt v_Md_corner_0 21 (q := (37, .invokevirtual 155, 3)) rfl
theorem d_Md_corner_40 : decode prog_8_method_31_code 40 = .ok (.if_icmp .ge 7, 3) := zdt v_Md_corner_0 22 (q := (40, .if_icmp .ge 7, 3)) rfl
theorem d_Md_corner_43 : decode prog_8_method_31_code 43 = .ok (.iconst 0, 1) := zdt v_Md_corner_0 23 (q := (43, .iconst 0, 1)) rfl
theorem d_Md_corner_44 : decode prog_8_method_31_code 44 = .ok (.goto 4, 3) := zdt v_Md_corner_0 24 (q := (44, .goto 4, 3)) rfl
theorem d_Md_corner_47 : decode prog_8_method_31_code 47 = .ok (.iconst 1, 1) := zdt v_Md_corner_0 25 (q := (47, .iconst 1, 1)) rfl
theorem d_Md_corner_48 : decode prog_8_method_31_code 48 = .ok (.putfield 75, 3) := zdt v_Md_corner_0 26 (q := (48, .putfield 75, 3)) rfl
theorem d_Md_corner_51 : decode prog_8_method_31_code 51 = .ok (.aload_n 0, 1) := zdt v_Md_corner_0 27 (q := (51, .aload_n 0, 1)) rfl
theorem d_Md_corner_52 : decode prog_8_method_31_code 52 = .ok (.getfield 75, 3) := zdt v_Md_corner_0 28 (q := (52, .getfield 75, 3)) rfl
theorem d_Md_corner_55 : decode prog_8_method_31_code 55 = .ok (.ifCond .le 5, 3) := zdt v_Md_corner_0 29 (q := (55, .ifCond .le 5, 3)) rfl
theorem d_Md_corner_58 : decode prog_8_method_31_code 58 = .ok (.iconst 0, 1) := zdt v_Md_corner_0 30 (q := (58, .iconst 0, 1)) rfl
theorem d_Md_corner_59 : decode prog_8_method_31_code 59 = .ok (.ireturn, 1) := zdt v_Md_corner_0 31 (q := (59, .ireturn, 1)) rfl
theorem d_Md_corner_60 : decode prog_8_method_31_code 60 = .ok (.iload_n 2, 1) := zdt v_Md_corner_0 32 (q := (60, .iload_n 2, 1)) rfl
theorem d_Md_corner_61 : decode prog_8_method_31_code 61 = .ok (.istore 5, 2) := zdt v_Md_corner_0 33 (q := (61, .istore 5, 2)) rfl
theorem d_Md_corner_63 : decode prog_8_method_31_code 63 = .ok (.iconst 0, 1) := zdt v_Md_corner_0 34 (q := (63, .iconst 0, 1)) rfl
theorem d_Md_corner_64 : decode prog_8_method_31_code 64 = .ok (.istore 6, 2) := zdt v_Md_corner_0 35 (q := (64, .istore 6, 2)) rfl
theorem d_Md_corner_66 : decode prog_8_method_31_code 66 = .ok (.iload 5, 2) := zdt v_Md_corner_0 36 (q := (66, .iload 5, 2)) rfl
theorem d_Md_corner_68 : decode prog_8_method_31_code 68 = .ok (.ifCond .gt 18, 3) := zdt v_Md_corner_0 37 (q := (68, .ifCond .gt 18, 3)) rfl
theorem d_Md_corner_71 : decode prog_8_method_31_code 71 = .ok (.aload_n 0, 1) := zdt v_Md_corner_0 38 (q := (71, .aload_n 0, 1)) rfl
theorem d_Md_corner_72 : decode prog_8_method_31_code 72 = .ok (.iload 6, 2) := zdt v_Md_corner_0 39 (q := (72, .iload 6, 2)) rfl
def u_Md_corner_1 : List (Nat × Instr × Nat) := [(74, .aload_n 0, 1), (75, .getfield 41, 3), (78, .iload_n 1, 1), (79, .iaload, 1), (80, .invokevirtual 127, 3), (83, .ifCond .ne 35, 3), (86, .aload_n 0, 1), (87, .iload 6, 2), (89, .aload_n 0, 1), (90, .getfield 41, 3), (93, .iload_n 1, 1), (94, .iaload, 1), (95, .invokevirtual 127, 3), (98, .ifCond .eq 10, 3), (101, .iload 5, 2), (103, .iconst 1, 1), (104, .isub, 1), (105, .goto 5, 3), (108, .iload 5, 2), (110, .istore 5, 2), (112, .iinc 6 1, 3), (115, .goto (-49), 3), (118, .aload_n 0, 1), (119, .getfield 26, 3), (122, .iconst 4, 1), (123, .iload 6, 2), (125, .imul, 1), (126, .iload_n 3, 1), (127, .iadd, 1), (128, .iaload, 1), (129, .ireturn, 1)]
theorem v_Md_corner_1 : u_Md_corner_1.all (zdq prog_8_method_31_code) = true := by decide +kernel
theorem d_Md_corner_74 : decode prog_8_method_31_code 74 = .ok (.aload_n 0, 1) := zdt v_Md_corner_1 0 (q := (74, .aload_n 0, 1)) rfl
theorem d_Md_corner_75 : decode prog_8_method_31_code 75 = .ok (.getfield 41, 3) := zdt v_Md_corner_1 1 (q := (75, .getfield 41, 3)) rfl
theorem d_Md_corner_78 : decode prog_8_method_31_code 78 = .ok (.iload_n 1, 1) := zdt v_Md_corner_1 2 (q := (78, .iload_n 1, 1)) rfl
theorem d_Md_corner_79 : decode prog_8_method_31_code 79 = .ok (.iaload, 1) := zdt v_Md_corner_1 3 (q := (79, .iaload, 1)) rfl
theorem d_Md_corner_80 : decode prog_8_method_31_code 80 = .ok (.invokevirtual 127, 3) := zdt v_Md_corner_1 4 (q := (80, .invokevirtual 127, 3)) rfl
theorem d_Md_corner_83 : decode prog_8_method_31_code 83 = .ok (.ifCond .ne 35, 3) := zdt v_Md_corner_1 5 (q := (83, .ifCond .ne 35, 3)) rfl
theorem d_Md_corner_86 : decode prog_8_method_31_code 86 = .ok (.aload_n 0, 1) := zdt v_Md_corner_1 6 (q := (86, .aload_n 0, 1)) rfl
theorem d_Md_corner_87 : decode prog_8_method_31_code 87 = .ok (.iload 6, 2) := zdt v_Md_corner_1 7 (q := (87, .iload 6, 2)) rfl
theorem d_Md_corner_89 : decode prog_8_method_31_code 89 = .ok (.aload_n 0, 1) := zdt v_Md_corner_1 8 (q := (89, .aload_n 0, 1)) rfl
theorem d_Md_corner_90 : decode prog_8_method_31_code 90 = .ok (.getfield 41, 3) := zdt v_Md_corner_1 9 (q := (90, .getfield 41, 3)) rfl
theorem d_Md_corner_93 : decode prog_8_method_31_code 93 = .ok (.iload_n 1, 1) := zdt v_Md_corner_1 10 (q := (93, .iload_n 1, 1)) rfl
theorem d_Md_corner_94 : decode prog_8_method_31_code 94 = .ok (.iaload, 1) := zdt v_Md_corner_1 11 (q := (94, .iaload, 1)) rfl
theorem d_Md_corner_95 : decode prog_8_method_31_code 95 = .ok (.invokevirtual 127, 3) := zdt v_Md_corner_1 12 (q := (95, .invokevirtual 127, 3)) rfl
theorem d_Md_corner_98 : decode prog_8_method_31_code 98 = .ok (.ifCond .eq 10, 3) := zdt v_Md_corner_1 13 (q := (98, .ifCond .eq 10, 3)) rfl
theorem d_Md_corner_101 : decode prog_8_method_31_code 101 = .ok (.iload 5, 2) := zdt v_Md_corner_1 14 (q := (101, .iload 5, 2)) rfl
theorem d_Md_corner_103 : decode prog_8_method_31_code 103 = .ok (.iconst 1, 1) := zdt v_Md_corner_1 15 (q := (103, .iconst 1, 1)) rfl
theorem d_Md_corner_104 : decode prog_8_method_31_code 104 = .ok (.isub, 1) := zdt v_Md_corner_1 16 (q := (104, .isub, 1)) rfl
theorem d_Md_corner_105 : decode prog_8_method_31_code 105 = .ok (.goto 5, 3) := zdt v_Md_corner_1 17 (q := (105, .goto 5, 3)) rfl
theorem d_Md_corner_108 : decode prog_8_method_31_code 108 = .ok (.iload 5, 2) := zdt v_Md_corner_1 18 (q := (108, .iload 5, 2)) rfl
theorem d_Md_corner_110 : decode prog_8_method_31_code 110 = .ok (.istore 5, 2) := zdt v_Md_corner_1 19 (q := (110, .istore 5, 2)) rfl
theorem d_Md_corner_112 : decode prog_8_method_31_code 112 = .ok (.iinc 6 1, 3) := zdt v_Md_corner_1 20 (q := (112, .iinc 6 1, 3)) rfl
theorem d_Md_corner_115 : decode prog_8_method_31_code 115 = .ok (.goto (-49), 3) := zdt v_Md_corner_1 21 (q := (115, .goto (-49), 3)) rfl
theorem d_Md_corner_118 : decode prog_8_method_31_code 118 = .ok (.aload_n 0, 1) := zdt v_Md_corner_1 22 (q := (118, .aload_n 0, 1)) rfl
theorem d_Md_corner_119 : decode prog_8_method_31_code 119 = .ok (.getfield 26, 3) := zdt v_Md_corner_1 23 (q := (119, .getfield 26, 3)) rfl
theorem d_Md_corner_122 : decode prog_8_method_31_code 122 = .ok (.iconst 4, 1) := zdt v_Md_corner_1 24 (q := (122, .iconst 4, 1)) rfl
theorem d_Md_corner_123 : decode prog_8_method_31_code 123 = .ok (.iload 6, 2) := zdt v_Md_corner_1 25 (q := (123, .iload 6, 2)) rfl
theorem d_Md_corner_125 : decode prog_8_method_31_code 125 = .ok (.imul, 1) := zdt v_Md_corner_1 26 (q := (125, .imul, 1)) rfl
theorem d_Md_corner_126 : decode prog_8_method_31_code 126 = .ok (.iload_n 3, 1) := zdt v_Md_corner_1 27 (q := (126, .iload_n 3, 1)) rfl
theorem d_Md_corner_127 : decode prog_8_method_31_code 127 = .ok (.iadd, 1) := zdt v_Md_corner_1 28 (q := (127, .iadd, 1)) rfl
theorem d_Md_corner_128 : decode prog_8_method_31_code 128 = .ok (.iaload, 1) := zdt v_Md_corner_1 29 (q := (128, .iaload, 1)) rfl
theorem d_Md_corner_129 : decode prog_8_method_31_code 129 = .ok (.ireturn, 1) := zdt v_Md_corner_1 30 (q := (129, .ireturn, 1)) rfl
def u_Md_find_0 : List (Nat × Instr × Nat) := [(0, .aload_n 0, 1), (1, .iconst 0, 1), (2, .putfield 75, 3), (5, .iconst 0, 1), (6, .istore_n 2, 1), (7, .iload_n 2, 1), (8, .aload_n 0, 1), (9, .getfield 111, 3), (12, .if_icmp .ge 21, 3), (15, .aload_n 0, 1), (16, .getfield 41, 3), (19, .iload_n 2, 1), (20, .iaload, 1), (21, .iload_n 1, 1), (22, .if_icmp .ne 5, 3), (25, .iload_n 2, 1), (26, .ireturn, 1), (27, .iinc 2 1, 3), (30, .goto (-23), 3), (33, .iconst (-1), 1), (34, .ireturn, 1)]
theorem v_Md_find_0 : u_Md_find_0.all (zdq prog_8_method_32_code) = true := by decide +kernel
theorem d_Md_find_0 : decode prog_8_method_32_code 0 = .ok (.aload_n 0, 1) := zdt v_Md_find_0 0 (q := (0, .aload_n 0, 1)) rfl
theorem d_Md_find_1 : decode prog_8_method_32_code 1 = .ok (.iconst 0, 1) := zdt v_Md_find_0 1 (q := (1, .iconst 0, 1)) rfl
theorem d_Md_find_2 : decode prog_8_method_32_code 2 = .ok (.putfield 75, 3) := zdt v_Md_find_0 2 (q := (2, .putfield 75, 3)) rfl
theorem d_Md_find_5 : decode prog_8_method_32_code 5 = .ok (.iconst 0, 1) := zdt v_Md_find_0 3 (q := (5, .iconst 0, 1)) rfl
theorem d_Md_find_6 : decode prog_8_method_32_code 6 = .ok (.istore_n 2, 1) := zdt v_Md_find_0 4 (q := (6, .istore_n 2, 1)) rfl
theorem d_Md_find_7 : decode prog_8_method_32_code 7 = .ok (.iload_n 2, 1) := zdt v_Md_find_0 5 (q := (7, .iload_n 2, 1)) rfl
theorem d_Md_find_8 : decode prog_8_method_32_code 8 = .ok (.aload_n 0, 1) := zdt v_Md_find_0 6 (q := (8, .aload_n 0, 1)) rfl
theorem d_Md_find_9 : decode prog_8_method_32_code 9 = .ok (.getfield 111, 3) := zdt v_Md_find_0 7 (q := (9, .getfield 111, 3)) rfl
theorem d_Md_find_12 : decode prog_8_method_32_code 12 = .ok (.if_icmp .ge 21, 3) := zdt v_Md_find_0 8 (q := (12, .if_icmp .ge 21, 3)) rfl
theorem d_Md_find_15 : decode prog_8_method_32_code 15 = .ok (.aload_n 0, 1) := zdt v_Md_find_0 9 (q := (15, .aload_n 0, 1)) rfl
theorem d_Md_find_16 : decode prog_8_method_32_code 16 = .ok (.getfield 41, 3) := zdt v_Md_find_0 10 (q := (16, .getfield 41, 3)) rfl
theorem d_Md_find_19 : decode prog_8_method_32_code 19 = .ok (.iload_n 2, 1) := zdt v_Md_find_0 11 (q := (19, .iload_n 2, 1)) rfl
theorem d_Md_find_20 : decode prog_8_method_32_code 20 = .ok (.iaload, 1) := zdt v_Md_find_0 12 (q := (20, .iaload, 1)) rfl
theorem d_Md_find_21 : decode prog_8_method_32_code 21 = .ok (.iload_n 1, 1) := zdt v_Md_find_0 13 (q := (21, .iload_n 1, 1)) rfl
theorem d_Md_find_22 : decode prog_8_method_32_code 22 = .ok (.if_icmp .ne 5, 3) := zdt v_Md_find_0 14 (q := (22, .if_icmp .ne 5, 3)) rfl
theorem d_Md_find_25 : decode prog_8_method_32_code 25 = .ok (.iload_n 2, 1) := zdt v_Md_find_0 15 (q := (25, .iload_n 2, 1)) rfl
theorem d_Md_find_26 : decode prog_8_method_32_code 26 = .ok (.ireturn, 1) := zdt v_Md_find_0 16 (q := (26, .ireturn, 1)) rfl
theorem d_Md_find_27 : decode prog_8_method_32_code 27 = .ok (.iinc 2 1, 3) := zdt v_Md_find_0 17 (q := (27, .iinc 2 1, 3)) rfl
theorem d_Md_find_30 : decode prog_8_method_32_code 30 = .ok (.goto (-23), 3) := zdt v_Md_find_0 18 (q := (30, .goto (-23), 3)) rfl
theorem d_Md_find_33 : decode prog_8_method_32_code 33 = .ok (.iconst (-1), 1) := zdt v_Md_find_0 19 (q := (33, .iconst (-1), 1)) rfl
theorem d_Md_find_34 : decode prog_8_method_32_code 34 = .ok (.ireturn, 1) := zdt v_Md_find_0 20 (q := (34, .ireturn, 1)) rfl
def u_Md_beside_0 : List (Nat × Instr × Nat) := [(0, .aload_n 0, 1), (1, .aload_n 0, 1), (2, .iload_n 1, 1), (3, .invokevirtual 152, 3), (6, .ifCond .eq 21, 3), (9, .iload_n 2, 1), (10, .iconst 0, 1), (11, .aload_n 0, 1), (12, .getfield 83, 3), (15, .iconst 1, 1), (16, .isub, 1), (17, .invokestatic 131, 3), (20, .ifCond .eq 7, 3), (23, .iconst 0, 1), (24, .goto 4, 3), (27, .iconst 1, 1), (28, .putfield 75, 3), (31, .aload_n 0, 1), (32, .getfield 75, 3), (35, .ifCond .le 5, 3), (38, .iconst 0, 1), (39, .ireturn, 1), (40, .aload_n 0, 1), (41, .iload_n 1, 1), (42, .iload_n 2, 1), (43, .invokevirtual 161, 3), (46, .ifCond .eq 20, 3), (49, .aload_n 0, 1), (50, .aload_n 0, 1), (51, .getfield 41, 3), (54, .iload_n 1, 1), (55, .iaload, 1), (56, .iconst 1, 1), (57, .iload_n 2, 1), (58, .ishl, 1), (59, .ixor, 1), (60, .invokevirtual 164, 3), (63, .goto 4, 3), (66, .iconst (-1), 1), (67, .ireturn, 1)]
theorem v_Md_beside_0 : u_Md_beside_0.all (zdq prog_8_method_34_code) = true := by decide +kernel
theorem d_Md_beside_0 : decode prog_8_method_34_code 0 = .ok (.aload_n 0, 1) := zdt v_Md_beside_0 0 (q := (0, .aload_n 0, 1)) rfl
theorem d_Md_beside_1 : decode prog_8_method_34_code 1 = .ok (.aload_n 0, 1) := zdt v_Md_beside_0 1 (q := (1, .aload_n 0, 1)) rfl
theorem d_Md_beside_2 : decode prog_8_method_34_code 2 = .ok (.iload_n 1, 1) := zdt v_Md_beside_0 2 (q := (2, .iload_n 1, 1)) rfl
theorem d_Md_beside_3 : decode prog_8_method_34_code 3 = .ok (.invokevirtual 152, 3) := zdt v_Md_beside_0 3 (q := (3, .invokevirtual 152, 3)) rfl
theorem d_Md_beside_6 : decode prog_8_method_34_code 6 = .ok (.ifCond .eq 21, 3) := zdt v_Md_beside_0 4 (q := (6, .ifCond .eq 21, 3)) rfl
theorem d_Md_beside_9 : decode prog_8_method_34_code 9 = .ok (.iload_n 2, 1) := zdt v_Md_beside_0 5 (q := (9, .iload_n 2, 1)) rfl
theorem d_Md_beside_10 : decode prog_8_method_34_code 10 = .ok (.iconst 0, 1) := zdt v_Md_beside_0 6 (q := (10, .iconst 0, 1)) rfl
theorem d_Md_beside_11 : decode prog_8_method_34_code 11 = .ok (.aload_n 0, 1) := zdt v_Md_beside_0 7 (q := (11, .aload_n 0, 1)) rfl
theorem d_Md_beside_12 : decode prog_8_method_34_code 12 = .ok (.getfield 83, 3) := zdt v_Md_beside_0 8 (q := (12, .getfield 83, 3)) rfl
theorem d_Md_beside_15 : decode prog_8_method_34_code 15 = .ok (.iconst 1, 1) := zdt v_Md_beside_0 9 (q := (15, .iconst 1, 1)) rfl
theorem d_Md_beside_16 : decode prog_8_method_34_code 16 = .ok (.isub, 1) := zdt v_Md_beside_0 10 (q := (16, .isub, 1)) rfl
theorem d_Md_beside_17 : decode prog_8_method_34_code 17 = .ok (.invokestatic 131, 3) := zdt v_Md_beside_0 11 (q := (17, .invokestatic 131, 3)) rfl
theorem d_Md_beside_20 : decode prog_8_method_34_code 20 = .ok (.ifCond .eq 7, 3) := zdt v_Md_beside_0 12 (q := (20, .ifCond .eq 7, 3)) rfl
theorem d_Md_beside_23 : decode prog_8_method_34_code 23 = .ok (.iconst 0, 1) := zdt v_Md_beside_0 13 (q := (23, .iconst 0, 1)) rfl
theorem d_Md_beside_24 : decode prog_8_method_34_code 24 = .ok (.goto 4, 3) := zdt v_Md_beside_0 14 (q := (24, .goto 4, 3)) rfl
theorem d_Md_beside_27 : decode prog_8_method_34_code 27 = .ok (.iconst 1, 1) := zdt v_Md_beside_0 15 (q := (27, .iconst 1, 1)) rfl
theorem d_Md_beside_28 : decode prog_8_method_34_code 28 = .ok (.putfield 75, 3) := zdt v_Md_beside_0 16 (q := (28, .putfield 75, 3)) rfl
theorem d_Md_beside_31 : decode prog_8_method_34_code 31 = .ok (.aload_n 0, 1) := zdt v_Md_beside_0 17 (q := (31, .aload_n 0, 1)) rfl
theorem d_Md_beside_32 : decode prog_8_method_34_code 32 = .ok (.getfield 75, 3) := zdt v_Md_beside_0 18 (q := (32, .getfield 75, 3)) rfl
theorem d_Md_beside_35 : decode prog_8_method_34_code 35 = .ok (.ifCond .le 5, 3) := zdt v_Md_beside_0 19 (q := (35, .ifCond .le 5, 3)) rfl
theorem d_Md_beside_38 : decode prog_8_method_34_code 38 = .ok (.iconst 0, 1) := zdt v_Md_beside_0 20 (q := (38, .iconst 0, 1)) rfl
theorem d_Md_beside_39 : decode prog_8_method_34_code 39 = .ok (.ireturn, 1) := zdt v_Md_beside_0 21 (q := (39, .ireturn, 1)) rfl
theorem d_Md_beside_40 : decode prog_8_method_34_code 40 = .ok (.aload_n 0, 1) := zdt v_Md_beside_0 22 (q := (40, .aload_n 0, 1)) rfl
theorem d_Md_beside_41 : decode prog_8_method_34_code 41 = .ok (.iload_n 1, 1) := zdt v_Md_beside_0 23 (q := (41, .iload_n 1, 1)) rfl
theorem d_Md_beside_42 : decode prog_8_method_34_code 42 = .ok (.iload_n 2, 1) := zdt v_Md_beside_0 24 (q := (42, .iload_n 2, 1)) rfl
theorem d_Md_beside_43 : decode prog_8_method_34_code 43 = .ok (.invokevirtual 161, 3) := zdt v_Md_beside_0 25 (q := (43, .invokevirtual 161, 3)) rfl
theorem d_Md_beside_46 : decode prog_8_method_34_code 46 = .ok (.ifCond .eq 20, 3) := zdt v_Md_beside_0 26 (q := (46, .ifCond .eq 20, 3)) rfl
theorem d_Md_beside_49 : decode prog_8_method_34_code 49 = .ok (.aload_n 0, 1) := zdt v_Md_beside_0 27 (q := (49, .aload_n 0, 1)) rfl
theorem d_Md_beside_50 : decode prog_8_method_34_code 50 = .ok (.aload_n 0, 1) := zdt v_Md_beside_0 28 (q := (50, .aload_n 0, 1)) rfl
theorem d_Md_beside_51 : decode prog_8_method_34_code 51 = .ok (.getfield 41, 3) := zdt v_Md_beside_0 29 (q := (51, .getfield 41, 3)) rfl
theorem d_Md_beside_54 : decode prog_8_method_34_code 54 = .ok (.iload_n 1, 1) := zdt v_Md_beside_0 30 (q := (54, .iload_n 1, 1)) rfl
theorem d_Md_beside_55 : decode prog_8_method_34_code 55 = .ok (.iaload, 1) := zdt v_Md_beside_0 31 (q := (55, .iaload, 1)) rfl
theorem d_Md_beside_56 : decode prog_8_method_34_code 56 = .ok (.iconst 1, 1) := zdt v_Md_beside_0 32 (q := (56, .iconst 1, 1)) rfl
theorem d_Md_beside_57 : decode prog_8_method_34_code 57 = .ok (.iload_n 2, 1) := zdt v_Md_beside_0 33 (q := (57, .iload_n 2, 1)) rfl
theorem d_Md_beside_58 : decode prog_8_method_34_code 58 = .ok (.ishl, 1) := zdt v_Md_beside_0 34 (q := (58, .ishl, 1)) rfl
theorem d_Md_beside_59 : decode prog_8_method_34_code 59 = .ok (.ixor, 1) := zdt v_Md_beside_0 35 (q := (59, .ixor, 1)) rfl
theorem d_Md_beside_60 : decode prog_8_method_34_code 60 = .ok (.invokevirtual 164, 3) := zdt v_Md_beside_0 36 (q := (60, .invokevirtual 164, 3)) rfl
theorem d_Md_beside_63 : decode prog_8_method_34_code 63 = .ok (.goto 4, 3) := zdt v_Md_beside_0 37 (q := (63, .goto 4, 3)) rfl
theorem d_Md_beside_66 : decode prog_8_method_34_code 66 = .ok (.iconst (-1), 1) := zdt v_Md_beside_0 38 (q := (66, .iconst (-1), 1)) rfl
theorem d_Md_beside_67 : decode prog_8_method_34_code 67 = .ok (.ireturn, 1) := zdt v_Md_beside_0 39 (q := (67, .ireturn, 1)) rfl
def u_Md_isFace_0 : List (Nat × Instr × Nat) := [(0, .aload_n 0, 1), (1, .getfield 44, 3), (4, .iload_n 1, 1), (5, .iaload, 1), (6, .iload_n 2, 1), (7, .ishr, 1), (8, .iconst 1, 1), (9, .iand, 1), (10, .iconst 1, 1), (11, .if_icmp .ne 7, 3), (14, .iconst 1, 1), (15, .goto 4, 3), (18, .iconst 0, 1), (19, .ireturn, 1)]
theorem v_Md_isFace_0 : u_Md_isFace_0.all (zdq prog_8_method_33_code) = true := by decide +kernel
theorem d_Md_isFace_0 : decode prog_8_method_33_code 0 = .ok (.aload_n 0, 1) := zdt v_Md_isFace_0 0 (q := (0, .aload_n 0, 1)) rfl
theorem d_Md_isFace_1 : decode prog_8_method_33_code 1 = .ok (.getfield 44, 3) := zdt v_Md_isFace_0 1 (q := (1, .getfield 44, 3)) rfl
theorem d_Md_isFace_4 : decode prog_8_method_33_code 4 = .ok (.iload_n 1, 1) := zdt v_Md_isFace_0 2 (q := (4, .iload_n 1, 1)) rfl
theorem d_Md_isFace_5 : decode prog_8_method_33_code 5 = .ok (.iaload, 1) := zdt v_Md_isFace_0 3 (q := (5, .iaload, 1)) rfl
theorem d_Md_isFace_6 : decode prog_8_method_33_code 6 = .ok (.iload_n 2, 1) := zdt v_Md_isFace_0 4 (q := (6, .iload_n 2, 1)) rfl
theorem d_Md_isFace_7 : decode prog_8_method_33_code 7 = .ok (.ishr, 1) := zdt v_Md_isFace_0 5 (q := (7, .ishr, 1)) rfl
theorem d_Md_isFace_8 : decode prog_8_method_33_code 8 = .ok (.iconst 1, 1) := zdt v_Md_isFace_0 6 (q := (8, .iconst 1, 1)) rfl
theorem d_Md_isFace_9 : decode prog_8_method_33_code 9 = .ok (.iand, 1) := zdt v_Md_isFace_0 7 (q := (9, .iand, 1)) rfl
theorem d_Md_isFace_10 : decode prog_8_method_33_code 10 = .ok (.iconst 1, 1) := zdt v_Md_isFace_0 8 (q := (10, .iconst 1, 1)) rfl
theorem d_Md_isFace_11 : decode prog_8_method_33_code 11 = .ok (.if_icmp .ne 7, 3) := zdt v_Md_isFace_0 9 (q := (11, .if_icmp .ne 7, 3)) rfl
theorem d_Md_isFace_14 : decode prog_8_method_33_code 14 = .ok (.iconst 1, 1) := zdt v_Md_isFace_0 10 (q := (14, .iconst 1, 1)) rfl
theorem d_Md_isFace_15 : decode prog_8_method_33_code 15 = .ok (.goto 4, 3) := zdt v_Md_isFace_0 11 (q := (15, .goto 4, 3)) rfl
theorem d_Md_isFace_18 : decode prog_8_method_33_code 18 = .ok (.iconst 0, 1) := zdt v_Md_isFace_0 12 (q := (18, .iconst 0, 1)) rfl
theorem d_Md_isFace_19 : decode prog_8_method_33_code 19 = .ok (.ireturn, 1) := zdt v_Md_isFace_0 13 (q := (19, .ireturn, 1)) rfl
def u_Md_goes_0 : List (Nat × Instr × Nat) := [(0, .aload_n 0, 1), (1, .aload_n 0, 1), (2, .iload_n 1, 1), (3, .invokevirtual 152, 3), (6, .ifCond .eq 21, 3), (9, .iload_n 2, 1), (10, .iconst 0, 1), (11, .aload_n 0, 1), (12, .getfield 146, 3), (15, .iconst 1, 1), (16, .isub, 1), (17, .invokestatic 131, 3), (20, .ifCond .eq 7, 3), (23, .iconst 0, 1), (24, .goto 4, 3), (27, .iconst 1, 1), (28, .putfield 75, 3), (31, .aload_n 0, 1), (32, .getfield 75, 3), (35, .ifCond .ne 16, 3), (38, .aload_n 0, 1), (39, .iload_n 1, 1), (40, .iload_n 2, 1), (41, .invokevirtual 181, 3), (44, .ifCond .eq 7, 3), (47, .iconst 1, 1), (48, .goto 4, 3), (51, .iconst 0, 1), (52, .ireturn, 1)]
theorem v_Md_goes_0 : u_Md_goes_0.all (zdq prog_8_method_40_code) = true := by decide +kernel
theorem d_Md_goes_0 : decode prog_8_method_40_code 0 = .ok (.aload_n 0, 1) := zdt v_Md_goes_0 0 (q := (0, .aload_n 0, 1)) rfl
theorem d_Md_goes_1 : decode prog_8_method_40_code 1 = .ok (.aload_n 0, 1) := zdt v_Md_goes_0 1 (q := (1, .aload_n 0, 1)) rfl
theorem d_Md_goes_2 : decode prog_8_method_40_code 2 = .ok (.iload_n 1, 1) := zdt v_Md_goes_0 2 (q := (2, .iload_n 1, 1)) rfl
theorem d_Md_goes_3 : decode prog_8_method_40_code 3 = .ok (.invokevirtual 152, 3) := zdt v_Md_goes_0 3 (q := (3, .invokevirtual 152, 3)) rfl
theorem d_Md_goes_6 : decode prog_8_method_40_code 6 = .ok (.ifCond .eq 21, 3) := zdt v_Md_goes_0 4 (q := (6, .ifCond .eq 21, 3)) rfl
theorem d_Md_goes_9 : decode prog_8_method_40_code 9 = .ok (.iload_n 2, 1) := zdt v_Md_goes_0 5 (q := (9, .iload_n 2, 1)) rfl
theorem d_Md_goes_10 : decode prog_8_method_40_code 10 = .ok (.iconst 0, 1) := zdt v_Md_goes_0 6 (q := (10, .iconst 0, 1)) rfl
theorem d_Md_goes_11 : decode prog_8_method_40_code 11 = .ok (.aload_n 0, 1) := zdt v_Md_goes_0 7 (q := (11, .aload_n 0, 1)) rfl
theorem d_Md_goes_12 : decode prog_8_method_40_code 12 = .ok (.getfield 146, 3) := zdt v_Md_goes_0 8 (q := (12, .getfield 146, 3)) rfl
theorem d_Md_goes_15 : decode prog_8_method_40_code 15 = .ok (.iconst 1, 1) := zdt v_Md_goes_0 9 (q := (15, .iconst 1, 1)) rfl
theorem d_Md_goes_16 : decode prog_8_method_40_code 16 = .ok (.isub, 1) := zdt v_Md_goes_0 10 (q := (16, .isub, 1)) rfl
theorem d_Md_goes_17 : decode prog_8_method_40_code 17 = .ok (.invokestatic 131, 3) := zdt v_Md_goes_0 11 (q := (17, .invokestatic 131, 3)) rfl
theorem d_Md_goes_20 : decode prog_8_method_40_code 20 = .ok (.ifCond .eq 7, 3) := zdt v_Md_goes_0 12 (q := (20, .ifCond .eq 7, 3)) rfl
theorem d_Md_goes_23 : decode prog_8_method_40_code 23 = .ok (.iconst 0, 1) := zdt v_Md_goes_0 13 (q := (23, .iconst 0, 1)) rfl
theorem d_Md_goes_24 : decode prog_8_method_40_code 24 = .ok (.goto 4, 3) := zdt v_Md_goes_0 14 (q := (24, .goto 4, 3)) rfl
theorem d_Md_goes_27 : decode prog_8_method_40_code 27 = .ok (.iconst 1, 1) := zdt v_Md_goes_0 15 (q := (27, .iconst 1, 1)) rfl
theorem d_Md_goes_28 : decode prog_8_method_40_code 28 = .ok (.putfield 75, 3) := zdt v_Md_goes_0 16 (q := (28, .putfield 75, 3)) rfl
theorem d_Md_goes_31 : decode prog_8_method_40_code 31 = .ok (.aload_n 0, 1) := zdt v_Md_goes_0 17 (q := (31, .aload_n 0, 1)) rfl
theorem d_Md_goes_32 : decode prog_8_method_40_code 32 = .ok (.getfield 75, 3) := zdt v_Md_goes_0 18 (q := (32, .getfield 75, 3)) rfl
theorem d_Md_goes_35 : decode prog_8_method_40_code 35 = .ok (.ifCond .ne 16, 3) := zdt v_Md_goes_0 19 (q := (35, .ifCond .ne 16, 3)) rfl
theorem d_Md_goes_38 : decode prog_8_method_40_code 38 = .ok (.aload_n 0, 1) := zdt v_Md_goes_0 20 (q := (38, .aload_n 0, 1)) rfl
theorem d_Md_goes_39 : decode prog_8_method_40_code 39 = .ok (.iload_n 1, 1) := zdt v_Md_goes_0 21 (q := (39, .iload_n 1, 1)) rfl
theorem d_Md_goes_40 : decode prog_8_method_40_code 40 = .ok (.iload_n 2, 1) := zdt v_Md_goes_0 22 (q := (40, .iload_n 2, 1)) rfl
theorem d_Md_goes_41 : decode prog_8_method_40_code 41 = .ok (.invokevirtual 181, 3) := zdt v_Md_goes_0 23 (q := (41, .invokevirtual 181, 3)) rfl
theorem d_Md_goes_44 : decode prog_8_method_40_code 44 = .ok (.ifCond .eq 7, 3) := zdt v_Md_goes_0 24 (q := (44, .ifCond .eq 7, 3)) rfl
theorem d_Md_goes_47 : decode prog_8_method_40_code 47 = .ok (.iconst 1, 1) := zdt v_Md_goes_0 25 (q := (47, .iconst 1, 1)) rfl
theorem d_Md_goes_48 : decode prog_8_method_40_code 48 = .ok (.goto 4, 3) := zdt v_Md_goes_0 26 (q := (48, .goto 4, 3)) rfl
theorem d_Md_goes_51 : decode prog_8_method_40_code 51 = .ok (.iconst 0, 1) := zdt v_Md_goes_0 27 (q := (51, .iconst 0, 1)) rfl
theorem d_Md_goes_52 : decode prog_8_method_40_code 52 = .ok (.ireturn, 1) := zdt v_Md_goes_0 28 (q := (52, .ireturn, 1)) rfl
def u_Md_canGoBy_0 : List (Nat × Instr × Nat) := [(0, .iconst 0, 1), (1, .istore_n 3, 1), (2, .iload_n 3, 1), (3, .iconst 3, 1), (4, .if_icmp .ge 25, 3), (7, .aload_n 0, 1), (8, .getfield 62, 3), (11, .iload_n 3, 1), (12, .aload_n 0, 1), (13, .getfield 20, 3), (16, .iconst 3, 1), (17, .iload_n 2, 1), (18, .imul, 1), (19, .iload_n 3, 1), (20, .iadd, 1), (21, .iaload, 1), (22, .iastore, 1), (23, .iinc 3 1, 3), (26, .goto (-24), 3), (29, .aload_n 0, 1), (30, .iload_n 1, 1), (31, .invokevirtual 178, 3), (34, .ireturn, 1)]
theorem v_Md_canGoBy_0 : u_Md_canGoBy_0.all (zdq prog_8_method_39_code) = true := by decide +kernel
theorem d_Md_canGoBy_0 : decode prog_8_method_39_code 0 = .ok (.iconst 0, 1) := zdt v_Md_canGoBy_0 0 (q := (0, .iconst 0, 1)) rfl
theorem d_Md_canGoBy_1 : decode prog_8_method_39_code 1 = .ok (.istore_n 3, 1) := zdt v_Md_canGoBy_0 1 (q := (1, .istore_n 3, 1)) rfl
theorem d_Md_canGoBy_2 : decode prog_8_method_39_code 2 = .ok (.iload_n 3, 1) := zdt v_Md_canGoBy_0 2 (q := (2, .iload_n 3, 1)) rfl
theorem d_Md_canGoBy_3 : decode prog_8_method_39_code 3 = .ok (.iconst 3, 1) := zdt v_Md_canGoBy_0 3 (q := (3, .iconst 3, 1)) rfl
theorem d_Md_canGoBy_4 : decode prog_8_method_39_code 4 = .ok (.if_icmp .ge 25, 3) := zdt v_Md_canGoBy_0 4 (q := (4, .if_icmp .ge 25, 3)) rfl
theorem d_Md_canGoBy_7 : decode prog_8_method_39_code 7 = .ok (.aload_n 0, 1) := zdt v_Md_canGoBy_0 5 (q := (7, .aload_n 0, 1)) rfl
theorem d_Md_canGoBy_8 : decode prog_8_method_39_code 8 = .ok (.getfield 62, 3) := zdt v_Md_canGoBy_0 6 (q := (8, .getfield 62, 3)) rfl
theorem d_Md_canGoBy_11 : decode prog_8_method_39_code 11 = .ok (.iload_n 3, 1) := zdt v_Md_canGoBy_0 7 (q := (11, .iload_n 3, 1)) rfl
theorem d_Md_canGoBy_12 : decode prog_8_method_39_code 12 = .ok (.aload_n 0, 1) := zdt v_Md_canGoBy_0 8 (q := (12, .aload_n 0, 1)) rfl
theorem d_Md_canGoBy_13 : decode prog_8_method_39_code 13 = .ok (.getfield 20, 3) := zdt v_Md_canGoBy_0 9 (q := (13, .getfield 20, 3)) rfl
theorem d_Md_canGoBy_16 : decode prog_8_method_39_code 16 = .ok (.iconst 3, 1) := zdt v_Md_canGoBy_0 10 (q := (16, .iconst 3, 1)) rfl
theorem d_Md_canGoBy_17 : decode prog_8_method_39_code 17 = .ok (.iload_n 2, 1) := zdt v_Md_canGoBy_0 11 (q := (17, .iload_n 2, 1)) rfl
theorem d_Md_canGoBy_18 : decode prog_8_method_39_code 18 = .ok (.imul, 1) := zdt v_Md_canGoBy_0 12 (q := (18, .imul, 1)) rfl
theorem d_Md_canGoBy_19 : decode prog_8_method_39_code 19 = .ok (.iload_n 3, 1) := zdt v_Md_canGoBy_0 13 (q := (19, .iload_n 3, 1)) rfl
theorem d_Md_canGoBy_20 : decode prog_8_method_39_code 20 = .ok (.iadd, 1) := zdt v_Md_canGoBy_0 14 (q := (20, .iadd, 1)) rfl
theorem d_Md_canGoBy_21 : decode prog_8_method_39_code 21 = .ok (.iaload, 1) := zdt v_Md_canGoBy_0 15 (q := (21, .iaload, 1)) rfl
theorem d_Md_canGoBy_22 : decode prog_8_method_39_code 22 = .ok (.iastore, 1) := zdt v_Md_canGoBy_0 16 (q := (22, .iastore, 1)) rfl
theorem d_Md_canGoBy_23 : decode prog_8_method_39_code 23 = .ok (.iinc 3 1, 3) := zdt v_Md_canGoBy_0 17 (q := (23, .iinc 3 1, 3)) rfl
theorem d_Md_canGoBy_26 : decode prog_8_method_39_code 26 = .ok (.goto (-24), 3) := zdt v_Md_canGoBy_0 18 (q := (26, .goto (-24), 3)) rfl
theorem d_Md_canGoBy_29 : decode prog_8_method_39_code 29 = .ok (.aload_n 0, 1) := zdt v_Md_canGoBy_0 19 (q := (29, .aload_n 0, 1)) rfl
theorem d_Md_canGoBy_30 : decode prog_8_method_39_code 30 = .ok (.iload_n 1, 1) := zdt v_Md_canGoBy_0 20 (q := (30, .iload_n 1, 1)) rfl
theorem d_Md_canGoBy_31 : decode prog_8_method_39_code 31 = .ok (.invokevirtual 178, 3) := zdt v_Md_canGoBy_0 21 (q := (31, .invokevirtual 178, 3)) rfl
theorem d_Md_canGoBy_34 : decode prog_8_method_39_code 34 = .ok (.ireturn, 1) := zdt v_Md_canGoBy_0 22 (q := (34, .ireturn, 1)) rfl
def u_Md_canGo_0 : List (Nat × Instr × Nat) := [(0, .aload_n 0, 1), (1, .getfield 47, 3), (4, .iload_n 1, 1), (5, .baload, 1), (6, .ifCond .ne 34, 3), (9, .aload_n 0, 1), (10, .getfield 62, 3), (13, .iconst 0, 1), (14, .iaload, 1), (15, .ifCond .ne 21, 3), (18, .aload_n 0, 1), (19, .getfield 62, 3), (22, .iconst 1, 1), (23, .iaload, 1), (24, .ifCond .ne 12, 3), (27, .aload_n 0, 1), (28, .getfield 62, 3), (31, .iconst 2, 1), (32, .iaload, 1), (33, .ifCond .eq 7, 3), (36, .iconst 1, 1), (37, .goto 4, 3), (40, .iconst 0, 1), (41, .istore_n 2, 1), (42, .iconst 0, 1), (43, .istore_n 3, 1), (44, .iload_n 3, 1), (45, .bipush 12, 2), (47, .if_icmp .ge 52, 3), (50, .iload_n 2, 1), (51, .ifCond .eq 48, 3), (54, .aload_n 0, 1), (55, .iload_n 1, 1), (56, .iload_n 3, 1), (57, .invokevirtual 167, 3), (60, .ifCond .eq 33, 3), (63, .aload_n 0, 1), (64, .iload_n 1, 1), (65, .iload_n 3, 1), (66, .aload_n 0, 1)]
theorem v_Md_canGo_0 : u_Md_canGo_0.all (zdq prog_8_method_38_code) = true := by decide +kernel
theorem d_Md_canGo_0 : decode prog_8_method_38_code 0 = .ok (.aload_n 0, 1) := zdt v_Md_canGo_0 0 (q := (0, .aload_n 0, 1)) rfl
theorem d_Md_canGo_1 : decode prog_8_method_38_code 1 = .ok (.getfield 47, 3) := zdt v_Md_canGo_0 1 (q := (1, .getfield 47, 3)) rfl
theorem d_Md_canGo_4 : decode prog_8_method_38_code 4 = .ok (.iload_n 1, 1) := zdt v_Md_canGo_0 2 (q := (4, .iload_n 1, 1)) rfl
theorem d_Md_canGo_5 : decode prog_8_method_38_code 5 = .ok (.baload, 1) := zdt v_Md_canGo_0 3 (q := (5, .baload, 1)) rfl
theorem d_Md_canGo_6 : decode prog_8_method_38_code 6 = .ok (.ifCond .ne 34, 3) := zdt v_Md_canGo_0 4 (q := (6, .ifCond .ne 34, 3)) rfl
theorem d_Md_canGo_9 : decode prog_8_method_38_code 9 = .ok (.aload_n 0, 1) := zdt v_Md_canGo_0 5 (q := (9, .aload_n 0, 1)) rfl
theorem d_Md_canGo_10 : decode prog_8_method_38_code 10 = .ok (.getfield 62, 3) := zdt v_Md_canGo_0 6 (q := (10, .getfield 62, 3)) rfl
theorem d_Md_canGo_13 : decode prog_8_method_38_code 13 = .ok (.iconst 0, 1) := zdt v_Md_canGo_0 7 (q := (13, .iconst 0, 1)) rfl
theorem d_Md_canGo_14 : decode prog_8_method_38_code 14 = .ok (.iaload, 1) := zdt v_Md_canGo_0 8 (q := (14, .iaload, 1)) rfl
theorem d_Md_canGo_15 : decode prog_8_method_38_code 15 = .ok (.ifCond .ne 21, 3) := zdt v_Md_canGo_0 9 (q := (15, .ifCond .ne 21, 3)) rfl
theorem d_Md_canGo_18 : decode prog_8_method_38_code 18 = .ok (.aload_n 0, 1) := zdt v_Md_canGo_0 10 (q := (18, .aload_n 0, 1)) rfl
theorem d_Md_canGo_19 : decode prog_8_method_38_code 19 = .ok (.getfield 62, 3) := zdt v_Md_canGo_0 11 (q := (19, .getfield 62, 3)) rfl
theorem d_Md_canGo_22 : decode prog_8_method_38_code 22 = .ok (.iconst 1, 1) := zdt v_Md_canGo_0 12 (q := (22, .iconst 1, 1)) rfl
theorem d_Md_canGo_23 : decode prog_8_method_38_code 23 = .ok (.iaload, 1) := zdt v_Md_canGo_0 13 (q := (23, .iaload, 1)) rfl
theorem d_Md_canGo_24 : decode prog_8_method_38_code 24 = .ok (.ifCond .ne 12, 3) := zdt v_Md_canGo_0 14 (q := (24, .ifCond .ne 12, 3)) rfl
theorem d_Md_canGo_27 : decode prog_8_method_38_code 27 = .ok (.aload_n 0, 1) := zdt v_Md_canGo_0 15 (q := (27, .aload_n 0, 1)) rfl
theorem d_Md_canGo_28 : decode prog_8_method_38_code 28 = .ok (.getfield 62, 3) := zdt v_Md_canGo_0 16 (q := (28, .getfield 62, 3)) rfl
theorem d_Md_canGo_31 : decode prog_8_method_38_code 31 = .ok (.iconst 2, 1) := zdt v_Md_canGo_0 17 (q := (31, .iconst 2, 1)) rfl
theorem d_Md_canGo_32 : decode prog_8_method_38_code 32 = .ok (.iaload, 1) := zdt v_Md_canGo_0 18 (q := (32, .iaload, 1)) rfl
theorem d_Md_canGo_33 : decode prog_8_method_38_code 33 = .ok (.ifCond .eq 7, 3) := zdt v_Md_canGo_0 19 (q := (33, .ifCond .eq 7, 3)) rfl
theorem d_Md_canGo_36 : decode prog_8_method_38_code 36 = .ok (.iconst 1, 1) := zdt v_Md_canGo_0 20 (q := (36, .iconst 1, 1)) rfl
theorem d_Md_canGo_37 : decode prog_8_method_38_code 37 = .ok (.goto 4, 3) := zdt v_Md_canGo_0 21 (q := (37, .goto 4, 3)) rfl
theorem d_Md_canGo_40 : decode prog_8_method_38_code 40 = .ok (.iconst 0, 1) := zdt v_Md_canGo_0 22 (q := (40, .iconst 0, 1)) rfl
theorem d_Md_canGo_41 : decode prog_8_method_38_code 41 = .ok (.istore_n 2, 1) := zdt v_Md_canGo_0 23 (q := (41, .istore_n 2, 1)) rfl
theorem d_Md_canGo_42 : decode prog_8_method_38_code 42 = .ok (.iconst 0, 1) := zdt v_Md_canGo_0 24 (q := (42, .iconst 0, 1)) rfl
theorem d_Md_canGo_43 : decode prog_8_method_38_code 43 = .ok (.istore_n 3, 1) := zdt v_Md_canGo_0 25 (q := (43, .istore_n 3, 1)) rfl
theorem d_Md_canGo_44 : decode prog_8_method_38_code 44 = .ok (.iload_n 3, 1) := zdt v_Md_canGo_0 26 (q := (44, .iload_n 3, 1)) rfl
theorem d_Md_canGo_45 : decode prog_8_method_38_code 45 = .ok (.bipush 12, 2) := zdt v_Md_canGo_0 27 (q := (45, .bipush 12, 2)) rfl
theorem d_Md_canGo_47 : decode prog_8_method_38_code 47 = .ok (.if_icmp .ge 52, 3) := zdt v_Md_canGo_0 28 (q := (47, .if_icmp .ge 52, 3)) rfl
theorem d_Md_canGo_50 : decode prog_8_method_38_code 50 = .ok (.iload_n 2, 1) := zdt v_Md_canGo_0 29 (q := (50, .iload_n 2, 1)) rfl
theorem d_Md_canGo_51 : decode prog_8_method_38_code 51 = .ok (.ifCond .eq 48, 3) := zdt v_Md_canGo_0 30 (q := (51, .ifCond .eq 48, 3)) rfl
theorem d_Md_canGo_54 : decode prog_8_method_38_code 54 = .ok (.aload_n 0, 1) := zdt v_Md_canGo_0 31 (q := (54, .aload_n 0, 1)) rfl
theorem d_Md_canGo_55 : decode prog_8_method_38_code 55 = .ok (.iload_n 1, 1) := zdt v_Md_canGo_0 32 (q := (55, .iload_n 1, 1)) rfl
theorem d_Md_canGo_56 : decode prog_8_method_38_code 56 = .ok (.iload_n 3, 1) := zdt v_Md_canGo_0 33 (q := (56, .iload_n 3, 1)) rfl
theorem d_Md_canGo_57 : decode prog_8_method_38_code 57 = .ok (.invokevirtual 167, 3) := zdt v_Md_canGo_0 34 (q := (57, .invokevirtual 167, 3)) rfl
theorem d_Md_canGo_60 : decode prog_8_method_38_code 60 = .ok (.ifCond .eq 33, 3) := zdt v_Md_canGo_0 35 (q := (60, .ifCond .eq 33, 3)) rfl
theorem d_Md_canGo_63 : decode prog_8_method_38_code 63 = .ok (.aload_n 0, 1) := zdt v_Md_canGo_0 36 (q := (63, .aload_n 0, 1)) rfl
theorem d_Md_canGo_64 : decode prog_8_method_38_code 64 = .ok (.iload_n 1, 1) := zdt v_Md_canGo_0 37 (q := (64, .iload_n 1, 1)) rfl
theorem d_Md_canGo_65 : decode prog_8_method_38_code 65 = .ok (.iload_n 3, 1) := zdt v_Md_canGo_0 38 (q := (65, .iload_n 3, 1)) rfl
theorem d_Md_canGo_66 : decode prog_8_method_38_code 66 = .ok (.aload_n 0, 1) := zdt v_Md_canGo_0 39 (q := (66, .aload_n 0, 1)) rfl
def u_Md_canGo_1 : List (Nat × Instr × Nat) := [(67, .getfield 65, 3), (70, .invokevirtual 170, 3), (73, .aload_n 0, 1), (74, .getfield 62, 3), (77, .aload_n 0, 1), (78, .getfield 65, 3), (81, .invokestatic 174, 3), (84, .ifCond .lt 7, 3), (87, .iconst 1, 1), (88, .goto 4, 3), (91, .iconst 0, 1), (92, .istore_n 2, 1), (93, .iinc 3 1, 3), (96, .goto (-52), 3), (99, .iload_n 2, 1), (100, .ireturn, 1)]
theorem v_Md_canGo_1 : u_Md_canGo_1.all (zdq prog_8_method_38_code) = true := by decide +kernel
theorem d_Md_canGo_67 : decode prog_8_method_38_code 67 = .ok (.getfield 65, 3) := zdt v_Md_canGo_1 0 (q := (67, .getfield 65, 3)) rfl
theorem d_Md_canGo_70 : decode prog_8_method_38_code 70 = .ok (.invokevirtual 170, 3) := zdt v_Md_canGo_1 1 (q := (70, .invokevirtual 170, 3)) rfl
theorem d_Md_canGo_73 : decode prog_8_method_38_code 73 = .ok (.aload_n 0, 1) := zdt v_Md_canGo_1 2 (q := (73, .aload_n 0, 1)) rfl
theorem d_Md_canGo_74 : decode prog_8_method_38_code 74 = .ok (.getfield 62, 3) := zdt v_Md_canGo_1 3 (q := (74, .getfield 62, 3)) rfl
theorem d_Md_canGo_77 : decode prog_8_method_38_code 77 = .ok (.aload_n 0, 1) := zdt v_Md_canGo_1 4 (q := (77, .aload_n 0, 1)) rfl
theorem d_Md_canGo_78 : decode prog_8_method_38_code 78 = .ok (.getfield 65, 3) := zdt v_Md_canGo_1 5 (q := (78, .getfield 65, 3)) rfl
theorem d_Md_canGo_81 : decode prog_8_method_38_code 81 = .ok (.invokestatic 174, 3) := zdt v_Md_canGo_1 6 (q := (81, .invokestatic 174, 3)) rfl
theorem d_Md_canGo_84 : decode prog_8_method_38_code 84 = .ok (.ifCond .lt 7, 3) := zdt v_Md_canGo_1 7 (q := (84, .ifCond .lt 7, 3)) rfl
theorem d_Md_canGo_87 : decode prog_8_method_38_code 87 = .ok (.iconst 1, 1) := zdt v_Md_canGo_1 8 (q := (87, .iconst 1, 1)) rfl
theorem d_Md_canGo_88 : decode prog_8_method_38_code 88 = .ok (.goto 4, 3) := zdt v_Md_canGo_1 9 (q := (88, .goto 4, 3)) rfl
theorem d_Md_canGo_91 : decode prog_8_method_38_code 91 = .ok (.iconst 0, 1) := zdt v_Md_canGo_1 10 (q := (91, .iconst 0, 1)) rfl
theorem d_Md_canGo_92 : decode prog_8_method_38_code 92 = .ok (.istore_n 2, 1) := zdt v_Md_canGo_1 11 (q := (92, .istore_n 2, 1)) rfl
theorem d_Md_canGo_93 : decode prog_8_method_38_code 93 = .ok (.iinc 3 1, 3) := zdt v_Md_canGo_1 12 (q := (93, .iinc 3 1, 3)) rfl
theorem d_Md_canGo_96 : decode prog_8_method_38_code 96 = .ok (.goto (-52), 3) := zdt v_Md_canGo_1 13 (q := (96, .goto (-52), 3)) rfl
theorem d_Md_canGo_99 : decode prog_8_method_38_code 99 = .ok (.iload_n 2, 1) := zdt v_Md_canGo_1 14 (q := (99, .iload_n 2, 1)) rfl
theorem d_Md_canGo_100 : decode prog_8_method_38_code 100 = .ok (.ireturn, 1) := zdt v_Md_canGo_1 15 (q := (100, .ireturn, 1)) rfl
def u_Md_holds_0 : List (Nat × Instr × Nat) := [(0, .aload_n 0, 1), (1, .iload_n 1, 1), (2, .iload_n 2, 1), (3, .invokevirtual 161, 3), (6, .ifCond .ne 5, 3), (9, .iconst 0, 1), (10, .ireturn, 1), (11, .iload_n 2, 1), (12, .bipush 6, 2), (14, .if_icmp .lt 20, 3), (17, .aload_n 0, 1), (18, .getfield 16, 3), (21, .iload_n 2, 1), (22, .baload, 1), (23, .ifCond .ne 7, 3), (26, .iconst 1, 1), (27, .goto 34, 3), (30, .iconst 0, 1), (31, .goto 30, 3), (34, .aload_n 0, 1), (35, .getfield 47, 3), (38, .aload_n 0, 1), (39, .aload_n 0, 1), (40, .getfield 41, 3), (43, .iload_n 1, 1), (44, .iaload, 1), (45, .iconst 1, 1), (46, .iload_n 2, 1), (47, .ishl, 1), (48, .ixor, 1), (49, .invokevirtual 164, 3), (52, .baload, 1), (53, .ifCond .ne 7, 3), (56, .iconst 1, 1), (57, .goto 4, 3), (60, .iconst 0, 1), (61, .ireturn, 1)]
theorem v_Md_holds_0 : u_Md_holds_0.all (zdq prog_8_method_35_code) = true := by decide +kernel
theorem d_Md_holds_0 : decode prog_8_method_35_code 0 = .ok (.aload_n 0, 1) := zdt v_Md_holds_0 0 (q := (0, .aload_n 0, 1)) rfl
theorem d_Md_holds_1 : decode prog_8_method_35_code 1 = .ok (.iload_n 1, 1) := zdt v_Md_holds_0 1 (q := (1, .iload_n 1, 1)) rfl
theorem d_Md_holds_2 : decode prog_8_method_35_code 2 = .ok (.iload_n 2, 1) := zdt v_Md_holds_0 2 (q := (2, .iload_n 2, 1)) rfl
theorem d_Md_holds_3 : decode prog_8_method_35_code 3 = .ok (.invokevirtual 161, 3) := zdt v_Md_holds_0 3 (q := (3, .invokevirtual 161, 3)) rfl
theorem d_Md_holds_6 : decode prog_8_method_35_code 6 = .ok (.ifCond .ne 5, 3) := zdt v_Md_holds_0 4 (q := (6, .ifCond .ne 5, 3)) rfl
theorem d_Md_holds_9 : decode prog_8_method_35_code 9 = .ok (.iconst 0, 1) := zdt v_Md_holds_0 5 (q := (9, .iconst 0, 1)) rfl
theorem d_Md_holds_10 : decode prog_8_method_35_code 10 = .ok (.ireturn, 1) := zdt v_Md_holds_0 6 (q := (10, .ireturn, 1)) rfl
theorem d_Md_holds_11 : decode prog_8_method_35_code 11 = .ok (.iload_n 2, 1) := zdt v_Md_holds_0 7 (q := (11, .iload_n 2, 1)) rfl
theorem d_Md_holds_12 : decode prog_8_method_35_code 12 = .ok (.bipush 6, 2) := zdt v_Md_holds_0 8 (q := (12, .bipush 6, 2)) rfl
theorem d_Md_holds_14 : decode prog_8_method_35_code 14 = .ok (.if_icmp .lt 20, 3) := zdt v_Md_holds_0 9 (q := (14, .if_icmp .lt 20, 3)) rfl
theorem d_Md_holds_17 : decode prog_8_method_35_code 17 = .ok (.aload_n 0, 1) := zdt v_Md_holds_0 10 (q := (17, .aload_n 0, 1)) rfl
theorem d_Md_holds_18 : decode prog_8_method_35_code 18 = .ok (.getfield 16, 3) := zdt v_Md_holds_0 11 (q := (18, .getfield 16, 3)) rfl
theorem d_Md_holds_21 : decode prog_8_method_35_code 21 = .ok (.iload_n 2, 1) := zdt v_Md_holds_0 12 (q := (21, .iload_n 2, 1)) rfl
theorem d_Md_holds_22 : decode prog_8_method_35_code 22 = .ok (.baload, 1) := zdt v_Md_holds_0 13 (q := (22, .baload, 1)) rfl
theorem d_Md_holds_23 : decode prog_8_method_35_code 23 = .ok (.ifCond .ne 7, 3) := zdt v_Md_holds_0 14 (q := (23, .ifCond .ne 7, 3)) rfl
theorem d_Md_holds_26 : decode prog_8_method_35_code 26 = .ok (.iconst 1, 1) := zdt v_Md_holds_0 15 (q := (26, .iconst 1, 1)) rfl
theorem d_Md_holds_27 : decode prog_8_method_35_code 27 = .ok (.goto 34, 3) := zdt v_Md_holds_0 16 (q := (27, .goto 34, 3)) rfl
theorem d_Md_holds_30 : decode prog_8_method_35_code 30 = .ok (.iconst 0, 1) := zdt v_Md_holds_0 17 (q := (30, .iconst 0, 1)) rfl
theorem d_Md_holds_31 : decode prog_8_method_35_code 31 = .ok (.goto 30, 3) := zdt v_Md_holds_0 18 (q := (31, .goto 30, 3)) rfl
theorem d_Md_holds_34 : decode prog_8_method_35_code 34 = .ok (.aload_n 0, 1) := zdt v_Md_holds_0 19 (q := (34, .aload_n 0, 1)) rfl
theorem d_Md_holds_35 : decode prog_8_method_35_code 35 = .ok (.getfield 47, 3) := zdt v_Md_holds_0 20 (q := (35, .getfield 47, 3)) rfl
theorem d_Md_holds_38 : decode prog_8_method_35_code 38 = .ok (.aload_n 0, 1) := zdt v_Md_holds_0 21 (q := (38, .aload_n 0, 1)) rfl
theorem d_Md_holds_39 : decode prog_8_method_35_code 39 = .ok (.aload_n 0, 1) := zdt v_Md_holds_0 22 (q := (39, .aload_n 0, 1)) rfl
theorem d_Md_holds_40 : decode prog_8_method_35_code 40 = .ok (.getfield 41, 3) := zdt v_Md_holds_0 23 (q := (40, .getfield 41, 3)) rfl
theorem d_Md_holds_43 : decode prog_8_method_35_code 43 = .ok (.iload_n 1, 1) := zdt v_Md_holds_0 24 (q := (43, .iload_n 1, 1)) rfl
theorem d_Md_holds_44 : decode prog_8_method_35_code 44 = .ok (.iaload, 1) := zdt v_Md_holds_0 25 (q := (44, .iaload, 1)) rfl
theorem d_Md_holds_45 : decode prog_8_method_35_code 45 = .ok (.iconst 1, 1) := zdt v_Md_holds_0 26 (q := (45, .iconst 1, 1)) rfl
theorem d_Md_holds_46 : decode prog_8_method_35_code 46 = .ok (.iload_n 2, 1) := zdt v_Md_holds_0 27 (q := (46, .iload_n 2, 1)) rfl
theorem d_Md_holds_47 : decode prog_8_method_35_code 47 = .ok (.ishl, 1) := zdt v_Md_holds_0 28 (q := (47, .ishl, 1)) rfl
theorem d_Md_holds_48 : decode prog_8_method_35_code 48 = .ok (.ixor, 1) := zdt v_Md_holds_0 29 (q := (48, .ixor, 1)) rfl
theorem d_Md_holds_49 : decode prog_8_method_35_code 49 = .ok (.invokevirtual 164, 3) := zdt v_Md_holds_0 30 (q := (49, .invokevirtual 164, 3)) rfl
theorem d_Md_holds_52 : decode prog_8_method_35_code 52 = .ok (.baload, 1) := zdt v_Md_holds_0 31 (q := (52, .baload, 1)) rfl
theorem d_Md_holds_53 : decode prog_8_method_35_code 53 = .ok (.ifCond .ne 7, 3) := zdt v_Md_holds_0 32 (q := (53, .ifCond .ne 7, 3)) rfl
theorem d_Md_holds_56 : decode prog_8_method_35_code 56 = .ok (.iconst 1, 1) := zdt v_Md_holds_0 33 (q := (56, .iconst 1, 1)) rfl
theorem d_Md_holds_57 : decode prog_8_method_35_code 57 = .ok (.goto 4, 3) := zdt v_Md_holds_0 34 (q := (57, .goto 4, 3)) rfl
theorem d_Md_holds_60 : decode prog_8_method_35_code 60 = .ok (.iconst 0, 1) := zdt v_Md_holds_0 35 (q := (60, .iconst 0, 1)) rfl
theorem d_Md_holds_61 : decode prog_8_method_35_code 61 = .ok (.ireturn, 1) := zdt v_Md_holds_0 36 (q := (61, .ireturn, 1)) rfl
def u_Md_inward_0 : List (Nat × Instr × Nat) := [(0, .iload_n 2, 1), (1, .bipush 6, 2), (3, .if_icmp .lt 18, 3), (6, .iload_n 2, 1), (7, .iconst 2, 1), (8, .irem, 1), (9, .iconst 1, 1), (10, .if_icmp .ne 7, 3), (13, .iconst 1, 1), (14, .goto 25, 3), (17, .iconst 0, 1), (18, .goto 21, 3), (21, .aload_n 0, 1), (22, .getfield 41, 3), (25, .iload_n 1, 1), (26, .iaload, 1), (27, .iload_n 2, 1), (28, .ishr, 1), (29, .iconst 1, 1), (30, .iand, 1), (31, .ifCond .ne 7, 3), (34, .iconst 1, 1), (35, .goto 4, 3), (38, .iconst 0, 1), (39, .istore 4, 2), (41, .iconst 0, 1), (42, .istore 5, 2), (44, .iload 5, 2), (46, .iconst 3, 1), (47, .if_icmp .ge 44, 3), (50, .aload_n 3, 1), (51, .iload 5, 2), (53, .iload 4, 2), (55, .ifCond .eq 18, 3), (58, .aload_n 0, 1), (59, .getfield 13, 3), (62, .iconst 4, 1), (63, .iload_n 2, 1), (64, .imul, 1), (65, .iload 5, 2)]
theorem v_Md_inward_0 : u_Md_inward_0.all (zdq prog_8_method_36_code) = true := by decide +kernel
theorem d_Md_inward_0 : decode prog_8_method_36_code 0 = .ok (.iload_n 2, 1) := zdt v_Md_inward_0 0 (q := (0, .iload_n 2, 1)) rfl
theorem d_Md_inward_1 : decode prog_8_method_36_code 1 = .ok (.bipush 6, 2) := zdt v_Md_inward_0 1 (q := (1, .bipush 6, 2)) rfl
theorem d_Md_inward_3 : decode prog_8_method_36_code 3 = .ok (.if_icmp .lt 18, 3) := zdt v_Md_inward_0 2 (q := (3, .if_icmp .lt 18, 3)) rfl
theorem d_Md_inward_6 : decode prog_8_method_36_code 6 = .ok (.iload_n 2, 1) := zdt v_Md_inward_0 3 (q := (6, .iload_n 2, 1)) rfl
theorem d_Md_inward_7 : decode prog_8_method_36_code 7 = .ok (.iconst 2, 1) := zdt v_Md_inward_0 4 (q := (7, .iconst 2, 1)) rfl
theorem d_Md_inward_8 : decode prog_8_method_36_code 8 = .ok (.irem, 1) := zdt v_Md_inward_0 5 (q := (8, .irem, 1)) rfl
theorem d_Md_inward_9 : decode prog_8_method_36_code 9 = .ok (.iconst 1, 1) := zdt v_Md_inward_0 6 (q := (9, .iconst 1, 1)) rfl
theorem d_Md_inward_10 : decode prog_8_method_36_code 10 = .ok (.if_icmp .ne 7, 3) := zdt v_Md_inward_0 7 (q := (10, .if_icmp .ne 7, 3)) rfl
theorem d_Md_inward_13 : decode prog_8_method_36_code 13 = .ok (.iconst 1, 1) := zdt v_Md_inward_0 8 (q := (13, .iconst 1, 1)) rfl
theorem d_Md_inward_14 : decode prog_8_method_36_code 14 = .ok (.goto 25, 3) := zdt v_Md_inward_0 9 (q := (14, .goto 25, 3)) rfl
theorem d_Md_inward_17 : decode prog_8_method_36_code 17 = .ok (.iconst 0, 1) := zdt v_Md_inward_0 10 (q := (17, .iconst 0, 1)) rfl
theorem d_Md_inward_18 : decode prog_8_method_36_code 18 = .ok (.goto 21, 3) := zdt v_Md_inward_0 11 (q := (18, .goto 21, 3)) rfl
theorem d_Md_inward_21 : decode prog_8_method_36_code 21 = .ok (.aload_n 0, 1) := zdt v_Md_inward_0 12 (q := (21, .aload_n 0, 1)) rfl
theorem d_Md_inward_22 : decode prog_8_method_36_code 22 = .ok (.getfield 41, 3) := zdt v_Md_inward_0 13 (q := (22, .getfield 41, 3)) rfl
theorem d_Md_inward_25 : decode prog_8_method_36_code 25 = .ok (.iload_n 1, 1) := zdt v_Md_inward_0 14 (q := (25, .iload_n 1, 1)) rfl
theorem d_Md_inward_26 : decode prog_8_method_36_code 26 = .ok (.iaload, 1) := zdt v_Md_inward_0 15 (q := (26, .iaload, 1)) rfl
theorem d_Md_inward_27 : decode prog_8_method_36_code 27 = .ok (.iload_n 2, 1) := zdt v_Md_inward_0 16 (q := (27, .iload_n 2, 1)) rfl
theorem d_Md_inward_28 : decode prog_8_method_36_code 28 = .ok (.ishr, 1) := zdt v_Md_inward_0 17 (q := (28, .ishr, 1)) rfl
theorem d_Md_inward_29 : decode prog_8_method_36_code 29 = .ok (.iconst 1, 1) := zdt v_Md_inward_0 18 (q := (29, .iconst 1, 1)) rfl
theorem d_Md_inward_30 : decode prog_8_method_36_code 30 = .ok (.iand, 1) := zdt v_Md_inward_0 19 (q := (30, .iand, 1)) rfl
theorem d_Md_inward_31 : decode prog_8_method_36_code 31 = .ok (.ifCond .ne 7, 3) := zdt v_Md_inward_0 20 (q := (31, .ifCond .ne 7, 3)) rfl
theorem d_Md_inward_34 : decode prog_8_method_36_code 34 = .ok (.iconst 1, 1) := zdt v_Md_inward_0 21 (q := (34, .iconst 1, 1)) rfl
theorem d_Md_inward_35 : decode prog_8_method_36_code 35 = .ok (.goto 4, 3) := zdt v_Md_inward_0 22 (q := (35, .goto 4, 3)) rfl
theorem d_Md_inward_38 : decode prog_8_method_36_code 38 = .ok (.iconst 0, 1) := zdt v_Md_inward_0 23 (q := (38, .iconst 0, 1)) rfl
theorem d_Md_inward_39 : decode prog_8_method_36_code 39 = .ok (.istore 4, 2) := zdt v_Md_inward_0 24 (q := (39, .istore 4, 2)) rfl
theorem d_Md_inward_41 : decode prog_8_method_36_code 41 = .ok (.iconst 0, 1) := zdt v_Md_inward_0 25 (q := (41, .iconst 0, 1)) rfl
theorem d_Md_inward_42 : decode prog_8_method_36_code 42 = .ok (.istore 5, 2) := zdt v_Md_inward_0 26 (q := (42, .istore 5, 2)) rfl
theorem d_Md_inward_44 : decode prog_8_method_36_code 44 = .ok (.iload 5, 2) := zdt v_Md_inward_0 27 (q := (44, .iload 5, 2)) rfl
theorem d_Md_inward_46 : decode prog_8_method_36_code 46 = .ok (.iconst 3, 1) := zdt v_Md_inward_0 28 (q := (46, .iconst 3, 1)) rfl
theorem d_Md_inward_47 : decode prog_8_method_36_code 47 = .ok (.if_icmp .ge 44, 3) := zdt v_Md_inward_0 29 (q := (47, .if_icmp .ge 44, 3)) rfl
theorem d_Md_inward_50 : decode prog_8_method_36_code 50 = .ok (.aload_n 3, 1) := zdt v_Md_inward_0 30 (q := (50, .aload_n 3, 1)) rfl
theorem d_Md_inward_51 : decode prog_8_method_36_code 51 = .ok (.iload 5, 2) := zdt v_Md_inward_0 31 (q := (51, .iload 5, 2)) rfl
theorem d_Md_inward_53 : decode prog_8_method_36_code 53 = .ok (.iload 4, 2) := zdt v_Md_inward_0 32 (q := (53, .iload 4, 2)) rfl
theorem d_Md_inward_55 : decode prog_8_method_36_code 55 = .ok (.ifCond .eq 18, 3) := zdt v_Md_inward_0 33 (q := (55, .ifCond .eq 18, 3)) rfl
theorem d_Md_inward_58 : decode prog_8_method_36_code 58 = .ok (.aload_n 0, 1) := zdt v_Md_inward_0 34 (q := (58, .aload_n 0, 1)) rfl
theorem d_Md_inward_59 : decode prog_8_method_36_code 59 = .ok (.getfield 13, 3) := zdt v_Md_inward_0 35 (q := (59, .getfield 13, 3)) rfl
theorem d_Md_inward_62 : decode prog_8_method_36_code 62 = .ok (.iconst 4, 1) := zdt v_Md_inward_0 36 (q := (62, .iconst 4, 1)) rfl
theorem d_Md_inward_63 : decode prog_8_method_36_code 63 = .ok (.iload_n 2, 1) := zdt v_Md_inward_0 37 (q := (63, .iload_n 2, 1)) rfl
theorem d_Md_inward_64 : decode prog_8_method_36_code 64 = .ok (.imul, 1) := zdt v_Md_inward_0 38 (q := (64, .imul, 1)) rfl
theorem d_Md_inward_65 : decode prog_8_method_36_code 65 = .ok (.iload 5, 2) := zdt v_Md_inward_0 39 (q := (65, .iload 5, 2)) rfl
def u_Md_inward_1 : List (Nat × Instr × Nat) := [(67, .iadd, 1), (68, .iaload, 1), (69, .ineg, 1), (70, .goto 14, 3), (73, .aload_n 0, 1), (74, .getfield 13, 3), (77, .iconst 4, 1), (78, .iload_n 2, 1), (79, .imul, 1), (80, .iload 5, 2), (82, .iadd, 1), (83, .iaload, 1), (84, .iastore, 1), (85, .iinc 5 1, 3), (88, .goto (-44), 3), (91, .return_, 1)]
theorem v_Md_inward_1 : u_Md_inward_1.all (zdq prog_8_method_36_code) = true := by decide +kernel
theorem d_Md_inward_67 : decode prog_8_method_36_code 67 = .ok (.iadd, 1) := zdt v_Md_inward_1 0 (q := (67, .iadd, 1)) rfl
theorem d_Md_inward_68 : decode prog_8_method_36_code 68 = .ok (.iaload, 1) := zdt v_Md_inward_1 1 (q := (68, .iaload, 1)) rfl
theorem d_Md_inward_69 : decode prog_8_method_36_code 69 = .ok (.ineg, 1) := zdt v_Md_inward_1 2 (q := (69, .ineg, 1)) rfl
theorem d_Md_inward_70 : decode prog_8_method_36_code 70 = .ok (.goto 14, 3) := zdt v_Md_inward_1 3 (q := (70, .goto 14, 3)) rfl
theorem d_Md_inward_73 : decode prog_8_method_36_code 73 = .ok (.aload_n 0, 1) := zdt v_Md_inward_1 4 (q := (73, .aload_n 0, 1)) rfl
theorem d_Md_inward_74 : decode prog_8_method_36_code 74 = .ok (.getfield 13, 3) := zdt v_Md_inward_1 5 (q := (74, .getfield 13, 3)) rfl
theorem d_Md_inward_77 : decode prog_8_method_36_code 77 = .ok (.iconst 4, 1) := zdt v_Md_inward_1 6 (q := (77, .iconst 4, 1)) rfl
theorem d_Md_inward_78 : decode prog_8_method_36_code 78 = .ok (.iload_n 2, 1) := zdt v_Md_inward_1 7 (q := (78, .iload_n 2, 1)) rfl
theorem d_Md_inward_79 : decode prog_8_method_36_code 79 = .ok (.imul, 1) := zdt v_Md_inward_1 8 (q := (79, .imul, 1)) rfl
theorem d_Md_inward_80 : decode prog_8_method_36_code 80 = .ok (.iload 5, 2) := zdt v_Md_inward_1 9 (q := (80, .iload 5, 2)) rfl
theorem d_Md_inward_82 : decode prog_8_method_36_code 82 = .ok (.iadd, 1) := zdt v_Md_inward_1 10 (q := (82, .iadd, 1)) rfl
theorem d_Md_inward_83 : decode prog_8_method_36_code 83 = .ok (.iaload, 1) := zdt v_Md_inward_1 11 (q := (83, .iaload, 1)) rfl
theorem d_Md_inward_84 : decode prog_8_method_36_code 84 = .ok (.iastore, 1) := zdt v_Md_inward_1 12 (q := (84, .iastore, 1)) rfl
theorem d_Md_inward_85 : decode prog_8_method_36_code 85 = .ok (.iinc 5 1, 3) := zdt v_Md_inward_1 13 (q := (85, .iinc 5 1, 3)) rfl
theorem d_Md_inward_88 : decode prog_8_method_36_code 88 = .ok (.goto (-44), 3) := zdt v_Md_inward_1 14 (q := (88, .goto (-44), 3)) rfl
theorem d_Md_inward_91 : decode prog_8_method_36_code 91 = .ok (.return_, 1) := zdt v_Md_inward_1 15 (q := (91, .return_, 1)) rfl
def u_Md_times_0 : List (Nat × Instr × Nat) := [(0, .aload_n 0, 1), (1, .iconst 0, 1), (2, .iaload, 1), (3, .aload_n 1, 1), (4, .iconst 0, 1), (5, .iaload, 1), (6, .imul, 1), (7, .aload_n 0, 1), (8, .iconst 1, 1), (9, .iaload, 1), (10, .aload_n 1, 1), (11, .iconst 1, 1), (12, .iaload, 1), (13, .imul, 1), (14, .iadd, 1), (15, .aload_n 0, 1), (16, .iconst 2, 1), (17, .iaload, 1), (18, .aload_n 1, 1), (19, .iconst 2, 1), (20, .iaload, 1), (21, .imul, 1), (22, .iadd, 1), (23, .ireturn, 1)]
theorem v_Md_times_0 : u_Md_times_0.all (zdq prog_8_method_37_code) = true := by decide +kernel
theorem d_Md_times_0 : decode prog_8_method_37_code 0 = .ok (.aload_n 0, 1) := zdt v_Md_times_0 0 (q := (0, .aload_n 0, 1)) rfl
theorem d_Md_times_1 : decode prog_8_method_37_code 1 = .ok (.iconst 0, 1) := zdt v_Md_times_0 1 (q := (1, .iconst 0, 1)) rfl
theorem d_Md_times_2 : decode prog_8_method_37_code 2 = .ok (.iaload, 1) := zdt v_Md_times_0 2 (q := (2, .iaload, 1)) rfl
theorem d_Md_times_3 : decode prog_8_method_37_code 3 = .ok (.aload_n 1, 1) := zdt v_Md_times_0 3 (q := (3, .aload_n 1, 1)) rfl
theorem d_Md_times_4 : decode prog_8_method_37_code 4 = .ok (.iconst 0, 1) := zdt v_Md_times_0 4 (q := (4, .iconst 0, 1)) rfl
theorem d_Md_times_5 : decode prog_8_method_37_code 5 = .ok (.iaload, 1) := zdt v_Md_times_0 5 (q := (5, .iaload, 1)) rfl
theorem d_Md_times_6 : decode prog_8_method_37_code 6 = .ok (.imul, 1) := zdt v_Md_times_0 6 (q := (6, .imul, 1)) rfl
theorem d_Md_times_7 : decode prog_8_method_37_code 7 = .ok (.aload_n 0, 1) := zdt v_Md_times_0 7 (q := (7, .aload_n 0, 1)) rfl
theorem d_Md_times_8 : decode prog_8_method_37_code 8 = .ok (.iconst 1, 1) := zdt v_Md_times_0 8 (q := (8, .iconst 1, 1)) rfl
theorem d_Md_times_9 : decode prog_8_method_37_code 9 = .ok (.iaload, 1) := zdt v_Md_times_0 9 (q := (9, .iaload, 1)) rfl
theorem d_Md_times_10 : decode prog_8_method_37_code 10 = .ok (.aload_n 1, 1) := zdt v_Md_times_0 10 (q := (10, .aload_n 1, 1)) rfl
theorem d_Md_times_11 : decode prog_8_method_37_code 11 = .ok (.iconst 1, 1) := zdt v_Md_times_0 11 (q := (11, .iconst 1, 1)) rfl
theorem d_Md_times_12 : decode prog_8_method_37_code 12 = .ok (.iaload, 1) := zdt v_Md_times_0 12 (q := (12, .iaload, 1)) rfl
theorem d_Md_times_13 : decode prog_8_method_37_code 13 = .ok (.imul, 1) := zdt v_Md_times_0 13 (q := (13, .imul, 1)) rfl
theorem d_Md_times_14 : decode prog_8_method_37_code 14 = .ok (.iadd, 1) := zdt v_Md_times_0 14 (q := (14, .iadd, 1)) rfl
theorem d_Md_times_15 : decode prog_8_method_37_code 15 = .ok (.aload_n 0, 1) := zdt v_Md_times_0 15 (q := (15, .aload_n 0, 1)) rfl
theorem d_Md_times_16 : decode prog_8_method_37_code 16 = .ok (.iconst 2, 1) := zdt v_Md_times_0 16 (q := (16, .iconst 2, 1)) rfl
theorem d_Md_times_17 : decode prog_8_method_37_code 17 = .ok (.iaload, 1) := zdt v_Md_times_0 17 (q := (17, .iaload, 1)) rfl
theorem d_Md_times_18 : decode prog_8_method_37_code 18 = .ok (.aload_n 1, 1) := zdt v_Md_times_0 18 (q := (18, .aload_n 1, 1)) rfl
theorem d_Md_times_19 : decode prog_8_method_37_code 19 = .ok (.iconst 2, 1) := zdt v_Md_times_0 19 (q := (19, .iconst 2, 1)) rfl
theorem d_Md_times_20 : decode prog_8_method_37_code 20 = .ok (.iaload, 1) := zdt v_Md_times_0 20 (q := (20, .iaload, 1)) rfl
theorem d_Md_times_21 : decode prog_8_method_37_code 21 = .ok (.imul, 1) := zdt v_Md_times_0 21 (q := (21, .imul, 1)) rfl
theorem d_Md_times_22 : decode prog_8_method_37_code 22 = .ok (.iadd, 1) := zdt v_Md_times_0 22 (q := (22, .iadd, 1)) rfl
theorem d_Md_times_23 : decode prog_8_method_37_code 23 = .ok (.ireturn, 1) := zdt v_Md_times_0 23 (q := (23, .ireturn, 1)) rfl
def u_Md_take_0 : List (Nat × Instr × Nat) := [(0, .aload_n 0, 1), (1, .aload_n 0, 1), (2, .iload_n 1, 1), (3, .invokevirtual 152, 3), (6, .ifCond .eq 7, 3), (9, .iconst 0, 1), (10, .goto 4, 3), (13, .iconst 1, 1), (14, .putfield 75, 3), (17, .aload_n 0, 1), (18, .getfield 75, 3), (21, .ifCond .le 7, 3), (24, .iconst 0, 1), (25, .goto 8, 3), (28, .aload_n 0, 1), (29, .iload_n 1, 1), (30, .invokevirtual 184, 3), (33, .ireturn, 1)]
theorem v_Md_take_0 : u_Md_take_0.all (zdq prog_8_method_42_code) = true := by decide +kernel
theorem d_Md_take_0 : decode prog_8_method_42_code 0 = .ok (.aload_n 0, 1) := zdt v_Md_take_0 0 (q := (0, .aload_n 0, 1)) rfl
theorem d_Md_take_1 : decode prog_8_method_42_code 1 = .ok (.aload_n 0, 1) := zdt v_Md_take_0 1 (q := (1, .aload_n 0, 1)) rfl
theorem d_Md_take_2 : decode prog_8_method_42_code 2 = .ok (.iload_n 1, 1) := zdt v_Md_take_0 2 (q := (2, .iload_n 1, 1)) rfl
theorem d_Md_take_3 : decode prog_8_method_42_code 3 = .ok (.invokevirtual 152, 3) := zdt v_Md_take_0 3 (q := (3, .invokevirtual 152, 3)) rfl
theorem d_Md_take_6 : decode prog_8_method_42_code 6 = .ok (.ifCond .eq 7, 3) := zdt v_Md_take_0 4 (q := (6, .ifCond .eq 7, 3)) rfl
theorem d_Md_take_9 : decode prog_8_method_42_code 9 = .ok (.iconst 0, 1) := zdt v_Md_take_0 5 (q := (9, .iconst 0, 1)) rfl
theorem d_Md_take_10 : decode prog_8_method_42_code 10 = .ok (.goto 4, 3) := zdt v_Md_take_0 6 (q := (10, .goto 4, 3)) rfl
theorem d_Md_take_13 : decode prog_8_method_42_code 13 = .ok (.iconst 1, 1) := zdt v_Md_take_0 7 (q := (13, .iconst 1, 1)) rfl
theorem d_Md_take_14 : decode prog_8_method_42_code 14 = .ok (.putfield 75, 3) := zdt v_Md_take_0 8 (q := (14, .putfield 75, 3)) rfl
theorem d_Md_take_17 : decode prog_8_method_42_code 17 = .ok (.aload_n 0, 1) := zdt v_Md_take_0 9 (q := (17, .aload_n 0, 1)) rfl
theorem d_Md_take_18 : decode prog_8_method_42_code 18 = .ok (.getfield 75, 3) := zdt v_Md_take_0 10 (q := (18, .getfield 75, 3)) rfl
theorem d_Md_take_21 : decode prog_8_method_42_code 21 = .ok (.ifCond .le 7, 3) := zdt v_Md_take_0 11 (q := (21, .ifCond .le 7, 3)) rfl
theorem d_Md_take_24 : decode prog_8_method_42_code 24 = .ok (.iconst 0, 1) := zdt v_Md_take_0 12 (q := (24, .iconst 0, 1)) rfl
theorem d_Md_take_25 : decode prog_8_method_42_code 25 = .ok (.goto 8, 3) := zdt v_Md_take_0 13 (q := (25, .goto 8, 3)) rfl
theorem d_Md_take_28 : decode prog_8_method_42_code 28 = .ok (.aload_n 0, 1) := zdt v_Md_take_0 14 (q := (28, .aload_n 0, 1)) rfl
theorem d_Md_take_29 : decode prog_8_method_42_code 29 = .ok (.iload_n 1, 1) := zdt v_Md_take_0 15 (q := (29, .iload_n 1, 1)) rfl
theorem d_Md_take_30 : decode prog_8_method_42_code 30 = .ok (.invokevirtual 184, 3) := zdt v_Md_take_0 16 (q := (30, .invokevirtual 184, 3)) rfl
theorem d_Md_take_33 : decode prog_8_method_42_code 33 = .ok (.ireturn, 1) := zdt v_Md_take_0 17 (q := (33, .ireturn, 1)) rfl
def u_Md_taking_0 : List (Nat × Instr × Nat) := [(0, .iconst 0, 1), (1, .istore_n 2, 1), (2, .iload_n 2, 1), (3, .aload_n 0, 1), (4, .getfield 146, 3), (7, .if_icmp .ge 57, 3), (10, .aload_n 0, 1), (11, .iload_n 1, 1), (12, .iload_n 2, 1), (13, .invokevirtual 181, 3), (16, .ifCond .eq 42, 3), (19, .aload_n 0, 1), (20, .getfield 47, 3), (23, .iload_n 1, 1), (24, .iconst 1, 1), (25, .bastore, 1), (26, .aload_n 0, 1), (27, .getfield 50, 3), (30, .aload_n 0, 1), (31, .getfield 114, 3), (34, .iload_n 1, 1), (35, .iastore, 1), (36, .aload_n 0, 1), (37, .getfield 53, 3), (40, .aload_n 0, 1), (41, .getfield 114, 3), (44, .iload_n 2, 1), (45, .iastore, 1), (46, .aload_n 0, 1), (47, .dup, 1), (48, .getfield 114, 3), (51, .iconst 1, 1), (52, .iadd, 1), (53, .putfield 114, 3), (56, .iload_n 2, 1), (57, .ireturn, 1), (58, .iinc 2 1, 3), (61, .goto (-59), 3), (64, .iconst (-1), 1), (65, .ireturn, 1)]
theorem v_Md_taking_0 : u_Md_taking_0.all (zdq prog_8_method_41_code) = true := by decide +kernel
theorem d_Md_taking_0 : decode prog_8_method_41_code 0 = .ok (.iconst 0, 1) := zdt v_Md_taking_0 0 (q := (0, .iconst 0, 1)) rfl
theorem d_Md_taking_1 : decode prog_8_method_41_code 1 = .ok (.istore_n 2, 1) := zdt v_Md_taking_0 1 (q := (1, .istore_n 2, 1)) rfl
theorem d_Md_taking_2 : decode prog_8_method_41_code 2 = .ok (.iload_n 2, 1) := zdt v_Md_taking_0 2 (q := (2, .iload_n 2, 1)) rfl
theorem d_Md_taking_3 : decode prog_8_method_41_code 3 = .ok (.aload_n 0, 1) := zdt v_Md_taking_0 3 (q := (3, .aload_n 0, 1)) rfl
theorem d_Md_taking_4 : decode prog_8_method_41_code 4 = .ok (.getfield 146, 3) := zdt v_Md_taking_0 4 (q := (4, .getfield 146, 3)) rfl
theorem d_Md_taking_7 : decode prog_8_method_41_code 7 = .ok (.if_icmp .ge 57, 3) := zdt v_Md_taking_0 5 (q := (7, .if_icmp .ge 57, 3)) rfl
theorem d_Md_taking_10 : decode prog_8_method_41_code 10 = .ok (.aload_n 0, 1) := zdt v_Md_taking_0 6 (q := (10, .aload_n 0, 1)) rfl
theorem d_Md_taking_11 : decode prog_8_method_41_code 11 = .ok (.iload_n 1, 1) := zdt v_Md_taking_0 7 (q := (11, .iload_n 1, 1)) rfl
theorem d_Md_taking_12 : decode prog_8_method_41_code 12 = .ok (.iload_n 2, 1) := zdt v_Md_taking_0 8 (q := (12, .iload_n 2, 1)) rfl
theorem d_Md_taking_13 : decode prog_8_method_41_code 13 = .ok (.invokevirtual 181, 3) := zdt v_Md_taking_0 9 (q := (13, .invokevirtual 181, 3)) rfl
theorem d_Md_taking_16 : decode prog_8_method_41_code 16 = .ok (.ifCond .eq 42, 3) := zdt v_Md_taking_0 10 (q := (16, .ifCond .eq 42, 3)) rfl
theorem d_Md_taking_19 : decode prog_8_method_41_code 19 = .ok (.aload_n 0, 1) := zdt v_Md_taking_0 11 (q := (19, .aload_n 0, 1)) rfl
theorem d_Md_taking_20 : decode prog_8_method_41_code 20 = .ok (.getfield 47, 3) := zdt v_Md_taking_0 12 (q := (20, .getfield 47, 3)) rfl
theorem d_Md_taking_23 : decode prog_8_method_41_code 23 = .ok (.iload_n 1, 1) := zdt v_Md_taking_0 13 (q := (23, .iload_n 1, 1)) rfl
theorem d_Md_taking_24 : decode prog_8_method_41_code 24 = .ok (.iconst 1, 1) := zdt v_Md_taking_0 14 (q := (24, .iconst 1, 1)) rfl
theorem d_Md_taking_25 : decode prog_8_method_41_code 25 = .ok (.bastore, 1) := zdt v_Md_taking_0 15 (q := (25, .bastore, 1)) rfl
theorem d_Md_taking_26 : decode prog_8_method_41_code 26 = .ok (.aload_n 0, 1) := zdt v_Md_taking_0 16 (q := (26, .aload_n 0, 1)) rfl
theorem d_Md_taking_27 : decode prog_8_method_41_code 27 = .ok (.getfield 50, 3) := zdt v_Md_taking_0 17 (q := (27, .getfield 50, 3)) rfl
theorem d_Md_taking_30 : decode prog_8_method_41_code 30 = .ok (.aload_n 0, 1) := zdt v_Md_taking_0 18 (q := (30, .aload_n 0, 1)) rfl
theorem d_Md_taking_31 : decode prog_8_method_41_code 31 = .ok (.getfield 114, 3) := zdt v_Md_taking_0 19 (q := (31, .getfield 114, 3)) rfl
theorem d_Md_taking_34 : decode prog_8_method_41_code 34 = .ok (.iload_n 1, 1) := zdt v_Md_taking_0 20 (q := (34, .iload_n 1, 1)) rfl
theorem d_Md_taking_35 : decode prog_8_method_41_code 35 = .ok (.iastore, 1) := zdt v_Md_taking_0 21 (q := (35, .iastore, 1)) rfl
theorem d_Md_taking_36 : decode prog_8_method_41_code 36 = .ok (.aload_n 0, 1) := zdt v_Md_taking_0 22 (q := (36, .aload_n 0, 1)) rfl
theorem d_Md_taking_37 : decode prog_8_method_41_code 37 = .ok (.getfield 53, 3) := zdt v_Md_taking_0 23 (q := (37, .getfield 53, 3)) rfl
theorem d_Md_taking_40 : decode prog_8_method_41_code 40 = .ok (.aload_n 0, 1) := zdt v_Md_taking_0 24 (q := (40, .aload_n 0, 1)) rfl
theorem d_Md_taking_41 : decode prog_8_method_41_code 41 = .ok (.getfield 114, 3) := zdt v_Md_taking_0 25 (q := (41, .getfield 114, 3)) rfl
theorem d_Md_taking_44 : decode prog_8_method_41_code 44 = .ok (.iload_n 2, 1) := zdt v_Md_taking_0 26 (q := (44, .iload_n 2, 1)) rfl
theorem d_Md_taking_45 : decode prog_8_method_41_code 45 = .ok (.iastore, 1) := zdt v_Md_taking_0 27 (q := (45, .iastore, 1)) rfl
theorem d_Md_taking_46 : decode prog_8_method_41_code 46 = .ok (.aload_n 0, 1) := zdt v_Md_taking_0 28 (q := (46, .aload_n 0, 1)) rfl
theorem d_Md_taking_47 : decode prog_8_method_41_code 47 = .ok (.dup, 1) := zdt v_Md_taking_0 29 (q := (47, .dup, 1)) rfl
theorem d_Md_taking_48 : decode prog_8_method_41_code 48 = .ok (.getfield 114, 3) := zdt v_Md_taking_0 30 (q := (48, .getfield 114, 3)) rfl
theorem d_Md_taking_51 : decode prog_8_method_41_code 51 = .ok (.iconst 1, 1) := zdt v_Md_taking_0 31 (q := (51, .iconst 1, 1)) rfl
theorem d_Md_taking_52 : decode prog_8_method_41_code 52 = .ok (.iadd, 1) := zdt v_Md_taking_0 32 (q := (52, .iadd, 1)) rfl
theorem d_Md_taking_53 : decode prog_8_method_41_code 53 = .ok (.putfield 114, 3) := zdt v_Md_taking_0 33 (q := (53, .putfield 114, 3)) rfl
theorem d_Md_taking_56 : decode prog_8_method_41_code 56 = .ok (.iload_n 2, 1) := zdt v_Md_taking_0 34 (q := (56, .iload_n 2, 1)) rfl
theorem d_Md_taking_57 : decode prog_8_method_41_code 57 = .ok (.ireturn, 1) := zdt v_Md_taking_0 35 (q := (57, .ireturn, 1)) rfl
theorem d_Md_taking_58 : decode prog_8_method_41_code 58 = .ok (.iinc 2 1, 3) := zdt v_Md_taking_0 36 (q := (58, .iinc 2 1, 3)) rfl
theorem d_Md_taking_61 : decode prog_8_method_41_code 61 = .ok (.goto (-59), 3) := zdt v_Md_taking_0 37 (q := (61, .goto (-59), 3)) rfl
theorem d_Md_taking_64 : decode prog_8_method_41_code 64 = .ok (.iconst (-1), 1) := zdt v_Md_taking_0 38 (q := (64, .iconst (-1), 1)) rfl
theorem d_Md_taking_65 : decode prog_8_method_41_code 65 = .ok (.ireturn, 1) := zdt v_Md_taking_0 39 (q := (65, .ireturn, 1)) rfl
def u_Md_order_0 : List (Nat × Instr × Nat) := [(0, .aload_n 0, 1), (1, .iconst 0, 1), (2, .putfield 75, 3), (5, .iconst 0, 1), (6, .istore_n 1, 1), (7, .iconst 0, 1), (8, .istore_n 2, 1), (9, .iload_n 2, 1), (10, .aload_n 0, 1), (11, .getfield 111, 3), (14, .if_icmp .ge 26, 3), (17, .aload_n 0, 1), (18, .iload_n 2, 1), (19, .invokevirtual 184, 3), (22, .iconst (-1), 1), (23, .if_icmp .eq 11, 3), (26, .iinc 1 1, 3), (29, .iconst 0, 1), (30, .istore_n 2, 1), (31, .goto (-22), 3), (34, .iinc 2 1, 3), (37, .goto (-28), 3), (40, .iload_n 1, 1), (41, .ireturn, 1)]
theorem v_Md_order_0 : u_Md_order_0.all (zdq prog_8_method_43_code) = true := by decide +kernel
theorem d_Md_order_0 : decode prog_8_method_43_code 0 = .ok (.aload_n 0, 1) := zdt v_Md_order_0 0 (q := (0, .aload_n 0, 1)) rfl
theorem d_Md_order_1 : decode prog_8_method_43_code 1 = .ok (.iconst 0, 1) := zdt v_Md_order_0 1 (q := (1, .iconst 0, 1)) rfl
theorem d_Md_order_2 : decode prog_8_method_43_code 2 = .ok (.putfield 75, 3) := zdt v_Md_order_0 2 (q := (2, .putfield 75, 3)) rfl
theorem d_Md_order_5 : decode prog_8_method_43_code 5 = .ok (.iconst 0, 1) := zdt v_Md_order_0 3 (q := (5, .iconst 0, 1)) rfl
theorem d_Md_order_6 : decode prog_8_method_43_code 6 = .ok (.istore_n 1, 1) := zdt v_Md_order_0 4 (q := (6, .istore_n 1, 1)) rfl
theorem d_Md_order_7 : decode prog_8_method_43_code 7 = .ok (.iconst 0, 1) := zdt v_Md_order_0 5 (q := (7, .iconst 0, 1)) rfl
theorem d_Md_order_8 : decode prog_8_method_43_code 8 = .ok (.istore_n 2, 1) := zdt v_Md_order_0 6 (q := (8, .istore_n 2, 1)) rfl
theorem d_Md_order_9 : decode prog_8_method_43_code 9 = .ok (.iload_n 2, 1) := zdt v_Md_order_0 7 (q := (9, .iload_n 2, 1)) rfl
theorem d_Md_order_10 : decode prog_8_method_43_code 10 = .ok (.aload_n 0, 1) := zdt v_Md_order_0 8 (q := (10, .aload_n 0, 1)) rfl
theorem d_Md_order_11 : decode prog_8_method_43_code 11 = .ok (.getfield 111, 3) := zdt v_Md_order_0 9 (q := (11, .getfield 111, 3)) rfl
theorem d_Md_order_14 : decode prog_8_method_43_code 14 = .ok (.if_icmp .ge 26, 3) := zdt v_Md_order_0 10 (q := (14, .if_icmp .ge 26, 3)) rfl
theorem d_Md_order_17 : decode prog_8_method_43_code 17 = .ok (.aload_n 0, 1) := zdt v_Md_order_0 11 (q := (17, .aload_n 0, 1)) rfl
theorem d_Md_order_18 : decode prog_8_method_43_code 18 = .ok (.iload_n 2, 1) := zdt v_Md_order_0 12 (q := (18, .iload_n 2, 1)) rfl
theorem d_Md_order_19 : decode prog_8_method_43_code 19 = .ok (.invokevirtual 184, 3) := zdt v_Md_order_0 13 (q := (19, .invokevirtual 184, 3)) rfl
theorem d_Md_order_22 : decode prog_8_method_43_code 22 = .ok (.iconst (-1), 1) := zdt v_Md_order_0 14 (q := (22, .iconst (-1), 1)) rfl
theorem d_Md_order_23 : decode prog_8_method_43_code 23 = .ok (.if_icmp .eq 11, 3) := zdt v_Md_order_0 15 (q := (23, .if_icmp .eq 11, 3)) rfl
theorem d_Md_order_26 : decode prog_8_method_43_code 26 = .ok (.iinc 1 1, 3) := zdt v_Md_order_0 16 (q := (26, .iinc 1 1, 3)) rfl
theorem d_Md_order_29 : decode prog_8_method_43_code 29 = .ok (.iconst 0, 1) := zdt v_Md_order_0 17 (q := (29, .iconst 0, 1)) rfl
theorem d_Md_order_30 : decode prog_8_method_43_code 30 = .ok (.istore_n 2, 1) := zdt v_Md_order_0 18 (q := (30, .istore_n 2, 1)) rfl
theorem d_Md_order_31 : decode prog_8_method_43_code 31 = .ok (.goto (-22), 3) := zdt v_Md_order_0 19 (q := (31, .goto (-22), 3)) rfl
theorem d_Md_order_34 : decode prog_8_method_43_code 34 = .ok (.iinc 2 1, 3) := zdt v_Md_order_0 20 (q := (34, .iinc 2 1, 3)) rfl
theorem d_Md_order_37 : decode prog_8_method_43_code 37 = .ok (.goto (-28), 3) := zdt v_Md_order_0 21 (q := (37, .goto (-28), 3)) rfl
theorem d_Md_order_40 : decode prog_8_method_43_code 40 = .ok (.iload_n 1, 1) := zdt v_Md_order_0 22 (q := (40, .iload_n 1, 1)) rfl
theorem d_Md_order_41 : decode prog_8_method_43_code 41 = .ok (.ireturn, 1) := zdt v_Md_order_0 23 (q := (41, .ireturn, 1)) rfl
def u_Md_taken_0 : List (Nat × Instr × Nat) := [(0, .aload_n 0, 1), (1, .iload_n 1, 1), (2, .iconst 0, 1), (3, .aload_n 0, 1), (4, .getfield 114, 3), (7, .iconst 1, 1), (8, .isub, 1), (9, .invokestatic 131, 3), (12, .ifCond .eq 16, 3), (15, .iload_n 2, 1), (16, .iconst 0, 1), (17, .iconst 1, 1), (18, .invokestatic 131, 3), (21, .ifCond .eq 7, 3), (24, .iconst 0, 1), (25, .goto 4, 3), (28, .iconst 1, 1), (29, .putfield 75, 3), (32, .aload_n 0, 1), (33, .getfield 75, 3), (36, .ifCond .le 7, 3), (39, .iconst 0, 1), (40, .goto 22, 3), (43, .iload_n 2, 1), (44, .ifCond .ne 12, 3), (47, .aload_n 0, 1), (48, .getfield 50, 3), (51, .iload_n 1, 1), (52, .iaload, 1), (53, .goto 9, 3), (56, .aload_n 0, 1), (57, .getfield 53, 3), (60, .iload_n 1, 1), (61, .iaload, 1), (62, .ireturn, 1)]
theorem v_Md_taken_0 : u_Md_taken_0.all (zdq prog_8_method_44_code) = true := by decide +kernel
theorem d_Md_taken_0 : decode prog_8_method_44_code 0 = .ok (.aload_n 0, 1) := zdt v_Md_taken_0 0 (q := (0, .aload_n 0, 1)) rfl
theorem d_Md_taken_1 : decode prog_8_method_44_code 1 = .ok (.iload_n 1, 1) := zdt v_Md_taken_0 1 (q := (1, .iload_n 1, 1)) rfl
theorem d_Md_taken_2 : decode prog_8_method_44_code 2 = .ok (.iconst 0, 1) := zdt v_Md_taken_0 2 (q := (2, .iconst 0, 1)) rfl
theorem d_Md_taken_3 : decode prog_8_method_44_code 3 = .ok (.aload_n 0, 1) := zdt v_Md_taken_0 3 (q := (3, .aload_n 0, 1)) rfl
theorem d_Md_taken_4 : decode prog_8_method_44_code 4 = .ok (.getfield 114, 3) := zdt v_Md_taken_0 4 (q := (4, .getfield 114, 3)) rfl
theorem d_Md_taken_7 : decode prog_8_method_44_code 7 = .ok (.iconst 1, 1) := zdt v_Md_taken_0 5 (q := (7, .iconst 1, 1)) rfl
theorem d_Md_taken_8 : decode prog_8_method_44_code 8 = .ok (.isub, 1) := zdt v_Md_taken_0 6 (q := (8, .isub, 1)) rfl
theorem d_Md_taken_9 : decode prog_8_method_44_code 9 = .ok (.invokestatic 131, 3) := zdt v_Md_taken_0 7 (q := (9, .invokestatic 131, 3)) rfl
theorem d_Md_taken_12 : decode prog_8_method_44_code 12 = .ok (.ifCond .eq 16, 3) := zdt v_Md_taken_0 8 (q := (12, .ifCond .eq 16, 3)) rfl
theorem d_Md_taken_15 : decode prog_8_method_44_code 15 = .ok (.iload_n 2, 1) := zdt v_Md_taken_0 9 (q := (15, .iload_n 2, 1)) rfl
theorem d_Md_taken_16 : decode prog_8_method_44_code 16 = .ok (.iconst 0, 1) := zdt v_Md_taken_0 10 (q := (16, .iconst 0, 1)) rfl
theorem d_Md_taken_17 : decode prog_8_method_44_code 17 = .ok (.iconst 1, 1) := zdt v_Md_taken_0 11 (q := (17, .iconst 1, 1)) rfl
theorem d_Md_taken_18 : decode prog_8_method_44_code 18 = .ok (.invokestatic 131, 3) := zdt v_Md_taken_0 12 (q := (18, .invokestatic 131, 3)) rfl
theorem d_Md_taken_21 : decode prog_8_method_44_code 21 = .ok (.ifCond .eq 7, 3) := zdt v_Md_taken_0 13 (q := (21, .ifCond .eq 7, 3)) rfl
theorem d_Md_taken_24 : decode prog_8_method_44_code 24 = .ok (.iconst 0, 1) := zdt v_Md_taken_0 14 (q := (24, .iconst 0, 1)) rfl
theorem d_Md_taken_25 : decode prog_8_method_44_code 25 = .ok (.goto 4, 3) := zdt v_Md_taken_0 15 (q := (25, .goto 4, 3)) rfl
theorem d_Md_taken_28 : decode prog_8_method_44_code 28 = .ok (.iconst 1, 1) := zdt v_Md_taken_0 16 (q := (28, .iconst 1, 1)) rfl
theorem d_Md_taken_29 : decode prog_8_method_44_code 29 = .ok (.putfield 75, 3) := zdt v_Md_taken_0 17 (q := (29, .putfield 75, 3)) rfl
theorem d_Md_taken_32 : decode prog_8_method_44_code 32 = .ok (.aload_n 0, 1) := zdt v_Md_taken_0 18 (q := (32, .aload_n 0, 1)) rfl
theorem d_Md_taken_33 : decode prog_8_method_44_code 33 = .ok (.getfield 75, 3) := zdt v_Md_taken_0 19 (q := (33, .getfield 75, 3)) rfl
theorem d_Md_taken_36 : decode prog_8_method_44_code 36 = .ok (.ifCond .le 7, 3) := zdt v_Md_taken_0 20 (q := (36, .ifCond .le 7, 3)) rfl
theorem d_Md_taken_39 : decode prog_8_method_44_code 39 = .ok (.iconst 0, 1) := zdt v_Md_taken_0 21 (q := (39, .iconst 0, 1)) rfl
theorem d_Md_taken_40 : decode prog_8_method_44_code 40 = .ok (.goto 22, 3) := zdt v_Md_taken_0 22 (q := (40, .goto 22, 3)) rfl
theorem d_Md_taken_43 : decode prog_8_method_44_code 43 = .ok (.iload_n 2, 1) := zdt v_Md_taken_0 23 (q := (43, .iload_n 2, 1)) rfl
theorem d_Md_taken_44 : decode prog_8_method_44_code 44 = .ok (.ifCond .ne 12, 3) := zdt v_Md_taken_0 24 (q := (44, .ifCond .ne 12, 3)) rfl
theorem d_Md_taken_47 : decode prog_8_method_44_code 47 = .ok (.aload_n 0, 1) := zdt v_Md_taken_0 25 (q := (47, .aload_n 0, 1)) rfl
theorem d_Md_taken_48 : decode prog_8_method_44_code 48 = .ok (.getfield 50, 3) := zdt v_Md_taken_0 26 (q := (48, .getfield 50, 3)) rfl
theorem d_Md_taken_51 : decode prog_8_method_44_code 51 = .ok (.iload_n 1, 1) := zdt v_Md_taken_0 27 (q := (51, .iload_n 1, 1)) rfl
theorem d_Md_taken_52 : decode prog_8_method_44_code 52 = .ok (.iaload, 1) := zdt v_Md_taken_0 28 (q := (52, .iaload, 1)) rfl
theorem d_Md_taken_53 : decode prog_8_method_44_code 53 = .ok (.goto 9, 3) := zdt v_Md_taken_0 29 (q := (53, .goto 9, 3)) rfl
theorem d_Md_taken_56 : decode prog_8_method_44_code 56 = .ok (.aload_n 0, 1) := zdt v_Md_taken_0 30 (q := (56, .aload_n 0, 1)) rfl
theorem d_Md_taken_57 : decode prog_8_method_44_code 57 = .ok (.getfield 53, 3) := zdt v_Md_taken_0 31 (q := (57, .getfield 53, 3)) rfl
theorem d_Md_taken_60 : decode prog_8_method_44_code 60 = .ok (.iload_n 1, 1) := zdt v_Md_taken_0 32 (q := (60, .iload_n 1, 1)) rfl
theorem d_Md_taken_61 : decode prog_8_method_44_code 61 = .ok (.iaload, 1) := zdt v_Md_taken_0 33 (q := (61, .iaload, 1)) rfl
theorem d_Md_taken_62 : decode prog_8_method_44_code 62 = .ok (.ireturn, 1) := zdt v_Md_taken_0 34 (q := (62, .ireturn, 1)) rfl
def u_Md_back_0 : List (Nat × Instr × Nat) := [(0, .aload_n 0, 1), (1, .iconst 0, 1), (2, .putfield 75, 3), (5, .aload_n 0, 1), (6, .getfield 114, 3), (9, .istore_n 1, 1), (10, .aload_n 0, 1), (11, .iconst 0, 1), (12, .putfield 114, 3), (15, .iconst 0, 1), (16, .istore_n 2, 1), (17, .iload_n 2, 1), (18, .aload_n 0, 1), (19, .getfield 111, 3), (22, .if_icmp .ge 16, 3), (25, .aload_n 0, 1), (26, .getfield 47, 3), (29, .iload_n 2, 1), (30, .iconst 0, 1), (31, .bastore, 1), (32, .iinc 2 1, 3), (35, .goto (-18), 3), (38, .iload_n 1, 1), (39, .ireturn, 1)]
theorem v_Md_back_0 : u_Md_back_0.all (zdq prog_8_method_45_code) = true := by decide +kernel
theorem d_Md_back_0 : decode prog_8_method_45_code 0 = .ok (.aload_n 0, 1) := zdt v_Md_back_0 0 (q := (0, .aload_n 0, 1)) rfl
theorem d_Md_back_1 : decode prog_8_method_45_code 1 = .ok (.iconst 0, 1) := zdt v_Md_back_0 1 (q := (1, .iconst 0, 1)) rfl
theorem d_Md_back_2 : decode prog_8_method_45_code 2 = .ok (.putfield 75, 3) := zdt v_Md_back_0 2 (q := (2, .putfield 75, 3)) rfl
theorem d_Md_back_5 : decode prog_8_method_45_code 5 = .ok (.aload_n 0, 1) := zdt v_Md_back_0 3 (q := (5, .aload_n 0, 1)) rfl
theorem d_Md_back_6 : decode prog_8_method_45_code 6 = .ok (.getfield 114, 3) := zdt v_Md_back_0 4 (q := (6, .getfield 114, 3)) rfl
theorem d_Md_back_9 : decode prog_8_method_45_code 9 = .ok (.istore_n 1, 1) := zdt v_Md_back_0 5 (q := (9, .istore_n 1, 1)) rfl
theorem d_Md_back_10 : decode prog_8_method_45_code 10 = .ok (.aload_n 0, 1) := zdt v_Md_back_0 6 (q := (10, .aload_n 0, 1)) rfl
theorem d_Md_back_11 : decode prog_8_method_45_code 11 = .ok (.iconst 0, 1) := zdt v_Md_back_0 7 (q := (11, .iconst 0, 1)) rfl
theorem d_Md_back_12 : decode prog_8_method_45_code 12 = .ok (.putfield 114, 3) := zdt v_Md_back_0 8 (q := (12, .putfield 114, 3)) rfl
theorem d_Md_back_15 : decode prog_8_method_45_code 15 = .ok (.iconst 0, 1) := zdt v_Md_back_0 9 (q := (15, .iconst 0, 1)) rfl
theorem d_Md_back_16 : decode prog_8_method_45_code 16 = .ok (.istore_n 2, 1) := zdt v_Md_back_0 10 (q := (16, .istore_n 2, 1)) rfl
theorem d_Md_back_17 : decode prog_8_method_45_code 17 = .ok (.iload_n 2, 1) := zdt v_Md_back_0 11 (q := (17, .iload_n 2, 1)) rfl
theorem d_Md_back_18 : decode prog_8_method_45_code 18 = .ok (.aload_n 0, 1) := zdt v_Md_back_0 12 (q := (18, .aload_n 0, 1)) rfl
theorem d_Md_back_19 : decode prog_8_method_45_code 19 = .ok (.getfield 111, 3) := zdt v_Md_back_0 13 (q := (19, .getfield 111, 3)) rfl
theorem d_Md_back_22 : decode prog_8_method_45_code 22 = .ok (.if_icmp .ge 16, 3) := zdt v_Md_back_0 14 (q := (22, .if_icmp .ge 16, 3)) rfl
theorem d_Md_back_25 : decode prog_8_method_45_code 25 = .ok (.aload_n 0, 1) := zdt v_Md_back_0 15 (q := (25, .aload_n 0, 1)) rfl
theorem d_Md_back_26 : decode prog_8_method_45_code 26 = .ok (.getfield 47, 3) := zdt v_Md_back_0 16 (q := (26, .getfield 47, 3)) rfl
theorem d_Md_back_29 : decode prog_8_method_45_code 29 = .ok (.iload_n 2, 1) := zdt v_Md_back_0 17 (q := (29, .iload_n 2, 1)) rfl
theorem d_Md_back_30 : decode prog_8_method_45_code 30 = .ok (.iconst 0, 1) := zdt v_Md_back_0 18 (q := (30, .iconst 0, 1)) rfl
theorem d_Md_back_31 : decode prog_8_method_45_code 31 = .ok (.bastore, 1) := zdt v_Md_back_0 19 (q := (31, .bastore, 1)) rfl
theorem d_Md_back_32 : decode prog_8_method_45_code 32 = .ok (.iinc 2 1, 3) := zdt v_Md_back_0 20 (q := (32, .iinc 2 1, 3)) rfl
theorem d_Md_back_35 : decode prog_8_method_45_code 35 = .ok (.goto (-18), 3) := zdt v_Md_back_0 21 (q := (35, .goto (-18), 3)) rfl
theorem d_Md_back_38 : decode prog_8_method_45_code 38 = .ok (.iload_n 1, 1) := zdt v_Md_back_0 22 (q := (38, .iload_n 1, 1)) rfl
theorem d_Md_back_39 : decode prog_8_method_45_code 39 = .ok (.ireturn, 1) := zdt v_Md_back_0 23 (q := (39, .ireturn, 1)) rfl
def u_Md_mode_0 : List (Nat × Instr × Nat) := [(0, .aload_n 0, 1), (1, .aload_n 0, 1), (2, .iload_n 1, 1), (3, .invokevirtual 152, 3), (6, .ifCond .eq 7, 3), (9, .iconst 0, 1), (10, .goto 4, 3), (13, .iconst 1, 1), (14, .putfield 75, 3), (17, .aload_n 0, 1), (18, .getfield 75, 3), (21, .ifCond .le 5, 3), (24, .iconst 0, 1), (25, .ireturn, 1), (26, .aload_n 0, 1), (27, .getfield 47, 3), (30, .iload_n 1, 1), (31, .baload, 1), (32, .ifCond .eq 5, 3), (35, .iconst (-1), 1), (36, .ireturn, 1), (37, .iconst 0, 1), (38, .istore_n 2, 1), (39, .iload_n 2, 1), (40, .iconst 3, 1), (41, .if_icmp .ge 21, 3), (44, .aload_n 0, 1), (45, .getfield 62, 3), (48, .iload_n 2, 1), (49, .aload_n 0, 1), (50, .getfield 23, 3), (53, .iload_n 2, 1), (54, .iaload, 1), (55, .iastore, 1), (56, .iinc 2 1, 3), (59, .goto (-20), 3), (62, .aload_n 0, 1), (63, .iload_n 1, 1), (64, .invokevirtual 178, 3), (67, .ifCond .eq 5, 3)]
theorem v_Md_mode_0 : u_Md_mode_0.all (zdq prog_8_method_49_code) = true := by decide +kernel
theorem d_Md_mode_0 : decode prog_8_method_49_code 0 = .ok (.aload_n 0, 1) := zdt v_Md_mode_0 0 (q := (0, .aload_n 0, 1)) rfl
theorem d_Md_mode_1 : decode prog_8_method_49_code 1 = .ok (.aload_n 0, 1) := zdt v_Md_mode_0 1 (q := (1, .aload_n 0, 1)) rfl
theorem d_Md_mode_2 : decode prog_8_method_49_code 2 = .ok (.iload_n 1, 1) := zdt v_Md_mode_0 2 (q := (2, .iload_n 1, 1)) rfl
theorem d_Md_mode_3 : decode prog_8_method_49_code 3 = .ok (.invokevirtual 152, 3) := zdt v_Md_mode_0 3 (q := (3, .invokevirtual 152, 3)) rfl
theorem d_Md_mode_6 : decode prog_8_method_49_code 6 = .ok (.ifCond .eq 7, 3) := zdt v_Md_mode_0 4 (q := (6, .ifCond .eq 7, 3)) rfl
theorem d_Md_mode_9 : decode prog_8_method_49_code 9 = .ok (.iconst 0, 1) := zdt v_Md_mode_0 5 (q := (9, .iconst 0, 1)) rfl
theorem d_Md_mode_10 : decode prog_8_method_49_code 10 = .ok (.goto 4, 3) := zdt v_Md_mode_0 6 (q := (10, .goto 4, 3)) rfl
theorem d_Md_mode_13 : decode prog_8_method_49_code 13 = .ok (.iconst 1, 1) := zdt v_Md_mode_0 7 (q := (13, .iconst 1, 1)) rfl
theorem d_Md_mode_14 : decode prog_8_method_49_code 14 = .ok (.putfield 75, 3) := zdt v_Md_mode_0 8 (q := (14, .putfield 75, 3)) rfl
theorem d_Md_mode_17 : decode prog_8_method_49_code 17 = .ok (.aload_n 0, 1) := zdt v_Md_mode_0 9 (q := (17, .aload_n 0, 1)) rfl
theorem d_Md_mode_18 : decode prog_8_method_49_code 18 = .ok (.getfield 75, 3) := zdt v_Md_mode_0 10 (q := (18, .getfield 75, 3)) rfl
theorem d_Md_mode_21 : decode prog_8_method_49_code 21 = .ok (.ifCond .le 5, 3) := zdt v_Md_mode_0 11 (q := (21, .ifCond .le 5, 3)) rfl
theorem d_Md_mode_24 : decode prog_8_method_49_code 24 = .ok (.iconst 0, 1) := zdt v_Md_mode_0 12 (q := (24, .iconst 0, 1)) rfl
theorem d_Md_mode_25 : decode prog_8_method_49_code 25 = .ok (.ireturn, 1) := zdt v_Md_mode_0 13 (q := (25, .ireturn, 1)) rfl
theorem d_Md_mode_26 : decode prog_8_method_49_code 26 = .ok (.aload_n 0, 1) := zdt v_Md_mode_0 14 (q := (26, .aload_n 0, 1)) rfl
theorem d_Md_mode_27 : decode prog_8_method_49_code 27 = .ok (.getfield 47, 3) := zdt v_Md_mode_0 15 (q := (27, .getfield 47, 3)) rfl
theorem d_Md_mode_30 : decode prog_8_method_49_code 30 = .ok (.iload_n 1, 1) := zdt v_Md_mode_0 16 (q := (30, .iload_n 1, 1)) rfl
theorem d_Md_mode_31 : decode prog_8_method_49_code 31 = .ok (.baload, 1) := zdt v_Md_mode_0 17 (q := (31, .baload, 1)) rfl
theorem d_Md_mode_32 : decode prog_8_method_49_code 32 = .ok (.ifCond .eq 5, 3) := zdt v_Md_mode_0 18 (q := (32, .ifCond .eq 5, 3)) rfl
theorem d_Md_mode_35 : decode prog_8_method_49_code 35 = .ok (.iconst (-1), 1) := zdt v_Md_mode_0 19 (q := (35, .iconst (-1), 1)) rfl
theorem d_Md_mode_36 : decode prog_8_method_49_code 36 = .ok (.ireturn, 1) := zdt v_Md_mode_0 20 (q := (36, .ireturn, 1)) rfl
theorem d_Md_mode_37 : decode prog_8_method_49_code 37 = .ok (.iconst 0, 1) := zdt v_Md_mode_0 21 (q := (37, .iconst 0, 1)) rfl
theorem d_Md_mode_38 : decode prog_8_method_49_code 38 = .ok (.istore_n 2, 1) := zdt v_Md_mode_0 22 (q := (38, .istore_n 2, 1)) rfl
theorem d_Md_mode_39 : decode prog_8_method_49_code 39 = .ok (.iload_n 2, 1) := zdt v_Md_mode_0 23 (q := (39, .iload_n 2, 1)) rfl
theorem d_Md_mode_40 : decode prog_8_method_49_code 40 = .ok (.iconst 3, 1) := zdt v_Md_mode_0 24 (q := (40, .iconst 3, 1)) rfl
theorem d_Md_mode_41 : decode prog_8_method_49_code 41 = .ok (.if_icmp .ge 21, 3) := zdt v_Md_mode_0 25 (q := (41, .if_icmp .ge 21, 3)) rfl
theorem d_Md_mode_44 : decode prog_8_method_49_code 44 = .ok (.aload_n 0, 1) := zdt v_Md_mode_0 26 (q := (44, .aload_n 0, 1)) rfl
theorem d_Md_mode_45 : decode prog_8_method_49_code 45 = .ok (.getfield 62, 3) := zdt v_Md_mode_0 27 (q := (45, .getfield 62, 3)) rfl
theorem d_Md_mode_48 : decode prog_8_method_49_code 48 = .ok (.iload_n 2, 1) := zdt v_Md_mode_0 28 (q := (48, .iload_n 2, 1)) rfl
theorem d_Md_mode_49 : decode prog_8_method_49_code 49 = .ok (.aload_n 0, 1) := zdt v_Md_mode_0 29 (q := (49, .aload_n 0, 1)) rfl
theorem d_Md_mode_50 : decode prog_8_method_49_code 50 = .ok (.getfield 23, 3) := zdt v_Md_mode_0 30 (q := (50, .getfield 23, 3)) rfl
theorem d_Md_mode_53 : decode prog_8_method_49_code 53 = .ok (.iload_n 2, 1) := zdt v_Md_mode_0 31 (q := (53, .iload_n 2, 1)) rfl
theorem d_Md_mode_54 : decode prog_8_method_49_code 54 = .ok (.iaload, 1) := zdt v_Md_mode_0 32 (q := (54, .iaload, 1)) rfl
theorem d_Md_mode_55 : decode prog_8_method_49_code 55 = .ok (.iastore, 1) := zdt v_Md_mode_0 33 (q := (55, .iastore, 1)) rfl
theorem d_Md_mode_56 : decode prog_8_method_49_code 56 = .ok (.iinc 2 1, 3) := zdt v_Md_mode_0 34 (q := (56, .iinc 2 1, 3)) rfl
theorem d_Md_mode_59 : decode prog_8_method_49_code 59 = .ok (.goto (-20), 3) := zdt v_Md_mode_0 35 (q := (59, .goto (-20), 3)) rfl
theorem d_Md_mode_62 : decode prog_8_method_49_code 62 = .ok (.aload_n 0, 1) := zdt v_Md_mode_0 36 (q := (62, .aload_n 0, 1)) rfl
theorem d_Md_mode_63 : decode prog_8_method_49_code 63 = .ok (.iload_n 1, 1) := zdt v_Md_mode_0 37 (q := (63, .iload_n 1, 1)) rfl
theorem d_Md_mode_64 : decode prog_8_method_49_code 64 = .ok (.invokevirtual 178, 3) := zdt v_Md_mode_0 38 (q := (64, .invokevirtual 178, 3)) rfl
theorem d_Md_mode_67 : decode prog_8_method_49_code 67 = .ok (.ifCond .eq 5, 3) := zdt v_Md_mode_0 39 (q := (67, .ifCond .eq 5, 3)) rfl
def u_Md_mode_1 : List (Nat × Instr × Nat) := [(70, .iconst 1, 1), (71, .ireturn, 1), (72, .iconst 0, 1), (73, .istore_n 2, 1), (74, .iload_n 2, 1), (75, .bipush 12, 2), (77, .if_icmp .ge 23, 3), (80, .aload_n 0, 1), (81, .iload_n 1, 1), (82, .iload_n 2, 1), (83, .invokevirtual 191, 3), (86, .ifCond .eq 8, 3), (89, .bipush 10, 2), (91, .iload_n 2, 1), (92, .iadd, 1), (93, .ireturn, 1), (94, .iinc 2 1, 3), (97, .goto (-23), 3), (100, .iconst 0, 1), (101, .istore_n 2, 1), (102, .iload_n 2, 1), (103, .bipush 12, 2), (105, .if_icmp .ge 45, 3), (108, .iload_n 2, 1), (109, .iconst 1, 1), (110, .iadd, 1), (111, .istore_n 3, 1), (112, .iload_n 3, 1), (113, .bipush 12, 2), (115, .if_icmp .ge 29, 3), (118, .aload_n 0, 1), (119, .iload_n 1, 1), (120, .iload_n 2, 1), (121, .iload_n 3, 1), (122, .invokevirtual 194, 3), (125, .ifCond .eq 13, 3), (128, .bipush 100, 2), (130, .bipush 12, 2), (132, .iload_n 2, 1), (133, .imul, 1)]
theorem v_Md_mode_1 : u_Md_mode_1.all (zdq prog_8_method_49_code) = true := by decide +kernel
theorem d_Md_mode_70 : decode prog_8_method_49_code 70 = .ok (.iconst 1, 1) := zdt v_Md_mode_1 0 (q := (70, .iconst 1, 1)) rfl
theorem d_Md_mode_71 : decode prog_8_method_49_code 71 = .ok (.ireturn, 1) := zdt v_Md_mode_1 1 (q := (71, .ireturn, 1)) rfl
theorem d_Md_mode_72 : decode prog_8_method_49_code 72 = .ok (.iconst 0, 1) := zdt v_Md_mode_1 2 (q := (72, .iconst 0, 1)) rfl
theorem d_Md_mode_73 : decode prog_8_method_49_code 73 = .ok (.istore_n 2, 1) := zdt v_Md_mode_1 3 (q := (73, .istore_n 2, 1)) rfl
theorem d_Md_mode_74 : decode prog_8_method_49_code 74 = .ok (.iload_n 2, 1) := zdt v_Md_mode_1 4 (q := (74, .iload_n 2, 1)) rfl
theorem d_Md_mode_75 : decode prog_8_method_49_code 75 = .ok (.bipush 12, 2) := zdt v_Md_mode_1 5 (q := (75, .bipush 12, 2)) rfl
theorem d_Md_mode_77 : decode prog_8_method_49_code 77 = .ok (.if_icmp .ge 23, 3) := zdt v_Md_mode_1 6 (q := (77, .if_icmp .ge 23, 3)) rfl
theorem d_Md_mode_80 : decode prog_8_method_49_code 80 = .ok (.aload_n 0, 1) := zdt v_Md_mode_1 7 (q := (80, .aload_n 0, 1)) rfl
theorem d_Md_mode_81 : decode prog_8_method_49_code 81 = .ok (.iload_n 1, 1) := zdt v_Md_mode_1 8 (q := (81, .iload_n 1, 1)) rfl
theorem d_Md_mode_82 : decode prog_8_method_49_code 82 = .ok (.iload_n 2, 1) := zdt v_Md_mode_1 9 (q := (82, .iload_n 2, 1)) rfl
theorem d_Md_mode_83 : decode prog_8_method_49_code 83 = .ok (.invokevirtual 191, 3) := zdt v_Md_mode_1 10 (q := (83, .invokevirtual 191, 3)) rfl
theorem d_Md_mode_86 : decode prog_8_method_49_code 86 = .ok (.ifCond .eq 8, 3) := zdt v_Md_mode_1 11 (q := (86, .ifCond .eq 8, 3)) rfl
theorem d_Md_mode_89 : decode prog_8_method_49_code 89 = .ok (.bipush 10, 2) := zdt v_Md_mode_1 12 (q := (89, .bipush 10, 2)) rfl
theorem d_Md_mode_91 : decode prog_8_method_49_code 91 = .ok (.iload_n 2, 1) := zdt v_Md_mode_1 13 (q := (91, .iload_n 2, 1)) rfl
theorem d_Md_mode_92 : decode prog_8_method_49_code 92 = .ok (.iadd, 1) := zdt v_Md_mode_1 14 (q := (92, .iadd, 1)) rfl
theorem d_Md_mode_93 : decode prog_8_method_49_code 93 = .ok (.ireturn, 1) := zdt v_Md_mode_1 15 (q := (93, .ireturn, 1)) rfl
theorem d_Md_mode_94 : decode prog_8_method_49_code 94 = .ok (.iinc 2 1, 3) := zdt v_Md_mode_1 16 (q := (94, .iinc 2 1, 3)) rfl
theorem d_Md_mode_97 : decode prog_8_method_49_code 97 = .ok (.goto (-23), 3) := zdt v_Md_mode_1 17 (q := (97, .goto (-23), 3)) rfl
theorem d_Md_mode_100 : decode prog_8_method_49_code 100 = .ok (.iconst 0, 1) := zdt v_Md_mode_1 18 (q := (100, .iconst 0, 1)) rfl
theorem d_Md_mode_101 : decode prog_8_method_49_code 101 = .ok (.istore_n 2, 1) := zdt v_Md_mode_1 19 (q := (101, .istore_n 2, 1)) rfl
theorem d_Md_mode_102 : decode prog_8_method_49_code 102 = .ok (.iload_n 2, 1) := zdt v_Md_mode_1 20 (q := (102, .iload_n 2, 1)) rfl
theorem d_Md_mode_103 : decode prog_8_method_49_code 103 = .ok (.bipush 12, 2) := zdt v_Md_mode_1 21 (q := (103, .bipush 12, 2)) rfl
theorem d_Md_mode_105 : decode prog_8_method_49_code 105 = .ok (.if_icmp .ge 45, 3) := zdt v_Md_mode_1 22 (q := (105, .if_icmp .ge 45, 3)) rfl
theorem d_Md_mode_108 : decode prog_8_method_49_code 108 = .ok (.iload_n 2, 1) := zdt v_Md_mode_1 23 (q := (108, .iload_n 2, 1)) rfl
theorem d_Md_mode_109 : decode prog_8_method_49_code 109 = .ok (.iconst 1, 1) := zdt v_Md_mode_1 24 (q := (109, .iconst 1, 1)) rfl
theorem d_Md_mode_110 : decode prog_8_method_49_code 110 = .ok (.iadd, 1) := zdt v_Md_mode_1 25 (q := (110, .iadd, 1)) rfl
theorem d_Md_mode_111 : decode prog_8_method_49_code 111 = .ok (.istore_n 3, 1) := zdt v_Md_mode_1 26 (q := (111, .istore_n 3, 1)) rfl
theorem d_Md_mode_112 : decode prog_8_method_49_code 112 = .ok (.iload_n 3, 1) := zdt v_Md_mode_1 27 (q := (112, .iload_n 3, 1)) rfl
theorem d_Md_mode_113 : decode prog_8_method_49_code 113 = .ok (.bipush 12, 2) := zdt v_Md_mode_1 28 (q := (113, .bipush 12, 2)) rfl
theorem d_Md_mode_115 : decode prog_8_method_49_code 115 = .ok (.if_icmp .ge 29, 3) := zdt v_Md_mode_1 29 (q := (115, .if_icmp .ge 29, 3)) rfl
theorem d_Md_mode_118 : decode prog_8_method_49_code 118 = .ok (.aload_n 0, 1) := zdt v_Md_mode_1 30 (q := (118, .aload_n 0, 1)) rfl
theorem d_Md_mode_119 : decode prog_8_method_49_code 119 = .ok (.iload_n 1, 1) := zdt v_Md_mode_1 31 (q := (119, .iload_n 1, 1)) rfl
theorem d_Md_mode_120 : decode prog_8_method_49_code 120 = .ok (.iload_n 2, 1) := zdt v_Md_mode_1 32 (q := (120, .iload_n 2, 1)) rfl
theorem d_Md_mode_121 : decode prog_8_method_49_code 121 = .ok (.iload_n 3, 1) := zdt v_Md_mode_1 33 (q := (121, .iload_n 3, 1)) rfl
theorem d_Md_mode_122 : decode prog_8_method_49_code 122 = .ok (.invokevirtual 194, 3) := zdt v_Md_mode_1 34 (q := (122, .invokevirtual 194, 3)) rfl
theorem d_Md_mode_125 : decode prog_8_method_49_code 125 = .ok (.ifCond .eq 13, 3) := zdt v_Md_mode_1 35 (q := (125, .ifCond .eq 13, 3)) rfl
theorem d_Md_mode_128 : decode prog_8_method_49_code 128 = .ok (.bipush 100, 2) := zdt v_Md_mode_1 36 (q := (128, .bipush 100, 2)) rfl
theorem d_Md_mode_130 : decode prog_8_method_49_code 130 = .ok (.bipush 12, 2) := zdt v_Md_mode_1 37 (q := (130, .bipush 12, 2)) rfl
theorem d_Md_mode_132 : decode prog_8_method_49_code 132 = .ok (.iload_n 2, 1) := zdt v_Md_mode_1 38 (q := (132, .iload_n 2, 1)) rfl
theorem d_Md_mode_133 : decode prog_8_method_49_code 133 = .ok (.imul, 1) := zdt v_Md_mode_1 39 (q := (133, .imul, 1)) rfl
def u_Md_mode_2 : List (Nat × Instr × Nat) := [(134, .iadd, 1), (135, .iload_n 3, 1), (136, .iadd, 1), (137, .ireturn, 1), (138, .iinc 3 1, 3), (141, .goto (-29), 3), (144, .iinc 2 1, 3), (147, .goto (-45), 3), (150, .iconst 0, 1), (151, .ireturn, 1)]
theorem v_Md_mode_2 : u_Md_mode_2.all (zdq prog_8_method_49_code) = true := by decide +kernel
theorem d_Md_mode_134 : decode prog_8_method_49_code 134 = .ok (.iadd, 1) := zdt v_Md_mode_2 0 (q := (134, .iadd, 1)) rfl
theorem d_Md_mode_135 : decode prog_8_method_49_code 135 = .ok (.iload_n 3, 1) := zdt v_Md_mode_2 1 (q := (135, .iload_n 3, 1)) rfl
theorem d_Md_mode_136 : decode prog_8_method_49_code 136 = .ok (.iadd, 1) := zdt v_Md_mode_2 2 (q := (136, .iadd, 1)) rfl
theorem d_Md_mode_137 : decode prog_8_method_49_code 137 = .ok (.ireturn, 1) := zdt v_Md_mode_2 3 (q := (137, .ireturn, 1)) rfl
theorem d_Md_mode_138 : decode prog_8_method_49_code 138 = .ok (.iinc 3 1, 3) := zdt v_Md_mode_2 4 (q := (138, .iinc 3 1, 3)) rfl
theorem d_Md_mode_141 : decode prog_8_method_49_code 141 = .ok (.goto (-29), 3) := zdt v_Md_mode_2 5 (q := (141, .goto (-29), 3)) rfl
theorem d_Md_mode_144 : decode prog_8_method_49_code 144 = .ok (.iinc 2 1, 3) := zdt v_Md_mode_2 6 (q := (144, .iinc 2 1, 3)) rfl
theorem d_Md_mode_147 : decode prog_8_method_49_code 147 = .ok (.goto (-45), 3) := zdt v_Md_mode_2 7 (q := (147, .goto (-45), 3)) rfl
theorem d_Md_mode_150 : decode prog_8_method_49_code 150 = .ok (.iconst 0, 1) := zdt v_Md_mode_2 8 (q := (150, .iconst 0, 1)) rfl
theorem d_Md_mode_151 : decode prog_8_method_49_code 151 = .ok (.ireturn, 1) := zdt v_Md_mode_2 9 (q := (151, .ireturn, 1)) rfl
def u_Md_slidesOn_0 : List (Nat × Instr × Nat) := [(0, .aload_n 0, 1), (1, .iload_n 1, 1), (2, .iload_n 2, 1), (3, .invokevirtual 167, 3), (6, .ifCond .ne 5, 3), (9, .iconst 0, 1), (10, .ireturn, 1), (11, .aload_n 0, 1), (12, .iload_n 1, 1), (13, .iload_n 2, 1), (14, .aload_n 0, 1), (15, .getfield 56, 3), (18, .invokevirtual 170, 3), (21, .aload_n 0, 1), (22, .aload_n 0, 1), (23, .getfield 56, 3), (26, .aload_n 0, 1), (27, .getfield 62, 3), (30, .invokevirtual 187, 3), (33, .aload_n 0, 1), (34, .getfield 23, 3), (37, .aload_n 0, 1), (38, .getfield 56, 3), (41, .invokestatic 174, 3), (44, .ifCond .ge 15, 3), (47, .aload_n 0, 1), (48, .iload_n 1, 1), (49, .invokevirtual 178, 3), (52, .ifCond .eq 7, 3), (55, .iconst 1, 1), (56, .goto 4, 3), (59, .iconst 0, 1), (60, .ireturn, 1)]
theorem v_Md_slidesOn_0 : u_Md_slidesOn_0.all (zdq prog_8_method_47_code) = true := by decide +kernel
theorem d_Md_slidesOn_0 : decode prog_8_method_47_code 0 = .ok (.aload_n 0, 1) := zdt v_Md_slidesOn_0 0 (q := (0, .aload_n 0, 1)) rfl
theorem d_Md_slidesOn_1 : decode prog_8_method_47_code 1 = .ok (.iload_n 1, 1) := zdt v_Md_slidesOn_0 1 (q := (1, .iload_n 1, 1)) rfl
theorem d_Md_slidesOn_2 : decode prog_8_method_47_code 2 = .ok (.iload_n 2, 1) := zdt v_Md_slidesOn_0 2 (q := (2, .iload_n 2, 1)) rfl
theorem d_Md_slidesOn_3 : decode prog_8_method_47_code 3 = .ok (.invokevirtual 167, 3) := zdt v_Md_slidesOn_0 3 (q := (3, .invokevirtual 167, 3)) rfl
theorem d_Md_slidesOn_6 : decode prog_8_method_47_code 6 = .ok (.ifCond .ne 5, 3) := zdt v_Md_slidesOn_0 4 (q := (6, .ifCond .ne 5, 3)) rfl
theorem d_Md_slidesOn_9 : decode prog_8_method_47_code 9 = .ok (.iconst 0, 1) := zdt v_Md_slidesOn_0 5 (q := (9, .iconst 0, 1)) rfl
theorem d_Md_slidesOn_10 : decode prog_8_method_47_code 10 = .ok (.ireturn, 1) := zdt v_Md_slidesOn_0 6 (q := (10, .ireturn, 1)) rfl
theorem d_Md_slidesOn_11 : decode prog_8_method_47_code 11 = .ok (.aload_n 0, 1) := zdt v_Md_slidesOn_0 7 (q := (11, .aload_n 0, 1)) rfl
theorem d_Md_slidesOn_12 : decode prog_8_method_47_code 12 = .ok (.iload_n 1, 1) := zdt v_Md_slidesOn_0 8 (q := (12, .iload_n 1, 1)) rfl
theorem d_Md_slidesOn_13 : decode prog_8_method_47_code 13 = .ok (.iload_n 2, 1) := zdt v_Md_slidesOn_0 9 (q := (13, .iload_n 2, 1)) rfl
theorem d_Md_slidesOn_14 : decode prog_8_method_47_code 14 = .ok (.aload_n 0, 1) := zdt v_Md_slidesOn_0 10 (q := (14, .aload_n 0, 1)) rfl
theorem d_Md_slidesOn_15 : decode prog_8_method_47_code 15 = .ok (.getfield 56, 3) := zdt v_Md_slidesOn_0 11 (q := (15, .getfield 56, 3)) rfl
theorem d_Md_slidesOn_18 : decode prog_8_method_47_code 18 = .ok (.invokevirtual 170, 3) := zdt v_Md_slidesOn_0 12 (q := (18, .invokevirtual 170, 3)) rfl
theorem d_Md_slidesOn_21 : decode prog_8_method_47_code 21 = .ok (.aload_n 0, 1) := zdt v_Md_slidesOn_0 13 (q := (21, .aload_n 0, 1)) rfl
theorem d_Md_slidesOn_22 : decode prog_8_method_47_code 22 = .ok (.aload_n 0, 1) := zdt v_Md_slidesOn_0 14 (q := (22, .aload_n 0, 1)) rfl
theorem d_Md_slidesOn_23 : decode prog_8_method_47_code 23 = .ok (.getfield 56, 3) := zdt v_Md_slidesOn_0 15 (q := (23, .getfield 56, 3)) rfl
theorem d_Md_slidesOn_26 : decode prog_8_method_47_code 26 = .ok (.aload_n 0, 1) := zdt v_Md_slidesOn_0 16 (q := (26, .aload_n 0, 1)) rfl
theorem d_Md_slidesOn_27 : decode prog_8_method_47_code 27 = .ok (.getfield 62, 3) := zdt v_Md_slidesOn_0 17 (q := (27, .getfield 62, 3)) rfl
theorem d_Md_slidesOn_30 : decode prog_8_method_47_code 30 = .ok (.invokevirtual 187, 3) := zdt v_Md_slidesOn_0 18 (q := (30, .invokevirtual 187, 3)) rfl
theorem d_Md_slidesOn_33 : decode prog_8_method_47_code 33 = .ok (.aload_n 0, 1) := zdt v_Md_slidesOn_0 19 (q := (33, .aload_n 0, 1)) rfl
theorem d_Md_slidesOn_34 : decode prog_8_method_47_code 34 = .ok (.getfield 23, 3) := zdt v_Md_slidesOn_0 20 (q := (34, .getfield 23, 3)) rfl
theorem d_Md_slidesOn_37 : decode prog_8_method_47_code 37 = .ok (.aload_n 0, 1) := zdt v_Md_slidesOn_0 21 (q := (37, .aload_n 0, 1)) rfl
theorem d_Md_slidesOn_38 : decode prog_8_method_47_code 38 = .ok (.getfield 56, 3) := zdt v_Md_slidesOn_0 22 (q := (38, .getfield 56, 3)) rfl
theorem d_Md_slidesOn_41 : decode prog_8_method_47_code 41 = .ok (.invokestatic 174, 3) := zdt v_Md_slidesOn_0 23 (q := (41, .invokestatic 174, 3)) rfl
theorem d_Md_slidesOn_44 : decode prog_8_method_47_code 44 = .ok (.ifCond .ge 15, 3) := zdt v_Md_slidesOn_0 24 (q := (44, .ifCond .ge 15, 3)) rfl
theorem d_Md_slidesOn_47 : decode prog_8_method_47_code 47 = .ok (.aload_n 0, 1) := zdt v_Md_slidesOn_0 25 (q := (47, .aload_n 0, 1)) rfl
theorem d_Md_slidesOn_48 : decode prog_8_method_47_code 48 = .ok (.iload_n 1, 1) := zdt v_Md_slidesOn_0 26 (q := (48, .iload_n 1, 1)) rfl
theorem d_Md_slidesOn_49 : decode prog_8_method_47_code 49 = .ok (.invokevirtual 178, 3) := zdt v_Md_slidesOn_0 27 (q := (49, .invokevirtual 178, 3)) rfl
theorem d_Md_slidesOn_52 : decode prog_8_method_47_code 52 = .ok (.ifCond .eq 7, 3) := zdt v_Md_slidesOn_0 28 (q := (52, .ifCond .eq 7, 3)) rfl
theorem d_Md_slidesOn_55 : decode prog_8_method_47_code 55 = .ok (.iconst 1, 1) := zdt v_Md_slidesOn_0 29 (q := (55, .iconst 1, 1)) rfl
theorem d_Md_slidesOn_56 : decode prog_8_method_47_code 56 = .ok (.goto 4, 3) := zdt v_Md_slidesOn_0 30 (q := (56, .goto 4, 3)) rfl
theorem d_Md_slidesOn_59 : decode prog_8_method_47_code 59 = .ok (.iconst 0, 1) := zdt v_Md_slidesOn_0 31 (q := (59, .iconst 0, 1)) rfl
theorem d_Md_slidesOn_60 : decode prog_8_method_47_code 60 = .ok (.ireturn, 1) := zdt v_Md_slidesOn_0 32 (q := (60, .ireturn, 1)) rfl
def u_Md_slide_0 : List (Nat × Instr × Nat) := [(0, .aload_n 1, 1), (1, .aload_n 1, 1), (2, .invokestatic 174, 3), (5, .istore_n 3, 1), (6, .aload_n 0, 1), (7, .getfield 23, 3), (10, .aload_n 1, 1), (11, .invokestatic 174, 3), (14, .istore 4, 2), (16, .iconst 0, 1), (17, .istore 5, 2), (19, .iload 5, 2), (21, .iconst 3, 1), (22, .if_icmp .ge 30, 3), (25, .aload_n 2, 1), (26, .iload 5, 2), (28, .aload_n 0, 1), (29, .getfield 23, 3), (32, .iload 5, 2), (34, .iaload, 1), (35, .iload_n 3, 1), (36, .imul, 1), (37, .aload_n 1, 1), (38, .iload 5, 2), (40, .iaload, 1), (41, .iload 4, 2), (43, .imul, 1), (44, .isub, 1), (45, .iastore, 1), (46, .iinc 5 1, 3), (49, .goto (-30), 3), (52, .return_, 1)]
theorem v_Md_slide_0 : u_Md_slide_0.all (zdq prog_8_method_46_code) = true := by decide +kernel
theorem d_Md_slide_0 : decode prog_8_method_46_code 0 = .ok (.aload_n 1, 1) := zdt v_Md_slide_0 0 (q := (0, .aload_n 1, 1)) rfl
theorem d_Md_slide_1 : decode prog_8_method_46_code 1 = .ok (.aload_n 1, 1) := zdt v_Md_slide_0 1 (q := (1, .aload_n 1, 1)) rfl
theorem d_Md_slide_2 : decode prog_8_method_46_code 2 = .ok (.invokestatic 174, 3) := zdt v_Md_slide_0 2 (q := (2, .invokestatic 174, 3)) rfl
theorem d_Md_slide_5 : decode prog_8_method_46_code 5 = .ok (.istore_n 3, 1) := zdt v_Md_slide_0 3 (q := (5, .istore_n 3, 1)) rfl
theorem d_Md_slide_6 : decode prog_8_method_46_code 6 = .ok (.aload_n 0, 1) := zdt v_Md_slide_0 4 (q := (6, .aload_n 0, 1)) rfl
theorem d_Md_slide_7 : decode prog_8_method_46_code 7 = .ok (.getfield 23, 3) := zdt v_Md_slide_0 5 (q := (7, .getfield 23, 3)) rfl
theorem d_Md_slide_10 : decode prog_8_method_46_code 10 = .ok (.aload_n 1, 1) := zdt v_Md_slide_0 6 (q := (10, .aload_n 1, 1)) rfl
theorem d_Md_slide_11 : decode prog_8_method_46_code 11 = .ok (.invokestatic 174, 3) := zdt v_Md_slide_0 7 (q := (11, .invokestatic 174, 3)) rfl
theorem d_Md_slide_14 : decode prog_8_method_46_code 14 = .ok (.istore 4, 2) := zdt v_Md_slide_0 8 (q := (14, .istore 4, 2)) rfl
theorem d_Md_slide_16 : decode prog_8_method_46_code 16 = .ok (.iconst 0, 1) := zdt v_Md_slide_0 9 (q := (16, .iconst 0, 1)) rfl
theorem d_Md_slide_17 : decode prog_8_method_46_code 17 = .ok (.istore 5, 2) := zdt v_Md_slide_0 10 (q := (17, .istore 5, 2)) rfl
theorem d_Md_slide_19 : decode prog_8_method_46_code 19 = .ok (.iload 5, 2) := zdt v_Md_slide_0 11 (q := (19, .iload 5, 2)) rfl
theorem d_Md_slide_21 : decode prog_8_method_46_code 21 = .ok (.iconst 3, 1) := zdt v_Md_slide_0 12 (q := (21, .iconst 3, 1)) rfl
theorem d_Md_slide_22 : decode prog_8_method_46_code 22 = .ok (.if_icmp .ge 30, 3) := zdt v_Md_slide_0 13 (q := (22, .if_icmp .ge 30, 3)) rfl
theorem d_Md_slide_25 : decode prog_8_method_46_code 25 = .ok (.aload_n 2, 1) := zdt v_Md_slide_0 14 (q := (25, .aload_n 2, 1)) rfl
theorem d_Md_slide_26 : decode prog_8_method_46_code 26 = .ok (.iload 5, 2) := zdt v_Md_slide_0 15 (q := (26, .iload 5, 2)) rfl
theorem d_Md_slide_28 : decode prog_8_method_46_code 28 = .ok (.aload_n 0, 1) := zdt v_Md_slide_0 16 (q := (28, .aload_n 0, 1)) rfl
theorem d_Md_slide_29 : decode prog_8_method_46_code 29 = .ok (.getfield 23, 3) := zdt v_Md_slide_0 17 (q := (29, .getfield 23, 3)) rfl
theorem d_Md_slide_32 : decode prog_8_method_46_code 32 = .ok (.iload 5, 2) := zdt v_Md_slide_0 18 (q := (32, .iload 5, 2)) rfl
theorem d_Md_slide_34 : decode prog_8_method_46_code 34 = .ok (.iaload, 1) := zdt v_Md_slide_0 19 (q := (34, .iaload, 1)) rfl
theorem d_Md_slide_35 : decode prog_8_method_46_code 35 = .ok (.iload_n 3, 1) := zdt v_Md_slide_0 20 (q := (35, .iload_n 3, 1)) rfl
theorem d_Md_slide_36 : decode prog_8_method_46_code 36 = .ok (.imul, 1) := zdt v_Md_slide_0 21 (q := (36, .imul, 1)) rfl
theorem d_Md_slide_37 : decode prog_8_method_46_code 37 = .ok (.aload_n 1, 1) := zdt v_Md_slide_0 22 (q := (37, .aload_n 1, 1)) rfl
theorem d_Md_slide_38 : decode prog_8_method_46_code 38 = .ok (.iload 5, 2) := zdt v_Md_slide_0 23 (q := (38, .iload 5, 2)) rfl
theorem d_Md_slide_40 : decode prog_8_method_46_code 40 = .ok (.iaload, 1) := zdt v_Md_slide_0 24 (q := (40, .iaload, 1)) rfl
theorem d_Md_slide_41 : decode prog_8_method_46_code 41 = .ok (.iload 4, 2) := zdt v_Md_slide_0 25 (q := (41, .iload 4, 2)) rfl
theorem d_Md_slide_43 : decode prog_8_method_46_code 43 = .ok (.imul, 1) := zdt v_Md_slide_0 26 (q := (43, .imul, 1)) rfl
theorem d_Md_slide_44 : decode prog_8_method_46_code 44 = .ok (.isub, 1) := zdt v_Md_slide_0 27 (q := (44, .isub, 1)) rfl
theorem d_Md_slide_45 : decode prog_8_method_46_code 45 = .ok (.iastore, 1) := zdt v_Md_slide_0 28 (q := (45, .iastore, 1)) rfl
theorem d_Md_slide_46 : decode prog_8_method_46_code 46 = .ok (.iinc 5 1, 3) := zdt v_Md_slide_0 29 (q := (46, .iinc 5 1, 3)) rfl
theorem d_Md_slide_49 : decode prog_8_method_46_code 49 = .ok (.goto (-30), 3) := zdt v_Md_slide_0 30 (q := (49, .goto (-30), 3)) rfl
theorem d_Md_slide_52 : decode prog_8_method_46_code 52 = .ok (.return_, 1) := zdt v_Md_slide_0 31 (q := (52, .return_, 1)) rfl
def u_Md_slidesAlong_0 : List (Nat × Instr × Nat) := [(0, .aload_n 0, 1), (1, .iload_n 1, 1), (2, .iload_n 2, 1), (3, .invokevirtual 167, 3), (6, .ifCond .eq 12, 3), (9, .aload_n 0, 1), (10, .iload_n 1, 1), (11, .iload_n 3, 1), (12, .invokevirtual 167, 3), (15, .ifCond .ne 5, 3), (18, .iconst 0, 1), (19, .ireturn, 1), (20, .aload_n 0, 1), (21, .iload_n 1, 1), (22, .iload_n 2, 1), (23, .aload_n 0, 1), (24, .getfield 56, 3), (27, .invokevirtual 170, 3), (30, .aload_n 0, 1), (31, .iload_n 1, 1), (32, .iload_n 3, 1), (33, .aload_n 0, 1), (34, .getfield 59, 3), (37, .invokevirtual 170, 3), (40, .aload_n 0, 1), (41, .aload_n 0, 1), (42, .getfield 56, 3), (45, .aload_n 0, 1), (46, .getfield 65, 3), (49, .invokevirtual 187, 3), (52, .aload_n 0, 1), (53, .getfield 65, 3), (56, .aload_n 0, 1), (57, .getfield 59, 3), (60, .invokestatic 174, 3), (63, .ifCond .ge 7, 3), (66, .iconst 1, 1), (67, .goto 4, 3), (70, .iconst 0, 1), (71, .istore 4, 2)]
theorem v_Md_slidesAlong_0 : u_Md_slidesAlong_0.all (zdq prog_8_method_48_code) = true := by decide +kernel
theorem d_Md_slidesAlong_0 : decode prog_8_method_48_code 0 = .ok (.aload_n 0, 1) := zdt v_Md_slidesAlong_0 0 (q := (0, .aload_n 0, 1)) rfl
theorem d_Md_slidesAlong_1 : decode prog_8_method_48_code 1 = .ok (.iload_n 1, 1) := zdt v_Md_slidesAlong_0 1 (q := (1, .iload_n 1, 1)) rfl
theorem d_Md_slidesAlong_2 : decode prog_8_method_48_code 2 = .ok (.iload_n 2, 1) := zdt v_Md_slidesAlong_0 2 (q := (2, .iload_n 2, 1)) rfl
theorem d_Md_slidesAlong_3 : decode prog_8_method_48_code 3 = .ok (.invokevirtual 167, 3) := zdt v_Md_slidesAlong_0 3 (q := (3, .invokevirtual 167, 3)) rfl
theorem d_Md_slidesAlong_6 : decode prog_8_method_48_code 6 = .ok (.ifCond .eq 12, 3) := zdt v_Md_slidesAlong_0 4 (q := (6, .ifCond .eq 12, 3)) rfl
theorem d_Md_slidesAlong_9 : decode prog_8_method_48_code 9 = .ok (.aload_n 0, 1) := zdt v_Md_slidesAlong_0 5 (q := (9, .aload_n 0, 1)) rfl
theorem d_Md_slidesAlong_10 : decode prog_8_method_48_code 10 = .ok (.iload_n 1, 1) := zdt v_Md_slidesAlong_0 6 (q := (10, .iload_n 1, 1)) rfl
theorem d_Md_slidesAlong_11 : decode prog_8_method_48_code 11 = .ok (.iload_n 3, 1) := zdt v_Md_slidesAlong_0 7 (q := (11, .iload_n 3, 1)) rfl
theorem d_Md_slidesAlong_12 : decode prog_8_method_48_code 12 = .ok (.invokevirtual 167, 3) := zdt v_Md_slidesAlong_0 8 (q := (12, .invokevirtual 167, 3)) rfl
theorem d_Md_slidesAlong_15 : decode prog_8_method_48_code 15 = .ok (.ifCond .ne 5, 3) := zdt v_Md_slidesAlong_0 9 (q := (15, .ifCond .ne 5, 3)) rfl
theorem d_Md_slidesAlong_18 : decode prog_8_method_48_code 18 = .ok (.iconst 0, 1) := zdt v_Md_slidesAlong_0 10 (q := (18, .iconst 0, 1)) rfl
theorem d_Md_slidesAlong_19 : decode prog_8_method_48_code 19 = .ok (.ireturn, 1) := zdt v_Md_slidesAlong_0 11 (q := (19, .ireturn, 1)) rfl
theorem d_Md_slidesAlong_20 : decode prog_8_method_48_code 20 = .ok (.aload_n 0, 1) := zdt v_Md_slidesAlong_0 12 (q := (20, .aload_n 0, 1)) rfl
theorem d_Md_slidesAlong_21 : decode prog_8_method_48_code 21 = .ok (.iload_n 1, 1) := zdt v_Md_slidesAlong_0 13 (q := (21, .iload_n 1, 1)) rfl
theorem d_Md_slidesAlong_22 : decode prog_8_method_48_code 22 = .ok (.iload_n 2, 1) := zdt v_Md_slidesAlong_0 14 (q := (22, .iload_n 2, 1)) rfl
theorem d_Md_slidesAlong_23 : decode prog_8_method_48_code 23 = .ok (.aload_n 0, 1) := zdt v_Md_slidesAlong_0 15 (q := (23, .aload_n 0, 1)) rfl
theorem d_Md_slidesAlong_24 : decode prog_8_method_48_code 24 = .ok (.getfield 56, 3) := zdt v_Md_slidesAlong_0 16 (q := (24, .getfield 56, 3)) rfl
theorem d_Md_slidesAlong_27 : decode prog_8_method_48_code 27 = .ok (.invokevirtual 170, 3) := zdt v_Md_slidesAlong_0 17 (q := (27, .invokevirtual 170, 3)) rfl
theorem d_Md_slidesAlong_30 : decode prog_8_method_48_code 30 = .ok (.aload_n 0, 1) := zdt v_Md_slidesAlong_0 18 (q := (30, .aload_n 0, 1)) rfl
theorem d_Md_slidesAlong_31 : decode prog_8_method_48_code 31 = .ok (.iload_n 1, 1) := zdt v_Md_slidesAlong_0 19 (q := (31, .iload_n 1, 1)) rfl
theorem d_Md_slidesAlong_32 : decode prog_8_method_48_code 32 = .ok (.iload_n 3, 1) := zdt v_Md_slidesAlong_0 20 (q := (32, .iload_n 3, 1)) rfl
theorem d_Md_slidesAlong_33 : decode prog_8_method_48_code 33 = .ok (.aload_n 0, 1) := zdt v_Md_slidesAlong_0 21 (q := (33, .aload_n 0, 1)) rfl
theorem d_Md_slidesAlong_34 : decode prog_8_method_48_code 34 = .ok (.getfield 59, 3) := zdt v_Md_slidesAlong_0 22 (q := (34, .getfield 59, 3)) rfl
theorem d_Md_slidesAlong_37 : decode prog_8_method_48_code 37 = .ok (.invokevirtual 170, 3) := zdt v_Md_slidesAlong_0 23 (q := (37, .invokevirtual 170, 3)) rfl
theorem d_Md_slidesAlong_40 : decode prog_8_method_48_code 40 = .ok (.aload_n 0, 1) := zdt v_Md_slidesAlong_0 24 (q := (40, .aload_n 0, 1)) rfl
theorem d_Md_slidesAlong_41 : decode prog_8_method_48_code 41 = .ok (.aload_n 0, 1) := zdt v_Md_slidesAlong_0 25 (q := (41, .aload_n 0, 1)) rfl
theorem d_Md_slidesAlong_42 : decode prog_8_method_48_code 42 = .ok (.getfield 56, 3) := zdt v_Md_slidesAlong_0 26 (q := (42, .getfield 56, 3)) rfl
theorem d_Md_slidesAlong_45 : decode prog_8_method_48_code 45 = .ok (.aload_n 0, 1) := zdt v_Md_slidesAlong_0 27 (q := (45, .aload_n 0, 1)) rfl
theorem d_Md_slidesAlong_46 : decode prog_8_method_48_code 46 = .ok (.getfield 65, 3) := zdt v_Md_slidesAlong_0 28 (q := (46, .getfield 65, 3)) rfl
theorem d_Md_slidesAlong_49 : decode prog_8_method_48_code 49 = .ok (.invokevirtual 187, 3) := zdt v_Md_slidesAlong_0 29 (q := (49, .invokevirtual 187, 3)) rfl
theorem d_Md_slidesAlong_52 : decode prog_8_method_48_code 52 = .ok (.aload_n 0, 1) := zdt v_Md_slidesAlong_0 30 (q := (52, .aload_n 0, 1)) rfl
theorem d_Md_slidesAlong_53 : decode prog_8_method_48_code 53 = .ok (.getfield 65, 3) := zdt v_Md_slidesAlong_0 31 (q := (53, .getfield 65, 3)) rfl
theorem d_Md_slidesAlong_56 : decode prog_8_method_48_code 56 = .ok (.aload_n 0, 1) := zdt v_Md_slidesAlong_0 32 (q := (56, .aload_n 0, 1)) rfl
theorem d_Md_slidesAlong_57 : decode prog_8_method_48_code 57 = .ok (.getfield 59, 3) := zdt v_Md_slidesAlong_0 33 (q := (57, .getfield 59, 3)) rfl
theorem d_Md_slidesAlong_60 : decode prog_8_method_48_code 60 = .ok (.invokestatic 174, 3) := zdt v_Md_slidesAlong_0 34 (q := (60, .invokestatic 174, 3)) rfl
theorem d_Md_slidesAlong_63 : decode prog_8_method_48_code 63 = .ok (.ifCond .ge 7, 3) := zdt v_Md_slidesAlong_0 35 (q := (63, .ifCond .ge 7, 3)) rfl
theorem d_Md_slidesAlong_66 : decode prog_8_method_48_code 66 = .ok (.iconst 1, 1) := zdt v_Md_slidesAlong_0 36 (q := (66, .iconst 1, 1)) rfl
theorem d_Md_slidesAlong_67 : decode prog_8_method_48_code 67 = .ok (.goto 4, 3) := zdt v_Md_slidesAlong_0 37 (q := (67, .goto 4, 3)) rfl
theorem d_Md_slidesAlong_70 : decode prog_8_method_48_code 70 = .ok (.iconst 0, 1) := zdt v_Md_slidesAlong_0 38 (q := (70, .iconst 0, 1)) rfl
theorem d_Md_slidesAlong_71 : decode prog_8_method_48_code 71 = .ok (.istore 4, 2) := zdt v_Md_slidesAlong_0 39 (q := (71, .istore 4, 2)) rfl
def u_Md_slidesAlong_1 : List (Nat × Instr × Nat) := [(73, .aload_n 0, 1), (74, .aload_n 0, 1), (75, .getfield 59, 3), (78, .aload_n 0, 1), (79, .getfield 65, 3), (82, .invokevirtual 187, 3), (85, .iload 4, 2), (87, .ifCond .eq 21, 3), (90, .aload_n 0, 1), (91, .getfield 65, 3), (94, .aload_n 0, 1), (95, .getfield 56, 3), (98, .invokestatic 174, 3), (101, .ifCond .ge 7, 3), (104, .iconst 1, 1), (105, .goto 4, 3), (108, .iconst 0, 1), (109, .istore 4, 2), (111, .aload_n 0, 1), (112, .getfield 62, 3), (115, .iconst 0, 1), (116, .aload_n 0, 1), (117, .getfield 56, 3), (120, .iconst 1, 1), (121, .iaload, 1), (122, .aload_n 0, 1), (123, .getfield 59, 3), (126, .iconst 2, 1), (127, .iaload, 1), (128, .imul, 1), (129, .aload_n 0, 1), (130, .getfield 56, 3), (133, .iconst 2, 1), (134, .iaload, 1), (135, .aload_n 0, 1), (136, .getfield 59, 3), (139, .iconst 1, 1), (140, .iaload, 1), (141, .imul, 1), (142, .isub, 1)]
theorem v_Md_slidesAlong_1 : u_Md_slidesAlong_1.all (zdq prog_8_method_48_code) = true := by decide +kernel
theorem d_Md_slidesAlong_73 : decode prog_8_method_48_code 73 = .ok (.aload_n 0, 1) := zdt v_Md_slidesAlong_1 0 (q := (73, .aload_n 0, 1)) rfl
theorem d_Md_slidesAlong_74 : decode prog_8_method_48_code 74 = .ok (.aload_n 0, 1) := zdt v_Md_slidesAlong_1 1 (q := (74, .aload_n 0, 1)) rfl
theorem d_Md_slidesAlong_75 : decode prog_8_method_48_code 75 = .ok (.getfield 59, 3) := zdt v_Md_slidesAlong_1 2 (q := (75, .getfield 59, 3)) rfl
theorem d_Md_slidesAlong_78 : decode prog_8_method_48_code 78 = .ok (.aload_n 0, 1) := zdt v_Md_slidesAlong_1 3 (q := (78, .aload_n 0, 1)) rfl
theorem d_Md_slidesAlong_79 : decode prog_8_method_48_code 79 = .ok (.getfield 65, 3) := zdt v_Md_slidesAlong_1 4 (q := (79, .getfield 65, 3)) rfl
theorem d_Md_slidesAlong_82 : decode prog_8_method_48_code 82 = .ok (.invokevirtual 187, 3) := zdt v_Md_slidesAlong_1 5 (q := (82, .invokevirtual 187, 3)) rfl
theorem d_Md_slidesAlong_85 : decode prog_8_method_48_code 85 = .ok (.iload 4, 2) := zdt v_Md_slidesAlong_1 6 (q := (85, .iload 4, 2)) rfl
theorem d_Md_slidesAlong_87 : decode prog_8_method_48_code 87 = .ok (.ifCond .eq 21, 3) := zdt v_Md_slidesAlong_1 7 (q := (87, .ifCond .eq 21, 3)) rfl
theorem d_Md_slidesAlong_90 : decode prog_8_method_48_code 90 = .ok (.aload_n 0, 1) := zdt v_Md_slidesAlong_1 8 (q := (90, .aload_n 0, 1)) rfl
theorem d_Md_slidesAlong_91 : decode prog_8_method_48_code 91 = .ok (.getfield 65, 3) := zdt v_Md_slidesAlong_1 9 (q := (91, .getfield 65, 3)) rfl
theorem d_Md_slidesAlong_94 : decode prog_8_method_48_code 94 = .ok (.aload_n 0, 1) := zdt v_Md_slidesAlong_1 10 (q := (94, .aload_n 0, 1)) rfl
theorem d_Md_slidesAlong_95 : decode prog_8_method_48_code 95 = .ok (.getfield 56, 3) := zdt v_Md_slidesAlong_1 11 (q := (95, .getfield 56, 3)) rfl
theorem d_Md_slidesAlong_98 : decode prog_8_method_48_code 98 = .ok (.invokestatic 174, 3) := zdt v_Md_slidesAlong_1 12 (q := (98, .invokestatic 174, 3)) rfl
theorem d_Md_slidesAlong_101 : decode prog_8_method_48_code 101 = .ok (.ifCond .ge 7, 3) := zdt v_Md_slidesAlong_1 13 (q := (101, .ifCond .ge 7, 3)) rfl
theorem d_Md_slidesAlong_104 : decode prog_8_method_48_code 104 = .ok (.iconst 1, 1) := zdt v_Md_slidesAlong_1 14 (q := (104, .iconst 1, 1)) rfl
theorem d_Md_slidesAlong_105 : decode prog_8_method_48_code 105 = .ok (.goto 4, 3) := zdt v_Md_slidesAlong_1 15 (q := (105, .goto 4, 3)) rfl
theorem d_Md_slidesAlong_108 : decode prog_8_method_48_code 108 = .ok (.iconst 0, 1) := zdt v_Md_slidesAlong_1 16 (q := (108, .iconst 0, 1)) rfl
theorem d_Md_slidesAlong_109 : decode prog_8_method_48_code 109 = .ok (.istore 4, 2) := zdt v_Md_slidesAlong_1 17 (q := (109, .istore 4, 2)) rfl
theorem d_Md_slidesAlong_111 : decode prog_8_method_48_code 111 = .ok (.aload_n 0, 1) := zdt v_Md_slidesAlong_1 18 (q := (111, .aload_n 0, 1)) rfl
theorem d_Md_slidesAlong_112 : decode prog_8_method_48_code 112 = .ok (.getfield 62, 3) := zdt v_Md_slidesAlong_1 19 (q := (112, .getfield 62, 3)) rfl
theorem d_Md_slidesAlong_115 : decode prog_8_method_48_code 115 = .ok (.iconst 0, 1) := zdt v_Md_slidesAlong_1 20 (q := (115, .iconst 0, 1)) rfl
theorem d_Md_slidesAlong_116 : decode prog_8_method_48_code 116 = .ok (.aload_n 0, 1) := zdt v_Md_slidesAlong_1 21 (q := (116, .aload_n 0, 1)) rfl
theorem d_Md_slidesAlong_117 : decode prog_8_method_48_code 117 = .ok (.getfield 56, 3) := zdt v_Md_slidesAlong_1 22 (q := (117, .getfield 56, 3)) rfl
theorem d_Md_slidesAlong_120 : decode prog_8_method_48_code 120 = .ok (.iconst 1, 1) := zdt v_Md_slidesAlong_1 23 (q := (120, .iconst 1, 1)) rfl
theorem d_Md_slidesAlong_121 : decode prog_8_method_48_code 121 = .ok (.iaload, 1) := zdt v_Md_slidesAlong_1 24 (q := (121, .iaload, 1)) rfl
theorem d_Md_slidesAlong_122 : decode prog_8_method_48_code 122 = .ok (.aload_n 0, 1) := zdt v_Md_slidesAlong_1 25 (q := (122, .aload_n 0, 1)) rfl
theorem d_Md_slidesAlong_123 : decode prog_8_method_48_code 123 = .ok (.getfield 59, 3) := zdt v_Md_slidesAlong_1 26 (q := (123, .getfield 59, 3)) rfl
theorem d_Md_slidesAlong_126 : decode prog_8_method_48_code 126 = .ok (.iconst 2, 1) := zdt v_Md_slidesAlong_1 27 (q := (126, .iconst 2, 1)) rfl
theorem d_Md_slidesAlong_127 : decode prog_8_method_48_code 127 = .ok (.iaload, 1) := zdt v_Md_slidesAlong_1 28 (q := (127, .iaload, 1)) rfl
theorem d_Md_slidesAlong_128 : decode prog_8_method_48_code 128 = .ok (.imul, 1) := zdt v_Md_slidesAlong_1 29 (q := (128, .imul, 1)) rfl
theorem d_Md_slidesAlong_129 : decode prog_8_method_48_code 129 = .ok (.aload_n 0, 1) := zdt v_Md_slidesAlong_1 30 (q := (129, .aload_n 0, 1)) rfl
theorem d_Md_slidesAlong_130 : decode prog_8_method_48_code 130 = .ok (.getfield 56, 3) := zdt v_Md_slidesAlong_1 31 (q := (130, .getfield 56, 3)) rfl
theorem d_Md_slidesAlong_133 : decode prog_8_method_48_code 133 = .ok (.iconst 2, 1) := zdt v_Md_slidesAlong_1 32 (q := (133, .iconst 2, 1)) rfl
theorem d_Md_slidesAlong_134 : decode prog_8_method_48_code 134 = .ok (.iaload, 1) := zdt v_Md_slidesAlong_1 33 (q := (134, .iaload, 1)) rfl
theorem d_Md_slidesAlong_135 : decode prog_8_method_48_code 135 = .ok (.aload_n 0, 1) := zdt v_Md_slidesAlong_1 34 (q := (135, .aload_n 0, 1)) rfl
theorem d_Md_slidesAlong_136 : decode prog_8_method_48_code 136 = .ok (.getfield 59, 3) := zdt v_Md_slidesAlong_1 35 (q := (136, .getfield 59, 3)) rfl
theorem d_Md_slidesAlong_139 : decode prog_8_method_48_code 139 = .ok (.iconst 1, 1) := zdt v_Md_slidesAlong_1 36 (q := (139, .iconst 1, 1)) rfl
theorem d_Md_slidesAlong_140 : decode prog_8_method_48_code 140 = .ok (.iaload, 1) := zdt v_Md_slidesAlong_1 37 (q := (140, .iaload, 1)) rfl
theorem d_Md_slidesAlong_141 : decode prog_8_method_48_code 141 = .ok (.imul, 1) := zdt v_Md_slidesAlong_1 38 (q := (141, .imul, 1)) rfl
theorem d_Md_slidesAlong_142 : decode prog_8_method_48_code 142 = .ok (.isub, 1) := zdt v_Md_slidesAlong_1 39 (q := (142, .isub, 1)) rfl
def u_Md_slidesAlong_2 : List (Nat × Instr × Nat) := [(143, .iastore, 1), (144, .aload_n 0, 1), (145, .getfield 62, 3), (148, .iconst 1, 1), (149, .aload_n 0, 1), (150, .getfield 56, 3), (153, .iconst 2, 1), (154, .iaload, 1), (155, .aload_n 0, 1), (156, .getfield 59, 3), (159, .iconst 0, 1), (160, .iaload, 1), (161, .imul, 1), (162, .aload_n 0, 1), (163, .getfield 56, 3), (166, .iconst 0, 1), (167, .iaload, 1), (168, .aload_n 0, 1), (169, .getfield 59, 3), (172, .iconst 2, 1), (173, .iaload, 1), (174, .imul, 1), (175, .isub, 1), (176, .iastore, 1), (177, .aload_n 0, 1), (178, .getfield 62, 3), (181, .iconst 2, 1), (182, .aload_n 0, 1), (183, .getfield 56, 3), (186, .iconst 0, 1), (187, .iaload, 1), (188, .aload_n 0, 1), (189, .getfield 59, 3), (192, .iconst 1, 1), (193, .iaload, 1), (194, .imul, 1), (195, .aload_n 0, 1), (196, .getfield 56, 3), (199, .iconst 1, 1), (200, .iaload, 1)]
theorem v_Md_slidesAlong_2 : u_Md_slidesAlong_2.all (zdq prog_8_method_48_code) = true := by decide +kernel
theorem d_Md_slidesAlong_143 : decode prog_8_method_48_code 143 = .ok (.iastore, 1) := zdt v_Md_slidesAlong_2 0 (q := (143, .iastore, 1)) rfl
theorem d_Md_slidesAlong_144 : decode prog_8_method_48_code 144 = .ok (.aload_n 0, 1) := zdt v_Md_slidesAlong_2 1 (q := (144, .aload_n 0, 1)) rfl
theorem d_Md_slidesAlong_145 : decode prog_8_method_48_code 145 = .ok (.getfield 62, 3) := zdt v_Md_slidesAlong_2 2 (q := (145, .getfield 62, 3)) rfl
theorem d_Md_slidesAlong_148 : decode prog_8_method_48_code 148 = .ok (.iconst 1, 1) := zdt v_Md_slidesAlong_2 3 (q := (148, .iconst 1, 1)) rfl
theorem d_Md_slidesAlong_149 : decode prog_8_method_48_code 149 = .ok (.aload_n 0, 1) := zdt v_Md_slidesAlong_2 4 (q := (149, .aload_n 0, 1)) rfl
theorem d_Md_slidesAlong_150 : decode prog_8_method_48_code 150 = .ok (.getfield 56, 3) := zdt v_Md_slidesAlong_2 5 (q := (150, .getfield 56, 3)) rfl
theorem d_Md_slidesAlong_153 : decode prog_8_method_48_code 153 = .ok (.iconst 2, 1) := zdt v_Md_slidesAlong_2 6 (q := (153, .iconst 2, 1)) rfl
theorem d_Md_slidesAlong_154 : decode prog_8_method_48_code 154 = .ok (.iaload, 1) := zdt v_Md_slidesAlong_2 7 (q := (154, .iaload, 1)) rfl
theorem d_Md_slidesAlong_155 : decode prog_8_method_48_code 155 = .ok (.aload_n 0, 1) := zdt v_Md_slidesAlong_2 8 (q := (155, .aload_n 0, 1)) rfl
theorem d_Md_slidesAlong_156 : decode prog_8_method_48_code 156 = .ok (.getfield 59, 3) := zdt v_Md_slidesAlong_2 9 (q := (156, .getfield 59, 3)) rfl
theorem d_Md_slidesAlong_159 : decode prog_8_method_48_code 159 = .ok (.iconst 0, 1) := zdt v_Md_slidesAlong_2 10 (q := (159, .iconst 0, 1)) rfl
theorem d_Md_slidesAlong_160 : decode prog_8_method_48_code 160 = .ok (.iaload, 1) := zdt v_Md_slidesAlong_2 11 (q := (160, .iaload, 1)) rfl
theorem d_Md_slidesAlong_161 : decode prog_8_method_48_code 161 = .ok (.imul, 1) := zdt v_Md_slidesAlong_2 12 (q := (161, .imul, 1)) rfl
theorem d_Md_slidesAlong_162 : decode prog_8_method_48_code 162 = .ok (.aload_n 0, 1) := zdt v_Md_slidesAlong_2 13 (q := (162, .aload_n 0, 1)) rfl
theorem d_Md_slidesAlong_163 : decode prog_8_method_48_code 163 = .ok (.getfield 56, 3) := zdt v_Md_slidesAlong_2 14 (q := (163, .getfield 56, 3)) rfl
theorem d_Md_slidesAlong_166 : decode prog_8_method_48_code 166 = .ok (.iconst 0, 1) := zdt v_Md_slidesAlong_2 15 (q := (166, .iconst 0, 1)) rfl
theorem d_Md_slidesAlong_167 : decode prog_8_method_48_code 167 = .ok (.iaload, 1) := zdt v_Md_slidesAlong_2 16 (q := (167, .iaload, 1)) rfl
theorem d_Md_slidesAlong_168 : decode prog_8_method_48_code 168 = .ok (.aload_n 0, 1) := zdt v_Md_slidesAlong_2 17 (q := (168, .aload_n 0, 1)) rfl
theorem d_Md_slidesAlong_169 : decode prog_8_method_48_code 169 = .ok (.getfield 59, 3) := zdt v_Md_slidesAlong_2 18 (q := (169, .getfield 59, 3)) rfl
theorem d_Md_slidesAlong_172 : decode prog_8_method_48_code 172 = .ok (.iconst 2, 1) := zdt v_Md_slidesAlong_2 19 (q := (172, .iconst 2, 1)) rfl
theorem d_Md_slidesAlong_173 : decode prog_8_method_48_code 173 = .ok (.iaload, 1) := zdt v_Md_slidesAlong_2 20 (q := (173, .iaload, 1)) rfl
theorem d_Md_slidesAlong_174 : decode prog_8_method_48_code 174 = .ok (.imul, 1) := zdt v_Md_slidesAlong_2 21 (q := (174, .imul, 1)) rfl
theorem d_Md_slidesAlong_175 : decode prog_8_method_48_code 175 = .ok (.isub, 1) := zdt v_Md_slidesAlong_2 22 (q := (175, .isub, 1)) rfl
theorem d_Md_slidesAlong_176 : decode prog_8_method_48_code 176 = .ok (.iastore, 1) := zdt v_Md_slidesAlong_2 23 (q := (176, .iastore, 1)) rfl
theorem d_Md_slidesAlong_177 : decode prog_8_method_48_code 177 = .ok (.aload_n 0, 1) := zdt v_Md_slidesAlong_2 24 (q := (177, .aload_n 0, 1)) rfl
theorem d_Md_slidesAlong_178 : decode prog_8_method_48_code 178 = .ok (.getfield 62, 3) := zdt v_Md_slidesAlong_2 25 (q := (178, .getfield 62, 3)) rfl
theorem d_Md_slidesAlong_181 : decode prog_8_method_48_code 181 = .ok (.iconst 2, 1) := zdt v_Md_slidesAlong_2 26 (q := (181, .iconst 2, 1)) rfl
theorem d_Md_slidesAlong_182 : decode prog_8_method_48_code 182 = .ok (.aload_n 0, 1) := zdt v_Md_slidesAlong_2 27 (q := (182, .aload_n 0, 1)) rfl
theorem d_Md_slidesAlong_183 : decode prog_8_method_48_code 183 = .ok (.getfield 56, 3) := zdt v_Md_slidesAlong_2 28 (q := (183, .getfield 56, 3)) rfl
theorem d_Md_slidesAlong_186 : decode prog_8_method_48_code 186 = .ok (.iconst 0, 1) := zdt v_Md_slidesAlong_2 29 (q := (186, .iconst 0, 1)) rfl
theorem d_Md_slidesAlong_187 : decode prog_8_method_48_code 187 = .ok (.iaload, 1) := zdt v_Md_slidesAlong_2 30 (q := (187, .iaload, 1)) rfl
theorem d_Md_slidesAlong_188 : decode prog_8_method_48_code 188 = .ok (.aload_n 0, 1) := zdt v_Md_slidesAlong_2 31 (q := (188, .aload_n 0, 1)) rfl
theorem d_Md_slidesAlong_189 : decode prog_8_method_48_code 189 = .ok (.getfield 59, 3) := zdt v_Md_slidesAlong_2 32 (q := (189, .getfield 59, 3)) rfl
theorem d_Md_slidesAlong_192 : decode prog_8_method_48_code 192 = .ok (.iconst 1, 1) := zdt v_Md_slidesAlong_2 33 (q := (192, .iconst 1, 1)) rfl
theorem d_Md_slidesAlong_193 : decode prog_8_method_48_code 193 = .ok (.iaload, 1) := zdt v_Md_slidesAlong_2 34 (q := (193, .iaload, 1)) rfl
theorem d_Md_slidesAlong_194 : decode prog_8_method_48_code 194 = .ok (.imul, 1) := zdt v_Md_slidesAlong_2 35 (q := (194, .imul, 1)) rfl
theorem d_Md_slidesAlong_195 : decode prog_8_method_48_code 195 = .ok (.aload_n 0, 1) := zdt v_Md_slidesAlong_2 36 (q := (195, .aload_n 0, 1)) rfl
theorem d_Md_slidesAlong_196 : decode prog_8_method_48_code 196 = .ok (.getfield 56, 3) := zdt v_Md_slidesAlong_2 37 (q := (196, .getfield 56, 3)) rfl
theorem d_Md_slidesAlong_199 : decode prog_8_method_48_code 199 = .ok (.iconst 1, 1) := zdt v_Md_slidesAlong_2 38 (q := (199, .iconst 1, 1)) rfl
theorem d_Md_slidesAlong_200 : decode prog_8_method_48_code 200 = .ok (.iaload, 1) := zdt v_Md_slidesAlong_2 39 (q := (200, .iaload, 1)) rfl
def u_Md_slidesAlong_3 : List (Nat × Instr × Nat) := [(201, .aload_n 0, 1), (202, .getfield 59, 3), (205, .iconst 0, 1), (206, .iaload, 1), (207, .imul, 1), (208, .isub, 1), (209, .iastore, 1), (210, .aload_n 0, 1), (211, .getfield 23, 3), (214, .aload_n 0, 1), (215, .getfield 62, 3), (218, .invokestatic 174, 3), (221, .istore 5, 2), (223, .iconst 0, 1), (224, .istore 6, 2), (226, .iload 6, 2), (228, .iconst 3, 1), (229, .if_icmp .ge 29, 3), (232, .iload 5, 2), (234, .ifCond .ge 24, 3), (237, .aload_n 0, 1), (238, .getfield 62, 3), (241, .iload 6, 2), (243, .aload_n 0, 1), (244, .getfield 62, 3), (247, .iload 6, 2), (249, .iaload, 1), (250, .ineg, 1), (251, .iastore, 1), (252, .iinc 6 1, 3), (255, .goto (-29), 3), (258, .iload 4, 2), (260, .ifCond .eq 20, 3), (263, .iload 5, 2), (265, .ifCond .eq 15, 3), (268, .aload_n 0, 1), (269, .iload_n 1, 1), (270, .invokevirtual 178, 3), (273, .ifCond .eq 7, 3), (276, .iconst 1, 1)]
theorem v_Md_slidesAlong_3 : u_Md_slidesAlong_3.all (zdq prog_8_method_48_code) = true := by decide +kernel
theorem d_Md_slidesAlong_201 : decode prog_8_method_48_code 201 = .ok (.aload_n 0, 1) := zdt v_Md_slidesAlong_3 0 (q := (201, .aload_n 0, 1)) rfl
theorem d_Md_slidesAlong_202 : decode prog_8_method_48_code 202 = .ok (.getfield 59, 3) := zdt v_Md_slidesAlong_3 1 (q := (202, .getfield 59, 3)) rfl
theorem d_Md_slidesAlong_205 : decode prog_8_method_48_code 205 = .ok (.iconst 0, 1) := zdt v_Md_slidesAlong_3 2 (q := (205, .iconst 0, 1)) rfl
theorem d_Md_slidesAlong_206 : decode prog_8_method_48_code 206 = .ok (.iaload, 1) := zdt v_Md_slidesAlong_3 3 (q := (206, .iaload, 1)) rfl
theorem d_Md_slidesAlong_207 : decode prog_8_method_48_code 207 = .ok (.imul, 1) := zdt v_Md_slidesAlong_3 4 (q := (207, .imul, 1)) rfl
theorem d_Md_slidesAlong_208 : decode prog_8_method_48_code 208 = .ok (.isub, 1) := zdt v_Md_slidesAlong_3 5 (q := (208, .isub, 1)) rfl
theorem d_Md_slidesAlong_209 : decode prog_8_method_48_code 209 = .ok (.iastore, 1) := zdt v_Md_slidesAlong_3 6 (q := (209, .iastore, 1)) rfl
theorem d_Md_slidesAlong_210 : decode prog_8_method_48_code 210 = .ok (.aload_n 0, 1) := zdt v_Md_slidesAlong_3 7 (q := (210, .aload_n 0, 1)) rfl
theorem d_Md_slidesAlong_211 : decode prog_8_method_48_code 211 = .ok (.getfield 23, 3) := zdt v_Md_slidesAlong_3 8 (q := (211, .getfield 23, 3)) rfl
theorem d_Md_slidesAlong_214 : decode prog_8_method_48_code 214 = .ok (.aload_n 0, 1) := zdt v_Md_slidesAlong_3 9 (q := (214, .aload_n 0, 1)) rfl
theorem d_Md_slidesAlong_215 : decode prog_8_method_48_code 215 = .ok (.getfield 62, 3) := zdt v_Md_slidesAlong_3 10 (q := (215, .getfield 62, 3)) rfl
theorem d_Md_slidesAlong_218 : decode prog_8_method_48_code 218 = .ok (.invokestatic 174, 3) := zdt v_Md_slidesAlong_3 11 (q := (218, .invokestatic 174, 3)) rfl
theorem d_Md_slidesAlong_221 : decode prog_8_method_48_code 221 = .ok (.istore 5, 2) := zdt v_Md_slidesAlong_3 12 (q := (221, .istore 5, 2)) rfl
theorem d_Md_slidesAlong_223 : decode prog_8_method_48_code 223 = .ok (.iconst 0, 1) := zdt v_Md_slidesAlong_3 13 (q := (223, .iconst 0, 1)) rfl
theorem d_Md_slidesAlong_224 : decode prog_8_method_48_code 224 = .ok (.istore 6, 2) := zdt v_Md_slidesAlong_3 14 (q := (224, .istore 6, 2)) rfl
theorem d_Md_slidesAlong_226 : decode prog_8_method_48_code 226 = .ok (.iload 6, 2) := zdt v_Md_slidesAlong_3 15 (q := (226, .iload 6, 2)) rfl
theorem d_Md_slidesAlong_228 : decode prog_8_method_48_code 228 = .ok (.iconst 3, 1) := zdt v_Md_slidesAlong_3 16 (q := (228, .iconst 3, 1)) rfl
theorem d_Md_slidesAlong_229 : decode prog_8_method_48_code 229 = .ok (.if_icmp .ge 29, 3) := zdt v_Md_slidesAlong_3 17 (q := (229, .if_icmp .ge 29, 3)) rfl
theorem d_Md_slidesAlong_232 : decode prog_8_method_48_code 232 = .ok (.iload 5, 2) := zdt v_Md_slidesAlong_3 18 (q := (232, .iload 5, 2)) rfl
theorem d_Md_slidesAlong_234 : decode prog_8_method_48_code 234 = .ok (.ifCond .ge 24, 3) := zdt v_Md_slidesAlong_3 19 (q := (234, .ifCond .ge 24, 3)) rfl
theorem d_Md_slidesAlong_237 : decode prog_8_method_48_code 237 = .ok (.aload_n 0, 1) := zdt v_Md_slidesAlong_3 20 (q := (237, .aload_n 0, 1)) rfl
theorem d_Md_slidesAlong_238 : decode prog_8_method_48_code 238 = .ok (.getfield 62, 3) := zdt v_Md_slidesAlong_3 21 (q := (238, .getfield 62, 3)) rfl
theorem d_Md_slidesAlong_241 : decode prog_8_method_48_code 241 = .ok (.iload 6, 2) := zdt v_Md_slidesAlong_3 22 (q := (241, .iload 6, 2)) rfl
theorem d_Md_slidesAlong_243 : decode prog_8_method_48_code 243 = .ok (.aload_n 0, 1) := zdt v_Md_slidesAlong_3 23 (q := (243, .aload_n 0, 1)) rfl
theorem d_Md_slidesAlong_244 : decode prog_8_method_48_code 244 = .ok (.getfield 62, 3) := zdt v_Md_slidesAlong_3 24 (q := (244, .getfield 62, 3)) rfl
theorem d_Md_slidesAlong_247 : decode prog_8_method_48_code 247 = .ok (.iload 6, 2) := zdt v_Md_slidesAlong_3 25 (q := (247, .iload 6, 2)) rfl
theorem d_Md_slidesAlong_249 : decode prog_8_method_48_code 249 = .ok (.iaload, 1) := zdt v_Md_slidesAlong_3 26 (q := (249, .iaload, 1)) rfl
theorem d_Md_slidesAlong_250 : decode prog_8_method_48_code 250 = .ok (.ineg, 1) := zdt v_Md_slidesAlong_3 27 (q := (250, .ineg, 1)) rfl
theorem d_Md_slidesAlong_251 : decode prog_8_method_48_code 251 = .ok (.iastore, 1) := zdt v_Md_slidesAlong_3 28 (q := (251, .iastore, 1)) rfl
theorem d_Md_slidesAlong_252 : decode prog_8_method_48_code 252 = .ok (.iinc 6 1, 3) := zdt v_Md_slidesAlong_3 29 (q := (252, .iinc 6 1, 3)) rfl
theorem d_Md_slidesAlong_255 : decode prog_8_method_48_code 255 = .ok (.goto (-29), 3) := zdt v_Md_slidesAlong_3 30 (q := (255, .goto (-29), 3)) rfl
theorem d_Md_slidesAlong_258 : decode prog_8_method_48_code 258 = .ok (.iload 4, 2) := zdt v_Md_slidesAlong_3 31 (q := (258, .iload 4, 2)) rfl
theorem d_Md_slidesAlong_260 : decode prog_8_method_48_code 260 = .ok (.ifCond .eq 20, 3) := zdt v_Md_slidesAlong_3 32 (q := (260, .ifCond .eq 20, 3)) rfl
theorem d_Md_slidesAlong_263 : decode prog_8_method_48_code 263 = .ok (.iload 5, 2) := zdt v_Md_slidesAlong_3 33 (q := (263, .iload 5, 2)) rfl
theorem d_Md_slidesAlong_265 : decode prog_8_method_48_code 265 = .ok (.ifCond .eq 15, 3) := zdt v_Md_slidesAlong_3 34 (q := (265, .ifCond .eq 15, 3)) rfl
theorem d_Md_slidesAlong_268 : decode prog_8_method_48_code 268 = .ok (.aload_n 0, 1) := zdt v_Md_slidesAlong_3 35 (q := (268, .aload_n 0, 1)) rfl
theorem d_Md_slidesAlong_269 : decode prog_8_method_48_code 269 = .ok (.iload_n 1, 1) := zdt v_Md_slidesAlong_3 36 (q := (269, .iload_n 1, 1)) rfl
theorem d_Md_slidesAlong_270 : decode prog_8_method_48_code 270 = .ok (.invokevirtual 178, 3) := zdt v_Md_slidesAlong_3 37 (q := (270, .invokevirtual 178, 3)) rfl
theorem d_Md_slidesAlong_273 : decode prog_8_method_48_code 273 = .ok (.ifCond .eq 7, 3) := zdt v_Md_slidesAlong_3 38 (q := (273, .ifCond .eq 7, 3)) rfl
theorem d_Md_slidesAlong_276 : decode prog_8_method_48_code 276 = .ok (.iconst 1, 1) := zdt v_Md_slidesAlong_3 39 (q := (276, .iconst 1, 1)) rfl
def u_Md_slidesAlong_4 : List (Nat × Instr × Nat) := [(277, .goto 4, 3), (280, .iconst 0, 1), (281, .ireturn, 1)]
theorem v_Md_slidesAlong_4 : u_Md_slidesAlong_4.all (zdq prog_8_method_48_code) = true := by decide +kernel
theorem d_Md_slidesAlong_277 : decode prog_8_method_48_code 277 = .ok (.goto 4, 3) := zdt v_Md_slidesAlong_4 0 (q := (277, .goto 4, 3)) rfl
theorem d_Md_slidesAlong_280 : decode prog_8_method_48_code 280 = .ok (.iconst 0, 1) := zdt v_Md_slidesAlong_4 1 (q := (280, .iconst 0, 1)) rfl
theorem d_Md_slidesAlong_281 : decode prog_8_method_48_code 281 = .ok (.ireturn, 1) := zdt v_Md_slidesAlong_4 2 (q := (281, .ireturn, 1)) rfl
def u_Md_told_0 : List (Nat × Instr × Nat) := [(0, .aload_n 0, 1), (1, .iload_n 1, 1), (2, .iconst 0, 1), (3, .iconst 3, 1), (4, .invokestatic 131, 3), (7, .ifCond .eq 7, 3), (10, .iconst 0, 1), (11, .goto 4, 3), (14, .iconst 1, 1), (15, .putfield 75, 3), (18, .aload_n 0, 1), (19, .getfield 75, 3), (22, .ifCond .le 7, 3), (25, .iconst 0, 1), (26, .goto 42, 3), (29, .iload_n 1, 1), (30, .ifCond .ne 10, 3), (33, .aload_n 0, 1), (34, .getfield 83, 3), (37, .goto 31, 3), (40, .iload_n 1, 1), (41, .iconst 1, 1), (42, .if_icmp .ne 10, 3), (45, .aload_n 0, 1), (46, .getfield 146, 3), (49, .goto 19, 3), (52, .iload_n 1, 1), (53, .iconst 2, 1), (54, .if_icmp .ne 10, 3), (57, .aload_n 0, 1), (58, .getfield 114, 3), (61, .goto 7, 3), (64, .aload_n 0, 1), (65, .getfield 94, 3), (68, .ireturn, 1)]
theorem v_Md_told_0 : u_Md_told_0.all (zdq prog_8_method_50_code) = true := by decide +kernel
theorem d_Md_told_0 : decode prog_8_method_50_code 0 = .ok (.aload_n 0, 1) := zdt v_Md_told_0 0 (q := (0, .aload_n 0, 1)) rfl
theorem d_Md_told_1 : decode prog_8_method_50_code 1 = .ok (.iload_n 1, 1) := zdt v_Md_told_0 1 (q := (1, .iload_n 1, 1)) rfl
theorem d_Md_told_2 : decode prog_8_method_50_code 2 = .ok (.iconst 0, 1) := zdt v_Md_told_0 2 (q := (2, .iconst 0, 1)) rfl
theorem d_Md_told_3 : decode prog_8_method_50_code 3 = .ok (.iconst 3, 1) := zdt v_Md_told_0 3 (q := (3, .iconst 3, 1)) rfl
theorem d_Md_told_4 : decode prog_8_method_50_code 4 = .ok (.invokestatic 131, 3) := zdt v_Md_told_0 4 (q := (4, .invokestatic 131, 3)) rfl
theorem d_Md_told_7 : decode prog_8_method_50_code 7 = .ok (.ifCond .eq 7, 3) := zdt v_Md_told_0 5 (q := (7, .ifCond .eq 7, 3)) rfl
theorem d_Md_told_10 : decode prog_8_method_50_code 10 = .ok (.iconst 0, 1) := zdt v_Md_told_0 6 (q := (10, .iconst 0, 1)) rfl
theorem d_Md_told_11 : decode prog_8_method_50_code 11 = .ok (.goto 4, 3) := zdt v_Md_told_0 7 (q := (11, .goto 4, 3)) rfl
theorem d_Md_told_14 : decode prog_8_method_50_code 14 = .ok (.iconst 1, 1) := zdt v_Md_told_0 8 (q := (14, .iconst 1, 1)) rfl
theorem d_Md_told_15 : decode prog_8_method_50_code 15 = .ok (.putfield 75, 3) := zdt v_Md_told_0 9 (q := (15, .putfield 75, 3)) rfl
theorem d_Md_told_18 : decode prog_8_method_50_code 18 = .ok (.aload_n 0, 1) := zdt v_Md_told_0 10 (q := (18, .aload_n 0, 1)) rfl
theorem d_Md_told_19 : decode prog_8_method_50_code 19 = .ok (.getfield 75, 3) := zdt v_Md_told_0 11 (q := (19, .getfield 75, 3)) rfl
theorem d_Md_told_22 : decode prog_8_method_50_code 22 = .ok (.ifCond .le 7, 3) := zdt v_Md_told_0 12 (q := (22, .ifCond .le 7, 3)) rfl
theorem d_Md_told_25 : decode prog_8_method_50_code 25 = .ok (.iconst 0, 1) := zdt v_Md_told_0 13 (q := (25, .iconst 0, 1)) rfl
theorem d_Md_told_26 : decode prog_8_method_50_code 26 = .ok (.goto 42, 3) := zdt v_Md_told_0 14 (q := (26, .goto 42, 3)) rfl
theorem d_Md_told_29 : decode prog_8_method_50_code 29 = .ok (.iload_n 1, 1) := zdt v_Md_told_0 15 (q := (29, .iload_n 1, 1)) rfl
theorem d_Md_told_30 : decode prog_8_method_50_code 30 = .ok (.ifCond .ne 10, 3) := zdt v_Md_told_0 16 (q := (30, .ifCond .ne 10, 3)) rfl
theorem d_Md_told_33 : decode prog_8_method_50_code 33 = .ok (.aload_n 0, 1) := zdt v_Md_told_0 17 (q := (33, .aload_n 0, 1)) rfl
theorem d_Md_told_34 : decode prog_8_method_50_code 34 = .ok (.getfield 83, 3) := zdt v_Md_told_0 18 (q := (34, .getfield 83, 3)) rfl
theorem d_Md_told_37 : decode prog_8_method_50_code 37 = .ok (.goto 31, 3) := zdt v_Md_told_0 19 (q := (37, .goto 31, 3)) rfl
theorem d_Md_told_40 : decode prog_8_method_50_code 40 = .ok (.iload_n 1, 1) := zdt v_Md_told_0 20 (q := (40, .iload_n 1, 1)) rfl
theorem d_Md_told_41 : decode prog_8_method_50_code 41 = .ok (.iconst 1, 1) := zdt v_Md_told_0 21 (q := (41, .iconst 1, 1)) rfl
theorem d_Md_told_42 : decode prog_8_method_50_code 42 = .ok (.if_icmp .ne 10, 3) := zdt v_Md_told_0 22 (q := (42, .if_icmp .ne 10, 3)) rfl
theorem d_Md_told_45 : decode prog_8_method_50_code 45 = .ok (.aload_n 0, 1) := zdt v_Md_told_0 23 (q := (45, .aload_n 0, 1)) rfl
theorem d_Md_told_46 : decode prog_8_method_50_code 46 = .ok (.getfield 146, 3) := zdt v_Md_told_0 24 (q := (46, .getfield 146, 3)) rfl
theorem d_Md_told_49 : decode prog_8_method_50_code 49 = .ok (.goto 19, 3) := zdt v_Md_told_0 25 (q := (49, .goto 19, 3)) rfl
theorem d_Md_told_52 : decode prog_8_method_50_code 52 = .ok (.iload_n 1, 1) := zdt v_Md_told_0 26 (q := (52, .iload_n 1, 1)) rfl
theorem d_Md_told_53 : decode prog_8_method_50_code 53 = .ok (.iconst 2, 1) := zdt v_Md_told_0 27 (q := (53, .iconst 2, 1)) rfl
theorem d_Md_told_54 : decode prog_8_method_50_code 54 = .ok (.if_icmp .ne 10, 3) := zdt v_Md_told_0 28 (q := (54, .if_icmp .ne 10, 3)) rfl
theorem d_Md_told_57 : decode prog_8_method_50_code 57 = .ok (.aload_n 0, 1) := zdt v_Md_told_0 29 (q := (57, .aload_n 0, 1)) rfl
theorem d_Md_told_58 : decode prog_8_method_50_code 58 = .ok (.getfield 114, 3) := zdt v_Md_told_0 30 (q := (58, .getfield 114, 3)) rfl
theorem d_Md_told_61 : decode prog_8_method_50_code 61 = .ok (.goto 7, 3) := zdt v_Md_told_0 31 (q := (61, .goto 7, 3)) rfl
theorem d_Md_told_64 : decode prog_8_method_50_code 64 = .ok (.aload_n 0, 1) := zdt v_Md_told_0 32 (q := (64, .aload_n 0, 1)) rfl
theorem d_Md_told_65 : decode prog_8_method_50_code 65 = .ok (.getfield 94, 3) := zdt v_Md_told_0 33 (q := (65, .getfield 94, 3)) rfl
theorem d_Md_told_68 : decode prog_8_method_50_code 68 = .ok (.ireturn, 1) := zdt v_Md_told_0 34 (q := (68, .ireturn, 1)) rfl
