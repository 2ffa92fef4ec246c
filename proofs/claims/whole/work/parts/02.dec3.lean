def u_Law_law_0 : List (Nat × Instr × Nat) := [(0, .new 8, 3), (3, .dup, 1), (4, .aload_n 0, 1), (5, .iconst 0, 1), (6, .invokestatic 58, 3), (9, .aload_n 0, 1), (10, .iconst 1, 1), (11, .invokestatic 58, 3), (14, .aload_n 0, 1), (15, .iconst 2, 1), (16, .invokestatic 58, 3), (19, .invokespecial 64, 3), (22, .astore_n 1, 1), (23, .new 66, 3), (26, .dup, 1), (27, .aload_n 0, 1), (28, .iconst 0, 1), (29, .invokestatic 58, 3), (32, .aload_n 0, 1), (33, .iconst 1, 1), (34, .invokestatic 58, 3), (37, .aload_n 0, 1), (38, .iconst 2, 1), (39, .invokestatic 58, 3), (42, .invokespecial 68, 3), (45, .astore_n 2, 1), (46, .iconst 1, 1), (47, .newarray .long, 2), (49, .astore_n 3, 1), (50, .iconst 3, 1), (51, .istore 4, 2), (53, .iload 4, 2), (55, .aload_n 0, 1), (56, .arraylength, 1), (57, .iconst 5, 1), (58, .isub, 1), (59, .if_icmp .gt 1026, 3), (62, .aload_n 0, 1), (63, .iload 4, 2), (65, .iaload, 1)]
theorem v_Law_law_0 : u_Law_law_0.all (zdq code) = true := by decide +kernel
theorem d_Law_law_0 : decode code 0 = .ok (.new 8, 3) := zdt v_Law_law_0 0 (q := (0, .new 8, 3)) rfl
theorem d_Law_law_3 : decode code 3 = .ok (.dup, 1) := zdt v_Law_law_0 1 (q := (3, .dup, 1)) rfl
theorem d_Law_law_4 : decode code 4 = .ok (.aload_n 0, 1) := zdt v_Law_law_0 2 (q := (4, .aload_n 0, 1)) rfl
theorem d_Law_law_5 : decode code 5 = .ok (.iconst 0, 1) := zdt v_Law_law_0 3 (q := (5, .iconst 0, 1)) rfl
theorem d_Law_law_6 : decode code 6 = .ok (.invokestatic 58, 3) := zdt v_Law_law_0 4 (q := (6, .invokestatic 58, 3)) rfl
theorem d_Law_law_9 : decode code 9 = .ok (.aload_n 0, 1) := zdt v_Law_law_0 5 (q := (9, .aload_n 0, 1)) rfl
theorem d_Law_law_10 : decode code 10 = .ok (.iconst 1, 1) := zdt v_Law_law_0 6 (q := (10, .iconst 1, 1)) rfl
theorem d_Law_law_11 : decode code 11 = .ok (.invokestatic 58, 3) := zdt v_Law_law_0 7 (q := (11, .invokestatic 58, 3)) rfl
theorem d_Law_law_14 : decode code 14 = .ok (.aload_n 0, 1) := zdt v_Law_law_0 8 (q := (14, .aload_n 0, 1)) rfl
theorem d_Law_law_15 : decode code 15 = .ok (.iconst 2, 1) := zdt v_Law_law_0 9 (q := (15, .iconst 2, 1)) rfl
theorem d_Law_law_16 : decode code 16 = .ok (.invokestatic 58, 3) := zdt v_Law_law_0 10 (q := (16, .invokestatic 58, 3)) rfl
theorem d_Law_law_19 : decode code 19 = .ok (.invokespecial 64, 3) := zdt v_Law_law_0 11 (q := (19, .invokespecial 64, 3)) rfl
theorem d_Law_law_22 : decode code 22 = .ok (.astore_n 1, 1) := zdt v_Law_law_0 12 (q := (22, .astore_n 1, 1)) rfl
theorem d_Law_law_23 : decode code 23 = .ok (.new 66, 3) := zdt v_Law_law_0 13 (q := (23, .new 66, 3)) rfl
theorem d_Law_law_26 : decode code 26 = .ok (.dup, 1) := zdt v_Law_law_0 14 (q := (26, .dup, 1)) rfl
theorem d_Law_law_27 : decode code 27 = .ok (.aload_n 0, 1) := zdt v_Law_law_0 15 (q := (27, .aload_n 0, 1)) rfl
theorem d_Law_law_28 : decode code 28 = .ok (.iconst 0, 1) := zdt v_Law_law_0 16 (q := (28, .iconst 0, 1)) rfl
theorem d_Law_law_29 : decode code 29 = .ok (.invokestatic 58, 3) := zdt v_Law_law_0 17 (q := (29, .invokestatic 58, 3)) rfl
theorem d_Law_law_32 : decode code 32 = .ok (.aload_n 0, 1) := zdt v_Law_law_0 18 (q := (32, .aload_n 0, 1)) rfl
theorem d_Law_law_33 : decode code 33 = .ok (.iconst 1, 1) := zdt v_Law_law_0 19 (q := (33, .iconst 1, 1)) rfl
theorem d_Law_law_34 : decode code 34 = .ok (.invokestatic 58, 3) := zdt v_Law_law_0 20 (q := (34, .invokestatic 58, 3)) rfl
theorem d_Law_law_37 : decode code 37 = .ok (.aload_n 0, 1) := zdt v_Law_law_0 21 (q := (37, .aload_n 0, 1)) rfl
theorem d_Law_law_38 : decode code 38 = .ok (.iconst 2, 1) := zdt v_Law_law_0 22 (q := (38, .iconst 2, 1)) rfl
theorem d_Law_law_39 : decode code 39 = .ok (.invokestatic 58, 3) := zdt v_Law_law_0 23 (q := (39, .invokestatic 58, 3)) rfl
theorem d_Law_law_42 : decode code 42 = .ok (.invokespecial 68, 3) := zdt v_Law_law_0 24 (q := (42, .invokespecial 68, 3)) rfl
theorem d_Law_law_45 : decode code 45 = .ok (.astore_n 2, 1) := zdt v_Law_law_0 25 (q := (45, .astore_n 2, 1)) rfl
theorem d_Law_law_46 : decode code 46 = .ok (.iconst 1, 1) := zdt v_Law_law_0 26 (q := (46, .iconst 1, 1)) rfl
theorem d_Law_law_47 : decode code 47 = .ok (.newarray .long, 2) := zdt v_Law_law_0 27 (q := (47, .newarray .long, 2)) rfl
theorem d_Law_law_49 : decode code 49 = .ok (.astore_n 3, 1) := zdt v_Law_law_0 28 (q := (49, .astore_n 3, 1)) rfl
theorem d_Law_law_50 : decode code 50 = .ok (.iconst 3, 1) := zdt v_Law_law_0 29 (q := (50, .iconst 3, 1)) rfl
theorem d_Law_law_51 : decode code 51 = .ok (.istore 4, 2) := zdt v_Law_law_0 30 (q := (51, .istore 4, 2)) rfl
theorem d_Law_law_53 : decode code 53 = .ok (.iload 4, 2) := zdt v_Law_law_0 31 (q := (53, .iload 4, 2)) rfl
theorem d_Law_law_55 : decode code 55 = .ok (.aload_n 0, 1) := zdt v_Law_law_0 32 (q := (55, .aload_n 0, 1)) rfl
theorem d_Law_law_56 : decode code 56 = .ok (.arraylength, 1) := zdt v_Law_law_0 33 (q := (56, .arraylength, 1)) rfl
theorem d_Law_law_57 : decode code 57 = .ok (.iconst 5, 1) := zdt v_Law_law_0 34 (q := (57, .iconst 5, 1)) rfl
theorem d_Law_law_58 : decode code 58 = .ok (.isub, 1) := zdt v_Law_law_0 35 (q := (58, .isub, 1)) rfl
theorem d_Law_law_59 : decode code 59 = .ok (.if_icmp .gt 1026, 3) := zdt v_Law_law_0 36 (q := (59, .if_icmp .gt 1026, 3)) rfl
theorem d_Law_law_62 : decode code 62 = .ok (.aload_n 0, 1) := zdt v_Law_law_0 37 (q := (62, .aload_n 0, 1)) rfl
theorem d_Law_law_63 : decode code 63 = .ok (.iload 4, 2) := zdt v_Law_law_0 38 (q := (63, .iload 4, 2)) rfl
theorem d_Law_law_65 : decode code 65 = .ok (.iaload, 1) := zdt v_Law_law_0 39 (q := (65, .iaload, 1)) rfl
def u_Law_law_1 : List (Nat × Instr × Nat) := [(66, .bipush 31, 2), (68, .iand, 1), (69, .tableswitch 1010 0 16 #[83, 175, 188, 279, 359, 419, 432, 500, 580, 605, 673, 748, 804, 817, 885, 898, 954], 83), (152, .aload_n 1, 1), (153, .aload_n 0, 1), (154, .iload 4, 2), (156, .iconst 1, 1), (157, .iadd, 1), (158, .iaload, 1), (159, .aload_n 0, 1), (160, .iload 4, 2), (162, .iconst 2, 1), (163, .iadd, 1), (164, .iaload, 1), (165, .aload_n 0, 1), (166, .iload 4, 2), (168, .iconst 3, 1), (169, .iadd, 1), (170, .iaload, 1), (171, .aload_n 0, 1), (172, .iload 4, 2), (174, .iconst 4, 1), (175, .iadd, 1), (176, .iaload, 1), (177, .aload_n 3, 1), (178, .invokestatic 69, 3), (181, .istore 5, 2), (183, .aload_n 2, 1), (184, .aload_n 0, 1), (185, .iload 4, 2), (187, .iconst 1, 1), (188, .iadd, 1), (189, .iaload, 1), (190, .aload_n 0, 1), (191, .iload 4, 2), (193, .iconst 2, 1), (194, .iadd, 1), (195, .iaload, 1), (196, .aload_n 0, 1), (197, .iload 4, 2)]
theorem v_Law_law_1 : u_Law_law_1.all (zdq code) = true := by decide +kernel
theorem d_Law_law_66 : decode code 66 = .ok (.bipush 31, 2) := zdt v_Law_law_1 0 (q := (66, .bipush 31, 2)) rfl
theorem d_Law_law_68 : decode code 68 = .ok (.iand, 1) := zdt v_Law_law_1 1 (q := (68, .iand, 1)) rfl
theorem d_Law_law_69 : decode code 69 = .ok (.tableswitch 1010 0 16 #[83, 175, 188, 279, 359, 419, 432, 500, 580, 605, 673, 748, 804, 817, 885, 898, 954], 83) := zdt v_Law_law_1 2 (q := (69, .tableswitch 1010 0 16 #[83, 175, 188, 279, 359, 419, 432, 500, 580, 605, 673, 748, 804, 817, 885, 898, 954], 83)) rfl
theorem d_Law_law_152 : decode code 152 = .ok (.aload_n 1, 1) := zdt v_Law_law_1 3 (q := (152, .aload_n 1, 1)) rfl
theorem d_Law_law_153 : decode code 153 = .ok (.aload_n 0, 1) := zdt v_Law_law_1 4 (q := (153, .aload_n 0, 1)) rfl
theorem d_Law_law_154 : decode code 154 = .ok (.iload 4, 2) := zdt v_Law_law_1 5 (q := (154, .iload 4, 2)) rfl
theorem d_Law_law_156 : decode code 156 = .ok (.iconst 1, 1) := zdt v_Law_law_1 6 (q := (156, .iconst 1, 1)) rfl
theorem d_Law_law_157 : decode code 157 = .ok (.iadd, 1) := zdt v_Law_law_1 7 (q := (157, .iadd, 1)) rfl
theorem d_Law_law_158 : decode code 158 = .ok (.iaload, 1) := zdt v_Law_law_1 8 (q := (158, .iaload, 1)) rfl
theorem d_Law_law_159 : decode code 159 = .ok (.aload_n 0, 1) := zdt v_Law_law_1 9 (q := (159, .aload_n 0, 1)) rfl
theorem d_Law_law_160 : decode code 160 = .ok (.iload 4, 2) := zdt v_Law_law_1 10 (q := (160, .iload 4, 2)) rfl
theorem d_Law_law_162 : decode code 162 = .ok (.iconst 2, 1) := zdt v_Law_law_1 11 (q := (162, .iconst 2, 1)) rfl
theorem d_Law_law_163 : decode code 163 = .ok (.iadd, 1) := zdt v_Law_law_1 12 (q := (163, .iadd, 1)) rfl
theorem d_Law_law_164 : decode code 164 = .ok (.iaload, 1) := zdt v_Law_law_1 13 (q := (164, .iaload, 1)) rfl
theorem d_Law_law_165 : decode code 165 = .ok (.aload_n 0, 1) := zdt v_Law_law_1 14 (q := (165, .aload_n 0, 1)) rfl
theorem d_Law_law_166 : decode code 166 = .ok (.iload 4, 2) := zdt v_Law_law_1 15 (q := (166, .iload 4, 2)) rfl
theorem d_Law_law_168 : decode code 168 = .ok (.iconst 3, 1) := zdt v_Law_law_1 16 (q := (168, .iconst 3, 1)) rfl
theorem d_Law_law_169 : decode code 169 = .ok (.iadd, 1) := zdt v_Law_law_1 17 (q := (169, .iadd, 1)) rfl
theorem d_Law_law_170 : decode code 170 = .ok (.iaload, 1) := zdt v_Law_law_1 18 (q := (170, .iaload, 1)) rfl
theorem d_Law_law_171 : decode code 171 = .ok (.aload_n 0, 1) := zdt v_Law_law_1 19 (q := (171, .aload_n 0, 1)) rfl
theorem d_Law_law_172 : decode code 172 = .ok (.iload 4, 2) := zdt v_Law_law_1 20 (q := (172, .iload 4, 2)) rfl
theorem d_Law_law_174 : decode code 174 = .ok (.iconst 4, 1) := zdt v_Law_law_1 21 (q := (174, .iconst 4, 1)) rfl
theorem d_Law_law_175 : decode code 175 = .ok (.iadd, 1) := zdt v_Law_law_1 22 (q := (175, .iadd, 1)) rfl
theorem d_Law_law_176 : decode code 176 = .ok (.iaload, 1) := zdt v_Law_law_1 23 (q := (176, .iaload, 1)) rfl
theorem d_Law_law_177 : decode code 177 = .ok (.aload_n 3, 1) := zdt v_Law_law_1 24 (q := (177, .aload_n 3, 1)) rfl
theorem d_Law_law_178 : decode code 178 = .ok (.invokestatic 69, 3) := zdt v_Law_law_1 25 (q := (178, .invokestatic 69, 3)) rfl
theorem d_Law_law_181 : decode code 181 = .ok (.istore 5, 2) := zdt v_Law_law_1 26 (q := (181, .istore 5, 2)) rfl
theorem d_Law_law_183 : decode code 183 = .ok (.aload_n 2, 1) := zdt v_Law_law_1 27 (q := (183, .aload_n 2, 1)) rfl
theorem d_Law_law_184 : decode code 184 = .ok (.aload_n 0, 1) := zdt v_Law_law_1 28 (q := (184, .aload_n 0, 1)) rfl
theorem d_Law_law_185 : decode code 185 = .ok (.iload 4, 2) := zdt v_Law_law_1 29 (q := (185, .iload 4, 2)) rfl
theorem d_Law_law_187 : decode code 187 = .ok (.iconst 1, 1) := zdt v_Law_law_1 30 (q := (187, .iconst 1, 1)) rfl
theorem d_Law_law_188 : decode code 188 = .ok (.iadd, 1) := zdt v_Law_law_1 31 (q := (188, .iadd, 1)) rfl
theorem d_Law_law_189 : decode code 189 = .ok (.iaload, 1) := zdt v_Law_law_1 32 (q := (189, .iaload, 1)) rfl
theorem d_Law_law_190 : decode code 190 = .ok (.aload_n 0, 1) := zdt v_Law_law_1 33 (q := (190, .aload_n 0, 1)) rfl
theorem d_Law_law_191 : decode code 191 = .ok (.iload 4, 2) := zdt v_Law_law_1 34 (q := (191, .iload 4, 2)) rfl
theorem d_Law_law_193 : decode code 193 = .ok (.iconst 2, 1) := zdt v_Law_law_1 35 (q := (193, .iconst 2, 1)) rfl
theorem d_Law_law_194 : decode code 194 = .ok (.iadd, 1) := zdt v_Law_law_1 36 (q := (194, .iadd, 1)) rfl
theorem d_Law_law_195 : decode code 195 = .ok (.iaload, 1) := zdt v_Law_law_1 37 (q := (195, .iaload, 1)) rfl
theorem d_Law_law_196 : decode code 196 = .ok (.aload_n 0, 1) := zdt v_Law_law_1 38 (q := (196, .aload_n 0, 1)) rfl
theorem d_Law_law_197 : decode code 197 = .ok (.iload 4, 2) := zdt v_Law_law_1 39 (q := (197, .iload 4, 2)) rfl
def u_Law_law_2 : List (Nat × Instr × Nat) := [(199, .iconst 3, 1), (200, .iadd, 1), (201, .iaload, 1), (202, .aload_n 0, 1), (203, .iload 4, 2), (205, .iconst 4, 1), (206, .iadd, 1), (207, .iaload, 1), (208, .invokevirtual 72, 3), (211, .istore 6, 2), (213, .aload_n 2, 1), (214, .invokevirtual 73, 3), (217, .iload 5, 2), (219, .if_icmp .eq 5, 3), (222, .iconst 0, 1), (223, .ireturn, 1), (224, .iload 5, 2), (226, .ifCond .ne 15, 3), (229, .aload_n 3, 1), (230, .iconst 0, 1), (231, .laload, 1), (232, .iload 6, 2), (234, .i2l, 1), (235, .lcmp, 1), (236, .ifCond .eq 5, 3), (239, .iconst 0, 1), (240, .ireturn, 1), (241, .goto 838, 3), (244, .aload_n 1, 1), (245, .invokevirtual 77, 3), (248, .aload_n 2, 1), (249, .invokevirtual 80, 3), (252, .if_icmp .eq 827, 3), (255, .iconst 0, 1), (256, .ireturn, 1), (257, .aload_n 1, 1), (258, .aload_n 0, 1), (259, .iload 4, 2), (261, .iconst 1, 1), (262, .iadd, 1)]
theorem v_Law_law_2 : u_Law_law_2.all (zdq code) = true := by decide +kernel
theorem d_Law_law_199 : decode code 199 = .ok (.iconst 3, 1) := zdt v_Law_law_2 0 (q := (199, .iconst 3, 1)) rfl
theorem d_Law_law_200 : decode code 200 = .ok (.iadd, 1) := zdt v_Law_law_2 1 (q := (200, .iadd, 1)) rfl
theorem d_Law_law_201 : decode code 201 = .ok (.iaload, 1) := zdt v_Law_law_2 2 (q := (201, .iaload, 1)) rfl
theorem d_Law_law_202 : decode code 202 = .ok (.aload_n 0, 1) := zdt v_Law_law_2 3 (q := (202, .aload_n 0, 1)) rfl
theorem d_Law_law_203 : decode code 203 = .ok (.iload 4, 2) := zdt v_Law_law_2 4 (q := (203, .iload 4, 2)) rfl
theorem d_Law_law_205 : decode code 205 = .ok (.iconst 4, 1) := zdt v_Law_law_2 5 (q := (205, .iconst 4, 1)) rfl
theorem d_Law_law_206 : decode code 206 = .ok (.iadd, 1) := zdt v_Law_law_2 6 (q := (206, .iadd, 1)) rfl
theorem d_Law_law_207 : decode code 207 = .ok (.iaload, 1) := zdt v_Law_law_2 7 (q := (207, .iaload, 1)) rfl
theorem d_Law_law_208 : decode code 208 = .ok (.invokevirtual 72, 3) := zdt v_Law_law_2 8 (q := (208, .invokevirtual 72, 3)) rfl
theorem d_Law_law_211 : decode code 211 = .ok (.istore 6, 2) := zdt v_Law_law_2 9 (q := (211, .istore 6, 2)) rfl
theorem d_Law_law_213 : decode code 213 = .ok (.aload_n 2, 1) := zdt v_Law_law_2 10 (q := (213, .aload_n 2, 1)) rfl
theorem d_Law_law_214 : decode code 214 = .ok (.invokevirtual 73, 3) := zdt v_Law_law_2 11 (q := (214, .invokevirtual 73, 3)) rfl
theorem d_Law_law_217 : decode code 217 = .ok (.iload 5, 2) := zdt v_Law_law_2 12 (q := (217, .iload 5, 2)) rfl
theorem d_Law_law_219 : decode code 219 = .ok (.if_icmp .eq 5, 3) := zdt v_Law_law_2 13 (q := (219, .if_icmp .eq 5, 3)) rfl
theorem d_Law_law_222 : decode code 222 = .ok (.iconst 0, 1) := zdt v_Law_law_2 14 (q := (222, .iconst 0, 1)) rfl
theorem d_Law_law_223 : decode code 223 = .ok (.ireturn, 1) := zdt v_Law_law_2 15 (q := (223, .ireturn, 1)) rfl
theorem d_Law_law_224 : decode code 224 = .ok (.iload 5, 2) := zdt v_Law_law_2 16 (q := (224, .iload 5, 2)) rfl
theorem d_Law_law_226 : decode code 226 = .ok (.ifCond .ne 15, 3) := zdt v_Law_law_2 17 (q := (226, .ifCond .ne 15, 3)) rfl
theorem d_Law_law_229 : decode code 229 = .ok (.aload_n 3, 1) := zdt v_Law_law_2 18 (q := (229, .aload_n 3, 1)) rfl
theorem d_Law_law_230 : decode code 230 = .ok (.iconst 0, 1) := zdt v_Law_law_2 19 (q := (230, .iconst 0, 1)) rfl
theorem d_Law_law_231 : decode code 231 = .ok (.laload, 1) := zdt v_Law_law_2 20 (q := (231, .laload, 1)) rfl
theorem d_Law_law_232 : decode code 232 = .ok (.iload 6, 2) := zdt v_Law_law_2 21 (q := (232, .iload 6, 2)) rfl
theorem d_Law_law_234 : decode code 234 = .ok (.i2l, 1) := zdt v_Law_law_2 22 (q := (234, .i2l, 1)) rfl
theorem d_Law_law_235 : decode code 235 = .ok (.lcmp, 1) := zdt v_Law_law_2 23 (q := (235, .lcmp, 1)) rfl
theorem d_Law_law_236 : decode code 236 = .ok (.ifCond .eq 5, 3) := zdt v_Law_law_2 24 (q := (236, .ifCond .eq 5, 3)) rfl
theorem d_Law_law_239 : decode code 239 = .ok (.iconst 0, 1) := zdt v_Law_law_2 25 (q := (239, .iconst 0, 1)) rfl
theorem d_Law_law_240 : decode code 240 = .ok (.ireturn, 1) := zdt v_Law_law_2 26 (q := (240, .ireturn, 1)) rfl
theorem d_Law_law_241 : decode code 241 = .ok (.goto 838, 3) := zdt v_Law_law_2 27 (q := (241, .goto 838, 3)) rfl
theorem d_Law_law_244 : decode code 244 = .ok (.aload_n 1, 1) := zdt v_Law_law_2 28 (q := (244, .aload_n 1, 1)) rfl
theorem d_Law_law_245 : decode code 245 = .ok (.invokevirtual 77, 3) := zdt v_Law_law_2 29 (q := (245, .invokevirtual 77, 3)) rfl
theorem d_Law_law_248 : decode code 248 = .ok (.aload_n 2, 1) := zdt v_Law_law_2 30 (q := (248, .aload_n 2, 1)) rfl
theorem d_Law_law_249 : decode code 249 = .ok (.invokevirtual 80, 3) := zdt v_Law_law_2 31 (q := (249, .invokevirtual 80, 3)) rfl
theorem d_Law_law_252 : decode code 252 = .ok (.if_icmp .eq 827, 3) := zdt v_Law_law_2 32 (q := (252, .if_icmp .eq 827, 3)) rfl
theorem d_Law_law_255 : decode code 255 = .ok (.iconst 0, 1) := zdt v_Law_law_2 33 (q := (255, .iconst 0, 1)) rfl
theorem d_Law_law_256 : decode code 256 = .ok (.ireturn, 1) := zdt v_Law_law_2 34 (q := (256, .ireturn, 1)) rfl
theorem d_Law_law_257 : decode code 257 = .ok (.aload_n 1, 1) := zdt v_Law_law_2 35 (q := (257, .aload_n 1, 1)) rfl
theorem d_Law_law_258 : decode code 258 = .ok (.aload_n 0, 1) := zdt v_Law_law_2 36 (q := (258, .aload_n 0, 1)) rfl
theorem d_Law_law_259 : decode code 259 = .ok (.iload 4, 2) := zdt v_Law_law_2 37 (q := (259, .iload 4, 2)) rfl
theorem d_Law_law_261 : decode code 261 = .ok (.iconst 1, 1) := zdt v_Law_law_2 38 (q := (261, .iconst 1, 1)) rfl
theorem d_Law_law_262 : decode code 262 = .ok (.iadd, 1) := zdt v_Law_law_2 39 (q := (262, .iadd, 1)) rfl
def u_Law_law_3 : List (Nat × Instr × Nat) := [(263, .iaload, 1), (264, .aload_n 0, 1), (265, .iload 4, 2), (267, .iconst 2, 1), (268, .iadd, 1), (269, .iaload, 1), (270, .ifCond .eq 7, 3), (273, .iconst 1, 1), (274, .goto 4, 3), (277, .iconst 0, 1), (278, .aload_n 3, 1), (279, .invokestatic 81, 3), (282, .istore 5, 2), (284, .aload_n 2, 1), (285, .aload_n 0, 1), (286, .iload 4, 2), (288, .iconst 1, 1), (289, .iadd, 1), (290, .iaload, 1), (291, .aload_n 0, 1), (292, .iload 4, 2), (294, .iconst 2, 1), (295, .iadd, 1), (296, .iaload, 1), (297, .ifCond .eq 7, 3), (300, .iconst 1, 1), (301, .goto 4, 3), (304, .iconst 0, 1), (305, .invokevirtual 84, 3), (308, .istore 6, 2), (310, .aload_n 2, 1), (311, .invokevirtual 73, 3), (314, .iload 5, 2), (316, .if_icmp .eq 5, 3), (319, .iconst 0, 1), (320, .ireturn, 1), (321, .iload 5, 2), (323, .ifCond .ne 22, 3), (326, .aload_n 3, 1), (327, .iconst 0, 1)]
theorem v_Law_law_3 : u_Law_law_3.all (zdq code) = true := by decide +kernel
theorem d_Law_law_263 : decode code 263 = .ok (.iaload, 1) := zdt v_Law_law_3 0 (q := (263, .iaload, 1)) rfl
theorem d_Law_law_264 : decode code 264 = .ok (.aload_n 0, 1) := zdt v_Law_law_3 1 (q := (264, .aload_n 0, 1)) rfl
theorem d_Law_law_265 : decode code 265 = .ok (.iload 4, 2) := zdt v_Law_law_3 2 (q := (265, .iload 4, 2)) rfl
theorem d_Law_law_267 : decode code 267 = .ok (.iconst 2, 1) := zdt v_Law_law_3 3 (q := (267, .iconst 2, 1)) rfl
theorem d_Law_law_268 : decode code 268 = .ok (.iadd, 1) := zdt v_Law_law_3 4 (q := (268, .iadd, 1)) rfl
theorem d_Law_law_269 : decode code 269 = .ok (.iaload, 1) := zdt v_Law_law_3 5 (q := (269, .iaload, 1)) rfl
theorem d_Law_law_270 : decode code 270 = .ok (.ifCond .eq 7, 3) := zdt v_Law_law_3 6 (q := (270, .ifCond .eq 7, 3)) rfl
theorem d_Law_law_273 : decode code 273 = .ok (.iconst 1, 1) := zdt v_Law_law_3 7 (q := (273, .iconst 1, 1)) rfl
theorem d_Law_law_274 : decode code 274 = .ok (.goto 4, 3) := zdt v_Law_law_3 8 (q := (274, .goto 4, 3)) rfl
theorem d_Law_law_277 : decode code 277 = .ok (.iconst 0, 1) := zdt v_Law_law_3 9 (q := (277, .iconst 0, 1)) rfl
theorem d_Law_law_278 : decode code 278 = .ok (.aload_n 3, 1) := zdt v_Law_law_3 10 (q := (278, .aload_n 3, 1)) rfl
theorem d_Law_law_279 : decode code 279 = .ok (.invokestatic 81, 3) := zdt v_Law_law_3 11 (q := (279, .invokestatic 81, 3)) rfl
theorem d_Law_law_282 : decode code 282 = .ok (.istore 5, 2) := zdt v_Law_law_3 12 (q := (282, .istore 5, 2)) rfl
theorem d_Law_law_284 : decode code 284 = .ok (.aload_n 2, 1) := zdt v_Law_law_3 13 (q := (284, .aload_n 2, 1)) rfl
theorem d_Law_law_285 : decode code 285 = .ok (.aload_n 0, 1) := zdt v_Law_law_3 14 (q := (285, .aload_n 0, 1)) rfl
theorem d_Law_law_286 : decode code 286 = .ok (.iload 4, 2) := zdt v_Law_law_3 15 (q := (286, .iload 4, 2)) rfl
theorem d_Law_law_288 : decode code 288 = .ok (.iconst 1, 1) := zdt v_Law_law_3 16 (q := (288, .iconst 1, 1)) rfl
theorem d_Law_law_289 : decode code 289 = .ok (.iadd, 1) := zdt v_Law_law_3 17 (q := (289, .iadd, 1)) rfl
theorem d_Law_law_290 : decode code 290 = .ok (.iaload, 1) := zdt v_Law_law_3 18 (q := (290, .iaload, 1)) rfl
theorem d_Law_law_291 : decode code 291 = .ok (.aload_n 0, 1) := zdt v_Law_law_3 19 (q := (291, .aload_n 0, 1)) rfl
theorem d_Law_law_292 : decode code 292 = .ok (.iload 4, 2) := zdt v_Law_law_3 20 (q := (292, .iload 4, 2)) rfl
theorem d_Law_law_294 : decode code 294 = .ok (.iconst 2, 1) := zdt v_Law_law_3 21 (q := (294, .iconst 2, 1)) rfl
theorem d_Law_law_295 : decode code 295 = .ok (.iadd, 1) := zdt v_Law_law_3 22 (q := (295, .iadd, 1)) rfl
theorem d_Law_law_296 : decode code 296 = .ok (.iaload, 1) := zdt v_Law_law_3 23 (q := (296, .iaload, 1)) rfl
theorem d_Law_law_297 : decode code 297 = .ok (.ifCond .eq 7, 3) := zdt v_Law_law_3 24 (q := (297, .ifCond .eq 7, 3)) rfl
theorem d_Law_law_300 : decode code 300 = .ok (.iconst 1, 1) := zdt v_Law_law_3 25 (q := (300, .iconst 1, 1)) rfl
theorem d_Law_law_301 : decode code 301 = .ok (.goto 4, 3) := zdt v_Law_law_3 26 (q := (301, .goto 4, 3)) rfl
theorem d_Law_law_304 : decode code 304 = .ok (.iconst 0, 1) := zdt v_Law_law_3 27 (q := (304, .iconst 0, 1)) rfl
theorem d_Law_law_305 : decode code 305 = .ok (.invokevirtual 84, 3) := zdt v_Law_law_3 28 (q := (305, .invokevirtual 84, 3)) rfl
theorem d_Law_law_308 : decode code 308 = .ok (.istore 6, 2) := zdt v_Law_law_3 29 (q := (308, .istore 6, 2)) rfl
theorem d_Law_law_310 : decode code 310 = .ok (.aload_n 2, 1) := zdt v_Law_law_3 30 (q := (310, .aload_n 2, 1)) rfl
theorem d_Law_law_311 : decode code 311 = .ok (.invokevirtual 73, 3) := zdt v_Law_law_3 31 (q := (311, .invokevirtual 73, 3)) rfl
theorem d_Law_law_314 : decode code 314 = .ok (.iload 5, 2) := zdt v_Law_law_3 32 (q := (314, .iload 5, 2)) rfl
theorem d_Law_law_316 : decode code 316 = .ok (.if_icmp .eq 5, 3) := zdt v_Law_law_3 33 (q := (316, .if_icmp .eq 5, 3)) rfl
theorem d_Law_law_319 : decode code 319 = .ok (.iconst 0, 1) := zdt v_Law_law_3 34 (q := (319, .iconst 0, 1)) rfl
theorem d_Law_law_320 : decode code 320 = .ok (.ireturn, 1) := zdt v_Law_law_3 35 (q := (320, .ireturn, 1)) rfl
theorem d_Law_law_321 : decode code 321 = .ok (.iload 5, 2) := zdt v_Law_law_3 36 (q := (321, .iload 5, 2)) rfl
theorem d_Law_law_323 : decode code 323 = .ok (.ifCond .ne 22, 3) := zdt v_Law_law_3 37 (q := (323, .ifCond .ne 22, 3)) rfl
theorem d_Law_law_326 : decode code 326 = .ok (.aload_n 3, 1) := zdt v_Law_law_3 38 (q := (326, .aload_n 3, 1)) rfl
theorem d_Law_law_327 : decode code 327 = .ok (.iconst 0, 1) := zdt v_Law_law_3 39 (q := (327, .iconst 0, 1)) rfl
def u_Law_law_4 : List (Nat × Instr × Nat) := [(328, .laload, 1), (329, .iload 6, 2), (331, .ifCond .eq 7, 3), (334, .lconst 1, 1), (335, .goto 4, 3), (338, .lconst 0, 1), (339, .lcmp, 1), (340, .ifCond .eq 5, 3), (343, .iconst 0, 1), (344, .ireturn, 1), (345, .goto 734, 3), (348, .aload_n 1, 1), (349, .aload_n 0, 1), (350, .iload 4, 2), (352, .iconst 1, 1), (353, .iadd, 1), (354, .iaload, 1), (355, .aload_n 0, 1), (356, .iload 4, 2), (358, .iconst 2, 1), (359, .iadd, 1), (360, .iaload, 1), (361, .aload_n 0, 1), (362, .iload 4, 2), (364, .iconst 3, 1), (365, .iadd, 1), (366, .iaload, 1), (367, .aload_n 3, 1), (368, .invokestatic 85, 3), (371, .istore 5, 2), (373, .aload_n 2, 1), (374, .aload_n 0, 1), (375, .iload 4, 2), (377, .iconst 1, 1), (378, .iadd, 1), (379, .iaload, 1), (380, .aload_n 0, 1), (381, .iload 4, 2), (383, .iconst 2, 1), (384, .iadd, 1)]
theorem v_Law_law_4 : u_Law_law_4.all (zdq code) = true := by decide +kernel
theorem d_Law_law_328 : decode code 328 = .ok (.laload, 1) := zdt v_Law_law_4 0 (q := (328, .laload, 1)) rfl
theorem d_Law_law_329 : decode code 329 = .ok (.iload 6, 2) := zdt v_Law_law_4 1 (q := (329, .iload 6, 2)) rfl
theorem d_Law_law_331 : decode code 331 = .ok (.ifCond .eq 7, 3) := zdt v_Law_law_4 2 (q := (331, .ifCond .eq 7, 3)) rfl
theorem d_Law_law_334 : decode code 334 = .ok (.lconst 1, 1) := zdt v_Law_law_4 3 (q := (334, .lconst 1, 1)) rfl
theorem d_Law_law_335 : decode code 335 = .ok (.goto 4, 3) := zdt v_Law_law_4 4 (q := (335, .goto 4, 3)) rfl
theorem d_Law_law_338 : decode code 338 = .ok (.lconst 0, 1) := zdt v_Law_law_4 5 (q := (338, .lconst 0, 1)) rfl
theorem d_Law_law_339 : decode code 339 = .ok (.lcmp, 1) := zdt v_Law_law_4 6 (q := (339, .lcmp, 1)) rfl
theorem d_Law_law_340 : decode code 340 = .ok (.ifCond .eq 5, 3) := zdt v_Law_law_4 7 (q := (340, .ifCond .eq 5, 3)) rfl
theorem d_Law_law_343 : decode code 343 = .ok (.iconst 0, 1) := zdt v_Law_law_4 8 (q := (343, .iconst 0, 1)) rfl
theorem d_Law_law_344 : decode code 344 = .ok (.ireturn, 1) := zdt v_Law_law_4 9 (q := (344, .ireturn, 1)) rfl
theorem d_Law_law_345 : decode code 345 = .ok (.goto 734, 3) := zdt v_Law_law_4 10 (q := (345, .goto 734, 3)) rfl
theorem d_Law_law_348 : decode code 348 = .ok (.aload_n 1, 1) := zdt v_Law_law_4 11 (q := (348, .aload_n 1, 1)) rfl
theorem d_Law_law_349 : decode code 349 = .ok (.aload_n 0, 1) := zdt v_Law_law_4 12 (q := (349, .aload_n 0, 1)) rfl
theorem d_Law_law_350 : decode code 350 = .ok (.iload 4, 2) := zdt v_Law_law_4 13 (q := (350, .iload 4, 2)) rfl
theorem d_Law_law_352 : decode code 352 = .ok (.iconst 1, 1) := zdt v_Law_law_4 14 (q := (352, .iconst 1, 1)) rfl
theorem d_Law_law_353 : decode code 353 = .ok (.iadd, 1) := zdt v_Law_law_4 15 (q := (353, .iadd, 1)) rfl
theorem d_Law_law_354 : decode code 354 = .ok (.iaload, 1) := zdt v_Law_law_4 16 (q := (354, .iaload, 1)) rfl
theorem d_Law_law_355 : decode code 355 = .ok (.aload_n 0, 1) := zdt v_Law_law_4 17 (q := (355, .aload_n 0, 1)) rfl
theorem d_Law_law_356 : decode code 356 = .ok (.iload 4, 2) := zdt v_Law_law_4 18 (q := (356, .iload 4, 2)) rfl
theorem d_Law_law_358 : decode code 358 = .ok (.iconst 2, 1) := zdt v_Law_law_4 19 (q := (358, .iconst 2, 1)) rfl
theorem d_Law_law_359 : decode code 359 = .ok (.iadd, 1) := zdt v_Law_law_4 20 (q := (359, .iadd, 1)) rfl
theorem d_Law_law_360 : decode code 360 = .ok (.iaload, 1) := zdt v_Law_law_4 21 (q := (360, .iaload, 1)) rfl
theorem d_Law_law_361 : decode code 361 = .ok (.aload_n 0, 1) := zdt v_Law_law_4 22 (q := (361, .aload_n 0, 1)) rfl
theorem d_Law_law_362 : decode code 362 = .ok (.iload 4, 2) := zdt v_Law_law_4 23 (q := (362, .iload 4, 2)) rfl
theorem d_Law_law_364 : decode code 364 = .ok (.iconst 3, 1) := zdt v_Law_law_4 24 (q := (364, .iconst 3, 1)) rfl
theorem d_Law_law_365 : decode code 365 = .ok (.iadd, 1) := zdt v_Law_law_4 25 (q := (365, .iadd, 1)) rfl
theorem d_Law_law_366 : decode code 366 = .ok (.iaload, 1) := zdt v_Law_law_4 26 (q := (366, .iaload, 1)) rfl
theorem d_Law_law_367 : decode code 367 = .ok (.aload_n 3, 1) := zdt v_Law_law_4 27 (q := (367, .aload_n 3, 1)) rfl
theorem d_Law_law_368 : decode code 368 = .ok (.invokestatic 85, 3) := zdt v_Law_law_4 28 (q := (368, .invokestatic 85, 3)) rfl
theorem d_Law_law_371 : decode code 371 = .ok (.istore 5, 2) := zdt v_Law_law_4 29 (q := (371, .istore 5, 2)) rfl
theorem d_Law_law_373 : decode code 373 = .ok (.aload_n 2, 1) := zdt v_Law_law_4 30 (q := (373, .aload_n 2, 1)) rfl
theorem d_Law_law_374 : decode code 374 = .ok (.aload_n 0, 1) := zdt v_Law_law_4 31 (q := (374, .aload_n 0, 1)) rfl
theorem d_Law_law_375 : decode code 375 = .ok (.iload 4, 2) := zdt v_Law_law_4 32 (q := (375, .iload 4, 2)) rfl
theorem d_Law_law_377 : decode code 377 = .ok (.iconst 1, 1) := zdt v_Law_law_4 33 (q := (377, .iconst 1, 1)) rfl
theorem d_Law_law_378 : decode code 378 = .ok (.iadd, 1) := zdt v_Law_law_4 34 (q := (378, .iadd, 1)) rfl
theorem d_Law_law_379 : decode code 379 = .ok (.iaload, 1) := zdt v_Law_law_4 35 (q := (379, .iaload, 1)) rfl
theorem d_Law_law_380 : decode code 380 = .ok (.aload_n 0, 1) := zdt v_Law_law_4 36 (q := (380, .aload_n 0, 1)) rfl
theorem d_Law_law_381 : decode code 381 = .ok (.iload 4, 2) := zdt v_Law_law_4 37 (q := (381, .iload 4, 2)) rfl
theorem d_Law_law_383 : decode code 383 = .ok (.iconst 2, 1) := zdt v_Law_law_4 38 (q := (383, .iconst 2, 1)) rfl
theorem d_Law_law_384 : decode code 384 = .ok (.iadd, 1) := zdt v_Law_law_4 39 (q := (384, .iadd, 1)) rfl
def u_Law_law_5 : List (Nat × Instr × Nat) := [(385, .iaload, 1), (386, .aload_n 0, 1), (387, .iload 4, 2), (389, .iconst 3, 1), (390, .iadd, 1), (391, .iaload, 1), (392, .invokevirtual 88, 3), (395, .istore 6, 2), (397, .aload_n 2, 1), (398, .invokevirtual 73, 3), (401, .iload 5, 2), (403, .if_icmp .eq 5, 3), (406, .iconst 0, 1), (407, .ireturn, 1), (408, .iload 5, 2), (410, .ifCond .ne 15, 3), (413, .aload_n 3, 1), (414, .iconst 0, 1), (415, .laload, 1), (416, .iload 6, 2), (418, .i2l, 1), (419, .lcmp, 1), (420, .ifCond .eq 5, 3), (423, .iconst 0, 1), (424, .ireturn, 1), (425, .goto 654, 3), (428, .aload_n 1, 1), (429, .aload_n 0, 1), (430, .iload 4, 2), (432, .iconst 1, 1), (433, .iadd, 1), (434, .iaload, 1), (435, .aload_n 0, 1), (436, .iload 4, 2), (438, .iconst 2, 1), (439, .iadd, 1), (440, .iaload, 1), (441, .aload_n 0, 1), (442, .iload 4, 2), (444, .iconst 3, 1)]
theorem v_Law_law_5 : u_Law_law_5.all (zdq code) = true := by decide +kernel
theorem d_Law_law_385 : decode code 385 = .ok (.iaload, 1) := zdt v_Law_law_5 0 (q := (385, .iaload, 1)) rfl
theorem d_Law_law_386 : decode code 386 = .ok (.aload_n 0, 1) := zdt v_Law_law_5 1 (q := (386, .aload_n 0, 1)) rfl
theorem d_Law_law_387 : decode code 387 = .ok (.iload 4, 2) := zdt v_Law_law_5 2 (q := (387, .iload 4, 2)) rfl
theorem d_Law_law_389 : decode code 389 = .ok (.iconst 3, 1) := zdt v_Law_law_5 3 (q := (389, .iconst 3, 1)) rfl
theorem d_Law_law_390 : decode code 390 = .ok (.iadd, 1) := zdt v_Law_law_5 4 (q := (390, .iadd, 1)) rfl
theorem d_Law_law_391 : decode code 391 = .ok (.iaload, 1) := zdt v_Law_law_5 5 (q := (391, .iaload, 1)) rfl
theorem d_Law_law_392 : decode code 392 = .ok (.invokevirtual 88, 3) := zdt v_Law_law_5 6 (q := (392, .invokevirtual 88, 3)) rfl
theorem d_Law_law_395 : decode code 395 = .ok (.istore 6, 2) := zdt v_Law_law_5 7 (q := (395, .istore 6, 2)) rfl
theorem d_Law_law_397 : decode code 397 = .ok (.aload_n 2, 1) := zdt v_Law_law_5 8 (q := (397, .aload_n 2, 1)) rfl
theorem d_Law_law_398 : decode code 398 = .ok (.invokevirtual 73, 3) := zdt v_Law_law_5 9 (q := (398, .invokevirtual 73, 3)) rfl
theorem d_Law_law_401 : decode code 401 = .ok (.iload 5, 2) := zdt v_Law_law_5 10 (q := (401, .iload 5, 2)) rfl
theorem d_Law_law_403 : decode code 403 = .ok (.if_icmp .eq 5, 3) := zdt v_Law_law_5 11 (q := (403, .if_icmp .eq 5, 3)) rfl
theorem d_Law_law_406 : decode code 406 = .ok (.iconst 0, 1) := zdt v_Law_law_5 12 (q := (406, .iconst 0, 1)) rfl
theorem d_Law_law_407 : decode code 407 = .ok (.ireturn, 1) := zdt v_Law_law_5 13 (q := (407, .ireturn, 1)) rfl
theorem d_Law_law_408 : decode code 408 = .ok (.iload 5, 2) := zdt v_Law_law_5 14 (q := (408, .iload 5, 2)) rfl
theorem d_Law_law_410 : decode code 410 = .ok (.ifCond .ne 15, 3) := zdt v_Law_law_5 15 (q := (410, .ifCond .ne 15, 3)) rfl
theorem d_Law_law_413 : decode code 413 = .ok (.aload_n 3, 1) := zdt v_Law_law_5 16 (q := (413, .aload_n 3, 1)) rfl
theorem d_Law_law_414 : decode code 414 = .ok (.iconst 0, 1) := zdt v_Law_law_5 17 (q := (414, .iconst 0, 1)) rfl
theorem d_Law_law_415 : decode code 415 = .ok (.laload, 1) := zdt v_Law_law_5 18 (q := (415, .laload, 1)) rfl
theorem d_Law_law_416 : decode code 416 = .ok (.iload 6, 2) := zdt v_Law_law_5 19 (q := (416, .iload 6, 2)) rfl
theorem d_Law_law_418 : decode code 418 = .ok (.i2l, 1) := zdt v_Law_law_5 20 (q := (418, .i2l, 1)) rfl
theorem d_Law_law_419 : decode code 419 = .ok (.lcmp, 1) := zdt v_Law_law_5 21 (q := (419, .lcmp, 1)) rfl
theorem d_Law_law_420 : decode code 420 = .ok (.ifCond .eq 5, 3) := zdt v_Law_law_5 22 (q := (420, .ifCond .eq 5, 3)) rfl
theorem d_Law_law_423 : decode code 423 = .ok (.iconst 0, 1) := zdt v_Law_law_5 23 (q := (423, .iconst 0, 1)) rfl
theorem d_Law_law_424 : decode code 424 = .ok (.ireturn, 1) := zdt v_Law_law_5 24 (q := (424, .ireturn, 1)) rfl
theorem d_Law_law_425 : decode code 425 = .ok (.goto 654, 3) := zdt v_Law_law_5 25 (q := (425, .goto 654, 3)) rfl
theorem d_Law_law_428 : decode code 428 = .ok (.aload_n 1, 1) := zdt v_Law_law_5 26 (q := (428, .aload_n 1, 1)) rfl
theorem d_Law_law_429 : decode code 429 = .ok (.aload_n 0, 1) := zdt v_Law_law_5 27 (q := (429, .aload_n 0, 1)) rfl
theorem d_Law_law_430 : decode code 430 = .ok (.iload 4, 2) := zdt v_Law_law_5 28 (q := (430, .iload 4, 2)) rfl
theorem d_Law_law_432 : decode code 432 = .ok (.iconst 1, 1) := zdt v_Law_law_5 29 (q := (432, .iconst 1, 1)) rfl
theorem d_Law_law_433 : decode code 433 = .ok (.iadd, 1) := zdt v_Law_law_5 30 (q := (433, .iadd, 1)) rfl
theorem d_Law_law_434 : decode code 434 = .ok (.iaload, 1) := zdt v_Law_law_5 31 (q := (434, .iaload, 1)) rfl
theorem d_Law_law_435 : decode code 435 = .ok (.aload_n 0, 1) := zdt v_Law_law_5 32 (q := (435, .aload_n 0, 1)) rfl
theorem d_Law_law_436 : decode code 436 = .ok (.iload 4, 2) := zdt v_Law_law_5 33 (q := (436, .iload 4, 2)) rfl
theorem d_Law_law_438 : decode code 438 = .ok (.iconst 2, 1) := zdt v_Law_law_5 34 (q := (438, .iconst 2, 1)) rfl
theorem d_Law_law_439 : decode code 439 = .ok (.iadd, 1) := zdt v_Law_law_5 35 (q := (439, .iadd, 1)) rfl
theorem d_Law_law_440 : decode code 440 = .ok (.iaload, 1) := zdt v_Law_law_5 36 (q := (440, .iaload, 1)) rfl
theorem d_Law_law_441 : decode code 441 = .ok (.aload_n 0, 1) := zdt v_Law_law_5 37 (q := (441, .aload_n 0, 1)) rfl
theorem d_Law_law_442 : decode code 442 = .ok (.iload 4, 2) := zdt v_Law_law_5 38 (q := (442, .iload 4, 2)) rfl
theorem d_Law_law_444 : decode code 444 = .ok (.iconst 3, 1) := zdt v_Law_law_5 39 (q := (444, .iconst 3, 1)) rfl
def u_Law_law_6 : List (Nat × Instr × Nat) := [(445, .iadd, 1), (446, .iaload, 1), (447, .invokestatic 89, 3), (450, .istore 5, 2), (452, .aload_n 2, 1), (453, .aload_n 0, 1), (454, .iload 4, 2), (456, .iconst 1, 1), (457, .iadd, 1), (458, .iaload, 1), (459, .aload_n 0, 1), (460, .iload 4, 2), (462, .iconst 2, 1), (463, .iadd, 1), (464, .iaload, 1), (465, .aload_n 0, 1), (466, .iload 4, 2), (468, .iconst 3, 1), (469, .iadd, 1), (470, .iaload, 1), (471, .invokevirtual 92, 3), (474, .aload_n 2, 1), (475, .invokevirtual 73, 3), (478, .iload 5, 2), (480, .if_icmp .eq 5, 3), (483, .iconst 0, 1), (484, .ireturn, 1), (485, .goto 594, 3), (488, .aload_n 1, 1), (489, .invokevirtual 93, 3), (492, .aload_n 2, 1), (493, .invokevirtual 96, 3), (496, .if_icmp .eq 583, 3), (499, .iconst 0, 1), (500, .ireturn, 1), (501, .aload_n 1, 1), (502, .aload_n 0, 1), (503, .iload 4, 2), (505, .iconst 1, 1), (506, .iadd, 1)]
theorem v_Law_law_6 : u_Law_law_6.all (zdq code) = true := by decide +kernel
theorem d_Law_law_445 : decode code 445 = .ok (.iadd, 1) := zdt v_Law_law_6 0 (q := (445, .iadd, 1)) rfl
theorem d_Law_law_446 : decode code 446 = .ok (.iaload, 1) := zdt v_Law_law_6 1 (q := (446, .iaload, 1)) rfl
theorem d_Law_law_447 : decode code 447 = .ok (.invokestatic 89, 3) := zdt v_Law_law_6 2 (q := (447, .invokestatic 89, 3)) rfl
theorem d_Law_law_450 : decode code 450 = .ok (.istore 5, 2) := zdt v_Law_law_6 3 (q := (450, .istore 5, 2)) rfl
theorem d_Law_law_452 : decode code 452 = .ok (.aload_n 2, 1) := zdt v_Law_law_6 4 (q := (452, .aload_n 2, 1)) rfl
theorem d_Law_law_453 : decode code 453 = .ok (.aload_n 0, 1) := zdt v_Law_law_6 5 (q := (453, .aload_n 0, 1)) rfl
theorem d_Law_law_454 : decode code 454 = .ok (.iload 4, 2) := zdt v_Law_law_6 6 (q := (454, .iload 4, 2)) rfl
theorem d_Law_law_456 : decode code 456 = .ok (.iconst 1, 1) := zdt v_Law_law_6 7 (q := (456, .iconst 1, 1)) rfl
theorem d_Law_law_457 : decode code 457 = .ok (.iadd, 1) := zdt v_Law_law_6 8 (q := (457, .iadd, 1)) rfl
theorem d_Law_law_458 : decode code 458 = .ok (.iaload, 1) := zdt v_Law_law_6 9 (q := (458, .iaload, 1)) rfl
theorem d_Law_law_459 : decode code 459 = .ok (.aload_n 0, 1) := zdt v_Law_law_6 10 (q := (459, .aload_n 0, 1)) rfl
theorem d_Law_law_460 : decode code 460 = .ok (.iload 4, 2) := zdt v_Law_law_6 11 (q := (460, .iload 4, 2)) rfl
theorem d_Law_law_462 : decode code 462 = .ok (.iconst 2, 1) := zdt v_Law_law_6 12 (q := (462, .iconst 2, 1)) rfl
theorem d_Law_law_463 : decode code 463 = .ok (.iadd, 1) := zdt v_Law_law_6 13 (q := (463, .iadd, 1)) rfl
theorem d_Law_law_464 : decode code 464 = .ok (.iaload, 1) := zdt v_Law_law_6 14 (q := (464, .iaload, 1)) rfl
theorem d_Law_law_465 : decode code 465 = .ok (.aload_n 0, 1) := zdt v_Law_law_6 15 (q := (465, .aload_n 0, 1)) rfl
theorem d_Law_law_466 : decode code 466 = .ok (.iload 4, 2) := zdt v_Law_law_6 16 (q := (466, .iload 4, 2)) rfl
theorem d_Law_law_468 : decode code 468 = .ok (.iconst 3, 1) := zdt v_Law_law_6 17 (q := (468, .iconst 3, 1)) rfl
theorem d_Law_law_469 : decode code 469 = .ok (.iadd, 1) := zdt v_Law_law_6 18 (q := (469, .iadd, 1)) rfl
theorem d_Law_law_470 : decode code 470 = .ok (.iaload, 1) := zdt v_Law_law_6 19 (q := (470, .iaload, 1)) rfl
theorem d_Law_law_471 : decode code 471 = .ok (.invokevirtual 92, 3) := zdt v_Law_law_6 20 (q := (471, .invokevirtual 92, 3)) rfl
theorem d_Law_law_474 : decode code 474 = .ok (.aload_n 2, 1) := zdt v_Law_law_6 21 (q := (474, .aload_n 2, 1)) rfl
theorem d_Law_law_475 : decode code 475 = .ok (.invokevirtual 73, 3) := zdt v_Law_law_6 22 (q := (475, .invokevirtual 73, 3)) rfl
theorem d_Law_law_478 : decode code 478 = .ok (.iload 5, 2) := zdt v_Law_law_6 23 (q := (478, .iload 5, 2)) rfl
theorem d_Law_law_480 : decode code 480 = .ok (.if_icmp .eq 5, 3) := zdt v_Law_law_6 24 (q := (480, .if_icmp .eq 5, 3)) rfl
theorem d_Law_law_483 : decode code 483 = .ok (.iconst 0, 1) := zdt v_Law_law_6 25 (q := (483, .iconst 0, 1)) rfl
theorem d_Law_law_484 : decode code 484 = .ok (.ireturn, 1) := zdt v_Law_law_6 26 (q := (484, .ireturn, 1)) rfl
theorem d_Law_law_485 : decode code 485 = .ok (.goto 594, 3) := zdt v_Law_law_6 27 (q := (485, .goto 594, 3)) rfl
theorem d_Law_law_488 : decode code 488 = .ok (.aload_n 1, 1) := zdt v_Law_law_6 28 (q := (488, .aload_n 1, 1)) rfl
theorem d_Law_law_489 : decode code 489 = .ok (.invokevirtual 93, 3) := zdt v_Law_law_6 29 (q := (489, .invokevirtual 93, 3)) rfl
theorem d_Law_law_492 : decode code 492 = .ok (.aload_n 2, 1) := zdt v_Law_law_6 30 (q := (492, .aload_n 2, 1)) rfl
theorem d_Law_law_493 : decode code 493 = .ok (.invokevirtual 96, 3) := zdt v_Law_law_6 31 (q := (493, .invokevirtual 96, 3)) rfl
theorem d_Law_law_496 : decode code 496 = .ok (.if_icmp .eq 583, 3) := zdt v_Law_law_6 32 (q := (496, .if_icmp .eq 583, 3)) rfl
theorem d_Law_law_499 : decode code 499 = .ok (.iconst 0, 1) := zdt v_Law_law_6 33 (q := (499, .iconst 0, 1)) rfl
theorem d_Law_law_500 : decode code 500 = .ok (.ireturn, 1) := zdt v_Law_law_6 34 (q := (500, .ireturn, 1)) rfl
theorem d_Law_law_501 : decode code 501 = .ok (.aload_n 1, 1) := zdt v_Law_law_6 35 (q := (501, .aload_n 1, 1)) rfl
theorem d_Law_law_502 : decode code 502 = .ok (.aload_n 0, 1) := zdt v_Law_law_6 36 (q := (502, .aload_n 0, 1)) rfl
theorem d_Law_law_503 : decode code 503 = .ok (.iload 4, 2) := zdt v_Law_law_6 37 (q := (503, .iload 4, 2)) rfl
theorem d_Law_law_505 : decode code 505 = .ok (.iconst 1, 1) := zdt v_Law_law_6 38 (q := (505, .iconst 1, 1)) rfl
theorem d_Law_law_506 : decode code 506 = .ok (.iadd, 1) := zdt v_Law_law_6 39 (q := (506, .iadd, 1)) rfl
def u_Law_law_7 : List (Nat × Instr × Nat) := [(507, .iaload, 1), (508, .aload_n 0, 1), (509, .iload 4, 2), (511, .iconst 2, 1), (512, .iadd, 1), (513, .iaload, 1), (514, .aload_n 3, 1), (515, .invokestatic 97, 3), (518, .istore 5, 2), (520, .aload_n 2, 1), (521, .aload_n 0, 1), (522, .iload 4, 2), (524, .iconst 1, 1), (525, .iadd, 1), (526, .iaload, 1), (527, .aload_n 0, 1), (528, .iload 4, 2), (530, .iconst 2, 1), (531, .iadd, 1), (532, .iaload, 1), (533, .invokevirtual 100, 3), (536, .istore 6, 2), (538, .aload_n 2, 1), (539, .invokevirtual 73, 3), (542, .iload 5, 2), (544, .if_icmp .eq 5, 3), (547, .iconst 0, 1), (548, .ireturn, 1), (549, .iload 5, 2), (551, .ifCond .ne 15, 3), (554, .aload_n 3, 1), (555, .iconst 0, 1), (556, .laload, 1), (557, .iload 6, 2), (559, .i2l, 1), (560, .lcmp, 1), (561, .ifCond .eq 5, 3), (564, .iconst 0, 1), (565, .ireturn, 1), (566, .goto 513, 3)]
theorem v_Law_law_7 : u_Law_law_7.all (zdq code) = true := by decide +kernel
theorem d_Law_law_507 : decode code 507 = .ok (.iaload, 1) := zdt v_Law_law_7 0 (q := (507, .iaload, 1)) rfl
theorem d_Law_law_508 : decode code 508 = .ok (.aload_n 0, 1) := zdt v_Law_law_7 1 (q := (508, .aload_n 0, 1)) rfl
theorem d_Law_law_509 : decode code 509 = .ok (.iload 4, 2) := zdt v_Law_law_7 2 (q := (509, .iload 4, 2)) rfl
theorem d_Law_law_511 : decode code 511 = .ok (.iconst 2, 1) := zdt v_Law_law_7 3 (q := (511, .iconst 2, 1)) rfl
theorem d_Law_law_512 : decode code 512 = .ok (.iadd, 1) := zdt v_Law_law_7 4 (q := (512, .iadd, 1)) rfl
theorem d_Law_law_513 : decode code 513 = .ok (.iaload, 1) := zdt v_Law_law_7 5 (q := (513, .iaload, 1)) rfl
theorem d_Law_law_514 : decode code 514 = .ok (.aload_n 3, 1) := zdt v_Law_law_7 6 (q := (514, .aload_n 3, 1)) rfl
theorem d_Law_law_515 : decode code 515 = .ok (.invokestatic 97, 3) := zdt v_Law_law_7 7 (q := (515, .invokestatic 97, 3)) rfl
theorem d_Law_law_518 : decode code 518 = .ok (.istore 5, 2) := zdt v_Law_law_7 8 (q := (518, .istore 5, 2)) rfl
theorem d_Law_law_520 : decode code 520 = .ok (.aload_n 2, 1) := zdt v_Law_law_7 9 (q := (520, .aload_n 2, 1)) rfl
theorem d_Law_law_521 : decode code 521 = .ok (.aload_n 0, 1) := zdt v_Law_law_7 10 (q := (521, .aload_n 0, 1)) rfl
theorem d_Law_law_522 : decode code 522 = .ok (.iload 4, 2) := zdt v_Law_law_7 11 (q := (522, .iload 4, 2)) rfl
theorem d_Law_law_524 : decode code 524 = .ok (.iconst 1, 1) := zdt v_Law_law_7 12 (q := (524, .iconst 1, 1)) rfl
theorem d_Law_law_525 : decode code 525 = .ok (.iadd, 1) := zdt v_Law_law_7 13 (q := (525, .iadd, 1)) rfl
theorem d_Law_law_526 : decode code 526 = .ok (.iaload, 1) := zdt v_Law_law_7 14 (q := (526, .iaload, 1)) rfl
theorem d_Law_law_527 : decode code 527 = .ok (.aload_n 0, 1) := zdt v_Law_law_7 15 (q := (527, .aload_n 0, 1)) rfl
theorem d_Law_law_528 : decode code 528 = .ok (.iload 4, 2) := zdt v_Law_law_7 16 (q := (528, .iload 4, 2)) rfl
theorem d_Law_law_530 : decode code 530 = .ok (.iconst 2, 1) := zdt v_Law_law_7 17 (q := (530, .iconst 2, 1)) rfl
theorem d_Law_law_531 : decode code 531 = .ok (.iadd, 1) := zdt v_Law_law_7 18 (q := (531, .iadd, 1)) rfl
theorem d_Law_law_532 : decode code 532 = .ok (.iaload, 1) := zdt v_Law_law_7 19 (q := (532, .iaload, 1)) rfl
theorem d_Law_law_533 : decode code 533 = .ok (.invokevirtual 100, 3) := zdt v_Law_law_7 20 (q := (533, .invokevirtual 100, 3)) rfl
theorem d_Law_law_536 : decode code 536 = .ok (.istore 6, 2) := zdt v_Law_law_7 21 (q := (536, .istore 6, 2)) rfl
theorem d_Law_law_538 : decode code 538 = .ok (.aload_n 2, 1) := zdt v_Law_law_7 22 (q := (538, .aload_n 2, 1)) rfl
theorem d_Law_law_539 : decode code 539 = .ok (.invokevirtual 73, 3) := zdt v_Law_law_7 23 (q := (539, .invokevirtual 73, 3)) rfl
theorem d_Law_law_542 : decode code 542 = .ok (.iload 5, 2) := zdt v_Law_law_7 24 (q := (542, .iload 5, 2)) rfl
theorem d_Law_law_544 : decode code 544 = .ok (.if_icmp .eq 5, 3) := zdt v_Law_law_7 25 (q := (544, .if_icmp .eq 5, 3)) rfl
theorem d_Law_law_547 : decode code 547 = .ok (.iconst 0, 1) := zdt v_Law_law_7 26 (q := (547, .iconst 0, 1)) rfl
theorem d_Law_law_548 : decode code 548 = .ok (.ireturn, 1) := zdt v_Law_law_7 27 (q := (548, .ireturn, 1)) rfl
theorem d_Law_law_549 : decode code 549 = .ok (.iload 5, 2) := zdt v_Law_law_7 28 (q := (549, .iload 5, 2)) rfl
theorem d_Law_law_551 : decode code 551 = .ok (.ifCond .ne 15, 3) := zdt v_Law_law_7 29 (q := (551, .ifCond .ne 15, 3)) rfl
theorem d_Law_law_554 : decode code 554 = .ok (.aload_n 3, 1) := zdt v_Law_law_7 30 (q := (554, .aload_n 3, 1)) rfl
theorem d_Law_law_555 : decode code 555 = .ok (.iconst 0, 1) := zdt v_Law_law_7 31 (q := (555, .iconst 0, 1)) rfl
theorem d_Law_law_556 : decode code 556 = .ok (.laload, 1) := zdt v_Law_law_7 32 (q := (556, .laload, 1)) rfl
theorem d_Law_law_557 : decode code 557 = .ok (.iload 6, 2) := zdt v_Law_law_7 33 (q := (557, .iload 6, 2)) rfl
theorem d_Law_law_559 : decode code 559 = .ok (.i2l, 1) := zdt v_Law_law_7 34 (q := (559, .i2l, 1)) rfl
theorem d_Law_law_560 : decode code 560 = .ok (.lcmp, 1) := zdt v_Law_law_7 35 (q := (560, .lcmp, 1)) rfl
theorem d_Law_law_561 : decode code 561 = .ok (.ifCond .eq 5, 3) := zdt v_Law_law_7 36 (q := (561, .ifCond .eq 5, 3)) rfl
theorem d_Law_law_564 : decode code 564 = .ok (.iconst 0, 1) := zdt v_Law_law_7 37 (q := (564, .iconst 0, 1)) rfl
theorem d_Law_law_565 : decode code 565 = .ok (.ireturn, 1) := zdt v_Law_law_7 38 (q := (565, .ireturn, 1)) rfl
theorem d_Law_law_566 : decode code 566 = .ok (.goto 513, 3) := zdt v_Law_law_7 39 (q := (566, .goto 513, 3)) rfl
def u_Law_law_8 : List (Nat × Instr × Nat) := [(569, .aload_n 1, 1), (570, .aload_n 0, 1), (571, .iload 4, 2), (573, .iconst 1, 1), (574, .iadd, 1), (575, .iaload, 1), (576, .aload_n 0, 1), (577, .iload 4, 2), (579, .iconst 2, 1), (580, .iadd, 1), (581, .iaload, 1), (582, .aload_n 0, 1), (583, .iload 4, 2), (585, .iconst 3, 1), (586, .iadd, 1), (587, .iaload, 1), (588, .aload_n 3, 1), (589, .invokestatic 101, 3), (592, .istore 5, 2), (594, .aload_n 2, 1), (595, .aload_n 0, 1), (596, .iload 4, 2), (598, .iconst 1, 1), (599, .iadd, 1), (600, .iaload, 1), (601, .aload_n 0, 1), (602, .iload 4, 2), (604, .iconst 2, 1), (605, .iadd, 1), (606, .iaload, 1), (607, .aload_n 0, 1), (608, .iload 4, 2), (610, .iconst 3, 1), (611, .iadd, 1), (612, .iaload, 1), (613, .invokevirtual 103, 3), (616, .istore 6, 2), (618, .aload_n 2, 1), (619, .invokevirtual 73, 3), (622, .iload 5, 2)]
theorem v_Law_law_8 : u_Law_law_8.all (zdq code) = true := by decide +kernel
theorem d_Law_law_569 : decode code 569 = .ok (.aload_n 1, 1) := zdt v_Law_law_8 0 (q := (569, .aload_n 1, 1)) rfl
theorem d_Law_law_570 : decode code 570 = .ok (.aload_n 0, 1) := zdt v_Law_law_8 1 (q := (570, .aload_n 0, 1)) rfl
theorem d_Law_law_571 : decode code 571 = .ok (.iload 4, 2) := zdt v_Law_law_8 2 (q := (571, .iload 4, 2)) rfl
theorem d_Law_law_573 : decode code 573 = .ok (.iconst 1, 1) := zdt v_Law_law_8 3 (q := (573, .iconst 1, 1)) rfl
theorem d_Law_law_574 : decode code 574 = .ok (.iadd, 1) := zdt v_Law_law_8 4 (q := (574, .iadd, 1)) rfl
theorem d_Law_law_575 : decode code 575 = .ok (.iaload, 1) := zdt v_Law_law_8 5 (q := (575, .iaload, 1)) rfl
theorem d_Law_law_576 : decode code 576 = .ok (.aload_n 0, 1) := zdt v_Law_law_8 6 (q := (576, .aload_n 0, 1)) rfl
theorem d_Law_law_577 : decode code 577 = .ok (.iload 4, 2) := zdt v_Law_law_8 7 (q := (577, .iload 4, 2)) rfl
theorem d_Law_law_579 : decode code 579 = .ok (.iconst 2, 1) := zdt v_Law_law_8 8 (q := (579, .iconst 2, 1)) rfl
theorem d_Law_law_580 : decode code 580 = .ok (.iadd, 1) := zdt v_Law_law_8 9 (q := (580, .iadd, 1)) rfl
theorem d_Law_law_581 : decode code 581 = .ok (.iaload, 1) := zdt v_Law_law_8 10 (q := (581, .iaload, 1)) rfl
theorem d_Law_law_582 : decode code 582 = .ok (.aload_n 0, 1) := zdt v_Law_law_8 11 (q := (582, .aload_n 0, 1)) rfl
theorem d_Law_law_583 : decode code 583 = .ok (.iload 4, 2) := zdt v_Law_law_8 12 (q := (583, .iload 4, 2)) rfl
theorem d_Law_law_585 : decode code 585 = .ok (.iconst 3, 1) := zdt v_Law_law_8 13 (q := (585, .iconst 3, 1)) rfl
theorem d_Law_law_586 : decode code 586 = .ok (.iadd, 1) := zdt v_Law_law_8 14 (q := (586, .iadd, 1)) rfl
theorem d_Law_law_587 : decode code 587 = .ok (.iaload, 1) := zdt v_Law_law_8 15 (q := (587, .iaload, 1)) rfl
theorem d_Law_law_588 : decode code 588 = .ok (.aload_n 3, 1) := zdt v_Law_law_8 16 (q := (588, .aload_n 3, 1)) rfl
theorem d_Law_law_589 : decode code 589 = .ok (.invokestatic 101, 3) := zdt v_Law_law_8 17 (q := (589, .invokestatic 101, 3)) rfl
theorem d_Law_law_592 : decode code 592 = .ok (.istore 5, 2) := zdt v_Law_law_8 18 (q := (592, .istore 5, 2)) rfl
theorem d_Law_law_594 : decode code 594 = .ok (.aload_n 2, 1) := zdt v_Law_law_8 19 (q := (594, .aload_n 2, 1)) rfl
theorem d_Law_law_595 : decode code 595 = .ok (.aload_n 0, 1) := zdt v_Law_law_8 20 (q := (595, .aload_n 0, 1)) rfl
theorem d_Law_law_596 : decode code 596 = .ok (.iload 4, 2) := zdt v_Law_law_8 21 (q := (596, .iload 4, 2)) rfl
theorem d_Law_law_598 : decode code 598 = .ok (.iconst 1, 1) := zdt v_Law_law_8 22 (q := (598, .iconst 1, 1)) rfl
theorem d_Law_law_599 : decode code 599 = .ok (.iadd, 1) := zdt v_Law_law_8 23 (q := (599, .iadd, 1)) rfl
theorem d_Law_law_600 : decode code 600 = .ok (.iaload, 1) := zdt v_Law_law_8 24 (q := (600, .iaload, 1)) rfl
theorem d_Law_law_601 : decode code 601 = .ok (.aload_n 0, 1) := zdt v_Law_law_8 25 (q := (601, .aload_n 0, 1)) rfl
theorem d_Law_law_602 : decode code 602 = .ok (.iload 4, 2) := zdt v_Law_law_8 26 (q := (602, .iload 4, 2)) rfl
theorem d_Law_law_604 : decode code 604 = .ok (.iconst 2, 1) := zdt v_Law_law_8 27 (q := (604, .iconst 2, 1)) rfl
theorem d_Law_law_605 : decode code 605 = .ok (.iadd, 1) := zdt v_Law_law_8 28 (q := (605, .iadd, 1)) rfl
theorem d_Law_law_606 : decode code 606 = .ok (.iaload, 1) := zdt v_Law_law_8 29 (q := (606, .iaload, 1)) rfl
theorem d_Law_law_607 : decode code 607 = .ok (.aload_n 0, 1) := zdt v_Law_law_8 30 (q := (607, .aload_n 0, 1)) rfl
theorem d_Law_law_608 : decode code 608 = .ok (.iload 4, 2) := zdt v_Law_law_8 31 (q := (608, .iload 4, 2)) rfl
theorem d_Law_law_610 : decode code 610 = .ok (.iconst 3, 1) := zdt v_Law_law_8 32 (q := (610, .iconst 3, 1)) rfl
theorem d_Law_law_611 : decode code 611 = .ok (.iadd, 1) := zdt v_Law_law_8 33 (q := (611, .iadd, 1)) rfl
theorem d_Law_law_612 : decode code 612 = .ok (.iaload, 1) := zdt v_Law_law_8 34 (q := (612, .iaload, 1)) rfl
theorem d_Law_law_613 : decode code 613 = .ok (.invokevirtual 103, 3) := zdt v_Law_law_8 35 (q := (613, .invokevirtual 103, 3)) rfl
theorem d_Law_law_616 : decode code 616 = .ok (.istore 6, 2) := zdt v_Law_law_8 36 (q := (616, .istore 6, 2)) rfl
theorem d_Law_law_618 : decode code 618 = .ok (.aload_n 2, 1) := zdt v_Law_law_8 37 (q := (618, .aload_n 2, 1)) rfl
theorem d_Law_law_619 : decode code 619 = .ok (.invokevirtual 73, 3) := zdt v_Law_law_8 38 (q := (619, .invokevirtual 73, 3)) rfl
theorem d_Law_law_622 : decode code 622 = .ok (.iload 5, 2) := zdt v_Law_law_8 39 (q := (622, .iload 5, 2)) rfl
def u_Law_law_9 : List (Nat × Instr × Nat) := [(624, .if_icmp .eq 5, 3), (627, .iconst 0, 1), (628, .ireturn, 1), (629, .iload 5, 2), (631, .ifCond .ne 15, 3), (634, .aload_n 3, 1), (635, .iconst 0, 1), (636, .laload, 1), (637, .iload 6, 2), (639, .i2l, 1), (640, .lcmp, 1), (641, .ifCond .eq 5, 3), (644, .iconst 0, 1), (645, .ireturn, 1), (646, .goto 433, 3), (649, .aload_n 1, 1), (650, .aload_n 0, 1), (651, .iload 4, 2), (653, .iconst 1, 1), (654, .iadd, 1), (655, .iaload, 1), (656, .invokevirtual 104, 3), (659, .aload_n 2, 1), (660, .aload_n 0, 1), (661, .iload 4, 2), (663, .iconst 1, 1), (664, .iadd, 1), (665, .iaload, 1), (666, .invokevirtual 107, 3), (669, .if_icmp .eq 410, 3), (672, .iconst 0, 1), (673, .ireturn, 1), (674, .aload_n 1, 1), (675, .aload_n 0, 1), (676, .iload 4, 2), (678, .iconst 1, 1), (679, .iadd, 1), (680, .iaload, 1), (681, .aload_n 0, 1), (682, .iload 4, 2)]
theorem v_Law_law_9 : u_Law_law_9.all (zdq code) = true := by decide +kernel
theorem d_Law_law_624 : decode code 624 = .ok (.if_icmp .eq 5, 3) := zdt v_Law_law_9 0 (q := (624, .if_icmp .eq 5, 3)) rfl
theorem d_Law_law_627 : decode code 627 = .ok (.iconst 0, 1) := zdt v_Law_law_9 1 (q := (627, .iconst 0, 1)) rfl
theorem d_Law_law_628 : decode code 628 = .ok (.ireturn, 1) := zdt v_Law_law_9 2 (q := (628, .ireturn, 1)) rfl
theorem d_Law_law_629 : decode code 629 = .ok (.iload 5, 2) := zdt v_Law_law_9 3 (q := (629, .iload 5, 2)) rfl
theorem d_Law_law_631 : decode code 631 = .ok (.ifCond .ne 15, 3) := zdt v_Law_law_9 4 (q := (631, .ifCond .ne 15, 3)) rfl
theorem d_Law_law_634 : decode code 634 = .ok (.aload_n 3, 1) := zdt v_Law_law_9 5 (q := (634, .aload_n 3, 1)) rfl
theorem d_Law_law_635 : decode code 635 = .ok (.iconst 0, 1) := zdt v_Law_law_9 6 (q := (635, .iconst 0, 1)) rfl
theorem d_Law_law_636 : decode code 636 = .ok (.laload, 1) := zdt v_Law_law_9 7 (q := (636, .laload, 1)) rfl
theorem d_Law_law_637 : decode code 637 = .ok (.iload 6, 2) := zdt v_Law_law_9 8 (q := (637, .iload 6, 2)) rfl
theorem d_Law_law_639 : decode code 639 = .ok (.i2l, 1) := zdt v_Law_law_9 9 (q := (639, .i2l, 1)) rfl
theorem d_Law_law_640 : decode code 640 = .ok (.lcmp, 1) := zdt v_Law_law_9 10 (q := (640, .lcmp, 1)) rfl
theorem d_Law_law_641 : decode code 641 = .ok (.ifCond .eq 5, 3) := zdt v_Law_law_9 11 (q := (641, .ifCond .eq 5, 3)) rfl
theorem d_Law_law_644 : decode code 644 = .ok (.iconst 0, 1) := zdt v_Law_law_9 12 (q := (644, .iconst 0, 1)) rfl
theorem d_Law_law_645 : decode code 645 = .ok (.ireturn, 1) := zdt v_Law_law_9 13 (q := (645, .ireturn, 1)) rfl
theorem d_Law_law_646 : decode code 646 = .ok (.goto 433, 3) := zdt v_Law_law_9 14 (q := (646, .goto 433, 3)) rfl
theorem d_Law_law_649 : decode code 649 = .ok (.aload_n 1, 1) := zdt v_Law_law_9 15 (q := (649, .aload_n 1, 1)) rfl
theorem d_Law_law_650 : decode code 650 = .ok (.aload_n 0, 1) := zdt v_Law_law_9 16 (q := (650, .aload_n 0, 1)) rfl
theorem d_Law_law_651 : decode code 651 = .ok (.iload 4, 2) := zdt v_Law_law_9 17 (q := (651, .iload 4, 2)) rfl
theorem d_Law_law_653 : decode code 653 = .ok (.iconst 1, 1) := zdt v_Law_law_9 18 (q := (653, .iconst 1, 1)) rfl
theorem d_Law_law_654 : decode code 654 = .ok (.iadd, 1) := zdt v_Law_law_9 19 (q := (654, .iadd, 1)) rfl
theorem d_Law_law_655 : decode code 655 = .ok (.iaload, 1) := zdt v_Law_law_9 20 (q := (655, .iaload, 1)) rfl
theorem d_Law_law_656 : decode code 656 = .ok (.invokevirtual 104, 3) := zdt v_Law_law_9 21 (q := (656, .invokevirtual 104, 3)) rfl
theorem d_Law_law_659 : decode code 659 = .ok (.aload_n 2, 1) := zdt v_Law_law_9 22 (q := (659, .aload_n 2, 1)) rfl
theorem d_Law_law_660 : decode code 660 = .ok (.aload_n 0, 1) := zdt v_Law_law_9 23 (q := (660, .aload_n 0, 1)) rfl
theorem d_Law_law_661 : decode code 661 = .ok (.iload 4, 2) := zdt v_Law_law_9 24 (q := (661, .iload 4, 2)) rfl
theorem d_Law_law_663 : decode code 663 = .ok (.iconst 1, 1) := zdt v_Law_law_9 25 (q := (663, .iconst 1, 1)) rfl
theorem d_Law_law_664 : decode code 664 = .ok (.iadd, 1) := zdt v_Law_law_9 26 (q := (664, .iadd, 1)) rfl
theorem d_Law_law_665 : decode code 665 = .ok (.iaload, 1) := zdt v_Law_law_9 27 (q := (665, .iaload, 1)) rfl
theorem d_Law_law_666 : decode code 666 = .ok (.invokevirtual 107, 3) := zdt v_Law_law_9 28 (q := (666, .invokevirtual 107, 3)) rfl
theorem d_Law_law_669 : decode code 669 = .ok (.if_icmp .eq 410, 3) := zdt v_Law_law_9 29 (q := (669, .if_icmp .eq 410, 3)) rfl
theorem d_Law_law_672 : decode code 672 = .ok (.iconst 0, 1) := zdt v_Law_law_9 30 (q := (672, .iconst 0, 1)) rfl
theorem d_Law_law_673 : decode code 673 = .ok (.ireturn, 1) := zdt v_Law_law_9 31 (q := (673, .ireturn, 1)) rfl
theorem d_Law_law_674 : decode code 674 = .ok (.aload_n 1, 1) := zdt v_Law_law_9 32 (q := (674, .aload_n 1, 1)) rfl
theorem d_Law_law_675 : decode code 675 = .ok (.aload_n 0, 1) := zdt v_Law_law_9 33 (q := (675, .aload_n 0, 1)) rfl
theorem d_Law_law_676 : decode code 676 = .ok (.iload 4, 2) := zdt v_Law_law_9 34 (q := (676, .iload 4, 2)) rfl
theorem d_Law_law_678 : decode code 678 = .ok (.iconst 1, 1) := zdt v_Law_law_9 35 (q := (678, .iconst 1, 1)) rfl
theorem d_Law_law_679 : decode code 679 = .ok (.iadd, 1) := zdt v_Law_law_9 36 (q := (679, .iadd, 1)) rfl
theorem d_Law_law_680 : decode code 680 = .ok (.iaload, 1) := zdt v_Law_law_9 37 (q := (680, .iaload, 1)) rfl
theorem d_Law_law_681 : decode code 681 = .ok (.aload_n 0, 1) := zdt v_Law_law_9 38 (q := (681, .aload_n 0, 1)) rfl
theorem d_Law_law_682 : decode code 682 = .ok (.iload 4, 2) := zdt v_Law_law_9 39 (q := (682, .iload 4, 2)) rfl
def u_Law_law_10 : List (Nat × Instr × Nat) := [(684, .iconst 2, 1), (685, .iadd, 1), (686, .iaload, 1), (687, .aload_n 3, 1), (688, .invokestatic 108, 3), (691, .istore 5, 2), (693, .aload_n 2, 1), (694, .aload_n 0, 1), (695, .iload 4, 2), (697, .iconst 1, 1), (698, .iadd, 1), (699, .iaload, 1), (700, .aload_n 0, 1), (701, .iload 4, 2), (703, .iconst 2, 1), (704, .iadd, 1), (705, .iaload, 1), (706, .invokevirtual 110, 3), (709, .istore 6, 2), (711, .aload_n 2, 1), (712, .invokevirtual 73, 3), (715, .iload 5, 2), (717, .if_icmp .eq 5, 3), (720, .iconst 0, 1), (721, .ireturn, 1), (722, .iload 5, 2), (724, .ifCond .ne 15, 3), (727, .aload_n 3, 1), (728, .iconst 0, 1), (729, .laload, 1), (730, .iload 6, 2), (732, .i2l, 1), (733, .lcmp, 1), (734, .ifCond .eq 5, 3), (737, .iconst 0, 1), (738, .ireturn, 1), (739, .goto 340, 3), (742, .aload_n 1, 1), (743, .aload_n 0, 1), (744, .iload 4, 2)]
theorem v_Law_law_10 : u_Law_law_10.all (zdq code) = true := by decide +kernel
theorem d_Law_law_684 : decode code 684 = .ok (.iconst 2, 1) := zdt v_Law_law_10 0 (q := (684, .iconst 2, 1)) rfl
theorem d_Law_law_685 : decode code 685 = .ok (.iadd, 1) := zdt v_Law_law_10 1 (q := (685, .iadd, 1)) rfl
theorem d_Law_law_686 : decode code 686 = .ok (.iaload, 1) := zdt v_Law_law_10 2 (q := (686, .iaload, 1)) rfl
theorem d_Law_law_687 : decode code 687 = .ok (.aload_n 3, 1) := zdt v_Law_law_10 3 (q := (687, .aload_n 3, 1)) rfl
theorem d_Law_law_688 : decode code 688 = .ok (.invokestatic 108, 3) := zdt v_Law_law_10 4 (q := (688, .invokestatic 108, 3)) rfl
theorem d_Law_law_691 : decode code 691 = .ok (.istore 5, 2) := zdt v_Law_law_10 5 (q := (691, .istore 5, 2)) rfl
theorem d_Law_law_693 : decode code 693 = .ok (.aload_n 2, 1) := zdt v_Law_law_10 6 (q := (693, .aload_n 2, 1)) rfl
theorem d_Law_law_694 : decode code 694 = .ok (.aload_n 0, 1) := zdt v_Law_law_10 7 (q := (694, .aload_n 0, 1)) rfl
theorem d_Law_law_695 : decode code 695 = .ok (.iload 4, 2) := zdt v_Law_law_10 8 (q := (695, .iload 4, 2)) rfl
theorem d_Law_law_697 : decode code 697 = .ok (.iconst 1, 1) := zdt v_Law_law_10 9 (q := (697, .iconst 1, 1)) rfl
theorem d_Law_law_698 : decode code 698 = .ok (.iadd, 1) := zdt v_Law_law_10 10 (q := (698, .iadd, 1)) rfl
theorem d_Law_law_699 : decode code 699 = .ok (.iaload, 1) := zdt v_Law_law_10 11 (q := (699, .iaload, 1)) rfl
theorem d_Law_law_700 : decode code 700 = .ok (.aload_n 0, 1) := zdt v_Law_law_10 12 (q := (700, .aload_n 0, 1)) rfl
theorem d_Law_law_701 : decode code 701 = .ok (.iload 4, 2) := zdt v_Law_law_10 13 (q := (701, .iload 4, 2)) rfl
theorem d_Law_law_703 : decode code 703 = .ok (.iconst 2, 1) := zdt v_Law_law_10 14 (q := (703, .iconst 2, 1)) rfl
theorem d_Law_law_704 : decode code 704 = .ok (.iadd, 1) := zdt v_Law_law_10 15 (q := (704, .iadd, 1)) rfl
theorem d_Law_law_705 : decode code 705 = .ok (.iaload, 1) := zdt v_Law_law_10 16 (q := (705, .iaload, 1)) rfl
theorem d_Law_law_706 : decode code 706 = .ok (.invokevirtual 110, 3) := zdt v_Law_law_10 17 (q := (706, .invokevirtual 110, 3)) rfl
theorem d_Law_law_709 : decode code 709 = .ok (.istore 6, 2) := zdt v_Law_law_10 18 (q := (709, .istore 6, 2)) rfl
theorem d_Law_law_711 : decode code 711 = .ok (.aload_n 2, 1) := zdt v_Law_law_10 19 (q := (711, .aload_n 2, 1)) rfl
theorem d_Law_law_712 : decode code 712 = .ok (.invokevirtual 73, 3) := zdt v_Law_law_10 20 (q := (712, .invokevirtual 73, 3)) rfl
theorem d_Law_law_715 : decode code 715 = .ok (.iload 5, 2) := zdt v_Law_law_10 21 (q := (715, .iload 5, 2)) rfl
theorem d_Law_law_717 : decode code 717 = .ok (.if_icmp .eq 5, 3) := zdt v_Law_law_10 22 (q := (717, .if_icmp .eq 5, 3)) rfl
theorem d_Law_law_720 : decode code 720 = .ok (.iconst 0, 1) := zdt v_Law_law_10 23 (q := (720, .iconst 0, 1)) rfl
theorem d_Law_law_721 : decode code 721 = .ok (.ireturn, 1) := zdt v_Law_law_10 24 (q := (721, .ireturn, 1)) rfl
theorem d_Law_law_722 : decode code 722 = .ok (.iload 5, 2) := zdt v_Law_law_10 25 (q := (722, .iload 5, 2)) rfl
theorem d_Law_law_724 : decode code 724 = .ok (.ifCond .ne 15, 3) := zdt v_Law_law_10 26 (q := (724, .ifCond .ne 15, 3)) rfl
theorem d_Law_law_727 : decode code 727 = .ok (.aload_n 3, 1) := zdt v_Law_law_10 27 (q := (727, .aload_n 3, 1)) rfl
theorem d_Law_law_728 : decode code 728 = .ok (.iconst 0, 1) := zdt v_Law_law_10 28 (q := (728, .iconst 0, 1)) rfl
theorem d_Law_law_729 : decode code 729 = .ok (.laload, 1) := zdt v_Law_law_10 29 (q := (729, .laload, 1)) rfl
theorem d_Law_law_730 : decode code 730 = .ok (.iload 6, 2) := zdt v_Law_law_10 30 (q := (730, .iload 6, 2)) rfl
theorem d_Law_law_732 : decode code 732 = .ok (.i2l, 1) := zdt v_Law_law_10 31 (q := (732, .i2l, 1)) rfl
theorem d_Law_law_733 : decode code 733 = .ok (.lcmp, 1) := zdt v_Law_law_10 32 (q := (733, .lcmp, 1)) rfl
theorem d_Law_law_734 : decode code 734 = .ok (.ifCond .eq 5, 3) := zdt v_Law_law_10 33 (q := (734, .ifCond .eq 5, 3)) rfl
theorem d_Law_law_737 : decode code 737 = .ok (.iconst 0, 1) := zdt v_Law_law_10 34 (q := (737, .iconst 0, 1)) rfl
theorem d_Law_law_738 : decode code 738 = .ok (.ireturn, 1) := zdt v_Law_law_10 35 (q := (738, .ireturn, 1)) rfl
theorem d_Law_law_739 : decode code 739 = .ok (.goto 340, 3) := zdt v_Law_law_10 36 (q := (739, .goto 340, 3)) rfl
theorem d_Law_law_742 : decode code 742 = .ok (.aload_n 1, 1) := zdt v_Law_law_10 37 (q := (742, .aload_n 1, 1)) rfl
theorem d_Law_law_743 : decode code 743 = .ok (.aload_n 0, 1) := zdt v_Law_law_10 38 (q := (743, .aload_n 0, 1)) rfl
theorem d_Law_law_744 : decode code 744 = .ok (.iload 4, 2) := zdt v_Law_law_10 39 (q := (744, .iload 4, 2)) rfl
def u_Law_law_11 : List (Nat × Instr × Nat) := [(746, .iconst 1, 1), (747, .iadd, 1), (748, .iaload, 1), (749, .aload_n 0, 1), (750, .iload 4, 2), (752, .iconst 2, 1), (753, .iadd, 1), (754, .iaload, 1), (755, .aload_n 3, 1), (756, .invokestatic 111, 3), (759, .istore 5, 2), (761, .aload_n 2, 1), (762, .aload_n 0, 1), (763, .iload 4, 2), (765, .iconst 1, 1), (766, .iadd, 1), (767, .iaload, 1), (768, .aload_n 0, 1), (769, .iload 4, 2), (771, .iconst 2, 1), (772, .iadd, 1), (773, .iaload, 1), (774, .invokevirtual 113, 3), (777, .istore 6, 2), (779, .aload_n 2, 1), (780, .invokevirtual 73, 3), (783, .iload 5, 2), (785, .if_icmp .eq 5, 3), (788, .iconst 0, 1), (789, .ireturn, 1), (790, .iload 5, 2), (792, .ifCond .ne 22, 3), (795, .aload_n 3, 1), (796, .iconst 0, 1), (797, .laload, 1), (798, .iload 6, 2), (800, .ifCond .eq 7, 3), (803, .lconst 1, 1), (804, .goto 4, 3), (807, .lconst 0, 1)]
theorem v_Law_law_11 : u_Law_law_11.all (zdq code) = true := by decide +kernel
theorem d_Law_law_746 : decode code 746 = .ok (.iconst 1, 1) := zdt v_Law_law_11 0 (q := (746, .iconst 1, 1)) rfl
theorem d_Law_law_747 : decode code 747 = .ok (.iadd, 1) := zdt v_Law_law_11 1 (q := (747, .iadd, 1)) rfl
theorem d_Law_law_748 : decode code 748 = .ok (.iaload, 1) := zdt v_Law_law_11 2 (q := (748, .iaload, 1)) rfl
theorem d_Law_law_749 : decode code 749 = .ok (.aload_n 0, 1) := zdt v_Law_law_11 3 (q := (749, .aload_n 0, 1)) rfl
theorem d_Law_law_750 : decode code 750 = .ok (.iload 4, 2) := zdt v_Law_law_11 4 (q := (750, .iload 4, 2)) rfl
theorem d_Law_law_752 : decode code 752 = .ok (.iconst 2, 1) := zdt v_Law_law_11 5 (q := (752, .iconst 2, 1)) rfl
theorem d_Law_law_753 : decode code 753 = .ok (.iadd, 1) := zdt v_Law_law_11 6 (q := (753, .iadd, 1)) rfl
theorem d_Law_law_754 : decode code 754 = .ok (.iaload, 1) := zdt v_Law_law_11 7 (q := (754, .iaload, 1)) rfl
theorem d_Law_law_755 : decode code 755 = .ok (.aload_n 3, 1) := zdt v_Law_law_11 8 (q := (755, .aload_n 3, 1)) rfl
theorem d_Law_law_756 : decode code 756 = .ok (.invokestatic 111, 3) := zdt v_Law_law_11 9 (q := (756, .invokestatic 111, 3)) rfl
theorem d_Law_law_759 : decode code 759 = .ok (.istore 5, 2) := zdt v_Law_law_11 10 (q := (759, .istore 5, 2)) rfl
theorem d_Law_law_761 : decode code 761 = .ok (.aload_n 2, 1) := zdt v_Law_law_11 11 (q := (761, .aload_n 2, 1)) rfl
theorem d_Law_law_762 : decode code 762 = .ok (.aload_n 0, 1) := zdt v_Law_law_11 12 (q := (762, .aload_n 0, 1)) rfl
theorem d_Law_law_763 : decode code 763 = .ok (.iload 4, 2) := zdt v_Law_law_11 13 (q := (763, .iload 4, 2)) rfl
theorem d_Law_law_765 : decode code 765 = .ok (.iconst 1, 1) := zdt v_Law_law_11 14 (q := (765, .iconst 1, 1)) rfl
theorem d_Law_law_766 : decode code 766 = .ok (.iadd, 1) := zdt v_Law_law_11 15 (q := (766, .iadd, 1)) rfl
theorem d_Law_law_767 : decode code 767 = .ok (.iaload, 1) := zdt v_Law_law_11 16 (q := (767, .iaload, 1)) rfl
theorem d_Law_law_768 : decode code 768 = .ok (.aload_n 0, 1) := zdt v_Law_law_11 17 (q := (768, .aload_n 0, 1)) rfl
theorem d_Law_law_769 : decode code 769 = .ok (.iload 4, 2) := zdt v_Law_law_11 18 (q := (769, .iload 4, 2)) rfl
theorem d_Law_law_771 : decode code 771 = .ok (.iconst 2, 1) := zdt v_Law_law_11 19 (q := (771, .iconst 2, 1)) rfl
theorem d_Law_law_772 : decode code 772 = .ok (.iadd, 1) := zdt v_Law_law_11 20 (q := (772, .iadd, 1)) rfl
theorem d_Law_law_773 : decode code 773 = .ok (.iaload, 1) := zdt v_Law_law_11 21 (q := (773, .iaload, 1)) rfl
theorem d_Law_law_774 : decode code 774 = .ok (.invokevirtual 113, 3) := zdt v_Law_law_11 22 (q := (774, .invokevirtual 113, 3)) rfl
theorem d_Law_law_777 : decode code 777 = .ok (.istore 6, 2) := zdt v_Law_law_11 23 (q := (777, .istore 6, 2)) rfl
theorem d_Law_law_779 : decode code 779 = .ok (.aload_n 2, 1) := zdt v_Law_law_11 24 (q := (779, .aload_n 2, 1)) rfl
theorem d_Law_law_780 : decode code 780 = .ok (.invokevirtual 73, 3) := zdt v_Law_law_11 25 (q := (780, .invokevirtual 73, 3)) rfl
theorem d_Law_law_783 : decode code 783 = .ok (.iload 5, 2) := zdt v_Law_law_11 26 (q := (783, .iload 5, 2)) rfl
theorem d_Law_law_785 : decode code 785 = .ok (.if_icmp .eq 5, 3) := zdt v_Law_law_11 27 (q := (785, .if_icmp .eq 5, 3)) rfl
theorem d_Law_law_788 : decode code 788 = .ok (.iconst 0, 1) := zdt v_Law_law_11 28 (q := (788, .iconst 0, 1)) rfl
theorem d_Law_law_789 : decode code 789 = .ok (.ireturn, 1) := zdt v_Law_law_11 29 (q := (789, .ireturn, 1)) rfl
theorem d_Law_law_790 : decode code 790 = .ok (.iload 5, 2) := zdt v_Law_law_11 30 (q := (790, .iload 5, 2)) rfl
theorem d_Law_law_792 : decode code 792 = .ok (.ifCond .ne 22, 3) := zdt v_Law_law_11 31 (q := (792, .ifCond .ne 22, 3)) rfl
theorem d_Law_law_795 : decode code 795 = .ok (.aload_n 3, 1) := zdt v_Law_law_11 32 (q := (795, .aload_n 3, 1)) rfl
theorem d_Law_law_796 : decode code 796 = .ok (.iconst 0, 1) := zdt v_Law_law_11 33 (q := (796, .iconst 0, 1)) rfl
theorem d_Law_law_797 : decode code 797 = .ok (.laload, 1) := zdt v_Law_law_11 34 (q := (797, .laload, 1)) rfl
theorem d_Law_law_798 : decode code 798 = .ok (.iload 6, 2) := zdt v_Law_law_11 35 (q := (798, .iload 6, 2)) rfl
theorem d_Law_law_800 : decode code 800 = .ok (.ifCond .eq 7, 3) := zdt v_Law_law_11 36 (q := (800, .ifCond .eq 7, 3)) rfl
theorem d_Law_law_803 : decode code 803 = .ok (.lconst 1, 1) := zdt v_Law_law_11 37 (q := (803, .lconst 1, 1)) rfl
theorem d_Law_law_804 : decode code 804 = .ok (.goto 4, 3) := zdt v_Law_law_11 38 (q := (804, .goto 4, 3)) rfl
theorem d_Law_law_807 : decode code 807 = .ok (.lconst 0, 1) := zdt v_Law_law_11 39 (q := (807, .lconst 0, 1)) rfl
def u_Law_law_12 : List (Nat × Instr × Nat) := [(808, .lcmp, 1), (809, .ifCond .eq 5, 3), (812, .iconst 0, 1), (813, .ireturn, 1), (814, .goto 265, 3), (817, .aload_n 1, 1), (818, .aload_n 0, 1), (819, .iload 4, 2), (821, .iconst 1, 1), (822, .iadd, 1), (823, .iaload, 1), (824, .aload_n 3, 1), (825, .invokestatic 114, 3), (828, .istore 5, 2), (830, .aload_n 2, 1), (831, .aload_n 0, 1), (832, .iload 4, 2), (834, .iconst 1, 1), (835, .iadd, 1), (836, .iaload, 1), (837, .invokevirtual 117, 3), (840, .istore 6, 2), (842, .aload_n 2, 1), (843, .invokevirtual 73, 3), (846, .iload 5, 2), (848, .if_icmp .eq 5, 3), (851, .iconst 0, 1), (852, .ireturn, 1), (853, .iload 5, 2), (855, .ifCond .ne 15, 3), (858, .aload_n 3, 1), (859, .iconst 0, 1), (860, .laload, 1), (861, .iload 6, 2), (863, .i2l, 1), (864, .lcmp, 1), (865, .ifCond .eq 5, 3), (868, .iconst 0, 1), (869, .ireturn, 1), (870, .goto 209, 3)]
theorem v_Law_law_12 : u_Law_law_12.all (zdq code) = true := by decide +kernel
theorem d_Law_law_808 : decode code 808 = .ok (.lcmp, 1) := zdt v_Law_law_12 0 (q := (808, .lcmp, 1)) rfl
theorem d_Law_law_809 : decode code 809 = .ok (.ifCond .eq 5, 3) := zdt v_Law_law_12 1 (q := (809, .ifCond .eq 5, 3)) rfl
theorem d_Law_law_812 : decode code 812 = .ok (.iconst 0, 1) := zdt v_Law_law_12 2 (q := (812, .iconst 0, 1)) rfl
theorem d_Law_law_813 : decode code 813 = .ok (.ireturn, 1) := zdt v_Law_law_12 3 (q := (813, .ireturn, 1)) rfl
theorem d_Law_law_814 : decode code 814 = .ok (.goto 265, 3) := zdt v_Law_law_12 4 (q := (814, .goto 265, 3)) rfl
theorem d_Law_law_817 : decode code 817 = .ok (.aload_n 1, 1) := zdt v_Law_law_12 5 (q := (817, .aload_n 1, 1)) rfl
theorem d_Law_law_818 : decode code 818 = .ok (.aload_n 0, 1) := zdt v_Law_law_12 6 (q := (818, .aload_n 0, 1)) rfl
theorem d_Law_law_819 : decode code 819 = .ok (.iload 4, 2) := zdt v_Law_law_12 7 (q := (819, .iload 4, 2)) rfl
theorem d_Law_law_821 : decode code 821 = .ok (.iconst 1, 1) := zdt v_Law_law_12 8 (q := (821, .iconst 1, 1)) rfl
theorem d_Law_law_822 : decode code 822 = .ok (.iadd, 1) := zdt v_Law_law_12 9 (q := (822, .iadd, 1)) rfl
theorem d_Law_law_823 : decode code 823 = .ok (.iaload, 1) := zdt v_Law_law_12 10 (q := (823, .iaload, 1)) rfl
theorem d_Law_law_824 : decode code 824 = .ok (.aload_n 3, 1) := zdt v_Law_law_12 11 (q := (824, .aload_n 3, 1)) rfl
theorem d_Law_law_825 : decode code 825 = .ok (.invokestatic 114, 3) := zdt v_Law_law_12 12 (q := (825, .invokestatic 114, 3)) rfl
theorem d_Law_law_828 : decode code 828 = .ok (.istore 5, 2) := zdt v_Law_law_12 13 (q := (828, .istore 5, 2)) rfl
theorem d_Law_law_830 : decode code 830 = .ok (.aload_n 2, 1) := zdt v_Law_law_12 14 (q := (830, .aload_n 2, 1)) rfl
theorem d_Law_law_831 : decode code 831 = .ok (.aload_n 0, 1) := zdt v_Law_law_12 15 (q := (831, .aload_n 0, 1)) rfl
theorem d_Law_law_832 : decode code 832 = .ok (.iload 4, 2) := zdt v_Law_law_12 16 (q := (832, .iload 4, 2)) rfl
theorem d_Law_law_834 : decode code 834 = .ok (.iconst 1, 1) := zdt v_Law_law_12 17 (q := (834, .iconst 1, 1)) rfl
theorem d_Law_law_835 : decode code 835 = .ok (.iadd, 1) := zdt v_Law_law_12 18 (q := (835, .iadd, 1)) rfl
theorem d_Law_law_836 : decode code 836 = .ok (.iaload, 1) := zdt v_Law_law_12 19 (q := (836, .iaload, 1)) rfl
theorem d_Law_law_837 : decode code 837 = .ok (.invokevirtual 117, 3) := zdt v_Law_law_12 20 (q := (837, .invokevirtual 117, 3)) rfl
theorem d_Law_law_840 : decode code 840 = .ok (.istore 6, 2) := zdt v_Law_law_12 21 (q := (840, .istore 6, 2)) rfl
theorem d_Law_law_842 : decode code 842 = .ok (.aload_n 2, 1) := zdt v_Law_law_12 22 (q := (842, .aload_n 2, 1)) rfl
theorem d_Law_law_843 : decode code 843 = .ok (.invokevirtual 73, 3) := zdt v_Law_law_12 23 (q := (843, .invokevirtual 73, 3)) rfl
theorem d_Law_law_846 : decode code 846 = .ok (.iload 5, 2) := zdt v_Law_law_12 24 (q := (846, .iload 5, 2)) rfl
theorem d_Law_law_848 : decode code 848 = .ok (.if_icmp .eq 5, 3) := zdt v_Law_law_12 25 (q := (848, .if_icmp .eq 5, 3)) rfl
theorem d_Law_law_851 : decode code 851 = .ok (.iconst 0, 1) := zdt v_Law_law_12 26 (q := (851, .iconst 0, 1)) rfl
theorem d_Law_law_852 : decode code 852 = .ok (.ireturn, 1) := zdt v_Law_law_12 27 (q := (852, .ireturn, 1)) rfl
theorem d_Law_law_853 : decode code 853 = .ok (.iload 5, 2) := zdt v_Law_law_12 28 (q := (853, .iload 5, 2)) rfl
theorem d_Law_law_855 : decode code 855 = .ok (.ifCond .ne 15, 3) := zdt v_Law_law_12 29 (q := (855, .ifCond .ne 15, 3)) rfl
theorem d_Law_law_858 : decode code 858 = .ok (.aload_n 3, 1) := zdt v_Law_law_12 30 (q := (858, .aload_n 3, 1)) rfl
theorem d_Law_law_859 : decode code 859 = .ok (.iconst 0, 1) := zdt v_Law_law_12 31 (q := (859, .iconst 0, 1)) rfl
theorem d_Law_law_860 : decode code 860 = .ok (.laload, 1) := zdt v_Law_law_12 32 (q := (860, .laload, 1)) rfl
theorem d_Law_law_861 : decode code 861 = .ok (.iload 6, 2) := zdt v_Law_law_12 33 (q := (861, .iload 6, 2)) rfl
theorem d_Law_law_863 : decode code 863 = .ok (.i2l, 1) := zdt v_Law_law_12 34 (q := (863, .i2l, 1)) rfl
theorem d_Law_law_864 : decode code 864 = .ok (.lcmp, 1) := zdt v_Law_law_12 35 (q := (864, .lcmp, 1)) rfl
theorem d_Law_law_865 : decode code 865 = .ok (.ifCond .eq 5, 3) := zdt v_Law_law_12 36 (q := (865, .ifCond .eq 5, 3)) rfl
theorem d_Law_law_868 : decode code 868 = .ok (.iconst 0, 1) := zdt v_Law_law_12 37 (q := (868, .iconst 0, 1)) rfl
theorem d_Law_law_869 : decode code 869 = .ok (.ireturn, 1) := zdt v_Law_law_12 38 (q := (869, .ireturn, 1)) rfl
theorem d_Law_law_870 : decode code 870 = .ok (.goto 209, 3) := zdt v_Law_law_12 39 (q := (870, .goto 209, 3)) rfl
def u_Law_law_13 : List (Nat × Instr × Nat) := [(873, .aload_n 1, 1), (874, .invokevirtual 118, 3), (877, .aload_n 2, 1), (878, .invokevirtual 121, 3), (881, .if_icmp .eq 198, 3), (884, .iconst 0, 1), (885, .ireturn, 1), (886, .aload_n 1, 1), (887, .aload_n 0, 1), (888, .iload 4, 2), (890, .iconst 1, 1), (891, .iadd, 1), (892, .iaload, 1), (893, .aload_n 0, 1), (894, .iload 4, 2), (896, .iconst 2, 1), (897, .iadd, 1), (898, .iaload, 1), (899, .aload_n 3, 1), (900, .invokestatic 122, 3), (903, .istore 5, 2), (905, .aload_n 2, 1), (906, .aload_n 0, 1), (907, .iload 4, 2), (909, .iconst 1, 1), (910, .iadd, 1), (911, .iaload, 1), (912, .aload_n 0, 1), (913, .iload 4, 2), (915, .iconst 2, 1), (916, .iadd, 1), (917, .iaload, 1), (918, .invokevirtual 124, 3), (921, .istore 6, 2), (923, .aload_n 2, 1), (924, .invokevirtual 73, 3), (927, .iload 5, 2), (929, .if_icmp .eq 5, 3), (932, .iconst 0, 1), (933, .ireturn, 1)]
theorem v_Law_law_13 : u_Law_law_13.all (zdq code) = true := by decide +kernel
theorem d_Law_law_873 : decode code 873 = .ok (.aload_n 1, 1) := zdt v_Law_law_13 0 (q := (873, .aload_n 1, 1)) rfl
theorem d_Law_law_874 : decode code 874 = .ok (.invokevirtual 118, 3) := zdt v_Law_law_13 1 (q := (874, .invokevirtual 118, 3)) rfl
theorem d_Law_law_877 : decode code 877 = .ok (.aload_n 2, 1) := zdt v_Law_law_13 2 (q := (877, .aload_n 2, 1)) rfl
theorem d_Law_law_878 : decode code 878 = .ok (.invokevirtual 121, 3) := zdt v_Law_law_13 3 (q := (878, .invokevirtual 121, 3)) rfl
theorem d_Law_law_881 : decode code 881 = .ok (.if_icmp .eq 198, 3) := zdt v_Law_law_13 4 (q := (881, .if_icmp .eq 198, 3)) rfl
theorem d_Law_law_884 : decode code 884 = .ok (.iconst 0, 1) := zdt v_Law_law_13 5 (q := (884, .iconst 0, 1)) rfl
theorem d_Law_law_885 : decode code 885 = .ok (.ireturn, 1) := zdt v_Law_law_13 6 (q := (885, .ireturn, 1)) rfl
theorem d_Law_law_886 : decode code 886 = .ok (.aload_n 1, 1) := zdt v_Law_law_13 7 (q := (886, .aload_n 1, 1)) rfl
theorem d_Law_law_887 : decode code 887 = .ok (.aload_n 0, 1) := zdt v_Law_law_13 8 (q := (887, .aload_n 0, 1)) rfl
theorem d_Law_law_888 : decode code 888 = .ok (.iload 4, 2) := zdt v_Law_law_13 9 (q := (888, .iload 4, 2)) rfl
theorem d_Law_law_890 : decode code 890 = .ok (.iconst 1, 1) := zdt v_Law_law_13 10 (q := (890, .iconst 1, 1)) rfl
theorem d_Law_law_891 : decode code 891 = .ok (.iadd, 1) := zdt v_Law_law_13 11 (q := (891, .iadd, 1)) rfl
theorem d_Law_law_892 : decode code 892 = .ok (.iaload, 1) := zdt v_Law_law_13 12 (q := (892, .iaload, 1)) rfl
theorem d_Law_law_893 : decode code 893 = .ok (.aload_n 0, 1) := zdt v_Law_law_13 13 (q := (893, .aload_n 0, 1)) rfl
theorem d_Law_law_894 : decode code 894 = .ok (.iload 4, 2) := zdt v_Law_law_13 14 (q := (894, .iload 4, 2)) rfl
theorem d_Law_law_896 : decode code 896 = .ok (.iconst 2, 1) := zdt v_Law_law_13 15 (q := (896, .iconst 2, 1)) rfl
theorem d_Law_law_897 : decode code 897 = .ok (.iadd, 1) := zdt v_Law_law_13 16 (q := (897, .iadd, 1)) rfl
theorem d_Law_law_898 : decode code 898 = .ok (.iaload, 1) := zdt v_Law_law_13 17 (q := (898, .iaload, 1)) rfl
theorem d_Law_law_899 : decode code 899 = .ok (.aload_n 3, 1) := zdt v_Law_law_13 18 (q := (899, .aload_n 3, 1)) rfl
theorem d_Law_law_900 : decode code 900 = .ok (.invokestatic 122, 3) := zdt v_Law_law_13 19 (q := (900, .invokestatic 122, 3)) rfl
theorem d_Law_law_903 : decode code 903 = .ok (.istore 5, 2) := zdt v_Law_law_13 20 (q := (903, .istore 5, 2)) rfl
theorem d_Law_law_905 : decode code 905 = .ok (.aload_n 2, 1) := zdt v_Law_law_13 21 (q := (905, .aload_n 2, 1)) rfl
theorem d_Law_law_906 : decode code 906 = .ok (.aload_n 0, 1) := zdt v_Law_law_13 22 (q := (906, .aload_n 0, 1)) rfl
theorem d_Law_law_907 : decode code 907 = .ok (.iload 4, 2) := zdt v_Law_law_13 23 (q := (907, .iload 4, 2)) rfl
theorem d_Law_law_909 : decode code 909 = .ok (.iconst 1, 1) := zdt v_Law_law_13 24 (q := (909, .iconst 1, 1)) rfl
theorem d_Law_law_910 : decode code 910 = .ok (.iadd, 1) := zdt v_Law_law_13 25 (q := (910, .iadd, 1)) rfl
theorem d_Law_law_911 : decode code 911 = .ok (.iaload, 1) := zdt v_Law_law_13 26 (q := (911, .iaload, 1)) rfl
theorem d_Law_law_912 : decode code 912 = .ok (.aload_n 0, 1) := zdt v_Law_law_13 27 (q := (912, .aload_n 0, 1)) rfl
theorem d_Law_law_913 : decode code 913 = .ok (.iload 4, 2) := zdt v_Law_law_13 28 (q := (913, .iload 4, 2)) rfl
theorem d_Law_law_915 : decode code 915 = .ok (.iconst 2, 1) := zdt v_Law_law_13 29 (q := (915, .iconst 2, 1)) rfl
theorem d_Law_law_916 : decode code 916 = .ok (.iadd, 1) := zdt v_Law_law_13 30 (q := (916, .iadd, 1)) rfl
theorem d_Law_law_917 : decode code 917 = .ok (.iaload, 1) := zdt v_Law_law_13 31 (q := (917, .iaload, 1)) rfl
theorem d_Law_law_918 : decode code 918 = .ok (.invokevirtual 124, 3) := zdt v_Law_law_13 32 (q := (918, .invokevirtual 124, 3)) rfl
theorem d_Law_law_921 : decode code 921 = .ok (.istore 6, 2) := zdt v_Law_law_13 33 (q := (921, .istore 6, 2)) rfl
theorem d_Law_law_923 : decode code 923 = .ok (.aload_n 2, 1) := zdt v_Law_law_13 34 (q := (923, .aload_n 2, 1)) rfl
theorem d_Law_law_924 : decode code 924 = .ok (.invokevirtual 73, 3) := zdt v_Law_law_13 35 (q := (924, .invokevirtual 73, 3)) rfl
theorem d_Law_law_927 : decode code 927 = .ok (.iload 5, 2) := zdt v_Law_law_13 36 (q := (927, .iload 5, 2)) rfl
theorem d_Law_law_929 : decode code 929 = .ok (.if_icmp .eq 5, 3) := zdt v_Law_law_13 37 (q := (929, .if_icmp .eq 5, 3)) rfl
theorem d_Law_law_932 : decode code 932 = .ok (.iconst 0, 1) := zdt v_Law_law_13 38 (q := (932, .iconst 0, 1)) rfl
theorem d_Law_law_933 : decode code 933 = .ok (.ireturn, 1) := zdt v_Law_law_13 39 (q := (933, .ireturn, 1)) rfl
def u_Law_law_14 : List (Nat × Instr × Nat) := [(934, .iload 5, 2), (936, .ifCond .ne 15, 3), (939, .aload_n 3, 1), (940, .iconst 0, 1), (941, .laload, 1), (942, .iload 6, 2), (944, .i2l, 1), (945, .lcmp, 1), (946, .ifCond .eq 5, 3), (949, .iconst 0, 1), (950, .ireturn, 1), (951, .goto 128, 3), (954, .aload_n 1, 1), (955, .invokevirtual 125, 3), (958, .aload_n 2, 1), (959, .invokevirtual 128, 3), (962, .if_icmp .eq 117, 3), (965, .iconst 0, 1), (966, .ireturn, 1), (967, .aload_n 1, 1), (968, .aload_n 0, 1), (969, .iload 4, 2), (971, .iconst 1, 1), (972, .iadd, 1), (973, .iaload, 1), (974, .aload_n 3, 1), (975, .invokestatic 129, 3), (978, .istore 5, 2), (980, .aload_n 2, 1), (981, .aload_n 0, 1), (982, .iload 4, 2), (984, .iconst 1, 1), (985, .iadd, 1), (986, .iaload, 1), (987, .invokevirtual 131, 3), (990, .istore 6, 2), (992, .aload_n 2, 1), (993, .invokevirtual 73, 3), (996, .iload 5, 2), (998, .if_icmp .eq 5, 3)]
theorem v_Law_law_14 : u_Law_law_14.all (zdq code) = true := by decide +kernel
theorem d_Law_law_934 : decode code 934 = .ok (.iload 5, 2) := zdt v_Law_law_14 0 (q := (934, .iload 5, 2)) rfl
theorem d_Law_law_936 : decode code 936 = .ok (.ifCond .ne 15, 3) := zdt v_Law_law_14 1 (q := (936, .ifCond .ne 15, 3)) rfl
theorem d_Law_law_939 : decode code 939 = .ok (.aload_n 3, 1) := zdt v_Law_law_14 2 (q := (939, .aload_n 3, 1)) rfl
theorem d_Law_law_940 : decode code 940 = .ok (.iconst 0, 1) := zdt v_Law_law_14 3 (q := (940, .iconst 0, 1)) rfl
theorem d_Law_law_941 : decode code 941 = .ok (.laload, 1) := zdt v_Law_law_14 4 (q := (941, .laload, 1)) rfl
theorem d_Law_law_942 : decode code 942 = .ok (.iload 6, 2) := zdt v_Law_law_14 5 (q := (942, .iload 6, 2)) rfl
theorem d_Law_law_944 : decode code 944 = .ok (.i2l, 1) := zdt v_Law_law_14 6 (q := (944, .i2l, 1)) rfl
theorem d_Law_law_945 : decode code 945 = .ok (.lcmp, 1) := zdt v_Law_law_14 7 (q := (945, .lcmp, 1)) rfl
theorem d_Law_law_946 : decode code 946 = .ok (.ifCond .eq 5, 3) := zdt v_Law_law_14 8 (q := (946, .ifCond .eq 5, 3)) rfl
theorem d_Law_law_949 : decode code 949 = .ok (.iconst 0, 1) := zdt v_Law_law_14 9 (q := (949, .iconst 0, 1)) rfl
theorem d_Law_law_950 : decode code 950 = .ok (.ireturn, 1) := zdt v_Law_law_14 10 (q := (950, .ireturn, 1)) rfl
theorem d_Law_law_951 : decode code 951 = .ok (.goto 128, 3) := zdt v_Law_law_14 11 (q := (951, .goto 128, 3)) rfl
theorem d_Law_law_954 : decode code 954 = .ok (.aload_n 1, 1) := zdt v_Law_law_14 12 (q := (954, .aload_n 1, 1)) rfl
theorem d_Law_law_955 : decode code 955 = .ok (.invokevirtual 125, 3) := zdt v_Law_law_14 13 (q := (955, .invokevirtual 125, 3)) rfl
theorem d_Law_law_958 : decode code 958 = .ok (.aload_n 2, 1) := zdt v_Law_law_14 14 (q := (958, .aload_n 2, 1)) rfl
theorem d_Law_law_959 : decode code 959 = .ok (.invokevirtual 128, 3) := zdt v_Law_law_14 15 (q := (959, .invokevirtual 128, 3)) rfl
theorem d_Law_law_962 : decode code 962 = .ok (.if_icmp .eq 117, 3) := zdt v_Law_law_14 16 (q := (962, .if_icmp .eq 117, 3)) rfl
theorem d_Law_law_965 : decode code 965 = .ok (.iconst 0, 1) := zdt v_Law_law_14 17 (q := (965, .iconst 0, 1)) rfl
theorem d_Law_law_966 : decode code 966 = .ok (.ireturn, 1) := zdt v_Law_law_14 18 (q := (966, .ireturn, 1)) rfl
theorem d_Law_law_967 : decode code 967 = .ok (.aload_n 1, 1) := zdt v_Law_law_14 19 (q := (967, .aload_n 1, 1)) rfl
theorem d_Law_law_968 : decode code 968 = .ok (.aload_n 0, 1) := zdt v_Law_law_14 20 (q := (968, .aload_n 0, 1)) rfl
theorem d_Law_law_969 : decode code 969 = .ok (.iload 4, 2) := zdt v_Law_law_14 21 (q := (969, .iload 4, 2)) rfl
theorem d_Law_law_971 : decode code 971 = .ok (.iconst 1, 1) := zdt v_Law_law_14 22 (q := (971, .iconst 1, 1)) rfl
theorem d_Law_law_972 : decode code 972 = .ok (.iadd, 1) := zdt v_Law_law_14 23 (q := (972, .iadd, 1)) rfl
theorem d_Law_law_973 : decode code 973 = .ok (.iaload, 1) := zdt v_Law_law_14 24 (q := (973, .iaload, 1)) rfl
theorem d_Law_law_974 : decode code 974 = .ok (.aload_n 3, 1) := zdt v_Law_law_14 25 (q := (974, .aload_n 3, 1)) rfl
theorem d_Law_law_975 : decode code 975 = .ok (.invokestatic 129, 3) := zdt v_Law_law_14 26 (q := (975, .invokestatic 129, 3)) rfl
theorem d_Law_law_978 : decode code 978 = .ok (.istore 5, 2) := zdt v_Law_law_14 27 (q := (978, .istore 5, 2)) rfl
theorem d_Law_law_980 : decode code 980 = .ok (.aload_n 2, 1) := zdt v_Law_law_14 28 (q := (980, .aload_n 2, 1)) rfl
theorem d_Law_law_981 : decode code 981 = .ok (.aload_n 0, 1) := zdt v_Law_law_14 29 (q := (981, .aload_n 0, 1)) rfl
theorem d_Law_law_982 : decode code 982 = .ok (.iload 4, 2) := zdt v_Law_law_14 30 (q := (982, .iload 4, 2)) rfl
theorem d_Law_law_984 : decode code 984 = .ok (.iconst 1, 1) := zdt v_Law_law_14 31 (q := (984, .iconst 1, 1)) rfl
theorem d_Law_law_985 : decode code 985 = .ok (.iadd, 1) := zdt v_Law_law_14 32 (q := (985, .iadd, 1)) rfl
theorem d_Law_law_986 : decode code 986 = .ok (.iaload, 1) := zdt v_Law_law_14 33 (q := (986, .iaload, 1)) rfl
theorem d_Law_law_987 : decode code 987 = .ok (.invokevirtual 131, 3) := zdt v_Law_law_14 34 (q := (987, .invokevirtual 131, 3)) rfl
theorem d_Law_law_990 : decode code 990 = .ok (.istore 6, 2) := zdt v_Law_law_14 35 (q := (990, .istore 6, 2)) rfl
theorem d_Law_law_992 : decode code 992 = .ok (.aload_n 2, 1) := zdt v_Law_law_14 36 (q := (992, .aload_n 2, 1)) rfl
theorem d_Law_law_993 : decode code 993 = .ok (.invokevirtual 73, 3) := zdt v_Law_law_14 37 (q := (993, .invokevirtual 73, 3)) rfl
theorem d_Law_law_996 : decode code 996 = .ok (.iload 5, 2) := zdt v_Law_law_14 38 (q := (996, .iload 5, 2)) rfl
theorem d_Law_law_998 : decode code 998 = .ok (.if_icmp .eq 5, 3) := zdt v_Law_law_14 39 (q := (998, .if_icmp .eq 5, 3)) rfl
def u_Law_law_15 : List (Nat × Instr × Nat) := [(1001, .iconst 0, 1), (1002, .ireturn, 1), (1003, .iload 5, 2), (1005, .ifCond .ne 15, 3), (1008, .aload_n 3, 1), (1009, .iconst 0, 1), (1010, .laload, 1), (1011, .iload 6, 2), (1013, .i2l, 1), (1014, .lcmp, 1), (1015, .ifCond .eq 5, 3), (1018, .iconst 0, 1), (1019, .ireturn, 1), (1020, .goto 59, 3), (1023, .aload_n 1, 1), (1024, .aload_n 0, 1), (1025, .iload 4, 2), (1027, .iconst 1, 1), (1028, .iadd, 1), (1029, .iaload, 1), (1030, .aload_n 3, 1), (1031, .invokestatic 132, 3), (1034, .istore 5, 2), (1036, .aload_n 2, 1), (1037, .aload_n 0, 1), (1038, .iload 4, 2), (1040, .iconst 1, 1), (1041, .iadd, 1), (1042, .iaload, 1), (1043, .invokevirtual 134, 3), (1046, .istore 6, 2), (1048, .aload_n 2, 1), (1049, .invokevirtual 73, 3), (1052, .iload 5, 2), (1054, .if_icmp .eq 5, 3), (1057, .iconst 0, 1), (1058, .ireturn, 1), (1059, .iload 5, 2), (1061, .ifCond .ne 15, 3), (1064, .aload_n 3, 1)]
theorem v_Law_law_15 : u_Law_law_15.all (zdq code) = true := by decide +kernel
theorem d_Law_law_1001 : decode code 1001 = .ok (.iconst 0, 1) := zdt v_Law_law_15 0 (q := (1001, .iconst 0, 1)) rfl
theorem d_Law_law_1002 : decode code 1002 = .ok (.ireturn, 1) := zdt v_Law_law_15 1 (q := (1002, .ireturn, 1)) rfl
theorem d_Law_law_1003 : decode code 1003 = .ok (.iload 5, 2) := zdt v_Law_law_15 2 (q := (1003, .iload 5, 2)) rfl
theorem d_Law_law_1005 : decode code 1005 = .ok (.ifCond .ne 15, 3) := zdt v_Law_law_15 3 (q := (1005, .ifCond .ne 15, 3)) rfl
theorem d_Law_law_1008 : decode code 1008 = .ok (.aload_n 3, 1) := zdt v_Law_law_15 4 (q := (1008, .aload_n 3, 1)) rfl
theorem d_Law_law_1009 : decode code 1009 = .ok (.iconst 0, 1) := zdt v_Law_law_15 5 (q := (1009, .iconst 0, 1)) rfl
theorem d_Law_law_1010 : decode code 1010 = .ok (.laload, 1) := zdt v_Law_law_15 6 (q := (1010, .laload, 1)) rfl
theorem d_Law_law_1011 : decode code 1011 = .ok (.iload 6, 2) := zdt v_Law_law_15 7 (q := (1011, .iload 6, 2)) rfl
theorem d_Law_law_1013 : decode code 1013 = .ok (.i2l, 1) := zdt v_Law_law_15 8 (q := (1013, .i2l, 1)) rfl
theorem d_Law_law_1014 : decode code 1014 = .ok (.lcmp, 1) := zdt v_Law_law_15 9 (q := (1014, .lcmp, 1)) rfl
theorem d_Law_law_1015 : decode code 1015 = .ok (.ifCond .eq 5, 3) := zdt v_Law_law_15 10 (q := (1015, .ifCond .eq 5, 3)) rfl
theorem d_Law_law_1018 : decode code 1018 = .ok (.iconst 0, 1) := zdt v_Law_law_15 11 (q := (1018, .iconst 0, 1)) rfl
theorem d_Law_law_1019 : decode code 1019 = .ok (.ireturn, 1) := zdt v_Law_law_15 12 (q := (1019, .ireturn, 1)) rfl
theorem d_Law_law_1020 : decode code 1020 = .ok (.goto 59, 3) := zdt v_Law_law_15 13 (q := (1020, .goto 59, 3)) rfl
theorem d_Law_law_1023 : decode code 1023 = .ok (.aload_n 1, 1) := zdt v_Law_law_15 14 (q := (1023, .aload_n 1, 1)) rfl
theorem d_Law_law_1024 : decode code 1024 = .ok (.aload_n 0, 1) := zdt v_Law_law_15 15 (q := (1024, .aload_n 0, 1)) rfl
theorem d_Law_law_1025 : decode code 1025 = .ok (.iload 4, 2) := zdt v_Law_law_15 16 (q := (1025, .iload 4, 2)) rfl
theorem d_Law_law_1027 : decode code 1027 = .ok (.iconst 1, 1) := zdt v_Law_law_15 17 (q := (1027, .iconst 1, 1)) rfl
theorem d_Law_law_1028 : decode code 1028 = .ok (.iadd, 1) := zdt v_Law_law_15 18 (q := (1028, .iadd, 1)) rfl
theorem d_Law_law_1029 : decode code 1029 = .ok (.iaload, 1) := zdt v_Law_law_15 19 (q := (1029, .iaload, 1)) rfl
theorem d_Law_law_1030 : decode code 1030 = .ok (.aload_n 3, 1) := zdt v_Law_law_15 20 (q := (1030, .aload_n 3, 1)) rfl
theorem d_Law_law_1031 : decode code 1031 = .ok (.invokestatic 132, 3) := zdt v_Law_law_15 21 (q := (1031, .invokestatic 132, 3)) rfl
theorem d_Law_law_1034 : decode code 1034 = .ok (.istore 5, 2) := zdt v_Law_law_15 22 (q := (1034, .istore 5, 2)) rfl
theorem d_Law_law_1036 : decode code 1036 = .ok (.aload_n 2, 1) := zdt v_Law_law_15 23 (q := (1036, .aload_n 2, 1)) rfl
theorem d_Law_law_1037 : decode code 1037 = .ok (.aload_n 0, 1) := zdt v_Law_law_15 24 (q := (1037, .aload_n 0, 1)) rfl
theorem d_Law_law_1038 : decode code 1038 = .ok (.iload 4, 2) := zdt v_Law_law_15 25 (q := (1038, .iload 4, 2)) rfl
theorem d_Law_law_1040 : decode code 1040 = .ok (.iconst 1, 1) := zdt v_Law_law_15 26 (q := (1040, .iconst 1, 1)) rfl
theorem d_Law_law_1041 : decode code 1041 = .ok (.iadd, 1) := zdt v_Law_law_15 27 (q := (1041, .iadd, 1)) rfl
theorem d_Law_law_1042 : decode code 1042 = .ok (.iaload, 1) := zdt v_Law_law_15 28 (q := (1042, .iaload, 1)) rfl
theorem d_Law_law_1043 : decode code 1043 = .ok (.invokevirtual 134, 3) := zdt v_Law_law_15 29 (q := (1043, .invokevirtual 134, 3)) rfl
theorem d_Law_law_1046 : decode code 1046 = .ok (.istore 6, 2) := zdt v_Law_law_15 30 (q := (1046, .istore 6, 2)) rfl
theorem d_Law_law_1048 : decode code 1048 = .ok (.aload_n 2, 1) := zdt v_Law_law_15 31 (q := (1048, .aload_n 2, 1)) rfl
theorem d_Law_law_1049 : decode code 1049 = .ok (.invokevirtual 73, 3) := zdt v_Law_law_15 32 (q := (1049, .invokevirtual 73, 3)) rfl
theorem d_Law_law_1052 : decode code 1052 = .ok (.iload 5, 2) := zdt v_Law_law_15 33 (q := (1052, .iload 5, 2)) rfl
theorem d_Law_law_1054 : decode code 1054 = .ok (.if_icmp .eq 5, 3) := zdt v_Law_law_15 34 (q := (1054, .if_icmp .eq 5, 3)) rfl
theorem d_Law_law_1057 : decode code 1057 = .ok (.iconst 0, 1) := zdt v_Law_law_15 35 (q := (1057, .iconst 0, 1)) rfl
theorem d_Law_law_1058 : decode code 1058 = .ok (.ireturn, 1) := zdt v_Law_law_15 36 (q := (1058, .ireturn, 1)) rfl
theorem d_Law_law_1059 : decode code 1059 = .ok (.iload 5, 2) := zdt v_Law_law_15 37 (q := (1059, .iload 5, 2)) rfl
theorem d_Law_law_1061 : decode code 1061 = .ok (.ifCond .ne 15, 3) := zdt v_Law_law_15 38 (q := (1061, .ifCond .ne 15, 3)) rfl
theorem d_Law_law_1064 : decode code 1064 = .ok (.aload_n 3, 1) := zdt v_Law_law_15 39 (q := (1064, .aload_n 3, 1)) rfl
def u_Law_law_16 : List (Nat × Instr × Nat) := [(1065, .iconst 0, 1), (1066, .laload, 1), (1067, .iload 6, 2), (1069, .i2l, 1), (1070, .lcmp, 1), (1071, .ifCond .eq 5, 3), (1074, .iconst 0, 1), (1075, .ireturn, 1), (1076, .goto 3, 3), (1079, .iinc 4 5, 3), (1082, .goto (-1029), 3), (1085, .iconst 1, 1), (1086, .ireturn, 1)]
theorem v_Law_law_16 : u_Law_law_16.all (zdq code) = true := by decide +kernel
theorem d_Law_law_1065 : decode code 1065 = .ok (.iconst 0, 1) := zdt v_Law_law_16 0 (q := (1065, .iconst 0, 1)) rfl
theorem d_Law_law_1066 : decode code 1066 = .ok (.laload, 1) := zdt v_Law_law_16 1 (q := (1066, .laload, 1)) rfl
theorem d_Law_law_1067 : decode code 1067 = .ok (.iload 6, 2) := zdt v_Law_law_16 2 (q := (1067, .iload 6, 2)) rfl
theorem d_Law_law_1069 : decode code 1069 = .ok (.i2l, 1) := zdt v_Law_law_16 3 (q := (1069, .i2l, 1)) rfl
theorem d_Law_law_1070 : decode code 1070 = .ok (.lcmp, 1) := zdt v_Law_law_16 4 (q := (1070, .lcmp, 1)) rfl
theorem d_Law_law_1071 : decode code 1071 = .ok (.ifCond .eq 5, 3) := zdt v_Law_law_16 5 (q := (1071, .ifCond .eq 5, 3)) rfl
theorem d_Law_law_1074 : decode code 1074 = .ok (.iconst 0, 1) := zdt v_Law_law_16 6 (q := (1074, .iconst 0, 1)) rfl
theorem d_Law_law_1075 : decode code 1075 = .ok (.ireturn, 1) := zdt v_Law_law_16 7 (q := (1075, .ireturn, 1)) rfl
theorem d_Law_law_1076 : decode code 1076 = .ok (.goto 3, 3) := zdt v_Law_law_16 8 (q := (1076, .goto 3, 3)) rfl
theorem d_Law_law_1079 : decode code 1079 = .ok (.iinc 4 5, 3) := zdt v_Law_law_16 9 (q := (1079, .iinc 4 5, 3)) rfl
theorem d_Law_law_1082 : decode code 1082 = .ok (.goto (-1029), 3) := zdt v_Law_law_16 10 (q := (1082, .goto (-1029), 3)) rfl
theorem d_Law_law_1085 : decode code 1085 = .ok (.iconst 1, 1) := zdt v_Law_law_16 11 (q := (1085, .iconst 1, 1)) rfl
theorem d_Law_law_1086 : decode code 1086 = .ok (.ireturn, 1) := zdt v_Law_law_16 12 (q := (1086, .ireturn, 1)) rfl
