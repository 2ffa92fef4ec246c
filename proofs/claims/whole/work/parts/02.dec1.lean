def u_WP_init_0 : List (Nat × Instr × Nat) := [(0, .aload_n 0, 1), (1, .invokespecial 3, 3), (4, .aload_n 0, 1), (5, .new 9, 3), (8, .dup, 1), (9, .invokespecial 11, 3), (12, .putfield 12, 3), (15, .aload_n 0, 1), (16, .bipush 8, 2), (18, .anewarray 16, 3), (21, .putfield 18, 3), (24, .aload_n 0, 1), (25, .new 16, 3), (28, .dup, 1), (29, .invokespecial 22, 3), (32, .putfield 23, 3), (35, .aload_n 0, 1), (36, .bipush 64, 2), (38, .newarray .boolean, 2), (40, .putfield 27, 3), (43, .aload_n 0, 1), (44, .bipush 64, 2), (46, .newarray .int, 2), (48, .putfield 31, 3), (51, .aload_n 0, 1), (52, .bipush 64, 2), (54, .newarray .int, 2), (56, .putfield 35, 3), (59, .aload_n 0, 1), (60, .iconst 0, 1), (61, .putfield 38, 3), (64, .aload_n 0, 1), (65, .iconst 0, 1), (66, .putfield 42, 3), (69, .aload_n 0, 1), (70, .iconst 0, 1), (71, .putfield 45, 3), (74, .aload_n 0, 1), (75, .new 48, 3), (78, .dup, 1)]
theorem v_WP_init_0 : u_WP_init_0.all (zdq prog_1_method_1_code) = true := by decide +kernel
theorem d_WP_init_0 : decode prog_1_method_1_code 0 = .ok (.aload_n 0, 1) := zdt v_WP_init_0 0 (q := (0, .aload_n 0, 1)) rfl
theorem d_WP_init_1 : decode prog_1_method_1_code 1 = .ok (.invokespecial 3, 3) := zdt v_WP_init_0 1 (q := (1, .invokespecial 3, 3)) rfl
theorem d_WP_init_4 : decode prog_1_method_1_code 4 = .ok (.aload_n 0, 1) := zdt v_WP_init_0 2 (q := (4, .aload_n 0, 1)) rfl
theorem d_WP_init_5 : decode prog_1_method_1_code 5 = .ok (.new 9, 3) := zdt v_WP_init_0 3 (q := (5, .new 9, 3)) rfl
theorem d_WP_init_8 : decode prog_1_method_1_code 8 = .ok (.dup, 1) := zdt v_WP_init_0 4 (q := (8, .dup, 1)) rfl
theorem d_WP_init_9 : decode prog_1_method_1_code 9 = .ok (.invokespecial 11, 3) := zdt v_WP_init_0 5 (q := (9, .invokespecial 11, 3)) rfl
theorem d_WP_init_12 : decode prog_1_method_1_code 12 = .ok (.putfield 12, 3) := zdt v_WP_init_0 6 (q := (12, .putfield 12, 3)) rfl
theorem d_WP_init_15 : decode prog_1_method_1_code 15 = .ok (.aload_n 0, 1) := zdt v_WP_init_0 7 (q := (15, .aload_n 0, 1)) rfl
theorem d_WP_init_16 : decode prog_1_method_1_code 16 = .ok (.bipush 8, 2) := zdt v_WP_init_0 8 (q := (16, .bipush 8, 2)) rfl
theorem d_WP_init_18 : decode prog_1_method_1_code 18 = .ok (.anewarray 16, 3) := zdt v_WP_init_0 9 (q := (18, .anewarray 16, 3)) rfl
theorem d_WP_init_21 : decode prog_1_method_1_code 21 = .ok (.putfield 18, 3) := zdt v_WP_init_0 10 (q := (21, .putfield 18, 3)) rfl
theorem d_WP_init_24 : decode prog_1_method_1_code 24 = .ok (.aload_n 0, 1) := zdt v_WP_init_0 11 (q := (24, .aload_n 0, 1)) rfl
theorem d_WP_init_25 : decode prog_1_method_1_code 25 = .ok (.new 16, 3) := zdt v_WP_init_0 12 (q := (25, .new 16, 3)) rfl
theorem d_WP_init_28 : decode prog_1_method_1_code 28 = .ok (.dup, 1) := zdt v_WP_init_0 13 (q := (28, .dup, 1)) rfl
theorem d_WP_init_29 : decode prog_1_method_1_code 29 = .ok (.invokespecial 22, 3) := zdt v_WP_init_0 14 (q := (29, .invokespecial 22, 3)) rfl
theorem d_WP_init_32 : decode prog_1_method_1_code 32 = .ok (.putfield 23, 3) := zdt v_WP_init_0 15 (q := (32, .putfield 23, 3)) rfl
theorem d_WP_init_35 : decode prog_1_method_1_code 35 = .ok (.aload_n 0, 1) := zdt v_WP_init_0 16 (q := (35, .aload_n 0, 1)) rfl
theorem d_WP_init_36 : decode prog_1_method_1_code 36 = .ok (.bipush 64, 2) := zdt v_WP_init_0 17 (q := (36, .bipush 64, 2)) rfl
theorem d_WP_init_38 : decode prog_1_method_1_code 38 = .ok (.newarray .boolean, 2) := zdt v_WP_init_0 18 (q := (38, .newarray .boolean, 2)) rfl
theorem d_WP_init_40 : decode prog_1_method_1_code 40 = .ok (.putfield 27, 3) := zdt v_WP_init_0 19 (q := (40, .putfield 27, 3)) rfl
theorem d_WP_init_43 : decode prog_1_method_1_code 43 = .ok (.aload_n 0, 1) := zdt v_WP_init_0 20 (q := (43, .aload_n 0, 1)) rfl
theorem d_WP_init_44 : decode prog_1_method_1_code 44 = .ok (.bipush 64, 2) := zdt v_WP_init_0 21 (q := (44, .bipush 64, 2)) rfl
theorem d_WP_init_46 : decode prog_1_method_1_code 46 = .ok (.newarray .int, 2) := zdt v_WP_init_0 22 (q := (46, .newarray .int, 2)) rfl
theorem d_WP_init_48 : decode prog_1_method_1_code 48 = .ok (.putfield 31, 3) := zdt v_WP_init_0 23 (q := (48, .putfield 31, 3)) rfl
theorem d_WP_init_51 : decode prog_1_method_1_code 51 = .ok (.aload_n 0, 1) := zdt v_WP_init_0 24 (q := (51, .aload_n 0, 1)) rfl
theorem d_WP_init_52 : decode prog_1_method_1_code 52 = .ok (.bipush 64, 2) := zdt v_WP_init_0 25 (q := (52, .bipush 64, 2)) rfl
theorem d_WP_init_54 : decode prog_1_method_1_code 54 = .ok (.newarray .int, 2) := zdt v_WP_init_0 26 (q := (54, .newarray .int, 2)) rfl
theorem d_WP_init_56 : decode prog_1_method_1_code 56 = .ok (.putfield 35, 3) := zdt v_WP_init_0 27 (q := (56, .putfield 35, 3)) rfl
theorem d_WP_init_59 : decode prog_1_method_1_code 59 = .ok (.aload_n 0, 1) := zdt v_WP_init_0 28 (q := (59, .aload_n 0, 1)) rfl
theorem d_WP_init_60 : decode prog_1_method_1_code 60 = .ok (.iconst 0, 1) := zdt v_WP_init_0 29 (q := (60, .iconst 0, 1)) rfl
theorem d_WP_init_61 : decode prog_1_method_1_code 61 = .ok (.putfield 38, 3) := zdt v_WP_init_0 30 (q := (61, .putfield 38, 3)) rfl
theorem d_WP_init_64 : decode prog_1_method_1_code 64 = .ok (.aload_n 0, 1) := zdt v_WP_init_0 31 (q := (64, .aload_n 0, 1)) rfl
theorem d_WP_init_65 : decode prog_1_method_1_code 65 = .ok (.iconst 0, 1) := zdt v_WP_init_0 32 (q := (65, .iconst 0, 1)) rfl
theorem d_WP_init_66 : decode prog_1_method_1_code 66 = .ok (.putfield 42, 3) := zdt v_WP_init_0 33 (q := (66, .putfield 42, 3)) rfl
theorem d_WP_init_69 : decode prog_1_method_1_code 69 = .ok (.aload_n 0, 1) := zdt v_WP_init_0 34 (q := (69, .aload_n 0, 1)) rfl
theorem d_WP_init_70 : decode prog_1_method_1_code 70 = .ok (.iconst 0, 1) := zdt v_WP_init_0 35 (q := (70, .iconst 0, 1)) rfl
theorem d_WP_init_71 : decode prog_1_method_1_code 71 = .ok (.putfield 45, 3) := zdt v_WP_init_0 36 (q := (71, .putfield 45, 3)) rfl
theorem d_WP_init_74 : decode prog_1_method_1_code 74 = .ok (.aload_n 0, 1) := zdt v_WP_init_0 37 (q := (74, .aload_n 0, 1)) rfl
theorem d_WP_init_75 : decode prog_1_method_1_code 75 = .ok (.new 48, 3) := zdt v_WP_init_0 38 (q := (75, .new 48, 3)) rfl
theorem d_WP_init_78 : decode prog_1_method_1_code 78 = .ok (.dup, 1) := zdt v_WP_init_0 39 (q := (78, .dup, 1)) rfl
def u_WP_init_1 : List (Nat × Instr × Nat) := [(79, .iload_n 1, 1), (80, .invokestatic 50, 3), (83, .iload_n 2, 1), (84, .invokestatic 50, 3), (87, .iload_n 3, 1), (88, .invokestatic 50, 3), (91, .invokespecial 54, 3), (94, .putfield 57, 3), (97, .iconst 0, 1), (98, .istore 4, 2), (100, .iload 4, 2), (102, .bipush 8, 2), (104, .if_icmp .ge 23, 3), (107, .aload_n 0, 1), (108, .getfield 18, 3), (111, .iload 4, 2), (113, .new 16, 3), (116, .dup, 1), (117, .invokespecial 22, 3), (120, .aastore, 1), (121, .iinc 4 1, 3), (124, .goto (-24), 3), (127, .aload_n 0, 1), (128, .getfield 23, 3), (131, .iconst 0, 1), (132, .iconst 0, 1), (133, .iconst (-1), 1), (134, .invokevirtual 61, 3), (137, .return_, 1)]
theorem v_WP_init_1 : u_WP_init_1.all (zdq prog_1_method_1_code) = true := by decide +kernel
theorem d_WP_init_79 : decode prog_1_method_1_code 79 = .ok (.iload_n 1, 1) := zdt v_WP_init_1 0 (q := (79, .iload_n 1, 1)) rfl
theorem d_WP_init_80 : decode prog_1_method_1_code 80 = .ok (.invokestatic 50, 3) := zdt v_WP_init_1 1 (q := (80, .invokestatic 50, 3)) rfl
theorem d_WP_init_83 : decode prog_1_method_1_code 83 = .ok (.iload_n 2, 1) := zdt v_WP_init_1 2 (q := (83, .iload_n 2, 1)) rfl
theorem d_WP_init_84 : decode prog_1_method_1_code 84 = .ok (.invokestatic 50, 3) := zdt v_WP_init_1 3 (q := (84, .invokestatic 50, 3)) rfl
theorem d_WP_init_87 : decode prog_1_method_1_code 87 = .ok (.iload_n 3, 1) := zdt v_WP_init_1 4 (q := (87, .iload_n 3, 1)) rfl
theorem d_WP_init_88 : decode prog_1_method_1_code 88 = .ok (.invokestatic 50, 3) := zdt v_WP_init_1 5 (q := (88, .invokestatic 50, 3)) rfl
theorem d_WP_init_91 : decode prog_1_method_1_code 91 = .ok (.invokespecial 54, 3) := zdt v_WP_init_1 6 (q := (91, .invokespecial 54, 3)) rfl
theorem d_WP_init_94 : decode prog_1_method_1_code 94 = .ok (.putfield 57, 3) := zdt v_WP_init_1 7 (q := (94, .putfield 57, 3)) rfl
theorem d_WP_init_97 : decode prog_1_method_1_code 97 = .ok (.iconst 0, 1) := zdt v_WP_init_1 8 (q := (97, .iconst 0, 1)) rfl
theorem d_WP_init_98 : decode prog_1_method_1_code 98 = .ok (.istore 4, 2) := zdt v_WP_init_1 9 (q := (98, .istore 4, 2)) rfl
theorem d_WP_init_100 : decode prog_1_method_1_code 100 = .ok (.iload 4, 2) := zdt v_WP_init_1 10 (q := (100, .iload 4, 2)) rfl
theorem d_WP_init_102 : decode prog_1_method_1_code 102 = .ok (.bipush 8, 2) := zdt v_WP_init_1 11 (q := (102, .bipush 8, 2)) rfl
theorem d_WP_init_104 : decode prog_1_method_1_code 104 = .ok (.if_icmp .ge 23, 3) := zdt v_WP_init_1 12 (q := (104, .if_icmp .ge 23, 3)) rfl
theorem d_WP_init_107 : decode prog_1_method_1_code 107 = .ok (.aload_n 0, 1) := zdt v_WP_init_1 13 (q := (107, .aload_n 0, 1)) rfl
theorem d_WP_init_108 : decode prog_1_method_1_code 108 = .ok (.getfield 18, 3) := zdt v_WP_init_1 14 (q := (108, .getfield 18, 3)) rfl
theorem d_WP_init_111 : decode prog_1_method_1_code 111 = .ok (.iload 4, 2) := zdt v_WP_init_1 15 (q := (111, .iload 4, 2)) rfl
theorem d_WP_init_113 : decode prog_1_method_1_code 113 = .ok (.new 16, 3) := zdt v_WP_init_1 16 (q := (113, .new 16, 3)) rfl
theorem d_WP_init_116 : decode prog_1_method_1_code 116 = .ok (.dup, 1) := zdt v_WP_init_1 17 (q := (116, .dup, 1)) rfl
theorem d_WP_init_117 : decode prog_1_method_1_code 117 = .ok (.invokespecial 22, 3) := zdt v_WP_init_1 18 (q := (117, .invokespecial 22, 3)) rfl
theorem d_WP_init_120 : decode prog_1_method_1_code 120 = .ok (.aastore, 1) := zdt v_WP_init_1 19 (q := (120, .aastore, 1)) rfl
theorem d_WP_init_121 : decode prog_1_method_1_code 121 = .ok (.iinc 4 1, 3) := zdt v_WP_init_1 20 (q := (121, .iinc 4 1, 3)) rfl
theorem d_WP_init_124 : decode prog_1_method_1_code 124 = .ok (.goto (-24), 3) := zdt v_WP_init_1 21 (q := (124, .goto (-24), 3)) rfl
theorem d_WP_init_127 : decode prog_1_method_1_code 127 = .ok (.aload_n 0, 1) := zdt v_WP_init_1 22 (q := (127, .aload_n 0, 1)) rfl
theorem d_WP_init_128 : decode prog_1_method_1_code 128 = .ok (.getfield 23, 3) := zdt v_WP_init_1 23 (q := (128, .getfield 23, 3)) rfl
theorem d_WP_init_131 : decode prog_1_method_1_code 131 = .ok (.iconst 0, 1) := zdt v_WP_init_1 24 (q := (131, .iconst 0, 1)) rfl
theorem d_WP_init_132 : decode prog_1_method_1_code 132 = .ok (.iconst 0, 1) := zdt v_WP_init_1 25 (q := (132, .iconst 0, 1)) rfl
theorem d_WP_init_133 : decode prog_1_method_1_code 133 = .ok (.iconst (-1), 1) := zdt v_WP_init_1 26 (q := (133, .iconst (-1), 1)) rfl
theorem d_WP_init_134 : decode prog_1_method_1_code 134 = .ok (.invokevirtual 61, 3) := zdt v_WP_init_1 27 (q := (134, .invokevirtual 61, 3)) rfl
theorem d_WP_init_137 : decode prog_1_method_1_code 137 = .ok (.return_, 1) := zdt v_WP_init_1 28 (q := (137, .return_, 1)) rfl
def u_WP_sizeFor_0 : List (Nat × Instr × Nat) := [(0, .iconst 1, 1), (1, .bipush 8, 2), (3, .iload_n 0, 1), (4, .invokestatic 201, 3), (7, .invokestatic 206, 3), (10, .ireturn, 1)]
theorem v_WP_sizeFor_0 : u_WP_sizeFor_0.all (zdq prog_1_method_19_code) = true := by decide +kernel
theorem d_WP_sizeFor_0 : decode prog_1_method_19_code 0 = .ok (.iconst 1, 1) := zdt v_WP_sizeFor_0 0 (q := (0, .iconst 1, 1)) rfl
theorem d_WP_sizeFor_1 : decode prog_1_method_19_code 1 = .ok (.bipush 8, 2) := zdt v_WP_sizeFor_0 1 (q := (1, .bipush 8, 2)) rfl
theorem d_WP_sizeFor_3 : decode prog_1_method_19_code 3 = .ok (.iload_n 0, 1) := zdt v_WP_sizeFor_0 2 (q := (3, .iload_n 0, 1)) rfl
theorem d_WP_sizeFor_4 : decode prog_1_method_19_code 4 = .ok (.invokestatic 201, 3) := zdt v_WP_sizeFor_0 3 (q := (4, .invokestatic 201, 3)) rfl
theorem d_WP_sizeFor_7 : decode prog_1_method_19_code 7 = .ok (.invokestatic 206, 3) := zdt v_WP_sizeFor_0 4 (q := (7, .invokestatic 206, 3)) rfl
theorem d_WP_sizeFor_10 : decode prog_1_method_19_code 10 = .ok (.ireturn, 1) := zdt v_WP_sizeFor_0 5 (q := (10, .ireturn, 1)) rfl
def u_WP_hasBit_0 : List (Nat × Instr × Nat) := [(0, .iload_n 0, 1), (1, .iload_n 1, 1), (2, .ishr, 1), (3, .iconst 1, 1), (4, .iand, 1), (5, .iconst 1, 1), (6, .if_icmp .ne 7, 3), (9, .iconst 1, 1), (10, .goto 4, 3), (13, .iconst 0, 1), (14, .ireturn, 1)]
theorem v_WP_hasBit_0 : u_WP_hasBit_0.all (zdq prog_1_method_20_code) = true := by decide +kernel
theorem d_WP_hasBit_0 : decode prog_1_method_20_code 0 = .ok (.iload_n 0, 1) := zdt v_WP_hasBit_0 0 (q := (0, .iload_n 0, 1)) rfl
theorem d_WP_hasBit_1 : decode prog_1_method_20_code 1 = .ok (.iload_n 1, 1) := zdt v_WP_hasBit_0 1 (q := (1, .iload_n 1, 1)) rfl
theorem d_WP_hasBit_2 : decode prog_1_method_20_code 2 = .ok (.ishr, 1) := zdt v_WP_hasBit_0 2 (q := (2, .ishr, 1)) rfl
theorem d_WP_hasBit_3 : decode prog_1_method_20_code 3 = .ok (.iconst 1, 1) := zdt v_WP_hasBit_0 3 (q := (3, .iconst 1, 1)) rfl
theorem d_WP_hasBit_4 : decode prog_1_method_20_code 4 = .ok (.iand, 1) := zdt v_WP_hasBit_0 4 (q := (4, .iand, 1)) rfl
theorem d_WP_hasBit_5 : decode prog_1_method_20_code 5 = .ok (.iconst 1, 1) := zdt v_WP_hasBit_0 5 (q := (5, .iconst 1, 1)) rfl
theorem d_WP_hasBit_6 : decode prog_1_method_20_code 6 = .ok (.if_icmp .ne 7, 3) := zdt v_WP_hasBit_0 6 (q := (6, .if_icmp .ne 7, 3)) rfl
theorem d_WP_hasBit_9 : decode prog_1_method_20_code 9 = .ok (.iconst 1, 1) := zdt v_WP_hasBit_0 7 (q := (9, .iconst 1, 1)) rfl
theorem d_WP_hasBit_10 : decode prog_1_method_20_code 10 = .ok (.goto 4, 3) := zdt v_WP_hasBit_0 8 (q := (10, .goto 4, 3)) rfl
theorem d_WP_hasBit_13 : decode prog_1_method_20_code 13 = .ok (.iconst 0, 1) := zdt v_WP_hasBit_0 9 (q := (13, .iconst 0, 1)) rfl
theorem d_WP_hasBit_14 : decode prog_1_method_20_code 14 = .ok (.ireturn, 1) := zdt v_WP_hasBit_0 10 (q := (14, .ireturn, 1)) rfl
def u_WP_unjoint_0 : List (Nat × Instr × Nat) := [(0, .aload_n 0, 1), (1, .getfield 57, 3), (4, .getfield 78, 3), (7, .ifCond .ne 5, 3), (10, .iconst (-1), 1), (11, .ireturn, 1), (12, .aload_n 0, 1), (13, .invokevirtual 86, 3), (16, .aload_n 0, 1), (17, .getfield 57, 3), (20, .invokevirtual 93, 3), (23, .aload_n 0, 1), (24, .getfield 57, 3), (27, .getfield 78, 3), (30, .ireturn, 1)]
theorem v_WP_unjoint_0 : u_WP_unjoint_0.all (zdq prog_1_method_3_code) = true := by decide +kernel
theorem d_WP_unjoint_0 : decode prog_1_method_3_code 0 = .ok (.aload_n 0, 1) := zdt v_WP_unjoint_0 0 (q := (0, .aload_n 0, 1)) rfl
theorem d_WP_unjoint_1 : decode prog_1_method_3_code 1 = .ok (.getfield 57, 3) := zdt v_WP_unjoint_0 1 (q := (1, .getfield 57, 3)) rfl
theorem d_WP_unjoint_4 : decode prog_1_method_3_code 4 = .ok (.getfield 78, 3) := zdt v_WP_unjoint_0 2 (q := (4, .getfield 78, 3)) rfl
theorem d_WP_unjoint_7 : decode prog_1_method_3_code 7 = .ok (.ifCond .ne 5, 3) := zdt v_WP_unjoint_0 3 (q := (7, .ifCond .ne 5, 3)) rfl
theorem d_WP_unjoint_10 : decode prog_1_method_3_code 10 = .ok (.iconst (-1), 1) := zdt v_WP_unjoint_0 4 (q := (10, .iconst (-1), 1)) rfl
theorem d_WP_unjoint_11 : decode prog_1_method_3_code 11 = .ok (.ireturn, 1) := zdt v_WP_unjoint_0 5 (q := (11, .ireturn, 1)) rfl
theorem d_WP_unjoint_12 : decode prog_1_method_3_code 12 = .ok (.aload_n 0, 1) := zdt v_WP_unjoint_0 6 (q := (12, .aload_n 0, 1)) rfl
theorem d_WP_unjoint_13 : decode prog_1_method_3_code 13 = .ok (.invokevirtual 86, 3) := zdt v_WP_unjoint_0 7 (q := (13, .invokevirtual 86, 3)) rfl
theorem d_WP_unjoint_16 : decode prog_1_method_3_code 16 = .ok (.aload_n 0, 1) := zdt v_WP_unjoint_0 8 (q := (16, .aload_n 0, 1)) rfl
theorem d_WP_unjoint_17 : decode prog_1_method_3_code 17 = .ok (.getfield 57, 3) := zdt v_WP_unjoint_0 9 (q := (17, .getfield 57, 3)) rfl
theorem d_WP_unjoint_20 : decode prog_1_method_3_code 20 = .ok (.invokevirtual 93, 3) := zdt v_WP_unjoint_0 10 (q := (20, .invokevirtual 93, 3)) rfl
theorem d_WP_unjoint_23 : decode prog_1_method_3_code 23 = .ok (.aload_n 0, 1) := zdt v_WP_unjoint_0 11 (q := (23, .aload_n 0, 1)) rfl
theorem d_WP_unjoint_24 : decode prog_1_method_3_code 24 = .ok (.getfield 57, 3) := zdt v_WP_unjoint_0 12 (q := (24, .getfield 57, 3)) rfl
theorem d_WP_unjoint_27 : decode prog_1_method_3_code 27 = .ok (.getfield 78, 3) := zdt v_WP_unjoint_0 13 (q := (27, .getfield 78, 3)) rfl
theorem d_WP_unjoint_30 : decode prog_1_method_3_code 30 = .ok (.ireturn, 1) := zdt v_WP_unjoint_0 14 (q := (30, .ireturn, 1)) rfl
def u_WP_putAllBack_0 : List (Nat × Instr × Nat) := [(0, .iconst 0, 1), (1, .istore_n 1, 1), (2, .iload_n 1, 1), (3, .bipush 64, 2), (5, .if_icmp .ge 16, 3), (8, .aload_n 0, 1), (9, .getfield 27, 3), (12, .iload_n 1, 1), (13, .iconst 0, 1), (14, .bastore, 1), (15, .iinc 1 1, 3), (18, .goto (-16), 3), (21, .aload_n 0, 1), (22, .iconst 0, 1), (23, .putfield 38, 3), (26, .return_, 1)]
theorem v_WP_putAllBack_0 : u_WP_putAllBack_0.all (zdq prog_1_method_25_code) = true := by decide +kernel
theorem d_WP_putAllBack_0 : decode prog_1_method_25_code 0 = .ok (.iconst 0, 1) := zdt v_WP_putAllBack_0 0 (q := (0, .iconst 0, 1)) rfl
theorem d_WP_putAllBack_1 : decode prog_1_method_25_code 1 = .ok (.istore_n 1, 1) := zdt v_WP_putAllBack_0 1 (q := (1, .istore_n 1, 1)) rfl
theorem d_WP_putAllBack_2 : decode prog_1_method_25_code 2 = .ok (.iload_n 1, 1) := zdt v_WP_putAllBack_0 2 (q := (2, .iload_n 1, 1)) rfl
theorem d_WP_putAllBack_3 : decode prog_1_method_25_code 3 = .ok (.bipush 64, 2) := zdt v_WP_putAllBack_0 3 (q := (3, .bipush 64, 2)) rfl
theorem d_WP_putAllBack_5 : decode prog_1_method_25_code 5 = .ok (.if_icmp .ge 16, 3) := zdt v_WP_putAllBack_0 4 (q := (5, .if_icmp .ge 16, 3)) rfl
theorem d_WP_putAllBack_8 : decode prog_1_method_25_code 8 = .ok (.aload_n 0, 1) := zdt v_WP_putAllBack_0 5 (q := (8, .aload_n 0, 1)) rfl
theorem d_WP_putAllBack_9 : decode prog_1_method_25_code 9 = .ok (.getfield 27, 3) := zdt v_WP_putAllBack_0 6 (q := (9, .getfield 27, 3)) rfl
theorem d_WP_putAllBack_12 : decode prog_1_method_25_code 12 = .ok (.iload_n 1, 1) := zdt v_WP_putAllBack_0 7 (q := (12, .iload_n 1, 1)) rfl
theorem d_WP_putAllBack_13 : decode prog_1_method_25_code 13 = .ok (.iconst 0, 1) := zdt v_WP_putAllBack_0 8 (q := (13, .iconst 0, 1)) rfl
theorem d_WP_putAllBack_14 : decode prog_1_method_25_code 14 = .ok (.bastore, 1) := zdt v_WP_putAllBack_0 9 (q := (14, .bastore, 1)) rfl
theorem d_WP_putAllBack_15 : decode prog_1_method_25_code 15 = .ok (.iinc 1 1, 3) := zdt v_WP_putAllBack_0 10 (q := (15, .iinc 1 1, 3)) rfl
theorem d_WP_putAllBack_18 : decode prog_1_method_25_code 18 = .ok (.goto (-16), 3) := zdt v_WP_putAllBack_0 11 (q := (18, .goto (-16), 3)) rfl
theorem d_WP_putAllBack_21 : decode prog_1_method_25_code 21 = .ok (.aload_n 0, 1) := zdt v_WP_putAllBack_0 12 (q := (21, .aload_n 0, 1)) rfl
theorem d_WP_putAllBack_22 : decode prog_1_method_25_code 22 = .ok (.iconst 0, 1) := zdt v_WP_putAllBack_0 13 (q := (22, .iconst 0, 1)) rfl
theorem d_WP_putAllBack_23 : decode prog_1_method_25_code 23 = .ok (.putfield 38, 3) := zdt v_WP_putAllBack_0 14 (q := (23, .putfield 38, 3)) rfl
theorem d_WP_putAllBack_26 : decode prog_1_method_25_code 26 = .ok (.return_, 1) := zdt v_WP_putAllBack_0 15 (q := (26, .return_, 1)) rfl
def u_WP_blocks_0 : List (Nat × Instr × Nat) := [(0, .aload_n 0, 1), (1, .getfield 57, 3), (4, .getfield 115, 3), (7, .ireturn, 1)]
theorem v_WP_blocks_0 : u_WP_blocks_0.all (zdq prog_1_method_7_code) = true := by decide +kernel
theorem d_WP_blocks_0 : decode prog_1_method_7_code 0 = .ok (.aload_n 0, 1) := zdt v_WP_blocks_0 0 (q := (0, .aload_n 0, 1)) rfl
theorem d_WP_blocks_1 : decode prog_1_method_7_code 1 = .ok (.getfield 57, 3) := zdt v_WP_blocks_0 1 (q := (1, .getfield 57, 3)) rfl
theorem d_WP_blocks_4 : decode prog_1_method_7_code 4 = .ok (.getfield 115, 3) := zdt v_WP_blocks_0 2 (q := (4, .getfield 115, 3)) rfl
theorem d_WP_blocks_7 : decode prog_1_method_7_code 7 = .ok (.ireturn, 1) := zdt v_WP_blocks_0 3 (q := (7, .ireturn, 1)) rfl
def u_WP_find_0 : List (Nat × Instr × Nat) := [(0, .iload_n 1, 1), (1, .ifCond .lt 9, 3), (4, .iload_n 1, 1), (5, .bipush 64, 2), (7, .if_icmp .lt 7, 3), (10, .iconst (-1), 1), (11, .goto 12, 3), (14, .aload_n 0, 1), (15, .getfield 57, 3), (18, .getfield 162, 3), (21, .iload_n 1, 1), (22, .iaload, 1), (23, .ireturn, 1)]
theorem v_WP_find_0 : u_WP_find_0.all (zdq prog_1_method_10_code) = true := by decide +kernel
theorem d_WP_find_0 : decode prog_1_method_10_code 0 = .ok (.iload_n 1, 1) := zdt v_WP_find_0 0 (q := (0, .iload_n 1, 1)) rfl
theorem d_WP_find_1 : decode prog_1_method_10_code 1 = .ok (.ifCond .lt 9, 3) := zdt v_WP_find_0 1 (q := (1, .ifCond .lt 9, 3)) rfl
theorem d_WP_find_4 : decode prog_1_method_10_code 4 = .ok (.iload_n 1, 1) := zdt v_WP_find_0 2 (q := (4, .iload_n 1, 1)) rfl
theorem d_WP_find_5 : decode prog_1_method_10_code 5 = .ok (.bipush 64, 2) := zdt v_WP_find_0 3 (q := (5, .bipush 64, 2)) rfl
theorem d_WP_find_7 : decode prog_1_method_10_code 7 = .ok (.if_icmp .lt 7, 3) := zdt v_WP_find_0 4 (q := (7, .if_icmp .lt 7, 3)) rfl
theorem d_WP_find_10 : decode prog_1_method_10_code 10 = .ok (.iconst (-1), 1) := zdt v_WP_find_0 5 (q := (10, .iconst (-1), 1)) rfl
theorem d_WP_find_11 : decode prog_1_method_10_code 11 = .ok (.goto 12, 3) := zdt v_WP_find_0 6 (q := (11, .goto 12, 3)) rfl
theorem d_WP_find_14 : decode prog_1_method_10_code 14 = .ok (.aload_n 0, 1) := zdt v_WP_find_0 7 (q := (14, .aload_n 0, 1)) rfl
theorem d_WP_find_15 : decode prog_1_method_10_code 15 = .ok (.getfield 57, 3) := zdt v_WP_find_0 8 (q := (15, .getfield 57, 3)) rfl
theorem d_WP_find_18 : decode prog_1_method_10_code 18 = .ok (.getfield 162, 3) := zdt v_WP_find_0 9 (q := (18, .getfield 162, 3)) rfl
theorem d_WP_find_21 : decode prog_1_method_10_code 21 = .ok (.iload_n 1, 1) := zdt v_WP_find_0 10 (q := (21, .iload_n 1, 1)) rfl
theorem d_WP_find_22 : decode prog_1_method_10_code 22 = .ok (.iaload, 1) := zdt v_WP_find_0 11 (q := (22, .iaload, 1)) rfl
theorem d_WP_find_23 : decode prog_1_method_10_code 23 = .ok (.ireturn, 1) := zdt v_WP_find_0 12 (q := (23, .ireturn, 1)) rfl
def u_WP_order_0 : List (Nat × Instr × Nat) := [(0, .iconst 0, 1), (1, .istore_n 1, 1), (2, .iload_n 1, 1), (3, .bipush 64, 2), (5, .if_icmp .ge 16, 3), (8, .aload_n 0, 1), (9, .invokevirtual 186, 3), (12, .ifCond .eq 9, 3), (15, .iinc 1 1, 3), (18, .goto (-16), 3), (21, .iload_n 1, 1), (22, .ireturn, 1)]
theorem v_WP_order_0 : u_WP_order_0.all (zdq prog_1_method_14_code) = true := by decide +kernel
theorem d_WP_order_0 : decode prog_1_method_14_code 0 = .ok (.iconst 0, 1) := zdt v_WP_order_0 0 (q := (0, .iconst 0, 1)) rfl
theorem d_WP_order_1 : decode prog_1_method_14_code 1 = .ok (.istore_n 1, 1) := zdt v_WP_order_0 1 (q := (1, .istore_n 1, 1)) rfl
theorem d_WP_order_2 : decode prog_1_method_14_code 2 = .ok (.iload_n 1, 1) := zdt v_WP_order_0 2 (q := (2, .iload_n 1, 1)) rfl
theorem d_WP_order_3 : decode prog_1_method_14_code 3 = .ok (.bipush 64, 2) := zdt v_WP_order_0 3 (q := (3, .bipush 64, 2)) rfl
theorem d_WP_order_5 : decode prog_1_method_14_code 5 = .ok (.if_icmp .ge 16, 3) := zdt v_WP_order_0 4 (q := (5, .if_icmp .ge 16, 3)) rfl
theorem d_WP_order_8 : decode prog_1_method_14_code 8 = .ok (.aload_n 0, 1) := zdt v_WP_order_0 5 (q := (8, .aload_n 0, 1)) rfl
theorem d_WP_order_9 : decode prog_1_method_14_code 9 = .ok (.invokevirtual 186, 3) := zdt v_WP_order_0 6 (q := (9, .invokevirtual 186, 3)) rfl
theorem d_WP_order_12 : decode prog_1_method_14_code 12 = .ok (.ifCond .eq 9, 3) := zdt v_WP_order_0 7 (q := (12, .ifCond .eq 9, 3)) rfl
theorem d_WP_order_15 : decode prog_1_method_14_code 15 = .ok (.iinc 1 1, 3) := zdt v_WP_order_0 8 (q := (15, .iinc 1 1, 3)) rfl
theorem d_WP_order_18 : decode prog_1_method_14_code 18 = .ok (.goto (-16), 3) := zdt v_WP_order_0 9 (q := (18, .goto (-16), 3)) rfl
theorem d_WP_order_21 : decode prog_1_method_14_code 21 = .ok (.iload_n 1, 1) := zdt v_WP_order_0 10 (q := (21, .iload_n 1, 1)) rfl
theorem d_WP_order_22 : decode prog_1_method_14_code 22 = .ok (.ireturn, 1) := zdt v_WP_order_0 11 (q := (22, .ireturn, 1)) rfl
def u_WP_takeLeast_0 : List (Nat × Instr × Nat) := [(0, .iconst 0, 1), (1, .istore_n 1, 1), (2, .iload_n 1, 1), (3, .aload_n 0, 1), (4, .getfield 57, 3), (7, .getfield 115, 3), (10, .if_icmp .ge 28, 3), (13, .aload_n 0, 1), (14, .iload_n 1, 1), (15, .invokevirtual 179, 3), (18, .istore_n 2, 1), (19, .iload_n 2, 1), (20, .iconst (-1), 1), (21, .if_icmp .eq 11, 3), (24, .aload_n 0, 1), (25, .iload_n 1, 1), (26, .iload_n 2, 1), (27, .invokevirtual 182, 3), (30, .iconst 1, 1), (31, .ireturn, 1), (32, .iinc 1 1, 3), (35, .goto (-33), 3), (38, .iconst 0, 1), (39, .ireturn, 1)]
theorem v_WP_takeLeast_0 : u_WP_takeLeast_0.all (zdq prog_1_method_27_code) = true := by decide +kernel
theorem d_WP_takeLeast_0 : decode prog_1_method_27_code 0 = .ok (.iconst 0, 1) := zdt v_WP_takeLeast_0 0 (q := (0, .iconst 0, 1)) rfl
theorem d_WP_takeLeast_1 : decode prog_1_method_27_code 1 = .ok (.istore_n 1, 1) := zdt v_WP_takeLeast_0 1 (q := (1, .istore_n 1, 1)) rfl
theorem d_WP_takeLeast_2 : decode prog_1_method_27_code 2 = .ok (.iload_n 1, 1) := zdt v_WP_takeLeast_0 2 (q := (2, .iload_n 1, 1)) rfl
theorem d_WP_takeLeast_3 : decode prog_1_method_27_code 3 = .ok (.aload_n 0, 1) := zdt v_WP_takeLeast_0 3 (q := (3, .aload_n 0, 1)) rfl
theorem d_WP_takeLeast_4 : decode prog_1_method_27_code 4 = .ok (.getfield 57, 3) := zdt v_WP_takeLeast_0 4 (q := (4, .getfield 57, 3)) rfl
theorem d_WP_takeLeast_7 : decode prog_1_method_27_code 7 = .ok (.getfield 115, 3) := zdt v_WP_takeLeast_0 5 (q := (7, .getfield 115, 3)) rfl
theorem d_WP_takeLeast_10 : decode prog_1_method_27_code 10 = .ok (.if_icmp .ge 28, 3) := zdt v_WP_takeLeast_0 6 (q := (10, .if_icmp .ge 28, 3)) rfl
theorem d_WP_takeLeast_13 : decode prog_1_method_27_code 13 = .ok (.aload_n 0, 1) := zdt v_WP_takeLeast_0 7 (q := (13, .aload_n 0, 1)) rfl
theorem d_WP_takeLeast_14 : decode prog_1_method_27_code 14 = .ok (.iload_n 1, 1) := zdt v_WP_takeLeast_0 8 (q := (14, .iload_n 1, 1)) rfl
theorem d_WP_takeLeast_15 : decode prog_1_method_27_code 15 = .ok (.invokevirtual 179, 3) := zdt v_WP_takeLeast_0 9 (q := (15, .invokevirtual 179, 3)) rfl
theorem d_WP_takeLeast_18 : decode prog_1_method_27_code 18 = .ok (.istore_n 2, 1) := zdt v_WP_takeLeast_0 10 (q := (18, .istore_n 2, 1)) rfl
theorem d_WP_takeLeast_19 : decode prog_1_method_27_code 19 = .ok (.iload_n 2, 1) := zdt v_WP_takeLeast_0 11 (q := (19, .iload_n 2, 1)) rfl
theorem d_WP_takeLeast_20 : decode prog_1_method_27_code 20 = .ok (.iconst (-1), 1) := zdt v_WP_takeLeast_0 12 (q := (20, .iconst (-1), 1)) rfl
theorem d_WP_takeLeast_21 : decode prog_1_method_27_code 21 = .ok (.if_icmp .eq 11, 3) := zdt v_WP_takeLeast_0 13 (q := (21, .if_icmp .eq 11, 3)) rfl
theorem d_WP_takeLeast_24 : decode prog_1_method_27_code 24 = .ok (.aload_n 0, 1) := zdt v_WP_takeLeast_0 14 (q := (24, .aload_n 0, 1)) rfl
theorem d_WP_takeLeast_25 : decode prog_1_method_27_code 25 = .ok (.iload_n 1, 1) := zdt v_WP_takeLeast_0 15 (q := (25, .iload_n 1, 1)) rfl
theorem d_WP_takeLeast_26 : decode prog_1_method_27_code 26 = .ok (.iload_n 2, 1) := zdt v_WP_takeLeast_0 16 (q := (26, .iload_n 2, 1)) rfl
theorem d_WP_takeLeast_27 : decode prog_1_method_27_code 27 = .ok (.invokevirtual 182, 3) := zdt v_WP_takeLeast_0 17 (q := (27, .invokevirtual 182, 3)) rfl
theorem d_WP_takeLeast_30 : decode prog_1_method_27_code 30 = .ok (.iconst 1, 1) := zdt v_WP_takeLeast_0 18 (q := (30, .iconst 1, 1)) rfl
theorem d_WP_takeLeast_31 : decode prog_1_method_27_code 31 = .ok (.ireturn, 1) := zdt v_WP_takeLeast_0 19 (q := (31, .ireturn, 1)) rfl
theorem d_WP_takeLeast_32 : decode prog_1_method_27_code 32 = .ok (.iinc 1 1, 3) := zdt v_WP_takeLeast_0 20 (q := (32, .iinc 1 1, 3)) rfl
theorem d_WP_takeLeast_35 : decode prog_1_method_27_code 35 = .ok (.goto (-33), 3) := zdt v_WP_takeLeast_0 21 (q := (35, .goto (-33), 3)) rfl
theorem d_WP_takeLeast_38 : decode prog_1_method_27_code 38 = .ok (.iconst 0, 1) := zdt v_WP_takeLeast_0 22 (q := (38, .iconst 0, 1)) rfl
theorem d_WP_takeLeast_39 : decode prog_1_method_27_code 39 = .ok (.ireturn, 1) := zdt v_WP_takeLeast_0 23 (q := (39, .ireturn, 1)) rfl
def u_WP_leastDirection_0 : List (Nat × Instr × Nat) := [(0, .aload_n 0, 1), (1, .getfield 27, 3), (4, .iload_n 1, 1), (5, .baload, 1), (6, .ifCond .eq 5, 3), (9, .iconst (-1), 1), (10, .ireturn, 1), (11, .aload_n 0, 1), (12, .iload_n 1, 1), (13, .invokevirtual 172, 3), (16, .iconst 0, 1), (17, .istore_n 2, 1), (18, .iload_n 2, 1), (19, .aload_n 0, 1), (20, .getfield 42, 3), (23, .if_icmp .ge 27, 3), (26, .aload_n 0, 1), (27, .getfield 12, 3), (30, .aload_n 0, 1), (31, .getfield 18, 3), (34, .iload_n 2, 1), (35, .aaload, 1), (36, .invokevirtual 175, 3), (39, .ifCond .eq 5, 3), (42, .iload_n 2, 1), (43, .ireturn, 1), (44, .iinc 2 1, 3), (47, .goto (-29), 3), (50, .iconst (-1), 1), (51, .ireturn, 1)]
theorem v_WP_leastDirection_0 : u_WP_leastDirection_0.all (zdq prog_1_method_28_code) = true := by decide +kernel
theorem d_WP_leastDirection_0 : decode prog_1_method_28_code 0 = .ok (.aload_n 0, 1) := zdt v_WP_leastDirection_0 0 (q := (0, .aload_n 0, 1)) rfl
theorem d_WP_leastDirection_1 : decode prog_1_method_28_code 1 = .ok (.getfield 27, 3) := zdt v_WP_leastDirection_0 1 (q := (1, .getfield 27, 3)) rfl
theorem d_WP_leastDirection_4 : decode prog_1_method_28_code 4 = .ok (.iload_n 1, 1) := zdt v_WP_leastDirection_0 2 (q := (4, .iload_n 1, 1)) rfl
theorem d_WP_leastDirection_5 : decode prog_1_method_28_code 5 = .ok (.baload, 1) := zdt v_WP_leastDirection_0 3 (q := (5, .baload, 1)) rfl
theorem d_WP_leastDirection_6 : decode prog_1_method_28_code 6 = .ok (.ifCond .eq 5, 3) := zdt v_WP_leastDirection_0 4 (q := (6, .ifCond .eq 5, 3)) rfl
theorem d_WP_leastDirection_9 : decode prog_1_method_28_code 9 = .ok (.iconst (-1), 1) := zdt v_WP_leastDirection_0 5 (q := (9, .iconst (-1), 1)) rfl
theorem d_WP_leastDirection_10 : decode prog_1_method_28_code 10 = .ok (.ireturn, 1) := zdt v_WP_leastDirection_0 6 (q := (10, .ireturn, 1)) rfl
theorem d_WP_leastDirection_11 : decode prog_1_method_28_code 11 = .ok (.aload_n 0, 1) := zdt v_WP_leastDirection_0 7 (q := (11, .aload_n 0, 1)) rfl
theorem d_WP_leastDirection_12 : decode prog_1_method_28_code 12 = .ok (.iload_n 1, 1) := zdt v_WP_leastDirection_0 8 (q := (12, .iload_n 1, 1)) rfl
theorem d_WP_leastDirection_13 : decode prog_1_method_28_code 13 = .ok (.invokevirtual 172, 3) := zdt v_WP_leastDirection_0 9 (q := (13, .invokevirtual 172, 3)) rfl
theorem d_WP_leastDirection_16 : decode prog_1_method_28_code 16 = .ok (.iconst 0, 1) := zdt v_WP_leastDirection_0 10 (q := (16, .iconst 0, 1)) rfl
theorem d_WP_leastDirection_17 : decode prog_1_method_28_code 17 = .ok (.istore_n 2, 1) := zdt v_WP_leastDirection_0 11 (q := (17, .istore_n 2, 1)) rfl
theorem d_WP_leastDirection_18 : decode prog_1_method_28_code 18 = .ok (.iload_n 2, 1) := zdt v_WP_leastDirection_0 12 (q := (18, .iload_n 2, 1)) rfl
theorem d_WP_leastDirection_19 : decode prog_1_method_28_code 19 = .ok (.aload_n 0, 1) := zdt v_WP_leastDirection_0 13 (q := (19, .aload_n 0, 1)) rfl
theorem d_WP_leastDirection_20 : decode prog_1_method_28_code 20 = .ok (.getfield 42, 3) := zdt v_WP_leastDirection_0 14 (q := (20, .getfield 42, 3)) rfl
theorem d_WP_leastDirection_23 : decode prog_1_method_28_code 23 = .ok (.if_icmp .ge 27, 3) := zdt v_WP_leastDirection_0 15 (q := (23, .if_icmp .ge 27, 3)) rfl
theorem d_WP_leastDirection_26 : decode prog_1_method_28_code 26 = .ok (.aload_n 0, 1) := zdt v_WP_leastDirection_0 16 (q := (26, .aload_n 0, 1)) rfl
theorem d_WP_leastDirection_27 : decode prog_1_method_28_code 27 = .ok (.getfield 12, 3) := zdt v_WP_leastDirection_0 17 (q := (27, .getfield 12, 3)) rfl
theorem d_WP_leastDirection_30 : decode prog_1_method_28_code 30 = .ok (.aload_n 0, 1) := zdt v_WP_leastDirection_0 18 (q := (30, .aload_n 0, 1)) rfl
theorem d_WP_leastDirection_31 : decode prog_1_method_28_code 31 = .ok (.getfield 18, 3) := zdt v_WP_leastDirection_0 19 (q := (31, .getfield 18, 3)) rfl
theorem d_WP_leastDirection_34 : decode prog_1_method_28_code 34 = .ok (.iload_n 2, 1) := zdt v_WP_leastDirection_0 20 (q := (34, .iload_n 2, 1)) rfl
theorem d_WP_leastDirection_35 : decode prog_1_method_28_code 35 = .ok (.aaload, 1) := zdt v_WP_leastDirection_0 21 (q := (35, .aaload, 1)) rfl
theorem d_WP_leastDirection_36 : decode prog_1_method_28_code 36 = .ok (.invokevirtual 175, 3) := zdt v_WP_leastDirection_0 22 (q := (36, .invokevirtual 175, 3)) rfl
theorem d_WP_leastDirection_39 : decode prog_1_method_28_code 39 = .ok (.ifCond .eq 5, 3) := zdt v_WP_leastDirection_0 23 (q := (39, .ifCond .eq 5, 3)) rfl
theorem d_WP_leastDirection_42 : decode prog_1_method_28_code 42 = .ok (.iload_n 2, 1) := zdt v_WP_leastDirection_0 24 (q := (42, .iload_n 2, 1)) rfl
theorem d_WP_leastDirection_43 : decode prog_1_method_28_code 43 = .ok (.ireturn, 1) := zdt v_WP_leastDirection_0 25 (q := (43, .ireturn, 1)) rfl
theorem d_WP_leastDirection_44 : decode prog_1_method_28_code 44 = .ok (.iinc 2 1, 3) := zdt v_WP_leastDirection_0 26 (q := (44, .iinc 2 1, 3)) rfl
theorem d_WP_leastDirection_47 : decode prog_1_method_28_code 47 = .ok (.goto (-29), 3) := zdt v_WP_leastDirection_0 27 (q := (47, .goto (-29), 3)) rfl
theorem d_WP_leastDirection_50 : decode prog_1_method_28_code 50 = .ok (.iconst (-1), 1) := zdt v_WP_leastDirection_0 28 (q := (50, .iconst (-1), 1)) rfl
theorem d_WP_leastDirection_51 : decode prog_1_method_28_code 51 = .ok (.ireturn, 1) := zdt v_WP_leastDirection_0 29 (q := (51, .ireturn, 1)) rfl
def u_WP_lookAtHold_0 : List (Nat × Instr × Nat) := [(0, .aload_n 0, 1), (1, .getfield 57, 3), (4, .getfield 122, 3), (7, .iload_n 1, 1), (8, .iaload, 1), (9, .sipush 1344, 3), (12, .ior, 1), (13, .istore_n 2, 1), (14, .aload_n 0, 1), (15, .getfield 12, 3), (18, .invokevirtual 217, 3), (21, .iconst 0, 1), (22, .istore_n 3, 1), (23, .iload_n 3, 1), (24, .bipush 12, 2), (26, .if_icmp .ge 59, 3), (29, .aload_n 0, 1), (30, .getfield 57, 3), (33, .getfield 125, 3), (36, .iload_n 1, 1), (37, .iaload, 1), (38, .iload_n 3, 1), (39, .invokestatic 101, 3), (42, .ifCond .eq 37, 3), (45, .aload_n 0, 1), (46, .iload_n 1, 1), (47, .iload_n 3, 1), (48, .invokevirtual 220, 3), (51, .ifCond .ne 28, 3), (54, .aload_n 0, 1), (55, .getfield 12, 3), (58, .iload_n 3, 1), (59, .aload_n 0, 1), (60, .getfield 57, 3), (63, .getfield 223, 3), (66, .iload_n 3, 1), (67, .aaload, 1), (68, .getfield 227, 3), (71, .iload_n 2, 1), (72, .iload_n 3, 1)]
theorem v_WP_lookAtHold_0 : u_WP_lookAtHold_0.all (zdq prog_1_method_29_code) = true := by decide +kernel
theorem d_WP_lookAtHold_0 : decode prog_1_method_29_code 0 = .ok (.aload_n 0, 1) := zdt v_WP_lookAtHold_0 0 (q := (0, .aload_n 0, 1)) rfl
theorem d_WP_lookAtHold_1 : decode prog_1_method_29_code 1 = .ok (.getfield 57, 3) := zdt v_WP_lookAtHold_0 1 (q := (1, .getfield 57, 3)) rfl
theorem d_WP_lookAtHold_4 : decode prog_1_method_29_code 4 = .ok (.getfield 122, 3) := zdt v_WP_lookAtHold_0 2 (q := (4, .getfield 122, 3)) rfl
theorem d_WP_lookAtHold_7 : decode prog_1_method_29_code 7 = .ok (.iload_n 1, 1) := zdt v_WP_lookAtHold_0 3 (q := (7, .iload_n 1, 1)) rfl
theorem d_WP_lookAtHold_8 : decode prog_1_method_29_code 8 = .ok (.iaload, 1) := zdt v_WP_lookAtHold_0 4 (q := (8, .iaload, 1)) rfl
theorem d_WP_lookAtHold_9 : decode prog_1_method_29_code 9 = .ok (.sipush 1344, 3) := zdt v_WP_lookAtHold_0 5 (q := (9, .sipush 1344, 3)) rfl
theorem d_WP_lookAtHold_12 : decode prog_1_method_29_code 12 = .ok (.ior, 1) := zdt v_WP_lookAtHold_0 6 (q := (12, .ior, 1)) rfl
theorem d_WP_lookAtHold_13 : decode prog_1_method_29_code 13 = .ok (.istore_n 2, 1) := zdt v_WP_lookAtHold_0 7 (q := (13, .istore_n 2, 1)) rfl
theorem d_WP_lookAtHold_14 : decode prog_1_method_29_code 14 = .ok (.aload_n 0, 1) := zdt v_WP_lookAtHold_0 8 (q := (14, .aload_n 0, 1)) rfl
theorem d_WP_lookAtHold_15 : decode prog_1_method_29_code 15 = .ok (.getfield 12, 3) := zdt v_WP_lookAtHold_0 9 (q := (15, .getfield 12, 3)) rfl
theorem d_WP_lookAtHold_18 : decode prog_1_method_29_code 18 = .ok (.invokevirtual 217, 3) := zdt v_WP_lookAtHold_0 10 (q := (18, .invokevirtual 217, 3)) rfl
theorem d_WP_lookAtHold_21 : decode prog_1_method_29_code 21 = .ok (.iconst 0, 1) := zdt v_WP_lookAtHold_0 11 (q := (21, .iconst 0, 1)) rfl
theorem d_WP_lookAtHold_22 : decode prog_1_method_29_code 22 = .ok (.istore_n 3, 1) := zdt v_WP_lookAtHold_0 12 (q := (22, .istore_n 3, 1)) rfl
theorem d_WP_lookAtHold_23 : decode prog_1_method_29_code 23 = .ok (.iload_n 3, 1) := zdt v_WP_lookAtHold_0 13 (q := (23, .iload_n 3, 1)) rfl
theorem d_WP_lookAtHold_24 : decode prog_1_method_29_code 24 = .ok (.bipush 12, 2) := zdt v_WP_lookAtHold_0 14 (q := (24, .bipush 12, 2)) rfl
theorem d_WP_lookAtHold_26 : decode prog_1_method_29_code 26 = .ok (.if_icmp .ge 59, 3) := zdt v_WP_lookAtHold_0 15 (q := (26, .if_icmp .ge 59, 3)) rfl
theorem d_WP_lookAtHold_29 : decode prog_1_method_29_code 29 = .ok (.aload_n 0, 1) := zdt v_WP_lookAtHold_0 16 (q := (29, .aload_n 0, 1)) rfl
theorem d_WP_lookAtHold_30 : decode prog_1_method_29_code 30 = .ok (.getfield 57, 3) := zdt v_WP_lookAtHold_0 17 (q := (30, .getfield 57, 3)) rfl
theorem d_WP_lookAtHold_33 : decode prog_1_method_29_code 33 = .ok (.getfield 125, 3) := zdt v_WP_lookAtHold_0 18 (q := (33, .getfield 125, 3)) rfl
theorem d_WP_lookAtHold_36 : decode prog_1_method_29_code 36 = .ok (.iload_n 1, 1) := zdt v_WP_lookAtHold_0 19 (q := (36, .iload_n 1, 1)) rfl
theorem d_WP_lookAtHold_37 : decode prog_1_method_29_code 37 = .ok (.iaload, 1) := zdt v_WP_lookAtHold_0 20 (q := (37, .iaload, 1)) rfl
theorem d_WP_lookAtHold_38 : decode prog_1_method_29_code 38 = .ok (.iload_n 3, 1) := zdt v_WP_lookAtHold_0 21 (q := (38, .iload_n 3, 1)) rfl
theorem d_WP_lookAtHold_39 : decode prog_1_method_29_code 39 = .ok (.invokestatic 101, 3) := zdt v_WP_lookAtHold_0 22 (q := (39, .invokestatic 101, 3)) rfl
theorem d_WP_lookAtHold_42 : decode prog_1_method_29_code 42 = .ok (.ifCond .eq 37, 3) := zdt v_WP_lookAtHold_0 23 (q := (42, .ifCond .eq 37, 3)) rfl
theorem d_WP_lookAtHold_45 : decode prog_1_method_29_code 45 = .ok (.aload_n 0, 1) := zdt v_WP_lookAtHold_0 24 (q := (45, .aload_n 0, 1)) rfl
theorem d_WP_lookAtHold_46 : decode prog_1_method_29_code 46 = .ok (.iload_n 1, 1) := zdt v_WP_lookAtHold_0 25 (q := (46, .iload_n 1, 1)) rfl
theorem d_WP_lookAtHold_47 : decode prog_1_method_29_code 47 = .ok (.iload_n 3, 1) := zdt v_WP_lookAtHold_0 26 (q := (47, .iload_n 3, 1)) rfl
theorem d_WP_lookAtHold_48 : decode prog_1_method_29_code 48 = .ok (.invokevirtual 220, 3) := zdt v_WP_lookAtHold_0 27 (q := (48, .invokevirtual 220, 3)) rfl
theorem d_WP_lookAtHold_51 : decode prog_1_method_29_code 51 = .ok (.ifCond .ne 28, 3) := zdt v_WP_lookAtHold_0 28 (q := (51, .ifCond .ne 28, 3)) rfl
theorem d_WP_lookAtHold_54 : decode prog_1_method_29_code 54 = .ok (.aload_n 0, 1) := zdt v_WP_lookAtHold_0 29 (q := (54, .aload_n 0, 1)) rfl
theorem d_WP_lookAtHold_55 : decode prog_1_method_29_code 55 = .ok (.getfield 12, 3) := zdt v_WP_lookAtHold_0 30 (q := (55, .getfield 12, 3)) rfl
theorem d_WP_lookAtHold_58 : decode prog_1_method_29_code 58 = .ok (.iload_n 3, 1) := zdt v_WP_lookAtHold_0 31 (q := (58, .iload_n 3, 1)) rfl
theorem d_WP_lookAtHold_59 : decode prog_1_method_29_code 59 = .ok (.aload_n 0, 1) := zdt v_WP_lookAtHold_0 32 (q := (59, .aload_n 0, 1)) rfl
theorem d_WP_lookAtHold_60 : decode prog_1_method_29_code 60 = .ok (.getfield 57, 3) := zdt v_WP_lookAtHold_0 33 (q := (60, .getfield 57, 3)) rfl
theorem d_WP_lookAtHold_63 : decode prog_1_method_29_code 63 = .ok (.getfield 223, 3) := zdt v_WP_lookAtHold_0 34 (q := (63, .getfield 223, 3)) rfl
theorem d_WP_lookAtHold_66 : decode prog_1_method_29_code 66 = .ok (.iload_n 3, 1) := zdt v_WP_lookAtHold_0 35 (q := (66, .iload_n 3, 1)) rfl
theorem d_WP_lookAtHold_67 : decode prog_1_method_29_code 67 = .ok (.aaload, 1) := zdt v_WP_lookAtHold_0 36 (q := (67, .aaload, 1)) rfl
theorem d_WP_lookAtHold_68 : decode prog_1_method_29_code 68 = .ok (.getfield 227, 3) := zdt v_WP_lookAtHold_0 37 (q := (68, .getfield 227, 3)) rfl
theorem d_WP_lookAtHold_71 : decode prog_1_method_29_code 71 = .ok (.iload_n 2, 1) := zdt v_WP_lookAtHold_0 38 (q := (71, .iload_n 2, 1)) rfl
theorem d_WP_lookAtHold_72 : decode prog_1_method_29_code 72 = .ok (.iload_n 3, 1) := zdt v_WP_lookAtHold_0 39 (q := (72, .iload_n 3, 1)) rfl
def u_WP_lookAtHold_1 : List (Nat × Instr × Nat) := [(73, .invokestatic 101, 3), (76, .invokevirtual 232, 3), (79, .iinc 3 1, 3), (82, .goto (-59), 3), (85, .return_, 1)]
theorem v_WP_lookAtHold_1 : u_WP_lookAtHold_1.all (zdq prog_1_method_29_code) = true := by decide +kernel
theorem d_WP_lookAtHold_73 : decode prog_1_method_29_code 73 = .ok (.invokestatic 101, 3) := zdt v_WP_lookAtHold_1 0 (q := (73, .invokestatic 101, 3)) rfl
theorem d_WP_lookAtHold_76 : decode prog_1_method_29_code 76 = .ok (.invokevirtual 232, 3) := zdt v_WP_lookAtHold_1 1 (q := (76, .invokevirtual 232, 3)) rfl
theorem d_WP_lookAtHold_79 : decode prog_1_method_29_code 79 = .ok (.iinc 3 1, 3) := zdt v_WP_lookAtHold_1 2 (q := (79, .iinc 3 1, 3)) rfl
theorem d_WP_lookAtHold_82 : decode prog_1_method_29_code 82 = .ok (.goto (-59), 3) := zdt v_WP_lookAtHold_1 3 (q := (82, .goto (-59), 3)) rfl
theorem d_WP_lookAtHold_85 : decode prog_1_method_29_code 85 = .ok (.return_, 1) := zdt v_WP_lookAtHold_1 4 (q := (85, .return_, 1)) rfl
def u_WP_isFree_0 : List (Nat × Instr × Nat) := [(0, .iload_n 2, 1), (1, .bipush 6, 2), (3, .if_icmp .lt 12, 3), (6, .aload_n 0, 1), (7, .getfield 45, 3), (10, .iload_n 2, 1), (11, .invokestatic 101, 3), (14, .ireturn, 1), (15, .aload_n 0, 1), (16, .getfield 57, 3), (19, .iload_n 1, 1), (20, .iload_n 2, 1), (21, .invokevirtual 167, 3), (24, .istore_n 3, 1), (25, .iload_n 3, 1), (26, .iconst (-1), 1), (27, .if_icmp .eq 16, 3), (30, .aload_n 0, 1), (31, .getfield 27, 3), (34, .iload_n 3, 1), (35, .baload, 1), (36, .ifCond .eq 7, 3), (39, .iconst 1, 1), (40, .goto 4, 3), (43, .iconst 0, 1), (44, .ireturn, 1)]
theorem v_WP_isFree_0 : u_WP_isFree_0.all (zdq prog_1_method_30_code) = true := by decide +kernel
theorem d_WP_isFree_0 : decode prog_1_method_30_code 0 = .ok (.iload_n 2, 1) := zdt v_WP_isFree_0 0 (q := (0, .iload_n 2, 1)) rfl
theorem d_WP_isFree_1 : decode prog_1_method_30_code 1 = .ok (.bipush 6, 2) := zdt v_WP_isFree_0 1 (q := (1, .bipush 6, 2)) rfl
theorem d_WP_isFree_3 : decode prog_1_method_30_code 3 = .ok (.if_icmp .lt 12, 3) := zdt v_WP_isFree_0 2 (q := (3, .if_icmp .lt 12, 3)) rfl
theorem d_WP_isFree_6 : decode prog_1_method_30_code 6 = .ok (.aload_n 0, 1) := zdt v_WP_isFree_0 3 (q := (6, .aload_n 0, 1)) rfl
theorem d_WP_isFree_7 : decode prog_1_method_30_code 7 = .ok (.getfield 45, 3) := zdt v_WP_isFree_0 4 (q := (7, .getfield 45, 3)) rfl
theorem d_WP_isFree_10 : decode prog_1_method_30_code 10 = .ok (.iload_n 2, 1) := zdt v_WP_isFree_0 5 (q := (10, .iload_n 2, 1)) rfl
theorem d_WP_isFree_11 : decode prog_1_method_30_code 11 = .ok (.invokestatic 101, 3) := zdt v_WP_isFree_0 6 (q := (11, .invokestatic 101, 3)) rfl
theorem d_WP_isFree_14 : decode prog_1_method_30_code 14 = .ok (.ireturn, 1) := zdt v_WP_isFree_0 7 (q := (14, .ireturn, 1)) rfl
theorem d_WP_isFree_15 : decode prog_1_method_30_code 15 = .ok (.aload_n 0, 1) := zdt v_WP_isFree_0 8 (q := (15, .aload_n 0, 1)) rfl
theorem d_WP_isFree_16 : decode prog_1_method_30_code 16 = .ok (.getfield 57, 3) := zdt v_WP_isFree_0 9 (q := (16, .getfield 57, 3)) rfl
theorem d_WP_isFree_19 : decode prog_1_method_30_code 19 = .ok (.iload_n 1, 1) := zdt v_WP_isFree_0 10 (q := (19, .iload_n 1, 1)) rfl
theorem d_WP_isFree_20 : decode prog_1_method_30_code 20 = .ok (.iload_n 2, 1) := zdt v_WP_isFree_0 11 (q := (20, .iload_n 2, 1)) rfl
theorem d_WP_isFree_21 : decode prog_1_method_30_code 21 = .ok (.invokevirtual 167, 3) := zdt v_WP_isFree_0 12 (q := (21, .invokevirtual 167, 3)) rfl
theorem d_WP_isFree_24 : decode prog_1_method_30_code 24 = .ok (.istore_n 3, 1) := zdt v_WP_isFree_0 13 (q := (24, .istore_n 3, 1)) rfl
theorem d_WP_isFree_25 : decode prog_1_method_30_code 25 = .ok (.iload_n 3, 1) := zdt v_WP_isFree_0 14 (q := (25, .iload_n 3, 1)) rfl
theorem d_WP_isFree_26 : decode prog_1_method_30_code 26 = .ok (.iconst (-1), 1) := zdt v_WP_isFree_0 15 (q := (26, .iconst (-1), 1)) rfl
theorem d_WP_isFree_27 : decode prog_1_method_30_code 27 = .ok (.if_icmp .eq 16, 3) := zdt v_WP_isFree_0 16 (q := (27, .if_icmp .eq 16, 3)) rfl
theorem d_WP_isFree_30 : decode prog_1_method_30_code 30 = .ok (.aload_n 0, 1) := zdt v_WP_isFree_0 17 (q := (30, .aload_n 0, 1)) rfl
theorem d_WP_isFree_31 : decode prog_1_method_30_code 31 = .ok (.getfield 27, 3) := zdt v_WP_isFree_0 18 (q := (31, .getfield 27, 3)) rfl
theorem d_WP_isFree_34 : decode prog_1_method_30_code 34 = .ok (.iload_n 3, 1) := zdt v_WP_isFree_0 19 (q := (34, .iload_n 3, 1)) rfl
theorem d_WP_isFree_35 : decode prog_1_method_30_code 35 = .ok (.baload, 1) := zdt v_WP_isFree_0 20 (q := (35, .baload, 1)) rfl
theorem d_WP_isFree_36 : decode prog_1_method_30_code 36 = .ok (.ifCond .eq 7, 3) := zdt v_WP_isFree_0 21 (q := (36, .ifCond .eq 7, 3)) rfl
theorem d_WP_isFree_39 : decode prog_1_method_30_code 39 = .ok (.iconst 1, 1) := zdt v_WP_isFree_0 22 (q := (39, .iconst 1, 1)) rfl
theorem d_WP_isFree_40 : decode prog_1_method_30_code 40 = .ok (.goto 4, 3) := zdt v_WP_isFree_0 23 (q := (40, .goto 4, 3)) rfl
theorem d_WP_isFree_43 : decode prog_1_method_30_code 43 = .ok (.iconst 0, 1) := zdt v_WP_isFree_0 24 (q := (43, .iconst 0, 1)) rfl
theorem d_WP_isFree_44 : decode prog_1_method_30_code 44 = .ok (.ireturn, 1) := zdt v_WP_isFree_0 25 (q := (44, .ireturn, 1)) rfl
def u_WP_putAway_0 : List (Nat × Instr × Nat) := [(0, .aload_n 0, 1), (1, .getfield 38, 3), (4, .bipush 64, 2), (6, .if_icmp .ge 40, 3), (9, .aload_n 0, 1), (10, .getfield 27, 3), (13, .iload_n 1, 1), (14, .iconst 1, 1), (15, .bastore, 1), (16, .aload_n 0, 1), (17, .getfield 31, 3), (20, .aload_n 0, 1), (21, .getfield 38, 3), (24, .iload_n 1, 1), (25, .iastore, 1), (26, .aload_n 0, 1), (27, .getfield 35, 3), (30, .aload_n 0, 1), (31, .getfield 38, 3), (34, .iload_n 2, 1), (35, .iastore, 1), (36, .aload_n 0, 1), (37, .dup, 1), (38, .getfield 38, 3), (41, .iconst 1, 1), (42, .iadd, 1), (43, .putfield 38, 3), (46, .return_, 1)]
theorem v_WP_putAway_0 : u_WP_putAway_0.all (zdq prog_1_method_26_code) = true := by decide +kernel
theorem d_WP_putAway_0 : decode prog_1_method_26_code 0 = .ok (.aload_n 0, 1) := zdt v_WP_putAway_0 0 (q := (0, .aload_n 0, 1)) rfl
theorem d_WP_putAway_1 : decode prog_1_method_26_code 1 = .ok (.getfield 38, 3) := zdt v_WP_putAway_0 1 (q := (1, .getfield 38, 3)) rfl
theorem d_WP_putAway_4 : decode prog_1_method_26_code 4 = .ok (.bipush 64, 2) := zdt v_WP_putAway_0 2 (q := (4, .bipush 64, 2)) rfl
theorem d_WP_putAway_6 : decode prog_1_method_26_code 6 = .ok (.if_icmp .ge 40, 3) := zdt v_WP_putAway_0 3 (q := (6, .if_icmp .ge 40, 3)) rfl
theorem d_WP_putAway_9 : decode prog_1_method_26_code 9 = .ok (.aload_n 0, 1) := zdt v_WP_putAway_0 4 (q := (9, .aload_n 0, 1)) rfl
theorem d_WP_putAway_10 : decode prog_1_method_26_code 10 = .ok (.getfield 27, 3) := zdt v_WP_putAway_0 5 (q := (10, .getfield 27, 3)) rfl
theorem d_WP_putAway_13 : decode prog_1_method_26_code 13 = .ok (.iload_n 1, 1) := zdt v_WP_putAway_0 6 (q := (13, .iload_n 1, 1)) rfl
theorem d_WP_putAway_14 : decode prog_1_method_26_code 14 = .ok (.iconst 1, 1) := zdt v_WP_putAway_0 7 (q := (14, .iconst 1, 1)) rfl
theorem d_WP_putAway_15 : decode prog_1_method_26_code 15 = .ok (.bastore, 1) := zdt v_WP_putAway_0 8 (q := (15, .bastore, 1)) rfl
theorem d_WP_putAway_16 : decode prog_1_method_26_code 16 = .ok (.aload_n 0, 1) := zdt v_WP_putAway_0 9 (q := (16, .aload_n 0, 1)) rfl
theorem d_WP_putAway_17 : decode prog_1_method_26_code 17 = .ok (.getfield 31, 3) := zdt v_WP_putAway_0 10 (q := (17, .getfield 31, 3)) rfl
theorem d_WP_putAway_20 : decode prog_1_method_26_code 20 = .ok (.aload_n 0, 1) := zdt v_WP_putAway_0 11 (q := (20, .aload_n 0, 1)) rfl
theorem d_WP_putAway_21 : decode prog_1_method_26_code 21 = .ok (.getfield 38, 3) := zdt v_WP_putAway_0 12 (q := (21, .getfield 38, 3)) rfl
theorem d_WP_putAway_24 : decode prog_1_method_26_code 24 = .ok (.iload_n 1, 1) := zdt v_WP_putAway_0 13 (q := (24, .iload_n 1, 1)) rfl
theorem d_WP_putAway_25 : decode prog_1_method_26_code 25 = .ok (.iastore, 1) := zdt v_WP_putAway_0 14 (q := (25, .iastore, 1)) rfl
theorem d_WP_putAway_26 : decode prog_1_method_26_code 26 = .ok (.aload_n 0, 1) := zdt v_WP_putAway_0 15 (q := (26, .aload_n 0, 1)) rfl
theorem d_WP_putAway_27 : decode prog_1_method_26_code 27 = .ok (.getfield 35, 3) := zdt v_WP_putAway_0 16 (q := (27, .getfield 35, 3)) rfl
theorem d_WP_putAway_30 : decode prog_1_method_26_code 30 = .ok (.aload_n 0, 1) := zdt v_WP_putAway_0 17 (q := (30, .aload_n 0, 1)) rfl
theorem d_WP_putAway_31 : decode prog_1_method_26_code 31 = .ok (.getfield 38, 3) := zdt v_WP_putAway_0 18 (q := (31, .getfield 38, 3)) rfl
theorem d_WP_putAway_34 : decode prog_1_method_26_code 34 = .ok (.iload_n 2, 1) := zdt v_WP_putAway_0 19 (q := (34, .iload_n 2, 1)) rfl
theorem d_WP_putAway_35 : decode prog_1_method_26_code 35 = .ok (.iastore, 1) := zdt v_WP_putAway_0 20 (q := (35, .iastore, 1)) rfl
theorem d_WP_putAway_36 : decode prog_1_method_26_code 36 = .ok (.aload_n 0, 1) := zdt v_WP_putAway_0 21 (q := (36, .aload_n 0, 1)) rfl
theorem d_WP_putAway_37 : decode prog_1_method_26_code 37 = .ok (.dup, 1) := zdt v_WP_putAway_0 22 (q := (37, .dup, 1)) rfl
theorem d_WP_putAway_38 : decode prog_1_method_26_code 38 = .ok (.getfield 38, 3) := zdt v_WP_putAway_0 23 (q := (38, .getfield 38, 3)) rfl
theorem d_WP_putAway_41 : decode prog_1_method_26_code 41 = .ok (.iconst 1, 1) := zdt v_WP_putAway_0 24 (q := (41, .iconst 1, 1)) rfl
theorem d_WP_putAway_42 : decode prog_1_method_26_code 42 = .ok (.iadd, 1) := zdt v_WP_putAway_0 25 (q := (42, .iadd, 1)) rfl
theorem d_WP_putAway_43 : decode prog_1_method_26_code 43 = .ok (.putfield 38, 3) := zdt v_WP_putAway_0 26 (q := (43, .putfield 38, 3)) rfl
theorem d_WP_putAway_46 : decode prog_1_method_26_code 46 = .ok (.return_, 1) := zdt v_WP_putAway_0 27 (q := (46, .return_, 1)) rfl
def u_WP_back_0 : List (Nat × Instr × Nat) := [(0, .aload_n 0, 1), (1, .getfield 38, 3), (4, .istore_n 1, 1), (5, .aload_n 0, 1), (6, .invokevirtual 86, 3), (9, .iload_n 1, 1), (10, .ireturn, 1)]
theorem v_WP_back_0 : u_WP_back_0.all (zdq prog_1_method_16_code) = true := by decide +kernel
theorem d_WP_back_0 : decode prog_1_method_16_code 0 = .ok (.aload_n 0, 1) := zdt v_WP_back_0 0 (q := (0, .aload_n 0, 1)) rfl
theorem d_WP_back_1 : decode prog_1_method_16_code 1 = .ok (.getfield 38, 3) := zdt v_WP_back_0 1 (q := (1, .getfield 38, 3)) rfl
theorem d_WP_back_4 : decode prog_1_method_16_code 4 = .ok (.istore_n 1, 1) := zdt v_WP_back_0 2 (q := (4, .istore_n 1, 1)) rfl
theorem d_WP_back_5 : decode prog_1_method_16_code 5 = .ok (.aload_n 0, 1) := zdt v_WP_back_0 3 (q := (5, .aload_n 0, 1)) rfl
theorem d_WP_back_6 : decode prog_1_method_16_code 6 = .ok (.invokevirtual 86, 3) := zdt v_WP_back_0 4 (q := (6, .invokevirtual 86, 3)) rfl
theorem d_WP_back_9 : decode prog_1_method_16_code 9 = .ok (.iload_n 1, 1) := zdt v_WP_back_0 5 (q := (9, .iload_n 1, 1)) rfl
theorem d_WP_back_10 : decode prog_1_method_16_code 10 = .ok (.ireturn, 1) := zdt v_WP_back_0 6 (q := (10, .ireturn, 1)) rfl
def u_Law_cell_0 : List (Nat × Instr × Nat) := [(0, .iload_n 1, 1), (1, .aload_n 0, 1), (2, .arraylength, 1), (3, .if_icmp .ge 9, 3), (6, .aload_n 0, 1), (7, .iload_n 1, 1), (8, .iaload, 1), (9, .goto 4, 3), (12, .iconst 0, 1), (13, .ireturn, 1)]
theorem v_Law_cell_0 : u_Law_cell_0.all (zdq method_2_code) = true := by decide +kernel
theorem d_Law_cell_0 : decode method_2_code 0 = .ok (.iload_n 1, 1) := zdt v_Law_cell_0 0 (q := (0, .iload_n 1, 1)) rfl
theorem d_Law_cell_1 : decode method_2_code 1 = .ok (.aload_n 0, 1) := zdt v_Law_cell_0 1 (q := (1, .aload_n 0, 1)) rfl
theorem d_Law_cell_2 : decode method_2_code 2 = .ok (.arraylength, 1) := zdt v_Law_cell_0 2 (q := (2, .arraylength, 1)) rfl
theorem d_Law_cell_3 : decode method_2_code 3 = .ok (.if_icmp .ge 9, 3) := zdt v_Law_cell_0 3 (q := (3, .if_icmp .ge 9, 3)) rfl
theorem d_Law_cell_6 : decode method_2_code 6 = .ok (.aload_n 0, 1) := zdt v_Law_cell_0 4 (q := (6, .aload_n 0, 1)) rfl
theorem d_Law_cell_7 : decode method_2_code 7 = .ok (.iload_n 1, 1) := zdt v_Law_cell_0 5 (q := (7, .iload_n 1, 1)) rfl
theorem d_Law_cell_8 : decode method_2_code 8 = .ok (.iaload, 1) := zdt v_Law_cell_0 6 (q := (8, .iaload, 1)) rfl
theorem d_Law_cell_9 : decode method_2_code 9 = .ok (.goto 4, 3) := zdt v_Law_cell_0 7 (q := (9, .goto 4, 3)) rfl
theorem d_Law_cell_12 : decode method_2_code 12 = .ok (.iconst 0, 1) := zdt v_Law_cell_0 8 (q := (12, .iconst 0, 1)) rfl
theorem d_Law_cell_13 : decode method_2_code 13 = .ok (.ireturn, 1) := zdt v_Law_cell_0 9 (q := (13, .ireturn, 1)) rfl
def u_Law_joint_0 : List (Nat × Instr × Nat) := [(0, .aload 5, 2), (2, .iconst 0, 1), (3, .aload_n 0, 1), (4, .iload_n 1, 1), (5, .iload_n 2, 1), (6, .iload_n 3, 1), (7, .iload 4, 2), (9, .invokevirtual 7, 3), (12, .i2l, 1), (13, .lastore, 1), (14, .goto 11, 3), (17, .astore 6, 2), (19, .iconst 1, 1), (20, .ireturn, 1), (21, .astore 6, 2), (23, .iconst 2, 1), (24, .ireturn, 1), (25, .iconst 0, 1), (26, .ireturn, 1)]
theorem v_Law_joint_0 : u_Law_joint_0.all (zdq method_3_code) = true := by decide +kernel
theorem d_Law_joint_0 : decode method_3_code 0 = .ok (.aload 5, 2) := zdt v_Law_joint_0 0 (q := (0, .aload 5, 2)) rfl
theorem d_Law_joint_2 : decode method_3_code 2 = .ok (.iconst 0, 1) := zdt v_Law_joint_0 1 (q := (2, .iconst 0, 1)) rfl
theorem d_Law_joint_3 : decode method_3_code 3 = .ok (.aload_n 0, 1) := zdt v_Law_joint_0 2 (q := (3, .aload_n 0, 1)) rfl
theorem d_Law_joint_4 : decode method_3_code 4 = .ok (.iload_n 1, 1) := zdt v_Law_joint_0 3 (q := (4, .iload_n 1, 1)) rfl
theorem d_Law_joint_5 : decode method_3_code 5 = .ok (.iload_n 2, 1) := zdt v_Law_joint_0 4 (q := (5, .iload_n 2, 1)) rfl
theorem d_Law_joint_6 : decode method_3_code 6 = .ok (.iload_n 3, 1) := zdt v_Law_joint_0 5 (q := (6, .iload_n 3, 1)) rfl
theorem d_Law_joint_7 : decode method_3_code 7 = .ok (.iload 4, 2) := zdt v_Law_joint_0 6 (q := (7, .iload 4, 2)) rfl
theorem d_Law_joint_9 : decode method_3_code 9 = .ok (.invokevirtual 7, 3) := zdt v_Law_joint_0 7 (q := (9, .invokevirtual 7, 3)) rfl
theorem d_Law_joint_12 : decode method_3_code 12 = .ok (.i2l, 1) := zdt v_Law_joint_0 8 (q := (12, .i2l, 1)) rfl
theorem d_Law_joint_13 : decode method_3_code 13 = .ok (.lastore, 1) := zdt v_Law_joint_0 9 (q := (13, .lastore, 1)) rfl
theorem d_Law_joint_14 : decode method_3_code 14 = .ok (.goto 11, 3) := zdt v_Law_joint_0 10 (q := (14, .goto 11, 3)) rfl
theorem d_Law_joint_17 : decode method_3_code 17 = .ok (.astore 6, 2) := zdt v_Law_joint_0 11 (q := (17, .astore 6, 2)) rfl
theorem d_Law_joint_19 : decode method_3_code 19 = .ok (.iconst 1, 1) := zdt v_Law_joint_0 12 (q := (19, .iconst 1, 1)) rfl
theorem d_Law_joint_20 : decode method_3_code 20 = .ok (.ireturn, 1) := zdt v_Law_joint_0 13 (q := (20, .ireturn, 1)) rfl
theorem d_Law_joint_21 : decode method_3_code 21 = .ok (.astore 6, 2) := zdt v_Law_joint_0 14 (q := (21, .astore 6, 2)) rfl
theorem d_Law_joint_23 : decode method_3_code 23 = .ok (.iconst 2, 1) := zdt v_Law_joint_0 15 (q := (23, .iconst 2, 1)) rfl
theorem d_Law_joint_24 : decode method_3_code 24 = .ok (.ireturn, 1) := zdt v_Law_joint_0 16 (q := (24, .ireturn, 1)) rfl
theorem d_Law_joint_25 : decode method_3_code 25 = .ok (.iconst 0, 1) := zdt v_Law_joint_0 17 (q := (25, .iconst 0, 1)) rfl
theorem d_Law_joint_26 : decode method_3_code 26 = .ok (.ireturn, 1) := zdt v_Law_joint_0 18 (q := (26, .ireturn, 1)) rfl
def u_WP_joint_0 : List (Nat × Instr × Nat) := [(0, .aload_n 0, 1), (1, .iload_n 1, 1), (2, .iload_n 2, 1), (3, .iload_n 3, 1), (4, .iload 4, 2), (6, .invokevirtual 64, 3), (9, .ifCond .eq 18, 3), (12, .aload_n 0, 1), (13, .getfield 57, 3), (16, .iload_n 1, 1), (17, .iload_n 2, 1), (18, .iload_n 3, 1), (19, .iload 4, 2), (21, .invokevirtual 68, 3), (24, .ifCond .eq 13, 3), (27, .new 71, 3), (30, .dup, 1), (31, .ldc 73, 2), (33, .invokespecial 75, 3), (36, .athrow, 1), (37, .aload_n 0, 1), (38, .getfield 57, 3), (41, .getfield 78, 3), (44, .bipush 6, 2), (46, .if_icmp .lt 13, 3), (49, .new 81, 3), (52, .dup, 1), (53, .ldc 83, 2), (55, .invokespecial 85, 3), (58, .athrow, 1), (59, .aload_n 0, 1), (60, .invokevirtual 86, 3), (63, .aload_n 0, 1), (64, .getfield 57, 3), (67, .iload_n 1, 1), (68, .iload_n 2, 1), (69, .iload_n 3, 1), (70, .iload 4, 2), (72, .invokevirtual 89, 3), (75, .aload_n 0, 1)]
theorem v_WP_joint_0 : u_WP_joint_0.all (zdq prog_1_method_2_code) = true := by decide +kernel
theorem d_WP_joint_0 : decode prog_1_method_2_code 0 = .ok (.aload_n 0, 1) := zdt v_WP_joint_0 0 (q := (0, .aload_n 0, 1)) rfl
theorem d_WP_joint_1 : decode prog_1_method_2_code 1 = .ok (.iload_n 1, 1) := zdt v_WP_joint_0 1 (q := (1, .iload_n 1, 1)) rfl
theorem d_WP_joint_2 : decode prog_1_method_2_code 2 = .ok (.iload_n 2, 1) := zdt v_WP_joint_0 2 (q := (2, .iload_n 2, 1)) rfl
theorem d_WP_joint_3 : decode prog_1_method_2_code 3 = .ok (.iload_n 3, 1) := zdt v_WP_joint_0 3 (q := (3, .iload_n 3, 1)) rfl
theorem d_WP_joint_4 : decode prog_1_method_2_code 4 = .ok (.iload 4, 2) := zdt v_WP_joint_0 4 (q := (4, .iload 4, 2)) rfl
theorem d_WP_joint_6 : decode prog_1_method_2_code 6 = .ok (.invokevirtual 64, 3) := zdt v_WP_joint_0 5 (q := (6, .invokevirtual 64, 3)) rfl
theorem d_WP_joint_9 : decode prog_1_method_2_code 9 = .ok (.ifCond .eq 18, 3) := zdt v_WP_joint_0 6 (q := (9, .ifCond .eq 18, 3)) rfl
theorem d_WP_joint_12 : decode prog_1_method_2_code 12 = .ok (.aload_n 0, 1) := zdt v_WP_joint_0 7 (q := (12, .aload_n 0, 1)) rfl
theorem d_WP_joint_13 : decode prog_1_method_2_code 13 = .ok (.getfield 57, 3) := zdt v_WP_joint_0 8 (q := (13, .getfield 57, 3)) rfl
theorem d_WP_joint_16 : decode prog_1_method_2_code 16 = .ok (.iload_n 1, 1) := zdt v_WP_joint_0 9 (q := (16, .iload_n 1, 1)) rfl
theorem d_WP_joint_17 : decode prog_1_method_2_code 17 = .ok (.iload_n 2, 1) := zdt v_WP_joint_0 10 (q := (17, .iload_n 2, 1)) rfl
theorem d_WP_joint_18 : decode prog_1_method_2_code 18 = .ok (.iload_n 3, 1) := zdt v_WP_joint_0 11 (q := (18, .iload_n 3, 1)) rfl
theorem d_WP_joint_19 : decode prog_1_method_2_code 19 = .ok (.iload 4, 2) := zdt v_WP_joint_0 12 (q := (19, .iload 4, 2)) rfl
theorem d_WP_joint_21 : decode prog_1_method_2_code 21 = .ok (.invokevirtual 68, 3) := zdt v_WP_joint_0 13 (q := (21, .invokevirtual 68, 3)) rfl
theorem d_WP_joint_24 : decode prog_1_method_2_code 24 = .ok (.ifCond .eq 13, 3) := zdt v_WP_joint_0 14 (q := (24, .ifCond .eq 13, 3)) rfl
theorem d_WP_joint_27 : decode prog_1_method_2_code 27 = .ok (.new 71, 3) := zdt v_WP_joint_0 15 (q := (27, .new 71, 3)) rfl
theorem d_WP_joint_30 : decode prog_1_method_2_code 30 = .ok (.dup, 1) := zdt v_WP_joint_0 16 (q := (30, .dup, 1)) rfl
theorem d_WP_joint_31 : decode prog_1_method_2_code 31 = .ok (.ldc 73, 2) := zdt v_WP_joint_0 17 (q := (31, .ldc 73, 2)) rfl
theorem d_WP_joint_33 : decode prog_1_method_2_code 33 = .ok (.invokespecial 75, 3) := zdt v_WP_joint_0 18 (q := (33, .invokespecial 75, 3)) rfl
theorem d_WP_joint_36 : decode prog_1_method_2_code 36 = .ok (.athrow, 1) := zdt v_WP_joint_0 19 (q := (36, .athrow, 1)) rfl
theorem d_WP_joint_37 : decode prog_1_method_2_code 37 = .ok (.aload_n 0, 1) := zdt v_WP_joint_0 20 (q := (37, .aload_n 0, 1)) rfl
theorem d_WP_joint_38 : decode prog_1_method_2_code 38 = .ok (.getfield 57, 3) := zdt v_WP_joint_0 21 (q := (38, .getfield 57, 3)) rfl
theorem d_WP_joint_41 : decode prog_1_method_2_code 41 = .ok (.getfield 78, 3) := zdt v_WP_joint_0 22 (q := (41, .getfield 78, 3)) rfl
theorem d_WP_joint_44 : decode prog_1_method_2_code 44 = .ok (.bipush 6, 2) := zdt v_WP_joint_0 23 (q := (44, .bipush 6, 2)) rfl
theorem d_WP_joint_46 : decode prog_1_method_2_code 46 = .ok (.if_icmp .lt 13, 3) := zdt v_WP_joint_0 24 (q := (46, .if_icmp .lt 13, 3)) rfl
theorem d_WP_joint_49 : decode prog_1_method_2_code 49 = .ok (.new 81, 3) := zdt v_WP_joint_0 25 (q := (49, .new 81, 3)) rfl
theorem d_WP_joint_52 : decode prog_1_method_2_code 52 = .ok (.dup, 1) := zdt v_WP_joint_0 26 (q := (52, .dup, 1)) rfl
theorem d_WP_joint_53 : decode prog_1_method_2_code 53 = .ok (.ldc 83, 2) := zdt v_WP_joint_0 27 (q := (53, .ldc 83, 2)) rfl
theorem d_WP_joint_55 : decode prog_1_method_2_code 55 = .ok (.invokespecial 85, 3) := zdt v_WP_joint_0 28 (q := (55, .invokespecial 85, 3)) rfl
theorem d_WP_joint_58 : decode prog_1_method_2_code 58 = .ok (.athrow, 1) := zdt v_WP_joint_0 29 (q := (58, .athrow, 1)) rfl
theorem d_WP_joint_59 : decode prog_1_method_2_code 59 = .ok (.aload_n 0, 1) := zdt v_WP_joint_0 30 (q := (59, .aload_n 0, 1)) rfl
theorem d_WP_joint_60 : decode prog_1_method_2_code 60 = .ok (.invokevirtual 86, 3) := zdt v_WP_joint_0 31 (q := (60, .invokevirtual 86, 3)) rfl
theorem d_WP_joint_63 : decode prog_1_method_2_code 63 = .ok (.aload_n 0, 1) := zdt v_WP_joint_0 32 (q := (63, .aload_n 0, 1)) rfl
theorem d_WP_joint_64 : decode prog_1_method_2_code 64 = .ok (.getfield 57, 3) := zdt v_WP_joint_0 33 (q := (64, .getfield 57, 3)) rfl
theorem d_WP_joint_67 : decode prog_1_method_2_code 67 = .ok (.iload_n 1, 1) := zdt v_WP_joint_0 34 (q := (67, .iload_n 1, 1)) rfl
theorem d_WP_joint_68 : decode prog_1_method_2_code 68 = .ok (.iload_n 2, 1) := zdt v_WP_joint_0 35 (q := (68, .iload_n 2, 1)) rfl
theorem d_WP_joint_69 : decode prog_1_method_2_code 69 = .ok (.iload_n 3, 1) := zdt v_WP_joint_0 36 (q := (69, .iload_n 3, 1)) rfl
theorem d_WP_joint_70 : decode prog_1_method_2_code 70 = .ok (.iload 4, 2) := zdt v_WP_joint_0 37 (q := (70, .iload 4, 2)) rfl
theorem d_WP_joint_72 : decode prog_1_method_2_code 72 = .ok (.invokevirtual 89, 3) := zdt v_WP_joint_0 38 (q := (72, .invokevirtual 89, 3)) rfl
theorem d_WP_joint_75 : decode prog_1_method_2_code 75 = .ok (.aload_n 0, 1) := zdt v_WP_joint_0 39 (q := (75, .aload_n 0, 1)) rfl
def u_WP_joint_1 : List (Nat × Instr × Nat) := [(76, .getfield 57, 3), (79, .getfield 78, 3), (82, .iconst 1, 1), (83, .isub, 1), (84, .ireturn, 1)]
theorem v_WP_joint_1 : u_WP_joint_1.all (zdq prog_1_method_2_code) = true := by decide +kernel
theorem d_WP_joint_76 : decode prog_1_method_2_code 76 = .ok (.getfield 57, 3) := zdt v_WP_joint_1 0 (q := (76, .getfield 57, 3)) rfl
theorem d_WP_joint_79 : decode prog_1_method_2_code 79 = .ok (.getfield 78, 3) := zdt v_WP_joint_1 1 (q := (79, .getfield 78, 3)) rfl
theorem d_WP_joint_82 : decode prog_1_method_2_code 82 = .ok (.iconst 1, 1) := zdt v_WP_joint_1 2 (q := (82, .iconst 1, 1)) rfl
theorem d_WP_joint_83 : decode prog_1_method_2_code 83 = .ok (.isub, 1) := zdt v_WP_joint_1 3 (q := (83, .isub, 1)) rfl
theorem d_WP_joint_84 : decode prog_1_method_2_code 84 = .ok (.ireturn, 1) := zdt v_WP_joint_1 4 (q := (84, .ireturn, 1)) rfl
def u_WP_isJoint_0 : List (Nat × Instr × Nat) := [(0, .iload_n 1, 1), (1, .bipush 6, 2), (3, .invokestatic 209, 3), (6, .ifCond .eq 50, 3), (9, .iload_n 2, 1), (10, .bipush 6, 2), (12, .invokestatic 209, 3), (15, .ifCond .eq 41, 3), (18, .iload_n 3, 1), (19, .bipush 6, 2), (21, .invokestatic 209, 3), (24, .ifCond .eq 32, 3), (27, .iload 4, 2), (29, .bipush 100, 2), (31, .invokestatic 209, 3), (34, .ifCond .eq 22, 3), (37, .aload_n 0, 1), (38, .getfield 57, 3), (41, .iload_n 1, 1), (42, .iload_n 2, 1), (43, .iload_n 3, 1), (44, .iload 4, 2), (46, .invokevirtual 212, 3), (49, .ifCond .eq 7, 3), (52, .iconst 1, 1), (53, .goto 4, 3), (56, .iconst 0, 1), (57, .ireturn, 1)]
theorem v_WP_isJoint_0 : u_WP_isJoint_0.all (zdq prog_1_method_23_code) = true := by decide +kernel
theorem d_WP_isJoint_0 : decode prog_1_method_23_code 0 = .ok (.iload_n 1, 1) := zdt v_WP_isJoint_0 0 (q := (0, .iload_n 1, 1)) rfl
theorem d_WP_isJoint_1 : decode prog_1_method_23_code 1 = .ok (.bipush 6, 2) := zdt v_WP_isJoint_0 1 (q := (1, .bipush 6, 2)) rfl
theorem d_WP_isJoint_3 : decode prog_1_method_23_code 3 = .ok (.invokestatic 209, 3) := zdt v_WP_isJoint_0 2 (q := (3, .invokestatic 209, 3)) rfl
theorem d_WP_isJoint_6 : decode prog_1_method_23_code 6 = .ok (.ifCond .eq 50, 3) := zdt v_WP_isJoint_0 3 (q := (6, .ifCond .eq 50, 3)) rfl
theorem d_WP_isJoint_9 : decode prog_1_method_23_code 9 = .ok (.iload_n 2, 1) := zdt v_WP_isJoint_0 4 (q := (9, .iload_n 2, 1)) rfl
theorem d_WP_isJoint_10 : decode prog_1_method_23_code 10 = .ok (.bipush 6, 2) := zdt v_WP_isJoint_0 5 (q := (10, .bipush 6, 2)) rfl
theorem d_WP_isJoint_12 : decode prog_1_method_23_code 12 = .ok (.invokestatic 209, 3) := zdt v_WP_isJoint_0 6 (q := (12, .invokestatic 209, 3)) rfl
theorem d_WP_isJoint_15 : decode prog_1_method_23_code 15 = .ok (.ifCond .eq 41, 3) := zdt v_WP_isJoint_0 7 (q := (15, .ifCond .eq 41, 3)) rfl
theorem d_WP_isJoint_18 : decode prog_1_method_23_code 18 = .ok (.iload_n 3, 1) := zdt v_WP_isJoint_0 8 (q := (18, .iload_n 3, 1)) rfl
theorem d_WP_isJoint_19 : decode prog_1_method_23_code 19 = .ok (.bipush 6, 2) := zdt v_WP_isJoint_0 9 (q := (19, .bipush 6, 2)) rfl
theorem d_WP_isJoint_21 : decode prog_1_method_23_code 21 = .ok (.invokestatic 209, 3) := zdt v_WP_isJoint_0 10 (q := (21, .invokestatic 209, 3)) rfl
theorem d_WP_isJoint_24 : decode prog_1_method_23_code 24 = .ok (.ifCond .eq 32, 3) := zdt v_WP_isJoint_0 11 (q := (24, .ifCond .eq 32, 3)) rfl
theorem d_WP_isJoint_27 : decode prog_1_method_23_code 27 = .ok (.iload 4, 2) := zdt v_WP_isJoint_0 12 (q := (27, .iload 4, 2)) rfl
theorem d_WP_isJoint_29 : decode prog_1_method_23_code 29 = .ok (.bipush 100, 2) := zdt v_WP_isJoint_0 13 (q := (29, .bipush 100, 2)) rfl
theorem d_WP_isJoint_31 : decode prog_1_method_23_code 31 = .ok (.invokestatic 209, 3) := zdt v_WP_isJoint_0 14 (q := (31, .invokestatic 209, 3)) rfl
theorem d_WP_isJoint_34 : decode prog_1_method_23_code 34 = .ok (.ifCond .eq 22, 3) := zdt v_WP_isJoint_0 15 (q := (34, .ifCond .eq 22, 3)) rfl
theorem d_WP_isJoint_37 : decode prog_1_method_23_code 37 = .ok (.aload_n 0, 1) := zdt v_WP_isJoint_0 16 (q := (37, .aload_n 0, 1)) rfl
theorem d_WP_isJoint_38 : decode prog_1_method_23_code 38 = .ok (.getfield 57, 3) := zdt v_WP_isJoint_0 17 (q := (38, .getfield 57, 3)) rfl
theorem d_WP_isJoint_41 : decode prog_1_method_23_code 41 = .ok (.iload_n 1, 1) := zdt v_WP_isJoint_0 18 (q := (41, .iload_n 1, 1)) rfl
theorem d_WP_isJoint_42 : decode prog_1_method_23_code 42 = .ok (.iload_n 2, 1) := zdt v_WP_isJoint_0 19 (q := (42, .iload_n 2, 1)) rfl
theorem d_WP_isJoint_43 : decode prog_1_method_23_code 43 = .ok (.iload_n 3, 1) := zdt v_WP_isJoint_0 20 (q := (43, .iload_n 3, 1)) rfl
theorem d_WP_isJoint_44 : decode prog_1_method_23_code 44 = .ok (.iload 4, 2) := zdt v_WP_isJoint_0 21 (q := (44, .iload 4, 2)) rfl
theorem d_WP_isJoint_46 : decode prog_1_method_23_code 46 = .ok (.invokevirtual 212, 3) := zdt v_WP_isJoint_0 22 (q := (46, .invokevirtual 212, 3)) rfl
theorem d_WP_isJoint_49 : decode prog_1_method_23_code 49 = .ok (.ifCond .eq 7, 3) := zdt v_WP_isJoint_0 23 (q := (49, .ifCond .eq 7, 3)) rfl
theorem d_WP_isJoint_52 : decode prog_1_method_23_code 52 = .ok (.iconst 1, 1) := zdt v_WP_isJoint_0 24 (q := (52, .iconst 1, 1)) rfl
theorem d_WP_isJoint_53 : decode prog_1_method_23_code 53 = .ok (.goto 4, 3) := zdt v_WP_isJoint_0 25 (q := (53, .goto 4, 3)) rfl
theorem d_WP_isJoint_56 : decode prog_1_method_23_code 56 = .ok (.iconst 0, 1) := zdt v_WP_isJoint_0 26 (q := (56, .iconst 0, 1)) rfl
theorem d_WP_isJoint_57 : decode prog_1_method_23_code 57 = .ok (.ireturn, 1) := zdt v_WP_isJoint_0 27 (q := (57, .ireturn, 1)) rfl
def u_WP_isWithin_0 : List (Nat × Instr × Nat) := [(0, .iload_n 0, 1), (1, .iload_n 1, 1), (2, .ineg, 1), (3, .if_icmp .lt 12, 3), (6, .iload_n 0, 1), (7, .iload_n 1, 1), (8, .if_icmp .gt 7, 3), (11, .iconst 1, 1), (12, .goto 4, 3), (15, .iconst 0, 1), (16, .ireturn, 1)]
theorem v_WP_isWithin_0 : u_WP_isWithin_0.all (zdq prog_1_method_21_code) = true := by decide +kernel
theorem d_WP_isWithin_0 : decode prog_1_method_21_code 0 = .ok (.iload_n 0, 1) := zdt v_WP_isWithin_0 0 (q := (0, .iload_n 0, 1)) rfl
theorem d_WP_isWithin_1 : decode prog_1_method_21_code 1 = .ok (.iload_n 1, 1) := zdt v_WP_isWithin_0 1 (q := (1, .iload_n 1, 1)) rfl
theorem d_WP_isWithin_2 : decode prog_1_method_21_code 2 = .ok (.ineg, 1) := zdt v_WP_isWithin_0 2 (q := (2, .ineg, 1)) rfl
theorem d_WP_isWithin_3 : decode prog_1_method_21_code 3 = .ok (.if_icmp .lt 12, 3) := zdt v_WP_isWithin_0 3 (q := (3, .if_icmp .lt 12, 3)) rfl
theorem d_WP_isWithin_6 : decode prog_1_method_21_code 6 = .ok (.iload_n 0, 1) := zdt v_WP_isWithin_0 4 (q := (6, .iload_n 0, 1)) rfl
theorem d_WP_isWithin_7 : decode prog_1_method_21_code 7 = .ok (.iload_n 1, 1) := zdt v_WP_isWithin_0 5 (q := (7, .iload_n 1, 1)) rfl
theorem d_WP_isWithin_8 : decode prog_1_method_21_code 8 = .ok (.if_icmp .gt 7, 3) := zdt v_WP_isWithin_0 6 (q := (8, .if_icmp .gt 7, 3)) rfl
theorem d_WP_isWithin_11 : decode prog_1_method_21_code 11 = .ok (.iconst 1, 1) := zdt v_WP_isWithin_0 7 (q := (11, .iconst 1, 1)) rfl
theorem d_WP_isWithin_12 : decode prog_1_method_21_code 12 = .ok (.goto 4, 3) := zdt v_WP_isWithin_0 8 (q := (12, .goto 4, 3)) rfl
theorem d_WP_isWithin_15 : decode prog_1_method_21_code 15 = .ok (.iconst 0, 1) := zdt v_WP_isWithin_0 9 (q := (15, .iconst 0, 1)) rfl
theorem d_WP_isWithin_16 : decode prog_1_method_21_code 16 = .ok (.ireturn, 1) := zdt v_WP_isWithin_0 10 (q := (16, .ireturn, 1)) rfl
def u_Law_open_0 : List (Nat × Instr × Nat) := [(0, .aload_n 3, 1), (1, .iconst 0, 1), (2, .aload_n 0, 1), (3, .iload_n 1, 1), (4, .iload_n 2, 1), (5, .invokevirtual 17, 3), (8, .ifCond .eq 7, 3), (11, .lconst 1, 1), (12, .goto 4, 3), (15, .lconst 0, 1), (16, .lastore, 1), (17, .goto 7, 3), (20, .astore 4, 2), (22, .iconst 1, 1), (23, .ireturn, 1), (24, .iconst 0, 1), (25, .ireturn, 1)]
theorem v_Law_open_0 : u_Law_open_0.all (zdq method_4_code) = true := by decide +kernel
theorem d_Law_open_0 : decode method_4_code 0 = .ok (.aload_n 3, 1) := zdt v_Law_open_0 0 (q := (0, .aload_n 3, 1)) rfl
theorem d_Law_open_1 : decode method_4_code 1 = .ok (.iconst 0, 1) := zdt v_Law_open_0 1 (q := (1, .iconst 0, 1)) rfl
theorem d_Law_open_2 : decode method_4_code 2 = .ok (.aload_n 0, 1) := zdt v_Law_open_0 2 (q := (2, .aload_n 0, 1)) rfl
theorem d_Law_open_3 : decode method_4_code 3 = .ok (.iload_n 1, 1) := zdt v_Law_open_0 3 (q := (3, .iload_n 1, 1)) rfl
theorem d_Law_open_4 : decode method_4_code 4 = .ok (.iload_n 2, 1) := zdt v_Law_open_0 4 (q := (4, .iload_n 2, 1)) rfl
theorem d_Law_open_5 : decode method_4_code 5 = .ok (.invokevirtual 17, 3) := zdt v_Law_open_0 5 (q := (5, .invokevirtual 17, 3)) rfl
theorem d_Law_open_8 : decode method_4_code 8 = .ok (.ifCond .eq 7, 3) := zdt v_Law_open_0 6 (q := (8, .ifCond .eq 7, 3)) rfl
theorem d_Law_open_11 : decode method_4_code 11 = .ok (.lconst 1, 1) := zdt v_Law_open_0 7 (q := (11, .lconst 1, 1)) rfl
theorem d_Law_open_12 : decode method_4_code 12 = .ok (.goto 4, 3) := zdt v_Law_open_0 8 (q := (12, .goto 4, 3)) rfl
theorem d_Law_open_15 : decode method_4_code 15 = .ok (.lconst 0, 1) := zdt v_Law_open_0 9 (q := (15, .lconst 0, 1)) rfl
theorem d_Law_open_16 : decode method_4_code 16 = .ok (.lastore, 1) := zdt v_Law_open_0 10 (q := (16, .lastore, 1)) rfl
theorem d_Law_open_17 : decode method_4_code 17 = .ok (.goto 7, 3) := zdt v_Law_open_0 11 (q := (17, .goto 7, 3)) rfl
theorem d_Law_open_20 : decode method_4_code 20 = .ok (.astore 4, 2) := zdt v_Law_open_0 12 (q := (20, .astore 4, 2)) rfl
theorem d_Law_open_22 : decode method_4_code 22 = .ok (.iconst 1, 1) := zdt v_Law_open_0 13 (q := (22, .iconst 1, 1)) rfl
theorem d_Law_open_23 : decode method_4_code 23 = .ok (.ireturn, 1) := zdt v_Law_open_0 14 (q := (23, .ireturn, 1)) rfl
theorem d_Law_open_24 : decode method_4_code 24 = .ok (.iconst 0, 1) := zdt v_Law_open_0 15 (q := (24, .iconst 0, 1)) rfl
theorem d_Law_open_25 : decode method_4_code 25 = .ok (.ireturn, 1) := zdt v_Law_open_0 16 (q := (25, .ireturn, 1)) rfl
def u_WP_open_0 : List (Nat × Instr × Nat) := [(0, .iload_n 1, 1), (1, .bipush 6, 2), (3, .if_icmp .lt 9, 3), (6, .iload_n 1, 1), (7, .bipush 12, 2), (9, .if_icmp .lt 13, 3), (12, .new 96, 3), (15, .dup, 1), (16, .ldc 98, 2), (18, .invokespecial 100, 3), (21, .athrow, 1), (22, .aload_n 0, 1), (23, .getfield 45, 3), (26, .iload_n 1, 1), (27, .invokestatic 101, 3), (30, .iload_n 2, 1), (31, .if_icmp .eq 7, 3), (34, .iconst 1, 1), (35, .goto 4, 3), (38, .iconst 0, 1), (39, .istore_n 3, 1), (40, .iload_n 3, 1), (41, .ifCond .eq 15, 3), (44, .aload_n 0, 1), (45, .dup, 1), (46, .getfield 45, 3), (49, .iconst 1, 1), (50, .iload_n 1, 1), (51, .ishl, 1), (52, .ixor, 1), (53, .putfield 45, 3), (56, .iload_n 3, 1), (57, .ireturn, 1)]
theorem v_WP_open_0 : u_WP_open_0.all (zdq prog_1_method_4_code) = true := by decide +kernel
theorem d_WP_open_0 : decode prog_1_method_4_code 0 = .ok (.iload_n 1, 1) := zdt v_WP_open_0 0 (q := (0, .iload_n 1, 1)) rfl
theorem d_WP_open_1 : decode prog_1_method_4_code 1 = .ok (.bipush 6, 2) := zdt v_WP_open_0 1 (q := (1, .bipush 6, 2)) rfl
theorem d_WP_open_3 : decode prog_1_method_4_code 3 = .ok (.if_icmp .lt 9, 3) := zdt v_WP_open_0 2 (q := (3, .if_icmp .lt 9, 3)) rfl
theorem d_WP_open_6 : decode prog_1_method_4_code 6 = .ok (.iload_n 1, 1) := zdt v_WP_open_0 3 (q := (6, .iload_n 1, 1)) rfl
theorem d_WP_open_7 : decode prog_1_method_4_code 7 = .ok (.bipush 12, 2) := zdt v_WP_open_0 4 (q := (7, .bipush 12, 2)) rfl
theorem d_WP_open_9 : decode prog_1_method_4_code 9 = .ok (.if_icmp .lt 13, 3) := zdt v_WP_open_0 5 (q := (9, .if_icmp .lt 13, 3)) rfl
theorem d_WP_open_12 : decode prog_1_method_4_code 12 = .ok (.new 96, 3) := zdt v_WP_open_0 6 (q := (12, .new 96, 3)) rfl
theorem d_WP_open_15 : decode prog_1_method_4_code 15 = .ok (.dup, 1) := zdt v_WP_open_0 7 (q := (15, .dup, 1)) rfl
theorem d_WP_open_16 : decode prog_1_method_4_code 16 = .ok (.ldc 98, 2) := zdt v_WP_open_0 8 (q := (16, .ldc 98, 2)) rfl
theorem d_WP_open_18 : decode prog_1_method_4_code 18 = .ok (.invokespecial 100, 3) := zdt v_WP_open_0 9 (q := (18, .invokespecial 100, 3)) rfl
theorem d_WP_open_21 : decode prog_1_method_4_code 21 = .ok (.athrow, 1) := zdt v_WP_open_0 10 (q := (21, .athrow, 1)) rfl
theorem d_WP_open_22 : decode prog_1_method_4_code 22 = .ok (.aload_n 0, 1) := zdt v_WP_open_0 11 (q := (22, .aload_n 0, 1)) rfl
theorem d_WP_open_23 : decode prog_1_method_4_code 23 = .ok (.getfield 45, 3) := zdt v_WP_open_0 12 (q := (23, .getfield 45, 3)) rfl
theorem d_WP_open_26 : decode prog_1_method_4_code 26 = .ok (.iload_n 1, 1) := zdt v_WP_open_0 13 (q := (26, .iload_n 1, 1)) rfl
theorem d_WP_open_27 : decode prog_1_method_4_code 27 = .ok (.invokestatic 101, 3) := zdt v_WP_open_0 14 (q := (27, .invokestatic 101, 3)) rfl
theorem d_WP_open_30 : decode prog_1_method_4_code 30 = .ok (.iload_n 2, 1) := zdt v_WP_open_0 15 (q := (30, .iload_n 2, 1)) rfl
theorem d_WP_open_31 : decode prog_1_method_4_code 31 = .ok (.if_icmp .eq 7, 3) := zdt v_WP_open_0 16 (q := (31, .if_icmp .eq 7, 3)) rfl
theorem d_WP_open_34 : decode prog_1_method_4_code 34 = .ok (.iconst 1, 1) := zdt v_WP_open_0 17 (q := (34, .iconst 1, 1)) rfl
theorem d_WP_open_35 : decode prog_1_method_4_code 35 = .ok (.goto 4, 3) := zdt v_WP_open_0 18 (q := (35, .goto 4, 3)) rfl
theorem d_WP_open_38 : decode prog_1_method_4_code 38 = .ok (.iconst 0, 1) := zdt v_WP_open_0 19 (q := (38, .iconst 0, 1)) rfl
theorem d_WP_open_39 : decode prog_1_method_4_code 39 = .ok (.istore_n 3, 1) := zdt v_WP_open_0 20 (q := (39, .istore_n 3, 1)) rfl
theorem d_WP_open_40 : decode prog_1_method_4_code 40 = .ok (.iload_n 3, 1) := zdt v_WP_open_0 21 (q := (40, .iload_n 3, 1)) rfl
theorem d_WP_open_41 : decode prog_1_method_4_code 41 = .ok (.ifCond .eq 15, 3) := zdt v_WP_open_0 22 (q := (41, .ifCond .eq 15, 3)) rfl
theorem d_WP_open_44 : decode prog_1_method_4_code 44 = .ok (.aload_n 0, 1) := zdt v_WP_open_0 23 (q := (44, .aload_n 0, 1)) rfl
theorem d_WP_open_45 : decode prog_1_method_4_code 45 = .ok (.dup, 1) := zdt v_WP_open_0 24 (q := (45, .dup, 1)) rfl
theorem d_WP_open_46 : decode prog_1_method_4_code 46 = .ok (.getfield 45, 3) := zdt v_WP_open_0 25 (q := (46, .getfield 45, 3)) rfl
theorem d_WP_open_49 : decode prog_1_method_4_code 49 = .ok (.iconst 1, 1) := zdt v_WP_open_0 26 (q := (49, .iconst 1, 1)) rfl
theorem d_WP_open_50 : decode prog_1_method_4_code 50 = .ok (.iload_n 1, 1) := zdt v_WP_open_0 27 (q := (50, .iload_n 1, 1)) rfl
theorem d_WP_open_51 : decode prog_1_method_4_code 51 = .ok (.ishl, 1) := zdt v_WP_open_0 28 (q := (51, .ishl, 1)) rfl
theorem d_WP_open_52 : decode prog_1_method_4_code 52 = .ok (.ixor, 1) := zdt v_WP_open_0 29 (q := (52, .ixor, 1)) rfl
theorem d_WP_open_53 : decode prog_1_method_4_code 53 = .ok (.putfield 45, 3) := zdt v_WP_open_0 30 (q := (53, .putfield 45, 3)) rfl
theorem d_WP_open_56 : decode prog_1_method_4_code 56 = .ok (.iload_n 3, 1) := zdt v_WP_open_0 31 (q := (56, .iload_n 3, 1)) rfl
theorem d_WP_open_57 : decode prog_1_method_4_code 57 = .ok (.ireturn, 1) := zdt v_WP_open_0 32 (q := (57, .ireturn, 1)) rfl
def u_Law_direction_0 : List (Nat × Instr × Nat) := [(0, .aload 4, 2), (2, .iconst 0, 1), (3, .aload_n 0, 1), (4, .iload_n 1, 1), (5, .iload_n 2, 1), (6, .iload_n 3, 1), (7, .invokevirtual 23, 3), (10, .i2l, 1), (11, .lastore, 1), (12, .goto 11, 3), (15, .astore 5, 2), (17, .iconst 1, 1), (18, .ireturn, 1), (19, .astore 5, 2), (21, .iconst 2, 1), (22, .ireturn, 1), (23, .iconst 0, 1), (24, .ireturn, 1)]
theorem v_Law_direction_0 : u_Law_direction_0.all (zdq method_5_code) = true := by decide +kernel
theorem d_Law_direction_0 : decode method_5_code 0 = .ok (.aload 4, 2) := zdt v_Law_direction_0 0 (q := (0, .aload 4, 2)) rfl
theorem d_Law_direction_2 : decode method_5_code 2 = .ok (.iconst 0, 1) := zdt v_Law_direction_0 1 (q := (2, .iconst 0, 1)) rfl
theorem d_Law_direction_3 : decode method_5_code 3 = .ok (.aload_n 0, 1) := zdt v_Law_direction_0 2 (q := (3, .aload_n 0, 1)) rfl
theorem d_Law_direction_4 : decode method_5_code 4 = .ok (.iload_n 1, 1) := zdt v_Law_direction_0 3 (q := (4, .iload_n 1, 1)) rfl
theorem d_Law_direction_5 : decode method_5_code 5 = .ok (.iload_n 2, 1) := zdt v_Law_direction_0 4 (q := (5, .iload_n 2, 1)) rfl
theorem d_Law_direction_6 : decode method_5_code 6 = .ok (.iload_n 3, 1) := zdt v_Law_direction_0 5 (q := (6, .iload_n 3, 1)) rfl
theorem d_Law_direction_7 : decode method_5_code 7 = .ok (.invokevirtual 23, 3) := zdt v_Law_direction_0 6 (q := (7, .invokevirtual 23, 3)) rfl
theorem d_Law_direction_10 : decode method_5_code 10 = .ok (.i2l, 1) := zdt v_Law_direction_0 7 (q := (10, .i2l, 1)) rfl
theorem d_Law_direction_11 : decode method_5_code 11 = .ok (.lastore, 1) := zdt v_Law_direction_0 8 (q := (11, .lastore, 1)) rfl
theorem d_Law_direction_12 : decode method_5_code 12 = .ok (.goto 11, 3) := zdt v_Law_direction_0 9 (q := (12, .goto 11, 3)) rfl
theorem d_Law_direction_15 : decode method_5_code 15 = .ok (.astore 5, 2) := zdt v_Law_direction_0 10 (q := (15, .astore 5, 2)) rfl
theorem d_Law_direction_17 : decode method_5_code 17 = .ok (.iconst 1, 1) := zdt v_Law_direction_0 11 (q := (17, .iconst 1, 1)) rfl
theorem d_Law_direction_18 : decode method_5_code 18 = .ok (.ireturn, 1) := zdt v_Law_direction_0 12 (q := (18, .ireturn, 1)) rfl
theorem d_Law_direction_19 : decode method_5_code 19 = .ok (.astore 5, 2) := zdt v_Law_direction_0 13 (q := (19, .astore 5, 2)) rfl
theorem d_Law_direction_21 : decode method_5_code 21 = .ok (.iconst 2, 1) := zdt v_Law_direction_0 14 (q := (21, .iconst 2, 1)) rfl
theorem d_Law_direction_22 : decode method_5_code 22 = .ok (.ireturn, 1) := zdt v_Law_direction_0 15 (q := (22, .ireturn, 1)) rfl
theorem d_Law_direction_23 : decode method_5_code 23 = .ok (.iconst 0, 1) := zdt v_Law_direction_0 16 (q := (23, .iconst 0, 1)) rfl
theorem d_Law_direction_24 : decode method_5_code 24 = .ok (.ireturn, 1) := zdt v_Law_direction_0 17 (q := (24, .ireturn, 1)) rfl
def u_WP_direction_0 : List (Nat × Instr × Nat) := [(0, .iload_n 1, 1), (1, .iload_n 2, 1), (2, .iload_n 3, 1), (3, .invokestatic 105, 3), (6, .ifCond .eq 15, 3), (9, .iload_n 1, 1), (10, .ifCond .ne 21, 3), (13, .iload_n 2, 1), (14, .ifCond .ne 17, 3), (17, .iload_n 3, 1), (18, .ifCond .ne 13, 3), (21, .new 71, 3), (24, .dup, 1), (25, .ldc 109, 2), (27, .invokespecial 75, 3), (30, .athrow, 1), (31, .aload_n 0, 1), (32, .getfield 42, 3), (35, .bipush 8, 2), (37, .if_icmp .lt 13, 3), (40, .new 81, 3), (43, .dup, 1), (44, .ldc 111, 2), (46, .invokespecial 85, 3), (49, .athrow, 1), (50, .aload_n 0, 1), (51, .getfield 18, 3), (54, .aload_n 0, 1), (55, .getfield 42, 3), (58, .aaload, 1), (59, .iload_n 1, 1), (60, .iload_n 2, 1), (61, .iload_n 3, 1), (62, .invokevirtual 61, 3), (65, .aload_n 0, 1), (66, .dup, 1), (67, .getfield 42, 3), (70, .iconst 1, 1), (71, .iadd, 1), (72, .putfield 42, 3)]
theorem v_WP_direction_0 : u_WP_direction_0.all (zdq prog_1_method_5_code) = true := by decide +kernel
theorem d_WP_direction_0 : decode prog_1_method_5_code 0 = .ok (.iload_n 1, 1) := zdt v_WP_direction_0 0 (q := (0, .iload_n 1, 1)) rfl
theorem d_WP_direction_1 : decode prog_1_method_5_code 1 = .ok (.iload_n 2, 1) := zdt v_WP_direction_0 1 (q := (1, .iload_n 2, 1)) rfl
theorem d_WP_direction_2 : decode prog_1_method_5_code 2 = .ok (.iload_n 3, 1) := zdt v_WP_direction_0 2 (q := (2, .iload_n 3, 1)) rfl
theorem d_WP_direction_3 : decode prog_1_method_5_code 3 = .ok (.invokestatic 105, 3) := zdt v_WP_direction_0 3 (q := (3, .invokestatic 105, 3)) rfl
theorem d_WP_direction_6 : decode prog_1_method_5_code 6 = .ok (.ifCond .eq 15, 3) := zdt v_WP_direction_0 4 (q := (6, .ifCond .eq 15, 3)) rfl
theorem d_WP_direction_9 : decode prog_1_method_5_code 9 = .ok (.iload_n 1, 1) := zdt v_WP_direction_0 5 (q := (9, .iload_n 1, 1)) rfl
theorem d_WP_direction_10 : decode prog_1_method_5_code 10 = .ok (.ifCond .ne 21, 3) := zdt v_WP_direction_0 6 (q := (10, .ifCond .ne 21, 3)) rfl
theorem d_WP_direction_13 : decode prog_1_method_5_code 13 = .ok (.iload_n 2, 1) := zdt v_WP_direction_0 7 (q := (13, .iload_n 2, 1)) rfl
theorem d_WP_direction_14 : decode prog_1_method_5_code 14 = .ok (.ifCond .ne 17, 3) := zdt v_WP_direction_0 8 (q := (14, .ifCond .ne 17, 3)) rfl
theorem d_WP_direction_17 : decode prog_1_method_5_code 17 = .ok (.iload_n 3, 1) := zdt v_WP_direction_0 9 (q := (17, .iload_n 3, 1)) rfl
theorem d_WP_direction_18 : decode prog_1_method_5_code 18 = .ok (.ifCond .ne 13, 3) := zdt v_WP_direction_0 10 (q := (18, .ifCond .ne 13, 3)) rfl
theorem d_WP_direction_21 : decode prog_1_method_5_code 21 = .ok (.new 71, 3) := zdt v_WP_direction_0 11 (q := (21, .new 71, 3)) rfl
theorem d_WP_direction_24 : decode prog_1_method_5_code 24 = .ok (.dup, 1) := zdt v_WP_direction_0 12 (q := (24, .dup, 1)) rfl
theorem d_WP_direction_25 : decode prog_1_method_5_code 25 = .ok (.ldc 109, 2) := zdt v_WP_direction_0 13 (q := (25, .ldc 109, 2)) rfl
theorem d_WP_direction_27 : decode prog_1_method_5_code 27 = .ok (.invokespecial 75, 3) := zdt v_WP_direction_0 14 (q := (27, .invokespecial 75, 3)) rfl
theorem d_WP_direction_30 : decode prog_1_method_5_code 30 = .ok (.athrow, 1) := zdt v_WP_direction_0 15 (q := (30, .athrow, 1)) rfl
theorem d_WP_direction_31 : decode prog_1_method_5_code 31 = .ok (.aload_n 0, 1) := zdt v_WP_direction_0 16 (q := (31, .aload_n 0, 1)) rfl
theorem d_WP_direction_32 : decode prog_1_method_5_code 32 = .ok (.getfield 42, 3) := zdt v_WP_direction_0 17 (q := (32, .getfield 42, 3)) rfl
theorem d_WP_direction_35 : decode prog_1_method_5_code 35 = .ok (.bipush 8, 2) := zdt v_WP_direction_0 18 (q := (35, .bipush 8, 2)) rfl
theorem d_WP_direction_37 : decode prog_1_method_5_code 37 = .ok (.if_icmp .lt 13, 3) := zdt v_WP_direction_0 19 (q := (37, .if_icmp .lt 13, 3)) rfl
theorem d_WP_direction_40 : decode prog_1_method_5_code 40 = .ok (.new 81, 3) := zdt v_WP_direction_0 20 (q := (40, .new 81, 3)) rfl
theorem d_WP_direction_43 : decode prog_1_method_5_code 43 = .ok (.dup, 1) := zdt v_WP_direction_0 21 (q := (43, .dup, 1)) rfl
theorem d_WP_direction_44 : decode prog_1_method_5_code 44 = .ok (.ldc 111, 2) := zdt v_WP_direction_0 22 (q := (44, .ldc 111, 2)) rfl
theorem d_WP_direction_46 : decode prog_1_method_5_code 46 = .ok (.invokespecial 85, 3) := zdt v_WP_direction_0 23 (q := (46, .invokespecial 85, 3)) rfl
theorem d_WP_direction_49 : decode prog_1_method_5_code 49 = .ok (.athrow, 1) := zdt v_WP_direction_0 24 (q := (49, .athrow, 1)) rfl
theorem d_WP_direction_50 : decode prog_1_method_5_code 50 = .ok (.aload_n 0, 1) := zdt v_WP_direction_0 25 (q := (50, .aload_n 0, 1)) rfl
theorem d_WP_direction_51 : decode prog_1_method_5_code 51 = .ok (.getfield 18, 3) := zdt v_WP_direction_0 26 (q := (51, .getfield 18, 3)) rfl
theorem d_WP_direction_54 : decode prog_1_method_5_code 54 = .ok (.aload_n 0, 1) := zdt v_WP_direction_0 27 (q := (54, .aload_n 0, 1)) rfl
theorem d_WP_direction_55 : decode prog_1_method_5_code 55 = .ok (.getfield 42, 3) := zdt v_WP_direction_0 28 (q := (55, .getfield 42, 3)) rfl
theorem d_WP_direction_58 : decode prog_1_method_5_code 58 = .ok (.aaload, 1) := zdt v_WP_direction_0 29 (q := (58, .aaload, 1)) rfl
theorem d_WP_direction_59 : decode prog_1_method_5_code 59 = .ok (.iload_n 1, 1) := zdt v_WP_direction_0 30 (q := (59, .iload_n 1, 1)) rfl
theorem d_WP_direction_60 : decode prog_1_method_5_code 60 = .ok (.iload_n 2, 1) := zdt v_WP_direction_0 31 (q := (60, .iload_n 2, 1)) rfl
theorem d_WP_direction_61 : decode prog_1_method_5_code 61 = .ok (.iload_n 3, 1) := zdt v_WP_direction_0 32 (q := (61, .iload_n 3, 1)) rfl
theorem d_WP_direction_62 : decode prog_1_method_5_code 62 = .ok (.invokevirtual 61, 3) := zdt v_WP_direction_0 33 (q := (62, .invokevirtual 61, 3)) rfl
theorem d_WP_direction_65 : decode prog_1_method_5_code 65 = .ok (.aload_n 0, 1) := zdt v_WP_direction_0 34 (q := (65, .aload_n 0, 1)) rfl
theorem d_WP_direction_66 : decode prog_1_method_5_code 66 = .ok (.dup, 1) := zdt v_WP_direction_0 35 (q := (66, .dup, 1)) rfl
theorem d_WP_direction_67 : decode prog_1_method_5_code 67 = .ok (.getfield 42, 3) := zdt v_WP_direction_0 36 (q := (67, .getfield 42, 3)) rfl
theorem d_WP_direction_70 : decode prog_1_method_5_code 70 = .ok (.iconst 1, 1) := zdt v_WP_direction_0 37 (q := (70, .iconst 1, 1)) rfl
theorem d_WP_direction_71 : decode prog_1_method_5_code 71 = .ok (.iadd, 1) := zdt v_WP_direction_0 38 (q := (71, .iadd, 1)) rfl
theorem d_WP_direction_72 : decode prog_1_method_5_code 72 = .ok (.putfield 42, 3) := zdt v_WP_direction_0 39 (q := (72, .putfield 42, 3)) rfl
def u_WP_direction_1 : List (Nat × Instr × Nat) := [(75, .aload_n 0, 1), (76, .getfield 42, 3), (79, .iconst 1, 1), (80, .isub, 1), (81, .ireturn, 1)]
theorem v_WP_direction_1 : u_WP_direction_1.all (zdq prog_1_method_5_code) = true := by decide +kernel
theorem d_WP_direction_75 : decode prog_1_method_5_code 75 = .ok (.aload_n 0, 1) := zdt v_WP_direction_1 0 (q := (75, .aload_n 0, 1)) rfl
theorem d_WP_direction_76 : decode prog_1_method_5_code 76 = .ok (.getfield 42, 3) := zdt v_WP_direction_1 1 (q := (76, .getfield 42, 3)) rfl
theorem d_WP_direction_79 : decode prog_1_method_5_code 79 = .ok (.iconst 1, 1) := zdt v_WP_direction_1 2 (q := (79, .iconst 1, 1)) rfl
theorem d_WP_direction_80 : decode prog_1_method_5_code 80 = .ok (.isub, 1) := zdt v_WP_direction_1 3 (q := (80, .isub, 1)) rfl
theorem d_WP_direction_81 : decode prog_1_method_5_code 81 = .ok (.ireturn, 1) := zdt v_WP_direction_1 4 (q := (81, .ireturn, 1)) rfl
def u_WP_isStep_0 : List (Nat × Instr × Nat) := [(0, .iload_n 0, 1), (1, .bipush 9, 2), (3, .invokestatic 209, 3), (6, .ifCond .eq 25, 3), (9, .iload_n 1, 1), (10, .bipush 9, 2), (12, .invokestatic 209, 3), (15, .ifCond .eq 16, 3), (18, .iload_n 2, 1), (19, .bipush 9, 2), (21, .invokestatic 209, 3), (24, .ifCond .eq 7, 3), (27, .iconst 1, 1), (28, .goto 4, 3), (31, .iconst 0, 1), (32, .ireturn, 1)]
theorem v_WP_isStep_0 : u_WP_isStep_0.all (zdq prog_1_method_22_code) = true := by decide +kernel
theorem d_WP_isStep_0 : decode prog_1_method_22_code 0 = .ok (.iload_n 0, 1) := zdt v_WP_isStep_0 0 (q := (0, .iload_n 0, 1)) rfl
theorem d_WP_isStep_1 : decode prog_1_method_22_code 1 = .ok (.bipush 9, 2) := zdt v_WP_isStep_0 1 (q := (1, .bipush 9, 2)) rfl
theorem d_WP_isStep_3 : decode prog_1_method_22_code 3 = .ok (.invokestatic 209, 3) := zdt v_WP_isStep_0 2 (q := (3, .invokestatic 209, 3)) rfl
theorem d_WP_isStep_6 : decode prog_1_method_22_code 6 = .ok (.ifCond .eq 25, 3) := zdt v_WP_isStep_0 3 (q := (6, .ifCond .eq 25, 3)) rfl
theorem d_WP_isStep_9 : decode prog_1_method_22_code 9 = .ok (.iload_n 1, 1) := zdt v_WP_isStep_0 4 (q := (9, .iload_n 1, 1)) rfl
theorem d_WP_isStep_10 : decode prog_1_method_22_code 10 = .ok (.bipush 9, 2) := zdt v_WP_isStep_0 5 (q := (10, .bipush 9, 2)) rfl
theorem d_WP_isStep_12 : decode prog_1_method_22_code 12 = .ok (.invokestatic 209, 3) := zdt v_WP_isStep_0 6 (q := (12, .invokestatic 209, 3)) rfl
theorem d_WP_isStep_15 : decode prog_1_method_22_code 15 = .ok (.ifCond .eq 16, 3) := zdt v_WP_isStep_0 7 (q := (15, .ifCond .eq 16, 3)) rfl
theorem d_WP_isStep_18 : decode prog_1_method_22_code 18 = .ok (.iload_n 2, 1) := zdt v_WP_isStep_0 8 (q := (18, .iload_n 2, 1)) rfl
theorem d_WP_isStep_19 : decode prog_1_method_22_code 19 = .ok (.bipush 9, 2) := zdt v_WP_isStep_0 9 (q := (19, .bipush 9, 2)) rfl
theorem d_WP_isStep_21 : decode prog_1_method_22_code 21 = .ok (.invokestatic 209, 3) := zdt v_WP_isStep_0 10 (q := (21, .invokestatic 209, 3)) rfl
theorem d_WP_isStep_24 : decode prog_1_method_22_code 24 = .ok (.ifCond .eq 7, 3) := zdt v_WP_isStep_0 11 (q := (24, .ifCond .eq 7, 3)) rfl
theorem d_WP_isStep_27 : decode prog_1_method_22_code 27 = .ok (.iconst 1, 1) := zdt v_WP_isStep_0 12 (q := (27, .iconst 1, 1)) rfl
theorem d_WP_isStep_28 : decode prog_1_method_22_code 28 = .ok (.goto 4, 3) := zdt v_WP_isStep_0 13 (q := (28, .goto 4, 3)) rfl
theorem d_WP_isStep_31 : decode prog_1_method_22_code 31 = .ok (.iconst 0, 1) := zdt v_WP_isStep_0 14 (q := (31, .iconst 0, 1)) rfl
theorem d_WP_isStep_32 : decode prog_1_method_22_code 32 = .ok (.ireturn, 1) := zdt v_WP_isStep_0 15 (q := (32, .ireturn, 1)) rfl
def u_Law_pull_0 : List (Nat × Instr × Nat) := [(0, .aload_n 0, 1), (1, .iload_n 1, 1), (2, .iload_n 2, 1), (3, .iload_n 3, 1), (4, .invokevirtual 27, 3), (7, .goto 7, 3), (10, .astore 4, 2), (12, .iconst 1, 1), (13, .ireturn, 1), (14, .iconst 0, 1), (15, .ireturn, 1)]
theorem v_Law_pull_0 : u_Law_pull_0.all (zdq method_6_code) = true := by decide +kernel
theorem d_Law_pull_0 : decode method_6_code 0 = .ok (.aload_n 0, 1) := zdt v_Law_pull_0 0 (q := (0, .aload_n 0, 1)) rfl
theorem d_Law_pull_1 : decode method_6_code 1 = .ok (.iload_n 1, 1) := zdt v_Law_pull_0 1 (q := (1, .iload_n 1, 1)) rfl
theorem d_Law_pull_2 : decode method_6_code 2 = .ok (.iload_n 2, 1) := zdt v_Law_pull_0 2 (q := (2, .iload_n 2, 1)) rfl
theorem d_Law_pull_3 : decode method_6_code 3 = .ok (.iload_n 3, 1) := zdt v_Law_pull_0 3 (q := (3, .iload_n 3, 1)) rfl
theorem d_Law_pull_4 : decode method_6_code 4 = .ok (.invokevirtual 27, 3) := zdt v_Law_pull_0 4 (q := (4, .invokevirtual 27, 3)) rfl
theorem d_Law_pull_7 : decode method_6_code 7 = .ok (.goto 7, 3) := zdt v_Law_pull_0 5 (q := (7, .goto 7, 3)) rfl
theorem d_Law_pull_10 : decode method_6_code 10 = .ok (.astore 4, 2) := zdt v_Law_pull_0 6 (q := (10, .astore 4, 2)) rfl
theorem d_Law_pull_12 : decode method_6_code 12 = .ok (.iconst 1, 1) := zdt v_Law_pull_0 7 (q := (12, .iconst 1, 1)) rfl
theorem d_Law_pull_13 : decode method_6_code 13 = .ok (.ireturn, 1) := zdt v_Law_pull_0 8 (q := (13, .ireturn, 1)) rfl
theorem d_Law_pull_14 : decode method_6_code 14 = .ok (.iconst 0, 1) := zdt v_Law_pull_0 9 (q := (14, .iconst 0, 1)) rfl
theorem d_Law_pull_15 : decode method_6_code 15 = .ok (.ireturn, 1) := zdt v_Law_pull_0 10 (q := (15, .ireturn, 1)) rfl
def u_WP_pull_0 : List (Nat × Instr × Nat) := [(0, .iload_n 1, 1), (1, .iload_n 2, 1), (2, .iload_n 3, 1), (3, .invokestatic 105, 3), (6, .ifCond .ne 13, 3), (9, .new 71, 3), (12, .dup, 1), (13, .ldc 113, 2), (15, .invokespecial 75, 3), (18, .athrow, 1), (19, .aload_n 0, 1), (20, .getfield 23, 3), (23, .iload_n 1, 1), (24, .iload_n 2, 1), (25, .iload_n 3, 1), (26, .invokevirtual 61, 3), (29, .return_, 1)]
theorem v_WP_pull_0 : u_WP_pull_0.all (zdq prog_1_method_6_code) = true := by decide +kernel
theorem d_WP_pull_0 : decode prog_1_method_6_code 0 = .ok (.iload_n 1, 1) := zdt v_WP_pull_0 0 (q := (0, .iload_n 1, 1)) rfl
theorem d_WP_pull_1 : decode prog_1_method_6_code 1 = .ok (.iload_n 2, 1) := zdt v_WP_pull_0 1 (q := (1, .iload_n 2, 1)) rfl
theorem d_WP_pull_2 : decode prog_1_method_6_code 2 = .ok (.iload_n 3, 1) := zdt v_WP_pull_0 2 (q := (2, .iload_n 3, 1)) rfl
theorem d_WP_pull_3 : decode prog_1_method_6_code 3 = .ok (.invokestatic 105, 3) := zdt v_WP_pull_0 3 (q := (3, .invokestatic 105, 3)) rfl
theorem d_WP_pull_6 : decode prog_1_method_6_code 6 = .ok (.ifCond .ne 13, 3) := zdt v_WP_pull_0 4 (q := (6, .ifCond .ne 13, 3)) rfl
theorem d_WP_pull_9 : decode prog_1_method_6_code 9 = .ok (.new 71, 3) := zdt v_WP_pull_0 5 (q := (9, .new 71, 3)) rfl
theorem d_WP_pull_12 : decode prog_1_method_6_code 12 = .ok (.dup, 1) := zdt v_WP_pull_0 6 (q := (12, .dup, 1)) rfl
theorem d_WP_pull_13 : decode prog_1_method_6_code 13 = .ok (.ldc 113, 2) := zdt v_WP_pull_0 7 (q := (13, .ldc 113, 2)) rfl
theorem d_WP_pull_15 : decode prog_1_method_6_code 15 = .ok (.invokespecial 75, 3) := zdt v_WP_pull_0 8 (q := (15, .invokespecial 75, 3)) rfl
theorem d_WP_pull_18 : decode prog_1_method_6_code 18 = .ok (.athrow, 1) := zdt v_WP_pull_0 9 (q := (18, .athrow, 1)) rfl
theorem d_WP_pull_19 : decode prog_1_method_6_code 19 = .ok (.aload_n 0, 1) := zdt v_WP_pull_0 10 (q := (19, .aload_n 0, 1)) rfl
theorem d_WP_pull_20 : decode prog_1_method_6_code 20 = .ok (.getfield 23, 3) := zdt v_WP_pull_0 11 (q := (20, .getfield 23, 3)) rfl
theorem d_WP_pull_23 : decode prog_1_method_6_code 23 = .ok (.iload_n 1, 1) := zdt v_WP_pull_0 12 (q := (23, .iload_n 1, 1)) rfl
theorem d_WP_pull_24 : decode prog_1_method_6_code 24 = .ok (.iload_n 2, 1) := zdt v_WP_pull_0 13 (q := (24, .iload_n 2, 1)) rfl
theorem d_WP_pull_25 : decode prog_1_method_6_code 25 = .ok (.iload_n 3, 1) := zdt v_WP_pull_0 14 (q := (25, .iload_n 3, 1)) rfl
theorem d_WP_pull_26 : decode prog_1_method_6_code 26 = .ok (.invokevirtual 61, 3) := zdt v_WP_pull_0 15 (q := (26, .invokevirtual 61, 3)) rfl
theorem d_WP_pull_29 : decode prog_1_method_6_code 29 = .ok (.return_, 1) := zdt v_WP_pull_0 16 (q := (29, .return_, 1)) rfl
def u_Law_block_0 : List (Nat × Instr × Nat) := [(0, .aload_n 3, 1), (1, .iconst 0, 1), (2, .aload_n 0, 1), (3, .iload_n 1, 1), (4, .iload_n 2, 1), (5, .invokevirtual 31, 3), (8, .i2l, 1), (9, .lastore, 1), (10, .goto 7, 3), (13, .astore 4, 2), (15, .iconst 1, 1), (16, .ireturn, 1), (17, .iconst 0, 1), (18, .ireturn, 1)]
theorem v_Law_block_0 : u_Law_block_0.all (zdq method_7_code) = true := by decide +kernel
theorem d_Law_block_0 : decode method_7_code 0 = .ok (.aload_n 3, 1) := zdt v_Law_block_0 0 (q := (0, .aload_n 3, 1)) rfl
theorem d_Law_block_1 : decode method_7_code 1 = .ok (.iconst 0, 1) := zdt v_Law_block_0 1 (q := (1, .iconst 0, 1)) rfl
theorem d_Law_block_2 : decode method_7_code 2 = .ok (.aload_n 0, 1) := zdt v_Law_block_0 2 (q := (2, .aload_n 0, 1)) rfl
theorem d_Law_block_3 : decode method_7_code 3 = .ok (.iload_n 1, 1) := zdt v_Law_block_0 3 (q := (3, .iload_n 1, 1)) rfl
theorem d_Law_block_4 : decode method_7_code 4 = .ok (.iload_n 2, 1) := zdt v_Law_block_0 4 (q := (4, .iload_n 2, 1)) rfl
theorem d_Law_block_5 : decode method_7_code 5 = .ok (.invokevirtual 31, 3) := zdt v_Law_block_0 5 (q := (5, .invokevirtual 31, 3)) rfl
theorem d_Law_block_8 : decode method_7_code 8 = .ok (.i2l, 1) := zdt v_Law_block_0 6 (q := (8, .i2l, 1)) rfl
theorem d_Law_block_9 : decode method_7_code 9 = .ok (.lastore, 1) := zdt v_Law_block_0 7 (q := (9, .lastore, 1)) rfl
theorem d_Law_block_10 : decode method_7_code 10 = .ok (.goto 7, 3) := zdt v_Law_block_0 8 (q := (10, .goto 7, 3)) rfl
theorem d_Law_block_13 : decode method_7_code 13 = .ok (.astore 4, 2) := zdt v_Law_block_0 9 (q := (13, .astore 4, 2)) rfl
theorem d_Law_block_15 : decode method_7_code 15 = .ok (.iconst 1, 1) := zdt v_Law_block_0 10 (q := (15, .iconst 1, 1)) rfl
theorem d_Law_block_16 : decode method_7_code 16 = .ok (.ireturn, 1) := zdt v_Law_block_0 11 (q := (16, .ireturn, 1)) rfl
theorem d_Law_block_17 : decode method_7_code 17 = .ok (.iconst 0, 1) := zdt v_Law_block_0 12 (q := (17, .iconst 0, 1)) rfl
theorem d_Law_block_18 : decode method_7_code 18 = .ok (.ireturn, 1) := zdt v_Law_block_0 13 (q := (18, .ireturn, 1)) rfl
def u_WP_block_0 : List (Nat × Instr × Nat) := [(0, .aload_n 0, 1), (1, .iload_n 1, 1), (2, .invokevirtual 118, 3), (5, .iload_n 2, 1), (6, .tableswitch 88 0 4 #[34, 44, 54, 64, 73], 34), (40, .aload_n 0, 1), (41, .getfield 57, 3), (44, .getfield 122, 3), (47, .iload_n 1, 1), (48, .iaload, 1), (49, .ireturn, 1), (50, .aload_n 0, 1), (51, .getfield 57, 3), (54, .getfield 125, 3), (57, .iload_n 1, 1), (58, .iaload, 1), (59, .ireturn, 1), (60, .aload_n 0, 1), (61, .getfield 57, 3), (64, .getfield 128, 3), (67, .iload_n 1, 1), (68, .iaload, 1), (69, .ireturn, 1), (70, .aload_n 0, 1), (71, .getfield 57, 3), (74, .iload_n 1, 1), (75, .invokevirtual 131, 3), (78, .ireturn, 1), (79, .aload_n 0, 1), (80, .getfield 27, 3), (83, .iload_n 1, 1), (84, .baload, 1), (85, .ifCond .eq 7, 3), (88, .iconst 1, 1), (89, .goto 4, 3), (92, .iconst 0, 1), (93, .ireturn, 1), (94, .new 96, 3), (97, .dup, 1), (98, .ldc 134, 2)]
theorem v_WP_block_0 : u_WP_block_0.all (zdq prog_1_method_8_code) = true := by decide +kernel
theorem d_WP_block_0 : decode prog_1_method_8_code 0 = .ok (.aload_n 0, 1) := zdt v_WP_block_0 0 (q := (0, .aload_n 0, 1)) rfl
theorem d_WP_block_1 : decode prog_1_method_8_code 1 = .ok (.iload_n 1, 1) := zdt v_WP_block_0 1 (q := (1, .iload_n 1, 1)) rfl
theorem d_WP_block_2 : decode prog_1_method_8_code 2 = .ok (.invokevirtual 118, 3) := zdt v_WP_block_0 2 (q := (2, .invokevirtual 118, 3)) rfl
theorem d_WP_block_5 : decode prog_1_method_8_code 5 = .ok (.iload_n 2, 1) := zdt v_WP_block_0 3 (q := (5, .iload_n 2, 1)) rfl
theorem d_WP_block_6 : decode prog_1_method_8_code 6 = .ok (.tableswitch 88 0 4 #[34, 44, 54, 64, 73], 34) := zdt v_WP_block_0 4 (q := (6, .tableswitch 88 0 4 #[34, 44, 54, 64, 73], 34)) rfl
theorem d_WP_block_40 : decode prog_1_method_8_code 40 = .ok (.aload_n 0, 1) := zdt v_WP_block_0 5 (q := (40, .aload_n 0, 1)) rfl
theorem d_WP_block_41 : decode prog_1_method_8_code 41 = .ok (.getfield 57, 3) := zdt v_WP_block_0 6 (q := (41, .getfield 57, 3)) rfl
theorem d_WP_block_44 : decode prog_1_method_8_code 44 = .ok (.getfield 122, 3) := zdt v_WP_block_0 7 (q := (44, .getfield 122, 3)) rfl
theorem d_WP_block_47 : decode prog_1_method_8_code 47 = .ok (.iload_n 1, 1) := zdt v_WP_block_0 8 (q := (47, .iload_n 1, 1)) rfl
theorem d_WP_block_48 : decode prog_1_method_8_code 48 = .ok (.iaload, 1) := zdt v_WP_block_0 9 (q := (48, .iaload, 1)) rfl
theorem d_WP_block_49 : decode prog_1_method_8_code 49 = .ok (.ireturn, 1) := zdt v_WP_block_0 10 (q := (49, .ireturn, 1)) rfl
theorem d_WP_block_50 : decode prog_1_method_8_code 50 = .ok (.aload_n 0, 1) := zdt v_WP_block_0 11 (q := (50, .aload_n 0, 1)) rfl
theorem d_WP_block_51 : decode prog_1_method_8_code 51 = .ok (.getfield 57, 3) := zdt v_WP_block_0 12 (q := (51, .getfield 57, 3)) rfl
theorem d_WP_block_54 : decode prog_1_method_8_code 54 = .ok (.getfield 125, 3) := zdt v_WP_block_0 13 (q := (54, .getfield 125, 3)) rfl
theorem d_WP_block_57 : decode prog_1_method_8_code 57 = .ok (.iload_n 1, 1) := zdt v_WP_block_0 14 (q := (57, .iload_n 1, 1)) rfl
theorem d_WP_block_58 : decode prog_1_method_8_code 58 = .ok (.iaload, 1) := zdt v_WP_block_0 15 (q := (58, .iaload, 1)) rfl
theorem d_WP_block_59 : decode prog_1_method_8_code 59 = .ok (.ireturn, 1) := zdt v_WP_block_0 16 (q := (59, .ireturn, 1)) rfl
theorem d_WP_block_60 : decode prog_1_method_8_code 60 = .ok (.aload_n 0, 1) := zdt v_WP_block_0 17 (q := (60, .aload_n 0, 1)) rfl
theorem d_WP_block_61 : decode prog_1_method_8_code 61 = .ok (.getfield 57, 3) := zdt v_WP_block_0 18 (q := (61, .getfield 57, 3)) rfl
theorem d_WP_block_64 : decode prog_1_method_8_code 64 = .ok (.getfield 128, 3) := zdt v_WP_block_0 19 (q := (64, .getfield 128, 3)) rfl
theorem d_WP_block_67 : decode prog_1_method_8_code 67 = .ok (.iload_n 1, 1) := zdt v_WP_block_0 20 (q := (67, .iload_n 1, 1)) rfl
theorem d_WP_block_68 : decode prog_1_method_8_code 68 = .ok (.iaload, 1) := zdt v_WP_block_0 21 (q := (68, .iaload, 1)) rfl
theorem d_WP_block_69 : decode prog_1_method_8_code 69 = .ok (.ireturn, 1) := zdt v_WP_block_0 22 (q := (69, .ireturn, 1)) rfl
theorem d_WP_block_70 : decode prog_1_method_8_code 70 = .ok (.aload_n 0, 1) := zdt v_WP_block_0 23 (q := (70, .aload_n 0, 1)) rfl
theorem d_WP_block_71 : decode prog_1_method_8_code 71 = .ok (.getfield 57, 3) := zdt v_WP_block_0 24 (q := (71, .getfield 57, 3)) rfl
theorem d_WP_block_74 : decode prog_1_method_8_code 74 = .ok (.iload_n 1, 1) := zdt v_WP_block_0 25 (q := (74, .iload_n 1, 1)) rfl
theorem d_WP_block_75 : decode prog_1_method_8_code 75 = .ok (.invokevirtual 131, 3) := zdt v_WP_block_0 26 (q := (75, .invokevirtual 131, 3)) rfl
theorem d_WP_block_78 : decode prog_1_method_8_code 78 = .ok (.ireturn, 1) := zdt v_WP_block_0 27 (q := (78, .ireturn, 1)) rfl
theorem d_WP_block_79 : decode prog_1_method_8_code 79 = .ok (.aload_n 0, 1) := zdt v_WP_block_0 28 (q := (79, .aload_n 0, 1)) rfl
theorem d_WP_block_80 : decode prog_1_method_8_code 80 = .ok (.getfield 27, 3) := zdt v_WP_block_0 29 (q := (80, .getfield 27, 3)) rfl
theorem d_WP_block_83 : decode prog_1_method_8_code 83 = .ok (.iload_n 1, 1) := zdt v_WP_block_0 30 (q := (83, .iload_n 1, 1)) rfl
theorem d_WP_block_84 : decode prog_1_method_8_code 84 = .ok (.baload, 1) := zdt v_WP_block_0 31 (q := (84, .baload, 1)) rfl
theorem d_WP_block_85 : decode prog_1_method_8_code 85 = .ok (.ifCond .eq 7, 3) := zdt v_WP_block_0 32 (q := (85, .ifCond .eq 7, 3)) rfl
theorem d_WP_block_88 : decode prog_1_method_8_code 88 = .ok (.iconst 1, 1) := zdt v_WP_block_0 33 (q := (88, .iconst 1, 1)) rfl
theorem d_WP_block_89 : decode prog_1_method_8_code 89 = .ok (.goto 4, 3) := zdt v_WP_block_0 34 (q := (89, .goto 4, 3)) rfl
theorem d_WP_block_92 : decode prog_1_method_8_code 92 = .ok (.iconst 0, 1) := zdt v_WP_block_0 35 (q := (92, .iconst 0, 1)) rfl
theorem d_WP_block_93 : decode prog_1_method_8_code 93 = .ok (.ireturn, 1) := zdt v_WP_block_0 36 (q := (93, .ireturn, 1)) rfl
theorem d_WP_block_94 : decode prog_1_method_8_code 94 = .ok (.new 96, 3) := zdt v_WP_block_0 37 (q := (94, .new 96, 3)) rfl
theorem d_WP_block_97 : decode prog_1_method_8_code 97 = .ok (.dup, 1) := zdt v_WP_block_0 38 (q := (97, .dup, 1)) rfl
theorem d_WP_block_98 : decode prog_1_method_8_code 98 = .ok (.ldc 134, 2) := zdt v_WP_block_0 39 (q := (98, .ldc 134, 2)) rfl
def u_WP_block_1 : List (Nat × Instr × Nat) := [(100, .invokespecial 100, 3), (103, .athrow, 1)]
theorem v_WP_block_1 : u_WP_block_1.all (zdq prog_1_method_8_code) = true := by decide +kernel
theorem d_WP_block_100 : decode prog_1_method_8_code 100 = .ok (.invokespecial 100, 3) := zdt v_WP_block_1 0 (q := (100, .invokespecial 100, 3)) rfl
theorem d_WP_block_103 : decode prog_1_method_8_code 103 = .ok (.athrow, 1) := zdt v_WP_block_1 1 (q := (103, .athrow, 1)) rfl
def u_WP_needBlock_0 : List (Nat × Instr × Nat) := [(0, .iload_n 1, 1), (1, .ifCond .lt 14, 3), (4, .iload_n 1, 1), (5, .aload_n 0, 1), (6, .getfield 57, 3), (9, .getfield 115, 3), (12, .if_icmp .lt 13, 3), (15, .new 96, 3), (18, .dup, 1), (19, .ldc 215, 2), (21, .invokespecial 100, 3), (24, .athrow, 1), (25, .return_, 1)]
theorem v_WP_needBlock_0 : u_WP_needBlock_0.all (zdq prog_1_method_24_code) = true := by decide +kernel
theorem d_WP_needBlock_0 : decode prog_1_method_24_code 0 = .ok (.iload_n 1, 1) := zdt v_WP_needBlock_0 0 (q := (0, .iload_n 1, 1)) rfl
theorem d_WP_needBlock_1 : decode prog_1_method_24_code 1 = .ok (.ifCond .lt 14, 3) := zdt v_WP_needBlock_0 1 (q := (1, .ifCond .lt 14, 3)) rfl
theorem d_WP_needBlock_4 : decode prog_1_method_24_code 4 = .ok (.iload_n 1, 1) := zdt v_WP_needBlock_0 2 (q := (4, .iload_n 1, 1)) rfl
theorem d_WP_needBlock_5 : decode prog_1_method_24_code 5 = .ok (.aload_n 0, 1) := zdt v_WP_needBlock_0 3 (q := (5, .aload_n 0, 1)) rfl
theorem d_WP_needBlock_6 : decode prog_1_method_24_code 6 = .ok (.getfield 57, 3) := zdt v_WP_needBlock_0 4 (q := (6, .getfield 57, 3)) rfl
theorem d_WP_needBlock_9 : decode prog_1_method_24_code 9 = .ok (.getfield 115, 3) := zdt v_WP_needBlock_0 5 (q := (9, .getfield 115, 3)) rfl
theorem d_WP_needBlock_12 : decode prog_1_method_24_code 12 = .ok (.if_icmp .lt 13, 3) := zdt v_WP_needBlock_0 6 (q := (12, .if_icmp .lt 13, 3)) rfl
theorem d_WP_needBlock_15 : decode prog_1_method_24_code 15 = .ok (.new 96, 3) := zdt v_WP_needBlock_0 7 (q := (15, .new 96, 3)) rfl
theorem d_WP_needBlock_18 : decode prog_1_method_24_code 18 = .ok (.dup, 1) := zdt v_WP_needBlock_0 8 (q := (18, .dup, 1)) rfl
theorem d_WP_needBlock_19 : decode prog_1_method_24_code 19 = .ok (.ldc 215, 2) := zdt v_WP_needBlock_0 9 (q := (19, .ldc 215, 2)) rfl
theorem d_WP_needBlock_21 : decode prog_1_method_24_code 21 = .ok (.invokespecial 100, 3) := zdt v_WP_needBlock_0 10 (q := (21, .invokespecial 100, 3)) rfl
theorem d_WP_needBlock_24 : decode prog_1_method_24_code 24 = .ok (.athrow, 1) := zdt v_WP_needBlock_0 11 (q := (24, .athrow, 1)) rfl
theorem d_WP_needBlock_25 : decode prog_1_method_24_code 25 = .ok (.return_, 1) := zdt v_WP_needBlock_0 12 (q := (25, .return_, 1)) rfl
def u_Law_corner_0 : List (Nat × Instr × Nat) := [(0, .aload 4, 2), (2, .iconst 0, 1), (3, .aload_n 0, 1), (4, .iload_n 1, 1), (5, .iload_n 2, 1), (6, .iload_n 3, 1), (7, .invokevirtual 35, 3), (10, .i2l, 1), (11, .lastore, 1), (12, .goto 7, 3), (15, .astore 5, 2), (17, .iconst 1, 1), (18, .ireturn, 1), (19, .iconst 0, 1), (20, .ireturn, 1)]
theorem v_Law_corner_0 : u_Law_corner_0.all (zdq method_8_code) = true := by decide +kernel
theorem d_Law_corner_0 : decode method_8_code 0 = .ok (.aload 4, 2) := zdt v_Law_corner_0 0 (q := (0, .aload 4, 2)) rfl
theorem d_Law_corner_2 : decode method_8_code 2 = .ok (.iconst 0, 1) := zdt v_Law_corner_0 1 (q := (2, .iconst 0, 1)) rfl
theorem d_Law_corner_3 : decode method_8_code 3 = .ok (.aload_n 0, 1) := zdt v_Law_corner_0 2 (q := (3, .aload_n 0, 1)) rfl
theorem d_Law_corner_4 : decode method_8_code 4 = .ok (.iload_n 1, 1) := zdt v_Law_corner_0 3 (q := (4, .iload_n 1, 1)) rfl
theorem d_Law_corner_5 : decode method_8_code 5 = .ok (.iload_n 2, 1) := zdt v_Law_corner_0 4 (q := (5, .iload_n 2, 1)) rfl
theorem d_Law_corner_6 : decode method_8_code 6 = .ok (.iload_n 3, 1) := zdt v_Law_corner_0 5 (q := (6, .iload_n 3, 1)) rfl
theorem d_Law_corner_7 : decode method_8_code 7 = .ok (.invokevirtual 35, 3) := zdt v_Law_corner_0 6 (q := (7, .invokevirtual 35, 3)) rfl
theorem d_Law_corner_10 : decode method_8_code 10 = .ok (.i2l, 1) := zdt v_Law_corner_0 7 (q := (10, .i2l, 1)) rfl
theorem d_Law_corner_11 : decode method_8_code 11 = .ok (.lastore, 1) := zdt v_Law_corner_0 8 (q := (11, .lastore, 1)) rfl
theorem d_Law_corner_12 : decode method_8_code 12 = .ok (.goto 7, 3) := zdt v_Law_corner_0 9 (q := (12, .goto 7, 3)) rfl
theorem d_Law_corner_15 : decode method_8_code 15 = .ok (.astore 5, 2) := zdt v_Law_corner_0 10 (q := (15, .astore 5, 2)) rfl
theorem d_Law_corner_17 : decode method_8_code 17 = .ok (.iconst 1, 1) := zdt v_Law_corner_0 11 (q := (17, .iconst 1, 1)) rfl
theorem d_Law_corner_18 : decode method_8_code 18 = .ok (.ireturn, 1) := zdt v_Law_corner_0 12 (q := (18, .ireturn, 1)) rfl
theorem d_Law_corner_19 : decode method_8_code 19 = .ok (.iconst 0, 1) := zdt v_Law_corner_0 13 (q := (19, .iconst 0, 1)) rfl
theorem d_Law_corner_20 : decode method_8_code 20 = .ok (.ireturn, 1) := zdt v_Law_corner_0 14 (q := (20, .ireturn, 1)) rfl
def u_WP_corner_0 : List (Nat × Instr × Nat) := [(0, .aload_n 0, 1), (1, .iload_n 1, 1), (2, .invokevirtual 118, 3), (5, .iload_n 2, 1), (6, .ifCond .lt 16, 3), (9, .iload_n 2, 1), (10, .aload_n 0, 1), (11, .getfield 57, 3), (14, .getfield 128, 3), (17, .iload_n 1, 1), (18, .iaload, 1), (19, .if_icmp .lt 13, 3), (22, .new 96, 3), (25, .dup, 1), (26, .ldc 136, 2), (28, .invokespecial 100, 3), (31, .athrow, 1), (32, .aload_n 0, 1), (33, .getfield 57, 3), (36, .iload_n 1, 1), (37, .iload_n 2, 1), (38, .invokevirtual 138, 3), (41, .istore 4, 2), (43, .iload_n 3, 1), (44, .tableswitch 88 0 3 #[32, 46, 60, 74], 32), (76, .aload_n 0, 1), (77, .getfield 57, 3), (80, .getfield 142, 3), (83, .getfield 146, 3), (86, .iload 4, 2), (88, .iaload, 1), (89, .ireturn, 1), (90, .aload_n 0, 1), (91, .getfield 57, 3), (94, .getfield 142, 3), (97, .getfield 151, 3), (100, .iload 4, 2), (102, .iaload, 1), (103, .ireturn, 1), (104, .aload_n 0, 1)]
theorem v_WP_corner_0 : u_WP_corner_0.all (zdq prog_1_method_9_code) = true := by decide +kernel
theorem d_WP_corner_0 : decode prog_1_method_9_code 0 = .ok (.aload_n 0, 1) := zdt v_WP_corner_0 0 (q := (0, .aload_n 0, 1)) rfl
theorem d_WP_corner_1 : decode prog_1_method_9_code 1 = .ok (.iload_n 1, 1) := zdt v_WP_corner_0 1 (q := (1, .iload_n 1, 1)) rfl
theorem d_WP_corner_2 : decode prog_1_method_9_code 2 = .ok (.invokevirtual 118, 3) := zdt v_WP_corner_0 2 (q := (2, .invokevirtual 118, 3)) rfl
theorem d_WP_corner_5 : decode prog_1_method_9_code 5 = .ok (.iload_n 2, 1) := zdt v_WP_corner_0 3 (q := (5, .iload_n 2, 1)) rfl
theorem d_WP_corner_6 : decode prog_1_method_9_code 6 = .ok (.ifCond .lt 16, 3) := zdt v_WP_corner_0 4 (q := (6, .ifCond .lt 16, 3)) rfl
theorem d_WP_corner_9 : decode prog_1_method_9_code 9 = .ok (.iload_n 2, 1) := zdt v_WP_corner_0 5 (q := (9, .iload_n 2, 1)) rfl
theorem d_WP_corner_10 : decode prog_1_method_9_code 10 = .ok (.aload_n 0, 1) := zdt v_WP_corner_0 6 (q := (10, .aload_n 0, 1)) rfl
theorem d_WP_corner_11 : decode prog_1_method_9_code 11 = .ok (.getfield 57, 3) := zdt v_WP_corner_0 7 (q := (11, .getfield 57, 3)) rfl
theorem d_WP_corner_14 : decode prog_1_method_9_code 14 = .ok (.getfield 128, 3) := zdt v_WP_corner_0 8 (q := (14, .getfield 128, 3)) rfl
theorem d_WP_corner_17 : decode prog_1_method_9_code 17 = .ok (.iload_n 1, 1) := zdt v_WP_corner_0 9 (q := (17, .iload_n 1, 1)) rfl
theorem d_WP_corner_18 : decode prog_1_method_9_code 18 = .ok (.iaload, 1) := zdt v_WP_corner_0 10 (q := (18, .iaload, 1)) rfl
theorem d_WP_corner_19 : decode prog_1_method_9_code 19 = .ok (.if_icmp .lt 13, 3) := zdt v_WP_corner_0 11 (q := (19, .if_icmp .lt 13, 3)) rfl
theorem d_WP_corner_22 : decode prog_1_method_9_code 22 = .ok (.new 96, 3) := zdt v_WP_corner_0 12 (q := (22, .new 96, 3)) rfl
theorem d_WP_corner_25 : decode prog_1_method_9_code 25 = .ok (.dup, 1) := zdt v_WP_corner_0 13 (q := (25, .dup, 1)) rfl
theorem d_WP_corner_26 : decode prog_1_method_9_code 26 = .ok (.ldc 136, 2) := zdt v_WP_corner_0 14 (q := (26, .ldc 136, 2)) rfl
theorem d_WP_corner_28 : decode prog_1_method_9_code 28 = .ok (.invokespecial 100, 3) := zdt v_WP_corner_0 15 (q := (28, .invokespecial 100, 3)) rfl
theorem d_WP_corner_31 : decode prog_1_method_9_code 31 = .ok (.athrow, 1) := zdt v_WP_corner_0 16 (q := (31, .athrow, 1)) rfl
theorem d_WP_corner_32 : decode prog_1_method_9_code 32 = .ok (.aload_n 0, 1) := zdt v_WP_corner_0 17 (q := (32, .aload_n 0, 1)) rfl
theorem d_WP_corner_33 : decode prog_1_method_9_code 33 = .ok (.getfield 57, 3) := zdt v_WP_corner_0 18 (q := (33, .getfield 57, 3)) rfl
theorem d_WP_corner_36 : decode prog_1_method_9_code 36 = .ok (.iload_n 1, 1) := zdt v_WP_corner_0 19 (q := (36, .iload_n 1, 1)) rfl
theorem d_WP_corner_37 : decode prog_1_method_9_code 37 = .ok (.iload_n 2, 1) := zdt v_WP_corner_0 20 (q := (37, .iload_n 2, 1)) rfl
theorem d_WP_corner_38 : decode prog_1_method_9_code 38 = .ok (.invokevirtual 138, 3) := zdt v_WP_corner_0 21 (q := (38, .invokevirtual 138, 3)) rfl
theorem d_WP_corner_41 : decode prog_1_method_9_code 41 = .ok (.istore 4, 2) := zdt v_WP_corner_0 22 (q := (41, .istore 4, 2)) rfl
theorem d_WP_corner_43 : decode prog_1_method_9_code 43 = .ok (.iload_n 3, 1) := zdt v_WP_corner_0 23 (q := (43, .iload_n 3, 1)) rfl
theorem d_WP_corner_44 : decode prog_1_method_9_code 44 = .ok (.tableswitch 88 0 3 #[32, 46, 60, 74], 32) := zdt v_WP_corner_0 24 (q := (44, .tableswitch 88 0 3 #[32, 46, 60, 74], 32)) rfl
theorem d_WP_corner_76 : decode prog_1_method_9_code 76 = .ok (.aload_n 0, 1) := zdt v_WP_corner_0 25 (q := (76, .aload_n 0, 1)) rfl
theorem d_WP_corner_77 : decode prog_1_method_9_code 77 = .ok (.getfield 57, 3) := zdt v_WP_corner_0 26 (q := (77, .getfield 57, 3)) rfl
theorem d_WP_corner_80 : decode prog_1_method_9_code 80 = .ok (.getfield 142, 3) := zdt v_WP_corner_0 27 (q := (80, .getfield 142, 3)) rfl
theorem d_WP_corner_83 : decode prog_1_method_9_code 83 = .ok (.getfield 146, 3) := zdt v_WP_corner_0 28 (q := (83, .getfield 146, 3)) rfl
theorem d_WP_corner_86 : decode prog_1_method_9_code 86 = .ok (.iload 4, 2) := zdt v_WP_corner_0 29 (q := (86, .iload 4, 2)) rfl
theorem d_WP_corner_88 : decode prog_1_method_9_code 88 = .ok (.iaload, 1) := zdt v_WP_corner_0 30 (q := (88, .iaload, 1)) rfl
theorem d_WP_corner_89 : decode prog_1_method_9_code 89 = .ok (.ireturn, 1) := zdt v_WP_corner_0 31 (q := (89, .ireturn, 1)) rfl
theorem d_WP_corner_90 : decode prog_1_method_9_code 90 = .ok (.aload_n 0, 1) := zdt v_WP_corner_0 32 (q := (90, .aload_n 0, 1)) rfl
theorem d_WP_corner_91 : decode prog_1_method_9_code 91 = .ok (.getfield 57, 3) := zdt v_WP_corner_0 33 (q := (91, .getfield 57, 3)) rfl
theorem d_WP_corner_94 : decode prog_1_method_9_code 94 = .ok (.getfield 142, 3) := zdt v_WP_corner_0 34 (q := (94, .getfield 142, 3)) rfl
theorem d_WP_corner_97 : decode prog_1_method_9_code 97 = .ok (.getfield 151, 3) := zdt v_WP_corner_0 35 (q := (97, .getfield 151, 3)) rfl
theorem d_WP_corner_100 : decode prog_1_method_9_code 100 = .ok (.iload 4, 2) := zdt v_WP_corner_0 36 (q := (100, .iload 4, 2)) rfl
theorem d_WP_corner_102 : decode prog_1_method_9_code 102 = .ok (.iaload, 1) := zdt v_WP_corner_0 37 (q := (102, .iaload, 1)) rfl
theorem d_WP_corner_103 : decode prog_1_method_9_code 103 = .ok (.ireturn, 1) := zdt v_WP_corner_0 38 (q := (103, .ireturn, 1)) rfl
theorem d_WP_corner_104 : decode prog_1_method_9_code 104 = .ok (.aload_n 0, 1) := zdt v_WP_corner_0 39 (q := (104, .aload_n 0, 1)) rfl
def u_WP_corner_1 : List (Nat × Instr × Nat) := [(105, .getfield 57, 3), (108, .getfield 142, 3), (111, .getfield 154, 3), (114, .iload 4, 2), (116, .iaload, 1), (117, .ireturn, 1), (118, .aload_n 0, 1), (119, .getfield 57, 3), (122, .getfield 142, 3), (125, .getfield 157, 3), (128, .iload 4, 2), (130, .iaload, 1), (131, .ireturn, 1), (132, .new 96, 3), (135, .dup, 1), (136, .ldc 160, 2), (138, .invokespecial 100, 3), (141, .athrow, 1)]
theorem v_WP_corner_1 : u_WP_corner_1.all (zdq prog_1_method_9_code) = true := by decide +kernel
theorem d_WP_corner_105 : decode prog_1_method_9_code 105 = .ok (.getfield 57, 3) := zdt v_WP_corner_1 0 (q := (105, .getfield 57, 3)) rfl
theorem d_WP_corner_108 : decode prog_1_method_9_code 108 = .ok (.getfield 142, 3) := zdt v_WP_corner_1 1 (q := (108, .getfield 142, 3)) rfl
theorem d_WP_corner_111 : decode prog_1_method_9_code 111 = .ok (.getfield 154, 3) := zdt v_WP_corner_1 2 (q := (111, .getfield 154, 3)) rfl
theorem d_WP_corner_114 : decode prog_1_method_9_code 114 = .ok (.iload 4, 2) := zdt v_WP_corner_1 3 (q := (114, .iload 4, 2)) rfl
theorem d_WP_corner_116 : decode prog_1_method_9_code 116 = .ok (.iaload, 1) := zdt v_WP_corner_1 4 (q := (116, .iaload, 1)) rfl
theorem d_WP_corner_117 : decode prog_1_method_9_code 117 = .ok (.ireturn, 1) := zdt v_WP_corner_1 5 (q := (117, .ireturn, 1)) rfl
theorem d_WP_corner_118 : decode prog_1_method_9_code 118 = .ok (.aload_n 0, 1) := zdt v_WP_corner_1 6 (q := (118, .aload_n 0, 1)) rfl
theorem d_WP_corner_119 : decode prog_1_method_9_code 119 = .ok (.getfield 57, 3) := zdt v_WP_corner_1 7 (q := (119, .getfield 57, 3)) rfl
theorem d_WP_corner_122 : decode prog_1_method_9_code 122 = .ok (.getfield 142, 3) := zdt v_WP_corner_1 8 (q := (122, .getfield 142, 3)) rfl
theorem d_WP_corner_125 : decode prog_1_method_9_code 125 = .ok (.getfield 157, 3) := zdt v_WP_corner_1 9 (q := (125, .getfield 157, 3)) rfl
theorem d_WP_corner_128 : decode prog_1_method_9_code 128 = .ok (.iload 4, 2) := zdt v_WP_corner_1 10 (q := (128, .iload 4, 2)) rfl
theorem d_WP_corner_130 : decode prog_1_method_9_code 130 = .ok (.iaload, 1) := zdt v_WP_corner_1 11 (q := (130, .iaload, 1)) rfl
theorem d_WP_corner_131 : decode prog_1_method_9_code 131 = .ok (.ireturn, 1) := zdt v_WP_corner_1 12 (q := (131, .ireturn, 1)) rfl
theorem d_WP_corner_132 : decode prog_1_method_9_code 132 = .ok (.new 96, 3) := zdt v_WP_corner_1 13 (q := (132, .new 96, 3)) rfl
theorem d_WP_corner_135 : decode prog_1_method_9_code 135 = .ok (.dup, 1) := zdt v_WP_corner_1 14 (q := (135, .dup, 1)) rfl
theorem d_WP_corner_136 : decode prog_1_method_9_code 136 = .ok (.ldc 160, 2) := zdt v_WP_corner_1 15 (q := (136, .ldc 160, 2)) rfl
theorem d_WP_corner_138 : decode prog_1_method_9_code 138 = .ok (.invokespecial 100, 3) := zdt v_WP_corner_1 16 (q := (138, .invokespecial 100, 3)) rfl
theorem d_WP_corner_141 : decode prog_1_method_9_code 141 = .ok (.athrow, 1) := zdt v_WP_corner_1 17 (q := (141, .athrow, 1)) rfl
def u_Law_beside_0 : List (Nat × Instr × Nat) := [(0, .aload_n 3, 1), (1, .iconst 0, 1), (2, .aload_n 0, 1), (3, .iload_n 1, 1), (4, .iload_n 2, 1), (5, .invokevirtual 38, 3), (8, .i2l, 1), (9, .lastore, 1), (10, .goto 7, 3), (13, .astore 4, 2), (15, .iconst 1, 1), (16, .ireturn, 1), (17, .iconst 0, 1), (18, .ireturn, 1)]
theorem v_Law_beside_0 : u_Law_beside_0.all (zdq method_9_code) = true := by decide +kernel
theorem d_Law_beside_0 : decode method_9_code 0 = .ok (.aload_n 3, 1) := zdt v_Law_beside_0 0 (q := (0, .aload_n 3, 1)) rfl
theorem d_Law_beside_1 : decode method_9_code 1 = .ok (.iconst 0, 1) := zdt v_Law_beside_0 1 (q := (1, .iconst 0, 1)) rfl
theorem d_Law_beside_2 : decode method_9_code 2 = .ok (.aload_n 0, 1) := zdt v_Law_beside_0 2 (q := (2, .aload_n 0, 1)) rfl
theorem d_Law_beside_3 : decode method_9_code 3 = .ok (.iload_n 1, 1) := zdt v_Law_beside_0 3 (q := (3, .iload_n 1, 1)) rfl
theorem d_Law_beside_4 : decode method_9_code 4 = .ok (.iload_n 2, 1) := zdt v_Law_beside_0 4 (q := (4, .iload_n 2, 1)) rfl
theorem d_Law_beside_5 : decode method_9_code 5 = .ok (.invokevirtual 38, 3) := zdt v_Law_beside_0 5 (q := (5, .invokevirtual 38, 3)) rfl
theorem d_Law_beside_8 : decode method_9_code 8 = .ok (.i2l, 1) := zdt v_Law_beside_0 6 (q := (8, .i2l, 1)) rfl
theorem d_Law_beside_9 : decode method_9_code 9 = .ok (.lastore, 1) := zdt v_Law_beside_0 7 (q := (9, .lastore, 1)) rfl
theorem d_Law_beside_10 : decode method_9_code 10 = .ok (.goto 7, 3) := zdt v_Law_beside_0 8 (q := (10, .goto 7, 3)) rfl
theorem d_Law_beside_13 : decode method_9_code 13 = .ok (.astore 4, 2) := zdt v_Law_beside_0 9 (q := (13, .astore 4, 2)) rfl
theorem d_Law_beside_15 : decode method_9_code 15 = .ok (.iconst 1, 1) := zdt v_Law_beside_0 10 (q := (15, .iconst 1, 1)) rfl
theorem d_Law_beside_16 : decode method_9_code 16 = .ok (.ireturn, 1) := zdt v_Law_beside_0 11 (q := (16, .ireturn, 1)) rfl
theorem d_Law_beside_17 : decode method_9_code 17 = .ok (.iconst 0, 1) := zdt v_Law_beside_0 12 (q := (17, .iconst 0, 1)) rfl
theorem d_Law_beside_18 : decode method_9_code 18 = .ok (.ireturn, 1) := zdt v_Law_beside_0 13 (q := (18, .ireturn, 1)) rfl
def u_WP_beside_0 : List (Nat × Instr × Nat) := [(0, .aload_n 0, 1), (1, .iload_n 1, 1), (2, .invokevirtual 118, 3), (5, .iload_n 2, 1), (6, .ifCond .lt 14, 3), (9, .iload_n 2, 1), (10, .aload_n 0, 1), (11, .getfield 57, 3), (14, .getfield 78, 3), (17, .if_icmp .lt 13, 3), (20, .new 96, 3), (23, .dup, 1), (24, .ldc 165, 2), (26, .invokespecial 100, 3), (29, .athrow, 1), (30, .aload_n 0, 1), (31, .getfield 57, 3), (34, .iload_n 1, 1), (35, .iload_n 2, 1), (36, .invokevirtual 167, 3), (39, .ireturn, 1)]
theorem v_WP_beside_0 : u_WP_beside_0.all (zdq prog_1_method_11_code) = true := by decide +kernel
theorem d_WP_beside_0 : decode prog_1_method_11_code 0 = .ok (.aload_n 0, 1) := zdt v_WP_beside_0 0 (q := (0, .aload_n 0, 1)) rfl
theorem d_WP_beside_1 : decode prog_1_method_11_code 1 = .ok (.iload_n 1, 1) := zdt v_WP_beside_0 1 (q := (1, .iload_n 1, 1)) rfl
theorem d_WP_beside_2 : decode prog_1_method_11_code 2 = .ok (.invokevirtual 118, 3) := zdt v_WP_beside_0 2 (q := (2, .invokevirtual 118, 3)) rfl
theorem d_WP_beside_5 : decode prog_1_method_11_code 5 = .ok (.iload_n 2, 1) := zdt v_WP_beside_0 3 (q := (5, .iload_n 2, 1)) rfl
theorem d_WP_beside_6 : decode prog_1_method_11_code 6 = .ok (.ifCond .lt 14, 3) := zdt v_WP_beside_0 4 (q := (6, .ifCond .lt 14, 3)) rfl
theorem d_WP_beside_9 : decode prog_1_method_11_code 9 = .ok (.iload_n 2, 1) := zdt v_WP_beside_0 5 (q := (9, .iload_n 2, 1)) rfl
theorem d_WP_beside_10 : decode prog_1_method_11_code 10 = .ok (.aload_n 0, 1) := zdt v_WP_beside_0 6 (q := (10, .aload_n 0, 1)) rfl
theorem d_WP_beside_11 : decode prog_1_method_11_code 11 = .ok (.getfield 57, 3) := zdt v_WP_beside_0 7 (q := (11, .getfield 57, 3)) rfl
theorem d_WP_beside_14 : decode prog_1_method_11_code 14 = .ok (.getfield 78, 3) := zdt v_WP_beside_0 8 (q := (14, .getfield 78, 3)) rfl
theorem d_WP_beside_17 : decode prog_1_method_11_code 17 = .ok (.if_icmp .lt 13, 3) := zdt v_WP_beside_0 9 (q := (17, .if_icmp .lt 13, 3)) rfl
theorem d_WP_beside_20 : decode prog_1_method_11_code 20 = .ok (.new 96, 3) := zdt v_WP_beside_0 10 (q := (20, .new 96, 3)) rfl
theorem d_WP_beside_23 : decode prog_1_method_11_code 23 = .ok (.dup, 1) := zdt v_WP_beside_0 11 (q := (23, .dup, 1)) rfl
theorem d_WP_beside_24 : decode prog_1_method_11_code 24 = .ok (.ldc 165, 2) := zdt v_WP_beside_0 12 (q := (24, .ldc 165, 2)) rfl
theorem d_WP_beside_26 : decode prog_1_method_11_code 26 = .ok (.invokespecial 100, 3) := zdt v_WP_beside_0 13 (q := (26, .invokespecial 100, 3)) rfl
theorem d_WP_beside_29 : decode prog_1_method_11_code 29 = .ok (.athrow, 1) := zdt v_WP_beside_0 14 (q := (29, .athrow, 1)) rfl
theorem d_WP_beside_30 : decode prog_1_method_11_code 30 = .ok (.aload_n 0, 1) := zdt v_WP_beside_0 15 (q := (30, .aload_n 0, 1)) rfl
theorem d_WP_beside_31 : decode prog_1_method_11_code 31 = .ok (.getfield 57, 3) := zdt v_WP_beside_0 16 (q := (31, .getfield 57, 3)) rfl
theorem d_WP_beside_34 : decode prog_1_method_11_code 34 = .ok (.iload_n 1, 1) := zdt v_WP_beside_0 17 (q := (34, .iload_n 1, 1)) rfl
theorem d_WP_beside_35 : decode prog_1_method_11_code 35 = .ok (.iload_n 2, 1) := zdt v_WP_beside_0 18 (q := (35, .iload_n 2, 1)) rfl
theorem d_WP_beside_36 : decode prog_1_method_11_code 36 = .ok (.invokevirtual 167, 3) := zdt v_WP_beside_0 19 (q := (36, .invokevirtual 167, 3)) rfl
theorem d_WP_beside_39 : decode prog_1_method_11_code 39 = .ok (.ireturn, 1) := zdt v_WP_beside_0 20 (q := (39, .ireturn, 1)) rfl
def u_Law_goes_0 : List (Nat × Instr × Nat) := [(0, .aload_n 3, 1), (1, .iconst 0, 1), (2, .aload_n 0, 1), (3, .iload_n 1, 1), (4, .iload_n 2, 1), (5, .invokevirtual 41, 3), (8, .ifCond .eq 7, 3), (11, .lconst 1, 1), (12, .goto 4, 3), (15, .lconst 0, 1), (16, .lastore, 1), (17, .goto 7, 3), (20, .astore 4, 2), (22, .iconst 1, 1), (23, .ireturn, 1), (24, .iconst 0, 1), (25, .ireturn, 1)]
theorem v_Law_goes_0 : u_Law_goes_0.all (zdq method_10_code) = true := by decide +kernel
theorem d_Law_goes_0 : decode method_10_code 0 = .ok (.aload_n 3, 1) := zdt v_Law_goes_0 0 (q := (0, .aload_n 3, 1)) rfl
theorem d_Law_goes_1 : decode method_10_code 1 = .ok (.iconst 0, 1) := zdt v_Law_goes_0 1 (q := (1, .iconst 0, 1)) rfl
theorem d_Law_goes_2 : decode method_10_code 2 = .ok (.aload_n 0, 1) := zdt v_Law_goes_0 2 (q := (2, .aload_n 0, 1)) rfl
theorem d_Law_goes_3 : decode method_10_code 3 = .ok (.iload_n 1, 1) := zdt v_Law_goes_0 3 (q := (3, .iload_n 1, 1)) rfl
theorem d_Law_goes_4 : decode method_10_code 4 = .ok (.iload_n 2, 1) := zdt v_Law_goes_0 4 (q := (4, .iload_n 2, 1)) rfl
theorem d_Law_goes_5 : decode method_10_code 5 = .ok (.invokevirtual 41, 3) := zdt v_Law_goes_0 5 (q := (5, .invokevirtual 41, 3)) rfl
theorem d_Law_goes_8 : decode method_10_code 8 = .ok (.ifCond .eq 7, 3) := zdt v_Law_goes_0 6 (q := (8, .ifCond .eq 7, 3)) rfl
theorem d_Law_goes_11 : decode method_10_code 11 = .ok (.lconst 1, 1) := zdt v_Law_goes_0 7 (q := (11, .lconst 1, 1)) rfl
theorem d_Law_goes_12 : decode method_10_code 12 = .ok (.goto 4, 3) := zdt v_Law_goes_0 8 (q := (12, .goto 4, 3)) rfl
theorem d_Law_goes_15 : decode method_10_code 15 = .ok (.lconst 0, 1) := zdt v_Law_goes_0 9 (q := (15, .lconst 0, 1)) rfl
theorem d_Law_goes_16 : decode method_10_code 16 = .ok (.lastore, 1) := zdt v_Law_goes_0 10 (q := (16, .lastore, 1)) rfl
theorem d_Law_goes_17 : decode method_10_code 17 = .ok (.goto 7, 3) := zdt v_Law_goes_0 11 (q := (17, .goto 7, 3)) rfl
theorem d_Law_goes_20 : decode method_10_code 20 = .ok (.astore 4, 2) := zdt v_Law_goes_0 12 (q := (20, .astore 4, 2)) rfl
theorem d_Law_goes_22 : decode method_10_code 22 = .ok (.iconst 1, 1) := zdt v_Law_goes_0 13 (q := (22, .iconst 1, 1)) rfl
theorem d_Law_goes_23 : decode method_10_code 23 = .ok (.ireturn, 1) := zdt v_Law_goes_0 14 (q := (23, .ireturn, 1)) rfl
theorem d_Law_goes_24 : decode method_10_code 24 = .ok (.iconst 0, 1) := zdt v_Law_goes_0 15 (q := (24, .iconst 0, 1)) rfl
theorem d_Law_goes_25 : decode method_10_code 25 = .ok (.ireturn, 1) := zdt v_Law_goes_0 16 (q := (25, .ireturn, 1)) rfl
def u_WP_goes_0 : List (Nat × Instr × Nat) := [(0, .aload_n 0, 1), (1, .iload_n 1, 1), (2, .invokevirtual 118, 3), (5, .iload_n 2, 1), (6, .ifCond .lt 11, 3), (9, .iload_n 2, 1), (10, .aload_n 0, 1), (11, .getfield 42, 3), (14, .if_icmp .lt 13, 3), (17, .new 96, 3), (20, .dup, 1), (21, .ldc 170, 2), (23, .invokespecial 100, 3), (26, .athrow, 1), (27, .aload_n 0, 1), (28, .getfield 27, 3), (31, .iload_n 1, 1), (32, .baload, 1), (33, .ifCond .eq 5, 3), (36, .iconst 0, 1), (37, .ireturn, 1), (38, .aload_n 0, 1), (39, .iload_n 1, 1), (40, .invokevirtual 172, 3), (43, .aload_n 0, 1), (44, .getfield 12, 3), (47, .aload_n 0, 1), (48, .getfield 18, 3), (51, .iload_n 2, 1), (52, .aaload, 1), (53, .invokevirtual 175, 3), (56, .ireturn, 1)]
theorem v_WP_goes_0 : u_WP_goes_0.all (zdq prog_1_method_12_code) = true := by decide +kernel
theorem d_WP_goes_0 : decode prog_1_method_12_code 0 = .ok (.aload_n 0, 1) := zdt v_WP_goes_0 0 (q := (0, .aload_n 0, 1)) rfl
theorem d_WP_goes_1 : decode prog_1_method_12_code 1 = .ok (.iload_n 1, 1) := zdt v_WP_goes_0 1 (q := (1, .iload_n 1, 1)) rfl
theorem d_WP_goes_2 : decode prog_1_method_12_code 2 = .ok (.invokevirtual 118, 3) := zdt v_WP_goes_0 2 (q := (2, .invokevirtual 118, 3)) rfl
theorem d_WP_goes_5 : decode prog_1_method_12_code 5 = .ok (.iload_n 2, 1) := zdt v_WP_goes_0 3 (q := (5, .iload_n 2, 1)) rfl
theorem d_WP_goes_6 : decode prog_1_method_12_code 6 = .ok (.ifCond .lt 11, 3) := zdt v_WP_goes_0 4 (q := (6, .ifCond .lt 11, 3)) rfl
theorem d_WP_goes_9 : decode prog_1_method_12_code 9 = .ok (.iload_n 2, 1) := zdt v_WP_goes_0 5 (q := (9, .iload_n 2, 1)) rfl
theorem d_WP_goes_10 : decode prog_1_method_12_code 10 = .ok (.aload_n 0, 1) := zdt v_WP_goes_0 6 (q := (10, .aload_n 0, 1)) rfl
theorem d_WP_goes_11 : decode prog_1_method_12_code 11 = .ok (.getfield 42, 3) := zdt v_WP_goes_0 7 (q := (11, .getfield 42, 3)) rfl
theorem d_WP_goes_14 : decode prog_1_method_12_code 14 = .ok (.if_icmp .lt 13, 3) := zdt v_WP_goes_0 8 (q := (14, .if_icmp .lt 13, 3)) rfl
theorem d_WP_goes_17 : decode prog_1_method_12_code 17 = .ok (.new 96, 3) := zdt v_WP_goes_0 9 (q := (17, .new 96, 3)) rfl
theorem d_WP_goes_20 : decode prog_1_method_12_code 20 = .ok (.dup, 1) := zdt v_WP_goes_0 10 (q := (20, .dup, 1)) rfl
theorem d_WP_goes_21 : decode prog_1_method_12_code 21 = .ok (.ldc 170, 2) := zdt v_WP_goes_0 11 (q := (21, .ldc 170, 2)) rfl
theorem d_WP_goes_23 : decode prog_1_method_12_code 23 = .ok (.invokespecial 100, 3) := zdt v_WP_goes_0 12 (q := (23, .invokespecial 100, 3)) rfl
theorem d_WP_goes_26 : decode prog_1_method_12_code 26 = .ok (.athrow, 1) := zdt v_WP_goes_0 13 (q := (26, .athrow, 1)) rfl
theorem d_WP_goes_27 : decode prog_1_method_12_code 27 = .ok (.aload_n 0, 1) := zdt v_WP_goes_0 14 (q := (27, .aload_n 0, 1)) rfl
theorem d_WP_goes_28 : decode prog_1_method_12_code 28 = .ok (.getfield 27, 3) := zdt v_WP_goes_0 15 (q := (28, .getfield 27, 3)) rfl
theorem d_WP_goes_31 : decode prog_1_method_12_code 31 = .ok (.iload_n 1, 1) := zdt v_WP_goes_0 16 (q := (31, .iload_n 1, 1)) rfl
theorem d_WP_goes_32 : decode prog_1_method_12_code 32 = .ok (.baload, 1) := zdt v_WP_goes_0 17 (q := (32, .baload, 1)) rfl
theorem d_WP_goes_33 : decode prog_1_method_12_code 33 = .ok (.ifCond .eq 5, 3) := zdt v_WP_goes_0 18 (q := (33, .ifCond .eq 5, 3)) rfl
theorem d_WP_goes_36 : decode prog_1_method_12_code 36 = .ok (.iconst 0, 1) := zdt v_WP_goes_0 19 (q := (36, .iconst 0, 1)) rfl
theorem d_WP_goes_37 : decode prog_1_method_12_code 37 = .ok (.ireturn, 1) := zdt v_WP_goes_0 20 (q := (37, .ireturn, 1)) rfl
theorem d_WP_goes_38 : decode prog_1_method_12_code 38 = .ok (.aload_n 0, 1) := zdt v_WP_goes_0 21 (q := (38, .aload_n 0, 1)) rfl
theorem d_WP_goes_39 : decode prog_1_method_12_code 39 = .ok (.iload_n 1, 1) := zdt v_WP_goes_0 22 (q := (39, .iload_n 1, 1)) rfl
theorem d_WP_goes_40 : decode prog_1_method_12_code 40 = .ok (.invokevirtual 172, 3) := zdt v_WP_goes_0 23 (q := (40, .invokevirtual 172, 3)) rfl
theorem d_WP_goes_43 : decode prog_1_method_12_code 43 = .ok (.aload_n 0, 1) := zdt v_WP_goes_0 24 (q := (43, .aload_n 0, 1)) rfl
theorem d_WP_goes_44 : decode prog_1_method_12_code 44 = .ok (.getfield 12, 3) := zdt v_WP_goes_0 25 (q := (44, .getfield 12, 3)) rfl
theorem d_WP_goes_47 : decode prog_1_method_12_code 47 = .ok (.aload_n 0, 1) := zdt v_WP_goes_0 26 (q := (47, .aload_n 0, 1)) rfl
theorem d_WP_goes_48 : decode prog_1_method_12_code 48 = .ok (.getfield 18, 3) := zdt v_WP_goes_0 27 (q := (48, .getfield 18, 3)) rfl
theorem d_WP_goes_51 : decode prog_1_method_12_code 51 = .ok (.iload_n 2, 1) := zdt v_WP_goes_0 28 (q := (51, .iload_n 2, 1)) rfl
theorem d_WP_goes_52 : decode prog_1_method_12_code 52 = .ok (.aaload, 1) := zdt v_WP_goes_0 29 (q := (52, .aaload, 1)) rfl
theorem d_WP_goes_53 : decode prog_1_method_12_code 53 = .ok (.invokevirtual 175, 3) := zdt v_WP_goes_0 30 (q := (53, .invokevirtual 175, 3)) rfl
theorem d_WP_goes_56 : decode prog_1_method_12_code 56 = .ok (.ireturn, 1) := zdt v_WP_goes_0 31 (q := (56, .ireturn, 1)) rfl
def u_Law_take_0 : List (Nat × Instr × Nat) := [(0, .aload_n 2, 1), (1, .iconst 0, 1), (2, .aload_n 0, 1), (3, .iload_n 1, 1), (4, .invokevirtual 45, 3), (7, .i2l, 1), (8, .lastore, 1), (9, .goto 6, 3), (12, .astore_n 3, 1), (13, .iconst 1, 1), (14, .ireturn, 1), (15, .iconst 0, 1), (16, .ireturn, 1)]
theorem v_Law_take_0 : u_Law_take_0.all (zdq method_11_code) = true := by decide +kernel
theorem d_Law_take_0 : decode method_11_code 0 = .ok (.aload_n 2, 1) := zdt v_Law_take_0 0 (q := (0, .aload_n 2, 1)) rfl
theorem d_Law_take_1 : decode method_11_code 1 = .ok (.iconst 0, 1) := zdt v_Law_take_0 1 (q := (1, .iconst 0, 1)) rfl
theorem d_Law_take_2 : decode method_11_code 2 = .ok (.aload_n 0, 1) := zdt v_Law_take_0 2 (q := (2, .aload_n 0, 1)) rfl
theorem d_Law_take_3 : decode method_11_code 3 = .ok (.iload_n 1, 1) := zdt v_Law_take_0 3 (q := (3, .iload_n 1, 1)) rfl
theorem d_Law_take_4 : decode method_11_code 4 = .ok (.invokevirtual 45, 3) := zdt v_Law_take_0 4 (q := (4, .invokevirtual 45, 3)) rfl
theorem d_Law_take_7 : decode method_11_code 7 = .ok (.i2l, 1) := zdt v_Law_take_0 5 (q := (7, .i2l, 1)) rfl
theorem d_Law_take_8 : decode method_11_code 8 = .ok (.lastore, 1) := zdt v_Law_take_0 6 (q := (8, .lastore, 1)) rfl
theorem d_Law_take_9 : decode method_11_code 9 = .ok (.goto 6, 3) := zdt v_Law_take_0 7 (q := (9, .goto 6, 3)) rfl
theorem d_Law_take_12 : decode method_11_code 12 = .ok (.astore_n 3, 1) := zdt v_Law_take_0 8 (q := (12, .astore_n 3, 1)) rfl
theorem d_Law_take_13 : decode method_11_code 13 = .ok (.iconst 1, 1) := zdt v_Law_take_0 9 (q := (13, .iconst 1, 1)) rfl
theorem d_Law_take_14 : decode method_11_code 14 = .ok (.ireturn, 1) := zdt v_Law_take_0 10 (q := (14, .ireturn, 1)) rfl
theorem d_Law_take_15 : decode method_11_code 15 = .ok (.iconst 0, 1) := zdt v_Law_take_0 11 (q := (15, .iconst 0, 1)) rfl
theorem d_Law_take_16 : decode method_11_code 16 = .ok (.ireturn, 1) := zdt v_Law_take_0 12 (q := (16, .ireturn, 1)) rfl
def u_WP_take_0 : List (Nat × Instr × Nat) := [(0, .aload_n 0, 1), (1, .iload_n 1, 1), (2, .invokevirtual 118, 3), (5, .aload_n 0, 1), (6, .iload_n 1, 1), (7, .invokevirtual 179, 3), (10, .istore_n 2, 1), (11, .iload_n 2, 1), (12, .iconst (-1), 1), (13, .if_icmp .eq 9, 3), (16, .aload_n 0, 1), (17, .iload_n 1, 1), (18, .iload_n 2, 1), (19, .invokevirtual 182, 3), (22, .iload_n 2, 1), (23, .ireturn, 1)]
theorem v_WP_take_0 : u_WP_take_0.all (zdq prog_1_method_13_code) = true := by decide +kernel
theorem d_WP_take_0 : decode prog_1_method_13_code 0 = .ok (.aload_n 0, 1) := zdt v_WP_take_0 0 (q := (0, .aload_n 0, 1)) rfl
theorem d_WP_take_1 : decode prog_1_method_13_code 1 = .ok (.iload_n 1, 1) := zdt v_WP_take_0 1 (q := (1, .iload_n 1, 1)) rfl
theorem d_WP_take_2 : decode prog_1_method_13_code 2 = .ok (.invokevirtual 118, 3) := zdt v_WP_take_0 2 (q := (2, .invokevirtual 118, 3)) rfl
theorem d_WP_take_5 : decode prog_1_method_13_code 5 = .ok (.aload_n 0, 1) := zdt v_WP_take_0 3 (q := (5, .aload_n 0, 1)) rfl
theorem d_WP_take_6 : decode prog_1_method_13_code 6 = .ok (.iload_n 1, 1) := zdt v_WP_take_0 4 (q := (6, .iload_n 1, 1)) rfl
theorem d_WP_take_7 : decode prog_1_method_13_code 7 = .ok (.invokevirtual 179, 3) := zdt v_WP_take_0 5 (q := (7, .invokevirtual 179, 3)) rfl
theorem d_WP_take_10 : decode prog_1_method_13_code 10 = .ok (.istore_n 2, 1) := zdt v_WP_take_0 6 (q := (10, .istore_n 2, 1)) rfl
theorem d_WP_take_11 : decode prog_1_method_13_code 11 = .ok (.iload_n 2, 1) := zdt v_WP_take_0 7 (q := (11, .iload_n 2, 1)) rfl
theorem d_WP_take_12 : decode prog_1_method_13_code 12 = .ok (.iconst (-1), 1) := zdt v_WP_take_0 8 (q := (12, .iconst (-1), 1)) rfl
theorem d_WP_take_13 : decode prog_1_method_13_code 13 = .ok (.if_icmp .eq 9, 3) := zdt v_WP_take_0 9 (q := (13, .if_icmp .eq 9, 3)) rfl
theorem d_WP_take_16 : decode prog_1_method_13_code 16 = .ok (.aload_n 0, 1) := zdt v_WP_take_0 10 (q := (16, .aload_n 0, 1)) rfl
theorem d_WP_take_17 : decode prog_1_method_13_code 17 = .ok (.iload_n 1, 1) := zdt v_WP_take_0 11 (q := (17, .iload_n 1, 1)) rfl
theorem d_WP_take_18 : decode prog_1_method_13_code 18 = .ok (.iload_n 2, 1) := zdt v_WP_take_0 12 (q := (18, .iload_n 2, 1)) rfl
theorem d_WP_take_19 : decode prog_1_method_13_code 19 = .ok (.invokevirtual 182, 3) := zdt v_WP_take_0 13 (q := (19, .invokevirtual 182, 3)) rfl
theorem d_WP_take_22 : decode prog_1_method_13_code 22 = .ok (.iload_n 2, 1) := zdt v_WP_take_0 14 (q := (22, .iload_n 2, 1)) rfl
theorem d_WP_take_23 : decode prog_1_method_13_code 23 = .ok (.ireturn, 1) := zdt v_WP_take_0 15 (q := (23, .ireturn, 1)) rfl
def u_Law_taken_0 : List (Nat × Instr × Nat) := [(0, .aload_n 3, 1), (1, .iconst 0, 1), (2, .aload_n 0, 1), (3, .iload_n 1, 1), (4, .iload_n 2, 1), (5, .invokevirtual 49, 3), (8, .i2l, 1), (9, .lastore, 1), (10, .goto 7, 3), (13, .astore 4, 2), (15, .iconst 1, 1), (16, .ireturn, 1), (17, .iconst 0, 1), (18, .ireturn, 1)]
theorem v_Law_taken_0 : u_Law_taken_0.all (zdq method_12_code) = true := by decide +kernel
theorem d_Law_taken_0 : decode method_12_code 0 = .ok (.aload_n 3, 1) := zdt v_Law_taken_0 0 (q := (0, .aload_n 3, 1)) rfl
theorem d_Law_taken_1 : decode method_12_code 1 = .ok (.iconst 0, 1) := zdt v_Law_taken_0 1 (q := (1, .iconst 0, 1)) rfl
theorem d_Law_taken_2 : decode method_12_code 2 = .ok (.aload_n 0, 1) := zdt v_Law_taken_0 2 (q := (2, .aload_n 0, 1)) rfl
theorem d_Law_taken_3 : decode method_12_code 3 = .ok (.iload_n 1, 1) := zdt v_Law_taken_0 3 (q := (3, .iload_n 1, 1)) rfl
theorem d_Law_taken_4 : decode method_12_code 4 = .ok (.iload_n 2, 1) := zdt v_Law_taken_0 4 (q := (4, .iload_n 2, 1)) rfl
theorem d_Law_taken_5 : decode method_12_code 5 = .ok (.invokevirtual 49, 3) := zdt v_Law_taken_0 5 (q := (5, .invokevirtual 49, 3)) rfl
theorem d_Law_taken_8 : decode method_12_code 8 = .ok (.i2l, 1) := zdt v_Law_taken_0 6 (q := (8, .i2l, 1)) rfl
theorem d_Law_taken_9 : decode method_12_code 9 = .ok (.lastore, 1) := zdt v_Law_taken_0 7 (q := (9, .lastore, 1)) rfl
theorem d_Law_taken_10 : decode method_12_code 10 = .ok (.goto 7, 3) := zdt v_Law_taken_0 8 (q := (10, .goto 7, 3)) rfl
theorem d_Law_taken_13 : decode method_12_code 13 = .ok (.astore 4, 2) := zdt v_Law_taken_0 9 (q := (13, .astore 4, 2)) rfl
theorem d_Law_taken_15 : decode method_12_code 15 = .ok (.iconst 1, 1) := zdt v_Law_taken_0 10 (q := (15, .iconst 1, 1)) rfl
theorem d_Law_taken_16 : decode method_12_code 16 = .ok (.ireturn, 1) := zdt v_Law_taken_0 11 (q := (16, .ireturn, 1)) rfl
theorem d_Law_taken_17 : decode method_12_code 17 = .ok (.iconst 0, 1) := zdt v_Law_taken_0 12 (q := (17, .iconst 0, 1)) rfl
theorem d_Law_taken_18 : decode method_12_code 18 = .ok (.ireturn, 1) := zdt v_Law_taken_0 13 (q := (18, .ireturn, 1)) rfl
def u_WP_taken_0 : List (Nat × Instr × Nat) := [(0, .iload_n 1, 1), (1, .ifCond .lt 11, 3), (4, .iload_n 1, 1), (5, .aload_n 0, 1), (6, .getfield 38, 3), (9, .if_icmp .lt 13, 3), (12, .new 96, 3), (15, .dup, 1), (16, .ldc 190, 2), (18, .invokespecial 100, 3), (21, .athrow, 1), (22, .iload_n 2, 1), (23, .ifCond .lt 8, 3), (26, .iload_n 2, 1), (27, .iconst 1, 1), (28, .if_icmp .le 13, 3), (31, .new 96, 3), (34, .dup, 1), (35, .ldc 192, 2), (37, .invokespecial 100, 3), (40, .athrow, 1), (41, .iload_n 2, 1), (42, .ifCond .ne 12, 3), (45, .aload_n 0, 1), (46, .getfield 31, 3), (49, .iload_n 1, 1), (50, .iaload, 1), (51, .goto 9, 3), (54, .aload_n 0, 1), (55, .getfield 35, 3), (58, .iload_n 1, 1), (59, .iaload, 1), (60, .ireturn, 1)]
theorem v_WP_taken_0 : u_WP_taken_0.all (zdq prog_1_method_15_code) = true := by decide +kernel
theorem d_WP_taken_0 : decode prog_1_method_15_code 0 = .ok (.iload_n 1, 1) := zdt v_WP_taken_0 0 (q := (0, .iload_n 1, 1)) rfl
theorem d_WP_taken_1 : decode prog_1_method_15_code 1 = .ok (.ifCond .lt 11, 3) := zdt v_WP_taken_0 1 (q := (1, .ifCond .lt 11, 3)) rfl
theorem d_WP_taken_4 : decode prog_1_method_15_code 4 = .ok (.iload_n 1, 1) := zdt v_WP_taken_0 2 (q := (4, .iload_n 1, 1)) rfl
theorem d_WP_taken_5 : decode prog_1_method_15_code 5 = .ok (.aload_n 0, 1) := zdt v_WP_taken_0 3 (q := (5, .aload_n 0, 1)) rfl
theorem d_WP_taken_6 : decode prog_1_method_15_code 6 = .ok (.getfield 38, 3) := zdt v_WP_taken_0 4 (q := (6, .getfield 38, 3)) rfl
theorem d_WP_taken_9 : decode prog_1_method_15_code 9 = .ok (.if_icmp .lt 13, 3) := zdt v_WP_taken_0 5 (q := (9, .if_icmp .lt 13, 3)) rfl
theorem d_WP_taken_12 : decode prog_1_method_15_code 12 = .ok (.new 96, 3) := zdt v_WP_taken_0 6 (q := (12, .new 96, 3)) rfl
theorem d_WP_taken_15 : decode prog_1_method_15_code 15 = .ok (.dup, 1) := zdt v_WP_taken_0 7 (q := (15, .dup, 1)) rfl
theorem d_WP_taken_16 : decode prog_1_method_15_code 16 = .ok (.ldc 190, 2) := zdt v_WP_taken_0 8 (q := (16, .ldc 190, 2)) rfl
theorem d_WP_taken_18 : decode prog_1_method_15_code 18 = .ok (.invokespecial 100, 3) := zdt v_WP_taken_0 9 (q := (18, .invokespecial 100, 3)) rfl
theorem d_WP_taken_21 : decode prog_1_method_15_code 21 = .ok (.athrow, 1) := zdt v_WP_taken_0 10 (q := (21, .athrow, 1)) rfl
theorem d_WP_taken_22 : decode prog_1_method_15_code 22 = .ok (.iload_n 2, 1) := zdt v_WP_taken_0 11 (q := (22, .iload_n 2, 1)) rfl
theorem d_WP_taken_23 : decode prog_1_method_15_code 23 = .ok (.ifCond .lt 8, 3) := zdt v_WP_taken_0 12 (q := (23, .ifCond .lt 8, 3)) rfl
theorem d_WP_taken_26 : decode prog_1_method_15_code 26 = .ok (.iload_n 2, 1) := zdt v_WP_taken_0 13 (q := (26, .iload_n 2, 1)) rfl
theorem d_WP_taken_27 : decode prog_1_method_15_code 27 = .ok (.iconst 1, 1) := zdt v_WP_taken_0 14 (q := (27, .iconst 1, 1)) rfl
theorem d_WP_taken_28 : decode prog_1_method_15_code 28 = .ok (.if_icmp .le 13, 3) := zdt v_WP_taken_0 15 (q := (28, .if_icmp .le 13, 3)) rfl
theorem d_WP_taken_31 : decode prog_1_method_15_code 31 = .ok (.new 96, 3) := zdt v_WP_taken_0 16 (q := (31, .new 96, 3)) rfl
theorem d_WP_taken_34 : decode prog_1_method_15_code 34 = .ok (.dup, 1) := zdt v_WP_taken_0 17 (q := (34, .dup, 1)) rfl
theorem d_WP_taken_35 : decode prog_1_method_15_code 35 = .ok (.ldc 192, 2) := zdt v_WP_taken_0 18 (q := (35, .ldc 192, 2)) rfl
theorem d_WP_taken_37 : decode prog_1_method_15_code 37 = .ok (.invokespecial 100, 3) := zdt v_WP_taken_0 19 (q := (37, .invokespecial 100, 3)) rfl
theorem d_WP_taken_40 : decode prog_1_method_15_code 40 = .ok (.athrow, 1) := zdt v_WP_taken_0 20 (q := (40, .athrow, 1)) rfl
theorem d_WP_taken_41 : decode prog_1_method_15_code 41 = .ok (.iload_n 2, 1) := zdt v_WP_taken_0 21 (q := (41, .iload_n 2, 1)) rfl
theorem d_WP_taken_42 : decode prog_1_method_15_code 42 = .ok (.ifCond .ne 12, 3) := zdt v_WP_taken_0 22 (q := (42, .ifCond .ne 12, 3)) rfl
theorem d_WP_taken_45 : decode prog_1_method_15_code 45 = .ok (.aload_n 0, 1) := zdt v_WP_taken_0 23 (q := (45, .aload_n 0, 1)) rfl
theorem d_WP_taken_46 : decode prog_1_method_15_code 46 = .ok (.getfield 31, 3) := zdt v_WP_taken_0 24 (q := (46, .getfield 31, 3)) rfl
theorem d_WP_taken_49 : decode prog_1_method_15_code 49 = .ok (.iload_n 1, 1) := zdt v_WP_taken_0 25 (q := (49, .iload_n 1, 1)) rfl
theorem d_WP_taken_50 : decode prog_1_method_15_code 50 = .ok (.iaload, 1) := zdt v_WP_taken_0 26 (q := (50, .iaload, 1)) rfl
theorem d_WP_taken_51 : decode prog_1_method_15_code 51 = .ok (.goto 9, 3) := zdt v_WP_taken_0 27 (q := (51, .goto 9, 3)) rfl
theorem d_WP_taken_54 : decode prog_1_method_15_code 54 = .ok (.aload_n 0, 1) := zdt v_WP_taken_0 28 (q := (54, .aload_n 0, 1)) rfl
theorem d_WP_taken_55 : decode prog_1_method_15_code 55 = .ok (.getfield 35, 3) := zdt v_WP_taken_0 29 (q := (55, .getfield 35, 3)) rfl
theorem d_WP_taken_58 : decode prog_1_method_15_code 58 = .ok (.iload_n 1, 1) := zdt v_WP_taken_0 30 (q := (58, .iload_n 1, 1)) rfl
theorem d_WP_taken_59 : decode prog_1_method_15_code 59 = .ok (.iaload, 1) := zdt v_WP_taken_0 31 (q := (59, .iaload, 1)) rfl
theorem d_WP_taken_60 : decode prog_1_method_15_code 60 = .ok (.ireturn, 1) := zdt v_WP_taken_0 32 (q := (60, .ireturn, 1)) rfl
def u_Law_mode_0 : List (Nat × Instr × Nat) := [(0, .aload_n 2, 1), (1, .iconst 0, 1), (2, .aload_n 0, 1), (3, .iload_n 1, 1), (4, .invokevirtual 52, 3), (7, .i2l, 1), (8, .lastore, 1), (9, .goto 6, 3), (12, .astore_n 3, 1), (13, .iconst 1, 1), (14, .ireturn, 1), (15, .iconst 0, 1), (16, .ireturn, 1)]
theorem v_Law_mode_0 : u_Law_mode_0.all (zdq method_13_code) = true := by decide +kernel
theorem d_Law_mode_0 : decode method_13_code 0 = .ok (.aload_n 2, 1) := zdt v_Law_mode_0 0 (q := (0, .aload_n 2, 1)) rfl
theorem d_Law_mode_1 : decode method_13_code 1 = .ok (.iconst 0, 1) := zdt v_Law_mode_0 1 (q := (1, .iconst 0, 1)) rfl
theorem d_Law_mode_2 : decode method_13_code 2 = .ok (.aload_n 0, 1) := zdt v_Law_mode_0 2 (q := (2, .aload_n 0, 1)) rfl
theorem d_Law_mode_3 : decode method_13_code 3 = .ok (.iload_n 1, 1) := zdt v_Law_mode_0 3 (q := (3, .iload_n 1, 1)) rfl
theorem d_Law_mode_4 : decode method_13_code 4 = .ok (.invokevirtual 52, 3) := zdt v_Law_mode_0 4 (q := (4, .invokevirtual 52, 3)) rfl
theorem d_Law_mode_7 : decode method_13_code 7 = .ok (.i2l, 1) := zdt v_Law_mode_0 5 (q := (7, .i2l, 1)) rfl
theorem d_Law_mode_8 : decode method_13_code 8 = .ok (.lastore, 1) := zdt v_Law_mode_0 6 (q := (8, .lastore, 1)) rfl
theorem d_Law_mode_9 : decode method_13_code 9 = .ok (.goto 6, 3) := zdt v_Law_mode_0 7 (q := (9, .goto 6, 3)) rfl
theorem d_Law_mode_12 : decode method_13_code 12 = .ok (.astore_n 3, 1) := zdt v_Law_mode_0 8 (q := (12, .astore_n 3, 1)) rfl
theorem d_Law_mode_13 : decode method_13_code 13 = .ok (.iconst 1, 1) := zdt v_Law_mode_0 9 (q := (13, .iconst 1, 1)) rfl
theorem d_Law_mode_14 : decode method_13_code 14 = .ok (.ireturn, 1) := zdt v_Law_mode_0 10 (q := (14, .ireturn, 1)) rfl
theorem d_Law_mode_15 : decode method_13_code 15 = .ok (.iconst 0, 1) := zdt v_Law_mode_0 11 (q := (15, .iconst 0, 1)) rfl
theorem d_Law_mode_16 : decode method_13_code 16 = .ok (.ireturn, 1) := zdt v_Law_mode_0 12 (q := (16, .ireturn, 1)) rfl
def u_WP_mode_0 : List (Nat × Instr × Nat) := [(0, .aload_n 0, 1), (1, .iload_n 1, 1), (2, .invokevirtual 118, 3), (5, .aload_n 0, 1), (6, .getfield 27, 3), (9, .iload_n 1, 1), (10, .baload, 1), (11, .ifCond .eq 5, 3), (14, .iconst (-1), 1), (15, .ireturn, 1), (16, .aload_n 0, 1), (17, .iload_n 1, 1), (18, .invokevirtual 172, 3), (21, .aload_n 0, 1), (22, .getfield 12, 3), (25, .aload_n 0, 1), (26, .getfield 23, 3), (29, .invokevirtual 194, 3), (32, .ireturn, 1)]
theorem v_WP_mode_0 : u_WP_mode_0.all (zdq prog_1_method_17_code) = true := by decide +kernel
theorem d_WP_mode_0 : decode prog_1_method_17_code 0 = .ok (.aload_n 0, 1) := zdt v_WP_mode_0 0 (q := (0, .aload_n 0, 1)) rfl
theorem d_WP_mode_1 : decode prog_1_method_17_code 1 = .ok (.iload_n 1, 1) := zdt v_WP_mode_0 1 (q := (1, .iload_n 1, 1)) rfl
theorem d_WP_mode_2 : decode prog_1_method_17_code 2 = .ok (.invokevirtual 118, 3) := zdt v_WP_mode_0 2 (q := (2, .invokevirtual 118, 3)) rfl
theorem d_WP_mode_5 : decode prog_1_method_17_code 5 = .ok (.aload_n 0, 1) := zdt v_WP_mode_0 3 (q := (5, .aload_n 0, 1)) rfl
theorem d_WP_mode_6 : decode prog_1_method_17_code 6 = .ok (.getfield 27, 3) := zdt v_WP_mode_0 4 (q := (6, .getfield 27, 3)) rfl
theorem d_WP_mode_9 : decode prog_1_method_17_code 9 = .ok (.iload_n 1, 1) := zdt v_WP_mode_0 5 (q := (9, .iload_n 1, 1)) rfl
theorem d_WP_mode_10 : decode prog_1_method_17_code 10 = .ok (.baload, 1) := zdt v_WP_mode_0 6 (q := (10, .baload, 1)) rfl
theorem d_WP_mode_11 : decode prog_1_method_17_code 11 = .ok (.ifCond .eq 5, 3) := zdt v_WP_mode_0 7 (q := (11, .ifCond .eq 5, 3)) rfl
theorem d_WP_mode_14 : decode prog_1_method_17_code 14 = .ok (.iconst (-1), 1) := zdt v_WP_mode_0 8 (q := (14, .iconst (-1), 1)) rfl
theorem d_WP_mode_15 : decode prog_1_method_17_code 15 = .ok (.ireturn, 1) := zdt v_WP_mode_0 9 (q := (15, .ireturn, 1)) rfl
theorem d_WP_mode_16 : decode prog_1_method_17_code 16 = .ok (.aload_n 0, 1) := zdt v_WP_mode_0 10 (q := (16, .aload_n 0, 1)) rfl
theorem d_WP_mode_17 : decode prog_1_method_17_code 17 = .ok (.iload_n 1, 1) := zdt v_WP_mode_0 11 (q := (17, .iload_n 1, 1)) rfl
theorem d_WP_mode_18 : decode prog_1_method_17_code 18 = .ok (.invokevirtual 172, 3) := zdt v_WP_mode_0 12 (q := (18, .invokevirtual 172, 3)) rfl
theorem d_WP_mode_21 : decode prog_1_method_17_code 21 = .ok (.aload_n 0, 1) := zdt v_WP_mode_0 13 (q := (21, .aload_n 0, 1)) rfl
theorem d_WP_mode_22 : decode prog_1_method_17_code 22 = .ok (.getfield 12, 3) := zdt v_WP_mode_0 14 (q := (22, .getfield 12, 3)) rfl
theorem d_WP_mode_25 : decode prog_1_method_17_code 25 = .ok (.aload_n 0, 1) := zdt v_WP_mode_0 15 (q := (25, .aload_n 0, 1)) rfl
theorem d_WP_mode_26 : decode prog_1_method_17_code 26 = .ok (.getfield 23, 3) := zdt v_WP_mode_0 16 (q := (26, .getfield 23, 3)) rfl
theorem d_WP_mode_29 : decode prog_1_method_17_code 29 = .ok (.invokevirtual 194, 3) := zdt v_WP_mode_0 17 (q := (29, .invokevirtual 194, 3)) rfl
theorem d_WP_mode_32 : decode prog_1_method_17_code 32 = .ok (.ireturn, 1) := zdt v_WP_mode_0 18 (q := (32, .ireturn, 1)) rfl
def u_Law_told_0 : List (Nat × Instr × Nat) := [(0, .aload_n 2, 1), (1, .iconst 0, 1), (2, .aload_n 0, 1), (3, .iload_n 1, 1), (4, .invokevirtual 55, 3), (7, .i2l, 1), (8, .lastore, 1), (9, .goto 6, 3), (12, .astore_n 3, 1), (13, .iconst 1, 1), (14, .ireturn, 1), (15, .iconst 0, 1), (16, .ireturn, 1)]
theorem v_Law_told_0 : u_Law_told_0.all (zdq method_14_code) = true := by decide +kernel
theorem d_Law_told_0 : decode method_14_code 0 = .ok (.aload_n 2, 1) := zdt v_Law_told_0 0 (q := (0, .aload_n 2, 1)) rfl
theorem d_Law_told_1 : decode method_14_code 1 = .ok (.iconst 0, 1) := zdt v_Law_told_0 1 (q := (1, .iconst 0, 1)) rfl
theorem d_Law_told_2 : decode method_14_code 2 = .ok (.aload_n 0, 1) := zdt v_Law_told_0 2 (q := (2, .aload_n 0, 1)) rfl
theorem d_Law_told_3 : decode method_14_code 3 = .ok (.iload_n 1, 1) := zdt v_Law_told_0 3 (q := (3, .iload_n 1, 1)) rfl
theorem d_Law_told_4 : decode method_14_code 4 = .ok (.invokevirtual 55, 3) := zdt v_Law_told_0 4 (q := (4, .invokevirtual 55, 3)) rfl
theorem d_Law_told_7 : decode method_14_code 7 = .ok (.i2l, 1) := zdt v_Law_told_0 5 (q := (7, .i2l, 1)) rfl
theorem d_Law_told_8 : decode method_14_code 8 = .ok (.lastore, 1) := zdt v_Law_told_0 6 (q := (8, .lastore, 1)) rfl
theorem d_Law_told_9 : decode method_14_code 9 = .ok (.goto 6, 3) := zdt v_Law_told_0 7 (q := (9, .goto 6, 3)) rfl
theorem d_Law_told_12 : decode method_14_code 12 = .ok (.astore_n 3, 1) := zdt v_Law_told_0 8 (q := (12, .astore_n 3, 1)) rfl
theorem d_Law_told_13 : decode method_14_code 13 = .ok (.iconst 1, 1) := zdt v_Law_told_0 9 (q := (13, .iconst 1, 1)) rfl
theorem d_Law_told_14 : decode method_14_code 14 = .ok (.ireturn, 1) := zdt v_Law_told_0 10 (q := (14, .ireturn, 1)) rfl
theorem d_Law_told_15 : decode method_14_code 15 = .ok (.iconst 0, 1) := zdt v_Law_told_0 11 (q := (15, .iconst 0, 1)) rfl
theorem d_Law_told_16 : decode method_14_code 16 = .ok (.ireturn, 1) := zdt v_Law_told_0 12 (q := (16, .ireturn, 1)) rfl
def u_WP_told_0 : List (Nat × Instr × Nat) := [(0, .iload_n 1, 1), (1, .tableswitch 60 0 3 #[31, 39, 44, 49], 31), (32, .aload_n 0, 1), (33, .getfield 57, 3), (36, .getfield 78, 3), (39, .ireturn, 1), (40, .aload_n 0, 1), (41, .getfield 42, 3), (44, .ireturn, 1), (45, .aload_n 0, 1), (46, .getfield 38, 3), (49, .ireturn, 1), (50, .aload_n 0, 1), (51, .getfield 57, 3), (54, .getfield 142, 3), (57, .getfield 198, 3), (60, .ireturn, 1), (61, .new 96, 3), (64, .dup, 1), (65, .ldc 160, 2), (67, .invokespecial 100, 3), (70, .athrow, 1)]
theorem v_WP_told_0 : u_WP_told_0.all (zdq prog_1_method_18_code) = true := by decide +kernel
theorem d_WP_told_0 : decode prog_1_method_18_code 0 = .ok (.iload_n 1, 1) := zdt v_WP_told_0 0 (q := (0, .iload_n 1, 1)) rfl
theorem d_WP_told_1 : decode prog_1_method_18_code 1 = .ok (.tableswitch 60 0 3 #[31, 39, 44, 49], 31) := zdt v_WP_told_0 1 (q := (1, .tableswitch 60 0 3 #[31, 39, 44, 49], 31)) rfl
theorem d_WP_told_32 : decode prog_1_method_18_code 32 = .ok (.aload_n 0, 1) := zdt v_WP_told_0 2 (q := (32, .aload_n 0, 1)) rfl
theorem d_WP_told_33 : decode prog_1_method_18_code 33 = .ok (.getfield 57, 3) := zdt v_WP_told_0 3 (q := (33, .getfield 57, 3)) rfl
theorem d_WP_told_36 : decode prog_1_method_18_code 36 = .ok (.getfield 78, 3) := zdt v_WP_told_0 4 (q := (36, .getfield 78, 3)) rfl
theorem d_WP_told_39 : decode prog_1_method_18_code 39 = .ok (.ireturn, 1) := zdt v_WP_told_0 5 (q := (39, .ireturn, 1)) rfl
theorem d_WP_told_40 : decode prog_1_method_18_code 40 = .ok (.aload_n 0, 1) := zdt v_WP_told_0 6 (q := (40, .aload_n 0, 1)) rfl
theorem d_WP_told_41 : decode prog_1_method_18_code 41 = .ok (.getfield 42, 3) := zdt v_WP_told_0 7 (q := (41, .getfield 42, 3)) rfl
theorem d_WP_told_44 : decode prog_1_method_18_code 44 = .ok (.ireturn, 1) := zdt v_WP_told_0 8 (q := (44, .ireturn, 1)) rfl
theorem d_WP_told_45 : decode prog_1_method_18_code 45 = .ok (.aload_n 0, 1) := zdt v_WP_told_0 9 (q := (45, .aload_n 0, 1)) rfl
theorem d_WP_told_46 : decode prog_1_method_18_code 46 = .ok (.getfield 38, 3) := zdt v_WP_told_0 10 (q := (46, .getfield 38, 3)) rfl
theorem d_WP_told_49 : decode prog_1_method_18_code 49 = .ok (.ireturn, 1) := zdt v_WP_told_0 11 (q := (49, .ireturn, 1)) rfl
theorem d_WP_told_50 : decode prog_1_method_18_code 50 = .ok (.aload_n 0, 1) := zdt v_WP_told_0 12 (q := (50, .aload_n 0, 1)) rfl
theorem d_WP_told_51 : decode prog_1_method_18_code 51 = .ok (.getfield 57, 3) := zdt v_WP_told_0 13 (q := (51, .getfield 57, 3)) rfl
theorem d_WP_told_54 : decode prog_1_method_18_code 54 = .ok (.getfield 142, 3) := zdt v_WP_told_0 14 (q := (54, .getfield 142, 3)) rfl
theorem d_WP_told_57 : decode prog_1_method_18_code 57 = .ok (.getfield 198, 3) := zdt v_WP_told_0 15 (q := (57, .getfield 198, 3)) rfl
theorem d_WP_told_60 : decode prog_1_method_18_code 60 = .ok (.ireturn, 1) := zdt v_WP_told_0 16 (q := (60, .ireturn, 1)) rfl
theorem d_WP_told_61 : decode prog_1_method_18_code 61 = .ok (.new 96, 3) := zdt v_WP_told_0 17 (q := (61, .new 96, 3)) rfl
theorem d_WP_told_64 : decode prog_1_method_18_code 64 = .ok (.dup, 1) := zdt v_WP_told_0 18 (q := (64, .dup, 1)) rfl
theorem d_WP_told_65 : decode prog_1_method_18_code 65 = .ok (.ldc 160, 2) := zdt v_WP_told_0 19 (q := (65, .ldc 160, 2)) rfl
theorem d_WP_told_67 : decode prog_1_method_18_code 67 = .ok (.invokespecial 100, 3) := zdt v_WP_told_0 20 (q := (67, .invokespecial 100, 3)) rfl
theorem d_WP_told_70 : decode prog_1_method_18_code 70 = .ok (.athrow, 1) := zdt v_WP_told_0 21 (q := (70, .athrow, 1)) rfl
