def zdq (code : ByteArray) (q : Nat × Instr × Nat) : Bool := decide (decode code q.1 = .ok (q.2.1, q.2.2))
theorem zdt {code : ByteArray} {l : List (Nat × Instr × Nat)} (h : l.all (zdq code) = true) (k : Nat) {q : Nat × Instr × Nat} (hk : l[k]? = some q) : decode code q.1 = .ok (q.2.1, q.2.2) := by
  have := List.all_eq_true.mp h q (List.mem_of_getElem? hk)
  simpa [zdq] using this
def u_Hold_init_0 : List (Nat × Instr × Nat) := [(0, .aload_n 0, 1), (1, .invokespecial 3, 3), (4, .aload_n 0, 1), (5, .bipush 12, 2), (7, .anewarray 9, 3), (10, .putfield 11, 3), (13, .aload_n 0, 1), (14, .bipush 12, 2), (16, .anewarray 9, 3), (19, .putfield 17, 3), (22, .aload_n 0, 1), (23, .new 9, 3), (26, .dup, 1), (27, .invokespecial 20, 3), (30, .putfield 21, 3), (33, .aload_n 0, 1), (34, .iconst 0, 1), (35, .putfield 25, 3), (38, .iconst 0, 1), (39, .istore_n 1, 1), (40, .iload_n 1, 1), (41, .bipush 12, 2), (43, .if_icmp .ge 35, 3), (46, .aload_n 0, 1), (47, .getfield 11, 3), (50, .iload_n 1, 1), (51, .new 9, 3), (54, .dup, 1), (55, .invokespecial 20, 3), (58, .aastore, 1), (59, .aload_n 0, 1), (60, .getfield 17, 3), (63, .iload_n 1, 1), (64, .new 9, 3), (67, .dup, 1), (68, .invokespecial 20, 3), (71, .aastore, 1), (72, .iinc 1 1, 3), (75, .goto (-35), 3), (78, .return_, 1)]
theorem v_Hold_init_0 : u_Hold_init_0.all (zdq prog_3_method_1_code) = true := by decide +kernel
theorem d_Hold_init_0 : decode prog_3_method_1_code 0 = .ok (.aload_n 0, 1) := zdt v_Hold_init_0 0 (q := (0, .aload_n 0, 1)) rfl
theorem d_Hold_init_1 : decode prog_3_method_1_code 1 = .ok (.invokespecial 3, 3) := zdt v_Hold_init_0 1 (q := (1, .invokespecial 3, 3)) rfl
theorem d_Hold_init_4 : decode prog_3_method_1_code 4 = .ok (.aload_n 0, 1) := zdt v_Hold_init_0 2 (q := (4, .aload_n 0, 1)) rfl
theorem d_Hold_init_5 : decode prog_3_method_1_code 5 = .ok (.bipush 12, 2) := zdt v_Hold_init_0 3 (q := (5, .bipush 12, 2)) rfl
theorem d_Hold_init_7 : decode prog_3_method_1_code 7 = .ok (.anewarray 9, 3) := zdt v_Hold_init_0 4 (q := (7, .anewarray 9, 3)) rfl
theorem d_Hold_init_10 : decode prog_3_method_1_code 10 = .ok (.putfield 11, 3) := zdt v_Hold_init_0 5 (q := (10, .putfield 11, 3)) rfl
theorem d_Hold_init_13 : decode prog_3_method_1_code 13 = .ok (.aload_n 0, 1) := zdt v_Hold_init_0 6 (q := (13, .aload_n 0, 1)) rfl
theorem d_Hold_init_14 : decode prog_3_method_1_code 14 = .ok (.bipush 12, 2) := zdt v_Hold_init_0 7 (q := (14, .bipush 12, 2)) rfl
theorem d_Hold_init_16 : decode prog_3_method_1_code 16 = .ok (.anewarray 9, 3) := zdt v_Hold_init_0 8 (q := (16, .anewarray 9, 3)) rfl
theorem d_Hold_init_19 : decode prog_3_method_1_code 19 = .ok (.putfield 17, 3) := zdt v_Hold_init_0 9 (q := (19, .putfield 17, 3)) rfl
theorem d_Hold_init_22 : decode prog_3_method_1_code 22 = .ok (.aload_n 0, 1) := zdt v_Hold_init_0 10 (q := (22, .aload_n 0, 1)) rfl
theorem d_Hold_init_23 : decode prog_3_method_1_code 23 = .ok (.new 9, 3) := zdt v_Hold_init_0 11 (q := (23, .new 9, 3)) rfl
theorem d_Hold_init_26 : decode prog_3_method_1_code 26 = .ok (.dup, 1) := zdt v_Hold_init_0 12 (q := (26, .dup, 1)) rfl
theorem d_Hold_init_27 : decode prog_3_method_1_code 27 = .ok (.invokespecial 20, 3) := zdt v_Hold_init_0 13 (q := (27, .invokespecial 20, 3)) rfl
theorem d_Hold_init_30 : decode prog_3_method_1_code 30 = .ok (.putfield 21, 3) := zdt v_Hold_init_0 14 (q := (30, .putfield 21, 3)) rfl
theorem d_Hold_init_33 : decode prog_3_method_1_code 33 = .ok (.aload_n 0, 1) := zdt v_Hold_init_0 15 (q := (33, .aload_n 0, 1)) rfl
theorem d_Hold_init_34 : decode prog_3_method_1_code 34 = .ok (.iconst 0, 1) := zdt v_Hold_init_0 16 (q := (34, .iconst 0, 1)) rfl
theorem d_Hold_init_35 : decode prog_3_method_1_code 35 = .ok (.putfield 25, 3) := zdt v_Hold_init_0 17 (q := (35, .putfield 25, 3)) rfl
theorem d_Hold_init_38 : decode prog_3_method_1_code 38 = .ok (.iconst 0, 1) := zdt v_Hold_init_0 18 (q := (38, .iconst 0, 1)) rfl
theorem d_Hold_init_39 : decode prog_3_method_1_code 39 = .ok (.istore_n 1, 1) := zdt v_Hold_init_0 19 (q := (39, .istore_n 1, 1)) rfl
theorem d_Hold_init_40 : decode prog_3_method_1_code 40 = .ok (.iload_n 1, 1) := zdt v_Hold_init_0 20 (q := (40, .iload_n 1, 1)) rfl
theorem d_Hold_init_41 : decode prog_3_method_1_code 41 = .ok (.bipush 12, 2) := zdt v_Hold_init_0 21 (q := (41, .bipush 12, 2)) rfl
theorem d_Hold_init_43 : decode prog_3_method_1_code 43 = .ok (.if_icmp .ge 35, 3) := zdt v_Hold_init_0 22 (q := (43, .if_icmp .ge 35, 3)) rfl
theorem d_Hold_init_46 : decode prog_3_method_1_code 46 = .ok (.aload_n 0, 1) := zdt v_Hold_init_0 23 (q := (46, .aload_n 0, 1)) rfl
theorem d_Hold_init_47 : decode prog_3_method_1_code 47 = .ok (.getfield 11, 3) := zdt v_Hold_init_0 24 (q := (47, .getfield 11, 3)) rfl
theorem d_Hold_init_50 : decode prog_3_method_1_code 50 = .ok (.iload_n 1, 1) := zdt v_Hold_init_0 25 (q := (50, .iload_n 1, 1)) rfl
theorem d_Hold_init_51 : decode prog_3_method_1_code 51 = .ok (.new 9, 3) := zdt v_Hold_init_0 26 (q := (51, .new 9, 3)) rfl
theorem d_Hold_init_54 : decode prog_3_method_1_code 54 = .ok (.dup, 1) := zdt v_Hold_init_0 27 (q := (54, .dup, 1)) rfl
theorem d_Hold_init_55 : decode prog_3_method_1_code 55 = .ok (.invokespecial 20, 3) := zdt v_Hold_init_0 28 (q := (55, .invokespecial 20, 3)) rfl
theorem d_Hold_init_58 : decode prog_3_method_1_code 58 = .ok (.aastore, 1) := zdt v_Hold_init_0 29 (q := (58, .aastore, 1)) rfl
theorem d_Hold_init_59 : decode prog_3_method_1_code 59 = .ok (.aload_n 0, 1) := zdt v_Hold_init_0 30 (q := (59, .aload_n 0, 1)) rfl
theorem d_Hold_init_60 : decode prog_3_method_1_code 60 = .ok (.getfield 17, 3) := zdt v_Hold_init_0 31 (q := (60, .getfield 17, 3)) rfl
theorem d_Hold_init_63 : decode prog_3_method_1_code 63 = .ok (.iload_n 1, 1) := zdt v_Hold_init_0 32 (q := (63, .iload_n 1, 1)) rfl
theorem d_Hold_init_64 : decode prog_3_method_1_code 64 = .ok (.new 9, 3) := zdt v_Hold_init_0 33 (q := (64, .new 9, 3)) rfl
theorem d_Hold_init_67 : decode prog_3_method_1_code 67 = .ok (.dup, 1) := zdt v_Hold_init_0 34 (q := (67, .dup, 1)) rfl
theorem d_Hold_init_68 : decode prog_3_method_1_code 68 = .ok (.invokespecial 20, 3) := zdt v_Hold_init_0 35 (q := (68, .invokespecial 20, 3)) rfl
theorem d_Hold_init_71 : decode prog_3_method_1_code 71 = .ok (.aastore, 1) := zdt v_Hold_init_0 36 (q := (71, .aastore, 1)) rfl
theorem d_Hold_init_72 : decode prog_3_method_1_code 72 = .ok (.iinc 1 1, 3) := zdt v_Hold_init_0 37 (q := (72, .iinc 1 1, 3)) rfl
theorem d_Hold_init_75 : decode prog_3_method_1_code 75 = .ok (.goto (-35), 3) := zdt v_Hold_init_0 38 (q := (75, .goto (-35), 3)) rfl
theorem d_Hold_init_78 : decode prog_3_method_1_code 78 = .ok (.return_, 1) := zdt v_Hold_init_0 39 (q := (78, .return_, 1)) rfl
def u_Arrow_init_0 : List (Nat × Instr × Nat) := [(0, .aload_n 0, 1), (1, .invokespecial 1, 3), (4, .aload_n 0, 1), (5, .iconst 0, 1), (6, .putfield 7, 3), (9, .aload_n 0, 1), (10, .iconst 0, 1), (11, .putfield 13, 3), (14, .aload_n 0, 1), (15, .iconst 0, 1), (16, .putfield 16, 3), (19, .return_, 1)]
theorem v_Arrow_init_0 : u_Arrow_init_0.all (zdq prog_2_method_1_code) = true := by decide +kernel
theorem d_Arrow_init_0 : decode prog_2_method_1_code 0 = .ok (.aload_n 0, 1) := zdt v_Arrow_init_0 0 (q := (0, .aload_n 0, 1)) rfl
theorem d_Arrow_init_1 : decode prog_2_method_1_code 1 = .ok (.invokespecial 1, 3) := zdt v_Arrow_init_0 1 (q := (1, .invokespecial 1, 3)) rfl
theorem d_Arrow_init_4 : decode prog_2_method_1_code 4 = .ok (.aload_n 0, 1) := zdt v_Arrow_init_0 2 (q := (4, .aload_n 0, 1)) rfl
theorem d_Arrow_init_5 : decode prog_2_method_1_code 5 = .ok (.iconst 0, 1) := zdt v_Arrow_init_0 3 (q := (5, .iconst 0, 1)) rfl
theorem d_Arrow_init_6 : decode prog_2_method_1_code 6 = .ok (.putfield 7, 3) := zdt v_Arrow_init_0 4 (q := (6, .putfield 7, 3)) rfl
theorem d_Arrow_init_9 : decode prog_2_method_1_code 9 = .ok (.aload_n 0, 1) := zdt v_Arrow_init_0 5 (q := (9, .aload_n 0, 1)) rfl
theorem d_Arrow_init_10 : decode prog_2_method_1_code 10 = .ok (.iconst 0, 1) := zdt v_Arrow_init_0 6 (q := (10, .iconst 0, 1)) rfl
theorem d_Arrow_init_11 : decode prog_2_method_1_code 11 = .ok (.putfield 13, 3) := zdt v_Arrow_init_0 7 (q := (11, .putfield 13, 3)) rfl
theorem d_Arrow_init_14 : decode prog_2_method_1_code 14 = .ok (.aload_n 0, 1) := zdt v_Arrow_init_0 8 (q := (14, .aload_n 0, 1)) rfl
theorem d_Arrow_init_15 : decode prog_2_method_1_code 15 = .ok (.iconst 0, 1) := zdt v_Arrow_init_0 9 (q := (15, .iconst 0, 1)) rfl
theorem d_Arrow_init_16 : decode prog_2_method_1_code 16 = .ok (.putfield 16, 3) := zdt v_Arrow_init_0 10 (q := (16, .putfield 16, 3)) rfl
theorem d_Arrow_init_19 : decode prog_2_method_1_code 19 = .ok (.return_, 1) := zdt v_Arrow_init_0 11 (q := (19, .return_, 1)) rfl
def u_Math_min_0 : List (Nat × Instr × Nat) := [(0, .iload_n 0, 1), (1, .iload_n 1, 1), (2, .if_icmp .gt 7, 3), (5, .iload_n 0, 1), (6, .goto 4, 3), (9, .iload_n 1, 1), (10, .ireturn, 1)]
theorem v_Math_min_0 : u_Math_min_0.all (zdq prog_14_method_69_code) = true := by decide +kernel
theorem d_Math_min_0 : decode prog_14_method_69_code 0 = .ok (.iload_n 0, 1) := zdt v_Math_min_0 0 (q := (0, .iload_n 0, 1)) rfl
theorem d_Math_min_1 : decode prog_14_method_69_code 1 = .ok (.iload_n 1, 1) := zdt v_Math_min_0 1 (q := (1, .iload_n 1, 1)) rfl
theorem d_Math_min_2 : decode prog_14_method_69_code 2 = .ok (.if_icmp .gt 7, 3) := zdt v_Math_min_0 2 (q := (2, .if_icmp .gt 7, 3)) rfl
theorem d_Math_min_5 : decode prog_14_method_69_code 5 = .ok (.iload_n 0, 1) := zdt v_Math_min_0 3 (q := (5, .iload_n 0, 1)) rfl
theorem d_Math_min_6 : decode prog_14_method_69_code 6 = .ok (.goto 4, 3) := zdt v_Math_min_0 4 (q := (6, .goto 4, 3)) rfl
theorem d_Math_min_9 : decode prog_14_method_69_code 9 = .ok (.iload_n 1, 1) := zdt v_Math_min_0 5 (q := (9, .iload_n 1, 1)) rfl
theorem d_Math_min_10 : decode prog_14_method_69_code 10 = .ok (.ireturn, 1) := zdt v_Math_min_0 6 (q := (10, .ireturn, 1)) rfl
def u_Math_max_0 : List (Nat × Instr × Nat) := [(0, .iload_n 0, 1), (1, .iload_n 1, 1), (2, .if_icmp .lt 7, 3), (5, .iload_n 0, 1), (6, .goto 4, 3), (9, .iload_n 1, 1), (10, .ireturn, 1)]
theorem v_Math_max_0 : u_Math_max_0.all (zdq prog_14_method_65_code) = true := by decide +kernel
theorem d_Math_max_0 : decode prog_14_method_65_code 0 = .ok (.iload_n 0, 1) := zdt v_Math_max_0 0 (q := (0, .iload_n 0, 1)) rfl
theorem d_Math_max_1 : decode prog_14_method_65_code 1 = .ok (.iload_n 1, 1) := zdt v_Math_max_0 1 (q := (1, .iload_n 1, 1)) rfl
theorem d_Math_max_2 : decode prog_14_method_65_code 2 = .ok (.if_icmp .lt 7, 3) := zdt v_Math_max_0 2 (q := (2, .if_icmp .lt 7, 3)) rfl
theorem d_Math_max_5 : decode prog_14_method_65_code 5 = .ok (.iload_n 0, 1) := zdt v_Math_max_0 3 (q := (5, .iload_n 0, 1)) rfl
theorem d_Math_max_6 : decode prog_14_method_65_code 6 = .ok (.goto 4, 3) := zdt v_Math_max_0 4 (q := (6, .goto 4, 3)) rfl
theorem d_Math_max_9 : decode prog_14_method_65_code 9 = .ok (.iload_n 1, 1) := zdt v_Math_max_0 5 (q := (9, .iload_n 1, 1)) rfl
theorem d_Math_max_10 : decode prog_14_method_65_code 10 = .ok (.ireturn, 1) := zdt v_Math_max_0 6 (q := (10, .ireturn, 1)) rfl
def u_Rock_init_0 : List (Nat × Instr × Nat) := [(0, .aload_n 0, 1), (1, .invokespecial 3, 3), (4, .aload_n 0, 1), (5, .bipush 12, 2), (7, .anewarray 9, 3), (10, .putfield 11, 3), (13, .aload_n 0, 1), (14, .new 17, 3), (17, .dup, 1), (18, .invokespecial 19, 3), (21, .putfield 20, 3), (24, .aload_n 0, 1), (25, .bipush 64, 2), (27, .newarray .int, 2), (29, .putfield 24, 3), (32, .aload_n 0, 1), (33, .bipush 64, 2), (35, .newarray .int, 2), (37, .putfield 28, 3), (40, .aload_n 0, 1), (41, .bipush 64, 2), (43, .newarray .int, 2), (45, .putfield 31, 3), (48, .aload_n 0, 1), (49, .bipush 64, 2), (51, .newarray .int, 2), (53, .putfield 34, 3), (56, .aload_n 0, 1), (57, .iconst 0, 1), (58, .putfield 37, 3), (61, .aload_n 0, 1), (62, .iconst 0, 1), (63, .putfield 41, 3), (66, .aload_n 0, 1), (67, .bipush 6, 2), (69, .newarray .int, 2), (71, .putfield 44, 3), (74, .aload_n 0, 1), (75, .sipush 220, 3), (78, .newarray .int, 2)]
theorem v_Rock_init_0 : u_Rock_init_0.all (zdq prog_6_method_1_code) = true := by decide +kernel
theorem d_Rock_init_0 : decode prog_6_method_1_code 0 = .ok (.aload_n 0, 1) := zdt v_Rock_init_0 0 (q := (0, .aload_n 0, 1)) rfl
theorem d_Rock_init_1 : decode prog_6_method_1_code 1 = .ok (.invokespecial 3, 3) := zdt v_Rock_init_0 1 (q := (1, .invokespecial 3, 3)) rfl
theorem d_Rock_init_4 : decode prog_6_method_1_code 4 = .ok (.aload_n 0, 1) := zdt v_Rock_init_0 2 (q := (4, .aload_n 0, 1)) rfl
theorem d_Rock_init_5 : decode prog_6_method_1_code 5 = .ok (.bipush 12, 2) := zdt v_Rock_init_0 3 (q := (5, .bipush 12, 2)) rfl
theorem d_Rock_init_7 : decode prog_6_method_1_code 7 = .ok (.anewarray 9, 3) := zdt v_Rock_init_0 4 (q := (7, .anewarray 9, 3)) rfl
theorem d_Rock_init_10 : decode prog_6_method_1_code 10 = .ok (.putfield 11, 3) := zdt v_Rock_init_0 5 (q := (10, .putfield 11, 3)) rfl
theorem d_Rock_init_13 : decode prog_6_method_1_code 13 = .ok (.aload_n 0, 1) := zdt v_Rock_init_0 6 (q := (13, .aload_n 0, 1)) rfl
theorem d_Rock_init_14 : decode prog_6_method_1_code 14 = .ok (.new 17, 3) := zdt v_Rock_init_0 7 (q := (14, .new 17, 3)) rfl
theorem d_Rock_init_17 : decode prog_6_method_1_code 17 = .ok (.dup, 1) := zdt v_Rock_init_0 8 (q := (17, .dup, 1)) rfl
theorem d_Rock_init_18 : decode prog_6_method_1_code 18 = .ok (.invokespecial 19, 3) := zdt v_Rock_init_0 9 (q := (18, .invokespecial 19, 3)) rfl
theorem d_Rock_init_21 : decode prog_6_method_1_code 21 = .ok (.putfield 20, 3) := zdt v_Rock_init_0 10 (q := (21, .putfield 20, 3)) rfl
theorem d_Rock_init_24 : decode prog_6_method_1_code 24 = .ok (.aload_n 0, 1) := zdt v_Rock_init_0 11 (q := (24, .aload_n 0, 1)) rfl
theorem d_Rock_init_25 : decode prog_6_method_1_code 25 = .ok (.bipush 64, 2) := zdt v_Rock_init_0 12 (q := (25, .bipush 64, 2)) rfl
theorem d_Rock_init_27 : decode prog_6_method_1_code 27 = .ok (.newarray .int, 2) := zdt v_Rock_init_0 13 (q := (27, .newarray .int, 2)) rfl
theorem d_Rock_init_29 : decode prog_6_method_1_code 29 = .ok (.putfield 24, 3) := zdt v_Rock_init_0 14 (q := (29, .putfield 24, 3)) rfl
theorem d_Rock_init_32 : decode prog_6_method_1_code 32 = .ok (.aload_n 0, 1) := zdt v_Rock_init_0 15 (q := (32, .aload_n 0, 1)) rfl
theorem d_Rock_init_33 : decode prog_6_method_1_code 33 = .ok (.bipush 64, 2) := zdt v_Rock_init_0 16 (q := (33, .bipush 64, 2)) rfl
theorem d_Rock_init_35 : decode prog_6_method_1_code 35 = .ok (.newarray .int, 2) := zdt v_Rock_init_0 17 (q := (35, .newarray .int, 2)) rfl
theorem d_Rock_init_37 : decode prog_6_method_1_code 37 = .ok (.putfield 28, 3) := zdt v_Rock_init_0 18 (q := (37, .putfield 28, 3)) rfl
theorem d_Rock_init_40 : decode prog_6_method_1_code 40 = .ok (.aload_n 0, 1) := zdt v_Rock_init_0 19 (q := (40, .aload_n 0, 1)) rfl
theorem d_Rock_init_41 : decode prog_6_method_1_code 41 = .ok (.bipush 64, 2) := zdt v_Rock_init_0 20 (q := (41, .bipush 64, 2)) rfl
theorem d_Rock_init_43 : decode prog_6_method_1_code 43 = .ok (.newarray .int, 2) := zdt v_Rock_init_0 21 (q := (43, .newarray .int, 2)) rfl
theorem d_Rock_init_45 : decode prog_6_method_1_code 45 = .ok (.putfield 31, 3) := zdt v_Rock_init_0 22 (q := (45, .putfield 31, 3)) rfl
theorem d_Rock_init_48 : decode prog_6_method_1_code 48 = .ok (.aload_n 0, 1) := zdt v_Rock_init_0 23 (q := (48, .aload_n 0, 1)) rfl
theorem d_Rock_init_49 : decode prog_6_method_1_code 49 = .ok (.bipush 64, 2) := zdt v_Rock_init_0 24 (q := (49, .bipush 64, 2)) rfl
theorem d_Rock_init_51 : decode prog_6_method_1_code 51 = .ok (.newarray .int, 2) := zdt v_Rock_init_0 25 (q := (51, .newarray .int, 2)) rfl
theorem d_Rock_init_53 : decode prog_6_method_1_code 53 = .ok (.putfield 34, 3) := zdt v_Rock_init_0 26 (q := (53, .putfield 34, 3)) rfl
theorem d_Rock_init_56 : decode prog_6_method_1_code 56 = .ok (.aload_n 0, 1) := zdt v_Rock_init_0 27 (q := (56, .aload_n 0, 1)) rfl
theorem d_Rock_init_57 : decode prog_6_method_1_code 57 = .ok (.iconst 0, 1) := zdt v_Rock_init_0 28 (q := (57, .iconst 0, 1)) rfl
theorem d_Rock_init_58 : decode prog_6_method_1_code 58 = .ok (.putfield 37, 3) := zdt v_Rock_init_0 29 (q := (58, .putfield 37, 3)) rfl
theorem d_Rock_init_61 : decode prog_6_method_1_code 61 = .ok (.aload_n 0, 1) := zdt v_Rock_init_0 30 (q := (61, .aload_n 0, 1)) rfl
theorem d_Rock_init_62 : decode prog_6_method_1_code 62 = .ok (.iconst 0, 1) := zdt v_Rock_init_0 31 (q := (62, .iconst 0, 1)) rfl
theorem d_Rock_init_63 : decode prog_6_method_1_code 63 = .ok (.putfield 41, 3) := zdt v_Rock_init_0 32 (q := (63, .putfield 41, 3)) rfl
theorem d_Rock_init_66 : decode prog_6_method_1_code 66 = .ok (.aload_n 0, 1) := zdt v_Rock_init_0 33 (q := (66, .aload_n 0, 1)) rfl
theorem d_Rock_init_67 : decode prog_6_method_1_code 67 = .ok (.bipush 6, 2) := zdt v_Rock_init_0 34 (q := (67, .bipush 6, 2)) rfl
theorem d_Rock_init_69 : decode prog_6_method_1_code 69 = .ok (.newarray .int, 2) := zdt v_Rock_init_0 35 (q := (69, .newarray .int, 2)) rfl
theorem d_Rock_init_71 : decode prog_6_method_1_code 71 = .ok (.putfield 44, 3) := zdt v_Rock_init_0 36 (q := (71, .putfield 44, 3)) rfl
theorem d_Rock_init_74 : decode prog_6_method_1_code 74 = .ok (.aload_n 0, 1) := zdt v_Rock_init_0 37 (q := (74, .aload_n 0, 1)) rfl
theorem d_Rock_init_75 : decode prog_6_method_1_code 75 = .ok (.sipush 220, 3) := zdt v_Rock_init_0 38 (q := (75, .sipush 220, 3)) rfl
theorem d_Rock_init_78 : decode prog_6_method_1_code 78 = .ok (.newarray .int, 2) := zdt v_Rock_init_0 39 (q := (78, .newarray .int, 2)) rfl
def u_Rock_init_1 : List (Nat × Instr × Nat) := [(80, .putfield 47, 3), (83, .aload_n 0, 1), (84, .new 50, 3), (87, .dup, 1), (88, .invokespecial 52, 3), (91, .putfield 53, 3), (94, .aload_n 0, 1), (95, .new 50, 3), (98, .dup, 1), (99, .invokespecial 52, 3), (102, .putfield 57, 3), (105, .aload_n 0, 1), (106, .new 50, 3), (109, .dup, 1), (110, .invokespecial 52, 3), (113, .putfield 60, 3), (116, .aload_n 0, 1), (117, .iconst 0, 1), (118, .putfield 63, 3), (121, .aload_n 0, 1), (122, .iload_n 1, 1), (123, .putfield 66, 3), (126, .aload_n 0, 1), (127, .iload_n 2, 1), (128, .putfield 69, 3), (131, .aload_n 0, 1), (132, .iload_n 3, 1), (133, .putfield 72, 3), (136, .iconst 0, 1), (137, .istore 4, 2), (139, .iload 4, 2), (141, .bipush 12, 2), (143, .if_icmp .ge 23, 3), (146, .aload_n 0, 1), (147, .getfield 11, 3), (150, .iload 4, 2), (152, .new 9, 3), (155, .dup, 1), (156, .invokespecial 75, 3), (159, .aastore, 1)]
theorem v_Rock_init_1 : u_Rock_init_1.all (zdq prog_6_method_1_code) = true := by decide +kernel
theorem d_Rock_init_80 : decode prog_6_method_1_code 80 = .ok (.putfield 47, 3) := zdt v_Rock_init_1 0 (q := (80, .putfield 47, 3)) rfl
theorem d_Rock_init_83 : decode prog_6_method_1_code 83 = .ok (.aload_n 0, 1) := zdt v_Rock_init_1 1 (q := (83, .aload_n 0, 1)) rfl
theorem d_Rock_init_84 : decode prog_6_method_1_code 84 = .ok (.new 50, 3) := zdt v_Rock_init_1 2 (q := (84, .new 50, 3)) rfl
theorem d_Rock_init_87 : decode prog_6_method_1_code 87 = .ok (.dup, 1) := zdt v_Rock_init_1 3 (q := (87, .dup, 1)) rfl
theorem d_Rock_init_88 : decode prog_6_method_1_code 88 = .ok (.invokespecial 52, 3) := zdt v_Rock_init_1 4 (q := (88, .invokespecial 52, 3)) rfl
theorem d_Rock_init_91 : decode prog_6_method_1_code 91 = .ok (.putfield 53, 3) := zdt v_Rock_init_1 5 (q := (91, .putfield 53, 3)) rfl
theorem d_Rock_init_94 : decode prog_6_method_1_code 94 = .ok (.aload_n 0, 1) := zdt v_Rock_init_1 6 (q := (94, .aload_n 0, 1)) rfl
theorem d_Rock_init_95 : decode prog_6_method_1_code 95 = .ok (.new 50, 3) := zdt v_Rock_init_1 7 (q := (95, .new 50, 3)) rfl
theorem d_Rock_init_98 : decode prog_6_method_1_code 98 = .ok (.dup, 1) := zdt v_Rock_init_1 8 (q := (98, .dup, 1)) rfl
theorem d_Rock_init_99 : decode prog_6_method_1_code 99 = .ok (.invokespecial 52, 3) := zdt v_Rock_init_1 9 (q := (99, .invokespecial 52, 3)) rfl
theorem d_Rock_init_102 : decode prog_6_method_1_code 102 = .ok (.putfield 57, 3) := zdt v_Rock_init_1 10 (q := (102, .putfield 57, 3)) rfl
theorem d_Rock_init_105 : decode prog_6_method_1_code 105 = .ok (.aload_n 0, 1) := zdt v_Rock_init_1 11 (q := (105, .aload_n 0, 1)) rfl
theorem d_Rock_init_106 : decode prog_6_method_1_code 106 = .ok (.new 50, 3) := zdt v_Rock_init_1 12 (q := (106, .new 50, 3)) rfl
theorem d_Rock_init_109 : decode prog_6_method_1_code 109 = .ok (.dup, 1) := zdt v_Rock_init_1 13 (q := (109, .dup, 1)) rfl
theorem d_Rock_init_110 : decode prog_6_method_1_code 110 = .ok (.invokespecial 52, 3) := zdt v_Rock_init_1 14 (q := (110, .invokespecial 52, 3)) rfl
theorem d_Rock_init_113 : decode prog_6_method_1_code 113 = .ok (.putfield 60, 3) := zdt v_Rock_init_1 15 (q := (113, .putfield 60, 3)) rfl
theorem d_Rock_init_116 : decode prog_6_method_1_code 116 = .ok (.aload_n 0, 1) := zdt v_Rock_init_1 16 (q := (116, .aload_n 0, 1)) rfl
theorem d_Rock_init_117 : decode prog_6_method_1_code 117 = .ok (.iconst 0, 1) := zdt v_Rock_init_1 17 (q := (117, .iconst 0, 1)) rfl
theorem d_Rock_init_118 : decode prog_6_method_1_code 118 = .ok (.putfield 63, 3) := zdt v_Rock_init_1 18 (q := (118, .putfield 63, 3)) rfl
theorem d_Rock_init_121 : decode prog_6_method_1_code 121 = .ok (.aload_n 0, 1) := zdt v_Rock_init_1 19 (q := (121, .aload_n 0, 1)) rfl
theorem d_Rock_init_122 : decode prog_6_method_1_code 122 = .ok (.iload_n 1, 1) := zdt v_Rock_init_1 20 (q := (122, .iload_n 1, 1)) rfl
theorem d_Rock_init_123 : decode prog_6_method_1_code 123 = .ok (.putfield 66, 3) := zdt v_Rock_init_1 21 (q := (123, .putfield 66, 3)) rfl
theorem d_Rock_init_126 : decode prog_6_method_1_code 126 = .ok (.aload_n 0, 1) := zdt v_Rock_init_1 22 (q := (126, .aload_n 0, 1)) rfl
theorem d_Rock_init_127 : decode prog_6_method_1_code 127 = .ok (.iload_n 2, 1) := zdt v_Rock_init_1 23 (q := (127, .iload_n 2, 1)) rfl
theorem d_Rock_init_128 : decode prog_6_method_1_code 128 = .ok (.putfield 69, 3) := zdt v_Rock_init_1 24 (q := (128, .putfield 69, 3)) rfl
theorem d_Rock_init_131 : decode prog_6_method_1_code 131 = .ok (.aload_n 0, 1) := zdt v_Rock_init_1 25 (q := (131, .aload_n 0, 1)) rfl
theorem d_Rock_init_132 : decode prog_6_method_1_code 132 = .ok (.iload_n 3, 1) := zdt v_Rock_init_1 26 (q := (132, .iload_n 3, 1)) rfl
theorem d_Rock_init_133 : decode prog_6_method_1_code 133 = .ok (.putfield 72, 3) := zdt v_Rock_init_1 27 (q := (133, .putfield 72, 3)) rfl
theorem d_Rock_init_136 : decode prog_6_method_1_code 136 = .ok (.iconst 0, 1) := zdt v_Rock_init_1 28 (q := (136, .iconst 0, 1)) rfl
theorem d_Rock_init_137 : decode prog_6_method_1_code 137 = .ok (.istore 4, 2) := zdt v_Rock_init_1 29 (q := (137, .istore 4, 2)) rfl
theorem d_Rock_init_139 : decode prog_6_method_1_code 139 = .ok (.iload 4, 2) := zdt v_Rock_init_1 30 (q := (139, .iload 4, 2)) rfl
theorem d_Rock_init_141 : decode prog_6_method_1_code 141 = .ok (.bipush 12, 2) := zdt v_Rock_init_1 31 (q := (141, .bipush 12, 2)) rfl
theorem d_Rock_init_143 : decode prog_6_method_1_code 143 = .ok (.if_icmp .ge 23, 3) := zdt v_Rock_init_1 32 (q := (143, .if_icmp .ge 23, 3)) rfl
theorem d_Rock_init_146 : decode prog_6_method_1_code 146 = .ok (.aload_n 0, 1) := zdt v_Rock_init_1 33 (q := (146, .aload_n 0, 1)) rfl
theorem d_Rock_init_147 : decode prog_6_method_1_code 147 = .ok (.getfield 11, 3) := zdt v_Rock_init_1 34 (q := (147, .getfield 11, 3)) rfl
theorem d_Rock_init_150 : decode prog_6_method_1_code 150 = .ok (.iload 4, 2) := zdt v_Rock_init_1 35 (q := (150, .iload 4, 2)) rfl
theorem d_Rock_init_152 : decode prog_6_method_1_code 152 = .ok (.new 9, 3) := zdt v_Rock_init_1 36 (q := (152, .new 9, 3)) rfl
theorem d_Rock_init_155 : decode prog_6_method_1_code 155 = .ok (.dup, 1) := zdt v_Rock_init_1 37 (q := (155, .dup, 1)) rfl
theorem d_Rock_init_156 : decode prog_6_method_1_code 156 = .ok (.invokespecial 75, 3) := zdt v_Rock_init_1 38 (q := (156, .invokespecial 75, 3)) rfl
theorem d_Rock_init_159 : decode prog_6_method_1_code 159 = .ok (.aastore, 1) := zdt v_Rock_init_1 39 (q := (159, .aastore, 1)) rfl
def u_Rock_init_2 : List (Nat × Instr × Nat) := [(160, .iinc 4 1, 3), (163, .goto (-24), 3), (166, .aload_n 0, 1), (167, .getfield 11, 3), (170, .bipush 6, 2), (172, .aaload, 1), (173, .iconst 1, 1), (174, .iconst 0, 1), (175, .iconst 0, 1), (176, .iconst 0, 1), (177, .invokevirtual 76, 3), (180, .aload_n 0, 1), (181, .getfield 11, 3), (184, .bipush 7, 2), (186, .aaload, 1), (187, .iconst 1, 1), (188, .iconst 0, 1), (189, .iconst 0, 1), (190, .iload_n 1, 1), (191, .invokevirtual 76, 3), (194, .aload_n 0, 1), (195, .getfield 11, 3), (198, .bipush 8, 2), (200, .aaload, 1), (201, .iconst 0, 1), (202, .iconst 1, 1), (203, .iconst 0, 1), (204, .iconst 0, 1), (205, .invokevirtual 76, 3), (208, .aload_n 0, 1), (209, .getfield 11, 3), (212, .bipush 9, 2), (214, .aaload, 1), (215, .iconst 0, 1), (216, .iconst 1, 1), (217, .iconst 0, 1), (218, .iload_n 2, 1), (219, .invokevirtual 76, 3), (222, .aload_n 0, 1), (223, .getfield 11, 3)]
theorem v_Rock_init_2 : u_Rock_init_2.all (zdq prog_6_method_1_code) = true := by decide +kernel
theorem d_Rock_init_160 : decode prog_6_method_1_code 160 = .ok (.iinc 4 1, 3) := zdt v_Rock_init_2 0 (q := (160, .iinc 4 1, 3)) rfl
theorem d_Rock_init_163 : decode prog_6_method_1_code 163 = .ok (.goto (-24), 3) := zdt v_Rock_init_2 1 (q := (163, .goto (-24), 3)) rfl
theorem d_Rock_init_166 : decode prog_6_method_1_code 166 = .ok (.aload_n 0, 1) := zdt v_Rock_init_2 2 (q := (166, .aload_n 0, 1)) rfl
theorem d_Rock_init_167 : decode prog_6_method_1_code 167 = .ok (.getfield 11, 3) := zdt v_Rock_init_2 3 (q := (167, .getfield 11, 3)) rfl
theorem d_Rock_init_170 : decode prog_6_method_1_code 170 = .ok (.bipush 6, 2) := zdt v_Rock_init_2 4 (q := (170, .bipush 6, 2)) rfl
theorem d_Rock_init_172 : decode prog_6_method_1_code 172 = .ok (.aaload, 1) := zdt v_Rock_init_2 5 (q := (172, .aaload, 1)) rfl
theorem d_Rock_init_173 : decode prog_6_method_1_code 173 = .ok (.iconst 1, 1) := zdt v_Rock_init_2 6 (q := (173, .iconst 1, 1)) rfl
theorem d_Rock_init_174 : decode prog_6_method_1_code 174 = .ok (.iconst 0, 1) := zdt v_Rock_init_2 7 (q := (174, .iconst 0, 1)) rfl
theorem d_Rock_init_175 : decode prog_6_method_1_code 175 = .ok (.iconst 0, 1) := zdt v_Rock_init_2 8 (q := (175, .iconst 0, 1)) rfl
theorem d_Rock_init_176 : decode prog_6_method_1_code 176 = .ok (.iconst 0, 1) := zdt v_Rock_init_2 9 (q := (176, .iconst 0, 1)) rfl
theorem d_Rock_init_177 : decode prog_6_method_1_code 177 = .ok (.invokevirtual 76, 3) := zdt v_Rock_init_2 10 (q := (177, .invokevirtual 76, 3)) rfl
theorem d_Rock_init_180 : decode prog_6_method_1_code 180 = .ok (.aload_n 0, 1) := zdt v_Rock_init_2 11 (q := (180, .aload_n 0, 1)) rfl
theorem d_Rock_init_181 : decode prog_6_method_1_code 181 = .ok (.getfield 11, 3) := zdt v_Rock_init_2 12 (q := (181, .getfield 11, 3)) rfl
theorem d_Rock_init_184 : decode prog_6_method_1_code 184 = .ok (.bipush 7, 2) := zdt v_Rock_init_2 13 (q := (184, .bipush 7, 2)) rfl
theorem d_Rock_init_186 : decode prog_6_method_1_code 186 = .ok (.aaload, 1) := zdt v_Rock_init_2 14 (q := (186, .aaload, 1)) rfl
theorem d_Rock_init_187 : decode prog_6_method_1_code 187 = .ok (.iconst 1, 1) := zdt v_Rock_init_2 15 (q := (187, .iconst 1, 1)) rfl
theorem d_Rock_init_188 : decode prog_6_method_1_code 188 = .ok (.iconst 0, 1) := zdt v_Rock_init_2 16 (q := (188, .iconst 0, 1)) rfl
theorem d_Rock_init_189 : decode prog_6_method_1_code 189 = .ok (.iconst 0, 1) := zdt v_Rock_init_2 17 (q := (189, .iconst 0, 1)) rfl
theorem d_Rock_init_190 : decode prog_6_method_1_code 190 = .ok (.iload_n 1, 1) := zdt v_Rock_init_2 18 (q := (190, .iload_n 1, 1)) rfl
theorem d_Rock_init_191 : decode prog_6_method_1_code 191 = .ok (.invokevirtual 76, 3) := zdt v_Rock_init_2 19 (q := (191, .invokevirtual 76, 3)) rfl
theorem d_Rock_init_194 : decode prog_6_method_1_code 194 = .ok (.aload_n 0, 1) := zdt v_Rock_init_2 20 (q := (194, .aload_n 0, 1)) rfl
theorem d_Rock_init_195 : decode prog_6_method_1_code 195 = .ok (.getfield 11, 3) := zdt v_Rock_init_2 21 (q := (195, .getfield 11, 3)) rfl
theorem d_Rock_init_198 : decode prog_6_method_1_code 198 = .ok (.bipush 8, 2) := zdt v_Rock_init_2 22 (q := (198, .bipush 8, 2)) rfl
theorem d_Rock_init_200 : decode prog_6_method_1_code 200 = .ok (.aaload, 1) := zdt v_Rock_init_2 23 (q := (200, .aaload, 1)) rfl
theorem d_Rock_init_201 : decode prog_6_method_1_code 201 = .ok (.iconst 0, 1) := zdt v_Rock_init_2 24 (q := (201, .iconst 0, 1)) rfl
theorem d_Rock_init_202 : decode prog_6_method_1_code 202 = .ok (.iconst 1, 1) := zdt v_Rock_init_2 25 (q := (202, .iconst 1, 1)) rfl
theorem d_Rock_init_203 : decode prog_6_method_1_code 203 = .ok (.iconst 0, 1) := zdt v_Rock_init_2 26 (q := (203, .iconst 0, 1)) rfl
theorem d_Rock_init_204 : decode prog_6_method_1_code 204 = .ok (.iconst 0, 1) := zdt v_Rock_init_2 27 (q := (204, .iconst 0, 1)) rfl
theorem d_Rock_init_205 : decode prog_6_method_1_code 205 = .ok (.invokevirtual 76, 3) := zdt v_Rock_init_2 28 (q := (205, .invokevirtual 76, 3)) rfl
theorem d_Rock_init_208 : decode prog_6_method_1_code 208 = .ok (.aload_n 0, 1) := zdt v_Rock_init_2 29 (q := (208, .aload_n 0, 1)) rfl
theorem d_Rock_init_209 : decode prog_6_method_1_code 209 = .ok (.getfield 11, 3) := zdt v_Rock_init_2 30 (q := (209, .getfield 11, 3)) rfl
theorem d_Rock_init_212 : decode prog_6_method_1_code 212 = .ok (.bipush 9, 2) := zdt v_Rock_init_2 31 (q := (212, .bipush 9, 2)) rfl
theorem d_Rock_init_214 : decode prog_6_method_1_code 214 = .ok (.aaload, 1) := zdt v_Rock_init_2 32 (q := (214, .aaload, 1)) rfl
theorem d_Rock_init_215 : decode prog_6_method_1_code 215 = .ok (.iconst 0, 1) := zdt v_Rock_init_2 33 (q := (215, .iconst 0, 1)) rfl
theorem d_Rock_init_216 : decode prog_6_method_1_code 216 = .ok (.iconst 1, 1) := zdt v_Rock_init_2 34 (q := (216, .iconst 1, 1)) rfl
theorem d_Rock_init_217 : decode prog_6_method_1_code 217 = .ok (.iconst 0, 1) := zdt v_Rock_init_2 35 (q := (217, .iconst 0, 1)) rfl
theorem d_Rock_init_218 : decode prog_6_method_1_code 218 = .ok (.iload_n 2, 1) := zdt v_Rock_init_2 36 (q := (218, .iload_n 2, 1)) rfl
theorem d_Rock_init_219 : decode prog_6_method_1_code 219 = .ok (.invokevirtual 76, 3) := zdt v_Rock_init_2 37 (q := (219, .invokevirtual 76, 3)) rfl
theorem d_Rock_init_222 : decode prog_6_method_1_code 222 = .ok (.aload_n 0, 1) := zdt v_Rock_init_2 38 (q := (222, .aload_n 0, 1)) rfl
theorem d_Rock_init_223 : decode prog_6_method_1_code 223 = .ok (.getfield 11, 3) := zdt v_Rock_init_2 39 (q := (223, .getfield 11, 3)) rfl
def u_Rock_init_3 : List (Nat × Instr × Nat) := [(226, .bipush 10, 2), (228, .aaload, 1), (229, .iconst 0, 1), (230, .iconst 0, 1), (231, .iconst 1, 1), (232, .iconst 0, 1), (233, .invokevirtual 76, 3), (236, .aload_n 0, 1), (237, .getfield 11, 3), (240, .bipush 11, 2), (242, .aaload, 1), (243, .iconst 0, 1), (244, .iconst 0, 1), (245, .iconst 1, 1), (246, .iload_n 3, 1), (247, .invokevirtual 76, 3), (250, .bipush 6, 2), (252, .istore 4, 2), (254, .iload 4, 2), (256, .bipush 12, 2), (258, .if_icmp .ge 15, 3), (261, .aload_n 0, 1), (262, .iload 4, 2), (264, .invokevirtual 80, 3), (267, .iinc 4 1, 3), (270, .goto (-16), 3), (273, .aload_n 0, 1), (274, .invokevirtual 84, 3), (277, .return_, 1)]
theorem v_Rock_init_3 : u_Rock_init_3.all (zdq prog_6_method_1_code) = true := by decide +kernel
theorem d_Rock_init_226 : decode prog_6_method_1_code 226 = .ok (.bipush 10, 2) := zdt v_Rock_init_3 0 (q := (226, .bipush 10, 2)) rfl
theorem d_Rock_init_228 : decode prog_6_method_1_code 228 = .ok (.aaload, 1) := zdt v_Rock_init_3 1 (q := (228, .aaload, 1)) rfl
theorem d_Rock_init_229 : decode prog_6_method_1_code 229 = .ok (.iconst 0, 1) := zdt v_Rock_init_3 2 (q := (229, .iconst 0, 1)) rfl
theorem d_Rock_init_230 : decode prog_6_method_1_code 230 = .ok (.iconst 0, 1) := zdt v_Rock_init_3 3 (q := (230, .iconst 0, 1)) rfl
theorem d_Rock_init_231 : decode prog_6_method_1_code 231 = .ok (.iconst 1, 1) := zdt v_Rock_init_3 4 (q := (231, .iconst 1, 1)) rfl
theorem d_Rock_init_232 : decode prog_6_method_1_code 232 = .ok (.iconst 0, 1) := zdt v_Rock_init_3 5 (q := (232, .iconst 0, 1)) rfl
theorem d_Rock_init_233 : decode prog_6_method_1_code 233 = .ok (.invokevirtual 76, 3) := zdt v_Rock_init_3 6 (q := (233, .invokevirtual 76, 3)) rfl
theorem d_Rock_init_236 : decode prog_6_method_1_code 236 = .ok (.aload_n 0, 1) := zdt v_Rock_init_3 7 (q := (236, .aload_n 0, 1)) rfl
theorem d_Rock_init_237 : decode prog_6_method_1_code 237 = .ok (.getfield 11, 3) := zdt v_Rock_init_3 8 (q := (237, .getfield 11, 3)) rfl
theorem d_Rock_init_240 : decode prog_6_method_1_code 240 = .ok (.bipush 11, 2) := zdt v_Rock_init_3 9 (q := (240, .bipush 11, 2)) rfl
theorem d_Rock_init_242 : decode prog_6_method_1_code 242 = .ok (.aaload, 1) := zdt v_Rock_init_3 10 (q := (242, .aaload, 1)) rfl
theorem d_Rock_init_243 : decode prog_6_method_1_code 243 = .ok (.iconst 0, 1) := zdt v_Rock_init_3 11 (q := (243, .iconst 0, 1)) rfl
theorem d_Rock_init_244 : decode prog_6_method_1_code 244 = .ok (.iconst 0, 1) := zdt v_Rock_init_3 12 (q := (244, .iconst 0, 1)) rfl
theorem d_Rock_init_245 : decode prog_6_method_1_code 245 = .ok (.iconst 1, 1) := zdt v_Rock_init_3 13 (q := (245, .iconst 1, 1)) rfl
theorem d_Rock_init_246 : decode prog_6_method_1_code 246 = .ok (.iload_n 3, 1) := zdt v_Rock_init_3 14 (q := (246, .iload_n 3, 1)) rfl
theorem d_Rock_init_247 : decode prog_6_method_1_code 247 = .ok (.invokevirtual 76, 3) := zdt v_Rock_init_3 15 (q := (247, .invokevirtual 76, 3)) rfl
theorem d_Rock_init_250 : decode prog_6_method_1_code 250 = .ok (.bipush 6, 2) := zdt v_Rock_init_3 16 (q := (250, .bipush 6, 2)) rfl
theorem d_Rock_init_252 : decode prog_6_method_1_code 252 = .ok (.istore 4, 2) := zdt v_Rock_init_3 17 (q := (252, .istore 4, 2)) rfl
theorem d_Rock_init_254 : decode prog_6_method_1_code 254 = .ok (.iload 4, 2) := zdt v_Rock_init_3 18 (q := (254, .iload 4, 2)) rfl
theorem d_Rock_init_256 : decode prog_6_method_1_code 256 = .ok (.bipush 12, 2) := zdt v_Rock_init_3 19 (q := (256, .bipush 12, 2)) rfl
theorem d_Rock_init_258 : decode prog_6_method_1_code 258 = .ok (.if_icmp .ge 15, 3) := zdt v_Rock_init_3 20 (q := (258, .if_icmp .ge 15, 3)) rfl
theorem d_Rock_init_261 : decode prog_6_method_1_code 261 = .ok (.aload_n 0, 1) := zdt v_Rock_init_3 21 (q := (261, .aload_n 0, 1)) rfl
theorem d_Rock_init_262 : decode prog_6_method_1_code 262 = .ok (.iload 4, 2) := zdt v_Rock_init_3 22 (q := (262, .iload 4, 2)) rfl
theorem d_Rock_init_264 : decode prog_6_method_1_code 264 = .ok (.invokevirtual 80, 3) := zdt v_Rock_init_3 23 (q := (264, .invokevirtual 80, 3)) rfl
theorem d_Rock_init_267 : decode prog_6_method_1_code 267 = .ok (.iinc 4 1, 3) := zdt v_Rock_init_3 24 (q := (267, .iinc 4 1, 3)) rfl
theorem d_Rock_init_270 : decode prog_6_method_1_code 270 = .ok (.goto (-16), 3) := zdt v_Rock_init_3 25 (q := (270, .goto (-16), 3)) rfl
theorem d_Rock_init_273 : decode prog_6_method_1_code 273 = .ok (.aload_n 0, 1) := zdt v_Rock_init_3 26 (q := (273, .aload_n 0, 1)) rfl
theorem d_Rock_init_274 : decode prog_6_method_1_code 274 = .ok (.invokevirtual 84, 3) := zdt v_Rock_init_3 27 (q := (274, .invokevirtual 84, 3)) rfl
theorem d_Rock_init_277 : decode prog_6_method_1_code 277 = .ok (.return_, 1) := zdt v_Rock_init_3 28 (q := (277, .return_, 1)) rfl
def u_Points_init_0 : List (Nat × Instr × Nat) := [(0, .aload_n 0, 1), (1, .invokespecial 1, 3), (4, .aload_n 0, 1), (5, .sipush 220, 3), (8, .newarray .int, 2), (10, .putfield 9, 3), (13, .aload_n 0, 1), (14, .sipush 220, 3), (17, .newarray .int, 2), (19, .putfield 13, 3), (22, .aload_n 0, 1), (23, .sipush 220, 3), (26, .newarray .int, 2), (28, .putfield 16, 3), (31, .aload_n 0, 1), (32, .sipush 220, 3), (35, .newarray .int, 2), (37, .putfield 19, 3), (40, .aload_n 0, 1), (41, .sipush 220, 3), (44, .newarray .int, 2), (46, .putfield 22, 3), (49, .aload_n 0, 1), (50, .sipush 220, 3), (53, .newarray .int, 2), (55, .putfield 25, 3), (58, .aload_n 0, 1), (59, .iconst 0, 1), (60, .putfield 28, 3), (63, .return_, 1)]
theorem v_Points_init_0 : u_Points_init_0.all (zdq prog_5_method_1_code) = true := by decide +kernel
theorem d_Points_init_0 : decode prog_5_method_1_code 0 = .ok (.aload_n 0, 1) := zdt v_Points_init_0 0 (q := (0, .aload_n 0, 1)) rfl
theorem d_Points_init_1 : decode prog_5_method_1_code 1 = .ok (.invokespecial 1, 3) := zdt v_Points_init_0 1 (q := (1, .invokespecial 1, 3)) rfl
theorem d_Points_init_4 : decode prog_5_method_1_code 4 = .ok (.aload_n 0, 1) := zdt v_Points_init_0 2 (q := (4, .aload_n 0, 1)) rfl
theorem d_Points_init_5 : decode prog_5_method_1_code 5 = .ok (.sipush 220, 3) := zdt v_Points_init_0 3 (q := (5, .sipush 220, 3)) rfl
theorem d_Points_init_8 : decode prog_5_method_1_code 8 = .ok (.newarray .int, 2) := zdt v_Points_init_0 4 (q := (8, .newarray .int, 2)) rfl
theorem d_Points_init_10 : decode prog_5_method_1_code 10 = .ok (.putfield 9, 3) := zdt v_Points_init_0 5 (q := (10, .putfield 9, 3)) rfl
theorem d_Points_init_13 : decode prog_5_method_1_code 13 = .ok (.aload_n 0, 1) := zdt v_Points_init_0 6 (q := (13, .aload_n 0, 1)) rfl
theorem d_Points_init_14 : decode prog_5_method_1_code 14 = .ok (.sipush 220, 3) := zdt v_Points_init_0 7 (q := (14, .sipush 220, 3)) rfl
theorem d_Points_init_17 : decode prog_5_method_1_code 17 = .ok (.newarray .int, 2) := zdt v_Points_init_0 8 (q := (17, .newarray .int, 2)) rfl
theorem d_Points_init_19 : decode prog_5_method_1_code 19 = .ok (.putfield 13, 3) := zdt v_Points_init_0 9 (q := (19, .putfield 13, 3)) rfl
theorem d_Points_init_22 : decode prog_5_method_1_code 22 = .ok (.aload_n 0, 1) := zdt v_Points_init_0 10 (q := (22, .aload_n 0, 1)) rfl
theorem d_Points_init_23 : decode prog_5_method_1_code 23 = .ok (.sipush 220, 3) := zdt v_Points_init_0 11 (q := (23, .sipush 220, 3)) rfl
theorem d_Points_init_26 : decode prog_5_method_1_code 26 = .ok (.newarray .int, 2) := zdt v_Points_init_0 12 (q := (26, .newarray .int, 2)) rfl
theorem d_Points_init_28 : decode prog_5_method_1_code 28 = .ok (.putfield 16, 3) := zdt v_Points_init_0 13 (q := (28, .putfield 16, 3)) rfl
theorem d_Points_init_31 : decode prog_5_method_1_code 31 = .ok (.aload_n 0, 1) := zdt v_Points_init_0 14 (q := (31, .aload_n 0, 1)) rfl
theorem d_Points_init_32 : decode prog_5_method_1_code 32 = .ok (.sipush 220, 3) := zdt v_Points_init_0 15 (q := (32, .sipush 220, 3)) rfl
theorem d_Points_init_35 : decode prog_5_method_1_code 35 = .ok (.newarray .int, 2) := zdt v_Points_init_0 16 (q := (35, .newarray .int, 2)) rfl
theorem d_Points_init_37 : decode prog_5_method_1_code 37 = .ok (.putfield 19, 3) := zdt v_Points_init_0 17 (q := (37, .putfield 19, 3)) rfl
theorem d_Points_init_40 : decode prog_5_method_1_code 40 = .ok (.aload_n 0, 1) := zdt v_Points_init_0 18 (q := (40, .aload_n 0, 1)) rfl
theorem d_Points_init_41 : decode prog_5_method_1_code 41 = .ok (.sipush 220, 3) := zdt v_Points_init_0 19 (q := (41, .sipush 220, 3)) rfl
theorem d_Points_init_44 : decode prog_5_method_1_code 44 = .ok (.newarray .int, 2) := zdt v_Points_init_0 20 (q := (44, .newarray .int, 2)) rfl
theorem d_Points_init_46 : decode prog_5_method_1_code 46 = .ok (.putfield 22, 3) := zdt v_Points_init_0 21 (q := (46, .putfield 22, 3)) rfl
theorem d_Points_init_49 : decode prog_5_method_1_code 49 = .ok (.aload_n 0, 1) := zdt v_Points_init_0 22 (q := (49, .aload_n 0, 1)) rfl
theorem d_Points_init_50 : decode prog_5_method_1_code 50 = .ok (.sipush 220, 3) := zdt v_Points_init_0 23 (q := (50, .sipush 220, 3)) rfl
theorem d_Points_init_53 : decode prog_5_method_1_code 53 = .ok (.newarray .int, 2) := zdt v_Points_init_0 24 (q := (53, .newarray .int, 2)) rfl
theorem d_Points_init_55 : decode prog_5_method_1_code 55 = .ok (.putfield 25, 3) := zdt v_Points_init_0 25 (q := (55, .putfield 25, 3)) rfl
theorem d_Points_init_58 : decode prog_5_method_1_code 58 = .ok (.aload_n 0, 1) := zdt v_Points_init_0 26 (q := (58, .aload_n 0, 1)) rfl
theorem d_Points_init_59 : decode prog_5_method_1_code 59 = .ok (.iconst 0, 1) := zdt v_Points_init_0 27 (q := (59, .iconst 0, 1)) rfl
theorem d_Points_init_60 : decode prog_5_method_1_code 60 = .ok (.putfield 28, 3) := zdt v_Points_init_0 28 (q := (60, .putfield 28, 3)) rfl
theorem d_Points_init_63 : decode prog_5_method_1_code 63 = .ok (.return_, 1) := zdt v_Points_init_0 29 (q := (63, .return_, 1)) rfl
def u_Plane_init_0 : List (Nat × Instr × Nat) := [(0, .aload_n 0, 1), (1, .invokespecial 1, 3), (4, .aload_n 0, 1), (5, .new 7, 3), (8, .dup, 1), (9, .invokespecial 9, 3), (12, .putfield 10, 3), (15, .aload_n 0, 1), (16, .iconst 0, 1), (17, .putfield 16, 3), (20, .return_, 1)]
theorem v_Plane_init_0 : u_Plane_init_0.all (zdq prog_4_method_1_code) = true := by decide +kernel
theorem d_Plane_init_0 : decode prog_4_method_1_code 0 = .ok (.aload_n 0, 1) := zdt v_Plane_init_0 0 (q := (0, .aload_n 0, 1)) rfl
theorem d_Plane_init_1 : decode prog_4_method_1_code 1 = .ok (.invokespecial 1, 3) := zdt v_Plane_init_0 1 (q := (1, .invokespecial 1, 3)) rfl
theorem d_Plane_init_4 : decode prog_4_method_1_code 4 = .ok (.aload_n 0, 1) := zdt v_Plane_init_0 2 (q := (4, .aload_n 0, 1)) rfl
theorem d_Plane_init_5 : decode prog_4_method_1_code 5 = .ok (.new 7, 3) := zdt v_Plane_init_0 3 (q := (5, .new 7, 3)) rfl
theorem d_Plane_init_8 : decode prog_4_method_1_code 8 = .ok (.dup, 1) := zdt v_Plane_init_0 4 (q := (8, .dup, 1)) rfl
theorem d_Plane_init_9 : decode prog_4_method_1_code 9 = .ok (.invokespecial 9, 3) := zdt v_Plane_init_0 5 (q := (9, .invokespecial 9, 3)) rfl
theorem d_Plane_init_12 : decode prog_4_method_1_code 12 = .ok (.putfield 10, 3) := zdt v_Plane_init_0 6 (q := (12, .putfield 10, 3)) rfl
theorem d_Plane_init_15 : decode prog_4_method_1_code 15 = .ok (.aload_n 0, 1) := zdt v_Plane_init_0 7 (q := (15, .aload_n 0, 1)) rfl
theorem d_Plane_init_16 : decode prog_4_method_1_code 16 = .ok (.iconst 0, 1) := zdt v_Plane_init_0 8 (q := (16, .iconst 0, 1)) rfl
theorem d_Plane_init_17 : decode prog_4_method_1_code 17 = .ok (.putfield 16, 3) := zdt v_Plane_init_0 9 (q := (17, .putfield 16, 3)) rfl
theorem d_Plane_init_20 : decode prog_4_method_1_code 20 = .ok (.return_, 1) := zdt v_Plane_init_0 10 (q := (20, .return_, 1)) rfl
def u_Plane_set_0 : List (Nat × Instr × Nat) := [(0, .aload_n 0, 1), (1, .getfield 10, 3), (4, .iload_n 1, 1), (5, .iload_n 2, 1), (6, .iload_n 3, 1), (7, .invokevirtual 20, 3), (10, .aload_n 0, 1), (11, .iload 4, 2), (13, .putfield 16, 3), (16, .return_, 1)]
theorem v_Plane_set_0 : u_Plane_set_0.all (zdq prog_4_method_2_code) = true := by decide +kernel
theorem d_Plane_set_0 : decode prog_4_method_2_code 0 = .ok (.aload_n 0, 1) := zdt v_Plane_set_0 0 (q := (0, .aload_n 0, 1)) rfl
theorem d_Plane_set_1 : decode prog_4_method_2_code 1 = .ok (.getfield 10, 3) := zdt v_Plane_set_0 1 (q := (1, .getfield 10, 3)) rfl
theorem d_Plane_set_4 : decode prog_4_method_2_code 4 = .ok (.iload_n 1, 1) := zdt v_Plane_set_0 2 (q := (4, .iload_n 1, 1)) rfl
theorem d_Plane_set_5 : decode prog_4_method_2_code 5 = .ok (.iload_n 2, 1) := zdt v_Plane_set_0 3 (q := (5, .iload_n 2, 1)) rfl
theorem d_Plane_set_6 : decode prog_4_method_2_code 6 = .ok (.iload_n 3, 1) := zdt v_Plane_set_0 4 (q := (6, .iload_n 3, 1)) rfl
theorem d_Plane_set_7 : decode prog_4_method_2_code 7 = .ok (.invokevirtual 20, 3) := zdt v_Plane_set_0 5 (q := (7, .invokevirtual 20, 3)) rfl
theorem d_Plane_set_10 : decode prog_4_method_2_code 10 = .ok (.aload_n 0, 1) := zdt v_Plane_set_0 6 (q := (10, .aload_n 0, 1)) rfl
theorem d_Plane_set_11 : decode prog_4_method_2_code 11 = .ok (.iload 4, 2) := zdt v_Plane_set_0 7 (q := (11, .iload 4, 2)) rfl
theorem d_Plane_set_13 : decode prog_4_method_2_code 13 = .ok (.putfield 16, 3) := zdt v_Plane_set_0 8 (q := (13, .putfield 16, 3)) rfl
theorem d_Plane_set_16 : decode prog_4_method_2_code 16 = .ok (.return_, 1) := zdt v_Plane_set_0 9 (q := (16, .return_, 1)) rfl
def u_Arrow_set_0 : List (Nat × Instr × Nat) := [(0, .aload_n 0, 1), (1, .iload_n 1, 1), (2, .putfield 7, 3), (5, .aload_n 0, 1), (6, .iload_n 2, 1), (7, .putfield 13, 3), (10, .aload_n 0, 1), (11, .iload_n 3, 1), (12, .putfield 16, 3), (15, .return_, 1)]
theorem v_Arrow_set_0 : u_Arrow_set_0.all (zdq prog_2_method_2_code) = true := by decide +kernel
theorem d_Arrow_set_0 : decode prog_2_method_2_code 0 = .ok (.aload_n 0, 1) := zdt v_Arrow_set_0 0 (q := (0, .aload_n 0, 1)) rfl
theorem d_Arrow_set_1 : decode prog_2_method_2_code 1 = .ok (.iload_n 1, 1) := zdt v_Arrow_set_0 1 (q := (1, .iload_n 1, 1)) rfl
theorem d_Arrow_set_2 : decode prog_2_method_2_code 2 = .ok (.putfield 7, 3) := zdt v_Arrow_set_0 2 (q := (2, .putfield 7, 3)) rfl
theorem d_Arrow_set_5 : decode prog_2_method_2_code 5 = .ok (.aload_n 0, 1) := zdt v_Arrow_set_0 3 (q := (5, .aload_n 0, 1)) rfl
theorem d_Arrow_set_6 : decode prog_2_method_2_code 6 = .ok (.iload_n 2, 1) := zdt v_Arrow_set_0 4 (q := (6, .iload_n 2, 1)) rfl
theorem d_Arrow_set_7 : decode prog_2_method_2_code 7 = .ok (.putfield 13, 3) := zdt v_Arrow_set_0 5 (q := (7, .putfield 13, 3)) rfl
theorem d_Arrow_set_10 : decode prog_2_method_2_code 10 = .ok (.aload_n 0, 1) := zdt v_Arrow_set_0 6 (q := (10, .aload_n 0, 1)) rfl
theorem d_Arrow_set_11 : decode prog_2_method_2_code 11 = .ok (.iload_n 3, 1) := zdt v_Arrow_set_0 7 (q := (11, .iload_n 3, 1)) rfl
theorem d_Arrow_set_12 : decode prog_2_method_2_code 12 = .ok (.putfield 16, 3) := zdt v_Arrow_set_0 8 (q := (12, .putfield 16, 3)) rfl
theorem d_Arrow_set_15 : decode prog_2_method_2_code 15 = .ok (.return_, 1) := zdt v_Arrow_set_0 9 (q := (15, .return_, 1)) rfl
def u_Rock_addFace_0 : List (Nat × Instr × Nat) := [(0, .iconst 0, 1), (1, .istore_n 2, 1), (2, .iload_n 2, 1), (3, .aload_n 0, 1), (4, .getfield 20, 3), (7, .getfield 100, 3), (10, .if_icmp .ge 24, 3), (13, .aload_n 0, 1), (14, .getfield 20, 3), (17, .iload_n 2, 1), (18, .iload_n 1, 1), (19, .aload_n 0, 1), (20, .getfield 11, 3), (23, .iload_n 1, 1), (24, .aaload, 1), (25, .invokevirtual 127, 3), (28, .iinc 2 1, 3), (31, .goto (-29), 3), (34, .aload_n 0, 1), (35, .getfield 63, 3), (38, .istore_n 2, 1), (39, .aload_n 0, 1), (40, .dup, 1), (41, .getfield 63, 3), (44, .iconst 1, 1), (45, .iload_n 1, 1), (46, .ishl, 1), (47, .ior, 1), (48, .putfield 63, 3), (51, .iconst 0, 1), (52, .istore_n 3, 1), (53, .iload_n 3, 1), (54, .bipush 12, 2), (56, .if_icmp .ge 67, 3), (59, .iload_n 3, 1), (60, .iconst 1, 1), (61, .iadd, 1), (62, .istore 4, 2), (64, .iload 4, 2), (66, .bipush 12, 2)]
theorem v_Rock_addFace_0 : u_Rock_addFace_0.all (zdq prog_6_method_11_code) = true := by decide +kernel
theorem d_Rock_addFace_0 : decode prog_6_method_11_code 0 = .ok (.iconst 0, 1) := zdt v_Rock_addFace_0 0 (q := (0, .iconst 0, 1)) rfl
theorem d_Rock_addFace_1 : decode prog_6_method_11_code 1 = .ok (.istore_n 2, 1) := zdt v_Rock_addFace_0 1 (q := (1, .istore_n 2, 1)) rfl
theorem d_Rock_addFace_2 : decode prog_6_method_11_code 2 = .ok (.iload_n 2, 1) := zdt v_Rock_addFace_0 2 (q := (2, .iload_n 2, 1)) rfl
theorem d_Rock_addFace_3 : decode prog_6_method_11_code 3 = .ok (.aload_n 0, 1) := zdt v_Rock_addFace_0 3 (q := (3, .aload_n 0, 1)) rfl
theorem d_Rock_addFace_4 : decode prog_6_method_11_code 4 = .ok (.getfield 20, 3) := zdt v_Rock_addFace_0 4 (q := (4, .getfield 20, 3)) rfl
theorem d_Rock_addFace_7 : decode prog_6_method_11_code 7 = .ok (.getfield 100, 3) := zdt v_Rock_addFace_0 5 (q := (7, .getfield 100, 3)) rfl
theorem d_Rock_addFace_10 : decode prog_6_method_11_code 10 = .ok (.if_icmp .ge 24, 3) := zdt v_Rock_addFace_0 6 (q := (10, .if_icmp .ge 24, 3)) rfl
theorem d_Rock_addFace_13 : decode prog_6_method_11_code 13 = .ok (.aload_n 0, 1) := zdt v_Rock_addFace_0 7 (q := (13, .aload_n 0, 1)) rfl
theorem d_Rock_addFace_14 : decode prog_6_method_11_code 14 = .ok (.getfield 20, 3) := zdt v_Rock_addFace_0 8 (q := (14, .getfield 20, 3)) rfl
theorem d_Rock_addFace_17 : decode prog_6_method_11_code 17 = .ok (.iload_n 2, 1) := zdt v_Rock_addFace_0 9 (q := (17, .iload_n 2, 1)) rfl
theorem d_Rock_addFace_18 : decode prog_6_method_11_code 18 = .ok (.iload_n 1, 1) := zdt v_Rock_addFace_0 10 (q := (18, .iload_n 1, 1)) rfl
theorem d_Rock_addFace_19 : decode prog_6_method_11_code 19 = .ok (.aload_n 0, 1) := zdt v_Rock_addFace_0 11 (q := (19, .aload_n 0, 1)) rfl
theorem d_Rock_addFace_20 : decode prog_6_method_11_code 20 = .ok (.getfield 11, 3) := zdt v_Rock_addFace_0 12 (q := (20, .getfield 11, 3)) rfl
theorem d_Rock_addFace_23 : decode prog_6_method_11_code 23 = .ok (.iload_n 1, 1) := zdt v_Rock_addFace_0 13 (q := (23, .iload_n 1, 1)) rfl
theorem d_Rock_addFace_24 : decode prog_6_method_11_code 24 = .ok (.aaload, 1) := zdt v_Rock_addFace_0 14 (q := (24, .aaload, 1)) rfl
theorem d_Rock_addFace_25 : decode prog_6_method_11_code 25 = .ok (.invokevirtual 127, 3) := zdt v_Rock_addFace_0 15 (q := (25, .invokevirtual 127, 3)) rfl
theorem d_Rock_addFace_28 : decode prog_6_method_11_code 28 = .ok (.iinc 2 1, 3) := zdt v_Rock_addFace_0 16 (q := (28, .iinc 2 1, 3)) rfl
theorem d_Rock_addFace_31 : decode prog_6_method_11_code 31 = .ok (.goto (-29), 3) := zdt v_Rock_addFace_0 17 (q := (31, .goto (-29), 3)) rfl
theorem d_Rock_addFace_34 : decode prog_6_method_11_code 34 = .ok (.aload_n 0, 1) := zdt v_Rock_addFace_0 18 (q := (34, .aload_n 0, 1)) rfl
theorem d_Rock_addFace_35 : decode prog_6_method_11_code 35 = .ok (.getfield 63, 3) := zdt v_Rock_addFace_0 19 (q := (35, .getfield 63, 3)) rfl
theorem d_Rock_addFace_38 : decode prog_6_method_11_code 38 = .ok (.istore_n 2, 1) := zdt v_Rock_addFace_0 20 (q := (38, .istore_n 2, 1)) rfl
theorem d_Rock_addFace_39 : decode prog_6_method_11_code 39 = .ok (.aload_n 0, 1) := zdt v_Rock_addFace_0 21 (q := (39, .aload_n 0, 1)) rfl
theorem d_Rock_addFace_40 : decode prog_6_method_11_code 40 = .ok (.dup, 1) := zdt v_Rock_addFace_0 22 (q := (40, .dup, 1)) rfl
theorem d_Rock_addFace_41 : decode prog_6_method_11_code 41 = .ok (.getfield 63, 3) := zdt v_Rock_addFace_0 23 (q := (41, .getfield 63, 3)) rfl
theorem d_Rock_addFace_44 : decode prog_6_method_11_code 44 = .ok (.iconst 1, 1) := zdt v_Rock_addFace_0 24 (q := (44, .iconst 1, 1)) rfl
theorem d_Rock_addFace_45 : decode prog_6_method_11_code 45 = .ok (.iload_n 1, 1) := zdt v_Rock_addFace_0 25 (q := (45, .iload_n 1, 1)) rfl
theorem d_Rock_addFace_46 : decode prog_6_method_11_code 46 = .ok (.ishl, 1) := zdt v_Rock_addFace_0 26 (q := (46, .ishl, 1)) rfl
theorem d_Rock_addFace_47 : decode prog_6_method_11_code 47 = .ok (.ior, 1) := zdt v_Rock_addFace_0 27 (q := (47, .ior, 1)) rfl
theorem d_Rock_addFace_48 : decode prog_6_method_11_code 48 = .ok (.putfield 63, 3) := zdt v_Rock_addFace_0 28 (q := (48, .putfield 63, 3)) rfl
theorem d_Rock_addFace_51 : decode prog_6_method_11_code 51 = .ok (.iconst 0, 1) := zdt v_Rock_addFace_0 29 (q := (51, .iconst 0, 1)) rfl
theorem d_Rock_addFace_52 : decode prog_6_method_11_code 52 = .ok (.istore_n 3, 1) := zdt v_Rock_addFace_0 30 (q := (52, .istore_n 3, 1)) rfl
theorem d_Rock_addFace_53 : decode prog_6_method_11_code 53 = .ok (.iload_n 3, 1) := zdt v_Rock_addFace_0 31 (q := (53, .iload_n 3, 1)) rfl
theorem d_Rock_addFace_54 : decode prog_6_method_11_code 54 = .ok (.bipush 12, 2) := zdt v_Rock_addFace_0 32 (q := (54, .bipush 12, 2)) rfl
theorem d_Rock_addFace_56 : decode prog_6_method_11_code 56 = .ok (.if_icmp .ge 67, 3) := zdt v_Rock_addFace_0 33 (q := (56, .if_icmp .ge 67, 3)) rfl
theorem d_Rock_addFace_59 : decode prog_6_method_11_code 59 = .ok (.iload_n 3, 1) := zdt v_Rock_addFace_0 34 (q := (59, .iload_n 3, 1)) rfl
theorem d_Rock_addFace_60 : decode prog_6_method_11_code 60 = .ok (.iconst 1, 1) := zdt v_Rock_addFace_0 35 (q := (60, .iconst 1, 1)) rfl
theorem d_Rock_addFace_61 : decode prog_6_method_11_code 61 = .ok (.iadd, 1) := zdt v_Rock_addFace_0 36 (q := (61, .iadd, 1)) rfl
theorem d_Rock_addFace_62 : decode prog_6_method_11_code 62 = .ok (.istore 4, 2) := zdt v_Rock_addFace_0 37 (q := (62, .istore 4, 2)) rfl
theorem d_Rock_addFace_64 : decode prog_6_method_11_code 64 = .ok (.iload 4, 2) := zdt v_Rock_addFace_0 38 (q := (64, .iload 4, 2)) rfl
theorem d_Rock_addFace_66 : decode prog_6_method_11_code 66 = .ok (.bipush 12, 2) := zdt v_Rock_addFace_0 39 (q := (66, .bipush 12, 2)) rfl
def u_Rock_addFace_1 : List (Nat × Instr × Nat) := [(68, .if_icmp .ge 49, 3), (71, .iload_n 2, 1), (72, .iload_n 3, 1), (73, .invokestatic 107, 3), (76, .ifCond .eq 35, 3), (79, .iload_n 2, 1), (80, .iload 4, 2), (82, .invokestatic 107, 3), (85, .ifCond .eq 26, 3), (88, .aload_n 0, 1), (89, .aload_n 0, 1), (90, .getfield 11, 3), (93, .iload_n 1, 1), (94, .aaload, 1), (95, .aload_n 0, 1), (96, .getfield 11, 3), (99, .iload_n 3, 1), (100, .aaload, 1), (101, .aload_n 0, 1), (102, .getfield 11, 3), (105, .iload 4, 2), (107, .aaload, 1), (108, .invokevirtual 131, 3), (111, .iinc 4 1, 3), (114, .goto (-50), 3), (117, .iinc 3 1, 3), (120, .goto (-67), 3), (123, .return_, 1)]
theorem v_Rock_addFace_1 : u_Rock_addFace_1.all (zdq prog_6_method_11_code) = true := by decide +kernel
theorem d_Rock_addFace_68 : decode prog_6_method_11_code 68 = .ok (.if_icmp .ge 49, 3) := zdt v_Rock_addFace_1 0 (q := (68, .if_icmp .ge 49, 3)) rfl
theorem d_Rock_addFace_71 : decode prog_6_method_11_code 71 = .ok (.iload_n 2, 1) := zdt v_Rock_addFace_1 1 (q := (71, .iload_n 2, 1)) rfl
theorem d_Rock_addFace_72 : decode prog_6_method_11_code 72 = .ok (.iload_n 3, 1) := zdt v_Rock_addFace_1 2 (q := (72, .iload_n 3, 1)) rfl
theorem d_Rock_addFace_73 : decode prog_6_method_11_code 73 = .ok (.invokestatic 107, 3) := zdt v_Rock_addFace_1 3 (q := (73, .invokestatic 107, 3)) rfl
theorem d_Rock_addFace_76 : decode prog_6_method_11_code 76 = .ok (.ifCond .eq 35, 3) := zdt v_Rock_addFace_1 4 (q := (76, .ifCond .eq 35, 3)) rfl
theorem d_Rock_addFace_79 : decode prog_6_method_11_code 79 = .ok (.iload_n 2, 1) := zdt v_Rock_addFace_1 5 (q := (79, .iload_n 2, 1)) rfl
theorem d_Rock_addFace_80 : decode prog_6_method_11_code 80 = .ok (.iload 4, 2) := zdt v_Rock_addFace_1 6 (q := (80, .iload 4, 2)) rfl
theorem d_Rock_addFace_82 : decode prog_6_method_11_code 82 = .ok (.invokestatic 107, 3) := zdt v_Rock_addFace_1 7 (q := (82, .invokestatic 107, 3)) rfl
theorem d_Rock_addFace_85 : decode prog_6_method_11_code 85 = .ok (.ifCond .eq 26, 3) := zdt v_Rock_addFace_1 8 (q := (85, .ifCond .eq 26, 3)) rfl
theorem d_Rock_addFace_88 : decode prog_6_method_11_code 88 = .ok (.aload_n 0, 1) := zdt v_Rock_addFace_1 9 (q := (88, .aload_n 0, 1)) rfl
theorem d_Rock_addFace_89 : decode prog_6_method_11_code 89 = .ok (.aload_n 0, 1) := zdt v_Rock_addFace_1 10 (q := (89, .aload_n 0, 1)) rfl
theorem d_Rock_addFace_90 : decode prog_6_method_11_code 90 = .ok (.getfield 11, 3) := zdt v_Rock_addFace_1 11 (q := (90, .getfield 11, 3)) rfl
theorem d_Rock_addFace_93 : decode prog_6_method_11_code 93 = .ok (.iload_n 1, 1) := zdt v_Rock_addFace_1 12 (q := (93, .iload_n 1, 1)) rfl
theorem d_Rock_addFace_94 : decode prog_6_method_11_code 94 = .ok (.aaload, 1) := zdt v_Rock_addFace_1 13 (q := (94, .aaload, 1)) rfl
theorem d_Rock_addFace_95 : decode prog_6_method_11_code 95 = .ok (.aload_n 0, 1) := zdt v_Rock_addFace_1 14 (q := (95, .aload_n 0, 1)) rfl
theorem d_Rock_addFace_96 : decode prog_6_method_11_code 96 = .ok (.getfield 11, 3) := zdt v_Rock_addFace_1 15 (q := (96, .getfield 11, 3)) rfl
theorem d_Rock_addFace_99 : decode prog_6_method_11_code 99 = .ok (.iload_n 3, 1) := zdt v_Rock_addFace_1 16 (q := (99, .iload_n 3, 1)) rfl
theorem d_Rock_addFace_100 : decode prog_6_method_11_code 100 = .ok (.aaload, 1) := zdt v_Rock_addFace_1 17 (q := (100, .aaload, 1)) rfl
theorem d_Rock_addFace_101 : decode prog_6_method_11_code 101 = .ok (.aload_n 0, 1) := zdt v_Rock_addFace_1 18 (q := (101, .aload_n 0, 1)) rfl
theorem d_Rock_addFace_102 : decode prog_6_method_11_code 102 = .ok (.getfield 11, 3) := zdt v_Rock_addFace_1 19 (q := (102, .getfield 11, 3)) rfl
theorem d_Rock_addFace_105 : decode prog_6_method_11_code 105 = .ok (.iload 4, 2) := zdt v_Rock_addFace_1 20 (q := (105, .iload 4, 2)) rfl
theorem d_Rock_addFace_107 : decode prog_6_method_11_code 107 = .ok (.aaload, 1) := zdt v_Rock_addFace_1 21 (q := (107, .aaload, 1)) rfl
theorem d_Rock_addFace_108 : decode prog_6_method_11_code 108 = .ok (.invokevirtual 131, 3) := zdt v_Rock_addFace_1 22 (q := (108, .invokevirtual 131, 3)) rfl
theorem d_Rock_addFace_111 : decode prog_6_method_11_code 111 = .ok (.iinc 4 1, 3) := zdt v_Rock_addFace_1 23 (q := (111, .iinc 4 1, 3)) rfl
theorem d_Rock_addFace_114 : decode prog_6_method_11_code 114 = .ok (.goto (-50), 3) := zdt v_Rock_addFace_1 24 (q := (114, .goto (-50), 3)) rfl
theorem d_Rock_addFace_117 : decode prog_6_method_11_code 117 = .ok (.iinc 3 1, 3) := zdt v_Rock_addFace_1 25 (q := (117, .iinc 3 1, 3)) rfl
theorem d_Rock_addFace_120 : decode prog_6_method_11_code 120 = .ok (.goto (-67), 3) := zdt v_Rock_addFace_1 26 (q := (120, .goto (-67), 3)) rfl
theorem d_Rock_addFace_123 : decode prog_6_method_11_code 123 = .ok (.return_, 1) := zdt v_Rock_addFace_1 27 (q := (123, .return_, 1)) rfl
def u_Points_tellSide_0 : List (Nat × Instr × Nat) := [(0, .aload_n 3, 1), (1, .aload_n 0, 1), (2, .getfield 9, 3), (5, .iload_n 1, 1), (6, .iaload, 1), (7, .aload_n 0, 1), (8, .getfield 13, 3), (11, .iload_n 1, 1), (12, .iaload, 1), (13, .aload_n 0, 1), (14, .getfield 16, 3), (17, .iload_n 1, 1), (18, .iaload, 1), (19, .aload_n 0, 1), (20, .getfield 19, 3), (23, .iload_n 1, 1), (24, .iaload, 1), (25, .invokevirtual 32, 3), (28, .istore 4, 2), (30, .iload 4, 2), (32, .ifCond .le 18, 3), (35, .aload_n 0, 1), (36, .getfield 22, 3), (39, .iload_n 1, 1), (40, .dup2, 1), (41, .iaload, 1), (42, .iconst 1, 1), (43, .iload_n 2, 1), (44, .ishl, 1), (45, .ior, 1), (46, .iastore, 1), (47, .goto 20, 3), (50, .iload 4, 2), (52, .ifCond .ge 15, 3), (55, .aload_n 0, 1), (56, .getfield 25, 3), (59, .iload_n 1, 1), (60, .dup2, 1), (61, .iaload, 1), (62, .iconst 1, 1)]
theorem v_Points_tellSide_0 : u_Points_tellSide_0.all (zdq prog_5_method_4_code) = true := by decide +kernel
theorem d_Points_tellSide_0 : decode prog_5_method_4_code 0 = .ok (.aload_n 3, 1) := zdt v_Points_tellSide_0 0 (q := (0, .aload_n 3, 1)) rfl
theorem d_Points_tellSide_1 : decode prog_5_method_4_code 1 = .ok (.aload_n 0, 1) := zdt v_Points_tellSide_0 1 (q := (1, .aload_n 0, 1)) rfl
theorem d_Points_tellSide_2 : decode prog_5_method_4_code 2 = .ok (.getfield 9, 3) := zdt v_Points_tellSide_0 2 (q := (2, .getfield 9, 3)) rfl
theorem d_Points_tellSide_5 : decode prog_5_method_4_code 5 = .ok (.iload_n 1, 1) := zdt v_Points_tellSide_0 3 (q := (5, .iload_n 1, 1)) rfl
theorem d_Points_tellSide_6 : decode prog_5_method_4_code 6 = .ok (.iaload, 1) := zdt v_Points_tellSide_0 4 (q := (6, .iaload, 1)) rfl
theorem d_Points_tellSide_7 : decode prog_5_method_4_code 7 = .ok (.aload_n 0, 1) := zdt v_Points_tellSide_0 5 (q := (7, .aload_n 0, 1)) rfl
theorem d_Points_tellSide_8 : decode prog_5_method_4_code 8 = .ok (.getfield 13, 3) := zdt v_Points_tellSide_0 6 (q := (8, .getfield 13, 3)) rfl
theorem d_Points_tellSide_11 : decode prog_5_method_4_code 11 = .ok (.iload_n 1, 1) := zdt v_Points_tellSide_0 7 (q := (11, .iload_n 1, 1)) rfl
theorem d_Points_tellSide_12 : decode prog_5_method_4_code 12 = .ok (.iaload, 1) := zdt v_Points_tellSide_0 8 (q := (12, .iaload, 1)) rfl
theorem d_Points_tellSide_13 : decode prog_5_method_4_code 13 = .ok (.aload_n 0, 1) := zdt v_Points_tellSide_0 9 (q := (13, .aload_n 0, 1)) rfl
theorem d_Points_tellSide_14 : decode prog_5_method_4_code 14 = .ok (.getfield 16, 3) := zdt v_Points_tellSide_0 10 (q := (14, .getfield 16, 3)) rfl
theorem d_Points_tellSide_17 : decode prog_5_method_4_code 17 = .ok (.iload_n 1, 1) := zdt v_Points_tellSide_0 11 (q := (17, .iload_n 1, 1)) rfl
theorem d_Points_tellSide_18 : decode prog_5_method_4_code 18 = .ok (.iaload, 1) := zdt v_Points_tellSide_0 12 (q := (18, .iaload, 1)) rfl
theorem d_Points_tellSide_19 : decode prog_5_method_4_code 19 = .ok (.aload_n 0, 1) := zdt v_Points_tellSide_0 13 (q := (19, .aload_n 0, 1)) rfl
theorem d_Points_tellSide_20 : decode prog_5_method_4_code 20 = .ok (.getfield 19, 3) := zdt v_Points_tellSide_0 14 (q := (20, .getfield 19, 3)) rfl
theorem d_Points_tellSide_23 : decode prog_5_method_4_code 23 = .ok (.iload_n 1, 1) := zdt v_Points_tellSide_0 15 (q := (23, .iload_n 1, 1)) rfl
theorem d_Points_tellSide_24 : decode prog_5_method_4_code 24 = .ok (.iaload, 1) := zdt v_Points_tellSide_0 16 (q := (24, .iaload, 1)) rfl
theorem d_Points_tellSide_25 : decode prog_5_method_4_code 25 = .ok (.invokevirtual 32, 3) := zdt v_Points_tellSide_0 17 (q := (25, .invokevirtual 32, 3)) rfl
theorem d_Points_tellSide_28 : decode prog_5_method_4_code 28 = .ok (.istore 4, 2) := zdt v_Points_tellSide_0 18 (q := (28, .istore 4, 2)) rfl
theorem d_Points_tellSide_30 : decode prog_5_method_4_code 30 = .ok (.iload 4, 2) := zdt v_Points_tellSide_0 19 (q := (30, .iload 4, 2)) rfl
theorem d_Points_tellSide_32 : decode prog_5_method_4_code 32 = .ok (.ifCond .le 18, 3) := zdt v_Points_tellSide_0 20 (q := (32, .ifCond .le 18, 3)) rfl
theorem d_Points_tellSide_35 : decode prog_5_method_4_code 35 = .ok (.aload_n 0, 1) := zdt v_Points_tellSide_0 21 (q := (35, .aload_n 0, 1)) rfl
theorem d_Points_tellSide_36 : decode prog_5_method_4_code 36 = .ok (.getfield 22, 3) := zdt v_Points_tellSide_0 22 (q := (36, .getfield 22, 3)) rfl
theorem d_Points_tellSide_39 : decode prog_5_method_4_code 39 = .ok (.iload_n 1, 1) := zdt v_Points_tellSide_0 23 (q := (39, .iload_n 1, 1)) rfl
theorem d_Points_tellSide_40 : decode prog_5_method_4_code 40 = .ok (.dup2, 1) := zdt v_Points_tellSide_0 24 (q := (40, .dup2, 1)) rfl
theorem d_Points_tellSide_41 : decode prog_5_method_4_code 41 = .ok (.iaload, 1) := zdt v_Points_tellSide_0 25 (q := (41, .iaload, 1)) rfl
theorem d_Points_tellSide_42 : decode prog_5_method_4_code 42 = .ok (.iconst 1, 1) := zdt v_Points_tellSide_0 26 (q := (42, .iconst 1, 1)) rfl
theorem d_Points_tellSide_43 : decode prog_5_method_4_code 43 = .ok (.iload_n 2, 1) := zdt v_Points_tellSide_0 27 (q := (43, .iload_n 2, 1)) rfl
theorem d_Points_tellSide_44 : decode prog_5_method_4_code 44 = .ok (.ishl, 1) := zdt v_Points_tellSide_0 28 (q := (44, .ishl, 1)) rfl
theorem d_Points_tellSide_45 : decode prog_5_method_4_code 45 = .ok (.ior, 1) := zdt v_Points_tellSide_0 29 (q := (45, .ior, 1)) rfl
theorem d_Points_tellSide_46 : decode prog_5_method_4_code 46 = .ok (.iastore, 1) := zdt v_Points_tellSide_0 30 (q := (46, .iastore, 1)) rfl
theorem d_Points_tellSide_47 : decode prog_5_method_4_code 47 = .ok (.goto 20, 3) := zdt v_Points_tellSide_0 31 (q := (47, .goto 20, 3)) rfl
theorem d_Points_tellSide_50 : decode prog_5_method_4_code 50 = .ok (.iload 4, 2) := zdt v_Points_tellSide_0 32 (q := (50, .iload 4, 2)) rfl
theorem d_Points_tellSide_52 : decode prog_5_method_4_code 52 = .ok (.ifCond .ge 15, 3) := zdt v_Points_tellSide_0 33 (q := (52, .ifCond .ge 15, 3)) rfl
theorem d_Points_tellSide_55 : decode prog_5_method_4_code 55 = .ok (.aload_n 0, 1) := zdt v_Points_tellSide_0 34 (q := (55, .aload_n 0, 1)) rfl
theorem d_Points_tellSide_56 : decode prog_5_method_4_code 56 = .ok (.getfield 25, 3) := zdt v_Points_tellSide_0 35 (q := (56, .getfield 25, 3)) rfl
theorem d_Points_tellSide_59 : decode prog_5_method_4_code 59 = .ok (.iload_n 1, 1) := zdt v_Points_tellSide_0 36 (q := (59, .iload_n 1, 1)) rfl
theorem d_Points_tellSide_60 : decode prog_5_method_4_code 60 = .ok (.dup2, 1) := zdt v_Points_tellSide_0 37 (q := (60, .dup2, 1)) rfl
theorem d_Points_tellSide_61 : decode prog_5_method_4_code 61 = .ok (.iaload, 1) := zdt v_Points_tellSide_0 38 (q := (61, .iaload, 1)) rfl
theorem d_Points_tellSide_62 : decode prog_5_method_4_code 62 = .ok (.iconst 1, 1) := zdt v_Points_tellSide_0 39 (q := (62, .iconst 1, 1)) rfl
def u_Points_tellSide_1 : List (Nat × Instr × Nat) := [(63, .iload_n 2, 1), (64, .ishl, 1), (65, .ior, 1), (66, .iastore, 1), (67, .return_, 1)]
theorem v_Points_tellSide_1 : u_Points_tellSide_1.all (zdq prog_5_method_4_code) = true := by decide +kernel
theorem d_Points_tellSide_63 : decode prog_5_method_4_code 63 = .ok (.iload_n 2, 1) := zdt v_Points_tellSide_1 0 (q := (63, .iload_n 2, 1)) rfl
theorem d_Points_tellSide_64 : decode prog_5_method_4_code 64 = .ok (.ishl, 1) := zdt v_Points_tellSide_1 1 (q := (64, .ishl, 1)) rfl
theorem d_Points_tellSide_65 : decode prog_5_method_4_code 65 = .ok (.ior, 1) := zdt v_Points_tellSide_1 2 (q := (65, .ior, 1)) rfl
theorem d_Points_tellSide_66 : decode prog_5_method_4_code 66 = .ok (.iastore, 1) := zdt v_Points_tellSide_1 3 (q := (66, .iastore, 1)) rfl
theorem d_Points_tellSide_67 : decode prog_5_method_4_code 67 = .ok (.return_, 1) := zdt v_Points_tellSide_1 4 (q := (67, .return_, 1)) rfl
def u_Plane_heightOf_0 : List (Nat × Instr × Nat) := [(0, .aload_n 0, 1), (1, .getfield 10, 3), (4, .getfield 24, 3), (7, .iload_n 1, 1), (8, .imul, 1), (9, .aload_n 0, 1), (10, .getfield 10, 3), (13, .getfield 27, 3), (16, .iload_n 2, 1), (17, .imul, 1), (18, .iadd, 1), (19, .aload_n 0, 1), (20, .getfield 10, 3), (23, .getfield 30, 3), (26, .iload_n 3, 1), (27, .imul, 1), (28, .iadd, 1), (29, .aload_n 0, 1), (30, .getfield 16, 3), (33, .iload 4, 2), (35, .imul, 1), (36, .isub, 1), (37, .ireturn, 1)]
theorem v_Plane_heightOf_0 : u_Plane_heightOf_0.all (zdq prog_4_method_3_code) = true := by decide +kernel
theorem d_Plane_heightOf_0 : decode prog_4_method_3_code 0 = .ok (.aload_n 0, 1) := zdt v_Plane_heightOf_0 0 (q := (0, .aload_n 0, 1)) rfl
theorem d_Plane_heightOf_1 : decode prog_4_method_3_code 1 = .ok (.getfield 10, 3) := zdt v_Plane_heightOf_0 1 (q := (1, .getfield 10, 3)) rfl
theorem d_Plane_heightOf_4 : decode prog_4_method_3_code 4 = .ok (.getfield 24, 3) := zdt v_Plane_heightOf_0 2 (q := (4, .getfield 24, 3)) rfl
theorem d_Plane_heightOf_7 : decode prog_4_method_3_code 7 = .ok (.iload_n 1, 1) := zdt v_Plane_heightOf_0 3 (q := (7, .iload_n 1, 1)) rfl
theorem d_Plane_heightOf_8 : decode prog_4_method_3_code 8 = .ok (.imul, 1) := zdt v_Plane_heightOf_0 4 (q := (8, .imul, 1)) rfl
theorem d_Plane_heightOf_9 : decode prog_4_method_3_code 9 = .ok (.aload_n 0, 1) := zdt v_Plane_heightOf_0 5 (q := (9, .aload_n 0, 1)) rfl
theorem d_Plane_heightOf_10 : decode prog_4_method_3_code 10 = .ok (.getfield 10, 3) := zdt v_Plane_heightOf_0 6 (q := (10, .getfield 10, 3)) rfl
theorem d_Plane_heightOf_13 : decode prog_4_method_3_code 13 = .ok (.getfield 27, 3) := zdt v_Plane_heightOf_0 7 (q := (13, .getfield 27, 3)) rfl
theorem d_Plane_heightOf_16 : decode prog_4_method_3_code 16 = .ok (.iload_n 2, 1) := zdt v_Plane_heightOf_0 8 (q := (16, .iload_n 2, 1)) rfl
theorem d_Plane_heightOf_17 : decode prog_4_method_3_code 17 = .ok (.imul, 1) := zdt v_Plane_heightOf_0 9 (q := (17, .imul, 1)) rfl
theorem d_Plane_heightOf_18 : decode prog_4_method_3_code 18 = .ok (.iadd, 1) := zdt v_Plane_heightOf_0 10 (q := (18, .iadd, 1)) rfl
theorem d_Plane_heightOf_19 : decode prog_4_method_3_code 19 = .ok (.aload_n 0, 1) := zdt v_Plane_heightOf_0 11 (q := (19, .aload_n 0, 1)) rfl
theorem d_Plane_heightOf_20 : decode prog_4_method_3_code 20 = .ok (.getfield 10, 3) := zdt v_Plane_heightOf_0 12 (q := (20, .getfield 10, 3)) rfl
theorem d_Plane_heightOf_23 : decode prog_4_method_3_code 23 = .ok (.getfield 30, 3) := zdt v_Plane_heightOf_0 13 (q := (23, .getfield 30, 3)) rfl
theorem d_Plane_heightOf_26 : decode prog_4_method_3_code 26 = .ok (.iload_n 3, 1) := zdt v_Plane_heightOf_0 14 (q := (26, .iload_n 3, 1)) rfl
theorem d_Plane_heightOf_27 : decode prog_4_method_3_code 27 = .ok (.imul, 1) := zdt v_Plane_heightOf_0 15 (q := (27, .imul, 1)) rfl
theorem d_Plane_heightOf_28 : decode prog_4_method_3_code 28 = .ok (.iadd, 1) := zdt v_Plane_heightOf_0 16 (q := (28, .iadd, 1)) rfl
theorem d_Plane_heightOf_29 : decode prog_4_method_3_code 29 = .ok (.aload_n 0, 1) := zdt v_Plane_heightOf_0 17 (q := (29, .aload_n 0, 1)) rfl
theorem d_Plane_heightOf_30 : decode prog_4_method_3_code 30 = .ok (.getfield 16, 3) := zdt v_Plane_heightOf_0 18 (q := (30, .getfield 16, 3)) rfl
theorem d_Plane_heightOf_33 : decode prog_4_method_3_code 33 = .ok (.iload 4, 2) := zdt v_Plane_heightOf_0 19 (q := (33, .iload 4, 2)) rfl
theorem d_Plane_heightOf_35 : decode prog_4_method_3_code 35 = .ok (.imul, 1) := zdt v_Plane_heightOf_0 20 (q := (35, .imul, 1)) rfl
theorem d_Plane_heightOf_36 : decode prog_4_method_3_code 36 = .ok (.isub, 1) := zdt v_Plane_heightOf_0 21 (q := (36, .isub, 1)) rfl
theorem d_Plane_heightOf_37 : decode prog_4_method_3_code 37 = .ok (.ireturn, 1) := zdt v_Plane_heightOf_0 22 (q := (37, .ireturn, 1)) rfl
def u_Rock_meet_0 : List (Nat × Instr × Nat) := [(0, .aload_n 0, 1), (1, .getfield 53, 3), (4, .aload_n 2, 1), (5, .getfield 135, 3), (8, .aload_n 3, 1), (9, .getfield 135, 3), (12, .invokevirtual 138, 3), (15, .aload_n 0, 1), (16, .getfield 57, 3), (19, .aload_n 3, 1), (20, .getfield 135, 3), (23, .aload_n 1, 1), (24, .getfield 135, 3), (27, .invokevirtual 138, 3), (30, .aload_n 0, 1), (31, .getfield 60, 3), (34, .aload_n 1, 1), (35, .getfield 135, 3), (38, .aload_n 2, 1), (39, .getfield 135, 3), (42, .invokevirtual 138, 3), (45, .aload_n 1, 1), (46, .getfield 135, 3), (49, .aload_n 0, 1), (50, .getfield 53, 3), (53, .invokevirtual 142, 3), (56, .istore 4, 2), (58, .iload 4, 2), (60, .ifCond .ne 4, 3), (63, .return_, 1), (64, .iload 4, 2), (66, .ifCond .le 7, 3), (69, .iconst 1, 1), (70, .goto 4, 3), (73, .iconst (-1), 1), (74, .istore 5, 2), (76, .aload_n 1, 1), (77, .getfield 146, 3), (80, .aload_n 0, 1), (81, .getfield 53, 3)]
theorem v_Rock_meet_0 : u_Rock_meet_0.all (zdq prog_6_method_12_code) = true := by decide +kernel
theorem d_Rock_meet_0 : decode prog_6_method_12_code 0 = .ok (.aload_n 0, 1) := zdt v_Rock_meet_0 0 (q := (0, .aload_n 0, 1)) rfl
theorem d_Rock_meet_1 : decode prog_6_method_12_code 1 = .ok (.getfield 53, 3) := zdt v_Rock_meet_0 1 (q := (1, .getfield 53, 3)) rfl
theorem d_Rock_meet_4 : decode prog_6_method_12_code 4 = .ok (.aload_n 2, 1) := zdt v_Rock_meet_0 2 (q := (4, .aload_n 2, 1)) rfl
theorem d_Rock_meet_5 : decode prog_6_method_12_code 5 = .ok (.getfield 135, 3) := zdt v_Rock_meet_0 3 (q := (5, .getfield 135, 3)) rfl
theorem d_Rock_meet_8 : decode prog_6_method_12_code 8 = .ok (.aload_n 3, 1) := zdt v_Rock_meet_0 4 (q := (8, .aload_n 3, 1)) rfl
theorem d_Rock_meet_9 : decode prog_6_method_12_code 9 = .ok (.getfield 135, 3) := zdt v_Rock_meet_0 5 (q := (9, .getfield 135, 3)) rfl
theorem d_Rock_meet_12 : decode prog_6_method_12_code 12 = .ok (.invokevirtual 138, 3) := zdt v_Rock_meet_0 6 (q := (12, .invokevirtual 138, 3)) rfl
theorem d_Rock_meet_15 : decode prog_6_method_12_code 15 = .ok (.aload_n 0, 1) := zdt v_Rock_meet_0 7 (q := (15, .aload_n 0, 1)) rfl
theorem d_Rock_meet_16 : decode prog_6_method_12_code 16 = .ok (.getfield 57, 3) := zdt v_Rock_meet_0 8 (q := (16, .getfield 57, 3)) rfl
theorem d_Rock_meet_19 : decode prog_6_method_12_code 19 = .ok (.aload_n 3, 1) := zdt v_Rock_meet_0 9 (q := (19, .aload_n 3, 1)) rfl
theorem d_Rock_meet_20 : decode prog_6_method_12_code 20 = .ok (.getfield 135, 3) := zdt v_Rock_meet_0 10 (q := (20, .getfield 135, 3)) rfl
theorem d_Rock_meet_23 : decode prog_6_method_12_code 23 = .ok (.aload_n 1, 1) := zdt v_Rock_meet_0 11 (q := (23, .aload_n 1, 1)) rfl
theorem d_Rock_meet_24 : decode prog_6_method_12_code 24 = .ok (.getfield 135, 3) := zdt v_Rock_meet_0 12 (q := (24, .getfield 135, 3)) rfl
theorem d_Rock_meet_27 : decode prog_6_method_12_code 27 = .ok (.invokevirtual 138, 3) := zdt v_Rock_meet_0 13 (q := (27, .invokevirtual 138, 3)) rfl
theorem d_Rock_meet_30 : decode prog_6_method_12_code 30 = .ok (.aload_n 0, 1) := zdt v_Rock_meet_0 14 (q := (30, .aload_n 0, 1)) rfl
theorem d_Rock_meet_31 : decode prog_6_method_12_code 31 = .ok (.getfield 60, 3) := zdt v_Rock_meet_0 15 (q := (31, .getfield 60, 3)) rfl
theorem d_Rock_meet_34 : decode prog_6_method_12_code 34 = .ok (.aload_n 1, 1) := zdt v_Rock_meet_0 16 (q := (34, .aload_n 1, 1)) rfl
theorem d_Rock_meet_35 : decode prog_6_method_12_code 35 = .ok (.getfield 135, 3) := zdt v_Rock_meet_0 17 (q := (35, .getfield 135, 3)) rfl
theorem d_Rock_meet_38 : decode prog_6_method_12_code 38 = .ok (.aload_n 2, 1) := zdt v_Rock_meet_0 18 (q := (38, .aload_n 2, 1)) rfl
theorem d_Rock_meet_39 : decode prog_6_method_12_code 39 = .ok (.getfield 135, 3) := zdt v_Rock_meet_0 19 (q := (39, .getfield 135, 3)) rfl
theorem d_Rock_meet_42 : decode prog_6_method_12_code 42 = .ok (.invokevirtual 138, 3) := zdt v_Rock_meet_0 20 (q := (42, .invokevirtual 138, 3)) rfl
theorem d_Rock_meet_45 : decode prog_6_method_12_code 45 = .ok (.aload_n 1, 1) := zdt v_Rock_meet_0 21 (q := (45, .aload_n 1, 1)) rfl
theorem d_Rock_meet_46 : decode prog_6_method_12_code 46 = .ok (.getfield 135, 3) := zdt v_Rock_meet_0 22 (q := (46, .getfield 135, 3)) rfl
theorem d_Rock_meet_49 : decode prog_6_method_12_code 49 = .ok (.aload_n 0, 1) := zdt v_Rock_meet_0 23 (q := (49, .aload_n 0, 1)) rfl
theorem d_Rock_meet_50 : decode prog_6_method_12_code 50 = .ok (.getfield 53, 3) := zdt v_Rock_meet_0 24 (q := (50, .getfield 53, 3)) rfl
theorem d_Rock_meet_53 : decode prog_6_method_12_code 53 = .ok (.invokevirtual 142, 3) := zdt v_Rock_meet_0 25 (q := (53, .invokevirtual 142, 3)) rfl
theorem d_Rock_meet_56 : decode prog_6_method_12_code 56 = .ok (.istore 4, 2) := zdt v_Rock_meet_0 26 (q := (56, .istore 4, 2)) rfl
theorem d_Rock_meet_58 : decode prog_6_method_12_code 58 = .ok (.iload 4, 2) := zdt v_Rock_meet_0 27 (q := (58, .iload 4, 2)) rfl
theorem d_Rock_meet_60 : decode prog_6_method_12_code 60 = .ok (.ifCond .ne 4, 3) := zdt v_Rock_meet_0 28 (q := (60, .ifCond .ne 4, 3)) rfl
theorem d_Rock_meet_63 : decode prog_6_method_12_code 63 = .ok (.return_, 1) := zdt v_Rock_meet_0 29 (q := (63, .return_, 1)) rfl
theorem d_Rock_meet_64 : decode prog_6_method_12_code 64 = .ok (.iload 4, 2) := zdt v_Rock_meet_0 30 (q := (64, .iload 4, 2)) rfl
theorem d_Rock_meet_66 : decode prog_6_method_12_code 66 = .ok (.ifCond .le 7, 3) := zdt v_Rock_meet_0 31 (q := (66, .ifCond .le 7, 3)) rfl
theorem d_Rock_meet_69 : decode prog_6_method_12_code 69 = .ok (.iconst 1, 1) := zdt v_Rock_meet_0 32 (q := (69, .iconst 1, 1)) rfl
theorem d_Rock_meet_70 : decode prog_6_method_12_code 70 = .ok (.goto 4, 3) := zdt v_Rock_meet_0 33 (q := (70, .goto 4, 3)) rfl
theorem d_Rock_meet_73 : decode prog_6_method_12_code 73 = .ok (.iconst (-1), 1) := zdt v_Rock_meet_0 34 (q := (73, .iconst (-1), 1)) rfl
theorem d_Rock_meet_74 : decode prog_6_method_12_code 74 = .ok (.istore 5, 2) := zdt v_Rock_meet_0 35 (q := (74, .istore 5, 2)) rfl
theorem d_Rock_meet_76 : decode prog_6_method_12_code 76 = .ok (.aload_n 1, 1) := zdt v_Rock_meet_0 36 (q := (76, .aload_n 1, 1)) rfl
theorem d_Rock_meet_77 : decode prog_6_method_12_code 77 = .ok (.getfield 146, 3) := zdt v_Rock_meet_0 37 (q := (77, .getfield 146, 3)) rfl
theorem d_Rock_meet_80 : decode prog_6_method_12_code 80 = .ok (.aload_n 0, 1) := zdt v_Rock_meet_0 38 (q := (80, .aload_n 0, 1)) rfl
theorem d_Rock_meet_81 : decode prog_6_method_12_code 81 = .ok (.getfield 53, 3) := zdt v_Rock_meet_0 39 (q := (81, .getfield 53, 3)) rfl
def u_Rock_meet_1 : List (Nat × Instr × Nat) := [(84, .getfield 149, 3), (87, .imul, 1), (88, .aload_n 2, 1), (89, .getfield 146, 3), (92, .aload_n 0, 1), (93, .getfield 57, 3), (96, .getfield 149, 3), (99, .imul, 1), (100, .iadd, 1), (101, .aload_n 3, 1), (102, .getfield 146, 3), (105, .aload_n 0, 1), (106, .getfield 60, 3), (109, .getfield 149, 3), (112, .imul, 1), (113, .iadd, 1), (114, .istore 6, 2), (116, .aload_n 1, 1), (117, .getfield 146, 3), (120, .aload_n 0, 1), (121, .getfield 53, 3), (124, .getfield 152, 3), (127, .imul, 1), (128, .aload_n 2, 1), (129, .getfield 146, 3), (132, .aload_n 0, 1), (133, .getfield 57, 3), (136, .getfield 152, 3), (139, .imul, 1), (140, .iadd, 1), (141, .aload_n 3, 1), (142, .getfield 146, 3), (145, .aload_n 0, 1), (146, .getfield 60, 3), (149, .getfield 152, 3), (152, .imul, 1), (153, .iadd, 1), (154, .istore 7, 2), (156, .aload_n 1, 1), (157, .getfield 146, 3)]
theorem v_Rock_meet_1 : u_Rock_meet_1.all (zdq prog_6_method_12_code) = true := by decide +kernel
theorem d_Rock_meet_84 : decode prog_6_method_12_code 84 = .ok (.getfield 149, 3) := zdt v_Rock_meet_1 0 (q := (84, .getfield 149, 3)) rfl
theorem d_Rock_meet_87 : decode prog_6_method_12_code 87 = .ok (.imul, 1) := zdt v_Rock_meet_1 1 (q := (87, .imul, 1)) rfl
theorem d_Rock_meet_88 : decode prog_6_method_12_code 88 = .ok (.aload_n 2, 1) := zdt v_Rock_meet_1 2 (q := (88, .aload_n 2, 1)) rfl
theorem d_Rock_meet_89 : decode prog_6_method_12_code 89 = .ok (.getfield 146, 3) := zdt v_Rock_meet_1 3 (q := (89, .getfield 146, 3)) rfl
theorem d_Rock_meet_92 : decode prog_6_method_12_code 92 = .ok (.aload_n 0, 1) := zdt v_Rock_meet_1 4 (q := (92, .aload_n 0, 1)) rfl
theorem d_Rock_meet_93 : decode prog_6_method_12_code 93 = .ok (.getfield 57, 3) := zdt v_Rock_meet_1 5 (q := (93, .getfield 57, 3)) rfl
theorem d_Rock_meet_96 : decode prog_6_method_12_code 96 = .ok (.getfield 149, 3) := zdt v_Rock_meet_1 6 (q := (96, .getfield 149, 3)) rfl
theorem d_Rock_meet_99 : decode prog_6_method_12_code 99 = .ok (.imul, 1) := zdt v_Rock_meet_1 7 (q := (99, .imul, 1)) rfl
theorem d_Rock_meet_100 : decode prog_6_method_12_code 100 = .ok (.iadd, 1) := zdt v_Rock_meet_1 8 (q := (100, .iadd, 1)) rfl
theorem d_Rock_meet_101 : decode prog_6_method_12_code 101 = .ok (.aload_n 3, 1) := zdt v_Rock_meet_1 9 (q := (101, .aload_n 3, 1)) rfl
theorem d_Rock_meet_102 : decode prog_6_method_12_code 102 = .ok (.getfield 146, 3) := zdt v_Rock_meet_1 10 (q := (102, .getfield 146, 3)) rfl
theorem d_Rock_meet_105 : decode prog_6_method_12_code 105 = .ok (.aload_n 0, 1) := zdt v_Rock_meet_1 11 (q := (105, .aload_n 0, 1)) rfl
theorem d_Rock_meet_106 : decode prog_6_method_12_code 106 = .ok (.getfield 60, 3) := zdt v_Rock_meet_1 12 (q := (106, .getfield 60, 3)) rfl
theorem d_Rock_meet_109 : decode prog_6_method_12_code 109 = .ok (.getfield 149, 3) := zdt v_Rock_meet_1 13 (q := (109, .getfield 149, 3)) rfl
theorem d_Rock_meet_112 : decode prog_6_method_12_code 112 = .ok (.imul, 1) := zdt v_Rock_meet_1 14 (q := (112, .imul, 1)) rfl
theorem d_Rock_meet_113 : decode prog_6_method_12_code 113 = .ok (.iadd, 1) := zdt v_Rock_meet_1 15 (q := (113, .iadd, 1)) rfl
theorem d_Rock_meet_114 : decode prog_6_method_12_code 114 = .ok (.istore 6, 2) := zdt v_Rock_meet_1 16 (q := (114, .istore 6, 2)) rfl
theorem d_Rock_meet_116 : decode prog_6_method_12_code 116 = .ok (.aload_n 1, 1) := zdt v_Rock_meet_1 17 (q := (116, .aload_n 1, 1)) rfl
theorem d_Rock_meet_117 : decode prog_6_method_12_code 117 = .ok (.getfield 146, 3) := zdt v_Rock_meet_1 18 (q := (117, .getfield 146, 3)) rfl
theorem d_Rock_meet_120 : decode prog_6_method_12_code 120 = .ok (.aload_n 0, 1) := zdt v_Rock_meet_1 19 (q := (120, .aload_n 0, 1)) rfl
theorem d_Rock_meet_121 : decode prog_6_method_12_code 121 = .ok (.getfield 53, 3) := zdt v_Rock_meet_1 20 (q := (121, .getfield 53, 3)) rfl
theorem d_Rock_meet_124 : decode prog_6_method_12_code 124 = .ok (.getfield 152, 3) := zdt v_Rock_meet_1 21 (q := (124, .getfield 152, 3)) rfl
theorem d_Rock_meet_127 : decode prog_6_method_12_code 127 = .ok (.imul, 1) := zdt v_Rock_meet_1 22 (q := (127, .imul, 1)) rfl
theorem d_Rock_meet_128 : decode prog_6_method_12_code 128 = .ok (.aload_n 2, 1) := zdt v_Rock_meet_1 23 (q := (128, .aload_n 2, 1)) rfl
theorem d_Rock_meet_129 : decode prog_6_method_12_code 129 = .ok (.getfield 146, 3) := zdt v_Rock_meet_1 24 (q := (129, .getfield 146, 3)) rfl
theorem d_Rock_meet_132 : decode prog_6_method_12_code 132 = .ok (.aload_n 0, 1) := zdt v_Rock_meet_1 25 (q := (132, .aload_n 0, 1)) rfl
theorem d_Rock_meet_133 : decode prog_6_method_12_code 133 = .ok (.getfield 57, 3) := zdt v_Rock_meet_1 26 (q := (133, .getfield 57, 3)) rfl
theorem d_Rock_meet_136 : decode prog_6_method_12_code 136 = .ok (.getfield 152, 3) := zdt v_Rock_meet_1 27 (q := (136, .getfield 152, 3)) rfl
theorem d_Rock_meet_139 : decode prog_6_method_12_code 139 = .ok (.imul, 1) := zdt v_Rock_meet_1 28 (q := (139, .imul, 1)) rfl
theorem d_Rock_meet_140 : decode prog_6_method_12_code 140 = .ok (.iadd, 1) := zdt v_Rock_meet_1 29 (q := (140, .iadd, 1)) rfl
theorem d_Rock_meet_141 : decode prog_6_method_12_code 141 = .ok (.aload_n 3, 1) := zdt v_Rock_meet_1 30 (q := (141, .aload_n 3, 1)) rfl
theorem d_Rock_meet_142 : decode prog_6_method_12_code 142 = .ok (.getfield 146, 3) := zdt v_Rock_meet_1 31 (q := (142, .getfield 146, 3)) rfl
theorem d_Rock_meet_145 : decode prog_6_method_12_code 145 = .ok (.aload_n 0, 1) := zdt v_Rock_meet_1 32 (q := (145, .aload_n 0, 1)) rfl
theorem d_Rock_meet_146 : decode prog_6_method_12_code 146 = .ok (.getfield 60, 3) := zdt v_Rock_meet_1 33 (q := (146, .getfield 60, 3)) rfl
theorem d_Rock_meet_149 : decode prog_6_method_12_code 149 = .ok (.getfield 152, 3) := zdt v_Rock_meet_1 34 (q := (149, .getfield 152, 3)) rfl
theorem d_Rock_meet_152 : decode prog_6_method_12_code 152 = .ok (.imul, 1) := zdt v_Rock_meet_1 35 (q := (152, .imul, 1)) rfl
theorem d_Rock_meet_153 : decode prog_6_method_12_code 153 = .ok (.iadd, 1) := zdt v_Rock_meet_1 36 (q := (153, .iadd, 1)) rfl
theorem d_Rock_meet_154 : decode prog_6_method_12_code 154 = .ok (.istore 7, 2) := zdt v_Rock_meet_1 37 (q := (154, .istore 7, 2)) rfl
theorem d_Rock_meet_156 : decode prog_6_method_12_code 156 = .ok (.aload_n 1, 1) := zdt v_Rock_meet_1 38 (q := (156, .aload_n 1, 1)) rfl
theorem d_Rock_meet_157 : decode prog_6_method_12_code 157 = .ok (.getfield 146, 3) := zdt v_Rock_meet_1 39 (q := (157, .getfield 146, 3)) rfl
def u_Rock_meet_2 : List (Nat × Instr × Nat) := [(160, .aload_n 0, 1), (161, .getfield 53, 3), (164, .getfield 155, 3), (167, .imul, 1), (168, .aload_n 2, 1), (169, .getfield 146, 3), (172, .aload_n 0, 1), (173, .getfield 57, 3), (176, .getfield 155, 3), (179, .imul, 1), (180, .iadd, 1), (181, .aload_n 3, 1), (182, .getfield 146, 3), (185, .aload_n 0, 1), (186, .getfield 60, 3), (189, .getfield 155, 3), (192, .imul, 1), (193, .iadd, 1), (194, .istore 8, 2), (196, .aload_n 0, 1), (197, .iload 5, 2), (199, .iload 6, 2), (201, .imul, 1), (202, .iload 5, 2), (204, .iload 7, 2), (206, .imul, 1), (207, .iload 5, 2), (209, .iload 8, 2), (211, .imul, 1), (212, .iload 5, 2), (214, .iload 4, 2), (216, .imul, 1), (217, .invokevirtual 158, 3), (220, .return_, 1)]
theorem v_Rock_meet_2 : u_Rock_meet_2.all (zdq prog_6_method_12_code) = true := by decide +kernel
theorem d_Rock_meet_160 : decode prog_6_method_12_code 160 = .ok (.aload_n 0, 1) := zdt v_Rock_meet_2 0 (q := (160, .aload_n 0, 1)) rfl
theorem d_Rock_meet_161 : decode prog_6_method_12_code 161 = .ok (.getfield 53, 3) := zdt v_Rock_meet_2 1 (q := (161, .getfield 53, 3)) rfl
theorem d_Rock_meet_164 : decode prog_6_method_12_code 164 = .ok (.getfield 155, 3) := zdt v_Rock_meet_2 2 (q := (164, .getfield 155, 3)) rfl
theorem d_Rock_meet_167 : decode prog_6_method_12_code 167 = .ok (.imul, 1) := zdt v_Rock_meet_2 3 (q := (167, .imul, 1)) rfl
theorem d_Rock_meet_168 : decode prog_6_method_12_code 168 = .ok (.aload_n 2, 1) := zdt v_Rock_meet_2 4 (q := (168, .aload_n 2, 1)) rfl
theorem d_Rock_meet_169 : decode prog_6_method_12_code 169 = .ok (.getfield 146, 3) := zdt v_Rock_meet_2 5 (q := (169, .getfield 146, 3)) rfl
theorem d_Rock_meet_172 : decode prog_6_method_12_code 172 = .ok (.aload_n 0, 1) := zdt v_Rock_meet_2 6 (q := (172, .aload_n 0, 1)) rfl
theorem d_Rock_meet_173 : decode prog_6_method_12_code 173 = .ok (.getfield 57, 3) := zdt v_Rock_meet_2 7 (q := (173, .getfield 57, 3)) rfl
theorem d_Rock_meet_176 : decode prog_6_method_12_code 176 = .ok (.getfield 155, 3) := zdt v_Rock_meet_2 8 (q := (176, .getfield 155, 3)) rfl
theorem d_Rock_meet_179 : decode prog_6_method_12_code 179 = .ok (.imul, 1) := zdt v_Rock_meet_2 9 (q := (179, .imul, 1)) rfl
theorem d_Rock_meet_180 : decode prog_6_method_12_code 180 = .ok (.iadd, 1) := zdt v_Rock_meet_2 10 (q := (180, .iadd, 1)) rfl
theorem d_Rock_meet_181 : decode prog_6_method_12_code 181 = .ok (.aload_n 3, 1) := zdt v_Rock_meet_2 11 (q := (181, .aload_n 3, 1)) rfl
theorem d_Rock_meet_182 : decode prog_6_method_12_code 182 = .ok (.getfield 146, 3) := zdt v_Rock_meet_2 12 (q := (182, .getfield 146, 3)) rfl
theorem d_Rock_meet_185 : decode prog_6_method_12_code 185 = .ok (.aload_n 0, 1) := zdt v_Rock_meet_2 13 (q := (185, .aload_n 0, 1)) rfl
theorem d_Rock_meet_186 : decode prog_6_method_12_code 186 = .ok (.getfield 60, 3) := zdt v_Rock_meet_2 14 (q := (186, .getfield 60, 3)) rfl
theorem d_Rock_meet_189 : decode prog_6_method_12_code 189 = .ok (.getfield 155, 3) := zdt v_Rock_meet_2 15 (q := (189, .getfield 155, 3)) rfl
theorem d_Rock_meet_192 : decode prog_6_method_12_code 192 = .ok (.imul, 1) := zdt v_Rock_meet_2 16 (q := (192, .imul, 1)) rfl
theorem d_Rock_meet_193 : decode prog_6_method_12_code 193 = .ok (.iadd, 1) := zdt v_Rock_meet_2 17 (q := (193, .iadd, 1)) rfl
theorem d_Rock_meet_194 : decode prog_6_method_12_code 194 = .ok (.istore 8, 2) := zdt v_Rock_meet_2 18 (q := (194, .istore 8, 2)) rfl
theorem d_Rock_meet_196 : decode prog_6_method_12_code 196 = .ok (.aload_n 0, 1) := zdt v_Rock_meet_2 19 (q := (196, .aload_n 0, 1)) rfl
theorem d_Rock_meet_197 : decode prog_6_method_12_code 197 = .ok (.iload 5, 2) := zdt v_Rock_meet_2 20 (q := (197, .iload 5, 2)) rfl
theorem d_Rock_meet_199 : decode prog_6_method_12_code 199 = .ok (.iload 6, 2) := zdt v_Rock_meet_2 21 (q := (199, .iload 6, 2)) rfl
theorem d_Rock_meet_201 : decode prog_6_method_12_code 201 = .ok (.imul, 1) := zdt v_Rock_meet_2 22 (q := (201, .imul, 1)) rfl
theorem d_Rock_meet_202 : decode prog_6_method_12_code 202 = .ok (.iload 5, 2) := zdt v_Rock_meet_2 23 (q := (202, .iload 5, 2)) rfl
theorem d_Rock_meet_204 : decode prog_6_method_12_code 204 = .ok (.iload 7, 2) := zdt v_Rock_meet_2 24 (q := (204, .iload 7, 2)) rfl
theorem d_Rock_meet_206 : decode prog_6_method_12_code 206 = .ok (.imul, 1) := zdt v_Rock_meet_2 25 (q := (206, .imul, 1)) rfl
theorem d_Rock_meet_207 : decode prog_6_method_12_code 207 = .ok (.iload 5, 2) := zdt v_Rock_meet_2 26 (q := (207, .iload 5, 2)) rfl
theorem d_Rock_meet_209 : decode prog_6_method_12_code 209 = .ok (.iload 8, 2) := zdt v_Rock_meet_2 27 (q := (209, .iload 8, 2)) rfl
theorem d_Rock_meet_211 : decode prog_6_method_12_code 211 = .ok (.imul, 1) := zdt v_Rock_meet_2 28 (q := (211, .imul, 1)) rfl
theorem d_Rock_meet_212 : decode prog_6_method_12_code 212 = .ok (.iload 5, 2) := zdt v_Rock_meet_2 29 (q := (212, .iload 5, 2)) rfl
theorem d_Rock_meet_214 : decode prog_6_method_12_code 214 = .ok (.iload 4, 2) := zdt v_Rock_meet_2 30 (q := (214, .iload 4, 2)) rfl
theorem d_Rock_meet_216 : decode prog_6_method_12_code 216 = .ok (.imul, 1) := zdt v_Rock_meet_2 31 (q := (216, .imul, 1)) rfl
theorem d_Rock_meet_217 : decode prog_6_method_12_code 217 = .ok (.invokevirtual 158, 3) := zdt v_Rock_meet_2 32 (q := (217, .invokevirtual 158, 3)) rfl
theorem d_Rock_meet_220 : decode prog_6_method_12_code 220 = .ok (.return_, 1) := zdt v_Rock_meet_2 33 (q := (220, .return_, 1)) rfl
def u_Arrow_setCross_0 : List (Nat × Instr × Nat) := [(0, .aload_n 0, 1), (1, .aload_n 1, 1), (2, .getfield 13, 3), (5, .aload_n 2, 1), (6, .getfield 16, 3), (9, .imul, 1), (10, .aload_n 1, 1), (11, .getfield 16, 3), (14, .aload_n 2, 1), (15, .getfield 13, 3), (18, .imul, 1), (19, .isub, 1), (20, .aload_n 1, 1), (21, .getfield 16, 3), (24, .aload_n 2, 1), (25, .getfield 7, 3), (28, .imul, 1), (29, .aload_n 1, 1), (30, .getfield 7, 3), (33, .aload_n 2, 1), (34, .getfield 16, 3), (37, .imul, 1), (38, .isub, 1), (39, .aload_n 1, 1), (40, .getfield 7, 3), (43, .aload_n 2, 1), (44, .getfield 13, 3), (47, .imul, 1), (48, .aload_n 1, 1), (49, .getfield 13, 3), (52, .aload_n 2, 1), (53, .getfield 7, 3), (56, .imul, 1), (57, .isub, 1), (58, .invokevirtual 19, 3), (61, .return_, 1)]
theorem v_Arrow_setCross_0 : u_Arrow_setCross_0.all (zdq prog_2_method_4_code) = true := by decide +kernel
theorem d_Arrow_setCross_0 : decode prog_2_method_4_code 0 = .ok (.aload_n 0, 1) := zdt v_Arrow_setCross_0 0 (q := (0, .aload_n 0, 1)) rfl
theorem d_Arrow_setCross_1 : decode prog_2_method_4_code 1 = .ok (.aload_n 1, 1) := zdt v_Arrow_setCross_0 1 (q := (1, .aload_n 1, 1)) rfl
theorem d_Arrow_setCross_2 : decode prog_2_method_4_code 2 = .ok (.getfield 13, 3) := zdt v_Arrow_setCross_0 2 (q := (2, .getfield 13, 3)) rfl
theorem d_Arrow_setCross_5 : decode prog_2_method_4_code 5 = .ok (.aload_n 2, 1) := zdt v_Arrow_setCross_0 3 (q := (5, .aload_n 2, 1)) rfl
theorem d_Arrow_setCross_6 : decode prog_2_method_4_code 6 = .ok (.getfield 16, 3) := zdt v_Arrow_setCross_0 4 (q := (6, .getfield 16, 3)) rfl
theorem d_Arrow_setCross_9 : decode prog_2_method_4_code 9 = .ok (.imul, 1) := zdt v_Arrow_setCross_0 5 (q := (9, .imul, 1)) rfl
theorem d_Arrow_setCross_10 : decode prog_2_method_4_code 10 = .ok (.aload_n 1, 1) := zdt v_Arrow_setCross_0 6 (q := (10, .aload_n 1, 1)) rfl
theorem d_Arrow_setCross_11 : decode prog_2_method_4_code 11 = .ok (.getfield 16, 3) := zdt v_Arrow_setCross_0 7 (q := (11, .getfield 16, 3)) rfl
theorem d_Arrow_setCross_14 : decode prog_2_method_4_code 14 = .ok (.aload_n 2, 1) := zdt v_Arrow_setCross_0 8 (q := (14, .aload_n 2, 1)) rfl
theorem d_Arrow_setCross_15 : decode prog_2_method_4_code 15 = .ok (.getfield 13, 3) := zdt v_Arrow_setCross_0 9 (q := (15, .getfield 13, 3)) rfl
theorem d_Arrow_setCross_18 : decode prog_2_method_4_code 18 = .ok (.imul, 1) := zdt v_Arrow_setCross_0 10 (q := (18, .imul, 1)) rfl
theorem d_Arrow_setCross_19 : decode prog_2_method_4_code 19 = .ok (.isub, 1) := zdt v_Arrow_setCross_0 11 (q := (19, .isub, 1)) rfl
theorem d_Arrow_setCross_20 : decode prog_2_method_4_code 20 = .ok (.aload_n 1, 1) := zdt v_Arrow_setCross_0 12 (q := (20, .aload_n 1, 1)) rfl
theorem d_Arrow_setCross_21 : decode prog_2_method_4_code 21 = .ok (.getfield 16, 3) := zdt v_Arrow_setCross_0 13 (q := (21, .getfield 16, 3)) rfl
theorem d_Arrow_setCross_24 : decode prog_2_method_4_code 24 = .ok (.aload_n 2, 1) := zdt v_Arrow_setCross_0 14 (q := (24, .aload_n 2, 1)) rfl
theorem d_Arrow_setCross_25 : decode prog_2_method_4_code 25 = .ok (.getfield 7, 3) := zdt v_Arrow_setCross_0 15 (q := (25, .getfield 7, 3)) rfl
theorem d_Arrow_setCross_28 : decode prog_2_method_4_code 28 = .ok (.imul, 1) := zdt v_Arrow_setCross_0 16 (q := (28, .imul, 1)) rfl
theorem d_Arrow_setCross_29 : decode prog_2_method_4_code 29 = .ok (.aload_n 1, 1) := zdt v_Arrow_setCross_0 17 (q := (29, .aload_n 1, 1)) rfl
theorem d_Arrow_setCross_30 : decode prog_2_method_4_code 30 = .ok (.getfield 7, 3) := zdt v_Arrow_setCross_0 18 (q := (30, .getfield 7, 3)) rfl
theorem d_Arrow_setCross_33 : decode prog_2_method_4_code 33 = .ok (.aload_n 2, 1) := zdt v_Arrow_setCross_0 19 (q := (33, .aload_n 2, 1)) rfl
theorem d_Arrow_setCross_34 : decode prog_2_method_4_code 34 = .ok (.getfield 16, 3) := zdt v_Arrow_setCross_0 20 (q := (34, .getfield 16, 3)) rfl
theorem d_Arrow_setCross_37 : decode prog_2_method_4_code 37 = .ok (.imul, 1) := zdt v_Arrow_setCross_0 21 (q := (37, .imul, 1)) rfl
theorem d_Arrow_setCross_38 : decode prog_2_method_4_code 38 = .ok (.isub, 1) := zdt v_Arrow_setCross_0 22 (q := (38, .isub, 1)) rfl
theorem d_Arrow_setCross_39 : decode prog_2_method_4_code 39 = .ok (.aload_n 1, 1) := zdt v_Arrow_setCross_0 23 (q := (39, .aload_n 1, 1)) rfl
theorem d_Arrow_setCross_40 : decode prog_2_method_4_code 40 = .ok (.getfield 7, 3) := zdt v_Arrow_setCross_0 24 (q := (40, .getfield 7, 3)) rfl
theorem d_Arrow_setCross_43 : decode prog_2_method_4_code 43 = .ok (.aload_n 2, 1) := zdt v_Arrow_setCross_0 25 (q := (43, .aload_n 2, 1)) rfl
theorem d_Arrow_setCross_44 : decode prog_2_method_4_code 44 = .ok (.getfield 13, 3) := zdt v_Arrow_setCross_0 26 (q := (44, .getfield 13, 3)) rfl
theorem d_Arrow_setCross_47 : decode prog_2_method_4_code 47 = .ok (.imul, 1) := zdt v_Arrow_setCross_0 27 (q := (47, .imul, 1)) rfl
theorem d_Arrow_setCross_48 : decode prog_2_method_4_code 48 = .ok (.aload_n 1, 1) := zdt v_Arrow_setCross_0 28 (q := (48, .aload_n 1, 1)) rfl
theorem d_Arrow_setCross_49 : decode prog_2_method_4_code 49 = .ok (.getfield 13, 3) := zdt v_Arrow_setCross_0 29 (q := (49, .getfield 13, 3)) rfl
theorem d_Arrow_setCross_52 : decode prog_2_method_4_code 52 = .ok (.aload_n 2, 1) := zdt v_Arrow_setCross_0 30 (q := (52, .aload_n 2, 1)) rfl
theorem d_Arrow_setCross_53 : decode prog_2_method_4_code 53 = .ok (.getfield 7, 3) := zdt v_Arrow_setCross_0 31 (q := (53, .getfield 7, 3)) rfl
theorem d_Arrow_setCross_56 : decode prog_2_method_4_code 56 = .ok (.imul, 1) := zdt v_Arrow_setCross_0 32 (q := (56, .imul, 1)) rfl
theorem d_Arrow_setCross_57 : decode prog_2_method_4_code 57 = .ok (.isub, 1) := zdt v_Arrow_setCross_0 33 (q := (57, .isub, 1)) rfl
theorem d_Arrow_setCross_58 : decode prog_2_method_4_code 58 = .ok (.invokevirtual 19, 3) := zdt v_Arrow_setCross_0 34 (q := (58, .invokevirtual 19, 3)) rfl
theorem d_Arrow_setCross_61 : decode prog_2_method_4_code 61 = .ok (.return_, 1) := zdt v_Arrow_setCross_0 35 (q := (61, .return_, 1)) rfl
def u_Arrow_times_0 : List (Nat × Instr × Nat) := [(0, .aload_n 0, 1), (1, .getfield 7, 3), (4, .aload_n 1, 1), (5, .getfield 7, 3), (8, .imul, 1), (9, .aload_n 0, 1), (10, .getfield 13, 3), (13, .aload_n 1, 1), (14, .getfield 13, 3), (17, .imul, 1), (18, .iadd, 1), (19, .aload_n 0, 1), (20, .getfield 16, 3), (23, .aload_n 1, 1), (24, .getfield 16, 3), (27, .imul, 1), (28, .iadd, 1), (29, .ireturn, 1)]
theorem v_Arrow_times_0 : u_Arrow_times_0.all (zdq prog_2_method_6_code) = true := by decide +kernel
theorem d_Arrow_times_0 : decode prog_2_method_6_code 0 = .ok (.aload_n 0, 1) := zdt v_Arrow_times_0 0 (q := (0, .aload_n 0, 1)) rfl
theorem d_Arrow_times_1 : decode prog_2_method_6_code 1 = .ok (.getfield 7, 3) := zdt v_Arrow_times_0 1 (q := (1, .getfield 7, 3)) rfl
theorem d_Arrow_times_4 : decode prog_2_method_6_code 4 = .ok (.aload_n 1, 1) := zdt v_Arrow_times_0 2 (q := (4, .aload_n 1, 1)) rfl
theorem d_Arrow_times_5 : decode prog_2_method_6_code 5 = .ok (.getfield 7, 3) := zdt v_Arrow_times_0 3 (q := (5, .getfield 7, 3)) rfl
theorem d_Arrow_times_8 : decode prog_2_method_6_code 8 = .ok (.imul, 1) := zdt v_Arrow_times_0 4 (q := (8, .imul, 1)) rfl
theorem d_Arrow_times_9 : decode prog_2_method_6_code 9 = .ok (.aload_n 0, 1) := zdt v_Arrow_times_0 5 (q := (9, .aload_n 0, 1)) rfl
theorem d_Arrow_times_10 : decode prog_2_method_6_code 10 = .ok (.getfield 13, 3) := zdt v_Arrow_times_0 6 (q := (10, .getfield 13, 3)) rfl
theorem d_Arrow_times_13 : decode prog_2_method_6_code 13 = .ok (.aload_n 1, 1) := zdt v_Arrow_times_0 7 (q := (13, .aload_n 1, 1)) rfl
theorem d_Arrow_times_14 : decode prog_2_method_6_code 14 = .ok (.getfield 13, 3) := zdt v_Arrow_times_0 8 (q := (14, .getfield 13, 3)) rfl
theorem d_Arrow_times_17 : decode prog_2_method_6_code 17 = .ok (.imul, 1) := zdt v_Arrow_times_0 9 (q := (17, .imul, 1)) rfl
theorem d_Arrow_times_18 : decode prog_2_method_6_code 18 = .ok (.iadd, 1) := zdt v_Arrow_times_0 10 (q := (18, .iadd, 1)) rfl
theorem d_Arrow_times_19 : decode prog_2_method_6_code 19 = .ok (.aload_n 0, 1) := zdt v_Arrow_times_0 11 (q := (19, .aload_n 0, 1)) rfl
theorem d_Arrow_times_20 : decode prog_2_method_6_code 20 = .ok (.getfield 16, 3) := zdt v_Arrow_times_0 12 (q := (20, .getfield 16, 3)) rfl
theorem d_Arrow_times_23 : decode prog_2_method_6_code 23 = .ok (.aload_n 1, 1) := zdt v_Arrow_times_0 13 (q := (23, .aload_n 1, 1)) rfl
theorem d_Arrow_times_24 : decode prog_2_method_6_code 24 = .ok (.getfield 16, 3) := zdt v_Arrow_times_0 14 (q := (24, .getfield 16, 3)) rfl
theorem d_Arrow_times_27 : decode prog_2_method_6_code 27 = .ok (.imul, 1) := zdt v_Arrow_times_0 15 (q := (27, .imul, 1)) rfl
theorem d_Arrow_times_28 : decode prog_2_method_6_code 28 = .ok (.iadd, 1) := zdt v_Arrow_times_0 16 (q := (28, .iadd, 1)) rfl
theorem d_Arrow_times_29 : decode prog_2_method_6_code 29 = .ok (.ireturn, 1) := zdt v_Arrow_times_0 17 (q := (29, .ireturn, 1)) rfl
def u_Rock_addPoint_0 : List (Nat × Instr × Nat) := [(0, .aload_n 0, 1), (1, .iload_n 1, 1), (2, .iload_n 2, 1), (3, .iload_n 3, 1), (4, .iload 4, 2), (6, .invokevirtual 161, 3), (9, .ifCond .ne 4, 3), (12, .return_, 1), (13, .iload_n 1, 1), (14, .iload_n 2, 1), (15, .invokestatic 164, 3), (18, .iload_n 3, 1), (19, .iload 4, 2), (21, .invokestatic 164, 3), (24, .invokestatic 164, 3), (27, .istore 5, 2), (29, .iload 5, 2), (31, .ifCond .eq 30, 3), (34, .aload_n 0, 1), (35, .getfield 20, 3), (38, .iload_n 1, 1), (39, .iload 5, 2), (41, .idiv, 1), (42, .iload_n 2, 1), (43, .iload 5, 2), (45, .idiv, 1), (46, .iload_n 3, 1), (47, .iload 5, 2), (49, .idiv, 1), (50, .iload 4, 2), (52, .iload 5, 2), (54, .idiv, 1), (55, .invokevirtual 167, 3), (58, .ifCond .eq 4, 3), (61, .return_, 1), (62, .aload_n 0, 1), (63, .getfield 20, 3), (66, .iload_n 1, 1), (67, .iload 5, 2), (69, .idiv, 1)]
theorem v_Rock_addPoint_0 : u_Rock_addPoint_0.all (zdq prog_6_method_13_code) = true := by decide +kernel
theorem d_Rock_addPoint_0 : decode prog_6_method_13_code 0 = .ok (.aload_n 0, 1) := zdt v_Rock_addPoint_0 0 (q := (0, .aload_n 0, 1)) rfl
theorem d_Rock_addPoint_1 : decode prog_6_method_13_code 1 = .ok (.iload_n 1, 1) := zdt v_Rock_addPoint_0 1 (q := (1, .iload_n 1, 1)) rfl
theorem d_Rock_addPoint_2 : decode prog_6_method_13_code 2 = .ok (.iload_n 2, 1) := zdt v_Rock_addPoint_0 2 (q := (2, .iload_n 2, 1)) rfl
theorem d_Rock_addPoint_3 : decode prog_6_method_13_code 3 = .ok (.iload_n 3, 1) := zdt v_Rock_addPoint_0 3 (q := (3, .iload_n 3, 1)) rfl
theorem d_Rock_addPoint_4 : decode prog_6_method_13_code 4 = .ok (.iload 4, 2) := zdt v_Rock_addPoint_0 4 (q := (4, .iload 4, 2)) rfl
theorem d_Rock_addPoint_6 : decode prog_6_method_13_code 6 = .ok (.invokevirtual 161, 3) := zdt v_Rock_addPoint_0 5 (q := (6, .invokevirtual 161, 3)) rfl
theorem d_Rock_addPoint_9 : decode prog_6_method_13_code 9 = .ok (.ifCond .ne 4, 3) := zdt v_Rock_addPoint_0 6 (q := (9, .ifCond .ne 4, 3)) rfl
theorem d_Rock_addPoint_12 : decode prog_6_method_13_code 12 = .ok (.return_, 1) := zdt v_Rock_addPoint_0 7 (q := (12, .return_, 1)) rfl
theorem d_Rock_addPoint_13 : decode prog_6_method_13_code 13 = .ok (.iload_n 1, 1) := zdt v_Rock_addPoint_0 8 (q := (13, .iload_n 1, 1)) rfl
theorem d_Rock_addPoint_14 : decode prog_6_method_13_code 14 = .ok (.iload_n 2, 1) := zdt v_Rock_addPoint_0 9 (q := (14, .iload_n 2, 1)) rfl
theorem d_Rock_addPoint_15 : decode prog_6_method_13_code 15 = .ok (.invokestatic 164, 3) := zdt v_Rock_addPoint_0 10 (q := (15, .invokestatic 164, 3)) rfl
theorem d_Rock_addPoint_18 : decode prog_6_method_13_code 18 = .ok (.iload_n 3, 1) := zdt v_Rock_addPoint_0 11 (q := (18, .iload_n 3, 1)) rfl
theorem d_Rock_addPoint_19 : decode prog_6_method_13_code 19 = .ok (.iload 4, 2) := zdt v_Rock_addPoint_0 12 (q := (19, .iload 4, 2)) rfl
theorem d_Rock_addPoint_21 : decode prog_6_method_13_code 21 = .ok (.invokestatic 164, 3) := zdt v_Rock_addPoint_0 13 (q := (21, .invokestatic 164, 3)) rfl
theorem d_Rock_addPoint_24 : decode prog_6_method_13_code 24 = .ok (.invokestatic 164, 3) := zdt v_Rock_addPoint_0 14 (q := (24, .invokestatic 164, 3)) rfl
theorem d_Rock_addPoint_27 : decode prog_6_method_13_code 27 = .ok (.istore 5, 2) := zdt v_Rock_addPoint_0 15 (q := (27, .istore 5, 2)) rfl
theorem d_Rock_addPoint_29 : decode prog_6_method_13_code 29 = .ok (.iload 5, 2) := zdt v_Rock_addPoint_0 16 (q := (29, .iload 5, 2)) rfl
theorem d_Rock_addPoint_31 : decode prog_6_method_13_code 31 = .ok (.ifCond .eq 30, 3) := zdt v_Rock_addPoint_0 17 (q := (31, .ifCond .eq 30, 3)) rfl
theorem d_Rock_addPoint_34 : decode prog_6_method_13_code 34 = .ok (.aload_n 0, 1) := zdt v_Rock_addPoint_0 18 (q := (34, .aload_n 0, 1)) rfl
theorem d_Rock_addPoint_35 : decode prog_6_method_13_code 35 = .ok (.getfield 20, 3) := zdt v_Rock_addPoint_0 19 (q := (35, .getfield 20, 3)) rfl
theorem d_Rock_addPoint_38 : decode prog_6_method_13_code 38 = .ok (.iload_n 1, 1) := zdt v_Rock_addPoint_0 20 (q := (38, .iload_n 1, 1)) rfl
theorem d_Rock_addPoint_39 : decode prog_6_method_13_code 39 = .ok (.iload 5, 2) := zdt v_Rock_addPoint_0 21 (q := (39, .iload 5, 2)) rfl
theorem d_Rock_addPoint_41 : decode prog_6_method_13_code 41 = .ok (.idiv, 1) := zdt v_Rock_addPoint_0 22 (q := (41, .idiv, 1)) rfl
theorem d_Rock_addPoint_42 : decode prog_6_method_13_code 42 = .ok (.iload_n 2, 1) := zdt v_Rock_addPoint_0 23 (q := (42, .iload_n 2, 1)) rfl
theorem d_Rock_addPoint_43 : decode prog_6_method_13_code 43 = .ok (.iload 5, 2) := zdt v_Rock_addPoint_0 24 (q := (43, .iload 5, 2)) rfl
theorem d_Rock_addPoint_45 : decode prog_6_method_13_code 45 = .ok (.idiv, 1) := zdt v_Rock_addPoint_0 25 (q := (45, .idiv, 1)) rfl
theorem d_Rock_addPoint_46 : decode prog_6_method_13_code 46 = .ok (.iload_n 3, 1) := zdt v_Rock_addPoint_0 26 (q := (46, .iload_n 3, 1)) rfl
theorem d_Rock_addPoint_47 : decode prog_6_method_13_code 47 = .ok (.iload 5, 2) := zdt v_Rock_addPoint_0 27 (q := (47, .iload 5, 2)) rfl
theorem d_Rock_addPoint_49 : decode prog_6_method_13_code 49 = .ok (.idiv, 1) := zdt v_Rock_addPoint_0 28 (q := (49, .idiv, 1)) rfl
theorem d_Rock_addPoint_50 : decode prog_6_method_13_code 50 = .ok (.iload 4, 2) := zdt v_Rock_addPoint_0 29 (q := (50, .iload 4, 2)) rfl
theorem d_Rock_addPoint_52 : decode prog_6_method_13_code 52 = .ok (.iload 5, 2) := zdt v_Rock_addPoint_0 30 (q := (52, .iload 5, 2)) rfl
theorem d_Rock_addPoint_54 : decode prog_6_method_13_code 54 = .ok (.idiv, 1) := zdt v_Rock_addPoint_0 31 (q := (54, .idiv, 1)) rfl
theorem d_Rock_addPoint_55 : decode prog_6_method_13_code 55 = .ok (.invokevirtual 167, 3) := zdt v_Rock_addPoint_0 32 (q := (55, .invokevirtual 167, 3)) rfl
theorem d_Rock_addPoint_58 : decode prog_6_method_13_code 58 = .ok (.ifCond .eq 4, 3) := zdt v_Rock_addPoint_0 33 (q := (58, .ifCond .eq 4, 3)) rfl
theorem d_Rock_addPoint_61 : decode prog_6_method_13_code 61 = .ok (.return_, 1) := zdt v_Rock_addPoint_0 34 (q := (61, .return_, 1)) rfl
theorem d_Rock_addPoint_62 : decode prog_6_method_13_code 62 = .ok (.aload_n 0, 1) := zdt v_Rock_addPoint_0 35 (q := (62, .aload_n 0, 1)) rfl
theorem d_Rock_addPoint_63 : decode prog_6_method_13_code 63 = .ok (.getfield 20, 3) := zdt v_Rock_addPoint_0 36 (q := (63, .getfield 20, 3)) rfl
theorem d_Rock_addPoint_66 : decode prog_6_method_13_code 66 = .ok (.iload_n 1, 1) := zdt v_Rock_addPoint_0 37 (q := (66, .iload_n 1, 1)) rfl
theorem d_Rock_addPoint_67 : decode prog_6_method_13_code 67 = .ok (.iload 5, 2) := zdt v_Rock_addPoint_0 38 (q := (67, .iload 5, 2)) rfl
theorem d_Rock_addPoint_69 : decode prog_6_method_13_code 69 = .ok (.idiv, 1) := zdt v_Rock_addPoint_0 39 (q := (69, .idiv, 1)) rfl
def u_Rock_addPoint_1 : List (Nat × Instr × Nat) := [(70, .iload_n 2, 1), (71, .iload 5, 2), (73, .idiv, 1), (74, .iload_n 3, 1), (75, .iload 5, 2), (77, .idiv, 1), (78, .iload 4, 2), (80, .iload 5, 2), (82, .idiv, 1), (83, .invokevirtual 170, 3), (86, .iconst 0, 1), (87, .istore 6, 2), (89, .iload 6, 2), (91, .bipush 12, 2), (93, .if_icmp .ge 46, 3), (96, .aload_n 0, 1), (97, .getfield 63, 3), (100, .iload 6, 2), (102, .invokestatic 107, 3), (105, .ifCond .eq 28, 3), (108, .aload_n 0, 1), (109, .getfield 20, 3), (112, .aload_n 0, 1), (113, .getfield 20, 3), (116, .getfield 100, 3), (119, .iconst 1, 1), (120, .isub, 1), (121, .iload 6, 2), (123, .aload_n 0, 1), (124, .getfield 11, 3), (127, .iload 6, 2), (129, .aaload, 1), (130, .invokevirtual 127, 3), (133, .iinc 6 1, 3), (136, .goto (-47), 3), (139, .return_, 1)]
theorem v_Rock_addPoint_1 : u_Rock_addPoint_1.all (zdq prog_6_method_13_code) = true := by decide +kernel
theorem d_Rock_addPoint_70 : decode prog_6_method_13_code 70 = .ok (.iload_n 2, 1) := zdt v_Rock_addPoint_1 0 (q := (70, .iload_n 2, 1)) rfl
theorem d_Rock_addPoint_71 : decode prog_6_method_13_code 71 = .ok (.iload 5, 2) := zdt v_Rock_addPoint_1 1 (q := (71, .iload 5, 2)) rfl
theorem d_Rock_addPoint_73 : decode prog_6_method_13_code 73 = .ok (.idiv, 1) := zdt v_Rock_addPoint_1 2 (q := (73, .idiv, 1)) rfl
theorem d_Rock_addPoint_74 : decode prog_6_method_13_code 74 = .ok (.iload_n 3, 1) := zdt v_Rock_addPoint_1 3 (q := (74, .iload_n 3, 1)) rfl
theorem d_Rock_addPoint_75 : decode prog_6_method_13_code 75 = .ok (.iload 5, 2) := zdt v_Rock_addPoint_1 4 (q := (75, .iload 5, 2)) rfl
theorem d_Rock_addPoint_77 : decode prog_6_method_13_code 77 = .ok (.idiv, 1) := zdt v_Rock_addPoint_1 5 (q := (77, .idiv, 1)) rfl
theorem d_Rock_addPoint_78 : decode prog_6_method_13_code 78 = .ok (.iload 4, 2) := zdt v_Rock_addPoint_1 6 (q := (78, .iload 4, 2)) rfl
theorem d_Rock_addPoint_80 : decode prog_6_method_13_code 80 = .ok (.iload 5, 2) := zdt v_Rock_addPoint_1 7 (q := (80, .iload 5, 2)) rfl
theorem d_Rock_addPoint_82 : decode prog_6_method_13_code 82 = .ok (.idiv, 1) := zdt v_Rock_addPoint_1 8 (q := (82, .idiv, 1)) rfl
theorem d_Rock_addPoint_83 : decode prog_6_method_13_code 83 = .ok (.invokevirtual 170, 3) := zdt v_Rock_addPoint_1 9 (q := (83, .invokevirtual 170, 3)) rfl
theorem d_Rock_addPoint_86 : decode prog_6_method_13_code 86 = .ok (.iconst 0, 1) := zdt v_Rock_addPoint_1 10 (q := (86, .iconst 0, 1)) rfl
theorem d_Rock_addPoint_87 : decode prog_6_method_13_code 87 = .ok (.istore 6, 2) := zdt v_Rock_addPoint_1 11 (q := (87, .istore 6, 2)) rfl
theorem d_Rock_addPoint_89 : decode prog_6_method_13_code 89 = .ok (.iload 6, 2) := zdt v_Rock_addPoint_1 12 (q := (89, .iload 6, 2)) rfl
theorem d_Rock_addPoint_91 : decode prog_6_method_13_code 91 = .ok (.bipush 12, 2) := zdt v_Rock_addPoint_1 13 (q := (91, .bipush 12, 2)) rfl
theorem d_Rock_addPoint_93 : decode prog_6_method_13_code 93 = .ok (.if_icmp .ge 46, 3) := zdt v_Rock_addPoint_1 14 (q := (93, .if_icmp .ge 46, 3)) rfl
theorem d_Rock_addPoint_96 : decode prog_6_method_13_code 96 = .ok (.aload_n 0, 1) := zdt v_Rock_addPoint_1 15 (q := (96, .aload_n 0, 1)) rfl
theorem d_Rock_addPoint_97 : decode prog_6_method_13_code 97 = .ok (.getfield 63, 3) := zdt v_Rock_addPoint_1 16 (q := (97, .getfield 63, 3)) rfl
theorem d_Rock_addPoint_100 : decode prog_6_method_13_code 100 = .ok (.iload 6, 2) := zdt v_Rock_addPoint_1 17 (q := (100, .iload 6, 2)) rfl
theorem d_Rock_addPoint_102 : decode prog_6_method_13_code 102 = .ok (.invokestatic 107, 3) := zdt v_Rock_addPoint_1 18 (q := (102, .invokestatic 107, 3)) rfl
theorem d_Rock_addPoint_105 : decode prog_6_method_13_code 105 = .ok (.ifCond .eq 28, 3) := zdt v_Rock_addPoint_1 19 (q := (105, .ifCond .eq 28, 3)) rfl
theorem d_Rock_addPoint_108 : decode prog_6_method_13_code 108 = .ok (.aload_n 0, 1) := zdt v_Rock_addPoint_1 20 (q := (108, .aload_n 0, 1)) rfl
theorem d_Rock_addPoint_109 : decode prog_6_method_13_code 109 = .ok (.getfield 20, 3) := zdt v_Rock_addPoint_1 21 (q := (109, .getfield 20, 3)) rfl
theorem d_Rock_addPoint_112 : decode prog_6_method_13_code 112 = .ok (.aload_n 0, 1) := zdt v_Rock_addPoint_1 22 (q := (112, .aload_n 0, 1)) rfl
theorem d_Rock_addPoint_113 : decode prog_6_method_13_code 113 = .ok (.getfield 20, 3) := zdt v_Rock_addPoint_1 23 (q := (113, .getfield 20, 3)) rfl
theorem d_Rock_addPoint_116 : decode prog_6_method_13_code 116 = .ok (.getfield 100, 3) := zdt v_Rock_addPoint_1 24 (q := (116, .getfield 100, 3)) rfl
theorem d_Rock_addPoint_119 : decode prog_6_method_13_code 119 = .ok (.iconst 1, 1) := zdt v_Rock_addPoint_1 25 (q := (119, .iconst 1, 1)) rfl
theorem d_Rock_addPoint_120 : decode prog_6_method_13_code 120 = .ok (.isub, 1) := zdt v_Rock_addPoint_1 26 (q := (120, .isub, 1)) rfl
theorem d_Rock_addPoint_121 : decode prog_6_method_13_code 121 = .ok (.iload 6, 2) := zdt v_Rock_addPoint_1 27 (q := (121, .iload 6, 2)) rfl
theorem d_Rock_addPoint_123 : decode prog_6_method_13_code 123 = .ok (.aload_n 0, 1) := zdt v_Rock_addPoint_1 28 (q := (123, .aload_n 0, 1)) rfl
theorem d_Rock_addPoint_124 : decode prog_6_method_13_code 124 = .ok (.getfield 11, 3) := zdt v_Rock_addPoint_1 29 (q := (124, .getfield 11, 3)) rfl
theorem d_Rock_addPoint_127 : decode prog_6_method_13_code 127 = .ok (.iload 6, 2) := zdt v_Rock_addPoint_1 30 (q := (127, .iload 6, 2)) rfl
theorem d_Rock_addPoint_129 : decode prog_6_method_13_code 129 = .ok (.aaload, 1) := zdt v_Rock_addPoint_1 31 (q := (129, .aaload, 1)) rfl
theorem d_Rock_addPoint_130 : decode prog_6_method_13_code 130 = .ok (.invokevirtual 127, 3) := zdt v_Rock_addPoint_1 32 (q := (130, .invokevirtual 127, 3)) rfl
theorem d_Rock_addPoint_133 : decode prog_6_method_13_code 133 = .ok (.iinc 6 1, 3) := zdt v_Rock_addPoint_1 33 (q := (133, .iinc 6 1, 3)) rfl
theorem d_Rock_addPoint_136 : decode prog_6_method_13_code 136 = .ok (.goto (-47), 3) := zdt v_Rock_addPoint_1 34 (q := (136, .goto (-47), 3)) rfl
theorem d_Rock_addPoint_139 : decode prog_6_method_13_code 139 = .ok (.return_, 1) := zdt v_Rock_addPoint_1 35 (q := (139, .return_, 1)) rfl
def u_Rock_isInBox_0 : List (Nat × Instr × Nat) := [(0, .iload_n 1, 1), (1, .ifCond .lt 48, 3), (4, .iload_n 1, 1), (5, .aload_n 0, 1), (6, .getfield 66, 3), (9, .iload 4, 2), (11, .imul, 1), (12, .if_icmp .gt 37, 3), (15, .iload_n 2, 1), (16, .ifCond .lt 33, 3), (19, .iload_n 2, 1), (20, .aload_n 0, 1), (21, .getfield 69, 3), (24, .iload 4, 2), (26, .imul, 1), (27, .if_icmp .gt 22, 3), (30, .iload_n 3, 1), (31, .ifCond .lt 18, 3), (34, .iload_n 3, 1), (35, .aload_n 0, 1), (36, .getfield 72, 3), (39, .iload 4, 2), (41, .imul, 1), (42, .if_icmp .gt 7, 3), (45, .iconst 1, 1), (46, .goto 4, 3), (49, .iconst 0, 1), (50, .ireturn, 1)]
theorem v_Rock_isInBox_0 : u_Rock_isInBox_0.all (zdq prog_6_method_14_code) = true := by decide +kernel
theorem d_Rock_isInBox_0 : decode prog_6_method_14_code 0 = .ok (.iload_n 1, 1) := zdt v_Rock_isInBox_0 0 (q := (0, .iload_n 1, 1)) rfl
theorem d_Rock_isInBox_1 : decode prog_6_method_14_code 1 = .ok (.ifCond .lt 48, 3) := zdt v_Rock_isInBox_0 1 (q := (1, .ifCond .lt 48, 3)) rfl
theorem d_Rock_isInBox_4 : decode prog_6_method_14_code 4 = .ok (.iload_n 1, 1) := zdt v_Rock_isInBox_0 2 (q := (4, .iload_n 1, 1)) rfl
theorem d_Rock_isInBox_5 : decode prog_6_method_14_code 5 = .ok (.aload_n 0, 1) := zdt v_Rock_isInBox_0 3 (q := (5, .aload_n 0, 1)) rfl
theorem d_Rock_isInBox_6 : decode prog_6_method_14_code 6 = .ok (.getfield 66, 3) := zdt v_Rock_isInBox_0 4 (q := (6, .getfield 66, 3)) rfl
theorem d_Rock_isInBox_9 : decode prog_6_method_14_code 9 = .ok (.iload 4, 2) := zdt v_Rock_isInBox_0 5 (q := (9, .iload 4, 2)) rfl
theorem d_Rock_isInBox_11 : decode prog_6_method_14_code 11 = .ok (.imul, 1) := zdt v_Rock_isInBox_0 6 (q := (11, .imul, 1)) rfl
theorem d_Rock_isInBox_12 : decode prog_6_method_14_code 12 = .ok (.if_icmp .gt 37, 3) := zdt v_Rock_isInBox_0 7 (q := (12, .if_icmp .gt 37, 3)) rfl
theorem d_Rock_isInBox_15 : decode prog_6_method_14_code 15 = .ok (.iload_n 2, 1) := zdt v_Rock_isInBox_0 8 (q := (15, .iload_n 2, 1)) rfl
theorem d_Rock_isInBox_16 : decode prog_6_method_14_code 16 = .ok (.ifCond .lt 33, 3) := zdt v_Rock_isInBox_0 9 (q := (16, .ifCond .lt 33, 3)) rfl
theorem d_Rock_isInBox_19 : decode prog_6_method_14_code 19 = .ok (.iload_n 2, 1) := zdt v_Rock_isInBox_0 10 (q := (19, .iload_n 2, 1)) rfl
theorem d_Rock_isInBox_20 : decode prog_6_method_14_code 20 = .ok (.aload_n 0, 1) := zdt v_Rock_isInBox_0 11 (q := (20, .aload_n 0, 1)) rfl
theorem d_Rock_isInBox_21 : decode prog_6_method_14_code 21 = .ok (.getfield 69, 3) := zdt v_Rock_isInBox_0 12 (q := (21, .getfield 69, 3)) rfl
theorem d_Rock_isInBox_24 : decode prog_6_method_14_code 24 = .ok (.iload 4, 2) := zdt v_Rock_isInBox_0 13 (q := (24, .iload 4, 2)) rfl
theorem d_Rock_isInBox_26 : decode prog_6_method_14_code 26 = .ok (.imul, 1) := zdt v_Rock_isInBox_0 14 (q := (26, .imul, 1)) rfl
theorem d_Rock_isInBox_27 : decode prog_6_method_14_code 27 = .ok (.if_icmp .gt 22, 3) := zdt v_Rock_isInBox_0 15 (q := (27, .if_icmp .gt 22, 3)) rfl
theorem d_Rock_isInBox_30 : decode prog_6_method_14_code 30 = .ok (.iload_n 3, 1) := zdt v_Rock_isInBox_0 16 (q := (30, .iload_n 3, 1)) rfl
theorem d_Rock_isInBox_31 : decode prog_6_method_14_code 31 = .ok (.ifCond .lt 18, 3) := zdt v_Rock_isInBox_0 17 (q := (31, .ifCond .lt 18, 3)) rfl
theorem d_Rock_isInBox_34 : decode prog_6_method_14_code 34 = .ok (.iload_n 3, 1) := zdt v_Rock_isInBox_0 18 (q := (34, .iload_n 3, 1)) rfl
theorem d_Rock_isInBox_35 : decode prog_6_method_14_code 35 = .ok (.aload_n 0, 1) := zdt v_Rock_isInBox_0 19 (q := (35, .aload_n 0, 1)) rfl
theorem d_Rock_isInBox_36 : decode prog_6_method_14_code 36 = .ok (.getfield 72, 3) := zdt v_Rock_isInBox_0 20 (q := (36, .getfield 72, 3)) rfl
theorem d_Rock_isInBox_39 : decode prog_6_method_14_code 39 = .ok (.iload 4, 2) := zdt v_Rock_isInBox_0 21 (q := (39, .iload 4, 2)) rfl
theorem d_Rock_isInBox_41 : decode prog_6_method_14_code 41 = .ok (.imul, 1) := zdt v_Rock_isInBox_0 22 (q := (41, .imul, 1)) rfl
theorem d_Rock_isInBox_42 : decode prog_6_method_14_code 42 = .ok (.if_icmp .gt 7, 3) := zdt v_Rock_isInBox_0 23 (q := (42, .if_icmp .gt 7, 3)) rfl
theorem d_Rock_isInBox_45 : decode prog_6_method_14_code 45 = .ok (.iconst 1, 1) := zdt v_Rock_isInBox_0 24 (q := (45, .iconst 1, 1)) rfl
theorem d_Rock_isInBox_46 : decode prog_6_method_14_code 46 = .ok (.goto 4, 3) := zdt v_Rock_isInBox_0 25 (q := (46, .goto 4, 3)) rfl
theorem d_Rock_isInBox_49 : decode prog_6_method_14_code 49 = .ok (.iconst 0, 1) := zdt v_Rock_isInBox_0 26 (q := (49, .iconst 0, 1)) rfl
theorem d_Rock_isInBox_50 : decode prog_6_method_14_code 50 = .ok (.ireturn, 1) := zdt v_Rock_isInBox_0 27 (q := (50, .ireturn, 1)) rfl
def u_Rock_commonDivisor_0 : List (Nat × Instr × Nat) := [(0, .iload_n 0, 1), (1, .istore_n 2, 1), (2, .iload_n 1, 1), (3, .istore_n 3, 1), (4, .iconst 0, 1), (5, .istore 4, 2), (7, .iload 4, 2), (9, .bipush 64, 2), (11, .if_icmp .ge 23, 3), (14, .iload_n 3, 1), (15, .ifCond .eq 19, 3), (18, .iload_n 2, 1), (19, .iload_n 3, 1), (20, .irem, 1), (21, .istore 5, 2), (23, .iload_n 3, 1), (24, .istore_n 2, 1), (25, .iload 5, 2), (27, .istore_n 3, 1), (28, .iinc 4 1, 3), (31, .goto (-24), 3), (34, .iload_n 2, 1), (35, .ireturn, 1)]
theorem v_Rock_commonDivisor_0 : u_Rock_commonDivisor_0.all (zdq prog_6_method_15_code) = true := by decide +kernel
theorem d_Rock_commonDivisor_0 : decode prog_6_method_15_code 0 = .ok (.iload_n 0, 1) := zdt v_Rock_commonDivisor_0 0 (q := (0, .iload_n 0, 1)) rfl
theorem d_Rock_commonDivisor_1 : decode prog_6_method_15_code 1 = .ok (.istore_n 2, 1) := zdt v_Rock_commonDivisor_0 1 (q := (1, .istore_n 2, 1)) rfl
theorem d_Rock_commonDivisor_2 : decode prog_6_method_15_code 2 = .ok (.iload_n 1, 1) := zdt v_Rock_commonDivisor_0 2 (q := (2, .iload_n 1, 1)) rfl
theorem d_Rock_commonDivisor_3 : decode prog_6_method_15_code 3 = .ok (.istore_n 3, 1) := zdt v_Rock_commonDivisor_0 3 (q := (3, .istore_n 3, 1)) rfl
theorem d_Rock_commonDivisor_4 : decode prog_6_method_15_code 4 = .ok (.iconst 0, 1) := zdt v_Rock_commonDivisor_0 4 (q := (4, .iconst 0, 1)) rfl
theorem d_Rock_commonDivisor_5 : decode prog_6_method_15_code 5 = .ok (.istore 4, 2) := zdt v_Rock_commonDivisor_0 5 (q := (5, .istore 4, 2)) rfl
theorem d_Rock_commonDivisor_7 : decode prog_6_method_15_code 7 = .ok (.iload 4, 2) := zdt v_Rock_commonDivisor_0 6 (q := (7, .iload 4, 2)) rfl
theorem d_Rock_commonDivisor_9 : decode prog_6_method_15_code 9 = .ok (.bipush 64, 2) := zdt v_Rock_commonDivisor_0 7 (q := (9, .bipush 64, 2)) rfl
theorem d_Rock_commonDivisor_11 : decode prog_6_method_15_code 11 = .ok (.if_icmp .ge 23, 3) := zdt v_Rock_commonDivisor_0 8 (q := (11, .if_icmp .ge 23, 3)) rfl
theorem d_Rock_commonDivisor_14 : decode prog_6_method_15_code 14 = .ok (.iload_n 3, 1) := zdt v_Rock_commonDivisor_0 9 (q := (14, .iload_n 3, 1)) rfl
theorem d_Rock_commonDivisor_15 : decode prog_6_method_15_code 15 = .ok (.ifCond .eq 19, 3) := zdt v_Rock_commonDivisor_0 10 (q := (15, .ifCond .eq 19, 3)) rfl
theorem d_Rock_commonDivisor_18 : decode prog_6_method_15_code 18 = .ok (.iload_n 2, 1) := zdt v_Rock_commonDivisor_0 11 (q := (18, .iload_n 2, 1)) rfl
theorem d_Rock_commonDivisor_19 : decode prog_6_method_15_code 19 = .ok (.iload_n 3, 1) := zdt v_Rock_commonDivisor_0 12 (q := (19, .iload_n 3, 1)) rfl
theorem d_Rock_commonDivisor_20 : decode prog_6_method_15_code 20 = .ok (.irem, 1) := zdt v_Rock_commonDivisor_0 13 (q := (20, .irem, 1)) rfl
theorem d_Rock_commonDivisor_21 : decode prog_6_method_15_code 21 = .ok (.istore 5, 2) := zdt v_Rock_commonDivisor_0 14 (q := (21, .istore 5, 2)) rfl
theorem d_Rock_commonDivisor_23 : decode prog_6_method_15_code 23 = .ok (.iload_n 3, 1) := zdt v_Rock_commonDivisor_0 15 (q := (23, .iload_n 3, 1)) rfl
theorem d_Rock_commonDivisor_24 : decode prog_6_method_15_code 24 = .ok (.istore_n 2, 1) := zdt v_Rock_commonDivisor_0 16 (q := (24, .istore_n 2, 1)) rfl
theorem d_Rock_commonDivisor_25 : decode prog_6_method_15_code 25 = .ok (.iload 5, 2) := zdt v_Rock_commonDivisor_0 17 (q := (25, .iload 5, 2)) rfl
theorem d_Rock_commonDivisor_27 : decode prog_6_method_15_code 27 = .ok (.istore_n 3, 1) := zdt v_Rock_commonDivisor_0 18 (q := (27, .istore_n 3, 1)) rfl
theorem d_Rock_commonDivisor_28 : decode prog_6_method_15_code 28 = .ok (.iinc 4 1, 3) := zdt v_Rock_commonDivisor_0 19 (q := (28, .iinc 4 1, 3)) rfl
theorem d_Rock_commonDivisor_31 : decode prog_6_method_15_code 31 = .ok (.goto (-24), 3) := zdt v_Rock_commonDivisor_0 20 (q := (31, .goto (-24), 3)) rfl
theorem d_Rock_commonDivisor_34 : decode prog_6_method_15_code 34 = .ok (.iload_n 2, 1) := zdt v_Rock_commonDivisor_0 21 (q := (34, .iload_n 2, 1)) rfl
theorem d_Rock_commonDivisor_35 : decode prog_6_method_15_code 35 = .ok (.ireturn, 1) := zdt v_Rock_commonDivisor_0 22 (q := (35, .ireturn, 1)) rfl
def u_Points_has_0 : List (Nat × Instr × Nat) := [(0, .iconst 0, 1), (1, .istore 5, 2), (3, .iload 5, 2), (5, .aload_n 0, 1), (6, .getfield 28, 3), (9, .if_icmp .ge 56, 3), (12, .aload_n 0, 1), (13, .getfield 9, 3), (16, .iload 5, 2), (18, .iaload, 1), (19, .iload_n 1, 1), (20, .if_icmp .ne 39, 3), (23, .aload_n 0, 1), (24, .getfield 13, 3), (27, .iload 5, 2), (29, .iaload, 1), (30, .iload_n 2, 1), (31, .if_icmp .ne 28, 3), (34, .aload_n 0, 1), (35, .getfield 16, 3), (38, .iload 5, 2), (40, .iaload, 1), (41, .iload_n 3, 1), (42, .if_icmp .ne 17, 3), (45, .aload_n 0, 1), (46, .getfield 19, 3), (49, .iload 5, 2), (51, .iaload, 1), (52, .iload 4, 2), (54, .if_icmp .ne 5, 3), (57, .iconst 1, 1), (58, .ireturn, 1), (59, .iinc 5 1, 3), (62, .goto (-59), 3), (65, .iconst 0, 1), (66, .ireturn, 1)]
theorem v_Points_has_0 : u_Points_has_0.all (zdq prog_5_method_2_code) = true := by decide +kernel
theorem d_Points_has_0 : decode prog_5_method_2_code 0 = .ok (.iconst 0, 1) := zdt v_Points_has_0 0 (q := (0, .iconst 0, 1)) rfl
theorem d_Points_has_1 : decode prog_5_method_2_code 1 = .ok (.istore 5, 2) := zdt v_Points_has_0 1 (q := (1, .istore 5, 2)) rfl
theorem d_Points_has_3 : decode prog_5_method_2_code 3 = .ok (.iload 5, 2) := zdt v_Points_has_0 2 (q := (3, .iload 5, 2)) rfl
theorem d_Points_has_5 : decode prog_5_method_2_code 5 = .ok (.aload_n 0, 1) := zdt v_Points_has_0 3 (q := (5, .aload_n 0, 1)) rfl
theorem d_Points_has_6 : decode prog_5_method_2_code 6 = .ok (.getfield 28, 3) := zdt v_Points_has_0 4 (q := (6, .getfield 28, 3)) rfl
theorem d_Points_has_9 : decode prog_5_method_2_code 9 = .ok (.if_icmp .ge 56, 3) := zdt v_Points_has_0 5 (q := (9, .if_icmp .ge 56, 3)) rfl
theorem d_Points_has_12 : decode prog_5_method_2_code 12 = .ok (.aload_n 0, 1) := zdt v_Points_has_0 6 (q := (12, .aload_n 0, 1)) rfl
theorem d_Points_has_13 : decode prog_5_method_2_code 13 = .ok (.getfield 9, 3) := zdt v_Points_has_0 7 (q := (13, .getfield 9, 3)) rfl
theorem d_Points_has_16 : decode prog_5_method_2_code 16 = .ok (.iload 5, 2) := zdt v_Points_has_0 8 (q := (16, .iload 5, 2)) rfl
theorem d_Points_has_18 : decode prog_5_method_2_code 18 = .ok (.iaload, 1) := zdt v_Points_has_0 9 (q := (18, .iaload, 1)) rfl
theorem d_Points_has_19 : decode prog_5_method_2_code 19 = .ok (.iload_n 1, 1) := zdt v_Points_has_0 10 (q := (19, .iload_n 1, 1)) rfl
theorem d_Points_has_20 : decode prog_5_method_2_code 20 = .ok (.if_icmp .ne 39, 3) := zdt v_Points_has_0 11 (q := (20, .if_icmp .ne 39, 3)) rfl
theorem d_Points_has_23 : decode prog_5_method_2_code 23 = .ok (.aload_n 0, 1) := zdt v_Points_has_0 12 (q := (23, .aload_n 0, 1)) rfl
theorem d_Points_has_24 : decode prog_5_method_2_code 24 = .ok (.getfield 13, 3) := zdt v_Points_has_0 13 (q := (24, .getfield 13, 3)) rfl
theorem d_Points_has_27 : decode prog_5_method_2_code 27 = .ok (.iload 5, 2) := zdt v_Points_has_0 14 (q := (27, .iload 5, 2)) rfl
theorem d_Points_has_29 : decode prog_5_method_2_code 29 = .ok (.iaload, 1) := zdt v_Points_has_0 15 (q := (29, .iaload, 1)) rfl
theorem d_Points_has_30 : decode prog_5_method_2_code 30 = .ok (.iload_n 2, 1) := zdt v_Points_has_0 16 (q := (30, .iload_n 2, 1)) rfl
theorem d_Points_has_31 : decode prog_5_method_2_code 31 = .ok (.if_icmp .ne 28, 3) := zdt v_Points_has_0 17 (q := (31, .if_icmp .ne 28, 3)) rfl
theorem d_Points_has_34 : decode prog_5_method_2_code 34 = .ok (.aload_n 0, 1) := zdt v_Points_has_0 18 (q := (34, .aload_n 0, 1)) rfl
theorem d_Points_has_35 : decode prog_5_method_2_code 35 = .ok (.getfield 16, 3) := zdt v_Points_has_0 19 (q := (35, .getfield 16, 3)) rfl
theorem d_Points_has_38 : decode prog_5_method_2_code 38 = .ok (.iload 5, 2) := zdt v_Points_has_0 20 (q := (38, .iload 5, 2)) rfl
theorem d_Points_has_40 : decode prog_5_method_2_code 40 = .ok (.iaload, 1) := zdt v_Points_has_0 21 (q := (40, .iaload, 1)) rfl
theorem d_Points_has_41 : decode prog_5_method_2_code 41 = .ok (.iload_n 3, 1) := zdt v_Points_has_0 22 (q := (41, .iload_n 3, 1)) rfl
theorem d_Points_has_42 : decode prog_5_method_2_code 42 = .ok (.if_icmp .ne 17, 3) := zdt v_Points_has_0 23 (q := (42, .if_icmp .ne 17, 3)) rfl
theorem d_Points_has_45 : decode prog_5_method_2_code 45 = .ok (.aload_n 0, 1) := zdt v_Points_has_0 24 (q := (45, .aload_n 0, 1)) rfl
theorem d_Points_has_46 : decode prog_5_method_2_code 46 = .ok (.getfield 19, 3) := zdt v_Points_has_0 25 (q := (46, .getfield 19, 3)) rfl
theorem d_Points_has_49 : decode prog_5_method_2_code 49 = .ok (.iload 5, 2) := zdt v_Points_has_0 26 (q := (49, .iload 5, 2)) rfl
theorem d_Points_has_51 : decode prog_5_method_2_code 51 = .ok (.iaload, 1) := zdt v_Points_has_0 27 (q := (51, .iaload, 1)) rfl
theorem d_Points_has_52 : decode prog_5_method_2_code 52 = .ok (.iload 4, 2) := zdt v_Points_has_0 28 (q := (52, .iload 4, 2)) rfl
theorem d_Points_has_54 : decode prog_5_method_2_code 54 = .ok (.if_icmp .ne 5, 3) := zdt v_Points_has_0 29 (q := (54, .if_icmp .ne 5, 3)) rfl
theorem d_Points_has_57 : decode prog_5_method_2_code 57 = .ok (.iconst 1, 1) := zdt v_Points_has_0 30 (q := (57, .iconst 1, 1)) rfl
theorem d_Points_has_58 : decode prog_5_method_2_code 58 = .ok (.ireturn, 1) := zdt v_Points_has_0 31 (q := (58, .ireturn, 1)) rfl
theorem d_Points_has_59 : decode prog_5_method_2_code 59 = .ok (.iinc 5 1, 3) := zdt v_Points_has_0 32 (q := (59, .iinc 5 1, 3)) rfl
theorem d_Points_has_62 : decode prog_5_method_2_code 62 = .ok (.goto (-59), 3) := zdt v_Points_has_0 33 (q := (62, .goto (-59), 3)) rfl
theorem d_Points_has_65 : decode prog_5_method_2_code 65 = .ok (.iconst 0, 1) := zdt v_Points_has_0 34 (q := (65, .iconst 0, 1)) rfl
theorem d_Points_has_66 : decode prog_5_method_2_code 66 = .ok (.ireturn, 1) := zdt v_Points_has_0 35 (q := (66, .ireturn, 1)) rfl
def u_Points_add_0 : List (Nat × Instr × Nat) := [(0, .aload_n 0, 1), (1, .getfield 28, 3), (4, .sipush 220, 3), (7, .if_icmp .ge 74, 3), (10, .aload_n 0, 1), (11, .getfield 9, 3), (14, .aload_n 0, 1), (15, .getfield 28, 3), (18, .iload_n 1, 1), (19, .iastore, 1), (20, .aload_n 0, 1), (21, .getfield 13, 3), (24, .aload_n 0, 1), (25, .getfield 28, 3), (28, .iload_n 2, 1), (29, .iastore, 1), (30, .aload_n 0, 1), (31, .getfield 16, 3), (34, .aload_n 0, 1), (35, .getfield 28, 3), (38, .iload_n 3, 1), (39, .iastore, 1), (40, .aload_n 0, 1), (41, .getfield 19, 3), (44, .aload_n 0, 1), (45, .getfield 28, 3), (48, .iload 4, 2), (50, .iastore, 1), (51, .aload_n 0, 1), (52, .getfield 22, 3), (55, .aload_n 0, 1), (56, .getfield 28, 3), (59, .iconst 0, 1), (60, .iastore, 1), (61, .aload_n 0, 1), (62, .getfield 25, 3), (65, .aload_n 0, 1), (66, .getfield 28, 3), (69, .iconst 0, 1), (70, .iastore, 1)]
theorem v_Points_add_0 : u_Points_add_0.all (zdq prog_5_method_3_code) = true := by decide +kernel
theorem d_Points_add_0 : decode prog_5_method_3_code 0 = .ok (.aload_n 0, 1) := zdt v_Points_add_0 0 (q := (0, .aload_n 0, 1)) rfl
theorem d_Points_add_1 : decode prog_5_method_3_code 1 = .ok (.getfield 28, 3) := zdt v_Points_add_0 1 (q := (1, .getfield 28, 3)) rfl
theorem d_Points_add_4 : decode prog_5_method_3_code 4 = .ok (.sipush 220, 3) := zdt v_Points_add_0 2 (q := (4, .sipush 220, 3)) rfl
theorem d_Points_add_7 : decode prog_5_method_3_code 7 = .ok (.if_icmp .ge 74, 3) := zdt v_Points_add_0 3 (q := (7, .if_icmp .ge 74, 3)) rfl
theorem d_Points_add_10 : decode prog_5_method_3_code 10 = .ok (.aload_n 0, 1) := zdt v_Points_add_0 4 (q := (10, .aload_n 0, 1)) rfl
theorem d_Points_add_11 : decode prog_5_method_3_code 11 = .ok (.getfield 9, 3) := zdt v_Points_add_0 5 (q := (11, .getfield 9, 3)) rfl
theorem d_Points_add_14 : decode prog_5_method_3_code 14 = .ok (.aload_n 0, 1) := zdt v_Points_add_0 6 (q := (14, .aload_n 0, 1)) rfl
theorem d_Points_add_15 : decode prog_5_method_3_code 15 = .ok (.getfield 28, 3) := zdt v_Points_add_0 7 (q := (15, .getfield 28, 3)) rfl
theorem d_Points_add_18 : decode prog_5_method_3_code 18 = .ok (.iload_n 1, 1) := zdt v_Points_add_0 8 (q := (18, .iload_n 1, 1)) rfl
theorem d_Points_add_19 : decode prog_5_method_3_code 19 = .ok (.iastore, 1) := zdt v_Points_add_0 9 (q := (19, .iastore, 1)) rfl
theorem d_Points_add_20 : decode prog_5_method_3_code 20 = .ok (.aload_n 0, 1) := zdt v_Points_add_0 10 (q := (20, .aload_n 0, 1)) rfl
theorem d_Points_add_21 : decode prog_5_method_3_code 21 = .ok (.getfield 13, 3) := zdt v_Points_add_0 11 (q := (21, .getfield 13, 3)) rfl
theorem d_Points_add_24 : decode prog_5_method_3_code 24 = .ok (.aload_n 0, 1) := zdt v_Points_add_0 12 (q := (24, .aload_n 0, 1)) rfl
theorem d_Points_add_25 : decode prog_5_method_3_code 25 = .ok (.getfield 28, 3) := zdt v_Points_add_0 13 (q := (25, .getfield 28, 3)) rfl
theorem d_Points_add_28 : decode prog_5_method_3_code 28 = .ok (.iload_n 2, 1) := zdt v_Points_add_0 14 (q := (28, .iload_n 2, 1)) rfl
theorem d_Points_add_29 : decode prog_5_method_3_code 29 = .ok (.iastore, 1) := zdt v_Points_add_0 15 (q := (29, .iastore, 1)) rfl
theorem d_Points_add_30 : decode prog_5_method_3_code 30 = .ok (.aload_n 0, 1) := zdt v_Points_add_0 16 (q := (30, .aload_n 0, 1)) rfl
theorem d_Points_add_31 : decode prog_5_method_3_code 31 = .ok (.getfield 16, 3) := zdt v_Points_add_0 17 (q := (31, .getfield 16, 3)) rfl
theorem d_Points_add_34 : decode prog_5_method_3_code 34 = .ok (.aload_n 0, 1) := zdt v_Points_add_0 18 (q := (34, .aload_n 0, 1)) rfl
theorem d_Points_add_35 : decode prog_5_method_3_code 35 = .ok (.getfield 28, 3) := zdt v_Points_add_0 19 (q := (35, .getfield 28, 3)) rfl
theorem d_Points_add_38 : decode prog_5_method_3_code 38 = .ok (.iload_n 3, 1) := zdt v_Points_add_0 20 (q := (38, .iload_n 3, 1)) rfl
theorem d_Points_add_39 : decode prog_5_method_3_code 39 = .ok (.iastore, 1) := zdt v_Points_add_0 21 (q := (39, .iastore, 1)) rfl
theorem d_Points_add_40 : decode prog_5_method_3_code 40 = .ok (.aload_n 0, 1) := zdt v_Points_add_0 22 (q := (40, .aload_n 0, 1)) rfl
theorem d_Points_add_41 : decode prog_5_method_3_code 41 = .ok (.getfield 19, 3) := zdt v_Points_add_0 23 (q := (41, .getfield 19, 3)) rfl
theorem d_Points_add_44 : decode prog_5_method_3_code 44 = .ok (.aload_n 0, 1) := zdt v_Points_add_0 24 (q := (44, .aload_n 0, 1)) rfl
theorem d_Points_add_45 : decode prog_5_method_3_code 45 = .ok (.getfield 28, 3) := zdt v_Points_add_0 25 (q := (45, .getfield 28, 3)) rfl
theorem d_Points_add_48 : decode prog_5_method_3_code 48 = .ok (.iload 4, 2) := zdt v_Points_add_0 26 (q := (48, .iload 4, 2)) rfl
theorem d_Points_add_50 : decode prog_5_method_3_code 50 = .ok (.iastore, 1) := zdt v_Points_add_0 27 (q := (50, .iastore, 1)) rfl
theorem d_Points_add_51 : decode prog_5_method_3_code 51 = .ok (.aload_n 0, 1) := zdt v_Points_add_0 28 (q := (51, .aload_n 0, 1)) rfl
theorem d_Points_add_52 : decode prog_5_method_3_code 52 = .ok (.getfield 22, 3) := zdt v_Points_add_0 29 (q := (52, .getfield 22, 3)) rfl
theorem d_Points_add_55 : decode prog_5_method_3_code 55 = .ok (.aload_n 0, 1) := zdt v_Points_add_0 30 (q := (55, .aload_n 0, 1)) rfl
theorem d_Points_add_56 : decode prog_5_method_3_code 56 = .ok (.getfield 28, 3) := zdt v_Points_add_0 31 (q := (56, .getfield 28, 3)) rfl
theorem d_Points_add_59 : decode prog_5_method_3_code 59 = .ok (.iconst 0, 1) := zdt v_Points_add_0 32 (q := (59, .iconst 0, 1)) rfl
theorem d_Points_add_60 : decode prog_5_method_3_code 60 = .ok (.iastore, 1) := zdt v_Points_add_0 33 (q := (60, .iastore, 1)) rfl
theorem d_Points_add_61 : decode prog_5_method_3_code 61 = .ok (.aload_n 0, 1) := zdt v_Points_add_0 34 (q := (61, .aload_n 0, 1)) rfl
theorem d_Points_add_62 : decode prog_5_method_3_code 62 = .ok (.getfield 25, 3) := zdt v_Points_add_0 35 (q := (62, .getfield 25, 3)) rfl
theorem d_Points_add_65 : decode prog_5_method_3_code 65 = .ok (.aload_n 0, 1) := zdt v_Points_add_0 36 (q := (65, .aload_n 0, 1)) rfl
theorem d_Points_add_66 : decode prog_5_method_3_code 66 = .ok (.getfield 28, 3) := zdt v_Points_add_0 37 (q := (66, .getfield 28, 3)) rfl
theorem d_Points_add_69 : decode prog_5_method_3_code 69 = .ok (.iconst 0, 1) := zdt v_Points_add_0 38 (q := (69, .iconst 0, 1)) rfl
theorem d_Points_add_70 : decode prog_5_method_3_code 70 = .ok (.iastore, 1) := zdt v_Points_add_0 39 (q := (70, .iastore, 1)) rfl
def u_Points_add_1 : List (Nat × Instr × Nat) := [(71, .aload_n 0, 1), (72, .dup, 1), (73, .getfield 28, 3), (76, .iconst 1, 1), (77, .iadd, 1), (78, .putfield 28, 3), (81, .return_, 1)]
theorem v_Points_add_1 : u_Points_add_1.all (zdq prog_5_method_3_code) = true := by decide +kernel
theorem d_Points_add_71 : decode prog_5_method_3_code 71 = .ok (.aload_n 0, 1) := zdt v_Points_add_1 0 (q := (71, .aload_n 0, 1)) rfl
theorem d_Points_add_72 : decode prog_5_method_3_code 72 = .ok (.dup, 1) := zdt v_Points_add_1 1 (q := (72, .dup, 1)) rfl
theorem d_Points_add_73 : decode prog_5_method_3_code 73 = .ok (.getfield 28, 3) := zdt v_Points_add_1 2 (q := (73, .getfield 28, 3)) rfl
theorem d_Points_add_76 : decode prog_5_method_3_code 76 = .ok (.iconst 1, 1) := zdt v_Points_add_1 3 (q := (76, .iconst 1, 1)) rfl
theorem d_Points_add_77 : decode prog_5_method_3_code 77 = .ok (.iadd, 1) := zdt v_Points_add_1 4 (q := (77, .iadd, 1)) rfl
theorem d_Points_add_78 : decode prog_5_method_3_code 78 = .ok (.putfield 28, 3) := zdt v_Points_add_1 5 (q := (78, .putfield 28, 3)) rfl
theorem d_Points_add_81 : decode prog_5_method_3_code 81 = .ok (.return_, 1) := zdt v_Points_add_1 6 (q := (81, .return_, 1)) rfl
def u_Rock_findBlocks_0 : List (Nat × Instr × Nat) := [(0, .aload_n 0, 1), (1, .iconst 0, 1), (2, .putfield 41, 3), (5, .iconst 0, 1), (6, .istore_n 1, 1), (7, .iload_n 1, 1), (8, .bipush 64, 2), (10, .if_icmp .ge 31, 3), (13, .aload_n 0, 1), (14, .getfield 34, 3), (17, .iload_n 1, 1), (18, .iconst (-1), 1), (19, .iastore, 1), (20, .iload_n 1, 1), (21, .iconst 1, 1), (22, .aload_n 0, 1), (23, .getfield 37, 3), (26, .ishl, 1), (27, .if_icmp .ge 8, 3), (30, .aload_n 0, 1), (31, .iload_n 1, 1), (32, .invokevirtual 173, 3), (35, .iinc 1 1, 3), (38, .goto (-31), 3), (41, .return_, 1)]
theorem v_Rock_findBlocks_0 : u_Rock_findBlocks_0.all (zdq prog_6_method_16_code) = true := by decide +kernel
theorem d_Rock_findBlocks_0 : decode prog_6_method_16_code 0 = .ok (.aload_n 0, 1) := zdt v_Rock_findBlocks_0 0 (q := (0, .aload_n 0, 1)) rfl
theorem d_Rock_findBlocks_1 : decode prog_6_method_16_code 1 = .ok (.iconst 0, 1) := zdt v_Rock_findBlocks_0 1 (q := (1, .iconst 0, 1)) rfl
theorem d_Rock_findBlocks_2 : decode prog_6_method_16_code 2 = .ok (.putfield 41, 3) := zdt v_Rock_findBlocks_0 2 (q := (2, .putfield 41, 3)) rfl
theorem d_Rock_findBlocks_5 : decode prog_6_method_16_code 5 = .ok (.iconst 0, 1) := zdt v_Rock_findBlocks_0 3 (q := (5, .iconst 0, 1)) rfl
theorem d_Rock_findBlocks_6 : decode prog_6_method_16_code 6 = .ok (.istore_n 1, 1) := zdt v_Rock_findBlocks_0 4 (q := (6, .istore_n 1, 1)) rfl
theorem d_Rock_findBlocks_7 : decode prog_6_method_16_code 7 = .ok (.iload_n 1, 1) := zdt v_Rock_findBlocks_0 5 (q := (7, .iload_n 1, 1)) rfl
theorem d_Rock_findBlocks_8 : decode prog_6_method_16_code 8 = .ok (.bipush 64, 2) := zdt v_Rock_findBlocks_0 6 (q := (8, .bipush 64, 2)) rfl
theorem d_Rock_findBlocks_10 : decode prog_6_method_16_code 10 = .ok (.if_icmp .ge 31, 3) := zdt v_Rock_findBlocks_0 7 (q := (10, .if_icmp .ge 31, 3)) rfl
theorem d_Rock_findBlocks_13 : decode prog_6_method_16_code 13 = .ok (.aload_n 0, 1) := zdt v_Rock_findBlocks_0 8 (q := (13, .aload_n 0, 1)) rfl
theorem d_Rock_findBlocks_14 : decode prog_6_method_16_code 14 = .ok (.getfield 34, 3) := zdt v_Rock_findBlocks_0 9 (q := (14, .getfield 34, 3)) rfl
theorem d_Rock_findBlocks_17 : decode prog_6_method_16_code 17 = .ok (.iload_n 1, 1) := zdt v_Rock_findBlocks_0 10 (q := (17, .iload_n 1, 1)) rfl
theorem d_Rock_findBlocks_18 : decode prog_6_method_16_code 18 = .ok (.iconst (-1), 1) := zdt v_Rock_findBlocks_0 11 (q := (18, .iconst (-1), 1)) rfl
theorem d_Rock_findBlocks_19 : decode prog_6_method_16_code 19 = .ok (.iastore, 1) := zdt v_Rock_findBlocks_0 12 (q := (19, .iastore, 1)) rfl
theorem d_Rock_findBlocks_20 : decode prog_6_method_16_code 20 = .ok (.iload_n 1, 1) := zdt v_Rock_findBlocks_0 13 (q := (20, .iload_n 1, 1)) rfl
theorem d_Rock_findBlocks_21 : decode prog_6_method_16_code 21 = .ok (.iconst 1, 1) := zdt v_Rock_findBlocks_0 14 (q := (21, .iconst 1, 1)) rfl
theorem d_Rock_findBlocks_22 : decode prog_6_method_16_code 22 = .ok (.aload_n 0, 1) := zdt v_Rock_findBlocks_0 15 (q := (22, .aload_n 0, 1)) rfl
theorem d_Rock_findBlocks_23 : decode prog_6_method_16_code 23 = .ok (.getfield 37, 3) := zdt v_Rock_findBlocks_0 16 (q := (23, .getfield 37, 3)) rfl
theorem d_Rock_findBlocks_26 : decode prog_6_method_16_code 26 = .ok (.ishl, 1) := zdt v_Rock_findBlocks_0 17 (q := (26, .ishl, 1)) rfl
theorem d_Rock_findBlocks_27 : decode prog_6_method_16_code 27 = .ok (.if_icmp .ge 8, 3) := zdt v_Rock_findBlocks_0 18 (q := (27, .if_icmp .ge 8, 3)) rfl
theorem d_Rock_findBlocks_30 : decode prog_6_method_16_code 30 = .ok (.aload_n 0, 1) := zdt v_Rock_findBlocks_0 19 (q := (30, .aload_n 0, 1)) rfl
theorem d_Rock_findBlocks_31 : decode prog_6_method_16_code 31 = .ok (.iload_n 1, 1) := zdt v_Rock_findBlocks_0 20 (q := (31, .iload_n 1, 1)) rfl
theorem d_Rock_findBlocks_32 : decode prog_6_method_16_code 32 = .ok (.invokevirtual 173, 3) := zdt v_Rock_findBlocks_0 21 (q := (32, .invokevirtual 173, 3)) rfl
theorem d_Rock_findBlocks_35 : decode prog_6_method_16_code 35 = .ok (.iinc 1 1, 3) := zdt v_Rock_findBlocks_0 22 (q := (35, .iinc 1 1, 3)) rfl
theorem d_Rock_findBlocks_38 : decode prog_6_method_16_code 38 = .ok (.goto (-31), 3) := zdt v_Rock_findBlocks_0 23 (q := (38, .goto (-31), 3)) rfl
theorem d_Rock_findBlocks_41 : decode prog_6_method_16_code 41 = .ok (.return_, 1) := zdt v_Rock_findBlocks_0 24 (q := (41, .return_, 1)) rfl
def u_Rock_findBlock_0 : List (Nat × Instr × Nat) := [(0, .iconst 0, 1), (1, .istore_n 2, 1), (2, .iconst 0, 1), (3, .istore_n 3, 1), (4, .iconst 0, 1), (5, .istore 4, 2), (7, .iconst 0, 1), (8, .istore 5, 2), (10, .iconst 0, 1), (11, .istore 6, 2), (13, .iconst 0, 1), (14, .istore 7, 2), (16, .iload 7, 2), (18, .aload_n 0, 1), (19, .getfield 20, 3), (22, .getfield 100, 3), (25, .if_icmp .ge 95, 3), (28, .aload_n 0, 1), (29, .getfield 20, 3), (32, .iload 7, 2), (34, .iload_n 1, 1), (35, .sipush 1344, 3), (38, .ior, 1), (39, .invokevirtual 111, 3), (42, .ifCond .eq 72, 3), (45, .aload_n 0, 1), (46, .getfield 20, 3), (49, .getfield 176, 3), (52, .iload 7, 2), (54, .iaload, 1), (55, .aload_n 0, 1), (56, .getfield 20, 3), (59, .getfield 179, 3), (62, .iload 7, 2), (64, .iaload, 1), (65, .ior, 1), (66, .istore 8, 2), (68, .aload_n 0, 1), (69, .getfield 63, 3), (72, .iload 8, 2)]
theorem v_Rock_findBlock_0 : u_Rock_findBlock_0.all (zdq prog_6_method_17_code) = true := by decide +kernel
theorem d_Rock_findBlock_0 : decode prog_6_method_17_code 0 = .ok (.iconst 0, 1) := zdt v_Rock_findBlock_0 0 (q := (0, .iconst 0, 1)) rfl
theorem d_Rock_findBlock_1 : decode prog_6_method_17_code 1 = .ok (.istore_n 2, 1) := zdt v_Rock_findBlock_0 1 (q := (1, .istore_n 2, 1)) rfl
theorem d_Rock_findBlock_2 : decode prog_6_method_17_code 2 = .ok (.iconst 0, 1) := zdt v_Rock_findBlock_0 2 (q := (2, .iconst 0, 1)) rfl
theorem d_Rock_findBlock_3 : decode prog_6_method_17_code 3 = .ok (.istore_n 3, 1) := zdt v_Rock_findBlock_0 3 (q := (3, .istore_n 3, 1)) rfl
theorem d_Rock_findBlock_4 : decode prog_6_method_17_code 4 = .ok (.iconst 0, 1) := zdt v_Rock_findBlock_0 4 (q := (4, .iconst 0, 1)) rfl
theorem d_Rock_findBlock_5 : decode prog_6_method_17_code 5 = .ok (.istore 4, 2) := zdt v_Rock_findBlock_0 5 (q := (5, .istore 4, 2)) rfl
theorem d_Rock_findBlock_7 : decode prog_6_method_17_code 7 = .ok (.iconst 0, 1) := zdt v_Rock_findBlock_0 6 (q := (7, .iconst 0, 1)) rfl
theorem d_Rock_findBlock_8 : decode prog_6_method_17_code 8 = .ok (.istore 5, 2) := zdt v_Rock_findBlock_0 7 (q := (8, .istore 5, 2)) rfl
theorem d_Rock_findBlock_10 : decode prog_6_method_17_code 10 = .ok (.iconst 0, 1) := zdt v_Rock_findBlock_0 8 (q := (10, .iconst 0, 1)) rfl
theorem d_Rock_findBlock_11 : decode prog_6_method_17_code 11 = .ok (.istore 6, 2) := zdt v_Rock_findBlock_0 9 (q := (11, .istore 6, 2)) rfl
theorem d_Rock_findBlock_13 : decode prog_6_method_17_code 13 = .ok (.iconst 0, 1) := zdt v_Rock_findBlock_0 10 (q := (13, .iconst 0, 1)) rfl
theorem d_Rock_findBlock_14 : decode prog_6_method_17_code 14 = .ok (.istore 7, 2) := zdt v_Rock_findBlock_0 11 (q := (14, .istore 7, 2)) rfl
theorem d_Rock_findBlock_16 : decode prog_6_method_17_code 16 = .ok (.iload 7, 2) := zdt v_Rock_findBlock_0 12 (q := (16, .iload 7, 2)) rfl
theorem d_Rock_findBlock_18 : decode prog_6_method_17_code 18 = .ok (.aload_n 0, 1) := zdt v_Rock_findBlock_0 13 (q := (18, .aload_n 0, 1)) rfl
theorem d_Rock_findBlock_19 : decode prog_6_method_17_code 19 = .ok (.getfield 20, 3) := zdt v_Rock_findBlock_0 14 (q := (19, .getfield 20, 3)) rfl
theorem d_Rock_findBlock_22 : decode prog_6_method_17_code 22 = .ok (.getfield 100, 3) := zdt v_Rock_findBlock_0 15 (q := (22, .getfield 100, 3)) rfl
theorem d_Rock_findBlock_25 : decode prog_6_method_17_code 25 = .ok (.if_icmp .ge 95, 3) := zdt v_Rock_findBlock_0 16 (q := (25, .if_icmp .ge 95, 3)) rfl
theorem d_Rock_findBlock_28 : decode prog_6_method_17_code 28 = .ok (.aload_n 0, 1) := zdt v_Rock_findBlock_0 17 (q := (28, .aload_n 0, 1)) rfl
theorem d_Rock_findBlock_29 : decode prog_6_method_17_code 29 = .ok (.getfield 20, 3) := zdt v_Rock_findBlock_0 18 (q := (29, .getfield 20, 3)) rfl
theorem d_Rock_findBlock_32 : decode prog_6_method_17_code 32 = .ok (.iload 7, 2) := zdt v_Rock_findBlock_0 19 (q := (32, .iload 7, 2)) rfl
theorem d_Rock_findBlock_34 : decode prog_6_method_17_code 34 = .ok (.iload_n 1, 1) := zdt v_Rock_findBlock_0 20 (q := (34, .iload_n 1, 1)) rfl
theorem d_Rock_findBlock_35 : decode prog_6_method_17_code 35 = .ok (.sipush 1344, 3) := zdt v_Rock_findBlock_0 21 (q := (35, .sipush 1344, 3)) rfl
theorem d_Rock_findBlock_38 : decode prog_6_method_17_code 38 = .ok (.ior, 1) := zdt v_Rock_findBlock_0 22 (q := (38, .ior, 1)) rfl
theorem d_Rock_findBlock_39 : decode prog_6_method_17_code 39 = .ok (.invokevirtual 111, 3) := zdt v_Rock_findBlock_0 23 (q := (39, .invokevirtual 111, 3)) rfl
theorem d_Rock_findBlock_42 : decode prog_6_method_17_code 42 = .ok (.ifCond .eq 72, 3) := zdt v_Rock_findBlock_0 24 (q := (42, .ifCond .eq 72, 3)) rfl
theorem d_Rock_findBlock_45 : decode prog_6_method_17_code 45 = .ok (.aload_n 0, 1) := zdt v_Rock_findBlock_0 25 (q := (45, .aload_n 0, 1)) rfl
theorem d_Rock_findBlock_46 : decode prog_6_method_17_code 46 = .ok (.getfield 20, 3) := zdt v_Rock_findBlock_0 26 (q := (46, .getfield 20, 3)) rfl
theorem d_Rock_findBlock_49 : decode prog_6_method_17_code 49 = .ok (.getfield 176, 3) := zdt v_Rock_findBlock_0 27 (q := (49, .getfield 176, 3)) rfl
theorem d_Rock_findBlock_52 : decode prog_6_method_17_code 52 = .ok (.iload 7, 2) := zdt v_Rock_findBlock_0 28 (q := (52, .iload 7, 2)) rfl
theorem d_Rock_findBlock_54 : decode prog_6_method_17_code 54 = .ok (.iaload, 1) := zdt v_Rock_findBlock_0 29 (q := (54, .iaload, 1)) rfl
theorem d_Rock_findBlock_55 : decode prog_6_method_17_code 55 = .ok (.aload_n 0, 1) := zdt v_Rock_findBlock_0 30 (q := (55, .aload_n 0, 1)) rfl
theorem d_Rock_findBlock_56 : decode prog_6_method_17_code 56 = .ok (.getfield 20, 3) := zdt v_Rock_findBlock_0 31 (q := (56, .getfield 20, 3)) rfl
theorem d_Rock_findBlock_59 : decode prog_6_method_17_code 59 = .ok (.getfield 179, 3) := zdt v_Rock_findBlock_0 32 (q := (59, .getfield 179, 3)) rfl
theorem d_Rock_findBlock_62 : decode prog_6_method_17_code 62 = .ok (.iload 7, 2) := zdt v_Rock_findBlock_0 33 (q := (62, .iload 7, 2)) rfl
theorem d_Rock_findBlock_64 : decode prog_6_method_17_code 64 = .ok (.iaload, 1) := zdt v_Rock_findBlock_0 34 (q := (64, .iaload, 1)) rfl
theorem d_Rock_findBlock_65 : decode prog_6_method_17_code 65 = .ok (.ior, 1) := zdt v_Rock_findBlock_0 35 (q := (65, .ior, 1)) rfl
theorem d_Rock_findBlock_66 : decode prog_6_method_17_code 66 = .ok (.istore 8, 2) := zdt v_Rock_findBlock_0 36 (q := (66, .istore 8, 2)) rfl
theorem d_Rock_findBlock_68 : decode prog_6_method_17_code 68 = .ok (.aload_n 0, 1) := zdt v_Rock_findBlock_0 37 (q := (68, .aload_n 0, 1)) rfl
theorem d_Rock_findBlock_69 : decode prog_6_method_17_code 69 = .ok (.getfield 63, 3) := zdt v_Rock_findBlock_0 38 (q := (69, .getfield 63, 3)) rfl
theorem d_Rock_findBlock_72 : decode prog_6_method_17_code 72 = .ok (.iload 8, 2) := zdt v_Rock_findBlock_0 39 (q := (72, .iload 8, 2)) rfl
def u_Rock_findBlock_1 : List (Nat × Instr × Nat) := [(74, .iconst (-1), 1), (75, .ixor, 1), (76, .iand, 1), (77, .istore 9, 2), (79, .iinc 2 1, 3), (82, .iload_n 3, 1), (83, .iload 8, 2), (85, .ior, 1), (86, .istore_n 3, 1), (87, .iload 6, 2), (89, .iload 5, 2), (91, .iload 9, 2), (93, .iand, 1), (94, .ior, 1), (95, .istore 6, 2), (97, .iload 5, 2), (99, .iload 4, 2), (101, .iload 9, 2), (103, .iand, 1), (104, .ior, 1), (105, .istore 5, 2), (107, .iload 4, 2), (109, .iload 9, 2), (111, .ior, 1), (112, .istore 4, 2), (114, .iinc 7 1, 3), (117, .goto (-101), 3), (120, .iload_n 3, 1), (121, .aload_n 0, 1), (122, .getfield 63, 3), (125, .if_icmp .ne 11, 3), (128, .aload_n 0, 1), (129, .iload_n 1, 1), (130, .iload 6, 2), (132, .iload_n 2, 1), (133, .invokevirtual 182, 3), (136, .return_, 1)]
theorem v_Rock_findBlock_1 : u_Rock_findBlock_1.all (zdq prog_6_method_17_code) = true := by decide +kernel
theorem d_Rock_findBlock_74 : decode prog_6_method_17_code 74 = .ok (.iconst (-1), 1) := zdt v_Rock_findBlock_1 0 (q := (74, .iconst (-1), 1)) rfl
theorem d_Rock_findBlock_75 : decode prog_6_method_17_code 75 = .ok (.ixor, 1) := zdt v_Rock_findBlock_1 1 (q := (75, .ixor, 1)) rfl
theorem d_Rock_findBlock_76 : decode prog_6_method_17_code 76 = .ok (.iand, 1) := zdt v_Rock_findBlock_1 2 (q := (76, .iand, 1)) rfl
theorem d_Rock_findBlock_77 : decode prog_6_method_17_code 77 = .ok (.istore 9, 2) := zdt v_Rock_findBlock_1 3 (q := (77, .istore 9, 2)) rfl
theorem d_Rock_findBlock_79 : decode prog_6_method_17_code 79 = .ok (.iinc 2 1, 3) := zdt v_Rock_findBlock_1 4 (q := (79, .iinc 2 1, 3)) rfl
theorem d_Rock_findBlock_82 : decode prog_6_method_17_code 82 = .ok (.iload_n 3, 1) := zdt v_Rock_findBlock_1 5 (q := (82, .iload_n 3, 1)) rfl
theorem d_Rock_findBlock_83 : decode prog_6_method_17_code 83 = .ok (.iload 8, 2) := zdt v_Rock_findBlock_1 6 (q := (83, .iload 8, 2)) rfl
theorem d_Rock_findBlock_85 : decode prog_6_method_17_code 85 = .ok (.ior, 1) := zdt v_Rock_findBlock_1 7 (q := (85, .ior, 1)) rfl
theorem d_Rock_findBlock_86 : decode prog_6_method_17_code 86 = .ok (.istore_n 3, 1) := zdt v_Rock_findBlock_1 8 (q := (86, .istore_n 3, 1)) rfl
theorem d_Rock_findBlock_87 : decode prog_6_method_17_code 87 = .ok (.iload 6, 2) := zdt v_Rock_findBlock_1 9 (q := (87, .iload 6, 2)) rfl
theorem d_Rock_findBlock_89 : decode prog_6_method_17_code 89 = .ok (.iload 5, 2) := zdt v_Rock_findBlock_1 10 (q := (89, .iload 5, 2)) rfl
theorem d_Rock_findBlock_91 : decode prog_6_method_17_code 91 = .ok (.iload 9, 2) := zdt v_Rock_findBlock_1 11 (q := (91, .iload 9, 2)) rfl
theorem d_Rock_findBlock_93 : decode prog_6_method_17_code 93 = .ok (.iand, 1) := zdt v_Rock_findBlock_1 12 (q := (93, .iand, 1)) rfl
theorem d_Rock_findBlock_94 : decode prog_6_method_17_code 94 = .ok (.ior, 1) := zdt v_Rock_findBlock_1 13 (q := (94, .ior, 1)) rfl
theorem d_Rock_findBlock_95 : decode prog_6_method_17_code 95 = .ok (.istore 6, 2) := zdt v_Rock_findBlock_1 14 (q := (95, .istore 6, 2)) rfl
theorem d_Rock_findBlock_97 : decode prog_6_method_17_code 97 = .ok (.iload 5, 2) := zdt v_Rock_findBlock_1 15 (q := (97, .iload 5, 2)) rfl
theorem d_Rock_findBlock_99 : decode prog_6_method_17_code 99 = .ok (.iload 4, 2) := zdt v_Rock_findBlock_1 16 (q := (99, .iload 4, 2)) rfl
theorem d_Rock_findBlock_101 : decode prog_6_method_17_code 101 = .ok (.iload 9, 2) := zdt v_Rock_findBlock_1 17 (q := (101, .iload 9, 2)) rfl
theorem d_Rock_findBlock_103 : decode prog_6_method_17_code 103 = .ok (.iand, 1) := zdt v_Rock_findBlock_1 18 (q := (103, .iand, 1)) rfl
theorem d_Rock_findBlock_104 : decode prog_6_method_17_code 104 = .ok (.ior, 1) := zdt v_Rock_findBlock_1 19 (q := (104, .ior, 1)) rfl
theorem d_Rock_findBlock_105 : decode prog_6_method_17_code 105 = .ok (.istore 5, 2) := zdt v_Rock_findBlock_1 20 (q := (105, .istore 5, 2)) rfl
theorem d_Rock_findBlock_107 : decode prog_6_method_17_code 107 = .ok (.iload 4, 2) := zdt v_Rock_findBlock_1 21 (q := (107, .iload 4, 2)) rfl
theorem d_Rock_findBlock_109 : decode prog_6_method_17_code 109 = .ok (.iload 9, 2) := zdt v_Rock_findBlock_1 22 (q := (109, .iload 9, 2)) rfl
theorem d_Rock_findBlock_111 : decode prog_6_method_17_code 111 = .ok (.ior, 1) := zdt v_Rock_findBlock_1 23 (q := (111, .ior, 1)) rfl
theorem d_Rock_findBlock_112 : decode prog_6_method_17_code 112 = .ok (.istore 4, 2) := zdt v_Rock_findBlock_1 24 (q := (112, .istore 4, 2)) rfl
theorem d_Rock_findBlock_114 : decode prog_6_method_17_code 114 = .ok (.iinc 7 1, 3) := zdt v_Rock_findBlock_1 25 (q := (114, .iinc 7 1, 3)) rfl
theorem d_Rock_findBlock_117 : decode prog_6_method_17_code 117 = .ok (.goto (-101), 3) := zdt v_Rock_findBlock_1 26 (q := (117, .goto (-101), 3)) rfl
theorem d_Rock_findBlock_120 : decode prog_6_method_17_code 120 = .ok (.iload_n 3, 1) := zdt v_Rock_findBlock_1 27 (q := (120, .iload_n 3, 1)) rfl
theorem d_Rock_findBlock_121 : decode prog_6_method_17_code 121 = .ok (.aload_n 0, 1) := zdt v_Rock_findBlock_1 28 (q := (121, .aload_n 0, 1)) rfl
theorem d_Rock_findBlock_122 : decode prog_6_method_17_code 122 = .ok (.getfield 63, 3) := zdt v_Rock_findBlock_1 29 (q := (122, .getfield 63, 3)) rfl
theorem d_Rock_findBlock_125 : decode prog_6_method_17_code 125 = .ok (.if_icmp .ne 11, 3) := zdt v_Rock_findBlock_1 30 (q := (125, .if_icmp .ne 11, 3)) rfl
theorem d_Rock_findBlock_128 : decode prog_6_method_17_code 128 = .ok (.aload_n 0, 1) := zdt v_Rock_findBlock_1 31 (q := (128, .aload_n 0, 1)) rfl
theorem d_Rock_findBlock_129 : decode prog_6_method_17_code 129 = .ok (.iload_n 1, 1) := zdt v_Rock_findBlock_1 32 (q := (129, .iload_n 1, 1)) rfl
theorem d_Rock_findBlock_130 : decode prog_6_method_17_code 130 = .ok (.iload 6, 2) := zdt v_Rock_findBlock_1 33 (q := (130, .iload 6, 2)) rfl
theorem d_Rock_findBlock_132 : decode prog_6_method_17_code 132 = .ok (.iload_n 2, 1) := zdt v_Rock_findBlock_1 34 (q := (132, .iload_n 2, 1)) rfl
theorem d_Rock_findBlock_133 : decode prog_6_method_17_code 133 = .ok (.invokevirtual 182, 3) := zdt v_Rock_findBlock_1 35 (q := (133, .invokevirtual 182, 3)) rfl
theorem d_Rock_findBlock_136 : decode prog_6_method_17_code 136 = .ok (.return_, 1) := zdt v_Rock_findBlock_1 36 (q := (136, .return_, 1)) rfl
def u_Points_touches_0 : List (Nat × Instr × Nat) := [(0, .aload_n 0, 1), (1, .getfield 22, 3), (4, .iload_n 1, 1), (5, .iaload, 1), (6, .iload_n 2, 1), (7, .iconst (-1), 1), (8, .ixor, 1), (9, .iand, 1), (10, .ifCond .ne 18, 3), (13, .aload_n 0, 1), (14, .getfield 25, 3), (17, .iload_n 1, 1), (18, .iaload, 1), (19, .iload_n 2, 1), (20, .iand, 1), (21, .ifCond .ne 7, 3), (24, .iconst 1, 1), (25, .goto 4, 3), (28, .iconst 0, 1), (29, .ireturn, 1)]
theorem v_Points_touches_0 : u_Points_touches_0.all (zdq prog_5_method_6_code) = true := by decide +kernel
theorem d_Points_touches_0 : decode prog_5_method_6_code 0 = .ok (.aload_n 0, 1) := zdt v_Points_touches_0 0 (q := (0, .aload_n 0, 1)) rfl
theorem d_Points_touches_1 : decode prog_5_method_6_code 1 = .ok (.getfield 22, 3) := zdt v_Points_touches_0 1 (q := (1, .getfield 22, 3)) rfl
theorem d_Points_touches_4 : decode prog_5_method_6_code 4 = .ok (.iload_n 1, 1) := zdt v_Points_touches_0 2 (q := (4, .iload_n 1, 1)) rfl
theorem d_Points_touches_5 : decode prog_5_method_6_code 5 = .ok (.iaload, 1) := zdt v_Points_touches_0 3 (q := (5, .iaload, 1)) rfl
theorem d_Points_touches_6 : decode prog_5_method_6_code 6 = .ok (.iload_n 2, 1) := zdt v_Points_touches_0 4 (q := (6, .iload_n 2, 1)) rfl
theorem d_Points_touches_7 : decode prog_5_method_6_code 7 = .ok (.iconst (-1), 1) := zdt v_Points_touches_0 5 (q := (7, .iconst (-1), 1)) rfl
theorem d_Points_touches_8 : decode prog_5_method_6_code 8 = .ok (.ixor, 1) := zdt v_Points_touches_0 6 (q := (8, .ixor, 1)) rfl
theorem d_Points_touches_9 : decode prog_5_method_6_code 9 = .ok (.iand, 1) := zdt v_Points_touches_0 7 (q := (9, .iand, 1)) rfl
theorem d_Points_touches_10 : decode prog_5_method_6_code 10 = .ok (.ifCond .ne 18, 3) := zdt v_Points_touches_0 8 (q := (10, .ifCond .ne 18, 3)) rfl
theorem d_Points_touches_13 : decode prog_5_method_6_code 13 = .ok (.aload_n 0, 1) := zdt v_Points_touches_0 9 (q := (13, .aload_n 0, 1)) rfl
theorem d_Points_touches_14 : decode prog_5_method_6_code 14 = .ok (.getfield 25, 3) := zdt v_Points_touches_0 10 (q := (14, .getfield 25, 3)) rfl
theorem d_Points_touches_17 : decode prog_5_method_6_code 17 = .ok (.iload_n 1, 1) := zdt v_Points_touches_0 11 (q := (17, .iload_n 1, 1)) rfl
theorem d_Points_touches_18 : decode prog_5_method_6_code 18 = .ok (.iaload, 1) := zdt v_Points_touches_0 12 (q := (18, .iaload, 1)) rfl
theorem d_Points_touches_19 : decode prog_5_method_6_code 19 = .ok (.iload_n 2, 1) := zdt v_Points_touches_0 13 (q := (19, .iload_n 2, 1)) rfl
theorem d_Points_touches_20 : decode prog_5_method_6_code 20 = .ok (.iand, 1) := zdt v_Points_touches_0 14 (q := (20, .iand, 1)) rfl
theorem d_Points_touches_21 : decode prog_5_method_6_code 21 = .ok (.ifCond .ne 7, 3) := zdt v_Points_touches_0 15 (q := (21, .ifCond .ne 7, 3)) rfl
theorem d_Points_touches_24 : decode prog_5_method_6_code 24 = .ok (.iconst 1, 1) := zdt v_Points_touches_0 16 (q := (24, .iconst 1, 1)) rfl
theorem d_Points_touches_25 : decode prog_5_method_6_code 25 = .ok (.goto 4, 3) := zdt v_Points_touches_0 17 (q := (25, .goto 4, 3)) rfl
theorem d_Points_touches_28 : decode prog_5_method_6_code 28 = .ok (.iconst 0, 1) := zdt v_Points_touches_0 18 (q := (28, .iconst 0, 1)) rfl
theorem d_Points_touches_29 : decode prog_5_method_6_code 29 = .ok (.ireturn, 1) := zdt v_Points_touches_0 19 (q := (29, .ireturn, 1)) rfl
def u_Rock_addBlock_0 : List (Nat × Instr × Nat) := [(0, .aload_n 0, 1), (1, .getfield 41, 3), (4, .bipush 64, 2), (6, .if_icmp .ge 53, 3), (9, .aload_n 0, 1), (10, .getfield 24, 3), (13, .aload_n 0, 1), (14, .getfield 41, 3), (17, .iload_n 1, 1), (18, .iastore, 1), (19, .aload_n 0, 1), (20, .getfield 28, 3), (23, .aload_n 0, 1), (24, .getfield 41, 3), (27, .iload_n 2, 1), (28, .iastore, 1), (29, .aload_n 0, 1), (30, .getfield 31, 3), (33, .aload_n 0, 1), (34, .getfield 41, 3), (37, .iload_n 3, 1), (38, .iastore, 1), (39, .aload_n 0, 1), (40, .getfield 34, 3), (43, .iload_n 1, 1), (44, .aload_n 0, 1), (45, .getfield 41, 3), (48, .iastore, 1), (49, .aload_n 0, 1), (50, .dup, 1), (51, .getfield 41, 3), (54, .iconst 1, 1), (55, .iadd, 1), (56, .putfield 41, 3), (59, .return_, 1)]
theorem v_Rock_addBlock_0 : u_Rock_addBlock_0.all (zdq prog_6_method_18_code) = true := by decide +kernel
theorem d_Rock_addBlock_0 : decode prog_6_method_18_code 0 = .ok (.aload_n 0, 1) := zdt v_Rock_addBlock_0 0 (q := (0, .aload_n 0, 1)) rfl
theorem d_Rock_addBlock_1 : decode prog_6_method_18_code 1 = .ok (.getfield 41, 3) := zdt v_Rock_addBlock_0 1 (q := (1, .getfield 41, 3)) rfl
theorem d_Rock_addBlock_4 : decode prog_6_method_18_code 4 = .ok (.bipush 64, 2) := zdt v_Rock_addBlock_0 2 (q := (4, .bipush 64, 2)) rfl
theorem d_Rock_addBlock_6 : decode prog_6_method_18_code 6 = .ok (.if_icmp .ge 53, 3) := zdt v_Rock_addBlock_0 3 (q := (6, .if_icmp .ge 53, 3)) rfl
theorem d_Rock_addBlock_9 : decode prog_6_method_18_code 9 = .ok (.aload_n 0, 1) := zdt v_Rock_addBlock_0 4 (q := (9, .aload_n 0, 1)) rfl
theorem d_Rock_addBlock_10 : decode prog_6_method_18_code 10 = .ok (.getfield 24, 3) := zdt v_Rock_addBlock_0 5 (q := (10, .getfield 24, 3)) rfl
theorem d_Rock_addBlock_13 : decode prog_6_method_18_code 13 = .ok (.aload_n 0, 1) := zdt v_Rock_addBlock_0 6 (q := (13, .aload_n 0, 1)) rfl
theorem d_Rock_addBlock_14 : decode prog_6_method_18_code 14 = .ok (.getfield 41, 3) := zdt v_Rock_addBlock_0 7 (q := (14, .getfield 41, 3)) rfl
theorem d_Rock_addBlock_17 : decode prog_6_method_18_code 17 = .ok (.iload_n 1, 1) := zdt v_Rock_addBlock_0 8 (q := (17, .iload_n 1, 1)) rfl
theorem d_Rock_addBlock_18 : decode prog_6_method_18_code 18 = .ok (.iastore, 1) := zdt v_Rock_addBlock_0 9 (q := (18, .iastore, 1)) rfl
theorem d_Rock_addBlock_19 : decode prog_6_method_18_code 19 = .ok (.aload_n 0, 1) := zdt v_Rock_addBlock_0 10 (q := (19, .aload_n 0, 1)) rfl
theorem d_Rock_addBlock_20 : decode prog_6_method_18_code 20 = .ok (.getfield 28, 3) := zdt v_Rock_addBlock_0 11 (q := (20, .getfield 28, 3)) rfl
theorem d_Rock_addBlock_23 : decode prog_6_method_18_code 23 = .ok (.aload_n 0, 1) := zdt v_Rock_addBlock_0 12 (q := (23, .aload_n 0, 1)) rfl
theorem d_Rock_addBlock_24 : decode prog_6_method_18_code 24 = .ok (.getfield 41, 3) := zdt v_Rock_addBlock_0 13 (q := (24, .getfield 41, 3)) rfl
theorem d_Rock_addBlock_27 : decode prog_6_method_18_code 27 = .ok (.iload_n 2, 1) := zdt v_Rock_addBlock_0 14 (q := (27, .iload_n 2, 1)) rfl
theorem d_Rock_addBlock_28 : decode prog_6_method_18_code 28 = .ok (.iastore, 1) := zdt v_Rock_addBlock_0 15 (q := (28, .iastore, 1)) rfl
theorem d_Rock_addBlock_29 : decode prog_6_method_18_code 29 = .ok (.aload_n 0, 1) := zdt v_Rock_addBlock_0 16 (q := (29, .aload_n 0, 1)) rfl
theorem d_Rock_addBlock_30 : decode prog_6_method_18_code 30 = .ok (.getfield 31, 3) := zdt v_Rock_addBlock_0 17 (q := (30, .getfield 31, 3)) rfl
theorem d_Rock_addBlock_33 : decode prog_6_method_18_code 33 = .ok (.aload_n 0, 1) := zdt v_Rock_addBlock_0 18 (q := (33, .aload_n 0, 1)) rfl
theorem d_Rock_addBlock_34 : decode prog_6_method_18_code 34 = .ok (.getfield 41, 3) := zdt v_Rock_addBlock_0 19 (q := (34, .getfield 41, 3)) rfl
theorem d_Rock_addBlock_37 : decode prog_6_method_18_code 37 = .ok (.iload_n 3, 1) := zdt v_Rock_addBlock_0 20 (q := (37, .iload_n 3, 1)) rfl
theorem d_Rock_addBlock_38 : decode prog_6_method_18_code 38 = .ok (.iastore, 1) := zdt v_Rock_addBlock_0 21 (q := (38, .iastore, 1)) rfl
theorem d_Rock_addBlock_39 : decode prog_6_method_18_code 39 = .ok (.aload_n 0, 1) := zdt v_Rock_addBlock_0 22 (q := (39, .aload_n 0, 1)) rfl
theorem d_Rock_addBlock_40 : decode prog_6_method_18_code 40 = .ok (.getfield 34, 3) := zdt v_Rock_addBlock_0 23 (q := (40, .getfield 34, 3)) rfl
theorem d_Rock_addBlock_43 : decode prog_6_method_18_code 43 = .ok (.iload_n 1, 1) := zdt v_Rock_addBlock_0 24 (q := (43, .iload_n 1, 1)) rfl
theorem d_Rock_addBlock_44 : decode prog_6_method_18_code 44 = .ok (.aload_n 0, 1) := zdt v_Rock_addBlock_0 25 (q := (44, .aload_n 0, 1)) rfl
theorem d_Rock_addBlock_45 : decode prog_6_method_18_code 45 = .ok (.getfield 41, 3) := zdt v_Rock_addBlock_0 26 (q := (45, .getfield 41, 3)) rfl
theorem d_Rock_addBlock_48 : decode prog_6_method_18_code 48 = .ok (.iastore, 1) := zdt v_Rock_addBlock_0 27 (q := (48, .iastore, 1)) rfl
theorem d_Rock_addBlock_49 : decode prog_6_method_18_code 49 = .ok (.aload_n 0, 1) := zdt v_Rock_addBlock_0 28 (q := (49, .aload_n 0, 1)) rfl
theorem d_Rock_addBlock_50 : decode prog_6_method_18_code 50 = .ok (.dup, 1) := zdt v_Rock_addBlock_0 29 (q := (50, .dup, 1)) rfl
theorem d_Rock_addBlock_51 : decode prog_6_method_18_code 51 = .ok (.getfield 41, 3) := zdt v_Rock_addBlock_0 30 (q := (51, .getfield 41, 3)) rfl
theorem d_Rock_addBlock_54 : decode prog_6_method_18_code 54 = .ok (.iconst 1, 1) := zdt v_Rock_addBlock_0 31 (q := (54, .iconst 1, 1)) rfl
theorem d_Rock_addBlock_55 : decode prog_6_method_18_code 55 = .ok (.iadd, 1) := zdt v_Rock_addBlock_0 32 (q := (55, .iadd, 1)) rfl
theorem d_Rock_addBlock_56 : decode prog_6_method_18_code 56 = .ok (.putfield 41, 3) := zdt v_Rock_addBlock_0 33 (q := (56, .putfield 41, 3)) rfl
theorem d_Rock_addBlock_59 : decode prog_6_method_18_code 59 = .ok (.return_, 1) := zdt v_Rock_addBlock_0 34 (q := (59, .return_, 1)) rfl
def u_Rock_dropJoint_0 : List (Nat × Instr × Nat) := [(0, .aload_n 0, 1), (1, .getfield 37, 3), (4, .ifCond .le 54, 3), (7, .aload_n 0, 1), (8, .dup, 1), (9, .getfield 37, 3), (12, .iconst 1, 1), (13, .isub, 1), (14, .putfield 37, 3), (17, .aload_n 0, 1), (18, .dup, 1), (19, .getfield 63, 3), (22, .iconst 1, 1), (23, .aload_n 0, 1), (24, .getfield 37, 3), (27, .ishl, 1), (28, .iconst (-1), 1), (29, .ixor, 1), (30, .iand, 1), (31, .putfield 63, 3), (34, .aload_n 0, 1), (35, .getfield 20, 3), (38, .aload_n 0, 1), (39, .getfield 37, 3), (42, .aload_n 0, 1), (43, .getfield 44, 3), (46, .aload_n 0, 1), (47, .getfield 37, 3), (50, .iaload, 1), (51, .invokevirtual 103, 3), (54, .aload_n 0, 1), (55, .invokevirtual 84, 3), (58, .return_, 1)]
theorem v_Rock_dropJoint_0 : u_Rock_dropJoint_0.all (zdq prog_6_method_5_code) = true := by decide +kernel
theorem d_Rock_dropJoint_0 : decode prog_6_method_5_code 0 = .ok (.aload_n 0, 1) := zdt v_Rock_dropJoint_0 0 (q := (0, .aload_n 0, 1)) rfl
theorem d_Rock_dropJoint_1 : decode prog_6_method_5_code 1 = .ok (.getfield 37, 3) := zdt v_Rock_dropJoint_0 1 (q := (1, .getfield 37, 3)) rfl
theorem d_Rock_dropJoint_4 : decode prog_6_method_5_code 4 = .ok (.ifCond .le 54, 3) := zdt v_Rock_dropJoint_0 2 (q := (4, .ifCond .le 54, 3)) rfl
theorem d_Rock_dropJoint_7 : decode prog_6_method_5_code 7 = .ok (.aload_n 0, 1) := zdt v_Rock_dropJoint_0 3 (q := (7, .aload_n 0, 1)) rfl
theorem d_Rock_dropJoint_8 : decode prog_6_method_5_code 8 = .ok (.dup, 1) := zdt v_Rock_dropJoint_0 4 (q := (8, .dup, 1)) rfl
theorem d_Rock_dropJoint_9 : decode prog_6_method_5_code 9 = .ok (.getfield 37, 3) := zdt v_Rock_dropJoint_0 5 (q := (9, .getfield 37, 3)) rfl
theorem d_Rock_dropJoint_12 : decode prog_6_method_5_code 12 = .ok (.iconst 1, 1) := zdt v_Rock_dropJoint_0 6 (q := (12, .iconst 1, 1)) rfl
theorem d_Rock_dropJoint_13 : decode prog_6_method_5_code 13 = .ok (.isub, 1) := zdt v_Rock_dropJoint_0 7 (q := (13, .isub, 1)) rfl
theorem d_Rock_dropJoint_14 : decode prog_6_method_5_code 14 = .ok (.putfield 37, 3) := zdt v_Rock_dropJoint_0 8 (q := (14, .putfield 37, 3)) rfl
theorem d_Rock_dropJoint_17 : decode prog_6_method_5_code 17 = .ok (.aload_n 0, 1) := zdt v_Rock_dropJoint_0 9 (q := (17, .aload_n 0, 1)) rfl
theorem d_Rock_dropJoint_18 : decode prog_6_method_5_code 18 = .ok (.dup, 1) := zdt v_Rock_dropJoint_0 10 (q := (18, .dup, 1)) rfl
theorem d_Rock_dropJoint_19 : decode prog_6_method_5_code 19 = .ok (.getfield 63, 3) := zdt v_Rock_dropJoint_0 11 (q := (19, .getfield 63, 3)) rfl
theorem d_Rock_dropJoint_22 : decode prog_6_method_5_code 22 = .ok (.iconst 1, 1) := zdt v_Rock_dropJoint_0 12 (q := (22, .iconst 1, 1)) rfl
theorem d_Rock_dropJoint_23 : decode prog_6_method_5_code 23 = .ok (.aload_n 0, 1) := zdt v_Rock_dropJoint_0 13 (q := (23, .aload_n 0, 1)) rfl
theorem d_Rock_dropJoint_24 : decode prog_6_method_5_code 24 = .ok (.getfield 37, 3) := zdt v_Rock_dropJoint_0 14 (q := (24, .getfield 37, 3)) rfl
theorem d_Rock_dropJoint_27 : decode prog_6_method_5_code 27 = .ok (.ishl, 1) := zdt v_Rock_dropJoint_0 15 (q := (27, .ishl, 1)) rfl
theorem d_Rock_dropJoint_28 : decode prog_6_method_5_code 28 = .ok (.iconst (-1), 1) := zdt v_Rock_dropJoint_0 16 (q := (28, .iconst (-1), 1)) rfl
theorem d_Rock_dropJoint_29 : decode prog_6_method_5_code 29 = .ok (.ixor, 1) := zdt v_Rock_dropJoint_0 17 (q := (29, .ixor, 1)) rfl
theorem d_Rock_dropJoint_30 : decode prog_6_method_5_code 30 = .ok (.iand, 1) := zdt v_Rock_dropJoint_0 18 (q := (30, .iand, 1)) rfl
theorem d_Rock_dropJoint_31 : decode prog_6_method_5_code 31 = .ok (.putfield 63, 3) := zdt v_Rock_dropJoint_0 19 (q := (31, .putfield 63, 3)) rfl
theorem d_Rock_dropJoint_34 : decode prog_6_method_5_code 34 = .ok (.aload_n 0, 1) := zdt v_Rock_dropJoint_0 20 (q := (34, .aload_n 0, 1)) rfl
theorem d_Rock_dropJoint_35 : decode prog_6_method_5_code 35 = .ok (.getfield 20, 3) := zdt v_Rock_dropJoint_0 21 (q := (35, .getfield 20, 3)) rfl
theorem d_Rock_dropJoint_38 : decode prog_6_method_5_code 38 = .ok (.aload_n 0, 1) := zdt v_Rock_dropJoint_0 22 (q := (38, .aload_n 0, 1)) rfl
theorem d_Rock_dropJoint_39 : decode prog_6_method_5_code 39 = .ok (.getfield 37, 3) := zdt v_Rock_dropJoint_0 23 (q := (39, .getfield 37, 3)) rfl
theorem d_Rock_dropJoint_42 : decode prog_6_method_5_code 42 = .ok (.aload_n 0, 1) := zdt v_Rock_dropJoint_0 24 (q := (42, .aload_n 0, 1)) rfl
theorem d_Rock_dropJoint_43 : decode prog_6_method_5_code 43 = .ok (.getfield 44, 3) := zdt v_Rock_dropJoint_0 25 (q := (43, .getfield 44, 3)) rfl
theorem d_Rock_dropJoint_46 : decode prog_6_method_5_code 46 = .ok (.aload_n 0, 1) := zdt v_Rock_dropJoint_0 26 (q := (46, .aload_n 0, 1)) rfl
theorem d_Rock_dropJoint_47 : decode prog_6_method_5_code 47 = .ok (.getfield 37, 3) := zdt v_Rock_dropJoint_0 27 (q := (47, .getfield 37, 3)) rfl
theorem d_Rock_dropJoint_50 : decode prog_6_method_5_code 50 = .ok (.iaload, 1) := zdt v_Rock_dropJoint_0 28 (q := (50, .iaload, 1)) rfl
theorem d_Rock_dropJoint_51 : decode prog_6_method_5_code 51 = .ok (.invokevirtual 103, 3) := zdt v_Rock_dropJoint_0 29 (q := (51, .invokevirtual 103, 3)) rfl
theorem d_Rock_dropJoint_54 : decode prog_6_method_5_code 54 = .ok (.aload_n 0, 1) := zdt v_Rock_dropJoint_0 30 (q := (54, .aload_n 0, 1)) rfl
theorem d_Rock_dropJoint_55 : decode prog_6_method_5_code 55 = .ok (.invokevirtual 84, 3) := zdt v_Rock_dropJoint_0 31 (q := (55, .invokevirtual 84, 3)) rfl
theorem d_Rock_dropJoint_58 : decode prog_6_method_5_code 58 = .ok (.return_, 1) := zdt v_Rock_dropJoint_0 32 (q := (58, .return_, 1)) rfl
def u_Points_dropFace_0 : List (Nat × Instr × Nat) := [(0, .aload_n 0, 1), (1, .iload_n 2, 1), (2, .putfield 28, 3), (5, .iconst 0, 1), (6, .istore_n 3, 1), (7, .iload_n 3, 1), (8, .aload_n 0, 1), (9, .getfield 28, 3), (12, .if_icmp .ge 37, 3), (15, .aload_n 0, 1), (16, .getfield 22, 3), (19, .iload_n 3, 1), (20, .dup2, 1), (21, .iaload, 1), (22, .iconst 1, 1), (23, .iload_n 1, 1), (24, .ishl, 1), (25, .iconst (-1), 1), (26, .ixor, 1), (27, .iand, 1), (28, .iastore, 1), (29, .aload_n 0, 1), (30, .getfield 25, 3), (33, .iload_n 3, 1), (34, .dup2, 1), (35, .iaload, 1), (36, .iconst 1, 1), (37, .iload_n 1, 1), (38, .ishl, 1), (39, .iconst (-1), 1), (40, .ixor, 1), (41, .iand, 1), (42, .iastore, 1), (43, .iinc 3 1, 3), (46, .goto (-39), 3), (49, .return_, 1)]
theorem v_Points_dropFace_0 : u_Points_dropFace_0.all (zdq prog_5_method_5_code) = true := by decide +kernel
theorem d_Points_dropFace_0 : decode prog_5_method_5_code 0 = .ok (.aload_n 0, 1) := zdt v_Points_dropFace_0 0 (q := (0, .aload_n 0, 1)) rfl
theorem d_Points_dropFace_1 : decode prog_5_method_5_code 1 = .ok (.iload_n 2, 1) := zdt v_Points_dropFace_0 1 (q := (1, .iload_n 2, 1)) rfl
theorem d_Points_dropFace_2 : decode prog_5_method_5_code 2 = .ok (.putfield 28, 3) := zdt v_Points_dropFace_0 2 (q := (2, .putfield 28, 3)) rfl
theorem d_Points_dropFace_5 : decode prog_5_method_5_code 5 = .ok (.iconst 0, 1) := zdt v_Points_dropFace_0 3 (q := (5, .iconst 0, 1)) rfl
theorem d_Points_dropFace_6 : decode prog_5_method_5_code 6 = .ok (.istore_n 3, 1) := zdt v_Points_dropFace_0 4 (q := (6, .istore_n 3, 1)) rfl
theorem d_Points_dropFace_7 : decode prog_5_method_5_code 7 = .ok (.iload_n 3, 1) := zdt v_Points_dropFace_0 5 (q := (7, .iload_n 3, 1)) rfl
theorem d_Points_dropFace_8 : decode prog_5_method_5_code 8 = .ok (.aload_n 0, 1) := zdt v_Points_dropFace_0 6 (q := (8, .aload_n 0, 1)) rfl
theorem d_Points_dropFace_9 : decode prog_5_method_5_code 9 = .ok (.getfield 28, 3) := zdt v_Points_dropFace_0 7 (q := (9, .getfield 28, 3)) rfl
theorem d_Points_dropFace_12 : decode prog_5_method_5_code 12 = .ok (.if_icmp .ge 37, 3) := zdt v_Points_dropFace_0 8 (q := (12, .if_icmp .ge 37, 3)) rfl
theorem d_Points_dropFace_15 : decode prog_5_method_5_code 15 = .ok (.aload_n 0, 1) := zdt v_Points_dropFace_0 9 (q := (15, .aload_n 0, 1)) rfl
theorem d_Points_dropFace_16 : decode prog_5_method_5_code 16 = .ok (.getfield 22, 3) := zdt v_Points_dropFace_0 10 (q := (16, .getfield 22, 3)) rfl
theorem d_Points_dropFace_19 : decode prog_5_method_5_code 19 = .ok (.iload_n 3, 1) := zdt v_Points_dropFace_0 11 (q := (19, .iload_n 3, 1)) rfl
theorem d_Points_dropFace_20 : decode prog_5_method_5_code 20 = .ok (.dup2, 1) := zdt v_Points_dropFace_0 12 (q := (20, .dup2, 1)) rfl
theorem d_Points_dropFace_21 : decode prog_5_method_5_code 21 = .ok (.iaload, 1) := zdt v_Points_dropFace_0 13 (q := (21, .iaload, 1)) rfl
theorem d_Points_dropFace_22 : decode prog_5_method_5_code 22 = .ok (.iconst 1, 1) := zdt v_Points_dropFace_0 14 (q := (22, .iconst 1, 1)) rfl
theorem d_Points_dropFace_23 : decode prog_5_method_5_code 23 = .ok (.iload_n 1, 1) := zdt v_Points_dropFace_0 15 (q := (23, .iload_n 1, 1)) rfl
theorem d_Points_dropFace_24 : decode prog_5_method_5_code 24 = .ok (.ishl, 1) := zdt v_Points_dropFace_0 16 (q := (24, .ishl, 1)) rfl
theorem d_Points_dropFace_25 : decode prog_5_method_5_code 25 = .ok (.iconst (-1), 1) := zdt v_Points_dropFace_0 17 (q := (25, .iconst (-1), 1)) rfl
theorem d_Points_dropFace_26 : decode prog_5_method_5_code 26 = .ok (.ixor, 1) := zdt v_Points_dropFace_0 18 (q := (26, .ixor, 1)) rfl
theorem d_Points_dropFace_27 : decode prog_5_method_5_code 27 = .ok (.iand, 1) := zdt v_Points_dropFace_0 19 (q := (27, .iand, 1)) rfl
theorem d_Points_dropFace_28 : decode prog_5_method_5_code 28 = .ok (.iastore, 1) := zdt v_Points_dropFace_0 20 (q := (28, .iastore, 1)) rfl
theorem d_Points_dropFace_29 : decode prog_5_method_5_code 29 = .ok (.aload_n 0, 1) := zdt v_Points_dropFace_0 21 (q := (29, .aload_n 0, 1)) rfl
theorem d_Points_dropFace_30 : decode prog_5_method_5_code 30 = .ok (.getfield 25, 3) := zdt v_Points_dropFace_0 22 (q := (30, .getfield 25, 3)) rfl
theorem d_Points_dropFace_33 : decode prog_5_method_5_code 33 = .ok (.iload_n 3, 1) := zdt v_Points_dropFace_0 23 (q := (33, .iload_n 3, 1)) rfl
theorem d_Points_dropFace_34 : decode prog_5_method_5_code 34 = .ok (.dup2, 1) := zdt v_Points_dropFace_0 24 (q := (34, .dup2, 1)) rfl
theorem d_Points_dropFace_35 : decode prog_5_method_5_code 35 = .ok (.iaload, 1) := zdt v_Points_dropFace_0 25 (q := (35, .iaload, 1)) rfl
theorem d_Points_dropFace_36 : decode prog_5_method_5_code 36 = .ok (.iconst 1, 1) := zdt v_Points_dropFace_0 26 (q := (36, .iconst 1, 1)) rfl
theorem d_Points_dropFace_37 : decode prog_5_method_5_code 37 = .ok (.iload_n 1, 1) := zdt v_Points_dropFace_0 27 (q := (37, .iload_n 1, 1)) rfl
theorem d_Points_dropFace_38 : decode prog_5_method_5_code 38 = .ok (.ishl, 1) := zdt v_Points_dropFace_0 28 (q := (38, .ishl, 1)) rfl
theorem d_Points_dropFace_39 : decode prog_5_method_5_code 39 = .ok (.iconst (-1), 1) := zdt v_Points_dropFace_0 29 (q := (39, .iconst (-1), 1)) rfl
theorem d_Points_dropFace_40 : decode prog_5_method_5_code 40 = .ok (.ixor, 1) := zdt v_Points_dropFace_0 30 (q := (40, .ixor, 1)) rfl
theorem d_Points_dropFace_41 : decode prog_5_method_5_code 41 = .ok (.iand, 1) := zdt v_Points_dropFace_0 31 (q := (41, .iand, 1)) rfl
theorem d_Points_dropFace_42 : decode prog_5_method_5_code 42 = .ok (.iastore, 1) := zdt v_Points_dropFace_0 32 (q := (42, .iastore, 1)) rfl
theorem d_Points_dropFace_43 : decode prog_5_method_5_code 43 = .ok (.iinc 3 1, 3) := zdt v_Points_dropFace_0 33 (q := (43, .iinc 3 1, 3)) rfl
theorem d_Points_dropFace_46 : decode prog_5_method_5_code 46 = .ok (.goto (-39), 3) := zdt v_Points_dropFace_0 34 (q := (46, .goto (-39), 3)) rfl
theorem d_Points_dropFace_49 : decode prog_5_method_5_code 49 = .ok (.return_, 1) := zdt v_Points_dropFace_0 35 (q := (49, .return_, 1)) rfl
def u_Hold_clear_0 : List (Nat × Instr × Nat) := [(0, .aload_n 0, 1), (1, .iconst 0, 1), (2, .putfield 25, 3), (5, .return_, 1)]
theorem v_Hold_clear_0 : u_Hold_clear_0.all (zdq prog_3_method_2_code) = true := by decide +kernel
theorem d_Hold_clear_0 : decode prog_3_method_2_code 0 = .ok (.aload_n 0, 1) := zdt v_Hold_clear_0 0 (q := (0, .aload_n 0, 1)) rfl
theorem d_Hold_clear_1 : decode prog_3_method_2_code 1 = .ok (.iconst 0, 1) := zdt v_Hold_clear_0 1 (q := (1, .iconst 0, 1)) rfl
theorem d_Hold_clear_2 : decode prog_3_method_2_code 2 = .ok (.putfield 25, 3) := zdt v_Hold_clear_0 2 (q := (2, .putfield 25, 3)) rfl
theorem d_Hold_clear_5 : decode prog_3_method_2_code 5 = .ok (.return_, 1) := zdt v_Hold_clear_0 3 (q := (5, .return_, 1)) rfl
def u_Rock_neighbour_0 : List (Nat × Instr × Nat) := [(0, .aload_n 0, 1), (1, .getfield 28, 3), (4, .iload_n 1, 1), (5, .iaload, 1), (6, .iload_n 2, 1), (7, .invokestatic 107, 3), (10, .ifCond .eq 21, 3), (13, .aload_n 0, 1), (14, .getfield 34, 3), (17, .aload_n 0, 1), (18, .getfield 24, 3), (21, .iload_n 1, 1), (22, .iaload, 1), (23, .iconst 1, 1), (24, .iload_n 2, 1), (25, .ishl, 1), (26, .ixor, 1), (27, .iaload, 1), (28, .goto 4, 3), (31, .iconst (-1), 1), (32, .ireturn, 1)]
theorem v_Rock_neighbour_0 : u_Rock_neighbour_0.all (zdq prog_6_method_6_code) = true := by decide +kernel
theorem d_Rock_neighbour_0 : decode prog_6_method_6_code 0 = .ok (.aload_n 0, 1) := zdt v_Rock_neighbour_0 0 (q := (0, .aload_n 0, 1)) rfl
theorem d_Rock_neighbour_1 : decode prog_6_method_6_code 1 = .ok (.getfield 28, 3) := zdt v_Rock_neighbour_0 1 (q := (1, .getfield 28, 3)) rfl
theorem d_Rock_neighbour_4 : decode prog_6_method_6_code 4 = .ok (.iload_n 1, 1) := zdt v_Rock_neighbour_0 2 (q := (4, .iload_n 1, 1)) rfl
theorem d_Rock_neighbour_5 : decode prog_6_method_6_code 5 = .ok (.iaload, 1) := zdt v_Rock_neighbour_0 3 (q := (5, .iaload, 1)) rfl
theorem d_Rock_neighbour_6 : decode prog_6_method_6_code 6 = .ok (.iload_n 2, 1) := zdt v_Rock_neighbour_0 4 (q := (6, .iload_n 2, 1)) rfl
theorem d_Rock_neighbour_7 : decode prog_6_method_6_code 7 = .ok (.invokestatic 107, 3) := zdt v_Rock_neighbour_0 5 (q := (7, .invokestatic 107, 3)) rfl
theorem d_Rock_neighbour_10 : decode prog_6_method_6_code 10 = .ok (.ifCond .eq 21, 3) := zdt v_Rock_neighbour_0 6 (q := (10, .ifCond .eq 21, 3)) rfl
theorem d_Rock_neighbour_13 : decode prog_6_method_6_code 13 = .ok (.aload_n 0, 1) := zdt v_Rock_neighbour_0 7 (q := (13, .aload_n 0, 1)) rfl
theorem d_Rock_neighbour_14 : decode prog_6_method_6_code 14 = .ok (.getfield 34, 3) := zdt v_Rock_neighbour_0 8 (q := (14, .getfield 34, 3)) rfl
theorem d_Rock_neighbour_17 : decode prog_6_method_6_code 17 = .ok (.aload_n 0, 1) := zdt v_Rock_neighbour_0 9 (q := (17, .aload_n 0, 1)) rfl
theorem d_Rock_neighbour_18 : decode prog_6_method_6_code 18 = .ok (.getfield 24, 3) := zdt v_Rock_neighbour_0 10 (q := (18, .getfield 24, 3)) rfl
theorem d_Rock_neighbour_21 : decode prog_6_method_6_code 21 = .ok (.iload_n 1, 1) := zdt v_Rock_neighbour_0 11 (q := (21, .iload_n 1, 1)) rfl
theorem d_Rock_neighbour_22 : decode prog_6_method_6_code 22 = .ok (.iaload, 1) := zdt v_Rock_neighbour_0 12 (q := (22, .iaload, 1)) rfl
theorem d_Rock_neighbour_23 : decode prog_6_method_6_code 23 = .ok (.iconst 1, 1) := zdt v_Rock_neighbour_0 13 (q := (23, .iconst 1, 1)) rfl
theorem d_Rock_neighbour_24 : decode prog_6_method_6_code 24 = .ok (.iload_n 2, 1) := zdt v_Rock_neighbour_0 14 (q := (24, .iload_n 2, 1)) rfl
theorem d_Rock_neighbour_25 : decode prog_6_method_6_code 25 = .ok (.ishl, 1) := zdt v_Rock_neighbour_0 15 (q := (25, .ishl, 1)) rfl
theorem d_Rock_neighbour_26 : decode prog_6_method_6_code 26 = .ok (.ixor, 1) := zdt v_Rock_neighbour_0 16 (q := (26, .ixor, 1)) rfl
theorem d_Rock_neighbour_27 : decode prog_6_method_6_code 27 = .ok (.iaload, 1) := zdt v_Rock_neighbour_0 17 (q := (27, .iaload, 1)) rfl
theorem d_Rock_neighbour_28 : decode prog_6_method_6_code 28 = .ok (.goto 4, 3) := zdt v_Rock_neighbour_0 18 (q := (28, .goto 4, 3)) rfl
theorem d_Rock_neighbour_31 : decode prog_6_method_6_code 31 = .ok (.iconst (-1), 1) := zdt v_Rock_neighbour_0 19 (q := (31, .iconst (-1), 1)) rfl
theorem d_Rock_neighbour_32 : decode prog_6_method_6_code 32 = .ok (.ireturn, 1) := zdt v_Rock_neighbour_0 20 (q := (32, .ireturn, 1)) rfl
def u_Hold_add_0 : List (Nat × Instr × Nat) := [(0, .aload_n 0, 1), (1, .dup, 1), (2, .getfield 25, 3), (5, .iconst 1, 1), (6, .iload_n 1, 1), (7, .ishl, 1), (8, .ior, 1), (9, .putfield 25, 3), (12, .aload_n 0, 1), (13, .getfield 11, 3), (16, .iload_n 1, 1), (17, .aaload, 1), (18, .aload_n 2, 1), (19, .iload_n 3, 1), (20, .ifCond .eq 7, 3), (23, .iconst 1, 1), (24, .goto 4, 3), (27, .iconst (-1), 1), (28, .invokevirtual 29, 3), (31, .return_, 1)]
theorem v_Hold_add_0 : u_Hold_add_0.all (zdq prog_3_method_3_code) = true := by decide +kernel
theorem d_Hold_add_0 : decode prog_3_method_3_code 0 = .ok (.aload_n 0, 1) := zdt v_Hold_add_0 0 (q := (0, .aload_n 0, 1)) rfl
theorem d_Hold_add_1 : decode prog_3_method_3_code 1 = .ok (.dup, 1) := zdt v_Hold_add_0 1 (q := (1, .dup, 1)) rfl
theorem d_Hold_add_2 : decode prog_3_method_3_code 2 = .ok (.getfield 25, 3) := zdt v_Hold_add_0 2 (q := (2, .getfield 25, 3)) rfl
theorem d_Hold_add_5 : decode prog_3_method_3_code 5 = .ok (.iconst 1, 1) := zdt v_Hold_add_0 3 (q := (5, .iconst 1, 1)) rfl
theorem d_Hold_add_6 : decode prog_3_method_3_code 6 = .ok (.iload_n 1, 1) := zdt v_Hold_add_0 4 (q := (6, .iload_n 1, 1)) rfl
theorem d_Hold_add_7 : decode prog_3_method_3_code 7 = .ok (.ishl, 1) := zdt v_Hold_add_0 5 (q := (7, .ishl, 1)) rfl
theorem d_Hold_add_8 : decode prog_3_method_3_code 8 = .ok (.ior, 1) := zdt v_Hold_add_0 6 (q := (8, .ior, 1)) rfl
theorem d_Hold_add_9 : decode prog_3_method_3_code 9 = .ok (.putfield 25, 3) := zdt v_Hold_add_0 7 (q := (9, .putfield 25, 3)) rfl
theorem d_Hold_add_12 : decode prog_3_method_3_code 12 = .ok (.aload_n 0, 1) := zdt v_Hold_add_0 8 (q := (12, .aload_n 0, 1)) rfl
theorem d_Hold_add_13 : decode prog_3_method_3_code 13 = .ok (.getfield 11, 3) := zdt v_Hold_add_0 9 (q := (13, .getfield 11, 3)) rfl
theorem d_Hold_add_16 : decode prog_3_method_3_code 16 = .ok (.iload_n 1, 1) := zdt v_Hold_add_0 10 (q := (16, .iload_n 1, 1)) rfl
theorem d_Hold_add_17 : decode prog_3_method_3_code 17 = .ok (.aaload, 1) := zdt v_Hold_add_0 11 (q := (17, .aaload, 1)) rfl
theorem d_Hold_add_18 : decode prog_3_method_3_code 18 = .ok (.aload_n 2, 1) := zdt v_Hold_add_0 12 (q := (18, .aload_n 2, 1)) rfl
theorem d_Hold_add_19 : decode prog_3_method_3_code 19 = .ok (.iload_n 3, 1) := zdt v_Hold_add_0 13 (q := (19, .iload_n 3, 1)) rfl
theorem d_Hold_add_20 : decode prog_3_method_3_code 20 = .ok (.ifCond .eq 7, 3) := zdt v_Hold_add_0 14 (q := (20, .ifCond .eq 7, 3)) rfl
theorem d_Hold_add_23 : decode prog_3_method_3_code 23 = .ok (.iconst 1, 1) := zdt v_Hold_add_0 15 (q := (23, .iconst 1, 1)) rfl
theorem d_Hold_add_24 : decode prog_3_method_3_code 24 = .ok (.goto 4, 3) := zdt v_Hold_add_0 16 (q := (24, .goto 4, 3)) rfl
theorem d_Hold_add_27 : decode prog_3_method_3_code 27 = .ok (.iconst (-1), 1) := zdt v_Hold_add_0 17 (q := (27, .iconst (-1), 1)) rfl
theorem d_Hold_add_28 : decode prog_3_method_3_code 28 = .ok (.invokevirtual 29, 3) := zdt v_Hold_add_0 18 (q := (28, .invokevirtual 29, 3)) rfl
theorem d_Hold_add_31 : decode prog_3_method_3_code 31 = .ok (.return_, 1) := zdt v_Hold_add_0 19 (q := (31, .return_, 1)) rfl
def u_Arrow_setScaled_0 : List (Nat × Instr × Nat) := [(0, .aload_n 0, 1), (1, .aload_n 1, 1), (2, .getfield 7, 3), (5, .iload_n 2, 1), (6, .imul, 1), (7, .aload_n 1, 1), (8, .getfield 13, 3), (11, .iload_n 2, 1), (12, .imul, 1), (13, .aload_n 1, 1), (14, .getfield 16, 3), (17, .iload_n 2, 1), (18, .imul, 1), (19, .invokevirtual 19, 3), (22, .return_, 1)]
theorem v_Arrow_setScaled_0 : u_Arrow_setScaled_0.all (zdq prog_2_method_3_code) = true := by decide +kernel
theorem d_Arrow_setScaled_0 : decode prog_2_method_3_code 0 = .ok (.aload_n 0, 1) := zdt v_Arrow_setScaled_0 0 (q := (0, .aload_n 0, 1)) rfl
theorem d_Arrow_setScaled_1 : decode prog_2_method_3_code 1 = .ok (.aload_n 1, 1) := zdt v_Arrow_setScaled_0 1 (q := (1, .aload_n 1, 1)) rfl
theorem d_Arrow_setScaled_2 : decode prog_2_method_3_code 2 = .ok (.getfield 7, 3) := zdt v_Arrow_setScaled_0 2 (q := (2, .getfield 7, 3)) rfl
theorem d_Arrow_setScaled_5 : decode prog_2_method_3_code 5 = .ok (.iload_n 2, 1) := zdt v_Arrow_setScaled_0 3 (q := (5, .iload_n 2, 1)) rfl
theorem d_Arrow_setScaled_6 : decode prog_2_method_3_code 6 = .ok (.imul, 1) := zdt v_Arrow_setScaled_0 4 (q := (6, .imul, 1)) rfl
theorem d_Arrow_setScaled_7 : decode prog_2_method_3_code 7 = .ok (.aload_n 1, 1) := zdt v_Arrow_setScaled_0 5 (q := (7, .aload_n 1, 1)) rfl
theorem d_Arrow_setScaled_8 : decode prog_2_method_3_code 8 = .ok (.getfield 13, 3) := zdt v_Arrow_setScaled_0 6 (q := (8, .getfield 13, 3)) rfl
theorem d_Arrow_setScaled_11 : decode prog_2_method_3_code 11 = .ok (.iload_n 2, 1) := zdt v_Arrow_setScaled_0 7 (q := (11, .iload_n 2, 1)) rfl
theorem d_Arrow_setScaled_12 : decode prog_2_method_3_code 12 = .ok (.imul, 1) := zdt v_Arrow_setScaled_0 8 (q := (12, .imul, 1)) rfl
theorem d_Arrow_setScaled_13 : decode prog_2_method_3_code 13 = .ok (.aload_n 1, 1) := zdt v_Arrow_setScaled_0 9 (q := (13, .aload_n 1, 1)) rfl
theorem d_Arrow_setScaled_14 : decode prog_2_method_3_code 14 = .ok (.getfield 16, 3) := zdt v_Arrow_setScaled_0 10 (q := (14, .getfield 16, 3)) rfl
theorem d_Arrow_setScaled_17 : decode prog_2_method_3_code 17 = .ok (.iload_n 2, 1) := zdt v_Arrow_setScaled_0 11 (q := (17, .iload_n 2, 1)) rfl
theorem d_Arrow_setScaled_18 : decode prog_2_method_3_code 18 = .ok (.imul, 1) := zdt v_Arrow_setScaled_0 12 (q := (18, .imul, 1)) rfl
theorem d_Arrow_setScaled_19 : decode prog_2_method_3_code 19 = .ok (.invokevirtual 19, 3) := zdt v_Arrow_setScaled_0 13 (q := (19, .invokevirtual 19, 3)) rfl
theorem d_Arrow_setScaled_22 : decode prog_2_method_3_code 22 = .ok (.return_, 1) := zdt v_Arrow_setScaled_0 14 (q := (22, .return_, 1)) rfl
def u_Hold_lets_0 : List (Nat × Instr × Nat) := [(0, .aload_n 1, 1), (1, .invokevirtual 33, 3), (4, .ifCond .eq 5, 3), (7, .iconst 0, 1), (8, .ireturn, 1), (9, .iconst 0, 1), (10, .istore_n 2, 1), (11, .iload_n 2, 1), (12, .bipush 12, 2), (14, .if_icmp .ge 35, 3), (17, .aload_n 0, 1), (18, .getfield 25, 3), (21, .iload_n 2, 1), (22, .invokestatic 37, 3), (25, .ifCond .eq 18, 3), (28, .aload_n 1, 1), (29, .aload_n 0, 1), (30, .getfield 11, 3), (33, .iload_n 2, 1), (34, .aaload, 1), (35, .invokevirtual 41, 3), (38, .ifCond .ge 5, 3), (41, .iconst 0, 1), (42, .ireturn, 1), (43, .iinc 2 1, 3), (46, .goto (-35), 3), (49, .iconst 1, 1), (50, .ireturn, 1)]
theorem v_Hold_lets_0 : u_Hold_lets_0.all (zdq prog_3_method_4_code) = true := by decide +kernel
theorem d_Hold_lets_0 : decode prog_3_method_4_code 0 = .ok (.aload_n 1, 1) := zdt v_Hold_lets_0 0 (q := (0, .aload_n 1, 1)) rfl
theorem d_Hold_lets_1 : decode prog_3_method_4_code 1 = .ok (.invokevirtual 33, 3) := zdt v_Hold_lets_0 1 (q := (1, .invokevirtual 33, 3)) rfl
theorem d_Hold_lets_4 : decode prog_3_method_4_code 4 = .ok (.ifCond .eq 5, 3) := zdt v_Hold_lets_0 2 (q := (4, .ifCond .eq 5, 3)) rfl
theorem d_Hold_lets_7 : decode prog_3_method_4_code 7 = .ok (.iconst 0, 1) := zdt v_Hold_lets_0 3 (q := (7, .iconst 0, 1)) rfl
theorem d_Hold_lets_8 : decode prog_3_method_4_code 8 = .ok (.ireturn, 1) := zdt v_Hold_lets_0 4 (q := (8, .ireturn, 1)) rfl
theorem d_Hold_lets_9 : decode prog_3_method_4_code 9 = .ok (.iconst 0, 1) := zdt v_Hold_lets_0 5 (q := (9, .iconst 0, 1)) rfl
theorem d_Hold_lets_10 : decode prog_3_method_4_code 10 = .ok (.istore_n 2, 1) := zdt v_Hold_lets_0 6 (q := (10, .istore_n 2, 1)) rfl
theorem d_Hold_lets_11 : decode prog_3_method_4_code 11 = .ok (.iload_n 2, 1) := zdt v_Hold_lets_0 7 (q := (11, .iload_n 2, 1)) rfl
theorem d_Hold_lets_12 : decode prog_3_method_4_code 12 = .ok (.bipush 12, 2) := zdt v_Hold_lets_0 8 (q := (12, .bipush 12, 2)) rfl
theorem d_Hold_lets_14 : decode prog_3_method_4_code 14 = .ok (.if_icmp .ge 35, 3) := zdt v_Hold_lets_0 9 (q := (14, .if_icmp .ge 35, 3)) rfl
theorem d_Hold_lets_17 : decode prog_3_method_4_code 17 = .ok (.aload_n 0, 1) := zdt v_Hold_lets_0 10 (q := (17, .aload_n 0, 1)) rfl
theorem d_Hold_lets_18 : decode prog_3_method_4_code 18 = .ok (.getfield 25, 3) := zdt v_Hold_lets_0 11 (q := (18, .getfield 25, 3)) rfl
theorem d_Hold_lets_21 : decode prog_3_method_4_code 21 = .ok (.iload_n 2, 1) := zdt v_Hold_lets_0 12 (q := (21, .iload_n 2, 1)) rfl
theorem d_Hold_lets_22 : decode prog_3_method_4_code 22 = .ok (.invokestatic 37, 3) := zdt v_Hold_lets_0 13 (q := (22, .invokestatic 37, 3)) rfl
theorem d_Hold_lets_25 : decode prog_3_method_4_code 25 = .ok (.ifCond .eq 18, 3) := zdt v_Hold_lets_0 14 (q := (25, .ifCond .eq 18, 3)) rfl
theorem d_Hold_lets_28 : decode prog_3_method_4_code 28 = .ok (.aload_n 1, 1) := zdt v_Hold_lets_0 15 (q := (28, .aload_n 1, 1)) rfl
theorem d_Hold_lets_29 : decode prog_3_method_4_code 29 = .ok (.aload_n 0, 1) := zdt v_Hold_lets_0 16 (q := (29, .aload_n 0, 1)) rfl
theorem d_Hold_lets_30 : decode prog_3_method_4_code 30 = .ok (.getfield 11, 3) := zdt v_Hold_lets_0 17 (q := (30, .getfield 11, 3)) rfl
theorem d_Hold_lets_33 : decode prog_3_method_4_code 33 = .ok (.iload_n 2, 1) := zdt v_Hold_lets_0 18 (q := (33, .iload_n 2, 1)) rfl
theorem d_Hold_lets_34 : decode prog_3_method_4_code 34 = .ok (.aaload, 1) := zdt v_Hold_lets_0 19 (q := (34, .aaload, 1)) rfl
theorem d_Hold_lets_35 : decode prog_3_method_4_code 35 = .ok (.invokevirtual 41, 3) := zdt v_Hold_lets_0 20 (q := (35, .invokevirtual 41, 3)) rfl
theorem d_Hold_lets_38 : decode prog_3_method_4_code 38 = .ok (.ifCond .ge 5, 3) := zdt v_Hold_lets_0 21 (q := (38, .ifCond .ge 5, 3)) rfl
theorem d_Hold_lets_41 : decode prog_3_method_4_code 41 = .ok (.iconst 0, 1) := zdt v_Hold_lets_0 22 (q := (41, .iconst 0, 1)) rfl
theorem d_Hold_lets_42 : decode prog_3_method_4_code 42 = .ok (.ireturn, 1) := zdt v_Hold_lets_0 23 (q := (42, .ireturn, 1)) rfl
theorem d_Hold_lets_43 : decode prog_3_method_4_code 43 = .ok (.iinc 2 1, 3) := zdt v_Hold_lets_0 24 (q := (43, .iinc 2 1, 3)) rfl
theorem d_Hold_lets_46 : decode prog_3_method_4_code 46 = .ok (.goto (-35), 3) := zdt v_Hold_lets_0 25 (q := (46, .goto (-35), 3)) rfl
theorem d_Hold_lets_49 : decode prog_3_method_4_code 49 = .ok (.iconst 1, 1) := zdt v_Hold_lets_0 26 (q := (49, .iconst 1, 1)) rfl
theorem d_Hold_lets_50 : decode prog_3_method_4_code 50 = .ok (.ireturn, 1) := zdt v_Hold_lets_0 27 (q := (50, .ireturn, 1)) rfl
def u_Arrow_isZero_0 : List (Nat × Instr × Nat) := [(0, .aload_n 0, 1), (1, .getfield 7, 3), (4, .ifCond .ne 21, 3), (7, .aload_n 0, 1), (8, .getfield 13, 3), (11, .ifCond .ne 14, 3), (14, .aload_n 0, 1), (15, .getfield 16, 3), (18, .ifCond .ne 7, 3), (21, .iconst 1, 1), (22, .goto 4, 3), (25, .iconst 0, 1), (26, .ireturn, 1)]
theorem v_Arrow_isZero_0 : u_Arrow_isZero_0.all (zdq prog_2_method_7_code) = true := by decide +kernel
theorem d_Arrow_isZero_0 : decode prog_2_method_7_code 0 = .ok (.aload_n 0, 1) := zdt v_Arrow_isZero_0 0 (q := (0, .aload_n 0, 1)) rfl
theorem d_Arrow_isZero_1 : decode prog_2_method_7_code 1 = .ok (.getfield 7, 3) := zdt v_Arrow_isZero_0 1 (q := (1, .getfield 7, 3)) rfl
theorem d_Arrow_isZero_4 : decode prog_2_method_7_code 4 = .ok (.ifCond .ne 21, 3) := zdt v_Arrow_isZero_0 2 (q := (4, .ifCond .ne 21, 3)) rfl
theorem d_Arrow_isZero_7 : decode prog_2_method_7_code 7 = .ok (.aload_n 0, 1) := zdt v_Arrow_isZero_0 3 (q := (7, .aload_n 0, 1)) rfl
theorem d_Arrow_isZero_8 : decode prog_2_method_7_code 8 = .ok (.getfield 13, 3) := zdt v_Arrow_isZero_0 4 (q := (8, .getfield 13, 3)) rfl
theorem d_Arrow_isZero_11 : decode prog_2_method_7_code 11 = .ok (.ifCond .ne 14, 3) := zdt v_Arrow_isZero_0 5 (q := (11, .ifCond .ne 14, 3)) rfl
theorem d_Arrow_isZero_14 : decode prog_2_method_7_code 14 = .ok (.aload_n 0, 1) := zdt v_Arrow_isZero_0 6 (q := (14, .aload_n 0, 1)) rfl
theorem d_Arrow_isZero_15 : decode prog_2_method_7_code 15 = .ok (.getfield 16, 3) := zdt v_Arrow_isZero_0 7 (q := (15, .getfield 16, 3)) rfl
theorem d_Arrow_isZero_18 : decode prog_2_method_7_code 18 = .ok (.ifCond .ne 7, 3) := zdt v_Arrow_isZero_0 8 (q := (18, .ifCond .ne 7, 3)) rfl
theorem d_Arrow_isZero_21 : decode prog_2_method_7_code 21 = .ok (.iconst 1, 1) := zdt v_Arrow_isZero_0 9 (q := (21, .iconst 1, 1)) rfl
theorem d_Arrow_isZero_22 : decode prog_2_method_7_code 22 = .ok (.goto 4, 3) := zdt v_Arrow_isZero_0 10 (q := (22, .goto 4, 3)) rfl
theorem d_Arrow_isZero_25 : decode prog_2_method_7_code 25 = .ok (.iconst 0, 1) := zdt v_Arrow_isZero_0 11 (q := (25, .iconst 0, 1)) rfl
theorem d_Arrow_isZero_26 : decode prog_2_method_7_code 26 = .ok (.ireturn, 1) := zdt v_Arrow_isZero_0 12 (q := (26, .ireturn, 1)) rfl
def u_Rock_isCutBy_0 : List (Nat × Instr × Nat) := [(0, .iconst 0, 1), (1, .iload_n 1, 1), (2, .aload_n 0, 1), (3, .getfield 66, 3), (6, .imul, 1), (7, .invokestatic 87, 3), (10, .iconst 0, 1), (11, .iload_n 2, 1), (12, .aload_n 0, 1), (13, .getfield 69, 3), (16, .imul, 1), (17, .invokestatic 87, 3), (20, .iadd, 1), (21, .iconst 0, 1), (22, .iload_n 3, 1), (23, .aload_n 0, 1), (24, .getfield 72, 3), (27, .imul, 1), (28, .invokestatic 87, 3), (31, .iadd, 1), (32, .istore 5, 2), (34, .iconst 0, 1), (35, .iload_n 1, 1), (36, .aload_n 0, 1), (37, .getfield 66, 3), (40, .imul, 1), (41, .invokestatic 93, 3), (44, .iconst 0, 1), (45, .iload_n 2, 1), (46, .aload_n 0, 1), (47, .getfield 69, 3), (50, .imul, 1), (51, .invokestatic 93, 3), (54, .iadd, 1), (55, .iconst 0, 1), (56, .iload_n 3, 1), (57, .aload_n 0, 1), (58, .getfield 72, 3), (61, .imul, 1), (62, .invokestatic 93, 3)]
theorem v_Rock_isCutBy_0 : u_Rock_isCutBy_0.all (zdq prog_6_method_2_code) = true := by decide +kernel
theorem d_Rock_isCutBy_0 : decode prog_6_method_2_code 0 = .ok (.iconst 0, 1) := zdt v_Rock_isCutBy_0 0 (q := (0, .iconst 0, 1)) rfl
theorem d_Rock_isCutBy_1 : decode prog_6_method_2_code 1 = .ok (.iload_n 1, 1) := zdt v_Rock_isCutBy_0 1 (q := (1, .iload_n 1, 1)) rfl
theorem d_Rock_isCutBy_2 : decode prog_6_method_2_code 2 = .ok (.aload_n 0, 1) := zdt v_Rock_isCutBy_0 2 (q := (2, .aload_n 0, 1)) rfl
theorem d_Rock_isCutBy_3 : decode prog_6_method_2_code 3 = .ok (.getfield 66, 3) := zdt v_Rock_isCutBy_0 3 (q := (3, .getfield 66, 3)) rfl
theorem d_Rock_isCutBy_6 : decode prog_6_method_2_code 6 = .ok (.imul, 1) := zdt v_Rock_isCutBy_0 4 (q := (6, .imul, 1)) rfl
theorem d_Rock_isCutBy_7 : decode prog_6_method_2_code 7 = .ok (.invokestatic 87, 3) := zdt v_Rock_isCutBy_0 5 (q := (7, .invokestatic 87, 3)) rfl
theorem d_Rock_isCutBy_10 : decode prog_6_method_2_code 10 = .ok (.iconst 0, 1) := zdt v_Rock_isCutBy_0 6 (q := (10, .iconst 0, 1)) rfl
theorem d_Rock_isCutBy_11 : decode prog_6_method_2_code 11 = .ok (.iload_n 2, 1) := zdt v_Rock_isCutBy_0 7 (q := (11, .iload_n 2, 1)) rfl
theorem d_Rock_isCutBy_12 : decode prog_6_method_2_code 12 = .ok (.aload_n 0, 1) := zdt v_Rock_isCutBy_0 8 (q := (12, .aload_n 0, 1)) rfl
theorem d_Rock_isCutBy_13 : decode prog_6_method_2_code 13 = .ok (.getfield 69, 3) := zdt v_Rock_isCutBy_0 9 (q := (13, .getfield 69, 3)) rfl
theorem d_Rock_isCutBy_16 : decode prog_6_method_2_code 16 = .ok (.imul, 1) := zdt v_Rock_isCutBy_0 10 (q := (16, .imul, 1)) rfl
theorem d_Rock_isCutBy_17 : decode prog_6_method_2_code 17 = .ok (.invokestatic 87, 3) := zdt v_Rock_isCutBy_0 11 (q := (17, .invokestatic 87, 3)) rfl
theorem d_Rock_isCutBy_20 : decode prog_6_method_2_code 20 = .ok (.iadd, 1) := zdt v_Rock_isCutBy_0 12 (q := (20, .iadd, 1)) rfl
theorem d_Rock_isCutBy_21 : decode prog_6_method_2_code 21 = .ok (.iconst 0, 1) := zdt v_Rock_isCutBy_0 13 (q := (21, .iconst 0, 1)) rfl
theorem d_Rock_isCutBy_22 : decode prog_6_method_2_code 22 = .ok (.iload_n 3, 1) := zdt v_Rock_isCutBy_0 14 (q := (22, .iload_n 3, 1)) rfl
theorem d_Rock_isCutBy_23 : decode prog_6_method_2_code 23 = .ok (.aload_n 0, 1) := zdt v_Rock_isCutBy_0 15 (q := (23, .aload_n 0, 1)) rfl
theorem d_Rock_isCutBy_24 : decode prog_6_method_2_code 24 = .ok (.getfield 72, 3) := zdt v_Rock_isCutBy_0 16 (q := (24, .getfield 72, 3)) rfl
theorem d_Rock_isCutBy_27 : decode prog_6_method_2_code 27 = .ok (.imul, 1) := zdt v_Rock_isCutBy_0 17 (q := (27, .imul, 1)) rfl
theorem d_Rock_isCutBy_28 : decode prog_6_method_2_code 28 = .ok (.invokestatic 87, 3) := zdt v_Rock_isCutBy_0 18 (q := (28, .invokestatic 87, 3)) rfl
theorem d_Rock_isCutBy_31 : decode prog_6_method_2_code 31 = .ok (.iadd, 1) := zdt v_Rock_isCutBy_0 19 (q := (31, .iadd, 1)) rfl
theorem d_Rock_isCutBy_32 : decode prog_6_method_2_code 32 = .ok (.istore 5, 2) := zdt v_Rock_isCutBy_0 20 (q := (32, .istore 5, 2)) rfl
theorem d_Rock_isCutBy_34 : decode prog_6_method_2_code 34 = .ok (.iconst 0, 1) := zdt v_Rock_isCutBy_0 21 (q := (34, .iconst 0, 1)) rfl
theorem d_Rock_isCutBy_35 : decode prog_6_method_2_code 35 = .ok (.iload_n 1, 1) := zdt v_Rock_isCutBy_0 22 (q := (35, .iload_n 1, 1)) rfl
theorem d_Rock_isCutBy_36 : decode prog_6_method_2_code 36 = .ok (.aload_n 0, 1) := zdt v_Rock_isCutBy_0 23 (q := (36, .aload_n 0, 1)) rfl
theorem d_Rock_isCutBy_37 : decode prog_6_method_2_code 37 = .ok (.getfield 66, 3) := zdt v_Rock_isCutBy_0 24 (q := (37, .getfield 66, 3)) rfl
theorem d_Rock_isCutBy_40 : decode prog_6_method_2_code 40 = .ok (.imul, 1) := zdt v_Rock_isCutBy_0 25 (q := (40, .imul, 1)) rfl
theorem d_Rock_isCutBy_41 : decode prog_6_method_2_code 41 = .ok (.invokestatic 93, 3) := zdt v_Rock_isCutBy_0 26 (q := (41, .invokestatic 93, 3)) rfl
theorem d_Rock_isCutBy_44 : decode prog_6_method_2_code 44 = .ok (.iconst 0, 1) := zdt v_Rock_isCutBy_0 27 (q := (44, .iconst 0, 1)) rfl
theorem d_Rock_isCutBy_45 : decode prog_6_method_2_code 45 = .ok (.iload_n 2, 1) := zdt v_Rock_isCutBy_0 28 (q := (45, .iload_n 2, 1)) rfl
theorem d_Rock_isCutBy_46 : decode prog_6_method_2_code 46 = .ok (.aload_n 0, 1) := zdt v_Rock_isCutBy_0 29 (q := (46, .aload_n 0, 1)) rfl
theorem d_Rock_isCutBy_47 : decode prog_6_method_2_code 47 = .ok (.getfield 69, 3) := zdt v_Rock_isCutBy_0 30 (q := (47, .getfield 69, 3)) rfl
theorem d_Rock_isCutBy_50 : decode prog_6_method_2_code 50 = .ok (.imul, 1) := zdt v_Rock_isCutBy_0 31 (q := (50, .imul, 1)) rfl
theorem d_Rock_isCutBy_51 : decode prog_6_method_2_code 51 = .ok (.invokestatic 93, 3) := zdt v_Rock_isCutBy_0 32 (q := (51, .invokestatic 93, 3)) rfl
theorem d_Rock_isCutBy_54 : decode prog_6_method_2_code 54 = .ok (.iadd, 1) := zdt v_Rock_isCutBy_0 33 (q := (54, .iadd, 1)) rfl
theorem d_Rock_isCutBy_55 : decode prog_6_method_2_code 55 = .ok (.iconst 0, 1) := zdt v_Rock_isCutBy_0 34 (q := (55, .iconst 0, 1)) rfl
theorem d_Rock_isCutBy_56 : decode prog_6_method_2_code 56 = .ok (.iload_n 3, 1) := zdt v_Rock_isCutBy_0 35 (q := (56, .iload_n 3, 1)) rfl
theorem d_Rock_isCutBy_57 : decode prog_6_method_2_code 57 = .ok (.aload_n 0, 1) := zdt v_Rock_isCutBy_0 36 (q := (57, .aload_n 0, 1)) rfl
theorem d_Rock_isCutBy_58 : decode prog_6_method_2_code 58 = .ok (.getfield 72, 3) := zdt v_Rock_isCutBy_0 37 (q := (58, .getfield 72, 3)) rfl
theorem d_Rock_isCutBy_61 : decode prog_6_method_2_code 61 = .ok (.imul, 1) := zdt v_Rock_isCutBy_0 38 (q := (61, .imul, 1)) rfl
theorem d_Rock_isCutBy_62 : decode prog_6_method_2_code 62 = .ok (.invokestatic 93, 3) := zdt v_Rock_isCutBy_0 39 (q := (62, .invokestatic 93, 3)) rfl
def u_Rock_isCutBy_1 : List (Nat × Instr × Nat) := [(65, .iadd, 1), (66, .istore 6, 2), (68, .iload 5, 2), (70, .iload 4, 2), (72, .if_icmp .ge 14, 3), (75, .iload 4, 2), (77, .iload 6, 2), (79, .if_icmp .ge 7, 3), (82, .iconst 1, 1), (83, .goto 4, 3), (86, .iconst 0, 1), (87, .ireturn, 1)]
theorem v_Rock_isCutBy_1 : u_Rock_isCutBy_1.all (zdq prog_6_method_2_code) = true := by decide +kernel
theorem d_Rock_isCutBy_65 : decode prog_6_method_2_code 65 = .ok (.iadd, 1) := zdt v_Rock_isCutBy_1 0 (q := (65, .iadd, 1)) rfl
theorem d_Rock_isCutBy_66 : decode prog_6_method_2_code 66 = .ok (.istore 6, 2) := zdt v_Rock_isCutBy_1 1 (q := (66, .istore 6, 2)) rfl
theorem d_Rock_isCutBy_68 : decode prog_6_method_2_code 68 = .ok (.iload 5, 2) := zdt v_Rock_isCutBy_1 2 (q := (68, .iload 5, 2)) rfl
theorem d_Rock_isCutBy_70 : decode prog_6_method_2_code 70 = .ok (.iload 4, 2) := zdt v_Rock_isCutBy_1 3 (q := (70, .iload 4, 2)) rfl
theorem d_Rock_isCutBy_72 : decode prog_6_method_2_code 72 = .ok (.if_icmp .ge 14, 3) := zdt v_Rock_isCutBy_1 4 (q := (72, .if_icmp .ge 14, 3)) rfl
theorem d_Rock_isCutBy_75 : decode prog_6_method_2_code 75 = .ok (.iload 4, 2) := zdt v_Rock_isCutBy_1 5 (q := (75, .iload 4, 2)) rfl
theorem d_Rock_isCutBy_77 : decode prog_6_method_2_code 77 = .ok (.iload 6, 2) := zdt v_Rock_isCutBy_1 6 (q := (77, .iload 6, 2)) rfl
theorem d_Rock_isCutBy_79 : decode prog_6_method_2_code 79 = .ok (.if_icmp .ge 7, 3) := zdt v_Rock_isCutBy_1 7 (q := (79, .if_icmp .ge 7, 3)) rfl
theorem d_Rock_isCutBy_82 : decode prog_6_method_2_code 82 = .ok (.iconst 1, 1) := zdt v_Rock_isCutBy_1 8 (q := (82, .iconst 1, 1)) rfl
theorem d_Rock_isCutBy_83 : decode prog_6_method_2_code 83 = .ok (.goto 4, 3) := zdt v_Rock_isCutBy_1 9 (q := (83, .goto 4, 3)) rfl
theorem d_Rock_isCutBy_86 : decode prog_6_method_2_code 86 = .ok (.iconst 0, 1) := zdt v_Rock_isCutBy_1 10 (q := (86, .iconst 0, 1)) rfl
theorem d_Rock_isCutBy_87 : decode prog_6_method_2_code 87 = .ok (.ireturn, 1) := zdt v_Rock_isCutBy_1 11 (q := (87, .ireturn, 1)) rfl
def u_Rock_hasJoint_0 : List (Nat × Instr × Nat) := [(0, .iconst 0, 1), (1, .istore 5, 2), (3, .iload 5, 2), (5, .aload_n 0, 1), (6, .getfield 37, 3), (9, .if_icmp .ge 29, 3), (12, .aload_n 0, 1), (13, .getfield 11, 3), (16, .iload 5, 2), (18, .aaload, 1), (19, .iload_n 1, 1), (20, .iload_n 2, 1), (21, .iload_n 3, 1), (22, .iload 4, 2), (24, .invokevirtual 96, 3), (27, .ifCond .eq 5, 3), (30, .iconst 1, 1), (31, .ireturn, 1), (32, .iinc 5 1, 3), (35, .goto (-32), 3), (38, .iconst 0, 1), (39, .ireturn, 1)]
theorem v_Rock_hasJoint_0 : u_Rock_hasJoint_0.all (zdq prog_6_method_3_code) = true := by decide +kernel
theorem d_Rock_hasJoint_0 : decode prog_6_method_3_code 0 = .ok (.iconst 0, 1) := zdt v_Rock_hasJoint_0 0 (q := (0, .iconst 0, 1)) rfl
theorem d_Rock_hasJoint_1 : decode prog_6_method_3_code 1 = .ok (.istore 5, 2) := zdt v_Rock_hasJoint_0 1 (q := (1, .istore 5, 2)) rfl
theorem d_Rock_hasJoint_3 : decode prog_6_method_3_code 3 = .ok (.iload 5, 2) := zdt v_Rock_hasJoint_0 2 (q := (3, .iload 5, 2)) rfl
theorem d_Rock_hasJoint_5 : decode prog_6_method_3_code 5 = .ok (.aload_n 0, 1) := zdt v_Rock_hasJoint_0 3 (q := (5, .aload_n 0, 1)) rfl
theorem d_Rock_hasJoint_6 : decode prog_6_method_3_code 6 = .ok (.getfield 37, 3) := zdt v_Rock_hasJoint_0 4 (q := (6, .getfield 37, 3)) rfl
theorem d_Rock_hasJoint_9 : decode prog_6_method_3_code 9 = .ok (.if_icmp .ge 29, 3) := zdt v_Rock_hasJoint_0 5 (q := (9, .if_icmp .ge 29, 3)) rfl
theorem d_Rock_hasJoint_12 : decode prog_6_method_3_code 12 = .ok (.aload_n 0, 1) := zdt v_Rock_hasJoint_0 6 (q := (12, .aload_n 0, 1)) rfl
theorem d_Rock_hasJoint_13 : decode prog_6_method_3_code 13 = .ok (.getfield 11, 3) := zdt v_Rock_hasJoint_0 7 (q := (13, .getfield 11, 3)) rfl
theorem d_Rock_hasJoint_16 : decode prog_6_method_3_code 16 = .ok (.iload 5, 2) := zdt v_Rock_hasJoint_0 8 (q := (16, .iload 5, 2)) rfl
theorem d_Rock_hasJoint_18 : decode prog_6_method_3_code 18 = .ok (.aaload, 1) := zdt v_Rock_hasJoint_0 9 (q := (18, .aaload, 1)) rfl
theorem d_Rock_hasJoint_19 : decode prog_6_method_3_code 19 = .ok (.iload_n 1, 1) := zdt v_Rock_hasJoint_0 10 (q := (19, .iload_n 1, 1)) rfl
theorem d_Rock_hasJoint_20 : decode prog_6_method_3_code 20 = .ok (.iload_n 2, 1) := zdt v_Rock_hasJoint_0 11 (q := (20, .iload_n 2, 1)) rfl
theorem d_Rock_hasJoint_21 : decode prog_6_method_3_code 21 = .ok (.iload_n 3, 1) := zdt v_Rock_hasJoint_0 12 (q := (21, .iload_n 3, 1)) rfl
theorem d_Rock_hasJoint_22 : decode prog_6_method_3_code 22 = .ok (.iload 4, 2) := zdt v_Rock_hasJoint_0 13 (q := (22, .iload 4, 2)) rfl
theorem d_Rock_hasJoint_24 : decode prog_6_method_3_code 24 = .ok (.invokevirtual 96, 3) := zdt v_Rock_hasJoint_0 14 (q := (24, .invokevirtual 96, 3)) rfl
theorem d_Rock_hasJoint_27 : decode prog_6_method_3_code 27 = .ok (.ifCond .eq 5, 3) := zdt v_Rock_hasJoint_0 15 (q := (27, .ifCond .eq 5, 3)) rfl
theorem d_Rock_hasJoint_30 : decode prog_6_method_3_code 30 = .ok (.iconst 1, 1) := zdt v_Rock_hasJoint_0 16 (q := (30, .iconst 1, 1)) rfl
theorem d_Rock_hasJoint_31 : decode prog_6_method_3_code 31 = .ok (.ireturn, 1) := zdt v_Rock_hasJoint_0 17 (q := (31, .ireturn, 1)) rfl
theorem d_Rock_hasJoint_32 : decode prog_6_method_3_code 32 = .ok (.iinc 5 1, 3) := zdt v_Rock_hasJoint_0 18 (q := (32, .iinc 5 1, 3)) rfl
theorem d_Rock_hasJoint_35 : decode prog_6_method_3_code 35 = .ok (.goto (-32), 3) := zdt v_Rock_hasJoint_0 19 (q := (35, .goto (-32), 3)) rfl
theorem d_Rock_hasJoint_38 : decode prog_6_method_3_code 38 = .ok (.iconst 0, 1) := zdt v_Rock_hasJoint_0 20 (q := (38, .iconst 0, 1)) rfl
theorem d_Rock_hasJoint_39 : decode prog_6_method_3_code 39 = .ok (.ireturn, 1) := zdt v_Rock_hasJoint_0 21 (q := (39, .ireturn, 1)) rfl
def u_Plane_isSame_0 : List (Nat × Instr × Nat) := [(0, .aload_n 0, 1), (1, .getfield 10, 3), (4, .getfield 24, 3), (7, .iload_n 2, 1), (8, .imul, 1), (9, .aload_n 0, 1), (10, .getfield 10, 3), (13, .getfield 27, 3), (16, .iload_n 1, 1), (17, .imul, 1), (18, .if_icmp .ne 106, 3), (21, .aload_n 0, 1), (22, .getfield 10, 3), (25, .getfield 24, 3), (28, .iload_n 3, 1), (29, .imul, 1), (30, .aload_n 0, 1), (31, .getfield 10, 3), (34, .getfield 30, 3), (37, .iload_n 1, 1), (38, .imul, 1), (39, .if_icmp .ne 85, 3), (42, .aload_n 0, 1), (43, .getfield 10, 3), (46, .getfield 27, 3), (49, .iload_n 3, 1), (50, .imul, 1), (51, .aload_n 0, 1), (52, .getfield 10, 3), (55, .getfield 30, 3), (58, .iload_n 2, 1), (59, .imul, 1), (60, .if_icmp .ne 64, 3), (63, .aload_n 0, 1), (64, .getfield 10, 3), (67, .getfield 24, 3), (70, .iload 4, 2), (72, .imul, 1), (73, .aload_n 0, 1), (74, .getfield 16, 3)]
theorem v_Plane_isSame_0 : u_Plane_isSame_0.all (zdq prog_4_method_4_code) = true := by decide +kernel
theorem d_Plane_isSame_0 : decode prog_4_method_4_code 0 = .ok (.aload_n 0, 1) := zdt v_Plane_isSame_0 0 (q := (0, .aload_n 0, 1)) rfl
theorem d_Plane_isSame_1 : decode prog_4_method_4_code 1 = .ok (.getfield 10, 3) := zdt v_Plane_isSame_0 1 (q := (1, .getfield 10, 3)) rfl
theorem d_Plane_isSame_4 : decode prog_4_method_4_code 4 = .ok (.getfield 24, 3) := zdt v_Plane_isSame_0 2 (q := (4, .getfield 24, 3)) rfl
theorem d_Plane_isSame_7 : decode prog_4_method_4_code 7 = .ok (.iload_n 2, 1) := zdt v_Plane_isSame_0 3 (q := (7, .iload_n 2, 1)) rfl
theorem d_Plane_isSame_8 : decode prog_4_method_4_code 8 = .ok (.imul, 1) := zdt v_Plane_isSame_0 4 (q := (8, .imul, 1)) rfl
theorem d_Plane_isSame_9 : decode prog_4_method_4_code 9 = .ok (.aload_n 0, 1) := zdt v_Plane_isSame_0 5 (q := (9, .aload_n 0, 1)) rfl
theorem d_Plane_isSame_10 : decode prog_4_method_4_code 10 = .ok (.getfield 10, 3) := zdt v_Plane_isSame_0 6 (q := (10, .getfield 10, 3)) rfl
theorem d_Plane_isSame_13 : decode prog_4_method_4_code 13 = .ok (.getfield 27, 3) := zdt v_Plane_isSame_0 7 (q := (13, .getfield 27, 3)) rfl
theorem d_Plane_isSame_16 : decode prog_4_method_4_code 16 = .ok (.iload_n 1, 1) := zdt v_Plane_isSame_0 8 (q := (16, .iload_n 1, 1)) rfl
theorem d_Plane_isSame_17 : decode prog_4_method_4_code 17 = .ok (.imul, 1) := zdt v_Plane_isSame_0 9 (q := (17, .imul, 1)) rfl
theorem d_Plane_isSame_18 : decode prog_4_method_4_code 18 = .ok (.if_icmp .ne 106, 3) := zdt v_Plane_isSame_0 10 (q := (18, .if_icmp .ne 106, 3)) rfl
theorem d_Plane_isSame_21 : decode prog_4_method_4_code 21 = .ok (.aload_n 0, 1) := zdt v_Plane_isSame_0 11 (q := (21, .aload_n 0, 1)) rfl
theorem d_Plane_isSame_22 : decode prog_4_method_4_code 22 = .ok (.getfield 10, 3) := zdt v_Plane_isSame_0 12 (q := (22, .getfield 10, 3)) rfl
theorem d_Plane_isSame_25 : decode prog_4_method_4_code 25 = .ok (.getfield 24, 3) := zdt v_Plane_isSame_0 13 (q := (25, .getfield 24, 3)) rfl
theorem d_Plane_isSame_28 : decode prog_4_method_4_code 28 = .ok (.iload_n 3, 1) := zdt v_Plane_isSame_0 14 (q := (28, .iload_n 3, 1)) rfl
theorem d_Plane_isSame_29 : decode prog_4_method_4_code 29 = .ok (.imul, 1) := zdt v_Plane_isSame_0 15 (q := (29, .imul, 1)) rfl
theorem d_Plane_isSame_30 : decode prog_4_method_4_code 30 = .ok (.aload_n 0, 1) := zdt v_Plane_isSame_0 16 (q := (30, .aload_n 0, 1)) rfl
theorem d_Plane_isSame_31 : decode prog_4_method_4_code 31 = .ok (.getfield 10, 3) := zdt v_Plane_isSame_0 17 (q := (31, .getfield 10, 3)) rfl
theorem d_Plane_isSame_34 : decode prog_4_method_4_code 34 = .ok (.getfield 30, 3) := zdt v_Plane_isSame_0 18 (q := (34, .getfield 30, 3)) rfl
theorem d_Plane_isSame_37 : decode prog_4_method_4_code 37 = .ok (.iload_n 1, 1) := zdt v_Plane_isSame_0 19 (q := (37, .iload_n 1, 1)) rfl
theorem d_Plane_isSame_38 : decode prog_4_method_4_code 38 = .ok (.imul, 1) := zdt v_Plane_isSame_0 20 (q := (38, .imul, 1)) rfl
theorem d_Plane_isSame_39 : decode prog_4_method_4_code 39 = .ok (.if_icmp .ne 85, 3) := zdt v_Plane_isSame_0 21 (q := (39, .if_icmp .ne 85, 3)) rfl
theorem d_Plane_isSame_42 : decode prog_4_method_4_code 42 = .ok (.aload_n 0, 1) := zdt v_Plane_isSame_0 22 (q := (42, .aload_n 0, 1)) rfl
theorem d_Plane_isSame_43 : decode prog_4_method_4_code 43 = .ok (.getfield 10, 3) := zdt v_Plane_isSame_0 23 (q := (43, .getfield 10, 3)) rfl
theorem d_Plane_isSame_46 : decode prog_4_method_4_code 46 = .ok (.getfield 27, 3) := zdt v_Plane_isSame_0 24 (q := (46, .getfield 27, 3)) rfl
theorem d_Plane_isSame_49 : decode prog_4_method_4_code 49 = .ok (.iload_n 3, 1) := zdt v_Plane_isSame_0 25 (q := (49, .iload_n 3, 1)) rfl
theorem d_Plane_isSame_50 : decode prog_4_method_4_code 50 = .ok (.imul, 1) := zdt v_Plane_isSame_0 26 (q := (50, .imul, 1)) rfl
theorem d_Plane_isSame_51 : decode prog_4_method_4_code 51 = .ok (.aload_n 0, 1) := zdt v_Plane_isSame_0 27 (q := (51, .aload_n 0, 1)) rfl
theorem d_Plane_isSame_52 : decode prog_4_method_4_code 52 = .ok (.getfield 10, 3) := zdt v_Plane_isSame_0 28 (q := (52, .getfield 10, 3)) rfl
theorem d_Plane_isSame_55 : decode prog_4_method_4_code 55 = .ok (.getfield 30, 3) := zdt v_Plane_isSame_0 29 (q := (55, .getfield 30, 3)) rfl
theorem d_Plane_isSame_58 : decode prog_4_method_4_code 58 = .ok (.iload_n 2, 1) := zdt v_Plane_isSame_0 30 (q := (58, .iload_n 2, 1)) rfl
theorem d_Plane_isSame_59 : decode prog_4_method_4_code 59 = .ok (.imul, 1) := zdt v_Plane_isSame_0 31 (q := (59, .imul, 1)) rfl
theorem d_Plane_isSame_60 : decode prog_4_method_4_code 60 = .ok (.if_icmp .ne 64, 3) := zdt v_Plane_isSame_0 32 (q := (60, .if_icmp .ne 64, 3)) rfl
theorem d_Plane_isSame_63 : decode prog_4_method_4_code 63 = .ok (.aload_n 0, 1) := zdt v_Plane_isSame_0 33 (q := (63, .aload_n 0, 1)) rfl
theorem d_Plane_isSame_64 : decode prog_4_method_4_code 64 = .ok (.getfield 10, 3) := zdt v_Plane_isSame_0 34 (q := (64, .getfield 10, 3)) rfl
theorem d_Plane_isSame_67 : decode prog_4_method_4_code 67 = .ok (.getfield 24, 3) := zdt v_Plane_isSame_0 35 (q := (67, .getfield 24, 3)) rfl
theorem d_Plane_isSame_70 : decode prog_4_method_4_code 70 = .ok (.iload 4, 2) := zdt v_Plane_isSame_0 36 (q := (70, .iload 4, 2)) rfl
theorem d_Plane_isSame_72 : decode prog_4_method_4_code 72 = .ok (.imul, 1) := zdt v_Plane_isSame_0 37 (q := (72, .imul, 1)) rfl
theorem d_Plane_isSame_73 : decode prog_4_method_4_code 73 = .ok (.aload_n 0, 1) := zdt v_Plane_isSame_0 38 (q := (73, .aload_n 0, 1)) rfl
theorem d_Plane_isSame_74 : decode prog_4_method_4_code 74 = .ok (.getfield 16, 3) := zdt v_Plane_isSame_0 39 (q := (74, .getfield 16, 3)) rfl
def u_Plane_isSame_1 : List (Nat × Instr × Nat) := [(77, .iload_n 1, 1), (78, .imul, 1), (79, .if_icmp .ne 45, 3), (82, .aload_n 0, 1), (83, .getfield 10, 3), (86, .getfield 27, 3), (89, .iload 4, 2), (91, .imul, 1), (92, .aload_n 0, 1), (93, .getfield 16, 3), (96, .iload_n 2, 1), (97, .imul, 1), (98, .if_icmp .ne 26, 3), (101, .aload_n 0, 1), (102, .getfield 10, 3), (105, .getfield 30, 3), (108, .iload 4, 2), (110, .imul, 1), (111, .aload_n 0, 1), (112, .getfield 16, 3), (115, .iload_n 3, 1), (116, .imul, 1), (117, .if_icmp .ne 7, 3), (120, .iconst 1, 1), (121, .goto 4, 3), (124, .iconst 0, 1), (125, .ireturn, 1)]
theorem v_Plane_isSame_1 : u_Plane_isSame_1.all (zdq prog_4_method_4_code) = true := by decide +kernel
theorem d_Plane_isSame_77 : decode prog_4_method_4_code 77 = .ok (.iload_n 1, 1) := zdt v_Plane_isSame_1 0 (q := (77, .iload_n 1, 1)) rfl
theorem d_Plane_isSame_78 : decode prog_4_method_4_code 78 = .ok (.imul, 1) := zdt v_Plane_isSame_1 1 (q := (78, .imul, 1)) rfl
theorem d_Plane_isSame_79 : decode prog_4_method_4_code 79 = .ok (.if_icmp .ne 45, 3) := zdt v_Plane_isSame_1 2 (q := (79, .if_icmp .ne 45, 3)) rfl
theorem d_Plane_isSame_82 : decode prog_4_method_4_code 82 = .ok (.aload_n 0, 1) := zdt v_Plane_isSame_1 3 (q := (82, .aload_n 0, 1)) rfl
theorem d_Plane_isSame_83 : decode prog_4_method_4_code 83 = .ok (.getfield 10, 3) := zdt v_Plane_isSame_1 4 (q := (83, .getfield 10, 3)) rfl
theorem d_Plane_isSame_86 : decode prog_4_method_4_code 86 = .ok (.getfield 27, 3) := zdt v_Plane_isSame_1 5 (q := (86, .getfield 27, 3)) rfl
theorem d_Plane_isSame_89 : decode prog_4_method_4_code 89 = .ok (.iload 4, 2) := zdt v_Plane_isSame_1 6 (q := (89, .iload 4, 2)) rfl
theorem d_Plane_isSame_91 : decode prog_4_method_4_code 91 = .ok (.imul, 1) := zdt v_Plane_isSame_1 7 (q := (91, .imul, 1)) rfl
theorem d_Plane_isSame_92 : decode prog_4_method_4_code 92 = .ok (.aload_n 0, 1) := zdt v_Plane_isSame_1 8 (q := (92, .aload_n 0, 1)) rfl
theorem d_Plane_isSame_93 : decode prog_4_method_4_code 93 = .ok (.getfield 16, 3) := zdt v_Plane_isSame_1 9 (q := (93, .getfield 16, 3)) rfl
theorem d_Plane_isSame_96 : decode prog_4_method_4_code 96 = .ok (.iload_n 2, 1) := zdt v_Plane_isSame_1 10 (q := (96, .iload_n 2, 1)) rfl
theorem d_Plane_isSame_97 : decode prog_4_method_4_code 97 = .ok (.imul, 1) := zdt v_Plane_isSame_1 11 (q := (97, .imul, 1)) rfl
theorem d_Plane_isSame_98 : decode prog_4_method_4_code 98 = .ok (.if_icmp .ne 26, 3) := zdt v_Plane_isSame_1 12 (q := (98, .if_icmp .ne 26, 3)) rfl
theorem d_Plane_isSame_101 : decode prog_4_method_4_code 101 = .ok (.aload_n 0, 1) := zdt v_Plane_isSame_1 13 (q := (101, .aload_n 0, 1)) rfl
theorem d_Plane_isSame_102 : decode prog_4_method_4_code 102 = .ok (.getfield 10, 3) := zdt v_Plane_isSame_1 14 (q := (102, .getfield 10, 3)) rfl
theorem d_Plane_isSame_105 : decode prog_4_method_4_code 105 = .ok (.getfield 30, 3) := zdt v_Plane_isSame_1 15 (q := (105, .getfield 30, 3)) rfl
theorem d_Plane_isSame_108 : decode prog_4_method_4_code 108 = .ok (.iload 4, 2) := zdt v_Plane_isSame_1 16 (q := (108, .iload 4, 2)) rfl
theorem d_Plane_isSame_110 : decode prog_4_method_4_code 110 = .ok (.imul, 1) := zdt v_Plane_isSame_1 17 (q := (110, .imul, 1)) rfl
theorem d_Plane_isSame_111 : decode prog_4_method_4_code 111 = .ok (.aload_n 0, 1) := zdt v_Plane_isSame_1 18 (q := (111, .aload_n 0, 1)) rfl
theorem d_Plane_isSame_112 : decode prog_4_method_4_code 112 = .ok (.getfield 16, 3) := zdt v_Plane_isSame_1 19 (q := (112, .getfield 16, 3)) rfl
theorem d_Plane_isSame_115 : decode prog_4_method_4_code 115 = .ok (.iload_n 3, 1) := zdt v_Plane_isSame_1 20 (q := (115, .iload_n 3, 1)) rfl
theorem d_Plane_isSame_116 : decode prog_4_method_4_code 116 = .ok (.imul, 1) := zdt v_Plane_isSame_1 21 (q := (116, .imul, 1)) rfl
theorem d_Plane_isSame_117 : decode prog_4_method_4_code 117 = .ok (.if_icmp .ne 7, 3) := zdt v_Plane_isSame_1 22 (q := (117, .if_icmp .ne 7, 3)) rfl
theorem d_Plane_isSame_120 : decode prog_4_method_4_code 120 = .ok (.iconst 1, 1) := zdt v_Plane_isSame_1 23 (q := (120, .iconst 1, 1)) rfl
theorem d_Plane_isSame_121 : decode prog_4_method_4_code 121 = .ok (.goto 4, 3) := zdt v_Plane_isSame_1 24 (q := (121, .goto 4, 3)) rfl
theorem d_Plane_isSame_124 : decode prog_4_method_4_code 124 = .ok (.iconst 0, 1) := zdt v_Plane_isSame_1 25 (q := (124, .iconst 0, 1)) rfl
theorem d_Plane_isSame_125 : decode prog_4_method_4_code 125 = .ok (.ireturn, 1) := zdt v_Plane_isSame_1 26 (q := (125, .ireturn, 1)) rfl
def u_Rock_addJoint_0 : List (Nat × Instr × Nat) := [(0, .aload_n 0, 1), (1, .getfield 37, 3), (4, .bipush 6, 2), (6, .if_icmp .ge 58, 3), (9, .aload_n 0, 1), (10, .getfield 11, 3), (13, .aload_n 0, 1), (14, .getfield 37, 3), (17, .aaload, 1), (18, .iload_n 1, 1), (19, .iload_n 2, 1), (20, .iload_n 3, 1), (21, .iload 4, 2), (23, .invokevirtual 76, 3), (26, .aload_n 0, 1), (27, .getfield 44, 3), (30, .aload_n 0, 1), (31, .getfield 37, 3), (34, .aload_n 0, 1), (35, .getfield 20, 3), (38, .getfield 100, 3), (41, .iastore, 1), (42, .aload_n 0, 1), (43, .aload_n 0, 1), (44, .getfield 37, 3), (47, .invokevirtual 80, 3), (50, .aload_n 0, 1), (51, .dup, 1), (52, .getfield 37, 3), (55, .iconst 1, 1), (56, .iadd, 1), (57, .putfield 37, 3), (60, .aload_n 0, 1), (61, .invokevirtual 84, 3), (64, .return_, 1)]
theorem v_Rock_addJoint_0 : u_Rock_addJoint_0.all (zdq prog_6_method_4_code) = true := by decide +kernel
theorem d_Rock_addJoint_0 : decode prog_6_method_4_code 0 = .ok (.aload_n 0, 1) := zdt v_Rock_addJoint_0 0 (q := (0, .aload_n 0, 1)) rfl
theorem d_Rock_addJoint_1 : decode prog_6_method_4_code 1 = .ok (.getfield 37, 3) := zdt v_Rock_addJoint_0 1 (q := (1, .getfield 37, 3)) rfl
theorem d_Rock_addJoint_4 : decode prog_6_method_4_code 4 = .ok (.bipush 6, 2) := zdt v_Rock_addJoint_0 2 (q := (4, .bipush 6, 2)) rfl
theorem d_Rock_addJoint_6 : decode prog_6_method_4_code 6 = .ok (.if_icmp .ge 58, 3) := zdt v_Rock_addJoint_0 3 (q := (6, .if_icmp .ge 58, 3)) rfl
theorem d_Rock_addJoint_9 : decode prog_6_method_4_code 9 = .ok (.aload_n 0, 1) := zdt v_Rock_addJoint_0 4 (q := (9, .aload_n 0, 1)) rfl
theorem d_Rock_addJoint_10 : decode prog_6_method_4_code 10 = .ok (.getfield 11, 3) := zdt v_Rock_addJoint_0 5 (q := (10, .getfield 11, 3)) rfl
theorem d_Rock_addJoint_13 : decode prog_6_method_4_code 13 = .ok (.aload_n 0, 1) := zdt v_Rock_addJoint_0 6 (q := (13, .aload_n 0, 1)) rfl
theorem d_Rock_addJoint_14 : decode prog_6_method_4_code 14 = .ok (.getfield 37, 3) := zdt v_Rock_addJoint_0 7 (q := (14, .getfield 37, 3)) rfl
theorem d_Rock_addJoint_17 : decode prog_6_method_4_code 17 = .ok (.aaload, 1) := zdt v_Rock_addJoint_0 8 (q := (17, .aaload, 1)) rfl
theorem d_Rock_addJoint_18 : decode prog_6_method_4_code 18 = .ok (.iload_n 1, 1) := zdt v_Rock_addJoint_0 9 (q := (18, .iload_n 1, 1)) rfl
theorem d_Rock_addJoint_19 : decode prog_6_method_4_code 19 = .ok (.iload_n 2, 1) := zdt v_Rock_addJoint_0 10 (q := (19, .iload_n 2, 1)) rfl
theorem d_Rock_addJoint_20 : decode prog_6_method_4_code 20 = .ok (.iload_n 3, 1) := zdt v_Rock_addJoint_0 11 (q := (20, .iload_n 3, 1)) rfl
theorem d_Rock_addJoint_21 : decode prog_6_method_4_code 21 = .ok (.iload 4, 2) := zdt v_Rock_addJoint_0 12 (q := (21, .iload 4, 2)) rfl
theorem d_Rock_addJoint_23 : decode prog_6_method_4_code 23 = .ok (.invokevirtual 76, 3) := zdt v_Rock_addJoint_0 13 (q := (23, .invokevirtual 76, 3)) rfl
theorem d_Rock_addJoint_26 : decode prog_6_method_4_code 26 = .ok (.aload_n 0, 1) := zdt v_Rock_addJoint_0 14 (q := (26, .aload_n 0, 1)) rfl
theorem d_Rock_addJoint_27 : decode prog_6_method_4_code 27 = .ok (.getfield 44, 3) := zdt v_Rock_addJoint_0 15 (q := (27, .getfield 44, 3)) rfl
theorem d_Rock_addJoint_30 : decode prog_6_method_4_code 30 = .ok (.aload_n 0, 1) := zdt v_Rock_addJoint_0 16 (q := (30, .aload_n 0, 1)) rfl
theorem d_Rock_addJoint_31 : decode prog_6_method_4_code 31 = .ok (.getfield 37, 3) := zdt v_Rock_addJoint_0 17 (q := (31, .getfield 37, 3)) rfl
theorem d_Rock_addJoint_34 : decode prog_6_method_4_code 34 = .ok (.aload_n 0, 1) := zdt v_Rock_addJoint_0 18 (q := (34, .aload_n 0, 1)) rfl
theorem d_Rock_addJoint_35 : decode prog_6_method_4_code 35 = .ok (.getfield 20, 3) := zdt v_Rock_addJoint_0 19 (q := (35, .getfield 20, 3)) rfl
theorem d_Rock_addJoint_38 : decode prog_6_method_4_code 38 = .ok (.getfield 100, 3) := zdt v_Rock_addJoint_0 20 (q := (38, .getfield 100, 3)) rfl
theorem d_Rock_addJoint_41 : decode prog_6_method_4_code 41 = .ok (.iastore, 1) := zdt v_Rock_addJoint_0 21 (q := (41, .iastore, 1)) rfl
theorem d_Rock_addJoint_42 : decode prog_6_method_4_code 42 = .ok (.aload_n 0, 1) := zdt v_Rock_addJoint_0 22 (q := (42, .aload_n 0, 1)) rfl
theorem d_Rock_addJoint_43 : decode prog_6_method_4_code 43 = .ok (.aload_n 0, 1) := zdt v_Rock_addJoint_0 23 (q := (43, .aload_n 0, 1)) rfl
theorem d_Rock_addJoint_44 : decode prog_6_method_4_code 44 = .ok (.getfield 37, 3) := zdt v_Rock_addJoint_0 24 (q := (44, .getfield 37, 3)) rfl
theorem d_Rock_addJoint_47 : decode prog_6_method_4_code 47 = .ok (.invokevirtual 80, 3) := zdt v_Rock_addJoint_0 25 (q := (47, .invokevirtual 80, 3)) rfl
theorem d_Rock_addJoint_50 : decode prog_6_method_4_code 50 = .ok (.aload_n 0, 1) := zdt v_Rock_addJoint_0 26 (q := (50, .aload_n 0, 1)) rfl
theorem d_Rock_addJoint_51 : decode prog_6_method_4_code 51 = .ok (.dup, 1) := zdt v_Rock_addJoint_0 27 (q := (51, .dup, 1)) rfl
theorem d_Rock_addJoint_52 : decode prog_6_method_4_code 52 = .ok (.getfield 37, 3) := zdt v_Rock_addJoint_0 28 (q := (52, .getfield 37, 3)) rfl
theorem d_Rock_addJoint_55 : decode prog_6_method_4_code 55 = .ok (.iconst 1, 1) := zdt v_Rock_addJoint_0 29 (q := (55, .iconst 1, 1)) rfl
theorem d_Rock_addJoint_56 : decode prog_6_method_4_code 56 = .ok (.iadd, 1) := zdt v_Rock_addJoint_0 30 (q := (56, .iadd, 1)) rfl
theorem d_Rock_addJoint_57 : decode prog_6_method_4_code 57 = .ok (.putfield 37, 3) := zdt v_Rock_addJoint_0 31 (q := (57, .putfield 37, 3)) rfl
theorem d_Rock_addJoint_60 : decode prog_6_method_4_code 60 = .ok (.aload_n 0, 1) := zdt v_Rock_addJoint_0 32 (q := (60, .aload_n 0, 1)) rfl
theorem d_Rock_addJoint_61 : decode prog_6_method_4_code 61 = .ok (.invokevirtual 84, 3) := zdt v_Rock_addJoint_0 33 (q := (61, .invokevirtual 84, 3)) rfl
theorem d_Rock_addJoint_64 : decode prog_6_method_4_code 64 = .ok (.return_, 1) := zdt v_Rock_addJoint_0 34 (q := (64, .return_, 1)) rfl
def u_Rock_countWholePoints_0 : List (Nat × Instr × Nat) := [(0, .iconst 0, 1), (1, .istore_n 2, 1), (2, .iconst 1, 1), (3, .istore_n 3, 1), (4, .iload_n 3, 1), (5, .aload_n 0, 1), (6, .getfield 66, 3), (9, .if_icmp .ge 66, 3), (12, .iconst 1, 1), (13, .istore 4, 2), (15, .iload 4, 2), (17, .aload_n 0, 1), (18, .getfield 69, 3), (21, .if_icmp .ge 48, 3), (24, .iconst 1, 1), (25, .istore 5, 2), (27, .iload 5, 2), (29, .aload_n 0, 1), (30, .getfield 72, 3), (33, .if_icmp .ge 30, 3), (36, .aload_n 0, 1), (37, .aload_n 0, 1), (38, .getfield 24, 3), (41, .iload_n 1, 1), (42, .iaload, 1), (43, .iload_n 3, 1), (44, .iload 4, 2), (46, .iload 5, 2), (48, .invokevirtual 117, 3), (51, .ifCond .eq 6, 3), (54, .iinc 2 1, 3), (57, .iinc 5 1, 3), (60, .goto (-33), 3), (63, .iinc 4 1, 3), (66, .goto (-51), 3), (69, .iinc 3 1, 3), (72, .goto (-68), 3), (75, .iload_n 2, 1), (76, .ireturn, 1)]
theorem v_Rock_countWholePoints_0 : u_Rock_countWholePoints_0.all (zdq prog_6_method_8_code) = true := by decide +kernel
theorem d_Rock_countWholePoints_0 : decode prog_6_method_8_code 0 = .ok (.iconst 0, 1) := zdt v_Rock_countWholePoints_0 0 (q := (0, .iconst 0, 1)) rfl
theorem d_Rock_countWholePoints_1 : decode prog_6_method_8_code 1 = .ok (.istore_n 2, 1) := zdt v_Rock_countWholePoints_0 1 (q := (1, .istore_n 2, 1)) rfl
theorem d_Rock_countWholePoints_2 : decode prog_6_method_8_code 2 = .ok (.iconst 1, 1) := zdt v_Rock_countWholePoints_0 2 (q := (2, .iconst 1, 1)) rfl
theorem d_Rock_countWholePoints_3 : decode prog_6_method_8_code 3 = .ok (.istore_n 3, 1) := zdt v_Rock_countWholePoints_0 3 (q := (3, .istore_n 3, 1)) rfl
theorem d_Rock_countWholePoints_4 : decode prog_6_method_8_code 4 = .ok (.iload_n 3, 1) := zdt v_Rock_countWholePoints_0 4 (q := (4, .iload_n 3, 1)) rfl
theorem d_Rock_countWholePoints_5 : decode prog_6_method_8_code 5 = .ok (.aload_n 0, 1) := zdt v_Rock_countWholePoints_0 5 (q := (5, .aload_n 0, 1)) rfl
theorem d_Rock_countWholePoints_6 : decode prog_6_method_8_code 6 = .ok (.getfield 66, 3) := zdt v_Rock_countWholePoints_0 6 (q := (6, .getfield 66, 3)) rfl
theorem d_Rock_countWholePoints_9 : decode prog_6_method_8_code 9 = .ok (.if_icmp .ge 66, 3) := zdt v_Rock_countWholePoints_0 7 (q := (9, .if_icmp .ge 66, 3)) rfl
theorem d_Rock_countWholePoints_12 : decode prog_6_method_8_code 12 = .ok (.iconst 1, 1) := zdt v_Rock_countWholePoints_0 8 (q := (12, .iconst 1, 1)) rfl
theorem d_Rock_countWholePoints_13 : decode prog_6_method_8_code 13 = .ok (.istore 4, 2) := zdt v_Rock_countWholePoints_0 9 (q := (13, .istore 4, 2)) rfl
theorem d_Rock_countWholePoints_15 : decode prog_6_method_8_code 15 = .ok (.iload 4, 2) := zdt v_Rock_countWholePoints_0 10 (q := (15, .iload 4, 2)) rfl
theorem d_Rock_countWholePoints_17 : decode prog_6_method_8_code 17 = .ok (.aload_n 0, 1) := zdt v_Rock_countWholePoints_0 11 (q := (17, .aload_n 0, 1)) rfl
theorem d_Rock_countWholePoints_18 : decode prog_6_method_8_code 18 = .ok (.getfield 69, 3) := zdt v_Rock_countWholePoints_0 12 (q := (18, .getfield 69, 3)) rfl
theorem d_Rock_countWholePoints_21 : decode prog_6_method_8_code 21 = .ok (.if_icmp .ge 48, 3) := zdt v_Rock_countWholePoints_0 13 (q := (21, .if_icmp .ge 48, 3)) rfl
theorem d_Rock_countWholePoints_24 : decode prog_6_method_8_code 24 = .ok (.iconst 1, 1) := zdt v_Rock_countWholePoints_0 14 (q := (24, .iconst 1, 1)) rfl
theorem d_Rock_countWholePoints_25 : decode prog_6_method_8_code 25 = .ok (.istore 5, 2) := zdt v_Rock_countWholePoints_0 15 (q := (25, .istore 5, 2)) rfl
theorem d_Rock_countWholePoints_27 : decode prog_6_method_8_code 27 = .ok (.iload 5, 2) := zdt v_Rock_countWholePoints_0 16 (q := (27, .iload 5, 2)) rfl
theorem d_Rock_countWholePoints_29 : decode prog_6_method_8_code 29 = .ok (.aload_n 0, 1) := zdt v_Rock_countWholePoints_0 17 (q := (29, .aload_n 0, 1)) rfl
theorem d_Rock_countWholePoints_30 : decode prog_6_method_8_code 30 = .ok (.getfield 72, 3) := zdt v_Rock_countWholePoints_0 18 (q := (30, .getfield 72, 3)) rfl
theorem d_Rock_countWholePoints_33 : decode prog_6_method_8_code 33 = .ok (.if_icmp .ge 30, 3) := zdt v_Rock_countWholePoints_0 19 (q := (33, .if_icmp .ge 30, 3)) rfl
theorem d_Rock_countWholePoints_36 : decode prog_6_method_8_code 36 = .ok (.aload_n 0, 1) := zdt v_Rock_countWholePoints_0 20 (q := (36, .aload_n 0, 1)) rfl
theorem d_Rock_countWholePoints_37 : decode prog_6_method_8_code 37 = .ok (.aload_n 0, 1) := zdt v_Rock_countWholePoints_0 21 (q := (37, .aload_n 0, 1)) rfl
theorem d_Rock_countWholePoints_38 : decode prog_6_method_8_code 38 = .ok (.getfield 24, 3) := zdt v_Rock_countWholePoints_0 22 (q := (38, .getfield 24, 3)) rfl
theorem d_Rock_countWholePoints_41 : decode prog_6_method_8_code 41 = .ok (.iload_n 1, 1) := zdt v_Rock_countWholePoints_0 23 (q := (41, .iload_n 1, 1)) rfl
theorem d_Rock_countWholePoints_42 : decode prog_6_method_8_code 42 = .ok (.iaload, 1) := zdt v_Rock_countWholePoints_0 24 (q := (42, .iaload, 1)) rfl
theorem d_Rock_countWholePoints_43 : decode prog_6_method_8_code 43 = .ok (.iload_n 3, 1) := zdt v_Rock_countWholePoints_0 25 (q := (43, .iload_n 3, 1)) rfl
theorem d_Rock_countWholePoints_44 : decode prog_6_method_8_code 44 = .ok (.iload 4, 2) := zdt v_Rock_countWholePoints_0 26 (q := (44, .iload 4, 2)) rfl
theorem d_Rock_countWholePoints_46 : decode prog_6_method_8_code 46 = .ok (.iload 5, 2) := zdt v_Rock_countWholePoints_0 27 (q := (46, .iload 5, 2)) rfl
theorem d_Rock_countWholePoints_48 : decode prog_6_method_8_code 48 = .ok (.invokevirtual 117, 3) := zdt v_Rock_countWholePoints_0 28 (q := (48, .invokevirtual 117, 3)) rfl
theorem d_Rock_countWholePoints_51 : decode prog_6_method_8_code 51 = .ok (.ifCond .eq 6, 3) := zdt v_Rock_countWholePoints_0 29 (q := (51, .ifCond .eq 6, 3)) rfl
theorem d_Rock_countWholePoints_54 : decode prog_6_method_8_code 54 = .ok (.iinc 2 1, 3) := zdt v_Rock_countWholePoints_0 30 (q := (54, .iinc 2 1, 3)) rfl
theorem d_Rock_countWholePoints_57 : decode prog_6_method_8_code 57 = .ok (.iinc 5 1, 3) := zdt v_Rock_countWholePoints_0 31 (q := (57, .iinc 5 1, 3)) rfl
theorem d_Rock_countWholePoints_60 : decode prog_6_method_8_code 60 = .ok (.goto (-33), 3) := zdt v_Rock_countWholePoints_0 32 (q := (60, .goto (-33), 3)) rfl
theorem d_Rock_countWholePoints_63 : decode prog_6_method_8_code 63 = .ok (.iinc 4 1, 3) := zdt v_Rock_countWholePoints_0 33 (q := (63, .iinc 4 1, 3)) rfl
theorem d_Rock_countWholePoints_66 : decode prog_6_method_8_code 66 = .ok (.goto (-51), 3) := zdt v_Rock_countWholePoints_0 34 (q := (66, .goto (-51), 3)) rfl
theorem d_Rock_countWholePoints_69 : decode prog_6_method_8_code 69 = .ok (.iinc 3 1, 3) := zdt v_Rock_countWholePoints_0 35 (q := (69, .iinc 3 1, 3)) rfl
theorem d_Rock_countWholePoints_72 : decode prog_6_method_8_code 72 = .ok (.goto (-68), 3) := zdt v_Rock_countWholePoints_0 36 (q := (72, .goto (-68), 3)) rfl
theorem d_Rock_countWholePoints_75 : decode prog_6_method_8_code 75 = .ok (.iload_n 2, 1) := zdt v_Rock_countWholePoints_0 37 (q := (75, .iload_n 2, 1)) rfl
theorem d_Rock_countWholePoints_76 : decode prog_6_method_8_code 76 = .ok (.ireturn, 1) := zdt v_Rock_countWholePoints_0 38 (q := (76, .ireturn, 1)) rfl
def u_Rock_isOnSides_0 : List (Nat × Instr × Nat) := [(0, .iconst 0, 1), (1, .istore 5, 2), (3, .iload 5, 2), (5, .aload_n 0, 1), (6, .getfield 37, 3), (9, .if_icmp .ge 52, 3), (12, .aload_n 0, 1), (13, .getfield 11, 3), (16, .iload 5, 2), (18, .aaload, 1), (19, .iload_n 2, 1), (20, .iload_n 3, 1), (21, .iload 4, 2), (23, .iconst 1, 1), (24, .invokevirtual 120, 3), (27, .istore 6, 2), (29, .iload 6, 2), (31, .ifCond .eq 22, 3), (34, .iload 6, 2), (36, .ifCond .le 7, 3), (39, .iconst 1, 1), (40, .goto 4, 3), (43, .iconst 0, 1), (44, .iload_n 1, 1), (45, .iload 5, 2), (47, .invokestatic 107, 3), (50, .if_icmp .eq 5, 3), (53, .iconst 0, 1), (54, .ireturn, 1), (55, .iinc 5 1, 3), (58, .goto (-55), 3), (61, .iconst 1, 1), (62, .ireturn, 1)]
theorem v_Rock_isOnSides_0 : u_Rock_isOnSides_0.all (zdq prog_6_method_9_code) = true := by decide +kernel
theorem d_Rock_isOnSides_0 : decode prog_6_method_9_code 0 = .ok (.iconst 0, 1) := zdt v_Rock_isOnSides_0 0 (q := (0, .iconst 0, 1)) rfl
theorem d_Rock_isOnSides_1 : decode prog_6_method_9_code 1 = .ok (.istore 5, 2) := zdt v_Rock_isOnSides_0 1 (q := (1, .istore 5, 2)) rfl
theorem d_Rock_isOnSides_3 : decode prog_6_method_9_code 3 = .ok (.iload 5, 2) := zdt v_Rock_isOnSides_0 2 (q := (3, .iload 5, 2)) rfl
theorem d_Rock_isOnSides_5 : decode prog_6_method_9_code 5 = .ok (.aload_n 0, 1) := zdt v_Rock_isOnSides_0 3 (q := (5, .aload_n 0, 1)) rfl
theorem d_Rock_isOnSides_6 : decode prog_6_method_9_code 6 = .ok (.getfield 37, 3) := zdt v_Rock_isOnSides_0 4 (q := (6, .getfield 37, 3)) rfl
theorem d_Rock_isOnSides_9 : decode prog_6_method_9_code 9 = .ok (.if_icmp .ge 52, 3) := zdt v_Rock_isOnSides_0 5 (q := (9, .if_icmp .ge 52, 3)) rfl
theorem d_Rock_isOnSides_12 : decode prog_6_method_9_code 12 = .ok (.aload_n 0, 1) := zdt v_Rock_isOnSides_0 6 (q := (12, .aload_n 0, 1)) rfl
theorem d_Rock_isOnSides_13 : decode prog_6_method_9_code 13 = .ok (.getfield 11, 3) := zdt v_Rock_isOnSides_0 7 (q := (13, .getfield 11, 3)) rfl
theorem d_Rock_isOnSides_16 : decode prog_6_method_9_code 16 = .ok (.iload 5, 2) := zdt v_Rock_isOnSides_0 8 (q := (16, .iload 5, 2)) rfl
theorem d_Rock_isOnSides_18 : decode prog_6_method_9_code 18 = .ok (.aaload, 1) := zdt v_Rock_isOnSides_0 9 (q := (18, .aaload, 1)) rfl
theorem d_Rock_isOnSides_19 : decode prog_6_method_9_code 19 = .ok (.iload_n 2, 1) := zdt v_Rock_isOnSides_0 10 (q := (19, .iload_n 2, 1)) rfl
theorem d_Rock_isOnSides_20 : decode prog_6_method_9_code 20 = .ok (.iload_n 3, 1) := zdt v_Rock_isOnSides_0 11 (q := (20, .iload_n 3, 1)) rfl
theorem d_Rock_isOnSides_21 : decode prog_6_method_9_code 21 = .ok (.iload 4, 2) := zdt v_Rock_isOnSides_0 12 (q := (21, .iload 4, 2)) rfl
theorem d_Rock_isOnSides_23 : decode prog_6_method_9_code 23 = .ok (.iconst 1, 1) := zdt v_Rock_isOnSides_0 13 (q := (23, .iconst 1, 1)) rfl
theorem d_Rock_isOnSides_24 : decode prog_6_method_9_code 24 = .ok (.invokevirtual 120, 3) := zdt v_Rock_isOnSides_0 14 (q := (24, .invokevirtual 120, 3)) rfl
theorem d_Rock_isOnSides_27 : decode prog_6_method_9_code 27 = .ok (.istore 6, 2) := zdt v_Rock_isOnSides_0 15 (q := (27, .istore 6, 2)) rfl
theorem d_Rock_isOnSides_29 : decode prog_6_method_9_code 29 = .ok (.iload 6, 2) := zdt v_Rock_isOnSides_0 16 (q := (29, .iload 6, 2)) rfl
theorem d_Rock_isOnSides_31 : decode prog_6_method_9_code 31 = .ok (.ifCond .eq 22, 3) := zdt v_Rock_isOnSides_0 17 (q := (31, .ifCond .eq 22, 3)) rfl
theorem d_Rock_isOnSides_34 : decode prog_6_method_9_code 34 = .ok (.iload 6, 2) := zdt v_Rock_isOnSides_0 18 (q := (34, .iload 6, 2)) rfl
theorem d_Rock_isOnSides_36 : decode prog_6_method_9_code 36 = .ok (.ifCond .le 7, 3) := zdt v_Rock_isOnSides_0 19 (q := (36, .ifCond .le 7, 3)) rfl
theorem d_Rock_isOnSides_39 : decode prog_6_method_9_code 39 = .ok (.iconst 1, 1) := zdt v_Rock_isOnSides_0 20 (q := (39, .iconst 1, 1)) rfl
theorem d_Rock_isOnSides_40 : decode prog_6_method_9_code 40 = .ok (.goto 4, 3) := zdt v_Rock_isOnSides_0 21 (q := (40, .goto 4, 3)) rfl
theorem d_Rock_isOnSides_43 : decode prog_6_method_9_code 43 = .ok (.iconst 0, 1) := zdt v_Rock_isOnSides_0 22 (q := (43, .iconst 0, 1)) rfl
theorem d_Rock_isOnSides_44 : decode prog_6_method_9_code 44 = .ok (.iload_n 1, 1) := zdt v_Rock_isOnSides_0 23 (q := (44, .iload_n 1, 1)) rfl
theorem d_Rock_isOnSides_45 : decode prog_6_method_9_code 45 = .ok (.iload 5, 2) := zdt v_Rock_isOnSides_0 24 (q := (45, .iload 5, 2)) rfl
theorem d_Rock_isOnSides_47 : decode prog_6_method_9_code 47 = .ok (.invokestatic 107, 3) := zdt v_Rock_isOnSides_0 25 (q := (47, .invokestatic 107, 3)) rfl
theorem d_Rock_isOnSides_50 : decode prog_6_method_9_code 50 = .ok (.if_icmp .eq 5, 3) := zdt v_Rock_isOnSides_0 26 (q := (50, .if_icmp .eq 5, 3)) rfl
theorem d_Rock_isOnSides_53 : decode prog_6_method_9_code 53 = .ok (.iconst 0, 1) := zdt v_Rock_isOnSides_0 27 (q := (53, .iconst 0, 1)) rfl
theorem d_Rock_isOnSides_54 : decode prog_6_method_9_code 54 = .ok (.ireturn, 1) := zdt v_Rock_isOnSides_0 28 (q := (54, .ireturn, 1)) rfl
theorem d_Rock_isOnSides_55 : decode prog_6_method_9_code 55 = .ok (.iinc 5 1, 3) := zdt v_Rock_isOnSides_0 29 (q := (55, .iinc 5 1, 3)) rfl
theorem d_Rock_isOnSides_58 : decode prog_6_method_9_code 58 = .ok (.goto (-55), 3) := zdt v_Rock_isOnSides_0 30 (q := (58, .goto (-55), 3)) rfl
theorem d_Rock_isOnSides_61 : decode prog_6_method_9_code 61 = .ok (.iconst 1, 1) := zdt v_Rock_isOnSides_0 31 (q := (61, .iconst 1, 1)) rfl
theorem d_Rock_isOnSides_62 : decode prog_6_method_9_code 62 = .ok (.ireturn, 1) := zdt v_Rock_isOnSides_0 32 (q := (62, .ireturn, 1)) rfl
def u_Rock_cornerPoint_0 : List (Nat × Instr × Nat) := [(0, .aload_n 0, 1), (1, .getfield 24, 3), (4, .iload_n 1, 1), (5, .iaload, 1), (6, .sipush 1344, 3), (9, .ior, 1), (10, .istore_n 3, 1), (11, .iconst 0, 1), (12, .istore 4, 2), (14, .iconst 0, 1), (15, .istore 5, 2), (17, .iload 5, 2), (19, .aload_n 0, 1), (20, .getfield 20, 3), (23, .getfield 100, 3), (26, .if_icmp .ge 33, 3), (29, .aload_n 0, 1), (30, .getfield 20, 3), (33, .iload 5, 2), (35, .iload_n 3, 1), (36, .invokevirtual 111, 3), (39, .ifCond .eq 14, 3), (42, .aload_n 0, 1), (43, .iload 5, 2), (45, .iload 4, 2), (47, .invokevirtual 114, 3), (50, .iinc 4 1, 3), (53, .iinc 5 1, 3), (56, .goto (-39), 3), (59, .aload_n 0, 1), (60, .getfield 47, 3), (63, .iload_n 2, 1), (64, .iaload, 1), (65, .ireturn, 1)]
theorem v_Rock_cornerPoint_0 : u_Rock_cornerPoint_0.all (zdq prog_6_method_7_code) = true := by decide +kernel
theorem d_Rock_cornerPoint_0 : decode prog_6_method_7_code 0 = .ok (.aload_n 0, 1) := zdt v_Rock_cornerPoint_0 0 (q := (0, .aload_n 0, 1)) rfl
theorem d_Rock_cornerPoint_1 : decode prog_6_method_7_code 1 = .ok (.getfield 24, 3) := zdt v_Rock_cornerPoint_0 1 (q := (1, .getfield 24, 3)) rfl
theorem d_Rock_cornerPoint_4 : decode prog_6_method_7_code 4 = .ok (.iload_n 1, 1) := zdt v_Rock_cornerPoint_0 2 (q := (4, .iload_n 1, 1)) rfl
theorem d_Rock_cornerPoint_5 : decode prog_6_method_7_code 5 = .ok (.iaload, 1) := zdt v_Rock_cornerPoint_0 3 (q := (5, .iaload, 1)) rfl
theorem d_Rock_cornerPoint_6 : decode prog_6_method_7_code 6 = .ok (.sipush 1344, 3) := zdt v_Rock_cornerPoint_0 4 (q := (6, .sipush 1344, 3)) rfl
theorem d_Rock_cornerPoint_9 : decode prog_6_method_7_code 9 = .ok (.ior, 1) := zdt v_Rock_cornerPoint_0 5 (q := (9, .ior, 1)) rfl
theorem d_Rock_cornerPoint_10 : decode prog_6_method_7_code 10 = .ok (.istore_n 3, 1) := zdt v_Rock_cornerPoint_0 6 (q := (10, .istore_n 3, 1)) rfl
theorem d_Rock_cornerPoint_11 : decode prog_6_method_7_code 11 = .ok (.iconst 0, 1) := zdt v_Rock_cornerPoint_0 7 (q := (11, .iconst 0, 1)) rfl
theorem d_Rock_cornerPoint_12 : decode prog_6_method_7_code 12 = .ok (.istore 4, 2) := zdt v_Rock_cornerPoint_0 8 (q := (12, .istore 4, 2)) rfl
theorem d_Rock_cornerPoint_14 : decode prog_6_method_7_code 14 = .ok (.iconst 0, 1) := zdt v_Rock_cornerPoint_0 9 (q := (14, .iconst 0, 1)) rfl
theorem d_Rock_cornerPoint_15 : decode prog_6_method_7_code 15 = .ok (.istore 5, 2) := zdt v_Rock_cornerPoint_0 10 (q := (15, .istore 5, 2)) rfl
theorem d_Rock_cornerPoint_17 : decode prog_6_method_7_code 17 = .ok (.iload 5, 2) := zdt v_Rock_cornerPoint_0 11 (q := (17, .iload 5, 2)) rfl
theorem d_Rock_cornerPoint_19 : decode prog_6_method_7_code 19 = .ok (.aload_n 0, 1) := zdt v_Rock_cornerPoint_0 12 (q := (19, .aload_n 0, 1)) rfl
theorem d_Rock_cornerPoint_20 : decode prog_6_method_7_code 20 = .ok (.getfield 20, 3) := zdt v_Rock_cornerPoint_0 13 (q := (20, .getfield 20, 3)) rfl
theorem d_Rock_cornerPoint_23 : decode prog_6_method_7_code 23 = .ok (.getfield 100, 3) := zdt v_Rock_cornerPoint_0 14 (q := (23, .getfield 100, 3)) rfl
theorem d_Rock_cornerPoint_26 : decode prog_6_method_7_code 26 = .ok (.if_icmp .ge 33, 3) := zdt v_Rock_cornerPoint_0 15 (q := (26, .if_icmp .ge 33, 3)) rfl
theorem d_Rock_cornerPoint_29 : decode prog_6_method_7_code 29 = .ok (.aload_n 0, 1) := zdt v_Rock_cornerPoint_0 16 (q := (29, .aload_n 0, 1)) rfl
theorem d_Rock_cornerPoint_30 : decode prog_6_method_7_code 30 = .ok (.getfield 20, 3) := zdt v_Rock_cornerPoint_0 17 (q := (30, .getfield 20, 3)) rfl
theorem d_Rock_cornerPoint_33 : decode prog_6_method_7_code 33 = .ok (.iload 5, 2) := zdt v_Rock_cornerPoint_0 18 (q := (33, .iload 5, 2)) rfl
theorem d_Rock_cornerPoint_35 : decode prog_6_method_7_code 35 = .ok (.iload_n 3, 1) := zdt v_Rock_cornerPoint_0 19 (q := (35, .iload_n 3, 1)) rfl
theorem d_Rock_cornerPoint_36 : decode prog_6_method_7_code 36 = .ok (.invokevirtual 111, 3) := zdt v_Rock_cornerPoint_0 20 (q := (36, .invokevirtual 111, 3)) rfl
theorem d_Rock_cornerPoint_39 : decode prog_6_method_7_code 39 = .ok (.ifCond .eq 14, 3) := zdt v_Rock_cornerPoint_0 21 (q := (39, .ifCond .eq 14, 3)) rfl
theorem d_Rock_cornerPoint_42 : decode prog_6_method_7_code 42 = .ok (.aload_n 0, 1) := zdt v_Rock_cornerPoint_0 22 (q := (42, .aload_n 0, 1)) rfl
theorem d_Rock_cornerPoint_43 : decode prog_6_method_7_code 43 = .ok (.iload 5, 2) := zdt v_Rock_cornerPoint_0 23 (q := (43, .iload 5, 2)) rfl
theorem d_Rock_cornerPoint_45 : decode prog_6_method_7_code 45 = .ok (.iload 4, 2) := zdt v_Rock_cornerPoint_0 24 (q := (45, .iload 4, 2)) rfl
theorem d_Rock_cornerPoint_47 : decode prog_6_method_7_code 47 = .ok (.invokevirtual 114, 3) := zdt v_Rock_cornerPoint_0 25 (q := (47, .invokevirtual 114, 3)) rfl
theorem d_Rock_cornerPoint_50 : decode prog_6_method_7_code 50 = .ok (.iinc 4 1, 3) := zdt v_Rock_cornerPoint_0 26 (q := (50, .iinc 4 1, 3)) rfl
theorem d_Rock_cornerPoint_53 : decode prog_6_method_7_code 53 = .ok (.iinc 5 1, 3) := zdt v_Rock_cornerPoint_0 27 (q := (53, .iinc 5 1, 3)) rfl
theorem d_Rock_cornerPoint_56 : decode prog_6_method_7_code 56 = .ok (.goto (-39), 3) := zdt v_Rock_cornerPoint_0 28 (q := (56, .goto (-39), 3)) rfl
theorem d_Rock_cornerPoint_59 : decode prog_6_method_7_code 59 = .ok (.aload_n 0, 1) := zdt v_Rock_cornerPoint_0 29 (q := (59, .aload_n 0, 1)) rfl
theorem d_Rock_cornerPoint_60 : decode prog_6_method_7_code 60 = .ok (.getfield 47, 3) := zdt v_Rock_cornerPoint_0 30 (q := (60, .getfield 47, 3)) rfl
theorem d_Rock_cornerPoint_63 : decode prog_6_method_7_code 63 = .ok (.iload_n 2, 1) := zdt v_Rock_cornerPoint_0 31 (q := (63, .iload_n 2, 1)) rfl
theorem d_Rock_cornerPoint_64 : decode prog_6_method_7_code 64 = .ok (.iaload, 1) := zdt v_Rock_cornerPoint_0 32 (q := (64, .iaload, 1)) rfl
theorem d_Rock_cornerPoint_65 : decode prog_6_method_7_code 65 = .ok (.ireturn, 1) := zdt v_Rock_cornerPoint_0 33 (q := (65, .ireturn, 1)) rfl
def u_Rock_sortIn_0 : List (Nat × Instr × Nat) := [(0, .iload_n 2, 1), (1, .istore_n 3, 1), (2, .iload_n 3, 1), (3, .ifCond .le 42, 3), (6, .aload_n 0, 1), (7, .getfield 20, 3), (10, .iload_n 1, 1), (11, .aload_n 0, 1), (12, .getfield 47, 3), (15, .iload_n 3, 1), (16, .iconst 1, 1), (17, .isub, 1), (18, .iaload, 1), (19, .invokevirtual 124, 3), (22, .ifCond .eq 23, 3), (25, .aload_n 0, 1), (26, .getfield 47, 3), (29, .iload_n 3, 1), (30, .aload_n 0, 1), (31, .getfield 47, 3), (34, .iload_n 3, 1), (35, .iconst 1, 1), (36, .isub, 1), (37, .iaload, 1), (38, .iastore, 1), (39, .iinc 3 (-1), 3), (42, .goto (-40), 3), (45, .aload_n 0, 1), (46, .getfield 47, 3), (49, .iload_n 3, 1), (50, .iload_n 1, 1), (51, .iastore, 1), (52, .return_, 1)]
theorem v_Rock_sortIn_0 : u_Rock_sortIn_0.all (zdq prog_6_method_10_code) = true := by decide +kernel
theorem d_Rock_sortIn_0 : decode prog_6_method_10_code 0 = .ok (.iload_n 2, 1) := zdt v_Rock_sortIn_0 0 (q := (0, .iload_n 2, 1)) rfl
theorem d_Rock_sortIn_1 : decode prog_6_method_10_code 1 = .ok (.istore_n 3, 1) := zdt v_Rock_sortIn_0 1 (q := (1, .istore_n 3, 1)) rfl
theorem d_Rock_sortIn_2 : decode prog_6_method_10_code 2 = .ok (.iload_n 3, 1) := zdt v_Rock_sortIn_0 2 (q := (2, .iload_n 3, 1)) rfl
theorem d_Rock_sortIn_3 : decode prog_6_method_10_code 3 = .ok (.ifCond .le 42, 3) := zdt v_Rock_sortIn_0 3 (q := (3, .ifCond .le 42, 3)) rfl
theorem d_Rock_sortIn_6 : decode prog_6_method_10_code 6 = .ok (.aload_n 0, 1) := zdt v_Rock_sortIn_0 4 (q := (6, .aload_n 0, 1)) rfl
theorem d_Rock_sortIn_7 : decode prog_6_method_10_code 7 = .ok (.getfield 20, 3) := zdt v_Rock_sortIn_0 5 (q := (7, .getfield 20, 3)) rfl
theorem d_Rock_sortIn_10 : decode prog_6_method_10_code 10 = .ok (.iload_n 1, 1) := zdt v_Rock_sortIn_0 6 (q := (10, .iload_n 1, 1)) rfl
theorem d_Rock_sortIn_11 : decode prog_6_method_10_code 11 = .ok (.aload_n 0, 1) := zdt v_Rock_sortIn_0 7 (q := (11, .aload_n 0, 1)) rfl
theorem d_Rock_sortIn_12 : decode prog_6_method_10_code 12 = .ok (.getfield 47, 3) := zdt v_Rock_sortIn_0 8 (q := (12, .getfield 47, 3)) rfl
theorem d_Rock_sortIn_15 : decode prog_6_method_10_code 15 = .ok (.iload_n 3, 1) := zdt v_Rock_sortIn_0 9 (q := (15, .iload_n 3, 1)) rfl
theorem d_Rock_sortIn_16 : decode prog_6_method_10_code 16 = .ok (.iconst 1, 1) := zdt v_Rock_sortIn_0 10 (q := (16, .iconst 1, 1)) rfl
theorem d_Rock_sortIn_17 : decode prog_6_method_10_code 17 = .ok (.isub, 1) := zdt v_Rock_sortIn_0 11 (q := (17, .isub, 1)) rfl
theorem d_Rock_sortIn_18 : decode prog_6_method_10_code 18 = .ok (.iaload, 1) := zdt v_Rock_sortIn_0 12 (q := (18, .iaload, 1)) rfl
theorem d_Rock_sortIn_19 : decode prog_6_method_10_code 19 = .ok (.invokevirtual 124, 3) := zdt v_Rock_sortIn_0 13 (q := (19, .invokevirtual 124, 3)) rfl
theorem d_Rock_sortIn_22 : decode prog_6_method_10_code 22 = .ok (.ifCond .eq 23, 3) := zdt v_Rock_sortIn_0 14 (q := (22, .ifCond .eq 23, 3)) rfl
theorem d_Rock_sortIn_25 : decode prog_6_method_10_code 25 = .ok (.aload_n 0, 1) := zdt v_Rock_sortIn_0 15 (q := (25, .aload_n 0, 1)) rfl
theorem d_Rock_sortIn_26 : decode prog_6_method_10_code 26 = .ok (.getfield 47, 3) := zdt v_Rock_sortIn_0 16 (q := (26, .getfield 47, 3)) rfl
theorem d_Rock_sortIn_29 : decode prog_6_method_10_code 29 = .ok (.iload_n 3, 1) := zdt v_Rock_sortIn_0 17 (q := (29, .iload_n 3, 1)) rfl
theorem d_Rock_sortIn_30 : decode prog_6_method_10_code 30 = .ok (.aload_n 0, 1) := zdt v_Rock_sortIn_0 18 (q := (30, .aload_n 0, 1)) rfl
theorem d_Rock_sortIn_31 : decode prog_6_method_10_code 31 = .ok (.getfield 47, 3) := zdt v_Rock_sortIn_0 19 (q := (31, .getfield 47, 3)) rfl
theorem d_Rock_sortIn_34 : decode prog_6_method_10_code 34 = .ok (.iload_n 3, 1) := zdt v_Rock_sortIn_0 20 (q := (34, .iload_n 3, 1)) rfl
theorem d_Rock_sortIn_35 : decode prog_6_method_10_code 35 = .ok (.iconst 1, 1) := zdt v_Rock_sortIn_0 21 (q := (35, .iconst 1, 1)) rfl
theorem d_Rock_sortIn_36 : decode prog_6_method_10_code 36 = .ok (.isub, 1) := zdt v_Rock_sortIn_0 22 (q := (36, .isub, 1)) rfl
theorem d_Rock_sortIn_37 : decode prog_6_method_10_code 37 = .ok (.iaload, 1) := zdt v_Rock_sortIn_0 23 (q := (37, .iaload, 1)) rfl
theorem d_Rock_sortIn_38 : decode prog_6_method_10_code 38 = .ok (.iastore, 1) := zdt v_Rock_sortIn_0 24 (q := (38, .iastore, 1)) rfl
theorem d_Rock_sortIn_39 : decode prog_6_method_10_code 39 = .ok (.iinc 3 (-1), 3) := zdt v_Rock_sortIn_0 25 (q := (39, .iinc 3 (-1), 3)) rfl
theorem d_Rock_sortIn_42 : decode prog_6_method_10_code 42 = .ok (.goto (-40), 3) := zdt v_Rock_sortIn_0 26 (q := (42, .goto (-40), 3)) rfl
theorem d_Rock_sortIn_45 : decode prog_6_method_10_code 45 = .ok (.aload_n 0, 1) := zdt v_Rock_sortIn_0 27 (q := (45, .aload_n 0, 1)) rfl
theorem d_Rock_sortIn_46 : decode prog_6_method_10_code 46 = .ok (.getfield 47, 3) := zdt v_Rock_sortIn_0 28 (q := (46, .getfield 47, 3)) rfl
theorem d_Rock_sortIn_49 : decode prog_6_method_10_code 49 = .ok (.iload_n 3, 1) := zdt v_Rock_sortIn_0 29 (q := (49, .iload_n 3, 1)) rfl
theorem d_Rock_sortIn_50 : decode prog_6_method_10_code 50 = .ok (.iload_n 1, 1) := zdt v_Rock_sortIn_0 30 (q := (50, .iload_n 1, 1)) rfl
theorem d_Rock_sortIn_51 : decode prog_6_method_10_code 51 = .ok (.iastore, 1) := zdt v_Rock_sortIn_0 31 (q := (51, .iastore, 1)) rfl
theorem d_Rock_sortIn_52 : decode prog_6_method_10_code 52 = .ok (.return_, 1) := zdt v_Rock_sortIn_0 32 (q := (52, .return_, 1)) rfl
def u_Points_isBefore_0 : List (Nat × Instr × Nat) := [(0, .aload_n 0, 1), (1, .getfield 9, 3), (4, .iload_n 1, 1), (5, .iaload, 1), (6, .aload_n 0, 1), (7, .getfield 19, 3), (10, .iload_n 2, 1), (11, .iaload, 1), (12, .imul, 1), (13, .aload_n 0, 1), (14, .getfield 9, 3), (17, .iload_n 2, 1), (18, .iaload, 1), (19, .aload_n 0, 1), (20, .getfield 19, 3), (23, .iload_n 1, 1), (24, .iaload, 1), (25, .imul, 1), (26, .invokestatic 38, 3), (29, .istore_n 3, 1), (30, .aload_n 0, 1), (31, .getfield 13, 3), (34, .iload_n 1, 1), (35, .iaload, 1), (36, .aload_n 0, 1), (37, .getfield 19, 3), (40, .iload_n 2, 1), (41, .iaload, 1), (42, .imul, 1), (43, .aload_n 0, 1), (44, .getfield 13, 3), (47, .iload_n 2, 1), (48, .iaload, 1), (49, .aload_n 0, 1), (50, .getfield 19, 3), (53, .iload_n 1, 1), (54, .iaload, 1), (55, .imul, 1), (56, .invokestatic 38, 3), (59, .istore 4, 2)]
theorem v_Points_isBefore_0 : u_Points_isBefore_0.all (zdq prog_5_method_7_code) = true := by decide +kernel
theorem d_Points_isBefore_0 : decode prog_5_method_7_code 0 = .ok (.aload_n 0, 1) := zdt v_Points_isBefore_0 0 (q := (0, .aload_n 0, 1)) rfl
theorem d_Points_isBefore_1 : decode prog_5_method_7_code 1 = .ok (.getfield 9, 3) := zdt v_Points_isBefore_0 1 (q := (1, .getfield 9, 3)) rfl
theorem d_Points_isBefore_4 : decode prog_5_method_7_code 4 = .ok (.iload_n 1, 1) := zdt v_Points_isBefore_0 2 (q := (4, .iload_n 1, 1)) rfl
theorem d_Points_isBefore_5 : decode prog_5_method_7_code 5 = .ok (.iaload, 1) := zdt v_Points_isBefore_0 3 (q := (5, .iaload, 1)) rfl
theorem d_Points_isBefore_6 : decode prog_5_method_7_code 6 = .ok (.aload_n 0, 1) := zdt v_Points_isBefore_0 4 (q := (6, .aload_n 0, 1)) rfl
theorem d_Points_isBefore_7 : decode prog_5_method_7_code 7 = .ok (.getfield 19, 3) := zdt v_Points_isBefore_0 5 (q := (7, .getfield 19, 3)) rfl
theorem d_Points_isBefore_10 : decode prog_5_method_7_code 10 = .ok (.iload_n 2, 1) := zdt v_Points_isBefore_0 6 (q := (10, .iload_n 2, 1)) rfl
theorem d_Points_isBefore_11 : decode prog_5_method_7_code 11 = .ok (.iaload, 1) := zdt v_Points_isBefore_0 7 (q := (11, .iaload, 1)) rfl
theorem d_Points_isBefore_12 : decode prog_5_method_7_code 12 = .ok (.imul, 1) := zdt v_Points_isBefore_0 8 (q := (12, .imul, 1)) rfl
theorem d_Points_isBefore_13 : decode prog_5_method_7_code 13 = .ok (.aload_n 0, 1) := zdt v_Points_isBefore_0 9 (q := (13, .aload_n 0, 1)) rfl
theorem d_Points_isBefore_14 : decode prog_5_method_7_code 14 = .ok (.getfield 9, 3) := zdt v_Points_isBefore_0 10 (q := (14, .getfield 9, 3)) rfl
theorem d_Points_isBefore_17 : decode prog_5_method_7_code 17 = .ok (.iload_n 2, 1) := zdt v_Points_isBefore_0 11 (q := (17, .iload_n 2, 1)) rfl
theorem d_Points_isBefore_18 : decode prog_5_method_7_code 18 = .ok (.iaload, 1) := zdt v_Points_isBefore_0 12 (q := (18, .iaload, 1)) rfl
theorem d_Points_isBefore_19 : decode prog_5_method_7_code 19 = .ok (.aload_n 0, 1) := zdt v_Points_isBefore_0 13 (q := (19, .aload_n 0, 1)) rfl
theorem d_Points_isBefore_20 : decode prog_5_method_7_code 20 = .ok (.getfield 19, 3) := zdt v_Points_isBefore_0 14 (q := (20, .getfield 19, 3)) rfl
theorem d_Points_isBefore_23 : decode prog_5_method_7_code 23 = .ok (.iload_n 1, 1) := zdt v_Points_isBefore_0 15 (q := (23, .iload_n 1, 1)) rfl
theorem d_Points_isBefore_24 : decode prog_5_method_7_code 24 = .ok (.iaload, 1) := zdt v_Points_isBefore_0 16 (q := (24, .iaload, 1)) rfl
theorem d_Points_isBefore_25 : decode prog_5_method_7_code 25 = .ok (.imul, 1) := zdt v_Points_isBefore_0 17 (q := (25, .imul, 1)) rfl
theorem d_Points_isBefore_26 : decode prog_5_method_7_code 26 = .ok (.invokestatic 38, 3) := zdt v_Points_isBefore_0 18 (q := (26, .invokestatic 38, 3)) rfl
theorem d_Points_isBefore_29 : decode prog_5_method_7_code 29 = .ok (.istore_n 3, 1) := zdt v_Points_isBefore_0 19 (q := (29, .istore_n 3, 1)) rfl
theorem d_Points_isBefore_30 : decode prog_5_method_7_code 30 = .ok (.aload_n 0, 1) := zdt v_Points_isBefore_0 20 (q := (30, .aload_n 0, 1)) rfl
theorem d_Points_isBefore_31 : decode prog_5_method_7_code 31 = .ok (.getfield 13, 3) := zdt v_Points_isBefore_0 21 (q := (31, .getfield 13, 3)) rfl
theorem d_Points_isBefore_34 : decode prog_5_method_7_code 34 = .ok (.iload_n 1, 1) := zdt v_Points_isBefore_0 22 (q := (34, .iload_n 1, 1)) rfl
theorem d_Points_isBefore_35 : decode prog_5_method_7_code 35 = .ok (.iaload, 1) := zdt v_Points_isBefore_0 23 (q := (35, .iaload, 1)) rfl
theorem d_Points_isBefore_36 : decode prog_5_method_7_code 36 = .ok (.aload_n 0, 1) := zdt v_Points_isBefore_0 24 (q := (36, .aload_n 0, 1)) rfl
theorem d_Points_isBefore_37 : decode prog_5_method_7_code 37 = .ok (.getfield 19, 3) := zdt v_Points_isBefore_0 25 (q := (37, .getfield 19, 3)) rfl
theorem d_Points_isBefore_40 : decode prog_5_method_7_code 40 = .ok (.iload_n 2, 1) := zdt v_Points_isBefore_0 26 (q := (40, .iload_n 2, 1)) rfl
theorem d_Points_isBefore_41 : decode prog_5_method_7_code 41 = .ok (.iaload, 1) := zdt v_Points_isBefore_0 27 (q := (41, .iaload, 1)) rfl
theorem d_Points_isBefore_42 : decode prog_5_method_7_code 42 = .ok (.imul, 1) := zdt v_Points_isBefore_0 28 (q := (42, .imul, 1)) rfl
theorem d_Points_isBefore_43 : decode prog_5_method_7_code 43 = .ok (.aload_n 0, 1) := zdt v_Points_isBefore_0 29 (q := (43, .aload_n 0, 1)) rfl
theorem d_Points_isBefore_44 : decode prog_5_method_7_code 44 = .ok (.getfield 13, 3) := zdt v_Points_isBefore_0 30 (q := (44, .getfield 13, 3)) rfl
theorem d_Points_isBefore_47 : decode prog_5_method_7_code 47 = .ok (.iload_n 2, 1) := zdt v_Points_isBefore_0 31 (q := (47, .iload_n 2, 1)) rfl
theorem d_Points_isBefore_48 : decode prog_5_method_7_code 48 = .ok (.iaload, 1) := zdt v_Points_isBefore_0 32 (q := (48, .iaload, 1)) rfl
theorem d_Points_isBefore_49 : decode prog_5_method_7_code 49 = .ok (.aload_n 0, 1) := zdt v_Points_isBefore_0 33 (q := (49, .aload_n 0, 1)) rfl
theorem d_Points_isBefore_50 : decode prog_5_method_7_code 50 = .ok (.getfield 19, 3) := zdt v_Points_isBefore_0 34 (q := (50, .getfield 19, 3)) rfl
theorem d_Points_isBefore_53 : decode prog_5_method_7_code 53 = .ok (.iload_n 1, 1) := zdt v_Points_isBefore_0 35 (q := (53, .iload_n 1, 1)) rfl
theorem d_Points_isBefore_54 : decode prog_5_method_7_code 54 = .ok (.iaload, 1) := zdt v_Points_isBefore_0 36 (q := (54, .iaload, 1)) rfl
theorem d_Points_isBefore_55 : decode prog_5_method_7_code 55 = .ok (.imul, 1) := zdt v_Points_isBefore_0 37 (q := (55, .imul, 1)) rfl
theorem d_Points_isBefore_56 : decode prog_5_method_7_code 56 = .ok (.invokestatic 38, 3) := zdt v_Points_isBefore_0 38 (q := (56, .invokestatic 38, 3)) rfl
theorem d_Points_isBefore_59 : decode prog_5_method_7_code 59 = .ok (.istore 4, 2) := zdt v_Points_isBefore_0 39 (q := (59, .istore 4, 2)) rfl
def u_Points_isBefore_1 : List (Nat × Instr × Nat) := [(61, .aload_n 0, 1), (62, .getfield 16, 3), (65, .iload_n 1, 1), (66, .iaload, 1), (67, .aload_n 0, 1), (68, .getfield 19, 3), (71, .iload_n 2, 1), (72, .iaload, 1), (73, .imul, 1), (74, .aload_n 0, 1), (75, .getfield 16, 3), (78, .iload_n 2, 1), (79, .iaload, 1), (80, .aload_n 0, 1), (81, .getfield 19, 3), (84, .iload_n 1, 1), (85, .iaload, 1), (86, .imul, 1), (87, .invokestatic 38, 3), (90, .istore 5, 2), (92, .iload_n 3, 1), (93, .ifCond .lt 22, 3), (96, .iload_n 3, 1), (97, .ifCond .ne 22, 3), (100, .iload 4, 2), (102, .ifCond .lt 13, 3), (105, .iload 4, 2), (107, .ifCond .ne 12, 3), (110, .iload 5, 2), (112, .ifCond .ge 7, 3), (115, .iconst 1, 1), (116, .goto 4, 3), (119, .iconst 0, 1), (120, .ireturn, 1)]
theorem v_Points_isBefore_1 : u_Points_isBefore_1.all (zdq prog_5_method_7_code) = true := by decide +kernel
theorem d_Points_isBefore_61 : decode prog_5_method_7_code 61 = .ok (.aload_n 0, 1) := zdt v_Points_isBefore_1 0 (q := (61, .aload_n 0, 1)) rfl
theorem d_Points_isBefore_62 : decode prog_5_method_7_code 62 = .ok (.getfield 16, 3) := zdt v_Points_isBefore_1 1 (q := (62, .getfield 16, 3)) rfl
theorem d_Points_isBefore_65 : decode prog_5_method_7_code 65 = .ok (.iload_n 1, 1) := zdt v_Points_isBefore_1 2 (q := (65, .iload_n 1, 1)) rfl
theorem d_Points_isBefore_66 : decode prog_5_method_7_code 66 = .ok (.iaload, 1) := zdt v_Points_isBefore_1 3 (q := (66, .iaload, 1)) rfl
theorem d_Points_isBefore_67 : decode prog_5_method_7_code 67 = .ok (.aload_n 0, 1) := zdt v_Points_isBefore_1 4 (q := (67, .aload_n 0, 1)) rfl
theorem d_Points_isBefore_68 : decode prog_5_method_7_code 68 = .ok (.getfield 19, 3) := zdt v_Points_isBefore_1 5 (q := (68, .getfield 19, 3)) rfl
theorem d_Points_isBefore_71 : decode prog_5_method_7_code 71 = .ok (.iload_n 2, 1) := zdt v_Points_isBefore_1 6 (q := (71, .iload_n 2, 1)) rfl
theorem d_Points_isBefore_72 : decode prog_5_method_7_code 72 = .ok (.iaload, 1) := zdt v_Points_isBefore_1 7 (q := (72, .iaload, 1)) rfl
theorem d_Points_isBefore_73 : decode prog_5_method_7_code 73 = .ok (.imul, 1) := zdt v_Points_isBefore_1 8 (q := (73, .imul, 1)) rfl
theorem d_Points_isBefore_74 : decode prog_5_method_7_code 74 = .ok (.aload_n 0, 1) := zdt v_Points_isBefore_1 9 (q := (74, .aload_n 0, 1)) rfl
theorem d_Points_isBefore_75 : decode prog_5_method_7_code 75 = .ok (.getfield 16, 3) := zdt v_Points_isBefore_1 10 (q := (75, .getfield 16, 3)) rfl
theorem d_Points_isBefore_78 : decode prog_5_method_7_code 78 = .ok (.iload_n 2, 1) := zdt v_Points_isBefore_1 11 (q := (78, .iload_n 2, 1)) rfl
theorem d_Points_isBefore_79 : decode prog_5_method_7_code 79 = .ok (.iaload, 1) := zdt v_Points_isBefore_1 12 (q := (79, .iaload, 1)) rfl
theorem d_Points_isBefore_80 : decode prog_5_method_7_code 80 = .ok (.aload_n 0, 1) := zdt v_Points_isBefore_1 13 (q := (80, .aload_n 0, 1)) rfl
theorem d_Points_isBefore_81 : decode prog_5_method_7_code 81 = .ok (.getfield 19, 3) := zdt v_Points_isBefore_1 14 (q := (81, .getfield 19, 3)) rfl
theorem d_Points_isBefore_84 : decode prog_5_method_7_code 84 = .ok (.iload_n 1, 1) := zdt v_Points_isBefore_1 15 (q := (84, .iload_n 1, 1)) rfl
theorem d_Points_isBefore_85 : decode prog_5_method_7_code 85 = .ok (.iaload, 1) := zdt v_Points_isBefore_1 16 (q := (85, .iaload, 1)) rfl
theorem d_Points_isBefore_86 : decode prog_5_method_7_code 86 = .ok (.imul, 1) := zdt v_Points_isBefore_1 17 (q := (86, .imul, 1)) rfl
theorem d_Points_isBefore_87 : decode prog_5_method_7_code 87 = .ok (.invokestatic 38, 3) := zdt v_Points_isBefore_1 18 (q := (87, .invokestatic 38, 3)) rfl
theorem d_Points_isBefore_90 : decode prog_5_method_7_code 90 = .ok (.istore 5, 2) := zdt v_Points_isBefore_1 19 (q := (90, .istore 5, 2)) rfl
theorem d_Points_isBefore_92 : decode prog_5_method_7_code 92 = .ok (.iload_n 3, 1) := zdt v_Points_isBefore_1 20 (q := (92, .iload_n 3, 1)) rfl
theorem d_Points_isBefore_93 : decode prog_5_method_7_code 93 = .ok (.ifCond .lt 22, 3) := zdt v_Points_isBefore_1 21 (q := (93, .ifCond .lt 22, 3)) rfl
theorem d_Points_isBefore_96 : decode prog_5_method_7_code 96 = .ok (.iload_n 3, 1) := zdt v_Points_isBefore_1 22 (q := (96, .iload_n 3, 1)) rfl
theorem d_Points_isBefore_97 : decode prog_5_method_7_code 97 = .ok (.ifCond .ne 22, 3) := zdt v_Points_isBefore_1 23 (q := (97, .ifCond .ne 22, 3)) rfl
theorem d_Points_isBefore_100 : decode prog_5_method_7_code 100 = .ok (.iload 4, 2) := zdt v_Points_isBefore_1 24 (q := (100, .iload 4, 2)) rfl
theorem d_Points_isBefore_102 : decode prog_5_method_7_code 102 = .ok (.ifCond .lt 13, 3) := zdt v_Points_isBefore_1 25 (q := (102, .ifCond .lt 13, 3)) rfl
theorem d_Points_isBefore_105 : decode prog_5_method_7_code 105 = .ok (.iload 4, 2) := zdt v_Points_isBefore_1 26 (q := (105, .iload 4, 2)) rfl
theorem d_Points_isBefore_107 : decode prog_5_method_7_code 107 = .ok (.ifCond .ne 12, 3) := zdt v_Points_isBefore_1 27 (q := (107, .ifCond .ne 12, 3)) rfl
theorem d_Points_isBefore_110 : decode prog_5_method_7_code 110 = .ok (.iload 5, 2) := zdt v_Points_isBefore_1 28 (q := (110, .iload 5, 2)) rfl
theorem d_Points_isBefore_112 : decode prog_5_method_7_code 112 = .ok (.ifCond .ge 7, 3) := zdt v_Points_isBefore_1 29 (q := (112, .ifCond .ge 7, 3)) rfl
theorem d_Points_isBefore_115 : decode prog_5_method_7_code 115 = .ok (.iconst 1, 1) := zdt v_Points_isBefore_1 30 (q := (115, .iconst 1, 1)) rfl
theorem d_Points_isBefore_116 : decode prog_5_method_7_code 116 = .ok (.goto 4, 3) := zdt v_Points_isBefore_1 31 (q := (116, .goto 4, 3)) rfl
theorem d_Points_isBefore_119 : decode prog_5_method_7_code 119 = .ok (.iconst 0, 1) := zdt v_Points_isBefore_1 32 (q := (119, .iconst 0, 1)) rfl
theorem d_Points_isBefore_120 : decode prog_5_method_7_code 120 = .ok (.ireturn, 1) := zdt v_Points_isBefore_1 33 (q := (120, .ireturn, 1)) rfl
def u_Integer_compare_0 : List (Nat × Instr × Nat) := [(0, .iload_n 0, 1), (1, .iload_n 1, 1), (2, .if_icmp .ge 7, 3), (5, .iconst (-1), 1), (6, .goto 13, 3), (9, .iload_n 0, 1), (10, .iload_n 1, 1), (11, .if_icmp .ne 7, 3), (14, .iconst 0, 1), (15, .goto 4, 3), (18, .iconst 1, 1), (19, .ireturn, 1)]
theorem v_Integer_compare_0 : u_Integer_compare_0.all (zdq prog_13_method_40_code) = true := by decide +kernel
theorem d_Integer_compare_0 : decode prog_13_method_40_code 0 = .ok (.iload_n 0, 1) := zdt v_Integer_compare_0 0 (q := (0, .iload_n 0, 1)) rfl
theorem d_Integer_compare_1 : decode prog_13_method_40_code 1 = .ok (.iload_n 1, 1) := zdt v_Integer_compare_0 1 (q := (1, .iload_n 1, 1)) rfl
theorem d_Integer_compare_2 : decode prog_13_method_40_code 2 = .ok (.if_icmp .ge 7, 3) := zdt v_Integer_compare_0 2 (q := (2, .if_icmp .ge 7, 3)) rfl
theorem d_Integer_compare_5 : decode prog_13_method_40_code 5 = .ok (.iconst (-1), 1) := zdt v_Integer_compare_0 3 (q := (5, .iconst (-1), 1)) rfl
theorem d_Integer_compare_6 : decode prog_13_method_40_code 6 = .ok (.goto 13, 3) := zdt v_Integer_compare_0 4 (q := (6, .goto 13, 3)) rfl
theorem d_Integer_compare_9 : decode prog_13_method_40_code 9 = .ok (.iload_n 0, 1) := zdt v_Integer_compare_0 5 (q := (9, .iload_n 0, 1)) rfl
theorem d_Integer_compare_10 : decode prog_13_method_40_code 10 = .ok (.iload_n 1, 1) := zdt v_Integer_compare_0 6 (q := (10, .iload_n 1, 1)) rfl
theorem d_Integer_compare_11 : decode prog_13_method_40_code 11 = .ok (.if_icmp .ne 7, 3) := zdt v_Integer_compare_0 7 (q := (11, .if_icmp .ne 7, 3)) rfl
theorem d_Integer_compare_14 : decode prog_13_method_40_code 14 = .ok (.iconst 0, 1) := zdt v_Integer_compare_0 8 (q := (14, .iconst 0, 1)) rfl
theorem d_Integer_compare_15 : decode prog_13_method_40_code 15 = .ok (.goto 4, 3) := zdt v_Integer_compare_0 9 (q := (15, .goto 4, 3)) rfl
theorem d_Integer_compare_18 : decode prog_13_method_40_code 18 = .ok (.iconst 1, 1) := zdt v_Integer_compare_0 10 (q := (18, .iconst 1, 1)) rfl
theorem d_Integer_compare_19 : decode prog_13_method_40_code 19 = .ok (.ireturn, 1) := zdt v_Integer_compare_0 11 (q := (19, .ireturn, 1)) rfl
def u_Hold_answerTo_0 : List (Nat × Instr × Nat) := [(0, .aload_n 0, 1), (1, .aload_n 1, 1), (2, .invokevirtual 45, 3), (5, .ifCond .eq 5, 3), (8, .iconst 1, 1), (9, .ireturn, 1), (10, .iconst 0, 1), (11, .istore_n 2, 1), (12, .iload_n 2, 1), (13, .bipush 12, 2), (15, .if_icmp .ge 36, 3), (18, .aload_n 0, 1), (19, .getfield 25, 3), (22, .iload_n 2, 1), (23, .invokestatic 37, 3), (26, .ifCond .eq 19, 3), (29, .aload_n 0, 1), (30, .getfield 17, 3), (33, .iload_n 2, 1), (34, .aaload, 1), (35, .aload_n 1, 1), (36, .aload_n 0, 1), (37, .getfield 11, 3), (40, .iload_n 2, 1), (41, .aaload, 1), (42, .invokevirtual 49, 3), (45, .iinc 2 1, 3), (48, .goto (-36), 3), (51, .aload_n 0, 1), (52, .aload_n 1, 1), (53, .invokevirtual 53, 3), (56, .istore_n 2, 1), (57, .iload_n 2, 1), (58, .ifCond .eq 7, 3), (61, .iload_n 2, 1), (62, .goto 8, 3), (65, .aload_n 0, 1), (66, .aload_n 1, 1), (67, .invokevirtual 56, 3), (70, .ireturn, 1)]
theorem v_Hold_answerTo_0 : u_Hold_answerTo_0.all (zdq prog_3_method_5_code) = true := by decide +kernel
theorem d_Hold_answerTo_0 : decode prog_3_method_5_code 0 = .ok (.aload_n 0, 1) := zdt v_Hold_answerTo_0 0 (q := (0, .aload_n 0, 1)) rfl
theorem d_Hold_answerTo_1 : decode prog_3_method_5_code 1 = .ok (.aload_n 1, 1) := zdt v_Hold_answerTo_0 1 (q := (1, .aload_n 1, 1)) rfl
theorem d_Hold_answerTo_2 : decode prog_3_method_5_code 2 = .ok (.invokevirtual 45, 3) := zdt v_Hold_answerTo_0 2 (q := (2, .invokevirtual 45, 3)) rfl
theorem d_Hold_answerTo_5 : decode prog_3_method_5_code 5 = .ok (.ifCond .eq 5, 3) := zdt v_Hold_answerTo_0 3 (q := (5, .ifCond .eq 5, 3)) rfl
theorem d_Hold_answerTo_8 : decode prog_3_method_5_code 8 = .ok (.iconst 1, 1) := zdt v_Hold_answerTo_0 4 (q := (8, .iconst 1, 1)) rfl
theorem d_Hold_answerTo_9 : decode prog_3_method_5_code 9 = .ok (.ireturn, 1) := zdt v_Hold_answerTo_0 5 (q := (9, .ireturn, 1)) rfl
theorem d_Hold_answerTo_10 : decode prog_3_method_5_code 10 = .ok (.iconst 0, 1) := zdt v_Hold_answerTo_0 6 (q := (10, .iconst 0, 1)) rfl
theorem d_Hold_answerTo_11 : decode prog_3_method_5_code 11 = .ok (.istore_n 2, 1) := zdt v_Hold_answerTo_0 7 (q := (11, .istore_n 2, 1)) rfl
theorem d_Hold_answerTo_12 : decode prog_3_method_5_code 12 = .ok (.iload_n 2, 1) := zdt v_Hold_answerTo_0 8 (q := (12, .iload_n 2, 1)) rfl
theorem d_Hold_answerTo_13 : decode prog_3_method_5_code 13 = .ok (.bipush 12, 2) := zdt v_Hold_answerTo_0 9 (q := (13, .bipush 12, 2)) rfl
theorem d_Hold_answerTo_15 : decode prog_3_method_5_code 15 = .ok (.if_icmp .ge 36, 3) := zdt v_Hold_answerTo_0 10 (q := (15, .if_icmp .ge 36, 3)) rfl
theorem d_Hold_answerTo_18 : decode prog_3_method_5_code 18 = .ok (.aload_n 0, 1) := zdt v_Hold_answerTo_0 11 (q := (18, .aload_n 0, 1)) rfl
theorem d_Hold_answerTo_19 : decode prog_3_method_5_code 19 = .ok (.getfield 25, 3) := zdt v_Hold_answerTo_0 12 (q := (19, .getfield 25, 3)) rfl
theorem d_Hold_answerTo_22 : decode prog_3_method_5_code 22 = .ok (.iload_n 2, 1) := zdt v_Hold_answerTo_0 13 (q := (22, .iload_n 2, 1)) rfl
theorem d_Hold_answerTo_23 : decode prog_3_method_5_code 23 = .ok (.invokestatic 37, 3) := zdt v_Hold_answerTo_0 14 (q := (23, .invokestatic 37, 3)) rfl
theorem d_Hold_answerTo_26 : decode prog_3_method_5_code 26 = .ok (.ifCond .eq 19, 3) := zdt v_Hold_answerTo_0 15 (q := (26, .ifCond .eq 19, 3)) rfl
theorem d_Hold_answerTo_29 : decode prog_3_method_5_code 29 = .ok (.aload_n 0, 1) := zdt v_Hold_answerTo_0 16 (q := (29, .aload_n 0, 1)) rfl
theorem d_Hold_answerTo_30 : decode prog_3_method_5_code 30 = .ok (.getfield 17, 3) := zdt v_Hold_answerTo_0 17 (q := (30, .getfield 17, 3)) rfl
theorem d_Hold_answerTo_33 : decode prog_3_method_5_code 33 = .ok (.iload_n 2, 1) := zdt v_Hold_answerTo_0 18 (q := (33, .iload_n 2, 1)) rfl
theorem d_Hold_answerTo_34 : decode prog_3_method_5_code 34 = .ok (.aaload, 1) := zdt v_Hold_answerTo_0 19 (q := (34, .aaload, 1)) rfl
theorem d_Hold_answerTo_35 : decode prog_3_method_5_code 35 = .ok (.aload_n 1, 1) := zdt v_Hold_answerTo_0 20 (q := (35, .aload_n 1, 1)) rfl
theorem d_Hold_answerTo_36 : decode prog_3_method_5_code 36 = .ok (.aload_n 0, 1) := zdt v_Hold_answerTo_0 21 (q := (36, .aload_n 0, 1)) rfl
theorem d_Hold_answerTo_37 : decode prog_3_method_5_code 37 = .ok (.getfield 11, 3) := zdt v_Hold_answerTo_0 22 (q := (37, .getfield 11, 3)) rfl
theorem d_Hold_answerTo_40 : decode prog_3_method_5_code 40 = .ok (.iload_n 2, 1) := zdt v_Hold_answerTo_0 23 (q := (40, .iload_n 2, 1)) rfl
theorem d_Hold_answerTo_41 : decode prog_3_method_5_code 41 = .ok (.aaload, 1) := zdt v_Hold_answerTo_0 24 (q := (41, .aaload, 1)) rfl
theorem d_Hold_answerTo_42 : decode prog_3_method_5_code 42 = .ok (.invokevirtual 49, 3) := zdt v_Hold_answerTo_0 25 (q := (42, .invokevirtual 49, 3)) rfl
theorem d_Hold_answerTo_45 : decode prog_3_method_5_code 45 = .ok (.iinc 2 1, 3) := zdt v_Hold_answerTo_0 26 (q := (45, .iinc 2 1, 3)) rfl
theorem d_Hold_answerTo_48 : decode prog_3_method_5_code 48 = .ok (.goto (-36), 3) := zdt v_Hold_answerTo_0 27 (q := (48, .goto (-36), 3)) rfl
theorem d_Hold_answerTo_51 : decode prog_3_method_5_code 51 = .ok (.aload_n 0, 1) := zdt v_Hold_answerTo_0 28 (q := (51, .aload_n 0, 1)) rfl
theorem d_Hold_answerTo_52 : decode prog_3_method_5_code 52 = .ok (.aload_n 1, 1) := zdt v_Hold_answerTo_0 29 (q := (52, .aload_n 1, 1)) rfl
theorem d_Hold_answerTo_53 : decode prog_3_method_5_code 53 = .ok (.invokevirtual 53, 3) := zdt v_Hold_answerTo_0 30 (q := (53, .invokevirtual 53, 3)) rfl
theorem d_Hold_answerTo_56 : decode prog_3_method_5_code 56 = .ok (.istore_n 2, 1) := zdt v_Hold_answerTo_0 31 (q := (56, .istore_n 2, 1)) rfl
theorem d_Hold_answerTo_57 : decode prog_3_method_5_code 57 = .ok (.iload_n 2, 1) := zdt v_Hold_answerTo_0 32 (q := (57, .iload_n 2, 1)) rfl
theorem d_Hold_answerTo_58 : decode prog_3_method_5_code 58 = .ok (.ifCond .eq 7, 3) := zdt v_Hold_answerTo_0 33 (q := (58, .ifCond .eq 7, 3)) rfl
theorem d_Hold_answerTo_61 : decode prog_3_method_5_code 61 = .ok (.iload_n 2, 1) := zdt v_Hold_answerTo_0 34 (q := (61, .iload_n 2, 1)) rfl
theorem d_Hold_answerTo_62 : decode prog_3_method_5_code 62 = .ok (.goto 8, 3) := zdt v_Hold_answerTo_0 35 (q := (62, .goto 8, 3)) rfl
theorem d_Hold_answerTo_65 : decode prog_3_method_5_code 65 = .ok (.aload_n 0, 1) := zdt v_Hold_answerTo_0 36 (q := (65, .aload_n 0, 1)) rfl
theorem d_Hold_answerTo_66 : decode prog_3_method_5_code 66 = .ok (.aload_n 1, 1) := zdt v_Hold_answerTo_0 37 (q := (66, .aload_n 1, 1)) rfl
theorem d_Hold_answerTo_67 : decode prog_3_method_5_code 67 = .ok (.invokevirtual 56, 3) := zdt v_Hold_answerTo_0 38 (q := (67, .invokevirtual 56, 3)) rfl
theorem d_Hold_answerTo_70 : decode prog_3_method_5_code 70 = .ok (.ireturn, 1) := zdt v_Hold_answerTo_0 39 (q := (70, .ireturn, 1)) rfl
def u_Arrow_setSlide_0 : List (Nat × Instr × Nat) := [(0, .aload_n 2, 1), (1, .aload_n 2, 1), (2, .invokevirtual 23, 3), (5, .istore_n 3, 1), (6, .aload_n 1, 1), (7, .aload_n 2, 1), (8, .invokevirtual 23, 3), (11, .istore 4, 2), (13, .aload_n 0, 1), (14, .aload_n 1, 1), (15, .getfield 7, 3), (18, .iload_n 3, 1), (19, .imul, 1), (20, .aload_n 2, 1), (21, .getfield 7, 3), (24, .iload 4, 2), (26, .imul, 1), (27, .isub, 1), (28, .aload_n 1, 1), (29, .getfield 13, 3), (32, .iload_n 3, 1), (33, .imul, 1), (34, .aload_n 2, 1), (35, .getfield 13, 3), (38, .iload 4, 2), (40, .imul, 1), (41, .isub, 1), (42, .aload_n 1, 1), (43, .getfield 16, 3), (46, .iload_n 3, 1), (47, .imul, 1), (48, .aload_n 2, 1), (49, .getfield 16, 3), (52, .iload 4, 2), (54, .imul, 1), (55, .isub, 1), (56, .invokevirtual 19, 3), (59, .return_, 1)]
theorem v_Arrow_setSlide_0 : u_Arrow_setSlide_0.all (zdq prog_2_method_5_code) = true := by decide +kernel
theorem d_Arrow_setSlide_0 : decode prog_2_method_5_code 0 = .ok (.aload_n 2, 1) := zdt v_Arrow_setSlide_0 0 (q := (0, .aload_n 2, 1)) rfl
theorem d_Arrow_setSlide_1 : decode prog_2_method_5_code 1 = .ok (.aload_n 2, 1) := zdt v_Arrow_setSlide_0 1 (q := (1, .aload_n 2, 1)) rfl
theorem d_Arrow_setSlide_2 : decode prog_2_method_5_code 2 = .ok (.invokevirtual 23, 3) := zdt v_Arrow_setSlide_0 2 (q := (2, .invokevirtual 23, 3)) rfl
theorem d_Arrow_setSlide_5 : decode prog_2_method_5_code 5 = .ok (.istore_n 3, 1) := zdt v_Arrow_setSlide_0 3 (q := (5, .istore_n 3, 1)) rfl
theorem d_Arrow_setSlide_6 : decode prog_2_method_5_code 6 = .ok (.aload_n 1, 1) := zdt v_Arrow_setSlide_0 4 (q := (6, .aload_n 1, 1)) rfl
theorem d_Arrow_setSlide_7 : decode prog_2_method_5_code 7 = .ok (.aload_n 2, 1) := zdt v_Arrow_setSlide_0 5 (q := (7, .aload_n 2, 1)) rfl
theorem d_Arrow_setSlide_8 : decode prog_2_method_5_code 8 = .ok (.invokevirtual 23, 3) := zdt v_Arrow_setSlide_0 6 (q := (8, .invokevirtual 23, 3)) rfl
theorem d_Arrow_setSlide_11 : decode prog_2_method_5_code 11 = .ok (.istore 4, 2) := zdt v_Arrow_setSlide_0 7 (q := (11, .istore 4, 2)) rfl
theorem d_Arrow_setSlide_13 : decode prog_2_method_5_code 13 = .ok (.aload_n 0, 1) := zdt v_Arrow_setSlide_0 8 (q := (13, .aload_n 0, 1)) rfl
theorem d_Arrow_setSlide_14 : decode prog_2_method_5_code 14 = .ok (.aload_n 1, 1) := zdt v_Arrow_setSlide_0 9 (q := (14, .aload_n 1, 1)) rfl
theorem d_Arrow_setSlide_15 : decode prog_2_method_5_code 15 = .ok (.getfield 7, 3) := zdt v_Arrow_setSlide_0 10 (q := (15, .getfield 7, 3)) rfl
theorem d_Arrow_setSlide_18 : decode prog_2_method_5_code 18 = .ok (.iload_n 3, 1) := zdt v_Arrow_setSlide_0 11 (q := (18, .iload_n 3, 1)) rfl
theorem d_Arrow_setSlide_19 : decode prog_2_method_5_code 19 = .ok (.imul, 1) := zdt v_Arrow_setSlide_0 12 (q := (19, .imul, 1)) rfl
theorem d_Arrow_setSlide_20 : decode prog_2_method_5_code 20 = .ok (.aload_n 2, 1) := zdt v_Arrow_setSlide_0 13 (q := (20, .aload_n 2, 1)) rfl
theorem d_Arrow_setSlide_21 : decode prog_2_method_5_code 21 = .ok (.getfield 7, 3) := zdt v_Arrow_setSlide_0 14 (q := (21, .getfield 7, 3)) rfl
theorem d_Arrow_setSlide_24 : decode prog_2_method_5_code 24 = .ok (.iload 4, 2) := zdt v_Arrow_setSlide_0 15 (q := (24, .iload 4, 2)) rfl
theorem d_Arrow_setSlide_26 : decode prog_2_method_5_code 26 = .ok (.imul, 1) := zdt v_Arrow_setSlide_0 16 (q := (26, .imul, 1)) rfl
theorem d_Arrow_setSlide_27 : decode prog_2_method_5_code 27 = .ok (.isub, 1) := zdt v_Arrow_setSlide_0 17 (q := (27, .isub, 1)) rfl
theorem d_Arrow_setSlide_28 : decode prog_2_method_5_code 28 = .ok (.aload_n 1, 1) := zdt v_Arrow_setSlide_0 18 (q := (28, .aload_n 1, 1)) rfl
theorem d_Arrow_setSlide_29 : decode prog_2_method_5_code 29 = .ok (.getfield 13, 3) := zdt v_Arrow_setSlide_0 19 (q := (29, .getfield 13, 3)) rfl
theorem d_Arrow_setSlide_32 : decode prog_2_method_5_code 32 = .ok (.iload_n 3, 1) := zdt v_Arrow_setSlide_0 20 (q := (32, .iload_n 3, 1)) rfl
theorem d_Arrow_setSlide_33 : decode prog_2_method_5_code 33 = .ok (.imul, 1) := zdt v_Arrow_setSlide_0 21 (q := (33, .imul, 1)) rfl
theorem d_Arrow_setSlide_34 : decode prog_2_method_5_code 34 = .ok (.aload_n 2, 1) := zdt v_Arrow_setSlide_0 22 (q := (34, .aload_n 2, 1)) rfl
theorem d_Arrow_setSlide_35 : decode prog_2_method_5_code 35 = .ok (.getfield 13, 3) := zdt v_Arrow_setSlide_0 23 (q := (35, .getfield 13, 3)) rfl
theorem d_Arrow_setSlide_38 : decode prog_2_method_5_code 38 = .ok (.iload 4, 2) := zdt v_Arrow_setSlide_0 24 (q := (38, .iload 4, 2)) rfl
theorem d_Arrow_setSlide_40 : decode prog_2_method_5_code 40 = .ok (.imul, 1) := zdt v_Arrow_setSlide_0 25 (q := (40, .imul, 1)) rfl
theorem d_Arrow_setSlide_41 : decode prog_2_method_5_code 41 = .ok (.isub, 1) := zdt v_Arrow_setSlide_0 26 (q := (41, .isub, 1)) rfl
theorem d_Arrow_setSlide_42 : decode prog_2_method_5_code 42 = .ok (.aload_n 1, 1) := zdt v_Arrow_setSlide_0 27 (q := (42, .aload_n 1, 1)) rfl
theorem d_Arrow_setSlide_43 : decode prog_2_method_5_code 43 = .ok (.getfield 16, 3) := zdt v_Arrow_setSlide_0 28 (q := (43, .getfield 16, 3)) rfl
theorem d_Arrow_setSlide_46 : decode prog_2_method_5_code 46 = .ok (.iload_n 3, 1) := zdt v_Arrow_setSlide_0 29 (q := (46, .iload_n 3, 1)) rfl
theorem d_Arrow_setSlide_47 : decode prog_2_method_5_code 47 = .ok (.imul, 1) := zdt v_Arrow_setSlide_0 30 (q := (47, .imul, 1)) rfl
theorem d_Arrow_setSlide_48 : decode prog_2_method_5_code 48 = .ok (.aload_n 2, 1) := zdt v_Arrow_setSlide_0 31 (q := (48, .aload_n 2, 1)) rfl
theorem d_Arrow_setSlide_49 : decode prog_2_method_5_code 49 = .ok (.getfield 16, 3) := zdt v_Arrow_setSlide_0 32 (q := (49, .getfield 16, 3)) rfl
theorem d_Arrow_setSlide_52 : decode prog_2_method_5_code 52 = .ok (.iload 4, 2) := zdt v_Arrow_setSlide_0 33 (q := (52, .iload 4, 2)) rfl
theorem d_Arrow_setSlide_54 : decode prog_2_method_5_code 54 = .ok (.imul, 1) := zdt v_Arrow_setSlide_0 34 (q := (54, .imul, 1)) rfl
theorem d_Arrow_setSlide_55 : decode prog_2_method_5_code 55 = .ok (.isub, 1) := zdt v_Arrow_setSlide_0 35 (q := (55, .isub, 1)) rfl
theorem d_Arrow_setSlide_56 : decode prog_2_method_5_code 56 = .ok (.invokevirtual 19, 3) := zdt v_Arrow_setSlide_0 36 (q := (56, .invokevirtual 19, 3)) rfl
theorem d_Arrow_setSlide_59 : decode prog_2_method_5_code 59 = .ok (.return_, 1) := zdt v_Arrow_setSlide_0 37 (q := (59, .return_, 1)) rfl
def u_Hold_slideOnOne_0 : List (Nat × Instr × Nat) := [(0, .iconst 0, 1), (1, .istore_n 2, 1), (2, .iload_n 2, 1), (3, .bipush 12, 2), (5, .if_icmp .ge 51, 3), (8, .aload_n 0, 1), (9, .getfield 25, 3), (12, .iload_n 2, 1), (13, .invokestatic 37, 3), (16, .ifCond .eq 34, 3), (19, .aload_n 1, 1), (20, .aload_n 0, 1), (21, .getfield 11, 3), (24, .iload_n 2, 1), (25, .aaload, 1), (26, .invokevirtual 41, 3), (29, .ifCond .ge 21, 3), (32, .aload_n 0, 1), (33, .aload_n 0, 1), (34, .getfield 17, 3), (37, .iload_n 2, 1), (38, .aaload, 1), (39, .invokevirtual 45, 3), (42, .ifCond .eq 8, 3), (45, .bipush 10, 2), (47, .iload_n 2, 1), (48, .iadd, 1), (49, .ireturn, 1), (50, .iinc 2 1, 3), (53, .goto (-51), 3), (56, .iconst 0, 1), (57, .ireturn, 1)]
theorem v_Hold_slideOnOne_0 : u_Hold_slideOnOne_0.all (zdq prog_3_method_6_code) = true := by decide +kernel
theorem d_Hold_slideOnOne_0 : decode prog_3_method_6_code 0 = .ok (.iconst 0, 1) := zdt v_Hold_slideOnOne_0 0 (q := (0, .iconst 0, 1)) rfl
theorem d_Hold_slideOnOne_1 : decode prog_3_method_6_code 1 = .ok (.istore_n 2, 1) := zdt v_Hold_slideOnOne_0 1 (q := (1, .istore_n 2, 1)) rfl
theorem d_Hold_slideOnOne_2 : decode prog_3_method_6_code 2 = .ok (.iload_n 2, 1) := zdt v_Hold_slideOnOne_0 2 (q := (2, .iload_n 2, 1)) rfl
theorem d_Hold_slideOnOne_3 : decode prog_3_method_6_code 3 = .ok (.bipush 12, 2) := zdt v_Hold_slideOnOne_0 3 (q := (3, .bipush 12, 2)) rfl
theorem d_Hold_slideOnOne_5 : decode prog_3_method_6_code 5 = .ok (.if_icmp .ge 51, 3) := zdt v_Hold_slideOnOne_0 4 (q := (5, .if_icmp .ge 51, 3)) rfl
theorem d_Hold_slideOnOne_8 : decode prog_3_method_6_code 8 = .ok (.aload_n 0, 1) := zdt v_Hold_slideOnOne_0 5 (q := (8, .aload_n 0, 1)) rfl
theorem d_Hold_slideOnOne_9 : decode prog_3_method_6_code 9 = .ok (.getfield 25, 3) := zdt v_Hold_slideOnOne_0 6 (q := (9, .getfield 25, 3)) rfl
theorem d_Hold_slideOnOne_12 : decode prog_3_method_6_code 12 = .ok (.iload_n 2, 1) := zdt v_Hold_slideOnOne_0 7 (q := (12, .iload_n 2, 1)) rfl
theorem d_Hold_slideOnOne_13 : decode prog_3_method_6_code 13 = .ok (.invokestatic 37, 3) := zdt v_Hold_slideOnOne_0 8 (q := (13, .invokestatic 37, 3)) rfl
theorem d_Hold_slideOnOne_16 : decode prog_3_method_6_code 16 = .ok (.ifCond .eq 34, 3) := zdt v_Hold_slideOnOne_0 9 (q := (16, .ifCond .eq 34, 3)) rfl
theorem d_Hold_slideOnOne_19 : decode prog_3_method_6_code 19 = .ok (.aload_n 1, 1) := zdt v_Hold_slideOnOne_0 10 (q := (19, .aload_n 1, 1)) rfl
theorem d_Hold_slideOnOne_20 : decode prog_3_method_6_code 20 = .ok (.aload_n 0, 1) := zdt v_Hold_slideOnOne_0 11 (q := (20, .aload_n 0, 1)) rfl
theorem d_Hold_slideOnOne_21 : decode prog_3_method_6_code 21 = .ok (.getfield 11, 3) := zdt v_Hold_slideOnOne_0 12 (q := (21, .getfield 11, 3)) rfl
theorem d_Hold_slideOnOne_24 : decode prog_3_method_6_code 24 = .ok (.iload_n 2, 1) := zdt v_Hold_slideOnOne_0 13 (q := (24, .iload_n 2, 1)) rfl
theorem d_Hold_slideOnOne_25 : decode prog_3_method_6_code 25 = .ok (.aaload, 1) := zdt v_Hold_slideOnOne_0 14 (q := (25, .aaload, 1)) rfl
theorem d_Hold_slideOnOne_26 : decode prog_3_method_6_code 26 = .ok (.invokevirtual 41, 3) := zdt v_Hold_slideOnOne_0 15 (q := (26, .invokevirtual 41, 3)) rfl
theorem d_Hold_slideOnOne_29 : decode prog_3_method_6_code 29 = .ok (.ifCond .ge 21, 3) := zdt v_Hold_slideOnOne_0 16 (q := (29, .ifCond .ge 21, 3)) rfl
theorem d_Hold_slideOnOne_32 : decode prog_3_method_6_code 32 = .ok (.aload_n 0, 1) := zdt v_Hold_slideOnOne_0 17 (q := (32, .aload_n 0, 1)) rfl
theorem d_Hold_slideOnOne_33 : decode prog_3_method_6_code 33 = .ok (.aload_n 0, 1) := zdt v_Hold_slideOnOne_0 18 (q := (33, .aload_n 0, 1)) rfl
theorem d_Hold_slideOnOne_34 : decode prog_3_method_6_code 34 = .ok (.getfield 17, 3) := zdt v_Hold_slideOnOne_0 19 (q := (34, .getfield 17, 3)) rfl
theorem d_Hold_slideOnOne_37 : decode prog_3_method_6_code 37 = .ok (.iload_n 2, 1) := zdt v_Hold_slideOnOne_0 20 (q := (37, .iload_n 2, 1)) rfl
theorem d_Hold_slideOnOne_38 : decode prog_3_method_6_code 38 = .ok (.aaload, 1) := zdt v_Hold_slideOnOne_0 21 (q := (38, .aaload, 1)) rfl
theorem d_Hold_slideOnOne_39 : decode prog_3_method_6_code 39 = .ok (.invokevirtual 45, 3) := zdt v_Hold_slideOnOne_0 22 (q := (39, .invokevirtual 45, 3)) rfl
theorem d_Hold_slideOnOne_42 : decode prog_3_method_6_code 42 = .ok (.ifCond .eq 8, 3) := zdt v_Hold_slideOnOne_0 23 (q := (42, .ifCond .eq 8, 3)) rfl
theorem d_Hold_slideOnOne_45 : decode prog_3_method_6_code 45 = .ok (.bipush 10, 2) := zdt v_Hold_slideOnOne_0 24 (q := (45, .bipush 10, 2)) rfl
theorem d_Hold_slideOnOne_47 : decode prog_3_method_6_code 47 = .ok (.iload_n 2, 1) := zdt v_Hold_slideOnOne_0 25 (q := (47, .iload_n 2, 1)) rfl
theorem d_Hold_slideOnOne_48 : decode prog_3_method_6_code 48 = .ok (.iadd, 1) := zdt v_Hold_slideOnOne_0 26 (q := (48, .iadd, 1)) rfl
theorem d_Hold_slideOnOne_49 : decode prog_3_method_6_code 49 = .ok (.ireturn, 1) := zdt v_Hold_slideOnOne_0 27 (q := (49, .ireturn, 1)) rfl
theorem d_Hold_slideOnOne_50 : decode prog_3_method_6_code 50 = .ok (.iinc 2 1, 3) := zdt v_Hold_slideOnOne_0 28 (q := (50, .iinc 2 1, 3)) rfl
theorem d_Hold_slideOnOne_53 : decode prog_3_method_6_code 53 = .ok (.goto (-51), 3) := zdt v_Hold_slideOnOne_0 29 (q := (53, .goto (-51), 3)) rfl
theorem d_Hold_slideOnOne_56 : decode prog_3_method_6_code 56 = .ok (.iconst 0, 1) := zdt v_Hold_slideOnOne_0 30 (q := (56, .iconst 0, 1)) rfl
theorem d_Hold_slideOnOne_57 : decode prog_3_method_6_code 57 = .ok (.ireturn, 1) := zdt v_Hold_slideOnOne_0 31 (q := (57, .ireturn, 1)) rfl
def u_Hold_slideOnTwo_0 : List (Nat × Instr × Nat) := [(0, .iconst 0, 1), (1, .istore_n 2, 1), (2, .iload_n 2, 1), (3, .bipush 12, 2), (5, .if_icmp .ge 67, 3), (8, .iload_n 2, 1), (9, .iconst 1, 1), (10, .iadd, 1), (11, .istore_n 3, 1), (12, .iload_n 3, 1), (13, .bipush 12, 2), (15, .if_icmp .ge 51, 3), (18, .aload_n 0, 1), (19, .getfield 25, 3), (22, .iload_n 2, 1), (23, .invokestatic 37, 3), (26, .ifCond .eq 34, 3), (29, .aload_n 0, 1), (30, .getfield 25, 3), (33, .iload_n 3, 1), (34, .invokestatic 37, 3), (37, .ifCond .eq 23, 3), (40, .aload_n 0, 1), (41, .iload_n 2, 1), (42, .iload_n 3, 1), (43, .aload_n 1, 1), (44, .invokevirtual 59, 3), (47, .ifCond .eq 13, 3), (50, .bipush 100, 2), (52, .bipush 12, 2), (54, .iload_n 2, 1), (55, .imul, 1), (56, .iadd, 1), (57, .iload_n 3, 1), (58, .iadd, 1), (59, .ireturn, 1), (60, .iinc 3 1, 3), (63, .goto (-51), 3), (66, .iinc 2 1, 3), (69, .goto (-67), 3)]
theorem v_Hold_slideOnTwo_0 : u_Hold_slideOnTwo_0.all (zdq prog_3_method_7_code) = true := by decide +kernel
theorem d_Hold_slideOnTwo_0 : decode prog_3_method_7_code 0 = .ok (.iconst 0, 1) := zdt v_Hold_slideOnTwo_0 0 (q := (0, .iconst 0, 1)) rfl
theorem d_Hold_slideOnTwo_1 : decode prog_3_method_7_code 1 = .ok (.istore_n 2, 1) := zdt v_Hold_slideOnTwo_0 1 (q := (1, .istore_n 2, 1)) rfl
theorem d_Hold_slideOnTwo_2 : decode prog_3_method_7_code 2 = .ok (.iload_n 2, 1) := zdt v_Hold_slideOnTwo_0 2 (q := (2, .iload_n 2, 1)) rfl
theorem d_Hold_slideOnTwo_3 : decode prog_3_method_7_code 3 = .ok (.bipush 12, 2) := zdt v_Hold_slideOnTwo_0 3 (q := (3, .bipush 12, 2)) rfl
theorem d_Hold_slideOnTwo_5 : decode prog_3_method_7_code 5 = .ok (.if_icmp .ge 67, 3) := zdt v_Hold_slideOnTwo_0 4 (q := (5, .if_icmp .ge 67, 3)) rfl
theorem d_Hold_slideOnTwo_8 : decode prog_3_method_7_code 8 = .ok (.iload_n 2, 1) := zdt v_Hold_slideOnTwo_0 5 (q := (8, .iload_n 2, 1)) rfl
theorem d_Hold_slideOnTwo_9 : decode prog_3_method_7_code 9 = .ok (.iconst 1, 1) := zdt v_Hold_slideOnTwo_0 6 (q := (9, .iconst 1, 1)) rfl
theorem d_Hold_slideOnTwo_10 : decode prog_3_method_7_code 10 = .ok (.iadd, 1) := zdt v_Hold_slideOnTwo_0 7 (q := (10, .iadd, 1)) rfl
theorem d_Hold_slideOnTwo_11 : decode prog_3_method_7_code 11 = .ok (.istore_n 3, 1) := zdt v_Hold_slideOnTwo_0 8 (q := (11, .istore_n 3, 1)) rfl
theorem d_Hold_slideOnTwo_12 : decode prog_3_method_7_code 12 = .ok (.iload_n 3, 1) := zdt v_Hold_slideOnTwo_0 9 (q := (12, .iload_n 3, 1)) rfl
theorem d_Hold_slideOnTwo_13 : decode prog_3_method_7_code 13 = .ok (.bipush 12, 2) := zdt v_Hold_slideOnTwo_0 10 (q := (13, .bipush 12, 2)) rfl
theorem d_Hold_slideOnTwo_15 : decode prog_3_method_7_code 15 = .ok (.if_icmp .ge 51, 3) := zdt v_Hold_slideOnTwo_0 11 (q := (15, .if_icmp .ge 51, 3)) rfl
theorem d_Hold_slideOnTwo_18 : decode prog_3_method_7_code 18 = .ok (.aload_n 0, 1) := zdt v_Hold_slideOnTwo_0 12 (q := (18, .aload_n 0, 1)) rfl
theorem d_Hold_slideOnTwo_19 : decode prog_3_method_7_code 19 = .ok (.getfield 25, 3) := zdt v_Hold_slideOnTwo_0 13 (q := (19, .getfield 25, 3)) rfl
theorem d_Hold_slideOnTwo_22 : decode prog_3_method_7_code 22 = .ok (.iload_n 2, 1) := zdt v_Hold_slideOnTwo_0 14 (q := (22, .iload_n 2, 1)) rfl
theorem d_Hold_slideOnTwo_23 : decode prog_3_method_7_code 23 = .ok (.invokestatic 37, 3) := zdt v_Hold_slideOnTwo_0 15 (q := (23, .invokestatic 37, 3)) rfl
theorem d_Hold_slideOnTwo_26 : decode prog_3_method_7_code 26 = .ok (.ifCond .eq 34, 3) := zdt v_Hold_slideOnTwo_0 16 (q := (26, .ifCond .eq 34, 3)) rfl
theorem d_Hold_slideOnTwo_29 : decode prog_3_method_7_code 29 = .ok (.aload_n 0, 1) := zdt v_Hold_slideOnTwo_0 17 (q := (29, .aload_n 0, 1)) rfl
theorem d_Hold_slideOnTwo_30 : decode prog_3_method_7_code 30 = .ok (.getfield 25, 3) := zdt v_Hold_slideOnTwo_0 18 (q := (30, .getfield 25, 3)) rfl
theorem d_Hold_slideOnTwo_33 : decode prog_3_method_7_code 33 = .ok (.iload_n 3, 1) := zdt v_Hold_slideOnTwo_0 19 (q := (33, .iload_n 3, 1)) rfl
theorem d_Hold_slideOnTwo_34 : decode prog_3_method_7_code 34 = .ok (.invokestatic 37, 3) := zdt v_Hold_slideOnTwo_0 20 (q := (34, .invokestatic 37, 3)) rfl
theorem d_Hold_slideOnTwo_37 : decode prog_3_method_7_code 37 = .ok (.ifCond .eq 23, 3) := zdt v_Hold_slideOnTwo_0 21 (q := (37, .ifCond .eq 23, 3)) rfl
theorem d_Hold_slideOnTwo_40 : decode prog_3_method_7_code 40 = .ok (.aload_n 0, 1) := zdt v_Hold_slideOnTwo_0 22 (q := (40, .aload_n 0, 1)) rfl
theorem d_Hold_slideOnTwo_41 : decode prog_3_method_7_code 41 = .ok (.iload_n 2, 1) := zdt v_Hold_slideOnTwo_0 23 (q := (41, .iload_n 2, 1)) rfl
theorem d_Hold_slideOnTwo_42 : decode prog_3_method_7_code 42 = .ok (.iload_n 3, 1) := zdt v_Hold_slideOnTwo_0 24 (q := (42, .iload_n 3, 1)) rfl
theorem d_Hold_slideOnTwo_43 : decode prog_3_method_7_code 43 = .ok (.aload_n 1, 1) := zdt v_Hold_slideOnTwo_0 25 (q := (43, .aload_n 1, 1)) rfl
theorem d_Hold_slideOnTwo_44 : decode prog_3_method_7_code 44 = .ok (.invokevirtual 59, 3) := zdt v_Hold_slideOnTwo_0 26 (q := (44, .invokevirtual 59, 3)) rfl
theorem d_Hold_slideOnTwo_47 : decode prog_3_method_7_code 47 = .ok (.ifCond .eq 13, 3) := zdt v_Hold_slideOnTwo_0 27 (q := (47, .ifCond .eq 13, 3)) rfl
theorem d_Hold_slideOnTwo_50 : decode prog_3_method_7_code 50 = .ok (.bipush 100, 2) := zdt v_Hold_slideOnTwo_0 28 (q := (50, .bipush 100, 2)) rfl
theorem d_Hold_slideOnTwo_52 : decode prog_3_method_7_code 52 = .ok (.bipush 12, 2) := zdt v_Hold_slideOnTwo_0 29 (q := (52, .bipush 12, 2)) rfl
theorem d_Hold_slideOnTwo_54 : decode prog_3_method_7_code 54 = .ok (.iload_n 2, 1) := zdt v_Hold_slideOnTwo_0 30 (q := (54, .iload_n 2, 1)) rfl
theorem d_Hold_slideOnTwo_55 : decode prog_3_method_7_code 55 = .ok (.imul, 1) := zdt v_Hold_slideOnTwo_0 31 (q := (55, .imul, 1)) rfl
theorem d_Hold_slideOnTwo_56 : decode prog_3_method_7_code 56 = .ok (.iadd, 1) := zdt v_Hold_slideOnTwo_0 32 (q := (56, .iadd, 1)) rfl
theorem d_Hold_slideOnTwo_57 : decode prog_3_method_7_code 57 = .ok (.iload_n 3, 1) := zdt v_Hold_slideOnTwo_0 33 (q := (57, .iload_n 3, 1)) rfl
theorem d_Hold_slideOnTwo_58 : decode prog_3_method_7_code 58 = .ok (.iadd, 1) := zdt v_Hold_slideOnTwo_0 34 (q := (58, .iadd, 1)) rfl
theorem d_Hold_slideOnTwo_59 : decode prog_3_method_7_code 59 = .ok (.ireturn, 1) := zdt v_Hold_slideOnTwo_0 35 (q := (59, .ireturn, 1)) rfl
theorem d_Hold_slideOnTwo_60 : decode prog_3_method_7_code 60 = .ok (.iinc 3 1, 3) := zdt v_Hold_slideOnTwo_0 36 (q := (60, .iinc 3 1, 3)) rfl
theorem d_Hold_slideOnTwo_63 : decode prog_3_method_7_code 63 = .ok (.goto (-51), 3) := zdt v_Hold_slideOnTwo_0 37 (q := (63, .goto (-51), 3)) rfl
theorem d_Hold_slideOnTwo_66 : decode prog_3_method_7_code 66 = .ok (.iinc 2 1, 3) := zdt v_Hold_slideOnTwo_0 38 (q := (66, .iinc 2 1, 3)) rfl
theorem d_Hold_slideOnTwo_69 : decode prog_3_method_7_code 69 = .ok (.goto (-67), 3) := zdt v_Hold_slideOnTwo_0 39 (q := (69, .goto (-67), 3)) rfl
def u_Hold_slideOnTwo_1 : List (Nat × Instr × Nat) := [(72, .iconst 0, 1), (73, .ireturn, 1)]
theorem v_Hold_slideOnTwo_1 : u_Hold_slideOnTwo_1.all (zdq prog_3_method_7_code) = true := by decide +kernel
theorem d_Hold_slideOnTwo_72 : decode prog_3_method_7_code 72 = .ok (.iconst 0, 1) := zdt v_Hold_slideOnTwo_1 0 (q := (72, .iconst 0, 1)) rfl
theorem d_Hold_slideOnTwo_73 : decode prog_3_method_7_code 73 = .ok (.ireturn, 1) := zdt v_Hold_slideOnTwo_1 1 (q := (73, .ireturn, 1)) rfl
def u_Hold_slidesAlong_0 : List (Nat × Instr × Nat) := [(0, .aload_n 0, 1), (1, .getfield 21, 3), (4, .aload_n 0, 1), (5, .getfield 11, 3), (8, .iload_n 1, 1), (9, .aaload, 1), (10, .aload_n 0, 1), (11, .getfield 11, 3), (14, .iload_n 2, 1), (15, .aaload, 1), (16, .invokevirtual 63, 3), (19, .aload_n 3, 1), (20, .aload_n 0, 1), (21, .getfield 21, 3), (24, .invokevirtual 41, 3), (27, .ifCond .ge 15, 3), (30, .aload_n 0, 1), (31, .getfield 21, 3), (34, .aload_n 0, 1), (35, .getfield 21, 3), (38, .iconst (-1), 1), (39, .invokevirtual 29, 3), (42, .aload_n 3, 1), (43, .aload_n 0, 1), (44, .getfield 21, 3), (47, .invokevirtual 41, 3), (50, .ifCond .le 54, 3), (53, .aload_n 0, 1), (54, .aload_n 0, 1), (55, .getfield 21, 3), (58, .invokevirtual 45, 3), (61, .ifCond .eq 43, 3), (64, .aload_n 0, 1), (65, .getfield 17, 3), (68, .iload_n 1, 1), (69, .aaload, 1), (70, .aload_n 0, 1), (71, .getfield 11, 3), (74, .iload_n 2, 1), (75, .aaload, 1)]
theorem v_Hold_slidesAlong_0 : u_Hold_slidesAlong_0.all (zdq prog_3_method_8_code) = true := by decide +kernel
theorem d_Hold_slidesAlong_0 : decode prog_3_method_8_code 0 = .ok (.aload_n 0, 1) := zdt v_Hold_slidesAlong_0 0 (q := (0, .aload_n 0, 1)) rfl
theorem d_Hold_slidesAlong_1 : decode prog_3_method_8_code 1 = .ok (.getfield 21, 3) := zdt v_Hold_slidesAlong_0 1 (q := (1, .getfield 21, 3)) rfl
theorem d_Hold_slidesAlong_4 : decode prog_3_method_8_code 4 = .ok (.aload_n 0, 1) := zdt v_Hold_slidesAlong_0 2 (q := (4, .aload_n 0, 1)) rfl
theorem d_Hold_slidesAlong_5 : decode prog_3_method_8_code 5 = .ok (.getfield 11, 3) := zdt v_Hold_slidesAlong_0 3 (q := (5, .getfield 11, 3)) rfl
theorem d_Hold_slidesAlong_8 : decode prog_3_method_8_code 8 = .ok (.iload_n 1, 1) := zdt v_Hold_slidesAlong_0 4 (q := (8, .iload_n 1, 1)) rfl
theorem d_Hold_slidesAlong_9 : decode prog_3_method_8_code 9 = .ok (.aaload, 1) := zdt v_Hold_slidesAlong_0 5 (q := (9, .aaload, 1)) rfl
theorem d_Hold_slidesAlong_10 : decode prog_3_method_8_code 10 = .ok (.aload_n 0, 1) := zdt v_Hold_slidesAlong_0 6 (q := (10, .aload_n 0, 1)) rfl
theorem d_Hold_slidesAlong_11 : decode prog_3_method_8_code 11 = .ok (.getfield 11, 3) := zdt v_Hold_slidesAlong_0 7 (q := (11, .getfield 11, 3)) rfl
theorem d_Hold_slidesAlong_14 : decode prog_3_method_8_code 14 = .ok (.iload_n 2, 1) := zdt v_Hold_slidesAlong_0 8 (q := (14, .iload_n 2, 1)) rfl
theorem d_Hold_slidesAlong_15 : decode prog_3_method_8_code 15 = .ok (.aaload, 1) := zdt v_Hold_slidesAlong_0 9 (q := (15, .aaload, 1)) rfl
theorem d_Hold_slidesAlong_16 : decode prog_3_method_8_code 16 = .ok (.invokevirtual 63, 3) := zdt v_Hold_slidesAlong_0 10 (q := (16, .invokevirtual 63, 3)) rfl
theorem d_Hold_slidesAlong_19 : decode prog_3_method_8_code 19 = .ok (.aload_n 3, 1) := zdt v_Hold_slidesAlong_0 11 (q := (19, .aload_n 3, 1)) rfl
theorem d_Hold_slidesAlong_20 : decode prog_3_method_8_code 20 = .ok (.aload_n 0, 1) := zdt v_Hold_slidesAlong_0 12 (q := (20, .aload_n 0, 1)) rfl
theorem d_Hold_slidesAlong_21 : decode prog_3_method_8_code 21 = .ok (.getfield 21, 3) := zdt v_Hold_slidesAlong_0 13 (q := (21, .getfield 21, 3)) rfl
theorem d_Hold_slidesAlong_24 : decode prog_3_method_8_code 24 = .ok (.invokevirtual 41, 3) := zdt v_Hold_slidesAlong_0 14 (q := (24, .invokevirtual 41, 3)) rfl
theorem d_Hold_slidesAlong_27 : decode prog_3_method_8_code 27 = .ok (.ifCond .ge 15, 3) := zdt v_Hold_slidesAlong_0 15 (q := (27, .ifCond .ge 15, 3)) rfl
theorem d_Hold_slidesAlong_30 : decode prog_3_method_8_code 30 = .ok (.aload_n 0, 1) := zdt v_Hold_slidesAlong_0 16 (q := (30, .aload_n 0, 1)) rfl
theorem d_Hold_slidesAlong_31 : decode prog_3_method_8_code 31 = .ok (.getfield 21, 3) := zdt v_Hold_slidesAlong_0 17 (q := (31, .getfield 21, 3)) rfl
theorem d_Hold_slidesAlong_34 : decode prog_3_method_8_code 34 = .ok (.aload_n 0, 1) := zdt v_Hold_slidesAlong_0 18 (q := (34, .aload_n 0, 1)) rfl
theorem d_Hold_slidesAlong_35 : decode prog_3_method_8_code 35 = .ok (.getfield 21, 3) := zdt v_Hold_slidesAlong_0 19 (q := (35, .getfield 21, 3)) rfl
theorem d_Hold_slidesAlong_38 : decode prog_3_method_8_code 38 = .ok (.iconst (-1), 1) := zdt v_Hold_slidesAlong_0 20 (q := (38, .iconst (-1), 1)) rfl
theorem d_Hold_slidesAlong_39 : decode prog_3_method_8_code 39 = .ok (.invokevirtual 29, 3) := zdt v_Hold_slidesAlong_0 21 (q := (39, .invokevirtual 29, 3)) rfl
theorem d_Hold_slidesAlong_42 : decode prog_3_method_8_code 42 = .ok (.aload_n 3, 1) := zdt v_Hold_slidesAlong_0 22 (q := (42, .aload_n 3, 1)) rfl
theorem d_Hold_slidesAlong_43 : decode prog_3_method_8_code 43 = .ok (.aload_n 0, 1) := zdt v_Hold_slidesAlong_0 23 (q := (43, .aload_n 0, 1)) rfl
theorem d_Hold_slidesAlong_44 : decode prog_3_method_8_code 44 = .ok (.getfield 21, 3) := zdt v_Hold_slidesAlong_0 24 (q := (44, .getfield 21, 3)) rfl
theorem d_Hold_slidesAlong_47 : decode prog_3_method_8_code 47 = .ok (.invokevirtual 41, 3) := zdt v_Hold_slidesAlong_0 25 (q := (47, .invokevirtual 41, 3)) rfl
theorem d_Hold_slidesAlong_50 : decode prog_3_method_8_code 50 = .ok (.ifCond .le 54, 3) := zdt v_Hold_slidesAlong_0 26 (q := (50, .ifCond .le 54, 3)) rfl
theorem d_Hold_slidesAlong_53 : decode prog_3_method_8_code 53 = .ok (.aload_n 0, 1) := zdt v_Hold_slidesAlong_0 27 (q := (53, .aload_n 0, 1)) rfl
theorem d_Hold_slidesAlong_54 : decode prog_3_method_8_code 54 = .ok (.aload_n 0, 1) := zdt v_Hold_slidesAlong_0 28 (q := (54, .aload_n 0, 1)) rfl
theorem d_Hold_slidesAlong_55 : decode prog_3_method_8_code 55 = .ok (.getfield 21, 3) := zdt v_Hold_slidesAlong_0 29 (q := (55, .getfield 21, 3)) rfl
theorem d_Hold_slidesAlong_58 : decode prog_3_method_8_code 58 = .ok (.invokevirtual 45, 3) := zdt v_Hold_slidesAlong_0 30 (q := (58, .invokevirtual 45, 3)) rfl
theorem d_Hold_slidesAlong_61 : decode prog_3_method_8_code 61 = .ok (.ifCond .eq 43, 3) := zdt v_Hold_slidesAlong_0 31 (q := (61, .ifCond .eq 43, 3)) rfl
theorem d_Hold_slidesAlong_64 : decode prog_3_method_8_code 64 = .ok (.aload_n 0, 1) := zdt v_Hold_slidesAlong_0 32 (q := (64, .aload_n 0, 1)) rfl
theorem d_Hold_slidesAlong_65 : decode prog_3_method_8_code 65 = .ok (.getfield 17, 3) := zdt v_Hold_slidesAlong_0 33 (q := (65, .getfield 17, 3)) rfl
theorem d_Hold_slidesAlong_68 : decode prog_3_method_8_code 68 = .ok (.iload_n 1, 1) := zdt v_Hold_slidesAlong_0 34 (q := (68, .iload_n 1, 1)) rfl
theorem d_Hold_slidesAlong_69 : decode prog_3_method_8_code 69 = .ok (.aaload, 1) := zdt v_Hold_slidesAlong_0 35 (q := (69, .aaload, 1)) rfl
theorem d_Hold_slidesAlong_70 : decode prog_3_method_8_code 70 = .ok (.aload_n 0, 1) := zdt v_Hold_slidesAlong_0 36 (q := (70, .aload_n 0, 1)) rfl
theorem d_Hold_slidesAlong_71 : decode prog_3_method_8_code 71 = .ok (.getfield 11, 3) := zdt v_Hold_slidesAlong_0 37 (q := (71, .getfield 11, 3)) rfl
theorem d_Hold_slidesAlong_74 : decode prog_3_method_8_code 74 = .ok (.iload_n 2, 1) := zdt v_Hold_slidesAlong_0 38 (q := (74, .iload_n 2, 1)) rfl
theorem d_Hold_slidesAlong_75 : decode prog_3_method_8_code 75 = .ok (.aaload, 1) := zdt v_Hold_slidesAlong_0 39 (q := (75, .aaload, 1)) rfl
def u_Hold_slidesAlong_1 : List (Nat × Instr × Nat) := [(76, .invokevirtual 41, 3), (79, .ifCond .ge 25, 3), (82, .aload_n 0, 1), (83, .getfield 17, 3), (86, .iload_n 2, 1), (87, .aaload, 1), (88, .aload_n 0, 1), (89, .getfield 11, 3), (92, .iload_n 1, 1), (93, .aaload, 1), (94, .invokevirtual 41, 3), (97, .ifCond .ge 7, 3), (100, .iconst 1, 1), (101, .goto 4, 3), (104, .iconst 0, 1), (105, .ireturn, 1)]
theorem v_Hold_slidesAlong_1 : u_Hold_slidesAlong_1.all (zdq prog_3_method_8_code) = true := by decide +kernel
theorem d_Hold_slidesAlong_76 : decode prog_3_method_8_code 76 = .ok (.invokevirtual 41, 3) := zdt v_Hold_slidesAlong_1 0 (q := (76, .invokevirtual 41, 3)) rfl
theorem d_Hold_slidesAlong_79 : decode prog_3_method_8_code 79 = .ok (.ifCond .ge 25, 3) := zdt v_Hold_slidesAlong_1 1 (q := (79, .ifCond .ge 25, 3)) rfl
theorem d_Hold_slidesAlong_82 : decode prog_3_method_8_code 82 = .ok (.aload_n 0, 1) := zdt v_Hold_slidesAlong_1 2 (q := (82, .aload_n 0, 1)) rfl
theorem d_Hold_slidesAlong_83 : decode prog_3_method_8_code 83 = .ok (.getfield 17, 3) := zdt v_Hold_slidesAlong_1 3 (q := (83, .getfield 17, 3)) rfl
theorem d_Hold_slidesAlong_86 : decode prog_3_method_8_code 86 = .ok (.iload_n 2, 1) := zdt v_Hold_slidesAlong_1 4 (q := (86, .iload_n 2, 1)) rfl
theorem d_Hold_slidesAlong_87 : decode prog_3_method_8_code 87 = .ok (.aaload, 1) := zdt v_Hold_slidesAlong_1 5 (q := (87, .aaload, 1)) rfl
theorem d_Hold_slidesAlong_88 : decode prog_3_method_8_code 88 = .ok (.aload_n 0, 1) := zdt v_Hold_slidesAlong_1 6 (q := (88, .aload_n 0, 1)) rfl
theorem d_Hold_slidesAlong_89 : decode prog_3_method_8_code 89 = .ok (.getfield 11, 3) := zdt v_Hold_slidesAlong_1 7 (q := (89, .getfield 11, 3)) rfl
theorem d_Hold_slidesAlong_92 : decode prog_3_method_8_code 92 = .ok (.iload_n 1, 1) := zdt v_Hold_slidesAlong_1 8 (q := (92, .iload_n 1, 1)) rfl
theorem d_Hold_slidesAlong_93 : decode prog_3_method_8_code 93 = .ok (.aaload, 1) := zdt v_Hold_slidesAlong_1 9 (q := (93, .aaload, 1)) rfl
theorem d_Hold_slidesAlong_94 : decode prog_3_method_8_code 94 = .ok (.invokevirtual 41, 3) := zdt v_Hold_slidesAlong_1 10 (q := (94, .invokevirtual 41, 3)) rfl
theorem d_Hold_slidesAlong_97 : decode prog_3_method_8_code 97 = .ok (.ifCond .ge 7, 3) := zdt v_Hold_slidesAlong_1 11 (q := (97, .ifCond .ge 7, 3)) rfl
theorem d_Hold_slidesAlong_100 : decode prog_3_method_8_code 100 = .ok (.iconst 1, 1) := zdt v_Hold_slidesAlong_1 12 (q := (100, .iconst 1, 1)) rfl
theorem d_Hold_slidesAlong_101 : decode prog_3_method_8_code 101 = .ok (.goto 4, 3) := zdt v_Hold_slidesAlong_1 13 (q := (101, .goto 4, 3)) rfl
theorem d_Hold_slidesAlong_104 : decode prog_3_method_8_code 104 = .ok (.iconst 0, 1) := zdt v_Hold_slidesAlong_1 14 (q := (104, .iconst 0, 1)) rfl
theorem d_Hold_slidesAlong_105 : decode prog_3_method_8_code 105 = .ok (.ireturn, 1) := zdt v_Hold_slidesAlong_1 15 (q := (105, .ireturn, 1)) rfl
