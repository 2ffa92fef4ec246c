theorem d_WP_isJoint_6 : decode prog_1_method_23_code 6 = .ok (.ifCond .eq 50, 3) := by decide +kernel
theorem d_WP_isJoint_9 : decode prog_1_method_23_code 9 = .ok (.iload_n 2, 1) := by decide +kernel
theorem d_WP_isJoint_10 : decode prog_1_method_23_code 10 = .ok (.bipush 6, 2) := by decide +kernel
theorem d_WP_isJoint_12 : decode prog_1_method_23_code 12 = .ok (.invokestatic 209, 3) := by decide +kernel
theorem d_WP_isJoint_15 : decode prog_1_method_23_code 15 = .ok (.ifCond .eq 41, 3) := by decide +kernel
theorem d_WP_isJoint_18 : decode prog_1_method_23_code 18 = .ok (.iload_n 3, 1) := by decide +kernel
theorem d_WP_isJoint_19 : decode prog_1_method_23_code 19 = .ok (.bipush 6, 2) := by decide +kernel
theorem d_WP_isJoint_21 : decode prog_1_method_23_code 21 = .ok (.invokestatic 209, 3) := by decide +kernel
theorem d_WP_isJoint_24 : decode prog_1_method_23_code 24 = .ok (.ifCond .eq 32, 3) := by decide +kernel
theorem d_WP_isJoint_27 : decode prog_1_method_23_code 27 = .ok (.iload 4, 2) := by decide +kernel
theorem d_WP_isJoint_29 : decode prog_1_method_23_code 29 = .ok (.bipush 100, 2) := by decide +kernel
theorem d_WP_isJoint_31 : decode prog_1_method_23_code 31 = .ok (.invokestatic 209, 3) := by decide +kernel
theorem d_WP_isJoint_34 : decode prog_1_method_23_code 34 = .ok (.ifCond .eq 22, 3) := by decide +kernel
theorem d_WP_isJoint_37 : decode prog_1_method_23_code 37 = .ok (.aload_n 0, 1) := by decide +kernel
theorem d_WP_isJoint_38 : decode prog_1_method_23_code 38 = .ok (.getfield 57, 3) := by decide +kernel
theorem d_WP_isJoint_41 : decode prog_1_method_23_code 41 = .ok (.iload_n 1, 1) := by decide +kernel
theorem d_WP_isJoint_42 : decode prog_1_method_23_code 42 = .ok (.iload_n 2, 1) := by decide +kernel
theorem d_WP_isJoint_43 : decode prog_1_method_23_code 43 = .ok (.iload_n 3, 1) := by decide +kernel
theorem d_WP_isJoint_44 : decode prog_1_method_23_code 44 = .ok (.iload 4, 2) := by decide +kernel
theorem d_WP_isJoint_46 : decode prog_1_method_23_code 46 = .ok (.invokevirtual 212, 3) := by decide +kernel
theorem d_WP_isJoint_49 : decode prog_1_method_23_code 49 = .ok (.ifCond .eq 7, 3) := by decide +kernel
theorem d_WP_isJoint_52 : decode prog_1_method_23_code 52 = .ok (.iconst 1, 1) := by decide +kernel
theorem d_WP_isJoint_53 : decode prog_1_method_23_code 53 = .ok (.goto 4, 3) := by decide +kernel
theorem d_WP_isJoint_56 : decode prog_1_method_23_code 56 = .ok (.iconst 0, 1) := by decide +kernel
theorem d_WP_isJoint_57 : decode prog_1_method_23_code 57 = .ok (.ireturn, 1) := by decide +kernel
theorem d_WP_isWithin_0 : decode prog_1_method_21_code 0 = .ok (.iload_n 0, 1) := by decide +kernel
theorem d_WP_isWithin_1 : decode prog_1_method_21_code 1 = .ok (.iload_n 1, 1) := by decide +kernel
theorem d_WP_isWithin_2 : decode prog_1_method_21_code 2 = .ok (.ineg, 1) := by decide +kernel
theorem d_WP_isWithin_3 : decode prog_1_method_21_code 3 = .ok (.if_icmp .lt 12, 3) := by decide +kernel
theorem d_WP_isWithin_6 : decode prog_1_method_21_code 6 = .ok (.iload_n 0, 1) := by decide +kernel
theorem d_WP_isWithin_7 : decode prog_1_method_21_code 7 = .ok (.iload_n 1, 1) := by decide +kernel
theorem d_WP_isWithin_8 : decode prog_1_method_21_code 8 = .ok (.if_icmp .gt 7, 3) := by decide +kernel
theorem d_WP_isWithin_11 : decode prog_1_method_21_code 11 = .ok (.iconst 1, 1) := by decide +kernel
theorem d_WP_isWithin_12 : decode prog_1_method_21_code 12 = .ok (.goto 4, 3) := by decide +kernel
theorem d_WP_isWithin_15 : decode prog_1_method_21_code 15 = .ok (.iconst 0, 1) := by decide +kernel
theorem d_WP_isWithin_16 : decode prog_1_method_21_code 16 = .ok (.ireturn, 1) := by decide +kernel
theorem d_Rock_isCutBy_0 : decode prog_6_method_2_code 0 = .ok (.iconst 0, 1) := by decide +kernel
theorem d_Rock_isCutBy_1 : decode prog_6_method_2_code 1 = .ok (.iload_n 1, 1) := by decide +kernel
theorem d_Rock_isCutBy_2 : decode prog_6_method_2_code 2 = .ok (.aload_n 0, 1) := by decide +kernel
theorem d_Rock_isCutBy_3 : decode prog_6_method_2_code 3 = .ok (.getfield 66, 3) := by decide +kernel
theorem d_Rock_isCutBy_6 : decode prog_6_method_2_code 6 = .ok (.imul, 1) := by decide +kernel
theorem d_Rock_isCutBy_7 : decode prog_6_method_2_code 7 = .ok (.invokestatic 87, 3) := by decide +kernel
theorem d_Rock_isCutBy_10 : decode prog_6_method_2_code 10 = .ok (.iconst 0, 1) := by decide +kernel
theorem d_Rock_isCutBy_11 : decode prog_6_method_2_code 11 = .ok (.iload_n 2, 1) := by decide +kernel
theorem d_Rock_isCutBy_12 : decode prog_6_method_2_code 12 = .ok (.aload_n 0, 1) := by decide +kernel
theorem d_Rock_isCutBy_13 : decode prog_6_method_2_code 13 = .ok (.getfield 69, 3) := by decide +kernel
theorem d_Rock_isCutBy_16 : decode prog_6_method_2_code 16 = .ok (.imul, 1) := by decide +kernel
theorem d_Rock_isCutBy_17 : decode prog_6_method_2_code 17 = .ok (.invokestatic 87, 3) := by decide +kernel
theorem d_Rock_isCutBy_20 : decode prog_6_method_2_code 20 = .ok (.iadd, 1) := by decide +kernel
theorem d_Rock_isCutBy_21 : decode prog_6_method_2_code 21 = .ok (.iconst 0, 1) := by decide +kernel
theorem d_Rock_isCutBy_22 : decode prog_6_method_2_code 22 = .ok (.iload_n 3, 1) := by decide +kernel
theorem d_Rock_isCutBy_23 : decode prog_6_method_2_code 23 = .ok (.aload_n 0, 1) := by decide +kernel
theorem d_Rock_isCutBy_24 : decode prog_6_method_2_code 24 = .ok (.getfield 72, 3) := by decide +kernel
theorem d_Rock_isCutBy_27 : decode prog_6_method_2_code 27 = .ok (.imul, 1) := by decide +kernel
theorem d_Rock_isCutBy_28 : decode prog_6_method_2_code 28 = .ok (.invokestatic 87, 3) := by decide +kernel
theorem d_Rock_isCutBy_31 : decode prog_6_method_2_code 31 = .ok (.iadd, 1) := by decide +kernel
theorem d_Rock_isCutBy_32 : decode prog_6_method_2_code 32 = .ok (.istore 5, 2) := by decide +kernel
theorem d_Rock_isCutBy_34 : decode prog_6_method_2_code 34 = .ok (.iconst 0, 1) := by decide +kernel
theorem d_Rock_isCutBy_35 : decode prog_6_method_2_code 35 = .ok (.iload_n 1, 1) := by decide +kernel
theorem d_Rock_isCutBy_36 : decode prog_6_method_2_code 36 = .ok (.aload_n 0, 1) := by decide +kernel
theorem d_Rock_isCutBy_37 : decode prog_6_method_2_code 37 = .ok (.getfield 66, 3) := by decide +kernel
theorem d_Rock_isCutBy_40 : decode prog_6_method_2_code 40 = .ok (.imul, 1) := by decide +kernel
theorem d_Rock_isCutBy_41 : decode prog_6_method_2_code 41 = .ok (.invokestatic 93, 3) := by decide +kernel
theorem d_Rock_isCutBy_44 : decode prog_6_method_2_code 44 = .ok (.iconst 0, 1) := by decide +kernel
theorem d_Rock_isCutBy_45 : decode prog_6_method_2_code 45 = .ok (.iload_n 2, 1) := by decide +kernel
theorem d_Rock_isCutBy_46 : decode prog_6_method_2_code 46 = .ok (.aload_n 0, 1) := by decide +kernel
theorem d_Rock_isCutBy_47 : decode prog_6_method_2_code 47 = .ok (.getfield 69, 3) := by decide +kernel
theorem d_Rock_isCutBy_50 : decode prog_6_method_2_code 50 = .ok (.imul, 1) := by decide +kernel
theorem d_Rock_isCutBy_51 : decode prog_6_method_2_code 51 = .ok (.invokestatic 93, 3) := by decide +kernel
theorem d_Rock_isCutBy_54 : decode prog_6_method_2_code 54 = .ok (.iadd, 1) := by decide +kernel
theorem d_Rock_isCutBy_55 : decode prog_6_method_2_code 55 = .ok (.iconst 0, 1) := by decide +kernel
theorem d_Rock_isCutBy_56 : decode prog_6_method_2_code 56 = .ok (.iload_n 3, 1) := by decide +kernel
theorem d_Rock_isCutBy_57 : decode prog_6_method_2_code 57 = .ok (.aload_n 0, 1) := by decide +kernel
theorem d_Rock_isCutBy_58 : decode prog_6_method_2_code 58 = .ok (.getfield 72, 3) := by decide +kernel
theorem d_Rock_isCutBy_61 : decode prog_6_method_2_code 61 = .ok (.imul, 1) := by decide +kernel
theorem d_Rock_isCutBy_62 : decode prog_6_method_2_code 62 = .ok (.invokestatic 93, 3) := by decide +kernel
theorem d_Rock_isCutBy_65 : decode prog_6_method_2_code 65 = .ok (.iadd, 1) := by decide +kernel
theorem d_Rock_isCutBy_66 : decode prog_6_method_2_code 66 = .ok (.istore 6, 2) := by decide +kernel
theorem d_Rock_isCutBy_68 : decode prog_6_method_2_code 68 = .ok (.iload 5, 2) := by decide +kernel
theorem d_Rock_isCutBy_70 : decode prog_6_method_2_code 70 = .ok (.iload 4, 2) := by decide +kernel
theorem d_Rock_isCutBy_72 : decode prog_6_method_2_code 72 = .ok (.if_icmp .ge 14, 3) := by decide +kernel
theorem d_Rock_isCutBy_75 : decode prog_6_method_2_code 75 = .ok (.iload 4, 2) := by decide +kernel
theorem d_Rock_isCutBy_77 : decode prog_6_method_2_code 77 = .ok (.iload 6, 2) := by decide +kernel
theorem d_Rock_isCutBy_79 : decode prog_6_method_2_code 79 = .ok (.if_icmp .ge 7, 3) := by decide +kernel
theorem d_Rock_isCutBy_82 : decode prog_6_method_2_code 82 = .ok (.iconst 1, 1) := by decide +kernel
theorem d_Rock_isCutBy_83 : decode prog_6_method_2_code 83 = .ok (.goto 4, 3) := by decide +kernel
theorem d_Rock_isCutBy_86 : decode prog_6_method_2_code 86 = .ok (.iconst 0, 1) := by decide +kernel
theorem d_Rock_isCutBy_87 : decode prog_6_method_2_code 87 = .ok (.ireturn, 1) := by decide +kernel
theorem d_Rock_hasJoint_0 : decode prog_6_method_3_code 0 = .ok (.iconst 0, 1) := by decide +kernel
theorem d_Rock_hasJoint_1 : decode prog_6_method_3_code 1 = .ok (.istore 5, 2) := by decide +kernel
theorem d_Rock_hasJoint_3 : decode prog_6_method_3_code 3 = .ok (.iload 5, 2) := by decide +kernel
theorem d_Rock_hasJoint_5 : decode prog_6_method_3_code 5 = .ok (.aload_n 0, 1) := by decide +kernel
theorem d_Rock_hasJoint_6 : decode prog_6_method_3_code 6 = .ok (.getfield 37, 3) := by decide +kernel
theorem d_Rock_hasJoint_9 : decode prog_6_method_3_code 9 = .ok (.if_icmp .ge 29, 3) := by decide +kernel
theorem d_Rock_hasJoint_12 : decode prog_6_method_3_code 12 = .ok (.aload_n 0, 1) := by decide +kernel
theorem d_Rock_hasJoint_13 : decode prog_6_method_3_code 13 = .ok (.getfield 11, 3) := by decide +kernel
theorem d_Rock_hasJoint_16 : decode prog_6_method_3_code 16 = .ok (.iload 5, 2) := by decide +kernel
theorem d_Rock_hasJoint_18 : decode prog_6_method_3_code 18 = .ok (.aaload, 1) := by decide +kernel
theorem d_Rock_hasJoint_19 : decode prog_6_method_3_code 19 = .ok (.iload_n 1, 1) := by decide +kernel
theorem d_Rock_hasJoint_20 : decode prog_6_method_3_code 20 = .ok (.iload_n 2, 1) := by decide +kernel
theorem d_Rock_hasJoint_21 : decode prog_6_method_3_code 21 = .ok (.iload_n 3, 1) := by decide +kernel
theorem d_Rock_hasJoint_22 : decode prog_6_method_3_code 22 = .ok (.iload 4, 2) := by decide +kernel
theorem d_Rock_hasJoint_24 : decode prog_6_method_3_code 24 = .ok (.invokevirtual 96, 3) := by decide +kernel
theorem d_Rock_hasJoint_27 : decode prog_6_method_3_code 27 = .ok (.ifCond .eq 5, 3) := by decide +kernel
theorem d_Rock_hasJoint_30 : decode prog_6_method_3_code 30 = .ok (.iconst 1, 1) := by decide +kernel
theorem d_Rock_hasJoint_31 : decode prog_6_method_3_code 31 = .ok (.ireturn, 1) := by decide +kernel
theorem d_Rock_hasJoint_32 : decode prog_6_method_3_code 32 = .ok (.iinc 5 1, 3) := by decide +kernel
theorem d_Rock_hasJoint_35 : decode prog_6_method_3_code 35 = .ok (.goto (-32), 3) := by decide +kernel
theorem d_Rock_hasJoint_38 : decode prog_6_method_3_code 38 = .ok (.iconst 0, 1) := by decide +kernel
theorem d_Rock_hasJoint_39 : decode prog_6_method_3_code 39 = .ok (.ireturn, 1) := by decide +kernel
theorem d_Plane_isSame_0 : decode prog_4_method_4_code 0 = .ok (.aload_n 0, 1) := by decide +kernel
theorem d_Plane_isSame_1 : decode prog_4_method_4_code 1 = .ok (.getfield 10, 3) := by decide +kernel
theorem d_Plane_isSame_4 : decode prog_4_method_4_code 4 = .ok (.getfield 24, 3) := by decide +kernel
theorem d_Plane_isSame_7 : decode prog_4_method_4_code 7 = .ok (.iload_n 2, 1) := by decide +kernel
theorem d_Plane_isSame_8 : decode prog_4_method_4_code 8 = .ok (.imul, 1) := by decide +kernel
theorem d_Plane_isSame_9 : decode prog_4_method_4_code 9 = .ok (.aload_n 0, 1) := by decide +kernel
theorem d_Plane_isSame_10 : decode prog_4_method_4_code 10 = .ok (.getfield 10, 3) := by decide +kernel
theorem d_Plane_isSame_13 : decode prog_4_method_4_code 13 = .ok (.getfield 27, 3) := by decide +kernel
theorem d_Plane_isSame_16 : decode prog_4_method_4_code 16 = .ok (.iload_n 1, 1) := by decide +kernel
theorem d_Plane_isSame_17 : decode prog_4_method_4_code 17 = .ok (.imul, 1) := by decide +kernel
theorem d_Plane_isSame_18 : decode prog_4_method_4_code 18 = .ok (.if_icmp .ne 106, 3) := by decide +kernel
theorem d_Plane_isSame_21 : decode prog_4_method_4_code 21 = .ok (.aload_n 0, 1) := by decide +kernel
theorem d_Plane_isSame_22 : decode prog_4_method_4_code 22 = .ok (.getfield 10, 3) := by decide +kernel
theorem d_Plane_isSame_25 : decode prog_4_method_4_code 25 = .ok (.getfield 24, 3) := by decide +kernel
theorem d_Plane_isSame_28 : decode prog_4_method_4_code 28 = .ok (.iload_n 3, 1) := by decide +kernel
theorem d_Plane_isSame_29 : decode prog_4_method_4_code 29 = .ok (.imul, 1) := by decide +kernel
theorem d_Plane_isSame_30 : decode prog_4_method_4_code 30 = .ok (.aload_n 0, 1) := by decide +kernel
theorem d_Plane_isSame_31 : decode prog_4_method_4_code 31 = .ok (.getfield 10, 3) := by decide +kernel
theorem d_Plane_isSame_34 : decode prog_4_method_4_code 34 = .ok (.getfield 30, 3) := by decide +kernel
theorem d_Plane_isSame_37 : decode prog_4_method_4_code 37 = .ok (.iload_n 1, 1) := by decide +kernel
theorem d_Plane_isSame_38 : decode prog_4_method_4_code 38 = .ok (.imul, 1) := by decide +kernel
theorem d_Plane_isSame_39 : decode prog_4_method_4_code 39 = .ok (.if_icmp .ne 85, 3) := by decide +kernel
theorem d_Plane_isSame_42 : decode prog_4_method_4_code 42 = .ok (.aload_n 0, 1) := by decide +kernel
theorem d_Plane_isSame_43 : decode prog_4_method_4_code 43 = .ok (.getfield 10, 3) := by decide +kernel
theorem d_Plane_isSame_46 : decode prog_4_method_4_code 46 = .ok (.getfield 27, 3) := by decide +kernel
theorem d_Plane_isSame_49 : decode prog_4_method_4_code 49 = .ok (.iload_n 3, 1) := by decide +kernel
theorem d_Plane_isSame_50 : decode prog_4_method_4_code 50 = .ok (.imul, 1) := by decide +kernel
theorem d_Plane_isSame_51 : decode prog_4_method_4_code 51 = .ok (.aload_n 0, 1) := by decide +kernel
theorem d_Plane_isSame_52 : decode prog_4_method_4_code 52 = .ok (.getfield 10, 3) := by decide +kernel
theorem d_Plane_isSame_55 : decode prog_4_method_4_code 55 = .ok (.getfield 30, 3) := by decide +kernel
theorem d_Plane_isSame_58 : decode prog_4_method_4_code 58 = .ok (.iload_n 2, 1) := by decide +kernel
theorem d_Plane_isSame_59 : decode prog_4_method_4_code 59 = .ok (.imul, 1) := by decide +kernel
theorem d_Plane_isSame_60 : decode prog_4_method_4_code 60 = .ok (.if_icmp .ne 64, 3) := by decide +kernel
theorem d_Plane_isSame_63 : decode prog_4_method_4_code 63 = .ok (.aload_n 0, 1) := by decide +kernel
theorem d_Plane_isSame_64 : decode prog_4_method_4_code 64 = .ok (.getfield 10, 3) := by decide +kernel
theorem d_Plane_isSame_67 : decode prog_4_method_4_code 67 = .ok (.getfield 24, 3) := by decide +kernel
theorem d_Plane_isSame_70 : decode prog_4_method_4_code 70 = .ok (.iload 4, 2) := by decide +kernel
theorem d_Plane_isSame_72 : decode prog_4_method_4_code 72 = .ok (.imul, 1) := by decide +kernel
theorem d_Plane_isSame_73 : decode prog_4_method_4_code 73 = .ok (.aload_n 0, 1) := by decide +kernel
theorem d_Plane_isSame_74 : decode prog_4_method_4_code 74 = .ok (.getfield 16, 3) := by decide +kernel
theorem d_Plane_isSame_77 : decode prog_4_method_4_code 77 = .ok (.iload_n 1, 1) := by decide +kernel
theorem d_Plane_isSame_78 : decode prog_4_method_4_code 78 = .ok (.imul, 1) := by decide +kernel
theorem d_Plane_isSame_79 : decode prog_4_method_4_code 79 = .ok (.if_icmp .ne 45, 3) := by decide +kernel
theorem d_Plane_isSame_82 : decode prog_4_method_4_code 82 = .ok (.aload_n 0, 1) := by decide +kernel
theorem d_Plane_isSame_83 : decode prog_4_method_4_code 83 = .ok (.getfield 10, 3) := by decide +kernel
theorem d_Plane_isSame_86 : decode prog_4_method_4_code 86 = .ok (.getfield 27, 3) := by decide +kernel
theorem d_Plane_isSame_89 : decode prog_4_method_4_code 89 = .ok (.iload 4, 2) := by decide +kernel
theorem d_Plane_isSame_91 : decode prog_4_method_4_code 91 = .ok (.imul, 1) := by decide +kernel
theorem d_Plane_isSame_92 : decode prog_4_method_4_code 92 = .ok (.aload_n 0, 1) := by decide +kernel
theorem d_Plane_isSame_93 : decode prog_4_method_4_code 93 = .ok (.getfield 16, 3) := by decide +kernel
theorem d_Plane_isSame_96 : decode prog_4_method_4_code 96 = .ok (.iload_n 2, 1) := by decide +kernel
theorem d_Plane_isSame_97 : decode prog_4_method_4_code 97 = .ok (.imul, 1) := by decide +kernel
theorem d_Plane_isSame_98 : decode prog_4_method_4_code 98 = .ok (.if_icmp .ne 26, 3) := by decide +kernel
theorem d_Plane_isSame_101 : decode prog_4_method_4_code 101 = .ok (.aload_n 0, 1) := by decide +kernel
theorem d_Plane_isSame_102 : decode prog_4_method_4_code 102 = .ok (.getfield 10, 3) := by decide +kernel
theorem d_Plane_isSame_105 : decode prog_4_method_4_code 105 = .ok (.getfield 30, 3) := by decide +kernel
theorem d_Plane_isSame_108 : decode prog_4_method_4_code 108 = .ok (.iload 4, 2) := by decide +kernel
theorem d_Plane_isSame_110 : decode prog_4_method_4_code 110 = .ok (.imul, 1) := by decide +kernel
theorem d_Plane_isSame_111 : decode prog_4_method_4_code 111 = .ok (.aload_n 0, 1) := by decide +kernel
theorem d_Plane_isSame_112 : decode prog_4_method_4_code 112 = .ok (.getfield 16, 3) := by decide +kernel
theorem d_Plane_isSame_115 : decode prog_4_method_4_code 115 = .ok (.iload_n 3, 1) := by decide +kernel
theorem d_Plane_isSame_116 : decode prog_4_method_4_code 116 = .ok (.imul, 1) := by decide +kernel
theorem d_Plane_isSame_117 : decode prog_4_method_4_code 117 = .ok (.if_icmp .ne 7, 3) := by decide +kernel
theorem d_Plane_isSame_120 : decode prog_4_method_4_code 120 = .ok (.iconst 1, 1) := by decide +kernel
theorem d_Plane_isSame_121 : decode prog_4_method_4_code 121 = .ok (.goto 4, 3) := by decide +kernel
theorem d_Plane_isSame_124 : decode prog_4_method_4_code 124 = .ok (.iconst 0, 1) := by decide +kernel
theorem d_Plane_isSame_125 : decode prog_4_method_4_code 125 = .ok (.ireturn, 1) := by decide +kernel
theorem d_Rock_addJoint_0 : decode prog_6_method_4_code 0 = .ok (.aload_n 0, 1) := by decide +kernel
theorem d_Rock_addJoint_1 : decode prog_6_method_4_code 1 = .ok (.getfield 37, 3) := by decide +kernel
theorem d_Rock_addJoint_4 : decode prog_6_method_4_code 4 = .ok (.bipush 6, 2) := by decide +kernel
theorem d_Rock_addJoint_6 : decode prog_6_method_4_code 6 = .ok (.if_icmp .ge 58, 3) := by decide +kernel
theorem d_Rock_addJoint_9 : decode prog_6_method_4_code 9 = .ok (.aload_n 0, 1) := by decide +kernel
theorem d_Rock_addJoint_10 : decode prog_6_method_4_code 10 = .ok (.getfield 11, 3) := by decide +kernel
theorem d_Rock_addJoint_13 : decode prog_6_method_4_code 13 = .ok (.aload_n 0, 1) := by decide +kernel
theorem d_Rock_addJoint_14 : decode prog_6_method_4_code 14 = .ok (.getfield 37, 3) := by decide +kernel
theorem d_Rock_addJoint_17 : decode prog_6_method_4_code 17 = .ok (.aaload, 1) := by decide +kernel
theorem d_Rock_addJoint_18 : decode prog_6_method_4_code 18 = .ok (.iload_n 1, 1) := by decide +kernel
theorem d_Rock_addJoint_19 : decode prog_6_method_4_code 19 = .ok (.iload_n 2, 1) := by decide +kernel
theorem d_Rock_addJoint_20 : decode prog_6_method_4_code 20 = .ok (.iload_n 3, 1) := by decide +kernel
theorem d_Rock_addJoint_21 : decode prog_6_method_4_code 21 = .ok (.iload 4, 2) := by decide +kernel
theorem d_Rock_addJoint_23 : decode prog_6_method_4_code 23 = .ok (.invokevirtual 76, 3) := by decide +kernel
theorem d_Rock_addJoint_26 : decode prog_6_method_4_code 26 = .ok (.aload_n 0, 1) := by decide +kernel
theorem d_Rock_addJoint_27 : decode prog_6_method_4_code 27 = .ok (.getfield 44, 3) := by decide +kernel
theorem d_Rock_addJoint_30 : decode prog_6_method_4_code 30 = .ok (.aload_n 0, 1) := by decide +kernel
theorem d_Rock_addJoint_31 : decode prog_6_method_4_code 31 = .ok (.getfield 37, 3) := by decide +kernel
theorem d_Rock_addJoint_34 : decode prog_6_method_4_code 34 = .ok (.aload_n 0, 1) := by decide +kernel
theorem d_Rock_addJoint_35 : decode prog_6_method_4_code 35 = .ok (.getfield 20, 3) := by decide +kernel
theorem d_Rock_addJoint_38 : decode prog_6_method_4_code 38 = .ok (.getfield 100, 3) := by decide +kernel
theorem d_Rock_addJoint_41 : decode prog_6_method_4_code 41 = .ok (.iastore, 1) := by decide +kernel
theorem d_Rock_addJoint_42 : decode prog_6_method_4_code 42 = .ok (.aload_n 0, 1) := by decide +kernel
theorem d_Rock_addJoint_43 : decode prog_6_method_4_code 43 = .ok (.aload_n 0, 1) := by decide +kernel
theorem d_Rock_addJoint_44 : decode prog_6_method_4_code 44 = .ok (.getfield 37, 3) := by decide +kernel
theorem d_Rock_addJoint_47 : decode prog_6_method_4_code 47 = .ok (.invokevirtual 80, 3) := by decide +kernel
theorem d_Rock_addJoint_50 : decode prog_6_method_4_code 50 = .ok (.aload_n 0, 1) := by decide +kernel
theorem d_Rock_addJoint_51 : decode prog_6_method_4_code 51 = .ok (.dup, 1) := by decide +kernel
theorem d_Rock_addJoint_52 : decode prog_6_method_4_code 52 = .ok (.getfield 37, 3) := by decide +kernel
theorem d_Rock_addJoint_55 : decode prog_6_method_4_code 55 = .ok (.iconst 1, 1) := by decide +kernel
theorem d_Rock_addJoint_56 : decode prog_6_method_4_code 56 = .ok (.iadd, 1) := by decide +kernel
theorem d_Rock_addJoint_57 : decode prog_6_method_4_code 57 = .ok (.putfield 37, 3) := by decide +kernel
theorem d_Rock_addJoint_60 : decode prog_6_method_4_code 60 = .ok (.aload_n 0, 1) := by decide +kernel
theorem d_Rock_addJoint_61 : decode prog_6_method_4_code 61 = .ok (.invokevirtual 84, 3) := by decide +kernel
theorem d_Rock_addJoint_64 : decode prog_6_method_4_code 64 = .ok (.return_, 1) := by decide +kernel
theorem d_Law_open_0 : decode method_4_code 0 = .ok (.aload_n 3, 1) := by decide +kernel
theorem d_Law_open_1 : decode method_4_code 1 = .ok (.iconst 0, 1) := by decide +kernel
theorem d_Law_open_2 : decode method_4_code 2 = .ok (.aload_n 0, 1) := by decide +kernel
theorem d_Law_open_3 : decode method_4_code 3 = .ok (.iload_n 1, 1) := by decide +kernel
theorem d_Law_open_4 : decode method_4_code 4 = .ok (.iload_n 2, 1) := by decide +kernel
theorem d_Law_open_5 : decode method_4_code 5 = .ok (.invokevirtual 17, 3) := by decide +kernel
theorem d_Law_open_8 : decode method_4_code 8 = .ok (.ifCond .eq 7, 3) := by decide +kernel
theorem d_Law_open_11 : decode method_4_code 11 = .ok (.lconst 1, 1) := by decide +kernel
theorem d_Law_open_12 : decode method_4_code 12 = .ok (.goto 4, 3) := by decide +kernel
theorem d_Law_open_15 : decode method_4_code 15 = .ok (.lconst 0, 1) := by decide +kernel
theorem d_Law_open_16 : decode method_4_code 16 = .ok (.lastore, 1) := by decide +kernel
theorem d_Law_open_17 : decode method_4_code 17 = .ok (.goto 7, 3) := by decide +kernel
theorem d_Law_open_20 : decode method_4_code 20 = .ok (.astore 4, 2) := by decide +kernel
theorem d_Law_open_22 : decode method_4_code 22 = .ok (.iconst 1, 1) := by decide +kernel
theorem d_Law_open_23 : decode method_4_code 23 = .ok (.ireturn, 1) := by decide +kernel
theorem d_Law_open_24 : decode method_4_code 24 = .ok (.iconst 0, 1) := by decide +kernel
theorem d_Law_open_25 : decode method_4_code 25 = .ok (.ireturn, 1) := by decide +kernel
theorem d_WP_open_0 : decode prog_1_method_4_code 0 = .ok (.iload_n 1, 1) := by decide +kernel
theorem d_WP_open_1 : decode prog_1_method_4_code 1 = .ok (.bipush 6, 2) := by decide +kernel
theorem d_WP_open_3 : decode prog_1_method_4_code 3 = .ok (.if_icmp .lt 9, 3) := by decide +kernel
theorem d_WP_open_6 : decode prog_1_method_4_code 6 = .ok (.iload_n 1, 1) := by decide +kernel
theorem d_WP_open_7 : decode prog_1_method_4_code 7 = .ok (.bipush 12, 2) := by decide +kernel
theorem d_WP_open_9 : decode prog_1_method_4_code 9 = .ok (.if_icmp .lt 13, 3) := by decide +kernel
theorem d_WP_open_12 : decode prog_1_method_4_code 12 = .ok (.new 96, 3) := by decide +kernel
theorem d_WP_open_15 : decode prog_1_method_4_code 15 = .ok (.dup, 1) := by decide +kernel
theorem d_WP_open_16 : decode prog_1_method_4_code 16 = .ok (.ldc 98, 2) := by decide +kernel
theorem d_WP_open_18 : decode prog_1_method_4_code 18 = .ok (.invokespecial 100, 3) := by decide +kernel
theorem d_WP_open_21 : decode prog_1_method_4_code 21 = .ok (.athrow, 1) := by decide +kernel
theorem d_WP_open_22 : decode prog_1_method_4_code 22 = .ok (.aload_n 0, 1) := by decide +kernel
theorem d_WP_open_23 : decode prog_1_method_4_code 23 = .ok (.getfield 45, 3) := by decide +kernel
theorem d_WP_open_26 : decode prog_1_method_4_code 26 = .ok (.iload_n 1, 1) := by decide +kernel
theorem d_WP_open_27 : decode prog_1_method_4_code 27 = .ok (.invokestatic 101, 3) := by decide +kernel
theorem d_WP_open_30 : decode prog_1_method_4_code 30 = .ok (.iload_n 2, 1) := by decide +kernel
theorem d_WP_open_31 : decode prog_1_method_4_code 31 = .ok (.if_icmp .eq 7, 3) := by decide +kernel
theorem d_WP_open_34 : decode prog_1_method_4_code 34 = .ok (.iconst 1, 1) := by decide +kernel
theorem d_WP_open_35 : decode prog_1_method_4_code 35 = .ok (.goto 4, 3) := by decide +kernel
theorem d_WP_open_38 : decode prog_1_method_4_code 38 = .ok (.iconst 0, 1) := by decide +kernel
theorem d_WP_open_39 : decode prog_1_method_4_code 39 = .ok (.istore_n 3, 1) := by decide +kernel
theorem d_WP_open_40 : decode prog_1_method_4_code 40 = .ok (.iload_n 3, 1) := by decide +kernel
theorem d_WP_open_41 : decode prog_1_method_4_code 41 = .ok (.ifCond .eq 15, 3) := by decide +kernel
theorem d_WP_open_44 : decode prog_1_method_4_code 44 = .ok (.aload_n 0, 1) := by decide +kernel
theorem d_WP_open_45 : decode prog_1_method_4_code 45 = .ok (.dup, 1) := by decide +kernel
theorem d_WP_open_46 : decode prog_1_method_4_code 46 = .ok (.getfield 45, 3) := by decide +kernel
theorem d_WP_open_49 : decode prog_1_method_4_code 49 = .ok (.iconst 1, 1) := by decide +kernel
theorem d_WP_open_50 : decode prog_1_method_4_code 50 = .ok (.iload_n 1, 1) := by decide +kernel
theorem d_WP_open_51 : decode prog_1_method_4_code 51 = .ok (.ishl, 1) := by decide +kernel
theorem d_WP_open_52 : decode prog_1_method_4_code 52 = .ok (.ixor, 1) := by decide +kernel
theorem d_WP_open_53 : decode prog_1_method_4_code 53 = .ok (.putfield 45, 3) := by decide +kernel
theorem d_WP_open_56 : decode prog_1_method_4_code 56 = .ok (.iload_n 3, 1) := by decide +kernel
theorem d_WP_open_57 : decode prog_1_method_4_code 57 = .ok (.ireturn, 1) := by decide +kernel
theorem d_Law_direction_0 : decode method_5_code 0 = .ok (.aload 4, 2) := by decide +kernel
theorem d_Law_direction_2 : decode method_5_code 2 = .ok (.iconst 0, 1) := by decide +kernel
theorem d_Law_direction_3 : decode method_5_code 3 = .ok (.aload_n 0, 1) := by decide +kernel
theorem d_Law_direction_4 : decode method_5_code 4 = .ok (.iload_n 1, 1) := by decide +kernel
theorem d_Law_direction_5 : decode method_5_code 5 = .ok (.iload_n 2, 1) := by decide +kernel
theorem d_Law_direction_6 : decode method_5_code 6 = .ok (.iload_n 3, 1) := by decide +kernel
theorem d_Law_direction_7 : decode method_5_code 7 = .ok (.invokevirtual 23, 3) := by decide +kernel
theorem d_Law_direction_10 : decode method_5_code 10 = .ok (.i2l, 1) := by decide +kernel
theorem d_Law_direction_11 : decode method_5_code 11 = .ok (.lastore, 1) := by decide +kernel
theorem d_Law_direction_12 : decode method_5_code 12 = .ok (.goto 11, 3) := by decide +kernel
theorem d_Law_direction_15 : decode method_5_code 15 = .ok (.astore 5, 2) := by decide +kernel
theorem d_Law_direction_17 : decode method_5_code 17 = .ok (.iconst 1, 1) := by decide +kernel
theorem d_Law_direction_18 : decode method_5_code 18 = .ok (.ireturn, 1) := by decide +kernel
theorem d_Law_direction_19 : decode method_5_code 19 = .ok (.astore 5, 2) := by decide +kernel
theorem d_Law_direction_21 : decode method_5_code 21 = .ok (.iconst 2, 1) := by decide +kernel
theorem d_Law_direction_22 : decode method_5_code 22 = .ok (.ireturn, 1) := by decide +kernel
theorem d_Law_direction_23 : decode method_5_code 23 = .ok (.iconst 0, 1) := by decide +kernel
theorem d_Law_direction_24 : decode method_5_code 24 = .ok (.ireturn, 1) := by decide +kernel
theorem d_WP_direction_0 : decode prog_1_method_5_code 0 = .ok (.iload_n 1, 1) := by decide +kernel
theorem d_WP_direction_1 : decode prog_1_method_5_code 1 = .ok (.iload_n 2, 1) := by decide +kernel
theorem d_WP_direction_2 : decode prog_1_method_5_code 2 = .ok (.iload_n 3, 1) := by decide +kernel
theorem d_WP_direction_3 : decode prog_1_method_5_code 3 = .ok (.invokestatic 105, 3) := by decide +kernel
theorem d_WP_direction_6 : decode prog_1_method_5_code 6 = .ok (.ifCond .eq 15, 3) := by decide +kernel
theorem d_WP_direction_9 : decode prog_1_method_5_code 9 = .ok (.iload_n 1, 1) := by decide +kernel
theorem d_WP_direction_10 : decode prog_1_method_5_code 10 = .ok (.ifCond .ne 21, 3) := by decide +kernel
theorem d_WP_direction_13 : decode prog_1_method_5_code 13 = .ok (.iload_n 2, 1) := by decide +kernel
theorem d_WP_direction_14 : decode prog_1_method_5_code 14 = .ok (.ifCond .ne 17, 3) := by decide +kernel
theorem d_WP_direction_17 : decode prog_1_method_5_code 17 = .ok (.iload_n 3, 1) := by decide +kernel
theorem d_WP_direction_18 : decode prog_1_method_5_code 18 = .ok (.ifCond .ne 13, 3) := by decide +kernel
theorem d_WP_direction_21 : decode prog_1_method_5_code 21 = .ok (.new 71, 3) := by decide +kernel
theorem d_WP_direction_24 : decode prog_1_method_5_code 24 = .ok (.dup, 1) := by decide +kernel
theorem d_WP_direction_25 : decode prog_1_method_5_code 25 = .ok (.ldc 109, 2) := by decide +kernel
theorem d_WP_direction_27 : decode prog_1_method_5_code 27 = .ok (.invokespecial 75, 3) := by decide +kernel
theorem d_WP_direction_30 : decode prog_1_method_5_code 30 = .ok (.athrow, 1) := by decide +kernel
theorem d_WP_direction_31 : decode prog_1_method_5_code 31 = .ok (.aload_n 0, 1) := by decide +kernel
theorem d_WP_direction_32 : decode prog_1_method_5_code 32 = .ok (.getfield 42, 3) := by decide +kernel
theorem d_WP_direction_35 : decode prog_1_method_5_code 35 = .ok (.bipush 8, 2) := by decide +kernel
theorem d_WP_direction_37 : decode prog_1_method_5_code 37 = .ok (.if_icmp .lt 13, 3) := by decide +kernel
theorem d_WP_direction_40 : decode prog_1_method_5_code 40 = .ok (.new 81, 3) := by decide +kernel
theorem d_WP_direction_43 : decode prog_1_method_5_code 43 = .ok (.dup, 1) := by decide +kernel
theorem d_WP_direction_44 : decode prog_1_method_5_code 44 = .ok (.ldc 111, 2) := by decide +kernel
theorem d_WP_direction_46 : decode prog_1_method_5_code 46 = .ok (.invokespecial 85, 3) := by decide +kernel
theorem d_WP_direction_49 : decode prog_1_method_5_code 49 = .ok (.athrow, 1) := by decide +kernel
theorem d_WP_direction_50 : decode prog_1_method_5_code 50 = .ok (.aload_n 0, 1) := by decide +kernel
theorem d_WP_direction_51 : decode prog_1_method_5_code 51 = .ok (.getfield 18, 3) := by decide +kernel
theorem d_WP_direction_54 : decode prog_1_method_5_code 54 = .ok (.aload_n 0, 1) := by decide +kernel
theorem d_WP_direction_55 : decode prog_1_method_5_code 55 = .ok (.getfield 42, 3) := by decide +kernel
theorem d_WP_direction_58 : decode prog_1_method_5_code 58 = .ok (.aaload, 1) := by decide +kernel
theorem d_WP_direction_59 : decode prog_1_method_5_code 59 = .ok (.iload_n 1, 1) := by decide +kernel
theorem d_WP_direction_60 : decode prog_1_method_5_code 60 = .ok (.iload_n 2, 1) := by decide +kernel
theorem d_WP_direction_61 : decode prog_1_method_5_code 61 = .ok (.iload_n 3, 1) := by decide +kernel
theorem d_WP_direction_62 : decode prog_1_method_5_code 62 = .ok (.invokevirtual 61, 3) := by decide +kernel
theorem d_WP_direction_65 : decode prog_1_method_5_code 65 = .ok (.aload_n 0, 1) := by decide +kernel
theorem d_WP_direction_66 : decode prog_1_method_5_code 66 = .ok (.dup, 1) := by decide +kernel
theorem d_WP_direction_67 : decode prog_1_method_5_code 67 = .ok (.getfield 42, 3) := by decide +kernel
theorem d_WP_direction_70 : decode prog_1_method_5_code 70 = .ok (.iconst 1, 1) := by decide +kernel
theorem d_WP_direction_71 : decode prog_1_method_5_code 71 = .ok (.iadd, 1) := by decide +kernel
theorem d_WP_direction_72 : decode prog_1_method_5_code 72 = .ok (.putfield 42, 3) := by decide +kernel
theorem d_WP_direction_75 : decode prog_1_method_5_code 75 = .ok (.aload_n 0, 1) := by decide +kernel
theorem d_WP_direction_76 : decode prog_1_method_5_code 76 = .ok (.getfield 42, 3) := by decide +kernel
theorem d_WP_direction_79 : decode prog_1_method_5_code 79 = .ok (.iconst 1, 1) := by decide +kernel
theorem d_WP_direction_80 : decode prog_1_method_5_code 80 = .ok (.isub, 1) := by decide +kernel
theorem d_WP_direction_81 : decode prog_1_method_5_code 81 = .ok (.ireturn, 1) := by decide +kernel
theorem d_WP_isStep_0 : decode prog_1_method_22_code 0 = .ok (.iload_n 0, 1) := by decide +kernel
theorem d_WP_isStep_1 : decode prog_1_method_22_code 1 = .ok (.bipush 9, 2) := by decide +kernel
theorem d_WP_isStep_3 : decode prog_1_method_22_code 3 = .ok (.invokestatic 209, 3) := by decide +kernel
theorem d_WP_isStep_6 : decode prog_1_method_22_code 6 = .ok (.ifCond .eq 25, 3) := by decide +kernel
theorem d_WP_isStep_9 : decode prog_1_method_22_code 9 = .ok (.iload_n 1, 1) := by decide +kernel
theorem d_WP_isStep_10 : decode prog_1_method_22_code 10 = .ok (.bipush 9, 2) := by decide +kernel
theorem d_WP_isStep_12 : decode prog_1_method_22_code 12 = .ok (.invokestatic 209, 3) := by decide +kernel
theorem d_WP_isStep_15 : decode prog_1_method_22_code 15 = .ok (.ifCond .eq 16, 3) := by decide +kernel
theorem d_WP_isStep_18 : decode prog_1_method_22_code 18 = .ok (.iload_n 2, 1) := by decide +kernel
theorem d_WP_isStep_19 : decode prog_1_method_22_code 19 = .ok (.bipush 9, 2) := by decide +kernel
theorem d_WP_isStep_21 : decode prog_1_method_22_code 21 = .ok (.invokestatic 209, 3) := by decide +kernel
theorem d_WP_isStep_24 : decode prog_1_method_22_code 24 = .ok (.ifCond .eq 7, 3) := by decide +kernel
theorem d_WP_isStep_27 : decode prog_1_method_22_code 27 = .ok (.iconst 1, 1) := by decide +kernel
theorem d_WP_isStep_28 : decode prog_1_method_22_code 28 = .ok (.goto 4, 3) := by decide +kernel
theorem d_WP_isStep_31 : decode prog_1_method_22_code 31 = .ok (.iconst 0, 1) := by decide +kernel
theorem d_WP_isStep_32 : decode prog_1_method_22_code 32 = .ok (.ireturn, 1) := by decide +kernel
theorem d_Law_pull_0 : decode method_6_code 0 = .ok (.aload_n 0, 1) := by decide +kernel
theorem d_Law_pull_1 : decode method_6_code 1 = .ok (.iload_n 1, 1) := by decide +kernel
theorem d_Law_pull_2 : decode method_6_code 2 = .ok (.iload_n 2, 1) := by decide +kernel
theorem d_Law_pull_3 : decode method_6_code 3 = .ok (.iload_n 3, 1) := by decide +kernel
theorem d_Law_pull_4 : decode method_6_code 4 = .ok (.invokevirtual 27, 3) := by decide +kernel
theorem d_Law_pull_7 : decode method_6_code 7 = .ok (.goto 7, 3) := by decide +kernel
theorem d_Law_pull_10 : decode method_6_code 10 = .ok (.astore 4, 2) := by decide +kernel
theorem d_Law_pull_12 : decode method_6_code 12 = .ok (.iconst 1, 1) := by decide +kernel
theorem d_Law_pull_13 : decode method_6_code 13 = .ok (.ireturn, 1) := by decide +kernel
theorem d_Law_pull_14 : decode method_6_code 14 = .ok (.iconst 0, 1) := by decide +kernel
theorem d_Law_pull_15 : decode method_6_code 15 = .ok (.ireturn, 1) := by decide +kernel
theorem d_WP_pull_0 : decode prog_1_method_6_code 0 = .ok (.iload_n 1, 1) := by decide +kernel
theorem d_WP_pull_1 : decode prog_1_method_6_code 1 = .ok (.iload_n 2, 1) := by decide +kernel
theorem d_WP_pull_2 : decode prog_1_method_6_code 2 = .ok (.iload_n 3, 1) := by decide +kernel
theorem d_WP_pull_3 : decode prog_1_method_6_code 3 = .ok (.invokestatic 105, 3) := by decide +kernel
theorem d_WP_pull_6 : decode prog_1_method_6_code 6 = .ok (.ifCond .ne 13, 3) := by decide +kernel
theorem d_WP_pull_9 : decode prog_1_method_6_code 9 = .ok (.new 71, 3) := by decide +kernel
theorem d_WP_pull_12 : decode prog_1_method_6_code 12 = .ok (.dup, 1) := by decide +kernel
theorem d_WP_pull_13 : decode prog_1_method_6_code 13 = .ok (.ldc 113, 2) := by decide +kernel
theorem d_WP_pull_15 : decode prog_1_method_6_code 15 = .ok (.invokespecial 75, 3) := by decide +kernel
theorem d_WP_pull_18 : decode prog_1_method_6_code 18 = .ok (.athrow, 1) := by decide +kernel
theorem d_WP_pull_19 : decode prog_1_method_6_code 19 = .ok (.aload_n 0, 1) := by decide +kernel
theorem d_WP_pull_20 : decode prog_1_method_6_code 20 = .ok (.getfield 23, 3) := by decide +kernel
theorem d_WP_pull_23 : decode prog_1_method_6_code 23 = .ok (.iload_n 1, 1) := by decide +kernel
theorem d_WP_pull_24 : decode prog_1_method_6_code 24 = .ok (.iload_n 2, 1) := by decide +kernel
theorem d_WP_pull_25 : decode prog_1_method_6_code 25 = .ok (.iload_n 3, 1) := by decide +kernel
theorem d_WP_pull_26 : decode prog_1_method_6_code 26 = .ok (.invokevirtual 61, 3) := by decide +kernel
theorem d_WP_pull_29 : decode prog_1_method_6_code 29 = .ok (.return_, 1) := by decide +kernel
theorem d_Law_block_0 : decode method_7_code 0 = .ok (.aload_n 3, 1) := by decide +kernel
theorem d_Law_block_1 : decode method_7_code 1 = .ok (.iconst 0, 1) := by decide +kernel
theorem d_Law_block_2 : decode method_7_code 2 = .ok (.aload_n 0, 1) := by decide +kernel
theorem d_Law_block_3 : decode method_7_code 3 = .ok (.iload_n 1, 1) := by decide +kernel
theorem d_Law_block_4 : decode method_7_code 4 = .ok (.iload_n 2, 1) := by decide +kernel
theorem d_Law_block_5 : decode method_7_code 5 = .ok (.invokevirtual 31, 3) := by decide +kernel
theorem d_Law_block_8 : decode method_7_code 8 = .ok (.i2l, 1) := by decide +kernel
theorem d_Law_block_9 : decode method_7_code 9 = .ok (.lastore, 1) := by decide +kernel
theorem d_Law_block_10 : decode method_7_code 10 = .ok (.goto 7, 3) := by decide +kernel
theorem d_Law_block_13 : decode method_7_code 13 = .ok (.astore 4, 2) := by decide +kernel
theorem d_Law_block_15 : decode method_7_code 15 = .ok (.iconst 1, 1) := by decide +kernel
theorem d_Law_block_16 : decode method_7_code 16 = .ok (.ireturn, 1) := by decide +kernel
theorem d_Law_block_17 : decode method_7_code 17 = .ok (.iconst 0, 1) := by decide +kernel
theorem d_Law_block_18 : decode method_7_code 18 = .ok (.ireturn, 1) := by decide +kernel
theorem d_WP_block_0 : decode prog_1_method_8_code 0 = .ok (.aload_n 0, 1) := by decide +kernel
theorem d_WP_block_1 : decode prog_1_method_8_code 1 = .ok (.iload_n 1, 1) := by decide +kernel
theorem d_WP_block_2 : decode prog_1_method_8_code 2 = .ok (.invokevirtual 118, 3) := by decide +kernel
theorem d_WP_block_5 : decode prog_1_method_8_code 5 = .ok (.iload_n 2, 1) := by decide +kernel
theorem d_WP_block_6 : decode prog_1_method_8_code 6 = .ok (.tableswitch 88 0 4 #[34, 44, 54, 64, 73], 34) := by decide +kernel
theorem d_WP_block_40 : decode prog_1_method_8_code 40 = .ok (.aload_n 0, 1) := by decide +kernel
theorem d_WP_block_41 : decode prog_1_method_8_code 41 = .ok (.getfield 57, 3) := by decide +kernel
theorem d_WP_block_44 : decode prog_1_method_8_code 44 = .ok (.getfield 122, 3) := by decide +kernel
theorem d_WP_block_47 : decode prog_1_method_8_code 47 = .ok (.iload_n 1, 1) := by decide +kernel
theorem d_WP_block_48 : decode prog_1_method_8_code 48 = .ok (.iaload, 1) := by decide +kernel
theorem d_WP_block_49 : decode prog_1_method_8_code 49 = .ok (.ireturn, 1) := by decide +kernel
theorem d_WP_block_50 : decode prog_1_method_8_code 50 = .ok (.aload_n 0, 1) := by decide +kernel
theorem d_WP_block_51 : decode prog_1_method_8_code 51 = .ok (.getfield 57, 3) := by decide +kernel
theorem d_WP_block_54 : decode prog_1_method_8_code 54 = .ok (.getfield 125, 3) := by decide +kernel
theorem d_WP_block_57 : decode prog_1_method_8_code 57 = .ok (.iload_n 1, 1) := by decide +kernel
theorem d_WP_block_58 : decode prog_1_method_8_code 58 = .ok (.iaload, 1) := by decide +kernel
theorem d_WP_block_59 : decode prog_1_method_8_code 59 = .ok (.ireturn, 1) := by decide +kernel
theorem d_WP_block_60 : decode prog_1_method_8_code 60 = .ok (.aload_n 0, 1) := by decide +kernel
theorem d_WP_block_61 : decode prog_1_method_8_code 61 = .ok (.getfield 57, 3) := by decide +kernel
theorem d_WP_block_64 : decode prog_1_method_8_code 64 = .ok (.getfield 128, 3) := by decide +kernel
theorem d_WP_block_67 : decode prog_1_method_8_code 67 = .ok (.iload_n 1, 1) := by decide +kernel
theorem d_WP_block_68 : decode prog_1_method_8_code 68 = .ok (.iaload, 1) := by decide +kernel
theorem d_WP_block_69 : decode prog_1_method_8_code 69 = .ok (.ireturn, 1) := by decide +kernel
theorem d_WP_block_70 : decode prog_1_method_8_code 70 = .ok (.aload_n 0, 1) := by decide +kernel
theorem d_WP_block_71 : decode prog_1_method_8_code 71 = .ok (.getfield 57, 3) := by decide +kernel
theorem d_WP_block_74 : decode prog_1_method_8_code 74 = .ok (.iload_n 1, 1) := by decide +kernel
theorem d_WP_block_75 : decode prog_1_method_8_code 75 = .ok (.invokevirtual 131, 3) := by decide +kernel
theorem d_WP_block_78 : decode prog_1_method_8_code 78 = .ok (.ireturn, 1) := by decide +kernel
theorem d_WP_block_79 : decode prog_1_method_8_code 79 = .ok (.aload_n 0, 1) := by decide +kernel
theorem d_WP_block_80 : decode prog_1_method_8_code 80 = .ok (.getfield 27, 3) := by decide +kernel
theorem d_WP_block_83 : decode prog_1_method_8_code 83 = .ok (.iload_n 1, 1) := by decide +kernel
theorem d_WP_block_84 : decode prog_1_method_8_code 84 = .ok (.baload, 1) := by decide +kernel
theorem d_WP_block_85 : decode prog_1_method_8_code 85 = .ok (.ifCond .eq 7, 3) := by decide +kernel
theorem d_WP_block_88 : decode prog_1_method_8_code 88 = .ok (.iconst 1, 1) := by decide +kernel
theorem d_WP_block_89 : decode prog_1_method_8_code 89 = .ok (.goto 4, 3) := by decide +kernel
theorem d_WP_block_92 : decode prog_1_method_8_code 92 = .ok (.iconst 0, 1) := by decide +kernel
theorem d_WP_block_93 : decode prog_1_method_8_code 93 = .ok (.ireturn, 1) := by decide +kernel
theorem d_WP_block_94 : decode prog_1_method_8_code 94 = .ok (.new 96, 3) := by decide +kernel
theorem d_WP_block_97 : decode prog_1_method_8_code 97 = .ok (.dup, 1) := by decide +kernel
theorem d_WP_block_98 : decode prog_1_method_8_code 98 = .ok (.ldc 134, 2) := by decide +kernel
theorem d_WP_block_100 : decode prog_1_method_8_code 100 = .ok (.invokespecial 100, 3) := by decide +kernel
theorem d_WP_block_103 : decode prog_1_method_8_code 103 = .ok (.athrow, 1) := by decide +kernel
theorem d_WP_needBlock_0 : decode prog_1_method_24_code 0 = .ok (.iload_n 1, 1) := by decide +kernel
theorem d_WP_needBlock_1 : decode prog_1_method_24_code 1 = .ok (.ifCond .lt 14, 3) := by decide +kernel
theorem d_WP_needBlock_4 : decode prog_1_method_24_code 4 = .ok (.iload_n 1, 1) := by decide +kernel
theorem d_WP_needBlock_5 : decode prog_1_method_24_code 5 = .ok (.aload_n 0, 1) := by decide +kernel
theorem d_WP_needBlock_6 : decode prog_1_method_24_code 6 = .ok (.getfield 57, 3) := by decide +kernel
theorem d_WP_needBlock_9 : decode prog_1_method_24_code 9 = .ok (.getfield 115, 3) := by decide +kernel
theorem d_WP_needBlock_12 : decode prog_1_method_24_code 12 = .ok (.if_icmp .lt 13, 3) := by decide +kernel
theorem d_WP_needBlock_15 : decode prog_1_method_24_code 15 = .ok (.new 96, 3) := by decide +kernel
theorem d_WP_needBlock_18 : decode prog_1_method_24_code 18 = .ok (.dup, 1) := by decide +kernel
theorem d_WP_needBlock_19 : decode prog_1_method_24_code 19 = .ok (.ldc 215, 2) := by decide +kernel
theorem d_WP_needBlock_21 : decode prog_1_method_24_code 21 = .ok (.invokespecial 100, 3) := by decide +kernel
theorem d_WP_needBlock_24 : decode prog_1_method_24_code 24 = .ok (.athrow, 1) := by decide +kernel
theorem d_WP_needBlock_25 : decode prog_1_method_24_code 25 = .ok (.return_, 1) := by decide +kernel
theorem d_Rock_countWholePoints_0 : decode prog_6_method_8_code 0 = .ok (.iconst 0, 1) := by decide +kernel
theorem d_Rock_countWholePoints_1 : decode prog_6_method_8_code 1 = .ok (.istore_n 2, 1) := by decide +kernel
theorem d_Rock_countWholePoints_2 : decode prog_6_method_8_code 2 = .ok (.iconst 1, 1) := by decide +kernel
theorem d_Rock_countWholePoints_3 : decode prog_6_method_8_code 3 = .ok (.istore_n 3, 1) := by decide +kernel
theorem d_Rock_countWholePoints_4 : decode prog_6_method_8_code 4 = .ok (.iload_n 3, 1) := by decide +kernel
theorem d_Rock_countWholePoints_5 : decode prog_6_method_8_code 5 = .ok (.aload_n 0, 1) := by decide +kernel
theorem d_Rock_countWholePoints_6 : decode prog_6_method_8_code 6 = .ok (.getfield 66, 3) := by decide +kernel
theorem d_Rock_countWholePoints_9 : decode prog_6_method_8_code 9 = .ok (.if_icmp .ge 66, 3) := by decide +kernel
theorem d_Rock_countWholePoints_12 : decode prog_6_method_8_code 12 = .ok (.iconst 1, 1) := by decide +kernel
theorem d_Rock_countWholePoints_13 : decode prog_6_method_8_code 13 = .ok (.istore 4, 2) := by decide +kernel
theorem d_Rock_countWholePoints_15 : decode prog_6_method_8_code 15 = .ok (.iload 4, 2) := by decide +kernel
theorem d_Rock_countWholePoints_17 : decode prog_6_method_8_code 17 = .ok (.aload_n 0, 1) := by decide +kernel
theorem d_Rock_countWholePoints_18 : decode prog_6_method_8_code 18 = .ok (.getfield 69, 3) := by decide +kernel
theorem d_Rock_countWholePoints_21 : decode prog_6_method_8_code 21 = .ok (.if_icmp .ge 48, 3) := by decide +kernel
theorem d_Rock_countWholePoints_24 : decode prog_6_method_8_code 24 = .ok (.iconst 1, 1) := by decide +kernel
theorem d_Rock_countWholePoints_25 : decode prog_6_method_8_code 25 = .ok (.istore 5, 2) := by decide +kernel
theorem d_Rock_countWholePoints_27 : decode prog_6_method_8_code 27 = .ok (.iload 5, 2) := by decide +kernel
theorem d_Rock_countWholePoints_29 : decode prog_6_method_8_code 29 = .ok (.aload_n 0, 1) := by decide +kernel
theorem d_Rock_countWholePoints_30 : decode prog_6_method_8_code 30 = .ok (.getfield 72, 3) := by decide +kernel
theorem d_Rock_countWholePoints_33 : decode prog_6_method_8_code 33 = .ok (.if_icmp .ge 30, 3) := by decide +kernel
theorem d_Rock_countWholePoints_36 : decode prog_6_method_8_code 36 = .ok (.aload_n 0, 1) := by decide +kernel
theorem d_Rock_countWholePoints_37 : decode prog_6_method_8_code 37 = .ok (.aload_n 0, 1) := by decide +kernel
theorem d_Rock_countWholePoints_38 : decode prog_6_method_8_code 38 = .ok (.getfield 24, 3) := by decide +kernel
theorem d_Rock_countWholePoints_41 : decode prog_6_method_8_code 41 = .ok (.iload_n 1, 1) := by decide +kernel
theorem d_Rock_countWholePoints_42 : decode prog_6_method_8_code 42 = .ok (.iaload, 1) := by decide +kernel
theorem d_Rock_countWholePoints_43 : decode prog_6_method_8_code 43 = .ok (.iload_n 3, 1) := by decide +kernel
theorem d_Rock_countWholePoints_44 : decode prog_6_method_8_code 44 = .ok (.iload 4, 2) := by decide +kernel
theorem d_Rock_countWholePoints_46 : decode prog_6_method_8_code 46 = .ok (.iload 5, 2) := by decide +kernel
theorem d_Rock_countWholePoints_48 : decode prog_6_method_8_code 48 = .ok (.invokevirtual 117, 3) := by decide +kernel
theorem d_Rock_countWholePoints_51 : decode prog_6_method_8_code 51 = .ok (.ifCond .eq 6, 3) := by decide +kernel
theorem d_Rock_countWholePoints_54 : decode prog_6_method_8_code 54 = .ok (.iinc 2 1, 3) := by decide +kernel
theorem d_Rock_countWholePoints_57 : decode prog_6_method_8_code 57 = .ok (.iinc 5 1, 3) := by decide +kernel
theorem d_Rock_countWholePoints_60 : decode prog_6_method_8_code 60 = .ok (.goto (-33), 3) := by decide +kernel
theorem d_Rock_countWholePoints_63 : decode prog_6_method_8_code 63 = .ok (.iinc 4 1, 3) := by decide +kernel
theorem d_Rock_countWholePoints_66 : decode prog_6_method_8_code 66 = .ok (.goto (-51), 3) := by decide +kernel
theorem d_Rock_countWholePoints_69 : decode prog_6_method_8_code 69 = .ok (.iinc 3 1, 3) := by decide +kernel
theorem d_Rock_countWholePoints_72 : decode prog_6_method_8_code 72 = .ok (.goto (-68), 3) := by decide +kernel
theorem d_Rock_countWholePoints_75 : decode prog_6_method_8_code 75 = .ok (.iload_n 2, 1) := by decide +kernel
theorem d_Rock_countWholePoints_76 : decode prog_6_method_8_code 76 = .ok (.ireturn, 1) := by decide +kernel
theorem d_Rock_isOnSides_0 : decode prog_6_method_9_code 0 = .ok (.iconst 0, 1) := by decide +kernel
theorem d_Rock_isOnSides_1 : decode prog_6_method_9_code 1 = .ok (.istore 5, 2) := by decide +kernel
theorem d_Rock_isOnSides_3 : decode prog_6_method_9_code 3 = .ok (.iload 5, 2) := by decide +kernel
theorem d_Rock_isOnSides_5 : decode prog_6_method_9_code 5 = .ok (.aload_n 0, 1) := by decide +kernel
theorem d_Rock_isOnSides_6 : decode prog_6_method_9_code 6 = .ok (.getfield 37, 3) := by decide +kernel
theorem d_Rock_isOnSides_9 : decode prog_6_method_9_code 9 = .ok (.if_icmp .ge 52, 3) := by decide +kernel
theorem d_Rock_isOnSides_12 : decode prog_6_method_9_code 12 = .ok (.aload_n 0, 1) := by decide +kernel
theorem d_Rock_isOnSides_13 : decode prog_6_method_9_code 13 = .ok (.getfield 11, 3) := by decide +kernel
theorem d_Rock_isOnSides_16 : decode prog_6_method_9_code 16 = .ok (.iload 5, 2) := by decide +kernel
theorem d_Rock_isOnSides_18 : decode prog_6_method_9_code 18 = .ok (.aaload, 1) := by decide +kernel
theorem d_Rock_isOnSides_19 : decode prog_6_method_9_code 19 = .ok (.iload_n 2, 1) := by decide +kernel
theorem d_Rock_isOnSides_20 : decode prog_6_method_9_code 20 = .ok (.iload_n 3, 1) := by decide +kernel
theorem d_Rock_isOnSides_21 : decode prog_6_method_9_code 21 = .ok (.iload 4, 2) := by decide +kernel
theorem d_Rock_isOnSides_23 : decode prog_6_method_9_code 23 = .ok (.iconst 1, 1) := by decide +kernel
theorem d_Rock_isOnSides_24 : decode prog_6_method_9_code 24 = .ok (.invokevirtual 120, 3) := by decide +kernel
theorem d_Rock_isOnSides_27 : decode prog_6_method_9_code 27 = .ok (.istore 6, 2) := by decide +kernel
theorem d_Rock_isOnSides_29 : decode prog_6_method_9_code 29 = .ok (.iload 6, 2) := by decide +kernel
theorem d_Rock_isOnSides_31 : decode prog_6_method_9_code 31 = .ok (.ifCond .eq 22, 3) := by decide +kernel
theorem d_Rock_isOnSides_34 : decode prog_6_method_9_code 34 = .ok (.iload 6, 2) := by decide +kernel
theorem d_Rock_isOnSides_36 : decode prog_6_method_9_code 36 = .ok (.ifCond .le 7, 3) := by decide +kernel
theorem d_Rock_isOnSides_39 : decode prog_6_method_9_code 39 = .ok (.iconst 1, 1) := by decide +kernel
theorem d_Rock_isOnSides_40 : decode prog_6_method_9_code 40 = .ok (.goto 4, 3) := by decide +kernel
theorem d_Rock_isOnSides_43 : decode prog_6_method_9_code 43 = .ok (.iconst 0, 1) := by decide +kernel
theorem d_Rock_isOnSides_44 : decode prog_6_method_9_code 44 = .ok (.iload_n 1, 1) := by decide +kernel
theorem d_Rock_isOnSides_45 : decode prog_6_method_9_code 45 = .ok (.iload 5, 2) := by decide +kernel
theorem d_Rock_isOnSides_47 : decode prog_6_method_9_code 47 = .ok (.invokestatic 107, 3) := by decide +kernel
theorem d_Rock_isOnSides_50 : decode prog_6_method_9_code 50 = .ok (.if_icmp .eq 5, 3) := by decide +kernel
theorem d_Rock_isOnSides_53 : decode prog_6_method_9_code 53 = .ok (.iconst 0, 1) := by decide +kernel
theorem d_Rock_isOnSides_54 : decode prog_6_method_9_code 54 = .ok (.ireturn, 1) := by decide +kernel
theorem d_Rock_isOnSides_55 : decode prog_6_method_9_code 55 = .ok (.iinc 5 1, 3) := by decide +kernel
theorem d_Rock_isOnSides_58 : decode prog_6_method_9_code 58 = .ok (.goto (-55), 3) := by decide +kernel
theorem d_Rock_isOnSides_61 : decode prog_6_method_9_code 61 = .ok (.iconst 1, 1) := by decide +kernel
theorem d_Rock_isOnSides_62 : decode prog_6_method_9_code 62 = .ok (.ireturn, 1) := by decide +kernel
theorem d_Law_corner_0 : decode method_8_code 0 = .ok (.aload 4, 2) := by decide +kernel
theorem d_Law_corner_2 : decode method_8_code 2 = .ok (.iconst 0, 1) := by decide +kernel
theorem d_Law_corner_3 : decode method_8_code 3 = .ok (.aload_n 0, 1) := by decide +kernel
theorem d_Law_corner_4 : decode method_8_code 4 = .ok (.iload_n 1, 1) := by decide +kernel
theorem d_Law_corner_5 : decode method_8_code 5 = .ok (.iload_n 2, 1) := by decide +kernel
theorem d_Law_corner_6 : decode method_8_code 6 = .ok (.iload_n 3, 1) := by decide +kernel
theorem d_Law_corner_7 : decode method_8_code 7 = .ok (.invokevirtual 35, 3) := by decide +kernel
theorem d_Law_corner_10 : decode method_8_code 10 = .ok (.i2l, 1) := by decide +kernel
theorem d_Law_corner_11 : decode method_8_code 11 = .ok (.lastore, 1) := by decide +kernel
theorem d_Law_corner_12 : decode method_8_code 12 = .ok (.goto 7, 3) := by decide +kernel
theorem d_Law_corner_15 : decode method_8_code 15 = .ok (.astore 5, 2) := by decide +kernel
theorem d_Law_corner_17 : decode method_8_code 17 = .ok (.iconst 1, 1) := by decide +kernel
theorem d_Law_corner_18 : decode method_8_code 18 = .ok (.ireturn, 1) := by decide +kernel
theorem d_Law_corner_19 : decode method_8_code 19 = .ok (.iconst 0, 1) := by decide +kernel
theorem d_Law_corner_20 : decode method_8_code 20 = .ok (.ireturn, 1) := by decide +kernel
theorem d_WP_corner_0 : decode prog_1_method_9_code 0 = .ok (.aload_n 0, 1) := by decide +kernel
theorem d_WP_corner_1 : decode prog_1_method_9_code 1 = .ok (.iload_n 1, 1) := by decide +kernel
theorem d_WP_corner_2 : decode prog_1_method_9_code 2 = .ok (.invokevirtual 118, 3) := by decide +kernel
theorem d_WP_corner_5 : decode prog_1_method_9_code 5 = .ok (.iload_n 2, 1) := by decide +kernel
theorem d_WP_corner_6 : decode prog_1_method_9_code 6 = .ok (.ifCond .lt 16, 3) := by decide +kernel
theorem d_WP_corner_9 : decode prog_1_method_9_code 9 = .ok (.iload_n 2, 1) := by decide +kernel
theorem d_WP_corner_10 : decode prog_1_method_9_code 10 = .ok (.aload_n 0, 1) := by decide +kernel
theorem d_WP_corner_11 : decode prog_1_method_9_code 11 = .ok (.getfield 57, 3) := by decide +kernel
theorem d_WP_corner_14 : decode prog_1_method_9_code 14 = .ok (.getfield 128, 3) := by decide +kernel
theorem d_WP_corner_17 : decode prog_1_method_9_code 17 = .ok (.iload_n 1, 1) := by decide +kernel
theorem d_WP_corner_18 : decode prog_1_method_9_code 18 = .ok (.iaload, 1) := by decide +kernel
theorem d_WP_corner_19 : decode prog_1_method_9_code 19 = .ok (.if_icmp .lt 13, 3) := by decide +kernel
theorem d_WP_corner_22 : decode prog_1_method_9_code 22 = .ok (.new 96, 3) := by decide +kernel
theorem d_WP_corner_25 : decode prog_1_method_9_code 25 = .ok (.dup, 1) := by decide +kernel
theorem d_WP_corner_26 : decode prog_1_method_9_code 26 = .ok (.ldc 136, 2) := by decide +kernel
theorem d_WP_corner_28 : decode prog_1_method_9_code 28 = .ok (.invokespecial 100, 3) := by decide +kernel
theorem d_WP_corner_31 : decode prog_1_method_9_code 31 = .ok (.athrow, 1) := by decide +kernel
theorem d_WP_corner_32 : decode prog_1_method_9_code 32 = .ok (.aload_n 0, 1) := by decide +kernel
theorem d_WP_corner_33 : decode prog_1_method_9_code 33 = .ok (.getfield 57, 3) := by decide +kernel
theorem d_WP_corner_36 : decode prog_1_method_9_code 36 = .ok (.iload_n 1, 1) := by decide +kernel
theorem d_WP_corner_37 : decode prog_1_method_9_code 37 = .ok (.iload_n 2, 1) := by decide +kernel
theorem d_WP_corner_38 : decode prog_1_method_9_code 38 = .ok (.invokevirtual 138, 3) := by decide +kernel
theorem d_WP_corner_41 : decode prog_1_method_9_code 41 = .ok (.istore 4, 2) := by decide +kernel
theorem d_WP_corner_43 : decode prog_1_method_9_code 43 = .ok (.iload_n 3, 1) := by decide +kernel
theorem d_WP_corner_44 : decode prog_1_method_9_code 44 = .ok (.tableswitch 88 0 3 #[32, 46, 60, 74], 32) := by decide +kernel
theorem d_WP_corner_76 : decode prog_1_method_9_code 76 = .ok (.aload_n 0, 1) := by decide +kernel
theorem d_WP_corner_77 : decode prog_1_method_9_code 77 = .ok (.getfield 57, 3) := by decide +kernel
theorem d_WP_corner_80 : decode prog_1_method_9_code 80 = .ok (.getfield 142, 3) := by decide +kernel
theorem d_WP_corner_83 : decode prog_1_method_9_code 83 = .ok (.getfield 146, 3) := by decide +kernel
theorem d_WP_corner_86 : decode prog_1_method_9_code 86 = .ok (.iload 4, 2) := by decide +kernel
theorem d_WP_corner_88 : decode prog_1_method_9_code 88 = .ok (.iaload, 1) := by decide +kernel
theorem d_WP_corner_89 : decode prog_1_method_9_code 89 = .ok (.ireturn, 1) := by decide +kernel
theorem d_WP_corner_90 : decode prog_1_method_9_code 90 = .ok (.aload_n 0, 1) := by decide +kernel
theorem d_WP_corner_91 : decode prog_1_method_9_code 91 = .ok (.getfield 57, 3) := by decide +kernel
theorem d_WP_corner_94 : decode prog_1_method_9_code 94 = .ok (.getfield 142, 3) := by decide +kernel
theorem d_WP_corner_97 : decode prog_1_method_9_code 97 = .ok (.getfield 151, 3) := by decide +kernel
theorem d_WP_corner_100 : decode prog_1_method_9_code 100 = .ok (.iload 4, 2) := by decide +kernel
theorem d_WP_corner_102 : decode prog_1_method_9_code 102 = .ok (.iaload, 1) := by decide +kernel
theorem d_WP_corner_103 : decode prog_1_method_9_code 103 = .ok (.ireturn, 1) := by decide +kernel
theorem d_WP_corner_104 : decode prog_1_method_9_code 104 = .ok (.aload_n 0, 1) := by decide +kernel
theorem d_WP_corner_105 : decode prog_1_method_9_code 105 = .ok (.getfield 57, 3) := by decide +kernel
theorem d_WP_corner_108 : decode prog_1_method_9_code 108 = .ok (.getfield 142, 3) := by decide +kernel
theorem d_WP_corner_111 : decode prog_1_method_9_code 111 = .ok (.getfield 154, 3) := by decide +kernel
theorem d_WP_corner_114 : decode prog_1_method_9_code 114 = .ok (.iload 4, 2) := by decide +kernel
theorem d_WP_corner_116 : decode prog_1_method_9_code 116 = .ok (.iaload, 1) := by decide +kernel
theorem d_WP_corner_117 : decode prog_1_method_9_code 117 = .ok (.ireturn, 1) := by decide +kernel
theorem d_WP_corner_118 : decode prog_1_method_9_code 118 = .ok (.aload_n 0, 1) := by decide +kernel
theorem d_WP_corner_119 : decode prog_1_method_9_code 119 = .ok (.getfield 57, 3) := by decide +kernel
theorem d_WP_corner_122 : decode prog_1_method_9_code 122 = .ok (.getfield 142, 3) := by decide +kernel
theorem d_WP_corner_125 : decode prog_1_method_9_code 125 = .ok (.getfield 157, 3) := by decide +kernel
theorem d_WP_corner_128 : decode prog_1_method_9_code 128 = .ok (.iload 4, 2) := by decide +kernel
theorem d_WP_corner_130 : decode prog_1_method_9_code 130 = .ok (.iaload, 1) := by decide +kernel
theorem d_WP_corner_131 : decode prog_1_method_9_code 131 = .ok (.ireturn, 1) := by decide +kernel
theorem d_WP_corner_132 : decode prog_1_method_9_code 132 = .ok (.new 96, 3) := by decide +kernel
theorem d_WP_corner_135 : decode prog_1_method_9_code 135 = .ok (.dup, 1) := by decide +kernel
theorem d_WP_corner_136 : decode prog_1_method_9_code 136 = .ok (.ldc 160, 2) := by decide +kernel
theorem d_WP_corner_138 : decode prog_1_method_9_code 138 = .ok (.invokespecial 100, 3) := by decide +kernel
theorem d_WP_corner_141 : decode prog_1_method_9_code 141 = .ok (.athrow, 1) := by decide +kernel
theorem d_Rock_cornerPoint_0 : decode prog_6_method_7_code 0 = .ok (.aload_n 0, 1) := by decide +kernel
theorem d_Rock_cornerPoint_1 : decode prog_6_method_7_code 1 = .ok (.getfield 24, 3) := by decide +kernel
theorem d_Rock_cornerPoint_4 : decode prog_6_method_7_code 4 = .ok (.iload_n 1, 1) := by decide +kernel
theorem d_Rock_cornerPoint_5 : decode prog_6_method_7_code 5 = .ok (.iaload, 1) := by decide +kernel
theorem d_Rock_cornerPoint_6 : decode prog_6_method_7_code 6 = .ok (.sipush 1344, 3) := by decide +kernel
theorem d_Rock_cornerPoint_9 : decode prog_6_method_7_code 9 = .ok (.ior, 1) := by decide +kernel
theorem d_Rock_cornerPoint_10 : decode prog_6_method_7_code 10 = .ok (.istore_n 3, 1) := by decide +kernel
theorem d_Rock_cornerPoint_11 : decode prog_6_method_7_code 11 = .ok (.iconst 0, 1) := by decide +kernel
theorem d_Rock_cornerPoint_12 : decode prog_6_method_7_code 12 = .ok (.istore 4, 2) := by decide +kernel
theorem d_Rock_cornerPoint_14 : decode prog_6_method_7_code 14 = .ok (.iconst 0, 1) := by decide +kernel
theorem d_Rock_cornerPoint_15 : decode prog_6_method_7_code 15 = .ok (.istore 5, 2) := by decide +kernel
theorem d_Rock_cornerPoint_17 : decode prog_6_method_7_code 17 = .ok (.iload 5, 2) := by decide +kernel
theorem d_Rock_cornerPoint_19 : decode prog_6_method_7_code 19 = .ok (.aload_n 0, 1) := by decide +kernel
theorem d_Rock_cornerPoint_20 : decode prog_6_method_7_code 20 = .ok (.getfield 20, 3) := by decide +kernel
theorem d_Rock_cornerPoint_23 : decode prog_6_method_7_code 23 = .ok (.getfield 100, 3) := by decide +kernel
theorem d_Rock_cornerPoint_26 : decode prog_6_method_7_code 26 = .ok (.if_icmp .ge 33, 3) := by decide +kernel
theorem d_Rock_cornerPoint_29 : decode prog_6_method_7_code 29 = .ok (.aload_n 0, 1) := by decide +kernel
theorem d_Rock_cornerPoint_30 : decode prog_6_method_7_code 30 = .ok (.getfield 20, 3) := by decide +kernel
theorem d_Rock_cornerPoint_33 : decode prog_6_method_7_code 33 = .ok (.iload 5, 2) := by decide +kernel
theorem d_Rock_cornerPoint_35 : decode prog_6_method_7_code 35 = .ok (.iload_n 3, 1) := by decide +kernel
theorem d_Rock_cornerPoint_36 : decode prog_6_method_7_code 36 = .ok (.invokevirtual 111, 3) := by decide +kernel
theorem d_Rock_cornerPoint_39 : decode prog_6_method_7_code 39 = .ok (.ifCond .eq 14, 3) := by decide +kernel
theorem d_Rock_cornerPoint_42 : decode prog_6_method_7_code 42 = .ok (.aload_n 0, 1) := by decide +kernel
theorem d_Rock_cornerPoint_43 : decode prog_6_method_7_code 43 = .ok (.iload 5, 2) := by decide +kernel
theorem d_Rock_cornerPoint_45 : decode prog_6_method_7_code 45 = .ok (.iload 4, 2) := by decide +kernel
theorem d_Rock_cornerPoint_47 : decode prog_6_method_7_code 47 = .ok (.invokevirtual 114, 3) := by decide +kernel
theorem d_Rock_cornerPoint_50 : decode prog_6_method_7_code 50 = .ok (.iinc 4 1, 3) := by decide +kernel
theorem d_Rock_cornerPoint_53 : decode prog_6_method_7_code 53 = .ok (.iinc 5 1, 3) := by decide +kernel
theorem d_Rock_cornerPoint_56 : decode prog_6_method_7_code 56 = .ok (.goto (-39), 3) := by decide +kernel
theorem d_Rock_cornerPoint_59 : decode prog_6_method_7_code 59 = .ok (.aload_n 0, 1) := by decide +kernel
theorem d_Rock_cornerPoint_60 : decode prog_6_method_7_code 60 = .ok (.getfield 47, 3) := by decide +kernel
theorem d_Rock_cornerPoint_63 : decode prog_6_method_7_code 63 = .ok (.iload_n 2, 1) := by decide +kernel
theorem d_Rock_cornerPoint_64 : decode prog_6_method_7_code 64 = .ok (.iaload, 1) := by decide +kernel
theorem d_Rock_cornerPoint_65 : decode prog_6_method_7_code 65 = .ok (.ireturn, 1) := by decide +kernel
theorem d_Rock_sortIn_0 : decode prog_6_method_10_code 0 = .ok (.iload_n 2, 1) := by decide +kernel
theorem d_Rock_sortIn_1 : decode prog_6_method_10_code 1 = .ok (.istore_n 3, 1) := by decide +kernel
theorem d_Rock_sortIn_2 : decode prog_6_method_10_code 2 = .ok (.iload_n 3, 1) := by decide +kernel
theorem d_Rock_sortIn_3 : decode prog_6_method_10_code 3 = .ok (.ifCond .le 42, 3) := by decide +kernel
theorem d_Rock_sortIn_6 : decode prog_6_method_10_code 6 = .ok (.aload_n 0, 1) := by decide +kernel
theorem d_Rock_sortIn_7 : decode prog_6_method_10_code 7 = .ok (.getfield 20, 3) := by decide +kernel
theorem d_Rock_sortIn_10 : decode prog_6_method_10_code 10 = .ok (.iload_n 1, 1) := by decide +kernel
theorem d_Rock_sortIn_11 : decode prog_6_method_10_code 11 = .ok (.aload_n 0, 1) := by decide +kernel
theorem d_Rock_sortIn_12 : decode prog_6_method_10_code 12 = .ok (.getfield 47, 3) := by decide +kernel
theorem d_Rock_sortIn_15 : decode prog_6_method_10_code 15 = .ok (.iload_n 3, 1) := by decide +kernel
theorem d_Rock_sortIn_16 : decode prog_6_method_10_code 16 = .ok (.iconst 1, 1) := by decide +kernel
theorem d_Rock_sortIn_17 : decode prog_6_method_10_code 17 = .ok (.isub, 1) := by decide +kernel
theorem d_Rock_sortIn_18 : decode prog_6_method_10_code 18 = .ok (.iaload, 1) := by decide +kernel
theorem d_Rock_sortIn_19 : decode prog_6_method_10_code 19 = .ok (.invokevirtual 124, 3) := by decide +kernel
theorem d_Rock_sortIn_22 : decode prog_6_method_10_code 22 = .ok (.ifCond .eq 23, 3) := by decide +kernel
theorem d_Rock_sortIn_25 : decode prog_6_method_10_code 25 = .ok (.aload_n 0, 1) := by decide +kernel
theorem d_Rock_sortIn_26 : decode prog_6_method_10_code 26 = .ok (.getfield 47, 3) := by decide +kernel
theorem d_Rock_sortIn_29 : decode prog_6_method_10_code 29 = .ok (.iload_n 3, 1) := by decide +kernel
theorem d_Rock_sortIn_30 : decode prog_6_method_10_code 30 = .ok (.aload_n 0, 1) := by decide +kernel
theorem d_Rock_sortIn_31 : decode prog_6_method_10_code 31 = .ok (.getfield 47, 3) := by decide +kernel
theorem d_Rock_sortIn_34 : decode prog_6_method_10_code 34 = .ok (.iload_n 3, 1) := by decide +kernel
theorem d_Rock_sortIn_35 : decode prog_6_method_10_code 35 = .ok (.iconst 1, 1) := by decide +kernel
theorem d_Rock_sortIn_36 : decode prog_6_method_10_code 36 = .ok (.isub, 1) := by decide +kernel
theorem d_Rock_sortIn_37 : decode prog_6_method_10_code 37 = .ok (.iaload, 1) := by decide +kernel
theorem d_Rock_sortIn_38 : decode prog_6_method_10_code 38 = .ok (.iastore, 1) := by decide +kernel
theorem d_Rock_sortIn_39 : decode prog_6_method_10_code 39 = .ok (.iinc 3 (-1), 3) := by decide +kernel
theorem d_Rock_sortIn_42 : decode prog_6_method_10_code 42 = .ok (.goto (-40), 3) := by decide +kernel
theorem d_Rock_sortIn_45 : decode prog_6_method_10_code 45 = .ok (.aload_n 0, 1) := by decide +kernel
theorem d_Rock_sortIn_46 : decode prog_6_method_10_code 46 = .ok (.getfield 47, 3) := by decide +kernel
theorem d_Rock_sortIn_49 : decode prog_6_method_10_code 49 = .ok (.iload_n 3, 1) := by decide +kernel
theorem d_Rock_sortIn_50 : decode prog_6_method_10_code 50 = .ok (.iload_n 1, 1) := by decide +kernel
theorem d_Rock_sortIn_51 : decode prog_6_method_10_code 51 = .ok (.iastore, 1) := by decide +kernel
theorem d_Rock_sortIn_52 : decode prog_6_method_10_code 52 = .ok (.return_, 1) := by decide +kernel
theorem d_Points_isBefore_0 : decode prog_5_method_7_code 0 = .ok (.aload_n 0, 1) := by decide +kernel
theorem d_Points_isBefore_1 : decode prog_5_method_7_code 1 = .ok (.getfield 9, 3) := by decide +kernel
theorem d_Points_isBefore_4 : decode prog_5_method_7_code 4 = .ok (.iload_n 1, 1) := by decide +kernel
theorem d_Points_isBefore_5 : decode prog_5_method_7_code 5 = .ok (.iaload, 1) := by decide +kernel
theorem d_Points_isBefore_6 : decode prog_5_method_7_code 6 = .ok (.aload_n 0, 1) := by decide +kernel
theorem d_Points_isBefore_7 : decode prog_5_method_7_code 7 = .ok (.getfield 19, 3) := by decide +kernel
theorem d_Points_isBefore_10 : decode prog_5_method_7_code 10 = .ok (.iload_n 2, 1) := by decide +kernel
theorem d_Points_isBefore_11 : decode prog_5_method_7_code 11 = .ok (.iaload, 1) := by decide +kernel
theorem d_Points_isBefore_12 : decode prog_5_method_7_code 12 = .ok (.imul, 1) := by decide +kernel
theorem d_Points_isBefore_13 : decode prog_5_method_7_code 13 = .ok (.aload_n 0, 1) := by decide +kernel
theorem d_Points_isBefore_14 : decode prog_5_method_7_code 14 = .ok (.getfield 9, 3) := by decide +kernel
theorem d_Points_isBefore_17 : decode prog_5_method_7_code 17 = .ok (.iload_n 2, 1) := by decide +kernel
theorem d_Points_isBefore_18 : decode prog_5_method_7_code 18 = .ok (.iaload, 1) := by decide +kernel
theorem d_Points_isBefore_19 : decode prog_5_method_7_code 19 = .ok (.aload_n 0, 1) := by decide +kernel
theorem d_Points_isBefore_20 : decode prog_5_method_7_code 20 = .ok (.getfield 19, 3) := by decide +kernel
theorem d_Points_isBefore_23 : decode prog_5_method_7_code 23 = .ok (.iload_n 1, 1) := by decide +kernel
theorem d_Points_isBefore_24 : decode prog_5_method_7_code 24 = .ok (.iaload, 1) := by decide +kernel
theorem d_Points_isBefore_25 : decode prog_5_method_7_code 25 = .ok (.imul, 1) := by decide +kernel
theorem d_Points_isBefore_26 : decode prog_5_method_7_code 26 = .ok (.invokestatic 38, 3) := by decide +kernel
theorem d_Points_isBefore_29 : decode prog_5_method_7_code 29 = .ok (.istore_n 3, 1) := by decide +kernel
theorem d_Points_isBefore_30 : decode prog_5_method_7_code 30 = .ok (.aload_n 0, 1) := by decide +kernel
theorem d_Points_isBefore_31 : decode prog_5_method_7_code 31 = .ok (.getfield 13, 3) := by decide +kernel
theorem d_Points_isBefore_34 : decode prog_5_method_7_code 34 = .ok (.iload_n 1, 1) := by decide +kernel
theorem d_Points_isBefore_35 : decode prog_5_method_7_code 35 = .ok (.iaload, 1) := by decide +kernel
theorem d_Points_isBefore_36 : decode prog_5_method_7_code 36 = .ok (.aload_n 0, 1) := by decide +kernel
theorem d_Points_isBefore_37 : decode prog_5_method_7_code 37 = .ok (.getfield 19, 3) := by decide +kernel
theorem d_Points_isBefore_40 : decode prog_5_method_7_code 40 = .ok (.iload_n 2, 1) := by decide +kernel
theorem d_Points_isBefore_41 : decode prog_5_method_7_code 41 = .ok (.iaload, 1) := by decide +kernel
theorem d_Points_isBefore_42 : decode prog_5_method_7_code 42 = .ok (.imul, 1) := by decide +kernel
theorem d_Points_isBefore_43 : decode prog_5_method_7_code 43 = .ok (.aload_n 0, 1) := by decide +kernel
theorem d_Points_isBefore_44 : decode prog_5_method_7_code 44 = .ok (.getfield 13, 3) := by decide +kernel
theorem d_Points_isBefore_47 : decode prog_5_method_7_code 47 = .ok (.iload_n 2, 1) := by decide +kernel
theorem d_Points_isBefore_48 : decode prog_5_method_7_code 48 = .ok (.iaload, 1) := by decide +kernel
theorem d_Points_isBefore_49 : decode prog_5_method_7_code 49 = .ok (.aload_n 0, 1) := by decide +kernel
theorem d_Points_isBefore_50 : decode prog_5_method_7_code 50 = .ok (.getfield 19, 3) := by decide +kernel
theorem d_Points_isBefore_53 : decode prog_5_method_7_code 53 = .ok (.iload_n 1, 1) := by decide +kernel
theorem d_Points_isBefore_54 : decode prog_5_method_7_code 54 = .ok (.iaload, 1) := by decide +kernel
theorem d_Points_isBefore_55 : decode prog_5_method_7_code 55 = .ok (.imul, 1) := by decide +kernel
theorem d_Points_isBefore_56 : decode prog_5_method_7_code 56 = .ok (.invokestatic 38, 3) := by decide +kernel
theorem d_Points_isBefore_59 : decode prog_5_method_7_code 59 = .ok (.istore 4, 2) := by decide +kernel
theorem d_Points_isBefore_61 : decode prog_5_method_7_code 61 = .ok (.aload_n 0, 1) := by decide +kernel
theorem d_Points_isBefore_62 : decode prog_5_method_7_code 62 = .ok (.getfield 16, 3) := by decide +kernel
theorem d_Points_isBefore_65 : decode prog_5_method_7_code 65 = .ok (.iload_n 1, 1) := by decide +kernel
theorem d_Points_isBefore_66 : decode prog_5_method_7_code 66 = .ok (.iaload, 1) := by decide +kernel
theorem d_Points_isBefore_67 : decode prog_5_method_7_code 67 = .ok (.aload_n 0, 1) := by decide +kernel
theorem d_Points_isBefore_68 : decode prog_5_method_7_code 68 = .ok (.getfield 19, 3) := by decide +kernel
theorem d_Points_isBefore_71 : decode prog_5_method_7_code 71 = .ok (.iload_n 2, 1) := by decide +kernel
theorem d_Points_isBefore_72 : decode prog_5_method_7_code 72 = .ok (.iaload, 1) := by decide +kernel
theorem d_Points_isBefore_73 : decode prog_5_method_7_code 73 = .ok (.imul, 1) := by decide +kernel
theorem d_Points_isBefore_74 : decode prog_5_method_7_code 74 = .ok (.aload_n 0, 1) := by decide +kernel
theorem d_Points_isBefore_75 : decode prog_5_method_7_code 75 = .ok (.getfield 16, 3) := by decide +kernel
theorem d_Points_isBefore_78 : decode prog_5_method_7_code 78 = .ok (.iload_n 2, 1) := by decide +kernel
theorem d_Points_isBefore_79 : decode prog_5_method_7_code 79 = .ok (.iaload, 1) := by decide +kernel
theorem d_Points_isBefore_80 : decode prog_5_method_7_code 80 = .ok (.aload_n 0, 1) := by decide +kernel
theorem d_Points_isBefore_81 : decode prog_5_method_7_code 81 = .ok (.getfield 19, 3) := by decide +kernel
theorem d_Points_isBefore_84 : decode prog_5_method_7_code 84 = .ok (.iload_n 1, 1) := by decide +kernel
theorem d_Points_isBefore_85 : decode prog_5_method_7_code 85 = .ok (.iaload, 1) := by decide +kernel
theorem d_Points_isBefore_86 : decode prog_5_method_7_code 86 = .ok (.imul, 1) := by decide +kernel
theorem d_Points_isBefore_87 : decode prog_5_method_7_code 87 = .ok (.invokestatic 38, 3) := by decide +kernel
theorem d_Points_isBefore_90 : decode prog_5_method_7_code 90 = .ok (.istore 5, 2) := by decide +kernel
theorem d_Points_isBefore_92 : decode prog_5_method_7_code 92 = .ok (.iload_n 3, 1) := by decide +kernel
theorem d_Points_isBefore_93 : decode prog_5_method_7_code 93 = .ok (.ifCond .lt 22, 3) := by decide +kernel
theorem d_Points_isBefore_96 : decode prog_5_method_7_code 96 = .ok (.iload_n 3, 1) := by decide +kernel
theorem d_Points_isBefore_97 : decode prog_5_method_7_code 97 = .ok (.ifCond .ne 22, 3) := by decide +kernel
theorem d_Points_isBefore_100 : decode prog_5_method_7_code 100 = .ok (.iload 4, 2) := by decide +kernel
theorem d_Points_isBefore_102 : decode prog_5_method_7_code 102 = .ok (.ifCond .lt 13, 3) := by decide +kernel
theorem d_Points_isBefore_105 : decode prog_5_method_7_code 105 = .ok (.iload 4, 2) := by decide +kernel
theorem d_Points_isBefore_107 : decode prog_5_method_7_code 107 = .ok (.ifCond .ne 12, 3) := by decide +kernel
theorem d_Points_isBefore_110 : decode prog_5_method_7_code 110 = .ok (.iload 5, 2) := by decide +kernel
theorem d_Points_isBefore_112 : decode prog_5_method_7_code 112 = .ok (.ifCond .ge 7, 3) := by decide +kernel
theorem d_Points_isBefore_115 : decode prog_5_method_7_code 115 = .ok (.iconst 1, 1) := by decide +kernel
theorem d_Points_isBefore_116 : decode prog_5_method_7_code 116 = .ok (.goto 4, 3) := by decide +kernel
theorem d_Points_isBefore_119 : decode prog_5_method_7_code 119 = .ok (.iconst 0, 1) := by decide +kernel
theorem d_Points_isBefore_120 : decode prog_5_method_7_code 120 = .ok (.ireturn, 1) := by decide +kernel
theorem d_Integer_compare_0 : decode prog_13_method_40_code 0 = .ok (.iload_n 0, 1) := by decide +kernel
theorem d_Integer_compare_1 : decode prog_13_method_40_code 1 = .ok (.iload_n 1, 1) := by decide +kernel
theorem d_Integer_compare_2 : decode prog_13_method_40_code 2 = .ok (.if_icmp .ge 7, 3) := by decide +kernel
theorem d_Integer_compare_5 : decode prog_13_method_40_code 5 = .ok (.iconst (-1), 1) := by decide +kernel
theorem d_Integer_compare_6 : decode prog_13_method_40_code 6 = .ok (.goto 13, 3) := by decide +kernel
theorem d_Integer_compare_9 : decode prog_13_method_40_code 9 = .ok (.iload_n 0, 1) := by decide +kernel
theorem d_Integer_compare_10 : decode prog_13_method_40_code 10 = .ok (.iload_n 1, 1) := by decide +kernel
theorem d_Integer_compare_11 : decode prog_13_method_40_code 11 = .ok (.if_icmp .ne 7, 3) := by decide +kernel
theorem d_Integer_compare_14 : decode prog_13_method_40_code 14 = .ok (.iconst 0, 1) := by decide +kernel
theorem d_Integer_compare_15 : decode prog_13_method_40_code 15 = .ok (.goto 4, 3) := by decide +kernel
theorem d_Integer_compare_18 : decode prog_13_method_40_code 18 = .ok (.iconst 1, 1) := by decide +kernel
theorem d_Integer_compare_19 : decode prog_13_method_40_code 19 = .ok (.ireturn, 1) := by decide +kernel
theorem d_Law_beside_0 : decode method_9_code 0 = .ok (.aload_n 3, 1) := by decide +kernel
theorem d_Law_beside_1 : decode method_9_code 1 = .ok (.iconst 0, 1) := by decide +kernel
theorem d_Law_beside_2 : decode method_9_code 2 = .ok (.aload_n 0, 1) := by decide +kernel
theorem d_Law_beside_3 : decode method_9_code 3 = .ok (.iload_n 1, 1) := by decide +kernel
theorem d_Law_beside_4 : decode method_9_code 4 = .ok (.iload_n 2, 1) := by decide +kernel
theorem d_Law_beside_5 : decode method_9_code 5 = .ok (.invokevirtual 38, 3) := by decide +kernel
theorem d_Law_beside_8 : decode method_9_code 8 = .ok (.i2l, 1) := by decide +kernel
theorem d_Law_beside_9 : decode method_9_code 9 = .ok (.lastore, 1) := by decide +kernel
theorem d_Law_beside_10 : decode method_9_code 10 = .ok (.goto 7, 3) := by decide +kernel
theorem d_Law_beside_13 : decode method_9_code 13 = .ok (.astore 4, 2) := by decide +kernel
theorem d_Law_beside_15 : decode method_9_code 15 = .ok (.iconst 1, 1) := by decide +kernel
theorem d_Law_beside_16 : decode method_9_code 16 = .ok (.ireturn, 1) := by decide +kernel
theorem d_Law_beside_17 : decode method_9_code 17 = .ok (.iconst 0, 1) := by decide +kernel
theorem d_Law_beside_18 : decode method_9_code 18 = .ok (.ireturn, 1) := by decide +kernel
theorem d_WP_beside_0 : decode prog_1_method_11_code 0 = .ok (.aload_n 0, 1) := by decide +kernel
theorem d_WP_beside_1 : decode prog_1_method_11_code 1 = .ok (.iload_n 1, 1) := by decide +kernel
theorem d_WP_beside_2 : decode prog_1_method_11_code 2 = .ok (.invokevirtual 118, 3) := by decide +kernel
theorem d_WP_beside_5 : decode prog_1_method_11_code 5 = .ok (.iload_n 2, 1) := by decide +kernel
theorem d_WP_beside_6 : decode prog_1_method_11_code 6 = .ok (.ifCond .lt 14, 3) := by decide +kernel
theorem d_WP_beside_9 : decode prog_1_method_11_code 9 = .ok (.iload_n 2, 1) := by decide +kernel
theorem d_WP_beside_10 : decode prog_1_method_11_code 10 = .ok (.aload_n 0, 1) := by decide +kernel
theorem d_WP_beside_11 : decode prog_1_method_11_code 11 = .ok (.getfield 57, 3) := by decide +kernel
theorem d_WP_beside_14 : decode prog_1_method_11_code 14 = .ok (.getfield 78, 3) := by decide +kernel
theorem d_WP_beside_17 : decode prog_1_method_11_code 17 = .ok (.if_icmp .lt 13, 3) := by decide +kernel
theorem d_WP_beside_20 : decode prog_1_method_11_code 20 = .ok (.new 96, 3) := by decide +kernel
theorem d_WP_beside_23 : decode prog_1_method_11_code 23 = .ok (.dup, 1) := by decide +kernel
theorem d_WP_beside_24 : decode prog_1_method_11_code 24 = .ok (.ldc 165, 2) := by decide +kernel
theorem d_WP_beside_26 : decode prog_1_method_11_code 26 = .ok (.invokespecial 100, 3) := by decide +kernel
theorem d_WP_beside_29 : decode prog_1_method_11_code 29 = .ok (.athrow, 1) := by decide +kernel
theorem d_WP_beside_30 : decode prog_1_method_11_code 30 = .ok (.aload_n 0, 1) := by decide +kernel
theorem d_WP_beside_31 : decode prog_1_method_11_code 31 = .ok (.getfield 57, 3) := by decide +kernel
theorem d_WP_beside_34 : decode prog_1_method_11_code 34 = .ok (.iload_n 1, 1) := by decide +kernel
theorem d_WP_beside_35 : decode prog_1_method_11_code 35 = .ok (.iload_n 2, 1) := by decide +kernel
theorem d_WP_beside_36 : decode prog_1_method_11_code 36 = .ok (.invokevirtual 167, 3) := by decide +kernel
theorem d_WP_beside_39 : decode prog_1_method_11_code 39 = .ok (.ireturn, 1) := by decide +kernel
theorem d_Law_goes_0 : decode method_10_code 0 = .ok (.aload_n 3, 1) := by decide +kernel
theorem d_Law_goes_1 : decode method_10_code 1 = .ok (.iconst 0, 1) := by decide +kernel
theorem d_Law_goes_2 : decode method_10_code 2 = .ok (.aload_n 0, 1) := by decide +kernel
theorem d_Law_goes_3 : decode method_10_code 3 = .ok (.iload_n 1, 1) := by decide +kernel
theorem d_Law_goes_4 : decode method_10_code 4 = .ok (.iload_n 2, 1) := by decide +kernel
theorem d_Law_goes_5 : decode method_10_code 5 = .ok (.invokevirtual 41, 3) := by decide +kernel
theorem d_Law_goes_8 : decode method_10_code 8 = .ok (.ifCond .eq 7, 3) := by decide +kernel
theorem d_Law_goes_11 : decode method_10_code 11 = .ok (.lconst 1, 1) := by decide +kernel
theorem d_Law_goes_12 : decode method_10_code 12 = .ok (.goto 4, 3) := by decide +kernel
theorem d_Law_goes_15 : decode method_10_code 15 = .ok (.lconst 0, 1) := by decide +kernel
theorem d_Law_goes_16 : decode method_10_code 16 = .ok (.lastore, 1) := by decide +kernel
theorem d_Law_goes_17 : decode method_10_code 17 = .ok (.goto 7, 3) := by decide +kernel
theorem d_Law_goes_20 : decode method_10_code 20 = .ok (.astore 4, 2) := by decide +kernel
theorem d_Law_goes_22 : decode method_10_code 22 = .ok (.iconst 1, 1) := by decide +kernel
theorem d_Law_goes_23 : decode method_10_code 23 = .ok (.ireturn, 1) := by decide +kernel
theorem d_Law_goes_24 : decode method_10_code 24 = .ok (.iconst 0, 1) := by decide +kernel
theorem d_Law_goes_25 : decode method_10_code 25 = .ok (.ireturn, 1) := by decide +kernel
theorem d_WP_goes_0 : decode prog_1_method_12_code 0 = .ok (.aload_n 0, 1) := by decide +kernel
theorem d_WP_goes_1 : decode prog_1_method_12_code 1 = .ok (.iload_n 1, 1) := by decide +kernel
theorem d_WP_goes_2 : decode prog_1_method_12_code 2 = .ok (.invokevirtual 118, 3) := by decide +kernel
theorem d_WP_goes_5 : decode prog_1_method_12_code 5 = .ok (.iload_n 2, 1) := by decide +kernel
theorem d_WP_goes_6 : decode prog_1_method_12_code 6 = .ok (.ifCond .lt 11, 3) := by decide +kernel
theorem d_WP_goes_9 : decode prog_1_method_12_code 9 = .ok (.iload_n 2, 1) := by decide +kernel
theorem d_WP_goes_10 : decode prog_1_method_12_code 10 = .ok (.aload_n 0, 1) := by decide +kernel
theorem d_WP_goes_11 : decode prog_1_method_12_code 11 = .ok (.getfield 42, 3) := by decide +kernel
theorem d_WP_goes_14 : decode prog_1_method_12_code 14 = .ok (.if_icmp .lt 13, 3) := by decide +kernel
theorem d_WP_goes_17 : decode prog_1_method_12_code 17 = .ok (.new 96, 3) := by decide +kernel
theorem d_WP_goes_20 : decode prog_1_method_12_code 20 = .ok (.dup, 1) := by decide +kernel
theorem d_WP_goes_21 : decode prog_1_method_12_code 21 = .ok (.ldc 170, 2) := by decide +kernel
theorem d_WP_goes_23 : decode prog_1_method_12_code 23 = .ok (.invokespecial 100, 3) := by decide +kernel
theorem d_WP_goes_26 : decode prog_1_method_12_code 26 = .ok (.athrow, 1) := by decide +kernel
theorem d_WP_goes_27 : decode prog_1_method_12_code 27 = .ok (.aload_n 0, 1) := by decide +kernel
theorem d_WP_goes_28 : decode prog_1_method_12_code 28 = .ok (.getfield 27, 3) := by decide +kernel
theorem d_WP_goes_31 : decode prog_1_method_12_code 31 = .ok (.iload_n 1, 1) := by decide +kernel
theorem d_WP_goes_32 : decode prog_1_method_12_code 32 = .ok (.baload, 1) := by decide +kernel
theorem d_WP_goes_33 : decode prog_1_method_12_code 33 = .ok (.ifCond .eq 5, 3) := by decide +kernel
theorem d_WP_goes_36 : decode prog_1_method_12_code 36 = .ok (.iconst 0, 1) := by decide +kernel
theorem d_WP_goes_37 : decode prog_1_method_12_code 37 = .ok (.ireturn, 1) := by decide +kernel
theorem d_WP_goes_38 : decode prog_1_method_12_code 38 = .ok (.aload_n 0, 1) := by decide +kernel
theorem d_WP_goes_39 : decode prog_1_method_12_code 39 = .ok (.iload_n 1, 1) := by decide +kernel
theorem d_WP_goes_40 : decode prog_1_method_12_code 40 = .ok (.invokevirtual 172, 3) := by decide +kernel
theorem d_WP_goes_43 : decode prog_1_method_12_code 43 = .ok (.aload_n 0, 1) := by decide +kernel
theorem d_WP_goes_44 : decode prog_1_method_12_code 44 = .ok (.getfield 12, 3) := by decide +kernel
theorem d_WP_goes_47 : decode prog_1_method_12_code 47 = .ok (.aload_n 0, 1) := by decide +kernel
theorem d_WP_goes_48 : decode prog_1_method_12_code 48 = .ok (.getfield 18, 3) := by decide +kernel
theorem d_WP_goes_51 : decode prog_1_method_12_code 51 = .ok (.iload_n 2, 1) := by decide +kernel
theorem d_WP_goes_52 : decode prog_1_method_12_code 52 = .ok (.aaload, 1) := by decide +kernel
theorem d_WP_goes_53 : decode prog_1_method_12_code 53 = .ok (.invokevirtual 175, 3) := by decide +kernel
theorem d_WP_goes_56 : decode prog_1_method_12_code 56 = .ok (.ireturn, 1) := by decide +kernel
theorem d_Law_take_0 : decode method_11_code 0 = .ok (.aload_n 2, 1) := by decide +kernel
theorem d_Law_take_1 : decode method_11_code 1 = .ok (.iconst 0, 1) := by decide +kernel
theorem d_Law_take_2 : decode method_11_code 2 = .ok (.aload_n 0, 1) := by decide +kernel
theorem d_Law_take_3 : decode method_11_code 3 = .ok (.iload_n 1, 1) := by decide +kernel
theorem d_Law_take_4 : decode method_11_code 4 = .ok (.invokevirtual 45, 3) := by decide +kernel
theorem d_Law_take_7 : decode method_11_code 7 = .ok (.i2l, 1) := by decide +kernel
theorem d_Law_take_8 : decode method_11_code 8 = .ok (.lastore, 1) := by decide +kernel
theorem d_Law_take_9 : decode method_11_code 9 = .ok (.goto 6, 3) := by decide +kernel
theorem d_Law_take_12 : decode method_11_code 12 = .ok (.astore_n 3, 1) := by decide +kernel
theorem d_Law_take_13 : decode method_11_code 13 = .ok (.iconst 1, 1) := by decide +kernel
theorem d_Law_take_14 : decode method_11_code 14 = .ok (.ireturn, 1) := by decide +kernel
theorem d_Law_take_15 : decode method_11_code 15 = .ok (.iconst 0, 1) := by decide +kernel
theorem d_Law_take_16 : decode method_11_code 16 = .ok (.ireturn, 1) := by decide +kernel
theorem d_WP_take_0 : decode prog_1_method_13_code 0 = .ok (.aload_n 0, 1) := by decide +kernel
theorem d_WP_take_1 : decode prog_1_method_13_code 1 = .ok (.iload_n 1, 1) := by decide +kernel
theorem d_WP_take_2 : decode prog_1_method_13_code 2 = .ok (.invokevirtual 118, 3) := by decide +kernel
theorem d_WP_take_5 : decode prog_1_method_13_code 5 = .ok (.aload_n 0, 1) := by decide +kernel
theorem d_WP_take_6 : decode prog_1_method_13_code 6 = .ok (.iload_n 1, 1) := by decide +kernel
theorem d_WP_take_7 : decode prog_1_method_13_code 7 = .ok (.invokevirtual 179, 3) := by decide +kernel
theorem d_WP_take_10 : decode prog_1_method_13_code 10 = .ok (.istore_n 2, 1) := by decide +kernel
theorem d_WP_take_11 : decode prog_1_method_13_code 11 = .ok (.iload_n 2, 1) := by decide +kernel
theorem d_WP_take_12 : decode prog_1_method_13_code 12 = .ok (.iconst (-1), 1) := by decide +kernel
theorem d_WP_take_13 : decode prog_1_method_13_code 13 = .ok (.if_icmp .eq 9, 3) := by decide +kernel
theorem d_WP_take_16 : decode prog_1_method_13_code 16 = .ok (.aload_n 0, 1) := by decide +kernel
theorem d_WP_take_17 : decode prog_1_method_13_code 17 = .ok (.iload_n 1, 1) := by decide +kernel
theorem d_WP_take_18 : decode prog_1_method_13_code 18 = .ok (.iload_n 2, 1) := by decide +kernel
theorem d_WP_take_19 : decode prog_1_method_13_code 19 = .ok (.invokevirtual 182, 3) := by decide +kernel
theorem d_WP_take_22 : decode prog_1_method_13_code 22 = .ok (.iload_n 2, 1) := by decide +kernel
theorem d_WP_take_23 : decode prog_1_method_13_code 23 = .ok (.ireturn, 1) := by decide +kernel
theorem d_Law_taken_0 : decode method_12_code 0 = .ok (.aload_n 3, 1) := by decide +kernel
theorem d_Law_taken_1 : decode method_12_code 1 = .ok (.iconst 0, 1) := by decide +kernel
theorem d_Law_taken_2 : decode method_12_code 2 = .ok (.aload_n 0, 1) := by decide +kernel
theorem d_Law_taken_3 : decode method_12_code 3 = .ok (.iload_n 1, 1) := by decide +kernel
theorem d_Law_taken_4 : decode method_12_code 4 = .ok (.iload_n 2, 1) := by decide +kernel
theorem d_Law_taken_5 : decode method_12_code 5 = .ok (.invokevirtual 49, 3) := by decide +kernel
theorem d_Law_taken_8 : decode method_12_code 8 = .ok (.i2l, 1) := by decide +kernel
theorem d_Law_taken_9 : decode method_12_code 9 = .ok (.lastore, 1) := by decide +kernel
theorem d_Law_taken_10 : decode method_12_code 10 = .ok (.goto 7, 3) := by decide +kernel
theorem d_Law_taken_13 : decode method_12_code 13 = .ok (.astore 4, 2) := by decide +kernel
theorem d_Law_taken_15 : decode method_12_code 15 = .ok (.iconst 1, 1) := by decide +kernel
theorem d_Law_taken_16 : decode method_12_code 16 = .ok (.ireturn, 1) := by decide +kernel
theorem d_Law_taken_17 : decode method_12_code 17 = .ok (.iconst 0, 1) := by decide +kernel
theorem d_Law_taken_18 : decode method_12_code 18 = .ok (.ireturn, 1) := by decide +kernel
theorem d_WP_taken_0 : decode prog_1_method_15_code 0 = .ok (.iload_n 1, 1) := by decide +kernel
theorem d_WP_taken_1 : decode prog_1_method_15_code 1 = .ok (.ifCond .lt 11, 3) := by decide +kernel
theorem d_WP_taken_4 : decode prog_1_method_15_code 4 = .ok (.iload_n 1, 1) := by decide +kernel
theorem d_WP_taken_5 : decode prog_1_method_15_code 5 = .ok (.aload_n 0, 1) := by decide +kernel
theorem d_WP_taken_6 : decode prog_1_method_15_code 6 = .ok (.getfield 38, 3) := by decide +kernel
theorem d_WP_taken_9 : decode prog_1_method_15_code 9 = .ok (.if_icmp .lt 13, 3) := by decide +kernel
theorem d_WP_taken_12 : decode prog_1_method_15_code 12 = .ok (.new 96, 3) := by decide +kernel
theorem d_WP_taken_15 : decode prog_1_method_15_code 15 = .ok (.dup, 1) := by decide +kernel
theorem d_WP_taken_16 : decode prog_1_method_15_code 16 = .ok (.ldc 190, 2) := by decide +kernel
theorem d_WP_taken_18 : decode prog_1_method_15_code 18 = .ok (.invokespecial 100, 3) := by decide +kernel
theorem d_WP_taken_21 : decode prog_1_method_15_code 21 = .ok (.athrow, 1) := by decide +kernel
theorem d_WP_taken_22 : decode prog_1_method_15_code 22 = .ok (.iload_n 2, 1) := by decide +kernel
theorem d_WP_taken_23 : decode prog_1_method_15_code 23 = .ok (.ifCond .lt 8, 3) := by decide +kernel
theorem d_WP_taken_26 : decode prog_1_method_15_code 26 = .ok (.iload_n 2, 1) := by decide +kernel
theorem d_WP_taken_27 : decode prog_1_method_15_code 27 = .ok (.iconst 1, 1) := by decide +kernel
theorem d_WP_taken_28 : decode prog_1_method_15_code 28 = .ok (.if_icmp .le 13, 3) := by decide +kernel
theorem d_WP_taken_31 : decode prog_1_method_15_code 31 = .ok (.new 96, 3) := by decide +kernel
theorem d_WP_taken_34 : decode prog_1_method_15_code 34 = .ok (.dup, 1) := by decide +kernel
theorem d_WP_taken_35 : decode prog_1_method_15_code 35 = .ok (.ldc 192, 2) := by decide +kernel
theorem d_WP_taken_37 : decode prog_1_method_15_code 37 = .ok (.invokespecial 100, 3) := by decide +kernel
theorem d_WP_taken_40 : decode prog_1_method_15_code 40 = .ok (.athrow, 1) := by decide +kernel
theorem d_WP_taken_41 : decode prog_1_method_15_code 41 = .ok (.iload_n 2, 1) := by decide +kernel
theorem d_WP_taken_42 : decode prog_1_method_15_code 42 = .ok (.ifCond .ne 12, 3) := by decide +kernel
theorem d_WP_taken_45 : decode prog_1_method_15_code 45 = .ok (.aload_n 0, 1) := by decide +kernel
theorem d_WP_taken_46 : decode prog_1_method_15_code 46 = .ok (.getfield 31, 3) := by decide +kernel
theorem d_WP_taken_49 : decode prog_1_method_15_code 49 = .ok (.iload_n 1, 1) := by decide +kernel
theorem d_WP_taken_50 : decode prog_1_method_15_code 50 = .ok (.iaload, 1) := by decide +kernel
theorem d_WP_taken_51 : decode prog_1_method_15_code 51 = .ok (.goto 9, 3) := by decide +kernel
theorem d_WP_taken_54 : decode prog_1_method_15_code 54 = .ok (.aload_n 0, 1) := by decide +kernel
theorem d_WP_taken_55 : decode prog_1_method_15_code 55 = .ok (.getfield 35, 3) := by decide +kernel
theorem d_WP_taken_58 : decode prog_1_method_15_code 58 = .ok (.iload_n 1, 1) := by decide +kernel
theorem d_WP_taken_59 : decode prog_1_method_15_code 59 = .ok (.iaload, 1) := by decide +kernel
theorem d_WP_taken_60 : decode prog_1_method_15_code 60 = .ok (.ireturn, 1) := by decide +kernel
theorem d_Law_mode_0 : decode method_13_code 0 = .ok (.aload_n 2, 1) := by decide +kernel
theorem d_Law_mode_1 : decode method_13_code 1 = .ok (.iconst 0, 1) := by decide +kernel
theorem d_Law_mode_2 : decode method_13_code 2 = .ok (.aload_n 0, 1) := by decide +kernel
theorem d_Law_mode_3 : decode method_13_code 3 = .ok (.iload_n 1, 1) := by decide +kernel
theorem d_Law_mode_4 : decode method_13_code 4 = .ok (.invokevirtual 52, 3) := by decide +kernel
theorem d_Law_mode_7 : decode method_13_code 7 = .ok (.i2l, 1) := by decide +kernel
theorem d_Law_mode_8 : decode method_13_code 8 = .ok (.lastore, 1) := by decide +kernel
theorem d_Law_mode_9 : decode method_13_code 9 = .ok (.goto 6, 3) := by decide +kernel
theorem d_Law_mode_12 : decode method_13_code 12 = .ok (.astore_n 3, 1) := by decide +kernel
theorem d_Law_mode_13 : decode method_13_code 13 = .ok (.iconst 1, 1) := by decide +kernel
theorem d_Law_mode_14 : decode method_13_code 14 = .ok (.ireturn, 1) := by decide +kernel
theorem d_Law_mode_15 : decode method_13_code 15 = .ok (.iconst 0, 1) := by decide +kernel
theorem d_Law_mode_16 : decode method_13_code 16 = .ok (.ireturn, 1) := by decide +kernel
theorem d_WP_mode_0 : decode prog_1_method_17_code 0 = .ok (.aload_n 0, 1) := by decide +kernel
theorem d_WP_mode_1 : decode prog_1_method_17_code 1 = .ok (.iload_n 1, 1) := by decide +kernel
theorem d_WP_mode_2 : decode prog_1_method_17_code 2 = .ok (.invokevirtual 118, 3) := by decide +kernel
theorem d_WP_mode_5 : decode prog_1_method_17_code 5 = .ok (.aload_n 0, 1) := by decide +kernel
theorem d_WP_mode_6 : decode prog_1_method_17_code 6 = .ok (.getfield 27, 3) := by decide +kernel
theorem d_WP_mode_9 : decode prog_1_method_17_code 9 = .ok (.iload_n 1, 1) := by decide +kernel
theorem d_WP_mode_10 : decode prog_1_method_17_code 10 = .ok (.baload, 1) := by decide +kernel
theorem d_WP_mode_11 : decode prog_1_method_17_code 11 = .ok (.ifCond .eq 5, 3) := by decide +kernel
theorem d_WP_mode_14 : decode prog_1_method_17_code 14 = .ok (.iconst (-1), 1) := by decide +kernel
theorem d_WP_mode_15 : decode prog_1_method_17_code 15 = .ok (.ireturn, 1) := by decide +kernel
theorem d_WP_mode_16 : decode prog_1_method_17_code 16 = .ok (.aload_n 0, 1) := by decide +kernel
theorem d_WP_mode_17 : decode prog_1_method_17_code 17 = .ok (.iload_n 1, 1) := by decide +kernel
theorem d_WP_mode_18 : decode prog_1_method_17_code 18 = .ok (.invokevirtual 172, 3) := by decide +kernel
theorem d_WP_mode_21 : decode prog_1_method_17_code 21 = .ok (.aload_n 0, 1) := by decide +kernel
theorem d_WP_mode_22 : decode prog_1_method_17_code 22 = .ok (.getfield 12, 3) := by decide +kernel
theorem d_WP_mode_25 : decode prog_1_method_17_code 25 = .ok (.aload_n 0, 1) := by decide +kernel
theorem d_WP_mode_26 : decode prog_1_method_17_code 26 = .ok (.getfield 23, 3) := by decide +kernel
theorem d_WP_mode_29 : decode prog_1_method_17_code 29 = .ok (.invokevirtual 194, 3) := by decide +kernel
theorem d_WP_mode_32 : decode prog_1_method_17_code 32 = .ok (.ireturn, 1) := by decide +kernel
theorem d_Hold_answerTo_0 : decode prog_3_method_5_code 0 = .ok (.aload_n 0, 1) := by decide +kernel
theorem d_Hold_answerTo_1 : decode prog_3_method_5_code 1 = .ok (.aload_n 1, 1) := by decide +kernel
theorem d_Hold_answerTo_2 : decode prog_3_method_5_code 2 = .ok (.invokevirtual 45, 3) := by decide +kernel
theorem d_Hold_answerTo_5 : decode prog_3_method_5_code 5 = .ok (.ifCond .eq 5, 3) := by decide +kernel
theorem d_Hold_answerTo_8 : decode prog_3_method_5_code 8 = .ok (.iconst 1, 1) := by decide +kernel
theorem d_Hold_answerTo_9 : decode prog_3_method_5_code 9 = .ok (.ireturn, 1) := by decide +kernel
theorem d_Hold_answerTo_10 : decode prog_3_method_5_code 10 = .ok (.iconst 0, 1) := by decide +kernel
theorem d_Hold_answerTo_11 : decode prog_3_method_5_code 11 = .ok (.istore_n 2, 1) := by decide +kernel
theorem d_Hold_answerTo_12 : decode prog_3_method_5_code 12 = .ok (.iload_n 2, 1) := by decide +kernel
theorem d_Hold_answerTo_13 : decode prog_3_method_5_code 13 = .ok (.bipush 12, 2) := by decide +kernel
theorem d_Hold_answerTo_15 : decode prog_3_method_5_code 15 = .ok (.if_icmp .ge 36, 3) := by decide +kernel
theorem d_Hold_answerTo_18 : decode prog_3_method_5_code 18 = .ok (.aload_n 0, 1) := by decide +kernel
theorem d_Hold_answerTo_19 : decode prog_3_method_5_code 19 = .ok (.getfield 25, 3) := by decide +kernel
theorem d_Hold_answerTo_22 : decode prog_3_method_5_code 22 = .ok (.iload_n 2, 1) := by decide +kernel
theorem d_Hold_answerTo_23 : decode prog_3_method_5_code 23 = .ok (.invokestatic 37, 3) := by decide +kernel
theorem d_Hold_answerTo_26 : decode prog_3_method_5_code 26 = .ok (.ifCond .eq 19, 3) := by decide +kernel
theorem d_Hold_answerTo_29 : decode prog_3_method_5_code 29 = .ok (.aload_n 0, 1) := by decide +kernel
theorem d_Hold_answerTo_30 : decode prog_3_method_5_code 30 = .ok (.getfield 17, 3) := by decide +kernel
theorem d_Hold_answerTo_33 : decode prog_3_method_5_code 33 = .ok (.iload_n 2, 1) := by decide +kernel
theorem d_Hold_answerTo_34 : decode prog_3_method_5_code 34 = .ok (.aaload, 1) := by decide +kernel
theorem d_Hold_answerTo_35 : decode prog_3_method_5_code 35 = .ok (.aload_n 1, 1) := by decide +kernel
theorem d_Hold_answerTo_36 : decode prog_3_method_5_code 36 = .ok (.aload_n 0, 1) := by decide +kernel
theorem d_Hold_answerTo_37 : decode prog_3_method_5_code 37 = .ok (.getfield 11, 3) := by decide +kernel
theorem d_Hold_answerTo_40 : decode prog_3_method_5_code 40 = .ok (.iload_n 2, 1) := by decide +kernel
theorem d_Hold_answerTo_41 : decode prog_3_method_5_code 41 = .ok (.aaload, 1) := by decide +kernel
theorem d_Hold_answerTo_42 : decode prog_3_method_5_code 42 = .ok (.invokevirtual 49, 3) := by decide +kernel
theorem d_Hold_answerTo_45 : decode prog_3_method_5_code 45 = .ok (.iinc 2 1, 3) := by decide +kernel
theorem d_Hold_answerTo_48 : decode prog_3_method_5_code 48 = .ok (.goto (-36), 3) := by decide +kernel
theorem d_Hold_answerTo_51 : decode prog_3_method_5_code 51 = .ok (.aload_n 0, 1) := by decide +kernel
theorem d_Hold_answerTo_52 : decode prog_3_method_5_code 52 = .ok (.aload_n 1, 1) := by decide +kernel
theorem d_Hold_answerTo_53 : decode prog_3_method_5_code 53 = .ok (.invokevirtual 53, 3) := by decide +kernel
theorem d_Hold_answerTo_56 : decode prog_3_method_5_code 56 = .ok (.istore_n 2, 1) := by decide +kernel
theorem d_Hold_answerTo_57 : decode prog_3_method_5_code 57 = .ok (.iload_n 2, 1) := by decide +kernel
theorem d_Hold_answerTo_58 : decode prog_3_method_5_code 58 = .ok (.ifCond .eq 7, 3) := by decide +kernel
theorem d_Hold_answerTo_61 : decode prog_3_method_5_code 61 = .ok (.iload_n 2, 1) := by decide +kernel
theorem d_Hold_answerTo_62 : decode prog_3_method_5_code 62 = .ok (.goto 8, 3) := by decide +kernel
theorem d_Hold_answerTo_65 : decode prog_3_method_5_code 65 = .ok (.aload_n 0, 1) := by decide +kernel
theorem d_Hold_answerTo_66 : decode prog_3_method_5_code 66 = .ok (.aload_n 1, 1) := by decide +kernel
theorem d_Hold_answerTo_67 : decode prog_3_method_5_code 67 = .ok (.invokevirtual 56, 3) := by decide +kernel
theorem d_Hold_answerTo_70 : decode prog_3_method_5_code 70 = .ok (.ireturn, 1) := by decide +kernel
theorem d_Arrow_setSlide_0 : decode prog_2_method_5_code 0 = .ok (.aload_n 2, 1) := by decide +kernel
theorem d_Arrow_setSlide_1 : decode prog_2_method_5_code 1 = .ok (.aload_n 2, 1) := by decide +kernel
theorem d_Arrow_setSlide_2 : decode prog_2_method_5_code 2 = .ok (.invokevirtual 23, 3) := by decide +kernel
theorem d_Arrow_setSlide_5 : decode prog_2_method_5_code 5 = .ok (.istore_n 3, 1) := by decide +kernel
theorem d_Arrow_setSlide_6 : decode prog_2_method_5_code 6 = .ok (.aload_n 1, 1) := by decide +kernel
theorem d_Arrow_setSlide_7 : decode prog_2_method_5_code 7 = .ok (.aload_n 2, 1) := by decide +kernel
theorem d_Arrow_setSlide_8 : decode prog_2_method_5_code 8 = .ok (.invokevirtual 23, 3) := by decide +kernel
theorem d_Arrow_setSlide_11 : decode prog_2_method_5_code 11 = .ok (.istore 4, 2) := by decide +kernel
theorem d_Arrow_setSlide_13 : decode prog_2_method_5_code 13 = .ok (.aload_n 0, 1) := by decide +kernel
theorem d_Arrow_setSlide_14 : decode prog_2_method_5_code 14 = .ok (.aload_n 1, 1) := by decide +kernel
theorem d_Arrow_setSlide_15 : decode prog_2_method_5_code 15 = .ok (.getfield 7, 3) := by decide +kernel
theorem d_Arrow_setSlide_18 : decode prog_2_method_5_code 18 = .ok (.iload_n 3, 1) := by decide +kernel
theorem d_Arrow_setSlide_19 : decode prog_2_method_5_code 19 = .ok (.imul, 1) := by decide +kernel
theorem d_Arrow_setSlide_20 : decode prog_2_method_5_code 20 = .ok (.aload_n 2, 1) := by decide +kernel
theorem d_Arrow_setSlide_21 : decode prog_2_method_5_code 21 = .ok (.getfield 7, 3) := by decide +kernel
theorem d_Arrow_setSlide_24 : decode prog_2_method_5_code 24 = .ok (.iload 4, 2) := by decide +kernel
theorem d_Arrow_setSlide_26 : decode prog_2_method_5_code 26 = .ok (.imul, 1) := by decide +kernel
theorem d_Arrow_setSlide_27 : decode prog_2_method_5_code 27 = .ok (.isub, 1) := by decide +kernel
theorem d_Arrow_setSlide_28 : decode prog_2_method_5_code 28 = .ok (.aload_n 1, 1) := by decide +kernel
theorem d_Arrow_setSlide_29 : decode prog_2_method_5_code 29 = .ok (.getfield 13, 3) := by decide +kernel
theorem d_Arrow_setSlide_32 : decode prog_2_method_5_code 32 = .ok (.iload_n 3, 1) := by decide +kernel
theorem d_Arrow_setSlide_33 : decode prog_2_method_5_code 33 = .ok (.imul, 1) := by decide +kernel
theorem d_Arrow_setSlide_34 : decode prog_2_method_5_code 34 = .ok (.aload_n 2, 1) := by decide +kernel
theorem d_Arrow_setSlide_35 : decode prog_2_method_5_code 35 = .ok (.getfield 13, 3) := by decide +kernel
theorem d_Arrow_setSlide_38 : decode prog_2_method_5_code 38 = .ok (.iload 4, 2) := by decide +kernel
theorem d_Arrow_setSlide_40 : decode prog_2_method_5_code 40 = .ok (.imul, 1) := by decide +kernel
theorem d_Arrow_setSlide_41 : decode prog_2_method_5_code 41 = .ok (.isub, 1) := by decide +kernel
theorem d_Arrow_setSlide_42 : decode prog_2_method_5_code 42 = .ok (.aload_n 1, 1) := by decide +kernel
theorem d_Arrow_setSlide_43 : decode prog_2_method_5_code 43 = .ok (.getfield 16, 3) := by decide +kernel
theorem d_Arrow_setSlide_46 : decode prog_2_method_5_code 46 = .ok (.iload_n 3, 1) := by decide +kernel
theorem d_Arrow_setSlide_47 : decode prog_2_method_5_code 47 = .ok (.imul, 1) := by decide +kernel
theorem d_Arrow_setSlide_48 : decode prog_2_method_5_code 48 = .ok (.aload_n 2, 1) := by decide +kernel
theorem d_Arrow_setSlide_49 : decode prog_2_method_5_code 49 = .ok (.getfield 16, 3) := by decide +kernel
theorem d_Arrow_setSlide_52 : decode prog_2_method_5_code 52 = .ok (.iload 4, 2) := by decide +kernel
theorem d_Arrow_setSlide_54 : decode prog_2_method_5_code 54 = .ok (.imul, 1) := by decide +kernel
theorem d_Arrow_setSlide_55 : decode prog_2_method_5_code 55 = .ok (.isub, 1) := by decide +kernel
theorem d_Arrow_setSlide_56 : decode prog_2_method_5_code 56 = .ok (.invokevirtual 19, 3) := by decide +kernel
theorem d_Arrow_setSlide_59 : decode prog_2_method_5_code 59 = .ok (.return_, 1) := by decide +kernel
theorem d_Hold_slideOnOne_0 : decode prog_3_method_6_code 0 = .ok (.iconst 0, 1) := by decide +kernel
theorem d_Hold_slideOnOne_1 : decode prog_3_method_6_code 1 = .ok (.istore_n 2, 1) := by decide +kernel
theorem d_Hold_slideOnOne_2 : decode prog_3_method_6_code 2 = .ok (.iload_n 2, 1) := by decide +kernel
theorem d_Hold_slideOnOne_3 : decode prog_3_method_6_code 3 = .ok (.bipush 12, 2) := by decide +kernel
theorem d_Hold_slideOnOne_5 : decode prog_3_method_6_code 5 = .ok (.if_icmp .ge 51, 3) := by decide +kernel
theorem d_Hold_slideOnOne_8 : decode prog_3_method_6_code 8 = .ok (.aload_n 0, 1) := by decide +kernel
theorem d_Hold_slideOnOne_9 : decode prog_3_method_6_code 9 = .ok (.getfield 25, 3) := by decide +kernel
theorem d_Hold_slideOnOne_12 : decode prog_3_method_6_code 12 = .ok (.iload_n 2, 1) := by decide +kernel
theorem d_Hold_slideOnOne_13 : decode prog_3_method_6_code 13 = .ok (.invokestatic 37, 3) := by decide +kernel
theorem d_Hold_slideOnOne_16 : decode prog_3_method_6_code 16 = .ok (.ifCond .eq 34, 3) := by decide +kernel
theorem d_Hold_slideOnOne_19 : decode prog_3_method_6_code 19 = .ok (.aload_n 1, 1) := by decide +kernel
theorem d_Hold_slideOnOne_20 : decode prog_3_method_6_code 20 = .ok (.aload_n 0, 1) := by decide +kernel
theorem d_Hold_slideOnOne_21 : decode prog_3_method_6_code 21 = .ok (.getfield 11, 3) := by decide +kernel
theorem d_Hold_slideOnOne_24 : decode prog_3_method_6_code 24 = .ok (.iload_n 2, 1) := by decide +kernel
theorem d_Hold_slideOnOne_25 : decode prog_3_method_6_code 25 = .ok (.aaload, 1) := by decide +kernel
theorem d_Hold_slideOnOne_26 : decode prog_3_method_6_code 26 = .ok (.invokevirtual 41, 3) := by decide +kernel
theorem d_Hold_slideOnOne_29 : decode prog_3_method_6_code 29 = .ok (.ifCond .ge 21, 3) := by decide +kernel
theorem d_Hold_slideOnOne_32 : decode prog_3_method_6_code 32 = .ok (.aload_n 0, 1) := by decide +kernel
theorem d_Hold_slideOnOne_33 : decode prog_3_method_6_code 33 = .ok (.aload_n 0, 1) := by decide +kernel
theorem d_Hold_slideOnOne_34 : decode prog_3_method_6_code 34 = .ok (.getfield 17, 3) := by decide +kernel
theorem d_Hold_slideOnOne_37 : decode prog_3_method_6_code 37 = .ok (.iload_n 2, 1) := by decide +kernel
theorem d_Hold_slideOnOne_38 : decode prog_3_method_6_code 38 = .ok (.aaload, 1) := by decide +kernel
theorem d_Hold_slideOnOne_39 : decode prog_3_method_6_code 39 = .ok (.invokevirtual 45, 3) := by decide +kernel
theorem d_Hold_slideOnOne_42 : decode prog_3_method_6_code 42 = .ok (.ifCond .eq 8, 3) := by decide +kernel
theorem d_Hold_slideOnOne_45 : decode prog_3_method_6_code 45 = .ok (.bipush 10, 2) := by decide +kernel
theorem d_Hold_slideOnOne_47 : decode prog_3_method_6_code 47 = .ok (.iload_n 2, 1) := by decide +kernel
theorem d_Hold_slideOnOne_48 : decode prog_3_method_6_code 48 = .ok (.iadd, 1) := by decide +kernel
theorem d_Hold_slideOnOne_49 : decode prog_3_method_6_code 49 = .ok (.ireturn, 1) := by decide +kernel
theorem d_Hold_slideOnOne_50 : decode prog_3_method_6_code 50 = .ok (.iinc 2 1, 3) := by decide +kernel
theorem d_Hold_slideOnOne_53 : decode prog_3_method_6_code 53 = .ok (.goto (-51), 3) := by decide +kernel
theorem d_Hold_slideOnOne_56 : decode prog_3_method_6_code 56 = .ok (.iconst 0, 1) := by decide +kernel
theorem d_Hold_slideOnOne_57 : decode prog_3_method_6_code 57 = .ok (.ireturn, 1) := by decide +kernel
theorem d_Hold_slideOnTwo_0 : decode prog_3_method_7_code 0 = .ok (.iconst 0, 1) := by decide +kernel
theorem d_Hold_slideOnTwo_1 : decode prog_3_method_7_code 1 = .ok (.istore_n 2, 1) := by decide +kernel
theorem d_Hold_slideOnTwo_2 : decode prog_3_method_7_code 2 = .ok (.iload_n 2, 1) := by decide +kernel
theorem d_Hold_slideOnTwo_3 : decode prog_3_method_7_code 3 = .ok (.bipush 12, 2) := by decide +kernel
theorem d_Hold_slideOnTwo_5 : decode prog_3_method_7_code 5 = .ok (.if_icmp .ge 67, 3) := by decide +kernel
theorem d_Hold_slideOnTwo_8 : decode prog_3_method_7_code 8 = .ok (.iload_n 2, 1) := by decide +kernel
theorem d_Hold_slideOnTwo_9 : decode prog_3_method_7_code 9 = .ok (.iconst 1, 1) := by decide +kernel
theorem d_Hold_slideOnTwo_10 : decode prog_3_method_7_code 10 = .ok (.iadd, 1) := by decide +kernel
theorem d_Hold_slideOnTwo_11 : decode prog_3_method_7_code 11 = .ok (.istore_n 3, 1) := by decide +kernel
theorem d_Hold_slideOnTwo_12 : decode prog_3_method_7_code 12 = .ok (.iload_n 3, 1) := by decide +kernel
theorem d_Hold_slideOnTwo_13 : decode prog_3_method_7_code 13 = .ok (.bipush 12, 2) := by decide +kernel
theorem d_Hold_slideOnTwo_15 : decode prog_3_method_7_code 15 = .ok (.if_icmp .ge 51, 3) := by decide +kernel
theorem d_Hold_slideOnTwo_18 : decode prog_3_method_7_code 18 = .ok (.aload_n 0, 1) := by decide +kernel
theorem d_Hold_slideOnTwo_19 : decode prog_3_method_7_code 19 = .ok (.getfield 25, 3) := by decide +kernel
theorem d_Hold_slideOnTwo_22 : decode prog_3_method_7_code 22 = .ok (.iload_n 2, 1) := by decide +kernel
theorem d_Hold_slideOnTwo_23 : decode prog_3_method_7_code 23 = .ok (.invokestatic 37, 3) := by decide +kernel
theorem d_Hold_slideOnTwo_26 : decode prog_3_method_7_code 26 = .ok (.ifCond .eq 34, 3) := by decide +kernel
theorem d_Hold_slideOnTwo_29 : decode prog_3_method_7_code 29 = .ok (.aload_n 0, 1) := by decide +kernel
theorem d_Hold_slideOnTwo_30 : decode prog_3_method_7_code 30 = .ok (.getfield 25, 3) := by decide +kernel
theorem d_Hold_slideOnTwo_33 : decode prog_3_method_7_code 33 = .ok (.iload_n 3, 1) := by decide +kernel
theorem d_Hold_slideOnTwo_34 : decode prog_3_method_7_code 34 = .ok (.invokestatic 37, 3) := by decide +kernel
theorem d_Hold_slideOnTwo_37 : decode prog_3_method_7_code 37 = .ok (.ifCond .eq 23, 3) := by decide +kernel
theorem d_Hold_slideOnTwo_40 : decode prog_3_method_7_code 40 = .ok (.aload_n 0, 1) := by decide +kernel
theorem d_Hold_slideOnTwo_41 : decode prog_3_method_7_code 41 = .ok (.iload_n 2, 1) := by decide +kernel
theorem d_Hold_slideOnTwo_42 : decode prog_3_method_7_code 42 = .ok (.iload_n 3, 1) := by decide +kernel
theorem d_Hold_slideOnTwo_43 : decode prog_3_method_7_code 43 = .ok (.aload_n 1, 1) := by decide +kernel
theorem d_Hold_slideOnTwo_44 : decode prog_3_method_7_code 44 = .ok (.invokevirtual 59, 3) := by decide +kernel
theorem d_Hold_slideOnTwo_47 : decode prog_3_method_7_code 47 = .ok (.ifCond .eq 13, 3) := by decide +kernel
theorem d_Hold_slideOnTwo_50 : decode prog_3_method_7_code 50 = .ok (.bipush 100, 2) := by decide +kernel
theorem d_Hold_slideOnTwo_52 : decode prog_3_method_7_code 52 = .ok (.bipush 12, 2) := by decide +kernel
theorem d_Hold_slideOnTwo_54 : decode prog_3_method_7_code 54 = .ok (.iload_n 2, 1) := by decide +kernel
theorem d_Hold_slideOnTwo_55 : decode prog_3_method_7_code 55 = .ok (.imul, 1) := by decide +kernel
theorem d_Hold_slideOnTwo_56 : decode prog_3_method_7_code 56 = .ok (.iadd, 1) := by decide +kernel
theorem d_Hold_slideOnTwo_57 : decode prog_3_method_7_code 57 = .ok (.iload_n 3, 1) := by decide +kernel
theorem d_Hold_slideOnTwo_58 : decode prog_3_method_7_code 58 = .ok (.iadd, 1) := by decide +kernel
theorem d_Hold_slideOnTwo_59 : decode prog_3_method_7_code 59 = .ok (.ireturn, 1) := by decide +kernel
theorem d_Hold_slideOnTwo_60 : decode prog_3_method_7_code 60 = .ok (.iinc 3 1, 3) := by decide +kernel
theorem d_Hold_slideOnTwo_63 : decode prog_3_method_7_code 63 = .ok (.goto (-51), 3) := by decide +kernel
theorem d_Hold_slideOnTwo_66 : decode prog_3_method_7_code 66 = .ok (.iinc 2 1, 3) := by decide +kernel
theorem d_Hold_slideOnTwo_69 : decode prog_3_method_7_code 69 = .ok (.goto (-67), 3) := by decide +kernel
theorem d_Hold_slideOnTwo_72 : decode prog_3_method_7_code 72 = .ok (.iconst 0, 1) := by decide +kernel
theorem d_Hold_slideOnTwo_73 : decode prog_3_method_7_code 73 = .ok (.ireturn, 1) := by decide +kernel
theorem d_Hold_slidesAlong_0 : decode prog_3_method_8_code 0 = .ok (.aload_n 0, 1) := by decide +kernel
theorem d_Hold_slidesAlong_1 : decode prog_3_method_8_code 1 = .ok (.getfield 21, 3) := by decide +kernel
theorem d_Hold_slidesAlong_4 : decode prog_3_method_8_code 4 = .ok (.aload_n 0, 1) := by decide +kernel
theorem d_Hold_slidesAlong_5 : decode prog_3_method_8_code 5 = .ok (.getfield 11, 3) := by decide +kernel
theorem d_Hold_slidesAlong_8 : decode prog_3_method_8_code 8 = .ok (.iload_n 1, 1) := by decide +kernel
theorem d_Hold_slidesAlong_9 : decode prog_3_method_8_code 9 = .ok (.aaload, 1) := by decide +kernel
theorem d_Hold_slidesAlong_10 : decode prog_3_method_8_code 10 = .ok (.aload_n 0, 1) := by decide +kernel
theorem d_Hold_slidesAlong_11 : decode prog_3_method_8_code 11 = .ok (.getfield 11, 3) := by decide +kernel
theorem d_Hold_slidesAlong_14 : decode prog_3_method_8_code 14 = .ok (.iload_n 2, 1) := by decide +kernel
theorem d_Hold_slidesAlong_15 : decode prog_3_method_8_code 15 = .ok (.aaload, 1) := by decide +kernel
theorem d_Hold_slidesAlong_16 : decode prog_3_method_8_code 16 = .ok (.invokevirtual 63, 3) := by decide +kernel
theorem d_Hold_slidesAlong_19 : decode prog_3_method_8_code 19 = .ok (.aload_n 3, 1) := by decide +kernel
theorem d_Hold_slidesAlong_20 : decode prog_3_method_8_code 20 = .ok (.aload_n 0, 1) := by decide +kernel
theorem d_Hold_slidesAlong_21 : decode prog_3_method_8_code 21 = .ok (.getfield 21, 3) := by decide +kernel
theorem d_Hold_slidesAlong_24 : decode prog_3_method_8_code 24 = .ok (.invokevirtual 41, 3) := by decide +kernel
theorem d_Hold_slidesAlong_27 : decode prog_3_method_8_code 27 = .ok (.ifCond .ge 15, 3) := by decide +kernel
theorem d_Hold_slidesAlong_30 : decode prog_3_method_8_code 30 = .ok (.aload_n 0, 1) := by decide +kernel
theorem d_Hold_slidesAlong_31 : decode prog_3_method_8_code 31 = .ok (.getfield 21, 3) := by decide +kernel
theorem d_Hold_slidesAlong_34 : decode prog_3_method_8_code 34 = .ok (.aload_n 0, 1) := by decide +kernel
theorem d_Hold_slidesAlong_35 : decode prog_3_method_8_code 35 = .ok (.getfield 21, 3) := by decide +kernel
theorem d_Hold_slidesAlong_38 : decode prog_3_method_8_code 38 = .ok (.iconst (-1), 1) := by decide +kernel
theorem d_Hold_slidesAlong_39 : decode prog_3_method_8_code 39 = .ok (.invokevirtual 29, 3) := by decide +kernel
theorem d_Hold_slidesAlong_42 : decode prog_3_method_8_code 42 = .ok (.aload_n 3, 1) := by decide +kernel
theorem d_Hold_slidesAlong_43 : decode prog_3_method_8_code 43 = .ok (.aload_n 0, 1) := by decide +kernel
theorem d_Hold_slidesAlong_44 : decode prog_3_method_8_code 44 = .ok (.getfield 21, 3) := by decide +kernel
theorem d_Hold_slidesAlong_47 : decode prog_3_method_8_code 47 = .ok (.invokevirtual 41, 3) := by decide +kernel
theorem d_Hold_slidesAlong_50 : decode prog_3_method_8_code 50 = .ok (.ifCond .le 54, 3) := by decide +kernel
theorem d_Hold_slidesAlong_53 : decode prog_3_method_8_code 53 = .ok (.aload_n 0, 1) := by decide +kernel
theorem d_Hold_slidesAlong_54 : decode prog_3_method_8_code 54 = .ok (.aload_n 0, 1) := by decide +kernel
theorem d_Hold_slidesAlong_55 : decode prog_3_method_8_code 55 = .ok (.getfield 21, 3) := by decide +kernel
theorem d_Hold_slidesAlong_58 : decode prog_3_method_8_code 58 = .ok (.invokevirtual 45, 3) := by decide +kernel
theorem d_Hold_slidesAlong_61 : decode prog_3_method_8_code 61 = .ok (.ifCond .eq 43, 3) := by decide +kernel
theorem d_Hold_slidesAlong_64 : decode prog_3_method_8_code 64 = .ok (.aload_n 0, 1) := by decide +kernel
theorem d_Hold_slidesAlong_65 : decode prog_3_method_8_code 65 = .ok (.getfield 17, 3) := by decide +kernel
theorem d_Hold_slidesAlong_68 : decode prog_3_method_8_code 68 = .ok (.iload_n 1, 1) := by decide +kernel
theorem d_Hold_slidesAlong_69 : decode prog_3_method_8_code 69 = .ok (.aaload, 1) := by decide +kernel
theorem d_Hold_slidesAlong_70 : decode prog_3_method_8_code 70 = .ok (.aload_n 0, 1) := by decide +kernel
theorem d_Hold_slidesAlong_71 : decode prog_3_method_8_code 71 = .ok (.getfield 11, 3) := by decide +kernel
theorem d_Hold_slidesAlong_74 : decode prog_3_method_8_code 74 = .ok (.iload_n 2, 1) := by decide +kernel
theorem d_Hold_slidesAlong_75 : decode prog_3_method_8_code 75 = .ok (.aaload, 1) := by decide +kernel
theorem d_Hold_slidesAlong_76 : decode prog_3_method_8_code 76 = .ok (.invokevirtual 41, 3) := by decide +kernel
theorem d_Hold_slidesAlong_79 : decode prog_3_method_8_code 79 = .ok (.ifCond .ge 25, 3) := by decide +kernel
theorem d_Hold_slidesAlong_82 : decode prog_3_method_8_code 82 = .ok (.aload_n 0, 1) := by decide +kernel
theorem d_Hold_slidesAlong_83 : decode prog_3_method_8_code 83 = .ok (.getfield 17, 3) := by decide +kernel
theorem d_Hold_slidesAlong_86 : decode prog_3_method_8_code 86 = .ok (.iload_n 2, 1) := by decide +kernel
theorem d_Hold_slidesAlong_87 : decode prog_3_method_8_code 87 = .ok (.aaload, 1) := by decide +kernel
theorem d_Hold_slidesAlong_88 : decode prog_3_method_8_code 88 = .ok (.aload_n 0, 1) := by decide +kernel
theorem d_Hold_slidesAlong_89 : decode prog_3_method_8_code 89 = .ok (.getfield 11, 3) := by decide +kernel
theorem d_Hold_slidesAlong_92 : decode prog_3_method_8_code 92 = .ok (.iload_n 1, 1) := by decide +kernel
theorem d_Hold_slidesAlong_93 : decode prog_3_method_8_code 93 = .ok (.aaload, 1) := by decide +kernel
theorem d_Hold_slidesAlong_94 : decode prog_3_method_8_code 94 = .ok (.invokevirtual 41, 3) := by decide +kernel
theorem d_Hold_slidesAlong_97 : decode prog_3_method_8_code 97 = .ok (.ifCond .ge 7, 3) := by decide +kernel
theorem d_Hold_slidesAlong_100 : decode prog_3_method_8_code 100 = .ok (.iconst 1, 1) := by decide +kernel
theorem d_Hold_slidesAlong_101 : decode prog_3_method_8_code 101 = .ok (.goto 4, 3) := by decide +kernel
theorem d_Hold_slidesAlong_104 : decode prog_3_method_8_code 104 = .ok (.iconst 0, 1) := by decide +kernel
theorem d_Hold_slidesAlong_105 : decode prog_3_method_8_code 105 = .ok (.ireturn, 1) := by decide +kernel
theorem d_Law_told_0 : decode method_14_code 0 = .ok (.aload_n 2, 1) := by decide +kernel
theorem d_Law_told_1 : decode method_14_code 1 = .ok (.iconst 0, 1) := by decide +kernel
theorem d_Law_told_2 : decode method_14_code 2 = .ok (.aload_n 0, 1) := by decide +kernel
theorem d_Law_told_3 : decode method_14_code 3 = .ok (.iload_n 1, 1) := by decide +kernel
theorem d_Law_told_4 : decode method_14_code 4 = .ok (.invokevirtual 55, 3) := by decide +kernel
theorem d_Law_told_7 : decode method_14_code 7 = .ok (.i2l, 1) := by decide +kernel
theorem d_Law_told_8 : decode method_14_code 8 = .ok (.lastore, 1) := by decide +kernel
theorem d_Law_told_9 : decode method_14_code 9 = .ok (.goto 6, 3) := by decide +kernel
theorem d_Law_told_12 : decode method_14_code 12 = .ok (.astore_n 3, 1) := by decide +kernel
theorem d_Law_told_13 : decode method_14_code 13 = .ok (.iconst 1, 1) := by decide +kernel
theorem d_Law_told_14 : decode method_14_code 14 = .ok (.ireturn, 1) := by decide +kernel
theorem d_Law_told_15 : decode method_14_code 15 = .ok (.iconst 0, 1) := by decide +kernel
theorem d_Law_told_16 : decode method_14_code 16 = .ok (.ireturn, 1) := by decide +kernel
theorem d_WP_told_0 : decode prog_1_method_18_code 0 = .ok (.iload_n 1, 1) := by decide +kernel
theorem d_WP_told_1 : decode prog_1_method_18_code 1 = .ok (.tableswitch 60 0 3 #[31, 39, 44, 49], 31) := by decide +kernel
theorem d_WP_told_32 : decode prog_1_method_18_code 32 = .ok (.aload_n 0, 1) := by decide +kernel
theorem d_WP_told_33 : decode prog_1_method_18_code 33 = .ok (.getfield 57, 3) := by decide +kernel
theorem d_WP_told_36 : decode prog_1_method_18_code 36 = .ok (.getfield 78, 3) := by decide +kernel
theorem d_WP_told_39 : decode prog_1_method_18_code 39 = .ok (.ireturn, 1) := by decide +kernel
theorem d_WP_told_40 : decode prog_1_method_18_code 40 = .ok (.aload_n 0, 1) := by decide +kernel
theorem d_WP_told_41 : decode prog_1_method_18_code 41 = .ok (.getfield 42, 3) := by decide +kernel
theorem d_WP_told_44 : decode prog_1_method_18_code 44 = .ok (.ireturn, 1) := by decide +kernel
theorem d_WP_told_45 : decode prog_1_method_18_code 45 = .ok (.aload_n 0, 1) := by decide +kernel
theorem d_WP_told_46 : decode prog_1_method_18_code 46 = .ok (.getfield 38, 3) := by decide +kernel
theorem d_WP_told_49 : decode prog_1_method_18_code 49 = .ok (.ireturn, 1) := by decide +kernel
theorem d_WP_told_50 : decode prog_1_method_18_code 50 = .ok (.aload_n 0, 1) := by decide +kernel
theorem d_WP_told_51 : decode prog_1_method_18_code 51 = .ok (.getfield 57, 3) := by decide +kernel
theorem d_WP_told_54 : decode prog_1_method_18_code 54 = .ok (.getfield 142, 3) := by decide +kernel
theorem d_WP_told_57 : decode prog_1_method_18_code 57 = .ok (.getfield 198, 3) := by decide +kernel
theorem d_WP_told_60 : decode prog_1_method_18_code 60 = .ok (.ireturn, 1) := by decide +kernel
theorem d_WP_told_61 : decode prog_1_method_18_code 61 = .ok (.new 96, 3) := by decide +kernel
theorem d_WP_told_64 : decode prog_1_method_18_code 64 = .ok (.dup, 1) := by decide +kernel
theorem d_WP_told_65 : decode prog_1_method_18_code 65 = .ok (.ldc 160, 2) := by decide +kernel
theorem d_WP_told_67 : decode prog_1_method_18_code 67 = .ok (.invokespecial 100, 3) := by decide +kernel
theorem d_WP_told_70 : decode prog_1_method_18_code 70 = .ok (.athrow, 1) := by decide +kernel
theorem d_Md_init_0 : decode prog_8_method_1_code 0 = .ok (.aload_n 0, 1) := by decide +kernel
theorem d_Md_init_1 : decode prog_8_method_1_code 1 = .ok (.invokespecial 1, 3) := by decide +kernel
theorem d_Md_init_4 : decode prog_8_method_1_code 4 = .ok (.aload_n 0, 1) := by decide +kernel
theorem d_Md_init_5 : decode prog_8_method_1_code 5 = .ok (.iconst 3, 1) := by decide +kernel
theorem d_Md_init_6 : decode prog_8_method_1_code 6 = .ok (.newarray .int, 2) := by decide +kernel
theorem d_Md_init_8 : decode prog_8_method_1_code 8 = .ok (.putfield 7, 3) := by decide +kernel
theorem d_Md_init_11 : decode prog_8_method_1_code 11 = .ok (.aload_n 0, 1) := by decide +kernel
theorem d_Md_init_12 : decode prog_8_method_1_code 12 = .ok (.bipush 48, 2) := by decide +kernel
theorem d_Md_init_14 : decode prog_8_method_1_code 14 = .ok (.newarray .int, 2) := by decide +kernel
theorem d_Md_init_16 : decode prog_8_method_1_code 16 = .ok (.putfield 13, 3) := by decide +kernel
theorem d_Md_init_19 : decode prog_8_method_1_code 19 = .ok (.aload_n 0, 1) := by decide +kernel
theorem d_Md_init_20 : decode prog_8_method_1_code 20 = .ok (.bipush 12, 2) := by decide +kernel
theorem d_Md_init_22 : decode prog_8_method_1_code 22 = .ok (.newarray .boolean, 2) := by decide +kernel
theorem d_Md_init_24 : decode prog_8_method_1_code 24 = .ok (.putfield 16, 3) := by decide +kernel
theorem d_Md_init_27 : decode prog_8_method_1_code 27 = .ok (.aload_n 0, 1) := by decide +kernel
theorem d_Md_init_28 : decode prog_8_method_1_code 28 = .ok (.bipush 24, 2) := by decide +kernel
theorem d_Md_init_30 : decode prog_8_method_1_code 30 = .ok (.newarray .int, 2) := by decide +kernel
theorem d_Md_init_32 : decode prog_8_method_1_code 32 = .ok (.putfield 20, 3) := by decide +kernel
theorem d_Md_init_35 : decode prog_8_method_1_code 35 = .ok (.aload_n 0, 1) := by decide +kernel
theorem d_Md_init_36 : decode prog_8_method_1_code 36 = .ok (.iconst 3, 1) := by decide +kernel
theorem d_Md_init_37 : decode prog_8_method_1_code 37 = .ok (.newarray .int, 2) := by decide +kernel
theorem d_Md_init_39 : decode prog_8_method_1_code 39 = .ok (.putfield 23, 3) := by decide +kernel
theorem d_Md_init_42 : decode prog_8_method_1_code 42 = .ok (.aload_n 0, 1) := by decide +kernel
theorem d_Md_init_43 : decode prog_8_method_1_code 43 = .ok (.sipush 880, 3) := by decide +kernel
theorem d_Md_init_46 : decode prog_8_method_1_code 46 = .ok (.newarray .int, 2) := by decide +kernel
theorem d_Md_init_48 : decode prog_8_method_1_code 48 = .ok (.putfield 26, 3) := by decide +kernel
theorem d_Md_init_51 : decode prog_8_method_1_code 51 = .ok (.aload_n 0, 1) := by decide +kernel
theorem d_Md_init_52 : decode prog_8_method_1_code 52 = .ok (.sipush 220, 3) := by decide +kernel
theorem d_Md_init_55 : decode prog_8_method_1_code 55 = .ok (.newarray .int, 2) := by decide +kernel
theorem d_Md_init_57 : decode prog_8_method_1_code 57 = .ok (.putfield 29, 3) := by decide +kernel
theorem d_Md_init_60 : decode prog_8_method_1_code 60 = .ok (.aload_n 0, 1) := by decide +kernel
theorem d_Md_init_61 : decode prog_8_method_1_code 61 = .ok (.sipush 220, 3) := by decide +kernel
theorem d_Md_init_64 : decode prog_8_method_1_code 64 = .ok (.newarray .int, 2) := by decide +kernel
theorem d_Md_init_66 : decode prog_8_method_1_code 66 = .ok (.putfield 32, 3) := by decide +kernel
theorem d_Md_init_69 : decode prog_8_method_1_code 69 = .ok (.aload_n 0, 1) := by decide +kernel
theorem d_Md_init_70 : decode prog_8_method_1_code 70 = .ok (.sipush 220, 3) := by decide +kernel
theorem d_Md_init_73 : decode prog_8_method_1_code 73 = .ok (.newarray .int, 2) := by decide +kernel
theorem d_Md_init_75 : decode prog_8_method_1_code 75 = .ok (.putfield 35, 3) := by decide +kernel
theorem d_Md_init_78 : decode prog_8_method_1_code 78 = .ok (.aload_n 0, 1) := by decide +kernel
theorem d_Md_init_79 : decode prog_8_method_1_code 79 = .ok (.iconst 4, 1) := by decide +kernel
theorem d_Md_init_80 : decode prog_8_method_1_code 80 = .ok (.newarray .int, 2) := by decide +kernel
theorem d_Md_init_82 : decode prog_8_method_1_code 82 = .ok (.putfield 38, 3) := by decide +kernel
theorem d_Md_init_85 : decode prog_8_method_1_code 85 = .ok (.aload_n 0, 1) := by decide +kernel
theorem d_Md_init_86 : decode prog_8_method_1_code 86 = .ok (.bipush 64, 2) := by decide +kernel
theorem d_Md_init_88 : decode prog_8_method_1_code 88 = .ok (.newarray .int, 2) := by decide +kernel
theorem d_Md_init_90 : decode prog_8_method_1_code 90 = .ok (.putfield 41, 3) := by decide +kernel
theorem d_Md_init_93 : decode prog_8_method_1_code 93 = .ok (.aload_n 0, 1) := by decide +kernel
theorem d_Md_init_94 : decode prog_8_method_1_code 94 = .ok (.bipush 64, 2) := by decide +kernel
theorem d_Md_init_96 : decode prog_8_method_1_code 96 = .ok (.newarray .int, 2) := by decide +kernel
theorem d_Md_init_98 : decode prog_8_method_1_code 98 = .ok (.putfield 44, 3) := by decide +kernel
theorem d_Md_init_101 : decode prog_8_method_1_code 101 = .ok (.aload_n 0, 1) := by decide +kernel
theorem d_Md_init_102 : decode prog_8_method_1_code 102 = .ok (.bipush 64, 2) := by decide +kernel
theorem d_Md_init_104 : decode prog_8_method_1_code 104 = .ok (.newarray .boolean, 2) := by decide +kernel
theorem d_Md_init_106 : decode prog_8_method_1_code 106 = .ok (.putfield 47, 3) := by decide +kernel
theorem d_Md_init_109 : decode prog_8_method_1_code 109 = .ok (.aload_n 0, 1) := by decide +kernel
theorem d_Md_init_110 : decode prog_8_method_1_code 110 = .ok (.bipush 64, 2) := by decide +kernel
theorem d_Md_init_112 : decode prog_8_method_1_code 112 = .ok (.newarray .int, 2) := by decide +kernel
theorem d_Md_init_114 : decode prog_8_method_1_code 114 = .ok (.putfield 50, 3) := by decide +kernel
theorem d_Md_init_117 : decode prog_8_method_1_code 117 = .ok (.aload_n 0, 1) := by decide +kernel
theorem d_Md_init_118 : decode prog_8_method_1_code 118 = .ok (.bipush 64, 2) := by decide +kernel
theorem d_Md_init_120 : decode prog_8_method_1_code 120 = .ok (.newarray .int, 2) := by decide +kernel
theorem d_Md_init_122 : decode prog_8_method_1_code 122 = .ok (.putfield 53, 3) := by decide +kernel
theorem d_Md_init_125 : decode prog_8_method_1_code 125 = .ok (.aload_n 0, 1) := by decide +kernel
theorem d_Md_init_126 : decode prog_8_method_1_code 126 = .ok (.iconst 3, 1) := by decide +kernel
theorem d_Md_init_127 : decode prog_8_method_1_code 127 = .ok (.newarray .int, 2) := by decide +kernel
theorem d_Md_init_129 : decode prog_8_method_1_code 129 = .ok (.putfield 56, 3) := by decide +kernel
theorem d_Md_init_132 : decode prog_8_method_1_code 132 = .ok (.aload_n 0, 1) := by decide +kernel
theorem d_Md_init_133 : decode prog_8_method_1_code 133 = .ok (.iconst 3, 1) := by decide +kernel
theorem d_Md_init_134 : decode prog_8_method_1_code 134 = .ok (.newarray .int, 2) := by decide +kernel
theorem d_Md_init_136 : decode prog_8_method_1_code 136 = .ok (.putfield 59, 3) := by decide +kernel
theorem d_Md_init_139 : decode prog_8_method_1_code 139 = .ok (.aload_n 0, 1) := by decide +kernel
theorem d_Md_init_140 : decode prog_8_method_1_code 140 = .ok (.iconst 3, 1) := by decide +kernel
theorem d_Md_init_141 : decode prog_8_method_1_code 141 = .ok (.newarray .int, 2) := by decide +kernel
theorem d_Md_init_143 : decode prog_8_method_1_code 143 = .ok (.putfield 62, 3) := by decide +kernel
theorem d_Md_init_146 : decode prog_8_method_1_code 146 = .ok (.aload_n 0, 1) := by decide +kernel
theorem d_Md_init_147 : decode prog_8_method_1_code 147 = .ok (.iconst 3, 1) := by decide +kernel
theorem d_Md_init_148 : decode prog_8_method_1_code 148 = .ok (.newarray .int, 2) := by decide +kernel
theorem d_Md_init_150 : decode prog_8_method_1_code 150 = .ok (.putfield 65, 3) := by decide +kernel
theorem d_Md_init_153 : decode prog_8_method_1_code 153 = .ok (.aload_n 0, 1) := by decide +kernel
theorem d_Md_init_154 : decode prog_8_method_1_code 154 = .ok (.getfield 7, 3) := by decide +kernel
theorem d_Md_init_157 : decode prog_8_method_1_code 157 = .ok (.iconst 0, 1) := by decide +kernel
theorem d_Md_init_158 : decode prog_8_method_1_code 158 = .ok (.iload_n 1, 1) := by decide +kernel
theorem d_Md_init_159 : decode prog_8_method_1_code 159 = .ok (.invokestatic 68, 3) := by decide +kernel
theorem d_Md_init_162 : decode prog_8_method_1_code 162 = .ok (.iastore, 1) := by decide +kernel
theorem d_Md_init_163 : decode prog_8_method_1_code 163 = .ok (.aload_n 0, 1) := by decide +kernel
theorem d_Md_init_164 : decode prog_8_method_1_code 164 = .ok (.getfield 7, 3) := by decide +kernel
theorem d_Md_init_167 : decode prog_8_method_1_code 167 = .ok (.iconst 1, 1) := by decide +kernel
theorem d_Md_init_168 : decode prog_8_method_1_code 168 = .ok (.iload_n 2, 1) := by decide +kernel
theorem d_Md_init_169 : decode prog_8_method_1_code 169 = .ok (.invokestatic 68, 3) := by decide +kernel
theorem d_Md_init_172 : decode prog_8_method_1_code 172 = .ok (.iastore, 1) := by decide +kernel
theorem d_Md_init_173 : decode prog_8_method_1_code 173 = .ok (.aload_n 0, 1) := by decide +kernel
theorem d_Md_init_174 : decode prog_8_method_1_code 174 = .ok (.getfield 7, 3) := by decide +kernel
theorem d_Md_init_177 : decode prog_8_method_1_code 177 = .ok (.iconst 2, 1) := by decide +kernel
theorem d_Md_init_178 : decode prog_8_method_1_code 178 = .ok (.iload_n 3, 1) := by decide +kernel
theorem d_Md_init_179 : decode prog_8_method_1_code 179 = .ok (.invokestatic 68, 3) := by decide +kernel
theorem d_Md_init_182 : decode prog_8_method_1_code 182 = .ok (.iastore, 1) := by decide +kernel
theorem d_Md_init_183 : decode prog_8_method_1_code 183 = .ok (.iconst 0, 1) := by decide +kernel
theorem d_Md_init_184 : decode prog_8_method_1_code 184 = .ok (.istore 4, 2) := by decide +kernel
theorem d_Md_init_186 : decode prog_8_method_1_code 186 = .ok (.iload 4, 2) := by decide +kernel
theorem d_Md_init_188 : decode prog_8_method_1_code 188 = .ok (.bipush 6, 2) := by decide +kernel
theorem d_Md_init_190 : decode prog_8_method_1_code 190 = .ok (.if_icmp .ge 62, 3) := by decide +kernel
theorem d_Md_init_193 : decode prog_8_method_1_code 193 = .ok (.aload_n 0, 1) := by decide +kernel
theorem d_Md_init_194 : decode prog_8_method_1_code 194 = .ok (.getfield 13, 3) := by decide +kernel
theorem d_Md_init_197 : decode prog_8_method_1_code 197 = .ok (.iconst 4, 1) := by decide +kernel
theorem d_Md_init_198 : decode prog_8_method_1_code 198 = .ok (.bipush 6, 2) := by decide +kernel
theorem d_Md_init_200 : decode prog_8_method_1_code 200 = .ok (.iload 4, 2) := by decide +kernel
theorem d_Md_init_202 : decode prog_8_method_1_code 202 = .ok (.iadd, 1) := by decide +kernel
theorem d_Md_init_203 : decode prog_8_method_1_code 203 = .ok (.imul, 1) := by decide +kernel
theorem d_Md_init_204 : decode prog_8_method_1_code 204 = .ok (.iload 4, 2) := by decide +kernel
theorem d_Md_init_206 : decode prog_8_method_1_code 206 = .ok (.iconst 2, 1) := by decide +kernel
theorem d_Md_init_207 : decode prog_8_method_1_code 207 = .ok (.idiv, 1) := by decide +kernel
theorem d_Md_init_208 : decode prog_8_method_1_code 208 = .ok (.iadd, 1) := by decide +kernel
theorem d_Md_init_209 : decode prog_8_method_1_code 209 = .ok (.iconst 1, 1) := by decide +kernel
theorem d_Md_init_210 : decode prog_8_method_1_code 210 = .ok (.iastore, 1) := by decide +kernel
theorem d_Md_init_211 : decode prog_8_method_1_code 211 = .ok (.aload_n 0, 1) := by decide +kernel
theorem d_Md_init_212 : decode prog_8_method_1_code 212 = .ok (.getfield 13, 3) := by decide +kernel
theorem d_Md_init_215 : decode prog_8_method_1_code 215 = .ok (.iconst 4, 1) := by decide +kernel
theorem d_Md_init_216 : decode prog_8_method_1_code 216 = .ok (.bipush 6, 2) := by decide +kernel
theorem d_Md_init_218 : decode prog_8_method_1_code 218 = .ok (.iload 4, 2) := by decide +kernel
theorem d_Md_init_220 : decode prog_8_method_1_code 220 = .ok (.iadd, 1) := by decide +kernel
theorem d_Md_init_221 : decode prog_8_method_1_code 221 = .ok (.imul, 1) := by decide +kernel
theorem d_Md_init_222 : decode prog_8_method_1_code 222 = .ok (.iconst 3, 1) := by decide +kernel
theorem d_Md_init_223 : decode prog_8_method_1_code 223 = .ok (.iadd, 1) := by decide +kernel
theorem d_Md_init_224 : decode prog_8_method_1_code 224 = .ok (.iload 4, 2) := by decide +kernel
theorem d_Md_init_226 : decode prog_8_method_1_code 226 = .ok (.iconst 2, 1) := by decide +kernel
theorem d_Md_init_227 : decode prog_8_method_1_code 227 = .ok (.irem, 1) := by decide +kernel
theorem d_Md_init_228 : decode prog_8_method_1_code 228 = .ok (.iconst 1, 1) := by decide +kernel
theorem d_Md_init_229 : decode prog_8_method_1_code 229 = .ok (.if_icmp .ne 15, 3) := by decide +kernel
theorem d_Md_init_232 : decode prog_8_method_1_code 232 = .ok (.aload_n 0, 1) := by decide +kernel
theorem d_Md_init_233 : decode prog_8_method_1_code 233 = .ok (.getfield 7, 3) := by decide +kernel
theorem d_Md_init_236 : decode prog_8_method_1_code 236 = .ok (.iload 4, 2) := by decide +kernel
theorem d_Md_init_238 : decode prog_8_method_1_code 238 = .ok (.iconst 2, 1) := by decide +kernel
theorem d_Md_init_239 : decode prog_8_method_1_code 239 = .ok (.idiv, 1) := by decide +kernel
theorem d_Md_init_240 : decode prog_8_method_1_code 240 = .ok (.iaload, 1) := by decide +kernel
theorem d_Md_init_241 : decode prog_8_method_1_code 241 = .ok (.goto 4, 3) := by decide +kernel
theorem d_Md_init_244 : decode prog_8_method_1_code 244 = .ok (.iconst 0, 1) := by decide +kernel
theorem d_Md_init_245 : decode prog_8_method_1_code 245 = .ok (.iastore, 1) := by decide +kernel
theorem d_Md_init_246 : decode prog_8_method_1_code 246 = .ok (.iinc 4 1, 3) := by decide +kernel
theorem d_Md_init_249 : decode prog_8_method_1_code 249 = .ok (.goto (-63), 3) := by decide +kernel
theorem d_Md_init_252 : decode prog_8_method_1_code 252 = .ok (.aload_n 0, 1) := by decide +kernel
theorem d_Md_init_253 : decode prog_8_method_1_code 253 = .ok (.getfield 23, 3) := by decide +kernel
theorem d_Md_init_256 : decode prog_8_method_1_code 256 = .ok (.iconst 2, 1) := by decide +kernel
theorem d_Md_init_257 : decode prog_8_method_1_code 257 = .ok (.iconst (-1), 1) := by decide +kernel
theorem d_Md_init_258 : decode prog_8_method_1_code 258 = .ok (.iastore, 1) := by decide +kernel
theorem d_Md_init_259 : decode prog_8_method_1_code 259 = .ok (.aload_n 0, 1) := by decide +kernel
theorem d_Md_init_260 : decode prog_8_method_1_code 260 = .ok (.invokevirtual 72, 3) := by decide +kernel
theorem d_Md_init_263 : decode prog_8_method_1_code 263 = .ok (.return_, 1) := by decide +kernel
theorem d_Md_within_0 : decode prog_8_method_3_code 0 = .ok (.iload_n 0, 1) := by decide +kernel
theorem d_Md_within_1 : decode prog_8_method_3_code 1 = .ok (.iconst 1, 1) := by decide +kernel
theorem d_Md_within_2 : decode prog_8_method_3_code 2 = .ok (.if_icmp .ge 7, 3) := by decide +kernel
theorem d_Md_within_5 : decode prog_8_method_3_code 5 = .ok (.iconst 1, 1) := by decide +kernel
theorem d_Md_within_6 : decode prog_8_method_3_code 6 = .ok (.goto 15, 3) := by decide +kernel
theorem d_Md_within_9 : decode prog_8_method_3_code 9 = .ok (.iload_n 0, 1) := by decide +kernel
theorem d_Md_within_10 : decode prog_8_method_3_code 10 = .ok (.bipush 8, 2) := by decide +kernel
theorem d_Md_within_12 : decode prog_8_method_3_code 12 = .ok (.if_icmp .le 8, 3) := by decide +kernel
theorem d_Md_within_15 : decode prog_8_method_3_code 15 = .ok (.bipush 8, 2) := by decide +kernel
theorem d_Md_within_17 : decode prog_8_method_3_code 17 = .ok (.goto 4, 3) := by decide +kernel
theorem d_Md_within_20 : decode prog_8_method_3_code 20 = .ok (.iload_n 0, 1) := by decide +kernel
theorem d_Md_within_21 : decode prog_8_method_3_code 21 = .ok (.ireturn, 1) := by decide +kernel
theorem d_Md_cut_0 : decode prog_8_method_12_code 0 = .ok (.aload_n 0, 1) := by decide +kernel
theorem d_Md_cut_1 : decode prog_8_method_12_code 1 = .ok (.iconst 0, 1) := by decide +kernel
theorem d_Md_cut_2 : decode prog_8_method_12_code 2 = .ok (.putfield 94, 3) := by decide +kernel
theorem d_Md_cut_5 : decode prog_8_method_12_code 5 = .ok (.iconst 0, 1) := by decide +kernel
theorem d_Md_cut_6 : decode prog_8_method_12_code 6 = .ok (.istore_n 1, 1) := by decide +kernel
theorem d_Md_cut_7 : decode prog_8_method_12_code 7 = .ok (.iload_n 1, 1) := by decide +kernel
theorem d_Md_cut_8 : decode prog_8_method_12_code 8 = .ok (.bipush 12, 2) := by decide +kernel
theorem d_Md_cut_10 : decode prog_8_method_12_code 10 = .ok (.if_icmp .ge 72, 3) := by decide +kernel
theorem d_Md_cut_13 : decode prog_8_method_12_code 13 = .ok (.iload_n 1, 1) := by decide +kernel
theorem d_Md_cut_14 : decode prog_8_method_12_code 14 = .ok (.iconst 1, 1) := by decide +kernel
theorem d_Md_cut_15 : decode prog_8_method_12_code 15 = .ok (.iadd, 1) := by decide +kernel
theorem d_Md_cut_16 : decode prog_8_method_12_code 16 = .ok (.istore_n 2, 1) := by decide +kernel
theorem d_Md_cut_17 : decode prog_8_method_12_code 17 = .ok (.iload_n 2, 1) := by decide +kernel
theorem d_Md_cut_18 : decode prog_8_method_12_code 18 = .ok (.bipush 12, 2) := by decide +kernel
theorem d_Md_cut_20 : decode prog_8_method_12_code 20 = .ok (.if_icmp .ge 56, 3) := by decide +kernel
theorem d_Md_cut_23 : decode prog_8_method_12_code 23 = .ok (.iload_n 2, 1) := by decide +kernel
theorem d_Md_cut_24 : decode prog_8_method_12_code 24 = .ok (.iconst 1, 1) := by decide +kernel
theorem d_Md_cut_25 : decode prog_8_method_12_code 25 = .ok (.iadd, 1) := by decide +kernel
theorem d_Md_cut_26 : decode prog_8_method_12_code 26 = .ok (.istore_n 3, 1) := by decide +kernel
theorem d_Md_cut_27 : decode prog_8_method_12_code 27 = .ok (.iload_n 3, 1) := by decide +kernel
theorem d_Md_cut_28 : decode prog_8_method_12_code 28 = .ok (.bipush 12, 2) := by decide +kernel
theorem d_Md_cut_30 : decode prog_8_method_12_code 30 = .ok (.if_icmp .ge 40, 3) := by decide +kernel
theorem d_Md_cut_33 : decode prog_8_method_12_code 33 = .ok (.aload_n 0, 1) := by decide +kernel
theorem d_Md_cut_34 : decode prog_8_method_12_code 34 = .ok (.iload_n 1, 1) := by decide +kernel
theorem d_Md_cut_35 : decode prog_8_method_12_code 35 = .ok (.invokevirtual 100, 3) := by decide +kernel
theorem d_Md_cut_38 : decode prog_8_method_12_code 38 = .ok (.ifCond .eq 26, 3) := by decide +kernel
theorem d_Md_cut_41 : decode prog_8_method_12_code 41 = .ok (.aload_n 0, 1) := by decide +kernel
theorem d_Md_cut_42 : decode prog_8_method_12_code 42 = .ok (.iload_n 2, 1) := by decide +kernel
theorem d_Md_cut_43 : decode prog_8_method_12_code 43 = .ok (.invokevirtual 100, 3) := by decide +kernel
theorem d_Md_cut_46 : decode prog_8_method_12_code 46 = .ok (.ifCond .eq 18, 3) := by decide +kernel
theorem d_Md_cut_49 : decode prog_8_method_12_code 49 = .ok (.aload_n 0, 1) := by decide +kernel
theorem d_Md_cut_50 : decode prog_8_method_12_code 50 = .ok (.iload_n 3, 1) := by decide +kernel
theorem d_Md_cut_51 : decode prog_8_method_12_code 51 = .ok (.invokevirtual 100, 3) := by decide +kernel
theorem d_Md_cut_54 : decode prog_8_method_12_code 54 = .ok (.ifCond .eq 10, 3) := by decide +kernel
theorem d_Md_cut_57 : decode prog_8_method_12_code 57 = .ok (.aload_n 0, 1) := by decide +kernel
theorem d_Md_cut_58 : decode prog_8_method_12_code 58 = .ok (.iload_n 1, 1) := by decide +kernel
theorem d_Md_cut_59 : decode prog_8_method_12_code 59 = .ok (.iload_n 2, 1) := by decide +kernel
theorem d_Md_cut_60 : decode prog_8_method_12_code 60 = .ok (.iload_n 3, 1) := by decide +kernel
theorem d_Md_cut_61 : decode prog_8_method_12_code 61 = .ok (.invokevirtual 104, 3) := by decide +kernel
theorem d_Md_cut_64 : decode prog_8_method_12_code 64 = .ok (.iinc 3 1, 3) := by decide +kernel
theorem d_Md_cut_67 : decode prog_8_method_12_code 67 = .ok (.goto (-40), 3) := by decide +kernel
theorem d_Md_cut_70 : decode prog_8_method_12_code 70 = .ok (.iinc 2 1, 3) := by decide +kernel
theorem d_Md_cut_73 : decode prog_8_method_12_code 73 = .ok (.goto (-56), 3) := by decide +kernel
theorem d_Md_cut_76 : decode prog_8_method_12_code 76 = .ok (.iinc 1 1, 3) := by decide +kernel
theorem d_Md_cut_79 : decode prog_8_method_12_code 79 = .ok (.goto (-72), 3) := by decide +kernel
theorem d_Md_cut_82 : decode prog_8_method_12_code 82 = .ok (.iconst 0, 1) := by decide +kernel
theorem d_Md_cut_83 : decode prog_8_method_12_code 83 = .ok (.istore_n 1, 1) := by decide +kernel
theorem d_Md_cut_84 : decode prog_8_method_12_code 84 = .ok (.iload_n 1, 1) := by decide +kernel
theorem d_Md_cut_85 : decode prog_8_method_12_code 85 = .ok (.aload_n 0, 1) := by decide +kernel
theorem d_Md_cut_86 : decode prog_8_method_12_code 86 = .ok (.getfield 94, 3) := by decide +kernel
theorem d_Md_cut_89 : decode prog_8_method_12_code 89 = .ok (.if_icmp .ge 166, 3) := by decide +kernel
theorem d_Md_cut_92 : decode prog_8_method_12_code 92 = .ok (.aload_n 0, 1) := by decide +kernel
theorem d_Md_cut_93 : decode prog_8_method_12_code 93 = .ok (.getfield 29, 3) := by decide +kernel
theorem d_Md_cut_96 : decode prog_8_method_12_code 96 = .ok (.iload_n 1, 1) := by decide +kernel
theorem d_Md_cut_97 : decode prog_8_method_12_code 97 = .ok (.iconst 0, 1) := by decide +kernel
theorem d_Md_cut_98 : decode prog_8_method_12_code 98 = .ok (.iastore, 1) := by decide +kernel
theorem d_Md_cut_99 : decode prog_8_method_12_code 99 = .ok (.aload_n 0, 1) := by decide +kernel
theorem d_Md_cut_100 : decode prog_8_method_12_code 100 = .ok (.getfield 32, 3) := by decide +kernel
theorem d_Md_cut_103 : decode prog_8_method_12_code 103 = .ok (.iload_n 1, 1) := by decide +kernel
theorem d_Md_cut_104 : decode prog_8_method_12_code 104 = .ok (.iconst 0, 1) := by decide +kernel
theorem d_Md_cut_105 : decode prog_8_method_12_code 105 = .ok (.iastore, 1) := by decide +kernel
theorem d_Md_cut_106 : decode prog_8_method_12_code 106 = .ok (.aload_n 0, 1) := by decide +kernel
theorem d_Md_cut_107 : decode prog_8_method_12_code 107 = .ok (.getfield 35, 3) := by decide +kernel
theorem d_Md_cut_110 : decode prog_8_method_12_code 110 = .ok (.iload_n 1, 1) := by decide +kernel
theorem d_Md_cut_111 : decode prog_8_method_12_code 111 = .ok (.iconst 0, 1) := by decide +kernel
theorem d_Md_cut_112 : decode prog_8_method_12_code 112 = .ok (.iastore, 1) := by decide +kernel
theorem d_Md_cut_113 : decode prog_8_method_12_code 113 = .ok (.iconst 0, 1) := by decide +kernel
theorem d_Md_cut_114 : decode prog_8_method_12_code 114 = .ok (.istore_n 2, 1) := by decide +kernel
theorem d_Md_cut_115 : decode prog_8_method_12_code 115 = .ok (.iload_n 2, 1) := by decide +kernel
theorem d_Md_cut_116 : decode prog_8_method_12_code 116 = .ok (.bipush 12, 2) := by decide +kernel
theorem d_Md_cut_118 : decode prog_8_method_12_code 118 = .ok (.if_icmp .ge 131, 3) := by decide +kernel
theorem d_Md_cut_121 : decode prog_8_method_12_code 121 = .ok (.aload_n 0, 1) := by decide +kernel
theorem d_Md_cut_122 : decode prog_8_method_12_code 122 = .ok (.iload_n 2, 1) := by decide +kernel
theorem d_Md_cut_123 : decode prog_8_method_12_code 123 = .ok (.invokevirtual 100, 3) := by decide +kernel
theorem d_Md_cut_126 : decode prog_8_method_12_code 126 = .ok (.ifCond .eq 12, 3) := by decide +kernel
theorem d_Md_cut_129 : decode prog_8_method_12_code 129 = .ok (.aload_n 0, 1) := by decide +kernel
theorem d_Md_cut_130 : decode prog_8_method_12_code 130 = .ok (.iload_n 1, 1) := by decide +kernel
theorem d_Md_cut_131 : decode prog_8_method_12_code 131 = .ok (.iload_n 2, 1) := by decide +kernel
theorem d_Md_cut_132 : decode prog_8_method_12_code 132 = .ok (.invokevirtual 108, 3) := by decide +kernel
theorem d_Md_cut_135 : decode prog_8_method_12_code 135 = .ok (.goto 4, 3) := by decide +kernel
theorem d_Md_cut_138 : decode prog_8_method_12_code 138 = .ok (.iconst 1, 1) := by decide +kernel
theorem d_Md_cut_139 : decode prog_8_method_12_code 139 = .ok (.istore_n 3, 1) := by decide +kernel
theorem d_Md_cut_140 : decode prog_8_method_12_code 140 = .ok (.aload_n 0, 1) := by decide +kernel
theorem d_Md_cut_141 : decode prog_8_method_12_code 141 = .ok (.getfield 29, 3) := by decide +kernel
theorem d_Md_cut_144 : decode prog_8_method_12_code 144 = .ok (.iload_n 1, 1) := by decide +kernel
theorem d_Md_cut_145 : decode prog_8_method_12_code 145 = .ok (.iload_n 3, 1) := by decide +kernel
theorem d_Md_cut_146 : decode prog_8_method_12_code 146 = .ok (.ifCond .ne 16, 3) := by decide +kernel
theorem d_Md_cut_149 : decode prog_8_method_12_code 149 = .ok (.aload_n 0, 1) := by decide +kernel
theorem d_Md_cut_150 : decode prog_8_method_12_code 150 = .ok (.getfield 29, 3) := by decide +kernel
theorem d_Md_cut_153 : decode prog_8_method_12_code 153 = .ok (.iload_n 1, 1) := by decide +kernel
theorem d_Md_cut_154 : decode prog_8_method_12_code 154 = .ok (.iaload, 1) := by decide +kernel
theorem d_Md_cut_155 : decode prog_8_method_12_code 155 = .ok (.iconst 1, 1) := by decide +kernel
theorem d_Md_cut_156 : decode prog_8_method_12_code 156 = .ok (.iload_n 2, 1) := by decide +kernel
theorem d_Md_cut_157 : decode prog_8_method_12_code 157 = .ok (.ishl, 1) := by decide +kernel
theorem d_Md_cut_158 : decode prog_8_method_12_code 158 = .ok (.ior, 1) := by decide +kernel
theorem d_Md_cut_159 : decode prog_8_method_12_code 159 = .ok (.goto 9, 3) := by decide +kernel
theorem d_Md_cut_162 : decode prog_8_method_12_code 162 = .ok (.aload_n 0, 1) := by decide +kernel
theorem d_Md_cut_163 : decode prog_8_method_12_code 163 = .ok (.getfield 29, 3) := by decide +kernel
theorem d_Md_cut_166 : decode prog_8_method_12_code 166 = .ok (.iload_n 1, 1) := by decide +kernel
theorem d_Md_cut_167 : decode prog_8_method_12_code 167 = .ok (.iaload, 1) := by decide +kernel
theorem d_Md_cut_168 : decode prog_8_method_12_code 168 = .ok (.iastore, 1) := by decide +kernel
theorem d_Md_cut_169 : decode prog_8_method_12_code 169 = .ok (.aload_n 0, 1) := by decide +kernel
theorem d_Md_cut_170 : decode prog_8_method_12_code 170 = .ok (.getfield 32, 3) := by decide +kernel
theorem d_Md_cut_173 : decode prog_8_method_12_code 173 = .ok (.iload_n 1, 1) := by decide +kernel
theorem d_Md_cut_174 : decode prog_8_method_12_code 174 = .ok (.iload_n 3, 1) := by decide +kernel
theorem d_Md_cut_175 : decode prog_8_method_12_code 175 = .ok (.ifCond .le 24, 3) := by decide +kernel
theorem d_Md_cut_178 : decode prog_8_method_12_code 178 = .ok (.iload_n 2, 1) := by decide +kernel
theorem d_Md_cut_179 : decode prog_8_method_12_code 179 = .ok (.aload_n 0, 1) := by decide +kernel
theorem d_Md_cut_180 : decode prog_8_method_12_code 180 = .ok (.getfield 83, 3) := by decide +kernel
theorem d_Md_cut_183 : decode prog_8_method_12_code 183 = .ok (.if_icmp .ge 16, 3) := by decide +kernel
theorem d_Md_cut_186 : decode prog_8_method_12_code 186 = .ok (.aload_n 0, 1) := by decide +kernel
theorem d_Md_cut_187 : decode prog_8_method_12_code 187 = .ok (.getfield 32, 3) := by decide +kernel
theorem d_Md_cut_190 : decode prog_8_method_12_code 190 = .ok (.iload_n 1, 1) := by decide +kernel
theorem d_Md_cut_191 : decode prog_8_method_12_code 191 = .ok (.iaload, 1) := by decide +kernel
theorem d_Md_cut_192 : decode prog_8_method_12_code 192 = .ok (.iconst 1, 1) := by decide +kernel
theorem d_Md_cut_193 : decode prog_8_method_12_code 193 = .ok (.iload_n 2, 1) := by decide +kernel
theorem d_Md_cut_194 : decode prog_8_method_12_code 194 = .ok (.ishl, 1) := by decide +kernel
theorem d_Md_cut_195 : decode prog_8_method_12_code 195 = .ok (.ior, 1) := by decide +kernel
theorem d_Md_cut_196 : decode prog_8_method_12_code 196 = .ok (.goto 9, 3) := by decide +kernel
theorem d_Md_cut_199 : decode prog_8_method_12_code 199 = .ok (.aload_n 0, 1) := by decide +kernel
theorem d_Md_cut_200 : decode prog_8_method_12_code 200 = .ok (.getfield 32, 3) := by decide +kernel
theorem d_Md_cut_203 : decode prog_8_method_12_code 203 = .ok (.iload_n 1, 1) := by decide +kernel
theorem d_Md_cut_204 : decode prog_8_method_12_code 204 = .ok (.iaload, 1) := by decide +kernel
theorem d_Md_cut_205 : decode prog_8_method_12_code 205 = .ok (.iastore, 1) := by decide +kernel
theorem d_Md_cut_206 : decode prog_8_method_12_code 206 = .ok (.aload_n 0, 1) := by decide +kernel
theorem d_Md_cut_207 : decode prog_8_method_12_code 207 = .ok (.getfield 35, 3) := by decide +kernel
theorem d_Md_cut_210 : decode prog_8_method_12_code 210 = .ok (.iload_n 1, 1) := by decide +kernel
theorem d_Md_cut_211 : decode prog_8_method_12_code 211 = .ok (.iload_n 3, 1) := by decide +kernel
theorem d_Md_cut_212 : decode prog_8_method_12_code 212 = .ok (.ifCond .ge 24, 3) := by decide +kernel
theorem d_Md_cut_215 : decode prog_8_method_12_code 215 = .ok (.iload_n 2, 1) := by decide +kernel
theorem d_Md_cut_216 : decode prog_8_method_12_code 216 = .ok (.aload_n 0, 1) := by decide +kernel
theorem d_Md_cut_217 : decode prog_8_method_12_code 217 = .ok (.getfield 83, 3) := by decide +kernel
theorem d_Md_cut_220 : decode prog_8_method_12_code 220 = .ok (.if_icmp .ge 16, 3) := by decide +kernel
theorem d_Md_cut_223 : decode prog_8_method_12_code 223 = .ok (.aload_n 0, 1) := by decide +kernel
theorem d_Md_cut_224 : decode prog_8_method_12_code 224 = .ok (.getfield 35, 3) := by decide +kernel
theorem d_Md_cut_227 : decode prog_8_method_12_code 227 = .ok (.iload_n 1, 1) := by decide +kernel
theorem d_Md_cut_228 : decode prog_8_method_12_code 228 = .ok (.iaload, 1) := by decide +kernel
theorem d_Md_cut_229 : decode prog_8_method_12_code 229 = .ok (.iconst 1, 1) := by decide +kernel
theorem d_Md_cut_230 : decode prog_8_method_12_code 230 = .ok (.iload_n 2, 1) := by decide +kernel
theorem d_Md_cut_231 : decode prog_8_method_12_code 231 = .ok (.ishl, 1) := by decide +kernel
theorem d_Md_cut_232 : decode prog_8_method_12_code 232 = .ok (.ior, 1) := by decide +kernel
theorem d_Md_cut_233 : decode prog_8_method_12_code 233 = .ok (.goto 9, 3) := by decide +kernel
theorem d_Md_cut_236 : decode prog_8_method_12_code 236 = .ok (.aload_n 0, 1) := by decide +kernel
theorem d_Md_cut_237 : decode prog_8_method_12_code 237 = .ok (.getfield 35, 3) := by decide +kernel
theorem d_Md_cut_240 : decode prog_8_method_12_code 240 = .ok (.iload_n 1, 1) := by decide +kernel
theorem d_Md_cut_241 : decode prog_8_method_12_code 241 = .ok (.iaload, 1) := by decide +kernel
theorem d_Md_cut_242 : decode prog_8_method_12_code 242 = .ok (.iastore, 1) := by decide +kernel
theorem d_Md_cut_243 : decode prog_8_method_12_code 243 = .ok (.iinc 2 1, 3) := by decide +kernel
theorem d_Md_cut_246 : decode prog_8_method_12_code 246 = .ok (.goto (-131), 3) := by decide +kernel
theorem d_Md_cut_249 : decode prog_8_method_12_code 249 = .ok (.iinc 1 1, 3) := by decide +kernel
theorem d_Md_cut_252 : decode prog_8_method_12_code 252 = .ok (.goto (-168), 3) := by decide +kernel
theorem d_Md_cut_255 : decode prog_8_method_12_code 255 = .ok (.aload_n 0, 1) := by decide +kernel
theorem d_Md_cut_256 : decode prog_8_method_12_code 256 = .ok (.iconst 0, 1) := by decide +kernel
theorem d_Md_cut_257 : decode prog_8_method_12_code 257 = .ok (.putfield 111, 3) := by decide +kernel
theorem d_Md_cut_260 : decode prog_8_method_12_code 260 = .ok (.aload_n 0, 1) := by decide +kernel
theorem d_Md_cut_261 : decode prog_8_method_12_code 261 = .ok (.iconst 0, 1) := by decide +kernel
theorem d_Md_cut_262 : decode prog_8_method_12_code 262 = .ok (.putfield 114, 3) := by decide +kernel
theorem d_Md_cut_265 : decode prog_8_method_12_code 265 = .ok (.iconst 0, 1) := by decide +kernel
theorem d_Md_cut_266 : decode prog_8_method_12_code 266 = .ok (.istore_n 1, 1) := by decide +kernel
theorem d_Md_cut_267 : decode prog_8_method_12_code 267 = .ok (.iload_n 1, 1) := by decide +kernel
theorem d_Md_cut_268 : decode prog_8_method_12_code 268 = .ok (.iconst 1, 1) := by decide +kernel
theorem d_Md_cut_269 : decode prog_8_method_12_code 269 = .ok (.aload_n 0, 1) := by decide +kernel
theorem d_Md_cut_270 : decode prog_8_method_12_code 270 = .ok (.getfield 83, 3) := by decide +kernel
theorem d_Md_cut_273 : decode prog_8_method_12_code 273 = .ok (.ishl, 1) := by decide +kernel
theorem d_Md_cut_274 : decode prog_8_method_12_code 274 = .ok (.if_icmp .ge 66, 3) := by decide +kernel
theorem d_Md_cut_277 : decode prog_8_method_12_code 277 = .ok (.aload_n 0, 1) := by decide +kernel
theorem d_Md_cut_278 : decode prog_8_method_12_code 278 = .ok (.getfield 47, 3) := by decide +kernel
theorem d_Md_cut_281 : decode prog_8_method_12_code 281 = .ok (.aload_n 0, 1) := by decide +kernel
theorem d_Md_cut_282 : decode prog_8_method_12_code 282 = .ok (.getfield 111, 3) := by decide +kernel
theorem d_Md_cut_285 : decode prog_8_method_12_code 285 = .ok (.iconst 0, 1) := by decide +kernel
