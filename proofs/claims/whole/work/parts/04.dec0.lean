theorem d_WP_init_0 : decode prog_1_method_1_code 0 = .ok (.aload_n 0, 1) := by decide +kernel
theorem d_WP_init_1 : decode prog_1_method_1_code 1 = .ok (.invokespecial 3, 3) := by decide +kernel
theorem d_WP_init_4 : decode prog_1_method_1_code 4 = .ok (.aload_n 0, 1) := by decide +kernel
theorem d_WP_init_5 : decode prog_1_method_1_code 5 = .ok (.new 9, 3) := by decide +kernel
theorem d_WP_init_8 : decode prog_1_method_1_code 8 = .ok (.dup, 1) := by decide +kernel
theorem d_WP_init_9 : decode prog_1_method_1_code 9 = .ok (.invokespecial 11, 3) := by decide +kernel
theorem d_WP_init_12 : decode prog_1_method_1_code 12 = .ok (.putfield 12, 3) := by decide +kernel
theorem d_WP_init_15 : decode prog_1_method_1_code 15 = .ok (.aload_n 0, 1) := by decide +kernel
theorem d_WP_init_16 : decode prog_1_method_1_code 16 = .ok (.bipush 8, 2) := by decide +kernel
theorem d_WP_init_18 : decode prog_1_method_1_code 18 = .ok (.anewarray 16, 3) := by decide +kernel
theorem d_WP_init_21 : decode prog_1_method_1_code 21 = .ok (.putfield 18, 3) := by decide +kernel
theorem d_WP_init_24 : decode prog_1_method_1_code 24 = .ok (.aload_n 0, 1) := by decide +kernel
theorem d_WP_init_25 : decode prog_1_method_1_code 25 = .ok (.new 16, 3) := by decide +kernel
theorem d_WP_init_28 : decode prog_1_method_1_code 28 = .ok (.dup, 1) := by decide +kernel
theorem d_WP_init_29 : decode prog_1_method_1_code 29 = .ok (.invokespecial 22, 3) := by decide +kernel
theorem d_WP_init_32 : decode prog_1_method_1_code 32 = .ok (.putfield 23, 3) := by decide +kernel
theorem d_WP_init_35 : decode prog_1_method_1_code 35 = .ok (.aload_n 0, 1) := by decide +kernel
theorem d_WP_init_36 : decode prog_1_method_1_code 36 = .ok (.bipush 64, 2) := by decide +kernel
theorem d_WP_init_38 : decode prog_1_method_1_code 38 = .ok (.newarray .boolean, 2) := by decide +kernel
theorem d_WP_init_40 : decode prog_1_method_1_code 40 = .ok (.putfield 27, 3) := by decide +kernel
theorem d_WP_init_43 : decode prog_1_method_1_code 43 = .ok (.aload_n 0, 1) := by decide +kernel
theorem d_WP_init_44 : decode prog_1_method_1_code 44 = .ok (.bipush 64, 2) := by decide +kernel
theorem d_WP_init_46 : decode prog_1_method_1_code 46 = .ok (.newarray .int, 2) := by decide +kernel
theorem d_WP_init_48 : decode prog_1_method_1_code 48 = .ok (.putfield 31, 3) := by decide +kernel
theorem d_WP_init_51 : decode prog_1_method_1_code 51 = .ok (.aload_n 0, 1) := by decide +kernel
theorem d_WP_init_52 : decode prog_1_method_1_code 52 = .ok (.bipush 64, 2) := by decide +kernel
theorem d_WP_init_54 : decode prog_1_method_1_code 54 = .ok (.newarray .int, 2) := by decide +kernel
theorem d_WP_init_56 : decode prog_1_method_1_code 56 = .ok (.putfield 35, 3) := by decide +kernel
theorem d_WP_init_59 : decode prog_1_method_1_code 59 = .ok (.aload_n 0, 1) := by decide +kernel
theorem d_WP_init_60 : decode prog_1_method_1_code 60 = .ok (.iconst 0, 1) := by decide +kernel
theorem d_WP_init_61 : decode prog_1_method_1_code 61 = .ok (.putfield 38, 3) := by decide +kernel
theorem d_WP_init_64 : decode prog_1_method_1_code 64 = .ok (.aload_n 0, 1) := by decide +kernel
theorem d_WP_init_65 : decode prog_1_method_1_code 65 = .ok (.iconst 0, 1) := by decide +kernel
theorem d_WP_init_66 : decode prog_1_method_1_code 66 = .ok (.putfield 42, 3) := by decide +kernel
theorem d_WP_init_69 : decode prog_1_method_1_code 69 = .ok (.aload_n 0, 1) := by decide +kernel
theorem d_WP_init_70 : decode prog_1_method_1_code 70 = .ok (.iconst 0, 1) := by decide +kernel
theorem d_WP_init_71 : decode prog_1_method_1_code 71 = .ok (.putfield 45, 3) := by decide +kernel
theorem d_WP_init_74 : decode prog_1_method_1_code 74 = .ok (.aload_n 0, 1) := by decide +kernel
theorem d_WP_init_75 : decode prog_1_method_1_code 75 = .ok (.new 48, 3) := by decide +kernel
theorem d_WP_init_78 : decode prog_1_method_1_code 78 = .ok (.dup, 1) := by decide +kernel
theorem d_WP_init_79 : decode prog_1_method_1_code 79 = .ok (.iload_n 1, 1) := by decide +kernel
theorem d_WP_init_80 : decode prog_1_method_1_code 80 = .ok (.invokestatic 50, 3) := by decide +kernel
theorem d_WP_init_83 : decode prog_1_method_1_code 83 = .ok (.iload_n 2, 1) := by decide +kernel
theorem d_WP_init_84 : decode prog_1_method_1_code 84 = .ok (.invokestatic 50, 3) := by decide +kernel
theorem d_WP_init_87 : decode prog_1_method_1_code 87 = .ok (.iload_n 3, 1) := by decide +kernel
theorem d_WP_init_88 : decode prog_1_method_1_code 88 = .ok (.invokestatic 50, 3) := by decide +kernel
theorem d_WP_init_91 : decode prog_1_method_1_code 91 = .ok (.invokespecial 54, 3) := by decide +kernel
theorem d_WP_init_94 : decode prog_1_method_1_code 94 = .ok (.putfield 57, 3) := by decide +kernel
theorem d_WP_init_97 : decode prog_1_method_1_code 97 = .ok (.iconst 0, 1) := by decide +kernel
theorem d_WP_init_98 : decode prog_1_method_1_code 98 = .ok (.istore 4, 2) := by decide +kernel
theorem d_WP_init_100 : decode prog_1_method_1_code 100 = .ok (.iload 4, 2) := by decide +kernel
theorem d_WP_init_102 : decode prog_1_method_1_code 102 = .ok (.bipush 8, 2) := by decide +kernel
theorem d_WP_init_104 : decode prog_1_method_1_code 104 = .ok (.if_icmp .ge 23, 3) := by decide +kernel
theorem d_WP_init_107 : decode prog_1_method_1_code 107 = .ok (.aload_n 0, 1) := by decide +kernel
theorem d_WP_init_108 : decode prog_1_method_1_code 108 = .ok (.getfield 18, 3) := by decide +kernel
theorem d_WP_init_111 : decode prog_1_method_1_code 111 = .ok (.iload 4, 2) := by decide +kernel
theorem d_WP_init_113 : decode prog_1_method_1_code 113 = .ok (.new 16, 3) := by decide +kernel
theorem d_WP_init_116 : decode prog_1_method_1_code 116 = .ok (.dup, 1) := by decide +kernel
theorem d_WP_init_117 : decode prog_1_method_1_code 117 = .ok (.invokespecial 22, 3) := by decide +kernel
theorem d_WP_init_120 : decode prog_1_method_1_code 120 = .ok (.aastore, 1) := by decide +kernel
theorem d_WP_init_121 : decode prog_1_method_1_code 121 = .ok (.iinc 4 1, 3) := by decide +kernel
theorem d_WP_init_124 : decode prog_1_method_1_code 124 = .ok (.goto (-24), 3) := by decide +kernel
theorem d_WP_init_127 : decode prog_1_method_1_code 127 = .ok (.aload_n 0, 1) := by decide +kernel
theorem d_WP_init_128 : decode prog_1_method_1_code 128 = .ok (.getfield 23, 3) := by decide +kernel
theorem d_WP_init_131 : decode prog_1_method_1_code 131 = .ok (.iconst 0, 1) := by decide +kernel
theorem d_WP_init_132 : decode prog_1_method_1_code 132 = .ok (.iconst 0, 1) := by decide +kernel
theorem d_WP_init_133 : decode prog_1_method_1_code 133 = .ok (.iconst (-1), 1) := by decide +kernel
theorem d_WP_init_134 : decode prog_1_method_1_code 134 = .ok (.invokevirtual 61, 3) := by decide +kernel
theorem d_WP_init_137 : decode prog_1_method_1_code 137 = .ok (.return_, 1) := by decide +kernel
theorem d_Hold_init_0 : decode prog_3_method_1_code 0 = .ok (.aload_n 0, 1) := by decide +kernel
theorem d_Hold_init_1 : decode prog_3_method_1_code 1 = .ok (.invokespecial 3, 3) := by decide +kernel
theorem d_Hold_init_4 : decode prog_3_method_1_code 4 = .ok (.aload_n 0, 1) := by decide +kernel
theorem d_Hold_init_5 : decode prog_3_method_1_code 5 = .ok (.bipush 12, 2) := by decide +kernel
theorem d_Hold_init_7 : decode prog_3_method_1_code 7 = .ok (.anewarray 9, 3) := by decide +kernel
theorem d_Hold_init_10 : decode prog_3_method_1_code 10 = .ok (.putfield 11, 3) := by decide +kernel
theorem d_Hold_init_13 : decode prog_3_method_1_code 13 = .ok (.aload_n 0, 1) := by decide +kernel
theorem d_Hold_init_14 : decode prog_3_method_1_code 14 = .ok (.bipush 12, 2) := by decide +kernel
theorem d_Hold_init_16 : decode prog_3_method_1_code 16 = .ok (.anewarray 9, 3) := by decide +kernel
theorem d_Hold_init_19 : decode prog_3_method_1_code 19 = .ok (.putfield 17, 3) := by decide +kernel
theorem d_Hold_init_22 : decode prog_3_method_1_code 22 = .ok (.aload_n 0, 1) := by decide +kernel
theorem d_Hold_init_23 : decode prog_3_method_1_code 23 = .ok (.new 9, 3) := by decide +kernel
theorem d_Hold_init_26 : decode prog_3_method_1_code 26 = .ok (.dup, 1) := by decide +kernel
theorem d_Hold_init_27 : decode prog_3_method_1_code 27 = .ok (.invokespecial 20, 3) := by decide +kernel
theorem d_Hold_init_30 : decode prog_3_method_1_code 30 = .ok (.putfield 21, 3) := by decide +kernel
theorem d_Hold_init_33 : decode prog_3_method_1_code 33 = .ok (.aload_n 0, 1) := by decide +kernel
theorem d_Hold_init_34 : decode prog_3_method_1_code 34 = .ok (.iconst 0, 1) := by decide +kernel
theorem d_Hold_init_35 : decode prog_3_method_1_code 35 = .ok (.putfield 25, 3) := by decide +kernel
theorem d_Hold_init_38 : decode prog_3_method_1_code 38 = .ok (.iconst 0, 1) := by decide +kernel
theorem d_Hold_init_39 : decode prog_3_method_1_code 39 = .ok (.istore_n 1, 1) := by decide +kernel
theorem d_Hold_init_40 : decode prog_3_method_1_code 40 = .ok (.iload_n 1, 1) := by decide +kernel
theorem d_Hold_init_41 : decode prog_3_method_1_code 41 = .ok (.bipush 12, 2) := by decide +kernel
theorem d_Hold_init_43 : decode prog_3_method_1_code 43 = .ok (.if_icmp .ge 35, 3) := by decide +kernel
theorem d_Hold_init_46 : decode prog_3_method_1_code 46 = .ok (.aload_n 0, 1) := by decide +kernel
theorem d_Hold_init_47 : decode prog_3_method_1_code 47 = .ok (.getfield 11, 3) := by decide +kernel
theorem d_Hold_init_50 : decode prog_3_method_1_code 50 = .ok (.iload_n 1, 1) := by decide +kernel
theorem d_Hold_init_51 : decode prog_3_method_1_code 51 = .ok (.new 9, 3) := by decide +kernel
theorem d_Hold_init_54 : decode prog_3_method_1_code 54 = .ok (.dup, 1) := by decide +kernel
theorem d_Hold_init_55 : decode prog_3_method_1_code 55 = .ok (.invokespecial 20, 3) := by decide +kernel
theorem d_Hold_init_58 : decode prog_3_method_1_code 58 = .ok (.aastore, 1) := by decide +kernel
theorem d_Hold_init_59 : decode prog_3_method_1_code 59 = .ok (.aload_n 0, 1) := by decide +kernel
theorem d_Hold_init_60 : decode prog_3_method_1_code 60 = .ok (.getfield 17, 3) := by decide +kernel
theorem d_Hold_init_63 : decode prog_3_method_1_code 63 = .ok (.iload_n 1, 1) := by decide +kernel
theorem d_Hold_init_64 : decode prog_3_method_1_code 64 = .ok (.new 9, 3) := by decide +kernel
theorem d_Hold_init_67 : decode prog_3_method_1_code 67 = .ok (.dup, 1) := by decide +kernel
theorem d_Hold_init_68 : decode prog_3_method_1_code 68 = .ok (.invokespecial 20, 3) := by decide +kernel
theorem d_Hold_init_71 : decode prog_3_method_1_code 71 = .ok (.aastore, 1) := by decide +kernel
theorem d_Hold_init_72 : decode prog_3_method_1_code 72 = .ok (.iinc 1 1, 3) := by decide +kernel
theorem d_Hold_init_75 : decode prog_3_method_1_code 75 = .ok (.goto (-35), 3) := by decide +kernel
theorem d_Hold_init_78 : decode prog_3_method_1_code 78 = .ok (.return_, 1) := by decide +kernel
theorem d_Arrow_init_0 : decode prog_2_method_1_code 0 = .ok (.aload_n 0, 1) := by decide +kernel
theorem d_Arrow_init_1 : decode prog_2_method_1_code 1 = .ok (.invokespecial 1, 3) := by decide +kernel
theorem d_Arrow_init_4 : decode prog_2_method_1_code 4 = .ok (.aload_n 0, 1) := by decide +kernel
theorem d_Arrow_init_5 : decode prog_2_method_1_code 5 = .ok (.iconst 0, 1) := by decide +kernel
theorem d_Arrow_init_6 : decode prog_2_method_1_code 6 = .ok (.putfield 7, 3) := by decide +kernel
theorem d_Arrow_init_9 : decode prog_2_method_1_code 9 = .ok (.aload_n 0, 1) := by decide +kernel
theorem d_Arrow_init_10 : decode prog_2_method_1_code 10 = .ok (.iconst 0, 1) := by decide +kernel
theorem d_Arrow_init_11 : decode prog_2_method_1_code 11 = .ok (.putfield 13, 3) := by decide +kernel
theorem d_Arrow_init_14 : decode prog_2_method_1_code 14 = .ok (.aload_n 0, 1) := by decide +kernel
theorem d_Arrow_init_15 : decode prog_2_method_1_code 15 = .ok (.iconst 0, 1) := by decide +kernel
theorem d_Arrow_init_16 : decode prog_2_method_1_code 16 = .ok (.putfield 16, 3) := by decide +kernel
theorem d_Arrow_init_19 : decode prog_2_method_1_code 19 = .ok (.return_, 1) := by decide +kernel
theorem d_WP_sizeFor_0 : decode prog_1_method_19_code 0 = .ok (.iconst 1, 1) := by decide +kernel
theorem d_WP_sizeFor_1 : decode prog_1_method_19_code 1 = .ok (.bipush 8, 2) := by decide +kernel
theorem d_WP_sizeFor_3 : decode prog_1_method_19_code 3 = .ok (.iload_n 0, 1) := by decide +kernel
theorem d_WP_sizeFor_4 : decode prog_1_method_19_code 4 = .ok (.invokestatic 201, 3) := by decide +kernel
theorem d_WP_sizeFor_7 : decode prog_1_method_19_code 7 = .ok (.invokestatic 206, 3) := by decide +kernel
theorem d_WP_sizeFor_10 : decode prog_1_method_19_code 10 = .ok (.ireturn, 1) := by decide +kernel
theorem d_Math_min_0 : decode prog_14_method_69_code 0 = .ok (.iload_n 0, 1) := by decide +kernel
theorem d_Math_min_1 : decode prog_14_method_69_code 1 = .ok (.iload_n 1, 1) := by decide +kernel
theorem d_Math_min_2 : decode prog_14_method_69_code 2 = .ok (.if_icmp .gt 7, 3) := by decide +kernel
theorem d_Math_min_5 : decode prog_14_method_69_code 5 = .ok (.iload_n 0, 1) := by decide +kernel
theorem d_Math_min_6 : decode prog_14_method_69_code 6 = .ok (.goto 4, 3) := by decide +kernel
theorem d_Math_min_9 : decode prog_14_method_69_code 9 = .ok (.iload_n 1, 1) := by decide +kernel
theorem d_Math_min_10 : decode prog_14_method_69_code 10 = .ok (.ireturn, 1) := by decide +kernel
theorem d_Math_max_0 : decode prog_14_method_65_code 0 = .ok (.iload_n 0, 1) := by decide +kernel
theorem d_Math_max_1 : decode prog_14_method_65_code 1 = .ok (.iload_n 1, 1) := by decide +kernel
theorem d_Math_max_2 : decode prog_14_method_65_code 2 = .ok (.if_icmp .lt 7, 3) := by decide +kernel
theorem d_Math_max_5 : decode prog_14_method_65_code 5 = .ok (.iload_n 0, 1) := by decide +kernel
theorem d_Math_max_6 : decode prog_14_method_65_code 6 = .ok (.goto 4, 3) := by decide +kernel
theorem d_Math_max_9 : decode prog_14_method_65_code 9 = .ok (.iload_n 1, 1) := by decide +kernel
theorem d_Math_max_10 : decode prog_14_method_65_code 10 = .ok (.ireturn, 1) := by decide +kernel
theorem d_Rock_init_0 : decode prog_6_method_1_code 0 = .ok (.aload_n 0, 1) := by decide +kernel
theorem d_Rock_init_1 : decode prog_6_method_1_code 1 = .ok (.invokespecial 3, 3) := by decide +kernel
theorem d_Rock_init_4 : decode prog_6_method_1_code 4 = .ok (.aload_n 0, 1) := by decide +kernel
theorem d_Rock_init_5 : decode prog_6_method_1_code 5 = .ok (.bipush 12, 2) := by decide +kernel
theorem d_Rock_init_7 : decode prog_6_method_1_code 7 = .ok (.anewarray 9, 3) := by decide +kernel
theorem d_Rock_init_10 : decode prog_6_method_1_code 10 = .ok (.putfield 11, 3) := by decide +kernel
theorem d_Rock_init_13 : decode prog_6_method_1_code 13 = .ok (.aload_n 0, 1) := by decide +kernel
theorem d_Rock_init_14 : decode prog_6_method_1_code 14 = .ok (.new 17, 3) := by decide +kernel
theorem d_Rock_init_17 : decode prog_6_method_1_code 17 = .ok (.dup, 1) := by decide +kernel
theorem d_Rock_init_18 : decode prog_6_method_1_code 18 = .ok (.invokespecial 19, 3) := by decide +kernel
theorem d_Rock_init_21 : decode prog_6_method_1_code 21 = .ok (.putfield 20, 3) := by decide +kernel
theorem d_Rock_init_24 : decode prog_6_method_1_code 24 = .ok (.aload_n 0, 1) := by decide +kernel
theorem d_Rock_init_25 : decode prog_6_method_1_code 25 = .ok (.bipush 64, 2) := by decide +kernel
theorem d_Rock_init_27 : decode prog_6_method_1_code 27 = .ok (.newarray .int, 2) := by decide +kernel
theorem d_Rock_init_29 : decode prog_6_method_1_code 29 = .ok (.putfield 24, 3) := by decide +kernel
theorem d_Rock_init_32 : decode prog_6_method_1_code 32 = .ok (.aload_n 0, 1) := by decide +kernel
theorem d_Rock_init_33 : decode prog_6_method_1_code 33 = .ok (.bipush 64, 2) := by decide +kernel
theorem d_Rock_init_35 : decode prog_6_method_1_code 35 = .ok (.newarray .int, 2) := by decide +kernel
theorem d_Rock_init_37 : decode prog_6_method_1_code 37 = .ok (.putfield 28, 3) := by decide +kernel
theorem d_Rock_init_40 : decode prog_6_method_1_code 40 = .ok (.aload_n 0, 1) := by decide +kernel
theorem d_Rock_init_41 : decode prog_6_method_1_code 41 = .ok (.bipush 64, 2) := by decide +kernel
theorem d_Rock_init_43 : decode prog_6_method_1_code 43 = .ok (.newarray .int, 2) := by decide +kernel
theorem d_Rock_init_45 : decode prog_6_method_1_code 45 = .ok (.putfield 31, 3) := by decide +kernel
theorem d_Rock_init_48 : decode prog_6_method_1_code 48 = .ok (.aload_n 0, 1) := by decide +kernel
theorem d_Rock_init_49 : decode prog_6_method_1_code 49 = .ok (.bipush 64, 2) := by decide +kernel
theorem d_Rock_init_51 : decode prog_6_method_1_code 51 = .ok (.newarray .int, 2) := by decide +kernel
theorem d_Rock_init_53 : decode prog_6_method_1_code 53 = .ok (.putfield 34, 3) := by decide +kernel
theorem d_Rock_init_56 : decode prog_6_method_1_code 56 = .ok (.aload_n 0, 1) := by decide +kernel
theorem d_Rock_init_57 : decode prog_6_method_1_code 57 = .ok (.iconst 0, 1) := by decide +kernel
theorem d_Rock_init_58 : decode prog_6_method_1_code 58 = .ok (.putfield 37, 3) := by decide +kernel
theorem d_Rock_init_61 : decode prog_6_method_1_code 61 = .ok (.aload_n 0, 1) := by decide +kernel
theorem d_Rock_init_62 : decode prog_6_method_1_code 62 = .ok (.iconst 0, 1) := by decide +kernel
theorem d_Rock_init_63 : decode prog_6_method_1_code 63 = .ok (.putfield 41, 3) := by decide +kernel
theorem d_Rock_init_66 : decode prog_6_method_1_code 66 = .ok (.aload_n 0, 1) := by decide +kernel
theorem d_Rock_init_67 : decode prog_6_method_1_code 67 = .ok (.bipush 6, 2) := by decide +kernel
theorem d_Rock_init_69 : decode prog_6_method_1_code 69 = .ok (.newarray .int, 2) := by decide +kernel
theorem d_Rock_init_71 : decode prog_6_method_1_code 71 = .ok (.putfield 44, 3) := by decide +kernel
theorem d_Rock_init_74 : decode prog_6_method_1_code 74 = .ok (.aload_n 0, 1) := by decide +kernel
theorem d_Rock_init_75 : decode prog_6_method_1_code 75 = .ok (.sipush 220, 3) := by decide +kernel
theorem d_Rock_init_78 : decode prog_6_method_1_code 78 = .ok (.newarray .int, 2) := by decide +kernel
theorem d_Rock_init_80 : decode prog_6_method_1_code 80 = .ok (.putfield 47, 3) := by decide +kernel
theorem d_Rock_init_83 : decode prog_6_method_1_code 83 = .ok (.aload_n 0, 1) := by decide +kernel
theorem d_Rock_init_84 : decode prog_6_method_1_code 84 = .ok (.new 50, 3) := by decide +kernel
theorem d_Rock_init_87 : decode prog_6_method_1_code 87 = .ok (.dup, 1) := by decide +kernel
theorem d_Rock_init_88 : decode prog_6_method_1_code 88 = .ok (.invokespecial 52, 3) := by decide +kernel
theorem d_Rock_init_91 : decode prog_6_method_1_code 91 = .ok (.putfield 53, 3) := by decide +kernel
theorem d_Rock_init_94 : decode prog_6_method_1_code 94 = .ok (.aload_n 0, 1) := by decide +kernel
theorem d_Rock_init_95 : decode prog_6_method_1_code 95 = .ok (.new 50, 3) := by decide +kernel
theorem d_Rock_init_98 : decode prog_6_method_1_code 98 = .ok (.dup, 1) := by decide +kernel
theorem d_Rock_init_99 : decode prog_6_method_1_code 99 = .ok (.invokespecial 52, 3) := by decide +kernel
theorem d_Rock_init_102 : decode prog_6_method_1_code 102 = .ok (.putfield 57, 3) := by decide +kernel
theorem d_Rock_init_105 : decode prog_6_method_1_code 105 = .ok (.aload_n 0, 1) := by decide +kernel
theorem d_Rock_init_106 : decode prog_6_method_1_code 106 = .ok (.new 50, 3) := by decide +kernel
theorem d_Rock_init_109 : decode prog_6_method_1_code 109 = .ok (.dup, 1) := by decide +kernel
theorem d_Rock_init_110 : decode prog_6_method_1_code 110 = .ok (.invokespecial 52, 3) := by decide +kernel
theorem d_Rock_init_113 : decode prog_6_method_1_code 113 = .ok (.putfield 60, 3) := by decide +kernel
theorem d_Rock_init_116 : decode prog_6_method_1_code 116 = .ok (.aload_n 0, 1) := by decide +kernel
theorem d_Rock_init_117 : decode prog_6_method_1_code 117 = .ok (.iconst 0, 1) := by decide +kernel
theorem d_Rock_init_118 : decode prog_6_method_1_code 118 = .ok (.putfield 63, 3) := by decide +kernel
theorem d_Rock_init_121 : decode prog_6_method_1_code 121 = .ok (.aload_n 0, 1) := by decide +kernel
theorem d_Rock_init_122 : decode prog_6_method_1_code 122 = .ok (.iload_n 1, 1) := by decide +kernel
theorem d_Rock_init_123 : decode prog_6_method_1_code 123 = .ok (.putfield 66, 3) := by decide +kernel
theorem d_Rock_init_126 : decode prog_6_method_1_code 126 = .ok (.aload_n 0, 1) := by decide +kernel
theorem d_Rock_init_127 : decode prog_6_method_1_code 127 = .ok (.iload_n 2, 1) := by decide +kernel
theorem d_Rock_init_128 : decode prog_6_method_1_code 128 = .ok (.putfield 69, 3) := by decide +kernel
theorem d_Rock_init_131 : decode prog_6_method_1_code 131 = .ok (.aload_n 0, 1) := by decide +kernel
theorem d_Rock_init_132 : decode prog_6_method_1_code 132 = .ok (.iload_n 3, 1) := by decide +kernel
theorem d_Rock_init_133 : decode prog_6_method_1_code 133 = .ok (.putfield 72, 3) := by decide +kernel
theorem d_Rock_init_136 : decode prog_6_method_1_code 136 = .ok (.iconst 0, 1) := by decide +kernel
theorem d_Rock_init_137 : decode prog_6_method_1_code 137 = .ok (.istore 4, 2) := by decide +kernel
theorem d_Rock_init_139 : decode prog_6_method_1_code 139 = .ok (.iload 4, 2) := by decide +kernel
theorem d_Rock_init_141 : decode prog_6_method_1_code 141 = .ok (.bipush 12, 2) := by decide +kernel
theorem d_Rock_init_143 : decode prog_6_method_1_code 143 = .ok (.if_icmp .ge 23, 3) := by decide +kernel
theorem d_Rock_init_146 : decode prog_6_method_1_code 146 = .ok (.aload_n 0, 1) := by decide +kernel
theorem d_Rock_init_147 : decode prog_6_method_1_code 147 = .ok (.getfield 11, 3) := by decide +kernel
theorem d_Rock_init_150 : decode prog_6_method_1_code 150 = .ok (.iload 4, 2) := by decide +kernel
theorem d_Rock_init_152 : decode prog_6_method_1_code 152 = .ok (.new 9, 3) := by decide +kernel
theorem d_Rock_init_155 : decode prog_6_method_1_code 155 = .ok (.dup, 1) := by decide +kernel
theorem d_Rock_init_156 : decode prog_6_method_1_code 156 = .ok (.invokespecial 75, 3) := by decide +kernel
theorem d_Rock_init_159 : decode prog_6_method_1_code 159 = .ok (.aastore, 1) := by decide +kernel
theorem d_Rock_init_160 : decode prog_6_method_1_code 160 = .ok (.iinc 4 1, 3) := by decide +kernel
theorem d_Rock_init_163 : decode prog_6_method_1_code 163 = .ok (.goto (-24), 3) := by decide +kernel
theorem d_Rock_init_166 : decode prog_6_method_1_code 166 = .ok (.aload_n 0, 1) := by decide +kernel
theorem d_Rock_init_167 : decode prog_6_method_1_code 167 = .ok (.getfield 11, 3) := by decide +kernel
theorem d_Rock_init_170 : decode prog_6_method_1_code 170 = .ok (.bipush 6, 2) := by decide +kernel
theorem d_Rock_init_172 : decode prog_6_method_1_code 172 = .ok (.aaload, 1) := by decide +kernel
theorem d_Rock_init_173 : decode prog_6_method_1_code 173 = .ok (.iconst 1, 1) := by decide +kernel
theorem d_Rock_init_174 : decode prog_6_method_1_code 174 = .ok (.iconst 0, 1) := by decide +kernel
theorem d_Rock_init_175 : decode prog_6_method_1_code 175 = .ok (.iconst 0, 1) := by decide +kernel
theorem d_Rock_init_176 : decode prog_6_method_1_code 176 = .ok (.iconst 0, 1) := by decide +kernel
theorem d_Rock_init_177 : decode prog_6_method_1_code 177 = .ok (.invokevirtual 76, 3) := by decide +kernel
theorem d_Rock_init_180 : decode prog_6_method_1_code 180 = .ok (.aload_n 0, 1) := by decide +kernel
theorem d_Rock_init_181 : decode prog_6_method_1_code 181 = .ok (.getfield 11, 3) := by decide +kernel
theorem d_Rock_init_184 : decode prog_6_method_1_code 184 = .ok (.bipush 7, 2) := by decide +kernel
theorem d_Rock_init_186 : decode prog_6_method_1_code 186 = .ok (.aaload, 1) := by decide +kernel
theorem d_Rock_init_187 : decode prog_6_method_1_code 187 = .ok (.iconst 1, 1) := by decide +kernel
theorem d_Rock_init_188 : decode prog_6_method_1_code 188 = .ok (.iconst 0, 1) := by decide +kernel
theorem d_Rock_init_189 : decode prog_6_method_1_code 189 = .ok (.iconst 0, 1) := by decide +kernel
theorem d_Rock_init_190 : decode prog_6_method_1_code 190 = .ok (.iload_n 1, 1) := by decide +kernel
theorem d_Rock_init_191 : decode prog_6_method_1_code 191 = .ok (.invokevirtual 76, 3) := by decide +kernel
theorem d_Rock_init_194 : decode prog_6_method_1_code 194 = .ok (.aload_n 0, 1) := by decide +kernel
theorem d_Rock_init_195 : decode prog_6_method_1_code 195 = .ok (.getfield 11, 3) := by decide +kernel
theorem d_Rock_init_198 : decode prog_6_method_1_code 198 = .ok (.bipush 8, 2) := by decide +kernel
theorem d_Rock_init_200 : decode prog_6_method_1_code 200 = .ok (.aaload, 1) := by decide +kernel
theorem d_Rock_init_201 : decode prog_6_method_1_code 201 = .ok (.iconst 0, 1) := by decide +kernel
theorem d_Rock_init_202 : decode prog_6_method_1_code 202 = .ok (.iconst 1, 1) := by decide +kernel
theorem d_Rock_init_203 : decode prog_6_method_1_code 203 = .ok (.iconst 0, 1) := by decide +kernel
theorem d_Rock_init_204 : decode prog_6_method_1_code 204 = .ok (.iconst 0, 1) := by decide +kernel
theorem d_Rock_init_205 : decode prog_6_method_1_code 205 = .ok (.invokevirtual 76, 3) := by decide +kernel
theorem d_Rock_init_208 : decode prog_6_method_1_code 208 = .ok (.aload_n 0, 1) := by decide +kernel
theorem d_Rock_init_209 : decode prog_6_method_1_code 209 = .ok (.getfield 11, 3) := by decide +kernel
theorem d_Rock_init_212 : decode prog_6_method_1_code 212 = .ok (.bipush 9, 2) := by decide +kernel
theorem d_Rock_init_214 : decode prog_6_method_1_code 214 = .ok (.aaload, 1) := by decide +kernel
theorem d_Rock_init_215 : decode prog_6_method_1_code 215 = .ok (.iconst 0, 1) := by decide +kernel
theorem d_Rock_init_216 : decode prog_6_method_1_code 216 = .ok (.iconst 1, 1) := by decide +kernel
theorem d_Rock_init_217 : decode prog_6_method_1_code 217 = .ok (.iconst 0, 1) := by decide +kernel
theorem d_Rock_init_218 : decode prog_6_method_1_code 218 = .ok (.iload_n 2, 1) := by decide +kernel
theorem d_Rock_init_219 : decode prog_6_method_1_code 219 = .ok (.invokevirtual 76, 3) := by decide +kernel
theorem d_Rock_init_222 : decode prog_6_method_1_code 222 = .ok (.aload_n 0, 1) := by decide +kernel
theorem d_Rock_init_223 : decode prog_6_method_1_code 223 = .ok (.getfield 11, 3) := by decide +kernel
theorem d_Rock_init_226 : decode prog_6_method_1_code 226 = .ok (.bipush 10, 2) := by decide +kernel
theorem d_Rock_init_228 : decode prog_6_method_1_code 228 = .ok (.aaload, 1) := by decide +kernel
theorem d_Rock_init_229 : decode prog_6_method_1_code 229 = .ok (.iconst 0, 1) := by decide +kernel
theorem d_Rock_init_230 : decode prog_6_method_1_code 230 = .ok (.iconst 0, 1) := by decide +kernel
theorem d_Rock_init_231 : decode prog_6_method_1_code 231 = .ok (.iconst 1, 1) := by decide +kernel
theorem d_Rock_init_232 : decode prog_6_method_1_code 232 = .ok (.iconst 0, 1) := by decide +kernel
theorem d_Rock_init_233 : decode prog_6_method_1_code 233 = .ok (.invokevirtual 76, 3) := by decide +kernel
theorem d_Rock_init_236 : decode prog_6_method_1_code 236 = .ok (.aload_n 0, 1) := by decide +kernel
theorem d_Rock_init_237 : decode prog_6_method_1_code 237 = .ok (.getfield 11, 3) := by decide +kernel
theorem d_Rock_init_240 : decode prog_6_method_1_code 240 = .ok (.bipush 11, 2) := by decide +kernel
theorem d_Rock_init_242 : decode prog_6_method_1_code 242 = .ok (.aaload, 1) := by decide +kernel
theorem d_Rock_init_243 : decode prog_6_method_1_code 243 = .ok (.iconst 0, 1) := by decide +kernel
theorem d_Rock_init_244 : decode prog_6_method_1_code 244 = .ok (.iconst 0, 1) := by decide +kernel
theorem d_Rock_init_245 : decode prog_6_method_1_code 245 = .ok (.iconst 1, 1) := by decide +kernel
theorem d_Rock_init_246 : decode prog_6_method_1_code 246 = .ok (.iload_n 3, 1) := by decide +kernel
theorem d_Rock_init_247 : decode prog_6_method_1_code 247 = .ok (.invokevirtual 76, 3) := by decide +kernel
theorem d_Rock_init_250 : decode prog_6_method_1_code 250 = .ok (.bipush 6, 2) := by decide +kernel
theorem d_Rock_init_252 : decode prog_6_method_1_code 252 = .ok (.istore 4, 2) := by decide +kernel
theorem d_Rock_init_254 : decode prog_6_method_1_code 254 = .ok (.iload 4, 2) := by decide +kernel
theorem d_Rock_init_256 : decode prog_6_method_1_code 256 = .ok (.bipush 12, 2) := by decide +kernel
theorem d_Rock_init_258 : decode prog_6_method_1_code 258 = .ok (.if_icmp .ge 15, 3) := by decide +kernel
theorem d_Rock_init_261 : decode prog_6_method_1_code 261 = .ok (.aload_n 0, 1) := by decide +kernel
theorem d_Rock_init_262 : decode prog_6_method_1_code 262 = .ok (.iload 4, 2) := by decide +kernel
theorem d_Rock_init_264 : decode prog_6_method_1_code 264 = .ok (.invokevirtual 80, 3) := by decide +kernel
theorem d_Rock_init_267 : decode prog_6_method_1_code 267 = .ok (.iinc 4 1, 3) := by decide +kernel
theorem d_Rock_init_270 : decode prog_6_method_1_code 270 = .ok (.goto (-16), 3) := by decide +kernel
theorem d_Rock_init_273 : decode prog_6_method_1_code 273 = .ok (.aload_n 0, 1) := by decide +kernel
theorem d_Rock_init_274 : decode prog_6_method_1_code 274 = .ok (.invokevirtual 84, 3) := by decide +kernel
theorem d_Rock_init_277 : decode prog_6_method_1_code 277 = .ok (.return_, 1) := by decide +kernel
theorem d_Points_init_0 : decode prog_5_method_1_code 0 = .ok (.aload_n 0, 1) := by decide +kernel
theorem d_Points_init_1 : decode prog_5_method_1_code 1 = .ok (.invokespecial 1, 3) := by decide +kernel
theorem d_Points_init_4 : decode prog_5_method_1_code 4 = .ok (.aload_n 0, 1) := by decide +kernel
theorem d_Points_init_5 : decode prog_5_method_1_code 5 = .ok (.sipush 220, 3) := by decide +kernel
theorem d_Points_init_8 : decode prog_5_method_1_code 8 = .ok (.newarray .int, 2) := by decide +kernel
theorem d_Points_init_10 : decode prog_5_method_1_code 10 = .ok (.putfield 9, 3) := by decide +kernel
theorem d_Points_init_13 : decode prog_5_method_1_code 13 = .ok (.aload_n 0, 1) := by decide +kernel
theorem d_Points_init_14 : decode prog_5_method_1_code 14 = .ok (.sipush 220, 3) := by decide +kernel
theorem d_Points_init_17 : decode prog_5_method_1_code 17 = .ok (.newarray .int, 2) := by decide +kernel
theorem d_Points_init_19 : decode prog_5_method_1_code 19 = .ok (.putfield 13, 3) := by decide +kernel
theorem d_Points_init_22 : decode prog_5_method_1_code 22 = .ok (.aload_n 0, 1) := by decide +kernel
theorem d_Points_init_23 : decode prog_5_method_1_code 23 = .ok (.sipush 220, 3) := by decide +kernel
theorem d_Points_init_26 : decode prog_5_method_1_code 26 = .ok (.newarray .int, 2) := by decide +kernel
theorem d_Points_init_28 : decode prog_5_method_1_code 28 = .ok (.putfield 16, 3) := by decide +kernel
theorem d_Points_init_31 : decode prog_5_method_1_code 31 = .ok (.aload_n 0, 1) := by decide +kernel
theorem d_Points_init_32 : decode prog_5_method_1_code 32 = .ok (.sipush 220, 3) := by decide +kernel
theorem d_Points_init_35 : decode prog_5_method_1_code 35 = .ok (.newarray .int, 2) := by decide +kernel
theorem d_Points_init_37 : decode prog_5_method_1_code 37 = .ok (.putfield 19, 3) := by decide +kernel
theorem d_Points_init_40 : decode prog_5_method_1_code 40 = .ok (.aload_n 0, 1) := by decide +kernel
theorem d_Points_init_41 : decode prog_5_method_1_code 41 = .ok (.sipush 220, 3) := by decide +kernel
theorem d_Points_init_44 : decode prog_5_method_1_code 44 = .ok (.newarray .int, 2) := by decide +kernel
theorem d_Points_init_46 : decode prog_5_method_1_code 46 = .ok (.putfield 22, 3) := by decide +kernel
theorem d_Points_init_49 : decode prog_5_method_1_code 49 = .ok (.aload_n 0, 1) := by decide +kernel
theorem d_Points_init_50 : decode prog_5_method_1_code 50 = .ok (.sipush 220, 3) := by decide +kernel
theorem d_Points_init_53 : decode prog_5_method_1_code 53 = .ok (.newarray .int, 2) := by decide +kernel
theorem d_Points_init_55 : decode prog_5_method_1_code 55 = .ok (.putfield 25, 3) := by decide +kernel
theorem d_Points_init_58 : decode prog_5_method_1_code 58 = .ok (.aload_n 0, 1) := by decide +kernel
theorem d_Points_init_59 : decode prog_5_method_1_code 59 = .ok (.iconst 0, 1) := by decide +kernel
theorem d_Points_init_60 : decode prog_5_method_1_code 60 = .ok (.putfield 28, 3) := by decide +kernel
theorem d_Points_init_63 : decode prog_5_method_1_code 63 = .ok (.return_, 1) := by decide +kernel
theorem d_Plane_init_0 : decode prog_4_method_1_code 0 = .ok (.aload_n 0, 1) := by decide +kernel
theorem d_Plane_init_1 : decode prog_4_method_1_code 1 = .ok (.invokespecial 1, 3) := by decide +kernel
theorem d_Plane_init_4 : decode prog_4_method_1_code 4 = .ok (.aload_n 0, 1) := by decide +kernel
theorem d_Plane_init_5 : decode prog_4_method_1_code 5 = .ok (.new 7, 3) := by decide +kernel
theorem d_Plane_init_8 : decode prog_4_method_1_code 8 = .ok (.dup, 1) := by decide +kernel
theorem d_Plane_init_9 : decode prog_4_method_1_code 9 = .ok (.invokespecial 9, 3) := by decide +kernel
theorem d_Plane_init_12 : decode prog_4_method_1_code 12 = .ok (.putfield 10, 3) := by decide +kernel
theorem d_Plane_init_15 : decode prog_4_method_1_code 15 = .ok (.aload_n 0, 1) := by decide +kernel
theorem d_Plane_init_16 : decode prog_4_method_1_code 16 = .ok (.iconst 0, 1) := by decide +kernel
theorem d_Plane_init_17 : decode prog_4_method_1_code 17 = .ok (.putfield 16, 3) := by decide +kernel
theorem d_Plane_init_20 : decode prog_4_method_1_code 20 = .ok (.return_, 1) := by decide +kernel
theorem d_Plane_set_0 : decode prog_4_method_2_code 0 = .ok (.aload_n 0, 1) := by decide +kernel
theorem d_Plane_set_1 : decode prog_4_method_2_code 1 = .ok (.getfield 10, 3) := by decide +kernel
theorem d_Plane_set_4 : decode prog_4_method_2_code 4 = .ok (.iload_n 1, 1) := by decide +kernel
theorem d_Plane_set_5 : decode prog_4_method_2_code 5 = .ok (.iload_n 2, 1) := by decide +kernel
theorem d_Plane_set_6 : decode prog_4_method_2_code 6 = .ok (.iload_n 3, 1) := by decide +kernel
theorem d_Plane_set_7 : decode prog_4_method_2_code 7 = .ok (.invokevirtual 20, 3) := by decide +kernel
theorem d_Plane_set_10 : decode prog_4_method_2_code 10 = .ok (.aload_n 0, 1) := by decide +kernel
theorem d_Plane_set_11 : decode prog_4_method_2_code 11 = .ok (.iload 4, 2) := by decide +kernel
theorem d_Plane_set_13 : decode prog_4_method_2_code 13 = .ok (.putfield 16, 3) := by decide +kernel
theorem d_Plane_set_16 : decode prog_4_method_2_code 16 = .ok (.return_, 1) := by decide +kernel
theorem d_Arrow_set_0 : decode prog_2_method_2_code 0 = .ok (.aload_n 0, 1) := by decide +kernel
theorem d_Arrow_set_1 : decode prog_2_method_2_code 1 = .ok (.iload_n 1, 1) := by decide +kernel
theorem d_Arrow_set_2 : decode prog_2_method_2_code 2 = .ok (.putfield 7, 3) := by decide +kernel
theorem d_Arrow_set_5 : decode prog_2_method_2_code 5 = .ok (.aload_n 0, 1) := by decide +kernel
theorem d_Arrow_set_6 : decode prog_2_method_2_code 6 = .ok (.iload_n 2, 1) := by decide +kernel
theorem d_Arrow_set_7 : decode prog_2_method_2_code 7 = .ok (.putfield 13, 3) := by decide +kernel
theorem d_Arrow_set_10 : decode prog_2_method_2_code 10 = .ok (.aload_n 0, 1) := by decide +kernel
theorem d_Arrow_set_11 : decode prog_2_method_2_code 11 = .ok (.iload_n 3, 1) := by decide +kernel
theorem d_Arrow_set_12 : decode prog_2_method_2_code 12 = .ok (.putfield 16, 3) := by decide +kernel
theorem d_Arrow_set_15 : decode prog_2_method_2_code 15 = .ok (.return_, 1) := by decide +kernel
theorem d_Rock_addFace_0 : decode prog_6_method_11_code 0 = .ok (.iconst 0, 1) := by decide +kernel
theorem d_Rock_addFace_1 : decode prog_6_method_11_code 1 = .ok (.istore_n 2, 1) := by decide +kernel
theorem d_Rock_addFace_2 : decode prog_6_method_11_code 2 = .ok (.iload_n 2, 1) := by decide +kernel
theorem d_Rock_addFace_3 : decode prog_6_method_11_code 3 = .ok (.aload_n 0, 1) := by decide +kernel
theorem d_Rock_addFace_4 : decode prog_6_method_11_code 4 = .ok (.getfield 20, 3) := by decide +kernel
theorem d_Rock_addFace_7 : decode prog_6_method_11_code 7 = .ok (.getfield 100, 3) := by decide +kernel
theorem d_Rock_addFace_10 : decode prog_6_method_11_code 10 = .ok (.if_icmp .ge 24, 3) := by decide +kernel
theorem d_Rock_addFace_13 : decode prog_6_method_11_code 13 = .ok (.aload_n 0, 1) := by decide +kernel
theorem d_Rock_addFace_14 : decode prog_6_method_11_code 14 = .ok (.getfield 20, 3) := by decide +kernel
theorem d_Rock_addFace_17 : decode prog_6_method_11_code 17 = .ok (.iload_n 2, 1) := by decide +kernel
theorem d_Rock_addFace_18 : decode prog_6_method_11_code 18 = .ok (.iload_n 1, 1) := by decide +kernel
theorem d_Rock_addFace_19 : decode prog_6_method_11_code 19 = .ok (.aload_n 0, 1) := by decide +kernel
theorem d_Rock_addFace_20 : decode prog_6_method_11_code 20 = .ok (.getfield 11, 3) := by decide +kernel
theorem d_Rock_addFace_23 : decode prog_6_method_11_code 23 = .ok (.iload_n 1, 1) := by decide +kernel
theorem d_Rock_addFace_24 : decode prog_6_method_11_code 24 = .ok (.aaload, 1) := by decide +kernel
theorem d_Rock_addFace_25 : decode prog_6_method_11_code 25 = .ok (.invokevirtual 127, 3) := by decide +kernel
theorem d_Rock_addFace_28 : decode prog_6_method_11_code 28 = .ok (.iinc 2 1, 3) := by decide +kernel
theorem d_Rock_addFace_31 : decode prog_6_method_11_code 31 = .ok (.goto (-29), 3) := by decide +kernel
theorem d_Rock_addFace_34 : decode prog_6_method_11_code 34 = .ok (.aload_n 0, 1) := by decide +kernel
theorem d_Rock_addFace_35 : decode prog_6_method_11_code 35 = .ok (.getfield 63, 3) := by decide +kernel
theorem d_Rock_addFace_38 : decode prog_6_method_11_code 38 = .ok (.istore_n 2, 1) := by decide +kernel
theorem d_Rock_addFace_39 : decode prog_6_method_11_code 39 = .ok (.aload_n 0, 1) := by decide +kernel
theorem d_Rock_addFace_40 : decode prog_6_method_11_code 40 = .ok (.dup, 1) := by decide +kernel
theorem d_Rock_addFace_41 : decode prog_6_method_11_code 41 = .ok (.getfield 63, 3) := by decide +kernel
theorem d_Rock_addFace_44 : decode prog_6_method_11_code 44 = .ok (.iconst 1, 1) := by decide +kernel
theorem d_Rock_addFace_45 : decode prog_6_method_11_code 45 = .ok (.iload_n 1, 1) := by decide +kernel
theorem d_Rock_addFace_46 : decode prog_6_method_11_code 46 = .ok (.ishl, 1) := by decide +kernel
theorem d_Rock_addFace_47 : decode prog_6_method_11_code 47 = .ok (.ior, 1) := by decide +kernel
theorem d_Rock_addFace_48 : decode prog_6_method_11_code 48 = .ok (.putfield 63, 3) := by decide +kernel
theorem d_Rock_addFace_51 : decode prog_6_method_11_code 51 = .ok (.iconst 0, 1) := by decide +kernel
theorem d_Rock_addFace_52 : decode prog_6_method_11_code 52 = .ok (.istore_n 3, 1) := by decide +kernel
theorem d_Rock_addFace_53 : decode prog_6_method_11_code 53 = .ok (.iload_n 3, 1) := by decide +kernel
theorem d_Rock_addFace_54 : decode prog_6_method_11_code 54 = .ok (.bipush 12, 2) := by decide +kernel
theorem d_Rock_addFace_56 : decode prog_6_method_11_code 56 = .ok (.if_icmp .ge 67, 3) := by decide +kernel
theorem d_Rock_addFace_59 : decode prog_6_method_11_code 59 = .ok (.iload_n 3, 1) := by decide +kernel
theorem d_Rock_addFace_60 : decode prog_6_method_11_code 60 = .ok (.iconst 1, 1) := by decide +kernel
theorem d_Rock_addFace_61 : decode prog_6_method_11_code 61 = .ok (.iadd, 1) := by decide +kernel
theorem d_Rock_addFace_62 : decode prog_6_method_11_code 62 = .ok (.istore 4, 2) := by decide +kernel
theorem d_Rock_addFace_64 : decode prog_6_method_11_code 64 = .ok (.iload 4, 2) := by decide +kernel
theorem d_Rock_addFace_66 : decode prog_6_method_11_code 66 = .ok (.bipush 12, 2) := by decide +kernel
theorem d_Rock_addFace_68 : decode prog_6_method_11_code 68 = .ok (.if_icmp .ge 49, 3) := by decide +kernel
theorem d_Rock_addFace_71 : decode prog_6_method_11_code 71 = .ok (.iload_n 2, 1) := by decide +kernel
theorem d_Rock_addFace_72 : decode prog_6_method_11_code 72 = .ok (.iload_n 3, 1) := by decide +kernel
theorem d_Rock_addFace_73 : decode prog_6_method_11_code 73 = .ok (.invokestatic 107, 3) := by decide +kernel
theorem d_Rock_addFace_76 : decode prog_6_method_11_code 76 = .ok (.ifCond .eq 35, 3) := by decide +kernel
theorem d_Rock_addFace_79 : decode prog_6_method_11_code 79 = .ok (.iload_n 2, 1) := by decide +kernel
theorem d_Rock_addFace_80 : decode prog_6_method_11_code 80 = .ok (.iload 4, 2) := by decide +kernel
theorem d_Rock_addFace_82 : decode prog_6_method_11_code 82 = .ok (.invokestatic 107, 3) := by decide +kernel
theorem d_Rock_addFace_85 : decode prog_6_method_11_code 85 = .ok (.ifCond .eq 26, 3) := by decide +kernel
theorem d_Rock_addFace_88 : decode prog_6_method_11_code 88 = .ok (.aload_n 0, 1) := by decide +kernel
theorem d_Rock_addFace_89 : decode prog_6_method_11_code 89 = .ok (.aload_n 0, 1) := by decide +kernel
theorem d_Rock_addFace_90 : decode prog_6_method_11_code 90 = .ok (.getfield 11, 3) := by decide +kernel
theorem d_Rock_addFace_93 : decode prog_6_method_11_code 93 = .ok (.iload_n 1, 1) := by decide +kernel
theorem d_Rock_addFace_94 : decode prog_6_method_11_code 94 = .ok (.aaload, 1) := by decide +kernel
theorem d_Rock_addFace_95 : decode prog_6_method_11_code 95 = .ok (.aload_n 0, 1) := by decide +kernel
theorem d_Rock_addFace_96 : decode prog_6_method_11_code 96 = .ok (.getfield 11, 3) := by decide +kernel
theorem d_Rock_addFace_99 : decode prog_6_method_11_code 99 = .ok (.iload_n 3, 1) := by decide +kernel
theorem d_Rock_addFace_100 : decode prog_6_method_11_code 100 = .ok (.aaload, 1) := by decide +kernel
theorem d_Rock_addFace_101 : decode prog_6_method_11_code 101 = .ok (.aload_n 0, 1) := by decide +kernel
theorem d_Rock_addFace_102 : decode prog_6_method_11_code 102 = .ok (.getfield 11, 3) := by decide +kernel
theorem d_Rock_addFace_105 : decode prog_6_method_11_code 105 = .ok (.iload 4, 2) := by decide +kernel
theorem d_Rock_addFace_107 : decode prog_6_method_11_code 107 = .ok (.aaload, 1) := by decide +kernel
theorem d_Rock_addFace_108 : decode prog_6_method_11_code 108 = .ok (.invokevirtual 131, 3) := by decide +kernel
theorem d_Rock_addFace_111 : decode prog_6_method_11_code 111 = .ok (.iinc 4 1, 3) := by decide +kernel
theorem d_Rock_addFace_114 : decode prog_6_method_11_code 114 = .ok (.goto (-50), 3) := by decide +kernel
theorem d_Rock_addFace_117 : decode prog_6_method_11_code 117 = .ok (.iinc 3 1, 3) := by decide +kernel
theorem d_Rock_addFace_120 : decode prog_6_method_11_code 120 = .ok (.goto (-67), 3) := by decide +kernel
theorem d_Rock_addFace_123 : decode prog_6_method_11_code 123 = .ok (.return_, 1) := by decide +kernel
theorem d_Points_tellSide_0 : decode prog_5_method_4_code 0 = .ok (.aload_n 3, 1) := by decide +kernel
theorem d_Points_tellSide_1 : decode prog_5_method_4_code 1 = .ok (.aload_n 0, 1) := by decide +kernel
theorem d_Points_tellSide_2 : decode prog_5_method_4_code 2 = .ok (.getfield 9, 3) := by decide +kernel
theorem d_Points_tellSide_5 : decode prog_5_method_4_code 5 = .ok (.iload_n 1, 1) := by decide +kernel
theorem d_Points_tellSide_6 : decode prog_5_method_4_code 6 = .ok (.iaload, 1) := by decide +kernel
theorem d_Points_tellSide_7 : decode prog_5_method_4_code 7 = .ok (.aload_n 0, 1) := by decide +kernel
theorem d_Points_tellSide_8 : decode prog_5_method_4_code 8 = .ok (.getfield 13, 3) := by decide +kernel
theorem d_Points_tellSide_11 : decode prog_5_method_4_code 11 = .ok (.iload_n 1, 1) := by decide +kernel
theorem d_Points_tellSide_12 : decode prog_5_method_4_code 12 = .ok (.iaload, 1) := by decide +kernel
theorem d_Points_tellSide_13 : decode prog_5_method_4_code 13 = .ok (.aload_n 0, 1) := by decide +kernel
theorem d_Points_tellSide_14 : decode prog_5_method_4_code 14 = .ok (.getfield 16, 3) := by decide +kernel
theorem d_Points_tellSide_17 : decode prog_5_method_4_code 17 = .ok (.iload_n 1, 1) := by decide +kernel
theorem d_Points_tellSide_18 : decode prog_5_method_4_code 18 = .ok (.iaload, 1) := by decide +kernel
theorem d_Points_tellSide_19 : decode prog_5_method_4_code 19 = .ok (.aload_n 0, 1) := by decide +kernel
theorem d_Points_tellSide_20 : decode prog_5_method_4_code 20 = .ok (.getfield 19, 3) := by decide +kernel
theorem d_Points_tellSide_23 : decode prog_5_method_4_code 23 = .ok (.iload_n 1, 1) := by decide +kernel
theorem d_Points_tellSide_24 : decode prog_5_method_4_code 24 = .ok (.iaload, 1) := by decide +kernel
theorem d_Points_tellSide_25 : decode prog_5_method_4_code 25 = .ok (.invokevirtual 32, 3) := by decide +kernel
theorem d_Points_tellSide_28 : decode prog_5_method_4_code 28 = .ok (.istore 4, 2) := by decide +kernel
theorem d_Points_tellSide_30 : decode prog_5_method_4_code 30 = .ok (.iload 4, 2) := by decide +kernel
theorem d_Points_tellSide_32 : decode prog_5_method_4_code 32 = .ok (.ifCond .le 18, 3) := by decide +kernel
theorem d_Points_tellSide_35 : decode prog_5_method_4_code 35 = .ok (.aload_n 0, 1) := by decide +kernel
theorem d_Points_tellSide_36 : decode prog_5_method_4_code 36 = .ok (.getfield 22, 3) := by decide +kernel
theorem d_Points_tellSide_39 : decode prog_5_method_4_code 39 = .ok (.iload_n 1, 1) := by decide +kernel
theorem d_Points_tellSide_40 : decode prog_5_method_4_code 40 = .ok (.dup2, 1) := by decide +kernel
theorem d_Points_tellSide_41 : decode prog_5_method_4_code 41 = .ok (.iaload, 1) := by decide +kernel
theorem d_Points_tellSide_42 : decode prog_5_method_4_code 42 = .ok (.iconst 1, 1) := by decide +kernel
theorem d_Points_tellSide_43 : decode prog_5_method_4_code 43 = .ok (.iload_n 2, 1) := by decide +kernel
theorem d_Points_tellSide_44 : decode prog_5_method_4_code 44 = .ok (.ishl, 1) := by decide +kernel
theorem d_Points_tellSide_45 : decode prog_5_method_4_code 45 = .ok (.ior, 1) := by decide +kernel
theorem d_Points_tellSide_46 : decode prog_5_method_4_code 46 = .ok (.iastore, 1) := by decide +kernel
theorem d_Points_tellSide_47 : decode prog_5_method_4_code 47 = .ok (.goto 20, 3) := by decide +kernel
theorem d_Points_tellSide_50 : decode prog_5_method_4_code 50 = .ok (.iload 4, 2) := by decide +kernel
theorem d_Points_tellSide_52 : decode prog_5_method_4_code 52 = .ok (.ifCond .ge 15, 3) := by decide +kernel
theorem d_Points_tellSide_55 : decode prog_5_method_4_code 55 = .ok (.aload_n 0, 1) := by decide +kernel
theorem d_Points_tellSide_56 : decode prog_5_method_4_code 56 = .ok (.getfield 25, 3) := by decide +kernel
theorem d_Points_tellSide_59 : decode prog_5_method_4_code 59 = .ok (.iload_n 1, 1) := by decide +kernel
theorem d_Points_tellSide_60 : decode prog_5_method_4_code 60 = .ok (.dup2, 1) := by decide +kernel
theorem d_Points_tellSide_61 : decode prog_5_method_4_code 61 = .ok (.iaload, 1) := by decide +kernel
theorem d_Points_tellSide_62 : decode prog_5_method_4_code 62 = .ok (.iconst 1, 1) := by decide +kernel
theorem d_Points_tellSide_63 : decode prog_5_method_4_code 63 = .ok (.iload_n 2, 1) := by decide +kernel
theorem d_Points_tellSide_64 : decode prog_5_method_4_code 64 = .ok (.ishl, 1) := by decide +kernel
theorem d_Points_tellSide_65 : decode prog_5_method_4_code 65 = .ok (.ior, 1) := by decide +kernel
theorem d_Points_tellSide_66 : decode prog_5_method_4_code 66 = .ok (.iastore, 1) := by decide +kernel
theorem d_Points_tellSide_67 : decode prog_5_method_4_code 67 = .ok (.return_, 1) := by decide +kernel
theorem d_Plane_heightOf_0 : decode prog_4_method_3_code 0 = .ok (.aload_n 0, 1) := by decide +kernel
theorem d_Plane_heightOf_1 : decode prog_4_method_3_code 1 = .ok (.getfield 10, 3) := by decide +kernel
theorem d_Plane_heightOf_4 : decode prog_4_method_3_code 4 = .ok (.getfield 24, 3) := by decide +kernel
theorem d_Plane_heightOf_7 : decode prog_4_method_3_code 7 = .ok (.iload_n 1, 1) := by decide +kernel
theorem d_Plane_heightOf_8 : decode prog_4_method_3_code 8 = .ok (.imul, 1) := by decide +kernel
theorem d_Plane_heightOf_9 : decode prog_4_method_3_code 9 = .ok (.aload_n 0, 1) := by decide +kernel
theorem d_Plane_heightOf_10 : decode prog_4_method_3_code 10 = .ok (.getfield 10, 3) := by decide +kernel
theorem d_Plane_heightOf_13 : decode prog_4_method_3_code 13 = .ok (.getfield 27, 3) := by decide +kernel
theorem d_Plane_heightOf_16 : decode prog_4_method_3_code 16 = .ok (.iload_n 2, 1) := by decide +kernel
theorem d_Plane_heightOf_17 : decode prog_4_method_3_code 17 = .ok (.imul, 1) := by decide +kernel
theorem d_Plane_heightOf_18 : decode prog_4_method_3_code 18 = .ok (.iadd, 1) := by decide +kernel
theorem d_Plane_heightOf_19 : decode prog_4_method_3_code 19 = .ok (.aload_n 0, 1) := by decide +kernel
theorem d_Plane_heightOf_20 : decode prog_4_method_3_code 20 = .ok (.getfield 10, 3) := by decide +kernel
theorem d_Plane_heightOf_23 : decode prog_4_method_3_code 23 = .ok (.getfield 30, 3) := by decide +kernel
theorem d_Plane_heightOf_26 : decode prog_4_method_3_code 26 = .ok (.iload_n 3, 1) := by decide +kernel
theorem d_Plane_heightOf_27 : decode prog_4_method_3_code 27 = .ok (.imul, 1) := by decide +kernel
theorem d_Plane_heightOf_28 : decode prog_4_method_3_code 28 = .ok (.iadd, 1) := by decide +kernel
theorem d_Plane_heightOf_29 : decode prog_4_method_3_code 29 = .ok (.aload_n 0, 1) := by decide +kernel
theorem d_Plane_heightOf_30 : decode prog_4_method_3_code 30 = .ok (.getfield 16, 3) := by decide +kernel
theorem d_Plane_heightOf_33 : decode prog_4_method_3_code 33 = .ok (.iload 4, 2) := by decide +kernel
theorem d_Plane_heightOf_35 : decode prog_4_method_3_code 35 = .ok (.imul, 1) := by decide +kernel
theorem d_Plane_heightOf_36 : decode prog_4_method_3_code 36 = .ok (.isub, 1) := by decide +kernel
theorem d_Plane_heightOf_37 : decode prog_4_method_3_code 37 = .ok (.ireturn, 1) := by decide +kernel
theorem d_WP_hasBit_0 : decode prog_1_method_20_code 0 = .ok (.iload_n 0, 1) := by decide +kernel
theorem d_WP_hasBit_1 : decode prog_1_method_20_code 1 = .ok (.iload_n 1, 1) := by decide +kernel
theorem d_WP_hasBit_2 : decode prog_1_method_20_code 2 = .ok (.ishr, 1) := by decide +kernel
theorem d_WP_hasBit_3 : decode prog_1_method_20_code 3 = .ok (.iconst 1, 1) := by decide +kernel
theorem d_WP_hasBit_4 : decode prog_1_method_20_code 4 = .ok (.iand, 1) := by decide +kernel
theorem d_WP_hasBit_5 : decode prog_1_method_20_code 5 = .ok (.iconst 1, 1) := by decide +kernel
theorem d_WP_hasBit_6 : decode prog_1_method_20_code 6 = .ok (.if_icmp .ne 7, 3) := by decide +kernel
theorem d_WP_hasBit_9 : decode prog_1_method_20_code 9 = .ok (.iconst 1, 1) := by decide +kernel
theorem d_WP_hasBit_10 : decode prog_1_method_20_code 10 = .ok (.goto 4, 3) := by decide +kernel
theorem d_WP_hasBit_13 : decode prog_1_method_20_code 13 = .ok (.iconst 0, 1) := by decide +kernel
theorem d_WP_hasBit_14 : decode prog_1_method_20_code 14 = .ok (.ireturn, 1) := by decide +kernel
theorem d_Rock_meet_0 : decode prog_6_method_12_code 0 = .ok (.aload_n 0, 1) := by decide +kernel
theorem d_Rock_meet_1 : decode prog_6_method_12_code 1 = .ok (.getfield 53, 3) := by decide +kernel
theorem d_Rock_meet_4 : decode prog_6_method_12_code 4 = .ok (.aload_n 2, 1) := by decide +kernel
theorem d_Rock_meet_5 : decode prog_6_method_12_code 5 = .ok (.getfield 135, 3) := by decide +kernel
theorem d_Rock_meet_8 : decode prog_6_method_12_code 8 = .ok (.aload_n 3, 1) := by decide +kernel
theorem d_Rock_meet_9 : decode prog_6_method_12_code 9 = .ok (.getfield 135, 3) := by decide +kernel
theorem d_Rock_meet_12 : decode prog_6_method_12_code 12 = .ok (.invokevirtual 138, 3) := by decide +kernel
theorem d_Rock_meet_15 : decode prog_6_method_12_code 15 = .ok (.aload_n 0, 1) := by decide +kernel
theorem d_Rock_meet_16 : decode prog_6_method_12_code 16 = .ok (.getfield 57, 3) := by decide +kernel
theorem d_Rock_meet_19 : decode prog_6_method_12_code 19 = .ok (.aload_n 3, 1) := by decide +kernel
theorem d_Rock_meet_20 : decode prog_6_method_12_code 20 = .ok (.getfield 135, 3) := by decide +kernel
theorem d_Rock_meet_23 : decode prog_6_method_12_code 23 = .ok (.aload_n 1, 1) := by decide +kernel
theorem d_Rock_meet_24 : decode prog_6_method_12_code 24 = .ok (.getfield 135, 3) := by decide +kernel
theorem d_Rock_meet_27 : decode prog_6_method_12_code 27 = .ok (.invokevirtual 138, 3) := by decide +kernel
theorem d_Rock_meet_30 : decode prog_6_method_12_code 30 = .ok (.aload_n 0, 1) := by decide +kernel
theorem d_Rock_meet_31 : decode prog_6_method_12_code 31 = .ok (.getfield 60, 3) := by decide +kernel
theorem d_Rock_meet_34 : decode prog_6_method_12_code 34 = .ok (.aload_n 1, 1) := by decide +kernel
theorem d_Rock_meet_35 : decode prog_6_method_12_code 35 = .ok (.getfield 135, 3) := by decide +kernel
theorem d_Rock_meet_38 : decode prog_6_method_12_code 38 = .ok (.aload_n 2, 1) := by decide +kernel
theorem d_Rock_meet_39 : decode prog_6_method_12_code 39 = .ok (.getfield 135, 3) := by decide +kernel
theorem d_Rock_meet_42 : decode prog_6_method_12_code 42 = .ok (.invokevirtual 138, 3) := by decide +kernel
theorem d_Rock_meet_45 : decode prog_6_method_12_code 45 = .ok (.aload_n 1, 1) := by decide +kernel
theorem d_Rock_meet_46 : decode prog_6_method_12_code 46 = .ok (.getfield 135, 3) := by decide +kernel
theorem d_Rock_meet_49 : decode prog_6_method_12_code 49 = .ok (.aload_n 0, 1) := by decide +kernel
theorem d_Rock_meet_50 : decode prog_6_method_12_code 50 = .ok (.getfield 53, 3) := by decide +kernel
theorem d_Rock_meet_53 : decode prog_6_method_12_code 53 = .ok (.invokevirtual 142, 3) := by decide +kernel
theorem d_Rock_meet_56 : decode prog_6_method_12_code 56 = .ok (.istore 4, 2) := by decide +kernel
theorem d_Rock_meet_58 : decode prog_6_method_12_code 58 = .ok (.iload 4, 2) := by decide +kernel
theorem d_Rock_meet_60 : decode prog_6_method_12_code 60 = .ok (.ifCond .ne 4, 3) := by decide +kernel
theorem d_Rock_meet_63 : decode prog_6_method_12_code 63 = .ok (.return_, 1) := by decide +kernel
theorem d_Rock_meet_64 : decode prog_6_method_12_code 64 = .ok (.iload 4, 2) := by decide +kernel
theorem d_Rock_meet_66 : decode prog_6_method_12_code 66 = .ok (.ifCond .le 7, 3) := by decide +kernel
theorem d_Rock_meet_69 : decode prog_6_method_12_code 69 = .ok (.iconst 1, 1) := by decide +kernel
theorem d_Rock_meet_70 : decode prog_6_method_12_code 70 = .ok (.goto 4, 3) := by decide +kernel
theorem d_Rock_meet_73 : decode prog_6_method_12_code 73 = .ok (.iconst (-1), 1) := by decide +kernel
theorem d_Rock_meet_74 : decode prog_6_method_12_code 74 = .ok (.istore 5, 2) := by decide +kernel
theorem d_Rock_meet_76 : decode prog_6_method_12_code 76 = .ok (.aload_n 1, 1) := by decide +kernel
theorem d_Rock_meet_77 : decode prog_6_method_12_code 77 = .ok (.getfield 146, 3) := by decide +kernel
theorem d_Rock_meet_80 : decode prog_6_method_12_code 80 = .ok (.aload_n 0, 1) := by decide +kernel
theorem d_Rock_meet_81 : decode prog_6_method_12_code 81 = .ok (.getfield 53, 3) := by decide +kernel
theorem d_Rock_meet_84 : decode prog_6_method_12_code 84 = .ok (.getfield 149, 3) := by decide +kernel
theorem d_Rock_meet_87 : decode prog_6_method_12_code 87 = .ok (.imul, 1) := by decide +kernel
theorem d_Rock_meet_88 : decode prog_6_method_12_code 88 = .ok (.aload_n 2, 1) := by decide +kernel
theorem d_Rock_meet_89 : decode prog_6_method_12_code 89 = .ok (.getfield 146, 3) := by decide +kernel
theorem d_Rock_meet_92 : decode prog_6_method_12_code 92 = .ok (.aload_n 0, 1) := by decide +kernel
theorem d_Rock_meet_93 : decode prog_6_method_12_code 93 = .ok (.getfield 57, 3) := by decide +kernel
theorem d_Rock_meet_96 : decode prog_6_method_12_code 96 = .ok (.getfield 149, 3) := by decide +kernel
theorem d_Rock_meet_99 : decode prog_6_method_12_code 99 = .ok (.imul, 1) := by decide +kernel
theorem d_Rock_meet_100 : decode prog_6_method_12_code 100 = .ok (.iadd, 1) := by decide +kernel
theorem d_Rock_meet_101 : decode prog_6_method_12_code 101 = .ok (.aload_n 3, 1) := by decide +kernel
theorem d_Rock_meet_102 : decode prog_6_method_12_code 102 = .ok (.getfield 146, 3) := by decide +kernel
theorem d_Rock_meet_105 : decode prog_6_method_12_code 105 = .ok (.aload_n 0, 1) := by decide +kernel
theorem d_Rock_meet_106 : decode prog_6_method_12_code 106 = .ok (.getfield 60, 3) := by decide +kernel
theorem d_Rock_meet_109 : decode prog_6_method_12_code 109 = .ok (.getfield 149, 3) := by decide +kernel
theorem d_Rock_meet_112 : decode prog_6_method_12_code 112 = .ok (.imul, 1) := by decide +kernel
theorem d_Rock_meet_113 : decode prog_6_method_12_code 113 = .ok (.iadd, 1) := by decide +kernel
theorem d_Rock_meet_114 : decode prog_6_method_12_code 114 = .ok (.istore 6, 2) := by decide +kernel
theorem d_Rock_meet_116 : decode prog_6_method_12_code 116 = .ok (.aload_n 1, 1) := by decide +kernel
theorem d_Rock_meet_117 : decode prog_6_method_12_code 117 = .ok (.getfield 146, 3) := by decide +kernel
theorem d_Rock_meet_120 : decode prog_6_method_12_code 120 = .ok (.aload_n 0, 1) := by decide +kernel
theorem d_Rock_meet_121 : decode prog_6_method_12_code 121 = .ok (.getfield 53, 3) := by decide +kernel
theorem d_Rock_meet_124 : decode prog_6_method_12_code 124 = .ok (.getfield 152, 3) := by decide +kernel
theorem d_Rock_meet_127 : decode prog_6_method_12_code 127 = .ok (.imul, 1) := by decide +kernel
theorem d_Rock_meet_128 : decode prog_6_method_12_code 128 = .ok (.aload_n 2, 1) := by decide +kernel
theorem d_Rock_meet_129 : decode prog_6_method_12_code 129 = .ok (.getfield 146, 3) := by decide +kernel
theorem d_Rock_meet_132 : decode prog_6_method_12_code 132 = .ok (.aload_n 0, 1) := by decide +kernel
theorem d_Rock_meet_133 : decode prog_6_method_12_code 133 = .ok (.getfield 57, 3) := by decide +kernel
theorem d_Rock_meet_136 : decode prog_6_method_12_code 136 = .ok (.getfield 152, 3) := by decide +kernel
theorem d_Rock_meet_139 : decode prog_6_method_12_code 139 = .ok (.imul, 1) := by decide +kernel
theorem d_Rock_meet_140 : decode prog_6_method_12_code 140 = .ok (.iadd, 1) := by decide +kernel
theorem d_Rock_meet_141 : decode prog_6_method_12_code 141 = .ok (.aload_n 3, 1) := by decide +kernel
theorem d_Rock_meet_142 : decode prog_6_method_12_code 142 = .ok (.getfield 146, 3) := by decide +kernel
theorem d_Rock_meet_145 : decode prog_6_method_12_code 145 = .ok (.aload_n 0, 1) := by decide +kernel
theorem d_Rock_meet_146 : decode prog_6_method_12_code 146 = .ok (.getfield 60, 3) := by decide +kernel
theorem d_Rock_meet_149 : decode prog_6_method_12_code 149 = .ok (.getfield 152, 3) := by decide +kernel
theorem d_Rock_meet_152 : decode prog_6_method_12_code 152 = .ok (.imul, 1) := by decide +kernel
theorem d_Rock_meet_153 : decode prog_6_method_12_code 153 = .ok (.iadd, 1) := by decide +kernel
theorem d_Rock_meet_154 : decode prog_6_method_12_code 154 = .ok (.istore 7, 2) := by decide +kernel
theorem d_Rock_meet_156 : decode prog_6_method_12_code 156 = .ok (.aload_n 1, 1) := by decide +kernel
theorem d_Rock_meet_157 : decode prog_6_method_12_code 157 = .ok (.getfield 146, 3) := by decide +kernel
theorem d_Rock_meet_160 : decode prog_6_method_12_code 160 = .ok (.aload_n 0, 1) := by decide +kernel
theorem d_Rock_meet_161 : decode prog_6_method_12_code 161 = .ok (.getfield 53, 3) := by decide +kernel
theorem d_Rock_meet_164 : decode prog_6_method_12_code 164 = .ok (.getfield 155, 3) := by decide +kernel
theorem d_Rock_meet_167 : decode prog_6_method_12_code 167 = .ok (.imul, 1) := by decide +kernel
theorem d_Rock_meet_168 : decode prog_6_method_12_code 168 = .ok (.aload_n 2, 1) := by decide +kernel
theorem d_Rock_meet_169 : decode prog_6_method_12_code 169 = .ok (.getfield 146, 3) := by decide +kernel
theorem d_Rock_meet_172 : decode prog_6_method_12_code 172 = .ok (.aload_n 0, 1) := by decide +kernel
theorem d_Rock_meet_173 : decode prog_6_method_12_code 173 = .ok (.getfield 57, 3) := by decide +kernel
theorem d_Rock_meet_176 : decode prog_6_method_12_code 176 = .ok (.getfield 155, 3) := by decide +kernel
theorem d_Rock_meet_179 : decode prog_6_method_12_code 179 = .ok (.imul, 1) := by decide +kernel
theorem d_Rock_meet_180 : decode prog_6_method_12_code 180 = .ok (.iadd, 1) := by decide +kernel
theorem d_Rock_meet_181 : decode prog_6_method_12_code 181 = .ok (.aload_n 3, 1) := by decide +kernel
theorem d_Rock_meet_182 : decode prog_6_method_12_code 182 = .ok (.getfield 146, 3) := by decide +kernel
theorem d_Rock_meet_185 : decode prog_6_method_12_code 185 = .ok (.aload_n 0, 1) := by decide +kernel
theorem d_Rock_meet_186 : decode prog_6_method_12_code 186 = .ok (.getfield 60, 3) := by decide +kernel
theorem d_Rock_meet_189 : decode prog_6_method_12_code 189 = .ok (.getfield 155, 3) := by decide +kernel
theorem d_Rock_meet_192 : decode prog_6_method_12_code 192 = .ok (.imul, 1) := by decide +kernel
theorem d_Rock_meet_193 : decode prog_6_method_12_code 193 = .ok (.iadd, 1) := by decide +kernel
theorem d_Rock_meet_194 : decode prog_6_method_12_code 194 = .ok (.istore 8, 2) := by decide +kernel
theorem d_Rock_meet_196 : decode prog_6_method_12_code 196 = .ok (.aload_n 0, 1) := by decide +kernel
theorem d_Rock_meet_197 : decode prog_6_method_12_code 197 = .ok (.iload 5, 2) := by decide +kernel
theorem d_Rock_meet_199 : decode prog_6_method_12_code 199 = .ok (.iload 6, 2) := by decide +kernel
theorem d_Rock_meet_201 : decode prog_6_method_12_code 201 = .ok (.imul, 1) := by decide +kernel
theorem d_Rock_meet_202 : decode prog_6_method_12_code 202 = .ok (.iload 5, 2) := by decide +kernel
theorem d_Rock_meet_204 : decode prog_6_method_12_code 204 = .ok (.iload 7, 2) := by decide +kernel
theorem d_Rock_meet_206 : decode prog_6_method_12_code 206 = .ok (.imul, 1) := by decide +kernel
theorem d_Rock_meet_207 : decode prog_6_method_12_code 207 = .ok (.iload 5, 2) := by decide +kernel
theorem d_Rock_meet_209 : decode prog_6_method_12_code 209 = .ok (.iload 8, 2) := by decide +kernel
theorem d_Rock_meet_211 : decode prog_6_method_12_code 211 = .ok (.imul, 1) := by decide +kernel
theorem d_Rock_meet_212 : decode prog_6_method_12_code 212 = .ok (.iload 5, 2) := by decide +kernel
theorem d_Rock_meet_214 : decode prog_6_method_12_code 214 = .ok (.iload 4, 2) := by decide +kernel
theorem d_Rock_meet_216 : decode prog_6_method_12_code 216 = .ok (.imul, 1) := by decide +kernel
theorem d_Rock_meet_217 : decode prog_6_method_12_code 217 = .ok (.invokevirtual 158, 3) := by decide +kernel
theorem d_Rock_meet_220 : decode prog_6_method_12_code 220 = .ok (.return_, 1) := by decide +kernel
theorem d_Arrow_setCross_0 : decode prog_2_method_4_code 0 = .ok (.aload_n 0, 1) := by decide +kernel
theorem d_Arrow_setCross_1 : decode prog_2_method_4_code 1 = .ok (.aload_n 1, 1) := by decide +kernel
theorem d_Arrow_setCross_2 : decode prog_2_method_4_code 2 = .ok (.getfield 13, 3) := by decide +kernel
theorem d_Arrow_setCross_5 : decode prog_2_method_4_code 5 = .ok (.aload_n 2, 1) := by decide +kernel
theorem d_Arrow_setCross_6 : decode prog_2_method_4_code 6 = .ok (.getfield 16, 3) := by decide +kernel
theorem d_Arrow_setCross_9 : decode prog_2_method_4_code 9 = .ok (.imul, 1) := by decide +kernel
theorem d_Arrow_setCross_10 : decode prog_2_method_4_code 10 = .ok (.aload_n 1, 1) := by decide +kernel
theorem d_Arrow_setCross_11 : decode prog_2_method_4_code 11 = .ok (.getfield 16, 3) := by decide +kernel
theorem d_Arrow_setCross_14 : decode prog_2_method_4_code 14 = .ok (.aload_n 2, 1) := by decide +kernel
theorem d_Arrow_setCross_15 : decode prog_2_method_4_code 15 = .ok (.getfield 13, 3) := by decide +kernel
theorem d_Arrow_setCross_18 : decode prog_2_method_4_code 18 = .ok (.imul, 1) := by decide +kernel
theorem d_Arrow_setCross_19 : decode prog_2_method_4_code 19 = .ok (.isub, 1) := by decide +kernel
theorem d_Arrow_setCross_20 : decode prog_2_method_4_code 20 = .ok (.aload_n 1, 1) := by decide +kernel
theorem d_Arrow_setCross_21 : decode prog_2_method_4_code 21 = .ok (.getfield 16, 3) := by decide +kernel
theorem d_Arrow_setCross_24 : decode prog_2_method_4_code 24 = .ok (.aload_n 2, 1) := by decide +kernel
theorem d_Arrow_setCross_25 : decode prog_2_method_4_code 25 = .ok (.getfield 7, 3) := by decide +kernel
theorem d_Arrow_setCross_28 : decode prog_2_method_4_code 28 = .ok (.imul, 1) := by decide +kernel
theorem d_Arrow_setCross_29 : decode prog_2_method_4_code 29 = .ok (.aload_n 1, 1) := by decide +kernel
theorem d_Arrow_setCross_30 : decode prog_2_method_4_code 30 = .ok (.getfield 7, 3) := by decide +kernel
theorem d_Arrow_setCross_33 : decode prog_2_method_4_code 33 = .ok (.aload_n 2, 1) := by decide +kernel
theorem d_Arrow_setCross_34 : decode prog_2_method_4_code 34 = .ok (.getfield 16, 3) := by decide +kernel
theorem d_Arrow_setCross_37 : decode prog_2_method_4_code 37 = .ok (.imul, 1) := by decide +kernel
theorem d_Arrow_setCross_38 : decode prog_2_method_4_code 38 = .ok (.isub, 1) := by decide +kernel
theorem d_Arrow_setCross_39 : decode prog_2_method_4_code 39 = .ok (.aload_n 1, 1) := by decide +kernel
theorem d_Arrow_setCross_40 : decode prog_2_method_4_code 40 = .ok (.getfield 7, 3) := by decide +kernel
theorem d_Arrow_setCross_43 : decode prog_2_method_4_code 43 = .ok (.aload_n 2, 1) := by decide +kernel
theorem d_Arrow_setCross_44 : decode prog_2_method_4_code 44 = .ok (.getfield 13, 3) := by decide +kernel
theorem d_Arrow_setCross_47 : decode prog_2_method_4_code 47 = .ok (.imul, 1) := by decide +kernel
theorem d_Arrow_setCross_48 : decode prog_2_method_4_code 48 = .ok (.aload_n 1, 1) := by decide +kernel
theorem d_Arrow_setCross_49 : decode prog_2_method_4_code 49 = .ok (.getfield 13, 3) := by decide +kernel
theorem d_Arrow_setCross_52 : decode prog_2_method_4_code 52 = .ok (.aload_n 2, 1) := by decide +kernel
theorem d_Arrow_setCross_53 : decode prog_2_method_4_code 53 = .ok (.getfield 7, 3) := by decide +kernel
theorem d_Arrow_setCross_56 : decode prog_2_method_4_code 56 = .ok (.imul, 1) := by decide +kernel
theorem d_Arrow_setCross_57 : decode prog_2_method_4_code 57 = .ok (.isub, 1) := by decide +kernel
theorem d_Arrow_setCross_58 : decode prog_2_method_4_code 58 = .ok (.invokevirtual 19, 3) := by decide +kernel
theorem d_Arrow_setCross_61 : decode prog_2_method_4_code 61 = .ok (.return_, 1) := by decide +kernel
theorem d_Arrow_times_0 : decode prog_2_method_6_code 0 = .ok (.aload_n 0, 1) := by decide +kernel
theorem d_Arrow_times_1 : decode prog_2_method_6_code 1 = .ok (.getfield 7, 3) := by decide +kernel
theorem d_Arrow_times_4 : decode prog_2_method_6_code 4 = .ok (.aload_n 1, 1) := by decide +kernel
theorem d_Arrow_times_5 : decode prog_2_method_6_code 5 = .ok (.getfield 7, 3) := by decide +kernel
theorem d_Arrow_times_8 : decode prog_2_method_6_code 8 = .ok (.imul, 1) := by decide +kernel
theorem d_Arrow_times_9 : decode prog_2_method_6_code 9 = .ok (.aload_n 0, 1) := by decide +kernel
theorem d_Arrow_times_10 : decode prog_2_method_6_code 10 = .ok (.getfield 13, 3) := by decide +kernel
theorem d_Arrow_times_13 : decode prog_2_method_6_code 13 = .ok (.aload_n 1, 1) := by decide +kernel
theorem d_Arrow_times_14 : decode prog_2_method_6_code 14 = .ok (.getfield 13, 3) := by decide +kernel
theorem d_Arrow_times_17 : decode prog_2_method_6_code 17 = .ok (.imul, 1) := by decide +kernel
theorem d_Arrow_times_18 : decode prog_2_method_6_code 18 = .ok (.iadd, 1) := by decide +kernel
theorem d_Arrow_times_19 : decode prog_2_method_6_code 19 = .ok (.aload_n 0, 1) := by decide +kernel
theorem d_Arrow_times_20 : decode prog_2_method_6_code 20 = .ok (.getfield 16, 3) := by decide +kernel
theorem d_Arrow_times_23 : decode prog_2_method_6_code 23 = .ok (.aload_n 1, 1) := by decide +kernel
theorem d_Arrow_times_24 : decode prog_2_method_6_code 24 = .ok (.getfield 16, 3) := by decide +kernel
theorem d_Arrow_times_27 : decode prog_2_method_6_code 27 = .ok (.imul, 1) := by decide +kernel
theorem d_Arrow_times_28 : decode prog_2_method_6_code 28 = .ok (.iadd, 1) := by decide +kernel
theorem d_Arrow_times_29 : decode prog_2_method_6_code 29 = .ok (.ireturn, 1) := by decide +kernel
theorem d_Rock_addPoint_0 : decode prog_6_method_13_code 0 = .ok (.aload_n 0, 1) := by decide +kernel
theorem d_Rock_addPoint_1 : decode prog_6_method_13_code 1 = .ok (.iload_n 1, 1) := by decide +kernel
theorem d_Rock_addPoint_2 : decode prog_6_method_13_code 2 = .ok (.iload_n 2, 1) := by decide +kernel
theorem d_Rock_addPoint_3 : decode prog_6_method_13_code 3 = .ok (.iload_n 3, 1) := by decide +kernel
theorem d_Rock_addPoint_4 : decode prog_6_method_13_code 4 = .ok (.iload 4, 2) := by decide +kernel
theorem d_Rock_addPoint_6 : decode prog_6_method_13_code 6 = .ok (.invokevirtual 161, 3) := by decide +kernel
theorem d_Rock_addPoint_9 : decode prog_6_method_13_code 9 = .ok (.ifCond .ne 4, 3) := by decide +kernel
theorem d_Rock_addPoint_12 : decode prog_6_method_13_code 12 = .ok (.return_, 1) := by decide +kernel
theorem d_Rock_addPoint_13 : decode prog_6_method_13_code 13 = .ok (.iload_n 1, 1) := by decide +kernel
theorem d_Rock_addPoint_14 : decode prog_6_method_13_code 14 = .ok (.iload_n 2, 1) := by decide +kernel
theorem d_Rock_addPoint_15 : decode prog_6_method_13_code 15 = .ok (.invokestatic 164, 3) := by decide +kernel
theorem d_Rock_addPoint_18 : decode prog_6_method_13_code 18 = .ok (.iload_n 3, 1) := by decide +kernel
theorem d_Rock_addPoint_19 : decode prog_6_method_13_code 19 = .ok (.iload 4, 2) := by decide +kernel
theorem d_Rock_addPoint_21 : decode prog_6_method_13_code 21 = .ok (.invokestatic 164, 3) := by decide +kernel
theorem d_Rock_addPoint_24 : decode prog_6_method_13_code 24 = .ok (.invokestatic 164, 3) := by decide +kernel
theorem d_Rock_addPoint_27 : decode prog_6_method_13_code 27 = .ok (.istore 5, 2) := by decide +kernel
theorem d_Rock_addPoint_29 : decode prog_6_method_13_code 29 = .ok (.iload 5, 2) := by decide +kernel
theorem d_Rock_addPoint_31 : decode prog_6_method_13_code 31 = .ok (.ifCond .eq 30, 3) := by decide +kernel
theorem d_Rock_addPoint_34 : decode prog_6_method_13_code 34 = .ok (.aload_n 0, 1) := by decide +kernel
theorem d_Rock_addPoint_35 : decode prog_6_method_13_code 35 = .ok (.getfield 20, 3) := by decide +kernel
theorem d_Rock_addPoint_38 : decode prog_6_method_13_code 38 = .ok (.iload_n 1, 1) := by decide +kernel
theorem d_Rock_addPoint_39 : decode prog_6_method_13_code 39 = .ok (.iload 5, 2) := by decide +kernel
theorem d_Rock_addPoint_41 : decode prog_6_method_13_code 41 = .ok (.idiv, 1) := by decide +kernel
theorem d_Rock_addPoint_42 : decode prog_6_method_13_code 42 = .ok (.iload_n 2, 1) := by decide +kernel
theorem d_Rock_addPoint_43 : decode prog_6_method_13_code 43 = .ok (.iload 5, 2) := by decide +kernel
theorem d_Rock_addPoint_45 : decode prog_6_method_13_code 45 = .ok (.idiv, 1) := by decide +kernel
theorem d_Rock_addPoint_46 : decode prog_6_method_13_code 46 = .ok (.iload_n 3, 1) := by decide +kernel
theorem d_Rock_addPoint_47 : decode prog_6_method_13_code 47 = .ok (.iload 5, 2) := by decide +kernel
theorem d_Rock_addPoint_49 : decode prog_6_method_13_code 49 = .ok (.idiv, 1) := by decide +kernel
theorem d_Rock_addPoint_50 : decode prog_6_method_13_code 50 = .ok (.iload 4, 2) := by decide +kernel
theorem d_Rock_addPoint_52 : decode prog_6_method_13_code 52 = .ok (.iload 5, 2) := by decide +kernel
theorem d_Rock_addPoint_54 : decode prog_6_method_13_code 54 = .ok (.idiv, 1) := by decide +kernel
theorem d_Rock_addPoint_55 : decode prog_6_method_13_code 55 = .ok (.invokevirtual 167, 3) := by decide +kernel
theorem d_Rock_addPoint_58 : decode prog_6_method_13_code 58 = .ok (.ifCond .eq 4, 3) := by decide +kernel
theorem d_Rock_addPoint_61 : decode prog_6_method_13_code 61 = .ok (.return_, 1) := by decide +kernel
theorem d_Rock_addPoint_62 : decode prog_6_method_13_code 62 = .ok (.aload_n 0, 1) := by decide +kernel
theorem d_Rock_addPoint_63 : decode prog_6_method_13_code 63 = .ok (.getfield 20, 3) := by decide +kernel
theorem d_Rock_addPoint_66 : decode prog_6_method_13_code 66 = .ok (.iload_n 1, 1) := by decide +kernel
theorem d_Rock_addPoint_67 : decode prog_6_method_13_code 67 = .ok (.iload 5, 2) := by decide +kernel
theorem d_Rock_addPoint_69 : decode prog_6_method_13_code 69 = .ok (.idiv, 1) := by decide +kernel
theorem d_Rock_addPoint_70 : decode prog_6_method_13_code 70 = .ok (.iload_n 2, 1) := by decide +kernel
theorem d_Rock_addPoint_71 : decode prog_6_method_13_code 71 = .ok (.iload 5, 2) := by decide +kernel
theorem d_Rock_addPoint_73 : decode prog_6_method_13_code 73 = .ok (.idiv, 1) := by decide +kernel
theorem d_Rock_addPoint_74 : decode prog_6_method_13_code 74 = .ok (.iload_n 3, 1) := by decide +kernel
theorem d_Rock_addPoint_75 : decode prog_6_method_13_code 75 = .ok (.iload 5, 2) := by decide +kernel
theorem d_Rock_addPoint_77 : decode prog_6_method_13_code 77 = .ok (.idiv, 1) := by decide +kernel
theorem d_Rock_addPoint_78 : decode prog_6_method_13_code 78 = .ok (.iload 4, 2) := by decide +kernel
theorem d_Rock_addPoint_80 : decode prog_6_method_13_code 80 = .ok (.iload 5, 2) := by decide +kernel
theorem d_Rock_addPoint_82 : decode prog_6_method_13_code 82 = .ok (.idiv, 1) := by decide +kernel
theorem d_Rock_addPoint_83 : decode prog_6_method_13_code 83 = .ok (.invokevirtual 170, 3) := by decide +kernel
theorem d_Rock_addPoint_86 : decode prog_6_method_13_code 86 = .ok (.iconst 0, 1) := by decide +kernel
theorem d_Rock_addPoint_87 : decode prog_6_method_13_code 87 = .ok (.istore 6, 2) := by decide +kernel
theorem d_Rock_addPoint_89 : decode prog_6_method_13_code 89 = .ok (.iload 6, 2) := by decide +kernel
theorem d_Rock_addPoint_91 : decode prog_6_method_13_code 91 = .ok (.bipush 12, 2) := by decide +kernel
theorem d_Rock_addPoint_93 : decode prog_6_method_13_code 93 = .ok (.if_icmp .ge 46, 3) := by decide +kernel
theorem d_Rock_addPoint_96 : decode prog_6_method_13_code 96 = .ok (.aload_n 0, 1) := by decide +kernel
theorem d_Rock_addPoint_97 : decode prog_6_method_13_code 97 = .ok (.getfield 63, 3) := by decide +kernel
theorem d_Rock_addPoint_100 : decode prog_6_method_13_code 100 = .ok (.iload 6, 2) := by decide +kernel
theorem d_Rock_addPoint_102 : decode prog_6_method_13_code 102 = .ok (.invokestatic 107, 3) := by decide +kernel
theorem d_Rock_addPoint_105 : decode prog_6_method_13_code 105 = .ok (.ifCond .eq 28, 3) := by decide +kernel
theorem d_Rock_addPoint_108 : decode prog_6_method_13_code 108 = .ok (.aload_n 0, 1) := by decide +kernel
theorem d_Rock_addPoint_109 : decode prog_6_method_13_code 109 = .ok (.getfield 20, 3) := by decide +kernel
theorem d_Rock_addPoint_112 : decode prog_6_method_13_code 112 = .ok (.aload_n 0, 1) := by decide +kernel
theorem d_Rock_addPoint_113 : decode prog_6_method_13_code 113 = .ok (.getfield 20, 3) := by decide +kernel
theorem d_Rock_addPoint_116 : decode prog_6_method_13_code 116 = .ok (.getfield 100, 3) := by decide +kernel
theorem d_Rock_addPoint_119 : decode prog_6_method_13_code 119 = .ok (.iconst 1, 1) := by decide +kernel
theorem d_Rock_addPoint_120 : decode prog_6_method_13_code 120 = .ok (.isub, 1) := by decide +kernel
theorem d_Rock_addPoint_121 : decode prog_6_method_13_code 121 = .ok (.iload 6, 2) := by decide +kernel
theorem d_Rock_addPoint_123 : decode prog_6_method_13_code 123 = .ok (.aload_n 0, 1) := by decide +kernel
theorem d_Rock_addPoint_124 : decode prog_6_method_13_code 124 = .ok (.getfield 11, 3) := by decide +kernel
theorem d_Rock_addPoint_127 : decode prog_6_method_13_code 127 = .ok (.iload 6, 2) := by decide +kernel
theorem d_Rock_addPoint_129 : decode prog_6_method_13_code 129 = .ok (.aaload, 1) := by decide +kernel
theorem d_Rock_addPoint_130 : decode prog_6_method_13_code 130 = .ok (.invokevirtual 127, 3) := by decide +kernel
theorem d_Rock_addPoint_133 : decode prog_6_method_13_code 133 = .ok (.iinc 6 1, 3) := by decide +kernel
theorem d_Rock_addPoint_136 : decode prog_6_method_13_code 136 = .ok (.goto (-47), 3) := by decide +kernel
theorem d_Rock_addPoint_139 : decode prog_6_method_13_code 139 = .ok (.return_, 1) := by decide +kernel
theorem d_Rock_isInBox_0 : decode prog_6_method_14_code 0 = .ok (.iload_n 1, 1) := by decide +kernel
theorem d_Rock_isInBox_1 : decode prog_6_method_14_code 1 = .ok (.ifCond .lt 48, 3) := by decide +kernel
theorem d_Rock_isInBox_4 : decode prog_6_method_14_code 4 = .ok (.iload_n 1, 1) := by decide +kernel
theorem d_Rock_isInBox_5 : decode prog_6_method_14_code 5 = .ok (.aload_n 0, 1) := by decide +kernel
theorem d_Rock_isInBox_6 : decode prog_6_method_14_code 6 = .ok (.getfield 66, 3) := by decide +kernel
theorem d_Rock_isInBox_9 : decode prog_6_method_14_code 9 = .ok (.iload 4, 2) := by decide +kernel
theorem d_Rock_isInBox_11 : decode prog_6_method_14_code 11 = .ok (.imul, 1) := by decide +kernel
theorem d_Rock_isInBox_12 : decode prog_6_method_14_code 12 = .ok (.if_icmp .gt 37, 3) := by decide +kernel
theorem d_Rock_isInBox_15 : decode prog_6_method_14_code 15 = .ok (.iload_n 2, 1) := by decide +kernel
theorem d_Rock_isInBox_16 : decode prog_6_method_14_code 16 = .ok (.ifCond .lt 33, 3) := by decide +kernel
theorem d_Rock_isInBox_19 : decode prog_6_method_14_code 19 = .ok (.iload_n 2, 1) := by decide +kernel
theorem d_Rock_isInBox_20 : decode prog_6_method_14_code 20 = .ok (.aload_n 0, 1) := by decide +kernel
theorem d_Rock_isInBox_21 : decode prog_6_method_14_code 21 = .ok (.getfield 69, 3) := by decide +kernel
theorem d_Rock_isInBox_24 : decode prog_6_method_14_code 24 = .ok (.iload 4, 2) := by decide +kernel
theorem d_Rock_isInBox_26 : decode prog_6_method_14_code 26 = .ok (.imul, 1) := by decide +kernel
theorem d_Rock_isInBox_27 : decode prog_6_method_14_code 27 = .ok (.if_icmp .gt 22, 3) := by decide +kernel
theorem d_Rock_isInBox_30 : decode prog_6_method_14_code 30 = .ok (.iload_n 3, 1) := by decide +kernel
theorem d_Rock_isInBox_31 : decode prog_6_method_14_code 31 = .ok (.ifCond .lt 18, 3) := by decide +kernel
theorem d_Rock_isInBox_34 : decode prog_6_method_14_code 34 = .ok (.iload_n 3, 1) := by decide +kernel
theorem d_Rock_isInBox_35 : decode prog_6_method_14_code 35 = .ok (.aload_n 0, 1) := by decide +kernel
theorem d_Rock_isInBox_36 : decode prog_6_method_14_code 36 = .ok (.getfield 72, 3) := by decide +kernel
theorem d_Rock_isInBox_39 : decode prog_6_method_14_code 39 = .ok (.iload 4, 2) := by decide +kernel
theorem d_Rock_isInBox_41 : decode prog_6_method_14_code 41 = .ok (.imul, 1) := by decide +kernel
theorem d_Rock_isInBox_42 : decode prog_6_method_14_code 42 = .ok (.if_icmp .gt 7, 3) := by decide +kernel
theorem d_Rock_isInBox_45 : decode prog_6_method_14_code 45 = .ok (.iconst 1, 1) := by decide +kernel
theorem d_Rock_isInBox_46 : decode prog_6_method_14_code 46 = .ok (.goto 4, 3) := by decide +kernel
theorem d_Rock_isInBox_49 : decode prog_6_method_14_code 49 = .ok (.iconst 0, 1) := by decide +kernel
theorem d_Rock_isInBox_50 : decode prog_6_method_14_code 50 = .ok (.ireturn, 1) := by decide +kernel
theorem d_Rock_commonDivisor_0 : decode prog_6_method_15_code 0 = .ok (.iload_n 0, 1) := by decide +kernel
theorem d_Rock_commonDivisor_1 : decode prog_6_method_15_code 1 = .ok (.istore_n 2, 1) := by decide +kernel
theorem d_Rock_commonDivisor_2 : decode prog_6_method_15_code 2 = .ok (.iload_n 1, 1) := by decide +kernel
theorem d_Rock_commonDivisor_3 : decode prog_6_method_15_code 3 = .ok (.istore_n 3, 1) := by decide +kernel
theorem d_Rock_commonDivisor_4 : decode prog_6_method_15_code 4 = .ok (.iconst 0, 1) := by decide +kernel
theorem d_Rock_commonDivisor_5 : decode prog_6_method_15_code 5 = .ok (.istore 4, 2) := by decide +kernel
theorem d_Rock_commonDivisor_7 : decode prog_6_method_15_code 7 = .ok (.iload 4, 2) := by decide +kernel
theorem d_Rock_commonDivisor_9 : decode prog_6_method_15_code 9 = .ok (.bipush 64, 2) := by decide +kernel
theorem d_Rock_commonDivisor_11 : decode prog_6_method_15_code 11 = .ok (.if_icmp .ge 23, 3) := by decide +kernel
theorem d_Rock_commonDivisor_14 : decode prog_6_method_15_code 14 = .ok (.iload_n 3, 1) := by decide +kernel
theorem d_Rock_commonDivisor_15 : decode prog_6_method_15_code 15 = .ok (.ifCond .eq 19, 3) := by decide +kernel
theorem d_Rock_commonDivisor_18 : decode prog_6_method_15_code 18 = .ok (.iload_n 2, 1) := by decide +kernel
theorem d_Rock_commonDivisor_19 : decode prog_6_method_15_code 19 = .ok (.iload_n 3, 1) := by decide +kernel
theorem d_Rock_commonDivisor_20 : decode prog_6_method_15_code 20 = .ok (.irem, 1) := by decide +kernel
theorem d_Rock_commonDivisor_21 : decode prog_6_method_15_code 21 = .ok (.istore 5, 2) := by decide +kernel
theorem d_Rock_commonDivisor_23 : decode prog_6_method_15_code 23 = .ok (.iload_n 3, 1) := by decide +kernel
theorem d_Rock_commonDivisor_24 : decode prog_6_method_15_code 24 = .ok (.istore_n 2, 1) := by decide +kernel
theorem d_Rock_commonDivisor_25 : decode prog_6_method_15_code 25 = .ok (.iload 5, 2) := by decide +kernel
theorem d_Rock_commonDivisor_27 : decode prog_6_method_15_code 27 = .ok (.istore_n 3, 1) := by decide +kernel
theorem d_Rock_commonDivisor_28 : decode prog_6_method_15_code 28 = .ok (.iinc 4 1, 3) := by decide +kernel
theorem d_Rock_commonDivisor_31 : decode prog_6_method_15_code 31 = .ok (.goto (-24), 3) := by decide +kernel
theorem d_Rock_commonDivisor_34 : decode prog_6_method_15_code 34 = .ok (.iload_n 2, 1) := by decide +kernel
theorem d_Rock_commonDivisor_35 : decode prog_6_method_15_code 35 = .ok (.ireturn, 1) := by decide +kernel
theorem d_Points_has_0 : decode prog_5_method_2_code 0 = .ok (.iconst 0, 1) := by decide +kernel
theorem d_Points_has_1 : decode prog_5_method_2_code 1 = .ok (.istore 5, 2) := by decide +kernel
theorem d_Points_has_3 : decode prog_5_method_2_code 3 = .ok (.iload 5, 2) := by decide +kernel
theorem d_Points_has_5 : decode prog_5_method_2_code 5 = .ok (.aload_n 0, 1) := by decide +kernel
theorem d_Points_has_6 : decode prog_5_method_2_code 6 = .ok (.getfield 28, 3) := by decide +kernel
theorem d_Points_has_9 : decode prog_5_method_2_code 9 = .ok (.if_icmp .ge 56, 3) := by decide +kernel
theorem d_Points_has_12 : decode prog_5_method_2_code 12 = .ok (.aload_n 0, 1) := by decide +kernel
theorem d_Points_has_13 : decode prog_5_method_2_code 13 = .ok (.getfield 9, 3) := by decide +kernel
theorem d_Points_has_16 : decode prog_5_method_2_code 16 = .ok (.iload 5, 2) := by decide +kernel
theorem d_Points_has_18 : decode prog_5_method_2_code 18 = .ok (.iaload, 1) := by decide +kernel
theorem d_Points_has_19 : decode prog_5_method_2_code 19 = .ok (.iload_n 1, 1) := by decide +kernel
theorem d_Points_has_20 : decode prog_5_method_2_code 20 = .ok (.if_icmp .ne 39, 3) := by decide +kernel
theorem d_Points_has_23 : decode prog_5_method_2_code 23 = .ok (.aload_n 0, 1) := by decide +kernel
theorem d_Points_has_24 : decode prog_5_method_2_code 24 = .ok (.getfield 13, 3) := by decide +kernel
theorem d_Points_has_27 : decode prog_5_method_2_code 27 = .ok (.iload 5, 2) := by decide +kernel
theorem d_Points_has_29 : decode prog_5_method_2_code 29 = .ok (.iaload, 1) := by decide +kernel
theorem d_Points_has_30 : decode prog_5_method_2_code 30 = .ok (.iload_n 2, 1) := by decide +kernel
theorem d_Points_has_31 : decode prog_5_method_2_code 31 = .ok (.if_icmp .ne 28, 3) := by decide +kernel
theorem d_Points_has_34 : decode prog_5_method_2_code 34 = .ok (.aload_n 0, 1) := by decide +kernel
theorem d_Points_has_35 : decode prog_5_method_2_code 35 = .ok (.getfield 16, 3) := by decide +kernel
theorem d_Points_has_38 : decode prog_5_method_2_code 38 = .ok (.iload 5, 2) := by decide +kernel
theorem d_Points_has_40 : decode prog_5_method_2_code 40 = .ok (.iaload, 1) := by decide +kernel
theorem d_Points_has_41 : decode prog_5_method_2_code 41 = .ok (.iload_n 3, 1) := by decide +kernel
theorem d_Points_has_42 : decode prog_5_method_2_code 42 = .ok (.if_icmp .ne 17, 3) := by decide +kernel
theorem d_Points_has_45 : decode prog_5_method_2_code 45 = .ok (.aload_n 0, 1) := by decide +kernel
theorem d_Points_has_46 : decode prog_5_method_2_code 46 = .ok (.getfield 19, 3) := by decide +kernel
theorem d_Points_has_49 : decode prog_5_method_2_code 49 = .ok (.iload 5, 2) := by decide +kernel
theorem d_Points_has_51 : decode prog_5_method_2_code 51 = .ok (.iaload, 1) := by decide +kernel
theorem d_Points_has_52 : decode prog_5_method_2_code 52 = .ok (.iload 4, 2) := by decide +kernel
theorem d_Points_has_54 : decode prog_5_method_2_code 54 = .ok (.if_icmp .ne 5, 3) := by decide +kernel
theorem d_Points_has_57 : decode prog_5_method_2_code 57 = .ok (.iconst 1, 1) := by decide +kernel
theorem d_Points_has_58 : decode prog_5_method_2_code 58 = .ok (.ireturn, 1) := by decide +kernel
theorem d_Points_has_59 : decode prog_5_method_2_code 59 = .ok (.iinc 5 1, 3) := by decide +kernel
theorem d_Points_has_62 : decode prog_5_method_2_code 62 = .ok (.goto (-59), 3) := by decide +kernel
theorem d_Points_has_65 : decode prog_5_method_2_code 65 = .ok (.iconst 0, 1) := by decide +kernel
theorem d_Points_has_66 : decode prog_5_method_2_code 66 = .ok (.ireturn, 1) := by decide +kernel
theorem d_Points_add_0 : decode prog_5_method_3_code 0 = .ok (.aload_n 0, 1) := by decide +kernel
theorem d_Points_add_1 : decode prog_5_method_3_code 1 = .ok (.getfield 28, 3) := by decide +kernel
theorem d_Points_add_4 : decode prog_5_method_3_code 4 = .ok (.sipush 220, 3) := by decide +kernel
theorem d_Points_add_7 : decode prog_5_method_3_code 7 = .ok (.if_icmp .ge 74, 3) := by decide +kernel
theorem d_Points_add_10 : decode prog_5_method_3_code 10 = .ok (.aload_n 0, 1) := by decide +kernel
theorem d_Points_add_11 : decode prog_5_method_3_code 11 = .ok (.getfield 9, 3) := by decide +kernel
theorem d_Points_add_14 : decode prog_5_method_3_code 14 = .ok (.aload_n 0, 1) := by decide +kernel
theorem d_Points_add_15 : decode prog_5_method_3_code 15 = .ok (.getfield 28, 3) := by decide +kernel
theorem d_Points_add_18 : decode prog_5_method_3_code 18 = .ok (.iload_n 1, 1) := by decide +kernel
theorem d_Points_add_19 : decode prog_5_method_3_code 19 = .ok (.iastore, 1) := by decide +kernel
theorem d_Points_add_20 : decode prog_5_method_3_code 20 = .ok (.aload_n 0, 1) := by decide +kernel
theorem d_Points_add_21 : decode prog_5_method_3_code 21 = .ok (.getfield 13, 3) := by decide +kernel
theorem d_Points_add_24 : decode prog_5_method_3_code 24 = .ok (.aload_n 0, 1) := by decide +kernel
theorem d_Points_add_25 : decode prog_5_method_3_code 25 = .ok (.getfield 28, 3) := by decide +kernel
theorem d_Points_add_28 : decode prog_5_method_3_code 28 = .ok (.iload_n 2, 1) := by decide +kernel
theorem d_Points_add_29 : decode prog_5_method_3_code 29 = .ok (.iastore, 1) := by decide +kernel
theorem d_Points_add_30 : decode prog_5_method_3_code 30 = .ok (.aload_n 0, 1) := by decide +kernel
theorem d_Points_add_31 : decode prog_5_method_3_code 31 = .ok (.getfield 16, 3) := by decide +kernel
theorem d_Points_add_34 : decode prog_5_method_3_code 34 = .ok (.aload_n 0, 1) := by decide +kernel
theorem d_Points_add_35 : decode prog_5_method_3_code 35 = .ok (.getfield 28, 3) := by decide +kernel
theorem d_Points_add_38 : decode prog_5_method_3_code 38 = .ok (.iload_n 3, 1) := by decide +kernel
theorem d_Points_add_39 : decode prog_5_method_3_code 39 = .ok (.iastore, 1) := by decide +kernel
theorem d_Points_add_40 : decode prog_5_method_3_code 40 = .ok (.aload_n 0, 1) := by decide +kernel
theorem d_Points_add_41 : decode prog_5_method_3_code 41 = .ok (.getfield 19, 3) := by decide +kernel
theorem d_Points_add_44 : decode prog_5_method_3_code 44 = .ok (.aload_n 0, 1) := by decide +kernel
theorem d_Points_add_45 : decode prog_5_method_3_code 45 = .ok (.getfield 28, 3) := by decide +kernel
theorem d_Points_add_48 : decode prog_5_method_3_code 48 = .ok (.iload 4, 2) := by decide +kernel
theorem d_Points_add_50 : decode prog_5_method_3_code 50 = .ok (.iastore, 1) := by decide +kernel
theorem d_Points_add_51 : decode prog_5_method_3_code 51 = .ok (.aload_n 0, 1) := by decide +kernel
theorem d_Points_add_52 : decode prog_5_method_3_code 52 = .ok (.getfield 22, 3) := by decide +kernel
theorem d_Points_add_55 : decode prog_5_method_3_code 55 = .ok (.aload_n 0, 1) := by decide +kernel
theorem d_Points_add_56 : decode prog_5_method_3_code 56 = .ok (.getfield 28, 3) := by decide +kernel
theorem d_Points_add_59 : decode prog_5_method_3_code 59 = .ok (.iconst 0, 1) := by decide +kernel
theorem d_Points_add_60 : decode prog_5_method_3_code 60 = .ok (.iastore, 1) := by decide +kernel
theorem d_Points_add_61 : decode prog_5_method_3_code 61 = .ok (.aload_n 0, 1) := by decide +kernel
theorem d_Points_add_62 : decode prog_5_method_3_code 62 = .ok (.getfield 25, 3) := by decide +kernel
theorem d_Points_add_65 : decode prog_5_method_3_code 65 = .ok (.aload_n 0, 1) := by decide +kernel
theorem d_Points_add_66 : decode prog_5_method_3_code 66 = .ok (.getfield 28, 3) := by decide +kernel
theorem d_Points_add_69 : decode prog_5_method_3_code 69 = .ok (.iconst 0, 1) := by decide +kernel
theorem d_Points_add_70 : decode prog_5_method_3_code 70 = .ok (.iastore, 1) := by decide +kernel
theorem d_Points_add_71 : decode prog_5_method_3_code 71 = .ok (.aload_n 0, 1) := by decide +kernel
theorem d_Points_add_72 : decode prog_5_method_3_code 72 = .ok (.dup, 1) := by decide +kernel
theorem d_Points_add_73 : decode prog_5_method_3_code 73 = .ok (.getfield 28, 3) := by decide +kernel
theorem d_Points_add_76 : decode prog_5_method_3_code 76 = .ok (.iconst 1, 1) := by decide +kernel
theorem d_Points_add_77 : decode prog_5_method_3_code 77 = .ok (.iadd, 1) := by decide +kernel
theorem d_Points_add_78 : decode prog_5_method_3_code 78 = .ok (.putfield 28, 3) := by decide +kernel
theorem d_Points_add_81 : decode prog_5_method_3_code 81 = .ok (.return_, 1) := by decide +kernel
theorem d_Rock_findBlocks_0 : decode prog_6_method_16_code 0 = .ok (.aload_n 0, 1) := by decide +kernel
theorem d_Rock_findBlocks_1 : decode prog_6_method_16_code 1 = .ok (.iconst 0, 1) := by decide +kernel
theorem d_Rock_findBlocks_2 : decode prog_6_method_16_code 2 = .ok (.putfield 41, 3) := by decide +kernel
theorem d_Rock_findBlocks_5 : decode prog_6_method_16_code 5 = .ok (.iconst 0, 1) := by decide +kernel
theorem d_Rock_findBlocks_6 : decode prog_6_method_16_code 6 = .ok (.istore_n 1, 1) := by decide +kernel
theorem d_Rock_findBlocks_7 : decode prog_6_method_16_code 7 = .ok (.iload_n 1, 1) := by decide +kernel
theorem d_Rock_findBlocks_8 : decode prog_6_method_16_code 8 = .ok (.bipush 64, 2) := by decide +kernel
theorem d_Rock_findBlocks_10 : decode prog_6_method_16_code 10 = .ok (.if_icmp .ge 31, 3) := by decide +kernel
theorem d_Rock_findBlocks_13 : decode prog_6_method_16_code 13 = .ok (.aload_n 0, 1) := by decide +kernel
theorem d_Rock_findBlocks_14 : decode prog_6_method_16_code 14 = .ok (.getfield 34, 3) := by decide +kernel
theorem d_Rock_findBlocks_17 : decode prog_6_method_16_code 17 = .ok (.iload_n 1, 1) := by decide +kernel
theorem d_Rock_findBlocks_18 : decode prog_6_method_16_code 18 = .ok (.iconst (-1), 1) := by decide +kernel
theorem d_Rock_findBlocks_19 : decode prog_6_method_16_code 19 = .ok (.iastore, 1) := by decide +kernel
theorem d_Rock_findBlocks_20 : decode prog_6_method_16_code 20 = .ok (.iload_n 1, 1) := by decide +kernel
theorem d_Rock_findBlocks_21 : decode prog_6_method_16_code 21 = .ok (.iconst 1, 1) := by decide +kernel
theorem d_Rock_findBlocks_22 : decode prog_6_method_16_code 22 = .ok (.aload_n 0, 1) := by decide +kernel
theorem d_Rock_findBlocks_23 : decode prog_6_method_16_code 23 = .ok (.getfield 37, 3) := by decide +kernel
theorem d_Rock_findBlocks_26 : decode prog_6_method_16_code 26 = .ok (.ishl, 1) := by decide +kernel
theorem d_Rock_findBlocks_27 : decode prog_6_method_16_code 27 = .ok (.if_icmp .ge 8, 3) := by decide +kernel
theorem d_Rock_findBlocks_30 : decode prog_6_method_16_code 30 = .ok (.aload_n 0, 1) := by decide +kernel
theorem d_Rock_findBlocks_31 : decode prog_6_method_16_code 31 = .ok (.iload_n 1, 1) := by decide +kernel
theorem d_Rock_findBlocks_32 : decode prog_6_method_16_code 32 = .ok (.invokevirtual 173, 3) := by decide +kernel
theorem d_Rock_findBlocks_35 : decode prog_6_method_16_code 35 = .ok (.iinc 1 1, 3) := by decide +kernel
theorem d_Rock_findBlocks_38 : decode prog_6_method_16_code 38 = .ok (.goto (-31), 3) := by decide +kernel
theorem d_Rock_findBlocks_41 : decode prog_6_method_16_code 41 = .ok (.return_, 1) := by decide +kernel
theorem d_Rock_findBlock_0 : decode prog_6_method_17_code 0 = .ok (.iconst 0, 1) := by decide +kernel
theorem d_Rock_findBlock_1 : decode prog_6_method_17_code 1 = .ok (.istore_n 2, 1) := by decide +kernel
theorem d_Rock_findBlock_2 : decode prog_6_method_17_code 2 = .ok (.iconst 0, 1) := by decide +kernel
theorem d_Rock_findBlock_3 : decode prog_6_method_17_code 3 = .ok (.istore_n 3, 1) := by decide +kernel
theorem d_Rock_findBlock_4 : decode prog_6_method_17_code 4 = .ok (.iconst 0, 1) := by decide +kernel
theorem d_Rock_findBlock_5 : decode prog_6_method_17_code 5 = .ok (.istore 4, 2) := by decide +kernel
theorem d_Rock_findBlock_7 : decode prog_6_method_17_code 7 = .ok (.iconst 0, 1) := by decide +kernel
theorem d_Rock_findBlock_8 : decode prog_6_method_17_code 8 = .ok (.istore 5, 2) := by decide +kernel
theorem d_Rock_findBlock_10 : decode prog_6_method_17_code 10 = .ok (.iconst 0, 1) := by decide +kernel
theorem d_Rock_findBlock_11 : decode prog_6_method_17_code 11 = .ok (.istore 6, 2) := by decide +kernel
theorem d_Rock_findBlock_13 : decode prog_6_method_17_code 13 = .ok (.iconst 0, 1) := by decide +kernel
theorem d_Rock_findBlock_14 : decode prog_6_method_17_code 14 = .ok (.istore 7, 2) := by decide +kernel
theorem d_Rock_findBlock_16 : decode prog_6_method_17_code 16 = .ok (.iload 7, 2) := by decide +kernel
theorem d_Rock_findBlock_18 : decode prog_6_method_17_code 18 = .ok (.aload_n 0, 1) := by decide +kernel
theorem d_Rock_findBlock_19 : decode prog_6_method_17_code 19 = .ok (.getfield 20, 3) := by decide +kernel
theorem d_Rock_findBlock_22 : decode prog_6_method_17_code 22 = .ok (.getfield 100, 3) := by decide +kernel
theorem d_Rock_findBlock_25 : decode prog_6_method_17_code 25 = .ok (.if_icmp .ge 95, 3) := by decide +kernel
theorem d_Rock_findBlock_28 : decode prog_6_method_17_code 28 = .ok (.aload_n 0, 1) := by decide +kernel
theorem d_Rock_findBlock_29 : decode prog_6_method_17_code 29 = .ok (.getfield 20, 3) := by decide +kernel
theorem d_Rock_findBlock_32 : decode prog_6_method_17_code 32 = .ok (.iload 7, 2) := by decide +kernel
theorem d_Rock_findBlock_34 : decode prog_6_method_17_code 34 = .ok (.iload_n 1, 1) := by decide +kernel
theorem d_Rock_findBlock_35 : decode prog_6_method_17_code 35 = .ok (.sipush 1344, 3) := by decide +kernel
theorem d_Rock_findBlock_38 : decode prog_6_method_17_code 38 = .ok (.ior, 1) := by decide +kernel
theorem d_Rock_findBlock_39 : decode prog_6_method_17_code 39 = .ok (.invokevirtual 111, 3) := by decide +kernel
theorem d_Rock_findBlock_42 : decode prog_6_method_17_code 42 = .ok (.ifCond .eq 72, 3) := by decide +kernel
theorem d_Rock_findBlock_45 : decode prog_6_method_17_code 45 = .ok (.aload_n 0, 1) := by decide +kernel
theorem d_Rock_findBlock_46 : decode prog_6_method_17_code 46 = .ok (.getfield 20, 3) := by decide +kernel
theorem d_Rock_findBlock_49 : decode prog_6_method_17_code 49 = .ok (.getfield 176, 3) := by decide +kernel
theorem d_Rock_findBlock_52 : decode prog_6_method_17_code 52 = .ok (.iload 7, 2) := by decide +kernel
theorem d_Rock_findBlock_54 : decode prog_6_method_17_code 54 = .ok (.iaload, 1) := by decide +kernel
theorem d_Rock_findBlock_55 : decode prog_6_method_17_code 55 = .ok (.aload_n 0, 1) := by decide +kernel
theorem d_Rock_findBlock_56 : decode prog_6_method_17_code 56 = .ok (.getfield 20, 3) := by decide +kernel
theorem d_Rock_findBlock_59 : decode prog_6_method_17_code 59 = .ok (.getfield 179, 3) := by decide +kernel
theorem d_Rock_findBlock_62 : decode prog_6_method_17_code 62 = .ok (.iload 7, 2) := by decide +kernel
theorem d_Rock_findBlock_64 : decode prog_6_method_17_code 64 = .ok (.iaload, 1) := by decide +kernel
theorem d_Rock_findBlock_65 : decode prog_6_method_17_code 65 = .ok (.ior, 1) := by decide +kernel
theorem d_Rock_findBlock_66 : decode prog_6_method_17_code 66 = .ok (.istore 8, 2) := by decide +kernel
theorem d_Rock_findBlock_68 : decode prog_6_method_17_code 68 = .ok (.aload_n 0, 1) := by decide +kernel
theorem d_Rock_findBlock_69 : decode prog_6_method_17_code 69 = .ok (.getfield 63, 3) := by decide +kernel
theorem d_Rock_findBlock_72 : decode prog_6_method_17_code 72 = .ok (.iload 8, 2) := by decide +kernel
theorem d_Rock_findBlock_74 : decode prog_6_method_17_code 74 = .ok (.iconst (-1), 1) := by decide +kernel
theorem d_Rock_findBlock_75 : decode prog_6_method_17_code 75 = .ok (.ixor, 1) := by decide +kernel
theorem d_Rock_findBlock_76 : decode prog_6_method_17_code 76 = .ok (.iand, 1) := by decide +kernel
theorem d_Rock_findBlock_77 : decode prog_6_method_17_code 77 = .ok (.istore 9, 2) := by decide +kernel
theorem d_Rock_findBlock_79 : decode prog_6_method_17_code 79 = .ok (.iinc 2 1, 3) := by decide +kernel
theorem d_Rock_findBlock_82 : decode prog_6_method_17_code 82 = .ok (.iload_n 3, 1) := by decide +kernel
theorem d_Rock_findBlock_83 : decode prog_6_method_17_code 83 = .ok (.iload 8, 2) := by decide +kernel
theorem d_Rock_findBlock_85 : decode prog_6_method_17_code 85 = .ok (.ior, 1) := by decide +kernel
theorem d_Rock_findBlock_86 : decode prog_6_method_17_code 86 = .ok (.istore_n 3, 1) := by decide +kernel
theorem d_Rock_findBlock_87 : decode prog_6_method_17_code 87 = .ok (.iload 6, 2) := by decide +kernel
theorem d_Rock_findBlock_89 : decode prog_6_method_17_code 89 = .ok (.iload 5, 2) := by decide +kernel
theorem d_Rock_findBlock_91 : decode prog_6_method_17_code 91 = .ok (.iload 9, 2) := by decide +kernel
theorem d_Rock_findBlock_93 : decode prog_6_method_17_code 93 = .ok (.iand, 1) := by decide +kernel
theorem d_Rock_findBlock_94 : decode prog_6_method_17_code 94 = .ok (.ior, 1) := by decide +kernel
theorem d_Rock_findBlock_95 : decode prog_6_method_17_code 95 = .ok (.istore 6, 2) := by decide +kernel
theorem d_Rock_findBlock_97 : decode prog_6_method_17_code 97 = .ok (.iload 5, 2) := by decide +kernel
theorem d_Rock_findBlock_99 : decode prog_6_method_17_code 99 = .ok (.iload 4, 2) := by decide +kernel
theorem d_Rock_findBlock_101 : decode prog_6_method_17_code 101 = .ok (.iload 9, 2) := by decide +kernel
theorem d_Rock_findBlock_103 : decode prog_6_method_17_code 103 = .ok (.iand, 1) := by decide +kernel
theorem d_Rock_findBlock_104 : decode prog_6_method_17_code 104 = .ok (.ior, 1) := by decide +kernel
theorem d_Rock_findBlock_105 : decode prog_6_method_17_code 105 = .ok (.istore 5, 2) := by decide +kernel
theorem d_Rock_findBlock_107 : decode prog_6_method_17_code 107 = .ok (.iload 4, 2) := by decide +kernel
theorem d_Rock_findBlock_109 : decode prog_6_method_17_code 109 = .ok (.iload 9, 2) := by decide +kernel
theorem d_Rock_findBlock_111 : decode prog_6_method_17_code 111 = .ok (.ior, 1) := by decide +kernel
theorem d_Rock_findBlock_112 : decode prog_6_method_17_code 112 = .ok (.istore 4, 2) := by decide +kernel
theorem d_Rock_findBlock_114 : decode prog_6_method_17_code 114 = .ok (.iinc 7 1, 3) := by decide +kernel
theorem d_Rock_findBlock_117 : decode prog_6_method_17_code 117 = .ok (.goto (-101), 3) := by decide +kernel
theorem d_Rock_findBlock_120 : decode prog_6_method_17_code 120 = .ok (.iload_n 3, 1) := by decide +kernel
theorem d_Rock_findBlock_121 : decode prog_6_method_17_code 121 = .ok (.aload_n 0, 1) := by decide +kernel
theorem d_Rock_findBlock_122 : decode prog_6_method_17_code 122 = .ok (.getfield 63, 3) := by decide +kernel
theorem d_Rock_findBlock_125 : decode prog_6_method_17_code 125 = .ok (.if_icmp .ne 11, 3) := by decide +kernel
theorem d_Rock_findBlock_128 : decode prog_6_method_17_code 128 = .ok (.aload_n 0, 1) := by decide +kernel
theorem d_Rock_findBlock_129 : decode prog_6_method_17_code 129 = .ok (.iload_n 1, 1) := by decide +kernel
theorem d_Rock_findBlock_130 : decode prog_6_method_17_code 130 = .ok (.iload 6, 2) := by decide +kernel
theorem d_Rock_findBlock_132 : decode prog_6_method_17_code 132 = .ok (.iload_n 2, 1) := by decide +kernel
theorem d_Rock_findBlock_133 : decode prog_6_method_17_code 133 = .ok (.invokevirtual 182, 3) := by decide +kernel
theorem d_Rock_findBlock_136 : decode prog_6_method_17_code 136 = .ok (.return_, 1) := by decide +kernel
theorem d_Points_touches_0 : decode prog_5_method_6_code 0 = .ok (.aload_n 0, 1) := by decide +kernel
theorem d_Points_touches_1 : decode prog_5_method_6_code 1 = .ok (.getfield 22, 3) := by decide +kernel
theorem d_Points_touches_4 : decode prog_5_method_6_code 4 = .ok (.iload_n 1, 1) := by decide +kernel
theorem d_Points_touches_5 : decode prog_5_method_6_code 5 = .ok (.iaload, 1) := by decide +kernel
theorem d_Points_touches_6 : decode prog_5_method_6_code 6 = .ok (.iload_n 2, 1) := by decide +kernel
theorem d_Points_touches_7 : decode prog_5_method_6_code 7 = .ok (.iconst (-1), 1) := by decide +kernel
theorem d_Points_touches_8 : decode prog_5_method_6_code 8 = .ok (.ixor, 1) := by decide +kernel
theorem d_Points_touches_9 : decode prog_5_method_6_code 9 = .ok (.iand, 1) := by decide +kernel
theorem d_Points_touches_10 : decode prog_5_method_6_code 10 = .ok (.ifCond .ne 18, 3) := by decide +kernel
theorem d_Points_touches_13 : decode prog_5_method_6_code 13 = .ok (.aload_n 0, 1) := by decide +kernel
theorem d_Points_touches_14 : decode prog_5_method_6_code 14 = .ok (.getfield 25, 3) := by decide +kernel
theorem d_Points_touches_17 : decode prog_5_method_6_code 17 = .ok (.iload_n 1, 1) := by decide +kernel
theorem d_Points_touches_18 : decode prog_5_method_6_code 18 = .ok (.iaload, 1) := by decide +kernel
theorem d_Points_touches_19 : decode prog_5_method_6_code 19 = .ok (.iload_n 2, 1) := by decide +kernel
theorem d_Points_touches_20 : decode prog_5_method_6_code 20 = .ok (.iand, 1) := by decide +kernel
theorem d_Points_touches_21 : decode prog_5_method_6_code 21 = .ok (.ifCond .ne 7, 3) := by decide +kernel
theorem d_Points_touches_24 : decode prog_5_method_6_code 24 = .ok (.iconst 1, 1) := by decide +kernel
theorem d_Points_touches_25 : decode prog_5_method_6_code 25 = .ok (.goto 4, 3) := by decide +kernel
theorem d_Points_touches_28 : decode prog_5_method_6_code 28 = .ok (.iconst 0, 1) := by decide +kernel
theorem d_Points_touches_29 : decode prog_5_method_6_code 29 = .ok (.ireturn, 1) := by decide +kernel
theorem d_Rock_addBlock_0 : decode prog_6_method_18_code 0 = .ok (.aload_n 0, 1) := by decide +kernel
theorem d_Rock_addBlock_1 : decode prog_6_method_18_code 1 = .ok (.getfield 41, 3) := by decide +kernel
theorem d_Rock_addBlock_4 : decode prog_6_method_18_code 4 = .ok (.bipush 64, 2) := by decide +kernel
theorem d_Rock_addBlock_6 : decode prog_6_method_18_code 6 = .ok (.if_icmp .ge 53, 3) := by decide +kernel
theorem d_Rock_addBlock_9 : decode prog_6_method_18_code 9 = .ok (.aload_n 0, 1) := by decide +kernel
theorem d_Rock_addBlock_10 : decode prog_6_method_18_code 10 = .ok (.getfield 24, 3) := by decide +kernel
theorem d_Rock_addBlock_13 : decode prog_6_method_18_code 13 = .ok (.aload_n 0, 1) := by decide +kernel
theorem d_Rock_addBlock_14 : decode prog_6_method_18_code 14 = .ok (.getfield 41, 3) := by decide +kernel
theorem d_Rock_addBlock_17 : decode prog_6_method_18_code 17 = .ok (.iload_n 1, 1) := by decide +kernel
theorem d_Rock_addBlock_18 : decode prog_6_method_18_code 18 = .ok (.iastore, 1) := by decide +kernel
theorem d_Rock_addBlock_19 : decode prog_6_method_18_code 19 = .ok (.aload_n 0, 1) := by decide +kernel
theorem d_Rock_addBlock_20 : decode prog_6_method_18_code 20 = .ok (.getfield 28, 3) := by decide +kernel
theorem d_Rock_addBlock_23 : decode prog_6_method_18_code 23 = .ok (.aload_n 0, 1) := by decide +kernel
theorem d_Rock_addBlock_24 : decode prog_6_method_18_code 24 = .ok (.getfield 41, 3) := by decide +kernel
theorem d_Rock_addBlock_27 : decode prog_6_method_18_code 27 = .ok (.iload_n 2, 1) := by decide +kernel
theorem d_Rock_addBlock_28 : decode prog_6_method_18_code 28 = .ok (.iastore, 1) := by decide +kernel
theorem d_Rock_addBlock_29 : decode prog_6_method_18_code 29 = .ok (.aload_n 0, 1) := by decide +kernel
theorem d_Rock_addBlock_30 : decode prog_6_method_18_code 30 = .ok (.getfield 31, 3) := by decide +kernel
theorem d_Rock_addBlock_33 : decode prog_6_method_18_code 33 = .ok (.aload_n 0, 1) := by decide +kernel
theorem d_Rock_addBlock_34 : decode prog_6_method_18_code 34 = .ok (.getfield 41, 3) := by decide +kernel
theorem d_Rock_addBlock_37 : decode prog_6_method_18_code 37 = .ok (.iload_n 3, 1) := by decide +kernel
theorem d_Rock_addBlock_38 : decode prog_6_method_18_code 38 = .ok (.iastore, 1) := by decide +kernel
theorem d_Rock_addBlock_39 : decode prog_6_method_18_code 39 = .ok (.aload_n 0, 1) := by decide +kernel
theorem d_Rock_addBlock_40 : decode prog_6_method_18_code 40 = .ok (.getfield 34, 3) := by decide +kernel
theorem d_Rock_addBlock_43 : decode prog_6_method_18_code 43 = .ok (.iload_n 1, 1) := by decide +kernel
theorem d_Rock_addBlock_44 : decode prog_6_method_18_code 44 = .ok (.aload_n 0, 1) := by decide +kernel
theorem d_Rock_addBlock_45 : decode prog_6_method_18_code 45 = .ok (.getfield 41, 3) := by decide +kernel
theorem d_Rock_addBlock_48 : decode prog_6_method_18_code 48 = .ok (.iastore, 1) := by decide +kernel
theorem d_Rock_addBlock_49 : decode prog_6_method_18_code 49 = .ok (.aload_n 0, 1) := by decide +kernel
theorem d_Rock_addBlock_50 : decode prog_6_method_18_code 50 = .ok (.dup, 1) := by decide +kernel
theorem d_Rock_addBlock_51 : decode prog_6_method_18_code 51 = .ok (.getfield 41, 3) := by decide +kernel
theorem d_Rock_addBlock_54 : decode prog_6_method_18_code 54 = .ok (.iconst 1, 1) := by decide +kernel
theorem d_Rock_addBlock_55 : decode prog_6_method_18_code 55 = .ok (.iadd, 1) := by decide +kernel
theorem d_Rock_addBlock_56 : decode prog_6_method_18_code 56 = .ok (.putfield 41, 3) := by decide +kernel
theorem d_Rock_addBlock_59 : decode prog_6_method_18_code 59 = .ok (.return_, 1) := by decide +kernel
theorem d_WP_unjoint_0 : decode prog_1_method_3_code 0 = .ok (.aload_n 0, 1) := by decide +kernel
theorem d_WP_unjoint_1 : decode prog_1_method_3_code 1 = .ok (.getfield 57, 3) := by decide +kernel
theorem d_WP_unjoint_4 : decode prog_1_method_3_code 4 = .ok (.getfield 78, 3) := by decide +kernel
theorem d_WP_unjoint_7 : decode prog_1_method_3_code 7 = .ok (.ifCond .ne 5, 3) := by decide +kernel
theorem d_WP_unjoint_10 : decode prog_1_method_3_code 10 = .ok (.iconst (-1), 1) := by decide +kernel
theorem d_WP_unjoint_11 : decode prog_1_method_3_code 11 = .ok (.ireturn, 1) := by decide +kernel
theorem d_WP_unjoint_12 : decode prog_1_method_3_code 12 = .ok (.aload_n 0, 1) := by decide +kernel
theorem d_WP_unjoint_13 : decode prog_1_method_3_code 13 = .ok (.invokevirtual 86, 3) := by decide +kernel
theorem d_WP_unjoint_16 : decode prog_1_method_3_code 16 = .ok (.aload_n 0, 1) := by decide +kernel
theorem d_WP_unjoint_17 : decode prog_1_method_3_code 17 = .ok (.getfield 57, 3) := by decide +kernel
theorem d_WP_unjoint_20 : decode prog_1_method_3_code 20 = .ok (.invokevirtual 93, 3) := by decide +kernel
theorem d_WP_unjoint_23 : decode prog_1_method_3_code 23 = .ok (.aload_n 0, 1) := by decide +kernel
theorem d_WP_unjoint_24 : decode prog_1_method_3_code 24 = .ok (.getfield 57, 3) := by decide +kernel
theorem d_WP_unjoint_27 : decode prog_1_method_3_code 27 = .ok (.getfield 78, 3) := by decide +kernel
theorem d_WP_unjoint_30 : decode prog_1_method_3_code 30 = .ok (.ireturn, 1) := by decide +kernel
theorem d_WP_putAllBack_0 : decode prog_1_method_25_code 0 = .ok (.iconst 0, 1) := by decide +kernel
theorem d_WP_putAllBack_1 : decode prog_1_method_25_code 1 = .ok (.istore_n 1, 1) := by decide +kernel
theorem d_WP_putAllBack_2 : decode prog_1_method_25_code 2 = .ok (.iload_n 1, 1) := by decide +kernel
theorem d_WP_putAllBack_3 : decode prog_1_method_25_code 3 = .ok (.bipush 64, 2) := by decide +kernel
theorem d_WP_putAllBack_5 : decode prog_1_method_25_code 5 = .ok (.if_icmp .ge 16, 3) := by decide +kernel
theorem d_WP_putAllBack_8 : decode prog_1_method_25_code 8 = .ok (.aload_n 0, 1) := by decide +kernel
theorem d_WP_putAllBack_9 : decode prog_1_method_25_code 9 = .ok (.getfield 27, 3) := by decide +kernel
theorem d_WP_putAllBack_12 : decode prog_1_method_25_code 12 = .ok (.iload_n 1, 1) := by decide +kernel
theorem d_WP_putAllBack_13 : decode prog_1_method_25_code 13 = .ok (.iconst 0, 1) := by decide +kernel
theorem d_WP_putAllBack_14 : decode prog_1_method_25_code 14 = .ok (.bastore, 1) := by decide +kernel
theorem d_WP_putAllBack_15 : decode prog_1_method_25_code 15 = .ok (.iinc 1 1, 3) := by decide +kernel
theorem d_WP_putAllBack_18 : decode prog_1_method_25_code 18 = .ok (.goto (-16), 3) := by decide +kernel
theorem d_WP_putAllBack_21 : decode prog_1_method_25_code 21 = .ok (.aload_n 0, 1) := by decide +kernel
theorem d_WP_putAllBack_22 : decode prog_1_method_25_code 22 = .ok (.iconst 0, 1) := by decide +kernel
theorem d_WP_putAllBack_23 : decode prog_1_method_25_code 23 = .ok (.putfield 38, 3) := by decide +kernel
theorem d_WP_putAllBack_26 : decode prog_1_method_25_code 26 = .ok (.return_, 1) := by decide +kernel
theorem d_Rock_dropJoint_0 : decode prog_6_method_5_code 0 = .ok (.aload_n 0, 1) := by decide +kernel
theorem d_Rock_dropJoint_1 : decode prog_6_method_5_code 1 = .ok (.getfield 37, 3) := by decide +kernel
theorem d_Rock_dropJoint_4 : decode prog_6_method_5_code 4 = .ok (.ifCond .le 54, 3) := by decide +kernel
theorem d_Rock_dropJoint_7 : decode prog_6_method_5_code 7 = .ok (.aload_n 0, 1) := by decide +kernel
theorem d_Rock_dropJoint_8 : decode prog_6_method_5_code 8 = .ok (.dup, 1) := by decide +kernel
theorem d_Rock_dropJoint_9 : decode prog_6_method_5_code 9 = .ok (.getfield 37, 3) := by decide +kernel
theorem d_Rock_dropJoint_12 : decode prog_6_method_5_code 12 = .ok (.iconst 1, 1) := by decide +kernel
theorem d_Rock_dropJoint_13 : decode prog_6_method_5_code 13 = .ok (.isub, 1) := by decide +kernel
theorem d_Rock_dropJoint_14 : decode prog_6_method_5_code 14 = .ok (.putfield 37, 3) := by decide +kernel
theorem d_Rock_dropJoint_17 : decode prog_6_method_5_code 17 = .ok (.aload_n 0, 1) := by decide +kernel
theorem d_Rock_dropJoint_18 : decode prog_6_method_5_code 18 = .ok (.dup, 1) := by decide +kernel
theorem d_Rock_dropJoint_19 : decode prog_6_method_5_code 19 = .ok (.getfield 63, 3) := by decide +kernel
theorem d_Rock_dropJoint_22 : decode prog_6_method_5_code 22 = .ok (.iconst 1, 1) := by decide +kernel
theorem d_Rock_dropJoint_23 : decode prog_6_method_5_code 23 = .ok (.aload_n 0, 1) := by decide +kernel
theorem d_Rock_dropJoint_24 : decode prog_6_method_5_code 24 = .ok (.getfield 37, 3) := by decide +kernel
theorem d_Rock_dropJoint_27 : decode prog_6_method_5_code 27 = .ok (.ishl, 1) := by decide +kernel
theorem d_Rock_dropJoint_28 : decode prog_6_method_5_code 28 = .ok (.iconst (-1), 1) := by decide +kernel
theorem d_Rock_dropJoint_29 : decode prog_6_method_5_code 29 = .ok (.ixor, 1) := by decide +kernel
theorem d_Rock_dropJoint_30 : decode prog_6_method_5_code 30 = .ok (.iand, 1) := by decide +kernel
theorem d_Rock_dropJoint_31 : decode prog_6_method_5_code 31 = .ok (.putfield 63, 3) := by decide +kernel
theorem d_Rock_dropJoint_34 : decode prog_6_method_5_code 34 = .ok (.aload_n 0, 1) := by decide +kernel
theorem d_Rock_dropJoint_35 : decode prog_6_method_5_code 35 = .ok (.getfield 20, 3) := by decide +kernel
theorem d_Rock_dropJoint_38 : decode prog_6_method_5_code 38 = .ok (.aload_n 0, 1) := by decide +kernel
theorem d_Rock_dropJoint_39 : decode prog_6_method_5_code 39 = .ok (.getfield 37, 3) := by decide +kernel
theorem d_Rock_dropJoint_42 : decode prog_6_method_5_code 42 = .ok (.aload_n 0, 1) := by decide +kernel
theorem d_Rock_dropJoint_43 : decode prog_6_method_5_code 43 = .ok (.getfield 44, 3) := by decide +kernel
theorem d_Rock_dropJoint_46 : decode prog_6_method_5_code 46 = .ok (.aload_n 0, 1) := by decide +kernel
theorem d_Rock_dropJoint_47 : decode prog_6_method_5_code 47 = .ok (.getfield 37, 3) := by decide +kernel
theorem d_Rock_dropJoint_50 : decode prog_6_method_5_code 50 = .ok (.iaload, 1) := by decide +kernel
theorem d_Rock_dropJoint_51 : decode prog_6_method_5_code 51 = .ok (.invokevirtual 103, 3) := by decide +kernel
theorem d_Rock_dropJoint_54 : decode prog_6_method_5_code 54 = .ok (.aload_n 0, 1) := by decide +kernel
theorem d_Rock_dropJoint_55 : decode prog_6_method_5_code 55 = .ok (.invokevirtual 84, 3) := by decide +kernel
theorem d_Rock_dropJoint_58 : decode prog_6_method_5_code 58 = .ok (.return_, 1) := by decide +kernel
theorem d_Points_dropFace_0 : decode prog_5_method_5_code 0 = .ok (.aload_n 0, 1) := by decide +kernel
theorem d_Points_dropFace_1 : decode prog_5_method_5_code 1 = .ok (.iload_n 2, 1) := by decide +kernel
theorem d_Points_dropFace_2 : decode prog_5_method_5_code 2 = .ok (.putfield 28, 3) := by decide +kernel
theorem d_Points_dropFace_5 : decode prog_5_method_5_code 5 = .ok (.iconst 0, 1) := by decide +kernel
theorem d_Points_dropFace_6 : decode prog_5_method_5_code 6 = .ok (.istore_n 3, 1) := by decide +kernel
theorem d_Points_dropFace_7 : decode prog_5_method_5_code 7 = .ok (.iload_n 3, 1) := by decide +kernel
theorem d_Points_dropFace_8 : decode prog_5_method_5_code 8 = .ok (.aload_n 0, 1) := by decide +kernel
theorem d_Points_dropFace_9 : decode prog_5_method_5_code 9 = .ok (.getfield 28, 3) := by decide +kernel
theorem d_Points_dropFace_12 : decode prog_5_method_5_code 12 = .ok (.if_icmp .ge 37, 3) := by decide +kernel
theorem d_Points_dropFace_15 : decode prog_5_method_5_code 15 = .ok (.aload_n 0, 1) := by decide +kernel
theorem d_Points_dropFace_16 : decode prog_5_method_5_code 16 = .ok (.getfield 22, 3) := by decide +kernel
theorem d_Points_dropFace_19 : decode prog_5_method_5_code 19 = .ok (.iload_n 3, 1) := by decide +kernel
theorem d_Points_dropFace_20 : decode prog_5_method_5_code 20 = .ok (.dup2, 1) := by decide +kernel
theorem d_Points_dropFace_21 : decode prog_5_method_5_code 21 = .ok (.iaload, 1) := by decide +kernel
theorem d_Points_dropFace_22 : decode prog_5_method_5_code 22 = .ok (.iconst 1, 1) := by decide +kernel
theorem d_Points_dropFace_23 : decode prog_5_method_5_code 23 = .ok (.iload_n 1, 1) := by decide +kernel
theorem d_Points_dropFace_24 : decode prog_5_method_5_code 24 = .ok (.ishl, 1) := by decide +kernel
theorem d_Points_dropFace_25 : decode prog_5_method_5_code 25 = .ok (.iconst (-1), 1) := by decide +kernel
theorem d_Points_dropFace_26 : decode prog_5_method_5_code 26 = .ok (.ixor, 1) := by decide +kernel
theorem d_Points_dropFace_27 : decode prog_5_method_5_code 27 = .ok (.iand, 1) := by decide +kernel
theorem d_Points_dropFace_28 : decode prog_5_method_5_code 28 = .ok (.iastore, 1) := by decide +kernel
theorem d_Points_dropFace_29 : decode prog_5_method_5_code 29 = .ok (.aload_n 0, 1) := by decide +kernel
theorem d_Points_dropFace_30 : decode prog_5_method_5_code 30 = .ok (.getfield 25, 3) := by decide +kernel
theorem d_Points_dropFace_33 : decode prog_5_method_5_code 33 = .ok (.iload_n 3, 1) := by decide +kernel
theorem d_Points_dropFace_34 : decode prog_5_method_5_code 34 = .ok (.dup2, 1) := by decide +kernel
theorem d_Points_dropFace_35 : decode prog_5_method_5_code 35 = .ok (.iaload, 1) := by decide +kernel
theorem d_Points_dropFace_36 : decode prog_5_method_5_code 36 = .ok (.iconst 1, 1) := by decide +kernel
theorem d_Points_dropFace_37 : decode prog_5_method_5_code 37 = .ok (.iload_n 1, 1) := by decide +kernel
theorem d_Points_dropFace_38 : decode prog_5_method_5_code 38 = .ok (.ishl, 1) := by decide +kernel
theorem d_Points_dropFace_39 : decode prog_5_method_5_code 39 = .ok (.iconst (-1), 1) := by decide +kernel
theorem d_Points_dropFace_40 : decode prog_5_method_5_code 40 = .ok (.ixor, 1) := by decide +kernel
theorem d_Points_dropFace_41 : decode prog_5_method_5_code 41 = .ok (.iand, 1) := by decide +kernel
theorem d_Points_dropFace_42 : decode prog_5_method_5_code 42 = .ok (.iastore, 1) := by decide +kernel
theorem d_Points_dropFace_43 : decode prog_5_method_5_code 43 = .ok (.iinc 3 1, 3) := by decide +kernel
theorem d_Points_dropFace_46 : decode prog_5_method_5_code 46 = .ok (.goto (-39), 3) := by decide +kernel
theorem d_Points_dropFace_49 : decode prog_5_method_5_code 49 = .ok (.return_, 1) := by decide +kernel
theorem d_WP_blocks_0 : decode prog_1_method_7_code 0 = .ok (.aload_n 0, 1) := by decide +kernel
theorem d_WP_blocks_1 : decode prog_1_method_7_code 1 = .ok (.getfield 57, 3) := by decide +kernel
theorem d_WP_blocks_4 : decode prog_1_method_7_code 4 = .ok (.getfield 115, 3) := by decide +kernel
theorem d_WP_blocks_7 : decode prog_1_method_7_code 7 = .ok (.ireturn, 1) := by decide +kernel
theorem d_WP_find_0 : decode prog_1_method_10_code 0 = .ok (.iload_n 1, 1) := by decide +kernel
theorem d_WP_find_1 : decode prog_1_method_10_code 1 = .ok (.ifCond .lt 9, 3) := by decide +kernel
theorem d_WP_find_4 : decode prog_1_method_10_code 4 = .ok (.iload_n 1, 1) := by decide +kernel
theorem d_WP_find_5 : decode prog_1_method_10_code 5 = .ok (.bipush 64, 2) := by decide +kernel
theorem d_WP_find_7 : decode prog_1_method_10_code 7 = .ok (.if_icmp .lt 7, 3) := by decide +kernel
theorem d_WP_find_10 : decode prog_1_method_10_code 10 = .ok (.iconst (-1), 1) := by decide +kernel
theorem d_WP_find_11 : decode prog_1_method_10_code 11 = .ok (.goto 12, 3) := by decide +kernel
theorem d_WP_find_14 : decode prog_1_method_10_code 14 = .ok (.aload_n 0, 1) := by decide +kernel
theorem d_WP_find_15 : decode prog_1_method_10_code 15 = .ok (.getfield 57, 3) := by decide +kernel
theorem d_WP_find_18 : decode prog_1_method_10_code 18 = .ok (.getfield 162, 3) := by decide +kernel
theorem d_WP_find_21 : decode prog_1_method_10_code 21 = .ok (.iload_n 1, 1) := by decide +kernel
theorem d_WP_find_22 : decode prog_1_method_10_code 22 = .ok (.iaload, 1) := by decide +kernel
theorem d_WP_find_23 : decode prog_1_method_10_code 23 = .ok (.ireturn, 1) := by decide +kernel
theorem d_WP_order_0 : decode prog_1_method_14_code 0 = .ok (.iconst 0, 1) := by decide +kernel
theorem d_WP_order_1 : decode prog_1_method_14_code 1 = .ok (.istore_n 1, 1) := by decide +kernel
theorem d_WP_order_2 : decode prog_1_method_14_code 2 = .ok (.iload_n 1, 1) := by decide +kernel
theorem d_WP_order_3 : decode prog_1_method_14_code 3 = .ok (.bipush 64, 2) := by decide +kernel
theorem d_WP_order_5 : decode prog_1_method_14_code 5 = .ok (.if_icmp .ge 16, 3) := by decide +kernel
theorem d_WP_order_8 : decode prog_1_method_14_code 8 = .ok (.aload_n 0, 1) := by decide +kernel
theorem d_WP_order_9 : decode prog_1_method_14_code 9 = .ok (.invokevirtual 186, 3) := by decide +kernel
theorem d_WP_order_12 : decode prog_1_method_14_code 12 = .ok (.ifCond .eq 9, 3) := by decide +kernel
theorem d_WP_order_15 : decode prog_1_method_14_code 15 = .ok (.iinc 1 1, 3) := by decide +kernel
theorem d_WP_order_18 : decode prog_1_method_14_code 18 = .ok (.goto (-16), 3) := by decide +kernel
theorem d_WP_order_21 : decode prog_1_method_14_code 21 = .ok (.iload_n 1, 1) := by decide +kernel
theorem d_WP_order_22 : decode prog_1_method_14_code 22 = .ok (.ireturn, 1) := by decide +kernel
theorem d_WP_takeLeast_0 : decode prog_1_method_27_code 0 = .ok (.iconst 0, 1) := by decide +kernel
theorem d_WP_takeLeast_1 : decode prog_1_method_27_code 1 = .ok (.istore_n 1, 1) := by decide +kernel
theorem d_WP_takeLeast_2 : decode prog_1_method_27_code 2 = .ok (.iload_n 1, 1) := by decide +kernel
theorem d_WP_takeLeast_3 : decode prog_1_method_27_code 3 = .ok (.aload_n 0, 1) := by decide +kernel
theorem d_WP_takeLeast_4 : decode prog_1_method_27_code 4 = .ok (.getfield 57, 3) := by decide +kernel
theorem d_WP_takeLeast_7 : decode prog_1_method_27_code 7 = .ok (.getfield 115, 3) := by decide +kernel
theorem d_WP_takeLeast_10 : decode prog_1_method_27_code 10 = .ok (.if_icmp .ge 28, 3) := by decide +kernel
theorem d_WP_takeLeast_13 : decode prog_1_method_27_code 13 = .ok (.aload_n 0, 1) := by decide +kernel
theorem d_WP_takeLeast_14 : decode prog_1_method_27_code 14 = .ok (.iload_n 1, 1) := by decide +kernel
theorem d_WP_takeLeast_15 : decode prog_1_method_27_code 15 = .ok (.invokevirtual 179, 3) := by decide +kernel
theorem d_WP_takeLeast_18 : decode prog_1_method_27_code 18 = .ok (.istore_n 2, 1) := by decide +kernel
theorem d_WP_takeLeast_19 : decode prog_1_method_27_code 19 = .ok (.iload_n 2, 1) := by decide +kernel
theorem d_WP_takeLeast_20 : decode prog_1_method_27_code 20 = .ok (.iconst (-1), 1) := by decide +kernel
theorem d_WP_takeLeast_21 : decode prog_1_method_27_code 21 = .ok (.if_icmp .eq 11, 3) := by decide +kernel
theorem d_WP_takeLeast_24 : decode prog_1_method_27_code 24 = .ok (.aload_n 0, 1) := by decide +kernel
theorem d_WP_takeLeast_25 : decode prog_1_method_27_code 25 = .ok (.iload_n 1, 1) := by decide +kernel
theorem d_WP_takeLeast_26 : decode prog_1_method_27_code 26 = .ok (.iload_n 2, 1) := by decide +kernel
theorem d_WP_takeLeast_27 : decode prog_1_method_27_code 27 = .ok (.invokevirtual 182, 3) := by decide +kernel
theorem d_WP_takeLeast_30 : decode prog_1_method_27_code 30 = .ok (.iconst 1, 1) := by decide +kernel
theorem d_WP_takeLeast_31 : decode prog_1_method_27_code 31 = .ok (.ireturn, 1) := by decide +kernel
theorem d_WP_takeLeast_32 : decode prog_1_method_27_code 32 = .ok (.iinc 1 1, 3) := by decide +kernel
theorem d_WP_takeLeast_35 : decode prog_1_method_27_code 35 = .ok (.goto (-33), 3) := by decide +kernel
theorem d_WP_takeLeast_38 : decode prog_1_method_27_code 38 = .ok (.iconst 0, 1) := by decide +kernel
theorem d_WP_takeLeast_39 : decode prog_1_method_27_code 39 = .ok (.ireturn, 1) := by decide +kernel
theorem d_WP_leastDirection_0 : decode prog_1_method_28_code 0 = .ok (.aload_n 0, 1) := by decide +kernel
theorem d_WP_leastDirection_1 : decode prog_1_method_28_code 1 = .ok (.getfield 27, 3) := by decide +kernel
theorem d_WP_leastDirection_4 : decode prog_1_method_28_code 4 = .ok (.iload_n 1, 1) := by decide +kernel
theorem d_WP_leastDirection_5 : decode prog_1_method_28_code 5 = .ok (.baload, 1) := by decide +kernel
theorem d_WP_leastDirection_6 : decode prog_1_method_28_code 6 = .ok (.ifCond .eq 5, 3) := by decide +kernel
theorem d_WP_leastDirection_9 : decode prog_1_method_28_code 9 = .ok (.iconst (-1), 1) := by decide +kernel
theorem d_WP_leastDirection_10 : decode prog_1_method_28_code 10 = .ok (.ireturn, 1) := by decide +kernel
theorem d_WP_leastDirection_11 : decode prog_1_method_28_code 11 = .ok (.aload_n 0, 1) := by decide +kernel
theorem d_WP_leastDirection_12 : decode prog_1_method_28_code 12 = .ok (.iload_n 1, 1) := by decide +kernel
theorem d_WP_leastDirection_13 : decode prog_1_method_28_code 13 = .ok (.invokevirtual 172, 3) := by decide +kernel
theorem d_WP_leastDirection_16 : decode prog_1_method_28_code 16 = .ok (.iconst 0, 1) := by decide +kernel
theorem d_WP_leastDirection_17 : decode prog_1_method_28_code 17 = .ok (.istore_n 2, 1) := by decide +kernel
theorem d_WP_leastDirection_18 : decode prog_1_method_28_code 18 = .ok (.iload_n 2, 1) := by decide +kernel
theorem d_WP_leastDirection_19 : decode prog_1_method_28_code 19 = .ok (.aload_n 0, 1) := by decide +kernel
theorem d_WP_leastDirection_20 : decode prog_1_method_28_code 20 = .ok (.getfield 42, 3) := by decide +kernel
theorem d_WP_leastDirection_23 : decode prog_1_method_28_code 23 = .ok (.if_icmp .ge 27, 3) := by decide +kernel
theorem d_WP_leastDirection_26 : decode prog_1_method_28_code 26 = .ok (.aload_n 0, 1) := by decide +kernel
theorem d_WP_leastDirection_27 : decode prog_1_method_28_code 27 = .ok (.getfield 12, 3) := by decide +kernel
theorem d_WP_leastDirection_30 : decode prog_1_method_28_code 30 = .ok (.aload_n 0, 1) := by decide +kernel
theorem d_WP_leastDirection_31 : decode prog_1_method_28_code 31 = .ok (.getfield 18, 3) := by decide +kernel
theorem d_WP_leastDirection_34 : decode prog_1_method_28_code 34 = .ok (.iload_n 2, 1) := by decide +kernel
theorem d_WP_leastDirection_35 : decode prog_1_method_28_code 35 = .ok (.aaload, 1) := by decide +kernel
theorem d_WP_leastDirection_36 : decode prog_1_method_28_code 36 = .ok (.invokevirtual 175, 3) := by decide +kernel
theorem d_WP_leastDirection_39 : decode prog_1_method_28_code 39 = .ok (.ifCond .eq 5, 3) := by decide +kernel
theorem d_WP_leastDirection_42 : decode prog_1_method_28_code 42 = .ok (.iload_n 2, 1) := by decide +kernel
theorem d_WP_leastDirection_43 : decode prog_1_method_28_code 43 = .ok (.ireturn, 1) := by decide +kernel
theorem d_WP_leastDirection_44 : decode prog_1_method_28_code 44 = .ok (.iinc 2 1, 3) := by decide +kernel
theorem d_WP_leastDirection_47 : decode prog_1_method_28_code 47 = .ok (.goto (-29), 3) := by decide +kernel
theorem d_WP_leastDirection_50 : decode prog_1_method_28_code 50 = .ok (.iconst (-1), 1) := by decide +kernel
theorem d_WP_leastDirection_51 : decode prog_1_method_28_code 51 = .ok (.ireturn, 1) := by decide +kernel
theorem d_WP_lookAtHold_0 : decode prog_1_method_29_code 0 = .ok (.aload_n 0, 1) := by decide +kernel
theorem d_WP_lookAtHold_1 : decode prog_1_method_29_code 1 = .ok (.getfield 57, 3) := by decide +kernel
theorem d_WP_lookAtHold_4 : decode prog_1_method_29_code 4 = .ok (.getfield 122, 3) := by decide +kernel
theorem d_WP_lookAtHold_7 : decode prog_1_method_29_code 7 = .ok (.iload_n 1, 1) := by decide +kernel
theorem d_WP_lookAtHold_8 : decode prog_1_method_29_code 8 = .ok (.iaload, 1) := by decide +kernel
theorem d_WP_lookAtHold_9 : decode prog_1_method_29_code 9 = .ok (.sipush 1344, 3) := by decide +kernel
theorem d_WP_lookAtHold_12 : decode prog_1_method_29_code 12 = .ok (.ior, 1) := by decide +kernel
theorem d_WP_lookAtHold_13 : decode prog_1_method_29_code 13 = .ok (.istore_n 2, 1) := by decide +kernel
theorem d_WP_lookAtHold_14 : decode prog_1_method_29_code 14 = .ok (.aload_n 0, 1) := by decide +kernel
theorem d_WP_lookAtHold_15 : decode prog_1_method_29_code 15 = .ok (.getfield 12, 3) := by decide +kernel
theorem d_WP_lookAtHold_18 : decode prog_1_method_29_code 18 = .ok (.invokevirtual 217, 3) := by decide +kernel
theorem d_WP_lookAtHold_21 : decode prog_1_method_29_code 21 = .ok (.iconst 0, 1) := by decide +kernel
theorem d_WP_lookAtHold_22 : decode prog_1_method_29_code 22 = .ok (.istore_n 3, 1) := by decide +kernel
theorem d_WP_lookAtHold_23 : decode prog_1_method_29_code 23 = .ok (.iload_n 3, 1) := by decide +kernel
theorem d_WP_lookAtHold_24 : decode prog_1_method_29_code 24 = .ok (.bipush 12, 2) := by decide +kernel
theorem d_WP_lookAtHold_26 : decode prog_1_method_29_code 26 = .ok (.if_icmp .ge 59, 3) := by decide +kernel
theorem d_WP_lookAtHold_29 : decode prog_1_method_29_code 29 = .ok (.aload_n 0, 1) := by decide +kernel
theorem d_WP_lookAtHold_30 : decode prog_1_method_29_code 30 = .ok (.getfield 57, 3) := by decide +kernel
theorem d_WP_lookAtHold_33 : decode prog_1_method_29_code 33 = .ok (.getfield 125, 3) := by decide +kernel
theorem d_WP_lookAtHold_36 : decode prog_1_method_29_code 36 = .ok (.iload_n 1, 1) := by decide +kernel
theorem d_WP_lookAtHold_37 : decode prog_1_method_29_code 37 = .ok (.iaload, 1) := by decide +kernel
theorem d_WP_lookAtHold_38 : decode prog_1_method_29_code 38 = .ok (.iload_n 3, 1) := by decide +kernel
theorem d_WP_lookAtHold_39 : decode prog_1_method_29_code 39 = .ok (.invokestatic 101, 3) := by decide +kernel
theorem d_WP_lookAtHold_42 : decode prog_1_method_29_code 42 = .ok (.ifCond .eq 37, 3) := by decide +kernel
theorem d_WP_lookAtHold_45 : decode prog_1_method_29_code 45 = .ok (.aload_n 0, 1) := by decide +kernel
theorem d_WP_lookAtHold_46 : decode prog_1_method_29_code 46 = .ok (.iload_n 1, 1) := by decide +kernel
theorem d_WP_lookAtHold_47 : decode prog_1_method_29_code 47 = .ok (.iload_n 3, 1) := by decide +kernel
theorem d_WP_lookAtHold_48 : decode prog_1_method_29_code 48 = .ok (.invokevirtual 220, 3) := by decide +kernel
theorem d_WP_lookAtHold_51 : decode prog_1_method_29_code 51 = .ok (.ifCond .ne 28, 3) := by decide +kernel
theorem d_WP_lookAtHold_54 : decode prog_1_method_29_code 54 = .ok (.aload_n 0, 1) := by decide +kernel
theorem d_WP_lookAtHold_55 : decode prog_1_method_29_code 55 = .ok (.getfield 12, 3) := by decide +kernel
theorem d_WP_lookAtHold_58 : decode prog_1_method_29_code 58 = .ok (.iload_n 3, 1) := by decide +kernel
theorem d_WP_lookAtHold_59 : decode prog_1_method_29_code 59 = .ok (.aload_n 0, 1) := by decide +kernel
theorem d_WP_lookAtHold_60 : decode prog_1_method_29_code 60 = .ok (.getfield 57, 3) := by decide +kernel
theorem d_WP_lookAtHold_63 : decode prog_1_method_29_code 63 = .ok (.getfield 223, 3) := by decide +kernel
theorem d_WP_lookAtHold_66 : decode prog_1_method_29_code 66 = .ok (.iload_n 3, 1) := by decide +kernel
theorem d_WP_lookAtHold_67 : decode prog_1_method_29_code 67 = .ok (.aaload, 1) := by decide +kernel
theorem d_WP_lookAtHold_68 : decode prog_1_method_29_code 68 = .ok (.getfield 227, 3) := by decide +kernel
theorem d_WP_lookAtHold_71 : decode prog_1_method_29_code 71 = .ok (.iload_n 2, 1) := by decide +kernel
theorem d_WP_lookAtHold_72 : decode prog_1_method_29_code 72 = .ok (.iload_n 3, 1) := by decide +kernel
theorem d_WP_lookAtHold_73 : decode prog_1_method_29_code 73 = .ok (.invokestatic 101, 3) := by decide +kernel
theorem d_WP_lookAtHold_76 : decode prog_1_method_29_code 76 = .ok (.invokevirtual 232, 3) := by decide +kernel
theorem d_WP_lookAtHold_79 : decode prog_1_method_29_code 79 = .ok (.iinc 3 1, 3) := by decide +kernel
theorem d_WP_lookAtHold_82 : decode prog_1_method_29_code 82 = .ok (.goto (-59), 3) := by decide +kernel
theorem d_WP_lookAtHold_85 : decode prog_1_method_29_code 85 = .ok (.return_, 1) := by decide +kernel
theorem d_Hold_clear_0 : decode prog_3_method_2_code 0 = .ok (.aload_n 0, 1) := by decide +kernel
theorem d_Hold_clear_1 : decode prog_3_method_2_code 1 = .ok (.iconst 0, 1) := by decide +kernel
theorem d_Hold_clear_2 : decode prog_3_method_2_code 2 = .ok (.putfield 25, 3) := by decide +kernel
theorem d_Hold_clear_5 : decode prog_3_method_2_code 5 = .ok (.return_, 1) := by decide +kernel
theorem d_WP_isFree_0 : decode prog_1_method_30_code 0 = .ok (.iload_n 2, 1) := by decide +kernel
theorem d_WP_isFree_1 : decode prog_1_method_30_code 1 = .ok (.bipush 6, 2) := by decide +kernel
theorem d_WP_isFree_3 : decode prog_1_method_30_code 3 = .ok (.if_icmp .lt 12, 3) := by decide +kernel
theorem d_WP_isFree_6 : decode prog_1_method_30_code 6 = .ok (.aload_n 0, 1) := by decide +kernel
theorem d_WP_isFree_7 : decode prog_1_method_30_code 7 = .ok (.getfield 45, 3) := by decide +kernel
theorem d_WP_isFree_10 : decode prog_1_method_30_code 10 = .ok (.iload_n 2, 1) := by decide +kernel
theorem d_WP_isFree_11 : decode prog_1_method_30_code 11 = .ok (.invokestatic 101, 3) := by decide +kernel
theorem d_WP_isFree_14 : decode prog_1_method_30_code 14 = .ok (.ireturn, 1) := by decide +kernel
theorem d_WP_isFree_15 : decode prog_1_method_30_code 15 = .ok (.aload_n 0, 1) := by decide +kernel
theorem d_WP_isFree_16 : decode prog_1_method_30_code 16 = .ok (.getfield 57, 3) := by decide +kernel
theorem d_WP_isFree_19 : decode prog_1_method_30_code 19 = .ok (.iload_n 1, 1) := by decide +kernel
theorem d_WP_isFree_20 : decode prog_1_method_30_code 20 = .ok (.iload_n 2, 1) := by decide +kernel
theorem d_WP_isFree_21 : decode prog_1_method_30_code 21 = .ok (.invokevirtual 167, 3) := by decide +kernel
theorem d_WP_isFree_24 : decode prog_1_method_30_code 24 = .ok (.istore_n 3, 1) := by decide +kernel
theorem d_WP_isFree_25 : decode prog_1_method_30_code 25 = .ok (.iload_n 3, 1) := by decide +kernel
theorem d_WP_isFree_26 : decode prog_1_method_30_code 26 = .ok (.iconst (-1), 1) := by decide +kernel
theorem d_WP_isFree_27 : decode prog_1_method_30_code 27 = .ok (.if_icmp .eq 16, 3) := by decide +kernel
theorem d_WP_isFree_30 : decode prog_1_method_30_code 30 = .ok (.aload_n 0, 1) := by decide +kernel
theorem d_WP_isFree_31 : decode prog_1_method_30_code 31 = .ok (.getfield 27, 3) := by decide +kernel
theorem d_WP_isFree_34 : decode prog_1_method_30_code 34 = .ok (.iload_n 3, 1) := by decide +kernel
theorem d_WP_isFree_35 : decode prog_1_method_30_code 35 = .ok (.baload, 1) := by decide +kernel
theorem d_WP_isFree_36 : decode prog_1_method_30_code 36 = .ok (.ifCond .eq 7, 3) := by decide +kernel
theorem d_WP_isFree_39 : decode prog_1_method_30_code 39 = .ok (.iconst 1, 1) := by decide +kernel
theorem d_WP_isFree_40 : decode prog_1_method_30_code 40 = .ok (.goto 4, 3) := by decide +kernel
theorem d_WP_isFree_43 : decode prog_1_method_30_code 43 = .ok (.iconst 0, 1) := by decide +kernel
theorem d_WP_isFree_44 : decode prog_1_method_30_code 44 = .ok (.ireturn, 1) := by decide +kernel
theorem d_Rock_neighbour_0 : decode prog_6_method_6_code 0 = .ok (.aload_n 0, 1) := by decide +kernel
theorem d_Rock_neighbour_1 : decode prog_6_method_6_code 1 = .ok (.getfield 28, 3) := by decide +kernel
theorem d_Rock_neighbour_4 : decode prog_6_method_6_code 4 = .ok (.iload_n 1, 1) := by decide +kernel
theorem d_Rock_neighbour_5 : decode prog_6_method_6_code 5 = .ok (.iaload, 1) := by decide +kernel
theorem d_Rock_neighbour_6 : decode prog_6_method_6_code 6 = .ok (.iload_n 2, 1) := by decide +kernel
theorem d_Rock_neighbour_7 : decode prog_6_method_6_code 7 = .ok (.invokestatic 107, 3) := by decide +kernel
theorem d_Rock_neighbour_10 : decode prog_6_method_6_code 10 = .ok (.ifCond .eq 21, 3) := by decide +kernel
theorem d_Rock_neighbour_13 : decode prog_6_method_6_code 13 = .ok (.aload_n 0, 1) := by decide +kernel
theorem d_Rock_neighbour_14 : decode prog_6_method_6_code 14 = .ok (.getfield 34, 3) := by decide +kernel
theorem d_Rock_neighbour_17 : decode prog_6_method_6_code 17 = .ok (.aload_n 0, 1) := by decide +kernel
theorem d_Rock_neighbour_18 : decode prog_6_method_6_code 18 = .ok (.getfield 24, 3) := by decide +kernel
theorem d_Rock_neighbour_21 : decode prog_6_method_6_code 21 = .ok (.iload_n 1, 1) := by decide +kernel
theorem d_Rock_neighbour_22 : decode prog_6_method_6_code 22 = .ok (.iaload, 1) := by decide +kernel
theorem d_Rock_neighbour_23 : decode prog_6_method_6_code 23 = .ok (.iconst 1, 1) := by decide +kernel
theorem d_Rock_neighbour_24 : decode prog_6_method_6_code 24 = .ok (.iload_n 2, 1) := by decide +kernel
theorem d_Rock_neighbour_25 : decode prog_6_method_6_code 25 = .ok (.ishl, 1) := by decide +kernel
theorem d_Rock_neighbour_26 : decode prog_6_method_6_code 26 = .ok (.ixor, 1) := by decide +kernel
theorem d_Rock_neighbour_27 : decode prog_6_method_6_code 27 = .ok (.iaload, 1) := by decide +kernel
theorem d_Rock_neighbour_28 : decode prog_6_method_6_code 28 = .ok (.goto 4, 3) := by decide +kernel
theorem d_Rock_neighbour_31 : decode prog_6_method_6_code 31 = .ok (.iconst (-1), 1) := by decide +kernel
theorem d_Rock_neighbour_32 : decode prog_6_method_6_code 32 = .ok (.ireturn, 1) := by decide +kernel
theorem d_Hold_add_0 : decode prog_3_method_3_code 0 = .ok (.aload_n 0, 1) := by decide +kernel
theorem d_Hold_add_1 : decode prog_3_method_3_code 1 = .ok (.dup, 1) := by decide +kernel
theorem d_Hold_add_2 : decode prog_3_method_3_code 2 = .ok (.getfield 25, 3) := by decide +kernel
theorem d_Hold_add_5 : decode prog_3_method_3_code 5 = .ok (.iconst 1, 1) := by decide +kernel
theorem d_Hold_add_6 : decode prog_3_method_3_code 6 = .ok (.iload_n 1, 1) := by decide +kernel
theorem d_Hold_add_7 : decode prog_3_method_3_code 7 = .ok (.ishl, 1) := by decide +kernel
theorem d_Hold_add_8 : decode prog_3_method_3_code 8 = .ok (.ior, 1) := by decide +kernel
theorem d_Hold_add_9 : decode prog_3_method_3_code 9 = .ok (.putfield 25, 3) := by decide +kernel
theorem d_Hold_add_12 : decode prog_3_method_3_code 12 = .ok (.aload_n 0, 1) := by decide +kernel
theorem d_Hold_add_13 : decode prog_3_method_3_code 13 = .ok (.getfield 11, 3) := by decide +kernel
theorem d_Hold_add_16 : decode prog_3_method_3_code 16 = .ok (.iload_n 1, 1) := by decide +kernel
theorem d_Hold_add_17 : decode prog_3_method_3_code 17 = .ok (.aaload, 1) := by decide +kernel
theorem d_Hold_add_18 : decode prog_3_method_3_code 18 = .ok (.aload_n 2, 1) := by decide +kernel
theorem d_Hold_add_19 : decode prog_3_method_3_code 19 = .ok (.iload_n 3, 1) := by decide +kernel
theorem d_Hold_add_20 : decode prog_3_method_3_code 20 = .ok (.ifCond .eq 7, 3) := by decide +kernel
theorem d_Hold_add_23 : decode prog_3_method_3_code 23 = .ok (.iconst 1, 1) := by decide +kernel
theorem d_Hold_add_24 : decode prog_3_method_3_code 24 = .ok (.goto 4, 3) := by decide +kernel
theorem d_Hold_add_27 : decode prog_3_method_3_code 27 = .ok (.iconst (-1), 1) := by decide +kernel
theorem d_Hold_add_28 : decode prog_3_method_3_code 28 = .ok (.invokevirtual 29, 3) := by decide +kernel
theorem d_Hold_add_31 : decode prog_3_method_3_code 31 = .ok (.return_, 1) := by decide +kernel
theorem d_Arrow_setScaled_0 : decode prog_2_method_3_code 0 = .ok (.aload_n 0, 1) := by decide +kernel
theorem d_Arrow_setScaled_1 : decode prog_2_method_3_code 1 = .ok (.aload_n 1, 1) := by decide +kernel
theorem d_Arrow_setScaled_2 : decode prog_2_method_3_code 2 = .ok (.getfield 7, 3) := by decide +kernel
theorem d_Arrow_setScaled_5 : decode prog_2_method_3_code 5 = .ok (.iload_n 2, 1) := by decide +kernel
theorem d_Arrow_setScaled_6 : decode prog_2_method_3_code 6 = .ok (.imul, 1) := by decide +kernel
theorem d_Arrow_setScaled_7 : decode prog_2_method_3_code 7 = .ok (.aload_n 1, 1) := by decide +kernel
theorem d_Arrow_setScaled_8 : decode prog_2_method_3_code 8 = .ok (.getfield 13, 3) := by decide +kernel
theorem d_Arrow_setScaled_11 : decode prog_2_method_3_code 11 = .ok (.iload_n 2, 1) := by decide +kernel
theorem d_Arrow_setScaled_12 : decode prog_2_method_3_code 12 = .ok (.imul, 1) := by decide +kernel
theorem d_Arrow_setScaled_13 : decode prog_2_method_3_code 13 = .ok (.aload_n 1, 1) := by decide +kernel
theorem d_Arrow_setScaled_14 : decode prog_2_method_3_code 14 = .ok (.getfield 16, 3) := by decide +kernel
theorem d_Arrow_setScaled_17 : decode prog_2_method_3_code 17 = .ok (.iload_n 2, 1) := by decide +kernel
theorem d_Arrow_setScaled_18 : decode prog_2_method_3_code 18 = .ok (.imul, 1) := by decide +kernel
theorem d_Arrow_setScaled_19 : decode prog_2_method_3_code 19 = .ok (.invokevirtual 19, 3) := by decide +kernel
theorem d_Arrow_setScaled_22 : decode prog_2_method_3_code 22 = .ok (.return_, 1) := by decide +kernel
theorem d_Hold_lets_0 : decode prog_3_method_4_code 0 = .ok (.aload_n 1, 1) := by decide +kernel
theorem d_Hold_lets_1 : decode prog_3_method_4_code 1 = .ok (.invokevirtual 33, 3) := by decide +kernel
theorem d_Hold_lets_4 : decode prog_3_method_4_code 4 = .ok (.ifCond .eq 5, 3) := by decide +kernel
theorem d_Hold_lets_7 : decode prog_3_method_4_code 7 = .ok (.iconst 0, 1) := by decide +kernel
theorem d_Hold_lets_8 : decode prog_3_method_4_code 8 = .ok (.ireturn, 1) := by decide +kernel
theorem d_Hold_lets_9 : decode prog_3_method_4_code 9 = .ok (.iconst 0, 1) := by decide +kernel
theorem d_Hold_lets_10 : decode prog_3_method_4_code 10 = .ok (.istore_n 2, 1) := by decide +kernel
theorem d_Hold_lets_11 : decode prog_3_method_4_code 11 = .ok (.iload_n 2, 1) := by decide +kernel
theorem d_Hold_lets_12 : decode prog_3_method_4_code 12 = .ok (.bipush 12, 2) := by decide +kernel
theorem d_Hold_lets_14 : decode prog_3_method_4_code 14 = .ok (.if_icmp .ge 35, 3) := by decide +kernel
theorem d_Hold_lets_17 : decode prog_3_method_4_code 17 = .ok (.aload_n 0, 1) := by decide +kernel
theorem d_Hold_lets_18 : decode prog_3_method_4_code 18 = .ok (.getfield 25, 3) := by decide +kernel
theorem d_Hold_lets_21 : decode prog_3_method_4_code 21 = .ok (.iload_n 2, 1) := by decide +kernel
theorem d_Hold_lets_22 : decode prog_3_method_4_code 22 = .ok (.invokestatic 37, 3) := by decide +kernel
theorem d_Hold_lets_25 : decode prog_3_method_4_code 25 = .ok (.ifCond .eq 18, 3) := by decide +kernel
theorem d_Hold_lets_28 : decode prog_3_method_4_code 28 = .ok (.aload_n 1, 1) := by decide +kernel
theorem d_Hold_lets_29 : decode prog_3_method_4_code 29 = .ok (.aload_n 0, 1) := by decide +kernel
theorem d_Hold_lets_30 : decode prog_3_method_4_code 30 = .ok (.getfield 11, 3) := by decide +kernel
theorem d_Hold_lets_33 : decode prog_3_method_4_code 33 = .ok (.iload_n 2, 1) := by decide +kernel
theorem d_Hold_lets_34 : decode prog_3_method_4_code 34 = .ok (.aaload, 1) := by decide +kernel
theorem d_Hold_lets_35 : decode prog_3_method_4_code 35 = .ok (.invokevirtual 41, 3) := by decide +kernel
theorem d_Hold_lets_38 : decode prog_3_method_4_code 38 = .ok (.ifCond .ge 5, 3) := by decide +kernel
theorem d_Hold_lets_41 : decode prog_3_method_4_code 41 = .ok (.iconst 0, 1) := by decide +kernel
theorem d_Hold_lets_42 : decode prog_3_method_4_code 42 = .ok (.ireturn, 1) := by decide +kernel
theorem d_Hold_lets_43 : decode prog_3_method_4_code 43 = .ok (.iinc 2 1, 3) := by decide +kernel
theorem d_Hold_lets_46 : decode prog_3_method_4_code 46 = .ok (.goto (-35), 3) := by decide +kernel
theorem d_Hold_lets_49 : decode prog_3_method_4_code 49 = .ok (.iconst 1, 1) := by decide +kernel
theorem d_Hold_lets_50 : decode prog_3_method_4_code 50 = .ok (.ireturn, 1) := by decide +kernel
theorem d_Arrow_isZero_0 : decode prog_2_method_7_code 0 = .ok (.aload_n 0, 1) := by decide +kernel
theorem d_Arrow_isZero_1 : decode prog_2_method_7_code 1 = .ok (.getfield 7, 3) := by decide +kernel
theorem d_Arrow_isZero_4 : decode prog_2_method_7_code 4 = .ok (.ifCond .ne 21, 3) := by decide +kernel
theorem d_Arrow_isZero_7 : decode prog_2_method_7_code 7 = .ok (.aload_n 0, 1) := by decide +kernel
theorem d_Arrow_isZero_8 : decode prog_2_method_7_code 8 = .ok (.getfield 13, 3) := by decide +kernel
theorem d_Arrow_isZero_11 : decode prog_2_method_7_code 11 = .ok (.ifCond .ne 14, 3) := by decide +kernel
theorem d_Arrow_isZero_14 : decode prog_2_method_7_code 14 = .ok (.aload_n 0, 1) := by decide +kernel
theorem d_Arrow_isZero_15 : decode prog_2_method_7_code 15 = .ok (.getfield 16, 3) := by decide +kernel
theorem d_Arrow_isZero_18 : decode prog_2_method_7_code 18 = .ok (.ifCond .ne 7, 3) := by decide +kernel
theorem d_Arrow_isZero_21 : decode prog_2_method_7_code 21 = .ok (.iconst 1, 1) := by decide +kernel
theorem d_Arrow_isZero_22 : decode prog_2_method_7_code 22 = .ok (.goto 4, 3) := by decide +kernel
theorem d_Arrow_isZero_25 : decode prog_2_method_7_code 25 = .ok (.iconst 0, 1) := by decide +kernel
theorem d_Arrow_isZero_26 : decode prog_2_method_7_code 26 = .ok (.ireturn, 1) := by decide +kernel
theorem d_WP_putAway_0 : decode prog_1_method_26_code 0 = .ok (.aload_n 0, 1) := by decide +kernel
theorem d_WP_putAway_1 : decode prog_1_method_26_code 1 = .ok (.getfield 38, 3) := by decide +kernel
theorem d_WP_putAway_4 : decode prog_1_method_26_code 4 = .ok (.bipush 64, 2) := by decide +kernel
theorem d_WP_putAway_6 : decode prog_1_method_26_code 6 = .ok (.if_icmp .ge 40, 3) := by decide +kernel
theorem d_WP_putAway_9 : decode prog_1_method_26_code 9 = .ok (.aload_n 0, 1) := by decide +kernel
theorem d_WP_putAway_10 : decode prog_1_method_26_code 10 = .ok (.getfield 27, 3) := by decide +kernel
theorem d_WP_putAway_13 : decode prog_1_method_26_code 13 = .ok (.iload_n 1, 1) := by decide +kernel
theorem d_WP_putAway_14 : decode prog_1_method_26_code 14 = .ok (.iconst 1, 1) := by decide +kernel
theorem d_WP_putAway_15 : decode prog_1_method_26_code 15 = .ok (.bastore, 1) := by decide +kernel
theorem d_WP_putAway_16 : decode prog_1_method_26_code 16 = .ok (.aload_n 0, 1) := by decide +kernel
theorem d_WP_putAway_17 : decode prog_1_method_26_code 17 = .ok (.getfield 31, 3) := by decide +kernel
theorem d_WP_putAway_20 : decode prog_1_method_26_code 20 = .ok (.aload_n 0, 1) := by decide +kernel
theorem d_WP_putAway_21 : decode prog_1_method_26_code 21 = .ok (.getfield 38, 3) := by decide +kernel
theorem d_WP_putAway_24 : decode prog_1_method_26_code 24 = .ok (.iload_n 1, 1) := by decide +kernel
theorem d_WP_putAway_25 : decode prog_1_method_26_code 25 = .ok (.iastore, 1) := by decide +kernel
theorem d_WP_putAway_26 : decode prog_1_method_26_code 26 = .ok (.aload_n 0, 1) := by decide +kernel
theorem d_WP_putAway_27 : decode prog_1_method_26_code 27 = .ok (.getfield 35, 3) := by decide +kernel
theorem d_WP_putAway_30 : decode prog_1_method_26_code 30 = .ok (.aload_n 0, 1) := by decide +kernel
theorem d_WP_putAway_31 : decode prog_1_method_26_code 31 = .ok (.getfield 38, 3) := by decide +kernel
theorem d_WP_putAway_34 : decode prog_1_method_26_code 34 = .ok (.iload_n 2, 1) := by decide +kernel
theorem d_WP_putAway_35 : decode prog_1_method_26_code 35 = .ok (.iastore, 1) := by decide +kernel
theorem d_WP_putAway_36 : decode prog_1_method_26_code 36 = .ok (.aload_n 0, 1) := by decide +kernel
theorem d_WP_putAway_37 : decode prog_1_method_26_code 37 = .ok (.dup, 1) := by decide +kernel
theorem d_WP_putAway_38 : decode prog_1_method_26_code 38 = .ok (.getfield 38, 3) := by decide +kernel
theorem d_WP_putAway_41 : decode prog_1_method_26_code 41 = .ok (.iconst 1, 1) := by decide +kernel
theorem d_WP_putAway_42 : decode prog_1_method_26_code 42 = .ok (.iadd, 1) := by decide +kernel
theorem d_WP_putAway_43 : decode prog_1_method_26_code 43 = .ok (.putfield 38, 3) := by decide +kernel
theorem d_WP_putAway_46 : decode prog_1_method_26_code 46 = .ok (.return_, 1) := by decide +kernel
theorem d_WP_back_0 : decode prog_1_method_16_code 0 = .ok (.aload_n 0, 1) := by decide +kernel
theorem d_WP_back_1 : decode prog_1_method_16_code 1 = .ok (.getfield 38, 3) := by decide +kernel
theorem d_WP_back_4 : decode prog_1_method_16_code 4 = .ok (.istore_n 1, 1) := by decide +kernel
theorem d_WP_back_5 : decode prog_1_method_16_code 5 = .ok (.aload_n 0, 1) := by decide +kernel
theorem d_WP_back_6 : decode prog_1_method_16_code 6 = .ok (.invokevirtual 86, 3) := by decide +kernel
theorem d_WP_back_9 : decode prog_1_method_16_code 9 = .ok (.iload_n 1, 1) := by decide +kernel
theorem d_WP_back_10 : decode prog_1_method_16_code 10 = .ok (.ireturn, 1) := by decide +kernel
theorem d_Law_cell_0 : decode method_2_code 0 = .ok (.iload_n 1, 1) := by decide +kernel
theorem d_Law_cell_1 : decode method_2_code 1 = .ok (.aload_n 0, 1) := by decide +kernel
theorem d_Law_cell_2 : decode method_2_code 2 = .ok (.arraylength, 1) := by decide +kernel
theorem d_Law_cell_3 : decode method_2_code 3 = .ok (.if_icmp .ge 9, 3) := by decide +kernel
theorem d_Law_cell_6 : decode method_2_code 6 = .ok (.aload_n 0, 1) := by decide +kernel
theorem d_Law_cell_7 : decode method_2_code 7 = .ok (.iload_n 1, 1) := by decide +kernel
theorem d_Law_cell_8 : decode method_2_code 8 = .ok (.iaload, 1) := by decide +kernel
theorem d_Law_cell_9 : decode method_2_code 9 = .ok (.goto 4, 3) := by decide +kernel
theorem d_Law_cell_12 : decode method_2_code 12 = .ok (.iconst 0, 1) := by decide +kernel
theorem d_Law_cell_13 : decode method_2_code 13 = .ok (.ireturn, 1) := by decide +kernel
theorem d_Law_joint_0 : decode method_3_code 0 = .ok (.aload 5, 2) := by decide +kernel
theorem d_Law_joint_2 : decode method_3_code 2 = .ok (.iconst 0, 1) := by decide +kernel
theorem d_Law_joint_3 : decode method_3_code 3 = .ok (.aload_n 0, 1) := by decide +kernel
theorem d_Law_joint_4 : decode method_3_code 4 = .ok (.iload_n 1, 1) := by decide +kernel
theorem d_Law_joint_5 : decode method_3_code 5 = .ok (.iload_n 2, 1) := by decide +kernel
theorem d_Law_joint_6 : decode method_3_code 6 = .ok (.iload_n 3, 1) := by decide +kernel
theorem d_Law_joint_7 : decode method_3_code 7 = .ok (.iload 4, 2) := by decide +kernel
theorem d_Law_joint_9 : decode method_3_code 9 = .ok (.invokevirtual 7, 3) := by decide +kernel
theorem d_Law_joint_12 : decode method_3_code 12 = .ok (.i2l, 1) := by decide +kernel
theorem d_Law_joint_13 : decode method_3_code 13 = .ok (.lastore, 1) := by decide +kernel
theorem d_Law_joint_14 : decode method_3_code 14 = .ok (.goto 11, 3) := by decide +kernel
theorem d_Law_joint_17 : decode method_3_code 17 = .ok (.astore 6, 2) := by decide +kernel
theorem d_Law_joint_19 : decode method_3_code 19 = .ok (.iconst 1, 1) := by decide +kernel
theorem d_Law_joint_20 : decode method_3_code 20 = .ok (.ireturn, 1) := by decide +kernel
theorem d_Law_joint_21 : decode method_3_code 21 = .ok (.astore 6, 2) := by decide +kernel
theorem d_Law_joint_23 : decode method_3_code 23 = .ok (.iconst 2, 1) := by decide +kernel
theorem d_Law_joint_24 : decode method_3_code 24 = .ok (.ireturn, 1) := by decide +kernel
theorem d_Law_joint_25 : decode method_3_code 25 = .ok (.iconst 0, 1) := by decide +kernel
theorem d_Law_joint_26 : decode method_3_code 26 = .ok (.ireturn, 1) := by decide +kernel
theorem d_WP_joint_0 : decode prog_1_method_2_code 0 = .ok (.aload_n 0, 1) := by decide +kernel
theorem d_WP_joint_1 : decode prog_1_method_2_code 1 = .ok (.iload_n 1, 1) := by decide +kernel
theorem d_WP_joint_2 : decode prog_1_method_2_code 2 = .ok (.iload_n 2, 1) := by decide +kernel
theorem d_WP_joint_3 : decode prog_1_method_2_code 3 = .ok (.iload_n 3, 1) := by decide +kernel
theorem d_WP_joint_4 : decode prog_1_method_2_code 4 = .ok (.iload 4, 2) := by decide +kernel
theorem d_WP_joint_6 : decode prog_1_method_2_code 6 = .ok (.invokevirtual 64, 3) := by decide +kernel
theorem d_WP_joint_9 : decode prog_1_method_2_code 9 = .ok (.ifCond .eq 18, 3) := by decide +kernel
theorem d_WP_joint_12 : decode prog_1_method_2_code 12 = .ok (.aload_n 0, 1) := by decide +kernel
theorem d_WP_joint_13 : decode prog_1_method_2_code 13 = .ok (.getfield 57, 3) := by decide +kernel
theorem d_WP_joint_16 : decode prog_1_method_2_code 16 = .ok (.iload_n 1, 1) := by decide +kernel
theorem d_WP_joint_17 : decode prog_1_method_2_code 17 = .ok (.iload_n 2, 1) := by decide +kernel
theorem d_WP_joint_18 : decode prog_1_method_2_code 18 = .ok (.iload_n 3, 1) := by decide +kernel
theorem d_WP_joint_19 : decode prog_1_method_2_code 19 = .ok (.iload 4, 2) := by decide +kernel
theorem d_WP_joint_21 : decode prog_1_method_2_code 21 = .ok (.invokevirtual 68, 3) := by decide +kernel
theorem d_WP_joint_24 : decode prog_1_method_2_code 24 = .ok (.ifCond .eq 13, 3) := by decide +kernel
theorem d_WP_joint_27 : decode prog_1_method_2_code 27 = .ok (.new 71, 3) := by decide +kernel
theorem d_WP_joint_30 : decode prog_1_method_2_code 30 = .ok (.dup, 1) := by decide +kernel
theorem d_WP_joint_31 : decode prog_1_method_2_code 31 = .ok (.ldc 73, 2) := by decide +kernel
theorem d_WP_joint_33 : decode prog_1_method_2_code 33 = .ok (.invokespecial 75, 3) := by decide +kernel
theorem d_WP_joint_36 : decode prog_1_method_2_code 36 = .ok (.athrow, 1) := by decide +kernel
theorem d_WP_joint_37 : decode prog_1_method_2_code 37 = .ok (.aload_n 0, 1) := by decide +kernel
theorem d_WP_joint_38 : decode prog_1_method_2_code 38 = .ok (.getfield 57, 3) := by decide +kernel
theorem d_WP_joint_41 : decode prog_1_method_2_code 41 = .ok (.getfield 78, 3) := by decide +kernel
theorem d_WP_joint_44 : decode prog_1_method_2_code 44 = .ok (.bipush 6, 2) := by decide +kernel
theorem d_WP_joint_46 : decode prog_1_method_2_code 46 = .ok (.if_icmp .lt 13, 3) := by decide +kernel
theorem d_WP_joint_49 : decode prog_1_method_2_code 49 = .ok (.new 81, 3) := by decide +kernel
theorem d_WP_joint_52 : decode prog_1_method_2_code 52 = .ok (.dup, 1) := by decide +kernel
theorem d_WP_joint_53 : decode prog_1_method_2_code 53 = .ok (.ldc 83, 2) := by decide +kernel
theorem d_WP_joint_55 : decode prog_1_method_2_code 55 = .ok (.invokespecial 85, 3) := by decide +kernel
theorem d_WP_joint_58 : decode prog_1_method_2_code 58 = .ok (.athrow, 1) := by decide +kernel
theorem d_WP_joint_59 : decode prog_1_method_2_code 59 = .ok (.aload_n 0, 1) := by decide +kernel
theorem d_WP_joint_60 : decode prog_1_method_2_code 60 = .ok (.invokevirtual 86, 3) := by decide +kernel
theorem d_WP_joint_63 : decode prog_1_method_2_code 63 = .ok (.aload_n 0, 1) := by decide +kernel
theorem d_WP_joint_64 : decode prog_1_method_2_code 64 = .ok (.getfield 57, 3) := by decide +kernel
theorem d_WP_joint_67 : decode prog_1_method_2_code 67 = .ok (.iload_n 1, 1) := by decide +kernel
theorem d_WP_joint_68 : decode prog_1_method_2_code 68 = .ok (.iload_n 2, 1) := by decide +kernel
theorem d_WP_joint_69 : decode prog_1_method_2_code 69 = .ok (.iload_n 3, 1) := by decide +kernel
theorem d_WP_joint_70 : decode prog_1_method_2_code 70 = .ok (.iload 4, 2) := by decide +kernel
theorem d_WP_joint_72 : decode prog_1_method_2_code 72 = .ok (.invokevirtual 89, 3) := by decide +kernel
theorem d_WP_joint_75 : decode prog_1_method_2_code 75 = .ok (.aload_n 0, 1) := by decide +kernel
theorem d_WP_joint_76 : decode prog_1_method_2_code 76 = .ok (.getfield 57, 3) := by decide +kernel
theorem d_WP_joint_79 : decode prog_1_method_2_code 79 = .ok (.getfield 78, 3) := by decide +kernel
theorem d_WP_joint_82 : decode prog_1_method_2_code 82 = .ok (.iconst 1, 1) := by decide +kernel
theorem d_WP_joint_83 : decode prog_1_method_2_code 83 = .ok (.isub, 1) := by decide +kernel
theorem d_WP_joint_84 : decode prog_1_method_2_code 84 = .ok (.ireturn, 1) := by decide +kernel
theorem d_WP_isJoint_0 : decode prog_1_method_23_code 0 = .ok (.iload_n 1, 1) := by decide +kernel
theorem d_WP_isJoint_1 : decode prog_1_method_23_code 1 = .ok (.bipush 6, 2) := by decide +kernel
theorem d_WP_isJoint_3 : decode prog_1_method_23_code 3 = .ok (.invokestatic 209, 3) := by decide +kernel
