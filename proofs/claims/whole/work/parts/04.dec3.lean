theorem d_Md_holds_46 : decode prog_8_method_35_code 46 = .ok (.iload_n 2, 1) := by decide +kernel
theorem d_Md_holds_47 : decode prog_8_method_35_code 47 = .ok (.ishl, 1) := by decide +kernel
theorem d_Md_holds_48 : decode prog_8_method_35_code 48 = .ok (.ixor, 1) := by decide +kernel
theorem d_Md_holds_49 : decode prog_8_method_35_code 49 = .ok (.invokevirtual 164, 3) := by decide +kernel
theorem d_Md_holds_52 : decode prog_8_method_35_code 52 = .ok (.baload, 1) := by decide +kernel
theorem d_Md_holds_53 : decode prog_8_method_35_code 53 = .ok (.ifCond .ne 7, 3) := by decide +kernel
theorem d_Md_holds_56 : decode prog_8_method_35_code 56 = .ok (.iconst 1, 1) := by decide +kernel
theorem d_Md_holds_57 : decode prog_8_method_35_code 57 = .ok (.goto 4, 3) := by decide +kernel
theorem d_Md_holds_60 : decode prog_8_method_35_code 60 = .ok (.iconst 0, 1) := by decide +kernel
theorem d_Md_holds_61 : decode prog_8_method_35_code 61 = .ok (.ireturn, 1) := by decide +kernel
theorem d_Md_inward_0 : decode prog_8_method_36_code 0 = .ok (.iload_n 2, 1) := by decide +kernel
theorem d_Md_inward_1 : decode prog_8_method_36_code 1 = .ok (.bipush 6, 2) := by decide +kernel
theorem d_Md_inward_3 : decode prog_8_method_36_code 3 = .ok (.if_icmp .lt 18, 3) := by decide +kernel
theorem d_Md_inward_6 : decode prog_8_method_36_code 6 = .ok (.iload_n 2, 1) := by decide +kernel
theorem d_Md_inward_7 : decode prog_8_method_36_code 7 = .ok (.iconst 2, 1) := by decide +kernel
theorem d_Md_inward_8 : decode prog_8_method_36_code 8 = .ok (.irem, 1) := by decide +kernel
theorem d_Md_inward_9 : decode prog_8_method_36_code 9 = .ok (.iconst 1, 1) := by decide +kernel
theorem d_Md_inward_10 : decode prog_8_method_36_code 10 = .ok (.if_icmp .ne 7, 3) := by decide +kernel
theorem d_Md_inward_13 : decode prog_8_method_36_code 13 = .ok (.iconst 1, 1) := by decide +kernel
theorem d_Md_inward_14 : decode prog_8_method_36_code 14 = .ok (.goto 25, 3) := by decide +kernel
theorem d_Md_inward_17 : decode prog_8_method_36_code 17 = .ok (.iconst 0, 1) := by decide +kernel
theorem d_Md_inward_18 : decode prog_8_method_36_code 18 = .ok (.goto 21, 3) := by decide +kernel
theorem d_Md_inward_21 : decode prog_8_method_36_code 21 = .ok (.aload_n 0, 1) := by decide +kernel
theorem d_Md_inward_22 : decode prog_8_method_36_code 22 = .ok (.getfield 41, 3) := by decide +kernel
theorem d_Md_inward_25 : decode prog_8_method_36_code 25 = .ok (.iload_n 1, 1) := by decide +kernel
theorem d_Md_inward_26 : decode prog_8_method_36_code 26 = .ok (.iaload, 1) := by decide +kernel
theorem d_Md_inward_27 : decode prog_8_method_36_code 27 = .ok (.iload_n 2, 1) := by decide +kernel
theorem d_Md_inward_28 : decode prog_8_method_36_code 28 = .ok (.ishr, 1) := by decide +kernel
theorem d_Md_inward_29 : decode prog_8_method_36_code 29 = .ok (.iconst 1, 1) := by decide +kernel
theorem d_Md_inward_30 : decode prog_8_method_36_code 30 = .ok (.iand, 1) := by decide +kernel
theorem d_Md_inward_31 : decode prog_8_method_36_code 31 = .ok (.ifCond .ne 7, 3) := by decide +kernel
theorem d_Md_inward_34 : decode prog_8_method_36_code 34 = .ok (.iconst 1, 1) := by decide +kernel
theorem d_Md_inward_35 : decode prog_8_method_36_code 35 = .ok (.goto 4, 3) := by decide +kernel
theorem d_Md_inward_38 : decode prog_8_method_36_code 38 = .ok (.iconst 0, 1) := by decide +kernel
theorem d_Md_inward_39 : decode prog_8_method_36_code 39 = .ok (.istore 4, 2) := by decide +kernel
theorem d_Md_inward_41 : decode prog_8_method_36_code 41 = .ok (.iconst 0, 1) := by decide +kernel
theorem d_Md_inward_42 : decode prog_8_method_36_code 42 = .ok (.istore 5, 2) := by decide +kernel
theorem d_Md_inward_44 : decode prog_8_method_36_code 44 = .ok (.iload 5, 2) := by decide +kernel
theorem d_Md_inward_46 : decode prog_8_method_36_code 46 = .ok (.iconst 3, 1) := by decide +kernel
theorem d_Md_inward_47 : decode prog_8_method_36_code 47 = .ok (.if_icmp .ge 44, 3) := by decide +kernel
theorem d_Md_inward_50 : decode prog_8_method_36_code 50 = .ok (.aload_n 3, 1) := by decide +kernel
theorem d_Md_inward_51 : decode prog_8_method_36_code 51 = .ok (.iload 5, 2) := by decide +kernel
theorem d_Md_inward_53 : decode prog_8_method_36_code 53 = .ok (.iload 4, 2) := by decide +kernel
theorem d_Md_inward_55 : decode prog_8_method_36_code 55 = .ok (.ifCond .eq 18, 3) := by decide +kernel
theorem d_Md_inward_58 : decode prog_8_method_36_code 58 = .ok (.aload_n 0, 1) := by decide +kernel
theorem d_Md_inward_59 : decode prog_8_method_36_code 59 = .ok (.getfield 13, 3) := by decide +kernel
theorem d_Md_inward_62 : decode prog_8_method_36_code 62 = .ok (.iconst 4, 1) := by decide +kernel
theorem d_Md_inward_63 : decode prog_8_method_36_code 63 = .ok (.iload_n 2, 1) := by decide +kernel
theorem d_Md_inward_64 : decode prog_8_method_36_code 64 = .ok (.imul, 1) := by decide +kernel
theorem d_Md_inward_65 : decode prog_8_method_36_code 65 = .ok (.iload 5, 2) := by decide +kernel
theorem d_Md_inward_67 : decode prog_8_method_36_code 67 = .ok (.iadd, 1) := by decide +kernel
theorem d_Md_inward_68 : decode prog_8_method_36_code 68 = .ok (.iaload, 1) := by decide +kernel
theorem d_Md_inward_69 : decode prog_8_method_36_code 69 = .ok (.ineg, 1) := by decide +kernel
theorem d_Md_inward_70 : decode prog_8_method_36_code 70 = .ok (.goto 14, 3) := by decide +kernel
theorem d_Md_inward_73 : decode prog_8_method_36_code 73 = .ok (.aload_n 0, 1) := by decide +kernel
theorem d_Md_inward_74 : decode prog_8_method_36_code 74 = .ok (.getfield 13, 3) := by decide +kernel
theorem d_Md_inward_77 : decode prog_8_method_36_code 77 = .ok (.iconst 4, 1) := by decide +kernel
theorem d_Md_inward_78 : decode prog_8_method_36_code 78 = .ok (.iload_n 2, 1) := by decide +kernel
theorem d_Md_inward_79 : decode prog_8_method_36_code 79 = .ok (.imul, 1) := by decide +kernel
theorem d_Md_inward_80 : decode prog_8_method_36_code 80 = .ok (.iload 5, 2) := by decide +kernel
theorem d_Md_inward_82 : decode prog_8_method_36_code 82 = .ok (.iadd, 1) := by decide +kernel
theorem d_Md_inward_83 : decode prog_8_method_36_code 83 = .ok (.iaload, 1) := by decide +kernel
theorem d_Md_inward_84 : decode prog_8_method_36_code 84 = .ok (.iastore, 1) := by decide +kernel
theorem d_Md_inward_85 : decode prog_8_method_36_code 85 = .ok (.iinc 5 1, 3) := by decide +kernel
theorem d_Md_inward_88 : decode prog_8_method_36_code 88 = .ok (.goto (-44), 3) := by decide +kernel
theorem d_Md_inward_91 : decode prog_8_method_36_code 91 = .ok (.return_, 1) := by decide +kernel
theorem d_Md_times_0 : decode prog_8_method_37_code 0 = .ok (.aload_n 0, 1) := by decide +kernel
theorem d_Md_times_1 : decode prog_8_method_37_code 1 = .ok (.iconst 0, 1) := by decide +kernel
theorem d_Md_times_2 : decode prog_8_method_37_code 2 = .ok (.iaload, 1) := by decide +kernel
theorem d_Md_times_3 : decode prog_8_method_37_code 3 = .ok (.aload_n 1, 1) := by decide +kernel
theorem d_Md_times_4 : decode prog_8_method_37_code 4 = .ok (.iconst 0, 1) := by decide +kernel
theorem d_Md_times_5 : decode prog_8_method_37_code 5 = .ok (.iaload, 1) := by decide +kernel
theorem d_Md_times_6 : decode prog_8_method_37_code 6 = .ok (.imul, 1) := by decide +kernel
theorem d_Md_times_7 : decode prog_8_method_37_code 7 = .ok (.aload_n 0, 1) := by decide +kernel
theorem d_Md_times_8 : decode prog_8_method_37_code 8 = .ok (.iconst 1, 1) := by decide +kernel
theorem d_Md_times_9 : decode prog_8_method_37_code 9 = .ok (.iaload, 1) := by decide +kernel
theorem d_Md_times_10 : decode prog_8_method_37_code 10 = .ok (.aload_n 1, 1) := by decide +kernel
theorem d_Md_times_11 : decode prog_8_method_37_code 11 = .ok (.iconst 1, 1) := by decide +kernel
theorem d_Md_times_12 : decode prog_8_method_37_code 12 = .ok (.iaload, 1) := by decide +kernel
theorem d_Md_times_13 : decode prog_8_method_37_code 13 = .ok (.imul, 1) := by decide +kernel
theorem d_Md_times_14 : decode prog_8_method_37_code 14 = .ok (.iadd, 1) := by decide +kernel
theorem d_Md_times_15 : decode prog_8_method_37_code 15 = .ok (.aload_n 0, 1) := by decide +kernel
theorem d_Md_times_16 : decode prog_8_method_37_code 16 = .ok (.iconst 2, 1) := by decide +kernel
theorem d_Md_times_17 : decode prog_8_method_37_code 17 = .ok (.iaload, 1) := by decide +kernel
theorem d_Md_times_18 : decode prog_8_method_37_code 18 = .ok (.aload_n 1, 1) := by decide +kernel
theorem d_Md_times_19 : decode prog_8_method_37_code 19 = .ok (.iconst 2, 1) := by decide +kernel
theorem d_Md_times_20 : decode prog_8_method_37_code 20 = .ok (.iaload, 1) := by decide +kernel
theorem d_Md_times_21 : decode prog_8_method_37_code 21 = .ok (.imul, 1) := by decide +kernel
theorem d_Md_times_22 : decode prog_8_method_37_code 22 = .ok (.iadd, 1) := by decide +kernel
theorem d_Md_times_23 : decode prog_8_method_37_code 23 = .ok (.ireturn, 1) := by decide +kernel
theorem d_Md_take_0 : decode prog_8_method_42_code 0 = .ok (.aload_n 0, 1) := by decide +kernel
theorem d_Md_take_1 : decode prog_8_method_42_code 1 = .ok (.aload_n 0, 1) := by decide +kernel
theorem d_Md_take_2 : decode prog_8_method_42_code 2 = .ok (.iload_n 1, 1) := by decide +kernel
theorem d_Md_take_3 : decode prog_8_method_42_code 3 = .ok (.invokevirtual 152, 3) := by decide +kernel
theorem d_Md_take_6 : decode prog_8_method_42_code 6 = .ok (.ifCond .eq 7, 3) := by decide +kernel
theorem d_Md_take_9 : decode prog_8_method_42_code 9 = .ok (.iconst 0, 1) := by decide +kernel
theorem d_Md_take_10 : decode prog_8_method_42_code 10 = .ok (.goto 4, 3) := by decide +kernel
theorem d_Md_take_13 : decode prog_8_method_42_code 13 = .ok (.iconst 1, 1) := by decide +kernel
theorem d_Md_take_14 : decode prog_8_method_42_code 14 = .ok (.putfield 75, 3) := by decide +kernel
theorem d_Md_take_17 : decode prog_8_method_42_code 17 = .ok (.aload_n 0, 1) := by decide +kernel
theorem d_Md_take_18 : decode prog_8_method_42_code 18 = .ok (.getfield 75, 3) := by decide +kernel
theorem d_Md_take_21 : decode prog_8_method_42_code 21 = .ok (.ifCond .le 7, 3) := by decide +kernel
theorem d_Md_take_24 : decode prog_8_method_42_code 24 = .ok (.iconst 0, 1) := by decide +kernel
theorem d_Md_take_25 : decode prog_8_method_42_code 25 = .ok (.goto 8, 3) := by decide +kernel
theorem d_Md_take_28 : decode prog_8_method_42_code 28 = .ok (.aload_n 0, 1) := by decide +kernel
theorem d_Md_take_29 : decode prog_8_method_42_code 29 = .ok (.iload_n 1, 1) := by decide +kernel
theorem d_Md_take_30 : decode prog_8_method_42_code 30 = .ok (.invokevirtual 184, 3) := by decide +kernel
theorem d_Md_take_33 : decode prog_8_method_42_code 33 = .ok (.ireturn, 1) := by decide +kernel
theorem d_Md_taking_0 : decode prog_8_method_41_code 0 = .ok (.iconst 0, 1) := by decide +kernel
theorem d_Md_taking_1 : decode prog_8_method_41_code 1 = .ok (.istore_n 2, 1) := by decide +kernel
theorem d_Md_taking_2 : decode prog_8_method_41_code 2 = .ok (.iload_n 2, 1) := by decide +kernel
theorem d_Md_taking_3 : decode prog_8_method_41_code 3 = .ok (.aload_n 0, 1) := by decide +kernel
theorem d_Md_taking_4 : decode prog_8_method_41_code 4 = .ok (.getfield 146, 3) := by decide +kernel
theorem d_Md_taking_7 : decode prog_8_method_41_code 7 = .ok (.if_icmp .ge 57, 3) := by decide +kernel
theorem d_Md_taking_10 : decode prog_8_method_41_code 10 = .ok (.aload_n 0, 1) := by decide +kernel
theorem d_Md_taking_11 : decode prog_8_method_41_code 11 = .ok (.iload_n 1, 1) := by decide +kernel
theorem d_Md_taking_12 : decode prog_8_method_41_code 12 = .ok (.iload_n 2, 1) := by decide +kernel
theorem d_Md_taking_13 : decode prog_8_method_41_code 13 = .ok (.invokevirtual 181, 3) := by decide +kernel
theorem d_Md_taking_16 : decode prog_8_method_41_code 16 = .ok (.ifCond .eq 42, 3) := by decide +kernel
theorem d_Md_taking_19 : decode prog_8_method_41_code 19 = .ok (.aload_n 0, 1) := by decide +kernel
theorem d_Md_taking_20 : decode prog_8_method_41_code 20 = .ok (.getfield 47, 3) := by decide +kernel
theorem d_Md_taking_23 : decode prog_8_method_41_code 23 = .ok (.iload_n 1, 1) := by decide +kernel
theorem d_Md_taking_24 : decode prog_8_method_41_code 24 = .ok (.iconst 1, 1) := by decide +kernel
theorem d_Md_taking_25 : decode prog_8_method_41_code 25 = .ok (.bastore, 1) := by decide +kernel
theorem d_Md_taking_26 : decode prog_8_method_41_code 26 = .ok (.aload_n 0, 1) := by decide +kernel
theorem d_Md_taking_27 : decode prog_8_method_41_code 27 = .ok (.getfield 50, 3) := by decide +kernel
theorem d_Md_taking_30 : decode prog_8_method_41_code 30 = .ok (.aload_n 0, 1) := by decide +kernel
theorem d_Md_taking_31 : decode prog_8_method_41_code 31 = .ok (.getfield 114, 3) := by decide +kernel
theorem d_Md_taking_34 : decode prog_8_method_41_code 34 = .ok (.iload_n 1, 1) := by decide +kernel
theorem d_Md_taking_35 : decode prog_8_method_41_code 35 = .ok (.iastore, 1) := by decide +kernel
theorem d_Md_taking_36 : decode prog_8_method_41_code 36 = .ok (.aload_n 0, 1) := by decide +kernel
theorem d_Md_taking_37 : decode prog_8_method_41_code 37 = .ok (.getfield 53, 3) := by decide +kernel
theorem d_Md_taking_40 : decode prog_8_method_41_code 40 = .ok (.aload_n 0, 1) := by decide +kernel
theorem d_Md_taking_41 : decode prog_8_method_41_code 41 = .ok (.getfield 114, 3) := by decide +kernel
theorem d_Md_taking_44 : decode prog_8_method_41_code 44 = .ok (.iload_n 2, 1) := by decide +kernel
theorem d_Md_taking_45 : decode prog_8_method_41_code 45 = .ok (.iastore, 1) := by decide +kernel
theorem d_Md_taking_46 : decode prog_8_method_41_code 46 = .ok (.aload_n 0, 1) := by decide +kernel
theorem d_Md_taking_47 : decode prog_8_method_41_code 47 = .ok (.dup, 1) := by decide +kernel
theorem d_Md_taking_48 : decode prog_8_method_41_code 48 = .ok (.getfield 114, 3) := by decide +kernel
theorem d_Md_taking_51 : decode prog_8_method_41_code 51 = .ok (.iconst 1, 1) := by decide +kernel
theorem d_Md_taking_52 : decode prog_8_method_41_code 52 = .ok (.iadd, 1) := by decide +kernel
theorem d_Md_taking_53 : decode prog_8_method_41_code 53 = .ok (.putfield 114, 3) := by decide +kernel
theorem d_Md_taking_56 : decode prog_8_method_41_code 56 = .ok (.iload_n 2, 1) := by decide +kernel
theorem d_Md_taking_57 : decode prog_8_method_41_code 57 = .ok (.ireturn, 1) := by decide +kernel
theorem d_Md_taking_58 : decode prog_8_method_41_code 58 = .ok (.iinc 2 1, 3) := by decide +kernel
theorem d_Md_taking_61 : decode prog_8_method_41_code 61 = .ok (.goto (-59), 3) := by decide +kernel
theorem d_Md_taking_64 : decode prog_8_method_41_code 64 = .ok (.iconst (-1), 1) := by decide +kernel
theorem d_Md_taking_65 : decode prog_8_method_41_code 65 = .ok (.ireturn, 1) := by decide +kernel
theorem d_Md_order_0 : decode prog_8_method_43_code 0 = .ok (.aload_n 0, 1) := by decide +kernel
theorem d_Md_order_1 : decode prog_8_method_43_code 1 = .ok (.iconst 0, 1) := by decide +kernel
theorem d_Md_order_2 : decode prog_8_method_43_code 2 = .ok (.putfield 75, 3) := by decide +kernel
theorem d_Md_order_5 : decode prog_8_method_43_code 5 = .ok (.iconst 0, 1) := by decide +kernel
theorem d_Md_order_6 : decode prog_8_method_43_code 6 = .ok (.istore_n 1, 1) := by decide +kernel
theorem d_Md_order_7 : decode prog_8_method_43_code 7 = .ok (.iconst 0, 1) := by decide +kernel
theorem d_Md_order_8 : decode prog_8_method_43_code 8 = .ok (.istore_n 2, 1) := by decide +kernel
theorem d_Md_order_9 : decode prog_8_method_43_code 9 = .ok (.iload_n 2, 1) := by decide +kernel
theorem d_Md_order_10 : decode prog_8_method_43_code 10 = .ok (.aload_n 0, 1) := by decide +kernel
theorem d_Md_order_11 : decode prog_8_method_43_code 11 = .ok (.getfield 111, 3) := by decide +kernel
theorem d_Md_order_14 : decode prog_8_method_43_code 14 = .ok (.if_icmp .ge 26, 3) := by decide +kernel
theorem d_Md_order_17 : decode prog_8_method_43_code 17 = .ok (.aload_n 0, 1) := by decide +kernel
theorem d_Md_order_18 : decode prog_8_method_43_code 18 = .ok (.iload_n 2, 1) := by decide +kernel
theorem d_Md_order_19 : decode prog_8_method_43_code 19 = .ok (.invokevirtual 184, 3) := by decide +kernel
theorem d_Md_order_22 : decode prog_8_method_43_code 22 = .ok (.iconst (-1), 1) := by decide +kernel
theorem d_Md_order_23 : decode prog_8_method_43_code 23 = .ok (.if_icmp .eq 11, 3) := by decide +kernel
theorem d_Md_order_26 : decode prog_8_method_43_code 26 = .ok (.iinc 1 1, 3) := by decide +kernel
theorem d_Md_order_29 : decode prog_8_method_43_code 29 = .ok (.iconst 0, 1) := by decide +kernel
theorem d_Md_order_30 : decode prog_8_method_43_code 30 = .ok (.istore_n 2, 1) := by decide +kernel
theorem d_Md_order_31 : decode prog_8_method_43_code 31 = .ok (.goto (-22), 3) := by decide +kernel
theorem d_Md_order_34 : decode prog_8_method_43_code 34 = .ok (.iinc 2 1, 3) := by decide +kernel
theorem d_Md_order_37 : decode prog_8_method_43_code 37 = .ok (.goto (-28), 3) := by decide +kernel
theorem d_Md_order_40 : decode prog_8_method_43_code 40 = .ok (.iload_n 1, 1) := by decide +kernel
theorem d_Md_order_41 : decode prog_8_method_43_code 41 = .ok (.ireturn, 1) := by decide +kernel
theorem d_Md_taken_0 : decode prog_8_method_44_code 0 = .ok (.aload_n 0, 1) := by decide +kernel
theorem d_Md_taken_1 : decode prog_8_method_44_code 1 = .ok (.iload_n 1, 1) := by decide +kernel
theorem d_Md_taken_2 : decode prog_8_method_44_code 2 = .ok (.iconst 0, 1) := by decide +kernel
theorem d_Md_taken_3 : decode prog_8_method_44_code 3 = .ok (.aload_n 0, 1) := by decide +kernel
theorem d_Md_taken_4 : decode prog_8_method_44_code 4 = .ok (.getfield 114, 3) := by decide +kernel
theorem d_Md_taken_7 : decode prog_8_method_44_code 7 = .ok (.iconst 1, 1) := by decide +kernel
theorem d_Md_taken_8 : decode prog_8_method_44_code 8 = .ok (.isub, 1) := by decide +kernel
theorem d_Md_taken_9 : decode prog_8_method_44_code 9 = .ok (.invokestatic 131, 3) := by decide +kernel
theorem d_Md_taken_12 : decode prog_8_method_44_code 12 = .ok (.ifCond .eq 16, 3) := by decide +kernel
theorem d_Md_taken_15 : decode prog_8_method_44_code 15 = .ok (.iload_n 2, 1) := by decide +kernel
theorem d_Md_taken_16 : decode prog_8_method_44_code 16 = .ok (.iconst 0, 1) := by decide +kernel
theorem d_Md_taken_17 : decode prog_8_method_44_code 17 = .ok (.iconst 1, 1) := by decide +kernel
theorem d_Md_taken_18 : decode prog_8_method_44_code 18 = .ok (.invokestatic 131, 3) := by decide +kernel
theorem d_Md_taken_21 : decode prog_8_method_44_code 21 = .ok (.ifCond .eq 7, 3) := by decide +kernel
theorem d_Md_taken_24 : decode prog_8_method_44_code 24 = .ok (.iconst 0, 1) := by decide +kernel
theorem d_Md_taken_25 : decode prog_8_method_44_code 25 = .ok (.goto 4, 3) := by decide +kernel
theorem d_Md_taken_28 : decode prog_8_method_44_code 28 = .ok (.iconst 1, 1) := by decide +kernel
theorem d_Md_taken_29 : decode prog_8_method_44_code 29 = .ok (.putfield 75, 3) := by decide +kernel
theorem d_Md_taken_32 : decode prog_8_method_44_code 32 = .ok (.aload_n 0, 1) := by decide +kernel
theorem d_Md_taken_33 : decode prog_8_method_44_code 33 = .ok (.getfield 75, 3) := by decide +kernel
theorem d_Md_taken_36 : decode prog_8_method_44_code 36 = .ok (.ifCond .le 7, 3) := by decide +kernel
theorem d_Md_taken_39 : decode prog_8_method_44_code 39 = .ok (.iconst 0, 1) := by decide +kernel
theorem d_Md_taken_40 : decode prog_8_method_44_code 40 = .ok (.goto 22, 3) := by decide +kernel
theorem d_Md_taken_43 : decode prog_8_method_44_code 43 = .ok (.iload_n 2, 1) := by decide +kernel
theorem d_Md_taken_44 : decode prog_8_method_44_code 44 = .ok (.ifCond .ne 12, 3) := by decide +kernel
theorem d_Md_taken_47 : decode prog_8_method_44_code 47 = .ok (.aload_n 0, 1) := by decide +kernel
theorem d_Md_taken_48 : decode prog_8_method_44_code 48 = .ok (.getfield 50, 3) := by decide +kernel
theorem d_Md_taken_51 : decode prog_8_method_44_code 51 = .ok (.iload_n 1, 1) := by decide +kernel
theorem d_Md_taken_52 : decode prog_8_method_44_code 52 = .ok (.iaload, 1) := by decide +kernel
theorem d_Md_taken_53 : decode prog_8_method_44_code 53 = .ok (.goto 9, 3) := by decide +kernel
theorem d_Md_taken_56 : decode prog_8_method_44_code 56 = .ok (.aload_n 0, 1) := by decide +kernel
theorem d_Md_taken_57 : decode prog_8_method_44_code 57 = .ok (.getfield 53, 3) := by decide +kernel
theorem d_Md_taken_60 : decode prog_8_method_44_code 60 = .ok (.iload_n 1, 1) := by decide +kernel
theorem d_Md_taken_61 : decode prog_8_method_44_code 61 = .ok (.iaload, 1) := by decide +kernel
theorem d_Md_taken_62 : decode prog_8_method_44_code 62 = .ok (.ireturn, 1) := by decide +kernel
theorem d_Md_back_0 : decode prog_8_method_45_code 0 = .ok (.aload_n 0, 1) := by decide +kernel
theorem d_Md_back_1 : decode prog_8_method_45_code 1 = .ok (.iconst 0, 1) := by decide +kernel
theorem d_Md_back_2 : decode prog_8_method_45_code 2 = .ok (.putfield 75, 3) := by decide +kernel
theorem d_Md_back_5 : decode prog_8_method_45_code 5 = .ok (.aload_n 0, 1) := by decide +kernel
theorem d_Md_back_6 : decode prog_8_method_45_code 6 = .ok (.getfield 114, 3) := by decide +kernel
theorem d_Md_back_9 : decode prog_8_method_45_code 9 = .ok (.istore_n 1, 1) := by decide +kernel
theorem d_Md_back_10 : decode prog_8_method_45_code 10 = .ok (.aload_n 0, 1) := by decide +kernel
theorem d_Md_back_11 : decode prog_8_method_45_code 11 = .ok (.iconst 0, 1) := by decide +kernel
theorem d_Md_back_12 : decode prog_8_method_45_code 12 = .ok (.putfield 114, 3) := by decide +kernel
theorem d_Md_back_15 : decode prog_8_method_45_code 15 = .ok (.iconst 0, 1) := by decide +kernel
theorem d_Md_back_16 : decode prog_8_method_45_code 16 = .ok (.istore_n 2, 1) := by decide +kernel
theorem d_Md_back_17 : decode prog_8_method_45_code 17 = .ok (.iload_n 2, 1) := by decide +kernel
theorem d_Md_back_18 : decode prog_8_method_45_code 18 = .ok (.aload_n 0, 1) := by decide +kernel
theorem d_Md_back_19 : decode prog_8_method_45_code 19 = .ok (.getfield 111, 3) := by decide +kernel
theorem d_Md_back_22 : decode prog_8_method_45_code 22 = .ok (.if_icmp .ge 16, 3) := by decide +kernel
theorem d_Md_back_25 : decode prog_8_method_45_code 25 = .ok (.aload_n 0, 1) := by decide +kernel
theorem d_Md_back_26 : decode prog_8_method_45_code 26 = .ok (.getfield 47, 3) := by decide +kernel
theorem d_Md_back_29 : decode prog_8_method_45_code 29 = .ok (.iload_n 2, 1) := by decide +kernel
theorem d_Md_back_30 : decode prog_8_method_45_code 30 = .ok (.iconst 0, 1) := by decide +kernel
theorem d_Md_back_31 : decode prog_8_method_45_code 31 = .ok (.bastore, 1) := by decide +kernel
theorem d_Md_back_32 : decode prog_8_method_45_code 32 = .ok (.iinc 2 1, 3) := by decide +kernel
theorem d_Md_back_35 : decode prog_8_method_45_code 35 = .ok (.goto (-18), 3) := by decide +kernel
theorem d_Md_back_38 : decode prog_8_method_45_code 38 = .ok (.iload_n 1, 1) := by decide +kernel
theorem d_Md_back_39 : decode prog_8_method_45_code 39 = .ok (.ireturn, 1) := by decide +kernel
theorem d_Md_mode_0 : decode prog_8_method_49_code 0 = .ok (.aload_n 0, 1) := by decide +kernel
theorem d_Md_mode_1 : decode prog_8_method_49_code 1 = .ok (.aload_n 0, 1) := by decide +kernel
theorem d_Md_mode_2 : decode prog_8_method_49_code 2 = .ok (.iload_n 1, 1) := by decide +kernel
theorem d_Md_mode_3 : decode prog_8_method_49_code 3 = .ok (.invokevirtual 152, 3) := by decide +kernel
theorem d_Md_mode_6 : decode prog_8_method_49_code 6 = .ok (.ifCond .eq 7, 3) := by decide +kernel
theorem d_Md_mode_9 : decode prog_8_method_49_code 9 = .ok (.iconst 0, 1) := by decide +kernel
theorem d_Md_mode_10 : decode prog_8_method_49_code 10 = .ok (.goto 4, 3) := by decide +kernel
theorem d_Md_mode_13 : decode prog_8_method_49_code 13 = .ok (.iconst 1, 1) := by decide +kernel
theorem d_Md_mode_14 : decode prog_8_method_49_code 14 = .ok (.putfield 75, 3) := by decide +kernel
theorem d_Md_mode_17 : decode prog_8_method_49_code 17 = .ok (.aload_n 0, 1) := by decide +kernel
theorem d_Md_mode_18 : decode prog_8_method_49_code 18 = .ok (.getfield 75, 3) := by decide +kernel
theorem d_Md_mode_21 : decode prog_8_method_49_code 21 = .ok (.ifCond .le 5, 3) := by decide +kernel
theorem d_Md_mode_24 : decode prog_8_method_49_code 24 = .ok (.iconst 0, 1) := by decide +kernel
theorem d_Md_mode_25 : decode prog_8_method_49_code 25 = .ok (.ireturn, 1) := by decide +kernel
theorem d_Md_mode_26 : decode prog_8_method_49_code 26 = .ok (.aload_n 0, 1) := by decide +kernel
theorem d_Md_mode_27 : decode prog_8_method_49_code 27 = .ok (.getfield 47, 3) := by decide +kernel
theorem d_Md_mode_30 : decode prog_8_method_49_code 30 = .ok (.iload_n 1, 1) := by decide +kernel
theorem d_Md_mode_31 : decode prog_8_method_49_code 31 = .ok (.baload, 1) := by decide +kernel
theorem d_Md_mode_32 : decode prog_8_method_49_code 32 = .ok (.ifCond .eq 5, 3) := by decide +kernel
theorem d_Md_mode_35 : decode prog_8_method_49_code 35 = .ok (.iconst (-1), 1) := by decide +kernel
theorem d_Md_mode_36 : decode prog_8_method_49_code 36 = .ok (.ireturn, 1) := by decide +kernel
theorem d_Md_mode_37 : decode prog_8_method_49_code 37 = .ok (.iconst 0, 1) := by decide +kernel
theorem d_Md_mode_38 : decode prog_8_method_49_code 38 = .ok (.istore_n 2, 1) := by decide +kernel
theorem d_Md_mode_39 : decode prog_8_method_49_code 39 = .ok (.iload_n 2, 1) := by decide +kernel
theorem d_Md_mode_40 : decode prog_8_method_49_code 40 = .ok (.iconst 3, 1) := by decide +kernel
theorem d_Md_mode_41 : decode prog_8_method_49_code 41 = .ok (.if_icmp .ge 21, 3) := by decide +kernel
theorem d_Md_mode_44 : decode prog_8_method_49_code 44 = .ok (.aload_n 0, 1) := by decide +kernel
theorem d_Md_mode_45 : decode prog_8_method_49_code 45 = .ok (.getfield 62, 3) := by decide +kernel
theorem d_Md_mode_48 : decode prog_8_method_49_code 48 = .ok (.iload_n 2, 1) := by decide +kernel
theorem d_Md_mode_49 : decode prog_8_method_49_code 49 = .ok (.aload_n 0, 1) := by decide +kernel
theorem d_Md_mode_50 : decode prog_8_method_49_code 50 = .ok (.getfield 23, 3) := by decide +kernel
theorem d_Md_mode_53 : decode prog_8_method_49_code 53 = .ok (.iload_n 2, 1) := by decide +kernel
theorem d_Md_mode_54 : decode prog_8_method_49_code 54 = .ok (.iaload, 1) := by decide +kernel
theorem d_Md_mode_55 : decode prog_8_method_49_code 55 = .ok (.iastore, 1) := by decide +kernel
theorem d_Md_mode_56 : decode prog_8_method_49_code 56 = .ok (.iinc 2 1, 3) := by decide +kernel
theorem d_Md_mode_59 : decode prog_8_method_49_code 59 = .ok (.goto (-20), 3) := by decide +kernel
theorem d_Md_mode_62 : decode prog_8_method_49_code 62 = .ok (.aload_n 0, 1) := by decide +kernel
theorem d_Md_mode_63 : decode prog_8_method_49_code 63 = .ok (.iload_n 1, 1) := by decide +kernel
theorem d_Md_mode_64 : decode prog_8_method_49_code 64 = .ok (.invokevirtual 178, 3) := by decide +kernel
theorem d_Md_mode_67 : decode prog_8_method_49_code 67 = .ok (.ifCond .eq 5, 3) := by decide +kernel
theorem d_Md_mode_70 : decode prog_8_method_49_code 70 = .ok (.iconst 1, 1) := by decide +kernel
theorem d_Md_mode_71 : decode prog_8_method_49_code 71 = .ok (.ireturn, 1) := by decide +kernel
theorem d_Md_mode_72 : decode prog_8_method_49_code 72 = .ok (.iconst 0, 1) := by decide +kernel
theorem d_Md_mode_73 : decode prog_8_method_49_code 73 = .ok (.istore_n 2, 1) := by decide +kernel
theorem d_Md_mode_74 : decode prog_8_method_49_code 74 = .ok (.iload_n 2, 1) := by decide +kernel
theorem d_Md_mode_75 : decode prog_8_method_49_code 75 = .ok (.bipush 12, 2) := by decide +kernel
theorem d_Md_mode_77 : decode prog_8_method_49_code 77 = .ok (.if_icmp .ge 23, 3) := by decide +kernel
theorem d_Md_mode_80 : decode prog_8_method_49_code 80 = .ok (.aload_n 0, 1) := by decide +kernel
theorem d_Md_mode_81 : decode prog_8_method_49_code 81 = .ok (.iload_n 1, 1) := by decide +kernel
theorem d_Md_mode_82 : decode prog_8_method_49_code 82 = .ok (.iload_n 2, 1) := by decide +kernel
theorem d_Md_mode_83 : decode prog_8_method_49_code 83 = .ok (.invokevirtual 191, 3) := by decide +kernel
theorem d_Md_mode_86 : decode prog_8_method_49_code 86 = .ok (.ifCond .eq 8, 3) := by decide +kernel
theorem d_Md_mode_89 : decode prog_8_method_49_code 89 = .ok (.bipush 10, 2) := by decide +kernel
theorem d_Md_mode_91 : decode prog_8_method_49_code 91 = .ok (.iload_n 2, 1) := by decide +kernel
theorem d_Md_mode_92 : decode prog_8_method_49_code 92 = .ok (.iadd, 1) := by decide +kernel
theorem d_Md_mode_93 : decode prog_8_method_49_code 93 = .ok (.ireturn, 1) := by decide +kernel
theorem d_Md_mode_94 : decode prog_8_method_49_code 94 = .ok (.iinc 2 1, 3) := by decide +kernel
theorem d_Md_mode_97 : decode prog_8_method_49_code 97 = .ok (.goto (-23), 3) := by decide +kernel
theorem d_Md_mode_100 : decode prog_8_method_49_code 100 = .ok (.iconst 0, 1) := by decide +kernel
theorem d_Md_mode_101 : decode prog_8_method_49_code 101 = .ok (.istore_n 2, 1) := by decide +kernel
theorem d_Md_mode_102 : decode prog_8_method_49_code 102 = .ok (.iload_n 2, 1) := by decide +kernel
theorem d_Md_mode_103 : decode prog_8_method_49_code 103 = .ok (.bipush 12, 2) := by decide +kernel
theorem d_Md_mode_105 : decode prog_8_method_49_code 105 = .ok (.if_icmp .ge 45, 3) := by decide +kernel
theorem d_Md_mode_108 : decode prog_8_method_49_code 108 = .ok (.iload_n 2, 1) := by decide +kernel
theorem d_Md_mode_109 : decode prog_8_method_49_code 109 = .ok (.iconst 1, 1) := by decide +kernel
theorem d_Md_mode_110 : decode prog_8_method_49_code 110 = .ok (.iadd, 1) := by decide +kernel
theorem d_Md_mode_111 : decode prog_8_method_49_code 111 = .ok (.istore_n 3, 1) := by decide +kernel
theorem d_Md_mode_112 : decode prog_8_method_49_code 112 = .ok (.iload_n 3, 1) := by decide +kernel
theorem d_Md_mode_113 : decode prog_8_method_49_code 113 = .ok (.bipush 12, 2) := by decide +kernel
theorem d_Md_mode_115 : decode prog_8_method_49_code 115 = .ok (.if_icmp .ge 29, 3) := by decide +kernel
theorem d_Md_mode_118 : decode prog_8_method_49_code 118 = .ok (.aload_n 0, 1) := by decide +kernel
theorem d_Md_mode_119 : decode prog_8_method_49_code 119 = .ok (.iload_n 1, 1) := by decide +kernel
theorem d_Md_mode_120 : decode prog_8_method_49_code 120 = .ok (.iload_n 2, 1) := by decide +kernel
theorem d_Md_mode_121 : decode prog_8_method_49_code 121 = .ok (.iload_n 3, 1) := by decide +kernel
theorem d_Md_mode_122 : decode prog_8_method_49_code 122 = .ok (.invokevirtual 194, 3) := by decide +kernel
theorem d_Md_mode_125 : decode prog_8_method_49_code 125 = .ok (.ifCond .eq 13, 3) := by decide +kernel
theorem d_Md_mode_128 : decode prog_8_method_49_code 128 = .ok (.bipush 100, 2) := by decide +kernel
theorem d_Md_mode_130 : decode prog_8_method_49_code 130 = .ok (.bipush 12, 2) := by decide +kernel
theorem d_Md_mode_132 : decode prog_8_method_49_code 132 = .ok (.iload_n 2, 1) := by decide +kernel
theorem d_Md_mode_133 : decode prog_8_method_49_code 133 = .ok (.imul, 1) := by decide +kernel
theorem d_Md_mode_134 : decode prog_8_method_49_code 134 = .ok (.iadd, 1) := by decide +kernel
theorem d_Md_mode_135 : decode prog_8_method_49_code 135 = .ok (.iload_n 3, 1) := by decide +kernel
theorem d_Md_mode_136 : decode prog_8_method_49_code 136 = .ok (.iadd, 1) := by decide +kernel
theorem d_Md_mode_137 : decode prog_8_method_49_code 137 = .ok (.ireturn, 1) := by decide +kernel
theorem d_Md_mode_138 : decode prog_8_method_49_code 138 = .ok (.iinc 3 1, 3) := by decide +kernel
theorem d_Md_mode_141 : decode prog_8_method_49_code 141 = .ok (.goto (-29), 3) := by decide +kernel
theorem d_Md_mode_144 : decode prog_8_method_49_code 144 = .ok (.iinc 2 1, 3) := by decide +kernel
theorem d_Md_mode_147 : decode prog_8_method_49_code 147 = .ok (.goto (-45), 3) := by decide +kernel
theorem d_Md_mode_150 : decode prog_8_method_49_code 150 = .ok (.iconst 0, 1) := by decide +kernel
theorem d_Md_mode_151 : decode prog_8_method_49_code 151 = .ok (.ireturn, 1) := by decide +kernel
theorem d_Md_slidesOn_0 : decode prog_8_method_47_code 0 = .ok (.aload_n 0, 1) := by decide +kernel
theorem d_Md_slidesOn_1 : decode prog_8_method_47_code 1 = .ok (.iload_n 1, 1) := by decide +kernel
theorem d_Md_slidesOn_2 : decode prog_8_method_47_code 2 = .ok (.iload_n 2, 1) := by decide +kernel
theorem d_Md_slidesOn_3 : decode prog_8_method_47_code 3 = .ok (.invokevirtual 167, 3) := by decide +kernel
theorem d_Md_slidesOn_6 : decode prog_8_method_47_code 6 = .ok (.ifCond .ne 5, 3) := by decide +kernel
theorem d_Md_slidesOn_9 : decode prog_8_method_47_code 9 = .ok (.iconst 0, 1) := by decide +kernel
theorem d_Md_slidesOn_10 : decode prog_8_method_47_code 10 = .ok (.ireturn, 1) := by decide +kernel
theorem d_Md_slidesOn_11 : decode prog_8_method_47_code 11 = .ok (.aload_n 0, 1) := by decide +kernel
theorem d_Md_slidesOn_12 : decode prog_8_method_47_code 12 = .ok (.iload_n 1, 1) := by decide +kernel
theorem d_Md_slidesOn_13 : decode prog_8_method_47_code 13 = .ok (.iload_n 2, 1) := by decide +kernel
theorem d_Md_slidesOn_14 : decode prog_8_method_47_code 14 = .ok (.aload_n 0, 1) := by decide +kernel
theorem d_Md_slidesOn_15 : decode prog_8_method_47_code 15 = .ok (.getfield 56, 3) := by decide +kernel
theorem d_Md_slidesOn_18 : decode prog_8_method_47_code 18 = .ok (.invokevirtual 170, 3) := by decide +kernel
theorem d_Md_slidesOn_21 : decode prog_8_method_47_code 21 = .ok (.aload_n 0, 1) := by decide +kernel
theorem d_Md_slidesOn_22 : decode prog_8_method_47_code 22 = .ok (.aload_n 0, 1) := by decide +kernel
theorem d_Md_slidesOn_23 : decode prog_8_method_47_code 23 = .ok (.getfield 56, 3) := by decide +kernel
theorem d_Md_slidesOn_26 : decode prog_8_method_47_code 26 = .ok (.aload_n 0, 1) := by decide +kernel
theorem d_Md_slidesOn_27 : decode prog_8_method_47_code 27 = .ok (.getfield 62, 3) := by decide +kernel
theorem d_Md_slidesOn_30 : decode prog_8_method_47_code 30 = .ok (.invokevirtual 187, 3) := by decide +kernel
theorem d_Md_slidesOn_33 : decode prog_8_method_47_code 33 = .ok (.aload_n 0, 1) := by decide +kernel
theorem d_Md_slidesOn_34 : decode prog_8_method_47_code 34 = .ok (.getfield 23, 3) := by decide +kernel
theorem d_Md_slidesOn_37 : decode prog_8_method_47_code 37 = .ok (.aload_n 0, 1) := by decide +kernel
theorem d_Md_slidesOn_38 : decode prog_8_method_47_code 38 = .ok (.getfield 56, 3) := by decide +kernel
theorem d_Md_slidesOn_41 : decode prog_8_method_47_code 41 = .ok (.invokestatic 174, 3) := by decide +kernel
theorem d_Md_slidesOn_44 : decode prog_8_method_47_code 44 = .ok (.ifCond .ge 15, 3) := by decide +kernel
theorem d_Md_slidesOn_47 : decode prog_8_method_47_code 47 = .ok (.aload_n 0, 1) := by decide +kernel
theorem d_Md_slidesOn_48 : decode prog_8_method_47_code 48 = .ok (.iload_n 1, 1) := by decide +kernel
theorem d_Md_slidesOn_49 : decode prog_8_method_47_code 49 = .ok (.invokevirtual 178, 3) := by decide +kernel
theorem d_Md_slidesOn_52 : decode prog_8_method_47_code 52 = .ok (.ifCond .eq 7, 3) := by decide +kernel
theorem d_Md_slidesOn_55 : decode prog_8_method_47_code 55 = .ok (.iconst 1, 1) := by decide +kernel
theorem d_Md_slidesOn_56 : decode prog_8_method_47_code 56 = .ok (.goto 4, 3) := by decide +kernel
theorem d_Md_slidesOn_59 : decode prog_8_method_47_code 59 = .ok (.iconst 0, 1) := by decide +kernel
theorem d_Md_slidesOn_60 : decode prog_8_method_47_code 60 = .ok (.ireturn, 1) := by decide +kernel
theorem d_Md_slide_0 : decode prog_8_method_46_code 0 = .ok (.aload_n 1, 1) := by decide +kernel
theorem d_Md_slide_1 : decode prog_8_method_46_code 1 = .ok (.aload_n 1, 1) := by decide +kernel
theorem d_Md_slide_2 : decode prog_8_method_46_code 2 = .ok (.invokestatic 174, 3) := by decide +kernel
theorem d_Md_slide_5 : decode prog_8_method_46_code 5 = .ok (.istore_n 3, 1) := by decide +kernel
theorem d_Md_slide_6 : decode prog_8_method_46_code 6 = .ok (.aload_n 0, 1) := by decide +kernel
theorem d_Md_slide_7 : decode prog_8_method_46_code 7 = .ok (.getfield 23, 3) := by decide +kernel
theorem d_Md_slide_10 : decode prog_8_method_46_code 10 = .ok (.aload_n 1, 1) := by decide +kernel
theorem d_Md_slide_11 : decode prog_8_method_46_code 11 = .ok (.invokestatic 174, 3) := by decide +kernel
theorem d_Md_slide_14 : decode prog_8_method_46_code 14 = .ok (.istore 4, 2) := by decide +kernel
theorem d_Md_slide_16 : decode prog_8_method_46_code 16 = .ok (.iconst 0, 1) := by decide +kernel
theorem d_Md_slide_17 : decode prog_8_method_46_code 17 = .ok (.istore 5, 2) := by decide +kernel
theorem d_Md_slide_19 : decode prog_8_method_46_code 19 = .ok (.iload 5, 2) := by decide +kernel
theorem d_Md_slide_21 : decode prog_8_method_46_code 21 = .ok (.iconst 3, 1) := by decide +kernel
theorem d_Md_slide_22 : decode prog_8_method_46_code 22 = .ok (.if_icmp .ge 30, 3) := by decide +kernel
theorem d_Md_slide_25 : decode prog_8_method_46_code 25 = .ok (.aload_n 2, 1) := by decide +kernel
theorem d_Md_slide_26 : decode prog_8_method_46_code 26 = .ok (.iload 5, 2) := by decide +kernel
theorem d_Md_slide_28 : decode prog_8_method_46_code 28 = .ok (.aload_n 0, 1) := by decide +kernel
theorem d_Md_slide_29 : decode prog_8_method_46_code 29 = .ok (.getfield 23, 3) := by decide +kernel
theorem d_Md_slide_32 : decode prog_8_method_46_code 32 = .ok (.iload 5, 2) := by decide +kernel
theorem d_Md_slide_34 : decode prog_8_method_46_code 34 = .ok (.iaload, 1) := by decide +kernel
theorem d_Md_slide_35 : decode prog_8_method_46_code 35 = .ok (.iload_n 3, 1) := by decide +kernel
theorem d_Md_slide_36 : decode prog_8_method_46_code 36 = .ok (.imul, 1) := by decide +kernel
theorem d_Md_slide_37 : decode prog_8_method_46_code 37 = .ok (.aload_n 1, 1) := by decide +kernel
theorem d_Md_slide_38 : decode prog_8_method_46_code 38 = .ok (.iload 5, 2) := by decide +kernel
theorem d_Md_slide_40 : decode prog_8_method_46_code 40 = .ok (.iaload, 1) := by decide +kernel
theorem d_Md_slide_41 : decode prog_8_method_46_code 41 = .ok (.iload 4, 2) := by decide +kernel
theorem d_Md_slide_43 : decode prog_8_method_46_code 43 = .ok (.imul, 1) := by decide +kernel
theorem d_Md_slide_44 : decode prog_8_method_46_code 44 = .ok (.isub, 1) := by decide +kernel
theorem d_Md_slide_45 : decode prog_8_method_46_code 45 = .ok (.iastore, 1) := by decide +kernel
theorem d_Md_slide_46 : decode prog_8_method_46_code 46 = .ok (.iinc 5 1, 3) := by decide +kernel
theorem d_Md_slide_49 : decode prog_8_method_46_code 49 = .ok (.goto (-30), 3) := by decide +kernel
theorem d_Md_slide_52 : decode prog_8_method_46_code 52 = .ok (.return_, 1) := by decide +kernel
theorem d_Md_slidesAlong_0 : decode prog_8_method_48_code 0 = .ok (.aload_n 0, 1) := by decide +kernel
theorem d_Md_slidesAlong_1 : decode prog_8_method_48_code 1 = .ok (.iload_n 1, 1) := by decide +kernel
theorem d_Md_slidesAlong_2 : decode prog_8_method_48_code 2 = .ok (.iload_n 2, 1) := by decide +kernel
theorem d_Md_slidesAlong_3 : decode prog_8_method_48_code 3 = .ok (.invokevirtual 167, 3) := by decide +kernel
theorem d_Md_slidesAlong_6 : decode prog_8_method_48_code 6 = .ok (.ifCond .eq 12, 3) := by decide +kernel
theorem d_Md_slidesAlong_9 : decode prog_8_method_48_code 9 = .ok (.aload_n 0, 1) := by decide +kernel
theorem d_Md_slidesAlong_10 : decode prog_8_method_48_code 10 = .ok (.iload_n 1, 1) := by decide +kernel
theorem d_Md_slidesAlong_11 : decode prog_8_method_48_code 11 = .ok (.iload_n 3, 1) := by decide +kernel
theorem d_Md_slidesAlong_12 : decode prog_8_method_48_code 12 = .ok (.invokevirtual 167, 3) := by decide +kernel
theorem d_Md_slidesAlong_15 : decode prog_8_method_48_code 15 = .ok (.ifCond .ne 5, 3) := by decide +kernel
theorem d_Md_slidesAlong_18 : decode prog_8_method_48_code 18 = .ok (.iconst 0, 1) := by decide +kernel
theorem d_Md_slidesAlong_19 : decode prog_8_method_48_code 19 = .ok (.ireturn, 1) := by decide +kernel
theorem d_Md_slidesAlong_20 : decode prog_8_method_48_code 20 = .ok (.aload_n 0, 1) := by decide +kernel
theorem d_Md_slidesAlong_21 : decode prog_8_method_48_code 21 = .ok (.iload_n 1, 1) := by decide +kernel
theorem d_Md_slidesAlong_22 : decode prog_8_method_48_code 22 = .ok (.iload_n 2, 1) := by decide +kernel
theorem d_Md_slidesAlong_23 : decode prog_8_method_48_code 23 = .ok (.aload_n 0, 1) := by decide +kernel
theorem d_Md_slidesAlong_24 : decode prog_8_method_48_code 24 = .ok (.getfield 56, 3) := by decide +kernel
theorem d_Md_slidesAlong_27 : decode prog_8_method_48_code 27 = .ok (.invokevirtual 170, 3) := by decide +kernel
theorem d_Md_slidesAlong_30 : decode prog_8_method_48_code 30 = .ok (.aload_n 0, 1) := by decide +kernel
theorem d_Md_slidesAlong_31 : decode prog_8_method_48_code 31 = .ok (.iload_n 1, 1) := by decide +kernel
theorem d_Md_slidesAlong_32 : decode prog_8_method_48_code 32 = .ok (.iload_n 3, 1) := by decide +kernel
theorem d_Md_slidesAlong_33 : decode prog_8_method_48_code 33 = .ok (.aload_n 0, 1) := by decide +kernel
theorem d_Md_slidesAlong_34 : decode prog_8_method_48_code 34 = .ok (.getfield 59, 3) := by decide +kernel
theorem d_Md_slidesAlong_37 : decode prog_8_method_48_code 37 = .ok (.invokevirtual 170, 3) := by decide +kernel
theorem d_Md_slidesAlong_40 : decode prog_8_method_48_code 40 = .ok (.aload_n 0, 1) := by decide +kernel
theorem d_Md_slidesAlong_41 : decode prog_8_method_48_code 41 = .ok (.aload_n 0, 1) := by decide +kernel
theorem d_Md_slidesAlong_42 : decode prog_8_method_48_code 42 = .ok (.getfield 56, 3) := by decide +kernel
theorem d_Md_slidesAlong_45 : decode prog_8_method_48_code 45 = .ok (.aload_n 0, 1) := by decide +kernel
theorem d_Md_slidesAlong_46 : decode prog_8_method_48_code 46 = .ok (.getfield 65, 3) := by decide +kernel
theorem d_Md_slidesAlong_49 : decode prog_8_method_48_code 49 = .ok (.invokevirtual 187, 3) := by decide +kernel
theorem d_Md_slidesAlong_52 : decode prog_8_method_48_code 52 = .ok (.aload_n 0, 1) := by decide +kernel
theorem d_Md_slidesAlong_53 : decode prog_8_method_48_code 53 = .ok (.getfield 65, 3) := by decide +kernel
theorem d_Md_slidesAlong_56 : decode prog_8_method_48_code 56 = .ok (.aload_n 0, 1) := by decide +kernel
theorem d_Md_slidesAlong_57 : decode prog_8_method_48_code 57 = .ok (.getfield 59, 3) := by decide +kernel
theorem d_Md_slidesAlong_60 : decode prog_8_method_48_code 60 = .ok (.invokestatic 174, 3) := by decide +kernel
theorem d_Md_slidesAlong_63 : decode prog_8_method_48_code 63 = .ok (.ifCond .ge 7, 3) := by decide +kernel
theorem d_Md_slidesAlong_66 : decode prog_8_method_48_code 66 = .ok (.iconst 1, 1) := by decide +kernel
theorem d_Md_slidesAlong_67 : decode prog_8_method_48_code 67 = .ok (.goto 4, 3) := by decide +kernel
theorem d_Md_slidesAlong_70 : decode prog_8_method_48_code 70 = .ok (.iconst 0, 1) := by decide +kernel
theorem d_Md_slidesAlong_71 : decode prog_8_method_48_code 71 = .ok (.istore 4, 2) := by decide +kernel
theorem d_Md_slidesAlong_73 : decode prog_8_method_48_code 73 = .ok (.aload_n 0, 1) := by decide +kernel
theorem d_Md_slidesAlong_74 : decode prog_8_method_48_code 74 = .ok (.aload_n 0, 1) := by decide +kernel
theorem d_Md_slidesAlong_75 : decode prog_8_method_48_code 75 = .ok (.getfield 59, 3) := by decide +kernel
theorem d_Md_slidesAlong_78 : decode prog_8_method_48_code 78 = .ok (.aload_n 0, 1) := by decide +kernel
theorem d_Md_slidesAlong_79 : decode prog_8_method_48_code 79 = .ok (.getfield 65, 3) := by decide +kernel
theorem d_Md_slidesAlong_82 : decode prog_8_method_48_code 82 = .ok (.invokevirtual 187, 3) := by decide +kernel
theorem d_Md_slidesAlong_85 : decode prog_8_method_48_code 85 = .ok (.iload 4, 2) := by decide +kernel
theorem d_Md_slidesAlong_87 : decode prog_8_method_48_code 87 = .ok (.ifCond .eq 21, 3) := by decide +kernel
theorem d_Md_slidesAlong_90 : decode prog_8_method_48_code 90 = .ok (.aload_n 0, 1) := by decide +kernel
theorem d_Md_slidesAlong_91 : decode prog_8_method_48_code 91 = .ok (.getfield 65, 3) := by decide +kernel
theorem d_Md_slidesAlong_94 : decode prog_8_method_48_code 94 = .ok (.aload_n 0, 1) := by decide +kernel
theorem d_Md_slidesAlong_95 : decode prog_8_method_48_code 95 = .ok (.getfield 56, 3) := by decide +kernel
theorem d_Md_slidesAlong_98 : decode prog_8_method_48_code 98 = .ok (.invokestatic 174, 3) := by decide +kernel
theorem d_Md_slidesAlong_101 : decode prog_8_method_48_code 101 = .ok (.ifCond .ge 7, 3) := by decide +kernel
theorem d_Md_slidesAlong_104 : decode prog_8_method_48_code 104 = .ok (.iconst 1, 1) := by decide +kernel
theorem d_Md_slidesAlong_105 : decode prog_8_method_48_code 105 = .ok (.goto 4, 3) := by decide +kernel
theorem d_Md_slidesAlong_108 : decode prog_8_method_48_code 108 = .ok (.iconst 0, 1) := by decide +kernel
theorem d_Md_slidesAlong_109 : decode prog_8_method_48_code 109 = .ok (.istore 4, 2) := by decide +kernel
theorem d_Md_slidesAlong_111 : decode prog_8_method_48_code 111 = .ok (.aload_n 0, 1) := by decide +kernel
theorem d_Md_slidesAlong_112 : decode prog_8_method_48_code 112 = .ok (.getfield 62, 3) := by decide +kernel
theorem d_Md_slidesAlong_115 : decode prog_8_method_48_code 115 = .ok (.iconst 0, 1) := by decide +kernel
theorem d_Md_slidesAlong_116 : decode prog_8_method_48_code 116 = .ok (.aload_n 0, 1) := by decide +kernel
theorem d_Md_slidesAlong_117 : decode prog_8_method_48_code 117 = .ok (.getfield 56, 3) := by decide +kernel
theorem d_Md_slidesAlong_120 : decode prog_8_method_48_code 120 = .ok (.iconst 1, 1) := by decide +kernel
theorem d_Md_slidesAlong_121 : decode prog_8_method_48_code 121 = .ok (.iaload, 1) := by decide +kernel
theorem d_Md_slidesAlong_122 : decode prog_8_method_48_code 122 = .ok (.aload_n 0, 1) := by decide +kernel
theorem d_Md_slidesAlong_123 : decode prog_8_method_48_code 123 = .ok (.getfield 59, 3) := by decide +kernel
theorem d_Md_slidesAlong_126 : decode prog_8_method_48_code 126 = .ok (.iconst 2, 1) := by decide +kernel
theorem d_Md_slidesAlong_127 : decode prog_8_method_48_code 127 = .ok (.iaload, 1) := by decide +kernel
theorem d_Md_slidesAlong_128 : decode prog_8_method_48_code 128 = .ok (.imul, 1) := by decide +kernel
theorem d_Md_slidesAlong_129 : decode prog_8_method_48_code 129 = .ok (.aload_n 0, 1) := by decide +kernel
theorem d_Md_slidesAlong_130 : decode prog_8_method_48_code 130 = .ok (.getfield 56, 3) := by decide +kernel
theorem d_Md_slidesAlong_133 : decode prog_8_method_48_code 133 = .ok (.iconst 2, 1) := by decide +kernel
theorem d_Md_slidesAlong_134 : decode prog_8_method_48_code 134 = .ok (.iaload, 1) := by decide +kernel
theorem d_Md_slidesAlong_135 : decode prog_8_method_48_code 135 = .ok (.aload_n 0, 1) := by decide +kernel
theorem d_Md_slidesAlong_136 : decode prog_8_method_48_code 136 = .ok (.getfield 59, 3) := by decide +kernel
theorem d_Md_slidesAlong_139 : decode prog_8_method_48_code 139 = .ok (.iconst 1, 1) := by decide +kernel
theorem d_Md_slidesAlong_140 : decode prog_8_method_48_code 140 = .ok (.iaload, 1) := by decide +kernel
theorem d_Md_slidesAlong_141 : decode prog_8_method_48_code 141 = .ok (.imul, 1) := by decide +kernel
theorem d_Md_slidesAlong_142 : decode prog_8_method_48_code 142 = .ok (.isub, 1) := by decide +kernel
theorem d_Md_slidesAlong_143 : decode prog_8_method_48_code 143 = .ok (.iastore, 1) := by decide +kernel
theorem d_Md_slidesAlong_144 : decode prog_8_method_48_code 144 = .ok (.aload_n 0, 1) := by decide +kernel
theorem d_Md_slidesAlong_145 : decode prog_8_method_48_code 145 = .ok (.getfield 62, 3) := by decide +kernel
theorem d_Md_slidesAlong_148 : decode prog_8_method_48_code 148 = .ok (.iconst 1, 1) := by decide +kernel
theorem d_Md_slidesAlong_149 : decode prog_8_method_48_code 149 = .ok (.aload_n 0, 1) := by decide +kernel
theorem d_Md_slidesAlong_150 : decode prog_8_method_48_code 150 = .ok (.getfield 56, 3) := by decide +kernel
theorem d_Md_slidesAlong_153 : decode prog_8_method_48_code 153 = .ok (.iconst 2, 1) := by decide +kernel
theorem d_Md_slidesAlong_154 : decode prog_8_method_48_code 154 = .ok (.iaload, 1) := by decide +kernel
theorem d_Md_slidesAlong_155 : decode prog_8_method_48_code 155 = .ok (.aload_n 0, 1) := by decide +kernel
theorem d_Md_slidesAlong_156 : decode prog_8_method_48_code 156 = .ok (.getfield 59, 3) := by decide +kernel
theorem d_Md_slidesAlong_159 : decode prog_8_method_48_code 159 = .ok (.iconst 0, 1) := by decide +kernel
theorem d_Md_slidesAlong_160 : decode prog_8_method_48_code 160 = .ok (.iaload, 1) := by decide +kernel
theorem d_Md_slidesAlong_161 : decode prog_8_method_48_code 161 = .ok (.imul, 1) := by decide +kernel
theorem d_Md_slidesAlong_162 : decode prog_8_method_48_code 162 = .ok (.aload_n 0, 1) := by decide +kernel
theorem d_Md_slidesAlong_163 : decode prog_8_method_48_code 163 = .ok (.getfield 56, 3) := by decide +kernel
theorem d_Md_slidesAlong_166 : decode prog_8_method_48_code 166 = .ok (.iconst 0, 1) := by decide +kernel
theorem d_Md_slidesAlong_167 : decode prog_8_method_48_code 167 = .ok (.iaload, 1) := by decide +kernel
theorem d_Md_slidesAlong_168 : decode prog_8_method_48_code 168 = .ok (.aload_n 0, 1) := by decide +kernel
theorem d_Md_slidesAlong_169 : decode prog_8_method_48_code 169 = .ok (.getfield 59, 3) := by decide +kernel
theorem d_Md_slidesAlong_172 : decode prog_8_method_48_code 172 = .ok (.iconst 2, 1) := by decide +kernel
theorem d_Md_slidesAlong_173 : decode prog_8_method_48_code 173 = .ok (.iaload, 1) := by decide +kernel
theorem d_Md_slidesAlong_174 : decode prog_8_method_48_code 174 = .ok (.imul, 1) := by decide +kernel
theorem d_Md_slidesAlong_175 : decode prog_8_method_48_code 175 = .ok (.isub, 1) := by decide +kernel
theorem d_Md_slidesAlong_176 : decode prog_8_method_48_code 176 = .ok (.iastore, 1) := by decide +kernel
theorem d_Md_slidesAlong_177 : decode prog_8_method_48_code 177 = .ok (.aload_n 0, 1) := by decide +kernel
theorem d_Md_slidesAlong_178 : decode prog_8_method_48_code 178 = .ok (.getfield 62, 3) := by decide +kernel
theorem d_Md_slidesAlong_181 : decode prog_8_method_48_code 181 = .ok (.iconst 2, 1) := by decide +kernel
theorem d_Md_slidesAlong_182 : decode prog_8_method_48_code 182 = .ok (.aload_n 0, 1) := by decide +kernel
theorem d_Md_slidesAlong_183 : decode prog_8_method_48_code 183 = .ok (.getfield 56, 3) := by decide +kernel
theorem d_Md_slidesAlong_186 : decode prog_8_method_48_code 186 = .ok (.iconst 0, 1) := by decide +kernel
theorem d_Md_slidesAlong_187 : decode prog_8_method_48_code 187 = .ok (.iaload, 1) := by decide +kernel
theorem d_Md_slidesAlong_188 : decode prog_8_method_48_code 188 = .ok (.aload_n 0, 1) := by decide +kernel
theorem d_Md_slidesAlong_189 : decode prog_8_method_48_code 189 = .ok (.getfield 59, 3) := by decide +kernel
theorem d_Md_slidesAlong_192 : decode prog_8_method_48_code 192 = .ok (.iconst 1, 1) := by decide +kernel
theorem d_Md_slidesAlong_193 : decode prog_8_method_48_code 193 = .ok (.iaload, 1) := by decide +kernel
theorem d_Md_slidesAlong_194 : decode prog_8_method_48_code 194 = .ok (.imul, 1) := by decide +kernel
theorem d_Md_slidesAlong_195 : decode prog_8_method_48_code 195 = .ok (.aload_n 0, 1) := by decide +kernel
theorem d_Md_slidesAlong_196 : decode prog_8_method_48_code 196 = .ok (.getfield 56, 3) := by decide +kernel
theorem d_Md_slidesAlong_199 : decode prog_8_method_48_code 199 = .ok (.iconst 1, 1) := by decide +kernel
theorem d_Md_slidesAlong_200 : decode prog_8_method_48_code 200 = .ok (.iaload, 1) := by decide +kernel
theorem d_Md_slidesAlong_201 : decode prog_8_method_48_code 201 = .ok (.aload_n 0, 1) := by decide +kernel
theorem d_Md_slidesAlong_202 : decode prog_8_method_48_code 202 = .ok (.getfield 59, 3) := by decide +kernel
theorem d_Md_slidesAlong_205 : decode prog_8_method_48_code 205 = .ok (.iconst 0, 1) := by decide +kernel
theorem d_Md_slidesAlong_206 : decode prog_8_method_48_code 206 = .ok (.iaload, 1) := by decide +kernel
theorem d_Md_slidesAlong_207 : decode prog_8_method_48_code 207 = .ok (.imul, 1) := by decide +kernel
theorem d_Md_slidesAlong_208 : decode prog_8_method_48_code 208 = .ok (.isub, 1) := by decide +kernel
theorem d_Md_slidesAlong_209 : decode prog_8_method_48_code 209 = .ok (.iastore, 1) := by decide +kernel
theorem d_Md_slidesAlong_210 : decode prog_8_method_48_code 210 = .ok (.aload_n 0, 1) := by decide +kernel
theorem d_Md_slidesAlong_211 : decode prog_8_method_48_code 211 = .ok (.getfield 23, 3) := by decide +kernel
theorem d_Md_slidesAlong_214 : decode prog_8_method_48_code 214 = .ok (.aload_n 0, 1) := by decide +kernel
theorem d_Md_slidesAlong_215 : decode prog_8_method_48_code 215 = .ok (.getfield 62, 3) := by decide +kernel
theorem d_Md_slidesAlong_218 : decode prog_8_method_48_code 218 = .ok (.invokestatic 174, 3) := by decide +kernel
theorem d_Md_slidesAlong_221 : decode prog_8_method_48_code 221 = .ok (.istore 5, 2) := by decide +kernel
theorem d_Md_slidesAlong_223 : decode prog_8_method_48_code 223 = .ok (.iconst 0, 1) := by decide +kernel
theorem d_Md_slidesAlong_224 : decode prog_8_method_48_code 224 = .ok (.istore 6, 2) := by decide +kernel
theorem d_Md_slidesAlong_226 : decode prog_8_method_48_code 226 = .ok (.iload 6, 2) := by decide +kernel
theorem d_Md_slidesAlong_228 : decode prog_8_method_48_code 228 = .ok (.iconst 3, 1) := by decide +kernel
theorem d_Md_slidesAlong_229 : decode prog_8_method_48_code 229 = .ok (.if_icmp .ge 29, 3) := by decide +kernel
theorem d_Md_slidesAlong_232 : decode prog_8_method_48_code 232 = .ok (.iload 5, 2) := by decide +kernel
theorem d_Md_slidesAlong_234 : decode prog_8_method_48_code 234 = .ok (.ifCond .ge 24, 3) := by decide +kernel
theorem d_Md_slidesAlong_237 : decode prog_8_method_48_code 237 = .ok (.aload_n 0, 1) := by decide +kernel
theorem d_Md_slidesAlong_238 : decode prog_8_method_48_code 238 = .ok (.getfield 62, 3) := by decide +kernel
theorem d_Md_slidesAlong_241 : decode prog_8_method_48_code 241 = .ok (.iload 6, 2) := by decide +kernel
theorem d_Md_slidesAlong_243 : decode prog_8_method_48_code 243 = .ok (.aload_n 0, 1) := by decide +kernel
theorem d_Md_slidesAlong_244 : decode prog_8_method_48_code 244 = .ok (.getfield 62, 3) := by decide +kernel
theorem d_Md_slidesAlong_247 : decode prog_8_method_48_code 247 = .ok (.iload 6, 2) := by decide +kernel
theorem d_Md_slidesAlong_249 : decode prog_8_method_48_code 249 = .ok (.iaload, 1) := by decide +kernel
theorem d_Md_slidesAlong_250 : decode prog_8_method_48_code 250 = .ok (.ineg, 1) := by decide +kernel
theorem d_Md_slidesAlong_251 : decode prog_8_method_48_code 251 = .ok (.iastore, 1) := by decide +kernel
theorem d_Md_slidesAlong_252 : decode prog_8_method_48_code 252 = .ok (.iinc 6 1, 3) := by decide +kernel
theorem d_Md_slidesAlong_255 : decode prog_8_method_48_code 255 = .ok (.goto (-29), 3) := by decide +kernel
theorem d_Md_slidesAlong_258 : decode prog_8_method_48_code 258 = .ok (.iload 4, 2) := by decide +kernel
theorem d_Md_slidesAlong_260 : decode prog_8_method_48_code 260 = .ok (.ifCond .eq 20, 3) := by decide +kernel
theorem d_Md_slidesAlong_263 : decode prog_8_method_48_code 263 = .ok (.iload 5, 2) := by decide +kernel
theorem d_Md_slidesAlong_265 : decode prog_8_method_48_code 265 = .ok (.ifCond .eq 15, 3) := by decide +kernel
theorem d_Md_slidesAlong_268 : decode prog_8_method_48_code 268 = .ok (.aload_n 0, 1) := by decide +kernel
theorem d_Md_slidesAlong_269 : decode prog_8_method_48_code 269 = .ok (.iload_n 1, 1) := by decide +kernel
theorem d_Md_slidesAlong_270 : decode prog_8_method_48_code 270 = .ok (.invokevirtual 178, 3) := by decide +kernel
theorem d_Md_slidesAlong_273 : decode prog_8_method_48_code 273 = .ok (.ifCond .eq 7, 3) := by decide +kernel
theorem d_Md_slidesAlong_276 : decode prog_8_method_48_code 276 = .ok (.iconst 1, 1) := by decide +kernel
theorem d_Md_slidesAlong_277 : decode prog_8_method_48_code 277 = .ok (.goto 4, 3) := by decide +kernel
theorem d_Md_slidesAlong_280 : decode prog_8_method_48_code 280 = .ok (.iconst 0, 1) := by decide +kernel
theorem d_Md_slidesAlong_281 : decode prog_8_method_48_code 281 = .ok (.ireturn, 1) := by decide +kernel
theorem d_Md_told_0 : decode prog_8_method_50_code 0 = .ok (.aload_n 0, 1) := by decide +kernel
theorem d_Md_told_1 : decode prog_8_method_50_code 1 = .ok (.iload_n 1, 1) := by decide +kernel
theorem d_Md_told_2 : decode prog_8_method_50_code 2 = .ok (.iconst 0, 1) := by decide +kernel
theorem d_Md_told_3 : decode prog_8_method_50_code 3 = .ok (.iconst 3, 1) := by decide +kernel
theorem d_Md_told_4 : decode prog_8_method_50_code 4 = .ok (.invokestatic 131, 3) := by decide +kernel
theorem d_Md_told_7 : decode prog_8_method_50_code 7 = .ok (.ifCond .eq 7, 3) := by decide +kernel
theorem d_Md_told_10 : decode prog_8_method_50_code 10 = .ok (.iconst 0, 1) := by decide +kernel
theorem d_Md_told_11 : decode prog_8_method_50_code 11 = .ok (.goto 4, 3) := by decide +kernel
theorem d_Md_told_14 : decode prog_8_method_50_code 14 = .ok (.iconst 1, 1) := by decide +kernel
theorem d_Md_told_15 : decode prog_8_method_50_code 15 = .ok (.putfield 75, 3) := by decide +kernel
theorem d_Md_told_18 : decode prog_8_method_50_code 18 = .ok (.aload_n 0, 1) := by decide +kernel
theorem d_Md_told_19 : decode prog_8_method_50_code 19 = .ok (.getfield 75, 3) := by decide +kernel
theorem d_Md_told_22 : decode prog_8_method_50_code 22 = .ok (.ifCond .le 7, 3) := by decide +kernel
theorem d_Md_told_25 : decode prog_8_method_50_code 25 = .ok (.iconst 0, 1) := by decide +kernel
theorem d_Md_told_26 : decode prog_8_method_50_code 26 = .ok (.goto 42, 3) := by decide +kernel
theorem d_Md_told_29 : decode prog_8_method_50_code 29 = .ok (.iload_n 1, 1) := by decide +kernel
theorem d_Md_told_30 : decode prog_8_method_50_code 30 = .ok (.ifCond .ne 10, 3) := by decide +kernel
theorem d_Md_told_33 : decode prog_8_method_50_code 33 = .ok (.aload_n 0, 1) := by decide +kernel
theorem d_Md_told_34 : decode prog_8_method_50_code 34 = .ok (.getfield 83, 3) := by decide +kernel
theorem d_Md_told_37 : decode prog_8_method_50_code 37 = .ok (.goto 31, 3) := by decide +kernel
theorem d_Md_told_40 : decode prog_8_method_50_code 40 = .ok (.iload_n 1, 1) := by decide +kernel
theorem d_Md_told_41 : decode prog_8_method_50_code 41 = .ok (.iconst 1, 1) := by decide +kernel
theorem d_Md_told_42 : decode prog_8_method_50_code 42 = .ok (.if_icmp .ne 10, 3) := by decide +kernel
theorem d_Md_told_45 : decode prog_8_method_50_code 45 = .ok (.aload_n 0, 1) := by decide +kernel
theorem d_Md_told_46 : decode prog_8_method_50_code 46 = .ok (.getfield 146, 3) := by decide +kernel
theorem d_Md_told_49 : decode prog_8_method_50_code 49 = .ok (.goto 19, 3) := by decide +kernel
theorem d_Md_told_52 : decode prog_8_method_50_code 52 = .ok (.iload_n 1, 1) := by decide +kernel
theorem d_Md_told_53 : decode prog_8_method_50_code 53 = .ok (.iconst 2, 1) := by decide +kernel
theorem d_Md_told_54 : decode prog_8_method_50_code 54 = .ok (.if_icmp .ne 10, 3) := by decide +kernel
theorem d_Md_told_57 : decode prog_8_method_50_code 57 = .ok (.aload_n 0, 1) := by decide +kernel
theorem d_Md_told_58 : decode prog_8_method_50_code 58 = .ok (.getfield 114, 3) := by decide +kernel
theorem d_Md_told_61 : decode prog_8_method_50_code 61 = .ok (.goto 7, 3) := by decide +kernel
theorem d_Md_told_64 : decode prog_8_method_50_code 64 = .ok (.aload_n 0, 1) := by decide +kernel
theorem d_Md_told_65 : decode prog_8_method_50_code 65 = .ok (.getfield 94, 3) := by decide +kernel
theorem d_Md_told_68 : decode prog_8_method_50_code 68 = .ok (.ireturn, 1) := by decide +kernel
theorem d_Law_law_0 : decode code 0 = .ok (.new 8, 3) := by decide +kernel
theorem d_Law_law_3 : decode code 3 = .ok (.dup, 1) := by decide +kernel
theorem d_Law_law_4 : decode code 4 = .ok (.aload_n 0, 1) := by decide +kernel
theorem d_Law_law_5 : decode code 5 = .ok (.iconst 0, 1) := by decide +kernel
theorem d_Law_law_6 : decode code 6 = .ok (.invokestatic 58, 3) := by decide +kernel
theorem d_Law_law_9 : decode code 9 = .ok (.aload_n 0, 1) := by decide +kernel
theorem d_Law_law_10 : decode code 10 = .ok (.iconst 1, 1) := by decide +kernel
theorem d_Law_law_11 : decode code 11 = .ok (.invokestatic 58, 3) := by decide +kernel
theorem d_Law_law_14 : decode code 14 = .ok (.aload_n 0, 1) := by decide +kernel
theorem d_Law_law_15 : decode code 15 = .ok (.iconst 2, 1) := by decide +kernel
theorem d_Law_law_16 : decode code 16 = .ok (.invokestatic 58, 3) := by decide +kernel
theorem d_Law_law_19 : decode code 19 = .ok (.invokespecial 64, 3) := by decide +kernel
theorem d_Law_law_22 : decode code 22 = .ok (.astore_n 1, 1) := by decide +kernel
theorem d_Law_law_23 : decode code 23 = .ok (.new 66, 3) := by decide +kernel
theorem d_Law_law_26 : decode code 26 = .ok (.dup, 1) := by decide +kernel
theorem d_Law_law_27 : decode code 27 = .ok (.aload_n 0, 1) := by decide +kernel
theorem d_Law_law_28 : decode code 28 = .ok (.iconst 0, 1) := by decide +kernel
theorem d_Law_law_29 : decode code 29 = .ok (.invokestatic 58, 3) := by decide +kernel
theorem d_Law_law_32 : decode code 32 = .ok (.aload_n 0, 1) := by decide +kernel
theorem d_Law_law_33 : decode code 33 = .ok (.iconst 1, 1) := by decide +kernel
theorem d_Law_law_34 : decode code 34 = .ok (.invokestatic 58, 3) := by decide +kernel
theorem d_Law_law_37 : decode code 37 = .ok (.aload_n 0, 1) := by decide +kernel
theorem d_Law_law_38 : decode code 38 = .ok (.iconst 2, 1) := by decide +kernel
theorem d_Law_law_39 : decode code 39 = .ok (.invokestatic 58, 3) := by decide +kernel
theorem d_Law_law_42 : decode code 42 = .ok (.invokespecial 68, 3) := by decide +kernel
theorem d_Law_law_45 : decode code 45 = .ok (.astore_n 2, 1) := by decide +kernel
theorem d_Law_law_46 : decode code 46 = .ok (.iconst 1, 1) := by decide +kernel
theorem d_Law_law_47 : decode code 47 = .ok (.newarray .long, 2) := by decide +kernel
theorem d_Law_law_49 : decode code 49 = .ok (.astore_n 3, 1) := by decide +kernel
theorem d_Law_law_50 : decode code 50 = .ok (.iconst 3, 1) := by decide +kernel
theorem d_Law_law_51 : decode code 51 = .ok (.istore 4, 2) := by decide +kernel
theorem d_Law_law_53 : decode code 53 = .ok (.iload 4, 2) := by decide +kernel
theorem d_Law_law_55 : decode code 55 = .ok (.aload_n 0, 1) := by decide +kernel
theorem d_Law_law_56 : decode code 56 = .ok (.arraylength, 1) := by decide +kernel
theorem d_Law_law_57 : decode code 57 = .ok (.iconst 5, 1) := by decide +kernel
theorem d_Law_law_58 : decode code 58 = .ok (.isub, 1) := by decide +kernel
theorem d_Law_law_59 : decode code 59 = .ok (.if_icmp .gt 1026, 3) := by decide +kernel
theorem d_Law_law_62 : decode code 62 = .ok (.aload_n 0, 1) := by decide +kernel
theorem d_Law_law_63 : decode code 63 = .ok (.iload 4, 2) := by decide +kernel
theorem d_Law_law_65 : decode code 65 = .ok (.iaload, 1) := by decide +kernel
theorem d_Law_law_66 : decode code 66 = .ok (.bipush 31, 2) := by decide +kernel
theorem d_Law_law_68 : decode code 68 = .ok (.iand, 1) := by decide +kernel
theorem d_Law_law_69 : decode code 69 = .ok (.tableswitch 1010 0 16 #[83, 175, 188, 279, 359, 419, 432, 500, 580, 605, 673, 748, 804, 817, 885, 898, 954], 83) := by decide +kernel
theorem d_Law_law_152 : decode code 152 = .ok (.aload_n 1, 1) := by decide +kernel
theorem d_Law_law_153 : decode code 153 = .ok (.aload_n 0, 1) := by decide +kernel
theorem d_Law_law_154 : decode code 154 = .ok (.iload 4, 2) := by decide +kernel
theorem d_Law_law_156 : decode code 156 = .ok (.iconst 1, 1) := by decide +kernel
theorem d_Law_law_157 : decode code 157 = .ok (.iadd, 1) := by decide +kernel
theorem d_Law_law_158 : decode code 158 = .ok (.iaload, 1) := by decide +kernel
theorem d_Law_law_159 : decode code 159 = .ok (.aload_n 0, 1) := by decide +kernel
theorem d_Law_law_160 : decode code 160 = .ok (.iload 4, 2) := by decide +kernel
theorem d_Law_law_162 : decode code 162 = .ok (.iconst 2, 1) := by decide +kernel
theorem d_Law_law_163 : decode code 163 = .ok (.iadd, 1) := by decide +kernel
theorem d_Law_law_164 : decode code 164 = .ok (.iaload, 1) := by decide +kernel
theorem d_Law_law_165 : decode code 165 = .ok (.aload_n 0, 1) := by decide +kernel
theorem d_Law_law_166 : decode code 166 = .ok (.iload 4, 2) := by decide +kernel
theorem d_Law_law_168 : decode code 168 = .ok (.iconst 3, 1) := by decide +kernel
theorem d_Law_law_169 : decode code 169 = .ok (.iadd, 1) := by decide +kernel
theorem d_Law_law_170 : decode code 170 = .ok (.iaload, 1) := by decide +kernel
theorem d_Law_law_171 : decode code 171 = .ok (.aload_n 0, 1) := by decide +kernel
theorem d_Law_law_172 : decode code 172 = .ok (.iload 4, 2) := by decide +kernel
theorem d_Law_law_174 : decode code 174 = .ok (.iconst 4, 1) := by decide +kernel
theorem d_Law_law_175 : decode code 175 = .ok (.iadd, 1) := by decide +kernel
theorem d_Law_law_176 : decode code 176 = .ok (.iaload, 1) := by decide +kernel
theorem d_Law_law_177 : decode code 177 = .ok (.aload_n 3, 1) := by decide +kernel
theorem d_Law_law_178 : decode code 178 = .ok (.invokestatic 69, 3) := by decide +kernel
theorem d_Law_law_181 : decode code 181 = .ok (.istore 5, 2) := by decide +kernel
theorem d_Law_law_183 : decode code 183 = .ok (.aload_n 2, 1) := by decide +kernel
theorem d_Law_law_184 : decode code 184 = .ok (.aload_n 0, 1) := by decide +kernel
theorem d_Law_law_185 : decode code 185 = .ok (.iload 4, 2) := by decide +kernel
theorem d_Law_law_187 : decode code 187 = .ok (.iconst 1, 1) := by decide +kernel
theorem d_Law_law_188 : decode code 188 = .ok (.iadd, 1) := by decide +kernel
theorem d_Law_law_189 : decode code 189 = .ok (.iaload, 1) := by decide +kernel
theorem d_Law_law_190 : decode code 190 = .ok (.aload_n 0, 1) := by decide +kernel
theorem d_Law_law_191 : decode code 191 = .ok (.iload 4, 2) := by decide +kernel
theorem d_Law_law_193 : decode code 193 = .ok (.iconst 2, 1) := by decide +kernel
theorem d_Law_law_194 : decode code 194 = .ok (.iadd, 1) := by decide +kernel
theorem d_Law_law_195 : decode code 195 = .ok (.iaload, 1) := by decide +kernel
theorem d_Law_law_196 : decode code 196 = .ok (.aload_n 0, 1) := by decide +kernel
theorem d_Law_law_197 : decode code 197 = .ok (.iload 4, 2) := by decide +kernel
theorem d_Law_law_199 : decode code 199 = .ok (.iconst 3, 1) := by decide +kernel
theorem d_Law_law_200 : decode code 200 = .ok (.iadd, 1) := by decide +kernel
theorem d_Law_law_201 : decode code 201 = .ok (.iaload, 1) := by decide +kernel
theorem d_Law_law_202 : decode code 202 = .ok (.aload_n 0, 1) := by decide +kernel
theorem d_Law_law_203 : decode code 203 = .ok (.iload 4, 2) := by decide +kernel
theorem d_Law_law_205 : decode code 205 = .ok (.iconst 4, 1) := by decide +kernel
theorem d_Law_law_206 : decode code 206 = .ok (.iadd, 1) := by decide +kernel
theorem d_Law_law_207 : decode code 207 = .ok (.iaload, 1) := by decide +kernel
theorem d_Law_law_208 : decode code 208 = .ok (.invokevirtual 72, 3) := by decide +kernel
theorem d_Law_law_211 : decode code 211 = .ok (.istore 6, 2) := by decide +kernel
theorem d_Law_law_213 : decode code 213 = .ok (.aload_n 2, 1) := by decide +kernel
theorem d_Law_law_214 : decode code 214 = .ok (.invokevirtual 73, 3) := by decide +kernel
theorem d_Law_law_217 : decode code 217 = .ok (.iload 5, 2) := by decide +kernel
theorem d_Law_law_219 : decode code 219 = .ok (.if_icmp .eq 5, 3) := by decide +kernel
theorem d_Law_law_222 : decode code 222 = .ok (.iconst 0, 1) := by decide +kernel
theorem d_Law_law_223 : decode code 223 = .ok (.ireturn, 1) := by decide +kernel
theorem d_Law_law_224 : decode code 224 = .ok (.iload 5, 2) := by decide +kernel
theorem d_Law_law_226 : decode code 226 = .ok (.ifCond .ne 15, 3) := by decide +kernel
theorem d_Law_law_229 : decode code 229 = .ok (.aload_n 3, 1) := by decide +kernel
theorem d_Law_law_230 : decode code 230 = .ok (.iconst 0, 1) := by decide +kernel
theorem d_Law_law_231 : decode code 231 = .ok (.laload, 1) := by decide +kernel
theorem d_Law_law_232 : decode code 232 = .ok (.iload 6, 2) := by decide +kernel
theorem d_Law_law_234 : decode code 234 = .ok (.i2l, 1) := by decide +kernel
theorem d_Law_law_235 : decode code 235 = .ok (.lcmp, 1) := by decide +kernel
theorem d_Law_law_236 : decode code 236 = .ok (.ifCond .eq 5, 3) := by decide +kernel
theorem d_Law_law_239 : decode code 239 = .ok (.iconst 0, 1) := by decide +kernel
theorem d_Law_law_240 : decode code 240 = .ok (.ireturn, 1) := by decide +kernel
theorem d_Law_law_241 : decode code 241 = .ok (.goto 838, 3) := by decide +kernel
theorem d_Law_law_244 : decode code 244 = .ok (.aload_n 1, 1) := by decide +kernel
theorem d_Law_law_245 : decode code 245 = .ok (.invokevirtual 77, 3) := by decide +kernel
theorem d_Law_law_248 : decode code 248 = .ok (.aload_n 2, 1) := by decide +kernel
theorem d_Law_law_249 : decode code 249 = .ok (.invokevirtual 80, 3) := by decide +kernel
theorem d_Law_law_252 : decode code 252 = .ok (.if_icmp .eq 827, 3) := by decide +kernel
theorem d_Law_law_255 : decode code 255 = .ok (.iconst 0, 1) := by decide +kernel
theorem d_Law_law_256 : decode code 256 = .ok (.ireturn, 1) := by decide +kernel
theorem d_Law_law_257 : decode code 257 = .ok (.aload_n 1, 1) := by decide +kernel
theorem d_Law_law_258 : decode code 258 = .ok (.aload_n 0, 1) := by decide +kernel
theorem d_Law_law_259 : decode code 259 = .ok (.iload 4, 2) := by decide +kernel
theorem d_Law_law_261 : decode code 261 = .ok (.iconst 1, 1) := by decide +kernel
theorem d_Law_law_262 : decode code 262 = .ok (.iadd, 1) := by decide +kernel
theorem d_Law_law_263 : decode code 263 = .ok (.iaload, 1) := by decide +kernel
theorem d_Law_law_264 : decode code 264 = .ok (.aload_n 0, 1) := by decide +kernel
theorem d_Law_law_265 : decode code 265 = .ok (.iload 4, 2) := by decide +kernel
theorem d_Law_law_267 : decode code 267 = .ok (.iconst 2, 1) := by decide +kernel
theorem d_Law_law_268 : decode code 268 = .ok (.iadd, 1) := by decide +kernel
theorem d_Law_law_269 : decode code 269 = .ok (.iaload, 1) := by decide +kernel
theorem d_Law_law_270 : decode code 270 = .ok (.ifCond .eq 7, 3) := by decide +kernel
theorem d_Law_law_273 : decode code 273 = .ok (.iconst 1, 1) := by decide +kernel
theorem d_Law_law_274 : decode code 274 = .ok (.goto 4, 3) := by decide +kernel
theorem d_Law_law_277 : decode code 277 = .ok (.iconst 0, 1) := by decide +kernel
theorem d_Law_law_278 : decode code 278 = .ok (.aload_n 3, 1) := by decide +kernel
theorem d_Law_law_279 : decode code 279 = .ok (.invokestatic 81, 3) := by decide +kernel
theorem d_Law_law_282 : decode code 282 = .ok (.istore 5, 2) := by decide +kernel
theorem d_Law_law_284 : decode code 284 = .ok (.aload_n 2, 1) := by decide +kernel
theorem d_Law_law_285 : decode code 285 = .ok (.aload_n 0, 1) := by decide +kernel
theorem d_Law_law_286 : decode code 286 = .ok (.iload 4, 2) := by decide +kernel
theorem d_Law_law_288 : decode code 288 = .ok (.iconst 1, 1) := by decide +kernel
theorem d_Law_law_289 : decode code 289 = .ok (.iadd, 1) := by decide +kernel
theorem d_Law_law_290 : decode code 290 = .ok (.iaload, 1) := by decide +kernel
theorem d_Law_law_291 : decode code 291 = .ok (.aload_n 0, 1) := by decide +kernel
theorem d_Law_law_292 : decode code 292 = .ok (.iload 4, 2) := by decide +kernel
theorem d_Law_law_294 : decode code 294 = .ok (.iconst 2, 1) := by decide +kernel
theorem d_Law_law_295 : decode code 295 = .ok (.iadd, 1) := by decide +kernel
theorem d_Law_law_296 : decode code 296 = .ok (.iaload, 1) := by decide +kernel
theorem d_Law_law_297 : decode code 297 = .ok (.ifCond .eq 7, 3) := by decide +kernel
theorem d_Law_law_300 : decode code 300 = .ok (.iconst 1, 1) := by decide +kernel
theorem d_Law_law_301 : decode code 301 = .ok (.goto 4, 3) := by decide +kernel
theorem d_Law_law_304 : decode code 304 = .ok (.iconst 0, 1) := by decide +kernel
theorem d_Law_law_305 : decode code 305 = .ok (.invokevirtual 84, 3) := by decide +kernel
theorem d_Law_law_308 : decode code 308 = .ok (.istore 6, 2) := by decide +kernel
theorem d_Law_law_310 : decode code 310 = .ok (.aload_n 2, 1) := by decide +kernel
theorem d_Law_law_311 : decode code 311 = .ok (.invokevirtual 73, 3) := by decide +kernel
theorem d_Law_law_314 : decode code 314 = .ok (.iload 5, 2) := by decide +kernel
theorem d_Law_law_316 : decode code 316 = .ok (.if_icmp .eq 5, 3) := by decide +kernel
theorem d_Law_law_319 : decode code 319 = .ok (.iconst 0, 1) := by decide +kernel
theorem d_Law_law_320 : decode code 320 = .ok (.ireturn, 1) := by decide +kernel
theorem d_Law_law_321 : decode code 321 = .ok (.iload 5, 2) := by decide +kernel
theorem d_Law_law_323 : decode code 323 = .ok (.ifCond .ne 22, 3) := by decide +kernel
theorem d_Law_law_326 : decode code 326 = .ok (.aload_n 3, 1) := by decide +kernel
theorem d_Law_law_327 : decode code 327 = .ok (.iconst 0, 1) := by decide +kernel
theorem d_Law_law_328 : decode code 328 = .ok (.laload, 1) := by decide +kernel
theorem d_Law_law_329 : decode code 329 = .ok (.iload 6, 2) := by decide +kernel
theorem d_Law_law_331 : decode code 331 = .ok (.ifCond .eq 7, 3) := by decide +kernel
theorem d_Law_law_334 : decode code 334 = .ok (.lconst 1, 1) := by decide +kernel
theorem d_Law_law_335 : decode code 335 = .ok (.goto 4, 3) := by decide +kernel
theorem d_Law_law_338 : decode code 338 = .ok (.lconst 0, 1) := by decide +kernel
theorem d_Law_law_339 : decode code 339 = .ok (.lcmp, 1) := by decide +kernel
theorem d_Law_law_340 : decode code 340 = .ok (.ifCond .eq 5, 3) := by decide +kernel
theorem d_Law_law_343 : decode code 343 = .ok (.iconst 0, 1) := by decide +kernel
theorem d_Law_law_344 : decode code 344 = .ok (.ireturn, 1) := by decide +kernel
theorem d_Law_law_345 : decode code 345 = .ok (.goto 734, 3) := by decide +kernel
theorem d_Law_law_348 : decode code 348 = .ok (.aload_n 1, 1) := by decide +kernel
theorem d_Law_law_349 : decode code 349 = .ok (.aload_n 0, 1) := by decide +kernel
theorem d_Law_law_350 : decode code 350 = .ok (.iload 4, 2) := by decide +kernel
theorem d_Law_law_352 : decode code 352 = .ok (.iconst 1, 1) := by decide +kernel
theorem d_Law_law_353 : decode code 353 = .ok (.iadd, 1) := by decide +kernel
theorem d_Law_law_354 : decode code 354 = .ok (.iaload, 1) := by decide +kernel
theorem d_Law_law_355 : decode code 355 = .ok (.aload_n 0, 1) := by decide +kernel
theorem d_Law_law_356 : decode code 356 = .ok (.iload 4, 2) := by decide +kernel
theorem d_Law_law_358 : decode code 358 = .ok (.iconst 2, 1) := by decide +kernel
theorem d_Law_law_359 : decode code 359 = .ok (.iadd, 1) := by decide +kernel
theorem d_Law_law_360 : decode code 360 = .ok (.iaload, 1) := by decide +kernel
theorem d_Law_law_361 : decode code 361 = .ok (.aload_n 0, 1) := by decide +kernel
theorem d_Law_law_362 : decode code 362 = .ok (.iload 4, 2) := by decide +kernel
theorem d_Law_law_364 : decode code 364 = .ok (.iconst 3, 1) := by decide +kernel
theorem d_Law_law_365 : decode code 365 = .ok (.iadd, 1) := by decide +kernel
theorem d_Law_law_366 : decode code 366 = .ok (.iaload, 1) := by decide +kernel
theorem d_Law_law_367 : decode code 367 = .ok (.aload_n 3, 1) := by decide +kernel
theorem d_Law_law_368 : decode code 368 = .ok (.invokestatic 85, 3) := by decide +kernel
theorem d_Law_law_371 : decode code 371 = .ok (.istore 5, 2) := by decide +kernel
theorem d_Law_law_373 : decode code 373 = .ok (.aload_n 2, 1) := by decide +kernel
theorem d_Law_law_374 : decode code 374 = .ok (.aload_n 0, 1) := by decide +kernel
theorem d_Law_law_375 : decode code 375 = .ok (.iload 4, 2) := by decide +kernel
theorem d_Law_law_377 : decode code 377 = .ok (.iconst 1, 1) := by decide +kernel
theorem d_Law_law_378 : decode code 378 = .ok (.iadd, 1) := by decide +kernel
theorem d_Law_law_379 : decode code 379 = .ok (.iaload, 1) := by decide +kernel
theorem d_Law_law_380 : decode code 380 = .ok (.aload_n 0, 1) := by decide +kernel
theorem d_Law_law_381 : decode code 381 = .ok (.iload 4, 2) := by decide +kernel
theorem d_Law_law_383 : decode code 383 = .ok (.iconst 2, 1) := by decide +kernel
theorem d_Law_law_384 : decode code 384 = .ok (.iadd, 1) := by decide +kernel
theorem d_Law_law_385 : decode code 385 = .ok (.iaload, 1) := by decide +kernel
theorem d_Law_law_386 : decode code 386 = .ok (.aload_n 0, 1) := by decide +kernel
theorem d_Law_law_387 : decode code 387 = .ok (.iload 4, 2) := by decide +kernel
theorem d_Law_law_389 : decode code 389 = .ok (.iconst 3, 1) := by decide +kernel
theorem d_Law_law_390 : decode code 390 = .ok (.iadd, 1) := by decide +kernel
theorem d_Law_law_391 : decode code 391 = .ok (.iaload, 1) := by decide +kernel
theorem d_Law_law_392 : decode code 392 = .ok (.invokevirtual 88, 3) := by decide +kernel
theorem d_Law_law_395 : decode code 395 = .ok (.istore 6, 2) := by decide +kernel
theorem d_Law_law_397 : decode code 397 = .ok (.aload_n 2, 1) := by decide +kernel
theorem d_Law_law_398 : decode code 398 = .ok (.invokevirtual 73, 3) := by decide +kernel
theorem d_Law_law_401 : decode code 401 = .ok (.iload 5, 2) := by decide +kernel
theorem d_Law_law_403 : decode code 403 = .ok (.if_icmp .eq 5, 3) := by decide +kernel
theorem d_Law_law_406 : decode code 406 = .ok (.iconst 0, 1) := by decide +kernel
theorem d_Law_law_407 : decode code 407 = .ok (.ireturn, 1) := by decide +kernel
theorem d_Law_law_408 : decode code 408 = .ok (.iload 5, 2) := by decide +kernel
theorem d_Law_law_410 : decode code 410 = .ok (.ifCond .ne 15, 3) := by decide +kernel
theorem d_Law_law_413 : decode code 413 = .ok (.aload_n 3, 1) := by decide +kernel
theorem d_Law_law_414 : decode code 414 = .ok (.iconst 0, 1) := by decide +kernel
theorem d_Law_law_415 : decode code 415 = .ok (.laload, 1) := by decide +kernel
theorem d_Law_law_416 : decode code 416 = .ok (.iload 6, 2) := by decide +kernel
theorem d_Law_law_418 : decode code 418 = .ok (.i2l, 1) := by decide +kernel
theorem d_Law_law_419 : decode code 419 = .ok (.lcmp, 1) := by decide +kernel
theorem d_Law_law_420 : decode code 420 = .ok (.ifCond .eq 5, 3) := by decide +kernel
theorem d_Law_law_423 : decode code 423 = .ok (.iconst 0, 1) := by decide +kernel
theorem d_Law_law_424 : decode code 424 = .ok (.ireturn, 1) := by decide +kernel
theorem d_Law_law_425 : decode code 425 = .ok (.goto 654, 3) := by decide +kernel
theorem d_Law_law_428 : decode code 428 = .ok (.aload_n 1, 1) := by decide +kernel
theorem d_Law_law_429 : decode code 429 = .ok (.aload_n 0, 1) := by decide +kernel
theorem d_Law_law_430 : decode code 430 = .ok (.iload 4, 2) := by decide +kernel
theorem d_Law_law_432 : decode code 432 = .ok (.iconst 1, 1) := by decide +kernel
theorem d_Law_law_433 : decode code 433 = .ok (.iadd, 1) := by decide +kernel
theorem d_Law_law_434 : decode code 434 = .ok (.iaload, 1) := by decide +kernel
theorem d_Law_law_435 : decode code 435 = .ok (.aload_n 0, 1) := by decide +kernel
theorem d_Law_law_436 : decode code 436 = .ok (.iload 4, 2) := by decide +kernel
theorem d_Law_law_438 : decode code 438 = .ok (.iconst 2, 1) := by decide +kernel
theorem d_Law_law_439 : decode code 439 = .ok (.iadd, 1) := by decide +kernel
theorem d_Law_law_440 : decode code 440 = .ok (.iaload, 1) := by decide +kernel
theorem d_Law_law_441 : decode code 441 = .ok (.aload_n 0, 1) := by decide +kernel
theorem d_Law_law_442 : decode code 442 = .ok (.iload 4, 2) := by decide +kernel
theorem d_Law_law_444 : decode code 444 = .ok (.iconst 3, 1) := by decide +kernel
theorem d_Law_law_445 : decode code 445 = .ok (.iadd, 1) := by decide +kernel
theorem d_Law_law_446 : decode code 446 = .ok (.iaload, 1) := by decide +kernel
theorem d_Law_law_447 : decode code 447 = .ok (.invokestatic 89, 3) := by decide +kernel
theorem d_Law_law_450 : decode code 450 = .ok (.istore 5, 2) := by decide +kernel
theorem d_Law_law_452 : decode code 452 = .ok (.aload_n 2, 1) := by decide +kernel
theorem d_Law_law_453 : decode code 453 = .ok (.aload_n 0, 1) := by decide +kernel
theorem d_Law_law_454 : decode code 454 = .ok (.iload 4, 2) := by decide +kernel
theorem d_Law_law_456 : decode code 456 = .ok (.iconst 1, 1) := by decide +kernel
theorem d_Law_law_457 : decode code 457 = .ok (.iadd, 1) := by decide +kernel
theorem d_Law_law_458 : decode code 458 = .ok (.iaload, 1) := by decide +kernel
theorem d_Law_law_459 : decode code 459 = .ok (.aload_n 0, 1) := by decide +kernel
theorem d_Law_law_460 : decode code 460 = .ok (.iload 4, 2) := by decide +kernel
theorem d_Law_law_462 : decode code 462 = .ok (.iconst 2, 1) := by decide +kernel
theorem d_Law_law_463 : decode code 463 = .ok (.iadd, 1) := by decide +kernel
theorem d_Law_law_464 : decode code 464 = .ok (.iaload, 1) := by decide +kernel
theorem d_Law_law_465 : decode code 465 = .ok (.aload_n 0, 1) := by decide +kernel
theorem d_Law_law_466 : decode code 466 = .ok (.iload 4, 2) := by decide +kernel
theorem d_Law_law_468 : decode code 468 = .ok (.iconst 3, 1) := by decide +kernel
theorem d_Law_law_469 : decode code 469 = .ok (.iadd, 1) := by decide +kernel
theorem d_Law_law_470 : decode code 470 = .ok (.iaload, 1) := by decide +kernel
theorem d_Law_law_471 : decode code 471 = .ok (.invokevirtual 92, 3) := by decide +kernel
theorem d_Law_law_474 : decode code 474 = .ok (.aload_n 2, 1) := by decide +kernel
theorem d_Law_law_475 : decode code 475 = .ok (.invokevirtual 73, 3) := by decide +kernel
theorem d_Law_law_478 : decode code 478 = .ok (.iload 5, 2) := by decide +kernel
theorem d_Law_law_480 : decode code 480 = .ok (.if_icmp .eq 5, 3) := by decide +kernel
theorem d_Law_law_483 : decode code 483 = .ok (.iconst 0, 1) := by decide +kernel
theorem d_Law_law_484 : decode code 484 = .ok (.ireturn, 1) := by decide +kernel
theorem d_Law_law_485 : decode code 485 = .ok (.goto 594, 3) := by decide +kernel
theorem d_Law_law_488 : decode code 488 = .ok (.aload_n 1, 1) := by decide +kernel
theorem d_Law_law_489 : decode code 489 = .ok (.invokevirtual 93, 3) := by decide +kernel
theorem d_Law_law_492 : decode code 492 = .ok (.aload_n 2, 1) := by decide +kernel
theorem d_Law_law_493 : decode code 493 = .ok (.invokevirtual 96, 3) := by decide +kernel
theorem d_Law_law_496 : decode code 496 = .ok (.if_icmp .eq 583, 3) := by decide +kernel
theorem d_Law_law_499 : decode code 499 = .ok (.iconst 0, 1) := by decide +kernel
theorem d_Law_law_500 : decode code 500 = .ok (.ireturn, 1) := by decide +kernel
theorem d_Law_law_501 : decode code 501 = .ok (.aload_n 1, 1) := by decide +kernel
theorem d_Law_law_502 : decode code 502 = .ok (.aload_n 0, 1) := by decide +kernel
theorem d_Law_law_503 : decode code 503 = .ok (.iload 4, 2) := by decide +kernel
theorem d_Law_law_505 : decode code 505 = .ok (.iconst 1, 1) := by decide +kernel
theorem d_Law_law_506 : decode code 506 = .ok (.iadd, 1) := by decide +kernel
theorem d_Law_law_507 : decode code 507 = .ok (.iaload, 1) := by decide +kernel
theorem d_Law_law_508 : decode code 508 = .ok (.aload_n 0, 1) := by decide +kernel
theorem d_Law_law_509 : decode code 509 = .ok (.iload 4, 2) := by decide +kernel
theorem d_Law_law_511 : decode code 511 = .ok (.iconst 2, 1) := by decide +kernel
theorem d_Law_law_512 : decode code 512 = .ok (.iadd, 1) := by decide +kernel
theorem d_Law_law_513 : decode code 513 = .ok (.iaload, 1) := by decide +kernel
theorem d_Law_law_514 : decode code 514 = .ok (.aload_n 3, 1) := by decide +kernel
theorem d_Law_law_515 : decode code 515 = .ok (.invokestatic 97, 3) := by decide +kernel
theorem d_Law_law_518 : decode code 518 = .ok (.istore 5, 2) := by decide +kernel
theorem d_Law_law_520 : decode code 520 = .ok (.aload_n 2, 1) := by decide +kernel
theorem d_Law_law_521 : decode code 521 = .ok (.aload_n 0, 1) := by decide +kernel
theorem d_Law_law_522 : decode code 522 = .ok (.iload 4, 2) := by decide +kernel
theorem d_Law_law_524 : decode code 524 = .ok (.iconst 1, 1) := by decide +kernel
theorem d_Law_law_525 : decode code 525 = .ok (.iadd, 1) := by decide +kernel
theorem d_Law_law_526 : decode code 526 = .ok (.iaload, 1) := by decide +kernel
theorem d_Law_law_527 : decode code 527 = .ok (.aload_n 0, 1) := by decide +kernel
theorem d_Law_law_528 : decode code 528 = .ok (.iload 4, 2) := by decide +kernel
theorem d_Law_law_530 : decode code 530 = .ok (.iconst 2, 1) := by decide +kernel
theorem d_Law_law_531 : decode code 531 = .ok (.iadd, 1) := by decide +kernel
theorem d_Law_law_532 : decode code 532 = .ok (.iaload, 1) := by decide +kernel
theorem d_Law_law_533 : decode code 533 = .ok (.invokevirtual 100, 3) := by decide +kernel
theorem d_Law_law_536 : decode code 536 = .ok (.istore 6, 2) := by decide +kernel
theorem d_Law_law_538 : decode code 538 = .ok (.aload_n 2, 1) := by decide +kernel
theorem d_Law_law_539 : decode code 539 = .ok (.invokevirtual 73, 3) := by decide +kernel
theorem d_Law_law_542 : decode code 542 = .ok (.iload 5, 2) := by decide +kernel
theorem d_Law_law_544 : decode code 544 = .ok (.if_icmp .eq 5, 3) := by decide +kernel
theorem d_Law_law_547 : decode code 547 = .ok (.iconst 0, 1) := by decide +kernel
theorem d_Law_law_548 : decode code 548 = .ok (.ireturn, 1) := by decide +kernel
theorem d_Law_law_549 : decode code 549 = .ok (.iload 5, 2) := by decide +kernel
theorem d_Law_law_551 : decode code 551 = .ok (.ifCond .ne 15, 3) := by decide +kernel
theorem d_Law_law_554 : decode code 554 = .ok (.aload_n 3, 1) := by decide +kernel
theorem d_Law_law_555 : decode code 555 = .ok (.iconst 0, 1) := by decide +kernel
theorem d_Law_law_556 : decode code 556 = .ok (.laload, 1) := by decide +kernel
theorem d_Law_law_557 : decode code 557 = .ok (.iload 6, 2) := by decide +kernel
theorem d_Law_law_559 : decode code 559 = .ok (.i2l, 1) := by decide +kernel
theorem d_Law_law_560 : decode code 560 = .ok (.lcmp, 1) := by decide +kernel
theorem d_Law_law_561 : decode code 561 = .ok (.ifCond .eq 5, 3) := by decide +kernel
theorem d_Law_law_564 : decode code 564 = .ok (.iconst 0, 1) := by decide +kernel
theorem d_Law_law_565 : decode code 565 = .ok (.ireturn, 1) := by decide +kernel
theorem d_Law_law_566 : decode code 566 = .ok (.goto 513, 3) := by decide +kernel
theorem d_Law_law_569 : decode code 569 = .ok (.aload_n 1, 1) := by decide +kernel
theorem d_Law_law_570 : decode code 570 = .ok (.aload_n 0, 1) := by decide +kernel
theorem d_Law_law_571 : decode code 571 = .ok (.iload 4, 2) := by decide +kernel
theorem d_Law_law_573 : decode code 573 = .ok (.iconst 1, 1) := by decide +kernel
theorem d_Law_law_574 : decode code 574 = .ok (.iadd, 1) := by decide +kernel
theorem d_Law_law_575 : decode code 575 = .ok (.iaload, 1) := by decide +kernel
theorem d_Law_law_576 : decode code 576 = .ok (.aload_n 0, 1) := by decide +kernel
theorem d_Law_law_577 : decode code 577 = .ok (.iload 4, 2) := by decide +kernel
theorem d_Law_law_579 : decode code 579 = .ok (.iconst 2, 1) := by decide +kernel
theorem d_Law_law_580 : decode code 580 = .ok (.iadd, 1) := by decide +kernel
theorem d_Law_law_581 : decode code 581 = .ok (.iaload, 1) := by decide +kernel
theorem d_Law_law_582 : decode code 582 = .ok (.aload_n 0, 1) := by decide +kernel
theorem d_Law_law_583 : decode code 583 = .ok (.iload 4, 2) := by decide +kernel
theorem d_Law_law_585 : decode code 585 = .ok (.iconst 3, 1) := by decide +kernel
theorem d_Law_law_586 : decode code 586 = .ok (.iadd, 1) := by decide +kernel
theorem d_Law_law_587 : decode code 587 = .ok (.iaload, 1) := by decide +kernel
theorem d_Law_law_588 : decode code 588 = .ok (.aload_n 3, 1) := by decide +kernel
theorem d_Law_law_589 : decode code 589 = .ok (.invokestatic 101, 3) := by decide +kernel
theorem d_Law_law_592 : decode code 592 = .ok (.istore 5, 2) := by decide +kernel
theorem d_Law_law_594 : decode code 594 = .ok (.aload_n 2, 1) := by decide +kernel
theorem d_Law_law_595 : decode code 595 = .ok (.aload_n 0, 1) := by decide +kernel
theorem d_Law_law_596 : decode code 596 = .ok (.iload 4, 2) := by decide +kernel
theorem d_Law_law_598 : decode code 598 = .ok (.iconst 1, 1) := by decide +kernel
theorem d_Law_law_599 : decode code 599 = .ok (.iadd, 1) := by decide +kernel
theorem d_Law_law_600 : decode code 600 = .ok (.iaload, 1) := by decide +kernel
theorem d_Law_law_601 : decode code 601 = .ok (.aload_n 0, 1) := by decide +kernel
theorem d_Law_law_602 : decode code 602 = .ok (.iload 4, 2) := by decide +kernel
theorem d_Law_law_604 : decode code 604 = .ok (.iconst 2, 1) := by decide +kernel
theorem d_Law_law_605 : decode code 605 = .ok (.iadd, 1) := by decide +kernel
theorem d_Law_law_606 : decode code 606 = .ok (.iaload, 1) := by decide +kernel
theorem d_Law_law_607 : decode code 607 = .ok (.aload_n 0, 1) := by decide +kernel
theorem d_Law_law_608 : decode code 608 = .ok (.iload 4, 2) := by decide +kernel
theorem d_Law_law_610 : decode code 610 = .ok (.iconst 3, 1) := by decide +kernel
theorem d_Law_law_611 : decode code 611 = .ok (.iadd, 1) := by decide +kernel
theorem d_Law_law_612 : decode code 612 = .ok (.iaload, 1) := by decide +kernel
theorem d_Law_law_613 : decode code 613 = .ok (.invokevirtual 103, 3) := by decide +kernel
theorem d_Law_law_616 : decode code 616 = .ok (.istore 6, 2) := by decide +kernel
theorem d_Law_law_618 : decode code 618 = .ok (.aload_n 2, 1) := by decide +kernel
theorem d_Law_law_619 : decode code 619 = .ok (.invokevirtual 73, 3) := by decide +kernel
theorem d_Law_law_622 : decode code 622 = .ok (.iload 5, 2) := by decide +kernel
theorem d_Law_law_624 : decode code 624 = .ok (.if_icmp .eq 5, 3) := by decide +kernel
theorem d_Law_law_627 : decode code 627 = .ok (.iconst 0, 1) := by decide +kernel
theorem d_Law_law_628 : decode code 628 = .ok (.ireturn, 1) := by decide +kernel
theorem d_Law_law_629 : decode code 629 = .ok (.iload 5, 2) := by decide +kernel
theorem d_Law_law_631 : decode code 631 = .ok (.ifCond .ne 15, 3) := by decide +kernel
theorem d_Law_law_634 : decode code 634 = .ok (.aload_n 3, 1) := by decide +kernel
theorem d_Law_law_635 : decode code 635 = .ok (.iconst 0, 1) := by decide +kernel
theorem d_Law_law_636 : decode code 636 = .ok (.laload, 1) := by decide +kernel
theorem d_Law_law_637 : decode code 637 = .ok (.iload 6, 2) := by decide +kernel
theorem d_Law_law_639 : decode code 639 = .ok (.i2l, 1) := by decide +kernel
theorem d_Law_law_640 : decode code 640 = .ok (.lcmp, 1) := by decide +kernel
theorem d_Law_law_641 : decode code 641 = .ok (.ifCond .eq 5, 3) := by decide +kernel
theorem d_Law_law_644 : decode code 644 = .ok (.iconst 0, 1) := by decide +kernel
theorem d_Law_law_645 : decode code 645 = .ok (.ireturn, 1) := by decide +kernel
theorem d_Law_law_646 : decode code 646 = .ok (.goto 433, 3) := by decide +kernel
theorem d_Law_law_649 : decode code 649 = .ok (.aload_n 1, 1) := by decide +kernel
theorem d_Law_law_650 : decode code 650 = .ok (.aload_n 0, 1) := by decide +kernel
theorem d_Law_law_651 : decode code 651 = .ok (.iload 4, 2) := by decide +kernel
theorem d_Law_law_653 : decode code 653 = .ok (.iconst 1, 1) := by decide +kernel
theorem d_Law_law_654 : decode code 654 = .ok (.iadd, 1) := by decide +kernel
theorem d_Law_law_655 : decode code 655 = .ok (.iaload, 1) := by decide +kernel
theorem d_Law_law_656 : decode code 656 = .ok (.invokevirtual 104, 3) := by decide +kernel
theorem d_Law_law_659 : decode code 659 = .ok (.aload_n 2, 1) := by decide +kernel
theorem d_Law_law_660 : decode code 660 = .ok (.aload_n 0, 1) := by decide +kernel
theorem d_Law_law_661 : decode code 661 = .ok (.iload 4, 2) := by decide +kernel
theorem d_Law_law_663 : decode code 663 = .ok (.iconst 1, 1) := by decide +kernel
theorem d_Law_law_664 : decode code 664 = .ok (.iadd, 1) := by decide +kernel
theorem d_Law_law_665 : decode code 665 = .ok (.iaload, 1) := by decide +kernel
theorem d_Law_law_666 : decode code 666 = .ok (.invokevirtual 107, 3) := by decide +kernel
theorem d_Law_law_669 : decode code 669 = .ok (.if_icmp .eq 410, 3) := by decide +kernel
theorem d_Law_law_672 : decode code 672 = .ok (.iconst 0, 1) := by decide +kernel
theorem d_Law_law_673 : decode code 673 = .ok (.ireturn, 1) := by decide +kernel
theorem d_Law_law_674 : decode code 674 = .ok (.aload_n 1, 1) := by decide +kernel
theorem d_Law_law_675 : decode code 675 = .ok (.aload_n 0, 1) := by decide +kernel
theorem d_Law_law_676 : decode code 676 = .ok (.iload 4, 2) := by decide +kernel
theorem d_Law_law_678 : decode code 678 = .ok (.iconst 1, 1) := by decide +kernel
theorem d_Law_law_679 : decode code 679 = .ok (.iadd, 1) := by decide +kernel
theorem d_Law_law_680 : decode code 680 = .ok (.iaload, 1) := by decide +kernel
theorem d_Law_law_681 : decode code 681 = .ok (.aload_n 0, 1) := by decide +kernel
theorem d_Law_law_682 : decode code 682 = .ok (.iload 4, 2) := by decide +kernel
theorem d_Law_law_684 : decode code 684 = .ok (.iconst 2, 1) := by decide +kernel
theorem d_Law_law_685 : decode code 685 = .ok (.iadd, 1) := by decide +kernel
theorem d_Law_law_686 : decode code 686 = .ok (.iaload, 1) := by decide +kernel
theorem d_Law_law_687 : decode code 687 = .ok (.aload_n 3, 1) := by decide +kernel
theorem d_Law_law_688 : decode code 688 = .ok (.invokestatic 108, 3) := by decide +kernel
theorem d_Law_law_691 : decode code 691 = .ok (.istore 5, 2) := by decide +kernel
theorem d_Law_law_693 : decode code 693 = .ok (.aload_n 2, 1) := by decide +kernel
theorem d_Law_law_694 : decode code 694 = .ok (.aload_n 0, 1) := by decide +kernel
theorem d_Law_law_695 : decode code 695 = .ok (.iload 4, 2) := by decide +kernel
theorem d_Law_law_697 : decode code 697 = .ok (.iconst 1, 1) := by decide +kernel
theorem d_Law_law_698 : decode code 698 = .ok (.iadd, 1) := by decide +kernel
theorem d_Law_law_699 : decode code 699 = .ok (.iaload, 1) := by decide +kernel
theorem d_Law_law_700 : decode code 700 = .ok (.aload_n 0, 1) := by decide +kernel
theorem d_Law_law_701 : decode code 701 = .ok (.iload 4, 2) := by decide +kernel
theorem d_Law_law_703 : decode code 703 = .ok (.iconst 2, 1) := by decide +kernel
theorem d_Law_law_704 : decode code 704 = .ok (.iadd, 1) := by decide +kernel
theorem d_Law_law_705 : decode code 705 = .ok (.iaload, 1) := by decide +kernel
theorem d_Law_law_706 : decode code 706 = .ok (.invokevirtual 110, 3) := by decide +kernel
theorem d_Law_law_709 : decode code 709 = .ok (.istore 6, 2) := by decide +kernel
theorem d_Law_law_711 : decode code 711 = .ok (.aload_n 2, 1) := by decide +kernel
theorem d_Law_law_712 : decode code 712 = .ok (.invokevirtual 73, 3) := by decide +kernel
theorem d_Law_law_715 : decode code 715 = .ok (.iload 5, 2) := by decide +kernel
theorem d_Law_law_717 : decode code 717 = .ok (.if_icmp .eq 5, 3) := by decide +kernel
theorem d_Law_law_720 : decode code 720 = .ok (.iconst 0, 1) := by decide +kernel
theorem d_Law_law_721 : decode code 721 = .ok (.ireturn, 1) := by decide +kernel
theorem d_Law_law_722 : decode code 722 = .ok (.iload 5, 2) := by decide +kernel
theorem d_Law_law_724 : decode code 724 = .ok (.ifCond .ne 15, 3) := by decide +kernel
theorem d_Law_law_727 : decode code 727 = .ok (.aload_n 3, 1) := by decide +kernel
theorem d_Law_law_728 : decode code 728 = .ok (.iconst 0, 1) := by decide +kernel
theorem d_Law_law_729 : decode code 729 = .ok (.laload, 1) := by decide +kernel
theorem d_Law_law_730 : decode code 730 = .ok (.iload 6, 2) := by decide +kernel
theorem d_Law_law_732 : decode code 732 = .ok (.i2l, 1) := by decide +kernel
theorem d_Law_law_733 : decode code 733 = .ok (.lcmp, 1) := by decide +kernel
theorem d_Law_law_734 : decode code 734 = .ok (.ifCond .eq 5, 3) := by decide +kernel
theorem d_Law_law_737 : decode code 737 = .ok (.iconst 0, 1) := by decide +kernel
theorem d_Law_law_738 : decode code 738 = .ok (.ireturn, 1) := by decide +kernel
theorem d_Law_law_739 : decode code 739 = .ok (.goto 340, 3) := by decide +kernel
theorem d_Law_law_742 : decode code 742 = .ok (.aload_n 1, 1) := by decide +kernel
theorem d_Law_law_743 : decode code 743 = .ok (.aload_n 0, 1) := by decide +kernel
theorem d_Law_law_744 : decode code 744 = .ok (.iload 4, 2) := by decide +kernel
theorem d_Law_law_746 : decode code 746 = .ok (.iconst 1, 1) := by decide +kernel
theorem d_Law_law_747 : decode code 747 = .ok (.iadd, 1) := by decide +kernel
theorem d_Law_law_748 : decode code 748 = .ok (.iaload, 1) := by decide +kernel
theorem d_Law_law_749 : decode code 749 = .ok (.aload_n 0, 1) := by decide +kernel
theorem d_Law_law_750 : decode code 750 = .ok (.iload 4, 2) := by decide +kernel
theorem d_Law_law_752 : decode code 752 = .ok (.iconst 2, 1) := by decide +kernel
theorem d_Law_law_753 : decode code 753 = .ok (.iadd, 1) := by decide +kernel
theorem d_Law_law_754 : decode code 754 = .ok (.iaload, 1) := by decide +kernel
theorem d_Law_law_755 : decode code 755 = .ok (.aload_n 3, 1) := by decide +kernel
theorem d_Law_law_756 : decode code 756 = .ok (.invokestatic 111, 3) := by decide +kernel
theorem d_Law_law_759 : decode code 759 = .ok (.istore 5, 2) := by decide +kernel
theorem d_Law_law_761 : decode code 761 = .ok (.aload_n 2, 1) := by decide +kernel
theorem d_Law_law_762 : decode code 762 = .ok (.aload_n 0, 1) := by decide +kernel
theorem d_Law_law_763 : decode code 763 = .ok (.iload 4, 2) := by decide +kernel
theorem d_Law_law_765 : decode code 765 = .ok (.iconst 1, 1) := by decide +kernel
theorem d_Law_law_766 : decode code 766 = .ok (.iadd, 1) := by decide +kernel
theorem d_Law_law_767 : decode code 767 = .ok (.iaload, 1) := by decide +kernel
theorem d_Law_law_768 : decode code 768 = .ok (.aload_n 0, 1) := by decide +kernel
theorem d_Law_law_769 : decode code 769 = .ok (.iload 4, 2) := by decide +kernel
theorem d_Law_law_771 : decode code 771 = .ok (.iconst 2, 1) := by decide +kernel
theorem d_Law_law_772 : decode code 772 = .ok (.iadd, 1) := by decide +kernel
theorem d_Law_law_773 : decode code 773 = .ok (.iaload, 1) := by decide +kernel
theorem d_Law_law_774 : decode code 774 = .ok (.invokevirtual 113, 3) := by decide +kernel
theorem d_Law_law_777 : decode code 777 = .ok (.istore 6, 2) := by decide +kernel
theorem d_Law_law_779 : decode code 779 = .ok (.aload_n 2, 1) := by decide +kernel
theorem d_Law_law_780 : decode code 780 = .ok (.invokevirtual 73, 3) := by decide +kernel
theorem d_Law_law_783 : decode code 783 = .ok (.iload 5, 2) := by decide +kernel
theorem d_Law_law_785 : decode code 785 = .ok (.if_icmp .eq 5, 3) := by decide +kernel
theorem d_Law_law_788 : decode code 788 = .ok (.iconst 0, 1) := by decide +kernel
theorem d_Law_law_789 : decode code 789 = .ok (.ireturn, 1) := by decide +kernel
theorem d_Law_law_790 : decode code 790 = .ok (.iload 5, 2) := by decide +kernel
theorem d_Law_law_792 : decode code 792 = .ok (.ifCond .ne 22, 3) := by decide +kernel
theorem d_Law_law_795 : decode code 795 = .ok (.aload_n 3, 1) := by decide +kernel
theorem d_Law_law_796 : decode code 796 = .ok (.iconst 0, 1) := by decide +kernel
theorem d_Law_law_797 : decode code 797 = .ok (.laload, 1) := by decide +kernel
theorem d_Law_law_798 : decode code 798 = .ok (.iload 6, 2) := by decide +kernel
theorem d_Law_law_800 : decode code 800 = .ok (.ifCond .eq 7, 3) := by decide +kernel
theorem d_Law_law_803 : decode code 803 = .ok (.lconst 1, 1) := by decide +kernel
theorem d_Law_law_804 : decode code 804 = .ok (.goto 4, 3) := by decide +kernel
theorem d_Law_law_807 : decode code 807 = .ok (.lconst 0, 1) := by decide +kernel
theorem d_Law_law_808 : decode code 808 = .ok (.lcmp, 1) := by decide +kernel
theorem d_Law_law_809 : decode code 809 = .ok (.ifCond .eq 5, 3) := by decide +kernel
theorem d_Law_law_812 : decode code 812 = .ok (.iconst 0, 1) := by decide +kernel
theorem d_Law_law_813 : decode code 813 = .ok (.ireturn, 1) := by decide +kernel
theorem d_Law_law_814 : decode code 814 = .ok (.goto 265, 3) := by decide +kernel
theorem d_Law_law_817 : decode code 817 = .ok (.aload_n 1, 1) := by decide +kernel
theorem d_Law_law_818 : decode code 818 = .ok (.aload_n 0, 1) := by decide +kernel
theorem d_Law_law_819 : decode code 819 = .ok (.iload 4, 2) := by decide +kernel
theorem d_Law_law_821 : decode code 821 = .ok (.iconst 1, 1) := by decide +kernel
theorem d_Law_law_822 : decode code 822 = .ok (.iadd, 1) := by decide +kernel
theorem d_Law_law_823 : decode code 823 = .ok (.iaload, 1) := by decide +kernel
theorem d_Law_law_824 : decode code 824 = .ok (.aload_n 3, 1) := by decide +kernel
theorem d_Law_law_825 : decode code 825 = .ok (.invokestatic 114, 3) := by decide +kernel
theorem d_Law_law_828 : decode code 828 = .ok (.istore 5, 2) := by decide +kernel
theorem d_Law_law_830 : decode code 830 = .ok (.aload_n 2, 1) := by decide +kernel
theorem d_Law_law_831 : decode code 831 = .ok (.aload_n 0, 1) := by decide +kernel
theorem d_Law_law_832 : decode code 832 = .ok (.iload 4, 2) := by decide +kernel
theorem d_Law_law_834 : decode code 834 = .ok (.iconst 1, 1) := by decide +kernel
theorem d_Law_law_835 : decode code 835 = .ok (.iadd, 1) := by decide +kernel
theorem d_Law_law_836 : decode code 836 = .ok (.iaload, 1) := by decide +kernel
theorem d_Law_law_837 : decode code 837 = .ok (.invokevirtual 117, 3) := by decide +kernel
theorem d_Law_law_840 : decode code 840 = .ok (.istore 6, 2) := by decide +kernel
theorem d_Law_law_842 : decode code 842 = .ok (.aload_n 2, 1) := by decide +kernel
theorem d_Law_law_843 : decode code 843 = .ok (.invokevirtual 73, 3) := by decide +kernel
theorem d_Law_law_846 : decode code 846 = .ok (.iload 5, 2) := by decide +kernel
theorem d_Law_law_848 : decode code 848 = .ok (.if_icmp .eq 5, 3) := by decide +kernel
theorem d_Law_law_851 : decode code 851 = .ok (.iconst 0, 1) := by decide +kernel
theorem d_Law_law_852 : decode code 852 = .ok (.ireturn, 1) := by decide +kernel
theorem d_Law_law_853 : decode code 853 = .ok (.iload 5, 2) := by decide +kernel
theorem d_Law_law_855 : decode code 855 = .ok (.ifCond .ne 15, 3) := by decide +kernel
theorem d_Law_law_858 : decode code 858 = .ok (.aload_n 3, 1) := by decide +kernel
theorem d_Law_law_859 : decode code 859 = .ok (.iconst 0, 1) := by decide +kernel
theorem d_Law_law_860 : decode code 860 = .ok (.laload, 1) := by decide +kernel
theorem d_Law_law_861 : decode code 861 = .ok (.iload 6, 2) := by decide +kernel
theorem d_Law_law_863 : decode code 863 = .ok (.i2l, 1) := by decide +kernel
theorem d_Law_law_864 : decode code 864 = .ok (.lcmp, 1) := by decide +kernel
theorem d_Law_law_865 : decode code 865 = .ok (.ifCond .eq 5, 3) := by decide +kernel
theorem d_Law_law_868 : decode code 868 = .ok (.iconst 0, 1) := by decide +kernel
theorem d_Law_law_869 : decode code 869 = .ok (.ireturn, 1) := by decide +kernel
theorem d_Law_law_870 : decode code 870 = .ok (.goto 209, 3) := by decide +kernel
theorem d_Law_law_873 : decode code 873 = .ok (.aload_n 1, 1) := by decide +kernel
theorem d_Law_law_874 : decode code 874 = .ok (.invokevirtual 118, 3) := by decide +kernel
theorem d_Law_law_877 : decode code 877 = .ok (.aload_n 2, 1) := by decide +kernel
theorem d_Law_law_878 : decode code 878 = .ok (.invokevirtual 121, 3) := by decide +kernel
theorem d_Law_law_881 : decode code 881 = .ok (.if_icmp .eq 198, 3) := by decide +kernel
theorem d_Law_law_884 : decode code 884 = .ok (.iconst 0, 1) := by decide +kernel
theorem d_Law_law_885 : decode code 885 = .ok (.ireturn, 1) := by decide +kernel
theorem d_Law_law_886 : decode code 886 = .ok (.aload_n 1, 1) := by decide +kernel
theorem d_Law_law_887 : decode code 887 = .ok (.aload_n 0, 1) := by decide +kernel
theorem d_Law_law_888 : decode code 888 = .ok (.iload 4, 2) := by decide +kernel
theorem d_Law_law_890 : decode code 890 = .ok (.iconst 1, 1) := by decide +kernel
theorem d_Law_law_891 : decode code 891 = .ok (.iadd, 1) := by decide +kernel
theorem d_Law_law_892 : decode code 892 = .ok (.iaload, 1) := by decide +kernel
theorem d_Law_law_893 : decode code 893 = .ok (.aload_n 0, 1) := by decide +kernel
theorem d_Law_law_894 : decode code 894 = .ok (.iload 4, 2) := by decide +kernel
theorem d_Law_law_896 : decode code 896 = .ok (.iconst 2, 1) := by decide +kernel
theorem d_Law_law_897 : decode code 897 = .ok (.iadd, 1) := by decide +kernel
theorem d_Law_law_898 : decode code 898 = .ok (.iaload, 1) := by decide +kernel
theorem d_Law_law_899 : decode code 899 = .ok (.aload_n 3, 1) := by decide +kernel
theorem d_Law_law_900 : decode code 900 = .ok (.invokestatic 122, 3) := by decide +kernel
theorem d_Law_law_903 : decode code 903 = .ok (.istore 5, 2) := by decide +kernel
theorem d_Law_law_905 : decode code 905 = .ok (.aload_n 2, 1) := by decide +kernel
theorem d_Law_law_906 : decode code 906 = .ok (.aload_n 0, 1) := by decide +kernel
theorem d_Law_law_907 : decode code 907 = .ok (.iload 4, 2) := by decide +kernel
theorem d_Law_law_909 : decode code 909 = .ok (.iconst 1, 1) := by decide +kernel
theorem d_Law_law_910 : decode code 910 = .ok (.iadd, 1) := by decide +kernel
theorem d_Law_law_911 : decode code 911 = .ok (.iaload, 1) := by decide +kernel
theorem d_Law_law_912 : decode code 912 = .ok (.aload_n 0, 1) := by decide +kernel
theorem d_Law_law_913 : decode code 913 = .ok (.iload 4, 2) := by decide +kernel
theorem d_Law_law_915 : decode code 915 = .ok (.iconst 2, 1) := by decide +kernel
theorem d_Law_law_916 : decode code 916 = .ok (.iadd, 1) := by decide +kernel
theorem d_Law_law_917 : decode code 917 = .ok (.iaload, 1) := by decide +kernel
theorem d_Law_law_918 : decode code 918 = .ok (.invokevirtual 124, 3) := by decide +kernel
theorem d_Law_law_921 : decode code 921 = .ok (.istore 6, 2) := by decide +kernel
theorem d_Law_law_923 : decode code 923 = .ok (.aload_n 2, 1) := by decide +kernel
theorem d_Law_law_924 : decode code 924 = .ok (.invokevirtual 73, 3) := by decide +kernel
theorem d_Law_law_927 : decode code 927 = .ok (.iload 5, 2) := by decide +kernel
theorem d_Law_law_929 : decode code 929 = .ok (.if_icmp .eq 5, 3) := by decide +kernel
theorem d_Law_law_932 : decode code 932 = .ok (.iconst 0, 1) := by decide +kernel
theorem d_Law_law_933 : decode code 933 = .ok (.ireturn, 1) := by decide +kernel
theorem d_Law_law_934 : decode code 934 = .ok (.iload 5, 2) := by decide +kernel
theorem d_Law_law_936 : decode code 936 = .ok (.ifCond .ne 15, 3) := by decide +kernel
theorem d_Law_law_939 : decode code 939 = .ok (.aload_n 3, 1) := by decide +kernel
theorem d_Law_law_940 : decode code 940 = .ok (.iconst 0, 1) := by decide +kernel
theorem d_Law_law_941 : decode code 941 = .ok (.laload, 1) := by decide +kernel
theorem d_Law_law_942 : decode code 942 = .ok (.iload 6, 2) := by decide +kernel
theorem d_Law_law_944 : decode code 944 = .ok (.i2l, 1) := by decide +kernel
theorem d_Law_law_945 : decode code 945 = .ok (.lcmp, 1) := by decide +kernel
theorem d_Law_law_946 : decode code 946 = .ok (.ifCond .eq 5, 3) := by decide +kernel
theorem d_Law_law_949 : decode code 949 = .ok (.iconst 0, 1) := by decide +kernel
theorem d_Law_law_950 : decode code 950 = .ok (.ireturn, 1) := by decide +kernel
theorem d_Law_law_951 : decode code 951 = .ok (.goto 128, 3) := by decide +kernel
theorem d_Law_law_954 : decode code 954 = .ok (.aload_n 1, 1) := by decide +kernel
theorem d_Law_law_955 : decode code 955 = .ok (.invokevirtual 125, 3) := by decide +kernel
theorem d_Law_law_958 : decode code 958 = .ok (.aload_n 2, 1) := by decide +kernel
theorem d_Law_law_959 : decode code 959 = .ok (.invokevirtual 128, 3) := by decide +kernel
theorem d_Law_law_962 : decode code 962 = .ok (.if_icmp .eq 117, 3) := by decide +kernel
theorem d_Law_law_965 : decode code 965 = .ok (.iconst 0, 1) := by decide +kernel
theorem d_Law_law_966 : decode code 966 = .ok (.ireturn, 1) := by decide +kernel
theorem d_Law_law_967 : decode code 967 = .ok (.aload_n 1, 1) := by decide +kernel
theorem d_Law_law_968 : decode code 968 = .ok (.aload_n 0, 1) := by decide +kernel
theorem d_Law_law_969 : decode code 969 = .ok (.iload 4, 2) := by decide +kernel
theorem d_Law_law_971 : decode code 971 = .ok (.iconst 1, 1) := by decide +kernel
theorem d_Law_law_972 : decode code 972 = .ok (.iadd, 1) := by decide +kernel
theorem d_Law_law_973 : decode code 973 = .ok (.iaload, 1) := by decide +kernel
theorem d_Law_law_974 : decode code 974 = .ok (.aload_n 3, 1) := by decide +kernel
theorem d_Law_law_975 : decode code 975 = .ok (.invokestatic 129, 3) := by decide +kernel
theorem d_Law_law_978 : decode code 978 = .ok (.istore 5, 2) := by decide +kernel
theorem d_Law_law_980 : decode code 980 = .ok (.aload_n 2, 1) := by decide +kernel
theorem d_Law_law_981 : decode code 981 = .ok (.aload_n 0, 1) := by decide +kernel
theorem d_Law_law_982 : decode code 982 = .ok (.iload 4, 2) := by decide +kernel
theorem d_Law_law_984 : decode code 984 = .ok (.iconst 1, 1) := by decide +kernel
theorem d_Law_law_985 : decode code 985 = .ok (.iadd, 1) := by decide +kernel
theorem d_Law_law_986 : decode code 986 = .ok (.iaload, 1) := by decide +kernel
theorem d_Law_law_987 : decode code 987 = .ok (.invokevirtual 131, 3) := by decide +kernel
theorem d_Law_law_990 : decode code 990 = .ok (.istore 6, 2) := by decide +kernel
theorem d_Law_law_992 : decode code 992 = .ok (.aload_n 2, 1) := by decide +kernel
theorem d_Law_law_993 : decode code 993 = .ok (.invokevirtual 73, 3) := by decide +kernel
theorem d_Law_law_996 : decode code 996 = .ok (.iload 5, 2) := by decide +kernel
theorem d_Law_law_998 : decode code 998 = .ok (.if_icmp .eq 5, 3) := by decide +kernel
theorem d_Law_law_1001 : decode code 1001 = .ok (.iconst 0, 1) := by decide +kernel
theorem d_Law_law_1002 : decode code 1002 = .ok (.ireturn, 1) := by decide +kernel
theorem d_Law_law_1003 : decode code 1003 = .ok (.iload 5, 2) := by decide +kernel
theorem d_Law_law_1005 : decode code 1005 = .ok (.ifCond .ne 15, 3) := by decide +kernel
theorem d_Law_law_1008 : decode code 1008 = .ok (.aload_n 3, 1) := by decide +kernel
theorem d_Law_law_1009 : decode code 1009 = .ok (.iconst 0, 1) := by decide +kernel
theorem d_Law_law_1010 : decode code 1010 = .ok (.laload, 1) := by decide +kernel
theorem d_Law_law_1011 : decode code 1011 = .ok (.iload 6, 2) := by decide +kernel
theorem d_Law_law_1013 : decode code 1013 = .ok (.i2l, 1) := by decide +kernel
theorem d_Law_law_1014 : decode code 1014 = .ok (.lcmp, 1) := by decide +kernel
theorem d_Law_law_1015 : decode code 1015 = .ok (.ifCond .eq 5, 3) := by decide +kernel
theorem d_Law_law_1018 : decode code 1018 = .ok (.iconst 0, 1) := by decide +kernel
theorem d_Law_law_1019 : decode code 1019 = .ok (.ireturn, 1) := by decide +kernel
theorem d_Law_law_1020 : decode code 1020 = .ok (.goto 59, 3) := by decide +kernel
theorem d_Law_law_1023 : decode code 1023 = .ok (.aload_n 1, 1) := by decide +kernel
theorem d_Law_law_1024 : decode code 1024 = .ok (.aload_n 0, 1) := by decide +kernel
theorem d_Law_law_1025 : decode code 1025 = .ok (.iload 4, 2) := by decide +kernel
theorem d_Law_law_1027 : decode code 1027 = .ok (.iconst 1, 1) := by decide +kernel
theorem d_Law_law_1028 : decode code 1028 = .ok (.iadd, 1) := by decide +kernel
theorem d_Law_law_1029 : decode code 1029 = .ok (.iaload, 1) := by decide +kernel
theorem d_Law_law_1030 : decode code 1030 = .ok (.aload_n 3, 1) := by decide +kernel
theorem d_Law_law_1031 : decode code 1031 = .ok (.invokestatic 132, 3) := by decide +kernel
theorem d_Law_law_1034 : decode code 1034 = .ok (.istore 5, 2) := by decide +kernel
theorem d_Law_law_1036 : decode code 1036 = .ok (.aload_n 2, 1) := by decide +kernel
theorem d_Law_law_1037 : decode code 1037 = .ok (.aload_n 0, 1) := by decide +kernel
theorem d_Law_law_1038 : decode code 1038 = .ok (.iload 4, 2) := by decide +kernel
theorem d_Law_law_1040 : decode code 1040 = .ok (.iconst 1, 1) := by decide +kernel
theorem d_Law_law_1041 : decode code 1041 = .ok (.iadd, 1) := by decide +kernel
theorem d_Law_law_1042 : decode code 1042 = .ok (.iaload, 1) := by decide +kernel
theorem d_Law_law_1043 : decode code 1043 = .ok (.invokevirtual 134, 3) := by decide +kernel
theorem d_Law_law_1046 : decode code 1046 = .ok (.istore 6, 2) := by decide +kernel
theorem d_Law_law_1048 : decode code 1048 = .ok (.aload_n 2, 1) := by decide +kernel
theorem d_Law_law_1049 : decode code 1049 = .ok (.invokevirtual 73, 3) := by decide +kernel
theorem d_Law_law_1052 : decode code 1052 = .ok (.iload 5, 2) := by decide +kernel
theorem d_Law_law_1054 : decode code 1054 = .ok (.if_icmp .eq 5, 3) := by decide +kernel
theorem d_Law_law_1057 : decode code 1057 = .ok (.iconst 0, 1) := by decide +kernel
theorem d_Law_law_1058 : decode code 1058 = .ok (.ireturn, 1) := by decide +kernel
theorem d_Law_law_1059 : decode code 1059 = .ok (.iload 5, 2) := by decide +kernel
theorem d_Law_law_1061 : decode code 1061 = .ok (.ifCond .ne 15, 3) := by decide +kernel
theorem d_Law_law_1064 : decode code 1064 = .ok (.aload_n 3, 1) := by decide +kernel
theorem d_Law_law_1065 : decode code 1065 = .ok (.iconst 0, 1) := by decide +kernel
theorem d_Law_law_1066 : decode code 1066 = .ok (.laload, 1) := by decide +kernel
theorem d_Law_law_1067 : decode code 1067 = .ok (.iload 6, 2) := by decide +kernel
theorem d_Law_law_1069 : decode code 1069 = .ok (.i2l, 1) := by decide +kernel
theorem d_Law_law_1070 : decode code 1070 = .ok (.lcmp, 1) := by decide +kernel
theorem d_Law_law_1071 : decode code 1071 = .ok (.ifCond .eq 5, 3) := by decide +kernel
theorem d_Law_law_1074 : decode code 1074 = .ok (.iconst 0, 1) := by decide +kernel
theorem d_Law_law_1075 : decode code 1075 = .ok (.ireturn, 1) := by decide +kernel
theorem d_Law_law_1076 : decode code 1076 = .ok (.goto 3, 3) := by decide +kernel
theorem d_Law_law_1079 : decode code 1079 = .ok (.iinc 4 5, 3) := by decide +kernel
theorem d_Law_law_1082 : decode code 1082 = .ok (.goto (-1029), 3) := by decide +kernel
theorem d_Law_law_1085 : decode code 1085 = .ok (.iconst 1, 1) := by decide +kernel
theorem d_Law_law_1086 : decode code 1086 = .ok (.ireturn, 1) := by decide +kernel
