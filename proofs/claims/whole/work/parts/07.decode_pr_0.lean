theorem d_pr_init_0 : decode b_pr_init 0 = .ok (.aload_n 0, 1) := by decide +kernel
theorem d_pr_init_1 : decode b_pr_init 1 = .ok (.invokespecial 3, 3) := by decide +kernel
theorem d_pr_init_4 : decode b_pr_init 4 = .ok (.aload_n 0, 1) := by decide +kernel
theorem d_pr_init_5 : decode b_pr_init 5 = .ok (.iconst 0, 1) := by decide +kernel
theorem d_pr_init_6 : decode b_pr_init 6 = .ok (.putfield 9, 3) := by decide +kernel
theorem d_pr_init_9 : decode b_pr_init 9 = .ok (.aload_n 0, 1) := by decide +kernel
theorem d_pr_init_10 : decode b_pr_init 10 = .ok (.aload_n 1, 1) := by decide +kernel
theorem d_pr_init_11 : decode b_pr_init 11 = .ok (.putfield 15, 3) := by decide +kernel
theorem d_pr_init_14 : decode b_pr_init 14 = .ok (.aload_n 0, 1) := by decide +kernel
theorem d_pr_init_15 : decode b_pr_init 15 = .ok (.aload_n 2, 1) := by decide +kernel
theorem d_pr_init_16 : decode b_pr_init 16 = .ok (.putfield 19, 3) := by decide +kernel
theorem d_pr_init_19 : decode b_pr_init 19 = .ok (.return_, 1) := by decide +kernel
theorem d_pr_condition_0 : decode b_pr_condition 0 = .ok (.aload_n 0, 1) := by decide +kernel
theorem d_pr_condition_1 : decode b_pr_condition 1 = .ok (.getfield 15, 3) := by decide +kernel
theorem d_pr_condition_4 : decode b_pr_condition 4 = .ok (.bipush 6, 2) := by decide +kernel
theorem d_pr_condition_6 : decode b_pr_condition 6 = .ok (.invokevirtual 23, 3) := by decide +kernel
theorem d_pr_condition_9 : decode b_pr_condition 9 = .ok (.ifCond .ne 5, 3) := by decide +kernel
theorem d_pr_condition_12 : decode b_pr_condition 12 = .ok (.iconst 0, 1) := by decide +kernel
theorem d_pr_condition_13 : decode b_pr_condition 13 = .ok (.ireturn, 1) := by decide +kernel
theorem d_pr_condition_14 : decode b_pr_condition 14 = .ok (.aload_n 0, 1) := by decide +kernel
theorem d_pr_condition_15 : decode b_pr_condition 15 = .ok (.getfield 9, 3) := by decide +kernel
theorem d_pr_condition_18 : decode b_pr_condition 18 = .ok (.ifCond .ne 7, 3) := by decide +kernel
theorem d_pr_condition_21 : decode b_pr_condition 21 = .ok (.iconst 1, 1) := by decide +kernel
theorem d_pr_condition_22 : decode b_pr_condition 22 = .ok (.goto 4, 3) := by decide +kernel
theorem d_pr_condition_25 : decode b_pr_condition 25 = .ok (.iconst 2, 1) := by decide +kernel
theorem d_pr_condition_26 : decode b_pr_condition 26 = .ok (.ireturn, 1) := by decide +kernel
theorem d_pr_whyHalted_0 : decode b_pr_whyHalted 0 = .ok (.aload_n 0, 1) := by decide +kernel
theorem d_pr_whyHalted_1 : decode b_pr_whyHalted 1 = .ok (.getfield 9, 3) := by decide +kernel
theorem d_pr_whyHalted_4 : decode b_pr_whyHalted 4 = .ok (.ireturn, 1) := by decide +kernel
theorem d_pr_stop_0 : decode b_pr_stop 0 = .ok (.aload_n 0, 1) := by decide +kernel
theorem d_pr_stop_1 : decode b_pr_stop 1 = .ok (.iconst 0, 1) := by decide +kernel
theorem d_pr_stop_2 : decode b_pr_stop 2 = .ok (.putfield 9, 3) := by decide +kernel
theorem d_pr_stop_5 : decode b_pr_stop 5 = .ok (.aload_n 0, 1) := by decide +kernel
theorem d_pr_stop_6 : decode b_pr_stop 6 = .ok (.getfield 15, 3) := by decide +kernel
theorem d_pr_stop_9 : decode b_pr_stop 9 = .ok (.bipush 6, 2) := by decide +kernel
theorem d_pr_stop_11 : decode b_pr_stop 11 = .ok (.iconst 0, 1) := by decide +kernel
theorem d_pr_stop_12 : decode b_pr_stop 12 = .ok (.invokevirtual 29, 3) := by decide +kernel
theorem d_pr_stop_15 : decode b_pr_stop 15 = .ok (.aload_n 0, 1) := by decide +kernel
theorem d_pr_stop_16 : decode b_pr_stop 16 = .ok (.getfield 15, 3) := by decide +kernel
theorem d_pr_stop_19 : decode b_pr_stop 19 = .ok (.invokevirtual 33, 3) := by decide +kernel
theorem d_pr_stop_22 : decode b_pr_stop 22 = .ok (.return_, 1) := by decide +kernel
theorem d_pr_find_0 : decode b_pr_find 0 = .ok (.iload_n 1, 1) := by decide +kernel
theorem d_pr_find_1 : decode b_pr_find 1 = .ok (.istore_n 3, 1) := by decide +kernel
theorem d_pr_find_2 : decode b_pr_find 2 = .ok (.iconst 0, 1) := by decide +kernel
theorem d_pr_find_3 : decode b_pr_find 3 = .ok (.istore 4, 2) := by decide +kernel
theorem d_pr_find_5 : decode b_pr_find 5 = .ok (.iload 4, 2) := by decide +kernel
theorem d_pr_find_7 : decode b_pr_find 7 = .ok (.bipush 28, 2) := by decide +kernel
theorem d_pr_find_9 : decode b_pr_find 9 = .ok (.if_icmp .ge 35, 3) := by decide +kernel
theorem d_pr_find_12 : decode b_pr_find 12 = .ok (.iload_n 3, 1) := by decide +kernel
theorem d_pr_find_13 : decode b_pr_find 13 = .ok (.ifCond .eq 31, 3) := by decide +kernel
theorem d_pr_find_16 : decode b_pr_find 16 = .ok (.aload_n 0, 1) := by decide +kernel
theorem d_pr_find_17 : decode b_pr_find 17 = .ok (.getfield 19, 3) := by decide +kernel
theorem d_pr_find_20 : decode b_pr_find 20 = .ok (.iload_n 3, 1) := by decide +kernel
theorem d_pr_find_21 : decode b_pr_find 21 = .ok (.iload_n 2, 1) := by decide +kernel
theorem d_pr_find_22 : decode b_pr_find 22 = .ok (.invokevirtual 36, 3) := by decide +kernel
theorem d_pr_find_25 : decode b_pr_find 25 = .ok (.ifCond .ne 19, 3) := by decide +kernel
theorem d_pr_find_28 : decode b_pr_find 28 = .ok (.aload_n 0, 1) := by decide +kernel
theorem d_pr_find_29 : decode b_pr_find 29 = .ok (.getfield 15, 3) := by decide +kernel
theorem d_pr_find_32 : decode b_pr_find 32 = .ok (.iload_n 3, 1) := by decide +kernel
theorem d_pr_find_33 : decode b_pr_find 33 = .ok (.iconst 0, 1) := by decide +kernel
theorem d_pr_find_34 : decode b_pr_find 34 = .ok (.invokevirtual 42, 3) := by decide +kernel
theorem d_pr_find_37 : decode b_pr_find 37 = .ok (.istore_n 3, 1) := by decide +kernel
theorem d_pr_find_38 : decode b_pr_find 38 = .ok (.iinc 4 1, 3) := by decide +kernel
theorem d_pr_find_41 : decode b_pr_find 41 = .ok (.goto (-36), 3) := by decide +kernel
theorem d_pr_find_44 : decode b_pr_find 44 = .ok (.iload_n 3, 1) := by decide +kernel
theorem d_pr_find_45 : decode b_pr_find 45 = .ok (.ireturn, 1) := by decide +kernel
theorem d_pr_start_0 : decode b_pr_start 0 = .ok (.aload_n 0, 1) := by decide +kernel
theorem d_pr_start_1 : decode b_pr_start 1 = .ok (.getfield 15, 3) := by decide +kernel
theorem d_pr_start_4 : decode b_pr_start 4 = .ok (.iload_n 1, 1) := by decide +kernel
theorem d_pr_start_5 : decode b_pr_start 5 = .ok (.invokevirtual 23, 3) := by decide +kernel
theorem d_pr_start_8 : decode b_pr_start 8 = .ok (.istore_n 3, 1) := by decide +kernel
theorem d_pr_start_9 : decode b_pr_start 9 = .ok (.aload_n 0, 1) := by decide +kernel
theorem d_pr_start_10 : decode b_pr_start 10 = .ok (.aload_n 0, 1) := by decide +kernel
theorem d_pr_start_11 : decode b_pr_start 11 = .ok (.getfield 15, 3) := by decide +kernel
theorem d_pr_start_14 : decode b_pr_start 14 = .ok (.iload_n 3, 1) := by decide +kernel
theorem d_pr_start_15 : decode b_pr_start 15 = .ok (.invokevirtual 46, 3) := by decide +kernel
theorem d_pr_start_18 : decode b_pr_start 18 = .ok (.iload_n 2, 1) := by decide +kernel
theorem d_pr_start_19 : decode b_pr_start 19 = .ok (.invokevirtual 49, 3) := by decide +kernel
theorem d_pr_start_22 : decode b_pr_start 22 = .ok (.istore 4, 2) := by decide +kernel
theorem d_pr_start_24 : decode b_pr_start 24 = .ok (.iload 4, 2) := by decide +kernel
theorem d_pr_start_26 : decode b_pr_start 26 = .ok (.ifCond .ne 5, 3) := by decide +kernel
theorem d_pr_start_29 : decode b_pr_start 29 = .ok (.iconst 0, 1) := by decide +kernel
theorem d_pr_start_30 : decode b_pr_start 30 = .ok (.ireturn, 1) := by decide +kernel
theorem d_pr_start_31 : decode b_pr_start 31 = .ok (.aload_n 0, 1) := by decide +kernel
theorem d_pr_start_32 : decode b_pr_start 32 = .ok (.getfield 15, 3) := by decide +kernel
theorem d_pr_start_35 : decode b_pr_start 35 = .ok (.iload_n 3, 1) := by decide +kernel
theorem d_pr_start_36 : decode b_pr_start 36 = .ok (.iload 4, 2) := by decide +kernel
theorem d_pr_start_38 : decode b_pr_start 38 = .ok (.iload_n 2, 1) := by decide +kernel
theorem d_pr_start_39 : decode b_pr_start 39 = .ok (.invokevirtual 52, 3) := by decide +kernel
theorem d_pr_start_42 : decode b_pr_start 42 = .ok (.istore 5, 2) := by decide +kernel
theorem d_pr_start_44 : decode b_pr_start 44 = .ok (.iload 5, 2) := by decide +kernel
theorem d_pr_start_46 : decode b_pr_start 46 = .ok (.iconst (-1), 1) := by decide +kernel
theorem d_pr_start_47 : decode b_pr_start 47 = .ok (.if_icmp .ne 5, 3) := by decide +kernel
theorem d_pr_start_50 : decode b_pr_start 50 = .ok (.iconst 0, 1) := by decide +kernel
theorem d_pr_start_51 : decode b_pr_start 51 = .ok (.ireturn, 1) := by decide +kernel
theorem d_pr_start_52 : decode b_pr_start 52 = .ok (.iconst 0, 1) := by decide +kernel
theorem d_pr_start_53 : decode b_pr_start 53 = .ok (.istore 6, 2) := by decide +kernel
theorem d_pr_start_55 : decode b_pr_start 55 = .ok (.iload 6, 2) := by decide +kernel
theorem d_pr_start_57 : decode b_pr_start 57 = .ok (.iload_n 2, 1) := by decide +kernel
theorem d_pr_start_58 : decode b_pr_start 58 = .ok (.invokestatic 56, 3) := by decide +kernel
theorem d_pr_start_61 : decode b_pr_start 61 = .ok (.if_icmp .ge 38, 3) := by decide +kernel
theorem d_pr_start_64 : decode b_pr_start 64 = .ok (.aload_n 0, 1) := by decide +kernel
theorem d_pr_start_65 : decode b_pr_start 65 = .ok (.getfield 15, 3) := by decide +kernel
theorem d_pr_start_68 : decode b_pr_start 68 = .ok (.iload 5, 2) := by decide +kernel
theorem d_pr_start_70 : decode b_pr_start 70 = .ok (.iconst 5, 1) := by decide +kernel
theorem d_pr_start_71 : decode b_pr_start 71 = .ok (.iload 6, 2) := by decide +kernel
theorem d_pr_start_73 : decode b_pr_start 73 = .ok (.iadd, 1) := by decide +kernel
theorem d_pr_start_74 : decode b_pr_start 74 = .ok (.aload_n 0, 1) := by decide +kernel
theorem d_pr_start_75 : decode b_pr_start 75 = .ok (.getfield 15, 3) := by decide +kernel
theorem d_pr_start_78 : decode b_pr_start 78 = .ok (.iload_n 1, 1) := by decide +kernel
theorem d_pr_start_79 : decode b_pr_start 79 = .ok (.iconst 1, 1) := by decide +kernel
theorem d_pr_start_80 : decode b_pr_start 80 = .ok (.iadd, 1) := by decide +kernel
theorem d_pr_start_81 : decode b_pr_start 81 = .ok (.iload 6, 2) := by decide +kernel
theorem d_pr_start_83 : decode b_pr_start 83 = .ok (.iadd, 1) := by decide +kernel
theorem d_pr_start_84 : decode b_pr_start 84 = .ok (.bipush 6, 2) := by decide +kernel
theorem d_pr_start_86 : decode b_pr_start 86 = .ok (.irem, 1) := by decide +kernel
theorem d_pr_start_87 : decode b_pr_start 87 = .ok (.invokevirtual 23, 3) := by decide +kernel
theorem d_pr_start_90 : decode b_pr_start 90 = .ok (.invokevirtual 59, 3) := by decide +kernel
theorem d_pr_start_93 : decode b_pr_start 93 = .ok (.iinc 6 1, 3) := by decide +kernel
theorem d_pr_start_96 : decode b_pr_start 96 = .ok (.goto (-41), 3) := by decide +kernel
theorem d_pr_start_99 : decode b_pr_start 99 = .ok (.aload_n 0, 1) := by decide +kernel
theorem d_pr_start_100 : decode b_pr_start 100 = .ok (.getfield 15, 3) := by decide +kernel
theorem d_pr_start_103 : decode b_pr_start 103 = .ok (.bipush 6, 2) := by decide +kernel
theorem d_pr_start_105 : decode b_pr_start 105 = .ok (.iload 5, 2) := by decide +kernel
theorem d_pr_start_107 : decode b_pr_start 107 = .ok (.invokevirtual 29, 3) := by decide +kernel
theorem d_pr_start_110 : decode b_pr_start 110 = .ok (.aload_n 0, 1) := by decide +kernel
theorem d_pr_start_111 : decode b_pr_start 111 = .ok (.getfield 15, 3) := by decide +kernel
theorem d_pr_start_114 : decode b_pr_start 114 = .ok (.invokevirtual 33, 3) := by decide +kernel
theorem d_pr_start_117 : decode b_pr_start 117 = .ok (.iconst 1, 1) := by decide +kernel
theorem d_pr_start_118 : decode b_pr_start 118 = .ok (.ireturn, 1) := by decide +kernel
theorem d_pr_doByte_0 : decode b_pr_doByte 0 = .ok (.aload_n 0, 1) := by decide +kernel
theorem d_pr_doByte_1 : decode b_pr_doByte 1 = .ok (.getfield 15, 3) := by decide +kernel
theorem d_pr_doByte_4 : decode b_pr_doByte 4 = .ok (.bipush 6, 2) := by decide +kernel
theorem d_pr_doByte_6 : decode b_pr_doByte 6 = .ok (.invokevirtual 23, 3) := by decide +kernel
theorem d_pr_doByte_9 : decode b_pr_doByte 9 = .ok (.istore_n 1, 1) := by decide +kernel
theorem d_pr_doByte_10 : decode b_pr_doByte 10 = .ok (.aload_n 0, 1) := by decide +kernel
theorem d_pr_doByte_11 : decode b_pr_doByte 11 = .ok (.iload_n 1, 1) := by decide +kernel
theorem d_pr_doByte_12 : decode b_pr_doByte 12 = .ok (.invokevirtual 63, 3) := by decide +kernel
theorem d_pr_doByte_15 : decode b_pr_doByte 15 = .ok (.istore_n 2, 1) := by decide +kernel
theorem d_pr_doByte_16 : decode b_pr_doByte 16 = .ok (.iload_n 2, 1) := by decide +kernel
theorem d_pr_doByte_17 : decode b_pr_doByte 17 = .ok (.bipush 16, 2) := by decide +kernel
theorem d_pr_doByte_19 : decode b_pr_doByte 19 = .ok (.if_icmp .lt 10, 3) := by decide +kernel
theorem d_pr_doByte_22 : decode b_pr_doByte 22 = .ok (.aload_n 0, 1) := by decide +kernel
theorem d_pr_doByte_23 : decode b_pr_doByte 23 = .ok (.bipush 6, 2) := by decide +kernel
theorem d_pr_doByte_25 : decode b_pr_doByte 25 = .ok (.invokevirtual 66, 3) := by decide +kernel
theorem d_pr_doByte_28 : decode b_pr_doByte 28 = .ok (.ireturn, 1) := by decide +kernel
theorem d_pr_doByte_29 : decode b_pr_doByte 29 = .ok (.aload_n 0, 1) := by decide +kernel
theorem d_pr_doByte_30 : decode b_pr_doByte 30 = .ok (.iload_n 1, 1) := by decide +kernel
theorem d_pr_doByte_31 : decode b_pr_doByte 31 = .ok (.iload_n 2, 1) := by decide +kernel
theorem d_pr_doByte_32 : decode b_pr_doByte 32 = .ok (.invokevirtual 70, 3) := by decide +kernel
theorem d_pr_doByte_35 : decode b_pr_doByte 35 = .ok (.istore_n 3, 1) := by decide +kernel
theorem d_pr_doByte_36 : decode b_pr_doByte 36 = .ok (.iload_n 3, 1) := by decide +kernel
theorem d_pr_doByte_37 : decode b_pr_doByte 37 = .ok (.iconst 4, 1) := by decide +kernel
theorem d_pr_doByte_38 : decode b_pr_doByte 38 = .ok (.ishr, 1) := by decide +kernel
theorem d_pr_doByte_39 : decode b_pr_doByte 39 = .ok (.istore 4, 2) := by decide +kernel
theorem d_pr_doByte_41 : decode b_pr_doByte 41 = .ok (.iload_n 3, 1) := by decide +kernel
theorem d_pr_doByte_42 : decode b_pr_doByte 42 = .ok (.bipush 15, 2) := by decide +kernel
theorem d_pr_doByte_44 : decode b_pr_doByte 44 = .ok (.iand, 1) := by decide +kernel
theorem d_pr_doByte_45 : decode b_pr_doByte 45 = .ok (.istore 5, 2) := by decide +kernel
theorem d_pr_doByte_47 : decode b_pr_doByte 47 = .ok (.aload_n 0, 1) := by decide +kernel
theorem d_pr_doByte_48 : decode b_pr_doByte 48 = .ok (.iload_n 1, 1) := by decide +kernel
theorem d_pr_doByte_49 : decode b_pr_doByte 49 = .ok (.iload 4, 2) := by decide +kernel
theorem d_pr_doByte_51 : decode b_pr_doByte 51 = .ok (.iload 5, 2) := by decide +kernel
theorem d_pr_doByte_53 : decode b_pr_doByte 53 = .ok (.invokevirtual 73, 3) := by decide +kernel
theorem d_pr_doByte_56 : decode b_pr_doByte 56 = .ok (.ifCond .ne 9, 3) := by decide +kernel
theorem d_pr_doByte_59 : decode b_pr_doByte 59 = .ok (.aload_n 0, 1) := by decide +kernel
theorem d_pr_doByte_60 : decode b_pr_doByte 60 = .ok (.iconst 1, 1) := by decide +kernel
theorem d_pr_doByte_61 : decode b_pr_doByte 61 = .ok (.invokevirtual 66, 3) := by decide +kernel
theorem d_pr_doByte_64 : decode b_pr_doByte 64 = .ok (.ireturn, 1) := by decide +kernel
theorem d_pr_doByte_65 : decode b_pr_doByte 65 = .ok (.aload_n 0, 1) := by decide +kernel
theorem d_pr_doByte_66 : decode b_pr_doByte 66 = .ok (.iload_n 1, 1) := by decide +kernel
theorem d_pr_doByte_67 : decode b_pr_doByte 67 = .ok (.iload_n 2, 1) := by decide +kernel
theorem d_pr_doByte_68 : decode b_pr_doByte 68 = .ok (.iconst 1, 1) := by decide +kernel
theorem d_pr_doByte_69 : decode b_pr_doByte 69 = .ok (.iadd, 1) := by decide +kernel
theorem d_pr_doByte_70 : decode b_pr_doByte 70 = .ok (.invokevirtual 77, 3) := by decide +kernel
theorem d_pr_doByte_73 : decode b_pr_doByte 73 = .ok (.aload_n 0, 1) := by decide +kernel
theorem d_pr_doByte_74 : decode b_pr_doByte 74 = .ok (.iload_n 1, 1) := by decide +kernel
theorem d_pr_doByte_75 : decode b_pr_doByte 75 = .ok (.iload 4, 2) := by decide +kernel
theorem d_pr_doByte_77 : decode b_pr_doByte 77 = .ok (.iload 5, 2) := by decide +kernel
theorem d_pr_doByte_79 : decode b_pr_doByte 79 = .ok (.invokevirtual 80, 3) := by decide +kernel
theorem d_pr_doByte_82 : decode b_pr_doByte 82 = .ok (.istore 6, 2) := by decide +kernel
theorem d_pr_doByte_84 : decode b_pr_doByte 84 = .ok (.iload 6, 2) := by decide +kernel
theorem d_pr_doByte_86 : decode b_pr_doByte 86 = .ok (.ifCond .eq 16, 3) := by decide +kernel
theorem d_pr_doByte_89 : decode b_pr_doByte 89 = .ok (.aload_n 0, 1) := by decide +kernel
theorem d_pr_doByte_90 : decode b_pr_doByte 90 = .ok (.iload_n 1, 1) := by decide +kernel
theorem d_pr_doByte_91 : decode b_pr_doByte 91 = .ok (.iload_n 2, 1) := by decide +kernel
theorem d_pr_doByte_92 : decode b_pr_doByte 92 = .ok (.invokevirtual 77, 3) := by decide +kernel
theorem d_pr_doByte_95 : decode b_pr_doByte 95 = .ok (.aload_n 0, 1) := by decide +kernel
theorem d_pr_doByte_96 : decode b_pr_doByte 96 = .ok (.iload 6, 2) := by decide +kernel
theorem d_pr_doByte_98 : decode b_pr_doByte 98 = .ok (.invokevirtual 66, 3) := by decide +kernel
theorem d_pr_doByte_101 : decode b_pr_doByte 101 = .ok (.ireturn, 1) := by decide +kernel
theorem d_pr_doByte_102 : decode b_pr_doByte 102 = .ok (.aload_n 0, 1) := by decide +kernel
theorem d_pr_doByte_103 : decode b_pr_doByte 103 = .ok (.getfield 15, 3) := by decide +kernel
theorem d_pr_doByte_106 : decode b_pr_doByte 106 = .ok (.invokevirtual 33, 3) := by decide +kernel
theorem d_pr_doByte_109 : decode b_pr_doByte 109 = .ok (.iconst 1, 1) := by decide +kernel
theorem d_pr_doByte_110 : decode b_pr_doByte 110 = .ok (.ireturn, 1) := by decide +kernel
theorem d_pr_halt_0 : decode b_pr_halt 0 = .ok (.aload_n 0, 1) := by decide +kernel
theorem d_pr_halt_1 : decode b_pr_halt 1 = .ok (.iload_n 1, 1) := by decide +kernel
theorem d_pr_halt_2 : decode b_pr_halt 2 = .ok (.putfield 9, 3) := by decide +kernel
theorem d_pr_halt_5 : decode b_pr_halt 5 = .ok (.iconst 0, 1) := by decide +kernel
theorem d_pr_halt_6 : decode b_pr_halt 6 = .ok (.ireturn, 1) := by decide +kernel
theorem d_pr_codeAt_0 : decode b_pr_codeAt 0 = .ok (.aload_n 0, 1) := by decide +kernel
theorem d_pr_codeAt_1 : decode b_pr_codeAt 1 = .ok (.getfield 15, 3) := by decide +kernel
theorem d_pr_codeAt_4 : decode b_pr_codeAt 4 = .ok (.iload_n 1, 1) := by decide +kernel
theorem d_pr_codeAt_5 : decode b_pr_codeAt 5 = .ok (.iconst 3, 1) := by decide +kernel
theorem d_pr_codeAt_6 : decode b_pr_codeAt 6 = .ok (.invokevirtual 42, 3) := by decide +kernel
theorem d_pr_codeAt_9 : decode b_pr_codeAt 9 = .ok (.sipush 1000, 3) := by decide +kernel
theorem d_pr_codeAt_12 : decode b_pr_codeAt 12 = .ok (.isub, 1) := by decide +kernel
theorem d_pr_codeAt_13 : decode b_pr_codeAt 13 = .ok (.istore_n 3, 1) := by decide +kernel
theorem d_pr_codeAt_14 : decode b_pr_codeAt 14 = .ok (.aload_n 0, 1) := by decide +kernel
theorem d_pr_codeAt_15 : decode b_pr_codeAt 15 = .ok (.getfield 19, 3) := by decide +kernel
theorem d_pr_codeAt_18 : decode b_pr_codeAt 18 = .ok (.aload_n 0, 1) := by decide +kernel
theorem d_pr_codeAt_19 : decode b_pr_codeAt 19 = .ok (.getfield 15, 3) := by decide +kernel
theorem d_pr_codeAt_22 : decode b_pr_codeAt 22 = .ok (.iload_n 1, 1) := by decide +kernel
theorem d_pr_codeAt_23 : decode b_pr_codeAt 23 = .ok (.iconst 2, 1) := by decide +kernel
theorem d_pr_codeAt_24 : decode b_pr_codeAt 24 = .ok (.invokevirtual 42, 3) := by decide +kernel
theorem d_pr_codeAt_27 : decode b_pr_codeAt 27 = .ok (.iload_n 3, 1) := by decide +kernel
theorem d_pr_codeAt_28 : decode b_pr_codeAt 28 = .ok (.iload_n 2, 1) := by decide +kernel
theorem d_pr_codeAt_29 : decode b_pr_codeAt 29 = .ok (.invokevirtual 83, 3) := by decide +kernel
theorem d_pr_codeAt_32 : decode b_pr_codeAt 32 = .ok (.ireturn, 1) := by decide +kernel
theorem d_pr_stackSuits_0 : decode b_pr_stackSuits 0 = .ok (.aload_n 0, 1) := by decide +kernel
theorem d_pr_stackSuits_1 : decode b_pr_stackSuits 1 = .ok (.getfield 15, 3) := by decide +kernel
theorem d_pr_stackSuits_4 : decode b_pr_stackSuits 4 = .ok (.iload_n 1, 1) := by decide +kernel
theorem d_pr_stackSuits_5 : decode b_pr_stackSuits 5 = .ok (.invokevirtual 86, 3) := by decide +kernel
theorem d_pr_stackSuits_8 : decode b_pr_stackSuits 8 = .ok (.istore 4, 2) := by decide +kernel
theorem d_pr_stackSuits_10 : decode b_pr_stackSuits 10 = .ok (.iload 4, 2) := by decide +kernel
theorem d_pr_stackSuits_12 : decode b_pr_stackSuits 12 = .ok (.iload_n 2, 1) := by decide +kernel
theorem d_pr_stackSuits_13 : decode b_pr_stackSuits 13 = .ok (.iload_n 3, 1) := by decide +kernel
theorem d_pr_stackSuits_14 : decode b_pr_stackSuits 14 = .ok (.invokestatic 89, 3) := by decide +kernel
theorem d_pr_stackSuits_17 : decode b_pr_stackSuits 17 = .ok (.if_icmp .lt 22, 3) := by decide +kernel
theorem d_pr_stackSuits_20 : decode b_pr_stackSuits 20 = .ok (.iload 4, 2) := by decide +kernel
theorem d_pr_stackSuits_22 : decode b_pr_stackSuits 22 = .ok (.bipush 6, 2) := by decide +kernel
theorem d_pr_stackSuits_24 : decode b_pr_stackSuits 24 = .ok (.if_icmp .lt 11, 3) := by decide +kernel
theorem d_pr_stackSuits_27 : decode b_pr_stackSuits 27 = .ok (.iload_n 2, 1) := by decide +kernel
theorem d_pr_stackSuits_28 : decode b_pr_stackSuits 28 = .ok (.iload_n 3, 1) := by decide +kernel
theorem d_pr_stackSuits_29 : decode b_pr_stackSuits 29 = .ok (.invokestatic 92, 3) := by decide +kernel
theorem d_pr_stackSuits_32 : decode b_pr_stackSuits 32 = .ok (.ifCond .ne 7, 3) := by decide +kernel
theorem d_pr_stackSuits_35 : decode b_pr_stackSuits 35 = .ok (.iconst 1, 1) := by decide +kernel
theorem d_pr_stackSuits_36 : decode b_pr_stackSuits 36 = .ok (.goto 4, 3) := by decide +kernel
theorem d_pr_stackSuits_39 : decode b_pr_stackSuits 39 = .ok (.iconst 0, 1) := by decide +kernel
theorem d_pr_stackSuits_40 : decode b_pr_stackSuits 40 = .ok (.ireturn, 1) := by decide +kernel
theorem d_pr_perform_0 : decode b_pr_perform 0 = .ok (.iload_n 2, 1) := by decide +kernel
theorem d_pr_perform_1 : decode b_pr_perform 1 = .ok (.tableswitch 172 0 13 #[71, 78, 85, 101, 108, 115, 115, 123, 130, 137, 144, 151, 158, 165], 71) := by decide +kernel
theorem d_pr_perform_72 : decode b_pr_perform 72 = .ok (.aload_n 0, 1) := by decide +kernel
theorem d_pr_perform_73 : decode b_pr_perform 73 = .ok (.iload_n 1, 1) := by decide +kernel
theorem d_pr_perform_74 : decode b_pr_perform 74 = .ok (.iload_n 3, 1) := by decide +kernel
theorem d_pr_perform_75 : decode b_pr_perform 75 = .ok (.invokevirtual 95, 3) := by decide +kernel
theorem d_pr_perform_78 : decode b_pr_perform 78 = .ok (.ireturn, 1) := by decide +kernel
theorem d_pr_perform_79 : decode b_pr_perform 79 = .ok (.aload_n 0, 1) := by decide +kernel
theorem d_pr_perform_80 : decode b_pr_perform 80 = .ok (.iload_n 1, 1) := by decide +kernel
theorem d_pr_perform_81 : decode b_pr_perform 81 = .ok (.iload_n 3, 1) := by decide +kernel
theorem d_pr_perform_82 : decode b_pr_perform 82 = .ok (.invokevirtual 98, 3) := by decide +kernel
theorem d_pr_perform_85 : decode b_pr_perform 85 = .ok (.ireturn, 1) := by decide +kernel
theorem d_pr_perform_86 : decode b_pr_perform 86 = .ok (.aload_n 0, 1) := by decide +kernel
theorem d_pr_perform_87 : decode b_pr_perform 87 = .ok (.getfield 15, 3) := by decide +kernel
theorem d_pr_perform_90 : decode b_pr_perform 90 = .ok (.iload_n 1, 1) := by decide +kernel
theorem d_pr_perform_91 : decode b_pr_perform 91 = .ok (.aload_n 0, 1) := by decide +kernel
theorem d_pr_perform_92 : decode b_pr_perform 92 = .ok (.iload_n 1, 1) := by decide +kernel
theorem d_pr_perform_93 : decode b_pr_perform 93 = .ok (.iload_n 3, 1) := by decide +kernel
theorem d_pr_perform_94 : decode b_pr_perform 94 = .ok (.invokevirtual 101, 3) := by decide +kernel
theorem d_pr_perform_97 : decode b_pr_perform 97 = .ok (.invokevirtual 104, 3) := by decide +kernel
theorem d_pr_perform_100 : decode b_pr_perform 100 = .ok (.iconst 0, 1) := by decide +kernel
theorem d_pr_perform_101 : decode b_pr_perform 101 = .ok (.ireturn, 1) := by decide +kernel
theorem d_pr_perform_102 : decode b_pr_perform 102 = .ok (.aload_n 0, 1) := by decide +kernel
theorem d_pr_perform_103 : decode b_pr_perform 103 = .ok (.iload_n 1, 1) := by decide +kernel
theorem d_pr_perform_104 : decode b_pr_perform 104 = .ok (.iload_n 3, 1) := by decide +kernel
theorem d_pr_perform_105 : decode b_pr_perform 105 = .ok (.invokevirtual 107, 3) := by decide +kernel
theorem d_pr_perform_108 : decode b_pr_perform 108 = .ok (.ireturn, 1) := by decide +kernel
theorem d_pr_perform_109 : decode b_pr_perform 109 = .ok (.aload_n 0, 1) := by decide +kernel
theorem d_pr_perform_110 : decode b_pr_perform 110 = .ok (.iload_n 1, 1) := by decide +kernel
theorem d_pr_perform_111 : decode b_pr_perform 111 = .ok (.iload_n 3, 1) := by decide +kernel
theorem d_pr_perform_112 : decode b_pr_perform 112 = .ok (.invokevirtual 110, 3) := by decide +kernel
theorem d_pr_perform_115 : decode b_pr_perform 115 = .ok (.ireturn, 1) := by decide +kernel
theorem d_pr_perform_116 : decode b_pr_perform 116 = .ok (.aload_n 0, 1) := by decide +kernel
theorem d_pr_perform_117 : decode b_pr_perform 117 = .ok (.iload_n 1, 1) := by decide +kernel
theorem d_pr_perform_118 : decode b_pr_perform 118 = .ok (.iload_n 2, 1) := by decide +kernel
theorem d_pr_perform_119 : decode b_pr_perform 119 = .ok (.iload_n 3, 1) := by decide +kernel
theorem d_pr_perform_120 : decode b_pr_perform 120 = .ok (.invokevirtual 113, 3) := by decide +kernel
theorem d_pr_perform_123 : decode b_pr_perform 123 = .ok (.ireturn, 1) := by decide +kernel
theorem d_pr_perform_124 : decode b_pr_perform 124 = .ok (.aload_n 0, 1) := by decide +kernel
theorem d_pr_perform_125 : decode b_pr_perform 125 = .ok (.iload_n 1, 1) := by decide +kernel
theorem d_pr_perform_126 : decode b_pr_perform 126 = .ok (.iload_n 3, 1) := by decide +kernel
theorem d_pr_perform_127 : decode b_pr_perform 127 = .ok (.invokevirtual 116, 3) := by decide +kernel
theorem d_pr_perform_130 : decode b_pr_perform 130 = .ok (.ireturn, 1) := by decide +kernel
theorem d_pr_perform_131 : decode b_pr_perform 131 = .ok (.aload_n 0, 1) := by decide +kernel
theorem d_pr_perform_132 : decode b_pr_perform 132 = .ok (.iload_n 1, 1) := by decide +kernel
theorem d_pr_perform_133 : decode b_pr_perform 133 = .ok (.iload_n 3, 1) := by decide +kernel
theorem d_pr_perform_134 : decode b_pr_perform 134 = .ok (.invokevirtual 119, 3) := by decide +kernel
theorem d_pr_perform_137 : decode b_pr_perform 137 = .ok (.ireturn, 1) := by decide +kernel
theorem d_pr_perform_138 : decode b_pr_perform 138 = .ok (.aload_n 0, 1) := by decide +kernel
theorem d_pr_perform_139 : decode b_pr_perform 139 = .ok (.iload_n 1, 1) := by decide +kernel
theorem d_pr_perform_140 : decode b_pr_perform 140 = .ok (.iload_n 3, 1) := by decide +kernel
theorem d_pr_perform_141 : decode b_pr_perform 141 = .ok (.invokevirtual 122, 3) := by decide +kernel
theorem d_pr_perform_144 : decode b_pr_perform 144 = .ok (.ireturn, 1) := by decide +kernel
theorem d_pr_perform_145 : decode b_pr_perform 145 = .ok (.aload_n 0, 1) := by decide +kernel
theorem d_pr_perform_146 : decode b_pr_perform 146 = .ok (.iload_n 1, 1) := by decide +kernel
theorem d_pr_perform_147 : decode b_pr_perform 147 = .ok (.iload_n 3, 1) := by decide +kernel
theorem d_pr_perform_148 : decode b_pr_perform 148 = .ok (.invokevirtual 125, 3) := by decide +kernel
theorem d_pr_perform_151 : decode b_pr_perform 151 = .ok (.ireturn, 1) := by decide +kernel
theorem d_pr_perform_152 : decode b_pr_perform 152 = .ok (.aload_n 0, 1) := by decide +kernel
theorem d_pr_perform_153 : decode b_pr_perform 153 = .ok (.iload_n 1, 1) := by decide +kernel
theorem d_pr_perform_154 : decode b_pr_perform 154 = .ok (.iload_n 3, 1) := by decide +kernel
theorem d_pr_perform_155 : decode b_pr_perform 155 = .ok (.invokevirtual 128, 3) := by decide +kernel
theorem d_pr_perform_158 : decode b_pr_perform 158 = .ok (.ireturn, 1) := by decide +kernel
theorem d_pr_perform_159 : decode b_pr_perform 159 = .ok (.aload_n 0, 1) := by decide +kernel
theorem d_pr_perform_160 : decode b_pr_perform 160 = .ok (.iload_n 1, 1) := by decide +kernel
theorem d_pr_perform_161 : decode b_pr_perform 161 = .ok (.iload_n 3, 1) := by decide +kernel
theorem d_pr_perform_162 : decode b_pr_perform 162 = .ok (.invokevirtual 131, 3) := by decide +kernel
theorem d_pr_perform_165 : decode b_pr_perform 165 = .ok (.ireturn, 1) := by decide +kernel
theorem d_pr_perform_166 : decode b_pr_perform 166 = .ok (.aload_n 0, 1) := by decide +kernel
theorem d_pr_perform_167 : decode b_pr_perform 167 = .ok (.iload_n 1, 1) := by decide +kernel
theorem d_pr_perform_168 : decode b_pr_perform 168 = .ok (.iload_n 3, 1) := by decide +kernel
theorem d_pr_perform_169 : decode b_pr_perform 169 = .ok (.invokevirtual 134, 3) := by decide +kernel
theorem d_pr_perform_172 : decode b_pr_perform 172 = .ok (.ireturn, 1) := by decide +kernel
theorem d_pr_perform_173 : decode b_pr_perform 173 = .ok (.iconst 3, 1) := by decide +kernel
theorem d_pr_perform_174 : decode b_pr_perform 174 = .ok (.ireturn, 1) := by decide +kernel
theorem d_pr_wordsUsed_0 : decode b_pr_wordsUsed 0 = .ok (.iload_n 0, 1) := by decide +kernel
theorem d_pr_wordsUsed_1 : decode b_pr_wordsUsed 1 = .ok (.tableswitch 91 3 13 #[59, 59, 61, 61, 68, 91, 59, 91, 70, 70, 80], 59) := by decide +kernel
theorem d_pr_wordsUsed_60 : decode b_pr_wordsUsed 60 = .ok (.iconst 1, 1) := by decide +kernel
theorem d_pr_wordsUsed_61 : decode b_pr_wordsUsed 61 = .ok (.ireturn, 1) := by decide +kernel
theorem d_pr_wordsUsed_62 : decode b_pr_wordsUsed 62 = .ok (.iload_n 1, 1) := by decide +kernel
theorem d_pr_wordsUsed_63 : decode b_pr_wordsUsed 63 = .ok (.invokestatic 56, 3) := by decide +kernel
theorem d_pr_wordsUsed_66 : decode b_pr_wordsUsed 66 = .ok (.iconst 1, 1) := by decide +kernel
theorem d_pr_wordsUsed_67 : decode b_pr_wordsUsed 67 = .ok (.iadd, 1) := by decide +kernel
theorem d_pr_wordsUsed_68 : decode b_pr_wordsUsed 68 = .ok (.ireturn, 1) := by decide +kernel
theorem d_pr_wordsUsed_69 : decode b_pr_wordsUsed 69 = .ok (.iconst 2, 1) := by decide +kernel
theorem d_pr_wordsUsed_70 : decode b_pr_wordsUsed 70 = .ok (.ireturn, 1) := by decide +kernel
theorem d_pr_wordsUsed_71 : decode b_pr_wordsUsed 71 = .ok (.iload_n 1, 1) := by decide +kernel
theorem d_pr_wordsUsed_72 : decode b_pr_wordsUsed 72 = .ok (.ifCond .ne 7, 3) := by decide +kernel
theorem d_pr_wordsUsed_75 : decode b_pr_wordsUsed 75 = .ok (.iconst 1, 1) := by decide +kernel
theorem d_pr_wordsUsed_76 : decode b_pr_wordsUsed 76 = .ok (.goto 4, 3) := by decide +kernel
theorem d_pr_wordsUsed_79 : decode b_pr_wordsUsed 79 = .ok (.iconst 0, 1) := by decide +kernel
theorem d_pr_wordsUsed_80 : decode b_pr_wordsUsed 80 = .ok (.ireturn, 1) := by decide +kernel
theorem d_pr_wordsUsed_81 : decode b_pr_wordsUsed 81 = .ok (.iload_n 1, 1) := by decide +kernel
theorem d_pr_wordsUsed_82 : decode b_pr_wordsUsed 82 = .ok (.iconst 1, 1) := by decide +kernel
theorem d_pr_wordsUsed_83 : decode b_pr_wordsUsed 83 = .ok (.if_icmp .gt 7, 3) := by decide +kernel
theorem d_pr_wordsUsed_86 : decode b_pr_wordsUsed 86 = .ok (.iconst 1, 1) := by decide +kernel
theorem d_pr_wordsUsed_87 : decode b_pr_wordsUsed 87 = .ok (.goto 4, 3) := by decide +kernel
theorem d_pr_wordsUsed_90 : decode b_pr_wordsUsed 90 = .ok (.iconst 0, 1) := by decide +kernel
theorem d_pr_wordsUsed_91 : decode b_pr_wordsUsed 91 = .ok (.ireturn, 1) := by decide +kernel
theorem d_pr_wordsUsed_92 : decode b_pr_wordsUsed 92 = .ok (.iconst 0, 1) := by decide +kernel
theorem d_pr_wordsUsed_93 : decode b_pr_wordsUsed 93 = .ok (.ireturn, 1) := by decide +kernel
theorem d_pr_onlyPushes_0 : decode b_pr_onlyPushes 0 = .ok (.iload_n 0, 1) := by decide +kernel
theorem d_pr_onlyPushes_1 : decode b_pr_onlyPushes 1 = .ok (.iconst 2, 1) := by decide +kernel
theorem d_pr_onlyPushes_2 : decode b_pr_onlyPushes 2 = .ok (.if_icmp .le 13, 3) := by decide +kernel
theorem d_pr_onlyPushes_5 : decode b_pr_onlyPushes 5 = .ok (.iload_n 0, 1) := by decide +kernel
theorem d_pr_onlyPushes_6 : decode b_pr_onlyPushes 6 = .ok (.bipush 13, 2) := by decide +kernel
theorem d_pr_onlyPushes_8 : decode b_pr_onlyPushes 8 = .ok (.if_icmp .ne 11, 3) := by decide +kernel
theorem d_pr_onlyPushes_11 : decode b_pr_onlyPushes 11 = .ok (.iload_n 1, 1) := by decide +kernel
theorem d_pr_onlyPushes_12 : decode b_pr_onlyPushes 12 = .ok (.ifCond .ne 7, 3) := by decide +kernel
theorem d_pr_onlyPushes_15 : decode b_pr_onlyPushes 15 = .ok (.iconst 1, 1) := by decide +kernel
theorem d_pr_onlyPushes_16 : decode b_pr_onlyPushes 16 = .ok (.goto 4, 3) := by decide +kernel
theorem d_pr_onlyPushes_19 : decode b_pr_onlyPushes 19 = .ok (.iconst 0, 1) := by decide +kernel
theorem d_pr_onlyPushes_20 : decode b_pr_onlyPushes 20 = .ok (.ireturn, 1) := by decide +kernel
theorem d_pr_pushTemporary_0 : decode b_pr_pushTemporary 0 = .ok (.iload_n 2, 1) := by decide +kernel
theorem d_pr_pushTemporary_1 : decode b_pr_pushTemporary 1 = .ok (.iconst 4, 1) := by decide +kernel
theorem d_pr_pushTemporary_2 : decode b_pr_pushTemporary 2 = .ok (.if_icmp .lt 5, 3) := by decide +kernel
theorem d_pr_pushTemporary_5 : decode b_pr_pushTemporary 5 = .ok (.iconst 3, 1) := by decide +kernel
theorem d_pr_pushTemporary_6 : decode b_pr_pushTemporary 6 = .ok (.ireturn, 1) := by decide +kernel
theorem d_pr_pushTemporary_7 : decode b_pr_pushTemporary 7 = .ok (.aload_n 0, 1) := by decide +kernel
theorem d_pr_pushTemporary_8 : decode b_pr_pushTemporary 8 = .ok (.getfield 15, 3) := by decide +kernel
theorem d_pr_pushTemporary_11 : decode b_pr_pushTemporary 11 = .ok (.iload_n 1, 1) := by decide +kernel
theorem d_pr_pushTemporary_12 : decode b_pr_pushTemporary 12 = .ok (.aload_n 0, 1) := by decide +kernel
theorem d_pr_pushTemporary_13 : decode b_pr_pushTemporary 13 = .ok (.getfield 15, 3) := by decide +kernel
theorem d_pr_pushTemporary_16 : decode b_pr_pushTemporary 16 = .ok (.iload_n 1, 1) := by decide +kernel
theorem d_pr_pushTemporary_17 : decode b_pr_pushTemporary 17 = .ok (.iconst 5, 1) := by decide +kernel
theorem d_pr_pushTemporary_18 : decode b_pr_pushTemporary 18 = .ok (.iload_n 2, 1) := by decide +kernel
theorem d_pr_pushTemporary_19 : decode b_pr_pushTemporary 19 = .ok (.iadd, 1) := by decide +kernel
theorem d_pr_pushTemporary_20 : decode b_pr_pushTemporary 20 = .ok (.invokevirtual 42, 3) := by decide +kernel
theorem d_pr_pushTemporary_23 : decode b_pr_pushTemporary 23 = .ok (.invokevirtual 104, 3) := by decide +kernel
theorem d_pr_pushTemporary_26 : decode b_pr_pushTemporary 26 = .ok (.iconst 0, 1) := by decide +kernel
theorem d_pr_pushTemporary_27 : decode b_pr_pushTemporary 27 = .ok (.ireturn, 1) := by decide +kernel
theorem d_pr_pushField_0 : decode b_pr_pushField 0 = .ok (.aload_n 0, 1) := by decide +kernel
theorem d_pr_pushField_1 : decode b_pr_pushField 1 = .ok (.getfield 15, 3) := by decide +kernel
theorem d_pr_pushField_4 : decode b_pr_pushField 4 = .ok (.iload_n 1, 1) := by decide +kernel
theorem d_pr_pushField_5 : decode b_pr_pushField 5 = .ok (.iconst 1, 1) := by decide +kernel
theorem d_pr_pushField_6 : decode b_pr_pushField 6 = .ok (.invokevirtual 42, 3) := by decide +kernel
theorem d_pr_pushField_9 : decode b_pr_pushField 9 = .ok (.istore_n 3, 1) := by decide +kernel
theorem d_pr_pushField_10 : decode b_pr_pushField 10 = .ok (.aload_n 0, 1) := by decide +kernel
theorem d_pr_pushField_11 : decode b_pr_pushField 11 = .ok (.getfield 15, 3) := by decide +kernel
theorem d_pr_pushField_14 : decode b_pr_pushField 14 = .ok (.iload_n 3, 1) := by decide +kernel
theorem d_pr_pushField_15 : decode b_pr_pushField 15 = .ok (.iload_n 2, 1) := by decide +kernel
theorem d_pr_pushField_16 : decode b_pr_pushField 16 = .ok (.invokevirtual 137, 3) := by decide +kernel
theorem d_pr_pushField_19 : decode b_pr_pushField 19 = .ok (.ifCond .eq 14, 3) := by decide +kernel
theorem d_pr_pushField_22 : decode b_pr_pushField 22 = .ok (.aload_n 0, 1) := by decide +kernel
theorem d_pr_pushField_23 : decode b_pr_pushField 23 = .ok (.getfield 15, 3) := by decide +kernel
theorem d_pr_pushField_26 : decode b_pr_pushField 26 = .ok (.iload_n 3, 1) := by decide +kernel
theorem d_pr_pushField_27 : decode b_pr_pushField 27 = .ok (.invokevirtual 140, 3) := by decide +kernel
theorem d_pr_pushField_30 : decode b_pr_pushField 30 = .ok (.ifCond .eq 5, 3) := by decide +kernel
theorem d_pr_pushField_33 : decode b_pr_pushField 33 = .ok (.iconst 3, 1) := by decide +kernel
theorem d_pr_pushField_34 : decode b_pr_pushField 34 = .ok (.ireturn, 1) := by decide +kernel
theorem d_pr_pushField_35 : decode b_pr_pushField 35 = .ok (.aload_n 0, 1) := by decide +kernel
theorem d_pr_pushField_36 : decode b_pr_pushField 36 = .ok (.getfield 15, 3) := by decide +kernel
theorem d_pr_pushField_39 : decode b_pr_pushField 39 = .ok (.iload_n 1, 1) := by decide +kernel
theorem d_pr_pushField_40 : decode b_pr_pushField 40 = .ok (.aload_n 0, 1) := by decide +kernel
theorem d_pr_pushField_41 : decode b_pr_pushField 41 = .ok (.getfield 15, 3) := by decide +kernel
theorem d_pr_pushField_44 : decode b_pr_pushField 44 = .ok (.iload_n 3, 1) := by decide +kernel
theorem d_pr_pushField_45 : decode b_pr_pushField 45 = .ok (.iload_n 2, 1) := by decide +kernel
theorem d_pr_pushField_46 : decode b_pr_pushField 46 = .ok (.invokevirtual 42, 3) := by decide +kernel
theorem d_pr_pushField_49 : decode b_pr_pushField 49 = .ok (.invokevirtual 104, 3) := by decide +kernel
theorem d_pr_pushField_52 : decode b_pr_pushField 52 = .ok (.iconst 0, 1) := by decide +kernel
theorem d_pr_pushField_53 : decode b_pr_pushField 53 = .ok (.ireturn, 1) := by decide +kernel
theorem d_pr_otherWord_0 : decode b_pr_otherWord 0 = .ok (.aload_n 0, 1) := by decide +kernel
theorem d_pr_otherWord_1 : decode b_pr_otherWord 1 = .ok (.getfield 15, 3) := by decide +kernel
theorem d_pr_otherWord_4 : decode b_pr_otherWord 4 = .ok (.iload_n 1, 1) := by decide +kernel
theorem d_pr_otherWord_5 : decode b_pr_otherWord 5 = .ok (.iconst 1, 1) := by decide +kernel
theorem d_pr_otherWord_6 : decode b_pr_otherWord 6 = .ok (.invokevirtual 42, 3) := by decide +kernel
theorem d_pr_otherWord_9 : decode b_pr_otherWord 9 = .ok (.istore_n 3, 1) := by decide +kernel
theorem d_pr_otherWord_10 : decode b_pr_otherWord 10 = .ok (.iload_n 2, 1) := by decide +kernel
theorem d_pr_otherWord_11 : decode b_pr_otherWord 11 = .ok (.ifCond .ne 5, 3) := by decide +kernel
theorem d_pr_otherWord_14 : decode b_pr_otherWord 14 = .ok (.iconst 0, 1) := by decide +kernel
theorem d_pr_otherWord_15 : decode b_pr_otherWord 15 = .ok (.ireturn, 1) := by decide +kernel
theorem d_pr_otherWord_16 : decode b_pr_otherWord 16 = .ok (.iload_n 2, 1) := by decide +kernel
theorem d_pr_otherWord_17 : decode b_pr_otherWord 17 = .ok (.bipush 7, 2) := by decide +kernel
theorem d_pr_otherWord_19 : decode b_pr_otherWord 19 = .ok (.if_icmp .gt 11, 3) := by decide +kernel
theorem d_pr_otherWord_22 : decode b_pr_otherWord 22 = .ok (.sipush 1000, 3) := by decide +kernel
theorem d_pr_otherWord_25 : decode b_pr_otherWord 25 = .ok (.iload_n 2, 1) := by decide +kernel
theorem d_pr_otherWord_26 : decode b_pr_otherWord 26 = .ok (.iadd, 1) := by decide +kernel
theorem d_pr_otherWord_27 : decode b_pr_otherWord 27 = .ok (.iconst 4, 1) := by decide +kernel
theorem d_pr_otherWord_28 : decode b_pr_otherWord 28 = .ok (.isub, 1) := by decide +kernel
theorem d_pr_otherWord_29 : decode b_pr_otherWord 29 = .ok (.ireturn, 1) := by decide +kernel
theorem d_pr_otherWord_30 : decode b_pr_otherWord 30 = .ok (.iload_n 2, 1) := by decide +kernel
theorem d_pr_otherWord_31 : decode b_pr_otherWord 31 = .ok (.bipush 8, 2) := by decide +kernel
theorem d_pr_otherWord_33 : decode b_pr_otherWord 33 = .ok (.if_icmp .ne 5, 3) := by decide +kernel
theorem d_pr_otherWord_36 : decode b_pr_otherWord 36 = .ok (.iload_n 3, 1) := by decide +kernel
theorem d_pr_otherWord_37 : decode b_pr_otherWord 37 = .ok (.ireturn, 1) := by decide +kernel
theorem d_pr_otherWord_38 : decode b_pr_otherWord 38 = .ok (.iload_n 2, 1) := by decide +kernel
theorem d_pr_otherWord_39 : decode b_pr_otherWord 39 = .ok (.bipush 9, 2) := by decide +kernel
theorem d_pr_otherWord_41 : decode b_pr_otherWord 41 = .ok (.if_icmp .ne 14, 3) := by decide +kernel
theorem d_pr_otherWord_44 : decode b_pr_otherWord 44 = .ok (.aload_n 0, 1) := by decide +kernel
theorem d_pr_otherWord_45 : decode b_pr_otherWord 45 = .ok (.getfield 15, 3) := by decide +kernel
theorem d_pr_otherWord_48 : decode b_pr_otherWord 48 = .ok (.iload_n 3, 1) := by decide +kernel
theorem d_pr_otherWord_49 : decode b_pr_otherWord 49 = .ok (.invokevirtual 46, 3) := by decide +kernel
theorem d_pr_otherWord_52 : decode b_pr_otherWord 52 = .ok (.goto 14, 3) := by decide +kernel
theorem d_pr_otherWord_55 : decode b_pr_otherWord 55 = .ok (.aload_n 0, 1) := by decide +kernel
theorem d_pr_otherWord_56 : decode b_pr_otherWord 56 = .ok (.getfield 15, 3) := by decide +kernel
theorem d_pr_otherWord_59 : decode b_pr_otherWord 59 = .ok (.iload_n 2, 1) := by decide +kernel
theorem d_pr_otherWord_60 : decode b_pr_otherWord 60 = .ok (.bipush 10, 2) := by decide +kernel
theorem d_pr_otherWord_62 : decode b_pr_otherWord 62 = .ok (.isub, 1) := by decide +kernel
theorem d_pr_otherWord_63 : decode b_pr_otherWord 63 = .ok (.invokevirtual 23, 3) := by decide +kernel
theorem d_pr_otherWord_66 : decode b_pr_otherWord 66 = .ok (.ireturn, 1) := by decide +kernel
theorem d_pr_popTemporary_0 : decode b_pr_popTemporary 0 = .ok (.iload_n 2, 1) := by decide +kernel
theorem d_pr_popTemporary_1 : decode b_pr_popTemporary 1 = .ok (.iconst 4, 1) := by decide +kernel
theorem d_pr_popTemporary_2 : decode b_pr_popTemporary 2 = .ok (.if_icmp .lt 5, 3) := by decide +kernel
theorem d_pr_popTemporary_5 : decode b_pr_popTemporary 5 = .ok (.iconst 3, 1) := by decide +kernel
theorem d_pr_popTemporary_6 : decode b_pr_popTemporary 6 = .ok (.ireturn, 1) := by decide +kernel
theorem d_pr_popTemporary_7 : decode b_pr_popTemporary 7 = .ok (.aload_n 0, 1) := by decide +kernel
theorem d_pr_popTemporary_8 : decode b_pr_popTemporary 8 = .ok (.getfield 15, 3) := by decide +kernel
theorem d_pr_popTemporary_11 : decode b_pr_popTemporary 11 = .ok (.iload_n 1, 1) := by decide +kernel
theorem d_pr_popTemporary_12 : decode b_pr_popTemporary 12 = .ok (.iconst 5, 1) := by decide +kernel
theorem d_pr_popTemporary_13 : decode b_pr_popTemporary 13 = .ok (.iload_n 2, 1) := by decide +kernel
theorem d_pr_popTemporary_14 : decode b_pr_popTemporary 14 = .ok (.iadd, 1) := by decide +kernel
theorem d_pr_popTemporary_15 : decode b_pr_popTemporary 15 = .ok (.aload_n 0, 1) := by decide +kernel
theorem d_pr_popTemporary_16 : decode b_pr_popTemporary 16 = .ok (.getfield 15, 3) := by decide +kernel
theorem d_pr_popTemporary_19 : decode b_pr_popTemporary 19 = .ok (.iload_n 1, 1) := by decide +kernel
theorem d_pr_popTemporary_20 : decode b_pr_popTemporary 20 = .ok (.invokevirtual 143, 3) := by decide +kernel
theorem d_pr_popTemporary_23 : decode b_pr_popTemporary 23 = .ok (.invokevirtual 59, 3) := by decide +kernel
theorem d_pr_popTemporary_26 : decode b_pr_popTemporary 26 = .ok (.iconst 0, 1) := by decide +kernel
theorem d_pr_popTemporary_27 : decode b_pr_popTemporary 27 = .ok (.ireturn, 1) := by decide +kernel
theorem d_pr_popField_0 : decode b_pr_popField 0 = .ok (.aload_n 0, 1) := by decide +kernel
theorem d_pr_popField_1 : decode b_pr_popField 1 = .ok (.getfield 15, 3) := by decide +kernel
theorem d_pr_popField_4 : decode b_pr_popField 4 = .ok (.iload_n 1, 1) := by decide +kernel
theorem d_pr_popField_5 : decode b_pr_popField 5 = .ok (.iconst 1, 1) := by decide +kernel
theorem d_pr_popField_6 : decode b_pr_popField 6 = .ok (.invokevirtual 42, 3) := by decide +kernel
theorem d_pr_popField_9 : decode b_pr_popField 9 = .ok (.istore_n 3, 1) := by decide +kernel
theorem d_pr_popField_10 : decode b_pr_popField 10 = .ok (.aload_n 0, 1) := by decide +kernel
theorem d_pr_popField_11 : decode b_pr_popField 11 = .ok (.getfield 15, 3) := by decide +kernel
theorem d_pr_popField_14 : decode b_pr_popField 14 = .ok (.iload_n 3, 1) := by decide +kernel
theorem d_pr_popField_15 : decode b_pr_popField 15 = .ok (.iload_n 2, 1) := by decide +kernel
theorem d_pr_popField_16 : decode b_pr_popField 16 = .ok (.invokevirtual 146, 3) := by decide +kernel
theorem d_pr_popField_19 : decode b_pr_popField 19 = .ok (.ifCond .ne 5, 3) := by decide +kernel
theorem d_pr_popField_22 : decode b_pr_popField 22 = .ok (.iconst 3, 1) := by decide +kernel
theorem d_pr_popField_23 : decode b_pr_popField 23 = .ok (.ireturn, 1) := by decide +kernel
theorem d_pr_popField_24 : decode b_pr_popField 24 = .ok (.aload_n 0, 1) := by decide +kernel
theorem d_pr_popField_25 : decode b_pr_popField 25 = .ok (.getfield 15, 3) := by decide +kernel
theorem d_pr_popField_28 : decode b_pr_popField 28 = .ok (.iload_n 3, 1) := by decide +kernel
theorem d_pr_popField_29 : decode b_pr_popField 29 = .ok (.iload_n 2, 1) := by decide +kernel
theorem d_pr_popField_30 : decode b_pr_popField 30 = .ok (.aload_n 0, 1) := by decide +kernel
theorem d_pr_popField_31 : decode b_pr_popField 31 = .ok (.getfield 15, 3) := by decide +kernel
theorem d_pr_popField_34 : decode b_pr_popField 34 = .ok (.iload_n 1, 1) := by decide +kernel
theorem d_pr_popField_35 : decode b_pr_popField 35 = .ok (.invokevirtual 143, 3) := by decide +kernel
theorem d_pr_popField_38 : decode b_pr_popField 38 = .ok (.invokevirtual 59, 3) := by decide +kernel
theorem d_pr_popField_41 : decode b_pr_popField 41 = .ok (.iconst 0, 1) := by decide +kernel
theorem d_pr_popField_42 : decode b_pr_popField 42 = .ok (.ireturn, 1) := by decide +kernel
theorem d_pr_sendOn_0 : decode b_pr_sendOn 0 = .ok (.iload_n 3, 1) := by decide +kernel
theorem d_pr_sendOn_1 : decode b_pr_sendOn 1 = .ok (.invokestatic 149, 3) := by decide +kernel
theorem d_pr_sendOn_4 : decode b_pr_sendOn 4 = .ok (.ifCond .ne 5, 3) := by decide +kernel
theorem d_pr_sendOn_7 : decode b_pr_sendOn 7 = .ok (.iconst 3, 1) := by decide +kernel
theorem d_pr_sendOn_8 : decode b_pr_sendOn 8 = .ok (.ireturn, 1) := by decide +kernel
theorem d_pr_sendOn_9 : decode b_pr_sendOn 9 = .ok (.iload_n 3, 1) := by decide +kernel
theorem d_pr_sendOn_10 : decode b_pr_sendOn 10 = .ok (.invokestatic 56, 3) := by decide +kernel
theorem d_pr_sendOn_13 : decode b_pr_sendOn 13 = .ok (.istore 4, 2) := by decide +kernel
theorem d_pr_sendOn_15 : decode b_pr_sendOn 15 = .ok (.aload_n 0, 1) := by decide +kernel
theorem d_pr_sendOn_16 : decode b_pr_sendOn 16 = .ok (.getfield 15, 3) := by decide +kernel
theorem d_pr_sendOn_19 : decode b_pr_sendOn 19 = .ok (.iload_n 1, 1) := by decide +kernel
theorem d_pr_sendOn_20 : decode b_pr_sendOn 20 = .ok (.iload 4, 2) := by decide +kernel
theorem d_pr_sendOn_22 : decode b_pr_sendOn 22 = .ok (.invokevirtual 152, 3) := by decide +kernel
theorem d_pr_sendOn_25 : decode b_pr_sendOn 25 = .ok (.istore 5, 2) := by decide +kernel
theorem d_pr_sendOn_27 : decode b_pr_sendOn 27 = .ok (.iload_n 2, 1) := by decide +kernel
theorem d_pr_sendOn_28 : decode b_pr_sendOn 28 = .ok (.iconst 5, 1) := by decide +kernel
theorem d_pr_sendOn_29 : decode b_pr_sendOn 29 = .ok (.if_icmp .ne 15, 3) := by decide +kernel
theorem d_pr_sendOn_32 : decode b_pr_sendOn 32 = .ok (.aload_n 0, 1) := by decide +kernel
theorem d_pr_sendOn_33 : decode b_pr_sendOn 33 = .ok (.getfield 15, 3) := by decide +kernel
theorem d_pr_sendOn_36 : decode b_pr_sendOn 36 = .ok (.iload 5, 2) := by decide +kernel
theorem d_pr_sendOn_38 : decode b_pr_sendOn 38 = .ok (.invokevirtual 46, 3) := by decide +kernel
theorem d_pr_sendOn_41 : decode b_pr_sendOn 41 = .ok (.goto 20, 3) := by decide +kernel
theorem d_pr_sendOn_44 : decode b_pr_sendOn 44 = .ok (.aload_n 0, 1) := by decide +kernel
theorem d_pr_sendOn_45 : decode b_pr_sendOn 45 = .ok (.getfield 15, 3) := by decide +kernel
theorem d_pr_sendOn_48 : decode b_pr_sendOn 48 = .ok (.aload_n 0, 1) := by decide +kernel
theorem d_pr_sendOn_49 : decode b_pr_sendOn 49 = .ok (.getfield 15, 3) := by decide +kernel
theorem d_pr_sendOn_52 : decode b_pr_sendOn 52 = .ok (.iload_n 1, 1) := by decide +kernel
theorem d_pr_sendOn_53 : decode b_pr_sendOn 53 = .ok (.iconst 2, 1) := by decide +kernel
theorem d_pr_sendOn_54 : decode b_pr_sendOn 54 = .ok (.invokevirtual 42, 3) := by decide +kernel
theorem d_pr_sendOn_57 : decode b_pr_sendOn 57 = .ok (.iconst 0, 1) := by decide +kernel
theorem d_pr_sendOn_58 : decode b_pr_sendOn 58 = .ok (.invokevirtual 42, 3) := by decide +kernel
theorem d_pr_sendOn_61 : decode b_pr_sendOn 61 = .ok (.istore 6, 2) := by decide +kernel
theorem d_pr_sendOn_63 : decode b_pr_sendOn 63 = .ok (.aload_n 0, 1) := by decide +kernel
theorem d_pr_sendOn_64 : decode b_pr_sendOn 64 = .ok (.iload 6, 2) := by decide +kernel
theorem d_pr_sendOn_66 : decode b_pr_sendOn 66 = .ok (.iload_n 3, 1) := by decide +kernel
theorem d_pr_sendOn_67 : decode b_pr_sendOn 67 = .ok (.invokevirtual 49, 3) := by decide +kernel
theorem d_pr_sendOn_70 : decode b_pr_sendOn 70 = .ok (.istore 7, 2) := by decide +kernel
theorem d_pr_sendOn_72 : decode b_pr_sendOn 72 = .ok (.iload 7, 2) := by decide +kernel
theorem d_pr_sendOn_74 : decode b_pr_sendOn 74 = .ok (.ifCond .ne 5, 3) := by decide +kernel
theorem d_pr_sendOn_77 : decode b_pr_sendOn 77 = .ok (.iconst 2, 1) := by decide +kernel
theorem d_pr_sendOn_78 : decode b_pr_sendOn 78 = .ok (.ireturn, 1) := by decide +kernel
theorem d_pr_sendOn_79 : decode b_pr_sendOn 79 = .ok (.aload_n 0, 1) := by decide +kernel
theorem d_pr_sendOn_80 : decode b_pr_sendOn 80 = .ok (.getfield 15, 3) := by decide +kernel
theorem d_pr_sendOn_83 : decode b_pr_sendOn 83 = .ok (.iload 5, 2) := by decide +kernel
theorem d_pr_sendOn_85 : decode b_pr_sendOn 85 = .ok (.iload 7, 2) := by decide +kernel
theorem d_pr_sendOn_87 : decode b_pr_sendOn 87 = .ok (.iload_n 3, 1) := by decide +kernel
theorem d_pr_sendOn_88 : decode b_pr_sendOn 88 = .ok (.invokevirtual 52, 3) := by decide +kernel
theorem d_pr_sendOn_91 : decode b_pr_sendOn 91 = .ok (.istore 8, 2) := by decide +kernel
theorem d_pr_sendOn_93 : decode b_pr_sendOn 93 = .ok (.iload 8, 2) := by decide +kernel
theorem d_pr_sendOn_95 : decode b_pr_sendOn 95 = .ok (.iconst (-1), 1) := by decide +kernel
theorem d_pr_sendOn_96 : decode b_pr_sendOn 96 = .ok (.if_icmp .ne 5, 3) := by decide +kernel
theorem d_pr_sendOn_99 : decode b_pr_sendOn 99 = .ok (.iconst 4, 1) := by decide +kernel
theorem d_pr_sendOn_100 : decode b_pr_sendOn 100 = .ok (.ireturn, 1) := by decide +kernel
theorem d_pr_sendOn_101 : decode b_pr_sendOn 101 = .ok (.iconst 0, 1) := by decide +kernel
theorem d_pr_sendOn_102 : decode b_pr_sendOn 102 = .ok (.istore 9, 2) := by decide +kernel
theorem d_pr_sendOn_104 : decode b_pr_sendOn 104 = .ok (.iload 9, 2) := by decide +kernel
theorem d_pr_sendOn_106 : decode b_pr_sendOn 106 = .ok (.iload 4, 2) := by decide +kernel
theorem d_pr_sendOn_108 : decode b_pr_sendOn 108 = .ok (.if_icmp .ge 37, 3) := by decide +kernel
theorem d_pr_sendOn_111 : decode b_pr_sendOn 111 = .ok (.aload_n 0, 1) := by decide +kernel
theorem d_pr_sendOn_112 : decode b_pr_sendOn 112 = .ok (.getfield 15, 3) := by decide +kernel
theorem d_pr_sendOn_115 : decode b_pr_sendOn 115 = .ok (.iload 8, 2) := by decide +kernel
theorem d_pr_sendOn_117 : decode b_pr_sendOn 117 = .ok (.iconst 5, 1) := by decide +kernel
theorem d_pr_sendOn_118 : decode b_pr_sendOn 118 = .ok (.iload 9, 2) := by decide +kernel
theorem d_pr_sendOn_120 : decode b_pr_sendOn 120 = .ok (.iadd, 1) := by decide +kernel
theorem d_pr_sendOn_121 : decode b_pr_sendOn 121 = .ok (.aload_n 0, 1) := by decide +kernel
theorem d_pr_sendOn_122 : decode b_pr_sendOn 122 = .ok (.getfield 15, 3) := by decide +kernel
theorem d_pr_sendOn_125 : decode b_pr_sendOn 125 = .ok (.iload_n 1, 1) := by decide +kernel
theorem d_pr_sendOn_126 : decode b_pr_sendOn 126 = .ok (.iload 4, 2) := by decide +kernel
theorem d_pr_sendOn_128 : decode b_pr_sendOn 128 = .ok (.iconst 1, 1) := by decide +kernel
theorem d_pr_sendOn_129 : decode b_pr_sendOn 129 = .ok (.isub, 1) := by decide +kernel
theorem d_pr_sendOn_130 : decode b_pr_sendOn 130 = .ok (.iload 9, 2) := by decide +kernel
theorem d_pr_sendOn_132 : decode b_pr_sendOn 132 = .ok (.isub, 1) := by decide +kernel
theorem d_pr_sendOn_133 : decode b_pr_sendOn 133 = .ok (.invokevirtual 152, 3) := by decide +kernel
theorem d_pr_sendOn_136 : decode b_pr_sendOn 136 = .ok (.invokevirtual 59, 3) := by decide +kernel
theorem d_pr_sendOn_139 : decode b_pr_sendOn 139 = .ok (.iinc 9 1, 3) := by decide +kernel
theorem d_pr_sendOn_142 : decode b_pr_sendOn 142 = .ok (.goto (-38), 3) := by decide +kernel
theorem d_pr_sendOn_145 : decode b_pr_sendOn 145 = .ok (.aload_n 0, 1) := by decide +kernel
theorem d_pr_sendOn_146 : decode b_pr_sendOn 146 = .ok (.getfield 15, 3) := by decide +kernel
theorem d_pr_sendOn_149 : decode b_pr_sendOn 149 = .ok (.iload 8, 2) := by decide +kernel
theorem d_pr_sendOn_151 : decode b_pr_sendOn 151 = .ok (.iconst 0, 1) := by decide +kernel
theorem d_pr_sendOn_152 : decode b_pr_sendOn 152 = .ok (.iload_n 1, 1) := by decide +kernel
theorem d_pr_sendOn_153 : decode b_pr_sendOn 153 = .ok (.invokevirtual 59, 3) := by decide +kernel
theorem d_pr_sendOn_156 : decode b_pr_sendOn 156 = .ok (.aload_n 0, 1) := by decide +kernel
theorem d_pr_sendOn_157 : decode b_pr_sendOn 157 = .ok (.getfield 15, 3) := by decide +kernel
theorem d_pr_sendOn_160 : decode b_pr_sendOn 160 = .ok (.iload_n 1, 1) := by decide +kernel
theorem d_pr_sendOn_161 : decode b_pr_sendOn 161 = .ok (.aload_n 0, 1) := by decide +kernel
theorem d_pr_sendOn_162 : decode b_pr_sendOn 162 = .ok (.getfield 15, 3) := by decide +kernel
theorem d_pr_sendOn_165 : decode b_pr_sendOn 165 = .ok (.iload_n 1, 1) := by decide +kernel
theorem d_pr_sendOn_166 : decode b_pr_sendOn 166 = .ok (.invokevirtual 86, 3) := by decide +kernel
theorem d_pr_sendOn_169 : decode b_pr_sendOn 169 = .ok (.iload 4, 2) := by decide +kernel
theorem d_pr_sendOn_171 : decode b_pr_sendOn 171 = .ok (.isub, 1) := by decide +kernel
theorem d_pr_sendOn_172 : decode b_pr_sendOn 172 = .ok (.iconst 1, 1) := by decide +kernel
theorem d_pr_sendOn_173 : decode b_pr_sendOn 173 = .ok (.isub, 1) := by decide +kernel
theorem d_pr_sendOn_174 : decode b_pr_sendOn 174 = .ok (.invokevirtual 155, 3) := by decide +kernel
theorem d_pr_sendOn_177 : decode b_pr_sendOn 177 = .ok (.aload_n 0, 1) := by decide +kernel
theorem d_pr_sendOn_178 : decode b_pr_sendOn 178 = .ok (.getfield 15, 3) := by decide +kernel
theorem d_pr_sendOn_181 : decode b_pr_sendOn 181 = .ok (.bipush 6, 2) := by decide +kernel
theorem d_pr_sendOn_183 : decode b_pr_sendOn 183 = .ok (.iload 8, 2) := by decide +kernel
theorem d_pr_sendOn_185 : decode b_pr_sendOn 185 = .ok (.invokevirtual 29, 3) := by decide +kernel
theorem d_pr_sendOn_188 : decode b_pr_sendOn 188 = .ok (.iconst 0, 1) := by decide +kernel
theorem d_pr_sendOn_189 : decode b_pr_sendOn 189 = .ok (.ireturn, 1) := by decide +kernel
theorem d_pr_calculate_0 : decode b_pr_calculate 0 = .ok (.aload_n 0, 1) := by decide +kernel
theorem d_pr_calculate_1 : decode b_pr_calculate 1 = .ok (.getfield 15, 3) := by decide +kernel
theorem d_pr_calculate_4 : decode b_pr_calculate 4 = .ok (.iload_n 1, 1) := by decide +kernel
theorem d_pr_calculate_5 : decode b_pr_calculate 5 = .ok (.iconst 0, 1) := by decide +kernel
theorem d_pr_calculate_6 : decode b_pr_calculate 6 = .ok (.invokevirtual 152, 3) := by decide +kernel
theorem d_pr_calculate_9 : decode b_pr_calculate 9 = .ok (.istore_n 3, 1) := by decide +kernel
theorem d_pr_calculate_10 : decode b_pr_calculate 10 = .ok (.aload_n 0, 1) := by decide +kernel
theorem d_pr_calculate_11 : decode b_pr_calculate 11 = .ok (.getfield 15, 3) := by decide +kernel
theorem d_pr_calculate_14 : decode b_pr_calculate 14 = .ok (.iload_n 1, 1) := by decide +kernel
theorem d_pr_calculate_15 : decode b_pr_calculate 15 = .ok (.iconst 1, 1) := by decide +kernel
theorem d_pr_calculate_16 : decode b_pr_calculate 16 = .ok (.invokevirtual 152, 3) := by decide +kernel
theorem d_pr_calculate_19 : decode b_pr_calculate 19 = .ok (.istore 4, 2) := by decide +kernel
theorem d_pr_calculate_21 : decode b_pr_calculate 21 = .ok (.iload_n 2, 1) := by decide +kernel
theorem d_pr_calculate_22 : decode b_pr_calculate 22 = .ok (.iconst 4, 1) := by decide +kernel
theorem d_pr_calculate_23 : decode b_pr_calculate 23 = .ok (.if_icmp .gt 23, 3) := by decide +kernel
