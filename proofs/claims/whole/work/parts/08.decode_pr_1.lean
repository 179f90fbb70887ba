theorem d_pr_calculate_26 : decode b_pr_calculate 26 = .ok (.iload_n 2, 1) := by decide +kernel
theorem d_pr_calculate_27 : decode b_pr_calculate 27 = .ok (.iconst 4, 1) := by decide +kernel
theorem d_pr_calculate_28 : decode b_pr_calculate 28 = .ok (.if_icmp .eq 20, 3) := by decide +kernel
theorem d_pr_calculate_31 : decode b_pr_calculate 31 = .ok (.iload 4, 2) := by decide +kernel
theorem d_pr_calculate_33 : decode b_pr_calculate 33 = .ok (.invokestatic 158, 3) := by decide +kernel
theorem d_pr_calculate_36 : decode b_pr_calculate 36 = .ok (.ifCond .ne 10, 3) := by decide +kernel
theorem d_pr_calculate_39 : decode b_pr_calculate 39 = .ok (.iload_n 3, 1) := by decide +kernel
theorem d_pr_calculate_40 : decode b_pr_calculate 40 = .ok (.invokestatic 158, 3) := by decide +kernel
theorem d_pr_calculate_43 : decode b_pr_calculate 43 = .ok (.ifCond .eq 5, 3) := by decide +kernel
theorem d_pr_calculate_46 : decode b_pr_calculate 46 = .ok (.iconst 3, 1) := by decide +kernel
theorem d_pr_calculate_47 : decode b_pr_calculate 47 = .ok (.ireturn, 1) := by decide +kernel
theorem d_pr_calculate_48 : decode b_pr_calculate 48 = .ok (.iload_n 2, 1) := by decide +kernel
theorem d_pr_calculate_49 : decode b_pr_calculate 49 = .ok (.iload 4, 2) := by decide +kernel
theorem d_pr_calculate_51 : decode b_pr_calculate 51 = .ok (.iload_n 3, 1) := by decide +kernel
theorem d_pr_calculate_52 : decode b_pr_calculate 52 = .ok (.invokestatic 161, 3) := by decide +kernel
theorem d_pr_calculate_55 : decode b_pr_calculate 55 = .ok (.istore 5, 2) := by decide +kernel
theorem d_pr_calculate_57 : decode b_pr_calculate 57 = .ok (.iload 5, 2) := by decide +kernel
theorem d_pr_calculate_59 : decode b_pr_calculate 59 = .ok (.iconst (-1), 1) := by decide +kernel
theorem d_pr_calculate_60 : decode b_pr_calculate 60 = .ok (.if_icmp .ne 5, 3) := by decide +kernel
theorem d_pr_calculate_63 : decode b_pr_calculate 63 = .ok (.iconst 5, 1) := by decide +kernel
theorem d_pr_calculate_64 : decode b_pr_calculate 64 = .ok (.ireturn, 1) := by decide +kernel
theorem d_pr_calculate_65 : decode b_pr_calculate 65 = .ok (.aload_n 0, 1) := by decide +kernel
theorem d_pr_calculate_66 : decode b_pr_calculate 66 = .ok (.getfield 15, 3) := by decide +kernel
theorem d_pr_calculate_69 : decode b_pr_calculate 69 = .ok (.iload_n 1, 1) := by decide +kernel
theorem d_pr_calculate_70 : decode b_pr_calculate 70 = .ok (.aload_n 0, 1) := by decide +kernel
theorem d_pr_calculate_71 : decode b_pr_calculate 71 = .ok (.getfield 15, 3) := by decide +kernel
theorem d_pr_calculate_74 : decode b_pr_calculate 74 = .ok (.iload_n 1, 1) := by decide +kernel
theorem d_pr_calculate_75 : decode b_pr_calculate 75 = .ok (.invokevirtual 86, 3) := by decide +kernel
theorem d_pr_calculate_78 : decode b_pr_calculate 78 = .ok (.iconst 2, 1) := by decide +kernel
theorem d_pr_calculate_79 : decode b_pr_calculate 79 = .ok (.isub, 1) := by decide +kernel
theorem d_pr_calculate_80 : decode b_pr_calculate 80 = .ok (.invokevirtual 155, 3) := by decide +kernel
theorem d_pr_calculate_83 : decode b_pr_calculate 83 = .ok (.aload_n 0, 1) := by decide +kernel
theorem d_pr_calculate_84 : decode b_pr_calculate 84 = .ok (.getfield 15, 3) := by decide +kernel
theorem d_pr_calculate_87 : decode b_pr_calculate 87 = .ok (.iload_n 1, 1) := by decide +kernel
theorem d_pr_calculate_88 : decode b_pr_calculate 88 = .ok (.iload 5, 2) := by decide +kernel
theorem d_pr_calculate_90 : decode b_pr_calculate 90 = .ok (.invokevirtual 104, 3) := by decide +kernel
theorem d_pr_calculate_93 : decode b_pr_calculate 93 = .ok (.iconst 0, 1) := by decide +kernel
theorem d_pr_calculate_94 : decode b_pr_calculate 94 = .ok (.ireturn, 1) := by decide +kernel
theorem d_pr_resultOf_0 : decode b_pr_resultOf 0 = .ok (.iload_n 0, 1) := by decide +kernel
theorem d_pr_resultOf_1 : decode b_pr_resultOf 1 = .ok (.tableswitch 82 0 3 #[31, 46, 53, 68], 31) := by decide +kernel
theorem d_pr_resultOf_32 : decode b_pr_resultOf 32 = .ok (.iload_n 1, 1) := by decide +kernel
theorem d_pr_resultOf_33 : decode b_pr_resultOf 33 = .ok (.sipush 1000, 3) := by decide +kernel
theorem d_pr_resultOf_36 : decode b_pr_resultOf 36 = .ok (.isub, 1) := by decide +kernel
theorem d_pr_resultOf_37 : decode b_pr_resultOf 37 = .ok (.iload_n 2, 1) := by decide +kernel
theorem d_pr_resultOf_38 : decode b_pr_resultOf 38 = .ok (.sipush 1000, 3) := by decide +kernel
theorem d_pr_resultOf_41 : decode b_pr_resultOf 41 = .ok (.isub, 1) := by decide +kernel
theorem d_pr_resultOf_42 : decode b_pr_resultOf 42 = .ok (.iadd, 1) := by decide +kernel
theorem d_pr_resultOf_43 : decode b_pr_resultOf 43 = .ok (.invokestatic 164, 3) := by decide +kernel
theorem d_pr_resultOf_46 : decode b_pr_resultOf 46 = .ok (.ireturn, 1) := by decide +kernel
theorem d_pr_resultOf_47 : decode b_pr_resultOf 47 = .ok (.iload_n 1, 1) := by decide +kernel
theorem d_pr_resultOf_48 : decode b_pr_resultOf 48 = .ok (.iload_n 2, 1) := by decide +kernel
theorem d_pr_resultOf_49 : decode b_pr_resultOf 49 = .ok (.isub, 1) := by decide +kernel
theorem d_pr_resultOf_50 : decode b_pr_resultOf 50 = .ok (.invokestatic 164, 3) := by decide +kernel
theorem d_pr_resultOf_53 : decode b_pr_resultOf 53 = .ok (.ireturn, 1) := by decide +kernel
theorem d_pr_resultOf_54 : decode b_pr_resultOf 54 = .ok (.iload_n 1, 1) := by decide +kernel
theorem d_pr_resultOf_55 : decode b_pr_resultOf 55 = .ok (.sipush 1000, 3) := by decide +kernel
theorem d_pr_resultOf_58 : decode b_pr_resultOf 58 = .ok (.isub, 1) := by decide +kernel
theorem d_pr_resultOf_59 : decode b_pr_resultOf 59 = .ok (.iload_n 2, 1) := by decide +kernel
theorem d_pr_resultOf_60 : decode b_pr_resultOf 60 = .ok (.sipush 1000, 3) := by decide +kernel
theorem d_pr_resultOf_63 : decode b_pr_resultOf 63 = .ok (.isub, 1) := by decide +kernel
theorem d_pr_resultOf_64 : decode b_pr_resultOf 64 = .ok (.imul, 1) := by decide +kernel
theorem d_pr_resultOf_65 : decode b_pr_resultOf 65 = .ok (.invokestatic 164, 3) := by decide +kernel
theorem d_pr_resultOf_68 : decode b_pr_resultOf 68 = .ok (.ireturn, 1) := by decide +kernel
theorem d_pr_resultOf_69 : decode b_pr_resultOf 69 = .ok (.iload_n 1, 1) := by decide +kernel
theorem d_pr_resultOf_70 : decode b_pr_resultOf 70 = .ok (.iload_n 2, 1) := by decide +kernel
theorem d_pr_resultOf_71 : decode b_pr_resultOf 71 = .ok (.if_icmp .ge 7, 3) := by decide +kernel
theorem d_pr_resultOf_74 : decode b_pr_resultOf 74 = .ok (.iconst 1, 1) := by decide +kernel
theorem d_pr_resultOf_75 : decode b_pr_resultOf 75 = .ok (.goto 4, 3) := by decide +kernel
theorem d_pr_resultOf_78 : decode b_pr_resultOf 78 = .ok (.iconst 0, 1) := by decide +kernel
theorem d_pr_resultOf_79 : decode b_pr_resultOf 79 = .ok (.invokestatic 167, 3) := by decide +kernel
theorem d_pr_resultOf_82 : decode b_pr_resultOf 82 = .ok (.ireturn, 1) := by decide +kernel
theorem d_pr_resultOf_83 : decode b_pr_resultOf 83 = .ok (.iload_n 1, 1) := by decide +kernel
theorem d_pr_resultOf_84 : decode b_pr_resultOf 84 = .ok (.iload_n 2, 1) := by decide +kernel
theorem d_pr_resultOf_85 : decode b_pr_resultOf 85 = .ok (.if_icmp .ne 7, 3) := by decide +kernel
theorem d_pr_resultOf_88 : decode b_pr_resultOf 88 = .ok (.iconst 1, 1) := by decide +kernel
theorem d_pr_resultOf_89 : decode b_pr_resultOf 89 = .ok (.goto 4, 3) := by decide +kernel
theorem d_pr_resultOf_92 : decode b_pr_resultOf 92 = .ok (.iconst 0, 1) := by decide +kernel
theorem d_pr_resultOf_93 : decode b_pr_resultOf 93 = .ok (.invokestatic 167, 3) := by decide +kernel
theorem d_pr_resultOf_96 : decode b_pr_resultOf 96 = .ok (.ireturn, 1) := by decide +kernel
theorem d_pr_numberWord_0 : decode b_pr_numberWord 0 = .ok (.iload_n 0, 1) := by decide +kernel
theorem d_pr_numberWord_1 : decode b_pr_numberWord 1 = .ok (.sipush (-512), 3) := by decide +kernel
theorem d_pr_numberWord_4 : decode b_pr_numberWord 4 = .ok (.if_icmp .lt 10, 3) := by decide +kernel
theorem d_pr_numberWord_7 : decode b_pr_numberWord 7 = .ok (.iload_n 0, 1) := by decide +kernel
theorem d_pr_numberWord_8 : decode b_pr_numberWord 8 = .ok (.sipush 511, 3) := by decide +kernel
theorem d_pr_numberWord_11 : decode b_pr_numberWord 11 = .ok (.if_icmp .le 7, 3) := by decide +kernel
theorem d_pr_numberWord_14 : decode b_pr_numberWord 14 = .ok (.iconst (-1), 1) := by decide +kernel
theorem d_pr_numberWord_15 : decode b_pr_numberWord 15 = .ok (.goto 8, 3) := by decide +kernel
theorem d_pr_numberWord_18 : decode b_pr_numberWord 18 = .ok (.sipush 1000, 3) := by decide +kernel
theorem d_pr_numberWord_21 : decode b_pr_numberWord 21 = .ok (.iload_n 0, 1) := by decide +kernel
theorem d_pr_numberWord_22 : decode b_pr_numberWord 22 = .ok (.iadd, 1) := by decide +kernel
theorem d_pr_numberWord_23 : decode b_pr_numberWord 23 = .ok (.ireturn, 1) := by decide +kernel
theorem d_pr_truth_0 : decode b_pr_truth 0 = .ok (.iload_n 0, 1) := by decide +kernel
theorem d_pr_truth_1 : decode b_pr_truth 1 = .ok (.ifCond .eq 9, 3) := by decide +kernel
theorem d_pr_truth_4 : decode b_pr_truth 4 = .ok (.sipush 1001, 3) := by decide +kernel
theorem d_pr_truth_7 : decode b_pr_truth 7 = .ok (.goto 4, 3) := by decide +kernel
theorem d_pr_truth_10 : decode b_pr_truth 10 = .ok (.iconst 0, 1) := by decide +kernel
theorem d_pr_truth_11 : decode b_pr_truth 11 = .ok (.ireturn, 1) := by decide +kernel
theorem d_pr_forward_0 : decode b_pr_forward 0 = .ok (.aload_n 0, 1) := by decide +kernel
theorem d_pr_forward_1 : decode b_pr_forward 1 = .ok (.iload_n 1, 1) := by decide +kernel
theorem d_pr_forward_2 : decode b_pr_forward 2 = .ok (.invokevirtual 63, 3) := by decide +kernel
theorem d_pr_forward_5 : decode b_pr_forward 5 = .ok (.iload_n 2, 1) := by decide +kernel
theorem d_pr_forward_6 : decode b_pr_forward 6 = .ok (.iadd, 1) := by decide +kernel
theorem d_pr_forward_7 : decode b_pr_forward 7 = .ok (.istore_n 3, 1) := by decide +kernel
theorem d_pr_forward_8 : decode b_pr_forward 8 = .ok (.iload_n 3, 1) := by decide +kernel
theorem d_pr_forward_9 : decode b_pr_forward 9 = .ok (.bipush 16, 2) := by decide +kernel
theorem d_pr_forward_11 : decode b_pr_forward 11 = .ok (.if_icmp .le 5, 3) := by decide +kernel
theorem d_pr_forward_14 : decode b_pr_forward 14 = .ok (.iconst 3, 1) := by decide +kernel
theorem d_pr_forward_15 : decode b_pr_forward 15 = .ok (.ireturn, 1) := by decide +kernel
theorem d_pr_forward_16 : decode b_pr_forward 16 = .ok (.aload_n 0, 1) := by decide +kernel
theorem d_pr_forward_17 : decode b_pr_forward 17 = .ok (.iload_n 1, 1) := by decide +kernel
theorem d_pr_forward_18 : decode b_pr_forward 18 = .ok (.iload_n 3, 1) := by decide +kernel
theorem d_pr_forward_19 : decode b_pr_forward 19 = .ok (.invokevirtual 77, 3) := by decide +kernel
theorem d_pr_forward_22 : decode b_pr_forward 22 = .ok (.iconst 0, 1) := by decide +kernel
theorem d_pr_forward_23 : decode b_pr_forward 23 = .ok (.ireturn, 1) := by decide +kernel
theorem d_pr_forwardIfNil_0 : decode b_pr_forwardIfNil 0 = .ok (.aload_n 0, 1) := by decide +kernel
theorem d_pr_forwardIfNil_1 : decode b_pr_forwardIfNil 1 = .ok (.iload_n 1, 1) := by decide +kernel
theorem d_pr_forwardIfNil_2 : decode b_pr_forwardIfNil 2 = .ok (.invokevirtual 63, 3) := by decide +kernel
theorem d_pr_forwardIfNil_5 : decode b_pr_forwardIfNil 5 = .ok (.aload_n 0, 1) := by decide +kernel
theorem d_pr_forwardIfNil_6 : decode b_pr_forwardIfNil 6 = .ok (.getfield 15, 3) := by decide +kernel
theorem d_pr_forwardIfNil_9 : decode b_pr_forwardIfNil 9 = .ok (.iload_n 1, 1) := by decide +kernel
theorem d_pr_forwardIfNil_10 : decode b_pr_forwardIfNil 10 = .ok (.iconst 0, 1) := by decide +kernel
theorem d_pr_forwardIfNil_11 : decode b_pr_forwardIfNil 11 = .ok (.invokevirtual 152, 3) := by decide +kernel
theorem d_pr_forwardIfNil_14 : decode b_pr_forwardIfNil 14 = .ok (.ifCond .ne 7, 3) := by decide +kernel
theorem d_pr_forwardIfNil_17 : decode b_pr_forwardIfNil 17 = .ok (.iload_n 2, 1) := by decide +kernel
theorem d_pr_forwardIfNil_18 : decode b_pr_forwardIfNil 18 = .ok (.goto 4, 3) := by decide +kernel
theorem d_pr_forwardIfNil_21 : decode b_pr_forwardIfNil 21 = .ok (.iconst 0, 1) := by decide +kernel
theorem d_pr_forwardIfNil_22 : decode b_pr_forwardIfNil 22 = .ok (.iadd, 1) := by decide +kernel
theorem d_pr_forwardIfNil_23 : decode b_pr_forwardIfNil 23 = .ok (.istore_n 3, 1) := by decide +kernel
theorem d_pr_forwardIfNil_24 : decode b_pr_forwardIfNil 24 = .ok (.iload_n 3, 1) := by decide +kernel
theorem d_pr_forwardIfNil_25 : decode b_pr_forwardIfNil 25 = .ok (.bipush 16, 2) := by decide +kernel
theorem d_pr_forwardIfNil_27 : decode b_pr_forwardIfNil 27 = .ok (.if_icmp .le 5, 3) := by decide +kernel
theorem d_pr_forwardIfNil_30 : decode b_pr_forwardIfNil 30 = .ok (.iconst 3, 1) := by decide +kernel
theorem d_pr_forwardIfNil_31 : decode b_pr_forwardIfNil 31 = .ok (.ireturn, 1) := by decide +kernel
theorem d_pr_forwardIfNil_32 : decode b_pr_forwardIfNil 32 = .ok (.aload_n 0, 1) := by decide +kernel
theorem d_pr_forwardIfNil_33 : decode b_pr_forwardIfNil 33 = .ok (.getfield 15, 3) := by decide +kernel
theorem d_pr_forwardIfNil_36 : decode b_pr_forwardIfNil 36 = .ok (.iload_n 1, 1) := by decide +kernel
theorem d_pr_forwardIfNil_37 : decode b_pr_forwardIfNil 37 = .ok (.invokevirtual 143, 3) := by decide +kernel
theorem d_pr_forwardIfNil_40 : decode b_pr_forwardIfNil 40 = .ok (.pop, 1) := by decide +kernel
theorem d_pr_forwardIfNil_41 : decode b_pr_forwardIfNil 41 = .ok (.aload_n 0, 1) := by decide +kernel
theorem d_pr_forwardIfNil_42 : decode b_pr_forwardIfNil 42 = .ok (.iload_n 1, 1) := by decide +kernel
theorem d_pr_forwardIfNil_43 : decode b_pr_forwardIfNil 43 = .ok (.iload_n 3, 1) := by decide +kernel
theorem d_pr_forwardIfNil_44 : decode b_pr_forwardIfNil 44 = .ok (.invokevirtual 77, 3) := by decide +kernel
theorem d_pr_forwardIfNil_47 : decode b_pr_forwardIfNil 47 = .ok (.iconst 0, 1) := by decide +kernel
theorem d_pr_forwardIfNil_48 : decode b_pr_forwardIfNil 48 = .ok (.ireturn, 1) := by decide +kernel
theorem d_pr_back_0 : decode b_pr_back 0 = .ok (.aload_n 0, 1) := by decide +kernel
theorem d_pr_back_1 : decode b_pr_back 1 = .ok (.iload_n 1, 1) := by decide +kernel
theorem d_pr_back_2 : decode b_pr_back 2 = .ok (.invokevirtual 63, 3) := by decide +kernel
theorem d_pr_back_5 : decode b_pr_back 5 = .ok (.iload_n 2, 1) := by decide +kernel
theorem d_pr_back_6 : decode b_pr_back 6 = .ok (.iconst 1, 1) := by decide +kernel
theorem d_pr_back_7 : decode b_pr_back 7 = .ok (.iadd, 1) := by decide +kernel
theorem d_pr_back_8 : decode b_pr_back 8 = .ok (.isub, 1) := by decide +kernel
theorem d_pr_back_9 : decode b_pr_back 9 = .ok (.istore_n 3, 1) := by decide +kernel
theorem d_pr_back_10 : decode b_pr_back 10 = .ok (.iload_n 3, 1) := by decide +kernel
theorem d_pr_back_11 : decode b_pr_back 11 = .ok (.ifCond .ge 5, 3) := by decide +kernel
theorem d_pr_back_14 : decode b_pr_back 14 = .ok (.iconst 3, 1) := by decide +kernel
theorem d_pr_back_15 : decode b_pr_back 15 = .ok (.ireturn, 1) := by decide +kernel
theorem d_pr_back_16 : decode b_pr_back 16 = .ok (.aload_n 0, 1) := by decide +kernel
theorem d_pr_back_17 : decode b_pr_back 17 = .ok (.iload_n 1, 1) := by decide +kernel
theorem d_pr_back_18 : decode b_pr_back 18 = .ok (.iload_n 3, 1) := by decide +kernel
theorem d_pr_back_19 : decode b_pr_back 19 = .ok (.invokevirtual 77, 3) := by decide +kernel
theorem d_pr_back_22 : decode b_pr_back 22 = .ok (.iconst 0, 1) := by decide +kernel
theorem d_pr_back_23 : decode b_pr_back 23 = .ok (.ireturn, 1) := by decide +kernel
theorem d_pr_giveAnswer_0 : decode b_pr_giveAnswer 0 = .ok (.iload_n 2, 1) := by decide +kernel
theorem d_pr_giveAnswer_1 : decode b_pr_giveAnswer 1 = .ok (.iconst 1, 1) := by decide +kernel
theorem d_pr_giveAnswer_2 : decode b_pr_giveAnswer 2 = .ok (.if_icmp .le 5, 3) := by decide +kernel
theorem d_pr_giveAnswer_5 : decode b_pr_giveAnswer 5 = .ok (.iconst 3, 1) := by decide +kernel
theorem d_pr_giveAnswer_6 : decode b_pr_giveAnswer 6 = .ok (.ireturn, 1) := by decide +kernel
theorem d_pr_giveAnswer_7 : decode b_pr_giveAnswer 7 = .ok (.iload_n 2, 1) := by decide +kernel
theorem d_pr_giveAnswer_8 : decode b_pr_giveAnswer 8 = .ok (.ifCond .ne 15, 3) := by decide +kernel
theorem d_pr_giveAnswer_11 : decode b_pr_giveAnswer 11 = .ok (.aload_n 0, 1) := by decide +kernel
theorem d_pr_giveAnswer_12 : decode b_pr_giveAnswer 12 = .ok (.getfield 15, 3) := by decide +kernel
theorem d_pr_giveAnswer_15 : decode b_pr_giveAnswer 15 = .ok (.iload_n 1, 1) := by decide +kernel
theorem d_pr_giveAnswer_16 : decode b_pr_giveAnswer 16 = .ok (.iconst 0, 1) := by decide +kernel
theorem d_pr_giveAnswer_17 : decode b_pr_giveAnswer 17 = .ok (.invokevirtual 152, 3) := by decide +kernel
theorem d_pr_giveAnswer_20 : decode b_pr_giveAnswer 20 = .ok (.goto 12, 3) := by decide +kernel
theorem d_pr_giveAnswer_23 : decode b_pr_giveAnswer 23 = .ok (.aload_n 0, 1) := by decide +kernel
theorem d_pr_giveAnswer_24 : decode b_pr_giveAnswer 24 = .ok (.getfield 15, 3) := by decide +kernel
theorem d_pr_giveAnswer_27 : decode b_pr_giveAnswer 27 = .ok (.iload_n 1, 1) := by decide +kernel
theorem d_pr_giveAnswer_28 : decode b_pr_giveAnswer 28 = .ok (.iconst 1, 1) := by decide +kernel
theorem d_pr_giveAnswer_29 : decode b_pr_giveAnswer 29 = .ok (.invokevirtual 42, 3) := by decide +kernel
theorem d_pr_giveAnswer_32 : decode b_pr_giveAnswer 32 = .ok (.istore_n 3, 1) := by decide +kernel
theorem d_pr_giveAnswer_33 : decode b_pr_giveAnswer 33 = .ok (.aload_n 0, 1) := by decide +kernel
theorem d_pr_giveAnswer_34 : decode b_pr_giveAnswer 34 = .ok (.getfield 15, 3) := by decide +kernel
theorem d_pr_giveAnswer_37 : decode b_pr_giveAnswer 37 = .ok (.iload_n 1, 1) := by decide +kernel
theorem d_pr_giveAnswer_38 : decode b_pr_giveAnswer 38 = .ok (.iconst 0, 1) := by decide +kernel
theorem d_pr_giveAnswer_39 : decode b_pr_giveAnswer 39 = .ok (.invokevirtual 42, 3) := by decide +kernel
theorem d_pr_giveAnswer_42 : decode b_pr_giveAnswer 42 = .ok (.istore 4, 2) := by decide +kernel
theorem d_pr_giveAnswer_44 : decode b_pr_giveAnswer 44 = .ok (.iload 4, 2) := by decide +kernel
theorem d_pr_giveAnswer_46 : decode b_pr_giveAnswer 46 = .ok (.ifCond .ne 15, 3) := by decide +kernel
theorem d_pr_giveAnswer_49 : decode b_pr_giveAnswer 49 = .ok (.aload_n 0, 1) := by decide +kernel
theorem d_pr_giveAnswer_50 : decode b_pr_giveAnswer 50 = .ok (.getfield 15, 3) := by decide +kernel
theorem d_pr_giveAnswer_53 : decode b_pr_giveAnswer 53 = .ok (.iconst 0, 1) := by decide +kernel
theorem d_pr_giveAnswer_54 : decode b_pr_giveAnswer 54 = .ok (.iload_n 3, 1) := by decide +kernel
theorem d_pr_giveAnswer_55 : decode b_pr_giveAnswer 55 = .ok (.invokevirtual 29, 3) := by decide +kernel
theorem d_pr_giveAnswer_58 : decode b_pr_giveAnswer 58 = .ok (.goto 13, 3) := by decide +kernel
theorem d_pr_giveAnswer_61 : decode b_pr_giveAnswer 61 = .ok (.aload_n 0, 1) := by decide +kernel
theorem d_pr_giveAnswer_62 : decode b_pr_giveAnswer 62 = .ok (.getfield 15, 3) := by decide +kernel
theorem d_pr_giveAnswer_65 : decode b_pr_giveAnswer 65 = .ok (.iload 4, 2) := by decide +kernel
theorem d_pr_giveAnswer_67 : decode b_pr_giveAnswer 67 = .ok (.iload_n 3, 1) := by decide +kernel
theorem d_pr_giveAnswer_68 : decode b_pr_giveAnswer 68 = .ok (.invokevirtual 104, 3) := by decide +kernel
theorem d_pr_giveAnswer_71 : decode b_pr_giveAnswer 71 = .ok (.aload_n 0, 1) := by decide +kernel
theorem d_pr_giveAnswer_72 : decode b_pr_giveAnswer 72 = .ok (.getfield 15, 3) := by decide +kernel
theorem d_pr_giveAnswer_75 : decode b_pr_giveAnswer 75 = .ok (.bipush 6, 2) := by decide +kernel
theorem d_pr_giveAnswer_77 : decode b_pr_giveAnswer 77 = .ok (.iload 4, 2) := by decide +kernel
theorem d_pr_giveAnswer_79 : decode b_pr_giveAnswer 79 = .ok (.invokevirtual 29, 3) := by decide +kernel
theorem d_pr_giveAnswer_82 : decode b_pr_giveAnswer 82 = .ok (.iconst 0, 1) := by decide +kernel
theorem d_pr_giveAnswer_83 : decode b_pr_giveAnswer 83 = .ok (.ireturn, 1) := by decide +kernel
theorem d_pr_instance_0 : decode b_pr_instance 0 = .ok (.iload_n 2, 1) := by decide +kernel
theorem d_pr_instance_1 : decode b_pr_instance 1 = .ok (.ifCond .eq 5, 3) := by decide +kernel
theorem d_pr_instance_4 : decode b_pr_instance 4 = .ok (.iconst 3, 1) := by decide +kernel
theorem d_pr_instance_5 : decode b_pr_instance 5 = .ok (.ireturn, 1) := by decide +kernel
theorem d_pr_instance_6 : decode b_pr_instance 6 = .ok (.aload_n 0, 1) := by decide +kernel
theorem d_pr_instance_7 : decode b_pr_instance 7 = .ok (.getfield 15, 3) := by decide +kernel
theorem d_pr_instance_10 : decode b_pr_instance 10 = .ok (.iload_n 1, 1) := by decide +kernel
theorem d_pr_instance_11 : decode b_pr_instance 11 = .ok (.iconst 0, 1) := by decide +kernel
theorem d_pr_instance_12 : decode b_pr_instance 12 = .ok (.invokevirtual 152, 3) := by decide +kernel
theorem d_pr_instance_15 : decode b_pr_instance 15 = .ok (.istore_n 3, 1) := by decide +kernel
theorem d_pr_instance_16 : decode b_pr_instance 16 = .ok (.aload_n 0, 1) := by decide +kernel
theorem d_pr_instance_17 : decode b_pr_instance 17 = .ok (.getfield 15, 3) := by decide +kernel
theorem d_pr_instance_20 : decode b_pr_instance 20 = .ok (.iload_n 3, 1) := by decide +kernel
theorem d_pr_instance_21 : decode b_pr_instance 21 = .ok (.invokevirtual 171, 3) := by decide +kernel
theorem d_pr_instance_24 : decode b_pr_instance 24 = .ok (.ifCond .eq 8, 3) := by decide +kernel
theorem d_pr_instance_27 : decode b_pr_instance 27 = .ok (.iload_n 3, 1) := by decide +kernel
theorem d_pr_instance_28 : decode b_pr_instance 28 = .ok (.iconst 3, 1) := by decide +kernel
theorem d_pr_instance_29 : decode b_pr_instance 29 = .ok (.if_icmp .ne 5, 3) := by decide +kernel
theorem d_pr_instance_32 : decode b_pr_instance 32 = .ok (.iconst 3, 1) := by decide +kernel
theorem d_pr_instance_33 : decode b_pr_instance 33 = .ok (.ireturn, 1) := by decide +kernel
theorem d_pr_instance_34 : decode b_pr_instance 34 = .ok (.aload_n 0, 1) := by decide +kernel
theorem d_pr_instance_35 : decode b_pr_instance 35 = .ok (.getfield 15, 3) := by decide +kernel
theorem d_pr_instance_38 : decode b_pr_instance 38 = .ok (.iload_n 3, 1) := by decide +kernel
theorem d_pr_instance_39 : decode b_pr_instance 39 = .ok (.invokevirtual 174, 3) := by decide +kernel
theorem d_pr_instance_42 : decode b_pr_instance 42 = .ok (.istore 4, 2) := by decide +kernel
theorem d_pr_instance_44 : decode b_pr_instance 44 = .ok (.iload 4, 2) := by decide +kernel
theorem d_pr_instance_46 : decode b_pr_instance 46 = .ok (.iconst (-1), 1) := by decide +kernel
theorem d_pr_instance_47 : decode b_pr_instance 47 = .ok (.if_icmp .ne 5, 3) := by decide +kernel
theorem d_pr_instance_50 : decode b_pr_instance 50 = .ok (.iconst 4, 1) := by decide +kernel
theorem d_pr_instance_51 : decode b_pr_instance 51 = .ok (.ireturn, 1) := by decide +kernel
theorem d_pr_instance_52 : decode b_pr_instance 52 = .ok (.aload_n 0, 1) := by decide +kernel
theorem d_pr_instance_53 : decode b_pr_instance 53 = .ok (.getfield 15, 3) := by decide +kernel
theorem d_pr_instance_56 : decode b_pr_instance 56 = .ok (.iload_n 1, 1) := by decide +kernel
theorem d_pr_instance_57 : decode b_pr_instance 57 = .ok (.invokevirtual 143, 3) := by decide +kernel
theorem d_pr_instance_60 : decode b_pr_instance 60 = .ok (.pop, 1) := by decide +kernel
theorem d_pr_instance_61 : decode b_pr_instance 61 = .ok (.aload_n 0, 1) := by decide +kernel
theorem d_pr_instance_62 : decode b_pr_instance 62 = .ok (.getfield 15, 3) := by decide +kernel
theorem d_pr_instance_65 : decode b_pr_instance 65 = .ok (.iload_n 1, 1) := by decide +kernel
theorem d_pr_instance_66 : decode b_pr_instance 66 = .ok (.iload 4, 2) := by decide +kernel
theorem d_pr_instance_68 : decode b_pr_instance 68 = .ok (.invokevirtual 104, 3) := by decide +kernel
theorem d_pr_instance_71 : decode b_pr_instance 71 = .ok (.iconst 0, 1) := by decide +kernel
theorem d_pr_instance_72 : decode b_pr_instance 72 = .ok (.ireturn, 1) := by decide +kernel
theorem d_pr_doubleOrPop_0 : decode b_pr_doubleOrPop 0 = .ok (.iload_n 2, 1) := by decide +kernel
theorem d_pr_doubleOrPop_1 : decode b_pr_doubleOrPop 1 = .ok (.iconst 1, 1) := by decide +kernel
theorem d_pr_doubleOrPop_2 : decode b_pr_doubleOrPop 2 = .ok (.if_icmp .le 5, 3) := by decide +kernel
theorem d_pr_doubleOrPop_5 : decode b_pr_doubleOrPop 5 = .ok (.iconst 3, 1) := by decide +kernel
theorem d_pr_doubleOrPop_6 : decode b_pr_doubleOrPop 6 = .ok (.ireturn, 1) := by decide +kernel
theorem d_pr_doubleOrPop_7 : decode b_pr_doubleOrPop 7 = .ok (.iload_n 2, 1) := by decide +kernel
theorem d_pr_doubleOrPop_8 : decode b_pr_doubleOrPop 8 = .ok (.ifCond .ne 23, 3) := by decide +kernel
theorem d_pr_doubleOrPop_11 : decode b_pr_doubleOrPop 11 = .ok (.aload_n 0, 1) := by decide +kernel
theorem d_pr_doubleOrPop_12 : decode b_pr_doubleOrPop 12 = .ok (.getfield 15, 3) := by decide +kernel
theorem d_pr_doubleOrPop_15 : decode b_pr_doubleOrPop 15 = .ok (.iload_n 1, 1) := by decide +kernel
theorem d_pr_doubleOrPop_16 : decode b_pr_doubleOrPop 16 = .ok (.aload_n 0, 1) := by decide +kernel
theorem d_pr_doubleOrPop_17 : decode b_pr_doubleOrPop 17 = .ok (.getfield 15, 3) := by decide +kernel
theorem d_pr_doubleOrPop_20 : decode b_pr_doubleOrPop 20 = .ok (.iload_n 1, 1) := by decide +kernel
theorem d_pr_doubleOrPop_21 : decode b_pr_doubleOrPop 21 = .ok (.iconst 0, 1) := by decide +kernel
theorem d_pr_doubleOrPop_22 : decode b_pr_doubleOrPop 22 = .ok (.invokevirtual 152, 3) := by decide +kernel
theorem d_pr_doubleOrPop_25 : decode b_pr_doubleOrPop 25 = .ok (.invokevirtual 104, 3) := by decide +kernel
theorem d_pr_doubleOrPop_28 : decode b_pr_doubleOrPop 28 = .ok (.goto 12, 3) := by decide +kernel
theorem d_pr_doubleOrPop_31 : decode b_pr_doubleOrPop 31 = .ok (.aload_n 0, 1) := by decide +kernel
theorem d_pr_doubleOrPop_32 : decode b_pr_doubleOrPop 32 = .ok (.getfield 15, 3) := by decide +kernel
theorem d_pr_doubleOrPop_35 : decode b_pr_doubleOrPop 35 = .ok (.iload_n 1, 1) := by decide +kernel
theorem d_pr_doubleOrPop_36 : decode b_pr_doubleOrPop 36 = .ok (.invokevirtual 143, 3) := by decide +kernel
theorem d_pr_doubleOrPop_39 : decode b_pr_doubleOrPop 39 = .ok (.pop, 1) := by decide +kernel
theorem d_pr_doubleOrPop_40 : decode b_pr_doubleOrPop 40 = .ok (.iconst 0, 1) := by decide +kernel
theorem d_pr_doubleOrPop_41 : decode b_pr_doubleOrPop 41 = .ok (.ireturn, 1) := by decide +kernel
theorem d_pr_placeOf_0 : decode b_pr_placeOf 0 = .ok (.aload_n 0, 1) := by decide +kernel
theorem d_pr_placeOf_1 : decode b_pr_placeOf 1 = .ok (.getfield 15, 3) := by decide +kernel
theorem d_pr_placeOf_4 : decode b_pr_placeOf 4 = .ok (.iload_n 1, 1) := by decide +kernel
theorem d_pr_placeOf_5 : decode b_pr_placeOf 5 = .ok (.iconst 4, 1) := by decide +kernel
theorem d_pr_placeOf_6 : decode b_pr_placeOf 6 = .ok (.invokevirtual 42, 3) := by decide +kernel
theorem d_pr_placeOf_9 : decode b_pr_placeOf 9 = .ok (.sipush 1000, 3) := by decide +kernel
theorem d_pr_placeOf_12 : decode b_pr_placeOf 12 = .ok (.isub, 1) := by decide +kernel
theorem d_pr_placeOf_13 : decode b_pr_placeOf 13 = .ok (.ireturn, 1) := by decide +kernel
theorem d_pr_setPlace_0 : decode b_pr_setPlace 0 = .ok (.aload_n 0, 1) := by decide +kernel
theorem d_pr_setPlace_1 : decode b_pr_setPlace 1 = .ok (.getfield 15, 3) := by decide +kernel
theorem d_pr_setPlace_4 : decode b_pr_setPlace 4 = .ok (.iload_n 1, 1) := by decide +kernel
theorem d_pr_setPlace_5 : decode b_pr_setPlace 5 = .ok (.iconst 4, 1) := by decide +kernel
theorem d_pr_setPlace_6 : decode b_pr_setPlace 6 = .ok (.sipush 1000, 3) := by decide +kernel
theorem d_pr_setPlace_9 : decode b_pr_setPlace 9 = .ok (.iload_n 2, 1) := by decide +kernel
theorem d_pr_setPlace_10 : decode b_pr_setPlace 10 = .ok (.iadd, 1) := by decide +kernel
theorem d_pr_setPlace_11 : decode b_pr_setPlace 11 = .ok (.invokevirtual 59, 3) := by decide +kernel
theorem d_pr_setPlace_14 : decode b_pr_setPlace 14 = .ok (.return_, 1) := by decide +kernel
