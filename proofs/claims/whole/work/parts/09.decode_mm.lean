theorem d_mm_init_0 : decode b_mm_init 0 = .ok (.aload_n 0, 1) := by decide +kernel
theorem d_mm_init_1 : decode b_mm_init 1 = .ok (.invokespecial 3, 3) := by decide +kernel
theorem d_mm_init_4 : decode b_mm_init 4 = .ok (.aload_n 0, 1) := by decide +kernel
theorem d_mm_init_5 : decode b_mm_init 5 = .ok (.new 9, 3) := by decide +kernel
theorem d_mm_init_8 : decode b_mm_init 8 = .ok (.dup, 1) := by decide +kernel
theorem d_mm_init_9 : decode b_mm_init 9 = .ok (.invokespecial 11, 3) := by decide +kernel
theorem d_mm_init_12 : decode b_mm_init 12 = .ok (.putfield 12, 3) := by decide +kernel
theorem d_mm_init_15 : decode b_mm_init 15 = .ok (.aload_n 0, 1) := by decide +kernel
theorem d_mm_init_16 : decode b_mm_init 16 = .ok (.new 16, 3) := by decide +kernel
theorem d_mm_init_19 : decode b_mm_init 19 = .ok (.dup, 1) := by decide +kernel
theorem d_mm_init_20 : decode b_mm_init 20 = .ok (.invokespecial 18, 3) := by decide +kernel
theorem d_mm_init_23 : decode b_mm_init 23 = .ok (.putfield 19, 3) := by decide +kernel
theorem d_mm_init_26 : decode b_mm_init 26 = .ok (.aload_n 0, 1) := by decide +kernel
theorem d_mm_init_27 : decode b_mm_init 27 = .ok (.new 23, 3) := by decide +kernel
theorem d_mm_init_30 : decode b_mm_init 30 = .ok (.dup, 1) := by decide +kernel
theorem d_mm_init_31 : decode b_mm_init 31 = .ok (.aload_n 0, 1) := by decide +kernel
theorem d_mm_init_32 : decode b_mm_init 32 = .ok (.getfield 12, 3) := by decide +kernel
theorem d_mm_init_35 : decode b_mm_init 35 = .ok (.aload_n 0, 1) := by decide +kernel
theorem d_mm_init_36 : decode b_mm_init 36 = .ok (.getfield 19, 3) := by decide +kernel
theorem d_mm_init_39 : decode b_mm_init 39 = .ok (.invokespecial 25, 3) := by decide +kernel
theorem d_mm_init_42 : decode b_mm_init 42 = .ok (.putfield 28, 3) := by decide +kernel
theorem d_mm_init_45 : decode b_mm_init 45 = .ok (.return_, 1) := by decide +kernel
theorem d_mm_define_0 : decode b_mm_define 0 = .ok (.iload_n 1, 1) := by decide +kernel
theorem d_mm_define_1 : decode b_mm_define 1 = .ok (.invokestatic 32, 3) := by decide +kernel
theorem d_mm_define_4 : decode b_mm_define 4 = .ok (.ifCond .eq 20, 3) := by decide +kernel
theorem d_mm_define_7 : decode b_mm_define 7 = .ok (.iload_n 2, 1) := by decide +kernel
theorem d_mm_define_8 : decode b_mm_define 8 = .ok (.invokestatic 32, 3) := by decide +kernel
theorem d_mm_define_11 : decode b_mm_define 11 = .ok (.ifCond .eq 13, 3) := by decide +kernel
theorem d_mm_define_14 : decode b_mm_define 14 = .ok (.iload_n 3, 1) := by decide +kernel
theorem d_mm_define_15 : decode b_mm_define 15 = .ok (.ifCond .lt 9, 3) := by decide +kernel
theorem d_mm_define_18 : decode b_mm_define 18 = .ok (.iload_n 3, 1) := by decide +kernel
theorem d_mm_define_19 : decode b_mm_define 19 = .ok (.bipush 6, 2) := by decide +kernel
theorem d_mm_define_21 : decode b_mm_define 21 = .ok (.if_icmp .le 5, 3) := by decide +kernel
theorem d_mm_define_24 : decode b_mm_define 24 = .ok (.iconst (-1), 1) := by decide +kernel
theorem d_mm_define_25 : decode b_mm_define 25 = .ok (.ireturn, 1) := by decide +kernel
theorem d_mm_define_26 : decode b_mm_define 26 = .ok (.aload_n 0, 1) := by decide +kernel
theorem d_mm_define_27 : decode b_mm_define 27 = .ok (.getfield 12, 3) := by decide +kernel
theorem d_mm_define_30 : decode b_mm_define 30 = .ok (.aload_n 0, 1) := by decide +kernel
theorem d_mm_define_31 : decode b_mm_define 31 = .ok (.getfield 12, 3) := by decide +kernel
theorem d_mm_define_34 : decode b_mm_define 34 = .ok (.iload_n 2, 1) := by decide +kernel
theorem d_mm_define_35 : decode b_mm_define 35 = .ok (.invokevirtual 36, 3) := by decide +kernel
theorem d_mm_define_38 : decode b_mm_define 38 = .ok (.invokevirtual 40, 3) := by decide +kernel
theorem d_mm_define_41 : decode b_mm_define 41 = .ok (.ifCond .ne 5, 3) := by decide +kernel
theorem d_mm_define_44 : decode b_mm_define 44 = .ok (.iconst (-1), 1) := by decide +kernel
theorem d_mm_define_45 : decode b_mm_define 45 = .ok (.ireturn, 1) := by decide +kernel
theorem d_mm_define_46 : decode b_mm_define 46 = .ok (.aload_n 0, 1) := by decide +kernel
theorem d_mm_define_47 : decode b_mm_define 47 = .ok (.getfield 12, 3) := by decide +kernel
theorem d_mm_define_50 : decode b_mm_define 50 = .ok (.aload_n 0, 1) := by decide +kernel
theorem d_mm_define_51 : decode b_mm_define 51 = .ok (.getfield 12, 3) := by decide +kernel
theorem d_mm_define_54 : decode b_mm_define 54 = .ok (.iload_n 2, 1) := by decide +kernel
theorem d_mm_define_55 : decode b_mm_define 55 = .ok (.invokevirtual 36, 3) := by decide +kernel
theorem d_mm_define_58 : decode b_mm_define 58 = .ok (.iload_n 3, 1) := by decide +kernel
theorem d_mm_define_59 : decode b_mm_define 59 = .ok (.invokevirtual 43, 3) := by decide +kernel
theorem d_mm_define_62 : decode b_mm_define 62 = .ok (.istore 4, 2) := by decide +kernel
theorem d_mm_define_64 : decode b_mm_define 64 = .ok (.iload 4, 2) := by decide +kernel
theorem d_mm_define_66 : decode b_mm_define 66 = .ok (.iconst (-1), 1) := by decide +kernel
theorem d_mm_define_67 : decode b_mm_define 67 = .ok (.if_icmp .ne 5, 3) := by decide +kernel
theorem d_mm_define_70 : decode b_mm_define 70 = .ok (.iconst (-1), 1) := by decide +kernel
theorem d_mm_define_71 : decode b_mm_define 71 = .ok (.ireturn, 1) := by decide +kernel
theorem d_mm_define_72 : decode b_mm_define 72 = .ok (.aload_n 0, 1) := by decide +kernel
theorem d_mm_define_73 : decode b_mm_define 73 = .ok (.getfield 19, 3) := by decide +kernel
theorem d_mm_define_76 : decode b_mm_define 76 = .ok (.iload 4, 2) := by decide +kernel
theorem d_mm_define_78 : decode b_mm_define 78 = .ok (.invokevirtual 47, 3) := by decide +kernel
theorem d_mm_define_81 : decode b_mm_define 81 = .ok (.aload_n 0, 1) := by decide +kernel
theorem d_mm_define_82 : decode b_mm_define 82 = .ok (.iload_n 1, 1) := by decide +kernel
theorem d_mm_define_83 : decode b_mm_define 83 = .ok (.iload 4, 2) := by decide +kernel
theorem d_mm_define_85 : decode b_mm_define 85 = .ok (.invokevirtual 51, 3) := by decide +kernel
theorem d_mm_define_88 : decode b_mm_define 88 = .ok (.iload 4, 2) := by decide +kernel
theorem d_mm_define_90 : decode b_mm_define 90 = .ok (.ireturn, 1) := by decide +kernel
theorem d_mm_method_0 : decode b_mm_method 0 = .ok (.aload_n 0, 1) := by decide +kernel
theorem d_mm_method_1 : decode b_mm_method 1 = .ok (.iload_n 1, 1) := by decide +kernel
theorem d_mm_method_2 : decode b_mm_method 2 = .ok (.invokevirtual 55, 3) := by decide +kernel
theorem d_mm_method_5 : decode b_mm_method 5 = .ok (.ifCond .eq 10, 3) := by decide +kernel
theorem d_mm_method_8 : decode b_mm_method 8 = .ok (.iload_n 2, 1) := by decide +kernel
theorem d_mm_method_9 : decode b_mm_method 9 = .ok (.invokestatic 58, 3) := by decide +kernel
theorem d_mm_method_12 : decode b_mm_method 12 = .ok (.ifCond .ne 5, 3) := by decide +kernel
theorem d_mm_method_15 : decode b_mm_method 15 = .ok (.iconst 0, 1) := by decide +kernel
theorem d_mm_method_16 : decode b_mm_method 16 = .ok (.ireturn, 1) := by decide +kernel
theorem d_mm_method_17 : decode b_mm_method 17 = .ok (.aload_n 0, 1) := by decide +kernel
theorem d_mm_method_18 : decode b_mm_method 18 = .ok (.getfield 19, 3) := by decide +kernel
theorem d_mm_method_21 : decode b_mm_method 21 = .ok (.aload_n 0, 1) := by decide +kernel
theorem d_mm_method_22 : decode b_mm_method 22 = .ok (.getfield 12, 3) := by decide +kernel
theorem d_mm_method_25 : decode b_mm_method 25 = .ok (.iload_n 1, 1) := by decide +kernel
theorem d_mm_method_26 : decode b_mm_method 26 = .ok (.invokevirtual 36, 3) := by decide +kernel
theorem d_mm_method_29 : decode b_mm_method 29 = .ok (.iload_n 2, 1) := by decide +kernel
theorem d_mm_method_30 : decode b_mm_method 30 = .ok (.lload_n 3, 1) := by decide +kernel
theorem d_mm_method_31 : decode b_mm_method 31 = .ok (.lload 5, 2) := by decide +kernel
theorem d_mm_method_33 : decode b_mm_method 33 = .ok (.invokevirtual 61, 3) := by decide +kernel
theorem d_mm_method_36 : decode b_mm_method 36 = .ok (.iconst 1, 1) := by decide +kernel
theorem d_mm_method_37 : decode b_mm_method 37 = .ok (.ireturn, 1) := by decide +kernel
theorem d_mm_make_0 : decode b_mm_make 0 = .ok (.iload_n 1, 1) := by decide +kernel
theorem d_mm_make_1 : decode b_mm_make 1 = .ok (.invokestatic 32, 3) := by decide +kernel
theorem d_mm_make_4 : decode b_mm_make 4 = .ok (.ifCond .eq 23, 3) := by decide +kernel
theorem d_mm_make_7 : decode b_mm_make 7 = .ok (.aload_n 0, 1) := by decide +kernel
theorem d_mm_make_8 : decode b_mm_make 8 = .ok (.iload_n 2, 1) := by decide +kernel
theorem d_mm_make_9 : decode b_mm_make 9 = .ok (.invokevirtual 55, 3) := by decide +kernel
theorem d_mm_make_12 : decode b_mm_make 12 = .ok (.ifCond .eq 15, 3) := by decide +kernel
theorem d_mm_make_15 : decode b_mm_make 15 = .ok (.aload_n 0, 1) := by decide +kernel
theorem d_mm_make_16 : decode b_mm_make 16 = .ok (.getfield 12, 3) := by decide +kernel
theorem d_mm_make_19 : decode b_mm_make 19 = .ok (.iload_n 2, 1) := by decide +kernel
theorem d_mm_make_20 : decode b_mm_make 20 = .ok (.invokevirtual 36, 3) := by decide +kernel
theorem d_mm_make_23 : decode b_mm_make 23 = .ok (.iconst 3, 1) := by decide +kernel
theorem d_mm_make_24 : decode b_mm_make 24 = .ok (.if_icmp .ne 5, 3) := by decide +kernel
theorem d_mm_make_27 : decode b_mm_make 27 = .ok (.iconst (-1), 1) := by decide +kernel
theorem d_mm_make_28 : decode b_mm_make 28 = .ok (.ireturn, 1) := by decide +kernel
theorem d_mm_make_29 : decode b_mm_make 29 = .ok (.aload_n 0, 1) := by decide +kernel
theorem d_mm_make_30 : decode b_mm_make 30 = .ok (.getfield 12, 3) := by decide +kernel
theorem d_mm_make_33 : decode b_mm_make 33 = .ok (.aload_n 0, 1) := by decide +kernel
theorem d_mm_make_34 : decode b_mm_make 34 = .ok (.getfield 12, 3) := by decide +kernel
theorem d_mm_make_37 : decode b_mm_make 37 = .ok (.iload_n 2, 1) := by decide +kernel
theorem d_mm_make_38 : decode b_mm_make 38 = .ok (.invokevirtual 36, 3) := by decide +kernel
theorem d_mm_make_41 : decode b_mm_make 41 = .ok (.invokevirtual 65, 3) := by decide +kernel
theorem d_mm_make_44 : decode b_mm_make 44 = .ok (.istore_n 3, 1) := by decide +kernel
theorem d_mm_make_45 : decode b_mm_make 45 = .ok (.iload_n 3, 1) := by decide +kernel
theorem d_mm_make_46 : decode b_mm_make 46 = .ok (.iconst (-1), 1) := by decide +kernel
theorem d_mm_make_47 : decode b_mm_make 47 = .ok (.if_icmp .ne 5, 3) := by decide +kernel
theorem d_mm_make_50 : decode b_mm_make 50 = .ok (.iconst (-1), 1) := by decide +kernel
theorem d_mm_make_51 : decode b_mm_make 51 = .ok (.ireturn, 1) := by decide +kernel
theorem d_mm_make_52 : decode b_mm_make 52 = .ok (.aload_n 0, 1) := by decide +kernel
theorem d_mm_make_53 : decode b_mm_make 53 = .ok (.iload_n 1, 1) := by decide +kernel
theorem d_mm_make_54 : decode b_mm_make 54 = .ok (.iload_n 3, 1) := by decide +kernel
theorem d_mm_make_55 : decode b_mm_make 55 = .ok (.invokevirtual 51, 3) := by decide +kernel
theorem d_mm_make_58 : decode b_mm_make 58 = .ok (.iload_n 3, 1) := by decide +kernel
theorem d_mm_make_59 : decode b_mm_make 59 = .ok (.ireturn, 1) := by decide +kernel
theorem d_mm_number_0 : decode b_mm_number 0 = .ok (.iload_n 1, 1) := by decide +kernel
theorem d_mm_number_1 : decode b_mm_number 1 = .ok (.invokestatic 32, 3) := by decide +kernel
theorem d_mm_number_4 : decode b_mm_number 4 = .ok (.ifCond .eq 17, 3) := by decide +kernel
theorem d_mm_number_7 : decode b_mm_number 7 = .ok (.iload_n 2, 1) := by decide +kernel
theorem d_mm_number_8 : decode b_mm_number 8 = .ok (.sipush (-512), 3) := by decide +kernel
theorem d_mm_number_11 : decode b_mm_number 11 = .ok (.if_icmp .lt 10, 3) := by decide +kernel
theorem d_mm_number_14 : decode b_mm_number 14 = .ok (.iload_n 2, 1) := by decide +kernel
theorem d_mm_number_15 : decode b_mm_number 15 = .ok (.sipush 511, 3) := by decide +kernel
theorem d_mm_number_18 : decode b_mm_number 18 = .ok (.if_icmp .le 5, 3) := by decide +kernel
theorem d_mm_number_21 : decode b_mm_number 21 = .ok (.iconst 0, 1) := by decide +kernel
theorem d_mm_number_22 : decode b_mm_number 22 = .ok (.ireturn, 1) := by decide +kernel
theorem d_mm_number_23 : decode b_mm_number 23 = .ok (.aload_n 0, 1) := by decide +kernel
theorem d_mm_number_24 : decode b_mm_number 24 = .ok (.iload_n 1, 1) := by decide +kernel
theorem d_mm_number_25 : decode b_mm_number 25 = .ok (.sipush 1000, 3) := by decide +kernel
theorem d_mm_number_28 : decode b_mm_number 28 = .ok (.iload_n 2, 1) := by decide +kernel
theorem d_mm_number_29 : decode b_mm_number 29 = .ok (.iadd, 1) := by decide +kernel
theorem d_mm_number_30 : decode b_mm_number 30 = .ok (.invokevirtual 51, 3) := by decide +kernel
theorem d_mm_number_33 : decode b_mm_number 33 = .ok (.iconst 1, 1) := by decide +kernel
theorem d_mm_number_34 : decode b_mm_number 34 = .ok (.ireturn, 1) := by decide +kernel
theorem d_mm_move_0 : decode b_mm_move 0 = .ok (.iload_n 1, 1) := by decide +kernel
theorem d_mm_move_1 : decode b_mm_move 1 = .ok (.invokestatic 32, 3) := by decide +kernel
theorem d_mm_move_4 : decode b_mm_move 4 = .ok (.ifCond .eq 10, 3) := by decide +kernel
theorem d_mm_move_7 : decode b_mm_move 7 = .ok (.iload_n 2, 1) := by decide +kernel
theorem d_mm_move_8 : decode b_mm_move 8 = .ok (.invokestatic 32, 3) := by decide +kernel
theorem d_mm_move_11 : decode b_mm_move 11 = .ok (.ifCond .ne 5, 3) := by decide +kernel
theorem d_mm_move_14 : decode b_mm_move 14 = .ok (.iconst 0, 1) := by decide +kernel
theorem d_mm_move_15 : decode b_mm_move 15 = .ok (.ireturn, 1) := by decide +kernel
theorem d_mm_move_16 : decode b_mm_move 16 = .ok (.aload_n 0, 1) := by decide +kernel
theorem d_mm_move_17 : decode b_mm_move 17 = .ok (.iload_n 1, 1) := by decide +kernel
theorem d_mm_move_18 : decode b_mm_move 18 = .ok (.aload_n 0, 1) := by decide +kernel
theorem d_mm_move_19 : decode b_mm_move 19 = .ok (.getfield 12, 3) := by decide +kernel
theorem d_mm_move_22 : decode b_mm_move 22 = .ok (.iload_n 2, 1) := by decide +kernel
theorem d_mm_move_23 : decode b_mm_move 23 = .ok (.invokevirtual 36, 3) := by decide +kernel
theorem d_mm_move_26 : decode b_mm_move 26 = .ok (.invokevirtual 51, 3) := by decide +kernel
theorem d_mm_move_29 : decode b_mm_move 29 = .ok (.iconst 1, 1) := by decide +kernel
theorem d_mm_move_30 : decode b_mm_move 30 = .ok (.ireturn, 1) := by decide +kernel
theorem d_mm_drop_0 : decode b_mm_drop 0 = .ok (.iload_n 1, 1) := by decide +kernel
theorem d_mm_drop_1 : decode b_mm_drop 1 = .ok (.invokestatic 32, 3) := by decide +kernel
theorem d_mm_drop_4 : decode b_mm_drop 4 = .ok (.ifCond .ne 5, 3) := by decide +kernel
theorem d_mm_drop_7 : decode b_mm_drop 7 = .ok (.iconst 0, 1) := by decide +kernel
theorem d_mm_drop_8 : decode b_mm_drop 8 = .ok (.ireturn, 1) := by decide +kernel
theorem d_mm_drop_9 : decode b_mm_drop 9 = .ok (.aload_n 0, 1) := by decide +kernel
theorem d_mm_drop_10 : decode b_mm_drop 10 = .ok (.iload_n 1, 1) := by decide +kernel
theorem d_mm_drop_11 : decode b_mm_drop 11 = .ok (.iconst 0, 1) := by decide +kernel
theorem d_mm_drop_12 : decode b_mm_drop 12 = .ok (.invokevirtual 51, 3) := by decide +kernel
theorem d_mm_drop_15 : decode b_mm_drop 15 = .ok (.iconst 1, 1) := by decide +kernel
theorem d_mm_drop_16 : decode b_mm_drop 16 = .ok (.ireturn, 1) := by decide +kernel
theorem d_mm_fetch_0 : decode b_mm_fetch 0 = .ok (.iload_n 1, 1) := by decide +kernel
theorem d_mm_fetch_1 : decode b_mm_fetch 1 = .ok (.invokestatic 32, 3) := by decide +kernel
theorem d_mm_fetch_4 : decode b_mm_fetch 4 = .ok (.ifCond .eq 29, 3) := by decide +kernel
theorem d_mm_fetch_7 : decode b_mm_fetch 7 = .ok (.iload_n 2, 1) := by decide +kernel
theorem d_mm_fetch_8 : decode b_mm_fetch 8 = .ok (.invokestatic 32, 3) := by decide +kernel
theorem d_mm_fetch_11 : decode b_mm_fetch 11 = .ok (.ifCond .eq 22, 3) := by decide +kernel
theorem d_mm_fetch_14 : decode b_mm_fetch 14 = .ok (.aload_n 0, 1) := by decide +kernel
theorem d_mm_fetch_15 : decode b_mm_fetch 15 = .ok (.getfield 12, 3) := by decide +kernel
theorem d_mm_fetch_18 : decode b_mm_fetch 18 = .ok (.aload_n 0, 1) := by decide +kernel
theorem d_mm_fetch_19 : decode b_mm_fetch 19 = .ok (.getfield 12, 3) := by decide +kernel
theorem d_mm_fetch_22 : decode b_mm_fetch 22 = .ok (.iload_n 2, 1) := by decide +kernel
theorem d_mm_fetch_23 : decode b_mm_fetch 23 = .ok (.invokevirtual 36, 3) := by decide +kernel
theorem d_mm_fetch_26 : decode b_mm_fetch 26 = .ok (.iload_n 3, 1) := by decide +kernel
theorem d_mm_fetch_27 : decode b_mm_fetch 27 = .ok (.invokevirtual 68, 3) := by decide +kernel
theorem d_mm_fetch_30 : decode b_mm_fetch 30 = .ok (.ifCond .ne 5, 3) := by decide +kernel
theorem d_mm_fetch_33 : decode b_mm_fetch 33 = .ok (.iconst 0, 1) := by decide +kernel
theorem d_mm_fetch_34 : decode b_mm_fetch 34 = .ok (.ireturn, 1) := by decide +kernel
theorem d_mm_fetch_35 : decode b_mm_fetch 35 = .ok (.aload_n 0, 1) := by decide +kernel
theorem d_mm_fetch_36 : decode b_mm_fetch 36 = .ok (.iload_n 1, 1) := by decide +kernel
theorem d_mm_fetch_37 : decode b_mm_fetch 37 = .ok (.aload_n 0, 1) := by decide +kernel
theorem d_mm_fetch_38 : decode b_mm_fetch 38 = .ok (.getfield 12, 3) := by decide +kernel
theorem d_mm_fetch_41 : decode b_mm_fetch 41 = .ok (.aload_n 0, 1) := by decide +kernel
theorem d_mm_fetch_42 : decode b_mm_fetch 42 = .ok (.getfield 12, 3) := by decide +kernel
theorem d_mm_fetch_45 : decode b_mm_fetch 45 = .ok (.iload_n 2, 1) := by decide +kernel
theorem d_mm_fetch_46 : decode b_mm_fetch 46 = .ok (.invokevirtual 36, 3) := by decide +kernel
theorem d_mm_fetch_49 : decode b_mm_fetch 49 = .ok (.iload_n 3, 1) := by decide +kernel
theorem d_mm_fetch_50 : decode b_mm_fetch 50 = .ok (.invokevirtual 72, 3) := by decide +kernel
theorem d_mm_fetch_53 : decode b_mm_fetch 53 = .ok (.invokevirtual 51, 3) := by decide +kernel
theorem d_mm_fetch_56 : decode b_mm_fetch 56 = .ok (.iconst 1, 1) := by decide +kernel
theorem d_mm_fetch_57 : decode b_mm_fetch 57 = .ok (.ireturn, 1) := by decide +kernel
theorem d_mm_kind_0 : decode b_mm_kind 0 = .ok (.iload_n 1, 1) := by decide +kernel
theorem d_mm_kind_1 : decode b_mm_kind 1 = .ok (.invokestatic 32, 3) := by decide +kernel
theorem d_mm_kind_4 : decode b_mm_kind 4 = .ok (.ifCond .eq 10, 3) := by decide +kernel
theorem d_mm_kind_7 : decode b_mm_kind 7 = .ok (.iload_n 2, 1) := by decide +kernel
theorem d_mm_kind_8 : decode b_mm_kind 8 = .ok (.invokestatic 32, 3) := by decide +kernel
theorem d_mm_kind_11 : decode b_mm_kind 11 = .ok (.ifCond .ne 5, 3) := by decide +kernel
theorem d_mm_kind_14 : decode b_mm_kind 14 = .ok (.iconst 0, 1) := by decide +kernel
theorem d_mm_kind_15 : decode b_mm_kind 15 = .ok (.ireturn, 1) := by decide +kernel
theorem d_mm_kind_16 : decode b_mm_kind 16 = .ok (.aload_n 0, 1) := by decide +kernel
theorem d_mm_kind_17 : decode b_mm_kind 17 = .ok (.iload_n 1, 1) := by decide +kernel
theorem d_mm_kind_18 : decode b_mm_kind 18 = .ok (.aload_n 0, 1) := by decide +kernel
theorem d_mm_kind_19 : decode b_mm_kind 19 = .ok (.getfield 12, 3) := by decide +kernel
theorem d_mm_kind_22 : decode b_mm_kind 22 = .ok (.aload_n 0, 1) := by decide +kernel
theorem d_mm_kind_23 : decode b_mm_kind 23 = .ok (.getfield 12, 3) := by decide +kernel
theorem d_mm_kind_26 : decode b_mm_kind 26 = .ok (.iload_n 2, 1) := by decide +kernel
theorem d_mm_kind_27 : decode b_mm_kind 27 = .ok (.invokevirtual 36, 3) := by decide +kernel
theorem d_mm_kind_30 : decode b_mm_kind 30 = .ok (.invokevirtual 75, 3) := by decide +kernel
theorem d_mm_kind_33 : decode b_mm_kind 33 = .ok (.invokevirtual 51, 3) := by decide +kernel
theorem d_mm_kind_36 : decode b_mm_kind 36 = .ok (.iconst 1, 1) := by decide +kernel
theorem d_mm_kind_37 : decode b_mm_kind 37 = .ok (.ireturn, 1) := by decide +kernel
theorem d_mm_store_0 : decode b_mm_store 0 = .ok (.iload_n 3, 1) := by decide +kernel
theorem d_mm_store_1 : decode b_mm_store 1 = .ok (.invokestatic 32, 3) := by decide +kernel
theorem d_mm_store_4 : decode b_mm_store 4 = .ok (.ifCond .eq 29, 3) := by decide +kernel
theorem d_mm_store_7 : decode b_mm_store 7 = .ok (.iload_n 1, 1) := by decide +kernel
theorem d_mm_store_8 : decode b_mm_store 8 = .ok (.invokestatic 32, 3) := by decide +kernel
theorem d_mm_store_11 : decode b_mm_store 11 = .ok (.ifCond .eq 22, 3) := by decide +kernel
theorem d_mm_store_14 : decode b_mm_store 14 = .ok (.aload_n 0, 1) := by decide +kernel
theorem d_mm_store_15 : decode b_mm_store 15 = .ok (.getfield 12, 3) := by decide +kernel
theorem d_mm_store_18 : decode b_mm_store 18 = .ok (.aload_n 0, 1) := by decide +kernel
theorem d_mm_store_19 : decode b_mm_store 19 = .ok (.getfield 12, 3) := by decide +kernel
theorem d_mm_store_22 : decode b_mm_store 22 = .ok (.iload_n 1, 1) := by decide +kernel
theorem d_mm_store_23 : decode b_mm_store 23 = .ok (.invokevirtual 36, 3) := by decide +kernel
theorem d_mm_store_26 : decode b_mm_store 26 = .ok (.iload_n 2, 1) := by decide +kernel
theorem d_mm_store_27 : decode b_mm_store 27 = .ok (.invokevirtual 78, 3) := by decide +kernel
theorem d_mm_store_30 : decode b_mm_store 30 = .ok (.ifCond .ne 5, 3) := by decide +kernel
theorem d_mm_store_33 : decode b_mm_store 33 = .ok (.iconst 0, 1) := by decide +kernel
theorem d_mm_store_34 : decode b_mm_store 34 = .ok (.ireturn, 1) := by decide +kernel
theorem d_mm_store_35 : decode b_mm_store 35 = .ok (.aload_n 0, 1) := by decide +kernel
theorem d_mm_store_36 : decode b_mm_store 36 = .ok (.getfield 12, 3) := by decide +kernel
theorem d_mm_store_39 : decode b_mm_store 39 = .ok (.aload_n 0, 1) := by decide +kernel
theorem d_mm_store_40 : decode b_mm_store 40 = .ok (.getfield 12, 3) := by decide +kernel
theorem d_mm_store_43 : decode b_mm_store 43 = .ok (.iload_n 1, 1) := by decide +kernel
theorem d_mm_store_44 : decode b_mm_store 44 = .ok (.invokevirtual 36, 3) := by decide +kernel
theorem d_mm_store_47 : decode b_mm_store 47 = .ok (.iload_n 2, 1) := by decide +kernel
theorem d_mm_store_48 : decode b_mm_store 48 = .ok (.aload_n 0, 1) := by decide +kernel
theorem d_mm_store_49 : decode b_mm_store 49 = .ok (.getfield 12, 3) := by decide +kernel
theorem d_mm_store_52 : decode b_mm_store 52 = .ok (.iload_n 3, 1) := by decide +kernel
theorem d_mm_store_53 : decode b_mm_store 53 = .ok (.invokevirtual 36, 3) := by decide +kernel
theorem d_mm_store_56 : decode b_mm_store 56 = .ok (.invokevirtual 81, 3) := by decide +kernel
theorem d_mm_store_59 : decode b_mm_store 59 = .ok (.aload_n 0, 1) := by decide +kernel
theorem d_mm_store_60 : decode b_mm_store 60 = .ok (.getfield 12, 3) := by decide +kernel
theorem d_mm_store_63 : decode b_mm_store 63 = .ok (.invokevirtual 85, 3) := by decide +kernel
theorem d_mm_store_66 : decode b_mm_store 66 = .ok (.iconst 1, 1) := by decide +kernel
theorem d_mm_store_67 : decode b_mm_store 67 = .ok (.ireturn, 1) := by decide +kernel
theorem d_mm_inherit_0 : decode b_mm_inherit 0 = .ok (.aload_n 0, 1) := by decide +kernel
theorem d_mm_inherit_1 : decode b_mm_inherit 1 = .ok (.iload_n 1, 1) := by decide +kernel
theorem d_mm_inherit_2 : decode b_mm_inherit 2 = .ok (.invokevirtual 55, 3) := by decide +kernel
theorem d_mm_inherit_5 : decode b_mm_inherit 5 = .ok (.ifCond .eq 10, 3) := by decide +kernel
theorem d_mm_inherit_8 : decode b_mm_inherit 8 = .ok (.iload_n 2, 1) := by decide +kernel
theorem d_mm_inherit_9 : decode b_mm_inherit 9 = .ok (.invokestatic 32, 3) := by decide +kernel
theorem d_mm_inherit_12 : decode b_mm_inherit 12 = .ok (.ifCond .ne 5, 3) := by decide +kernel
theorem d_mm_inherit_15 : decode b_mm_inherit 15 = .ok (.iconst 0, 1) := by decide +kernel
theorem d_mm_inherit_16 : decode b_mm_inherit 16 = .ok (.ireturn, 1) := by decide +kernel
theorem d_mm_inherit_17 : decode b_mm_inherit 17 = .ok (.aload_n 0, 1) := by decide +kernel
theorem d_mm_inherit_18 : decode b_mm_inherit 18 = .ok (.getfield 12, 3) := by decide +kernel
theorem d_mm_inherit_21 : decode b_mm_inherit 21 = .ok (.iload_n 1, 1) := by decide +kernel
theorem d_mm_inherit_22 : decode b_mm_inherit 22 = .ok (.invokevirtual 36, 3) := by decide +kernel
theorem d_mm_inherit_25 : decode b_mm_inherit 25 = .ok (.istore_n 3, 1) := by decide +kernel
theorem d_mm_inherit_26 : decode b_mm_inherit 26 = .ok (.aload_n 0, 1) := by decide +kernel
theorem d_mm_inherit_27 : decode b_mm_inherit 27 = .ok (.getfield 12, 3) := by decide +kernel
theorem d_mm_inherit_30 : decode b_mm_inherit 30 = .ok (.iload_n 2, 1) := by decide +kernel
theorem d_mm_inherit_31 : decode b_mm_inherit 31 = .ok (.invokevirtual 36, 3) := by decide +kernel
theorem d_mm_inherit_34 : decode b_mm_inherit 34 = .ok (.istore 4, 2) := by decide +kernel
theorem d_mm_inherit_36 : decode b_mm_inherit 36 = .ok (.iload_n 3, 1) := by decide +kernel
theorem d_mm_inherit_37 : decode b_mm_inherit 37 = .ok (.iconst 4, 1) := by decide +kernel
theorem d_mm_inherit_38 : decode b_mm_inherit 38 = .ok (.if_icmp .lt 28, 3) := by decide +kernel
theorem d_mm_inherit_41 : decode b_mm_inherit 41 = .ok (.aload_n 0, 1) := by decide +kernel
theorem d_mm_inherit_42 : decode b_mm_inherit 42 = .ok (.getfield 12, 3) := by decide +kernel
theorem d_mm_inherit_45 : decode b_mm_inherit 45 = .ok (.iload 4, 2) := by decide +kernel
theorem d_mm_inherit_47 : decode b_mm_inherit 47 = .ok (.invokevirtual 40, 3) := by decide +kernel
theorem d_mm_inherit_50 : decode b_mm_inherit 50 = .ok (.ifCond .eq 16, 3) := by decide +kernel
theorem d_mm_inherit_53 : decode b_mm_inherit 53 = .ok (.aload_n 0, 1) := by decide +kernel
theorem d_mm_inherit_54 : decode b_mm_inherit 54 = .ok (.getfield 12, 3) := by decide +kernel
theorem d_mm_inherit_57 : decode b_mm_inherit 57 = .ok (.iload_n 3, 1) := by decide +kernel
theorem d_mm_inherit_58 : decode b_mm_inherit 58 = .ok (.iload 4, 2) := by decide +kernel
theorem d_mm_inherit_60 : decode b_mm_inherit 60 = .ok (.invokevirtual 88, 3) := by decide +kernel
theorem d_mm_inherit_63 : decode b_mm_inherit 63 = .ok (.ifCond .eq 5, 3) := by decide +kernel
theorem d_mm_inherit_66 : decode b_mm_inherit 66 = .ok (.iconst 0, 1) := by decide +kernel
theorem d_mm_inherit_67 : decode b_mm_inherit 67 = .ok (.ireturn, 1) := by decide +kernel
theorem d_mm_inherit_68 : decode b_mm_inherit 68 = .ok (.aload_n 0, 1) := by decide +kernel
theorem d_mm_inherit_69 : decode b_mm_inherit 69 = .ok (.getfield 12, 3) := by decide +kernel
theorem d_mm_inherit_72 : decode b_mm_inherit 72 = .ok (.iload_n 3, 1) := by decide +kernel
theorem d_mm_inherit_73 : decode b_mm_inherit 73 = .ok (.iconst 0, 1) := by decide +kernel
theorem d_mm_inherit_74 : decode b_mm_inherit 74 = .ok (.iload 4, 2) := by decide +kernel
theorem d_mm_inherit_76 : decode b_mm_inherit 76 = .ok (.invokevirtual 81, 3) := by decide +kernel
theorem d_mm_inherit_79 : decode b_mm_inherit 79 = .ok (.aload_n 0, 1) := by decide +kernel
theorem d_mm_inherit_80 : decode b_mm_inherit 80 = .ok (.getfield 12, 3) := by decide +kernel
theorem d_mm_inherit_83 : decode b_mm_inherit 83 = .ok (.invokevirtual 85, 3) := by decide +kernel
theorem d_mm_inherit_86 : decode b_mm_inherit 86 = .ok (.iconst 1, 1) := by decide +kernel
theorem d_mm_inherit_87 : decode b_mm_inherit 87 = .ok (.ireturn, 1) := by decide +kernel
theorem d_mm_send_0 : decode b_mm_send 0 = .ok (.aload_n 0, 1) := by decide +kernel
theorem d_mm_send_1 : decode b_mm_send 1 = .ok (.getfield 28, 3) := by decide +kernel
theorem d_mm_send_4 : decode b_mm_send 4 = .ok (.invokevirtual 91, 3) := by decide +kernel
theorem d_mm_send_7 : decode b_mm_send 7 = .ok (.ifCond .ne 17, 3) := by decide +kernel
theorem d_mm_send_10 : decode b_mm_send 10 = .ok (.iload_n 1, 1) := by decide +kernel
theorem d_mm_send_11 : decode b_mm_send 11 = .ok (.invokestatic 32, 3) := by decide +kernel
theorem d_mm_send_14 : decode b_mm_send 14 = .ok (.ifCond .eq 10, 3) := by decide +kernel
theorem d_mm_send_17 : decode b_mm_send 17 = .ok (.iload_n 2, 1) := by decide +kernel
theorem d_mm_send_18 : decode b_mm_send 18 = .ok (.invokestatic 58, 3) := by decide +kernel
theorem d_mm_send_21 : decode b_mm_send 21 = .ok (.ifCond .ne 5, 3) := by decide +kernel
theorem d_mm_send_24 : decode b_mm_send 24 = .ok (.iconst 0, 1) := by decide +kernel
theorem d_mm_send_25 : decode b_mm_send 25 = .ok (.ireturn, 1) := by decide +kernel
theorem d_mm_send_26 : decode b_mm_send 26 = .ok (.aload_n 0, 1) := by decide +kernel
theorem d_mm_send_27 : decode b_mm_send 27 = .ok (.getfield 28, 3) := by decide +kernel
theorem d_mm_send_30 : decode b_mm_send 30 = .ok (.iload_n 1, 1) := by decide +kernel
theorem d_mm_send_31 : decode b_mm_send 31 = .ok (.iload_n 2, 1) := by decide +kernel
theorem d_mm_send_32 : decode b_mm_send 32 = .ok (.invokevirtual 95, 3) := by decide +kernel
theorem d_mm_send_35 : decode b_mm_send 35 = .ok (.ireturn, 1) := by decide +kernel
theorem d_mm_run_0 : decode b_mm_run 0 = .ok (.iload_n 1, 1) := by decide +kernel
theorem d_mm_run_1 : decode b_mm_run 1 = .ok (.ifCond .lt 10, 3) := by decide +kernel
theorem d_mm_run_4 : decode b_mm_run 4 = .ok (.iload_n 1, 1) := by decide +kernel
theorem d_mm_run_5 : decode b_mm_run 5 = .ok (.sipush 500, 3) := by decide +kernel
theorem d_mm_run_8 : decode b_mm_run 8 = .ok (.if_icmp .le 5, 3) := by decide +kernel
theorem d_mm_run_11 : decode b_mm_run 11 = .ok (.iconst (-1), 1) := by decide +kernel
theorem d_mm_run_12 : decode b_mm_run 12 = .ok (.ireturn, 1) := by decide +kernel
theorem d_mm_run_13 : decode b_mm_run 13 = .ok (.iconst 0, 1) := by decide +kernel
theorem d_mm_run_14 : decode b_mm_run 14 = .ok (.istore_n 2, 1) := by decide +kernel
theorem d_mm_run_15 : decode b_mm_run 15 = .ok (.iload_n 2, 1) := by decide +kernel
theorem d_mm_run_16 : decode b_mm_run 16 = .ok (.iload_n 1, 1) := by decide +kernel
theorem d_mm_run_17 : decode b_mm_run 17 = .ok (.if_icmp .ge 30, 3) := by decide +kernel
theorem d_mm_run_20 : decode b_mm_run 20 = .ok (.aload_n 0, 1) := by decide +kernel
theorem d_mm_run_21 : decode b_mm_run 21 = .ok (.getfield 28, 3) := by decide +kernel
theorem d_mm_run_24 : decode b_mm_run 24 = .ok (.invokevirtual 91, 3) := by decide +kernel
theorem d_mm_run_27 : decode b_mm_run 27 = .ok (.iconst 1, 1) := by decide +kernel
theorem d_mm_run_28 : decode b_mm_run 28 = .ok (.if_icmp .ne 19, 3) := by decide +kernel
theorem d_mm_run_31 : decode b_mm_run 31 = .ok (.aload_n 0, 1) := by decide +kernel
theorem d_mm_run_32 : decode b_mm_run 32 = .ok (.getfield 28, 3) := by decide +kernel
theorem d_mm_run_35 : decode b_mm_run 35 = .ok (.invokevirtual 98, 3) := by decide +kernel
theorem d_mm_run_38 : decode b_mm_run 38 = .ok (.ifCond .eq 9, 3) := by decide +kernel
theorem d_mm_run_41 : decode b_mm_run 41 = .ok (.iinc 2 1, 3) := by decide +kernel
theorem d_mm_run_44 : decode b_mm_run 44 = .ok (.goto (-29), 3) := by decide +kernel
theorem d_mm_run_47 : decode b_mm_run 47 = .ok (.iload_n 2, 1) := by decide +kernel
theorem d_mm_run_48 : decode b_mm_run 48 = .ok (.ireturn, 1) := by decide +kernel
theorem d_mm_abort_0 : decode b_mm_abort 0 = .ok (.aload_n 0, 1) := by decide +kernel
theorem d_mm_abort_1 : decode b_mm_abort 1 = .ok (.getfield 28, 3) := by decide +kernel
theorem d_mm_abort_4 : decode b_mm_abort 4 = .ok (.invokevirtual 91, 3) := by decide +kernel
theorem d_mm_abort_7 : decode b_mm_abort 7 = .ok (.ifCond .ne 5, 3) := by decide +kernel
theorem d_mm_abort_10 : decode b_mm_abort 10 = .ok (.iconst 0, 1) := by decide +kernel
theorem d_mm_abort_11 : decode b_mm_abort 11 = .ok (.ireturn, 1) := by decide +kernel
theorem d_mm_abort_12 : decode b_mm_abort 12 = .ok (.aload_n 0, 1) := by decide +kernel
theorem d_mm_abort_13 : decode b_mm_abort 13 = .ok (.getfield 28, 3) := by decide +kernel
theorem d_mm_abort_16 : decode b_mm_abort 16 = .ok (.invokevirtual 102, 3) := by decide +kernel
theorem d_mm_abort_19 : decode b_mm_abort 19 = .ok (.iconst 1, 1) := by decide +kernel
theorem d_mm_abort_20 : decode b_mm_abort 20 = .ok (.ireturn, 1) := by decide +kernel
theorem d_mm_sweep_0 : decode b_mm_sweep 0 = .ok (.aload_n 0, 1) := by decide +kernel
theorem d_mm_sweep_1 : decode b_mm_sweep 1 = .ok (.getfield 12, 3) := by decide +kernel
theorem d_mm_sweep_4 : decode b_mm_sweep 4 = .ok (.invokevirtual 105, 3) := by decide +kernel
theorem d_mm_sweep_7 : decode b_mm_sweep 7 = .ok (.ireturn, 1) := by decide +kernel
theorem d_mm_state_0 : decode b_mm_state 0 = .ok (.aload_n 0, 1) := by decide +kernel
theorem d_mm_state_1 : decode b_mm_state 1 = .ok (.getfield 28, 3) := by decide +kernel
theorem d_mm_state_4 : decode b_mm_state 4 = .ok (.invokevirtual 91, 3) := by decide +kernel
theorem d_mm_state_7 : decode b_mm_state 7 = .ok (.ireturn, 1) := by decide +kernel
theorem d_mm_reason_0 : decode b_mm_reason 0 = .ok (.aload_n 0, 1) := by decide +kernel
theorem d_mm_reason_1 : decode b_mm_reason 1 = .ok (.getfield 28, 3) := by decide +kernel
theorem d_mm_reason_4 : decode b_mm_reason 4 = .ok (.invokevirtual 108, 3) := by decide +kernel
theorem d_mm_reason_7 : decode b_mm_reason 7 = .ok (.ireturn, 1) := by decide +kernel
theorem d_mm_active_0 : decode b_mm_active 0 = .ok (.aload_n 0, 1) := by decide +kernel
theorem d_mm_active_1 : decode b_mm_active 1 = .ok (.getfield 12, 3) := by decide +kernel
theorem d_mm_active_4 : decode b_mm_active 4 = .ok (.bipush 6, 2) := by decide +kernel
theorem d_mm_active_6 : decode b_mm_active 6 = .ok (.invokevirtual 36, 3) := by decide +kernel
theorem d_mm_active_9 : decode b_mm_active 9 = .ok (.ireturn, 1) := by decide +kernel
theorem d_mm_stack_0 : decode b_mm_stack 0 = .ok (.aload_n 0, 1) := by decide +kernel
theorem d_mm_stack_1 : decode b_mm_stack 1 = .ok (.getfield 12, 3) := by decide +kernel
theorem d_mm_stack_4 : decode b_mm_stack 4 = .ok (.iload_n 1, 1) := by decide +kernel
theorem d_mm_stack_5 : decode b_mm_stack 5 = .ok (.invokevirtual 111, 3) := by decide +kernel
theorem d_mm_stack_8 : decode b_mm_stack 8 = .ok (.ifCond .eq 14, 3) := by decide +kernel
theorem d_mm_stack_11 : decode b_mm_stack 11 = .ok (.aload_n 0, 1) := by decide +kernel
theorem d_mm_stack_12 : decode b_mm_stack 12 = .ok (.getfield 12, 3) := by decide +kernel
theorem d_mm_stack_15 : decode b_mm_stack 15 = .ok (.iload_n 1, 1) := by decide +kernel
theorem d_mm_stack_16 : decode b_mm_stack 16 = .ok (.invokevirtual 114, 3) := by decide +kernel
theorem d_mm_stack_19 : decode b_mm_stack 19 = .ok (.goto 4, 3) := by decide +kernel
theorem d_mm_stack_22 : decode b_mm_stack 22 = .ok (.iconst (-1), 1) := by decide +kernel
theorem d_mm_stack_23 : decode b_mm_stack 23 = .ok (.ireturn, 1) := by decide +kernel
theorem d_mm_handle_0 : decode b_mm_handle 0 = .ok (.iload_n 1, 1) := by decide +kernel
theorem d_mm_handle_1 : decode b_mm_handle 1 = .ok (.invokestatic 32, 3) := by decide +kernel
theorem d_mm_handle_4 : decode b_mm_handle 4 = .ok (.ifCond .eq 14, 3) := by decide +kernel
theorem d_mm_handle_7 : decode b_mm_handle 7 = .ok (.aload_n 0, 1) := by decide +kernel
theorem d_mm_handle_8 : decode b_mm_handle 8 = .ok (.getfield 12, 3) := by decide +kernel
theorem d_mm_handle_11 : decode b_mm_handle 11 = .ok (.iload_n 1, 1) := by decide +kernel
theorem d_mm_handle_12 : decode b_mm_handle 12 = .ok (.invokevirtual 36, 3) := by decide +kernel
theorem d_mm_handle_15 : decode b_mm_handle 15 = .ok (.goto 4, 3) := by decide +kernel
theorem d_mm_handle_18 : decode b_mm_handle 18 = .ok (.iconst (-1), 1) := by decide +kernel
theorem d_mm_handle_19 : decode b_mm_handle 19 = .ok (.ireturn, 1) := by decide +kernel
theorem d_mm_field_0 : decode b_mm_field 0 = .ok (.aload_n 0, 1) := by decide +kernel
theorem d_mm_field_1 : decode b_mm_field 1 = .ok (.getfield 12, 3) := by decide +kernel
theorem d_mm_field_4 : decode b_mm_field 4 = .ok (.iload_n 1, 1) := by decide +kernel
theorem d_mm_field_5 : decode b_mm_field 5 = .ok (.iload_n 2, 1) := by decide +kernel
theorem d_mm_field_6 : decode b_mm_field 6 = .ok (.invokevirtual 68, 3) := by decide +kernel
theorem d_mm_field_9 : decode b_mm_field 9 = .ok (.ifCond .eq 15, 3) := by decide +kernel
theorem d_mm_field_12 : decode b_mm_field 12 = .ok (.aload_n 0, 1) := by decide +kernel
theorem d_mm_field_13 : decode b_mm_field 13 = .ok (.getfield 12, 3) := by decide +kernel
theorem d_mm_field_16 : decode b_mm_field 16 = .ok (.iload_n 1, 1) := by decide +kernel
theorem d_mm_field_17 : decode b_mm_field 17 = .ok (.iload_n 2, 1) := by decide +kernel
theorem d_mm_field_18 : decode b_mm_field 18 = .ok (.invokevirtual 72, 3) := by decide +kernel
theorem d_mm_field_21 : decode b_mm_field 21 = .ok (.goto 4, 3) := by decide +kernel
theorem d_mm_field_24 : decode b_mm_field 24 = .ok (.iconst (-1), 1) := by decide +kernel
theorem d_mm_field_25 : decode b_mm_field 25 = .ok (.ireturn, 1) := by decide +kernel
theorem d_mm_classOf_0 : decode b_mm_classOf 0 = .ok (.aload_n 0, 1) := by decide +kernel
theorem d_mm_classOf_1 : decode b_mm_classOf 1 = .ok (.getfield 12, 3) := by decide +kernel
theorem d_mm_classOf_4 : decode b_mm_classOf 4 = .ok (.iload_n 1, 1) := by decide +kernel
theorem d_mm_classOf_5 : decode b_mm_classOf 5 = .ok (.invokevirtual 117, 3) := by decide +kernel
theorem d_mm_classOf_8 : decode b_mm_classOf 8 = .ok (.ifCond .eq 14, 3) := by decide +kernel
theorem d_mm_classOf_11 : decode b_mm_classOf 11 = .ok (.aload_n 0, 1) := by decide +kernel
theorem d_mm_classOf_12 : decode b_mm_classOf 12 = .ok (.getfield 12, 3) := by decide +kernel
theorem d_mm_classOf_15 : decode b_mm_classOf 15 = .ok (.iload_n 1, 1) := by decide +kernel
theorem d_mm_classOf_16 : decode b_mm_classOf 16 = .ok (.invokevirtual 75, 3) := by decide +kernel
theorem d_mm_classOf_19 : decode b_mm_classOf 19 = .ok (.goto 4, 3) := by decide +kernel
theorem d_mm_classOf_22 : decode b_mm_classOf 22 = .ok (.iconst (-1), 1) := by decide +kernel
theorem d_mm_classOf_23 : decode b_mm_classOf 23 = .ok (.ireturn, 1) := by decide +kernel
theorem d_mm_count_0 : decode b_mm_count 0 = .ok (.aload_n 0, 1) := by decide +kernel
theorem d_mm_count_1 : decode b_mm_count 1 = .ok (.getfield 12, 3) := by decide +kernel
theorem d_mm_count_4 : decode b_mm_count 4 = .ok (.iload_n 1, 1) := by decide +kernel
theorem d_mm_count_5 : decode b_mm_count 5 = .ok (.invokevirtual 117, 3) := by decide +kernel
theorem d_mm_count_8 : decode b_mm_count 8 = .ok (.ifCond .eq 14, 3) := by decide +kernel
theorem d_mm_count_11 : decode b_mm_count 11 = .ok (.aload_n 0, 1) := by decide +kernel
theorem d_mm_count_12 : decode b_mm_count 12 = .ok (.getfield 12, 3) := by decide +kernel
theorem d_mm_count_15 : decode b_mm_count 15 = .ok (.iload_n 1, 1) := by decide +kernel
theorem d_mm_count_16 : decode b_mm_count 16 = .ok (.invokevirtual 120, 3) := by decide +kernel
theorem d_mm_count_19 : decode b_mm_count 19 = .ok (.goto 4, 3) := by decide +kernel
theorem d_mm_count_22 : decode b_mm_count 22 = .ok (.iconst (-1), 1) := by decide +kernel
theorem d_mm_count_23 : decode b_mm_count 23 = .ok (.ireturn, 1) := by decide +kernel
theorem d_mm_alive_0 : decode b_mm_alive 0 = .ok (.aload_n 0, 1) := by decide +kernel
theorem d_mm_alive_1 : decode b_mm_alive 1 = .ok (.getfield 12, 3) := by decide +kernel
theorem d_mm_alive_4 : decode b_mm_alive 4 = .ok (.invokevirtual 123, 3) := by decide +kernel
theorem d_mm_alive_7 : decode b_mm_alive 7 = .ok (.ireturn, 1) := by decide +kernel
theorem d_mm_lookup_0 : decode b_mm_lookup 0 = .ok (.iload_n 1, 1) := by decide +kernel
theorem d_mm_lookup_1 : decode b_mm_lookup 1 = .ok (.invokestatic 32, 3) := by decide +kernel
theorem d_mm_lookup_4 : decode b_mm_lookup 4 = .ok (.ifCond .eq 10, 3) := by decide +kernel
theorem d_mm_lookup_7 : decode b_mm_lookup 7 = .ok (.iload_n 2, 1) := by decide +kernel
theorem d_mm_lookup_8 : decode b_mm_lookup 8 = .ok (.invokestatic 58, 3) := by decide +kernel
theorem d_mm_lookup_11 : decode b_mm_lookup 11 = .ok (.ifCond .ne 5, 3) := by decide +kernel
theorem d_mm_lookup_14 : decode b_mm_lookup 14 = .ok (.iconst (-1), 1) := by decide +kernel
theorem d_mm_lookup_15 : decode b_mm_lookup 15 = .ok (.ireturn, 1) := by decide +kernel
theorem d_mm_lookup_16 : decode b_mm_lookup 16 = .ok (.aload_n 0, 1) := by decide +kernel
theorem d_mm_lookup_17 : decode b_mm_lookup 17 = .ok (.getfield 28, 3) := by decide +kernel
theorem d_mm_lookup_20 : decode b_mm_lookup 20 = .ok (.aload_n 0, 1) := by decide +kernel
theorem d_mm_lookup_21 : decode b_mm_lookup 21 = .ok (.getfield 12, 3) := by decide +kernel
theorem d_mm_lookup_24 : decode b_mm_lookup 24 = .ok (.aload_n 0, 1) := by decide +kernel
theorem d_mm_lookup_25 : decode b_mm_lookup 25 = .ok (.getfield 12, 3) := by decide +kernel
theorem d_mm_lookup_28 : decode b_mm_lookup 28 = .ok (.iload_n 1, 1) := by decide +kernel
theorem d_mm_lookup_29 : decode b_mm_lookup 29 = .ok (.invokevirtual 36, 3) := by decide +kernel
theorem d_mm_lookup_32 : decode b_mm_lookup 32 = .ok (.invokevirtual 75, 3) := by decide +kernel
theorem d_mm_lookup_35 : decode b_mm_lookup 35 = .ok (.iload_n 2, 1) := by decide +kernel
theorem d_mm_lookup_36 : decode b_mm_lookup 36 = .ok (.invokevirtual 126, 3) := by decide +kernel
theorem d_mm_lookup_39 : decode b_mm_lookup 39 = .ok (.ireturn, 1) := by decide +kernel
theorem d_mm_giveHandle_0 : decode b_mm_giveHandle 0 = .ok (.aload_n 0, 1) := by decide +kernel
theorem d_mm_giveHandle_1 : decode b_mm_giveHandle 1 = .ok (.getfield 12, 3) := by decide +kernel
theorem d_mm_giveHandle_4 : decode b_mm_giveHandle 4 = .ok (.iload_n 1, 1) := by decide +kernel
theorem d_mm_giveHandle_5 : decode b_mm_giveHandle 5 = .ok (.iload_n 2, 1) := by decide +kernel
theorem d_mm_giveHandle_6 : decode b_mm_giveHandle 6 = .ok (.invokevirtual 129, 3) := by decide +kernel
theorem d_mm_giveHandle_9 : decode b_mm_giveHandle 9 = .ok (.aload_n 0, 1) := by decide +kernel
theorem d_mm_giveHandle_10 : decode b_mm_giveHandle 10 = .ok (.getfield 12, 3) := by decide +kernel
theorem d_mm_giveHandle_13 : decode b_mm_giveHandle 13 = .ok (.invokevirtual 85, 3) := by decide +kernel
theorem d_mm_giveHandle_16 : decode b_mm_giveHandle 16 = .ok (.return_, 1) := by decide +kernel
theorem d_mm_holdsClass_0 : decode b_mm_holdsClass 0 = .ok (.iload_n 1, 1) := by decide +kernel
theorem d_mm_holdsClass_1 : decode b_mm_holdsClass 1 = .ok (.invokestatic 32, 3) := by decide +kernel
theorem d_mm_holdsClass_4 : decode b_mm_holdsClass 4 = .ok (.ifCond .eq 25, 3) := by decide +kernel
theorem d_mm_holdsClass_7 : decode b_mm_holdsClass 7 = .ok (.aload_n 0, 1) := by decide +kernel
theorem d_mm_holdsClass_8 : decode b_mm_holdsClass 8 = .ok (.getfield 12, 3) := by decide +kernel
theorem d_mm_holdsClass_11 : decode b_mm_holdsClass 11 = .ok (.aload_n 0, 1) := by decide +kernel
theorem d_mm_holdsClass_12 : decode b_mm_holdsClass 12 = .ok (.getfield 12, 3) := by decide +kernel
theorem d_mm_holdsClass_15 : decode b_mm_holdsClass 15 = .ok (.iload_n 1, 1) := by decide +kernel
theorem d_mm_holdsClass_16 : decode b_mm_holdsClass 16 = .ok (.invokevirtual 36, 3) := by decide +kernel
theorem d_mm_holdsClass_19 : decode b_mm_holdsClass 19 = .ok (.invokevirtual 132, 3) := by decide +kernel
theorem d_mm_holdsClass_22 : decode b_mm_holdsClass 22 = .ok (.ifCond .eq 7, 3) := by decide +kernel
theorem d_mm_holdsClass_25 : decode b_mm_holdsClass 25 = .ok (.iconst 1, 1) := by decide +kernel
theorem d_mm_holdsClass_26 : decode b_mm_holdsClass 26 = .ok (.goto 4, 3) := by decide +kernel
theorem d_mm_holdsClass_29 : decode b_mm_holdsClass 29 = .ok (.iconst 0, 1) := by decide +kernel
theorem d_mm_holdsClass_30 : decode b_mm_holdsClass 30 = .ok (.ireturn, 1) := by decide +kernel
theorem d_mm_isHandle_0 : decode b_mm_isHandle 0 = .ok (.iload_n 0, 1) := by decide +kernel
theorem d_mm_isHandle_1 : decode b_mm_isHandle 1 = .ok (.ifCond .lt 13, 3) := by decide +kernel
theorem d_mm_isHandle_4 : decode b_mm_isHandle 4 = .ok (.iload_n 0, 1) := by decide +kernel
theorem d_mm_isHandle_5 : decode b_mm_isHandle 5 = .ok (.bipush 6, 2) := by decide +kernel
theorem d_mm_isHandle_7 : decode b_mm_isHandle 7 = .ok (.if_icmp .ge 7, 3) := by decide +kernel
theorem d_mm_isHandle_10 : decode b_mm_isHandle 10 = .ok (.iconst 1, 1) := by decide +kernel
theorem d_mm_isHandle_11 : decode b_mm_isHandle 11 = .ok (.goto 4, 3) := by decide +kernel
theorem d_mm_isHandle_14 : decode b_mm_isHandle 14 = .ok (.iconst 0, 1) := by decide +kernel
theorem d_mm_isHandle_15 : decode b_mm_isHandle 15 = .ok (.ireturn, 1) := by decide +kernel
theorem d_mm_isSelector_0 : decode b_mm_isSelector 0 = .ok (.iload_n 0, 1) := by decide +kernel
theorem d_mm_isSelector_1 : decode b_mm_isSelector 1 = .ok (.ifCond .lt 13, 3) := by decide +kernel
theorem d_mm_isSelector_4 : decode b_mm_isSelector 4 = .ok (.iload_n 0, 1) := by decide +kernel
theorem d_mm_isSelector_5 : decode b_mm_isSelector 5 = .ok (.bipush 8, 2) := by decide +kernel
theorem d_mm_isSelector_7 : decode b_mm_isSelector 7 = .ok (.if_icmp .ge 7, 3) := by decide +kernel
theorem d_mm_isSelector_10 : decode b_mm_isSelector 10 = .ok (.iconst 1, 1) := by decide +kernel
theorem d_mm_isSelector_11 : decode b_mm_isSelector 11 = .ok (.goto 4, 3) := by decide +kernel
theorem d_mm_isSelector_14 : decode b_mm_isSelector 14 = .ok (.iconst 0, 1) := by decide +kernel
theorem d_mm_isSelector_15 : decode b_mm_isSelector 15 = .ok (.ireturn, 1) := by decide +kernel
theorem d_mm_argumentsOf_0 : decode b_mm_argumentsOf 0 = .ok (.iload_n 0, 1) := by decide +kernel
theorem d_mm_argumentsOf_1 : decode b_mm_argumentsOf 1 = .ok (.iconst 3, 1) := by decide +kernel
theorem d_mm_argumentsOf_2 : decode b_mm_argumentsOf 2 = .ok (.irem, 1) := by decide +kernel
theorem d_mm_argumentsOf_3 : decode b_mm_argumentsOf 3 = .ok (.ireturn, 1) := by decide +kernel
theorem d_mm_isObject_0 : decode b_mm_isObject 0 = .ok (.iload_n 0, 1) := by decide +kernel
theorem d_mm_isObject_1 : decode b_mm_isObject 1 = .ok (.ifCond .lt 13, 3) := by decide +kernel
theorem d_mm_isObject_4 : decode b_mm_isObject 4 = .ok (.iload_n 0, 1) := by decide +kernel
theorem d_mm_isObject_5 : decode b_mm_isObject 5 = .ok (.bipush 28, 2) := by decide +kernel
theorem d_mm_isObject_7 : decode b_mm_isObject 7 = .ok (.if_icmp .ge 7, 3) := by decide +kernel
theorem d_mm_isObject_10 : decode b_mm_isObject 10 = .ok (.iconst 1, 1) := by decide +kernel
theorem d_mm_isObject_11 : decode b_mm_isObject 11 = .ok (.goto 4, 3) := by decide +kernel
theorem d_mm_isObject_14 : decode b_mm_isObject 14 = .ok (.iconst 0, 1) := by decide +kernel
theorem d_mm_isObject_15 : decode b_mm_isObject 15 = .ok (.ireturn, 1) := by decide +kernel
