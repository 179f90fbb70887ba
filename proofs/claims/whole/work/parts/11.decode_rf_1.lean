theorem d_rf_method_121 : decode b_rf_method 121 = .ok (.invokevirtual 50, 3) := by decide +kernel
theorem d_rf_method_124 : decode b_rf_method 124 = .ok (.iconst 1, 1) := by decide +kernel
theorem d_rf_method_125 : decode b_rf_method 125 = .ok (.ireturn, 1) := by decide +kernel
theorem d_rf_make_0 : decode b_rf_make 0 = .ok (.iload_n 1, 1) := by decide +kernel
theorem d_rf_make_1 : decode b_rf_make 1 = .ok (.invokestatic 64, 3) := by decide +kernel
theorem d_rf_make_4 : decode b_rf_make 4 = .ok (.ifCond .ne 33, 3) := by decide +kernel
theorem d_rf_make_7 : decode b_rf_make 7 = .ok (.iload_n 2, 1) := by decide +kernel
theorem d_rf_make_8 : decode b_rf_make 8 = .ok (.invokestatic 64, 3) := by decide +kernel
theorem d_rf_make_11 : decode b_rf_make 11 = .ok (.ifCond .ne 26, 3) := by decide +kernel
theorem d_rf_make_14 : decode b_rf_make 14 = .ok (.aload_n 0, 1) := by decide +kernel
theorem d_rf_make_15 : decode b_rf_make 15 = .ok (.aload_n 0, 1) := by decide +kernel
theorem d_rf_make_16 : decode b_rf_make 16 = .ok (.getfield 44, 3) := by decide +kernel
theorem d_rf_make_19 : decode b_rf_make 19 = .ok (.iload_n 2, 1) := by decide +kernel
theorem d_rf_make_20 : decode b_rf_make 20 = .ok (.iaload, 1) := by decide +kernel
theorem d_rf_make_21 : decode b_rf_make 21 = .ok (.invokevirtual 67, 3) := by decide +kernel
theorem d_rf_make_24 : decode b_rf_make 24 = .ok (.ifCond .eq 13, 3) := by decide +kernel
theorem d_rf_make_27 : decode b_rf_make 27 = .ok (.aload_n 0, 1) := by decide +kernel
theorem d_rf_make_28 : decode b_rf_make 28 = .ok (.getfield 44, 3) := by decide +kernel
theorem d_rf_make_31 : decode b_rf_make 31 = .ok (.iload_n 2, 1) := by decide +kernel
theorem d_rf_make_32 : decode b_rf_make 32 = .ok (.iaload, 1) := by decide +kernel
theorem d_rf_make_33 : decode b_rf_make 33 = .ok (.iconst 3, 1) := by decide +kernel
theorem d_rf_make_34 : decode b_rf_make 34 = .ok (.if_icmp .ne 5, 3) := by decide +kernel
theorem d_rf_make_37 : decode b_rf_make 37 = .ok (.iconst (-1), 1) := by decide +kernel
theorem d_rf_make_38 : decode b_rf_make 38 = .ok (.ireturn, 1) := by decide +kernel
theorem d_rf_make_39 : decode b_rf_make 39 = .ok (.aload_n 0, 1) := by decide +kernel
theorem d_rf_make_40 : decode b_rf_make 40 = .ok (.invokevirtual 70, 3) := by decide +kernel
theorem d_rf_make_43 : decode b_rf_make 43 = .ok (.istore_n 3, 1) := by decide +kernel
theorem d_rf_make_44 : decode b_rf_make 44 = .ok (.iload_n 3, 1) := by decide +kernel
theorem d_rf_make_45 : decode b_rf_make 45 = .ok (.ifCond .ge 5, 3) := by decide +kernel
theorem d_rf_make_48 : decode b_rf_make 48 = .ok (.iconst (-1), 1) := by decide +kernel
theorem d_rf_make_49 : decode b_rf_make 49 = .ok (.ireturn, 1) := by decide +kernel
theorem d_rf_make_50 : decode b_rf_make 50 = .ok (.aload_n 0, 1) := by decide +kernel
theorem d_rf_make_51 : decode b_rf_make 51 = .ok (.iload_n 3, 1) := by decide +kernel
theorem d_rf_make_52 : decode b_rf_make 52 = .ok (.iconst 0, 1) := by decide +kernel
theorem d_rf_make_53 : decode b_rf_make 53 = .ok (.aload_n 0, 1) := by decide +kernel
theorem d_rf_make_54 : decode b_rf_make 54 = .ok (.getfield 44, 3) := by decide +kernel
theorem d_rf_make_57 : decode b_rf_make 57 = .ok (.iload_n 2, 1) := by decide +kernel
theorem d_rf_make_58 : decode b_rf_make 58 = .ok (.iaload, 1) := by decide +kernel
theorem d_rf_make_59 : decode b_rf_make 59 = .ok (.aload_n 0, 1) := by decide +kernel
theorem d_rf_make_60 : decode b_rf_make 60 = .ok (.getfield 32, 3) := by decide +kernel
theorem d_rf_make_63 : decode b_rf_make 63 = .ok (.aload_n 0, 1) := by decide +kernel
theorem d_rf_make_64 : decode b_rf_make 64 = .ok (.getfield 44, 3) := by decide +kernel
theorem d_rf_make_67 : decode b_rf_make 67 = .ok (.iload_n 2, 1) := by decide +kernel
theorem d_rf_make_68 : decode b_rf_make 68 = .ok (.iaload, 1) := by decide +kernel
theorem d_rf_make_69 : decode b_rf_make 69 = .ok (.iaload, 1) := by decide +kernel
theorem d_rf_make_70 : decode b_rf_make 70 = .ok (.invokevirtual 74, 3) := by decide +kernel
theorem d_rf_make_73 : decode b_rf_make 73 = .ok (.aload_n 0, 1) := by decide +kernel
theorem d_rf_make_74 : decode b_rf_make 74 = .ok (.getfield 44, 3) := by decide +kernel
theorem d_rf_make_77 : decode b_rf_make 77 = .ok (.iload_n 1, 1) := by decide +kernel
theorem d_rf_make_78 : decode b_rf_make 78 = .ok (.iload_n 3, 1) := by decide +kernel
theorem d_rf_make_79 : decode b_rf_make 79 = .ok (.iastore, 1) := by decide +kernel
theorem d_rf_make_80 : decode b_rf_make 80 = .ok (.aload_n 0, 1) := by decide +kernel
theorem d_rf_make_81 : decode b_rf_make 81 = .ok (.invokevirtual 50, 3) := by decide +kernel
theorem d_rf_make_84 : decode b_rf_make 84 = .ok (.iload_n 3, 1) := by decide +kernel
theorem d_rf_make_85 : decode b_rf_make 85 = .ok (.ireturn, 1) := by decide +kernel
theorem d_rf_put_0 : decode b_rf_put 0 = .ok (.aload_n 0, 1) := by decide +kernel
theorem d_rf_put_1 : decode b_rf_put 1 = .ok (.getfield 44, 3) := by decide +kernel
theorem d_rf_put_4 : decode b_rf_put 4 = .ok (.iload_n 1, 1) := by decide +kernel
theorem d_rf_put_5 : decode b_rf_put 5 = .ok (.iload_n 2, 1) := by decide +kernel
theorem d_rf_put_6 : decode b_rf_put 6 = .ok (.iastore, 1) := by decide +kernel
theorem d_rf_put_7 : decode b_rf_put 7 = .ok (.aload_n 0, 1) := by decide +kernel
theorem d_rf_put_8 : decode b_rf_put 8 = .ok (.invokevirtual 50, 3) := by decide +kernel
theorem d_rf_put_11 : decode b_rf_put 11 = .ok (.iconst 1, 1) := by decide +kernel
theorem d_rf_put_12 : decode b_rf_put 12 = .ok (.ireturn, 1) := by decide +kernel
theorem d_rf_number_0 : decode b_rf_number 0 = .ok (.iload_n 1, 1) := by decide +kernel
theorem d_rf_number_1 : decode b_rf_number 1 = .ok (.invokestatic 64, 3) := by decide +kernel
theorem d_rf_number_4 : decode b_rf_number 4 = .ok (.ifCond .ne 34, 3) := by decide +kernel
theorem d_rf_number_7 : decode b_rf_number 7 = .ok (.iload_n 2, 1) := by decide +kernel
theorem d_rf_number_8 : decode b_rf_number 8 = .ok (.sipush (-512), 3) := by decide +kernel
theorem d_rf_number_11 : decode b_rf_number 11 = .ok (.if_icmp .lt 27, 3) := by decide +kernel
theorem d_rf_number_14 : decode b_rf_number 14 = .ok (.iload_n 2, 1) := by decide +kernel
theorem d_rf_number_15 : decode b_rf_number 15 = .ok (.sipush 511, 3) := by decide +kernel
theorem d_rf_number_18 : decode b_rf_number 18 = .ok (.if_icmp .gt 20, 3) := by decide +kernel
theorem d_rf_number_21 : decode b_rf_number 21 = .ok (.aload_n 0, 1) := by decide +kernel
theorem d_rf_number_22 : decode b_rf_number 22 = .ok (.iload_n 1, 1) := by decide +kernel
theorem d_rf_number_23 : decode b_rf_number 23 = .ok (.sipush 1000, 3) := by decide +kernel
theorem d_rf_number_26 : decode b_rf_number 26 = .ok (.iload_n 2, 1) := by decide +kernel
theorem d_rf_number_27 : decode b_rf_number 27 = .ok (.iadd, 1) := by decide +kernel
theorem d_rf_number_28 : decode b_rf_number 28 = .ok (.invokevirtual 83, 3) := by decide +kernel
theorem d_rf_number_31 : decode b_rf_number 31 = .ok (.ifCond .eq 7, 3) := by decide +kernel
theorem d_rf_number_34 : decode b_rf_number 34 = .ok (.iconst 1, 1) := by decide +kernel
theorem d_rf_number_35 : decode b_rf_number 35 = .ok (.goto 4, 3) := by decide +kernel
theorem d_rf_number_38 : decode b_rf_number 38 = .ok (.iconst 0, 1) := by decide +kernel
theorem d_rf_number_39 : decode b_rf_number 39 = .ok (.ireturn, 1) := by decide +kernel
theorem d_rf_move_0 : decode b_rf_move 0 = .ok (.iload_n 1, 1) := by decide +kernel
theorem d_rf_move_1 : decode b_rf_move 1 = .ok (.invokestatic 64, 3) := by decide +kernel
theorem d_rf_move_4 : decode b_rf_move 4 = .ok (.ifCond .ne 28, 3) := by decide +kernel
theorem d_rf_move_7 : decode b_rf_move 7 = .ok (.iload_n 2, 1) := by decide +kernel
theorem d_rf_move_8 : decode b_rf_move 8 = .ok (.invokestatic 64, 3) := by decide +kernel
theorem d_rf_move_11 : decode b_rf_move 11 = .ok (.ifCond .ne 21, 3) := by decide +kernel
theorem d_rf_move_14 : decode b_rf_move 14 = .ok (.aload_n 0, 1) := by decide +kernel
theorem d_rf_move_15 : decode b_rf_move 15 = .ok (.iload_n 1, 1) := by decide +kernel
theorem d_rf_move_16 : decode b_rf_move 16 = .ok (.aload_n 0, 1) := by decide +kernel
theorem d_rf_move_17 : decode b_rf_move 17 = .ok (.getfield 44, 3) := by decide +kernel
theorem d_rf_move_20 : decode b_rf_move 20 = .ok (.iload_n 2, 1) := by decide +kernel
theorem d_rf_move_21 : decode b_rf_move 21 = .ok (.iaload, 1) := by decide +kernel
theorem d_rf_move_22 : decode b_rf_move 22 = .ok (.invokevirtual 83, 3) := by decide +kernel
theorem d_rf_move_25 : decode b_rf_move 25 = .ok (.ifCond .eq 7, 3) := by decide +kernel
theorem d_rf_move_28 : decode b_rf_move 28 = .ok (.iconst 1, 1) := by decide +kernel
theorem d_rf_move_29 : decode b_rf_move 29 = .ok (.goto 4, 3) := by decide +kernel
theorem d_rf_move_32 : decode b_rf_move 32 = .ok (.iconst 0, 1) := by decide +kernel
theorem d_rf_move_33 : decode b_rf_move 33 = .ok (.ireturn, 1) := by decide +kernel
theorem d_rf_drop_0 : decode b_rf_drop 0 = .ok (.iload_n 1, 1) := by decide +kernel
theorem d_rf_drop_1 : decode b_rf_drop 1 = .ok (.invokestatic 64, 3) := by decide +kernel
theorem d_rf_drop_4 : decode b_rf_drop 4 = .ok (.ifCond .ne 16, 3) := by decide +kernel
theorem d_rf_drop_7 : decode b_rf_drop 7 = .ok (.aload_n 0, 1) := by decide +kernel
theorem d_rf_drop_8 : decode b_rf_drop 8 = .ok (.iload_n 1, 1) := by decide +kernel
theorem d_rf_drop_9 : decode b_rf_drop 9 = .ok (.iconst 0, 1) := by decide +kernel
theorem d_rf_drop_10 : decode b_rf_drop 10 = .ok (.invokevirtual 83, 3) := by decide +kernel
theorem d_rf_drop_13 : decode b_rf_drop 13 = .ok (.ifCond .eq 7, 3) := by decide +kernel
theorem d_rf_drop_16 : decode b_rf_drop 16 = .ok (.iconst 1, 1) := by decide +kernel
theorem d_rf_drop_17 : decode b_rf_drop 17 = .ok (.goto 4, 3) := by decide +kernel
theorem d_rf_drop_20 : decode b_rf_drop 20 = .ok (.iconst 0, 1) := by decide +kernel
theorem d_rf_drop_21 : decode b_rf_drop 21 = .ok (.ireturn, 1) := by decide +kernel
theorem d_rf_fetch_0 : decode b_rf_fetch 0 = .ok (.iload_n 1, 1) := by decide +kernel
theorem d_rf_fetch_1 : decode b_rf_fetch 1 = .ok (.invokestatic 64, 3) := by decide +kernel
theorem d_rf_fetch_4 : decode b_rf_fetch 4 = .ok (.ifCond .ne 52, 3) := by decide +kernel
theorem d_rf_fetch_7 : decode b_rf_fetch 7 = .ok (.iload_n 2, 1) := by decide +kernel
theorem d_rf_fetch_8 : decode b_rf_fetch 8 = .ok (.invokestatic 64, 3) := by decide +kernel
theorem d_rf_fetch_11 : decode b_rf_fetch 11 = .ok (.ifCond .ne 45, 3) := by decide +kernel
theorem d_rf_fetch_14 : decode b_rf_fetch 14 = .ok (.aload_n 0, 1) := by decide +kernel
theorem d_rf_fetch_15 : decode b_rf_fetch 15 = .ok (.aload_n 0, 1) := by decide +kernel
theorem d_rf_fetch_16 : decode b_rf_fetch 16 = .ok (.getfield 44, 3) := by decide +kernel
theorem d_rf_fetch_19 : decode b_rf_fetch 19 = .ok (.iload_n 2, 1) := by decide +kernel
theorem d_rf_fetch_20 : decode b_rf_fetch 20 = .ok (.iaload, 1) := by decide +kernel
theorem d_rf_fetch_21 : decode b_rf_fetch 21 = .ok (.iload_n 3, 1) := by decide +kernel
theorem d_rf_fetch_22 : decode b_rf_fetch 22 = .ok (.invokevirtual 87, 3) := by decide +kernel
theorem d_rf_fetch_25 : decode b_rf_fetch 25 = .ok (.ifCond .eq 31, 3) := by decide +kernel
theorem d_rf_fetch_28 : decode b_rf_fetch 28 = .ok (.aload_n 0, 1) := by decide +kernel
theorem d_rf_fetch_29 : decode b_rf_fetch 29 = .ok (.iload_n 1, 1) := by decide +kernel
theorem d_rf_fetch_30 : decode b_rf_fetch 30 = .ok (.aload_n 0, 1) := by decide +kernel
theorem d_rf_fetch_31 : decode b_rf_fetch 31 = .ok (.getfield 23, 3) := by decide +kernel
theorem d_rf_fetch_34 : decode b_rf_fetch 34 = .ok (.bipush 15, 2) := by decide +kernel
theorem d_rf_fetch_36 : decode b_rf_fetch 36 = .ok (.aload_n 0, 1) := by decide +kernel
theorem d_rf_fetch_37 : decode b_rf_fetch 37 = .ok (.getfield 44, 3) := by decide +kernel
theorem d_rf_fetch_40 : decode b_rf_fetch 40 = .ok (.iload_n 2, 1) := by decide +kernel
theorem d_rf_fetch_41 : decode b_rf_fetch 41 = .ok (.iaload, 1) := by decide +kernel
theorem d_rf_fetch_42 : decode b_rf_fetch 42 = .ok (.imul, 1) := by decide +kernel
theorem d_rf_fetch_43 : decode b_rf_fetch 43 = .ok (.iload_n 3, 1) := by decide +kernel
theorem d_rf_fetch_44 : decode b_rf_fetch 44 = .ok (.iadd, 1) := by decide +kernel
theorem d_rf_fetch_45 : decode b_rf_fetch 45 = .ok (.iaload, 1) := by decide +kernel
theorem d_rf_fetch_46 : decode b_rf_fetch 46 = .ok (.invokevirtual 83, 3) := by decide +kernel
theorem d_rf_fetch_49 : decode b_rf_fetch 49 = .ok (.ifCond .eq 7, 3) := by decide +kernel
theorem d_rf_fetch_52 : decode b_rf_fetch 52 = .ok (.iconst 1, 1) := by decide +kernel
theorem d_rf_fetch_53 : decode b_rf_fetch 53 = .ok (.goto 4, 3) := by decide +kernel
theorem d_rf_fetch_56 : decode b_rf_fetch 56 = .ok (.iconst 0, 1) := by decide +kernel
theorem d_rf_fetch_57 : decode b_rf_fetch 57 = .ok (.ireturn, 1) := by decide +kernel
theorem d_rf_kind_0 : decode b_rf_kind 0 = .ok (.iload_n 1, 1) := by decide +kernel
theorem d_rf_kind_1 : decode b_rf_kind 1 = .ok (.invokestatic 64, 3) := by decide +kernel
theorem d_rf_kind_4 : decode b_rf_kind 4 = .ok (.ifCond .ne 32, 3) := by decide +kernel
theorem d_rf_kind_7 : decode b_rf_kind 7 = .ok (.iload_n 2, 1) := by decide +kernel
theorem d_rf_kind_8 : decode b_rf_kind 8 = .ok (.invokestatic 64, 3) := by decide +kernel
theorem d_rf_kind_11 : decode b_rf_kind 11 = .ok (.ifCond .ne 25, 3) := by decide +kernel
theorem d_rf_kind_14 : decode b_rf_kind 14 = .ok (.aload_n 0, 1) := by decide +kernel
theorem d_rf_kind_15 : decode b_rf_kind 15 = .ok (.iload_n 1, 1) := by decide +kernel
theorem d_rf_kind_16 : decode b_rf_kind 16 = .ok (.aload_n 0, 1) := by decide +kernel
theorem d_rf_kind_17 : decode b_rf_kind 17 = .ok (.aload_n 0, 1) := by decide +kernel
theorem d_rf_kind_18 : decode b_rf_kind 18 = .ok (.getfield 44, 3) := by decide +kernel
theorem d_rf_kind_21 : decode b_rf_kind 21 = .ok (.iload_n 2, 1) := by decide +kernel
theorem d_rf_kind_22 : decode b_rf_kind 22 = .ok (.iaload, 1) := by decide +kernel
theorem d_rf_kind_23 : decode b_rf_kind 23 = .ok (.invokevirtual 90, 3) := by decide +kernel
theorem d_rf_kind_26 : decode b_rf_kind 26 = .ok (.invokevirtual 83, 3) := by decide +kernel
theorem d_rf_kind_29 : decode b_rf_kind 29 = .ok (.ifCond .eq 7, 3) := by decide +kernel
theorem d_rf_kind_32 : decode b_rf_kind 32 = .ok (.iconst 1, 1) := by decide +kernel
theorem d_rf_kind_33 : decode b_rf_kind 33 = .ok (.goto 4, 3) := by decide +kernel
theorem d_rf_kind_36 : decode b_rf_kind 36 = .ok (.iconst 0, 1) := by decide +kernel
theorem d_rf_kind_37 : decode b_rf_kind 37 = .ok (.ireturn, 1) := by decide +kernel
theorem d_rf_store_0 : decode b_rf_store 0 = .ok (.iload_n 3, 1) := by decide +kernel
theorem d_rf_store_1 : decode b_rf_store 1 = .ok (.invokestatic 64, 3) := by decide +kernel
theorem d_rf_store_4 : decode b_rf_store 4 = .ok (.ifCond .ne 38, 3) := by decide +kernel
theorem d_rf_store_7 : decode b_rf_store 7 = .ok (.iload_n 1, 1) := by decide +kernel
theorem d_rf_store_8 : decode b_rf_store 8 = .ok (.invokestatic 64, 3) := by decide +kernel
theorem d_rf_store_11 : decode b_rf_store 11 = .ok (.ifCond .ne 31, 3) := by decide +kernel
theorem d_rf_store_14 : decode b_rf_store 14 = .ok (.aload_n 0, 1) := by decide +kernel
theorem d_rf_store_15 : decode b_rf_store 15 = .ok (.aload_n 0, 1) := by decide +kernel
theorem d_rf_store_16 : decode b_rf_store 16 = .ok (.getfield 44, 3) := by decide +kernel
theorem d_rf_store_19 : decode b_rf_store 19 = .ok (.iload_n 1, 1) := by decide +kernel
theorem d_rf_store_20 : decode b_rf_store 20 = .ok (.iaload, 1) := by decide +kernel
theorem d_rf_store_21 : decode b_rf_store 21 = .ok (.iload_n 2, 1) := by decide +kernel
theorem d_rf_store_22 : decode b_rf_store 22 = .ok (.invokevirtual 87, 3) := by decide +kernel
theorem d_rf_store_25 : decode b_rf_store 25 = .ok (.ifCond .eq 17, 3) := by decide +kernel
theorem d_rf_store_28 : decode b_rf_store 28 = .ok (.aload_n 0, 1) := by decide +kernel
theorem d_rf_store_29 : decode b_rf_store 29 = .ok (.getfield 13, 3) := by decide +kernel
theorem d_rf_store_32 : decode b_rf_store 32 = .ok (.aload_n 0, 1) := by decide +kernel
theorem d_rf_store_33 : decode b_rf_store 33 = .ok (.getfield 44, 3) := by decide +kernel
theorem d_rf_store_36 : decode b_rf_store 36 = .ok (.iload_n 1, 1) := by decide +kernel
theorem d_rf_store_37 : decode b_rf_store 37 = .ok (.iaload, 1) := by decide +kernel
theorem d_rf_store_38 : decode b_rf_store 38 = .ok (.iaload, 1) := by decide +kernel
theorem d_rf_store_39 : decode b_rf_store 39 = .ok (.ifCond .eq 5, 3) := by decide +kernel
theorem d_rf_store_42 : decode b_rf_store 42 = .ok (.iconst 0, 1) := by decide +kernel
theorem d_rf_store_43 : decode b_rf_store 43 = .ok (.ireturn, 1) := by decide +kernel
theorem d_rf_store_44 : decode b_rf_store 44 = .ok (.aload_n 0, 1) := by decide +kernel
theorem d_rf_store_45 : decode b_rf_store 45 = .ok (.getfield 23, 3) := by decide +kernel
theorem d_rf_store_48 : decode b_rf_store 48 = .ok (.bipush 15, 2) := by decide +kernel
theorem d_rf_store_50 : decode b_rf_store 50 = .ok (.aload_n 0, 1) := by decide +kernel
theorem d_rf_store_51 : decode b_rf_store 51 = .ok (.getfield 44, 3) := by decide +kernel
theorem d_rf_store_54 : decode b_rf_store 54 = .ok (.iload_n 1, 1) := by decide +kernel
theorem d_rf_store_55 : decode b_rf_store 55 = .ok (.iaload, 1) := by decide +kernel
theorem d_rf_store_56 : decode b_rf_store 56 = .ok (.imul, 1) := by decide +kernel
theorem d_rf_store_57 : decode b_rf_store 57 = .ok (.iload_n 2, 1) := by decide +kernel
theorem d_rf_store_58 : decode b_rf_store 58 = .ok (.iadd, 1) := by decide +kernel
theorem d_rf_store_59 : decode b_rf_store 59 = .ok (.aload_n 0, 1) := by decide +kernel
theorem d_rf_store_60 : decode b_rf_store 60 = .ok (.getfield 44, 3) := by decide +kernel
theorem d_rf_store_63 : decode b_rf_store 63 = .ok (.iload_n 3, 1) := by decide +kernel
theorem d_rf_store_64 : decode b_rf_store 64 = .ok (.iaload, 1) := by decide +kernel
theorem d_rf_store_65 : decode b_rf_store 65 = .ok (.iastore, 1) := by decide +kernel
theorem d_rf_store_66 : decode b_rf_store 66 = .ok (.aload_n 0, 1) := by decide +kernel
theorem d_rf_store_67 : decode b_rf_store 67 = .ok (.invokevirtual 50, 3) := by decide +kernel
theorem d_rf_store_70 : decode b_rf_store 70 = .ok (.iconst 1, 1) := by decide +kernel
theorem d_rf_store_71 : decode b_rf_store 71 = .ok (.ireturn, 1) := by decide +kernel
theorem d_rf_inherit_0 : decode b_rf_inherit 0 = .ok (.iload_n 1, 1) := by decide +kernel
theorem d_rf_inherit_1 : decode b_rf_inherit 1 = .ok (.invokestatic 64, 3) := by decide +kernel
theorem d_rf_inherit_4 : decode b_rf_inherit 4 = .ok (.ifCond .ne 55, 3) := by decide +kernel
theorem d_rf_inherit_7 : decode b_rf_inherit 7 = .ok (.iload_n 2, 1) := by decide +kernel
theorem d_rf_inherit_8 : decode b_rf_inherit 8 = .ok (.invokestatic 64, 3) := by decide +kernel
theorem d_rf_inherit_11 : decode b_rf_inherit 11 = .ok (.ifCond .ne 48, 3) := by decide +kernel
theorem d_rf_inherit_14 : decode b_rf_inherit 14 = .ok (.aload_n 0, 1) := by decide +kernel
theorem d_rf_inherit_15 : decode b_rf_inherit 15 = .ok (.aload_n 0, 1) := by decide +kernel
theorem d_rf_inherit_16 : decode b_rf_inherit 16 = .ok (.getfield 44, 3) := by decide +kernel
theorem d_rf_inherit_19 : decode b_rf_inherit 19 = .ok (.iload_n 1, 1) := by decide +kernel
theorem d_rf_inherit_20 : decode b_rf_inherit 20 = .ok (.iaload, 1) := by decide +kernel
theorem d_rf_inherit_21 : decode b_rf_inherit 21 = .ok (.invokevirtual 67, 3) := by decide +kernel
theorem d_rf_inherit_24 : decode b_rf_inherit 24 = .ok (.ifCond .eq 35, 3) := by decide +kernel
theorem d_rf_inherit_27 : decode b_rf_inherit 27 = .ok (.aload_n 0, 1) := by decide +kernel
theorem d_rf_inherit_28 : decode b_rf_inherit 28 = .ok (.getfield 44, 3) := by decide +kernel
theorem d_rf_inherit_31 : decode b_rf_inherit 31 = .ok (.iload_n 1, 1) := by decide +kernel
theorem d_rf_inherit_32 : decode b_rf_inherit 32 = .ok (.iaload, 1) := by decide +kernel
theorem d_rf_inherit_33 : decode b_rf_inherit 33 = .ok (.iconst 4, 1) := by decide +kernel
theorem d_rf_inherit_34 : decode b_rf_inherit 34 = .ok (.if_icmp .lt 25, 3) := by decide +kernel
theorem d_rf_inherit_37 : decode b_rf_inherit 37 = .ok (.aload_n 0, 1) := by decide +kernel
theorem d_rf_inherit_38 : decode b_rf_inherit 38 = .ok (.getfield 44, 3) := by decide +kernel
theorem d_rf_inherit_41 : decode b_rf_inherit 41 = .ok (.iload_n 2, 1) := by decide +kernel
theorem d_rf_inherit_42 : decode b_rf_inherit 42 = .ok (.iaload, 1) := by decide +kernel
theorem d_rf_inherit_43 : decode b_rf_inherit 43 = .ok (.ifCond .eq 18, 3) := by decide +kernel
theorem d_rf_inherit_46 : decode b_rf_inherit 46 = .ok (.aload_n 0, 1) := by decide +kernel
theorem d_rf_inherit_47 : decode b_rf_inherit 47 = .ok (.aload_n 0, 1) := by decide +kernel
theorem d_rf_inherit_48 : decode b_rf_inherit 48 = .ok (.getfield 44, 3) := by decide +kernel
theorem d_rf_inherit_51 : decode b_rf_inherit 51 = .ok (.iload_n 2, 1) := by decide +kernel
theorem d_rf_inherit_52 : decode b_rf_inherit 52 = .ok (.iaload, 1) := by decide +kernel
theorem d_rf_inherit_53 : decode b_rf_inherit 53 = .ok (.invokevirtual 67, 3) := by decide +kernel
theorem d_rf_inherit_56 : decode b_rf_inherit 56 = .ok (.ifCond .ne 5, 3) := by decide +kernel
theorem d_rf_inherit_59 : decode b_rf_inherit 59 = .ok (.iconst 0, 1) := by decide +kernel
theorem d_rf_inherit_60 : decode b_rf_inherit 60 = .ok (.ireturn, 1) := by decide +kernel
theorem d_rf_inherit_61 : decode b_rf_inherit 61 = .ok (.aload_n 0, 1) := by decide +kernel
theorem d_rf_inherit_62 : decode b_rf_inherit 62 = .ok (.getfield 44, 3) := by decide +kernel
theorem d_rf_inherit_65 : decode b_rf_inherit 65 = .ok (.iload_n 2, 1) := by decide +kernel
theorem d_rf_inherit_66 : decode b_rf_inherit 66 = .ok (.iaload, 1) := by decide +kernel
theorem d_rf_inherit_67 : decode b_rf_inherit 67 = .ok (.istore_n 3, 1) := by decide +kernel
theorem d_rf_inherit_68 : decode b_rf_inherit 68 = .ok (.iload_n 3, 1) := by decide +kernel
theorem d_rf_inherit_69 : decode b_rf_inherit 69 = .ok (.ifCond .eq 26, 3) := by decide +kernel
theorem d_rf_inherit_72 : decode b_rf_inherit 72 = .ok (.iload_n 3, 1) := by decide +kernel
theorem d_rf_inherit_73 : decode b_rf_inherit 73 = .ok (.aload_n 0, 1) := by decide +kernel
theorem d_rf_inherit_74 : decode b_rf_inherit 74 = .ok (.getfield 44, 3) := by decide +kernel
theorem d_rf_inherit_77 : decode b_rf_inherit 77 = .ok (.iload_n 1, 1) := by decide +kernel
theorem d_rf_inherit_78 : decode b_rf_inherit 78 = .ok (.iaload, 1) := by decide +kernel
theorem d_rf_inherit_79 : decode b_rf_inherit 79 = .ok (.if_icmp .eq 16, 3) := by decide +kernel
theorem d_rf_inherit_82 : decode b_rf_inherit 82 = .ok (.aload_n 0, 1) := by decide +kernel
theorem d_rf_inherit_83 : decode b_rf_inherit 83 = .ok (.getfield 23, 3) := by decide +kernel
theorem d_rf_inherit_86 : decode b_rf_inherit 86 = .ok (.bipush 15, 2) := by decide +kernel
theorem d_rf_inherit_88 : decode b_rf_inherit 88 = .ok (.iload_n 3, 1) := by decide +kernel
theorem d_rf_inherit_89 : decode b_rf_inherit 89 = .ok (.imul, 1) := by decide +kernel
theorem d_rf_inherit_90 : decode b_rf_inherit 90 = .ok (.iaload, 1) := by decide +kernel
theorem d_rf_inherit_91 : decode b_rf_inherit 91 = .ok (.istore_n 3, 1) := by decide +kernel
theorem d_rf_inherit_92 : decode b_rf_inherit 92 = .ok (.goto (-24), 3) := by decide +kernel
theorem d_rf_inherit_95 : decode b_rf_inherit 95 = .ok (.iload_n 3, 1) := by decide +kernel
theorem d_rf_inherit_96 : decode b_rf_inherit 96 = .ok (.ifCond .eq 5, 3) := by decide +kernel
theorem d_rf_inherit_99 : decode b_rf_inherit 99 = .ok (.iconst 0, 1) := by decide +kernel
theorem d_rf_inherit_100 : decode b_rf_inherit 100 = .ok (.ireturn, 1) := by decide +kernel
theorem d_rf_inherit_101 : decode b_rf_inherit 101 = .ok (.aload_n 0, 1) := by decide +kernel
theorem d_rf_inherit_102 : decode b_rf_inherit 102 = .ok (.getfield 23, 3) := by decide +kernel
theorem d_rf_inherit_105 : decode b_rf_inherit 105 = .ok (.bipush 15, 2) := by decide +kernel
theorem d_rf_inherit_107 : decode b_rf_inherit 107 = .ok (.aload_n 0, 1) := by decide +kernel
theorem d_rf_inherit_108 : decode b_rf_inherit 108 = .ok (.getfield 44, 3) := by decide +kernel
theorem d_rf_inherit_111 : decode b_rf_inherit 111 = .ok (.iload_n 1, 1) := by decide +kernel
theorem d_rf_inherit_112 : decode b_rf_inherit 112 = .ok (.iaload, 1) := by decide +kernel
theorem d_rf_inherit_113 : decode b_rf_inherit 113 = .ok (.imul, 1) := by decide +kernel
theorem d_rf_inherit_114 : decode b_rf_inherit 114 = .ok (.aload_n 0, 1) := by decide +kernel
theorem d_rf_inherit_115 : decode b_rf_inherit 115 = .ok (.getfield 44, 3) := by decide +kernel
theorem d_rf_inherit_118 : decode b_rf_inherit 118 = .ok (.iload_n 2, 1) := by decide +kernel
theorem d_rf_inherit_119 : decode b_rf_inherit 119 = .ok (.iaload, 1) := by decide +kernel
theorem d_rf_inherit_120 : decode b_rf_inherit 120 = .ok (.iastore, 1) := by decide +kernel
theorem d_rf_inherit_121 : decode b_rf_inherit 121 = .ok (.aload_n 0, 1) := by decide +kernel
theorem d_rf_inherit_122 : decode b_rf_inherit 122 = .ok (.invokevirtual 50, 3) := by decide +kernel
theorem d_rf_inherit_125 : decode b_rf_inherit 125 = .ok (.iconst 1, 1) := by decide +kernel
theorem d_rf_inherit_126 : decode b_rf_inherit 126 = .ok (.ireturn, 1) := by decide +kernel
theorem d_rf_context_0 : decode b_rf_context 0 = .ok (.aload_n 0, 1) := by decide +kernel
theorem d_rf_context_1 : decode b_rf_context 1 = .ok (.iload_n 1, 1) := by decide +kernel
theorem d_rf_context_2 : decode b_rf_context 2 = .ok (.iconst 2, 1) := by decide +kernel
theorem d_rf_context_3 : decode b_rf_context 3 = .ok (.iconst 3, 1) := by decide +kernel
theorem d_rf_context_4 : decode b_rf_context 4 = .ok (.bipush 15, 2) := by decide +kernel
theorem d_rf_context_6 : decode b_rf_context 6 = .ok (.invokevirtual 74, 3) := by decide +kernel
theorem d_rf_context_9 : decode b_rf_context 9 = .ok (.aload_n 0, 1) := by decide +kernel
theorem d_rf_context_10 : decode b_rf_context 10 = .ok (.getfield 23, 3) := by decide +kernel
theorem d_rf_context_13 : decode b_rf_context 13 = .ok (.bipush 15, 2) := by decide +kernel
theorem d_rf_context_15 : decode b_rf_context 15 = .ok (.iload_n 1, 1) := by decide +kernel
theorem d_rf_context_16 : decode b_rf_context 16 = .ok (.imul, 1) := by decide +kernel
theorem d_rf_context_17 : decode b_rf_context 17 = .ok (.iload_n 2, 1) := by decide +kernel
theorem d_rf_context_18 : decode b_rf_context 18 = .ok (.iastore, 1) := by decide +kernel
theorem d_rf_context_19 : decode b_rf_context 19 = .ok (.aload_n 0, 1) := by decide +kernel
theorem d_rf_context_20 : decode b_rf_context 20 = .ok (.getfield 23, 3) := by decide +kernel
theorem d_rf_context_23 : decode b_rf_context 23 = .ok (.bipush 15, 2) := by decide +kernel
theorem d_rf_context_25 : decode b_rf_context 25 = .ok (.iload_n 1, 1) := by decide +kernel
theorem d_rf_context_26 : decode b_rf_context 26 = .ok (.imul, 1) := by decide +kernel
theorem d_rf_context_27 : decode b_rf_context 27 = .ok (.iconst 1, 1) := by decide +kernel
theorem d_rf_context_28 : decode b_rf_context 28 = .ok (.iadd, 1) := by decide +kernel
theorem d_rf_context_29 : decode b_rf_context 29 = .ok (.iload_n 3, 1) := by decide +kernel
theorem d_rf_context_30 : decode b_rf_context 30 = .ok (.iastore, 1) := by decide +kernel
theorem d_rf_context_31 : decode b_rf_context 31 = .ok (.aload_n 0, 1) := by decide +kernel
theorem d_rf_context_32 : decode b_rf_context 32 = .ok (.getfield 23, 3) := by decide +kernel
theorem d_rf_context_35 : decode b_rf_context 35 = .ok (.bipush 15, 2) := by decide +kernel
theorem d_rf_context_37 : decode b_rf_context 37 = .ok (.iload_n 1, 1) := by decide +kernel
theorem d_rf_context_38 : decode b_rf_context 38 = .ok (.imul, 1) := by decide +kernel
theorem d_rf_context_39 : decode b_rf_context 39 = .ok (.iconst 2, 1) := by decide +kernel
theorem d_rf_context_40 : decode b_rf_context 40 = .ok (.iadd, 1) := by decide +kernel
theorem d_rf_context_41 : decode b_rf_context 41 = .ok (.iload 4, 2) := by decide +kernel
theorem d_rf_context_43 : decode b_rf_context 43 = .ok (.iastore, 1) := by decide +kernel
theorem d_rf_context_44 : decode b_rf_context 44 = .ok (.aload_n 0, 1) := by decide +kernel
theorem d_rf_context_45 : decode b_rf_context 45 = .ok (.getfield 23, 3) := by decide +kernel
theorem d_rf_context_48 : decode b_rf_context 48 = .ok (.bipush 15, 2) := by decide +kernel
theorem d_rf_context_50 : decode b_rf_context 50 = .ok (.iload_n 1, 1) := by decide +kernel
theorem d_rf_context_51 : decode b_rf_context 51 = .ok (.imul, 1) := by decide +kernel
theorem d_rf_context_52 : decode b_rf_context 52 = .ok (.iconst 3, 1) := by decide +kernel
theorem d_rf_context_53 : decode b_rf_context 53 = .ok (.iadd, 1) := by decide +kernel
theorem d_rf_context_54 : decode b_rf_context 54 = .ok (.sipush 1000, 3) := by decide +kernel
theorem d_rf_context_57 : decode b_rf_context 57 = .ok (.iload 5, 2) := by decide +kernel
theorem d_rf_context_59 : decode b_rf_context 59 = .ok (.iadd, 1) := by decide +kernel
theorem d_rf_context_60 : decode b_rf_context 60 = .ok (.iastore, 1) := by decide +kernel
theorem d_rf_context_61 : decode b_rf_context 61 = .ok (.aload_n 0, 1) := by decide +kernel
theorem d_rf_context_62 : decode b_rf_context 62 = .ok (.getfield 23, 3) := by decide +kernel
theorem d_rf_context_65 : decode b_rf_context 65 = .ok (.bipush 15, 2) := by decide +kernel
theorem d_rf_context_67 : decode b_rf_context 67 = .ok (.iload_n 1, 1) := by decide +kernel
theorem d_rf_context_68 : decode b_rf_context 68 = .ok (.imul, 1) := by decide +kernel
theorem d_rf_context_69 : decode b_rf_context 69 = .ok (.iconst 4, 1) := by decide +kernel
theorem d_rf_context_70 : decode b_rf_context 70 = .ok (.iadd, 1) := by decide +kernel
theorem d_rf_context_71 : decode b_rf_context 71 = .ok (.sipush 1000, 3) := by decide +kernel
theorem d_rf_context_74 : decode b_rf_context 74 = .ok (.iastore, 1) := by decide +kernel
theorem d_rf_context_75 : decode b_rf_context 75 = .ok (.aload_n 0, 1) := by decide +kernel
theorem d_rf_context_76 : decode b_rf_context 76 = .ok (.iload_n 1, 1) := by decide +kernel
theorem d_rf_context_77 : decode b_rf_context 77 = .ok (.putfield 57, 3) := by decide +kernel
theorem d_rf_context_80 : decode b_rf_context 80 = .ok (.return_, 1) := by decide +kernel
theorem d_rf_send_0 : decode b_rf_send 0 = .ok (.aload_n 0, 1) := by decide +kernel
theorem d_rf_send_1 : decode b_rf_send 1 = .ok (.getfield 57, 3) := by decide +kernel
theorem d_rf_send_4 : decode b_rf_send 4 = .ok (.ifCond .ne 17, 3) := by decide +kernel
theorem d_rf_send_7 : decode b_rf_send 7 = .ok (.iload_n 1, 1) := by decide +kernel
theorem d_rf_send_8 : decode b_rf_send 8 = .ok (.invokestatic 64, 3) := by decide +kernel
theorem d_rf_send_11 : decode b_rf_send 11 = .ok (.ifCond .ne 10, 3) := by decide +kernel
theorem d_rf_send_14 : decode b_rf_send 14 = .ok (.iload_n 2, 1) := by decide +kernel
theorem d_rf_send_15 : decode b_rf_send 15 = .ok (.invokestatic 78, 3) := by decide +kernel
theorem d_rf_send_18 : decode b_rf_send 18 = .ok (.ifCond .eq 5, 3) := by decide +kernel
theorem d_rf_send_21 : decode b_rf_send 21 = .ok (.iconst 0, 1) := by decide +kernel
theorem d_rf_send_22 : decode b_rf_send 22 = .ok (.ireturn, 1) := by decide +kernel
theorem d_rf_send_23 : decode b_rf_send 23 = .ok (.aload_n 0, 1) := by decide +kernel
theorem d_rf_send_24 : decode b_rf_send 24 = .ok (.aload_n 0, 1) := by decide +kernel
theorem d_rf_send_25 : decode b_rf_send 25 = .ok (.aload_n 0, 1) := by decide +kernel
theorem d_rf_send_26 : decode b_rf_send 26 = .ok (.getfield 44, 3) := by decide +kernel
theorem d_rf_send_29 : decode b_rf_send 29 = .ok (.iload_n 1, 1) := by decide +kernel
theorem d_rf_send_30 : decode b_rf_send 30 = .ok (.iaload, 1) := by decide +kernel
theorem d_rf_send_31 : decode b_rf_send 31 = .ok (.invokevirtual 90, 3) := by decide +kernel
theorem d_rf_send_34 : decode b_rf_send 34 = .ok (.iload_n 2, 1) := by decide +kernel
theorem d_rf_send_35 : decode b_rf_send 35 = .ok (.invokevirtual 94, 3) := by decide +kernel
theorem d_rf_send_38 : decode b_rf_send 38 = .ok (.istore_n 3, 1) := by decide +kernel
theorem d_rf_send_39 : decode b_rf_send 39 = .ok (.aload_n 0, 1) := by decide +kernel
theorem d_rf_send_40 : decode b_rf_send 40 = .ok (.invokevirtual 70, 3) := by decide +kernel
theorem d_rf_send_43 : decode b_rf_send 43 = .ok (.istore 4, 2) := by decide +kernel
theorem d_rf_send_45 : decode b_rf_send 45 = .ok (.iload_n 3, 1) := by decide +kernel
theorem d_rf_send_46 : decode b_rf_send 46 = .ok (.ifCond .eq 8, 3) := by decide +kernel
theorem d_rf_send_49 : decode b_rf_send 49 = .ok (.iload 4, 2) := by decide +kernel
theorem d_rf_send_51 : decode b_rf_send 51 = .ok (.ifCond .ge 5, 3) := by decide +kernel
theorem d_rf_send_54 : decode b_rf_send 54 = .ok (.iconst 0, 1) := by decide +kernel
theorem d_rf_send_55 : decode b_rf_send 55 = .ok (.ireturn, 1) := by decide +kernel
theorem d_rf_send_56 : decode b_rf_send 56 = .ok (.aload_n 0, 1) := by decide +kernel
theorem d_rf_send_57 : decode b_rf_send 57 = .ok (.iload 4, 2) := by decide +kernel
theorem d_rf_send_59 : decode b_rf_send 59 = .ok (.iconst 0, 1) := by decide +kernel
theorem d_rf_send_60 : decode b_rf_send 60 = .ok (.aload_n 0, 1) := by decide +kernel
theorem d_rf_send_61 : decode b_rf_send 61 = .ok (.getfield 44, 3) := by decide +kernel
theorem d_rf_send_64 : decode b_rf_send 64 = .ok (.iload_n 1, 1) := by decide +kernel
theorem d_rf_send_65 : decode b_rf_send 65 = .ok (.iaload, 1) := by decide +kernel
theorem d_rf_send_66 : decode b_rf_send 66 = .ok (.iload_n 3, 1) := by decide +kernel
theorem d_rf_send_67 : decode b_rf_send 67 = .ok (.iload_n 2, 1) := by decide +kernel
theorem d_rf_send_68 : decode b_rf_send 68 = .ok (.invokevirtual 98, 3) := by decide +kernel
theorem d_rf_send_71 : decode b_rf_send 71 = .ok (.iconst 0, 1) := by decide +kernel
theorem d_rf_send_72 : decode b_rf_send 72 = .ok (.istore 5, 2) := by decide +kernel
theorem d_rf_send_74 : decode b_rf_send 74 = .ok (.iload 5, 2) := by decide +kernel
theorem d_rf_send_76 : decode b_rf_send 76 = .ok (.iload_n 2, 1) := by decide +kernel
theorem d_rf_send_77 : decode b_rf_send 77 = .ok (.iconst 3, 1) := by decide +kernel
theorem d_rf_send_78 : decode b_rf_send 78 = .ok (.irem, 1) := by decide +kernel
theorem d_rf_send_79 : decode b_rf_send 79 = .ok (.if_icmp .ge 38, 3) := by decide +kernel
theorem d_rf_send_82 : decode b_rf_send 82 = .ok (.aload_n 0, 1) := by decide +kernel
theorem d_rf_send_83 : decode b_rf_send 83 = .ok (.getfield 23, 3) := by decide +kernel
theorem d_rf_send_86 : decode b_rf_send 86 = .ok (.bipush 15, 2) := by decide +kernel
theorem d_rf_send_88 : decode b_rf_send 88 = .ok (.iload 4, 2) := by decide +kernel
theorem d_rf_send_90 : decode b_rf_send 90 = .ok (.imul, 1) := by decide +kernel
theorem d_rf_send_91 : decode b_rf_send 91 = .ok (.iconst 5, 1) := by decide +kernel
theorem d_rf_send_92 : decode b_rf_send 92 = .ok (.iadd, 1) := by decide +kernel
theorem d_rf_send_93 : decode b_rf_send 93 = .ok (.iload 5, 2) := by decide +kernel
theorem d_rf_send_95 : decode b_rf_send 95 = .ok (.iadd, 1) := by decide +kernel
theorem d_rf_send_96 : decode b_rf_send 96 = .ok (.aload_n 0, 1) := by decide +kernel
theorem d_rf_send_97 : decode b_rf_send 97 = .ok (.getfield 44, 3) := by decide +kernel
theorem d_rf_send_100 : decode b_rf_send 100 = .ok (.iload_n 1, 1) := by decide +kernel
theorem d_rf_send_101 : decode b_rf_send 101 = .ok (.iconst 1, 1) := by decide +kernel
theorem d_rf_send_102 : decode b_rf_send 102 = .ok (.iadd, 1) := by decide +kernel
theorem d_rf_send_103 : decode b_rf_send 103 = .ok (.iload 5, 2) := by decide +kernel
theorem d_rf_send_105 : decode b_rf_send 105 = .ok (.iadd, 1) := by decide +kernel
theorem d_rf_send_106 : decode b_rf_send 106 = .ok (.bipush 6, 2) := by decide +kernel
theorem d_rf_send_108 : decode b_rf_send 108 = .ok (.irem, 1) := by decide +kernel
theorem d_rf_send_109 : decode b_rf_send 109 = .ok (.iaload, 1) := by decide +kernel
theorem d_rf_send_110 : decode b_rf_send 110 = .ok (.iastore, 1) := by decide +kernel
theorem d_rf_send_111 : decode b_rf_send 111 = .ok (.iinc 5 1, 3) := by decide +kernel
theorem d_rf_send_114 : decode b_rf_send 114 = .ok (.goto (-40), 3) := by decide +kernel
theorem d_rf_send_117 : decode b_rf_send 117 = .ok (.aload_n 0, 1) := by decide +kernel
theorem d_rf_send_118 : decode b_rf_send 118 = .ok (.invokevirtual 50, 3) := by decide +kernel
theorem d_rf_send_121 : decode b_rf_send 121 = .ok (.iconst 1, 1) := by decide +kernel
theorem d_rf_send_122 : decode b_rf_send 122 = .ok (.ireturn, 1) := by decide +kernel
theorem d_rf_at_0 : decode b_rf_at 0 = .ok (.aload_n 0, 1) := by decide +kernel
theorem d_rf_at_1 : decode b_rf_at 1 = .ok (.getfield 23, 3) := by decide +kernel
theorem d_rf_at_4 : decode b_rf_at 4 = .ok (.bipush 15, 2) := by decide +kernel
theorem d_rf_at_6 : decode b_rf_at 6 = .ok (.aload_n 0, 1) := by decide +kernel
theorem d_rf_at_7 : decode b_rf_at 7 = .ok (.getfield 57, 3) := by decide +kernel
theorem d_rf_at_10 : decode b_rf_at 10 = .ok (.imul, 1) := by decide +kernel
theorem d_rf_at_11 : decode b_rf_at 11 = .ok (.iload_n 1, 1) := by decide +kernel
theorem d_rf_at_12 : decode b_rf_at 12 = .ok (.iadd, 1) := by decide +kernel
theorem d_rf_at_13 : decode b_rf_at 13 = .ok (.iaload, 1) := by decide +kernel
theorem d_rf_at_14 : decode b_rf_at 14 = .ok (.ireturn, 1) := by decide +kernel
theorem d_rf_fromTop_0 : decode b_rf_fromTop 0 = .ok (.aload_n 0, 1) := by decide +kernel
theorem d_rf_fromTop_1 : decode b_rf_fromTop 1 = .ok (.bipush 9, 2) := by decide +kernel
theorem d_rf_fromTop_3 : decode b_rf_fromTop 3 = .ok (.aload_n 0, 1) := by decide +kernel
theorem d_rf_fromTop_4 : decode b_rf_fromTop 4 = .ok (.getfield 41, 3) := by decide +kernel
theorem d_rf_fromTop_7 : decode b_rf_fromTop 7 = .ok (.aload_n 0, 1) := by decide +kernel
theorem d_rf_fromTop_8 : decode b_rf_fromTop 8 = .ok (.getfield 57, 3) := by decide +kernel
theorem d_rf_fromTop_11 : decode b_rf_fromTop 11 = .ok (.iaload, 1) := by decide +kernel
theorem d_rf_fromTop_12 : decode b_rf_fromTop 12 = .ok (.iadd, 1) := by decide +kernel
theorem d_rf_fromTop_13 : decode b_rf_fromTop 13 = .ok (.iconst 1, 1) := by decide +kernel
theorem d_rf_fromTop_14 : decode b_rf_fromTop 14 = .ok (.isub, 1) := by decide +kernel
theorem d_rf_fromTop_15 : decode b_rf_fromTop 15 = .ok (.iload_n 1, 1) := by decide +kernel
theorem d_rf_fromTop_16 : decode b_rf_fromTop 16 = .ok (.isub, 1) := by decide +kernel
theorem d_rf_fromTop_17 : decode b_rf_fromTop 17 = .ok (.invokevirtual 102, 3) := by decide +kernel
theorem d_rf_fromTop_20 : decode b_rf_fromTop 20 = .ok (.ireturn, 1) := by decide +kernel
theorem d_rf_push_0 : decode b_rf_push 0 = .ok (.aload_n 0, 1) := by decide +kernel
theorem d_rf_push_1 : decode b_rf_push 1 = .ok (.getfield 23, 3) := by decide +kernel
theorem d_rf_push_4 : decode b_rf_push 4 = .ok (.bipush 15, 2) := by decide +kernel
theorem d_rf_push_6 : decode b_rf_push 6 = .ok (.aload_n 0, 1) := by decide +kernel
theorem d_rf_push_7 : decode b_rf_push 7 = .ok (.getfield 57, 3) := by decide +kernel
theorem d_rf_push_10 : decode b_rf_push 10 = .ok (.imul, 1) := by decide +kernel
theorem d_rf_push_11 : decode b_rf_push 11 = .ok (.bipush 9, 2) := by decide +kernel
theorem d_rf_push_13 : decode b_rf_push 13 = .ok (.iadd, 1) := by decide +kernel
theorem d_rf_push_14 : decode b_rf_push 14 = .ok (.aload_n 0, 1) := by decide +kernel
theorem d_rf_push_15 : decode b_rf_push 15 = .ok (.getfield 41, 3) := by decide +kernel
theorem d_rf_push_18 : decode b_rf_push 18 = .ok (.aload_n 0, 1) := by decide +kernel
theorem d_rf_push_19 : decode b_rf_push 19 = .ok (.getfield 57, 3) := by decide +kernel
theorem d_rf_push_22 : decode b_rf_push 22 = .ok (.iaload, 1) := by decide +kernel
theorem d_rf_push_23 : decode b_rf_push 23 = .ok (.iadd, 1) := by decide +kernel
theorem d_rf_push_24 : decode b_rf_push 24 = .ok (.iload_n 1, 1) := by decide +kernel
theorem d_rf_push_25 : decode b_rf_push 25 = .ok (.iastore, 1) := by decide +kernel
theorem d_rf_push_26 : decode b_rf_push 26 = .ok (.aload_n 0, 1) := by decide +kernel
theorem d_rf_push_27 : decode b_rf_push 27 = .ok (.getfield 41, 3) := by decide +kernel
theorem d_rf_push_30 : decode b_rf_push 30 = .ok (.aload_n 0, 1) := by decide +kernel
theorem d_rf_push_31 : decode b_rf_push 31 = .ok (.getfield 57, 3) := by decide +kernel
theorem d_rf_push_34 : decode b_rf_push 34 = .ok (.dup2, 1) := by decide +kernel
theorem d_rf_push_35 : decode b_rf_push 35 = .ok (.iaload, 1) := by decide +kernel
theorem d_rf_push_36 : decode b_rf_push 36 = .ok (.iconst 1, 1) := by decide +kernel
theorem d_rf_push_37 : decode b_rf_push 37 = .ok (.iadd, 1) := by decide +kernel
theorem d_rf_push_38 : decode b_rf_push 38 = .ok (.iastore, 1) := by decide +kernel
theorem d_rf_push_39 : decode b_rf_push 39 = .ok (.return_, 1) := by decide +kernel
theorem d_rf_pop_0 : decode b_rf_pop 0 = .ok (.aload_n 0, 1) := by decide +kernel
theorem d_rf_pop_1 : decode b_rf_pop 1 = .ok (.getfield 41, 3) := by decide +kernel
theorem d_rf_pop_4 : decode b_rf_pop 4 = .ok (.aload_n 0, 1) := by decide +kernel
theorem d_rf_pop_5 : decode b_rf_pop 5 = .ok (.getfield 57, 3) := by decide +kernel
theorem d_rf_pop_8 : decode b_rf_pop 8 = .ok (.dup2, 1) := by decide +kernel
theorem d_rf_pop_9 : decode b_rf_pop 9 = .ok (.iaload, 1) := by decide +kernel
theorem d_rf_pop_10 : decode b_rf_pop 10 = .ok (.iconst 1, 1) := by decide +kernel
theorem d_rf_pop_11 : decode b_rf_pop 11 = .ok (.isub, 1) := by decide +kernel
theorem d_rf_pop_12 : decode b_rf_pop 12 = .ok (.iastore, 1) := by decide +kernel
theorem d_rf_pop_13 : decode b_rf_pop 13 = .ok (.aload_n 0, 1) := by decide +kernel
theorem d_rf_pop_14 : decode b_rf_pop 14 = .ok (.getfield 23, 3) := by decide +kernel
theorem d_rf_pop_17 : decode b_rf_pop 17 = .ok (.bipush 15, 2) := by decide +kernel
theorem d_rf_pop_19 : decode b_rf_pop 19 = .ok (.aload_n 0, 1) := by decide +kernel
theorem d_rf_pop_20 : decode b_rf_pop 20 = .ok (.getfield 57, 3) := by decide +kernel
theorem d_rf_pop_23 : decode b_rf_pop 23 = .ok (.imul, 1) := by decide +kernel
theorem d_rf_pop_24 : decode b_rf_pop 24 = .ok (.bipush 9, 2) := by decide +kernel
theorem d_rf_pop_26 : decode b_rf_pop 26 = .ok (.iadd, 1) := by decide +kernel
theorem d_rf_pop_27 : decode b_rf_pop 27 = .ok (.aload_n 0, 1) := by decide +kernel
theorem d_rf_pop_28 : decode b_rf_pop 28 = .ok (.getfield 41, 3) := by decide +kernel
theorem d_rf_pop_31 : decode b_rf_pop 31 = .ok (.aload_n 0, 1) := by decide +kernel
theorem d_rf_pop_32 : decode b_rf_pop 32 = .ok (.getfield 57, 3) := by decide +kernel
theorem d_rf_pop_35 : decode b_rf_pop 35 = .ok (.iaload, 1) := by decide +kernel
theorem d_rf_pop_36 : decode b_rf_pop 36 = .ok (.iadd, 1) := by decide +kernel
theorem d_rf_pop_37 : decode b_rf_pop 37 = .ok (.iconst 0, 1) := by decide +kernel
theorem d_rf_pop_38 : decode b_rf_pop 38 = .ok (.iastore, 1) := by decide +kernel
theorem d_rf_pop_39 : decode b_rf_pop 39 = .ok (.return_, 1) := by decide +kernel
theorem d_rf_jump_0 : decode b_rf_jump 0 = .ok (.aload_n 0, 1) := by decide +kernel
theorem d_rf_jump_1 : decode b_rf_jump 1 = .ok (.getfield 23, 3) := by decide +kernel
theorem d_rf_jump_4 : decode b_rf_jump 4 = .ok (.bipush 15, 2) := by decide +kernel
theorem d_rf_jump_6 : decode b_rf_jump 6 = .ok (.aload_n 0, 1) := by decide +kernel
theorem d_rf_jump_7 : decode b_rf_jump 7 = .ok (.getfield 57, 3) := by decide +kernel
theorem d_rf_jump_10 : decode b_rf_jump 10 = .ok (.imul, 1) := by decide +kernel
theorem d_rf_jump_11 : decode b_rf_jump 11 = .ok (.iconst 4, 1) := by decide +kernel
theorem d_rf_jump_12 : decode b_rf_jump 12 = .ok (.iadd, 1) := by decide +kernel
theorem d_rf_jump_13 : decode b_rf_jump 13 = .ok (.sipush 1000, 3) := by decide +kernel
theorem d_rf_jump_16 : decode b_rf_jump 16 = .ok (.iload_n 1, 1) := by decide +kernel
theorem d_rf_jump_17 : decode b_rf_jump 17 = .ok (.iadd, 1) := by decide +kernel
theorem d_rf_jump_18 : decode b_rf_jump 18 = .ok (.iastore, 1) := by decide +kernel
theorem d_rf_jump_19 : decode b_rf_jump 19 = .ok (.return_, 1) := by decide +kernel
theorem d_rf_needs_0 : decode b_rf_needs 0 = .ok (.iload_n 0, 1) := by decide +kernel
theorem d_rf_needs_1 : decode b_rf_needs 1 = .ok (.tableswitch 90 3 13 #[59, 59, 61, 61, 67, 90, 59, 90, 69, 69, 79], 59) := by decide +kernel
theorem d_rf_needs_60 : decode b_rf_needs 60 = .ok (.iconst 1, 1) := by decide +kernel
theorem d_rf_needs_61 : decode b_rf_needs 61 = .ok (.ireturn, 1) := by decide +kernel
theorem d_rf_needs_62 : decode b_rf_needs 62 = .ok (.iload_n 1, 1) := by decide +kernel
theorem d_rf_needs_63 : decode b_rf_needs 63 = .ok (.iconst 3, 1) := by decide +kernel
theorem d_rf_needs_64 : decode b_rf_needs 64 = .ok (.irem, 1) := by decide +kernel
theorem d_rf_needs_65 : decode b_rf_needs 65 = .ok (.iconst 1, 1) := by decide +kernel
theorem d_rf_needs_66 : decode b_rf_needs 66 = .ok (.iadd, 1) := by decide +kernel
theorem d_rf_needs_67 : decode b_rf_needs 67 = .ok (.ireturn, 1) := by decide +kernel
theorem d_rf_needs_68 : decode b_rf_needs 68 = .ok (.iconst 2, 1) := by decide +kernel
theorem d_rf_needs_69 : decode b_rf_needs 69 = .ok (.ireturn, 1) := by decide +kernel
theorem d_rf_needs_70 : decode b_rf_needs 70 = .ok (.iload_n 1, 1) := by decide +kernel
theorem d_rf_needs_71 : decode b_rf_needs 71 = .ok (.ifCond .ne 7, 3) := by decide +kernel
theorem d_rf_needs_74 : decode b_rf_needs 74 = .ok (.iconst 1, 1) := by decide +kernel
theorem d_rf_needs_75 : decode b_rf_needs 75 = .ok (.goto 4, 3) := by decide +kernel
theorem d_rf_needs_78 : decode b_rf_needs 78 = .ok (.iconst 0, 1) := by decide +kernel
theorem d_rf_needs_79 : decode b_rf_needs 79 = .ok (.ireturn, 1) := by decide +kernel
theorem d_rf_needs_80 : decode b_rf_needs 80 = .ok (.iload_n 1, 1) := by decide +kernel
theorem d_rf_needs_81 : decode b_rf_needs 81 = .ok (.iconst 2, 1) := by decide +kernel
theorem d_rf_needs_82 : decode b_rf_needs 82 = .ok (.if_icmp .ge 7, 3) := by decide +kernel
theorem d_rf_needs_85 : decode b_rf_needs 85 = .ok (.iconst 1, 1) := by decide +kernel
theorem d_rf_needs_86 : decode b_rf_needs 86 = .ok (.goto 4, 3) := by decide +kernel
theorem d_rf_needs_89 : decode b_rf_needs 89 = .ok (.iconst 0, 1) := by decide +kernel
theorem d_rf_needs_90 : decode b_rf_needs 90 = .ok (.ireturn, 1) := by decide +kernel
theorem d_rf_needs_91 : decode b_rf_needs 91 = .ok (.iconst 0, 1) := by decide +kernel
theorem d_rf_needs_92 : decode b_rf_needs 92 = .ok (.ireturn, 1) := by decide +kernel
theorem d_rf_grows_0 : decode b_rf_grows 0 = .ok (.iload_n 0, 1) := by decide +kernel
theorem d_rf_grows_1 : decode b_rf_grows 1 = .ok (.iconst 3, 1) := by decide +kernel
theorem d_rf_grows_2 : decode b_rf_grows 2 = .ok (.if_icmp .lt 13, 3) := by decide +kernel
theorem d_rf_grows_5 : decode b_rf_grows 5 = .ok (.iload_n 0, 1) := by decide +kernel
theorem d_rf_grows_6 : decode b_rf_grows 6 = .ok (.bipush 13, 2) := by decide +kernel
theorem d_rf_grows_8 : decode b_rf_grows 8 = .ok (.if_icmp .ne 11, 3) := by decide +kernel
theorem d_rf_grows_11 : decode b_rf_grows 11 = .ok (.iload_n 1, 1) := by decide +kernel
theorem d_rf_grows_12 : decode b_rf_grows 12 = .ok (.ifCond .ne 7, 3) := by decide +kernel
theorem d_rf_grows_15 : decode b_rf_grows 15 = .ok (.iconst 1, 1) := by decide +kernel
theorem d_rf_grows_16 : decode b_rf_grows 16 = .ok (.goto 4, 3) := by decide +kernel
theorem d_rf_grows_19 : decode b_rf_grows 19 = .ok (.iconst 0, 1) := by decide +kernel
theorem d_rf_grows_20 : decode b_rf_grows 20 = .ok (.ireturn, 1) := by decide +kernel
theorem d_rf_superclassOf_0 : decode b_rf_superclassOf 0 = .ok (.aload_n 0, 1) := by decide +kernel
theorem d_rf_superclassOf_1 : decode b_rf_superclassOf 1 = .ok (.getfield 23, 3) := by decide +kernel
theorem d_rf_superclassOf_4 : decode b_rf_superclassOf 4 = .ok (.bipush 15, 2) := by decide +kernel
theorem d_rf_superclassOf_6 : decode b_rf_superclassOf 6 = .ok (.iload_n 1, 1) := by decide +kernel
theorem d_rf_superclassOf_7 : decode b_rf_superclassOf 7 = .ok (.imul, 1) := by decide +kernel
theorem d_rf_superclassOf_8 : decode b_rf_superclassOf 8 = .ok (.iaload, 1) := by decide +kernel
theorem d_rf_superclassOf_9 : decode b_rf_superclassOf 9 = .ok (.ireturn, 1) := by decide +kernel
theorem d_rf_beginning_0 : decode b_rf_beginning 0 = .ok (.iload_n 1, 1) := by decide +kernel
theorem d_rf_beginning_1 : decode b_rf_beginning 1 = .ok (.iconst 5, 1) := by decide +kernel
theorem d_rf_beginning_2 : decode b_rf_beginning 2 = .ok (.if_icmp .ne 17, 3) := by decide +kernel
theorem d_rf_beginning_5 : decode b_rf_beginning 5 = .ok (.aload_n 0, 1) := by decide +kernel
theorem d_rf_beginning_6 : decode b_rf_beginning 6 = .ok (.aload_n 0, 1) := by decide +kernel
theorem d_rf_beginning_7 : decode b_rf_beginning 7 = .ok (.iload_n 2, 1) := by decide +kernel
theorem d_rf_beginning_8 : decode b_rf_beginning 8 = .ok (.iconst 3, 1) := by decide +kernel
theorem d_rf_beginning_9 : decode b_rf_beginning 9 = .ok (.irem, 1) := by decide +kernel
theorem d_rf_beginning_10 : decode b_rf_beginning 10 = .ok (.invokevirtual 105, 3) := by decide +kernel
theorem d_rf_beginning_13 : decode b_rf_beginning 13 = .ok (.invokevirtual 90, 3) := by decide +kernel
theorem d_rf_beginning_16 : decode b_rf_beginning 16 = .ok (.goto 12, 3) := by decide +kernel
theorem d_rf_beginning_19 : decode b_rf_beginning 19 = .ok (.aload_n 0, 1) := by decide +kernel
theorem d_rf_beginning_20 : decode b_rf_beginning 20 = .ok (.aload_n 0, 1) := by decide +kernel
theorem d_rf_beginning_21 : decode b_rf_beginning 21 = .ok (.iconst 2, 1) := by decide +kernel
theorem d_rf_beginning_22 : decode b_rf_beginning 22 = .ok (.invokevirtual 102, 3) := by decide +kernel
theorem d_rf_beginning_25 : decode b_rf_beginning 25 = .ok (.invokevirtual 108, 3) := by decide +kernel
theorem d_rf_beginning_28 : decode b_rf_beginning 28 = .ok (.ireturn, 1) := by decide +kernel
theorem d_rf_arithmetic_0 : decode b_rf_arithmetic 0 = .ok (.iload_n 1, 1) := by decide +kernel
theorem d_rf_arithmetic_1 : decode b_rf_arithmetic 1 = .ok (.lookupswitch 35 #[(0, 27), (1, 31)], 27) := by decide +kernel
theorem d_rf_arithmetic_28 : decode b_rf_arithmetic 28 = .ok (.iload_n 2, 1) := by decide +kernel
theorem d_rf_arithmetic_29 : decode b_rf_arithmetic 29 = .ok (.iload_n 3, 1) := by decide +kernel
theorem d_rf_arithmetic_30 : decode b_rf_arithmetic 30 = .ok (.iadd, 1) := by decide +kernel
theorem d_rf_arithmetic_31 : decode b_rf_arithmetic 31 = .ok (.ireturn, 1) := by decide +kernel
theorem d_rf_arithmetic_32 : decode b_rf_arithmetic 32 = .ok (.iload_n 2, 1) := by decide +kernel
theorem d_rf_arithmetic_33 : decode b_rf_arithmetic 33 = .ok (.iload_n 3, 1) := by decide +kernel
theorem d_rf_arithmetic_34 : decode b_rf_arithmetic 34 = .ok (.isub, 1) := by decide +kernel
theorem d_rf_arithmetic_35 : decode b_rf_arithmetic 35 = .ok (.ireturn, 1) := by decide +kernel
theorem d_rf_arithmetic_36 : decode b_rf_arithmetic 36 = .ok (.iload_n 2, 1) := by decide +kernel
theorem d_rf_arithmetic_37 : decode b_rf_arithmetic 37 = .ok (.iload_n 3, 1) := by decide +kernel
theorem d_rf_arithmetic_38 : decode b_rf_arithmetic 38 = .ok (.imul, 1) := by decide +kernel
theorem d_rf_arithmetic_39 : decode b_rf_arithmetic 39 = .ok (.ireturn, 1) := by decide +kernel
theorem d_rf_workFails_0 : decode b_rf_workFails 0 = .ok (.iload_n 1, 1) := by decide +kernel
theorem d_rf_workFails_1 : decode b_rf_workFails 1 = .ok (.iconst 4, 1) := by decide +kernel
theorem d_rf_workFails_2 : decode b_rf_workFails 2 = .ok (.if_icmp .le 5, 3) := by decide +kernel
theorem d_rf_workFails_5 : decode b_rf_workFails 5 = .ok (.iconst 3, 1) := by decide +kernel
theorem d_rf_workFails_6 : decode b_rf_workFails 6 = .ok (.ireturn, 1) := by decide +kernel
theorem d_rf_workFails_7 : decode b_rf_workFails 7 = .ok (.iload_n 1, 1) := by decide +kernel
theorem d_rf_workFails_8 : decode b_rf_workFails 8 = .ok (.iconst 4, 1) := by decide +kernel
theorem d_rf_workFails_9 : decode b_rf_workFails 9 = .ok (.if_icmp .ne 5, 3) := by decide +kernel
theorem d_rf_workFails_12 : decode b_rf_workFails 12 = .ok (.iconst 0, 1) := by decide +kernel
theorem d_rf_workFails_13 : decode b_rf_workFails 13 = .ok (.ireturn, 1) := by decide +kernel
theorem d_rf_workFails_14 : decode b_rf_workFails 14 = .ok (.aload_n 0, 1) := by decide +kernel
theorem d_rf_workFails_15 : decode b_rf_workFails 15 = .ok (.iconst 0, 1) := by decide +kernel
theorem d_rf_workFails_16 : decode b_rf_workFails 16 = .ok (.invokevirtual 105, 3) := by decide +kernel
theorem d_rf_workFails_19 : decode b_rf_workFails 19 = .ok (.invokestatic 53, 3) := by decide +kernel
theorem d_rf_workFails_22 : decode b_rf_workFails 22 = .ok (.ifCond .eq 14, 3) := by decide +kernel
theorem d_rf_workFails_25 : decode b_rf_workFails 25 = .ok (.aload_n 0, 1) := by decide +kernel
theorem d_rf_workFails_26 : decode b_rf_workFails 26 = .ok (.iconst 1, 1) := by decide +kernel
theorem d_rf_workFails_27 : decode b_rf_workFails 27 = .ok (.invokevirtual 105, 3) := by decide +kernel
theorem d_rf_workFails_30 : decode b_rf_workFails 30 = .ok (.invokestatic 53, 3) := by decide +kernel
theorem d_rf_workFails_33 : decode b_rf_workFails 33 = .ok (.ifCond .ne 5, 3) := by decide +kernel
theorem d_rf_workFails_36 : decode b_rf_workFails 36 = .ok (.iconst 3, 1) := by decide +kernel
