theorem d_mt_init_0 : decode b_mt_init 0 = .ok (.aload_n 0, 1) := by decide +kernel
theorem d_mt_init_1 : decode b_mt_init 1 = .ok (.invokespecial 3, 3) := by decide +kernel
theorem d_mt_init_4 : decode b_mt_init 4 = .ok (.aload_n 0, 1) := by decide +kernel
theorem d_mt_init_5 : decode b_mt_init 5 = .ok (.sipush 224, 3) := by decide +kernel
theorem d_mt_init_8 : decode b_mt_init 8 = .ok (.newarray .boolean, 2) := by decide +kernel
theorem d_mt_init_10 : decode b_mt_init 10 = .ok (.putfield 9, 3) := by decide +kernel
theorem d_mt_init_13 : decode b_mt_init 13 = .ok (.aload_n 0, 1) := by decide +kernel
theorem d_mt_init_14 : decode b_mt_init 14 = .ok (.sipush 224, 3) := by decide +kernel
theorem d_mt_init_17 : decode b_mt_init 17 = .ok (.newarray .long, 2) := by decide +kernel
theorem d_mt_init_19 : decode b_mt_init 19 = .ok (.putfield 15, 3) := by decide +kernel
theorem d_mt_init_22 : decode b_mt_init 22 = .ok (.aload_n 0, 1) := by decide +kernel
theorem d_mt_init_23 : decode b_mt_init 23 = .ok (.sipush 224, 3) := by decide +kernel
theorem d_mt_init_26 : decode b_mt_init 26 = .ok (.newarray .long, 2) := by decide +kernel
theorem d_mt_init_28 : decode b_mt_init 28 = .ok (.putfield 19, 3) := by decide +kernel
theorem d_mt_init_31 : decode b_mt_init 31 = .ok (.return_, 1) := by decide +kernel
theorem d_mt_keep_0 : decode b_mt_keep 0 = .ok (.iload_n 1, 1) := by decide +kernel
theorem d_mt_keep_1 : decode b_mt_keep 1 = .ok (.iload_n 2, 1) := by decide +kernel
theorem d_mt_keep_2 : decode b_mt_keep 2 = .ok (.invokestatic 22, 3) := by decide +kernel
theorem d_mt_keep_5 : decode b_mt_keep 5 = .ok (.istore 7, 2) := by decide +kernel
theorem d_mt_keep_7 : decode b_mt_keep 7 = .ok (.aload_n 0, 1) := by decide +kernel
theorem d_mt_keep_8 : decode b_mt_keep 8 = .ok (.getfield 9, 3) := by decide +kernel
theorem d_mt_keep_11 : decode b_mt_keep 11 = .ok (.iload 7, 2) := by decide +kernel
theorem d_mt_keep_13 : decode b_mt_keep 13 = .ok (.iconst 1, 1) := by decide +kernel
theorem d_mt_keep_14 : decode b_mt_keep 14 = .ok (.bastore, 1) := by decide +kernel
theorem d_mt_keep_15 : decode b_mt_keep 15 = .ok (.aload_n 0, 1) := by decide +kernel
theorem d_mt_keep_16 : decode b_mt_keep 16 = .ok (.getfield 15, 3) := by decide +kernel
theorem d_mt_keep_19 : decode b_mt_keep 19 = .ok (.iload 7, 2) := by decide +kernel
theorem d_mt_keep_21 : decode b_mt_keep 21 = .ok (.lload_n 3, 1) := by decide +kernel
theorem d_mt_keep_22 : decode b_mt_keep 22 = .ok (.lastore, 1) := by decide +kernel
theorem d_mt_keep_23 : decode b_mt_keep 23 = .ok (.aload_n 0, 1) := by decide +kernel
theorem d_mt_keep_24 : decode b_mt_keep 24 = .ok (.getfield 19, 3) := by decide +kernel
theorem d_mt_keep_27 : decode b_mt_keep 27 = .ok (.iload 7, 2) := by decide +kernel
theorem d_mt_keep_29 : decode b_mt_keep 29 = .ok (.lload 5, 2) := by decide +kernel
theorem d_mt_keep_31 : decode b_mt_keep 31 = .ok (.lastore, 1) := by decide +kernel
theorem d_mt_keep_32 : decode b_mt_keep 32 = .ok (.return_, 1) := by decide +kernel
theorem d_mt_forget_0 : decode b_mt_forget 0 = .ok (.iconst 0, 1) := by decide +kernel
theorem d_mt_forget_1 : decode b_mt_forget 1 = .ok (.istore_n 2, 1) := by decide +kernel
theorem d_mt_forget_2 : decode b_mt_forget 2 = .ok (.iload_n 2, 1) := by decide +kernel
theorem d_mt_forget_3 : decode b_mt_forget 3 = .ok (.bipush 8, 2) := by decide +kernel
theorem d_mt_forget_5 : decode b_mt_forget 5 = .ok (.if_icmp .ge 20, 3) := by decide +kernel
theorem d_mt_forget_8 : decode b_mt_forget 8 = .ok (.aload_n 0, 1) := by decide +kernel
theorem d_mt_forget_9 : decode b_mt_forget 9 = .ok (.getfield 9, 3) := by decide +kernel
theorem d_mt_forget_12 : decode b_mt_forget 12 = .ok (.iload_n 1, 1) := by decide +kernel
theorem d_mt_forget_13 : decode b_mt_forget 13 = .ok (.iload_n 2, 1) := by decide +kernel
theorem d_mt_forget_14 : decode b_mt_forget 14 = .ok (.invokestatic 22, 3) := by decide +kernel
theorem d_mt_forget_17 : decode b_mt_forget 17 = .ok (.iconst 0, 1) := by decide +kernel
theorem d_mt_forget_18 : decode b_mt_forget 18 = .ok (.bastore, 1) := by decide +kernel
theorem d_mt_forget_19 : decode b_mt_forget 19 = .ok (.iinc 2 1, 3) := by decide +kernel
theorem d_mt_forget_22 : decode b_mt_forget 22 = .ok (.goto (-20), 3) := by decide +kernel
theorem d_mt_forget_25 : decode b_mt_forget 25 = .ok (.return_, 1) := by decide +kernel
theorem d_mt_has_0 : decode b_mt_has 0 = .ok (.aload_n 0, 1) := by decide +kernel
theorem d_mt_has_1 : decode b_mt_has 1 = .ok (.getfield 9, 3) := by decide +kernel
theorem d_mt_has_4 : decode b_mt_has 4 = .ok (.iload_n 1, 1) := by decide +kernel
theorem d_mt_has_5 : decode b_mt_has 5 = .ok (.iload_n 2, 1) := by decide +kernel
theorem d_mt_has_6 : decode b_mt_has 6 = .ok (.invokestatic 22, 3) := by decide +kernel
theorem d_mt_has_9 : decode b_mt_has 9 = .ok (.baload, 1) := by decide +kernel
theorem d_mt_has_10 : decode b_mt_has 10 = .ok (.ireturn, 1) := by decide +kernel
theorem d_mt_byteAt_0 : decode b_mt_byteAt 0 = .ok (.iload_n 1, 1) := by decide +kernel
theorem d_mt_byteAt_1 : decode b_mt_byteAt 1 = .ok (.iload_n 2, 1) := by decide +kernel
theorem d_mt_byteAt_2 : decode b_mt_byteAt 2 = .ok (.invokestatic 22, 3) := by decide +kernel
theorem d_mt_byteAt_5 : decode b_mt_byteAt 5 = .ok (.istore 4, 2) := by decide +kernel
theorem d_mt_byteAt_7 : decode b_mt_byteAt 7 = .ok (.iload_n 3, 1) := by decide +kernel
theorem d_mt_byteAt_8 : decode b_mt_byteAt 8 = .ok (.bipush 8, 2) := by decide +kernel
theorem d_mt_byteAt_10 : decode b_mt_byteAt 10 = .ok (.if_icmp .ge 13, 3) := by decide +kernel
theorem d_mt_byteAt_13 : decode b_mt_byteAt 13 = .ok (.aload_n 0, 1) := by decide +kernel
theorem d_mt_byteAt_14 : decode b_mt_byteAt 14 = .ok (.getfield 15, 3) := by decide +kernel
theorem d_mt_byteAt_17 : decode b_mt_byteAt 17 = .ok (.iload 4, 2) := by decide +kernel
theorem d_mt_byteAt_19 : decode b_mt_byteAt 19 = .ok (.laload, 1) := by decide +kernel
theorem d_mt_byteAt_20 : decode b_mt_byteAt 20 = .ok (.goto 10, 3) := by decide +kernel
theorem d_mt_byteAt_23 : decode b_mt_byteAt 23 = .ok (.aload_n 0, 1) := by decide +kernel
theorem d_mt_byteAt_24 : decode b_mt_byteAt 24 = .ok (.getfield 19, 3) := by decide +kernel
theorem d_mt_byteAt_27 : decode b_mt_byteAt 27 = .ok (.iload 4, 2) := by decide +kernel
theorem d_mt_byteAt_29 : decode b_mt_byteAt 29 = .ok (.laload, 1) := by decide +kernel
theorem d_mt_byteAt_30 : decode b_mt_byteAt 30 = .ok (.lstore 5, 2) := by decide +kernel
theorem d_mt_byteAt_32 : decode b_mt_byteAt 32 = .ok (.lload 5, 2) := by decide +kernel
theorem d_mt_byteAt_34 : decode b_mt_byteAt 34 = .ok (.iload_n 3, 1) := by decide +kernel
theorem d_mt_byteAt_35 : decode b_mt_byteAt 35 = .ok (.bipush 8, 2) := by decide +kernel
theorem d_mt_byteAt_37 : decode b_mt_byteAt 37 = .ok (.irem, 1) := by decide +kernel
theorem d_mt_byteAt_38 : decode b_mt_byteAt 38 = .ok (.bipush 8, 2) := by decide +kernel
theorem d_mt_byteAt_40 : decode b_mt_byteAt 40 = .ok (.imul, 1) := by decide +kernel
theorem d_mt_byteAt_41 : decode b_mt_byteAt 41 = .ok (.lushr, 1) := by decide +kernel
theorem d_mt_byteAt_42 : decode b_mt_byteAt 42 = .ok (.l2i, 1) := by decide +kernel
theorem d_mt_byteAt_43 : decode b_mt_byteAt 43 = .ok (.sipush 255, 3) := by decide +kernel
theorem d_mt_byteAt_46 : decode b_mt_byteAt 46 = .ok (.iand, 1) := by decide +kernel
theorem d_mt_byteAt_47 : decode b_mt_byteAt 47 = .ok (.ireturn, 1) := by decide +kernel
theorem d_mt_slotOf_0 : decode b_mt_slotOf 0 = .ok (.iload_n 0, 1) := by decide +kernel
theorem d_mt_slotOf_1 : decode b_mt_slotOf 1 = .ok (.bipush 8, 2) := by decide +kernel
theorem d_mt_slotOf_3 : decode b_mt_slotOf 3 = .ok (.imul, 1) := by decide +kernel
theorem d_mt_slotOf_4 : decode b_mt_slotOf 4 = .ok (.iload_n 1, 1) := by decide +kernel
theorem d_mt_slotOf_5 : decode b_mt_slotOf 5 = .ok (.iadd, 1) := by decide +kernel
theorem d_mt_slotOf_6 : decode b_mt_slotOf 6 = .ok (.ireturn, 1) := by decide +kernel
