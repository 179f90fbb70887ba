theorem d_me_giveBack_71 : decode b_me_giveBack 71 = .ok (.getfield 25, 3) := by decide +kernel
theorem d_me_giveBack_74 : decode b_me_giveBack 74 = .ok (.iload_n 1, 1) := by decide +kernel
theorem d_me_giveBack_75 : decode b_me_giveBack 75 = .ok (.iconst 0, 1) := by decide +kernel
theorem d_me_giveBack_76 : decode b_me_giveBack 76 = .ok (.iastore, 1) := by decide +kernel
theorem d_me_giveBack_77 : decode b_me_giveBack 77 = .ok (.aload_n 0, 1) := by decide +kernel
theorem d_me_giveBack_78 : decode b_me_giveBack 78 = .ok (.getfield 31, 3) := by decide +kernel
theorem d_me_giveBack_81 : decode b_me_giveBack 81 = .ok (.iload_n 1, 1) := by decide +kernel
theorem d_me_giveBack_82 : decode b_me_giveBack 82 = .ok (.iconst 0, 1) := by decide +kernel
theorem d_me_giveBack_83 : decode b_me_giveBack 83 = .ok (.iastore, 1) := by decide +kernel
theorem d_me_giveBack_84 : decode b_me_giveBack 84 = .ok (.return_, 1) := by decide +kernel
theorem d_me_giveBackUnheld_0 : decode b_me_giveBackUnheld 0 = .ok (.iconst 0, 1) := by decide +kernel
theorem d_me_giveBackUnheld_1 : decode b_me_giveBackUnheld 1 = .ok (.istore_n 1, 1) := by decide +kernel
theorem d_me_giveBackUnheld_2 : decode b_me_giveBackUnheld 2 = .ok (.iconst 4, 1) := by decide +kernel
theorem d_me_giveBackUnheld_3 : decode b_me_giveBackUnheld 3 = .ok (.istore_n 2, 1) := by decide +kernel
theorem d_me_giveBackUnheld_4 : decode b_me_giveBackUnheld 4 = .ok (.iload_n 2, 1) := by decide +kernel
theorem d_me_giveBackUnheld_5 : decode b_me_giveBackUnheld 5 = .ok (.bipush 28, 2) := by decide +kernel
theorem d_me_giveBackUnheld_7 : decode b_me_giveBackUnheld 7 = .ok (.if_icmp .ge 43, 3) := by decide +kernel
theorem d_me_giveBackUnheld_10 : decode b_me_giveBackUnheld 10 = .ok (.aload_n 0, 1) := by decide +kernel
theorem d_me_giveBackUnheld_11 : decode b_me_giveBackUnheld 11 = .ok (.getfield 9, 3) := by decide +kernel
theorem d_me_giveBackUnheld_14 : decode b_me_giveBackUnheld 14 = .ok (.iload_n 2, 1) := by decide +kernel
theorem d_me_giveBackUnheld_15 : decode b_me_giveBackUnheld 15 = .ok (.baload, 1) := by decide +kernel
theorem d_me_giveBackUnheld_16 : decode b_me_giveBackUnheld 16 = .ok (.ifCond .eq 28, 3) := by decide +kernel
theorem d_me_giveBackUnheld_19 : decode b_me_giveBackUnheld 19 = .ok (.aload_n 0, 1) := by decide +kernel
theorem d_me_giveBackUnheld_20 : decode b_me_giveBackUnheld 20 = .ok (.getfield 15, 3) := by decide +kernel
theorem d_me_giveBackUnheld_23 : decode b_me_giveBackUnheld 23 = .ok (.iload_n 2, 1) := by decide +kernel
theorem d_me_giveBackUnheld_24 : decode b_me_giveBackUnheld 24 = .ok (.baload, 1) := by decide +kernel
theorem d_me_giveBackUnheld_25 : decode b_me_giveBackUnheld 25 = .ok (.ifCond .ne 19, 3) := by decide +kernel
theorem d_me_giveBackUnheld_28 : decode b_me_giveBackUnheld 28 = .ok (.aload_n 0, 1) := by decide +kernel
theorem d_me_giveBackUnheld_29 : decode b_me_giveBackUnheld 29 = .ok (.getfield 34, 3) := by decide +kernel
theorem d_me_giveBackUnheld_32 : decode b_me_giveBackUnheld 32 = .ok (.iload_n 2, 1) := by decide +kernel
theorem d_me_giveBackUnheld_33 : decode b_me_giveBackUnheld 33 = .ok (.iaload, 1) := by decide +kernel
theorem d_me_giveBackUnheld_34 : decode b_me_giveBackUnheld 34 = .ok (.ifCond .ne 10, 3) := by decide +kernel
theorem d_me_giveBackUnheld_37 : decode b_me_giveBackUnheld 37 = .ok (.aload_n 0, 1) := by decide +kernel
theorem d_me_giveBackUnheld_38 : decode b_me_giveBackUnheld 38 = .ok (.iload_n 2, 1) := by decide +kernel
theorem d_me_giveBackUnheld_39 : decode b_me_giveBackUnheld 39 = .ok (.invokevirtual 107, 3) := by decide +kernel
theorem d_me_giveBackUnheld_42 : decode b_me_giveBackUnheld 42 = .ok (.iconst 1, 1) := by decide +kernel
theorem d_me_giveBackUnheld_43 : decode b_me_giveBackUnheld 43 = .ok (.istore_n 1, 1) := by decide +kernel
theorem d_me_giveBackUnheld_44 : decode b_me_giveBackUnheld 44 = .ok (.iinc 2 1, 3) := by decide +kernel
theorem d_me_giveBackUnheld_47 : decode b_me_giveBackUnheld 47 = .ok (.goto (-43), 3) := by decide +kernel
theorem d_me_giveBackUnheld_50 : decode b_me_giveBackUnheld 50 = .ok (.iload_n 1, 1) := by decide +kernel
theorem d_me_giveBackUnheld_51 : decode b_me_giveBackUnheld 51 = .ok (.ireturn, 1) := by decide +kernel
theorem d_me_stick_0 : decode b_me_stick 0 = .ok (.iconst 0, 1) := by decide +kernel
theorem d_me_stick_1 : decode b_me_stick 1 = .ok (.istore_n 1, 1) := by decide +kernel
theorem d_me_stick_2 : decode b_me_stick 2 = .ok (.iload_n 1, 1) := by decide +kernel
theorem d_me_stick_3 : decode b_me_stick 3 = .ok (.bipush 28, 2) := by decide +kernel
theorem d_me_stick_5 : decode b_me_stick 5 = .ok (.if_icmp .ge 36, 3) := by decide +kernel
theorem d_me_stick_8 : decode b_me_stick 8 = .ok (.aload_n 0, 1) := by decide +kernel
theorem d_me_stick_9 : decode b_me_stick 9 = .ok (.getfield 9, 3) := by decide +kernel
theorem d_me_stick_12 : decode b_me_stick 12 = .ok (.iload_n 1, 1) := by decide +kernel
theorem d_me_stick_13 : decode b_me_stick 13 = .ok (.baload, 1) := by decide +kernel
theorem d_me_stick_14 : decode b_me_stick 14 = .ok (.ifCond .eq 21, 3) := by decide +kernel
theorem d_me_stick_17 : decode b_me_stick 17 = .ok (.aload_n 0, 1) := by decide +kernel
theorem d_me_stick_18 : decode b_me_stick 18 = .ok (.getfield 34, 3) := by decide +kernel
theorem d_me_stick_21 : decode b_me_stick 21 = .ok (.iload_n 1, 1) := by decide +kernel
theorem d_me_stick_22 : decode b_me_stick 22 = .ok (.iaload, 1) := by decide +kernel
theorem d_me_stick_23 : decode b_me_stick 23 = .ok (.bipush 6, 2) := by decide +kernel
theorem d_me_stick_25 : decode b_me_stick 25 = .ok (.if_icmp .lt 10, 3) := by decide +kernel
theorem d_me_stick_28 : decode b_me_stick 28 = .ok (.aload_n 0, 1) := by decide +kernel
theorem d_me_stick_29 : decode b_me_stick 29 = .ok (.getfield 15, 3) := by decide +kernel
theorem d_me_stick_32 : decode b_me_stick 32 = .ok (.iload_n 1, 1) := by decide +kernel
theorem d_me_stick_33 : decode b_me_stick 33 = .ok (.iconst 1, 1) := by decide +kernel
theorem d_me_stick_34 : decode b_me_stick 34 = .ok (.bastore, 1) := by decide +kernel
theorem d_me_stick_35 : decode b_me_stick 35 = .ok (.iinc 1 1, 3) := by decide +kernel
theorem d_me_stick_38 : decode b_me_stick 38 = .ok (.goto (-36), 3) := by decide +kernel
theorem d_me_stick_41 : decode b_me_stick 41 = .ok (.return_, 1) := by decide +kernel
theorem d_me_hold_0 : decode b_me_hold 0 = .ok (.iload_n 1, 1) := by decide +kernel
theorem d_me_hold_1 : decode b_me_hold 1 = .ok (.bipush 28, 2) := by decide +kernel
theorem d_me_hold_3 : decode b_me_hold 3 = .ok (.if_icmp .ge 13, 3) := by decide +kernel
theorem d_me_hold_6 : decode b_me_hold 6 = .ok (.aload_n 0, 1) := by decide +kernel
theorem d_me_hold_7 : decode b_me_hold 7 = .ok (.getfield 34, 3) := by decide +kernel
theorem d_me_hold_10 : decode b_me_hold 10 = .ok (.iload_n 1, 1) := by decide +kernel
theorem d_me_hold_11 : decode b_me_hold 11 = .ok (.dup2, 1) := by decide +kernel
theorem d_me_hold_12 : decode b_me_hold 12 = .ok (.iaload, 1) := by decide +kernel
theorem d_me_hold_13 : decode b_me_hold 13 = .ok (.iconst 1, 1) := by decide +kernel
theorem d_me_hold_14 : decode b_me_hold 14 = .ok (.iadd, 1) := by decide +kernel
theorem d_me_hold_15 : decode b_me_hold 15 = .ok (.iastore, 1) := by decide +kernel
theorem d_me_hold_16 : decode b_me_hold 16 = .ok (.return_, 1) := by decide +kernel
theorem d_me_release_0 : decode b_me_release 0 = .ok (.iload_n 1, 1) := by decide +kernel
theorem d_me_release_1 : decode b_me_release 1 = .ok (.bipush 28, 2) := by decide +kernel
theorem d_me_release_3 : decode b_me_release 3 = .ok (.if_icmp .ge 13, 3) := by decide +kernel
theorem d_me_release_6 : decode b_me_release 6 = .ok (.aload_n 0, 1) := by decide +kernel
theorem d_me_release_7 : decode b_me_release 7 = .ok (.getfield 34, 3) := by decide +kernel
theorem d_me_release_10 : decode b_me_release 10 = .ok (.iload_n 1, 1) := by decide +kernel
theorem d_me_release_11 : decode b_me_release 11 = .ok (.dup2, 1) := by decide +kernel
theorem d_me_release_12 : decode b_me_release 12 = .ok (.iaload, 1) := by decide +kernel
theorem d_me_release_13 : decode b_me_release 13 = .ok (.iconst 1, 1) := by decide +kernel
theorem d_me_release_14 : decode b_me_release 14 = .ok (.isub, 1) := by decide +kernel
theorem d_me_release_15 : decode b_me_release 15 = .ok (.iastore, 1) := by decide +kernel
theorem d_me_release_16 : decode b_me_release 16 = .ok (.return_, 1) := by decide +kernel
theorem d_me_markReached_0 : decode b_me_markReached 0 = .ok (.iconst 0, 1) := by decide +kernel
theorem d_me_markReached_1 : decode b_me_markReached 1 = .ok (.istore_n 1, 1) := by decide +kernel
theorem d_me_markReached_2 : decode b_me_markReached 2 = .ok (.iload_n 1, 1) := by decide +kernel
theorem d_me_markReached_3 : decode b_me_markReached 3 = .ok (.bipush 28, 2) := by decide +kernel
theorem d_me_markReached_5 : decode b_me_markReached 5 = .ok (.if_icmp .ge 16, 3) := by decide +kernel
theorem d_me_markReached_8 : decode b_me_markReached 8 = .ok (.aload_n 0, 1) := by decide +kernel
theorem d_me_markReached_9 : decode b_me_markReached 9 = .ok (.getfield 45, 3) := by decide +kernel
theorem d_me_markReached_12 : decode b_me_markReached 12 = .ok (.iload_n 1, 1) := by decide +kernel
theorem d_me_markReached_13 : decode b_me_markReached 13 = .ok (.iconst 0, 1) := by decide +kernel
theorem d_me_markReached_14 : decode b_me_markReached 14 = .ok (.bastore, 1) := by decide +kernel
theorem d_me_markReached_15 : decode b_me_markReached 15 = .ok (.iinc 1 1, 3) := by decide +kernel
theorem d_me_markReached_18 : decode b_me_markReached 18 = .ok (.goto (-16), 3) := by decide +kernel
theorem d_me_markReached_21 : decode b_me_markReached 21 = .ok (.aload_n 0, 1) := by decide +kernel
theorem d_me_markReached_22 : decode b_me_markReached 22 = .ok (.iconst 0, 1) := by decide +kernel
theorem d_me_markReached_23 : decode b_me_markReached 23 = .ok (.putfield 51, 3) := by decide +kernel
theorem d_me_markReached_26 : decode b_me_markReached 26 = .ok (.iconst 0, 1) := by decide +kernel
theorem d_me_markReached_27 : decode b_me_markReached 27 = .ok (.istore_n 1, 1) := by decide +kernel
theorem d_me_markReached_28 : decode b_me_markReached 28 = .ok (.iload_n 1, 1) := by decide +kernel
theorem d_me_markReached_29 : decode b_me_markReached 29 = .ok (.iconst 4, 1) := by decide +kernel
theorem d_me_markReached_30 : decode b_me_markReached 30 = .ok (.if_icmp .ge 14, 3) := by decide +kernel
theorem d_me_markReached_33 : decode b_me_markReached 33 = .ok (.aload_n 0, 1) := by decide +kernel
theorem d_me_markReached_34 : decode b_me_markReached 34 = .ok (.iload_n 1, 1) := by decide +kernel
theorem d_me_markReached_35 : decode b_me_markReached 35 = .ok (.invokevirtual 110, 3) := by decide +kernel
theorem d_me_markReached_38 : decode b_me_markReached 38 = .ok (.iinc 1 1, 3) := by decide +kernel
theorem d_me_markReached_41 : decode b_me_markReached 41 = .ok (.goto (-13), 3) := by decide +kernel
theorem d_me_markReached_44 : decode b_me_markReached 44 = .ok (.iconst 0, 1) := by decide +kernel
theorem d_me_markReached_45 : decode b_me_markReached 45 = .ok (.istore_n 1, 1) := by decide +kernel
theorem d_me_markReached_46 : decode b_me_markReached 46 = .ok (.iload_n 1, 1) := by decide +kernel
theorem d_me_markReached_47 : decode b_me_markReached 47 = .ok (.bipush 7, 2) := by decide +kernel
theorem d_me_markReached_49 : decode b_me_markReached 49 = .ok (.if_icmp .ge 19, 3) := by decide +kernel
theorem d_me_markReached_52 : decode b_me_markReached 52 = .ok (.aload_n 0, 1) := by decide +kernel
theorem d_me_markReached_53 : decode b_me_markReached 53 = .ok (.aload_n 0, 1) := by decide +kernel
theorem d_me_markReached_54 : decode b_me_markReached 54 = .ok (.getfield 42, 3) := by decide +kernel
theorem d_me_markReached_57 : decode b_me_markReached 57 = .ok (.iload_n 1, 1) := by decide +kernel
theorem d_me_markReached_58 : decode b_me_markReached 58 = .ok (.iaload, 1) := by decide +kernel
theorem d_me_markReached_59 : decode b_me_markReached 59 = .ok (.invokevirtual 110, 3) := by decide +kernel
theorem d_me_markReached_62 : decode b_me_markReached 62 = .ok (.iinc 1 1, 3) := by decide +kernel
theorem d_me_markReached_65 : decode b_me_markReached 65 = .ok (.goto (-19), 3) := by decide +kernel
theorem d_me_markReached_68 : decode b_me_markReached 68 = .ok (.iconst 0, 1) := by decide +kernel
theorem d_me_markReached_69 : decode b_me_markReached 69 = .ok (.istore_n 1, 1) := by decide +kernel
theorem d_me_markReached_70 : decode b_me_markReached 70 = .ok (.iload_n 1, 1) := by decide +kernel
theorem d_me_markReached_71 : decode b_me_markReached 71 = .ok (.aload_n 0, 1) := by decide +kernel
theorem d_me_markReached_72 : decode b_me_markReached 72 = .ok (.getfield 51, 3) := by decide +kernel
theorem d_me_markReached_75 : decode b_me_markReached 75 = .ok (.if_icmp .ge 25, 3) := by decide +kernel
theorem d_me_markReached_78 : decode b_me_markReached 78 = .ok (.iload_n 1, 1) := by decide +kernel
theorem d_me_markReached_79 : decode b_me_markReached 79 = .ok (.bipush 28, 2) := by decide +kernel
theorem d_me_markReached_81 : decode b_me_markReached 81 = .ok (.if_icmp .ge 19, 3) := by decide +kernel
theorem d_me_markReached_84 : decode b_me_markReached 84 = .ok (.aload_n 0, 1) := by decide +kernel
theorem d_me_markReached_85 : decode b_me_markReached 85 = .ok (.aload_n 0, 1) := by decide +kernel
theorem d_me_markReached_86 : decode b_me_markReached 86 = .ok (.getfield 48, 3) := by decide +kernel
theorem d_me_markReached_89 : decode b_me_markReached 89 = .ok (.iload_n 1, 1) := by decide +kernel
theorem d_me_markReached_90 : decode b_me_markReached 90 = .ok (.iaload, 1) := by decide +kernel
theorem d_me_markReached_91 : decode b_me_markReached 91 = .ok (.invokevirtual 113, 3) := by decide +kernel
theorem d_me_markReached_94 : decode b_me_markReached 94 = .ok (.iinc 1 1, 3) := by decide +kernel
theorem d_me_markReached_97 : decode b_me_markReached 97 = .ok (.goto (-27), 3) := by decide +kernel
theorem d_me_markReached_100 : decode b_me_markReached 100 = .ok (.return_, 1) := by decide +kernel
theorem d_me_reachFrom_0 : decode b_me_reachFrom 0 = .ok (.aload_n 0, 1) := by decide +kernel
theorem d_me_reachFrom_1 : decode b_me_reachFrom 1 = .ok (.aload_n 0, 1) := by decide +kernel
theorem d_me_reachFrom_2 : decode b_me_reachFrom 2 = .ok (.getfield 21, 3) := by decide +kernel
theorem d_me_reachFrom_5 : decode b_me_reachFrom 5 = .ok (.iload_n 1, 1) := by decide +kernel
theorem d_me_reachFrom_6 : decode b_me_reachFrom 6 = .ok (.iaload, 1) := by decide +kernel
theorem d_me_reachFrom_7 : decode b_me_reachFrom 7 = .ok (.invokevirtual 110, 3) := by decide +kernel
theorem d_me_reachFrom_10 : decode b_me_reachFrom 10 = .ok (.iconst 0, 1) := by decide +kernel
theorem d_me_reachFrom_11 : decode b_me_reachFrom 11 = .ok (.istore_n 2, 1) := by decide +kernel
theorem d_me_reachFrom_12 : decode b_me_reachFrom 12 = .ok (.iload_n 2, 1) := by decide +kernel
theorem d_me_reachFrom_13 : decode b_me_reachFrom 13 = .ok (.aload_n 0, 1) := by decide +kernel
theorem d_me_reachFrom_14 : decode b_me_reachFrom 14 = .ok (.getfield 25, 3) := by decide +kernel
theorem d_me_reachFrom_17 : decode b_me_reachFrom 17 = .ok (.iload_n 1, 1) := by decide +kernel
theorem d_me_reachFrom_18 : decode b_me_reachFrom 18 = .ok (.iaload, 1) := by decide +kernel
theorem d_me_reachFrom_19 : decode b_me_reachFrom 19 = .ok (.if_icmp .ge 21, 3) := by decide +kernel
theorem d_me_reachFrom_22 : decode b_me_reachFrom 22 = .ok (.aload_n 0, 1) := by decide +kernel
theorem d_me_reachFrom_23 : decode b_me_reachFrom 23 = .ok (.aload_n 0, 1) := by decide +kernel
theorem d_me_reachFrom_24 : decode b_me_reachFrom 24 = .ok (.getfield 39, 3) := by decide +kernel
theorem d_me_reachFrom_27 : decode b_me_reachFrom 27 = .ok (.iload_n 1, 1) := by decide +kernel
theorem d_me_reachFrom_28 : decode b_me_reachFrom 28 = .ok (.aaload, 1) := by decide +kernel
theorem d_me_reachFrom_29 : decode b_me_reachFrom 29 = .ok (.iload_n 2, 1) := by decide +kernel
theorem d_me_reachFrom_30 : decode b_me_reachFrom 30 = .ok (.iaload, 1) := by decide +kernel
theorem d_me_reachFrom_31 : decode b_me_reachFrom 31 = .ok (.invokevirtual 110, 3) := by decide +kernel
theorem d_me_reachFrom_34 : decode b_me_reachFrom 34 = .ok (.iinc 2 1, 3) := by decide +kernel
theorem d_me_reachFrom_37 : decode b_me_reachFrom 37 = .ok (.goto (-25), 3) := by decide +kernel
theorem d_me_reachFrom_40 : decode b_me_reachFrom 40 = .ok (.return_, 1) := by decide +kernel
theorem d_me_reach_0 : decode b_me_reach 0 = .ok (.iload_n 1, 1) := by decide +kernel
theorem d_me_reach_1 : decode b_me_reach 1 = .ok (.invokestatic 86, 3) := by decide +kernel
theorem d_me_reach_4 : decode b_me_reach 4 = .ok (.ifCond .eq 39, 3) := by decide +kernel
theorem d_me_reach_7 : decode b_me_reach 7 = .ok (.aload_n 0, 1) := by decide +kernel
theorem d_me_reach_8 : decode b_me_reach 8 = .ok (.getfield 45, 3) := by decide +kernel
theorem d_me_reach_11 : decode b_me_reach 11 = .ok (.iload_n 1, 1) := by decide +kernel
theorem d_me_reach_12 : decode b_me_reach 12 = .ok (.baload, 1) := by decide +kernel
theorem d_me_reach_13 : decode b_me_reach 13 = .ok (.ifCond .ne 30, 3) := by decide +kernel
theorem d_me_reach_16 : decode b_me_reach 16 = .ok (.aload_n 0, 1) := by decide +kernel
theorem d_me_reach_17 : decode b_me_reach 17 = .ok (.getfield 45, 3) := by decide +kernel
theorem d_me_reach_20 : decode b_me_reach 20 = .ok (.iload_n 1, 1) := by decide +kernel
theorem d_me_reach_21 : decode b_me_reach 21 = .ok (.iconst 1, 1) := by decide +kernel
theorem d_me_reach_22 : decode b_me_reach 22 = .ok (.bastore, 1) := by decide +kernel
theorem d_me_reach_23 : decode b_me_reach 23 = .ok (.aload_n 0, 1) := by decide +kernel
theorem d_me_reach_24 : decode b_me_reach 24 = .ok (.getfield 48, 3) := by decide +kernel
theorem d_me_reach_27 : decode b_me_reach 27 = .ok (.aload_n 0, 1) := by decide +kernel
theorem d_me_reach_28 : decode b_me_reach 28 = .ok (.getfield 51, 3) := by decide +kernel
theorem d_me_reach_31 : decode b_me_reach 31 = .ok (.iload_n 1, 1) := by decide +kernel
theorem d_me_reach_32 : decode b_me_reach 32 = .ok (.iastore, 1) := by decide +kernel
theorem d_me_reach_33 : decode b_me_reach 33 = .ok (.aload_n 0, 1) := by decide +kernel
theorem d_me_reach_34 : decode b_me_reach 34 = .ok (.dup, 1) := by decide +kernel
theorem d_me_reach_35 : decode b_me_reach 35 = .ok (.getfield 51, 3) := by decide +kernel
theorem d_me_reach_38 : decode b_me_reach 38 = .ok (.iconst 1, 1) := by decide +kernel
theorem d_me_reach_39 : decode b_me_reach 39 = .ok (.iadd, 1) := by decide +kernel
theorem d_me_reach_40 : decode b_me_reach 40 = .ok (.putfield 51, 3) := by decide +kernel
theorem d_me_reach_43 : decode b_me_reach 43 = .ok (.return_, 1) := by decide +kernel
