theorem d_me_init_0 : decode b_me_init 0 = .ok (.aload_n 0, 1) := by decide +kernel
theorem d_me_init_1 : decode b_me_init 1 = .ok (.invokespecial 3, 3) := by decide +kernel
theorem d_me_init_4 : decode b_me_init 4 = .ok (.aload_n 0, 1) := by decide +kernel
theorem d_me_init_5 : decode b_me_init 5 = .ok (.bipush 28, 2) := by decide +kernel
theorem d_me_init_7 : decode b_me_init 7 = .ok (.newarray .boolean, 2) := by decide +kernel
theorem d_me_init_9 : decode b_me_init 9 = .ok (.putfield 9, 3) := by decide +kernel
theorem d_me_init_12 : decode b_me_init 12 = .ok (.aload_n 0, 1) := by decide +kernel
theorem d_me_init_13 : decode b_me_init 13 = .ok (.bipush 28, 2) := by decide +kernel
theorem d_me_init_15 : decode b_me_init 15 = .ok (.newarray .boolean, 2) := by decide +kernel
theorem d_me_init_17 : decode b_me_init 17 = .ok (.putfield 15, 3) := by decide +kernel
theorem d_me_init_20 : decode b_me_init 20 = .ok (.aload_n 0, 1) := by decide +kernel
theorem d_me_init_21 : decode b_me_init 21 = .ok (.bipush 28, 2) := by decide +kernel
theorem d_me_init_23 : decode b_me_init 23 = .ok (.newarray .boolean, 2) := by decide +kernel
theorem d_me_init_25 : decode b_me_init 25 = .ok (.putfield 18, 3) := by decide +kernel
theorem d_me_init_28 : decode b_me_init 28 = .ok (.aload_n 0, 1) := by decide +kernel
theorem d_me_init_29 : decode b_me_init 29 = .ok (.bipush 28, 2) := by decide +kernel
theorem d_me_init_31 : decode b_me_init 31 = .ok (.newarray .int, 2) := by decide +kernel
theorem d_me_init_33 : decode b_me_init 33 = .ok (.putfield 21, 3) := by decide +kernel
theorem d_me_init_36 : decode b_me_init 36 = .ok (.aload_n 0, 1) := by decide +kernel
theorem d_me_init_37 : decode b_me_init 37 = .ok (.bipush 28, 2) := by decide +kernel
theorem d_me_init_39 : decode b_me_init 39 = .ok (.newarray .int, 2) := by decide +kernel
theorem d_me_init_41 : decode b_me_init 41 = .ok (.putfield 25, 3) := by decide +kernel
theorem d_me_init_44 : decode b_me_init 44 = .ok (.aload_n 0, 1) := by decide +kernel
theorem d_me_init_45 : decode b_me_init 45 = .ok (.bipush 28, 2) := by decide +kernel
theorem d_me_init_47 : decode b_me_init 47 = .ok (.newarray .int, 2) := by decide +kernel
theorem d_me_init_49 : decode b_me_init 49 = .ok (.putfield 28, 3) := by decide +kernel
theorem d_me_init_52 : decode b_me_init 52 = .ok (.aload_n 0, 1) := by decide +kernel
theorem d_me_init_53 : decode b_me_init 53 = .ok (.bipush 28, 2) := by decide +kernel
theorem d_me_init_55 : decode b_me_init 55 = .ok (.newarray .int, 2) := by decide +kernel
theorem d_me_init_57 : decode b_me_init 57 = .ok (.putfield 31, 3) := by decide +kernel
theorem d_me_init_60 : decode b_me_init 60 = .ok (.aload_n 0, 1) := by decide +kernel
theorem d_me_init_61 : decode b_me_init 61 = .ok (.bipush 28, 2) := by decide +kernel
theorem d_me_init_63 : decode b_me_init 63 = .ok (.newarray .int, 2) := by decide +kernel
theorem d_me_init_65 : decode b_me_init 65 = .ok (.putfield 34, 3) := by decide +kernel
theorem d_me_init_68 : decode b_me_init 68 = .ok (.aload_n 0, 1) := by decide +kernel
theorem d_me_init_69 : decode b_me_init 69 = .ok (.bipush 28, 2) := by decide +kernel
theorem d_me_init_71 : decode b_me_init 71 = .ok (.bipush 15, 2) := by decide +kernel
theorem d_me_init_73 : decode b_me_init 73 = .ok (.multianewarray 37 2, 4) := by decide +kernel
theorem d_me_init_77 : decode b_me_init 77 = .ok (.putfield 39, 3) := by decide +kernel
theorem d_me_init_80 : decode b_me_init 80 = .ok (.aload_n 0, 1) := by decide +kernel
theorem d_me_init_81 : decode b_me_init 81 = .ok (.bipush 7, 2) := by decide +kernel
theorem d_me_init_83 : decode b_me_init 83 = .ok (.newarray .int, 2) := by decide +kernel
theorem d_me_init_85 : decode b_me_init 85 = .ok (.putfield 42, 3) := by decide +kernel
theorem d_me_init_88 : decode b_me_init 88 = .ok (.aload_n 0, 1) := by decide +kernel
theorem d_me_init_89 : decode b_me_init 89 = .ok (.bipush 28, 2) := by decide +kernel
theorem d_me_init_91 : decode b_me_init 91 = .ok (.newarray .boolean, 2) := by decide +kernel
theorem d_me_init_93 : decode b_me_init 93 = .ok (.putfield 45, 3) := by decide +kernel
theorem d_me_init_96 : decode b_me_init 96 = .ok (.aload_n 0, 1) := by decide +kernel
theorem d_me_init_97 : decode b_me_init 97 = .ok (.bipush 28, 2) := by decide +kernel
theorem d_me_init_99 : decode b_me_init 99 = .ok (.newarray .int, 2) := by decide +kernel
theorem d_me_init_101 : decode b_me_init 101 = .ok (.putfield 48, 3) := by decide +kernel
theorem d_me_init_104 : decode b_me_init 104 = .ok (.aload_n 0, 1) := by decide +kernel
theorem d_me_init_105 : decode b_me_init 105 = .ok (.iconst 0, 1) := by decide +kernel
theorem d_me_init_106 : decode b_me_init 106 = .ok (.putfield 51, 3) := by decide +kernel
theorem d_me_init_109 : decode b_me_init 109 = .ok (.aload_n 0, 1) := by decide +kernel
theorem d_me_init_110 : decode b_me_init 110 = .ok (.getfield 34, 3) := by decide +kernel
theorem d_me_init_113 : decode b_me_init 113 = .ok (.iconst 0, 1) := by decide +kernel
theorem d_me_init_114 : decode b_me_init 114 = .ok (.bipush 7, 2) := by decide +kernel
theorem d_me_init_116 : decode b_me_init 116 = .ok (.iastore, 1) := by decide +kernel
theorem d_me_init_117 : decode b_me_init 117 = .ok (.aload_n 0, 1) := by decide +kernel
theorem d_me_init_118 : decode b_me_init 118 = .ok (.iconst 0, 1) := by decide +kernel
theorem d_me_init_119 : decode b_me_init 119 = .ok (.iconst 1, 1) := by decide +kernel
theorem d_me_init_120 : decode b_me_init 120 = .ok (.iconst 0, 1) := by decide +kernel
theorem d_me_init_121 : decode b_me_init 121 = .ok (.invokevirtual 55, 3) := by decide +kernel
theorem d_me_init_124 : decode b_me_init 124 = .ok (.aload_n 0, 1) := by decide +kernel
theorem d_me_init_125 : decode b_me_init 125 = .ok (.iconst 1, 1) := by decide +kernel
theorem d_me_init_126 : decode b_me_init 126 = .ok (.iconst 0, 1) := by decide +kernel
theorem d_me_init_127 : decode b_me_init 127 = .ok (.iconst 0, 1) := by decide +kernel
theorem d_me_init_128 : decode b_me_init 128 = .ok (.invokevirtual 59, 3) := by decide +kernel
theorem d_me_init_131 : decode b_me_init 131 = .ok (.aload_n 0, 1) := by decide +kernel
theorem d_me_init_132 : decode b_me_init 132 = .ok (.iconst 2, 1) := by decide +kernel
theorem d_me_init_133 : decode b_me_init 133 = .ok (.iconst 1, 1) := by decide +kernel
theorem d_me_init_134 : decode b_me_init 134 = .ok (.iconst 0, 1) := by decide +kernel
theorem d_me_init_135 : decode b_me_init 135 = .ok (.invokevirtual 59, 3) := by decide +kernel
theorem d_me_init_138 : decode b_me_init 138 = .ok (.aload_n 0, 1) := by decide +kernel
theorem d_me_init_139 : decode b_me_init 139 = .ok (.iconst 3, 1) := by decide +kernel
theorem d_me_init_140 : decode b_me_init 140 = .ok (.iconst 1, 1) := by decide +kernel
theorem d_me_init_141 : decode b_me_init 141 = .ok (.iconst 0, 1) := by decide +kernel
theorem d_me_init_142 : decode b_me_init 142 = .ok (.invokevirtual 59, 3) := by decide +kernel
theorem d_me_init_145 : decode b_me_init 145 = .ok (.aload_n 0, 1) := by decide +kernel
theorem d_me_init_146 : decode b_me_init 146 = .ok (.invokevirtual 62, 3) := by decide +kernel
theorem d_me_init_149 : decode b_me_init 149 = .ok (.return_, 1) := by decide +kernel
theorem d_me_newClass_0 : decode b_me_newClass 0 = .ok (.aload_n 0, 1) := by decide +kernel
theorem d_me_newClass_1 : decode b_me_newClass 1 = .ok (.invokevirtual 65, 3) := by decide +kernel
theorem d_me_newClass_4 : decode b_me_newClass 4 = .ok (.istore_n 3, 1) := by decide +kernel
theorem d_me_newClass_5 : decode b_me_newClass 5 = .ok (.iload_n 3, 1) := by decide +kernel
theorem d_me_newClass_6 : decode b_me_newClass 6 = .ok (.iconst (-1), 1) := by decide +kernel
theorem d_me_newClass_7 : decode b_me_newClass 7 = .ok (.if_icmp .eq 10, 3) := by decide +kernel
theorem d_me_newClass_10 : decode b_me_newClass 10 = .ok (.aload_n 0, 1) := by decide +kernel
theorem d_me_newClass_11 : decode b_me_newClass 11 = .ok (.iload_n 3, 1) := by decide +kernel
theorem d_me_newClass_12 : decode b_me_newClass 12 = .ok (.iload_n 1, 1) := by decide +kernel
theorem d_me_newClass_13 : decode b_me_newClass 13 = .ok (.iload_n 2, 1) := by decide +kernel
theorem d_me_newClass_14 : decode b_me_newClass 14 = .ok (.invokevirtual 59, 3) := by decide +kernel
theorem d_me_newClass_17 : decode b_me_newClass 17 = .ok (.iload_n 3, 1) := by decide +kernel
theorem d_me_newClass_18 : decode b_me_newClass 18 = .ok (.ireturn, 1) := by decide +kernel
theorem d_me_newInstance_0 : decode b_me_newInstance 0 = .ok (.aload_n 0, 1) := by decide +kernel
theorem d_me_newInstance_1 : decode b_me_newInstance 1 = .ok (.invokevirtual 65, 3) := by decide +kernel
theorem d_me_newInstance_4 : decode b_me_newInstance 4 = .ok (.istore_n 2, 1) := by decide +kernel
theorem d_me_newInstance_5 : decode b_me_newInstance 5 = .ok (.iload_n 2, 1) := by decide +kernel
theorem d_me_newInstance_6 : decode b_me_newInstance 6 = .ok (.iconst (-1), 1) := by decide +kernel
theorem d_me_newInstance_7 : decode b_me_newInstance 7 = .ok (.if_icmp .eq 15, 3) := by decide +kernel
theorem d_me_newInstance_10 : decode b_me_newInstance 10 = .ok (.aload_n 0, 1) := by decide +kernel
theorem d_me_newInstance_11 : decode b_me_newInstance 11 = .ok (.iload_n 2, 1) := by decide +kernel
theorem d_me_newInstance_12 : decode b_me_newInstance 12 = .ok (.iload_n 1, 1) := by decide +kernel
theorem d_me_newInstance_13 : decode b_me_newInstance 13 = .ok (.aload_n 0, 1) := by decide +kernel
theorem d_me_newInstance_14 : decode b_me_newInstance 14 = .ok (.getfield 28, 3) := by decide +kernel
theorem d_me_newInstance_17 : decode b_me_newInstance 17 = .ok (.iload_n 1, 1) := by decide +kernel
theorem d_me_newInstance_18 : decode b_me_newInstance 18 = .ok (.iaload, 1) := by decide +kernel
theorem d_me_newInstance_19 : decode b_me_newInstance 19 = .ok (.invokevirtual 55, 3) := by decide +kernel
theorem d_me_newInstance_22 : decode b_me_newInstance 22 = .ok (.iload_n 2, 1) := by decide +kernel
theorem d_me_newInstance_23 : decode b_me_newInstance 23 = .ok (.ireturn, 1) := by decide +kernel
theorem d_me_newContext_0 : decode b_me_newContext 0 = .ok (.aload_n 0, 1) := by decide +kernel
theorem d_me_newContext_1 : decode b_me_newContext 1 = .ok (.invokevirtual 65, 3) := by decide +kernel
theorem d_me_newContext_4 : decode b_me_newContext 4 = .ok (.istore 4, 2) := by decide +kernel
theorem d_me_newContext_6 : decode b_me_newContext 6 = .ok (.iload 4, 2) := by decide +kernel
theorem d_me_newContext_8 : decode b_me_newContext 8 = .ok (.iconst (-1), 1) := by decide +kernel
theorem d_me_newContext_9 : decode b_me_newContext 9 = .ok (.if_icmp .eq 50, 3) := by decide +kernel
theorem d_me_newContext_12 : decode b_me_newContext 12 = .ok (.aload_n 0, 1) := by decide +kernel
theorem d_me_newContext_13 : decode b_me_newContext 13 = .ok (.iload 4, 2) := by decide +kernel
theorem d_me_newContext_15 : decode b_me_newContext 15 = .ok (.iconst 3, 1) := by decide +kernel
theorem d_me_newContext_16 : decode b_me_newContext 16 = .ok (.bipush 15, 2) := by decide +kernel
theorem d_me_newContext_18 : decode b_me_newContext 18 = .ok (.invokevirtual 55, 3) := by decide +kernel
theorem d_me_newContext_21 : decode b_me_newContext 21 = .ok (.aload_n 0, 1) := by decide +kernel
theorem d_me_newContext_22 : decode b_me_newContext 22 = .ok (.iload 4, 2) := by decide +kernel
theorem d_me_newContext_24 : decode b_me_newContext 24 = .ok (.iconst 1, 1) := by decide +kernel
theorem d_me_newContext_25 : decode b_me_newContext 25 = .ok (.iload_n 1, 1) := by decide +kernel
theorem d_me_newContext_26 : decode b_me_newContext 26 = .ok (.invokevirtual 69, 3) := by decide +kernel
theorem d_me_newContext_29 : decode b_me_newContext 29 = .ok (.aload_n 0, 1) := by decide +kernel
theorem d_me_newContext_30 : decode b_me_newContext 30 = .ok (.iload 4, 2) := by decide +kernel
theorem d_me_newContext_32 : decode b_me_newContext 32 = .ok (.iconst 2, 1) := by decide +kernel
theorem d_me_newContext_33 : decode b_me_newContext 33 = .ok (.iload_n 2, 1) := by decide +kernel
theorem d_me_newContext_34 : decode b_me_newContext 34 = .ok (.invokevirtual 69, 3) := by decide +kernel
theorem d_me_newContext_37 : decode b_me_newContext 37 = .ok (.aload_n 0, 1) := by decide +kernel
theorem d_me_newContext_38 : decode b_me_newContext 38 = .ok (.iload 4, 2) := by decide +kernel
theorem d_me_newContext_40 : decode b_me_newContext 40 = .ok (.iconst 3, 1) := by decide +kernel
theorem d_me_newContext_41 : decode b_me_newContext 41 = .ok (.sipush 1000, 3) := by decide +kernel
theorem d_me_newContext_44 : decode b_me_newContext 44 = .ok (.iload_n 3, 1) := by decide +kernel
theorem d_me_newContext_45 : decode b_me_newContext 45 = .ok (.iadd, 1) := by decide +kernel
theorem d_me_newContext_46 : decode b_me_newContext 46 = .ok (.invokevirtual 69, 3) := by decide +kernel
theorem d_me_newContext_49 : decode b_me_newContext 49 = .ok (.aload_n 0, 1) := by decide +kernel
theorem d_me_newContext_50 : decode b_me_newContext 50 = .ok (.iload 4, 2) := by decide +kernel
theorem d_me_newContext_52 : decode b_me_newContext 52 = .ok (.iconst 4, 1) := by decide +kernel
theorem d_me_newContext_53 : decode b_me_newContext 53 = .ok (.sipush 1000, 3) := by decide +kernel
theorem d_me_newContext_56 : decode b_me_newContext 56 = .ok (.invokevirtual 69, 3) := by decide +kernel
theorem d_me_newContext_59 : decode b_me_newContext 59 = .ok (.iload 4, 2) := by decide +kernel
theorem d_me_newContext_61 : decode b_me_newContext 61 = .ok (.ireturn, 1) := by decide +kernel
theorem d_me_isAlive_0 : decode b_me_isAlive 0 = .ok (.iload_n 1, 1) := by decide +kernel
theorem d_me_isAlive_1 : decode b_me_isAlive 1 = .ok (.ifCond .lt 22, 3) := by decide +kernel
theorem d_me_isAlive_4 : decode b_me_isAlive 4 = .ok (.iload_n 1, 1) := by decide +kernel
theorem d_me_isAlive_5 : decode b_me_isAlive 5 = .ok (.bipush 28, 2) := by decide +kernel
theorem d_me_isAlive_7 : decode b_me_isAlive 7 = .ok (.if_icmp .ge 16, 3) := by decide +kernel
theorem d_me_isAlive_10 : decode b_me_isAlive 10 = .ok (.aload_n 0, 1) := by decide +kernel
theorem d_me_isAlive_11 : decode b_me_isAlive 11 = .ok (.getfield 9, 3) := by decide +kernel
theorem d_me_isAlive_14 : decode b_me_isAlive 14 = .ok (.iload_n 1, 1) := by decide +kernel
theorem d_me_isAlive_15 : decode b_me_isAlive 15 = .ok (.baload, 1) := by decide +kernel
theorem d_me_isAlive_16 : decode b_me_isAlive 16 = .ok (.ifCond .eq 7, 3) := by decide +kernel
theorem d_me_isAlive_19 : decode b_me_isAlive 19 = .ok (.iconst 1, 1) := by decide +kernel
theorem d_me_isAlive_20 : decode b_me_isAlive 20 = .ok (.goto 4, 3) := by decide +kernel
theorem d_me_isAlive_23 : decode b_me_isAlive 23 = .ok (.iconst 0, 1) := by decide +kernel
theorem d_me_isAlive_24 : decode b_me_isAlive 24 = .ok (.ireturn, 1) := by decide +kernel
theorem d_me_isClass_0 : decode b_me_isClass 0 = .ok (.aload_n 0, 1) := by decide +kernel
theorem d_me_isClass_1 : decode b_me_isClass 1 = .ok (.iload_n 1, 1) := by decide +kernel
theorem d_me_isClass_2 : decode b_me_isClass 2 = .ok (.invokevirtual 72, 3) := by decide +kernel
theorem d_me_isClass_5 : decode b_me_isClass 5 = .ok (.ifCond .eq 16, 3) := by decide +kernel
theorem d_me_isClass_8 : decode b_me_isClass 8 = .ok (.aload_n 0, 1) := by decide +kernel
theorem d_me_isClass_9 : decode b_me_isClass 9 = .ok (.getfield 18, 3) := by decide +kernel
theorem d_me_isClass_12 : decode b_me_isClass 12 = .ok (.iload_n 1, 1) := by decide +kernel
theorem d_me_isClass_13 : decode b_me_isClass 13 = .ok (.baload, 1) := by decide +kernel
theorem d_me_isClass_14 : decode b_me_isClass 14 = .ok (.ifCond .eq 7, 3) := by decide +kernel
theorem d_me_isClass_17 : decode b_me_isClass 17 = .ok (.iconst 1, 1) := by decide +kernel
theorem d_me_isClass_18 : decode b_me_isClass 18 = .ok (.goto 4, 3) := by decide +kernel
theorem d_me_isClass_21 : decode b_me_isClass 21 = .ok (.iconst 0, 1) := by decide +kernel
theorem d_me_isClass_22 : decode b_me_isClass 22 = .ok (.ireturn, 1) := by decide +kernel
theorem d_me_isClassOrNil_0 : decode b_me_isClassOrNil 0 = .ok (.iload_n 1, 1) := by decide +kernel
theorem d_me_isClassOrNil_1 : decode b_me_isClassOrNil 1 = .ok (.ifCond .eq 11, 3) := by decide +kernel
theorem d_me_isClassOrNil_4 : decode b_me_isClassOrNil 4 = .ok (.aload_n 0, 1) := by decide +kernel
theorem d_me_isClassOrNil_5 : decode b_me_isClassOrNil 5 = .ok (.iload_n 1, 1) := by decide +kernel
theorem d_me_isClassOrNil_6 : decode b_me_isClassOrNil 6 = .ok (.invokevirtual 76, 3) := by decide +kernel
theorem d_me_isClassOrNil_9 : decode b_me_isClassOrNil 9 = .ok (.ifCond .eq 7, 3) := by decide +kernel
theorem d_me_isClassOrNil_12 : decode b_me_isClassOrNil 12 = .ok (.iconst 1, 1) := by decide +kernel
theorem d_me_isClassOrNil_13 : decode b_me_isClassOrNil 13 = .ok (.goto 4, 3) := by decide +kernel
theorem d_me_isClassOrNil_16 : decode b_me_isClassOrNil 16 = .ok (.iconst 0, 1) := by decide +kernel
theorem d_me_isClassOrNil_17 : decode b_me_isClassOrNil 17 = .ok (.ireturn, 1) := by decide +kernel
theorem d_me_isContext_0 : decode b_me_isContext 0 = .ok (.aload_n 0, 1) := by decide +kernel
theorem d_me_isContext_1 : decode b_me_isContext 1 = .ok (.iload_n 1, 1) := by decide +kernel
theorem d_me_isContext_2 : decode b_me_isContext 2 = .ok (.invokevirtual 72, 3) := by decide +kernel
theorem d_me_isContext_5 : decode b_me_isContext 5 = .ok (.ifCond .eq 17, 3) := by decide +kernel
theorem d_me_isContext_8 : decode b_me_isContext 8 = .ok (.aload_n 0, 1) := by decide +kernel
theorem d_me_isContext_9 : decode b_me_isContext 9 = .ok (.getfield 21, 3) := by decide +kernel
theorem d_me_isContext_12 : decode b_me_isContext 12 = .ok (.iload_n 1, 1) := by decide +kernel
theorem d_me_isContext_13 : decode b_me_isContext 13 = .ok (.iaload, 1) := by decide +kernel
theorem d_me_isContext_14 : decode b_me_isContext 14 = .ok (.iconst 3, 1) := by decide +kernel
theorem d_me_isContext_15 : decode b_me_isContext 15 = .ok (.if_icmp .ne 7, 3) := by decide +kernel
theorem d_me_isContext_18 : decode b_me_isContext 18 = .ok (.iconst 1, 1) := by decide +kernel
theorem d_me_isContext_19 : decode b_me_isContext 19 = .ok (.goto 4, 3) := by decide +kernel
theorem d_me_isContext_22 : decode b_me_isContext 22 = .ok (.iconst 0, 1) := by decide +kernel
theorem d_me_isContext_23 : decode b_me_isContext 23 = .ok (.ireturn, 1) := by decide +kernel
theorem d_me_hasField_0 : decode b_me_hasField 0 = .ok (.aload_n 0, 1) := by decide +kernel
theorem d_me_hasField_1 : decode b_me_hasField 1 = .ok (.iload_n 1, 1) := by decide +kernel
theorem d_me_hasField_2 : decode b_me_hasField 2 = .ok (.invokevirtual 72, 3) := by decide +kernel
theorem d_me_hasField_5 : decode b_me_hasField 5 = .ok (.ifCond .eq 21, 3) := by decide +kernel
theorem d_me_hasField_8 : decode b_me_hasField 8 = .ok (.iload_n 2, 1) := by decide +kernel
theorem d_me_hasField_9 : decode b_me_hasField 9 = .ok (.ifCond .lt 17, 3) := by decide +kernel
theorem d_me_hasField_12 : decode b_me_hasField 12 = .ok (.iload_n 2, 1) := by decide +kernel
theorem d_me_hasField_13 : decode b_me_hasField 13 = .ok (.aload_n 0, 1) := by decide +kernel
theorem d_me_hasField_14 : decode b_me_hasField 14 = .ok (.getfield 25, 3) := by decide +kernel
theorem d_me_hasField_17 : decode b_me_hasField 17 = .ok (.iload_n 1, 1) := by decide +kernel
theorem d_me_hasField_18 : decode b_me_hasField 18 = .ok (.iaload, 1) := by decide +kernel
theorem d_me_hasField_19 : decode b_me_hasField 19 = .ok (.if_icmp .ge 7, 3) := by decide +kernel
theorem d_me_hasField_22 : decode b_me_hasField 22 = .ok (.iconst 1, 1) := by decide +kernel
theorem d_me_hasField_23 : decode b_me_hasField 23 = .ok (.goto 4, 3) := by decide +kernel
theorem d_me_hasField_26 : decode b_me_hasField 26 = .ok (.iconst 0, 1) := by decide +kernel
theorem d_me_hasField_27 : decode b_me_hasField 27 = .ok (.ireturn, 1) := by decide +kernel
theorem d_me_hasFreeField_0 : decode b_me_hasFreeField 0 = .ok (.aload_n 0, 1) := by decide +kernel
theorem d_me_hasFreeField_1 : decode b_me_hasFreeField 1 = .ok (.iload_n 1, 1) := by decide +kernel
theorem d_me_hasFreeField_2 : decode b_me_hasFreeField 2 = .ok (.iload_n 2, 1) := by decide +kernel
theorem d_me_hasFreeField_3 : decode b_me_hasFreeField 3 = .ok (.invokevirtual 79, 3) := by decide +kernel
theorem d_me_hasFreeField_6 : decode b_me_hasFreeField 6 = .ok (.ifCond .eq 23, 3) := by decide +kernel
theorem d_me_hasFreeField_9 : decode b_me_hasFreeField 9 = .ok (.aload_n 0, 1) := by decide +kernel
theorem d_me_hasFreeField_10 : decode b_me_hasFreeField 10 = .ok (.iload_n 1, 1) := by decide +kernel
theorem d_me_hasFreeField_11 : decode b_me_hasFreeField 11 = .ok (.invokevirtual 76, 3) := by decide +kernel
theorem d_me_hasFreeField_14 : decode b_me_hasFreeField 14 = .ok (.ifCond .ne 15, 3) := by decide +kernel
theorem d_me_hasFreeField_17 : decode b_me_hasFreeField 17 = .ok (.aload_n 0, 1) := by decide +kernel
theorem d_me_hasFreeField_18 : decode b_me_hasFreeField 18 = .ok (.iload_n 1, 1) := by decide +kernel
theorem d_me_hasFreeField_19 : decode b_me_hasFreeField 19 = .ok (.invokevirtual 83, 3) := by decide +kernel
theorem d_me_hasFreeField_22 : decode b_me_hasFreeField 22 = .ok (.ifCond .ne 7, 3) := by decide +kernel
theorem d_me_hasFreeField_25 : decode b_me_hasFreeField 25 = .ok (.iconst 1, 1) := by decide +kernel
theorem d_me_hasFreeField_26 : decode b_me_hasFreeField 26 = .ok (.goto 4, 3) := by decide +kernel
theorem d_me_hasFreeField_29 : decode b_me_hasFreeField 29 = .ok (.iconst 0, 1) := by decide +kernel
theorem d_me_hasFreeField_30 : decode b_me_hasFreeField 30 = .ok (.ireturn, 1) := by decide +kernel
theorem d_me_classOfWord_0 : decode b_me_classOfWord 0 = .ok (.iload_n 1, 1) := by decide +kernel
theorem d_me_classOfWord_1 : decode b_me_classOfWord 1 = .ok (.invokestatic 86, 3) := by decide +kernel
theorem d_me_classOfWord_4 : decode b_me_classOfWord 4 = .ok (.ifCond .eq 12, 3) := by decide +kernel
theorem d_me_classOfWord_7 : decode b_me_classOfWord 7 = .ok (.aload_n 0, 1) := by decide +kernel
theorem d_me_classOfWord_8 : decode b_me_classOfWord 8 = .ok (.getfield 21, 3) := by decide +kernel
theorem d_me_classOfWord_11 : decode b_me_classOfWord 11 = .ok (.iload_n 1, 1) := by decide +kernel
theorem d_me_classOfWord_12 : decode b_me_classOfWord 12 = .ok (.iaload, 1) := by decide +kernel
theorem d_me_classOfWord_13 : decode b_me_classOfWord 13 = .ok (.goto 4, 3) := by decide +kernel
theorem d_me_classOfWord_16 : decode b_me_classOfWord 16 = .ok (.iconst 2, 1) := by decide +kernel
theorem d_me_classOfWord_17 : decode b_me_classOfWord 17 = .ok (.ireturn, 1) := by decide +kernel
theorem d_me_fieldOf_0 : decode b_me_fieldOf 0 = .ok (.aload_n 0, 1) := by decide +kernel
theorem d_me_fieldOf_1 : decode b_me_fieldOf 1 = .ok (.getfield 39, 3) := by decide +kernel
theorem d_me_fieldOf_4 : decode b_me_fieldOf 4 = .ok (.iload_n 1, 1) := by decide +kernel
theorem d_me_fieldOf_5 : decode b_me_fieldOf 5 = .ok (.aaload, 1) := by decide +kernel
theorem d_me_fieldOf_6 : decode b_me_fieldOf 6 = .ok (.iload_n 2, 1) := by decide +kernel
theorem d_me_fieldOf_7 : decode b_me_fieldOf 7 = .ok (.iaload, 1) := by decide +kernel
theorem d_me_fieldOf_8 : decode b_me_fieldOf 8 = .ok (.ireturn, 1) := by decide +kernel
theorem d_me_setField_0 : decode b_me_setField 0 = .ok (.aload_n 0, 1) := by decide +kernel
theorem d_me_setField_1 : decode b_me_setField 1 = .ok (.aload_n 0, 1) := by decide +kernel
theorem d_me_setField_2 : decode b_me_setField 2 = .ok (.getfield 39, 3) := by decide +kernel
theorem d_me_setField_5 : decode b_me_setField 5 = .ok (.iload_n 1, 1) := by decide +kernel
theorem d_me_setField_6 : decode b_me_setField 6 = .ok (.aaload, 1) := by decide +kernel
theorem d_me_setField_7 : decode b_me_setField 7 = .ok (.iload_n 2, 1) := by decide +kernel
theorem d_me_setField_8 : decode b_me_setField 8 = .ok (.iaload, 1) := by decide +kernel
theorem d_me_setField_9 : decode b_me_setField 9 = .ok (.invokevirtual 89, 3) := by decide +kernel
theorem d_me_setField_12 : decode b_me_setField 12 = .ok (.aload_n 0, 1) := by decide +kernel
theorem d_me_setField_13 : decode b_me_setField 13 = .ok (.getfield 39, 3) := by decide +kernel
theorem d_me_setField_16 : decode b_me_setField 16 = .ok (.iload_n 1, 1) := by decide +kernel
theorem d_me_setField_17 : decode b_me_setField 17 = .ok (.aaload, 1) := by decide +kernel
theorem d_me_setField_18 : decode b_me_setField 18 = .ok (.iload_n 2, 1) := by decide +kernel
theorem d_me_setField_19 : decode b_me_setField 19 = .ok (.iload_n 3, 1) := by decide +kernel
theorem d_me_setField_20 : decode b_me_setField 20 = .ok (.iastore, 1) := by decide +kernel
theorem d_me_setField_21 : decode b_me_setField 21 = .ok (.aload_n 0, 1) := by decide +kernel
theorem d_me_setField_22 : decode b_me_setField 22 = .ok (.iload_n 3, 1) := by decide +kernel
theorem d_me_setField_23 : decode b_me_setField 23 = .ok (.invokevirtual 93, 3) := by decide +kernel
theorem d_me_setField_26 : decode b_me_setField 26 = .ok (.return_, 1) := by decide +kernel
theorem d_me_register_0 : decode b_me_register 0 = .ok (.aload_n 0, 1) := by decide +kernel
theorem d_me_register_1 : decode b_me_register 1 = .ok (.getfield 42, 3) := by decide +kernel
theorem d_me_register_4 : decode b_me_register 4 = .ok (.iload_n 1, 1) := by decide +kernel
theorem d_me_register_5 : decode b_me_register 5 = .ok (.iaload, 1) := by decide +kernel
theorem d_me_register_6 : decode b_me_register 6 = .ok (.ireturn, 1) := by decide +kernel
theorem d_me_setRegister_0 : decode b_me_setRegister 0 = .ok (.aload_n 0, 1) := by decide +kernel
theorem d_me_setRegister_1 : decode b_me_setRegister 1 = .ok (.aload_n 0, 1) := by decide +kernel
theorem d_me_setRegister_2 : decode b_me_setRegister 2 = .ok (.getfield 42, 3) := by decide +kernel
theorem d_me_setRegister_5 : decode b_me_setRegister 5 = .ok (.iload_n 1, 1) := by decide +kernel
theorem d_me_setRegister_6 : decode b_me_setRegister 6 = .ok (.iaload, 1) := by decide +kernel
theorem d_me_setRegister_7 : decode b_me_setRegister 7 = .ok (.invokevirtual 89, 3) := by decide +kernel
theorem d_me_setRegister_10 : decode b_me_setRegister 10 = .ok (.aload_n 0, 1) := by decide +kernel
theorem d_me_setRegister_11 : decode b_me_setRegister 11 = .ok (.getfield 42, 3) := by decide +kernel
theorem d_me_setRegister_14 : decode b_me_setRegister 14 = .ok (.iload_n 1, 1) := by decide +kernel
theorem d_me_setRegister_15 : decode b_me_setRegister 15 = .ok (.iload_n 2, 1) := by decide +kernel
theorem d_me_setRegister_16 : decode b_me_setRegister 16 = .ok (.iastore, 1) := by decide +kernel
theorem d_me_setRegister_17 : decode b_me_setRegister 17 = .ok (.aload_n 0, 1) := by decide +kernel
theorem d_me_setRegister_18 : decode b_me_setRegister 18 = .ok (.iload_n 2, 1) := by decide +kernel
theorem d_me_setRegister_19 : decode b_me_setRegister 19 = .ok (.invokevirtual 93, 3) := by decide +kernel
theorem d_me_setRegister_22 : decode b_me_setRegister 22 = .ok (.return_, 1) := by decide +kernel
theorem d_me_isAmongSuperclasses_0 : decode b_me_isAmongSuperclasses 0 = .ok (.iload_n 2, 1) := by decide +kernel
theorem d_me_isAmongSuperclasses_1 : decode b_me_isAmongSuperclasses 1 = .ok (.istore_n 3, 1) := by decide +kernel
theorem d_me_isAmongSuperclasses_2 : decode b_me_isAmongSuperclasses 2 = .ok (.iconst 0, 1) := by decide +kernel
theorem d_me_isAmongSuperclasses_3 : decode b_me_isAmongSuperclasses 3 = .ok (.istore 4, 2) := by decide +kernel
theorem d_me_isAmongSuperclasses_5 : decode b_me_isAmongSuperclasses 5 = .ok (.iload 4, 2) := by decide +kernel
theorem d_me_isAmongSuperclasses_7 : decode b_me_isAmongSuperclasses 7 = .ok (.bipush 28, 2) := by decide +kernel
theorem d_me_isAmongSuperclasses_9 : decode b_me_isAmongSuperclasses 9 = .ok (.if_icmp .ge 27, 3) := by decide +kernel
theorem d_me_isAmongSuperclasses_12 : decode b_me_isAmongSuperclasses 12 = .ok (.iload_n 3, 1) := by decide +kernel
theorem d_me_isAmongSuperclasses_13 : decode b_me_isAmongSuperclasses 13 = .ok (.ifCond .eq 23, 3) := by decide +kernel
theorem d_me_isAmongSuperclasses_16 : decode b_me_isAmongSuperclasses 16 = .ok (.iload_n 3, 1) := by decide +kernel
theorem d_me_isAmongSuperclasses_17 : decode b_me_isAmongSuperclasses 17 = .ok (.iload_n 1, 1) := by decide +kernel
theorem d_me_isAmongSuperclasses_18 : decode b_me_isAmongSuperclasses 18 = .ok (.if_icmp .eq 18, 3) := by decide +kernel
theorem d_me_isAmongSuperclasses_21 : decode b_me_isAmongSuperclasses 21 = .ok (.aload_n 0, 1) := by decide +kernel
theorem d_me_isAmongSuperclasses_22 : decode b_me_isAmongSuperclasses 22 = .ok (.getfield 39, 3) := by decide +kernel
theorem d_me_isAmongSuperclasses_25 : decode b_me_isAmongSuperclasses 25 = .ok (.iload_n 3, 1) := by decide +kernel
theorem d_me_isAmongSuperclasses_26 : decode b_me_isAmongSuperclasses 26 = .ok (.aaload, 1) := by decide +kernel
theorem d_me_isAmongSuperclasses_27 : decode b_me_isAmongSuperclasses 27 = .ok (.iconst 0, 1) := by decide +kernel
theorem d_me_isAmongSuperclasses_28 : decode b_me_isAmongSuperclasses 28 = .ok (.iaload, 1) := by decide +kernel
theorem d_me_isAmongSuperclasses_29 : decode b_me_isAmongSuperclasses 29 = .ok (.istore_n 3, 1) := by decide +kernel
theorem d_me_isAmongSuperclasses_30 : decode b_me_isAmongSuperclasses 30 = .ok (.iinc 4 1, 3) := by decide +kernel
theorem d_me_isAmongSuperclasses_33 : decode b_me_isAmongSuperclasses 33 = .ok (.goto (-28), 3) := by decide +kernel
theorem d_me_isAmongSuperclasses_36 : decode b_me_isAmongSuperclasses 36 = .ok (.iload_n 3, 1) := by decide +kernel
theorem d_me_isAmongSuperclasses_37 : decode b_me_isAmongSuperclasses 37 = .ok (.iload_n 1, 1) := by decide +kernel
theorem d_me_isAmongSuperclasses_38 : decode b_me_isAmongSuperclasses 38 = .ok (.if_icmp .ne 7, 3) := by decide +kernel
theorem d_me_isAmongSuperclasses_41 : decode b_me_isAmongSuperclasses 41 = .ok (.iconst 1, 1) := by decide +kernel
theorem d_me_isAmongSuperclasses_42 : decode b_me_isAmongSuperclasses 42 = .ok (.goto 4, 3) := by decide +kernel
theorem d_me_isAmongSuperclasses_45 : decode b_me_isAmongSuperclasses 45 = .ok (.iconst 0, 1) := by decide +kernel
theorem d_me_isAmongSuperclasses_46 : decode b_me_isAmongSuperclasses 46 = .ok (.ireturn, 1) := by decide +kernel
theorem d_me_depthOf_0 : decode b_me_depthOf 0 = .ok (.aload_n 0, 1) := by decide +kernel
theorem d_me_depthOf_1 : decode b_me_depthOf 1 = .ok (.getfield 31, 3) := by decide +kernel
theorem d_me_depthOf_4 : decode b_me_depthOf 4 = .ok (.iload_n 1, 1) := by decide +kernel
theorem d_me_depthOf_5 : decode b_me_depthOf 5 = .ok (.iaload, 1) := by decide +kernel
theorem d_me_depthOf_6 : decode b_me_depthOf 6 = .ok (.ireturn, 1) := by decide +kernel
theorem d_me_topBut_0 : decode b_me_topBut 0 = .ok (.aload_n 0, 1) := by decide +kernel
theorem d_me_topBut_1 : decode b_me_topBut 1 = .ok (.getfield 39, 3) := by decide +kernel
theorem d_me_topBut_4 : decode b_me_topBut 4 = .ok (.iload_n 1, 1) := by decide +kernel
theorem d_me_topBut_5 : decode b_me_topBut 5 = .ok (.aaload, 1) := by decide +kernel
theorem d_me_topBut_6 : decode b_me_topBut 6 = .ok (.bipush 9, 2) := by decide +kernel
theorem d_me_topBut_8 : decode b_me_topBut 8 = .ok (.aload_n 0, 1) := by decide +kernel
theorem d_me_topBut_9 : decode b_me_topBut 9 = .ok (.getfield 31, 3) := by decide +kernel
theorem d_me_topBut_12 : decode b_me_topBut 12 = .ok (.iload_n 1, 1) := by decide +kernel
theorem d_me_topBut_13 : decode b_me_topBut 13 = .ok (.iaload, 1) := by decide +kernel
theorem d_me_topBut_14 : decode b_me_topBut 14 = .ok (.iadd, 1) := by decide +kernel
theorem d_me_topBut_15 : decode b_me_topBut 15 = .ok (.iconst 1, 1) := by decide +kernel
theorem d_me_topBut_16 : decode b_me_topBut 16 = .ok (.isub, 1) := by decide +kernel
theorem d_me_topBut_17 : decode b_me_topBut 17 = .ok (.iload_n 2, 1) := by decide +kernel
theorem d_me_topBut_18 : decode b_me_topBut 18 = .ok (.isub, 1) := by decide +kernel
theorem d_me_topBut_19 : decode b_me_topBut 19 = .ok (.iaload, 1) := by decide +kernel
theorem d_me_topBut_20 : decode b_me_topBut 20 = .ok (.ireturn, 1) := by decide +kernel
theorem d_me_push_0 : decode b_me_push 0 = .ok (.aload_n 0, 1) := by decide +kernel
theorem d_me_push_1 : decode b_me_push 1 = .ok (.iload_n 1, 1) := by decide +kernel
theorem d_me_push_2 : decode b_me_push 2 = .ok (.bipush 9, 2) := by decide +kernel
theorem d_me_push_4 : decode b_me_push 4 = .ok (.aload_n 0, 1) := by decide +kernel
theorem d_me_push_5 : decode b_me_push 5 = .ok (.getfield 31, 3) := by decide +kernel
theorem d_me_push_8 : decode b_me_push 8 = .ok (.iload_n 1, 1) := by decide +kernel
theorem d_me_push_9 : decode b_me_push 9 = .ok (.iaload, 1) := by decide +kernel
theorem d_me_push_10 : decode b_me_push 10 = .ok (.iadd, 1) := by decide +kernel
theorem d_me_push_11 : decode b_me_push 11 = .ok (.iload_n 2, 1) := by decide +kernel
theorem d_me_push_12 : decode b_me_push 12 = .ok (.invokevirtual 69, 3) := by decide +kernel
theorem d_me_push_15 : decode b_me_push 15 = .ok (.aload_n 0, 1) := by decide +kernel
theorem d_me_push_16 : decode b_me_push 16 = .ok (.getfield 31, 3) := by decide +kernel
theorem d_me_push_19 : decode b_me_push 19 = .ok (.iload_n 1, 1) := by decide +kernel
theorem d_me_push_20 : decode b_me_push 20 = .ok (.dup2, 1) := by decide +kernel
theorem d_me_push_21 : decode b_me_push 21 = .ok (.iaload, 1) := by decide +kernel
theorem d_me_push_22 : decode b_me_push 22 = .ok (.iconst 1, 1) := by decide +kernel
theorem d_me_push_23 : decode b_me_push 23 = .ok (.iadd, 1) := by decide +kernel
theorem d_me_push_24 : decode b_me_push 24 = .ok (.iastore, 1) := by decide +kernel
theorem d_me_push_25 : decode b_me_push 25 = .ok (.return_, 1) := by decide +kernel
theorem d_me_popDownTo_0 : decode b_me_popDownTo 0 = .ok (.iload_n 2, 1) := by decide +kernel
theorem d_me_popDownTo_1 : decode b_me_popDownTo 1 = .ok (.istore_n 3, 1) := by decide +kernel
theorem d_me_popDownTo_2 : decode b_me_popDownTo 2 = .ok (.iload_n 3, 1) := by decide +kernel
theorem d_me_popDownTo_3 : decode b_me_popDownTo 3 = .ok (.aload_n 0, 1) := by decide +kernel
theorem d_me_popDownTo_4 : decode b_me_popDownTo 4 = .ok (.getfield 31, 3) := by decide +kernel
theorem d_me_popDownTo_7 : decode b_me_popDownTo 7 = .ok (.iload_n 1, 1) := by decide +kernel
theorem d_me_popDownTo_8 : decode b_me_popDownTo 8 = .ok (.iaload, 1) := by decide +kernel
theorem d_me_popDownTo_9 : decode b_me_popDownTo 9 = .ok (.if_icmp .ge 19, 3) := by decide +kernel
theorem d_me_popDownTo_12 : decode b_me_popDownTo 12 = .ok (.aload_n 0, 1) := by decide +kernel
theorem d_me_popDownTo_13 : decode b_me_popDownTo 13 = .ok (.iload_n 1, 1) := by decide +kernel
theorem d_me_popDownTo_14 : decode b_me_popDownTo 14 = .ok (.bipush 9, 2) := by decide +kernel
theorem d_me_popDownTo_16 : decode b_me_popDownTo 16 = .ok (.iload_n 3, 1) := by decide +kernel
theorem d_me_popDownTo_17 : decode b_me_popDownTo 17 = .ok (.iadd, 1) := by decide +kernel
theorem d_me_popDownTo_18 : decode b_me_popDownTo 18 = .ok (.iconst 0, 1) := by decide +kernel
theorem d_me_popDownTo_19 : decode b_me_popDownTo 19 = .ok (.invokevirtual 69, 3) := by decide +kernel
theorem d_me_popDownTo_22 : decode b_me_popDownTo 22 = .ok (.iinc 3 1, 3) := by decide +kernel
theorem d_me_popDownTo_25 : decode b_me_popDownTo 25 = .ok (.goto (-23), 3) := by decide +kernel
theorem d_me_popDownTo_28 : decode b_me_popDownTo 28 = .ok (.aload_n 0, 1) := by decide +kernel
theorem d_me_popDownTo_29 : decode b_me_popDownTo 29 = .ok (.getfield 31, 3) := by decide +kernel
theorem d_me_popDownTo_32 : decode b_me_popDownTo 32 = .ok (.iload_n 1, 1) := by decide +kernel
theorem d_me_popDownTo_33 : decode b_me_popDownTo 33 = .ok (.iload_n 2, 1) := by decide +kernel
theorem d_me_popDownTo_34 : decode b_me_popDownTo 34 = .ok (.iastore, 1) := by decide +kernel
theorem d_me_popDownTo_35 : decode b_me_popDownTo 35 = .ok (.return_, 1) := by decide +kernel
theorem d_me_pop_0 : decode b_me_pop 0 = .ok (.aload_n 0, 1) := by decide +kernel
theorem d_me_pop_1 : decode b_me_pop 1 = .ok (.iload_n 1, 1) := by decide +kernel
theorem d_me_pop_2 : decode b_me_pop 2 = .ok (.iconst 0, 1) := by decide +kernel
theorem d_me_pop_3 : decode b_me_pop 3 = .ok (.invokevirtual 96, 3) := by decide +kernel
theorem d_me_pop_6 : decode b_me_pop 6 = .ok (.istore_n 2, 1) := by decide +kernel
theorem d_me_pop_7 : decode b_me_pop 7 = .ok (.aload_n 0, 1) := by decide +kernel
theorem d_me_pop_8 : decode b_me_pop 8 = .ok (.getfield 31, 3) := by decide +kernel
theorem d_me_pop_11 : decode b_me_pop 11 = .ok (.iload_n 1, 1) := by decide +kernel
theorem d_me_pop_12 : decode b_me_pop 12 = .ok (.dup2, 1) := by decide +kernel
theorem d_me_pop_13 : decode b_me_pop 13 = .ok (.iaload, 1) := by decide +kernel
theorem d_me_pop_14 : decode b_me_pop 14 = .ok (.iconst 1, 1) := by decide +kernel
theorem d_me_pop_15 : decode b_me_pop 15 = .ok (.isub, 1) := by decide +kernel
theorem d_me_pop_16 : decode b_me_pop 16 = .ok (.iastore, 1) := by decide +kernel
theorem d_me_pop_17 : decode b_me_pop 17 = .ok (.aload_n 0, 1) := by decide +kernel
theorem d_me_pop_18 : decode b_me_pop 18 = .ok (.iload_n 1, 1) := by decide +kernel
theorem d_me_pop_19 : decode b_me_pop 19 = .ok (.bipush 9, 2) := by decide +kernel
theorem d_me_pop_21 : decode b_me_pop 21 = .ok (.aload_n 0, 1) := by decide +kernel
theorem d_me_pop_22 : decode b_me_pop 22 = .ok (.getfield 31, 3) := by decide +kernel
theorem d_me_pop_25 : decode b_me_pop 25 = .ok (.iload_n 1, 1) := by decide +kernel
theorem d_me_pop_26 : decode b_me_pop 26 = .ok (.iaload, 1) := by decide +kernel
theorem d_me_pop_27 : decode b_me_pop 27 = .ok (.iadd, 1) := by decide +kernel
theorem d_me_pop_28 : decode b_me_pop 28 = .ok (.iconst 0, 1) := by decide +kernel
theorem d_me_pop_29 : decode b_me_pop 29 = .ok (.invokevirtual 69, 3) := by decide +kernel
theorem d_me_pop_32 : decode b_me_pop 32 = .ok (.iload_n 2, 1) := by decide +kernel
theorem d_me_pop_33 : decode b_me_pop 33 = .ok (.ireturn, 1) := by decide +kernel
theorem d_me_countOf_0 : decode b_me_countOf 0 = .ok (.aload_n 0, 1) := by decide +kernel
theorem d_me_countOf_1 : decode b_me_countOf 1 = .ok (.getfield 15, 3) := by decide +kernel
theorem d_me_countOf_4 : decode b_me_countOf 4 = .ok (.iload_n 1, 1) := by decide +kernel
theorem d_me_countOf_5 : decode b_me_countOf 5 = .ok (.baload, 1) := by decide +kernel
theorem d_me_countOf_6 : decode b_me_countOf 6 = .ok (.ifCond .eq 8, 3) := by decide +kernel
theorem d_me_countOf_9 : decode b_me_countOf 9 = .ok (.bipush 6, 2) := by decide +kernel
theorem d_me_countOf_11 : decode b_me_countOf 11 = .ok (.goto 9, 3) := by decide +kernel
theorem d_me_countOf_14 : decode b_me_countOf 14 = .ok (.aload_n 0, 1) := by decide +kernel
theorem d_me_countOf_15 : decode b_me_countOf 15 = .ok (.getfield 34, 3) := by decide +kernel
theorem d_me_countOf_18 : decode b_me_countOf 18 = .ok (.iload_n 1, 1) := by decide +kernel
theorem d_me_countOf_19 : decode b_me_countOf 19 = .ok (.iaload, 1) := by decide +kernel
theorem d_me_countOf_20 : decode b_me_countOf 20 = .ok (.ireturn, 1) := by decide +kernel
theorem d_me_howManyAlive_0 : decode b_me_howManyAlive 0 = .ok (.iconst 0, 1) := by decide +kernel
theorem d_me_howManyAlive_1 : decode b_me_howManyAlive 1 = .ok (.istore_n 1, 1) := by decide +kernel
theorem d_me_howManyAlive_2 : decode b_me_howManyAlive 2 = .ok (.iconst 0, 1) := by decide +kernel
theorem d_me_howManyAlive_3 : decode b_me_howManyAlive 3 = .ok (.istore_n 2, 1) := by decide +kernel
theorem d_me_howManyAlive_4 : decode b_me_howManyAlive 4 = .ok (.iload_n 2, 1) := by decide +kernel
theorem d_me_howManyAlive_5 : decode b_me_howManyAlive 5 = .ok (.bipush 28, 2) := by decide +kernel
theorem d_me_howManyAlive_7 : decode b_me_howManyAlive 7 = .ok (.if_icmp .ge 21, 3) := by decide +kernel
theorem d_me_howManyAlive_10 : decode b_me_howManyAlive 10 = .ok (.aload_n 0, 1) := by decide +kernel
theorem d_me_howManyAlive_11 : decode b_me_howManyAlive 11 = .ok (.getfield 9, 3) := by decide +kernel
theorem d_me_howManyAlive_14 : decode b_me_howManyAlive 14 = .ok (.iload_n 2, 1) := by decide +kernel
theorem d_me_howManyAlive_15 : decode b_me_howManyAlive 15 = .ok (.baload, 1) := by decide +kernel
theorem d_me_howManyAlive_16 : decode b_me_howManyAlive 16 = .ok (.ifCond .eq 6, 3) := by decide +kernel
theorem d_me_howManyAlive_19 : decode b_me_howManyAlive 19 = .ok (.iinc 1 1, 3) := by decide +kernel
theorem d_me_howManyAlive_22 : decode b_me_howManyAlive 22 = .ok (.iinc 2 1, 3) := by decide +kernel
theorem d_me_howManyAlive_25 : decode b_me_howManyAlive 25 = .ok (.goto (-21), 3) := by decide +kernel
theorem d_me_howManyAlive_28 : decode b_me_howManyAlive 28 = .ok (.iload_n 1, 1) := by decide +kernel
theorem d_me_howManyAlive_29 : decode b_me_howManyAlive 29 = .ok (.ireturn, 1) := by decide +kernel
theorem d_me_settle_0 : decode b_me_settle 0 = .ok (.iconst 1, 1) := by decide +kernel
theorem d_me_settle_1 : decode b_me_settle 1 = .ok (.istore_n 1, 1) := by decide +kernel
theorem d_me_settle_2 : decode b_me_settle 2 = .ok (.iconst 0, 1) := by decide +kernel
theorem d_me_settle_3 : decode b_me_settle 3 = .ok (.istore_n 2, 1) := by decide +kernel
theorem d_me_settle_4 : decode b_me_settle 4 = .ok (.iload_n 2, 1) := by decide +kernel
theorem d_me_settle_5 : decode b_me_settle 5 = .ok (.bipush 28, 2) := by decide +kernel
theorem d_me_settle_7 : decode b_me_settle 7 = .ok (.if_icmp .ge 18, 3) := by decide +kernel
theorem d_me_settle_10 : decode b_me_settle 10 = .ok (.iload_n 1, 1) := by decide +kernel
theorem d_me_settle_11 : decode b_me_settle 11 = .ok (.ifCond .eq 14, 3) := by decide +kernel
theorem d_me_settle_14 : decode b_me_settle 14 = .ok (.aload_n 0, 1) := by decide +kernel
theorem d_me_settle_15 : decode b_me_settle 15 = .ok (.invokevirtual 100, 3) := by decide +kernel
theorem d_me_settle_18 : decode b_me_settle 18 = .ok (.istore_n 1, 1) := by decide +kernel
theorem d_me_settle_19 : decode b_me_settle 19 = .ok (.iinc 2 1, 3) := by decide +kernel
theorem d_me_settle_22 : decode b_me_settle 22 = .ok (.goto (-18), 3) := by decide +kernel
theorem d_me_settle_25 : decode b_me_settle 25 = .ok (.aload_n 0, 1) := by decide +kernel
theorem d_me_settle_26 : decode b_me_settle 26 = .ok (.invokevirtual 62, 3) := by decide +kernel
theorem d_me_settle_29 : decode b_me_settle 29 = .ok (.return_, 1) := by decide +kernel
theorem d_me_giveBackUnreached_0 : decode b_me_giveBackUnreached 0 = .ok (.aload_n 0, 1) := by decide +kernel
theorem d_me_giveBackUnreached_1 : decode b_me_giveBackUnreached 1 = .ok (.invokevirtual 104, 3) := by decide +kernel
theorem d_me_giveBackUnreached_4 : decode b_me_giveBackUnreached 4 = .ok (.iconst 0, 1) := by decide +kernel
theorem d_me_giveBackUnreached_5 : decode b_me_giveBackUnreached 5 = .ok (.istore_n 1, 1) := by decide +kernel
theorem d_me_giveBackUnreached_6 : decode b_me_giveBackUnreached 6 = .ok (.iconst 4, 1) := by decide +kernel
theorem d_me_giveBackUnreached_7 : decode b_me_giveBackUnreached 7 = .ok (.istore_n 2, 1) := by decide +kernel
theorem d_me_giveBackUnreached_8 : decode b_me_giveBackUnreached 8 = .ok (.iload_n 2, 1) := by decide +kernel
theorem d_me_giveBackUnreached_9 : decode b_me_giveBackUnreached 9 = .ok (.bipush 28, 2) := by decide +kernel
theorem d_me_giveBackUnreached_11 : decode b_me_giveBackUnreached 11 = .ok (.if_icmp .ge 35, 3) := by decide +kernel
theorem d_me_giveBackUnreached_14 : decode b_me_giveBackUnreached 14 = .ok (.aload_n 0, 1) := by decide +kernel
theorem d_me_giveBackUnreached_15 : decode b_me_giveBackUnreached 15 = .ok (.getfield 9, 3) := by decide +kernel
theorem d_me_giveBackUnreached_18 : decode b_me_giveBackUnreached 18 = .ok (.iload_n 2, 1) := by decide +kernel
theorem d_me_giveBackUnreached_19 : decode b_me_giveBackUnreached 19 = .ok (.baload, 1) := by decide +kernel
theorem d_me_giveBackUnreached_20 : decode b_me_giveBackUnreached 20 = .ok (.ifCond .eq 20, 3) := by decide +kernel
theorem d_me_giveBackUnreached_23 : decode b_me_giveBackUnreached 23 = .ok (.aload_n 0, 1) := by decide +kernel
theorem d_me_giveBackUnreached_24 : decode b_me_giveBackUnreached 24 = .ok (.getfield 45, 3) := by decide +kernel
theorem d_me_giveBackUnreached_27 : decode b_me_giveBackUnreached 27 = .ok (.iload_n 2, 1) := by decide +kernel
theorem d_me_giveBackUnreached_28 : decode b_me_giveBackUnreached 28 = .ok (.baload, 1) := by decide +kernel
theorem d_me_giveBackUnreached_29 : decode b_me_giveBackUnreached 29 = .ok (.ifCond .ne 11, 3) := by decide +kernel
theorem d_me_giveBackUnreached_32 : decode b_me_giveBackUnreached 32 = .ok (.aload_n 0, 1) := by decide +kernel
theorem d_me_giveBackUnreached_33 : decode b_me_giveBackUnreached 33 = .ok (.iload_n 2, 1) := by decide +kernel
theorem d_me_giveBackUnreached_34 : decode b_me_giveBackUnreached 34 = .ok (.invokevirtual 107, 3) := by decide +kernel
theorem d_me_giveBackUnreached_37 : decode b_me_giveBackUnreached 37 = .ok (.iinc 1 1, 3) := by decide +kernel
theorem d_me_giveBackUnreached_40 : decode b_me_giveBackUnreached 40 = .ok (.iinc 2 1, 3) := by decide +kernel
theorem d_me_giveBackUnreached_43 : decode b_me_giveBackUnreached 43 = .ok (.goto (-35), 3) := by decide +kernel
theorem d_me_giveBackUnreached_46 : decode b_me_giveBackUnreached 46 = .ok (.iconst 0, 1) := by decide +kernel
theorem d_me_giveBackUnreached_47 : decode b_me_giveBackUnreached 47 = .ok (.istore_n 2, 1) := by decide +kernel
theorem d_me_giveBackUnreached_48 : decode b_me_giveBackUnreached 48 = .ok (.iload_n 2, 1) := by decide +kernel
theorem d_me_giveBackUnreached_49 : decode b_me_giveBackUnreached 49 = .ok (.bipush 28, 2) := by decide +kernel
theorem d_me_giveBackUnreached_51 : decode b_me_giveBackUnreached 51 = .ok (.if_icmp .ge 16, 3) := by decide +kernel
theorem d_me_giveBackUnreached_54 : decode b_me_giveBackUnreached 54 = .ok (.aload_n 0, 1) := by decide +kernel
theorem d_me_giveBackUnreached_55 : decode b_me_giveBackUnreached 55 = .ok (.getfield 15, 3) := by decide +kernel
theorem d_me_giveBackUnreached_58 : decode b_me_giveBackUnreached 58 = .ok (.iload_n 2, 1) := by decide +kernel
theorem d_me_giveBackUnreached_59 : decode b_me_giveBackUnreached 59 = .ok (.iconst 0, 1) := by decide +kernel
theorem d_me_giveBackUnreached_60 : decode b_me_giveBackUnreached 60 = .ok (.bastore, 1) := by decide +kernel
theorem d_me_giveBackUnreached_61 : decode b_me_giveBackUnreached 61 = .ok (.iinc 2 1, 3) := by decide +kernel
theorem d_me_giveBackUnreached_64 : decode b_me_giveBackUnreached 64 = .ok (.goto (-16), 3) := by decide +kernel
theorem d_me_giveBackUnreached_67 : decode b_me_giveBackUnreached 67 = .ok (.aload_n 0, 1) := by decide +kernel
theorem d_me_giveBackUnreached_68 : decode b_me_giveBackUnreached 68 = .ok (.invokevirtual 62, 3) := by decide +kernel
theorem d_me_giveBackUnreached_71 : decode b_me_giveBackUnreached 71 = .ok (.iload_n 1, 1) := by decide +kernel
theorem d_me_giveBackUnreached_72 : decode b_me_giveBackUnreached 72 = .ok (.ireturn, 1) := by decide +kernel
theorem d_me_leastFree_0 : decode b_me_leastFree 0 = .ok (.iconst 4, 1) := by decide +kernel
theorem d_me_leastFree_1 : decode b_me_leastFree 1 = .ok (.istore_n 1, 1) := by decide +kernel
theorem d_me_leastFree_2 : decode b_me_leastFree 2 = .ok (.iload_n 1, 1) := by decide +kernel
theorem d_me_leastFree_3 : decode b_me_leastFree 3 = .ok (.bipush 28, 2) := by decide +kernel
theorem d_me_leastFree_5 : decode b_me_leastFree 5 = .ok (.if_icmp .ge 20, 3) := by decide +kernel
theorem d_me_leastFree_8 : decode b_me_leastFree 8 = .ok (.aload_n 0, 1) := by decide +kernel
theorem d_me_leastFree_9 : decode b_me_leastFree 9 = .ok (.getfield 9, 3) := by decide +kernel
theorem d_me_leastFree_12 : decode b_me_leastFree 12 = .ok (.iload_n 1, 1) := by decide +kernel
theorem d_me_leastFree_13 : decode b_me_leastFree 13 = .ok (.baload, 1) := by decide +kernel
theorem d_me_leastFree_14 : decode b_me_leastFree 14 = .ok (.ifCond .ne 5, 3) := by decide +kernel
theorem d_me_leastFree_17 : decode b_me_leastFree 17 = .ok (.iload_n 1, 1) := by decide +kernel
theorem d_me_leastFree_18 : decode b_me_leastFree 18 = .ok (.ireturn, 1) := by decide +kernel
theorem d_me_leastFree_19 : decode b_me_leastFree 19 = .ok (.iinc 1 1, 3) := by decide +kernel
theorem d_me_leastFree_22 : decode b_me_leastFree 22 = .ok (.goto (-20), 3) := by decide +kernel
theorem d_me_leastFree_25 : decode b_me_leastFree 25 = .ok (.iconst (-1), 1) := by decide +kernel
theorem d_me_leastFree_26 : decode b_me_leastFree 26 = .ok (.ireturn, 1) := by decide +kernel
theorem d_me_wakeClass_0 : decode b_me_wakeClass 0 = .ok (.aload_n 0, 1) := by decide +kernel
theorem d_me_wakeClass_1 : decode b_me_wakeClass 1 = .ok (.iload_n 1, 1) := by decide +kernel
theorem d_me_wakeClass_2 : decode b_me_wakeClass 2 = .ok (.iconst 1, 1) := by decide +kernel
theorem d_me_wakeClass_3 : decode b_me_wakeClass 3 = .ok (.iconst 1, 1) := by decide +kernel
theorem d_me_wakeClass_4 : decode b_me_wakeClass 4 = .ok (.invokevirtual 55, 3) := by decide +kernel
theorem d_me_wakeClass_7 : decode b_me_wakeClass 7 = .ok (.aload_n 0, 1) := by decide +kernel
theorem d_me_wakeClass_8 : decode b_me_wakeClass 8 = .ok (.getfield 18, 3) := by decide +kernel
theorem d_me_wakeClass_11 : decode b_me_wakeClass 11 = .ok (.iload_n 1, 1) := by decide +kernel
theorem d_me_wakeClass_12 : decode b_me_wakeClass 12 = .ok (.iconst 1, 1) := by decide +kernel
theorem d_me_wakeClass_13 : decode b_me_wakeClass 13 = .ok (.bastore, 1) := by decide +kernel
theorem d_me_wakeClass_14 : decode b_me_wakeClass 14 = .ok (.aload_n 0, 1) := by decide +kernel
theorem d_me_wakeClass_15 : decode b_me_wakeClass 15 = .ok (.getfield 28, 3) := by decide +kernel
theorem d_me_wakeClass_18 : decode b_me_wakeClass 18 = .ok (.iload_n 1, 1) := by decide +kernel
theorem d_me_wakeClass_19 : decode b_me_wakeClass 19 = .ok (.iload_n 3, 1) := by decide +kernel
theorem d_me_wakeClass_20 : decode b_me_wakeClass 20 = .ok (.iastore, 1) := by decide +kernel
theorem d_me_wakeClass_21 : decode b_me_wakeClass 21 = .ok (.aload_n 0, 1) := by decide +kernel
theorem d_me_wakeClass_22 : decode b_me_wakeClass 22 = .ok (.iload_n 1, 1) := by decide +kernel
theorem d_me_wakeClass_23 : decode b_me_wakeClass 23 = .ok (.iconst 0, 1) := by decide +kernel
theorem d_me_wakeClass_24 : decode b_me_wakeClass 24 = .ok (.iload_n 2, 1) := by decide +kernel
theorem d_me_wakeClass_25 : decode b_me_wakeClass 25 = .ok (.invokevirtual 69, 3) := by decide +kernel
theorem d_me_wakeClass_28 : decode b_me_wakeClass 28 = .ok (.return_, 1) := by decide +kernel
theorem d_me_wake_0 : decode b_me_wake 0 = .ok (.aload_n 0, 1) := by decide +kernel
theorem d_me_wake_1 : decode b_me_wake 1 = .ok (.getfield 9, 3) := by decide +kernel
theorem d_me_wake_4 : decode b_me_wake 4 = .ok (.iload_n 1, 1) := by decide +kernel
theorem d_me_wake_5 : decode b_me_wake 5 = .ok (.iconst 1, 1) := by decide +kernel
theorem d_me_wake_6 : decode b_me_wake 6 = .ok (.bastore, 1) := by decide +kernel
theorem d_me_wake_7 : decode b_me_wake 7 = .ok (.aload_n 0, 1) := by decide +kernel
theorem d_me_wake_8 : decode b_me_wake 8 = .ok (.getfield 21, 3) := by decide +kernel
theorem d_me_wake_11 : decode b_me_wake 11 = .ok (.iload_n 1, 1) := by decide +kernel
theorem d_me_wake_12 : decode b_me_wake 12 = .ok (.iload_n 2, 1) := by decide +kernel
theorem d_me_wake_13 : decode b_me_wake 13 = .ok (.iastore, 1) := by decide +kernel
theorem d_me_wake_14 : decode b_me_wake 14 = .ok (.aload_n 0, 1) := by decide +kernel
theorem d_me_wake_15 : decode b_me_wake 15 = .ok (.getfield 25, 3) := by decide +kernel
theorem d_me_wake_18 : decode b_me_wake 18 = .ok (.iload_n 1, 1) := by decide +kernel
theorem d_me_wake_19 : decode b_me_wake 19 = .ok (.iload_n 3, 1) := by decide +kernel
theorem d_me_wake_20 : decode b_me_wake 20 = .ok (.iastore, 1) := by decide +kernel
theorem d_me_wake_21 : decode b_me_wake 21 = .ok (.aload_n 0, 1) := by decide +kernel
theorem d_me_wake_22 : decode b_me_wake 22 = .ok (.iload_n 2, 1) := by decide +kernel
theorem d_me_wake_23 : decode b_me_wake 23 = .ok (.invokevirtual 93, 3) := by decide +kernel
theorem d_me_wake_26 : decode b_me_wake 26 = .ok (.aload_n 0, 1) := by decide +kernel
theorem d_me_wake_27 : decode b_me_wake 27 = .ok (.getfield 34, 3) := by decide +kernel
theorem d_me_wake_30 : decode b_me_wake 30 = .ok (.iconst 0, 1) := by decide +kernel
theorem d_me_wake_31 : decode b_me_wake 31 = .ok (.dup2, 1) := by decide +kernel
theorem d_me_wake_32 : decode b_me_wake 32 = .ok (.iaload, 1) := by decide +kernel
theorem d_me_wake_33 : decode b_me_wake 33 = .ok (.iload_n 3, 1) := by decide +kernel
theorem d_me_wake_34 : decode b_me_wake 34 = .ok (.iadd, 1) := by decide +kernel
theorem d_me_wake_35 : decode b_me_wake 35 = .ok (.iastore, 1) := by decide +kernel
theorem d_me_wake_36 : decode b_me_wake 36 = .ok (.return_, 1) := by decide +kernel
theorem d_me_giveBack_0 : decode b_me_giveBack 0 = .ok (.aload_n 0, 1) := by decide +kernel
theorem d_me_giveBack_1 : decode b_me_giveBack 1 = .ok (.aload_n 0, 1) := by decide +kernel
theorem d_me_giveBack_2 : decode b_me_giveBack 2 = .ok (.getfield 21, 3) := by decide +kernel
theorem d_me_giveBack_5 : decode b_me_giveBack 5 = .ok (.iload_n 1, 1) := by decide +kernel
theorem d_me_giveBack_6 : decode b_me_giveBack 6 = .ok (.iaload, 1) := by decide +kernel
theorem d_me_giveBack_7 : decode b_me_giveBack 7 = .ok (.invokevirtual 89, 3) := by decide +kernel
theorem d_me_giveBack_10 : decode b_me_giveBack 10 = .ok (.iconst 0, 1) := by decide +kernel
theorem d_me_giveBack_11 : decode b_me_giveBack 11 = .ok (.istore_n 2, 1) := by decide +kernel
theorem d_me_giveBack_12 : decode b_me_giveBack 12 = .ok (.iload_n 2, 1) := by decide +kernel
theorem d_me_giveBack_13 : decode b_me_giveBack 13 = .ok (.aload_n 0, 1) := by decide +kernel
theorem d_me_giveBack_14 : decode b_me_giveBack 14 = .ok (.getfield 25, 3) := by decide +kernel
theorem d_me_giveBack_17 : decode b_me_giveBack 17 = .ok (.iload_n 1, 1) := by decide +kernel
theorem d_me_giveBack_18 : decode b_me_giveBack 18 = .ok (.iaload, 1) := by decide +kernel
theorem d_me_giveBack_19 : decode b_me_giveBack 19 = .ok (.if_icmp .ge 30, 3) := by decide +kernel
theorem d_me_giveBack_22 : decode b_me_giveBack 22 = .ok (.aload_n 0, 1) := by decide +kernel
theorem d_me_giveBack_23 : decode b_me_giveBack 23 = .ok (.aload_n 0, 1) := by decide +kernel
theorem d_me_giveBack_24 : decode b_me_giveBack 24 = .ok (.getfield 39, 3) := by decide +kernel
theorem d_me_giveBack_27 : decode b_me_giveBack 27 = .ok (.iload_n 1, 1) := by decide +kernel
theorem d_me_giveBack_28 : decode b_me_giveBack 28 = .ok (.aaload, 1) := by decide +kernel
theorem d_me_giveBack_29 : decode b_me_giveBack 29 = .ok (.iload_n 2, 1) := by decide +kernel
theorem d_me_giveBack_30 : decode b_me_giveBack 30 = .ok (.iaload, 1) := by decide +kernel
theorem d_me_giveBack_31 : decode b_me_giveBack 31 = .ok (.invokevirtual 89, 3) := by decide +kernel
theorem d_me_giveBack_34 : decode b_me_giveBack 34 = .ok (.aload_n 0, 1) := by decide +kernel
theorem d_me_giveBack_35 : decode b_me_giveBack 35 = .ok (.getfield 39, 3) := by decide +kernel
theorem d_me_giveBack_38 : decode b_me_giveBack 38 = .ok (.iload_n 1, 1) := by decide +kernel
theorem d_me_giveBack_39 : decode b_me_giveBack 39 = .ok (.aaload, 1) := by decide +kernel
theorem d_me_giveBack_40 : decode b_me_giveBack 40 = .ok (.iload_n 2, 1) := by decide +kernel
theorem d_me_giveBack_41 : decode b_me_giveBack 41 = .ok (.iconst 0, 1) := by decide +kernel
theorem d_me_giveBack_42 : decode b_me_giveBack 42 = .ok (.iastore, 1) := by decide +kernel
theorem d_me_giveBack_43 : decode b_me_giveBack 43 = .ok (.iinc 2 1, 3) := by decide +kernel
theorem d_me_giveBack_46 : decode b_me_giveBack 46 = .ok (.goto (-34), 3) := by decide +kernel
theorem d_me_giveBack_49 : decode b_me_giveBack 49 = .ok (.aload_n 0, 1) := by decide +kernel
theorem d_me_giveBack_50 : decode b_me_giveBack 50 = .ok (.getfield 9, 3) := by decide +kernel
theorem d_me_giveBack_53 : decode b_me_giveBack 53 = .ok (.iload_n 1, 1) := by decide +kernel
theorem d_me_giveBack_54 : decode b_me_giveBack 54 = .ok (.iconst 0, 1) := by decide +kernel
theorem d_me_giveBack_55 : decode b_me_giveBack 55 = .ok (.bastore, 1) := by decide +kernel
theorem d_me_giveBack_56 : decode b_me_giveBack 56 = .ok (.aload_n 0, 1) := by decide +kernel
theorem d_me_giveBack_57 : decode b_me_giveBack 57 = .ok (.getfield 15, 3) := by decide +kernel
theorem d_me_giveBack_60 : decode b_me_giveBack 60 = .ok (.iload_n 1, 1) := by decide +kernel
theorem d_me_giveBack_61 : decode b_me_giveBack 61 = .ok (.iconst 0, 1) := by decide +kernel
theorem d_me_giveBack_62 : decode b_me_giveBack 62 = .ok (.bastore, 1) := by decide +kernel
theorem d_me_giveBack_63 : decode b_me_giveBack 63 = .ok (.aload_n 0, 1) := by decide +kernel
theorem d_me_giveBack_64 : decode b_me_giveBack 64 = .ok (.getfield 18, 3) := by decide +kernel
theorem d_me_giveBack_67 : decode b_me_giveBack 67 = .ok (.iload_n 1, 1) := by decide +kernel
theorem d_me_giveBack_68 : decode b_me_giveBack 68 = .ok (.iconst 0, 1) := by decide +kernel
theorem d_me_giveBack_69 : decode b_me_giveBack 69 = .ok (.bastore, 1) := by decide +kernel
theorem d_me_giveBack_70 : decode b_me_giveBack 70 = .ok (.aload_n 0, 1) := by decide +kernel
