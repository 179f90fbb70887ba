theorem d_rf_init_0 : decode b_rf_init 0 = .ok (.aload_n 0, 1) := by decide +kernel
theorem d_rf_init_1 : decode b_rf_init 1 = .ok (.invokespecial 1, 3) := by decide +kernel
theorem d_rf_init_4 : decode b_rf_init 4 = .ok (.aload_n 0, 1) := by decide +kernel
theorem d_rf_init_5 : decode b_rf_init 5 = .ok (.bipush 28, 2) := by decide +kernel
theorem d_rf_init_7 : decode b_rf_init 7 = .ok (.newarray .boolean, 2) := by decide +kernel
theorem d_rf_init_9 : decode b_rf_init 9 = .ok (.putfield 7, 3) := by decide +kernel
theorem d_rf_init_12 : decode b_rf_init 12 = .ok (.aload_n 0, 1) := by decide +kernel
theorem d_rf_init_13 : decode b_rf_init 13 = .ok (.bipush 28, 2) := by decide +kernel
theorem d_rf_init_15 : decode b_rf_init 15 = .ok (.newarray .int, 2) := by decide +kernel
theorem d_rf_init_17 : decode b_rf_init 17 = .ok (.putfield 13, 3) := by decide +kernel
theorem d_rf_init_20 : decode b_rf_init 20 = .ok (.aload_n 0, 1) := by decide +kernel
theorem d_rf_init_21 : decode b_rf_init 21 = .ok (.bipush 28, 2) := by decide +kernel
theorem d_rf_init_23 : decode b_rf_init 23 = .ok (.newarray .int, 2) := by decide +kernel
theorem d_rf_init_25 : decode b_rf_init 25 = .ok (.putfield 17, 3) := by decide +kernel
theorem d_rf_init_28 : decode b_rf_init 28 = .ok (.aload_n 0, 1) := by decide +kernel
theorem d_rf_init_29 : decode b_rf_init 29 = .ok (.bipush 28, 2) := by decide +kernel
theorem d_rf_init_31 : decode b_rf_init 31 = .ok (.newarray .int, 2) := by decide +kernel
theorem d_rf_init_33 : decode b_rf_init 33 = .ok (.putfield 20, 3) := by decide +kernel
theorem d_rf_init_36 : decode b_rf_init 36 = .ok (.aload_n 0, 1) := by decide +kernel
theorem d_rf_init_37 : decode b_rf_init 37 = .ok (.sipush 420, 3) := by decide +kernel
theorem d_rf_init_40 : decode b_rf_init 40 = .ok (.newarray .int, 2) := by decide +kernel
theorem d_rf_init_42 : decode b_rf_init 42 = .ok (.putfield 23, 3) := by decide +kernel
theorem d_rf_init_45 : decode b_rf_init 45 = .ok (.aload_n 0, 1) := by decide +kernel
theorem d_rf_init_46 : decode b_rf_init 46 = .ok (.bipush 28, 2) := by decide +kernel
theorem d_rf_init_48 : decode b_rf_init 48 = .ok (.newarray .boolean, 2) := by decide +kernel
theorem d_rf_init_50 : decode b_rf_init 50 = .ok (.putfield 26, 3) := by decide +kernel
theorem d_rf_init_53 : decode b_rf_init 53 = .ok (.aload_n 0, 1) := by decide +kernel
theorem d_rf_init_54 : decode b_rf_init 54 = .ok (.bipush 28, 2) := by decide +kernel
theorem d_rf_init_56 : decode b_rf_init 56 = .ok (.newarray .int, 2) := by decide +kernel
theorem d_rf_init_58 : decode b_rf_init 58 = .ok (.putfield 29, 3) := by decide +kernel
theorem d_rf_init_61 : decode b_rf_init 61 = .ok (.aload_n 0, 1) := by decide +kernel
theorem d_rf_init_62 : decode b_rf_init 62 = .ok (.bipush 28, 2) := by decide +kernel
theorem d_rf_init_64 : decode b_rf_init 64 = .ok (.newarray .int, 2) := by decide +kernel
theorem d_rf_init_66 : decode b_rf_init 66 = .ok (.putfield 32, 3) := by decide +kernel
theorem d_rf_init_69 : decode b_rf_init 69 = .ok (.aload_n 0, 1) := by decide +kernel
theorem d_rf_init_70 : decode b_rf_init 70 = .ok (.sipush 224, 3) := by decide +kernel
theorem d_rf_init_73 : decode b_rf_init 73 = .ok (.newarray .boolean, 2) := by decide +kernel
theorem d_rf_init_75 : decode b_rf_init 75 = .ok (.putfield 35, 3) := by decide +kernel
theorem d_rf_init_78 : decode b_rf_init 78 = .ok (.aload_n 0, 1) := by decide +kernel
theorem d_rf_init_79 : decode b_rf_init 79 = .ok (.sipush 3584, 3) := by decide +kernel
theorem d_rf_init_82 : decode b_rf_init 82 = .ok (.newarray .int, 2) := by decide +kernel
theorem d_rf_init_84 : decode b_rf_init 84 = .ok (.putfield 38, 3) := by decide +kernel
theorem d_rf_init_87 : decode b_rf_init 87 = .ok (.aload_n 0, 1) := by decide +kernel
theorem d_rf_init_88 : decode b_rf_init 88 = .ok (.bipush 28, 2) := by decide +kernel
theorem d_rf_init_90 : decode b_rf_init 90 = .ok (.newarray .int, 2) := by decide +kernel
theorem d_rf_init_92 : decode b_rf_init 92 = .ok (.putfield 41, 3) := by decide +kernel
theorem d_rf_init_95 : decode b_rf_init 95 = .ok (.aload_n 0, 1) := by decide +kernel
theorem d_rf_init_96 : decode b_rf_init 96 = .ok (.bipush 6, 2) := by decide +kernel
theorem d_rf_init_98 : decode b_rf_init 98 = .ok (.newarray .int, 2) := by decide +kernel
theorem d_rf_init_100 : decode b_rf_init 100 = .ok (.putfield 44, 3) := by decide +kernel
theorem d_rf_init_103 : decode b_rf_init 103 = .ok (.aload_n 0, 1) := by decide +kernel
theorem d_rf_init_104 : decode b_rf_init 104 = .ok (.bipush 28, 2) := by decide +kernel
theorem d_rf_init_106 : decode b_rf_init 106 = .ok (.newarray .boolean, 2) := by decide +kernel
theorem d_rf_init_108 : decode b_rf_init 108 = .ok (.putfield 47, 3) := by decide +kernel
theorem d_rf_init_111 : decode b_rf_init 111 = .ok (.iconst 0, 1) := by decide +kernel
theorem d_rf_init_112 : decode b_rf_init 112 = .ok (.istore_n 1, 1) := by decide +kernel
theorem d_rf_init_113 : decode b_rf_init 113 = .ok (.iload_n 1, 1) := by decide +kernel
theorem d_rf_init_114 : decode b_rf_init 114 = .ok (.iconst 4, 1) := by decide +kernel
theorem d_rf_init_115 : decode b_rf_init 115 = .ok (.if_icmp .ge 72, 3) := by decide +kernel
theorem d_rf_init_118 : decode b_rf_init 118 = .ok (.aload_n 0, 1) := by decide +kernel
theorem d_rf_init_119 : decode b_rf_init 119 = .ok (.getfield 7, 3) := by decide +kernel
theorem d_rf_init_122 : decode b_rf_init 122 = .ok (.iload_n 1, 1) := by decide +kernel
theorem d_rf_init_123 : decode b_rf_init 123 = .ok (.iconst 1, 1) := by decide +kernel
theorem d_rf_init_124 : decode b_rf_init 124 = .ok (.bastore, 1) := by decide +kernel
theorem d_rf_init_125 : decode b_rf_init 125 = .ok (.aload_n 0, 1) := by decide +kernel
theorem d_rf_init_126 : decode b_rf_init 126 = .ok (.getfield 17, 3) := by decide +kernel
theorem d_rf_init_129 : decode b_rf_init 129 = .ok (.iload_n 1, 1) := by decide +kernel
theorem d_rf_init_130 : decode b_rf_init 130 = .ok (.iconst 1, 1) := by decide +kernel
theorem d_rf_init_131 : decode b_rf_init 131 = .ok (.iastore, 1) := by decide +kernel
theorem d_rf_init_132 : decode b_rf_init 132 = .ok (.aload_n 0, 1) := by decide +kernel
theorem d_rf_init_133 : decode b_rf_init 133 = .ok (.getfield 13, 3) := by decide +kernel
theorem d_rf_init_136 : decode b_rf_init 136 = .ok (.iload_n 1, 1) := by decide +kernel
theorem d_rf_init_137 : decode b_rf_init 137 = .ok (.iload_n 1, 1) := by decide +kernel
theorem d_rf_init_138 : decode b_rf_init 138 = .ok (.ifCond .le 7, 3) := by decide +kernel
theorem d_rf_init_141 : decode b_rf_init 141 = .ok (.iconst 1, 1) := by decide +kernel
theorem d_rf_init_142 : decode b_rf_init 142 = .ok (.goto 4, 3) := by decide +kernel
theorem d_rf_init_145 : decode b_rf_init 145 = .ok (.iconst 0, 1) := by decide +kernel
theorem d_rf_init_146 : decode b_rf_init 146 = .ok (.iastore, 1) := by decide +kernel
theorem d_rf_init_147 : decode b_rf_init 147 = .ok (.aload_n 0, 1) := by decide +kernel
theorem d_rf_init_148 : decode b_rf_init 148 = .ok (.getfield 20, 3) := by decide +kernel
theorem d_rf_init_151 : decode b_rf_init 151 = .ok (.iload_n 1, 1) := by decide +kernel
theorem d_rf_init_152 : decode b_rf_init 152 = .ok (.iload_n 1, 1) := by decide +kernel
theorem d_rf_init_153 : decode b_rf_init 153 = .ok (.ifCond .le 7, 3) := by decide +kernel
theorem d_rf_init_156 : decode b_rf_init 156 = .ok (.iconst 1, 1) := by decide +kernel
theorem d_rf_init_157 : decode b_rf_init 157 = .ok (.goto 4, 3) := by decide +kernel
theorem d_rf_init_160 : decode b_rf_init 160 = .ok (.iconst 0, 1) := by decide +kernel
theorem d_rf_init_161 : decode b_rf_init 161 = .ok (.iastore, 1) := by decide +kernel
theorem d_rf_init_162 : decode b_rf_init 162 = .ok (.aload_n 0, 1) := by decide +kernel
theorem d_rf_init_163 : decode b_rf_init 163 = .ok (.getfield 23, 3) := by decide +kernel
theorem d_rf_init_166 : decode b_rf_init 166 = .ok (.bipush 15, 2) := by decide +kernel
theorem d_rf_init_168 : decode b_rf_init 168 = .ok (.iload_n 1, 1) := by decide +kernel
theorem d_rf_init_169 : decode b_rf_init 169 = .ok (.imul, 1) := by decide +kernel
theorem d_rf_init_170 : decode b_rf_init 170 = .ok (.iload_n 1, 1) := by decide +kernel
theorem d_rf_init_171 : decode b_rf_init 171 = .ok (.iconst 1, 1) := by decide +kernel
theorem d_rf_init_172 : decode b_rf_init 172 = .ok (.if_icmp .le 7, 3) := by decide +kernel
theorem d_rf_init_175 : decode b_rf_init 175 = .ok (.iconst 1, 1) := by decide +kernel
theorem d_rf_init_176 : decode b_rf_init 176 = .ok (.goto 4, 3) := by decide +kernel
theorem d_rf_init_179 : decode b_rf_init 179 = .ok (.iconst 0, 1) := by decide +kernel
theorem d_rf_init_180 : decode b_rf_init 180 = .ok (.iastore, 1) := by decide +kernel
theorem d_rf_init_181 : decode b_rf_init 181 = .ok (.iinc 1 1, 3) := by decide +kernel
theorem d_rf_init_184 : decode b_rf_init 184 = .ok (.goto (-71), 3) := by decide +kernel
theorem d_rf_init_187 : decode b_rf_init 187 = .ok (.aload_n 0, 1) := by decide +kernel
theorem d_rf_init_188 : decode b_rf_init 188 = .ok (.invokevirtual 50, 3) := by decide +kernel
theorem d_rf_init_191 : decode b_rf_init 191 = .ok (.return_, 1) := by decide +kernel
theorem d_rf_isNumber_0 : decode b_rf_isNumber 0 = .ok (.iload_n 0, 1) := by decide +kernel
theorem d_rf_isNumber_1 : decode b_rf_isNumber 1 = .ok (.bipush 28, 2) := by decide +kernel
theorem d_rf_isNumber_3 : decode b_rf_isNumber 3 = .ok (.if_icmp .lt 7, 3) := by decide +kernel
theorem d_rf_isNumber_6 : decode b_rf_isNumber 6 = .ok (.iconst 1, 1) := by decide +kernel
theorem d_rf_isNumber_7 : decode b_rf_isNumber 7 = .ok (.goto 4, 3) := by decide +kernel
theorem d_rf_isNumber_10 : decode b_rf_isNumber 10 = .ok (.iconst 0, 1) := by decide +kernel
theorem d_rf_isNumber_11 : decode b_rf_isNumber 11 = .ok (.ireturn, 1) := by decide +kernel
theorem d_rf_isClass_0 : decode b_rf_isClass 0 = .ok (.iload_n 1, 1) := by decide +kernel
theorem d_rf_isClass_1 : decode b_rf_isClass 1 = .ok (.invokestatic 53, 3) := by decide +kernel
theorem d_rf_isClass_4 : decode b_rf_isClass 4 = .ok (.ifCond .ne 17, 3) := by decide +kernel
theorem d_rf_isClass_7 : decode b_rf_isClass 7 = .ok (.aload_n 0, 1) := by decide +kernel
theorem d_rf_isClass_8 : decode b_rf_isClass 8 = .ok (.getfield 13, 3) := by decide +kernel
theorem d_rf_isClass_11 : decode b_rf_isClass 11 = .ok (.iload_n 1, 1) := by decide +kernel
theorem d_rf_isClass_12 : decode b_rf_isClass 12 = .ok (.iaload, 1) := by decide +kernel
theorem d_rf_isClass_13 : decode b_rf_isClass 13 = .ok (.iconst 1, 1) := by decide +kernel
theorem d_rf_isClass_14 : decode b_rf_isClass 14 = .ok (.if_icmp .ne 7, 3) := by decide +kernel
theorem d_rf_isClass_17 : decode b_rf_isClass 17 = .ok (.iconst 1, 1) := by decide +kernel
theorem d_rf_isClass_18 : decode b_rf_isClass 18 = .ok (.goto 4, 3) := by decide +kernel
theorem d_rf_isClass_21 : decode b_rf_isClass 21 = .ok (.iconst 0, 1) := by decide +kernel
theorem d_rf_isClass_22 : decode b_rf_isClass 22 = .ok (.ireturn, 1) := by decide +kernel
theorem d_rf_isContext_0 : decode b_rf_isContext 0 = .ok (.iload_n 1, 1) := by decide +kernel
theorem d_rf_isContext_1 : decode b_rf_isContext 1 = .ok (.invokestatic 53, 3) := by decide +kernel
theorem d_rf_isContext_4 : decode b_rf_isContext 4 = .ok (.ifCond .ne 17, 3) := by decide +kernel
theorem d_rf_isContext_7 : decode b_rf_isContext 7 = .ok (.aload_n 0, 1) := by decide +kernel
theorem d_rf_isContext_8 : decode b_rf_isContext 8 = .ok (.getfield 13, 3) := by decide +kernel
theorem d_rf_isContext_11 : decode b_rf_isContext 11 = .ok (.iload_n 1, 1) := by decide +kernel
theorem d_rf_isContext_12 : decode b_rf_isContext 12 = .ok (.iaload, 1) := by decide +kernel
theorem d_rf_isContext_13 : decode b_rf_isContext 13 = .ok (.iconst 2, 1) := by decide +kernel
theorem d_rf_isContext_14 : decode b_rf_isContext 14 = .ok (.if_icmp .ne 7, 3) := by decide +kernel
theorem d_rf_isContext_17 : decode b_rf_isContext 17 = .ok (.iconst 1, 1) := by decide +kernel
theorem d_rf_isContext_18 : decode b_rf_isContext 18 = .ok (.goto 4, 3) := by decide +kernel
theorem d_rf_isContext_21 : decode b_rf_isContext 21 = .ok (.iconst 0, 1) := by decide +kernel
theorem d_rf_isContext_22 : decode b_rf_isContext 22 = .ok (.ireturn, 1) := by decide +kernel
theorem d_rf_classOfWord_0 : decode b_rf_classOfWord 0 = .ok (.iload_n 1, 1) := by decide +kernel
theorem d_rf_classOfWord_1 : decode b_rf_classOfWord 1 = .ok (.invokestatic 53, 3) := by decide +kernel
theorem d_rf_classOfWord_4 : decode b_rf_classOfWord 4 = .ok (.ifCond .eq 7, 3) := by decide +kernel
theorem d_rf_classOfWord_7 : decode b_rf_classOfWord 7 = .ok (.iconst 2, 1) := by decide +kernel
theorem d_rf_classOfWord_8 : decode b_rf_classOfWord 8 = .ok (.goto 9, 3) := by decide +kernel
theorem d_rf_classOfWord_11 : decode b_rf_classOfWord 11 = .ok (.aload_n 0, 1) := by decide +kernel
theorem d_rf_classOfWord_12 : decode b_rf_classOfWord 12 = .ok (.getfield 17, 3) := by decide +kernel
theorem d_rf_classOfWord_15 : decode b_rf_classOfWord 15 = .ok (.iload_n 1, 1) := by decide +kernel
theorem d_rf_classOfWord_16 : decode b_rf_classOfWord 16 = .ok (.iaload, 1) := by decide +kernel
theorem d_rf_classOfWord_17 : decode b_rf_classOfWord 17 = .ok (.ireturn, 1) := by decide +kernel
theorem d_rf_noHandle_0 : decode b_rf_noHandle 0 = .ok (.iload_n 0, 1) := by decide +kernel
theorem d_rf_noHandle_1 : decode b_rf_noHandle 1 = .ok (.ifCond .lt 8, 3) := by decide +kernel
theorem d_rf_noHandle_4 : decode b_rf_noHandle 4 = .ok (.iload_n 0, 1) := by decide +kernel
theorem d_rf_noHandle_5 : decode b_rf_noHandle 5 = .ok (.iconst 5, 1) := by decide +kernel
theorem d_rf_noHandle_6 : decode b_rf_noHandle 6 = .ok (.if_icmp .le 7, 3) := by decide +kernel
theorem d_rf_noHandle_9 : decode b_rf_noHandle 9 = .ok (.iconst 1, 1) := by decide +kernel
theorem d_rf_noHandle_10 : decode b_rf_noHandle 10 = .ok (.goto 4, 3) := by decide +kernel
theorem d_rf_noHandle_13 : decode b_rf_noHandle 13 = .ok (.iconst 0, 1) := by decide +kernel
theorem d_rf_noHandle_14 : decode b_rf_noHandle 14 = .ok (.ireturn, 1) := by decide +kernel
theorem d_rf_noSelector_0 : decode b_rf_noSelector 0 = .ok (.iload_n 0, 1) := by decide +kernel
theorem d_rf_noSelector_1 : decode b_rf_noSelector 1 = .ok (.ifCond .lt 9, 3) := by decide +kernel
theorem d_rf_noSelector_4 : decode b_rf_noSelector 4 = .ok (.iload_n 0, 1) := by decide +kernel
theorem d_rf_noSelector_5 : decode b_rf_noSelector 5 = .ok (.bipush 7, 2) := by decide +kernel
theorem d_rf_noSelector_7 : decode b_rf_noSelector 7 = .ok (.if_icmp .le 7, 3) := by decide +kernel
theorem d_rf_noSelector_10 : decode b_rf_noSelector 10 = .ok (.iconst 1, 1) := by decide +kernel
theorem d_rf_noSelector_11 : decode b_rf_noSelector 11 = .ok (.goto 4, 3) := by decide +kernel
theorem d_rf_noSelector_14 : decode b_rf_noSelector 14 = .ok (.iconst 0, 1) := by decide +kernel
theorem d_rf_noSelector_15 : decode b_rf_noSelector 15 = .ok (.ireturn, 1) := by decide +kernel
theorem d_rf_noObject_0 : decode b_rf_noObject 0 = .ok (.iload_n 1, 1) := by decide +kernel
theorem d_rf_noObject_1 : decode b_rf_noObject 1 = .ok (.ifCond .lt 18, 3) := by decide +kernel
theorem d_rf_noObject_4 : decode b_rf_noObject 4 = .ok (.iload_n 1, 1) := by decide +kernel
theorem d_rf_noObject_5 : decode b_rf_noObject 5 = .ok (.bipush 28, 2) := by decide +kernel
theorem d_rf_noObject_7 : decode b_rf_noObject 7 = .ok (.if_icmp .ge 12, 3) := by decide +kernel
theorem d_rf_noObject_10 : decode b_rf_noObject 10 = .ok (.aload_n 0, 1) := by decide +kernel
theorem d_rf_noObject_11 : decode b_rf_noObject 11 = .ok (.getfield 7, 3) := by decide +kernel
theorem d_rf_noObject_14 : decode b_rf_noObject 14 = .ok (.iload_n 1, 1) := by decide +kernel
theorem d_rf_noObject_15 : decode b_rf_noObject 15 = .ok (.baload, 1) := by decide +kernel
theorem d_rf_noObject_16 : decode b_rf_noObject 16 = .ok (.ifCond .ne 7, 3) := by decide +kernel
theorem d_rf_noObject_19 : decode b_rf_noObject 19 = .ok (.iconst 1, 1) := by decide +kernel
theorem d_rf_noObject_20 : decode b_rf_noObject 20 = .ok (.goto 4, 3) := by decide +kernel
theorem d_rf_noObject_23 : decode b_rf_noObject 23 = .ok (.iconst 0, 1) := by decide +kernel
theorem d_rf_noObject_24 : decode b_rf_noObject 24 = .ok (.ireturn, 1) := by decide +kernel
theorem d_rf_hasField_0 : decode b_rf_hasField 0 = .ok (.iload_n 1, 1) := by decide +kernel
theorem d_rf_hasField_1 : decode b_rf_hasField 1 = .ok (.invokestatic 53, 3) := by decide +kernel
theorem d_rf_hasField_4 : decode b_rf_hasField 4 = .ok (.ifCond .ne 21, 3) := by decide +kernel
theorem d_rf_hasField_7 : decode b_rf_hasField 7 = .ok (.iload_n 2, 1) := by decide +kernel
theorem d_rf_hasField_8 : decode b_rf_hasField 8 = .ok (.ifCond .lt 17, 3) := by decide +kernel
theorem d_rf_hasField_11 : decode b_rf_hasField 11 = .ok (.iload_n 2, 1) := by decide +kernel
theorem d_rf_hasField_12 : decode b_rf_hasField 12 = .ok (.aload_n 0, 1) := by decide +kernel
theorem d_rf_hasField_13 : decode b_rf_hasField 13 = .ok (.getfield 20, 3) := by decide +kernel
theorem d_rf_hasField_16 : decode b_rf_hasField 16 = .ok (.iload_n 1, 1) := by decide +kernel
theorem d_rf_hasField_17 : decode b_rf_hasField 17 = .ok (.iaload, 1) := by decide +kernel
theorem d_rf_hasField_18 : decode b_rf_hasField 18 = .ok (.if_icmp .ge 7, 3) := by decide +kernel
theorem d_rf_hasField_21 : decode b_rf_hasField 21 = .ok (.iconst 1, 1) := by decide +kernel
theorem d_rf_hasField_22 : decode b_rf_hasField 22 = .ok (.goto 4, 3) := by decide +kernel
theorem d_rf_hasField_25 : decode b_rf_hasField 25 = .ok (.iconst 0, 1) := by decide +kernel
theorem d_rf_hasField_26 : decode b_rf_hasField 26 = .ok (.ireturn, 1) := by decide +kernel
theorem d_rf_found_0 : decode b_rf_found 0 = .ok (.iload_n 1, 1) := by decide +kernel
theorem d_rf_found_1 : decode b_rf_found 1 = .ok (.istore_n 3, 1) := by decide +kernel
theorem d_rf_found_2 : decode b_rf_found 2 = .ok (.iload_n 3, 1) := by decide +kernel
theorem d_rf_found_3 : decode b_rf_found 3 = .ok (.ifCond .eq 30, 3) := by decide +kernel
theorem d_rf_found_6 : decode b_rf_found 6 = .ok (.aload_n 0, 1) := by decide +kernel
theorem d_rf_found_7 : decode b_rf_found 7 = .ok (.getfield 35, 3) := by decide +kernel
theorem d_rf_found_10 : decode b_rf_found 10 = .ok (.bipush 8, 2) := by decide +kernel
theorem d_rf_found_12 : decode b_rf_found 12 = .ok (.iload_n 3, 1) := by decide +kernel
theorem d_rf_found_13 : decode b_rf_found 13 = .ok (.imul, 1) := by decide +kernel
theorem d_rf_found_14 : decode b_rf_found 14 = .ok (.iload_n 2, 1) := by decide +kernel
theorem d_rf_found_15 : decode b_rf_found 15 = .ok (.iadd, 1) := by decide +kernel
theorem d_rf_found_16 : decode b_rf_found 16 = .ok (.baload, 1) := by decide +kernel
theorem d_rf_found_17 : decode b_rf_found 17 = .ok (.ifCond .ne 16, 3) := by decide +kernel
theorem d_rf_found_20 : decode b_rf_found 20 = .ok (.aload_n 0, 1) := by decide +kernel
theorem d_rf_found_21 : decode b_rf_found 21 = .ok (.getfield 23, 3) := by decide +kernel
theorem d_rf_found_24 : decode b_rf_found 24 = .ok (.bipush 15, 2) := by decide +kernel
theorem d_rf_found_26 : decode b_rf_found 26 = .ok (.iload_n 3, 1) := by decide +kernel
theorem d_rf_found_27 : decode b_rf_found 27 = .ok (.imul, 1) := by decide +kernel
theorem d_rf_found_28 : decode b_rf_found 28 = .ok (.iaload, 1) := by decide +kernel
theorem d_rf_found_29 : decode b_rf_found 29 = .ok (.istore_n 3, 1) := by decide +kernel
theorem d_rf_found_30 : decode b_rf_found 30 = .ok (.goto (-28), 3) := by decide +kernel
theorem d_rf_found_33 : decode b_rf_found 33 = .ok (.iload_n 3, 1) := by decide +kernel
theorem d_rf_found_34 : decode b_rf_found 34 = .ok (.ireturn, 1) := by decide +kernel
theorem d_rf_tally_0 : decode b_rf_tally 0 = .ok (.iconst 0, 1) := by decide +kernel
theorem d_rf_tally_1 : decode b_rf_tally 1 = .ok (.istore_n 1, 1) := by decide +kernel
theorem d_rf_tally_2 : decode b_rf_tally 2 = .ok (.iload_n 1, 1) := by decide +kernel
theorem d_rf_tally_3 : decode b_rf_tally 3 = .ok (.bipush 28, 2) := by decide +kernel
theorem d_rf_tally_5 : decode b_rf_tally 5 = .ok (.if_icmp .ge 16, 3) := by decide +kernel
theorem d_rf_tally_8 : decode b_rf_tally 8 = .ok (.aload_n 0, 1) := by decide +kernel
theorem d_rf_tally_9 : decode b_rf_tally 9 = .ok (.getfield 29, 3) := by decide +kernel
theorem d_rf_tally_12 : decode b_rf_tally 12 = .ok (.iload_n 1, 1) := by decide +kernel
theorem d_rf_tally_13 : decode b_rf_tally 13 = .ok (.iconst 0, 1) := by decide +kernel
theorem d_rf_tally_14 : decode b_rf_tally 14 = .ok (.iastore, 1) := by decide +kernel
theorem d_rf_tally_15 : decode b_rf_tally 15 = .ok (.iinc 1 1, 3) := by decide +kernel
theorem d_rf_tally_18 : decode b_rf_tally 18 = .ok (.goto (-16), 3) := by decide +kernel
theorem d_rf_tally_21 : decode b_rf_tally 21 = .ok (.iconst 0, 1) := by decide +kernel
theorem d_rf_tally_22 : decode b_rf_tally 22 = .ok (.istore_n 1, 1) := by decide +kernel
theorem d_rf_tally_23 : decode b_rf_tally 23 = .ok (.iload_n 1, 1) := by decide +kernel
theorem d_rf_tally_24 : decode b_rf_tally 24 = .ok (.bipush 28, 2) := by decide +kernel
theorem d_rf_tally_26 : decode b_rf_tally 26 = .ok (.if_icmp .ge 80, 3) := by decide +kernel
theorem d_rf_tally_29 : decode b_rf_tally 29 = .ok (.aload_n 0, 1) := by decide +kernel
theorem d_rf_tally_30 : decode b_rf_tally 30 = .ok (.getfield 7, 3) := by decide +kernel
theorem d_rf_tally_33 : decode b_rf_tally 33 = .ok (.iload_n 1, 1) := by decide +kernel
theorem d_rf_tally_34 : decode b_rf_tally 34 = .ok (.baload, 1) := by decide +kernel
theorem d_rf_tally_35 : decode b_rf_tally 35 = .ok (.ifCond .eq 65, 3) := by decide +kernel
theorem d_rf_tally_38 : decode b_rf_tally 38 = .ok (.aload_n 0, 1) := by decide +kernel
theorem d_rf_tally_39 : decode b_rf_tally 39 = .ok (.getfield 29, 3) := by decide +kernel
theorem d_rf_tally_42 : decode b_rf_tally 42 = .ok (.aload_n 0, 1) := by decide +kernel
theorem d_rf_tally_43 : decode b_rf_tally 43 = .ok (.getfield 17, 3) := by decide +kernel
theorem d_rf_tally_46 : decode b_rf_tally 46 = .ok (.iload_n 1, 1) := by decide +kernel
theorem d_rf_tally_47 : decode b_rf_tally 47 = .ok (.iaload, 1) := by decide +kernel
theorem d_rf_tally_48 : decode b_rf_tally 48 = .ok (.dup2, 1) := by decide +kernel
theorem d_rf_tally_49 : decode b_rf_tally 49 = .ok (.iaload, 1) := by decide +kernel
theorem d_rf_tally_50 : decode b_rf_tally 50 = .ok (.iconst 1, 1) := by decide +kernel
theorem d_rf_tally_51 : decode b_rf_tally 51 = .ok (.iadd, 1) := by decide +kernel
theorem d_rf_tally_52 : decode b_rf_tally 52 = .ok (.iastore, 1) := by decide +kernel
theorem d_rf_tally_53 : decode b_rf_tally 53 = .ok (.iconst 0, 1) := by decide +kernel
theorem d_rf_tally_54 : decode b_rf_tally 54 = .ok (.istore_n 2, 1) := by decide +kernel
theorem d_rf_tally_55 : decode b_rf_tally 55 = .ok (.iload_n 2, 1) := by decide +kernel
theorem d_rf_tally_56 : decode b_rf_tally 56 = .ok (.aload_n 0, 1) := by decide +kernel
theorem d_rf_tally_57 : decode b_rf_tally 57 = .ok (.getfield 20, 3) := by decide +kernel
theorem d_rf_tally_60 : decode b_rf_tally 60 = .ok (.iload_n 1, 1) := by decide +kernel
theorem d_rf_tally_61 : decode b_rf_tally 61 = .ok (.iaload, 1) := by decide +kernel
theorem d_rf_tally_62 : decode b_rf_tally 62 = .ok (.if_icmp .ge 38, 3) := by decide +kernel
theorem d_rf_tally_65 : decode b_rf_tally 65 = .ok (.aload_n 0, 1) := by decide +kernel
theorem d_rf_tally_66 : decode b_rf_tally 66 = .ok (.getfield 23, 3) := by decide +kernel
theorem d_rf_tally_69 : decode b_rf_tally 69 = .ok (.bipush 15, 2) := by decide +kernel
theorem d_rf_tally_71 : decode b_rf_tally 71 = .ok (.iload_n 1, 1) := by decide +kernel
theorem d_rf_tally_72 : decode b_rf_tally 72 = .ok (.imul, 1) := by decide +kernel
theorem d_rf_tally_73 : decode b_rf_tally 73 = .ok (.iload_n 2, 1) := by decide +kernel
theorem d_rf_tally_74 : decode b_rf_tally 74 = .ok (.iadd, 1) := by decide +kernel
theorem d_rf_tally_75 : decode b_rf_tally 75 = .ok (.iaload, 1) := by decide +kernel
theorem d_rf_tally_76 : decode b_rf_tally 76 = .ok (.istore_n 3, 1) := by decide +kernel
theorem d_rf_tally_77 : decode b_rf_tally 77 = .ok (.iload_n 3, 1) := by decide +kernel
theorem d_rf_tally_78 : decode b_rf_tally 78 = .ok (.invokestatic 53, 3) := by decide +kernel
theorem d_rf_tally_81 : decode b_rf_tally 81 = .ok (.ifCond .ne 13, 3) := by decide +kernel
theorem d_rf_tally_84 : decode b_rf_tally 84 = .ok (.aload_n 0, 1) := by decide +kernel
theorem d_rf_tally_85 : decode b_rf_tally 85 = .ok (.getfield 29, 3) := by decide +kernel
theorem d_rf_tally_88 : decode b_rf_tally 88 = .ok (.iload_n 3, 1) := by decide +kernel
theorem d_rf_tally_89 : decode b_rf_tally 89 = .ok (.dup2, 1) := by decide +kernel
theorem d_rf_tally_90 : decode b_rf_tally 90 = .ok (.iaload, 1) := by decide +kernel
theorem d_rf_tally_91 : decode b_rf_tally 91 = .ok (.iconst 1, 1) := by decide +kernel
theorem d_rf_tally_92 : decode b_rf_tally 92 = .ok (.iadd, 1) := by decide +kernel
theorem d_rf_tally_93 : decode b_rf_tally 93 = .ok (.iastore, 1) := by decide +kernel
theorem d_rf_tally_94 : decode b_rf_tally 94 = .ok (.iinc 2 1, 3) := by decide +kernel
theorem d_rf_tally_97 : decode b_rf_tally 97 = .ok (.goto (-42), 3) := by decide +kernel
theorem d_rf_tally_100 : decode b_rf_tally 100 = .ok (.iinc 1 1, 3) := by decide +kernel
theorem d_rf_tally_103 : decode b_rf_tally 103 = .ok (.goto (-80), 3) := by decide +kernel
theorem d_rf_tally_106 : decode b_rf_tally 106 = .ok (.iconst 0, 1) := by decide +kernel
theorem d_rf_tally_107 : decode b_rf_tally 107 = .ok (.istore_n 1, 1) := by decide +kernel
theorem d_rf_tally_108 : decode b_rf_tally 108 = .ok (.iload_n 1, 1) := by decide +kernel
theorem d_rf_tally_109 : decode b_rf_tally 109 = .ok (.bipush 6, 2) := by decide +kernel
theorem d_rf_tally_111 : decode b_rf_tally 111 = .ok (.if_icmp .ge 36, 3) := by decide +kernel
theorem d_rf_tally_114 : decode b_rf_tally 114 = .ok (.aload_n 0, 1) := by decide +kernel
theorem d_rf_tally_115 : decode b_rf_tally 115 = .ok (.getfield 44, 3) := by decide +kernel
theorem d_rf_tally_118 : decode b_rf_tally 118 = .ok (.iload_n 1, 1) := by decide +kernel
theorem d_rf_tally_119 : decode b_rf_tally 119 = .ok (.iaload, 1) := by decide +kernel
theorem d_rf_tally_120 : decode b_rf_tally 120 = .ok (.invokestatic 53, 3) := by decide +kernel
theorem d_rf_tally_123 : decode b_rf_tally 123 = .ok (.ifCond .ne 18, 3) := by decide +kernel
theorem d_rf_tally_126 : decode b_rf_tally 126 = .ok (.aload_n 0, 1) := by decide +kernel
theorem d_rf_tally_127 : decode b_rf_tally 127 = .ok (.getfield 29, 3) := by decide +kernel
theorem d_rf_tally_130 : decode b_rf_tally 130 = .ok (.aload_n 0, 1) := by decide +kernel
theorem d_rf_tally_131 : decode b_rf_tally 131 = .ok (.getfield 44, 3) := by decide +kernel
theorem d_rf_tally_134 : decode b_rf_tally 134 = .ok (.iload_n 1, 1) := by decide +kernel
theorem d_rf_tally_135 : decode b_rf_tally 135 = .ok (.iaload, 1) := by decide +kernel
theorem d_rf_tally_136 : decode b_rf_tally 136 = .ok (.dup2, 1) := by decide +kernel
theorem d_rf_tally_137 : decode b_rf_tally 137 = .ok (.iaload, 1) := by decide +kernel
theorem d_rf_tally_138 : decode b_rf_tally 138 = .ok (.iconst 1, 1) := by decide +kernel
theorem d_rf_tally_139 : decode b_rf_tally 139 = .ok (.iadd, 1) := by decide +kernel
theorem d_rf_tally_140 : decode b_rf_tally 140 = .ok (.iastore, 1) := by decide +kernel
theorem d_rf_tally_141 : decode b_rf_tally 141 = .ok (.iinc 1 1, 3) := by decide +kernel
theorem d_rf_tally_144 : decode b_rf_tally 144 = .ok (.goto (-36), 3) := by decide +kernel
theorem d_rf_tally_147 : decode b_rf_tally 147 = .ok (.aload_n 0, 1) := by decide +kernel
theorem d_rf_tally_148 : decode b_rf_tally 148 = .ok (.getfield 29, 3) := by decide +kernel
theorem d_rf_tally_151 : decode b_rf_tally 151 = .ok (.aload_n 0, 1) := by decide +kernel
theorem d_rf_tally_152 : decode b_rf_tally 152 = .ok (.getfield 57, 3) := by decide +kernel
theorem d_rf_tally_155 : decode b_rf_tally 155 = .ok (.dup2, 1) := by decide +kernel
theorem d_rf_tally_156 : decode b_rf_tally 156 = .ok (.iaload, 1) := by decide +kernel
theorem d_rf_tally_157 : decode b_rf_tally 157 = .ok (.iconst 1, 1) := by decide +kernel
theorem d_rf_tally_158 : decode b_rf_tally 158 = .ok (.iadd, 1) := by decide +kernel
theorem d_rf_tally_159 : decode b_rf_tally 159 = .ok (.iastore, 1) := by decide +kernel
theorem d_rf_tally_160 : decode b_rf_tally 160 = .ok (.return_, 1) := by decide +kernel
theorem d_rf_settle_0 : decode b_rf_settle 0 = .ok (.iconst 1, 1) := by decide +kernel
theorem d_rf_settle_1 : decode b_rf_settle 1 = .ok (.istore_n 1, 1) := by decide +kernel
theorem d_rf_settle_2 : decode b_rf_settle 2 = .ok (.iload_n 1, 1) := by decide +kernel
theorem d_rf_settle_3 : decode b_rf_settle 3 = .ok (.ifCond .eq 62, 3) := by decide +kernel
theorem d_rf_settle_6 : decode b_rf_settle 6 = .ok (.iconst 0, 1) := by decide +kernel
theorem d_rf_settle_7 : decode b_rf_settle 7 = .ok (.istore_n 1, 1) := by decide +kernel
theorem d_rf_settle_8 : decode b_rf_settle 8 = .ok (.aload_n 0, 1) := by decide +kernel
theorem d_rf_settle_9 : decode b_rf_settle 9 = .ok (.invokevirtual 61, 3) := by decide +kernel
theorem d_rf_settle_12 : decode b_rf_settle 12 = .ok (.iconst 4, 1) := by decide +kernel
theorem d_rf_settle_13 : decode b_rf_settle 13 = .ok (.istore_n 2, 1) := by decide +kernel
theorem d_rf_settle_14 : decode b_rf_settle 14 = .ok (.iload_n 2, 1) := by decide +kernel
theorem d_rf_settle_15 : decode b_rf_settle 15 = .ok (.bipush 28, 2) := by decide +kernel
theorem d_rf_settle_17 : decode b_rf_settle 17 = .ok (.if_icmp .ge 45, 3) := by decide +kernel
theorem d_rf_settle_20 : decode b_rf_settle 20 = .ok (.aload_n 0, 1) := by decide +kernel
theorem d_rf_settle_21 : decode b_rf_settle 21 = .ok (.getfield 7, 3) := by decide +kernel
theorem d_rf_settle_24 : decode b_rf_settle 24 = .ok (.iload_n 2, 1) := by decide +kernel
theorem d_rf_settle_25 : decode b_rf_settle 25 = .ok (.baload, 1) := by decide +kernel
theorem d_rf_settle_26 : decode b_rf_settle 26 = .ok (.ifCond .eq 30, 3) := by decide +kernel
theorem d_rf_settle_29 : decode b_rf_settle 29 = .ok (.aload_n 0, 1) := by decide +kernel
theorem d_rf_settle_30 : decode b_rf_settle 30 = .ok (.getfield 29, 3) := by decide +kernel
theorem d_rf_settle_33 : decode b_rf_settle 33 = .ok (.iload_n 2, 1) := by decide +kernel
theorem d_rf_settle_34 : decode b_rf_settle 34 = .ok (.iaload, 1) := by decide +kernel
theorem d_rf_settle_35 : decode b_rf_settle 35 = .ok (.ifCond .ne 21, 3) := by decide +kernel
theorem d_rf_settle_38 : decode b_rf_settle 38 = .ok (.aload_n 0, 1) := by decide +kernel
theorem d_rf_settle_39 : decode b_rf_settle 39 = .ok (.getfield 26, 3) := by decide +kernel
theorem d_rf_settle_42 : decode b_rf_settle 42 = .ok (.iload_n 2, 1) := by decide +kernel
theorem d_rf_settle_43 : decode b_rf_settle 43 = .ok (.baload, 1) := by decide +kernel
theorem d_rf_settle_44 : decode b_rf_settle 44 = .ok (.ifCond .ne 12, 3) := by decide +kernel
theorem d_rf_settle_47 : decode b_rf_settle 47 = .ok (.aload_n 0, 1) := by decide +kernel
theorem d_rf_settle_48 : decode b_rf_settle 48 = .ok (.getfield 7, 3) := by decide +kernel
theorem d_rf_settle_51 : decode b_rf_settle 51 = .ok (.iload_n 2, 1) := by decide +kernel
theorem d_rf_settle_52 : decode b_rf_settle 52 = .ok (.iconst 0, 1) := by decide +kernel
theorem d_rf_settle_53 : decode b_rf_settle 53 = .ok (.bastore, 1) := by decide +kernel
theorem d_rf_settle_54 : decode b_rf_settle 54 = .ok (.iconst 1, 1) := by decide +kernel
theorem d_rf_settle_55 : decode b_rf_settle 55 = .ok (.istore_n 1, 1) := by decide +kernel
theorem d_rf_settle_56 : decode b_rf_settle 56 = .ok (.iinc 2 1, 3) := by decide +kernel
theorem d_rf_settle_59 : decode b_rf_settle 59 = .ok (.goto (-45), 3) := by decide +kernel
theorem d_rf_settle_62 : decode b_rf_settle 62 = .ok (.goto (-60), 3) := by decide +kernel
theorem d_rf_settle_65 : decode b_rf_settle 65 = .ok (.iconst 0, 1) := by decide +kernel
theorem d_rf_settle_66 : decode b_rf_settle 66 = .ok (.istore_n 2, 1) := by decide +kernel
theorem d_rf_settle_67 : decode b_rf_settle 67 = .ok (.iload_n 2, 1) := by decide +kernel
theorem d_rf_settle_68 : decode b_rf_settle 68 = .ok (.bipush 28, 2) := by decide +kernel
theorem d_rf_settle_70 : decode b_rf_settle 70 = .ok (.if_icmp .ge 49, 3) := by decide +kernel
theorem d_rf_settle_73 : decode b_rf_settle 73 = .ok (.aload_n 0, 1) := by decide +kernel
theorem d_rf_settle_74 : decode b_rf_settle 74 = .ok (.getfield 26, 3) := by decide +kernel
theorem d_rf_settle_77 : decode b_rf_settle 77 = .ok (.iload_n 2, 1) := by decide +kernel
theorem d_rf_settle_78 : decode b_rf_settle 78 = .ok (.aload_n 0, 1) := by decide +kernel
theorem d_rf_settle_79 : decode b_rf_settle 79 = .ok (.getfield 7, 3) := by decide +kernel
theorem d_rf_settle_82 : decode b_rf_settle 82 = .ok (.iload_n 2, 1) := by decide +kernel
theorem d_rf_settle_83 : decode b_rf_settle 83 = .ok (.baload, 1) := by decide +kernel
theorem d_rf_settle_84 : decode b_rf_settle 84 = .ok (.ifCond .eq 27, 3) := by decide +kernel
theorem d_rf_settle_87 : decode b_rf_settle 87 = .ok (.aload_n 0, 1) := by decide +kernel
theorem d_rf_settle_88 : decode b_rf_settle 88 = .ok (.getfield 26, 3) := by decide +kernel
theorem d_rf_settle_91 : decode b_rf_settle 91 = .ok (.iload_n 2, 1) := by decide +kernel
theorem d_rf_settle_92 : decode b_rf_settle 92 = .ok (.baload, 1) := by decide +kernel
theorem d_rf_settle_93 : decode b_rf_settle 93 = .ok (.ifCond .ne 14, 3) := by decide +kernel
theorem d_rf_settle_96 : decode b_rf_settle 96 = .ok (.aload_n 0, 1) := by decide +kernel
theorem d_rf_settle_97 : decode b_rf_settle 97 = .ok (.getfield 29, 3) := by decide +kernel
theorem d_rf_settle_100 : decode b_rf_settle 100 = .ok (.iload_n 2, 1) := by decide +kernel
theorem d_rf_settle_101 : decode b_rf_settle 101 = .ok (.iaload, 1) := by decide +kernel
theorem d_rf_settle_102 : decode b_rf_settle 102 = .ok (.bipush 6, 2) := by decide +kernel
theorem d_rf_settle_104 : decode b_rf_settle 104 = .ok (.if_icmp .lt 7, 3) := by decide +kernel
theorem d_rf_settle_107 : decode b_rf_settle 107 = .ok (.iconst 1, 1) := by decide +kernel
theorem d_rf_settle_108 : decode b_rf_settle 108 = .ok (.goto 4, 3) := by decide +kernel
theorem d_rf_settle_111 : decode b_rf_settle 111 = .ok (.iconst 0, 1) := by decide +kernel
theorem d_rf_settle_112 : decode b_rf_settle 112 = .ok (.bastore, 1) := by decide +kernel
theorem d_rf_settle_113 : decode b_rf_settle 113 = .ok (.iinc 2 1, 3) := by decide +kernel
theorem d_rf_settle_116 : decode b_rf_settle 116 = .ok (.goto (-49), 3) := by decide +kernel
theorem d_rf_settle_119 : decode b_rf_settle 119 = .ok (.return_, 1) := by decide +kernel
theorem d_rf_room_0 : decode b_rf_room 0 = .ok (.iconst 0, 1) := by decide +kernel
theorem d_rf_room_1 : decode b_rf_room 1 = .ok (.istore_n 1, 1) := by decide +kernel
theorem d_rf_room_2 : decode b_rf_room 2 = .ok (.iload_n 1, 1) := by decide +kernel
theorem d_rf_room_3 : decode b_rf_room 3 = .ok (.bipush 28, 2) := by decide +kernel
theorem d_rf_room_5 : decode b_rf_room 5 = .ok (.if_icmp .ge 18, 3) := by decide +kernel
theorem d_rf_room_8 : decode b_rf_room 8 = .ok (.aload_n 0, 1) := by decide +kernel
theorem d_rf_room_9 : decode b_rf_room 9 = .ok (.getfield 7, 3) := by decide +kernel
theorem d_rf_room_12 : decode b_rf_room 12 = .ok (.iload_n 1, 1) := by decide +kernel
theorem d_rf_room_13 : decode b_rf_room 13 = .ok (.baload, 1) := by decide +kernel
theorem d_rf_room_14 : decode b_rf_room 14 = .ok (.ifCond .eq 9, 3) := by decide +kernel
theorem d_rf_room_17 : decode b_rf_room 17 = .ok (.iinc 1 1, 3) := by decide +kernel
theorem d_rf_room_20 : decode b_rf_room 20 = .ok (.goto (-18), 3) := by decide +kernel
theorem d_rf_room_23 : decode b_rf_room 23 = .ok (.iload_n 1, 1) := by decide +kernel
theorem d_rf_room_24 : decode b_rf_room 24 = .ok (.bipush 28, 2) := by decide +kernel
theorem d_rf_room_26 : decode b_rf_room 26 = .ok (.if_icmp .ge 7, 3) := by decide +kernel
theorem d_rf_room_29 : decode b_rf_room 29 = .ok (.iload_n 1, 1) := by decide +kernel
theorem d_rf_room_30 : decode b_rf_room 30 = .ok (.goto 4, 3) := by decide +kernel
theorem d_rf_room_33 : decode b_rf_room 33 = .ok (.iconst (-1), 1) := by decide +kernel
theorem d_rf_room_34 : decode b_rf_room 34 = .ok (.ireturn, 1) := by decide +kernel
theorem d_rf_make1_0 : decode b_rf_make1 0 = .ok (.aload_n 0, 1) := by decide +kernel
theorem d_rf_make1_1 : decode b_rf_make1 1 = .ok (.getfield 7, 3) := by decide +kernel
theorem d_rf_make1_4 : decode b_rf_make1 4 = .ok (.iload_n 1, 1) := by decide +kernel
theorem d_rf_make1_5 : decode b_rf_make1 5 = .ok (.iconst 1, 1) := by decide +kernel
theorem d_rf_make1_6 : decode b_rf_make1 6 = .ok (.bastore, 1) := by decide +kernel
theorem d_rf_make1_7 : decode b_rf_make1 7 = .ok (.aload_n 0, 1) := by decide +kernel
theorem d_rf_make1_8 : decode b_rf_make1 8 = .ok (.getfield 13, 3) := by decide +kernel
theorem d_rf_make1_11 : decode b_rf_make1 11 = .ok (.iload_n 1, 1) := by decide +kernel
theorem d_rf_make1_12 : decode b_rf_make1 12 = .ok (.iload_n 2, 1) := by decide +kernel
theorem d_rf_make1_13 : decode b_rf_make1 13 = .ok (.iastore, 1) := by decide +kernel
theorem d_rf_make1_14 : decode b_rf_make1 14 = .ok (.aload_n 0, 1) := by decide +kernel
theorem d_rf_make1_15 : decode b_rf_make1 15 = .ok (.getfield 17, 3) := by decide +kernel
theorem d_rf_make1_18 : decode b_rf_make1 18 = .ok (.iload_n 1, 1) := by decide +kernel
theorem d_rf_make1_19 : decode b_rf_make1 19 = .ok (.iload_n 3, 1) := by decide +kernel
theorem d_rf_make1_20 : decode b_rf_make1 20 = .ok (.iastore, 1) := by decide +kernel
theorem d_rf_make1_21 : decode b_rf_make1 21 = .ok (.aload_n 0, 1) := by decide +kernel
theorem d_rf_make1_22 : decode b_rf_make1 22 = .ok (.getfield 20, 3) := by decide +kernel
theorem d_rf_make1_25 : decode b_rf_make1 25 = .ok (.iload_n 1, 1) := by decide +kernel
theorem d_rf_make1_26 : decode b_rf_make1 26 = .ok (.iload 4, 2) := by decide +kernel
theorem d_rf_make1_28 : decode b_rf_make1 28 = .ok (.iastore, 1) := by decide +kernel
theorem d_rf_make1_29 : decode b_rf_make1 29 = .ok (.iconst 0, 1) := by decide +kernel
theorem d_rf_make1_30 : decode b_rf_make1 30 = .ok (.istore 5, 2) := by decide +kernel
theorem d_rf_make1_32 : decode b_rf_make1 32 = .ok (.iload 5, 2) := by decide +kernel
theorem d_rf_make1_34 : decode b_rf_make1 34 = .ok (.bipush 15, 2) := by decide +kernel
theorem d_rf_make1_36 : decode b_rf_make1 36 = .ok (.if_icmp .ge 22, 3) := by decide +kernel
theorem d_rf_make1_39 : decode b_rf_make1 39 = .ok (.aload_n 0, 1) := by decide +kernel
theorem d_rf_make1_40 : decode b_rf_make1 40 = .ok (.getfield 23, 3) := by decide +kernel
theorem d_rf_make1_43 : decode b_rf_make1 43 = .ok (.bipush 15, 2) := by decide +kernel
theorem d_rf_make1_45 : decode b_rf_make1 45 = .ok (.iload_n 1, 1) := by decide +kernel
theorem d_rf_make1_46 : decode b_rf_make1 46 = .ok (.imul, 1) := by decide +kernel
theorem d_rf_make1_47 : decode b_rf_make1 47 = .ok (.iload 5, 2) := by decide +kernel
theorem d_rf_make1_49 : decode b_rf_make1 49 = .ok (.iadd, 1) := by decide +kernel
theorem d_rf_make1_50 : decode b_rf_make1 50 = .ok (.iconst 0, 1) := by decide +kernel
theorem d_rf_make1_51 : decode b_rf_make1 51 = .ok (.iastore, 1) := by decide +kernel
theorem d_rf_make1_52 : decode b_rf_make1 52 = .ok (.iinc 5 1, 3) := by decide +kernel
theorem d_rf_make1_55 : decode b_rf_make1 55 = .ok (.goto (-23), 3) := by decide +kernel
theorem d_rf_make1_58 : decode b_rf_make1 58 = .ok (.aload_n 0, 1) := by decide +kernel
theorem d_rf_make1_59 : decode b_rf_make1 59 = .ok (.getfield 26, 3) := by decide +kernel
theorem d_rf_make1_62 : decode b_rf_make1 62 = .ok (.iload_n 1, 1) := by decide +kernel
theorem d_rf_make1_63 : decode b_rf_make1 63 = .ok (.iconst 0, 1) := by decide +kernel
theorem d_rf_make1_64 : decode b_rf_make1 64 = .ok (.bastore, 1) := by decide +kernel
theorem d_rf_make1_65 : decode b_rf_make1 65 = .ok (.aload_n 0, 1) := by decide +kernel
theorem d_rf_make1_66 : decode b_rf_make1 66 = .ok (.getfield 41, 3) := by decide +kernel
theorem d_rf_make1_69 : decode b_rf_make1 69 = .ok (.iload_n 1, 1) := by decide +kernel
theorem d_rf_make1_70 : decode b_rf_make1 70 = .ok (.iconst 0, 1) := by decide +kernel
theorem d_rf_make1_71 : decode b_rf_make1 71 = .ok (.iastore, 1) := by decide +kernel
theorem d_rf_make1_72 : decode b_rf_make1 72 = .ok (.return_, 1) := by decide +kernel
theorem d_rf_define_0 : decode b_rf_define 0 = .ok (.iload_n 1, 1) := by decide +kernel
theorem d_rf_define_1 : decode b_rf_define 1 = .ok (.invokestatic 64, 3) := by decide +kernel
theorem d_rf_define_4 : decode b_rf_define 4 = .ok (.ifCond .ne 42, 3) := by decide +kernel
theorem d_rf_define_7 : decode b_rf_define 7 = .ok (.iload_n 2, 1) := by decide +kernel
theorem d_rf_define_8 : decode b_rf_define 8 = .ok (.invokestatic 64, 3) := by decide +kernel
theorem d_rf_define_11 : decode b_rf_define 11 = .ok (.ifCond .ne 35, 3) := by decide +kernel
theorem d_rf_define_14 : decode b_rf_define 14 = .ok (.aload_n 0, 1) := by decide +kernel
theorem d_rf_define_15 : decode b_rf_define 15 = .ok (.getfield 44, 3) := by decide +kernel
theorem d_rf_define_18 : decode b_rf_define 18 = .ok (.iload_n 2, 1) := by decide +kernel
theorem d_rf_define_19 : decode b_rf_define 19 = .ok (.iaload, 1) := by decide +kernel
theorem d_rf_define_20 : decode b_rf_define 20 = .ok (.ifCond .eq 16, 3) := by decide +kernel
theorem d_rf_define_23 : decode b_rf_define 23 = .ok (.aload_n 0, 1) := by decide +kernel
theorem d_rf_define_24 : decode b_rf_define 24 = .ok (.aload_n 0, 1) := by decide +kernel
theorem d_rf_define_25 : decode b_rf_define 25 = .ok (.getfield 44, 3) := by decide +kernel
theorem d_rf_define_28 : decode b_rf_define 28 = .ok (.iload_n 2, 1) := by decide +kernel
theorem d_rf_define_29 : decode b_rf_define 29 = .ok (.iaload, 1) := by decide +kernel
theorem d_rf_define_30 : decode b_rf_define 30 = .ok (.invokevirtual 67, 3) := by decide +kernel
theorem d_rf_define_33 : decode b_rf_define 33 = .ok (.ifCond .eq 13, 3) := by decide +kernel
theorem d_rf_define_36 : decode b_rf_define 36 = .ok (.iload_n 3, 1) := by decide +kernel
theorem d_rf_define_37 : decode b_rf_define 37 = .ok (.ifCond .lt 9, 3) := by decide +kernel
theorem d_rf_define_40 : decode b_rf_define 40 = .ok (.iload_n 3, 1) := by decide +kernel
theorem d_rf_define_41 : decode b_rf_define 41 = .ok (.bipush 6, 2) := by decide +kernel
theorem d_rf_define_43 : decode b_rf_define 43 = .ok (.if_icmp .le 5, 3) := by decide +kernel
theorem d_rf_define_46 : decode b_rf_define 46 = .ok (.iconst (-1), 1) := by decide +kernel
theorem d_rf_define_47 : decode b_rf_define 47 = .ok (.ireturn, 1) := by decide +kernel
theorem d_rf_define_48 : decode b_rf_define 48 = .ok (.aload_n 0, 1) := by decide +kernel
theorem d_rf_define_49 : decode b_rf_define 49 = .ok (.invokevirtual 70, 3) := by decide +kernel
theorem d_rf_define_52 : decode b_rf_define 52 = .ok (.istore 4, 2) := by decide +kernel
theorem d_rf_define_54 : decode b_rf_define 54 = .ok (.iload 4, 2) := by decide +kernel
theorem d_rf_define_56 : decode b_rf_define 56 = .ok (.ifCond .ge 5, 3) := by decide +kernel
theorem d_rf_define_59 : decode b_rf_define 59 = .ok (.iconst (-1), 1) := by decide +kernel
theorem d_rf_define_60 : decode b_rf_define 60 = .ok (.ireturn, 1) := by decide +kernel
theorem d_rf_define_61 : decode b_rf_define 61 = .ok (.aload_n 0, 1) := by decide +kernel
theorem d_rf_define_62 : decode b_rf_define 62 = .ok (.iload 4, 2) := by decide +kernel
theorem d_rf_define_64 : decode b_rf_define 64 = .ok (.iconst 1, 1) := by decide +kernel
theorem d_rf_define_65 : decode b_rf_define 65 = .ok (.iconst 1, 1) := by decide +kernel
theorem d_rf_define_66 : decode b_rf_define 66 = .ok (.iconst 1, 1) := by decide +kernel
theorem d_rf_define_67 : decode b_rf_define 67 = .ok (.invokevirtual 74, 3) := by decide +kernel
theorem d_rf_define_70 : decode b_rf_define 70 = .ok (.aload_n 0, 1) := by decide +kernel
theorem d_rf_define_71 : decode b_rf_define 71 = .ok (.getfield 23, 3) := by decide +kernel
theorem d_rf_define_74 : decode b_rf_define 74 = .ok (.bipush 15, 2) := by decide +kernel
theorem d_rf_define_76 : decode b_rf_define 76 = .ok (.iload 4, 2) := by decide +kernel
theorem d_rf_define_78 : decode b_rf_define 78 = .ok (.imul, 1) := by decide +kernel
theorem d_rf_define_79 : decode b_rf_define 79 = .ok (.aload_n 0, 1) := by decide +kernel
theorem d_rf_define_80 : decode b_rf_define 80 = .ok (.getfield 44, 3) := by decide +kernel
theorem d_rf_define_83 : decode b_rf_define 83 = .ok (.iload_n 2, 1) := by decide +kernel
theorem d_rf_define_84 : decode b_rf_define 84 = .ok (.iaload, 1) := by decide +kernel
theorem d_rf_define_85 : decode b_rf_define 85 = .ok (.iastore, 1) := by decide +kernel
theorem d_rf_define_86 : decode b_rf_define 86 = .ok (.aload_n 0, 1) := by decide +kernel
theorem d_rf_define_87 : decode b_rf_define 87 = .ok (.getfield 32, 3) := by decide +kernel
theorem d_rf_define_90 : decode b_rf_define 90 = .ok (.iload 4, 2) := by decide +kernel
theorem d_rf_define_92 : decode b_rf_define 92 = .ok (.iload_n 3, 1) := by decide +kernel
theorem d_rf_define_93 : decode b_rf_define 93 = .ok (.iastore, 1) := by decide +kernel
theorem d_rf_define_94 : decode b_rf_define 94 = .ok (.iconst 0, 1) := by decide +kernel
theorem d_rf_define_95 : decode b_rf_define 95 = .ok (.istore 5, 2) := by decide +kernel
theorem d_rf_define_97 : decode b_rf_define 97 = .ok (.iload 5, 2) := by decide +kernel
theorem d_rf_define_99 : decode b_rf_define 99 = .ok (.bipush 8, 2) := by decide +kernel
theorem d_rf_define_101 : decode b_rf_define 101 = .ok (.if_icmp .ge 23, 3) := by decide +kernel
theorem d_rf_define_104 : decode b_rf_define 104 = .ok (.aload_n 0, 1) := by decide +kernel
theorem d_rf_define_105 : decode b_rf_define 105 = .ok (.getfield 35, 3) := by decide +kernel
theorem d_rf_define_108 : decode b_rf_define 108 = .ok (.bipush 8, 2) := by decide +kernel
theorem d_rf_define_110 : decode b_rf_define 110 = .ok (.iload 4, 2) := by decide +kernel
theorem d_rf_define_112 : decode b_rf_define 112 = .ok (.imul, 1) := by decide +kernel
theorem d_rf_define_113 : decode b_rf_define 113 = .ok (.iload 5, 2) := by decide +kernel
theorem d_rf_define_115 : decode b_rf_define 115 = .ok (.iadd, 1) := by decide +kernel
theorem d_rf_define_116 : decode b_rf_define 116 = .ok (.iconst 0, 1) := by decide +kernel
theorem d_rf_define_117 : decode b_rf_define 117 = .ok (.bastore, 1) := by decide +kernel
theorem d_rf_define_118 : decode b_rf_define 118 = .ok (.iinc 5 1, 3) := by decide +kernel
theorem d_rf_define_121 : decode b_rf_define 121 = .ok (.goto (-24), 3) := by decide +kernel
theorem d_rf_define_124 : decode b_rf_define 124 = .ok (.aload_n 0, 1) := by decide +kernel
theorem d_rf_define_125 : decode b_rf_define 125 = .ok (.getfield 44, 3) := by decide +kernel
theorem d_rf_define_128 : decode b_rf_define 128 = .ok (.iload_n 1, 1) := by decide +kernel
theorem d_rf_define_129 : decode b_rf_define 129 = .ok (.iload 4, 2) := by decide +kernel
theorem d_rf_define_131 : decode b_rf_define 131 = .ok (.iastore, 1) := by decide +kernel
theorem d_rf_define_132 : decode b_rf_define 132 = .ok (.aload_n 0, 1) := by decide +kernel
theorem d_rf_define_133 : decode b_rf_define 133 = .ok (.invokevirtual 50, 3) := by decide +kernel
theorem d_rf_define_136 : decode b_rf_define 136 = .ok (.iload 4, 2) := by decide +kernel
theorem d_rf_define_138 : decode b_rf_define 138 = .ok (.ireturn, 1) := by decide +kernel
theorem d_rf_method_0 : decode b_rf_method 0 = .ok (.iload_n 1, 1) := by decide +kernel
theorem d_rf_method_1 : decode b_rf_method 1 = .ok (.invokestatic 64, 3) := by decide +kernel
theorem d_rf_method_4 : decode b_rf_method 4 = .ok (.ifCond .ne 23, 3) := by decide +kernel
theorem d_rf_method_7 : decode b_rf_method 7 = .ok (.iload_n 2, 1) := by decide +kernel
theorem d_rf_method_8 : decode b_rf_method 8 = .ok (.invokestatic 78, 3) := by decide +kernel
theorem d_rf_method_11 : decode b_rf_method 11 = .ok (.ifCond .ne 16, 3) := by decide +kernel
theorem d_rf_method_14 : decode b_rf_method 14 = .ok (.aload_n 0, 1) := by decide +kernel
theorem d_rf_method_15 : decode b_rf_method 15 = .ok (.aload_n 0, 1) := by decide +kernel
theorem d_rf_method_16 : decode b_rf_method 16 = .ok (.getfield 44, 3) := by decide +kernel
theorem d_rf_method_19 : decode b_rf_method 19 = .ok (.iload_n 1, 1) := by decide +kernel
theorem d_rf_method_20 : decode b_rf_method 20 = .ok (.iaload, 1) := by decide +kernel
theorem d_rf_method_21 : decode b_rf_method 21 = .ok (.invokevirtual 67, 3) := by decide +kernel
theorem d_rf_method_24 : decode b_rf_method 24 = .ok (.ifCond .ne 5, 3) := by decide +kernel
theorem d_rf_method_27 : decode b_rf_method 27 = .ok (.iconst 0, 1) := by decide +kernel
theorem d_rf_method_28 : decode b_rf_method 28 = .ok (.ireturn, 1) := by decide +kernel
theorem d_rf_method_29 : decode b_rf_method 29 = .ok (.bipush 8, 2) := by decide +kernel
theorem d_rf_method_31 : decode b_rf_method 31 = .ok (.aload_n 0, 1) := by decide +kernel
theorem d_rf_method_32 : decode b_rf_method 32 = .ok (.getfield 44, 3) := by decide +kernel
theorem d_rf_method_35 : decode b_rf_method 35 = .ok (.iload_n 1, 1) := by decide +kernel
theorem d_rf_method_36 : decode b_rf_method 36 = .ok (.iaload, 1) := by decide +kernel
theorem d_rf_method_37 : decode b_rf_method 37 = .ok (.imul, 1) := by decide +kernel
theorem d_rf_method_38 : decode b_rf_method 38 = .ok (.iload_n 2, 1) := by decide +kernel
theorem d_rf_method_39 : decode b_rf_method 39 = .ok (.iadd, 1) := by decide +kernel
theorem d_rf_method_40 : decode b_rf_method 40 = .ok (.istore 7, 2) := by decide +kernel
theorem d_rf_method_42 : decode b_rf_method 42 = .ok (.aload_n 0, 1) := by decide +kernel
theorem d_rf_method_43 : decode b_rf_method 43 = .ok (.getfield 35, 3) := by decide +kernel
theorem d_rf_method_46 : decode b_rf_method 46 = .ok (.iload 7, 2) := by decide +kernel
theorem d_rf_method_48 : decode b_rf_method 48 = .ok (.iconst 1, 1) := by decide +kernel
theorem d_rf_method_49 : decode b_rf_method 49 = .ok (.bastore, 1) := by decide +kernel
theorem d_rf_method_50 : decode b_rf_method 50 = .ok (.iconst 0, 1) := by decide +kernel
theorem d_rf_method_51 : decode b_rf_method 51 = .ok (.istore 8, 2) := by decide +kernel
theorem d_rf_method_53 : decode b_rf_method 53 = .ok (.iload 8, 2) := by decide +kernel
theorem d_rf_method_55 : decode b_rf_method 55 = .ok (.bipush 8, 2) := by decide +kernel
theorem d_rf_method_57 : decode b_rf_method 57 = .ok (.if_icmp .ge 63, 3) := by decide +kernel
theorem d_rf_method_60 : decode b_rf_method 60 = .ok (.aload_n 0, 1) := by decide +kernel
theorem d_rf_method_61 : decode b_rf_method 61 = .ok (.getfield 38, 3) := by decide +kernel
theorem d_rf_method_64 : decode b_rf_method 64 = .ok (.bipush 16, 2) := by decide +kernel
theorem d_rf_method_66 : decode b_rf_method 66 = .ok (.iload 7, 2) := by decide +kernel
theorem d_rf_method_68 : decode b_rf_method 68 = .ok (.imul, 1) := by decide +kernel
theorem d_rf_method_69 : decode b_rf_method 69 = .ok (.iload 8, 2) := by decide +kernel
theorem d_rf_method_71 : decode b_rf_method 71 = .ok (.iadd, 1) := by decide +kernel
theorem d_rf_method_72 : decode b_rf_method 72 = .ok (.lload_n 3, 1) := by decide +kernel
theorem d_rf_method_73 : decode b_rf_method 73 = .ok (.bipush 8, 2) := by decide +kernel
theorem d_rf_method_75 : decode b_rf_method 75 = .ok (.iload 8, 2) := by decide +kernel
theorem d_rf_method_77 : decode b_rf_method 77 = .ok (.imul, 1) := by decide +kernel
theorem d_rf_method_78 : decode b_rf_method 78 = .ok (.lshr, 1) := by decide +kernel
theorem d_rf_method_79 : decode b_rf_method 79 = .ok (.ldc2_w 81, 3) := by decide +kernel
theorem d_rf_method_82 : decode b_rf_method 82 = .ok (.land, 1) := by decide +kernel
theorem d_rf_method_83 : decode b_rf_method 83 = .ok (.l2i, 1) := by decide +kernel
theorem d_rf_method_84 : decode b_rf_method 84 = .ok (.iastore, 1) := by decide +kernel
theorem d_rf_method_85 : decode b_rf_method 85 = .ok (.aload_n 0, 1) := by decide +kernel
theorem d_rf_method_86 : decode b_rf_method 86 = .ok (.getfield 38, 3) := by decide +kernel
theorem d_rf_method_89 : decode b_rf_method 89 = .ok (.bipush 16, 2) := by decide +kernel
theorem d_rf_method_91 : decode b_rf_method 91 = .ok (.iload 7, 2) := by decide +kernel
theorem d_rf_method_93 : decode b_rf_method 93 = .ok (.imul, 1) := by decide +kernel
theorem d_rf_method_94 : decode b_rf_method 94 = .ok (.bipush 8, 2) := by decide +kernel
theorem d_rf_method_96 : decode b_rf_method 96 = .ok (.iadd, 1) := by decide +kernel
theorem d_rf_method_97 : decode b_rf_method 97 = .ok (.iload 8, 2) := by decide +kernel
theorem d_rf_method_99 : decode b_rf_method 99 = .ok (.iadd, 1) := by decide +kernel
theorem d_rf_method_100 : decode b_rf_method 100 = .ok (.lload 5, 2) := by decide +kernel
theorem d_rf_method_102 : decode b_rf_method 102 = .ok (.bipush 8, 2) := by decide +kernel
theorem d_rf_method_104 : decode b_rf_method 104 = .ok (.iload 8, 2) := by decide +kernel
theorem d_rf_method_106 : decode b_rf_method 106 = .ok (.imul, 1) := by decide +kernel
theorem d_rf_method_107 : decode b_rf_method 107 = .ok (.lshr, 1) := by decide +kernel
theorem d_rf_method_108 : decode b_rf_method 108 = .ok (.ldc2_w 81, 3) := by decide +kernel
theorem d_rf_method_111 : decode b_rf_method 111 = .ok (.land, 1) := by decide +kernel
theorem d_rf_method_112 : decode b_rf_method 112 = .ok (.l2i, 1) := by decide +kernel
theorem d_rf_method_113 : decode b_rf_method 113 = .ok (.iastore, 1) := by decide +kernel
theorem d_rf_method_114 : decode b_rf_method 114 = .ok (.iinc 8 1, 3) := by decide +kernel
theorem d_rf_method_117 : decode b_rf_method 117 = .ok (.goto (-64), 3) := by decide +kernel
theorem d_rf_method_120 : decode b_rf_method 120 = .ok (.aload_n 0, 1) := by decide +kernel
