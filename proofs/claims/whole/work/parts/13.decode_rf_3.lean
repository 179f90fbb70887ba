theorem d_rf_step_100 : decode b_rf_step 100 = .ok (.ireturn, 1) := by decide +kernel
theorem d_rf_run_0 : decode b_rf_run 0 = .ok (.iload_n 1, 1) := by decide +kernel
theorem d_rf_run_1 : decode b_rf_run 1 = .ok (.ifCond .lt 10, 3) := by decide +kernel
theorem d_rf_run_4 : decode b_rf_run 4 = .ok (.iload_n 1, 1) := by decide +kernel
theorem d_rf_run_5 : decode b_rf_run 5 = .ok (.sipush 500, 3) := by decide +kernel
theorem d_rf_run_8 : decode b_rf_run 8 = .ok (.if_icmp .le 5, 3) := by decide +kernel
theorem d_rf_run_11 : decode b_rf_run 11 = .ok (.iconst (-1), 1) := by decide +kernel
theorem d_rf_run_12 : decode b_rf_run 12 = .ok (.ireturn, 1) := by decide +kernel
theorem d_rf_run_13 : decode b_rf_run 13 = .ok (.iconst 0, 1) := by decide +kernel
theorem d_rf_run_14 : decode b_rf_run 14 = .ok (.istore_n 2, 1) := by decide +kernel
theorem d_rf_run_15 : decode b_rf_run 15 = .ok (.iconst 1, 1) := by decide +kernel
theorem d_rf_run_16 : decode b_rf_run 16 = .ok (.istore_n 3, 1) := by decide +kernel
theorem d_rf_run_17 : decode b_rf_run 17 = .ok (.iload_n 2, 1) := by decide +kernel
theorem d_rf_run_18 : decode b_rf_run 18 = .ok (.iload_n 1, 1) := by decide +kernel
theorem d_rf_run_19 : decode b_rf_run 19 = .ok (.if_icmp .ge 41, 3) := by decide +kernel
theorem d_rf_run_22 : decode b_rf_run 22 = .ok (.iload_n 3, 1) := by decide +kernel
theorem d_rf_run_23 : decode b_rf_run 23 = .ok (.ifCond .eq 37, 3) := by decide +kernel
theorem d_rf_run_26 : decode b_rf_run 26 = .ok (.aload_n 0, 1) := by decide +kernel
theorem d_rf_run_27 : decode b_rf_run 27 = .ok (.getfield 57, 3) := by decide +kernel
theorem d_rf_run_30 : decode b_rf_run 30 = .ok (.ifCond .eq 30, 3) := by decide +kernel
theorem d_rf_run_33 : decode b_rf_run 33 = .ok (.aload_n 0, 1) := by decide +kernel
theorem d_rf_run_34 : decode b_rf_run 34 = .ok (.getfield 162, 3) := by decide +kernel
theorem d_rf_run_37 : decode b_rf_run 37 = .ok (.ifCond .ne 23, 3) := by decide +kernel
theorem d_rf_run_40 : decode b_rf_run 40 = .ok (.aload_n 0, 1) := by decide +kernel
theorem d_rf_run_41 : decode b_rf_run 41 = .ok (.invokevirtual 169, 3) := by decide +kernel
theorem d_rf_run_44 : decode b_rf_run 44 = .ok (.istore_n 3, 1) := by decide +kernel
theorem d_rf_run_45 : decode b_rf_run 45 = .ok (.iload_n 3, 1) := by decide +kernel
theorem d_rf_run_46 : decode b_rf_run 46 = .ok (.ifCond .eq 9, 3) := by decide +kernel
theorem d_rf_run_49 : decode b_rf_run 49 = .ok (.iload_n 2, 1) := by decide +kernel
theorem d_rf_run_50 : decode b_rf_run 50 = .ok (.iconst 1, 1) := by decide +kernel
theorem d_rf_run_51 : decode b_rf_run 51 = .ok (.iadd, 1) := by decide +kernel
theorem d_rf_run_52 : decode b_rf_run 52 = .ok (.goto 4, 3) := by decide +kernel
theorem d_rf_run_55 : decode b_rf_run 55 = .ok (.iload_n 2, 1) := by decide +kernel
theorem d_rf_run_56 : decode b_rf_run 56 = .ok (.istore_n 2, 1) := by decide +kernel
theorem d_rf_run_57 : decode b_rf_run 57 = .ok (.goto (-40), 3) := by decide +kernel
theorem d_rf_run_60 : decode b_rf_run 60 = .ok (.iload_n 2, 1) := by decide +kernel
theorem d_rf_run_61 : decode b_rf_run 61 = .ok (.ireturn, 1) := by decide +kernel
theorem d_rf_abort_0 : decode b_rf_abort 0 = .ok (.aload_n 0, 1) := by decide +kernel
theorem d_rf_abort_1 : decode b_rf_abort 1 = .ok (.getfield 57, 3) := by decide +kernel
theorem d_rf_abort_4 : decode b_rf_abort 4 = .ok (.ifCond .ne 5, 3) := by decide +kernel
theorem d_rf_abort_7 : decode b_rf_abort 7 = .ok (.iconst 0, 1) := by decide +kernel
theorem d_rf_abort_8 : decode b_rf_abort 8 = .ok (.ireturn, 1) := by decide +kernel
theorem d_rf_abort_9 : decode b_rf_abort 9 = .ok (.aload_n 0, 1) := by decide +kernel
theorem d_rf_abort_10 : decode b_rf_abort 10 = .ok (.iconst 0, 1) := by decide +kernel
theorem d_rf_abort_11 : decode b_rf_abort 11 = .ok (.putfield 57, 3) := by decide +kernel
theorem d_rf_abort_14 : decode b_rf_abort 14 = .ok (.aload_n 0, 1) := by decide +kernel
theorem d_rf_abort_15 : decode b_rf_abort 15 = .ok (.iconst 0, 1) := by decide +kernel
theorem d_rf_abort_16 : decode b_rf_abort 16 = .ok (.putfield 162, 3) := by decide +kernel
theorem d_rf_abort_19 : decode b_rf_abort 19 = .ok (.aload_n 0, 1) := by decide +kernel
theorem d_rf_abort_20 : decode b_rf_abort 20 = .ok (.invokevirtual 50, 3) := by decide +kernel
theorem d_rf_abort_23 : decode b_rf_abort 23 = .ok (.iconst 1, 1) := by decide +kernel
theorem d_rf_abort_24 : decode b_rf_abort 24 = .ok (.ireturn, 1) := by decide +kernel
theorem d_rf_reach_0 : decode b_rf_reach 0 = .ok (.iload_n 1, 1) := by decide +kernel
theorem d_rf_reach_1 : decode b_rf_reach 1 = .ok (.invokestatic 53, 3) := by decide +kernel
theorem d_rf_reach_4 : decode b_rf_reach 4 = .ok (.ifCond .ne 10, 3) := by decide +kernel
theorem d_rf_reach_7 : decode b_rf_reach 7 = .ok (.aload_n 0, 1) := by decide +kernel
theorem d_rf_reach_8 : decode b_rf_reach 8 = .ok (.getfield 47, 3) := by decide +kernel
theorem d_rf_reach_11 : decode b_rf_reach 11 = .ok (.iload_n 1, 1) := by decide +kernel
theorem d_rf_reach_12 : decode b_rf_reach 12 = .ok (.iconst 1, 1) := by decide +kernel
theorem d_rf_reach_13 : decode b_rf_reach 13 = .ok (.bastore, 1) := by decide +kernel
theorem d_rf_reach_14 : decode b_rf_reach 14 = .ok (.return_, 1) := by decide +kernel
theorem d_rf_sweep_0 : decode b_rf_sweep 0 = .ok (.iconst 0, 1) := by decide +kernel
theorem d_rf_sweep_1 : decode b_rf_sweep 1 = .ok (.istore_n 1, 1) := by decide +kernel
theorem d_rf_sweep_2 : decode b_rf_sweep 2 = .ok (.iload_n 1, 1) := by decide +kernel
theorem d_rf_sweep_3 : decode b_rf_sweep 3 = .ok (.bipush 28, 2) := by decide +kernel
theorem d_rf_sweep_5 : decode b_rf_sweep 5 = .ok (.if_icmp .ge 25, 3) := by decide +kernel
theorem d_rf_sweep_8 : decode b_rf_sweep 8 = .ok (.aload_n 0, 1) := by decide +kernel
theorem d_rf_sweep_9 : decode b_rf_sweep 9 = .ok (.getfield 47, 3) := by decide +kernel
theorem d_rf_sweep_12 : decode b_rf_sweep 12 = .ok (.iload_n 1, 1) := by decide +kernel
theorem d_rf_sweep_13 : decode b_rf_sweep 13 = .ok (.iload_n 1, 1) := by decide +kernel
theorem d_rf_sweep_14 : decode b_rf_sweep 14 = .ok (.iconst 4, 1) := by decide +kernel
theorem d_rf_sweep_15 : decode b_rf_sweep 15 = .ok (.if_icmp .ge 7, 3) := by decide +kernel
theorem d_rf_sweep_18 : decode b_rf_sweep 18 = .ok (.iconst 1, 1) := by decide +kernel
theorem d_rf_sweep_19 : decode b_rf_sweep 19 = .ok (.goto 4, 3) := by decide +kernel
theorem d_rf_sweep_22 : decode b_rf_sweep 22 = .ok (.iconst 0, 1) := by decide +kernel
theorem d_rf_sweep_23 : decode b_rf_sweep 23 = .ok (.bastore, 1) := by decide +kernel
theorem d_rf_sweep_24 : decode b_rf_sweep 24 = .ok (.iinc 1 1, 3) := by decide +kernel
theorem d_rf_sweep_27 : decode b_rf_sweep 27 = .ok (.goto (-25), 3) := by decide +kernel
theorem d_rf_sweep_30 : decode b_rf_sweep 30 = .ok (.iconst 0, 1) := by decide +kernel
theorem d_rf_sweep_31 : decode b_rf_sweep 31 = .ok (.istore_n 1, 1) := by decide +kernel
theorem d_rf_sweep_32 : decode b_rf_sweep 32 = .ok (.iload_n 1, 1) := by decide +kernel
theorem d_rf_sweep_33 : decode b_rf_sweep 33 = .ok (.bipush 6, 2) := by decide +kernel
theorem d_rf_sweep_35 : decode b_rf_sweep 35 = .ok (.if_icmp .ge 19, 3) := by decide +kernel
theorem d_rf_sweep_38 : decode b_rf_sweep 38 = .ok (.aload_n 0, 1) := by decide +kernel
theorem d_rf_sweep_39 : decode b_rf_sweep 39 = .ok (.aload_n 0, 1) := by decide +kernel
theorem d_rf_sweep_40 : decode b_rf_sweep 40 = .ok (.getfield 44, 3) := by decide +kernel
theorem d_rf_sweep_43 : decode b_rf_sweep 43 = .ok (.iload_n 1, 1) := by decide +kernel
theorem d_rf_sweep_44 : decode b_rf_sweep 44 = .ok (.iaload, 1) := by decide +kernel
theorem d_rf_sweep_45 : decode b_rf_sweep 45 = .ok (.invokevirtual 173, 3) := by decide +kernel
theorem d_rf_sweep_48 : decode b_rf_sweep 48 = .ok (.iinc 1 1, 3) := by decide +kernel
theorem d_rf_sweep_51 : decode b_rf_sweep 51 = .ok (.goto (-19), 3) := by decide +kernel
theorem d_rf_sweep_54 : decode b_rf_sweep 54 = .ok (.aload_n 0, 1) := by decide +kernel
theorem d_rf_sweep_55 : decode b_rf_sweep 55 = .ok (.aload_n 0, 1) := by decide +kernel
theorem d_rf_sweep_56 : decode b_rf_sweep 56 = .ok (.getfield 57, 3) := by decide +kernel
theorem d_rf_sweep_59 : decode b_rf_sweep 59 = .ok (.invokevirtual 173, 3) := by decide +kernel
theorem d_rf_sweep_62 : decode b_rf_sweep 62 = .ok (.iconst 0, 1) := by decide +kernel
theorem d_rf_sweep_63 : decode b_rf_sweep 63 = .ok (.istore_n 1, 1) := by decide +kernel
theorem d_rf_sweep_64 : decode b_rf_sweep 64 = .ok (.iload_n 1, 1) := by decide +kernel
theorem d_rf_sweep_65 : decode b_rf_sweep 65 = .ok (.bipush 28, 2) := by decide +kernel
theorem d_rf_sweep_67 : decode b_rf_sweep 67 = .ok (.if_icmp .ge 75, 3) := by decide +kernel
theorem d_rf_sweep_70 : decode b_rf_sweep 70 = .ok (.iconst 0, 1) := by decide +kernel
theorem d_rf_sweep_71 : decode b_rf_sweep 71 = .ok (.istore_n 2, 1) := by decide +kernel
theorem d_rf_sweep_72 : decode b_rf_sweep 72 = .ok (.iload_n 2, 1) := by decide +kernel
theorem d_rf_sweep_73 : decode b_rf_sweep 73 = .ok (.bipush 28, 2) := by decide +kernel
theorem d_rf_sweep_75 : decode b_rf_sweep 75 = .ok (.if_icmp .ge 61, 3) := by decide +kernel
theorem d_rf_sweep_78 : decode b_rf_sweep 78 = .ok (.aload_n 0, 1) := by decide +kernel
theorem d_rf_sweep_79 : decode b_rf_sweep 79 = .ok (.getfield 47, 3) := by decide +kernel
theorem d_rf_sweep_82 : decode b_rf_sweep 82 = .ok (.iload_n 2, 1) := by decide +kernel
theorem d_rf_sweep_83 : decode b_rf_sweep 83 = .ok (.baload, 1) := by decide +kernel
theorem d_rf_sweep_84 : decode b_rf_sweep 84 = .ok (.ifCond .eq 46, 3) := by decide +kernel
theorem d_rf_sweep_87 : decode b_rf_sweep 87 = .ok (.aload_n 0, 1) := by decide +kernel
theorem d_rf_sweep_88 : decode b_rf_sweep 88 = .ok (.aload_n 0, 1) := by decide +kernel
theorem d_rf_sweep_89 : decode b_rf_sweep 89 = .ok (.getfield 17, 3) := by decide +kernel
theorem d_rf_sweep_92 : decode b_rf_sweep 92 = .ok (.iload_n 2, 1) := by decide +kernel
theorem d_rf_sweep_93 : decode b_rf_sweep 93 = .ok (.iaload, 1) := by decide +kernel
theorem d_rf_sweep_94 : decode b_rf_sweep 94 = .ok (.invokevirtual 173, 3) := by decide +kernel
theorem d_rf_sweep_97 : decode b_rf_sweep 97 = .ok (.iconst 0, 1) := by decide +kernel
theorem d_rf_sweep_98 : decode b_rf_sweep 98 = .ok (.istore_n 3, 1) := by decide +kernel
theorem d_rf_sweep_99 : decode b_rf_sweep 99 = .ok (.iload_n 3, 1) := by decide +kernel
theorem d_rf_sweep_100 : decode b_rf_sweep 100 = .ok (.aload_n 0, 1) := by decide +kernel
theorem d_rf_sweep_101 : decode b_rf_sweep 101 = .ok (.getfield 20, 3) := by decide +kernel
theorem d_rf_sweep_104 : decode b_rf_sweep 104 = .ok (.iload_n 2, 1) := by decide +kernel
theorem d_rf_sweep_105 : decode b_rf_sweep 105 = .ok (.iaload, 1) := by decide +kernel
theorem d_rf_sweep_106 : decode b_rf_sweep 106 = .ok (.if_icmp .ge 24, 3) := by decide +kernel
theorem d_rf_sweep_109 : decode b_rf_sweep 109 = .ok (.aload_n 0, 1) := by decide +kernel
theorem d_rf_sweep_110 : decode b_rf_sweep 110 = .ok (.aload_n 0, 1) := by decide +kernel
theorem d_rf_sweep_111 : decode b_rf_sweep 111 = .ok (.getfield 23, 3) := by decide +kernel
theorem d_rf_sweep_114 : decode b_rf_sweep 114 = .ok (.bipush 15, 2) := by decide +kernel
theorem d_rf_sweep_116 : decode b_rf_sweep 116 = .ok (.iload_n 2, 1) := by decide +kernel
theorem d_rf_sweep_117 : decode b_rf_sweep 117 = .ok (.imul, 1) := by decide +kernel
theorem d_rf_sweep_118 : decode b_rf_sweep 118 = .ok (.iload_n 3, 1) := by decide +kernel
theorem d_rf_sweep_119 : decode b_rf_sweep 119 = .ok (.iadd, 1) := by decide +kernel
theorem d_rf_sweep_120 : decode b_rf_sweep 120 = .ok (.iaload, 1) := by decide +kernel
theorem d_rf_sweep_121 : decode b_rf_sweep 121 = .ok (.invokevirtual 173, 3) := by decide +kernel
theorem d_rf_sweep_124 : decode b_rf_sweep 124 = .ok (.iinc 3 1, 3) := by decide +kernel
theorem d_rf_sweep_127 : decode b_rf_sweep 127 = .ok (.goto (-28), 3) := by decide +kernel
theorem d_rf_sweep_130 : decode b_rf_sweep 130 = .ok (.iinc 2 1, 3) := by decide +kernel
theorem d_rf_sweep_133 : decode b_rf_sweep 133 = .ok (.goto (-61), 3) := by decide +kernel
theorem d_rf_sweep_136 : decode b_rf_sweep 136 = .ok (.iinc 1 1, 3) := by decide +kernel
theorem d_rf_sweep_139 : decode b_rf_sweep 139 = .ok (.goto (-75), 3) := by decide +kernel
theorem d_rf_sweep_142 : decode b_rf_sweep 142 = .ok (.iconst 0, 1) := by decide +kernel
theorem d_rf_sweep_143 : decode b_rf_sweep 143 = .ok (.istore_n 1, 1) := by decide +kernel
theorem d_rf_sweep_144 : decode b_rf_sweep 144 = .ok (.iconst 0, 1) := by decide +kernel
theorem d_rf_sweep_145 : decode b_rf_sweep 145 = .ok (.istore_n 2, 1) := by decide +kernel
theorem d_rf_sweep_146 : decode b_rf_sweep 146 = .ok (.iload_n 2, 1) := by decide +kernel
theorem d_rf_sweep_147 : decode b_rf_sweep 147 = .ok (.bipush 28, 2) := by decide +kernel
theorem d_rf_sweep_149 : decode b_rf_sweep 149 = .ok (.if_icmp .ge 71, 3) := by decide +kernel
theorem d_rf_sweep_152 : decode b_rf_sweep 152 = .ok (.aload_n 0, 1) := by decide +kernel
theorem d_rf_sweep_153 : decode b_rf_sweep 153 = .ok (.getfield 7, 3) := by decide +kernel
theorem d_rf_sweep_156 : decode b_rf_sweep 156 = .ok (.iload_n 2, 1) := by decide +kernel
theorem d_rf_sweep_157 : decode b_rf_sweep 157 = .ok (.baload, 1) := by decide +kernel
theorem d_rf_sweep_158 : decode b_rf_sweep 158 = .ok (.ifCond .eq 18, 3) := by decide +kernel
theorem d_rf_sweep_161 : decode b_rf_sweep 161 = .ok (.aload_n 0, 1) := by decide +kernel
theorem d_rf_sweep_162 : decode b_rf_sweep 162 = .ok (.getfield 47, 3) := by decide +kernel
theorem d_rf_sweep_165 : decode b_rf_sweep 165 = .ok (.iload_n 2, 1) := by decide +kernel
theorem d_rf_sweep_166 : decode b_rf_sweep 166 = .ok (.baload, 1) := by decide +kernel
theorem d_rf_sweep_167 : decode b_rf_sweep 167 = .ok (.ifCond .ne 9, 3) := by decide +kernel
theorem d_rf_sweep_170 : decode b_rf_sweep 170 = .ok (.iload_n 1, 1) := by decide +kernel
theorem d_rf_sweep_171 : decode b_rf_sweep 171 = .ok (.iconst 1, 1) := by decide +kernel
theorem d_rf_sweep_172 : decode b_rf_sweep 172 = .ok (.iadd, 1) := by decide +kernel
theorem d_rf_sweep_173 : decode b_rf_sweep 173 = .ok (.goto 4, 3) := by decide +kernel
theorem d_rf_sweep_176 : decode b_rf_sweep 176 = .ok (.iload_n 1, 1) := by decide +kernel
theorem d_rf_sweep_177 : decode b_rf_sweep 177 = .ok (.istore_n 1, 1) := by decide +kernel
theorem d_rf_sweep_178 : decode b_rf_sweep 178 = .ok (.aload_n 0, 1) := by decide +kernel
theorem d_rf_sweep_179 : decode b_rf_sweep 179 = .ok (.getfield 7, 3) := by decide +kernel
theorem d_rf_sweep_182 : decode b_rf_sweep 182 = .ok (.iload_n 2, 1) := by decide +kernel
theorem d_rf_sweep_183 : decode b_rf_sweep 183 = .ok (.aload_n 0, 1) := by decide +kernel
theorem d_rf_sweep_184 : decode b_rf_sweep 184 = .ok (.getfield 7, 3) := by decide +kernel
theorem d_rf_sweep_187 : decode b_rf_sweep 187 = .ok (.iload_n 2, 1) := by decide +kernel
theorem d_rf_sweep_188 : decode b_rf_sweep 188 = .ok (.baload, 1) := by decide +kernel
theorem d_rf_sweep_189 : decode b_rf_sweep 189 = .ok (.ifCond .eq 16, 3) := by decide +kernel
theorem d_rf_sweep_192 : decode b_rf_sweep 192 = .ok (.aload_n 0, 1) := by decide +kernel
theorem d_rf_sweep_193 : decode b_rf_sweep 193 = .ok (.getfield 47, 3) := by decide +kernel
theorem d_rf_sweep_196 : decode b_rf_sweep 196 = .ok (.iload_n 2, 1) := by decide +kernel
theorem d_rf_sweep_197 : decode b_rf_sweep 197 = .ok (.baload, 1) := by decide +kernel
theorem d_rf_sweep_198 : decode b_rf_sweep 198 = .ok (.ifCond .eq 7, 3) := by decide +kernel
theorem d_rf_sweep_201 : decode b_rf_sweep 201 = .ok (.iconst 1, 1) := by decide +kernel
theorem d_rf_sweep_202 : decode b_rf_sweep 202 = .ok (.goto 4, 3) := by decide +kernel
theorem d_rf_sweep_205 : decode b_rf_sweep 205 = .ok (.iconst 0, 1) := by decide +kernel
theorem d_rf_sweep_206 : decode b_rf_sweep 206 = .ok (.bastore, 1) := by decide +kernel
theorem d_rf_sweep_207 : decode b_rf_sweep 207 = .ok (.aload_n 0, 1) := by decide +kernel
theorem d_rf_sweep_208 : decode b_rf_sweep 208 = .ok (.getfield 26, 3) := by decide +kernel
theorem d_rf_sweep_211 : decode b_rf_sweep 211 = .ok (.iload_n 2, 1) := by decide +kernel
theorem d_rf_sweep_212 : decode b_rf_sweep 212 = .ok (.iconst 0, 1) := by decide +kernel
theorem d_rf_sweep_213 : decode b_rf_sweep 213 = .ok (.bastore, 1) := by decide +kernel
theorem d_rf_sweep_214 : decode b_rf_sweep 214 = .ok (.iinc 2 1, 3) := by decide +kernel
theorem d_rf_sweep_217 : decode b_rf_sweep 217 = .ok (.goto (-71), 3) := by decide +kernel
theorem d_rf_sweep_220 : decode b_rf_sweep 220 = .ok (.aload_n 0, 1) := by decide +kernel
theorem d_rf_sweep_221 : decode b_rf_sweep 221 = .ok (.invokevirtual 50, 3) := by decide +kernel
theorem d_rf_sweep_224 : decode b_rf_sweep 224 = .ok (.iload_n 1, 1) := by decide +kernel
theorem d_rf_sweep_225 : decode b_rf_sweep 225 = .ok (.ireturn, 1) := by decide +kernel
theorem d_rf_state_0 : decode b_rf_state 0 = .ok (.aload_n 0, 1) := by decide +kernel
theorem d_rf_state_1 : decode b_rf_state 1 = .ok (.getfield 57, 3) := by decide +kernel
theorem d_rf_state_4 : decode b_rf_state 4 = .ok (.ifCond .ne 7, 3) := by decide +kernel
theorem d_rf_state_7 : decode b_rf_state 7 = .ok (.iconst 0, 1) := by decide +kernel
theorem d_rf_state_8 : decode b_rf_state 8 = .ok (.goto 15, 3) := by decide +kernel
theorem d_rf_state_11 : decode b_rf_state 11 = .ok (.aload_n 0, 1) := by decide +kernel
theorem d_rf_state_12 : decode b_rf_state 12 = .ok (.getfield 162, 3) := by decide +kernel
theorem d_rf_state_15 : decode b_rf_state 15 = .ok (.ifCond .le 7, 3) := by decide +kernel
theorem d_rf_state_18 : decode b_rf_state 18 = .ok (.iconst 2, 1) := by decide +kernel
theorem d_rf_state_19 : decode b_rf_state 19 = .ok (.goto 4, 3) := by decide +kernel
theorem d_rf_state_22 : decode b_rf_state 22 = .ok (.iconst 1, 1) := by decide +kernel
theorem d_rf_state_23 : decode b_rf_state 23 = .ok (.ireturn, 1) := by decide +kernel
theorem d_rf_reason_0 : decode b_rf_reason 0 = .ok (.aload_n 0, 1) := by decide +kernel
theorem d_rf_reason_1 : decode b_rf_reason 1 = .ok (.getfield 162, 3) := by decide +kernel
theorem d_rf_reason_4 : decode b_rf_reason 4 = .ok (.ireturn, 1) := by decide +kernel
theorem d_rf_active_0 : decode b_rf_active 0 = .ok (.aload_n 0, 1) := by decide +kernel
theorem d_rf_active_1 : decode b_rf_active 1 = .ok (.getfield 57, 3) := by decide +kernel
theorem d_rf_active_4 : decode b_rf_active 4 = .ok (.ireturn, 1) := by decide +kernel
theorem d_rf_stack_0 : decode b_rf_stack 0 = .ok (.aload_n 0, 1) := by decide +kernel
theorem d_rf_stack_1 : decode b_rf_stack 1 = .ok (.iload_n 1, 1) := by decide +kernel
theorem d_rf_stack_2 : decode b_rf_stack 2 = .ok (.invokevirtual 176, 3) := by decide +kernel
theorem d_rf_stack_5 : decode b_rf_stack 5 = .ok (.ifCond .ne 13, 3) := by decide +kernel
theorem d_rf_stack_8 : decode b_rf_stack 8 = .ok (.aload_n 0, 1) := by decide +kernel
theorem d_rf_stack_9 : decode b_rf_stack 9 = .ok (.getfield 13, 3) := by decide +kernel
theorem d_rf_stack_12 : decode b_rf_stack 12 = .ok (.iload_n 1, 1) := by decide +kernel
theorem d_rf_stack_13 : decode b_rf_stack 13 = .ok (.iaload, 1) := by decide +kernel
theorem d_rf_stack_14 : decode b_rf_stack 14 = .ok (.iconst 2, 1) := by decide +kernel
theorem d_rf_stack_15 : decode b_rf_stack 15 = .ok (.if_icmp .eq 7, 3) := by decide +kernel
theorem d_rf_stack_18 : decode b_rf_stack 18 = .ok (.iconst (-1), 1) := by decide +kernel
theorem d_rf_stack_19 : decode b_rf_stack 19 = .ok (.goto 9, 3) := by decide +kernel
theorem d_rf_stack_22 : decode b_rf_stack 22 = .ok (.aload_n 0, 1) := by decide +kernel
theorem d_rf_stack_23 : decode b_rf_stack 23 = .ok (.getfield 41, 3) := by decide +kernel
theorem d_rf_stack_26 : decode b_rf_stack 26 = .ok (.iload_n 1, 1) := by decide +kernel
theorem d_rf_stack_27 : decode b_rf_stack 27 = .ok (.iaload, 1) := by decide +kernel
theorem d_rf_stack_28 : decode b_rf_stack 28 = .ok (.ireturn, 1) := by decide +kernel
theorem d_rf_handle_0 : decode b_rf_handle 0 = .ok (.iload_n 1, 1) := by decide +kernel
theorem d_rf_handle_1 : decode b_rf_handle 1 = .ok (.invokestatic 64, 3) := by decide +kernel
theorem d_rf_handle_4 : decode b_rf_handle 4 = .ok (.ifCond .eq 7, 3) := by decide +kernel
theorem d_rf_handle_7 : decode b_rf_handle 7 = .ok (.iconst (-1), 1) := by decide +kernel
theorem d_rf_handle_8 : decode b_rf_handle 8 = .ok (.goto 9, 3) := by decide +kernel
theorem d_rf_handle_11 : decode b_rf_handle 11 = .ok (.aload_n 0, 1) := by decide +kernel
theorem d_rf_handle_12 : decode b_rf_handle 12 = .ok (.getfield 44, 3) := by decide +kernel
theorem d_rf_handle_15 : decode b_rf_handle 15 = .ok (.iload_n 1, 1) := by decide +kernel
theorem d_rf_handle_16 : decode b_rf_handle 16 = .ok (.iaload, 1) := by decide +kernel
theorem d_rf_handle_17 : decode b_rf_handle 17 = .ok (.ireturn, 1) := by decide +kernel
theorem d_rf_field_0 : decode b_rf_field 0 = .ok (.aload_n 0, 1) := by decide +kernel
theorem d_rf_field_1 : decode b_rf_field 1 = .ok (.iload_n 1, 1) := by decide +kernel
theorem d_rf_field_2 : decode b_rf_field 2 = .ok (.invokevirtual 176, 3) := by decide +kernel
theorem d_rf_field_5 : decode b_rf_field 5 = .ok (.ifCond .ne 17, 3) := by decide +kernel
theorem d_rf_field_8 : decode b_rf_field 8 = .ok (.iload_n 2, 1) := by decide +kernel
theorem d_rf_field_9 : decode b_rf_field 9 = .ok (.ifCond .lt 13, 3) := by decide +kernel
theorem d_rf_field_12 : decode b_rf_field 12 = .ok (.iload_n 2, 1) := by decide +kernel
theorem d_rf_field_13 : decode b_rf_field 13 = .ok (.aload_n 0, 1) := by decide +kernel
theorem d_rf_field_14 : decode b_rf_field 14 = .ok (.getfield 20, 3) := by decide +kernel
theorem d_rf_field_17 : decode b_rf_field 17 = .ok (.iload_n 1, 1) := by decide +kernel
theorem d_rf_field_18 : decode b_rf_field 18 = .ok (.iaload, 1) := by decide +kernel
theorem d_rf_field_19 : decode b_rf_field 19 = .ok (.if_icmp .lt 7, 3) := by decide +kernel
theorem d_rf_field_22 : decode b_rf_field 22 = .ok (.iconst (-1), 1) := by decide +kernel
theorem d_rf_field_23 : decode b_rf_field 23 = .ok (.goto 14, 3) := by decide +kernel
theorem d_rf_field_26 : decode b_rf_field 26 = .ok (.aload_n 0, 1) := by decide +kernel
theorem d_rf_field_27 : decode b_rf_field 27 = .ok (.getfield 23, 3) := by decide +kernel
theorem d_rf_field_30 : decode b_rf_field 30 = .ok (.bipush 15, 2) := by decide +kernel
theorem d_rf_field_32 : decode b_rf_field 32 = .ok (.iload_n 1, 1) := by decide +kernel
theorem d_rf_field_33 : decode b_rf_field 33 = .ok (.imul, 1) := by decide +kernel
theorem d_rf_field_34 : decode b_rf_field 34 = .ok (.iload_n 2, 1) := by decide +kernel
theorem d_rf_field_35 : decode b_rf_field 35 = .ok (.iadd, 1) := by decide +kernel
theorem d_rf_field_36 : decode b_rf_field 36 = .ok (.iaload, 1) := by decide +kernel
theorem d_rf_field_37 : decode b_rf_field 37 = .ok (.ireturn, 1) := by decide +kernel
theorem d_rf_classOf_0 : decode b_rf_classOf 0 = .ok (.aload_n 0, 1) := by decide +kernel
theorem d_rf_classOf_1 : decode b_rf_classOf 1 = .ok (.iload_n 1, 1) := by decide +kernel
theorem d_rf_classOf_2 : decode b_rf_classOf 2 = .ok (.invokevirtual 176, 3) := by decide +kernel
theorem d_rf_classOf_5 : decode b_rf_classOf 5 = .ok (.ifCond .eq 7, 3) := by decide +kernel
theorem d_rf_classOf_8 : decode b_rf_classOf 8 = .ok (.iconst (-1), 1) := by decide +kernel
theorem d_rf_classOf_9 : decode b_rf_classOf 9 = .ok (.goto 9, 3) := by decide +kernel
theorem d_rf_classOf_12 : decode b_rf_classOf 12 = .ok (.aload_n 0, 1) := by decide +kernel
theorem d_rf_classOf_13 : decode b_rf_classOf 13 = .ok (.getfield 17, 3) := by decide +kernel
theorem d_rf_classOf_16 : decode b_rf_classOf 16 = .ok (.iload_n 1, 1) := by decide +kernel
theorem d_rf_classOf_17 : decode b_rf_classOf 17 = .ok (.iaload, 1) := by decide +kernel
theorem d_rf_classOf_18 : decode b_rf_classOf 18 = .ok (.ireturn, 1) := by decide +kernel
theorem d_rf_count_0 : decode b_rf_count 0 = .ok (.aload_n 0, 1) := by decide +kernel
theorem d_rf_count_1 : decode b_rf_count 1 = .ok (.iload_n 1, 1) := by decide +kernel
theorem d_rf_count_2 : decode b_rf_count 2 = .ok (.invokevirtual 176, 3) := by decide +kernel
theorem d_rf_count_5 : decode b_rf_count 5 = .ok (.ifCond .eq 5, 3) := by decide +kernel
theorem d_rf_count_8 : decode b_rf_count 8 = .ok (.iconst (-1), 1) := by decide +kernel
theorem d_rf_count_9 : decode b_rf_count 9 = .ok (.ireturn, 1) := by decide +kernel
theorem d_rf_count_10 : decode b_rf_count 10 = .ok (.aload_n 0, 1) := by decide +kernel
theorem d_rf_count_11 : decode b_rf_count 11 = .ok (.invokevirtual 61, 3) := by decide +kernel
theorem d_rf_count_14 : decode b_rf_count 14 = .ok (.aload_n 0, 1) := by decide +kernel
theorem d_rf_count_15 : decode b_rf_count 15 = .ok (.getfield 26, 3) := by decide +kernel
theorem d_rf_count_18 : decode b_rf_count 18 = .ok (.iload_n 1, 1) := by decide +kernel
theorem d_rf_count_19 : decode b_rf_count 19 = .ok (.baload, 1) := by decide +kernel
theorem d_rf_count_20 : decode b_rf_count 20 = .ok (.ifCond .eq 8, 3) := by decide +kernel
theorem d_rf_count_23 : decode b_rf_count 23 = .ok (.bipush 6, 2) := by decide +kernel
theorem d_rf_count_25 : decode b_rf_count 25 = .ok (.goto 9, 3) := by decide +kernel
theorem d_rf_count_28 : decode b_rf_count 28 = .ok (.aload_n 0, 1) := by decide +kernel
theorem d_rf_count_29 : decode b_rf_count 29 = .ok (.getfield 29, 3) := by decide +kernel
theorem d_rf_count_32 : decode b_rf_count 32 = .ok (.iload_n 1, 1) := by decide +kernel
theorem d_rf_count_33 : decode b_rf_count 33 = .ok (.iaload, 1) := by decide +kernel
theorem d_rf_count_34 : decode b_rf_count 34 = .ok (.ireturn, 1) := by decide +kernel
theorem d_rf_alive_0 : decode b_rf_alive 0 = .ok (.iconst 0, 1) := by decide +kernel
theorem d_rf_alive_1 : decode b_rf_alive 1 = .ok (.istore_n 1, 1) := by decide +kernel
theorem d_rf_alive_2 : decode b_rf_alive 2 = .ok (.iconst 0, 1) := by decide +kernel
theorem d_rf_alive_3 : decode b_rf_alive 3 = .ok (.istore_n 2, 1) := by decide +kernel
theorem d_rf_alive_4 : decode b_rf_alive 4 = .ok (.iload_n 2, 1) := by decide +kernel
theorem d_rf_alive_5 : decode b_rf_alive 5 = .ok (.bipush 28, 2) := by decide +kernel
theorem d_rf_alive_7 : decode b_rf_alive 7 = .ok (.if_icmp .ge 26, 3) := by decide +kernel
theorem d_rf_alive_10 : decode b_rf_alive 10 = .ok (.aload_n 0, 1) := by decide +kernel
theorem d_rf_alive_11 : decode b_rf_alive 11 = .ok (.getfield 7, 3) := by decide +kernel
theorem d_rf_alive_14 : decode b_rf_alive 14 = .ok (.iload_n 2, 1) := by decide +kernel
theorem d_rf_alive_15 : decode b_rf_alive 15 = .ok (.baload, 1) := by decide +kernel
theorem d_rf_alive_16 : decode b_rf_alive 16 = .ok (.ifCond .eq 9, 3) := by decide +kernel
theorem d_rf_alive_19 : decode b_rf_alive 19 = .ok (.iload_n 1, 1) := by decide +kernel
theorem d_rf_alive_20 : decode b_rf_alive 20 = .ok (.iconst 1, 1) := by decide +kernel
theorem d_rf_alive_21 : decode b_rf_alive 21 = .ok (.iadd, 1) := by decide +kernel
theorem d_rf_alive_22 : decode b_rf_alive 22 = .ok (.goto 4, 3) := by decide +kernel
theorem d_rf_alive_25 : decode b_rf_alive 25 = .ok (.iload_n 1, 1) := by decide +kernel
theorem d_rf_alive_26 : decode b_rf_alive 26 = .ok (.istore_n 1, 1) := by decide +kernel
theorem d_rf_alive_27 : decode b_rf_alive 27 = .ok (.iinc 2 1, 3) := by decide +kernel
theorem d_rf_alive_30 : decode b_rf_alive 30 = .ok (.goto (-26), 3) := by decide +kernel
theorem d_rf_alive_33 : decode b_rf_alive 33 = .ok (.iload_n 1, 1) := by decide +kernel
theorem d_rf_alive_34 : decode b_rf_alive 34 = .ok (.ireturn, 1) := by decide +kernel
theorem d_rf_lookup_0 : decode b_rf_lookup 0 = .ok (.iload_n 1, 1) := by decide +kernel
theorem d_rf_lookup_1 : decode b_rf_lookup 1 = .ok (.invokestatic 64, 3) := by decide +kernel
theorem d_rf_lookup_4 : decode b_rf_lookup 4 = .ok (.ifCond .ne 10, 3) := by decide +kernel
theorem d_rf_lookup_7 : decode b_rf_lookup 7 = .ok (.iload_n 2, 1) := by decide +kernel
theorem d_rf_lookup_8 : decode b_rf_lookup 8 = .ok (.invokestatic 78, 3) := by decide +kernel
theorem d_rf_lookup_11 : decode b_rf_lookup 11 = .ok (.ifCond .eq 7, 3) := by decide +kernel
theorem d_rf_lookup_14 : decode b_rf_lookup 14 = .ok (.iconst (-1), 1) := by decide +kernel
theorem d_rf_lookup_15 : decode b_rf_lookup 15 = .ok (.goto 18, 3) := by decide +kernel
theorem d_rf_lookup_18 : decode b_rf_lookup 18 = .ok (.aload_n 0, 1) := by decide +kernel
theorem d_rf_lookup_19 : decode b_rf_lookup 19 = .ok (.aload_n 0, 1) := by decide +kernel
theorem d_rf_lookup_20 : decode b_rf_lookup 20 = .ok (.aload_n 0, 1) := by decide +kernel
theorem d_rf_lookup_21 : decode b_rf_lookup 21 = .ok (.getfield 44, 3) := by decide +kernel
theorem d_rf_lookup_24 : decode b_rf_lookup 24 = .ok (.iload_n 1, 1) := by decide +kernel
theorem d_rf_lookup_25 : decode b_rf_lookup 25 = .ok (.iaload, 1) := by decide +kernel
theorem d_rf_lookup_26 : decode b_rf_lookup 26 = .ok (.invokevirtual 90, 3) := by decide +kernel
theorem d_rf_lookup_29 : decode b_rf_lookup 29 = .ok (.iload_n 2, 1) := by decide +kernel
theorem d_rf_lookup_30 : decode b_rf_lookup 30 = .ok (.invokevirtual 94, 3) := by decide +kernel
theorem d_rf_lookup_33 : decode b_rf_lookup 33 = .ok (.ireturn, 1) := by decide +kernel
