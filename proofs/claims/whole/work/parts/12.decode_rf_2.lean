theorem d_rf_workFails_37 : decode b_rf_workFails 37 = .ok (.ireturn, 1) := by decide +kernel
theorem d_rf_workFails_38 : decode b_rf_workFails 38 = .ok (.iload_n 1, 1) := by decide +kernel
theorem d_rf_workFails_39 : decode b_rf_workFails 39 = .ok (.iconst 3, 1) := by decide +kernel
theorem d_rf_workFails_40 : decode b_rf_workFails 40 = .ok (.if_icmp .ne 7, 3) := by decide +kernel
theorem d_rf_workFails_43 : decode b_rf_workFails 43 = .ok (.iconst 0, 1) := by decide +kernel
theorem d_rf_workFails_44 : decode b_rf_workFails 44 = .ok (.goto 26, 3) := by decide +kernel
theorem d_rf_workFails_47 : decode b_rf_workFails 47 = .ok (.aload_n 0, 1) := by decide +kernel
theorem d_rf_workFails_48 : decode b_rf_workFails 48 = .ok (.iload_n 1, 1) := by decide +kernel
theorem d_rf_workFails_49 : decode b_rf_workFails 49 = .ok (.aload_n 0, 1) := by decide +kernel
theorem d_rf_workFails_50 : decode b_rf_workFails 50 = .ok (.iconst 1, 1) := by decide +kernel
theorem d_rf_workFails_51 : decode b_rf_workFails 51 = .ok (.invokevirtual 105, 3) := by decide +kernel
theorem d_rf_workFails_54 : decode b_rf_workFails 54 = .ok (.sipush 1000, 3) := by decide +kernel
theorem d_rf_workFails_57 : decode b_rf_workFails 57 = .ok (.isub, 1) := by decide +kernel
theorem d_rf_workFails_58 : decode b_rf_workFails 58 = .ok (.aload_n 0, 1) := by decide +kernel
theorem d_rf_workFails_59 : decode b_rf_workFails 59 = .ok (.iconst 0, 1) := by decide +kernel
theorem d_rf_workFails_60 : decode b_rf_workFails 60 = .ok (.invokevirtual 105, 3) := by decide +kernel
theorem d_rf_workFails_63 : decode b_rf_workFails 63 = .ok (.sipush 1000, 3) := by decide +kernel
theorem d_rf_workFails_66 : decode b_rf_workFails 66 = .ok (.isub, 1) := by decide +kernel
theorem d_rf_workFails_67 : decode b_rf_workFails 67 = .ok (.invokevirtual 111, 3) := by decide +kernel
theorem d_rf_workFails_70 : decode b_rf_workFails 70 = .ok (.istore_n 2, 1) := by decide +kernel
theorem d_rf_workFails_71 : decode b_rf_workFails 71 = .ok (.iload_n 2, 1) := by decide +kernel
theorem d_rf_workFails_72 : decode b_rf_workFails 72 = .ok (.sipush (-512), 3) := by decide +kernel
theorem d_rf_workFails_75 : decode b_rf_workFails 75 = .ok (.if_icmp .lt 10, 3) := by decide +kernel
theorem d_rf_workFails_78 : decode b_rf_workFails 78 = .ok (.iload_n 2, 1) := by decide +kernel
theorem d_rf_workFails_79 : decode b_rf_workFails 79 = .ok (.sipush 511, 3) := by decide +kernel
theorem d_rf_workFails_82 : decode b_rf_workFails 82 = .ok (.if_icmp .le 7, 3) := by decide +kernel
theorem d_rf_workFails_85 : decode b_rf_workFails 85 = .ok (.iconst 5, 1) := by decide +kernel
theorem d_rf_workFails_86 : decode b_rf_workFails 86 = .ok (.goto 4, 3) := by decide +kernel
theorem d_rf_workFails_89 : decode b_rf_workFails 89 = .ok (.iconst 0, 1) := by decide +kernel
theorem d_rf_workFails_90 : decode b_rf_workFails 90 = .ok (.ireturn, 1) := by decide +kernel
theorem d_rf_fails_0 : decode b_rf_fails 0 = .ok (.aload_n 0, 1) := by decide +kernel
theorem d_rf_fails_1 : decode b_rf_fails 1 = .ok (.getfield 41, 3) := by decide +kernel
theorem d_rf_fails_4 : decode b_rf_fails 4 = .ok (.aload_n 0, 1) := by decide +kernel
theorem d_rf_fails_5 : decode b_rf_fails 5 = .ok (.getfield 57, 3) := by decide +kernel
theorem d_rf_fails_8 : decode b_rf_fails 8 = .ok (.iaload, 1) := by decide +kernel
theorem d_rf_fails_9 : decode b_rf_fails 9 = .ok (.iload_n 1, 1) := by decide +kernel
theorem d_rf_fails_10 : decode b_rf_fails 10 = .ok (.iload_n 2, 1) := by decide +kernel
theorem d_rf_fails_11 : decode b_rf_fails 11 = .ok (.invokestatic 115, 3) := by decide +kernel
theorem d_rf_fails_14 : decode b_rf_fails 14 = .ok (.if_icmp .lt 25, 3) := by decide +kernel
theorem d_rf_fails_17 : decode b_rf_fails 17 = .ok (.iload_n 1, 1) := by decide +kernel
theorem d_rf_fails_18 : decode b_rf_fails 18 = .ok (.iload_n 2, 1) := by decide +kernel
theorem d_rf_fails_19 : decode b_rf_fails 19 = .ok (.invokestatic 118, 3) := by decide +kernel
theorem d_rf_fails_22 : decode b_rf_fails 22 = .ok (.ifCond .eq 19, 3) := by decide +kernel
theorem d_rf_fails_25 : decode b_rf_fails 25 = .ok (.aload_n 0, 1) := by decide +kernel
theorem d_rf_fails_26 : decode b_rf_fails 26 = .ok (.getfield 41, 3) := by decide +kernel
theorem d_rf_fails_29 : decode b_rf_fails 29 = .ok (.aload_n 0, 1) := by decide +kernel
theorem d_rf_fails_30 : decode b_rf_fails 30 = .ok (.getfield 57, 3) := by decide +kernel
theorem d_rf_fails_33 : decode b_rf_fails 33 = .ok (.iaload, 1) := by decide +kernel
theorem d_rf_fails_34 : decode b_rf_fails 34 = .ok (.bipush 6, 2) := by decide +kernel
theorem d_rf_fails_36 : decode b_rf_fails 36 = .ok (.if_icmp .ne 5, 3) := by decide +kernel
theorem d_rf_fails_39 : decode b_rf_fails 39 = .ok (.iconst 1, 1) := by decide +kernel
theorem d_rf_fails_40 : decode b_rf_fails 40 = .ok (.ireturn, 1) := by decide +kernel
theorem d_rf_fails_41 : decode b_rf_fails 41 = .ok (.iload_n 1, 1) := by decide +kernel
theorem d_rf_fails_42 : decode b_rf_fails 42 = .ok (.tableswitch 281 0 13 #[70, 81, 281, 70, 81, 129, 129, 170, 176, 192, 216, 228, 239, 228], 70) := by decide +kernel
theorem d_rf_fails_112 : decode b_rf_fails 112 = .ok (.iload_n 2, 1) := by decide +kernel
theorem d_rf_fails_113 : decode b_rf_fails 113 = .ok (.iconst 3, 1) := by decide +kernel
theorem d_rf_fails_114 : decode b_rf_fails 114 = .ok (.if_icmp .le 7, 3) := by decide +kernel
theorem d_rf_fails_117 : decode b_rf_fails 117 = .ok (.iconst 3, 1) := by decide +kernel
theorem d_rf_fails_118 : decode b_rf_fails 118 = .ok (.goto 4, 3) := by decide +kernel
theorem d_rf_fails_121 : decode b_rf_fails 121 = .ok (.iconst 0, 1) := by decide +kernel
theorem d_rf_fails_122 : decode b_rf_fails 122 = .ok (.ireturn, 1) := by decide +kernel
theorem d_rf_fails_123 : decode b_rf_fails 123 = .ok (.aload_n 0, 1) := by decide +kernel
theorem d_rf_fails_124 : decode b_rf_fails 124 = .ok (.aload_n 0, 1) := by decide +kernel
theorem d_rf_fails_125 : decode b_rf_fails 125 = .ok (.iconst 1, 1) := by decide +kernel
theorem d_rf_fails_126 : decode b_rf_fails 126 = .ok (.invokevirtual 102, 3) := by decide +kernel
theorem d_rf_fails_129 : decode b_rf_fails 129 = .ok (.iload_n 2, 1) := by decide +kernel
theorem d_rf_fails_130 : decode b_rf_fails 130 = .ok (.invokevirtual 87, 3) := by decide +kernel
theorem d_rf_fails_133 : decode b_rf_fails 133 = .ok (.ifCond .eq 32, 3) := by decide +kernel
theorem d_rf_fails_136 : decode b_rf_fails 136 = .ok (.aload_n 0, 1) := by decide +kernel
theorem d_rf_fails_137 : decode b_rf_fails 137 = .ok (.aload_n 0, 1) := by decide +kernel
theorem d_rf_fails_138 : decode b_rf_fails 138 = .ok (.iconst 1, 1) := by decide +kernel
theorem d_rf_fails_139 : decode b_rf_fails 139 = .ok (.invokevirtual 102, 3) := by decide +kernel
theorem d_rf_fails_142 : decode b_rf_fails 142 = .ok (.invokevirtual 121, 3) := by decide +kernel
theorem d_rf_fails_145 : decode b_rf_fails 145 = .ok (.ifCond .ne 20, 3) := by decide +kernel
theorem d_rf_fails_148 : decode b_rf_fails 148 = .ok (.iload_n 1, 1) := by decide +kernel
theorem d_rf_fails_149 : decode b_rf_fails 149 = .ok (.iconst 4, 1) := by decide +kernel
theorem d_rf_fails_150 : decode b_rf_fails 150 = .ok (.if_icmp .ne 19, 3) := by decide +kernel
theorem d_rf_fails_153 : decode b_rf_fails 153 = .ok (.aload_n 0, 1) := by decide +kernel
theorem d_rf_fails_154 : decode b_rf_fails 154 = .ok (.aload_n 0, 1) := by decide +kernel
theorem d_rf_fails_155 : decode b_rf_fails 155 = .ok (.iconst 1, 1) := by decide +kernel
theorem d_rf_fails_156 : decode b_rf_fails 156 = .ok (.invokevirtual 102, 3) := by decide +kernel
theorem d_rf_fails_159 : decode b_rf_fails 159 = .ok (.invokevirtual 67, 3) := by decide +kernel
theorem d_rf_fails_162 : decode b_rf_fails 162 = .ok (.ifCond .eq 7, 3) := by decide +kernel
theorem d_rf_fails_165 : decode b_rf_fails 165 = .ok (.iconst 3, 1) := by decide +kernel
theorem d_rf_fails_166 : decode b_rf_fails 166 = .ok (.goto 4, 3) := by decide +kernel
theorem d_rf_fails_169 : decode b_rf_fails 169 = .ok (.iconst 0, 1) := by decide +kernel
theorem d_rf_fails_170 : decode b_rf_fails 170 = .ok (.ireturn, 1) := by decide +kernel
theorem d_rf_fails_171 : decode b_rf_fails 171 = .ok (.iload_n 2, 1) := by decide +kernel
theorem d_rf_fails_172 : decode b_rf_fails 172 = .ok (.bipush 7, 2) := by decide +kernel
theorem d_rf_fails_174 : decode b_rf_fails 174 = .ok (.if_icmp .le 7, 3) := by decide +kernel
theorem d_rf_fails_177 : decode b_rf_fails 177 = .ok (.iconst 3, 1) := by decide +kernel
theorem d_rf_fails_178 : decode b_rf_fails 178 = .ok (.goto 33, 3) := by decide +kernel
theorem d_rf_fails_181 : decode b_rf_fails 181 = .ok (.aload_n 0, 1) := by decide +kernel
theorem d_rf_fails_182 : decode b_rf_fails 182 = .ok (.aload_n 0, 1) := by decide +kernel
theorem d_rf_fails_183 : decode b_rf_fails 183 = .ok (.iload_n 1, 1) := by decide +kernel
theorem d_rf_fails_184 : decode b_rf_fails 184 = .ok (.iload_n 2, 1) := by decide +kernel
theorem d_rf_fails_185 : decode b_rf_fails 185 = .ok (.invokevirtual 124, 3) := by decide +kernel
theorem d_rf_fails_188 : decode b_rf_fails 188 = .ok (.iload_n 2, 1) := by decide +kernel
theorem d_rf_fails_189 : decode b_rf_fails 189 = .ok (.invokevirtual 94, 3) := by decide +kernel
theorem d_rf_fails_192 : decode b_rf_fails 192 = .ok (.ifCond .ne 7, 3) := by decide +kernel
theorem d_rf_fails_195 : decode b_rf_fails 195 = .ok (.iconst 2, 1) := by decide +kernel
theorem d_rf_fails_196 : decode b_rf_fails 196 = .ok (.goto 15, 3) := by decide +kernel
theorem d_rf_fails_199 : decode b_rf_fails 199 = .ok (.aload_n 0, 1) := by decide +kernel
theorem d_rf_fails_200 : decode b_rf_fails 200 = .ok (.invokevirtual 70, 3) := by decide +kernel
theorem d_rf_fails_203 : decode b_rf_fails 203 = .ok (.ifCond .ge 7, 3) := by decide +kernel
theorem d_rf_fails_206 : decode b_rf_fails 206 = .ok (.iconst 4, 1) := by decide +kernel
theorem d_rf_fails_207 : decode b_rf_fails 207 = .ok (.goto 4, 3) := by decide +kernel
theorem d_rf_fails_210 : decode b_rf_fails 210 = .ok (.iconst 0, 1) := by decide +kernel
theorem d_rf_fails_211 : decode b_rf_fails 211 = .ok (.ireturn, 1) := by decide +kernel
theorem d_rf_fails_212 : decode b_rf_fails 212 = .ok (.aload_n 0, 1) := by decide +kernel
theorem d_rf_fails_213 : decode b_rf_fails 213 = .ok (.iload_n 2, 1) := by decide +kernel
theorem d_rf_fails_214 : decode b_rf_fails 214 = .ok (.invokevirtual 127, 3) := by decide +kernel
theorem d_rf_fails_217 : decode b_rf_fails 217 = .ok (.ireturn, 1) := by decide +kernel
theorem d_rf_fails_218 : decode b_rf_fails 218 = .ok (.iload_n 3, 1) := by decide +kernel
theorem d_rf_fails_219 : decode b_rf_fails 219 = .ok (.iconst 1, 1) := by decide +kernel
theorem d_rf_fails_220 : decode b_rf_fails 220 = .ok (.iadd, 1) := by decide +kernel
theorem d_rf_fails_221 : decode b_rf_fails 221 = .ok (.iload_n 2, 1) := by decide +kernel
theorem d_rf_fails_222 : decode b_rf_fails 222 = .ok (.iadd, 1) := by decide +kernel
theorem d_rf_fails_223 : decode b_rf_fails 223 = .ok (.bipush 16, 2) := by decide +kernel
theorem d_rf_fails_225 : decode b_rf_fails 225 = .ok (.if_icmp .le 7, 3) := by decide +kernel
theorem d_rf_fails_228 : decode b_rf_fails 228 = .ok (.iconst 3, 1) := by decide +kernel
theorem d_rf_fails_229 : decode b_rf_fails 229 = .ok (.goto 4, 3) := by decide +kernel
theorem d_rf_fails_232 : decode b_rf_fails 232 = .ok (.iconst 0, 1) := by decide +kernel
theorem d_rf_fails_233 : decode b_rf_fails 233 = .ok (.ireturn, 1) := by decide +kernel
theorem d_rf_fails_234 : decode b_rf_fails 234 = .ok (.aload_n 0, 1) := by decide +kernel
theorem d_rf_fails_235 : decode b_rf_fails 235 = .ok (.iconst 0, 1) := by decide +kernel
theorem d_rf_fails_236 : decode b_rf_fails 236 = .ok (.invokevirtual 105, 3) := by decide +kernel
theorem d_rf_fails_239 : decode b_rf_fails 239 = .ok (.ifCond .ne 17, 3) := by decide +kernel
theorem d_rf_fails_242 : decode b_rf_fails 242 = .ok (.iload_n 3, 1) := by decide +kernel
theorem d_rf_fails_243 : decode b_rf_fails 243 = .ok (.iconst 1, 1) := by decide +kernel
theorem d_rf_fails_244 : decode b_rf_fails 244 = .ok (.iadd, 1) := by decide +kernel
theorem d_rf_fails_245 : decode b_rf_fails 245 = .ok (.iload_n 2, 1) := by decide +kernel
theorem d_rf_fails_246 : decode b_rf_fails 246 = .ok (.iadd, 1) := by decide +kernel
theorem d_rf_fails_247 : decode b_rf_fails 247 = .ok (.bipush 16, 2) := by decide +kernel
theorem d_rf_fails_249 : decode b_rf_fails 249 = .ok (.if_icmp .le 7, 3) := by decide +kernel
theorem d_rf_fails_252 : decode b_rf_fails 252 = .ok (.iconst 3, 1) := by decide +kernel
theorem d_rf_fails_253 : decode b_rf_fails 253 = .ok (.goto 4, 3) := by decide +kernel
theorem d_rf_fails_256 : decode b_rf_fails 256 = .ok (.iconst 0, 1) := by decide +kernel
theorem d_rf_fails_257 : decode b_rf_fails 257 = .ok (.ireturn, 1) := by decide +kernel
theorem d_rf_fails_258 : decode b_rf_fails 258 = .ok (.iload_n 3, 1) := by decide +kernel
theorem d_rf_fails_259 : decode b_rf_fails 259 = .ok (.iload_n 2, 1) := by decide +kernel
theorem d_rf_fails_260 : decode b_rf_fails 260 = .ok (.isub, 1) := by decide +kernel
theorem d_rf_fails_261 : decode b_rf_fails 261 = .ok (.ifCond .ge 7, 3) := by decide +kernel
theorem d_rf_fails_264 : decode b_rf_fails 264 = .ok (.iconst 3, 1) := by decide +kernel
theorem d_rf_fails_265 : decode b_rf_fails 265 = .ok (.goto 4, 3) := by decide +kernel
theorem d_rf_fails_268 : decode b_rf_fails 268 = .ok (.iconst 0, 1) := by decide +kernel
theorem d_rf_fails_269 : decode b_rf_fails 269 = .ok (.ireturn, 1) := by decide +kernel
theorem d_rf_fails_270 : decode b_rf_fails 270 = .ok (.iload_n 2, 1) := by decide +kernel
theorem d_rf_fails_271 : decode b_rf_fails 271 = .ok (.iconst 1, 1) := by decide +kernel
theorem d_rf_fails_272 : decode b_rf_fails 272 = .ok (.if_icmp .le 7, 3) := by decide +kernel
theorem d_rf_fails_275 : decode b_rf_fails 275 = .ok (.iconst 3, 1) := by decide +kernel
theorem d_rf_fails_276 : decode b_rf_fails 276 = .ok (.goto 4, 3) := by decide +kernel
theorem d_rf_fails_279 : decode b_rf_fails 279 = .ok (.iconst 0, 1) := by decide +kernel
theorem d_rf_fails_280 : decode b_rf_fails 280 = .ok (.ireturn, 1) := by decide +kernel
theorem d_rf_fails_281 : decode b_rf_fails 281 = .ok (.iload_n 2, 1) := by decide +kernel
theorem d_rf_fails_282 : decode b_rf_fails 282 = .ok (.ifCond .gt 24, 3) := by decide +kernel
theorem d_rf_fails_285 : decode b_rf_fails 285 = .ok (.aload_n 0, 1) := by decide +kernel
theorem d_rf_fails_286 : decode b_rf_fails 286 = .ok (.aload_n 0, 1) := by decide +kernel
theorem d_rf_fails_287 : decode b_rf_fails 287 = .ok (.iconst 0, 1) := by decide +kernel
theorem d_rf_fails_288 : decode b_rf_fails 288 = .ok (.invokevirtual 105, 3) := by decide +kernel
theorem d_rf_fails_291 : decode b_rf_fails 291 = .ok (.invokevirtual 67, 3) := by decide +kernel
theorem d_rf_fails_294 : decode b_rf_fails 294 = .ok (.ifCond .eq 12, 3) := by decide +kernel
theorem d_rf_fails_297 : decode b_rf_fails 297 = .ok (.aload_n 0, 1) := by decide +kernel
theorem d_rf_fails_298 : decode b_rf_fails 298 = .ok (.iconst 0, 1) := by decide +kernel
theorem d_rf_fails_299 : decode b_rf_fails 299 = .ok (.invokevirtual 105, 3) := by decide +kernel
theorem d_rf_fails_302 : decode b_rf_fails 302 = .ok (.iconst 3, 1) := by decide +kernel
theorem d_rf_fails_303 : decode b_rf_fails 303 = .ok (.if_icmp .ne 7, 3) := by decide +kernel
theorem d_rf_fails_306 : decode b_rf_fails 306 = .ok (.iconst 3, 1) := by decide +kernel
theorem d_rf_fails_307 : decode b_rf_fails 307 = .ok (.goto 15, 3) := by decide +kernel
theorem d_rf_fails_310 : decode b_rf_fails 310 = .ok (.aload_n 0, 1) := by decide +kernel
theorem d_rf_fails_311 : decode b_rf_fails 311 = .ok (.invokevirtual 70, 3) := by decide +kernel
theorem d_rf_fails_314 : decode b_rf_fails 314 = .ok (.ifCond .ge 7, 3) := by decide +kernel
theorem d_rf_fails_317 : decode b_rf_fails 317 = .ok (.iconst 4, 1) := by decide +kernel
theorem d_rf_fails_318 : decode b_rf_fails 318 = .ok (.goto 4, 3) := by decide +kernel
theorem d_rf_fails_321 : decode b_rf_fails 321 = .ok (.iconst 0, 1) := by decide +kernel
theorem d_rf_fails_322 : decode b_rf_fails 322 = .ok (.ireturn, 1) := by decide +kernel
theorem d_rf_fails_323 : decode b_rf_fails 323 = .ok (.iload_n 1, 1) := by decide +kernel
theorem d_rf_fails_324 : decode b_rf_fails 324 = .ok (.bipush 13, 2) := by decide +kernel
theorem d_rf_fails_326 : decode b_rf_fails 326 = .ok (.if_icmp .le 7, 3) := by decide +kernel
theorem d_rf_fails_329 : decode b_rf_fails 329 = .ok (.iconst 3, 1) := by decide +kernel
theorem d_rf_fails_330 : decode b_rf_fails 330 = .ok (.goto 4, 3) := by decide +kernel
theorem d_rf_fails_333 : decode b_rf_fails 333 = .ok (.iconst 0, 1) := by decide +kernel
theorem d_rf_fails_334 : decode b_rf_fails 334 = .ok (.ireturn, 1) := by decide +kernel
theorem d_rf_constant_0 : decode b_rf_constant 0 = .ok (.iload_n 1, 1) := by decide +kernel
theorem d_rf_constant_1 : decode b_rf_constant 1 = .ok (.ifCond .ne 5, 3) := by decide +kernel
theorem d_rf_constant_4 : decode b_rf_constant 4 = .ok (.iconst 0, 1) := by decide +kernel
theorem d_rf_constant_5 : decode b_rf_constant 5 = .ok (.ireturn, 1) := by decide +kernel
theorem d_rf_constant_6 : decode b_rf_constant 6 = .ok (.iload_n 1, 1) := by decide +kernel
theorem d_rf_constant_7 : decode b_rf_constant 7 = .ok (.bipush 8, 2) := by decide +kernel
theorem d_rf_constant_9 : decode b_rf_constant 9 = .ok (.if_icmp .ge 11, 3) := by decide +kernel
theorem d_rf_constant_12 : decode b_rf_constant 12 = .ok (.sipush 1000, 3) := by decide +kernel
theorem d_rf_constant_15 : decode b_rf_constant 15 = .ok (.iload_n 1, 1) := by decide +kernel
theorem d_rf_constant_16 : decode b_rf_constant 16 = .ok (.iadd, 1) := by decide +kernel
theorem d_rf_constant_17 : decode b_rf_constant 17 = .ok (.iconst 4, 1) := by decide +kernel
theorem d_rf_constant_18 : decode b_rf_constant 18 = .ok (.isub, 1) := by decide +kernel
theorem d_rf_constant_19 : decode b_rf_constant 19 = .ok (.ireturn, 1) := by decide +kernel
theorem d_rf_constant_20 : decode b_rf_constant 20 = .ok (.iload_n 1, 1) := by decide +kernel
theorem d_rf_constant_21 : decode b_rf_constant 21 = .ok (.bipush 8, 2) := by decide +kernel
theorem d_rf_constant_23 : decode b_rf_constant 23 = .ok (.if_icmp .ne 11, 3) := by decide +kernel
theorem d_rf_constant_26 : decode b_rf_constant 26 = .ok (.aload_n 0, 1) := by decide +kernel
theorem d_rf_constant_27 : decode b_rf_constant 27 = .ok (.iconst 1, 1) := by decide +kernel
theorem d_rf_constant_28 : decode b_rf_constant 28 = .ok (.invokevirtual 102, 3) := by decide +kernel
theorem d_rf_constant_31 : decode b_rf_constant 31 = .ok (.goto 30, 3) := by decide +kernel
theorem d_rf_constant_34 : decode b_rf_constant 34 = .ok (.iload_n 1, 1) := by decide +kernel
theorem d_rf_constant_35 : decode b_rf_constant 35 = .ok (.bipush 9, 2) := by decide +kernel
theorem d_rf_constant_37 : decode b_rf_constant 37 = .ok (.if_icmp .ne 15, 3) := by decide +kernel
theorem d_rf_constant_40 : decode b_rf_constant 40 = .ok (.aload_n 0, 1) := by decide +kernel
theorem d_rf_constant_41 : decode b_rf_constant 41 = .ok (.aload_n 0, 1) := by decide +kernel
theorem d_rf_constant_42 : decode b_rf_constant 42 = .ok (.iconst 1, 1) := by decide +kernel
theorem d_rf_constant_43 : decode b_rf_constant 43 = .ok (.invokevirtual 102, 3) := by decide +kernel
theorem d_rf_constant_46 : decode b_rf_constant 46 = .ok (.invokevirtual 90, 3) := by decide +kernel
theorem d_rf_constant_49 : decode b_rf_constant 49 = .ok (.goto 12, 3) := by decide +kernel
theorem d_rf_constant_52 : decode b_rf_constant 52 = .ok (.aload_n 0, 1) := by decide +kernel
theorem d_rf_constant_53 : decode b_rf_constant 53 = .ok (.getfield 44, 3) := by decide +kernel
theorem d_rf_constant_56 : decode b_rf_constant 56 = .ok (.iload_n 1, 1) := by decide +kernel
theorem d_rf_constant_57 : decode b_rf_constant 57 = .ok (.bipush 10, 2) := by decide +kernel
theorem d_rf_constant_59 : decode b_rf_constant 59 = .ok (.isub, 1) := by decide +kernel
theorem d_rf_constant_60 : decode b_rf_constant 60 = .ok (.iaload, 1) := by decide +kernel
theorem d_rf_constant_61 : decode b_rf_constant 61 = .ok (.ireturn, 1) := by decide +kernel
theorem d_rf_work_0 : decode b_rf_work 0 = .ok (.aload_n 0, 1) := by decide +kernel
theorem d_rf_work_1 : decode b_rf_work 1 = .ok (.iconst 0, 1) := by decide +kernel
theorem d_rf_work_2 : decode b_rf_work 2 = .ok (.invokevirtual 105, 3) := by decide +kernel
theorem d_rf_work_5 : decode b_rf_work 5 = .ok (.istore_n 2, 1) := by decide +kernel
theorem d_rf_work_6 : decode b_rf_work 6 = .ok (.aload_n 0, 1) := by decide +kernel
theorem d_rf_work_7 : decode b_rf_work 7 = .ok (.iconst 1, 1) := by decide +kernel
theorem d_rf_work_8 : decode b_rf_work 8 = .ok (.invokevirtual 105, 3) := by decide +kernel
theorem d_rf_work_11 : decode b_rf_work 11 = .ok (.istore_n 3, 1) := by decide +kernel
theorem d_rf_work_12 : decode b_rf_work 12 = .ok (.aload_n 0, 1) := by decide +kernel
theorem d_rf_work_13 : decode b_rf_work 13 = .ok (.invokevirtual 130, 3) := by decide +kernel
theorem d_rf_work_16 : decode b_rf_work 16 = .ok (.aload_n 0, 1) := by decide +kernel
theorem d_rf_work_17 : decode b_rf_work 17 = .ok (.invokevirtual 130, 3) := by decide +kernel
theorem d_rf_work_20 : decode b_rf_work 20 = .ok (.iload_n 1, 1) := by decide +kernel
theorem d_rf_work_21 : decode b_rf_work 21 = .ok (.iconst 3, 1) := by decide +kernel
theorem d_rf_work_22 : decode b_rf_work 22 = .ok (.if_icmp .ne 16, 3) := by decide +kernel
theorem d_rf_work_25 : decode b_rf_work 25 = .ok (.iload_n 3, 1) := by decide +kernel
theorem d_rf_work_26 : decode b_rf_work 26 = .ok (.iload_n 2, 1) := by decide +kernel
theorem d_rf_work_27 : decode b_rf_work 27 = .ok (.if_icmp .ge 7, 3) := by decide +kernel
theorem d_rf_work_30 : decode b_rf_work 30 = .ok (.iconst 1, 1) := by decide +kernel
theorem d_rf_work_31 : decode b_rf_work 31 = .ok (.goto 17, 3) := by decide +kernel
theorem d_rf_work_34 : decode b_rf_work 34 = .ok (.iconst 0, 1) := by decide +kernel
theorem d_rf_work_35 : decode b_rf_work 35 = .ok (.goto 13, 3) := by decide +kernel
theorem d_rf_work_38 : decode b_rf_work 38 = .ok (.iload_n 3, 1) := by decide +kernel
theorem d_rf_work_39 : decode b_rf_work 39 = .ok (.iload_n 2, 1) := by decide +kernel
theorem d_rf_work_40 : decode b_rf_work 40 = .ok (.if_icmp .ne 7, 3) := by decide +kernel
theorem d_rf_work_43 : decode b_rf_work 43 = .ok (.iconst 1, 1) := by decide +kernel
theorem d_rf_work_44 : decode b_rf_work 44 = .ok (.goto 4, 3) := by decide +kernel
theorem d_rf_work_47 : decode b_rf_work 47 = .ok (.iconst 0, 1) := by decide +kernel
theorem d_rf_work_48 : decode b_rf_work 48 = .ok (.istore 4, 2) := by decide +kernel
theorem d_rf_work_50 : decode b_rf_work 50 = .ok (.aload_n 0, 1) := by decide +kernel
theorem d_rf_work_51 : decode b_rf_work 51 = .ok (.iload_n 1, 1) := by decide +kernel
theorem d_rf_work_52 : decode b_rf_work 52 = .ok (.iconst 3, 1) := by decide +kernel
theorem d_rf_work_53 : decode b_rf_work 53 = .ok (.if_icmp .ge 25, 3) := by decide +kernel
theorem d_rf_work_56 : decode b_rf_work 56 = .ok (.sipush 1000, 3) := by decide +kernel
theorem d_rf_work_59 : decode b_rf_work 59 = .ok (.aload_n 0, 1) := by decide +kernel
theorem d_rf_work_60 : decode b_rf_work 60 = .ok (.iload_n 1, 1) := by decide +kernel
theorem d_rf_work_61 : decode b_rf_work 61 = .ok (.iload_n 3, 1) := by decide +kernel
theorem d_rf_work_62 : decode b_rf_work 62 = .ok (.sipush 1000, 3) := by decide +kernel
theorem d_rf_work_65 : decode b_rf_work 65 = .ok (.isub, 1) := by decide +kernel
theorem d_rf_work_66 : decode b_rf_work 66 = .ok (.iload_n 2, 1) := by decide +kernel
theorem d_rf_work_67 : decode b_rf_work 67 = .ok (.sipush 1000, 3) := by decide +kernel
theorem d_rf_work_70 : decode b_rf_work 70 = .ok (.isub, 1) := by decide +kernel
theorem d_rf_work_71 : decode b_rf_work 71 = .ok (.invokevirtual 111, 3) := by decide +kernel
theorem d_rf_work_74 : decode b_rf_work 74 = .ok (.iadd, 1) := by decide +kernel
theorem d_rf_work_75 : decode b_rf_work 75 = .ok (.goto 15, 3) := by decide +kernel
theorem d_rf_work_78 : decode b_rf_work 78 = .ok (.iload 4, 2) := by decide +kernel
theorem d_rf_work_80 : decode b_rf_work 80 = .ok (.ifCond .eq 9, 3) := by decide +kernel
theorem d_rf_work_83 : decode b_rf_work 83 = .ok (.sipush 1001, 3) := by decide +kernel
theorem d_rf_work_86 : decode b_rf_work 86 = .ok (.goto 4, 3) := by decide +kernel
theorem d_rf_work_89 : decode b_rf_work 89 = .ok (.iconst 0, 1) := by decide +kernel
theorem d_rf_work_90 : decode b_rf_work 90 = .ok (.invokevirtual 133, 3) := by decide +kernel
theorem d_rf_work_93 : decode b_rf_work 93 = .ok (.return_, 1) := by decide +kernel
theorem d_rf_sends_0 : decode b_rf_sends 0 = .ok (.aload_n 0, 1) := by decide +kernel
theorem d_rf_sends_1 : decode b_rf_sends 1 = .ok (.aload_n 0, 1) := by decide +kernel
theorem d_rf_sends_2 : decode b_rf_sends 2 = .ok (.iload_n 1, 1) := by decide +kernel
theorem d_rf_sends_3 : decode b_rf_sends 3 = .ok (.iload_n 2, 1) := by decide +kernel
theorem d_rf_sends_4 : decode b_rf_sends 4 = .ok (.invokevirtual 124, 3) := by decide +kernel
theorem d_rf_sends_7 : decode b_rf_sends 7 = .ok (.iload_n 2, 1) := by decide +kernel
theorem d_rf_sends_8 : decode b_rf_sends 8 = .ok (.invokevirtual 94, 3) := by decide +kernel
theorem d_rf_sends_11 : decode b_rf_sends 11 = .ok (.istore_n 3, 1) := by decide +kernel
theorem d_rf_sends_12 : decode b_rf_sends 12 = .ok (.aload_n 0, 1) := by decide +kernel
theorem d_rf_sends_13 : decode b_rf_sends 13 = .ok (.invokevirtual 70, 3) := by decide +kernel
theorem d_rf_sends_16 : decode b_rf_sends 16 = .ok (.istore 4, 2) := by decide +kernel
theorem d_rf_sends_18 : decode b_rf_sends 18 = .ok (.aload_n 0, 1) := by decide +kernel
theorem d_rf_sends_19 : decode b_rf_sends 19 = .ok (.getfield 57, 3) := by decide +kernel
theorem d_rf_sends_22 : decode b_rf_sends 22 = .ok (.istore 5, 2) := by decide +kernel
theorem d_rf_sends_24 : decode b_rf_sends 24 = .ok (.iload_n 2, 1) := by decide +kernel
theorem d_rf_sends_25 : decode b_rf_sends 25 = .ok (.iconst 3, 1) := by decide +kernel
theorem d_rf_sends_26 : decode b_rf_sends 26 = .ok (.irem, 1) := by decide +kernel
theorem d_rf_sends_27 : decode b_rf_sends 27 = .ok (.istore 6, 2) := by decide +kernel
theorem d_rf_sends_29 : decode b_rf_sends 29 = .ok (.aload_n 0, 1) := by decide +kernel
theorem d_rf_sends_30 : decode b_rf_sends 30 = .ok (.iload 6, 2) := by decide +kernel
theorem d_rf_sends_32 : decode b_rf_sends 32 = .ok (.invokevirtual 105, 3) := by decide +kernel
theorem d_rf_sends_35 : decode b_rf_sends 35 = .ok (.istore 7, 2) := by decide +kernel
theorem d_rf_sends_37 : decode b_rf_sends 37 = .ok (.aload_n 0, 1) := by decide +kernel
theorem d_rf_sends_38 : decode b_rf_sends 38 = .ok (.iload 4, 2) := by decide +kernel
theorem d_rf_sends_40 : decode b_rf_sends 40 = .ok (.iload 5, 2) := by decide +kernel
theorem d_rf_sends_42 : decode b_rf_sends 42 = .ok (.iload 7, 2) := by decide +kernel
theorem d_rf_sends_44 : decode b_rf_sends 44 = .ok (.iload_n 3, 1) := by decide +kernel
theorem d_rf_sends_45 : decode b_rf_sends 45 = .ok (.iload_n 2, 1) := by decide +kernel
theorem d_rf_sends_46 : decode b_rf_sends 46 = .ok (.invokevirtual 98, 3) := by decide +kernel
theorem d_rf_sends_49 : decode b_rf_sends 49 = .ok (.iconst 0, 1) := by decide +kernel
theorem d_rf_sends_50 : decode b_rf_sends 50 = .ok (.istore 8, 2) := by decide +kernel
theorem d_rf_sends_52 : decode b_rf_sends 52 = .ok (.iload 8, 2) := by decide +kernel
theorem d_rf_sends_54 : decode b_rf_sends 54 = .ok (.iload 6, 2) := by decide +kernel
theorem d_rf_sends_56 : decode b_rf_sends 56 = .ok (.if_icmp .ge 63, 3) := by decide +kernel
theorem d_rf_sends_59 : decode b_rf_sends 59 = .ok (.bipush 15, 2) := by decide +kernel
theorem d_rf_sends_61 : decode b_rf_sends 61 = .ok (.iload 5, 2) := by decide +kernel
theorem d_rf_sends_63 : decode b_rf_sends 63 = .ok (.imul, 1) := by decide +kernel
theorem d_rf_sends_64 : decode b_rf_sends 64 = .ok (.bipush 9, 2) := by decide +kernel
theorem d_rf_sends_66 : decode b_rf_sends 66 = .ok (.iadd, 1) := by decide +kernel
theorem d_rf_sends_67 : decode b_rf_sends 67 = .ok (.aload_n 0, 1) := by decide +kernel
theorem d_rf_sends_68 : decode b_rf_sends 68 = .ok (.getfield 41, 3) := by decide +kernel
theorem d_rf_sends_71 : decode b_rf_sends 71 = .ok (.iload 5, 2) := by decide +kernel
theorem d_rf_sends_73 : decode b_rf_sends 73 = .ok (.iaload, 1) := by decide +kernel
theorem d_rf_sends_74 : decode b_rf_sends 74 = .ok (.iadd, 1) := by decide +kernel
theorem d_rf_sends_75 : decode b_rf_sends 75 = .ok (.iload 6, 2) := by decide +kernel
theorem d_rf_sends_77 : decode b_rf_sends 77 = .ok (.isub, 1) := by decide +kernel
theorem d_rf_sends_78 : decode b_rf_sends 78 = .ok (.iload 8, 2) := by decide +kernel
theorem d_rf_sends_80 : decode b_rf_sends 80 = .ok (.iadd, 1) := by decide +kernel
theorem d_rf_sends_81 : decode b_rf_sends 81 = .ok (.istore 9, 2) := by decide +kernel
theorem d_rf_sends_83 : decode b_rf_sends 83 = .ok (.aload_n 0, 1) := by decide +kernel
theorem d_rf_sends_84 : decode b_rf_sends 84 = .ok (.getfield 23, 3) := by decide +kernel
theorem d_rf_sends_87 : decode b_rf_sends 87 = .ok (.bipush 15, 2) := by decide +kernel
theorem d_rf_sends_89 : decode b_rf_sends 89 = .ok (.iload 4, 2) := by decide +kernel
theorem d_rf_sends_91 : decode b_rf_sends 91 = .ok (.imul, 1) := by decide +kernel
theorem d_rf_sends_92 : decode b_rf_sends 92 = .ok (.iconst 5, 1) := by decide +kernel
theorem d_rf_sends_93 : decode b_rf_sends 93 = .ok (.iadd, 1) := by decide +kernel
theorem d_rf_sends_94 : decode b_rf_sends 94 = .ok (.iload 8, 2) := by decide +kernel
theorem d_rf_sends_96 : decode b_rf_sends 96 = .ok (.iadd, 1) := by decide +kernel
theorem d_rf_sends_97 : decode b_rf_sends 97 = .ok (.aload_n 0, 1) := by decide +kernel
theorem d_rf_sends_98 : decode b_rf_sends 98 = .ok (.getfield 23, 3) := by decide +kernel
theorem d_rf_sends_101 : decode b_rf_sends 101 = .ok (.iload 9, 2) := by decide +kernel
theorem d_rf_sends_103 : decode b_rf_sends 103 = .ok (.iaload, 1) := by decide +kernel
theorem d_rf_sends_104 : decode b_rf_sends 104 = .ok (.iastore, 1) := by decide +kernel
theorem d_rf_sends_105 : decode b_rf_sends 105 = .ok (.aload_n 0, 1) := by decide +kernel
theorem d_rf_sends_106 : decode b_rf_sends 106 = .ok (.getfield 23, 3) := by decide +kernel
theorem d_rf_sends_109 : decode b_rf_sends 109 = .ok (.iload 9, 2) := by decide +kernel
theorem d_rf_sends_111 : decode b_rf_sends 111 = .ok (.iconst 0, 1) := by decide +kernel
theorem d_rf_sends_112 : decode b_rf_sends 112 = .ok (.iastore, 1) := by decide +kernel
theorem d_rf_sends_113 : decode b_rf_sends 113 = .ok (.iinc 8 1, 3) := by decide +kernel
theorem d_rf_sends_116 : decode b_rf_sends 116 = .ok (.goto (-64), 3) := by decide +kernel
theorem d_rf_sends_119 : decode b_rf_sends 119 = .ok (.aload_n 0, 1) := by decide +kernel
theorem d_rf_sends_120 : decode b_rf_sends 120 = .ok (.getfield 41, 3) := by decide +kernel
theorem d_rf_sends_123 : decode b_rf_sends 123 = .ok (.iload 5, 2) := by decide +kernel
theorem d_rf_sends_125 : decode b_rf_sends 125 = .ok (.dup2, 1) := by decide +kernel
theorem d_rf_sends_126 : decode b_rf_sends 126 = .ok (.iaload, 1) := by decide +kernel
theorem d_rf_sends_127 : decode b_rf_sends 127 = .ok (.iload 6, 2) := by decide +kernel
theorem d_rf_sends_129 : decode b_rf_sends 129 = .ok (.iconst 1, 1) := by decide +kernel
theorem d_rf_sends_130 : decode b_rf_sends 130 = .ok (.iadd, 1) := by decide +kernel
theorem d_rf_sends_131 : decode b_rf_sends 131 = .ok (.isub, 1) := by decide +kernel
theorem d_rf_sends_132 : decode b_rf_sends 132 = .ok (.iastore, 1) := by decide +kernel
theorem d_rf_sends_133 : decode b_rf_sends 133 = .ok (.aload_n 0, 1) := by decide +kernel
theorem d_rf_sends_134 : decode b_rf_sends 134 = .ok (.getfield 23, 3) := by decide +kernel
theorem d_rf_sends_137 : decode b_rf_sends 137 = .ok (.bipush 15, 2) := by decide +kernel
theorem d_rf_sends_139 : decode b_rf_sends 139 = .ok (.iload 5, 2) := by decide +kernel
theorem d_rf_sends_141 : decode b_rf_sends 141 = .ok (.imul, 1) := by decide +kernel
theorem d_rf_sends_142 : decode b_rf_sends 142 = .ok (.bipush 9, 2) := by decide +kernel
theorem d_rf_sends_144 : decode b_rf_sends 144 = .ok (.iadd, 1) := by decide +kernel
theorem d_rf_sends_145 : decode b_rf_sends 145 = .ok (.aload_n 0, 1) := by decide +kernel
theorem d_rf_sends_146 : decode b_rf_sends 146 = .ok (.getfield 41, 3) := by decide +kernel
theorem d_rf_sends_149 : decode b_rf_sends 149 = .ok (.iload 5, 2) := by decide +kernel
theorem d_rf_sends_151 : decode b_rf_sends 151 = .ok (.iaload, 1) := by decide +kernel
theorem d_rf_sends_152 : decode b_rf_sends 152 = .ok (.iadd, 1) := by decide +kernel
theorem d_rf_sends_153 : decode b_rf_sends 153 = .ok (.iconst 0, 1) := by decide +kernel
theorem d_rf_sends_154 : decode b_rf_sends 154 = .ok (.iastore, 1) := by decide +kernel
theorem d_rf_sends_155 : decode b_rf_sends 155 = .ok (.return_, 1) := by decide +kernel
theorem d_rf_returns_0 : decode b_rf_returns 0 = .ok (.aload_n 0, 1) := by decide +kernel
theorem d_rf_returns_1 : decode b_rf_returns 1 = .ok (.iconst 0, 1) := by decide +kernel
theorem d_rf_returns_2 : decode b_rf_returns 2 = .ok (.invokevirtual 102, 3) := by decide +kernel
theorem d_rf_returns_5 : decode b_rf_returns 5 = .ok (.istore_n 2, 1) := by decide +kernel
theorem d_rf_returns_6 : decode b_rf_returns 6 = .ok (.aload_n 0, 1) := by decide +kernel
theorem d_rf_returns_7 : decode b_rf_returns 7 = .ok (.iload_n 2, 1) := by decide +kernel
theorem d_rf_returns_8 : decode b_rf_returns 8 = .ok (.putfield 57, 3) := by decide +kernel
theorem d_rf_returns_11 : decode b_rf_returns 11 = .ok (.iload_n 2, 1) := by decide +kernel
theorem d_rf_returns_12 : decode b_rf_returns 12 = .ok (.ifCond .ne 13, 3) := by decide +kernel
theorem d_rf_returns_15 : decode b_rf_returns 15 = .ok (.aload_n 0, 1) := by decide +kernel
theorem d_rf_returns_16 : decode b_rf_returns 16 = .ok (.getfield 44, 3) := by decide +kernel
theorem d_rf_returns_19 : decode b_rf_returns 19 = .ok (.iconst 0, 1) := by decide +kernel
theorem d_rf_returns_20 : decode b_rf_returns 20 = .ok (.iload_n 1, 1) := by decide +kernel
theorem d_rf_returns_21 : decode b_rf_returns 21 = .ok (.iastore, 1) := by decide +kernel
theorem d_rf_returns_22 : decode b_rf_returns 22 = .ok (.goto 8, 3) := by decide +kernel
theorem d_rf_returns_25 : decode b_rf_returns 25 = .ok (.aload_n 0, 1) := by decide +kernel
theorem d_rf_returns_26 : decode b_rf_returns 26 = .ok (.iload_n 1, 1) := by decide +kernel
theorem d_rf_returns_27 : decode b_rf_returns 27 = .ok (.invokevirtual 133, 3) := by decide +kernel
theorem d_rf_returns_30 : decode b_rf_returns 30 = .ok (.return_, 1) := by decide +kernel
theorem d_rf_create_0 : decode b_rf_create 0 = .ok (.aload_n 0, 1) := by decide +kernel
theorem d_rf_create_1 : decode b_rf_create 1 = .ok (.iconst 0, 1) := by decide +kernel
theorem d_rf_create_2 : decode b_rf_create 2 = .ok (.invokevirtual 105, 3) := by decide +kernel
theorem d_rf_create_5 : decode b_rf_create 5 = .ok (.istore_n 1, 1) := by decide +kernel
theorem d_rf_create_6 : decode b_rf_create 6 = .ok (.aload_n 0, 1) := by decide +kernel
theorem d_rf_create_7 : decode b_rf_create 7 = .ok (.invokevirtual 70, 3) := by decide +kernel
theorem d_rf_create_10 : decode b_rf_create 10 = .ok (.istore_n 2, 1) := by decide +kernel
theorem d_rf_create_11 : decode b_rf_create 11 = .ok (.aload_n 0, 1) := by decide +kernel
theorem d_rf_create_12 : decode b_rf_create 12 = .ok (.invokevirtual 130, 3) := by decide +kernel
theorem d_rf_create_15 : decode b_rf_create 15 = .ok (.aload_n 0, 1) := by decide +kernel
theorem d_rf_create_16 : decode b_rf_create 16 = .ok (.iload_n 2, 1) := by decide +kernel
theorem d_rf_create_17 : decode b_rf_create 17 = .ok (.iconst 0, 1) := by decide +kernel
theorem d_rf_create_18 : decode b_rf_create 18 = .ok (.iload_n 1, 1) := by decide +kernel
theorem d_rf_create_19 : decode b_rf_create 19 = .ok (.aload_n 0, 1) := by decide +kernel
theorem d_rf_create_20 : decode b_rf_create 20 = .ok (.getfield 32, 3) := by decide +kernel
theorem d_rf_create_23 : decode b_rf_create 23 = .ok (.iload_n 1, 1) := by decide +kernel
theorem d_rf_create_24 : decode b_rf_create 24 = .ok (.iaload, 1) := by decide +kernel
theorem d_rf_create_25 : decode b_rf_create 25 = .ok (.invokevirtual 74, 3) := by decide +kernel
theorem d_rf_create_28 : decode b_rf_create 28 = .ok (.aload_n 0, 1) := by decide +kernel
theorem d_rf_create_29 : decode b_rf_create 29 = .ok (.iload_n 2, 1) := by decide +kernel
theorem d_rf_create_30 : decode b_rf_create 30 = .ok (.invokevirtual 133, 3) := by decide +kernel
theorem d_rf_create_33 : decode b_rf_create 33 = .ok (.return_, 1) := by decide +kernel
theorem d_rf_into_0 : decode b_rf_into 0 = .ok (.aload_n 0, 1) := by decide +kernel
theorem d_rf_into_1 : decode b_rf_into 1 = .ok (.iconst 0, 1) := by decide +kernel
theorem d_rf_into_2 : decode b_rf_into 2 = .ok (.invokevirtual 105, 3) := by decide +kernel
theorem d_rf_into_5 : decode b_rf_into 5 = .ok (.istore_n 2, 1) := by decide +kernel
theorem d_rf_into_6 : decode b_rf_into 6 = .ok (.aload_n 0, 1) := by decide +kernel
theorem d_rf_into_7 : decode b_rf_into 7 = .ok (.invokevirtual 130, 3) := by decide +kernel
theorem d_rf_into_10 : decode b_rf_into 10 = .ok (.aload_n 0, 1) := by decide +kernel
theorem d_rf_into_11 : decode b_rf_into 11 = .ok (.getfield 23, 3) := by decide +kernel
theorem d_rf_into_14 : decode b_rf_into 14 = .ok (.iload_n 1, 1) := by decide +kernel
theorem d_rf_into_15 : decode b_rf_into 15 = .ok (.iload_n 2, 1) := by decide +kernel
theorem d_rf_into_16 : decode b_rf_into 16 = .ok (.iastore, 1) := by decide +kernel
theorem d_rf_into_17 : decode b_rf_into 17 = .ok (.return_, 1) := by decide +kernel
theorem d_rf_perform_0 : decode b_rf_perform 0 = .ok (.aload_n 0, 1) := by decide +kernel
theorem d_rf_perform_1 : decode b_rf_perform 1 = .ok (.iload_n 3, 1) := by decide +kernel
theorem d_rf_perform_2 : decode b_rf_perform 2 = .ok (.iconst 1, 1) := by decide +kernel
theorem d_rf_perform_3 : decode b_rf_perform 3 = .ok (.iadd, 1) := by decide +kernel
theorem d_rf_perform_4 : decode b_rf_perform 4 = .ok (.invokevirtual 137, 3) := by decide +kernel
theorem d_rf_perform_7 : decode b_rf_perform 7 = .ok (.iload_n 1, 1) := by decide +kernel
theorem d_rf_perform_8 : decode b_rf_perform 8 = .ok (.tableswitch 245 0 12 #[68, 82, 104, 116, 134, 151, 151, 160, 168, 180, 204, 214, 238], 68) := by decide +kernel
theorem d_rf_perform_76 : decode b_rf_perform 76 = .ok (.aload_n 0, 1) := by decide +kernel
theorem d_rf_perform_77 : decode b_rf_perform 77 = .ok (.aload_n 0, 1) := by decide +kernel
theorem d_rf_perform_78 : decode b_rf_perform 78 = .ok (.iconst 5, 1) := by decide +kernel
theorem d_rf_perform_79 : decode b_rf_perform 79 = .ok (.iload_n 2, 1) := by decide +kernel
theorem d_rf_perform_80 : decode b_rf_perform 80 = .ok (.iadd, 1) := by decide +kernel
theorem d_rf_perform_81 : decode b_rf_perform 81 = .ok (.invokevirtual 102, 3) := by decide +kernel
theorem d_rf_perform_84 : decode b_rf_perform 84 = .ok (.invokevirtual 133, 3) := by decide +kernel
theorem d_rf_perform_87 : decode b_rf_perform 87 = .ok (.goto 186, 3) := by decide +kernel
theorem d_rf_perform_90 : decode b_rf_perform 90 = .ok (.aload_n 0, 1) := by decide +kernel
theorem d_rf_perform_91 : decode b_rf_perform 91 = .ok (.aload_n 0, 1) := by decide +kernel
theorem d_rf_perform_92 : decode b_rf_perform 92 = .ok (.getfield 23, 3) := by decide +kernel
theorem d_rf_perform_95 : decode b_rf_perform 95 = .ok (.bipush 15, 2) := by decide +kernel
theorem d_rf_perform_97 : decode b_rf_perform 97 = .ok (.aload_n 0, 1) := by decide +kernel
theorem d_rf_perform_98 : decode b_rf_perform 98 = .ok (.iconst 1, 1) := by decide +kernel
theorem d_rf_perform_99 : decode b_rf_perform 99 = .ok (.invokevirtual 102, 3) := by decide +kernel
theorem d_rf_perform_102 : decode b_rf_perform 102 = .ok (.imul, 1) := by decide +kernel
theorem d_rf_perform_103 : decode b_rf_perform 103 = .ok (.iload_n 2, 1) := by decide +kernel
theorem d_rf_perform_104 : decode b_rf_perform 104 = .ok (.iadd, 1) := by decide +kernel
theorem d_rf_perform_105 : decode b_rf_perform 105 = .ok (.iaload, 1) := by decide +kernel
theorem d_rf_perform_106 : decode b_rf_perform 106 = .ok (.invokevirtual 133, 3) := by decide +kernel
theorem d_rf_perform_109 : decode b_rf_perform 109 = .ok (.goto 164, 3) := by decide +kernel
theorem d_rf_perform_112 : decode b_rf_perform 112 = .ok (.aload_n 0, 1) := by decide +kernel
theorem d_rf_perform_113 : decode b_rf_perform 113 = .ok (.aload_n 0, 1) := by decide +kernel
theorem d_rf_perform_114 : decode b_rf_perform 114 = .ok (.iload_n 2, 1) := by decide +kernel
theorem d_rf_perform_115 : decode b_rf_perform 115 = .ok (.invokevirtual 140, 3) := by decide +kernel
theorem d_rf_perform_118 : decode b_rf_perform 118 = .ok (.invokevirtual 133, 3) := by decide +kernel
theorem d_rf_perform_121 : decode b_rf_perform 121 = .ok (.goto 152, 3) := by decide +kernel
theorem d_rf_perform_124 : decode b_rf_perform 124 = .ok (.aload_n 0, 1) := by decide +kernel
theorem d_rf_perform_125 : decode b_rf_perform 125 = .ok (.bipush 15, 2) := by decide +kernel
theorem d_rf_perform_127 : decode b_rf_perform 127 = .ok (.aload_n 0, 1) := by decide +kernel
theorem d_rf_perform_128 : decode b_rf_perform 128 = .ok (.getfield 57, 3) := by decide +kernel
theorem d_rf_perform_131 : decode b_rf_perform 131 = .ok (.imul, 1) := by decide +kernel
theorem d_rf_perform_132 : decode b_rf_perform 132 = .ok (.iconst 5, 1) := by decide +kernel
theorem d_rf_perform_133 : decode b_rf_perform 133 = .ok (.iadd, 1) := by decide +kernel
theorem d_rf_perform_134 : decode b_rf_perform 134 = .ok (.iload_n 2, 1) := by decide +kernel
theorem d_rf_perform_135 : decode b_rf_perform 135 = .ok (.iadd, 1) := by decide +kernel
theorem d_rf_perform_136 : decode b_rf_perform 136 = .ok (.invokevirtual 143, 3) := by decide +kernel
theorem d_rf_perform_139 : decode b_rf_perform 139 = .ok (.goto 134, 3) := by decide +kernel
theorem d_rf_perform_142 : decode b_rf_perform 142 = .ok (.aload_n 0, 1) := by decide +kernel
theorem d_rf_perform_143 : decode b_rf_perform 143 = .ok (.bipush 15, 2) := by decide +kernel
theorem d_rf_perform_145 : decode b_rf_perform 145 = .ok (.aload_n 0, 1) := by decide +kernel
theorem d_rf_perform_146 : decode b_rf_perform 146 = .ok (.iconst 1, 1) := by decide +kernel
theorem d_rf_perform_147 : decode b_rf_perform 147 = .ok (.invokevirtual 102, 3) := by decide +kernel
theorem d_rf_perform_150 : decode b_rf_perform 150 = .ok (.imul, 1) := by decide +kernel
theorem d_rf_perform_151 : decode b_rf_perform 151 = .ok (.iload_n 2, 1) := by decide +kernel
theorem d_rf_perform_152 : decode b_rf_perform 152 = .ok (.iadd, 1) := by decide +kernel
theorem d_rf_perform_153 : decode b_rf_perform 153 = .ok (.invokevirtual 143, 3) := by decide +kernel
theorem d_rf_perform_156 : decode b_rf_perform 156 = .ok (.goto 117, 3) := by decide +kernel
theorem d_rf_perform_159 : decode b_rf_perform 159 = .ok (.aload_n 0, 1) := by decide +kernel
theorem d_rf_perform_160 : decode b_rf_perform 160 = .ok (.iload_n 1, 1) := by decide +kernel
theorem d_rf_perform_161 : decode b_rf_perform 161 = .ok (.iload_n 2, 1) := by decide +kernel
theorem d_rf_perform_162 : decode b_rf_perform 162 = .ok (.invokevirtual 146, 3) := by decide +kernel
theorem d_rf_perform_165 : decode b_rf_perform 165 = .ok (.goto 108, 3) := by decide +kernel
theorem d_rf_perform_168 : decode b_rf_perform 168 = .ok (.aload_n 0, 1) := by decide +kernel
theorem d_rf_perform_169 : decode b_rf_perform 169 = .ok (.iload_n 2, 1) := by decide +kernel
theorem d_rf_perform_170 : decode b_rf_perform 170 = .ok (.invokevirtual 150, 3) := by decide +kernel
theorem d_rf_perform_173 : decode b_rf_perform 173 = .ok (.goto 100, 3) := by decide +kernel
theorem d_rf_perform_176 : decode b_rf_perform 176 = .ok (.aload_n 0, 1) := by decide +kernel
theorem d_rf_perform_177 : decode b_rf_perform 177 = .ok (.iload_n 3, 1) := by decide +kernel
theorem d_rf_perform_178 : decode b_rf_perform 178 = .ok (.iconst 1, 1) := by decide +kernel
theorem d_rf_perform_179 : decode b_rf_perform 179 = .ok (.iadd, 1) := by decide +kernel
theorem d_rf_perform_180 : decode b_rf_perform 180 = .ok (.iload_n 2, 1) := by decide +kernel
theorem d_rf_perform_181 : decode b_rf_perform 181 = .ok (.iadd, 1) := by decide +kernel
theorem d_rf_perform_182 : decode b_rf_perform 182 = .ok (.invokevirtual 137, 3) := by decide +kernel
theorem d_rf_perform_185 : decode b_rf_perform 185 = .ok (.goto 88, 3) := by decide +kernel
theorem d_rf_perform_188 : decode b_rf_perform 188 = .ok (.aload_n 0, 1) := by decide +kernel
theorem d_rf_perform_189 : decode b_rf_perform 189 = .ok (.iconst 0, 1) := by decide +kernel
theorem d_rf_perform_190 : decode b_rf_perform 190 = .ok (.invokevirtual 105, 3) := by decide +kernel
theorem d_rf_perform_193 : decode b_rf_perform 193 = .ok (.ifCond .ne 12, 3) := by decide +kernel
theorem d_rf_perform_196 : decode b_rf_perform 196 = .ok (.aload_n 0, 1) := by decide +kernel
theorem d_rf_perform_197 : decode b_rf_perform 197 = .ok (.iload_n 3, 1) := by decide +kernel
theorem d_rf_perform_198 : decode b_rf_perform 198 = .ok (.iconst 1, 1) := by decide +kernel
theorem d_rf_perform_199 : decode b_rf_perform 199 = .ok (.iadd, 1) := by decide +kernel
theorem d_rf_perform_200 : decode b_rf_perform 200 = .ok (.iload_n 2, 1) := by decide +kernel
theorem d_rf_perform_201 : decode b_rf_perform 201 = .ok (.iadd, 1) := by decide +kernel
theorem d_rf_perform_202 : decode b_rf_perform 202 = .ok (.invokevirtual 137, 3) := by decide +kernel
theorem d_rf_perform_205 : decode b_rf_perform 205 = .ok (.aload_n 0, 1) := by decide +kernel
theorem d_rf_perform_206 : decode b_rf_perform 206 = .ok (.invokevirtual 130, 3) := by decide +kernel
theorem d_rf_perform_209 : decode b_rf_perform 209 = .ok (.goto 64, 3) := by decide +kernel
theorem d_rf_perform_212 : decode b_rf_perform 212 = .ok (.aload_n 0, 1) := by decide +kernel
theorem d_rf_perform_213 : decode b_rf_perform 213 = .ok (.iload_n 3, 1) := by decide +kernel
theorem d_rf_perform_214 : decode b_rf_perform 214 = .ok (.iload_n 2, 1) := by decide +kernel
theorem d_rf_perform_215 : decode b_rf_perform 215 = .ok (.isub, 1) := by decide +kernel
theorem d_rf_perform_216 : decode b_rf_perform 216 = .ok (.invokevirtual 137, 3) := by decide +kernel
theorem d_rf_perform_219 : decode b_rf_perform 219 = .ok (.goto 54, 3) := by decide +kernel
theorem d_rf_perform_222 : decode b_rf_perform 222 = .ok (.aload_n 0, 1) := by decide +kernel
theorem d_rf_perform_223 : decode b_rf_perform 223 = .ok (.iload_n 2, 1) := by decide +kernel
theorem d_rf_perform_224 : decode b_rf_perform 224 = .ok (.ifCond .ne 11, 3) := by decide +kernel
theorem d_rf_perform_227 : decode b_rf_perform 227 = .ok (.aload_n 0, 1) := by decide +kernel
theorem d_rf_perform_228 : decode b_rf_perform 228 = .ok (.iconst 0, 1) := by decide +kernel
theorem d_rf_perform_229 : decode b_rf_perform 229 = .ok (.invokevirtual 105, 3) := by decide +kernel
theorem d_rf_perform_232 : decode b_rf_perform 232 = .ok (.goto 8, 3) := by decide +kernel
theorem d_rf_perform_235 : decode b_rf_perform 235 = .ok (.aload_n 0, 1) := by decide +kernel
theorem d_rf_perform_236 : decode b_rf_perform 236 = .ok (.iconst 1, 1) := by decide +kernel
theorem d_rf_perform_237 : decode b_rf_perform 237 = .ok (.invokevirtual 102, 3) := by decide +kernel
theorem d_rf_perform_240 : decode b_rf_perform 240 = .ok (.invokevirtual 153, 3) := by decide +kernel
theorem d_rf_perform_243 : decode b_rf_perform 243 = .ok (.goto 30, 3) := by decide +kernel
theorem d_rf_perform_246 : decode b_rf_perform 246 = .ok (.aload_n 0, 1) := by decide +kernel
theorem d_rf_perform_247 : decode b_rf_perform 247 = .ok (.invokevirtual 156, 3) := by decide +kernel
theorem d_rf_perform_250 : decode b_rf_perform 250 = .ok (.goto 23, 3) := by decide +kernel
theorem d_rf_perform_253 : decode b_rf_perform 253 = .ok (.iload_n 2, 1) := by decide +kernel
theorem d_rf_perform_254 : decode b_rf_perform 254 = .ok (.ifCond .ne 15, 3) := by decide +kernel
theorem d_rf_perform_257 : decode b_rf_perform 257 = .ok (.aload_n 0, 1) := by decide +kernel
theorem d_rf_perform_258 : decode b_rf_perform 258 = .ok (.aload_n 0, 1) := by decide +kernel
theorem d_rf_perform_259 : decode b_rf_perform 259 = .ok (.iconst 0, 1) := by decide +kernel
theorem d_rf_perform_260 : decode b_rf_perform 260 = .ok (.invokevirtual 105, 3) := by decide +kernel
theorem d_rf_perform_263 : decode b_rf_perform 263 = .ok (.invokevirtual 133, 3) := by decide +kernel
theorem d_rf_perform_266 : decode b_rf_perform 266 = .ok (.goto 7, 3) := by decide +kernel
theorem d_rf_perform_269 : decode b_rf_perform 269 = .ok (.aload_n 0, 1) := by decide +kernel
theorem d_rf_perform_270 : decode b_rf_perform 270 = .ok (.invokevirtual 130, 3) := by decide +kernel
theorem d_rf_perform_273 : decode b_rf_perform 273 = .ok (.aload_n 0, 1) := by decide +kernel
theorem d_rf_perform_274 : decode b_rf_perform 274 = .ok (.invokevirtual 50, 3) := by decide +kernel
theorem d_rf_perform_277 : decode b_rf_perform 277 = .ok (.return_, 1) := by decide +kernel
theorem d_rf_step_0 : decode b_rf_step 0 = .ok (.aload_n 0, 1) := by decide +kernel
theorem d_rf_step_1 : decode b_rf_step 1 = .ok (.iconst 4, 1) := by decide +kernel
theorem d_rf_step_2 : decode b_rf_step 2 = .ok (.invokevirtual 102, 3) := by decide +kernel
theorem d_rf_step_5 : decode b_rf_step 5 = .ok (.sipush 1000, 3) := by decide +kernel
theorem d_rf_step_8 : decode b_rf_step 8 = .ok (.isub, 1) := by decide +kernel
theorem d_rf_step_9 : decode b_rf_step 9 = .ok (.istore_n 1, 1) := by decide +kernel
theorem d_rf_step_10 : decode b_rf_step 10 = .ok (.iload_n 1, 1) := by decide +kernel
theorem d_rf_step_11 : decode b_rf_step 11 = .ok (.bipush 16, 2) := by decide +kernel
theorem d_rf_step_13 : decode b_rf_step 13 = .ok (.if_icmp .ge 34, 3) := by decide +kernel
theorem d_rf_step_16 : decode b_rf_step 16 = .ok (.aload_n 0, 1) := by decide +kernel
theorem d_rf_step_17 : decode b_rf_step 17 = .ok (.getfield 38, 3) := by decide +kernel
theorem d_rf_step_20 : decode b_rf_step 20 = .ok (.bipush 16, 2) := by decide +kernel
theorem d_rf_step_22 : decode b_rf_step 22 = .ok (.bipush 8, 2) := by decide +kernel
theorem d_rf_step_24 : decode b_rf_step 24 = .ok (.aload_n 0, 1) := by decide +kernel
theorem d_rf_step_25 : decode b_rf_step 25 = .ok (.iconst 2, 1) := by decide +kernel
theorem d_rf_step_26 : decode b_rf_step 26 = .ok (.invokevirtual 102, 3) := by decide +kernel
theorem d_rf_step_29 : decode b_rf_step 29 = .ok (.imul, 1) := by decide +kernel
theorem d_rf_step_30 : decode b_rf_step 30 = .ok (.aload_n 0, 1) := by decide +kernel
theorem d_rf_step_31 : decode b_rf_step 31 = .ok (.iconst 3, 1) := by decide +kernel
theorem d_rf_step_32 : decode b_rf_step 32 = .ok (.invokevirtual 102, 3) := by decide +kernel
theorem d_rf_step_35 : decode b_rf_step 35 = .ok (.iadd, 1) := by decide +kernel
theorem d_rf_step_36 : decode b_rf_step 36 = .ok (.sipush 1000, 3) := by decide +kernel
theorem d_rf_step_39 : decode b_rf_step 39 = .ok (.isub, 1) := by decide +kernel
theorem d_rf_step_40 : decode b_rf_step 40 = .ok (.imul, 1) := by decide +kernel
theorem d_rf_step_41 : decode b_rf_step 41 = .ok (.iload_n 1, 1) := by decide +kernel
theorem d_rf_step_42 : decode b_rf_step 42 = .ok (.iadd, 1) := by decide +kernel
theorem d_rf_step_43 : decode b_rf_step 43 = .ok (.iaload, 1) := by decide +kernel
theorem d_rf_step_44 : decode b_rf_step 44 = .ok (.goto 4, 3) := by decide +kernel
theorem d_rf_step_47 : decode b_rf_step 47 = .ok (.iconst 0, 1) := by decide +kernel
theorem d_rf_step_48 : decode b_rf_step 48 = .ok (.istore_n 2, 1) := by decide +kernel
theorem d_rf_step_49 : decode b_rf_step 49 = .ok (.aload_n 0, 1) := by decide +kernel
theorem d_rf_step_50 : decode b_rf_step 50 = .ok (.iload_n 1, 1) := by decide +kernel
theorem d_rf_step_51 : decode b_rf_step 51 = .ok (.bipush 15, 2) := by decide +kernel
theorem d_rf_step_53 : decode b_rf_step 53 = .ok (.if_icmp .le 8, 3) := by decide +kernel
theorem d_rf_step_56 : decode b_rf_step 56 = .ok (.bipush 6, 2) := by decide +kernel
theorem d_rf_step_58 : decode b_rf_step 58 = .ok (.goto 16, 3) := by decide +kernel
theorem d_rf_step_61 : decode b_rf_step 61 = .ok (.aload_n 0, 1) := by decide +kernel
theorem d_rf_step_62 : decode b_rf_step 62 = .ok (.iload_n 2, 1) := by decide +kernel
theorem d_rf_step_63 : decode b_rf_step 63 = .ok (.bipush 16, 2) := by decide +kernel
theorem d_rf_step_65 : decode b_rf_step 65 = .ok (.idiv, 1) := by decide +kernel
theorem d_rf_step_66 : decode b_rf_step 66 = .ok (.iload_n 2, 1) := by decide +kernel
theorem d_rf_step_67 : decode b_rf_step 67 = .ok (.bipush 16, 2) := by decide +kernel
theorem d_rf_step_69 : decode b_rf_step 69 = .ok (.irem, 1) := by decide +kernel
theorem d_rf_step_70 : decode b_rf_step 70 = .ok (.iload_n 1, 1) := by decide +kernel
theorem d_rf_step_71 : decode b_rf_step 71 = .ok (.invokevirtual 159, 3) := by decide +kernel
theorem d_rf_step_74 : decode b_rf_step 74 = .ok (.putfield 162, 3) := by decide +kernel
theorem d_rf_step_77 : decode b_rf_step 77 = .ok (.aload_n 0, 1) := by decide +kernel
theorem d_rf_step_78 : decode b_rf_step 78 = .ok (.getfield 162, 3) := by decide +kernel
theorem d_rf_step_81 : decode b_rf_step 81 = .ok (.ifCond .le 5, 3) := by decide +kernel
theorem d_rf_step_84 : decode b_rf_step 84 = .ok (.iconst 0, 1) := by decide +kernel
theorem d_rf_step_85 : decode b_rf_step 85 = .ok (.ireturn, 1) := by decide +kernel
theorem d_rf_step_86 : decode b_rf_step 86 = .ok (.aload_n 0, 1) := by decide +kernel
theorem d_rf_step_87 : decode b_rf_step 87 = .ok (.iload_n 2, 1) := by decide +kernel
theorem d_rf_step_88 : decode b_rf_step 88 = .ok (.bipush 16, 2) := by decide +kernel
theorem d_rf_step_90 : decode b_rf_step 90 = .ok (.idiv, 1) := by decide +kernel
theorem d_rf_step_91 : decode b_rf_step 91 = .ok (.iload_n 2, 1) := by decide +kernel
theorem d_rf_step_92 : decode b_rf_step 92 = .ok (.bipush 16, 2) := by decide +kernel
theorem d_rf_step_94 : decode b_rf_step 94 = .ok (.irem, 1) := by decide +kernel
theorem d_rf_step_95 : decode b_rf_step 95 = .ok (.iload_n 1, 1) := by decide +kernel
theorem d_rf_step_96 : decode b_rf_step 96 = .ok (.invokevirtual 165, 3) := by decide +kernel
theorem d_rf_step_99 : decode b_rf_step 99 = .ok (.iconst 1, 1) := by decide +kernel
