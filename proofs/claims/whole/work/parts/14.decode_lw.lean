theorem d_lw_law_0 : decode code 0 = .ok (.new 7, 3) := by decide +kernel
theorem d_lw_law_3 : decode code 3 = .ok (.dup, 1) := by decide +kernel
theorem d_lw_law_4 : decode code 4 = .ok (.invokespecial 9, 3) := by decide +kernel
theorem d_lw_law_7 : decode code 7 = .ok (.astore_n 1, 1) := by decide +kernel
theorem d_lw_law_8 : decode code 8 = .ok (.new 10, 3) := by decide +kernel
theorem d_lw_law_11 : decode code 11 = .ok (.dup, 1) := by decide +kernel
theorem d_lw_law_12 : decode code 12 = .ok (.invokespecial 12, 3) := by decide +kernel
theorem d_lw_law_15 : decode code 15 = .ok (.astore_n 2, 1) := by decide +kernel
theorem d_lw_law_16 : decode code 16 = .ok (.iconst 0, 1) := by decide +kernel
theorem d_lw_law_17 : decode code 17 = .ok (.istore_n 3, 1) := by decide +kernel
theorem d_lw_law_18 : decode code 18 = .ok (.iload_n 3, 1) := by decide +kernel
theorem d_lw_law_19 : decode code 19 = .ok (.aload_n 0, 1) := by decide +kernel
theorem d_lw_law_20 : decode code 20 = .ok (.arraylength, 1) := by decide +kernel
theorem d_lw_law_21 : decode code 21 = .ok (.bipush 7, 2) := by decide +kernel
theorem d_lw_law_23 : decode code 23 = .ok (.isub, 1) := by decide +kernel
theorem d_lw_law_24 : decode code 24 = .ok (.if_icmp .gt 850, 3) := by decide +kernel
theorem d_lw_law_27 : decode code 27 = .ok (.aload_n 0, 1) := by decide +kernel
theorem d_lw_law_28 : decode code 28 = .ok (.iload_n 3, 1) := by decide +kernel
theorem d_lw_law_29 : decode code 29 = .ok (.iaload, 1) := by decide +kernel
theorem d_lw_law_30 : decode code 30 = .ok (.bipush 31, 2) := by decide +kernel
theorem d_lw_law_32 : decode code 32 = .ok (.iand, 1) := by decide +kernel
theorem d_lw_law_33 : decode code 33 = .ok (.tableswitch 835 0 23 #[111, 154, 269, 302, 335, 368, 391, 434, 467, 510, 543, 576, 599, 612, 625, 638, 651, 664, 687, 710, 743, 766, 789, 802], 111) := by decide +kernel
theorem d_lw_law_144 : decode code 144 = .ok (.aload_n 1, 1) := by decide +kernel
theorem d_lw_law_145 : decode code 145 = .ok (.aload_n 0, 1) := by decide +kernel
theorem d_lw_law_146 : decode code 146 = .ok (.iload_n 3, 1) := by decide +kernel
theorem d_lw_law_147 : decode code 147 = .ok (.iconst 1, 1) := by decide +kernel
theorem d_lw_law_148 : decode code 148 = .ok (.iadd, 1) := by decide +kernel
theorem d_lw_law_149 : decode code 149 = .ok (.iaload, 1) := by decide +kernel
theorem d_lw_law_150 : decode code 150 = .ok (.aload_n 0, 1) := by decide +kernel
theorem d_lw_law_151 : decode code 151 = .ok (.iload_n 3, 1) := by decide +kernel
theorem d_lw_law_152 : decode code 152 = .ok (.iconst 2, 1) := by decide +kernel
theorem d_lw_law_153 : decode code 153 = .ok (.iadd, 1) := by decide +kernel
theorem d_lw_law_154 : decode code 154 = .ok (.iaload, 1) := by decide +kernel
theorem d_lw_law_155 : decode code 155 = .ok (.aload_n 0, 1) := by decide +kernel
theorem d_lw_law_156 : decode code 156 = .ok (.iload_n 3, 1) := by decide +kernel
theorem d_lw_law_157 : decode code 157 = .ok (.iconst 3, 1) := by decide +kernel
theorem d_lw_law_158 : decode code 158 = .ok (.iadd, 1) := by decide +kernel
theorem d_lw_law_159 : decode code 159 = .ok (.iaload, 1) := by decide +kernel
theorem d_lw_law_160 : decode code 160 = .ok (.invokevirtual 13, 3) := by decide +kernel
theorem d_lw_law_163 : decode code 163 = .ok (.aload_n 2, 1) := by decide +kernel
theorem d_lw_law_164 : decode code 164 = .ok (.aload_n 0, 1) := by decide +kernel
theorem d_lw_law_165 : decode code 165 = .ok (.iload_n 3, 1) := by decide +kernel
theorem d_lw_law_166 : decode code 166 = .ok (.iconst 1, 1) := by decide +kernel
theorem d_lw_law_167 : decode code 167 = .ok (.iadd, 1) := by decide +kernel
theorem d_lw_law_168 : decode code 168 = .ok (.iaload, 1) := by decide +kernel
theorem d_lw_law_169 : decode code 169 = .ok (.aload_n 0, 1) := by decide +kernel
theorem d_lw_law_170 : decode code 170 = .ok (.iload_n 3, 1) := by decide +kernel
theorem d_lw_law_171 : decode code 171 = .ok (.iconst 2, 1) := by decide +kernel
theorem d_lw_law_172 : decode code 172 = .ok (.iadd, 1) := by decide +kernel
theorem d_lw_law_173 : decode code 173 = .ok (.iaload, 1) := by decide +kernel
theorem d_lw_law_174 : decode code 174 = .ok (.aload_n 0, 1) := by decide +kernel
theorem d_lw_law_175 : decode code 175 = .ok (.iload_n 3, 1) := by decide +kernel
theorem d_lw_law_176 : decode code 176 = .ok (.iconst 3, 1) := by decide +kernel
theorem d_lw_law_177 : decode code 177 = .ok (.iadd, 1) := by decide +kernel
theorem d_lw_law_178 : decode code 178 = .ok (.iaload, 1) := by decide +kernel
theorem d_lw_law_179 : decode code 179 = .ok (.invokevirtual 17, 3) := by decide +kernel
theorem d_lw_law_182 : decode code 182 = .ok (.if_icmp .eq 686, 3) := by decide +kernel
theorem d_lw_law_185 : decode code 185 = .ok (.iconst 0, 1) := by decide +kernel
theorem d_lw_law_186 : decode code 186 = .ok (.ireturn, 1) := by decide +kernel
theorem d_lw_law_187 : decode code 187 = .ok (.aload_n 1, 1) := by decide +kernel
theorem d_lw_law_188 : decode code 188 = .ok (.aload_n 0, 1) := by decide +kernel
theorem d_lw_law_189 : decode code 189 = .ok (.iload_n 3, 1) := by decide +kernel
theorem d_lw_law_190 : decode code 190 = .ok (.iconst 1, 1) := by decide +kernel
theorem d_lw_law_191 : decode code 191 = .ok (.iadd, 1) := by decide +kernel
theorem d_lw_law_192 : decode code 192 = .ok (.iaload, 1) := by decide +kernel
theorem d_lw_law_193 : decode code 193 = .ok (.aload_n 0, 1) := by decide +kernel
theorem d_lw_law_194 : decode code 194 = .ok (.iload_n 3, 1) := by decide +kernel
theorem d_lw_law_195 : decode code 195 = .ok (.iconst 2, 1) := by decide +kernel
theorem d_lw_law_196 : decode code 196 = .ok (.iadd, 1) := by decide +kernel
theorem d_lw_law_197 : decode code 197 = .ok (.iaload, 1) := by decide +kernel
theorem d_lw_law_198 : decode code 198 = .ok (.aload_n 0, 1) := by decide +kernel
theorem d_lw_law_199 : decode code 199 = .ok (.iload_n 3, 1) := by decide +kernel
theorem d_lw_law_200 : decode code 200 = .ok (.iconst 3, 1) := by decide +kernel
theorem d_lw_law_201 : decode code 201 = .ok (.iadd, 1) := by decide +kernel
theorem d_lw_law_202 : decode code 202 = .ok (.iaload, 1) := by decide +kernel
theorem d_lw_law_203 : decode code 203 = .ok (.i2l, 1) := by decide +kernel
theorem d_lw_law_204 : decode code 204 = .ok (.bipush 32, 2) := by decide +kernel
theorem d_lw_law_206 : decode code 206 = .ok (.lshl, 1) := by decide +kernel
theorem d_lw_law_207 : decode code 207 = .ok (.aload_n 0, 1) := by decide +kernel
theorem d_lw_law_208 : decode code 208 = .ok (.iload_n 3, 1) := by decide +kernel
theorem d_lw_law_209 : decode code 209 = .ok (.iconst 4, 1) := by decide +kernel
theorem d_lw_law_210 : decode code 210 = .ok (.iadd, 1) := by decide +kernel
theorem d_lw_law_211 : decode code 211 = .ok (.iaload, 1) := by decide +kernel
theorem d_lw_law_212 : decode code 212 = .ok (.i2l, 1) := by decide +kernel
theorem d_lw_law_213 : decode code 213 = .ok (.ldc2_w 18, 3) := by decide +kernel
theorem d_lw_law_216 : decode code 216 = .ok (.land, 1) := by decide +kernel
theorem d_lw_law_217 : decode code 217 = .ok (.lor, 1) := by decide +kernel
theorem d_lw_law_218 : decode code 218 = .ok (.aload_n 0, 1) := by decide +kernel
theorem d_lw_law_219 : decode code 219 = .ok (.iload_n 3, 1) := by decide +kernel
theorem d_lw_law_220 : decode code 220 = .ok (.iconst 5, 1) := by decide +kernel
theorem d_lw_law_221 : decode code 221 = .ok (.iadd, 1) := by decide +kernel
theorem d_lw_law_222 : decode code 222 = .ok (.iaload, 1) := by decide +kernel
theorem d_lw_law_223 : decode code 223 = .ok (.i2l, 1) := by decide +kernel
theorem d_lw_law_224 : decode code 224 = .ok (.bipush 32, 2) := by decide +kernel
theorem d_lw_law_226 : decode code 226 = .ok (.lshl, 1) := by decide +kernel
theorem d_lw_law_227 : decode code 227 = .ok (.aload_n 0, 1) := by decide +kernel
theorem d_lw_law_228 : decode code 228 = .ok (.iload_n 3, 1) := by decide +kernel
theorem d_lw_law_229 : decode code 229 = .ok (.bipush 6, 2) := by decide +kernel
theorem d_lw_law_231 : decode code 231 = .ok (.iadd, 1) := by decide +kernel
theorem d_lw_law_232 : decode code 232 = .ok (.iaload, 1) := by decide +kernel
theorem d_lw_law_233 : decode code 233 = .ok (.i2l, 1) := by decide +kernel
theorem d_lw_law_234 : decode code 234 = .ok (.ldc2_w 18, 3) := by decide +kernel
theorem d_lw_law_237 : decode code 237 = .ok (.land, 1) := by decide +kernel
theorem d_lw_law_238 : decode code 238 = .ok (.lor, 1) := by decide +kernel
theorem d_lw_law_239 : decode code 239 = .ok (.invokevirtual 20, 3) := by decide +kernel
theorem d_lw_law_242 : decode code 242 = .ok (.aload_n 2, 1) := by decide +kernel
theorem d_lw_law_243 : decode code 243 = .ok (.aload_n 0, 1) := by decide +kernel
theorem d_lw_law_244 : decode code 244 = .ok (.iload_n 3, 1) := by decide +kernel
theorem d_lw_law_245 : decode code 245 = .ok (.iconst 1, 1) := by decide +kernel
theorem d_lw_law_246 : decode code 246 = .ok (.iadd, 1) := by decide +kernel
theorem d_lw_law_247 : decode code 247 = .ok (.iaload, 1) := by decide +kernel
theorem d_lw_law_248 : decode code 248 = .ok (.aload_n 0, 1) := by decide +kernel
theorem d_lw_law_249 : decode code 249 = .ok (.iload_n 3, 1) := by decide +kernel
theorem d_lw_law_250 : decode code 250 = .ok (.iconst 2, 1) := by decide +kernel
theorem d_lw_law_251 : decode code 251 = .ok (.iadd, 1) := by decide +kernel
theorem d_lw_law_252 : decode code 252 = .ok (.iaload, 1) := by decide +kernel
theorem d_lw_law_253 : decode code 253 = .ok (.aload_n 0, 1) := by decide +kernel
theorem d_lw_law_254 : decode code 254 = .ok (.iload_n 3, 1) := by decide +kernel
theorem d_lw_law_255 : decode code 255 = .ok (.iconst 3, 1) := by decide +kernel
theorem d_lw_law_256 : decode code 256 = .ok (.iadd, 1) := by decide +kernel
theorem d_lw_law_257 : decode code 257 = .ok (.iaload, 1) := by decide +kernel
theorem d_lw_law_258 : decode code 258 = .ok (.i2l, 1) := by decide +kernel
theorem d_lw_law_259 : decode code 259 = .ok (.bipush 32, 2) := by decide +kernel
theorem d_lw_law_261 : decode code 261 = .ok (.lshl, 1) := by decide +kernel
theorem d_lw_law_262 : decode code 262 = .ok (.aload_n 0, 1) := by decide +kernel
theorem d_lw_law_263 : decode code 263 = .ok (.iload_n 3, 1) := by decide +kernel
theorem d_lw_law_264 : decode code 264 = .ok (.iconst 4, 1) := by decide +kernel
theorem d_lw_law_265 : decode code 265 = .ok (.iadd, 1) := by decide +kernel
theorem d_lw_law_266 : decode code 266 = .ok (.iaload, 1) := by decide +kernel
theorem d_lw_law_267 : decode code 267 = .ok (.i2l, 1) := by decide +kernel
theorem d_lw_law_268 : decode code 268 = .ok (.ldc2_w 18, 3) := by decide +kernel
theorem d_lw_law_271 : decode code 271 = .ok (.land, 1) := by decide +kernel
theorem d_lw_law_272 : decode code 272 = .ok (.lor, 1) := by decide +kernel
theorem d_lw_law_273 : decode code 273 = .ok (.aload_n 0, 1) := by decide +kernel
theorem d_lw_law_274 : decode code 274 = .ok (.iload_n 3, 1) := by decide +kernel
theorem d_lw_law_275 : decode code 275 = .ok (.iconst 5, 1) := by decide +kernel
theorem d_lw_law_276 : decode code 276 = .ok (.iadd, 1) := by decide +kernel
theorem d_lw_law_277 : decode code 277 = .ok (.iaload, 1) := by decide +kernel
theorem d_lw_law_278 : decode code 278 = .ok (.i2l, 1) := by decide +kernel
theorem d_lw_law_279 : decode code 279 = .ok (.bipush 32, 2) := by decide +kernel
theorem d_lw_law_281 : decode code 281 = .ok (.lshl, 1) := by decide +kernel
theorem d_lw_law_282 : decode code 282 = .ok (.aload_n 0, 1) := by decide +kernel
theorem d_lw_law_283 : decode code 283 = .ok (.iload_n 3, 1) := by decide +kernel
theorem d_lw_law_284 : decode code 284 = .ok (.bipush 6, 2) := by decide +kernel
theorem d_lw_law_286 : decode code 286 = .ok (.iadd, 1) := by decide +kernel
theorem d_lw_law_287 : decode code 287 = .ok (.iaload, 1) := by decide +kernel
theorem d_lw_law_288 : decode code 288 = .ok (.i2l, 1) := by decide +kernel
theorem d_lw_law_289 : decode code 289 = .ok (.ldc2_w 18, 3) := by decide +kernel
theorem d_lw_law_292 : decode code 292 = .ok (.land, 1) := by decide +kernel
theorem d_lw_law_293 : decode code 293 = .ok (.lor, 1) := by decide +kernel
theorem d_lw_law_294 : decode code 294 = .ok (.invokevirtual 24, 3) := by decide +kernel
theorem d_lw_law_297 : decode code 297 = .ok (.if_icmp .eq 571, 3) := by decide +kernel
theorem d_lw_law_300 : decode code 300 = .ok (.iconst 0, 1) := by decide +kernel
theorem d_lw_law_301 : decode code 301 = .ok (.ireturn, 1) := by decide +kernel
theorem d_lw_law_302 : decode code 302 = .ok (.aload_n 1, 1) := by decide +kernel
theorem d_lw_law_303 : decode code 303 = .ok (.aload_n 0, 1) := by decide +kernel
theorem d_lw_law_304 : decode code 304 = .ok (.iload_n 3, 1) := by decide +kernel
theorem d_lw_law_305 : decode code 305 = .ok (.iconst 1, 1) := by decide +kernel
theorem d_lw_law_306 : decode code 306 = .ok (.iadd, 1) := by decide +kernel
theorem d_lw_law_307 : decode code 307 = .ok (.iaload, 1) := by decide +kernel
theorem d_lw_law_308 : decode code 308 = .ok (.aload_n 0, 1) := by decide +kernel
theorem d_lw_law_309 : decode code 309 = .ok (.iload_n 3, 1) := by decide +kernel
theorem d_lw_law_310 : decode code 310 = .ok (.iconst 2, 1) := by decide +kernel
theorem d_lw_law_311 : decode code 311 = .ok (.iadd, 1) := by decide +kernel
theorem d_lw_law_312 : decode code 312 = .ok (.iaload, 1) := by decide +kernel
theorem d_lw_law_313 : decode code 313 = .ok (.invokevirtual 25, 3) := by decide +kernel
theorem d_lw_law_316 : decode code 316 = .ok (.aload_n 2, 1) := by decide +kernel
theorem d_lw_law_317 : decode code 317 = .ok (.aload_n 0, 1) := by decide +kernel
theorem d_lw_law_318 : decode code 318 = .ok (.iload_n 3, 1) := by decide +kernel
theorem d_lw_law_319 : decode code 319 = .ok (.iconst 1, 1) := by decide +kernel
theorem d_lw_law_320 : decode code 320 = .ok (.iadd, 1) := by decide +kernel
theorem d_lw_law_321 : decode code 321 = .ok (.iaload, 1) := by decide +kernel
theorem d_lw_law_322 : decode code 322 = .ok (.aload_n 0, 1) := by decide +kernel
theorem d_lw_law_323 : decode code 323 = .ok (.iload_n 3, 1) := by decide +kernel
theorem d_lw_law_324 : decode code 324 = .ok (.iconst 2, 1) := by decide +kernel
theorem d_lw_law_325 : decode code 325 = .ok (.iadd, 1) := by decide +kernel
theorem d_lw_law_326 : decode code 326 = .ok (.iaload, 1) := by decide +kernel
theorem d_lw_law_327 : decode code 327 = .ok (.invokevirtual 29, 3) := by decide +kernel
theorem d_lw_law_330 : decode code 330 = .ok (.if_icmp .eq 538, 3) := by decide +kernel
theorem d_lw_law_333 : decode code 333 = .ok (.iconst 0, 1) := by decide +kernel
theorem d_lw_law_334 : decode code 334 = .ok (.ireturn, 1) := by decide +kernel
theorem d_lw_law_335 : decode code 335 = .ok (.aload_n 1, 1) := by decide +kernel
theorem d_lw_law_336 : decode code 336 = .ok (.aload_n 0, 1) := by decide +kernel
theorem d_lw_law_337 : decode code 337 = .ok (.iload_n 3, 1) := by decide +kernel
theorem d_lw_law_338 : decode code 338 = .ok (.iconst 1, 1) := by decide +kernel
theorem d_lw_law_339 : decode code 339 = .ok (.iadd, 1) := by decide +kernel
theorem d_lw_law_340 : decode code 340 = .ok (.iaload, 1) := by decide +kernel
theorem d_lw_law_341 : decode code 341 = .ok (.aload_n 0, 1) := by decide +kernel
theorem d_lw_law_342 : decode code 342 = .ok (.iload_n 3, 1) := by decide +kernel
theorem d_lw_law_343 : decode code 343 = .ok (.iconst 2, 1) := by decide +kernel
theorem d_lw_law_344 : decode code 344 = .ok (.iadd, 1) := by decide +kernel
theorem d_lw_law_345 : decode code 345 = .ok (.iaload, 1) := by decide +kernel
theorem d_lw_law_346 : decode code 346 = .ok (.invokevirtual 30, 3) := by decide +kernel
theorem d_lw_law_349 : decode code 349 = .ok (.aload_n 2, 1) := by decide +kernel
theorem d_lw_law_350 : decode code 350 = .ok (.aload_n 0, 1) := by decide +kernel
theorem d_lw_law_351 : decode code 351 = .ok (.iload_n 3, 1) := by decide +kernel
theorem d_lw_law_352 : decode code 352 = .ok (.iconst 1, 1) := by decide +kernel
theorem d_lw_law_353 : decode code 353 = .ok (.iadd, 1) := by decide +kernel
theorem d_lw_law_354 : decode code 354 = .ok (.iaload, 1) := by decide +kernel
theorem d_lw_law_355 : decode code 355 = .ok (.aload_n 0, 1) := by decide +kernel
theorem d_lw_law_356 : decode code 356 = .ok (.iload_n 3, 1) := by decide +kernel
theorem d_lw_law_357 : decode code 357 = .ok (.iconst 2, 1) := by decide +kernel
theorem d_lw_law_358 : decode code 358 = .ok (.iadd, 1) := by decide +kernel
theorem d_lw_law_359 : decode code 359 = .ok (.iaload, 1) := by decide +kernel
theorem d_lw_law_360 : decode code 360 = .ok (.invokevirtual 34, 3) := by decide +kernel
theorem d_lw_law_363 : decode code 363 = .ok (.if_icmp .eq 505, 3) := by decide +kernel
theorem d_lw_law_366 : decode code 366 = .ok (.iconst 0, 1) := by decide +kernel
theorem d_lw_law_367 : decode code 367 = .ok (.ireturn, 1) := by decide +kernel
theorem d_lw_law_368 : decode code 368 = .ok (.aload_n 1, 1) := by decide +kernel
theorem d_lw_law_369 : decode code 369 = .ok (.aload_n 0, 1) := by decide +kernel
theorem d_lw_law_370 : decode code 370 = .ok (.iload_n 3, 1) := by decide +kernel
theorem d_lw_law_371 : decode code 371 = .ok (.iconst 1, 1) := by decide +kernel
theorem d_lw_law_372 : decode code 372 = .ok (.iadd, 1) := by decide +kernel
theorem d_lw_law_373 : decode code 373 = .ok (.iaload, 1) := by decide +kernel
theorem d_lw_law_374 : decode code 374 = .ok (.aload_n 0, 1) := by decide +kernel
theorem d_lw_law_375 : decode code 375 = .ok (.iload_n 3, 1) := by decide +kernel
theorem d_lw_law_376 : decode code 376 = .ok (.iconst 2, 1) := by decide +kernel
theorem d_lw_law_377 : decode code 377 = .ok (.iadd, 1) := by decide +kernel
theorem d_lw_law_378 : decode code 378 = .ok (.iaload, 1) := by decide +kernel
theorem d_lw_law_379 : decode code 379 = .ok (.invokevirtual 35, 3) := by decide +kernel
theorem d_lw_law_382 : decode code 382 = .ok (.aload_n 2, 1) := by decide +kernel
theorem d_lw_law_383 : decode code 383 = .ok (.aload_n 0, 1) := by decide +kernel
theorem d_lw_law_384 : decode code 384 = .ok (.iload_n 3, 1) := by decide +kernel
theorem d_lw_law_385 : decode code 385 = .ok (.iconst 1, 1) := by decide +kernel
theorem d_lw_law_386 : decode code 386 = .ok (.iadd, 1) := by decide +kernel
theorem d_lw_law_387 : decode code 387 = .ok (.iaload, 1) := by decide +kernel
theorem d_lw_law_388 : decode code 388 = .ok (.aload_n 0, 1) := by decide +kernel
theorem d_lw_law_389 : decode code 389 = .ok (.iload_n 3, 1) := by decide +kernel
theorem d_lw_law_390 : decode code 390 = .ok (.iconst 2, 1) := by decide +kernel
theorem d_lw_law_391 : decode code 391 = .ok (.iadd, 1) := by decide +kernel
theorem d_lw_law_392 : decode code 392 = .ok (.iaload, 1) := by decide +kernel
theorem d_lw_law_393 : decode code 393 = .ok (.invokevirtual 38, 3) := by decide +kernel
theorem d_lw_law_396 : decode code 396 = .ok (.if_icmp .eq 472, 3) := by decide +kernel
theorem d_lw_law_399 : decode code 399 = .ok (.iconst 0, 1) := by decide +kernel
theorem d_lw_law_400 : decode code 400 = .ok (.ireturn, 1) := by decide +kernel
theorem d_lw_law_401 : decode code 401 = .ok (.aload_n 1, 1) := by decide +kernel
theorem d_lw_law_402 : decode code 402 = .ok (.aload_n 0, 1) := by decide +kernel
theorem d_lw_law_403 : decode code 403 = .ok (.iload_n 3, 1) := by decide +kernel
theorem d_lw_law_404 : decode code 404 = .ok (.iconst 1, 1) := by decide +kernel
theorem d_lw_law_405 : decode code 405 = .ok (.iadd, 1) := by decide +kernel
theorem d_lw_law_406 : decode code 406 = .ok (.iaload, 1) := by decide +kernel
theorem d_lw_law_407 : decode code 407 = .ok (.invokevirtual 39, 3) := by decide +kernel
theorem d_lw_law_410 : decode code 410 = .ok (.aload_n 2, 1) := by decide +kernel
theorem d_lw_law_411 : decode code 411 = .ok (.aload_n 0, 1) := by decide +kernel
theorem d_lw_law_412 : decode code 412 = .ok (.iload_n 3, 1) := by decide +kernel
theorem d_lw_law_413 : decode code 413 = .ok (.iconst 1, 1) := by decide +kernel
theorem d_lw_law_414 : decode code 414 = .ok (.iadd, 1) := by decide +kernel
theorem d_lw_law_415 : decode code 415 = .ok (.iaload, 1) := by decide +kernel
theorem d_lw_law_416 : decode code 416 = .ok (.invokevirtual 43, 3) := by decide +kernel
theorem d_lw_law_419 : decode code 419 = .ok (.if_icmp .eq 449, 3) := by decide +kernel
theorem d_lw_law_422 : decode code 422 = .ok (.iconst 0, 1) := by decide +kernel
theorem d_lw_law_423 : decode code 423 = .ok (.ireturn, 1) := by decide +kernel
theorem d_lw_law_424 : decode code 424 = .ok (.aload_n 1, 1) := by decide +kernel
theorem d_lw_law_425 : decode code 425 = .ok (.aload_n 0, 1) := by decide +kernel
theorem d_lw_law_426 : decode code 426 = .ok (.iload_n 3, 1) := by decide +kernel
theorem d_lw_law_427 : decode code 427 = .ok (.iconst 1, 1) := by decide +kernel
theorem d_lw_law_428 : decode code 428 = .ok (.iadd, 1) := by decide +kernel
theorem d_lw_law_429 : decode code 429 = .ok (.iaload, 1) := by decide +kernel
theorem d_lw_law_430 : decode code 430 = .ok (.aload_n 0, 1) := by decide +kernel
theorem d_lw_law_431 : decode code 431 = .ok (.iload_n 3, 1) := by decide +kernel
theorem d_lw_law_432 : decode code 432 = .ok (.iconst 2, 1) := by decide +kernel
theorem d_lw_law_433 : decode code 433 = .ok (.iadd, 1) := by decide +kernel
theorem d_lw_law_434 : decode code 434 = .ok (.iaload, 1) := by decide +kernel
theorem d_lw_law_435 : decode code 435 = .ok (.aload_n 0, 1) := by decide +kernel
theorem d_lw_law_436 : decode code 436 = .ok (.iload_n 3, 1) := by decide +kernel
theorem d_lw_law_437 : decode code 437 = .ok (.iconst 3, 1) := by decide +kernel
theorem d_lw_law_438 : decode code 438 = .ok (.iadd, 1) := by decide +kernel
theorem d_lw_law_439 : decode code 439 = .ok (.iaload, 1) := by decide +kernel
theorem d_lw_law_440 : decode code 440 = .ok (.invokevirtual 44, 3) := by decide +kernel
theorem d_lw_law_443 : decode code 443 = .ok (.aload_n 2, 1) := by decide +kernel
theorem d_lw_law_444 : decode code 444 = .ok (.aload_n 0, 1) := by decide +kernel
theorem d_lw_law_445 : decode code 445 = .ok (.iload_n 3, 1) := by decide +kernel
theorem d_lw_law_446 : decode code 446 = .ok (.iconst 1, 1) := by decide +kernel
theorem d_lw_law_447 : decode code 447 = .ok (.iadd, 1) := by decide +kernel
theorem d_lw_law_448 : decode code 448 = .ok (.iaload, 1) := by decide +kernel
theorem d_lw_law_449 : decode code 449 = .ok (.aload_n 0, 1) := by decide +kernel
theorem d_lw_law_450 : decode code 450 = .ok (.iload_n 3, 1) := by decide +kernel
theorem d_lw_law_451 : decode code 451 = .ok (.iconst 2, 1) := by decide +kernel
theorem d_lw_law_452 : decode code 452 = .ok (.iadd, 1) := by decide +kernel
theorem d_lw_law_453 : decode code 453 = .ok (.iaload, 1) := by decide +kernel
theorem d_lw_law_454 : decode code 454 = .ok (.aload_n 0, 1) := by decide +kernel
theorem d_lw_law_455 : decode code 455 = .ok (.iload_n 3, 1) := by decide +kernel
theorem d_lw_law_456 : decode code 456 = .ok (.iconst 3, 1) := by decide +kernel
theorem d_lw_law_457 : decode code 457 = .ok (.iadd, 1) := by decide +kernel
theorem d_lw_law_458 : decode code 458 = .ok (.iaload, 1) := by decide +kernel
theorem d_lw_law_459 : decode code 459 = .ok (.invokevirtual 48, 3) := by decide +kernel
theorem d_lw_law_462 : decode code 462 = .ok (.if_icmp .eq 406, 3) := by decide +kernel
theorem d_lw_law_465 : decode code 465 = .ok (.iconst 0, 1) := by decide +kernel
theorem d_lw_law_466 : decode code 466 = .ok (.ireturn, 1) := by decide +kernel
theorem d_lw_law_467 : decode code 467 = .ok (.aload_n 1, 1) := by decide +kernel
theorem d_lw_law_468 : decode code 468 = .ok (.aload_n 0, 1) := by decide +kernel
theorem d_lw_law_469 : decode code 469 = .ok (.iload_n 3, 1) := by decide +kernel
theorem d_lw_law_470 : decode code 470 = .ok (.iconst 1, 1) := by decide +kernel
theorem d_lw_law_471 : decode code 471 = .ok (.iadd, 1) := by decide +kernel
theorem d_lw_law_472 : decode code 472 = .ok (.iaload, 1) := by decide +kernel
theorem d_lw_law_473 : decode code 473 = .ok (.aload_n 0, 1) := by decide +kernel
theorem d_lw_law_474 : decode code 474 = .ok (.iload_n 3, 1) := by decide +kernel
theorem d_lw_law_475 : decode code 475 = .ok (.iconst 2, 1) := by decide +kernel
theorem d_lw_law_476 : decode code 476 = .ok (.iadd, 1) := by decide +kernel
theorem d_lw_law_477 : decode code 477 = .ok (.iaload, 1) := by decide +kernel
theorem d_lw_law_478 : decode code 478 = .ok (.invokevirtual 49, 3) := by decide +kernel
theorem d_lw_law_481 : decode code 481 = .ok (.aload_n 2, 1) := by decide +kernel
theorem d_lw_law_482 : decode code 482 = .ok (.aload_n 0, 1) := by decide +kernel
theorem d_lw_law_483 : decode code 483 = .ok (.iload_n 3, 1) := by decide +kernel
theorem d_lw_law_484 : decode code 484 = .ok (.iconst 1, 1) := by decide +kernel
theorem d_lw_law_485 : decode code 485 = .ok (.iadd, 1) := by decide +kernel
theorem d_lw_law_486 : decode code 486 = .ok (.iaload, 1) := by decide +kernel
theorem d_lw_law_487 : decode code 487 = .ok (.aload_n 0, 1) := by decide +kernel
theorem d_lw_law_488 : decode code 488 = .ok (.iload_n 3, 1) := by decide +kernel
theorem d_lw_law_489 : decode code 489 = .ok (.iconst 2, 1) := by decide +kernel
theorem d_lw_law_490 : decode code 490 = .ok (.iadd, 1) := by decide +kernel
theorem d_lw_law_491 : decode code 491 = .ok (.iaload, 1) := by decide +kernel
theorem d_lw_law_492 : decode code 492 = .ok (.invokevirtual 52, 3) := by decide +kernel
theorem d_lw_law_495 : decode code 495 = .ok (.if_icmp .eq 373, 3) := by decide +kernel
theorem d_lw_law_498 : decode code 498 = .ok (.iconst 0, 1) := by decide +kernel
theorem d_lw_law_499 : decode code 499 = .ok (.ireturn, 1) := by decide +kernel
theorem d_lw_law_500 : decode code 500 = .ok (.aload_n 1, 1) := by decide +kernel
theorem d_lw_law_501 : decode code 501 = .ok (.aload_n 0, 1) := by decide +kernel
theorem d_lw_law_502 : decode code 502 = .ok (.iload_n 3, 1) := by decide +kernel
theorem d_lw_law_503 : decode code 503 = .ok (.iconst 1, 1) := by decide +kernel
theorem d_lw_law_504 : decode code 504 = .ok (.iadd, 1) := by decide +kernel
theorem d_lw_law_505 : decode code 505 = .ok (.iaload, 1) := by decide +kernel
theorem d_lw_law_506 : decode code 506 = .ok (.aload_n 0, 1) := by decide +kernel
theorem d_lw_law_507 : decode code 507 = .ok (.iload_n 3, 1) := by decide +kernel
theorem d_lw_law_508 : decode code 508 = .ok (.iconst 2, 1) := by decide +kernel
theorem d_lw_law_509 : decode code 509 = .ok (.iadd, 1) := by decide +kernel
theorem d_lw_law_510 : decode code 510 = .ok (.iaload, 1) := by decide +kernel
theorem d_lw_law_511 : decode code 511 = .ok (.aload_n 0, 1) := by decide +kernel
theorem d_lw_law_512 : decode code 512 = .ok (.iload_n 3, 1) := by decide +kernel
theorem d_lw_law_513 : decode code 513 = .ok (.iconst 3, 1) := by decide +kernel
theorem d_lw_law_514 : decode code 514 = .ok (.iadd, 1) := by decide +kernel
theorem d_lw_law_515 : decode code 515 = .ok (.iaload, 1) := by decide +kernel
theorem d_lw_law_516 : decode code 516 = .ok (.invokevirtual 53, 3) := by decide +kernel
theorem d_lw_law_519 : decode code 519 = .ok (.aload_n 2, 1) := by decide +kernel
theorem d_lw_law_520 : decode code 520 = .ok (.aload_n 0, 1) := by decide +kernel
theorem d_lw_law_521 : decode code 521 = .ok (.iload_n 3, 1) := by decide +kernel
theorem d_lw_law_522 : decode code 522 = .ok (.iconst 1, 1) := by decide +kernel
theorem d_lw_law_523 : decode code 523 = .ok (.iadd, 1) := by decide +kernel
theorem d_lw_law_524 : decode code 524 = .ok (.iaload, 1) := by decide +kernel
theorem d_lw_law_525 : decode code 525 = .ok (.aload_n 0, 1) := by decide +kernel
theorem d_lw_law_526 : decode code 526 = .ok (.iload_n 3, 1) := by decide +kernel
theorem d_lw_law_527 : decode code 527 = .ok (.iconst 2, 1) := by decide +kernel
theorem d_lw_law_528 : decode code 528 = .ok (.iadd, 1) := by decide +kernel
theorem d_lw_law_529 : decode code 529 = .ok (.iaload, 1) := by decide +kernel
theorem d_lw_law_530 : decode code 530 = .ok (.aload_n 0, 1) := by decide +kernel
theorem d_lw_law_531 : decode code 531 = .ok (.iload_n 3, 1) := by decide +kernel
theorem d_lw_law_532 : decode code 532 = .ok (.iconst 3, 1) := by decide +kernel
theorem d_lw_law_533 : decode code 533 = .ok (.iadd, 1) := by decide +kernel
theorem d_lw_law_534 : decode code 534 = .ok (.iaload, 1) := by decide +kernel
theorem d_lw_law_535 : decode code 535 = .ok (.invokevirtual 56, 3) := by decide +kernel
theorem d_lw_law_538 : decode code 538 = .ok (.if_icmp .eq 330, 3) := by decide +kernel
theorem d_lw_law_541 : decode code 541 = .ok (.iconst 0, 1) := by decide +kernel
theorem d_lw_law_542 : decode code 542 = .ok (.ireturn, 1) := by decide +kernel
theorem d_lw_law_543 : decode code 543 = .ok (.aload_n 1, 1) := by decide +kernel
theorem d_lw_law_544 : decode code 544 = .ok (.aload_n 0, 1) := by decide +kernel
theorem d_lw_law_545 : decode code 545 = .ok (.iload_n 3, 1) := by decide +kernel
theorem d_lw_law_546 : decode code 546 = .ok (.iconst 1, 1) := by decide +kernel
theorem d_lw_law_547 : decode code 547 = .ok (.iadd, 1) := by decide +kernel
theorem d_lw_law_548 : decode code 548 = .ok (.iaload, 1) := by decide +kernel
theorem d_lw_law_549 : decode code 549 = .ok (.aload_n 0, 1) := by decide +kernel
theorem d_lw_law_550 : decode code 550 = .ok (.iload_n 3, 1) := by decide +kernel
theorem d_lw_law_551 : decode code 551 = .ok (.iconst 2, 1) := by decide +kernel
theorem d_lw_law_552 : decode code 552 = .ok (.iadd, 1) := by decide +kernel
theorem d_lw_law_553 : decode code 553 = .ok (.iaload, 1) := by decide +kernel
theorem d_lw_law_554 : decode code 554 = .ok (.invokevirtual 57, 3) := by decide +kernel
theorem d_lw_law_557 : decode code 557 = .ok (.aload_n 2, 1) := by decide +kernel
theorem d_lw_law_558 : decode code 558 = .ok (.aload_n 0, 1) := by decide +kernel
theorem d_lw_law_559 : decode code 559 = .ok (.iload_n 3, 1) := by decide +kernel
theorem d_lw_law_560 : decode code 560 = .ok (.iconst 1, 1) := by decide +kernel
theorem d_lw_law_561 : decode code 561 = .ok (.iadd, 1) := by decide +kernel
theorem d_lw_law_562 : decode code 562 = .ok (.iaload, 1) := by decide +kernel
theorem d_lw_law_563 : decode code 563 = .ok (.aload_n 0, 1) := by decide +kernel
theorem d_lw_law_564 : decode code 564 = .ok (.iload_n 3, 1) := by decide +kernel
theorem d_lw_law_565 : decode code 565 = .ok (.iconst 2, 1) := by decide +kernel
theorem d_lw_law_566 : decode code 566 = .ok (.iadd, 1) := by decide +kernel
theorem d_lw_law_567 : decode code 567 = .ok (.iaload, 1) := by decide +kernel
theorem d_lw_law_568 : decode code 568 = .ok (.invokevirtual 60, 3) := by decide +kernel
theorem d_lw_law_571 : decode code 571 = .ok (.if_icmp .eq 297, 3) := by decide +kernel
theorem d_lw_law_574 : decode code 574 = .ok (.iconst 0, 1) := by decide +kernel
theorem d_lw_law_575 : decode code 575 = .ok (.ireturn, 1) := by decide +kernel
theorem d_lw_law_576 : decode code 576 = .ok (.aload_n 1, 1) := by decide +kernel
theorem d_lw_law_577 : decode code 577 = .ok (.aload_n 0, 1) := by decide +kernel
theorem d_lw_law_578 : decode code 578 = .ok (.iload_n 3, 1) := by decide +kernel
theorem d_lw_law_579 : decode code 579 = .ok (.iconst 1, 1) := by decide +kernel
theorem d_lw_law_580 : decode code 580 = .ok (.iadd, 1) := by decide +kernel
theorem d_lw_law_581 : decode code 581 = .ok (.iaload, 1) := by decide +kernel
theorem d_lw_law_582 : decode code 582 = .ok (.aload_n 0, 1) := by decide +kernel
theorem d_lw_law_583 : decode code 583 = .ok (.iload_n 3, 1) := by decide +kernel
theorem d_lw_law_584 : decode code 584 = .ok (.iconst 2, 1) := by decide +kernel
theorem d_lw_law_585 : decode code 585 = .ok (.iadd, 1) := by decide +kernel
theorem d_lw_law_586 : decode code 586 = .ok (.iaload, 1) := by decide +kernel
theorem d_lw_law_587 : decode code 587 = .ok (.invokevirtual 61, 3) := by decide +kernel
theorem d_lw_law_590 : decode code 590 = .ok (.aload_n 2, 1) := by decide +kernel
theorem d_lw_law_591 : decode code 591 = .ok (.aload_n 0, 1) := by decide +kernel
theorem d_lw_law_592 : decode code 592 = .ok (.iload_n 3, 1) := by decide +kernel
theorem d_lw_law_593 : decode code 593 = .ok (.iconst 1, 1) := by decide +kernel
theorem d_lw_law_594 : decode code 594 = .ok (.iadd, 1) := by decide +kernel
theorem d_lw_law_595 : decode code 595 = .ok (.iaload, 1) := by decide +kernel
theorem d_lw_law_596 : decode code 596 = .ok (.aload_n 0, 1) := by decide +kernel
theorem d_lw_law_597 : decode code 597 = .ok (.iload_n 3, 1) := by decide +kernel
theorem d_lw_law_598 : decode code 598 = .ok (.iconst 2, 1) := by decide +kernel
theorem d_lw_law_599 : decode code 599 = .ok (.iadd, 1) := by decide +kernel
theorem d_lw_law_600 : decode code 600 = .ok (.iaload, 1) := by decide +kernel
theorem d_lw_law_601 : decode code 601 = .ok (.invokevirtual 64, 3) := by decide +kernel
theorem d_lw_law_604 : decode code 604 = .ok (.if_icmp .eq 264, 3) := by decide +kernel
theorem d_lw_law_607 : decode code 607 = .ok (.iconst 0, 1) := by decide +kernel
theorem d_lw_law_608 : decode code 608 = .ok (.ireturn, 1) := by decide +kernel
theorem d_lw_law_609 : decode code 609 = .ok (.aload_n 1, 1) := by decide +kernel
theorem d_lw_law_610 : decode code 610 = .ok (.aload_n 0, 1) := by decide +kernel
theorem d_lw_law_611 : decode code 611 = .ok (.iload_n 3, 1) := by decide +kernel
theorem d_lw_law_612 : decode code 612 = .ok (.iconst 1, 1) := by decide +kernel
theorem d_lw_law_613 : decode code 613 = .ok (.iadd, 1) := by decide +kernel
theorem d_lw_law_614 : decode code 614 = .ok (.iaload, 1) := by decide +kernel
theorem d_lw_law_615 : decode code 615 = .ok (.invokevirtual 65, 3) := by decide +kernel
theorem d_lw_law_618 : decode code 618 = .ok (.aload_n 2, 1) := by decide +kernel
theorem d_lw_law_619 : decode code 619 = .ok (.aload_n 0, 1) := by decide +kernel
theorem d_lw_law_620 : decode code 620 = .ok (.iload_n 3, 1) := by decide +kernel
theorem d_lw_law_621 : decode code 621 = .ok (.iconst 1, 1) := by decide +kernel
theorem d_lw_law_622 : decode code 622 = .ok (.iadd, 1) := by decide +kernel
theorem d_lw_law_623 : decode code 623 = .ok (.iaload, 1) := by decide +kernel
theorem d_lw_law_624 : decode code 624 = .ok (.invokevirtual 69, 3) := by decide +kernel
theorem d_lw_law_627 : decode code 627 = .ok (.if_icmp .eq 241, 3) := by decide +kernel
theorem d_lw_law_630 : decode code 630 = .ok (.iconst 0, 1) := by decide +kernel
theorem d_lw_law_631 : decode code 631 = .ok (.ireturn, 1) := by decide +kernel
theorem d_lw_law_632 : decode code 632 = .ok (.aload_n 1, 1) := by decide +kernel
theorem d_lw_law_633 : decode code 633 = .ok (.invokevirtual 70, 3) := by decide +kernel
theorem d_lw_law_636 : decode code 636 = .ok (.aload_n 2, 1) := by decide +kernel
theorem d_lw_law_637 : decode code 637 = .ok (.invokevirtual 74, 3) := by decide +kernel
theorem d_lw_law_640 : decode code 640 = .ok (.if_icmp .eq 228, 3) := by decide +kernel
theorem d_lw_law_643 : decode code 643 = .ok (.iconst 0, 1) := by decide +kernel
theorem d_lw_law_644 : decode code 644 = .ok (.ireturn, 1) := by decide +kernel
theorem d_lw_law_645 : decode code 645 = .ok (.aload_n 1, 1) := by decide +kernel
theorem d_lw_law_646 : decode code 646 = .ok (.invokevirtual 75, 3) := by decide +kernel
theorem d_lw_law_649 : decode code 649 = .ok (.aload_n 2, 1) := by decide +kernel
theorem d_lw_law_650 : decode code 650 = .ok (.invokevirtual 79, 3) := by decide +kernel
theorem d_lw_law_653 : decode code 653 = .ok (.if_icmp .eq 215, 3) := by decide +kernel
theorem d_lw_law_656 : decode code 656 = .ok (.iconst 0, 1) := by decide +kernel
theorem d_lw_law_657 : decode code 657 = .ok (.ireturn, 1) := by decide +kernel
theorem d_lw_law_658 : decode code 658 = .ok (.aload_n 1, 1) := by decide +kernel
theorem d_lw_law_659 : decode code 659 = .ok (.invokevirtual 80, 3) := by decide +kernel
theorem d_lw_law_662 : decode code 662 = .ok (.aload_n 2, 1) := by decide +kernel
theorem d_lw_law_663 : decode code 663 = .ok (.invokevirtual 83, 3) := by decide +kernel
theorem d_lw_law_666 : decode code 666 = .ok (.if_icmp .eq 202, 3) := by decide +kernel
theorem d_lw_law_669 : decode code 669 = .ok (.iconst 0, 1) := by decide +kernel
theorem d_lw_law_670 : decode code 670 = .ok (.ireturn, 1) := by decide +kernel
theorem d_lw_law_671 : decode code 671 = .ok (.aload_n 1, 1) := by decide +kernel
theorem d_lw_law_672 : decode code 672 = .ok (.invokevirtual 84, 3) := by decide +kernel
theorem d_lw_law_675 : decode code 675 = .ok (.aload_n 2, 1) := by decide +kernel
theorem d_lw_law_676 : decode code 676 = .ok (.invokevirtual 87, 3) := by decide +kernel
theorem d_lw_law_679 : decode code 679 = .ok (.if_icmp .eq 189, 3) := by decide +kernel
theorem d_lw_law_682 : decode code 682 = .ok (.iconst 0, 1) := by decide +kernel
theorem d_lw_law_683 : decode code 683 = .ok (.ireturn, 1) := by decide +kernel
theorem d_lw_law_684 : decode code 684 = .ok (.aload_n 1, 1) := by decide +kernel
theorem d_lw_law_685 : decode code 685 = .ok (.invokevirtual 88, 3) := by decide +kernel
theorem d_lw_law_688 : decode code 688 = .ok (.aload_n 2, 1) := by decide +kernel
theorem d_lw_law_689 : decode code 689 = .ok (.invokevirtual 91, 3) := by decide +kernel
theorem d_lw_law_692 : decode code 692 = .ok (.if_icmp .eq 176, 3) := by decide +kernel
theorem d_lw_law_695 : decode code 695 = .ok (.iconst 0, 1) := by decide +kernel
theorem d_lw_law_696 : decode code 696 = .ok (.ireturn, 1) := by decide +kernel
theorem d_lw_law_697 : decode code 697 = .ok (.aload_n 1, 1) := by decide +kernel
theorem d_lw_law_698 : decode code 698 = .ok (.aload_n 0, 1) := by decide +kernel
theorem d_lw_law_699 : decode code 699 = .ok (.iload_n 3, 1) := by decide +kernel
theorem d_lw_law_700 : decode code 700 = .ok (.iconst 1, 1) := by decide +kernel
theorem d_lw_law_701 : decode code 701 = .ok (.iadd, 1) := by decide +kernel
theorem d_lw_law_702 : decode code 702 = .ok (.iaload, 1) := by decide +kernel
theorem d_lw_law_703 : decode code 703 = .ok (.invokevirtual 92, 3) := by decide +kernel
theorem d_lw_law_706 : decode code 706 = .ok (.aload_n 2, 1) := by decide +kernel
theorem d_lw_law_707 : decode code 707 = .ok (.aload_n 0, 1) := by decide +kernel
theorem d_lw_law_708 : decode code 708 = .ok (.iload_n 3, 1) := by decide +kernel
theorem d_lw_law_709 : decode code 709 = .ok (.iconst 1, 1) := by decide +kernel
theorem d_lw_law_710 : decode code 710 = .ok (.iadd, 1) := by decide +kernel
theorem d_lw_law_711 : decode code 711 = .ok (.iaload, 1) := by decide +kernel
theorem d_lw_law_712 : decode code 712 = .ok (.invokevirtual 95, 3) := by decide +kernel
theorem d_lw_law_715 : decode code 715 = .ok (.if_icmp .eq 153, 3) := by decide +kernel
theorem d_lw_law_718 : decode code 718 = .ok (.iconst 0, 1) := by decide +kernel
theorem d_lw_law_719 : decode code 719 = .ok (.ireturn, 1) := by decide +kernel
theorem d_lw_law_720 : decode code 720 = .ok (.aload_n 1, 1) := by decide +kernel
theorem d_lw_law_721 : decode code 721 = .ok (.aload_n 0, 1) := by decide +kernel
theorem d_lw_law_722 : decode code 722 = .ok (.iload_n 3, 1) := by decide +kernel
theorem d_lw_law_723 : decode code 723 = .ok (.iconst 1, 1) := by decide +kernel
theorem d_lw_law_724 : decode code 724 = .ok (.iadd, 1) := by decide +kernel
theorem d_lw_law_725 : decode code 725 = .ok (.iaload, 1) := by decide +kernel
theorem d_lw_law_726 : decode code 726 = .ok (.invokevirtual 96, 3) := by decide +kernel
theorem d_lw_law_729 : decode code 729 = .ok (.aload_n 2, 1) := by decide +kernel
theorem d_lw_law_730 : decode code 730 = .ok (.aload_n 0, 1) := by decide +kernel
theorem d_lw_law_731 : decode code 731 = .ok (.iload_n 3, 1) := by decide +kernel
theorem d_lw_law_732 : decode code 732 = .ok (.iconst 1, 1) := by decide +kernel
theorem d_lw_law_733 : decode code 733 = .ok (.iadd, 1) := by decide +kernel
theorem d_lw_law_734 : decode code 734 = .ok (.iaload, 1) := by decide +kernel
theorem d_lw_law_735 : decode code 735 = .ok (.invokevirtual 99, 3) := by decide +kernel
theorem d_lw_law_738 : decode code 738 = .ok (.if_icmp .eq 130, 3) := by decide +kernel
theorem d_lw_law_741 : decode code 741 = .ok (.iconst 0, 1) := by decide +kernel
theorem d_lw_law_742 : decode code 742 = .ok (.ireturn, 1) := by decide +kernel
theorem d_lw_law_743 : decode code 743 = .ok (.aload_n 1, 1) := by decide +kernel
theorem d_lw_law_744 : decode code 744 = .ok (.aload_n 0, 1) := by decide +kernel
theorem d_lw_law_745 : decode code 745 = .ok (.iload_n 3, 1) := by decide +kernel
theorem d_lw_law_746 : decode code 746 = .ok (.iconst 1, 1) := by decide +kernel
theorem d_lw_law_747 : decode code 747 = .ok (.iadd, 1) := by decide +kernel
theorem d_lw_law_748 : decode code 748 = .ok (.iaload, 1) := by decide +kernel
theorem d_lw_law_749 : decode code 749 = .ok (.aload_n 0, 1) := by decide +kernel
theorem d_lw_law_750 : decode code 750 = .ok (.iload_n 3, 1) := by decide +kernel
theorem d_lw_law_751 : decode code 751 = .ok (.iconst 2, 1) := by decide +kernel
theorem d_lw_law_752 : decode code 752 = .ok (.iadd, 1) := by decide +kernel
theorem d_lw_law_753 : decode code 753 = .ok (.iaload, 1) := by decide +kernel
theorem d_lw_law_754 : decode code 754 = .ok (.invokevirtual 100, 3) := by decide +kernel
theorem d_lw_law_757 : decode code 757 = .ok (.aload_n 2, 1) := by decide +kernel
theorem d_lw_law_758 : decode code 758 = .ok (.aload_n 0, 1) := by decide +kernel
theorem d_lw_law_759 : decode code 759 = .ok (.iload_n 3, 1) := by decide +kernel
theorem d_lw_law_760 : decode code 760 = .ok (.iconst 1, 1) := by decide +kernel
theorem d_lw_law_761 : decode code 761 = .ok (.iadd, 1) := by decide +kernel
theorem d_lw_law_762 : decode code 762 = .ok (.iaload, 1) := by decide +kernel
theorem d_lw_law_763 : decode code 763 = .ok (.aload_n 0, 1) := by decide +kernel
theorem d_lw_law_764 : decode code 764 = .ok (.iload_n 3, 1) := by decide +kernel
theorem d_lw_law_765 : decode code 765 = .ok (.iconst 2, 1) := by decide +kernel
theorem d_lw_law_766 : decode code 766 = .ok (.iadd, 1) := by decide +kernel
theorem d_lw_law_767 : decode code 767 = .ok (.iaload, 1) := by decide +kernel
theorem d_lw_law_768 : decode code 768 = .ok (.invokevirtual 103, 3) := by decide +kernel
theorem d_lw_law_771 : decode code 771 = .ok (.if_icmp .eq 97, 3) := by decide +kernel
theorem d_lw_law_774 : decode code 774 = .ok (.iconst 0, 1) := by decide +kernel
theorem d_lw_law_775 : decode code 775 = .ok (.ireturn, 1) := by decide +kernel
theorem d_lw_law_776 : decode code 776 = .ok (.aload_n 1, 1) := by decide +kernel
theorem d_lw_law_777 : decode code 777 = .ok (.aload_n 0, 1) := by decide +kernel
theorem d_lw_law_778 : decode code 778 = .ok (.iload_n 3, 1) := by decide +kernel
theorem d_lw_law_779 : decode code 779 = .ok (.iconst 1, 1) := by decide +kernel
theorem d_lw_law_780 : decode code 780 = .ok (.iadd, 1) := by decide +kernel
theorem d_lw_law_781 : decode code 781 = .ok (.iaload, 1) := by decide +kernel
theorem d_lw_law_782 : decode code 782 = .ok (.invokevirtual 104, 3) := by decide +kernel
theorem d_lw_law_785 : decode code 785 = .ok (.aload_n 2, 1) := by decide +kernel
theorem d_lw_law_786 : decode code 786 = .ok (.aload_n 0, 1) := by decide +kernel
theorem d_lw_law_787 : decode code 787 = .ok (.iload_n 3, 1) := by decide +kernel
theorem d_lw_law_788 : decode code 788 = .ok (.iconst 1, 1) := by decide +kernel
theorem d_lw_law_789 : decode code 789 = .ok (.iadd, 1) := by decide +kernel
theorem d_lw_law_790 : decode code 790 = .ok (.iaload, 1) := by decide +kernel
theorem d_lw_law_791 : decode code 791 = .ok (.invokevirtual 107, 3) := by decide +kernel
theorem d_lw_law_794 : decode code 794 = .ok (.if_icmp .eq 74, 3) := by decide +kernel
theorem d_lw_law_797 : decode code 797 = .ok (.iconst 0, 1) := by decide +kernel
theorem d_lw_law_798 : decode code 798 = .ok (.ireturn, 1) := by decide +kernel
theorem d_lw_law_799 : decode code 799 = .ok (.aload_n 1, 1) := by decide +kernel
theorem d_lw_law_800 : decode code 800 = .ok (.aload_n 0, 1) := by decide +kernel
theorem d_lw_law_801 : decode code 801 = .ok (.iload_n 3, 1) := by decide +kernel
theorem d_lw_law_802 : decode code 802 = .ok (.iconst 1, 1) := by decide +kernel
theorem d_lw_law_803 : decode code 803 = .ok (.iadd, 1) := by decide +kernel
theorem d_lw_law_804 : decode code 804 = .ok (.iaload, 1) := by decide +kernel
theorem d_lw_law_805 : decode code 805 = .ok (.invokevirtual 108, 3) := by decide +kernel
theorem d_lw_law_808 : decode code 808 = .ok (.aload_n 2, 1) := by decide +kernel
theorem d_lw_law_809 : decode code 809 = .ok (.aload_n 0, 1) := by decide +kernel
theorem d_lw_law_810 : decode code 810 = .ok (.iload_n 3, 1) := by decide +kernel
theorem d_lw_law_811 : decode code 811 = .ok (.iconst 1, 1) := by decide +kernel
theorem d_lw_law_812 : decode code 812 = .ok (.iadd, 1) := by decide +kernel
theorem d_lw_law_813 : decode code 813 = .ok (.iaload, 1) := by decide +kernel
theorem d_lw_law_814 : decode code 814 = .ok (.invokevirtual 111, 3) := by decide +kernel
theorem d_lw_law_817 : decode code 817 = .ok (.if_icmp .eq 51, 3) := by decide +kernel
theorem d_lw_law_820 : decode code 820 = .ok (.iconst 0, 1) := by decide +kernel
theorem d_lw_law_821 : decode code 821 = .ok (.ireturn, 1) := by decide +kernel
theorem d_lw_law_822 : decode code 822 = .ok (.aload_n 1, 1) := by decide +kernel
theorem d_lw_law_823 : decode code 823 = .ok (.invokevirtual 112, 3) := by decide +kernel
theorem d_lw_law_826 : decode code 826 = .ok (.aload_n 2, 1) := by decide +kernel
theorem d_lw_law_827 : decode code 827 = .ok (.invokevirtual 115, 3) := by decide +kernel
theorem d_lw_law_830 : decode code 830 = .ok (.if_icmp .eq 38, 3) := by decide +kernel
theorem d_lw_law_833 : decode code 833 = .ok (.iconst 0, 1) := by decide +kernel
theorem d_lw_law_834 : decode code 834 = .ok (.ireturn, 1) := by decide +kernel
theorem d_lw_law_835 : decode code 835 = .ok (.aload_n 1, 1) := by decide +kernel
theorem d_lw_law_836 : decode code 836 = .ok (.aload_n 0, 1) := by decide +kernel
theorem d_lw_law_837 : decode code 837 = .ok (.iload_n 3, 1) := by decide +kernel
theorem d_lw_law_838 : decode code 838 = .ok (.iconst 1, 1) := by decide +kernel
theorem d_lw_law_839 : decode code 839 = .ok (.iadd, 1) := by decide +kernel
theorem d_lw_law_840 : decode code 840 = .ok (.iaload, 1) := by decide +kernel
theorem d_lw_law_841 : decode code 841 = .ok (.aload_n 0, 1) := by decide +kernel
theorem d_lw_law_842 : decode code 842 = .ok (.iload_n 3, 1) := by decide +kernel
theorem d_lw_law_843 : decode code 843 = .ok (.iconst 2, 1) := by decide +kernel
theorem d_lw_law_844 : decode code 844 = .ok (.iadd, 1) := by decide +kernel
theorem d_lw_law_845 : decode code 845 = .ok (.iaload, 1) := by decide +kernel
theorem d_lw_law_846 : decode code 846 = .ok (.invokevirtual 116, 3) := by decide +kernel
theorem d_lw_law_849 : decode code 849 = .ok (.aload_n 2, 1) := by decide +kernel
theorem d_lw_law_850 : decode code 850 = .ok (.aload_n 0, 1) := by decide +kernel
theorem d_lw_law_851 : decode code 851 = .ok (.iload_n 3, 1) := by decide +kernel
theorem d_lw_law_852 : decode code 852 = .ok (.iconst 1, 1) := by decide +kernel
theorem d_lw_law_853 : decode code 853 = .ok (.iadd, 1) := by decide +kernel
theorem d_lw_law_854 : decode code 854 = .ok (.iaload, 1) := by decide +kernel
theorem d_lw_law_855 : decode code 855 = .ok (.aload_n 0, 1) := by decide +kernel
theorem d_lw_law_856 : decode code 856 = .ok (.iload_n 3, 1) := by decide +kernel
theorem d_lw_law_857 : decode code 857 = .ok (.iconst 2, 1) := by decide +kernel
theorem d_lw_law_858 : decode code 858 = .ok (.iadd, 1) := by decide +kernel
theorem d_lw_law_859 : decode code 859 = .ok (.iaload, 1) := by decide +kernel
theorem d_lw_law_860 : decode code 860 = .ok (.invokevirtual 119, 3) := by decide +kernel
theorem d_lw_law_863 : decode code 863 = .ok (.if_icmp .eq 5, 3) := by decide +kernel
theorem d_lw_law_866 : decode code 866 = .ok (.iconst 0, 1) := by decide +kernel
theorem d_lw_law_867 : decode code 867 = .ok (.ireturn, 1) := by decide +kernel
theorem d_lw_law_868 : decode code 868 = .ok (.iinc 3 7, 3) := by decide +kernel
theorem d_lw_law_871 : decode code 871 = .ok (.goto (-853), 3) := by decide +kernel
theorem d_lw_law_874 : decode code 874 = .ok (.iconst 1, 1) := by decide +kernel
theorem d_lw_law_875 : decode code 875 = .ok (.ireturn, 1) := by decide +kernel
