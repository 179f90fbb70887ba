section LAWK
variable {p : Program} {l : Launch} {e : Env} {s : State} {m : MethodId} {below : List Frame} {meth : Method} {c : Code} {H : Heap} {locs : List Loc} {cells slots : Nat} {Q : State → Prop}
variable {b L i : Nat} {ls : Array Slot} {D : va_G} {adC adR : Nat → Nat} {ciC ciR : Nat → ClassId} {xs : Nat → Int32} {σ μ : SS}
abbrev LV (adC adR : Nat → Nat) (b i : Nat) : List (Nat × Value) := [(3, .int (nI i)), (2, .ref (adR 0)), (1, .ref (adC 0)), (0, .ref b)]
abbrev NX (p : Program) (l : Launch) (e : Env) (s : State) (m : MethodId) (below : List Frame) (meth : Method) (c : Code) (cells slots : Nat) (Q : State → Prop) (b L i : Nat) (D : va_G) (adC adR : Nat → Nat) (ciC ciR : Nat → ClassId) (xs : Nat → Int32) : Prop :=
  ∀ (σ μ : SS) (H : Heap) (locs : List Loc) (ls : Array Slot), BIG σ μ → LX D adC ciC adR ciR p s m c b L xs H locs σ μ → lv_has ls 4 (LV adC adR b (i + 7)) → W p l e room_1 s m #[Value.ref b] below meth c H locs cells slots Q (F0 m 18 ls [])
theorem i7 (i : Nat) : nI i + Int32.ofInt 7 = nI (i + 7) := nI_add i 7
theorem lc_end (hB : BIG σ μ) (X : LX D adC ciC adR ciR p s m c b L xs H locs σ μ) (hl : lv_has ls 4 (LV adC adR b i)) (kk : NX p l e s m below meth c cells slots Q b L i D adC adR ciC ciR xs) : W p l e room_1 s m #[Value.ref b] below meth c H locs cells slots Q (F0 m 868 ls []) := by
  refine lv_iinc (k := 0) (lv' := [(3, .int (nI (i + 7))), (2, .ref (adR 0)), (1, .ref (adC 0)), (0, .ref b)]) X.1.1 X.1.2.1 d_lw_law_868 hl rfl (i7 i) (by decide) rfl (fun ls hl => ?_)
  refine lv_goto (tgt := 18) X.1.1 X.1.2.1 d_lw_law_871 rfl ?_
  exact kk σ μ H locs ls hB X hl
set_option maxHeartbeats 4000000 in
theorem lc_0 (hB : BIG σ μ) (X : LX D adC ciC adR ciR p s m c b L xs H locs σ μ) (hl : lv_has ls 4 (LV adC adR b i)) (hi : i + 7 ≤ L) (hL : L ≤ 3584) (hcs : cells ≤ room_1.cells ∧ slots ≤ room_1.slots) (kk : NX p l e s m below meth c cells slots Q b L i D adC adR ciC ciR xs) : W p l e room_1 s m #[Value.ref b] below meth c H locs cells slots Q (F0 m 144 ls []) := by
  refine lv_aload_n X.1.1 X.1.2.1 d_lw_law_144 rfl (lv_at hl 2 rfl) ?_
  refine lv_aload_n X.1.1 X.1.2.1 d_lw_law_145 rfl (lv_at hl 3 rfl) ?_
  refine lv_iload_n X.1.1 X.1.2.1 d_lw_law_146 rfl (lv_at hl 0 rfl) ?_
  refine lv_iconst (v := 1) X.1.1 X.1.2.1 d_lw_law_147 rfl ?_
  refine lv_iadd X.1.1 X.1.2.1 d_lw_law_148 ?_
  rw [show (1 : Int32) = nI 1 from rfl, nI_add]
  refine X.sld (by omega) hL d_lw_law_149 ?_
  refine lv_aload_n X.1.1 X.1.2.1 d_lw_law_150 rfl (lv_at hl 3 rfl) ?_
  refine lv_iload_n X.1.1 X.1.2.1 d_lw_law_151 rfl (lv_at hl 0 rfl) ?_
  refine lv_iconst (v := 2) X.1.1 X.1.2.1 d_lw_law_152 rfl ?_
  refine lv_iadd X.1.1 X.1.2.1 d_lw_law_153 ?_
  rw [show (2 : Int32) = nI 2 from rfl, nI_add]
  refine X.sld (by omega) hL d_lw_law_154 ?_
  refine lv_aload_n X.1.1 X.1.2.1 d_lw_law_155 rfl (lv_at hl 3 rfl) ?_
  refine lv_iload_n X.1.1 X.1.2.1 d_lw_law_156 rfl (lv_at hl 0 rfl) ?_
  refine lv_iconst (v := 3) X.1.1 X.1.2.1 d_lw_law_157 rfl ?_
  refine lv_iadd X.1.1 X.1.2.1 d_lw_law_158 ?_
  rw [show (3 : Int32) = nI 3 from rfl, nI_add]
  refine X.sld (by omega) hL d_lw_law_159 ?_
  refine LX.callC (k := 3) (c_mm_define X.inj _ _ _ _ hB.1.rg) X (gt_V mw_131 mw_132 mw_133 mw_1 mw_134) ok_mm_define ⟨rfl, rfl, by decide, by decide⟩ X.rcC rfl hl.1 rfl (Nat.le_of_ble_eq_true rfl) d_lw_law_160 hcs (fun H locs X => ?_)
  refine lv_aload_n X.1.1 X.1.2.1 d_lw_law_163 rfl (lv_at hl 1 rfl) ?_
  refine lv_aload_n X.1.1 X.1.2.1 d_lw_law_164 rfl (lv_at hl 3 rfl) ?_
  refine lv_iload_n X.1.1 X.1.2.1 d_lw_law_165 rfl (lv_at hl 0 rfl) ?_
  refine lv_iconst (v := 1) X.1.1 X.1.2.1 d_lw_law_166 rfl ?_
  refine lv_iadd X.1.1 X.1.2.1 d_lw_law_167 ?_
  rw [show (1 : Int32) = nI 1 from rfl, nI_add]
  refine X.sld (by omega) hL d_lw_law_168 ?_
  refine lv_aload_n X.1.1 X.1.2.1 d_lw_law_169 rfl (lv_at hl 3 rfl) ?_
  refine lv_iload_n X.1.1 X.1.2.1 d_lw_law_170 rfl (lv_at hl 0 rfl) ?_
  refine lv_iconst (v := 2) X.1.1 X.1.2.1 d_lw_law_171 rfl ?_
  refine lv_iadd X.1.1 X.1.2.1 d_lw_law_172 ?_
  rw [show (2 : Int32) = nI 2 from rfl, nI_add]
  refine X.sld (by omega) hL d_lw_law_173 ?_
  refine lv_aload_n X.1.1 X.1.2.1 d_lw_law_174 rfl (lv_at hl 3 rfl) ?_
  refine lv_iload_n X.1.1 X.1.2.1 d_lw_law_175 rfl (lv_at hl 0 rfl) ?_
  refine lv_iconst (v := 3) X.1.1 X.1.2.1 d_lw_law_176 rfl ?_
  refine lv_iadd X.1.1 X.1.2.1 d_lw_law_177 ?_
  rw [show (3 : Int32) = nI 3 from rfl, nI_add]
  refine X.sld (by omega) hL d_lw_law_178 ?_
  refine LX.callM (k := 3) (c_rf_define X.injR _ _ _ _ hB.2.2.2.2.2) X (gt_V mw_581 mw_582 mw_583 mw_5 mw_584) ok_rf_define ⟨rfl, rfl, by decide, by decide⟩ X.rcR rfl hl.1 rfl (Nat.le_of_ble_eq_true rfl) d_lw_law_179 hcs (fun H locs X => ?_)
  refine lv_icmp_eq (tgt := 868) X.1.1 X.1.2.1 d_lw_law_182 rfl (fun _ => ?_) (fun h9 => absurd (s_define hB _ _ _).1 h9)
  exact lc_end (s_define hB _ _ _).2 X hl kk
set_option maxHeartbeats 4000000 in
theorem lc_1 (hB : BIG σ μ) (X : LX D adC ciC adR ciR p s m c b L xs H locs σ μ) (hl : lv_has ls 4 (LV adC adR b i)) (hi : i + 7 ≤ L) (hL : L ≤ 3584) (hcs : cells ≤ room_1.cells ∧ slots ≤ room_1.slots) (kk : NX p l e s m below meth c cells slots Q b L i D adC adR ciC ciR xs) : W p l e room_1 s m #[Value.ref b] below meth c H locs cells slots Q (F0 m 187 ls []) := by
  refine lv_aload_n X.1.1 X.1.2.1 d_lw_law_187 rfl (lv_at hl 2 rfl) ?_
  refine lv_aload_n X.1.1 X.1.2.1 d_lw_law_188 rfl (lv_at hl 3 rfl) ?_
  refine lv_iload_n X.1.1 X.1.2.1 d_lw_law_189 rfl (lv_at hl 0 rfl) ?_
  refine lv_iconst (v := 1) X.1.1 X.1.2.1 d_lw_law_190 rfl ?_
  refine lv_iadd X.1.1 X.1.2.1 d_lw_law_191 ?_
  rw [show (1 : Int32) = nI 1 from rfl, nI_add]
  refine X.sld (by omega) hL d_lw_law_192 ?_
  refine lv_aload_n X.1.1 X.1.2.1 d_lw_law_193 rfl (lv_at hl 3 rfl) ?_
  refine lv_iload_n X.1.1 X.1.2.1 d_lw_law_194 rfl (lv_at hl 0 rfl) ?_
  refine lv_iconst (v := 2) X.1.1 X.1.2.1 d_lw_law_195 rfl ?_
  refine lv_iadd X.1.1 X.1.2.1 d_lw_law_196 ?_
  rw [show (2 : Int32) = nI 2 from rfl, nI_add]
  refine X.sld (by omega) hL d_lw_law_197 ?_
  refine lv_aload_n X.1.1 X.1.2.1 d_lw_law_198 rfl (lv_at hl 3 rfl) ?_
  refine lv_iload_n X.1.1 X.1.2.1 d_lw_law_199 rfl (lv_at hl 0 rfl) ?_
  refine lv_iconst (v := 3) X.1.1 X.1.2.1 d_lw_law_200 rfl ?_
  refine lv_iadd X.1.1 X.1.2.1 d_lw_law_201 ?_
  rw [show (3 : Int32) = nI 3 from rfl, nI_add]
  refine X.sld (by omega) hL d_lw_law_202 ?_
  refine lv_i2l X.1.1 X.1.2.1 d_lw_law_203 rfl ?_
  refine lv_bipush (v := 32) X.1.1 X.1.2.1 d_lw_law_204 rfl ?_
  refine lv_lshl X.1.1 X.1.2.1 d_lw_law_206 rfl ?_
  refine lv_aload_n X.1.1 X.1.2.1 d_lw_law_207 rfl (lv_at hl 3 rfl) ?_
  refine lv_iload_n X.1.1 X.1.2.1 d_lw_law_208 rfl (lv_at hl 0 rfl) ?_
  refine lv_iconst (v := 4) X.1.1 X.1.2.1 d_lw_law_209 rfl ?_
  refine lv_iadd X.1.1 X.1.2.1 d_lw_law_210 ?_
  rw [show (4 : Int32) = nI 4 from rfl, nI_add]
  refine X.sld (by omega) hL d_lw_law_211 ?_
  refine lv_i2l X.1.1 X.1.2.1 d_lw_law_212 rfl ?_
  refine lv_ldc2 (own := "MessageMachineLaw") (v := 4294967295) X.1.1 X.1.2.1 X.1.2.2.2.1 (X.1.2.2.2.2 _ mw_806) d_lw_law_213 ?_
  refine lv_land X.1.1 X.1.2.1 d_lw_law_216 ?_
  refine lv_lor X.1.1 X.1.2.1 d_lw_law_217 ?_
  refine lv_aload_n X.1.1 X.1.2.1 d_lw_law_218 rfl (lv_at hl 3 rfl) ?_
  refine lv_iload_n X.1.1 X.1.2.1 d_lw_law_219 rfl (lv_at hl 0 rfl) ?_
  refine lv_iconst (v := 5) X.1.1 X.1.2.1 d_lw_law_220 rfl ?_
  refine lv_iadd X.1.1 X.1.2.1 d_lw_law_221 ?_
  rw [show (5 : Int32) = nI 5 from rfl, nI_add]
  refine X.sld (by omega) hL d_lw_law_222 ?_
  refine lv_i2l X.1.1 X.1.2.1 d_lw_law_223 rfl ?_
  refine lv_bipush (v := 32) X.1.1 X.1.2.1 d_lw_law_224 rfl ?_
  refine lv_lshl X.1.1 X.1.2.1 d_lw_law_226 rfl ?_
  refine lv_aload_n X.1.1 X.1.2.1 d_lw_law_227 rfl (lv_at hl 3 rfl) ?_
  refine lv_iload_n X.1.1 X.1.2.1 d_lw_law_228 rfl (lv_at hl 0 rfl) ?_
  refine lv_bipush (v := 6) X.1.1 X.1.2.1 d_lw_law_229 rfl ?_
  refine lv_iadd X.1.1 X.1.2.1 d_lw_law_231 ?_
  rw [show (6 : Int32) = nI 6 from rfl, nI_add]
  refine X.sld (by omega) hL d_lw_law_232 ?_
  refine lv_i2l X.1.1 X.1.2.1 d_lw_law_233 rfl ?_
  refine lv_ldc2 (own := "MessageMachineLaw") (v := 4294967295) X.1.1 X.1.2.1 X.1.2.2.2.1 (X.1.2.2.2.2 _ mw_806) d_lw_law_234 ?_
  refine lv_land X.1.1 X.1.2.1 d_lw_law_237 ?_
  refine lv_lor X.1.1 X.1.2.1 d_lw_law_238 ?_
  refine LX.callC (k := 4) (c_mm_method X.inj _ _ _ _ _ ) X (gt_V mw_189 mw_190 mw_191 mw_1 mw_192) ok_mm_method ⟨rfl, rfl, by decide, by decide⟩ X.rcC rfl hl.1 rfl (Nat.le_of_ble_eq_true rfl) d_lw_law_239 hcs (fun H locs X => ?_)
  refine lv_aload_n X.1.1 X.1.2.1 d_lw_law_242 rfl (lv_at hl 1 rfl) ?_
  refine lv_aload_n X.1.1 X.1.2.1 d_lw_law_243 rfl (lv_at hl 3 rfl) ?_
  refine lv_iload_n X.1.1 X.1.2.1 d_lw_law_244 rfl (lv_at hl 0 rfl) ?_
  refine lv_iconst (v := 1) X.1.1 X.1.2.1 d_lw_law_245 rfl ?_
  refine lv_iadd X.1.1 X.1.2.1 d_lw_law_246 ?_
  rw [show (1 : Int32) = nI 1 from rfl, nI_add]
  refine X.sld (by omega) hL d_lw_law_247 ?_
  refine lv_aload_n X.1.1 X.1.2.1 d_lw_law_248 rfl (lv_at hl 3 rfl) ?_
  refine lv_iload_n X.1.1 X.1.2.1 d_lw_law_249 rfl (lv_at hl 0 rfl) ?_
  refine lv_iconst (v := 2) X.1.1 X.1.2.1 d_lw_law_250 rfl ?_
  refine lv_iadd X.1.1 X.1.2.1 d_lw_law_251 ?_
  rw [show (2 : Int32) = nI 2 from rfl, nI_add]
  refine X.sld (by omega) hL d_lw_law_252 ?_
  refine lv_aload_n X.1.1 X.1.2.1 d_lw_law_253 rfl (lv_at hl 3 rfl) ?_
  refine lv_iload_n X.1.1 X.1.2.1 d_lw_law_254 rfl (lv_at hl 0 rfl) ?_
  refine lv_iconst (v := 3) X.1.1 X.1.2.1 d_lw_law_255 rfl ?_
  refine lv_iadd X.1.1 X.1.2.1 d_lw_law_256 ?_
  rw [show (3 : Int32) = nI 3 from rfl, nI_add]
  refine X.sld (by omega) hL d_lw_law_257 ?_
  refine lv_i2l X.1.1 X.1.2.1 d_lw_law_258 rfl ?_
  refine lv_bipush (v := 32) X.1.1 X.1.2.1 d_lw_law_259 rfl ?_
  refine lv_lshl X.1.1 X.1.2.1 d_lw_law_261 rfl ?_
  refine lv_aload_n X.1.1 X.1.2.1 d_lw_law_262 rfl (lv_at hl 3 rfl) ?_
  refine lv_iload_n X.1.1 X.1.2.1 d_lw_law_263 rfl (lv_at hl 0 rfl) ?_
  refine lv_iconst (v := 4) X.1.1 X.1.2.1 d_lw_law_264 rfl ?_
  refine lv_iadd X.1.1 X.1.2.1 d_lw_law_265 ?_
  rw [show (4 : Int32) = nI 4 from rfl, nI_add]
  refine X.sld (by omega) hL d_lw_law_266 ?_
  refine lv_i2l X.1.1 X.1.2.1 d_lw_law_267 rfl ?_
  refine lv_ldc2 (own := "MessageMachineLaw") (v := 4294967295) X.1.1 X.1.2.1 X.1.2.2.2.1 (X.1.2.2.2.2 _ mw_806) d_lw_law_268 ?_
  refine lv_land X.1.1 X.1.2.1 d_lw_law_271 ?_
  refine lv_lor X.1.1 X.1.2.1 d_lw_law_272 ?_
  refine lv_aload_n X.1.1 X.1.2.1 d_lw_law_273 rfl (lv_at hl 3 rfl) ?_
  refine lv_iload_n X.1.1 X.1.2.1 d_lw_law_274 rfl (lv_at hl 0 rfl) ?_
  refine lv_iconst (v := 5) X.1.1 X.1.2.1 d_lw_law_275 rfl ?_
  refine lv_iadd X.1.1 X.1.2.1 d_lw_law_276 ?_
  rw [show (5 : Int32) = nI 5 from rfl, nI_add]
  refine X.sld (by omega) hL d_lw_law_277 ?_
  refine lv_i2l X.1.1 X.1.2.1 d_lw_law_278 rfl ?_
  refine lv_bipush (v := 32) X.1.1 X.1.2.1 d_lw_law_279 rfl ?_
  refine lv_lshl X.1.1 X.1.2.1 d_lw_law_281 rfl ?_
  refine lv_aload_n X.1.1 X.1.2.1 d_lw_law_282 rfl (lv_at hl 3 rfl) ?_
  refine lv_iload_n X.1.1 X.1.2.1 d_lw_law_283 rfl (lv_at hl 0 rfl) ?_
  refine lv_bipush (v := 6) X.1.1 X.1.2.1 d_lw_law_284 rfl ?_
  refine lv_iadd X.1.1 X.1.2.1 d_lw_law_286 ?_
  rw [show (6 : Int32) = nI 6 from rfl, nI_add]
  refine X.sld (by omega) hL d_lw_law_287 ?_
  refine lv_i2l X.1.1 X.1.2.1 d_lw_law_288 rfl ?_
  refine lv_ldc2 (own := "MessageMachineLaw") (v := 4294967295) X.1.1 X.1.2.1 X.1.2.2.2.1 (X.1.2.2.2.2 _ mw_806) d_lw_law_289 ?_
  refine lv_land X.1.1 X.1.2.1 d_lw_law_292 ?_
  refine lv_lor X.1.1 X.1.2.1 d_lw_law_293 ?_
  refine LX.callM (k := 4) (c_rf_method X.injR _ _ _ _ _ hB.2.2.2.2.2) X (gt_V mw_600 mw_601 mw_602 mw_5 mw_603) ok_rf_method ⟨rfl, rfl, by decide, by decide⟩ X.rcR rfl hl.1 rfl (Nat.le_of_ble_eq_true rfl) d_lw_law_294 hcs (fun H locs X => ?_)
  refine lv_icmp_eq (tgt := 868) X.1.1 X.1.2.1 d_lw_law_297 rfl (fun _ => ?_) (fun h9 => absurd (s_method hB _ _ _ _).1 h9)
  exact lc_end (s_method hB _ _ _ _).2 X hl kk
set_option maxHeartbeats 4000000 in
theorem lc_2 (hB : BIG σ μ) (X : LX D adC ciC adR ciR p s m c b L xs H locs σ μ) (hl : lv_has ls 4 (LV adC adR b i)) (hi : i + 7 ≤ L) (hL : L ≤ 3584) (hcs : cells ≤ room_1.cells ∧ slots ≤ room_1.slots) (kk : NX p l e s m below meth c cells slots Q b L i D adC adR ciC ciR xs) : W p l e room_1 s m #[Value.ref b] below meth c H locs cells slots Q (F0 m 302 ls []) := by
  refine lv_aload_n X.1.1 X.1.2.1 d_lw_law_302 rfl (lv_at hl 2 rfl) ?_
  refine lv_aload_n X.1.1 X.1.2.1 d_lw_law_303 rfl (lv_at hl 3 rfl) ?_
  refine lv_iload_n X.1.1 X.1.2.1 d_lw_law_304 rfl (lv_at hl 0 rfl) ?_
  refine lv_iconst (v := 1) X.1.1 X.1.2.1 d_lw_law_305 rfl ?_
  refine lv_iadd X.1.1 X.1.2.1 d_lw_law_306 ?_
  rw [show (1 : Int32) = nI 1 from rfl, nI_add]
  refine X.sld (by omega) hL d_lw_law_307 ?_
  refine lv_aload_n X.1.1 X.1.2.1 d_lw_law_308 rfl (lv_at hl 3 rfl) ?_
  refine lv_iload_n X.1.1 X.1.2.1 d_lw_law_309 rfl (lv_at hl 0 rfl) ?_
  refine lv_iconst (v := 2) X.1.1 X.1.2.1 d_lw_law_310 rfl ?_
  refine lv_iadd X.1.1 X.1.2.1 d_lw_law_311 ?_
  rw [show (2 : Int32) = nI 2 from rfl, nI_add]
  refine X.sld (by omega) hL d_lw_law_312 ?_
  refine LX.callC (k := 2) (c_mm_make X.inj _ _ _ hB.1.rg) X (gt_V mw_205 mw_206 mw_207 mw_1 mw_208) ok_mm_make ⟨rfl, rfl, by decide, by decide⟩ X.rcC rfl hl.1 rfl (Nat.le_of_ble_eq_true rfl) d_lw_law_313 hcs (fun H locs X => ?_)
  refine lv_aload_n X.1.1 X.1.2.1 d_lw_law_316 rfl (lv_at hl 1 rfl) ?_
  refine lv_aload_n X.1.1 X.1.2.1 d_lw_law_317 rfl (lv_at hl 3 rfl) ?_
  refine lv_iload_n X.1.1 X.1.2.1 d_lw_law_318 rfl (lv_at hl 0 rfl) ?_
  refine lv_iconst (v := 1) X.1.1 X.1.2.1 d_lw_law_319 rfl ?_
  refine lv_iadd X.1.1 X.1.2.1 d_lw_law_320 ?_
  rw [show (1 : Int32) = nI 1 from rfl, nI_add]
  refine X.sld (by omega) hL d_lw_law_321 ?_
  refine lv_aload_n X.1.1 X.1.2.1 d_lw_law_322 rfl (lv_at hl 3 rfl) ?_
  refine lv_iload_n X.1.1 X.1.2.1 d_lw_law_323 rfl (lv_at hl 0 rfl) ?_
  refine lv_iconst (v := 2) X.1.1 X.1.2.1 d_lw_law_324 rfl ?_
  refine lv_iadd X.1.1 X.1.2.1 d_lw_law_325 ?_
  rw [show (2 : Int32) = nI 2 from rfl, nI_add]
  refine X.sld (by omega) hL d_lw_law_326 ?_
  refine LX.callM (k := 2) (c_rf_make X.injR _ _ _ hB.2.2.2.2.2) X (gt_V mw_608 mw_609 mw_610 mw_5 mw_611) ok_rf_make ⟨rfl, rfl, by decide, by decide⟩ X.rcR rfl hl.1 rfl (Nat.le_of_ble_eq_true rfl) d_lw_law_327 hcs (fun H locs X => ?_)
  refine lv_icmp_eq (tgt := 868) X.1.1 X.1.2.1 d_lw_law_330 rfl (fun _ => ?_) (fun h9 => absurd (s_make hB _ _).1 h9)
  exact lc_end (s_make hB _ _).2 X hl kk
set_option maxHeartbeats 4000000 in
theorem lc_3 (hB : BIG σ μ) (X : LX D adC ciC adR ciR p s m c b L xs H locs σ μ) (hl : lv_has ls 4 (LV adC adR b i)) (hi : i + 7 ≤ L) (hL : L ≤ 3584) (hcs : cells ≤ room_1.cells ∧ slots ≤ room_1.slots) (kk : NX p l e s m below meth c cells slots Q b L i D adC adR ciC ciR xs) : W p l e room_1 s m #[Value.ref b] below meth c H locs cells slots Q (F0 m 335 ls []) := by
  refine lv_aload_n X.1.1 X.1.2.1 d_lw_law_335 rfl (lv_at hl 2 rfl) ?_
  refine lv_aload_n X.1.1 X.1.2.1 d_lw_law_336 rfl (lv_at hl 3 rfl) ?_
  refine lv_iload_n X.1.1 X.1.2.1 d_lw_law_337 rfl (lv_at hl 0 rfl) ?_
  refine lv_iconst (v := 1) X.1.1 X.1.2.1 d_lw_law_338 rfl ?_
  refine lv_iadd X.1.1 X.1.2.1 d_lw_law_339 ?_
  rw [show (1 : Int32) = nI 1 from rfl, nI_add]
  refine X.sld (by omega) hL d_lw_law_340 ?_
  refine lv_aload_n X.1.1 X.1.2.1 d_lw_law_341 rfl (lv_at hl 3 rfl) ?_
  refine lv_iload_n X.1.1 X.1.2.1 d_lw_law_342 rfl (lv_at hl 0 rfl) ?_
  refine lv_iconst (v := 2) X.1.1 X.1.2.1 d_lw_law_343 rfl ?_
  refine lv_iadd X.1.1 X.1.2.1 d_lw_law_344 ?_
  rw [show (2 : Int32) = nI 2 from rfl, nI_add]
  refine X.sld (by omega) hL d_lw_law_345 ?_
  refine LX.callC (k := 2) (c_mm_number X.inj _ _ _ hB.1.rg) X (gt_V mw_213 mw_214 mw_215 mw_1 mw_216) ok_mm_number ⟨rfl, rfl, by decide, by decide⟩ X.rcC rfl hl.1 rfl (Nat.le_of_ble_eq_true rfl) d_lw_law_346 hcs (fun H locs X => ?_)
  refine lv_aload_n X.1.1 X.1.2.1 d_lw_law_349 rfl (lv_at hl 1 rfl) ?_
  refine lv_aload_n X.1.1 X.1.2.1 d_lw_law_350 rfl (lv_at hl 3 rfl) ?_
  refine lv_iload_n X.1.1 X.1.2.1 d_lw_law_351 rfl (lv_at hl 0 rfl) ?_
  refine lv_iconst (v := 1) X.1.1 X.1.2.1 d_lw_law_352 rfl ?_
  refine lv_iadd X.1.1 X.1.2.1 d_lw_law_353 ?_
  rw [show (1 : Int32) = nI 1 from rfl, nI_add]
  refine X.sld (by omega) hL d_lw_law_354 ?_
  refine lv_aload_n X.1.1 X.1.2.1 d_lw_law_355 rfl (lv_at hl 3 rfl) ?_
  refine lv_iload_n X.1.1 X.1.2.1 d_lw_law_356 rfl (lv_at hl 0 rfl) ?_
  refine lv_iconst (v := 2) X.1.1 X.1.2.1 d_lw_law_357 rfl ?_
  refine lv_iadd X.1.1 X.1.2.1 d_lw_law_358 ?_
  rw [show (2 : Int32) = nI 2 from rfl, nI_add]
  refine X.sld (by omega) hL d_lw_law_359 ?_
  refine LX.callM (k := 2) (c_rf_number X.injR _ _ _ hB.2.2.2.2.2) X (gt_V mw_612 mw_613 mw_614 mw_5 mw_615) ok_rf_number ⟨rfl, rfl, by decide, by decide⟩ X.rcR rfl hl.1 rfl (Nat.le_of_ble_eq_true rfl) d_lw_law_360 hcs (fun H locs X => ?_)
  refine lv_icmp_eq (tgt := 868) X.1.1 X.1.2.1 d_lw_law_363 rfl (fun _ => ?_) (fun h9 => absurd (s_number hB _ _).1 h9)
  exact lc_end (s_number hB _ _).2 X hl kk
set_option maxHeartbeats 4000000 in
theorem lc_4 (hB : BIG σ μ) (X : LX D adC ciC adR ciR p s m c b L xs H locs σ μ) (hl : lv_has ls 4 (LV adC adR b i)) (hi : i + 7 ≤ L) (hL : L ≤ 3584) (hcs : cells ≤ room_1.cells ∧ slots ≤ room_1.slots) (kk : NX p l e s m below meth c cells slots Q b L i D adC adR ciC ciR xs) : W p l e room_1 s m #[Value.ref b] below meth c H locs cells slots Q (F0 m 368 ls []) := by
  refine lv_aload_n X.1.1 X.1.2.1 d_lw_law_368 rfl (lv_at hl 2 rfl) ?_
  refine lv_aload_n X.1.1 X.1.2.1 d_lw_law_369 rfl (lv_at hl 3 rfl) ?_
  refine lv_iload_n X.1.1 X.1.2.1 d_lw_law_370 rfl (lv_at hl 0 rfl) ?_
  refine lv_iconst (v := 1) X.1.1 X.1.2.1 d_lw_law_371 rfl ?_
  refine lv_iadd X.1.1 X.1.2.1 d_lw_law_372 ?_
  rw [show (1 : Int32) = nI 1 from rfl, nI_add]
  refine X.sld (by omega) hL d_lw_law_373 ?_
  refine lv_aload_n X.1.1 X.1.2.1 d_lw_law_374 rfl (lv_at hl 3 rfl) ?_
  refine lv_iload_n X.1.1 X.1.2.1 d_lw_law_375 rfl (lv_at hl 0 rfl) ?_
  refine lv_iconst (v := 2) X.1.1 X.1.2.1 d_lw_law_376 rfl ?_
  refine lv_iadd X.1.1 X.1.2.1 d_lw_law_377 ?_
  rw [show (2 : Int32) = nI 2 from rfl, nI_add]
  refine X.sld (by omega) hL d_lw_law_378 ?_
  refine LX.callC (k := 2) (c_mm_move X.inj _ _ _ hB.1.rg) X (gt_V mw_217 mw_218 mw_219 mw_1 mw_220) ok_mm_move ⟨rfl, rfl, by decide, by decide⟩ X.rcC rfl hl.1 rfl (Nat.le_of_ble_eq_true rfl) d_lw_law_379 hcs (fun H locs X => ?_)
  refine lv_aload_n X.1.1 X.1.2.1 d_lw_law_382 rfl (lv_at hl 1 rfl) ?_
  refine lv_aload_n X.1.1 X.1.2.1 d_lw_law_383 rfl (lv_at hl 3 rfl) ?_
  refine lv_iload_n X.1.1 X.1.2.1 d_lw_law_384 rfl (lv_at hl 0 rfl) ?_
  refine lv_iconst (v := 1) X.1.1 X.1.2.1 d_lw_law_385 rfl ?_
  refine lv_iadd X.1.1 X.1.2.1 d_lw_law_386 ?_
  rw [show (1 : Int32) = nI 1 from rfl, nI_add]
  refine X.sld (by omega) hL d_lw_law_387 ?_
  refine lv_aload_n X.1.1 X.1.2.1 d_lw_law_388 rfl (lv_at hl 3 rfl) ?_
  refine lv_iload_n X.1.1 X.1.2.1 d_lw_law_389 rfl (lv_at hl 0 rfl) ?_
  refine lv_iconst (v := 2) X.1.1 X.1.2.1 d_lw_law_390 rfl ?_
  refine lv_iadd X.1.1 X.1.2.1 d_lw_law_391 ?_
  rw [show (2 : Int32) = nI 2 from rfl, nI_add]
  refine X.sld (by omega) hL d_lw_law_392 ?_
  refine LX.callM (k := 2) (c_rf_move X.injR _ _ _ hB.2.2.2.2.2) X (gt_V mw_620 mw_621 mw_622 mw_5 mw_623) ok_rf_move ⟨rfl, rfl, by decide, by decide⟩ X.rcR rfl hl.1 rfl (Nat.le_of_ble_eq_true rfl) d_lw_law_393 hcs (fun H locs X => ?_)
  refine lv_icmp_eq (tgt := 868) X.1.1 X.1.2.1 d_lw_law_396 rfl (fun _ => ?_) (fun h9 => absurd (s_move hB _ _).1 h9)
  exact lc_end (s_move hB _ _).2 X hl kk
set_option maxHeartbeats 4000000 in
theorem lc_5 (hB : BIG σ μ) (X : LX D adC ciC adR ciR p s m c b L xs H locs σ μ) (hl : lv_has ls 4 (LV adC adR b i)) (hi : i + 7 ≤ L) (hL : L ≤ 3584) (hcs : cells ≤ room_1.cells ∧ slots ≤ room_1.slots) (kk : NX p l e s m below meth c cells slots Q b L i D adC adR ciC ciR xs) : W p l e room_1 s m #[Value.ref b] below meth c H locs cells slots Q (F0 m 401 ls []) := by
  refine lv_aload_n X.1.1 X.1.2.1 d_lw_law_401 rfl (lv_at hl 2 rfl) ?_
  refine lv_aload_n X.1.1 X.1.2.1 d_lw_law_402 rfl (lv_at hl 3 rfl) ?_
  refine lv_iload_n X.1.1 X.1.2.1 d_lw_law_403 rfl (lv_at hl 0 rfl) ?_
  refine lv_iconst (v := 1) X.1.1 X.1.2.1 d_lw_law_404 rfl ?_
  refine lv_iadd X.1.1 X.1.2.1 d_lw_law_405 ?_
  rw [show (1 : Int32) = nI 1 from rfl, nI_add]
  refine X.sld (by omega) hL d_lw_law_406 ?_
  refine LX.callC (k := 1) (c_mm_drop X.inj _ _ hB.1.rg) X (gt_V mw_221 mw_222 mw_223 mw_1 mw_224) ok_mm_drop ⟨rfl, rfl, by decide, by decide⟩ X.rcC rfl hl.1 rfl (Nat.le_of_ble_eq_true rfl) d_lw_law_407 hcs (fun H locs X => ?_)
  refine lv_aload_n X.1.1 X.1.2.1 d_lw_law_410 rfl (lv_at hl 1 rfl) ?_
  refine lv_aload_n X.1.1 X.1.2.1 d_lw_law_411 rfl (lv_at hl 3 rfl) ?_
  refine lv_iload_n X.1.1 X.1.2.1 d_lw_law_412 rfl (lv_at hl 0 rfl) ?_
  refine lv_iconst (v := 1) X.1.1 X.1.2.1 d_lw_law_413 rfl ?_
  refine lv_iadd X.1.1 X.1.2.1 d_lw_law_414 ?_
  rw [show (1 : Int32) = nI 1 from rfl, nI_add]
  refine X.sld (by omega) hL d_lw_law_415 ?_
  refine LX.callM (k := 1) (c_rf_drop X.injR _ _ hB.2.2.2.2.2) X (gt_V mw_624 mw_625 mw_626 mw_5 mw_627) ok_rf_drop ⟨rfl, rfl, by decide, by decide⟩ X.rcR rfl hl.1 rfl (Nat.le_of_ble_eq_true rfl) d_lw_law_416 hcs (fun H locs X => ?_)
  refine lv_icmp_eq (tgt := 868) X.1.1 X.1.2.1 d_lw_law_419 rfl (fun _ => ?_) (fun h9 => absurd (s_drop hB _).1 h9)
  exact lc_end (s_drop hB _).2 X hl kk
set_option maxHeartbeats 4000000 in
theorem lc_6 (hB : BIG σ μ) (X : LX D adC ciC adR ciR p s m c b L xs H locs σ μ) (hl : lv_has ls 4 (LV adC adR b i)) (hi : i + 7 ≤ L) (hL : L ≤ 3584) (hcs : cells ≤ room_1.cells ∧ slots ≤ room_1.slots) (kk : NX p l e s m below meth c cells slots Q b L i D adC adR ciC ciR xs) : W p l e room_1 s m #[Value.ref b] below meth c H locs cells slots Q (F0 m 424 ls []) := by
  refine lv_aload_n X.1.1 X.1.2.1 d_lw_law_424 rfl (lv_at hl 2 rfl) ?_
  refine lv_aload_n X.1.1 X.1.2.1 d_lw_law_425 rfl (lv_at hl 3 rfl) ?_
  refine lv_iload_n X.1.1 X.1.2.1 d_lw_law_426 rfl (lv_at hl 0 rfl) ?_
  refine lv_iconst (v := 1) X.1.1 X.1.2.1 d_lw_law_427 rfl ?_
  refine lv_iadd X.1.1 X.1.2.1 d_lw_law_428 ?_
  rw [show (1 : Int32) = nI 1 from rfl, nI_add]
  refine X.sld (by omega) hL d_lw_law_429 ?_
  refine lv_aload_n X.1.1 X.1.2.1 d_lw_law_430 rfl (lv_at hl 3 rfl) ?_
  refine lv_iload_n X.1.1 X.1.2.1 d_lw_law_431 rfl (lv_at hl 0 rfl) ?_
  refine lv_iconst (v := 2) X.1.1 X.1.2.1 d_lw_law_432 rfl ?_
  refine lv_iadd X.1.1 X.1.2.1 d_lw_law_433 ?_
  rw [show (2 : Int32) = nI 2 from rfl, nI_add]
  refine X.sld (by omega) hL d_lw_law_434 ?_
  refine lv_aload_n X.1.1 X.1.2.1 d_lw_law_435 rfl (lv_at hl 3 rfl) ?_
  refine lv_iload_n X.1.1 X.1.2.1 d_lw_law_436 rfl (lv_at hl 0 rfl) ?_
  refine lv_iconst (v := 3) X.1.1 X.1.2.1 d_lw_law_437 rfl ?_
  refine lv_iadd X.1.1 X.1.2.1 d_lw_law_438 ?_
  rw [show (3 : Int32) = nI 3 from rfl, nI_add]
  refine X.sld (by omega) hL d_lw_law_439 ?_
  refine LX.callC (k := 3) (c_mm_fetch X.inj _ _ _ _ hB.1.rg) X (gt_V mw_225 mw_226 mw_227 mw_1 mw_228) ok_mm_fetch ⟨rfl, rfl, by decide, by decide⟩ X.rcC rfl hl.1 rfl (Nat.le_of_ble_eq_true rfl) d_lw_law_440 hcs (fun H locs X => ?_)
  refine lv_aload_n X.1.1 X.1.2.1 d_lw_law_443 rfl (lv_at hl 1 rfl) ?_
  refine lv_aload_n X.1.1 X.1.2.1 d_lw_law_444 rfl (lv_at hl 3 rfl) ?_
  refine lv_iload_n X.1.1 X.1.2.1 d_lw_law_445 rfl (lv_at hl 0 rfl) ?_
  refine lv_iconst (v := 1) X.1.1 X.1.2.1 d_lw_law_446 rfl ?_
  refine lv_iadd X.1.1 X.1.2.1 d_lw_law_447 ?_
  rw [show (1 : Int32) = nI 1 from rfl, nI_add]
  refine X.sld (by omega) hL d_lw_law_448 ?_
  refine lv_aload_n X.1.1 X.1.2.1 d_lw_law_449 rfl (lv_at hl 3 rfl) ?_
  refine lv_iload_n X.1.1 X.1.2.1 d_lw_law_450 rfl (lv_at hl 0 rfl) ?_
  refine lv_iconst (v := 2) X.1.1 X.1.2.1 d_lw_law_451 rfl ?_
  refine lv_iadd X.1.1 X.1.2.1 d_lw_law_452 ?_
  rw [show (2 : Int32) = nI 2 from rfl, nI_add]
  refine X.sld (by omega) hL d_lw_law_453 ?_
  refine lv_aload_n X.1.1 X.1.2.1 d_lw_law_454 rfl (lv_at hl 3 rfl) ?_
  refine lv_iload_n X.1.1 X.1.2.1 d_lw_law_455 rfl (lv_at hl 0 rfl) ?_
  refine lv_iconst (v := 3) X.1.1 X.1.2.1 d_lw_law_456 rfl ?_
  refine lv_iadd X.1.1 X.1.2.1 d_lw_law_457 ?_
  rw [show (3 : Int32) = nI 3 from rfl, nI_add]
  refine X.sld (by omega) hL d_lw_law_458 ?_
  refine LX.callM (k := 3) (c_rf_fetch X.injR _ _ _ _ hB.2.2.2.2.2) X (gt_V mw_628 mw_629 mw_630 mw_5 mw_631) ok_rf_fetch ⟨rfl, rfl, by decide, by decide⟩ X.rcR rfl hl.1 rfl (Nat.le_of_ble_eq_true rfl) d_lw_law_459 hcs (fun H locs X => ?_)
  refine lv_icmp_eq (tgt := 868) X.1.1 X.1.2.1 d_lw_law_462 rfl (fun _ => ?_) (fun h9 => absurd (s_fetch hB _ _ _).1 h9)
  exact lc_end (s_fetch hB _ _ _).2 X hl kk
set_option maxHeartbeats 4000000 in
theorem lc_7 (hB : BIG σ μ) (X : LX D adC ciC adR ciR p s m c b L xs H locs σ μ) (hl : lv_has ls 4 (LV adC adR b i)) (hi : i + 7 ≤ L) (hL : L ≤ 3584) (hcs : cells ≤ room_1.cells ∧ slots ≤ room_1.slots) (kk : NX p l e s m below meth c cells slots Q b L i D adC adR ciC ciR xs) : W p l e room_1 s m #[Value.ref b] below meth c H locs cells slots Q (F0 m 467 ls []) := by
  refine lv_aload_n X.1.1 X.1.2.1 d_lw_law_467 rfl (lv_at hl 2 rfl) ?_
  refine lv_aload_n X.1.1 X.1.2.1 d_lw_law_468 rfl (lv_at hl 3 rfl) ?_
  refine lv_iload_n X.1.1 X.1.2.1 d_lw_law_469 rfl (lv_at hl 0 rfl) ?_
  refine lv_iconst (v := 1) X.1.1 X.1.2.1 d_lw_law_470 rfl ?_
  refine lv_iadd X.1.1 X.1.2.1 d_lw_law_471 ?_
  rw [show (1 : Int32) = nI 1 from rfl, nI_add]
  refine X.sld (by omega) hL d_lw_law_472 ?_
  refine lv_aload_n X.1.1 X.1.2.1 d_lw_law_473 rfl (lv_at hl 3 rfl) ?_
  refine lv_iload_n X.1.1 X.1.2.1 d_lw_law_474 rfl (lv_at hl 0 rfl) ?_
  refine lv_iconst (v := 2) X.1.1 X.1.2.1 d_lw_law_475 rfl ?_
  refine lv_iadd X.1.1 X.1.2.1 d_lw_law_476 ?_
  rw [show (2 : Int32) = nI 2 from rfl, nI_add]
  refine X.sld (by omega) hL d_lw_law_477 ?_
  refine LX.callC (k := 2) (c_mm_kind X.inj _ _ _ hB.1.rg) X (gt_V mw_237 mw_238 mw_239 mw_1 mw_240) ok_mm_kind ⟨rfl, rfl, by decide, by decide⟩ X.rcC rfl hl.1 rfl (Nat.le_of_ble_eq_true rfl) d_lw_law_478 hcs (fun H locs X => ?_)
  refine lv_aload_n X.1.1 X.1.2.1 d_lw_law_481 rfl (lv_at hl 1 rfl) ?_
  refine lv_aload_n X.1.1 X.1.2.1 d_lw_law_482 rfl (lv_at hl 3 rfl) ?_
  refine lv_iload_n X.1.1 X.1.2.1 d_lw_law_483 rfl (lv_at hl 0 rfl) ?_
  refine lv_iconst (v := 1) X.1.1 X.1.2.1 d_lw_law_484 rfl ?_
  refine lv_iadd X.1.1 X.1.2.1 d_lw_law_485 ?_
  rw [show (1 : Int32) = nI 1 from rfl, nI_add]
  refine X.sld (by omega) hL d_lw_law_486 ?_
  refine lv_aload_n X.1.1 X.1.2.1 d_lw_law_487 rfl (lv_at hl 3 rfl) ?_
  refine lv_iload_n X.1.1 X.1.2.1 d_lw_law_488 rfl (lv_at hl 0 rfl) ?_
  refine lv_iconst (v := 2) X.1.1 X.1.2.1 d_lw_law_489 rfl ?_
  refine lv_iadd X.1.1 X.1.2.1 d_lw_law_490 ?_
  rw [show (2 : Int32) = nI 2 from rfl, nI_add]
  refine X.sld (by omega) hL d_lw_law_491 ?_
  refine LX.callM (k := 2) (c_rf_kind X.injR _ _ _ hB.2.2.2.2.2) X (gt_V mw_636 mw_637 mw_638 mw_5 mw_639) ok_rf_kind ⟨rfl, rfl, by decide, by decide⟩ X.rcR rfl hl.1 rfl (Nat.le_of_ble_eq_true rfl) d_lw_law_492 hcs (fun H locs X => ?_)
  refine lv_icmp_eq (tgt := 868) X.1.1 X.1.2.1 d_lw_law_495 rfl (fun _ => ?_) (fun h9 => absurd (s_kind hB _ _).1 h9)
  exact lc_end (s_kind hB _ _).2 X hl kk
set_option maxHeartbeats 4000000 in
theorem lc_8 (hB : BIG σ μ) (X : LX D adC ciC adR ciR p s m c b L xs H locs σ μ) (hl : lv_has ls 4 (LV adC adR b i)) (hi : i + 7 ≤ L) (hL : L ≤ 3584) (hcs : cells ≤ room_1.cells ∧ slots ≤ room_1.slots) (kk : NX p l e s m below meth c cells slots Q b L i D adC adR ciC ciR xs) : W p l e room_1 s m #[Value.ref b] below meth c H locs cells slots Q (F0 m 500 ls []) := by
  refine lv_aload_n X.1.1 X.1.2.1 d_lw_law_500 rfl (lv_at hl 2 rfl) ?_
  refine lv_aload_n X.1.1 X.1.2.1 d_lw_law_501 rfl (lv_at hl 3 rfl) ?_
  refine lv_iload_n X.1.1 X.1.2.1 d_lw_law_502 rfl (lv_at hl 0 rfl) ?_
  refine lv_iconst (v := 1) X.1.1 X.1.2.1 d_lw_law_503 rfl ?_
  refine lv_iadd X.1.1 X.1.2.1 d_lw_law_504 ?_
  rw [show (1 : Int32) = nI 1 from rfl, nI_add]
  refine X.sld (by omega) hL d_lw_law_505 ?_
  refine lv_aload_n X.1.1 X.1.2.1 d_lw_law_506 rfl (lv_at hl 3 rfl) ?_
  refine lv_iload_n X.1.1 X.1.2.1 d_lw_law_507 rfl (lv_at hl 0 rfl) ?_
  refine lv_iconst (v := 2) X.1.1 X.1.2.1 d_lw_law_508 rfl ?_
  refine lv_iadd X.1.1 X.1.2.1 d_lw_law_509 ?_
  rw [show (2 : Int32) = nI 2 from rfl, nI_add]
  refine X.sld (by omega) hL d_lw_law_510 ?_
  refine lv_aload_n X.1.1 X.1.2.1 d_lw_law_511 rfl (lv_at hl 3 rfl) ?_
  refine lv_iload_n X.1.1 X.1.2.1 d_lw_law_512 rfl (lv_at hl 0 rfl) ?_
  refine lv_iconst (v := 3) X.1.1 X.1.2.1 d_lw_law_513 rfl ?_
  refine lv_iadd X.1.1 X.1.2.1 d_lw_law_514 ?_
  rw [show (3 : Int32) = nI 3 from rfl, nI_add]
  refine X.sld (by omega) hL d_lw_law_515 ?_
  refine LX.callC (k := 3) (c_mm_store X.inj _ _ _ _ hB.1.rg) X (gt_V mw_248 mw_249 mw_250 mw_1 mw_251) ok_mm_store ⟨rfl, rfl, by decide, by decide⟩ X.rcC rfl hl.1 rfl (Nat.le_of_ble_eq_true rfl) d_lw_law_516 hcs (fun H locs X => ?_)
  refine lv_aload_n X.1.1 X.1.2.1 d_lw_law_519 rfl (lv_at hl 1 rfl) ?_
  refine lv_aload_n X.1.1 X.1.2.1 d_lw_law_520 rfl (lv_at hl 3 rfl) ?_
  refine lv_iload_n X.1.1 X.1.2.1 d_lw_law_521 rfl (lv_at hl 0 rfl) ?_
  refine lv_iconst (v := 1) X.1.1 X.1.2.1 d_lw_law_522 rfl ?_
  refine lv_iadd X.1.1 X.1.2.1 d_lw_law_523 ?_
  rw [show (1 : Int32) = nI 1 from rfl, nI_add]
  refine X.sld (by omega) hL d_lw_law_524 ?_
  refine lv_aload_n X.1.1 X.1.2.1 d_lw_law_525 rfl (lv_at hl 3 rfl) ?_
  refine lv_iload_n X.1.1 X.1.2.1 d_lw_law_526 rfl (lv_at hl 0 rfl) ?_
  refine lv_iconst (v := 2) X.1.1 X.1.2.1 d_lw_law_527 rfl ?_
  refine lv_iadd X.1.1 X.1.2.1 d_lw_law_528 ?_
  rw [show (2 : Int32) = nI 2 from rfl, nI_add]
  refine X.sld (by omega) hL d_lw_law_529 ?_
  refine lv_aload_n X.1.1 X.1.2.1 d_lw_law_530 rfl (lv_at hl 3 rfl) ?_
  refine lv_iload_n X.1.1 X.1.2.1 d_lw_law_531 rfl (lv_at hl 0 rfl) ?_
  refine lv_iconst (v := 3) X.1.1 X.1.2.1 d_lw_law_532 rfl ?_
  refine lv_iadd X.1.1 X.1.2.1 d_lw_law_533 ?_
  rw [show (3 : Int32) = nI 3 from rfl, nI_add]
  refine X.sld (by omega) hL d_lw_law_534 ?_
  refine LX.callM (k := 3) (c_rf_store X.injR _ _ _ _ hB.2.2.2.2.2) X (gt_V mw_644 mw_645 mw_646 mw_5 mw_647) ok_rf_store ⟨rfl, rfl, by decide, by decide⟩ X.rcR rfl hl.1 rfl (Nat.le_of_ble_eq_true rfl) d_lw_law_535 hcs (fun H locs X => ?_)
  refine lv_icmp_eq (tgt := 868) X.1.1 X.1.2.1 d_lw_law_538 rfl (fun _ => ?_) (fun h9 => absurd (s_store hB _ _ _).1 h9)
  exact lc_end (s_store hB _ _ _).2 X hl kk
set_option maxHeartbeats 4000000 in
theorem lc_9 (hB : BIG σ μ) (X : LX D adC ciC adR ciR p s m c b L xs H locs σ μ) (hl : lv_has ls 4 (LV adC adR b i)) (hi : i + 7 ≤ L) (hL : L ≤ 3584) (hcs : cells ≤ room_1.cells ∧ slots ≤ room_1.slots) (kk : NX p l e s m below meth c cells slots Q b L i D adC adR ciC ciR xs) : W p l e room_1 s m #[Value.ref b] below meth c H locs cells slots Q (F0 m 543 ls []) := by
  refine lv_aload_n X.1.1 X.1.2.1 d_lw_law_543 rfl (lv_at hl 2 rfl) ?_
  refine lv_aload_n X.1.1 X.1.2.1 d_lw_law_544 rfl (lv_at hl 3 rfl) ?_
  refine lv_iload_n X.1.1 X.1.2.1 d_lw_law_545 rfl (lv_at hl 0 rfl) ?_
  refine lv_iconst (v := 1) X.1.1 X.1.2.1 d_lw_law_546 rfl ?_
  refine lv_iadd X.1.1 X.1.2.1 d_lw_law_547 ?_
  rw [show (1 : Int32) = nI 1 from rfl, nI_add]
  refine X.sld (by omega) hL d_lw_law_548 ?_
  refine lv_aload_n X.1.1 X.1.2.1 d_lw_law_549 rfl (lv_at hl 3 rfl) ?_
  refine lv_iload_n X.1.1 X.1.2.1 d_lw_law_550 rfl (lv_at hl 0 rfl) ?_
  refine lv_iconst (v := 2) X.1.1 X.1.2.1 d_lw_law_551 rfl ?_
  refine lv_iadd X.1.1 X.1.2.1 d_lw_law_552 ?_
  rw [show (2 : Int32) = nI 2 from rfl, nI_add]
  refine X.sld (by omega) hL d_lw_law_553 ?_
  refine LX.callC (k := 2) (c_mm_inherit X.inj _ _ _ hB.1.rg (bg_inh hB)) X (gt_V mw_262 mw_263 mw_264 mw_1 mw_265) ok_mm_inherit ⟨rfl, rfl, by decide, by decide⟩ X.rcC rfl hl.1 rfl (Nat.le_of_ble_eq_true rfl) d_lw_law_554 hcs (fun H locs X => ?_)
  refine lv_aload_n X.1.1 X.1.2.1 d_lw_law_557 rfl (lv_at hl 1 rfl) ?_
  refine lv_aload_n X.1.1 X.1.2.1 d_lw_law_558 rfl (lv_at hl 3 rfl) ?_
  refine lv_iload_n X.1.1 X.1.2.1 d_lw_law_559 rfl (lv_at hl 0 rfl) ?_
  refine lv_iconst (v := 1) X.1.1 X.1.2.1 d_lw_law_560 rfl ?_
  refine lv_iadd X.1.1 X.1.2.1 d_lw_law_561 ?_
  rw [show (1 : Int32) = nI 1 from rfl, nI_add]
  refine X.sld (by omega) hL d_lw_law_562 ?_
  refine lv_aload_n X.1.1 X.1.2.1 d_lw_law_563 rfl (lv_at hl 3 rfl) ?_
  refine lv_iload_n X.1.1 X.1.2.1 d_lw_law_564 rfl (lv_at hl 0 rfl) ?_
  refine lv_iconst (v := 2) X.1.1 X.1.2.1 d_lw_law_565 rfl ?_
  refine lv_iadd X.1.1 X.1.2.1 d_lw_law_566 ?_
  rw [show (2 : Int32) = nI 2 from rfl, nI_add]
  refine X.sld (by omega) hL d_lw_law_567 ?_
  refine LX.callM (k := 2) (c_rf_inherit X.injR _ _ _ hB.2.2.2.2.2 (bg_inhM hB)) X (gt_V mw_648 mw_649 mw_650 mw_5 mw_651) ok_rf_inherit ⟨rfl, rfl, by decide, by decide⟩ X.rcR rfl hl.1 rfl (Nat.le_of_ble_eq_true rfl) d_lw_law_568 hcs (fun H locs X => ?_)
  refine lv_icmp_eq (tgt := 868) X.1.1 X.1.2.1 d_lw_law_571 rfl (fun _ => ?_) (fun h9 => absurd (s_inherit hB _ _).1 h9)
  exact lc_end (s_inherit hB _ _).2 X hl kk
set_option maxHeartbeats 4000000 in
theorem lc_10 (hB : BIG σ μ) (X : LX D adC ciC adR ciR p s m c b L xs H locs σ μ) (hl : lv_has ls 4 (LV adC adR b i)) (hi : i + 7 ≤ L) (hL : L ≤ 3584) (hcs : cells ≤ room_1.cells ∧ slots ≤ room_1.slots) (kk : NX p l e s m below meth c cells slots Q b L i D adC adR ciC ciR xs) : W p l e room_1 s m #[Value.ref b] below meth c H locs cells slots Q (F0 m 576 ls []) := by
  refine lv_aload_n X.1.1 X.1.2.1 d_lw_law_576 rfl (lv_at hl 2 rfl) ?_
  refine lv_aload_n X.1.1 X.1.2.1 d_lw_law_577 rfl (lv_at hl 3 rfl) ?_
  refine lv_iload_n X.1.1 X.1.2.1 d_lw_law_578 rfl (lv_at hl 0 rfl) ?_
  refine lv_iconst (v := 1) X.1.1 X.1.2.1 d_lw_law_579 rfl ?_
  refine lv_iadd X.1.1 X.1.2.1 d_lw_law_580 ?_
  rw [show (1 : Int32) = nI 1 from rfl, nI_add]
  refine X.sld (by omega) hL d_lw_law_581 ?_
  refine lv_aload_n X.1.1 X.1.2.1 d_lw_law_582 rfl (lv_at hl 3 rfl) ?_
  refine lv_iload_n X.1.1 X.1.2.1 d_lw_law_583 rfl (lv_at hl 0 rfl) ?_
  refine lv_iconst (v := 2) X.1.1 X.1.2.1 d_lw_law_584 rfl ?_
  refine lv_iadd X.1.1 X.1.2.1 d_lw_law_585 ?_
  rw [show (2 : Int32) = nI 2 from rfl, nI_add]
  refine X.sld (by omega) hL d_lw_law_586 ?_
  refine LX.callC (k := 2) (c_mm_send X.inj _ _ _ hB.1.rg hB.1.bz (bg_cow hB)) X (gt_V mw_270 mw_271 mw_272 mw_1 mw_273) ok_mm_send ⟨rfl, rfl, by decide, by decide⟩ X.rcC rfl hl.1 rfl (Nat.le_of_ble_eq_true rfl) d_lw_law_587 hcs (fun H locs X => ?_)
  refine lv_aload_n X.1.1 X.1.2.1 d_lw_law_590 rfl (lv_at hl 1 rfl) ?_
  refine lv_aload_n X.1.1 X.1.2.1 d_lw_law_591 rfl (lv_at hl 3 rfl) ?_
  refine lv_iload_n X.1.1 X.1.2.1 d_lw_law_592 rfl (lv_at hl 0 rfl) ?_
  refine lv_iconst (v := 1) X.1.1 X.1.2.1 d_lw_law_593 rfl ?_
  refine lv_iadd X.1.1 X.1.2.1 d_lw_law_594 ?_
  rw [show (1 : Int32) = nI 1 from rfl, nI_add]
  refine X.sld (by omega) hL d_lw_law_595 ?_
  refine lv_aload_n X.1.1 X.1.2.1 d_lw_law_596 rfl (lv_at hl 3 rfl) ?_
  refine lv_iload_n X.1.1 X.1.2.1 d_lw_law_597 rfl (lv_at hl 0 rfl) ?_
  refine lv_iconst (v := 2) X.1.1 X.1.2.1 d_lw_law_598 rfl ?_
  refine lv_iadd X.1.1 X.1.2.1 d_lw_law_599 ?_
  rw [show (2 : Int32) = nI 2 from rfl, nI_add]
  refine X.sld (by omega) hL d_lw_law_600 ?_
  refine LX.callM (k := 2) (c_rf_send X.injR _ _ _ hB.2.2.2.2.2 (bg_cowM hB)) X (gt_V mw_652 mw_653 mw_654 mw_5 mw_655) ok_rf_send ⟨rfl, rfl, by decide, by decide⟩ X.rcR rfl hl.1 rfl (Nat.le_of_ble_eq_true rfl) d_lw_law_601 hcs (fun H locs X => ?_)
  refine lv_icmp_eq (tgt := 868) X.1.1 X.1.2.1 d_lw_law_604 rfl (fun _ => ?_) (fun h9 => absurd (s_send hB _ _).1 h9)
  exact lc_end (s_send hB _ _).2 X hl kk
set_option maxHeartbeats 4000000 in
theorem lc_11 (hB : BIG σ μ) (X : LX D adC ciC adR ciR p s m c b L xs H locs σ μ) (hl : lv_has ls 4 (LV adC adR b i)) (hi : i + 7 ≤ L) (hL : L ≤ 3584) (hcs : cells ≤ room_1.cells ∧ slots ≤ room_1.slots) (kk : NX p l e s m below meth c cells slots Q b L i D adC adR ciC ciR xs) : W p l e room_1 s m #[Value.ref b] below meth c H locs cells slots Q (F0 m 609 ls []) := by
  refine lv_aload_n X.1.1 X.1.2.1 d_lw_law_609 rfl (lv_at hl 2 rfl) ?_
  refine lv_aload_n X.1.1 X.1.2.1 d_lw_law_610 rfl (lv_at hl 3 rfl) ?_
  refine lv_iload_n X.1.1 X.1.2.1 d_lw_law_611 rfl (lv_at hl 0 rfl) ?_
  refine lv_iconst (v := 1) X.1.1 X.1.2.1 d_lw_law_612 rfl ?_
  refine lv_iadd X.1.1 X.1.2.1 d_lw_law_613 ?_
  rw [show (1 : Int32) = nI 1 from rfl, nI_add]
  refine X.sld (by omega) hL d_lw_law_614 ?_
  refine LX.callC (k := 1) (c_mm_run X.inj _ (fun τ => ∃ υ, BIG τ υ) _ (fun τ ⟨υ, h9⟩ hc => BIG_ByOk h9 hc) (fun τ ⟨υ, h9⟩ hc => ⟨_, (s_step h9 hc).2⟩) ⟨μ, hB⟩) X (gt_V mw_303 mw_304 mw_305 mw_1 mw_306) ok_mm_run ⟨rfl, rfl, by decide, by decide⟩ X.rcC rfl hl.1 rfl (Nat.le_of_ble_eq_true rfl) d_lw_law_615 hcs (fun H locs X => ?_)
  refine lv_aload_n X.1.1 X.1.2.1 d_lw_law_618 rfl (lv_at hl 1 rfl) ?_
  refine lv_aload_n X.1.1 X.1.2.1 d_lw_law_619 rfl (lv_at hl 3 rfl) ?_
  refine lv_iload_n X.1.1 X.1.2.1 d_lw_law_620 rfl (lv_at hl 0 rfl) ?_
  refine lv_iconst (v := 1) X.1.1 X.1.2.1 d_lw_law_621 rfl ?_
  refine lv_iadd X.1.1 X.1.2.1 d_lw_law_622 ?_
  rw [show (1 : Int32) = nI 1 from rfl, nI_add]
  refine X.sld (by omega) hL d_lw_law_623 ?_
  refine LX.callM (k := 1) (c_rf_run X.injR _ σ _ hB) X (gt_V mw_664 mw_665 mw_666 mw_5 mw_667) ok_rf_run ⟨rfl, rfl, by decide, by decide⟩ X.rcR rfl hl.1 rfl (Nat.le_of_ble_eq_true rfl) d_lw_law_624 hcs (fun H locs X => ?_)
  refine lv_icmp_eq (tgt := 868) X.1.1 X.1.2.1 d_lw_law_627 rfl (fun _ => ?_) (fun h9 => absurd (s_run hB _).1 h9)
  exact lc_end (s_run hB _).2 X hl kk
set_option maxHeartbeats 4000000 in
theorem lc_12 (hB : BIG σ μ) (X : LX D adC ciC adR ciR p s m c b L xs H locs σ μ) (hl : lv_has ls 4 (LV adC adR b i)) (hi : i + 7 ≤ L) (hL : L ≤ 3584) (hcs : cells ≤ room_1.cells ∧ slots ≤ room_1.slots) (kk : NX p l e s m below meth c cells slots Q b L i D adC adR ciC ciR xs) : W p l e room_1 s m #[Value.ref b] below meth c H locs cells slots Q (F0 m 632 ls []) := by
  refine lv_aload_n X.1.1 X.1.2.1 d_lw_law_632 rfl (lv_at hl 2 rfl) ?_
  refine LX.callC (k := 0) (c_mm_abort X.inj _ hB.1.rg) X (gt_V mw_434 mw_435 mw_436 mw_1 mw_437) ok_mm_abort ⟨rfl, rfl, by decide, by decide⟩ X.rcC rfl hl.1 rfl (Nat.le_of_ble_eq_true rfl) d_lw_law_633 hcs (fun H locs X => ?_)
  refine lv_aload_n X.1.1 X.1.2.1 d_lw_law_636 rfl (lv_at hl 1 rfl) ?_
  refine LX.callM (k := 0) (c_rf_abort X.injR _ hB.2.2.2.2.2) X (gt_V mw_750 mw_751 mw_752 mw_5 mw_753) ok_rf_abort ⟨rfl, rfl, by decide, by decide⟩ X.rcR rfl hl.1 rfl (Nat.le_of_ble_eq_true rfl) d_lw_law_637 hcs (fun H locs X => ?_)
  refine lv_icmp_eq (tgt := 868) X.1.1 X.1.2.1 d_lw_law_640 rfl (fun _ => ?_) (fun h9 => absurd (s_abort hB).1 h9)
  exact lc_end (s_abort hB).2 X hl kk
set_option maxHeartbeats 4000000 in
theorem lc_13 (hB : BIG σ μ) (X : LX D adC ciC adR ciR p s m c b L xs H locs σ μ) (hl : lv_has ls 4 (LV adC adR b i)) (hi : i + 7 ≤ L) (hL : L ≤ 3584) (hcs : cells ≤ room_1.cells ∧ slots ≤ room_1.slots) (kk : NX p l e s m below meth c cells slots Q b L i D adC adR ciC ciR xs) : W p l e room_1 s m #[Value.ref b] below meth c H locs cells slots Q (F0 m 645 ls []) := by
  refine lv_aload_n X.1.1 X.1.2.1 d_lw_law_645 rfl (lv_at hl 2 rfl) ?_
  refine LX.callC (k := 0) (c_mm_sweep X.inj _ hB.1.rg) X (gt_V mw_442 mw_443 mw_444 mw_1 mw_445) ok_mm_sweep ⟨rfl, rfl, by decide, by decide⟩ X.rcC rfl hl.1 rfl (Nat.le_of_ble_eq_true rfl) d_lw_law_646 hcs (fun H locs X => ?_)
  refine lv_aload_n X.1.1 X.1.2.1 d_lw_law_649 rfl (lv_at hl 1 rfl) ?_
  refine LX.callM (k := 0) (c_rf_sweep X.injR _ hB.2.2.2.2.2) X (gt_V mw_754 mw_755 mw_756 mw_5 mw_757) ok_rf_sweep ⟨rfl, rfl, by decide, by decide⟩ X.rcR rfl hl.1 rfl (Nat.le_of_ble_eq_true rfl) d_lw_law_650 hcs (fun H locs X => ?_)
  refine lv_icmp_eq (tgt := 868) X.1.1 X.1.2.1 d_lw_law_653 rfl (fun _ => ?_) (fun h9 => absurd (q_sweep hB).1 h9)
  exact lc_end (q_sweep hB).2 X hl kk
set_option maxHeartbeats 4000000 in
theorem lc_14 (hB : BIG σ μ) (X : LX D adC ciC adR ciR p s m c b L xs H locs σ μ) (hl : lv_has ls 4 (LV adC adR b i)) (hi : i + 7 ≤ L) (hL : L ≤ 3584) (hcs : cells ≤ room_1.cells ∧ slots ≤ room_1.slots) (kk : NX p l e s m below meth c cells slots Q b L i D adC adR ciC ciR xs) : W p l e room_1 s m #[Value.ref b] below meth c H locs cells slots Q (F0 m 658 ls []) := by
  refine lv_aload_n X.1.1 X.1.2.1 d_lw_law_658 rfl (lv_at hl 2 rfl) ?_
  refine LX.callC (k := 0) (c_mm_state X.inj _ ) X (gt_V mw_462 mw_463 mw_464 mw_1 mw_465) ok_mm_state ⟨rfl, rfl, by decide, by decide⟩ X.rcC rfl hl.1 rfl (Nat.le_of_ble_eq_true rfl) d_lw_law_659 hcs (fun H locs X => ?_)
  refine lv_aload_n X.1.1 X.1.2.1 d_lw_law_662 rfl (lv_at hl 1 rfl) ?_
  refine LX.callM (k := 0) (c_rf_state X.injR _ ) X (gt_V mw_762 mw_763 mw_764 mw_5 mw_765) ok_rf_state ⟨rfl, rfl, by decide, by decide⟩ X.rcR rfl hl.1 rfl (Nat.le_of_ble_eq_true rfl) d_lw_law_663 hcs (fun H locs X => ?_)
  refine lv_icmp_eq (tgt := 868) X.1.1 X.1.2.1 d_lw_law_666 rfl (fun _ => ?_) (fun h9 => absurd (q_state hB) h9)
  exact lc_end hB X hl kk
set_option maxHeartbeats 4000000 in
theorem lc_15 (hB : BIG σ μ) (X : LX D adC ciC adR ciR p s m c b L xs H locs σ μ) (hl : lv_has ls 4 (LV adC adR b i)) (hi : i + 7 ≤ L) (hL : L ≤ 3584) (hcs : cells ≤ room_1.cells ∧ slots ≤ room_1.slots) (kk : NX p l e s m below meth c cells slots Q b L i D adC adR ciC ciR xs) : W p l e room_1 s m #[Value.ref b] below meth c H locs cells slots Q (F0 m 671 ls []) := by
  refine lv_aload_n X.1.1 X.1.2.1 d_lw_law_671 rfl (lv_at hl 2 rfl) ?_
  refine LX.callC (k := 0) (c_mm_reason X.inj _ ) X (gt_V mw_466 mw_467 mw_468 mw_1 mw_469) ok_mm_reason ⟨rfl, rfl, by decide, by decide⟩ X.rcC rfl hl.1 rfl (Nat.le_of_ble_eq_true rfl) d_lw_law_672 hcs (fun H locs X => ?_)
  refine lv_aload_n X.1.1 X.1.2.1 d_lw_law_675 rfl (lv_at hl 1 rfl) ?_
  refine LX.callM (k := 0) (c_rf_reason X.injR _ ) X (gt_V mw_766 mw_767 mw_768 mw_5 mw_769) ok_rf_reason ⟨rfl, rfl, by decide, by decide⟩ X.rcR rfl hl.1 rfl (Nat.le_of_ble_eq_true rfl) d_lw_law_676 hcs (fun H locs X => ?_)
  refine lv_icmp_eq (tgt := 868) X.1.1 X.1.2.1 d_lw_law_679 rfl (fun _ => ?_) (fun h9 => absurd (q_reason hB) h9)
  exact lc_end hB X hl kk
set_option maxHeartbeats 4000000 in
theorem lc_16 (hB : BIG σ μ) (X : LX D adC ciC adR ciR p s m c b L xs H locs σ μ) (hl : lv_has ls 4 (LV adC adR b i)) (hi : i + 7 ≤ L) (hL : L ≤ 3584) (hcs : cells ≤ room_1.cells ∧ slots ≤ room_1.slots) (kk : NX p l e s m below meth c cells slots Q b L i D adC adR ciC ciR xs) : W p l e room_1 s m #[Value.ref b] below meth c H locs cells slots Q (F0 m 684 ls []) := by
  refine lv_aload_n X.1.1 X.1.2.1 d_lw_law_684 rfl (lv_at hl 2 rfl) ?_
  refine LX.callC (k := 0) (c_mm_active X.inj _ ) X (gt_V mw_474 mw_475 mw_476 mw_1 mw_477) ok_mm_active ⟨rfl, rfl, by decide, by decide⟩ X.rcC rfl hl.1 rfl (Nat.le_of_ble_eq_true rfl) d_lw_law_685 hcs (fun H locs X => ?_)
  refine lv_aload_n X.1.1 X.1.2.1 d_lw_law_688 rfl (lv_at hl 1 rfl) ?_
  refine LX.callM (k := 0) (c_rf_active X.injR _ ) X (gt_V mw_770 mw_771 mw_772 mw_5 mw_773) ok_rf_active ⟨rfl, rfl, by decide, by decide⟩ X.rcR rfl hl.1 rfl (Nat.le_of_ble_eq_true rfl) d_lw_law_689 hcs (fun H locs X => ?_)
  refine lv_icmp_eq (tgt := 868) X.1.1 X.1.2.1 d_lw_law_692 rfl (fun _ => ?_) (fun h9 => absurd (q_active hB) h9)
  exact lc_end hB X hl kk
set_option maxHeartbeats 4000000 in
theorem lc_17 (hB : BIG σ μ) (X : LX D adC ciC adR ciR p s m c b L xs H locs σ μ) (hl : lv_has ls 4 (LV adC adR b i)) (hi : i + 7 ≤ L) (hL : L ≤ 3584) (hcs : cells ≤ room_1.cells ∧ slots ≤ room_1.slots) (kk : NX p l e s m below meth c cells slots Q b L i D adC adR ciC ciR xs) : W p l e room_1 s m #[Value.ref b] below meth c H locs cells slots Q (F0 m 697 ls []) := by
  refine lv_aload_n X.1.1 X.1.2.1 d_lw_law_697 rfl (lv_at hl 2 rfl) ?_
  refine lv_aload_n X.1.1 X.1.2.1 d_lw_law_698 rfl (lv_at hl 3 rfl) ?_
  refine lv_iload_n X.1.1 X.1.2.1 d_lw_law_699 rfl (lv_at hl 0 rfl) ?_
  refine lv_iconst (v := 1) X.1.1 X.1.2.1 d_lw_law_700 rfl ?_
  refine lv_iadd X.1.1 X.1.2.1 d_lw_law_701 ?_
  rw [show (1 : Int32) = nI 1 from rfl, nI_add]
  refine X.sld (by omega) hL d_lw_law_702 ?_
  refine LX.callC (k := 1) (c_mm_stack X.inj _ _ ) X (gt_V mw_478 mw_479 mw_480 mw_1 mw_481) ok_mm_stack ⟨rfl, rfl, by decide, by decide⟩ X.rcC rfl hl.1 rfl (Nat.le_of_ble_eq_true rfl) d_lw_law_703 hcs (fun H locs X => ?_)
  refine lv_aload_n X.1.1 X.1.2.1 d_lw_law_706 rfl (lv_at hl 1 rfl) ?_
  refine lv_aload_n X.1.1 X.1.2.1 d_lw_law_707 rfl (lv_at hl 3 rfl) ?_
  refine lv_iload_n X.1.1 X.1.2.1 d_lw_law_708 rfl (lv_at hl 0 rfl) ?_
  refine lv_iconst (v := 1) X.1.1 X.1.2.1 d_lw_law_709 rfl ?_
  refine lv_iadd X.1.1 X.1.2.1 d_lw_law_710 ?_
  rw [show (1 : Int32) = nI 1 from rfl, nI_add]
  refine X.sld (by omega) hL d_lw_law_711 ?_
  refine LX.callM (k := 1) (c_rf_stack X.injR _ _ ) X (gt_V mw_774 mw_775 mw_776 mw_5 mw_777) ok_rf_stack ⟨rfl, rfl, by decide, by decide⟩ X.rcR rfl hl.1 rfl (Nat.le_of_ble_eq_true rfl) d_lw_law_712 hcs (fun H locs X => ?_)
  refine lv_icmp_eq (tgt := 868) X.1.1 X.1.2.1 d_lw_law_715 rfl (fun _ => ?_) (fun h9 => absurd (q_stack hB _) h9)
  exact lc_end hB X hl kk
set_option maxHeartbeats 4000000 in
theorem lc_18 (hB : BIG σ μ) (X : LX D adC ciC adR ciR p s m c b L xs H locs σ μ) (hl : lv_has ls 4 (LV adC adR b i)) (hi : i + 7 ≤ L) (hL : L ≤ 3584) (hcs : cells ≤ room_1.cells ∧ slots ≤ room_1.slots) (kk : NX p l e s m below meth c cells slots Q b L i D adC adR ciC ciR xs) : W p l e room_1 s m #[Value.ref b] below meth c H locs cells slots Q (F0 m 720 ls []) := by
  refine lv_aload_n X.1.1 X.1.2.1 d_lw_law_720 rfl (lv_at hl 2 rfl) ?_
  refine lv_aload_n X.1.1 X.1.2.1 d_lw_law_721 rfl (lv_at hl 3 rfl) ?_
  refine lv_iload_n X.1.1 X.1.2.1 d_lw_law_722 rfl (lv_at hl 0 rfl) ?_
  refine lv_iconst (v := 1) X.1.1 X.1.2.1 d_lw_law_723 rfl ?_
  refine lv_iadd X.1.1 X.1.2.1 d_lw_law_724 ?_
  rw [show (1 : Int32) = nI 1 from rfl, nI_add]
  refine X.sld (by omega) hL d_lw_law_725 ?_
  refine LX.callC (k := 1) (c_mm_handle X.inj _ _ ) X (gt_V mw_484 mw_485 mw_486 mw_1 mw_487) ok_mm_handle ⟨rfl, rfl, by decide, by decide⟩ X.rcC rfl hl.1 rfl (Nat.le_of_ble_eq_true rfl) d_lw_law_726 hcs (fun H locs X => ?_)
  refine lv_aload_n X.1.1 X.1.2.1 d_lw_law_729 rfl (lv_at hl 1 rfl) ?_
  refine lv_aload_n X.1.1 X.1.2.1 d_lw_law_730 rfl (lv_at hl 3 rfl) ?_
  refine lv_iload_n X.1.1 X.1.2.1 d_lw_law_731 rfl (lv_at hl 0 rfl) ?_
  refine lv_iconst (v := 1) X.1.1 X.1.2.1 d_lw_law_732 rfl ?_
  refine lv_iadd X.1.1 X.1.2.1 d_lw_law_733 ?_
  rw [show (1 : Int32) = nI 1 from rfl, nI_add]
  refine X.sld (by omega) hL d_lw_law_734 ?_
  refine LX.callM (k := 1) (c_rf_handle X.injR _ _ ) X (gt_V mw_782 mw_783 mw_784 mw_5 mw_785) ok_rf_handle ⟨rfl, rfl, by decide, by decide⟩ X.rcR rfl hl.1 rfl (Nat.le_of_ble_eq_true rfl) d_lw_law_735 hcs (fun H locs X => ?_)
  refine lv_icmp_eq (tgt := 868) X.1.1 X.1.2.1 d_lw_law_738 rfl (fun _ => ?_) (fun h9 => absurd (q_handle hB _) h9)
  exact lc_end hB X hl kk
set_option maxHeartbeats 4000000 in
theorem lc_19 (hB : BIG σ μ) (X : LX D adC ciC adR ciR p s m c b L xs H locs σ μ) (hl : lv_has ls 4 (LV adC adR b i)) (hi : i + 7 ≤ L) (hL : L ≤ 3584) (hcs : cells ≤ room_1.cells ∧ slots ≤ room_1.slots) (kk : NX p l e s m below meth c cells slots Q b L i D adC adR ciC ciR xs) : W p l e room_1 s m #[Value.ref b] below meth c H locs cells slots Q (F0 m 743 ls []) := by
  refine lv_aload_n X.1.1 X.1.2.1 d_lw_law_743 rfl (lv_at hl 2 rfl) ?_
  refine lv_aload_n X.1.1 X.1.2.1 d_lw_law_744 rfl (lv_at hl 3 rfl) ?_
  refine lv_iload_n X.1.1 X.1.2.1 d_lw_law_745 rfl (lv_at hl 0 rfl) ?_
  refine lv_iconst (v := 1) X.1.1 X.1.2.1 d_lw_law_746 rfl ?_
  refine lv_iadd X.1.1 X.1.2.1 d_lw_law_747 ?_
  rw [show (1 : Int32) = nI 1 from rfl, nI_add]
  refine X.sld (by omega) hL d_lw_law_748 ?_
  refine lv_aload_n X.1.1 X.1.2.1 d_lw_law_749 rfl (lv_at hl 3 rfl) ?_
  refine lv_iload_n X.1.1 X.1.2.1 d_lw_law_750 rfl (lv_at hl 0 rfl) ?_
  refine lv_iconst (v := 2) X.1.1 X.1.2.1 d_lw_law_751 rfl ?_
  refine lv_iadd X.1.1 X.1.2.1 d_lw_law_752 ?_
  rw [show (2 : Int32) = nI 2 from rfl, nI_add]
  refine X.sld (by omega) hL d_lw_law_753 ?_
  refine LX.callC (k := 2) (c_mm_field X.inj _ _ _ hB.1.rg) X (gt_V mw_488 mw_489 mw_490 mw_1 mw_491) ok_mm_field ⟨rfl, rfl, by decide, by decide⟩ X.rcC rfl hl.1 rfl (Nat.le_of_ble_eq_true rfl) d_lw_law_754 hcs (fun H locs X => ?_)
  refine lv_aload_n X.1.1 X.1.2.1 d_lw_law_757 rfl (lv_at hl 1 rfl) ?_
  refine lv_aload_n X.1.1 X.1.2.1 d_lw_law_758 rfl (lv_at hl 3 rfl) ?_
  refine lv_iload_n X.1.1 X.1.2.1 d_lw_law_759 rfl (lv_at hl 0 rfl) ?_
  refine lv_iconst (v := 1) X.1.1 X.1.2.1 d_lw_law_760 rfl ?_
  refine lv_iadd X.1.1 X.1.2.1 d_lw_law_761 ?_
  rw [show (1 : Int32) = nI 1 from rfl, nI_add]
  refine X.sld (by omega) hL d_lw_law_762 ?_
  refine lv_aload_n X.1.1 X.1.2.1 d_lw_law_763 rfl (lv_at hl 3 rfl) ?_
  refine lv_iload_n X.1.1 X.1.2.1 d_lw_law_764 rfl (lv_at hl 0 rfl) ?_
  refine lv_iconst (v := 2) X.1.1 X.1.2.1 d_lw_law_765 rfl ?_
  refine lv_iadd X.1.1 X.1.2.1 d_lw_law_766 ?_
  rw [show (2 : Int32) = nI 2 from rfl, nI_add]
  refine X.sld (by omega) hL d_lw_law_767 ?_
  refine LX.callM (k := 2) (c_rf_field X.injR _ _ _ hB.2.2.2.2.2) X (gt_V mw_786 mw_787 mw_788 mw_5 mw_789) ok_rf_field ⟨rfl, rfl, by decide, by decide⟩ X.rcR rfl hl.1 rfl (Nat.le_of_ble_eq_true rfl) d_lw_law_768 hcs (fun H locs X => ?_)
  refine lv_icmp_eq (tgt := 868) X.1.1 X.1.2.1 d_lw_law_771 rfl (fun _ => ?_) (fun h9 => absurd (q_field hB _ _) h9)
  exact lc_end hB X hl kk
set_option maxHeartbeats 4000000 in
theorem lc_20 (hB : BIG σ μ) (X : LX D adC ciC adR ciR p s m c b L xs H locs σ μ) (hl : lv_has ls 4 (LV adC adR b i)) (hi : i + 7 ≤ L) (hL : L ≤ 3584) (hcs : cells ≤ room_1.cells ∧ slots ≤ room_1.slots) (kk : NX p l e s m below meth c cells slots Q b L i D adC adR ciC ciR xs) : W p l e room_1 s m #[Value.ref b] below meth c H locs cells slots Q (F0 m 776 ls []) := by
  refine lv_aload_n X.1.1 X.1.2.1 d_lw_law_776 rfl (lv_at hl 2 rfl) ?_
  refine lv_aload_n X.1.1 X.1.2.1 d_lw_law_777 rfl (lv_at hl 3 rfl) ?_
  refine lv_iload_n X.1.1 X.1.2.1 d_lw_law_778 rfl (lv_at hl 0 rfl) ?_
  refine lv_iconst (v := 1) X.1.1 X.1.2.1 d_lw_law_779 rfl ?_
  refine lv_iadd X.1.1 X.1.2.1 d_lw_law_780 ?_
  rw [show (1 : Int32) = nI 1 from rfl, nI_add]
  refine X.sld (by omega) hL d_lw_law_781 ?_
  refine LX.callC (k := 1) (c_mm_classOf X.inj _ _ ) X (gt_V mw_492 mw_493 mw_494 mw_1 mw_495) ok_mm_classOf ⟨rfl, rfl, by decide, by decide⟩ X.rcC rfl hl.1 rfl (Nat.le_of_ble_eq_true rfl) d_lw_law_782 hcs (fun H locs X => ?_)
  refine lv_aload_n X.1.1 X.1.2.1 d_lw_law_785 rfl (lv_at hl 1 rfl) ?_
  refine lv_aload_n X.1.1 X.1.2.1 d_lw_law_786 rfl (lv_at hl 3 rfl) ?_
  refine lv_iload_n X.1.1 X.1.2.1 d_lw_law_787 rfl (lv_at hl 0 rfl) ?_
  refine lv_iconst (v := 1) X.1.1 X.1.2.1 d_lw_law_788 rfl ?_
  refine lv_iadd X.1.1 X.1.2.1 d_lw_law_789 ?_
  rw [show (1 : Int32) = nI 1 from rfl, nI_add]
  refine X.sld (by omega) hL d_lw_law_790 ?_
  refine LX.callM (k := 1) (c_rf_classOf X.injR _ _ ) X (gt_V mw_790 mw_791 mw_792 mw_5 mw_793) ok_rf_classOf ⟨rfl, rfl, by decide, by decide⟩ X.rcR rfl hl.1 rfl (Nat.le_of_ble_eq_true rfl) d_lw_law_791 hcs (fun H locs X => ?_)
  refine lv_icmp_eq (tgt := 868) X.1.1 X.1.2.1 d_lw_law_794 rfl (fun _ => ?_) (fun h9 => absurd (q_classOf hB _) h9)
  exact lc_end hB X hl kk
set_option maxHeartbeats 4000000 in
theorem lc_21 (hB : BIG σ μ) (X : LX D adC ciC adR ciR p s m c b L xs H locs σ μ) (hl : lv_has ls 4 (LV adC adR b i)) (hi : i + 7 ≤ L) (hL : L ≤ 3584) (hcs : cells ≤ room_1.cells ∧ slots ≤ room_1.slots) (kk : NX p l e s m below meth c cells slots Q b L i D adC adR ciC ciR xs) : W p l e room_1 s m #[Value.ref b] below meth c H locs cells slots Q (F0 m 799 ls []) := by
  refine lv_aload_n X.1.1 X.1.2.1 d_lw_law_799 rfl (lv_at hl 2 rfl) ?_
  refine lv_aload_n X.1.1 X.1.2.1 d_lw_law_800 rfl (lv_at hl 3 rfl) ?_
  refine lv_iload_n X.1.1 X.1.2.1 d_lw_law_801 rfl (lv_at hl 0 rfl) ?_
  refine lv_iconst (v := 1) X.1.1 X.1.2.1 d_lw_law_802 rfl ?_
  refine lv_iadd X.1.1 X.1.2.1 d_lw_law_803 ?_
  rw [show (1 : Int32) = nI 1 from rfl, nI_add]
  refine X.sld (by omega) hL d_lw_law_804 ?_
  refine LX.callC (k := 1) (c_mm_count X.inj _ _ ) X (gt_V mw_497 mw_498 mw_499 mw_1 mw_500) ok_mm_count ⟨rfl, rfl, by decide, by decide⟩ X.rcC rfl hl.1 rfl (Nat.le_of_ble_eq_true rfl) d_lw_law_805 hcs (fun H locs X => ?_)
  refine lv_aload_n X.1.1 X.1.2.1 d_lw_law_808 rfl (lv_at hl 1 rfl) ?_
  refine lv_aload_n X.1.1 X.1.2.1 d_lw_law_809 rfl (lv_at hl 3 rfl) ?_
  refine lv_iload_n X.1.1 X.1.2.1 d_lw_law_810 rfl (lv_at hl 0 rfl) ?_
  refine lv_iconst (v := 1) X.1.1 X.1.2.1 d_lw_law_811 rfl ?_
  refine lv_iadd X.1.1 X.1.2.1 d_lw_law_812 ?_
  rw [show (1 : Int32) = nI 1 from rfl, nI_add]
  refine X.sld (by omega) hL d_lw_law_813 ?_
  refine LX.callM (k := 1) (c_rf_count X.injR _ _ hB.2.2.2.2.2) X (gt_V mw_794 mw_795 mw_796 mw_5 mw_797) ok_rf_count ⟨rfl, rfl, by decide, by decide⟩ X.rcR rfl hl.1 rfl (Nat.le_of_ble_eq_true rfl) d_lw_law_814 hcs (fun H locs X => ?_)
  refine lv_icmp_eq (tgt := 868) X.1.1 X.1.2.1 d_lw_law_817 rfl (fun _ => ?_) (fun h9 => absurd (q_count hB _).1 h9)
  exact lc_end (q_count hB _).2 X hl kk
set_option maxHeartbeats 4000000 in
theorem lc_22 (hB : BIG σ μ) (X : LX D adC ciC adR ciR p s m c b L xs H locs σ μ) (hl : lv_has ls 4 (LV adC adR b i)) (hi : i + 7 ≤ L) (hL : L ≤ 3584) (hcs : cells ≤ room_1.cells ∧ slots ≤ room_1.slots) (kk : NX p l e s m below meth c cells slots Q b L i D adC adR ciC ciR xs) : W p l e room_1 s m #[Value.ref b] below meth c H locs cells slots Q (F0 m 822 ls []) := by
  refine lv_aload_n X.1.1 X.1.2.1 d_lw_law_822 rfl (lv_at hl 2 rfl) ?_
  refine LX.callC (k := 0) (c_mm_alive X.inj _ ) X (gt_V mw_505 mw_506 mw_507 mw_1 mw_508) ok_mm_alive ⟨rfl, rfl, by decide, by decide⟩ X.rcC rfl hl.1 rfl (Nat.le_of_ble_eq_true rfl) d_lw_law_823 hcs (fun H locs X => ?_)
  refine lv_aload_n X.1.1 X.1.2.1 d_lw_law_826 rfl (lv_at hl 1 rfl) ?_
  refine LX.callM (k := 0) (c_rf_alive X.injR _ ) X (gt_V mw_798 mw_799 mw_800 mw_5 mw_801) ok_rf_alive ⟨rfl, rfl, by decide, by decide⟩ X.rcR rfl hl.1 rfl (Nat.le_of_ble_eq_true rfl) d_lw_law_827 hcs (fun H locs X => ?_)
  refine lv_icmp_eq (tgt := 868) X.1.1 X.1.2.1 d_lw_law_830 rfl (fun _ => ?_) (fun h9 => absurd (q_alive hB) h9)
  exact lc_end hB X hl kk
set_option maxHeartbeats 4000000 in
theorem lc_23 (hB : BIG σ μ) (X : LX D adC ciC adR ciR p s m c b L xs H locs σ μ) (hl : lv_has ls 4 (LV adC adR b i)) (hi : i + 7 ≤ L) (hL : L ≤ 3584) (hcs : cells ≤ room_1.cells ∧ slots ≤ room_1.slots) (kk : NX p l e s m below meth c cells slots Q b L i D adC adR ciC ciR xs) : W p l e room_1 s m #[Value.ref b] below meth c H locs cells slots Q (F0 m 835 ls []) := by
  refine lv_aload_n X.1.1 X.1.2.1 d_lw_law_835 rfl (lv_at hl 2 rfl) ?_
  refine lv_aload_n X.1.1 X.1.2.1 d_lw_law_836 rfl (lv_at hl 3 rfl) ?_
  refine lv_iload_n X.1.1 X.1.2.1 d_lw_law_837 rfl (lv_at hl 0 rfl) ?_
  refine lv_iconst (v := 1) X.1.1 X.1.2.1 d_lw_law_838 rfl ?_
  refine lv_iadd X.1.1 X.1.2.1 d_lw_law_839 ?_
  rw [show (1 : Int32) = nI 1 from rfl, nI_add]
  refine X.sld (by omega) hL d_lw_law_840 ?_
  refine lv_aload_n X.1.1 X.1.2.1 d_lw_law_841 rfl (lv_at hl 3 rfl) ?_
  refine lv_iload_n X.1.1 X.1.2.1 d_lw_law_842 rfl (lv_at hl 0 rfl) ?_
  refine lv_iconst (v := 2) X.1.1 X.1.2.1 d_lw_law_843 rfl ?_
  refine lv_iadd X.1.1 X.1.2.1 d_lw_law_844 ?_
  rw [show (2 : Int32) = nI 2 from rfl, nI_add]
  refine X.sld (by omega) hL d_lw_law_845 ?_
  refine LX.callC (k := 2) (c_mm_lookup X.inj _ _ _ hB.1.bz (bg_cow hB)) X (gt_V mw_513 mw_514 mw_515 mw_1 mw_516) ok_mm_lookup ⟨rfl, rfl, by decide, by decide⟩ X.rcC rfl hl.1 rfl (Nat.le_of_ble_eq_true rfl) d_lw_law_846 hcs (fun H locs X => ?_)
  refine lv_aload_n X.1.1 X.1.2.1 d_lw_law_849 rfl (lv_at hl 1 rfl) ?_
  refine lv_aload_n X.1.1 X.1.2.1 d_lw_law_850 rfl (lv_at hl 3 rfl) ?_
  refine lv_iload_n X.1.1 X.1.2.1 d_lw_law_851 rfl (lv_at hl 0 rfl) ?_
  refine lv_iconst (v := 1) X.1.1 X.1.2.1 d_lw_law_852 rfl ?_
  refine lv_iadd X.1.1 X.1.2.1 d_lw_law_853 ?_
  rw [show (1 : Int32) = nI 1 from rfl, nI_add]
  refine X.sld (by omega) hL d_lw_law_854 ?_
  refine lv_aload_n X.1.1 X.1.2.1 d_lw_law_855 rfl (lv_at hl 3 rfl) ?_
  refine lv_iload_n X.1.1 X.1.2.1 d_lw_law_856 rfl (lv_at hl 0 rfl) ?_
  refine lv_iconst (v := 2) X.1.1 X.1.2.1 d_lw_law_857 rfl ?_
  refine lv_iadd X.1.1 X.1.2.1 d_lw_law_858 ?_
  rw [show (2 : Int32) = nI 2 from rfl, nI_add]
  refine X.sld (by omega) hL d_lw_law_859 ?_
  refine LX.callM (k := 2) (c_rf_lookup X.injR _ _ _ hB.2.2.2.2.2 (bg_cowM hB)) X (gt_V mw_802 mw_803 mw_804 mw_5 mw_805) ok_rf_lookup ⟨rfl, rfl, by decide, by decide⟩ X.rcR rfl hl.1 rfl (Nat.le_of_ble_eq_true rfl) d_lw_law_860 hcs (fun H locs X => ?_)
  refine lv_icmp_eq (tgt := 868) X.1.1 X.1.2.1 d_lw_law_863 rfl (fun _ => ?_) (fun h9 => absurd (q_lookup hB _ _) h9)
  exact lc_end hB X hl kk
end LAWK
