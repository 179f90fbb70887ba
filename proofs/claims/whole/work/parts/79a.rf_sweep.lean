set_option maxHeartbeats 4000000 in
theorem c_rf_sweep {l : Launch} {D : va_G} {ad : Nat → Nat} {ci : Nat → ClassId} (hI : InjR ad) (σ : SS)  (hm : RGm σ) : Mi l y_rf_sweep b_rf_sweep 4 (some .int) ({ frames := 3, cells := 0, slots := 0, locals := 65 } : Room) (ER D ad ci) [.ref (ad 0)] σ ((sweepM σ).1) ((sweepM σ).2) := by
  refine Mi.start pn_rf (Nat.le_of_ble_eq_true rfl) (fun zp ze zs zm zb zt zc ls X hr hlk L => ?_)
  have L : lv_has ls 4 [(0, .ref (ad 0))] := L
  refine lv_iconst (v := 0) X.1.1 X.1.2.1 d_rf_sweep_0 rfl ?_
  refine lv_istore_n (lv' := [(1, .int _), (0, .ref _)]) X.1.1 X.1.2.1 d_rf_sweep_1 rfl L (by decide) rfl (fun ls L => ?_)
  have loop2 : ∀ (n : Nat) (k : Nat) (σ1 : SS) (H : Heap) (locs : List Loc) (ls : Array Slot), (k + n = 28) → (RGm σ1) → (swD (sw0L n k σ1) = sweepM σ) → Cx (ER D ad ci) zp zs zm (([.ref (ad 0)] : List Value).toArray) zc b_rf_sweep 4 "MessageMachineModel" H locs σ1 → lv_has ls 4 [(1, .int (nI k)), (0, .ref (ad 0))] → W zp l ze ({ frames := 3, cells := 0, slots := 0, locals := 65 } : Room) zs zm (([.ref (ad 0)] : List Value).toArray) zb zt zc H locs 0 0 (MQ zb (va_Qi (fun (x : Int32) (u : SS) => x = ((sweepM σ).1) ∧ u = ((sweepM σ).2)) (fun u t => Pq (ER D ad ci) u t) (ER D ad ci).2.2.2) (([.ref (ad 0)] : List Value).toArray) zs 0 0 (ER D ad ci).2.2.2) (F0 zm 2 ls []) := by
    intro n
    induction n with
    | zero =>
      intro k σ1 H locs ls hk hm1 hq X L
      refine lv_iload_n X.1.1 X.1.2.1 d_rf_sweep_2 rfl (lv_at L 0 rfl) ?_
      refine lv_bipush (v := 28) X.1.1 X.1.2.1 d_rf_sweep_3 rfl ?_
      refine lv_icmp_ge (tgt := 30) X.1.1 X.1.2.1 d_rf_sweep_5 rfl (fun h5 => ?_) (fun h5 => ?_)
      · skip
        refine lv_iconst (v := 0) X.1.1 X.1.2.1 d_rf_sweep_30 rfl ?_
        refine lv_istore_n (lv' := [(1, .int _), (0, .ref _)]) X.1.1 X.1.2.1 d_rf_sweep_31 rfl L (by decide) rfl (fun ls L => ?_)
        have loop32 : ∀ (n : Nat) (k : Nat) (σ1 : SS) (H : Heap) (locs : List Loc) (ls : Array Slot), (k + n = 6) → (RGm σ1) → (swC (sw1L n k σ1) = sweepM σ) → Cx (ER D ad ci) zp zs zm (([.ref (ad 0)] : List Value).toArray) zc b_rf_sweep 4 "MessageMachineModel" H locs σ1 → lv_has ls 4 [(1, .int (nI k)), (0, .ref (ad 0))] → W zp l ze ({ frames := 3, cells := 0, slots := 0, locals := 65 } : Room) zs zm (([.ref (ad 0)] : List Value).toArray) zb zt zc H locs 0 0 (MQ zb (va_Qi (fun (x : Int32) (u : SS) => x = ((sweepM σ).1) ∧ u = ((sweepM σ).2)) (fun u t => Pq (ER D ad ci) u t) (ER D ad ci).2.2.2) (([.ref (ad 0)] : List Value).toArray) zs 0 0 (ER D ad ci).2.2.2) (F0 zm 32 ls []) := by
          intro n
          induction n with
          | zero =>
            intro k σ1 H locs ls hk hm1 hq X L
            refine lv_iload_n X.1.1 X.1.2.1 d_rf_sweep_32 rfl (lv_at L 0 rfl) ?_
            refine lv_bipush (v := 6) X.1.1 X.1.2.1 d_rf_sweep_33 rfl ?_
            refine lv_icmp_ge (tgt := 54) X.1.1 X.1.2.1 d_rf_sweep_35 rfl (fun h35 => ?_) (fun h35 => ?_)
            · skip
              refine lv_aload_n X.1.1 X.1.2.1 d_rf_sweep_54 rfl (lv_at L 1 rfl) ?_
              refine lv_aload_n X.1.1 X.1.2.1 d_rf_sweep_55 rfl (lv_at L 1 rfl) ?_
              refine g_rf_active X d_rf_sweep_56 ?_
              refine Mv.callV (k := 1) (c_rf_reach hI _ _ (vp_nn hm1.ac)) X (gt_V mw_758 mw_760 ms_61 mw_5 mw_761) ok_rf_reach ⟨rfl, rfl, by decide, by decide⟩ (rc_rf X) rfl L.1 rfl (Nat.le_of_ble_eq_true rfl) d_rf_sweep_59 (fun H locs X => ?_)
              refine lv_iconst (v := 0) X.1.1 X.1.2.1 d_rf_sweep_62 rfl ?_
              refine lv_istore_n (lv' := [(1, .int _), (0, .ref _)]) X.1.1 X.1.2.1 d_rf_sweep_63 rfl L (by decide) rfl (fun ls L => ?_)
              have loop64 : ∀ (n : Nat) (r : Nat) (σ1 : SS) (H : Heap) (locs : List Loc) (ls : Array Slot), (r + n = 28) → (RGm σ1) → (swA (sw2L n σ1) = sweepM σ) → Cx (ER D ad ci) zp zs zm (([.ref (ad 0)] : List Value).toArray) zc b_rf_sweep 4 "MessageMachineModel" H locs σ1 → lv_has ls 4 [(1, .int (nI r)), (0, .ref (ad 0))] → W zp l ze ({ frames := 3, cells := 0, slots := 0, locals := 65 } : Room) zs zm (([.ref (ad 0)] : List Value).toArray) zb zt zc H locs 0 0 (MQ zb (va_Qi (fun (x : Int32) (u : SS) => x = ((sweepM σ).1) ∧ u = ((sweepM σ).2)) (fun u t => Pq (ER D ad ci) u t) (ER D ad ci).2.2.2) (([.ref (ad 0)] : List Value).toArray) zs 0 0 (ER D ad ci).2.2.2) (F0 zm 64 ls []) := by
                intro n
                induction n with
                | zero =>
                  intro r σ1 H locs ls hr1 hm3 hq X L
                  refine lv_iload_n X.1.1 X.1.2.1 d_rf_sweep_64 rfl (lv_at L 0 rfl) ?_
                  refine lv_bipush (v := 28) X.1.1 X.1.2.1 d_rf_sweep_65 rfl ?_
                  refine lv_icmp_ge (tgt := 142) X.1.1 X.1.2.1 d_rf_sweep_67 rfl (fun h67 => ?_) (fun h67 => ?_)
                  · skip
                    refine lv_iconst (v := 0) X.1.1 X.1.2.1 d_rf_sweep_142 rfl ?_
                    refine lv_istore_n (lv' := [(1, .int _), (0, .ref _)]) X.1.1 X.1.2.1 d_rf_sweep_143 rfl L (by decide) rfl (fun ls L => ?_)
                    refine lv_iconst (v := 0) X.1.1 X.1.2.1 d_rf_sweep_144 rfl ?_
                    refine lv_istore_n (lv' := [(2, .int _), (1, .int _), (0, .ref _)]) X.1.1 X.1.2.1 d_rf_sweep_145 rfl L (by decide) rfl (fun ls L => ?_)
                    obtain ⟨τ, hτ⟩ : ∃ τ, τ = sw5L 28 0 σ1 0 := ⟨_, rfl⟩
                    have t2 : τ.2 = (sweepM σ).1 := by rw [hτ, ← hq, sw2L, swA]
                    have t1 : settleM τ.1 = (sweepM σ).2 := by rw [hτ, ← hq, sw2L, swA]
                    have loop146 : ∀ (n : Nat) (k : Nat) (a : Int32) (σ1 : SS) (H : Heap) (locs : List Loc) (ls : Array Slot), (k + n = 28) → (RGm σ1) → (sw5L n k σ1 a = τ) → Cx (ER D ad ci) zp zs zm (([.ref (ad 0)] : List Value).toArray) zc b_rf_sweep 4 "MessageMachineModel" H locs σ1 → lv_has ls 4 [(2, .int (nI k)), (1, .int a), (0, .ref (ad 0))] → W zp l ze ({ frames := 3, cells := 0, slots := 0, locals := 65 } : Room) zs zm (([.ref (ad 0)] : List Value).toArray) zb zt zc H locs 0 0 (MQ zb (va_Qi (fun (x : Int32) (u : SS) => x = ((sweepM σ).1) ∧ u = ((sweepM σ).2)) (fun u t => Pq (ER D ad ci) u t) (ER D ad ci).2.2.2) (([.ref (ad 0)] : List Value).toArray) zs 0 0 (ER D ad ci).2.2.2) (F0 zm 146 ls []) := by
                      intro n
                      induction n with
                      | zero =>
                        intro k a σ1 H locs ls hk hm6 hq4 X L
                        refine lv_iload_n X.1.1 X.1.2.1 d_rf_sweep_146 rfl (lv_at L 0 rfl) ?_
                        refine lv_bipush (v := 28) X.1.1 X.1.2.1 d_rf_sweep_147 rfl ?_
                        refine lv_icmp_ge (tgt := 220) X.1.1 X.1.2.1 d_rf_sweep_149 rfl (fun h149 => ?_) (fun h149 => ?_)
                        · skip
                          refine lv_aload_n X.1.1 X.1.2.1 d_rf_sweep_220 rfl (lv_at L 2 rfl) ?_
                          refine Mv.callV (k := 0) (c_rf_settle hI _ hm6) X (gt_V mw_524 mw_526 ms_32 mw_5 mw_527) ok_rf_settle ⟨rfl, rfl, by decide, by decide⟩ (rc_rf X) rfl L.1 rfl (Nat.le_of_ble_eq_true rfl) d_rf_sweep_221 (fun H locs X => ?_)
                          refine lv_iload_n X.1.1 X.1.2.1 d_rf_sweep_224 rfl (lv_at L 1 rfl) ?_
                          exact X.iret hr hlk d_rf_sweep_225 ((congrArg Prod.snd hq4).trans t2) (by rw [show σ1 = τ.1 from congrArg Prod.fst hq4]; exact t1)
                        · skip
                          exact absurd ((le28N (by omega)).mpr (by omega)) h149
                      | succ n ih =>
                        intro k a σ1 H locs ls hk hm6 hq4 X L
                        refine lv_iload_n X.1.1 X.1.2.1 d_rf_sweep_146 rfl (lv_at L 0 rfl) ?_
                        refine lv_bipush (v := 28) X.1.1 X.1.2.1 d_rf_sweep_147 rfl ?_
                        refine lv_icmp_ge (tgt := 220) X.1.1 X.1.2.1 d_rf_sweep_149 rfl (fun h149 => ?_) (fun h149 => ?_)
                        · skip
                          exact absurd ((le28N (by omega)).mp h149) (by omega)
                        · skip
                          refine lv_aload_n X.1.1 X.1.2.1 d_rf_sweep_152 rfl (lv_at L 2 rfl) ?_
                          refine g_rf_live X d_rf_sweep_153 ?_
                          refine lv_iload_n X.1.1 X.1.2.1 d_rf_sweep_156 rfl (lv_at L 0 rfl) ?_
                          refine rl_1 X (vp_k (by omega) (by decide)) d_rf_sweep_157 ?_
                          refine lv_if_eq (tgt := 176) X.1.1 X.1.2.1 d_rf_sweep_158 rfl (fun h158 => ?_) (fun h158 => ?_)
                          · skip
                            refine lv_iload_n X.1.1 X.1.2.1 d_rf_sweep_176 rfl (lv_at L 1 rfl) ?_
                            refine lv_istore_n (lv' := [(1, .int _), (2, .int _), (0, .ref _)]) X.1.1 X.1.2.1 d_rf_sweep_177 rfl L (by decide) rfl (fun ls L => ?_)
                            refine lv_aload_n X.1.1 X.1.2.1 d_rf_sweep_178 rfl (lv_at L 2 rfl) ?_
                            refine g_rf_live X d_rf_sweep_179 ?_
                            refine lv_iload_n X.1.1 X.1.2.1 d_rf_sweep_182 rfl (lv_at L 1 rfl) ?_
                            refine lv_aload_n X.1.1 X.1.2.1 d_rf_sweep_183 rfl (lv_at L 2 rfl) ?_
                            refine g_rf_live X d_rf_sweep_184 ?_
                            refine lv_iload_n X.1.1 X.1.2.1 d_rf_sweep_187 rfl (lv_at L 1 rfl) ?_
                            refine rl_1 X (vp_k (by omega) (by decide)) d_rf_sweep_188 ?_
                            refine lv_if_eq (tgt := 205) X.1.1 X.1.2.1 d_rf_sweep_189 rfl (fun h189 => ?_) (fun h189 => ?_)
                            · skip
                              refine lv_iconst (v := 0) X.1.1 X.1.2.1 d_rf_sweep_205 rfl ?_
                              refine rs_1 hI X (vp_k (by omega) (by decide)) rfl d_rf_sweep_206 (fun H locs X => ?_)
                              refine lv_aload_n X.1.1 X.1.2.1 d_rf_sweep_207 rfl (lv_at L 2 rfl) ?_
                              refine g_rf_stuck X d_rf_sweep_208 ?_
                              refine lv_iload_n X.1.1 X.1.2.1 d_rf_sweep_211 rfl (lv_at L 1 rfl) ?_
                              refine lv_iconst (v := 0) X.1.1 X.1.2.1 d_rf_sweep_212 rfl ?_
                              refine rs_6 hI X (vp_k (by omega) (by decide)) rfl d_rf_sweep_213 (fun H locs X => ?_)
                              refine lv_iinc (k := 1) (lv' := [(2, .int (nI (k + 1))), (1, .int _), (0, .ref _)]) X.1.1 X.1.2.1 d_rf_sweep_214 L rfl (nI_inc k) (by decide) rfl (fun ls L => ?_)
                              refine lv_goto (tgt := 146) X.1.1 X.1.2.1 d_rf_sweep_217 rfl ?_
                              exact ih (k + 1) _ _ _ _ _ (by omega) (RGm_A (RGm_A hm6 (by decide) _ _) (by decide) _ _) (by rw [← hq4, sw5L, sw5b, sw5a]; simp only [eq_false h149, eq_true h158, eq_true h189, if_true, if_false]; try rfl) X L
                            · skip
                              exact absurd h158 h189
                          · skip
                            refine lv_aload_n X.1.1 X.1.2.1 d_rf_sweep_161 rfl (lv_at L 2 rfl) ?_
                            refine g_rf_reached X d_rf_sweep_162 ?_
                            refine lv_iload_n X.1.1 X.1.2.1 d_rf_sweep_165 rfl (lv_at L 0 rfl) ?_
                            refine rl_13 X (vp_k (by omega) (by decide)) d_rf_sweep_166 ?_
                            refine lv_if_ne (tgt := 176) X.1.1 X.1.2.1 d_rf_sweep_167 rfl (fun h167 => ?_) (fun h167 => ?_)
                            · skip
                              refine lv_iload_n X.1.1 X.1.2.1 d_rf_sweep_176 rfl (lv_at L 1 rfl) ?_
                              refine lv_istore_n (lv' := [(1, .int _), (2, .int _), (0, .ref _)]) X.1.1 X.1.2.1 d_rf_sweep_177 rfl L (by decide) rfl (fun ls L => ?_)
                              refine lv_aload_n X.1.1 X.1.2.1 d_rf_sweep_178 rfl (lv_at L 2 rfl) ?_
                              refine g_rf_live X d_rf_sweep_179 ?_
                              refine lv_iload_n X.1.1 X.1.2.1 d_rf_sweep_182 rfl (lv_at L 1 rfl) ?_
                              refine lv_aload_n X.1.1 X.1.2.1 d_rf_sweep_183 rfl (lv_at L 2 rfl) ?_
                              refine g_rf_live X d_rf_sweep_184 ?_
                              refine lv_iload_n X.1.1 X.1.2.1 d_rf_sweep_187 rfl (lv_at L 1 rfl) ?_
                              refine rl_1 X (vp_k (by omega) (by decide)) d_rf_sweep_188 ?_
                              refine lv_if_eq (tgt := 205) X.1.1 X.1.2.1 d_rf_sweep_189 rfl (fun h189 => ?_) (fun h189 => ?_)
                              · skip
                                exact absurd h189 h158
                              · skip
                                refine lv_aload_n X.1.1 X.1.2.1 d_rf_sweep_192 rfl (lv_at L 2 rfl) ?_
                                refine g_rf_reached X d_rf_sweep_193 ?_
                                refine lv_iload_n X.1.1 X.1.2.1 d_rf_sweep_196 rfl (lv_at L 1 rfl) ?_
                                refine rl_13 X (vp_k (by omega) (by decide)) d_rf_sweep_197 ?_
                                refine lv_if_eq (tgt := 205) X.1.1 X.1.2.1 d_rf_sweep_198 rfl (fun h198 => ?_) (fun h198 => ?_)
                                · skip
                                  exact absurd h198 h167
                                · skip
                                  refine lv_iconst (v := 1) X.1.1 X.1.2.1 d_rf_sweep_201 rfl ?_
                                  refine lv_goto (tgt := 206) X.1.1 X.1.2.1 d_rf_sweep_202 rfl ?_
                                  refine rs_1 hI X (vp_k (by omega) (by decide)) rfl d_rf_sweep_206 (fun H locs X => ?_)
                                  refine lv_aload_n X.1.1 X.1.2.1 d_rf_sweep_207 rfl (lv_at L 2 rfl) ?_
                                  refine g_rf_stuck X d_rf_sweep_208 ?_
                                  refine lv_iload_n X.1.1 X.1.2.1 d_rf_sweep_211 rfl (lv_at L 1 rfl) ?_
                                  refine lv_iconst (v := 0) X.1.1 X.1.2.1 d_rf_sweep_212 rfl ?_
                                  refine rs_6 hI X (vp_k (by omega) (by decide)) rfl d_rf_sweep_213 (fun H locs X => ?_)
                                  refine lv_iinc (k := 1) (lv' := [(2, .int (nI (k + 1))), (1, .int _), (0, .ref _)]) X.1.1 X.1.2.1 d_rf_sweep_214 L rfl (nI_inc k) (by decide) rfl (fun ls L => ?_)
                                  refine lv_goto (tgt := 146) X.1.1 X.1.2.1 d_rf_sweep_217 rfl ?_
                                  exact ih (k + 1) _ _ _ _ _ (by omega) (RGm_A (RGm_A hm6 (by decide) _ _) (by decide) _ _) (by rw [← hq4, sw5L, sw5b, sw5a]; simp only [eq_false h149, eq_false h158, eq_false h167, eq_false h189, eq_false h198, if_true, if_false]; try rfl) X L
                            · skip
                              refine lv_iload_n X.1.1 X.1.2.1 d_rf_sweep_170 rfl (lv_at L 1 rfl) ?_
                              refine lv_iconst (v := 1) X.1.1 X.1.2.1 d_rf_sweep_171 rfl ?_
                              refine lv_iadd X.1.1 X.1.2.1 d_rf_sweep_172 ?_
                              refine lv_goto (tgt := 177) X.1.1 X.1.2.1 d_rf_sweep_173 rfl ?_
                              refine lv_istore_n (lv' := [(1, .int _), (2, .int _), (0, .ref _)]) X.1.1 X.1.2.1 d_rf_sweep_177 rfl L (by decide) rfl (fun ls L => ?_)
                              refine lv_aload_n X.1.1 X.1.2.1 d_rf_sweep_178 rfl (lv_at L 2 rfl) ?_
                              refine g_rf_live X d_rf_sweep_179 ?_
                              refine lv_iload_n X.1.1 X.1.2.1 d_rf_sweep_182 rfl (lv_at L 1 rfl) ?_
                              refine lv_aload_n X.1.1 X.1.2.1 d_rf_sweep_183 rfl (lv_at L 2 rfl) ?_
                              refine g_rf_live X d_rf_sweep_184 ?_
                              refine lv_iload_n X.1.1 X.1.2.1 d_rf_sweep_187 rfl (lv_at L 1 rfl) ?_
                              refine rl_1 X (vp_k (by omega) (by decide)) d_rf_sweep_188 ?_
                              refine lv_if_eq (tgt := 205) X.1.1 X.1.2.1 d_rf_sweep_189 rfl (fun h189 => ?_) (fun h189 => ?_)
                              · skip
                                exact absurd h189 h158
                              · skip
                                refine lv_aload_n X.1.1 X.1.2.1 d_rf_sweep_192 rfl (lv_at L 2 rfl) ?_
                                refine g_rf_reached X d_rf_sweep_193 ?_
                                refine lv_iload_n X.1.1 X.1.2.1 d_rf_sweep_196 rfl (lv_at L 1 rfl) ?_
                                refine rl_13 X (vp_k (by omega) (by decide)) d_rf_sweep_197 ?_
                                refine lv_if_eq (tgt := 205) X.1.1 X.1.2.1 d_rf_sweep_198 rfl (fun h198 => ?_) (fun h198 => ?_)
                                · skip
                                  refine lv_iconst (v := 0) X.1.1 X.1.2.1 d_rf_sweep_205 rfl ?_
                                  refine rs_1 hI X (vp_k (by omega) (by decide)) rfl d_rf_sweep_206 (fun H locs X => ?_)
                                  refine lv_aload_n X.1.1 X.1.2.1 d_rf_sweep_207 rfl (lv_at L 2 rfl) ?_
                                  refine g_rf_stuck X d_rf_sweep_208 ?_
                                  refine lv_iload_n X.1.1 X.1.2.1 d_rf_sweep_211 rfl (lv_at L 1 rfl) ?_
                                  refine lv_iconst (v := 0) X.1.1 X.1.2.1 d_rf_sweep_212 rfl ?_
                                  refine rs_6 hI X (vp_k (by omega) (by decide)) rfl d_rf_sweep_213 (fun H locs X => ?_)
                                  refine lv_iinc (k := 1) (lv' := [(2, .int (nI (k + 1))), (1, .int _), (0, .ref _)]) X.1.1 X.1.2.1 d_rf_sweep_214 L rfl (nI_inc k) (by decide) rfl (fun ls L => ?_)
                                  refine lv_goto (tgt := 146) X.1.1 X.1.2.1 d_rf_sweep_217 rfl ?_
                                  exact ih (k + 1) _ _ _ _ _ (by omega) (RGm_A (RGm_A hm6 (by decide) _ _) (by decide) _ _) (by rw [← hq4, sw5L, sw5b, sw5a]; simp only [eq_false h149, eq_false h158, eq_true h167, eq_false h189, eq_true h198, if_true, if_false]; try rfl) X L
                                · skip
                                  exact absurd h167 h198
                    exact loop146 28 0 0 _ _ _ _ (by omega) hm3 hτ.symm X L
                  · skip
                    exact absurd ((le28N (by omega)).mpr (by omega)) h67
                | succ n ih =>
                  intro r σ1 H locs ls hr1 hm3 hq X L
                  refine lv_iload_n X.1.1 X.1.2.1 d_rf_sweep_64 rfl (lv_at L 0 rfl) ?_
                  refine lv_bipush (v := 28) X.1.1 X.1.2.1 d_rf_sweep_65 rfl ?_
                  refine lv_icmp_ge (tgt := 142) X.1.1 X.1.2.1 d_rf_sweep_67 rfl (fun h67 => ?_) (fun h67 => ?_)
                  · skip
                    exact absurd ((le28N (by omega)).mp h67) (by omega)
                  · skip
                    refine lv_iconst (v := 0) X.1.1 X.1.2.1 d_rf_sweep_70 rfl ?_
                    refine lv_istore_n (lv' := [(2, .int _), (1, .int _), (0, .ref _)]) X.1.1 X.1.2.1 d_rf_sweep_71 rfl L (by decide) rfl (fun ls L => ?_)
                    obtain ⟨N, hN⟩ : ∃ N, N = n := ⟨n, rfl⟩
                    have loop72 : ∀ (n : Nat) (o : Nat) (σ1 : SS) (H : Heap) (locs : List Loc) (ls : Array Slot), (o + n = 28) → (RGm σ1) → (swA (sw2L N (sw3L n o σ1)) = sweepM σ) → Cx (ER D ad ci) zp zs zm (([.ref (ad 0)] : List Value).toArray) zc b_rf_sweep 4 "MessageMachineModel" H locs σ1 → lv_has ls 4 [(2, .int (nI o)), (1, .int (nI r)), (0, .ref (ad 0))] → W zp l ze ({ frames := 3, cells := 0, slots := 0, locals := 65 } : Room) zs zm (([.ref (ad 0)] : List Value).toArray) zb zt zc H locs 0 0 (MQ zb (va_Qi (fun (x : Int32) (u : SS) => x = ((sweepM σ).1) ∧ u = ((sweepM σ).2)) (fun u t => Pq (ER D ad ci) u t) (ER D ad ci).2.2.2) (([.ref (ad 0)] : List Value).toArray) zs 0 0 (ER D ad ci).2.2.2) (F0 zm 72 ls []) := by
                      intro n
                      induction n with
                      | zero =>
                        intro o σ1 H locs ls ho hm4 hq2 X L
                        refine lv_iload_n X.1.1 X.1.2.1 d_rf_sweep_72 rfl (lv_at L 0 rfl) ?_
                        refine lv_bipush (v := 28) X.1.1 X.1.2.1 d_rf_sweep_73 rfl ?_
                        refine lv_icmp_ge (tgt := 136) X.1.1 X.1.2.1 d_rf_sweep_75 rfl (fun h75 => ?_) (fun h75 => ?_)
                        · skip
                          refine lv_iinc (k := 1) (lv' := [(1, .int (nI (r + 1))), (2, .int _), (0, .ref _)]) X.1.1 X.1.2.1 d_rf_sweep_136 L rfl (nI_inc r) (by decide) rfl (fun ls L => ?_)
                          refine lv_goto (tgt := 64) X.1.1 X.1.2.1 d_rf_sweep_139 rfl ?_
                          exact ih (r + 1) _ _ _ _ (by omega) hm4 (by rw [← hN]; exact hq2) X (lv_sub L [0, 2] rfl)
                        · skip
                          exact absurd ((le28N (by omega)).mpr (by omega)) h75
                      | succ n ih =>
                        intro o σ1 H locs ls ho hm4 hq2 X L
                        refine lv_iload_n X.1.1 X.1.2.1 d_rf_sweep_72 rfl (lv_at L 0 rfl) ?_
                        refine lv_bipush (v := 28) X.1.1 X.1.2.1 d_rf_sweep_73 rfl ?_
                        refine lv_icmp_ge (tgt := 136) X.1.1 X.1.2.1 d_rf_sweep_75 rfl (fun h75 => ?_) (fun h75 => ?_)
                        · skip
                          exact absurd ((le28N (by omega)).mp h75) (by omega)
                        · skip
                          refine lv_aload_n X.1.1 X.1.2.1 d_rf_sweep_78 rfl (lv_at L 2 rfl) ?_
                          refine g_rf_reached X d_rf_sweep_79 ?_
                          refine lv_iload_n X.1.1 X.1.2.1 d_rf_sweep_82 rfl (lv_at L 0 rfl) ?_
                          refine rl_13 X (vp_k (by omega) (by decide)) d_rf_sweep_83 ?_
                          refine lv_if_eq (tgt := 130) X.1.1 X.1.2.1 d_rf_sweep_84 rfl (fun h84 => ?_) (fun h84 => ?_)
                          · skip
                            refine lv_iinc (k := 0) (lv' := [(2, .int (nI (o + 1))), (1, .int _), (0, .ref _)]) X.1.1 X.1.2.1 d_rf_sweep_130 L rfl (nI_inc o) (by decide) rfl (fun ls L => ?_)
                            refine lv_goto (tgt := 72) X.1.1 X.1.2.1 d_rf_sweep_133 rfl ?_
                            exact ih (o + 1) _ _ _ _ (by omega) (by first | exact hm5 | exact hm4) (by first | (rw [← hN2]; exact hq3) | rw [← hq2, sw3L, if_pos h84]) X L
                          · skip
                            refine lv_aload_n X.1.1 X.1.2.1 d_rf_sweep_87 rfl (lv_at L 2 rfl) ?_
                            refine lv_aload_n X.1.1 X.1.2.1 d_rf_sweep_88 rfl (lv_at L 2 rfl) ?_
                            refine g_rf_cls X d_rf_sweep_89 ?_
                            refine lv_iload_n X.1.1 X.1.2.1 d_rf_sweep_92 rfl (lv_at L 0 rfl) ?_
                            refine rl_3 X (vp_k (by omega) (by decide)) d_rf_sweep_93 ?_
                            refine Mv.callV (k := 1) (c_rf_reach hI _ _ (vp_nn (hm4.cl (vp_k (by omega) (by decide))))) X (gt_V mw_758 mw_760 ms_61 mw_5 mw_761) ok_rf_reach ⟨rfl, rfl, by decide, by decide⟩ (rc_rf X) rfl L.1 rfl (Nat.le_of_ble_eq_true rfl) d_rf_sweep_94 (fun H locs X => ?_)
                            refine lv_iconst (v := 0) X.1.1 X.1.2.1 d_rf_sweep_97 rfl ?_
                            refine lv_istore_n (lv' := [(3, .int _), (2, .int _), (1, .int _), (0, .ref _)]) X.1.1 X.1.2.1 d_rf_sweep_98 rfl L (by decide) rfl (fun ls L => ?_)
                            obtain ⟨N2, hN2⟩ : ∃ N, N = n := ⟨n, rfl⟩
                            have hF := hm4.fl (vp_k (show o < 28 by omega) (by decide) : vp_in (nI o) 28)
                            have loop99 : ∀ (n : Nat) (j : Nat) (σ1 : SS) (H : Heap) (locs : List Loc) (ls : Array Slot), (nI (j + n) = σ1.1 4 (ix (nI o))) → (j + n ≤ 15) → (RGm σ1) → (swA (sw2L N (sw3L N2 (o + 1) (sw4L n j σ1 o))) = sweepM σ) → Cx (ER D ad ci) zp zs zm (([.ref (ad 0)] : List Value).toArray) zc b_rf_sweep 4 "MessageMachineModel" H locs σ1 → lv_has ls 4 [(3, .int (nI j)), (2, .int (nI o)), (1, .int (nI r)), (0, .ref (ad 0))] → W zp l ze ({ frames := 3, cells := 0, slots := 0, locals := 65 } : Room) zs zm (([.ref (ad 0)] : List Value).toArray) zb zt zc H locs 0 0 (MQ zb (va_Qi (fun (x : Int32) (u : SS) => x = ((sweepM σ).1) ∧ u = ((sweepM σ).2)) (fun u t => Pq (ER D ad ci) u t) (ER D ad ci).2.2.2) (([.ref (ad 0)] : List Value).toArray) zs 0 0 (ER D ad ci).2.2.2) (F0 zm 99 ls []) := by
                              intro n
                              induction n with
                              | zero =>
                                intro j σ1 H locs ls hj hjl hm5 hq3 X L
                                have e8 : σ1.1 4 (ix (nI o)) = nI j := hj.symm
                                refine lv_iload_n X.1.1 X.1.2.1 d_rf_sweep_99 rfl (lv_at L 0 rfl) ?_
                                refine lv_aload_n X.1.1 X.1.2.1 d_rf_sweep_100 rfl (lv_at L 3 rfl) ?_
                                refine g_rf_fields X d_rf_sweep_101 ?_
                                refine lv_iload_n X.1.1 X.1.2.1 d_rf_sweep_104 rfl (lv_at L 1 rfl) ?_
                                refine rl_4 X (vp_k (show o < 28 by omega) (by decide)) d_rf_sweep_105 ?_
                                refine lv_icmp_ge (tgt := 130) X.1.1 X.1.2.1 d_rf_sweep_106 rfl (fun h106 => ?_) (fun h106 => ?_)
                                · skip
                                  refine lv_iinc (k := 1) (lv' := [(2, .int (nI (o + 1))), (3, .int _), (1, .int _), (0, .ref _)]) X.1.1 X.1.2.1 d_rf_sweep_130 L rfl (nI_inc o) (by decide) rfl (fun ls L => ?_)
                                  refine lv_goto (tgt := 72) X.1.1 X.1.2.1 d_rf_sweep_133 rfl ?_
                                  exact ih (o + 1) _ _ _ _ (by omega) (by first | exact hm5 | exact hm4) (by first | (rw [← hN2]; exact hq3) | rw [← hq2, sw3L, if_pos h84]) X (lv_sub L [0, 2, 3] rfl)
                                · skip
                                  exact absurd (by rw [e8]; exact Int32.le_refl _) h106
                              | succ n ih =>
                                intro j σ1 H locs ls hj hjl hm5 hq3 X L
                                have e8 : ¬ σ1.1 4 (ix (nI o)) ≤ nI j := by rw [← hj, nI_leI (by omega) (by omega)]; omega
                                refine lv_iload_n X.1.1 X.1.2.1 d_rf_sweep_99 rfl (lv_at L 0 rfl) ?_
                                refine lv_aload_n X.1.1 X.1.2.1 d_rf_sweep_100 rfl (lv_at L 3 rfl) ?_
                                refine g_rf_fields X d_rf_sweep_101 ?_
                                refine lv_iload_n X.1.1 X.1.2.1 d_rf_sweep_104 rfl (lv_at L 1 rfl) ?_
                                refine rl_4 X (vp_k (show o < 28 by omega) (by decide)) d_rf_sweep_105 ?_
                                refine lv_icmp_ge (tgt := 130) X.1.1 X.1.2.1 d_rf_sweep_106 rfl (fun h106 => ?_) (fun h106 => ?_)
                                · skip
                                  exact absurd h106 e8
                                · skip
                                  refine lv_aload_n X.1.1 X.1.2.1 d_rf_sweep_109 rfl (lv_at L 3 rfl) ?_
                                  refine lv_aload_n X.1.1 X.1.2.1 d_rf_sweep_110 rfl (lv_at L 3 rfl) ?_
                                  refine g_rf_word X d_rf_sweep_111 ?_
                                  refine lv_bipush (v := 15) X.1.1 X.1.2.1 d_rf_sweep_114 rfl ?_
                                  refine lv_iload_n X.1.1 X.1.2.1 d_rf_sweep_116 rfl (lv_at L 1 rfl) ?_
                                  refine lv_imul X.1.1 X.1.2.1 d_rf_sweep_117 ?_
                                  refine lv_iload_n X.1.1 X.1.2.1 d_rf_sweep_118 rfl (lv_at L 0 rfl) ?_
                                  refine lv_iadd X.1.1 X.1.2.1 d_rf_sweep_119 ?_
                                  refine rl_5 X (wik (by omega) (by omega)) d_rf_sweep_120 ?_
                                  refine Mv.callV (k := 1) (c_rf_reach hI _ _ (hm5.wd (wik (by omega) (by omega)))) X (gt_V mw_758 mw_760 ms_61 mw_5 mw_761) ok_rf_reach ⟨rfl, rfl, by decide, by decide⟩ (rc_rf X) rfl L.1 rfl (Nat.le_of_ble_eq_true rfl) d_rf_sweep_121 (fun H locs X => ?_)
                                  refine lv_iinc (k := 0) (lv' := [(3, .int (nI (j + 1))), (2, .int _), (1, .int _), (0, .ref _)]) X.1.1 X.1.2.1 d_rf_sweep_124 L rfl (nI_inc j) (by decide) rfl (fun ls L => ?_)
                                  refine lv_goto (tgt := 99) X.1.1 X.1.2.1 d_rf_sweep_127 rfl ?_
                                  exact ih (j + 1) _ _ _ _ (by rw [show j + 1 + n = j + (n + 1) by omega, hj]; exact (congrFun (reachM_ne σ1 _ (by decide)) _).symm) (by omega) (RGm_reach hm5 _) (by rw [← hq3]; rfl) X L
                            exact loop99 (ix (σ1.1 4 (ix (nI o)))) 0 _ _ _ _ (by rw [Nat.zero_add]; exact (ix_back hF.1).trans (congrFun (reachM_ne σ1 _ (by decide)) _).symm) (by rw [Nat.zero_add]; exact ix_le hF.2) (RGm_reach hm4 _) (by rw [hN2, ← hq2, sw3L, if_neg h84]) X L
                    exact loop72 28 0 _ _ _ _ (by omega) hm3 (by rw [hN, ← hq, sw2L]) X L
              exact loop64 28 0 _ _ _ _ (by omega) (RGm_reach hm1 _) (by rw [← hq]; rfl) X L
            · skip
              exact absurd ((le6N (by omega)).mpr (by omega)) h35
          | succ n ih =>
            intro k σ1 H locs ls hk hm1 hq X L
            refine lv_iload_n X.1.1 X.1.2.1 d_rf_sweep_32 rfl (lv_at L 0 rfl) ?_
            refine lv_bipush (v := 6) X.1.1 X.1.2.1 d_rf_sweep_33 rfl ?_
            refine lv_icmp_ge (tgt := 54) X.1.1 X.1.2.1 d_rf_sweep_35 rfl (fun h35 => ?_) (fun h35 => ?_)
            · skip
              exact absurd ((le6N (by omega)).mp h35) (by omega)
            · skip
              refine lv_aload_n X.1.1 X.1.2.1 d_rf_sweep_38 rfl (lv_at L 1 rfl) ?_
              refine lv_aload_n X.1.1 X.1.2.1 d_rf_sweep_39 rfl (lv_at L 1 rfl) ?_
              refine g_rf_handles X d_rf_sweep_40 ?_
              refine lv_iload_n X.1.1 X.1.2.1 d_rf_sweep_43 rfl (lv_at L 0 rfl) ?_
              refine rl_12 X (vp_k (by omega) (by decide)) d_rf_sweep_44 ?_
              refine Mv.callV (k := 1) (c_rf_reach hI _ _ (hm1.hn (vp_k (by omega) (by decide)))) X (gt_V mw_758 mw_760 ms_61 mw_5 mw_761) ok_rf_reach ⟨rfl, rfl, by decide, by decide⟩ (rc_rf X) rfl L.1 rfl (Nat.le_of_ble_eq_true rfl) d_rf_sweep_45 (fun H locs X => ?_)
              refine lv_iinc (k := 0) (lv' := [(1, .int (nI (k + 1))), (0, .ref _)]) X.1.1 X.1.2.1 d_rf_sweep_48 L rfl (nI_inc k) (by decide) rfl (fun ls L => ?_)
              refine lv_goto (tgt := 32) X.1.1 X.1.2.1 d_rf_sweep_51 rfl ?_
              exact ih (k + 1) _ _ _ _ (by omega) (RGm_reach hm1 _) (by rw [← hq]; rfl) X L
        exact loop32 6 0 _ _ _ _ (by omega) hm1 (by rw [← hq]; rfl) X L
      · skip
        exact absurd ((le28N (by omega)).mpr (by omega)) h5
    | succ n ih =>
      intro k σ1 H locs ls hk hm1 hq X L
      refine lv_iload_n X.1.1 X.1.2.1 d_rf_sweep_2 rfl (lv_at L 0 rfl) ?_
      refine lv_bipush (v := 28) X.1.1 X.1.2.1 d_rf_sweep_3 rfl ?_
      refine lv_icmp_ge (tgt := 30) X.1.1 X.1.2.1 d_rf_sweep_5 rfl (fun h5 => ?_) (fun h5 => ?_)
      · skip
        exact absurd ((le28N (by omega)).mp h5) (by omega)
      · skip
        refine lv_aload_n X.1.1 X.1.2.1 d_rf_sweep_8 rfl (lv_at L 1 rfl) ?_
        refine g_rf_reached X d_rf_sweep_9 ?_
        refine lv_iload_n X.1.1 X.1.2.1 d_rf_sweep_12 rfl (lv_at L 0 rfl) ?_
        refine lv_iload_n X.1.1 X.1.2.1 d_rf_sweep_13 rfl (lv_at L 0 rfl) ?_
        refine lv_iconst (v := 4) X.1.1 X.1.2.1 d_rf_sweep_14 rfl ?_
        refine lv_icmp_ge (tgt := 22) X.1.1 X.1.2.1 d_rf_sweep_15 rfl (fun h15 => ?_) (fun h15 => ?_)
        · skip
          refine lv_iconst (v := 0) X.1.1 X.1.2.1 d_rf_sweep_22 rfl ?_
          refine rs_13 hI X (vp_k (by omega) (by decide)) rfl d_rf_sweep_23 (fun H locs X => ?_)
          refine lv_iinc (k := 0) (lv' := [(1, .int (nI (k + 1))), (0, .ref _)]) X.1.1 X.1.2.1 d_rf_sweep_24 L rfl (nI_inc k) (by decide) rfl (fun ls L => ?_)
          refine lv_goto (tgt := 2) X.1.1 X.1.2.1 d_rf_sweep_27 rfl ?_
          exact ih (k + 1) _ _ _ _ (by omega) (RGm_A hm1 (by decide) _ _) (by rw [← hq, sw0L]; simp only [eq_false h5, eq_true h15, if_true, if_false]) X L
        · skip
          refine lv_iconst (v := 1) X.1.1 X.1.2.1 d_rf_sweep_18 rfl ?_
          refine lv_goto (tgt := 23) X.1.1 X.1.2.1 d_rf_sweep_19 rfl ?_
          refine rs_13 hI X (vp_k (by omega) (by decide)) rfl d_rf_sweep_23 (fun H locs X => ?_)
          refine lv_iinc (k := 0) (lv' := [(1, .int (nI (k + 1))), (0, .ref _)]) X.1.1 X.1.2.1 d_rf_sweep_24 L rfl (nI_inc k) (by decide) rfl (fun ls L => ?_)
          refine lv_goto (tgt := 2) X.1.1 X.1.2.1 d_rf_sweep_27 rfl ?_
          exact ih (k + 1) _ _ _ _ (by omega) (RGm_A hm1 (by decide) _ _) (by rw [← hq, sw0L]; simp only [eq_false h5, eq_false h15, if_true, if_false]) X L
  exact loop2 28 0 σ _ _ _ (by omega) hm (swD_eq σ) X L
