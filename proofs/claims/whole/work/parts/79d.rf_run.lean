set_option maxHeartbeats 4000000 in
theorem c_rf_run {l : Launch} {D : va_G} {ad : Nat → Nat} {ci : Nat → ClassId} (hI : InjR ad) (σ : SS) (τ : SS) (w : Int32) (hB : BIG τ σ) : Mi l y_rf_run b_rf_run 4 (some .int) ({ frames := 6, cells := 0, slots := 0, locals := 138 } : Room) (ER D ad ci) [.ref (ad 0), .int w] σ ((runM σ w).1) ((runM σ w).2) := by
  refine Mi.start pn_rf (Nat.le_of_ble_eq_true rfl) (fun zp ze zs zm zb zt zc ls X hr hlk L => ?_)
  have L : lv_has ls 4 [(0, .ref (ad 0)), (1, .int w)] := L
  refine lv_iload_n X.1.1 X.1.2.1 d_rf_run_0 rfl (lv_at L 1 rfl) ?_
  refine lv_if_lt (tgt := 11) X.1.1 X.1.2.1 d_rf_run_1 rfl (fun h1 => ?_) (fun h1 => ?_)
  · skip
    refine lv_iconst (v := (-1)) X.1.1 X.1.2.1 d_rf_run_11 rfl ?_
    exact X.iret hr hlk d_rf_run_12 (by first | (simp only [runM, eq_true h1, if_true, if_false]; done) | (simp [runM, eq_true h1]; done) | (simp [runM, h1]; done) | rfl) (by first | (simp only [runM, eq_true h1, if_true, if_false]; done) | (simp [runM, eq_true h1]; done) | (simp [runM, h1]; done) | rfl)
  · skip
    refine lv_iload_n X.1.1 X.1.2.1 d_rf_run_4 rfl (lv_at L 1 rfl) ?_
    refine lv_sipush (v := 500) X.1.1 X.1.2.1 d_rf_run_5 rfl ?_
    refine lv_icmp_le (tgt := 13) X.1.1 X.1.2.1 d_rf_run_8 rfl (fun h8 => ?_) (fun h8 => ?_)
    · skip
      refine lv_iconst (v := 0) X.1.1 X.1.2.1 d_rf_run_13 rfl ?_
      refine lv_istore_n (lv' := [(2, .int _), (0, .ref _), (1, .int _)]) X.1.1 X.1.2.1 d_rf_run_14 rfl L (by decide) rfl (fun ls L => ?_)
      refine lv_iconst (v := 1) X.1.1 X.1.2.1 d_rf_run_15 rfl ?_
      refine lv_istore_n (lv' := [(3, .int _), (2, .int _), (0, .ref _), (1, .int _)]) X.1.1 X.1.2.1 d_rf_run_16 rfl L (by decide) rfl (fun ls L => ?_)
      have ew0 : 0 ≤ w.toInt := by rw [ilt0] at h1; omega
      have ew : nI (ix w) = w := ix_back ew0
      have ew5 : ix w ≤ 500 := ix_le (by rw [Int32.le_iff_toInt_le, show (500 : Int32).toInt = 500 from rfl] at h8; exact h8)
      have loop17 : ∀ (n : Nat) (k : Nat) (mo : Int32) (σ1 : SS) (H : Heap) (locs : List Loc) (ls : Array Slot), (mo = 0 ∨ k + n = ix w) → (k ≤ 500) → (∃ τ, BIG τ σ1) → ((if mo = 0 then (nI k, σ1) else runML n k σ1) = runM σ w) → Cx (ER D ad ci) zp zs zm (([.ref (ad 0), .int w] : List Value).toArray) zc b_rf_run 4 "MessageMachineModel" H locs σ1 → lv_has ls 4 [(3, .int mo), (2, .int (nI k)), (0, .ref (ad 0)), (1, .int w)] → W zp l ze ({ frames := 6, cells := 0, slots := 0, locals := 138 } : Room) zs zm (([.ref (ad 0), .int w] : List Value).toArray) zb zt zc H locs 0 0 (MQ zb (va_Qi (fun (x : Int32) (u : SS) => x = ((runM σ w).1) ∧ u = ((runM σ w).2)) (fun u t => Pq (ER D ad ci) u t) (ER D ad ci).2.2.2) (([.ref (ad 0), .int w] : List Value).toArray) zs 0 0 (ER D ad ci).2.2.2) (F0 zm 17 ls []) := by
        intro n
        induction n with
        | zero =>
          intro k mo σ1 H locs ls hk hkl hB1 hq X L
          have cz : (nI k, σ1) = runM σ w := by
            rw [← hq]
            by_cases z : mo = 0
            · rw [if_pos z]
            · rw [if_neg z, runML]
          refine lv_iload_n X.1.1 X.1.2.1 d_rf_run_17 rfl (lv_at L 1 rfl) ?_
          refine lv_iload_n X.1.1 X.1.2.1 d_rf_run_18 rfl (lv_at L 3 rfl) ?_
          refine lv_icmp_ge (tgt := 60) X.1.1 X.1.2.1 d_rf_run_19 rfl (fun h19 => ?_) (fun h19 => ?_)
          · skip
            refine lv_iload_n X.1.1 X.1.2.1 d_rf_run_60 rfl (lv_at L 1 rfl) ?_
            exact X.iret hr hlk d_rf_run_61 (congrArg Prod.fst cz) (congrArg Prod.snd cz)
          · skip
            refine lv_iload_n X.1.1 X.1.2.1 d_rf_run_22 rfl (lv_at L 0 rfl) ?_
            refine lv_if_eq (tgt := 60) X.1.1 X.1.2.1 d_rf_run_23 rfl (fun h23 => ?_) (fun h23 => ?_)
            · skip
              refine lv_iload_n X.1.1 X.1.2.1 d_rf_run_60 rfl (lv_at L 1 rfl) ?_
              exact X.iret hr hlk d_rf_run_61 (congrArg Prod.fst cz) (congrArg Prod.snd cz)
            · skip
              exact absurd (by rw [← ew, show k = ix w from (hk.resolve_left h23)]; exact Int32.le_refl _) h19
        | succ n ih =>
          intro k mo σ1 H locs ls hk hkl hB1 hq X L
          have c19 : w ≤ nI k → nI k = (runM σ w).1 := fun z => by
            have : mo = 0 := hk.resolve_right (fun y => by rw [← ew, nI_leI (by omega) (by omega)] at z; omega)
            rw [← hq, if_pos this]
          have d19 : w ≤ nI k → σ1 = (runM σ w).2 := fun z => by
            have : mo = 0 := hk.resolve_right (fun y => by rw [← ew, nI_leI (by omega) (by omega)] at z; omega)
            rw [← hq, if_pos this]
          refine lv_iload_n X.1.1 X.1.2.1 d_rf_run_17 rfl (lv_at L 1 rfl) ?_
          refine lv_iload_n X.1.1 X.1.2.1 d_rf_run_18 rfl (lv_at L 3 rfl) ?_
          refine lv_icmp_ge (tgt := 60) X.1.1 X.1.2.1 d_rf_run_19 rfl (fun h19 => ?_) (fun h19 => ?_)
          · skip
            refine lv_iload_n X.1.1 X.1.2.1 d_rf_run_60 rfl (lv_at L 1 rfl) ?_
            exact X.iret hr hlk d_rf_run_61 (by first | exact c19 h19 | (rw [← hq, if_pos h23]; done) | (rw [← hq, if_neg h23, runML, if_pos h30]; done) | (rw [← hq, if_neg h23, runML, if_neg h30, if_neg h37]; done)) (by first | exact d19 h19 | (rw [← hq, if_pos h23]; done) | (rw [← hq, if_neg h23, runML, if_pos h30]; done) | (rw [← hq, if_neg h23, runML, if_neg h30, if_neg h37]; done))
          · skip
            refine lv_iload_n X.1.1 X.1.2.1 d_rf_run_22 rfl (lv_at L 0 rfl) ?_
            refine lv_if_eq (tgt := 60) X.1.1 X.1.2.1 d_rf_run_23 rfl (fun h23 => ?_) (fun h23 => ?_)
            · skip
              refine lv_iload_n X.1.1 X.1.2.1 d_rf_run_60 rfl (lv_at L 1 rfl) ?_
              exact X.iret hr hlk d_rf_run_61 (by first | exact c19 h19 | (rw [← hq, if_pos h23]; done) | (rw [← hq, if_neg h23, runML, if_pos h30]; done) | (rw [← hq, if_neg h23, runML, if_neg h30, if_neg h37]; done)) (by first | exact d19 h19 | (rw [← hq, if_pos h23]; done) | (rw [← hq, if_neg h23, runML, if_pos h30]; done) | (rw [← hq, if_neg h23, runML, if_neg h30, if_neg h37]; done))
            · skip
              refine lv_aload_n X.1.1 X.1.2.1 d_rf_run_26 rfl (lv_at L 2 rfl) ?_
              refine g_rf_active X d_rf_run_27 ?_
              refine lv_if_eq (tgt := 60) X.1.1 X.1.2.1 d_rf_run_30 rfl (fun h30 => ?_) (fun h30 => ?_)
              · skip
                refine lv_iload_n X.1.1 X.1.2.1 d_rf_run_60 rfl (lv_at L 1 rfl) ?_
                exact X.iret hr hlk d_rf_run_61 (by first | exact c19 h19 | (rw [← hq, if_pos h23]; done) | (rw [← hq, if_neg h23, runML, if_pos h30]; done) | (rw [← hq, if_neg h23, runML, if_neg h30, if_neg h37]; done)) (by first | exact d19 h19 | (rw [← hq, if_pos h23]; done) | (rw [← hq, if_neg h23, runML, if_pos h30]; done) | (rw [← hq, if_neg h23, runML, if_neg h30, if_neg h37]; done))
              · skip
                refine lv_aload_n X.1.1 X.1.2.1 d_rf_run_33 rfl (lv_at L 2 rfl) ?_
                refine g_rf_reason X d_rf_run_34 ?_
                refine lv_if_ne (tgt := 60) X.1.1 X.1.2.1 d_rf_run_37 rfl (fun h37 => ?_) (fun h37 => ?_)
                · skip
                  refine lv_iload_n X.1.1 X.1.2.1 d_rf_run_60 rfl (lv_at L 1 rfl) ?_
                  exact X.iret hr hlk d_rf_run_61 (by first | exact c19 h19 | (rw [← hq, if_pos h23]; done) | (rw [← hq, if_neg h23, runML, if_pos h30]; done) | (rw [← hq, if_neg h23, runML, if_neg h30, if_neg h37]; done)) (by first | exact d19 h19 | (rw [← hq, if_pos h23]; done) | (rw [← hq, if_neg h23, runML, if_pos h30]; done) | (rw [← hq, if_neg h23, runML, if_neg h30, if_neg h37]; done))
                · skip
                  obtain ⟨τ1, hB2⟩ := hB1
                  have hc1 : condition τ1 = 1 := (cond_1 hB2).mpr ⟨h30, h37⟩
                  have hs2 := s_step hB2 hc1
                  refine lv_aload_n X.1.1 X.1.2.1 d_rf_run_40 rfl (lv_at L 2 rfl) ?_
                  refine Mi.callV (k := 0) (c_rf_step hI _ τ1 hB2 hc1) X (gt_V mw_668 mw_670 ms_42 mw_5 mw_671) ok_rf_step ⟨rfl, rfl, by decide, by decide⟩ (rc_rf X) rfl L.1 rfl (Nat.le_of_ble_eq_true rfl) d_rf_run_41 (fun H locs X => ?_)
                  refine lv_istore_n (lv' := [(3, .int _), (2, .int _), (0, .ref _), (1, .int _)]) X.1.1 X.1.2.1 d_rf_run_44 rfl L (by decide) rfl (fun ls L => ?_)
                  refine lv_iload_n X.1.1 X.1.2.1 d_rf_run_45 rfl (lv_at L 0 rfl) ?_
                  refine lv_if_eq (tgt := 55) X.1.1 X.1.2.1 d_rf_run_46 rfl (fun h46 => ?_) (fun h46 => ?_)
                  · skip
                    refine lv_iload_n X.1.1 X.1.2.1 d_rf_run_55 rfl (lv_at L 1 rfl) ?_
                    refine lv_istore_n (lv' := [(2, .int _), (3, .int _), (0, .ref _), (1, .int _)]) X.1.1 X.1.2.1 d_rf_run_56 rfl L (by decide) rfl (fun ls L => ?_)
                    refine lv_goto (tgt := 17) X.1.1 X.1.2.1 d_rf_run_57 rfl ?_
                    first | exact ih k _ _ _ _ _ (Or.inl h46) hkl ⟨_, hs2.2⟩ (by rw [if_pos h46, ← hq, if_neg h23, runML, if_neg h30, if_pos h37, if_pos h46]) X (lv_sub L [1, 0, 2, 3] rfl) | exact ih (k + 1) _ _ _ _ _ (Or.inr (by have := hk.resolve_left h23; omega)) (by have := hk.resolve_left h23; omega) ⟨_, hs2.2⟩ (by rw [if_neg h46, ← hq, if_neg h23, runML, if_neg h30, if_pos h37, if_neg h46]) X (by rw [← nI_1]; exact (lv_sub L [1, 0, 2, 3] rfl))
                  · skip
                    refine lv_iload_n X.1.1 X.1.2.1 d_rf_run_49 rfl (lv_at L 1 rfl) ?_
                    refine lv_iconst (v := 1) X.1.1 X.1.2.1 d_rf_run_50 rfl ?_
                    refine lv_iadd X.1.1 X.1.2.1 d_rf_run_51 ?_
                    refine lv_goto (tgt := 56) X.1.1 X.1.2.1 d_rf_run_52 rfl ?_
                    refine lv_istore_n (lv' := [(2, .int _), (3, .int _), (0, .ref _), (1, .int _)]) X.1.1 X.1.2.1 d_rf_run_56 rfl L (by decide) rfl (fun ls L => ?_)
                    refine lv_goto (tgt := 17) X.1.1 X.1.2.1 d_rf_run_57 rfl ?_
                    first | exact ih k _ _ _ _ _ (Or.inl h46) hkl ⟨_, hs2.2⟩ (by rw [if_pos h46, ← hq, if_neg h23, runML, if_neg h30, if_pos h37, if_pos h46]) X (lv_sub L [1, 0, 2, 3] rfl) | exact ih (k + 1) _ _ _ _ _ (Or.inr (by have := hk.resolve_left h23; omega)) (by have := hk.resolve_left h23; omega) ⟨_, hs2.2⟩ (by rw [if_neg h46, ← hq, if_neg h23, runML, if_neg h30, if_pos h37, if_neg h46]) X (by rw [← nI_1]; exact (lv_sub L [1, 0, 2, 3] rfl))
      exact loop17 (ix w) 0 1 σ _ _ _ (Or.inr (by omega)) (by omega) ⟨τ, hB⟩ (by rw [if_neg (by decide), runM, if_neg h1, if_pos h8]) X L
    · skip
      refine lv_iconst (v := (-1)) X.1.1 X.1.2.1 d_rf_run_11 rfl ?_
      exact X.iret hr hlk d_rf_run_12 (by first | (simp only [runM, eq_false h1, eq_false h8, if_true, if_false]; done) | (simp [runM, eq_false h1, eq_false h8]; done) | (simp [runM, h1, h8]; done) | rfl) (by first | (simp only [runM, eq_false h1, eq_false h8, if_true, if_false]; done) | (simp [runM, eq_false h1, eq_false h8]; done) | (simp [runM, h1, h8]; done) | rfl)
