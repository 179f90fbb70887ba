set_option maxHeartbeats 4000000 in
theorem c_rf_step {l : Launch} {D : va_G} {ad : Nat → Nat} {ci : Nat → ClassId} (hI : InjR ad) (σ : SS) (τ : SS) (hB : BIG τ σ) (hcd : condition τ = 1) : Mi l y_rf_step b_rf_step 3 (some .boolean) ({ frames := 5, cells := 0, slots := 0, locals := 116 } : Room) (ER D ad ci) [.ref (ad 0)] σ ((stepM σ).1) ((stepM σ).2) := by
  refine Mi.start pn_rf (Nat.le_of_ble_eq_true rfl) (fun zp ze zs zm zb zt zc ls X hr hlk L => ?_)
  have L : lv_has ls 3 [(0, .ref (ad 0))] := L
  have hm := hB.2.2.2.2.2
  obtain ⟨c, Q, v, hA, hQ, eQ, h21, hv⟩ := stepF hB hcd
  have hq16 : ¬ (16 : Int32) ≤ atM σ 4 - 1000 → Q < 16 := fun z => by rw [eQ] at z; exact Nat.not_le.mp (fun y => z ((nI_leI (a := 16) (by omega) (by omega)).mpr y))
  refine lv_aload_n X.1.1 X.1.2.1 d_rf_step_0 rfl (lv_at L 0 rfl) ?_
  refine lv_iconst (v := 4) X.1.1 X.1.2.1 d_rf_step_1 rfl ?_
  refine Mi.callV (k := 1) (c_rf_at hI _ _ hm (vpc (by decide))) X (gt_V mw_672 mw_674 ms_43 mw_5 mw_675) ok_rf_at ⟨rfl, rfl, by decide, by decide⟩ (rc_rf X) rfl L.1 rfl (Nat.le_of_ble_eq_true rfl) d_rf_step_2 (fun H locs X => ?_)
  refine lv_sipush (v := 1000) X.1.1 X.1.2.1 d_rf_step_5 rfl ?_
  refine lv_isub X.1.1 X.1.2.1 d_rf_step_8 ?_
  refine lv_istore_n (lv' := [(1, .int _), (0, .ref _)]) X.1.1 X.1.2.1 d_rf_step_9 rfl L (by decide) rfl (fun ls L => ?_)
  refine lv_iload_n X.1.1 X.1.2.1 d_rf_step_10 rfl (lv_at L 0 rfl) ?_
  refine lv_bipush (v := 16) X.1.1 X.1.2.1 d_rf_step_11 rfl ?_
  refine lv_icmp_ge (tgt := 47) X.1.1 X.1.2.1 d_rf_step_13 rfl (fun h13 => ?_) (fun h13 => ?_)
  · skip
    refine lv_iconst (v := 0) X.1.1 X.1.2.1 d_rf_step_47 rfl ?_
    refine lv_istore_n (lv' := [(2, .int _), (1, .int _), (0, .ref _)]) X.1.1 X.1.2.1 d_rf_step_48 rfl L (by decide) rfl (fun ls L => ?_)
    refine lv_aload_n X.1.1 X.1.2.1 d_rf_step_49 rfl (lv_at L 2 rfl) ?_
    refine lv_iload_n X.1.1 X.1.2.1 d_rf_step_50 rfl (lv_at L 1 rfl) ?_
    refine lv_bipush (v := 15) X.1.1 X.1.2.1 d_rf_step_51 rfl ?_
    refine lv_icmp_le (tgt := 61) X.1.1 X.1.2.1 d_rf_step_53 rfl (fun h53 => ?_) (fun h53 => ?_)
    · skip
      exact absurd h13 (n16 h53)
    · skip
      refine lv_bipush (v := 6) X.1.1 X.1.2.1 d_rf_step_56 rfl ?_
      refine lv_goto (tgt := 74) X.1.1 X.1.2.1 d_rf_step_58 rfl ?_
      refine p_rf_reason hI X d_rf_step_74 (fun H locs X => ?_)
      refine lv_aload_n X.1.1 X.1.2.1 d_rf_step_77 rfl (lv_at L 2 rfl) ?_
      refine g_rf_reason X d_rf_step_78 ?_
      refine lv_if_le (tgt := 86) X.1.1 X.1.2.1 d_rf_step_81 rfl (fun h81 => ?_) (fun h81 => ?_)
      · skip
        exact absurd h81 (show ¬ (6 : Int32) ≤ 0 by decide)
      · skip
        refine lv_iconst (v := 0) X.1.1 X.1.2.1 d_rf_step_84 rfl ?_
        exact X.zret hr hlk d_rf_step_85 (by first | rfl | assumption) (by first | rw [stepM, step1M, stepC, if_neg h13, if_pos h53, step2M, remM, if_neg (show ¬ failsM σ _ _ _ ≤ 0 from h81)] | rw [stepM, step1M, stepC, if_pos h13, if_neg h53, step2M, if_neg (show ¬ (6 : Int32) ≤ 0 by decide)]) (by first | (rw [stepM, step1M, stepC, if_neg h13, if_pos h53, step2M, remM, if_neg (show ¬ failsM σ _ _ _ ≤ 0 from h81)]; try rfl) | rw [stepM, step1M, stepC, if_pos h13, if_neg h53, step2M, if_neg (show ¬ (6 : Int32) ≤ 0 by decide)])
  · skip
    refine lv_aload_n X.1.1 X.1.2.1 d_rf_step_16 rfl (lv_at L 1 rfl) ?_
    refine g_rf_code X d_rf_step_17 ?_
    refine lv_bipush (v := 16) X.1.1 X.1.2.1 d_rf_step_20 rfl ?_
    refine lv_bipush (v := 8) X.1.1 X.1.2.1 d_rf_step_22 rfl ?_
    refine lv_aload_n X.1.1 X.1.2.1 d_rf_step_24 rfl (lv_at L 1 rfl) ?_
    refine lv_iconst (v := 2) X.1.1 X.1.2.1 d_rf_step_25 rfl ?_
    refine Mi.callV (k := 1) (c_rf_at hI _ _ hm (vpc (by decide))) X (gt_V mw_672 mw_674 ms_43 mw_5 mw_675) ok_rf_at ⟨rfl, rfl, by decide, by decide⟩ (rc_rf X) rfl L.1 rfl (Nat.le_of_ble_eq_true rfl) d_rf_step_26 (fun H locs X => ?_)
    refine lv_imul X.1.1 X.1.2.1 d_rf_step_29 ?_
    refine lv_aload_n X.1.1 X.1.2.1 d_rf_step_30 rfl (lv_at L 1 rfl) ?_
    refine lv_iconst (v := 3) X.1.1 X.1.2.1 d_rf_step_31 rfl ?_
    refine Mi.callV (k := 1) (c_rf_at hI _ _ hm (vpc (by decide))) X (gt_V mw_672 mw_674 ms_43 mw_5 mw_675) ok_rf_at ⟨rfl, rfl, by decide, by decide⟩ (rc_rf X) rfl L.1 rfl (Nat.le_of_ble_eq_true rfl) d_rf_step_32 (fun H locs X => ?_)
    refine lv_iadd X.1.1 X.1.2.1 d_rf_step_35 ?_
    refine lv_sipush (v := 1000) X.1.1 X.1.2.1 d_rf_step_36 rfl ?_
    refine lv_isub X.1.1 X.1.2.1 d_rf_step_39 ?_
    refine lv_imul X.1.1 X.1.2.1 d_rf_step_40 ?_
    refine lv_iload_n X.1.1 X.1.2.1 d_rf_step_41 rfl (lv_at L 0 rfl) ?_
    refine lv_iadd X.1.1 X.1.2.1 d_rf_step_42 ?_
    refine rl_10 X (hv (hq16 h13)).2.2 d_rf_step_43 ?_
    refine lv_goto (tgt := 48) X.1.1 X.1.2.1 d_rf_step_44 rfl ?_
    refine lv_istore_n (lv' := [(2, .int _), (1, .int _), (0, .ref _)]) X.1.1 X.1.2.1 d_rf_step_48 rfl L (by decide) rfl (fun ls L => ?_)
    refine lv_aload_n X.1.1 X.1.2.1 d_rf_step_49 rfl (lv_at L 2 rfl) ?_
    refine lv_iload_n X.1.1 X.1.2.1 d_rf_step_50 rfl (lv_at L 1 rfl) ?_
    refine lv_bipush (v := 15) X.1.1 X.1.2.1 d_rf_step_51 rfl ?_
    refine lv_icmp_le (tgt := 61) X.1.1 X.1.2.1 d_rf_step_53 rfl (fun h53 => ?_) (fun h53 => ?_)
    · skip
      refine lv_aload_n X.1.1 X.1.2.1 d_rf_step_61 rfl (lv_at L 2 rfl) ?_
      refine lv_iload_n X.1.1 X.1.2.1 d_rf_step_62 rfl (lv_at L 0 rfl) ?_
      refine lv_bipush (v := 16) X.1.1 X.1.2.1 d_rf_step_63 rfl ?_
      refine lv_idiv X.1.1 X.1.2.1 d_rf_step_65 (by decide) ?_
      refine lv_iload_n X.1.1 X.1.2.1 d_rf_step_66 rfl (lv_at L 0 rfl) ?_
      refine lv_bipush (v := 16) X.1.1 X.1.2.1 d_rf_step_67 rfl ?_
      refine lv_irem X.1.1 X.1.2.1 d_rf_step_69 (by decide) ?_
      refine lv_iload_n X.1.1 X.1.2.1 d_rf_step_70 rfl (lv_at L 1 rfl) ?_
      refine Mi.callV (k := 3) (c_rf_fails hI _ τ c _ _ _ (v / 16) (v % 16) hA (by have := (hv (hq16 h13)).1; omega) (Nat.mod_lt _ (by decide)) (by rw [(hv (hq16 h13)).2.1]; exact (halves (hv (hq16 h13)).1).2.2.1) (by rw [(hv (hq16 h13)).2.1]; exact (halves (hv (hq16 h13)).1).2.2.2)) X (gt_V mw_676 mw_678 ms_44 mw_5 mw_679) ok_rf_fails ⟨rfl, rfl, by decide, by decide⟩ (rc_rf X) rfl L.1 rfl (Nat.le_of_ble_eq_true rfl) d_rf_step_71 (fun H locs X => ?_)
      refine p_rf_reason hI X d_rf_step_74 (fun H locs X => ?_)
      refine lv_aload_n X.1.1 X.1.2.1 d_rf_step_77 rfl (lv_at L 2 rfl) ?_
      refine g_rf_reason X d_rf_step_78 ?_
      refine lv_if_le (tgt := 86) X.1.1 X.1.2.1 d_rf_step_81 rfl (fun h81 => ?_) (fun h81 => ?_)
      · skip
        have hr0 := fails_0 (show failsM σ _ _ _ ≤ 0 from h81)
        have hs0 := sA_id σ (k := 21) (j := 0) (h21.trans hr0.symm)
        have e1 := (halves (hv (hq16 h13)).1).2.2.1
        have e2 := (halves (hv (hq16 h13)).1).2.2.2
        have hrn : failsM σ (nI (v / 16)) (nI (v % 16)) (nI Q) = 0 := by rw [← e1, ← e2, ← eQ, ← (hv (hq16 h13)).2.1]; exact hr0
        refine lv_aload_n X.1.1 X.1.2.1 d_rf_step_86 rfl (lv_at L 2 rfl) ?_
        refine lv_iload_n X.1.1 X.1.2.1 d_rf_step_87 rfl (lv_at L 0 rfl) ?_
        refine lv_bipush (v := 16) X.1.1 X.1.2.1 d_rf_step_88 rfl ?_
        refine lv_idiv X.1.1 X.1.2.1 d_rf_step_90 (by decide) ?_
        refine lv_iload_n X.1.1 X.1.2.1 d_rf_step_91 rfl (lv_at L 0 rfl) ?_
        refine lv_bipush (v := 16) X.1.1 X.1.2.1 d_rf_step_92 rfl ?_
        refine lv_irem X.1.1 X.1.2.1 d_rf_step_94 (by decide) ?_
        refine lv_iload_n X.1.1 X.1.2.1 d_rf_step_95 rfl (lv_at L 1 rfl) ?_
        refine Mv.callV (k := 3) (c_rf_perform hI _ τ c _ _ _ (v / 16) (v % 16) Q (by rw [hs0]; exact hA) (by have := (hv (hq16 h13)).1; omega) (Nat.mod_lt _ (by decide)) (hq16 h13) (by rw [(hv (hq16 h13)).2.1]; exact e1) (by rw [(hv (hq16 h13)).2.1]; exact e2) eQ (fails_ok hA (P := v / 16) (A := v % 16) (by have := (hv (hq16 h13)).1; omega) (Nat.mod_lt _ (by decide)) hrn).1 (fails_ok hA (P := v / 16) (A := v % 16) (by have := (hv (hq16 h13)).1; omega) (Nat.mod_lt _ (by decide)) hrn).2.1 (by rw [hs0, (hv (hq16 h13)).2.1]; have z := (fails_ok hA (P := v / 16) (A := v % 16) (by have := (hv (hq16 h13)).1; omega) (Nat.mod_lt _ (by decide)) hrn).2.2; rw [← e1, ← e2, ← eQ] at z; exact z) (by rw [hs0, (hv (hq16 h13)).2.1, eQ]; have z := perf_RGm hA (P := v / 16) (A := v % 16) (by have := (hv (hq16 h13)).1; omega) (Nat.mod_lt _ (by decide)) (hq16 h13) (fails_ok hA (P := v / 16) (A := v % 16) (by have := (hv (hq16 h13)).1; omega) (Nat.mod_lt _ (by decide)) hrn).1 (fails_ok hA (P := v / 16) (A := v % 16) (by have := (hv (hq16 h13)).1; omega) (Nat.mod_lt _ (by decide)) hrn).2.1 (fails_ok hA (P := v / 16) (A := v % 16) (by have := (hv (hq16 h13)).1; omega) (Nat.mod_lt _ (by decide)) hrn).2.2; rw [← e1, ← e2] at z; exact z)) X (gt_V mw_710 mw_712 ms_51 mw_5 mw_713) ok_rf_perform ⟨rfl, rfl, by decide, by decide⟩ (rc_rf X) rfl L.1 rfl (Nat.le_of_ble_eq_true rfl) d_rf_step_96 (fun H locs X => ?_)
        refine lv_iconst (v := 1) X.1.1 X.1.2.1 d_rf_step_99 rfl ?_
        exact X.zret hr hlk d_rf_step_100 (by first | rfl | assumption) (by rw [stepM, step1M, stepC, if_neg h13, if_pos h53, step2M, remM, if_pos (show failsM σ _ _ _ ≤ 0 from h81)]) (by rw [stepM, step1M, stepC, if_neg h13, if_pos h53, step2M, remM, if_pos (show failsM σ _ _ _ ≤ 0 from h81)]; try rfl)
      · skip
        refine lv_iconst (v := 0) X.1.1 X.1.2.1 d_rf_step_84 rfl ?_
        exact X.zret hr hlk d_rf_step_85 (by first | rfl | assumption) (by first | rw [stepM, step1M, stepC, if_neg h13, if_pos h53, step2M, remM, if_neg (show ¬ failsM σ _ _ _ ≤ 0 from h81)] | rw [stepM, step1M, stepC, if_pos h13, if_neg h53, step2M, if_neg (show ¬ (6 : Int32) ≤ 0 by decide)]) (by first | (rw [stepM, step1M, stepC, if_neg h13, if_pos h53, step2M, remM, if_neg (show ¬ failsM σ _ _ _ ≤ 0 from h81)]; try rfl) | rw [stepM, step1M, stepC, if_pos h13, if_neg h53, step2M, if_neg (show ¬ (6 : Int32) ≤ 0 by decide)])
    · skip
      exact absurd (n15 h53) h13
