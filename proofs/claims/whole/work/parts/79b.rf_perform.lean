set_option maxHeartbeats 4000000 in
theorem c_rf_perform {l : Launch} {D : va_G} {ad : Nat → Nat} {ci : Nat → ClassId} (hI : InjR ad) (σ : SS) (τ : SS) (c p a q : Int32) (P A Q : Nat) (hA : ACT τ σ c) (hP : P < 16) (ha : A < 16) (hQ : Q < 16) (ep : p = nI P) (ea : a = nI A) (eq1 : q = nI Q) (hw : wu P A ≤ dpt τ c) (h6 : (P ≤ 2 ∨ (P = 13 ∧ A = 0)) → dpt τ c < 6) (hf : fails1M σ p a q = 0) (hR : RGm (perf1M (jumpM σ (q + 1)) p a q)) : Mv l y_rf_perform b_rf_perform 4 ({ frames := 4, cells := 0, slots := 0, locals := 93 } : Room) (ER D ad ci) [.ref (ad 0), .int p, .int a, .int q] σ (performM σ p a q) := by
  refine Mv.start pn_rf (Nat.le_of_ble_eq_true rfl) (fun zp ze zs zm zb zt zc ls X hr hlk L => ?_)
  have L : lv_has ls 4 [(0, .ref (ad 0)), (1, .int p), (2, .int a), (3, .int q)] := L
  have hJ : ACT (setPlace τ c (nI (Q + 1))) (jumpM σ (q + 1)) c := by rw [eq1, nI_1]; exact ACT_jump hA (by omega)
  have hmJ := hJ.rgm
  have dJ : dpt (setPlace τ c (nI (Q + 1))) c = dpt τ c := by unfold dpt setPlace; rw [setField_ne _ _ _ _ (by decide)]
  have hfJ : fails1M (jumpM σ (q + 1)) p a q = 0 := by rw [ep, ea, jump_fails hA hP ha hw, ← ep, ← ea]; exact hf
  have tJ : (tpM (jumpM σ (q + 1))).toInt = dpt τ c := by rw [hJ.tpd.2, dJ]
  refine lv_aload_n X.1.1 X.1.2.1 d_rf_perform_0 rfl (lv_at L 0 rfl) ?_
  refine lv_iload_n X.1.1 X.1.2.1 d_rf_perform_1 rfl (lv_at L 3 rfl) ?_
  refine lv_iconst (v := 1) X.1.1 X.1.2.1 d_rf_perform_2 rfl ?_
  refine lv_iadd X.1.1 X.1.2.1 d_rf_perform_3 ?_
  refine Mv.callV (k := 1) (c_rf_jump hI _ _ hA.rgm) X (gt_V mw_714 mw_716 ms_52 mw_5 mw_717) ok_rf_jump ⟨rfl, rfl, by decide, by decide⟩ (rc_rf X) rfl L.1 rfl (Nat.le_of_ble_eq_true rfl) d_rf_perform_4 (fun H locs X => ?_)
  refine lv_iload_n X.1.1 X.1.2.1 d_rf_perform_7 rfl (lv_at L 1 rfl) ?_
  by_cases q8_0 : p = 0
  · refine lv_tableIn (tgt := 76) X.1.1 X.1.2.1 d_rf_perform_8 (by rw [q8_0]; decide) (by rw [q8_0]; decide) (by rw [q8_0]; rfl) rfl ?_
    refine lv_aload_n X.1.1 X.1.2.1 d_rf_perform_76 rfl (lv_at L 0 rfl) ?_
    refine lv_aload_n X.1.1 X.1.2.1 d_rf_perform_77 rfl (lv_at L 0 rfl) ?_
    refine lv_iconst (v := 5) X.1.1 X.1.2.1 d_rf_perform_78 rfl ?_
    refine lv_iload_n X.1.1 X.1.2.1 d_rf_perform_79 rfl (lv_at L 2 rfl) ?_
    refine lv_iadd X.1.1 X.1.2.1 d_rf_perform_80 ?_
    refine Mi.callV (k := 1) (c_rf_at hI _ _ hmJ (a5v ea ha (pf_0 hfJ (Or.inl q8_0)))) X (gt_V mw_672 mw_674 ms_43 mw_5 mw_675) ok_rf_at ⟨rfl, rfl, by decide, by decide⟩ (rc_rf X) rfl L.1 rfl (Nat.le_of_ble_eq_true rfl) d_rf_perform_81 (fun H locs X => ?_)
    refine Mv.callV (k := 1) (c_rf_push hI _ _ hmJ (by rw [tJ]; have e0 := p_eq ep hP (k := 0) q8_0 (by omega); have := h6 (by omega); omega)) X (gt_V mw_718 mw_720 ms_53 mw_5 mw_721) ok_rf_push ⟨rfl, rfl, by decide, by decide⟩ (rc_rf X) rfl L.1 rfl (Nat.le_of_ble_eq_true rfl) d_rf_perform_84 (fun H locs X => ?_)
    refine lv_goto (tgt := 273) X.1.1 X.1.2.1 d_rf_perform_87 rfl ?_
    refine lv_aload_n X.1.1 X.1.2.1 d_rf_perform_273 rfl (lv_at L 0 rfl) ?_
    refine Mv.callV (k := 0) (c_rf_settle hI _ (by have hR2 := hR; simp only [perf1M, eq_true q8_0, if_true, if_false] at hR2; exact hR2)) X (gt_V mw_524 mw_526 ms_32 mw_5 mw_527) ok_rf_settle ⟨rfl, rfl, by decide, by decide⟩ (rc_rf X) rfl L.1 rfl (Nat.le_of_ble_eq_true rfl) d_rf_perform_274 (fun H locs X => ?_)
    exact X.vret hr hlk d_rf_perform_277 (by first | (simp only [performM, perf1M, eq_true q8_0, if_true, if_false]; done) | (simp [performM, perf1M, eq_true q8_0]; done) | (simp [performM, perf1M, q8_0]; done) | rfl)
  by_cases q8_1 : p = 1
  · refine lv_tableIn (tgt := 90) X.1.1 X.1.2.1 d_rf_perform_8 (by rw [q8_1]; decide) (by rw [q8_1]; decide) (by rw [q8_1]; rfl) rfl ?_
    refine lv_aload_n X.1.1 X.1.2.1 d_rf_perform_90 rfl (lv_at L 0 rfl) ?_
    refine lv_aload_n X.1.1 X.1.2.1 d_rf_perform_91 rfl (lv_at L 0 rfl) ?_
    refine g_rf_word X d_rf_perform_92 ?_
    refine lv_bipush (v := 15) X.1.1 X.1.2.1 d_rf_perform_95 rfl ?_
    refine lv_aload_n X.1.1 X.1.2.1 d_rf_perform_97 rfl (lv_at L 0 rfl) ?_
    refine lv_iconst (v := 1) X.1.1 X.1.2.1 d_rf_perform_98 rfl ?_
    refine Mi.callV (k := 1) (c_rf_at hI _ _ hmJ (vpc (by decide))) X (gt_V mw_672 mw_674 ms_43 mw_5 mw_675) ok_rf_at ⟨rfl, rfl, by decide, by decide⟩ (rc_rf X) rfl L.1 rfl (Nat.le_of_ble_eq_true rfl) d_rf_perform_99 (fun H locs X => ?_)
    refine lv_imul X.1.1 X.1.2.1 d_rf_perform_102 ?_
    refine lv_iload_n X.1.1 X.1.2.1 d_rf_perform_103 rfl (lv_at L 2 rfl) ?_
    refine lv_iadd X.1.1 X.1.2.1 d_rf_perform_104 ?_
    refine rl_5 X (wiv (hasFieldM_in hmJ (pf_1 hfJ (Or.inl q8_1)) (hmJ.at (vpc (by decide)))).1 (hasFieldM_in hmJ (pf_1 hfJ (Or.inl q8_1)) (hmJ.at (vpc (by decide)))).2) d_rf_perform_105 ?_
    refine Mv.callV (k := 1) (c_rf_push hI _ _ hmJ (by rw [tJ]; have e0 := p_eq ep hP (k := 1) q8_1 (by omega); have := h6 (by omega); omega)) X (gt_V mw_718 mw_720 ms_53 mw_5 mw_721) ok_rf_push ⟨rfl, rfl, by decide, by decide⟩ (rc_rf X) rfl L.1 rfl (Nat.le_of_ble_eq_true rfl) d_rf_perform_106 (fun H locs X => ?_)
    refine lv_goto (tgt := 273) X.1.1 X.1.2.1 d_rf_perform_109 rfl ?_
    refine lv_aload_n X.1.1 X.1.2.1 d_rf_perform_273 rfl (lv_at L 0 rfl) ?_
    refine Mv.callV (k := 0) (c_rf_settle hI _ (by have hR2 := hR; simp only [perf1M, eq_false q8_0, eq_true q8_1, if_true, if_false] at hR2; exact hR2)) X (gt_V mw_524 mw_526 ms_32 mw_5 mw_527) ok_rf_settle ⟨rfl, rfl, by decide, by decide⟩ (rc_rf X) rfl L.1 rfl (Nat.le_of_ble_eq_true rfl) d_rf_perform_274 (fun H locs X => ?_)
    exact X.vret hr hlk d_rf_perform_277 (by first | (simp only [performM, perf1M, eq_false q8_0, eq_true q8_1, if_true, if_false]; done) | (simp [performM, perf1M, eq_false q8_0, eq_true q8_1]; done) | (simp [performM, perf1M, q8_0, q8_1]; done) | rfl)
  by_cases q8_2 : p = 2
  · refine lv_tableIn (tgt := 112) X.1.1 X.1.2.1 d_rf_perform_8 (by rw [q8_2]; decide) (by rw [q8_2]; decide) (by rw [q8_2]; rfl) rfl ?_
    refine lv_aload_n X.1.1 X.1.2.1 d_rf_perform_112 rfl (lv_at L 0 rfl) ?_
    refine lv_aload_n X.1.1 X.1.2.1 d_rf_perform_113 rfl (lv_at L 0 rfl) ?_
    refine lv_iload_n X.1.1 X.1.2.1 d_rf_perform_114 rfl (lv_at L 2 rfl) ?_
    refine Mi.callV (k := 1) (c_rf_constant hI _ _ hmJ (by rw [ea]; exact vp_k ha (by decide))) X (gt_V mw_722 mw_724 ms_54 mw_5 mw_725) ok_rf_constant ⟨rfl, rfl, by decide, by decide⟩ (rc_rf X) rfl L.1 rfl (Nat.le_of_ble_eq_true rfl) d_rf_perform_115 (fun H locs X => ?_)
    refine Mv.callV (k := 1) (c_rf_push hI _ _ hmJ (by rw [tJ]; have e0 := p_eq ep hP (k := 2) q8_2 (by omega); have := h6 (by omega); omega)) X (gt_V mw_718 mw_720 ms_53 mw_5 mw_721) ok_rf_push ⟨rfl, rfl, by decide, by decide⟩ (rc_rf X) rfl L.1 rfl (Nat.le_of_ble_eq_true rfl) d_rf_perform_118 (fun H locs X => ?_)
    refine lv_goto (tgt := 273) X.1.1 X.1.2.1 d_rf_perform_121 rfl ?_
    refine lv_aload_n X.1.1 X.1.2.1 d_rf_perform_273 rfl (lv_at L 0 rfl) ?_
    refine Mv.callV (k := 0) (c_rf_settle hI _ (by have hR2 := hR; simp only [perf1M, eq_false q8_0, eq_false q8_1, eq_true q8_2, if_true, if_false] at hR2; exact hR2)) X (gt_V mw_524 mw_526 ms_32 mw_5 mw_527) ok_rf_settle ⟨rfl, rfl, by decide, by decide⟩ (rc_rf X) rfl L.1 rfl (Nat.le_of_ble_eq_true rfl) d_rf_perform_274 (fun H locs X => ?_)
    exact X.vret hr hlk d_rf_perform_277 (by first | (simp only [performM, perf1M, eq_false q8_0, eq_false q8_1, eq_true q8_2, if_true, if_false]; done) | (simp [performM, perf1M, eq_false q8_0, eq_false q8_1, eq_true q8_2]; done) | (simp [performM, perf1M, q8_0, q8_1, q8_2]; done) | rfl)
  by_cases q8_3 : p = 3
  · refine lv_tableIn (tgt := 124) X.1.1 X.1.2.1 d_rf_perform_8 (by rw [q8_3]; decide) (by rw [q8_3]; decide) (by rw [q8_3]; rfl) rfl ?_
    refine lv_aload_n X.1.1 X.1.2.1 d_rf_perform_124 rfl (lv_at L 0 rfl) ?_
    refine lv_bipush (v := 15) X.1.1 X.1.2.1 d_rf_perform_125 rfl ?_
    refine lv_aload_n X.1.1 X.1.2.1 d_rf_perform_127 rfl (lv_at L 0 rfl) ?_
    refine g_rf_active X d_rf_perform_128 ?_
    refine lv_imul X.1.1 X.1.2.1 d_rf_perform_131 ?_
    refine lv_iconst (v := 5) X.1.1 X.1.2.1 d_rf_perform_132 rfl ?_
    refine lv_iadd X.1.1 X.1.2.1 d_rf_perform_133 ?_
    refine lv_iload_n X.1.1 X.1.2.1 d_rf_perform_134 rfl (lv_at L 2 rfl) ?_
    refine lv_iadd X.1.1 X.1.2.1 d_rf_perform_135 ?_
    refine Mv.callV (k := 1) (c_rf_into hI _ _ hmJ (by rw [tJ]; have e0 := p_eq ep hP (k := 3) q8_3 (by omega); rw [e0, wn_1 (by omega)] at hw; omega) (a5w ea ha (pf_0 hfJ (Or.inr q8_3)) hmJ.ac)) X (gt_V mw_726 mw_728 ms_55 mw_5 mw_729) ok_rf_into ⟨rfl, rfl, by decide, by decide⟩ (rc_rf X) rfl L.1 rfl (Nat.le_of_ble_eq_true rfl) d_rf_perform_136 (fun H locs X => ?_)
    refine lv_goto (tgt := 273) X.1.1 X.1.2.1 d_rf_perform_139 rfl ?_
    refine lv_aload_n X.1.1 X.1.2.1 d_rf_perform_273 rfl (lv_at L 0 rfl) ?_
    refine Mv.callV (k := 0) (c_rf_settle hI _ (by have hR2 := hR; simp only [perf1M, eq_false q8_0, eq_false q8_1, eq_false q8_2, eq_true q8_3, if_true, if_false] at hR2; exact hR2)) X (gt_V mw_524 mw_526 ms_32 mw_5 mw_527) ok_rf_settle ⟨rfl, rfl, by decide, by decide⟩ (rc_rf X) rfl L.1 rfl (Nat.le_of_ble_eq_true rfl) d_rf_perform_274 (fun H locs X => ?_)
    exact X.vret hr hlk d_rf_perform_277 (by first | (simp only [performM, perf1M, eq_false q8_0, eq_false q8_1, eq_false q8_2, eq_true q8_3, if_true, if_false]; done) | (simp [performM, perf1M, eq_false q8_0, eq_false q8_1, eq_false q8_2, eq_true q8_3]; done) | (simp [performM, perf1M, q8_0, q8_1, q8_2, q8_3]; done) | rfl)
  by_cases q8_4 : p = 4
  · refine lv_tableIn (tgt := 142) X.1.1 X.1.2.1 d_rf_perform_8 (by rw [q8_4]; decide) (by rw [q8_4]; decide) (by rw [q8_4]; rfl) rfl ?_
    refine lv_aload_n X.1.1 X.1.2.1 d_rf_perform_142 rfl (lv_at L 0 rfl) ?_
    refine lv_bipush (v := 15) X.1.1 X.1.2.1 d_rf_perform_143 rfl ?_
    refine lv_aload_n X.1.1 X.1.2.1 d_rf_perform_145 rfl (lv_at L 0 rfl) ?_
    refine lv_iconst (v := 1) X.1.1 X.1.2.1 d_rf_perform_146 rfl ?_
    refine Mi.callV (k := 1) (c_rf_at hI _ _ hmJ (vpc (by decide))) X (gt_V mw_672 mw_674 ms_43 mw_5 mw_675) ok_rf_at ⟨rfl, rfl, by decide, by decide⟩ (rc_rf X) rfl L.1 rfl (Nat.le_of_ble_eq_true rfl) d_rf_perform_147 (fun H locs X => ?_)
    refine lv_imul X.1.1 X.1.2.1 d_rf_perform_150 ?_
    refine lv_iload_n X.1.1 X.1.2.1 d_rf_perform_151 rfl (lv_at L 2 rfl) ?_
    refine lv_iadd X.1.1 X.1.2.1 d_rf_perform_152 ?_
    refine Mv.callV (k := 1) (c_rf_into hI _ _ hmJ (by rw [tJ]; have e0 := p_eq ep hP (k := 4) q8_4 (by omega); rw [e0, wn_1 (by omega)] at hw; omega) (wiv (hasFieldM_in hmJ (pf_1 hfJ (Or.inr q8_4)) (hmJ.at (vpc (by decide)))).1 (hasFieldM_in hmJ (pf_1 hfJ (Or.inr q8_4)) (hmJ.at (vpc (by decide)))).2)) X (gt_V mw_726 mw_728 ms_55 mw_5 mw_729) ok_rf_into ⟨rfl, rfl, by decide, by decide⟩ (rc_rf X) rfl L.1 rfl (Nat.le_of_ble_eq_true rfl) d_rf_perform_153 (fun H locs X => ?_)
    refine lv_goto (tgt := 273) X.1.1 X.1.2.1 d_rf_perform_156 rfl ?_
    refine lv_aload_n X.1.1 X.1.2.1 d_rf_perform_273 rfl (lv_at L 0 rfl) ?_
    refine Mv.callV (k := 0) (c_rf_settle hI _ (by have hR2 := hR; simp only [perf1M, eq_false q8_0, eq_false q8_1, eq_false q8_2, eq_false q8_3, eq_true q8_4, if_true, if_false] at hR2; exact hR2)) X (gt_V mw_524 mw_526 ms_32 mw_5 mw_527) ok_rf_settle ⟨rfl, rfl, by decide, by decide⟩ (rc_rf X) rfl L.1 rfl (Nat.le_of_ble_eq_true rfl) d_rf_perform_274 (fun H locs X => ?_)
    exact X.vret hr hlk d_rf_perform_277 (by first | (simp only [performM, perf1M, eq_false q8_0, eq_false q8_1, eq_false q8_2, eq_false q8_3, eq_true q8_4, if_true, if_false]; done) | (simp [performM, perf1M, eq_false q8_0, eq_false q8_1, eq_false q8_2, eq_false q8_3, eq_true q8_4]; done) | (simp [performM, perf1M, q8_0, q8_1, q8_2, q8_3, q8_4]; done) | rfl)
  by_cases q8_5 : p = 5
  · refine lv_tableIn (tgt := 159) X.1.1 X.1.2.1 d_rf_perform_8 (by rw [q8_5]; decide) (by rw [q8_5]; decide) (by rw [q8_5]; rfl) rfl ?_
    have hp5 : a ≤ 7 ∧ ¬ foundM (jumpM σ (q + 1)) (beginM (jumpM σ (q + 1)) p a) a = 0 ∧ 0 ≤ roomM (jumpM σ (q + 1)) := by first | exact pf_5 hfJ (Or.inl q8_5) | exact pf_5 hfJ (Or.inr q8_6)
    refine lv_aload_n X.1.1 X.1.2.1 d_rf_perform_159 rfl (lv_at L 0 rfl) ?_
    refine lv_iload_n X.1.1 X.1.2.1 d_rf_perform_160 rfl (lv_at L 1 rfl) ?_
    refine lv_iload_n X.1.1 X.1.2.1 d_rf_perform_161 rfl (lv_at L 2 rfl) ?_
    refine Mv.callV (k := 2) (c_rf_sends hI _ (setPlace τ c (nI (Q + 1))) c _ _ P A hJ ha ea (by rw [dJ]; first | (have e0 := p_eq ep hP (k := 5) q8_5 (by omega); rw [e0, wn_5 (Or.inl rfl)] at hw; exact hw) | (have e0 := p_eq ep hP (k := 6) q8_6 (by omega); rw [e0, wn_5 (Or.inr rfl)] at hw; exact hw)) (a8v ea ha hp5.1) hp5.2.2) X (gt_V mw_734 mw_736 ms_57 mw_5 mw_737) ok_rf_sends ⟨rfl, rfl, by decide, by decide⟩ (rc_rf X) rfl L.1 rfl (Nat.le_of_ble_eq_true rfl) d_rf_perform_162 (fun H locs X => ?_)
    refine lv_goto (tgt := 273) X.1.1 X.1.2.1 d_rf_perform_165 rfl ?_
    refine lv_aload_n X.1.1 X.1.2.1 d_rf_perform_273 rfl (lv_at L 0 rfl) ?_
    refine Mv.callV (k := 0) (c_rf_settle hI _ (by have hR2 := hR; simp only [perf1M, eq_false q8_0, eq_false q8_1, eq_false q8_2, eq_false q8_3, eq_false q8_4, eq_true q8_5, if_true, if_false] at hR2; exact hR2)) X (gt_V mw_524 mw_526 ms_32 mw_5 mw_527) ok_rf_settle ⟨rfl, rfl, by decide, by decide⟩ (rc_rf X) rfl L.1 rfl (Nat.le_of_ble_eq_true rfl) d_rf_perform_274 (fun H locs X => ?_)
    exact X.vret hr hlk d_rf_perform_277 (by first | (simp only [performM, perf1M, eq_false q8_0, eq_false q8_1, eq_false q8_2, eq_false q8_3, eq_false q8_4, eq_true q8_5, if_true, if_false]; done) | (simp [performM, perf1M, eq_false q8_0, eq_false q8_1, eq_false q8_2, eq_false q8_3, eq_false q8_4, eq_true q8_5]; done) | (simp [performM, perf1M, q8_0, q8_1, q8_2, q8_3, q8_4, q8_5]; done) | rfl)
  by_cases q8_6 : p = 6
  · refine lv_tableIn (tgt := 159) X.1.1 X.1.2.1 d_rf_perform_8 (by rw [q8_6]; decide) (by rw [q8_6]; decide) (by rw [q8_6]; rfl) rfl ?_
    have hp5 : a ≤ 7 ∧ ¬ foundM (jumpM σ (q + 1)) (beginM (jumpM σ (q + 1)) p a) a = 0 ∧ 0 ≤ roomM (jumpM σ (q + 1)) := by first | exact pf_5 hfJ (Or.inl q8_5) | exact pf_5 hfJ (Or.inr q8_6)
    refine lv_aload_n X.1.1 X.1.2.1 d_rf_perform_159 rfl (lv_at L 0 rfl) ?_
    refine lv_iload_n X.1.1 X.1.2.1 d_rf_perform_160 rfl (lv_at L 1 rfl) ?_
    refine lv_iload_n X.1.1 X.1.2.1 d_rf_perform_161 rfl (lv_at L 2 rfl) ?_
    refine Mv.callV (k := 2) (c_rf_sends hI _ (setPlace τ c (nI (Q + 1))) c _ _ P A hJ ha ea (by rw [dJ]; first | (have e0 := p_eq ep hP (k := 5) q8_5 (by omega); rw [e0, wn_5 (Or.inl rfl)] at hw; exact hw) | (have e0 := p_eq ep hP (k := 6) q8_6 (by omega); rw [e0, wn_5 (Or.inr rfl)] at hw; exact hw)) (a8v ea ha hp5.1) hp5.2.2) X (gt_V mw_734 mw_736 ms_57 mw_5 mw_737) ok_rf_sends ⟨rfl, rfl, by decide, by decide⟩ (rc_rf X) rfl L.1 rfl (Nat.le_of_ble_eq_true rfl) d_rf_perform_162 (fun H locs X => ?_)
    refine lv_goto (tgt := 273) X.1.1 X.1.2.1 d_rf_perform_165 rfl ?_
    refine lv_aload_n X.1.1 X.1.2.1 d_rf_perform_273 rfl (lv_at L 0 rfl) ?_
    refine Mv.callV (k := 0) (c_rf_settle hI _ (by have hR2 := hR; simp only [perf1M, eq_false q8_0, eq_false q8_1, eq_false q8_2, eq_false q8_3, eq_false q8_4, eq_false q8_5, eq_true q8_6, if_true, if_false] at hR2; exact hR2)) X (gt_V mw_524 mw_526 ms_32 mw_5 mw_527) ok_rf_settle ⟨rfl, rfl, by decide, by decide⟩ (rc_rf X) rfl L.1 rfl (Nat.le_of_ble_eq_true rfl) d_rf_perform_274 (fun H locs X => ?_)
    exact X.vret hr hlk d_rf_perform_277 (by first | (simp only [performM, perf1M, eq_false q8_0, eq_false q8_1, eq_false q8_2, eq_false q8_3, eq_false q8_4, eq_false q8_5, eq_true q8_6, if_true, if_false]; done) | (simp [performM, perf1M, eq_false q8_0, eq_false q8_1, eq_false q8_2, eq_false q8_3, eq_false q8_4, eq_false q8_5, eq_true q8_6]; done) | (simp [performM, perf1M, q8_0, q8_1, q8_2, q8_3, q8_4, q8_5, q8_6]; done) | rfl)
  by_cases q8_7 : p = 7
  · refine lv_tableIn (tgt := 168) X.1.1 X.1.2.1 d_rf_perform_8 (by rw [q8_7]; decide) (by rw [q8_7]; decide) (by rw [q8_7]; rfl) rfl ?_
    refine lv_aload_n X.1.1 X.1.2.1 d_rf_perform_168 rfl (lv_at L 0 rfl) ?_
    refine lv_iload_n X.1.1 X.1.2.1 d_rf_perform_169 rfl (lv_at L 2 rfl) ?_
    refine Mv.callV (k := 1) (c_rf_work hI _ _ hmJ (by rw [tJ]; have e0 := p_eq ep hP (k := 7) q8_7 (by omega); rw [e0, wn_7] at hw; omega)) X (gt_V mw_738 mw_740 ms_58 mw_5 mw_741) ok_rf_work ⟨rfl, rfl, by decide, by decide⟩ (rc_rf X) rfl L.1 rfl (Nat.le_of_ble_eq_true rfl) d_rf_perform_170 (fun H locs X => ?_)
    refine lv_goto (tgt := 273) X.1.1 X.1.2.1 d_rf_perform_173 rfl ?_
    refine lv_aload_n X.1.1 X.1.2.1 d_rf_perform_273 rfl (lv_at L 0 rfl) ?_
    refine Mv.callV (k := 0) (c_rf_settle hI _ (by have hR2 := hR; simp only [perf1M, eq_false q8_0, eq_false q8_1, eq_false q8_2, eq_false q8_3, eq_false q8_4, eq_false q8_5, eq_false q8_6, eq_true q8_7, if_true, if_false] at hR2; exact hR2)) X (gt_V mw_524 mw_526 ms_32 mw_5 mw_527) ok_rf_settle ⟨rfl, rfl, by decide, by decide⟩ (rc_rf X) rfl L.1 rfl (Nat.le_of_ble_eq_true rfl) d_rf_perform_274 (fun H locs X => ?_)
    exact X.vret hr hlk d_rf_perform_277 (by first | (simp only [performM, perf1M, eq_false q8_0, eq_false q8_1, eq_false q8_2, eq_false q8_3, eq_false q8_4, eq_false q8_5, eq_false q8_6, eq_true q8_7, if_true, if_false]; done) | (simp [performM, perf1M, eq_false q8_0, eq_false q8_1, eq_false q8_2, eq_false q8_3, eq_false q8_4, eq_false q8_5, eq_false q8_6, eq_true q8_7]; done) | (simp [performM, perf1M, q8_0, q8_1, q8_2, q8_3, q8_4, q8_5, q8_6, q8_7]; done) | rfl)
  by_cases q8_8 : p = 8
  · refine lv_tableIn (tgt := 176) X.1.1 X.1.2.1 d_rf_perform_8 (by rw [q8_8]; decide) (by rw [q8_8]; decide) (by rw [q8_8]; rfl) rfl ?_
    refine lv_aload_n X.1.1 X.1.2.1 d_rf_perform_176 rfl (lv_at L 0 rfl) ?_
    refine lv_iload_n X.1.1 X.1.2.1 d_rf_perform_177 rfl (lv_at L 3 rfl) ?_
    refine lv_iconst (v := 1) X.1.1 X.1.2.1 d_rf_perform_178 rfl ?_
    refine lv_iadd X.1.1 X.1.2.1 d_rf_perform_179 ?_
    refine lv_iload_n X.1.1 X.1.2.1 d_rf_perform_180 rfl (lv_at L 2 rfl) ?_
    refine lv_iadd X.1.1 X.1.2.1 d_rf_perform_181 ?_
    refine Mv.callV (k := 1) (c_rf_jump hI _ _ hmJ) X (gt_V mw_714 mw_716 ms_52 mw_5 mw_717) ok_rf_jump ⟨rfl, rfl, by decide, by decide⟩ (rc_rf X) rfl L.1 rfl (Nat.le_of_ble_eq_true rfl) d_rf_perform_182 (fun H locs X => ?_)
    refine lv_goto (tgt := 273) X.1.1 X.1.2.1 d_rf_perform_185 rfl ?_
    refine lv_aload_n X.1.1 X.1.2.1 d_rf_perform_273 rfl (lv_at L 0 rfl) ?_
    refine Mv.callV (k := 0) (c_rf_settle hI _ (by have hR2 := hR; simp only [perf1M, eq_false q8_0, eq_false q8_1, eq_false q8_2, eq_false q8_3, eq_false q8_4, eq_false q8_5, eq_false q8_6, eq_false q8_7, eq_true q8_8, if_true, if_false] at hR2; exact hR2)) X (gt_V mw_524 mw_526 ms_32 mw_5 mw_527) ok_rf_settle ⟨rfl, rfl, by decide, by decide⟩ (rc_rf X) rfl L.1 rfl (Nat.le_of_ble_eq_true rfl) d_rf_perform_274 (fun H locs X => ?_)
    exact X.vret hr hlk d_rf_perform_277 (by first | (simp only [performM, perf1M, eq_false q8_0, eq_false q8_1, eq_false q8_2, eq_false q8_3, eq_false q8_4, eq_false q8_5, eq_false q8_6, eq_false q8_7, eq_true q8_8, if_true, if_false]; done) | (simp [performM, perf1M, eq_false q8_0, eq_false q8_1, eq_false q8_2, eq_false q8_3, eq_false q8_4, eq_false q8_5, eq_false q8_6, eq_false q8_7, eq_true q8_8]; done) | (simp [performM, perf1M, q8_0, q8_1, q8_2, q8_3, q8_4, q8_5, q8_6, q8_7, q8_8]; done) | rfl)
  by_cases q8_9 : p = 9
  · refine lv_tableIn (tgt := 188) X.1.1 X.1.2.1 d_rf_perform_8 (by rw [q8_9]; decide) (by rw [q8_9]; decide) (by rw [q8_9]; rfl) rfl ?_
    refine lv_aload_n X.1.1 X.1.2.1 d_rf_perform_188 rfl (lv_at L 0 rfl) ?_
    refine lv_iconst (v := 0) X.1.1 X.1.2.1 d_rf_perform_189 rfl ?_
    refine Mi.callV (k := 1) (c_rf_fromTop hI _ _ hmJ (by decide) (by rw [n0, tJ]; have e0 := p_eq ep hP (k := 9) q8_9 (by omega); rw [e0, wn_1 (by omega)] at hw; omega)) X (gt_V mw_694 mw_696 ms_47 mw_5 mw_697) ok_rf_fromTop ⟨rfl, rfl, by decide, by decide⟩ (rc_rf X) rfl L.1 rfl (Nat.le_of_ble_eq_true rfl) d_rf_perform_190 (fun H locs X => ?_)
    refine lv_if_ne (tgt := 205) X.1.1 X.1.2.1 d_rf_perform_193 rfl (fun h193 => ?_) (fun h193 => ?_)
    · skip
      refine lv_aload_n X.1.1 X.1.2.1 d_rf_perform_205 rfl (lv_at L 0 rfl) ?_
      refine Mv.callV (k := 0) (c_rf_pop hI _ hmJ (by rw [tJ]; have e0 := p_eq ep hP (k := 9) q8_9 (by omega); rw [e0, wn_1 (by omega)] at hw; omega)) X (gt_V mw_730 mw_732 ms_56 mw_5 mw_733) ok_rf_pop ⟨rfl, rfl, by decide, by decide⟩ (rc_rf X) rfl L.1 rfl (Nat.le_of_ble_eq_true rfl) d_rf_perform_206 (fun H locs X => ?_)
      refine lv_goto (tgt := 273) X.1.1 X.1.2.1 d_rf_perform_209 rfl ?_
      refine lv_aload_n X.1.1 X.1.2.1 d_rf_perform_273 rfl (lv_at L 0 rfl) ?_
      refine Mv.callV (k := 0) (c_rf_settle hI _ (by have hR2 := hR; simp only [perf1M, eq_false q8_0, eq_false q8_1, eq_false q8_2, eq_false q8_3, eq_false q8_4, eq_false q8_5, eq_false q8_6, eq_false q8_7, eq_false q8_8, eq_true q8_9, eq_false h193, if_true, if_false] at hR2; exact hR2)) X (gt_V mw_524 mw_526 ms_32 mw_5 mw_527) ok_rf_settle ⟨rfl, rfl, by decide, by decide⟩ (rc_rf X) rfl L.1 rfl (Nat.le_of_ble_eq_true rfl) d_rf_perform_274 (fun H locs X => ?_)
      exact X.vret hr hlk d_rf_perform_277 (by first | (simp only [performM, perf1M, eq_false q8_0, eq_false q8_1, eq_false q8_2, eq_false q8_3, eq_false q8_4, eq_false q8_5, eq_false q8_6, eq_false q8_7, eq_false q8_8, eq_true q8_9, eq_false h193, if_true, if_false]; done) | (simp [performM, perf1M, eq_false q8_0, eq_false q8_1, eq_false q8_2, eq_false q8_3, eq_false q8_4, eq_false q8_5, eq_false q8_6, eq_false q8_7, eq_false q8_8, eq_true q8_9, eq_false h193]; done) | (simp [performM, perf1M, q8_0, q8_1, q8_2, q8_3, q8_4, q8_5, q8_6, q8_7, q8_8, q8_9, h193]; done) | rfl)
    · skip
      refine lv_aload_n X.1.1 X.1.2.1 d_rf_perform_196 rfl (lv_at L 0 rfl) ?_
      refine lv_iload_n X.1.1 X.1.2.1 d_rf_perform_197 rfl (lv_at L 3 rfl) ?_
      refine lv_iconst (v := 1) X.1.1 X.1.2.1 d_rf_perform_198 rfl ?_
      refine lv_iadd X.1.1 X.1.2.1 d_rf_perform_199 ?_
      refine lv_iload_n X.1.1 X.1.2.1 d_rf_perform_200 rfl (lv_at L 2 rfl) ?_
      refine lv_iadd X.1.1 X.1.2.1 d_rf_perform_201 ?_
      refine Mv.callV (k := 1) (c_rf_jump hI _ _ hmJ) X (gt_V mw_714 mw_716 ms_52 mw_5 mw_717) ok_rf_jump ⟨rfl, rfl, by decide, by decide⟩ (rc_rf X) rfl L.1 rfl (Nat.le_of_ble_eq_true rfl) d_rf_perform_202 (fun H locs X => ?_)
      refine lv_aload_n X.1.1 X.1.2.1 d_rf_perform_205 rfl (lv_at L 0 rfl) ?_
      refine Mv.callV (k := 0) (c_rf_pop hI _ (show RGm (jumpM (jumpM σ (q + 1)) (q + 1 + a)) from RGm_5 hmJ _ (jp_nn eq1 ea hQ ha)) (by rw [jump_tp, tJ]; have e0 := p_eq ep hP (k := 9) q8_9 (by omega); rw [e0, wn_1 (by omega)] at hw; omega)) X (gt_V mw_730 mw_732 ms_56 mw_5 mw_733) ok_rf_pop ⟨rfl, rfl, by decide, by decide⟩ (rc_rf X) rfl L.1 rfl (Nat.le_of_ble_eq_true rfl) d_rf_perform_206 (fun H locs X => ?_)
      refine lv_goto (tgt := 273) X.1.1 X.1.2.1 d_rf_perform_209 rfl ?_
      refine lv_aload_n X.1.1 X.1.2.1 d_rf_perform_273 rfl (lv_at L 0 rfl) ?_
      refine Mv.callV (k := 0) (c_rf_settle hI _ (by have hR2 := hR; simp only [perf1M, eq_false q8_0, eq_false q8_1, eq_false q8_2, eq_false q8_3, eq_false q8_4, eq_false q8_5, eq_false q8_6, eq_false q8_7, eq_false q8_8, eq_true q8_9, eq_true h193, if_true, if_false] at hR2; exact hR2)) X (gt_V mw_524 mw_526 ms_32 mw_5 mw_527) ok_rf_settle ⟨rfl, rfl, by decide, by decide⟩ (rc_rf X) rfl L.1 rfl (Nat.le_of_ble_eq_true rfl) d_rf_perform_274 (fun H locs X => ?_)
      exact X.vret hr hlk d_rf_perform_277 (by first | (simp only [performM, perf1M, eq_false q8_0, eq_false q8_1, eq_false q8_2, eq_false q8_3, eq_false q8_4, eq_false q8_5, eq_false q8_6, eq_false q8_7, eq_false q8_8, eq_true q8_9, eq_true h193, if_true, if_false]; done) | (simp [performM, perf1M, eq_false q8_0, eq_false q8_1, eq_false q8_2, eq_false q8_3, eq_false q8_4, eq_false q8_5, eq_false q8_6, eq_false q8_7, eq_false q8_8, eq_true q8_9, eq_true h193]; done) | (simp [performM, perf1M, q8_0, q8_1, q8_2, q8_3, q8_4, q8_5, q8_6, q8_7, q8_8, q8_9, h193]; done) | rfl)
  by_cases q8_10 : p = 10
  · refine lv_tableIn (tgt := 212) X.1.1 X.1.2.1 d_rf_perform_8 (by rw [q8_10]; decide) (by rw [q8_10]; decide) (by rw [q8_10]; rfl) rfl ?_
    refine lv_aload_n X.1.1 X.1.2.1 d_rf_perform_212 rfl (lv_at L 0 rfl) ?_
    refine lv_iload_n X.1.1 X.1.2.1 d_rf_perform_213 rfl (lv_at L 3 rfl) ?_
    refine lv_iload_n X.1.1 X.1.2.1 d_rf_perform_214 rfl (lv_at L 2 rfl) ?_
    refine lv_isub X.1.1 X.1.2.1 d_rf_perform_215 ?_
    refine Mv.callV (k := 1) (c_rf_jump hI _ _ hmJ) X (gt_V mw_714 mw_716 ms_52 mw_5 mw_717) ok_rf_jump ⟨rfl, rfl, by decide, by decide⟩ (rc_rf X) rfl L.1 rfl (Nat.le_of_ble_eq_true rfl) d_rf_perform_216 (fun H locs X => ?_)
    refine lv_goto (tgt := 273) X.1.1 X.1.2.1 d_rf_perform_219 rfl ?_
    refine lv_aload_n X.1.1 X.1.2.1 d_rf_perform_273 rfl (lv_at L 0 rfl) ?_
    refine Mv.callV (k := 0) (c_rf_settle hI _ (by have hR2 := hR; simp only [perf1M, eq_false q8_0, eq_false q8_1, eq_false q8_2, eq_false q8_3, eq_false q8_4, eq_false q8_5, eq_false q8_6, eq_false q8_7, eq_false q8_8, eq_false q8_9, eq_true q8_10, if_true, if_false] at hR2; exact hR2)) X (gt_V mw_524 mw_526 ms_32 mw_5 mw_527) ok_rf_settle ⟨rfl, rfl, by decide, by decide⟩ (rc_rf X) rfl L.1 rfl (Nat.le_of_ble_eq_true rfl) d_rf_perform_274 (fun H locs X => ?_)
    exact X.vret hr hlk d_rf_perform_277 (by first | (simp only [performM, perf1M, eq_false q8_0, eq_false q8_1, eq_false q8_2, eq_false q8_3, eq_false q8_4, eq_false q8_5, eq_false q8_6, eq_false q8_7, eq_false q8_8, eq_false q8_9, eq_true q8_10, if_true, if_false]; done) | (simp [performM, perf1M, eq_false q8_0, eq_false q8_1, eq_false q8_2, eq_false q8_3, eq_false q8_4, eq_false q8_5, eq_false q8_6, eq_false q8_7, eq_false q8_8, eq_false q8_9, eq_true q8_10]; done) | (simp [performM, perf1M, q8_0, q8_1, q8_2, q8_3, q8_4, q8_5, q8_6, q8_7, q8_8, q8_9, q8_10]; done) | rfl)
  by_cases q8_11 : p = 11
  · refine lv_tableIn (tgt := 222) X.1.1 X.1.2.1 d_rf_perform_8 (by rw [q8_11]; decide) (by rw [q8_11]; decide) (by rw [q8_11]; rfl) rfl ?_
    refine lv_aload_n X.1.1 X.1.2.1 d_rf_perform_222 rfl (lv_at L 0 rfl) ?_
    refine lv_iload_n X.1.1 X.1.2.1 d_rf_perform_223 rfl (lv_at L 2 rfl) ?_
    refine lv_if_ne (tgt := 235) X.1.1 X.1.2.1 d_rf_perform_224 rfl (fun h224 => ?_) (fun h224 => ?_)
    · skip
      refine lv_aload_n X.1.1 X.1.2.1 d_rf_perform_235 rfl (lv_at L 0 rfl) ?_
      refine lv_iconst (v := 1) X.1.1 X.1.2.1 d_rf_perform_236 rfl ?_
      refine Mi.callV (k := 1) (c_rf_at hI _ _ hmJ (vpc (by decide))) X (gt_V mw_672 mw_674 ms_43 mw_5 mw_675) ok_rf_at ⟨rfl, rfl, by decide, by decide⟩ (rc_rf X) rfl L.1 rfl (Nat.le_of_ble_eq_true rfl) d_rf_perform_237 (fun H locs X => ?_)
      refine Mv.callV (k := 1) (c_rf_returns hI _ _ hmJ hJ.s0.1 hJ.s0.2) X (gt_V mw_742 mw_744 ms_59 mw_5 mw_745) ok_rf_returns ⟨rfl, rfl, by decide, by decide⟩ (rc_rf X) rfl L.1 rfl (Nat.le_of_ble_eq_true rfl) d_rf_perform_240 (fun H locs X => ?_)
      refine lv_goto (tgt := 273) X.1.1 X.1.2.1 d_rf_perform_243 rfl ?_
      refine lv_aload_n X.1.1 X.1.2.1 d_rf_perform_273 rfl (lv_at L 0 rfl) ?_
      refine Mv.callV (k := 0) (c_rf_settle hI _ (by have hR2 := hR; simp only [perf1M, eq_false q8_0, eq_false q8_1, eq_false q8_2, eq_false q8_3, eq_false q8_4, eq_false q8_5, eq_false q8_6, eq_false q8_7, eq_false q8_8, eq_false q8_9, eq_false q8_10, eq_true q8_11, eq_false h224, if_true, if_false] at hR2; exact hR2)) X (gt_V mw_524 mw_526 ms_32 mw_5 mw_527) ok_rf_settle ⟨rfl, rfl, by decide, by decide⟩ (rc_rf X) rfl L.1 rfl (Nat.le_of_ble_eq_true rfl) d_rf_perform_274 (fun H locs X => ?_)
      exact X.vret hr hlk d_rf_perform_277 (by first | (simp only [performM, perf1M, eq_false q8_0, eq_false q8_1, eq_false q8_2, eq_false q8_3, eq_false q8_4, eq_false q8_5, eq_false q8_6, eq_false q8_7, eq_false q8_8, eq_false q8_9, eq_false q8_10, eq_true q8_11, eq_false h224, if_true, if_false]; done) | (simp [performM, perf1M, eq_false q8_0, eq_false q8_1, eq_false q8_2, eq_false q8_3, eq_false q8_4, eq_false q8_5, eq_false q8_6, eq_false q8_7, eq_false q8_8, eq_false q8_9, eq_false q8_10, eq_true q8_11, eq_false h224]; done) | (simp [performM, perf1M, q8_0, q8_1, q8_2, q8_3, q8_4, q8_5, q8_6, q8_7, q8_8, q8_9, q8_10, q8_11, h224]; done) | rfl)
    · skip
      refine lv_aload_n X.1.1 X.1.2.1 d_rf_perform_227 rfl (lv_at L 0 rfl) ?_
      refine lv_iconst (v := 0) X.1.1 X.1.2.1 d_rf_perform_228 rfl ?_
      refine Mi.callV (k := 1) (c_rf_fromTop hI _ _ hmJ (by decide) (by rw [n0, tJ]; have e0 := p_eq ep hP (k := 11) q8_11 (by omega); have a0 : A = 0 := (nI_eq (b := 0) (by omega) (by omega)).mp (ea.symm.trans h224); rw [e0, a0, wn_11 (Or.inl rfl)] at hw; omega)) X (gt_V mw_694 mw_696 ms_47 mw_5 mw_697) ok_rf_fromTop ⟨rfl, rfl, by decide, by decide⟩ (rc_rf X) rfl L.1 rfl (Nat.le_of_ble_eq_true rfl) d_rf_perform_229 (fun H locs X => ?_)
      refine lv_goto (tgt := 240) X.1.1 X.1.2.1 d_rf_perform_232 rfl ?_
      refine Mv.callV (k := 1) (c_rf_returns hI _ _ hmJ hJ.s0.1 hJ.s0.2) X (gt_V mw_742 mw_744 ms_59 mw_5 mw_745) ok_rf_returns ⟨rfl, rfl, by decide, by decide⟩ (rc_rf X) rfl L.1 rfl (Nat.le_of_ble_eq_true rfl) d_rf_perform_240 (fun H locs X => ?_)
      refine lv_goto (tgt := 273) X.1.1 X.1.2.1 d_rf_perform_243 rfl ?_
      refine lv_aload_n X.1.1 X.1.2.1 d_rf_perform_273 rfl (lv_at L 0 rfl) ?_
      refine Mv.callV (k := 0) (c_rf_settle hI _ (by have hR2 := hR; simp only [perf1M, eq_false q8_0, eq_false q8_1, eq_false q8_2, eq_false q8_3, eq_false q8_4, eq_false q8_5, eq_false q8_6, eq_false q8_7, eq_false q8_8, eq_false q8_9, eq_false q8_10, eq_true q8_11, eq_true h224, if_true, if_false] at hR2; exact hR2)) X (gt_V mw_524 mw_526 ms_32 mw_5 mw_527) ok_rf_settle ⟨rfl, rfl, by decide, by decide⟩ (rc_rf X) rfl L.1 rfl (Nat.le_of_ble_eq_true rfl) d_rf_perform_274 (fun H locs X => ?_)
      exact X.vret hr hlk d_rf_perform_277 (by first | (simp only [performM, perf1M, eq_false q8_0, eq_false q8_1, eq_false q8_2, eq_false q8_3, eq_false q8_4, eq_false q8_5, eq_false q8_6, eq_false q8_7, eq_false q8_8, eq_false q8_9, eq_false q8_10, eq_true q8_11, eq_true h224, if_true, if_false]; done) | (simp [performM, perf1M, eq_false q8_0, eq_false q8_1, eq_false q8_2, eq_false q8_3, eq_false q8_4, eq_false q8_5, eq_false q8_6, eq_false q8_7, eq_false q8_8, eq_false q8_9, eq_false q8_10, eq_true q8_11, eq_true h224]; done) | (simp [performM, perf1M, q8_0, q8_1, q8_2, q8_3, q8_4, q8_5, q8_6, q8_7, q8_8, q8_9, q8_10, q8_11, h224]; done) | rfl)
  by_cases q8_12 : p = 12
  · refine lv_tableIn (tgt := 246) X.1.1 X.1.2.1 d_rf_perform_8 (by rw [q8_12]; decide) (by rw [q8_12]; decide) (by rw [q8_12]; rfl) rfl ?_
    refine lv_aload_n X.1.1 X.1.2.1 d_rf_perform_246 rfl (lv_at L 0 rfl) ?_
    refine Mv.callV (k := 0) (c_rf_create hI _ hmJ (by rw [tJ]; have e0 := p_eq ep hP (k := 12) q8_12 (by omega); have a0 := (Classical.byContradiction (fun z => (pf_12 (q := q) (show fails1M (jumpM σ (q + 1)) 12 a q = 0 by rw [← q8_12]; exact hfJ)).1 (by rw [ea]; exact (nI_ltI (a := 0) (b := A) (by omega) (by omega)).mpr (by omega))) : A = 0); rw [e0, a0, wn_11 (Or.inr rfl)] at hw; omega) (isClassM_in (pf_12 (q := q) (show fails1M (jumpM σ (q + 1)) 12 a q = 0 by rw [← q8_12]; exact hfJ)).2.1 (hmJ.ft (by decide) (by rw [n0, tJ]; have e0 := p_eq ep hP (k := 12) q8_12 (by omega); have a0 := (Classical.byContradiction (fun z => (pf_12 (q := q) (show fails1M (jumpM σ (q + 1)) 12 a q = 0 by rw [← q8_12]; exact hfJ)).1 (by rw [ea]; exact (nI_ltI (a := 0) (b := A) (by omega) (by omega)).mpr (by omega))) : A = 0); rw [e0, a0, wn_11 (Or.inr rfl)] at hw; omega))) (pf_12 (q := q) (show fails1M (jumpM σ (q + 1)) 12 a q = 0 by rw [← q8_12]; exact hfJ)).2.2) X (gt_V mw_746 mw_748 ms_60 mw_5 mw_749) ok_rf_create ⟨rfl, rfl, by decide, by decide⟩ (rc_rf X) rfl L.1 rfl (Nat.le_of_ble_eq_true rfl) d_rf_perform_247 (fun H locs X => ?_)
    refine lv_goto (tgt := 273) X.1.1 X.1.2.1 d_rf_perform_250 rfl ?_
    refine lv_aload_n X.1.1 X.1.2.1 d_rf_perform_273 rfl (lv_at L 0 rfl) ?_
    refine Mv.callV (k := 0) (c_rf_settle hI _ (by have hR2 := hR; simp only [perf1M, eq_false q8_0, eq_false q8_1, eq_false q8_2, eq_false q8_3, eq_false q8_4, eq_false q8_5, eq_false q8_6, eq_false q8_7, eq_false q8_8, eq_false q8_9, eq_false q8_10, eq_false q8_11, eq_true q8_12, if_true, if_false] at hR2; exact hR2)) X (gt_V mw_524 mw_526 ms_32 mw_5 mw_527) ok_rf_settle ⟨rfl, rfl, by decide, by decide⟩ (rc_rf X) rfl L.1 rfl (Nat.le_of_ble_eq_true rfl) d_rf_perform_274 (fun H locs X => ?_)
    exact X.vret hr hlk d_rf_perform_277 (by first | (simp only [performM, perf1M, eq_false q8_0, eq_false q8_1, eq_false q8_2, eq_false q8_3, eq_false q8_4, eq_false q8_5, eq_false q8_6, eq_false q8_7, eq_false q8_8, eq_false q8_9, eq_false q8_10, eq_false q8_11, eq_true q8_12, if_true, if_false]; done) | (simp [performM, perf1M, eq_false q8_0, eq_false q8_1, eq_false q8_2, eq_false q8_3, eq_false q8_4, eq_false q8_5, eq_false q8_6, eq_false q8_7, eq_false q8_8, eq_false q8_9, eq_false q8_10, eq_false q8_11, eq_true q8_12]; done) | (simp [performM, perf1M, q8_0, q8_1, q8_2, q8_3, q8_4, q8_5, q8_6, q8_7, q8_8, q8_9, q8_10, q8_11, q8_12]; done) | rfl)
  refine lv_tableOut (tgt := 253) X.1.1 X.1.2.1 d_rf_perform_8 (by have := lv_neT q8_0 (show (0 : Int32).toInt = 0 from rfl); have := lv_neT q8_1 (show (1 : Int32).toInt = 1 from rfl); have := lv_neT q8_2 (show (2 : Int32).toInt = 2 from rfl); have := lv_neT q8_3 (show (3 : Int32).toInt = 3 from rfl); have := lv_neT q8_4 (show (4 : Int32).toInt = 4 from rfl); have := lv_neT q8_5 (show (5 : Int32).toInt = 5 from rfl); have := lv_neT q8_6 (show (6 : Int32).toInt = 6 from rfl); have := lv_neT q8_7 (show (7 : Int32).toInt = 7 from rfl); have := lv_neT q8_8 (show (8 : Int32).toInt = 8 from rfl); have := lv_neT q8_9 (show (9 : Int32).toInt = 9 from rfl); have := lv_neT q8_10 (show (10 : Int32).toInt = 10 from rfl); have := lv_neT q8_11 (show (11 : Int32).toInt = 11 from rfl); have := lv_neT q8_12 (show (12 : Int32).toInt = 12 from rfl); omega) rfl ?_
  have e13 : P = 13 := by
    have h13 := pf_14 hP (ep ▸ hf)
    have n0 := p_ne ep (k := 0) q8_0
    have n1 := p_ne ep (k := 1) q8_1
    have n2 := p_ne ep (k := 2) q8_2
    have n3 := p_ne ep (k := 3) q8_3
    have n4 := p_ne ep (k := 4) q8_4
    have n5 := p_ne ep (k := 5) q8_5
    have n6 := p_ne ep (k := 6) q8_6
    have n7 := p_ne ep (k := 7) q8_7
    have n8 := p_ne ep (k := 8) q8_8
    have n9 := p_ne ep (k := 9) q8_9
    have n10 := p_ne ep (k := 10) q8_10
    have n11 := p_ne ep (k := 11) q8_11
    have n12 := p_ne ep (k := 12) q8_12
    omega
  have a1 : A ≤ 1 := (nI_leI (b := 1) (by omega) (by omega)).mp (ea ▸ pf_11 hfJ (Or.inr (by rw [ep, e13]; rfl)))
  have w13 : 1 ≤ dpt τ c := by rw [e13, wn_13 a1] at hw; exact hw
  refine lv_iload_n X.1.1 X.1.2.1 d_rf_perform_253 rfl (lv_at L 2 rfl) ?_
  refine lv_if_ne (tgt := 269) X.1.1 X.1.2.1 d_rf_perform_254 rfl (fun h254 => ?_) (fun h254 => ?_)
  · skip
    refine lv_aload_n X.1.1 X.1.2.1 d_rf_perform_269 rfl (lv_at L 0 rfl) ?_
    refine Mv.callV (k := 0) (c_rf_pop hI _ hmJ (by rw [tJ]; omega)) X (gt_V mw_730 mw_732 ms_56 mw_5 mw_733) ok_rf_pop ⟨rfl, rfl, by decide, by decide⟩ (rc_rf X) rfl L.1 rfl (Nat.le_of_ble_eq_true rfl) d_rf_perform_270 (fun H locs X => ?_)
    refine lv_aload_n X.1.1 X.1.2.1 d_rf_perform_273 rfl (lv_at L 0 rfl) ?_
    refine Mv.callV (k := 0) (c_rf_settle hI _ (by have hR2 := hR; simp only [perf1M, eq_false q8_0, eq_false q8_1, eq_false q8_2, eq_false q8_3, eq_false q8_4, eq_false q8_5, eq_false q8_6, eq_false q8_7, eq_false q8_8, eq_false q8_9, eq_false q8_10, eq_false q8_11, eq_false q8_12, eq_false h254, if_true, if_false] at hR2; exact hR2)) X (gt_V mw_524 mw_526 ms_32 mw_5 mw_527) ok_rf_settle ⟨rfl, rfl, by decide, by decide⟩ (rc_rf X) rfl L.1 rfl (Nat.le_of_ble_eq_true rfl) d_rf_perform_274 (fun H locs X => ?_)
    exact X.vret hr hlk d_rf_perform_277 (by first | (simp only [performM, perf1M, eq_false q8_0, eq_false q8_1, eq_false q8_2, eq_false q8_3, eq_false q8_4, eq_false q8_5, eq_false q8_6, eq_false q8_7, eq_false q8_8, eq_false q8_9, eq_false q8_10, eq_false q8_11, eq_false q8_12, eq_false h254, if_true, if_false]; done) | (simp [performM, perf1M, eq_false q8_0, eq_false q8_1, eq_false q8_2, eq_false q8_3, eq_false q8_4, eq_false q8_5, eq_false q8_6, eq_false q8_7, eq_false q8_8, eq_false q8_9, eq_false q8_10, eq_false q8_11, eq_false q8_12, eq_false h254]; done) | (simp [performM, perf1M, q8_0, q8_1, q8_2, q8_3, q8_4, q8_5, q8_6, q8_7, q8_8, q8_9, q8_10, q8_11, q8_12, h254]; done) | rfl)
  · skip
    refine lv_aload_n X.1.1 X.1.2.1 d_rf_perform_257 rfl (lv_at L 0 rfl) ?_
    refine lv_aload_n X.1.1 X.1.2.1 d_rf_perform_258 rfl (lv_at L 0 rfl) ?_
    refine lv_iconst (v := 0) X.1.1 X.1.2.1 d_rf_perform_259 rfl ?_
    refine Mi.callV (k := 1) (c_rf_fromTop hI _ _ hmJ (by decide) (by rw [n0, tJ]; omega)) X (gt_V mw_694 mw_696 ms_47 mw_5 mw_697) ok_rf_fromTop ⟨rfl, rfl, by decide, by decide⟩ (rc_rf X) rfl L.1 rfl (Nat.le_of_ble_eq_true rfl) d_rf_perform_260 (fun H locs X => ?_)
    refine Mv.callV (k := 1) (c_rf_push hI _ _ hmJ (by rw [tJ]; have a0 : A = 0 := (nI_eq (b := 0) (by omega) (by omega)).mp (ea.symm.trans h254); have := h6 (Or.inr ⟨e13, a0⟩); omega)) X (gt_V mw_718 mw_720 ms_53 mw_5 mw_721) ok_rf_push ⟨rfl, rfl, by decide, by decide⟩ (rc_rf X) rfl L.1 rfl (Nat.le_of_ble_eq_true rfl) d_rf_perform_263 (fun H locs X => ?_)
    refine lv_goto (tgt := 273) X.1.1 X.1.2.1 d_rf_perform_266 rfl ?_
    refine lv_aload_n X.1.1 X.1.2.1 d_rf_perform_273 rfl (lv_at L 0 rfl) ?_
    refine Mv.callV (k := 0) (c_rf_settle hI _ (by have hR2 := hR; simp only [perf1M, eq_false q8_0, eq_false q8_1, eq_false q8_2, eq_false q8_3, eq_false q8_4, eq_false q8_5, eq_false q8_6, eq_false q8_7, eq_false q8_8, eq_false q8_9, eq_false q8_10, eq_false q8_11, eq_false q8_12, eq_true h254, if_true, if_false] at hR2; exact hR2)) X (gt_V mw_524 mw_526 ms_32 mw_5 mw_527) ok_rf_settle ⟨rfl, rfl, by decide, by decide⟩ (rc_rf X) rfl L.1 rfl (Nat.le_of_ble_eq_true rfl) d_rf_perform_274 (fun H locs X => ?_)
    exact X.vret hr hlk d_rf_perform_277 (by first | (simp only [performM, perf1M, eq_false q8_0, eq_false q8_1, eq_false q8_2, eq_false q8_3, eq_false q8_4, eq_false q8_5, eq_false q8_6, eq_false q8_7, eq_false q8_8, eq_false q8_9, eq_false q8_10, eq_false q8_11, eq_false q8_12, eq_true h254, if_true, if_false]; done) | (simp [performM, perf1M, eq_false q8_0, eq_false q8_1, eq_false q8_2, eq_false q8_3, eq_false q8_4, eq_false q8_5, eq_false q8_6, eq_false q8_7, eq_false q8_8, eq_false q8_9, eq_false q8_10, eq_false q8_11, eq_false q8_12, eq_true h254]; done) | (simp [performM, perf1M, q8_0, q8_1, q8_2, q8_3, q8_4, q8_5, q8_6, q8_7, q8_8, q8_9, q8_10, q8_11, q8_12, h254]; done) | rfl)
