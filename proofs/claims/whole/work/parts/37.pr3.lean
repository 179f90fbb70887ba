set_option maxHeartbeats 4000000 in
theorem c_pr_perform {l : Launch} {D : va_G} {ad : Nat → Nat} {ci : Nat → ClassId} (hI : Inj ad) (σ : SS) (c q a : Int32) (hp : PfOk σ c q a) (hz : BZ σ) : Mi l y_pr_perform b_pr_perform 4 (some .int) ({ frames := 4, cells := 0, slots := 0, locals := 97 } : Room) (EC D ad ci) [.ref (ad 3), .int c, .int q, .int a] σ ((perform σ c q a).1) ((perform σ c q a).2) := by
  refine Mi.start pn_pr (Nat.le_of_ble_eq_true rfl) (fun zp ze zs zm zb zt zc ls X hr hlk L => ?_)
  have L : lv_has ls 4 [(0, .ref (ad 3)), (1, .int c), (2, .int q), (3, .int a)] := L
  obtain ⟨hg, ⟨h_c, h_f, hs6, h_d, hdd, hS, p0, p1⟩, h_a, hst⟩ := hp
  have hpu := fun h => suits_p (σ := σ) (c := c) (q := q) (a := a) hst h
  have hwu := suits_w hst
  have ha1 := args1 h_a
  refine lv_iload_n X.1.1 X.1.2.1 d_pr_perform_0 rfl (lv_at L 2 rfl) ?_
  by_cases q1_0 : q = 0
  · refine lv_tableIn (tgt := 72) X.1.1 X.1.2.1 d_pr_perform_1 (by rw [q1_0]; decide) (by rw [q1_0]; decide) (by rw [q1_0]; rfl) rfl ?_
    refine lv_aload_n X.1.1 X.1.2.1 d_pr_perform_72 rfl (lv_at L 0 rfl) ?_
    refine lv_iload_n X.1.1 X.1.2.1 d_pr_perform_73 rfl (lv_at L 1 rfl) ?_
    refine lv_iload_n X.1.1 X.1.2.1 d_pr_perform_74 rfl (lv_at L 3 rfl) ?_
    refine Mi.callV (k := 2) (c_pr_pushTemporary hI _ _ _ h_c hg (vp_nn h_a) (hpu (op_02 (Or.inl q1_0)))) X (gt_V mw_349 mw_351 ms_16 mw_4 mw_352) ok_pr_pushTemporary ⟨rfl, rfl, by decide, by decide⟩ (rc_pr X) rfl L.1 rfl (Nat.le_of_ble_eq_true rfl) d_pr_perform_75 (fun H locs X => ?_)
    exact X.iret hr hlk d_pr_perform_78 (by first | (simp only [perform, eq_true q1_0, if_true, if_false]; done) | (simp [perform, eq_true q1_0]; done) | (simp [perform, q1_0]; done) | rfl) (by first | (simp only [perform, eq_true q1_0, if_true, if_false]; done) | (simp [perform, eq_true q1_0]; done) | (simp [perform, q1_0]; done) | rfl)
  by_cases q1_1 : q = 1
  · refine lv_tableIn (tgt := 79) X.1.1 X.1.2.1 d_pr_perform_1 (by rw [q1_1]; decide) (by rw [q1_1]; decide) (by rw [q1_1]; rfl) rfl ?_
    refine lv_aload_n X.1.1 X.1.2.1 d_pr_perform_79 rfl (lv_at L 0 rfl) ?_
    refine lv_iload_n X.1.1 X.1.2.1 d_pr_perform_80 rfl (lv_at L 1 rfl) ?_
    refine lv_iload_n X.1.1 X.1.2.1 d_pr_perform_81 rfl (lv_at L 3 rfl) ?_
    refine Mi.callV (k := 2) (c_pr_pushField hI _ _ _ h_c hg (hpu (op_02 (Or.inr (Or.inl q1_1))))) X (gt_V mw_357 mw_359 ms_17 mw_4 mw_360) ok_pr_pushField ⟨rfl, rfl, by decide, by decide⟩ (rc_pr X) rfl L.1 rfl (Nat.le_of_ble_eq_true rfl) d_pr_perform_82 (fun H locs X => ?_)
    exact X.iret hr hlk d_pr_perform_85 (by first | (simp only [perform, eq_false q1_0, eq_true q1_1, if_true, if_false]; done) | (simp [perform, eq_false q1_0, eq_true q1_1]; done) | (simp [perform, q1_0, q1_1]; done) | rfl) (by first | (simp only [perform, eq_false q1_0, eq_true q1_1, if_true, if_false]; done) | (simp [perform, eq_false q1_0, eq_true q1_1]; done) | (simp [perform, q1_0, q1_1]; done) | rfl)
  by_cases q1_2 : q = 2
  · refine lv_tableIn (tgt := 86) X.1.1 X.1.2.1 d_pr_perform_1 (by rw [q1_2]; decide) (by rw [q1_2]; decide) (by rw [q1_2]; rfl) rfl ?_
    refine lv_aload_n X.1.1 X.1.2.1 d_pr_perform_86 rfl (lv_at L 0 rfl) ?_
    refine g_pr_memory X d_pr_perform_87 ?_
    refine lv_iload_n X.1.1 X.1.2.1 d_pr_perform_90 rfl (lv_at L 1 rfl) ?_
    refine lv_aload_n X.1.1 X.1.2.1 d_pr_perform_91 rfl (lv_at L 0 rfl) ?_
    refine lv_iload_n X.1.1 X.1.2.1 d_pr_perform_92 rfl (lv_at L 1 rfl) ?_
    refine lv_iload_n X.1.1 X.1.2.1 d_pr_perform_93 rfl (lv_at L 3 rfl) ?_
    refine Mi.callV (k := 2) (c_pr_otherWord hI _ _ _ h_c h_a) X (gt_V mw_363 mw_365 ms_18 mw_4 mw_366) ok_pr_otherWord ⟨rfl, rfl, by decide, by decide⟩ (rc_pr X) rfl L.1 rfl (Nat.le_of_ble_eq_true rfl) d_pr_perform_94 (fun H locs X => ?_)
    refine Mv.callV (k := 2) (c_me_push hI _ _ _ h_c (hpu (op_02 (Or.inr (Or.inr q1_2)))) hg (otherWord_nn hg h_c h_a)) X (gt_V mw_353 mw_354 mw_355 mw_2 mw_356) ok_me_push ⟨rfl, rfl, by decide, by decide⟩ (rc_me X) rfl L.1 rfl (Nat.le_of_ble_eq_true rfl) d_pr_perform_97 (fun H locs X => ?_)
    refine lv_iconst (v := 0) X.1.1 X.1.2.1 d_pr_perform_100 rfl ?_
    exact X.iret hr hlk d_pr_perform_101 (by first | (simp only [perform, eq_false q1_0, eq_false q1_1, eq_true q1_2, if_true, if_false]; done) | (simp [perform, eq_false q1_0, eq_false q1_1, eq_true q1_2]; done) | (simp [perform, q1_0, q1_1, q1_2]; done) | rfl) (by first | (simp only [perform, eq_false q1_0, eq_false q1_1, eq_true q1_2, if_true, if_false]; done) | (simp [perform, eq_false q1_0, eq_false q1_1, eq_true q1_2]; done) | (simp [perform, q1_0, q1_1, q1_2]; done) | rfl)
  by_cases q1_3 : q = 3
  · refine lv_tableIn (tgt := 102) X.1.1 X.1.2.1 d_pr_perform_1 (by rw [q1_3]; decide) (by rw [q1_3]; decide) (by rw [q1_3]; rfl) rfl ?_
    refine lv_aload_n X.1.1 X.1.2.1 d_pr_perform_102 rfl (lv_at L 0 rfl) ?_
    refine lv_iload_n X.1.1 X.1.2.1 d_pr_perform_103 rfl (lv_at L 1 rfl) ?_
    refine lv_iload_n X.1.1 X.1.2.1 d_pr_perform_104 rfl (lv_at L 3 rfl) ?_
    refine Mi.callV (k := 2) (c_pr_popTemporary hI _ _ _ h_c hg (vp_nn h_a) (by rw [wu_1 (Or.inl q1_3)] at hwu; exact hwu)) X (gt_V mw_367 mw_369 ms_19 mw_4 mw_370) ok_pr_popTemporary ⟨rfl, rfl, by decide, by decide⟩ (rc_pr X) rfl L.1 rfl (Nat.le_of_ble_eq_true rfl) d_pr_perform_105 (fun H locs X => ?_)
    exact X.iret hr hlk d_pr_perform_108 (by first | (simp only [perform, eq_false q1_0, eq_false q1_1, eq_false q1_2, eq_true q1_3, if_true, if_false]; done) | (simp [perform, eq_false q1_0, eq_false q1_1, eq_false q1_2, eq_true q1_3]; done) | (simp [perform, q1_0, q1_1, q1_2, q1_3]; done) | rfl) (by first | (simp only [perform, eq_false q1_0, eq_false q1_1, eq_false q1_2, eq_true q1_3, if_true, if_false]; done) | (simp [perform, eq_false q1_0, eq_false q1_1, eq_false q1_2, eq_true q1_3]; done) | (simp [perform, q1_0, q1_1, q1_2, q1_3]; done) | rfl)
  by_cases q1_4 : q = 4
  · refine lv_tableIn (tgt := 109) X.1.1 X.1.2.1 d_pr_perform_1 (by rw [q1_4]; decide) (by rw [q1_4]; decide) (by rw [q1_4]; rfl) rfl ?_
    refine lv_aload_n X.1.1 X.1.2.1 d_pr_perform_109 rfl (lv_at L 0 rfl) ?_
    refine lv_iload_n X.1.1 X.1.2.1 d_pr_perform_110 rfl (lv_at L 1 rfl) ?_
    refine lv_iload_n X.1.1 X.1.2.1 d_pr_perform_111 rfl (lv_at L 3 rfl) ?_
    refine Mi.callV (k := 2) (c_pr_popField hI _ _ _ h_c hg (by rw [wu_1 (Or.inr (Or.inl q1_4))] at hwu; exact hwu)) X (gt_V mw_379 mw_381 ms_20 mw_4 mw_382) ok_pr_popField ⟨rfl, rfl, by decide, by decide⟩ (rc_pr X) rfl L.1 rfl (Nat.le_of_ble_eq_true rfl) d_pr_perform_112 (fun H locs X => ?_)
    exact X.iret hr hlk d_pr_perform_115 (by first | (simp only [perform, eq_false q1_0, eq_false q1_1, eq_false q1_2, eq_false q1_3, eq_true q1_4, if_true, if_false]; done) | (simp [perform, eq_false q1_0, eq_false q1_1, eq_false q1_2, eq_false q1_3, eq_true q1_4]; done) | (simp [perform, q1_0, q1_1, q1_2, q1_3, q1_4]; done) | rfl) (by first | (simp only [perform, eq_false q1_0, eq_false q1_1, eq_false q1_2, eq_false q1_3, eq_true q1_4, if_true, if_false]; done) | (simp [perform, eq_false q1_0, eq_false q1_1, eq_false q1_2, eq_false q1_3, eq_true q1_4]; done) | (simp [perform, q1_0, q1_1, q1_2, q1_3, q1_4]; done) | rfl)
  by_cases q1_5 : q = 5
  · refine lv_tableIn (tgt := 116) X.1.1 X.1.2.1 d_pr_perform_1 (by rw [q1_5]; decide) (by rw [q1_5]; decide) (by rw [q1_5]; rfl) rfl ?_
    refine lv_aload_n X.1.1 X.1.2.1 d_pr_perform_116 rfl (lv_at L 0 rfl) ?_
    refine lv_iload_n X.1.1 X.1.2.1 d_pr_perform_117 rfl (lv_at L 1 rfl) ?_
    refine lv_iload_n X.1.1 X.1.2.1 d_pr_perform_118 rfl (lv_at L 2 rfl) ?_
    refine lv_iload_n X.1.1 X.1.2.1 d_pr_perform_119 rfl (lv_at L 3 rfl) ?_
    refine Mi.callV (k := 3) (c_pr_sendOn hI _ _ _ _ h_c hg hz (fun _ => (by rw [wu_s (by first | exact Or.inl q1_5 | exact Or.inr q1_6), ha1.1] at hwu; exact hwu)) (fun _ _ => hS _ ha1.2 (by rw [wu_s (by first | exact Or.inl q1_5 | exact Or.inr q1_6), ha1.1] at hwu; exact hwu)) h_f (fun _ => hs6)) X (gt_V mw_384 mw_386 ms_21 mw_4 mw_387) ok_pr_sendOn ⟨rfl, rfl, by decide, by decide⟩ (rc_pr X) rfl L.1 rfl (Nat.le_of_ble_eq_true rfl) d_pr_perform_120 (fun H locs X => ?_)
    exact X.iret hr hlk d_pr_perform_123 (by first | (simp only [perform, eq_false q1_0, eq_false q1_1, eq_false q1_2, eq_false q1_3, eq_false q1_4, eq_true q1_5, if_true, if_false]; done) | (simp [perform, eq_false q1_0, eq_false q1_1, eq_false q1_2, eq_false q1_3, eq_false q1_4, eq_true q1_5]; done) | (simp [perform, q1_0, q1_1, q1_2, q1_3, q1_4, q1_5]; done) | rfl) (by first | (simp only [perform, eq_false q1_0, eq_false q1_1, eq_false q1_2, eq_false q1_3, eq_false q1_4, eq_true q1_5, if_true, if_false]; done) | (simp [perform, eq_false q1_0, eq_false q1_1, eq_false q1_2, eq_false q1_3, eq_false q1_4, eq_true q1_5]; done) | (simp [perform, q1_0, q1_1, q1_2, q1_3, q1_4, q1_5]; done) | rfl)
  by_cases q1_6 : q = 6
  · refine lv_tableIn (tgt := 116) X.1.1 X.1.2.1 d_pr_perform_1 (by rw [q1_6]; decide) (by rw [q1_6]; decide) (by rw [q1_6]; rfl) rfl ?_
    refine lv_aload_n X.1.1 X.1.2.1 d_pr_perform_116 rfl (lv_at L 0 rfl) ?_
    refine lv_iload_n X.1.1 X.1.2.1 d_pr_perform_117 rfl (lv_at L 1 rfl) ?_
    refine lv_iload_n X.1.1 X.1.2.1 d_pr_perform_118 rfl (lv_at L 2 rfl) ?_
    refine lv_iload_n X.1.1 X.1.2.1 d_pr_perform_119 rfl (lv_at L 3 rfl) ?_
    refine Mi.callV (k := 3) (c_pr_sendOn hI _ _ _ _ h_c hg hz (fun _ => (by rw [wu_s (by first | exact Or.inl q1_5 | exact Or.inr q1_6), ha1.1] at hwu; exact hwu)) (fun _ _ => hS _ ha1.2 (by rw [wu_s (by first | exact Or.inl q1_5 | exact Or.inr q1_6), ha1.1] at hwu; exact hwu)) h_f (fun _ => hs6)) X (gt_V mw_384 mw_386 ms_21 mw_4 mw_387) ok_pr_sendOn ⟨rfl, rfl, by decide, by decide⟩ (rc_pr X) rfl L.1 rfl (Nat.le_of_ble_eq_true rfl) d_pr_perform_120 (fun H locs X => ?_)
    exact X.iret hr hlk d_pr_perform_123 (by first | (simp only [perform, eq_false q1_0, eq_false q1_1, eq_false q1_2, eq_false q1_3, eq_false q1_4, eq_false q1_5, eq_true q1_6, if_true, if_false]; done) | (simp [perform, eq_false q1_0, eq_false q1_1, eq_false q1_2, eq_false q1_3, eq_false q1_4, eq_false q1_5, eq_true q1_6]; done) | (simp [perform, q1_0, q1_1, q1_2, q1_3, q1_4, q1_5, q1_6]; done) | rfl) (by first | (simp only [perform, eq_false q1_0, eq_false q1_1, eq_false q1_2, eq_false q1_3, eq_false q1_4, eq_false q1_5, eq_true q1_6, if_true, if_false]; done) | (simp [perform, eq_false q1_0, eq_false q1_1, eq_false q1_2, eq_false q1_3, eq_false q1_4, eq_false q1_5, eq_true q1_6]; done) | (simp [perform, q1_0, q1_1, q1_2, q1_3, q1_4, q1_5, q1_6]; done) | rfl)
  by_cases q1_7 : q = 7
  · refine lv_tableIn (tgt := 124) X.1.1 X.1.2.1 d_pr_perform_1 (by rw [q1_7]; decide) (by rw [q1_7]; decide) (by rw [q1_7]; rfl) rfl ?_
    refine lv_aload_n X.1.1 X.1.2.1 d_pr_perform_124 rfl (lv_at L 0 rfl) ?_
    refine lv_iload_n X.1.1 X.1.2.1 d_pr_perform_125 rfl (lv_at L 1 rfl) ?_
    refine lv_iload_n X.1.1 X.1.2.1 d_pr_perform_126 rfl (lv_at L 3 rfl) ?_
    refine Mi.callV (k := 2) (c_pr_calculate hI _ _ _ h_c hg (by rw [wu_7 q1_7] at hwu; exact hwu)) X (gt_V mw_394 mw_396 ms_22 mw_4 mw_397) ok_pr_calculate ⟨rfl, rfl, by decide, by decide⟩ (rc_pr X) rfl L.1 rfl (Nat.le_of_ble_eq_true rfl) d_pr_perform_127 (fun H locs X => ?_)
    exact X.iret hr hlk d_pr_perform_130 (by first | (simp only [perform, eq_false q1_0, eq_false q1_1, eq_false q1_2, eq_false q1_3, eq_false q1_4, eq_false q1_5, eq_false q1_6, eq_true q1_7, if_true, if_false]; done) | (simp [perform, eq_false q1_0, eq_false q1_1, eq_false q1_2, eq_false q1_3, eq_false q1_4, eq_false q1_5, eq_false q1_6, eq_true q1_7]; done) | (simp [perform, q1_0, q1_1, q1_2, q1_3, q1_4, q1_5, q1_6, q1_7]; done) | rfl) (by first | (simp only [perform, eq_false q1_0, eq_false q1_1, eq_false q1_2, eq_false q1_3, eq_false q1_4, eq_false q1_5, eq_false q1_6, eq_true q1_7, if_true, if_false]; done) | (simp [perform, eq_false q1_0, eq_false q1_1, eq_false q1_2, eq_false q1_3, eq_false q1_4, eq_false q1_5, eq_false q1_6, eq_true q1_7]; done) | (simp [perform, q1_0, q1_1, q1_2, q1_3, q1_4, q1_5, q1_6, q1_7]; done) | rfl)
  by_cases q1_8 : q = 8
  · refine lv_tableIn (tgt := 131) X.1.1 X.1.2.1 d_pr_perform_1 (by rw [q1_8]; decide) (by rw [q1_8]; decide) (by rw [q1_8]; rfl) rfl ?_
    refine lv_aload_n X.1.1 X.1.2.1 d_pr_perform_131 rfl (lv_at L 0 rfl) ?_
    refine lv_iload_n X.1.1 X.1.2.1 d_pr_perform_132 rfl (lv_at L 1 rfl) ?_
    refine lv_iload_n X.1.1 X.1.2.1 d_pr_perform_133 rfl (lv_at L 3 rfl) ?_
    refine Mi.callV (k := 2) (c_pr_forward hI _ _ _ h_c hg (pl_nn p0 p1 h_a)) X (gt_V mw_408 mw_410 ms_23 mw_4 mw_411) ok_pr_forward ⟨rfl, rfl, by decide, by decide⟩ (rc_pr X) rfl L.1 rfl (Nat.le_of_ble_eq_true rfl) d_pr_perform_134 (fun H locs X => ?_)
    exact X.iret hr hlk d_pr_perform_137 (by first | (simp only [perform, eq_false q1_0, eq_false q1_1, eq_false q1_2, eq_false q1_3, eq_false q1_4, eq_false q1_5, eq_false q1_6, eq_false q1_7, eq_true q1_8, if_true, if_false]; done) | (simp [perform, eq_false q1_0, eq_false q1_1, eq_false q1_2, eq_false q1_3, eq_false q1_4, eq_false q1_5, eq_false q1_6, eq_false q1_7, eq_true q1_8]; done) | (simp [perform, q1_0, q1_1, q1_2, q1_3, q1_4, q1_5, q1_6, q1_7, q1_8]; done) | rfl) (by first | (simp only [perform, eq_false q1_0, eq_false q1_1, eq_false q1_2, eq_false q1_3, eq_false q1_4, eq_false q1_5, eq_false q1_6, eq_false q1_7, eq_true q1_8, if_true, if_false]; done) | (simp [perform, eq_false q1_0, eq_false q1_1, eq_false q1_2, eq_false q1_3, eq_false q1_4, eq_false q1_5, eq_false q1_6, eq_false q1_7, eq_true q1_8]; done) | (simp [perform, q1_0, q1_1, q1_2, q1_3, q1_4, q1_5, q1_6, q1_7, q1_8]; done) | rfl)
  by_cases q1_9 : q = 9
  · refine lv_tableIn (tgt := 138) X.1.1 X.1.2.1 d_pr_perform_1 (by rw [q1_9]; decide) (by rw [q1_9]; decide) (by rw [q1_9]; rfl) rfl ?_
    refine lv_aload_n X.1.1 X.1.2.1 d_pr_perform_138 rfl (lv_at L 0 rfl) ?_
    refine lv_iload_n X.1.1 X.1.2.1 d_pr_perform_139 rfl (lv_at L 1 rfl) ?_
    refine lv_iload_n X.1.1 X.1.2.1 d_pr_perform_140 rfl (lv_at L 3 rfl) ?_
    refine Mi.callV (k := 2) (c_pr_forwardIfNil hI _ _ _ h_c hg (by rw [wu_1 (Or.inr (Or.inr q1_9))] at hwu; exact hwu) (fin_nn p0 p1 h_a)) X (gt_V mw_412 mw_414 ms_24 mw_4 mw_415) ok_pr_forwardIfNil ⟨rfl, rfl, by decide, by decide⟩ (rc_pr X) rfl L.1 rfl (Nat.le_of_ble_eq_true rfl) d_pr_perform_141 (fun H locs X => ?_)
    exact X.iret hr hlk d_pr_perform_144 (by first | (simp only [perform, eq_false q1_0, eq_false q1_1, eq_false q1_2, eq_false q1_3, eq_false q1_4, eq_false q1_5, eq_false q1_6, eq_false q1_7, eq_false q1_8, eq_true q1_9, if_true, if_false]; done) | (simp [perform, eq_false q1_0, eq_false q1_1, eq_false q1_2, eq_false q1_3, eq_false q1_4, eq_false q1_5, eq_false q1_6, eq_false q1_7, eq_false q1_8, eq_true q1_9]; done) | (simp [perform, q1_0, q1_1, q1_2, q1_3, q1_4, q1_5, q1_6, q1_7, q1_8, q1_9]; done) | rfl) (by first | (simp only [perform, eq_false q1_0, eq_false q1_1, eq_false q1_2, eq_false q1_3, eq_false q1_4, eq_false q1_5, eq_false q1_6, eq_false q1_7, eq_false q1_8, eq_true q1_9, if_true, if_false]; done) | (simp [perform, eq_false q1_0, eq_false q1_1, eq_false q1_2, eq_false q1_3, eq_false q1_4, eq_false q1_5, eq_false q1_6, eq_false q1_7, eq_false q1_8, eq_true q1_9]; done) | (simp [perform, q1_0, q1_1, q1_2, q1_3, q1_4, q1_5, q1_6, q1_7, q1_8, q1_9]; done) | rfl)
  by_cases q1_10 : q = 10
  · refine lv_tableIn (tgt := 145) X.1.1 X.1.2.1 d_pr_perform_1 (by rw [q1_10]; decide) (by rw [q1_10]; decide) (by rw [q1_10]; rfl) rfl ?_
    refine lv_aload_n X.1.1 X.1.2.1 d_pr_perform_145 rfl (lv_at L 0 rfl) ?_
    refine lv_iload_n X.1.1 X.1.2.1 d_pr_perform_146 rfl (lv_at L 1 rfl) ?_
    refine lv_iload_n X.1.1 X.1.2.1 d_pr_perform_147 rfl (lv_at L 3 rfl) ?_
    refine Mi.callV (k := 2) (c_pr_back hI _ _ _ h_c hg (bk_nn p0 p1 h_a)) X (gt_V mw_416 mw_418 ms_25 mw_4 mw_419) ok_pr_back ⟨rfl, rfl, by decide, by decide⟩ (rc_pr X) rfl L.1 rfl (Nat.le_of_ble_eq_true rfl) d_pr_perform_148 (fun H locs X => ?_)
    exact X.iret hr hlk d_pr_perform_151 (by first | (simp only [perform, eq_false q1_0, eq_false q1_1, eq_false q1_2, eq_false q1_3, eq_false q1_4, eq_false q1_5, eq_false q1_6, eq_false q1_7, eq_false q1_8, eq_false q1_9, eq_true q1_10, if_true, if_false]; done) | (simp [perform, eq_false q1_0, eq_false q1_1, eq_false q1_2, eq_false q1_3, eq_false q1_4, eq_false q1_5, eq_false q1_6, eq_false q1_7, eq_false q1_8, eq_false q1_9, eq_true q1_10]; done) | (simp [perform, q1_0, q1_1, q1_2, q1_3, q1_4, q1_5, q1_6, q1_7, q1_8, q1_9, q1_10]; done) | rfl) (by first | (simp only [perform, eq_false q1_0, eq_false q1_1, eq_false q1_2, eq_false q1_3, eq_false q1_4, eq_false q1_5, eq_false q1_6, eq_false q1_7, eq_false q1_8, eq_false q1_9, eq_true q1_10, if_true, if_false]; done) | (simp [perform, eq_false q1_0, eq_false q1_1, eq_false q1_2, eq_false q1_3, eq_false q1_4, eq_false q1_5, eq_false q1_6, eq_false q1_7, eq_false q1_8, eq_false q1_9, eq_true q1_10]; done) | (simp [perform, q1_0, q1_1, q1_2, q1_3, q1_4, q1_5, q1_6, q1_7, q1_8, q1_9, q1_10]; done) | rfl)
  by_cases q1_11 : q = 11
  · refine lv_tableIn (tgt := 152) X.1.1 X.1.2.1 d_pr_perform_1 (by rw [q1_11]; decide) (by rw [q1_11]; decide) (by rw [q1_11]; rfl) rfl ?_
    refine lv_aload_n X.1.1 X.1.2.1 d_pr_perform_152 rfl (lv_at L 0 rfl) ?_
    refine lv_iload_n X.1.1 X.1.2.1 d_pr_perform_153 rfl (lv_at L 1 rfl) ?_
    refine lv_iload_n X.1.1 X.1.2.1 d_pr_perform_154 rfl (lv_at L 3 rfl) ?_
    refine Mi.callV (k := 2) (c_pr_giveAnswer hI _ _ _ h_c hg (fun e => by rw [wu_a (Or.inl q1_11) e] at hwu; exact hwu) h_d hdd) X (gt_V mw_420 mw_422 ms_26 mw_4 mw_423) ok_pr_giveAnswer ⟨rfl, rfl, by decide, by decide⟩ (rc_pr X) rfl L.1 rfl (Nat.le_of_ble_eq_true rfl) d_pr_perform_155 (fun H locs X => ?_)
    exact X.iret hr hlk d_pr_perform_158 (by first | (simp only [perform, eq_false q1_0, eq_false q1_1, eq_false q1_2, eq_false q1_3, eq_false q1_4, eq_false q1_5, eq_false q1_6, eq_false q1_7, eq_false q1_8, eq_false q1_9, eq_false q1_10, eq_true q1_11, if_true, if_false]; done) | (simp [perform, eq_false q1_0, eq_false q1_1, eq_false q1_2, eq_false q1_3, eq_false q1_4, eq_false q1_5, eq_false q1_6, eq_false q1_7, eq_false q1_8, eq_false q1_9, eq_false q1_10, eq_true q1_11]; done) | (simp [perform, q1_0, q1_1, q1_2, q1_3, q1_4, q1_5, q1_6, q1_7, q1_8, q1_9, q1_10, q1_11]; done) | rfl) (by first | (simp only [perform, eq_false q1_0, eq_false q1_1, eq_false q1_2, eq_false q1_3, eq_false q1_4, eq_false q1_5, eq_false q1_6, eq_false q1_7, eq_false q1_8, eq_false q1_9, eq_false q1_10, eq_true q1_11, if_true, if_false]; done) | (simp [perform, eq_false q1_0, eq_false q1_1, eq_false q1_2, eq_false q1_3, eq_false q1_4, eq_false q1_5, eq_false q1_6, eq_false q1_7, eq_false q1_8, eq_false q1_9, eq_false q1_10, eq_true q1_11]; done) | (simp [perform, q1_0, q1_1, q1_2, q1_3, q1_4, q1_5, q1_6, q1_7, q1_8, q1_9, q1_10, q1_11]; done) | rfl)
  by_cases q1_12 : q = 12
  · refine lv_tableIn (tgt := 159) X.1.1 X.1.2.1 d_pr_perform_1 (by rw [q1_12]; decide) (by rw [q1_12]; decide) (by rw [q1_12]; rfl) rfl ?_
    refine lv_aload_n X.1.1 X.1.2.1 d_pr_perform_159 rfl (lv_at L 0 rfl) ?_
    refine lv_iload_n X.1.1 X.1.2.1 d_pr_perform_160 rfl (lv_at L 1 rfl) ?_
    refine lv_iload_n X.1.1 X.1.2.1 d_pr_perform_161 rfl (lv_at L 3 rfl) ?_
    refine Mi.callV (k := 2) (c_pr_instance hI _ _ _ h_c hg (fun e => by rw [wu_a (Or.inr q1_12) e] at hwu; exact hwu)) X (gt_V mw_424 mw_426 ms_27 mw_4 mw_427) ok_pr_instance ⟨rfl, rfl, by decide, by decide⟩ (rc_pr X) rfl L.1 rfl (Nat.le_of_ble_eq_true rfl) d_pr_perform_162 (fun H locs X => ?_)
    exact X.iret hr hlk d_pr_perform_165 (by first | (simp only [perform, eq_false q1_0, eq_false q1_1, eq_false q1_2, eq_false q1_3, eq_false q1_4, eq_false q1_5, eq_false q1_6, eq_false q1_7, eq_false q1_8, eq_false q1_9, eq_false q1_10, eq_false q1_11, eq_true q1_12, if_true, if_false]; done) | (simp [perform, eq_false q1_0, eq_false q1_1, eq_false q1_2, eq_false q1_3, eq_false q1_4, eq_false q1_5, eq_false q1_6, eq_false q1_7, eq_false q1_8, eq_false q1_9, eq_false q1_10, eq_false q1_11, eq_true q1_12]; done) | (simp [perform, q1_0, q1_1, q1_2, q1_3, q1_4, q1_5, q1_6, q1_7, q1_8, q1_9, q1_10, q1_11, q1_12]; done) | rfl) (by first | (simp only [perform, eq_false q1_0, eq_false q1_1, eq_false q1_2, eq_false q1_3, eq_false q1_4, eq_false q1_5, eq_false q1_6, eq_false q1_7, eq_false q1_8, eq_false q1_9, eq_false q1_10, eq_false q1_11, eq_true q1_12, if_true, if_false]; done) | (simp [perform, eq_false q1_0, eq_false q1_1, eq_false q1_2, eq_false q1_3, eq_false q1_4, eq_false q1_5, eq_false q1_6, eq_false q1_7, eq_false q1_8, eq_false q1_9, eq_false q1_10, eq_false q1_11, eq_true q1_12]; done) | (simp [perform, q1_0, q1_1, q1_2, q1_3, q1_4, q1_5, q1_6, q1_7, q1_8, q1_9, q1_10, q1_11, q1_12]; done) | rfl)
  by_cases q1_13 : q = 13
  · refine lv_tableIn (tgt := 166) X.1.1 X.1.2.1 d_pr_perform_1 (by rw [q1_13]; decide) (by rw [q1_13]; decide) (by rw [q1_13]; rfl) rfl ?_
    refine lv_aload_n X.1.1 X.1.2.1 d_pr_perform_166 rfl (lv_at L 0 rfl) ?_
    refine lv_iload_n X.1.1 X.1.2.1 d_pr_perform_167 rfl (lv_at L 1 rfl) ?_
    refine lv_iload_n X.1.1 X.1.2.1 d_pr_perform_168 rfl (lv_at L 3 rfl) ?_
    refine Mi.callV (k := 2) (c_pr_doubleOrPop hI _ _ _ h_c hg (fun e => by rw [wu_13 q1_13 e] at hwu; exact hwu) (fun e => hpu (op_13 q1_13 e))) X (gt_V mw_430 mw_432 ms_28 mw_4 mw_433) ok_pr_doubleOrPop ⟨rfl, rfl, by decide, by decide⟩ (rc_pr X) rfl L.1 rfl (Nat.le_of_ble_eq_true rfl) d_pr_perform_169 (fun H locs X => ?_)
    exact X.iret hr hlk d_pr_perform_172 (by first | (simp only [perform, eq_false q1_0, eq_false q1_1, eq_false q1_2, eq_false q1_3, eq_false q1_4, eq_false q1_5, eq_false q1_6, eq_false q1_7, eq_false q1_8, eq_false q1_9, eq_false q1_10, eq_false q1_11, eq_false q1_12, eq_true q1_13, if_true, if_false]; done) | (simp [perform, eq_false q1_0, eq_false q1_1, eq_false q1_2, eq_false q1_3, eq_false q1_4, eq_false q1_5, eq_false q1_6, eq_false q1_7, eq_false q1_8, eq_false q1_9, eq_false q1_10, eq_false q1_11, eq_false q1_12, eq_true q1_13]; done) | (simp [perform, q1_0, q1_1, q1_2, q1_3, q1_4, q1_5, q1_6, q1_7, q1_8, q1_9, q1_10, q1_11, q1_12, q1_13]; done) | rfl) (by first | (simp only [perform, eq_false q1_0, eq_false q1_1, eq_false q1_2, eq_false q1_3, eq_false q1_4, eq_false q1_5, eq_false q1_6, eq_false q1_7, eq_false q1_8, eq_false q1_9, eq_false q1_10, eq_false q1_11, eq_false q1_12, eq_true q1_13, if_true, if_false]; done) | (simp [perform, eq_false q1_0, eq_false q1_1, eq_false q1_2, eq_false q1_3, eq_false q1_4, eq_false q1_5, eq_false q1_6, eq_false q1_7, eq_false q1_8, eq_false q1_9, eq_false q1_10, eq_false q1_11, eq_false q1_12, eq_true q1_13]; done) | (simp [perform, q1_0, q1_1, q1_2, q1_3, q1_4, q1_5, q1_6, q1_7, q1_8, q1_9, q1_10, q1_11, q1_12, q1_13]; done) | rfl)
  refine lv_tableOut (tgt := 173) X.1.1 X.1.2.1 d_pr_perform_1 (by have := lv_neT q1_0 (show (0 : Int32).toInt = 0 from rfl); have := lv_neT q1_1 (show (1 : Int32).toInt = 1 from rfl); have := lv_neT q1_2 (show (2 : Int32).toInt = 2 from rfl); have := lv_neT q1_3 (show (3 : Int32).toInt = 3 from rfl); have := lv_neT q1_4 (show (4 : Int32).toInt = 4 from rfl); have := lv_neT q1_5 (show (5 : Int32).toInt = 5 from rfl); have := lv_neT q1_6 (show (6 : Int32).toInt = 6 from rfl); have := lv_neT q1_7 (show (7 : Int32).toInt = 7 from rfl); have := lv_neT q1_8 (show (8 : Int32).toInt = 8 from rfl); have := lv_neT q1_9 (show (9 : Int32).toInt = 9 from rfl); have := lv_neT q1_10 (show (10 : Int32).toInt = 10 from rfl); have := lv_neT q1_11 (show (11 : Int32).toInt = 11 from rfl); have := lv_neT q1_12 (show (12 : Int32).toInt = 12 from rfl); have := lv_neT q1_13 (show (13 : Int32).toInt = 13 from rfl); omega) rfl ?_
  refine lv_iconst (v := 3) X.1.1 X.1.2.1 d_pr_perform_173 rfl ?_
  exact X.iret hr hlk d_pr_perform_174 (by first | (simp only [perform, eq_false q1_0, eq_false q1_1, eq_false q1_2, eq_false q1_3, eq_false q1_4, eq_false q1_5, eq_false q1_6, eq_false q1_7, eq_false q1_8, eq_false q1_9, eq_false q1_10, eq_false q1_11, eq_false q1_12, eq_false q1_13, if_true, if_false]; done) | (simp [perform, eq_false q1_0, eq_false q1_1, eq_false q1_2, eq_false q1_3, eq_false q1_4, eq_false q1_5, eq_false q1_6, eq_false q1_7, eq_false q1_8, eq_false q1_9, eq_false q1_10, eq_false q1_11, eq_false q1_12, eq_false q1_13]; done) | (simp [perform, q1_0, q1_1, q1_2, q1_3, q1_4, q1_5, q1_6, q1_7, q1_8, q1_9, q1_10, q1_11, q1_12, q1_13]; done) | rfl) (by first | (simp only [perform, eq_false q1_0, eq_false q1_1, eq_false q1_2, eq_false q1_3, eq_false q1_4, eq_false q1_5, eq_false q1_6, eq_false q1_7, eq_false q1_8, eq_false q1_9, eq_false q1_10, eq_false q1_11, eq_false q1_12, eq_false q1_13, if_true, if_false]; done) | (simp [perform, eq_false q1_0, eq_false q1_1, eq_false q1_2, eq_false q1_3, eq_false q1_4, eq_false q1_5, eq_false q1_6, eq_false q1_7, eq_false q1_8, eq_false q1_9, eq_false q1_10, eq_false q1_11, eq_false q1_12, eq_false q1_13]; done) | (simp [perform, q1_0, q1_1, q1_2, q1_3, q1_4, q1_5, q1_6, q1_7, q1_8, q1_9, q1_10, q1_11, q1_12, q1_13]; done) | rfl)
set_option maxHeartbeats 4000000 in
theorem c_pr_doByte {l : Launch} {D : va_G} {ad : Nat → Nat} {ci : Nat → ClassId} (hI : Inj ad) (σ : SS)  (hg : RG σ) (hz : BZ σ) (ok : CtxOk σ (σ.1 13 (ix 6))) (h_s : vp_in (σ.2.1 (ix (σ.1 13 (ix 6))) (ix 3) - 1000) 8) : Mi l y_pr_doByte b_pr_doByte 7 (some .boolean) ({ frames := 5, cells := 0, slots := 0, locals := 120 } : Room) (EC D ad ci) [.ref (ad 3)] σ ((doByte σ).1) ((doByte σ).2) := by
  refine Mi.start pn_pr (Nat.le_of_ble_eq_true rfl) (fun zp ze zs zm zb zt zc ls X hr hlk L => ?_)
  have L : lv_has ls 7 [(0, .ref (ad 3))] := L
  have p0 := ok.2.2.2.2.2.2.1
  have p1 := ok.2.2.2.2.2.2.2
  refine lv_aload_n X.1.1 X.1.2.1 d_pr_doByte_0 rfl (lv_at L 0 rfl) ?_
  refine g_pr_memory X d_pr_doByte_1 ?_
  refine lv_bipush (v := 6) X.1.1 X.1.2.1 d_pr_doByte_4 rfl ?_
  refine Mi.callV (k := 1) (c_me_register hI _ _ (vpc (by decide))) X (gt_V mw_278 mw_139 mw_140 mw_2 mw_141) ok_me_register ⟨rfl, rfl, by decide, by decide⟩ (rc_me X) rfl L.1 rfl (Nat.le_of_ble_eq_true rfl) d_pr_doByte_6 (fun H locs X => ?_)
  refine lv_istore_n (lv' := [(1, .int _), (0, .ref _)]) X.1.1 X.1.2.1 d_pr_doByte_9 rfl L (by decide) rfl (fun ls L => ?_)
  refine lv_aload_n X.1.1 X.1.2.1 d_pr_doByte_10 rfl (lv_at L 1 rfl) ?_
  refine lv_iload_n X.1.1 X.1.2.1 d_pr_doByte_11 rfl (lv_at L 0 rfl) ?_
  refine Mi.callV (k := 1) (c_pr_placeOf hI _ _ ok.1) X (gt_V mw_311 mw_313 ms_10 mw_4 mw_314) ok_pr_placeOf ⟨rfl, rfl, by decide, by decide⟩ (rc_pr X) rfl L.1 rfl (Nat.le_of_ble_eq_true rfl) d_pr_doByte_12 (fun H locs X => ?_)
  refine lv_istore_n (lv' := [(2, .int _), (1, .int _), (0, .ref _)]) X.1.1 X.1.2.1 d_pr_doByte_15 rfl L (by decide) rfl (fun ls L => ?_)
  refine lv_iload_n X.1.1 X.1.2.1 d_pr_doByte_16 rfl (lv_at L 0 rfl) ?_
  refine lv_bipush (v := 16) X.1.1 X.1.2.1 d_pr_doByte_17 rfl ?_
  refine lv_icmp_lt (tgt := 29) X.1.1 X.1.2.1 d_pr_doByte_19 rfl (fun h19 => ?_) (fun h19 => ?_)
  · skip
    refine lv_aload_n X.1.1 X.1.2.1 d_pr_doByte_29 rfl (lv_at L 2 rfl) ?_
    refine lv_iload_n X.1.1 X.1.2.1 d_pr_doByte_30 rfl (lv_at L 1 rfl) ?_
    refine lv_iload_n X.1.1 X.1.2.1 d_pr_doByte_31 rfl (lv_at L 0 rfl) ?_
    refine Mi.callV (k := 2) (c_pr_codeAt hI _ _ _ ok.1 ok.2.1 h_s) X (gt_V mw_319 mw_321 ms_12 mw_4 mw_322) ok_pr_codeAt ⟨rfl, rfl, by decide, by decide⟩ (rc_pr X) rfl L.1 rfl (Nat.le_of_ble_eq_true rfl) d_pr_doByte_32 (fun H locs X => ?_)
    refine lv_istore_n (lv' := [(3, .int _), (2, .int _), (1, .int _), (0, .ref _)]) X.1.1 X.1.2.1 d_pr_doByte_35 rfl L (by decide) rfl (fun ls L => ?_)
    refine lv_iload_n X.1.1 X.1.2.1 d_pr_doByte_36 rfl (lv_at L 0 rfl) ?_
    refine lv_iconst (v := 4) X.1.1 X.1.2.1 d_pr_doByte_37 rfl ?_
    refine lv_ishr X.1.1 X.1.2.1 d_pr_doByte_38 ?_
    refine lv_istore (lv' := [(4, .int _), (3, .int _), (2, .int _), (1, .int _), (0, .ref _)]) X.1.1 X.1.2.1 d_pr_doByte_39 L (by decide) rfl (fun ls L => ?_)
    refine lv_iload_n X.1.1 X.1.2.1 d_pr_doByte_41 rfl (lv_at L 1 rfl) ?_
    refine lv_bipush (v := 15) X.1.1 X.1.2.1 d_pr_doByte_42 rfl ?_
    refine lv_iand X.1.1 X.1.2.1 d_pr_doByte_44 ?_
    refine lv_istore (lv' := [(5, .int _), (4, .int _), (3, .int _), (2, .int _), (1, .int _), (0, .ref _)]) X.1.1 X.1.2.1 d_pr_doByte_45 L (by decide) rfl (fun ls L => ?_)
    refine lv_aload_n X.1.1 X.1.2.1 d_pr_doByte_47 rfl (lv_at L 5 rfl) ?_
    refine lv_iload_n X.1.1 X.1.2.1 d_pr_doByte_48 rfl (lv_at L 4 rfl) ?_
    refine lv_iload X.1.1 X.1.2.1 d_pr_doByte_49 (lv_at L 1 rfl) ?_
    refine lv_iload X.1.1 X.1.2.1 d_pr_doByte_51 (lv_at L 0 rfl) ?_
    refine Mi.callV (k := 3) (c_pr_stackSuits hI _ _ _ _ ok.1) X (gt_V mw_327 mw_329 ms_13 mw_4 mw_330) ok_pr_stackSuits ⟨rfl, rfl, by decide, by decide⟩ (rc_pr X) rfl L.1 rfl (Nat.le_of_ble_eq_true rfl) d_pr_doByte_53 (fun H locs X => ?_)
    refine lv_if_ne (tgt := 65) X.1.1 X.1.2.1 d_pr_doByte_56 rfl (fun h56 => ?_) (fun h56 => ?_)
    · skip
      have pf := pf_place hg ok h19 (pk_andIn (codeAt σ (σ.1 13 (ix 6)) (placeOf σ (σ.1 13 (ix 6)))) (m := 15) 4 rfl (by decide)) h56
      have hz1 := BZ_place hz (σ.1 13 (ix 6)) (placeOf σ (σ.1 13 (ix 6)) + 1)
      refine lv_aload_n X.1.1 X.1.2.1 d_pr_doByte_65 rfl (lv_at L 5 rfl) ?_
      refine lv_iload_n X.1.1 X.1.2.1 d_pr_doByte_66 rfl (lv_at L 4 rfl) ?_
      refine lv_iload_n X.1.1 X.1.2.1 d_pr_doByte_67 rfl (lv_at L 3 rfl) ?_
      refine lv_iconst (v := 1) X.1.1 X.1.2.1 d_pr_doByte_68 rfl ?_
      refine lv_iadd X.1.1 X.1.2.1 d_pr_doByte_69 ?_
      refine Mv.callV (k := 2) (c_pr_setPlace hI _ _ _ ok.1 hg (pl_nn p0 p1 (vpc (by decide)))) X (gt_V mw_341 mw_343 ms_14 mw_4 mw_344) ok_pr_setPlace ⟨rfl, rfl, by decide, by decide⟩ (rc_pr X) rfl L.1 rfl (Nat.le_of_ble_eq_true rfl) d_pr_doByte_70 (fun H locs X => ?_)
      refine lv_aload_n X.1.1 X.1.2.1 d_pr_doByte_73 rfl (lv_at L 5 rfl) ?_
      refine lv_iload_n X.1.1 X.1.2.1 d_pr_doByte_74 rfl (lv_at L 4 rfl) ?_
      refine lv_iload X.1.1 X.1.2.1 d_pr_doByte_75 (lv_at L 1 rfl) ?_
      refine lv_iload X.1.1 X.1.2.1 d_pr_doByte_77 (lv_at L 0 rfl) ?_
      refine Mi.callV (k := 3) (c_pr_perform hI _ _ _ _ pf hz1) X (gt_V mw_345 mw_347 ms_15 mw_4 mw_348) ok_pr_perform ⟨rfl, rfl, by decide, by decide⟩ (rc_pr X) rfl L.1 rfl (Nat.le_of_ble_eq_true rfl) d_pr_doByte_79 (fun H locs X => ?_)
      refine lv_istore (lv' := [(6, .int _), (5, .int _), (4, .int _), (3, .int _), (2, .int _), (1, .int _), (0, .ref _)]) X.1.1 X.1.2.1 d_pr_doByte_82 L (by decide) rfl (fun ls L => ?_)
      refine lv_iload X.1.1 X.1.2.1 d_pr_doByte_84 (lv_at L 0 rfl) ?_
      refine lv_if_eq (tgt := 102) X.1.1 X.1.2.1 d_pr_doByte_86 rfl (fun h86 => ?_) (fun h86 => ?_)
      · skip
        refine lv_aload_n X.1.1 X.1.2.1 d_pr_doByte_102 rfl (lv_at L 6 rfl) ?_
        refine g_pr_memory X d_pr_doByte_103 ?_
        refine Mv.callV (k := 0) (c_me_settle hI _ (RG_perform pf)) X (gt_V mw_302 mw_178 mw_179 mw_2 mw_180) ok_me_settle ⟨rfl, rfl, by decide, by decide⟩ (rc_me X) rfl L.1 rfl (Nat.le_of_ble_eq_true rfl) d_pr_doByte_106 (fun H locs X => ?_)
        refine lv_iconst (v := 1) X.1.1 X.1.2.1 d_pr_doByte_109 rfl ?_
        exact X.zret hr hlk d_pr_doByte_110 (by first | rfl | assumption) (by first | (simp only [doByte, by0, by1, by2, eq_true h19, eq_false h56, eq_true h86, if_true, if_false]; done) | (simp [doByte, by0, by1, by2, eq_true h19, eq_false h56, eq_true h86]; done) | (simp [doByte, by0, by1, by2, h19, h56, h86]; done) | rfl) (by first | (simp only [doByte, by0, by1, by2, eq_true h19, eq_false h56, eq_true h86, if_true, if_false]; done) | (simp [doByte, by0, by1, by2, eq_true h19, eq_false h56, eq_true h86]; done) | (simp [doByte, by0, by1, by2, h19, h56, h86]; done) | rfl)
      · skip
        refine lv_aload_n X.1.1 X.1.2.1 d_pr_doByte_89 rfl (lv_at L 6 rfl) ?_
        refine lv_iload_n X.1.1 X.1.2.1 d_pr_doByte_90 rfl (lv_at L 5 rfl) ?_
        refine lv_iload_n X.1.1 X.1.2.1 d_pr_doByte_91 rfl (lv_at L 4 rfl) ?_
        refine Mv.callV (k := 2) (c_pr_setPlace hI _ _ _ ok.1 (RG_perform pf) (pl1_nn p0 p1)) X (gt_V mw_341 mw_343 ms_14 mw_4 mw_344) ok_pr_setPlace ⟨rfl, rfl, by decide, by decide⟩ (rc_pr X) rfl L.1 rfl (Nat.le_of_ble_eq_true rfl) d_pr_doByte_92 (fun H locs X => ?_)
        refine lv_aload_n X.1.1 X.1.2.1 d_pr_doByte_95 rfl (lv_at L 6 rfl) ?_
        refine lv_iload X.1.1 X.1.2.1 d_pr_doByte_96 (lv_at L 0 rfl) ?_
        refine Mi.callV (k := 1) (c_pr_halt hI _ _) X (gt_V mw_315 mw_317 ms_11 mw_4 mw_318) ok_pr_halt ⟨rfl, rfl, by decide, by decide⟩ (rc_pr X) rfl L.1 rfl (Nat.le_of_ble_eq_true rfl) d_pr_doByte_98 (fun H locs X => ?_)
        exact X.zret hr hlk d_pr_doByte_101 (by first | rfl | assumption) (by first | (simp only [doByte, by0, by1, by2, eq_true h19, eq_false h56, eq_false h86, if_true, if_false]; done) | (simp [doByte, by0, by1, by2, eq_true h19, eq_false h56, eq_false h86]; done) | (simp [doByte, by0, by1, by2, h19, h56, h86]; done) | rfl) (by first | (simp only [doByte, by0, by1, by2, eq_true h19, eq_false h56, eq_false h86, if_true, if_false]; done) | (simp [doByte, by0, by1, by2, eq_true h19, eq_false h56, eq_false h86]; done) | (simp [doByte, by0, by1, by2, h19, h56, h86]; done) | rfl)
    · skip
      refine lv_aload_n X.1.1 X.1.2.1 d_pr_doByte_59 rfl (lv_at L 5 rfl) ?_
      refine lv_iconst (v := 1) X.1.1 X.1.2.1 d_pr_doByte_60 rfl ?_
      refine Mi.callV (k := 1) (c_pr_halt hI _ _) X (gt_V mw_315 mw_317 ms_11 mw_4 mw_318) ok_pr_halt ⟨rfl, rfl, by decide, by decide⟩ (rc_pr X) rfl L.1 rfl (Nat.le_of_ble_eq_true rfl) d_pr_doByte_61 (fun H locs X => ?_)
      exact X.zret hr hlk d_pr_doByte_64 (by first | rfl | assumption) (by first | (simp only [doByte, by0, by1, by2, eq_true h19, eq_true h56, if_true, if_false]; done) | (simp [doByte, by0, by1, by2, eq_true h19, eq_true h56]; done) | (simp [doByte, by0, by1, by2, h19, h56]; done) | rfl) (by first | (simp only [doByte, by0, by1, by2, eq_true h19, eq_true h56, if_true, if_false]; done) | (simp [doByte, by0, by1, by2, eq_true h19, eq_true h56]; done) | (simp [doByte, by0, by1, by2, h19, h56]; done) | rfl)
  · skip
    refine lv_aload_n X.1.1 X.1.2.1 d_pr_doByte_22 rfl (lv_at L 2 rfl) ?_
    refine lv_bipush (v := 6) X.1.1 X.1.2.1 d_pr_doByte_23 rfl ?_
    refine Mi.callV (k := 1) (c_pr_halt hI _ _) X (gt_V mw_315 mw_317 ms_11 mw_4 mw_318) ok_pr_halt ⟨rfl, rfl, by decide, by decide⟩ (rc_pr X) rfl L.1 rfl (Nat.le_of_ble_eq_true rfl) d_pr_doByte_25 (fun H locs X => ?_)
    exact X.zret hr hlk d_pr_doByte_28 (by first | rfl | assumption) (by first | (simp only [doByte, by0, by1, by2, eq_false h19, if_true, if_false]; done) | (simp [doByte, by0, by1, by2, eq_false h19]; done) | (simp [doByte, by0, by1, by2, h19]; done) | rfl) (by first | (simp only [doByte, by0, by1, by2, eq_false h19, if_true, if_false]; done) | (simp [doByte, by0, by1, by2, eq_false h19]; done) | (simp [doByte, by0, by1, by2, h19]; done) | rfl)
