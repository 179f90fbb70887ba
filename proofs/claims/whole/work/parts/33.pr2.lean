set_option maxHeartbeats 4000000 in
theorem c_pr_giveAnswer {l : Launch} {D : va_G} {ad : Nat → Nat} {ci : Nat → ClassId} (hI : Inj ad) (σ : SS) (c a : Int32) (h_c : vp_in c 28) (hg : RG σ) (h1 : a = 0 → 1 ≤ (σ.1 10 (ix c)).toInt) (h_d : vp_in (σ.2.1 (ix c) (ix 0)) 28) (hdd : ¬ σ.2.1 (ix c) (ix 0) = 0 → (σ.1 10 (ix (σ.2.1 (ix c) (ix 0)))).toInt < 6) : Mi l y_pr_giveAnswer b_pr_giveAnswer 5 (some .int) ({ frames := 3, cells := 0, slots := 0, locals := 66 } : Room) (EC D ad ci) [.ref (ad 3), .int c, .int a] σ ((giveAnswer σ c a).1) ((giveAnswer σ c a).2) := by
  refine Mi.start pn_pr (Nat.le_of_ble_eq_true rfl) (fun zp ze zs zm zb zt zc ls X hr hlk L => ?_)
  have L : lv_has ls 5 [(0, .ref (ad 3)), (1, .int c), (2, .int a)] := L
  refine lv_iload_n X.1.1 X.1.2.1 d_pr_giveAnswer_0 rfl (lv_at L 2 rfl) ?_
  refine lv_iconst (v := 1) X.1.1 X.1.2.1 d_pr_giveAnswer_1 rfl ?_
  refine lv_icmp_le (tgt := 7) X.1.1 X.1.2.1 d_pr_giveAnswer_2 rfl (fun h2 => ?_) (fun h2 => ?_)
  · skip
    refine lv_iload_n X.1.1 X.1.2.1 d_pr_giveAnswer_7 rfl (lv_at L 2 rfl) ?_
    refine lv_if_ne (tgt := 23) X.1.1 X.1.2.1 d_pr_giveAnswer_8 rfl (fun h8 => ?_) (fun h8 => ?_)
    · skip
      have nw : 0 ≤ (σ.2.1 (ix c) (ix 1)).toInt := hg.grid h_c (vpc (by decide))
      refine lv_aload_n X.1.1 X.1.2.1 d_pr_giveAnswer_23 rfl (lv_at L 0 rfl) ?_
      refine g_pr_memory X d_pr_giveAnswer_24 ?_
      refine lv_iload_n X.1.1 X.1.2.1 d_pr_giveAnswer_27 rfl (lv_at L 1 rfl) ?_
      refine lv_iconst (v := 1) X.1.1 X.1.2.1 d_pr_giveAnswer_28 rfl ?_
      refine Mi.callV (k := 2) (c_me_fieldOf hI _ _ _ h_c (vpc (by decide))) X (gt_V mw_292 mw_234 mw_235 mw_2 mw_236) ok_me_fieldOf ⟨rfl, rfl, by decide, by decide⟩ (rc_me X) rfl L.1 rfl (Nat.le_of_ble_eq_true rfl) d_pr_giveAnswer_29 (fun H locs X => ?_)
      refine lv_istore_n (lv' := [(3, .int _), (0, .ref _), (1, .int _), (2, .int _)]) X.1.1 X.1.2.1 d_pr_giveAnswer_32 rfl L (by decide) rfl (fun ls L => ?_)
      refine lv_aload_n X.1.1 X.1.2.1 d_pr_giveAnswer_33 rfl (lv_at L 1 rfl) ?_
      refine g_pr_memory X d_pr_giveAnswer_34 ?_
      refine lv_iload_n X.1.1 X.1.2.1 d_pr_giveAnswer_37 rfl (lv_at L 2 rfl) ?_
      refine lv_iconst (v := 0) X.1.1 X.1.2.1 d_pr_giveAnswer_38 rfl ?_
      refine Mi.callV (k := 2) (c_me_fieldOf hI _ _ _ h_c (vpc (by decide))) X (gt_V mw_292 mw_234 mw_235 mw_2 mw_236) ok_me_fieldOf ⟨rfl, rfl, by decide, by decide⟩ (rc_me X) rfl L.1 rfl (Nat.le_of_ble_eq_true rfl) d_pr_giveAnswer_39 (fun H locs X => ?_)
      refine lv_istore (lv' := [(4, .int _), (3, .int _), (0, .ref _), (1, .int _), (2, .int _)]) X.1.1 X.1.2.1 d_pr_giveAnswer_42 L (by decide) rfl (fun ls L => ?_)
      refine lv_iload X.1.1 X.1.2.1 d_pr_giveAnswer_44 (lv_at L 0 rfl) ?_
      refine lv_if_ne (tgt := 61) X.1.1 X.1.2.1 d_pr_giveAnswer_46 rfl (fun h46 => ?_) (fun h46 => ?_)
      · skip
        have rg := RG_push hg h_d (hdd h46) nw
        refine lv_aload_n X.1.1 X.1.2.1 d_pr_giveAnswer_61 rfl (lv_at L 2 rfl) ?_
        refine g_pr_memory X d_pr_giveAnswer_62 ?_
        refine lv_iload X.1.1 X.1.2.1 d_pr_giveAnswer_65 (lv_at L 0 rfl) ?_
        refine lv_iload_n X.1.1 X.1.2.1 d_pr_giveAnswer_67 rfl (lv_at L 1 rfl) ?_
        refine Mv.callV (k := 2) (c_me_push hI _ _ _ h_d (hdd h46) hg nw) X (gt_V mw_353 mw_354 mw_355 mw_2 mw_356) ok_me_push ⟨rfl, rfl, by decide, by decide⟩ (rc_me X) rfl L.1 rfl (Nat.le_of_ble_eq_true rfl) d_pr_giveAnswer_68 (fun H locs X => ?_)
        refine lv_aload_n X.1.1 X.1.2.1 d_pr_giveAnswer_71 rfl (lv_at L 2 rfl) ?_
        refine g_pr_memory X d_pr_giveAnswer_72 ?_
        refine lv_bipush (v := 6) X.1.1 X.1.2.1 d_pr_giveAnswer_75 rfl ?_
        refine lv_iload X.1.1 X.1.2.1 d_pr_giveAnswer_77 (lv_at L 0 rfl) ?_
        refine Mv.callV (k := 2) (c_me_setRegister hI _ _ _ (vpc (by decide)) rg (vp_nn h_d)) X (gt_V mw_301 mw_174 mw_175 mw_2 mw_176) ok_me_setRegister ⟨rfl, rfl, by decide, by decide⟩ (rc_me X) rfl L.1 rfl (Nat.le_of_ble_eq_true rfl) d_pr_giveAnswer_79 (fun H locs X => ?_)
        refine lv_iconst (v := 0) X.1.1 X.1.2.1 d_pr_giveAnswer_82 rfl ?_
        exact X.iret hr hlk d_pr_giveAnswer_83 (by first | (simp only [giveAnswer, answerS, answerW, recv, eq_true h2, eq_false h8, eq_false h46, if_true, if_false]; done) | (simp [giveAnswer, answerS, answerW, recv, eq_true h2, eq_false h8, eq_false h46]; done) | (simp [giveAnswer, answerS, answerW, recv, h2, h8, h46]; done) | rfl) (by first | (simp only [giveAnswer, answerS, answerW, recv, eq_true h2, eq_false h8, eq_false h46, if_true, if_false]; done) | (simp [giveAnswer, answerS, answerW, recv, eq_true h2, eq_false h8, eq_false h46]; done) | (simp [giveAnswer, answerS, answerW, recv, h2, h8, h46]; done) | rfl)
      · skip
        refine lv_aload_n X.1.1 X.1.2.1 d_pr_giveAnswer_49 rfl (lv_at L 2 rfl) ?_
        refine g_pr_memory X d_pr_giveAnswer_50 ?_
        refine lv_iconst (v := 0) X.1.1 X.1.2.1 d_pr_giveAnswer_53 rfl ?_
        refine lv_iload_n X.1.1 X.1.2.1 d_pr_giveAnswer_54 rfl (lv_at L 1 rfl) ?_
        refine Mv.callV (k := 2) (c_me_setRegister hI _ _ _ (vpc (by decide)) hg nw) X (gt_V mw_301 mw_174 mw_175 mw_2 mw_176) ok_me_setRegister ⟨rfl, rfl, by decide, by decide⟩ (rc_me X) rfl L.1 rfl (Nat.le_of_ble_eq_true rfl) d_pr_giveAnswer_55 (fun H locs X => ?_)
        have rg := RG_setRegister hg 0 nw
        refine lv_goto (tgt := 71) X.1.1 X.1.2.1 d_pr_giveAnswer_58 rfl ?_
        refine lv_aload_n X.1.1 X.1.2.1 d_pr_giveAnswer_71 rfl (lv_at L 2 rfl) ?_
        refine g_pr_memory X d_pr_giveAnswer_72 ?_
        refine lv_bipush (v := 6) X.1.1 X.1.2.1 d_pr_giveAnswer_75 rfl ?_
        refine lv_iload X.1.1 X.1.2.1 d_pr_giveAnswer_77 (lv_at L 0 rfl) ?_
        refine Mv.callV (k := 2) (c_me_setRegister hI _ _ _ (vpc (by decide)) rg (vp_nn h_d)) X (gt_V mw_301 mw_174 mw_175 mw_2 mw_176) ok_me_setRegister ⟨rfl, rfl, by decide, by decide⟩ (rc_me X) rfl L.1 rfl (Nat.le_of_ble_eq_true rfl) d_pr_giveAnswer_79 (fun H locs X => ?_)
        refine lv_iconst (v := 0) X.1.1 X.1.2.1 d_pr_giveAnswer_82 rfl ?_
        exact X.iret hr hlk d_pr_giveAnswer_83 (by first | (simp only [giveAnswer, answerS, answerW, recv, eq_true h2, eq_false h8, eq_true h46, if_true, if_false]; done) | (simp [giveAnswer, answerS, answerW, recv, eq_true h2, eq_false h8, eq_true h46]; done) | (simp [giveAnswer, answerS, answerW, recv, h2, h8, h46]; done) | rfl) (by first | (simp only [giveAnswer, answerS, answerW, recv, eq_true h2, eq_false h8, eq_true h46, if_true, if_false]; done) | (simp [giveAnswer, answerS, answerW, recv, eq_true h2, eq_false h8, eq_true h46]; done) | (simp [giveAnswer, answerS, answerW, recv, h2, h8, h46]; done) | rfl)
    · skip
      refine lv_aload_n X.1.1 X.1.2.1 d_pr_giveAnswer_11 rfl (lv_at L 0 rfl) ?_
      refine g_pr_memory X d_pr_giveAnswer_12 ?_
      refine lv_iload_n X.1.1 X.1.2.1 d_pr_giveAnswer_15 rfl (lv_at L 1 rfl) ?_
      refine lv_iconst (v := 0) X.1.1 X.1.2.1 d_pr_giveAnswer_16 rfl ?_
      refine Mi.callV (k := 2) (c_me_topBut hI _ _ _ h_c (by decide) (by rw [n0]; have := h1 h8; omega) hg) X (gt_V mw_389 mw_376 mw_377 mw_2 mw_378) ok_me_topBut ⟨rfl, rfl, by decide, by decide⟩ (rc_me X) rfl L.1 rfl (Nat.le_of_ble_eq_true rfl) d_pr_giveAnswer_17 (fun H locs X => ?_)
      have nw : 0 ≤ (topBut σ c 0).toInt := hg.top h_c (by decide) (by rw [n0]; have := h1 h8; omega)
      refine lv_goto (tgt := 32) X.1.1 X.1.2.1 d_pr_giveAnswer_20 rfl ?_
      refine lv_istore_n (lv' := [(3, .int _), (0, .ref _), (1, .int _), (2, .int _)]) X.1.1 X.1.2.1 d_pr_giveAnswer_32 rfl L (by decide) rfl (fun ls L => ?_)
      refine lv_aload_n X.1.1 X.1.2.1 d_pr_giveAnswer_33 rfl (lv_at L 1 rfl) ?_
      refine g_pr_memory X d_pr_giveAnswer_34 ?_
      refine lv_iload_n X.1.1 X.1.2.1 d_pr_giveAnswer_37 rfl (lv_at L 2 rfl) ?_
      refine lv_iconst (v := 0) X.1.1 X.1.2.1 d_pr_giveAnswer_38 rfl ?_
      refine Mi.callV (k := 2) (c_me_fieldOf hI _ _ _ h_c (vpc (by decide))) X (gt_V mw_292 mw_234 mw_235 mw_2 mw_236) ok_me_fieldOf ⟨rfl, rfl, by decide, by decide⟩ (rc_me X) rfl L.1 rfl (Nat.le_of_ble_eq_true rfl) d_pr_giveAnswer_39 (fun H locs X => ?_)
      refine lv_istore (lv' := [(4, .int _), (3, .int _), (0, .ref _), (1, .int _), (2, .int _)]) X.1.1 X.1.2.1 d_pr_giveAnswer_42 L (by decide) rfl (fun ls L => ?_)
      refine lv_iload X.1.1 X.1.2.1 d_pr_giveAnswer_44 (lv_at L 0 rfl) ?_
      refine lv_if_ne (tgt := 61) X.1.1 X.1.2.1 d_pr_giveAnswer_46 rfl (fun h46 => ?_) (fun h46 => ?_)
      · skip
        have rg := RG_push hg h_d (hdd h46) nw
        refine lv_aload_n X.1.1 X.1.2.1 d_pr_giveAnswer_61 rfl (lv_at L 2 rfl) ?_
        refine g_pr_memory X d_pr_giveAnswer_62 ?_
        refine lv_iload X.1.1 X.1.2.1 d_pr_giveAnswer_65 (lv_at L 0 rfl) ?_
        refine lv_iload_n X.1.1 X.1.2.1 d_pr_giveAnswer_67 rfl (lv_at L 1 rfl) ?_
        refine Mv.callV (k := 2) (c_me_push hI _ _ _ h_d (hdd h46) hg nw) X (gt_V mw_353 mw_354 mw_355 mw_2 mw_356) ok_me_push ⟨rfl, rfl, by decide, by decide⟩ (rc_me X) rfl L.1 rfl (Nat.le_of_ble_eq_true rfl) d_pr_giveAnswer_68 (fun H locs X => ?_)
        refine lv_aload_n X.1.1 X.1.2.1 d_pr_giveAnswer_71 rfl (lv_at L 2 rfl) ?_
        refine g_pr_memory X d_pr_giveAnswer_72 ?_
        refine lv_bipush (v := 6) X.1.1 X.1.2.1 d_pr_giveAnswer_75 rfl ?_
        refine lv_iload X.1.1 X.1.2.1 d_pr_giveAnswer_77 (lv_at L 0 rfl) ?_
        refine Mv.callV (k := 2) (c_me_setRegister hI _ _ _ (vpc (by decide)) rg (vp_nn h_d)) X (gt_V mw_301 mw_174 mw_175 mw_2 mw_176) ok_me_setRegister ⟨rfl, rfl, by decide, by decide⟩ (rc_me X) rfl L.1 rfl (Nat.le_of_ble_eq_true rfl) d_pr_giveAnswer_79 (fun H locs X => ?_)
        refine lv_iconst (v := 0) X.1.1 X.1.2.1 d_pr_giveAnswer_82 rfl ?_
        exact X.iret hr hlk d_pr_giveAnswer_83 (by first | (simp only [giveAnswer, answerS, answerW, recv, eq_true h2, eq_true h8, eq_false h46, if_true, if_false]; done) | (simp [giveAnswer, answerS, answerW, recv, eq_true h2, eq_true h8, eq_false h46]; done) | (simp [giveAnswer, answerS, answerW, recv, h2, h8, h46]; done) | rfl) (by first | (simp only [giveAnswer, answerS, answerW, recv, eq_true h2, eq_true h8, eq_false h46, if_true, if_false]; done) | (simp [giveAnswer, answerS, answerW, recv, eq_true h2, eq_true h8, eq_false h46]; done) | (simp [giveAnswer, answerS, answerW, recv, h2, h8, h46]; done) | rfl)
      · skip
        refine lv_aload_n X.1.1 X.1.2.1 d_pr_giveAnswer_49 rfl (lv_at L 2 rfl) ?_
        refine g_pr_memory X d_pr_giveAnswer_50 ?_
        refine lv_iconst (v := 0) X.1.1 X.1.2.1 d_pr_giveAnswer_53 rfl ?_
        refine lv_iload_n X.1.1 X.1.2.1 d_pr_giveAnswer_54 rfl (lv_at L 1 rfl) ?_
        refine Mv.callV (k := 2) (c_me_setRegister hI _ _ _ (vpc (by decide)) hg nw) X (gt_V mw_301 mw_174 mw_175 mw_2 mw_176) ok_me_setRegister ⟨rfl, rfl, by decide, by decide⟩ (rc_me X) rfl L.1 rfl (Nat.le_of_ble_eq_true rfl) d_pr_giveAnswer_55 (fun H locs X => ?_)
        have rg := RG_setRegister hg 0 nw
        refine lv_goto (tgt := 71) X.1.1 X.1.2.1 d_pr_giveAnswer_58 rfl ?_
        refine lv_aload_n X.1.1 X.1.2.1 d_pr_giveAnswer_71 rfl (lv_at L 2 rfl) ?_
        refine g_pr_memory X d_pr_giveAnswer_72 ?_
        refine lv_bipush (v := 6) X.1.1 X.1.2.1 d_pr_giveAnswer_75 rfl ?_
        refine lv_iload X.1.1 X.1.2.1 d_pr_giveAnswer_77 (lv_at L 0 rfl) ?_
        refine Mv.callV (k := 2) (c_me_setRegister hI _ _ _ (vpc (by decide)) rg (vp_nn h_d)) X (gt_V mw_301 mw_174 mw_175 mw_2 mw_176) ok_me_setRegister ⟨rfl, rfl, by decide, by decide⟩ (rc_me X) rfl L.1 rfl (Nat.le_of_ble_eq_true rfl) d_pr_giveAnswer_79 (fun H locs X => ?_)
        refine lv_iconst (v := 0) X.1.1 X.1.2.1 d_pr_giveAnswer_82 rfl ?_
        exact X.iret hr hlk d_pr_giveAnswer_83 (by first | (simp only [giveAnswer, answerS, answerW, recv, eq_true h2, eq_true h8, eq_true h46, if_true, if_false]; done) | (simp [giveAnswer, answerS, answerW, recv, eq_true h2, eq_true h8, eq_true h46]; done) | (simp [giveAnswer, answerS, answerW, recv, h2, h8, h46]; done) | rfl) (by first | (simp only [giveAnswer, answerS, answerW, recv, eq_true h2, eq_true h8, eq_true h46, if_true, if_false]; done) | (simp [giveAnswer, answerS, answerW, recv, eq_true h2, eq_true h8, eq_true h46]; done) | (simp [giveAnswer, answerS, answerW, recv, h2, h8, h46]; done) | rfl)
  · skip
    refine lv_iconst (v := 3) X.1.1 X.1.2.1 d_pr_giveAnswer_5 rfl ?_
    exact X.iret hr hlk d_pr_giveAnswer_6 (by first | (simp only [giveAnswer, answerS, answerW, recv, eq_false h2, if_true, if_false]; done) | (simp [giveAnswer, answerS, answerW, recv, eq_false h2]; done) | (simp [giveAnswer, answerS, answerW, recv, h2]; done) | rfl) (by first | (simp only [giveAnswer, answerS, answerW, recv, eq_false h2, if_true, if_false]; done) | (simp [giveAnswer, answerS, answerW, recv, eq_false h2]; done) | (simp [giveAnswer, answerS, answerW, recv, h2]; done) | rfl)
set_option maxHeartbeats 4000000 in
theorem c_pr_instance {l : Launch} {D : va_G} {ad : Nat → Nat} {ci : Nat → ClassId} (hI : Inj ad) (σ : SS) (c a : Int32) (h_c : vp_in c 28) (hg : RG σ) (hp1 : a = 0 → 1 ≤ (σ.1 10 (ix c)).toInt) : Mi l y_pr_instance b_pr_instance 5 (some .int) ({ frames := 3, cells := 0, slots := 0, locals := 66 } : Room) (EC D ad ci) [.ref (ad 3), .int c, .int a] σ ((instance0 σ c a).1) ((instance0 σ c a).2) := by
  refine Mi.start pn_pr (Nat.le_of_ble_eq_true rfl) (fun zp ze zs zm zb zt zc ls X hr hlk L => ?_)
  have L : lv_has ls 5 [(0, .ref (ad 3)), (1, .int c), (2, .int a)] := L
  refine lv_iload_n X.1.1 X.1.2.1 d_pr_instance_0 rfl (lv_at L 2 rfl) ?_
  refine lv_if_eq (tgt := 6) X.1.1 X.1.2.1 d_pr_instance_1 rfl (fun h1 => ?_) (fun h1 => ?_)
  · skip
    refine lv_aload_n X.1.1 X.1.2.1 d_pr_instance_6 rfl (lv_at L 0 rfl) ?_
    refine g_pr_memory X d_pr_instance_7 ?_
    refine lv_iload_n X.1.1 X.1.2.1 d_pr_instance_10 rfl (lv_at L 1 rfl) ?_
    refine lv_iconst (v := 0) X.1.1 X.1.2.1 d_pr_instance_11 rfl ?_
    refine Mi.callV (k := 2) (c_me_topBut hI _ _ _ h_c (by decide) (by rw [n0]; have := hp1 h1; omega) hg) X (gt_V mw_389 mw_376 mw_377 mw_2 mw_378) ok_me_topBut ⟨rfl, rfl, by decide, by decide⟩ (rc_me X) rfl L.1 rfl (Nat.le_of_ble_eq_true rfl) d_pr_instance_12 (fun H locs X => ?_)
    refine lv_istore_n (lv' := [(3, .int _), (0, .ref _), (1, .int _), (2, .int _)]) X.1.1 X.1.2.1 d_pr_instance_15 rfl L (by decide) rfl (fun ls L => ?_)
    refine lv_aload_n X.1.1 X.1.2.1 d_pr_instance_16 rfl (lv_at L 1 rfl) ?_
    refine g_pr_memory X d_pr_instance_17 ?_
    refine lv_iload_n X.1.1 X.1.2.1 d_pr_instance_20 rfl (lv_at L 0 rfl) ?_
    refine Mi.callV (k := 1) (c_me_isClass hI _ _) X (gt_V mw_428 mw_147 mw_148 mw_2 mw_149) ok_me_isClass ⟨rfl, rfl, by decide, by decide⟩ (rc_me X) rfl L.1 rfl (Nat.le_of_ble_eq_true rfl) d_pr_instance_21 (fun H locs X => ?_)
    refine lv_if_eq (tgt := 32) X.1.1 X.1.2.1 d_pr_instance_24 rfl (fun h24 => ?_) (fun h24 => ?_)
    · skip
      refine lv_iconst (v := 3) X.1.1 X.1.2.1 d_pr_instance_32 rfl ?_
      exact X.iret hr hlk d_pr_instance_33 (by first | (simp only [instance0, instance1, instanceT, eq_true h1, eq_true h24, if_true, if_false]; done) | (simp [instance0, instance1, instanceT, eq_true h1, eq_true h24]; done) | (simp [instance0, instance1, instanceT, h1, h24]; done) | rfl) (by first | (simp only [instance0, instance1, instanceT, eq_true h1, eq_true h24, if_true, if_false]; done) | (simp [instance0, instance1, instanceT, eq_true h1, eq_true h24]; done) | (simp [instance0, instance1, instanceT, h1, h24]; done) | rfl)
    · skip
      refine lv_iload_n X.1.1 X.1.2.1 d_pr_instance_27 rfl (lv_at L 0 rfl) ?_
      refine lv_iconst (v := 3) X.1.1 X.1.2.1 d_pr_instance_28 rfl ?_
      refine lv_icmp_ne (tgt := 34) X.1.1 X.1.2.1 d_pr_instance_29 rfl (fun h29 => ?_) (fun h29 => ?_)
      · skip
        refine lv_aload_n X.1.1 X.1.2.1 d_pr_instance_34 rfl (lv_at L 1 rfl) ?_
        refine g_pr_memory X d_pr_instance_35 ?_
        refine lv_iload_n X.1.1 X.1.2.1 d_pr_instance_38 rfl (lv_at L 0 rfl) ?_
        refine Mi.callV (k := 1) (c_me_newInstance hI _ _ (isClass_in h24)) X (gt_V mw_429 mw_210 mw_211 mw_2 mw_212) ok_me_newInstance ⟨rfl, rfl, by decide, by decide⟩ (rc_me X) rfl L.1 rfl (Nat.le_of_ble_eq_true rfl) d_pr_instance_39 (fun H locs X => ?_)
        refine lv_istore (lv' := [(4, .int _), (3, .int _), (0, .ref _), (1, .int _), (2, .int _)]) X.1.1 X.1.2.1 d_pr_instance_42 L (by decide) rfl (fun ls L => ?_)
        refine lv_iload X.1.1 X.1.2.1 d_pr_instance_44 (lv_at L 0 rfl) ?_
        refine lv_iconst (v := (-1)) X.1.1 X.1.2.1 d_pr_instance_46 rfl ?_
        refine lv_icmp_ne (tgt := 52) X.1.1 X.1.2.1 d_pr_instance_47 rfl (fun h47 => ?_) (fun h47 => ?_)
        · skip
          refine lv_aload_n X.1.1 X.1.2.1 d_pr_instance_52 rfl (lv_at L 2 rfl) ?_
          refine g_pr_memory X d_pr_instance_53 ?_
          refine lv_iload_n X.1.1 X.1.2.1 d_pr_instance_56 rfl (lv_at L 3 rfl) ?_
          refine Mi.callV (k := 1) (c_me_pop hI _ _ h_c (by rw [newInstance_ne _ _ (by decide)]; exact hp1 h1) (RG_newInstance hg (isClass_in h24))) X (gt_V mw_371 mw_372 mw_373 mw_2 mw_374) ok_me_pop ⟨rfl, rfl, by decide, by decide⟩ (rc_me X) rfl L.1 rfl (Nat.le_of_ble_eq_true rfl) d_pr_instance_57 (fun H locs X => ?_)
          refine lv_pop X.1.1 X.1.2.1 d_pr_instance_60 rfl ?_
          refine lv_aload_n X.1.1 X.1.2.1 d_pr_instance_61 rfl (lv_at L 2 rfl) ?_
          refine g_pr_memory X d_pr_instance_62 ?_
          refine lv_iload_n X.1.1 X.1.2.1 d_pr_instance_65 rfl (lv_at L 3 rfl) ?_
          refine lv_iload X.1.1 X.1.2.1 d_pr_instance_66 (lv_at L 0 rfl) ?_
          refine Mv.callV (k := 2) (c_me_push hI _ _ _ h_c (by rw [pop_10, newInstance_ne _ _ (by decide), dec_in (hp1 h1) (hg.dep h_c).2]; have := (hg.dep h_c).2; omega) (RG_pop (RG_newInstance hg (isClass_in h24)) h_c (by rw [newInstance_ne _ _ (by decide)]; exact hp1 h1)) (vp_nn (leastFree_in h47))) X (gt_V mw_353 mw_354 mw_355 mw_2 mw_356) ok_me_push ⟨rfl, rfl, by decide, by decide⟩ (rc_me X) rfl L.1 rfl (Nat.le_of_ble_eq_true rfl) d_pr_instance_68 (fun H locs X => ?_)
          refine lv_iconst (v := 0) X.1.1 X.1.2.1 d_pr_instance_71 rfl ?_
          exact X.iret hr hlk d_pr_instance_72 (by first | (simp only [instance0, instance1, instanceT, eq_true h1, eq_false h24, eq_false h29, eq_false h47, if_true, if_false]; done) | (simp [instance0, instance1, instanceT, eq_true h1, eq_false h24, eq_false h29, eq_false h47]; done) | (simp [instance0, instance1, instanceT, h1, h24, h29, h47]; done) | rfl) (by first | (simp only [instance0, instance1, instanceT, eq_true h1, eq_false h24, eq_false h29, eq_false h47, if_true, if_false]; done) | (simp [instance0, instance1, instanceT, eq_true h1, eq_false h24, eq_false h29, eq_false h47]; done) | (simp [instance0, instance1, instanceT, h1, h24, h29, h47]; done) | rfl)
        · skip
          refine lv_iconst (v := 4) X.1.1 X.1.2.1 d_pr_instance_50 rfl ?_
          exact X.iret hr hlk d_pr_instance_51 (by first | (simp only [instance0, instance1, instanceT, eq_true h1, eq_false h24, eq_false h29, eq_true h47, if_true, if_false]; done) | (simp [instance0, instance1, instanceT, eq_true h1, eq_false h24, eq_false h29, eq_true h47]; done) | (simp [instance0, instance1, instanceT, h1, h24, h29, h47]; done) | rfl) (by first | (simp only [instance0, instance1, instanceT, eq_true h1, eq_false h24, eq_false h29, eq_true h47, if_true, if_false]; done) | (simp [instance0, instance1, instanceT, eq_true h1, eq_false h24, eq_false h29, eq_true h47]; done) | (simp [instance0, instance1, instanceT, h1, h24, h29, h47]; done) | rfl)
      · skip
        refine lv_iconst (v := 3) X.1.1 X.1.2.1 d_pr_instance_32 rfl ?_
        exact X.iret hr hlk d_pr_instance_33 (by first | (simp only [instance0, instance1, instanceT, eq_true h1, eq_false h24, eq_true h29, if_true, if_false]; done) | (simp [instance0, instance1, instanceT, eq_true h1, eq_false h24, eq_true h29]; done) | (simp [instance0, instance1, instanceT, h1, h24, h29]; done) | rfl) (by first | (simp only [instance0, instance1, instanceT, eq_true h1, eq_false h24, eq_true h29, if_true, if_false]; done) | (simp [instance0, instance1, instanceT, eq_true h1, eq_false h24, eq_true h29]; done) | (simp [instance0, instance1, instanceT, h1, h24, h29]; done) | rfl)
  · skip
    refine lv_iconst (v := 3) X.1.1 X.1.2.1 d_pr_instance_4 rfl ?_
    exact X.iret hr hlk d_pr_instance_5 (by first | (simp only [instance0, instance1, instanceT, eq_false h1, if_true, if_false]; done) | (simp [instance0, instance1, instanceT, eq_false h1]; done) | (simp [instance0, instance1, instanceT, h1]; done) | rfl) (by first | (simp only [instance0, instance1, instanceT, eq_false h1, if_true, if_false]; done) | (simp [instance0, instance1, instanceT, eq_false h1]; done) | (simp [instance0, instance1, instanceT, h1]; done) | rfl)
set_option maxHeartbeats 4000000 in
theorem c_pr_start {l : Launch} {D : va_G} {ad : Nat → Nat} {ci : Nat → ClassId} (hI : Inj ad) (σ : SS) (h t : Int32) (h_h : vp_in h 6) (h_t : vp_in t 8) (hg : RG σ) (hz : BZ σ) (hs : Sup σ (classOfWord σ (σ.1 13 (ix h)))) : Mi l y_pr_start b_pr_start 7 (some .boolean) ({ frames := 4, cells := 0, slots := 0, locals := 87 } : Room) (EC D ad ci) [.ref (ad 3), .int h, .int t] σ ((start σ h t).1) ((start σ h t).2) := by
  refine Mi.start pn_pr (Nat.le_of_ble_eq_true rfl) (fun zp ze zs zm zb zt zc ls X hr hlk L => ?_)
  have L : lv_has ls 7 [(0, .ref (ad 3)), (1, .int h), (2, .int t)] := L
  obtain ⟨M, hM, eM⟩ := args_in h_t
  refine lv_aload_n X.1.1 X.1.2.1 d_pr_start_0 rfl (lv_at L 0 rfl) ?_
  refine g_pr_memory X d_pr_start_1 ?_
  refine lv_iload_n X.1.1 X.1.2.1 d_pr_start_4 rfl (lv_at L 1 rfl) ?_
  refine Mi.callV (k := 1) (c_me_register hI _ _ (vp_up h_h (by decide))) X (gt_V mw_278 mw_139 mw_140 mw_2 mw_141) ok_me_register ⟨rfl, rfl, by decide, by decide⟩ (rc_me X) rfl L.1 rfl (Nat.le_of_ble_eq_true rfl) d_pr_start_5 (fun H locs X => ?_)
  refine lv_istore_n (lv' := [(3, .int _), (0, .ref _), (1, .int _), (2, .int _)]) X.1.1 X.1.2.1 d_pr_start_8 rfl L (by decide) rfl (fun ls L => ?_)
  refine lv_aload_n X.1.1 X.1.2.1 d_pr_start_9 rfl (lv_at L 1 rfl) ?_
  refine lv_aload_n X.1.1 X.1.2.1 d_pr_start_10 rfl (lv_at L 1 rfl) ?_
  refine g_pr_memory X d_pr_start_11 ?_
  refine lv_iload_n X.1.1 X.1.2.1 d_pr_start_14 rfl (lv_at L 0 rfl) ?_
  refine Mi.callV (k := 1) (c_me_classOfWord hI _ _) X (gt_V mw_283 mw_242 mw_243 mw_2 mw_244) ok_me_classOfWord ⟨rfl, rfl, by decide, by decide⟩ (rc_me X) rfl L.1 rfl (Nat.le_of_ble_eq_true rfl) d_pr_start_15 (fun H locs X => ?_)
  refine lv_iload_n X.1.1 X.1.2.1 d_pr_start_18 rfl (lv_at L 3 rfl) ?_
  refine Mi.callV (k := 2) (c_pr_find hI _ _ _ hs h_t hz) X (gt_V mw_284 mw_285 mw_286 mw_4 mw_287) ok_pr_find ⟨rfl, rfl, by decide, by decide⟩ (rc_pr X) rfl L.1 rfl (Nat.le_of_ble_eq_true rfl) d_pr_start_19 (fun H locs X => ?_)
  refine lv_istore (lv' := [(4, .int _), (3, .int _), (0, .ref _), (1, .int _), (2, .int _)]) X.1.1 X.1.2.1 d_pr_start_22 L (by decide) rfl (fun ls L => ?_)
  refine lv_iload X.1.1 X.1.2.1 d_pr_start_24 (lv_at L 0 rfl) ?_
  refine lv_if_ne (tgt := 31) X.1.1 X.1.2.1 d_pr_start_26 rfl (fun h26 => ?_) (fun h26 => ?_)
  · skip
    refine lv_aload_n X.1.1 X.1.2.1 d_pr_start_31 rfl (lv_at L 2 rfl) ?_
    refine g_pr_memory X d_pr_start_32 ?_
    refine lv_iload_n X.1.1 X.1.2.1 d_pr_start_35 rfl (lv_at L 1 rfl) ?_
    refine lv_iload X.1.1 X.1.2.1 d_pr_start_36 (lv_at L 0 rfl) ?_
    refine lv_iload_n X.1.1 X.1.2.1 d_pr_start_38 rfl (lv_at L 4 rfl) ?_
    refine Mi.callV (k := 3) (c_me_newContext hI _ _ _ _ (hg.reg (vp_up h_h (by decide))) (vp_nn (find_in hs)) h_t hg) X (gt_V mw_293 mw_294 mw_295 mw_2 mw_296) ok_me_newContext ⟨rfl, rfl, by decide, by decide⟩ (rc_me X) rfl L.1 rfl (Nat.le_of_ble_eq_true rfl) d_pr_start_39 (fun H locs X => ?_)
    refine lv_istore (lv' := [(5, .int _), (4, .int _), (3, .int _), (0, .ref _), (1, .int _), (2, .int _)]) X.1.1 X.1.2.1 d_pr_start_42 L (by decide) rfl (fun ls L => ?_)
    refine lv_iload X.1.1 X.1.2.1 d_pr_start_44 (lv_at L 0 rfl) ?_
    refine lv_iconst (v := (-1)) X.1.1 X.1.2.1 d_pr_start_46 rfl ?_
    refine lv_icmp_ne (tgt := 52) X.1.1 X.1.2.1 d_pr_start_47 rfl (fun h47 => ?_) (fun h47 => ?_)
    · skip
      refine lv_iconst (v := 0) X.1.1 X.1.2.1 d_pr_start_52 rfl ?_
      refine lv_istore (lv' := [(6, .int _), (5, .int _), (4, .int _), (3, .int _), (0, .ref _), (1, .int _), (2, .int _)]) X.1.1 X.1.2.1 d_pr_start_53 L (by decide) rfl (fun ls L => ?_)
      have loop55 : ∀ (n : Nat) (k : Nat) (σ1 : SS) (H : Heap) (locs : List Loc) (ls : Array Slot), (k + n = M) → (RG σ1) → ((start σ h t).1 = 1) → (settle (setRegister (staL n k σ1 (leastFree σ) h) 6 (leastFree σ)) = (start σ h t).2) → Cx (EC D ad ci) zp zs zm (([.ref (ad 3), .int h, .int t] : List Value).toArray) zc b_pr_start 7 "MessageMachine$Processor" H locs σ1 → lv_has ls 7 [(6, .int (nI k)), (5, .int (leastFree σ)), (0, .ref (ad 3)), (1, .int h), (2, .int t)] → W zp l ze ({ frames := 4, cells := 0, slots := 0, locals := 87 } : Room) zs zm (([.ref (ad 3), .int h, .int t] : List Value).toArray) zb zt zc H locs 0 0 (MQ zb (va_Qi (fun (x : Int32) (u : SS) => x = ((start σ h t).1) ∧ u = ((start σ h t).2)) (fun u t => Pq (EC D ad ci) u t) (EC D ad ci).2.2.2) (([.ref (ad 3), .int h, .int t] : List Value).toArray) zs 0 0 (EC D ad ci).2.2.2) (F0 zm 55 ls []) := by
        intro n
        induction n with
        | zero =>
          intro k σ1 H locs ls hk hg1 hr1 hq X L
          have e8 : argumentsOf t = nI k := by rw [eM, ← hk, Nat.add_zero]
          refine lv_iload X.1.1 X.1.2.1 d_pr_start_55 (lv_at L 0 rfl) ?_
          refine lv_iload_n X.1.1 X.1.2.1 d_pr_start_57 rfl (lv_at L 4 rfl) ?_
          refine Mi.callN (k := 1) (c_mm_argumentsOf hI _ _) X X.2.2.1.2.1 mw_298 mw_1 mw_299 ok_mm_argumentsOf ⟨rfl, rfl, by decide, by decide⟩ rfl L.1 rfl (Nat.le_of_ble_eq_true rfl) d_pr_start_58 (fun H locs X => ?_)
          refine lv_icmp_ge (tgt := 99) X.1.1 X.1.2.1 d_pr_start_61 rfl (fun h61 => ?_) (fun h61 => ?_)
          · skip
            refine lv_aload_n X.1.1 X.1.2.1 d_pr_start_99 rfl (lv_at L 2 rfl) ?_
            refine g_pr_memory X d_pr_start_100 ?_
            refine lv_bipush (v := 6) X.1.1 X.1.2.1 d_pr_start_103 rfl ?_
            refine lv_iload X.1.1 X.1.2.1 d_pr_start_105 (lv_at L 1 rfl) ?_
            refine Mv.callV (k := 2) (c_me_setRegister hI _ _ _ (vpc (by decide)) hg1 (vp_nn (leastFree_in h47))) X (gt_V mw_301 mw_174 mw_175 mw_2 mw_176) ok_me_setRegister ⟨rfl, rfl, by decide, by decide⟩ (rc_me X) rfl L.1 rfl (Nat.le_of_ble_eq_true rfl) d_pr_start_107 (fun H locs X => ?_)
            refine lv_aload_n X.1.1 X.1.2.1 d_pr_start_110 rfl (lv_at L 2 rfl) ?_
            refine g_pr_memory X d_pr_start_111 ?_
            refine Mv.callV (k := 0) (c_me_settle hI _ (RG_setRegister hg1 _ (vp_nn (leastFree_in h47)))) X (gt_V mw_302 mw_178 mw_179 mw_2 mw_180) ok_me_settle ⟨rfl, rfl, by decide, by decide⟩ (rc_me X) rfl L.1 rfl (Nat.le_of_ble_eq_true rfl) d_pr_start_114 (fun H locs X => ?_)
            refine lv_iconst (v := 1) X.1.1 X.1.2.1 d_pr_start_117 rfl ?_
            exact X.zret hr hlk d_pr_start_118 (by first | rfl | assumption) hr1.symm hq
          · skip
            exact absurd (by rw [e8]; exact Int32.le_refl _) h61
        | succ n ih =>
          intro k σ1 H locs ls hk hg1 hr1 hq X L
          have e8 : ¬ argumentsOf t ≤ nI k := by rw [eM, nI_leI (by omega) (by omega)]; omega
          refine lv_iload X.1.1 X.1.2.1 d_pr_start_55 (lv_at L 0 rfl) ?_
          refine lv_iload_n X.1.1 X.1.2.1 d_pr_start_57 rfl (lv_at L 4 rfl) ?_
          refine Mi.callN (k := 1) (c_mm_argumentsOf hI _ _) X X.2.2.1.2.1 mw_298 mw_1 mw_299 ok_mm_argumentsOf ⟨rfl, rfl, by decide, by decide⟩ rfl L.1 rfl (Nat.le_of_ble_eq_true rfl) d_pr_start_58 (fun H locs X => ?_)
          refine lv_icmp_ge (tgt := 99) X.1.1 X.1.2.1 d_pr_start_61 rfl (fun h61 => ?_) (fun h61 => ?_)
          · skip
            exact absurd h61 e8
          · skip
            refine lv_aload_n X.1.1 X.1.2.1 d_pr_start_64 rfl (lv_at L 2 rfl) ?_
            refine g_pr_memory X d_pr_start_65 ?_
            refine lv_iload X.1.1 X.1.2.1 d_pr_start_68 (lv_at L 1 rfl) ?_
            refine lv_iconst (v := 5) X.1.1 X.1.2.1 d_pr_start_70 rfl ?_
            refine lv_iload X.1.1 X.1.2.1 d_pr_start_71 (lv_at L 0 rfl) ?_
            refine lv_iadd X.1.1 X.1.2.1 d_pr_start_73 ?_
            refine lv_aload_n X.1.1 X.1.2.1 d_pr_start_74 rfl (lv_at L 2 rfl) ?_
            refine g_pr_memory X d_pr_start_75 ?_
            refine lv_iload_n X.1.1 X.1.2.1 d_pr_start_78 rfl (lv_at L 3 rfl) ?_
            refine lv_iconst (v := 1) X.1.1 X.1.2.1 d_pr_start_79 rfl ?_
            refine lv_iadd X.1.1 X.1.2.1 d_pr_start_80 ?_
            refine lv_iload X.1.1 X.1.2.1 d_pr_start_81 (lv_at L 0 rfl) ?_
            refine lv_iadd X.1.1 X.1.2.1 d_pr_start_83 ?_
            refine lv_bipush (v := 6) X.1.1 X.1.2.1 d_pr_start_84 rfl ?_
            refine lv_irem X.1.1 X.1.2.1 d_pr_start_86 (by decide) ?_
            refine Mi.callV (k := 1) (c_me_register hI _ _ (hnd_in h_h (by omega))) X (gt_V mw_278 mw_139 mw_140 mw_2 mw_141) ok_me_register ⟨rfl, rfl, by decide, by decide⟩ (rc_me X) rfl L.1 rfl (Nat.le_of_ble_eq_true rfl) d_pr_start_87 (fun H locs X => ?_)
            refine Mv.callV (k := 3) (c_me_setField hI _ _ _ _ (leastFree_in h47) (arg_in (by omega)) hg1 (hg1.reg (hnd_in h_h (by omega)))) X (gt_V mw_300 mw_35 mw_36 mw_2 mw_37) ok_me_setField ⟨rfl, rfl, by decide, by decide⟩ (rc_me X) rfl L.1 rfl (Nat.le_of_ble_eq_true rfl) d_pr_start_90 (fun H locs X => ?_)
            refine lv_iinc (k := 0) (lv' := [(6, .int (nI (k + 1))), (5, .int _), (0, .ref _), (1, .int _), (2, .int _)]) X.1.1 X.1.2.1 d_pr_start_93 L rfl (nI_inc k) (by decide) rfl (fun ls L => ?_)
            refine lv_goto (tgt := 55) X.1.1 X.1.2.1 d_pr_start_96 rfl ?_
            exact ih (k + 1) _ _ _ _ (by omega) (RG_setField hg1 _ _ (hg1.reg (hnd_in h_h (by omega)))) hr1 (by rw [← hq]; rfl) X L
      exact loop55 M 0 _ _ _ _ (by omega) (RG_newContext hg (hg.reg (vp_up h_h (by decide))) (vp_nn (find_in hs)) h_t) (by simp only [start, start1, eq_false h26, eq_false h47, if_false]) (by simp only [start, start1, sta2, ix_args hM eM, eq_false h26, eq_false h47, if_false]) X (lv_sub L [0, 1, 4, 5, 6] rfl)
    · skip
      refine lv_iconst (v := 0) X.1.1 X.1.2.1 d_pr_start_50 rfl ?_
      exact X.zret hr hlk d_pr_start_51 (by first | rfl | assumption) (by first | (simp only [start, start1, eq_false h26, eq_true h47, if_true, if_false]; done) | (simp [start, start1, eq_false h26, eq_true h47]; done) | (simp [start, start1, h26, h47]; done) | rfl) (by first | (simp only [start, start1, eq_false h26, eq_true h47, if_true, if_false]; done) | (simp [start, start1, eq_false h26, eq_true h47]; done) | (simp [start, start1, h26, h47]; done) | rfl)
  · skip
    refine lv_iconst (v := 0) X.1.1 X.1.2.1 d_pr_start_29 rfl ?_
    exact X.zret hr hlk d_pr_start_30 (by first | rfl | assumption) (by first | (simp only [start, start1, eq_true h26, if_true, if_false]; done) | (simp [start, start1, eq_true h26]; done) | (simp [start, start1, h26]; done) | rfl) (by first | (simp only [start, start1, eq_true h26, if_true, if_false]; done) | (simp [start, start1, eq_true h26]; done) | (simp [start, start1, h26]; done) | rfl)
set_option maxHeartbeats 4000000 in
theorem c_pr_sendOn {l : Launch} {D : va_G} {ad : Nat → Nat} {ci : Nat → ClassId} (hI : Inj ad) (σ : SS) (c q t : Int32) (h_c : vp_in c 28) (hg : RG σ) (hz : BZ σ) (hw : ¬ isSelector t = 0 → (argumentsOf t).toInt + 1 ≤ (σ.1 10 (ix c)).toInt) (hs5 : q = 5 → ¬ isSelector t = 0 → Sup σ (classOfWord σ (topBut σ c (argumentsOf t)))) (h_f : vp_in (σ.2.1 (ix c) (ix 2)) 28) (hs6 : ¬ q = 5 → Sup σ (σ.2.1 (ix (σ.2.1 (ix c) (ix 2))) (ix 0))) : Mi l y_pr_sendOn b_pr_sendOn 10 (some .int) ({ frames := 3, cells := 0, slots := 0, locals := 68 } : Room) (EC D ad ci) [.ref (ad 3), .int c, .int q, .int t] σ ((sendOn σ c q t).1) ((sendOn σ c q t).2) := by
  refine Mi.start pn_pr (Nat.le_of_ble_eq_true rfl) (fun zp ze zs zm zb zt zc ls X hr hlk L => ?_)
  have L : lv_has ls 10 [(0, .ref (ad 3)), (1, .int c), (2, .int q), (3, .int t)] := L
  refine lv_iload_n X.1.1 X.1.2.1 d_pr_sendOn_0 rfl (lv_at L 3 rfl) ?_
  refine Mi.callN (k := 1) (c_mm_isSelector hI _ _) X X.2.2.1.2.2.1 mw_199 mw_1 mw_200 ok_mm_isSelector ⟨rfl, rfl, by decide, by decide⟩ rfl L.1 rfl (Nat.le_of_ble_eq_true rfl) d_pr_sendOn_1 (fun H locs X => ?_)
  refine lv_if_ne (tgt := 9) X.1.1 X.1.2.1 d_pr_sendOn_4 rfl (fun h4 => ?_) (fun h4 => ?_)
  · skip
    have h_t := isSelector_in h4
    have hw := hw h4
    obtain ⟨M, hM, eM⟩ := args_in h_t
    have eI : (argumentsOf t).toInt = (M : Int) := by rw [eM, nI_toInt (by omega)]
    refine lv_iload_n X.1.1 X.1.2.1 d_pr_sendOn_9 rfl (lv_at L 3 rfl) ?_
    refine Mi.callN (k := 1) (c_mm_argumentsOf hI _ _) X X.2.2.1.2.1 mw_298 mw_1 mw_299 ok_mm_argumentsOf ⟨rfl, rfl, by decide, by decide⟩ rfl L.1 rfl (Nat.le_of_ble_eq_true rfl) d_pr_sendOn_10 (fun H locs X => ?_)
    refine lv_istore (lv' := [(4, .int _), (0, .ref _), (1, .int _), (2, .int _), (3, .int _)]) X.1.1 X.1.2.1 d_pr_sendOn_13 L (by decide) rfl (fun ls L => ?_)
    refine lv_aload_n X.1.1 X.1.2.1 d_pr_sendOn_15 rfl (lv_at L 1 rfl) ?_
    refine g_pr_memory X d_pr_sendOn_16 ?_
    refine lv_iload_n X.1.1 X.1.2.1 d_pr_sendOn_19 rfl (lv_at L 2 rfl) ?_
    refine lv_iload X.1.1 X.1.2.1 d_pr_sendOn_20 (lv_at L 0 rfl) ?_
    refine Mi.callV (k := 2) (c_me_topBut hI _ _ _ h_c (args_nn h_t) hw hg) X (gt_V mw_389 mw_376 mw_377 mw_2 mw_378) ok_me_topBut ⟨rfl, rfl, by decide, by decide⟩ (rc_me X) rfl L.1 rfl (Nat.le_of_ble_eq_true rfl) d_pr_sendOn_22 (fun H locs X => ?_)
    refine lv_istore (lv' := [(5, .int _), (4, .int _), (0, .ref _), (1, .int _), (2, .int _), (3, .int _)]) X.1.1 X.1.2.1 d_pr_sendOn_25 L (by decide) rfl (fun ls L => ?_)
    refine lv_iload_n X.1.1 X.1.2.1 d_pr_sendOn_27 rfl (lv_at L 4 rfl) ?_
    refine lv_iconst (v := 5) X.1.1 X.1.2.1 d_pr_sendOn_28 rfl ?_
    refine lv_icmp_ne (tgt := 44) X.1.1 X.1.2.1 d_pr_sendOn_29 rfl (fun h29 => ?_) (fun h29 => ?_)
    · skip
      refine lv_aload_n X.1.1 X.1.2.1 d_pr_sendOn_44 rfl (lv_at L 2 rfl) ?_
      refine g_pr_memory X d_pr_sendOn_45 ?_
      refine lv_aload_n X.1.1 X.1.2.1 d_pr_sendOn_48 rfl (lv_at L 2 rfl) ?_
      refine g_pr_memory X d_pr_sendOn_49 ?_
      refine lv_iload_n X.1.1 X.1.2.1 d_pr_sendOn_52 rfl (lv_at L 3 rfl) ?_
      refine lv_iconst (v := 2) X.1.1 X.1.2.1 d_pr_sendOn_53 rfl ?_
      refine Mi.callV (k := 2) (c_me_fieldOf hI _ _ _ h_c (vpc (by decide))) X (gt_V mw_292 mw_234 mw_235 mw_2 mw_236) ok_me_fieldOf ⟨rfl, rfl, by decide, by decide⟩ (rc_me X) rfl L.1 rfl (Nat.le_of_ble_eq_true rfl) d_pr_sendOn_54 (fun H locs X => ?_)
      refine lv_iconst (v := 0) X.1.1 X.1.2.1 d_pr_sendOn_57 rfl ?_
      refine Mi.callV (k := 2) (c_me_fieldOf hI _ _ _ h_f (vpc (by decide))) X (gt_V mw_292 mw_234 mw_235 mw_2 mw_236) ok_me_fieldOf ⟨rfl, rfl, by decide, by decide⟩ (rc_me X) rfl L.1 rfl (Nat.le_of_ble_eq_true rfl) d_pr_sendOn_58 (fun H locs X => ?_)
      refine lv_istore (lv' := [(6, .int _), (5, .int _), (4, .int _), (0, .ref _), (1, .int _), (2, .int _), (3, .int _)]) X.1.1 X.1.2.1 d_pr_sendOn_61 L (by decide) rfl (fun ls L => ?_)
      refine lv_aload_n X.1.1 X.1.2.1 d_pr_sendOn_63 rfl (lv_at L 3 rfl) ?_
      refine lv_iload X.1.1 X.1.2.1 d_pr_sendOn_64 (lv_at L 0 rfl) ?_
      refine lv_iload_n X.1.1 X.1.2.1 d_pr_sendOn_66 rfl (lv_at L 6 rfl) ?_
      refine Mi.callV (k := 2) (c_pr_find hI _ _ _ (by first | exact hs5 h29 h4 | exact hs6 h29) h_t hz) X (gt_V mw_284 mw_285 mw_286 mw_4 mw_287) ok_pr_find ⟨rfl, rfl, by decide, by decide⟩ (rc_pr X) rfl L.1 rfl (Nat.le_of_ble_eq_true rfl) d_pr_sendOn_67 (fun H locs X => ?_)
      refine lv_istore (lv' := [(7, .int _), (6, .int _), (5, .int _), (4, .int _), (0, .ref _), (1, .int _), (2, .int _), (3, .int _)]) X.1.1 X.1.2.1 d_pr_sendOn_70 L (by decide) rfl (fun ls L => ?_)
      refine lv_iload X.1.1 X.1.2.1 d_pr_sendOn_72 (lv_at L 0 rfl) ?_
      refine lv_if_ne (tgt := 79) X.1.1 X.1.2.1 d_pr_sendOn_74 rfl (fun h74 => ?_) (fun h74 => ?_)
      · skip
        refine lv_aload_n X.1.1 X.1.2.1 d_pr_sendOn_79 rfl (lv_at L 4 rfl) ?_
        refine g_pr_memory X d_pr_sendOn_80 ?_
        refine lv_iload X.1.1 X.1.2.1 d_pr_sendOn_83 (lv_at L 2 rfl) ?_
        refine lv_iload X.1.1 X.1.2.1 d_pr_sendOn_85 (lv_at L 0 rfl) ?_
        refine lv_iload_n X.1.1 X.1.2.1 d_pr_sendOn_87 rfl (lv_at L 7 rfl) ?_
        refine Mi.callV (k := 3) (c_me_newContext hI _ _ _ _ (hg.top h_c (args_nn h_t) hw) (vp_nn (find_in (by first | exact hs5 h29 h4 | exact hs6 h29))) h_t hg) X (gt_V mw_293 mw_294 mw_295 mw_2 mw_296) ok_me_newContext ⟨rfl, rfl, by decide, by decide⟩ (rc_me X) rfl L.1 rfl (Nat.le_of_ble_eq_true rfl) d_pr_sendOn_88 (fun H locs X => ?_)
        refine lv_istore (lv' := [(8, .int _), (7, .int _), (6, .int _), (5, .int _), (4, .int _), (0, .ref _), (1, .int _), (2, .int _), (3, .int _)]) X.1.1 X.1.2.1 d_pr_sendOn_91 L (by decide) rfl (fun ls L => ?_)
        refine lv_iload X.1.1 X.1.2.1 d_pr_sendOn_93 (lv_at L 0 rfl) ?_
        refine lv_iconst (v := (-1)) X.1.1 X.1.2.1 d_pr_sendOn_95 rfl ?_
        refine lv_icmp_ne (tgt := 101) X.1.1 X.1.2.1 d_pr_sendOn_96 rfl (fun h96 => ?_) (fun h96 => ?_)
        · skip
          refine lv_iconst (v := 0) X.1.1 X.1.2.1 d_pr_sendOn_101 rfl ?_
          refine lv_istore (lv' := [(9, .int _), (8, .int _), (7, .int _), (6, .int _), (5, .int _), (4, .int _), (0, .ref _), (1, .int _), (2, .int _), (3, .int _)]) X.1.1 X.1.2.1 d_pr_sendOn_102 L (by decide) rfl (fun ls L => ?_)
          have loop104 : ∀ (n : Nat) (k : Nat) (σ1 : SS) (H : Heap) (locs : List Loc) (ls : Array Slot), (k + n = M) → (RG σ1) → (σ1.1 10 (ix c) = σ.1 10 (ix c)) → ((sendOn σ c q t).1 = 0) → (sndE (sndL n k σ1 (leastFree σ) c (argumentsOf t)) (leastFree σ) c (argumentsOf t) = (sendOn σ c q t).2) → Cx (EC D ad ci) zp zs zm (([.ref (ad 3), .int c, .int q, .int t] : List Value).toArray) zc b_pr_sendOn 10 "MessageMachine$Processor" H locs σ1 → lv_has ls 10 [(9, .int (nI k)), (8, .int (leastFree σ)), (4, .int (argumentsOf t)), (0, .ref (ad 3)), (1, .int c)] → W zp l ze ({ frames := 3, cells := 0, slots := 0, locals := 68 } : Room) zs zm (([.ref (ad 3), .int c, .int q, .int t] : List Value).toArray) zb zt zc H locs 0 0 (MQ zb (va_Qi (fun (x : Int32) (u : SS) => x = ((sendOn σ c q t).1) ∧ u = ((sendOn σ c q t).2)) (fun u t => Pq (EC D ad ci) u t) (EC D ad ci).2.2.2) (([.ref (ad 3), .int c, .int q, .int t] : List Value).toArray) zs 0 0 (EC D ad ci).2.2.2) (F0 zm 104 ls []) := by
            intro n
            induction n with
            | zero =>
              intro k σ1 H locs ls hk hg1 h10 hr1 hq X L
              have e8 : argumentsOf t = nI k := by rw [eM, ← hk, Nat.add_zero]
              have hd := hg.dep h_c
              have e10 : (setField σ1 (leastFree σ) 0 c).1 10 (ix c) = σ.1 10 (ix c) := (congrFun (setField_ne σ1 _ _ _ (by decide)) _).trans h10
              have e11 := sub2_in (d := (setField σ1 (leastFree σ) 0 c).1 10 (ix c)) eM (by rw [e10]; omega) (by rw [e10]; omega)
              rw [e10] at e11
              refine lv_iload X.1.1 X.1.2.1 d_pr_sendOn_104 (lv_at L 0 rfl) ?_
              refine lv_iload X.1.1 X.1.2.1 d_pr_sendOn_106 (lv_at L 2 rfl) ?_
              refine lv_icmp_ge (tgt := 145) X.1.1 X.1.2.1 d_pr_sendOn_108 rfl (fun h108 => ?_) (fun h108 => ?_)
              · skip
                refine lv_aload_n X.1.1 X.1.2.1 d_pr_sendOn_145 rfl (lv_at L 3 rfl) ?_
                refine g_pr_memory X d_pr_sendOn_146 ?_
                refine lv_iload X.1.1 X.1.2.1 d_pr_sendOn_149 (lv_at L 1 rfl) ?_
                refine lv_iconst (v := 0) X.1.1 X.1.2.1 d_pr_sendOn_151 rfl ?_
                refine lv_iload_n X.1.1 X.1.2.1 d_pr_sendOn_152 rfl (lv_at L 4 rfl) ?_
                refine Mv.callV (k := 3) (c_me_setField hI _ _ _ _ (leastFree_in h96) (vpc (by decide)) hg1 (vp_nn h_c)) X (gt_V mw_300 mw_35 mw_36 mw_2 mw_37) ok_me_setField ⟨rfl, rfl, by decide, by decide⟩ (rc_me X) rfl L.1 rfl (Nat.le_of_ble_eq_true rfl) d_pr_sendOn_153 (fun H locs X => ?_)
                refine lv_aload_n X.1.1 X.1.2.1 d_pr_sendOn_156 rfl (lv_at L 3 rfl) ?_
                refine g_pr_memory X d_pr_sendOn_157 ?_
                refine lv_iload_n X.1.1 X.1.2.1 d_pr_sendOn_160 rfl (lv_at L 4 rfl) ?_
                refine lv_aload_n X.1.1 X.1.2.1 d_pr_sendOn_161 rfl (lv_at L 3 rfl) ?_
                refine g_pr_memory X d_pr_sendOn_162 ?_
                refine lv_iload_n X.1.1 X.1.2.1 d_pr_sendOn_165 rfl (lv_at L 4 rfl) ?_
                refine Mi.callV (k := 1) (c_me_depthOf hI _ _ h_c) X (gt_V mw_331 mw_332 mw_333 mw_2 mw_334) ok_me_depthOf ⟨rfl, rfl, by decide, by decide⟩ (rc_me X) rfl L.1 rfl (Nat.le_of_ble_eq_true rfl) d_pr_sendOn_166 (fun H locs X => ?_)
                refine lv_iload X.1.1 X.1.2.1 d_pr_sendOn_169 (lv_at L 2 rfl) ?_
                refine lv_isub X.1.1 X.1.2.1 d_pr_sendOn_171 ?_
                refine lv_iconst (v := 1) X.1.1 X.1.2.1 d_pr_sendOn_172 rfl ?_
                refine lv_isub X.1.1 X.1.2.1 d_pr_sendOn_173 ?_
                refine Mv.callV (k := 2) (c_me_popDownTo hI _ _ _ h_c (by rw [e10, e11]; omega) (by rw [e10, e11]; omega) (RG_setField hg1 _ _ (vp_nn h_c))) X (gt_V mw_390 mw_391 mw_392 mw_2 mw_393) ok_me_popDownTo ⟨rfl, rfl, by decide, by decide⟩ (rc_me X) rfl L.1 rfl (Nat.le_of_ble_eq_true rfl) d_pr_sendOn_174 (fun H locs X => ?_)
                refine lv_aload_n X.1.1 X.1.2.1 d_pr_sendOn_177 rfl (lv_at L 3 rfl) ?_
                refine g_pr_memory X d_pr_sendOn_178 ?_
                refine lv_bipush (v := 6) X.1.1 X.1.2.1 d_pr_sendOn_181 rfl ?_
                refine lv_iload X.1.1 X.1.2.1 d_pr_sendOn_183 (lv_at L 1 rfl) ?_
                refine Mv.callV (k := 2) (c_me_setRegister hI _ _ _ (vpc (by decide)) (RG_popDownTo (RG_setField hg1 _ _ (vp_nn h_c)) _ (by rw [e10, e11]; omega)) (vp_nn (leastFree_in h96))) X (gt_V mw_301 mw_174 mw_175 mw_2 mw_176) ok_me_setRegister ⟨rfl, rfl, by decide, by decide⟩ (rc_me X) rfl L.1 rfl (Nat.le_of_ble_eq_true rfl) d_pr_sendOn_185 (fun H locs X => ?_)
                refine lv_iconst (v := 0) X.1.1 X.1.2.1 d_pr_sendOn_188 rfl ?_
                exact X.iret hr hlk d_pr_sendOn_189 hr1.symm hq
              · skip
                exact absurd (by rw [e8]; exact Int32.le_refl _) h108
            | succ n ih =>
              intro k σ1 H locs ls hk hg1 h10 hr1 hq X L
              have e8 : ¬ argumentsOf t ≤ nI k := by rw [eM, nI_leI (by omega) (by omega)]; omega
              have ea : (argumentsOf t - 1 - nI k).toInt = (M : Int) - 1 - k := by rw [eM, sub_arg (by omega), nI_toInt (by omega)]; omega
              refine lv_iload X.1.1 X.1.2.1 d_pr_sendOn_104 (lv_at L 0 rfl) ?_
              refine lv_iload X.1.1 X.1.2.1 d_pr_sendOn_106 (lv_at L 2 rfl) ?_
              refine lv_icmp_ge (tgt := 145) X.1.1 X.1.2.1 d_pr_sendOn_108 rfl (fun h108 => ?_) (fun h108 => ?_)
              · skip
                exact absurd h108 e8
              · skip
                refine lv_aload_n X.1.1 X.1.2.1 d_pr_sendOn_111 rfl (lv_at L 3 rfl) ?_
                refine g_pr_memory X d_pr_sendOn_112 ?_
                refine lv_iload X.1.1 X.1.2.1 d_pr_sendOn_115 (lv_at L 1 rfl) ?_
                refine lv_iconst (v := 5) X.1.1 X.1.2.1 d_pr_sendOn_117 rfl ?_
                refine lv_iload X.1.1 X.1.2.1 d_pr_sendOn_118 (lv_at L 0 rfl) ?_
                refine lv_iadd X.1.1 X.1.2.1 d_pr_sendOn_120 ?_
                refine lv_aload_n X.1.1 X.1.2.1 d_pr_sendOn_121 rfl (lv_at L 3 rfl) ?_
                refine g_pr_memory X d_pr_sendOn_122 ?_
                refine lv_iload_n X.1.1 X.1.2.1 d_pr_sendOn_125 rfl (lv_at L 4 rfl) ?_
                refine lv_iload X.1.1 X.1.2.1 d_pr_sendOn_126 (lv_at L 2 rfl) ?_
                refine lv_iconst (v := 1) X.1.1 X.1.2.1 d_pr_sendOn_128 rfl ?_
                refine lv_isub X.1.1 X.1.2.1 d_pr_sendOn_129 ?_
                refine lv_iload X.1.1 X.1.2.1 d_pr_sendOn_130 (lv_at L 0 rfl) ?_
                refine lv_isub X.1.1 X.1.2.1 d_pr_sendOn_132 ?_
                refine Mi.callV (k := 2) (c_me_topBut hI _ _ _ h_c (by rw [ea]; omega) (by rw [ea, h10]; omega) hg1) X (gt_V mw_389 mw_376 mw_377 mw_2 mw_378) ok_me_topBut ⟨rfl, rfl, by decide, by decide⟩ (rc_me X) rfl L.1 rfl (Nat.le_of_ble_eq_true rfl) d_pr_sendOn_133 (fun H locs X => ?_)
                refine Mv.callV (k := 3) (c_me_setField hI _ _ _ _ (leastFree_in h96) (arg_in (by omega)) hg1 (hg1.top h_c (by rw [ea]; omega) (by rw [ea, h10]; omega))) X (gt_V mw_300 mw_35 mw_36 mw_2 mw_37) ok_me_setField ⟨rfl, rfl, by decide, by decide⟩ (rc_me X) rfl L.1 rfl (Nat.le_of_ble_eq_true rfl) d_pr_sendOn_136 (fun H locs X => ?_)
                refine lv_iinc (k := 0) (lv' := [(9, .int (nI (k + 1))), (8, .int _), (4, .int _), (0, .ref _), (1, .int _)]) X.1.1 X.1.2.1 d_pr_sendOn_139 L rfl (nI_inc k) (by decide) rfl (fun ls L => ?_)
                refine lv_goto (tgt := 104) X.1.1 X.1.2.1 d_pr_sendOn_142 rfl ?_
                exact ih (k + 1) _ _ _ _ (by omega) (RG_setField hg1 _ _ (hg1.top h_c (by rw [ea]; omega) (by rw [ea, h10]; omega))) ((congrFun (setField_ne σ1 _ _ _ (by decide)) _).trans h10) hr1 (by rw [← hq]; rfl) X L
          exact loop104 M 0 _ _ _ _ (by omega) (RG_newContext hg (hg.top h_c (args_nn h_t) hw) (vp_nn (find_in (by first | exact hs5 h29 h4 | exact hs6 h29))) h_t) (congrFun (newContext_ne σ _ _ _ (by decide)) _) (by simp only [sendOn, snd1, sndF, h29, if_true, if_false, eq_false h4, eq_false h74, eq_false h96]) (by simp only [sendOn, snd1, snd2, sndF, ix_args hM eM, h29, if_true, if_false, eq_false h4, eq_false h74, eq_false h96]) X (lv_sub L [0, 1, 5, 6, 7] rfl)
        · skip
          refine lv_iconst (v := 4) X.1.1 X.1.2.1 d_pr_sendOn_99 rfl ?_
          exact X.iret hr hlk d_pr_sendOn_100 (by first | (simp only [sendOn, snd1, snd2, sndF, eq_false h4, eq_false h29, eq_false h74, eq_true h96, if_true, if_false]; done) | (simp [sendOn, snd1, snd2, sndF, eq_false h4, eq_false h29, eq_false h74, eq_true h96]; done) | (simp [sendOn, snd1, snd2, sndF, h4, h29, h74, h96]; done) | rfl) (by first | (simp only [sendOn, snd1, snd2, sndF, eq_false h4, eq_false h29, eq_false h74, eq_true h96, if_true, if_false]; done) | (simp [sendOn, snd1, snd2, sndF, eq_false h4, eq_false h29, eq_false h74, eq_true h96]; done) | (simp [sendOn, snd1, snd2, sndF, h4, h29, h74, h96]; done) | rfl)
      · skip
        refine lv_iconst (v := 2) X.1.1 X.1.2.1 d_pr_sendOn_77 rfl ?_
        exact X.iret hr hlk d_pr_sendOn_78 (by first | (simp only [sendOn, snd1, snd2, sndF, eq_false h4, eq_false h29, eq_true h74, if_true, if_false]; done) | (simp [sendOn, snd1, snd2, sndF, eq_false h4, eq_false h29, eq_true h74]; done) | (simp [sendOn, snd1, snd2, sndF, h4, h29, h74]; done) | rfl) (by first | (simp only [sendOn, snd1, snd2, sndF, eq_false h4, eq_false h29, eq_true h74, if_true, if_false]; done) | (simp [sendOn, snd1, snd2, sndF, eq_false h4, eq_false h29, eq_true h74]; done) | (simp [sendOn, snd1, snd2, sndF, h4, h29, h74]; done) | rfl)
    · skip
      refine lv_aload_n X.1.1 X.1.2.1 d_pr_sendOn_32 rfl (lv_at L 2 rfl) ?_
      refine g_pr_memory X d_pr_sendOn_33 ?_
      refine lv_iload X.1.1 X.1.2.1 d_pr_sendOn_36 (lv_at L 0 rfl) ?_
      refine Mi.callV (k := 1) (c_me_classOfWord hI _ _) X (gt_V mw_283 mw_242 mw_243 mw_2 mw_244) ok_me_classOfWord ⟨rfl, rfl, by decide, by decide⟩ (rc_me X) rfl L.1 rfl (Nat.le_of_ble_eq_true rfl) d_pr_sendOn_38 (fun H locs X => ?_)
      refine lv_goto (tgt := 61) X.1.1 X.1.2.1 d_pr_sendOn_41 rfl ?_
      refine lv_istore (lv' := [(6, .int _), (5, .int _), (4, .int _), (0, .ref _), (1, .int _), (2, .int _), (3, .int _)]) X.1.1 X.1.2.1 d_pr_sendOn_61 L (by decide) rfl (fun ls L => ?_)
      refine lv_aload_n X.1.1 X.1.2.1 d_pr_sendOn_63 rfl (lv_at L 3 rfl) ?_
      refine lv_iload X.1.1 X.1.2.1 d_pr_sendOn_64 (lv_at L 0 rfl) ?_
      refine lv_iload_n X.1.1 X.1.2.1 d_pr_sendOn_66 rfl (lv_at L 6 rfl) ?_
      refine Mi.callV (k := 2) (c_pr_find hI _ _ _ (by first | exact hs5 h29 h4 | exact hs6 h29) h_t hz) X (gt_V mw_284 mw_285 mw_286 mw_4 mw_287) ok_pr_find ⟨rfl, rfl, by decide, by decide⟩ (rc_pr X) rfl L.1 rfl (Nat.le_of_ble_eq_true rfl) d_pr_sendOn_67 (fun H locs X => ?_)
      refine lv_istore (lv' := [(7, .int _), (6, .int _), (5, .int _), (4, .int _), (0, .ref _), (1, .int _), (2, .int _), (3, .int _)]) X.1.1 X.1.2.1 d_pr_sendOn_70 L (by decide) rfl (fun ls L => ?_)
      refine lv_iload X.1.1 X.1.2.1 d_pr_sendOn_72 (lv_at L 0 rfl) ?_
      refine lv_if_ne (tgt := 79) X.1.1 X.1.2.1 d_pr_sendOn_74 rfl (fun h74 => ?_) (fun h74 => ?_)
      · skip
        refine lv_aload_n X.1.1 X.1.2.1 d_pr_sendOn_79 rfl (lv_at L 4 rfl) ?_
        refine g_pr_memory X d_pr_sendOn_80 ?_
        refine lv_iload X.1.1 X.1.2.1 d_pr_sendOn_83 (lv_at L 2 rfl) ?_
        refine lv_iload X.1.1 X.1.2.1 d_pr_sendOn_85 (lv_at L 0 rfl) ?_
        refine lv_iload_n X.1.1 X.1.2.1 d_pr_sendOn_87 rfl (lv_at L 7 rfl) ?_
        refine Mi.callV (k := 3) (c_me_newContext hI _ _ _ _ (hg.top h_c (args_nn h_t) hw) (vp_nn (find_in (by first | exact hs5 h29 h4 | exact hs6 h29))) h_t hg) X (gt_V mw_293 mw_294 mw_295 mw_2 mw_296) ok_me_newContext ⟨rfl, rfl, by decide, by decide⟩ (rc_me X) rfl L.1 rfl (Nat.le_of_ble_eq_true rfl) d_pr_sendOn_88 (fun H locs X => ?_)
        refine lv_istore (lv' := [(8, .int _), (7, .int _), (6, .int _), (5, .int _), (4, .int _), (0, .ref _), (1, .int _), (2, .int _), (3, .int _)]) X.1.1 X.1.2.1 d_pr_sendOn_91 L (by decide) rfl (fun ls L => ?_)
        refine lv_iload X.1.1 X.1.2.1 d_pr_sendOn_93 (lv_at L 0 rfl) ?_
        refine lv_iconst (v := (-1)) X.1.1 X.1.2.1 d_pr_sendOn_95 rfl ?_
        refine lv_icmp_ne (tgt := 101) X.1.1 X.1.2.1 d_pr_sendOn_96 rfl (fun h96 => ?_) (fun h96 => ?_)
        · skip
          refine lv_iconst (v := 0) X.1.1 X.1.2.1 d_pr_sendOn_101 rfl ?_
          refine lv_istore (lv' := [(9, .int _), (8, .int _), (7, .int _), (6, .int _), (5, .int _), (4, .int _), (0, .ref _), (1, .int _), (2, .int _), (3, .int _)]) X.1.1 X.1.2.1 d_pr_sendOn_102 L (by decide) rfl (fun ls L => ?_)
          have loop104 : ∀ (n : Nat) (k : Nat) (σ1 : SS) (H : Heap) (locs : List Loc) (ls : Array Slot), (k + n = M) → (RG σ1) → (σ1.1 10 (ix c) = σ.1 10 (ix c)) → ((sendOn σ c q t).1 = 0) → (sndE (sndL n k σ1 (leastFree σ) c (argumentsOf t)) (leastFree σ) c (argumentsOf t) = (sendOn σ c q t).2) → Cx (EC D ad ci) zp zs zm (([.ref (ad 3), .int c, .int q, .int t] : List Value).toArray) zc b_pr_sendOn 10 "MessageMachine$Processor" H locs σ1 → lv_has ls 10 [(9, .int (nI k)), (8, .int (leastFree σ)), (4, .int (argumentsOf t)), (0, .ref (ad 3)), (1, .int c)] → W zp l ze ({ frames := 3, cells := 0, slots := 0, locals := 68 } : Room) zs zm (([.ref (ad 3), .int c, .int q, .int t] : List Value).toArray) zb zt zc H locs 0 0 (MQ zb (va_Qi (fun (x : Int32) (u : SS) => x = ((sendOn σ c q t).1) ∧ u = ((sendOn σ c q t).2)) (fun u t => Pq (EC D ad ci) u t) (EC D ad ci).2.2.2) (([.ref (ad 3), .int c, .int q, .int t] : List Value).toArray) zs 0 0 (EC D ad ci).2.2.2) (F0 zm 104 ls []) := by
            intro n
            induction n with
            | zero =>
              intro k σ1 H locs ls hk hg1 h10 hr1 hq X L
              have e8 : argumentsOf t = nI k := by rw [eM, ← hk, Nat.add_zero]
              have hd := hg.dep h_c
              have e10 : (setField σ1 (leastFree σ) 0 c).1 10 (ix c) = σ.1 10 (ix c) := (congrFun (setField_ne σ1 _ _ _ (by decide)) _).trans h10
              have e11 := sub2_in (d := (setField σ1 (leastFree σ) 0 c).1 10 (ix c)) eM (by rw [e10]; omega) (by rw [e10]; omega)
              rw [e10] at e11
              refine lv_iload X.1.1 X.1.2.1 d_pr_sendOn_104 (lv_at L 0 rfl) ?_
              refine lv_iload X.1.1 X.1.2.1 d_pr_sendOn_106 (lv_at L 2 rfl) ?_
              refine lv_icmp_ge (tgt := 145) X.1.1 X.1.2.1 d_pr_sendOn_108 rfl (fun h108 => ?_) (fun h108 => ?_)
              · skip
                refine lv_aload_n X.1.1 X.1.2.1 d_pr_sendOn_145 rfl (lv_at L 3 rfl) ?_
                refine g_pr_memory X d_pr_sendOn_146 ?_
                refine lv_iload X.1.1 X.1.2.1 d_pr_sendOn_149 (lv_at L 1 rfl) ?_
                refine lv_iconst (v := 0) X.1.1 X.1.2.1 d_pr_sendOn_151 rfl ?_
                refine lv_iload_n X.1.1 X.1.2.1 d_pr_sendOn_152 rfl (lv_at L 4 rfl) ?_
                refine Mv.callV (k := 3) (c_me_setField hI _ _ _ _ (leastFree_in h96) (vpc (by decide)) hg1 (vp_nn h_c)) X (gt_V mw_300 mw_35 mw_36 mw_2 mw_37) ok_me_setField ⟨rfl, rfl, by decide, by decide⟩ (rc_me X) rfl L.1 rfl (Nat.le_of_ble_eq_true rfl) d_pr_sendOn_153 (fun H locs X => ?_)
                refine lv_aload_n X.1.1 X.1.2.1 d_pr_sendOn_156 rfl (lv_at L 3 rfl) ?_
                refine g_pr_memory X d_pr_sendOn_157 ?_
                refine lv_iload_n X.1.1 X.1.2.1 d_pr_sendOn_160 rfl (lv_at L 4 rfl) ?_
                refine lv_aload_n X.1.1 X.1.2.1 d_pr_sendOn_161 rfl (lv_at L 3 rfl) ?_
                refine g_pr_memory X d_pr_sendOn_162 ?_
                refine lv_iload_n X.1.1 X.1.2.1 d_pr_sendOn_165 rfl (lv_at L 4 rfl) ?_
                refine Mi.callV (k := 1) (c_me_depthOf hI _ _ h_c) X (gt_V mw_331 mw_332 mw_333 mw_2 mw_334) ok_me_depthOf ⟨rfl, rfl, by decide, by decide⟩ (rc_me X) rfl L.1 rfl (Nat.le_of_ble_eq_true rfl) d_pr_sendOn_166 (fun H locs X => ?_)
                refine lv_iload X.1.1 X.1.2.1 d_pr_sendOn_169 (lv_at L 2 rfl) ?_
                refine lv_isub X.1.1 X.1.2.1 d_pr_sendOn_171 ?_
                refine lv_iconst (v := 1) X.1.1 X.1.2.1 d_pr_sendOn_172 rfl ?_
                refine lv_isub X.1.1 X.1.2.1 d_pr_sendOn_173 ?_
                refine Mv.callV (k := 2) (c_me_popDownTo hI _ _ _ h_c (by rw [e10, e11]; omega) (by rw [e10, e11]; omega) (RG_setField hg1 _ _ (vp_nn h_c))) X (gt_V mw_390 mw_391 mw_392 mw_2 mw_393) ok_me_popDownTo ⟨rfl, rfl, by decide, by decide⟩ (rc_me X) rfl L.1 rfl (Nat.le_of_ble_eq_true rfl) d_pr_sendOn_174 (fun H locs X => ?_)
                refine lv_aload_n X.1.1 X.1.2.1 d_pr_sendOn_177 rfl (lv_at L 3 rfl) ?_
                refine g_pr_memory X d_pr_sendOn_178 ?_
                refine lv_bipush (v := 6) X.1.1 X.1.2.1 d_pr_sendOn_181 rfl ?_
                refine lv_iload X.1.1 X.1.2.1 d_pr_sendOn_183 (lv_at L 1 rfl) ?_
                refine Mv.callV (k := 2) (c_me_setRegister hI _ _ _ (vpc (by decide)) (RG_popDownTo (RG_setField hg1 _ _ (vp_nn h_c)) _ (by rw [e10, e11]; omega)) (vp_nn (leastFree_in h96))) X (gt_V mw_301 mw_174 mw_175 mw_2 mw_176) ok_me_setRegister ⟨rfl, rfl, by decide, by decide⟩ (rc_me X) rfl L.1 rfl (Nat.le_of_ble_eq_true rfl) d_pr_sendOn_185 (fun H locs X => ?_)
                refine lv_iconst (v := 0) X.1.1 X.1.2.1 d_pr_sendOn_188 rfl ?_
                exact X.iret hr hlk d_pr_sendOn_189 hr1.symm hq
              · skip
                exact absurd (by rw [e8]; exact Int32.le_refl _) h108
            | succ n ih =>
              intro k σ1 H locs ls hk hg1 h10 hr1 hq X L
              have e8 : ¬ argumentsOf t ≤ nI k := by rw [eM, nI_leI (by omega) (by omega)]; omega
              have ea : (argumentsOf t - 1 - nI k).toInt = (M : Int) - 1 - k := by rw [eM, sub_arg (by omega), nI_toInt (by omega)]; omega
              refine lv_iload X.1.1 X.1.2.1 d_pr_sendOn_104 (lv_at L 0 rfl) ?_
              refine lv_iload X.1.1 X.1.2.1 d_pr_sendOn_106 (lv_at L 2 rfl) ?_
              refine lv_icmp_ge (tgt := 145) X.1.1 X.1.2.1 d_pr_sendOn_108 rfl (fun h108 => ?_) (fun h108 => ?_)
              · skip
                exact absurd h108 e8
              · skip
                refine lv_aload_n X.1.1 X.1.2.1 d_pr_sendOn_111 rfl (lv_at L 3 rfl) ?_
                refine g_pr_memory X d_pr_sendOn_112 ?_
                refine lv_iload X.1.1 X.1.2.1 d_pr_sendOn_115 (lv_at L 1 rfl) ?_
                refine lv_iconst (v := 5) X.1.1 X.1.2.1 d_pr_sendOn_117 rfl ?_
                refine lv_iload X.1.1 X.1.2.1 d_pr_sendOn_118 (lv_at L 0 rfl) ?_
                refine lv_iadd X.1.1 X.1.2.1 d_pr_sendOn_120 ?_
                refine lv_aload_n X.1.1 X.1.2.1 d_pr_sendOn_121 rfl (lv_at L 3 rfl) ?_
                refine g_pr_memory X d_pr_sendOn_122 ?_
                refine lv_iload_n X.1.1 X.1.2.1 d_pr_sendOn_125 rfl (lv_at L 4 rfl) ?_
                refine lv_iload X.1.1 X.1.2.1 d_pr_sendOn_126 (lv_at L 2 rfl) ?_
                refine lv_iconst (v := 1) X.1.1 X.1.2.1 d_pr_sendOn_128 rfl ?_
                refine lv_isub X.1.1 X.1.2.1 d_pr_sendOn_129 ?_
                refine lv_iload X.1.1 X.1.2.1 d_pr_sendOn_130 (lv_at L 0 rfl) ?_
                refine lv_isub X.1.1 X.1.2.1 d_pr_sendOn_132 ?_
                refine Mi.callV (k := 2) (c_me_topBut hI _ _ _ h_c (by rw [ea]; omega) (by rw [ea, h10]; omega) hg1) X (gt_V mw_389 mw_376 mw_377 mw_2 mw_378) ok_me_topBut ⟨rfl, rfl, by decide, by decide⟩ (rc_me X) rfl L.1 rfl (Nat.le_of_ble_eq_true rfl) d_pr_sendOn_133 (fun H locs X => ?_)
                refine Mv.callV (k := 3) (c_me_setField hI _ _ _ _ (leastFree_in h96) (arg_in (by omega)) hg1 (hg1.top h_c (by rw [ea]; omega) (by rw [ea, h10]; omega))) X (gt_V mw_300 mw_35 mw_36 mw_2 mw_37) ok_me_setField ⟨rfl, rfl, by decide, by decide⟩ (rc_me X) rfl L.1 rfl (Nat.le_of_ble_eq_true rfl) d_pr_sendOn_136 (fun H locs X => ?_)
                refine lv_iinc (k := 0) (lv' := [(9, .int (nI (k + 1))), (8, .int _), (4, .int _), (0, .ref _), (1, .int _)]) X.1.1 X.1.2.1 d_pr_sendOn_139 L rfl (nI_inc k) (by decide) rfl (fun ls L => ?_)
                refine lv_goto (tgt := 104) X.1.1 X.1.2.1 d_pr_sendOn_142 rfl ?_
                exact ih (k + 1) _ _ _ _ (by omega) (RG_setField hg1 _ _ (hg1.top h_c (by rw [ea]; omega) (by rw [ea, h10]; omega))) ((congrFun (setField_ne σ1 _ _ _ (by decide)) _).trans h10) hr1 (by rw [← hq]; rfl) X L
          exact loop104 M 0 _ _ _ _ (by omega) (RG_newContext hg (hg.top h_c (args_nn h_t) hw) (vp_nn (find_in (by first | exact hs5 h29 h4 | exact hs6 h29))) h_t) (congrFun (newContext_ne σ _ _ _ (by decide)) _) (by simp only [sendOn, snd1, sndF, h29, if_true, if_false, eq_false h4, eq_false h74, eq_false h96]) (by simp only [sendOn, snd1, snd2, sndF, ix_args hM eM, h29, if_true, if_false, eq_false h4, eq_false h74, eq_false h96]) X (lv_sub L [0, 1, 5, 6, 7] rfl)
        · skip
          refine lv_iconst (v := 4) X.1.1 X.1.2.1 d_pr_sendOn_99 rfl ?_
          exact X.iret hr hlk d_pr_sendOn_100 (by first | (simp only [sendOn, snd1, snd2, sndF, eq_false h4, eq_true h29, eq_false h74, eq_true h96, if_true, if_false]; done) | (simp [sendOn, snd1, snd2, sndF, eq_false h4, eq_true h29, eq_false h74, eq_true h96]; done) | (simp [sendOn, snd1, snd2, sndF, h4, h29, h74, h96]; done) | rfl) (by first | (simp only [sendOn, snd1, snd2, sndF, eq_false h4, eq_true h29, eq_false h74, eq_true h96, if_true, if_false]; done) | (simp [sendOn, snd1, snd2, sndF, eq_false h4, eq_true h29, eq_false h74, eq_true h96]; done) | (simp [sendOn, snd1, snd2, sndF, h4, h29, h74, h96]; done) | rfl)
      · skip
        refine lv_iconst (v := 2) X.1.1 X.1.2.1 d_pr_sendOn_77 rfl ?_
        exact X.iret hr hlk d_pr_sendOn_78 (by first | (simp only [sendOn, snd1, snd2, sndF, eq_false h4, eq_true h29, eq_true h74, if_true, if_false]; done) | (simp [sendOn, snd1, snd2, sndF, eq_false h4, eq_true h29, eq_true h74]; done) | (simp [sendOn, snd1, snd2, sndF, h4, h29, h74]; done) | rfl) (by first | (simp only [sendOn, snd1, snd2, sndF, eq_false h4, eq_true h29, eq_true h74, if_true, if_false]; done) | (simp [sendOn, snd1, snd2, sndF, eq_false h4, eq_true h29, eq_true h74]; done) | (simp [sendOn, snd1, snd2, sndF, h4, h29, h74]; done) | rfl)
  · skip
    refine lv_iconst (v := 3) X.1.1 X.1.2.1 d_pr_sendOn_7 rfl ?_
    exact X.iret hr hlk d_pr_sendOn_8 (by first | (simp only [sendOn, snd1, snd2, sndF, eq_true h4, if_true, if_false]; done) | (simp [sendOn, snd1, snd2, sndF, eq_true h4]; done) | (simp [sendOn, snd1, snd2, sndF, h4]; done) | rfl) (by first | (simp only [sendOn, snd1, snd2, sndF, eq_true h4, if_true, if_false]; done) | (simp [sendOn, snd1, snd2, sndF, eq_true h4]; done) | (simp [sendOn, snd1, snd2, sndF, h4]; done) | rfl)
