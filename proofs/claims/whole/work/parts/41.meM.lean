set_option maxHeartbeats 4000000 in
theorem c_me_holdM {l : Launch} {D : va_G} {ad : Nat → Nat} {ci : Nat → ClassId} (hI : InjM ad) (σ : SS) (w : Int32) (n_w : 0 ≤ w.toInt) : Mv l y_me_hold b_me_hold 2 ({ frames := 0, cells := 0, slots := 0, locals := 0 } : Room) (EM D ad ci) [.ref (ad 1), .int w] σ (hold σ w) := by
  refine Mv.start pn_me (Nat.le_of_ble_eq_true rfl) (fun zp ze zs zm zb zt zc ls X hr hlk L => ?_)
  have L : lv_has ls 2 [(0, .ref (ad 1)), (1, .int w)] := L
  refine lv_iload_n X.1.1 X.1.2.1 d_me_hold_0 rfl (lv_at L 1 rfl) ?_
  refine lv_bipush (v := 28) X.1.1 X.1.2.1 d_me_hold_1 rfl ?_
  refine lv_icmp_ge (tgt := 16) X.1.1 X.1.2.1 d_me_hold_3 rfl (fun h3 => ?_) (fun h3 => ?_)
  · skip
    exact X.vret hr hlk d_me_hold_16 (by first | (simp only [hold, eq_true h3, if_true, if_false]; done) | (simp [hold, eq_true h3]; done) | (simp [hold, h3]; done) | rfl)
  · skip
    refine lv_aload_n X.1.1 X.1.2.1 d_me_hold_6 rfl (lv_at L 0 rfl) ?_
    refine g_me_holdersM X d_me_hold_7 ?_
    refine lv_iload_n X.1.1 X.1.2.1 d_me_hold_10 rfl (lv_at L 1 rfl) ?_
    refine lv_dup2_11 X.1.1 X.1.2.1 d_me_hold_11 rfl rfl ?_
    refine al_11M X (vp_28 n_w h3) d_me_hold_12 ?_
    refine lv_iconst (v := 1) X.1.1 X.1.2.1 d_me_hold_13 rfl ?_
    refine lv_iadd X.1.1 X.1.2.1 d_me_hold_14 ?_
    refine as_11M hI X (vp_28 n_w h3) d_me_hold_15 (fun H locs X => ?_)
    exact X.vret hr hlk d_me_hold_16 (by first | (simp only [hold, eq_false h3, if_true, if_false]; done) | (simp [hold, eq_false h3]; done) | (simp [hold, h3]; done) | rfl)
set_option maxHeartbeats 4000000 in
theorem c_me_releaseM {l : Launch} {D : va_G} {ad : Nat → Nat} {ci : Nat → ClassId} (hI : InjM ad) (σ : SS) (w : Int32) (n_w : 0 ≤ w.toInt) : Mv l y_me_release b_me_release 2 ({ frames := 0, cells := 0, slots := 0, locals := 0 } : Room) (EM D ad ci) [.ref (ad 1), .int w] σ (release σ w) := by
  refine Mv.start pn_me (Nat.le_of_ble_eq_true rfl) (fun zp ze zs zm zb zt zc ls X hr hlk L => ?_)
  have L : lv_has ls 2 [(0, .ref (ad 1)), (1, .int w)] := L
  refine lv_iload_n X.1.1 X.1.2.1 d_me_release_0 rfl (lv_at L 1 rfl) ?_
  refine lv_bipush (v := 28) X.1.1 X.1.2.1 d_me_release_1 rfl ?_
  refine lv_icmp_ge (tgt := 16) X.1.1 X.1.2.1 d_me_release_3 rfl (fun h3 => ?_) (fun h3 => ?_)
  · skip
    exact X.vret hr hlk d_me_release_16 (by first | (simp only [release, eq_true h3, if_true, if_false]; done) | (simp [release, eq_true h3]; done) | (simp [release, h3]; done) | rfl)
  · skip
    refine lv_aload_n X.1.1 X.1.2.1 d_me_release_6 rfl (lv_at L 0 rfl) ?_
    refine g_me_holdersM X d_me_release_7 ?_
    refine lv_iload_n X.1.1 X.1.2.1 d_me_release_10 rfl (lv_at L 1 rfl) ?_
    refine lv_dup2_11 X.1.1 X.1.2.1 d_me_release_11 rfl rfl ?_
    refine al_11M X (vp_28 n_w h3) d_me_release_12 ?_
    refine lv_iconst (v := 1) X.1.1 X.1.2.1 d_me_release_13 rfl ?_
    refine lv_isub X.1.1 X.1.2.1 d_me_release_14 ?_
    refine as_11M hI X (vp_28 n_w h3) d_me_release_15 (fun H locs X => ?_)
    exact X.vret hr hlk d_me_release_16 (by first | (simp only [release, eq_false h3, if_true, if_false]; done) | (simp [release, eq_false h3]; done) | (simp [release, h3]; done) | rfl)
set_option maxHeartbeats 4000000 in
theorem c_me_setFieldM {l : Launch} {D : va_G} {ad : Nat → Nat} {ci : Nat → ClassId} (hI : InjM ad) (σ : SS) (o k w : Int32) (h_o : vp_in o 28) (h_k : vp_in k 15) (hg : RG σ) (n_w : 0 ≤ w.toInt) : Mv l y_me_setField b_me_setField 4 ({ frames := 1, cells := 0, slots := 0, locals := 21 } : Room) (EM D ad ci) [.ref (ad 1), .int o, .int k, .int w] σ (setField σ o k w) := by
  refine Mv.start pn_me (Nat.le_of_ble_eq_true rfl) (fun zp ze zs zm zb zt zc ls X hr hlk L => ?_)
  have L : lv_has ls 4 [(0, .ref (ad 1)), (1, .int o), (2, .int k), (3, .int w)] := L
  refine lv_aload_n X.1.1 X.1.2.1 d_me_setField_0 rfl (lv_at L 0 rfl) ?_
  refine lv_aload_n X.1.1 X.1.2.1 d_me_setField_1 rfl (lv_at L 0 rfl) ?_
  refine g_me_fieldsM X d_me_setField_2 ?_
  refine lv_iload_n X.1.1 X.1.2.1 d_me_setField_5 rfl (lv_at L 1 rfl) ?_
  refine X.galdM (by assumption) d_me_setField_6 ?_
  refine lv_iload_n X.1.1 X.1.2.1 d_me_setField_7 rfl (lv_at L 2 rfl) ?_
  refine X.raldM (vp_ix h_o) h_k d_me_setField_8 ?_
  refine Mv.callV (k := 1) (c_me_releaseM hI _ _ (hg.grid h_o h_k)) X (gt_V mw_38 mw_40 ms_3 mw_2 mw_41) ok_me_release ⟨rfl, rfl, by decide, by decide⟩ (rc_meM X) rfl L.1 rfl (Nat.le_of_ble_eq_true rfl) d_me_setField_9 (fun H locs X => ?_)
  refine lv_aload_n X.1.1 X.1.2.1 d_me_setField_12 rfl (lv_at L 0 rfl) ?_
  refine g_me_fieldsM X d_me_setField_13 ?_
  refine lv_iload_n X.1.1 X.1.2.1 d_me_setField_16 rfl (lv_at L 1 rfl) ?_
  refine X.galdM (by assumption) d_me_setField_17 ?_
  refine lv_iload_n X.1.1 X.1.2.1 d_me_setField_18 rfl (lv_at L 2 rfl) ?_
  refine lv_iload_n X.1.1 X.1.2.1 d_me_setField_19 rfl (lv_at L 3 rfl) ?_
  refine X.rastM hI (vp_ix h_o) h_k d_me_setField_20 (fun H locs X => ?_)
  refine lv_aload_n X.1.1 X.1.2.1 d_me_setField_21 rfl (lv_at L 0 rfl) ?_
  refine lv_iload_n X.1.1 X.1.2.1 d_me_setField_22 rfl (lv_at L 3 rfl) ?_
  refine Mv.callV (k := 1) (c_me_holdM hI _ _ (by first | assumption | omega)) X (gt_V mw_26 mw_28 ms_1 mw_2 mw_29) ok_me_hold ⟨rfl, rfl, by decide, by decide⟩ (rc_meM X) rfl L.1 rfl (Nat.le_of_ble_eq_true rfl) d_me_setField_23 (fun H locs X => ?_)
  exact X.vret hr hlk d_me_setField_26 (by first | with_reducible rfl | (simp only [setField]; done) | rfl)
set_option maxHeartbeats 4000000 in
theorem c_me_wakeM {l : Launch} {D : va_G} {ad : Nat → Nat} {ci : Nat → ClassId} (hI : InjM ad) (σ : SS) (o c n : Int32) (h_o : vp_in o 28) (n_c : 0 ≤ c.toInt) : Mv l y_me_wake b_me_wake 4 ({ frames := 1, cells := 0, slots := 0, locals := 21 } : Room) (EM D ad ci) [.ref (ad 1), .int o, .int c, .int n] σ (wake σ o c n) := by
  refine Mv.start pn_me (Nat.le_of_ble_eq_true rfl) (fun zp ze zs zm zb zt zc ls X hr hlk L => ?_)
  have L : lv_has ls 4 [(0, .ref (ad 1)), (1, .int o), (2, .int c), (3, .int n)] := L
  refine lv_aload_n X.1.1 X.1.2.1 d_me_wake_0 rfl (lv_at L 0 rfl) ?_
  refine g_me_livingM X d_me_wake_1 ?_
  refine lv_iload_n X.1.1 X.1.2.1 d_me_wake_4 rfl (lv_at L 1 rfl) ?_
  refine lv_iconst (v := 1) X.1.1 X.1.2.1 d_me_wake_5 rfl ?_
  refine as_4M hI X (by assumption) rfl d_me_wake_6 (fun H locs X => ?_)
  refine lv_aload_n X.1.1 X.1.2.1 d_me_wake_7 rfl (lv_at L 0 rfl) ?_
  refine g_me_classInM X d_me_wake_8 ?_
  refine lv_iload_n X.1.1 X.1.2.1 d_me_wake_11 rfl (lv_at L 1 rfl) ?_
  refine lv_iload_n X.1.1 X.1.2.1 d_me_wake_12 rfl (lv_at L 2 rfl) ?_
  refine as_7M hI X (by assumption) d_me_wake_13 (fun H locs X => ?_)
  refine lv_aload_n X.1.1 X.1.2.1 d_me_wake_14 rfl (lv_at L 0 rfl) ?_
  refine g_me_fieldsInM X d_me_wake_15 ?_
  refine lv_iload_n X.1.1 X.1.2.1 d_me_wake_18 rfl (lv_at L 1 rfl) ?_
  refine lv_iload_n X.1.1 X.1.2.1 d_me_wake_19 rfl (lv_at L 3 rfl) ?_
  refine as_8M hI X (by assumption) d_me_wake_20 (fun H locs X => ?_)
  refine lv_aload_n X.1.1 X.1.2.1 d_me_wake_21 rfl (lv_at L 0 rfl) ?_
  refine lv_iload_n X.1.1 X.1.2.1 d_me_wake_22 rfl (lv_at L 2 rfl) ?_
  refine Mv.callV (k := 1) (c_me_holdM hI _ _ (by first | assumption | omega)) X (gt_V mw_26 mw_28 ms_1 mw_2 mw_29) ok_me_hold ⟨rfl, rfl, by decide, by decide⟩ (rc_meM X) rfl L.1 rfl (Nat.le_of_ble_eq_true rfl) d_me_wake_23 (fun H locs X => ?_)
  refine lv_aload_n X.1.1 X.1.2.1 d_me_wake_26 rfl (lv_at L 0 rfl) ?_
  refine g_me_holdersM X d_me_wake_27 ?_
  refine lv_iconst (v := 0) X.1.1 X.1.2.1 d_me_wake_30 rfl ?_
  refine lv_dup2_11 X.1.1 X.1.2.1 d_me_wake_31 rfl rfl ?_
  refine al_11M X vp_0 d_me_wake_32 ?_
  refine lv_iload_n X.1.1 X.1.2.1 d_me_wake_33 rfl (lv_at L 3 rfl) ?_
  refine lv_iadd X.1.1 X.1.2.1 d_me_wake_34 ?_
  refine as_11M hI X vp_0 d_me_wake_35 (fun H locs X => ?_)
  exact X.vret hr hlk d_me_wake_36 (by first | with_reducible rfl | (simp only [wake, wake1]; done) | rfl)
set_option maxHeartbeats 4000000 in
theorem c_me_wakeClassM {l : Launch} {D : va_G} {ad : Nat → Nat} {ci : Nat → ClassId} (hI : InjM ad) (σ : SS) (o s z : Int32) (h_o : vp_in o 28) (n_s : 0 ≤ s.toInt) (hg : RG σ) (hz : 0 ≤ z.toInt ∧ z.toInt ≤ 6) : Mv l y_me_wakeClass b_me_wakeClass 4 ({ frames := 2, cells := 0, slots := 0, locals := 44 } : Room) (EM D ad ci) [.ref (ad 1), .int o, .int s, .int z] σ (wakeClass σ o s z) := by
  refine Mv.start pn_me (Nat.le_of_ble_eq_true rfl) (fun zp ze zs zm zb zt zc ls X hr hlk L => ?_)
  have L : lv_has ls 4 [(0, .ref (ad 1)), (1, .int o), (2, .int s), (3, .int z)] := L
  refine lv_aload_n X.1.1 X.1.2.1 d_me_wakeClass_0 rfl (lv_at L 0 rfl) ?_
  refine lv_iload_n X.1.1 X.1.2.1 d_me_wakeClass_1 rfl (lv_at L 1 rfl) ?_
  refine lv_iconst (v := 1) X.1.1 X.1.2.1 d_me_wakeClass_2 rfl ?_
  refine lv_iconst (v := 1) X.1.1 X.1.2.1 d_me_wakeClass_3 rfl ?_
  refine Mv.callV (k := 3) (c_me_wakeM hI _ _ _ _ h_o (by decide)) X (gt_V mw_22 mw_24 ms_0 mw_2 mw_25) ok_me_wake ⟨rfl, rfl, by decide, by decide⟩ (rc_meM X) rfl L.1 rfl (Nat.le_of_ble_eq_true rfl) d_me_wakeClass_4 (fun H locs X => ?_)
  refine lv_aload_n X.1.1 X.1.2.1 d_me_wakeClass_7 rfl (lv_at L 0 rfl) ?_
  refine g_me_classesM X d_me_wakeClass_8 ?_
  refine lv_iload_n X.1.1 X.1.2.1 d_me_wakeClass_11 rfl (lv_at L 1 rfl) ?_
  refine lv_iconst (v := 1) X.1.1 X.1.2.1 d_me_wakeClass_12 rfl ?_
  refine as_6M hI X (by assumption) rfl d_me_wakeClass_13 (fun H locs X => ?_)
  refine lv_aload_n X.1.1 X.1.2.1 d_me_wakeClass_14 rfl (lv_at L 0 rfl) ?_
  refine g_me_sizesM X d_me_wakeClass_15 ?_
  refine lv_iload_n X.1.1 X.1.2.1 d_me_wakeClass_18 rfl (lv_at L 1 rfl) ?_
  refine lv_iload_n X.1.1 X.1.2.1 d_me_wakeClass_19 rfl (lv_at L 3 rfl) ?_
  refine as_9M hI X (by assumption) d_me_wakeClass_20 (fun H locs X => ?_)
  refine lv_aload_n X.1.1 X.1.2.1 d_me_wakeClass_21 rfl (lv_at L 0 rfl) ?_
  refine lv_iload_n X.1.1 X.1.2.1 d_me_wakeClass_22 rfl (lv_at L 1 rfl) ?_
  refine lv_iconst (v := 0) X.1.1 X.1.2.1 d_me_wakeClass_23 rfl ?_
  refine lv_iload_n X.1.1 X.1.2.1 d_me_wakeClass_24 rfl (lv_at L 2 rfl) ?_
  refine Mv.callV (k := 3) (c_me_setFieldM hI _ _ _ _ h_o (vpc (by decide)) (RG_9 (RG_A (RG_wake hg _ (vpc (by decide)) (by decide)) (by decide) _ _) _ hz) n_s) X (gt_V mw_34 mw_35 mw_36 mw_2 mw_37) ok_me_setField ⟨rfl, rfl, by decide, by decide⟩ (rc_meM X) rfl L.1 rfl (Nat.le_of_ble_eq_true rfl) d_me_wakeClass_25 (fun H locs X => ?_)
  exact X.vret hr hlk d_me_wakeClass_28 (by first | with_reducible rfl | (simp only [wakeClass]; done) | rfl)
set_option maxHeartbeats 4000000 in
theorem c_me_stickM {l : Launch} {D : va_G} {ad : Nat → Nat} {ci : Nat → ClassId} (hI : InjM ad) (σ : SS)   : Mv l y_me_stick b_me_stick 2 ({ frames := 0, cells := 0, slots := 0, locals := 0 } : Room) (EM D ad ci) [.ref (ad 1)] σ (stick σ) := by
  refine Mv.start pn_me (Nat.le_of_ble_eq_true rfl) (fun zp ze zs zm zb zt zc ls X hr hlk L => ?_)
  have L : lv_has ls 2 [(0, .ref (ad 1))] := L
  refine lv_iconst (v := 0) X.1.1 X.1.2.1 d_me_stick_0 rfl ?_
  refine lv_istore_n (lv' := [(1, .int _), (0, .ref _)]) X.1.1 X.1.2.1 d_me_stick_1 rfl L (by decide) rfl (fun ls L => ?_)
  have loop2 : ∀ (n : Nat) (k : Nat) (σ1 : SS) (H : Heap) (locs : List Loc) (ls : Array Slot), (k + n = 28) → (stickL n k σ1 = stick σ) → Cx (EM D ad ci) zp zs zm (([.ref (ad 1)] : List Value).toArray) zc b_me_stick 2 "MessageMachine$Memory" H locs σ1 → lv_has ls 2 [(1, .int (nI k)), (0, .ref (ad 1))] → W zp l ze ({ frames := 0, cells := 0, slots := 0, locals := 0 } : Room) zs zm (([.ref (ad 1)] : List Value).toArray) zb zt zc H locs 0 0 (MQ zb (va_Qv (fun (u : SS) => u = (stick σ)) (fun u t => Pq (EM D ad ci) u t) (EM D ad ci).2.2.2) (([.ref (ad 1)] : List Value).toArray) zs 0 0 (EM D ad ci).2.2.2) (F0 zm 2 ls []) := by
    intro n
    induction n with
    | zero =>
      intro k σ1 H locs ls hk hq X L
      refine lv_iload_n X.1.1 X.1.2.1 d_me_stick_2 rfl (lv_at L 0 rfl) ?_
      refine lv_bipush (v := 28) X.1.1 X.1.2.1 d_me_stick_3 rfl ?_
      refine lv_icmp_ge (tgt := 41) X.1.1 X.1.2.1 d_me_stick_5 rfl (fun h5 => ?_) (fun h5 => ?_)
      · skip
        exact X.vret hr hlk d_me_stick_41 hq
      · skip
        exact absurd ((le28N (by omega)).mpr (by omega)) h5
    | succ n ih =>
      intro k σ1 H locs ls hk hq X L
      refine lv_iload_n X.1.1 X.1.2.1 d_me_stick_2 rfl (lv_at L 0 rfl) ?_
      refine lv_bipush (v := 28) X.1.1 X.1.2.1 d_me_stick_3 rfl ?_
      refine lv_icmp_ge (tgt := 41) X.1.1 X.1.2.1 d_me_stick_5 rfl (fun h5 => ?_) (fun h5 => ?_)
      · skip
        exact absurd ((le28N (by omega)).mp h5) (by omega)
      · skip
        refine lv_aload_n X.1.1 X.1.2.1 d_me_stick_8 rfl (lv_at L 1 rfl) ?_
        refine g_me_livingM X d_me_stick_9 ?_
        refine lv_iload_n X.1.1 X.1.2.1 d_me_stick_12 rfl (lv_at L 0 rfl) ?_
        refine al_4M X (vp_k (by omega) (by decide)) d_me_stick_13 ?_
        refine lv_if_eq (tgt := 35) X.1.1 X.1.2.1 d_me_stick_14 rfl (fun h14 => ?_) (fun h14 => ?_)
        · skip
          refine lv_iinc (k := 0) (lv' := [(1, .int (nI (k + 1))), (0, .ref _)]) X.1.1 X.1.2.1 d_me_stick_35 L rfl (nI_inc k) (by decide) rfl (fun ls L => ?_)
          refine lv_goto (tgt := 2) X.1.1 X.1.2.1 d_me_stick_38 rfl ?_
          exact ih (k + 1) _ _ _ _ (by omega) (by rw [← hq, stickL]; simp only [eq_false h5, eq_true h14, if_true, if_false]) X L
        · skip
          refine lv_aload_n X.1.1 X.1.2.1 d_me_stick_17 rfl (lv_at L 1 rfl) ?_
          refine g_me_holdersM X d_me_stick_18 ?_
          refine lv_iload_n X.1.1 X.1.2.1 d_me_stick_21 rfl (lv_at L 0 rfl) ?_
          refine al_11M X (vp_k (by omega) (by decide)) d_me_stick_22 ?_
          refine lv_bipush (v := 6) X.1.1 X.1.2.1 d_me_stick_23 rfl ?_
          refine lv_icmp_lt (tgt := 35) X.1.1 X.1.2.1 d_me_stick_25 rfl (fun h25 => ?_) (fun h25 => ?_)
          · skip
            refine lv_iinc (k := 0) (lv' := [(1, .int (nI (k + 1))), (0, .ref _)]) X.1.1 X.1.2.1 d_me_stick_35 L rfl (nI_inc k) (by decide) rfl (fun ls L => ?_)
            refine lv_goto (tgt := 2) X.1.1 X.1.2.1 d_me_stick_38 rfl ?_
            exact ih (k + 1) _ _ _ _ (by omega) (by rw [← hq, stickL]; simp only [eq_false h5, eq_false h14, eq_true h25, if_true, if_false]) X L
          · skip
            refine lv_aload_n X.1.1 X.1.2.1 d_me_stick_28 rfl (lv_at L 1 rfl) ?_
            refine g_me_stuckM X d_me_stick_29 ?_
            refine lv_iload_n X.1.1 X.1.2.1 d_me_stick_32 rfl (lv_at L 0 rfl) ?_
            refine lv_iconst (v := 1) X.1.1 X.1.2.1 d_me_stick_33 rfl ?_
            refine as_5M hI X (vp_k (by omega) (by decide)) rfl d_me_stick_34 (fun H locs X => ?_)
            refine lv_iinc (k := 0) (lv' := [(1, .int (nI (k + 1))), (0, .ref _)]) X.1.1 X.1.2.1 d_me_stick_35 L rfl (nI_inc k) (by decide) rfl (fun ls L => ?_)
            refine lv_goto (tgt := 2) X.1.1 X.1.2.1 d_me_stick_38 rfl ?_
            exact ih (k + 1) _ _ _ _ (by omega) (by rw [← hq, stickL]; simp only [eq_false h5, eq_false h14, eq_false h25, if_true, if_false]) X L
  exact loop2 28 0 σ _ _ _ (by omega) rfl X L
