set_option maxHeartbeats 4000000 in
theorem c_rf_at {l : Launch} {D : va_G} {ad : Nat → Nat} {ci : Nat → ClassId} (hI : InjR ad) (σ : SS) (k : Int32) (hm : RGm σ) (h_k : vp_in k 15) : Mi l y_rf_at b_rf_at 2 (some .int) ({ frames := 0, cells := 0, slots := 0, locals := 0 } : Room) (ER D ad ci) [.ref (ad 0), .int k] σ (atM σ k) (σ) := by
  refine Mi.start pn_rf (Nat.le_of_ble_eq_true rfl) (fun zp ze zs zm zb zt zc ls X hr hlk L => ?_)
  have L : lv_has ls 2 [(0, .ref (ad 0)), (1, .int k)] := L
  refine lv_aload_n X.1.1 X.1.2.1 d_rf_at_0 rfl (lv_at L 0 rfl) ?_
  refine g_rf_word X d_rf_at_1 ?_
  refine lv_bipush (v := 15) X.1.1 X.1.2.1 d_rf_at_4 rfl ?_
  refine lv_aload_n X.1.1 X.1.2.1 d_rf_at_6 rfl (lv_at L 0 rfl) ?_
  refine g_rf_active X d_rf_at_7 ?_
  refine lv_imul X.1.1 X.1.2.1 d_rf_at_10 ?_
  refine lv_iload_n X.1.1 X.1.2.1 d_rf_at_11 rfl (lv_at L 1 rfl) ?_
  refine lv_iadd X.1.1 X.1.2.1 d_rf_at_12 ?_
  refine rl_5 X (wiv hm.ac h_k) d_rf_at_13 ?_
  exact X.iret hr hlk d_rf_at_14 rfl rfl
set_option maxHeartbeats 4000000 in
theorem c_rf_fromTop {l : Launch} {D : va_G} {ad : Nat → Nat} {ci : Nat → ClassId} (hI : InjR ad) (σ : SS) (k : Int32) (hm : RGm σ) (h0 : 0 ≤ k.toInt) (h1 : k.toInt + 1 ≤ (tpM σ).toInt) : Mi l y_rf_fromTop b_rf_fromTop 2 (some .int) ({ frames := 1, cells := 0, slots := 0, locals := 21 } : Room) (ER D ad ci) [.ref (ad 0), .int k] σ (fromTopM σ k) (σ) := by
  refine Mi.start pn_rf (Nat.le_of_ble_eq_true rfl) (fun zp ze zs zm zb zt zc ls X hr hlk L => ?_)
  have L : lv_has ls 2 [(0, .ref (ad 0)), (1, .int k)] := L
  refine lv_aload_n X.1.1 X.1.2.1 d_rf_fromTop_0 rfl (lv_at L 0 rfl) ?_
  refine lv_bipush (v := 9) X.1.1 X.1.2.1 d_rf_fromTop_1 rfl ?_
  refine lv_aload_n X.1.1 X.1.2.1 d_rf_fromTop_3 rfl (lv_at L 0 rfl) ?_
  refine g_rf_top X d_rf_fromTop_4 ?_
  refine lv_aload_n X.1.1 X.1.2.1 d_rf_fromTop_7 rfl (lv_at L 0 rfl) ?_
  refine g_rf_active X d_rf_fromTop_8 ?_
  refine rl_11 X hm.ac d_rf_fromTop_11 ?_
  refine lv_iadd X.1.1 X.1.2.1 d_rf_fromTop_12 ?_
  refine lv_iconst (v := 1) X.1.1 X.1.2.1 d_rf_fromTop_13 rfl ?_
  refine lv_isub X.1.1 X.1.2.1 d_rf_fromTop_14 ?_
  refine lv_iload_n X.1.1 X.1.2.1 d_rf_fromTop_15 rfl (lv_at L 1 rfl) ?_
  refine lv_isub X.1.1 X.1.2.1 d_rf_fromTop_16 ?_
  refine Mi.callV (k := 1) (c_rf_at hI _ _ hm (hm.ti h0 h1)) X (gt_V mw_672 mw_674 ms_43 mw_5 mw_675) ok_rf_at ⟨rfl, rfl, by decide, by decide⟩ (rc_rf X) rfl L.1 rfl (Nat.le_of_ble_eq_true rfl) d_rf_fromTop_17 (fun H locs X => ?_)
  exact X.iret hr hlk d_rf_fromTop_20 rfl rfl
set_option maxHeartbeats 4000000 in
theorem c_rf_push {l : Launch} {D : va_G} {ad : Nat → Nat} {ci : Nat → ClassId} (hI : InjR ad) (σ : SS) (w : Int32) (hm : RGm σ) (h6 : (tpM σ).toInt < 6) : Mv l y_rf_push b_rf_push 2 ({ frames := 0, cells := 0, slots := 0, locals := 0 } : Room) (ER D ad ci) [.ref (ad 0), .int w] σ (pushM σ w) := by
  refine Mv.start pn_rf (Nat.le_of_ble_eq_true rfl) (fun zp ze zs zm zb zt zc ls X hr hlk L => ?_)
  have L : lv_has ls 2 [(0, .ref (ad 0)), (1, .int w)] := L
  refine lv_aload_n X.1.1 X.1.2.1 d_rf_push_0 rfl (lv_at L 0 rfl) ?_
  refine g_rf_word X d_rf_push_1 ?_
  refine lv_bipush (v := 15) X.1.1 X.1.2.1 d_rf_push_4 rfl ?_
  refine lv_aload_n X.1.1 X.1.2.1 d_rf_push_6 rfl (lv_at L 0 rfl) ?_
  refine g_rf_active X d_rf_push_7 ?_
  refine lv_imul X.1.1 X.1.2.1 d_rf_push_10 ?_
  refine lv_bipush (v := 9) X.1.1 X.1.2.1 d_rf_push_11 rfl ?_
  refine lv_iadd X.1.1 X.1.2.1 d_rf_push_13 ?_
  refine lv_aload_n X.1.1 X.1.2.1 d_rf_push_14 rfl (lv_at L 0 rfl) ?_
  refine g_rf_top X d_rf_push_15 ?_
  refine lv_aload_n X.1.1 X.1.2.1 d_rf_push_18 rfl (lv_at L 0 rfl) ?_
  refine g_rf_active X d_rf_push_19 ?_
  refine rl_11 X hm.ac d_rf_push_22 ?_
  refine lv_iadd X.1.1 X.1.2.1 d_rf_push_23 ?_
  refine lv_iload_n X.1.1 X.1.2.1 d_rf_push_24 rfl (lv_at L 1 rfl) ?_
  refine rs_5 hI X (w9v hm.ac (hm.t6 h6)) d_rf_push_25 (fun H locs X => ?_)
  refine lv_aload_n X.1.1 X.1.2.1 d_rf_push_26 rfl (lv_at L 0 rfl) ?_
  refine g_rf_top X d_rf_push_27 ?_
  refine lv_aload_n X.1.1 X.1.2.1 d_rf_push_30 rfl (lv_at L 0 rfl) ?_
  refine g_rf_active X d_rf_push_31 ?_
  refine lv_dup2_11 X.1.1 X.1.2.1 d_rf_push_34 rfl rfl ?_
  refine rl_11 X hm.ac d_rf_push_35 ?_
  refine lv_iconst (v := 1) X.1.1 X.1.2.1 d_rf_push_36 rfl ?_
  refine lv_iadd X.1.1 X.1.2.1 d_rf_push_37 ?_
  refine rs_11 hI X hm.ac d_rf_push_38 (fun H locs X => ?_)
  exact X.vret hr hlk d_rf_push_39 rfl
set_option maxHeartbeats 4000000 in
theorem c_rf_pop {l : Launch} {D : va_G} {ad : Nat → Nat} {ci : Nat → ClassId} (hI : InjR ad) (σ : SS)  (hm : RGm σ) (h1 : 1 ≤ (tpM σ).toInt) : Mv l y_rf_pop b_rf_pop 1 ({ frames := 0, cells := 0, slots := 0, locals := 0 } : Room) (ER D ad ci) [.ref (ad 0)] σ (popM σ) := by
  refine Mv.start pn_rf (Nat.le_of_ble_eq_true rfl) (fun zp ze zs zm zb zt zc ls X hr hlk L => ?_)
  have L : lv_has ls 1 [(0, .ref (ad 0))] := L
  refine lv_aload_n X.1.1 X.1.2.1 d_rf_pop_0 rfl (lv_at L 0 rfl) ?_
  refine g_rf_top X d_rf_pop_1 ?_
  refine lv_aload_n X.1.1 X.1.2.1 d_rf_pop_4 rfl (lv_at L 0 rfl) ?_
  refine g_rf_active X d_rf_pop_5 ?_
  refine lv_dup2_11 X.1.1 X.1.2.1 d_rf_pop_8 rfl rfl ?_
  refine rl_11 X hm.ac d_rf_pop_9 ?_
  refine lv_iconst (v := 1) X.1.1 X.1.2.1 d_rf_pop_10 rfl ?_
  refine lv_isub X.1.1 X.1.2.1 d_rf_pop_11 ?_
  refine rs_11 hI X hm.ac d_rf_pop_12 (fun H locs X => ?_)
  refine lv_aload_n X.1.1 X.1.2.1 d_rf_pop_13 rfl (lv_at L 0 rfl) ?_
  refine g_rf_word X d_rf_pop_14 ?_
  refine lv_bipush (v := 15) X.1.1 X.1.2.1 d_rf_pop_17 rfl ?_
  refine lv_aload_n X.1.1 X.1.2.1 d_rf_pop_19 rfl (lv_at L 0 rfl) ?_
  refine g_rf_active X d_rf_pop_20 ?_
  refine lv_imul X.1.1 X.1.2.1 d_rf_pop_23 ?_
  refine lv_bipush (v := 9) X.1.1 X.1.2.1 d_rf_pop_24 rfl ?_
  refine lv_iadd X.1.1 X.1.2.1 d_rf_pop_26 ?_
  refine lv_aload_n X.1.1 X.1.2.1 d_rf_pop_27 rfl (lv_at L 0 rfl) ?_
  refine g_rf_top X d_rf_pop_28 ?_
  refine lv_aload_n X.1.1 X.1.2.1 d_rf_pop_31 rfl (lv_at L 0 rfl) ?_
  refine g_rf_active X d_rf_pop_32 ?_
  refine rl_11 X hm.ac d_rf_pop_35 ?_
  refine lv_iadd X.1.1 X.1.2.1 d_rf_pop_36 ?_
  refine lv_iconst (v := 0) X.1.1 X.1.2.1 d_rf_pop_37 rfl ?_
  refine rs_5 hI X (w9v hm.ac (by show vp_in (upd (σ.1 11) (ix (σ.1 20 0)) (tpM σ - 1) (ix (σ.1 20 0))) 6; rw [pk_us]; exact hm.t5 h1)) d_rf_pop_38 (fun H locs X => ?_)
  exact X.vret hr hlk d_rf_pop_39 (congrArg (fun z => sA (pop1M σ) 5 (ix (15 * acM σ + 9 + z)) 0) (show upd (σ.1 11) (ix (σ.1 20 0)) (tpM σ - 1) (ix (σ.1 20 0)) = tpM σ - 1 from pk_us))
set_option maxHeartbeats 4000000 in
theorem c_rf_jump {l : Launch} {D : va_G} {ad : Nat → Nat} {ci : Nat → ClassId} (hI : InjR ad) (σ : SS) (q : Int32) (hm : RGm σ) : Mv l y_rf_jump b_rf_jump 2 ({ frames := 0, cells := 0, slots := 0, locals := 0 } : Room) (ER D ad ci) [.ref (ad 0), .int q] σ (jumpM σ q) := by
  refine Mv.start pn_rf (Nat.le_of_ble_eq_true rfl) (fun zp ze zs zm zb zt zc ls X hr hlk L => ?_)
  have L : lv_has ls 2 [(0, .ref (ad 0)), (1, .int q)] := L
  refine lv_aload_n X.1.1 X.1.2.1 d_rf_jump_0 rfl (lv_at L 0 rfl) ?_
  refine g_rf_word X d_rf_jump_1 ?_
  refine lv_bipush (v := 15) X.1.1 X.1.2.1 d_rf_jump_4 rfl ?_
  refine lv_aload_n X.1.1 X.1.2.1 d_rf_jump_6 rfl (lv_at L 0 rfl) ?_
  refine g_rf_active X d_rf_jump_7 ?_
  refine lv_imul X.1.1 X.1.2.1 d_rf_jump_10 ?_
  refine lv_iconst (v := 4) X.1.1 X.1.2.1 d_rf_jump_11 rfl ?_
  refine lv_iadd X.1.1 X.1.2.1 d_rf_jump_12 ?_
  refine lv_sipush (v := 1000) X.1.1 X.1.2.1 d_rf_jump_13 rfl ?_
  refine lv_iload_n X.1.1 X.1.2.1 d_rf_jump_16 rfl (lv_at L 1 rfl) ?_
  refine lv_iadd X.1.1 X.1.2.1 d_rf_jump_17 ?_
  refine rs_5 hI X (wiv hm.ac (vpc (by decide))) d_rf_jump_18 (fun H locs X => ?_)
  exact X.vret hr hlk d_rf_jump_19 rfl
set_option maxHeartbeats 4000000 in
theorem c_rf_needs {l : Launch} {D : va_G} {ad : Nat → Nat} {ci : Nat → ClassId} (hI : InjR ad) (σ : SS) (p a : Int32)  : Mi l y_rf_needs b_rf_needs 2 (some .int) ({ frames := 0, cells := 0, slots := 0, locals := 0 } : Room) (ER D ad ci) [.int p, .int a] σ (needsM p a) (σ) := by
  refine Mi.start pn_rf (Nat.le_of_ble_eq_true rfl) (fun zp ze zs zm zb zt zc ls X hr hlk L => ?_)
  have L : lv_has ls 2 [(0, .int p), (1, .int a)] := L
  refine lv_iload_n X.1.1 X.1.2.1 d_rf_needs_0 rfl (lv_at L 0 rfl) ?_
  by_cases q1_3 : p = 3
  · refine lv_tableIn (tgt := 60) X.1.1 X.1.2.1 d_rf_needs_1 (by rw [q1_3]; decide) (by rw [q1_3]; decide) (by rw [q1_3]; rfl) rfl ?_
    refine lv_iconst (v := 1) X.1.1 X.1.2.1 d_rf_needs_60 rfl ?_
    exact X.iret hr hlk d_rf_needs_61 (by first | (simp only [needsM, argumentsOf, eq_true q1_3, if_true, if_false]; done) | (simp [needsM, argumentsOf, eq_true q1_3]; done) | (simp [needsM, argumentsOf, q1_3]; done) | rfl) rfl
  by_cases q1_4 : p = 4
  · refine lv_tableIn (tgt := 60) X.1.1 X.1.2.1 d_rf_needs_1 (by rw [q1_4]; decide) (by rw [q1_4]; decide) (by rw [q1_4]; rfl) rfl ?_
    refine lv_iconst (v := 1) X.1.1 X.1.2.1 d_rf_needs_60 rfl ?_
    exact X.iret hr hlk d_rf_needs_61 (by first | (simp only [needsM, argumentsOf, eq_false q1_3, eq_true q1_4, if_true, if_false]; done) | (simp [needsM, argumentsOf, eq_false q1_3, eq_true q1_4]; done) | (simp [needsM, argumentsOf, q1_3, q1_4]; done) | rfl) rfl
  by_cases q1_5 : p = 5
  · refine lv_tableIn (tgt := 62) X.1.1 X.1.2.1 d_rf_needs_1 (by rw [q1_5]; decide) (by rw [q1_5]; decide) (by rw [q1_5]; rfl) rfl ?_
    refine lv_iload_n X.1.1 X.1.2.1 d_rf_needs_62 rfl (lv_at L 1 rfl) ?_
    refine lv_iconst (v := 3) X.1.1 X.1.2.1 d_rf_needs_63 rfl ?_
    refine lv_irem X.1.1 X.1.2.1 d_rf_needs_64 (by decide) ?_
    refine lv_iconst (v := 1) X.1.1 X.1.2.1 d_rf_needs_65 rfl ?_
    refine lv_iadd X.1.1 X.1.2.1 d_rf_needs_66 ?_
    exact X.iret hr hlk d_rf_needs_67 (by first | (simp only [needsM, argumentsOf, eq_false q1_3, eq_false q1_4, eq_true q1_5, if_true, if_false]; done) | (simp [needsM, argumentsOf, eq_false q1_3, eq_false q1_4, eq_true q1_5]; done) | (simp [needsM, argumentsOf, q1_3, q1_4, q1_5]; done) | rfl) rfl
  by_cases q1_6 : p = 6
  · refine lv_tableIn (tgt := 62) X.1.1 X.1.2.1 d_rf_needs_1 (by rw [q1_6]; decide) (by rw [q1_6]; decide) (by rw [q1_6]; rfl) rfl ?_
    refine lv_iload_n X.1.1 X.1.2.1 d_rf_needs_62 rfl (lv_at L 1 rfl) ?_
    refine lv_iconst (v := 3) X.1.1 X.1.2.1 d_rf_needs_63 rfl ?_
    refine lv_irem X.1.1 X.1.2.1 d_rf_needs_64 (by decide) ?_
    refine lv_iconst (v := 1) X.1.1 X.1.2.1 d_rf_needs_65 rfl ?_
    refine lv_iadd X.1.1 X.1.2.1 d_rf_needs_66 ?_
    exact X.iret hr hlk d_rf_needs_67 (by first | (simp only [needsM, argumentsOf, eq_false q1_3, eq_false q1_4, eq_false q1_5, eq_true q1_6, if_true, if_false]; done) | (simp [needsM, argumentsOf, eq_false q1_3, eq_false q1_4, eq_false q1_5, eq_true q1_6]; done) | (simp [needsM, argumentsOf, q1_3, q1_4, q1_5, q1_6]; done) | rfl) rfl
  by_cases q1_7 : p = 7
  · refine lv_tableIn (tgt := 68) X.1.1 X.1.2.1 d_rf_needs_1 (by rw [q1_7]; decide) (by rw [q1_7]; decide) (by rw [q1_7]; rfl) rfl ?_
    refine lv_iconst (v := 2) X.1.1 X.1.2.1 d_rf_needs_68 rfl ?_
    exact X.iret hr hlk d_rf_needs_69 (by first | (simp only [needsM, argumentsOf, eq_false q1_3, eq_false q1_4, eq_false q1_5, eq_false q1_6, eq_true q1_7, if_true, if_false]; done) | (simp [needsM, argumentsOf, eq_false q1_3, eq_false q1_4, eq_false q1_5, eq_false q1_6, eq_true q1_7]; done) | (simp [needsM, argumentsOf, q1_3, q1_4, q1_5, q1_6, q1_7]; done) | rfl) rfl
  by_cases q1_8 : p = 8
  · refine lv_tableIn (tgt := 91) X.1.1 X.1.2.1 d_rf_needs_1 (by rw [q1_8]; decide) (by rw [q1_8]; decide) (by rw [q1_8]; rfl) rfl ?_
    refine lv_iconst (v := 0) X.1.1 X.1.2.1 d_rf_needs_91 rfl ?_
    exact X.iret hr hlk d_rf_needs_92 (by first | (simp only [needsM, argumentsOf, eq_false q1_3, eq_false q1_4, eq_false q1_5, eq_false q1_6, eq_false q1_7, eq_true q1_8, if_true, if_false]; done) | (simp [needsM, argumentsOf, eq_false q1_3, eq_false q1_4, eq_false q1_5, eq_false q1_6, eq_false q1_7, eq_true q1_8]; done) | (simp [needsM, argumentsOf, q1_3, q1_4, q1_5, q1_6, q1_7, q1_8]; done) | rfl) rfl
  by_cases q1_9 : p = 9
  · refine lv_tableIn (tgt := 60) X.1.1 X.1.2.1 d_rf_needs_1 (by rw [q1_9]; decide) (by rw [q1_9]; decide) (by rw [q1_9]; rfl) rfl ?_
    refine lv_iconst (v := 1) X.1.1 X.1.2.1 d_rf_needs_60 rfl ?_
    exact X.iret hr hlk d_rf_needs_61 (by first | (simp only [needsM, argumentsOf, eq_false q1_3, eq_false q1_4, eq_false q1_5, eq_false q1_6, eq_false q1_7, eq_false q1_8, eq_true q1_9, if_true, if_false]; done) | (simp [needsM, argumentsOf, eq_false q1_3, eq_false q1_4, eq_false q1_5, eq_false q1_6, eq_false q1_7, eq_false q1_8, eq_true q1_9]; done) | (simp [needsM, argumentsOf, q1_3, q1_4, q1_5, q1_6, q1_7, q1_8, q1_9]; done) | rfl) rfl
  by_cases q1_10 : p = 10
  · refine lv_tableIn (tgt := 91) X.1.1 X.1.2.1 d_rf_needs_1 (by rw [q1_10]; decide) (by rw [q1_10]; decide) (by rw [q1_10]; rfl) rfl ?_
    refine lv_iconst (v := 0) X.1.1 X.1.2.1 d_rf_needs_91 rfl ?_
    exact X.iret hr hlk d_rf_needs_92 (by first | (simp only [needsM, argumentsOf, eq_false q1_3, eq_false q1_4, eq_false q1_5, eq_false q1_6, eq_false q1_7, eq_false q1_8, eq_false q1_9, eq_true q1_10, if_true, if_false]; done) | (simp [needsM, argumentsOf, eq_false q1_3, eq_false q1_4, eq_false q1_5, eq_false q1_6, eq_false q1_7, eq_false q1_8, eq_false q1_9, eq_true q1_10]; done) | (simp [needsM, argumentsOf, q1_3, q1_4, q1_5, q1_6, q1_7, q1_8, q1_9, q1_10]; done) | rfl) rfl
  by_cases q1_11 : p = 11
  · refine lv_tableIn (tgt := 70) X.1.1 X.1.2.1 d_rf_needs_1 (by rw [q1_11]; decide) (by rw [q1_11]; decide) (by rw [q1_11]; rfl) rfl ?_
    refine lv_iload_n X.1.1 X.1.2.1 d_rf_needs_70 rfl (lv_at L 1 rfl) ?_
    refine lv_if_ne (tgt := 78) X.1.1 X.1.2.1 d_rf_needs_71 rfl (fun h71 => ?_) (fun h71 => ?_)
    · skip
      refine lv_iconst (v := 0) X.1.1 X.1.2.1 d_rf_needs_78 rfl ?_
      exact X.iret hr hlk d_rf_needs_79 (by first | (simp only [needsM, argumentsOf, eq_false q1_3, eq_false q1_4, eq_false q1_5, eq_false q1_6, eq_false q1_7, eq_false q1_8, eq_false q1_9, eq_false q1_10, eq_true q1_11, eq_false h71, if_true, if_false]; done) | (simp [needsM, argumentsOf, eq_false q1_3, eq_false q1_4, eq_false q1_5, eq_false q1_6, eq_false q1_7, eq_false q1_8, eq_false q1_9, eq_false q1_10, eq_true q1_11, eq_false h71]; done) | (simp [needsM, argumentsOf, q1_3, q1_4, q1_5, q1_6, q1_7, q1_8, q1_9, q1_10, q1_11, h71]; done) | rfl) rfl
    · skip
      refine lv_iconst (v := 1) X.1.1 X.1.2.1 d_rf_needs_74 rfl ?_
      refine lv_goto (tgt := 79) X.1.1 X.1.2.1 d_rf_needs_75 rfl ?_
      exact X.iret hr hlk d_rf_needs_79 (by first | (simp only [needsM, argumentsOf, eq_false q1_3, eq_false q1_4, eq_false q1_5, eq_false q1_6, eq_false q1_7, eq_false q1_8, eq_false q1_9, eq_false q1_10, eq_true q1_11, eq_true h71, if_true, if_false]; done) | (simp [needsM, argumentsOf, eq_false q1_3, eq_false q1_4, eq_false q1_5, eq_false q1_6, eq_false q1_7, eq_false q1_8, eq_false q1_9, eq_false q1_10, eq_true q1_11, eq_true h71]; done) | (simp [needsM, argumentsOf, q1_3, q1_4, q1_5, q1_6, q1_7, q1_8, q1_9, q1_10, q1_11, h71]; done) | rfl) rfl
  by_cases q1_12 : p = 12
  · refine lv_tableIn (tgt := 70) X.1.1 X.1.2.1 d_rf_needs_1 (by rw [q1_12]; decide) (by rw [q1_12]; decide) (by rw [q1_12]; rfl) rfl ?_
    refine lv_iload_n X.1.1 X.1.2.1 d_rf_needs_70 rfl (lv_at L 1 rfl) ?_
    refine lv_if_ne (tgt := 78) X.1.1 X.1.2.1 d_rf_needs_71 rfl (fun h71 => ?_) (fun h71 => ?_)
    · skip
      refine lv_iconst (v := 0) X.1.1 X.1.2.1 d_rf_needs_78 rfl ?_
      exact X.iret hr hlk d_rf_needs_79 (by first | (simp only [needsM, argumentsOf, eq_false q1_3, eq_false q1_4, eq_false q1_5, eq_false q1_6, eq_false q1_7, eq_false q1_8, eq_false q1_9, eq_false q1_10, eq_false q1_11, eq_true q1_12, eq_false h71, if_true, if_false]; done) | (simp [needsM, argumentsOf, eq_false q1_3, eq_false q1_4, eq_false q1_5, eq_false q1_6, eq_false q1_7, eq_false q1_8, eq_false q1_9, eq_false q1_10, eq_false q1_11, eq_true q1_12, eq_false h71]; done) | (simp [needsM, argumentsOf, q1_3, q1_4, q1_5, q1_6, q1_7, q1_8, q1_9, q1_10, q1_11, q1_12, h71]; done) | rfl) rfl
    · skip
      refine lv_iconst (v := 1) X.1.1 X.1.2.1 d_rf_needs_74 rfl ?_
      refine lv_goto (tgt := 79) X.1.1 X.1.2.1 d_rf_needs_75 rfl ?_
      exact X.iret hr hlk d_rf_needs_79 (by first | (simp only [needsM, argumentsOf, eq_false q1_3, eq_false q1_4, eq_false q1_5, eq_false q1_6, eq_false q1_7, eq_false q1_8, eq_false q1_9, eq_false q1_10, eq_false q1_11, eq_true q1_12, eq_true h71, if_true, if_false]; done) | (simp [needsM, argumentsOf, eq_false q1_3, eq_false q1_4, eq_false q1_5, eq_false q1_6, eq_false q1_7, eq_false q1_8, eq_false q1_9, eq_false q1_10, eq_false q1_11, eq_true q1_12, eq_true h71]; done) | (simp [needsM, argumentsOf, q1_3, q1_4, q1_5, q1_6, q1_7, q1_8, q1_9, q1_10, q1_11, q1_12, h71]; done) | rfl) rfl
  by_cases q1_13 : p = 13
  · refine lv_tableIn (tgt := 80) X.1.1 X.1.2.1 d_rf_needs_1 (by rw [q1_13]; decide) (by rw [q1_13]; decide) (by rw [q1_13]; rfl) rfl ?_
    refine lv_iload_n X.1.1 X.1.2.1 d_rf_needs_80 rfl (lv_at L 1 rfl) ?_
    refine lv_iconst (v := 2) X.1.1 X.1.2.1 d_rf_needs_81 rfl ?_
    refine lv_icmp_ge (tgt := 89) X.1.1 X.1.2.1 d_rf_needs_82 rfl (fun h82 => ?_) (fun h82 => ?_)
    · skip
      refine lv_iconst (v := 0) X.1.1 X.1.2.1 d_rf_needs_89 rfl ?_
      exact X.iret hr hlk d_rf_needs_90 (by first | (simp only [needsM, argumentsOf, eq_false q1_3, eq_false q1_4, eq_false q1_5, eq_false q1_6, eq_false q1_7, eq_false q1_8, eq_false q1_9, eq_false q1_10, eq_false q1_11, eq_false q1_12, eq_true q1_13, eq_true h82, if_true, if_false]; done) | (simp [needsM, argumentsOf, eq_false q1_3, eq_false q1_4, eq_false q1_5, eq_false q1_6, eq_false q1_7, eq_false q1_8, eq_false q1_9, eq_false q1_10, eq_false q1_11, eq_false q1_12, eq_true q1_13, eq_true h82]; done) | (simp [needsM, argumentsOf, q1_3, q1_4, q1_5, q1_6, q1_7, q1_8, q1_9, q1_10, q1_11, q1_12, q1_13, h82]; done) | rfl) rfl
    · skip
      refine lv_iconst (v := 1) X.1.1 X.1.2.1 d_rf_needs_85 rfl ?_
      refine lv_goto (tgt := 90) X.1.1 X.1.2.1 d_rf_needs_86 rfl ?_
      exact X.iret hr hlk d_rf_needs_90 (by first | (simp only [needsM, argumentsOf, eq_false q1_3, eq_false q1_4, eq_false q1_5, eq_false q1_6, eq_false q1_7, eq_false q1_8, eq_false q1_9, eq_false q1_10, eq_false q1_11, eq_false q1_12, eq_true q1_13, eq_false h82, if_true, if_false]; done) | (simp [needsM, argumentsOf, eq_false q1_3, eq_false q1_4, eq_false q1_5, eq_false q1_6, eq_false q1_7, eq_false q1_8, eq_false q1_9, eq_false q1_10, eq_false q1_11, eq_false q1_12, eq_true q1_13, eq_false h82]; done) | (simp [needsM, argumentsOf, q1_3, q1_4, q1_5, q1_6, q1_7, q1_8, q1_9, q1_10, q1_11, q1_12, q1_13, h82]; done) | rfl) rfl
  refine lv_tableOut (tgt := 91) X.1.1 X.1.2.1 d_rf_needs_1 (by have := lv_neT q1_3 (show (3 : Int32).toInt = 3 from rfl); have := lv_neT q1_4 (show (4 : Int32).toInt = 4 from rfl); have := lv_neT q1_5 (show (5 : Int32).toInt = 5 from rfl); have := lv_neT q1_6 (show (6 : Int32).toInt = 6 from rfl); have := lv_neT q1_7 (show (7 : Int32).toInt = 7 from rfl); have := lv_neT q1_8 (show (8 : Int32).toInt = 8 from rfl); have := lv_neT q1_9 (show (9 : Int32).toInt = 9 from rfl); have := lv_neT q1_10 (show (10 : Int32).toInt = 10 from rfl); have := lv_neT q1_11 (show (11 : Int32).toInt = 11 from rfl); have := lv_neT q1_12 (show (12 : Int32).toInt = 12 from rfl); have := lv_neT q1_13 (show (13 : Int32).toInt = 13 from rfl); omega) rfl ?_
  refine lv_iconst (v := 0) X.1.1 X.1.2.1 d_rf_needs_91 rfl ?_
  exact X.iret hr hlk d_rf_needs_92 (by first | (simp only [needsM, argumentsOf, eq_false q1_3, eq_false q1_4, eq_false q1_5, eq_false q1_6, eq_false q1_7, eq_false q1_8, eq_false q1_9, eq_false q1_10, eq_false q1_11, eq_false q1_12, eq_false q1_13, if_true, if_false]; done) | (simp [needsM, argumentsOf, eq_false q1_3, eq_false q1_4, eq_false q1_5, eq_false q1_6, eq_false q1_7, eq_false q1_8, eq_false q1_9, eq_false q1_10, eq_false q1_11, eq_false q1_12, eq_false q1_13]; done) | (simp [needsM, argumentsOf, q1_3, q1_4, q1_5, q1_6, q1_7, q1_8, q1_9, q1_10, q1_11, q1_12, q1_13]; done) | rfl) rfl
set_option maxHeartbeats 4000000 in
theorem c_rf_grows {l : Launch} {D : va_G} {ad : Nat → Nat} {ci : Nat → ClassId} (hI : InjR ad) (σ : SS) (p a : Int32)  : Mi l y_rf_grows b_rf_grows 2 (some .boolean) ({ frames := 0, cells := 0, slots := 0, locals := 0 } : Room) (ER D ad ci) [.int p, .int a] σ (growsM p a) (σ) := by
  refine Mi.start pn_rf (Nat.le_of_ble_eq_true rfl) (fun zp ze zs zm zb zt zc ls X hr hlk L => ?_)
  have L : lv_has ls 2 [(0, .int p), (1, .int a)] := L
  refine lv_iload_n X.1.1 X.1.2.1 d_rf_grows_0 rfl (lv_at L 0 rfl) ?_
  refine lv_iconst (v := 3) X.1.1 X.1.2.1 d_rf_grows_1 rfl ?_
  refine lv_icmp_lt (tgt := 15) X.1.1 X.1.2.1 d_rf_grows_2 rfl (fun h2 => ?_) (fun h2 => ?_)
  · skip
    refine lv_iconst (v := 1) X.1.1 X.1.2.1 d_rf_grows_15 rfl ?_
    refine lv_goto (tgt := 20) X.1.1 X.1.2.1 d_rf_grows_16 rfl ?_
    exact X.zret hr hlk d_rf_grows_20 (by first | rfl | assumption) (by first | (simp only [growsM, eq_true h2, if_true, if_false]; done) | (simp [growsM, eq_true h2]; done) | (simp [growsM, h2]; done) | rfl) rfl
  · skip
    refine lv_iload_n X.1.1 X.1.2.1 d_rf_grows_5 rfl (lv_at L 0 rfl) ?_
    refine lv_bipush (v := 13) X.1.1 X.1.2.1 d_rf_grows_6 rfl ?_
    refine lv_icmp_ne (tgt := 19) X.1.1 X.1.2.1 d_rf_grows_8 rfl (fun h8 => ?_) (fun h8 => ?_)
    · skip
      refine lv_iconst (v := 0) X.1.1 X.1.2.1 d_rf_grows_19 rfl ?_
      exact X.zret hr hlk d_rf_grows_20 (by first | rfl | assumption) (by first | (simp only [growsM, eq_false h2, eq_false h8, if_true, if_false]; done) | (simp [growsM, eq_false h2, eq_false h8]; done) | (simp [growsM, h2, h8]; done) | rfl) rfl
    · skip
      refine lv_iload_n X.1.1 X.1.2.1 d_rf_grows_11 rfl (lv_at L 1 rfl) ?_
      refine lv_if_ne (tgt := 19) X.1.1 X.1.2.1 d_rf_grows_12 rfl (fun h12 => ?_) (fun h12 => ?_)
      · skip
        refine lv_iconst (v := 0) X.1.1 X.1.2.1 d_rf_grows_19 rfl ?_
        exact X.zret hr hlk d_rf_grows_20 (by first | rfl | assumption) (by first | (simp only [growsM, eq_false h2, eq_true h8, eq_false h12, if_true, if_false]; done) | (simp [growsM, eq_false h2, eq_true h8, eq_false h12]; done) | (simp [growsM, h2, h8, h12]; done) | rfl) rfl
      · skip
        refine lv_iconst (v := 1) X.1.1 X.1.2.1 d_rf_grows_15 rfl ?_
        refine lv_goto (tgt := 20) X.1.1 X.1.2.1 d_rf_grows_16 rfl ?_
        exact X.zret hr hlk d_rf_grows_20 (by first | rfl | assumption) (by first | (simp only [growsM, eq_false h2, eq_true h8, eq_true h12, if_true, if_false]; done) | (simp [growsM, eq_false h2, eq_true h8, eq_true h12]; done) | (simp [growsM, h2, h8, h12]; done) | rfl) rfl
set_option maxHeartbeats 4000000 in
theorem c_rf_superclassOf {l : Launch} {D : va_G} {ad : Nat → Nat} {ci : Nat → ClassId} (hI : InjR ad) (σ : SS) (c : Int32) (h_c : vp_in c 28) : Mi l y_rf_superclassOf b_rf_superclassOf 2 (some .int) ({ frames := 0, cells := 0, slots := 0, locals := 0 } : Room) (ER D ad ci) [.ref (ad 0), .int c] σ (superM σ c) (σ) := by
  refine Mi.start pn_rf (Nat.le_of_ble_eq_true rfl) (fun zp ze zs zm zb zt zc ls X hr hlk L => ?_)
  have L : lv_has ls 2 [(0, .ref (ad 0)), (1, .int c)] := L
  refine lv_aload_n X.1.1 X.1.2.1 d_rf_superclassOf_0 rfl (lv_at L 0 rfl) ?_
  refine g_rf_word X d_rf_superclassOf_1 ?_
  refine lv_bipush (v := 15) X.1.1 X.1.2.1 d_rf_superclassOf_4 rfl ?_
  refine lv_iload_n X.1.1 X.1.2.1 d_rf_superclassOf_6 rfl (lv_at L 1 rfl) ?_
  refine lv_imul X.1.1 X.1.2.1 d_rf_superclassOf_7 ?_
  refine rl_5 X (w15v h_c) d_rf_superclassOf_8 ?_
  exact X.iret hr hlk d_rf_superclassOf_9 rfl rfl
set_option maxHeartbeats 4000000 in
theorem c_rf_beginning {l : Launch} {D : va_G} {ad : Nat → Nat} {ci : Nat → ClassId} (hI : InjR ad) (σ : SS) (p a : Int32) (hm : RGm σ) (h5 : p = 5 → 0 ≤ (argumentsOf a).toInt ∧ (argumentsOf a).toInt + 1 ≤ (tpM σ).toInt) (h6 : vp_in (atM σ 2) 28) : Mi l y_rf_beginning b_rf_beginning 3 (some .int) ({ frames := 2, cells := 0, slots := 0, locals := 42 } : Room) (ER D ad ci) [.ref (ad 0), .int p, .int a] σ (beginM σ p a) (σ) := by
  refine Mi.start pn_rf (Nat.le_of_ble_eq_true rfl) (fun zp ze zs zm zb zt zc ls X hr hlk L => ?_)
  have L : lv_has ls 3 [(0, .ref (ad 0)), (1, .int p), (2, .int a)] := L
  refine lv_iload_n X.1.1 X.1.2.1 d_rf_beginning_0 rfl (lv_at L 1 rfl) ?_
  refine lv_iconst (v := 5) X.1.1 X.1.2.1 d_rf_beginning_1 rfl ?_
  refine lv_icmp_ne (tgt := 19) X.1.1 X.1.2.1 d_rf_beginning_2 rfl (fun h2 => ?_) (fun h2 => ?_)
  · skip
    refine lv_aload_n X.1.1 X.1.2.1 d_rf_beginning_19 rfl (lv_at L 0 rfl) ?_
    refine lv_aload_n X.1.1 X.1.2.1 d_rf_beginning_20 rfl (lv_at L 0 rfl) ?_
    refine lv_iconst (v := 2) X.1.1 X.1.2.1 d_rf_beginning_21 rfl ?_
    refine Mi.callV (k := 1) (c_rf_at hI _ _ hm (vpc (by decide))) X (gt_V mw_672 mw_674 ms_43 mw_5 mw_675) ok_rf_at ⟨rfl, rfl, by decide, by decide⟩ (rc_rf X) rfl L.1 rfl (Nat.le_of_ble_eq_true rfl) d_rf_beginning_22 (fun H locs X => ?_)
    refine Mi.callV (k := 1) (c_rf_superclassOf hI _ _ h6) X (gt_V mw_698 mw_700 ms_48 mw_5 mw_701) ok_rf_superclassOf ⟨rfl, rfl, by decide, by decide⟩ (rc_rf X) rfl L.1 rfl (Nat.le_of_ble_eq_true rfl) d_rf_beginning_25 (fun H locs X => ?_)
    exact X.iret hr hlk d_rf_beginning_28 (by first | (simp only [beginM, argumentsOf, eq_false h2, if_true, if_false]; done) | (simp [beginM, argumentsOf, eq_false h2]; done) | (simp [beginM, argumentsOf, h2]; done) | rfl) rfl
  · skip
    refine lv_aload_n X.1.1 X.1.2.1 d_rf_beginning_5 rfl (lv_at L 0 rfl) ?_
    refine lv_aload_n X.1.1 X.1.2.1 d_rf_beginning_6 rfl (lv_at L 0 rfl) ?_
    refine lv_iload_n X.1.1 X.1.2.1 d_rf_beginning_7 rfl (lv_at L 2 rfl) ?_
    refine lv_iconst (v := 3) X.1.1 X.1.2.1 d_rf_beginning_8 rfl ?_
    refine lv_irem X.1.1 X.1.2.1 d_rf_beginning_9 (by decide) ?_
    refine Mi.callV (k := 1) (c_rf_fromTop hI _ _ hm (h5 h2).1 (h5 h2).2) X (gt_V mw_694 mw_696 ms_47 mw_5 mw_697) ok_rf_fromTop ⟨rfl, rfl, by decide, by decide⟩ (rc_rf X) rfl L.1 rfl (Nat.le_of_ble_eq_true rfl) d_rf_beginning_10 (fun H locs X => ?_)
    refine Mi.callV (k := 1) (c_rf_classOfWord hI _ _ (hm.ft (h5 h2).1 (h5 h2).2)) X (gt_V mw_640 mw_642 ms_39 mw_5 mw_643) ok_rf_classOfWord ⟨rfl, rfl, by decide, by decide⟩ (rc_rf X) rfl L.1 rfl (Nat.le_of_ble_eq_true rfl) d_rf_beginning_13 (fun H locs X => ?_)
    refine lv_goto (tgt := 28) X.1.1 X.1.2.1 d_rf_beginning_16 rfl ?_
    exact X.iret hr hlk d_rf_beginning_28 (by first | (simp only [beginM, argumentsOf, eq_true h2, if_true, if_false]; done) | (simp [beginM, argumentsOf, eq_true h2]; done) | (simp [beginM, argumentsOf, h2]; done) | rfl) rfl
set_option maxHeartbeats 4000000 in
theorem c_rf_arithmetic {l : Launch} {D : va_G} {ad : Nat → Nat} {ci : Nat → ClassId} (hI : InjR ad) (σ : SS) (a x y : Int32)  : Mi l y_rf_arithmetic b_rf_arithmetic 4 (some .int) ({ frames := 0, cells := 0, slots := 0, locals := 0 } : Room) (ER D ad ci) [.ref (ad 0), .int a, .int x, .int y] σ (arithM a x y) (σ) := by
  refine Mi.start pn_rf (Nat.le_of_ble_eq_true rfl) (fun zp ze zs zm zb zt zc ls X hr hlk L => ?_)
  have L : lv_has ls 4 [(0, .ref (ad 0)), (1, .int a), (2, .int x), (3, .int y)] := L
  refine lv_iload_n X.1.1 X.1.2.1 d_rf_arithmetic_0 rfl (lv_at L 1 rfl) ?_
  by_cases q1_0 : a = 0
  · refine lv_lookup (tgt := 28) (off := 27) X.1.1 X.1.2.1 d_rf_arithmetic_1 (by decide) (by rw [q1_0]; decide) rfl ?_
    refine lv_iload_n X.1.1 X.1.2.1 d_rf_arithmetic_28 rfl (lv_at L 2 rfl) ?_
    refine lv_iload_n X.1.1 X.1.2.1 d_rf_arithmetic_29 rfl (lv_at L 3 rfl) ?_
    refine lv_iadd X.1.1 X.1.2.1 d_rf_arithmetic_30 ?_
    exact X.iret hr hlk d_rf_arithmetic_31 (by first | (simp only [arithM, eq_true q1_0, if_true, if_false]; done) | (simp [arithM, eq_true q1_0]; done) | (simp [arithM, q1_0]; done) | rfl) rfl
  by_cases q1_1 : a = 1
  · refine lv_lookup (tgt := 32) (off := 31) X.1.1 X.1.2.1 d_rf_arithmetic_1 (by decide) (by rw [q1_1]; decide) rfl ?_
    refine lv_iload_n X.1.1 X.1.2.1 d_rf_arithmetic_32 rfl (lv_at L 2 rfl) ?_
    refine lv_iload_n X.1.1 X.1.2.1 d_rf_arithmetic_33 rfl (lv_at L 3 rfl) ?_
    refine lv_isub X.1.1 X.1.2.1 d_rf_arithmetic_34 ?_
    exact X.iret hr hlk d_rf_arithmetic_35 (by first | (simp only [arithM, eq_false q1_0, eq_true q1_1, if_true, if_false]; done) | (simp [arithM, eq_false q1_0, eq_true q1_1]; done) | (simp [arithM, q1_0, q1_1]; done) | rfl) rfl
  refine lv_lookup (tgt := 36) (off := 35) X.1.1 X.1.2.1 d_rf_arithmetic_1 (by decide) (by rw [show _ = _ from lv_osw q1_0 (show (0 : Int32).toInt = 0 from rfl)]; rw [show _ = _ from lv_osw q1_1 (show (1 : Int32).toInt = 1 from rfl)]; rfl) rfl ?_
  refine lv_iload_n X.1.1 X.1.2.1 d_rf_arithmetic_36 rfl (lv_at L 2 rfl) ?_
  refine lv_iload_n X.1.1 X.1.2.1 d_rf_arithmetic_37 rfl (lv_at L 3 rfl) ?_
  refine lv_imul X.1.1 X.1.2.1 d_rf_arithmetic_38 ?_
  exact X.iret hr hlk d_rf_arithmetic_39 (by first | (simp only [arithM, eq_false q1_0, eq_false q1_1, if_true, if_false]; done) | (simp [arithM, eq_false q1_0, eq_false q1_1]; done) | (simp [arithM, q1_0, q1_1]; done) | rfl) rfl
set_option maxHeartbeats 4000000 in
theorem c_rf_workFails {l : Launch} {D : va_G} {ad : Nat → Nat} {ci : Nat → ClassId} (hI : InjR ad) (σ : SS) (a : Int32) (hm : RGm σ) (h2 : 2 ≤ (tpM σ).toInt) : Mi l y_rf_workFails b_rf_workFails 3 (some .int) ({ frames := 2, cells := 0, slots := 0, locals := 42 } : Room) (ER D ad ci) [.ref (ad 0), .int a] σ (workFailsM σ a) (σ) := by
  refine Mi.start pn_rf (Nat.le_of_ble_eq_true rfl) (fun zp ze zs zm zb zt zc ls X hr hlk L => ?_)
  have L : lv_has ls 3 [(0, .ref (ad 0)), (1, .int a)] := L
  refine lv_iload_n X.1.1 X.1.2.1 d_rf_workFails_0 rfl (lv_at L 1 rfl) ?_
  refine lv_iconst (v := 4) X.1.1 X.1.2.1 d_rf_workFails_1 rfl ?_
  refine lv_icmp_le (tgt := 7) X.1.1 X.1.2.1 d_rf_workFails_2 rfl (fun h2 => ?_) (fun h2 => ?_)
  · skip
    refine lv_iload_n X.1.1 X.1.2.1 d_rf_workFails_7 rfl (lv_at L 1 rfl) ?_
    refine lv_iconst (v := 4) X.1.1 X.1.2.1 d_rf_workFails_8 rfl ?_
    refine lv_icmp_ne (tgt := 14) X.1.1 X.1.2.1 d_rf_workFails_9 rfl (fun h9 => ?_) (fun h9 => ?_)
    · skip
      refine lv_aload_n X.1.1 X.1.2.1 d_rf_workFails_14 rfl (lv_at L 0 rfl) ?_
      refine lv_iconst (v := 0) X.1.1 X.1.2.1 d_rf_workFails_15 rfl ?_
      refine Mi.callV (k := 1) (c_rf_fromTop hI _ _ hm (by decide) (by rw [n0]; omega)) X (gt_V mw_694 mw_696 ms_47 mw_5 mw_697) ok_rf_fromTop ⟨rfl, rfl, by decide, by decide⟩ (rc_rf X) rfl L.1 rfl (Nat.le_of_ble_eq_true rfl) d_rf_workFails_16 (fun H locs X => ?_)
      refine Mi.callS (k := 1) (c_rf_isNumber hI _ _) X mw_532 mw_533 mw_5 mw_534 ok_rf_isNumber ⟨rfl, rfl, by decide, by decide⟩ rfl L.1 rfl (Nat.le_of_ble_eq_true rfl) d_rf_workFails_19 (fun H locs X => ?_)
      refine lv_if_eq (tgt := 36) X.1.1 X.1.2.1 d_rf_workFails_22 rfl (fun h22 => ?_) (fun h22 => ?_)
      · skip
        refine lv_iconst (v := 3) X.1.1 X.1.2.1 d_rf_workFails_36 rfl ?_
        exact X.iret hr hlk d_rf_workFails_37 (by first | (simp only [workFailsM, wf1M, wf2M, eq_true h2, eq_false h9, eq_true h22, if_true, if_false]; done) | (simp [workFailsM, wf1M, wf2M, eq_true h2, eq_false h9, eq_true h22]; done) | (simp [workFailsM, wf1M, wf2M, h2, h9, h22]; done) | rfl) rfl
      · skip
        refine lv_aload_n X.1.1 X.1.2.1 d_rf_workFails_25 rfl (lv_at L 0 rfl) ?_
        refine lv_iconst (v := 1) X.1.1 X.1.2.1 d_rf_workFails_26 rfl ?_
        refine Mi.callV (k := 1) (c_rf_fromTop hI _ _ hm (by decide) (by rw [show (1 : Int32).toInt = 1 from rfl]; omega)) X (gt_V mw_694 mw_696 ms_47 mw_5 mw_697) ok_rf_fromTop ⟨rfl, rfl, by decide, by decide⟩ (rc_rf X) rfl L.1 rfl (Nat.le_of_ble_eq_true rfl) d_rf_workFails_27 (fun H locs X => ?_)
        refine Mi.callS (k := 1) (c_rf_isNumber hI _ _) X mw_532 mw_533 mw_5 mw_534 ok_rf_isNumber ⟨rfl, rfl, by decide, by decide⟩ rfl L.1 rfl (Nat.le_of_ble_eq_true rfl) d_rf_workFails_30 (fun H locs X => ?_)
        refine lv_if_ne (tgt := 38) X.1.1 X.1.2.1 d_rf_workFails_33 rfl (fun h33 => ?_) (fun h33 => ?_)
        · skip
          refine lv_iload_n X.1.1 X.1.2.1 d_rf_workFails_38 rfl (lv_at L 1 rfl) ?_
          refine lv_iconst (v := 3) X.1.1 X.1.2.1 d_rf_workFails_39 rfl ?_
          refine lv_icmp_ne (tgt := 47) X.1.1 X.1.2.1 d_rf_workFails_40 rfl (fun h40 => ?_) (fun h40 => ?_)
          · skip
            refine lv_aload_n X.1.1 X.1.2.1 d_rf_workFails_47 rfl (lv_at L 0 rfl) ?_
            refine lv_iload_n X.1.1 X.1.2.1 d_rf_workFails_48 rfl (lv_at L 1 rfl) ?_
            refine lv_aload_n X.1.1 X.1.2.1 d_rf_workFails_49 rfl (lv_at L 0 rfl) ?_
            refine lv_iconst (v := 1) X.1.1 X.1.2.1 d_rf_workFails_50 rfl ?_
            refine Mi.callV (k := 1) (c_rf_fromTop hI _ _ hm (by decide) (by rw [show (1 : Int32).toInt = 1 from rfl]; omega)) X (gt_V mw_694 mw_696 ms_47 mw_5 mw_697) ok_rf_fromTop ⟨rfl, rfl, by decide, by decide⟩ (rc_rf X) rfl L.1 rfl (Nat.le_of_ble_eq_true rfl) d_rf_workFails_51 (fun H locs X => ?_)
            refine lv_sipush (v := 1000) X.1.1 X.1.2.1 d_rf_workFails_54 rfl ?_
            refine lv_isub X.1.1 X.1.2.1 d_rf_workFails_57 ?_
            refine lv_aload_n X.1.1 X.1.2.1 d_rf_workFails_58 rfl (lv_at L 0 rfl) ?_
            refine lv_iconst (v := 0) X.1.1 X.1.2.1 d_rf_workFails_59 rfl ?_
            refine Mi.callV (k := 1) (c_rf_fromTop hI _ _ hm (by decide) (by rw [n0]; omega)) X (gt_V mw_694 mw_696 ms_47 mw_5 mw_697) ok_rf_fromTop ⟨rfl, rfl, by decide, by decide⟩ (rc_rf X) rfl L.1 rfl (Nat.le_of_ble_eq_true rfl) d_rf_workFails_60 (fun H locs X => ?_)
            refine lv_sipush (v := 1000) X.1.1 X.1.2.1 d_rf_workFails_63 rfl ?_
            refine lv_isub X.1.1 X.1.2.1 d_rf_workFails_66 ?_
            refine Mi.callV (k := 3) (c_rf_arithmetic hI _ _ _ _) X (gt_V mw_706 mw_708 ms_50 mw_5 mw_709) ok_rf_arithmetic ⟨rfl, rfl, by decide, by decide⟩ (rc_rf X) rfl L.1 rfl (Nat.le_of_ble_eq_true rfl) d_rf_workFails_67 (fun H locs X => ?_)
            refine lv_istore_n (lv' := [(2, .int _), (0, .ref _), (1, .int _)]) X.1.1 X.1.2.1 d_rf_workFails_70 rfl L (by decide) rfl (fun ls L => ?_)
            refine lv_iload_n X.1.1 X.1.2.1 d_rf_workFails_71 rfl (lv_at L 0 rfl) ?_
            refine lv_sipush (v := (-512)) X.1.1 X.1.2.1 d_rf_workFails_72 rfl ?_
            refine lv_icmp_lt (tgt := 85) X.1.1 X.1.2.1 d_rf_workFails_75 rfl (fun h75 => ?_) (fun h75 => ?_)
            · skip
              refine lv_iconst (v := 5) X.1.1 X.1.2.1 d_rf_workFails_85 rfl ?_
              refine lv_goto (tgt := 90) X.1.1 X.1.2.1 d_rf_workFails_86 rfl ?_
              exact X.iret hr hlk d_rf_workFails_90 (by first | (simp only [workFailsM, wf1M, wf2M, eq_true h2, eq_false h9, eq_false h22, eq_false h33, eq_false h40, eq_true h75, if_true, if_false]; done) | (simp [workFailsM, wf1M, wf2M, eq_true h2, eq_false h9, eq_false h22, eq_false h33, eq_false h40, eq_true h75]; done) | (simp [workFailsM, wf1M, wf2M, h2, h9, h22, h33, h40, h75]; done) | rfl) rfl
            · skip
              refine lv_iload_n X.1.1 X.1.2.1 d_rf_workFails_78 rfl (lv_at L 0 rfl) ?_
              refine lv_sipush (v := 511) X.1.1 X.1.2.1 d_rf_workFails_79 rfl ?_
              refine lv_icmp_le (tgt := 89) X.1.1 X.1.2.1 d_rf_workFails_82 rfl (fun h82 => ?_) (fun h82 => ?_)
              · skip
                refine lv_iconst (v := 0) X.1.1 X.1.2.1 d_rf_workFails_89 rfl ?_
                exact X.iret hr hlk d_rf_workFails_90 (by first | (simp only [workFailsM, wf1M, wf2M, eq_true h2, eq_false h9, eq_false h22, eq_false h33, eq_false h40, eq_false h75, eq_true h82, if_true, if_false]; done) | (simp [workFailsM, wf1M, wf2M, eq_true h2, eq_false h9, eq_false h22, eq_false h33, eq_false h40, eq_false h75, eq_true h82]; done) | (simp [workFailsM, wf1M, wf2M, h2, h9, h22, h33, h40, h75, h82]; done) | rfl) rfl
              · skip
                refine lv_iconst (v := 5) X.1.1 X.1.2.1 d_rf_workFails_85 rfl ?_
                refine lv_goto (tgt := 90) X.1.1 X.1.2.1 d_rf_workFails_86 rfl ?_
                exact X.iret hr hlk d_rf_workFails_90 (by first | (simp only [workFailsM, wf1M, wf2M, eq_true h2, eq_false h9, eq_false h22, eq_false h33, eq_false h40, eq_false h75, eq_false h82, if_true, if_false]; done) | (simp [workFailsM, wf1M, wf2M, eq_true h2, eq_false h9, eq_false h22, eq_false h33, eq_false h40, eq_false h75, eq_false h82]; done) | (simp [workFailsM, wf1M, wf2M, h2, h9, h22, h33, h40, h75, h82]; done) | rfl) rfl
          · skip
            refine lv_iconst (v := 0) X.1.1 X.1.2.1 d_rf_workFails_43 rfl ?_
            refine lv_goto (tgt := 70) X.1.1 X.1.2.1 d_rf_workFails_44 rfl ?_
            refine lv_istore_n (lv' := [(2, .int _), (0, .ref _), (1, .int _)]) X.1.1 X.1.2.1 d_rf_workFails_70 rfl L (by decide) rfl (fun ls L => ?_)
            refine lv_iload_n X.1.1 X.1.2.1 d_rf_workFails_71 rfl (lv_at L 0 rfl) ?_
            refine lv_sipush (v := (-512)) X.1.1 X.1.2.1 d_rf_workFails_72 rfl ?_
            refine lv_icmp_lt (tgt := 85) X.1.1 X.1.2.1 d_rf_workFails_75 rfl (fun h75 => ?_) (fun h75 => ?_)
            · skip
              refine lv_iconst (v := 5) X.1.1 X.1.2.1 d_rf_workFails_85 rfl ?_
              refine lv_goto (tgt := 90) X.1.1 X.1.2.1 d_rf_workFails_86 rfl ?_
              exact X.iret hr hlk d_rf_workFails_90 (by first | (simp only [workFailsM, wf1M, wf2M, eq_true h2, eq_false h9, eq_false h22, eq_false h33, eq_true h40, eq_true h75, if_true, if_false]; done) | (simp [workFailsM, wf1M, wf2M, eq_true h2, eq_false h9, eq_false h22, eq_false h33, eq_true h40, eq_true h75]; done) | (simp [workFailsM, wf1M, wf2M, h2, h9, h22, h33, h40, h75]; done) | rfl) rfl
            · skip
              refine lv_iload_n X.1.1 X.1.2.1 d_rf_workFails_78 rfl (lv_at L 0 rfl) ?_
              refine lv_sipush (v := 511) X.1.1 X.1.2.1 d_rf_workFails_79 rfl ?_
              refine lv_icmp_le (tgt := 89) X.1.1 X.1.2.1 d_rf_workFails_82 rfl (fun h82 => ?_) (fun h82 => ?_)
              · skip
                refine lv_iconst (v := 0) X.1.1 X.1.2.1 d_rf_workFails_89 rfl ?_
                exact X.iret hr hlk d_rf_workFails_90 (by first | (simp only [workFailsM, wf1M, wf2M, eq_true h2, eq_false h9, eq_false h22, eq_false h33, eq_true h40, eq_false h75, eq_true h82, if_true, if_false]; done) | (simp [workFailsM, wf1M, wf2M, eq_true h2, eq_false h9, eq_false h22, eq_false h33, eq_true h40, eq_false h75, eq_true h82]; done) | (simp [workFailsM, wf1M, wf2M, h2, h9, h22, h33, h40, h75, h82]; done) | rfl) rfl
              · skip
                refine lv_iconst (v := 5) X.1.1 X.1.2.1 d_rf_workFails_85 rfl ?_
                refine lv_goto (tgt := 90) X.1.1 X.1.2.1 d_rf_workFails_86 rfl ?_
                exact X.iret hr hlk d_rf_workFails_90 (by first | (simp only [workFailsM, wf1M, wf2M, eq_true h2, eq_false h9, eq_false h22, eq_false h33, eq_true h40, eq_false h75, eq_false h82, if_true, if_false]; done) | (simp [workFailsM, wf1M, wf2M, eq_true h2, eq_false h9, eq_false h22, eq_false h33, eq_true h40, eq_false h75, eq_false h82]; done) | (simp [workFailsM, wf1M, wf2M, h2, h9, h22, h33, h40, h75, h82]; done) | rfl) rfl
        · skip
          refine lv_iconst (v := 3) X.1.1 X.1.2.1 d_rf_workFails_36 rfl ?_
          exact X.iret hr hlk d_rf_workFails_37 (by first | (simp only [workFailsM, wf1M, wf2M, eq_true h2, eq_false h9, eq_false h22, eq_true h33, if_true, if_false]; done) | (simp [workFailsM, wf1M, wf2M, eq_true h2, eq_false h9, eq_false h22, eq_true h33]; done) | (simp [workFailsM, wf1M, wf2M, h2, h9, h22, h33]; done) | rfl) rfl
    · skip
      refine lv_iconst (v := 0) X.1.1 X.1.2.1 d_rf_workFails_12 rfl ?_
      exact X.iret hr hlk d_rf_workFails_13 (by first | (simp only [workFailsM, wf1M, wf2M, eq_true h2, eq_true h9, if_true, if_false]; done) | (simp [workFailsM, wf1M, wf2M, eq_true h2, eq_true h9]; done) | (simp [workFailsM, wf1M, wf2M, h2, h9]; done) | rfl) rfl
  · skip
    refine lv_iconst (v := 3) X.1.1 X.1.2.1 d_rf_workFails_5 rfl ?_
    exact X.iret hr hlk d_rf_workFails_6 (by first | (simp only [workFailsM, wf1M, wf2M, eq_false h2, if_true, if_false]; done) | (simp [workFailsM, wf1M, wf2M, eq_false h2]; done) | (simp [workFailsM, wf1M, wf2M, h2]; done) | rfl) rfl
set_option maxHeartbeats 4000000 in
theorem c_rf_fails {l : Launch} {D : va_G} {ad : Nat → Nat} {ci : Nat → ClassId} (hI : InjR ad) (σ : SS) (τ : SS) (c p a q : Int32) (P A : Nat) (hA : ACT τ σ c) (hP : P < 16) (ha : A < 16) (ep : p = nI P) (ea : a = nI A) : Mi l y_rf_fails b_rf_fails 4 (some .int) ({ frames := 3, cells := 0, slots := 0, locals := 64 } : Room) (ER D ad ci) [.ref (ad 0), .int p, .int a, .int q] σ (failsM σ p a q) (σ) := by
  refine Mi.start pn_rf (Nat.le_of_ble_eq_true rfl) (fun zp ze zs zm zb zt zc ls X hr hlk L => ?_)
  have L : lv_has ls 4 [(0, .ref (ad 0)), (1, .int p), (2, .int a), (3, .int q)] := L
  refine lv_aload_n X.1.1 X.1.2.1 d_rf_fails_0 rfl (lv_at L 0 rfl) ?_
  refine g_rf_top X d_rf_fails_1 ?_
  refine lv_aload_n X.1.1 X.1.2.1 d_rf_fails_4 rfl (lv_at L 0 rfl) ?_
  refine g_rf_active X d_rf_fails_5 ?_
  refine rl_11 X hA.rgm.ac d_rf_fails_8 ?_
  refine lv_iload_n X.1.1 X.1.2.1 d_rf_fails_9 rfl (lv_at L 1 rfl) ?_
  refine lv_iload_n X.1.1 X.1.2.1 d_rf_fails_10 rfl (lv_at L 2 rfl) ?_
  refine Mi.callS (k := 2) (c_rf_needs hI _ _ _) X mw_680 mw_681 mw_5 mw_682 ok_rf_needs ⟨rfl, rfl, by decide, by decide⟩ rfl L.1 rfl (Nat.le_of_ble_eq_true rfl) d_rf_fails_11 (fun H locs X => ?_)
  refine lv_icmp_lt (tgt := 39) X.1.1 X.1.2.1 d_rf_fails_14 rfl (fun h14 => ?_) (fun h14 => ?_)
  · skip
    refine lv_iconst (v := 1) X.1.1 X.1.2.1 d_rf_fails_39 rfl ?_
    exact X.iret hr hlk d_rf_fails_40 (by first | (simp only [failsM, tpM, fails1M, fa1M, fa5M, fa8M, fa9M, fa12M, eq_true h14, if_true, if_false]; done) | (simp [failsM, tpM, fails1M, fa1M, fa5M, fa8M, fa9M, fa12M, eq_true h14]; done) | (simp [failsM, tpM, fails1M, fa1M, fa5M, fa8M, fa9M, fa12M, h14]; done) | rfl) rfl
  · skip
    refine lv_iload_n X.1.1 X.1.2.1 d_rf_fails_17 rfl (lv_at L 1 rfl) ?_
    refine lv_iload_n X.1.1 X.1.2.1 d_rf_fails_18 rfl (lv_at L 2 rfl) ?_
    refine Mi.callS (k := 2) (c_rf_grows hI _ _ _) X mw_683 mw_684 mw_5 mw_685 ok_rf_grows ⟨rfl, rfl, by decide, by decide⟩ rfl L.1 rfl (Nat.le_of_ble_eq_true rfl) d_rf_fails_19 (fun H locs X => ?_)
    refine lv_if_eq (tgt := 41) X.1.1 X.1.2.1 d_rf_fails_22 rfl (fun h22 => ?_) (fun h22 => ?_)
    · skip
      have hw : wu P A ≤ dpt τ c := need_wu hA hP ha (by rw [← ep, ← ea]; exact h14)
      refine lv_iload_n X.1.1 X.1.2.1 d_rf_fails_41 rfl (lv_at L 1 rfl) ?_
      by_cases q42_0 : p = 0
      · refine lv_tableIn (tgt := 112) X.1.1 X.1.2.1 d_rf_fails_42 (by rw [q42_0]; decide) (by rw [q42_0]; decide) (by rw [q42_0]; rfl) rfl ?_
        refine lv_iload_n X.1.1 X.1.2.1 d_rf_fails_112 rfl (lv_at L 2 rfl) ?_
        refine lv_iconst (v := 3) X.1.1 X.1.2.1 d_rf_fails_113 rfl ?_
        refine lv_icmp_le (tgt := 121) X.1.1 X.1.2.1 d_rf_fails_114 rfl (fun h114 => ?_) (fun h114 => ?_)
        · skip
          refine lv_iconst (v := 0) X.1.1 X.1.2.1 d_rf_fails_121 rfl ?_
          exact X.iret hr hlk d_rf_fails_122 (by first | (simp only [failsM, tpM, fails1M, fa1M, fa5M, fa8M, fa9M, fa12M, eq_false h14, eq_true h22, eq_true q42_0, eq_true h114, if_true, if_false]; done) | (simp [failsM, tpM, fails1M, fa1M, fa5M, fa8M, fa9M, fa12M, eq_false h14, eq_true h22, eq_true q42_0, eq_true h114]; done) | (simp [failsM, tpM, fails1M, fa1M, fa5M, fa8M, fa9M, fa12M, h14, h22, q42_0, h114]; done) | rfl) rfl
        · skip
          refine lv_iconst (v := 3) X.1.1 X.1.2.1 d_rf_fails_117 rfl ?_
          refine lv_goto (tgt := 122) X.1.1 X.1.2.1 d_rf_fails_118 rfl ?_
          exact X.iret hr hlk d_rf_fails_122 (by first | (simp only [failsM, tpM, fails1M, fa1M, fa5M, fa8M, fa9M, fa12M, eq_false h14, eq_true h22, eq_true q42_0, eq_false h114, if_true, if_false]; done) | (simp [failsM, tpM, fails1M, fa1M, fa5M, fa8M, fa9M, fa12M, eq_false h14, eq_true h22, eq_true q42_0, eq_false h114]; done) | (simp [failsM, tpM, fails1M, fa1M, fa5M, fa8M, fa9M, fa12M, h14, h22, q42_0, h114]; done) | rfl) rfl
      by_cases q42_1 : p = 1
      · refine lv_tableIn (tgt := 123) X.1.1 X.1.2.1 d_rf_fails_42 (by rw [q42_1]; decide) (by rw [q42_1]; decide) (by rw [q42_1]; rfl) rfl ?_
        refine lv_aload_n X.1.1 X.1.2.1 d_rf_fails_123 rfl (lv_at L 0 rfl) ?_
        refine lv_aload_n X.1.1 X.1.2.1 d_rf_fails_124 rfl (lv_at L 0 rfl) ?_
        refine lv_iconst (v := 1) X.1.1 X.1.2.1 d_rf_fails_125 rfl ?_
        refine Mi.callV (k := 1) (c_rf_at hI _ _ hA.rgm (vpc (by decide))) X (gt_V mw_672 mw_674 ms_43 mw_5 mw_675) ok_rf_at ⟨rfl, rfl, by decide, by decide⟩ (rc_rf X) rfl L.1 rfl (Nat.le_of_ble_eq_true rfl) d_rf_fails_126 (fun H locs X => ?_)
        refine lv_iload_n X.1.1 X.1.2.1 d_rf_fails_129 rfl (lv_at L 2 rfl) ?_
        refine Mi.callV (k := 2) (c_rf_hasField hI _ _ _ (hA.rgm.at (vpc (by decide)))) X (gt_V mw_632 mw_634 ms_38 mw_5 mw_635) ok_rf_hasField ⟨rfl, rfl, by decide, by decide⟩ (rc_rf X) rfl L.1 rfl (Nat.le_of_ble_eq_true rfl) d_rf_fails_130 (fun H locs X => ?_)
        refine lv_if_eq (tgt := 165) X.1.1 X.1.2.1 d_rf_fails_133 rfl (fun h133 => ?_) (fun h133 => ?_)
        · skip
          refine lv_iconst (v := 3) X.1.1 X.1.2.1 d_rf_fails_165 rfl ?_
          refine lv_goto (tgt := 170) X.1.1 X.1.2.1 d_rf_fails_166 rfl ?_
          exact X.iret hr hlk d_rf_fails_170 (by first | exact absurd q42_4 h150 | exact absurd (q42_1.symm.trans h150) (by decide) | (simp only [failsM, tpM, fails1M, fa1M, fa5M, fa8M, fa9M, fa12M, eq_false h14, eq_true h22, eq_false q42_0, eq_true q42_1, eq_true h133, if_true, if_false]; done) | (simp [failsM, tpM, fails1M, fa1M, fa5M, fa8M, fa9M, fa12M, eq_false h14, eq_true h22, eq_false q42_0, eq_true q42_1, eq_true h133]; done)) rfl
        · skip
          refine lv_aload_n X.1.1 X.1.2.1 d_rf_fails_136 rfl (lv_at L 0 rfl) ?_
          refine lv_aload_n X.1.1 X.1.2.1 d_rf_fails_137 rfl (lv_at L 0 rfl) ?_
          refine lv_iconst (v := 1) X.1.1 X.1.2.1 d_rf_fails_138 rfl ?_
          refine Mi.callV (k := 1) (c_rf_at hI _ _ hA.rgm (vpc (by decide))) X (gt_V mw_672 mw_674 ms_43 mw_5 mw_675) ok_rf_at ⟨rfl, rfl, by decide, by decide⟩ (rc_rf X) rfl L.1 rfl (Nat.le_of_ble_eq_true rfl) d_rf_fails_139 (fun H locs X => ?_)
          refine Mi.callV (k := 1) (c_rf_isContext hI _ _ (hA.rgm.at (vpc (by decide)))) X (gt_V mw_686 mw_688 ms_45 mw_5 mw_689) ok_rf_isContext ⟨rfl, rfl, by decide, by decide⟩ (rc_rf X) rfl L.1 rfl (Nat.le_of_ble_eq_true rfl) d_rf_fails_142 (fun H locs X => ?_)
          refine lv_if_ne (tgt := 165) X.1.1 X.1.2.1 d_rf_fails_145 rfl (fun h145 => ?_) (fun h145 => ?_)
          · skip
            refine lv_iconst (v := 3) X.1.1 X.1.2.1 d_rf_fails_165 rfl ?_
            refine lv_goto (tgt := 170) X.1.1 X.1.2.1 d_rf_fails_166 rfl ?_
            exact X.iret hr hlk d_rf_fails_170 (by first | exact absurd q42_4 h150 | exact absurd (q42_1.symm.trans h150) (by decide) | (simp only [failsM, tpM, fails1M, fa1M, fa5M, fa8M, fa9M, fa12M, eq_false h14, eq_true h22, eq_false q42_0, eq_true q42_1, eq_false h133, eq_false h145, if_true, if_false]; done) | (simp [failsM, tpM, fails1M, fa1M, fa5M, fa8M, fa9M, fa12M, eq_false h14, eq_true h22, eq_false q42_0, eq_true q42_1, eq_false h133, eq_false h145]; done)) rfl
          · skip
            refine lv_iload_n X.1.1 X.1.2.1 d_rf_fails_148 rfl (lv_at L 1 rfl) ?_
            refine lv_iconst (v := 4) X.1.1 X.1.2.1 d_rf_fails_149 rfl ?_
            refine lv_icmp_ne (tgt := 169) X.1.1 X.1.2.1 d_rf_fails_150 rfl (fun h150 => ?_) (fun h150 => ?_)
            · skip
              refine lv_iconst (v := 0) X.1.1 X.1.2.1 d_rf_fails_169 rfl ?_
              exact X.iret hr hlk d_rf_fails_170 (by first | exact absurd q42_4 h150 | exact absurd (q42_1.symm.trans h150) (by decide) | (simp only [failsM, tpM, fails1M, fa1M, fa5M, fa8M, fa9M, fa12M, eq_false h14, eq_true h22, eq_false q42_0, eq_true q42_1, eq_false h133, eq_true h145, eq_false h150, if_true, if_false]; done) | (simp [failsM, tpM, fails1M, fa1M, fa5M, fa8M, fa9M, fa12M, eq_false h14, eq_true h22, eq_false q42_0, eq_true q42_1, eq_false h133, eq_true h145, eq_false h150]; done)) rfl
            · skip
              refine lv_aload_n X.1.1 X.1.2.1 d_rf_fails_153 rfl (lv_at L 0 rfl) ?_
              refine lv_aload_n X.1.1 X.1.2.1 d_rf_fails_154 rfl (lv_at L 0 rfl) ?_
              refine lv_iconst (v := 1) X.1.1 X.1.2.1 d_rf_fails_155 rfl ?_
              refine Mi.callV (k := 1) (c_rf_at hI _ _ hA.rgm (vpc (by decide))) X (gt_V mw_672 mw_674 ms_43 mw_5 mw_675) ok_rf_at ⟨rfl, rfl, by decide, by decide⟩ (rc_rf X) rfl L.1 rfl (Nat.le_of_ble_eq_true rfl) d_rf_fails_156 (fun H locs X => ?_)
              refine Mi.callV (k := 1) (c_rf_isClass hI _ _ (hA.rgm.at (vpc (by decide)))) X (gt_V mw_588 mw_590 ms_34 mw_5 mw_591) ok_rf_isClass ⟨rfl, rfl, by decide, by decide⟩ (rc_rf X) rfl L.1 rfl (Nat.le_of_ble_eq_true rfl) d_rf_fails_159 (fun H locs X => ?_)
              refine lv_if_eq (tgt := 169) X.1.1 X.1.2.1 d_rf_fails_162 rfl (fun h162 => ?_) (fun h162 => ?_)
              · skip
                refine lv_iconst (v := 0) X.1.1 X.1.2.1 d_rf_fails_169 rfl ?_
                exact X.iret hr hlk d_rf_fails_170 (by first | exact absurd q42_4 h150 | exact absurd (q42_1.symm.trans h150) (by decide) | (simp only [failsM, tpM, fails1M, fa1M, fa5M, fa8M, fa9M, fa12M, eq_false h14, eq_true h22, eq_false q42_0, eq_true q42_1, eq_false h133, eq_true h145, eq_true h150, eq_true h162, if_true, if_false]; done) | (simp [failsM, tpM, fails1M, fa1M, fa5M, fa8M, fa9M, fa12M, eq_false h14, eq_true h22, eq_false q42_0, eq_true q42_1, eq_false h133, eq_true h145, eq_true h150, eq_true h162]; done)) rfl
              · skip
                refine lv_iconst (v := 3) X.1.1 X.1.2.1 d_rf_fails_165 rfl ?_
                refine lv_goto (tgt := 170) X.1.1 X.1.2.1 d_rf_fails_166 rfl ?_
                exact X.iret hr hlk d_rf_fails_170 (by first | exact absurd q42_4 h150 | exact absurd (q42_1.symm.trans h150) (by decide) | (simp only [failsM, tpM, fails1M, fa1M, fa5M, fa8M, fa9M, fa12M, eq_false h14, eq_true h22, eq_false q42_0, eq_true q42_1, eq_false h133, eq_true h145, eq_true h150, eq_false h162, if_true, if_false]; done) | (simp [failsM, tpM, fails1M, fa1M, fa5M, fa8M, fa9M, fa12M, eq_false h14, eq_true h22, eq_false q42_0, eq_true q42_1, eq_false h133, eq_true h145, eq_true h150, eq_false h162]; done)) rfl
      by_cases q42_2 : p = 2
      · refine lv_tableIn (tgt := 323) X.1.1 X.1.2.1 d_rf_fails_42 (by rw [q42_2]; decide) (by rw [q42_2]; decide) (by rw [q42_2]; rfl) rfl ?_
        refine lv_iload_n X.1.1 X.1.2.1 d_rf_fails_323 rfl (lv_at L 1 rfl) ?_
        refine lv_bipush (v := 13) X.1.1 X.1.2.1 d_rf_fails_324 rfl ?_
        refine lv_icmp_le (tgt := 333) X.1.1 X.1.2.1 d_rf_fails_326 rfl (fun h326 => ?_) (fun h326 => ?_)
        · skip
          refine lv_iconst (v := 0) X.1.1 X.1.2.1 d_rf_fails_333 rfl ?_
          exact X.iret hr hlk d_rf_fails_334 (by first | exact absurd (show p ≤ 13 by rw [q42_2]; decide) h326 | (simp only [failsM, tpM, fails1M, fa1M, fa5M, fa8M, fa9M, fa12M, eq_false h14, eq_true h22, eq_false q42_0, eq_false q42_1, eq_true q42_2, eq_true h326, if_true, if_false]; done) | (simp [failsM, tpM, fails1M, fa1M, fa5M, fa8M, fa9M, fa12M, eq_false h14, eq_true h22, eq_false q42_0, eq_false q42_1, eq_true q42_2, eq_true h326]; done)) rfl
        · skip
          refine lv_iconst (v := 3) X.1.1 X.1.2.1 d_rf_fails_329 rfl ?_
          refine lv_goto (tgt := 334) X.1.1 X.1.2.1 d_rf_fails_330 rfl ?_
          exact X.iret hr hlk d_rf_fails_334 (by first | exact absurd (show p ≤ 13 by rw [q42_2]; decide) h326 | (simp only [failsM, tpM, fails1M, fa1M, fa5M, fa8M, fa9M, fa12M, eq_false h14, eq_true h22, eq_false q42_0, eq_false q42_1, eq_true q42_2, eq_false h326, if_true, if_false]; done) | (simp [failsM, tpM, fails1M, fa1M, fa5M, fa8M, fa9M, fa12M, eq_false h14, eq_true h22, eq_false q42_0, eq_false q42_1, eq_true q42_2, eq_false h326]; done)) rfl
      by_cases q42_3 : p = 3
      · refine lv_tableIn (tgt := 112) X.1.1 X.1.2.1 d_rf_fails_42 (by rw [q42_3]; decide) (by rw [q42_3]; decide) (by rw [q42_3]; rfl) rfl ?_
        refine lv_iload_n X.1.1 X.1.2.1 d_rf_fails_112 rfl (lv_at L 2 rfl) ?_
        refine lv_iconst (v := 3) X.1.1 X.1.2.1 d_rf_fails_113 rfl ?_
        refine lv_icmp_le (tgt := 121) X.1.1 X.1.2.1 d_rf_fails_114 rfl (fun h114 => ?_) (fun h114 => ?_)
        · skip
          refine lv_iconst (v := 0) X.1.1 X.1.2.1 d_rf_fails_121 rfl ?_
          exact X.iret hr hlk d_rf_fails_122 (by first | (simp only [failsM, tpM, fails1M, fa1M, fa5M, fa8M, fa9M, fa12M, eq_false h14, eq_true h22, eq_false q42_0, eq_false q42_1, eq_false q42_2, eq_true q42_3, eq_true h114, if_true, if_false]; done) | (simp [failsM, tpM, fails1M, fa1M, fa5M, fa8M, fa9M, fa12M, eq_false h14, eq_true h22, eq_false q42_0, eq_false q42_1, eq_false q42_2, eq_true q42_3, eq_true h114]; done) | (simp [failsM, tpM, fails1M, fa1M, fa5M, fa8M, fa9M, fa12M, h14, h22, q42_0, q42_1, q42_2, q42_3, h114]; done) | rfl) rfl
        · skip
          refine lv_iconst (v := 3) X.1.1 X.1.2.1 d_rf_fails_117 rfl ?_
          refine lv_goto (tgt := 122) X.1.1 X.1.2.1 d_rf_fails_118 rfl ?_
          exact X.iret hr hlk d_rf_fails_122 (by first | (simp only [failsM, tpM, fails1M, fa1M, fa5M, fa8M, fa9M, fa12M, eq_false h14, eq_true h22, eq_false q42_0, eq_false q42_1, eq_false q42_2, eq_true q42_3, eq_false h114, if_true, if_false]; done) | (simp [failsM, tpM, fails1M, fa1M, fa5M, fa8M, fa9M, fa12M, eq_false h14, eq_true h22, eq_false q42_0, eq_false q42_1, eq_false q42_2, eq_true q42_3, eq_false h114]; done) | (simp [failsM, tpM, fails1M, fa1M, fa5M, fa8M, fa9M, fa12M, h14, h22, q42_0, q42_1, q42_2, q42_3, h114]; done) | rfl) rfl
      by_cases q42_4 : p = 4
      · refine lv_tableIn (tgt := 123) X.1.1 X.1.2.1 d_rf_fails_42 (by rw [q42_4]; decide) (by rw [q42_4]; decide) (by rw [q42_4]; rfl) rfl ?_
        refine lv_aload_n X.1.1 X.1.2.1 d_rf_fails_123 rfl (lv_at L 0 rfl) ?_
        refine lv_aload_n X.1.1 X.1.2.1 d_rf_fails_124 rfl (lv_at L 0 rfl) ?_
        refine lv_iconst (v := 1) X.1.1 X.1.2.1 d_rf_fails_125 rfl ?_
        refine Mi.callV (k := 1) (c_rf_at hI _ _ hA.rgm (vpc (by decide))) X (gt_V mw_672 mw_674 ms_43 mw_5 mw_675) ok_rf_at ⟨rfl, rfl, by decide, by decide⟩ (rc_rf X) rfl L.1 rfl (Nat.le_of_ble_eq_true rfl) d_rf_fails_126 (fun H locs X => ?_)
        refine lv_iload_n X.1.1 X.1.2.1 d_rf_fails_129 rfl (lv_at L 2 rfl) ?_
        refine Mi.callV (k := 2) (c_rf_hasField hI _ _ _ (hA.rgm.at (vpc (by decide)))) X (gt_V mw_632 mw_634 ms_38 mw_5 mw_635) ok_rf_hasField ⟨rfl, rfl, by decide, by decide⟩ (rc_rf X) rfl L.1 rfl (Nat.le_of_ble_eq_true rfl) d_rf_fails_130 (fun H locs X => ?_)
        refine lv_if_eq (tgt := 165) X.1.1 X.1.2.1 d_rf_fails_133 rfl (fun h133 => ?_) (fun h133 => ?_)
        · skip
          refine lv_iconst (v := 3) X.1.1 X.1.2.1 d_rf_fails_165 rfl ?_
          refine lv_goto (tgt := 170) X.1.1 X.1.2.1 d_rf_fails_166 rfl ?_
          exact X.iret hr hlk d_rf_fails_170 (by first | exact absurd q42_4 h150 | exact absurd (q42_1.symm.trans h150) (by decide) | (simp only [failsM, tpM, fails1M, fa1M, fa5M, fa8M, fa9M, fa12M, eq_false h14, eq_true h22, eq_false q42_0, eq_false q42_1, eq_false q42_2, eq_false q42_3, eq_true q42_4, eq_true h133, if_true, if_false]; done) | (simp [failsM, tpM, fails1M, fa1M, fa5M, fa8M, fa9M, fa12M, eq_false h14, eq_true h22, eq_false q42_0, eq_false q42_1, eq_false q42_2, eq_false q42_3, eq_true q42_4, eq_true h133]; done)) rfl
        · skip
          refine lv_aload_n X.1.1 X.1.2.1 d_rf_fails_136 rfl (lv_at L 0 rfl) ?_
          refine lv_aload_n X.1.1 X.1.2.1 d_rf_fails_137 rfl (lv_at L 0 rfl) ?_
          refine lv_iconst (v := 1) X.1.1 X.1.2.1 d_rf_fails_138 rfl ?_
          refine Mi.callV (k := 1) (c_rf_at hI _ _ hA.rgm (vpc (by decide))) X (gt_V mw_672 mw_674 ms_43 mw_5 mw_675) ok_rf_at ⟨rfl, rfl, by decide, by decide⟩ (rc_rf X) rfl L.1 rfl (Nat.le_of_ble_eq_true rfl) d_rf_fails_139 (fun H locs X => ?_)
          refine Mi.callV (k := 1) (c_rf_isContext hI _ _ (hA.rgm.at (vpc (by decide)))) X (gt_V mw_686 mw_688 ms_45 mw_5 mw_689) ok_rf_isContext ⟨rfl, rfl, by decide, by decide⟩ (rc_rf X) rfl L.1 rfl (Nat.le_of_ble_eq_true rfl) d_rf_fails_142 (fun H locs X => ?_)
          refine lv_if_ne (tgt := 165) X.1.1 X.1.2.1 d_rf_fails_145 rfl (fun h145 => ?_) (fun h145 => ?_)
          · skip
            refine lv_iconst (v := 3) X.1.1 X.1.2.1 d_rf_fails_165 rfl ?_
            refine lv_goto (tgt := 170) X.1.1 X.1.2.1 d_rf_fails_166 rfl ?_
            exact X.iret hr hlk d_rf_fails_170 (by first | exact absurd q42_4 h150 | exact absurd (q42_1.symm.trans h150) (by decide) | (simp only [failsM, tpM, fails1M, fa1M, fa5M, fa8M, fa9M, fa12M, eq_false h14, eq_true h22, eq_false q42_0, eq_false q42_1, eq_false q42_2, eq_false q42_3, eq_true q42_4, eq_false h133, eq_false h145, if_true, if_false]; done) | (simp [failsM, tpM, fails1M, fa1M, fa5M, fa8M, fa9M, fa12M, eq_false h14, eq_true h22, eq_false q42_0, eq_false q42_1, eq_false q42_2, eq_false q42_3, eq_true q42_4, eq_false h133, eq_false h145]; done)) rfl
          · skip
            refine lv_iload_n X.1.1 X.1.2.1 d_rf_fails_148 rfl (lv_at L 1 rfl) ?_
            refine lv_iconst (v := 4) X.1.1 X.1.2.1 d_rf_fails_149 rfl ?_
            refine lv_icmp_ne (tgt := 169) X.1.1 X.1.2.1 d_rf_fails_150 rfl (fun h150 => ?_) (fun h150 => ?_)
            · skip
              refine lv_iconst (v := 0) X.1.1 X.1.2.1 d_rf_fails_169 rfl ?_
              exact X.iret hr hlk d_rf_fails_170 (by first | exact absurd q42_4 h150 | exact absurd (q42_1.symm.trans h150) (by decide) | (simp only [failsM, tpM, fails1M, fa1M, fa5M, fa8M, fa9M, fa12M, eq_false h14, eq_true h22, eq_false q42_0, eq_false q42_1, eq_false q42_2, eq_false q42_3, eq_true q42_4, eq_false h133, eq_true h145, eq_false h150, if_true, if_false]; done) | (simp [failsM, tpM, fails1M, fa1M, fa5M, fa8M, fa9M, fa12M, eq_false h14, eq_true h22, eq_false q42_0, eq_false q42_1, eq_false q42_2, eq_false q42_3, eq_true q42_4, eq_false h133, eq_true h145, eq_false h150]; done)) rfl
            · skip
              refine lv_aload_n X.1.1 X.1.2.1 d_rf_fails_153 rfl (lv_at L 0 rfl) ?_
              refine lv_aload_n X.1.1 X.1.2.1 d_rf_fails_154 rfl (lv_at L 0 rfl) ?_
              refine lv_iconst (v := 1) X.1.1 X.1.2.1 d_rf_fails_155 rfl ?_
              refine Mi.callV (k := 1) (c_rf_at hI _ _ hA.rgm (vpc (by decide))) X (gt_V mw_672 mw_674 ms_43 mw_5 mw_675) ok_rf_at ⟨rfl, rfl, by decide, by decide⟩ (rc_rf X) rfl L.1 rfl (Nat.le_of_ble_eq_true rfl) d_rf_fails_156 (fun H locs X => ?_)
              refine Mi.callV (k := 1) (c_rf_isClass hI _ _ (hA.rgm.at (vpc (by decide)))) X (gt_V mw_588 mw_590 ms_34 mw_5 mw_591) ok_rf_isClass ⟨rfl, rfl, by decide, by decide⟩ (rc_rf X) rfl L.1 rfl (Nat.le_of_ble_eq_true rfl) d_rf_fails_159 (fun H locs X => ?_)
              refine lv_if_eq (tgt := 169) X.1.1 X.1.2.1 d_rf_fails_162 rfl (fun h162 => ?_) (fun h162 => ?_)
              · skip
                refine lv_iconst (v := 0) X.1.1 X.1.2.1 d_rf_fails_169 rfl ?_
                exact X.iret hr hlk d_rf_fails_170 (by first | exact absurd q42_4 h150 | exact absurd (q42_1.symm.trans h150) (by decide) | (simp only [failsM, tpM, fails1M, fa1M, fa5M, fa8M, fa9M, fa12M, eq_false h14, eq_true h22, eq_false q42_0, eq_false q42_1, eq_false q42_2, eq_false q42_3, eq_true q42_4, eq_false h133, eq_true h145, eq_true h150, eq_true h162, if_true, if_false]; done) | (simp [failsM, tpM, fails1M, fa1M, fa5M, fa8M, fa9M, fa12M, eq_false h14, eq_true h22, eq_false q42_0, eq_false q42_1, eq_false q42_2, eq_false q42_3, eq_true q42_4, eq_false h133, eq_true h145, eq_true h150, eq_true h162]; done)) rfl
              · skip
                refine lv_iconst (v := 3) X.1.1 X.1.2.1 d_rf_fails_165 rfl ?_
                refine lv_goto (tgt := 170) X.1.1 X.1.2.1 d_rf_fails_166 rfl ?_
                exact X.iret hr hlk d_rf_fails_170 (by first | exact absurd q42_4 h150 | exact absurd (q42_1.symm.trans h150) (by decide) | (simp only [failsM, tpM, fails1M, fa1M, fa5M, fa8M, fa9M, fa12M, eq_false h14, eq_true h22, eq_false q42_0, eq_false q42_1, eq_false q42_2, eq_false q42_3, eq_true q42_4, eq_false h133, eq_true h145, eq_true h150, eq_false h162, if_true, if_false]; done) | (simp [failsM, tpM, fails1M, fa1M, fa5M, fa8M, fa9M, fa12M, eq_false h14, eq_true h22, eq_false q42_0, eq_false q42_1, eq_false q42_2, eq_false q42_3, eq_true q42_4, eq_false h133, eq_true h145, eq_true h150, eq_false h162]; done)) rfl
      by_cases q42_5 : p = 5
      · refine lv_tableIn (tgt := 171) X.1.1 X.1.2.1 d_rf_fails_42 (by rw [q42_5]; decide) (by rw [q42_5]; decide) (by rw [q42_5]; rfl) rfl ?_
        refine lv_iload_n X.1.1 X.1.2.1 d_rf_fails_171 rfl (lv_at L 2 rfl) ?_
        refine lv_bipush (v := 7) X.1.1 X.1.2.1 d_rf_fails_172 rfl ?_
        refine lv_icmp_le (tgt := 181) X.1.1 X.1.2.1 d_rf_fails_174 rfl (fun h174 => ?_) (fun h174 => ?_)
        · skip
          have hd : A % 3 + 1 ≤ dpt τ c := by first | (have e5 := p_eq ep hP (k := 5) q42_5 (by omega); rw [e5, wn_5 (Or.inl rfl)] at hw; exact hw) | (have e6 := p_eq ep hP (k := 6) q42_6 (by omega); rw [e6, wn_5 (Or.inr rfl)] at hw; exact hw)
          refine lv_aload_n X.1.1 X.1.2.1 d_rf_fails_181 rfl (lv_at L 0 rfl) ?_
          refine lv_aload_n X.1.1 X.1.2.1 d_rf_fails_182 rfl (lv_at L 0 rfl) ?_
          refine lv_iload_n X.1.1 X.1.2.1 d_rf_fails_183 rfl (lv_at L 1 rfl) ?_
          refine lv_iload_n X.1.1 X.1.2.1 d_rf_fails_184 rfl (lv_at L 2 rfl) ?_
          refine Mi.callV (k := 2) (c_rf_beginning hI _ _ _ hA.rgm (fun _ => by rw [ea, args16 ha]; exact hA.top1 hd) hA.c2) X (gt_V mw_690 mw_692 ms_46 mw_5 mw_693) ok_rf_beginning ⟨rfl, rfl, by decide, by decide⟩ (rc_rf X) rfl L.1 rfl (Nat.le_of_ble_eq_true rfl) d_rf_fails_185 (fun H locs X => ?_)
          refine lv_iload_n X.1.1 X.1.2.1 d_rf_fails_188 rfl (lv_at L 2 rfl) ?_
          refine Mi.callV (k := 2) (c_rf_found hI _ _ _ (by rw [ea]; exact sup_begin hA p ha hd) (by rw [ea] at h174 ⊢; exact vp_k (by have := (nI_leI (b := 7) (by omega) (by omega)).mp h174; omega) (by decide))) X (gt_V mw_656 mw_658 ms_40 mw_5 mw_659) ok_rf_found ⟨rfl, rfl, by decide, by decide⟩ (rc_rf X) rfl L.1 rfl (Nat.le_of_ble_eq_true rfl) d_rf_fails_189 (fun H locs X => ?_)
          refine lv_if_ne (tgt := 199) X.1.1 X.1.2.1 d_rf_fails_192 rfl (fun h192 => ?_) (fun h192 => ?_)
          · skip
            refine lv_aload_n X.1.1 X.1.2.1 d_rf_fails_199 rfl (lv_at L 0 rfl) ?_
            refine Mi.callV (k := 0) (c_rf_room hI _) X (gt_V mw_592 mw_594 ms_35 mw_5 mw_595) ok_rf_room ⟨rfl, rfl, by decide, by decide⟩ (rc_rf X) rfl L.1 rfl (Nat.le_of_ble_eq_true rfl) d_rf_fails_200 (fun H locs X => ?_)
            refine lv_if_ge (tgt := 210) X.1.1 X.1.2.1 d_rf_fails_203 rfl (fun h203 => ?_) (fun h203 => ?_)
            · skip
              refine lv_iconst (v := 0) X.1.1 X.1.2.1 d_rf_fails_210 rfl ?_
              exact X.iret hr hlk d_rf_fails_211 (by first | (simp only [failsM, tpM, fails1M, fa1M, fa5M, fa8M, fa9M, fa12M, eq_false h14, eq_true h22, eq_false q42_0, eq_false q42_1, eq_false q42_2, eq_false q42_3, eq_false q42_4, eq_true q42_5, eq_true h174, eq_false h192, eq_true h203, if_true, if_false]; done) | (simp [failsM, tpM, fails1M, fa1M, fa5M, fa8M, fa9M, fa12M, eq_false h14, eq_true h22, eq_false q42_0, eq_false q42_1, eq_false q42_2, eq_false q42_3, eq_false q42_4, eq_true q42_5, eq_true h174, eq_false h192, eq_true h203]; done) | (simp [failsM, tpM, fails1M, fa1M, fa5M, fa8M, fa9M, fa12M, h14, h22, q42_0, q42_1, q42_2, q42_3, q42_4, q42_5, h174, h192, h203]; done) | rfl) rfl
            · skip
              refine lv_iconst (v := 4) X.1.1 X.1.2.1 d_rf_fails_206 rfl ?_
              refine lv_goto (tgt := 211) X.1.1 X.1.2.1 d_rf_fails_207 rfl ?_
              exact X.iret hr hlk d_rf_fails_211 (by first | (simp only [failsM, tpM, fails1M, fa1M, fa5M, fa8M, fa9M, fa12M, eq_false h14, eq_true h22, eq_false q42_0, eq_false q42_1, eq_false q42_2, eq_false q42_3, eq_false q42_4, eq_true q42_5, eq_true h174, eq_false h192, eq_false h203, if_true, if_false]; done) | (simp [failsM, tpM, fails1M, fa1M, fa5M, fa8M, fa9M, fa12M, eq_false h14, eq_true h22, eq_false q42_0, eq_false q42_1, eq_false q42_2, eq_false q42_3, eq_false q42_4, eq_true q42_5, eq_true h174, eq_false h192, eq_false h203]; done) | (simp [failsM, tpM, fails1M, fa1M, fa5M, fa8M, fa9M, fa12M, h14, h22, q42_0, q42_1, q42_2, q42_3, q42_4, q42_5, h174, h192, h203]; done) | rfl) rfl
          · skip
            refine lv_iconst (v := 2) X.1.1 X.1.2.1 d_rf_fails_195 rfl ?_
            refine lv_goto (tgt := 211) X.1.1 X.1.2.1 d_rf_fails_196 rfl ?_
            exact X.iret hr hlk d_rf_fails_211 (by first | (simp only [failsM, tpM, fails1M, fa1M, fa5M, fa8M, fa9M, fa12M, eq_false h14, eq_true h22, eq_false q42_0, eq_false q42_1, eq_false q42_2, eq_false q42_3, eq_false q42_4, eq_true q42_5, eq_true h174, eq_true h192, if_true, if_false]; done) | (simp [failsM, tpM, fails1M, fa1M, fa5M, fa8M, fa9M, fa12M, eq_false h14, eq_true h22, eq_false q42_0, eq_false q42_1, eq_false q42_2, eq_false q42_3, eq_false q42_4, eq_true q42_5, eq_true h174, eq_true h192]; done) | (simp [failsM, tpM, fails1M, fa1M, fa5M, fa8M, fa9M, fa12M, h14, h22, q42_0, q42_1, q42_2, q42_3, q42_4, q42_5, h174, h192]; done) | rfl) rfl
        · skip
          refine lv_iconst (v := 3) X.1.1 X.1.2.1 d_rf_fails_177 rfl ?_
          refine lv_goto (tgt := 211) X.1.1 X.1.2.1 d_rf_fails_178 rfl ?_
          exact X.iret hr hlk d_rf_fails_211 (by first | (simp only [failsM, tpM, fails1M, fa1M, fa5M, fa8M, fa9M, fa12M, eq_false h14, eq_true h22, eq_false q42_0, eq_false q42_1, eq_false q42_2, eq_false q42_3, eq_false q42_4, eq_true q42_5, eq_false h174, if_true, if_false]; done) | (simp [failsM, tpM, fails1M, fa1M, fa5M, fa8M, fa9M, fa12M, eq_false h14, eq_true h22, eq_false q42_0, eq_false q42_1, eq_false q42_2, eq_false q42_3, eq_false q42_4, eq_true q42_5, eq_false h174]; done) | (simp [failsM, tpM, fails1M, fa1M, fa5M, fa8M, fa9M, fa12M, h14, h22, q42_0, q42_1, q42_2, q42_3, q42_4, q42_5, h174]; done) | rfl) rfl
      by_cases q42_6 : p = 6
      · refine lv_tableIn (tgt := 171) X.1.1 X.1.2.1 d_rf_fails_42 (by rw [q42_6]; decide) (by rw [q42_6]; decide) (by rw [q42_6]; rfl) rfl ?_
        refine lv_iload_n X.1.1 X.1.2.1 d_rf_fails_171 rfl (lv_at L 2 rfl) ?_
        refine lv_bipush (v := 7) X.1.1 X.1.2.1 d_rf_fails_172 rfl ?_
        refine lv_icmp_le (tgt := 181) X.1.1 X.1.2.1 d_rf_fails_174 rfl (fun h174 => ?_) (fun h174 => ?_)
        · skip
          have hd : A % 3 + 1 ≤ dpt τ c := by first | (have e5 := p_eq ep hP (k := 5) q42_5 (by omega); rw [e5, wn_5 (Or.inl rfl)] at hw; exact hw) | (have e6 := p_eq ep hP (k := 6) q42_6 (by omega); rw [e6, wn_5 (Or.inr rfl)] at hw; exact hw)
          refine lv_aload_n X.1.1 X.1.2.1 d_rf_fails_181 rfl (lv_at L 0 rfl) ?_
          refine lv_aload_n X.1.1 X.1.2.1 d_rf_fails_182 rfl (lv_at L 0 rfl) ?_
          refine lv_iload_n X.1.1 X.1.2.1 d_rf_fails_183 rfl (lv_at L 1 rfl) ?_
          refine lv_iload_n X.1.1 X.1.2.1 d_rf_fails_184 rfl (lv_at L 2 rfl) ?_
          refine Mi.callV (k := 2) (c_rf_beginning hI _ _ _ hA.rgm (fun _ => by rw [ea, args16 ha]; exact hA.top1 hd) hA.c2) X (gt_V mw_690 mw_692 ms_46 mw_5 mw_693) ok_rf_beginning ⟨rfl, rfl, by decide, by decide⟩ (rc_rf X) rfl L.1 rfl (Nat.le_of_ble_eq_true rfl) d_rf_fails_185 (fun H locs X => ?_)
          refine lv_iload_n X.1.1 X.1.2.1 d_rf_fails_188 rfl (lv_at L 2 rfl) ?_
          refine Mi.callV (k := 2) (c_rf_found hI _ _ _ (by rw [ea]; exact sup_begin hA p ha hd) (by rw [ea] at h174 ⊢; exact vp_k (by have := (nI_leI (b := 7) (by omega) (by omega)).mp h174; omega) (by decide))) X (gt_V mw_656 mw_658 ms_40 mw_5 mw_659) ok_rf_found ⟨rfl, rfl, by decide, by decide⟩ (rc_rf X) rfl L.1 rfl (Nat.le_of_ble_eq_true rfl) d_rf_fails_189 (fun H locs X => ?_)
          refine lv_if_ne (tgt := 199) X.1.1 X.1.2.1 d_rf_fails_192 rfl (fun h192 => ?_) (fun h192 => ?_)
          · skip
            refine lv_aload_n X.1.1 X.1.2.1 d_rf_fails_199 rfl (lv_at L 0 rfl) ?_
            refine Mi.callV (k := 0) (c_rf_room hI _) X (gt_V mw_592 mw_594 ms_35 mw_5 mw_595) ok_rf_room ⟨rfl, rfl, by decide, by decide⟩ (rc_rf X) rfl L.1 rfl (Nat.le_of_ble_eq_true rfl) d_rf_fails_200 (fun H locs X => ?_)
            refine lv_if_ge (tgt := 210) X.1.1 X.1.2.1 d_rf_fails_203 rfl (fun h203 => ?_) (fun h203 => ?_)
            · skip
              refine lv_iconst (v := 0) X.1.1 X.1.2.1 d_rf_fails_210 rfl ?_
              exact X.iret hr hlk d_rf_fails_211 (by first | (simp only [failsM, tpM, fails1M, fa1M, fa5M, fa8M, fa9M, fa12M, eq_false h14, eq_true h22, eq_false q42_0, eq_false q42_1, eq_false q42_2, eq_false q42_3, eq_false q42_4, eq_false q42_5, eq_true q42_6, eq_true h174, eq_false h192, eq_true h203, if_true, if_false]; done) | (simp [failsM, tpM, fails1M, fa1M, fa5M, fa8M, fa9M, fa12M, eq_false h14, eq_true h22, eq_false q42_0, eq_false q42_1, eq_false q42_2, eq_false q42_3, eq_false q42_4, eq_false q42_5, eq_true q42_6, eq_true h174, eq_false h192, eq_true h203]; done) | (simp [failsM, tpM, fails1M, fa1M, fa5M, fa8M, fa9M, fa12M, h14, h22, q42_0, q42_1, q42_2, q42_3, q42_4, q42_5, q42_6, h174, h192, h203]; done) | rfl) rfl
            · skip
              refine lv_iconst (v := 4) X.1.1 X.1.2.1 d_rf_fails_206 rfl ?_
              refine lv_goto (tgt := 211) X.1.1 X.1.2.1 d_rf_fails_207 rfl ?_
              exact X.iret hr hlk d_rf_fails_211 (by first | (simp only [failsM, tpM, fails1M, fa1M, fa5M, fa8M, fa9M, fa12M, eq_false h14, eq_true h22, eq_false q42_0, eq_false q42_1, eq_false q42_2, eq_false q42_3, eq_false q42_4, eq_false q42_5, eq_true q42_6, eq_true h174, eq_false h192, eq_false h203, if_true, if_false]; done) | (simp [failsM, tpM, fails1M, fa1M, fa5M, fa8M, fa9M, fa12M, eq_false h14, eq_true h22, eq_false q42_0, eq_false q42_1, eq_false q42_2, eq_false q42_3, eq_false q42_4, eq_false q42_5, eq_true q42_6, eq_true h174, eq_false h192, eq_false h203]; done) | (simp [failsM, tpM, fails1M, fa1M, fa5M, fa8M, fa9M, fa12M, h14, h22, q42_0, q42_1, q42_2, q42_3, q42_4, q42_5, q42_6, h174, h192, h203]; done) | rfl) rfl
          · skip
            refine lv_iconst (v := 2) X.1.1 X.1.2.1 d_rf_fails_195 rfl ?_
            refine lv_goto (tgt := 211) X.1.1 X.1.2.1 d_rf_fails_196 rfl ?_
            exact X.iret hr hlk d_rf_fails_211 (by first | (simp only [failsM, tpM, fails1M, fa1M, fa5M, fa8M, fa9M, fa12M, eq_false h14, eq_true h22, eq_false q42_0, eq_false q42_1, eq_false q42_2, eq_false q42_3, eq_false q42_4, eq_false q42_5, eq_true q42_6, eq_true h174, eq_true h192, if_true, if_false]; done) | (simp [failsM, tpM, fails1M, fa1M, fa5M, fa8M, fa9M, fa12M, eq_false h14, eq_true h22, eq_false q42_0, eq_false q42_1, eq_false q42_2, eq_false q42_3, eq_false q42_4, eq_false q42_5, eq_true q42_6, eq_true h174, eq_true h192]; done) | (simp [failsM, tpM, fails1M, fa1M, fa5M, fa8M, fa9M, fa12M, h14, h22, q42_0, q42_1, q42_2, q42_3, q42_4, q42_5, q42_6, h174, h192]; done) | rfl) rfl
        · skip
          refine lv_iconst (v := 3) X.1.1 X.1.2.1 d_rf_fails_177 rfl ?_
          refine lv_goto (tgt := 211) X.1.1 X.1.2.1 d_rf_fails_178 rfl ?_
          exact X.iret hr hlk d_rf_fails_211 (by first | (simp only [failsM, tpM, fails1M, fa1M, fa5M, fa8M, fa9M, fa12M, eq_false h14, eq_true h22, eq_false q42_0, eq_false q42_1, eq_false q42_2, eq_false q42_3, eq_false q42_4, eq_false q42_5, eq_true q42_6, eq_false h174, if_true, if_false]; done) | (simp [failsM, tpM, fails1M, fa1M, fa5M, fa8M, fa9M, fa12M, eq_false h14, eq_true h22, eq_false q42_0, eq_false q42_1, eq_false q42_2, eq_false q42_3, eq_false q42_4, eq_false q42_5, eq_true q42_6, eq_false h174]; done) | (simp [failsM, tpM, fails1M, fa1M, fa5M, fa8M, fa9M, fa12M, h14, h22, q42_0, q42_1, q42_2, q42_3, q42_4, q42_5, q42_6, h174]; done) | rfl) rfl
      by_cases q42_7 : p = 7
      · refine lv_tableIn (tgt := 212) X.1.1 X.1.2.1 d_rf_fails_42 (by rw [q42_7]; decide) (by rw [q42_7]; decide) (by rw [q42_7]; rfl) rfl ?_
        refine lv_aload_n X.1.1 X.1.2.1 d_rf_fails_212 rfl (lv_at L 0 rfl) ?_
        refine lv_iload_n X.1.1 X.1.2.1 d_rf_fails_213 rfl (lv_at L 2 rfl) ?_
        refine Mi.callV (k := 1) (c_rf_workFails hI _ _ hA.rgm (by have e7 := p_eq ep hP (k := 7) q42_7 (by omega); rw [e7, wn_7] at hw; rw [hA.tpd.2]; omega)) X (gt_V mw_702 mw_704 ms_49 mw_5 mw_705) ok_rf_workFails ⟨rfl, rfl, by decide, by decide⟩ (rc_rf X) rfl L.1 rfl (Nat.le_of_ble_eq_true rfl) d_rf_fails_214 (fun H locs X => ?_)
        exact X.iret hr hlk d_rf_fails_217 (by first | (simp only [failsM, tpM, fails1M, fa1M, fa5M, fa8M, fa9M, fa12M, eq_false h14, eq_true h22, eq_false q42_0, eq_false q42_1, eq_false q42_2, eq_false q42_3, eq_false q42_4, eq_false q42_5, eq_false q42_6, eq_true q42_7, if_true, if_false]; done) | (simp [failsM, tpM, fails1M, fa1M, fa5M, fa8M, fa9M, fa12M, eq_false h14, eq_true h22, eq_false q42_0, eq_false q42_1, eq_false q42_2, eq_false q42_3, eq_false q42_4, eq_false q42_5, eq_false q42_6, eq_true q42_7]; done) | (simp [failsM, tpM, fails1M, fa1M, fa5M, fa8M, fa9M, fa12M, h14, h22, q42_0, q42_1, q42_2, q42_3, q42_4, q42_5, q42_6, q42_7]; done) | rfl) rfl
      by_cases q42_8 : p = 8
      · refine lv_tableIn (tgt := 218) X.1.1 X.1.2.1 d_rf_fails_42 (by rw [q42_8]; decide) (by rw [q42_8]; decide) (by rw [q42_8]; rfl) rfl ?_
        refine lv_iload_n X.1.1 X.1.2.1 d_rf_fails_218 rfl (lv_at L 3 rfl) ?_
        refine lv_iconst (v := 1) X.1.1 X.1.2.1 d_rf_fails_219 rfl ?_
        refine lv_iadd X.1.1 X.1.2.1 d_rf_fails_220 ?_
        refine lv_iload_n X.1.1 X.1.2.1 d_rf_fails_221 rfl (lv_at L 2 rfl) ?_
        refine lv_iadd X.1.1 X.1.2.1 d_rf_fails_222 ?_
        refine lv_bipush (v := 16) X.1.1 X.1.2.1 d_rf_fails_223 rfl ?_
        refine lv_icmp_le (tgt := 232) X.1.1 X.1.2.1 d_rf_fails_225 rfl (fun h225 => ?_) (fun h225 => ?_)
        · skip
          refine lv_iconst (v := 0) X.1.1 X.1.2.1 d_rf_fails_232 rfl ?_
          exact X.iret hr hlk d_rf_fails_233 (by first | (simp only [failsM, tpM, fails1M, fa1M, fa5M, fa8M, fa9M, fa12M, eq_false h14, eq_true h22, eq_false q42_0, eq_false q42_1, eq_false q42_2, eq_false q42_3, eq_false q42_4, eq_false q42_5, eq_false q42_6, eq_false q42_7, eq_true q42_8, eq_true h225, if_true, if_false]; done) | (simp [failsM, tpM, fails1M, fa1M, fa5M, fa8M, fa9M, fa12M, eq_false h14, eq_true h22, eq_false q42_0, eq_false q42_1, eq_false q42_2, eq_false q42_3, eq_false q42_4, eq_false q42_5, eq_false q42_6, eq_false q42_7, eq_true q42_8, eq_true h225]; done) | (simp [failsM, tpM, fails1M, fa1M, fa5M, fa8M, fa9M, fa12M, h14, h22, q42_0, q42_1, q42_2, q42_3, q42_4, q42_5, q42_6, q42_7, q42_8, h225]; done) | rfl) rfl
        · skip
          refine lv_iconst (v := 3) X.1.1 X.1.2.1 d_rf_fails_228 rfl ?_
          refine lv_goto (tgt := 233) X.1.1 X.1.2.1 d_rf_fails_229 rfl ?_
          exact X.iret hr hlk d_rf_fails_233 (by first | (simp only [failsM, tpM, fails1M, fa1M, fa5M, fa8M, fa9M, fa12M, eq_false h14, eq_true h22, eq_false q42_0, eq_false q42_1, eq_false q42_2, eq_false q42_3, eq_false q42_4, eq_false q42_5, eq_false q42_6, eq_false q42_7, eq_true q42_8, eq_false h225, if_true, if_false]; done) | (simp [failsM, tpM, fails1M, fa1M, fa5M, fa8M, fa9M, fa12M, eq_false h14, eq_true h22, eq_false q42_0, eq_false q42_1, eq_false q42_2, eq_false q42_3, eq_false q42_4, eq_false q42_5, eq_false q42_6, eq_false q42_7, eq_true q42_8, eq_false h225]; done) | (simp [failsM, tpM, fails1M, fa1M, fa5M, fa8M, fa9M, fa12M, h14, h22, q42_0, q42_1, q42_2, q42_3, q42_4, q42_5, q42_6, q42_7, q42_8, h225]; done) | rfl) rfl
      by_cases q42_9 : p = 9
      · refine lv_tableIn (tgt := 234) X.1.1 X.1.2.1 d_rf_fails_42 (by rw [q42_9]; decide) (by rw [q42_9]; decide) (by rw [q42_9]; rfl) rfl ?_
        refine lv_aload_n X.1.1 X.1.2.1 d_rf_fails_234 rfl (lv_at L 0 rfl) ?_
        refine lv_iconst (v := 0) X.1.1 X.1.2.1 d_rf_fails_235 rfl ?_
        refine Mi.callV (k := 1) (c_rf_fromTop hI _ _ hA.rgm (by decide) (by rw [n0, hA.tpd.2]; have e9 := p_eq ep hP (k := 9) q42_9 (by omega); rw [e9, wn_1 (by omega)] at hw; omega)) X (gt_V mw_694 mw_696 ms_47 mw_5 mw_697) ok_rf_fromTop ⟨rfl, rfl, by decide, by decide⟩ (rc_rf X) rfl L.1 rfl (Nat.le_of_ble_eq_true rfl) d_rf_fails_236 (fun H locs X => ?_)
        refine lv_if_ne (tgt := 256) X.1.1 X.1.2.1 d_rf_fails_239 rfl (fun h239 => ?_) (fun h239 => ?_)
        · skip
          refine lv_iconst (v := 0) X.1.1 X.1.2.1 d_rf_fails_256 rfl ?_
          exact X.iret hr hlk d_rf_fails_257 (by first | (simp only [failsM, tpM, fails1M, fa1M, fa5M, fa8M, fa9M, fa12M, eq_false h14, eq_true h22, eq_false q42_0, eq_false q42_1, eq_false q42_2, eq_false q42_3, eq_false q42_4, eq_false q42_5, eq_false q42_6, eq_false q42_7, eq_false q42_8, eq_true q42_9, eq_false h239, if_true, if_false]; done) | (simp [failsM, tpM, fails1M, fa1M, fa5M, fa8M, fa9M, fa12M, eq_false h14, eq_true h22, eq_false q42_0, eq_false q42_1, eq_false q42_2, eq_false q42_3, eq_false q42_4, eq_false q42_5, eq_false q42_6, eq_false q42_7, eq_false q42_8, eq_true q42_9, eq_false h239]; done) | (simp [failsM, tpM, fails1M, fa1M, fa5M, fa8M, fa9M, fa12M, h14, h22, q42_0, q42_1, q42_2, q42_3, q42_4, q42_5, q42_6, q42_7, q42_8, q42_9, h239]; done) | rfl) rfl
        · skip
          refine lv_iload_n X.1.1 X.1.2.1 d_rf_fails_242 rfl (lv_at L 3 rfl) ?_
          refine lv_iconst (v := 1) X.1.1 X.1.2.1 d_rf_fails_243 rfl ?_
          refine lv_iadd X.1.1 X.1.2.1 d_rf_fails_244 ?_
          refine lv_iload_n X.1.1 X.1.2.1 d_rf_fails_245 rfl (lv_at L 2 rfl) ?_
          refine lv_iadd X.1.1 X.1.2.1 d_rf_fails_246 ?_
          refine lv_bipush (v := 16) X.1.1 X.1.2.1 d_rf_fails_247 rfl ?_
          refine lv_icmp_le (tgt := 256) X.1.1 X.1.2.1 d_rf_fails_249 rfl (fun h249 => ?_) (fun h249 => ?_)
          · skip
            refine lv_iconst (v := 0) X.1.1 X.1.2.1 d_rf_fails_256 rfl ?_
            exact X.iret hr hlk d_rf_fails_257 (by first | (simp only [failsM, tpM, fails1M, fa1M, fa5M, fa8M, fa9M, fa12M, eq_false h14, eq_true h22, eq_false q42_0, eq_false q42_1, eq_false q42_2, eq_false q42_3, eq_false q42_4, eq_false q42_5, eq_false q42_6, eq_false q42_7, eq_false q42_8, eq_true q42_9, eq_true h239, eq_true h249, if_true, if_false]; done) | (simp [failsM, tpM, fails1M, fa1M, fa5M, fa8M, fa9M, fa12M, eq_false h14, eq_true h22, eq_false q42_0, eq_false q42_1, eq_false q42_2, eq_false q42_3, eq_false q42_4, eq_false q42_5, eq_false q42_6, eq_false q42_7, eq_false q42_8, eq_true q42_9, eq_true h239, eq_true h249]; done) | (simp [failsM, tpM, fails1M, fa1M, fa5M, fa8M, fa9M, fa12M, h14, h22, q42_0, q42_1, q42_2, q42_3, q42_4, q42_5, q42_6, q42_7, q42_8, q42_9, h239, h249]; done) | rfl) rfl
          · skip
            refine lv_iconst (v := 3) X.1.1 X.1.2.1 d_rf_fails_252 rfl ?_
            refine lv_goto (tgt := 257) X.1.1 X.1.2.1 d_rf_fails_253 rfl ?_
            exact X.iret hr hlk d_rf_fails_257 (by first | (simp only [failsM, tpM, fails1M, fa1M, fa5M, fa8M, fa9M, fa12M, eq_false h14, eq_true h22, eq_false q42_0, eq_false q42_1, eq_false q42_2, eq_false q42_3, eq_false q42_4, eq_false q42_5, eq_false q42_6, eq_false q42_7, eq_false q42_8, eq_true q42_9, eq_true h239, eq_false h249, if_true, if_false]; done) | (simp [failsM, tpM, fails1M, fa1M, fa5M, fa8M, fa9M, fa12M, eq_false h14, eq_true h22, eq_false q42_0, eq_false q42_1, eq_false q42_2, eq_false q42_3, eq_false q42_4, eq_false q42_5, eq_false q42_6, eq_false q42_7, eq_false q42_8, eq_true q42_9, eq_true h239, eq_false h249]; done) | (simp [failsM, tpM, fails1M, fa1M, fa5M, fa8M, fa9M, fa12M, h14, h22, q42_0, q42_1, q42_2, q42_3, q42_4, q42_5, q42_6, q42_7, q42_8, q42_9, h239, h249]; done) | rfl) rfl
      by_cases q42_10 : p = 10
      · refine lv_tableIn (tgt := 258) X.1.1 X.1.2.1 d_rf_fails_42 (by rw [q42_10]; decide) (by rw [q42_10]; decide) (by rw [q42_10]; rfl) rfl ?_
        refine lv_iload_n X.1.1 X.1.2.1 d_rf_fails_258 rfl (lv_at L 3 rfl) ?_
        refine lv_iload_n X.1.1 X.1.2.1 d_rf_fails_259 rfl (lv_at L 2 rfl) ?_
        refine lv_isub X.1.1 X.1.2.1 d_rf_fails_260 ?_
        refine lv_if_ge (tgt := 268) X.1.1 X.1.2.1 d_rf_fails_261 rfl (fun h261 => ?_) (fun h261 => ?_)
        · skip
          refine lv_iconst (v := 0) X.1.1 X.1.2.1 d_rf_fails_268 rfl ?_
          exact X.iret hr hlk d_rf_fails_269 (by first | (simp only [failsM, tpM, fails1M, fa1M, fa5M, fa8M, fa9M, fa12M, eq_false h14, eq_true h22, eq_false q42_0, eq_false q42_1, eq_false q42_2, eq_false q42_3, eq_false q42_4, eq_false q42_5, eq_false q42_6, eq_false q42_7, eq_false q42_8, eq_false q42_9, eq_true q42_10, eq_true h261, if_true, if_false]; done) | (simp [failsM, tpM, fails1M, fa1M, fa5M, fa8M, fa9M, fa12M, eq_false h14, eq_true h22, eq_false q42_0, eq_false q42_1, eq_false q42_2, eq_false q42_3, eq_false q42_4, eq_false q42_5, eq_false q42_6, eq_false q42_7, eq_false q42_8, eq_false q42_9, eq_true q42_10, eq_true h261]; done) | (simp [failsM, tpM, fails1M, fa1M, fa5M, fa8M, fa9M, fa12M, h14, h22, q42_0, q42_1, q42_2, q42_3, q42_4, q42_5, q42_6, q42_7, q42_8, q42_9, q42_10, h261]; done) | rfl) rfl
        · skip
          refine lv_iconst (v := 3) X.1.1 X.1.2.1 d_rf_fails_264 rfl ?_
          refine lv_goto (tgt := 269) X.1.1 X.1.2.1 d_rf_fails_265 rfl ?_
          exact X.iret hr hlk d_rf_fails_269 (by first | (simp only [failsM, tpM, fails1M, fa1M, fa5M, fa8M, fa9M, fa12M, eq_false h14, eq_true h22, eq_false q42_0, eq_false q42_1, eq_false q42_2, eq_false q42_3, eq_false q42_4, eq_false q42_5, eq_false q42_6, eq_false q42_7, eq_false q42_8, eq_false q42_9, eq_true q42_10, eq_false h261, if_true, if_false]; done) | (simp [failsM, tpM, fails1M, fa1M, fa5M, fa8M, fa9M, fa12M, eq_false h14, eq_true h22, eq_false q42_0, eq_false q42_1, eq_false q42_2, eq_false q42_3, eq_false q42_4, eq_false q42_5, eq_false q42_6, eq_false q42_7, eq_false q42_8, eq_false q42_9, eq_true q42_10, eq_false h261]; done) | (simp [failsM, tpM, fails1M, fa1M, fa5M, fa8M, fa9M, fa12M, h14, h22, q42_0, q42_1, q42_2, q42_3, q42_4, q42_5, q42_6, q42_7, q42_8, q42_9, q42_10, h261]; done) | rfl) rfl
      by_cases q42_11 : p = 11
      · refine lv_tableIn (tgt := 270) X.1.1 X.1.2.1 d_rf_fails_42 (by rw [q42_11]; decide) (by rw [q42_11]; decide) (by rw [q42_11]; rfl) rfl ?_
        refine lv_iload_n X.1.1 X.1.2.1 d_rf_fails_270 rfl (lv_at L 2 rfl) ?_
        refine lv_iconst (v := 1) X.1.1 X.1.2.1 d_rf_fails_271 rfl ?_
        refine lv_icmp_le (tgt := 279) X.1.1 X.1.2.1 d_rf_fails_272 rfl (fun h272 => ?_) (fun h272 => ?_)
        · skip
          refine lv_iconst (v := 0) X.1.1 X.1.2.1 d_rf_fails_279 rfl ?_
          exact X.iret hr hlk d_rf_fails_280 (by first | (simp only [failsM, tpM, fails1M, fa1M, fa5M, fa8M, fa9M, fa12M, eq_false h14, eq_true h22, eq_false q42_0, eq_false q42_1, eq_false q42_2, eq_false q42_3, eq_false q42_4, eq_false q42_5, eq_false q42_6, eq_false q42_7, eq_false q42_8, eq_false q42_9, eq_false q42_10, eq_true q42_11, eq_true h272, if_true, if_false]; done) | (simp [failsM, tpM, fails1M, fa1M, fa5M, fa8M, fa9M, fa12M, eq_false h14, eq_true h22, eq_false q42_0, eq_false q42_1, eq_false q42_2, eq_false q42_3, eq_false q42_4, eq_false q42_5, eq_false q42_6, eq_false q42_7, eq_false q42_8, eq_false q42_9, eq_false q42_10, eq_true q42_11, eq_true h272]; done) | (simp [failsM, tpM, fails1M, fa1M, fa5M, fa8M, fa9M, fa12M, h14, h22, q42_0, q42_1, q42_2, q42_3, q42_4, q42_5, q42_6, q42_7, q42_8, q42_9, q42_10, q42_11, h272]; done) | rfl) rfl
        · skip
          refine lv_iconst (v := 3) X.1.1 X.1.2.1 d_rf_fails_275 rfl ?_
          refine lv_goto (tgt := 280) X.1.1 X.1.2.1 d_rf_fails_276 rfl ?_
          exact X.iret hr hlk d_rf_fails_280 (by first | (simp only [failsM, tpM, fails1M, fa1M, fa5M, fa8M, fa9M, fa12M, eq_false h14, eq_true h22, eq_false q42_0, eq_false q42_1, eq_false q42_2, eq_false q42_3, eq_false q42_4, eq_false q42_5, eq_false q42_6, eq_false q42_7, eq_false q42_8, eq_false q42_9, eq_false q42_10, eq_true q42_11, eq_false h272, if_true, if_false]; done) | (simp [failsM, tpM, fails1M, fa1M, fa5M, fa8M, fa9M, fa12M, eq_false h14, eq_true h22, eq_false q42_0, eq_false q42_1, eq_false q42_2, eq_false q42_3, eq_false q42_4, eq_false q42_5, eq_false q42_6, eq_false q42_7, eq_false q42_8, eq_false q42_9, eq_false q42_10, eq_true q42_11, eq_false h272]; done) | (simp [failsM, tpM, fails1M, fa1M, fa5M, fa8M, fa9M, fa12M, h14, h22, q42_0, q42_1, q42_2, q42_3, q42_4, q42_5, q42_6, q42_7, q42_8, q42_9, q42_10, q42_11, h272]; done) | rfl) rfl
      by_cases q42_12 : p = 12
      · refine lv_tableIn (tgt := 281) X.1.1 X.1.2.1 d_rf_fails_42 (by rw [q42_12]; decide) (by rw [q42_12]; decide) (by rw [q42_12]; rfl) rfl ?_
        refine lv_iload_n X.1.1 X.1.2.1 d_rf_fails_281 rfl (lv_at L 2 rfl) ?_
        refine lv_if_gt (tgt := 306) X.1.1 X.1.2.1 d_rf_fails_282 rfl (fun h282 => ?_) (fun h282 => ?_)
        · skip
          refine lv_iconst (v := 3) X.1.1 X.1.2.1 d_rf_fails_306 rfl ?_
          refine lv_goto (tgt := 322) X.1.1 X.1.2.1 d_rf_fails_307 rfl ?_
          exact X.iret hr hlk d_rf_fails_322 (by first | (simp only [failsM, tpM, fails1M, fa1M, fa5M, fa8M, fa9M, fa12M, eq_false h14, eq_true h22, eq_false q42_0, eq_false q42_1, eq_false q42_2, eq_false q42_3, eq_false q42_4, eq_false q42_5, eq_false q42_6, eq_false q42_7, eq_false q42_8, eq_false q42_9, eq_false q42_10, eq_false q42_11, eq_true q42_12, eq_true h282, if_true, if_false]; done) | (simp [failsM, tpM, fails1M, fa1M, fa5M, fa8M, fa9M, fa12M, eq_false h14, eq_true h22, eq_false q42_0, eq_false q42_1, eq_false q42_2, eq_false q42_3, eq_false q42_4, eq_false q42_5, eq_false q42_6, eq_false q42_7, eq_false q42_8, eq_false q42_9, eq_false q42_10, eq_false q42_11, eq_true q42_12, eq_true h282]; done) | (simp [failsM, tpM, fails1M, fa1M, fa5M, fa8M, fa9M, fa12M, h14, h22, q42_0, q42_1, q42_2, q42_3, q42_4, q42_5, q42_6, q42_7, q42_8, q42_9, q42_10, q42_11, q42_12, h282]; done) | rfl) rfl
        · skip
          have a0 : A = 0 := Classical.byContradiction (fun z => h282 (by rw [ea]; exact (nI_ltI (a := 0) (b := A) (by omega) (by omega)).mpr (by omega)))
          have h12 : 1 ≤ (tpM σ).toInt := by have e12 := p_eq ep hP (k := 12) q42_12 (by omega); rw [e12, a0, wn_11 (Or.inr rfl)] at hw; rw [hA.tpd.2]; omega
          refine lv_aload_n X.1.1 X.1.2.1 d_rf_fails_285 rfl (lv_at L 0 rfl) ?_
          refine lv_aload_n X.1.1 X.1.2.1 d_rf_fails_286 rfl (lv_at L 0 rfl) ?_
          refine lv_iconst (v := 0) X.1.1 X.1.2.1 d_rf_fails_287 rfl ?_
          refine Mi.callV (k := 1) (c_rf_fromTop hI _ _ hA.rgm (by decide) (by rw [n0]; omega)) X (gt_V mw_694 mw_696 ms_47 mw_5 mw_697) ok_rf_fromTop ⟨rfl, rfl, by decide, by decide⟩ (rc_rf X) rfl L.1 rfl (Nat.le_of_ble_eq_true rfl) d_rf_fails_288 (fun H locs X => ?_)
          refine Mi.callV (k := 1) (c_rf_isClass hI _ _ (hA.rgm.ft (by decide) (by rw [n0]; omega))) X (gt_V mw_588 mw_590 ms_34 mw_5 mw_591) ok_rf_isClass ⟨rfl, rfl, by decide, by decide⟩ (rc_rf X) rfl L.1 rfl (Nat.le_of_ble_eq_true rfl) d_rf_fails_291 (fun H locs X => ?_)
          refine lv_if_eq (tgt := 306) X.1.1 X.1.2.1 d_rf_fails_294 rfl (fun h294 => ?_) (fun h294 => ?_)
          · skip
            refine lv_iconst (v := 3) X.1.1 X.1.2.1 d_rf_fails_306 rfl ?_
            refine lv_goto (tgt := 322) X.1.1 X.1.2.1 d_rf_fails_307 rfl ?_
            exact X.iret hr hlk d_rf_fails_322 (by first | (simp only [failsM, tpM, fails1M, fa1M, fa5M, fa8M, fa9M, fa12M, eq_false h14, eq_true h22, eq_false q42_0, eq_false q42_1, eq_false q42_2, eq_false q42_3, eq_false q42_4, eq_false q42_5, eq_false q42_6, eq_false q42_7, eq_false q42_8, eq_false q42_9, eq_false q42_10, eq_false q42_11, eq_true q42_12, eq_false h282, eq_true h294, if_true, if_false]; done) | (simp [failsM, tpM, fails1M, fa1M, fa5M, fa8M, fa9M, fa12M, eq_false h14, eq_true h22, eq_false q42_0, eq_false q42_1, eq_false q42_2, eq_false q42_3, eq_false q42_4, eq_false q42_5, eq_false q42_6, eq_false q42_7, eq_false q42_8, eq_false q42_9, eq_false q42_10, eq_false q42_11, eq_true q42_12, eq_false h282, eq_true h294]; done) | (simp [failsM, tpM, fails1M, fa1M, fa5M, fa8M, fa9M, fa12M, h14, h22, q42_0, q42_1, q42_2, q42_3, q42_4, q42_5, q42_6, q42_7, q42_8, q42_9, q42_10, q42_11, q42_12, h282, h294]; done) | rfl) rfl
          · skip
            refine lv_aload_n X.1.1 X.1.2.1 d_rf_fails_297 rfl (lv_at L 0 rfl) ?_
            refine lv_iconst (v := 0) X.1.1 X.1.2.1 d_rf_fails_298 rfl ?_
            refine Mi.callV (k := 1) (c_rf_fromTop hI _ _ hA.rgm (by decide) (by rw [n0]; omega)) X (gt_V mw_694 mw_696 ms_47 mw_5 mw_697) ok_rf_fromTop ⟨rfl, rfl, by decide, by decide⟩ (rc_rf X) rfl L.1 rfl (Nat.le_of_ble_eq_true rfl) d_rf_fails_299 (fun H locs X => ?_)
            refine lv_iconst (v := 3) X.1.1 X.1.2.1 d_rf_fails_302 rfl ?_
            refine lv_icmp_ne (tgt := 310) X.1.1 X.1.2.1 d_rf_fails_303 rfl (fun h303 => ?_) (fun h303 => ?_)
            · skip
              refine lv_aload_n X.1.1 X.1.2.1 d_rf_fails_310 rfl (lv_at L 0 rfl) ?_
              refine Mi.callV (k := 0) (c_rf_room hI _) X (gt_V mw_592 mw_594 ms_35 mw_5 mw_595) ok_rf_room ⟨rfl, rfl, by decide, by decide⟩ (rc_rf X) rfl L.1 rfl (Nat.le_of_ble_eq_true rfl) d_rf_fails_311 (fun H locs X => ?_)
              refine lv_if_ge (tgt := 321) X.1.1 X.1.2.1 d_rf_fails_314 rfl (fun h314 => ?_) (fun h314 => ?_)
              · skip
                refine lv_iconst (v := 0) X.1.1 X.1.2.1 d_rf_fails_321 rfl ?_
                exact X.iret hr hlk d_rf_fails_322 (by first | (simp only [failsM, tpM, fails1M, fa1M, fa5M, fa8M, fa9M, fa12M, eq_false h14, eq_true h22, eq_false q42_0, eq_false q42_1, eq_false q42_2, eq_false q42_3, eq_false q42_4, eq_false q42_5, eq_false q42_6, eq_false q42_7, eq_false q42_8, eq_false q42_9, eq_false q42_10, eq_false q42_11, eq_true q42_12, eq_false h282, eq_false h294, eq_false h303, eq_true h314, if_true, if_false]; done) | (simp [failsM, tpM, fails1M, fa1M, fa5M, fa8M, fa9M, fa12M, eq_false h14, eq_true h22, eq_false q42_0, eq_false q42_1, eq_false q42_2, eq_false q42_3, eq_false q42_4, eq_false q42_5, eq_false q42_6, eq_false q42_7, eq_false q42_8, eq_false q42_9, eq_false q42_10, eq_false q42_11, eq_true q42_12, eq_false h282, eq_false h294, eq_false h303, eq_true h314]; done) | (simp [failsM, tpM, fails1M, fa1M, fa5M, fa8M, fa9M, fa12M, h14, h22, q42_0, q42_1, q42_2, q42_3, q42_4, q42_5, q42_6, q42_7, q42_8, q42_9, q42_10, q42_11, q42_12, h282, h294, h303, h314]; done) | rfl) rfl
              · skip
                refine lv_iconst (v := 4) X.1.1 X.1.2.1 d_rf_fails_317 rfl ?_
                refine lv_goto (tgt := 322) X.1.1 X.1.2.1 d_rf_fails_318 rfl ?_
                exact X.iret hr hlk d_rf_fails_322 (by first | (simp only [failsM, tpM, fails1M, fa1M, fa5M, fa8M, fa9M, fa12M, eq_false h14, eq_true h22, eq_false q42_0, eq_false q42_1, eq_false q42_2, eq_false q42_3, eq_false q42_4, eq_false q42_5, eq_false q42_6, eq_false q42_7, eq_false q42_8, eq_false q42_9, eq_false q42_10, eq_false q42_11, eq_true q42_12, eq_false h282, eq_false h294, eq_false h303, eq_false h314, if_true, if_false]; done) | (simp [failsM, tpM, fails1M, fa1M, fa5M, fa8M, fa9M, fa12M, eq_false h14, eq_true h22, eq_false q42_0, eq_false q42_1, eq_false q42_2, eq_false q42_3, eq_false q42_4, eq_false q42_5, eq_false q42_6, eq_false q42_7, eq_false q42_8, eq_false q42_9, eq_false q42_10, eq_false q42_11, eq_true q42_12, eq_false h282, eq_false h294, eq_false h303, eq_false h314]; done) | (simp [failsM, tpM, fails1M, fa1M, fa5M, fa8M, fa9M, fa12M, h14, h22, q42_0, q42_1, q42_2, q42_3, q42_4, q42_5, q42_6, q42_7, q42_8, q42_9, q42_10, q42_11, q42_12, h282, h294, h303, h314]; done) | rfl) rfl
            · skip
              refine lv_iconst (v := 3) X.1.1 X.1.2.1 d_rf_fails_306 rfl ?_
              refine lv_goto (tgt := 322) X.1.1 X.1.2.1 d_rf_fails_307 rfl ?_
              exact X.iret hr hlk d_rf_fails_322 (by first | (simp only [failsM, tpM, fails1M, fa1M, fa5M, fa8M, fa9M, fa12M, eq_false h14, eq_true h22, eq_false q42_0, eq_false q42_1, eq_false q42_2, eq_false q42_3, eq_false q42_4, eq_false q42_5, eq_false q42_6, eq_false q42_7, eq_false q42_8, eq_false q42_9, eq_false q42_10, eq_false q42_11, eq_true q42_12, eq_false h282, eq_false h294, eq_true h303, if_true, if_false]; done) | (simp [failsM, tpM, fails1M, fa1M, fa5M, fa8M, fa9M, fa12M, eq_false h14, eq_true h22, eq_false q42_0, eq_false q42_1, eq_false q42_2, eq_false q42_3, eq_false q42_4, eq_false q42_5, eq_false q42_6, eq_false q42_7, eq_false q42_8, eq_false q42_9, eq_false q42_10, eq_false q42_11, eq_true q42_12, eq_false h282, eq_false h294, eq_true h303]; done) | (simp [failsM, tpM, fails1M, fa1M, fa5M, fa8M, fa9M, fa12M, h14, h22, q42_0, q42_1, q42_2, q42_3, q42_4, q42_5, q42_6, q42_7, q42_8, q42_9, q42_10, q42_11, q42_12, h282, h294, h303]; done) | rfl) rfl
      by_cases q42_13 : p = 13
      · refine lv_tableIn (tgt := 270) X.1.1 X.1.2.1 d_rf_fails_42 (by rw [q42_13]; decide) (by rw [q42_13]; decide) (by rw [q42_13]; rfl) rfl ?_
        refine lv_iload_n X.1.1 X.1.2.1 d_rf_fails_270 rfl (lv_at L 2 rfl) ?_
        refine lv_iconst (v := 1) X.1.1 X.1.2.1 d_rf_fails_271 rfl ?_
        refine lv_icmp_le (tgt := 279) X.1.1 X.1.2.1 d_rf_fails_272 rfl (fun h272 => ?_) (fun h272 => ?_)
        · skip
          refine lv_iconst (v := 0) X.1.1 X.1.2.1 d_rf_fails_279 rfl ?_
          exact X.iret hr hlk d_rf_fails_280 (by first | (simp only [failsM, tpM, fails1M, fa1M, fa5M, fa8M, fa9M, fa12M, eq_false h14, eq_true h22, eq_false q42_0, eq_false q42_1, eq_false q42_2, eq_false q42_3, eq_false q42_4, eq_false q42_5, eq_false q42_6, eq_false q42_7, eq_false q42_8, eq_false q42_9, eq_false q42_10, eq_false q42_11, eq_false q42_12, eq_true q42_13, eq_true h272, if_true, if_false]; done) | (simp [failsM, tpM, fails1M, fa1M, fa5M, fa8M, fa9M, fa12M, eq_false h14, eq_true h22, eq_false q42_0, eq_false q42_1, eq_false q42_2, eq_false q42_3, eq_false q42_4, eq_false q42_5, eq_false q42_6, eq_false q42_7, eq_false q42_8, eq_false q42_9, eq_false q42_10, eq_false q42_11, eq_false q42_12, eq_true q42_13, eq_true h272]; done) | (simp [failsM, tpM, fails1M, fa1M, fa5M, fa8M, fa9M, fa12M, h14, h22, q42_0, q42_1, q42_2, q42_3, q42_4, q42_5, q42_6, q42_7, q42_8, q42_9, q42_10, q42_11, q42_12, q42_13, h272]; done) | rfl) rfl
        · skip
          refine lv_iconst (v := 3) X.1.1 X.1.2.1 d_rf_fails_275 rfl ?_
          refine lv_goto (tgt := 280) X.1.1 X.1.2.1 d_rf_fails_276 rfl ?_
          exact X.iret hr hlk d_rf_fails_280 (by first | (simp only [failsM, tpM, fails1M, fa1M, fa5M, fa8M, fa9M, fa12M, eq_false h14, eq_true h22, eq_false q42_0, eq_false q42_1, eq_false q42_2, eq_false q42_3, eq_false q42_4, eq_false q42_5, eq_false q42_6, eq_false q42_7, eq_false q42_8, eq_false q42_9, eq_false q42_10, eq_false q42_11, eq_false q42_12, eq_true q42_13, eq_false h272, if_true, if_false]; done) | (simp [failsM, tpM, fails1M, fa1M, fa5M, fa8M, fa9M, fa12M, eq_false h14, eq_true h22, eq_false q42_0, eq_false q42_1, eq_false q42_2, eq_false q42_3, eq_false q42_4, eq_false q42_5, eq_false q42_6, eq_false q42_7, eq_false q42_8, eq_false q42_9, eq_false q42_10, eq_false q42_11, eq_false q42_12, eq_true q42_13, eq_false h272]; done) | (simp [failsM, tpM, fails1M, fa1M, fa5M, fa8M, fa9M, fa12M, h14, h22, q42_0, q42_1, q42_2, q42_3, q42_4, q42_5, q42_6, q42_7, q42_8, q42_9, q42_10, q42_11, q42_12, q42_13, h272]; done) | rfl) rfl
      refine lv_tableOut (tgt := 323) X.1.1 X.1.2.1 d_rf_fails_42 (by have := lv_neT q42_0 (show (0 : Int32).toInt = 0 from rfl); have := lv_neT q42_1 (show (1 : Int32).toInt = 1 from rfl); have := lv_neT q42_2 (show (2 : Int32).toInt = 2 from rfl); have := lv_neT q42_3 (show (3 : Int32).toInt = 3 from rfl); have := lv_neT q42_4 (show (4 : Int32).toInt = 4 from rfl); have := lv_neT q42_5 (show (5 : Int32).toInt = 5 from rfl); have := lv_neT q42_6 (show (6 : Int32).toInt = 6 from rfl); have := lv_neT q42_7 (show (7 : Int32).toInt = 7 from rfl); have := lv_neT q42_8 (show (8 : Int32).toInt = 8 from rfl); have := lv_neT q42_9 (show (9 : Int32).toInt = 9 from rfl); have := lv_neT q42_10 (show (10 : Int32).toInt = 10 from rfl); have := lv_neT q42_11 (show (11 : Int32).toInt = 11 from rfl); have := lv_neT q42_12 (show (12 : Int32).toInt = 12 from rfl); have := lv_neT q42_13 (show (13 : Int32).toInt = 13 from rfl); omega) rfl ?_
      refine lv_iload_n X.1.1 X.1.2.1 d_rf_fails_323 rfl (lv_at L 1 rfl) ?_
      refine lv_bipush (v := 13) X.1.1 X.1.2.1 d_rf_fails_324 rfl ?_
      refine lv_icmp_le (tgt := 333) X.1.1 X.1.2.1 d_rf_fails_326 rfl (fun h326 => ?_) (fun h326 => ?_)
      · skip
        refine lv_iconst (v := 0) X.1.1 X.1.2.1 d_rf_fails_333 rfl ?_
        exact X.iret hr hlk d_rf_fails_334 (by first | exact absurd (show p ≤ 13 by rw [q42_2]; decide) h326 | (simp only [failsM, tpM, fails1M, fa1M, fa5M, fa8M, fa9M, fa12M, eq_false h14, eq_true h22, eq_false q42_0, eq_false q42_1, eq_false q42_2, eq_false q42_3, eq_false q42_4, eq_false q42_5, eq_false q42_6, eq_false q42_7, eq_false q42_8, eq_false q42_9, eq_false q42_10, eq_false q42_11, eq_false q42_12, eq_false q42_13, eq_true h326, if_true, if_false]; done) | (simp [failsM, tpM, fails1M, fa1M, fa5M, fa8M, fa9M, fa12M, eq_false h14, eq_true h22, eq_false q42_0, eq_false q42_1, eq_false q42_2, eq_false q42_3, eq_false q42_4, eq_false q42_5, eq_false q42_6, eq_false q42_7, eq_false q42_8, eq_false q42_9, eq_false q42_10, eq_false q42_11, eq_false q42_12, eq_false q42_13, eq_true h326]; done)) rfl
      · skip
        refine lv_iconst (v := 3) X.1.1 X.1.2.1 d_rf_fails_329 rfl ?_
        refine lv_goto (tgt := 334) X.1.1 X.1.2.1 d_rf_fails_330 rfl ?_
        exact X.iret hr hlk d_rf_fails_334 (by first | exact absurd (show p ≤ 13 by rw [q42_2]; decide) h326 | (simp only [failsM, tpM, fails1M, fa1M, fa5M, fa8M, fa9M, fa12M, eq_false h14, eq_true h22, eq_false q42_0, eq_false q42_1, eq_false q42_2, eq_false q42_3, eq_false q42_4, eq_false q42_5, eq_false q42_6, eq_false q42_7, eq_false q42_8, eq_false q42_9, eq_false q42_10, eq_false q42_11, eq_false q42_12, eq_false q42_13, eq_false h326, if_true, if_false]; done) | (simp [failsM, tpM, fails1M, fa1M, fa5M, fa8M, fa9M, fa12M, eq_false h14, eq_true h22, eq_false q42_0, eq_false q42_1, eq_false q42_2, eq_false q42_3, eq_false q42_4, eq_false q42_5, eq_false q42_6, eq_false q42_7, eq_false q42_8, eq_false q42_9, eq_false q42_10, eq_false q42_11, eq_false q42_12, eq_false q42_13, eq_false h326]; done)) rfl
    · skip
      refine lv_aload_n X.1.1 X.1.2.1 d_rf_fails_25 rfl (lv_at L 0 rfl) ?_
      refine g_rf_top X d_rf_fails_26 ?_
      refine lv_aload_n X.1.1 X.1.2.1 d_rf_fails_29 rfl (lv_at L 0 rfl) ?_
      refine g_rf_active X d_rf_fails_30 ?_
      refine rl_11 X hA.rgm.ac d_rf_fails_33 ?_
      refine lv_bipush (v := 6) X.1.1 X.1.2.1 d_rf_fails_34 rfl ?_
      refine lv_icmp_ne (tgt := 41) X.1.1 X.1.2.1 d_rf_fails_36 rfl (fun h36 => ?_) (fun h36 => ?_)
      · skip
        have hw : wu P A ≤ dpt τ c := need_wu hA hP ha (by rw [← ep, ← ea]; exact h14)
        refine lv_iload_n X.1.1 X.1.2.1 d_rf_fails_41 rfl (lv_at L 1 rfl) ?_
        by_cases q42_0 : p = 0
        · refine lv_tableIn (tgt := 112) X.1.1 X.1.2.1 d_rf_fails_42 (by rw [q42_0]; decide) (by rw [q42_0]; decide) (by rw [q42_0]; rfl) rfl ?_
          refine lv_iload_n X.1.1 X.1.2.1 d_rf_fails_112 rfl (lv_at L 2 rfl) ?_
          refine lv_iconst (v := 3) X.1.1 X.1.2.1 d_rf_fails_113 rfl ?_
          refine lv_icmp_le (tgt := 121) X.1.1 X.1.2.1 d_rf_fails_114 rfl (fun h114 => ?_) (fun h114 => ?_)
          · skip
            refine lv_iconst (v := 0) X.1.1 X.1.2.1 d_rf_fails_121 rfl ?_
            exact X.iret hr hlk d_rf_fails_122 (by first | (simp only [failsM, tpM, fails1M, fa1M, fa5M, fa8M, fa9M, fa12M, eq_false h14, eq_false h22, eq_false h36, eq_true q42_0, eq_true h114, if_true, if_false]; done) | (simp [failsM, tpM, fails1M, fa1M, fa5M, fa8M, fa9M, fa12M, eq_false h14, eq_false h22, eq_false h36, eq_true q42_0, eq_true h114]; done) | (simp [failsM, tpM, fails1M, fa1M, fa5M, fa8M, fa9M, fa12M, h14, h22, h36, q42_0, h114]; done) | rfl) rfl
          · skip
            refine lv_iconst (v := 3) X.1.1 X.1.2.1 d_rf_fails_117 rfl ?_
            refine lv_goto (tgt := 122) X.1.1 X.1.2.1 d_rf_fails_118 rfl ?_
            exact X.iret hr hlk d_rf_fails_122 (by first | (simp only [failsM, tpM, fails1M, fa1M, fa5M, fa8M, fa9M, fa12M, eq_false h14, eq_false h22, eq_false h36, eq_true q42_0, eq_false h114, if_true, if_false]; done) | (simp [failsM, tpM, fails1M, fa1M, fa5M, fa8M, fa9M, fa12M, eq_false h14, eq_false h22, eq_false h36, eq_true q42_0, eq_false h114]; done) | (simp [failsM, tpM, fails1M, fa1M, fa5M, fa8M, fa9M, fa12M, h14, h22, h36, q42_0, h114]; done) | rfl) rfl
        by_cases q42_1 : p = 1
        · refine lv_tableIn (tgt := 123) X.1.1 X.1.2.1 d_rf_fails_42 (by rw [q42_1]; decide) (by rw [q42_1]; decide) (by rw [q42_1]; rfl) rfl ?_
          refine lv_aload_n X.1.1 X.1.2.1 d_rf_fails_123 rfl (lv_at L 0 rfl) ?_
          refine lv_aload_n X.1.1 X.1.2.1 d_rf_fails_124 rfl (lv_at L 0 rfl) ?_
          refine lv_iconst (v := 1) X.1.1 X.1.2.1 d_rf_fails_125 rfl ?_
          refine Mi.callV (k := 1) (c_rf_at hI _ _ hA.rgm (vpc (by decide))) X (gt_V mw_672 mw_674 ms_43 mw_5 mw_675) ok_rf_at ⟨rfl, rfl, by decide, by decide⟩ (rc_rf X) rfl L.1 rfl (Nat.le_of_ble_eq_true rfl) d_rf_fails_126 (fun H locs X => ?_)
          refine lv_iload_n X.1.1 X.1.2.1 d_rf_fails_129 rfl (lv_at L 2 rfl) ?_
          refine Mi.callV (k := 2) (c_rf_hasField hI _ _ _ (hA.rgm.at (vpc (by decide)))) X (gt_V mw_632 mw_634 ms_38 mw_5 mw_635) ok_rf_hasField ⟨rfl, rfl, by decide, by decide⟩ (rc_rf X) rfl L.1 rfl (Nat.le_of_ble_eq_true rfl) d_rf_fails_130 (fun H locs X => ?_)
          refine lv_if_eq (tgt := 165) X.1.1 X.1.2.1 d_rf_fails_133 rfl (fun h133 => ?_) (fun h133 => ?_)
          · skip
            refine lv_iconst (v := 3) X.1.1 X.1.2.1 d_rf_fails_165 rfl ?_
            refine lv_goto (tgt := 170) X.1.1 X.1.2.1 d_rf_fails_166 rfl ?_
            exact X.iret hr hlk d_rf_fails_170 (by first | exact absurd q42_4 h150 | exact absurd (q42_1.symm.trans h150) (by decide) | (simp only [failsM, tpM, fails1M, fa1M, fa5M, fa8M, fa9M, fa12M, eq_false h14, eq_false h22, eq_false h36, eq_false q42_0, eq_true q42_1, eq_true h133, if_true, if_false]; done) | (simp [failsM, tpM, fails1M, fa1M, fa5M, fa8M, fa9M, fa12M, eq_false h14, eq_false h22, eq_false h36, eq_false q42_0, eq_true q42_1, eq_true h133]; done)) rfl
          · skip
            refine lv_aload_n X.1.1 X.1.2.1 d_rf_fails_136 rfl (lv_at L 0 rfl) ?_
            refine lv_aload_n X.1.1 X.1.2.1 d_rf_fails_137 rfl (lv_at L 0 rfl) ?_
            refine lv_iconst (v := 1) X.1.1 X.1.2.1 d_rf_fails_138 rfl ?_
            refine Mi.callV (k := 1) (c_rf_at hI _ _ hA.rgm (vpc (by decide))) X (gt_V mw_672 mw_674 ms_43 mw_5 mw_675) ok_rf_at ⟨rfl, rfl, by decide, by decide⟩ (rc_rf X) rfl L.1 rfl (Nat.le_of_ble_eq_true rfl) d_rf_fails_139 (fun H locs X => ?_)
            refine Mi.callV (k := 1) (c_rf_isContext hI _ _ (hA.rgm.at (vpc (by decide)))) X (gt_V mw_686 mw_688 ms_45 mw_5 mw_689) ok_rf_isContext ⟨rfl, rfl, by decide, by decide⟩ (rc_rf X) rfl L.1 rfl (Nat.le_of_ble_eq_true rfl) d_rf_fails_142 (fun H locs X => ?_)
            refine lv_if_ne (tgt := 165) X.1.1 X.1.2.1 d_rf_fails_145 rfl (fun h145 => ?_) (fun h145 => ?_)
            · skip
              refine lv_iconst (v := 3) X.1.1 X.1.2.1 d_rf_fails_165 rfl ?_
              refine lv_goto (tgt := 170) X.1.1 X.1.2.1 d_rf_fails_166 rfl ?_
              exact X.iret hr hlk d_rf_fails_170 (by first | exact absurd q42_4 h150 | exact absurd (q42_1.symm.trans h150) (by decide) | (simp only [failsM, tpM, fails1M, fa1M, fa5M, fa8M, fa9M, fa12M, eq_false h14, eq_false h22, eq_false h36, eq_false q42_0, eq_true q42_1, eq_false h133, eq_false h145, if_true, if_false]; done) | (simp [failsM, tpM, fails1M, fa1M, fa5M, fa8M, fa9M, fa12M, eq_false h14, eq_false h22, eq_false h36, eq_false q42_0, eq_true q42_1, eq_false h133, eq_false h145]; done)) rfl
            · skip
              refine lv_iload_n X.1.1 X.1.2.1 d_rf_fails_148 rfl (lv_at L 1 rfl) ?_
              refine lv_iconst (v := 4) X.1.1 X.1.2.1 d_rf_fails_149 rfl ?_
              refine lv_icmp_ne (tgt := 169) X.1.1 X.1.2.1 d_rf_fails_150 rfl (fun h150 => ?_) (fun h150 => ?_)
              · skip
                refine lv_iconst (v := 0) X.1.1 X.1.2.1 d_rf_fails_169 rfl ?_
                exact X.iret hr hlk d_rf_fails_170 (by first | exact absurd q42_4 h150 | exact absurd (q42_1.symm.trans h150) (by decide) | (simp only [failsM, tpM, fails1M, fa1M, fa5M, fa8M, fa9M, fa12M, eq_false h14, eq_false h22, eq_false h36, eq_false q42_0, eq_true q42_1, eq_false h133, eq_true h145, eq_false h150, if_true, if_false]; done) | (simp [failsM, tpM, fails1M, fa1M, fa5M, fa8M, fa9M, fa12M, eq_false h14, eq_false h22, eq_false h36, eq_false q42_0, eq_true q42_1, eq_false h133, eq_true h145, eq_false h150]; done)) rfl
              · skip
                refine lv_aload_n X.1.1 X.1.2.1 d_rf_fails_153 rfl (lv_at L 0 rfl) ?_
                refine lv_aload_n X.1.1 X.1.2.1 d_rf_fails_154 rfl (lv_at L 0 rfl) ?_
                refine lv_iconst (v := 1) X.1.1 X.1.2.1 d_rf_fails_155 rfl ?_
                refine Mi.callV (k := 1) (c_rf_at hI _ _ hA.rgm (vpc (by decide))) X (gt_V mw_672 mw_674 ms_43 mw_5 mw_675) ok_rf_at ⟨rfl, rfl, by decide, by decide⟩ (rc_rf X) rfl L.1 rfl (Nat.le_of_ble_eq_true rfl) d_rf_fails_156 (fun H locs X => ?_)
                refine Mi.callV (k := 1) (c_rf_isClass hI _ _ (hA.rgm.at (vpc (by decide)))) X (gt_V mw_588 mw_590 ms_34 mw_5 mw_591) ok_rf_isClass ⟨rfl, rfl, by decide, by decide⟩ (rc_rf X) rfl L.1 rfl (Nat.le_of_ble_eq_true rfl) d_rf_fails_159 (fun H locs X => ?_)
                refine lv_if_eq (tgt := 169) X.1.1 X.1.2.1 d_rf_fails_162 rfl (fun h162 => ?_) (fun h162 => ?_)
                · skip
                  refine lv_iconst (v := 0) X.1.1 X.1.2.1 d_rf_fails_169 rfl ?_
                  exact X.iret hr hlk d_rf_fails_170 (by first | exact absurd q42_4 h150 | exact absurd (q42_1.symm.trans h150) (by decide) | (simp only [failsM, tpM, fails1M, fa1M, fa5M, fa8M, fa9M, fa12M, eq_false h14, eq_false h22, eq_false h36, eq_false q42_0, eq_true q42_1, eq_false h133, eq_true h145, eq_true h150, eq_true h162, if_true, if_false]; done) | (simp [failsM, tpM, fails1M, fa1M, fa5M, fa8M, fa9M, fa12M, eq_false h14, eq_false h22, eq_false h36, eq_false q42_0, eq_true q42_1, eq_false h133, eq_true h145, eq_true h150, eq_true h162]; done)) rfl
                · skip
                  refine lv_iconst (v := 3) X.1.1 X.1.2.1 d_rf_fails_165 rfl ?_
                  refine lv_goto (tgt := 170) X.1.1 X.1.2.1 d_rf_fails_166 rfl ?_
                  exact X.iret hr hlk d_rf_fails_170 (by first | exact absurd q42_4 h150 | exact absurd (q42_1.symm.trans h150) (by decide) | (simp only [failsM, tpM, fails1M, fa1M, fa5M, fa8M, fa9M, fa12M, eq_false h14, eq_false h22, eq_false h36, eq_false q42_0, eq_true q42_1, eq_false h133, eq_true h145, eq_true h150, eq_false h162, if_true, if_false]; done) | (simp [failsM, tpM, fails1M, fa1M, fa5M, fa8M, fa9M, fa12M, eq_false h14, eq_false h22, eq_false h36, eq_false q42_0, eq_true q42_1, eq_false h133, eq_true h145, eq_true h150, eq_false h162]; done)) rfl
        by_cases q42_2 : p = 2
        · refine lv_tableIn (tgt := 323) X.1.1 X.1.2.1 d_rf_fails_42 (by rw [q42_2]; decide) (by rw [q42_2]; decide) (by rw [q42_2]; rfl) rfl ?_
          refine lv_iload_n X.1.1 X.1.2.1 d_rf_fails_323 rfl (lv_at L 1 rfl) ?_
          refine lv_bipush (v := 13) X.1.1 X.1.2.1 d_rf_fails_324 rfl ?_
          refine lv_icmp_le (tgt := 333) X.1.1 X.1.2.1 d_rf_fails_326 rfl (fun h326 => ?_) (fun h326 => ?_)
          · skip
            refine lv_iconst (v := 0) X.1.1 X.1.2.1 d_rf_fails_333 rfl ?_
            exact X.iret hr hlk d_rf_fails_334 (by first | exact absurd (show p ≤ 13 by rw [q42_2]; decide) h326 | (simp only [failsM, tpM, fails1M, fa1M, fa5M, fa8M, fa9M, fa12M, eq_false h14, eq_false h22, eq_false h36, eq_false q42_0, eq_false q42_1, eq_true q42_2, eq_true h326, if_true, if_false]; done) | (simp [failsM, tpM, fails1M, fa1M, fa5M, fa8M, fa9M, fa12M, eq_false h14, eq_false h22, eq_false h36, eq_false q42_0, eq_false q42_1, eq_true q42_2, eq_true h326]; done)) rfl
          · skip
            refine lv_iconst (v := 3) X.1.1 X.1.2.1 d_rf_fails_329 rfl ?_
            refine lv_goto (tgt := 334) X.1.1 X.1.2.1 d_rf_fails_330 rfl ?_
            exact X.iret hr hlk d_rf_fails_334 (by first | exact absurd (show p ≤ 13 by rw [q42_2]; decide) h326 | (simp only [failsM, tpM, fails1M, fa1M, fa5M, fa8M, fa9M, fa12M, eq_false h14, eq_false h22, eq_false h36, eq_false q42_0, eq_false q42_1, eq_true q42_2, eq_false h326, if_true, if_false]; done) | (simp [failsM, tpM, fails1M, fa1M, fa5M, fa8M, fa9M, fa12M, eq_false h14, eq_false h22, eq_false h36, eq_false q42_0, eq_false q42_1, eq_true q42_2, eq_false h326]; done)) rfl
        by_cases q42_3 : p = 3
        · refine lv_tableIn (tgt := 112) X.1.1 X.1.2.1 d_rf_fails_42 (by rw [q42_3]; decide) (by rw [q42_3]; decide) (by rw [q42_3]; rfl) rfl ?_
          refine lv_iload_n X.1.1 X.1.2.1 d_rf_fails_112 rfl (lv_at L 2 rfl) ?_
          refine lv_iconst (v := 3) X.1.1 X.1.2.1 d_rf_fails_113 rfl ?_
          refine lv_icmp_le (tgt := 121) X.1.1 X.1.2.1 d_rf_fails_114 rfl (fun h114 => ?_) (fun h114 => ?_)
          · skip
            refine lv_iconst (v := 0) X.1.1 X.1.2.1 d_rf_fails_121 rfl ?_
            exact X.iret hr hlk d_rf_fails_122 (by first | (simp only [failsM, tpM, fails1M, fa1M, fa5M, fa8M, fa9M, fa12M, eq_false h14, eq_false h22, eq_false h36, eq_false q42_0, eq_false q42_1, eq_false q42_2, eq_true q42_3, eq_true h114, if_true, if_false]; done) | (simp [failsM, tpM, fails1M, fa1M, fa5M, fa8M, fa9M, fa12M, eq_false h14, eq_false h22, eq_false h36, eq_false q42_0, eq_false q42_1, eq_false q42_2, eq_true q42_3, eq_true h114]; done) | (simp [failsM, tpM, fails1M, fa1M, fa5M, fa8M, fa9M, fa12M, h14, h22, h36, q42_0, q42_1, q42_2, q42_3, h114]; done) | rfl) rfl
          · skip
            refine lv_iconst (v := 3) X.1.1 X.1.2.1 d_rf_fails_117 rfl ?_
            refine lv_goto (tgt := 122) X.1.1 X.1.2.1 d_rf_fails_118 rfl ?_
            exact X.iret hr hlk d_rf_fails_122 (by first | (simp only [failsM, tpM, fails1M, fa1M, fa5M, fa8M, fa9M, fa12M, eq_false h14, eq_false h22, eq_false h36, eq_false q42_0, eq_false q42_1, eq_false q42_2, eq_true q42_3, eq_false h114, if_true, if_false]; done) | (simp [failsM, tpM, fails1M, fa1M, fa5M, fa8M, fa9M, fa12M, eq_false h14, eq_false h22, eq_false h36, eq_false q42_0, eq_false q42_1, eq_false q42_2, eq_true q42_3, eq_false h114]; done) | (simp [failsM, tpM, fails1M, fa1M, fa5M, fa8M, fa9M, fa12M, h14, h22, h36, q42_0, q42_1, q42_2, q42_3, h114]; done) | rfl) rfl
        by_cases q42_4 : p = 4
        · refine lv_tableIn (tgt := 123) X.1.1 X.1.2.1 d_rf_fails_42 (by rw [q42_4]; decide) (by rw [q42_4]; decide) (by rw [q42_4]; rfl) rfl ?_
          refine lv_aload_n X.1.1 X.1.2.1 d_rf_fails_123 rfl (lv_at L 0 rfl) ?_
          refine lv_aload_n X.1.1 X.1.2.1 d_rf_fails_124 rfl (lv_at L 0 rfl) ?_
          refine lv_iconst (v := 1) X.1.1 X.1.2.1 d_rf_fails_125 rfl ?_
          refine Mi.callV (k := 1) (c_rf_at hI _ _ hA.rgm (vpc (by decide))) X (gt_V mw_672 mw_674 ms_43 mw_5 mw_675) ok_rf_at ⟨rfl, rfl, by decide, by decide⟩ (rc_rf X) rfl L.1 rfl (Nat.le_of_ble_eq_true rfl) d_rf_fails_126 (fun H locs X => ?_)
          refine lv_iload_n X.1.1 X.1.2.1 d_rf_fails_129 rfl (lv_at L 2 rfl) ?_
          refine Mi.callV (k := 2) (c_rf_hasField hI _ _ _ (hA.rgm.at (vpc (by decide)))) X (gt_V mw_632 mw_634 ms_38 mw_5 mw_635) ok_rf_hasField ⟨rfl, rfl, by decide, by decide⟩ (rc_rf X) rfl L.1 rfl (Nat.le_of_ble_eq_true rfl) d_rf_fails_130 (fun H locs X => ?_)
          refine lv_if_eq (tgt := 165) X.1.1 X.1.2.1 d_rf_fails_133 rfl (fun h133 => ?_) (fun h133 => ?_)
          · skip
            refine lv_iconst (v := 3) X.1.1 X.1.2.1 d_rf_fails_165 rfl ?_
            refine lv_goto (tgt := 170) X.1.1 X.1.2.1 d_rf_fails_166 rfl ?_
            exact X.iret hr hlk d_rf_fails_170 (by first | exact absurd q42_4 h150 | exact absurd (q42_1.symm.trans h150) (by decide) | (simp only [failsM, tpM, fails1M, fa1M, fa5M, fa8M, fa9M, fa12M, eq_false h14, eq_false h22, eq_false h36, eq_false q42_0, eq_false q42_1, eq_false q42_2, eq_false q42_3, eq_true q42_4, eq_true h133, if_true, if_false]; done) | (simp [failsM, tpM, fails1M, fa1M, fa5M, fa8M, fa9M, fa12M, eq_false h14, eq_false h22, eq_false h36, eq_false q42_0, eq_false q42_1, eq_false q42_2, eq_false q42_3, eq_true q42_4, eq_true h133]; done)) rfl
          · skip
            refine lv_aload_n X.1.1 X.1.2.1 d_rf_fails_136 rfl (lv_at L 0 rfl) ?_
            refine lv_aload_n X.1.1 X.1.2.1 d_rf_fails_137 rfl (lv_at L 0 rfl) ?_
            refine lv_iconst (v := 1) X.1.1 X.1.2.1 d_rf_fails_138 rfl ?_
            refine Mi.callV (k := 1) (c_rf_at hI _ _ hA.rgm (vpc (by decide))) X (gt_V mw_672 mw_674 ms_43 mw_5 mw_675) ok_rf_at ⟨rfl, rfl, by decide, by decide⟩ (rc_rf X) rfl L.1 rfl (Nat.le_of_ble_eq_true rfl) d_rf_fails_139 (fun H locs X => ?_)
            refine Mi.callV (k := 1) (c_rf_isContext hI _ _ (hA.rgm.at (vpc (by decide)))) X (gt_V mw_686 mw_688 ms_45 mw_5 mw_689) ok_rf_isContext ⟨rfl, rfl, by decide, by decide⟩ (rc_rf X) rfl L.1 rfl (Nat.le_of_ble_eq_true rfl) d_rf_fails_142 (fun H locs X => ?_)
            refine lv_if_ne (tgt := 165) X.1.1 X.1.2.1 d_rf_fails_145 rfl (fun h145 => ?_) (fun h145 => ?_)
            · skip
              refine lv_iconst (v := 3) X.1.1 X.1.2.1 d_rf_fails_165 rfl ?_
              refine lv_goto (tgt := 170) X.1.1 X.1.2.1 d_rf_fails_166 rfl ?_
              exact X.iret hr hlk d_rf_fails_170 (by first | exact absurd q42_4 h150 | exact absurd (q42_1.symm.trans h150) (by decide) | (simp only [failsM, tpM, fails1M, fa1M, fa5M, fa8M, fa9M, fa12M, eq_false h14, eq_false h22, eq_false h36, eq_false q42_0, eq_false q42_1, eq_false q42_2, eq_false q42_3, eq_true q42_4, eq_false h133, eq_false h145, if_true, if_false]; done) | (simp [failsM, tpM, fails1M, fa1M, fa5M, fa8M, fa9M, fa12M, eq_false h14, eq_false h22, eq_false h36, eq_false q42_0, eq_false q42_1, eq_false q42_2, eq_false q42_3, eq_true q42_4, eq_false h133, eq_false h145]; done)) rfl
            · skip
              refine lv_iload_n X.1.1 X.1.2.1 d_rf_fails_148 rfl (lv_at L 1 rfl) ?_
              refine lv_iconst (v := 4) X.1.1 X.1.2.1 d_rf_fails_149 rfl ?_
              refine lv_icmp_ne (tgt := 169) X.1.1 X.1.2.1 d_rf_fails_150 rfl (fun h150 => ?_) (fun h150 => ?_)
              · skip
                refine lv_iconst (v := 0) X.1.1 X.1.2.1 d_rf_fails_169 rfl ?_
                exact X.iret hr hlk d_rf_fails_170 (by first | exact absurd q42_4 h150 | exact absurd (q42_1.symm.trans h150) (by decide) | (simp only [failsM, tpM, fails1M, fa1M, fa5M, fa8M, fa9M, fa12M, eq_false h14, eq_false h22, eq_false h36, eq_false q42_0, eq_false q42_1, eq_false q42_2, eq_false q42_3, eq_true q42_4, eq_false h133, eq_true h145, eq_false h150, if_true, if_false]; done) | (simp [failsM, tpM, fails1M, fa1M, fa5M, fa8M, fa9M, fa12M, eq_false h14, eq_false h22, eq_false h36, eq_false q42_0, eq_false q42_1, eq_false q42_2, eq_false q42_3, eq_true q42_4, eq_false h133, eq_true h145, eq_false h150]; done)) rfl
              · skip
                refine lv_aload_n X.1.1 X.1.2.1 d_rf_fails_153 rfl (lv_at L 0 rfl) ?_
                refine lv_aload_n X.1.1 X.1.2.1 d_rf_fails_154 rfl (lv_at L 0 rfl) ?_
                refine lv_iconst (v := 1) X.1.1 X.1.2.1 d_rf_fails_155 rfl ?_
                refine Mi.callV (k := 1) (c_rf_at hI _ _ hA.rgm (vpc (by decide))) X (gt_V mw_672 mw_674 ms_43 mw_5 mw_675) ok_rf_at ⟨rfl, rfl, by decide, by decide⟩ (rc_rf X) rfl L.1 rfl (Nat.le_of_ble_eq_true rfl) d_rf_fails_156 (fun H locs X => ?_)
                refine Mi.callV (k := 1) (c_rf_isClass hI _ _ (hA.rgm.at (vpc (by decide)))) X (gt_V mw_588 mw_590 ms_34 mw_5 mw_591) ok_rf_isClass ⟨rfl, rfl, by decide, by decide⟩ (rc_rf X) rfl L.1 rfl (Nat.le_of_ble_eq_true rfl) d_rf_fails_159 (fun H locs X => ?_)
                refine lv_if_eq (tgt := 169) X.1.1 X.1.2.1 d_rf_fails_162 rfl (fun h162 => ?_) (fun h162 => ?_)
                · skip
                  refine lv_iconst (v := 0) X.1.1 X.1.2.1 d_rf_fails_169 rfl ?_
                  exact X.iret hr hlk d_rf_fails_170 (by first | exact absurd q42_4 h150 | exact absurd (q42_1.symm.trans h150) (by decide) | (simp only [failsM, tpM, fails1M, fa1M, fa5M, fa8M, fa9M, fa12M, eq_false h14, eq_false h22, eq_false h36, eq_false q42_0, eq_false q42_1, eq_false q42_2, eq_false q42_3, eq_true q42_4, eq_false h133, eq_true h145, eq_true h150, eq_true h162, if_true, if_false]; done) | (simp [failsM, tpM, fails1M, fa1M, fa5M, fa8M, fa9M, fa12M, eq_false h14, eq_false h22, eq_false h36, eq_false q42_0, eq_false q42_1, eq_false q42_2, eq_false q42_3, eq_true q42_4, eq_false h133, eq_true h145, eq_true h150, eq_true h162]; done)) rfl
                · skip
                  refine lv_iconst (v := 3) X.1.1 X.1.2.1 d_rf_fails_165 rfl ?_
                  refine lv_goto (tgt := 170) X.1.1 X.1.2.1 d_rf_fails_166 rfl ?_
                  exact X.iret hr hlk d_rf_fails_170 (by first | exact absurd q42_4 h150 | exact absurd (q42_1.symm.trans h150) (by decide) | (simp only [failsM, tpM, fails1M, fa1M, fa5M, fa8M, fa9M, fa12M, eq_false h14, eq_false h22, eq_false h36, eq_false q42_0, eq_false q42_1, eq_false q42_2, eq_false q42_3, eq_true q42_4, eq_false h133, eq_true h145, eq_true h150, eq_false h162, if_true, if_false]; done) | (simp [failsM, tpM, fails1M, fa1M, fa5M, fa8M, fa9M, fa12M, eq_false h14, eq_false h22, eq_false h36, eq_false q42_0, eq_false q42_1, eq_false q42_2, eq_false q42_3, eq_true q42_4, eq_false h133, eq_true h145, eq_true h150, eq_false h162]; done)) rfl
        by_cases q42_5 : p = 5
        · refine lv_tableIn (tgt := 171) X.1.1 X.1.2.1 d_rf_fails_42 (by rw [q42_5]; decide) (by rw [q42_5]; decide) (by rw [q42_5]; rfl) rfl ?_
          refine lv_iload_n X.1.1 X.1.2.1 d_rf_fails_171 rfl (lv_at L 2 rfl) ?_
          refine lv_bipush (v := 7) X.1.1 X.1.2.1 d_rf_fails_172 rfl ?_
          refine lv_icmp_le (tgt := 181) X.1.1 X.1.2.1 d_rf_fails_174 rfl (fun h174 => ?_) (fun h174 => ?_)
          · skip
            have hd : A % 3 + 1 ≤ dpt τ c := by first | (have e5 := p_eq ep hP (k := 5) q42_5 (by omega); rw [e5, wn_5 (Or.inl rfl)] at hw; exact hw) | (have e6 := p_eq ep hP (k := 6) q42_6 (by omega); rw [e6, wn_5 (Or.inr rfl)] at hw; exact hw)
            refine lv_aload_n X.1.1 X.1.2.1 d_rf_fails_181 rfl (lv_at L 0 rfl) ?_
            refine lv_aload_n X.1.1 X.1.2.1 d_rf_fails_182 rfl (lv_at L 0 rfl) ?_
            refine lv_iload_n X.1.1 X.1.2.1 d_rf_fails_183 rfl (lv_at L 1 rfl) ?_
            refine lv_iload_n X.1.1 X.1.2.1 d_rf_fails_184 rfl (lv_at L 2 rfl) ?_
            refine Mi.callV (k := 2) (c_rf_beginning hI _ _ _ hA.rgm (fun _ => by rw [ea, args16 ha]; exact hA.top1 hd) hA.c2) X (gt_V mw_690 mw_692 ms_46 mw_5 mw_693) ok_rf_beginning ⟨rfl, rfl, by decide, by decide⟩ (rc_rf X) rfl L.1 rfl (Nat.le_of_ble_eq_true rfl) d_rf_fails_185 (fun H locs X => ?_)
            refine lv_iload_n X.1.1 X.1.2.1 d_rf_fails_188 rfl (lv_at L 2 rfl) ?_
            refine Mi.callV (k := 2) (c_rf_found hI _ _ _ (by rw [ea]; exact sup_begin hA p ha hd) (by rw [ea] at h174 ⊢; exact vp_k (by have := (nI_leI (b := 7) (by omega) (by omega)).mp h174; omega) (by decide))) X (gt_V mw_656 mw_658 ms_40 mw_5 mw_659) ok_rf_found ⟨rfl, rfl, by decide, by decide⟩ (rc_rf X) rfl L.1 rfl (Nat.le_of_ble_eq_true rfl) d_rf_fails_189 (fun H locs X => ?_)
            refine lv_if_ne (tgt := 199) X.1.1 X.1.2.1 d_rf_fails_192 rfl (fun h192 => ?_) (fun h192 => ?_)
            · skip
              refine lv_aload_n X.1.1 X.1.2.1 d_rf_fails_199 rfl (lv_at L 0 rfl) ?_
              refine Mi.callV (k := 0) (c_rf_room hI _) X (gt_V mw_592 mw_594 ms_35 mw_5 mw_595) ok_rf_room ⟨rfl, rfl, by decide, by decide⟩ (rc_rf X) rfl L.1 rfl (Nat.le_of_ble_eq_true rfl) d_rf_fails_200 (fun H locs X => ?_)
              refine lv_if_ge (tgt := 210) X.1.1 X.1.2.1 d_rf_fails_203 rfl (fun h203 => ?_) (fun h203 => ?_)
              · skip
                refine lv_iconst (v := 0) X.1.1 X.1.2.1 d_rf_fails_210 rfl ?_
                exact X.iret hr hlk d_rf_fails_211 (by first | (simp only [failsM, tpM, fails1M, fa1M, fa5M, fa8M, fa9M, fa12M, eq_false h14, eq_false h22, eq_false h36, eq_false q42_0, eq_false q42_1, eq_false q42_2, eq_false q42_3, eq_false q42_4, eq_true q42_5, eq_true h174, eq_false h192, eq_true h203, if_true, if_false]; done) | (simp [failsM, tpM, fails1M, fa1M, fa5M, fa8M, fa9M, fa12M, eq_false h14, eq_false h22, eq_false h36, eq_false q42_0, eq_false q42_1, eq_false q42_2, eq_false q42_3, eq_false q42_4, eq_true q42_5, eq_true h174, eq_false h192, eq_true h203]; done) | (simp [failsM, tpM, fails1M, fa1M, fa5M, fa8M, fa9M, fa12M, h14, h22, h36, q42_0, q42_1, q42_2, q42_3, q42_4, q42_5, h174, h192, h203]; done) | rfl) rfl
              · skip
                refine lv_iconst (v := 4) X.1.1 X.1.2.1 d_rf_fails_206 rfl ?_
                refine lv_goto (tgt := 211) X.1.1 X.1.2.1 d_rf_fails_207 rfl ?_
                exact X.iret hr hlk d_rf_fails_211 (by first | (simp only [failsM, tpM, fails1M, fa1M, fa5M, fa8M, fa9M, fa12M, eq_false h14, eq_false h22, eq_false h36, eq_false q42_0, eq_false q42_1, eq_false q42_2, eq_false q42_3, eq_false q42_4, eq_true q42_5, eq_true h174, eq_false h192, eq_false h203, if_true, if_false]; done) | (simp [failsM, tpM, fails1M, fa1M, fa5M, fa8M, fa9M, fa12M, eq_false h14, eq_false h22, eq_false h36, eq_false q42_0, eq_false q42_1, eq_false q42_2, eq_false q42_3, eq_false q42_4, eq_true q42_5, eq_true h174, eq_false h192, eq_false h203]; done) | (simp [failsM, tpM, fails1M, fa1M, fa5M, fa8M, fa9M, fa12M, h14, h22, h36, q42_0, q42_1, q42_2, q42_3, q42_4, q42_5, h174, h192, h203]; done) | rfl) rfl
            · skip
              refine lv_iconst (v := 2) X.1.1 X.1.2.1 d_rf_fails_195 rfl ?_
              refine lv_goto (tgt := 211) X.1.1 X.1.2.1 d_rf_fails_196 rfl ?_
              exact X.iret hr hlk d_rf_fails_211 (by first | (simp only [failsM, tpM, fails1M, fa1M, fa5M, fa8M, fa9M, fa12M, eq_false h14, eq_false h22, eq_false h36, eq_false q42_0, eq_false q42_1, eq_false q42_2, eq_false q42_3, eq_false q42_4, eq_true q42_5, eq_true h174, eq_true h192, if_true, if_false]; done) | (simp [failsM, tpM, fails1M, fa1M, fa5M, fa8M, fa9M, fa12M, eq_false h14, eq_false h22, eq_false h36, eq_false q42_0, eq_false q42_1, eq_false q42_2, eq_false q42_3, eq_false q42_4, eq_true q42_5, eq_true h174, eq_true h192]; done) | (simp [failsM, tpM, fails1M, fa1M, fa5M, fa8M, fa9M, fa12M, h14, h22, h36, q42_0, q42_1, q42_2, q42_3, q42_4, q42_5, h174, h192]; done) | rfl) rfl
          · skip
            refine lv_iconst (v := 3) X.1.1 X.1.2.1 d_rf_fails_177 rfl ?_
            refine lv_goto (tgt := 211) X.1.1 X.1.2.1 d_rf_fails_178 rfl ?_
            exact X.iret hr hlk d_rf_fails_211 (by first | (simp only [failsM, tpM, fails1M, fa1M, fa5M, fa8M, fa9M, fa12M, eq_false h14, eq_false h22, eq_false h36, eq_false q42_0, eq_false q42_1, eq_false q42_2, eq_false q42_3, eq_false q42_4, eq_true q42_5, eq_false h174, if_true, if_false]; done) | (simp [failsM, tpM, fails1M, fa1M, fa5M, fa8M, fa9M, fa12M, eq_false h14, eq_false h22, eq_false h36, eq_false q42_0, eq_false q42_1, eq_false q42_2, eq_false q42_3, eq_false q42_4, eq_true q42_5, eq_false h174]; done) | (simp [failsM, tpM, fails1M, fa1M, fa5M, fa8M, fa9M, fa12M, h14, h22, h36, q42_0, q42_1, q42_2, q42_3, q42_4, q42_5, h174]; done) | rfl) rfl
        by_cases q42_6 : p = 6
        · refine lv_tableIn (tgt := 171) X.1.1 X.1.2.1 d_rf_fails_42 (by rw [q42_6]; decide) (by rw [q42_6]; decide) (by rw [q42_6]; rfl) rfl ?_
          refine lv_iload_n X.1.1 X.1.2.1 d_rf_fails_171 rfl (lv_at L 2 rfl) ?_
          refine lv_bipush (v := 7) X.1.1 X.1.2.1 d_rf_fails_172 rfl ?_
          refine lv_icmp_le (tgt := 181) X.1.1 X.1.2.1 d_rf_fails_174 rfl (fun h174 => ?_) (fun h174 => ?_)
          · skip
            have hd : A % 3 + 1 ≤ dpt τ c := by first | (have e5 := p_eq ep hP (k := 5) q42_5 (by omega); rw [e5, wn_5 (Or.inl rfl)] at hw; exact hw) | (have e6 := p_eq ep hP (k := 6) q42_6 (by omega); rw [e6, wn_5 (Or.inr rfl)] at hw; exact hw)
            refine lv_aload_n X.1.1 X.1.2.1 d_rf_fails_181 rfl (lv_at L 0 rfl) ?_
            refine lv_aload_n X.1.1 X.1.2.1 d_rf_fails_182 rfl (lv_at L 0 rfl) ?_
            refine lv_iload_n X.1.1 X.1.2.1 d_rf_fails_183 rfl (lv_at L 1 rfl) ?_
            refine lv_iload_n X.1.1 X.1.2.1 d_rf_fails_184 rfl (lv_at L 2 rfl) ?_
            refine Mi.callV (k := 2) (c_rf_beginning hI _ _ _ hA.rgm (fun _ => by rw [ea, args16 ha]; exact hA.top1 hd) hA.c2) X (gt_V mw_690 mw_692 ms_46 mw_5 mw_693) ok_rf_beginning ⟨rfl, rfl, by decide, by decide⟩ (rc_rf X) rfl L.1 rfl (Nat.le_of_ble_eq_true rfl) d_rf_fails_185 (fun H locs X => ?_)
            refine lv_iload_n X.1.1 X.1.2.1 d_rf_fails_188 rfl (lv_at L 2 rfl) ?_
            refine Mi.callV (k := 2) (c_rf_found hI _ _ _ (by rw [ea]; exact sup_begin hA p ha hd) (by rw [ea] at h174 ⊢; exact vp_k (by have := (nI_leI (b := 7) (by omega) (by omega)).mp h174; omega) (by decide))) X (gt_V mw_656 mw_658 ms_40 mw_5 mw_659) ok_rf_found ⟨rfl, rfl, by decide, by decide⟩ (rc_rf X) rfl L.1 rfl (Nat.le_of_ble_eq_true rfl) d_rf_fails_189 (fun H locs X => ?_)
            refine lv_if_ne (tgt := 199) X.1.1 X.1.2.1 d_rf_fails_192 rfl (fun h192 => ?_) (fun h192 => ?_)
            · skip
              refine lv_aload_n X.1.1 X.1.2.1 d_rf_fails_199 rfl (lv_at L 0 rfl) ?_
              refine Mi.callV (k := 0) (c_rf_room hI _) X (gt_V mw_592 mw_594 ms_35 mw_5 mw_595) ok_rf_room ⟨rfl, rfl, by decide, by decide⟩ (rc_rf X) rfl L.1 rfl (Nat.le_of_ble_eq_true rfl) d_rf_fails_200 (fun H locs X => ?_)
              refine lv_if_ge (tgt := 210) X.1.1 X.1.2.1 d_rf_fails_203 rfl (fun h203 => ?_) (fun h203 => ?_)
              · skip
                refine lv_iconst (v := 0) X.1.1 X.1.2.1 d_rf_fails_210 rfl ?_
                exact X.iret hr hlk d_rf_fails_211 (by first | (simp only [failsM, tpM, fails1M, fa1M, fa5M, fa8M, fa9M, fa12M, eq_false h14, eq_false h22, eq_false h36, eq_false q42_0, eq_false q42_1, eq_false q42_2, eq_false q42_3, eq_false q42_4, eq_false q42_5, eq_true q42_6, eq_true h174, eq_false h192, eq_true h203, if_true, if_false]; done) | (simp [failsM, tpM, fails1M, fa1M, fa5M, fa8M, fa9M, fa12M, eq_false h14, eq_false h22, eq_false h36, eq_false q42_0, eq_false q42_1, eq_false q42_2, eq_false q42_3, eq_false q42_4, eq_false q42_5, eq_true q42_6, eq_true h174, eq_false h192, eq_true h203]; done) | (simp [failsM, tpM, fails1M, fa1M, fa5M, fa8M, fa9M, fa12M, h14, h22, h36, q42_0, q42_1, q42_2, q42_3, q42_4, q42_5, q42_6, h174, h192, h203]; done) | rfl) rfl
              · skip
                refine lv_iconst (v := 4) X.1.1 X.1.2.1 d_rf_fails_206 rfl ?_
                refine lv_goto (tgt := 211) X.1.1 X.1.2.1 d_rf_fails_207 rfl ?_
                exact X.iret hr hlk d_rf_fails_211 (by first | (simp only [failsM, tpM, fails1M, fa1M, fa5M, fa8M, fa9M, fa12M, eq_false h14, eq_false h22, eq_false h36, eq_false q42_0, eq_false q42_1, eq_false q42_2, eq_false q42_3, eq_false q42_4, eq_false q42_5, eq_true q42_6, eq_true h174, eq_false h192, eq_false h203, if_true, if_false]; done) | (simp [failsM, tpM, fails1M, fa1M, fa5M, fa8M, fa9M, fa12M, eq_false h14, eq_false h22, eq_false h36, eq_false q42_0, eq_false q42_1, eq_false q42_2, eq_false q42_3, eq_false q42_4, eq_false q42_5, eq_true q42_6, eq_true h174, eq_false h192, eq_false h203]; done) | (simp [failsM, tpM, fails1M, fa1M, fa5M, fa8M, fa9M, fa12M, h14, h22, h36, q42_0, q42_1, q42_2, q42_3, q42_4, q42_5, q42_6, h174, h192, h203]; done) | rfl) rfl
            · skip
              refine lv_iconst (v := 2) X.1.1 X.1.2.1 d_rf_fails_195 rfl ?_
              refine lv_goto (tgt := 211) X.1.1 X.1.2.1 d_rf_fails_196 rfl ?_
              exact X.iret hr hlk d_rf_fails_211 (by first | (simp only [failsM, tpM, fails1M, fa1M, fa5M, fa8M, fa9M, fa12M, eq_false h14, eq_false h22, eq_false h36, eq_false q42_0, eq_false q42_1, eq_false q42_2, eq_false q42_3, eq_false q42_4, eq_false q42_5, eq_true q42_6, eq_true h174, eq_true h192, if_true, if_false]; done) | (simp [failsM, tpM, fails1M, fa1M, fa5M, fa8M, fa9M, fa12M, eq_false h14, eq_false h22, eq_false h36, eq_false q42_0, eq_false q42_1, eq_false q42_2, eq_false q42_3, eq_false q42_4, eq_false q42_5, eq_true q42_6, eq_true h174, eq_true h192]; done) | (simp [failsM, tpM, fails1M, fa1M, fa5M, fa8M, fa9M, fa12M, h14, h22, h36, q42_0, q42_1, q42_2, q42_3, q42_4, q42_5, q42_6, h174, h192]; done) | rfl) rfl
          · skip
            refine lv_iconst (v := 3) X.1.1 X.1.2.1 d_rf_fails_177 rfl ?_
            refine lv_goto (tgt := 211) X.1.1 X.1.2.1 d_rf_fails_178 rfl ?_
            exact X.iret hr hlk d_rf_fails_211 (by first | (simp only [failsM, tpM, fails1M, fa1M, fa5M, fa8M, fa9M, fa12M, eq_false h14, eq_false h22, eq_false h36, eq_false q42_0, eq_false q42_1, eq_false q42_2, eq_false q42_3, eq_false q42_4, eq_false q42_5, eq_true q42_6, eq_false h174, if_true, if_false]; done) | (simp [failsM, tpM, fails1M, fa1M, fa5M, fa8M, fa9M, fa12M, eq_false h14, eq_false h22, eq_false h36, eq_false q42_0, eq_false q42_1, eq_false q42_2, eq_false q42_3, eq_false q42_4, eq_false q42_5, eq_true q42_6, eq_false h174]; done) | (simp [failsM, tpM, fails1M, fa1M, fa5M, fa8M, fa9M, fa12M, h14, h22, h36, q42_0, q42_1, q42_2, q42_3, q42_4, q42_5, q42_6, h174]; done) | rfl) rfl
        by_cases q42_7 : p = 7
        · refine lv_tableIn (tgt := 212) X.1.1 X.1.2.1 d_rf_fails_42 (by rw [q42_7]; decide) (by rw [q42_7]; decide) (by rw [q42_7]; rfl) rfl ?_
          refine lv_aload_n X.1.1 X.1.2.1 d_rf_fails_212 rfl (lv_at L 0 rfl) ?_
          refine lv_iload_n X.1.1 X.1.2.1 d_rf_fails_213 rfl (lv_at L 2 rfl) ?_
          refine Mi.callV (k := 1) (c_rf_workFails hI _ _ hA.rgm (by have e7 := p_eq ep hP (k := 7) q42_7 (by omega); rw [e7, wn_7] at hw; rw [hA.tpd.2]; omega)) X (gt_V mw_702 mw_704 ms_49 mw_5 mw_705) ok_rf_workFails ⟨rfl, rfl, by decide, by decide⟩ (rc_rf X) rfl L.1 rfl (Nat.le_of_ble_eq_true rfl) d_rf_fails_214 (fun H locs X => ?_)
          exact X.iret hr hlk d_rf_fails_217 (by first | (simp only [failsM, tpM, fails1M, fa1M, fa5M, fa8M, fa9M, fa12M, eq_false h14, eq_false h22, eq_false h36, eq_false q42_0, eq_false q42_1, eq_false q42_2, eq_false q42_3, eq_false q42_4, eq_false q42_5, eq_false q42_6, eq_true q42_7, if_true, if_false]; done) | (simp [failsM, tpM, fails1M, fa1M, fa5M, fa8M, fa9M, fa12M, eq_false h14, eq_false h22, eq_false h36, eq_false q42_0, eq_false q42_1, eq_false q42_2, eq_false q42_3, eq_false q42_4, eq_false q42_5, eq_false q42_6, eq_true q42_7]; done) | (simp [failsM, tpM, fails1M, fa1M, fa5M, fa8M, fa9M, fa12M, h14, h22, h36, q42_0, q42_1, q42_2, q42_3, q42_4, q42_5, q42_6, q42_7]; done) | rfl) rfl
        by_cases q42_8 : p = 8
        · refine lv_tableIn (tgt := 218) X.1.1 X.1.2.1 d_rf_fails_42 (by rw [q42_8]; decide) (by rw [q42_8]; decide) (by rw [q42_8]; rfl) rfl ?_
          refine lv_iload_n X.1.1 X.1.2.1 d_rf_fails_218 rfl (lv_at L 3 rfl) ?_
          refine lv_iconst (v := 1) X.1.1 X.1.2.1 d_rf_fails_219 rfl ?_
          refine lv_iadd X.1.1 X.1.2.1 d_rf_fails_220 ?_
          refine lv_iload_n X.1.1 X.1.2.1 d_rf_fails_221 rfl (lv_at L 2 rfl) ?_
          refine lv_iadd X.1.1 X.1.2.1 d_rf_fails_222 ?_
          refine lv_bipush (v := 16) X.1.1 X.1.2.1 d_rf_fails_223 rfl ?_
          refine lv_icmp_le (tgt := 232) X.1.1 X.1.2.1 d_rf_fails_225 rfl (fun h225 => ?_) (fun h225 => ?_)
          · skip
            refine lv_iconst (v := 0) X.1.1 X.1.2.1 d_rf_fails_232 rfl ?_
            exact X.iret hr hlk d_rf_fails_233 (by first | (simp only [failsM, tpM, fails1M, fa1M, fa5M, fa8M, fa9M, fa12M, eq_false h14, eq_false h22, eq_false h36, eq_false q42_0, eq_false q42_1, eq_false q42_2, eq_false q42_3, eq_false q42_4, eq_false q42_5, eq_false q42_6, eq_false q42_7, eq_true q42_8, eq_true h225, if_true, if_false]; done) | (simp [failsM, tpM, fails1M, fa1M, fa5M, fa8M, fa9M, fa12M, eq_false h14, eq_false h22, eq_false h36, eq_false q42_0, eq_false q42_1, eq_false q42_2, eq_false q42_3, eq_false q42_4, eq_false q42_5, eq_false q42_6, eq_false q42_7, eq_true q42_8, eq_true h225]; done) | (simp [failsM, tpM, fails1M, fa1M, fa5M, fa8M, fa9M, fa12M, h14, h22, h36, q42_0, q42_1, q42_2, q42_3, q42_4, q42_5, q42_6, q42_7, q42_8, h225]; done) | rfl) rfl
          · skip
            refine lv_iconst (v := 3) X.1.1 X.1.2.1 d_rf_fails_228 rfl ?_
            refine lv_goto (tgt := 233) X.1.1 X.1.2.1 d_rf_fails_229 rfl ?_
            exact X.iret hr hlk d_rf_fails_233 (by first | (simp only [failsM, tpM, fails1M, fa1M, fa5M, fa8M, fa9M, fa12M, eq_false h14, eq_false h22, eq_false h36, eq_false q42_0, eq_false q42_1, eq_false q42_2, eq_false q42_3, eq_false q42_4, eq_false q42_5, eq_false q42_6, eq_false q42_7, eq_true q42_8, eq_false h225, if_true, if_false]; done) | (simp [failsM, tpM, fails1M, fa1M, fa5M, fa8M, fa9M, fa12M, eq_false h14, eq_false h22, eq_false h36, eq_false q42_0, eq_false q42_1, eq_false q42_2, eq_false q42_3, eq_false q42_4, eq_false q42_5, eq_false q42_6, eq_false q42_7, eq_true q42_8, eq_false h225]; done) | (simp [failsM, tpM, fails1M, fa1M, fa5M, fa8M, fa9M, fa12M, h14, h22, h36, q42_0, q42_1, q42_2, q42_3, q42_4, q42_5, q42_6, q42_7, q42_8, h225]; done) | rfl) rfl
        by_cases q42_9 : p = 9
        · refine lv_tableIn (tgt := 234) X.1.1 X.1.2.1 d_rf_fails_42 (by rw [q42_9]; decide) (by rw [q42_9]; decide) (by rw [q42_9]; rfl) rfl ?_
          refine lv_aload_n X.1.1 X.1.2.1 d_rf_fails_234 rfl (lv_at L 0 rfl) ?_
          refine lv_iconst (v := 0) X.1.1 X.1.2.1 d_rf_fails_235 rfl ?_
          refine Mi.callV (k := 1) (c_rf_fromTop hI _ _ hA.rgm (by decide) (by rw [n0, hA.tpd.2]; have e9 := p_eq ep hP (k := 9) q42_9 (by omega); rw [e9, wn_1 (by omega)] at hw; omega)) X (gt_V mw_694 mw_696 ms_47 mw_5 mw_697) ok_rf_fromTop ⟨rfl, rfl, by decide, by decide⟩ (rc_rf X) rfl L.1 rfl (Nat.le_of_ble_eq_true rfl) d_rf_fails_236 (fun H locs X => ?_)
          refine lv_if_ne (tgt := 256) X.1.1 X.1.2.1 d_rf_fails_239 rfl (fun h239 => ?_) (fun h239 => ?_)
          · skip
            refine lv_iconst (v := 0) X.1.1 X.1.2.1 d_rf_fails_256 rfl ?_
            exact X.iret hr hlk d_rf_fails_257 (by first | (simp only [failsM, tpM, fails1M, fa1M, fa5M, fa8M, fa9M, fa12M, eq_false h14, eq_false h22, eq_false h36, eq_false q42_0, eq_false q42_1, eq_false q42_2, eq_false q42_3, eq_false q42_4, eq_false q42_5, eq_false q42_6, eq_false q42_7, eq_false q42_8, eq_true q42_9, eq_false h239, if_true, if_false]; done) | (simp [failsM, tpM, fails1M, fa1M, fa5M, fa8M, fa9M, fa12M, eq_false h14, eq_false h22, eq_false h36, eq_false q42_0, eq_false q42_1, eq_false q42_2, eq_false q42_3, eq_false q42_4, eq_false q42_5, eq_false q42_6, eq_false q42_7, eq_false q42_8, eq_true q42_9, eq_false h239]; done) | (simp [failsM, tpM, fails1M, fa1M, fa5M, fa8M, fa9M, fa12M, h14, h22, h36, q42_0, q42_1, q42_2, q42_3, q42_4, q42_5, q42_6, q42_7, q42_8, q42_9, h239]; done) | rfl) rfl
          · skip
            refine lv_iload_n X.1.1 X.1.2.1 d_rf_fails_242 rfl (lv_at L 3 rfl) ?_
            refine lv_iconst (v := 1) X.1.1 X.1.2.1 d_rf_fails_243 rfl ?_
            refine lv_iadd X.1.1 X.1.2.1 d_rf_fails_244 ?_
            refine lv_iload_n X.1.1 X.1.2.1 d_rf_fails_245 rfl (lv_at L 2 rfl) ?_
            refine lv_iadd X.1.1 X.1.2.1 d_rf_fails_246 ?_
            refine lv_bipush (v := 16) X.1.1 X.1.2.1 d_rf_fails_247 rfl ?_
            refine lv_icmp_le (tgt := 256) X.1.1 X.1.2.1 d_rf_fails_249 rfl (fun h249 => ?_) (fun h249 => ?_)
            · skip
              refine lv_iconst (v := 0) X.1.1 X.1.2.1 d_rf_fails_256 rfl ?_
              exact X.iret hr hlk d_rf_fails_257 (by first | (simp only [failsM, tpM, fails1M, fa1M, fa5M, fa8M, fa9M, fa12M, eq_false h14, eq_false h22, eq_false h36, eq_false q42_0, eq_false q42_1, eq_false q42_2, eq_false q42_3, eq_false q42_4, eq_false q42_5, eq_false q42_6, eq_false q42_7, eq_false q42_8, eq_true q42_9, eq_true h239, eq_true h249, if_true, if_false]; done) | (simp [failsM, tpM, fails1M, fa1M, fa5M, fa8M, fa9M, fa12M, eq_false h14, eq_false h22, eq_false h36, eq_false q42_0, eq_false q42_1, eq_false q42_2, eq_false q42_3, eq_false q42_4, eq_false q42_5, eq_false q42_6, eq_false q42_7, eq_false q42_8, eq_true q42_9, eq_true h239, eq_true h249]; done) | (simp [failsM, tpM, fails1M, fa1M, fa5M, fa8M, fa9M, fa12M, h14, h22, h36, q42_0, q42_1, q42_2, q42_3, q42_4, q42_5, q42_6, q42_7, q42_8, q42_9, h239, h249]; done) | rfl) rfl
            · skip
              refine lv_iconst (v := 3) X.1.1 X.1.2.1 d_rf_fails_252 rfl ?_
              refine lv_goto (tgt := 257) X.1.1 X.1.2.1 d_rf_fails_253 rfl ?_
              exact X.iret hr hlk d_rf_fails_257 (by first | (simp only [failsM, tpM, fails1M, fa1M, fa5M, fa8M, fa9M, fa12M, eq_false h14, eq_false h22, eq_false h36, eq_false q42_0, eq_false q42_1, eq_false q42_2, eq_false q42_3, eq_false q42_4, eq_false q42_5, eq_false q42_6, eq_false q42_7, eq_false q42_8, eq_true q42_9, eq_true h239, eq_false h249, if_true, if_false]; done) | (simp [failsM, tpM, fails1M, fa1M, fa5M, fa8M, fa9M, fa12M, eq_false h14, eq_false h22, eq_false h36, eq_false q42_0, eq_false q42_1, eq_false q42_2, eq_false q42_3, eq_false q42_4, eq_false q42_5, eq_false q42_6, eq_false q42_7, eq_false q42_8, eq_true q42_9, eq_true h239, eq_false h249]; done) | (simp [failsM, tpM, fails1M, fa1M, fa5M, fa8M, fa9M, fa12M, h14, h22, h36, q42_0, q42_1, q42_2, q42_3, q42_4, q42_5, q42_6, q42_7, q42_8, q42_9, h239, h249]; done) | rfl) rfl
        by_cases q42_10 : p = 10
        · refine lv_tableIn (tgt := 258) X.1.1 X.1.2.1 d_rf_fails_42 (by rw [q42_10]; decide) (by rw [q42_10]; decide) (by rw [q42_10]; rfl) rfl ?_
          refine lv_iload_n X.1.1 X.1.2.1 d_rf_fails_258 rfl (lv_at L 3 rfl) ?_
          refine lv_iload_n X.1.1 X.1.2.1 d_rf_fails_259 rfl (lv_at L 2 rfl) ?_
          refine lv_isub X.1.1 X.1.2.1 d_rf_fails_260 ?_
          refine lv_if_ge (tgt := 268) X.1.1 X.1.2.1 d_rf_fails_261 rfl (fun h261 => ?_) (fun h261 => ?_)
          · skip
            refine lv_iconst (v := 0) X.1.1 X.1.2.1 d_rf_fails_268 rfl ?_
            exact X.iret hr hlk d_rf_fails_269 (by first | (simp only [failsM, tpM, fails1M, fa1M, fa5M, fa8M, fa9M, fa12M, eq_false h14, eq_false h22, eq_false h36, eq_false q42_0, eq_false q42_1, eq_false q42_2, eq_false q42_3, eq_false q42_4, eq_false q42_5, eq_false q42_6, eq_false q42_7, eq_false q42_8, eq_false q42_9, eq_true q42_10, eq_true h261, if_true, if_false]; done) | (simp [failsM, tpM, fails1M, fa1M, fa5M, fa8M, fa9M, fa12M, eq_false h14, eq_false h22, eq_false h36, eq_false q42_0, eq_false q42_1, eq_false q42_2, eq_false q42_3, eq_false q42_4, eq_false q42_5, eq_false q42_6, eq_false q42_7, eq_false q42_8, eq_false q42_9, eq_true q42_10, eq_true h261]; done) | (simp [failsM, tpM, fails1M, fa1M, fa5M, fa8M, fa9M, fa12M, h14, h22, h36, q42_0, q42_1, q42_2, q42_3, q42_4, q42_5, q42_6, q42_7, q42_8, q42_9, q42_10, h261]; done) | rfl) rfl
          · skip
            refine lv_iconst (v := 3) X.1.1 X.1.2.1 d_rf_fails_264 rfl ?_
            refine lv_goto (tgt := 269) X.1.1 X.1.2.1 d_rf_fails_265 rfl ?_
            exact X.iret hr hlk d_rf_fails_269 (by first | (simp only [failsM, tpM, fails1M, fa1M, fa5M, fa8M, fa9M, fa12M, eq_false h14, eq_false h22, eq_false h36, eq_false q42_0, eq_false q42_1, eq_false q42_2, eq_false q42_3, eq_false q42_4, eq_false q42_5, eq_false q42_6, eq_false q42_7, eq_false q42_8, eq_false q42_9, eq_true q42_10, eq_false h261, if_true, if_false]; done) | (simp [failsM, tpM, fails1M, fa1M, fa5M, fa8M, fa9M, fa12M, eq_false h14, eq_false h22, eq_false h36, eq_false q42_0, eq_false q42_1, eq_false q42_2, eq_false q42_3, eq_false q42_4, eq_false q42_5, eq_false q42_6, eq_false q42_7, eq_false q42_8, eq_false q42_9, eq_true q42_10, eq_false h261]; done) | (simp [failsM, tpM, fails1M, fa1M, fa5M, fa8M, fa9M, fa12M, h14, h22, h36, q42_0, q42_1, q42_2, q42_3, q42_4, q42_5, q42_6, q42_7, q42_8, q42_9, q42_10, h261]; done) | rfl) rfl
        by_cases q42_11 : p = 11
        · refine lv_tableIn (tgt := 270) X.1.1 X.1.2.1 d_rf_fails_42 (by rw [q42_11]; decide) (by rw [q42_11]; decide) (by rw [q42_11]; rfl) rfl ?_
          refine lv_iload_n X.1.1 X.1.2.1 d_rf_fails_270 rfl (lv_at L 2 rfl) ?_
          refine lv_iconst (v := 1) X.1.1 X.1.2.1 d_rf_fails_271 rfl ?_
          refine lv_icmp_le (tgt := 279) X.1.1 X.1.2.1 d_rf_fails_272 rfl (fun h272 => ?_) (fun h272 => ?_)
          · skip
            refine lv_iconst (v := 0) X.1.1 X.1.2.1 d_rf_fails_279 rfl ?_
            exact X.iret hr hlk d_rf_fails_280 (by first | (simp only [failsM, tpM, fails1M, fa1M, fa5M, fa8M, fa9M, fa12M, eq_false h14, eq_false h22, eq_false h36, eq_false q42_0, eq_false q42_1, eq_false q42_2, eq_false q42_3, eq_false q42_4, eq_false q42_5, eq_false q42_6, eq_false q42_7, eq_false q42_8, eq_false q42_9, eq_false q42_10, eq_true q42_11, eq_true h272, if_true, if_false]; done) | (simp [failsM, tpM, fails1M, fa1M, fa5M, fa8M, fa9M, fa12M, eq_false h14, eq_false h22, eq_false h36, eq_false q42_0, eq_false q42_1, eq_false q42_2, eq_false q42_3, eq_false q42_4, eq_false q42_5, eq_false q42_6, eq_false q42_7, eq_false q42_8, eq_false q42_9, eq_false q42_10, eq_true q42_11, eq_true h272]; done) | (simp [failsM, tpM, fails1M, fa1M, fa5M, fa8M, fa9M, fa12M, h14, h22, h36, q42_0, q42_1, q42_2, q42_3, q42_4, q42_5, q42_6, q42_7, q42_8, q42_9, q42_10, q42_11, h272]; done) | rfl) rfl
          · skip
            refine lv_iconst (v := 3) X.1.1 X.1.2.1 d_rf_fails_275 rfl ?_
            refine lv_goto (tgt := 280) X.1.1 X.1.2.1 d_rf_fails_276 rfl ?_
            exact X.iret hr hlk d_rf_fails_280 (by first | (simp only [failsM, tpM, fails1M, fa1M, fa5M, fa8M, fa9M, fa12M, eq_false h14, eq_false h22, eq_false h36, eq_false q42_0, eq_false q42_1, eq_false q42_2, eq_false q42_3, eq_false q42_4, eq_false q42_5, eq_false q42_6, eq_false q42_7, eq_false q42_8, eq_false q42_9, eq_false q42_10, eq_true q42_11, eq_false h272, if_true, if_false]; done) | (simp [failsM, tpM, fails1M, fa1M, fa5M, fa8M, fa9M, fa12M, eq_false h14, eq_false h22, eq_false h36, eq_false q42_0, eq_false q42_1, eq_false q42_2, eq_false q42_3, eq_false q42_4, eq_false q42_5, eq_false q42_6, eq_false q42_7, eq_false q42_8, eq_false q42_9, eq_false q42_10, eq_true q42_11, eq_false h272]; done) | (simp [failsM, tpM, fails1M, fa1M, fa5M, fa8M, fa9M, fa12M, h14, h22, h36, q42_0, q42_1, q42_2, q42_3, q42_4, q42_5, q42_6, q42_7, q42_8, q42_9, q42_10, q42_11, h272]; done) | rfl) rfl
        by_cases q42_12 : p = 12
        · refine lv_tableIn (tgt := 281) X.1.1 X.1.2.1 d_rf_fails_42 (by rw [q42_12]; decide) (by rw [q42_12]; decide) (by rw [q42_12]; rfl) rfl ?_
          refine lv_iload_n X.1.1 X.1.2.1 d_rf_fails_281 rfl (lv_at L 2 rfl) ?_
          refine lv_if_gt (tgt := 306) X.1.1 X.1.2.1 d_rf_fails_282 rfl (fun h282 => ?_) (fun h282 => ?_)
          · skip
            refine lv_iconst (v := 3) X.1.1 X.1.2.1 d_rf_fails_306 rfl ?_
            refine lv_goto (tgt := 322) X.1.1 X.1.2.1 d_rf_fails_307 rfl ?_
            exact X.iret hr hlk d_rf_fails_322 (by first | (simp only [failsM, tpM, fails1M, fa1M, fa5M, fa8M, fa9M, fa12M, eq_false h14, eq_false h22, eq_false h36, eq_false q42_0, eq_false q42_1, eq_false q42_2, eq_false q42_3, eq_false q42_4, eq_false q42_5, eq_false q42_6, eq_false q42_7, eq_false q42_8, eq_false q42_9, eq_false q42_10, eq_false q42_11, eq_true q42_12, eq_true h282, if_true, if_false]; done) | (simp [failsM, tpM, fails1M, fa1M, fa5M, fa8M, fa9M, fa12M, eq_false h14, eq_false h22, eq_false h36, eq_false q42_0, eq_false q42_1, eq_false q42_2, eq_false q42_3, eq_false q42_4, eq_false q42_5, eq_false q42_6, eq_false q42_7, eq_false q42_8, eq_false q42_9, eq_false q42_10, eq_false q42_11, eq_true q42_12, eq_true h282]; done) | (simp [failsM, tpM, fails1M, fa1M, fa5M, fa8M, fa9M, fa12M, h14, h22, h36, q42_0, q42_1, q42_2, q42_3, q42_4, q42_5, q42_6, q42_7, q42_8, q42_9, q42_10, q42_11, q42_12, h282]; done) | rfl) rfl
          · skip
            have a0 : A = 0 := Classical.byContradiction (fun z => h282 (by rw [ea]; exact (nI_ltI (a := 0) (b := A) (by omega) (by omega)).mpr (by omega)))
            have h12 : 1 ≤ (tpM σ).toInt := by have e12 := p_eq ep hP (k := 12) q42_12 (by omega); rw [e12, a0, wn_11 (Or.inr rfl)] at hw; rw [hA.tpd.2]; omega
            refine lv_aload_n X.1.1 X.1.2.1 d_rf_fails_285 rfl (lv_at L 0 rfl) ?_
            refine lv_aload_n X.1.1 X.1.2.1 d_rf_fails_286 rfl (lv_at L 0 rfl) ?_
            refine lv_iconst (v := 0) X.1.1 X.1.2.1 d_rf_fails_287 rfl ?_
            refine Mi.callV (k := 1) (c_rf_fromTop hI _ _ hA.rgm (by decide) (by rw [n0]; omega)) X (gt_V mw_694 mw_696 ms_47 mw_5 mw_697) ok_rf_fromTop ⟨rfl, rfl, by decide, by decide⟩ (rc_rf X) rfl L.1 rfl (Nat.le_of_ble_eq_true rfl) d_rf_fails_288 (fun H locs X => ?_)
            refine Mi.callV (k := 1) (c_rf_isClass hI _ _ (hA.rgm.ft (by decide) (by rw [n0]; omega))) X (gt_V mw_588 mw_590 ms_34 mw_5 mw_591) ok_rf_isClass ⟨rfl, rfl, by decide, by decide⟩ (rc_rf X) rfl L.1 rfl (Nat.le_of_ble_eq_true rfl) d_rf_fails_291 (fun H locs X => ?_)
            refine lv_if_eq (tgt := 306) X.1.1 X.1.2.1 d_rf_fails_294 rfl (fun h294 => ?_) (fun h294 => ?_)
            · skip
              refine lv_iconst (v := 3) X.1.1 X.1.2.1 d_rf_fails_306 rfl ?_
              refine lv_goto (tgt := 322) X.1.1 X.1.2.1 d_rf_fails_307 rfl ?_
              exact X.iret hr hlk d_rf_fails_322 (by first | (simp only [failsM, tpM, fails1M, fa1M, fa5M, fa8M, fa9M, fa12M, eq_false h14, eq_false h22, eq_false h36, eq_false q42_0, eq_false q42_1, eq_false q42_2, eq_false q42_3, eq_false q42_4, eq_false q42_5, eq_false q42_6, eq_false q42_7, eq_false q42_8, eq_false q42_9, eq_false q42_10, eq_false q42_11, eq_true q42_12, eq_false h282, eq_true h294, if_true, if_false]; done) | (simp [failsM, tpM, fails1M, fa1M, fa5M, fa8M, fa9M, fa12M, eq_false h14, eq_false h22, eq_false h36, eq_false q42_0, eq_false q42_1, eq_false q42_2, eq_false q42_3, eq_false q42_4, eq_false q42_5, eq_false q42_6, eq_false q42_7, eq_false q42_8, eq_false q42_9, eq_false q42_10, eq_false q42_11, eq_true q42_12, eq_false h282, eq_true h294]; done) | (simp [failsM, tpM, fails1M, fa1M, fa5M, fa8M, fa9M, fa12M, h14, h22, h36, q42_0, q42_1, q42_2, q42_3, q42_4, q42_5, q42_6, q42_7, q42_8, q42_9, q42_10, q42_11, q42_12, h282, h294]; done) | rfl) rfl
            · skip
              refine lv_aload_n X.1.1 X.1.2.1 d_rf_fails_297 rfl (lv_at L 0 rfl) ?_
              refine lv_iconst (v := 0) X.1.1 X.1.2.1 d_rf_fails_298 rfl ?_
              refine Mi.callV (k := 1) (c_rf_fromTop hI _ _ hA.rgm (by decide) (by rw [n0]; omega)) X (gt_V mw_694 mw_696 ms_47 mw_5 mw_697) ok_rf_fromTop ⟨rfl, rfl, by decide, by decide⟩ (rc_rf X) rfl L.1 rfl (Nat.le_of_ble_eq_true rfl) d_rf_fails_299 (fun H locs X => ?_)
              refine lv_iconst (v := 3) X.1.1 X.1.2.1 d_rf_fails_302 rfl ?_
              refine lv_icmp_ne (tgt := 310) X.1.1 X.1.2.1 d_rf_fails_303 rfl (fun h303 => ?_) (fun h303 => ?_)
              · skip
                refine lv_aload_n X.1.1 X.1.2.1 d_rf_fails_310 rfl (lv_at L 0 rfl) ?_
                refine Mi.callV (k := 0) (c_rf_room hI _) X (gt_V mw_592 mw_594 ms_35 mw_5 mw_595) ok_rf_room ⟨rfl, rfl, by decide, by decide⟩ (rc_rf X) rfl L.1 rfl (Nat.le_of_ble_eq_true rfl) d_rf_fails_311 (fun H locs X => ?_)
                refine lv_if_ge (tgt := 321) X.1.1 X.1.2.1 d_rf_fails_314 rfl (fun h314 => ?_) (fun h314 => ?_)
                · skip
                  refine lv_iconst (v := 0) X.1.1 X.1.2.1 d_rf_fails_321 rfl ?_
                  exact X.iret hr hlk d_rf_fails_322 (by first | (simp only [failsM, tpM, fails1M, fa1M, fa5M, fa8M, fa9M, fa12M, eq_false h14, eq_false h22, eq_false h36, eq_false q42_0, eq_false q42_1, eq_false q42_2, eq_false q42_3, eq_false q42_4, eq_false q42_5, eq_false q42_6, eq_false q42_7, eq_false q42_8, eq_false q42_9, eq_false q42_10, eq_false q42_11, eq_true q42_12, eq_false h282, eq_false h294, eq_false h303, eq_true h314, if_true, if_false]; done) | (simp [failsM, tpM, fails1M, fa1M, fa5M, fa8M, fa9M, fa12M, eq_false h14, eq_false h22, eq_false h36, eq_false q42_0, eq_false q42_1, eq_false q42_2, eq_false q42_3, eq_false q42_4, eq_false q42_5, eq_false q42_6, eq_false q42_7, eq_false q42_8, eq_false q42_9, eq_false q42_10, eq_false q42_11, eq_true q42_12, eq_false h282, eq_false h294, eq_false h303, eq_true h314]; done) | (simp [failsM, tpM, fails1M, fa1M, fa5M, fa8M, fa9M, fa12M, h14, h22, h36, q42_0, q42_1, q42_2, q42_3, q42_4, q42_5, q42_6, q42_7, q42_8, q42_9, q42_10, q42_11, q42_12, h282, h294, h303, h314]; done) | rfl) rfl
                · skip
                  refine lv_iconst (v := 4) X.1.1 X.1.2.1 d_rf_fails_317 rfl ?_
                  refine lv_goto (tgt := 322) X.1.1 X.1.2.1 d_rf_fails_318 rfl ?_
                  exact X.iret hr hlk d_rf_fails_322 (by first | (simp only [failsM, tpM, fails1M, fa1M, fa5M, fa8M, fa9M, fa12M, eq_false h14, eq_false h22, eq_false h36, eq_false q42_0, eq_false q42_1, eq_false q42_2, eq_false q42_3, eq_false q42_4, eq_false q42_5, eq_false q42_6, eq_false q42_7, eq_false q42_8, eq_false q42_9, eq_false q42_10, eq_false q42_11, eq_true q42_12, eq_false h282, eq_false h294, eq_false h303, eq_false h314, if_true, if_false]; done) | (simp [failsM, tpM, fails1M, fa1M, fa5M, fa8M, fa9M, fa12M, eq_false h14, eq_false h22, eq_false h36, eq_false q42_0, eq_false q42_1, eq_false q42_2, eq_false q42_3, eq_false q42_4, eq_false q42_5, eq_false q42_6, eq_false q42_7, eq_false q42_8, eq_false q42_9, eq_false q42_10, eq_false q42_11, eq_true q42_12, eq_false h282, eq_false h294, eq_false h303, eq_false h314]; done) | (simp [failsM, tpM, fails1M, fa1M, fa5M, fa8M, fa9M, fa12M, h14, h22, h36, q42_0, q42_1, q42_2, q42_3, q42_4, q42_5, q42_6, q42_7, q42_8, q42_9, q42_10, q42_11, q42_12, h282, h294, h303, h314]; done) | rfl) rfl
              · skip
                refine lv_iconst (v := 3) X.1.1 X.1.2.1 d_rf_fails_306 rfl ?_
                refine lv_goto (tgt := 322) X.1.1 X.1.2.1 d_rf_fails_307 rfl ?_
                exact X.iret hr hlk d_rf_fails_322 (by first | (simp only [failsM, tpM, fails1M, fa1M, fa5M, fa8M, fa9M, fa12M, eq_false h14, eq_false h22, eq_false h36, eq_false q42_0, eq_false q42_1, eq_false q42_2, eq_false q42_3, eq_false q42_4, eq_false q42_5, eq_false q42_6, eq_false q42_7, eq_false q42_8, eq_false q42_9, eq_false q42_10, eq_false q42_11, eq_true q42_12, eq_false h282, eq_false h294, eq_true h303, if_true, if_false]; done) | (simp [failsM, tpM, fails1M, fa1M, fa5M, fa8M, fa9M, fa12M, eq_false h14, eq_false h22, eq_false h36, eq_false q42_0, eq_false q42_1, eq_false q42_2, eq_false q42_3, eq_false q42_4, eq_false q42_5, eq_false q42_6, eq_false q42_7, eq_false q42_8, eq_false q42_9, eq_false q42_10, eq_false q42_11, eq_true q42_12, eq_false h282, eq_false h294, eq_true h303]; done) | (simp [failsM, tpM, fails1M, fa1M, fa5M, fa8M, fa9M, fa12M, h14, h22, h36, q42_0, q42_1, q42_2, q42_3, q42_4, q42_5, q42_6, q42_7, q42_8, q42_9, q42_10, q42_11, q42_12, h282, h294, h303]; done) | rfl) rfl
        by_cases q42_13 : p = 13
        · refine lv_tableIn (tgt := 270) X.1.1 X.1.2.1 d_rf_fails_42 (by rw [q42_13]; decide) (by rw [q42_13]; decide) (by rw [q42_13]; rfl) rfl ?_
          refine lv_iload_n X.1.1 X.1.2.1 d_rf_fails_270 rfl (lv_at L 2 rfl) ?_
          refine lv_iconst (v := 1) X.1.1 X.1.2.1 d_rf_fails_271 rfl ?_
          refine lv_icmp_le (tgt := 279) X.1.1 X.1.2.1 d_rf_fails_272 rfl (fun h272 => ?_) (fun h272 => ?_)
          · skip
            refine lv_iconst (v := 0) X.1.1 X.1.2.1 d_rf_fails_279 rfl ?_
            exact X.iret hr hlk d_rf_fails_280 (by first | (simp only [failsM, tpM, fails1M, fa1M, fa5M, fa8M, fa9M, fa12M, eq_false h14, eq_false h22, eq_false h36, eq_false q42_0, eq_false q42_1, eq_false q42_2, eq_false q42_3, eq_false q42_4, eq_false q42_5, eq_false q42_6, eq_false q42_7, eq_false q42_8, eq_false q42_9, eq_false q42_10, eq_false q42_11, eq_false q42_12, eq_true q42_13, eq_true h272, if_true, if_false]; done) | (simp [failsM, tpM, fails1M, fa1M, fa5M, fa8M, fa9M, fa12M, eq_false h14, eq_false h22, eq_false h36, eq_false q42_0, eq_false q42_1, eq_false q42_2, eq_false q42_3, eq_false q42_4, eq_false q42_5, eq_false q42_6, eq_false q42_7, eq_false q42_8, eq_false q42_9, eq_false q42_10, eq_false q42_11, eq_false q42_12, eq_true q42_13, eq_true h272]; done) | (simp [failsM, tpM, fails1M, fa1M, fa5M, fa8M, fa9M, fa12M, h14, h22, h36, q42_0, q42_1, q42_2, q42_3, q42_4, q42_5, q42_6, q42_7, q42_8, q42_9, q42_10, q42_11, q42_12, q42_13, h272]; done) | rfl) rfl
          · skip
            refine lv_iconst (v := 3) X.1.1 X.1.2.1 d_rf_fails_275 rfl ?_
            refine lv_goto (tgt := 280) X.1.1 X.1.2.1 d_rf_fails_276 rfl ?_
            exact X.iret hr hlk d_rf_fails_280 (by first | (simp only [failsM, tpM, fails1M, fa1M, fa5M, fa8M, fa9M, fa12M, eq_false h14, eq_false h22, eq_false h36, eq_false q42_0, eq_false q42_1, eq_false q42_2, eq_false q42_3, eq_false q42_4, eq_false q42_5, eq_false q42_6, eq_false q42_7, eq_false q42_8, eq_false q42_9, eq_false q42_10, eq_false q42_11, eq_false q42_12, eq_true q42_13, eq_false h272, if_true, if_false]; done) | (simp [failsM, tpM, fails1M, fa1M, fa5M, fa8M, fa9M, fa12M, eq_false h14, eq_false h22, eq_false h36, eq_false q42_0, eq_false q42_1, eq_false q42_2, eq_false q42_3, eq_false q42_4, eq_false q42_5, eq_false q42_6, eq_false q42_7, eq_false q42_8, eq_false q42_9, eq_false q42_10, eq_false q42_11, eq_false q42_12, eq_true q42_13, eq_false h272]; done) | (simp [failsM, tpM, fails1M, fa1M, fa5M, fa8M, fa9M, fa12M, h14, h22, h36, q42_0, q42_1, q42_2, q42_3, q42_4, q42_5, q42_6, q42_7, q42_8, q42_9, q42_10, q42_11, q42_12, q42_13, h272]; done) | rfl) rfl
        refine lv_tableOut (tgt := 323) X.1.1 X.1.2.1 d_rf_fails_42 (by have := lv_neT q42_0 (show (0 : Int32).toInt = 0 from rfl); have := lv_neT q42_1 (show (1 : Int32).toInt = 1 from rfl); have := lv_neT q42_2 (show (2 : Int32).toInt = 2 from rfl); have := lv_neT q42_3 (show (3 : Int32).toInt = 3 from rfl); have := lv_neT q42_4 (show (4 : Int32).toInt = 4 from rfl); have := lv_neT q42_5 (show (5 : Int32).toInt = 5 from rfl); have := lv_neT q42_6 (show (6 : Int32).toInt = 6 from rfl); have := lv_neT q42_7 (show (7 : Int32).toInt = 7 from rfl); have := lv_neT q42_8 (show (8 : Int32).toInt = 8 from rfl); have := lv_neT q42_9 (show (9 : Int32).toInt = 9 from rfl); have := lv_neT q42_10 (show (10 : Int32).toInt = 10 from rfl); have := lv_neT q42_11 (show (11 : Int32).toInt = 11 from rfl); have := lv_neT q42_12 (show (12 : Int32).toInt = 12 from rfl); have := lv_neT q42_13 (show (13 : Int32).toInt = 13 from rfl); omega) rfl ?_
        refine lv_iload_n X.1.1 X.1.2.1 d_rf_fails_323 rfl (lv_at L 1 rfl) ?_
        refine lv_bipush (v := 13) X.1.1 X.1.2.1 d_rf_fails_324 rfl ?_
        refine lv_icmp_le (tgt := 333) X.1.1 X.1.2.1 d_rf_fails_326 rfl (fun h326 => ?_) (fun h326 => ?_)
        · skip
          refine lv_iconst (v := 0) X.1.1 X.1.2.1 d_rf_fails_333 rfl ?_
          exact X.iret hr hlk d_rf_fails_334 (by first | exact absurd (show p ≤ 13 by rw [q42_2]; decide) h326 | (simp only [failsM, tpM, fails1M, fa1M, fa5M, fa8M, fa9M, fa12M, eq_false h14, eq_false h22, eq_false h36, eq_false q42_0, eq_false q42_1, eq_false q42_2, eq_false q42_3, eq_false q42_4, eq_false q42_5, eq_false q42_6, eq_false q42_7, eq_false q42_8, eq_false q42_9, eq_false q42_10, eq_false q42_11, eq_false q42_12, eq_false q42_13, eq_true h326, if_true, if_false]; done) | (simp [failsM, tpM, fails1M, fa1M, fa5M, fa8M, fa9M, fa12M, eq_false h14, eq_false h22, eq_false h36, eq_false q42_0, eq_false q42_1, eq_false q42_2, eq_false q42_3, eq_false q42_4, eq_false q42_5, eq_false q42_6, eq_false q42_7, eq_false q42_8, eq_false q42_9, eq_false q42_10, eq_false q42_11, eq_false q42_12, eq_false q42_13, eq_true h326]; done)) rfl
        · skip
          refine lv_iconst (v := 3) X.1.1 X.1.2.1 d_rf_fails_329 rfl ?_
          refine lv_goto (tgt := 334) X.1.1 X.1.2.1 d_rf_fails_330 rfl ?_
          exact X.iret hr hlk d_rf_fails_334 (by first | exact absurd (show p ≤ 13 by rw [q42_2]; decide) h326 | (simp only [failsM, tpM, fails1M, fa1M, fa5M, fa8M, fa9M, fa12M, eq_false h14, eq_false h22, eq_false h36, eq_false q42_0, eq_false q42_1, eq_false q42_2, eq_false q42_3, eq_false q42_4, eq_false q42_5, eq_false q42_6, eq_false q42_7, eq_false q42_8, eq_false q42_9, eq_false q42_10, eq_false q42_11, eq_false q42_12, eq_false q42_13, eq_false h326, if_true, if_false]; done) | (simp [failsM, tpM, fails1M, fa1M, fa5M, fa8M, fa9M, fa12M, eq_false h14, eq_false h22, eq_false h36, eq_false q42_0, eq_false q42_1, eq_false q42_2, eq_false q42_3, eq_false q42_4, eq_false q42_5, eq_false q42_6, eq_false q42_7, eq_false q42_8, eq_false q42_9, eq_false q42_10, eq_false q42_11, eq_false q42_12, eq_false q42_13, eq_false h326]; done)) rfl
      · skip
        refine lv_iconst (v := 1) X.1.1 X.1.2.1 d_rf_fails_39 rfl ?_
        exact X.iret hr hlk d_rf_fails_40 (by first | (simp only [failsM, tpM, fails1M, fa1M, fa5M, fa8M, fa9M, fa12M, eq_false h14, eq_false h22, eq_true h36, if_true, if_false]; done) | (simp [failsM, tpM, fails1M, fa1M, fa5M, fa8M, fa9M, fa12M, eq_false h14, eq_false h22, eq_true h36]; done) | (simp [failsM, tpM, fails1M, fa1M, fa5M, fa8M, fa9M, fa12M, h14, h22, h36]; done) | rfl) rfl
set_option maxHeartbeats 4000000 in
theorem c_rf_constant {l : Launch} {D : va_G} {ad : Nat → Nat} {ci : Nat → ClassId} (hI : InjR ad) (σ : SS) (a : Int32) (hm : RGm σ) (h_a : vp_in a 16) : Mi l y_rf_constant b_rf_constant 2 (some .int) ({ frames := 2, cells := 0, slots := 0, locals := 41 } : Room) (ER D ad ci) [.ref (ad 0), .int a] σ (constM σ a) (σ) := by
  refine Mi.start pn_rf (Nat.le_of_ble_eq_true rfl) (fun zp ze zs zm zb zt zc ls X hr hlk L => ?_)
  have L : lv_has ls 2 [(0, .ref (ad 0)), (1, .int a)] := L
  refine lv_iload_n X.1.1 X.1.2.1 d_rf_constant_0 rfl (lv_at L 1 rfl) ?_
  refine lv_if_ne (tgt := 6) X.1.1 X.1.2.1 d_rf_constant_1 rfl (fun h1 => ?_) (fun h1 => ?_)
  · skip
    refine lv_iload_n X.1.1 X.1.2.1 d_rf_constant_6 rfl (lv_at L 1 rfl) ?_
    refine lv_bipush (v := 8) X.1.1 X.1.2.1 d_rf_constant_7 rfl ?_
    refine lv_icmp_ge (tgt := 20) X.1.1 X.1.2.1 d_rf_constant_9 rfl (fun h9 => ?_) (fun h9 => ?_)
    · skip
      refine lv_iload_n X.1.1 X.1.2.1 d_rf_constant_20 rfl (lv_at L 1 rfl) ?_
      refine lv_bipush (v := 8) X.1.1 X.1.2.1 d_rf_constant_21 rfl ?_
      refine lv_icmp_ne (tgt := 34) X.1.1 X.1.2.1 d_rf_constant_23 rfl (fun h23 => ?_) (fun h23 => ?_)
      · skip
        refine lv_iload_n X.1.1 X.1.2.1 d_rf_constant_34 rfl (lv_at L 1 rfl) ?_
        refine lv_bipush (v := 9) X.1.1 X.1.2.1 d_rf_constant_35 rfl ?_
        refine lv_icmp_ne (tgt := 52) X.1.1 X.1.2.1 d_rf_constant_37 rfl (fun h37 => ?_) (fun h37 => ?_)
        · skip
          refine lv_aload_n X.1.1 X.1.2.1 d_rf_constant_52 rfl (lv_at L 0 rfl) ?_
          refine g_rf_handles X d_rf_constant_53 ?_
          refine lv_iload_n X.1.1 X.1.2.1 d_rf_constant_56 rfl (lv_at L 1 rfl) ?_
          refine lv_bipush (v := 10) X.1.1 X.1.2.1 d_rf_constant_57 rfl ?_
          refine lv_isub X.1.1 X.1.2.1 d_rf_constant_59 ?_
          refine rl_12 X (creg h_a h9 h23 h37) d_rf_constant_60 ?_
          exact X.iret hr hlk d_rf_constant_61 (by first | (simp only [constM, eq_false h1, eq_true h9, eq_false h23, eq_false h37, if_true, if_false]; done) | (simp [constM, eq_false h1, eq_true h9, eq_false h23, eq_false h37]; done) | (simp [constM, h1, h9, h23, h37]; done) | rfl) rfl
        · skip
          refine lv_aload_n X.1.1 X.1.2.1 d_rf_constant_40 rfl (lv_at L 0 rfl) ?_
          refine lv_aload_n X.1.1 X.1.2.1 d_rf_constant_41 rfl (lv_at L 0 rfl) ?_
          refine lv_iconst (v := 1) X.1.1 X.1.2.1 d_rf_constant_42 rfl ?_
          refine Mi.callV (k := 1) (c_rf_at hI _ _ hm (vpc (by decide))) X (gt_V mw_672 mw_674 ms_43 mw_5 mw_675) ok_rf_at ⟨rfl, rfl, by decide, by decide⟩ (rc_rf X) rfl L.1 rfl (Nat.le_of_ble_eq_true rfl) d_rf_constant_43 (fun H locs X => ?_)
          refine Mi.callV (k := 1) (c_rf_classOfWord hI _ _ (hm.at (vpc (by decide)))) X (gt_V mw_640 mw_642 ms_39 mw_5 mw_643) ok_rf_classOfWord ⟨rfl, rfl, by decide, by decide⟩ (rc_rf X) rfl L.1 rfl (Nat.le_of_ble_eq_true rfl) d_rf_constant_46 (fun H locs X => ?_)
          refine lv_goto (tgt := 61) X.1.1 X.1.2.1 d_rf_constant_49 rfl ?_
          exact X.iret hr hlk d_rf_constant_61 (by first | (simp only [constM, eq_false h1, eq_true h9, eq_false h23, eq_true h37, if_true, if_false]; done) | (simp [constM, eq_false h1, eq_true h9, eq_false h23, eq_true h37]; done) | (simp [constM, h1, h9, h23, h37]; done) | rfl) rfl
      · skip
        refine lv_aload_n X.1.1 X.1.2.1 d_rf_constant_26 rfl (lv_at L 0 rfl) ?_
        refine lv_iconst (v := 1) X.1.1 X.1.2.1 d_rf_constant_27 rfl ?_
        refine Mi.callV (k := 1) (c_rf_at hI _ _ hm (vpc (by decide))) X (gt_V mw_672 mw_674 ms_43 mw_5 mw_675) ok_rf_at ⟨rfl, rfl, by decide, by decide⟩ (rc_rf X) rfl L.1 rfl (Nat.le_of_ble_eq_true rfl) d_rf_constant_28 (fun H locs X => ?_)
        refine lv_goto (tgt := 61) X.1.1 X.1.2.1 d_rf_constant_31 rfl ?_
        exact X.iret hr hlk d_rf_constant_61 (by first | (simp only [constM, eq_false h1, eq_true h9, eq_true h23, if_true, if_false]; done) | (simp [constM, eq_false h1, eq_true h9, eq_true h23]; done) | (simp [constM, h1, h9, h23]; done) | rfl) rfl
    · skip
      refine lv_sipush (v := 1000) X.1.1 X.1.2.1 d_rf_constant_12 rfl ?_
      refine lv_iload_n X.1.1 X.1.2.1 d_rf_constant_15 rfl (lv_at L 1 rfl) ?_
      refine lv_iadd X.1.1 X.1.2.1 d_rf_constant_16 ?_
      refine lv_iconst (v := 4) X.1.1 X.1.2.1 d_rf_constant_17 rfl ?_
      refine lv_isub X.1.1 X.1.2.1 d_rf_constant_18 ?_
      exact X.iret hr hlk d_rf_constant_19 (by first | (simp only [constM, eq_false h1, eq_false h9, if_true, if_false]; done) | (simp [constM, eq_false h1, eq_false h9]; done) | (simp [constM, h1, h9]; done) | rfl) rfl
  · skip
    refine lv_iconst (v := 0) X.1.1 X.1.2.1 d_rf_constant_4 rfl ?_
    exact X.iret hr hlk d_rf_constant_5 (by first | (simp only [constM, eq_true h1, if_true, if_false]; done) | (simp [constM, eq_true h1]; done) | (simp [constM, h1]; done) | rfl) rfl
set_option maxHeartbeats 4000000 in
theorem c_rf_work {l : Launch} {D : va_G} {ad : Nat → Nat} {ci : Nat → ClassId} (hI : InjR ad) (σ : SS) (a : Int32) (hm : RGm σ) (h2 : 2 ≤ (tpM σ).toInt) : Mv l y_rf_work b_rf_work 5 ({ frames := 2, cells := 0, slots := 0, locals := 42 } : Room) (ER D ad ci) [.ref (ad 0), .int a] σ (workM σ a) := by
  refine Mv.start pn_rf (Nat.le_of_ble_eq_true rfl) (fun zp ze zs zm zb zt zc ls X hr hlk L => ?_)
  have L : lv_has ls 5 [(0, .ref (ad 0)), (1, .int a)] := L
  have r1 := RGm_popM hm (by omega)
  have e1 := dec_in (d := tpM σ) (by omega) hm.tp.2
  have r2 := RGm_popM r1.1 (by rw [r1.2, e1]; omega)
  have e2 : (tpM (popM (popM σ))).toInt < 6 := by
    have e3 := dec_in (d := tpM (popM σ)) (by rw [r1.2, e1]; omega) r1.1.tp.2
    have := r1.1.tp.2
    rw [r2.2, e3]; omega
  refine lv_aload_n X.1.1 X.1.2.1 d_rf_work_0 rfl (lv_at L 0 rfl) ?_
  refine lv_iconst (v := 0) X.1.1 X.1.2.1 d_rf_work_1 rfl ?_
  refine Mi.callV (k := 1) (c_rf_fromTop hI _ _ hm (by decide) (by rw [n0]; omega)) X (gt_V mw_694 mw_696 ms_47 mw_5 mw_697) ok_rf_fromTop ⟨rfl, rfl, by decide, by decide⟩ (rc_rf X) rfl L.1 rfl (Nat.le_of_ble_eq_true rfl) d_rf_work_2 (fun H locs X => ?_)
  refine lv_istore_n (lv' := [(2, .int _), (0, .ref _), (1, .int _)]) X.1.1 X.1.2.1 d_rf_work_5 rfl L (by decide) rfl (fun ls L => ?_)
  refine lv_aload_n X.1.1 X.1.2.1 d_rf_work_6 rfl (lv_at L 1 rfl) ?_
  refine lv_iconst (v := 1) X.1.1 X.1.2.1 d_rf_work_7 rfl ?_
  refine Mi.callV (k := 1) (c_rf_fromTop hI _ _ hm (by decide) (by rw [show (1 : Int32).toInt = 1 from rfl]; omega)) X (gt_V mw_694 mw_696 ms_47 mw_5 mw_697) ok_rf_fromTop ⟨rfl, rfl, by decide, by decide⟩ (rc_rf X) rfl L.1 rfl (Nat.le_of_ble_eq_true rfl) d_rf_work_8 (fun H locs X => ?_)
  refine lv_istore_n (lv' := [(3, .int _), (2, .int _), (0, .ref _), (1, .int _)]) X.1.1 X.1.2.1 d_rf_work_11 rfl L (by decide) rfl (fun ls L => ?_)
  refine lv_aload_n X.1.1 X.1.2.1 d_rf_work_12 rfl (lv_at L 2 rfl) ?_
  refine Mv.callV (k := 0) (c_rf_pop hI _ hm (by omega)) X (gt_V mw_730 mw_732 ms_56 mw_5 mw_733) ok_rf_pop ⟨rfl, rfl, by decide, by decide⟩ (rc_rf X) rfl L.1 rfl (Nat.le_of_ble_eq_true rfl) d_rf_work_13 (fun H locs X => ?_)
  refine lv_aload_n X.1.1 X.1.2.1 d_rf_work_16 rfl (lv_at L 2 rfl) ?_
  refine Mv.callV (k := 0) (c_rf_pop hI _ r1.1 (by rw [r1.2, e1]; omega)) X (gt_V mw_730 mw_732 ms_56 mw_5 mw_733) ok_rf_pop ⟨rfl, rfl, by decide, by decide⟩ (rc_rf X) rfl L.1 rfl (Nat.le_of_ble_eq_true rfl) d_rf_work_17 (fun H locs X => ?_)
  refine lv_iload_n X.1.1 X.1.2.1 d_rf_work_20 rfl (lv_at L 3 rfl) ?_
  refine lv_iconst (v := 3) X.1.1 X.1.2.1 d_rf_work_21 rfl ?_
  refine lv_icmp_ne (tgt := 38) X.1.1 X.1.2.1 d_rf_work_22 rfl (fun h22 => ?_) (fun h22 => ?_)
  · skip
    refine lv_iload_n X.1.1 X.1.2.1 d_rf_work_38 rfl (lv_at L 0 rfl) ?_
    refine lv_iload_n X.1.1 X.1.2.1 d_rf_work_39 rfl (lv_at L 1 rfl) ?_
    refine lv_icmp_ne (tgt := 47) X.1.1 X.1.2.1 d_rf_work_40 rfl (fun h40 => ?_) (fun h40 => ?_)
    · skip
      refine lv_iconst (v := 0) X.1.1 X.1.2.1 d_rf_work_47 rfl ?_
      refine lv_istore (lv' := [(4, .int _), (3, .int _), (2, .int _), (0, .ref _), (1, .int _)]) X.1.1 X.1.2.1 d_rf_work_48 L (by decide) rfl (fun ls L => ?_)
      refine lv_aload_n X.1.1 X.1.2.1 d_rf_work_50 rfl (lv_at L 3 rfl) ?_
      refine lv_iload_n X.1.1 X.1.2.1 d_rf_work_51 rfl (lv_at L 4 rfl) ?_
      refine lv_iconst (v := 3) X.1.1 X.1.2.1 d_rf_work_52 rfl ?_
      refine lv_icmp_ge (tgt := 78) X.1.1 X.1.2.1 d_rf_work_53 rfl (fun h53 => ?_) (fun h53 => ?_)
      · skip
        refine lv_iload X.1.1 X.1.2.1 d_rf_work_78 (lv_at L 0 rfl) ?_
        refine lv_if_eq (tgt := 89) X.1.1 X.1.2.1 d_rf_work_80 rfl (fun h80 => ?_) (fun h80 => ?_)
        · skip
          refine lv_iconst (v := 0) X.1.1 X.1.2.1 d_rf_work_89 rfl ?_
          refine Mv.callV (k := 1) (c_rf_push hI _ _ r2.1 e2) X (gt_V mw_718 mw_720 ms_53 mw_5 mw_721) ok_rf_push ⟨rfl, rfl, by decide, by decide⟩ (rc_rf X) rfl L.1 rfl (Nat.le_of_ble_eq_true rfl) d_rf_work_90 (fun H locs X => ?_)
          exact X.vret hr hlk d_rf_work_93 (by first | exact absurd h80 (by decide) | exact absurd rfl h80 | (simp only [workM, wk2M, wk1M, eq_false h22, eq_false h40, eq_true h53, eq_true h80, if_true, if_false]; done) | (simp [workM, wk2M, wk1M, eq_false h22, eq_false h40, eq_true h53, eq_true h80]; done))
        · skip
          refine lv_sipush (v := 1001) X.1.1 X.1.2.1 d_rf_work_83 rfl ?_
          refine lv_goto (tgt := 90) X.1.1 X.1.2.1 d_rf_work_86 rfl ?_
          refine Mv.callV (k := 1) (c_rf_push hI _ _ r2.1 e2) X (gt_V mw_718 mw_720 ms_53 mw_5 mw_721) ok_rf_push ⟨rfl, rfl, by decide, by decide⟩ (rc_rf X) rfl L.1 rfl (Nat.le_of_ble_eq_true rfl) d_rf_work_90 (fun H locs X => ?_)
          exact X.vret hr hlk d_rf_work_93 (by first | exact absurd h80 (by decide) | exact absurd rfl h80 | (simp only [workM, wk2M, wk1M, eq_false h22, eq_false h40, eq_true h53, eq_false h80, if_true, if_false]; done) | (simp [workM, wk2M, wk1M, eq_false h22, eq_false h40, eq_true h53, eq_false h80]; done))
      · skip
        refine lv_sipush (v := 1000) X.1.1 X.1.2.1 d_rf_work_56 rfl ?_
        refine lv_aload_n X.1.1 X.1.2.1 d_rf_work_59 rfl (lv_at L 3 rfl) ?_
        refine lv_iload_n X.1.1 X.1.2.1 d_rf_work_60 rfl (lv_at L 4 rfl) ?_
        refine lv_iload_n X.1.1 X.1.2.1 d_rf_work_61 rfl (lv_at L 1 rfl) ?_
        refine lv_sipush (v := 1000) X.1.1 X.1.2.1 d_rf_work_62 rfl ?_
        refine lv_isub X.1.1 X.1.2.1 d_rf_work_65 ?_
        refine lv_iload_n X.1.1 X.1.2.1 d_rf_work_66 rfl (lv_at L 2 rfl) ?_
        refine lv_sipush (v := 1000) X.1.1 X.1.2.1 d_rf_work_67 rfl ?_
        refine lv_isub X.1.1 X.1.2.1 d_rf_work_70 ?_
        refine Mi.callV (k := 3) (c_rf_arithmetic hI _ _ _ _) X (gt_V mw_706 mw_708 ms_50 mw_5 mw_709) ok_rf_arithmetic ⟨rfl, rfl, by decide, by decide⟩ (rc_rf X) rfl L.1 rfl (Nat.le_of_ble_eq_true rfl) d_rf_work_71 (fun H locs X => ?_)
        refine lv_iadd X.1.1 X.1.2.1 d_rf_work_74 ?_
        refine lv_goto (tgt := 90) X.1.1 X.1.2.1 d_rf_work_75 rfl ?_
        refine Mv.callV (k := 1) (c_rf_push hI _ _ r2.1 e2) X (gt_V mw_718 mw_720 ms_53 mw_5 mw_721) ok_rf_push ⟨rfl, rfl, by decide, by decide⟩ (rc_rf X) rfl L.1 rfl (Nat.le_of_ble_eq_true rfl) d_rf_work_90 (fun H locs X => ?_)
        exact X.vret hr hlk d_rf_work_93 (by first | exact absurd h80 (by decide) | exact absurd rfl h80 | (simp only [workM, wk2M, wk1M, eq_false h22, eq_false h40, eq_false h53, if_true, if_false]; done) | (simp [workM, wk2M, wk1M, eq_false h22, eq_false h40, eq_false h53]; done))
    · skip
      refine lv_iconst (v := 1) X.1.1 X.1.2.1 d_rf_work_43 rfl ?_
      refine lv_goto (tgt := 48) X.1.1 X.1.2.1 d_rf_work_44 rfl ?_
      refine lv_istore (lv' := [(4, .int _), (3, .int _), (2, .int _), (0, .ref _), (1, .int _)]) X.1.1 X.1.2.1 d_rf_work_48 L (by decide) rfl (fun ls L => ?_)
      refine lv_aload_n X.1.1 X.1.2.1 d_rf_work_50 rfl (lv_at L 3 rfl) ?_
      refine lv_iload_n X.1.1 X.1.2.1 d_rf_work_51 rfl (lv_at L 4 rfl) ?_
      refine lv_iconst (v := 3) X.1.1 X.1.2.1 d_rf_work_52 rfl ?_
      refine lv_icmp_ge (tgt := 78) X.1.1 X.1.2.1 d_rf_work_53 rfl (fun h53 => ?_) (fun h53 => ?_)
      · skip
        refine lv_iload X.1.1 X.1.2.1 d_rf_work_78 (lv_at L 0 rfl) ?_
        refine lv_if_eq (tgt := 89) X.1.1 X.1.2.1 d_rf_work_80 rfl (fun h80 => ?_) (fun h80 => ?_)
        · skip
          refine lv_iconst (v := 0) X.1.1 X.1.2.1 d_rf_work_89 rfl ?_
          refine Mv.callV (k := 1) (c_rf_push hI _ _ r2.1 e2) X (gt_V mw_718 mw_720 ms_53 mw_5 mw_721) ok_rf_push ⟨rfl, rfl, by decide, by decide⟩ (rc_rf X) rfl L.1 rfl (Nat.le_of_ble_eq_true rfl) d_rf_work_90 (fun H locs X => ?_)
          exact X.vret hr hlk d_rf_work_93 (by first | exact absurd h80 (by decide) | exact absurd rfl h80 | (simp only [workM, wk2M, wk1M, eq_false h22, eq_true h40, eq_true h53, eq_true h80, if_true, if_false]; done) | (simp [workM, wk2M, wk1M, eq_false h22, eq_true h40, eq_true h53, eq_true h80]; done))
        · skip
          refine lv_sipush (v := 1001) X.1.1 X.1.2.1 d_rf_work_83 rfl ?_
          refine lv_goto (tgt := 90) X.1.1 X.1.2.1 d_rf_work_86 rfl ?_
          refine Mv.callV (k := 1) (c_rf_push hI _ _ r2.1 e2) X (gt_V mw_718 mw_720 ms_53 mw_5 mw_721) ok_rf_push ⟨rfl, rfl, by decide, by decide⟩ (rc_rf X) rfl L.1 rfl (Nat.le_of_ble_eq_true rfl) d_rf_work_90 (fun H locs X => ?_)
          exact X.vret hr hlk d_rf_work_93 (by first | exact absurd h80 (by decide) | exact absurd rfl h80 | (simp only [workM, wk2M, wk1M, eq_false h22, eq_true h40, eq_true h53, eq_false h80, if_true, if_false]; done) | (simp [workM, wk2M, wk1M, eq_false h22, eq_true h40, eq_true h53, eq_false h80]; done))
      · skip
        refine lv_sipush (v := 1000) X.1.1 X.1.2.1 d_rf_work_56 rfl ?_
        refine lv_aload_n X.1.1 X.1.2.1 d_rf_work_59 rfl (lv_at L 3 rfl) ?_
        refine lv_iload_n X.1.1 X.1.2.1 d_rf_work_60 rfl (lv_at L 4 rfl) ?_
        refine lv_iload_n X.1.1 X.1.2.1 d_rf_work_61 rfl (lv_at L 1 rfl) ?_
        refine lv_sipush (v := 1000) X.1.1 X.1.2.1 d_rf_work_62 rfl ?_
        refine lv_isub X.1.1 X.1.2.1 d_rf_work_65 ?_
        refine lv_iload_n X.1.1 X.1.2.1 d_rf_work_66 rfl (lv_at L 2 rfl) ?_
        refine lv_sipush (v := 1000) X.1.1 X.1.2.1 d_rf_work_67 rfl ?_
        refine lv_isub X.1.1 X.1.2.1 d_rf_work_70 ?_
        refine Mi.callV (k := 3) (c_rf_arithmetic hI _ _ _ _) X (gt_V mw_706 mw_708 ms_50 mw_5 mw_709) ok_rf_arithmetic ⟨rfl, rfl, by decide, by decide⟩ (rc_rf X) rfl L.1 rfl (Nat.le_of_ble_eq_true rfl) d_rf_work_71 (fun H locs X => ?_)
        refine lv_iadd X.1.1 X.1.2.1 d_rf_work_74 ?_
        refine lv_goto (tgt := 90) X.1.1 X.1.2.1 d_rf_work_75 rfl ?_
        refine Mv.callV (k := 1) (c_rf_push hI _ _ r2.1 e2) X (gt_V mw_718 mw_720 ms_53 mw_5 mw_721) ok_rf_push ⟨rfl, rfl, by decide, by decide⟩ (rc_rf X) rfl L.1 rfl (Nat.le_of_ble_eq_true rfl) d_rf_work_90 (fun H locs X => ?_)
        exact X.vret hr hlk d_rf_work_93 (by first | exact absurd h80 (by decide) | exact absurd rfl h80 | (simp only [workM, wk2M, wk1M, eq_false h22, eq_true h40, eq_false h53, if_true, if_false]; done) | (simp [workM, wk2M, wk1M, eq_false h22, eq_true h40, eq_false h53]; done))
  · skip
    refine lv_iload_n X.1.1 X.1.2.1 d_rf_work_25 rfl (lv_at L 0 rfl) ?_
    refine lv_iload_n X.1.1 X.1.2.1 d_rf_work_26 rfl (lv_at L 1 rfl) ?_
    refine lv_icmp_ge (tgt := 34) X.1.1 X.1.2.1 d_rf_work_27 rfl (fun h27 => ?_) (fun h27 => ?_)
    · skip
      refine lv_iconst (v := 0) X.1.1 X.1.2.1 d_rf_work_34 rfl ?_
      refine lv_goto (tgt := 48) X.1.1 X.1.2.1 d_rf_work_35 rfl ?_
      refine lv_istore (lv' := [(4, .int _), (3, .int _), (2, .int _), (0, .ref _), (1, .int _)]) X.1.1 X.1.2.1 d_rf_work_48 L (by decide) rfl (fun ls L => ?_)
      refine lv_aload_n X.1.1 X.1.2.1 d_rf_work_50 rfl (lv_at L 3 rfl) ?_
      refine lv_iload_n X.1.1 X.1.2.1 d_rf_work_51 rfl (lv_at L 4 rfl) ?_
      refine lv_iconst (v := 3) X.1.1 X.1.2.1 d_rf_work_52 rfl ?_
      refine lv_icmp_ge (tgt := 78) X.1.1 X.1.2.1 d_rf_work_53 rfl (fun h53 => ?_) (fun h53 => ?_)
      · skip
        refine lv_iload X.1.1 X.1.2.1 d_rf_work_78 (lv_at L 0 rfl) ?_
        refine lv_if_eq (tgt := 89) X.1.1 X.1.2.1 d_rf_work_80 rfl (fun h80 => ?_) (fun h80 => ?_)
        · skip
          refine lv_iconst (v := 0) X.1.1 X.1.2.1 d_rf_work_89 rfl ?_
          refine Mv.callV (k := 1) (c_rf_push hI _ _ r2.1 e2) X (gt_V mw_718 mw_720 ms_53 mw_5 mw_721) ok_rf_push ⟨rfl, rfl, by decide, by decide⟩ (rc_rf X) rfl L.1 rfl (Nat.le_of_ble_eq_true rfl) d_rf_work_90 (fun H locs X => ?_)
          exact X.vret hr hlk d_rf_work_93 (by first | exact absurd h80 (by decide) | exact absurd rfl h80 | (simp only [workM, wk2M, wk1M, eq_true h22, eq_true h27, eq_true h53, eq_true h80, if_true, if_false]; done) | (simp [workM, wk2M, wk1M, eq_true h22, eq_true h27, eq_true h53, eq_true h80]; done))
        · skip
          refine lv_sipush (v := 1001) X.1.1 X.1.2.1 d_rf_work_83 rfl ?_
          refine lv_goto (tgt := 90) X.1.1 X.1.2.1 d_rf_work_86 rfl ?_
          refine Mv.callV (k := 1) (c_rf_push hI _ _ r2.1 e2) X (gt_V mw_718 mw_720 ms_53 mw_5 mw_721) ok_rf_push ⟨rfl, rfl, by decide, by decide⟩ (rc_rf X) rfl L.1 rfl (Nat.le_of_ble_eq_true rfl) d_rf_work_90 (fun H locs X => ?_)
          exact X.vret hr hlk d_rf_work_93 (by first | exact absurd h80 (by decide) | exact absurd rfl h80 | (simp only [workM, wk2M, wk1M, eq_true h22, eq_true h27, eq_true h53, eq_false h80, if_true, if_false]; done) | (simp [workM, wk2M, wk1M, eq_true h22, eq_true h27, eq_true h53, eq_false h80]; done))
      · skip
        refine lv_sipush (v := 1000) X.1.1 X.1.2.1 d_rf_work_56 rfl ?_
        refine lv_aload_n X.1.1 X.1.2.1 d_rf_work_59 rfl (lv_at L 3 rfl) ?_
        refine lv_iload_n X.1.1 X.1.2.1 d_rf_work_60 rfl (lv_at L 4 rfl) ?_
        refine lv_iload_n X.1.1 X.1.2.1 d_rf_work_61 rfl (lv_at L 1 rfl) ?_
        refine lv_sipush (v := 1000) X.1.1 X.1.2.1 d_rf_work_62 rfl ?_
        refine lv_isub X.1.1 X.1.2.1 d_rf_work_65 ?_
        refine lv_iload_n X.1.1 X.1.2.1 d_rf_work_66 rfl (lv_at L 2 rfl) ?_
        refine lv_sipush (v := 1000) X.1.1 X.1.2.1 d_rf_work_67 rfl ?_
        refine lv_isub X.1.1 X.1.2.1 d_rf_work_70 ?_
        refine Mi.callV (k := 3) (c_rf_arithmetic hI _ _ _ _) X (gt_V mw_706 mw_708 ms_50 mw_5 mw_709) ok_rf_arithmetic ⟨rfl, rfl, by decide, by decide⟩ (rc_rf X) rfl L.1 rfl (Nat.le_of_ble_eq_true rfl) d_rf_work_71 (fun H locs X => ?_)
        refine lv_iadd X.1.1 X.1.2.1 d_rf_work_74 ?_
        refine lv_goto (tgt := 90) X.1.1 X.1.2.1 d_rf_work_75 rfl ?_
        refine Mv.callV (k := 1) (c_rf_push hI _ _ r2.1 e2) X (gt_V mw_718 mw_720 ms_53 mw_5 mw_721) ok_rf_push ⟨rfl, rfl, by decide, by decide⟩ (rc_rf X) rfl L.1 rfl (Nat.le_of_ble_eq_true rfl) d_rf_work_90 (fun H locs X => ?_)
        exact X.vret hr hlk d_rf_work_93 (by first | exact absurd h80 (by decide) | exact absurd rfl h80 | (simp only [workM, wk2M, wk1M, eq_true h22, eq_true h27, eq_false h53, if_true, if_false]; done) | (simp [workM, wk2M, wk1M, eq_true h22, eq_true h27, eq_false h53]; done))
    · skip
      refine lv_iconst (v := 1) X.1.1 X.1.2.1 d_rf_work_30 rfl ?_
      refine lv_goto (tgt := 48) X.1.1 X.1.2.1 d_rf_work_31 rfl ?_
      refine lv_istore (lv' := [(4, .int _), (3, .int _), (2, .int _), (0, .ref _), (1, .int _)]) X.1.1 X.1.2.1 d_rf_work_48 L (by decide) rfl (fun ls L => ?_)
      refine lv_aload_n X.1.1 X.1.2.1 d_rf_work_50 rfl (lv_at L 3 rfl) ?_
      refine lv_iload_n X.1.1 X.1.2.1 d_rf_work_51 rfl (lv_at L 4 rfl) ?_
      refine lv_iconst (v := 3) X.1.1 X.1.2.1 d_rf_work_52 rfl ?_
      refine lv_icmp_ge (tgt := 78) X.1.1 X.1.2.1 d_rf_work_53 rfl (fun h53 => ?_) (fun h53 => ?_)
      · skip
        refine lv_iload X.1.1 X.1.2.1 d_rf_work_78 (lv_at L 0 rfl) ?_
        refine lv_if_eq (tgt := 89) X.1.1 X.1.2.1 d_rf_work_80 rfl (fun h80 => ?_) (fun h80 => ?_)
        · skip
          refine lv_iconst (v := 0) X.1.1 X.1.2.1 d_rf_work_89 rfl ?_
          refine Mv.callV (k := 1) (c_rf_push hI _ _ r2.1 e2) X (gt_V mw_718 mw_720 ms_53 mw_5 mw_721) ok_rf_push ⟨rfl, rfl, by decide, by decide⟩ (rc_rf X) rfl L.1 rfl (Nat.le_of_ble_eq_true rfl) d_rf_work_90 (fun H locs X => ?_)
          exact X.vret hr hlk d_rf_work_93 (by first | exact absurd h80 (by decide) | exact absurd rfl h80 | (simp only [workM, wk2M, wk1M, eq_true h22, eq_false h27, eq_true h53, eq_true h80, if_true, if_false]; done) | (simp [workM, wk2M, wk1M, eq_true h22, eq_false h27, eq_true h53, eq_true h80]; done))
        · skip
          refine lv_sipush (v := 1001) X.1.1 X.1.2.1 d_rf_work_83 rfl ?_
          refine lv_goto (tgt := 90) X.1.1 X.1.2.1 d_rf_work_86 rfl ?_
          refine Mv.callV (k := 1) (c_rf_push hI _ _ r2.1 e2) X (gt_V mw_718 mw_720 ms_53 mw_5 mw_721) ok_rf_push ⟨rfl, rfl, by decide, by decide⟩ (rc_rf X) rfl L.1 rfl (Nat.le_of_ble_eq_true rfl) d_rf_work_90 (fun H locs X => ?_)
          exact X.vret hr hlk d_rf_work_93 (by first | exact absurd h80 (by decide) | exact absurd rfl h80 | (simp only [workM, wk2M, wk1M, eq_true h22, eq_false h27, eq_true h53, eq_false h80, if_true, if_false]; done) | (simp [workM, wk2M, wk1M, eq_true h22, eq_false h27, eq_true h53, eq_false h80]; done))
      · skip
        refine lv_sipush (v := 1000) X.1.1 X.1.2.1 d_rf_work_56 rfl ?_
        refine lv_aload_n X.1.1 X.1.2.1 d_rf_work_59 rfl (lv_at L 3 rfl) ?_
        refine lv_iload_n X.1.1 X.1.2.1 d_rf_work_60 rfl (lv_at L 4 rfl) ?_
        refine lv_iload_n X.1.1 X.1.2.1 d_rf_work_61 rfl (lv_at L 1 rfl) ?_
        refine lv_sipush (v := 1000) X.1.1 X.1.2.1 d_rf_work_62 rfl ?_
        refine lv_isub X.1.1 X.1.2.1 d_rf_work_65 ?_
        refine lv_iload_n X.1.1 X.1.2.1 d_rf_work_66 rfl (lv_at L 2 rfl) ?_
        refine lv_sipush (v := 1000) X.1.1 X.1.2.1 d_rf_work_67 rfl ?_
        refine lv_isub X.1.1 X.1.2.1 d_rf_work_70 ?_
        refine Mi.callV (k := 3) (c_rf_arithmetic hI _ _ _ _) X (gt_V mw_706 mw_708 ms_50 mw_5 mw_709) ok_rf_arithmetic ⟨rfl, rfl, by decide, by decide⟩ (rc_rf X) rfl L.1 rfl (Nat.le_of_ble_eq_true rfl) d_rf_work_71 (fun H locs X => ?_)
        refine lv_iadd X.1.1 X.1.2.1 d_rf_work_74 ?_
        refine lv_goto (tgt := 90) X.1.1 X.1.2.1 d_rf_work_75 rfl ?_
        refine Mv.callV (k := 1) (c_rf_push hI _ _ r2.1 e2) X (gt_V mw_718 mw_720 ms_53 mw_5 mw_721) ok_rf_push ⟨rfl, rfl, by decide, by decide⟩ (rc_rf X) rfl L.1 rfl (Nat.le_of_ble_eq_true rfl) d_rf_work_90 (fun H locs X => ?_)
        exact X.vret hr hlk d_rf_work_93 (by first | exact absurd h80 (by decide) | exact absurd rfl h80 | (simp only [workM, wk2M, wk1M, eq_true h22, eq_false h27, eq_false h53, if_true, if_false]; done) | (simp [workM, wk2M, wk1M, eq_true h22, eq_false h27, eq_false h53]; done))
set_option maxHeartbeats 4000000 in
theorem c_rf_sends {l : Launch} {D : va_G} {ad : Nat → Nat} {ci : Nat → ClassId} (hI : InjR ad) (σ : SS) (τ : SS) (c p a : Int32) (P A : Nat) (hA : ACT τ σ c) (ha : A < 16) (ea : a = nI A) (hd : A % 3 + 1 ≤ dpt τ c) (ht : vp_in a 8) (hrm : 0 ≤ roomM σ) : Mv l y_rf_sends b_rf_sends 10 ({ frames := 3, cells := 0, slots := 0, locals := 64 } : Room) (ER D ad ci) [.ref (ad 0), .int p, .int a] σ (sendsM σ p a) := by
  refine Mv.start pn_rf (Nat.le_of_ble_eq_true rfl) (fun zp ze zs zm zb zt zc ls X hr hlk L => ?_)
  have L : lv_has ls 10 [(0, .ref (ad 0)), (1, .int p), (2, .int a)] := L
  refine lv_aload_n X.1.1 X.1.2.1 d_rf_sends_0 rfl (lv_at L 0 rfl) ?_
  refine lv_aload_n X.1.1 X.1.2.1 d_rf_sends_1 rfl (lv_at L 0 rfl) ?_
  refine lv_iload_n X.1.1 X.1.2.1 d_rf_sends_2 rfl (lv_at L 1 rfl) ?_
  refine lv_iload_n X.1.1 X.1.2.1 d_rf_sends_3 rfl (lv_at L 2 rfl) ?_
  refine Mi.callV (k := 2) (c_rf_beginning hI _ _ _ hA.rgm (fun _ => (show 0 ≤ (argumentsOf a).toInt ∧ (argumentsOf a).toInt + 1 ≤ (tpM σ).toInt from by rw [ea, args16 ha]; exact hA.top1 hd)) hA.c2) X (gt_V mw_690 mw_692 ms_46 mw_5 mw_693) ok_rf_beginning ⟨rfl, rfl, by decide, by decide⟩ (rc_rf X) rfl L.1 rfl (Nat.le_of_ble_eq_true rfl) d_rf_sends_4 (fun H locs X => ?_)
  refine lv_iload_n X.1.1 X.1.2.1 d_rf_sends_7 rfl (lv_at L 2 rfl) ?_
  refine Mi.callV (k := 2) (c_rf_found hI _ _ _ (by rw [ea]; exact sup_begin hA p ha hd) ht) X (gt_V mw_656 mw_658 ms_40 mw_5 mw_659) ok_rf_found ⟨rfl, rfl, by decide, by decide⟩ (rc_rf X) rfl L.1 rfl (Nat.le_of_ble_eq_true rfl) d_rf_sends_8 (fun H locs X => ?_)
  refine lv_istore_n (lv' := [(3, .int _), (0, .ref _), (1, .int _), (2, .int _)]) X.1.1 X.1.2.1 d_rf_sends_11 rfl L (by decide) rfl (fun ls L => ?_)
  refine lv_aload_n X.1.1 X.1.2.1 d_rf_sends_12 rfl (lv_at L 1 rfl) ?_
  refine Mi.callV (k := 0) (c_rf_room hI _) X (gt_V mw_592 mw_594 ms_35 mw_5 mw_595) ok_rf_room ⟨rfl, rfl, by decide, by decide⟩ (rc_rf X) rfl L.1 rfl (Nat.le_of_ble_eq_true rfl) d_rf_sends_13 (fun H locs X => ?_)
  refine lv_istore (lv' := [(4, .int _), (3, .int _), (0, .ref _), (1, .int _), (2, .int _)]) X.1.1 X.1.2.1 d_rf_sends_16 L (by decide) rfl (fun ls L => ?_)
  refine lv_aload_n X.1.1 X.1.2.1 d_rf_sends_18 rfl (lv_at L 2 rfl) ?_
  refine g_rf_active X d_rf_sends_19 ?_
  refine lv_istore (lv' := [(5, .int _), (4, .int _), (3, .int _), (0, .ref _), (1, .int _), (2, .int _)]) X.1.1 X.1.2.1 d_rf_sends_22 L (by decide) rfl (fun ls L => ?_)
  refine lv_iload_n X.1.1 X.1.2.1 d_rf_sends_24 rfl (lv_at L 5 rfl) ?_
  refine lv_iconst (v := 3) X.1.1 X.1.2.1 d_rf_sends_25 rfl ?_
  refine lv_irem X.1.1 X.1.2.1 d_rf_sends_26 (by decide) ?_
  refine lv_istore (lv' := [(6, .int _), (5, .int _), (4, .int _), (3, .int _), (0, .ref _), (1, .int _), (2, .int _)]) X.1.1 X.1.2.1 d_rf_sends_27 L (by decide) rfl (fun ls L => ?_)
  refine lv_aload_n X.1.1 X.1.2.1 d_rf_sends_29 rfl (lv_at L 4 rfl) ?_
  refine lv_iload X.1.1 X.1.2.1 d_rf_sends_30 (lv_at L 0 rfl) ?_
  refine Mi.callV (k := 1) (c_rf_fromTop hI _ _ hA.rgm (show 0 ≤ (argumentsOf a).toInt ∧ (argumentsOf a).toInt + 1 ≤ (tpM σ).toInt from by rw [ea, args16 ha]; exact hA.top1 hd).1 (show 0 ≤ (argumentsOf a).toInt ∧ (argumentsOf a).toInt + 1 ≤ (tpM σ).toInt from by rw [ea, args16 ha]; exact hA.top1 hd).2) X (gt_V mw_694 mw_696 ms_47 mw_5 mw_697) ok_rf_fromTop ⟨rfl, rfl, by decide, by decide⟩ (rc_rf X) rfl L.1 rfl (Nat.le_of_ble_eq_true rfl) d_rf_sends_32 (fun H locs X => ?_)
  refine lv_istore (lv' := [(7, .int _), (6, .int _), (5, .int _), (4, .int _), (3, .int _), (0, .ref _), (1, .int _), (2, .int _)]) X.1.1 X.1.2.1 d_rf_sends_35 L (by decide) rfl (fun ls L => ?_)
  refine lv_aload_n X.1.1 X.1.2.1 d_rf_sends_37 rfl (lv_at L 5 rfl) ?_
  refine lv_iload X.1.1 X.1.2.1 d_rf_sends_38 (lv_at L 3 rfl) ?_
  refine lv_iload X.1.1 X.1.2.1 d_rf_sends_40 (lv_at L 2 rfl) ?_
  refine lv_iload X.1.1 X.1.2.1 d_rf_sends_42 (lv_at L 0 rfl) ?_
  refine lv_iload_n X.1.1 X.1.2.1 d_rf_sends_44 rfl (lv_at L 4 rfl) ?_
  refine lv_iload_n X.1.1 X.1.2.1 d_rf_sends_45 rfl (lv_at L 7 rfl) ?_
  refine Mv.callV (k := 5) (c_rf_context hI _ _ _ _ _ _ (room_in hrm)) X (gt_V mw_660 mw_662 ms_41 mw_5 mw_663) ok_rf_context ⟨rfl, rfl, by decide, by decide⟩ (rc_rf X) rfl L.1 rfl (Nat.le_of_ble_eq_true rfl) d_rf_sends_46 (fun H locs X => ?_)
  refine lv_iconst (v := 0) X.1.1 X.1.2.1 d_rf_sends_49 rfl ?_
  refine lv_istore (lv' := [(8, .int _), (7, .int _), (6, .int _), (5, .int _), (4, .int _), (3, .int _), (0, .ref _), (1, .int _), (2, .int _)]) X.1.1 X.1.2.1 d_rf_sends_50 L (by decide) rfl (fun ls L => ?_)
  have loop52 : ∀ (n : Nat) (k : Nat) (σ1 : SS) (H : Heap) (locs : List Loc) (ls : Array Slot), (nI (k + n) = argumentsOf a) → (k + n = A % 3) → (σ1.1 11 (ix (acM σ)) = tpM σ) → (sd2M (sdL n k σ1 (roomM σ) (acM σ) (argumentsOf a)) (acM σ) (argumentsOf a) = sendsM σ p a) → Cx (ER D ad ci) zp zs zm (([.ref (ad 0), .int p, .int a] : List Value).toArray) zc b_rf_sends 10 "MessageMachineModel" H locs σ1 → lv_has ls 10 [(8, .int (nI k)), (0, .ref (ad 0)), (1, .int p), (2, .int a), (3, .int (foundM σ (beginM σ p a) a)), (4, .int (roomM σ)), (5, .int (acM σ)), (6, .int (argumentsOf a)), (7, .int (fromTopM σ (argumentsOf a)))] → W zp l ze ({ frames := 3, cells := 0, slots := 0, locals := 64 } : Room) zs zm (([.ref (ad 0), .int p, .int a] : List Value).toArray) zb zt zc H locs 0 0 (MQ zb (va_Qv (fun (u : SS) => u = (sendsM σ p a)) (fun u t => Pq (ER D ad ci) u t) (ER D ad ci).2.2.2) (([.ref (ad 0), .int p, .int a] : List Value).toArray) zs 0 0 (ER D ad ci).2.2.2) (F0 zm 52 ls []) := by
    intro n
    induction n with
    | zero =>
      intro k σ1 H locs ls hk hkl h11 hq X L
      have e8 : argumentsOf a ≤ nI k := by rw [← hk]; exact Int32.le_refl _
      refine lv_iload X.1.1 X.1.2.1 d_rf_sends_52 (lv_at L 0 rfl) ?_
      refine lv_iload X.1.1 X.1.2.1 d_rf_sends_54 (lv_at L 7 rfl) ?_
      refine lv_icmp_ge (tgt := 119) X.1.1 X.1.2.1 d_rf_sends_56 rfl (fun h56 => ?_) (fun h56 => ?_)
      · skip
        refine lv_aload_n X.1.1 X.1.2.1 d_rf_sends_119 rfl (lv_at L 1 rfl) ?_
        refine g_rf_top X d_rf_sends_120 ?_
        refine lv_iload X.1.1 X.1.2.1 d_rf_sends_123 (lv_at L 6 rfl) ?_
        refine lv_dup2_11 X.1.1 X.1.2.1 d_rf_sends_125 rfl rfl ?_
        refine rl_11 X hA.rgm.ac d_rf_sends_126 ?_
        refine lv_iload X.1.1 X.1.2.1 d_rf_sends_127 (lv_at L 7 rfl) ?_
        refine lv_iconst (v := 1) X.1.1 X.1.2.1 d_rf_sends_129 rfl ?_
        refine lv_iadd X.1.1 X.1.2.1 d_rf_sends_130 ?_
        refine lv_isub X.1.1 X.1.2.1 d_rf_sends_131 ?_
        refine rs_11 hI X hA.rgm.ac d_rf_sends_132 (fun H locs X => ?_)
        refine lv_aload_n X.1.1 X.1.2.1 d_rf_sends_133 rfl (lv_at L 1 rfl) ?_
        refine g_rf_word X d_rf_sends_134 ?_
        refine lv_bipush (v := 15) X.1.1 X.1.2.1 d_rf_sends_137 rfl ?_
        refine lv_iload X.1.1 X.1.2.1 d_rf_sends_139 (lv_at L 6 rfl) ?_
        refine lv_imul X.1.1 X.1.2.1 d_rf_sends_141 ?_
        refine lv_bipush (v := 9) X.1.1 X.1.2.1 d_rf_sends_142 rfl ?_
        refine lv_iadd X.1.1 X.1.2.1 d_rf_sends_144 ?_
        refine lv_aload_n X.1.1 X.1.2.1 d_rf_sends_145 rfl (lv_at L 1 rfl) ?_
        refine g_rf_top X d_rf_sends_146 ?_
        refine lv_iload X.1.1 X.1.2.1 d_rf_sends_149 (lv_at L 6 rfl) ?_
        refine rl_11 X hA.rgm.ac d_rf_sends_151 ?_
        refine lv_iadd X.1.1 X.1.2.1 d_rf_sends_152 ?_
        refine lv_iconst (v := 0) X.1.1 X.1.2.1 d_rf_sends_153 rfl ?_
        refine rs_5 hI X (w9v hA.rgm.ac (by show vp_in (upd (σ1.1 11) (ix (acM σ)) (σ1.1 11 (ix (acM σ)) - (argumentsOf a + 1)) (ix (acM σ))) 6; rw [pk_us, h11, hA.tpd.1, ea, args16 ha, nI_1, pk_sub (by omega)]; exact vp_k (by have := hA.dle; omega) (by decide))) d_rf_sends_154 (fun H locs X => ?_)
        exact X.vret hr hlk d_rf_sends_155 (by rw [← hq]; rfl)
      · skip
        exact absurd e8 h56
    | succ n ih =>
      intro k σ1 H locs ls hk hkl h11 hq X L
      have e8 : ¬ argumentsOf a ≤ nI k := by rw [← hk, nI_leI (by omega) (by omega)]; omega
      have hV : vp_in (15 * acM σ + 9 + σ1.1 11 (ix (acM σ)) - argumentsOf a + nI k) 420 := by rw [h11, hA.tpd.1, ea, args16 ha]; exact sdvp hA.rgm.ac hA.dle (by omega) (by omega)
      refine lv_iload X.1.1 X.1.2.1 d_rf_sends_52 (lv_at L 0 rfl) ?_
      refine lv_iload X.1.1 X.1.2.1 d_rf_sends_54 (lv_at L 7 rfl) ?_
      refine lv_icmp_ge (tgt := 119) X.1.1 X.1.2.1 d_rf_sends_56 rfl (fun h56 => ?_) (fun h56 => ?_)
      · skip
        exact absurd h56 e8
      · skip
        refine lv_bipush (v := 15) X.1.1 X.1.2.1 d_rf_sends_59 rfl ?_
        refine lv_iload X.1.1 X.1.2.1 d_rf_sends_61 (lv_at L 6 rfl) ?_
        refine lv_imul X.1.1 X.1.2.1 d_rf_sends_63 ?_
        refine lv_bipush (v := 9) X.1.1 X.1.2.1 d_rf_sends_64 rfl ?_
        refine lv_iadd X.1.1 X.1.2.1 d_rf_sends_66 ?_
        refine lv_aload_n X.1.1 X.1.2.1 d_rf_sends_67 rfl (lv_at L 1 rfl) ?_
        refine g_rf_top X d_rf_sends_68 ?_
        refine lv_iload X.1.1 X.1.2.1 d_rf_sends_71 (lv_at L 6 rfl) ?_
        refine rl_11 X hA.rgm.ac d_rf_sends_73 ?_
        refine lv_iadd X.1.1 X.1.2.1 d_rf_sends_74 ?_
        refine lv_iload X.1.1 X.1.2.1 d_rf_sends_75 (lv_at L 7 rfl) ?_
        refine lv_isub X.1.1 X.1.2.1 d_rf_sends_77 ?_
        refine lv_iload X.1.1 X.1.2.1 d_rf_sends_78 (lv_at L 0 rfl) ?_
        refine lv_iadd X.1.1 X.1.2.1 d_rf_sends_80 ?_
        refine lv_istore (lv' := [(9, .int _), (8, .int _), (0, .ref _), (1, .int _), (2, .int _), (3, .int _), (4, .int _), (5, .int _), (6, .int _), (7, .int _)]) X.1.1 X.1.2.1 d_rf_sends_81 L (by decide) rfl (fun ls L => ?_)
        refine lv_aload_n X.1.1 X.1.2.1 d_rf_sends_83 rfl (lv_at L 2 rfl) ?_
        refine g_rf_word X d_rf_sends_84 ?_
        refine lv_bipush (v := 15) X.1.1 X.1.2.1 d_rf_sends_87 rfl ?_
        refine lv_iload X.1.1 X.1.2.1 d_rf_sends_89 (lv_at L 6 rfl) ?_
        refine lv_imul X.1.1 X.1.2.1 d_rf_sends_91 ?_
        refine lv_iconst (v := 5) X.1.1 X.1.2.1 d_rf_sends_92 rfl ?_
        refine lv_iadd X.1.1 X.1.2.1 d_rf_sends_93 ?_
        refine lv_iload X.1.1 X.1.2.1 d_rf_sends_94 (lv_at L 1 rfl) ?_
        refine lv_iadd X.1.1 X.1.2.1 d_rf_sends_96 ?_
        refine lv_aload_n X.1.1 X.1.2.1 d_rf_sends_97 rfl (lv_at L 2 rfl) ?_
        refine g_rf_word X d_rf_sends_98 ?_
        refine lv_iload X.1.1 X.1.2.1 d_rf_sends_101 (lv_at L 0 rfl) ?_
        refine rl_5 X hV d_rf_sends_103 ?_
        refine rs_5 hI X (w5v (room_in hrm) (by omega)) d_rf_sends_104 (fun H locs X => ?_)
        refine lv_aload_n X.1.1 X.1.2.1 d_rf_sends_105 rfl (lv_at L 2 rfl) ?_
        refine g_rf_word X d_rf_sends_106 ?_
        refine lv_iload X.1.1 X.1.2.1 d_rf_sends_109 (lv_at L 0 rfl) ?_
        refine lv_iconst (v := 0) X.1.1 X.1.2.1 d_rf_sends_111 rfl ?_
        refine rs_5 hI X hV d_rf_sends_112 (fun H locs X => ?_)
        refine lv_iinc (k := 1) (lv' := [(8, .int (nI (k + 1))), (9, .int _), (0, .ref _), (1, .int _), (2, .int _), (3, .int _), (4, .int _), (5, .int _), (6, .int _), (7, .int _)]) X.1.1 X.1.2.1 d_rf_sends_113 L rfl (nI_inc k) (by decide) rfl (fun ls L => ?_)
        refine lv_goto (tgt := 52) X.1.1 X.1.2.1 d_rf_sends_116 rfl ?_
        exact ih (k + 1) _ _ _ _ (by rw [show k + 1 + n = k + (n + 1) by omega]; exact hk) (by omega) (by exact h11) (by rw [← hq]; rfl) X (lv_sub L [0, 2, 3, 4, 5, 6, 7, 8, 9] rfl)
  exact loop52 (A % 3) 0 _ _ _ _ (by rw [Nat.zero_add, ea, args16 ha]) (by omega) (ctx_11 hA hrm _ _ _ _) (by rw [sendsM, ea, args16 ha, ix_nI (by omega)]) X (lv_sub L [0, 6, 7, 8, 5, 4, 3, 2, 1] rfl)
set_option maxHeartbeats 4000000 in
theorem c_rf_returns {l : Launch} {D : va_G} {ad : Nat → Nat} {ci : Nat → ClassId} (hI : InjR ad) (σ : SS) (w : Int32) (hm : RGm σ) (hr0 : vp_in (atM σ 0) 28) (hr1 : ¬ atM σ 0 = 0 → (tpM (sA σ 20 0 (atM σ 0))).toInt < 6) : Mv l y_rf_returns b_rf_returns 3 ({ frames := 1, cells := 0, slots := 0, locals := 21 } : Room) (ER D ad ci) [.ref (ad 0), .int w] σ (returnsM σ w) := by
  refine Mv.start pn_rf (Nat.le_of_ble_eq_true rfl) (fun zp ze zs zm zb zt zc ls X hr hlk L => ?_)
  have L : lv_has ls 3 [(0, .ref (ad 0)), (1, .int w)] := L
  refine lv_aload_n X.1.1 X.1.2.1 d_rf_returns_0 rfl (lv_at L 0 rfl) ?_
  refine lv_iconst (v := 0) X.1.1 X.1.2.1 d_rf_returns_1 rfl ?_
  refine Mi.callV (k := 1) (c_rf_at hI _ _ hm (vpc (by decide))) X (gt_V mw_672 mw_674 ms_43 mw_5 mw_675) ok_rf_at ⟨rfl, rfl, by decide, by decide⟩ (rc_rf X) rfl L.1 rfl (Nat.le_of_ble_eq_true rfl) d_rf_returns_2 (fun H locs X => ?_)
  refine lv_istore_n (lv' := [(2, .int _), (0, .ref _), (1, .int _)]) X.1.1 X.1.2.1 d_rf_returns_5 rfl L (by decide) rfl (fun ls L => ?_)
  refine lv_aload_n X.1.1 X.1.2.1 d_rf_returns_6 rfl (lv_at L 1 rfl) ?_
  refine lv_iload_n X.1.1 X.1.2.1 d_rf_returns_7 rfl (lv_at L 0 rfl) ?_
  refine p_rf_active hI X d_rf_returns_8 (fun H locs X => ?_)
  refine lv_iload_n X.1.1 X.1.2.1 d_rf_returns_11 rfl (lv_at L 0 rfl) ?_
  refine lv_if_ne (tgt := 25) X.1.1 X.1.2.1 d_rf_returns_12 rfl (fun h12 => ?_) (fun h12 => ?_)
  · skip
    refine lv_aload_n X.1.1 X.1.2.1 d_rf_returns_25 rfl (lv_at L 1 rfl) ?_
    refine lv_iload_n X.1.1 X.1.2.1 d_rf_returns_26 rfl (lv_at L 2 rfl) ?_
    refine Mv.callV (k := 1) (c_rf_push hI _ _ (RGm_20 hm hr0) (hr1 h12)) X (gt_V mw_718 mw_720 ms_53 mw_5 mw_721) ok_rf_push ⟨rfl, rfl, by decide, by decide⟩ (rc_rf X) rfl L.1 rfl (Nat.le_of_ble_eq_true rfl) d_rf_returns_27 (fun H locs X => ?_)
    exact X.vret hr hlk d_rf_returns_30 (by first | (simp only [returnsM, eq_false h12, if_true, if_false]; done) | (simp [returnsM, eq_false h12]; done) | (simp [returnsM, h12]; done) | rfl)
  · skip
    refine lv_aload_n X.1.1 X.1.2.1 d_rf_returns_15 rfl (lv_at L 1 rfl) ?_
    refine g_rf_handles X d_rf_returns_16 ?_
    refine lv_iconst (v := 0) X.1.1 X.1.2.1 d_rf_returns_19 rfl ?_
    refine lv_iload_n X.1.1 X.1.2.1 d_rf_returns_20 rfl (lv_at L 2 rfl) ?_
    refine rs_12 hI X (vpc (by decide)) d_rf_returns_21 (fun H locs X => ?_)
    refine lv_goto (tgt := 30) X.1.1 X.1.2.1 d_rf_returns_22 rfl ?_
    exact X.vret hr hlk d_rf_returns_30 (by first | (simp only [returnsM, eq_true h12, if_true, if_false]; done) | (simp [returnsM, eq_true h12]; done) | (simp [returnsM, h12]; done) | rfl)
set_option maxHeartbeats 4000000 in
theorem c_rf_create {l : Launch} {D : va_G} {ad : Nat → Nat} {ci : Nat → ClassId} (hI : InjR ad) (σ : SS)  (hm : RGm σ) (h1 : 1 ≤ (tpM σ).toInt) (hcl : vp_in (fromTopM σ 0) 28) (hrm : 0 ≤ roomM σ) : Mv l y_rf_create b_rf_create 3 ({ frames := 2, cells := 0, slots := 0, locals := 42 } : Room) (ER D ad ci) [.ref (ad 0)] σ (createM σ) := by
  refine Mv.start pn_rf (Nat.le_of_ble_eq_true rfl) (fun zp ze zs zm zb zt zc ls X hr hlk L => ?_)
  have L : lv_has ls 3 [(0, .ref (ad 0))] := L
  refine lv_aload_n X.1.1 X.1.2.1 d_rf_create_0 rfl (lv_at L 0 rfl) ?_
  refine lv_iconst (v := 0) X.1.1 X.1.2.1 d_rf_create_1 rfl ?_
  refine Mi.callV (k := 1) (c_rf_fromTop hI _ _ hm (by decide) (by rw [n0]; omega)) X (gt_V mw_694 mw_696 ms_47 mw_5 mw_697) ok_rf_fromTop ⟨rfl, rfl, by decide, by decide⟩ (rc_rf X) rfl L.1 rfl (Nat.le_of_ble_eq_true rfl) d_rf_create_2 (fun H locs X => ?_)
  refine lv_istore_n (lv' := [(1, .int _), (0, .ref _)]) X.1.1 X.1.2.1 d_rf_create_5 rfl L (by decide) rfl (fun ls L => ?_)
  refine lv_aload_n X.1.1 X.1.2.1 d_rf_create_6 rfl (lv_at L 1 rfl) ?_
  refine Mi.callV (k := 0) (c_rf_room hI _) X (gt_V mw_592 mw_594 ms_35 mw_5 mw_595) ok_rf_room ⟨rfl, rfl, by decide, by decide⟩ (rc_rf X) rfl L.1 rfl (Nat.le_of_ble_eq_true rfl) d_rf_create_7 (fun H locs X => ?_)
  refine lv_istore_n (lv' := [(2, .int _), (1, .int _), (0, .ref _)]) X.1.1 X.1.2.1 d_rf_create_10 rfl L (by decide) rfl (fun ls L => ?_)
  refine lv_aload_n X.1.1 X.1.2.1 d_rf_create_11 rfl (lv_at L 2 rfl) ?_
  refine Mv.callV (k := 0) (c_rf_pop hI _ hm h1) X (gt_V mw_730 mw_732 ms_56 mw_5 mw_733) ok_rf_pop ⟨rfl, rfl, by decide, by decide⟩ (rc_rf X) rfl L.1 rfl (Nat.le_of_ble_eq_true rfl) d_rf_create_12 (fun H locs X => ?_)
  refine lv_aload_n X.1.1 X.1.2.1 d_rf_create_15 rfl (lv_at L 2 rfl) ?_
  refine lv_iload_n X.1.1 X.1.2.1 d_rf_create_16 rfl (lv_at L 0 rfl) ?_
  refine lv_iconst (v := 0) X.1.1 X.1.2.1 d_rf_create_17 rfl ?_
  refine lv_iload_n X.1.1 X.1.2.1 d_rf_create_18 rfl (lv_at L 1 rfl) ?_
  refine lv_aload_n X.1.1 X.1.2.1 d_rf_create_19 rfl (lv_at L 2 rfl) ?_
  refine g_rf_size X d_rf_create_20 ?_
  refine lv_iload_n X.1.1 X.1.2.1 d_rf_create_23 rfl (lv_at L 1 rfl) ?_
  refine rl_8 X hcl d_rf_create_24 ?_
  refine Mv.callV (k := 4) (c_rf_make1 hI _ _ _ _ _ (room_in hrm)) X (gt_V mw_596 mw_598 ms_36 mw_5 mw_599) ok_rf_make1 ⟨rfl, rfl, by decide, by decide⟩ (rc_rf X) rfl L.1 rfl (Nat.le_of_ble_eq_true rfl) d_rf_create_25 (fun H locs X => ?_)
  refine lv_aload_n X.1.1 X.1.2.1 d_rf_create_28 rfl (lv_at L 2 rfl) ?_
  refine lv_iload_n X.1.1 X.1.2.1 d_rf_create_29 rfl (lv_at L 0 rfl) ?_
  refine Mv.callV (k := 1) (c_rf_push hI _ _ (RGm_make1 (RGm_popM hm h1).1 _ (room_in hrm) hcl ⟨((RGm_popM hm h1).1.sz hcl).1, by have := ((RGm_popM hm h1).1.sz hcl).2; omega⟩) (tp_make1 _ _ _ (by rw [(RGm_popM hm h1).2, dec_in h1 hm.tp.2]; have := hm.tp.2; omega))) X (gt_V mw_718 mw_720 ms_53 mw_5 mw_721) ok_rf_push ⟨rfl, rfl, by decide, by decide⟩ (rc_rf X) rfl L.1 rfl (Nat.le_of_ble_eq_true rfl) d_rf_create_30 (fun H locs X => ?_)
  exact X.vret hr hlk d_rf_create_33 rfl
set_option maxHeartbeats 4000000 in
theorem c_rf_into {l : Launch} {D : va_G} {ad : Nat → Nat} {ci : Nat → ClassId} (hI : InjR ad) (σ : SS) (j : Int32) (hm : RGm σ) (h1 : 1 ≤ (tpM σ).toInt) (h_j : vp_in j 420) : Mv l y_rf_into b_rf_into 3 ({ frames := 2, cells := 0, slots := 0, locals := 42 } : Room) (ER D ad ci) [.ref (ad 0), .int j] σ (intoM σ j) := by
  refine Mv.start pn_rf (Nat.le_of_ble_eq_true rfl) (fun zp ze zs zm zb zt zc ls X hr hlk L => ?_)
  have L : lv_has ls 3 [(0, .ref (ad 0)), (1, .int j)] := L
  refine lv_aload_n X.1.1 X.1.2.1 d_rf_into_0 rfl (lv_at L 0 rfl) ?_
  refine lv_iconst (v := 0) X.1.1 X.1.2.1 d_rf_into_1 rfl ?_
  refine Mi.callV (k := 1) (c_rf_fromTop hI _ _ hm (by decide) (by rw [n0]; omega)) X (gt_V mw_694 mw_696 ms_47 mw_5 mw_697) ok_rf_fromTop ⟨rfl, rfl, by decide, by decide⟩ (rc_rf X) rfl L.1 rfl (Nat.le_of_ble_eq_true rfl) d_rf_into_2 (fun H locs X => ?_)
  refine lv_istore_n (lv' := [(2, .int _), (0, .ref _), (1, .int _)]) X.1.1 X.1.2.1 d_rf_into_5 rfl L (by decide) rfl (fun ls L => ?_)
  refine lv_aload_n X.1.1 X.1.2.1 d_rf_into_6 rfl (lv_at L 1 rfl) ?_
  refine Mv.callV (k := 0) (c_rf_pop hI _ hm h1) X (gt_V mw_730 mw_732 ms_56 mw_5 mw_733) ok_rf_pop ⟨rfl, rfl, by decide, by decide⟩ (rc_rf X) rfl L.1 rfl (Nat.le_of_ble_eq_true rfl) d_rf_into_7 (fun H locs X => ?_)
  refine lv_aload_n X.1.1 X.1.2.1 d_rf_into_10 rfl (lv_at L 1 rfl) ?_
  refine g_rf_word X d_rf_into_11 ?_
  refine lv_iload_n X.1.1 X.1.2.1 d_rf_into_14 rfl (lv_at L 2 rfl) ?_
  refine lv_iload_n X.1.1 X.1.2.1 d_rf_into_15 rfl (lv_at L 0 rfl) ?_
  refine rs_5 hI X h_j d_rf_into_16 (fun H locs X => ?_)
  exact X.vret hr hlk d_rf_into_17 rfl
set_option maxHeartbeats 4000000 in
theorem c_rf_reach {l : Launch} {D : va_G} {ad : Nat → Nat} {ci : Nat → ClassId} (hI : InjR ad) (σ : SS) (w : Int32) (n_w : 0 ≤ w.toInt) : Mv l y_rf_reach b_rf_reach 2 ({ frames := 1, cells := 0, slots := 0, locals := 20 } : Room) (ER D ad ci) [.ref (ad 0), .int w] σ (reachM σ w) := by
  refine Mv.start pn_rf (Nat.le_of_ble_eq_true rfl) (fun zp ze zs zm zb zt zc ls X hr hlk L => ?_)
  have L : lv_has ls 2 [(0, .ref (ad 0)), (1, .int w)] := L
  refine lv_iload_n X.1.1 X.1.2.1 d_rf_reach_0 rfl (lv_at L 1 rfl) ?_
  refine Mi.callS (k := 1) (c_rf_isNumber hI _ _) X mw_532 mw_533 mw_5 mw_534 ok_rf_isNumber ⟨rfl, rfl, by decide, by decide⟩ rfl L.1 rfl (Nat.le_of_ble_eq_true rfl) d_rf_reach_1 (fun H locs X => ?_)
  refine lv_if_ne (tgt := 14) X.1.1 X.1.2.1 d_rf_reach_4 rfl (fun h4 => ?_) (fun h4 => ?_)
  · skip
    exact X.vret hr hlk d_rf_reach_14 (by first | (simp only [reachM, eq_false h4, if_true, if_false]; done) | (simp [reachM, eq_false h4]; done) | (simp [reachM, h4]; done) | rfl)
  · skip
    refine lv_aload_n X.1.1 X.1.2.1 d_rf_reach_7 rfl (lv_at L 0 rfl) ?_
    refine g_rf_reached X d_rf_reach_8 ?_
    refine lv_iload_n X.1.1 X.1.2.1 d_rf_reach_11 rfl (lv_at L 1 rfl) ?_
    refine lv_iconst (v := 1) X.1.1 X.1.2.1 d_rf_reach_12 rfl ?_
    refine rs_13 hI X (num_in h4 n_w) rfl d_rf_reach_13 (fun H locs X => ?_)
    exact X.vret hr hlk d_rf_reach_14 (by first | (simp only [reachM, eq_true h4, if_true, if_false]; done) | (simp [reachM, eq_true h4]; done) | (simp [reachM, h4]; done) | rfl)
set_option maxHeartbeats 4000000 in
theorem c_rf_abort {l : Launch} {D : va_G} {ad : Nat → Nat} {ci : Nat → ClassId} (hI : InjR ad) (σ : SS)  (hm : RGm σ) : Mi l y_rf_abort b_rf_abort 1 (some .boolean) ({ frames := 3, cells := 0, slots := 0, locals := 65 } : Room) (ER D ad ci) [.ref (ad 0)] σ ((abortM σ).1) ((abortM σ).2) := by
  refine Mi.start pn_rf (Nat.le_of_ble_eq_true rfl) (fun zp ze zs zm zb zt zc ls X hr hlk L => ?_)
  have L : lv_has ls 1 [(0, .ref (ad 0))] := L
  refine lv_aload_n X.1.1 X.1.2.1 d_rf_abort_0 rfl (lv_at L 0 rfl) ?_
  refine g_rf_active X d_rf_abort_1 ?_
  refine lv_if_ne (tgt := 9) X.1.1 X.1.2.1 d_rf_abort_4 rfl (fun h4 => ?_) (fun h4 => ?_)
  · skip
    refine lv_aload_n X.1.1 X.1.2.1 d_rf_abort_9 rfl (lv_at L 0 rfl) ?_
    refine lv_iconst (v := 0) X.1.1 X.1.2.1 d_rf_abort_10 rfl ?_
    refine p_rf_active hI X d_rf_abort_11 (fun H locs X => ?_)
    refine lv_aload_n X.1.1 X.1.2.1 d_rf_abort_14 rfl (lv_at L 0 rfl) ?_
    refine lv_iconst (v := 0) X.1.1 X.1.2.1 d_rf_abort_15 rfl ?_
    refine p_rf_reason hI X d_rf_abort_16 (fun H locs X => ?_)
    refine lv_aload_n X.1.1 X.1.2.1 d_rf_abort_19 rfl (lv_at L 0 rfl) ?_
    refine Mv.callV (k := 0) (c_rf_settle hI _ (RGm_A (RGm_20 hm (vpc (by decide))) (by decide) _ _)) X (gt_V mw_524 mw_526 ms_32 mw_5 mw_527) ok_rf_settle ⟨rfl, rfl, by decide, by decide⟩ (rc_rf X) rfl L.1 rfl (Nat.le_of_ble_eq_true rfl) d_rf_abort_20 (fun H locs X => ?_)
    refine lv_iconst (v := 1) X.1.1 X.1.2.1 d_rf_abort_23 rfl ?_
    exact X.zret hr hlk d_rf_abort_24 (by first | rfl | assumption) (by first | (simp only [abortM, eq_false h4, if_true, if_false]; done) | (simp [abortM, eq_false h4]; done) | (simp [abortM, h4]; done) | rfl) (by first | (simp only [abortM, eq_false h4, if_true, if_false]; done) | (simp [abortM, eq_false h4]; done) | (simp [abortM, h4]; done) | rfl)
  · skip
    refine lv_iconst (v := 0) X.1.1 X.1.2.1 d_rf_abort_7 rfl ?_
    exact X.zret hr hlk d_rf_abort_8 (by first | rfl | assumption) (by first | (simp only [abortM, eq_true h4, if_true, if_false]; done) | (simp [abortM, eq_true h4]; done) | (simp [abortM, h4]; done) | rfl) (by first | (simp only [abortM, eq_true h4, if_true, if_false]; done) | (simp [abortM, eq_true h4]; done) | (simp [abortM, h4]; done) | rfl)
set_option maxHeartbeats 4000000 in
theorem c_rf_state {l : Launch} {D : va_G} {ad : Nat → Nat} {ci : Nat → ClassId} (hI : InjR ad) (σ : SS)   : Mi l y_rf_state b_rf_state 1 (some .int) ({ frames := 0, cells := 0, slots := 0, locals := 0 } : Room) (ER D ad ci) [.ref (ad 0)] σ (stateM σ) (σ) := by
  refine Mi.start pn_rf (Nat.le_of_ble_eq_true rfl) (fun zp ze zs zm zb zt zc ls X hr hlk L => ?_)
  have L : lv_has ls 1 [(0, .ref (ad 0))] := L
  refine lv_aload_n X.1.1 X.1.2.1 d_rf_state_0 rfl (lv_at L 0 rfl) ?_
  refine g_rf_active X d_rf_state_1 ?_
  refine lv_if_ne (tgt := 11) X.1.1 X.1.2.1 d_rf_state_4 rfl (fun h4 => ?_) (fun h4 => ?_)
  · skip
    refine lv_aload_n X.1.1 X.1.2.1 d_rf_state_11 rfl (lv_at L 0 rfl) ?_
    refine g_rf_reason X d_rf_state_12 ?_
    refine lv_if_le (tgt := 22) X.1.1 X.1.2.1 d_rf_state_15 rfl (fun h15 => ?_) (fun h15 => ?_)
    · skip
      refine lv_iconst (v := 1) X.1.1 X.1.2.1 d_rf_state_22 rfl ?_
      exact X.iret hr hlk d_rf_state_23 (by first | (simp only [stateM, eq_false h4, eq_true h15, if_true, if_false]; done) | (simp [stateM, eq_false h4, eq_true h15]; done) | (simp [stateM, h4, h15]; done) | rfl) rfl
    · skip
      refine lv_iconst (v := 2) X.1.1 X.1.2.1 d_rf_state_18 rfl ?_
      refine lv_goto (tgt := 23) X.1.1 X.1.2.1 d_rf_state_19 rfl ?_
      exact X.iret hr hlk d_rf_state_23 (by first | (simp only [stateM, eq_false h4, eq_false h15, if_true, if_false]; done) | (simp [stateM, eq_false h4, eq_false h15]; done) | (simp [stateM, h4, h15]; done) | rfl) rfl
  · skip
    refine lv_iconst (v := 0) X.1.1 X.1.2.1 d_rf_state_7 rfl ?_
    refine lv_goto (tgt := 23) X.1.1 X.1.2.1 d_rf_state_8 rfl ?_
    exact X.iret hr hlk d_rf_state_23 (by first | (simp only [stateM, eq_true h4, if_true, if_false]; done) | (simp [stateM, eq_true h4]; done) | (simp [stateM, h4]; done) | rfl) rfl
set_option maxHeartbeats 4000000 in
theorem c_rf_reason {l : Launch} {D : va_G} {ad : Nat → Nat} {ci : Nat → ClassId} (hI : InjR ad) (σ : SS)   : Mi l y_rf_reason b_rf_reason 1 (some .int) ({ frames := 0, cells := 0, slots := 0, locals := 0 } : Room) (ER D ad ci) [.ref (ad 0)] σ (σ.1 21 0) (σ) := by
  refine Mi.start pn_rf (Nat.le_of_ble_eq_true rfl) (fun zp ze zs zm zb zt zc ls X hr hlk L => ?_)
  have L : lv_has ls 1 [(0, .ref (ad 0))] := L
  refine lv_aload_n X.1.1 X.1.2.1 d_rf_reason_0 rfl (lv_at L 0 rfl) ?_
  refine g_rf_reason X d_rf_reason_1 ?_
  exact X.iret hr hlk d_rf_reason_4 rfl rfl
set_option maxHeartbeats 4000000 in
theorem c_rf_active {l : Launch} {D : va_G} {ad : Nat → Nat} {ci : Nat → ClassId} (hI : InjR ad) (σ : SS)   : Mi l y_rf_active b_rf_active 1 (some .int) ({ frames := 0, cells := 0, slots := 0, locals := 0 } : Room) (ER D ad ci) [.ref (ad 0)] σ (σ.1 20 0) (σ) := by
  refine Mi.start pn_rf (Nat.le_of_ble_eq_true rfl) (fun zp ze zs zm zb zt zc ls X hr hlk L => ?_)
  have L : lv_has ls 1 [(0, .ref (ad 0))] := L
  refine lv_aload_n X.1.1 X.1.2.1 d_rf_active_0 rfl (lv_at L 0 rfl) ?_
  refine g_rf_active X d_rf_active_1 ?_
  exact X.iret hr hlk d_rf_active_4 rfl rfl
set_option maxHeartbeats 4000000 in
theorem c_rf_stack {l : Launch} {D : va_G} {ad : Nat → Nat} {ci : Nat → ClassId} (hI : InjR ad) (σ : SS) (o : Int32)  : Mi l y_rf_stack b_rf_stack 2 (some .int) ({ frames := 1, cells := 0, slots := 0, locals := 21 } : Room) (ER D ad ci) [.ref (ad 0), .int o] σ (stackM σ o) (σ) := by
  refine Mi.start pn_rf (Nat.le_of_ble_eq_true rfl) (fun zp ze zs zm zb zt zc ls X hr hlk L => ?_)
  have L : lv_has ls 2 [(0, .ref (ad 0)), (1, .int o)] := L
  refine lv_aload_n X.1.1 X.1.2.1 d_rf_stack_0 rfl (lv_at L 0 rfl) ?_
  refine lv_iload_n X.1.1 X.1.2.1 d_rf_stack_1 rfl (lv_at L 1 rfl) ?_
  refine Mi.callV (k := 1) (c_rf_noObject hI _ _) X (gt_V mw_778 mw_780 ms_62 mw_5 mw_781) ok_rf_noObject ⟨rfl, rfl, by decide, by decide⟩ (rc_rf X) rfl L.1 rfl (Nat.le_of_ble_eq_true rfl) d_rf_stack_2 (fun H locs X => ?_)
  refine lv_if_ne (tgt := 18) X.1.1 X.1.2.1 d_rf_stack_5 rfl (fun h5 => ?_) (fun h5 => ?_)
  · skip
    refine lv_iconst (v := (-1)) X.1.1 X.1.2.1 d_rf_stack_18 rfl ?_
    refine lv_goto (tgt := 28) X.1.1 X.1.2.1 d_rf_stack_19 rfl ?_
    exact X.iret hr hlk d_rf_stack_28 (by first | (simp only [stackM, eq_false h5, if_true, if_false]; done) | (simp [stackM, eq_false h5]; done) | (simp [stackM, h5]; done) | rfl) rfl
  · skip
    refine lv_aload_n X.1.1 X.1.2.1 d_rf_stack_8 rfl (lv_at L 0 rfl) ?_
    refine g_rf_sort X d_rf_stack_9 ?_
    refine lv_iload_n X.1.1 X.1.2.1 d_rf_stack_12 rfl (lv_at L 1 rfl) ?_
    refine rl_2 X (noObj_in h5) d_rf_stack_13 ?_
    refine lv_iconst (v := 2) X.1.1 X.1.2.1 d_rf_stack_14 rfl ?_
    refine lv_icmp_eq (tgt := 22) X.1.1 X.1.2.1 d_rf_stack_15 rfl (fun h15 => ?_) (fun h15 => ?_)
    · skip
      refine lv_aload_n X.1.1 X.1.2.1 d_rf_stack_22 rfl (lv_at L 0 rfl) ?_
      refine g_rf_top X d_rf_stack_23 ?_
      refine lv_iload_n X.1.1 X.1.2.1 d_rf_stack_26 rfl (lv_at L 1 rfl) ?_
      refine rl_11 X (noObj_in h5) d_rf_stack_27 ?_
      exact X.iret hr hlk d_rf_stack_28 (by first | (simp only [stackM, eq_true h5, eq_true h15, if_true, if_false]; done) | (simp [stackM, eq_true h5, eq_true h15]; done) | (simp [stackM, h5, h15]; done) | rfl) rfl
    · skip
      refine lv_iconst (v := (-1)) X.1.1 X.1.2.1 d_rf_stack_18 rfl ?_
      refine lv_goto (tgt := 28) X.1.1 X.1.2.1 d_rf_stack_19 rfl ?_
      exact X.iret hr hlk d_rf_stack_28 (by first | (simp only [stackM, eq_true h5, eq_false h15, if_true, if_false]; done) | (simp [stackM, eq_true h5, eq_false h15]; done) | (simp [stackM, h5, h15]; done) | rfl) rfl
set_option maxHeartbeats 4000000 in
theorem c_rf_handle {l : Launch} {D : va_G} {ad : Nat → Nat} {ci : Nat → ClassId} (hI : InjR ad) (σ : SS) (h : Int32)  : Mi l y_rf_handle b_rf_handle 2 (some .int) ({ frames := 1, cells := 0, slots := 0, locals := 20 } : Room) (ER D ad ci) [.ref (ad 0), .int h] σ (handleM σ h) (σ) := by
  refine Mi.start pn_rf (Nat.le_of_ble_eq_true rfl) (fun zp ze zs zm zb zt zc ls X hr hlk L => ?_)
  have L : lv_has ls 2 [(0, .ref (ad 0)), (1, .int h)] := L
  refine lv_iload_n X.1.1 X.1.2.1 d_rf_handle_0 rfl (lv_at L 1 rfl) ?_
  refine Mi.callS (k := 1) (c_rf_noHandle hI _ _) X mw_585 mw_586 mw_5 mw_587 ok_rf_noHandle ⟨rfl, rfl, by decide, by decide⟩ rfl L.1 rfl (Nat.le_of_ble_eq_true rfl) d_rf_handle_1 (fun H locs X => ?_)
  refine lv_if_eq (tgt := 11) X.1.1 X.1.2.1 d_rf_handle_4 rfl (fun h4 => ?_) (fun h4 => ?_)
  · skip
    refine lv_aload_n X.1.1 X.1.2.1 d_rf_handle_11 rfl (lv_at L 0 rfl) ?_
    refine g_rf_handles X d_rf_handle_12 ?_
    refine lv_iload_n X.1.1 X.1.2.1 d_rf_handle_15 rfl (lv_at L 1 rfl) ?_
    refine rl_12 X (nh_in h4) d_rf_handle_16 ?_
    exact X.iret hr hlk d_rf_handle_17 (by first | (simp only [handleM, eq_true h4, if_true, if_false]; done) | (simp [handleM, eq_true h4]; done) | (simp [handleM, h4]; done) | rfl) rfl
  · skip
    refine lv_iconst (v := (-1)) X.1.1 X.1.2.1 d_rf_handle_7 rfl ?_
    refine lv_goto (tgt := 17) X.1.1 X.1.2.1 d_rf_handle_8 rfl ?_
    exact X.iret hr hlk d_rf_handle_17 (by first | (simp only [handleM, eq_false h4, if_true, if_false]; done) | (simp [handleM, eq_false h4]; done) | (simp [handleM, h4]; done) | rfl) rfl
set_option maxHeartbeats 4000000 in
theorem c_rf_field {l : Launch} {D : va_G} {ad : Nat → Nat} {ci : Nat → ClassId} (hI : InjR ad) (σ : SS) (o k : Int32) (hm : RGm σ) : Mi l y_rf_field b_rf_field 3 (some .int) ({ frames := 1, cells := 0, slots := 0, locals := 21 } : Room) (ER D ad ci) [.ref (ad 0), .int o, .int k] σ (fieldM σ o k) (σ) := by
  refine Mi.start pn_rf (Nat.le_of_ble_eq_true rfl) (fun zp ze zs zm zb zt zc ls X hr hlk L => ?_)
  have L : lv_has ls 3 [(0, .ref (ad 0)), (1, .int o), (2, .int k)] := L
  refine lv_aload_n X.1.1 X.1.2.1 d_rf_field_0 rfl (lv_at L 0 rfl) ?_
  refine lv_iload_n X.1.1 X.1.2.1 d_rf_field_1 rfl (lv_at L 1 rfl) ?_
  refine Mi.callV (k := 1) (c_rf_noObject hI _ _) X (gt_V mw_778 mw_780 ms_62 mw_5 mw_781) ok_rf_noObject ⟨rfl, rfl, by decide, by decide⟩ (rc_rf X) rfl L.1 rfl (Nat.le_of_ble_eq_true rfl) d_rf_field_2 (fun H locs X => ?_)
  refine lv_if_ne (tgt := 22) X.1.1 X.1.2.1 d_rf_field_5 rfl (fun h5 => ?_) (fun h5 => ?_)
  · skip
    refine lv_iconst (v := (-1)) X.1.1 X.1.2.1 d_rf_field_22 rfl ?_
    refine lv_goto (tgt := 37) X.1.1 X.1.2.1 d_rf_field_23 rfl ?_
    exact X.iret hr hlk d_rf_field_37 (by first | (simp only [fieldM, eq_false h5, if_true, if_false]; done) | (simp [fieldM, eq_false h5]; done) | (simp [fieldM, h5]; done) | rfl) rfl
  · skip
    refine lv_iload_n X.1.1 X.1.2.1 d_rf_field_8 rfl (lv_at L 2 rfl) ?_
    refine lv_if_lt (tgt := 22) X.1.1 X.1.2.1 d_rf_field_9 rfl (fun h9 => ?_) (fun h9 => ?_)
    · skip
      refine lv_iconst (v := (-1)) X.1.1 X.1.2.1 d_rf_field_22 rfl ?_
      refine lv_goto (tgt := 37) X.1.1 X.1.2.1 d_rf_field_23 rfl ?_
      exact X.iret hr hlk d_rf_field_37 (by first | (simp only [fieldM, eq_true h5, eq_true h9, if_true, if_false]; done) | (simp [fieldM, eq_true h5, eq_true h9]; done) | (simp [fieldM, h5, h9]; done) | rfl) rfl
    · skip
      refine lv_iload_n X.1.1 X.1.2.1 d_rf_field_12 rfl (lv_at L 2 rfl) ?_
      refine lv_aload_n X.1.1 X.1.2.1 d_rf_field_13 rfl (lv_at L 0 rfl) ?_
      refine g_rf_fields X d_rf_field_14 ?_
      refine lv_iload_n X.1.1 X.1.2.1 d_rf_field_17 rfl (lv_at L 1 rfl) ?_
      refine rl_4 X (noObj_in h5) d_rf_field_18 ?_
      refine lv_icmp_lt (tgt := 26) X.1.1 X.1.2.1 d_rf_field_19 rfl (fun h19 => ?_) (fun h19 => ?_)
      · skip
        refine lv_aload_n X.1.1 X.1.2.1 d_rf_field_26 rfl (lv_at L 0 rfl) ?_
        refine g_rf_word X d_rf_field_27 ?_
        refine lv_bipush (v := 15) X.1.1 X.1.2.1 d_rf_field_30 rfl ?_
        refine lv_iload_n X.1.1 X.1.2.1 d_rf_field_32 rfl (lv_at L 1 rfl) ?_
        refine lv_imul X.1.1 X.1.2.1 d_rf_field_33 ?_
        refine lv_iload_n X.1.1 X.1.2.1 d_rf_field_34 rfl (lv_at L 2 rfl) ?_
        refine lv_iadd X.1.1 X.1.2.1 d_rf_field_35 ?_
        refine rl_5 X (wiv (noObj_in h5) (fk_in hm (noObj_in h5) h9 h19)) d_rf_field_36 ?_
        exact X.iret hr hlk d_rf_field_37 (by first | (simp only [fieldM, eq_true h5, eq_false h9, eq_true h19, if_true, if_false]; done) | (simp [fieldM, eq_true h5, eq_false h9, eq_true h19]; done) | (simp [fieldM, h5, h9, h19]; done) | rfl) rfl
      · skip
        refine lv_iconst (v := (-1)) X.1.1 X.1.2.1 d_rf_field_22 rfl ?_
        refine lv_goto (tgt := 37) X.1.1 X.1.2.1 d_rf_field_23 rfl ?_
        exact X.iret hr hlk d_rf_field_37 (by first | (simp only [fieldM, eq_true h5, eq_false h9, eq_false h19, if_true, if_false]; done) | (simp [fieldM, eq_true h5, eq_false h9, eq_false h19]; done) | (simp [fieldM, h5, h9, h19]; done) | rfl) rfl
set_option maxHeartbeats 4000000 in
theorem c_rf_classOf {l : Launch} {D : va_G} {ad : Nat → Nat} {ci : Nat → ClassId} (hI : InjR ad) (σ : SS) (o : Int32)  : Mi l y_rf_classOf b_rf_classOf 2 (some .int) ({ frames := 1, cells := 0, slots := 0, locals := 21 } : Room) (ER D ad ci) [.ref (ad 0), .int o] σ (classOfM σ o) (σ) := by
  refine Mi.start pn_rf (Nat.le_of_ble_eq_true rfl) (fun zp ze zs zm zb zt zc ls X hr hlk L => ?_)
  have L : lv_has ls 2 [(0, .ref (ad 0)), (1, .int o)] := L
  refine lv_aload_n X.1.1 X.1.2.1 d_rf_classOf_0 rfl (lv_at L 0 rfl) ?_
  refine lv_iload_n X.1.1 X.1.2.1 d_rf_classOf_1 rfl (lv_at L 1 rfl) ?_
  refine Mi.callV (k := 1) (c_rf_noObject hI _ _) X (gt_V mw_778 mw_780 ms_62 mw_5 mw_781) ok_rf_noObject ⟨rfl, rfl, by decide, by decide⟩ (rc_rf X) rfl L.1 rfl (Nat.le_of_ble_eq_true rfl) d_rf_classOf_2 (fun H locs X => ?_)
  refine lv_if_eq (tgt := 12) X.1.1 X.1.2.1 d_rf_classOf_5 rfl (fun h5 => ?_) (fun h5 => ?_)
  · skip
    refine lv_aload_n X.1.1 X.1.2.1 d_rf_classOf_12 rfl (lv_at L 0 rfl) ?_
    refine g_rf_cls X d_rf_classOf_13 ?_
    refine lv_iload_n X.1.1 X.1.2.1 d_rf_classOf_16 rfl (lv_at L 1 rfl) ?_
    refine rl_3 X (noObj_in h5) d_rf_classOf_17 ?_
    exact X.iret hr hlk d_rf_classOf_18 (by first | (simp only [classOfM, eq_true h5, if_true, if_false]; done) | (simp [classOfM, eq_true h5]; done) | (simp [classOfM, h5]; done) | rfl) rfl
  · skip
    refine lv_iconst (v := (-1)) X.1.1 X.1.2.1 d_rf_classOf_8 rfl ?_
    refine lv_goto (tgt := 18) X.1.1 X.1.2.1 d_rf_classOf_9 rfl ?_
    exact X.iret hr hlk d_rf_classOf_18 (by first | (simp only [classOfM, eq_false h5, if_true, if_false]; done) | (simp [classOfM, eq_false h5]; done) | (simp [classOfM, h5]; done) | rfl) rfl
set_option maxHeartbeats 4000000 in
theorem c_rf_count {l : Launch} {D : va_G} {ad : Nat → Nat} {ci : Nat → ClassId} (hI : InjR ad) (σ : SS) (o : Int32) (hm : RGm σ) : Mi l y_rf_count b_rf_count 2 (some .int) ({ frames := 2, cells := 0, slots := 0, locals := 43 } : Room) (ER D ad ci) [.ref (ad 0), .int o] σ ((countM σ o).1) ((countM σ o).2) := by
  refine Mi.start pn_rf (Nat.le_of_ble_eq_true rfl) (fun zp ze zs zm zb zt zc ls X hr hlk L => ?_)
  have L : lv_has ls 2 [(0, .ref (ad 0)), (1, .int o)] := L
  refine lv_aload_n X.1.1 X.1.2.1 d_rf_count_0 rfl (lv_at L 0 rfl) ?_
  refine lv_iload_n X.1.1 X.1.2.1 d_rf_count_1 rfl (lv_at L 1 rfl) ?_
  refine Mi.callV (k := 1) (c_rf_noObject hI _ _) X (gt_V mw_778 mw_780 ms_62 mw_5 mw_781) ok_rf_noObject ⟨rfl, rfl, by decide, by decide⟩ (rc_rf X) rfl L.1 rfl (Nat.le_of_ble_eq_true rfl) d_rf_count_2 (fun H locs X => ?_)
  refine lv_if_eq (tgt := 10) X.1.1 X.1.2.1 d_rf_count_5 rfl (fun h5 => ?_) (fun h5 => ?_)
  · skip
    refine lv_aload_n X.1.1 X.1.2.1 d_rf_count_10 rfl (lv_at L 0 rfl) ?_
    refine Mv.callV (k := 0) (c_rf_tally hI _ hm) X (gt_V mw_528 mw_530 ms_33 mw_5 mw_531) ok_rf_tally ⟨rfl, rfl, by decide, by decide⟩ (rc_rf X) rfl L.1 rfl (Nat.le_of_ble_eq_true rfl) d_rf_count_11 (fun H locs X => ?_)
    refine lv_aload_n X.1.1 X.1.2.1 d_rf_count_14 rfl (lv_at L 0 rfl) ?_
    refine g_rf_stuck X d_rf_count_15 ?_
    refine lv_iload_n X.1.1 X.1.2.1 d_rf_count_18 rfl (lv_at L 1 rfl) ?_
    refine rl_6 X (noObj_in h5) d_rf_count_19 ?_
    refine lv_if_eq (tgt := 28) X.1.1 X.1.2.1 d_rf_count_20 rfl (fun h20 => ?_) (fun h20 => ?_)
    · skip
      refine lv_aload_n X.1.1 X.1.2.1 d_rf_count_28 rfl (lv_at L 0 rfl) ?_
      refine g_rf_holds X d_rf_count_29 ?_
      refine lv_iload_n X.1.1 X.1.2.1 d_rf_count_32 rfl (lv_at L 1 rfl) ?_
      refine rl_7 X (noObj_in h5) d_rf_count_33 ?_
      exact X.iret hr hlk d_rf_count_34 (by first | (simp only [countM, eq_true h5, eq_true h20, if_true, if_false]; done) | (simp [countM, eq_true h5, eq_true h20]; done) | (simp [countM, h5, h20]; done) | rfl) (by first | (simp only [countM, eq_true h5, eq_true h20, if_true, if_false]; done) | (simp [countM, eq_true h5, eq_true h20]; done) | (simp [countM, h5, h20]; done) | rfl)
    · skip
      refine lv_bipush (v := 6) X.1.1 X.1.2.1 d_rf_count_23 rfl ?_
      refine lv_goto (tgt := 34) X.1.1 X.1.2.1 d_rf_count_25 rfl ?_
      exact X.iret hr hlk d_rf_count_34 (by first | (simp only [countM, eq_true h5, eq_false h20, if_true, if_false]; done) | (simp [countM, eq_true h5, eq_false h20]; done) | (simp [countM, h5, h20]; done) | rfl) (by first | (simp only [countM, eq_true h5, eq_false h20, if_true, if_false]; done) | (simp [countM, eq_true h5, eq_false h20]; done) | (simp [countM, h5, h20]; done) | rfl)
  · skip
    refine lv_iconst (v := (-1)) X.1.1 X.1.2.1 d_rf_count_8 rfl ?_
    exact X.iret hr hlk d_rf_count_9 (by first | (simp only [countM, eq_false h5, if_true, if_false]; done) | (simp [countM, eq_false h5]; done) | (simp [countM, h5]; done) | rfl) (by first | (simp only [countM, eq_false h5, if_true, if_false]; done) | (simp [countM, eq_false h5]; done) | (simp [countM, h5]; done) | rfl)
set_option maxHeartbeats 4000000 in
theorem c_rf_alive {l : Launch} {D : va_G} {ad : Nat → Nat} {ci : Nat → ClassId} (hI : InjR ad) (σ : SS)   : Mi l y_rf_alive b_rf_alive 3 (some .int) ({ frames := 0, cells := 0, slots := 0, locals := 0 } : Room) (ER D ad ci) [.ref (ad 0)] σ (aliveM σ) (σ) := by
  refine Mi.start pn_rf (Nat.le_of_ble_eq_true rfl) (fun zp ze zs zm zb zt zc ls X hr hlk L => ?_)
  have L : lv_has ls 3 [(0, .ref (ad 0))] := L
  refine lv_iconst (v := 0) X.1.1 X.1.2.1 d_rf_alive_0 rfl ?_
  refine lv_istore_n (lv' := [(1, .int _), (0, .ref _)]) X.1.1 X.1.2.1 d_rf_alive_1 rfl L (by decide) rfl (fun ls L => ?_)
  refine lv_iconst (v := 0) X.1.1 X.1.2.1 d_rf_alive_2 rfl ?_
  refine lv_istore_n (lv' := [(2, .int _), (1, .int _), (0, .ref _)]) X.1.1 X.1.2.1 d_rf_alive_3 rfl L (by decide) rfl (fun ls L => ?_)
  have loop4 : ∀ (n : Nat) (k : Nat) (a : Int32) (σ1 : SS) (H : Heap) (locs : List Loc) (ls : Array Slot), (k + n = 28) → (σ1 = σ) → (alL n k σ1 a = aliveM σ) → Cx (ER D ad ci) zp zs zm (([.ref (ad 0)] : List Value).toArray) zc b_rf_alive 3 "MessageMachineModel" H locs σ1 → lv_has ls 3 [(2, .int (nI k)), (1, .int a), (0, .ref (ad 0))] → W zp l ze ({ frames := 0, cells := 0, slots := 0, locals := 0 } : Room) zs zm (([.ref (ad 0)] : List Value).toArray) zb zt zc H locs 0 0 (MQ zb (va_Qi (fun (x : Int32) (u : SS) => x = (aliveM σ) ∧ u = (σ)) (fun u t => Pq (ER D ad ci) u t) (ER D ad ci).2.2.2) (([.ref (ad 0)] : List Value).toArray) zs 0 0 (ER D ad ci).2.2.2) (F0 zm 4 ls []) := by
    intro n
    induction n with
    | zero =>
      intro k a σ1 H locs ls hk hs hq X L
      refine lv_iload_n X.1.1 X.1.2.1 d_rf_alive_4 rfl (lv_at L 0 rfl) ?_
      refine lv_bipush (v := 28) X.1.1 X.1.2.1 d_rf_alive_5 rfl ?_
      refine lv_icmp_ge (tgt := 33) X.1.1 X.1.2.1 d_rf_alive_7 rfl (fun h7 => ?_) (fun h7 => ?_)
      · skip
        refine lv_iload_n X.1.1 X.1.2.1 d_rf_alive_33 rfl (lv_at L 1 rfl) ?_
        exact X.iret hr hlk d_rf_alive_34 hq hs
      · skip
        exact absurd ((le28N (by omega)).mpr (by omega)) h7
    | succ n ih =>
      intro k a σ1 H locs ls hk hs hq X L
      refine lv_iload_n X.1.1 X.1.2.1 d_rf_alive_4 rfl (lv_at L 0 rfl) ?_
      refine lv_bipush (v := 28) X.1.1 X.1.2.1 d_rf_alive_5 rfl ?_
      refine lv_icmp_ge (tgt := 33) X.1.1 X.1.2.1 d_rf_alive_7 rfl (fun h7 => ?_) (fun h7 => ?_)
      · skip
        exact absurd ((le28N (by omega)).mp h7) (by omega)
      · skip
        refine lv_aload_n X.1.1 X.1.2.1 d_rf_alive_10 rfl (lv_at L 2 rfl) ?_
        refine g_rf_live X d_rf_alive_11 ?_
        refine lv_iload_n X.1.1 X.1.2.1 d_rf_alive_14 rfl (lv_at L 0 rfl) ?_
        refine rl_1 X (vp_k (by omega) (by decide)) d_rf_alive_15 ?_
        refine lv_if_eq (tgt := 25) X.1.1 X.1.2.1 d_rf_alive_16 rfl (fun h16 => ?_) (fun h16 => ?_)
        · skip
          refine lv_iload_n X.1.1 X.1.2.1 d_rf_alive_25 rfl (lv_at L 1 rfl) ?_
          refine lv_istore_n (lv' := [(1, .int _), (2, .int _), (0, .ref _)]) X.1.1 X.1.2.1 d_rf_alive_26 rfl L (by decide) rfl (fun ls L => ?_)
          refine lv_iinc (k := 1) (lv' := [(2, .int (nI (k + 1))), (1, .int _), (0, .ref _)]) X.1.1 X.1.2.1 d_rf_alive_27 L rfl (nI_inc k) (by decide) rfl (fun ls L => ?_)
          refine lv_goto (tgt := 4) X.1.1 X.1.2.1 d_rf_alive_30 rfl ?_
          exact ih (k + 1) _ σ1 _ _ _ (by omega) hs (by rw [← hq, alL]; simp only [eq_false h7, eq_true h16, if_true, if_false]) X L
        · skip
          refine lv_iload_n X.1.1 X.1.2.1 d_rf_alive_19 rfl (lv_at L 1 rfl) ?_
          refine lv_iconst (v := 1) X.1.1 X.1.2.1 d_rf_alive_20 rfl ?_
          refine lv_iadd X.1.1 X.1.2.1 d_rf_alive_21 ?_
          refine lv_goto (tgt := 26) X.1.1 X.1.2.1 d_rf_alive_22 rfl ?_
          refine lv_istore_n (lv' := [(1, .int _), (2, .int _), (0, .ref _)]) X.1.1 X.1.2.1 d_rf_alive_26 rfl L (by decide) rfl (fun ls L => ?_)
          refine lv_iinc (k := 1) (lv' := [(2, .int (nI (k + 1))), (1, .int _), (0, .ref _)]) X.1.1 X.1.2.1 d_rf_alive_27 L rfl (nI_inc k) (by decide) rfl (fun ls L => ?_)
          refine lv_goto (tgt := 4) X.1.1 X.1.2.1 d_rf_alive_30 rfl ?_
          exact ih (k + 1) _ σ1 _ _ _ (by omega) hs (by rw [← hq, alL]; simp only [eq_false h7, eq_false h16, if_true, if_false]) X L
  exact loop4 28 0 0 σ _ _ _ (by omega) rfl rfl X L
set_option maxHeartbeats 4000000 in
theorem c_rf_lookup {l : Launch} {D : va_G} {ad : Nat → Nat} {ci : Nat → ClassId} (hI : InjR ad) (σ : SS) (h t : Int32) (hm : RGm σ) (hsup : ∀ r, vp_in r 6 → SupM 28 σ (classOfWordM σ (hM σ r))) : Mi l y_rf_lookup b_rf_lookup 3 (some .int) ({ frames := 2, cells := 0, slots := 0, locals := 41 } : Room) (ER D ad ci) [.ref (ad 0), .int h, .int t] σ (lookupM σ h t) (σ) := by
  refine Mi.start pn_rf (Nat.le_of_ble_eq_true rfl) (fun zp ze zs zm zb zt zc ls X hr hlk L => ?_)
  have L : lv_has ls 3 [(0, .ref (ad 0)), (1, .int h), (2, .int t)] := L
  refine lv_iload_n X.1.1 X.1.2.1 d_rf_lookup_0 rfl (lv_at L 1 rfl) ?_
  refine Mi.callS (k := 1) (c_rf_noHandle hI _ _) X mw_585 mw_586 mw_5 mw_587 ok_rf_noHandle ⟨rfl, rfl, by decide, by decide⟩ rfl L.1 rfl (Nat.le_of_ble_eq_true rfl) d_rf_lookup_1 (fun H locs X => ?_)
  refine lv_if_ne (tgt := 14) X.1.1 X.1.2.1 d_rf_lookup_4 rfl (fun h4 => ?_) (fun h4 => ?_)
  · skip
    refine lv_iconst (v := (-1)) X.1.1 X.1.2.1 d_rf_lookup_14 rfl ?_
    refine lv_goto (tgt := 33) X.1.1 X.1.2.1 d_rf_lookup_15 rfl ?_
    exact X.iret hr hlk d_rf_lookup_33 (by first | (simp only [lookupM, eq_false h4, if_true, if_false]; done) | (simp [lookupM, eq_false h4]; done) | (simp [lookupM, h4]; done) | rfl) rfl
  · skip
    refine lv_iload_n X.1.1 X.1.2.1 d_rf_lookup_7 rfl (lv_at L 2 rfl) ?_
    refine Mi.callS (k := 1) (c_rf_noSelector hI _ _) X mw_604 mw_605 mw_5 mw_606 ok_rf_noSelector ⟨rfl, rfl, by decide, by decide⟩ rfl L.1 rfl (Nat.le_of_ble_eq_true rfl) d_rf_lookup_8 (fun H locs X => ?_)
    refine lv_if_eq (tgt := 18) X.1.1 X.1.2.1 d_rf_lookup_11 rfl (fun h11 => ?_) (fun h11 => ?_)
    · skip
      refine lv_aload_n X.1.1 X.1.2.1 d_rf_lookup_18 rfl (lv_at L 0 rfl) ?_
      refine lv_aload_n X.1.1 X.1.2.1 d_rf_lookup_19 rfl (lv_at L 0 rfl) ?_
      refine lv_aload_n X.1.1 X.1.2.1 d_rf_lookup_20 rfl (lv_at L 0 rfl) ?_
      refine g_rf_handles X d_rf_lookup_21 ?_
      refine lv_iload_n X.1.1 X.1.2.1 d_rf_lookup_24 rfl (lv_at L 1 rfl) ?_
      refine rl_12 X (nh_in h4) d_rf_lookup_25 ?_
      refine Mi.callV (k := 1) (c_rf_classOfWord hI _ _ (hm.hn (nh_in h4))) X (gt_V mw_640 mw_642 ms_39 mw_5 mw_643) ok_rf_classOfWord ⟨rfl, rfl, by decide, by decide⟩ (rc_rf X) rfl L.1 rfl (Nat.le_of_ble_eq_true rfl) d_rf_lookup_26 (fun H locs X => ?_)
      refine lv_iload_n X.1.1 X.1.2.1 d_rf_lookup_29 rfl (lv_at L 2 rfl) ?_
      refine Mi.callV (k := 2) (c_rf_found hI _ _ _ (hsup _ (nh_in h4)) (ns_in h11)) X (gt_V mw_656 mw_658 ms_40 mw_5 mw_659) ok_rf_found ⟨rfl, rfl, by decide, by decide⟩ (rc_rf X) rfl L.1 rfl (Nat.le_of_ble_eq_true rfl) d_rf_lookup_30 (fun H locs X => ?_)
      exact X.iret hr hlk d_rf_lookup_33 (by first | (simp only [lookupM, eq_true h4, eq_true h11, if_true, if_false]; done) | (simp [lookupM, eq_true h4, eq_true h11]; done) | (simp [lookupM, h4, h11]; done) | rfl) rfl
    · skip
      refine lv_iconst (v := (-1)) X.1.1 X.1.2.1 d_rf_lookup_14 rfl ?_
      refine lv_goto (tgt := 33) X.1.1 X.1.2.1 d_rf_lookup_15 rfl ?_
      exact X.iret hr hlk d_rf_lookup_33 (by first | (simp only [lookupM, eq_true h4, eq_false h11, if_true, if_false]; done) | (simp [lookupM, eq_true h4, eq_false h11]; done) | (simp [lookupM, h4, h11]; done) | rfl) rfl
