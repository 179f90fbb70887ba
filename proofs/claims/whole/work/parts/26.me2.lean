set_option maxHeartbeats 4000000 in
theorem c_me_leastFree {l : Launch} {D : va_G} {ad : Nat → Nat} {ci : Nat → ClassId} (hI : Inj ad) (σ : SS)   : Mi l y_me_leastFree b_me_leastFree 2 (some .int) ({ frames := 0, cells := 0, slots := 0, locals := 0 } : Room) (EC D ad ci) [.ref (ad 1)] σ (leastFree σ) (σ) := by
  refine Mi.start pn_me (Nat.le_of_ble_eq_true rfl) (fun zp ze zs zm zb zt zc ls X hr hlk L => ?_)
  have L : lv_has ls 2 [(0, .ref (ad 1))] := L
  refine lv_iconst (v := 4) X.1.1 X.1.2.1 d_me_leastFree_0 rfl ?_
  refine lv_istore_n (lv' := [(1, .int _), (0, .ref _)]) X.1.1 X.1.2.1 d_me_leastFree_1 rfl L (by decide) rfl (fun ls L => ?_)
  have loop2 : ∀ (n : Nat) (k : Nat) (σ1 : SS) (H : Heap) (locs : List Loc) (ls : Array Slot), (k + n = 28) → (σ1 = σ) → (leastL n k σ1 = leastFree σ) → Cx (EC D ad ci) zp zs zm (([.ref (ad 1)] : List Value).toArray) zc b_me_leastFree 2 "MessageMachine$Memory" H locs σ1 → lv_has ls 2 [(1, .int (nI k)), (0, .ref (ad 1))] → W zp l ze ({ frames := 0, cells := 0, slots := 0, locals := 0 } : Room) zs zm (([.ref (ad 1)] : List Value).toArray) zb zt zc H locs 0 0 (MQ zb (va_Qi (fun (x : Int32) (u : SS) => x = (leastFree σ) ∧ u = (σ)) (fun u t => Pq (EC D ad ci) u t) (EC D ad ci).2.2.2) (([.ref (ad 1)] : List Value).toArray) zs 0 0 (EC D ad ci).2.2.2) (F0 zm 2 ls []) := by
    intro n
    induction n with
    | zero =>
      intro k σ1 H locs ls hk hs hq X L
      refine lv_iload_n X.1.1 X.1.2.1 d_me_leastFree_2 rfl (lv_at L 0 rfl) ?_
      refine lv_bipush (v := 28) X.1.1 X.1.2.1 d_me_leastFree_3 rfl ?_
      refine lv_icmp_ge (tgt := 25) X.1.1 X.1.2.1 d_me_leastFree_5 rfl (fun h5 => ?_) (fun h5 => ?_)
      · skip
        refine lv_iconst (v := (-1)) X.1.1 X.1.2.1 d_me_leastFree_25 rfl ?_
        exact X.iret hr hlk d_me_leastFree_26 hq hs
      · skip
        exact absurd ((le28N (by omega)).mpr (by omega)) h5
    | succ n ih =>
      intro k σ1 H locs ls hk hs hq X L
      refine lv_iload_n X.1.1 X.1.2.1 d_me_leastFree_2 rfl (lv_at L 0 rfl) ?_
      refine lv_bipush (v := 28) X.1.1 X.1.2.1 d_me_leastFree_3 rfl ?_
      refine lv_icmp_ge (tgt := 25) X.1.1 X.1.2.1 d_me_leastFree_5 rfl (fun h5 => ?_) (fun h5 => ?_)
      · skip
        exact absurd ((le28N (by omega)).mp h5) (by omega)
      · skip
        refine lv_aload_n X.1.1 X.1.2.1 d_me_leastFree_8 rfl (lv_at L 1 rfl) ?_
        refine g_me_living X d_me_leastFree_9 ?_
        refine lv_iload_n X.1.1 X.1.2.1 d_me_leastFree_12 rfl (lv_at L 0 rfl) ?_
        refine al_4 X (vp_k (by omega) (by decide)) d_me_leastFree_13 ?_
        refine lv_if_ne (tgt := 19) X.1.1 X.1.2.1 d_me_leastFree_14 rfl (fun h14 => ?_) (fun h14 => ?_)
        · skip
          refine lv_iinc (k := 0) (lv' := [(1, .int (nI (k + 1))), (0, .ref _)]) X.1.1 X.1.2.1 d_me_leastFree_19 L rfl (nI_inc k) (by decide) rfl (fun ls L => ?_)
          refine lv_goto (tgt := 2) X.1.1 X.1.2.1 d_me_leastFree_22 rfl ?_
          exact ih (k + 1) σ1 _ _ _ (by omega) hs (by rw [← hq, leastL, if_neg h14]) X L
        · skip
          refine lv_iload_n X.1.1 X.1.2.1 d_me_leastFree_17 rfl (lv_at L 0 rfl) ?_
          exact X.iret hr hlk d_me_leastFree_18 (by rw [← hq, leastL, if_pos h14]) hs
  exact loop2 24 4 σ _ _ _ (by omega) rfl rfl X L
set_option maxHeartbeats 4000000 in
theorem c_me_wakeClass {l : Launch} {D : va_G} {ad : Nat → Nat} {ci : Nat → ClassId} (hI : Inj ad) (σ : SS) (o s z : Int32) (h_o : vp_in o 28) (n_s : 0 ≤ s.toInt) (hg : RG σ) (hz : 0 ≤ z.toInt ∧ z.toInt ≤ 6) : Mv l y_me_wakeClass b_me_wakeClass 4 ({ frames := 2, cells := 0, slots := 0, locals := 44 } : Room) (EC D ad ci) [.ref (ad 1), .int o, .int s, .int z] σ (wakeClass σ o s z) := by
  refine Mv.start pn_me (Nat.le_of_ble_eq_true rfl) (fun zp ze zs zm zb zt zc ls X hr hlk L => ?_)
  have L : lv_has ls 4 [(0, .ref (ad 1)), (1, .int o), (2, .int s), (3, .int z)] := L
  refine lv_aload_n X.1.1 X.1.2.1 d_me_wakeClass_0 rfl (lv_at L 0 rfl) ?_
  refine lv_iload_n X.1.1 X.1.2.1 d_me_wakeClass_1 rfl (lv_at L 1 rfl) ?_
  refine lv_iconst (v := 1) X.1.1 X.1.2.1 d_me_wakeClass_2 rfl ?_
  refine lv_iconst (v := 1) X.1.1 X.1.2.1 d_me_wakeClass_3 rfl ?_
  refine Mv.callV (k := 3) (c_me_wake hI _ _ _ _ h_o (by decide)) X (gt_V mw_22 mw_24 ms_0 mw_2 mw_25) ok_me_wake ⟨rfl, rfl, by decide, by decide⟩ (rc_me X) rfl L.1 rfl (Nat.le_of_ble_eq_true rfl) d_me_wakeClass_4 (fun H locs X => ?_)
  refine lv_aload_n X.1.1 X.1.2.1 d_me_wakeClass_7 rfl (lv_at L 0 rfl) ?_
  refine g_me_classes X d_me_wakeClass_8 ?_
  refine lv_iload_n X.1.1 X.1.2.1 d_me_wakeClass_11 rfl (lv_at L 1 rfl) ?_
  refine lv_iconst (v := 1) X.1.1 X.1.2.1 d_me_wakeClass_12 rfl ?_
  refine as_6 hI X (by assumption) rfl d_me_wakeClass_13 (fun H locs X => ?_)
  refine lv_aload_n X.1.1 X.1.2.1 d_me_wakeClass_14 rfl (lv_at L 0 rfl) ?_
  refine g_me_sizes X d_me_wakeClass_15 ?_
  refine lv_iload_n X.1.1 X.1.2.1 d_me_wakeClass_18 rfl (lv_at L 1 rfl) ?_
  refine lv_iload_n X.1.1 X.1.2.1 d_me_wakeClass_19 rfl (lv_at L 3 rfl) ?_
  refine as_9 hI X (by assumption) d_me_wakeClass_20 (fun H locs X => ?_)
  refine lv_aload_n X.1.1 X.1.2.1 d_me_wakeClass_21 rfl (lv_at L 0 rfl) ?_
  refine lv_iload_n X.1.1 X.1.2.1 d_me_wakeClass_22 rfl (lv_at L 1 rfl) ?_
  refine lv_iconst (v := 0) X.1.1 X.1.2.1 d_me_wakeClass_23 rfl ?_
  refine lv_iload_n X.1.1 X.1.2.1 d_me_wakeClass_24 rfl (lv_at L 2 rfl) ?_
  refine Mv.callV (k := 3) (c_me_setField hI _ _ _ _ h_o (vpc (by decide)) (RG_9 (RG_A (RG_wake hg _ (vpc (by decide)) (by decide)) (by decide) _ _) _ hz) n_s) X (gt_V mw_34 mw_35 mw_36 mw_2 mw_37) ok_me_setField ⟨rfl, rfl, by decide, by decide⟩ (rc_me X) rfl L.1 rfl (Nat.le_of_ble_eq_true rfl) d_me_wakeClass_25 (fun H locs X => ?_)
  exact X.vret hr hlk d_me_wakeClass_28 (by first | with_reducible rfl | (simp only [wakeClass]; done) | rfl)
set_option maxHeartbeats 4000000 in
theorem c_me_newClass {l : Launch} {D : va_G} {ad : Nat → Nat} {ci : Nat → ClassId} (hI : Inj ad) (σ : SS) (s z : Int32) (n_s : 0 ≤ s.toInt) (hg : RG σ) (hz : 0 ≤ z.toInt ∧ z.toInt ≤ 6) : Mi l y_me_newClass b_me_newClass 4 (some .int) ({ frames := 3, cells := 0, slots := 0, locals := 67 } : Room) (EC D ad ci) [.ref (ad 1), .int s, .int z] σ (leastFree σ) (newClass σ s z) := by
  refine Mi.start pn_me (Nat.le_of_ble_eq_true rfl) (fun zp ze zs zm zb zt zc ls X hr hlk L => ?_)
  have L : lv_has ls 4 [(0, .ref (ad 1)), (1, .int s), (2, .int z)] := L
  refine lv_aload_n X.1.1 X.1.2.1 d_me_newClass_0 rfl (lv_at L 0 rfl) ?_
  refine Mi.callV (k := 0) (c_me_leastFree hI _) X (gt_V mw_158 mw_160 ms_5 mw_2 mw_161) ok_me_leastFree ⟨rfl, rfl, by decide, by decide⟩ (rc_me X) rfl L.1 rfl (Nat.le_of_ble_eq_true rfl) d_me_newClass_1 (fun H locs X => ?_)
  refine lv_istore_n (lv' := [(3, .int _), (0, .ref _), (1, .int _), (2, .int _)]) X.1.1 X.1.2.1 d_me_newClass_4 rfl L (by decide) rfl (fun ls L => ?_)
  refine lv_iload_n X.1.1 X.1.2.1 d_me_newClass_5 rfl (lv_at L 0 rfl) ?_
  refine lv_iconst (v := (-1)) X.1.1 X.1.2.1 d_me_newClass_6 rfl ?_
  refine lv_icmp_eq (tgt := 17) X.1.1 X.1.2.1 d_me_newClass_7 rfl (fun h7 => ?_) (fun h7 => ?_)
  · skip
    refine lv_iload_n X.1.1 X.1.2.1 d_me_newClass_17 rfl (lv_at L 0 rfl) ?_
    exact X.iret hr hlk d_me_newClass_18 (by first | (simp only [newClass, eq_true h7, if_true, if_false]; done) | (simp [newClass, eq_true h7]; done) | (simp [newClass, h7]; done) | rfl) (by first | (simp only [newClass, eq_true h7, if_true, if_false]; done) | (simp [newClass, eq_true h7]; done) | (simp [newClass, h7]; done) | rfl)
  · skip
    refine lv_aload_n X.1.1 X.1.2.1 d_me_newClass_10 rfl (lv_at L 1 rfl) ?_
    refine lv_iload_n X.1.1 X.1.2.1 d_me_newClass_11 rfl (lv_at L 0 rfl) ?_
    refine lv_iload_n X.1.1 X.1.2.1 d_me_newClass_12 rfl (lv_at L 2 rfl) ?_
    refine lv_iload_n X.1.1 X.1.2.1 d_me_newClass_13 rfl (lv_at L 3 rfl) ?_
    refine Mv.callV (k := 3) (c_me_wakeClass hI _ _ _ _ (leastFree_in h7) n_s hg hz) X (gt_V mw_30 mw_32 ms_2 mw_2 mw_33) ok_me_wakeClass ⟨rfl, rfl, by decide, by decide⟩ (rc_me X) rfl L.1 rfl (Nat.le_of_ble_eq_true rfl) d_me_newClass_14 (fun H locs X => ?_)
    refine lv_iload_n X.1.1 X.1.2.1 d_me_newClass_17 rfl (lv_at L 0 rfl) ?_
    exact X.iret hr hlk d_me_newClass_18 (by first | (simp only [newClass, eq_false h7, if_true, if_false]; done) | (simp [newClass, eq_false h7]; done) | (simp [newClass, h7]; done) | rfl) (by first | (simp only [newClass, eq_false h7, if_true, if_false]; done) | (simp [newClass, eq_false h7]; done) | (simp [newClass, h7]; done) | rfl)
set_option maxHeartbeats 4000000 in
theorem c_me_newInstance {l : Launch} {D : va_G} {ad : Nat → Nat} {ci : Nat → ClassId} (hI : Inj ad) (σ : SS) (c : Int32) (h_c : vp_in c 28) : Mi l y_me_newInstance b_me_newInstance 3 (some .int) ({ frames := 2, cells := 0, slots := 0, locals := 44 } : Room) (EC D ad ci) [.ref (ad 1), .int c] σ (leastFree σ) (newInstance σ c) := by
  refine Mi.start pn_me (Nat.le_of_ble_eq_true rfl) (fun zp ze zs zm zb zt zc ls X hr hlk L => ?_)
  have L : lv_has ls 3 [(0, .ref (ad 1)), (1, .int c)] := L
  refine lv_aload_n X.1.1 X.1.2.1 d_me_newInstance_0 rfl (lv_at L 0 rfl) ?_
  refine Mi.callV (k := 0) (c_me_leastFree hI _) X (gt_V mw_158 mw_160 ms_5 mw_2 mw_161) ok_me_leastFree ⟨rfl, rfl, by decide, by decide⟩ (rc_me X) rfl L.1 rfl (Nat.le_of_ble_eq_true rfl) d_me_newInstance_1 (fun H locs X => ?_)
  refine lv_istore_n (lv' := [(2, .int _), (0, .ref _), (1, .int _)]) X.1.1 X.1.2.1 d_me_newInstance_4 rfl L (by decide) rfl (fun ls L => ?_)
  refine lv_iload_n X.1.1 X.1.2.1 d_me_newInstance_5 rfl (lv_at L 0 rfl) ?_
  refine lv_iconst (v := (-1)) X.1.1 X.1.2.1 d_me_newInstance_6 rfl ?_
  refine lv_icmp_eq (tgt := 22) X.1.1 X.1.2.1 d_me_newInstance_7 rfl (fun h7 => ?_) (fun h7 => ?_)
  · skip
    refine lv_iload_n X.1.1 X.1.2.1 d_me_newInstance_22 rfl (lv_at L 0 rfl) ?_
    exact X.iret hr hlk d_me_newInstance_23 (by first | (simp only [newInstance, eq_true h7, if_true, if_false]; done) | (simp [newInstance, eq_true h7]; done) | (simp [newInstance, h7]; done) | rfl) (by first | (simp only [newInstance, eq_true h7, if_true, if_false]; done) | (simp [newInstance, eq_true h7]; done) | (simp [newInstance, h7]; done) | rfl)
  · skip
    refine lv_aload_n X.1.1 X.1.2.1 d_me_newInstance_10 rfl (lv_at L 1 rfl) ?_
    refine lv_iload_n X.1.1 X.1.2.1 d_me_newInstance_11 rfl (lv_at L 0 rfl) ?_
    refine lv_iload_n X.1.1 X.1.2.1 d_me_newInstance_12 rfl (lv_at L 2 rfl) ?_
    refine lv_aload_n X.1.1 X.1.2.1 d_me_newInstance_13 rfl (lv_at L 1 rfl) ?_
    refine g_me_sizes X d_me_newInstance_14 ?_
    refine lv_iload_n X.1.1 X.1.2.1 d_me_newInstance_17 rfl (lv_at L 2 rfl) ?_
    refine al_9 X (by assumption) d_me_newInstance_18 ?_
    refine Mv.callV (k := 3) (c_me_wake hI _ _ _ _ (leastFree_in h7) (vp_nn h_c)) X (gt_V mw_22 mw_24 ms_0 mw_2 mw_25) ok_me_wake ⟨rfl, rfl, by decide, by decide⟩ (rc_me X) rfl L.1 rfl (Nat.le_of_ble_eq_true rfl) d_me_newInstance_19 (fun H locs X => ?_)
    refine lv_iload_n X.1.1 X.1.2.1 d_me_newInstance_22 rfl (lv_at L 0 rfl) ?_
    exact X.iret hr hlk d_me_newInstance_23 (by first | (simp only [newInstance, eq_false h7, if_true, if_false]; done) | (simp [newInstance, eq_false h7]; done) | (simp [newInstance, h7]; done) | rfl) (by first | (simp only [newInstance, eq_false h7, if_true, if_false]; done) | (simp [newInstance, eq_false h7]; done) | (simp [newInstance, h7]; done) | rfl)
set_option maxHeartbeats 4000000 in
theorem c_me_newContext {l : Launch} {D : va_G} {ad : Nat → Nat} {ci : Nat → ClassId} (hI : Inj ad) (σ : SS) (r f t : Int32) (n_r : 0 ≤ r.toInt) (n_f : 0 ≤ f.toInt) (h_t : vp_in t 8) (hg : RG σ) : Mi l y_me_newContext b_me_newContext 5 (some .int) ({ frames := 2, cells := 0, slots := 0, locals := 44 } : Room) (EC D ad ci) [.ref (ad 1), .int r, .int f, .int t] σ (leastFree σ) (newContext σ r f t) := by
  refine Mi.start pn_me (Nat.le_of_ble_eq_true rfl) (fun zp ze zs zm zb zt zc ls X hr hlk L => ?_)
  have L : lv_has ls 5 [(0, .ref (ad 1)), (1, .int r), (2, .int f), (3, .int t)] := L
  refine lv_aload_n X.1.1 X.1.2.1 d_me_newContext_0 rfl (lv_at L 0 rfl) ?_
  refine Mi.callV (k := 0) (c_me_leastFree hI _) X (gt_V mw_158 mw_160 ms_5 mw_2 mw_161) ok_me_leastFree ⟨rfl, rfl, by decide, by decide⟩ (rc_me X) rfl L.1 rfl (Nat.le_of_ble_eq_true rfl) d_me_newContext_1 (fun H locs X => ?_)
  refine lv_istore (lv' := [(4, .int _), (0, .ref _), (1, .int _), (2, .int _), (3, .int _)]) X.1.1 X.1.2.1 d_me_newContext_4 L (by decide) rfl (fun ls L => ?_)
  refine lv_iload X.1.1 X.1.2.1 d_me_newContext_6 (lv_at L 0 rfl) ?_
  refine lv_iconst (v := (-1)) X.1.1 X.1.2.1 d_me_newContext_8 rfl ?_
  refine lv_icmp_eq (tgt := 59) X.1.1 X.1.2.1 d_me_newContext_9 rfl (fun h9 => ?_) (fun h9 => ?_)
  · skip
    refine lv_iload X.1.1 X.1.2.1 d_me_newContext_59 (lv_at L 0 rfl) ?_
    exact X.iret hr hlk d_me_newContext_61 (by first | (simp only [newContext, ctx, eq_true h9, if_true, if_false]; done) | (simp [newContext, ctx, eq_true h9]; done) | (simp [newContext, ctx, h9]; done) | rfl) (by first | (simp only [newContext, ctx, eq_true h9, if_true, if_false]; done) | (simp [newContext, ctx, eq_true h9]; done) | (simp [newContext, ctx, h9]; done) | rfl)
  · skip
    refine lv_aload_n X.1.1 X.1.2.1 d_me_newContext_12 rfl (lv_at L 1 rfl) ?_
    refine lv_iload X.1.1 X.1.2.1 d_me_newContext_13 (lv_at L 0 rfl) ?_
    refine lv_iconst (v := 3) X.1.1 X.1.2.1 d_me_newContext_15 rfl ?_
    refine lv_bipush (v := 15) X.1.1 X.1.2.1 d_me_newContext_16 rfl ?_
    refine Mv.callV (k := 3) (c_me_wake hI _ _ _ _ (leastFree_in h9) (by decide)) X (gt_V mw_22 mw_24 ms_0 mw_2 mw_25) ok_me_wake ⟨rfl, rfl, by decide, by decide⟩ (rc_me X) rfl L.1 rfl (Nat.le_of_ble_eq_true rfl) d_me_newContext_18 (fun H locs X => ?_)
    refine lv_aload_n X.1.1 X.1.2.1 d_me_newContext_21 rfl (lv_at L 1 rfl) ?_
    refine lv_iload X.1.1 X.1.2.1 d_me_newContext_22 (lv_at L 0 rfl) ?_
    refine lv_iconst (v := 1) X.1.1 X.1.2.1 d_me_newContext_24 rfl ?_
    refine lv_iload_n X.1.1 X.1.2.1 d_me_newContext_25 rfl (lv_at L 2 rfl) ?_
    refine Mv.callV (k := 3) (c_me_setField hI _ _ _ _ (leastFree_in h9) (vpc (by decide)) (RG_ctx0 hg _) n_r) X (gt_V mw_34 mw_35 mw_36 mw_2 mw_37) ok_me_setField ⟨rfl, rfl, by decide, by decide⟩ (rc_me X) rfl L.1 rfl (Nat.le_of_ble_eq_true rfl) d_me_newContext_26 (fun H locs X => ?_)
    refine lv_aload_n X.1.1 X.1.2.1 d_me_newContext_29 rfl (lv_at L 1 rfl) ?_
    refine lv_iload X.1.1 X.1.2.1 d_me_newContext_30 (lv_at L 0 rfl) ?_
    refine lv_iconst (v := 2) X.1.1 X.1.2.1 d_me_newContext_32 rfl ?_
    refine lv_iload_n X.1.1 X.1.2.1 d_me_newContext_33 rfl (lv_at L 3 rfl) ?_
    refine Mv.callV (k := 3) (c_me_setField hI _ _ _ _ (leastFree_in h9) (vpc (by decide)) (RG_setField (RG_ctx0 hg _) _ _ n_r) n_f) X (gt_V mw_34 mw_35 mw_36 mw_2 mw_37) ok_me_setField ⟨rfl, rfl, by decide, by decide⟩ (rc_me X) rfl L.1 rfl (Nat.le_of_ble_eq_true rfl) d_me_newContext_34 (fun H locs X => ?_)
    refine lv_aload_n X.1.1 X.1.2.1 d_me_newContext_37 rfl (lv_at L 1 rfl) ?_
    refine lv_iload X.1.1 X.1.2.1 d_me_newContext_38 (lv_at L 0 rfl) ?_
    refine lv_iconst (v := 3) X.1.1 X.1.2.1 d_me_newContext_40 rfl ?_
    refine lv_sipush (v := 1000) X.1.1 X.1.2.1 d_me_newContext_41 rfl ?_
    refine lv_iload_n X.1.1 X.1.2.1 d_me_newContext_44 rfl (lv_at L 4 rfl) ?_
    refine lv_iadd X.1.1 X.1.2.1 d_me_newContext_45 ?_
    refine Mv.callV (k := 3) (c_me_setField hI _ _ _ _ (leastFree_in h9) (vpc (by decide)) (RG_setField (RG_setField (RG_ctx0 hg _) _ _ n_r) _ _ n_f) (k1000 h_t)) X (gt_V mw_34 mw_35 mw_36 mw_2 mw_37) ok_me_setField ⟨rfl, rfl, by decide, by decide⟩ (rc_me X) rfl L.1 rfl (Nat.le_of_ble_eq_true rfl) d_me_newContext_46 (fun H locs X => ?_)
    refine lv_aload_n X.1.1 X.1.2.1 d_me_newContext_49 rfl (lv_at L 1 rfl) ?_
    refine lv_iload X.1.1 X.1.2.1 d_me_newContext_50 (lv_at L 0 rfl) ?_
    refine lv_iconst (v := 4) X.1.1 X.1.2.1 d_me_newContext_52 rfl ?_
    refine lv_sipush (v := 1000) X.1.1 X.1.2.1 d_me_newContext_53 rfl ?_
    refine Mv.callV (k := 3) (c_me_setField hI _ _ _ _ (leastFree_in h9) (vpc (by decide)) (RG_setField (RG_setField (RG_setField (RG_ctx0 hg _) _ _ n_r) _ _ n_f) _ _ (k1000 h_t)) (by decide)) X (gt_V mw_34 mw_35 mw_36 mw_2 mw_37) ok_me_setField ⟨rfl, rfl, by decide, by decide⟩ (rc_me X) rfl L.1 rfl (Nat.le_of_ble_eq_true rfl) d_me_newContext_56 (fun H locs X => ?_)
    refine lv_iload X.1.1 X.1.2.1 d_me_newContext_59 (lv_at L 0 rfl) ?_
    exact X.iret hr hlk d_me_newContext_61 (by first | (simp only [newContext, ctx, eq_false h9, if_true, if_false]; done) | (simp [newContext, ctx, eq_false h9]; done) | (simp [newContext, ctx, h9]; done) | rfl) (by first | (simp only [newContext, ctx, eq_false h9, if_true, if_false]; done) | (simp [newContext, ctx, eq_false h9]; done) | (simp [newContext, ctx, h9]; done) | rfl)
set_option maxHeartbeats 4000000 in
theorem c_me_topBut {l : Launch} {D : va_G} {ad : Nat → Nat} {ci : Nat → ClassId} (hI : Inj ad) (σ : SS) (o a : Int32) (h_o : vp_in o 28) (h1 : 0 ≤ a.toInt) (h2 : a.toInt + 1 ≤ (σ.1 10 (ix o)).toInt) (hg : RG σ) : Mi l y_me_topBut b_me_topBut 3 (some .int) ({ frames := 0, cells := 0, slots := 0, locals := 0 } : Room) (EC D ad ci) [.ref (ad 1), .int o, .int a] σ (topBut σ o a) (σ) := by
  refine Mi.start pn_me (Nat.le_of_ble_eq_true rfl) (fun zp ze zs zm zb zt zc ls X hr hlk L => ?_)
  have L : lv_has ls 3 [(0, .ref (ad 1)), (1, .int o), (2, .int a)] := L
  refine lv_aload_n X.1.1 X.1.2.1 d_me_topBut_0 rfl (lv_at L 0 rfl) ?_
  refine g_me_fields X d_me_topBut_1 ?_
  refine lv_iload_n X.1.1 X.1.2.1 d_me_topBut_4 rfl (lv_at L 1 rfl) ?_
  refine X.gald (by assumption) d_me_topBut_5 ?_
  refine lv_bipush (v := 9) X.1.1 X.1.2.1 d_me_topBut_6 rfl ?_
  refine lv_aload_n X.1.1 X.1.2.1 d_me_topBut_8 rfl (lv_at L 0 rfl) ?_
  refine g_me_depths X d_me_topBut_9 ?_
  refine lv_iload_n X.1.1 X.1.2.1 d_me_topBut_12 rfl (lv_at L 1 rfl) ?_
  refine al_10 X (by assumption) d_me_topBut_13 ?_
  refine lv_iadd X.1.1 X.1.2.1 d_me_topBut_14 ?_
  refine lv_iconst (v := 1) X.1.1 X.1.2.1 d_me_topBut_15 rfl ?_
  refine lv_isub X.1.1 X.1.2.1 d_me_topBut_16 ?_
  refine lv_iload_n X.1.1 X.1.2.1 d_me_topBut_17 rfl (lv_at L 2 rfl) ?_
  refine lv_isub X.1.1 X.1.2.1 d_me_topBut_18 ?_
  refine X.rald (vp_ix h_o) (top_in h1 h2 (hg.dep h_o).2) d_me_topBut_19 ?_
  exact X.iret hr hlk d_me_topBut_20 (by first | (simp only [topBut, if_true, if_false]; done) | (simp [topBut]; done) | (simp [topBut]; done) | rfl) rfl
set_option maxHeartbeats 4000000 in
theorem c_me_push {l : Launch} {D : va_G} {ad : Nat → Nat} {ci : Nat → ClassId} (hI : Inj ad) (σ : SS) (o w : Int32) (h_o : vp_in o 28) (hd : (σ.1 10 (ix o)).toInt < 6) (hg : RG σ) (n_w : 0 ≤ w.toInt) : Mv l y_me_push b_me_push 3 ({ frames := 2, cells := 0, slots := 0, locals := 44 } : Room) (EC D ad ci) [.ref (ad 1), .int o, .int w] σ (push σ o w) := by
  refine Mv.start pn_me (Nat.le_of_ble_eq_true rfl) (fun zp ze zs zm zb zt zc ls X hr hlk L => ?_)
  have L : lv_has ls 3 [(0, .ref (ad 1)), (1, .int o), (2, .int w)] := L
  refine lv_aload_n X.1.1 X.1.2.1 d_me_push_0 rfl (lv_at L 0 rfl) ?_
  refine lv_iload_n X.1.1 X.1.2.1 d_me_push_1 rfl (lv_at L 1 rfl) ?_
  refine lv_bipush (v := 9) X.1.1 X.1.2.1 d_me_push_2 rfl ?_
  refine lv_aload_n X.1.1 X.1.2.1 d_me_push_4 rfl (lv_at L 0 rfl) ?_
  refine g_me_depths X d_me_push_5 ?_
  refine lv_iload_n X.1.1 X.1.2.1 d_me_push_8 rfl (lv_at L 1 rfl) ?_
  refine al_10 X (by assumption) d_me_push_9 ?_
  refine lv_iadd X.1.1 X.1.2.1 d_me_push_10 ?_
  refine lv_iload_n X.1.1 X.1.2.1 d_me_push_11 rfl (lv_at L 2 rfl) ?_
  refine Mv.callV (k := 3) (c_me_setField hI _ _ _ _ h_o (push_in (hg.dep h_o).1 hd) hg n_w) X (gt_V mw_34 mw_35 mw_36 mw_2 mw_37) ok_me_setField ⟨rfl, rfl, by decide, by decide⟩ (rc_me X) rfl L.1 rfl (Nat.le_of_ble_eq_true rfl) d_me_push_12 (fun H locs X => ?_)
  refine lv_aload_n X.1.1 X.1.2.1 d_me_push_15 rfl (lv_at L 0 rfl) ?_
  refine g_me_depths X d_me_push_16 ?_
  refine lv_iload_n X.1.1 X.1.2.1 d_me_push_19 rfl (lv_at L 1 rfl) ?_
  refine lv_dup2_11 X.1.1 X.1.2.1 d_me_push_20 rfl rfl ?_
  refine al_10 X (by assumption) d_me_push_21 ?_
  refine lv_iconst (v := 1) X.1.1 X.1.2.1 d_me_push_22 rfl ?_
  refine lv_iadd X.1.1 X.1.2.1 d_me_push_23 ?_
  refine as_10 hI X (by assumption) d_me_push_24 (fun H locs X => ?_)
  exact X.vret hr hlk d_me_push_25 (by first | with_reducible rfl | (simp only [push, pushF]; done) | rfl)
set_option maxHeartbeats 4000000 in
theorem c_me_pop {l : Launch} {D : va_G} {ad : Nat → Nat} {ci : Nat → ClassId} (hI : Inj ad) (σ : SS) (o : Int32) (h_o : vp_in o 28) (h1 : 1 ≤ (σ.1 10 (ix o)).toInt) (hg : RG σ) : Mi l y_me_pop b_me_pop 3 (some .int) ({ frames := 2, cells := 0, slots := 0, locals := 44 } : Room) (EC D ad ci) [.ref (ad 1), .int o] σ (topBut σ o 0) (pop σ o) := by
  refine Mi.start pn_me (Nat.le_of_ble_eq_true rfl) (fun zp ze zs zm zb zt zc ls X hr hlk L => ?_)
  have L : lv_has ls 3 [(0, .ref (ad 1)), (1, .int o)] := L
  have hd := hg.dep h_o
  have e1 := dec_in h1 hd.2
  refine lv_aload_n X.1.1 X.1.2.1 d_me_pop_0 rfl (lv_at L 0 rfl) ?_
  refine lv_iload_n X.1.1 X.1.2.1 d_me_pop_1 rfl (lv_at L 1 rfl) ?_
  refine lv_iconst (v := 0) X.1.1 X.1.2.1 d_me_pop_2 rfl ?_
  refine Mi.callV (k := 2) (c_me_topBut hI _ _ _ h_o (by decide) (by rw [n0]; omega) hg) X (gt_V mw_375 mw_376 mw_377 mw_2 mw_378) ok_me_topBut ⟨rfl, rfl, by decide, by decide⟩ (rc_me X) rfl L.1 rfl (Nat.le_of_ble_eq_true rfl) d_me_pop_3 (fun H locs X => ?_)
  refine lv_istore_n (lv' := [(2, .int _), (0, .ref _), (1, .int _)]) X.1.1 X.1.2.1 d_me_pop_6 rfl L (by decide) rfl (fun ls L => ?_)
  refine lv_aload_n X.1.1 X.1.2.1 d_me_pop_7 rfl (lv_at L 1 rfl) ?_
  refine g_me_depths X d_me_pop_8 ?_
  refine lv_iload_n X.1.1 X.1.2.1 d_me_pop_11 rfl (lv_at L 2 rfl) ?_
  refine lv_dup2_11 X.1.1 X.1.2.1 d_me_pop_12 rfl rfl ?_
  refine al_10 X (by assumption) d_me_pop_13 ?_
  refine lv_iconst (v := 1) X.1.1 X.1.2.1 d_me_pop_14 rfl ?_
  refine lv_isub X.1.1 X.1.2.1 d_me_pop_15 ?_
  refine as_10 hI X (by assumption) d_me_pop_16 (fun H locs X => ?_)
  refine lv_aload_n X.1.1 X.1.2.1 d_me_pop_17 rfl (lv_at L 1 rfl) ?_
  refine lv_iload_n X.1.1 X.1.2.1 d_me_pop_18 rfl (lv_at L 2 rfl) ?_
  refine lv_bipush (v := 9) X.1.1 X.1.2.1 d_me_pop_19 rfl ?_
  refine lv_aload_n X.1.1 X.1.2.1 d_me_pop_21 rfl (lv_at L 1 rfl) ?_
  refine g_me_depths X d_me_pop_22 ?_
  refine lv_iload_n X.1.1 X.1.2.1 d_me_pop_25 rfl (lv_at L 2 rfl) ?_
  refine al_10 X (by assumption) d_me_pop_26 ?_
  refine lv_iadd X.1.1 X.1.2.1 d_me_pop_27 ?_
  refine lv_iconst (v := 0) X.1.1 X.1.2.1 d_me_pop_28 rfl ?_
  refine Mv.callV (k := 3) (c_me_setField hI (popD σ o) _ _ _ h_o (by show vp_in (9 + (popD σ o).1 10 (ix o)) 15; rw [popD_10]; exact push_in (by omega) (by omega)) (RG_10 hg _ (by omega)) (by decide)) X (gt_V mw_34 mw_35 mw_36 mw_2 mw_37) ok_me_setField ⟨rfl, rfl, by decide, by decide⟩ (rc_me X) rfl L.1 rfl (Nat.le_of_ble_eq_true rfl) d_me_pop_29 (fun H locs X => ?_)
  refine lv_iload_n X.1.1 X.1.2.1 d_me_pop_32 rfl (lv_at L 0 rfl) ?_
  exact X.iret hr hlk d_me_pop_33 (by first | (simp only [pop, popD, if_true, if_false]; done) | (simp [pop, popD]; done) | (simp [pop, popD]; done) | rfl) (by first | with_reducible rfl | (simp only [pop, popD]; done) | rfl)
set_option maxHeartbeats 4000000 in
theorem c_me_stick {l : Launch} {D : va_G} {ad : Nat → Nat} {ci : Nat → ClassId} (hI : Inj ad) (σ : SS)   : Mv l y_me_stick b_me_stick 2 ({ frames := 0, cells := 0, slots := 0, locals := 0 } : Room) (EC D ad ci) [.ref (ad 1)] σ (stick σ) := by
  refine Mv.start pn_me (Nat.le_of_ble_eq_true rfl) (fun zp ze zs zm zb zt zc ls X hr hlk L => ?_)
  have L : lv_has ls 2 [(0, .ref (ad 1))] := L
  refine lv_iconst (v := 0) X.1.1 X.1.2.1 d_me_stick_0 rfl ?_
  refine lv_istore_n (lv' := [(1, .int _), (0, .ref _)]) X.1.1 X.1.2.1 d_me_stick_1 rfl L (by decide) rfl (fun ls L => ?_)
  have loop2 : ∀ (n : Nat) (k : Nat) (σ1 : SS) (H : Heap) (locs : List Loc) (ls : Array Slot), (k + n = 28) → (stickL n k σ1 = stick σ) → Cx (EC D ad ci) zp zs zm (([.ref (ad 1)] : List Value).toArray) zc b_me_stick 2 "MessageMachine$Memory" H locs σ1 → lv_has ls 2 [(1, .int (nI k)), (0, .ref (ad 1))] → W zp l ze ({ frames := 0, cells := 0, slots := 0, locals := 0 } : Room) zs zm (([.ref (ad 1)] : List Value).toArray) zb zt zc H locs 0 0 (MQ zb (va_Qv (fun (u : SS) => u = (stick σ)) (fun u t => Pq (EC D ad ci) u t) (EC D ad ci).2.2.2) (([.ref (ad 1)] : List Value).toArray) zs 0 0 (EC D ad ci).2.2.2) (F0 zm 2 ls []) := by
    intro n
    induction n with
    | zero =>
      intro k σ1 H locs ls hk hq X L
      refine lv_iload_n X.1.1 X.1.2.1 d_me_stick_2 rfl (lv_at L 0 rfl) ?_
      refine lv_bipush (v := 28) X.1.1 X.1.2.1 d_me_stick_3 rfl ?_
      refine lv_icmp_ge (tgt := 41) X.1.1 X.1.2.1 d_me_stick_5 rfl (fun h5 => ?_) (fun h5 => ?_)
      · skip
        exact X.vret hr hlk d_me_stick_41 hq
      · skip
        exact absurd ((le28N (by omega)).mpr (by omega)) h5
    | succ n ih =>
      intro k σ1 H locs ls hk hq X L
      refine lv_iload_n X.1.1 X.1.2.1 d_me_stick_2 rfl (lv_at L 0 rfl) ?_
      refine lv_bipush (v := 28) X.1.1 X.1.2.1 d_me_stick_3 rfl ?_
      refine lv_icmp_ge (tgt := 41) X.1.1 X.1.2.1 d_me_stick_5 rfl (fun h5 => ?_) (fun h5 => ?_)
      · skip
        exact absurd ((le28N (by omega)).mp h5) (by omega)
      · skip
        refine lv_aload_n X.1.1 X.1.2.1 d_me_stick_8 rfl (lv_at L 1 rfl) ?_
        refine g_me_living X d_me_stick_9 ?_
        refine lv_iload_n X.1.1 X.1.2.1 d_me_stick_12 rfl (lv_at L 0 rfl) ?_
        refine al_4 X (vp_k (by omega) (by decide)) d_me_stick_13 ?_
        refine lv_if_eq (tgt := 35) X.1.1 X.1.2.1 d_me_stick_14 rfl (fun h14 => ?_) (fun h14 => ?_)
        · skip
          refine lv_iinc (k := 0) (lv' := [(1, .int (nI (k + 1))), (0, .ref _)]) X.1.1 X.1.2.1 d_me_stick_35 L rfl (nI_inc k) (by decide) rfl (fun ls L => ?_)
          refine lv_goto (tgt := 2) X.1.1 X.1.2.1 d_me_stick_38 rfl ?_
          exact ih (k + 1) _ _ _ _ (by omega) (by rw [← hq, stickL]; simp only [eq_false h5, eq_true h14, if_true, if_false]) X L
        · skip
          refine lv_aload_n X.1.1 X.1.2.1 d_me_stick_17 rfl (lv_at L 1 rfl) ?_
          refine g_me_holders X d_me_stick_18 ?_
          refine lv_iload_n X.1.1 X.1.2.1 d_me_stick_21 rfl (lv_at L 0 rfl) ?_
          refine al_11 X (vp_k (by omega) (by decide)) d_me_stick_22 ?_
          refine lv_bipush (v := 6) X.1.1 X.1.2.1 d_me_stick_23 rfl ?_
          refine lv_icmp_lt (tgt := 35) X.1.1 X.1.2.1 d_me_stick_25 rfl (fun h25 => ?_) (fun h25 => ?_)
          · skip
            refine lv_iinc (k := 0) (lv' := [(1, .int (nI (k + 1))), (0, .ref _)]) X.1.1 X.1.2.1 d_me_stick_35 L rfl (nI_inc k) (by decide) rfl (fun ls L => ?_)
            refine lv_goto (tgt := 2) X.1.1 X.1.2.1 d_me_stick_38 rfl ?_
            exact ih (k + 1) _ _ _ _ (by omega) (by rw [← hq, stickL]; simp only [eq_false h5, eq_false h14, eq_true h25, if_true, if_false]) X L
          · skip
            refine lv_aload_n X.1.1 X.1.2.1 d_me_stick_28 rfl (lv_at L 1 rfl) ?_
            refine g_me_stuck X d_me_stick_29 ?_
            refine lv_iload_n X.1.1 X.1.2.1 d_me_stick_32 rfl (lv_at L 0 rfl) ?_
            refine lv_iconst (v := 1) X.1.1 X.1.2.1 d_me_stick_33 rfl ?_
            refine as_5 hI X (vp_k (by omega) (by decide)) rfl d_me_stick_34 (fun H locs X => ?_)
            refine lv_iinc (k := 0) (lv' := [(1, .int (nI (k + 1))), (0, .ref _)]) X.1.1 X.1.2.1 d_me_stick_35 L rfl (nI_inc k) (by decide) rfl (fun ls L => ?_)
            refine lv_goto (tgt := 2) X.1.1 X.1.2.1 d_me_stick_38 rfl ?_
            exact ih (k + 1) _ _ _ _ (by omega) (by rw [← hq, stickL]; simp only [eq_false h5, eq_false h14, eq_false h25, if_true, if_false]) X L
  exact loop2 28 0 σ _ _ _ (by omega) rfl X L
set_option maxHeartbeats 4000000 in
theorem c_me_howManyAlive {l : Launch} {D : va_G} {ad : Nat → Nat} {ci : Nat → ClassId} (hI : Inj ad) (σ : SS)   : Mi l y_me_howManyAlive b_me_howManyAlive 3 (some .int) ({ frames := 0, cells := 0, slots := 0, locals := 0 } : Room) (EC D ad ci) [.ref (ad 1)] σ (howManyAlive σ) (σ) := by
  refine Mi.start pn_me (Nat.le_of_ble_eq_true rfl) (fun zp ze zs zm zb zt zc ls X hr hlk L => ?_)
  have L : lv_has ls 3 [(0, .ref (ad 1))] := L
  refine lv_iconst (v := 0) X.1.1 X.1.2.1 d_me_howManyAlive_0 rfl ?_
  refine lv_istore_n (lv' := [(1, .int _), (0, .ref _)]) X.1.1 X.1.2.1 d_me_howManyAlive_1 rfl L (by decide) rfl (fun ls L => ?_)
  refine lv_iconst (v := 0) X.1.1 X.1.2.1 d_me_howManyAlive_2 rfl ?_
  refine lv_istore_n (lv' := [(2, .int _), (1, .int _), (0, .ref _)]) X.1.1 X.1.2.1 d_me_howManyAlive_3 rfl L (by decide) rfl (fun ls L => ?_)
  have loop4 : ∀ (n : Nat) (k : Nat) (a : Int32) (σ1 : SS) (H : Heap) (locs : List Loc) (ls : Array Slot), (k + n = 28) → (σ1 = σ) → (aliveL n k σ1 a = howManyAlive σ) → Cx (EC D ad ci) zp zs zm (([.ref (ad 1)] : List Value).toArray) zc b_me_howManyAlive 3 "MessageMachine$Memory" H locs σ1 → lv_has ls 3 [(2, .int (nI k)), (1, .int a), (0, .ref (ad 1))] → W zp l ze ({ frames := 0, cells := 0, slots := 0, locals := 0 } : Room) zs zm (([.ref (ad 1)] : List Value).toArray) zb zt zc H locs 0 0 (MQ zb (va_Qi (fun (x : Int32) (u : SS) => x = (howManyAlive σ) ∧ u = (σ)) (fun u t => Pq (EC D ad ci) u t) (EC D ad ci).2.2.2) (([.ref (ad 1)] : List Value).toArray) zs 0 0 (EC D ad ci).2.2.2) (F0 zm 4 ls []) := by
    intro n
    induction n with
    | zero =>
      intro k a σ1 H locs ls hk hs hq X L
      refine lv_iload_n X.1.1 X.1.2.1 d_me_howManyAlive_4 rfl (lv_at L 0 rfl) ?_
      refine lv_bipush (v := 28) X.1.1 X.1.2.1 d_me_howManyAlive_5 rfl ?_
      refine lv_icmp_ge (tgt := 28) X.1.1 X.1.2.1 d_me_howManyAlive_7 rfl (fun h7 => ?_) (fun h7 => ?_)
      · skip
        refine lv_iload_n X.1.1 X.1.2.1 d_me_howManyAlive_28 rfl (lv_at L 1 rfl) ?_
        exact X.iret hr hlk d_me_howManyAlive_29 hq hs
      · skip
        exact absurd ((le28N (by omega)).mpr (by omega)) h7
    | succ n ih =>
      intro k a σ1 H locs ls hk hs hq X L
      refine lv_iload_n X.1.1 X.1.2.1 d_me_howManyAlive_4 rfl (lv_at L 0 rfl) ?_
      refine lv_bipush (v := 28) X.1.1 X.1.2.1 d_me_howManyAlive_5 rfl ?_
      refine lv_icmp_ge (tgt := 28) X.1.1 X.1.2.1 d_me_howManyAlive_7 rfl (fun h7 => ?_) (fun h7 => ?_)
      · skip
        exact absurd ((le28N (by omega)).mp h7) (by omega)
      · skip
        refine lv_aload_n X.1.1 X.1.2.1 d_me_howManyAlive_10 rfl (lv_at L 2 rfl) ?_
        refine g_me_living X d_me_howManyAlive_11 ?_
        refine lv_iload_n X.1.1 X.1.2.1 d_me_howManyAlive_14 rfl (lv_at L 0 rfl) ?_
        refine al_4 X (vp_k (by omega) (by decide)) d_me_howManyAlive_15 ?_
        refine lv_if_eq (tgt := 22) X.1.1 X.1.2.1 d_me_howManyAlive_16 rfl (fun h16 => ?_) (fun h16 => ?_)
        · skip
          refine lv_iinc (k := 0) (lv' := [(2, .int (nI (k + 1))), (1, .int _), (0, .ref _)]) X.1.1 X.1.2.1 d_me_howManyAlive_22 L rfl (nI_inc k) (by decide) rfl (fun ls L => ?_)
          refine lv_goto (tgt := 4) X.1.1 X.1.2.1 d_me_howManyAlive_25 rfl ?_
          exact ih (k + 1) _ σ1 _ _ _ (by omega) hs (by rw [← hq, aliveL]; simp only [eq_false h7, eq_true h16, if_true, if_false]; try rfl) X L
        · skip
          refine lv_iinc (k := 1) (lv' := [(1, .int _), (2, .int _), (0, .ref _)]) X.1.1 X.1.2.1 d_me_howManyAlive_19 L rfl rfl (by decide) rfl (fun ls L => ?_)
          refine lv_iinc (k := 1) (lv' := [(2, .int (nI (k + 1))), (1, .int _), (0, .ref _)]) X.1.1 X.1.2.1 d_me_howManyAlive_22 L rfl (nI_inc k) (by decide) rfl (fun ls L => ?_)
          refine lv_goto (tgt := 4) X.1.1 X.1.2.1 d_me_howManyAlive_25 rfl ?_
          exact ih (k + 1) _ σ1 _ _ _ (by omega) hs (by rw [← hq, aliveL]; simp only [eq_false h7, eq_false h16, if_true, if_false]; try rfl) X L
  exact loop4 28 0 0 σ _ _ _ (by omega) rfl rfl X L
set_option maxHeartbeats 4000000 in
theorem c_me_giveBack {l : Launch} {D : va_G} {ad : Nat → Nat} {ci : Nat → ClassId} (hI : Inj ad) (σ : SS) (o : Int32) (h_o : vp_in o 28) (hg : RG σ) : Mv l y_me_giveBack b_me_giveBack 3 ({ frames := 1, cells := 0, slots := 0, locals := 21 } : Room) (EC D ad ci) [.ref (ad 1), .int o] σ (giveBack σ o) := by
  refine Mv.start pn_me (Nat.le_of_ble_eq_true rfl) (fun zp ze zs zm zb zt zc ls X hr hlk L => ?_)
  have L : lv_has ls 3 [(0, .ref (ad 1)), (1, .int o)] := L
  refine lv_aload_n X.1.1 X.1.2.1 d_me_giveBack_0 rfl (lv_at L 0 rfl) ?_
  refine lv_aload_n X.1.1 X.1.2.1 d_me_giveBack_1 rfl (lv_at L 0 rfl) ?_
  refine g_me_classIn X d_me_giveBack_2 ?_
  refine lv_iload_n X.1.1 X.1.2.1 d_me_giveBack_5 rfl (lv_at L 1 rfl) ?_
  refine al_7 X (by assumption) d_me_giveBack_6 ?_
  refine Mv.callV (k := 1) (c_me_release hI _ _ (vp_nn (hg.cls h_o))) X (gt_V mw_38 mw_40 ms_3 mw_2 mw_41) ok_me_release ⟨rfl, rfl, by decide, by decide⟩ (rc_me X) rfl L.1 rfl (Nat.le_of_ble_eq_true rfl) d_me_giveBack_7 (fun H locs X => ?_)
  refine lv_iconst (v := 0) X.1.1 X.1.2.1 d_me_giveBack_10 rfl ?_
  refine lv_istore_n (lv' := [(2, .int _), (0, .ref _), (1, .int _)]) X.1.1 X.1.2.1 d_me_giveBack_11 rfl L (by decide) rfl (fun ls L => ?_)
  have loop12 : ∀ (n : Nat) (k : Nat) (σ1 : SS) (H : Heap) (locs : List Loc) (ls : Array Slot), (nI (k + n) = σ1.1 8 (ix o)) → (k + n ≤ 15) → (RG σ1) → (gbL n k σ1 o = gb1 σ o) → Cx (EC D ad ci) zp zs zm (([.ref (ad 1), .int o] : List Value).toArray) zc b_me_giveBack 3 "MessageMachine$Memory" H locs σ1 → lv_has ls 3 [(2, .int (nI k)), (0, .ref (ad 1)), (1, .int o)] → W zp l ze ({ frames := 1, cells := 0, slots := 0, locals := 21 } : Room) zs zm (([.ref (ad 1), .int o] : List Value).toArray) zb zt zc H locs 0 0 (MQ zb (va_Qv (fun (u : SS) => u = (giveBack σ o)) (fun u t => Pq (EC D ad ci) u t) (EC D ad ci).2.2.2) (([.ref (ad 1), .int o] : List Value).toArray) zs 0 0 (EC D ad ci).2.2.2) (F0 zm 12 ls []) := by
    intro n
    induction n with
    | zero =>
      intro k σ1 H locs ls hk hl hg1 hq X L
      have e8 : σ1.1 8 (ix o) = nI k := hk.symm
      refine lv_iload_n X.1.1 X.1.2.1 d_me_giveBack_12 rfl (lv_at L 0 rfl) ?_
      refine lv_aload_n X.1.1 X.1.2.1 d_me_giveBack_13 rfl (lv_at L 1 rfl) ?_
      refine g_me_fieldsIn X d_me_giveBack_14 ?_
      refine lv_iload_n X.1.1 X.1.2.1 d_me_giveBack_17 rfl (lv_at L 2 rfl) ?_
      refine al_8 X (by assumption) d_me_giveBack_18 ?_
      refine lv_icmp_ge (tgt := 49) X.1.1 X.1.2.1 d_me_giveBack_19 rfl (fun h19 => ?_) (fun h19 => ?_)
      · skip
        refine lv_aload_n X.1.1 X.1.2.1 d_me_giveBack_49 rfl (lv_at L 1 rfl) ?_
        refine g_me_living X d_me_giveBack_50 ?_
        refine lv_iload_n X.1.1 X.1.2.1 d_me_giveBack_53 rfl (lv_at L 2 rfl) ?_
        refine lv_iconst (v := 0) X.1.1 X.1.2.1 d_me_giveBack_54 rfl ?_
        refine as_4 hI X (by assumption) rfl d_me_giveBack_55 (fun H locs X => ?_)
        refine lv_aload_n X.1.1 X.1.2.1 d_me_giveBack_56 rfl (lv_at L 1 rfl) ?_
        refine g_me_stuck X d_me_giveBack_57 ?_
        refine lv_iload_n X.1.1 X.1.2.1 d_me_giveBack_60 rfl (lv_at L 2 rfl) ?_
        refine lv_iconst (v := 0) X.1.1 X.1.2.1 d_me_giveBack_61 rfl ?_
        refine as_5 hI X (by assumption) rfl d_me_giveBack_62 (fun H locs X => ?_)
        refine lv_aload_n X.1.1 X.1.2.1 d_me_giveBack_63 rfl (lv_at L 1 rfl) ?_
        refine g_me_classes X d_me_giveBack_64 ?_
        refine lv_iload_n X.1.1 X.1.2.1 d_me_giveBack_67 rfl (lv_at L 2 rfl) ?_
        refine lv_iconst (v := 0) X.1.1 X.1.2.1 d_me_giveBack_68 rfl ?_
        refine as_6 hI X (by assumption) rfl d_me_giveBack_69 (fun H locs X => ?_)
        refine lv_aload_n X.1.1 X.1.2.1 d_me_giveBack_70 rfl (lv_at L 1 rfl) ?_
        refine g_me_fieldsIn X d_me_giveBack_71 ?_
        refine lv_iload_n X.1.1 X.1.2.1 d_me_giveBack_74 rfl (lv_at L 2 rfl) ?_
        refine lv_iconst (v := 0) X.1.1 X.1.2.1 d_me_giveBack_75 rfl ?_
        refine as_8 hI X (by assumption) d_me_giveBack_76 (fun H locs X => ?_)
        refine lv_aload_n X.1.1 X.1.2.1 d_me_giveBack_77 rfl (lv_at L 1 rfl) ?_
        refine g_me_depths X d_me_giveBack_78 ?_
        refine lv_iload_n X.1.1 X.1.2.1 d_me_giveBack_81 rfl (lv_at L 2 rfl) ?_
        refine lv_iconst (v := 0) X.1.1 X.1.2.1 d_me_giveBack_82 rfl ?_
        refine as_10 hI X (by assumption) d_me_giveBack_83 (fun H locs X => ?_)
        exact X.vret hr hlk d_me_giveBack_84 (by rw [giveBack, ← hq]; rfl)
      · skip
        exact absurd (by rw [e8]; exact Int32.le_refl _) h19
    | succ n ih =>
      intro k σ1 H locs ls hk hl hg1 hq X L
      have e8 : ¬ σ1.1 8 (ix o) ≤ nI k := by rw [← hk, nI_leI (by omega) (by omega)]; omega
      refine lv_iload_n X.1.1 X.1.2.1 d_me_giveBack_12 rfl (lv_at L 0 rfl) ?_
      refine lv_aload_n X.1.1 X.1.2.1 d_me_giveBack_13 rfl (lv_at L 1 rfl) ?_
      refine g_me_fieldsIn X d_me_giveBack_14 ?_
      refine lv_iload_n X.1.1 X.1.2.1 d_me_giveBack_17 rfl (lv_at L 2 rfl) ?_
      refine al_8 X (by assumption) d_me_giveBack_18 ?_
      refine lv_icmp_ge (tgt := 49) X.1.1 X.1.2.1 d_me_giveBack_19 rfl (fun h19 => ?_) (fun h19 => ?_)
      · skip
        exact absurd h19 e8
      · skip
        refine lv_aload_n X.1.1 X.1.2.1 d_me_giveBack_22 rfl (lv_at L 1 rfl) ?_
        refine lv_aload_n X.1.1 X.1.2.1 d_me_giveBack_23 rfl (lv_at L 1 rfl) ?_
        refine g_me_fields X d_me_giveBack_24 ?_
        refine lv_iload_n X.1.1 X.1.2.1 d_me_giveBack_27 rfl (lv_at L 2 rfl) ?_
        refine X.gald (by assumption) d_me_giveBack_28 ?_
        refine lv_iload_n X.1.1 X.1.2.1 d_me_giveBack_29 rfl (lv_at L 0 rfl) ?_
        refine X.rald (vp_ix h_o) (vp_k (by omega) (by decide)) d_me_giveBack_30 ?_
        refine Mv.callV (k := 1) (c_me_release hI _ _ (hg1.grid h_o (vp_k (by omega) (by decide)))) X (gt_V mw_38 mw_40 ms_3 mw_2 mw_41) ok_me_release ⟨rfl, rfl, by decide, by decide⟩ (rc_me X) rfl L.1 rfl (Nat.le_of_ble_eq_true rfl) d_me_giveBack_31 (fun H locs X => ?_)
        refine lv_aload_n X.1.1 X.1.2.1 d_me_giveBack_34 rfl (lv_at L 1 rfl) ?_
        refine g_me_fields X d_me_giveBack_35 ?_
        refine lv_iload_n X.1.1 X.1.2.1 d_me_giveBack_38 rfl (lv_at L 2 rfl) ?_
        refine X.gald (by assumption) d_me_giveBack_39 ?_
        refine lv_iload_n X.1.1 X.1.2.1 d_me_giveBack_40 rfl (lv_at L 0 rfl) ?_
        refine lv_iconst (v := 0) X.1.1 X.1.2.1 d_me_giveBack_41 rfl ?_
        refine X.rast hI (vp_ix h_o) (vp_k (by omega) (by decide)) d_me_giveBack_42 (fun H locs X => ?_)
        refine lv_iinc (k := 0) (lv' := [(2, .int (nI (k + 1))), (0, .ref _), (1, .int _)]) X.1.1 X.1.2.1 d_me_giveBack_43 L rfl (nI_inc k) (by decide) rfl (fun ls L => ?_)
        refine lv_goto (tgt := 12) X.1.1 X.1.2.1 d_me_giveBack_46 rfl ?_
        exact ih (k + 1) _ _ _ _ (by rw [show k + 1 + n = k + (n + 1) by omega, hk]; exact (congrFun (release_ne σ1 _ (by decide)) _).symm) (by omega) (RG_G (RG_release hg1 _) _ _ (by decide)) (by rw [← hq]; rfl) X L
  exact loop12 (ix (σ.1 8 (ix o))) 0 _ _ _ _ (by rw [Nat.zero_add, congrFun (release_ne σ _ (by decide)) _]; exact ix_back (hg.2.2.2.1 _ (vp_ix h_o)).1) (by rw [Nat.zero_add]; exact ix_le (hg.2.2.2.1 _ (vp_ix h_o)).2) (RG_release hg _) rfl X L
set_option maxHeartbeats 4000000 in
theorem c_me_giveBackUnheld {l : Launch} {D : va_G} {ad : Nat → Nat} {ci : Nat → ClassId} (hI : Inj ad) (σ : SS)  (hg : RG σ) : Mi l y_me_giveBackUnheld b_me_giveBackUnheld 3 (some .boolean) ({ frames := 2, cells := 0, slots := 0, locals := 43 } : Room) (EC D ad ci) [.ref (ad 1)] σ ((unheld σ).2) ((unheld σ).1) := by
  refine Mi.start pn_me (Nat.le_of_ble_eq_true rfl) (fun zp ze zs zm zb zt zc ls X hr hlk L => ?_)
  have L : lv_has ls 3 [(0, .ref (ad 1))] := L
  refine lv_iconst (v := 0) X.1.1 X.1.2.1 d_me_giveBackUnheld_0 rfl ?_
  refine lv_istore_n (lv' := [(1, .int _), (0, .ref _)]) X.1.1 X.1.2.1 d_me_giveBackUnheld_1 rfl L (by decide) rfl (fun ls L => ?_)
  refine lv_iconst (v := 4) X.1.1 X.1.2.1 d_me_giveBackUnheld_2 rfl ?_
  refine lv_istore_n (lv' := [(2, .int _), (1, .int _), (0, .ref _)]) X.1.1 X.1.2.1 d_me_giveBackUnheld_3 rfl L (by decide) rfl (fun ls L => ?_)
  have loop4 : ∀ (n : Nat) (k : Nat) (a : Int32) (σ1 : SS) (H : Heap) (locs : List Loc) (ls : Array Slot), (k + n = 28) → (RG σ1) → (narrow .boolean (.int a) = .int a) → (unheldL n k σ1 a = unheld σ) → Cx (EC D ad ci) zp zs zm (([.ref (ad 1)] : List Value).toArray) zc b_me_giveBackUnheld 3 "MessageMachine$Memory" H locs σ1 → lv_has ls 3 [(2, .int (nI k)), (1, .int a), (0, .ref (ad 1))] → W zp l ze ({ frames := 2, cells := 0, slots := 0, locals := 43 } : Room) zs zm (([.ref (ad 1)] : List Value).toArray) zb zt zc H locs 0 0 (MQ zb (va_Qi (fun (x : Int32) (u : SS) => x = ((unheld σ).2) ∧ u = ((unheld σ).1)) (fun u t => Pq (EC D ad ci) u t) (EC D ad ci).2.2.2) (([.ref (ad 1)] : List Value).toArray) zs 0 0 (EC D ad ci).2.2.2) (F0 zm 4 ls []) := by
    intro n
    induction n with
    | zero =>
      intro k a σ1 H locs ls hk hg1 hz hq X L
      refine lv_iload_n X.1.1 X.1.2.1 d_me_giveBackUnheld_4 rfl (lv_at L 0 rfl) ?_
      refine lv_bipush (v := 28) X.1.1 X.1.2.1 d_me_giveBackUnheld_5 rfl ?_
      refine lv_icmp_ge (tgt := 50) X.1.1 X.1.2.1 d_me_giveBackUnheld_7 rfl (fun h7 => ?_) (fun h7 => ?_)
      · skip
        refine lv_iload_n X.1.1 X.1.2.1 d_me_giveBackUnheld_50 rfl (lv_at L 1 rfl) ?_
        exact X.zret hr hlk d_me_giveBackUnheld_51 hz (congrArg Prod.snd hq) (congrArg Prod.fst hq)
      · skip
        exact absurd ((le28N (by omega)).mpr (by omega)) h7
    | succ n ih =>
      intro k a σ1 H locs ls hk hg1 hz hq X L
      refine lv_iload_n X.1.1 X.1.2.1 d_me_giveBackUnheld_4 rfl (lv_at L 0 rfl) ?_
      refine lv_bipush (v := 28) X.1.1 X.1.2.1 d_me_giveBackUnheld_5 rfl ?_
      refine lv_icmp_ge (tgt := 50) X.1.1 X.1.2.1 d_me_giveBackUnheld_7 rfl (fun h7 => ?_) (fun h7 => ?_)
      · skip
        exact absurd ((le28N (by omega)).mp h7) (by omega)
      · skip
        refine lv_aload_n X.1.1 X.1.2.1 d_me_giveBackUnheld_10 rfl (lv_at L 2 rfl) ?_
        refine g_me_living X d_me_giveBackUnheld_11 ?_
        refine lv_iload_n X.1.1 X.1.2.1 d_me_giveBackUnheld_14 rfl (lv_at L 0 rfl) ?_
        refine al_4 X (vp_k (by omega) (by decide)) d_me_giveBackUnheld_15 ?_
        refine lv_if_eq (tgt := 44) X.1.1 X.1.2.1 d_me_giveBackUnheld_16 rfl (fun h16 => ?_) (fun h16 => ?_)
        · skip
          refine lv_iinc (k := 0) (lv' := [(2, .int (nI (k + 1))), (1, .int _), (0, .ref _)]) X.1.1 X.1.2.1 d_me_giveBackUnheld_44 L rfl (nI_inc k) (by decide) rfl (fun ls L => ?_)
          refine lv_goto (tgt := 4) X.1.1 X.1.2.1 d_me_giveBackUnheld_47 rfl ?_
          exact ih (k + 1) _ _ _ _ _ (by omega) (by first | assumption | exact RG_giveBack hg1 _) (by first | assumption | rfl) (by rw [← hq, unheldL]; simp only [eq_false h7, eq_true h16, if_true, if_false]) X L
        · skip
          refine lv_aload_n X.1.1 X.1.2.1 d_me_giveBackUnheld_19 rfl (lv_at L 2 rfl) ?_
          refine g_me_stuck X d_me_giveBackUnheld_20 ?_
          refine lv_iload_n X.1.1 X.1.2.1 d_me_giveBackUnheld_23 rfl (lv_at L 0 rfl) ?_
          refine al_5 X (vp_k (by omega) (by decide)) d_me_giveBackUnheld_24 ?_
          refine lv_if_ne (tgt := 44) X.1.1 X.1.2.1 d_me_giveBackUnheld_25 rfl (fun h25 => ?_) (fun h25 => ?_)
          · skip
            refine lv_iinc (k := 0) (lv' := [(2, .int (nI (k + 1))), (1, .int _), (0, .ref _)]) X.1.1 X.1.2.1 d_me_giveBackUnheld_44 L rfl (nI_inc k) (by decide) rfl (fun ls L => ?_)
            refine lv_goto (tgt := 4) X.1.1 X.1.2.1 d_me_giveBackUnheld_47 rfl ?_
            exact ih (k + 1) _ _ _ _ _ (by omega) (by first | assumption | exact RG_giveBack hg1 _) (by first | assumption | rfl) (by rw [← hq, unheldL]; simp only [eq_false h7, eq_false h16, eq_false h25, if_true, if_false]) X L
          · skip
            refine lv_aload_n X.1.1 X.1.2.1 d_me_giveBackUnheld_28 rfl (lv_at L 2 rfl) ?_
            refine g_me_holders X d_me_giveBackUnheld_29 ?_
            refine lv_iload_n X.1.1 X.1.2.1 d_me_giveBackUnheld_32 rfl (lv_at L 0 rfl) ?_
            refine al_11 X (vp_k (by omega) (by decide)) d_me_giveBackUnheld_33 ?_
            refine lv_if_ne (tgt := 44) X.1.1 X.1.2.1 d_me_giveBackUnheld_34 rfl (fun h34 => ?_) (fun h34 => ?_)
            · skip
              refine lv_iinc (k := 0) (lv' := [(2, .int (nI (k + 1))), (1, .int _), (0, .ref _)]) X.1.1 X.1.2.1 d_me_giveBackUnheld_44 L rfl (nI_inc k) (by decide) rfl (fun ls L => ?_)
              refine lv_goto (tgt := 4) X.1.1 X.1.2.1 d_me_giveBackUnheld_47 rfl ?_
              exact ih (k + 1) _ _ _ _ _ (by omega) (by first | assumption | exact RG_giveBack hg1 _) (by first | assumption | rfl) (by rw [← hq, unheldL]; simp only [eq_false h7, eq_false h16, eq_true h25, eq_false h34, if_true, if_false]) X L
            · skip
              refine lv_aload_n X.1.1 X.1.2.1 d_me_giveBackUnheld_37 rfl (lv_at L 2 rfl) ?_
              refine lv_iload_n X.1.1 X.1.2.1 d_me_giveBackUnheld_38 rfl (lv_at L 0 rfl) ?_
              refine Mv.callV (k := 1) (c_me_giveBack hI _ _ (vp_k (by omega) (by decide)) hg1) X (gt_V mw_185 mw_187 ms_8 mw_2 mw_188) ok_me_giveBack ⟨rfl, rfl, by decide, by decide⟩ (rc_me X) rfl L.1 rfl (Nat.le_of_ble_eq_true rfl) d_me_giveBackUnheld_39 (fun H locs X => ?_)
              refine lv_iconst (v := 1) X.1.1 X.1.2.1 d_me_giveBackUnheld_42 rfl ?_
              refine lv_istore_n (lv' := [(1, .int _), (2, .int _), (0, .ref _)]) X.1.1 X.1.2.1 d_me_giveBackUnheld_43 rfl L (by decide) rfl (fun ls L => ?_)
              refine lv_iinc (k := 1) (lv' := [(2, .int (nI (k + 1))), (1, .int _), (0, .ref _)]) X.1.1 X.1.2.1 d_me_giveBackUnheld_44 L rfl (nI_inc k) (by decide) rfl (fun ls L => ?_)
              refine lv_goto (tgt := 4) X.1.1 X.1.2.1 d_me_giveBackUnheld_47 rfl ?_
              exact ih (k + 1) _ _ _ _ _ (by omega) (by first | assumption | exact RG_giveBack hg1 _) (by first | assumption | rfl) (by rw [← hq, unheldL]; simp only [eq_false h7, eq_false h16, eq_true h25, eq_true h34, if_true, if_false]) X L
  exact loop4 24 4 0 σ _ _ _ (by omega) hg rfl rfl X L
set_option maxHeartbeats 4000000 in
theorem c_me_settle {l : Launch} {D : va_G} {ad : Nat → Nat} {ci : Nat → ClassId} (hI : Inj ad) (σ : SS)  (hg : RG σ) : Mv l y_me_settle b_me_settle 3 ({ frames := 3, cells := 0, slots := 0, locals := 65 } : Room) (EC D ad ci) [.ref (ad 1)] σ (settle σ) := by
  refine Mv.start pn_me (Nat.le_of_ble_eq_true rfl) (fun zp ze zs zm zb zt zc ls X hr hlk L => ?_)
  have L : lv_has ls 3 [(0, .ref (ad 1))] := L
  refine lv_iconst (v := 1) X.1.1 X.1.2.1 d_me_settle_0 rfl ?_
  refine lv_istore_n (lv' := [(1, .int _), (0, .ref _)]) X.1.1 X.1.2.1 d_me_settle_1 rfl L (by decide) rfl (fun ls L => ?_)
  refine lv_iconst (v := 0) X.1.1 X.1.2.1 d_me_settle_2 rfl ?_
  refine lv_istore_n (lv' := [(2, .int _), (1, .int _), (0, .ref _)]) X.1.1 X.1.2.1 d_me_settle_3 rfl L (by decide) rfl (fun ls L => ?_)
  have loop4 : ∀ (n : Nat) (k : Nat) (a : Int32) (σ1 : SS) (H : Heap) (locs : List Loc) (ls : Array Slot), (k + n = 28) → (RG σ1) → (stick (settleL n σ1 a) = settle σ) → Cx (EC D ad ci) zp zs zm (([.ref (ad 1)] : List Value).toArray) zc b_me_settle 3 "MessageMachine$Memory" H locs σ1 → lv_has ls 3 [(2, .int (nI k)), (1, .int a), (0, .ref (ad 1))] → W zp l ze ({ frames := 3, cells := 0, slots := 0, locals := 65 } : Room) zs zm (([.ref (ad 1)] : List Value).toArray) zb zt zc H locs 0 0 (MQ zb (va_Qv (fun (u : SS) => u = (settle σ)) (fun u t => Pq (EC D ad ci) u t) (EC D ad ci).2.2.2) (([.ref (ad 1)] : List Value).toArray) zs 0 0 (EC D ad ci).2.2.2) (F0 zm 4 ls []) := by
    intro n
    induction n with
    | zero =>
      intro k a σ1 H locs ls hk hg1 hq X L
      refine lv_iload_n X.1.1 X.1.2.1 d_me_settle_4 rfl (lv_at L 0 rfl) ?_
      refine lv_bipush (v := 28) X.1.1 X.1.2.1 d_me_settle_5 rfl ?_
      refine lv_icmp_ge (tgt := 25) X.1.1 X.1.2.1 d_me_settle_7 rfl (fun h7 => ?_) (fun h7 => ?_)
      · skip
        refine lv_aload_n X.1.1 X.1.2.1 d_me_settle_25 rfl (lv_at L 2 rfl) ?_
        refine Mv.callV (k := 0) (c_me_stick hI _) X (gt_V mw_42 mw_44 ms_4 mw_2 mw_45) ok_me_stick ⟨rfl, rfl, by decide, by decide⟩ (rc_me X) rfl L.1 rfl (Nat.le_of_ble_eq_true rfl) d_me_settle_26 (fun H locs X => ?_)
        exact X.vret hr hlk d_me_settle_29 hq
      · skip
        exact absurd ((le28N (by omega)).mpr (by omega)) h7
    | succ n ih =>
      intro k a σ1 H locs ls hk hg1 hq X L
      refine lv_iload_n X.1.1 X.1.2.1 d_me_settle_4 rfl (lv_at L 0 rfl) ?_
      refine lv_bipush (v := 28) X.1.1 X.1.2.1 d_me_settle_5 rfl ?_
      refine lv_icmp_ge (tgt := 25) X.1.1 X.1.2.1 d_me_settle_7 rfl (fun h7 => ?_) (fun h7 => ?_)
      · skip
        exact absurd ((le28N (by omega)).mp h7) (by omega)
      · skip
        refine lv_iload_n X.1.1 X.1.2.1 d_me_settle_10 rfl (lv_at L 1 rfl) ?_
        refine lv_if_eq (tgt := 25) X.1.1 X.1.2.1 d_me_settle_11 rfl (fun h11 => ?_) (fun h11 => ?_)
        · skip
          refine lv_aload_n X.1.1 X.1.2.1 d_me_settle_25 rfl (lv_at L 2 rfl) ?_
          refine Mv.callV (k := 0) (c_me_stick hI _) X (gt_V mw_42 mw_44 ms_4 mw_2 mw_45) ok_me_stick ⟨rfl, rfl, by decide, by decide⟩ (rc_me X) rfl L.1 rfl (Nat.le_of_ble_eq_true rfl) d_me_settle_26 (fun H locs X => ?_)
          exact X.vret hr hlk d_me_settle_29 (by rw [← hq, settleL, if_pos h11])
        · skip
          refine lv_aload_n X.1.1 X.1.2.1 d_me_settle_14 rfl (lv_at L 2 rfl) ?_
          refine Mi.callV (k := 0) (c_me_giveBackUnheld hI _ hg1) X (gt_V mw_181 mw_183 ms_7 mw_2 mw_184) ok_me_giveBackUnheld ⟨rfl, rfl, by decide, by decide⟩ (rc_me X) rfl L.1 rfl (Nat.le_of_ble_eq_true rfl) d_me_settle_15 (fun H locs X => ?_)
          refine lv_istore_n (lv' := [(1, .int _), (2, .int _), (0, .ref _)]) X.1.1 X.1.2.1 d_me_settle_18 rfl L (by decide) rfl (fun ls L => ?_)
          refine lv_iinc (k := 1) (lv' := [(2, .int (nI (k + 1))), (1, .int _), (0, .ref _)]) X.1.1 X.1.2.1 d_me_settle_19 L rfl (nI_inc k) (by decide) rfl (fun ls L => ?_)
          refine lv_goto (tgt := 4) X.1.1 X.1.2.1 d_me_settle_22 rfl ?_
          exact ih (k + 1) _ _ _ _ _ (by omega) (RG_unheld hg1) (by rw [← hq, settleL, if_neg h11]) X L
  exact loop4 28 0 1 σ _ _ _ (by omega) hg rfl X L
set_option maxHeartbeats 4000000 in
theorem c_me_popDownTo {l : Launch} {D : va_G} {ad : Nat → Nat} {ci : Nat → ClassId} (hI : Inj ad) (σ : SS) (o d : Int32) (h_o : vp_in o 28) (hd : 0 ≤ d.toInt) (hdd : d.toInt ≤ (σ.1 10 (ix o)).toInt) (hg : RG σ) : Mv l y_me_popDownTo b_me_popDownTo 4 ({ frames := 2, cells := 0, slots := 0, locals := 44 } : Room) (EC D ad ci) [.ref (ad 1), .int o, .int d] σ (popDownTo σ o d) := by
  refine Mv.start pn_me (Nat.le_of_ble_eq_true rfl) (fun zp ze zs zm zb zt zc ls X hr hlk L => ?_)
  have L : lv_has ls 4 [(0, .ref (ad 1)), (1, .int o), (2, .int d)] := L
  refine lv_iload_n X.1.1 X.1.2.1 d_me_popDownTo_0 rfl (lv_at L 2 rfl) ?_
  refine lv_istore_n (lv' := [(3, .int _), (0, .ref _), (1, .int _), (2, .int _)]) X.1.1 X.1.2.1 d_me_popDownTo_1 rfl L (by decide) rfl (fun ls L => ?_)
  have loop2 : ∀ (n : Nat) (k : Nat) (σ1 : SS) (H : Heap) (locs : List Loc) (ls : Array Slot), (nI (k + n) = σ1.1 10 (ix o)) → (k + n ≤ 6) → (RG σ1) → (popL n k σ1 o = popL (ix (σ.1 10 (ix o)) - ix d) (ix d) σ o) → Cx (EC D ad ci) zp zs zm (([.ref (ad 1), .int o, .int d] : List Value).toArray) zc b_me_popDownTo 4 "MessageMachine$Memory" H locs σ1 → lv_has ls 4 [(3, .int (nI k)), (0, .ref (ad 1)), (1, .int o), (2, .int d)] → W zp l ze ({ frames := 2, cells := 0, slots := 0, locals := 44 } : Room) zs zm (([.ref (ad 1), .int o, .int d] : List Value).toArray) zb zt zc H locs 0 0 (MQ zb (va_Qv (fun (u : SS) => u = (popDownTo σ o d)) (fun u t => Pq (EC D ad ci) u t) (EC D ad ci).2.2.2) (([.ref (ad 1), .int o, .int d] : List Value).toArray) zs 0 0 (EC D ad ci).2.2.2) (F0 zm 2 ls []) := by
    intro n
    induction n with
    | zero =>
      intro k σ1 H locs ls hk hl hg1 hq X L
      have e8 : σ1.1 10 (ix o) = nI k := hk.symm
      refine lv_iload_n X.1.1 X.1.2.1 d_me_popDownTo_2 rfl (lv_at L 0 rfl) ?_
      refine lv_aload_n X.1.1 X.1.2.1 d_me_popDownTo_3 rfl (lv_at L 1 rfl) ?_
      refine g_me_depths X d_me_popDownTo_4 ?_
      refine lv_iload_n X.1.1 X.1.2.1 d_me_popDownTo_7 rfl (lv_at L 2 rfl) ?_
      refine al_10 X (by assumption) d_me_popDownTo_8 ?_
      refine lv_icmp_ge (tgt := 28) X.1.1 X.1.2.1 d_me_popDownTo_9 rfl (fun h9 => ?_) (fun h9 => ?_)
      · skip
        refine lv_aload_n X.1.1 X.1.2.1 d_me_popDownTo_28 rfl (lv_at L 1 rfl) ?_
        refine g_me_depths X d_me_popDownTo_29 ?_
        refine lv_iload_n X.1.1 X.1.2.1 d_me_popDownTo_32 rfl (lv_at L 2 rfl) ?_
        refine lv_iload_n X.1.1 X.1.2.1 d_me_popDownTo_33 rfl (lv_at L 3 rfl) ?_
        refine as_10 hI X (by assumption) d_me_popDownTo_34 (fun H locs X => ?_)
        exact X.vret hr hlk d_me_popDownTo_35 (by rw [popDownTo, ← hq]; rfl)
      · skip
        exact absurd (by rw [e8]; exact Int32.le_refl _) h9
    | succ n ih =>
      intro k σ1 H locs ls hk hl hg1 hq X L
      have e8 : ¬ σ1.1 10 (ix o) ≤ nI k := by rw [← hk, nI_leI (by omega) (by omega)]; omega
      refine lv_iload_n X.1.1 X.1.2.1 d_me_popDownTo_2 rfl (lv_at L 0 rfl) ?_
      refine lv_aload_n X.1.1 X.1.2.1 d_me_popDownTo_3 rfl (lv_at L 1 rfl) ?_
      refine g_me_depths X d_me_popDownTo_4 ?_
      refine lv_iload_n X.1.1 X.1.2.1 d_me_popDownTo_7 rfl (lv_at L 2 rfl) ?_
      refine al_10 X (by assumption) d_me_popDownTo_8 ?_
      refine lv_icmp_ge (tgt := 28) X.1.1 X.1.2.1 d_me_popDownTo_9 rfl (fun h9 => ?_) (fun h9 => ?_)
      · skip
        exact absurd h9 e8
      · skip
        refine lv_aload_n X.1.1 X.1.2.1 d_me_popDownTo_12 rfl (lv_at L 1 rfl) ?_
        refine lv_iload_n X.1.1 X.1.2.1 d_me_popDownTo_13 rfl (lv_at L 2 rfl) ?_
        refine lv_bipush (v := 9) X.1.1 X.1.2.1 d_me_popDownTo_14 rfl ?_
        refine lv_iload_n X.1.1 X.1.2.1 d_me_popDownTo_16 rfl (lv_at L 0 rfl) ?_
        refine lv_iadd X.1.1 X.1.2.1 d_me_popDownTo_17 ?_
        refine lv_iconst (v := 0) X.1.1 X.1.2.1 d_me_popDownTo_18 rfl ?_
        refine Mv.callV (k := 3) (c_me_setField hI _ _ _ _ h_o (by rw [show (9 : Int32) = nI 9 from rfl, nI_add]; exact vp_k (by omega) (by decide)) hg1 (by decide)) X (gt_V mw_34 mw_35 mw_36 mw_2 mw_37) ok_me_setField ⟨rfl, rfl, by decide, by decide⟩ (rc_me X) rfl L.1 rfl (Nat.le_of_ble_eq_true rfl) d_me_popDownTo_19 (fun H locs X => ?_)
        refine lv_iinc (k := 0) (lv' := [(3, .int (nI (k + 1))), (0, .ref _), (1, .int _), (2, .int _)]) X.1.1 X.1.2.1 d_me_popDownTo_22 L rfl (nI_inc k) (by decide) rfl (fun ls L => ?_)
        refine lv_goto (tgt := 2) X.1.1 X.1.2.1 d_me_popDownTo_25 rfl ?_
        exact ih (k + 1) _ _ _ _ (by rw [show k + 1 + n = k + (n + 1) by omega, hk]; exact (congrFun (setField_ne σ1 _ _ _ (by decide)) _).symm) (by omega) (RG_setField hg1 _ _ (by decide)) (by rw [← hq]; rfl) X L
  have h10 := hg.2.2.2.2.2 _ (vp_ix h_o)
  have e1 : d = nI (ix d) := (ix_back hd).symm
  have e2 : ix d ≤ ix (σ.1 10 (ix o)) := ix_mono hd hdd
  exact loop2 (ix (σ.1 10 (ix o)) - ix d) (ix d) σ _ _ _ (by rw [Nat.add_sub_cancel' e2]; exact ix_back h10.1) (by rw [Nat.add_sub_cancel' e2]; exact ix_le h10.2) hg rfl X (by rw [← e1]; exact L)
set_option maxHeartbeats 4000000 in
theorem c_me_isAmongSuperclasses {l : Launch} {D : va_G} {ad : Nat → Nat} {ci : Nat → ClassId} (hI : Inj ad) (σ : SS) (c f : Int32) (hf : Sup σ f) : Mi l y_me_isAmongSuperclasses b_me_isAmongSuperclasses 5 (some .boolean) ({ frames := 0, cells := 0, slots := 0, locals := 0 } : Room) (EC D ad ci) [.ref (ad 1), .int c, .int f] σ (isAmong σ c f) (σ) := by
  refine Mi.start pn_me (Nat.le_of_ble_eq_true rfl) (fun zp ze zs zm zb zt zc ls X hr hlk L => ?_)
  have L : lv_has ls 5 [(0, .ref (ad 1)), (1, .int c), (2, .int f)] := L
  refine lv_iload_n X.1.1 X.1.2.1 d_me_isAmongSuperclasses_0 rfl (lv_at L 2 rfl) ?_
  refine lv_istore_n (lv' := [(3, .int _), (0, .ref _), (1, .int _), (2, .int _)]) X.1.1 X.1.2.1 d_me_isAmongSuperclasses_1 rfl L (by decide) rfl (fun ls L => ?_)
  refine lv_iconst (v := 0) X.1.1 X.1.2.1 d_me_isAmongSuperclasses_2 rfl ?_
  refine lv_istore (lv' := [(4, .int _), (3, .int _), (0, .ref _), (1, .int _), (2, .int _)]) X.1.1 X.1.2.1 d_me_isAmongSuperclasses_3 L (by decide) rfl (fun ls L => ?_)
  have loop5 : ∀ (n : Nat) (k : Nat) (a : Int32) (σ1 : SS) (H : Heap) (locs : List Loc) (ls : Array Slot), (k + n = 28) → (σ1 = σ) → (Sup σ1 a) → (amongL n σ1 c a = amongL 28 σ c f) → Cx (EC D ad ci) zp zs zm (([.ref (ad 1), .int c, .int f] : List Value).toArray) zc b_me_isAmongSuperclasses 5 "MessageMachine$Memory" H locs σ1 → lv_has ls 5 [(4, .int (nI k)), (3, .int a), (0, .ref (ad 1)), (1, .int c), (2, .int f)] → W zp l ze ({ frames := 0, cells := 0, slots := 0, locals := 0 } : Room) zs zm (([.ref (ad 1), .int c, .int f] : List Value).toArray) zb zt zc H locs 0 0 (MQ zb (va_Qi (fun (x : Int32) (u : SS) => x = (isAmong σ c f) ∧ u = (σ)) (fun u t => Pq (EC D ad ci) u t) (EC D ad ci).2.2.2) (([.ref (ad 1), .int c, .int f] : List Value).toArray) zs 0 0 (EC D ad ci).2.2.2) (F0 zm 5 ls []) := by
    intro n
    induction n with
    | zero =>
      intro k a σ1 H locs ls hk hs ha hq X L
      refine lv_iload X.1.1 X.1.2.1 d_me_isAmongSuperclasses_5 (lv_at L 0 rfl) ?_
      refine lv_bipush (v := 28) X.1.1 X.1.2.1 d_me_isAmongSuperclasses_7 rfl ?_
      refine lv_icmp_ge (tgt := 36) X.1.1 X.1.2.1 d_me_isAmongSuperclasses_9 rfl (fun h9 => ?_) (fun h9 => ?_)
      · skip
        refine lv_iload_n X.1.1 X.1.2.1 d_me_isAmongSuperclasses_36 rfl (lv_at L 1 rfl) ?_
        refine lv_iload_n X.1.1 X.1.2.1 d_me_isAmongSuperclasses_37 rfl (lv_at L 3 rfl) ?_
        refine lv_icmp_ne (tgt := 45) X.1.1 X.1.2.1 d_me_isAmongSuperclasses_38 rfl (fun h38 => ?_) (fun h38 => ?_)
        · skip
          refine lv_iconst (v := 0) X.1.1 X.1.2.1 d_me_isAmongSuperclasses_45 rfl ?_
          exact X.zret hr hlk d_me_isAmongSuperclasses_46 (by first | rfl | assumption) (by rw [isAmong, ← hq]; simp only [amongL, h38, if_true, if_false]) hs
        · skip
          refine lv_iconst (v := 1) X.1.1 X.1.2.1 d_me_isAmongSuperclasses_41 rfl ?_
          refine lv_goto (tgt := 46) X.1.1 X.1.2.1 d_me_isAmongSuperclasses_42 rfl ?_
          exact X.zret hr hlk d_me_isAmongSuperclasses_46 (by first | rfl | assumption) (by rw [isAmong, ← hq]; simp only [amongL, h38, if_true, if_false]) hs
      · skip
        exact absurd ((le28N (by omega)).mpr (by omega)) h9
    | succ n ih =>
      intro k a σ1 H locs ls hk hs ha hq X L
      refine lv_iload X.1.1 X.1.2.1 d_me_isAmongSuperclasses_5 (lv_at L 0 rfl) ?_
      refine lv_bipush (v := 28) X.1.1 X.1.2.1 d_me_isAmongSuperclasses_7 rfl ?_
      refine lv_icmp_ge (tgt := 36) X.1.1 X.1.2.1 d_me_isAmongSuperclasses_9 rfl (fun h9 => ?_) (fun h9 => ?_)
      · skip
        exact absurd ((le28N (by omega)).mp h9) (by omega)
      · skip
        refine lv_iload_n X.1.1 X.1.2.1 d_me_isAmongSuperclasses_12 rfl (lv_at L 1 rfl) ?_
        refine lv_if_eq (tgt := 36) X.1.1 X.1.2.1 d_me_isAmongSuperclasses_13 rfl (fun h13 => ?_) (fun h13 => ?_)
        · skip
          refine lv_iload_n X.1.1 X.1.2.1 d_me_isAmongSuperclasses_36 rfl (lv_at L 1 rfl) ?_
          refine lv_iload_n X.1.1 X.1.2.1 d_me_isAmongSuperclasses_37 rfl (lv_at L 3 rfl) ?_
          refine lv_icmp_ne (tgt := 45) X.1.1 X.1.2.1 d_me_isAmongSuperclasses_38 rfl (fun h38 => ?_) (fun h38 => ?_)
          · skip
            refine lv_iconst (v := 0) X.1.1 X.1.2.1 d_me_isAmongSuperclasses_45 rfl ?_
            exact X.zret hr hlk d_me_isAmongSuperclasses_46 (by first | rfl | assumption) (by first | rw [isAmong, ← hq, amongL, if_pos h13, if_neg h38] | rw [isAmong, ← hq, amongL, if_pos h13, if_pos h38] | rw [isAmong, ← hq, amongL, if_neg h13, if_pos h18, if_pos h38] | exact absurd h18 h38) hs
          · skip
            refine lv_iconst (v := 1) X.1.1 X.1.2.1 d_me_isAmongSuperclasses_41 rfl ?_
            refine lv_goto (tgt := 46) X.1.1 X.1.2.1 d_me_isAmongSuperclasses_42 rfl ?_
            exact X.zret hr hlk d_me_isAmongSuperclasses_46 (by first | rfl | assumption) (by first | rw [isAmong, ← hq, amongL, if_pos h13, if_neg h38] | rw [isAmong, ← hq, amongL, if_pos h13, if_pos h38] | rw [isAmong, ← hq, amongL, if_neg h13, if_pos h18, if_pos h38] | exact absurd h18 h38) hs
        · skip
          refine lv_iload_n X.1.1 X.1.2.1 d_me_isAmongSuperclasses_16 rfl (lv_at L 1 rfl) ?_
          refine lv_iload_n X.1.1 X.1.2.1 d_me_isAmongSuperclasses_17 rfl (lv_at L 3 rfl) ?_
          refine lv_icmp_eq (tgt := 36) X.1.1 X.1.2.1 d_me_isAmongSuperclasses_18 rfl (fun h18 => ?_) (fun h18 => ?_)
          · skip
            refine lv_iload_n X.1.1 X.1.2.1 d_me_isAmongSuperclasses_36 rfl (lv_at L 1 rfl) ?_
            refine lv_iload_n X.1.1 X.1.2.1 d_me_isAmongSuperclasses_37 rfl (lv_at L 3 rfl) ?_
            refine lv_icmp_ne (tgt := 45) X.1.1 X.1.2.1 d_me_isAmongSuperclasses_38 rfl (fun h38 => ?_) (fun h38 => ?_)
            · skip
              refine lv_iconst (v := 0) X.1.1 X.1.2.1 d_me_isAmongSuperclasses_45 rfl ?_
              exact X.zret hr hlk d_me_isAmongSuperclasses_46 (by first | rfl | assumption) (by first | rw [isAmong, ← hq, amongL, if_pos h13, if_neg h38] | rw [isAmong, ← hq, amongL, if_pos h13, if_pos h38] | rw [isAmong, ← hq, amongL, if_neg h13, if_pos h18, if_pos h38] | exact absurd h18 h38) hs
            · skip
              refine lv_iconst (v := 1) X.1.1 X.1.2.1 d_me_isAmongSuperclasses_41 rfl ?_
              refine lv_goto (tgt := 46) X.1.1 X.1.2.1 d_me_isAmongSuperclasses_42 rfl ?_
              exact X.zret hr hlk d_me_isAmongSuperclasses_46 (by first | rfl | assumption) (by first | rw [isAmong, ← hq, amongL, if_pos h13, if_neg h38] | rw [isAmong, ← hq, amongL, if_pos h13, if_pos h38] | rw [isAmong, ← hq, amongL, if_neg h13, if_pos h18, if_pos h38] | exact absurd h18 h38) hs
          · skip
            refine lv_aload_n X.1.1 X.1.2.1 d_me_isAmongSuperclasses_21 rfl (lv_at L 2 rfl) ?_
            refine g_me_fields X d_me_isAmongSuperclasses_22 ?_
            refine lv_iload_n X.1.1 X.1.2.1 d_me_isAmongSuperclasses_25 rfl (lv_at L 1 rfl) ?_
            refine X.gald ha.vp d_me_isAmongSuperclasses_26 ?_
            refine lv_iconst (v := 0) X.1.1 X.1.2.1 d_me_isAmongSuperclasses_27 rfl ?_
            refine X.rald (vp_ix ha.vp) (vpc (by decide)) d_me_isAmongSuperclasses_28 ?_
            refine lv_istore_n (lv' := [(3, .int _), (4, .int _), (0, .ref _), (1, .int _), (2, .int _)]) X.1.1 X.1.2.1 d_me_isAmongSuperclasses_29 rfl L (by decide) rfl (fun ls L => ?_)
            refine lv_iinc (k := 1) (lv' := [(4, .int (nI (k + 1))), (3, .int _), (0, .ref _), (1, .int _), (2, .int _)]) X.1.1 X.1.2.1 d_me_isAmongSuperclasses_30 L rfl (nI_inc k) (by decide) rfl (fun ls L => ?_)
            refine lv_goto (tgt := 5) X.1.1 X.1.2.1 d_me_isAmongSuperclasses_33 rfl ?_
            exact ih (k + 1) _ σ1 _ _ _ (by omega) hs ha.step (by rw [← hq, amongL, if_neg h13, if_neg h18]) X L
  exact loop5 28 0 f σ _ _ _ (by omega) rfl hf rfl X L
