set_option maxHeartbeats 4000000 in
theorem c_pr_condition {l : Launch} {D : va_G} {ad : Nat → Nat} {ci : Nat → ClassId} (hI : Inj ad) (σ : SS)   : Mi l y_pr_condition b_pr_condition 1 (some .int) ({ frames := 1, cells := 0, slots := 0, locals := 21 } : Room) (EC D ad ci) [.ref (ad 3)] σ (condition σ) (σ) := by
  refine Mi.start pn_pr (Nat.le_of_ble_eq_true rfl) (fun zp ze zs zm zb zt zc ls X hr hlk L => ?_)
  have L : lv_has ls 1 [(0, .ref (ad 3))] := L
  refine lv_aload_n X.1.1 X.1.2.1 d_pr_condition_0 rfl (lv_at L 0 rfl) ?_
  refine g_pr_memory X d_pr_condition_1 ?_
  refine lv_bipush (v := 6) X.1.1 X.1.2.1 d_pr_condition_4 rfl ?_
  refine Mi.callV (k := 1) (c_me_register hI _ _ (vpc (by decide))) X (gt_V mw_278 mw_139 mw_140 mw_2 mw_141) ok_me_register ⟨rfl, rfl, by decide, by decide⟩ (rc_me X) rfl L.1 rfl (Nat.le_of_ble_eq_true rfl) d_pr_condition_6 (fun H locs X => ?_)
  refine lv_if_ne (tgt := 14) X.1.1 X.1.2.1 d_pr_condition_9 rfl (fun h9 => ?_) (fun h9 => ?_)
  · skip
    refine lv_aload_n X.1.1 X.1.2.1 d_pr_condition_14 rfl (lv_at L 0 rfl) ?_
    refine g_pr_reason X d_pr_condition_15 ?_
    refine lv_if_ne (tgt := 25) X.1.1 X.1.2.1 d_pr_condition_18 rfl (fun h18 => ?_) (fun h18 => ?_)
    · skip
      refine lv_iconst (v := 2) X.1.1 X.1.2.1 d_pr_condition_25 rfl ?_
      exact X.iret hr hlk d_pr_condition_26 (by first | (simp only [condition, eq_false h9, eq_false h18, if_true, if_false]; done) | (simp [condition, eq_false h9, eq_false h18]; done) | (simp [condition, h9, h18]; done) | rfl) rfl
    · skip
      refine lv_iconst (v := 1) X.1.1 X.1.2.1 d_pr_condition_21 rfl ?_
      refine lv_goto (tgt := 26) X.1.1 X.1.2.1 d_pr_condition_22 rfl ?_
      exact X.iret hr hlk d_pr_condition_26 (by first | (simp only [condition, eq_false h9, eq_true h18, if_true, if_false]; done) | (simp [condition, eq_false h9, eq_true h18]; done) | (simp [condition, h9, h18]; done) | rfl) rfl
  · skip
    refine lv_iconst (v := 0) X.1.1 X.1.2.1 d_pr_condition_12 rfl ?_
    exact X.iret hr hlk d_pr_condition_13 (by first | (simp only [condition, eq_true h9, if_true, if_false]; done) | (simp [condition, eq_true h9]; done) | (simp [condition, h9]; done) | rfl) rfl
set_option maxHeartbeats 4000000 in
theorem c_pr_whyHalted {l : Launch} {D : va_G} {ad : Nat → Nat} {ci : Nat → ClassId} (hI : Inj ad) (σ : SS)   : Mi l y_pr_whyHalted b_pr_whyHalted 1 (some .int) ({ frames := 0, cells := 0, slots := 0, locals := 0 } : Room) (EC D ad ci) [.ref (ad 3)] σ (σ.1 21 0) (σ) := by
  refine Mi.start pn_pr (Nat.le_of_ble_eq_true rfl) (fun zp ze zs zm zb zt zc ls X hr hlk L => ?_)
  have L : lv_has ls 1 [(0, .ref (ad 3))] := L
  refine lv_aload_n X.1.1 X.1.2.1 d_pr_whyHalted_0 rfl (lv_at L 0 rfl) ?_
  refine g_pr_reason X d_pr_whyHalted_1 ?_
  exact X.iret hr hlk d_pr_whyHalted_4 rfl rfl
set_option maxHeartbeats 4000000 in
theorem c_pr_stop {l : Launch} {D : va_G} {ad : Nat → Nat} {ci : Nat → ClassId} (hI : Inj ad) (σ : SS)  (hg : RG σ) : Mv l y_pr_stop b_pr_stop 1 ({ frames := 4, cells := 0, slots := 0, locals := 87 } : Room) (EC D ad ci) [.ref (ad 3)] σ (stop σ) := by
  refine Mv.start pn_pr (Nat.le_of_ble_eq_true rfl) (fun zp ze zs zm zb zt zc ls X hr hlk L => ?_)
  have L : lv_has ls 1 [(0, .ref (ad 3))] := L
  refine lv_aload_n X.1.1 X.1.2.1 d_pr_stop_0 rfl (lv_at L 0 rfl) ?_
  refine lv_iconst (v := 0) X.1.1 X.1.2.1 d_pr_stop_1 rfl ?_
  refine p_pr_reason hI X d_pr_stop_2 (fun H locs X => ?_)
  refine lv_aload_n X.1.1 X.1.2.1 d_pr_stop_5 rfl (lv_at L 0 rfl) ?_
  refine g_pr_memory X d_pr_stop_6 ?_
  refine lv_bipush (v := 6) X.1.1 X.1.2.1 d_pr_stop_9 rfl ?_
  refine lv_iconst (v := 0) X.1.1 X.1.2.1 d_pr_stop_11 rfl ?_
  refine Mv.callV (k := 2) (c_me_setRegister hI _ _ _ (vpc (by decide)) (RG_A hg (by decide) _ _) (by decide)) X (gt_V mw_301 mw_174 mw_175 mw_2 mw_176) ok_me_setRegister ⟨rfl, rfl, by decide, by decide⟩ (rc_me X) rfl L.1 rfl (Nat.le_of_ble_eq_true rfl) d_pr_stop_12 (fun H locs X => ?_)
  refine lv_aload_n X.1.1 X.1.2.1 d_pr_stop_15 rfl (lv_at L 0 rfl) ?_
  refine g_pr_memory X d_pr_stop_16 ?_
  refine Mv.callV (k := 0) (c_me_settle hI _ (RG_setRegister (RG_A hg (by decide) _ _) _ (by decide))) X (gt_V mw_302 mw_178 mw_179 mw_2 mw_180) ok_me_settle ⟨rfl, rfl, by decide, by decide⟩ (rc_me X) rfl L.1 rfl (Nat.le_of_ble_eq_true rfl) d_pr_stop_19 (fun H locs X => ?_)
  exact X.vret hr hlk d_pr_stop_22 (by first | with_reducible rfl | (simp only [stop]; done) | rfl)
set_option maxHeartbeats 4000000 in
theorem c_pr_find {l : Launch} {D : va_G} {ad : Nat → Nat} {ci : Nat → ClassId} (hI : Inj ad) (σ : SS) (c t : Int32) (hs : Sup σ c) (h_t : vp_in t 8) (hz : BZ σ) : Mi l y_pr_find b_pr_find 5 (some .int) ({ frames := 2, cells := 0, slots := 0, locals := 43 } : Room) (EC D ad ci) [.ref (ad 3), .int c, .int t] σ (find σ c t) (σ) := by
  refine Mi.start pn_pr (Nat.le_of_ble_eq_true rfl) (fun zp ze zs zm zb zt zc ls X hr hlk L => ?_)
  have L : lv_has ls 5 [(0, .ref (ad 3)), (1, .int c), (2, .int t)] := L
  refine lv_iload_n X.1.1 X.1.2.1 d_pr_find_0 rfl (lv_at L 1 rfl) ?_
  refine lv_istore_n (lv' := [(3, .int _), (0, .ref _), (1, .int _), (2, .int _)]) X.1.1 X.1.2.1 d_pr_find_1 rfl L (by decide) rfl (fun ls L => ?_)
  refine lv_iconst (v := 0) X.1.1 X.1.2.1 d_pr_find_2 rfl ?_
  refine lv_istore (lv' := [(4, .int _), (3, .int _), (0, .ref _), (1, .int _), (2, .int _)]) X.1.1 X.1.2.1 d_pr_find_3 L (by decide) rfl (fun ls L => ?_)
  have loop5 : ∀ (n : Nat) (k : Nat) (a : Int32) (σ1 : SS) (H : Heap) (locs : List Loc) (ls : Array Slot), (k + n = 28) → (σ1 = σ) → (Sup σ1 a) → (BZ σ1) → (findL n σ1 t a = find σ c t) → Cx (EC D ad ci) zp zs zm (([.ref (ad 3), .int c, .int t] : List Value).toArray) zc b_pr_find 5 "MessageMachine$Processor" H locs σ1 → lv_has ls 5 [(4, .int (nI k)), (3, .int a), (0, .ref (ad 3)), (1, .int c), (2, .int t)] → W zp l ze ({ frames := 2, cells := 0, slots := 0, locals := 43 } : Room) zs zm (([.ref (ad 3), .int c, .int t] : List Value).toArray) zb zt zc H locs 0 0 (MQ zb (va_Qi (fun (x : Int32) (u : SS) => x = (find σ c t) ∧ u = (σ)) (fun u t => Pq (EC D ad ci) u t) (EC D ad ci).2.2.2) (([.ref (ad 3), .int c, .int t] : List Value).toArray) zs 0 0 (EC D ad ci).2.2.2) (F0 zm 5 ls []) := by
    intro n
    induction n with
    | zero =>
      intro k a σ1 H locs ls hk hs1 ha hz1 hq X L
      refine lv_iload X.1.1 X.1.2.1 d_pr_find_5 (lv_at L 0 rfl) ?_
      refine lv_bipush (v := 28) X.1.1 X.1.2.1 d_pr_find_7 rfl ?_
      refine lv_icmp_ge (tgt := 44) X.1.1 X.1.2.1 d_pr_find_9 rfl (fun h9 => ?_) (fun h9 => ?_)
      · skip
        refine lv_iload_n X.1.1 X.1.2.1 d_pr_find_44 rfl (lv_at L 1 rfl) ?_
        exact X.iret hr hlk d_pr_find_45 hq hs1
      · skip
        exact absurd ((le28N (by omega)).mpr (by omega)) h9
    | succ n ih =>
      intro k a σ1 H locs ls hk hs1 ha hz1 hq X L
      refine lv_iload X.1.1 X.1.2.1 d_pr_find_5 (lv_at L 0 rfl) ?_
      refine lv_bipush (v := 28) X.1.1 X.1.2.1 d_pr_find_7 rfl ?_
      refine lv_icmp_ge (tgt := 44) X.1.1 X.1.2.1 d_pr_find_9 rfl (fun h9 => ?_) (fun h9 => ?_)
      · skip
        exact absurd ((le28N (by omega)).mp h9) (by omega)
      · skip
        refine lv_iload_n X.1.1 X.1.2.1 d_pr_find_12 rfl (lv_at L 1 rfl) ?_
        refine lv_if_eq (tgt := 44) X.1.1 X.1.2.1 d_pr_find_13 rfl (fun h13 => ?_) (fun h13 => ?_)
        · skip
          refine lv_iload_n X.1.1 X.1.2.1 d_pr_find_44 rfl (lv_at L 1 rfl) ?_
          exact X.iret hr hlk d_pr_find_45 (by first | rw [← hq, findL, if_pos h13] | rw [← hq, findL, if_neg h13, if_neg h25]) hs1
        · skip
          refine lv_aload_n X.1.1 X.1.2.1 d_pr_find_16 rfl (lv_at L 2 rfl) ?_
          refine g_pr_methods X d_pr_find_17 ?_
          refine lv_iload_n X.1.1 X.1.2.1 d_pr_find_20 rfl (lv_at L 1 rfl) ?_
          refine lv_iload_n X.1.1 X.1.2.1 d_pr_find_21 rfl (lv_at L 4 rfl) ?_
          refine Mi.callV (k := 2) (c_mt_has hI _ _ _ (slot_in ha.vp h_t) (hz1.nar ha.vp h_t)) X (gt_V mw_288 mw_289 mw_290 mw_3 mw_291) ok_mt_has ⟨rfl, rfl, by decide, by decide⟩ (rc_mt X) rfl L.1 rfl (Nat.le_of_ble_eq_true rfl) d_pr_find_22 (fun H locs X => ?_)
          refine lv_if_ne (tgt := 44) X.1.1 X.1.2.1 d_pr_find_25 rfl (fun h25 => ?_) (fun h25 => ?_)
          · skip
            refine lv_iload_n X.1.1 X.1.2.1 d_pr_find_44 rfl (lv_at L 1 rfl) ?_
            exact X.iret hr hlk d_pr_find_45 (by first | rw [← hq, findL, if_pos h13] | rw [← hq, findL, if_neg h13, if_neg h25]) hs1
          · skip
            refine lv_aload_n X.1.1 X.1.2.1 d_pr_find_28 rfl (lv_at L 2 rfl) ?_
            refine g_pr_memory X d_pr_find_29 ?_
            refine lv_iload_n X.1.1 X.1.2.1 d_pr_find_32 rfl (lv_at L 1 rfl) ?_
            refine lv_iconst (v := 0) X.1.1 X.1.2.1 d_pr_find_33 rfl ?_
            refine Mi.callV (k := 2) (c_me_fieldOf hI _ _ _ ha.vp (vpc (by decide))) X (gt_V mw_292 mw_234 mw_235 mw_2 mw_236) ok_me_fieldOf ⟨rfl, rfl, by decide, by decide⟩ (rc_me X) rfl L.1 rfl (Nat.le_of_ble_eq_true rfl) d_pr_find_34 (fun H locs X => ?_)
            refine lv_istore_n (lv' := [(3, .int _), (4, .int _), (0, .ref _), (1, .int _), (2, .int _)]) X.1.1 X.1.2.1 d_pr_find_37 rfl L (by decide) rfl (fun ls L => ?_)
            refine lv_iinc (k := 1) (lv' := [(4, .int (nI (k + 1))), (3, .int _), (0, .ref _), (1, .int _), (2, .int _)]) X.1.1 X.1.2.1 d_pr_find_38 L rfl (nI_inc k) (by decide) rfl (fun ls L => ?_)
            refine lv_goto (tgt := 5) X.1.1 X.1.2.1 d_pr_find_41 rfl ?_
            exact ih (k + 1) _ σ1 _ _ _ (by omega) hs1 ha.step hz1 (by rw [← hq, findL, if_neg h13, if_pos h25]) X L
  exact loop5 28 0 c σ _ _ _ (by omega) rfl hs hz rfl X L
set_option maxHeartbeats 4000000 in
theorem c_pr_placeOf {l : Launch} {D : va_G} {ad : Nat → Nat} {ci : Nat → ClassId} (hI : Inj ad) (σ : SS) (c : Int32) (h_c : vp_in c 28) : Mi l y_pr_placeOf b_pr_placeOf 2 (some .int) ({ frames := 1, cells := 0, slots := 0, locals := 22 } : Room) (EC D ad ci) [.ref (ad 3), .int c] σ (placeOf σ c) (σ) := by
  refine Mi.start pn_pr (Nat.le_of_ble_eq_true rfl) (fun zp ze zs zm zb zt zc ls X hr hlk L => ?_)
  have L : lv_has ls 2 [(0, .ref (ad 3)), (1, .int c)] := L
  refine lv_aload_n X.1.1 X.1.2.1 d_pr_placeOf_0 rfl (lv_at L 0 rfl) ?_
  refine g_pr_memory X d_pr_placeOf_1 ?_
  refine lv_iload_n X.1.1 X.1.2.1 d_pr_placeOf_4 rfl (lv_at L 1 rfl) ?_
  refine lv_iconst (v := 4) X.1.1 X.1.2.1 d_pr_placeOf_5 rfl ?_
  refine Mi.callV (k := 2) (c_me_fieldOf hI _ _ _ h_c (vpc (by decide))) X (gt_V mw_292 mw_234 mw_235 mw_2 mw_236) ok_me_fieldOf ⟨rfl, rfl, by decide, by decide⟩ (rc_me X) rfl L.1 rfl (Nat.le_of_ble_eq_true rfl) d_pr_placeOf_6 (fun H locs X => ?_)
  refine lv_sipush (v := 1000) X.1.1 X.1.2.1 d_pr_placeOf_9 rfl ?_
  refine lv_isub X.1.1 X.1.2.1 d_pr_placeOf_12 ?_
  exact X.iret hr hlk d_pr_placeOf_13 (by first | (simp only [placeOf, if_true, if_false]; done) | (simp [placeOf]; done) | (simp [placeOf]; done) | rfl) rfl
set_option maxHeartbeats 4000000 in
theorem c_pr_setPlace {l : Launch} {D : va_G} {ad : Nat → Nat} {ci : Nat → ClassId} (hI : Inj ad) (σ : SS) (c q : Int32) (h_c : vp_in c 28) (hg : RG σ) (n_q : 0 ≤ (1000 + q).toInt) : Mv l y_pr_setPlace b_pr_setPlace 3 ({ frames := 2, cells := 0, slots := 0, locals := 44 } : Room) (EC D ad ci) [.ref (ad 3), .int c, .int q] σ (setPlace σ c q) := by
  refine Mv.start pn_pr (Nat.le_of_ble_eq_true rfl) (fun zp ze zs zm zb zt zc ls X hr hlk L => ?_)
  have L : lv_has ls 3 [(0, .ref (ad 3)), (1, .int c), (2, .int q)] := L
  refine lv_aload_n X.1.1 X.1.2.1 d_pr_setPlace_0 rfl (lv_at L 0 rfl) ?_
  refine g_pr_memory X d_pr_setPlace_1 ?_
  refine lv_iload_n X.1.1 X.1.2.1 d_pr_setPlace_4 rfl (lv_at L 1 rfl) ?_
  refine lv_iconst (v := 4) X.1.1 X.1.2.1 d_pr_setPlace_5 rfl ?_
  refine lv_sipush (v := 1000) X.1.1 X.1.2.1 d_pr_setPlace_6 rfl ?_
  refine lv_iload_n X.1.1 X.1.2.1 d_pr_setPlace_9 rfl (lv_at L 2 rfl) ?_
  refine lv_iadd X.1.1 X.1.2.1 d_pr_setPlace_10 ?_
  refine Mv.callV (k := 3) (c_me_setField hI _ _ _ _ h_c (vpc (by decide)) hg n_q) X (gt_V mw_300 mw_35 mw_36 mw_2 mw_37) ok_me_setField ⟨rfl, rfl, by decide, by decide⟩ (rc_me X) rfl L.1 rfl (Nat.le_of_ble_eq_true rfl) d_pr_setPlace_11 (fun H locs X => ?_)
  exact X.vret hr hlk d_pr_setPlace_14 (by first | with_reducible rfl | (simp only [setPlace]; done) | rfl)
set_option maxHeartbeats 4000000 in
theorem c_pr_halt {l : Launch} {D : va_G} {ad : Nat → Nat} {ci : Nat → ClassId} (hI : Inj ad) (σ : SS) (f : Int32)  : Mi l y_pr_halt b_pr_halt 2 (some .boolean) ({ frames := 0, cells := 0, slots := 0, locals := 0 } : Room) (EC D ad ci) [.ref (ad 3), .int f] σ (0) (halt σ f) := by
  refine Mi.start pn_pr (Nat.le_of_ble_eq_true rfl) (fun zp ze zs zm zb zt zc ls X hr hlk L => ?_)
  have L : lv_has ls 2 [(0, .ref (ad 3)), (1, .int f)] := L
  refine lv_aload_n X.1.1 X.1.2.1 d_pr_halt_0 rfl (lv_at L 0 rfl) ?_
  refine lv_iload_n X.1.1 X.1.2.1 d_pr_halt_1 rfl (lv_at L 1 rfl) ?_
  refine p_pr_reason hI X d_pr_halt_2 (fun H locs X => ?_)
  refine lv_iconst (v := 0) X.1.1 X.1.2.1 d_pr_halt_5 rfl ?_
  exact X.zret hr hlk d_pr_halt_6 (by first | rfl | assumption) rfl rfl
set_option maxHeartbeats 4000000 in
theorem c_pr_codeAt {l : Launch} {D : va_G} {ad : Nat → Nat} {ci : Nat → ClassId} (hI : Inj ad) (σ : SS) (c q : Int32) (h_c : vp_in c 28) (h_f : vp_in (σ.2.1 (ix c) (ix 2)) 28) (h_s : vp_in (σ.2.1 (ix c) (ix 3) - 1000) 8) : Mi l y_pr_codeAt b_pr_codeAt 4 (some .int) ({ frames := 2, cells := 0, slots := 0, locals := 47 } : Room) (EC D ad ci) [.ref (ad 3), .int c, .int q] σ (codeAt σ c q) (σ) := by
  refine Mi.start pn_pr (Nat.le_of_ble_eq_true rfl) (fun zp ze zs zm zb zt zc ls X hr hlk L => ?_)
  have L : lv_has ls 4 [(0, .ref (ad 3)), (1, .int c), (2, .int q)] := L
  refine lv_aload_n X.1.1 X.1.2.1 d_pr_codeAt_0 rfl (lv_at L 0 rfl) ?_
  refine g_pr_memory X d_pr_codeAt_1 ?_
  refine lv_iload_n X.1.1 X.1.2.1 d_pr_codeAt_4 rfl (lv_at L 1 rfl) ?_
  refine lv_iconst (v := 3) X.1.1 X.1.2.1 d_pr_codeAt_5 rfl ?_
  refine Mi.callV (k := 2) (c_me_fieldOf hI _ _ _ h_c (vpc (by decide))) X (gt_V mw_292 mw_234 mw_235 mw_2 mw_236) ok_me_fieldOf ⟨rfl, rfl, by decide, by decide⟩ (rc_me X) rfl L.1 rfl (Nat.le_of_ble_eq_true rfl) d_pr_codeAt_6 (fun H locs X => ?_)
  refine lv_sipush (v := 1000) X.1.1 X.1.2.1 d_pr_codeAt_9 rfl ?_
  refine lv_isub X.1.1 X.1.2.1 d_pr_codeAt_12 ?_
  refine lv_istore_n (lv' := [(3, .int _), (0, .ref _), (1, .int _), (2, .int _)]) X.1.1 X.1.2.1 d_pr_codeAt_13 rfl L (by decide) rfl (fun ls L => ?_)
  refine lv_aload_n X.1.1 X.1.2.1 d_pr_codeAt_14 rfl (lv_at L 1 rfl) ?_
  refine g_pr_methods X d_pr_codeAt_15 ?_
  refine lv_aload_n X.1.1 X.1.2.1 d_pr_codeAt_18 rfl (lv_at L 1 rfl) ?_
  refine g_pr_memory X d_pr_codeAt_19 ?_
  refine lv_iload_n X.1.1 X.1.2.1 d_pr_codeAt_22 rfl (lv_at L 2 rfl) ?_
  refine lv_iconst (v := 2) X.1.1 X.1.2.1 d_pr_codeAt_23 rfl ?_
  refine Mi.callV (k := 2) (c_me_fieldOf hI _ _ _ h_c (vpc (by decide))) X (gt_V mw_292 mw_234 mw_235 mw_2 mw_236) ok_me_fieldOf ⟨rfl, rfl, by decide, by decide⟩ (rc_me X) rfl L.1 rfl (Nat.le_of_ble_eq_true rfl) d_pr_codeAt_24 (fun H locs X => ?_)
  refine lv_iload_n X.1.1 X.1.2.1 d_pr_codeAt_27 rfl (lv_at L 0 rfl) ?_
  refine lv_iload_n X.1.1 X.1.2.1 d_pr_codeAt_28 rfl (lv_at L 3 rfl) ?_
  refine Mi.callV (k := 3) (c_mt_byteAt hI _ _ _ _ (slot_in h_f h_s)) X (gt_V mw_323 mw_324 mw_325 mw_3 mw_326) ok_mt_byteAt ⟨rfl, rfl, by decide, by decide⟩ (rc_mt X) rfl L.1 rfl (Nat.le_of_ble_eq_true rfl) d_pr_codeAt_29 (fun H locs X => ?_)
  exact X.iret hr hlk d_pr_codeAt_32 (by first | (simp only [codeAt, if_true, if_false]; done) | (simp [codeAt]; done) | (simp [codeAt]; done) | rfl) rfl
set_option maxHeartbeats 4000000 in
theorem c_pr_wordsUsed {l : Launch} {D : va_G} {ad : Nat → Nat} {ci : Nat → ClassId} (hI : Inj ad) (σ : SS) (q a : Int32)  : Mi l y_pr_wordsUsed b_pr_wordsUsed 2 (some .int) ({ frames := 1, cells := 0, slots := 0, locals := 20 } : Room) (EC D ad ci) [.int q, .int a] σ (wordsUsed q a) (σ) := by
  refine Mi.start pn_pr (Nat.le_of_ble_eq_true rfl) (fun zp ze zs zm zb zt zc ls X hr hlk L => ?_)
  have L : lv_has ls 2 [(0, .int q), (1, .int a)] := L
  refine lv_iload_n X.1.1 X.1.2.1 d_pr_wordsUsed_0 rfl (lv_at L 0 rfl) ?_
  by_cases q1_3 : q = 3
  · refine lv_tableIn (tgt := 60) X.1.1 X.1.2.1 d_pr_wordsUsed_1 (by rw [q1_3]; decide) (by rw [q1_3]; decide) (by rw [q1_3]; rfl) rfl ?_
    refine lv_iconst (v := 1) X.1.1 X.1.2.1 d_pr_wordsUsed_60 rfl ?_
    exact X.iret hr hlk d_pr_wordsUsed_61 (by first | (simp only [wordsUsed, eq_true q1_3, if_true, if_false]; done) | (simp [wordsUsed, eq_true q1_3]; done) | (simp [wordsUsed, q1_3]; done) | rfl) rfl
  by_cases q1_4 : q = 4
  · refine lv_tableIn (tgt := 60) X.1.1 X.1.2.1 d_pr_wordsUsed_1 (by rw [q1_4]; decide) (by rw [q1_4]; decide) (by rw [q1_4]; rfl) rfl ?_
    refine lv_iconst (v := 1) X.1.1 X.1.2.1 d_pr_wordsUsed_60 rfl ?_
    exact X.iret hr hlk d_pr_wordsUsed_61 (by first | (simp only [wordsUsed, eq_false q1_3, eq_true q1_4, if_true, if_false]; done) | (simp [wordsUsed, eq_false q1_3, eq_true q1_4]; done) | (simp [wordsUsed, q1_3, q1_4]; done) | rfl) rfl
  by_cases q1_5 : q = 5
  · refine lv_tableIn (tgt := 62) X.1.1 X.1.2.1 d_pr_wordsUsed_1 (by rw [q1_5]; decide) (by rw [q1_5]; decide) (by rw [q1_5]; rfl) rfl ?_
    refine lv_iload_n X.1.1 X.1.2.1 d_pr_wordsUsed_62 rfl (lv_at L 1 rfl) ?_
    refine Mi.callN (k := 1) (c_mm_argumentsOf hI _ _) X X.2.2.1.2.1 mw_298 mw_1 mw_299 ok_mm_argumentsOf ⟨rfl, rfl, by decide, by decide⟩ rfl L.1 rfl (Nat.le_of_ble_eq_true rfl) d_pr_wordsUsed_63 (fun H locs X => ?_)
    refine lv_iconst (v := 1) X.1.1 X.1.2.1 d_pr_wordsUsed_66 rfl ?_
    refine lv_iadd X.1.1 X.1.2.1 d_pr_wordsUsed_67 ?_
    exact X.iret hr hlk d_pr_wordsUsed_68 (by first | (simp only [wordsUsed, eq_false q1_3, eq_false q1_4, eq_true q1_5, if_true, if_false]; done) | (simp [wordsUsed, eq_false q1_3, eq_false q1_4, eq_true q1_5]; done) | (simp [wordsUsed, q1_3, q1_4, q1_5]; done) | rfl) rfl
  by_cases q1_6 : q = 6
  · refine lv_tableIn (tgt := 62) X.1.1 X.1.2.1 d_pr_wordsUsed_1 (by rw [q1_6]; decide) (by rw [q1_6]; decide) (by rw [q1_6]; rfl) rfl ?_
    refine lv_iload_n X.1.1 X.1.2.1 d_pr_wordsUsed_62 rfl (lv_at L 1 rfl) ?_
    refine Mi.callN (k := 1) (c_mm_argumentsOf hI _ _) X X.2.2.1.2.1 mw_298 mw_1 mw_299 ok_mm_argumentsOf ⟨rfl, rfl, by decide, by decide⟩ rfl L.1 rfl (Nat.le_of_ble_eq_true rfl) d_pr_wordsUsed_63 (fun H locs X => ?_)
    refine lv_iconst (v := 1) X.1.1 X.1.2.1 d_pr_wordsUsed_66 rfl ?_
    refine lv_iadd X.1.1 X.1.2.1 d_pr_wordsUsed_67 ?_
    exact X.iret hr hlk d_pr_wordsUsed_68 (by first | (simp only [wordsUsed, eq_false q1_3, eq_false q1_4, eq_false q1_5, eq_true q1_6, if_true, if_false]; done) | (simp [wordsUsed, eq_false q1_3, eq_false q1_4, eq_false q1_5, eq_true q1_6]; done) | (simp [wordsUsed, q1_3, q1_4, q1_5, q1_6]; done) | rfl) rfl
  by_cases q1_7 : q = 7
  · refine lv_tableIn (tgt := 69) X.1.1 X.1.2.1 d_pr_wordsUsed_1 (by rw [q1_7]; decide) (by rw [q1_7]; decide) (by rw [q1_7]; rfl) rfl ?_
    refine lv_iconst (v := 2) X.1.1 X.1.2.1 d_pr_wordsUsed_69 rfl ?_
    exact X.iret hr hlk d_pr_wordsUsed_70 (by first | (simp only [wordsUsed, eq_false q1_3, eq_false q1_4, eq_false q1_5, eq_false q1_6, eq_true q1_7, if_true, if_false]; done) | (simp [wordsUsed, eq_false q1_3, eq_false q1_4, eq_false q1_5, eq_false q1_6, eq_true q1_7]; done) | (simp [wordsUsed, q1_3, q1_4, q1_5, q1_6, q1_7]; done) | rfl) rfl
  by_cases q1_8 : q = 8
  · refine lv_tableIn (tgt := 92) X.1.1 X.1.2.1 d_pr_wordsUsed_1 (by rw [q1_8]; decide) (by rw [q1_8]; decide) (by rw [q1_8]; rfl) rfl ?_
    refine lv_iconst (v := 0) X.1.1 X.1.2.1 d_pr_wordsUsed_92 rfl ?_
    exact X.iret hr hlk d_pr_wordsUsed_93 (by first | (simp only [wordsUsed, eq_false q1_3, eq_false q1_4, eq_false q1_5, eq_false q1_6, eq_false q1_7, eq_true q1_8, if_true, if_false]; done) | (simp [wordsUsed, eq_false q1_3, eq_false q1_4, eq_false q1_5, eq_false q1_6, eq_false q1_7, eq_true q1_8]; done) | (simp [wordsUsed, q1_3, q1_4, q1_5, q1_6, q1_7, q1_8]; done) | rfl) rfl
  by_cases q1_9 : q = 9
  · refine lv_tableIn (tgt := 60) X.1.1 X.1.2.1 d_pr_wordsUsed_1 (by rw [q1_9]; decide) (by rw [q1_9]; decide) (by rw [q1_9]; rfl) rfl ?_
    refine lv_iconst (v := 1) X.1.1 X.1.2.1 d_pr_wordsUsed_60 rfl ?_
    exact X.iret hr hlk d_pr_wordsUsed_61 (by first | (simp only [wordsUsed, eq_false q1_3, eq_false q1_4, eq_false q1_5, eq_false q1_6, eq_false q1_7, eq_false q1_8, eq_true q1_9, if_true, if_false]; done) | (simp [wordsUsed, eq_false q1_3, eq_false q1_4, eq_false q1_5, eq_false q1_6, eq_false q1_7, eq_false q1_8, eq_true q1_9]; done) | (simp [wordsUsed, q1_3, q1_4, q1_5, q1_6, q1_7, q1_8, q1_9]; done) | rfl) rfl
  by_cases q1_10 : q = 10
  · refine lv_tableIn (tgt := 92) X.1.1 X.1.2.1 d_pr_wordsUsed_1 (by rw [q1_10]; decide) (by rw [q1_10]; decide) (by rw [q1_10]; rfl) rfl ?_
    refine lv_iconst (v := 0) X.1.1 X.1.2.1 d_pr_wordsUsed_92 rfl ?_
    exact X.iret hr hlk d_pr_wordsUsed_93 (by first | (simp only [wordsUsed, eq_false q1_3, eq_false q1_4, eq_false q1_5, eq_false q1_6, eq_false q1_7, eq_false q1_8, eq_false q1_9, eq_true q1_10, if_true, if_false]; done) | (simp [wordsUsed, eq_false q1_3, eq_false q1_4, eq_false q1_5, eq_false q1_6, eq_false q1_7, eq_false q1_8, eq_false q1_9, eq_true q1_10]; done) | (simp [wordsUsed, q1_3, q1_4, q1_5, q1_6, q1_7, q1_8, q1_9, q1_10]; done) | rfl) rfl
  by_cases q1_11 : q = 11
  · refine lv_tableIn (tgt := 71) X.1.1 X.1.2.1 d_pr_wordsUsed_1 (by rw [q1_11]; decide) (by rw [q1_11]; decide) (by rw [q1_11]; rfl) rfl ?_
    refine lv_iload_n X.1.1 X.1.2.1 d_pr_wordsUsed_71 rfl (lv_at L 1 rfl) ?_
    refine lv_if_ne (tgt := 79) X.1.1 X.1.2.1 d_pr_wordsUsed_72 rfl (fun h72 => ?_) (fun h72 => ?_)
    · skip
      refine lv_iconst (v := 0) X.1.1 X.1.2.1 d_pr_wordsUsed_79 rfl ?_
      exact X.iret hr hlk d_pr_wordsUsed_80 (by first | (simp only [wordsUsed, eq_false q1_3, eq_false q1_4, eq_false q1_5, eq_false q1_6, eq_false q1_7, eq_false q1_8, eq_false q1_9, eq_false q1_10, eq_true q1_11, eq_false h72, if_true, if_false]; done) | (simp [wordsUsed, eq_false q1_3, eq_false q1_4, eq_false q1_5, eq_false q1_6, eq_false q1_7, eq_false q1_8, eq_false q1_9, eq_false q1_10, eq_true q1_11, eq_false h72]; done) | (simp [wordsUsed, q1_3, q1_4, q1_5, q1_6, q1_7, q1_8, q1_9, q1_10, q1_11, h72]; done) | rfl) rfl
    · skip
      refine lv_iconst (v := 1) X.1.1 X.1.2.1 d_pr_wordsUsed_75 rfl ?_
      refine lv_goto (tgt := 80) X.1.1 X.1.2.1 d_pr_wordsUsed_76 rfl ?_
      exact X.iret hr hlk d_pr_wordsUsed_80 (by first | (simp only [wordsUsed, eq_false q1_3, eq_false q1_4, eq_false q1_5, eq_false q1_6, eq_false q1_7, eq_false q1_8, eq_false q1_9, eq_false q1_10, eq_true q1_11, eq_true h72, if_true, if_false]; done) | (simp [wordsUsed, eq_false q1_3, eq_false q1_4, eq_false q1_5, eq_false q1_6, eq_false q1_7, eq_false q1_8, eq_false q1_9, eq_false q1_10, eq_true q1_11, eq_true h72]; done) | (simp [wordsUsed, q1_3, q1_4, q1_5, q1_6, q1_7, q1_8, q1_9, q1_10, q1_11, h72]; done) | rfl) rfl
  by_cases q1_12 : q = 12
  · refine lv_tableIn (tgt := 71) X.1.1 X.1.2.1 d_pr_wordsUsed_1 (by rw [q1_12]; decide) (by rw [q1_12]; decide) (by rw [q1_12]; rfl) rfl ?_
    refine lv_iload_n X.1.1 X.1.2.1 d_pr_wordsUsed_71 rfl (lv_at L 1 rfl) ?_
    refine lv_if_ne (tgt := 79) X.1.1 X.1.2.1 d_pr_wordsUsed_72 rfl (fun h72 => ?_) (fun h72 => ?_)
    · skip
      refine lv_iconst (v := 0) X.1.1 X.1.2.1 d_pr_wordsUsed_79 rfl ?_
      exact X.iret hr hlk d_pr_wordsUsed_80 (by first | (simp only [wordsUsed, eq_false q1_3, eq_false q1_4, eq_false q1_5, eq_false q1_6, eq_false q1_7, eq_false q1_8, eq_false q1_9, eq_false q1_10, eq_false q1_11, eq_true q1_12, eq_false h72, if_true, if_false]; done) | (simp [wordsUsed, eq_false q1_3, eq_false q1_4, eq_false q1_5, eq_false q1_6, eq_false q1_7, eq_false q1_8, eq_false q1_9, eq_false q1_10, eq_false q1_11, eq_true q1_12, eq_false h72]; done) | (simp [wordsUsed, q1_3, q1_4, q1_5, q1_6, q1_7, q1_8, q1_9, q1_10, q1_11, q1_12, h72]; done) | rfl) rfl
    · skip
      refine lv_iconst (v := 1) X.1.1 X.1.2.1 d_pr_wordsUsed_75 rfl ?_
      refine lv_goto (tgt := 80) X.1.1 X.1.2.1 d_pr_wordsUsed_76 rfl ?_
      exact X.iret hr hlk d_pr_wordsUsed_80 (by first | (simp only [wordsUsed, eq_false q1_3, eq_false q1_4, eq_false q1_5, eq_false q1_6, eq_false q1_7, eq_false q1_8, eq_false q1_9, eq_false q1_10, eq_false q1_11, eq_true q1_12, eq_true h72, if_true, if_false]; done) | (simp [wordsUsed, eq_false q1_3, eq_false q1_4, eq_false q1_5, eq_false q1_6, eq_false q1_7, eq_false q1_8, eq_false q1_9, eq_false q1_10, eq_false q1_11, eq_true q1_12, eq_true h72]; done) | (simp [wordsUsed, q1_3, q1_4, q1_5, q1_6, q1_7, q1_8, q1_9, q1_10, q1_11, q1_12, h72]; done) | rfl) rfl
  by_cases q1_13 : q = 13
  · refine lv_tableIn (tgt := 81) X.1.1 X.1.2.1 d_pr_wordsUsed_1 (by rw [q1_13]; decide) (by rw [q1_13]; decide) (by rw [q1_13]; rfl) rfl ?_
    refine lv_iload_n X.1.1 X.1.2.1 d_pr_wordsUsed_81 rfl (lv_at L 1 rfl) ?_
    refine lv_iconst (v := 1) X.1.1 X.1.2.1 d_pr_wordsUsed_82 rfl ?_
    refine lv_icmp_gt (tgt := 90) X.1.1 X.1.2.1 d_pr_wordsUsed_83 rfl (fun h83 => ?_) (fun h83 => ?_)
    · skip
      refine lv_iconst (v := 0) X.1.1 X.1.2.1 d_pr_wordsUsed_90 rfl ?_
      exact X.iret hr hlk d_pr_wordsUsed_91 (by first | (simp only [wordsUsed, eq_false q1_3, eq_false q1_4, eq_false q1_5, eq_false q1_6, eq_false q1_7, eq_false q1_8, eq_false q1_9, eq_false q1_10, eq_false q1_11, eq_false q1_12, eq_true q1_13, eq_true h83, if_true, if_false]; done) | (simp [wordsUsed, eq_false q1_3, eq_false q1_4, eq_false q1_5, eq_false q1_6, eq_false q1_7, eq_false q1_8, eq_false q1_9, eq_false q1_10, eq_false q1_11, eq_false q1_12, eq_true q1_13, eq_true h83]; done) | (simp [wordsUsed, q1_3, q1_4, q1_5, q1_6, q1_7, q1_8, q1_9, q1_10, q1_11, q1_12, q1_13, h83]; done) | rfl) rfl
    · skip
      refine lv_iconst (v := 1) X.1.1 X.1.2.1 d_pr_wordsUsed_86 rfl ?_
      refine lv_goto (tgt := 91) X.1.1 X.1.2.1 d_pr_wordsUsed_87 rfl ?_
      exact X.iret hr hlk d_pr_wordsUsed_91 (by first | (simp only [wordsUsed, eq_false q1_3, eq_false q1_4, eq_false q1_5, eq_false q1_6, eq_false q1_7, eq_false q1_8, eq_false q1_9, eq_false q1_10, eq_false q1_11, eq_false q1_12, eq_true q1_13, eq_false h83, if_true, if_false]; done) | (simp [wordsUsed, eq_false q1_3, eq_false q1_4, eq_false q1_5, eq_false q1_6, eq_false q1_7, eq_false q1_8, eq_false q1_9, eq_false q1_10, eq_false q1_11, eq_false q1_12, eq_true q1_13, eq_false h83]; done) | (simp [wordsUsed, q1_3, q1_4, q1_5, q1_6, q1_7, q1_8, q1_9, q1_10, q1_11, q1_12, q1_13, h83]; done) | rfl) rfl
  refine lv_tableOut (tgt := 92) X.1.1 X.1.2.1 d_pr_wordsUsed_1 (by have := lv_neT q1_3 (show (3 : Int32).toInt = 3 from rfl); have := lv_neT q1_4 (show (4 : Int32).toInt = 4 from rfl); have := lv_neT q1_5 (show (5 : Int32).toInt = 5 from rfl); have := lv_neT q1_6 (show (6 : Int32).toInt = 6 from rfl); have := lv_neT q1_7 (show (7 : Int32).toInt = 7 from rfl); have := lv_neT q1_8 (show (8 : Int32).toInt = 8 from rfl); have := lv_neT q1_9 (show (9 : Int32).toInt = 9 from rfl); have := lv_neT q1_10 (show (10 : Int32).toInt = 10 from rfl); have := lv_neT q1_11 (show (11 : Int32).toInt = 11 from rfl); have := lv_neT q1_12 (show (12 : Int32).toInt = 12 from rfl); have := lv_neT q1_13 (show (13 : Int32).toInt = 13 from rfl); omega) rfl ?_
  refine lv_iconst (v := 0) X.1.1 X.1.2.1 d_pr_wordsUsed_92 rfl ?_
  exact X.iret hr hlk d_pr_wordsUsed_93 (by first | (simp only [wordsUsed, eq_false q1_3, eq_false q1_4, eq_false q1_5, eq_false q1_6, eq_false q1_7, eq_false q1_8, eq_false q1_9, eq_false q1_10, eq_false q1_11, eq_false q1_12, eq_false q1_13, if_true, if_false]; done) | (simp [wordsUsed, eq_false q1_3, eq_false q1_4, eq_false q1_5, eq_false q1_6, eq_false q1_7, eq_false q1_8, eq_false q1_9, eq_false q1_10, eq_false q1_11, eq_false q1_12, eq_false q1_13]; done) | (simp [wordsUsed, q1_3, q1_4, q1_5, q1_6, q1_7, q1_8, q1_9, q1_10, q1_11, q1_12, q1_13]; done) | rfl) rfl
set_option maxHeartbeats 4000000 in
theorem c_pr_onlyPushes {l : Launch} {D : va_G} {ad : Nat → Nat} {ci : Nat → ClassId} (hI : Inj ad) (σ : SS) (q a : Int32)  : Mi l y_pr_onlyPushes b_pr_onlyPushes 2 (some .boolean) ({ frames := 0, cells := 0, slots := 0, locals := 0 } : Room) (EC D ad ci) [.int q, .int a] σ (onlyPushes q a) (σ) := by
  refine Mi.start pn_pr (Nat.le_of_ble_eq_true rfl) (fun zp ze zs zm zb zt zc ls X hr hlk L => ?_)
  have L : lv_has ls 2 [(0, .int q), (1, .int a)] := L
  refine lv_iload_n X.1.1 X.1.2.1 d_pr_onlyPushes_0 rfl (lv_at L 0 rfl) ?_
  refine lv_iconst (v := 2) X.1.1 X.1.2.1 d_pr_onlyPushes_1 rfl ?_
  refine lv_icmp_le (tgt := 15) X.1.1 X.1.2.1 d_pr_onlyPushes_2 rfl (fun h2 => ?_) (fun h2 => ?_)
  · skip
    refine lv_iconst (v := 1) X.1.1 X.1.2.1 d_pr_onlyPushes_15 rfl ?_
    refine lv_goto (tgt := 20) X.1.1 X.1.2.1 d_pr_onlyPushes_16 rfl ?_
    exact X.zret hr hlk d_pr_onlyPushes_20 (by first | rfl | assumption) (by first | (simp only [onlyPushes, eq_true h2, if_true, if_false]; done) | (simp [onlyPushes, eq_true h2]; done) | (simp [onlyPushes, h2]; done) | rfl) rfl
  · skip
    refine lv_iload_n X.1.1 X.1.2.1 d_pr_onlyPushes_5 rfl (lv_at L 0 rfl) ?_
    refine lv_bipush (v := 13) X.1.1 X.1.2.1 d_pr_onlyPushes_6 rfl ?_
    refine lv_icmp_ne (tgt := 19) X.1.1 X.1.2.1 d_pr_onlyPushes_8 rfl (fun h8 => ?_) (fun h8 => ?_)
    · skip
      refine lv_iconst (v := 0) X.1.1 X.1.2.1 d_pr_onlyPushes_19 rfl ?_
      exact X.zret hr hlk d_pr_onlyPushes_20 (by first | rfl | assumption) (by first | (simp only [onlyPushes, eq_false h2, eq_false h8, if_true, if_false]; done) | (simp [onlyPushes, eq_false h2, eq_false h8]; done) | (simp [onlyPushes, h2, h8]; done) | rfl) rfl
    · skip
      refine lv_iload_n X.1.1 X.1.2.1 d_pr_onlyPushes_11 rfl (lv_at L 1 rfl) ?_
      refine lv_if_ne (tgt := 19) X.1.1 X.1.2.1 d_pr_onlyPushes_12 rfl (fun h12 => ?_) (fun h12 => ?_)
      · skip
        refine lv_iconst (v := 0) X.1.1 X.1.2.1 d_pr_onlyPushes_19 rfl ?_
        exact X.zret hr hlk d_pr_onlyPushes_20 (by first | rfl | assumption) (by first | (simp only [onlyPushes, eq_false h2, eq_true h8, eq_false h12, if_true, if_false]; done) | (simp [onlyPushes, eq_false h2, eq_true h8, eq_false h12]; done) | (simp [onlyPushes, h2, h8, h12]; done) | rfl) rfl
      · skip
        refine lv_iconst (v := 1) X.1.1 X.1.2.1 d_pr_onlyPushes_15 rfl ?_
        refine lv_goto (tgt := 20) X.1.1 X.1.2.1 d_pr_onlyPushes_16 rfl ?_
        exact X.zret hr hlk d_pr_onlyPushes_20 (by first | rfl | assumption) (by first | (simp only [onlyPushes, eq_false h2, eq_true h8, eq_true h12, if_true, if_false]; done) | (simp [onlyPushes, eq_false h2, eq_true h8, eq_true h12]; done) | (simp [onlyPushes, h2, h8, h12]; done) | rfl) rfl
set_option maxHeartbeats 4000000 in
theorem c_pr_stackSuits {l : Launch} {D : va_G} {ad : Nat → Nat} {ci : Nat → ClassId} (hI : Inj ad) (σ : SS) (c q a : Int32) (h_c : vp_in c 28) : Mi l y_pr_stackSuits b_pr_stackSuits 5 (some .boolean) ({ frames := 2, cells := 0, slots := 0, locals := 41 } : Room) (EC D ad ci) [.ref (ad 3), .int c, .int q, .int a] σ (stackSuits σ c q a) (σ) := by
  refine Mi.start pn_pr (Nat.le_of_ble_eq_true rfl) (fun zp ze zs zm zb zt zc ls X hr hlk L => ?_)
  have L : lv_has ls 5 [(0, .ref (ad 3)), (1, .int c), (2, .int q), (3, .int a)] := L
  refine lv_aload_n X.1.1 X.1.2.1 d_pr_stackSuits_0 rfl (lv_at L 0 rfl) ?_
  refine g_pr_memory X d_pr_stackSuits_1 ?_
  refine lv_iload_n X.1.1 X.1.2.1 d_pr_stackSuits_4 rfl (lv_at L 1 rfl) ?_
  refine Mi.callV (k := 1) (c_me_depthOf hI _ _ h_c) X (gt_V mw_331 mw_332 mw_333 mw_2 mw_334) ok_me_depthOf ⟨rfl, rfl, by decide, by decide⟩ (rc_me X) rfl L.1 rfl (Nat.le_of_ble_eq_true rfl) d_pr_stackSuits_5 (fun H locs X => ?_)
  refine lv_istore (lv' := [(4, .int _), (0, .ref _), (1, .int _), (2, .int _), (3, .int _)]) X.1.1 X.1.2.1 d_pr_stackSuits_8 L (by decide) rfl (fun ls L => ?_)
  refine lv_iload X.1.1 X.1.2.1 d_pr_stackSuits_10 (lv_at L 0 rfl) ?_
  refine lv_iload_n X.1.1 X.1.2.1 d_pr_stackSuits_12 rfl (lv_at L 3 rfl) ?_
  refine lv_iload_n X.1.1 X.1.2.1 d_pr_stackSuits_13 rfl (lv_at L 4 rfl) ?_
  refine Mi.callS (k := 2) (c_pr_wordsUsed hI _ _ _) X mw_335 mw_336 mw_4 mw_337 ok_pr_wordsUsed ⟨rfl, rfl, by decide, by decide⟩ rfl L.1 rfl (Nat.le_of_ble_eq_true rfl) d_pr_stackSuits_14 (fun H locs X => ?_)
  refine lv_icmp_lt (tgt := 39) X.1.1 X.1.2.1 d_pr_stackSuits_17 rfl (fun h17 => ?_) (fun h17 => ?_)
  · skip
    refine lv_iconst (v := 0) X.1.1 X.1.2.1 d_pr_stackSuits_39 rfl ?_
    exact X.zret hr hlk d_pr_stackSuits_40 (by first | rfl | assumption) (by first | (simp only [stackSuits, eq_true h17, if_true, if_false]; done) | (simp [stackSuits, eq_true h17]; done) | (simp [stackSuits, h17]; done) | rfl) rfl
  · skip
    refine lv_iload X.1.1 X.1.2.1 d_pr_stackSuits_20 (lv_at L 0 rfl) ?_
    refine lv_bipush (v := 6) X.1.1 X.1.2.1 d_pr_stackSuits_22 rfl ?_
    refine lv_icmp_lt (tgt := 35) X.1.1 X.1.2.1 d_pr_stackSuits_24 rfl (fun h24 => ?_) (fun h24 => ?_)
    · skip
      refine lv_iconst (v := 1) X.1.1 X.1.2.1 d_pr_stackSuits_35 rfl ?_
      refine lv_goto (tgt := 40) X.1.1 X.1.2.1 d_pr_stackSuits_36 rfl ?_
      exact X.zret hr hlk d_pr_stackSuits_40 (by first | rfl | assumption) (by first | (simp only [stackSuits, eq_false h17, eq_true h24, if_true, if_false]; done) | (simp [stackSuits, eq_false h17, eq_true h24]; done) | (simp [stackSuits, h17, h24]; done) | rfl) rfl
    · skip
      refine lv_iload_n X.1.1 X.1.2.1 d_pr_stackSuits_27 rfl (lv_at L 3 rfl) ?_
      refine lv_iload_n X.1.1 X.1.2.1 d_pr_stackSuits_28 rfl (lv_at L 4 rfl) ?_
      refine Mi.callS (k := 2) (c_pr_onlyPushes hI _ _ _) X mw_338 mw_339 mw_4 mw_340 ok_pr_onlyPushes ⟨rfl, rfl, by decide, by decide⟩ rfl L.1 rfl (Nat.le_of_ble_eq_true rfl) d_pr_stackSuits_29 (fun H locs X => ?_)
      refine lv_if_ne (tgt := 39) X.1.1 X.1.2.1 d_pr_stackSuits_32 rfl (fun h32 => ?_) (fun h32 => ?_)
      · skip
        refine lv_iconst (v := 0) X.1.1 X.1.2.1 d_pr_stackSuits_39 rfl ?_
        exact X.zret hr hlk d_pr_stackSuits_40 (by first | rfl | assumption) (by first | (simp only [stackSuits, eq_false h17, eq_false h24, eq_false h32, if_true, if_false]; done) | (simp [stackSuits, eq_false h17, eq_false h24, eq_false h32]; done) | (simp [stackSuits, h17, h24, h32]; done) | rfl) rfl
      · skip
        refine lv_iconst (v := 1) X.1.1 X.1.2.1 d_pr_stackSuits_35 rfl ?_
        refine lv_goto (tgt := 40) X.1.1 X.1.2.1 d_pr_stackSuits_36 rfl ?_
        exact X.zret hr hlk d_pr_stackSuits_40 (by first | rfl | assumption) (by first | (simp only [stackSuits, eq_false h17, eq_false h24, eq_true h32, if_true, if_false]; done) | (simp [stackSuits, eq_false h17, eq_false h24, eq_true h32]; done) | (simp [stackSuits, h17, h24, h32]; done) | rfl) rfl
set_option maxHeartbeats 4000000 in
theorem c_pr_pushTemporary {l : Launch} {D : va_G} {ad : Nat → Nat} {ci : Nat → ClassId} (hI : Inj ad) (σ : SS) (c a : Int32) (h_c : vp_in c 28) (hg : RG σ) (h_a : 0 ≤ a.toInt) (hd : (σ.1 10 (ix c)).toInt < 6) : Mi l y_pr_pushTemporary b_pr_pushTemporary 3 (some .int) ({ frames := 3, cells := 0, slots := 0, locals := 66 } : Room) (EC D ad ci) [.ref (ad 3), .int c, .int a] σ ((pushTemporary σ c a).1) ((pushTemporary σ c a).2) := by
  refine Mi.start pn_pr (Nat.le_of_ble_eq_true rfl) (fun zp ze zs zm zb zt zc ls X hr hlk L => ?_)
  have L : lv_has ls 3 [(0, .ref (ad 3)), (1, .int c), (2, .int a)] := L
  refine lv_iload_n X.1.1 X.1.2.1 d_pr_pushTemporary_0 rfl (lv_at L 2 rfl) ?_
  refine lv_iconst (v := 4) X.1.1 X.1.2.1 d_pr_pushTemporary_1 rfl ?_
  refine lv_icmp_lt (tgt := 7) X.1.1 X.1.2.1 d_pr_pushTemporary_2 rfl (fun h2 => ?_) (fun h2 => ?_)
  · skip
    refine lv_aload_n X.1.1 X.1.2.1 d_pr_pushTemporary_7 rfl (lv_at L 0 rfl) ?_
    refine g_pr_memory X d_pr_pushTemporary_8 ?_
    refine lv_iload_n X.1.1 X.1.2.1 d_pr_pushTemporary_11 rfl (lv_at L 1 rfl) ?_
    refine lv_aload_n X.1.1 X.1.2.1 d_pr_pushTemporary_12 rfl (lv_at L 0 rfl) ?_
    refine g_pr_memory X d_pr_pushTemporary_13 ?_
    refine lv_iload_n X.1.1 X.1.2.1 d_pr_pushTemporary_16 rfl (lv_at L 1 rfl) ?_
    refine lv_iconst (v := 5) X.1.1 X.1.2.1 d_pr_pushTemporary_17 rfl ?_
    refine lv_iload_n X.1.1 X.1.2.1 d_pr_pushTemporary_18 rfl (lv_at L 2 rfl) ?_
    refine lv_iadd X.1.1 X.1.2.1 d_pr_pushTemporary_19 ?_
    refine Mi.callV (k := 2) (c_me_fieldOf hI _ _ _ h_c (tmp_in h_a h2)) X (gt_V mw_292 mw_234 mw_235 mw_2 mw_236) ok_me_fieldOf ⟨rfl, rfl, by decide, by decide⟩ (rc_me X) rfl L.1 rfl (Nat.le_of_ble_eq_true rfl) d_pr_pushTemporary_20 (fun H locs X => ?_)
    refine Mv.callV (k := 2) (c_me_push hI _ _ _ h_c hd hg (hg.grid h_c (tmp_in h_a h2))) X (gt_V mw_353 mw_354 mw_355 mw_2 mw_356) ok_me_push ⟨rfl, rfl, by decide, by decide⟩ (rc_me X) rfl L.1 rfl (Nat.le_of_ble_eq_true rfl) d_pr_pushTemporary_23 (fun H locs X => ?_)
    refine lv_iconst (v := 0) X.1.1 X.1.2.1 d_pr_pushTemporary_26 rfl ?_
    exact X.iret hr hlk d_pr_pushTemporary_27 (by first | (simp only [pushTemporary, eq_true h2, if_true, if_false]; done) | (simp [pushTemporary, eq_true h2]; done) | (simp [pushTemporary, h2]; done) | rfl) (by first | (simp only [pushTemporary, eq_true h2, if_true, if_false]; done) | (simp [pushTemporary, eq_true h2]; done) | (simp [pushTemporary, h2]; done) | rfl)
  · skip
    refine lv_iconst (v := 3) X.1.1 X.1.2.1 d_pr_pushTemporary_5 rfl ?_
    exact X.iret hr hlk d_pr_pushTemporary_6 (by first | (simp only [pushTemporary, eq_false h2, if_true, if_false]; done) | (simp [pushTemporary, eq_false h2]; done) | (simp [pushTemporary, h2]; done) | rfl) (by first | (simp only [pushTemporary, eq_false h2, if_true, if_false]; done) | (simp [pushTemporary, eq_false h2]; done) | (simp [pushTemporary, h2]; done) | rfl)
set_option maxHeartbeats 4000000 in
theorem c_pr_pushField {l : Launch} {D : va_G} {ad : Nat → Nat} {ci : Nat → ClassId} (hI : Inj ad) (σ : SS) (c a : Int32) (h_c : vp_in c 28) (hg : RG σ) (hd : (σ.1 10 (ix c)).toInt < 6) : Mi l y_pr_pushField b_pr_pushField 4 (some .int) ({ frames := 3, cells := 0, slots := 0, locals := 66 } : Room) (EC D ad ci) [.ref (ad 3), .int c, .int a] σ ((pushField σ c a).1) ((pushField σ c a).2) := by
  refine Mi.start pn_pr (Nat.le_of_ble_eq_true rfl) (fun zp ze zs zm zb zt zc ls X hr hlk L => ?_)
  have L : lv_has ls 4 [(0, .ref (ad 3)), (1, .int c), (2, .int a)] := L
  refine lv_aload_n X.1.1 X.1.2.1 d_pr_pushField_0 rfl (lv_at L 0 rfl) ?_
  refine g_pr_memory X d_pr_pushField_1 ?_
  refine lv_iload_n X.1.1 X.1.2.1 d_pr_pushField_4 rfl (lv_at L 1 rfl) ?_
  refine lv_iconst (v := 1) X.1.1 X.1.2.1 d_pr_pushField_5 rfl ?_
  refine Mi.callV (k := 2) (c_me_fieldOf hI _ _ _ h_c (vpc (by decide))) X (gt_V mw_292 mw_234 mw_235 mw_2 mw_236) ok_me_fieldOf ⟨rfl, rfl, by decide, by decide⟩ (rc_me X) rfl L.1 rfl (Nat.le_of_ble_eq_true rfl) d_pr_pushField_6 (fun H locs X => ?_)
  refine lv_istore_n (lv' := [(3, .int _), (0, .ref _), (1, .int _), (2, .int _)]) X.1.1 X.1.2.1 d_pr_pushField_9 rfl L (by decide) rfl (fun ls L => ?_)
  refine lv_aload_n X.1.1 X.1.2.1 d_pr_pushField_10 rfl (lv_at L 1 rfl) ?_
  refine g_pr_memory X d_pr_pushField_11 ?_
  refine lv_iload_n X.1.1 X.1.2.1 d_pr_pushField_14 rfl (lv_at L 0 rfl) ?_
  refine lv_iload_n X.1.1 X.1.2.1 d_pr_pushField_15 rfl (lv_at L 3 rfl) ?_
  refine Mi.callV (k := 2) (c_me_hasField hI _ _ _) X (gt_V mw_361 mw_230 mw_231 mw_2 mw_232) ok_me_hasField ⟨rfl, rfl, by decide, by decide⟩ (rc_me X) rfl L.1 rfl (Nat.le_of_ble_eq_true rfl) d_pr_pushField_16 (fun H locs X => ?_)
  refine lv_if_eq (tgt := 33) X.1.1 X.1.2.1 d_pr_pushField_19 rfl (fun h19 => ?_) (fun h19 => ?_)
  · skip
    refine lv_iconst (v := 3) X.1.1 X.1.2.1 d_pr_pushField_33 rfl ?_
    exact X.iret hr hlk d_pr_pushField_34 (by first | (simp only [pushField, recv, eq_true h19, if_true, if_false]; done) | (simp [pushField, recv, eq_true h19]; done) | (simp [pushField, recv, h19]; done) | rfl) (by first | (simp only [pushField, recv, eq_true h19, if_true, if_false]; done) | (simp [pushField, recv, eq_true h19]; done) | (simp [pushField, recv, h19]; done) | rfl)
  · skip
    refine lv_aload_n X.1.1 X.1.2.1 d_pr_pushField_22 rfl (lv_at L 1 rfl) ?_
    refine g_pr_memory X d_pr_pushField_23 ?_
    refine lv_iload_n X.1.1 X.1.2.1 d_pr_pushField_26 rfl (lv_at L 0 rfl) ?_
    refine Mi.callV (k := 1) (c_me_isContext hI _ _) X (gt_V mw_362 mw_258 mw_259 mw_2 mw_260) ok_me_isContext ⟨rfl, rfl, by decide, by decide⟩ (rc_me X) rfl L.1 rfl (Nat.le_of_ble_eq_true rfl) d_pr_pushField_27 (fun H locs X => ?_)
    refine lv_if_eq (tgt := 35) X.1.1 X.1.2.1 d_pr_pushField_30 rfl (fun h30 => ?_) (fun h30 => ?_)
    · skip
      refine lv_aload_n X.1.1 X.1.2.1 d_pr_pushField_35 rfl (lv_at L 1 rfl) ?_
      refine g_pr_memory X d_pr_pushField_36 ?_
      refine lv_iload_n X.1.1 X.1.2.1 d_pr_pushField_39 rfl (lv_at L 2 rfl) ?_
      refine lv_aload_n X.1.1 X.1.2.1 d_pr_pushField_40 rfl (lv_at L 1 rfl) ?_
      refine g_pr_memory X d_pr_pushField_41 ?_
      refine lv_iload_n X.1.1 X.1.2.1 d_pr_pushField_44 rfl (lv_at L 0 rfl) ?_
      refine lv_iload_n X.1.1 X.1.2.1 d_pr_pushField_45 rfl (lv_at L 3 rfl) ?_
      refine Mi.callV (k := 2) (c_me_fieldOf hI _ _ _ (hf_o h19) (hf_k hg h19)) X (gt_V mw_292 mw_234 mw_235 mw_2 mw_236) ok_me_fieldOf ⟨rfl, rfl, by decide, by decide⟩ (rc_me X) rfl L.1 rfl (Nat.le_of_ble_eq_true rfl) d_pr_pushField_46 (fun H locs X => ?_)
      refine Mv.callV (k := 2) (c_me_push hI _ _ _ h_c hd hg (hg.grid (hf_o h19) (hf_k hg h19))) X (gt_V mw_353 mw_354 mw_355 mw_2 mw_356) ok_me_push ⟨rfl, rfl, by decide, by decide⟩ (rc_me X) rfl L.1 rfl (Nat.le_of_ble_eq_true rfl) d_pr_pushField_49 (fun H locs X => ?_)
      refine lv_iconst (v := 0) X.1.1 X.1.2.1 d_pr_pushField_52 rfl ?_
      exact X.iret hr hlk d_pr_pushField_53 (by first | (simp only [pushField, recv, eq_false h19, eq_true h30, if_true, if_false]; done) | (simp [pushField, recv, eq_false h19, eq_true h30]; done) | (simp [pushField, recv, h19, h30]; done) | rfl) (by first | (simp only [pushField, recv, eq_false h19, eq_true h30, if_true, if_false]; done) | (simp [pushField, recv, eq_false h19, eq_true h30]; done) | (simp [pushField, recv, h19, h30]; done) | rfl)
    · skip
      refine lv_iconst (v := 3) X.1.1 X.1.2.1 d_pr_pushField_33 rfl ?_
      exact X.iret hr hlk d_pr_pushField_34 (by first | (simp only [pushField, recv, eq_false h19, eq_false h30, if_true, if_false]; done) | (simp [pushField, recv, eq_false h19, eq_false h30]; done) | (simp [pushField, recv, h19, h30]; done) | rfl) (by first | (simp only [pushField, recv, eq_false h19, eq_false h30, if_true, if_false]; done) | (simp [pushField, recv, eq_false h19, eq_false h30]; done) | (simp [pushField, recv, h19, h30]; done) | rfl)
set_option maxHeartbeats 4000000 in
theorem c_pr_otherWord {l : Launch} {D : va_G} {ad : Nat → Nat} {ci : Nat → ClassId} (hI : Inj ad) (σ : SS) (c a : Int32) (h_c : vp_in c 28) (h_a : vp_in a 16) : Mi l y_pr_otherWord b_pr_otherWord 4 (some .int) ({ frames := 2, cells := 0, slots := 0, locals := 41 } : Room) (EC D ad ci) [.ref (ad 3), .int c, .int a] σ (otherWord σ c a) (σ) := by
  refine Mi.start pn_pr (Nat.le_of_ble_eq_true rfl) (fun zp ze zs zm zb zt zc ls X hr hlk L => ?_)
  have L : lv_has ls 4 [(0, .ref (ad 3)), (1, .int c), (2, .int a)] := L
  refine lv_aload_n X.1.1 X.1.2.1 d_pr_otherWord_0 rfl (lv_at L 0 rfl) ?_
  refine g_pr_memory X d_pr_otherWord_1 ?_
  refine lv_iload_n X.1.1 X.1.2.1 d_pr_otherWord_4 rfl (lv_at L 1 rfl) ?_
  refine lv_iconst (v := 1) X.1.1 X.1.2.1 d_pr_otherWord_5 rfl ?_
  refine Mi.callV (k := 2) (c_me_fieldOf hI _ _ _ h_c (vpc (by decide))) X (gt_V mw_292 mw_234 mw_235 mw_2 mw_236) ok_me_fieldOf ⟨rfl, rfl, by decide, by decide⟩ (rc_me X) rfl L.1 rfl (Nat.le_of_ble_eq_true rfl) d_pr_otherWord_6 (fun H locs X => ?_)
  refine lv_istore_n (lv' := [(3, .int _), (0, .ref _), (1, .int _), (2, .int _)]) X.1.1 X.1.2.1 d_pr_otherWord_9 rfl L (by decide) rfl (fun ls L => ?_)
  refine lv_iload_n X.1.1 X.1.2.1 d_pr_otherWord_10 rfl (lv_at L 3 rfl) ?_
  refine lv_if_ne (tgt := 16) X.1.1 X.1.2.1 d_pr_otherWord_11 rfl (fun h11 => ?_) (fun h11 => ?_)
  · skip
    refine lv_iload_n X.1.1 X.1.2.1 d_pr_otherWord_16 rfl (lv_at L 3 rfl) ?_
    refine lv_bipush (v := 7) X.1.1 X.1.2.1 d_pr_otherWord_17 rfl ?_
    refine lv_icmp_gt (tgt := 30) X.1.1 X.1.2.1 d_pr_otherWord_19 rfl (fun h19 => ?_) (fun h19 => ?_)
    · skip
      refine lv_iload_n X.1.1 X.1.2.1 d_pr_otherWord_30 rfl (lv_at L 3 rfl) ?_
      refine lv_bipush (v := 8) X.1.1 X.1.2.1 d_pr_otherWord_31 rfl ?_
      refine lv_icmp_ne (tgt := 38) X.1.1 X.1.2.1 d_pr_otherWord_33 rfl (fun h33 => ?_) (fun h33 => ?_)
      · skip
        refine lv_iload_n X.1.1 X.1.2.1 d_pr_otherWord_38 rfl (lv_at L 3 rfl) ?_
        refine lv_bipush (v := 9) X.1.1 X.1.2.1 d_pr_otherWord_39 rfl ?_
        refine lv_icmp_ne (tgt := 55) X.1.1 X.1.2.1 d_pr_otherWord_41 rfl (fun h41 => ?_) (fun h41 => ?_)
        · skip
          refine lv_aload_n X.1.1 X.1.2.1 d_pr_otherWord_55 rfl (lv_at L 1 rfl) ?_
          refine g_pr_memory X d_pr_otherWord_56 ?_
          refine lv_iload_n X.1.1 X.1.2.1 d_pr_otherWord_59 rfl (lv_at L 3 rfl) ?_
          refine lv_bipush (v := 10) X.1.1 X.1.2.1 d_pr_otherWord_60 rfl ?_
          refine lv_isub X.1.1 X.1.2.1 d_pr_otherWord_62 ?_
          refine Mi.callV (k := 1) (c_me_register hI _ _ (reg_in h_a h19 h33 h41)) X (gt_V mw_278 mw_139 mw_140 mw_2 mw_141) ok_me_register ⟨rfl, rfl, by decide, by decide⟩ (rc_me X) rfl L.1 rfl (Nat.le_of_ble_eq_true rfl) d_pr_otherWord_63 (fun H locs X => ?_)
          exact X.iret hr hlk d_pr_otherWord_66 (by first | (simp only [otherWord, recv, eq_false h11, eq_true h19, eq_false h33, eq_false h41, if_true, if_false]; done) | (simp [otherWord, recv, eq_false h11, eq_true h19, eq_false h33, eq_false h41]; done) | (simp [otherWord, recv, h11, h19, h33, h41]; done) | rfl) rfl
        · skip
          refine lv_aload_n X.1.1 X.1.2.1 d_pr_otherWord_44 rfl (lv_at L 1 rfl) ?_
          refine g_pr_memory X d_pr_otherWord_45 ?_
          refine lv_iload_n X.1.1 X.1.2.1 d_pr_otherWord_48 rfl (lv_at L 0 rfl) ?_
          refine Mi.callV (k := 1) (c_me_classOfWord hI _ _) X (gt_V mw_283 mw_242 mw_243 mw_2 mw_244) ok_me_classOfWord ⟨rfl, rfl, by decide, by decide⟩ (rc_me X) rfl L.1 rfl (Nat.le_of_ble_eq_true rfl) d_pr_otherWord_49 (fun H locs X => ?_)
          refine lv_goto (tgt := 66) X.1.1 X.1.2.1 d_pr_otherWord_52 rfl ?_
          exact X.iret hr hlk d_pr_otherWord_66 (by first | (simp only [otherWord, recv, eq_false h11, eq_true h19, eq_false h33, eq_true h41, if_true, if_false]; done) | (simp [otherWord, recv, eq_false h11, eq_true h19, eq_false h33, eq_true h41]; done) | (simp [otherWord, recv, h11, h19, h33, h41]; done) | rfl) rfl
      · skip
        refine lv_iload_n X.1.1 X.1.2.1 d_pr_otherWord_36 rfl (lv_at L 0 rfl) ?_
        exact X.iret hr hlk d_pr_otherWord_37 (by first | (simp only [otherWord, recv, eq_false h11, eq_true h19, eq_true h33, if_true, if_false]; done) | (simp [otherWord, recv, eq_false h11, eq_true h19, eq_true h33]; done) | (simp [otherWord, recv, h11, h19, h33]; done) | rfl) rfl
    · skip
      refine lv_sipush (v := 1000) X.1.1 X.1.2.1 d_pr_otherWord_22 rfl ?_
      refine lv_iload_n X.1.1 X.1.2.1 d_pr_otherWord_25 rfl (lv_at L 3 rfl) ?_
      refine lv_iadd X.1.1 X.1.2.1 d_pr_otherWord_26 ?_
      refine lv_iconst (v := 4) X.1.1 X.1.2.1 d_pr_otherWord_27 rfl ?_
      refine lv_isub X.1.1 X.1.2.1 d_pr_otherWord_28 ?_
      exact X.iret hr hlk d_pr_otherWord_29 (by first | (simp only [otherWord, recv, eq_false h11, eq_false h19, if_true, if_false]; done) | (simp [otherWord, recv, eq_false h11, eq_false h19]; done) | (simp [otherWord, recv, h11, h19]; done) | rfl) rfl
  · skip
    refine lv_iconst (v := 0) X.1.1 X.1.2.1 d_pr_otherWord_14 rfl ?_
    exact X.iret hr hlk d_pr_otherWord_15 (by first | (simp only [otherWord, recv, eq_true h11, if_true, if_false]; done) | (simp [otherWord, recv, eq_true h11]; done) | (simp [otherWord, recv, h11]; done) | rfl) rfl
set_option maxHeartbeats 4000000 in
theorem c_pr_popTemporary {l : Launch} {D : va_G} {ad : Nat → Nat} {ci : Nat → ClassId} (hI : Inj ad) (σ : SS) (c a : Int32) (h_c : vp_in c 28) (hg : RG σ) (h_a : 0 ≤ a.toInt) (h1 : 1 ≤ (σ.1 10 (ix c)).toInt) : Mi l y_pr_popTemporary b_pr_popTemporary 3 (some .int) ({ frames := 3, cells := 0, slots := 0, locals := 66 } : Room) (EC D ad ci) [.ref (ad 3), .int c, .int a] σ ((popTemporary σ c a).1) ((popTemporary σ c a).2) := by
  refine Mi.start pn_pr (Nat.le_of_ble_eq_true rfl) (fun zp ze zs zm zb zt zc ls X hr hlk L => ?_)
  have L : lv_has ls 3 [(0, .ref (ad 3)), (1, .int c), (2, .int a)] := L
  refine lv_iload_n X.1.1 X.1.2.1 d_pr_popTemporary_0 rfl (lv_at L 2 rfl) ?_
  refine lv_iconst (v := 4) X.1.1 X.1.2.1 d_pr_popTemporary_1 rfl ?_
  refine lv_icmp_lt (tgt := 7) X.1.1 X.1.2.1 d_pr_popTemporary_2 rfl (fun h2 => ?_) (fun h2 => ?_)
  · skip
    refine lv_aload_n X.1.1 X.1.2.1 d_pr_popTemporary_7 rfl (lv_at L 0 rfl) ?_
    refine g_pr_memory X d_pr_popTemporary_8 ?_
    refine lv_iload_n X.1.1 X.1.2.1 d_pr_popTemporary_11 rfl (lv_at L 1 rfl) ?_
    refine lv_iconst (v := 5) X.1.1 X.1.2.1 d_pr_popTemporary_12 rfl ?_
    refine lv_iload_n X.1.1 X.1.2.1 d_pr_popTemporary_13 rfl (lv_at L 2 rfl) ?_
    refine lv_iadd X.1.1 X.1.2.1 d_pr_popTemporary_14 ?_
    refine lv_aload_n X.1.1 X.1.2.1 d_pr_popTemporary_15 rfl (lv_at L 0 rfl) ?_
    refine g_pr_memory X d_pr_popTemporary_16 ?_
    refine lv_iload_n X.1.1 X.1.2.1 d_pr_popTemporary_19 rfl (lv_at L 1 rfl) ?_
    refine Mi.callV (k := 1) (c_me_pop hI _ _ h_c h1 hg) X (gt_V mw_371 mw_372 mw_373 mw_2 mw_374) ok_me_pop ⟨rfl, rfl, by decide, by decide⟩ (rc_me X) rfl L.1 rfl (Nat.le_of_ble_eq_true rfl) d_pr_popTemporary_20 (fun H locs X => ?_)
    refine Mv.callV (k := 3) (c_me_setField hI _ _ _ _ h_c (tmp_in h_a h2) (RG_pop hg h_c h1) (hg.top h_c (by decide) (by rw [n0]; omega))) X (gt_V mw_300 mw_35 mw_36 mw_2 mw_37) ok_me_setField ⟨rfl, rfl, by decide, by decide⟩ (rc_me X) rfl L.1 rfl (Nat.le_of_ble_eq_true rfl) d_pr_popTemporary_23 (fun H locs X => ?_)
    refine lv_iconst (v := 0) X.1.1 X.1.2.1 d_pr_popTemporary_26 rfl ?_
    exact X.iret hr hlk d_pr_popTemporary_27 (by first | (simp only [popTemporary, eq_true h2, if_true, if_false]; done) | (simp [popTemporary, eq_true h2]; done) | (simp [popTemporary, h2]; done) | rfl) (by first | (simp only [popTemporary, eq_true h2, if_true, if_false]; done) | (simp [popTemporary, eq_true h2]; done) | (simp [popTemporary, h2]; done) | rfl)
  · skip
    refine lv_iconst (v := 3) X.1.1 X.1.2.1 d_pr_popTemporary_5 rfl ?_
    exact X.iret hr hlk d_pr_popTemporary_6 (by first | (simp only [popTemporary, eq_false h2, if_true, if_false]; done) | (simp [popTemporary, eq_false h2]; done) | (simp [popTemporary, h2]; done) | rfl) (by first | (simp only [popTemporary, eq_false h2, if_true, if_false]; done) | (simp [popTemporary, eq_false h2]; done) | (simp [popTemporary, h2]; done) | rfl)
set_option maxHeartbeats 4000000 in
theorem c_pr_popField {l : Launch} {D : va_G} {ad : Nat → Nat} {ci : Nat → ClassId} (hI : Inj ad) (σ : SS) (c a : Int32) (h_c : vp_in c 28) (hg : RG σ) (h1 : 1 ≤ (σ.1 10 (ix c)).toInt) : Mi l y_pr_popField b_pr_popField 4 (some .int) ({ frames := 3, cells := 0, slots := 0, locals := 66 } : Room) (EC D ad ci) [.ref (ad 3), .int c, .int a] σ ((popField σ c a).1) ((popField σ c a).2) := by
  refine Mi.start pn_pr (Nat.le_of_ble_eq_true rfl) (fun zp ze zs zm zb zt zc ls X hr hlk L => ?_)
  have L : lv_has ls 4 [(0, .ref (ad 3)), (1, .int c), (2, .int a)] := L
  refine lv_aload_n X.1.1 X.1.2.1 d_pr_popField_0 rfl (lv_at L 0 rfl) ?_
  refine g_pr_memory X d_pr_popField_1 ?_
  refine lv_iload_n X.1.1 X.1.2.1 d_pr_popField_4 rfl (lv_at L 1 rfl) ?_
  refine lv_iconst (v := 1) X.1.1 X.1.2.1 d_pr_popField_5 rfl ?_
  refine Mi.callV (k := 2) (c_me_fieldOf hI _ _ _ h_c (vpc (by decide))) X (gt_V mw_292 mw_234 mw_235 mw_2 mw_236) ok_me_fieldOf ⟨rfl, rfl, by decide, by decide⟩ (rc_me X) rfl L.1 rfl (Nat.le_of_ble_eq_true rfl) d_pr_popField_6 (fun H locs X => ?_)
  refine lv_istore_n (lv' := [(3, .int _), (0, .ref _), (1, .int _), (2, .int _)]) X.1.1 X.1.2.1 d_pr_popField_9 rfl L (by decide) rfl (fun ls L => ?_)
  refine lv_aload_n X.1.1 X.1.2.1 d_pr_popField_10 rfl (lv_at L 1 rfl) ?_
  refine g_pr_memory X d_pr_popField_11 ?_
  refine lv_iload_n X.1.1 X.1.2.1 d_pr_popField_14 rfl (lv_at L 0 rfl) ?_
  refine lv_iload_n X.1.1 X.1.2.1 d_pr_popField_15 rfl (lv_at L 3 rfl) ?_
  refine Mi.callV (k := 2) (c_me_hasFreeField hI _ _ _) X (gt_V mw_383 mw_253 mw_254 mw_2 mw_255) ok_me_hasFreeField ⟨rfl, rfl, by decide, by decide⟩ (rc_me X) rfl L.1 rfl (Nat.le_of_ble_eq_true rfl) d_pr_popField_16 (fun H locs X => ?_)
  refine lv_if_ne (tgt := 24) X.1.1 X.1.2.1 d_pr_popField_19 rfl (fun h19 => ?_) (fun h19 => ?_)
  · skip
    refine lv_aload_n X.1.1 X.1.2.1 d_pr_popField_24 rfl (lv_at L 1 rfl) ?_
    refine g_pr_memory X d_pr_popField_25 ?_
    refine lv_iload_n X.1.1 X.1.2.1 d_pr_popField_28 rfl (lv_at L 0 rfl) ?_
    refine lv_iload_n X.1.1 X.1.2.1 d_pr_popField_29 rfl (lv_at L 3 rfl) ?_
    refine lv_aload_n X.1.1 X.1.2.1 d_pr_popField_30 rfl (lv_at L 1 rfl) ?_
    refine g_pr_memory X d_pr_popField_31 ?_
    refine lv_iload_n X.1.1 X.1.2.1 d_pr_popField_34 rfl (lv_at L 2 rfl) ?_
    refine Mi.callV (k := 1) (c_me_pop hI _ _ h_c h1 hg) X (gt_V mw_371 mw_372 mw_373 mw_2 mw_374) ok_me_pop ⟨rfl, rfl, by decide, by decide⟩ (rc_me X) rfl L.1 rfl (Nat.le_of_ble_eq_true rfl) d_pr_popField_35 (fun H locs X => ?_)
    refine Mv.callV (k := 3) (c_me_setField hI _ _ _ _ (hf_o (hff h19)) (hf_k hg (hff h19)) (RG_pop hg h_c h1) (hg.top h_c (by decide) (by rw [n0]; omega))) X (gt_V mw_300 mw_35 mw_36 mw_2 mw_37) ok_me_setField ⟨rfl, rfl, by decide, by decide⟩ (rc_me X) rfl L.1 rfl (Nat.le_of_ble_eq_true rfl) d_pr_popField_38 (fun H locs X => ?_)
    refine lv_iconst (v := 0) X.1.1 X.1.2.1 d_pr_popField_41 rfl ?_
    exact X.iret hr hlk d_pr_popField_42 (by first | (simp only [popField, recv, eq_false h19, if_true, if_false]; done) | (simp [popField, recv, eq_false h19]; done) | (simp [popField, recv, h19]; done) | rfl) (by first | (simp only [popField, recv, eq_false h19, if_true, if_false]; done) | (simp [popField, recv, eq_false h19]; done) | (simp [popField, recv, h19]; done) | rfl)
  · skip
    refine lv_iconst (v := 3) X.1.1 X.1.2.1 d_pr_popField_22 rfl ?_
    exact X.iret hr hlk d_pr_popField_23 (by first | (simp only [popField, recv, eq_true h19, if_true, if_false]; done) | (simp [popField, recv, eq_true h19]; done) | (simp [popField, recv, h19]; done) | rfl) (by first | (simp only [popField, recv, eq_true h19, if_true, if_false]; done) | (simp [popField, recv, eq_true h19]; done) | (simp [popField, recv, h19]; done) | rfl)
set_option maxHeartbeats 4000000 in
theorem c_pr_numberWord {l : Launch} {D : va_G} {ad : Nat → Nat} {ci : Nat → ClassId} (hI : Inj ad) (σ : SS) (v : Int32)  : Mi l y_pr_numberWord b_pr_numberWord 1 (some .int) ({ frames := 0, cells := 0, slots := 0, locals := 0 } : Room) (EC D ad ci) [.int v] σ (numberWord v) (σ) := by
  refine Mi.start pn_pr (Nat.le_of_ble_eq_true rfl) (fun zp ze zs zm zb zt zc ls X hr hlk L => ?_)
  have L : lv_has ls 1 [(0, .int v)] := L
  refine lv_iload_n X.1.1 X.1.2.1 d_pr_numberWord_0 rfl (lv_at L 0 rfl) ?_
  refine lv_sipush (v := (-512)) X.1.1 X.1.2.1 d_pr_numberWord_1 rfl ?_
  refine lv_icmp_lt (tgt := 14) X.1.1 X.1.2.1 d_pr_numberWord_4 rfl (fun h4 => ?_) (fun h4 => ?_)
  · skip
    refine lv_iconst (v := (-1)) X.1.1 X.1.2.1 d_pr_numberWord_14 rfl ?_
    refine lv_goto (tgt := 23) X.1.1 X.1.2.1 d_pr_numberWord_15 rfl ?_
    exact X.iret hr hlk d_pr_numberWord_23 (by first | (simp only [numberWord, eq_true h4, if_true, if_false]; done) | (simp [numberWord, eq_true h4]; done) | (simp [numberWord, h4]; done) | rfl) rfl
  · skip
    refine lv_iload_n X.1.1 X.1.2.1 d_pr_numberWord_7 rfl (lv_at L 0 rfl) ?_
    refine lv_sipush (v := 511) X.1.1 X.1.2.1 d_pr_numberWord_8 rfl ?_
    refine lv_icmp_le (tgt := 18) X.1.1 X.1.2.1 d_pr_numberWord_11 rfl (fun h11 => ?_) (fun h11 => ?_)
    · skip
      refine lv_sipush (v := 1000) X.1.1 X.1.2.1 d_pr_numberWord_18 rfl ?_
      refine lv_iload_n X.1.1 X.1.2.1 d_pr_numberWord_21 rfl (lv_at L 0 rfl) ?_
      refine lv_iadd X.1.1 X.1.2.1 d_pr_numberWord_22 ?_
      exact X.iret hr hlk d_pr_numberWord_23 (by first | (simp only [numberWord, eq_false h4, eq_true h11, if_true, if_false]; done) | (simp [numberWord, eq_false h4, eq_true h11]; done) | (simp [numberWord, h4, h11]; done) | rfl) rfl
    · skip
      refine lv_iconst (v := (-1)) X.1.1 X.1.2.1 d_pr_numberWord_14 rfl ?_
      refine lv_goto (tgt := 23) X.1.1 X.1.2.1 d_pr_numberWord_15 rfl ?_
      exact X.iret hr hlk d_pr_numberWord_23 (by first | (simp only [numberWord, eq_false h4, eq_false h11, if_true, if_false]; done) | (simp [numberWord, eq_false h4, eq_false h11]; done) | (simp [numberWord, h4, h11]; done) | rfl) rfl
set_option maxHeartbeats 4000000 in
theorem c_pr_truth {l : Launch} {D : va_G} {ad : Nat → Nat} {ci : Nat → ClassId} (hI : Inj ad) (σ : SS) (b : Int32)  : Mi l y_pr_truth b_pr_truth 1 (some .int) ({ frames := 0, cells := 0, slots := 0, locals := 0 } : Room) (EC D ad ci) [.int b] σ (truth b) (σ) := by
  refine Mi.start pn_pr (Nat.le_of_ble_eq_true rfl) (fun zp ze zs zm zb zt zc ls X hr hlk L => ?_)
  have L : lv_has ls 1 [(0, .int b)] := L
  refine lv_iload_n X.1.1 X.1.2.1 d_pr_truth_0 rfl (lv_at L 0 rfl) ?_
  refine lv_if_eq (tgt := 10) X.1.1 X.1.2.1 d_pr_truth_1 rfl (fun h1 => ?_) (fun h1 => ?_)
  · skip
    refine lv_iconst (v := 0) X.1.1 X.1.2.1 d_pr_truth_10 rfl ?_
    exact X.iret hr hlk d_pr_truth_11 (by first | (simp only [truth, eq_true h1, if_true, if_false]; done) | (simp [truth, eq_true h1]; done) | (simp [truth, h1]; done) | rfl) rfl
  · skip
    refine lv_sipush (v := 1001) X.1.1 X.1.2.1 d_pr_truth_4 rfl ?_
    refine lv_goto (tgt := 11) X.1.1 X.1.2.1 d_pr_truth_7 rfl ?_
    exact X.iret hr hlk d_pr_truth_11 (by first | (simp only [truth, eq_false h1, if_true, if_false]; done) | (simp [truth, eq_false h1]; done) | (simp [truth, h1]; done) | rfl) rfl
set_option maxHeartbeats 4000000 in
theorem c_pr_resultOf {l : Launch} {D : va_G} {ad : Nat → Nat} {ci : Nat → ClassId} (hI : Inj ad) (σ : SS) (a x y : Int32)  : Mi l y_pr_resultOf b_pr_resultOf 3 (some .int) ({ frames := 1, cells := 0, slots := 0, locals := 20 } : Room) (EC D ad ci) [.int a, .int x, .int y] σ (resultOf a x y) (σ) := by
  refine Mi.start pn_pr (Nat.le_of_ble_eq_true rfl) (fun zp ze zs zm zb zt zc ls X hr hlk L => ?_)
  have L : lv_has ls 3 [(0, .int a), (1, .int x), (2, .int y)] := L
  refine lv_iload_n X.1.1 X.1.2.1 d_pr_resultOf_0 rfl (lv_at L 0 rfl) ?_
  by_cases q1_0 : a = 0
  · refine lv_tableIn (tgt := 32) X.1.1 X.1.2.1 d_pr_resultOf_1 (by rw [q1_0]; decide) (by rw [q1_0]; decide) (by rw [q1_0]; rfl) rfl ?_
    refine lv_iload_n X.1.1 X.1.2.1 d_pr_resultOf_32 rfl (lv_at L 1 rfl) ?_
    refine lv_sipush (v := 1000) X.1.1 X.1.2.1 d_pr_resultOf_33 rfl ?_
    refine lv_isub X.1.1 X.1.2.1 d_pr_resultOf_36 ?_
    refine lv_iload_n X.1.1 X.1.2.1 d_pr_resultOf_37 rfl (lv_at L 2 rfl) ?_
    refine lv_sipush (v := 1000) X.1.1 X.1.2.1 d_pr_resultOf_38 rfl ?_
    refine lv_isub X.1.1 X.1.2.1 d_pr_resultOf_41 ?_
    refine lv_iadd X.1.1 X.1.2.1 d_pr_resultOf_42 ?_
    refine Mi.callS (k := 1) (c_pr_numberWord hI _ _) X mw_402 mw_403 mw_4 mw_404 ok_pr_numberWord ⟨rfl, rfl, by decide, by decide⟩ rfl L.1 rfl (Nat.le_of_ble_eq_true rfl) d_pr_resultOf_43 (fun H locs X => ?_)
    exact X.iret hr hlk d_pr_resultOf_46 (by first | (simp only [resultOf, eq_true q1_0, if_true, if_false]; done) | (simp [resultOf, eq_true q1_0]; done) | (simp [resultOf, q1_0]; done) | rfl) rfl
  by_cases q1_1 : a = 1
  · refine lv_tableIn (tgt := 47) X.1.1 X.1.2.1 d_pr_resultOf_1 (by rw [q1_1]; decide) (by rw [q1_1]; decide) (by rw [q1_1]; rfl) rfl ?_
    refine lv_iload_n X.1.1 X.1.2.1 d_pr_resultOf_47 rfl (lv_at L 1 rfl) ?_
    refine lv_iload_n X.1.1 X.1.2.1 d_pr_resultOf_48 rfl (lv_at L 2 rfl) ?_
    refine lv_isub X.1.1 X.1.2.1 d_pr_resultOf_49 ?_
    refine Mi.callS (k := 1) (c_pr_numberWord hI _ _) X mw_402 mw_403 mw_4 mw_404 ok_pr_numberWord ⟨rfl, rfl, by decide, by decide⟩ rfl L.1 rfl (Nat.le_of_ble_eq_true rfl) d_pr_resultOf_50 (fun H locs X => ?_)
    exact X.iret hr hlk d_pr_resultOf_53 (by first | (simp only [resultOf, eq_false q1_0, eq_true q1_1, if_true, if_false]; done) | (simp [resultOf, eq_false q1_0, eq_true q1_1]; done) | (simp [resultOf, q1_0, q1_1]; done) | rfl) rfl
  by_cases q1_2 : a = 2
  · refine lv_tableIn (tgt := 54) X.1.1 X.1.2.1 d_pr_resultOf_1 (by rw [q1_2]; decide) (by rw [q1_2]; decide) (by rw [q1_2]; rfl) rfl ?_
    refine lv_iload_n X.1.1 X.1.2.1 d_pr_resultOf_54 rfl (lv_at L 1 rfl) ?_
    refine lv_sipush (v := 1000) X.1.1 X.1.2.1 d_pr_resultOf_55 rfl ?_
    refine lv_isub X.1.1 X.1.2.1 d_pr_resultOf_58 ?_
    refine lv_iload_n X.1.1 X.1.2.1 d_pr_resultOf_59 rfl (lv_at L 2 rfl) ?_
    refine lv_sipush (v := 1000) X.1.1 X.1.2.1 d_pr_resultOf_60 rfl ?_
    refine lv_isub X.1.1 X.1.2.1 d_pr_resultOf_63 ?_
    refine lv_imul X.1.1 X.1.2.1 d_pr_resultOf_64 ?_
    refine Mi.callS (k := 1) (c_pr_numberWord hI _ _) X mw_402 mw_403 mw_4 mw_404 ok_pr_numberWord ⟨rfl, rfl, by decide, by decide⟩ rfl L.1 rfl (Nat.le_of_ble_eq_true rfl) d_pr_resultOf_65 (fun H locs X => ?_)
    exact X.iret hr hlk d_pr_resultOf_68 (by first | (simp only [resultOf, eq_false q1_0, eq_false q1_1, eq_true q1_2, if_true, if_false]; done) | (simp [resultOf, eq_false q1_0, eq_false q1_1, eq_true q1_2]; done) | (simp [resultOf, q1_0, q1_1, q1_2]; done) | rfl) rfl
  by_cases q1_3 : a = 3
  · refine lv_tableIn (tgt := 69) X.1.1 X.1.2.1 d_pr_resultOf_1 (by rw [q1_3]; decide) (by rw [q1_3]; decide) (by rw [q1_3]; rfl) rfl ?_
    refine lv_iload_n X.1.1 X.1.2.1 d_pr_resultOf_69 rfl (lv_at L 1 rfl) ?_
    refine lv_iload_n X.1.1 X.1.2.1 d_pr_resultOf_70 rfl (lv_at L 2 rfl) ?_
    refine lv_icmp_ge (tgt := 78) X.1.1 X.1.2.1 d_pr_resultOf_71 rfl (fun h71 => ?_) (fun h71 => ?_)
    · skip
      refine lv_iconst (v := 0) X.1.1 X.1.2.1 d_pr_resultOf_78 rfl ?_
      refine Mi.callS (k := 1) (c_pr_truth hI _ _) X mw_405 mw_406 mw_4 mw_407 ok_pr_truth ⟨rfl, rfl, by decide, by decide⟩ rfl L.1 rfl (Nat.le_of_ble_eq_true rfl) d_pr_resultOf_79 (fun H locs X => ?_)
      exact X.iret hr hlk d_pr_resultOf_82 (by first | (simp only [resultOf, eq_false q1_0, eq_false q1_1, eq_false q1_2, eq_true q1_3, eq_true h71, if_true, if_false]; done) | (simp [resultOf, eq_false q1_0, eq_false q1_1, eq_false q1_2, eq_true q1_3, eq_true h71]; done) | (simp [resultOf, q1_0, q1_1, q1_2, q1_3, h71]; done) | rfl) rfl
    · skip
      refine lv_iconst (v := 1) X.1.1 X.1.2.1 d_pr_resultOf_74 rfl ?_
      refine lv_goto (tgt := 79) X.1.1 X.1.2.1 d_pr_resultOf_75 rfl ?_
      refine Mi.callS (k := 1) (c_pr_truth hI _ _) X mw_405 mw_406 mw_4 mw_407 ok_pr_truth ⟨rfl, rfl, by decide, by decide⟩ rfl L.1 rfl (Nat.le_of_ble_eq_true rfl) d_pr_resultOf_79 (fun H locs X => ?_)
      exact X.iret hr hlk d_pr_resultOf_82 (by first | (simp only [resultOf, eq_false q1_0, eq_false q1_1, eq_false q1_2, eq_true q1_3, eq_false h71, if_true, if_false]; done) | (simp [resultOf, eq_false q1_0, eq_false q1_1, eq_false q1_2, eq_true q1_3, eq_false h71]; done) | (simp [resultOf, q1_0, q1_1, q1_2, q1_3, h71]; done) | rfl) rfl
  refine lv_tableOut (tgt := 83) X.1.1 X.1.2.1 d_pr_resultOf_1 (by have := lv_neT q1_0 (show (0 : Int32).toInt = 0 from rfl); have := lv_neT q1_1 (show (1 : Int32).toInt = 1 from rfl); have := lv_neT q1_2 (show (2 : Int32).toInt = 2 from rfl); have := lv_neT q1_3 (show (3 : Int32).toInt = 3 from rfl); omega) rfl ?_
  refine lv_iload_n X.1.1 X.1.2.1 d_pr_resultOf_83 rfl (lv_at L 1 rfl) ?_
  refine lv_iload_n X.1.1 X.1.2.1 d_pr_resultOf_84 rfl (lv_at L 2 rfl) ?_
  refine lv_icmp_ne (tgt := 92) X.1.1 X.1.2.1 d_pr_resultOf_85 rfl (fun h85 => ?_) (fun h85 => ?_)
  · skip
    refine lv_iconst (v := 0) X.1.1 X.1.2.1 d_pr_resultOf_92 rfl ?_
    refine Mi.callS (k := 1) (c_pr_truth hI _ _) X mw_405 mw_406 mw_4 mw_407 ok_pr_truth ⟨rfl, rfl, by decide, by decide⟩ rfl L.1 rfl (Nat.le_of_ble_eq_true rfl) d_pr_resultOf_93 (fun H locs X => ?_)
    exact X.iret hr hlk d_pr_resultOf_96 (by first | (simp only [resultOf, eq_false q1_0, eq_false q1_1, eq_false q1_2, eq_false q1_3, eq_false h85, if_true, if_false]; done) | (simp [resultOf, eq_false q1_0, eq_false q1_1, eq_false q1_2, eq_false q1_3, eq_false h85]; done) | (simp [resultOf, q1_0, q1_1, q1_2, q1_3, h85]; done) | rfl) rfl
  · skip
    refine lv_iconst (v := 1) X.1.1 X.1.2.1 d_pr_resultOf_88 rfl ?_
    refine lv_goto (tgt := 93) X.1.1 X.1.2.1 d_pr_resultOf_89 rfl ?_
    refine Mi.callS (k := 1) (c_pr_truth hI _ _) X mw_405 mw_406 mw_4 mw_407 ok_pr_truth ⟨rfl, rfl, by decide, by decide⟩ rfl L.1 rfl (Nat.le_of_ble_eq_true rfl) d_pr_resultOf_93 (fun H locs X => ?_)
    exact X.iret hr hlk d_pr_resultOf_96 (by first | (simp only [resultOf, eq_false q1_0, eq_false q1_1, eq_false q1_2, eq_false q1_3, eq_true h85, if_true, if_false]; done) | (simp [resultOf, eq_false q1_0, eq_false q1_1, eq_false q1_2, eq_false q1_3, eq_true h85]; done) | (simp [resultOf, q1_0, q1_1, q1_2, q1_3, h85]; done) | rfl) rfl
set_option maxHeartbeats 4000000 in
theorem c_pr_calculate {l : Launch} {D : va_G} {ad : Nat → Nat} {ci : Nat → ClassId} (hI : Inj ad) (σ : SS) (c a : Int32) (h_c : vp_in c 28) (hg : RG σ) (h2 : 2 ≤ (σ.1 10 (ix c)).toInt) : Mi l y_pr_calculate b_pr_calculate 6 (some .int) ({ frames := 3, cells := 0, slots := 0, locals := 67 } : Room) (EC D ad ci) [.ref (ad 3), .int c, .int a] σ ((calculate σ c a).1) ((calculate σ c a).2) := by
  refine Mi.start pn_pr (Nat.le_of_ble_eq_true rfl) (fun zp ze zs zm zb zt zc ls X hr hlk L => ?_)
  have L : lv_has ls 6 [(0, .ref (ad 3)), (1, .int c), (2, .int a)] := L
  have hd := hg.dep h_c
  have e2 := sub_in (K := 2) (k := 2) rfl h2 hd.2
  refine lv_aload_n X.1.1 X.1.2.1 d_pr_calculate_0 rfl (lv_at L 0 rfl) ?_
  refine g_pr_memory X d_pr_calculate_1 ?_
  refine lv_iload_n X.1.1 X.1.2.1 d_pr_calculate_4 rfl (lv_at L 1 rfl) ?_
  refine lv_iconst (v := 0) X.1.1 X.1.2.1 d_pr_calculate_5 rfl ?_
  refine Mi.callV (k := 2) (c_me_topBut hI _ _ _ h_c (by decide) (by rw [n0]; omega) hg) X (gt_V mw_389 mw_376 mw_377 mw_2 mw_378) ok_me_topBut ⟨rfl, rfl, by decide, by decide⟩ (rc_me X) rfl L.1 rfl (Nat.le_of_ble_eq_true rfl) d_pr_calculate_6 (fun H locs X => ?_)
  refine lv_istore_n (lv' := [(3, .int _), (0, .ref _), (1, .int _), (2, .int _)]) X.1.1 X.1.2.1 d_pr_calculate_9 rfl L (by decide) rfl (fun ls L => ?_)
  refine lv_aload_n X.1.1 X.1.2.1 d_pr_calculate_10 rfl (lv_at L 1 rfl) ?_
  refine g_pr_memory X d_pr_calculate_11 ?_
  refine lv_iload_n X.1.1 X.1.2.1 d_pr_calculate_14 rfl (lv_at L 2 rfl) ?_
  refine lv_iconst (v := 1) X.1.1 X.1.2.1 d_pr_calculate_15 rfl ?_
  refine Mi.callV (k := 2) (c_me_topBut hI _ _ _ h_c (by decide) (by rw [show (1 : Int32).toInt = 1 from rfl]; omega) hg) X (gt_V mw_389 mw_376 mw_377 mw_2 mw_378) ok_me_topBut ⟨rfl, rfl, by decide, by decide⟩ (rc_me X) rfl L.1 rfl (Nat.le_of_ble_eq_true rfl) d_pr_calculate_16 (fun H locs X => ?_)
  refine lv_istore (lv' := [(4, .int _), (3, .int _), (0, .ref _), (1, .int _), (2, .int _)]) X.1.1 X.1.2.1 d_pr_calculate_19 L (by decide) rfl (fun ls L => ?_)
  refine lv_iload_n X.1.1 X.1.2.1 d_pr_calculate_21 rfl (lv_at L 4 rfl) ?_
  refine lv_iconst (v := 4) X.1.1 X.1.2.1 d_pr_calculate_22 rfl ?_
  refine lv_icmp_gt (tgt := 46) X.1.1 X.1.2.1 d_pr_calculate_23 rfl (fun h23 => ?_) (fun h23 => ?_)
  · skip
    refine lv_iconst (v := 3) X.1.1 X.1.2.1 d_pr_calculate_46 rfl ?_
    exact X.iret hr hlk d_pr_calculate_47 (by first | (simp only [calculate, calcT, eq_true h23, if_true, if_false]; done) | (simp [calculate, calcT, eq_true h23]; done) | (simp [calculate, calcT, h23]; done) | rfl) (by first | (simp only [calculate, calcT, eq_true h23, if_true, if_false]; done) | (simp [calculate, calcT, eq_true h23]; done) | (simp [calculate, calcT, h23]; done) | rfl)
  · skip
    refine lv_iload_n X.1.1 X.1.2.1 d_pr_calculate_26 rfl (lv_at L 4 rfl) ?_
    refine lv_iconst (v := 4) X.1.1 X.1.2.1 d_pr_calculate_27 rfl ?_
    refine lv_icmp_eq (tgt := 48) X.1.1 X.1.2.1 d_pr_calculate_28 rfl (fun h28 => ?_) (fun h28 => ?_)
    · skip
      refine lv_iload_n X.1.1 X.1.2.1 d_pr_calculate_48 rfl (lv_at L 4 rfl) ?_
      refine lv_iload X.1.1 X.1.2.1 d_pr_calculate_49 (lv_at L 0 rfl) ?_
      refine lv_iload_n X.1.1 X.1.2.1 d_pr_calculate_51 rfl (lv_at L 1 rfl) ?_
      refine Mi.callS (k := 3) (c_pr_resultOf hI _ _ _ _) X mw_399 mw_400 mw_4 mw_401 ok_pr_resultOf ⟨rfl, rfl, by decide, by decide⟩ rfl L.1 rfl (Nat.le_of_ble_eq_true rfl) d_pr_calculate_52 (fun H locs X => ?_)
      refine lv_istore (lv' := [(5, .int _), (4, .int _), (3, .int _), (0, .ref _), (1, .int _), (2, .int _)]) X.1.1 X.1.2.1 d_pr_calculate_55 L (by decide) rfl (fun ls L => ?_)
      refine lv_iload X.1.1 X.1.2.1 d_pr_calculate_57 (lv_at L 0 rfl) ?_
      refine lv_iconst (v := (-1)) X.1.1 X.1.2.1 d_pr_calculate_59 rfl ?_
      refine lv_icmp_ne (tgt := 65) X.1.1 X.1.2.1 d_pr_calculate_60 rfl (fun h60 => ?_) (fun h60 => ?_)
      · skip
        refine lv_aload_n X.1.1 X.1.2.1 d_pr_calculate_65 rfl (lv_at L 3 rfl) ?_
        refine g_pr_memory X d_pr_calculate_66 ?_
        refine lv_iload_n X.1.1 X.1.2.1 d_pr_calculate_69 rfl (lv_at L 4 rfl) ?_
        refine lv_aload_n X.1.1 X.1.2.1 d_pr_calculate_70 rfl (lv_at L 3 rfl) ?_
        refine g_pr_memory X d_pr_calculate_71 ?_
        refine lv_iload_n X.1.1 X.1.2.1 d_pr_calculate_74 rfl (lv_at L 4 rfl) ?_
        refine Mi.callV (k := 1) (c_me_depthOf hI _ _ h_c) X (gt_V mw_331 mw_332 mw_333 mw_2 mw_334) ok_me_depthOf ⟨rfl, rfl, by decide, by decide⟩ (rc_me X) rfl L.1 rfl (Nat.le_of_ble_eq_true rfl) d_pr_calculate_75 (fun H locs X => ?_)
        refine lv_iconst (v := 2) X.1.1 X.1.2.1 d_pr_calculate_78 rfl ?_
        refine lv_isub X.1.1 X.1.2.1 d_pr_calculate_79 ?_
        refine Mv.callV (k := 2) (c_me_popDownTo hI _ _ _ h_c (by omega) (by omega) hg) X (gt_V mw_390 mw_391 mw_392 mw_2 mw_393) ok_me_popDownTo ⟨rfl, rfl, by decide, by decide⟩ (rc_me X) rfl L.1 rfl (Nat.le_of_ble_eq_true rfl) d_pr_calculate_80 (fun H locs X => ?_)
        refine lv_aload_n X.1.1 X.1.2.1 d_pr_calculate_83 rfl (lv_at L 3 rfl) ?_
        refine g_pr_memory X d_pr_calculate_84 ?_
        refine lv_iload_n X.1.1 X.1.2.1 d_pr_calculate_87 rfl (lv_at L 4 rfl) ?_
        refine lv_iload X.1.1 X.1.2.1 d_pr_calculate_88 (lv_at L 0 rfl) ?_
        refine Mv.callV (k := 2) (c_me_push hI _ _ _ h_c (by rw [popDownTo_10]; omega) (RG_popDownTo hg _ (by omega)) (resultOf_nn h60)) X (gt_V mw_353 mw_354 mw_355 mw_2 mw_356) ok_me_push ⟨rfl, rfl, by decide, by decide⟩ (rc_me X) rfl L.1 rfl (Nat.le_of_ble_eq_true rfl) d_pr_calculate_90 (fun H locs X => ?_)
        refine lv_iconst (v := 0) X.1.1 X.1.2.1 d_pr_calculate_93 rfl ?_
        exact X.iret hr hlk d_pr_calculate_94 (by first | (simp only [calculate, calcT, eq_false h23, eq_true h28, eq_false h60, if_true, if_false]; done) | (simp [calculate, calcT, eq_false h23, eq_true h28, eq_false h60]; done) | (simp [calculate, calcT, h23, h28, h60]; done) | rfl) (by first | (simp only [calculate, calcT, eq_false h23, eq_true h28, eq_false h60, if_true, if_false]; done) | (simp [calculate, calcT, eq_false h23, eq_true h28, eq_false h60]; done) | (simp [calculate, calcT, h23, h28, h60]; done) | rfl)
      · skip
        refine lv_iconst (v := 5) X.1.1 X.1.2.1 d_pr_calculate_63 rfl ?_
        exact X.iret hr hlk d_pr_calculate_64 (by first | (simp only [calculate, calcT, eq_false h23, eq_true h28, eq_true h60, if_true, if_false]; done) | (simp [calculate, calcT, eq_false h23, eq_true h28, eq_true h60]; done) | (simp [calculate, calcT, h23, h28, h60]; done) | rfl) (by first | (simp only [calculate, calcT, eq_false h23, eq_true h28, eq_true h60, if_true, if_false]; done) | (simp [calculate, calcT, eq_false h23, eq_true h28, eq_true h60]; done) | (simp [calculate, calcT, h23, h28, h60]; done) | rfl)
    · skip
      refine lv_iload X.1.1 X.1.2.1 d_pr_calculate_31 (lv_at L 0 rfl) ?_
      refine Mi.callN (k := 1) (c_mm_isObject hI _ _) X X.2.2.1.2.2.2 mw_246 mw_1 mw_247 ok_mm_isObject ⟨rfl, rfl, by decide, by decide⟩ rfl L.1 rfl (Nat.le_of_ble_eq_true rfl) d_pr_calculate_33 (fun H locs X => ?_)
      refine lv_if_ne (tgt := 46) X.1.1 X.1.2.1 d_pr_calculate_36 rfl (fun h36 => ?_) (fun h36 => ?_)
      · skip
        refine lv_iconst (v := 3) X.1.1 X.1.2.1 d_pr_calculate_46 rfl ?_
        exact X.iret hr hlk d_pr_calculate_47 (by first | (simp only [calculate, calcT, eq_false h23, eq_false h28, eq_false h36, if_true, if_false]; done) | (simp [calculate, calcT, eq_false h23, eq_false h28, eq_false h36]; done) | (simp [calculate, calcT, h23, h28, h36]; done) | rfl) (by first | (simp only [calculate, calcT, eq_false h23, eq_false h28, eq_false h36, if_true, if_false]; done) | (simp [calculate, calcT, eq_false h23, eq_false h28, eq_false h36]; done) | (simp [calculate, calcT, h23, h28, h36]; done) | rfl)
      · skip
        refine lv_iload_n X.1.1 X.1.2.1 d_pr_calculate_39 rfl (lv_at L 1 rfl) ?_
        refine Mi.callN (k := 1) (c_mm_isObject hI _ _) X X.2.2.1.2.2.2 mw_246 mw_1 mw_247 ok_mm_isObject ⟨rfl, rfl, by decide, by decide⟩ rfl L.1 rfl (Nat.le_of_ble_eq_true rfl) d_pr_calculate_40 (fun H locs X => ?_)
        refine lv_if_eq (tgt := 48) X.1.1 X.1.2.1 d_pr_calculate_43 rfl (fun h43 => ?_) (fun h43 => ?_)
        · skip
          refine lv_iload_n X.1.1 X.1.2.1 d_pr_calculate_48 rfl (lv_at L 4 rfl) ?_
          refine lv_iload X.1.1 X.1.2.1 d_pr_calculate_49 (lv_at L 0 rfl) ?_
          refine lv_iload_n X.1.1 X.1.2.1 d_pr_calculate_51 rfl (lv_at L 1 rfl) ?_
          refine Mi.callS (k := 3) (c_pr_resultOf hI _ _ _ _) X mw_399 mw_400 mw_4 mw_401 ok_pr_resultOf ⟨rfl, rfl, by decide, by decide⟩ rfl L.1 rfl (Nat.le_of_ble_eq_true rfl) d_pr_calculate_52 (fun H locs X => ?_)
          refine lv_istore (lv' := [(5, .int _), (4, .int _), (3, .int _), (0, .ref _), (1, .int _), (2, .int _)]) X.1.1 X.1.2.1 d_pr_calculate_55 L (by decide) rfl (fun ls L => ?_)
          refine lv_iload X.1.1 X.1.2.1 d_pr_calculate_57 (lv_at L 0 rfl) ?_
          refine lv_iconst (v := (-1)) X.1.1 X.1.2.1 d_pr_calculate_59 rfl ?_
          refine lv_icmp_ne (tgt := 65) X.1.1 X.1.2.1 d_pr_calculate_60 rfl (fun h60 => ?_) (fun h60 => ?_)
          · skip
            refine lv_aload_n X.1.1 X.1.2.1 d_pr_calculate_65 rfl (lv_at L 3 rfl) ?_
            refine g_pr_memory X d_pr_calculate_66 ?_
            refine lv_iload_n X.1.1 X.1.2.1 d_pr_calculate_69 rfl (lv_at L 4 rfl) ?_
            refine lv_aload_n X.1.1 X.1.2.1 d_pr_calculate_70 rfl (lv_at L 3 rfl) ?_
            refine g_pr_memory X d_pr_calculate_71 ?_
            refine lv_iload_n X.1.1 X.1.2.1 d_pr_calculate_74 rfl (lv_at L 4 rfl) ?_
            refine Mi.callV (k := 1) (c_me_depthOf hI _ _ h_c) X (gt_V mw_331 mw_332 mw_333 mw_2 mw_334) ok_me_depthOf ⟨rfl, rfl, by decide, by decide⟩ (rc_me X) rfl L.1 rfl (Nat.le_of_ble_eq_true rfl) d_pr_calculate_75 (fun H locs X => ?_)
            refine lv_iconst (v := 2) X.1.1 X.1.2.1 d_pr_calculate_78 rfl ?_
            refine lv_isub X.1.1 X.1.2.1 d_pr_calculate_79 ?_
            refine Mv.callV (k := 2) (c_me_popDownTo hI _ _ _ h_c (by omega) (by omega) hg) X (gt_V mw_390 mw_391 mw_392 mw_2 mw_393) ok_me_popDownTo ⟨rfl, rfl, by decide, by decide⟩ (rc_me X) rfl L.1 rfl (Nat.le_of_ble_eq_true rfl) d_pr_calculate_80 (fun H locs X => ?_)
            refine lv_aload_n X.1.1 X.1.2.1 d_pr_calculate_83 rfl (lv_at L 3 rfl) ?_
            refine g_pr_memory X d_pr_calculate_84 ?_
            refine lv_iload_n X.1.1 X.1.2.1 d_pr_calculate_87 rfl (lv_at L 4 rfl) ?_
            refine lv_iload X.1.1 X.1.2.1 d_pr_calculate_88 (lv_at L 0 rfl) ?_
            refine Mv.callV (k := 2) (c_me_push hI _ _ _ h_c (by rw [popDownTo_10]; omega) (RG_popDownTo hg _ (by omega)) (resultOf_nn h60)) X (gt_V mw_353 mw_354 mw_355 mw_2 mw_356) ok_me_push ⟨rfl, rfl, by decide, by decide⟩ (rc_me X) rfl L.1 rfl (Nat.le_of_ble_eq_true rfl) d_pr_calculate_90 (fun H locs X => ?_)
            refine lv_iconst (v := 0) X.1.1 X.1.2.1 d_pr_calculate_93 rfl ?_
            exact X.iret hr hlk d_pr_calculate_94 (by first | (simp only [calculate, calcT, eq_false h23, eq_false h28, eq_true h36, eq_true h43, eq_false h60, if_true, if_false]; done) | (simp [calculate, calcT, eq_false h23, eq_false h28, eq_true h36, eq_true h43, eq_false h60]; done) | (simp [calculate, calcT, h23, h28, h36, h43, h60]; done) | rfl) (by first | (simp only [calculate, calcT, eq_false h23, eq_false h28, eq_true h36, eq_true h43, eq_false h60, if_true, if_false]; done) | (simp [calculate, calcT, eq_false h23, eq_false h28, eq_true h36, eq_true h43, eq_false h60]; done) | (simp [calculate, calcT, h23, h28, h36, h43, h60]; done) | rfl)
          · skip
            refine lv_iconst (v := 5) X.1.1 X.1.2.1 d_pr_calculate_63 rfl ?_
            exact X.iret hr hlk d_pr_calculate_64 (by first | (simp only [calculate, calcT, eq_false h23, eq_false h28, eq_true h36, eq_true h43, eq_true h60, if_true, if_false]; done) | (simp [calculate, calcT, eq_false h23, eq_false h28, eq_true h36, eq_true h43, eq_true h60]; done) | (simp [calculate, calcT, h23, h28, h36, h43, h60]; done) | rfl) (by first | (simp only [calculate, calcT, eq_false h23, eq_false h28, eq_true h36, eq_true h43, eq_true h60, if_true, if_false]; done) | (simp [calculate, calcT, eq_false h23, eq_false h28, eq_true h36, eq_true h43, eq_true h60]; done) | (simp [calculate, calcT, h23, h28, h36, h43, h60]; done) | rfl)
        · skip
          refine lv_iconst (v := 3) X.1.1 X.1.2.1 d_pr_calculate_46 rfl ?_
          exact X.iret hr hlk d_pr_calculate_47 (by first | (simp only [calculate, calcT, eq_false h23, eq_false h28, eq_true h36, eq_false h43, if_true, if_false]; done) | (simp [calculate, calcT, eq_false h23, eq_false h28, eq_true h36, eq_false h43]; done) | (simp [calculate, calcT, h23, h28, h36, h43]; done) | rfl) (by first | (simp only [calculate, calcT, eq_false h23, eq_false h28, eq_true h36, eq_false h43, if_true, if_false]; done) | (simp [calculate, calcT, eq_false h23, eq_false h28, eq_true h36, eq_false h43]; done) | (simp [calculate, calcT, h23, h28, h36, h43]; done) | rfl)
set_option maxHeartbeats 4000000 in
theorem c_pr_forward {l : Launch} {D : va_G} {ad : Nat → Nat} {ci : Nat → ClassId} (hI : Inj ad) (σ : SS) (c a : Int32) (h_c : vp_in c 28) (hg : RG σ) (n_q : 0 ≤ (1000 + (placeOf σ c + a)).toInt) : Mi l y_pr_forward b_pr_forward 4 (some .int) ({ frames := 3, cells := 0, slots := 0, locals := 66 } : Room) (EC D ad ci) [.ref (ad 3), .int c, .int a] σ ((forward σ c a).1) ((forward σ c a).2) := by
  refine Mi.start pn_pr (Nat.le_of_ble_eq_true rfl) (fun zp ze zs zm zb zt zc ls X hr hlk L => ?_)
  have L : lv_has ls 4 [(0, .ref (ad 3)), (1, .int c), (2, .int a)] := L
  refine lv_aload_n X.1.1 X.1.2.1 d_pr_forward_0 rfl (lv_at L 0 rfl) ?_
  refine lv_iload_n X.1.1 X.1.2.1 d_pr_forward_1 rfl (lv_at L 1 rfl) ?_
  refine Mi.callV (k := 1) (c_pr_placeOf hI _ _ h_c) X (gt_V mw_311 mw_313 ms_10 mw_4 mw_314) ok_pr_placeOf ⟨rfl, rfl, by decide, by decide⟩ (rc_pr X) rfl L.1 rfl (Nat.le_of_ble_eq_true rfl) d_pr_forward_2 (fun H locs X => ?_)
  refine lv_iload_n X.1.1 X.1.2.1 d_pr_forward_5 rfl (lv_at L 2 rfl) ?_
  refine lv_iadd X.1.1 X.1.2.1 d_pr_forward_6 ?_
  refine lv_istore_n (lv' := [(3, .int _), (0, .ref _), (1, .int _), (2, .int _)]) X.1.1 X.1.2.1 d_pr_forward_7 rfl L (by decide) rfl (fun ls L => ?_)
  refine lv_iload_n X.1.1 X.1.2.1 d_pr_forward_8 rfl (lv_at L 0 rfl) ?_
  refine lv_bipush (v := 16) X.1.1 X.1.2.1 d_pr_forward_9 rfl ?_
  refine lv_icmp_le (tgt := 16) X.1.1 X.1.2.1 d_pr_forward_11 rfl (fun h11 => ?_) (fun h11 => ?_)
  · skip
    refine lv_aload_n X.1.1 X.1.2.1 d_pr_forward_16 rfl (lv_at L 1 rfl) ?_
    refine lv_iload_n X.1.1 X.1.2.1 d_pr_forward_17 rfl (lv_at L 2 rfl) ?_
    refine lv_iload_n X.1.1 X.1.2.1 d_pr_forward_18 rfl (lv_at L 0 rfl) ?_
    refine Mv.callV (k := 2) (c_pr_setPlace hI _ _ _ h_c hg n_q) X (gt_V mw_341 mw_343 ms_14 mw_4 mw_344) ok_pr_setPlace ⟨rfl, rfl, by decide, by decide⟩ (rc_pr X) rfl L.1 rfl (Nat.le_of_ble_eq_true rfl) d_pr_forward_19 (fun H locs X => ?_)
    refine lv_iconst (v := 0) X.1.1 X.1.2.1 d_pr_forward_22 rfl ?_
    exact X.iret hr hlk d_pr_forward_23 (by first | (simp only [forward, eq_true h11, if_true, if_false]; done) | (simp [forward, eq_true h11]; done) | (simp [forward, h11]; done) | rfl) (by first | (simp only [forward, eq_true h11, if_true, if_false]; done) | (simp [forward, eq_true h11]; done) | (simp [forward, h11]; done) | rfl)
  · skip
    refine lv_iconst (v := 3) X.1.1 X.1.2.1 d_pr_forward_14 rfl ?_
    exact X.iret hr hlk d_pr_forward_15 (by first | (simp only [forward, eq_false h11, if_true, if_false]; done) | (simp [forward, eq_false h11]; done) | (simp [forward, h11]; done) | rfl) (by first | (simp only [forward, eq_false h11, if_true, if_false]; done) | (simp [forward, eq_false h11]; done) | (simp [forward, h11]; done) | rfl)
set_option maxHeartbeats 4000000 in
theorem c_pr_forwardIfNil {l : Launch} {D : va_G} {ad : Nat → Nat} {ci : Nat → ClassId} (hI : Inj ad) (σ : SS) (c a : Int32) (h_c : vp_in c 28) (hg : RG σ) (h1 : 1 ≤ (σ.1 10 (ix c)).toInt) (n_q : 0 ≤ (1000 + fin σ c a).toInt) : Mi l y_pr_forwardIfNil b_pr_forwardIfNil 4 (some .int) ({ frames := 3, cells := 0, slots := 0, locals := 66 } : Room) (EC D ad ci) [.ref (ad 3), .int c, .int a] σ ((forwardIfNil σ c a).1) ((forwardIfNil σ c a).2) := by
  refine Mi.start pn_pr (Nat.le_of_ble_eq_true rfl) (fun zp ze zs zm zb zt zc ls X hr hlk L => ?_)
  have L : lv_has ls 4 [(0, .ref (ad 3)), (1, .int c), (2, .int a)] := L
  refine lv_aload_n X.1.1 X.1.2.1 d_pr_forwardIfNil_0 rfl (lv_at L 0 rfl) ?_
  refine lv_iload_n X.1.1 X.1.2.1 d_pr_forwardIfNil_1 rfl (lv_at L 1 rfl) ?_
  refine Mi.callV (k := 1) (c_pr_placeOf hI _ _ h_c) X (gt_V mw_311 mw_313 ms_10 mw_4 mw_314) ok_pr_placeOf ⟨rfl, rfl, by decide, by decide⟩ (rc_pr X) rfl L.1 rfl (Nat.le_of_ble_eq_true rfl) d_pr_forwardIfNil_2 (fun H locs X => ?_)
  refine lv_aload_n X.1.1 X.1.2.1 d_pr_forwardIfNil_5 rfl (lv_at L 0 rfl) ?_
  refine g_pr_memory X d_pr_forwardIfNil_6 ?_
  refine lv_iload_n X.1.1 X.1.2.1 d_pr_forwardIfNil_9 rfl (lv_at L 1 rfl) ?_
  refine lv_iconst (v := 0) X.1.1 X.1.2.1 d_pr_forwardIfNil_10 rfl ?_
  refine Mi.callV (k := 2) (c_me_topBut hI _ _ _ h_c (by decide) (by rw [n0]; omega) hg) X (gt_V mw_389 mw_376 mw_377 mw_2 mw_378) ok_me_topBut ⟨rfl, rfl, by decide, by decide⟩ (rc_me X) rfl L.1 rfl (Nat.le_of_ble_eq_true rfl) d_pr_forwardIfNil_11 (fun H locs X => ?_)
  refine lv_if_ne (tgt := 21) X.1.1 X.1.2.1 d_pr_forwardIfNil_14 rfl (fun h14 => ?_) (fun h14 => ?_)
  · skip
    refine lv_iconst (v := 0) X.1.1 X.1.2.1 d_pr_forwardIfNil_21 rfl ?_
    refine lv_iadd X.1.1 X.1.2.1 d_pr_forwardIfNil_22 ?_
    refine lv_istore_n (lv' := [(3, .int _), (0, .ref _), (1, .int _), (2, .int _)]) X.1.1 X.1.2.1 d_pr_forwardIfNil_23 rfl L (by decide) rfl (fun ls L => ?_)
    refine lv_iload_n X.1.1 X.1.2.1 d_pr_forwardIfNil_24 rfl (lv_at L 0 rfl) ?_
    refine lv_bipush (v := 16) X.1.1 X.1.2.1 d_pr_forwardIfNil_25 rfl ?_
    refine lv_icmp_le (tgt := 32) X.1.1 X.1.2.1 d_pr_forwardIfNil_27 rfl (fun h27 => ?_) (fun h27 => ?_)
    · skip
      refine lv_aload_n X.1.1 X.1.2.1 d_pr_forwardIfNil_32 rfl (lv_at L 1 rfl) ?_
      refine g_pr_memory X d_pr_forwardIfNil_33 ?_
      refine lv_iload_n X.1.1 X.1.2.1 d_pr_forwardIfNil_36 rfl (lv_at L 2 rfl) ?_
      refine Mi.callV (k := 1) (c_me_pop hI _ _ h_c h1 hg) X (gt_V mw_371 mw_372 mw_373 mw_2 mw_374) ok_me_pop ⟨rfl, rfl, by decide, by decide⟩ (rc_me X) rfl L.1 rfl (Nat.le_of_ble_eq_true rfl) d_pr_forwardIfNil_37 (fun H locs X => ?_)
      refine lv_pop X.1.1 X.1.2.1 d_pr_forwardIfNil_40 rfl ?_
      refine lv_aload_n X.1.1 X.1.2.1 d_pr_forwardIfNil_41 rfl (lv_at L 1 rfl) ?_
      refine lv_iload_n X.1.1 X.1.2.1 d_pr_forwardIfNil_42 rfl (lv_at L 2 rfl) ?_
      refine lv_iload_n X.1.1 X.1.2.1 d_pr_forwardIfNil_43 rfl (lv_at L 0 rfl) ?_
      refine Mv.callV (k := 2) (c_pr_setPlace hI _ _ _ h_c (RG_pop hg h_c h1) (by first | (rw [fin_z h14] at n_q; exact n_q) | (rw [fin_n h14] at n_q; exact n_q))) X (gt_V mw_341 mw_343 ms_14 mw_4 mw_344) ok_pr_setPlace ⟨rfl, rfl, by decide, by decide⟩ (rc_pr X) rfl L.1 rfl (Nat.le_of_ble_eq_true rfl) d_pr_forwardIfNil_44 (fun H locs X => ?_)
      refine lv_iconst (v := 0) X.1.1 X.1.2.1 d_pr_forwardIfNil_47 rfl ?_
      exact X.iret hr hlk d_pr_forwardIfNil_48 (by first | (simp only [forwardIfNil, fin, eq_false h14, eq_true h27, if_true, if_false]; done) | (simp [forwardIfNil, fin, eq_false h14, eq_true h27]; done) | (simp [forwardIfNil, fin, h14, h27]; done) | rfl) (by first | (simp only [forwardIfNil, fin, eq_false h14, eq_true h27, if_true, if_false]; done) | (simp [forwardIfNil, fin, eq_false h14, eq_true h27]; done) | (simp [forwardIfNil, fin, h14, h27]; done) | rfl)
    · skip
      refine lv_iconst (v := 3) X.1.1 X.1.2.1 d_pr_forwardIfNil_30 rfl ?_
      exact X.iret hr hlk d_pr_forwardIfNil_31 (by first | (simp only [forwardIfNil, fin, eq_false h14, eq_false h27, if_true, if_false]; done) | (simp [forwardIfNil, fin, eq_false h14, eq_false h27]; done) | (simp [forwardIfNil, fin, h14, h27]; done) | rfl) (by first | (simp only [forwardIfNil, fin, eq_false h14, eq_false h27, if_true, if_false]; done) | (simp [forwardIfNil, fin, eq_false h14, eq_false h27]; done) | (simp [forwardIfNil, fin, h14, h27]; done) | rfl)
  · skip
    refine lv_iload_n X.1.1 X.1.2.1 d_pr_forwardIfNil_17 rfl (lv_at L 2 rfl) ?_
    refine lv_goto (tgt := 22) X.1.1 X.1.2.1 d_pr_forwardIfNil_18 rfl ?_
    refine lv_iadd X.1.1 X.1.2.1 d_pr_forwardIfNil_22 ?_
    refine lv_istore_n (lv' := [(3, .int _), (0, .ref _), (1, .int _), (2, .int _)]) X.1.1 X.1.2.1 d_pr_forwardIfNil_23 rfl L (by decide) rfl (fun ls L => ?_)
    refine lv_iload_n X.1.1 X.1.2.1 d_pr_forwardIfNil_24 rfl (lv_at L 0 rfl) ?_
    refine lv_bipush (v := 16) X.1.1 X.1.2.1 d_pr_forwardIfNil_25 rfl ?_
    refine lv_icmp_le (tgt := 32) X.1.1 X.1.2.1 d_pr_forwardIfNil_27 rfl (fun h27 => ?_) (fun h27 => ?_)
    · skip
      refine lv_aload_n X.1.1 X.1.2.1 d_pr_forwardIfNil_32 rfl (lv_at L 1 rfl) ?_
      refine g_pr_memory X d_pr_forwardIfNil_33 ?_
      refine lv_iload_n X.1.1 X.1.2.1 d_pr_forwardIfNil_36 rfl (lv_at L 2 rfl) ?_
      refine Mi.callV (k := 1) (c_me_pop hI _ _ h_c h1 hg) X (gt_V mw_371 mw_372 mw_373 mw_2 mw_374) ok_me_pop ⟨rfl, rfl, by decide, by decide⟩ (rc_me X) rfl L.1 rfl (Nat.le_of_ble_eq_true rfl) d_pr_forwardIfNil_37 (fun H locs X => ?_)
      refine lv_pop X.1.1 X.1.2.1 d_pr_forwardIfNil_40 rfl ?_
      refine lv_aload_n X.1.1 X.1.2.1 d_pr_forwardIfNil_41 rfl (lv_at L 1 rfl) ?_
      refine lv_iload_n X.1.1 X.1.2.1 d_pr_forwardIfNil_42 rfl (lv_at L 2 rfl) ?_
      refine lv_iload_n X.1.1 X.1.2.1 d_pr_forwardIfNil_43 rfl (lv_at L 0 rfl) ?_
      refine Mv.callV (k := 2) (c_pr_setPlace hI _ _ _ h_c (RG_pop hg h_c h1) (by first | (rw [fin_z h14] at n_q; exact n_q) | (rw [fin_n h14] at n_q; exact n_q))) X (gt_V mw_341 mw_343 ms_14 mw_4 mw_344) ok_pr_setPlace ⟨rfl, rfl, by decide, by decide⟩ (rc_pr X) rfl L.1 rfl (Nat.le_of_ble_eq_true rfl) d_pr_forwardIfNil_44 (fun H locs X => ?_)
      refine lv_iconst (v := 0) X.1.1 X.1.2.1 d_pr_forwardIfNil_47 rfl ?_
      exact X.iret hr hlk d_pr_forwardIfNil_48 (by first | (simp only [forwardIfNil, fin, eq_true h14, eq_true h27, if_true, if_false]; done) | (simp [forwardIfNil, fin, eq_true h14, eq_true h27]; done) | (simp [forwardIfNil, fin, h14, h27]; done) | rfl) (by first | (simp only [forwardIfNil, fin, eq_true h14, eq_true h27, if_true, if_false]; done) | (simp [forwardIfNil, fin, eq_true h14, eq_true h27]; done) | (simp [forwardIfNil, fin, h14, h27]; done) | rfl)
    · skip
      refine lv_iconst (v := 3) X.1.1 X.1.2.1 d_pr_forwardIfNil_30 rfl ?_
      exact X.iret hr hlk d_pr_forwardIfNil_31 (by first | (simp only [forwardIfNil, fin, eq_true h14, eq_false h27, if_true, if_false]; done) | (simp [forwardIfNil, fin, eq_true h14, eq_false h27]; done) | (simp [forwardIfNil, fin, h14, h27]; done) | rfl) (by first | (simp only [forwardIfNil, fin, eq_true h14, eq_false h27, if_true, if_false]; done) | (simp [forwardIfNil, fin, eq_true h14, eq_false h27]; done) | (simp [forwardIfNil, fin, h14, h27]; done) | rfl)
set_option maxHeartbeats 4000000 in
theorem c_pr_back {l : Launch} {D : va_G} {ad : Nat → Nat} {ci : Nat → ClassId} (hI : Inj ad) (σ : SS) (c a : Int32) (h_c : vp_in c 28) (hg : RG σ) (n_q : 0 ≤ placeOf σ c - (a + 1) → 0 ≤ (1000 + (placeOf σ c - (a + 1))).toInt) : Mi l y_pr_back b_pr_back 4 (some .int) ({ frames := 3, cells := 0, slots := 0, locals := 66 } : Room) (EC D ad ci) [.ref (ad 3), .int c, .int a] σ ((back σ c a).1) ((back σ c a).2) := by
  refine Mi.start pn_pr (Nat.le_of_ble_eq_true rfl) (fun zp ze zs zm zb zt zc ls X hr hlk L => ?_)
  have L : lv_has ls 4 [(0, .ref (ad 3)), (1, .int c), (2, .int a)] := L
  refine lv_aload_n X.1.1 X.1.2.1 d_pr_back_0 rfl (lv_at L 0 rfl) ?_
  refine lv_iload_n X.1.1 X.1.2.1 d_pr_back_1 rfl (lv_at L 1 rfl) ?_
  refine Mi.callV (k := 1) (c_pr_placeOf hI _ _ h_c) X (gt_V mw_311 mw_313 ms_10 mw_4 mw_314) ok_pr_placeOf ⟨rfl, rfl, by decide, by decide⟩ (rc_pr X) rfl L.1 rfl (Nat.le_of_ble_eq_true rfl) d_pr_back_2 (fun H locs X => ?_)
  refine lv_iload_n X.1.1 X.1.2.1 d_pr_back_5 rfl (lv_at L 2 rfl) ?_
  refine lv_iconst (v := 1) X.1.1 X.1.2.1 d_pr_back_6 rfl ?_
  refine lv_iadd X.1.1 X.1.2.1 d_pr_back_7 ?_
  refine lv_isub X.1.1 X.1.2.1 d_pr_back_8 ?_
  refine lv_istore_n (lv' := [(3, .int _), (0, .ref _), (1, .int _), (2, .int _)]) X.1.1 X.1.2.1 d_pr_back_9 rfl L (by decide) rfl (fun ls L => ?_)
  refine lv_iload_n X.1.1 X.1.2.1 d_pr_back_10 rfl (lv_at L 0 rfl) ?_
  refine lv_if_ge (tgt := 16) X.1.1 X.1.2.1 d_pr_back_11 rfl (fun h11 => ?_) (fun h11 => ?_)
  · skip
    refine lv_aload_n X.1.1 X.1.2.1 d_pr_back_16 rfl (lv_at L 1 rfl) ?_
    refine lv_iload_n X.1.1 X.1.2.1 d_pr_back_17 rfl (lv_at L 2 rfl) ?_
    refine lv_iload_n X.1.1 X.1.2.1 d_pr_back_18 rfl (lv_at L 0 rfl) ?_
    refine Mv.callV (k := 2) (c_pr_setPlace hI _ _ _ h_c hg (n_q h11)) X (gt_V mw_341 mw_343 ms_14 mw_4 mw_344) ok_pr_setPlace ⟨rfl, rfl, by decide, by decide⟩ (rc_pr X) rfl L.1 rfl (Nat.le_of_ble_eq_true rfl) d_pr_back_19 (fun H locs X => ?_)
    refine lv_iconst (v := 0) X.1.1 X.1.2.1 d_pr_back_22 rfl ?_
    exact X.iret hr hlk d_pr_back_23 (by first | (simp only [back, eq_true h11, if_true, if_false]; done) | (simp [back, eq_true h11]; done) | (simp [back, h11]; done) | rfl) (by first | (simp only [back, eq_true h11, if_true, if_false]; done) | (simp [back, eq_true h11]; done) | (simp [back, h11]; done) | rfl)
  · skip
    refine lv_iconst (v := 3) X.1.1 X.1.2.1 d_pr_back_14 rfl ?_
    exact X.iret hr hlk d_pr_back_15 (by first | (simp only [back, eq_false h11, if_true, if_false]; done) | (simp [back, eq_false h11]; done) | (simp [back, h11]; done) | rfl) (by first | (simp only [back, eq_false h11, if_true, if_false]; done) | (simp [back, eq_false h11]; done) | (simp [back, h11]; done) | rfl)
set_option maxHeartbeats 4000000 in
theorem c_pr_doubleOrPop {l : Launch} {D : va_G} {ad : Nat → Nat} {ci : Nat → ClassId} (hI : Inj ad) (σ : SS) (c a : Int32) (h_c : vp_in c 28) (hg : RG σ) (h1 : a ≤ 1 → 1 ≤ (σ.1 10 (ix c)).toInt) (hd : a = 0 → (σ.1 10 (ix c)).toInt < 6) : Mi l y_pr_doubleOrPop b_pr_doubleOrPop 3 (some .int) ({ frames := 3, cells := 0, slots := 0, locals := 66 } : Room) (EC D ad ci) [.ref (ad 3), .int c, .int a] σ ((doubleOrPop σ c a).1) ((doubleOrPop σ c a).2) := by
  refine Mi.start pn_pr (Nat.le_of_ble_eq_true rfl) (fun zp ze zs zm zb zt zc ls X hr hlk L => ?_)
  have L : lv_has ls 3 [(0, .ref (ad 3)), (1, .int c), (2, .int a)] := L
  refine lv_iload_n X.1.1 X.1.2.1 d_pr_doubleOrPop_0 rfl (lv_at L 2 rfl) ?_
  refine lv_iconst (v := 1) X.1.1 X.1.2.1 d_pr_doubleOrPop_1 rfl ?_
  refine lv_icmp_le (tgt := 7) X.1.1 X.1.2.1 d_pr_doubleOrPop_2 rfl (fun h2 => ?_) (fun h2 => ?_)
  · skip
    have h1 := h1 h2
    refine lv_iload_n X.1.1 X.1.2.1 d_pr_doubleOrPop_7 rfl (lv_at L 2 rfl) ?_
    refine lv_if_ne (tgt := 31) X.1.1 X.1.2.1 d_pr_doubleOrPop_8 rfl (fun h8 => ?_) (fun h8 => ?_)
    · skip
      refine lv_aload_n X.1.1 X.1.2.1 d_pr_doubleOrPop_31 rfl (lv_at L 0 rfl) ?_
      refine g_pr_memory X d_pr_doubleOrPop_32 ?_
      refine lv_iload_n X.1.1 X.1.2.1 d_pr_doubleOrPop_35 rfl (lv_at L 1 rfl) ?_
      refine Mi.callV (k := 1) (c_me_pop hI _ _ h_c h1 hg) X (gt_V mw_371 mw_372 mw_373 mw_2 mw_374) ok_me_pop ⟨rfl, rfl, by decide, by decide⟩ (rc_me X) rfl L.1 rfl (Nat.le_of_ble_eq_true rfl) d_pr_doubleOrPop_36 (fun H locs X => ?_)
      refine lv_pop X.1.1 X.1.2.1 d_pr_doubleOrPop_39 rfl ?_
      refine lv_iconst (v := 0) X.1.1 X.1.2.1 d_pr_doubleOrPop_40 rfl ?_
      exact X.iret hr hlk d_pr_doubleOrPop_41 (by first | (simp only [doubleOrPop, eq_true h2, eq_false h8, if_true, if_false]; done) | (simp [doubleOrPop, eq_true h2, eq_false h8]; done) | (simp [doubleOrPop, h2, h8]; done) | rfl) (by first | (simp only [doubleOrPop, eq_true h2, eq_false h8, if_true, if_false]; done) | (simp [doubleOrPop, eq_true h2, eq_false h8]; done) | (simp [doubleOrPop, h2, h8]; done) | rfl)
    · skip
      refine lv_aload_n X.1.1 X.1.2.1 d_pr_doubleOrPop_11 rfl (lv_at L 0 rfl) ?_
      refine g_pr_memory X d_pr_doubleOrPop_12 ?_
      refine lv_iload_n X.1.1 X.1.2.1 d_pr_doubleOrPop_15 rfl (lv_at L 1 rfl) ?_
      refine lv_aload_n X.1.1 X.1.2.1 d_pr_doubleOrPop_16 rfl (lv_at L 0 rfl) ?_
      refine g_pr_memory X d_pr_doubleOrPop_17 ?_
      refine lv_iload_n X.1.1 X.1.2.1 d_pr_doubleOrPop_20 rfl (lv_at L 1 rfl) ?_
      refine lv_iconst (v := 0) X.1.1 X.1.2.1 d_pr_doubleOrPop_21 rfl ?_
      refine Mi.callV (k := 2) (c_me_topBut hI _ _ _ h_c (by decide) (by rw [n0]; omega) hg) X (gt_V mw_389 mw_376 mw_377 mw_2 mw_378) ok_me_topBut ⟨rfl, rfl, by decide, by decide⟩ (rc_me X) rfl L.1 rfl (Nat.le_of_ble_eq_true rfl) d_pr_doubleOrPop_22 (fun H locs X => ?_)
      refine Mv.callV (k := 2) (c_me_push hI _ _ _ h_c (hd h8) hg (hg.top h_c (by decide) (by rw [n0]; omega))) X (gt_V mw_353 mw_354 mw_355 mw_2 mw_356) ok_me_push ⟨rfl, rfl, by decide, by decide⟩ (rc_me X) rfl L.1 rfl (Nat.le_of_ble_eq_true rfl) d_pr_doubleOrPop_25 (fun H locs X => ?_)
      refine lv_goto (tgt := 40) X.1.1 X.1.2.1 d_pr_doubleOrPop_28 rfl ?_
      refine lv_iconst (v := 0) X.1.1 X.1.2.1 d_pr_doubleOrPop_40 rfl ?_
      exact X.iret hr hlk d_pr_doubleOrPop_41 (by first | (simp only [doubleOrPop, eq_true h2, eq_true h8, if_true, if_false]; done) | (simp [doubleOrPop, eq_true h2, eq_true h8]; done) | (simp [doubleOrPop, h2, h8]; done) | rfl) (by first | (simp only [doubleOrPop, eq_true h2, eq_true h8, if_true, if_false]; done) | (simp [doubleOrPop, eq_true h2, eq_true h8]; done) | (simp [doubleOrPop, h2, h8]; done) | rfl)
  · skip
    refine lv_iconst (v := 3) X.1.1 X.1.2.1 d_pr_doubleOrPop_5 rfl ?_
    exact X.iret hr hlk d_pr_doubleOrPop_6 (by first | (simp only [doubleOrPop, eq_false h2, if_true, if_false]; done) | (simp [doubleOrPop, eq_false h2]; done) | (simp [doubleOrPop, h2]; done) | rfl) (by first | (simp only [doubleOrPop, eq_false h2, if_true, if_false]; done) | (simp [doubleOrPop, eq_false h2]; done) | (simp [doubleOrPop, h2]; done) | rfl)
