set_option maxHeartbeats 4000000 in
theorem c_me_reach {l : Launch} {D : va_G} {ad : Nat → Nat} {ci : Nat → ClassId} (hI : Inj ad) (σ : SS) (w : Int32) (hm : MK σ) : Mv l y_me_reach b_me_reach 2 ({ frames := 1, cells := 0, slots := 0, locals := 20 } : Room) (EC D ad ci) [.ref (ad 1), .int w] σ (reach σ w) := by
  refine Mv.start pn_me (Nat.le_of_ble_eq_true rfl) (fun zp ze zs zm zb zt zc ls X hr hlk L => ?_)
  have L : lv_has ls 2 [(0, .ref (ad 1)), (1, .int w)] := L
  refine lv_iload_n X.1.1 X.1.2.1 d_me_reach_0 rfl (lv_at L 1 rfl) ?_
  refine Mi.callN (k := 1) (c_mm_isObject hI _ _) X X.2.2.1.1 mw_246 mw_1 mw_247 ok_mm_isObject ⟨rfl, rfl, by decide, by decide⟩ rfl L.1 rfl (Nat.le_of_ble_eq_true rfl) d_me_reach_1 (fun H locs X => ?_)
  refine lv_if_eq (tgt := 43) X.1.1 X.1.2.1 d_me_reach_4 rfl (fun h4 => ?_) (fun h4 => ?_)
  · skip
    exact X.vret hr hlk d_me_reach_43 (by first | (simp only [reach, reach3, reach2, reach1, eq_true h4, if_true, if_false]; done) | (simp [reach, reach3, reach2, reach1, eq_true h4]; done) | (simp [reach, reach3, reach2, reach1, h4]; done) | rfl)
  · skip
    refine lv_aload_n X.1.1 X.1.2.1 d_me_reach_7 rfl (lv_at L 0 rfl) ?_
    refine g_me_reached X d_me_reach_8 ?_
    refine lv_iload_n X.1.1 X.1.2.1 d_me_reach_11 rfl (lv_at L 1 rfl) ?_
    refine al_14 X (isObject_in h4) d_me_reach_12 ?_
    refine lv_if_ne (tgt := 43) X.1.1 X.1.2.1 d_me_reach_13 rfl (fun h13 => ?_) (fun h13 => ?_)
    · skip
      exact X.vret hr hlk d_me_reach_43 (by first | (simp only [reach, reach3, reach2, reach1, eq_false h4, eq_false h13, if_true, if_false]; done) | (simp [reach, reach3, reach2, reach1, eq_false h4, eq_false h13]; done) | (simp [reach, reach3, reach2, reach1, h4, h13]; done) | rfl)
    · skip
      refine lv_aload_n X.1.1 X.1.2.1 d_me_reach_16 rfl (lv_at L 0 rfl) ?_
      refine g_me_reached X d_me_reach_17 ?_
      refine lv_iload_n X.1.1 X.1.2.1 d_me_reach_20 rfl (lv_at L 1 rfl) ?_
      refine lv_iconst (v := 1) X.1.1 X.1.2.1 d_me_reach_21 rfl ?_
      refine as_14 hI X (isObject_in h4) rfl d_me_reach_22 (fun H locs X => ?_)
      refine lv_aload_n X.1.1 X.1.2.1 d_me_reach_23 rfl (lv_at L 0 rfl) ?_
      refine g_me_trail X d_me_reach_24 ?_
      refine lv_aload_n X.1.1 X.1.2.1 d_me_reach_27 rfl (lv_at L 0 rfl) ?_
      refine g_me_trailEnd X d_me_reach_28 ?_
      refine lv_iload_n X.1.1 X.1.2.1 d_me_reach_31 rfl (lv_at L 1 rfl) ?_
      refine as_15 hI X (hm.room h4 h13) d_me_reach_32 (fun H locs X => ?_)
      refine lv_aload_n X.1.1 X.1.2.1 d_me_reach_33 rfl (lv_at L 0 rfl) ?_
      refine lv_dup X.1.1 X.1.2.1 d_me_reach_34 rfl ?_
      refine g_me_trailEnd X d_me_reach_35 ?_
      refine lv_iconst (v := 1) X.1.1 X.1.2.1 d_me_reach_38 rfl ?_
      refine lv_iadd X.1.1 X.1.2.1 d_me_reach_39 ?_
      refine p_me_trailEnd hI X d_me_reach_40 (fun H locs X => ?_)
      exact X.vret hr hlk d_me_reach_43 (by first | (simp only [reach, reach3, reach2, reach1, eq_false h4, eq_true h13, if_true, if_false]; done) | (simp [reach, reach3, reach2, reach1, eq_false h4, eq_true h13]; done) | (simp [reach, reach3, reach2, reach1, h4, h13]; done) | rfl)
set_option maxHeartbeats 4000000 in
theorem c_me_reachFrom {l : Launch} {D : va_G} {ad : Nat → Nat} {ci : Nat → ClassId} (hI : Inj ad) (σ : SS) (o : Int32) (h_o : vp_in o 28) (hm : MK σ) (hg : RG σ) : Mv l y_me_reachFrom b_me_reachFrom 3 ({ frames := 2, cells := 0, slots := 0, locals := 41 } : Room) (EC D ad ci) [.ref (ad 1), .int o] σ (reachFrom σ o) := by
  refine Mv.start pn_me (Nat.le_of_ble_eq_true rfl) (fun zp ze zs zm zb zt zc ls X hr hlk L => ?_)
  have L : lv_has ls 3 [(0, .ref (ad 1)), (1, .int o)] := L
  refine lv_aload_n X.1.1 X.1.2.1 d_me_reachFrom_0 rfl (lv_at L 0 rfl) ?_
  refine lv_aload_n X.1.1 X.1.2.1 d_me_reachFrom_1 rfl (lv_at L 0 rfl) ?_
  refine g_me_classIn X d_me_reachFrom_2 ?_
  refine lv_iload_n X.1.1 X.1.2.1 d_me_reachFrom_5 rfl (lv_at L 1 rfl) ?_
  refine al_7 X (by assumption) d_me_reachFrom_6 ?_
  refine Mv.callV (k := 1) (c_me_reach hI _ _ hm) X (gt_V mw_454 mw_456 ms_30 mw_2 mw_457) ok_me_reach ⟨rfl, rfl, by decide, by decide⟩ (rc_me X) rfl L.1 rfl (Nat.le_of_ble_eq_true rfl) d_me_reachFrom_7 (fun H locs X => ?_)
  refine lv_iconst (v := 0) X.1.1 X.1.2.1 d_me_reachFrom_10 rfl ?_
  refine lv_istore_n (lv' := [(2, .int _), (0, .ref _), (1, .int _)]) X.1.1 X.1.2.1 d_me_reachFrom_11 rfl L (by decide) rfl (fun ls L => ?_)
  have loop12 : ∀ (n : Nat) (k : Nat) (σ1 : SS) (H : Heap) (locs : List Loc) (ls : Array Slot), (nI (k + n) = σ1.1 8 (ix o)) → (k + n ≤ 15) → (MK σ1) → (rfL n k σ1 o = reachFrom σ o) → Cx (EC D ad ci) zp zs zm (([.ref (ad 1), .int o] : List Value).toArray) zc b_me_reachFrom 3 "MessageMachine$Memory" H locs σ1 → lv_has ls 3 [(2, .int (nI k)), (0, .ref (ad 1)), (1, .int o)] → W zp l ze ({ frames := 2, cells := 0, slots := 0, locals := 41 } : Room) zs zm (([.ref (ad 1), .int o] : List Value).toArray) zb zt zc H locs 0 0 (MQ zb (va_Qv (fun (u : SS) => u = (reachFrom σ o)) (fun u t => Pq (EC D ad ci) u t) (EC D ad ci).2.2.2) (([.ref (ad 1), .int o] : List Value).toArray) zs 0 0 (EC D ad ci).2.2.2) (F0 zm 12 ls []) := by
    intro n
    induction n with
    | zero =>
      intro k σ1 H locs ls hk hl hm1 hq X L
      have e8 : σ1.1 8 (ix o) = nI k := hk.symm
      refine lv_iload_n X.1.1 X.1.2.1 d_me_reachFrom_12 rfl (lv_at L 0 rfl) ?_
      refine lv_aload_n X.1.1 X.1.2.1 d_me_reachFrom_13 rfl (lv_at L 1 rfl) ?_
      refine g_me_fieldsIn X d_me_reachFrom_14 ?_
      refine lv_iload_n X.1.1 X.1.2.1 d_me_reachFrom_17 rfl (lv_at L 2 rfl) ?_
      refine al_8 X (by assumption) d_me_reachFrom_18 ?_
      refine lv_icmp_ge (tgt := 40) X.1.1 X.1.2.1 d_me_reachFrom_19 rfl (fun h19 => ?_) (fun h19 => ?_)
      · skip
        exact X.vret hr hlk d_me_reachFrom_40 hq
      · skip
        exact absurd (by rw [e8]; exact Int32.le_refl _) h19
    | succ n ih =>
      intro k σ1 H locs ls hk hl hm1 hq X L
      have e8 : ¬ σ1.1 8 (ix o) ≤ nI k := by rw [← hk, nI_leI (by omega) (by omega)]; omega
      refine lv_iload_n X.1.1 X.1.2.1 d_me_reachFrom_12 rfl (lv_at L 0 rfl) ?_
      refine lv_aload_n X.1.1 X.1.2.1 d_me_reachFrom_13 rfl (lv_at L 1 rfl) ?_
      refine g_me_fieldsIn X d_me_reachFrom_14 ?_
      refine lv_iload_n X.1.1 X.1.2.1 d_me_reachFrom_17 rfl (lv_at L 2 rfl) ?_
      refine al_8 X (by assumption) d_me_reachFrom_18 ?_
      refine lv_icmp_ge (tgt := 40) X.1.1 X.1.2.1 d_me_reachFrom_19 rfl (fun h19 => ?_) (fun h19 => ?_)
      · skip
        exact absurd h19 e8
      · skip
        refine lv_aload_n X.1.1 X.1.2.1 d_me_reachFrom_22 rfl (lv_at L 1 rfl) ?_
        refine lv_aload_n X.1.1 X.1.2.1 d_me_reachFrom_23 rfl (lv_at L 1 rfl) ?_
        refine g_me_fields X d_me_reachFrom_24 ?_
        refine lv_iload_n X.1.1 X.1.2.1 d_me_reachFrom_27 rfl (lv_at L 2 rfl) ?_
        refine X.gald (by assumption) d_me_reachFrom_28 ?_
        refine lv_iload_n X.1.1 X.1.2.1 d_me_reachFrom_29 rfl (lv_at L 0 rfl) ?_
        refine X.rald (vp_ix h_o) (vp_k (by omega) (by decide)) d_me_reachFrom_30 ?_
        refine Mv.callV (k := 1) (c_me_reach hI _ _ hm1) X (gt_V mw_454 mw_456 ms_30 mw_2 mw_457) ok_me_reach ⟨rfl, rfl, by decide, by decide⟩ (rc_me X) rfl L.1 rfl (Nat.le_of_ble_eq_true rfl) d_me_reachFrom_31 (fun H locs X => ?_)
        refine lv_iinc (k := 0) (lv' := [(2, .int (nI (k + 1))), (0, .ref _), (1, .int _)]) X.1.1 X.1.2.1 d_me_reachFrom_34 L rfl (nI_inc k) (by decide) rfl (fun ls L => ?_)
        refine lv_goto (tgt := 12) X.1.1 X.1.2.1 d_me_reachFrom_37 rfl ?_
        exact ih (k + 1) _ _ _ _ (by rw [show k + 1 + n = k + (n + 1) by omega, hk]; exact (congrFun (reach_ne σ1 _ (by decide)) _).symm) (by omega) (MK_reach hm1 _) (by rw [← hq]; rfl) X L
  exact loop12 (ix (σ.1 8 (ix o))) 0 _ _ _ _ (by rw [Nat.zero_add, congrFun (reach_ne σ _ (by decide)) _]; exact ix_back (hg.2.2.2.1 _ (vp_ix h_o)).1) (by rw [Nat.zero_add]; exact ix_le (hg.2.2.2.1 _ (vp_ix h_o)).2) (MK_reach hm _) rfl X L
set_option maxHeartbeats 4000000 in
theorem c_me_markReached {l : Launch} {D : va_G} {ad : Nat → Nat} {ci : Nat → ClassId} (hI : Inj ad) (σ : SS)  (hg : RG σ) : Mv l y_me_markReached b_me_markReached 2 ({ frames := 3, cells := 0, slots := 0, locals := 63 } : Room) (EC D ad ci) [.ref (ad 1)] σ (markReached σ) := by
  refine Mv.start pn_me (Nat.le_of_ble_eq_true rfl) (fun zp ze zs zm zb zt zc ls X hr hlk L => ?_)
  have L : lv_has ls 2 [(0, .ref (ad 1))] := L
  refine lv_iconst (v := 0) X.1.1 X.1.2.1 d_me_markReached_0 rfl ?_
  refine lv_istore_n (lv' := [(1, .int _), (0, .ref _)]) X.1.1 X.1.2.1 d_me_markReached_1 rfl L (by decide) rfl (fun ls L => ?_)
  have loop2 : ∀ (n : Nat) (k : Nat) (σ1 : SS) (H : Heap) (locs : List Loc) (ls : Array Slot), (k + n = 28) → (RG σ1) → (∀ i, i < k → σ1.1 14 i = 0) → (mk0 (clrL n k σ1) = markReached σ) → Cx (EC D ad ci) zp zs zm (([.ref (ad 1)] : List Value).toArray) zc b_me_markReached 2 "MessageMachine$Memory" H locs σ1 → lv_has ls 2 [(1, .int (nI k)), (0, .ref (ad 1))] → W zp l ze ({ frames := 3, cells := 0, slots := 0, locals := 63 } : Room) zs zm (([.ref (ad 1)] : List Value).toArray) zb zt zc H locs 0 0 (MQ zb (va_Qv (fun (u : SS) => u = (markReached σ)) (fun u t => Pq (EC D ad ci) u t) (EC D ad ci).2.2.2) (([.ref (ad 1)] : List Value).toArray) zs 0 0 (EC D ad ci).2.2.2) (F0 zm 2 ls []) := by
    intro n
    induction n with
    | zero =>
      intro k σ1 H locs ls hk hg1 h0 hq X L
      refine lv_iload_n X.1.1 X.1.2.1 d_me_markReached_2 rfl (lv_at L 0 rfl) ?_
      refine lv_bipush (v := 28) X.1.1 X.1.2.1 d_me_markReached_3 rfl ?_
      refine lv_icmp_ge (tgt := 21) X.1.1 X.1.2.1 d_me_markReached_5 rfl (fun h5 => ?_) (fun h5 => ?_)
      · skip
        refine lv_aload_n X.1.1 X.1.2.1 d_me_markReached_21 rfl (lv_at L 1 rfl) ?_
        refine lv_iconst (v := 0) X.1.1 X.1.2.1 d_me_markReached_22 rfl ?_
        refine p_me_trailEnd hI X d_me_markReached_23 (fun H locs X => ?_)
        refine lv_iconst (v := 0) X.1.1 X.1.2.1 d_me_markReached_26 rfl ?_
        refine lv_istore_n (lv' := [(1, .int _), (0, .ref _)]) X.1.1 X.1.2.1 d_me_markReached_27 rfl L (by decide) rfl (fun ls L => ?_)
        have loop28 : ∀ (n : Nat) (k : Nat) (σ1 : SS) (H : Heap) (locs : List Loc) (ls : Array Slot), (k + n = 4) → (RG σ1) → (MK σ1) → (mk2 (m4L n k σ1) = markReached σ) → Cx (EC D ad ci) zp zs zm (([.ref (ad 1)] : List Value).toArray) zc b_me_markReached 2 "MessageMachine$Memory" H locs σ1 → lv_has ls 2 [(1, .int (nI k)), (0, .ref (ad 1))] → W zp l ze ({ frames := 3, cells := 0, slots := 0, locals := 63 } : Room) zs zm (([.ref (ad 1)] : List Value).toArray) zb zt zc H locs 0 0 (MQ zb (va_Qv (fun (u : SS) => u = (markReached σ)) (fun u t => Pq (EC D ad ci) u t) (EC D ad ci).2.2.2) (([.ref (ad 1)] : List Value).toArray) zs 0 0 (EC D ad ci).2.2.2) (F0 zm 28 ls []) := by
          intro n
          induction n with
          | zero =>
            intro k σ1 H locs ls hk hg1 hm1 hq X L
            refine lv_iload_n X.1.1 X.1.2.1 d_me_markReached_28 rfl (lv_at L 0 rfl) ?_
            refine lv_iconst (v := 4) X.1.1 X.1.2.1 d_me_markReached_29 rfl ?_
            refine lv_icmp_ge (tgt := 44) X.1.1 X.1.2.1 d_me_markReached_30 rfl (fun h30 => ?_) (fun h30 => ?_)
            · skip
              refine lv_iconst (v := 0) X.1.1 X.1.2.1 d_me_markReached_44 rfl ?_
              refine lv_istore_n (lv' := [(1, .int _), (0, .ref _)]) X.1.1 X.1.2.1 d_me_markReached_45 rfl L (by decide) rfl (fun ls L => ?_)
              have loop46 : ∀ (n : Nat) (k : Nat) (σ1 : SS) (H : Heap) (locs : List Loc) (ls : Array Slot), (k + n = 7) → (RG σ1) → (MK σ1) → (mk3 (m7L n k σ1) = markReached σ) → Cx (EC D ad ci) zp zs zm (([.ref (ad 1)] : List Value).toArray) zc b_me_markReached 2 "MessageMachine$Memory" H locs σ1 → lv_has ls 2 [(1, .int (nI k)), (0, .ref (ad 1))] → W zp l ze ({ frames := 3, cells := 0, slots := 0, locals := 63 } : Room) zs zm (([.ref (ad 1)] : List Value).toArray) zb zt zc H locs 0 0 (MQ zb (va_Qv (fun (u : SS) => u = (markReached σ)) (fun u t => Pq (EC D ad ci) u t) (EC D ad ci).2.2.2) (([.ref (ad 1)] : List Value).toArray) zs 0 0 (EC D ad ci).2.2.2) (F0 zm 46 ls []) := by
                intro n
                induction n with
                | zero =>
                  intro k σ1 H locs ls hk hg1 hm1 hq X L
                  refine lv_iload_n X.1.1 X.1.2.1 d_me_markReached_46 rfl (lv_at L 0 rfl) ?_
                  refine lv_bipush (v := 7) X.1.1 X.1.2.1 d_me_markReached_47 rfl ?_
                  refine lv_icmp_ge (tgt := 68) X.1.1 X.1.2.1 d_me_markReached_49 rfl (fun h49 => ?_) (fun h49 => ?_)
                  · skip
                    refine lv_iconst (v := 0) X.1.1 X.1.2.1 d_me_markReached_68 rfl ?_
                    refine lv_istore_n (lv' := [(1, .int _), (0, .ref _)]) X.1.1 X.1.2.1 d_me_markReached_69 rfl L (by decide) rfl (fun ls L => ?_)
                    have loop70 : ∀ (n : Nat) (k : Nat) (σ1 : SS) (H : Heap) (locs : List Loc) (ls : Array Slot), (k + n = 28) → (RG σ1) → (MK σ1) → (mTL n k σ1 = markReached σ) → Cx (EC D ad ci) zp zs zm (([.ref (ad 1)] : List Value).toArray) zc b_me_markReached 2 "MessageMachine$Memory" H locs σ1 → lv_has ls 2 [(1, .int (nI k)), (0, .ref (ad 1))] → W zp l ze ({ frames := 3, cells := 0, slots := 0, locals := 63 } : Room) zs zm (([.ref (ad 1)] : List Value).toArray) zb zt zc H locs 0 0 (MQ zb (va_Qv (fun (u : SS) => u = (markReached σ)) (fun u t => Pq (EC D ad ci) u t) (EC D ad ci).2.2.2) (([.ref (ad 1)] : List Value).toArray) zs 0 0 (EC D ad ci).2.2.2) (F0 zm 70 ls []) := by
                      intro n
                      induction n with
                      | zero =>
                        intro k σ1 H locs ls hk hg1 hm1 hq X L
                        refine lv_iload_n X.1.1 X.1.2.1 d_me_markReached_70 rfl (lv_at L 0 rfl) ?_
                        refine lv_aload_n X.1.1 X.1.2.1 d_me_markReached_71 rfl (lv_at L 1 rfl) ?_
                        refine g_me_trailEnd X d_me_markReached_72 ?_
                        refine lv_icmp_ge (tgt := 100) X.1.1 X.1.2.1 d_me_markReached_75 rfl (fun h75 => ?_) (fun h75 => ?_)
                        · skip
                          exact X.vret hr hlk d_me_markReached_100 hq
                        · skip
                          refine lv_iload_n X.1.1 X.1.2.1 d_me_markReached_78 rfl (lv_at L 0 rfl) ?_
                          refine lv_bipush (v := 28) X.1.1 X.1.2.1 d_me_markReached_79 rfl ?_
                          refine lv_icmp_ge (tgt := 100) X.1.1 X.1.2.1 d_me_markReached_81 rfl (fun h81 => ?_) (fun h81 => ?_)
                          · skip
                            exact X.vret hr hlk d_me_markReached_100 hq
                          · skip
                            exact absurd ((le28N (by omega)).mpr (by omega)) h81
                      | succ n ih =>
                        intro k σ1 H locs ls hk hg1 hm1 hq X L
                        refine lv_iload_n X.1.1 X.1.2.1 d_me_markReached_70 rfl (lv_at L 0 rfl) ?_
                        refine lv_aload_n X.1.1 X.1.2.1 d_me_markReached_71 rfl (lv_at L 1 rfl) ?_
                        refine g_me_trailEnd X d_me_markReached_72 ?_
                        refine lv_icmp_ge (tgt := 100) X.1.1 X.1.2.1 d_me_markReached_75 rfl (fun h75 => ?_) (fun h75 => ?_)
                        · skip
                          exact X.vret hr hlk d_me_markReached_100 (by rw [← hq, mTL, if_pos h75])
                        · skip
                          refine lv_iload_n X.1.1 X.1.2.1 d_me_markReached_78 rfl (lv_at L 0 rfl) ?_
                          refine lv_bipush (v := 28) X.1.1 X.1.2.1 d_me_markReached_79 rfl ?_
                          refine lv_icmp_ge (tgt := 100) X.1.1 X.1.2.1 d_me_markReached_81 rfl (fun h81 => ?_) (fun h81 => ?_)
                          · skip
                            exact absurd ((le28N (by omega)).mp h81) (by omega)
                          · skip
                            refine lv_aload_n X.1.1 X.1.2.1 d_me_markReached_84 rfl (lv_at L 1 rfl) ?_
                            refine lv_aload_n X.1.1 X.1.2.1 d_me_markReached_85 rfl (lv_at L 1 rfl) ?_
                            refine g_me_trail X d_me_markReached_86 ?_
                            refine lv_iload_n X.1.1 X.1.2.1 d_me_markReached_89 rfl (lv_at L 0 rfl) ?_
                            refine al_15 X (vp_k (by omega) (by decide)) d_me_markReached_90 ?_
                            refine Mv.callV (k := 1) (c_me_reachFrom hI _ _ (hm1.trail (by omega) h75) hm1 hg1) X (gt_V mw_458 mw_460 ms_31 mw_2 mw_461) ok_me_reachFrom ⟨rfl, rfl, by decide, by decide⟩ (rc_me X) rfl L.1 rfl (Nat.le_of_ble_eq_true rfl) d_me_markReached_91 (fun H locs X => ?_)
                            refine lv_iinc (k := 0) (lv' := [(1, .int (nI (k + 1))), (0, .ref _)]) X.1.1 X.1.2.1 d_me_markReached_94 L rfl (nI_inc k) (by decide) rfl (fun ls L => ?_)
                            refine lv_goto (tgt := 70) X.1.1 X.1.2.1 d_me_markReached_97 rfl ?_
                            exact ih (k + 1) _ _ _ _ (by omega) (reachFrom_keep _ hm1 hg1).2 (reachFrom_keep _ hm1 hg1).1 (by rw [← hq, mTL, if_neg h75]) X L
                    exact loop70 28 0 _ _ _ _ (by omega) hg1 hm1 (by rw [← hq]; rfl) X L
                  · skip
                    exact absurd ((le7N (by omega)).mpr (by omega)) h49
                | succ n ih =>
                  intro k σ1 H locs ls hk hg1 hm1 hq X L
                  refine lv_iload_n X.1.1 X.1.2.1 d_me_markReached_46 rfl (lv_at L 0 rfl) ?_
                  refine lv_bipush (v := 7) X.1.1 X.1.2.1 d_me_markReached_47 rfl ?_
                  refine lv_icmp_ge (tgt := 68) X.1.1 X.1.2.1 d_me_markReached_49 rfl (fun h49 => ?_) (fun h49 => ?_)
                  · skip
                    exact absurd ((le7N (by omega)).mp h49) (by omega)
                  · skip
                    refine lv_aload_n X.1.1 X.1.2.1 d_me_markReached_52 rfl (lv_at L 1 rfl) ?_
                    refine lv_aload_n X.1.1 X.1.2.1 d_me_markReached_53 rfl (lv_at L 1 rfl) ?_
                    refine g_me_registers X d_me_markReached_54 ?_
                    refine lv_iload_n X.1.1 X.1.2.1 d_me_markReached_57 rfl (lv_at L 0 rfl) ?_
                    refine al_13 X (vp_k (by omega) (by decide)) d_me_markReached_58 ?_
                    refine Mv.callV (k := 1) (c_me_reach hI _ _ hm1) X (gt_V mw_454 mw_456 ms_30 mw_2 mw_457) ok_me_reach ⟨rfl, rfl, by decide, by decide⟩ (rc_me X) rfl L.1 rfl (Nat.le_of_ble_eq_true rfl) d_me_markReached_59 (fun H locs X => ?_)
                    refine lv_iinc (k := 0) (lv' := [(1, .int (nI (k + 1))), (0, .ref _)]) X.1.1 X.1.2.1 d_me_markReached_62 L rfl (nI_inc k) (by decide) rfl (fun ls L => ?_)
                    refine lv_goto (tgt := 46) X.1.1 X.1.2.1 d_me_markReached_65 rfl ?_
                    exact ih (k + 1) _ _ _ _ (by omega) (RG_reach hg1 _) (MK_reach hm1 _) (by rw [← hq]; rfl) X L
              exact loop46 7 0 _ _ _ _ (by omega) hg1 hm1 (by rw [← hq]; rfl) X L
            · skip
              exact absurd ((le4N (by omega)).mpr (by omega)) h30
          | succ n ih =>
            intro k σ1 H locs ls hk hg1 hm1 hq X L
            refine lv_iload_n X.1.1 X.1.2.1 d_me_markReached_28 rfl (lv_at L 0 rfl) ?_
            refine lv_iconst (v := 4) X.1.1 X.1.2.1 d_me_markReached_29 rfl ?_
            refine lv_icmp_ge (tgt := 44) X.1.1 X.1.2.1 d_me_markReached_30 rfl (fun h30 => ?_) (fun h30 => ?_)
            · skip
              exact absurd ((le4N (by omega)).mp h30) (by omega)
            · skip
              refine lv_aload_n X.1.1 X.1.2.1 d_me_markReached_33 rfl (lv_at L 1 rfl) ?_
              refine lv_iload_n X.1.1 X.1.2.1 d_me_markReached_34 rfl (lv_at L 0 rfl) ?_
              refine Mv.callV (k := 1) (c_me_reach hI _ _ hm1) X (gt_V mw_454 mw_456 ms_30 mw_2 mw_457) ok_me_reach ⟨rfl, rfl, by decide, by decide⟩ (rc_me X) rfl L.1 rfl (Nat.le_of_ble_eq_true rfl) d_me_markReached_35 (fun H locs X => ?_)
              refine lv_iinc (k := 0) (lv' := [(1, .int (nI (k + 1))), (0, .ref _)]) X.1.1 X.1.2.1 d_me_markReached_38 L rfl (nI_inc k) (by decide) rfl (fun ls L => ?_)
              refine lv_goto (tgt := 28) X.1.1 X.1.2.1 d_me_markReached_41 rfl ?_
              exact ih (k + 1) _ _ _ _ (by omega) (RG_reach hg1 _) (MK_reach hm1 _) (by rw [← hq]; rfl) X L
        exact loop28 4 0 _ _ _ _ (by omega) (RG_A hg1 (by decide) _ _) (MK_0 (fun i hi => h0 i (by omega))) (by rw [← hq]; rfl) X L
      · skip
        exact absurd ((le28N (by omega)).mpr (by omega)) h5
    | succ n ih =>
      intro k σ1 H locs ls hk hg1 h0 hq X L
      refine lv_iload_n X.1.1 X.1.2.1 d_me_markReached_2 rfl (lv_at L 0 rfl) ?_
      refine lv_bipush (v := 28) X.1.1 X.1.2.1 d_me_markReached_3 rfl ?_
      refine lv_icmp_ge (tgt := 21) X.1.1 X.1.2.1 d_me_markReached_5 rfl (fun h5 => ?_) (fun h5 => ?_)
      · skip
        exact absurd ((le28N (by omega)).mp h5) (by omega)
      · skip
        refine lv_aload_n X.1.1 X.1.2.1 d_me_markReached_8 rfl (lv_at L 1 rfl) ?_
        refine g_me_reached X d_me_markReached_9 ?_
        refine lv_iload_n X.1.1 X.1.2.1 d_me_markReached_12 rfl (lv_at L 0 rfl) ?_
        refine lv_iconst (v := 0) X.1.1 X.1.2.1 d_me_markReached_13 rfl ?_
        refine as_14 hI X (vp_k (by omega) (by decide)) rfl d_me_markReached_14 (fun H locs X => ?_)
        refine lv_iinc (k := 0) (lv' := [(1, .int (nI (k + 1))), (0, .ref _)]) X.1.1 X.1.2.1 d_me_markReached_15 L rfl (nI_inc k) (by decide) rfl (fun ls L => ?_)
        refine lv_goto (tgt := 2) X.1.1 X.1.2.1 d_me_markReached_18 rfl ?_
        exact ih (k + 1) _ _ _ _ (by omega) (RG_A hg1 (by decide) _ _) (clr_step (by omega) h0) (by rw [← hq]; rfl) X L
  exact loop2 28 0 σ _ _ _ (by omega) hg (fun i hi => absurd hi (Nat.not_lt_zero i)) rfl X L
set_option maxHeartbeats 4000000 in
theorem c_me_giveBackUnreached {l : Launch} {D : va_G} {ad : Nat → Nat} {ci : Nat → ClassId} (hI : Inj ad) (σ : SS)  (hg : RG σ) : Mi l y_me_giveBackUnreached b_me_giveBackUnreached 3 (some .int) ({ frames := 4, cells := 0, slots := 0, locals := 84 } : Room) (EC D ad ci) [.ref (ad 1)] σ ((unr σ).2) (sweepS σ) := by
  refine Mi.start pn_me (Nat.le_of_ble_eq_true rfl) (fun zp ze zs zm zb zt zc ls X hr hlk L => ?_)
  have L : lv_has ls 3 [(0, .ref (ad 1))] := L
  refine lv_aload_n X.1.1 X.1.2.1 d_me_giveBackUnreached_0 rfl (lv_at L 0 rfl) ?_
  refine Mv.callV (k := 0) (c_me_markReached hI _ hg) X (gt_V mw_450 mw_452 ms_29 mw_2 mw_453) ok_me_markReached ⟨rfl, rfl, by decide, by decide⟩ (rc_me X) rfl L.1 rfl (Nat.le_of_ble_eq_true rfl) d_me_giveBackUnreached_1 (fun H locs X => ?_)
  refine lv_iconst (v := 0) X.1.1 X.1.2.1 d_me_giveBackUnreached_4 rfl ?_
  refine lv_istore_n (lv' := [(1, .int _), (0, .ref _)]) X.1.1 X.1.2.1 d_me_giveBackUnreached_5 rfl L (by decide) rfl (fun ls L => ?_)
  refine lv_iconst (v := 4) X.1.1 X.1.2.1 d_me_giveBackUnreached_6 rfl ?_
  refine lv_istore_n (lv' := [(2, .int _), (1, .int _), (0, .ref _)]) X.1.1 X.1.2.1 d_me_giveBackUnreached_7 rfl L (by decide) rfl (fun ls L => ?_)
  have loop8 : ∀ (n : Nat) (k : Nat) (a : Int32) (σ1 : SS) (H : Heap) (locs : List Loc) (ls : Array Slot), (k + n = 28) → (RG σ1) → (unrL n k σ1 a = unr σ) → Cx (EC D ad ci) zp zs zm (([.ref (ad 1)] : List Value).toArray) zc b_me_giveBackUnreached 3 "MessageMachine$Memory" H locs σ1 → lv_has ls 3 [(2, .int (nI k)), (1, .int a), (0, .ref (ad 1))] → W zp l ze ({ frames := 4, cells := 0, slots := 0, locals := 84 } : Room) zs zm (([.ref (ad 1)] : List Value).toArray) zb zt zc H locs 0 0 (MQ zb (va_Qi (fun (x : Int32) (u : SS) => x = ((unr σ).2) ∧ u = (sweepS σ)) (fun u t => Pq (EC D ad ci) u t) (EC D ad ci).2.2.2) (([.ref (ad 1)] : List Value).toArray) zs 0 0 (EC D ad ci).2.2.2) (F0 zm 8 ls []) := by
    intro n
    induction n with
    | zero =>
      intro k a σ1 H locs ls hk hg1 hq X L
      refine lv_iload_n X.1.1 X.1.2.1 d_me_giveBackUnreached_8 rfl (lv_at L 0 rfl) ?_
      refine lv_bipush (v := 28) X.1.1 X.1.2.1 d_me_giveBackUnreached_9 rfl ?_
      refine lv_icmp_ge (tgt := 46) X.1.1 X.1.2.1 d_me_giveBackUnreached_11 rfl (fun h11 => ?_) (fun h11 => ?_)
      · skip
        refine lv_iconst (v := 0) X.1.1 X.1.2.1 d_me_giveBackUnreached_46 rfl ?_
        refine lv_istore_n (lv' := [(2, .int _), (1, .int _), (0, .ref _)]) X.1.1 X.1.2.1 d_me_giveBackUnreached_47 rfl L (by decide) rfl (fun ls L => ?_)
        have loop48 : ∀ (n : Nat) (k : Nat) (σ1 : SS) (H : Heap) (locs : List Loc) (ls : Array Slot), (k + n = 28) → (stick (usL n k σ1) = sweepS σ) → Cx (EC D ad ci) zp zs zm (([.ref (ad 1)] : List Value).toArray) zc b_me_giveBackUnreached 3 "MessageMachine$Memory" H locs σ1 → lv_has ls 3 [(2, .int (nI k)), (1, .int (unr σ).2), (0, .ref (ad 1))] → W zp l ze ({ frames := 4, cells := 0, slots := 0, locals := 84 } : Room) zs zm (([.ref (ad 1)] : List Value).toArray) zb zt zc H locs 0 0 (MQ zb (va_Qi (fun (x : Int32) (u : SS) => x = ((unr σ).2) ∧ u = (sweepS σ)) (fun u t => Pq (EC D ad ci) u t) (EC D ad ci).2.2.2) (([.ref (ad 1)] : List Value).toArray) zs 0 0 (EC D ad ci).2.2.2) (F0 zm 48 ls []) := by
          intro n
          induction n with
          | zero =>
            intro k σ1 H locs ls hk hq X L
            refine lv_iload_n X.1.1 X.1.2.1 d_me_giveBackUnreached_48 rfl (lv_at L 0 rfl) ?_
            refine lv_bipush (v := 28) X.1.1 X.1.2.1 d_me_giveBackUnreached_49 rfl ?_
            refine lv_icmp_ge (tgt := 67) X.1.1 X.1.2.1 d_me_giveBackUnreached_51 rfl (fun h51 => ?_) (fun h51 => ?_)
            · skip
              refine lv_aload_n X.1.1 X.1.2.1 d_me_giveBackUnreached_67 rfl (lv_at L 2 rfl) ?_
              refine Mv.callV (k := 0) (c_me_stick hI _) X (gt_V mw_42 mw_44 ms_4 mw_2 mw_45) ok_me_stick ⟨rfl, rfl, by decide, by decide⟩ (rc_me X) rfl L.1 rfl (Nat.le_of_ble_eq_true rfl) d_me_giveBackUnreached_68 (fun H locs X => ?_)
              refine lv_iload_n X.1.1 X.1.2.1 d_me_giveBackUnreached_71 rfl (lv_at L 1 rfl) ?_
              exact X.iret hr hlk d_me_giveBackUnreached_72 rfl hq
            · skip
              exact absurd ((le28N (by omega)).mpr (by omega)) h51
          | succ n ih =>
            intro k σ1 H locs ls hk hq X L
            refine lv_iload_n X.1.1 X.1.2.1 d_me_giveBackUnreached_48 rfl (lv_at L 0 rfl) ?_
            refine lv_bipush (v := 28) X.1.1 X.1.2.1 d_me_giveBackUnreached_49 rfl ?_
            refine lv_icmp_ge (tgt := 67) X.1.1 X.1.2.1 d_me_giveBackUnreached_51 rfl (fun h51 => ?_) (fun h51 => ?_)
            · skip
              exact absurd ((le28N (by omega)).mp h51) (by omega)
            · skip
              refine lv_aload_n X.1.1 X.1.2.1 d_me_giveBackUnreached_54 rfl (lv_at L 2 rfl) ?_
              refine g_me_stuck X d_me_giveBackUnreached_55 ?_
              refine lv_iload_n X.1.1 X.1.2.1 d_me_giveBackUnreached_58 rfl (lv_at L 0 rfl) ?_
              refine lv_iconst (v := 0) X.1.1 X.1.2.1 d_me_giveBackUnreached_59 rfl ?_
              refine as_5 hI X (vp_k (by omega) (by decide)) rfl d_me_giveBackUnreached_60 (fun H locs X => ?_)
              refine lv_iinc (k := 0) (lv' := [(2, .int (nI (k + 1))), (1, .int _), (0, .ref _)]) X.1.1 X.1.2.1 d_me_giveBackUnreached_61 L rfl (nI_inc k) (by decide) rfl (fun ls L => ?_)
              refine lv_goto (tgt := 48) X.1.1 X.1.2.1 d_me_giveBackUnreached_64 rfl ?_
              exact ih (k + 1) _ _ _ _ (by omega) (by rw [← hq]; rfl) X L
        have e1 : σ1 = (unr σ).1 := congrArg Prod.fst hq
        have e2 : a = (unr σ).2 := congrArg Prod.snd hq
        exact loop48 28 0 _ _ _ _ (by omega) (by rw [e1]; rfl) X (by rw [← e2]; exact L)
      · skip
        exact absurd ((le28N (by omega)).mpr (by omega)) h11
    | succ n ih =>
      intro k a σ1 H locs ls hk hg1 hq X L
      refine lv_iload_n X.1.1 X.1.2.1 d_me_giveBackUnreached_8 rfl (lv_at L 0 rfl) ?_
      refine lv_bipush (v := 28) X.1.1 X.1.2.1 d_me_giveBackUnreached_9 rfl ?_
      refine lv_icmp_ge (tgt := 46) X.1.1 X.1.2.1 d_me_giveBackUnreached_11 rfl (fun h11 => ?_) (fun h11 => ?_)
      · skip
        exact absurd ((le28N (by omega)).mp h11) (by omega)
      · skip
        refine lv_aload_n X.1.1 X.1.2.1 d_me_giveBackUnreached_14 rfl (lv_at L 2 rfl) ?_
        refine g_me_living X d_me_giveBackUnreached_15 ?_
        refine lv_iload_n X.1.1 X.1.2.1 d_me_giveBackUnreached_18 rfl (lv_at L 0 rfl) ?_
        refine al_4 X (vp_k (by omega) (by decide)) d_me_giveBackUnreached_19 ?_
        refine lv_if_eq (tgt := 40) X.1.1 X.1.2.1 d_me_giveBackUnreached_20 rfl (fun h20 => ?_) (fun h20 => ?_)
        · skip
          refine lv_iinc (k := 0) (lv' := [(2, .int (nI (k + 1))), (1, .int _), (0, .ref _)]) X.1.1 X.1.2.1 d_me_giveBackUnreached_40 L rfl (nI_inc k) (by decide) rfl (fun ls L => ?_)
          refine lv_goto (tgt := 8) X.1.1 X.1.2.1 d_me_giveBackUnreached_43 rfl ?_
          exact ih (k + 1) _ _ _ _ _ (by omega) (by first | assumption | exact RG_giveBack hg1 _) (by rw [← hq, unrL]; simp only [eq_false h11, eq_true h20, if_true, if_false]; try rfl) X L
        · skip
          refine lv_aload_n X.1.1 X.1.2.1 d_me_giveBackUnreached_23 rfl (lv_at L 2 rfl) ?_
          refine g_me_reached X d_me_giveBackUnreached_24 ?_
          refine lv_iload_n X.1.1 X.1.2.1 d_me_giveBackUnreached_27 rfl (lv_at L 0 rfl) ?_
          refine al_14 X (vp_k (by omega) (by decide)) d_me_giveBackUnreached_28 ?_
          refine lv_if_ne (tgt := 40) X.1.1 X.1.2.1 d_me_giveBackUnreached_29 rfl (fun h29 => ?_) (fun h29 => ?_)
          · skip
            refine lv_iinc (k := 0) (lv' := [(2, .int (nI (k + 1))), (1, .int _), (0, .ref _)]) X.1.1 X.1.2.1 d_me_giveBackUnreached_40 L rfl (nI_inc k) (by decide) rfl (fun ls L => ?_)
            refine lv_goto (tgt := 8) X.1.1 X.1.2.1 d_me_giveBackUnreached_43 rfl ?_
            exact ih (k + 1) _ _ _ _ _ (by omega) (by first | assumption | exact RG_giveBack hg1 _) (by rw [← hq, unrL]; simp only [eq_false h11, eq_false h20, eq_false h29, if_true, if_false]; try rfl) X L
          · skip
            refine lv_aload_n X.1.1 X.1.2.1 d_me_giveBackUnreached_32 rfl (lv_at L 2 rfl) ?_
            refine lv_iload_n X.1.1 X.1.2.1 d_me_giveBackUnreached_33 rfl (lv_at L 0 rfl) ?_
            refine Mv.callV (k := 1) (c_me_giveBack hI _ _ (vp_k (by omega) (by decide)) hg1) X (gt_V mw_185 mw_187 ms_8 mw_2 mw_188) ok_me_giveBack ⟨rfl, rfl, by decide, by decide⟩ (rc_me X) rfl L.1 rfl (Nat.le_of_ble_eq_true rfl) d_me_giveBackUnreached_34 (fun H locs X => ?_)
            refine lv_iinc (k := 1) (lv' := [(1, .int _), (2, .int _), (0, .ref _)]) X.1.1 X.1.2.1 d_me_giveBackUnreached_37 L rfl rfl (by decide) rfl (fun ls L => ?_)
            refine lv_iinc (k := 1) (lv' := [(2, .int (nI (k + 1))), (1, .int _), (0, .ref _)]) X.1.1 X.1.2.1 d_me_giveBackUnreached_40 L rfl (nI_inc k) (by decide) rfl (fun ls L => ?_)
            refine lv_goto (tgt := 8) X.1.1 X.1.2.1 d_me_giveBackUnreached_43 rfl ?_
            exact ih (k + 1) _ _ _ _ _ (by omega) (by first | assumption | exact RG_giveBack hg1 _) (by rw [← hq, unrL]; simp only [eq_false h11, eq_false h20, eq_true h29, if_true, if_false]; try rfl) X L
  exact loop8 24 4 0 _ _ _ _ (by omega) (RG_mark hg) rfl X L
set_option maxHeartbeats 4000000 in
theorem c_mt_slotOf {l : Launch} {D : va_G} {ad : Nat → Nat} {ci : Nat → ClassId} (hI : Inj ad) (σ : SS) (c t : Int32)  : Mi l y_mt_slotOf b_mt_slotOf 2 (some .int) ({ frames := 0, cells := 0, slots := 0, locals := 0 } : Room) (EC D ad ci) [.int c, .int t] σ (slotOf c t) (σ) := by
  refine Mi.start pn_mt (Nat.le_of_ble_eq_true rfl) (fun zp ze zs zm zb zt zc ls X hr hlk L => ?_)
  have L : lv_has ls 2 [(0, .int c), (1, .int t)] := L
  refine lv_iload_n X.1.1 X.1.2.1 d_mt_slotOf_0 rfl (lv_at L 0 rfl) ?_
  refine lv_bipush (v := 8) X.1.1 X.1.2.1 d_mt_slotOf_1 rfl ?_
  refine lv_imul X.1.1 X.1.2.1 d_mt_slotOf_3 ?_
  refine lv_iload_n X.1.1 X.1.2.1 d_mt_slotOf_4 rfl (lv_at L 1 rfl) ?_
  refine lv_iadd X.1.1 X.1.2.1 d_mt_slotOf_5 ?_
  exact X.iret hr hlk d_mt_slotOf_6 (by first | (simp only [slotOf, if_true, if_false]; done) | (simp [slotOf]; done) | (simp [slotOf]; done) | rfl) rfl
set_option maxHeartbeats 4000000 in
theorem c_mt_keep {l : Launch} {D : va_G} {ad : Nat → Nat} {ci : Nat → ClassId} (hI : Inj ad) (σ : SS) (c t : Int32) (lo hi : Int64) (h_s : vp_in (slotOf c t) 224) : Mv l y_mt_keep b_mt_keep 8 ({ frames := 1, cells := 0, slots := 0, locals := 21 } : Room) (EC D ad ci) [.ref (ad 2), .int c, .int t, .long lo, .long hi] σ (keep σ c t lo hi) := by
  refine Mv.start pn_mt (Nat.le_of_ble_eq_true rfl) (fun zp ze zs zm zb zt zc ls X hr hlk L => ?_)
  have L : lv_has ls 8 [(0, .ref (ad 2)), (1, .int c), (2, .int t), (3, .long lo), (5, .long hi)] := L
  refine lv_iload_n X.1.1 X.1.2.1 d_mt_keep_0 rfl (lv_at L 1 rfl) ?_
  refine lv_iload_n X.1.1 X.1.2.1 d_mt_keep_1 rfl (lv_at L 2 rfl) ?_
  refine Mi.callS (k := 2) (c_mt_slotOf hI _ _ _) X mw_166 mw_167 mw_3 mw_168 ok_mt_slotOf ⟨rfl, rfl, by decide, by decide⟩ rfl L.1 rfl (Nat.le_of_ble_eq_true rfl) d_mt_keep_2 (fun H locs X => ?_)
  refine lv_istore (lv' := [(7, .int _), (0, .ref _), (1, .int _), (2, .int _), (3, .long _), (5, .long _)]) X.1.1 X.1.2.1 d_mt_keep_5 L (by decide) rfl (fun ls L => ?_)
  refine lv_aload_n X.1.1 X.1.2.1 d_mt_keep_7 rfl (lv_at L 1 rfl) ?_
  refine g_mt_known X d_mt_keep_8 ?_
  refine lv_iload X.1.1 X.1.2.1 d_mt_keep_11 (lv_at L 0 rfl) ?_
  refine lv_iconst (v := 1) X.1.1 X.1.2.1 d_mt_keep_13 rfl ?_
  refine as_16 hI X (by assumption) rfl d_mt_keep_14 (fun H locs X => ?_)
  refine lv_aload_n X.1.1 X.1.2.1 d_mt_keep_15 rfl (lv_at L 1 rfl) ?_
  refine g_mt_lows X d_mt_keep_16 ?_
  refine lv_iload X.1.1 X.1.2.1 d_mt_keep_19 (lv_at L 0 rfl) ?_
  refine lv_lload_n X.1.1 X.1.2.1 d_mt_keep_21 rfl (lv_at L 4 rfl) ?_
  refine as_17 hI X (by assumption) d_mt_keep_22 (fun H locs X => ?_)
  refine lv_aload_n X.1.1 X.1.2.1 d_mt_keep_23 rfl (lv_at L 1 rfl) ?_
  refine g_mt_highs X d_mt_keep_24 ?_
  refine lv_iload X.1.1 X.1.2.1 d_mt_keep_27 (lv_at L 0 rfl) ?_
  refine lv_lload X.1.1 X.1.2.1 d_mt_keep_29 (lv_at L 5 rfl) ?_
  refine as_18 hI X (by assumption) d_mt_keep_31 (fun H locs X => ?_)
  exact X.vret hr hlk d_mt_keep_32 (by first | with_reducible rfl | (simp only [keep]; done) | rfl)
set_option maxHeartbeats 4000000 in
theorem c_mt_has {l : Launch} {D : va_G} {ad : Nat → Nat} {ci : Nat → ClassId} (hI : Inj ad) (σ : SS) (c t : Int32) (h_s : vp_in (slotOf c t) 224) (hz : narrow .boolean (.int (has σ c t)) = .int (has σ c t)) : Mi l y_mt_has b_mt_has 3 (some .boolean) ({ frames := 1, cells := 0, slots := 0, locals := 21 } : Room) (EC D ad ci) [.ref (ad 2), .int c, .int t] σ (has σ c t) (σ) := by
  refine Mi.start pn_mt (Nat.le_of_ble_eq_true rfl) (fun zp ze zs zm zb zt zc ls X hr hlk L => ?_)
  have L : lv_has ls 3 [(0, .ref (ad 2)), (1, .int c), (2, .int t)] := L
  refine lv_aload_n X.1.1 X.1.2.1 d_mt_has_0 rfl (lv_at L 0 rfl) ?_
  refine g_mt_known X d_mt_has_1 ?_
  refine lv_iload_n X.1.1 X.1.2.1 d_mt_has_4 rfl (lv_at L 1 rfl) ?_
  refine lv_iload_n X.1.1 X.1.2.1 d_mt_has_5 rfl (lv_at L 2 rfl) ?_
  refine Mi.callS (k := 2) (c_mt_slotOf hI _ _ _) X mw_166 mw_167 mw_3 mw_168 ok_mt_slotOf ⟨rfl, rfl, by decide, by decide⟩ rfl L.1 rfl (Nat.le_of_ble_eq_true rfl) d_mt_has_6 (fun H locs X => ?_)
  refine al_16 X (by assumption) d_mt_has_9 ?_
  exact X.zret hr hlk d_mt_has_10 hz rfl rfl
set_option maxHeartbeats 4000000 in
theorem c_mt_byteAt {l : Launch} {D : va_G} {ad : Nat → Nat} {ci : Nat → ClassId} (hI : Inj ad) (σ : SS) (c t q : Int32) (h_s : vp_in (slotOf c t) 224) : Mi l y_mt_byteAt b_mt_byteAt 7 (some .int) ({ frames := 1, cells := 0, slots := 0, locals := 21 } : Room) (EC D ad ci) [.ref (ad 2), .int c, .int t, .int q] σ (byteAt σ c t q) (σ) := by
  refine Mi.start pn_mt (Nat.le_of_ble_eq_true rfl) (fun zp ze zs zm zb zt zc ls X hr hlk L => ?_)
  have L : lv_has ls 7 [(0, .ref (ad 2)), (1, .int c), (2, .int t), (3, .int q)] := L
  refine lv_iload_n X.1.1 X.1.2.1 d_mt_byteAt_0 rfl (lv_at L 1 rfl) ?_
  refine lv_iload_n X.1.1 X.1.2.1 d_mt_byteAt_1 rfl (lv_at L 2 rfl) ?_
  refine Mi.callS (k := 2) (c_mt_slotOf hI _ _ _) X mw_166 mw_167 mw_3 mw_168 ok_mt_slotOf ⟨rfl, rfl, by decide, by decide⟩ rfl L.1 rfl (Nat.le_of_ble_eq_true rfl) d_mt_byteAt_2 (fun H locs X => ?_)
  refine lv_istore (lv' := [(4, .int _), (0, .ref _), (1, .int _), (2, .int _), (3, .int _)]) X.1.1 X.1.2.1 d_mt_byteAt_5 L (by decide) rfl (fun ls L => ?_)
  refine lv_iload_n X.1.1 X.1.2.1 d_mt_byteAt_7 rfl (lv_at L 4 rfl) ?_
  refine lv_bipush (v := 8) X.1.1 X.1.2.1 d_mt_byteAt_8 rfl ?_
  refine lv_icmp_ge (tgt := 23) X.1.1 X.1.2.1 d_mt_byteAt_10 rfl (fun h10 => ?_) (fun h10 => ?_)
  · skip
    refine lv_aload_n X.1.1 X.1.2.1 d_mt_byteAt_23 rfl (lv_at L 1 rfl) ?_
    refine g_mt_highs X d_mt_byteAt_24 ?_
    refine lv_iload X.1.1 X.1.2.1 d_mt_byteAt_27 (lv_at L 0 rfl) ?_
    refine al_18 X (by assumption) d_mt_byteAt_29 ?_
    refine lv_lstore (lv' := [(5, .long _), (4, .int _), (0, .ref _), (1, .int _), (2, .int _), (3, .int _)]) X.1.1 X.1.2.1 d_mt_byteAt_30 L (by decide) rfl (fun ls L => ?_)
    refine lv_lload X.1.1 X.1.2.1 d_mt_byteAt_32 (lv_at L 0 rfl) ?_
    refine lv_iload_n X.1.1 X.1.2.1 d_mt_byteAt_34 rfl (lv_at L 5 rfl) ?_
    refine lv_bipush (v := 8) X.1.1 X.1.2.1 d_mt_byteAt_35 rfl ?_
    refine lv_irem X.1.1 X.1.2.1 d_mt_byteAt_37 (by decide) ?_
    refine lv_bipush (v := 8) X.1.1 X.1.2.1 d_mt_byteAt_38 rfl ?_
    refine lv_imul X.1.1 X.1.2.1 d_mt_byteAt_40 ?_
    refine lv_lushr X.1.1 X.1.2.1 d_mt_byteAt_41 rfl ?_
    refine lv_l2i X.1.1 X.1.2.1 d_mt_byteAt_42 rfl ?_
    refine lv_sipush (v := 255) X.1.1 X.1.2.1 d_mt_byteAt_43 rfl ?_
    refine lv_iand X.1.1 X.1.2.1 d_mt_byteAt_46 ?_
    exact X.iret hr hlk d_mt_byteAt_47 (by first | (rw [byteAt, if_pos h10]; rfl) | (rw [byteAt, if_neg h10]; rfl)) rfl
  · skip
    refine lv_aload_n X.1.1 X.1.2.1 d_mt_byteAt_13 rfl (lv_at L 1 rfl) ?_
    refine g_mt_lows X d_mt_byteAt_14 ?_
    refine lv_iload X.1.1 X.1.2.1 d_mt_byteAt_17 (lv_at L 0 rfl) ?_
    refine al_17 X (by assumption) d_mt_byteAt_19 ?_
    refine lv_goto (tgt := 30) X.1.1 X.1.2.1 d_mt_byteAt_20 rfl ?_
    refine lv_lstore (lv' := [(5, .long _), (4, .int _), (0, .ref _), (1, .int _), (2, .int _), (3, .int _)]) X.1.1 X.1.2.1 d_mt_byteAt_30 L (by decide) rfl (fun ls L => ?_)
    refine lv_lload X.1.1 X.1.2.1 d_mt_byteAt_32 (lv_at L 0 rfl) ?_
    refine lv_iload_n X.1.1 X.1.2.1 d_mt_byteAt_34 rfl (lv_at L 5 rfl) ?_
    refine lv_bipush (v := 8) X.1.1 X.1.2.1 d_mt_byteAt_35 rfl ?_
    refine lv_irem X.1.1 X.1.2.1 d_mt_byteAt_37 (by decide) ?_
    refine lv_bipush (v := 8) X.1.1 X.1.2.1 d_mt_byteAt_38 rfl ?_
    refine lv_imul X.1.1 X.1.2.1 d_mt_byteAt_40 ?_
    refine lv_lushr X.1.1 X.1.2.1 d_mt_byteAt_41 rfl ?_
    refine lv_l2i X.1.1 X.1.2.1 d_mt_byteAt_42 rfl ?_
    refine lv_sipush (v := 255) X.1.1 X.1.2.1 d_mt_byteAt_43 rfl ?_
    refine lv_iand X.1.1 X.1.2.1 d_mt_byteAt_46 ?_
    exact X.iret hr hlk d_mt_byteAt_47 (by first | (rw [byteAt, if_pos h10]; rfl) | (rw [byteAt, if_neg h10]; rfl)) rfl
set_option maxHeartbeats 4000000 in
theorem c_mt_forget {l : Launch} {D : va_G} {ad : Nat → Nat} {ci : Nat → ClassId} (hI : Inj ad) (σ : SS) (c : Int32) (h_c : vp_in c 28) : Mv l y_mt_forget b_mt_forget 3 ({ frames := 1, cells := 0, slots := 0, locals := 21 } : Room) (EC D ad ci) [.ref (ad 2), .int c] σ (forget σ c) := by
  refine Mv.start pn_mt (Nat.le_of_ble_eq_true rfl) (fun zp ze zs zm zb zt zc ls X hr hlk L => ?_)
  have L : lv_has ls 3 [(0, .ref (ad 2)), (1, .int c)] := L
  refine lv_iconst (v := 0) X.1.1 X.1.2.1 d_mt_forget_0 rfl ?_
  refine lv_istore_n (lv' := [(2, .int _), (0, .ref _), (1, .int _)]) X.1.1 X.1.2.1 d_mt_forget_1 rfl L (by decide) rfl (fun ls L => ?_)
  have loop2 : ∀ (n : Nat) (k : Nat) (σ1 : SS) (H : Heap) (locs : List Loc) (ls : Array Slot), (k + n = 8) → (fgL n k σ1 c = forget σ c) → Cx (EC D ad ci) zp zs zm (([.ref (ad 2), .int c] : List Value).toArray) zc b_mt_forget 3 "MessageMachine$Methods" H locs σ1 → lv_has ls 3 [(2, .int (nI k)), (0, .ref (ad 2)), (1, .int c)] → W zp l ze ({ frames := 1, cells := 0, slots := 0, locals := 21 } : Room) zs zm (([.ref (ad 2), .int c] : List Value).toArray) zb zt zc H locs 0 0 (MQ zb (va_Qv (fun (u : SS) => u = (forget σ c)) (fun u t => Pq (EC D ad ci) u t) (EC D ad ci).2.2.2) (([.ref (ad 2), .int c] : List Value).toArray) zs 0 0 (EC D ad ci).2.2.2) (F0 zm 2 ls []) := by
    intro n
    induction n with
    | zero =>
      intro k σ1 H locs ls hk hq X L
      refine lv_iload_n X.1.1 X.1.2.1 d_mt_forget_2 rfl (lv_at L 0 rfl) ?_
      refine lv_bipush (v := 8) X.1.1 X.1.2.1 d_mt_forget_3 rfl ?_
      refine lv_icmp_ge (tgt := 25) X.1.1 X.1.2.1 d_mt_forget_5 rfl (fun h5 => ?_) (fun h5 => ?_)
      · skip
        exact X.vret hr hlk d_mt_forget_25 hq
      · skip
        exact absurd ((le8N (by omega)).mpr (by omega)) h5
    | succ n ih =>
      intro k σ1 H locs ls hk hq X L
      refine lv_iload_n X.1.1 X.1.2.1 d_mt_forget_2 rfl (lv_at L 0 rfl) ?_
      refine lv_bipush (v := 8) X.1.1 X.1.2.1 d_mt_forget_3 rfl ?_
      refine lv_icmp_ge (tgt := 25) X.1.1 X.1.2.1 d_mt_forget_5 rfl (fun h5 => ?_) (fun h5 => ?_)
      · skip
        exact absurd ((le8N (by omega)).mp h5) (by omega)
      · skip
        refine lv_aload_n X.1.1 X.1.2.1 d_mt_forget_8 rfl (lv_at L 1 rfl) ?_
        refine g_mt_known X d_mt_forget_9 ?_
        refine lv_iload_n X.1.1 X.1.2.1 d_mt_forget_12 rfl (lv_at L 2 rfl) ?_
        refine lv_iload_n X.1.1 X.1.2.1 d_mt_forget_13 rfl (lv_at L 0 rfl) ?_
        refine Mi.callS (k := 2) (c_mt_slotOf hI _ _ _) X mw_166 mw_167 mw_3 mw_168 ok_mt_slotOf ⟨rfl, rfl, by decide, by decide⟩ rfl L.1 rfl (Nat.le_of_ble_eq_true rfl) d_mt_forget_14 (fun H locs X => ?_)
        refine lv_iconst (v := 0) X.1.1 X.1.2.1 d_mt_forget_17 rfl ?_
        refine as_16 hI X (slot_in h_c (vp_k (by omega) (by decide))) rfl d_mt_forget_18 (fun H locs X => ?_)
        refine lv_iinc (k := 0) (lv' := [(2, .int (nI (k + 1))), (0, .ref _), (1, .int _)]) X.1.1 X.1.2.1 d_mt_forget_19 L rfl (nI_inc k) (by decide) rfl (fun ls L => ?_)
        refine lv_goto (tgt := 2) X.1.1 X.1.2.1 d_mt_forget_22 rfl ?_
        exact ih (k + 1) _ _ _ _ (by omega) (by rw [← hq]; rfl) X L
  exact loop2 8 0 σ _ _ _ (by omega) rfl X L
