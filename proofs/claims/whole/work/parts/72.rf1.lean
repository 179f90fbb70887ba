set_option maxHeartbeats 4000000 in
theorem c_rf_isNumber {l : Launch} {D : va_G} {ad : Nat → Nat} {ci : Nat → ClassId} (hI : InjR ad) (σ : SS) (w : Int32)  : Mi l y_rf_isNumber b_rf_isNumber 1 (some .boolean) ({ frames := 0, cells := 0, slots := 0, locals := 0 } : Room) (ER D ad ci) [.int w] σ (isNumberM w) (σ) := by
  refine Mi.start pn_rf (Nat.le_of_ble_eq_true rfl) (fun zp ze zs zm zb zt zc ls X hr hlk L => ?_)
  have L : lv_has ls 1 [(0, .int w)] := L
  refine lv_iload_n X.1.1 X.1.2.1 d_rf_isNumber_0 rfl (lv_at L 0 rfl) ?_
  refine lv_bipush (v := 28) X.1.1 X.1.2.1 d_rf_isNumber_1 rfl ?_
  refine lv_icmp_lt (tgt := 10) X.1.1 X.1.2.1 d_rf_isNumber_3 rfl (fun h3 => ?_) (fun h3 => ?_)
  · skip
    refine lv_iconst (v := 0) X.1.1 X.1.2.1 d_rf_isNumber_10 rfl ?_
    exact X.zret hr hlk d_rf_isNumber_11 (by first | rfl | assumption) (by first | (simp only [isNumberM, eq_true h3, if_true, if_false]; done) | (simp [isNumberM, eq_true h3]; done) | (simp [isNumberM, h3]; done) | rfl) rfl
  · skip
    refine lv_iconst (v := 1) X.1.1 X.1.2.1 d_rf_isNumber_6 rfl ?_
    refine lv_goto (tgt := 11) X.1.1 X.1.2.1 d_rf_isNumber_7 rfl ?_
    exact X.zret hr hlk d_rf_isNumber_11 (by first | rfl | assumption) (by first | (simp only [isNumberM, eq_false h3, if_true, if_false]; done) | (simp [isNumberM, eq_false h3]; done) | (simp [isNumberM, h3]; done) | rfl) rfl
set_option maxHeartbeats 4000000 in
theorem c_rf_isClass {l : Launch} {D : va_G} {ad : Nat → Nat} {ci : Nat → ClassId} (hI : InjR ad) (σ : SS) (w : Int32) (n_w : 0 ≤ w.toInt) : Mi l y_rf_isClass b_rf_isClass 2 (some .boolean) ({ frames := 1, cells := 0, slots := 0, locals := 20 } : Room) (ER D ad ci) [.ref (ad 0), .int w] σ (isClassM σ w) (σ) := by
  refine Mi.start pn_rf (Nat.le_of_ble_eq_true rfl) (fun zp ze zs zm zb zt zc ls X hr hlk L => ?_)
  have L : lv_has ls 2 [(0, .ref (ad 0)), (1, .int w)] := L
  refine lv_iload_n X.1.1 X.1.2.1 d_rf_isClass_0 rfl (lv_at L 1 rfl) ?_
  refine Mi.callS (k := 1) (c_rf_isNumber hI _ _) X mw_532 mw_533 mw_5 mw_534 ok_rf_isNumber ⟨rfl, rfl, by decide, by decide⟩ rfl L.1 rfl (Nat.le_of_ble_eq_true rfl) d_rf_isClass_1 (fun H locs X => ?_)
  refine lv_if_ne (tgt := 21) X.1.1 X.1.2.1 d_rf_isClass_4 rfl (fun h4 => ?_) (fun h4 => ?_)
  · skip
    refine lv_iconst (v := 0) X.1.1 X.1.2.1 d_rf_isClass_21 rfl ?_
    exact X.zret hr hlk d_rf_isClass_22 (by first | rfl | assumption) (by first | (simp only [isClassM, eq_false h4, if_true, if_false]; done) | (simp [isClassM, eq_false h4]; done) | (simp [isClassM, h4]; done) | rfl) rfl
  · skip
    refine lv_aload_n X.1.1 X.1.2.1 d_rf_isClass_7 rfl (lv_at L 0 rfl) ?_
    refine g_rf_sort X d_rf_isClass_8 ?_
    refine lv_iload_n X.1.1 X.1.2.1 d_rf_isClass_11 rfl (lv_at L 1 rfl) ?_
    refine rl_2 X (num_in h4 n_w) d_rf_isClass_12 ?_
    refine lv_iconst (v := 1) X.1.1 X.1.2.1 d_rf_isClass_13 rfl ?_
    refine lv_icmp_ne (tgt := 21) X.1.1 X.1.2.1 d_rf_isClass_14 rfl (fun h14 => ?_) (fun h14 => ?_)
    · skip
      refine lv_iconst (v := 0) X.1.1 X.1.2.1 d_rf_isClass_21 rfl ?_
      exact X.zret hr hlk d_rf_isClass_22 (by first | rfl | assumption) (by first | (simp only [isClassM, eq_true h4, eq_false h14, if_true, if_false]; done) | (simp [isClassM, eq_true h4, eq_false h14]; done) | (simp [isClassM, h4, h14]; done) | rfl) rfl
    · skip
      refine lv_iconst (v := 1) X.1.1 X.1.2.1 d_rf_isClass_17 rfl ?_
      refine lv_goto (tgt := 22) X.1.1 X.1.2.1 d_rf_isClass_18 rfl ?_
      exact X.zret hr hlk d_rf_isClass_22 (by first | rfl | assumption) (by first | (simp only [isClassM, eq_true h4, eq_true h14, if_true, if_false]; done) | (simp [isClassM, eq_true h4, eq_true h14]; done) | (simp [isClassM, h4, h14]; done) | rfl) rfl
set_option maxHeartbeats 4000000 in
theorem c_rf_isContext {l : Launch} {D : va_G} {ad : Nat → Nat} {ci : Nat → ClassId} (hI : InjR ad) (σ : SS) (w : Int32) (n_w : 0 ≤ w.toInt) : Mi l y_rf_isContext b_rf_isContext 2 (some .boolean) ({ frames := 1, cells := 0, slots := 0, locals := 20 } : Room) (ER D ad ci) [.ref (ad 0), .int w] σ (isContextM σ w) (σ) := by
  refine Mi.start pn_rf (Nat.le_of_ble_eq_true rfl) (fun zp ze zs zm zb zt zc ls X hr hlk L => ?_)
  have L : lv_has ls 2 [(0, .ref (ad 0)), (1, .int w)] := L
  refine lv_iload_n X.1.1 X.1.2.1 d_rf_isContext_0 rfl (lv_at L 1 rfl) ?_
  refine Mi.callS (k := 1) (c_rf_isNumber hI _ _) X mw_532 mw_533 mw_5 mw_534 ok_rf_isNumber ⟨rfl, rfl, by decide, by decide⟩ rfl L.1 rfl (Nat.le_of_ble_eq_true rfl) d_rf_isContext_1 (fun H locs X => ?_)
  refine lv_if_ne (tgt := 21) X.1.1 X.1.2.1 d_rf_isContext_4 rfl (fun h4 => ?_) (fun h4 => ?_)
  · skip
    refine lv_iconst (v := 0) X.1.1 X.1.2.1 d_rf_isContext_21 rfl ?_
    exact X.zret hr hlk d_rf_isContext_22 (by first | rfl | assumption) (by first | (simp only [isContextM, eq_false h4, if_true, if_false]; done) | (simp [isContextM, eq_false h4]; done) | (simp [isContextM, h4]; done) | rfl) rfl
  · skip
    refine lv_aload_n X.1.1 X.1.2.1 d_rf_isContext_7 rfl (lv_at L 0 rfl) ?_
    refine g_rf_sort X d_rf_isContext_8 ?_
    refine lv_iload_n X.1.1 X.1.2.1 d_rf_isContext_11 rfl (lv_at L 1 rfl) ?_
    refine rl_2 X (num_in h4 n_w) d_rf_isContext_12 ?_
    refine lv_iconst (v := 2) X.1.1 X.1.2.1 d_rf_isContext_13 rfl ?_
    refine lv_icmp_ne (tgt := 21) X.1.1 X.1.2.1 d_rf_isContext_14 rfl (fun h14 => ?_) (fun h14 => ?_)
    · skip
      refine lv_iconst (v := 0) X.1.1 X.1.2.1 d_rf_isContext_21 rfl ?_
      exact X.zret hr hlk d_rf_isContext_22 (by first | rfl | assumption) (by first | (simp only [isContextM, eq_true h4, eq_false h14, if_true, if_false]; done) | (simp [isContextM, eq_true h4, eq_false h14]; done) | (simp [isContextM, h4, h14]; done) | rfl) rfl
    · skip
      refine lv_iconst (v := 1) X.1.1 X.1.2.1 d_rf_isContext_17 rfl ?_
      refine lv_goto (tgt := 22) X.1.1 X.1.2.1 d_rf_isContext_18 rfl ?_
      exact X.zret hr hlk d_rf_isContext_22 (by first | rfl | assumption) (by first | (simp only [isContextM, eq_true h4, eq_true h14, if_true, if_false]; done) | (simp [isContextM, eq_true h4, eq_true h14]; done) | (simp [isContextM, h4, h14]; done) | rfl) rfl
set_option maxHeartbeats 4000000 in
theorem c_rf_classOfWord {l : Launch} {D : va_G} {ad : Nat → Nat} {ci : Nat → ClassId} (hI : InjR ad) (σ : SS) (w : Int32) (n_w : 0 ≤ w.toInt) : Mi l y_rf_classOfWord b_rf_classOfWord 2 (some .int) ({ frames := 1, cells := 0, slots := 0, locals := 20 } : Room) (ER D ad ci) [.ref (ad 0), .int w] σ (classOfWordM σ w) (σ) := by
  refine Mi.start pn_rf (Nat.le_of_ble_eq_true rfl) (fun zp ze zs zm zb zt zc ls X hr hlk L => ?_)
  have L : lv_has ls 2 [(0, .ref (ad 0)), (1, .int w)] := L
  refine lv_iload_n X.1.1 X.1.2.1 d_rf_classOfWord_0 rfl (lv_at L 1 rfl) ?_
  refine Mi.callS (k := 1) (c_rf_isNumber hI _ _) X mw_532 mw_533 mw_5 mw_534 ok_rf_isNumber ⟨rfl, rfl, by decide, by decide⟩ rfl L.1 rfl (Nat.le_of_ble_eq_true rfl) d_rf_classOfWord_1 (fun H locs X => ?_)
  refine lv_if_eq (tgt := 11) X.1.1 X.1.2.1 d_rf_classOfWord_4 rfl (fun h4 => ?_) (fun h4 => ?_)
  · skip
    refine lv_aload_n X.1.1 X.1.2.1 d_rf_classOfWord_11 rfl (lv_at L 0 rfl) ?_
    refine g_rf_cls X d_rf_classOfWord_12 ?_
    refine lv_iload_n X.1.1 X.1.2.1 d_rf_classOfWord_15 rfl (lv_at L 1 rfl) ?_
    refine rl_3 X (num_in h4 n_w) d_rf_classOfWord_16 ?_
    exact X.iret hr hlk d_rf_classOfWord_17 (by first | (simp only [classOfWordM, eq_true h4, if_true, if_false]; done) | (simp [classOfWordM, eq_true h4]; done) | (simp [classOfWordM, h4]; done) | rfl) rfl
  · skip
    refine lv_iconst (v := 2) X.1.1 X.1.2.1 d_rf_classOfWord_7 rfl ?_
    refine lv_goto (tgt := 17) X.1.1 X.1.2.1 d_rf_classOfWord_8 rfl ?_
    exact X.iret hr hlk d_rf_classOfWord_17 (by first | (simp only [classOfWordM, eq_false h4, if_true, if_false]; done) | (simp [classOfWordM, eq_false h4]; done) | (simp [classOfWordM, h4]; done) | rfl) rfl
set_option maxHeartbeats 4000000 in
theorem c_rf_noHandle {l : Launch} {D : va_G} {ad : Nat → Nat} {ci : Nat → ClassId} (hI : InjR ad) (σ : SS) (w : Int32)  : Mi l y_rf_noHandle b_rf_noHandle 1 (some .boolean) ({ frames := 0, cells := 0, slots := 0, locals := 0 } : Room) (ER D ad ci) [.int w] σ (noHandleM w) (σ) := by
  refine Mi.start pn_rf (Nat.le_of_ble_eq_true rfl) (fun zp ze zs zm zb zt zc ls X hr hlk L => ?_)
  have L : lv_has ls 1 [(0, .int w)] := L
  refine lv_iload_n X.1.1 X.1.2.1 d_rf_noHandle_0 rfl (lv_at L 0 rfl) ?_
  refine lv_if_lt (tgt := 9) X.1.1 X.1.2.1 d_rf_noHandle_1 rfl (fun h1 => ?_) (fun h1 => ?_)
  · skip
    refine lv_iconst (v := 1) X.1.1 X.1.2.1 d_rf_noHandle_9 rfl ?_
    refine lv_goto (tgt := 14) X.1.1 X.1.2.1 d_rf_noHandle_10 rfl ?_
    exact X.zret hr hlk d_rf_noHandle_14 (by first | rfl | assumption) (by first | (simp only [noHandleM, eq_true h1, if_true, if_false]; done) | (simp [noHandleM, eq_true h1]; done) | (simp [noHandleM, h1]; done) | rfl) rfl
  · skip
    refine lv_iload_n X.1.1 X.1.2.1 d_rf_noHandle_4 rfl (lv_at L 0 rfl) ?_
    refine lv_iconst (v := 5) X.1.1 X.1.2.1 d_rf_noHandle_5 rfl ?_
    refine lv_icmp_le (tgt := 13) X.1.1 X.1.2.1 d_rf_noHandle_6 rfl (fun h6 => ?_) (fun h6 => ?_)
    · skip
      refine lv_iconst (v := 0) X.1.1 X.1.2.1 d_rf_noHandle_13 rfl ?_
      exact X.zret hr hlk d_rf_noHandle_14 (by first | rfl | assumption) (by first | (simp only [noHandleM, eq_false h1, eq_true h6, if_true, if_false]; done) | (simp [noHandleM, eq_false h1, eq_true h6]; done) | (simp [noHandleM, h1, h6]; done) | rfl) rfl
    · skip
      refine lv_iconst (v := 1) X.1.1 X.1.2.1 d_rf_noHandle_9 rfl ?_
      refine lv_goto (tgt := 14) X.1.1 X.1.2.1 d_rf_noHandle_10 rfl ?_
      exact X.zret hr hlk d_rf_noHandle_14 (by first | rfl | assumption) (by first | (simp only [noHandleM, eq_false h1, eq_false h6, if_true, if_false]; done) | (simp [noHandleM, eq_false h1, eq_false h6]; done) | (simp [noHandleM, h1, h6]; done) | rfl) rfl
set_option maxHeartbeats 4000000 in
theorem c_rf_noSelector {l : Launch} {D : va_G} {ad : Nat → Nat} {ci : Nat → ClassId} (hI : InjR ad) (σ : SS) (w : Int32)  : Mi l y_rf_noSelector b_rf_noSelector 1 (some .boolean) ({ frames := 0, cells := 0, slots := 0, locals := 0 } : Room) (ER D ad ci) [.int w] σ (noSelectorM w) (σ) := by
  refine Mi.start pn_rf (Nat.le_of_ble_eq_true rfl) (fun zp ze zs zm zb zt zc ls X hr hlk L => ?_)
  have L : lv_has ls 1 [(0, .int w)] := L
  refine lv_iload_n X.1.1 X.1.2.1 d_rf_noSelector_0 rfl (lv_at L 0 rfl) ?_
  refine lv_if_lt (tgt := 10) X.1.1 X.1.2.1 d_rf_noSelector_1 rfl (fun h1 => ?_) (fun h1 => ?_)
  · skip
    refine lv_iconst (v := 1) X.1.1 X.1.2.1 d_rf_noSelector_10 rfl ?_
    refine lv_goto (tgt := 15) X.1.1 X.1.2.1 d_rf_noSelector_11 rfl ?_
    exact X.zret hr hlk d_rf_noSelector_15 (by first | rfl | assumption) (by first | (simp only [noSelectorM, eq_true h1, if_true, if_false]; done) | (simp [noSelectorM, eq_true h1]; done) | (simp [noSelectorM, h1]; done) | rfl) rfl
  · skip
    refine lv_iload_n X.1.1 X.1.2.1 d_rf_noSelector_4 rfl (lv_at L 0 rfl) ?_
    refine lv_bipush (v := 7) X.1.1 X.1.2.1 d_rf_noSelector_5 rfl ?_
    refine lv_icmp_le (tgt := 14) X.1.1 X.1.2.1 d_rf_noSelector_7 rfl (fun h7 => ?_) (fun h7 => ?_)
    · skip
      refine lv_iconst (v := 0) X.1.1 X.1.2.1 d_rf_noSelector_14 rfl ?_
      exact X.zret hr hlk d_rf_noSelector_15 (by first | rfl | assumption) (by first | (simp only [noSelectorM, eq_false h1, eq_true h7, if_true, if_false]; done) | (simp [noSelectorM, eq_false h1, eq_true h7]; done) | (simp [noSelectorM, h1, h7]; done) | rfl) rfl
    · skip
      refine lv_iconst (v := 1) X.1.1 X.1.2.1 d_rf_noSelector_10 rfl ?_
      refine lv_goto (tgt := 15) X.1.1 X.1.2.1 d_rf_noSelector_11 rfl ?_
      exact X.zret hr hlk d_rf_noSelector_15 (by first | rfl | assumption) (by first | (simp only [noSelectorM, eq_false h1, eq_false h7, if_true, if_false]; done) | (simp [noSelectorM, eq_false h1, eq_false h7]; done) | (simp [noSelectorM, h1, h7]; done) | rfl) rfl
set_option maxHeartbeats 4000000 in
theorem c_rf_noObject {l : Launch} {D : va_G} {ad : Nat → Nat} {ci : Nat → ClassId} (hI : InjR ad) (σ : SS) (o : Int32)  : Mi l y_rf_noObject b_rf_noObject 2 (some .boolean) ({ frames := 0, cells := 0, slots := 0, locals := 0 } : Room) (ER D ad ci) [.ref (ad 0), .int o] σ (noObjectM σ o) (σ) := by
  refine Mi.start pn_rf (Nat.le_of_ble_eq_true rfl) (fun zp ze zs zm zb zt zc ls X hr hlk L => ?_)
  have L : lv_has ls 2 [(0, .ref (ad 0)), (1, .int o)] := L
  refine lv_iload_n X.1.1 X.1.2.1 d_rf_noObject_0 rfl (lv_at L 1 rfl) ?_
  refine lv_if_lt (tgt := 19) X.1.1 X.1.2.1 d_rf_noObject_1 rfl (fun h1 => ?_) (fun h1 => ?_)
  · skip
    refine lv_iconst (v := 1) X.1.1 X.1.2.1 d_rf_noObject_19 rfl ?_
    refine lv_goto (tgt := 24) X.1.1 X.1.2.1 d_rf_noObject_20 rfl ?_
    exact X.zret hr hlk d_rf_noObject_24 (by first | rfl | assumption) (by first | (simp only [noObjectM, eq_true h1, if_true, if_false]; done) | (simp [noObjectM, eq_true h1]; done) | (simp [noObjectM, h1]; done) | rfl) rfl
  · skip
    refine lv_iload_n X.1.1 X.1.2.1 d_rf_noObject_4 rfl (lv_at L 1 rfl) ?_
    refine lv_bipush (v := 28) X.1.1 X.1.2.1 d_rf_noObject_5 rfl ?_
    refine lv_icmp_ge (tgt := 19) X.1.1 X.1.2.1 d_rf_noObject_7 rfl (fun h7 => ?_) (fun h7 => ?_)
    · skip
      refine lv_iconst (v := 1) X.1.1 X.1.2.1 d_rf_noObject_19 rfl ?_
      refine lv_goto (tgt := 24) X.1.1 X.1.2.1 d_rf_noObject_20 rfl ?_
      exact X.zret hr hlk d_rf_noObject_24 (by first | rfl | assumption) (by first | (simp only [noObjectM, eq_false h1, eq_true h7, if_true, if_false]; done) | (simp [noObjectM, eq_false h1, eq_true h7]; done) | (simp [noObjectM, h1, h7]; done) | rfl) rfl
    · skip
      refine lv_aload_n X.1.1 X.1.2.1 d_rf_noObject_10 rfl (lv_at L 0 rfl) ?_
      refine g_rf_live X d_rf_noObject_11 ?_
      refine lv_iload_n X.1.1 X.1.2.1 d_rf_noObject_14 rfl (lv_at L 1 rfl) ?_
      refine rl_1 X (vp_28 (by rw [ilt0] at h1; omega) h7) d_rf_noObject_15 ?_
      refine lv_if_ne (tgt := 23) X.1.1 X.1.2.1 d_rf_noObject_16 rfl (fun h16 => ?_) (fun h16 => ?_)
      · skip
        refine lv_iconst (v := 0) X.1.1 X.1.2.1 d_rf_noObject_23 rfl ?_
        exact X.zret hr hlk d_rf_noObject_24 (by first | rfl | assumption) (by first | (simp only [noObjectM, eq_false h1, eq_false h7, eq_false h16, if_true, if_false]; done) | (simp [noObjectM, eq_false h1, eq_false h7, eq_false h16]; done) | (simp [noObjectM, h1, h7, h16]; done) | rfl) rfl
      · skip
        refine lv_iconst (v := 1) X.1.1 X.1.2.1 d_rf_noObject_19 rfl ?_
        refine lv_goto (tgt := 24) X.1.1 X.1.2.1 d_rf_noObject_20 rfl ?_
        exact X.zret hr hlk d_rf_noObject_24 (by first | rfl | assumption) (by first | (simp only [noObjectM, eq_false h1, eq_false h7, eq_true h16, if_true, if_false]; done) | (simp [noObjectM, eq_false h1, eq_false h7, eq_true h16]; done) | (simp [noObjectM, h1, h7, h16]; done) | rfl) rfl
set_option maxHeartbeats 4000000 in
theorem c_rf_hasField {l : Launch} {D : va_G} {ad : Nat → Nat} {ci : Nat → ClassId} (hI : InjR ad) (σ : SS) (w k : Int32) (n_w : 0 ≤ w.toInt) : Mi l y_rf_hasField b_rf_hasField 3 (some .boolean) ({ frames := 1, cells := 0, slots := 0, locals := 20 } : Room) (ER D ad ci) [.ref (ad 0), .int w, .int k] σ (hasFieldM σ w k) (σ) := by
  refine Mi.start pn_rf (Nat.le_of_ble_eq_true rfl) (fun zp ze zs zm zb zt zc ls X hr hlk L => ?_)
  have L : lv_has ls 3 [(0, .ref (ad 0)), (1, .int w), (2, .int k)] := L
  refine lv_iload_n X.1.1 X.1.2.1 d_rf_hasField_0 rfl (lv_at L 1 rfl) ?_
  refine Mi.callS (k := 1) (c_rf_isNumber hI _ _) X mw_532 mw_533 mw_5 mw_534 ok_rf_isNumber ⟨rfl, rfl, by decide, by decide⟩ rfl L.1 rfl (Nat.le_of_ble_eq_true rfl) d_rf_hasField_1 (fun H locs X => ?_)
  refine lv_if_ne (tgt := 25) X.1.1 X.1.2.1 d_rf_hasField_4 rfl (fun h4 => ?_) (fun h4 => ?_)
  · skip
    refine lv_iconst (v := 0) X.1.1 X.1.2.1 d_rf_hasField_25 rfl ?_
    exact X.zret hr hlk d_rf_hasField_26 (by first | rfl | assumption) (by first | (simp only [hasFieldM, eq_false h4, if_true, if_false]; done) | (simp [hasFieldM, eq_false h4]; done) | (simp [hasFieldM, h4]; done) | rfl) rfl
  · skip
    refine lv_iload_n X.1.1 X.1.2.1 d_rf_hasField_7 rfl (lv_at L 2 rfl) ?_
    refine lv_if_lt (tgt := 25) X.1.1 X.1.2.1 d_rf_hasField_8 rfl (fun h8 => ?_) (fun h8 => ?_)
    · skip
      refine lv_iconst (v := 0) X.1.1 X.1.2.1 d_rf_hasField_25 rfl ?_
      exact X.zret hr hlk d_rf_hasField_26 (by first | rfl | assumption) (by first | (simp only [hasFieldM, eq_true h4, eq_true h8, if_true, if_false]; done) | (simp [hasFieldM, eq_true h4, eq_true h8]; done) | (simp [hasFieldM, h4, h8]; done) | rfl) rfl
    · skip
      refine lv_iload_n X.1.1 X.1.2.1 d_rf_hasField_11 rfl (lv_at L 2 rfl) ?_
      refine lv_aload_n X.1.1 X.1.2.1 d_rf_hasField_12 rfl (lv_at L 0 rfl) ?_
      refine g_rf_fields X d_rf_hasField_13 ?_
      refine lv_iload_n X.1.1 X.1.2.1 d_rf_hasField_16 rfl (lv_at L 1 rfl) ?_
      refine rl_4 X (num_in h4 n_w) d_rf_hasField_17 ?_
      refine lv_icmp_ge (tgt := 25) X.1.1 X.1.2.1 d_rf_hasField_18 rfl (fun h18 => ?_) (fun h18 => ?_)
      · skip
        refine lv_iconst (v := 0) X.1.1 X.1.2.1 d_rf_hasField_25 rfl ?_
        exact X.zret hr hlk d_rf_hasField_26 (by first | rfl | assumption) (by first | (simp only [hasFieldM, eq_true h4, eq_false h8, eq_true h18, if_true, if_false]; done) | (simp [hasFieldM, eq_true h4, eq_false h8, eq_true h18]; done) | (simp [hasFieldM, h4, h8, h18]; done) | rfl) rfl
      · skip
        refine lv_iconst (v := 1) X.1.1 X.1.2.1 d_rf_hasField_21 rfl ?_
        refine lv_goto (tgt := 26) X.1.1 X.1.2.1 d_rf_hasField_22 rfl ?_
        exact X.zret hr hlk d_rf_hasField_26 (by first | rfl | assumption) (by first | (simp only [hasFieldM, eq_true h4, eq_false h8, eq_false h18, if_true, if_false]; done) | (simp [hasFieldM, eq_true h4, eq_false h8, eq_false h18]; done) | (simp [hasFieldM, h4, h8, h18]; done) | rfl) rfl
set_option maxHeartbeats 4000000 in
theorem c_rf_found {l : Launch} {D : va_G} {ad : Nat → Nat} {ci : Nat → ClassId} (hI : InjR ad) (σ : SS) (f t : Int32) (hsup : SupM 28 σ f) (h_t : vp_in t 8) : Mi l y_rf_found b_rf_found 4 (some .int) ({ frames := 0, cells := 0, slots := 0, locals := 0 } : Room) (ER D ad ci) [.ref (ad 0), .int f, .int t] σ (foundM σ f t) (σ) := by
  refine Mi.start pn_rf (Nat.le_of_ble_eq_true rfl) (fun zp ze zs zm zb zt zc ls X hr hlk L => ?_)
  have L : lv_has ls 4 [(0, .ref (ad 0)), (1, .int f), (2, .int t)] := L
  refine lv_iload_n X.1.1 X.1.2.1 d_rf_found_0 rfl (lv_at L 1 rfl) ?_
  refine lv_istore_n (lv' := [(3, .int _), (0, .ref _), (1, .int _), (2, .int _)]) X.1.1 X.1.2.1 d_rf_found_1 rfl L (by decide) rfl (fun ls L => ?_)
  have loop2 : ∀ (n : Nat) (c : Int32) (σ1 : SS) (H : Heap) (locs : List Loc) (ls : Array Slot), (σ1 = σ) → (SupM n σ1 c) → (foundL n σ1 t c = foundL 28 σ t f) → Cx (ER D ad ci) zp zs zm (([.ref (ad 0), .int f, .int t] : List Value).toArray) zc b_rf_found 4 "MessageMachineModel" H locs σ1 → lv_has ls 4 [(3, .int c), (0, .ref (ad 0)), (1, .int f), (2, .int t)] → W zp l ze ({ frames := 0, cells := 0, slots := 0, locals := 0 } : Room) zs zm (([.ref (ad 0), .int f, .int t] : List Value).toArray) zb zt zc H locs 0 0 (MQ zb (va_Qi (fun (x : Int32) (u : SS) => x = (foundM σ f t) ∧ u = (σ)) (fun u t => Pq (ER D ad ci) u t) (ER D ad ci).2.2.2) (([.ref (ad 0), .int f, .int t] : List Value).toArray) zs 0 0 (ER D ad ci).2.2.2) (F0 zm 2 ls []) := by
    intro n
    induction n with
    | zero =>
      intro c σ1 H locs ls hs hc hq X L
      refine lv_iload_n X.1.1 X.1.2.1 d_rf_found_2 rfl (lv_at L 0 rfl) ?_
      refine lv_if_eq (tgt := 33) X.1.1 X.1.2.1 d_rf_found_3 rfl (fun h3 => ?_) (fun h3 => ?_)
      · skip
        refine lv_iload_n X.1.1 X.1.2.1 d_rf_found_33 rfl (lv_at L 0 rfl) ?_
        exact X.iret hr hlk d_rf_found_34 hq hs
      · skip
        exact absurd hc h3
    | succ n ih =>
      intro c σ1 H locs ls hs hc hq X L
      refine lv_iload_n X.1.1 X.1.2.1 d_rf_found_2 rfl (lv_at L 0 rfl) ?_
      refine lv_if_eq (tgt := 33) X.1.1 X.1.2.1 d_rf_found_3 rfl (fun h3 => ?_) (fun h3 => ?_)
      · skip
        refine lv_iload_n X.1.1 X.1.2.1 d_rf_found_33 rfl (lv_at L 0 rfl) ?_
        exact X.iret hr hlk d_rf_found_34 (by first | rw [foundM, ← hq, foundL, if_pos h3] | rw [foundM, ← hq, foundL, if_neg h3, if_neg h17]) hs
      · skip
        refine lv_aload_n X.1.1 X.1.2.1 d_rf_found_6 rfl (lv_at L 1 rfl) ?_
        refine g_rf_has X d_rf_found_7 ?_
        refine lv_bipush (v := 8) X.1.1 X.1.2.1 d_rf_found_10 rfl ?_
        refine lv_iload_n X.1.1 X.1.2.1 d_rf_found_12 rfl (lv_at L 0 rfl) ?_
        refine lv_imul X.1.1 X.1.2.1 d_rf_found_13 ?_
        refine lv_iload_n X.1.1 X.1.2.1 d_rf_found_14 rfl (lv_at L 3 rfl) ?_
        refine lv_iadd X.1.1 X.1.2.1 d_rf_found_15 ?_
        refine rl_9 X (slv (hc.resolve_left h3).1 h_t) d_rf_found_16 ?_
        refine lv_if_ne (tgt := 33) X.1.1 X.1.2.1 d_rf_found_17 rfl (fun h17 => ?_) (fun h17 => ?_)
        · skip
          refine lv_iload_n X.1.1 X.1.2.1 d_rf_found_33 rfl (lv_at L 0 rfl) ?_
          exact X.iret hr hlk d_rf_found_34 (by first | rw [foundM, ← hq, foundL, if_pos h3] | rw [foundM, ← hq, foundL, if_neg h3, if_neg h17]) hs
        · skip
          refine lv_aload_n X.1.1 X.1.2.1 d_rf_found_20 rfl (lv_at L 1 rfl) ?_
          refine g_rf_word X d_rf_found_21 ?_
          refine lv_bipush (v := 15) X.1.1 X.1.2.1 d_rf_found_24 rfl ?_
          refine lv_iload_n X.1.1 X.1.2.1 d_rf_found_26 rfl (lv_at L 0 rfl) ?_
          refine lv_imul X.1.1 X.1.2.1 d_rf_found_27 ?_
          refine rl_5 X (w15v (hc.resolve_left h3).1) d_rf_found_28 ?_
          refine lv_istore_n (lv' := [(3, .int _), (0, .ref _), (1, .int _), (2, .int _)]) X.1.1 X.1.2.1 d_rf_found_29 rfl L (by decide) rfl (fun ls L => ?_)
          refine lv_goto (tgt := 2) X.1.1 X.1.2.1 d_rf_found_30 rfl ?_
          exact ih _ σ1 _ _ _ hs (hc.resolve_left h3).2 (by rw [← hq, foundL, if_neg h3, if_pos h17]) X L
  exact loop2 28 f σ _ _ _ rfl hsup rfl X L
set_option maxHeartbeats 4000000 in
theorem c_rf_tally {l : Launch} {D : va_G} {ad : Nat → Nat} {ci : Nat → ClassId} (hI : InjR ad) (σ : SS)  (hm : RGm σ) : Mv l y_rf_tally b_rf_tally 4 ({ frames := 1, cells := 0, slots := 0, locals := 20 } : Room) (ER D ad ci) [.ref (ad 0)] σ (tallyM σ) := by
  refine Mv.start pn_rf (Nat.le_of_ble_eq_true rfl) (fun zp ze zs zm zb zt zc ls X hr hlk L => ?_)
  have L : lv_has ls 4 [(0, .ref (ad 0))] := L
  refine lv_iconst (v := 0) X.1.1 X.1.2.1 d_rf_tally_0 rfl ?_
  refine lv_istore_n (lv' := [(1, .int _), (0, .ref _)]) X.1.1 X.1.2.1 d_rf_tally_1 rfl L (by decide) rfl (fun ls L => ?_)
  have loop2 : ∀ (n : Nat) (k : Nat) (σ1 : SS) (H : Heap) (locs : List Loc) (ls : Array Slot), (k + n = 28) → (RGm σ1) → (tl2 (clL n k σ1) = tallyM σ) → Cx (ER D ad ci) zp zs zm (([.ref (ad 0)] : List Value).toArray) zc b_rf_tally 4 "MessageMachineModel" H locs σ1 → lv_has ls 4 [(1, .int (nI k)), (0, .ref (ad 0))] → W zp l ze ({ frames := 1, cells := 0, slots := 0, locals := 20 } : Room) zs zm (([.ref (ad 0)] : List Value).toArray) zb zt zc H locs 0 0 (MQ zb (va_Qv (fun (u : SS) => u = (tallyM σ)) (fun u t => Pq (ER D ad ci) u t) (ER D ad ci).2.2.2) (([.ref (ad 0)] : List Value).toArray) zs 0 0 (ER D ad ci).2.2.2) (F0 zm 2 ls []) := by
    intro n
    induction n with
    | zero =>
      intro k σ1 H locs ls hk hm1 hq X L
      refine lv_iload_n X.1.1 X.1.2.1 d_rf_tally_2 rfl (lv_at L 0 rfl) ?_
      refine lv_bipush (v := 28) X.1.1 X.1.2.1 d_rf_tally_3 rfl ?_
      refine lv_icmp_ge (tgt := 21) X.1.1 X.1.2.1 d_rf_tally_5 rfl (fun h5 => ?_) (fun h5 => ?_)
      · skip
        refine lv_iconst (v := 0) X.1.1 X.1.2.1 d_rf_tally_21 rfl ?_
        refine lv_istore_n (lv' := [(1, .int _), (0, .ref _)]) X.1.1 X.1.2.1 d_rf_tally_22 rfl L (by decide) rfl (fun ls L => ?_)
        have loop23 : ∀ (n : Nat) (k : Nat) (σ1 : SS) (H : Heap) (locs : List Loc) (ls : Array Slot), (k + n = 28) → (RGm σ1) → (tl3 (toL n k σ1) = tallyM σ) → Cx (ER D ad ci) zp zs zm (([.ref (ad 0)] : List Value).toArray) zc b_rf_tally 4 "MessageMachineModel" H locs σ1 → lv_has ls 4 [(1, .int (nI k)), (0, .ref (ad 0))] → W zp l ze ({ frames := 1, cells := 0, slots := 0, locals := 20 } : Room) zs zm (([.ref (ad 0)] : List Value).toArray) zb zt zc H locs 0 0 (MQ zb (va_Qv (fun (u : SS) => u = (tallyM σ)) (fun u t => Pq (ER D ad ci) u t) (ER D ad ci).2.2.2) (([.ref (ad 0)] : List Value).toArray) zs 0 0 (ER D ad ci).2.2.2) (F0 zm 23 ls []) := by
          intro n
          induction n with
          | zero =>
            intro k σ1 H locs ls hk hm1 hq X L
            refine lv_iload_n X.1.1 X.1.2.1 d_rf_tally_23 rfl (lv_at L 0 rfl) ?_
            refine lv_bipush (v := 28) X.1.1 X.1.2.1 d_rf_tally_24 rfl ?_
            refine lv_icmp_ge (tgt := 106) X.1.1 X.1.2.1 d_rf_tally_26 rfl (fun h26 => ?_) (fun h26 => ?_)
            · skip
              refine lv_iconst (v := 0) X.1.1 X.1.2.1 d_rf_tally_106 rfl ?_
              refine lv_istore_n (lv' := [(1, .int _), (0, .ref _)]) X.1.1 X.1.2.1 d_rf_tally_107 rfl L (by decide) rfl (fun ls L => ?_)
              have loop108 : ∀ (n : Nat) (k : Nat) (σ1 : SS) (H : Heap) (locs : List Loc) (ls : Array Slot), (k + n = 6) → (RGm σ1) → (tl4 (thL n k σ1) = tallyM σ) → Cx (ER D ad ci) zp zs zm (([.ref (ad 0)] : List Value).toArray) zc b_rf_tally 4 "MessageMachineModel" H locs σ1 → lv_has ls 4 [(1, .int (nI k)), (0, .ref (ad 0))] → W zp l ze ({ frames := 1, cells := 0, slots := 0, locals := 20 } : Room) zs zm (([.ref (ad 0)] : List Value).toArray) zb zt zc H locs 0 0 (MQ zb (va_Qv (fun (u : SS) => u = (tallyM σ)) (fun u t => Pq (ER D ad ci) u t) (ER D ad ci).2.2.2) (([.ref (ad 0)] : List Value).toArray) zs 0 0 (ER D ad ci).2.2.2) (F0 zm 108 ls []) := by
                intro n
                induction n with
                | zero =>
                  intro k σ1 H locs ls hk hm1 hq X L
                  refine lv_iload_n X.1.1 X.1.2.1 d_rf_tally_108 rfl (lv_at L 0 rfl) ?_
                  refine lv_bipush (v := 6) X.1.1 X.1.2.1 d_rf_tally_109 rfl ?_
                  refine lv_icmp_ge (tgt := 147) X.1.1 X.1.2.1 d_rf_tally_111 rfl (fun h111 => ?_) (fun h111 => ?_)
                  · skip
                    refine lv_aload_n X.1.1 X.1.2.1 d_rf_tally_147 rfl (lv_at L 1 rfl) ?_
                    refine g_rf_holds X d_rf_tally_148 ?_
                    refine lv_aload_n X.1.1 X.1.2.1 d_rf_tally_151 rfl (lv_at L 1 rfl) ?_
                    refine g_rf_active X d_rf_tally_152 ?_
                    refine lv_dup2_11 X.1.1 X.1.2.1 d_rf_tally_155 rfl rfl ?_
                    refine rl_7 X hm1.ac d_rf_tally_156 ?_
                    refine lv_iconst (v := 1) X.1.1 X.1.2.1 d_rf_tally_157 rfl ?_
                    refine lv_iadd X.1.1 X.1.2.1 d_rf_tally_158 ?_
                    refine rs_7 hI X hm1.ac d_rf_tally_159 (fun H locs X => ?_)
                    exact X.vret hr hlk d_rf_tally_160 (by rw [← hq]; rfl)
                  · skip
                    exact absurd ((le6N (by omega)).mpr (by omega)) h111
                | succ n ih =>
                  intro k σ1 H locs ls hk hm1 hq X L
                  refine lv_iload_n X.1.1 X.1.2.1 d_rf_tally_108 rfl (lv_at L 0 rfl) ?_
                  refine lv_bipush (v := 6) X.1.1 X.1.2.1 d_rf_tally_109 rfl ?_
                  refine lv_icmp_ge (tgt := 147) X.1.1 X.1.2.1 d_rf_tally_111 rfl (fun h111 => ?_) (fun h111 => ?_)
                  · skip
                    exact absurd ((le6N (by omega)).mp h111) (by omega)
                  · skip
                    refine lv_aload_n X.1.1 X.1.2.1 d_rf_tally_114 rfl (lv_at L 1 rfl) ?_
                    refine g_rf_handles X d_rf_tally_115 ?_
                    refine lv_iload_n X.1.1 X.1.2.1 d_rf_tally_118 rfl (lv_at L 0 rfl) ?_
                    refine rl_12 X (vp_k (by omega) (by decide)) d_rf_tally_119 ?_
                    refine Mi.callS (k := 1) (c_rf_isNumber hI _ _) X mw_532 mw_533 mw_5 mw_534 ok_rf_isNumber ⟨rfl, rfl, by decide, by decide⟩ rfl L.1 rfl (Nat.le_of_ble_eq_true rfl) d_rf_tally_120 (fun H locs X => ?_)
                    refine lv_if_ne (tgt := 141) X.1.1 X.1.2.1 d_rf_tally_123 rfl (fun h123 => ?_) (fun h123 => ?_)
                    · skip
                      refine lv_iinc (k := 0) (lv' := [(1, .int (nI (k + 1))), (0, .ref _)]) X.1.1 X.1.2.1 d_rf_tally_141 L rfl (nI_inc k) (by decide) rfl (fun ls L => ?_)
                      refine lv_goto (tgt := 108) X.1.1 X.1.2.1 d_rf_tally_144 rfl ?_
                      exact ih (k + 1) _ _ _ _ (by omega) (by first | exact hm1 | exact RGm_inc hm1 _) (by rw [← hq, thL]; simp only [eq_false h111, eq_false h123, if_true, if_false]; try rfl) X L
                    · skip
                      refine lv_aload_n X.1.1 X.1.2.1 d_rf_tally_126 rfl (lv_at L 1 rfl) ?_
                      refine g_rf_holds X d_rf_tally_127 ?_
                      refine lv_aload_n X.1.1 X.1.2.1 d_rf_tally_130 rfl (lv_at L 1 rfl) ?_
                      refine g_rf_handles X d_rf_tally_131 ?_
                      refine lv_iload_n X.1.1 X.1.2.1 d_rf_tally_134 rfl (lv_at L 0 rfl) ?_
                      refine rl_12 X (vp_k (by omega) (by decide)) d_rf_tally_135 ?_
                      refine lv_dup2_11 X.1.1 X.1.2.1 d_rf_tally_136 rfl rfl ?_
                      refine rl_7 X (num_in h123 (hm1.hn (vp_k (by omega) (by decide)))) d_rf_tally_137 ?_
                      refine lv_iconst (v := 1) X.1.1 X.1.2.1 d_rf_tally_138 rfl ?_
                      refine lv_iadd X.1.1 X.1.2.1 d_rf_tally_139 ?_
                      refine rs_7 hI X (num_in h123 (hm1.hn (vp_k (by omega) (by decide)))) d_rf_tally_140 (fun H locs X => ?_)
                      refine lv_iinc (k := 0) (lv' := [(1, .int (nI (k + 1))), (0, .ref _)]) X.1.1 X.1.2.1 d_rf_tally_141 L rfl (nI_inc k) (by decide) rfl (fun ls L => ?_)
                      refine lv_goto (tgt := 108) X.1.1 X.1.2.1 d_rf_tally_144 rfl ?_
                      exact ih (k + 1) _ _ _ _ (by omega) (by first | exact hm1 | exact RGm_inc hm1 _) (by rw [← hq, thL]; simp only [eq_false h111, eq_true h123, if_true, if_false]; try rfl) X L
              exact loop108 6 0 _ _ _ _ (by omega) hm1 (by rw [← hq]; rfl) X L
            · skip
              exact absurd ((le28N (by omega)).mpr (by omega)) h26
          | succ n ih =>
            intro k σ1 H locs ls hk hm1 hq X L
            refine lv_iload_n X.1.1 X.1.2.1 d_rf_tally_23 rfl (lv_at L 0 rfl) ?_
            refine lv_bipush (v := 28) X.1.1 X.1.2.1 d_rf_tally_24 rfl ?_
            refine lv_icmp_ge (tgt := 106) X.1.1 X.1.2.1 d_rf_tally_26 rfl (fun h26 => ?_) (fun h26 => ?_)
            · skip
              exact absurd ((le28N (by omega)).mp h26) (by omega)
            · skip
              refine lv_aload_n X.1.1 X.1.2.1 d_rf_tally_29 rfl (lv_at L 1 rfl) ?_
              refine g_rf_live X d_rf_tally_30 ?_
              refine lv_iload_n X.1.1 X.1.2.1 d_rf_tally_33 rfl (lv_at L 0 rfl) ?_
              refine rl_1 X (vp_k (by omega) (by decide)) d_rf_tally_34 ?_
              refine lv_if_eq (tgt := 100) X.1.1 X.1.2.1 d_rf_tally_35 rfl (fun h35 => ?_) (fun h35 => ?_)
              · skip
                refine lv_iinc (k := 0) (lv' := [(1, .int (nI (k + 1))), (0, .ref _)]) X.1.1 X.1.2.1 d_rf_tally_100 L rfl (nI_inc k) (by decide) rfl (fun ls L => ?_)
                refine lv_goto (tgt := 23) X.1.1 X.1.2.1 d_rf_tally_103 rfl ?_
                exact ih (k + 1) _ _ _ _ (by omega) (by first | exact hm2 | exact hm1) (by first | (rw [← hN]; exact hq2) | rw [← hq, toL, if_pos h35]) X L
              · skip
                refine lv_aload_n X.1.1 X.1.2.1 d_rf_tally_38 rfl (lv_at L 1 rfl) ?_
                refine g_rf_holds X d_rf_tally_39 ?_
                refine lv_aload_n X.1.1 X.1.2.1 d_rf_tally_42 rfl (lv_at L 1 rfl) ?_
                refine g_rf_cls X d_rf_tally_43 ?_
                refine lv_iload_n X.1.1 X.1.2.1 d_rf_tally_46 rfl (lv_at L 0 rfl) ?_
                refine rl_3 X (vp_k (by omega) (by decide)) d_rf_tally_47 ?_
                refine lv_dup2_11 X.1.1 X.1.2.1 d_rf_tally_48 rfl rfl ?_
                refine rl_7 X (hm1.cl (vp_k (by omega) (by decide))) d_rf_tally_49 ?_
                refine lv_iconst (v := 1) X.1.1 X.1.2.1 d_rf_tally_50 rfl ?_
                refine lv_iadd X.1.1 X.1.2.1 d_rf_tally_51 ?_
                refine rs_7 hI X (hm1.cl (vp_k (by omega) (by decide))) d_rf_tally_52 (fun H locs X => ?_)
                refine lv_iconst (v := 0) X.1.1 X.1.2.1 d_rf_tally_53 rfl ?_
                refine lv_istore_n (lv' := [(2, .int _), (1, .int _), (0, .ref _)]) X.1.1 X.1.2.1 d_rf_tally_54 rfl L (by decide) rfl (fun ls L => ?_)
                obtain ⟨N, hN⟩ : ∃ N, N = n := ⟨n, rfl⟩
                have hF := hm1.fl (vp_k (show k < 28 by omega) (by decide) : vp_in (nI k) 28)
                have loop55 : ∀ (n : Nat) (j : Nat) (σ1 : SS) (H : Heap) (locs : List Loc) (ls : Array Slot), (nI (j + n) = σ1.1 4 (ix (nI k))) → (j + n ≤ 15) → (RGm σ1) → (tl3 (toL N (k + 1) (tfL n j σ1 k)) = tallyM σ) → Cx (ER D ad ci) zp zs zm (([.ref (ad 0)] : List Value).toArray) zc b_rf_tally 4 "MessageMachineModel" H locs σ1 → lv_has ls 4 [(2, .int (nI j)), (1, .int (nI k)), (0, .ref (ad 0))] → W zp l ze ({ frames := 1, cells := 0, slots := 0, locals := 20 } : Room) zs zm (([.ref (ad 0)] : List Value).toArray) zb zt zc H locs 0 0 (MQ zb (va_Qv (fun (u : SS) => u = (tallyM σ)) (fun u t => Pq (ER D ad ci) u t) (ER D ad ci).2.2.2) (([.ref (ad 0)] : List Value).toArray) zs 0 0 (ER D ad ci).2.2.2) (F0 zm 55 ls []) := by
                  intro n
                  induction n with
                  | zero =>
                    intro j σ1 H locs ls hj hjl hm2 hq2 X L
                    have e8 : σ1.1 4 (ix (nI k)) = nI j := hj.symm
                    refine lv_iload_n X.1.1 X.1.2.1 d_rf_tally_55 rfl (lv_at L 0 rfl) ?_
                    refine lv_aload_n X.1.1 X.1.2.1 d_rf_tally_56 rfl (lv_at L 2 rfl) ?_
                    refine g_rf_fields X d_rf_tally_57 ?_
                    refine lv_iload_n X.1.1 X.1.2.1 d_rf_tally_60 rfl (lv_at L 1 rfl) ?_
                    refine rl_4 X (vp_k (show k < 28 by omega) (by decide)) d_rf_tally_61 ?_
                    refine lv_icmp_ge (tgt := 100) X.1.1 X.1.2.1 d_rf_tally_62 rfl (fun h62 => ?_) (fun h62 => ?_)
                    · skip
                      refine lv_iinc (k := 1) (lv' := [(1, .int (nI (k + 1))), (2, .int _), (0, .ref _)]) X.1.1 X.1.2.1 d_rf_tally_100 L rfl (nI_inc k) (by decide) rfl (fun ls L => ?_)
                      refine lv_goto (tgt := 23) X.1.1 X.1.2.1 d_rf_tally_103 rfl ?_
                      exact ih (k + 1) _ _ _ _ (by omega) (by first | exact hm2 | exact hm1) (by first | (rw [← hN]; exact hq2) | rw [← hq, toL, if_pos h35]) X (lv_sub L [0, 2] rfl)
                    · skip
                      exact absurd (by rw [e8]; exact Int32.le_refl _) h62
                  | succ n ih =>
                    intro j σ1 H locs ls hj hjl hm2 hq2 X L
                    have e8 : ¬ σ1.1 4 (ix (nI k)) ≤ nI j := by rw [← hj, nI_leI (by omega) (by omega)]; omega
                    refine lv_iload_n X.1.1 X.1.2.1 d_rf_tally_55 rfl (lv_at L 0 rfl) ?_
                    refine lv_aload_n X.1.1 X.1.2.1 d_rf_tally_56 rfl (lv_at L 2 rfl) ?_
                    refine g_rf_fields X d_rf_tally_57 ?_
                    refine lv_iload_n X.1.1 X.1.2.1 d_rf_tally_60 rfl (lv_at L 1 rfl) ?_
                    refine rl_4 X (vp_k (show k < 28 by omega) (by decide)) d_rf_tally_61 ?_
                    refine lv_icmp_ge (tgt := 100) X.1.1 X.1.2.1 d_rf_tally_62 rfl (fun h62 => ?_) (fun h62 => ?_)
                    · skip
                      exact absurd h62 e8
                    · skip
                      refine lv_aload_n X.1.1 X.1.2.1 d_rf_tally_65 rfl (lv_at L 2 rfl) ?_
                      refine g_rf_word X d_rf_tally_66 ?_
                      refine lv_bipush (v := 15) X.1.1 X.1.2.1 d_rf_tally_69 rfl ?_
                      refine lv_iload_n X.1.1 X.1.2.1 d_rf_tally_71 rfl (lv_at L 1 rfl) ?_
                      refine lv_imul X.1.1 X.1.2.1 d_rf_tally_72 ?_
                      refine lv_iload_n X.1.1 X.1.2.1 d_rf_tally_73 rfl (lv_at L 0 rfl) ?_
                      refine lv_iadd X.1.1 X.1.2.1 d_rf_tally_74 ?_
                      refine rl_5 X (wik (by omega) (by omega)) d_rf_tally_75 ?_
                      refine lv_istore_n (lv' := [(3, .int _), (2, .int _), (1, .int _), (0, .ref _)]) X.1.1 X.1.2.1 d_rf_tally_76 rfl L (by decide) rfl (fun ls L => ?_)
                      refine lv_iload_n X.1.1 X.1.2.1 d_rf_tally_77 rfl (lv_at L 0 rfl) ?_
                      refine Mi.callS (k := 1) (c_rf_isNumber hI _ _) X mw_532 mw_533 mw_5 mw_534 ok_rf_isNumber ⟨rfl, rfl, by decide, by decide⟩ rfl L.1 rfl (Nat.le_of_ble_eq_true rfl) d_rf_tally_78 (fun H locs X => ?_)
                      refine lv_if_ne (tgt := 94) X.1.1 X.1.2.1 d_rf_tally_81 rfl (fun h81 => ?_) (fun h81 => ?_)
                      · skip
                        refine lv_iinc (k := 1) (lv' := [(2, .int (nI (j + 1))), (3, .int _), (1, .int _), (0, .ref _)]) X.1.1 X.1.2.1 d_rf_tally_94 L rfl (nI_inc j) (by decide) rfl (fun ls L => ?_)
                        refine lv_goto (tgt := 55) X.1.1 X.1.2.1 d_rf_tally_97 rfl ?_
                        exact ih (j + 1) _ _ _ _ (by rw [show j + 1 + n = j + (n + 1) by omega, hj]; try (first | rfl | exact (congrFun (incH_ne σ1 _ (by decide)) _).symm)) (by omega) (by first | exact hm2 | exact RGm_inc hm2 _) (by rw [← hq2, tfL]; simp only [eq_false h62, eq_false h81, if_true, if_false]; try rfl) X (lv_sub L [0, 2, 3] rfl)
                      · skip
                        refine lv_aload_n X.1.1 X.1.2.1 d_rf_tally_84 rfl (lv_at L 3 rfl) ?_
                        refine g_rf_holds X d_rf_tally_85 ?_
                        refine lv_iload_n X.1.1 X.1.2.1 d_rf_tally_88 rfl (lv_at L 0 rfl) ?_
                        refine lv_dup2_11 X.1.1 X.1.2.1 d_rf_tally_89 rfl rfl ?_
                        refine rl_7 X (num_in h81 (hm2.wd (wik (by omega) (by omega)))) d_rf_tally_90 ?_
                        refine lv_iconst (v := 1) X.1.1 X.1.2.1 d_rf_tally_91 rfl ?_
                        refine lv_iadd X.1.1 X.1.2.1 d_rf_tally_92 ?_
                        refine rs_7 hI X (num_in h81 (hm2.wd (wik (by omega) (by omega)))) d_rf_tally_93 (fun H locs X => ?_)
                        refine lv_iinc (k := 1) (lv' := [(2, .int (nI (j + 1))), (3, .int _), (1, .int _), (0, .ref _)]) X.1.1 X.1.2.1 d_rf_tally_94 L rfl (nI_inc j) (by decide) rfl (fun ls L => ?_)
                        refine lv_goto (tgt := 55) X.1.1 X.1.2.1 d_rf_tally_97 rfl ?_
                        exact ih (j + 1) _ _ _ _ (by rw [show j + 1 + n = j + (n + 1) by omega, hj]; try (first | rfl | exact (congrFun (incH_ne σ1 _ (by decide)) _).symm)) (by omega) (by first | exact hm2 | exact RGm_inc hm2 _) (by rw [← hq2, tfL]; simp only [eq_false h62, eq_true h81, if_true, if_false]; try rfl) X (lv_sub L [0, 2, 3] rfl)
                exact loop55 (ix (σ1.1 4 (ix (nI k)))) 0 _ _ _ _ (by rw [Nat.zero_add]; exact (ix_back hF.1).trans (congrFun (incH_ne σ1 _ (by decide)) _).symm) (by rw [Nat.zero_add]; exact ix_le hF.2) (RGm_inc hm1 _) (by rw [hN, ← hq, toL, if_neg h35]) X L
        exact loop23 28 0 _ _ _ _ (by omega) hm1 (by rw [← hq]; rfl) X L
      · skip
        exact absurd ((le28N (by omega)).mpr (by omega)) h5
    | succ n ih =>
      intro k σ1 H locs ls hk hm1 hq X L
      refine lv_iload_n X.1.1 X.1.2.1 d_rf_tally_2 rfl (lv_at L 0 rfl) ?_
      refine lv_bipush (v := 28) X.1.1 X.1.2.1 d_rf_tally_3 rfl ?_
      refine lv_icmp_ge (tgt := 21) X.1.1 X.1.2.1 d_rf_tally_5 rfl (fun h5 => ?_) (fun h5 => ?_)
      · skip
        exact absurd ((le28N (by omega)).mp h5) (by omega)
      · skip
        refine lv_aload_n X.1.1 X.1.2.1 d_rf_tally_8 rfl (lv_at L 1 rfl) ?_
        refine g_rf_holds X d_rf_tally_9 ?_
        refine lv_iload_n X.1.1 X.1.2.1 d_rf_tally_12 rfl (lv_at L 0 rfl) ?_
        refine lv_iconst (v := 0) X.1.1 X.1.2.1 d_rf_tally_13 rfl ?_
        refine rs_7 hI X (vp_k (by omega) (by decide)) d_rf_tally_14 (fun H locs X => ?_)
        refine lv_iinc (k := 0) (lv' := [(1, .int (nI (k + 1))), (0, .ref _)]) X.1.1 X.1.2.1 d_rf_tally_15 L rfl (nI_inc k) (by decide) rfl (fun ls L => ?_)
        refine lv_goto (tgt := 2) X.1.1 X.1.2.1 d_rf_tally_18 rfl ?_
        exact ih (k + 1) _ _ _ _ (by omega) (RGm_A hm1 (by decide) _ _) (by rw [← hq]; rfl) X L
  exact loop2 28 0 σ _ _ _ (by omega) hm (tl2_eq σ) X L
set_option maxHeartbeats 4000000 in
theorem c_rf_settle {l : Launch} {D : va_G} {ad : Nat → Nat} {ci : Nat → ClassId} (hI : InjR ad) (σ : SS)  (hm : RGm σ) : Mv l y_rf_settle b_rf_settle 3 ({ frames := 2, cells := 0, slots := 0, locals := 43 } : Room) (ER D ad ci) [.ref (ad 0)] σ (settleM σ) := by
  refine Mv.start pn_rf (Nat.le_of_ble_eq_true rfl) (fun zp ze zs zm zb zt zc ls X hr hlk L => ?_)
  have L : lv_has ls 3 [(0, .ref (ad 0))] := L
  refine lv_iconst (v := 1) X.1.1 X.1.2.1 d_rf_settle_0 rfl ?_
  refine lv_istore_n (lv' := [(1, .int _), (0, .ref _)]) X.1.1 X.1.2.1 d_rf_settle_1 rfl L (by decide) rfl (fun ls L => ?_)
  have loop2 : ∀ (n : Nat) (a : Int32) (σ1 : SS) (H : Heap) (locs : List Loc) (ls : Array Slot), (a = 0 ∨ cntL 28 (σ1.1 1) + 1 < n) → (RGm σ1) → (skL 28 0 (seL n σ1 a) = settleM σ) → Cx (ER D ad ci) zp zs zm (([.ref (ad 0)] : List Value).toArray) zc b_rf_settle 3 "MessageMachineModel" H locs σ1 → lv_has ls 3 [(1, .int a), (0, .ref (ad 0))] → W zp l ze ({ frames := 2, cells := 0, slots := 0, locals := 43 } : Room) zs zm (([.ref (ad 0)] : List Value).toArray) zb zt zc H locs 0 0 (MQ zb (va_Qv (fun (u : SS) => u = (settleM σ)) (fun u t => Pq (ER D ad ci) u t) (ER D ad ci).2.2.2) (([.ref (ad 0)] : List Value).toArray) zs 0 0 (ER D ad ci).2.2.2) (F0 zm 2 ls []) := by
    intro n
    induction n with
    | zero =>
      intro a σ1 H locs ls hc hm1 hq X L
      refine lv_iload_n X.1.1 X.1.2.1 d_rf_settle_2 rfl (lv_at L 0 rfl) ?_
      refine lv_if_eq (tgt := 65) X.1.1 X.1.2.1 d_rf_settle_3 rfl (fun h3 => ?_) (fun h3 => ?_)
      · skip
        refine lv_iconst (v := 0) X.1.1 X.1.2.1 d_rf_settle_65 rfl ?_
        refine lv_istore_n (lv' := [(2, .int _), (1, .int _), (0, .ref _)]) X.1.1 X.1.2.1 d_rf_settle_66 rfl L (by decide) rfl (fun ls L => ?_)
        have loop67 : ∀ (n : Nat) (k : Nat) (σ1 : SS) (H : Heap) (locs : List Loc) (ls : Array Slot), (k + n = 28) → (skL n k σ1 = settleM σ) → Cx (ER D ad ci) zp zs zm (([.ref (ad 0)] : List Value).toArray) zc b_rf_settle 3 "MessageMachineModel" H locs σ1 → lv_has ls 3 [(2, .int (nI k)), (1, .int a), (0, .ref (ad 0))] → W zp l ze ({ frames := 2, cells := 0, slots := 0, locals := 43 } : Room) zs zm (([.ref (ad 0)] : List Value).toArray) zb zt zc H locs 0 0 (MQ zb (va_Qv (fun (u : SS) => u = (settleM σ)) (fun u t => Pq (ER D ad ci) u t) (ER D ad ci).2.2.2) (([.ref (ad 0)] : List Value).toArray) zs 0 0 (ER D ad ci).2.2.2) (F0 zm 67 ls []) := by
          intro n
          induction n with
          | zero =>
            intro k σ1 H locs ls hk hq3 X L
            refine lv_iload_n X.1.1 X.1.2.1 d_rf_settle_67 rfl (lv_at L 0 rfl) ?_
            refine lv_bipush (v := 28) X.1.1 X.1.2.1 d_rf_settle_68 rfl ?_
            refine lv_icmp_ge (tgt := 119) X.1.1 X.1.2.1 d_rf_settle_70 rfl (fun h70 => ?_) (fun h70 => ?_)
            · skip
              exact X.vret hr hlk d_rf_settle_119 hq3
            · skip
              exact absurd ((le28N (by omega)).mpr (by omega)) h70
          | succ n ih =>
            intro k σ1 H locs ls hk hq3 X L
            refine lv_iload_n X.1.1 X.1.2.1 d_rf_settle_67 rfl (lv_at L 0 rfl) ?_
            refine lv_bipush (v := 28) X.1.1 X.1.2.1 d_rf_settle_68 rfl ?_
            refine lv_icmp_ge (tgt := 119) X.1.1 X.1.2.1 d_rf_settle_70 rfl (fun h70 => ?_) (fun h70 => ?_)
            · skip
              exact absurd ((le28N (by omega)).mp h70) (by omega)
            · skip
              refine lv_aload_n X.1.1 X.1.2.1 d_rf_settle_73 rfl (lv_at L 2 rfl) ?_
              refine g_rf_stuck X d_rf_settle_74 ?_
              refine lv_iload_n X.1.1 X.1.2.1 d_rf_settle_77 rfl (lv_at L 0 rfl) ?_
              refine lv_aload_n X.1.1 X.1.2.1 d_rf_settle_78 rfl (lv_at L 2 rfl) ?_
              refine g_rf_live X d_rf_settle_79 ?_
              refine lv_iload_n X.1.1 X.1.2.1 d_rf_settle_82 rfl (lv_at L 0 rfl) ?_
              refine rl_1 X (vp_k (by omega) (by decide)) d_rf_settle_83 ?_
              refine lv_if_eq (tgt := 111) X.1.1 X.1.2.1 d_rf_settle_84 rfl (fun h84 => ?_) (fun h84 => ?_)
              · skip
                refine lv_iconst (v := 0) X.1.1 X.1.2.1 d_rf_settle_111 rfl ?_
                refine rs_6 hI X (vp_k (by omega) (by decide)) rfl d_rf_settle_112 (fun H locs X => ?_)
                refine lv_iinc (k := 0) (lv' := [(2, .int (nI (k + 1))), (1, .int _), (0, .ref _)]) X.1.1 X.1.2.1 d_rf_settle_113 L rfl (nI_inc k) (by decide) rfl (fun ls L => ?_)
                refine lv_goto (tgt := 67) X.1.1 X.1.2.1 d_rf_settle_116 rfl ?_
                exact ih (k + 1) _ _ _ _ (by omega) (by rw [← hq3, skL, skv]; simp only [eq_false h70, eq_true h84, if_true, if_false]; try rfl) X L
              · skip
                refine lv_aload_n X.1.1 X.1.2.1 d_rf_settle_87 rfl (lv_at L 2 rfl) ?_
                refine g_rf_stuck X d_rf_settle_88 ?_
                refine lv_iload_n X.1.1 X.1.2.1 d_rf_settle_91 rfl (lv_at L 0 rfl) ?_
                refine rl_6 X (vp_k (by omega) (by decide)) d_rf_settle_92 ?_
                refine lv_if_ne (tgt := 107) X.1.1 X.1.2.1 d_rf_settle_93 rfl (fun h93 => ?_) (fun h93 => ?_)
                · skip
                  refine lv_iconst (v := 1) X.1.1 X.1.2.1 d_rf_settle_107 rfl ?_
                  refine lv_goto (tgt := 112) X.1.1 X.1.2.1 d_rf_settle_108 rfl ?_
                  refine rs_6 hI X (vp_k (by omega) (by decide)) rfl d_rf_settle_112 (fun H locs X => ?_)
                  refine lv_iinc (k := 0) (lv' := [(2, .int (nI (k + 1))), (1, .int _), (0, .ref _)]) X.1.1 X.1.2.1 d_rf_settle_113 L rfl (nI_inc k) (by decide) rfl (fun ls L => ?_)
                  refine lv_goto (tgt := 67) X.1.1 X.1.2.1 d_rf_settle_116 rfl ?_
                  exact ih (k + 1) _ _ _ _ (by omega) (by rw [← hq3, skL, skv]; simp only [eq_false h70, eq_false h84, eq_false h93, if_true, if_false]; try rfl) X L
                · skip
                  refine lv_aload_n X.1.1 X.1.2.1 d_rf_settle_96 rfl (lv_at L 2 rfl) ?_
                  refine g_rf_holds X d_rf_settle_97 ?_
                  refine lv_iload_n X.1.1 X.1.2.1 d_rf_settle_100 rfl (lv_at L 0 rfl) ?_
                  refine rl_7 X (vp_k (by omega) (by decide)) d_rf_settle_101 ?_
                  refine lv_bipush (v := 6) X.1.1 X.1.2.1 d_rf_settle_102 rfl ?_
                  refine lv_icmp_lt (tgt := 111) X.1.1 X.1.2.1 d_rf_settle_104 rfl (fun h104 => ?_) (fun h104 => ?_)
                  · skip
                    refine lv_iconst (v := 0) X.1.1 X.1.2.1 d_rf_settle_111 rfl ?_
                    refine rs_6 hI X (vp_k (by omega) (by decide)) rfl d_rf_settle_112 (fun H locs X => ?_)
                    refine lv_iinc (k := 0) (lv' := [(2, .int (nI (k + 1))), (1, .int _), (0, .ref _)]) X.1.1 X.1.2.1 d_rf_settle_113 L rfl (nI_inc k) (by decide) rfl (fun ls L => ?_)
                    refine lv_goto (tgt := 67) X.1.1 X.1.2.1 d_rf_settle_116 rfl ?_
                    exact ih (k + 1) _ _ _ _ (by omega) (by rw [← hq3, skL, skv]; simp only [eq_false h70, eq_false h84, eq_true h93, eq_true h104, if_true, if_false]; try rfl) X L
                  · skip
                    refine lv_iconst (v := 1) X.1.1 X.1.2.1 d_rf_settle_107 rfl ?_
                    refine lv_goto (tgt := 112) X.1.1 X.1.2.1 d_rf_settle_108 rfl ?_
                    refine rs_6 hI X (vp_k (by omega) (by decide)) rfl d_rf_settle_112 (fun H locs X => ?_)
                    refine lv_iinc (k := 0) (lv' := [(2, .int (nI (k + 1))), (1, .int _), (0, .ref _)]) X.1.1 X.1.2.1 d_rf_settle_113 L rfl (nI_inc k) (by decide) rfl (fun ls L => ?_)
                    refine lv_goto (tgt := 67) X.1.1 X.1.2.1 d_rf_settle_116 rfl ?_
                    exact ih (k + 1) _ _ _ _ (by omega) (by rw [← hq3, skL, skv]; simp only [eq_false h70, eq_false h84, eq_true h93, eq_false h104, if_true, if_false]; try rfl) X L
        exact loop67 28 0 _ _ _ _ (by omega) (by first | rw [← hq, seL, if_pos h3] | rw [← hq, seL]) X L
      · skip
        exact absurd (hc.resolve_right (by omega)) h3
    | succ n ih =>
      intro a σ1 H locs ls hc hm1 hq X L
      refine lv_iload_n X.1.1 X.1.2.1 d_rf_settle_2 rfl (lv_at L 0 rfl) ?_
      refine lv_if_eq (tgt := 65) X.1.1 X.1.2.1 d_rf_settle_3 rfl (fun h3 => ?_) (fun h3 => ?_)
      · skip
        refine lv_iconst (v := 0) X.1.1 X.1.2.1 d_rf_settle_65 rfl ?_
        refine lv_istore_n (lv' := [(2, .int _), (1, .int _), (0, .ref _)]) X.1.1 X.1.2.1 d_rf_settle_66 rfl L (by decide) rfl (fun ls L => ?_)
        have loop67 : ∀ (n : Nat) (k : Nat) (σ1 : SS) (H : Heap) (locs : List Loc) (ls : Array Slot), (k + n = 28) → (skL n k σ1 = settleM σ) → Cx (ER D ad ci) zp zs zm (([.ref (ad 0)] : List Value).toArray) zc b_rf_settle 3 "MessageMachineModel" H locs σ1 → lv_has ls 3 [(2, .int (nI k)), (1, .int a), (0, .ref (ad 0))] → W zp l ze ({ frames := 2, cells := 0, slots := 0, locals := 43 } : Room) zs zm (([.ref (ad 0)] : List Value).toArray) zb zt zc H locs 0 0 (MQ zb (va_Qv (fun (u : SS) => u = (settleM σ)) (fun u t => Pq (ER D ad ci) u t) (ER D ad ci).2.2.2) (([.ref (ad 0)] : List Value).toArray) zs 0 0 (ER D ad ci).2.2.2) (F0 zm 67 ls []) := by
          intro n
          induction n with
          | zero =>
            intro k σ1 H locs ls hk hq3 X L
            refine lv_iload_n X.1.1 X.1.2.1 d_rf_settle_67 rfl (lv_at L 0 rfl) ?_
            refine lv_bipush (v := 28) X.1.1 X.1.2.1 d_rf_settle_68 rfl ?_
            refine lv_icmp_ge (tgt := 119) X.1.1 X.1.2.1 d_rf_settle_70 rfl (fun h70 => ?_) (fun h70 => ?_)
            · skip
              exact X.vret hr hlk d_rf_settle_119 hq3
            · skip
              exact absurd ((le28N (by omega)).mpr (by omega)) h70
          | succ n ih =>
            intro k σ1 H locs ls hk hq3 X L
            refine lv_iload_n X.1.1 X.1.2.1 d_rf_settle_67 rfl (lv_at L 0 rfl) ?_
            refine lv_bipush (v := 28) X.1.1 X.1.2.1 d_rf_settle_68 rfl ?_
            refine lv_icmp_ge (tgt := 119) X.1.1 X.1.2.1 d_rf_settle_70 rfl (fun h70 => ?_) (fun h70 => ?_)
            · skip
              exact absurd ((le28N (by omega)).mp h70) (by omega)
            · skip
              refine lv_aload_n X.1.1 X.1.2.1 d_rf_settle_73 rfl (lv_at L 2 rfl) ?_
              refine g_rf_stuck X d_rf_settle_74 ?_
              refine lv_iload_n X.1.1 X.1.2.1 d_rf_settle_77 rfl (lv_at L 0 rfl) ?_
              refine lv_aload_n X.1.1 X.1.2.1 d_rf_settle_78 rfl (lv_at L 2 rfl) ?_
              refine g_rf_live X d_rf_settle_79 ?_
              refine lv_iload_n X.1.1 X.1.2.1 d_rf_settle_82 rfl (lv_at L 0 rfl) ?_
              refine rl_1 X (vp_k (by omega) (by decide)) d_rf_settle_83 ?_
              refine lv_if_eq (tgt := 111) X.1.1 X.1.2.1 d_rf_settle_84 rfl (fun h84 => ?_) (fun h84 => ?_)
              · skip
                refine lv_iconst (v := 0) X.1.1 X.1.2.1 d_rf_settle_111 rfl ?_
                refine rs_6 hI X (vp_k (by omega) (by decide)) rfl d_rf_settle_112 (fun H locs X => ?_)
                refine lv_iinc (k := 0) (lv' := [(2, .int (nI (k + 1))), (1, .int _), (0, .ref _)]) X.1.1 X.1.2.1 d_rf_settle_113 L rfl (nI_inc k) (by decide) rfl (fun ls L => ?_)
                refine lv_goto (tgt := 67) X.1.1 X.1.2.1 d_rf_settle_116 rfl ?_
                exact ih (k + 1) _ _ _ _ (by omega) (by rw [← hq3, skL, skv]; simp only [eq_false h70, eq_true h84, if_true, if_false]; try rfl) X L
              · skip
                refine lv_aload_n X.1.1 X.1.2.1 d_rf_settle_87 rfl (lv_at L 2 rfl) ?_
                refine g_rf_stuck X d_rf_settle_88 ?_
                refine lv_iload_n X.1.1 X.1.2.1 d_rf_settle_91 rfl (lv_at L 0 rfl) ?_
                refine rl_6 X (vp_k (by omega) (by decide)) d_rf_settle_92 ?_
                refine lv_if_ne (tgt := 107) X.1.1 X.1.2.1 d_rf_settle_93 rfl (fun h93 => ?_) (fun h93 => ?_)
                · skip
                  refine lv_iconst (v := 1) X.1.1 X.1.2.1 d_rf_settle_107 rfl ?_
                  refine lv_goto (tgt := 112) X.1.1 X.1.2.1 d_rf_settle_108 rfl ?_
                  refine rs_6 hI X (vp_k (by omega) (by decide)) rfl d_rf_settle_112 (fun H locs X => ?_)
                  refine lv_iinc (k := 0) (lv' := [(2, .int (nI (k + 1))), (1, .int _), (0, .ref _)]) X.1.1 X.1.2.1 d_rf_settle_113 L rfl (nI_inc k) (by decide) rfl (fun ls L => ?_)
                  refine lv_goto (tgt := 67) X.1.1 X.1.2.1 d_rf_settle_116 rfl ?_
                  exact ih (k + 1) _ _ _ _ (by omega) (by rw [← hq3, skL, skv]; simp only [eq_false h70, eq_false h84, eq_false h93, if_true, if_false]; try rfl) X L
                · skip
                  refine lv_aload_n X.1.1 X.1.2.1 d_rf_settle_96 rfl (lv_at L 2 rfl) ?_
                  refine g_rf_holds X d_rf_settle_97 ?_
                  refine lv_iload_n X.1.1 X.1.2.1 d_rf_settle_100 rfl (lv_at L 0 rfl) ?_
                  refine rl_7 X (vp_k (by omega) (by decide)) d_rf_settle_101 ?_
                  refine lv_bipush (v := 6) X.1.1 X.1.2.1 d_rf_settle_102 rfl ?_
                  refine lv_icmp_lt (tgt := 111) X.1.1 X.1.2.1 d_rf_settle_104 rfl (fun h104 => ?_) (fun h104 => ?_)
                  · skip
                    refine lv_iconst (v := 0) X.1.1 X.1.2.1 d_rf_settle_111 rfl ?_
                    refine rs_6 hI X (vp_k (by omega) (by decide)) rfl d_rf_settle_112 (fun H locs X => ?_)
                    refine lv_iinc (k := 0) (lv' := [(2, .int (nI (k + 1))), (1, .int _), (0, .ref _)]) X.1.1 X.1.2.1 d_rf_settle_113 L rfl (nI_inc k) (by decide) rfl (fun ls L => ?_)
                    refine lv_goto (tgt := 67) X.1.1 X.1.2.1 d_rf_settle_116 rfl ?_
                    exact ih (k + 1) _ _ _ _ (by omega) (by rw [← hq3, skL, skv]; simp only [eq_false h70, eq_false h84, eq_true h93, eq_true h104, if_true, if_false]; try rfl) X L
                  · skip
                    refine lv_iconst (v := 1) X.1.1 X.1.2.1 d_rf_settle_107 rfl ?_
                    refine lv_goto (tgt := 112) X.1.1 X.1.2.1 d_rf_settle_108 rfl ?_
                    refine rs_6 hI X (vp_k (by omega) (by decide)) rfl d_rf_settle_112 (fun H locs X => ?_)
                    refine lv_iinc (k := 0) (lv' := [(2, .int (nI (k + 1))), (1, .int _), (0, .ref _)]) X.1.1 X.1.2.1 d_rf_settle_113 L rfl (nI_inc k) (by decide) rfl (fun ls L => ?_)
                    refine lv_goto (tgt := 67) X.1.1 X.1.2.1 d_rf_settle_116 rfl ?_
                    exact ih (k + 1) _ _ _ _ (by omega) (by rw [← hq3, skL, skv]; simp only [eq_false h70, eq_false h84, eq_true h93, eq_false h104, if_true, if_false]; try rfl) X L
        exact loop67 28 0 _ _ _ _ (by omega) (by first | rw [← hq, seL, if_pos h3] | rw [← hq, seL]) X L
      · skip
        refine lv_iconst (v := 0) X.1.1 X.1.2.1 d_rf_settle_6 rfl ?_
        refine lv_istore_n (lv' := [(1, .int _), (0, .ref _)]) X.1.1 X.1.2.1 d_rf_settle_7 rfl L (by decide) rfl (fun ls L => ?_)
        refine lv_aload_n X.1.1 X.1.2.1 d_rf_settle_8 rfl (lv_at L 1 rfl) ?_
        refine Mv.callV (k := 0) (c_rf_tally hI _ hm1) X (gt_V mw_528 mw_530 ms_33 mw_5 mw_531) ok_rf_tally ⟨rfl, rfl, by decide, by decide⟩ (rc_rf X) rfl L.1 rfl (Nat.le_of_ble_eq_true rfl) d_rf_settle_9 (fun H locs X => ?_)
        refine lv_iconst (v := 4) X.1.1 X.1.2.1 d_rf_settle_12 rfl ?_
        refine lv_istore_n (lv' := [(2, .int _), (1, .int _), (0, .ref _)]) X.1.1 X.1.2.1 d_rf_settle_13 rfl L (by decide) rfl (fun ls L => ?_)
        obtain ⟨τ, hτ⟩ : ∃ τ, τ = passM σ1 := ⟨_, rfl⟩
        have hpc := pass_cnt hm1
        have hcnt : τ.2 = 0 ∨ cntL 28 (τ.1.1 1) + 1 < n := by rw [hτ]; exact hpc.2.elim Or.inl (fun z => Or.inr (by have := hc.resolve_left h3; omega))
        have hqo : skL 28 0 (seL n τ.1 τ.2) = settleM σ := by rw [hτ, ← hq, seL, if_neg h3]
        have hmo : RGm τ.1 := by rw [hτ]; exact hpc.1
        have loop14 : ∀ (n : Nat) (k : Nat) (a : Int32) (σ1 : SS) (H : Heap) (locs : List Loc) (ls : Array Slot), (k + n = 28) → (RGm σ1) → (paL n k σ1 a = τ) → Cx (ER D ad ci) zp zs zm (([.ref (ad 0)] : List Value).toArray) zc b_rf_settle 3 "MessageMachineModel" H locs σ1 → lv_has ls 3 [(2, .int (nI k)), (1, .int a), (0, .ref (ad 0))] → W zp l ze ({ frames := 2, cells := 0, slots := 0, locals := 43 } : Room) zs zm (([.ref (ad 0)] : List Value).toArray) zb zt zc H locs 0 0 (MQ zb (va_Qv (fun (u : SS) => u = (settleM σ)) (fun u t => Pq (ER D ad ci) u t) (ER D ad ci).2.2.2) (([.ref (ad 0)] : List Value).toArray) zs 0 0 (ER D ad ci).2.2.2) (F0 zm 14 ls []) := by
          intro n
          induction n with
          | zero =>
            intro k a σ1 H locs ls hk hm2 hq2 X L
            refine lv_iload_n X.1.1 X.1.2.1 d_rf_settle_14 rfl (lv_at L 0 rfl) ?_
            refine lv_bipush (v := 28) X.1.1 X.1.2.1 d_rf_settle_15 rfl ?_
            refine lv_icmp_ge (tgt := 62) X.1.1 X.1.2.1 d_rf_settle_17 rfl (fun h17 => ?_) (fun h17 => ?_)
            · skip
              refine lv_goto (tgt := 2) X.1.1 X.1.2.1 d_rf_settle_62 rfl ?_
              refine (fun e1 e2 => ?_) (show σ1 = τ.1 from congrArg Prod.fst hq2) (show a = τ.2 from congrArg Prod.snd hq2); exact ih τ.2 τ.1 _ _ _ hcnt hmo hqo (e1 ▸ X) (e2 ▸ (lv_sub L [1, 2] rfl))
            · skip
              exact absurd ((le28N (by omega)).mpr (by omega)) h17
          | succ n ih =>
            intro k a σ1 H locs ls hk hm2 hq2 X L
            refine lv_iload_n X.1.1 X.1.2.1 d_rf_settle_14 rfl (lv_at L 0 rfl) ?_
            refine lv_bipush (v := 28) X.1.1 X.1.2.1 d_rf_settle_15 rfl ?_
            refine lv_icmp_ge (tgt := 62) X.1.1 X.1.2.1 d_rf_settle_17 rfl (fun h17 => ?_) (fun h17 => ?_)
            · skip
              exact absurd ((le28N (by omega)).mp h17) (by omega)
            · skip
              refine lv_aload_n X.1.1 X.1.2.1 d_rf_settle_20 rfl (lv_at L 2 rfl) ?_
              refine g_rf_live X d_rf_settle_21 ?_
              refine lv_iload_n X.1.1 X.1.2.1 d_rf_settle_24 rfl (lv_at L 0 rfl) ?_
              refine rl_1 X (vp_k (by omega) (by decide)) d_rf_settle_25 ?_
              refine lv_if_eq (tgt := 56) X.1.1 X.1.2.1 d_rf_settle_26 rfl (fun h26 => ?_) (fun h26 => ?_)
              · skip
                refine lv_iinc (k := 0) (lv' := [(2, .int (nI (k + 1))), (1, .int _), (0, .ref _)]) X.1.1 X.1.2.1 d_rf_settle_56 L rfl (nI_inc k) (by decide) rfl (fun ls L => ?_)
                refine lv_goto (tgt := 14) X.1.1 X.1.2.1 d_rf_settle_59 rfl ?_
                exact ih (k + 1) _ _ _ _ _ (by omega) (by first | exact hm2 | exact RGm_A hm2 (by decide) _ _) (by rw [← hq2, paL]; simp only [eq_false h17, eq_true h26, if_true, if_false]; try rfl) X L
              · skip
                refine lv_aload_n X.1.1 X.1.2.1 d_rf_settle_29 rfl (lv_at L 2 rfl) ?_
                refine g_rf_holds X d_rf_settle_30 ?_
                refine lv_iload_n X.1.1 X.1.2.1 d_rf_settle_33 rfl (lv_at L 0 rfl) ?_
                refine rl_7 X (vp_k (by omega) (by decide)) d_rf_settle_34 ?_
                refine lv_if_ne (tgt := 56) X.1.1 X.1.2.1 d_rf_settle_35 rfl (fun h35 => ?_) (fun h35 => ?_)
                · skip
                  refine lv_iinc (k := 0) (lv' := [(2, .int (nI (k + 1))), (1, .int _), (0, .ref _)]) X.1.1 X.1.2.1 d_rf_settle_56 L rfl (nI_inc k) (by decide) rfl (fun ls L => ?_)
                  refine lv_goto (tgt := 14) X.1.1 X.1.2.1 d_rf_settle_59 rfl ?_
                  exact ih (k + 1) _ _ _ _ _ (by omega) (by first | exact hm2 | exact RGm_A hm2 (by decide) _ _) (by rw [← hq2, paL]; simp only [eq_false h17, eq_false h26, eq_false h35, if_true, if_false]; try rfl) X L
                · skip
                  refine lv_aload_n X.1.1 X.1.2.1 d_rf_settle_38 rfl (lv_at L 2 rfl) ?_
                  refine g_rf_stuck X d_rf_settle_39 ?_
                  refine lv_iload_n X.1.1 X.1.2.1 d_rf_settle_42 rfl (lv_at L 0 rfl) ?_
                  refine rl_6 X (vp_k (by omega) (by decide)) d_rf_settle_43 ?_
                  refine lv_if_ne (tgt := 56) X.1.1 X.1.2.1 d_rf_settle_44 rfl (fun h44 => ?_) (fun h44 => ?_)
                  · skip
                    refine lv_iinc (k := 0) (lv' := [(2, .int (nI (k + 1))), (1, .int _), (0, .ref _)]) X.1.1 X.1.2.1 d_rf_settle_56 L rfl (nI_inc k) (by decide) rfl (fun ls L => ?_)
                    refine lv_goto (tgt := 14) X.1.1 X.1.2.1 d_rf_settle_59 rfl ?_
                    exact ih (k + 1) _ _ _ _ _ (by omega) (by first | exact hm2 | exact RGm_A hm2 (by decide) _ _) (by rw [← hq2, paL]; simp only [eq_false h17, eq_false h26, eq_true h35, eq_false h44, if_true, if_false]; try rfl) X L
                  · skip
                    refine lv_aload_n X.1.1 X.1.2.1 d_rf_settle_47 rfl (lv_at L 2 rfl) ?_
                    refine g_rf_live X d_rf_settle_48 ?_
                    refine lv_iload_n X.1.1 X.1.2.1 d_rf_settle_51 rfl (lv_at L 0 rfl) ?_
                    refine lv_iconst (v := 0) X.1.1 X.1.2.1 d_rf_settle_52 rfl ?_
                    refine rs_1 hI X (vp_k (by omega) (by decide)) rfl d_rf_settle_53 (fun H locs X => ?_)
                    refine lv_iconst (v := 1) X.1.1 X.1.2.1 d_rf_settle_54 rfl ?_
                    refine lv_istore_n (lv' := [(1, .int _), (2, .int _), (0, .ref _)]) X.1.1 X.1.2.1 d_rf_settle_55 rfl L (by decide) rfl (fun ls L => ?_)
                    refine lv_iinc (k := 1) (lv' := [(2, .int (nI (k + 1))), (1, .int _), (0, .ref _)]) X.1.1 X.1.2.1 d_rf_settle_56 L rfl (nI_inc k) (by decide) rfl (fun ls L => ?_)
                    refine lv_goto (tgt := 14) X.1.1 X.1.2.1 d_rf_settle_59 rfl ?_
                    exact ih (k + 1) _ _ _ _ _ (by omega) (by first | exact hm2 | exact RGm_A hm2 (by decide) _ _) (by rw [← hq2, paL]; simp only [eq_false h17, eq_false h26, eq_true h35, eq_true h44, if_true, if_false]; try rfl) X L
        exact loop14 24 4 0 _ _ _ _ (by omega) (RGm_tally hm1) (by rw [hτ, passM]) X L
  exact loop2 30 1 σ _ _ _ (Or.inr (by have := cntL_le (σ.1 1) 28; omega)) hm rfl X L
set_option maxHeartbeats 4000000 in
theorem c_rf_room {l : Launch} {D : va_G} {ad : Nat → Nat} {ci : Nat → ClassId} (hI : InjR ad) (σ : SS)   : Mi l y_rf_room b_rf_room 2 (some .int) ({ frames := 0, cells := 0, slots := 0, locals := 0 } : Room) (ER D ad ci) [.ref (ad 0)] σ (roomM σ) (σ) := by
  refine Mi.start pn_rf (Nat.le_of_ble_eq_true rfl) (fun zp ze zs zm zb zt zc ls X hr hlk L => ?_)
  have L : lv_has ls 2 [(0, .ref (ad 0))] := L
  refine lv_iconst (v := 0) X.1.1 X.1.2.1 d_rf_room_0 rfl ?_
  refine lv_istore_n (lv' := [(1, .int _), (0, .ref _)]) X.1.1 X.1.2.1 d_rf_room_1 rfl L (by decide) rfl (fun ls L => ?_)
  have loop2 : ∀ (n : Nat) (k : Nat) (σ1 : SS) (H : Heap) (locs : List Loc) (ls : Array Slot), (k + n = 28) → (σ1 = σ) → (roomL n k σ1 = roomM σ) → Cx (ER D ad ci) zp zs zm (([.ref (ad 0)] : List Value).toArray) zc b_rf_room 2 "MessageMachineModel" H locs σ1 → lv_has ls 2 [(1, .int (nI k)), (0, .ref (ad 0))] → W zp l ze ({ frames := 0, cells := 0, slots := 0, locals := 0 } : Room) zs zm (([.ref (ad 0)] : List Value).toArray) zb zt zc H locs 0 0 (MQ zb (va_Qi (fun (x : Int32) (u : SS) => x = (roomM σ) ∧ u = (σ)) (fun u t => Pq (ER D ad ci) u t) (ER D ad ci).2.2.2) (([.ref (ad 0)] : List Value).toArray) zs 0 0 (ER D ad ci).2.2.2) (F0 zm 2 ls []) := by
    intro n
    induction n with
    | zero =>
      intro k σ1 H locs ls hk hs hq X L
      refine lv_iload_n X.1.1 X.1.2.1 d_rf_room_2 rfl (lv_at L 0 rfl) ?_
      refine lv_bipush (v := 28) X.1.1 X.1.2.1 d_rf_room_3 rfl ?_
      refine lv_icmp_ge (tgt := 23) X.1.1 X.1.2.1 d_rf_room_5 rfl (fun h5 => ?_) (fun h5 => ?_)
      · skip
        refine lv_iload_n X.1.1 X.1.2.1 d_rf_room_23 rfl (lv_at L 0 rfl) ?_
        refine lv_bipush (v := 28) X.1.1 X.1.2.1 d_rf_room_24 rfl ?_
        refine lv_icmp_ge (tgt := 33) X.1.1 X.1.2.1 d_rf_room_26 rfl (fun h26 => ?_) (fun h26 => ?_)
        · skip
          refine lv_iconst (v := (-1)) X.1.1 X.1.2.1 d_rf_room_33 rfl ?_
          exact X.iret hr hlk d_rf_room_34 hq hs
        · skip
          exact absurd ((le28N (by omega)).mpr (by omega)) h26
      · skip
        exact absurd ((le28N (by omega)).mpr (by omega)) h5
    | succ n ih =>
      intro k σ1 H locs ls hk hs hq X L
      refine lv_iload_n X.1.1 X.1.2.1 d_rf_room_2 rfl (lv_at L 0 rfl) ?_
      refine lv_bipush (v := 28) X.1.1 X.1.2.1 d_rf_room_3 rfl ?_
      refine lv_icmp_ge (tgt := 23) X.1.1 X.1.2.1 d_rf_room_5 rfl (fun h5 => ?_) (fun h5 => ?_)
      · skip
        exact absurd ((le28N (by omega)).mp h5) (by omega)
      · skip
        refine lv_aload_n X.1.1 X.1.2.1 d_rf_room_8 rfl (lv_at L 1 rfl) ?_
        refine g_rf_live X d_rf_room_9 ?_
        refine lv_iload_n X.1.1 X.1.2.1 d_rf_room_12 rfl (lv_at L 0 rfl) ?_
        refine rl_1 X (vp_k (by omega) (by decide)) d_rf_room_13 ?_
        refine lv_if_eq (tgt := 23) X.1.1 X.1.2.1 d_rf_room_14 rfl (fun h14 => ?_) (fun h14 => ?_)
        · skip
          refine lv_iload_n X.1.1 X.1.2.1 d_rf_room_23 rfl (lv_at L 0 rfl) ?_
          refine lv_bipush (v := 28) X.1.1 X.1.2.1 d_rf_room_24 rfl ?_
          refine lv_icmp_ge (tgt := 33) X.1.1 X.1.2.1 d_rf_room_26 rfl (fun h26 => ?_) (fun h26 => ?_)
          · skip
            exact absurd ((le28N (by omega)).mp h26) (by omega)
          · skip
            refine lv_iload_n X.1.1 X.1.2.1 d_rf_room_29 rfl (lv_at L 0 rfl) ?_
            refine lv_goto (tgt := 34) X.1.1 X.1.2.1 d_rf_room_30 rfl ?_
            exact X.iret hr hlk d_rf_room_34 (by rw [← hq, roomL, if_pos h14]) hs
        · skip
          refine lv_iinc (k := 0) (lv' := [(1, .int (nI (k + 1))), (0, .ref _)]) X.1.1 X.1.2.1 d_rf_room_17 L rfl (nI_inc k) (by decide) rfl (fun ls L => ?_)
          refine lv_goto (tgt := 2) X.1.1 X.1.2.1 d_rf_room_20 rfl ?_
          exact ih (k + 1) σ1 _ _ _ (by omega) hs (by rw [← hq, roomL, if_neg h14]) X L
  exact loop2 28 0 σ _ _ _ (by omega) rfl rfl X L
set_option maxHeartbeats 4000000 in
theorem c_rf_make1 {l : Launch} {D : va_G} {ad : Nat → Nat} {ci : Nat → ClassId} (hI : InjR ad) (σ : SS) (o s c f : Int32) (h_o : vp_in o 28) : Mv l y_rf_make1 b_rf_make1 6 ({ frames := 0, cells := 0, slots := 0, locals := 0 } : Room) (ER D ad ci) [.ref (ad 0), .int o, .int s, .int c, .int f] σ (make1M σ o s c f) := by
  refine Mv.start pn_rf (Nat.le_of_ble_eq_true rfl) (fun zp ze zs zm zb zt zc ls X hr hlk L => ?_)
  have L : lv_has ls 6 [(0, .ref (ad 0)), (1, .int o), (2, .int s), (3, .int c), (4, .int f)] := L
  refine lv_aload_n X.1.1 X.1.2.1 d_rf_make1_0 rfl (lv_at L 0 rfl) ?_
  refine g_rf_live X d_rf_make1_1 ?_
  refine lv_iload_n X.1.1 X.1.2.1 d_rf_make1_4 rfl (lv_at L 1 rfl) ?_
  refine lv_iconst (v := 1) X.1.1 X.1.2.1 d_rf_make1_5 rfl ?_
  refine rs_1 hI X (by assumption) rfl d_rf_make1_6 (fun H locs X => ?_)
  refine lv_aload_n X.1.1 X.1.2.1 d_rf_make1_7 rfl (lv_at L 0 rfl) ?_
  refine g_rf_sort X d_rf_make1_8 ?_
  refine lv_iload_n X.1.1 X.1.2.1 d_rf_make1_11 rfl (lv_at L 1 rfl) ?_
  refine lv_iload_n X.1.1 X.1.2.1 d_rf_make1_12 rfl (lv_at L 2 rfl) ?_
  refine rs_2 hI X (by assumption) d_rf_make1_13 (fun H locs X => ?_)
  refine lv_aload_n X.1.1 X.1.2.1 d_rf_make1_14 rfl (lv_at L 0 rfl) ?_
  refine g_rf_cls X d_rf_make1_15 ?_
  refine lv_iload_n X.1.1 X.1.2.1 d_rf_make1_18 rfl (lv_at L 1 rfl) ?_
  refine lv_iload_n X.1.1 X.1.2.1 d_rf_make1_19 rfl (lv_at L 3 rfl) ?_
  refine rs_3 hI X (by assumption) d_rf_make1_20 (fun H locs X => ?_)
  refine lv_aload_n X.1.1 X.1.2.1 d_rf_make1_21 rfl (lv_at L 0 rfl) ?_
  refine g_rf_fields X d_rf_make1_22 ?_
  refine lv_iload_n X.1.1 X.1.2.1 d_rf_make1_25 rfl (lv_at L 1 rfl) ?_
  refine lv_iload X.1.1 X.1.2.1 d_rf_make1_26 (lv_at L 4 rfl) ?_
  refine rs_4 hI X (by assumption) d_rf_make1_28 (fun H locs X => ?_)
  refine lv_iconst (v := 0) X.1.1 X.1.2.1 d_rf_make1_29 rfl ?_
  refine lv_istore (lv' := [(5, .int _), (0, .ref _), (1, .int _), (2, .int _), (3, .int _), (4, .int _)]) X.1.1 X.1.2.1 d_rf_make1_30 L (by decide) rfl (fun ls L => ?_)
  have loop32 : ∀ (n : Nat) (k : Nat) (σ1 : SS) (H : Heap) (locs : List Loc) (ls : Array Slot), (k + n = 15) → (mk1f (mkL n k σ1 o) o = make1M σ o s c f) → Cx (ER D ad ci) zp zs zm (([.ref (ad 0), .int o, .int s, .int c, .int f] : List Value).toArray) zc b_rf_make1 6 "MessageMachineModel" H locs σ1 → lv_has ls 6 [(5, .int (nI k)), (0, .ref (ad 0)), (1, .int o), (2, .int s), (3, .int c), (4, .int f)] → W zp l ze ({ frames := 0, cells := 0, slots := 0, locals := 0 } : Room) zs zm (([.ref (ad 0), .int o, .int s, .int c, .int f] : List Value).toArray) zb zt zc H locs 0 0 (MQ zb (va_Qv (fun (u : SS) => u = (make1M σ o s c f)) (fun u t => Pq (ER D ad ci) u t) (ER D ad ci).2.2.2) (([.ref (ad 0), .int o, .int s, .int c, .int f] : List Value).toArray) zs 0 0 (ER D ad ci).2.2.2) (F0 zm 32 ls []) := by
    intro n
    induction n with
    | zero =>
      intro k σ1 H locs ls hk hq X L
      refine lv_iload X.1.1 X.1.2.1 d_rf_make1_32 (lv_at L 0 rfl) ?_
      refine lv_bipush (v := 15) X.1.1 X.1.2.1 d_rf_make1_34 rfl ?_
      refine lv_icmp_ge (tgt := 58) X.1.1 X.1.2.1 d_rf_make1_36 rfl (fun h36 => ?_) (fun h36 => ?_)
      · skip
        refine lv_aload_n X.1.1 X.1.2.1 d_rf_make1_58 rfl (lv_at L 1 rfl) ?_
        refine g_rf_stuck X d_rf_make1_59 ?_
        refine lv_iload_n X.1.1 X.1.2.1 d_rf_make1_62 rfl (lv_at L 2 rfl) ?_
        refine lv_iconst (v := 0) X.1.1 X.1.2.1 d_rf_make1_63 rfl ?_
        refine rs_6 hI X h_o rfl d_rf_make1_64 (fun H locs X => ?_)
        refine lv_aload_n X.1.1 X.1.2.1 d_rf_make1_65 rfl (lv_at L 1 rfl) ?_
        refine g_rf_top X d_rf_make1_66 ?_
        refine lv_iload_n X.1.1 X.1.2.1 d_rf_make1_69 rfl (lv_at L 2 rfl) ?_
        refine lv_iconst (v := 0) X.1.1 X.1.2.1 d_rf_make1_70 rfl ?_
        refine rs_11 hI X h_o d_rf_make1_71 (fun H locs X => ?_)
        exact X.vret hr hlk d_rf_make1_72 (by rw [← hq]; rfl)
      · skip
        exact absurd ((le15N (by omega)).mpr (by omega)) h36
    | succ n ih =>
      intro k σ1 H locs ls hk hq X L
      refine lv_iload X.1.1 X.1.2.1 d_rf_make1_32 (lv_at L 0 rfl) ?_
      refine lv_bipush (v := 15) X.1.1 X.1.2.1 d_rf_make1_34 rfl ?_
      refine lv_icmp_ge (tgt := 58) X.1.1 X.1.2.1 d_rf_make1_36 rfl (fun h36 => ?_) (fun h36 => ?_)
      · skip
        exact absurd ((le15N (by omega)).mp h36) (by omega)
      · skip
        refine lv_aload_n X.1.1 X.1.2.1 d_rf_make1_39 rfl (lv_at L 1 rfl) ?_
        refine g_rf_word X d_rf_make1_40 ?_
        refine lv_bipush (v := 15) X.1.1 X.1.2.1 d_rf_make1_43 rfl ?_
        refine lv_iload_n X.1.1 X.1.2.1 d_rf_make1_45 rfl (lv_at L 2 rfl) ?_
        refine lv_imul X.1.1 X.1.2.1 d_rf_make1_46 ?_
        refine lv_iload X.1.1 X.1.2.1 d_rf_make1_47 (lv_at L 0 rfl) ?_
        refine lv_iadd X.1.1 X.1.2.1 d_rf_make1_49 ?_
        refine lv_iconst (v := 0) X.1.1 X.1.2.1 d_rf_make1_50 rfl ?_
        refine rs_5 hI X (wiv h_o (vp_k (by omega) (by decide))) d_rf_make1_51 (fun H locs X => ?_)
        refine lv_iinc (k := 0) (lv' := [(5, .int (nI (k + 1))), (0, .ref _), (1, .int _), (2, .int _), (3, .int _), (4, .int _)]) X.1.1 X.1.2.1 d_rf_make1_52 L rfl (nI_inc k) (by decide) rfl (fun ls L => ?_)
        refine lv_goto (tgt := 32) X.1.1 X.1.2.1 d_rf_make1_55 rfl ?_
        exact ih (k + 1) _ _ _ _ (by omega) (by rw [← hq]; rfl) X L
  exact loop32 15 0 _ _ _ _ (by omega) rfl X L
