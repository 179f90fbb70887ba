set_option maxHeartbeats 4000000 in
theorem c_mm_isObject {l : Launch} {D : va_G} {ad : Nat → Nat} {ci : Nat → ClassId} (hI : Inj ad) (σ : SS) (w : Int32)  : Mi l y_mm_isObject b_mm_isObject 1 (some .boolean) ({ frames := 0, cells := 0, slots := 0, locals := 0 } : Room) (EC D ad ci) [.int w] σ (isObject w) (σ) := by
  refine Mi.start pn_mm (Nat.le_of_ble_eq_true rfl) (fun zp ze zs zm zb zt zc ls X hr hlk L => ?_)
  have L : lv_has ls 1 [(0, .int w)] := L
  refine lv_iload_n X.1.1 X.1.2.1 d_mm_isObject_0 rfl (lv_at L 0 rfl) ?_
  refine lv_if_lt (tgt := 14) X.1.1 X.1.2.1 d_mm_isObject_1 rfl (fun h1 => ?_) (fun h1 => ?_)
  · skip
    refine lv_iconst (v := 0) X.1.1 X.1.2.1 d_mm_isObject_14 rfl ?_
    exact X.zret hr hlk d_mm_isObject_15 (by first | rfl | assumption) (by first | (simp only [isObject, eq_true h1, if_true, if_false]; done) | (simp [isObject, eq_true h1]; done) | (simp [isObject, h1]; done) | rfl) rfl
  · skip
    refine lv_iload_n X.1.1 X.1.2.1 d_mm_isObject_4 rfl (lv_at L 0 rfl) ?_
    refine lv_bipush (v := 28) X.1.1 X.1.2.1 d_mm_isObject_5 rfl ?_
    refine lv_icmp_ge (tgt := 14) X.1.1 X.1.2.1 d_mm_isObject_7 rfl (fun h7 => ?_) (fun h7 => ?_)
    · skip
      refine lv_iconst (v := 0) X.1.1 X.1.2.1 d_mm_isObject_14 rfl ?_
      exact X.zret hr hlk d_mm_isObject_15 (by first | rfl | assumption) (by first | (simp only [isObject, eq_false h1, eq_true h7, if_true, if_false]; done) | (simp [isObject, eq_false h1, eq_true h7]; done) | (simp [isObject, h1, h7]; done) | rfl) rfl
    · skip
      refine lv_iconst (v := 1) X.1.1 X.1.2.1 d_mm_isObject_10 rfl ?_
      refine lv_goto (tgt := 15) X.1.1 X.1.2.1 d_mm_isObject_11 rfl ?_
      exact X.zret hr hlk d_mm_isObject_15 (by first | rfl | assumption) (by first | (simp only [isObject, eq_false h1, eq_false h7, if_true, if_false]; done) | (simp [isObject, eq_false h1, eq_false h7]; done) | (simp [isObject, h1, h7]; done) | rfl) rfl
set_option maxHeartbeats 4000000 in
theorem c_mm_isHandle {l : Launch} {D : va_G} {ad : Nat → Nat} {ci : Nat → ClassId} (hI : Inj ad) (σ : SS) (w : Int32)  : Mi l y_mm_isHandle b_mm_isHandle 1 (some .boolean) ({ frames := 0, cells := 0, slots := 0, locals := 0 } : Room) (EC D ad ci) [.int w] σ (isHandle w) (σ) := by
  refine Mi.start pn_mm (Nat.le_of_ble_eq_true rfl) (fun zp ze zs zm zb zt zc ls X hr hlk L => ?_)
  have L : lv_has ls 1 [(0, .int w)] := L
  refine lv_iload_n X.1.1 X.1.2.1 d_mm_isHandle_0 rfl (lv_at L 0 rfl) ?_
  refine lv_if_lt (tgt := 14) X.1.1 X.1.2.1 d_mm_isHandle_1 rfl (fun h1 => ?_) (fun h1 => ?_)
  · skip
    refine lv_iconst (v := 0) X.1.1 X.1.2.1 d_mm_isHandle_14 rfl ?_
    exact X.zret hr hlk d_mm_isHandle_15 (by first | rfl | assumption) (by first | (simp only [isHandle, eq_true h1, if_true, if_false]; done) | (simp [isHandle, eq_true h1]; done) | (simp [isHandle, h1]; done) | rfl) rfl
  · skip
    refine lv_iload_n X.1.1 X.1.2.1 d_mm_isHandle_4 rfl (lv_at L 0 rfl) ?_
    refine lv_bipush (v := 6) X.1.1 X.1.2.1 d_mm_isHandle_5 rfl ?_
    refine lv_icmp_ge (tgt := 14) X.1.1 X.1.2.1 d_mm_isHandle_7 rfl (fun h7 => ?_) (fun h7 => ?_)
    · skip
      refine lv_iconst (v := 0) X.1.1 X.1.2.1 d_mm_isHandle_14 rfl ?_
      exact X.zret hr hlk d_mm_isHandle_15 (by first | rfl | assumption) (by first | (simp only [isHandle, eq_false h1, eq_true h7, if_true, if_false]; done) | (simp [isHandle, eq_false h1, eq_true h7]; done) | (simp [isHandle, h1, h7]; done) | rfl) rfl
    · skip
      refine lv_iconst (v := 1) X.1.1 X.1.2.1 d_mm_isHandle_10 rfl ?_
      refine lv_goto (tgt := 15) X.1.1 X.1.2.1 d_mm_isHandle_11 rfl ?_
      exact X.zret hr hlk d_mm_isHandle_15 (by first | rfl | assumption) (by first | (simp only [isHandle, eq_false h1, eq_false h7, if_true, if_false]; done) | (simp [isHandle, eq_false h1, eq_false h7]; done) | (simp [isHandle, h1, h7]; done) | rfl) rfl
set_option maxHeartbeats 4000000 in
theorem c_mm_isSelector {l : Launch} {D : va_G} {ad : Nat → Nat} {ci : Nat → ClassId} (hI : Inj ad) (σ : SS) (w : Int32)  : Mi l y_mm_isSelector b_mm_isSelector 1 (some .boolean) ({ frames := 0, cells := 0, slots := 0, locals := 0 } : Room) (EC D ad ci) [.int w] σ (isSelector w) (σ) := by
  refine Mi.start pn_mm (Nat.le_of_ble_eq_true rfl) (fun zp ze zs zm zb zt zc ls X hr hlk L => ?_)
  have L : lv_has ls 1 [(0, .int w)] := L
  refine lv_iload_n X.1.1 X.1.2.1 d_mm_isSelector_0 rfl (lv_at L 0 rfl) ?_
  refine lv_if_lt (tgt := 14) X.1.1 X.1.2.1 d_mm_isSelector_1 rfl (fun h1 => ?_) (fun h1 => ?_)
  · skip
    refine lv_iconst (v := 0) X.1.1 X.1.2.1 d_mm_isSelector_14 rfl ?_
    exact X.zret hr hlk d_mm_isSelector_15 (by first | rfl | assumption) (by first | (simp only [isSelector, eq_true h1, if_true, if_false]; done) | (simp [isSelector, eq_true h1]; done) | (simp [isSelector, h1]; done) | rfl) rfl
  · skip
    refine lv_iload_n X.1.1 X.1.2.1 d_mm_isSelector_4 rfl (lv_at L 0 rfl) ?_
    refine lv_bipush (v := 8) X.1.1 X.1.2.1 d_mm_isSelector_5 rfl ?_
    refine lv_icmp_ge (tgt := 14) X.1.1 X.1.2.1 d_mm_isSelector_7 rfl (fun h7 => ?_) (fun h7 => ?_)
    · skip
      refine lv_iconst (v := 0) X.1.1 X.1.2.1 d_mm_isSelector_14 rfl ?_
      exact X.zret hr hlk d_mm_isSelector_15 (by first | rfl | assumption) (by first | (simp only [isSelector, eq_false h1, eq_true h7, if_true, if_false]; done) | (simp [isSelector, eq_false h1, eq_true h7]; done) | (simp [isSelector, h1, h7]; done) | rfl) rfl
    · skip
      refine lv_iconst (v := 1) X.1.1 X.1.2.1 d_mm_isSelector_10 rfl ?_
      refine lv_goto (tgt := 15) X.1.1 X.1.2.1 d_mm_isSelector_11 rfl ?_
      exact X.zret hr hlk d_mm_isSelector_15 (by first | rfl | assumption) (by first | (simp only [isSelector, eq_false h1, eq_false h7, if_true, if_false]; done) | (simp [isSelector, eq_false h1, eq_false h7]; done) | (simp [isSelector, h1, h7]; done) | rfl) rfl
set_option maxHeartbeats 4000000 in
theorem c_mm_argumentsOf {l : Launch} {D : va_G} {ad : Nat → Nat} {ci : Nat → ClassId} (hI : Inj ad) (σ : SS) (w : Int32)  : Mi l y_mm_argumentsOf b_mm_argumentsOf 1 (some .int) ({ frames := 0, cells := 0, slots := 0, locals := 0 } : Room) (EC D ad ci) [.int w] σ (argumentsOf w) (σ) := by
  refine Mi.start pn_mm (Nat.le_of_ble_eq_true rfl) (fun zp ze zs zm zb zt zc ls X hr hlk L => ?_)
  have L : lv_has ls 1 [(0, .int w)] := L
  refine lv_iload_n X.1.1 X.1.2.1 d_mm_argumentsOf_0 rfl (lv_at L 0 rfl) ?_
  refine lv_iconst (v := 3) X.1.1 X.1.2.1 d_mm_argumentsOf_1 rfl ?_
  refine lv_irem X.1.1 X.1.2.1 d_mm_argumentsOf_2 (by decide) ?_
  exact X.iret hr hlk d_mm_argumentsOf_3 (by first | (simp only [argumentsOf, if_true, if_false]; done) | (simp [argumentsOf]; done) | (simp [argumentsOf]; done) | rfl) rfl
set_option maxHeartbeats 4000000 in
theorem c_me_hold {l : Launch} {D : va_G} {ad : Nat → Nat} {ci : Nat → ClassId} (hI : Inj ad) (σ : SS) (w : Int32) (n_w : 0 ≤ w.toInt) : Mv l y_me_hold b_me_hold 2 ({ frames := 0, cells := 0, slots := 0, locals := 0 } : Room) (EC D ad ci) [.ref (ad 1), .int w] σ (hold σ w) := by
  refine Mv.start pn_me (Nat.le_of_ble_eq_true rfl) (fun zp ze zs zm zb zt zc ls X hr hlk L => ?_)
  have L : lv_has ls 2 [(0, .ref (ad 1)), (1, .int w)] := L
  refine lv_iload_n X.1.1 X.1.2.1 d_me_hold_0 rfl (lv_at L 1 rfl) ?_
  refine lv_bipush (v := 28) X.1.1 X.1.2.1 d_me_hold_1 rfl ?_
  refine lv_icmp_ge (tgt := 16) X.1.1 X.1.2.1 d_me_hold_3 rfl (fun h3 => ?_) (fun h3 => ?_)
  · skip
    exact X.vret hr hlk d_me_hold_16 (by first | (simp only [hold, eq_true h3, if_true, if_false]; done) | (simp [hold, eq_true h3]; done) | (simp [hold, h3]; done) | rfl)
  · skip
    refine lv_aload_n X.1.1 X.1.2.1 d_me_hold_6 rfl (lv_at L 0 rfl) ?_
    refine g_me_holders X d_me_hold_7 ?_
    refine lv_iload_n X.1.1 X.1.2.1 d_me_hold_10 rfl (lv_at L 1 rfl) ?_
    refine lv_dup2_11 X.1.1 X.1.2.1 d_me_hold_11 rfl rfl ?_
    refine al_11 X (vp_28 n_w h3) d_me_hold_12 ?_
    refine lv_iconst (v := 1) X.1.1 X.1.2.1 d_me_hold_13 rfl ?_
    refine lv_iadd X.1.1 X.1.2.1 d_me_hold_14 ?_
    refine as_11 hI X (vp_28 n_w h3) d_me_hold_15 (fun H locs X => ?_)
    exact X.vret hr hlk d_me_hold_16 (by first | (simp only [hold, eq_false h3, if_true, if_false]; done) | (simp [hold, eq_false h3]; done) | (simp [hold, h3]; done) | rfl)
set_option maxHeartbeats 4000000 in
theorem c_me_release {l : Launch} {D : va_G} {ad : Nat → Nat} {ci : Nat → ClassId} (hI : Inj ad) (σ : SS) (w : Int32) (n_w : 0 ≤ w.toInt) : Mv l y_me_release b_me_release 2 ({ frames := 0, cells := 0, slots := 0, locals := 0 } : Room) (EC D ad ci) [.ref (ad 1), .int w] σ (release σ w) := by
  refine Mv.start pn_me (Nat.le_of_ble_eq_true rfl) (fun zp ze zs zm zb zt zc ls X hr hlk L => ?_)
  have L : lv_has ls 2 [(0, .ref (ad 1)), (1, .int w)] := L
  refine lv_iload_n X.1.1 X.1.2.1 d_me_release_0 rfl (lv_at L 1 rfl) ?_
  refine lv_bipush (v := 28) X.1.1 X.1.2.1 d_me_release_1 rfl ?_
  refine lv_icmp_ge (tgt := 16) X.1.1 X.1.2.1 d_me_release_3 rfl (fun h3 => ?_) (fun h3 => ?_)
  · skip
    exact X.vret hr hlk d_me_release_16 (by first | (simp only [release, eq_true h3, if_true, if_false]; done) | (simp [release, eq_true h3]; done) | (simp [release, h3]; done) | rfl)
  · skip
    refine lv_aload_n X.1.1 X.1.2.1 d_me_release_6 rfl (lv_at L 0 rfl) ?_
    refine g_me_holders X d_me_release_7 ?_
    refine lv_iload_n X.1.1 X.1.2.1 d_me_release_10 rfl (lv_at L 1 rfl) ?_
    refine lv_dup2_11 X.1.1 X.1.2.1 d_me_release_11 rfl rfl ?_
    refine al_11 X (vp_28 n_w h3) d_me_release_12 ?_
    refine lv_iconst (v := 1) X.1.1 X.1.2.1 d_me_release_13 rfl ?_
    refine lv_isub X.1.1 X.1.2.1 d_me_release_14 ?_
    refine as_11 hI X (vp_28 n_w h3) d_me_release_15 (fun H locs X => ?_)
    exact X.vret hr hlk d_me_release_16 (by first | (simp only [release, eq_false h3, if_true, if_false]; done) | (simp [release, eq_false h3]; done) | (simp [release, h3]; done) | rfl)
set_option maxHeartbeats 4000000 in
theorem c_me_isAlive {l : Launch} {D : va_G} {ad : Nat → Nat} {ci : Nat → ClassId} (hI : Inj ad) (σ : SS) (o : Int32)  : Mi l y_me_isAlive b_me_isAlive 2 (some .boolean) ({ frames := 0, cells := 0, slots := 0, locals := 0 } : Room) (EC D ad ci) [.ref (ad 1), .int o] σ (isAlive σ o) (σ) := by
  refine Mi.start pn_me (Nat.le_of_ble_eq_true rfl) (fun zp ze zs zm zb zt zc ls X hr hlk L => ?_)
  have L : lv_has ls 2 [(0, .ref (ad 1)), (1, .int o)] := L
  refine lv_iload_n X.1.1 X.1.2.1 d_me_isAlive_0 rfl (lv_at L 1 rfl) ?_
  refine lv_if_lt (tgt := 23) X.1.1 X.1.2.1 d_me_isAlive_1 rfl (fun h1 => ?_) (fun h1 => ?_)
  · skip
    refine lv_iconst (v := 0) X.1.1 X.1.2.1 d_me_isAlive_23 rfl ?_
    exact X.zret hr hlk d_me_isAlive_24 (by first | rfl | assumption) (by first | (simp only [isAlive, isObject, eq_true h1, if_true, if_false]; done) | (simp [isAlive, isObject, eq_true h1]; done) | (simp [isAlive, isObject, h1]; done) | rfl) rfl
  · skip
    refine lv_iload_n X.1.1 X.1.2.1 d_me_isAlive_4 rfl (lv_at L 1 rfl) ?_
    refine lv_bipush (v := 28) X.1.1 X.1.2.1 d_me_isAlive_5 rfl ?_
    refine lv_icmp_ge (tgt := 23) X.1.1 X.1.2.1 d_me_isAlive_7 rfl (fun h7 => ?_) (fun h7 => ?_)
    · skip
      refine lv_iconst (v := 0) X.1.1 X.1.2.1 d_me_isAlive_23 rfl ?_
      exact X.zret hr hlk d_me_isAlive_24 (by first | rfl | assumption) (by first | (simp only [isAlive, isObject, eq_false h1, eq_true h7, if_true, if_false]; done) | (simp [isAlive, isObject, eq_false h1, eq_true h7]; done) | (simp [isAlive, isObject, h1, h7]; done) | rfl) rfl
    · skip
      refine lv_aload_n X.1.1 X.1.2.1 d_me_isAlive_10 rfl (lv_at L 0 rfl) ?_
      refine g_me_living X d_me_isAlive_11 ?_
      refine lv_iload_n X.1.1 X.1.2.1 d_me_isAlive_14 rfl (lv_at L 1 rfl) ?_
      refine al_4 X (vp_28 (by rw [ilt0] at h1; omega) h7) d_me_isAlive_15 ?_
      refine lv_if_eq (tgt := 23) X.1.1 X.1.2.1 d_me_isAlive_16 rfl (fun h16 => ?_) (fun h16 => ?_)
      · skip
        refine lv_iconst (v := 0) X.1.1 X.1.2.1 d_me_isAlive_23 rfl ?_
        exact X.zret hr hlk d_me_isAlive_24 (by first | rfl | assumption) (by first | (simp only [isAlive, isObject, eq_false h1, eq_false h7, eq_true h16, if_true, if_false]; done) | (simp [isAlive, isObject, eq_false h1, eq_false h7, eq_true h16]; done) | (simp [isAlive, isObject, h1, h7, h16]; done) | rfl) rfl
      · skip
        refine lv_iconst (v := 1) X.1.1 X.1.2.1 d_me_isAlive_19 rfl ?_
        refine lv_goto (tgt := 24) X.1.1 X.1.2.1 d_me_isAlive_20 rfl ?_
        exact X.zret hr hlk d_me_isAlive_24 (by first | rfl | assumption) (by first | (simp only [isAlive, isObject, eq_false h1, eq_false h7, eq_false h16, if_true, if_false]; done) | (simp [isAlive, isObject, eq_false h1, eq_false h7, eq_false h16]; done) | (simp [isAlive, isObject, h1, h7, h16]; done) | rfl) rfl
set_option maxHeartbeats 4000000 in
theorem c_me_isClass {l : Launch} {D : va_G} {ad : Nat → Nat} {ci : Nat → ClassId} (hI : Inj ad) (σ : SS) (o : Int32)  : Mi l y_me_isClass b_me_isClass 2 (some .boolean) ({ frames := 1, cells := 0, slots := 0, locals := 21 } : Room) (EC D ad ci) [.ref (ad 1), .int o] σ (isClass σ o) (σ) := by
  refine Mi.start pn_me (Nat.le_of_ble_eq_true rfl) (fun zp ze zs zm zb zt zc ls X hr hlk L => ?_)
  have L : lv_has ls 2 [(0, .ref (ad 1)), (1, .int o)] := L
  refine lv_aload_n X.1.1 X.1.2.1 d_me_isClass_0 rfl (lv_at L 0 rfl) ?_
  refine lv_iload_n X.1.1 X.1.2.1 d_me_isClass_1 rfl (lv_at L 1 rfl) ?_
  refine Mi.callV (k := 1) (c_me_isAlive hI _ _) X (gt_V mw_150 mw_151 mw_152 mw_2 mw_153) ok_me_isAlive ⟨rfl, rfl, by decide, by decide⟩ (rc_me X) rfl L.1 rfl (Nat.le_of_ble_eq_true rfl) d_me_isClass_2 (fun H locs X => ?_)
  refine lv_if_eq (tgt := 21) X.1.1 X.1.2.1 d_me_isClass_5 rfl (fun h5 => ?_) (fun h5 => ?_)
  · skip
    refine lv_iconst (v := 0) X.1.1 X.1.2.1 d_me_isClass_21 rfl ?_
    exact X.zret hr hlk d_me_isClass_22 (by first | rfl | assumption) (by first | (simp only [isClass, eq_true h5, if_true, if_false]; done) | (simp [isClass, eq_true h5]; done) | (simp [isClass, h5]; done) | rfl) rfl
  · skip
    refine lv_aload_n X.1.1 X.1.2.1 d_me_isClass_8 rfl (lv_at L 0 rfl) ?_
    refine g_me_classes X d_me_isClass_9 ?_
    refine lv_iload_n X.1.1 X.1.2.1 d_me_isClass_12 rfl (lv_at L 1 rfl) ?_
    refine al_6 X (isAlive_in h5) d_me_isClass_13 ?_
    refine lv_if_eq (tgt := 21) X.1.1 X.1.2.1 d_me_isClass_14 rfl (fun h14 => ?_) (fun h14 => ?_)
    · skip
      refine lv_iconst (v := 0) X.1.1 X.1.2.1 d_me_isClass_21 rfl ?_
      exact X.zret hr hlk d_me_isClass_22 (by first | rfl | assumption) (by first | (simp only [isClass, eq_false h5, eq_true h14, if_true, if_false]; done) | (simp [isClass, eq_false h5, eq_true h14]; done) | (simp [isClass, h5, h14]; done) | rfl) rfl
    · skip
      refine lv_iconst (v := 1) X.1.1 X.1.2.1 d_me_isClass_17 rfl ?_
      refine lv_goto (tgt := 22) X.1.1 X.1.2.1 d_me_isClass_18 rfl ?_
      exact X.zret hr hlk d_me_isClass_22 (by first | rfl | assumption) (by first | (simp only [isClass, eq_false h5, eq_false h14, if_true, if_false]; done) | (simp [isClass, eq_false h5, eq_false h14]; done) | (simp [isClass, h5, h14]; done) | rfl) rfl
set_option maxHeartbeats 4000000 in
theorem c_me_isClassOrNil {l : Launch} {D : va_G} {ad : Nat → Nat} {ci : Nat → ClassId} (hI : Inj ad) (σ : SS) (o : Int32)  : Mi l y_me_isClassOrNil b_me_isClassOrNil 2 (some .boolean) ({ frames := 2, cells := 0, slots := 0, locals := 42 } : Room) (EC D ad ci) [.ref (ad 1), .int o] σ (isClassOrNil σ o) (σ) := by
  refine Mi.start pn_me (Nat.le_of_ble_eq_true rfl) (fun zp ze zs zm zb zt zc ls X hr hlk L => ?_)
  have L : lv_has ls 2 [(0, .ref (ad 1)), (1, .int o)] := L
  refine lv_iload_n X.1.1 X.1.2.1 d_me_isClassOrNil_0 rfl (lv_at L 1 rfl) ?_
  refine lv_if_eq (tgt := 12) X.1.1 X.1.2.1 d_me_isClassOrNil_1 rfl (fun h1 => ?_) (fun h1 => ?_)
  · skip
    refine lv_iconst (v := 1) X.1.1 X.1.2.1 d_me_isClassOrNil_12 rfl ?_
    refine lv_goto (tgt := 17) X.1.1 X.1.2.1 d_me_isClassOrNil_13 rfl ?_
    exact X.zret hr hlk d_me_isClassOrNil_17 (by first | rfl | assumption) (by first | (simp only [isClassOrNil, eq_true h1, if_true, if_false]; done) | (simp [isClassOrNil, eq_true h1]; done) | (simp [isClassOrNil, h1]; done) | rfl) rfl
  · skip
    refine lv_aload_n X.1.1 X.1.2.1 d_me_isClassOrNil_4 rfl (lv_at L 0 rfl) ?_
    refine lv_iload_n X.1.1 X.1.2.1 d_me_isClassOrNil_5 rfl (lv_at L 1 rfl) ?_
    refine Mi.callV (k := 1) (c_me_isClass hI _ _) X (gt_V mw_146 mw_147 mw_148 mw_2 mw_149) ok_me_isClass ⟨rfl, rfl, by decide, by decide⟩ (rc_me X) rfl L.1 rfl (Nat.le_of_ble_eq_true rfl) d_me_isClassOrNil_6 (fun H locs X => ?_)
    refine lv_if_eq (tgt := 16) X.1.1 X.1.2.1 d_me_isClassOrNil_9 rfl (fun h9 => ?_) (fun h9 => ?_)
    · skip
      refine lv_iconst (v := 0) X.1.1 X.1.2.1 d_me_isClassOrNil_16 rfl ?_
      exact X.zret hr hlk d_me_isClassOrNil_17 (by first | rfl | assumption) (by first | (simp only [isClassOrNil, eq_false h1, eq_true h9, if_true, if_false]; done) | (simp [isClassOrNil, eq_false h1, eq_true h9]; done) | (simp [isClassOrNil, h1, h9]; done) | rfl) rfl
    · skip
      refine lv_iconst (v := 1) X.1.1 X.1.2.1 d_me_isClassOrNil_12 rfl ?_
      refine lv_goto (tgt := 17) X.1.1 X.1.2.1 d_me_isClassOrNil_13 rfl ?_
      exact X.zret hr hlk d_me_isClassOrNil_17 (by first | rfl | assumption) (by first | (simp only [isClassOrNil, eq_false h1, eq_false h9, if_true, if_false]; done) | (simp [isClassOrNil, eq_false h1, eq_false h9]; done) | (simp [isClassOrNil, h1, h9]; done) | rfl) rfl
set_option maxHeartbeats 4000000 in
theorem c_me_isContext {l : Launch} {D : va_G} {ad : Nat → Nat} {ci : Nat → ClassId} (hI : Inj ad) (σ : SS) (o : Int32)  : Mi l y_me_isContext b_me_isContext 2 (some .boolean) ({ frames := 1, cells := 0, slots := 0, locals := 21 } : Room) (EC D ad ci) [.ref (ad 1), .int o] σ (isContext σ o) (σ) := by
  refine Mi.start pn_me (Nat.le_of_ble_eq_true rfl) (fun zp ze zs zm zb zt zc ls X hr hlk L => ?_)
  have L : lv_has ls 2 [(0, .ref (ad 1)), (1, .int o)] := L
  refine lv_aload_n X.1.1 X.1.2.1 d_me_isContext_0 rfl (lv_at L 0 rfl) ?_
  refine lv_iload_n X.1.1 X.1.2.1 d_me_isContext_1 rfl (lv_at L 1 rfl) ?_
  refine Mi.callV (k := 1) (c_me_isAlive hI _ _) X (gt_V mw_150 mw_151 mw_152 mw_2 mw_153) ok_me_isAlive ⟨rfl, rfl, by decide, by decide⟩ (rc_me X) rfl L.1 rfl (Nat.le_of_ble_eq_true rfl) d_me_isContext_2 (fun H locs X => ?_)
  refine lv_if_eq (tgt := 22) X.1.1 X.1.2.1 d_me_isContext_5 rfl (fun h5 => ?_) (fun h5 => ?_)
  · skip
    refine lv_iconst (v := 0) X.1.1 X.1.2.1 d_me_isContext_22 rfl ?_
    exact X.zret hr hlk d_me_isContext_23 (by first | rfl | assumption) (by first | (simp only [isContext, eq_true h5, if_true, if_false]; done) | (simp [isContext, eq_true h5]; done) | (simp [isContext, h5]; done) | rfl) rfl
  · skip
    refine lv_aload_n X.1.1 X.1.2.1 d_me_isContext_8 rfl (lv_at L 0 rfl) ?_
    refine g_me_classIn X d_me_isContext_9 ?_
    refine lv_iload_n X.1.1 X.1.2.1 d_me_isContext_12 rfl (lv_at L 1 rfl) ?_
    refine al_7 X (isAlive_in h5) d_me_isContext_13 ?_
    refine lv_iconst (v := 3) X.1.1 X.1.2.1 d_me_isContext_14 rfl ?_
    refine lv_icmp_ne (tgt := 22) X.1.1 X.1.2.1 d_me_isContext_15 rfl (fun h15 => ?_) (fun h15 => ?_)
    · skip
      refine lv_iconst (v := 0) X.1.1 X.1.2.1 d_me_isContext_22 rfl ?_
      exact X.zret hr hlk d_me_isContext_23 (by first | rfl | assumption) (by first | (simp only [isContext, eq_false h5, eq_false h15, if_true, if_false]; done) | (simp [isContext, eq_false h5, eq_false h15]; done) | (simp [isContext, h5, h15]; done) | rfl) rfl
    · skip
      refine lv_iconst (v := 1) X.1.1 X.1.2.1 d_me_isContext_18 rfl ?_
      refine lv_goto (tgt := 23) X.1.1 X.1.2.1 d_me_isContext_19 rfl ?_
      exact X.zret hr hlk d_me_isContext_23 (by first | rfl | assumption) (by first | (simp only [isContext, eq_false h5, eq_true h15, if_true, if_false]; done) | (simp [isContext, eq_false h5, eq_true h15]; done) | (simp [isContext, h5, h15]; done) | rfl) rfl
set_option maxHeartbeats 4000000 in
theorem c_me_hasField {l : Launch} {D : va_G} {ad : Nat → Nat} {ci : Nat → ClassId} (hI : Inj ad) (σ : SS) (o k : Int32)  : Mi l y_me_hasField b_me_hasField 3 (some .boolean) ({ frames := 1, cells := 0, slots := 0, locals := 21 } : Room) (EC D ad ci) [.ref (ad 1), .int o, .int k] σ (hasField σ o k) (σ) := by
  refine Mi.start pn_me (Nat.le_of_ble_eq_true rfl) (fun zp ze zs zm zb zt zc ls X hr hlk L => ?_)
  have L : lv_has ls 3 [(0, .ref (ad 1)), (1, .int o), (2, .int k)] := L
  refine lv_aload_n X.1.1 X.1.2.1 d_me_hasField_0 rfl (lv_at L 0 rfl) ?_
  refine lv_iload_n X.1.1 X.1.2.1 d_me_hasField_1 rfl (lv_at L 1 rfl) ?_
  refine Mi.callV (k := 1) (c_me_isAlive hI _ _) X (gt_V mw_150 mw_151 mw_152 mw_2 mw_153) ok_me_isAlive ⟨rfl, rfl, by decide, by decide⟩ (rc_me X) rfl L.1 rfl (Nat.le_of_ble_eq_true rfl) d_me_hasField_2 (fun H locs X => ?_)
  refine lv_if_eq (tgt := 26) X.1.1 X.1.2.1 d_me_hasField_5 rfl (fun h5 => ?_) (fun h5 => ?_)
  · skip
    refine lv_iconst (v := 0) X.1.1 X.1.2.1 d_me_hasField_26 rfl ?_
    exact X.zret hr hlk d_me_hasField_27 (by first | rfl | assumption) (by first | (simp only [hasField, eq_true h5, if_true, if_false]; done) | (simp [hasField, eq_true h5]; done) | (simp [hasField, h5]; done) | rfl) rfl
  · skip
    refine lv_iload_n X.1.1 X.1.2.1 d_me_hasField_8 rfl (lv_at L 2 rfl) ?_
    refine lv_if_lt (tgt := 26) X.1.1 X.1.2.1 d_me_hasField_9 rfl (fun h9 => ?_) (fun h9 => ?_)
    · skip
      refine lv_iconst (v := 0) X.1.1 X.1.2.1 d_me_hasField_26 rfl ?_
      exact X.zret hr hlk d_me_hasField_27 (by first | rfl | assumption) (by first | (simp only [hasField, eq_false h5, eq_true h9, if_true, if_false]; done) | (simp [hasField, eq_false h5, eq_true h9]; done) | (simp [hasField, h5, h9]; done) | rfl) rfl
    · skip
      refine lv_iload_n X.1.1 X.1.2.1 d_me_hasField_12 rfl (lv_at L 2 rfl) ?_
      refine lv_aload_n X.1.1 X.1.2.1 d_me_hasField_13 rfl (lv_at L 0 rfl) ?_
      refine g_me_fieldsIn X d_me_hasField_14 ?_
      refine lv_iload_n X.1.1 X.1.2.1 d_me_hasField_17 rfl (lv_at L 1 rfl) ?_
      refine al_8 X (isAlive_in h5) d_me_hasField_18 ?_
      refine lv_icmp_ge (tgt := 26) X.1.1 X.1.2.1 d_me_hasField_19 rfl (fun h19 => ?_) (fun h19 => ?_)
      · skip
        refine lv_iconst (v := 0) X.1.1 X.1.2.1 d_me_hasField_26 rfl ?_
        exact X.zret hr hlk d_me_hasField_27 (by first | rfl | assumption) (by first | (simp only [hasField, eq_false h5, eq_false h9, eq_true h19, if_true, if_false]; done) | (simp [hasField, eq_false h5, eq_false h9, eq_true h19]; done) | (simp [hasField, h5, h9, h19]; done) | rfl) rfl
      · skip
        refine lv_iconst (v := 1) X.1.1 X.1.2.1 d_me_hasField_22 rfl ?_
        refine lv_goto (tgt := 27) X.1.1 X.1.2.1 d_me_hasField_23 rfl ?_
        exact X.zret hr hlk d_me_hasField_27 (by first | rfl | assumption) (by first | (simp only [hasField, eq_false h5, eq_false h9, eq_false h19, if_true, if_false]; done) | (simp [hasField, eq_false h5, eq_false h9, eq_false h19]; done) | (simp [hasField, h5, h9, h19]; done) | rfl) rfl
set_option maxHeartbeats 4000000 in
theorem c_me_hasFreeField {l : Launch} {D : va_G} {ad : Nat → Nat} {ci : Nat → ClassId} (hI : Inj ad) (σ : SS) (o k : Int32)  : Mi l y_me_hasFreeField b_me_hasFreeField 3 (some .boolean) ({ frames := 2, cells := 0, slots := 0, locals := 43 } : Room) (EC D ad ci) [.ref (ad 1), .int o, .int k] σ (hasFreeField σ o k) (σ) := by
  refine Mi.start pn_me (Nat.le_of_ble_eq_true rfl) (fun zp ze zs zm zb zt zc ls X hr hlk L => ?_)
  have L : lv_has ls 3 [(0, .ref (ad 1)), (1, .int o), (2, .int k)] := L
  refine lv_aload_n X.1.1 X.1.2.1 d_me_hasFreeField_0 rfl (lv_at L 0 rfl) ?_
  refine lv_iload_n X.1.1 X.1.2.1 d_me_hasFreeField_1 rfl (lv_at L 1 rfl) ?_
  refine lv_iload_n X.1.1 X.1.2.1 d_me_hasFreeField_2 rfl (lv_at L 2 rfl) ?_
  refine Mi.callV (k := 2) (c_me_hasField hI _ _ _) X (gt_V mw_256 mw_230 mw_231 mw_2 mw_232) ok_me_hasField ⟨rfl, rfl, by decide, by decide⟩ (rc_me X) rfl L.1 rfl (Nat.le_of_ble_eq_true rfl) d_me_hasFreeField_3 (fun H locs X => ?_)
  refine lv_if_eq (tgt := 29) X.1.1 X.1.2.1 d_me_hasFreeField_6 rfl (fun h6 => ?_) (fun h6 => ?_)
  · skip
    refine lv_iconst (v := 0) X.1.1 X.1.2.1 d_me_hasFreeField_29 rfl ?_
    exact X.zret hr hlk d_me_hasFreeField_30 (by first | rfl | assumption) (by first | (simp only [hasFreeField, eq_true h6, if_true, if_false]; done) | (simp [hasFreeField, eq_true h6]; done) | (simp [hasFreeField, h6]; done) | rfl) rfl
  · skip
    refine lv_aload_n X.1.1 X.1.2.1 d_me_hasFreeField_9 rfl (lv_at L 0 rfl) ?_
    refine lv_iload_n X.1.1 X.1.2.1 d_me_hasFreeField_10 rfl (lv_at L 1 rfl) ?_
    refine Mi.callV (k := 1) (c_me_isClass hI _ _) X (gt_V mw_146 mw_147 mw_148 mw_2 mw_149) ok_me_isClass ⟨rfl, rfl, by decide, by decide⟩ (rc_me X) rfl L.1 rfl (Nat.le_of_ble_eq_true rfl) d_me_hasFreeField_11 (fun H locs X => ?_)
    refine lv_if_ne (tgt := 29) X.1.1 X.1.2.1 d_me_hasFreeField_14 rfl (fun h14 => ?_) (fun h14 => ?_)
    · skip
      refine lv_iconst (v := 0) X.1.1 X.1.2.1 d_me_hasFreeField_29 rfl ?_
      exact X.zret hr hlk d_me_hasFreeField_30 (by first | rfl | assumption) (by first | (simp only [hasFreeField, eq_false h6, eq_false h14, if_true, if_false]; done) | (simp [hasFreeField, eq_false h6, eq_false h14]; done) | (simp [hasFreeField, h6, h14]; done) | rfl) rfl
    · skip
      refine lv_aload_n X.1.1 X.1.2.1 d_me_hasFreeField_17 rfl (lv_at L 0 rfl) ?_
      refine lv_iload_n X.1.1 X.1.2.1 d_me_hasFreeField_18 rfl (lv_at L 1 rfl) ?_
      refine Mi.callV (k := 1) (c_me_isContext hI _ _) X (gt_V mw_257 mw_258 mw_259 mw_2 mw_260) ok_me_isContext ⟨rfl, rfl, by decide, by decide⟩ (rc_me X) rfl L.1 rfl (Nat.le_of_ble_eq_true rfl) d_me_hasFreeField_19 (fun H locs X => ?_)
      refine lv_if_ne (tgt := 29) X.1.1 X.1.2.1 d_me_hasFreeField_22 rfl (fun h22 => ?_) (fun h22 => ?_)
      · skip
        refine lv_iconst (v := 0) X.1.1 X.1.2.1 d_me_hasFreeField_29 rfl ?_
        exact X.zret hr hlk d_me_hasFreeField_30 (by first | rfl | assumption) (by first | (simp only [hasFreeField, eq_false h6, eq_true h14, eq_false h22, if_true, if_false]; done) | (simp [hasFreeField, eq_false h6, eq_true h14, eq_false h22]; done) | (simp [hasFreeField, h6, h14, h22]; done) | rfl) rfl
      · skip
        refine lv_iconst (v := 1) X.1.1 X.1.2.1 d_me_hasFreeField_25 rfl ?_
        refine lv_goto (tgt := 30) X.1.1 X.1.2.1 d_me_hasFreeField_26 rfl ?_
        exact X.zret hr hlk d_me_hasFreeField_30 (by first | rfl | assumption) (by first | (simp only [hasFreeField, eq_false h6, eq_true h14, eq_true h22, if_true, if_false]; done) | (simp [hasFreeField, eq_false h6, eq_true h14, eq_true h22]; done) | (simp [hasFreeField, h6, h14, h22]; done) | rfl) rfl
set_option maxHeartbeats 4000000 in
theorem c_me_classOfWord {l : Launch} {D : va_G} {ad : Nat → Nat} {ci : Nat → ClassId} (hI : Inj ad) (σ : SS) (w : Int32)  : Mi l y_me_classOfWord b_me_classOfWord 2 (some .int) ({ frames := 1, cells := 0, slots := 0, locals := 20 } : Room) (EC D ad ci) [.ref (ad 1), .int w] σ (classOfWord σ w) (σ) := by
  refine Mi.start pn_me (Nat.le_of_ble_eq_true rfl) (fun zp ze zs zm zb zt zc ls X hr hlk L => ?_)
  have L : lv_has ls 2 [(0, .ref (ad 1)), (1, .int w)] := L
  refine lv_iload_n X.1.1 X.1.2.1 d_me_classOfWord_0 rfl (lv_at L 1 rfl) ?_
  refine Mi.callN (k := 1) (c_mm_isObject hI _ _) X X.2.2.1.1 mw_246 mw_1 mw_247 ok_mm_isObject ⟨rfl, rfl, by decide, by decide⟩ rfl L.1 rfl (Nat.le_of_ble_eq_true rfl) d_me_classOfWord_1 (fun H locs X => ?_)
  refine lv_if_eq (tgt := 16) X.1.1 X.1.2.1 d_me_classOfWord_4 rfl (fun h4 => ?_) (fun h4 => ?_)
  · skip
    refine lv_iconst (v := 2) X.1.1 X.1.2.1 d_me_classOfWord_16 rfl ?_
    exact X.iret hr hlk d_me_classOfWord_17 (by first | (simp only [classOfWord, eq_true h4, if_true, if_false]; done) | (simp [classOfWord, eq_true h4]; done) | (simp [classOfWord, h4]; done) | rfl) rfl
  · skip
    refine lv_aload_n X.1.1 X.1.2.1 d_me_classOfWord_7 rfl (lv_at L 0 rfl) ?_
    refine g_me_classIn X d_me_classOfWord_8 ?_
    refine lv_iload_n X.1.1 X.1.2.1 d_me_classOfWord_11 rfl (lv_at L 1 rfl) ?_
    refine al_7 X (isObject_in h4) d_me_classOfWord_12 ?_
    refine lv_goto (tgt := 17) X.1.1 X.1.2.1 d_me_classOfWord_13 rfl ?_
    exact X.iret hr hlk d_me_classOfWord_17 (by first | (simp only [classOfWord, eq_false h4, if_true, if_false]; done) | (simp [classOfWord, eq_false h4]; done) | (simp [classOfWord, h4]; done) | rfl) rfl
set_option maxHeartbeats 4000000 in
theorem c_me_fieldOf {l : Launch} {D : va_G} {ad : Nat → Nat} {ci : Nat → ClassId} (hI : Inj ad) (σ : SS) (o k : Int32) (h_o : vp_in o 28) (h_k : vp_in k 15) : Mi l y_me_fieldOf b_me_fieldOf 3 (some .int) ({ frames := 0, cells := 0, slots := 0, locals := 0 } : Room) (EC D ad ci) [.ref (ad 1), .int o, .int k] σ (σ.2.1 (ix o) (ix k)) (σ) := by
  refine Mi.start pn_me (Nat.le_of_ble_eq_true rfl) (fun zp ze zs zm zb zt zc ls X hr hlk L => ?_)
  have L : lv_has ls 3 [(0, .ref (ad 1)), (1, .int o), (2, .int k)] := L
  refine lv_aload_n X.1.1 X.1.2.1 d_me_fieldOf_0 rfl (lv_at L 0 rfl) ?_
  refine g_me_fields X d_me_fieldOf_1 ?_
  refine lv_iload_n X.1.1 X.1.2.1 d_me_fieldOf_4 rfl (lv_at L 1 rfl) ?_
  refine X.gald (by assumption) d_me_fieldOf_5 ?_
  refine lv_iload_n X.1.1 X.1.2.1 d_me_fieldOf_6 rfl (lv_at L 2 rfl) ?_
  refine X.rald (vp_ix h_o) h_k d_me_fieldOf_7 ?_
  exact X.iret hr hlk d_me_fieldOf_8 (by first | (simp only [ix, if_true, if_false]; done) | (simp [ix]; done) | (simp [ix]; done) | rfl) rfl
set_option maxHeartbeats 4000000 in
theorem c_me_register {l : Launch} {D : va_G} {ad : Nat → Nat} {ci : Nat → ClassId} (hI : Inj ad) (σ : SS) (r : Int32) (h_r : vp_in r 7) : Mi l y_me_register b_me_register 2 (some .int) ({ frames := 0, cells := 0, slots := 0, locals := 0 } : Room) (EC D ad ci) [.ref (ad 1), .int r] σ (σ.1 13 (ix r)) (σ) := by
  refine Mi.start pn_me (Nat.le_of_ble_eq_true rfl) (fun zp ze zs zm zb zt zc ls X hr hlk L => ?_)
  have L : lv_has ls 2 [(0, .ref (ad 1)), (1, .int r)] := L
  refine lv_aload_n X.1.1 X.1.2.1 d_me_register_0 rfl (lv_at L 0 rfl) ?_
  refine g_me_registers X d_me_register_1 ?_
  refine lv_iload_n X.1.1 X.1.2.1 d_me_register_4 rfl (lv_at L 1 rfl) ?_
  refine al_13 X (by assumption) d_me_register_5 ?_
  exact X.iret hr hlk d_me_register_6 (by first | (simp only [ix, if_true, if_false]; done) | (simp [ix]; done) | (simp [ix]; done) | rfl) rfl
set_option maxHeartbeats 4000000 in
theorem c_me_depthOf {l : Launch} {D : va_G} {ad : Nat → Nat} {ci : Nat → ClassId} (hI : Inj ad) (σ : SS) (o : Int32) (h_o : vp_in o 28) : Mi l y_me_depthOf b_me_depthOf 2 (some .int) ({ frames := 0, cells := 0, slots := 0, locals := 0 } : Room) (EC D ad ci) [.ref (ad 1), .int o] σ (σ.1 10 (ix o)) (σ) := by
  refine Mi.start pn_me (Nat.le_of_ble_eq_true rfl) (fun zp ze zs zm zb zt zc ls X hr hlk L => ?_)
  have L : lv_has ls 2 [(0, .ref (ad 1)), (1, .int o)] := L
  refine lv_aload_n X.1.1 X.1.2.1 d_me_depthOf_0 rfl (lv_at L 0 rfl) ?_
  refine g_me_depths X d_me_depthOf_1 ?_
  refine lv_iload_n X.1.1 X.1.2.1 d_me_depthOf_4 rfl (lv_at L 1 rfl) ?_
  refine al_10 X (by assumption) d_me_depthOf_5 ?_
  exact X.iret hr hlk d_me_depthOf_6 (by first | (simp only [ix, if_true, if_false]; done) | (simp [ix]; done) | (simp [ix]; done) | rfl) rfl
set_option maxHeartbeats 4000000 in
theorem c_me_setField {l : Launch} {D : va_G} {ad : Nat → Nat} {ci : Nat → ClassId} (hI : Inj ad) (σ : SS) (o k w : Int32) (h_o : vp_in o 28) (h_k : vp_in k 15) (hg : RG σ) (n_w : 0 ≤ w.toInt) : Mv l y_me_setField b_me_setField 4 ({ frames := 1, cells := 0, slots := 0, locals := 21 } : Room) (EC D ad ci) [.ref (ad 1), .int o, .int k, .int w] σ (setField σ o k w) := by
  refine Mv.start pn_me (Nat.le_of_ble_eq_true rfl) (fun zp ze zs zm zb zt zc ls X hr hlk L => ?_)
  have L : lv_has ls 4 [(0, .ref (ad 1)), (1, .int o), (2, .int k), (3, .int w)] := L
  refine lv_aload_n X.1.1 X.1.2.1 d_me_setField_0 rfl (lv_at L 0 rfl) ?_
  refine lv_aload_n X.1.1 X.1.2.1 d_me_setField_1 rfl (lv_at L 0 rfl) ?_
  refine g_me_fields X d_me_setField_2 ?_
  refine lv_iload_n X.1.1 X.1.2.1 d_me_setField_5 rfl (lv_at L 1 rfl) ?_
  refine X.gald (by assumption) d_me_setField_6 ?_
  refine lv_iload_n X.1.1 X.1.2.1 d_me_setField_7 rfl (lv_at L 2 rfl) ?_
  refine X.rald (vp_ix h_o) h_k d_me_setField_8 ?_
  refine Mv.callV (k := 1) (c_me_release hI _ _ (hg.grid h_o h_k)) X (gt_V mw_38 mw_40 ms_3 mw_2 mw_41) ok_me_release ⟨rfl, rfl, by decide, by decide⟩ (rc_me X) rfl L.1 rfl (Nat.le_of_ble_eq_true rfl) d_me_setField_9 (fun H locs X => ?_)
  refine lv_aload_n X.1.1 X.1.2.1 d_me_setField_12 rfl (lv_at L 0 rfl) ?_
  refine g_me_fields X d_me_setField_13 ?_
  refine lv_iload_n X.1.1 X.1.2.1 d_me_setField_16 rfl (lv_at L 1 rfl) ?_
  refine X.gald (by assumption) d_me_setField_17 ?_
  refine lv_iload_n X.1.1 X.1.2.1 d_me_setField_18 rfl (lv_at L 2 rfl) ?_
  refine lv_iload_n X.1.1 X.1.2.1 d_me_setField_19 rfl (lv_at L 3 rfl) ?_
  refine X.rast hI (vp_ix h_o) h_k d_me_setField_20 (fun H locs X => ?_)
  refine lv_aload_n X.1.1 X.1.2.1 d_me_setField_21 rfl (lv_at L 0 rfl) ?_
  refine lv_iload_n X.1.1 X.1.2.1 d_me_setField_22 rfl (lv_at L 3 rfl) ?_
  refine Mv.callV (k := 1) (c_me_hold hI _ _ (by first | assumption | omega)) X (gt_V mw_26 mw_28 ms_1 mw_2 mw_29) ok_me_hold ⟨rfl, rfl, by decide, by decide⟩ (rc_me X) rfl L.1 rfl (Nat.le_of_ble_eq_true rfl) d_me_setField_23 (fun H locs X => ?_)
  exact X.vret hr hlk d_me_setField_26 (by first | with_reducible rfl | (simp only [setField]; done) | rfl)
set_option maxHeartbeats 4000000 in
theorem c_me_setRegister {l : Launch} {D : va_G} {ad : Nat → Nat} {ci : Nat → ClassId} (hI : Inj ad) (σ : SS) (r w : Int32) (h_r : vp_in r 7) (hg : RG σ) (n_w : 0 ≤ w.toInt) : Mv l y_me_setRegister b_me_setRegister 3 ({ frames := 1, cells := 0, slots := 0, locals := 21 } : Room) (EC D ad ci) [.ref (ad 1), .int r, .int w] σ (setRegister σ r w) := by
  refine Mv.start pn_me (Nat.le_of_ble_eq_true rfl) (fun zp ze zs zm zb zt zc ls X hr hlk L => ?_)
  have L : lv_has ls 3 [(0, .ref (ad 1)), (1, .int r), (2, .int w)] := L
  refine lv_aload_n X.1.1 X.1.2.1 d_me_setRegister_0 rfl (lv_at L 0 rfl) ?_
  refine lv_aload_n X.1.1 X.1.2.1 d_me_setRegister_1 rfl (lv_at L 0 rfl) ?_
  refine g_me_registers X d_me_setRegister_2 ?_
  refine lv_iload_n X.1.1 X.1.2.1 d_me_setRegister_5 rfl (lv_at L 1 rfl) ?_
  refine al_13 X (by assumption) d_me_setRegister_6 ?_
  refine Mv.callV (k := 1) (c_me_release hI _ _ (hg.reg h_r)) X (gt_V mw_38 mw_40 ms_3 mw_2 mw_41) ok_me_release ⟨rfl, rfl, by decide, by decide⟩ (rc_me X) rfl L.1 rfl (Nat.le_of_ble_eq_true rfl) d_me_setRegister_7 (fun H locs X => ?_)
  refine lv_aload_n X.1.1 X.1.2.1 d_me_setRegister_10 rfl (lv_at L 0 rfl) ?_
  refine g_me_registers X d_me_setRegister_11 ?_
  refine lv_iload_n X.1.1 X.1.2.1 d_me_setRegister_14 rfl (lv_at L 1 rfl) ?_
  refine lv_iload_n X.1.1 X.1.2.1 d_me_setRegister_15 rfl (lv_at L 2 rfl) ?_
  refine as_13 hI X (by assumption) d_me_setRegister_16 (fun H locs X => ?_)
  refine lv_aload_n X.1.1 X.1.2.1 d_me_setRegister_17 rfl (lv_at L 0 rfl) ?_
  refine lv_iload_n X.1.1 X.1.2.1 d_me_setRegister_18 rfl (lv_at L 2 rfl) ?_
  refine Mv.callV (k := 1) (c_me_hold hI _ _ (by first | assumption | omega)) X (gt_V mw_26 mw_28 ms_1 mw_2 mw_29) ok_me_hold ⟨rfl, rfl, by decide, by decide⟩ (rc_me X) rfl L.1 rfl (Nat.le_of_ble_eq_true rfl) d_me_setRegister_19 (fun H locs X => ?_)
  exact X.vret hr hlk d_me_setRegister_22 (by first | with_reducible rfl | (simp only [setRegister]; done) | rfl)
set_option maxHeartbeats 4000000 in
theorem c_me_wake {l : Launch} {D : va_G} {ad : Nat → Nat} {ci : Nat → ClassId} (hI : Inj ad) (σ : SS) (o c n : Int32) (h_o : vp_in o 28) (n_c : 0 ≤ c.toInt) : Mv l y_me_wake b_me_wake 4 ({ frames := 1, cells := 0, slots := 0, locals := 21 } : Room) (EC D ad ci) [.ref (ad 1), .int o, .int c, .int n] σ (wake σ o c n) := by
  refine Mv.start pn_me (Nat.le_of_ble_eq_true rfl) (fun zp ze zs zm zb zt zc ls X hr hlk L => ?_)
  have L : lv_has ls 4 [(0, .ref (ad 1)), (1, .int o), (2, .int c), (3, .int n)] := L
  refine lv_aload_n X.1.1 X.1.2.1 d_me_wake_0 rfl (lv_at L 0 rfl) ?_
  refine g_me_living X d_me_wake_1 ?_
  refine lv_iload_n X.1.1 X.1.2.1 d_me_wake_4 rfl (lv_at L 1 rfl) ?_
  refine lv_iconst (v := 1) X.1.1 X.1.2.1 d_me_wake_5 rfl ?_
  refine as_4 hI X (by assumption) rfl d_me_wake_6 (fun H locs X => ?_)
  refine lv_aload_n X.1.1 X.1.2.1 d_me_wake_7 rfl (lv_at L 0 rfl) ?_
  refine g_me_classIn X d_me_wake_8 ?_
  refine lv_iload_n X.1.1 X.1.2.1 d_me_wake_11 rfl (lv_at L 1 rfl) ?_
  refine lv_iload_n X.1.1 X.1.2.1 d_me_wake_12 rfl (lv_at L 2 rfl) ?_
  refine as_7 hI X (by assumption) d_me_wake_13 (fun H locs X => ?_)
  refine lv_aload_n X.1.1 X.1.2.1 d_me_wake_14 rfl (lv_at L 0 rfl) ?_
  refine g_me_fieldsIn X d_me_wake_15 ?_
  refine lv_iload_n X.1.1 X.1.2.1 d_me_wake_18 rfl (lv_at L 1 rfl) ?_
  refine lv_iload_n X.1.1 X.1.2.1 d_me_wake_19 rfl (lv_at L 3 rfl) ?_
  refine as_8 hI X (by assumption) d_me_wake_20 (fun H locs X => ?_)
  refine lv_aload_n X.1.1 X.1.2.1 d_me_wake_21 rfl (lv_at L 0 rfl) ?_
  refine lv_iload_n X.1.1 X.1.2.1 d_me_wake_22 rfl (lv_at L 2 rfl) ?_
  refine Mv.callV (k := 1) (c_me_hold hI _ _ (by first | assumption | omega)) X (gt_V mw_26 mw_28 ms_1 mw_2 mw_29) ok_me_hold ⟨rfl, rfl, by decide, by decide⟩ (rc_me X) rfl L.1 rfl (Nat.le_of_ble_eq_true rfl) d_me_wake_23 (fun H locs X => ?_)
  refine lv_aload_n X.1.1 X.1.2.1 d_me_wake_26 rfl (lv_at L 0 rfl) ?_
  refine g_me_holders X d_me_wake_27 ?_
  refine lv_iconst (v := 0) X.1.1 X.1.2.1 d_me_wake_30 rfl ?_
  refine lv_dup2_11 X.1.1 X.1.2.1 d_me_wake_31 rfl rfl ?_
  refine al_11 X vp_0 d_me_wake_32 ?_
  refine lv_iload_n X.1.1 X.1.2.1 d_me_wake_33 rfl (lv_at L 3 rfl) ?_
  refine lv_iadd X.1.1 X.1.2.1 d_me_wake_34 ?_
  refine as_11 hI X vp_0 d_me_wake_35 (fun H locs X => ?_)
  exact X.vret hr hlk d_me_wake_36 (by first | with_reducible rfl | (simp only [wake, wake1]; done) | rfl)
set_option maxHeartbeats 4000000 in
theorem c_me_countOf {l : Launch} {D : va_G} {ad : Nat → Nat} {ci : Nat → ClassId} (hI : Inj ad) (σ : SS) (o : Int32) (h_o : vp_in o 28) : Mi l y_me_countOf b_me_countOf 2 (some .int) ({ frames := 0, cells := 0, slots := 0, locals := 0 } : Room) (EC D ad ci) [.ref (ad 1), .int o] σ (countOf σ o) (σ) := by
  refine Mi.start pn_me (Nat.le_of_ble_eq_true rfl) (fun zp ze zs zm zb zt zc ls X hr hlk L => ?_)
  have L : lv_has ls 2 [(0, .ref (ad 1)), (1, .int o)] := L
  refine lv_aload_n X.1.1 X.1.2.1 d_me_countOf_0 rfl (lv_at L 0 rfl) ?_
  refine g_me_stuck X d_me_countOf_1 ?_
  refine lv_iload_n X.1.1 X.1.2.1 d_me_countOf_4 rfl (lv_at L 1 rfl) ?_
  refine al_5 X (by assumption) d_me_countOf_5 ?_
  refine lv_if_eq (tgt := 14) X.1.1 X.1.2.1 d_me_countOf_6 rfl (fun h6 => ?_) (fun h6 => ?_)
  · skip
    refine lv_aload_n X.1.1 X.1.2.1 d_me_countOf_14 rfl (lv_at L 0 rfl) ?_
    refine g_me_holders X d_me_countOf_15 ?_
    refine lv_iload_n X.1.1 X.1.2.1 d_me_countOf_18 rfl (lv_at L 1 rfl) ?_
    refine al_11 X (by assumption) d_me_countOf_19 ?_
    exact X.iret hr hlk d_me_countOf_20 (by first | (simp only [countOf, eq_true h6, if_true, if_false]; done) | (simp [countOf, eq_true h6]; done) | (simp [countOf, h6]; done) | rfl) rfl
  · skip
    refine lv_bipush (v := 6) X.1.1 X.1.2.1 d_me_countOf_9 rfl ?_
    refine lv_goto (tgt := 20) X.1.1 X.1.2.1 d_me_countOf_11 rfl ?_
    exact X.iret hr hlk d_me_countOf_20 (by first | (simp only [countOf, eq_false h6, if_true, if_false]; done) | (simp [countOf, eq_false h6]; done) | (simp [countOf, h6]; done) | rfl) rfl
