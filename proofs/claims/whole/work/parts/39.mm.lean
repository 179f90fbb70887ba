set_option maxHeartbeats 4000000 in
theorem c_mm_giveHandle {l : Launch} {D : va_G} {ad : Nat → Nat} {ci : Nat → ClassId} (hI : Inj ad) (σ : SS) (h w : Int32) (h_h : vp_in h 6) (hg : RG σ) (n_w : 0 ≤ w.toInt) : Mv l y_mm_giveHandle b_mm_giveHandle 3 ({ frames := 4, cells := 0, slots := 0, locals := 87 } : Room) (EC D ad ci) [.ref (ad 0), .int h, .int w] σ (giveHandle σ h w) := by
  refine Mv.start pn_mm (Nat.le_of_ble_eq_true rfl) (fun zp ze zs zm zb zt zc ls X hr hlk L => ?_)
  have L : lv_has ls 3 [(0, .ref (ad 0)), (1, .int h), (2, .int w)] := L
  refine lv_aload_n X.1.1 X.1.2.1 d_mm_giveHandle_0 rfl (lv_at L 0 rfl) ?_
  refine g_mm_memory X d_mm_giveHandle_1 ?_
  refine lv_iload_n X.1.1 X.1.2.1 d_mm_giveHandle_4 rfl (lv_at L 1 rfl) ?_
  refine lv_iload_n X.1.1 X.1.2.1 d_mm_giveHandle_5 rfl (lv_at L 2 rfl) ?_
  refine Mv.callV (k := 2) (c_me_setRegister hI _ _ _ (h7 h_h) hg n_w) X (gt_V mw_173 mw_174 mw_175 mw_2 mw_176) ok_me_setRegister ⟨rfl, rfl, by decide, by decide⟩ (rc_me X) rfl L.1 rfl (Nat.le_of_ble_eq_true rfl) d_mm_giveHandle_6 (fun H locs X => ?_)
  refine lv_aload_n X.1.1 X.1.2.1 d_mm_giveHandle_9 rfl (lv_at L 0 rfl) ?_
  refine g_mm_memory X d_mm_giveHandle_10 ?_
  refine Mv.callV (k := 0) (c_me_settle hI _ (RG_setRegister hg _ n_w)) X (gt_V mw_177 mw_178 mw_179 mw_2 mw_180) ok_me_settle ⟨rfl, rfl, by decide, by decide⟩ (rc_me X) rfl L.1 rfl (Nat.le_of_ble_eq_true rfl) d_mm_giveHandle_13 (fun H locs X => ?_)
  exact X.vret hr hlk d_mm_giveHandle_16 (by first | with_reducible rfl | (simp only [giveHandle]; done) | rfl)
set_option maxHeartbeats 4000000 in
theorem c_mm_holdsClass {l : Launch} {D : va_G} {ad : Nat → Nat} {ci : Nat → ClassId} (hI : Inj ad) (σ : SS) (h : Int32)  : Mi l y_mm_holdsClass b_mm_holdsClass 2 (some .boolean) ({ frames := 2, cells := 0, slots := 0, locals := 42 } : Room) (EC D ad ci) [.ref (ad 0), .int h] σ (holdsClass σ h) (σ) := by
  refine Mi.start pn_mm (Nat.le_of_ble_eq_true rfl) (fun zp ze zs zm zb zt zc ls X hr hlk L => ?_)
  have L : lv_has ls 2 [(0, .ref (ad 0)), (1, .int h)] := L
  refine lv_iload_n X.1.1 X.1.2.1 d_mm_holdsClass_0 rfl (lv_at L 1 rfl) ?_
  refine Mi.callS (k := 1) (c_mm_isHandle hI _ _) X mw_135 mw_136 mw_1 mw_137 ok_mm_isHandle ⟨rfl, rfl, by decide, by decide⟩ rfl L.1 rfl (Nat.le_of_ble_eq_true rfl) d_mm_holdsClass_1 (fun H locs X => ?_)
  refine lv_if_eq (tgt := 29) X.1.1 X.1.2.1 d_mm_holdsClass_4 rfl (fun h4 => ?_) (fun h4 => ?_)
  · skip
    refine lv_iconst (v := 0) X.1.1 X.1.2.1 d_mm_holdsClass_29 rfl ?_
    exact X.zret hr hlk d_mm_holdsClass_30 (by first | rfl | assumption) (by first | (simp only [holdsClass, eq_true h4, if_true, if_false]; done) | (simp [holdsClass, eq_true h4]; done) | (simp [holdsClass, h4]; done) | rfl) rfl
  · skip
    refine lv_aload_n X.1.1 X.1.2.1 d_mm_holdsClass_7 rfl (lv_at L 0 rfl) ?_
    refine g_mm_memory X d_mm_holdsClass_8 ?_
    refine lv_aload_n X.1.1 X.1.2.1 d_mm_holdsClass_11 rfl (lv_at L 0 rfl) ?_
    refine g_mm_memory X d_mm_holdsClass_12 ?_
    refine lv_iload_n X.1.1 X.1.2.1 d_mm_holdsClass_15 rfl (lv_at L 1 rfl) ?_
    refine Mi.callV (k := 1) (c_me_register hI _ _ (h7 (isHandle_in h4))) X (gt_V mw_138 mw_139 mw_140 mw_2 mw_141) ok_me_register ⟨rfl, rfl, by decide, by decide⟩ (rc_me X) rfl L.1 rfl (Nat.le_of_ble_eq_true rfl) d_mm_holdsClass_16 (fun H locs X => ?_)
    refine Mi.callV (k := 1) (c_me_isClass hI _ _) X (gt_V mw_197 mw_147 mw_148 mw_2 mw_149) ok_me_isClass ⟨rfl, rfl, by decide, by decide⟩ (rc_me X) rfl L.1 rfl (Nat.le_of_ble_eq_true rfl) d_mm_holdsClass_19 (fun H locs X => ?_)
    refine lv_if_eq (tgt := 29) X.1.1 X.1.2.1 d_mm_holdsClass_22 rfl (fun h22 => ?_) (fun h22 => ?_)
    · skip
      refine lv_iconst (v := 0) X.1.1 X.1.2.1 d_mm_holdsClass_29 rfl ?_
      exact X.zret hr hlk d_mm_holdsClass_30 (by first | rfl | assumption) (by first | (simp only [holdsClass, eq_false h4, eq_true h22, if_true, if_false]; done) | (simp [holdsClass, eq_false h4, eq_true h22]; done) | (simp [holdsClass, h4, h22]; done) | rfl) rfl
    · skip
      refine lv_iconst (v := 1) X.1.1 X.1.2.1 d_mm_holdsClass_25 rfl ?_
      refine lv_goto (tgt := 30) X.1.1 X.1.2.1 d_mm_holdsClass_26 rfl ?_
      exact X.zret hr hlk d_mm_holdsClass_30 (by first | rfl | assumption) (by first | (simp only [holdsClass, eq_false h4, eq_false h22, if_true, if_false]; done) | (simp [holdsClass, eq_false h4, eq_false h22]; done) | (simp [holdsClass, h4, h22]; done) | rfl) rfl
set_option maxHeartbeats 4000000 in
theorem c_mm_define {l : Launch} {D : va_G} {ad : Nat → Nat} {ci : Nat → ClassId} (hI : Inj ad) (σ : SS) (h s z : Int32) (hg : RG σ) : Mi l y_mm_define b_mm_define 5 (some .int) ({ frames := 5, cells := 0, slots := 0, locals := 109 } : Room) (EC D ad ci) [.ref (ad 0), .int h, .int s, .int z] σ ((define σ h s z).1) ((define σ h s z).2) := by
  refine Mi.start pn_mm (Nat.le_of_ble_eq_true rfl) (fun zp ze zs zm zb zt zc ls X hr hlk L => ?_)
  have L : lv_has ls 5 [(0, .ref (ad 0)), (1, .int h), (2, .int s), (3, .int z)] := L
  refine lv_iload_n X.1.1 X.1.2.1 d_mm_define_0 rfl (lv_at L 1 rfl) ?_
  refine Mi.callS (k := 1) (c_mm_isHandle hI _ _) X mw_135 mw_136 mw_1 mw_137 ok_mm_isHandle ⟨rfl, rfl, by decide, by decide⟩ rfl L.1 rfl (Nat.le_of_ble_eq_true rfl) d_mm_define_1 (fun H locs X => ?_)
  refine lv_if_eq (tgt := 24) X.1.1 X.1.2.1 d_mm_define_4 rfl (fun h4 => ?_) (fun h4 => ?_)
  · skip
    refine lv_iconst (v := (-1)) X.1.1 X.1.2.1 d_mm_define_24 rfl ?_
    exact X.iret hr hlk d_mm_define_25 (by first | (simp only [define, define1, eq_true h4, if_true, if_false]; done) | (simp [define, define1, eq_true h4]; done) | (simp [define, define1, h4]; done) | rfl) (by first | (simp only [define, define1, eq_true h4, if_true, if_false]; done) | (simp [define, define1, eq_true h4]; done) | (simp [define, define1, h4]; done) | rfl)
  · skip
    refine lv_iload_n X.1.1 X.1.2.1 d_mm_define_7 rfl (lv_at L 2 rfl) ?_
    refine Mi.callS (k := 1) (c_mm_isHandle hI _ _) X mw_135 mw_136 mw_1 mw_137 ok_mm_isHandle ⟨rfl, rfl, by decide, by decide⟩ rfl L.1 rfl (Nat.le_of_ble_eq_true rfl) d_mm_define_8 (fun H locs X => ?_)
    refine lv_if_eq (tgt := 24) X.1.1 X.1.2.1 d_mm_define_11 rfl (fun h11 => ?_) (fun h11 => ?_)
    · skip
      refine lv_iconst (v := (-1)) X.1.1 X.1.2.1 d_mm_define_24 rfl ?_
      exact X.iret hr hlk d_mm_define_25 (by first | (simp only [define, define1, eq_false h4, eq_true h11, if_true, if_false]; done) | (simp [define, define1, eq_false h4, eq_true h11]; done) | (simp [define, define1, h4, h11]; done) | rfl) (by first | (simp only [define, define1, eq_false h4, eq_true h11, if_true, if_false]; done) | (simp [define, define1, eq_false h4, eq_true h11]; done) | (simp [define, define1, h4, h11]; done) | rfl)
    · skip
      refine lv_iload_n X.1.1 X.1.2.1 d_mm_define_14 rfl (lv_at L 3 rfl) ?_
      refine lv_if_lt (tgt := 24) X.1.1 X.1.2.1 d_mm_define_15 rfl (fun h15 => ?_) (fun h15 => ?_)
      · skip
        refine lv_iconst (v := (-1)) X.1.1 X.1.2.1 d_mm_define_24 rfl ?_
        exact X.iret hr hlk d_mm_define_25 (by first | (simp only [define, define1, eq_false h4, eq_false h11, eq_true h15, if_true, if_false]; done) | (simp [define, define1, eq_false h4, eq_false h11, eq_true h15]; done) | (simp [define, define1, h4, h11, h15]; done) | rfl) (by first | (simp only [define, define1, eq_false h4, eq_false h11, eq_true h15, if_true, if_false]; done) | (simp [define, define1, eq_false h4, eq_false h11, eq_true h15]; done) | (simp [define, define1, h4, h11, h15]; done) | rfl)
      · skip
        refine lv_iload_n X.1.1 X.1.2.1 d_mm_define_18 rfl (lv_at L 3 rfl) ?_
        refine lv_bipush (v := 6) X.1.1 X.1.2.1 d_mm_define_19 rfl ?_
        refine lv_icmp_le (tgt := 26) X.1.1 X.1.2.1 d_mm_define_21 rfl (fun h21 => ?_) (fun h21 => ?_)
        · skip
          refine lv_aload_n X.1.1 X.1.2.1 d_mm_define_26 rfl (lv_at L 0 rfl) ?_
          refine g_mm_memory X d_mm_define_27 ?_
          refine lv_aload_n X.1.1 X.1.2.1 d_mm_define_30 rfl (lv_at L 0 rfl) ?_
          refine g_mm_memory X d_mm_define_31 ?_
          refine lv_iload_n X.1.1 X.1.2.1 d_mm_define_34 rfl (lv_at L 2 rfl) ?_
          refine Mi.callV (k := 1) (c_me_register hI _ _ (h7 (isHandle_in h11))) X (gt_V mw_138 mw_139 mw_140 mw_2 mw_141) ok_me_register ⟨rfl, rfl, by decide, by decide⟩ (rc_me X) rfl L.1 rfl (Nat.le_of_ble_eq_true rfl) d_mm_define_35 (fun H locs X => ?_)
          refine Mi.callV (k := 1) (c_me_isClassOrNil hI _ _) X (gt_V mw_142 mw_143 mw_144 mw_2 mw_145) ok_me_isClassOrNil ⟨rfl, rfl, by decide, by decide⟩ (rc_me X) rfl L.1 rfl (Nat.le_of_ble_eq_true rfl) d_mm_define_38 (fun H locs X => ?_)
          refine lv_if_ne (tgt := 46) X.1.1 X.1.2.1 d_mm_define_41 rfl (fun h41 => ?_) (fun h41 => ?_)
          · skip
            refine lv_aload_n X.1.1 X.1.2.1 d_mm_define_46 rfl (lv_at L 0 rfl) ?_
            refine g_mm_memory X d_mm_define_47 ?_
            refine lv_aload_n X.1.1 X.1.2.1 d_mm_define_50 rfl (lv_at L 0 rfl) ?_
            refine g_mm_memory X d_mm_define_51 ?_
            refine lv_iload_n X.1.1 X.1.2.1 d_mm_define_54 rfl (lv_at L 2 rfl) ?_
            refine Mi.callV (k := 1) (c_me_register hI _ _ (h7 (isHandle_in h11))) X (gt_V mw_138 mw_139 mw_140 mw_2 mw_141) ok_me_register ⟨rfl, rfl, by decide, by decide⟩ (rc_me X) rfl L.1 rfl (Nat.le_of_ble_eq_true rfl) d_mm_define_55 (fun H locs X => ?_)
            refine lv_iload_n X.1.1 X.1.2.1 d_mm_define_58 rfl (lv_at L 3 rfl) ?_
            refine Mi.callV (k := 2) (c_me_newClass hI _ _ _ (hg.reg (h7 (isHandle_in h11))) hg (z6 h15 h21)) X (gt_V mw_154 mw_155 mw_156 mw_2 mw_157) ok_me_newClass ⟨rfl, rfl, by decide, by decide⟩ (rc_me X) rfl L.1 rfl (Nat.le_of_ble_eq_true rfl) d_mm_define_59 (fun H locs X => ?_)
            refine lv_istore (lv' := [(4, .int _), (0, .ref _), (1, .int _), (2, .int _), (3, .int _)]) X.1.1 X.1.2.1 d_mm_define_62 L (by decide) rfl (fun ls L => ?_)
            refine lv_iload X.1.1 X.1.2.1 d_mm_define_64 (lv_at L 0 rfl) ?_
            refine lv_iconst (v := (-1)) X.1.1 X.1.2.1 d_mm_define_66 rfl ?_
            refine lv_icmp_ne (tgt := 72) X.1.1 X.1.2.1 d_mm_define_67 rfl (fun h67 => ?_) (fun h67 => ?_)
            · skip
              refine lv_aload_n X.1.1 X.1.2.1 d_mm_define_72 rfl (lv_at L 1 rfl) ?_
              refine g_mm_methods X d_mm_define_73 ?_
              refine lv_iload X.1.1 X.1.2.1 d_mm_define_76 (lv_at L 0 rfl) ?_
              refine Mv.callV (k := 1) (c_mt_forget hI _ _ (leastFree_in h67)) X (gt_V mw_162 mw_163 mw_164 mw_3 mw_165) ok_mt_forget ⟨rfl, rfl, by decide, by decide⟩ (rc_mt X) rfl L.1 rfl (Nat.le_of_ble_eq_true rfl) d_mm_define_78 (fun H locs X => ?_)
              refine lv_aload_n X.1.1 X.1.2.1 d_mm_define_81 rfl (lv_at L 1 rfl) ?_
              refine lv_iload_n X.1.1 X.1.2.1 d_mm_define_82 rfl (lv_at L 2 rfl) ?_
              refine lv_iload X.1.1 X.1.2.1 d_mm_define_83 (lv_at L 0 rfl) ?_
              refine Mv.callV (k := 2) (c_mm_giveHandle hI _ _ _ (isHandle_in h4) (RG_forget (RG_newClass hg (hg.reg (h7 (isHandle_in h11))) (z6 h15 h21)) _) (vp_nn (leastFree_in h67))) X (gt_V mw_169 mw_171 ms_6 mw_1 mw_172) ok_mm_giveHandle ⟨rfl, rfl, by decide, by decide⟩ (rc_mm X) rfl L.1 rfl (Nat.le_of_ble_eq_true rfl) d_mm_define_85 (fun H locs X => ?_)
              refine lv_iload X.1.1 X.1.2.1 d_mm_define_88 (lv_at L 0 rfl) ?_
              exact X.iret hr hlk d_mm_define_90 (by first | (simp only [define, define1, eq_false h4, eq_false h11, eq_false h15, eq_true h21, eq_false h41, eq_false h67, if_true, if_false]; done) | (simp [define, define1, eq_false h4, eq_false h11, eq_false h15, eq_true h21, eq_false h41, eq_false h67]; done) | (simp [define, define1, h4, h11, h15, h21, h41, h67]; done) | rfl) (by first | (simp only [define, define1, eq_false h4, eq_false h11, eq_false h15, eq_true h21, eq_false h41, eq_false h67, if_true, if_false]; done) | (simp [define, define1, eq_false h4, eq_false h11, eq_false h15, eq_true h21, eq_false h41, eq_false h67]; done) | (simp [define, define1, h4, h11, h15, h21, h41, h67]; done) | rfl)
            · skip
              refine lv_iconst (v := (-1)) X.1.1 X.1.2.1 d_mm_define_70 rfl ?_
              exact X.iret hr hlk d_mm_define_71 (by first | (simp only [define, define1, eq_false h4, eq_false h11, eq_false h15, eq_true h21, eq_false h41, eq_true h67, if_true, if_false]; done) | (simp [define, define1, eq_false h4, eq_false h11, eq_false h15, eq_true h21, eq_false h41, eq_true h67]; done) | (simp [define, define1, h4, h11, h15, h21, h41, h67]; done) | rfl) (by first | (simp only [define, define1, eq_false h4, eq_false h11, eq_false h15, eq_true h21, eq_false h41, eq_true h67, if_true, if_false]; done) | (simp [define, define1, eq_false h4, eq_false h11, eq_false h15, eq_true h21, eq_false h41, eq_true h67]; done) | (simp [define, define1, h4, h11, h15, h21, h41, h67]; done) | rfl)
          · skip
            refine lv_iconst (v := (-1)) X.1.1 X.1.2.1 d_mm_define_44 rfl ?_
            exact X.iret hr hlk d_mm_define_45 (by first | (simp only [define, define1, eq_false h4, eq_false h11, eq_false h15, eq_true h21, eq_true h41, if_true, if_false]; done) | (simp [define, define1, eq_false h4, eq_false h11, eq_false h15, eq_true h21, eq_true h41]; done) | (simp [define, define1, h4, h11, h15, h21, h41]; done) | rfl) (by first | (simp only [define, define1, eq_false h4, eq_false h11, eq_false h15, eq_true h21, eq_true h41, if_true, if_false]; done) | (simp [define, define1, eq_false h4, eq_false h11, eq_false h15, eq_true h21, eq_true h41]; done) | (simp [define, define1, h4, h11, h15, h21, h41]; done) | rfl)
        · skip
          refine lv_iconst (v := (-1)) X.1.1 X.1.2.1 d_mm_define_24 rfl ?_
          exact X.iret hr hlk d_mm_define_25 (by first | (simp only [define, define1, eq_false h4, eq_false h11, eq_false h15, eq_false h21, if_true, if_false]; done) | (simp [define, define1, eq_false h4, eq_false h11, eq_false h15, eq_false h21]; done) | (simp [define, define1, h4, h11, h15, h21]; done) | rfl) (by first | (simp only [define, define1, eq_false h4, eq_false h11, eq_false h15, eq_false h21, if_true, if_false]; done) | (simp [define, define1, eq_false h4, eq_false h11, eq_false h15, eq_false h21]; done) | (simp [define, define1, h4, h11, h15, h21]; done) | rfl)
set_option maxHeartbeats 4000000 in
theorem c_mm_method {l : Launch} {D : va_G} {ad : Nat → Nat} {ci : Nat → ClassId} (hI : Inj ad) (σ : SS) (c t : Int32) (lo hi : Int64)  : Mi l y_mm_method b_mm_method 7 (some .boolean) ({ frames := 3, cells := 0, slots := 0, locals := 63 } : Room) (EC D ad ci) [.ref (ad 0), .int c, .int t, .long lo, .long hi] σ ((methodF σ c t lo hi).1) ((methodF σ c t lo hi).2) := by
  refine Mi.start pn_mm (Nat.le_of_ble_eq_true rfl) (fun zp ze zs zm zb zt zc ls X hr hlk L => ?_)
  have L : lv_has ls 7 [(0, .ref (ad 0)), (1, .int c), (2, .int t), (3, .long lo), (5, .long hi)] := L
  refine lv_aload_n X.1.1 X.1.2.1 d_mm_method_0 rfl (lv_at L 0 rfl) ?_
  refine lv_iload_n X.1.1 X.1.2.1 d_mm_method_1 rfl (lv_at L 1 rfl) ?_
  refine Mi.callV (k := 1) (c_mm_holdsClass hI _ _) X (gt_V mw_193 mw_195 ms_9 mw_1 mw_196) ok_mm_holdsClass ⟨rfl, rfl, by decide, by decide⟩ (rc_mm X) rfl L.1 rfl (Nat.le_of_ble_eq_true rfl) d_mm_method_2 (fun H locs X => ?_)
  refine lv_if_eq (tgt := 15) X.1.1 X.1.2.1 d_mm_method_5 rfl (fun h5 => ?_) (fun h5 => ?_)
  · skip
    refine lv_iconst (v := 0) X.1.1 X.1.2.1 d_mm_method_15 rfl ?_
    exact X.zret hr hlk d_mm_method_16 (by first | rfl | assumption) (by first | (simp only [methodF, eq_true h5, if_true, if_false]; done) | (simp [methodF, eq_true h5]; done) | (simp [methodF, h5]; done) | rfl) (by first | (simp only [methodF, eq_true h5, if_true, if_false]; done) | (simp [methodF, eq_true h5]; done) | (simp [methodF, h5]; done) | rfl)
  · skip
    refine lv_iload_n X.1.1 X.1.2.1 d_mm_method_8 rfl (lv_at L 2 rfl) ?_
    refine Mi.callS (k := 1) (c_mm_isSelector hI _ _) X mw_198 mw_199 mw_1 mw_200 ok_mm_isSelector ⟨rfl, rfl, by decide, by decide⟩ rfl L.1 rfl (Nat.le_of_ble_eq_true rfl) d_mm_method_9 (fun H locs X => ?_)
    refine lv_if_ne (tgt := 17) X.1.1 X.1.2.1 d_mm_method_12 rfl (fun h12 => ?_) (fun h12 => ?_)
    · skip
      refine lv_aload_n X.1.1 X.1.2.1 d_mm_method_17 rfl (lv_at L 0 rfl) ?_
      refine g_mm_methods X d_mm_method_18 ?_
      refine lv_aload_n X.1.1 X.1.2.1 d_mm_method_21 rfl (lv_at L 0 rfl) ?_
      refine g_mm_memory X d_mm_method_22 ?_
      refine lv_iload_n X.1.1 X.1.2.1 d_mm_method_25 rfl (lv_at L 1 rfl) ?_
      refine Mi.callV (k := 1) (c_me_register hI _ _ (h7 (holds_in h5))) X (gt_V mw_138 mw_139 mw_140 mw_2 mw_141) ok_me_register ⟨rfl, rfl, by decide, by decide⟩ (rc_me X) rfl L.1 rfl (Nat.le_of_ble_eq_true rfl) d_mm_method_26 (fun H locs X => ?_)
      refine lv_iload_n X.1.1 X.1.2.1 d_mm_method_29 rfl (lv_at L 2 rfl) ?_
      refine lv_lload_n X.1.1 X.1.2.1 d_mm_method_30 rfl (lv_at L 3 rfl) ?_
      refine lv_lload X.1.1 X.1.2.1 d_mm_method_31 (lv_at L 4 rfl) ?_
      refine Mv.callV (k := 4) (c_mt_keep hI _ _ _ _ _ (slot_in (holds_c h5) (isSelector_in h12))) X (gt_V mw_201 mw_202 mw_203 mw_3 mw_204) ok_mt_keep ⟨rfl, rfl, by decide, by decide⟩ (rc_mt X) rfl L.1 rfl (Nat.le_of_ble_eq_true rfl) d_mm_method_33 (fun H locs X => ?_)
      refine lv_iconst (v := 1) X.1.1 X.1.2.1 d_mm_method_36 rfl ?_
      exact X.zret hr hlk d_mm_method_37 (by first | rfl | assumption) (by first | (simp only [methodF, eq_false h5, eq_false h12, if_true, if_false]; done) | (simp [methodF, eq_false h5, eq_false h12]; done) | (simp [methodF, h5, h12]; done) | rfl) (by first | (simp only [methodF, eq_false h5, eq_false h12, if_true, if_false]; done) | (simp [methodF, eq_false h5, eq_false h12]; done) | (simp [methodF, h5, h12]; done) | rfl)
    · skip
      refine lv_iconst (v := 0) X.1.1 X.1.2.1 d_mm_method_15 rfl ?_
      exact X.zret hr hlk d_mm_method_16 (by first | rfl | assumption) (by first | (simp only [methodF, eq_false h5, eq_true h12, if_true, if_false]; done) | (simp [methodF, eq_false h5, eq_true h12]; done) | (simp [methodF, h5, h12]; done) | rfl) (by first | (simp only [methodF, eq_false h5, eq_true h12, if_true, if_false]; done) | (simp [methodF, eq_false h5, eq_true h12]; done) | (simp [methodF, h5, h12]; done) | rfl)
set_option maxHeartbeats 4000000 in
theorem c_mm_make {l : Launch} {D : va_G} {ad : Nat → Nat} {ci : Nat → ClassId} (hI : Inj ad) (σ : SS) (h c : Int32) (hg : RG σ) : Mi l y_mm_make b_mm_make 4 (some .int) ({ frames := 5, cells := 0, slots := 0, locals := 109 } : Room) (EC D ad ci) [.ref (ad 0), .int h, .int c] σ ((make σ h c).1) ((make σ h c).2) := by
  refine Mi.start pn_mm (Nat.le_of_ble_eq_true rfl) (fun zp ze zs zm zb zt zc ls X hr hlk L => ?_)
  have L : lv_has ls 4 [(0, .ref (ad 0)), (1, .int h), (2, .int c)] := L
  refine lv_iload_n X.1.1 X.1.2.1 d_mm_make_0 rfl (lv_at L 1 rfl) ?_
  refine Mi.callS (k := 1) (c_mm_isHandle hI _ _) X mw_135 mw_136 mw_1 mw_137 ok_mm_isHandle ⟨rfl, rfl, by decide, by decide⟩ rfl L.1 rfl (Nat.le_of_ble_eq_true rfl) d_mm_make_1 (fun H locs X => ?_)
  refine lv_if_eq (tgt := 27) X.1.1 X.1.2.1 d_mm_make_4 rfl (fun h4 => ?_) (fun h4 => ?_)
  · skip
    refine lv_iconst (v := (-1)) X.1.1 X.1.2.1 d_mm_make_27 rfl ?_
    exact X.iret hr hlk d_mm_make_28 (by first | (simp only [make, eq_true h4, if_true, if_false]; done) | (simp [make, eq_true h4]; done) | (simp [make, h4]; done) | rfl) (by first | (simp only [make, eq_true h4, if_true, if_false]; done) | (simp [make, eq_true h4]; done) | (simp [make, h4]; done) | rfl)
  · skip
    refine lv_aload_n X.1.1 X.1.2.1 d_mm_make_7 rfl (lv_at L 0 rfl) ?_
    refine lv_iload_n X.1.1 X.1.2.1 d_mm_make_8 rfl (lv_at L 2 rfl) ?_
    refine Mi.callV (k := 1) (c_mm_holdsClass hI _ _) X (gt_V mw_193 mw_195 ms_9 mw_1 mw_196) ok_mm_holdsClass ⟨rfl, rfl, by decide, by decide⟩ (rc_mm X) rfl L.1 rfl (Nat.le_of_ble_eq_true rfl) d_mm_make_9 (fun H locs X => ?_)
    refine lv_if_eq (tgt := 27) X.1.1 X.1.2.1 d_mm_make_12 rfl (fun h12 => ?_) (fun h12 => ?_)
    · skip
      refine lv_iconst (v := (-1)) X.1.1 X.1.2.1 d_mm_make_27 rfl ?_
      exact X.iret hr hlk d_mm_make_28 (by first | (simp only [make, eq_false h4, eq_true h12, if_true, if_false]; done) | (simp [make, eq_false h4, eq_true h12]; done) | (simp [make, h4, h12]; done) | rfl) (by first | (simp only [make, eq_false h4, eq_true h12, if_true, if_false]; done) | (simp [make, eq_false h4, eq_true h12]; done) | (simp [make, h4, h12]; done) | rfl)
    · skip
      refine lv_aload_n X.1.1 X.1.2.1 d_mm_make_15 rfl (lv_at L 0 rfl) ?_
      refine g_mm_memory X d_mm_make_16 ?_
      refine lv_iload_n X.1.1 X.1.2.1 d_mm_make_19 rfl (lv_at L 2 rfl) ?_
      refine Mi.callV (k := 1) (c_me_register hI _ _ (h7 (holds_in h12))) X (gt_V mw_138 mw_139 mw_140 mw_2 mw_141) ok_me_register ⟨rfl, rfl, by decide, by decide⟩ (rc_me X) rfl L.1 rfl (Nat.le_of_ble_eq_true rfl) d_mm_make_20 (fun H locs X => ?_)
      refine lv_iconst (v := 3) X.1.1 X.1.2.1 d_mm_make_23 rfl ?_
      refine lv_icmp_ne (tgt := 29) X.1.1 X.1.2.1 d_mm_make_24 rfl (fun h24 => ?_) (fun h24 => ?_)
      · skip
        refine lv_aload_n X.1.1 X.1.2.1 d_mm_make_29 rfl (lv_at L 0 rfl) ?_
        refine g_mm_memory X d_mm_make_30 ?_
        refine lv_aload_n X.1.1 X.1.2.1 d_mm_make_33 rfl (lv_at L 0 rfl) ?_
        refine g_mm_memory X d_mm_make_34 ?_
        refine lv_iload_n X.1.1 X.1.2.1 d_mm_make_37 rfl (lv_at L 2 rfl) ?_
        refine Mi.callV (k := 1) (c_me_register hI _ _ (h7 (holds_in h12))) X (gt_V mw_138 mw_139 mw_140 mw_2 mw_141) ok_me_register ⟨rfl, rfl, by decide, by decide⟩ (rc_me X) rfl L.1 rfl (Nat.le_of_ble_eq_true rfl) d_mm_make_38 (fun H locs X => ?_)
        refine Mi.callV (k := 1) (c_me_newInstance hI _ _ (holds_c h12)) X (gt_V mw_209 mw_210 mw_211 mw_2 mw_212) ok_me_newInstance ⟨rfl, rfl, by decide, by decide⟩ (rc_me X) rfl L.1 rfl (Nat.le_of_ble_eq_true rfl) d_mm_make_41 (fun H locs X => ?_)
        refine lv_istore_n (lv' := [(3, .int _), (0, .ref _), (1, .int _), (2, .int _)]) X.1.1 X.1.2.1 d_mm_make_44 rfl L (by decide) rfl (fun ls L => ?_)
        refine lv_iload_n X.1.1 X.1.2.1 d_mm_make_45 rfl (lv_at L 0 rfl) ?_
        refine lv_iconst (v := (-1)) X.1.1 X.1.2.1 d_mm_make_46 rfl ?_
        refine lv_icmp_ne (tgt := 52) X.1.1 X.1.2.1 d_mm_make_47 rfl (fun h47 => ?_) (fun h47 => ?_)
        · skip
          refine lv_aload_n X.1.1 X.1.2.1 d_mm_make_52 rfl (lv_at L 1 rfl) ?_
          refine lv_iload_n X.1.1 X.1.2.1 d_mm_make_53 rfl (lv_at L 2 rfl) ?_
          refine lv_iload_n X.1.1 X.1.2.1 d_mm_make_54 rfl (lv_at L 0 rfl) ?_
          refine Mv.callV (k := 2) (c_mm_giveHandle hI _ _ _ (isHandle_in h4) (RG_newInstance hg (holds_c h12)) (vp_nn (leastFree_in h47))) X (gt_V mw_169 mw_171 ms_6 mw_1 mw_172) ok_mm_giveHandle ⟨rfl, rfl, by decide, by decide⟩ (rc_mm X) rfl L.1 rfl (Nat.le_of_ble_eq_true rfl) d_mm_make_55 (fun H locs X => ?_)
          refine lv_iload_n X.1.1 X.1.2.1 d_mm_make_58 rfl (lv_at L 0 rfl) ?_
          exact X.iret hr hlk d_mm_make_59 (by first | (simp only [make, eq_false h4, eq_false h12, eq_false h24, eq_false h47, if_true, if_false]; done) | (simp [make, eq_false h4, eq_false h12, eq_false h24, eq_false h47]; done) | (simp [make, h4, h12, h24, h47]; done) | rfl) (by first | (simp only [make, eq_false h4, eq_false h12, eq_false h24, eq_false h47, if_true, if_false]; done) | (simp [make, eq_false h4, eq_false h12, eq_false h24, eq_false h47]; done) | (simp [make, h4, h12, h24, h47]; done) | rfl)
        · skip
          refine lv_iconst (v := (-1)) X.1.1 X.1.2.1 d_mm_make_50 rfl ?_
          exact X.iret hr hlk d_mm_make_51 (by first | (simp only [make, eq_false h4, eq_false h12, eq_false h24, eq_true h47, if_true, if_false]; done) | (simp [make, eq_false h4, eq_false h12, eq_false h24, eq_true h47]; done) | (simp [make, h4, h12, h24, h47]; done) | rfl) (by first | (simp only [make, eq_false h4, eq_false h12, eq_false h24, eq_true h47, if_true, if_false]; done) | (simp [make, eq_false h4, eq_false h12, eq_false h24, eq_true h47]; done) | (simp [make, h4, h12, h24, h47]; done) | rfl)
      · skip
        refine lv_iconst (v := (-1)) X.1.1 X.1.2.1 d_mm_make_27 rfl ?_
        exact X.iret hr hlk d_mm_make_28 (by first | (simp only [make, eq_false h4, eq_false h12, eq_true h24, if_true, if_false]; done) | (simp [make, eq_false h4, eq_false h12, eq_true h24]; done) | (simp [make, h4, h12, h24]; done) | rfl) (by first | (simp only [make, eq_false h4, eq_false h12, eq_true h24, if_true, if_false]; done) | (simp [make, eq_false h4, eq_false h12, eq_true h24]; done) | (simp [make, h4, h12, h24]; done) | rfl)
set_option maxHeartbeats 4000000 in
theorem c_mm_number {l : Launch} {D : va_G} {ad : Nat → Nat} {ci : Nat → ClassId} (hI : Inj ad) (σ : SS) (h v : Int32) (hg : RG σ) : Mi l y_mm_number b_mm_number 3 (some .boolean) ({ frames := 5, cells := 0, slots := 0, locals := 109 } : Room) (EC D ad ci) [.ref (ad 0), .int h, .int v] σ ((number σ h v).1) ((number σ h v).2) := by
  refine Mi.start pn_mm (Nat.le_of_ble_eq_true rfl) (fun zp ze zs zm zb zt zc ls X hr hlk L => ?_)
  have L : lv_has ls 3 [(0, .ref (ad 0)), (1, .int h), (2, .int v)] := L
  refine lv_iload_n X.1.1 X.1.2.1 d_mm_number_0 rfl (lv_at L 1 rfl) ?_
  refine Mi.callS (k := 1) (c_mm_isHandle hI _ _) X mw_135 mw_136 mw_1 mw_137 ok_mm_isHandle ⟨rfl, rfl, by decide, by decide⟩ rfl L.1 rfl (Nat.le_of_ble_eq_true rfl) d_mm_number_1 (fun H locs X => ?_)
  refine lv_if_eq (tgt := 21) X.1.1 X.1.2.1 d_mm_number_4 rfl (fun h4 => ?_) (fun h4 => ?_)
  · skip
    refine lv_iconst (v := 0) X.1.1 X.1.2.1 d_mm_number_21 rfl ?_
    exact X.zret hr hlk d_mm_number_22 (by first | rfl | assumption) (by first | (simp only [number, eq_true h4, if_true, if_false]; done) | (simp [number, eq_true h4]; done) | (simp [number, h4]; done) | rfl) (by first | (simp only [number, eq_true h4, if_true, if_false]; done) | (simp [number, eq_true h4]; done) | (simp [number, h4]; done) | rfl)
  · skip
    refine lv_iload_n X.1.1 X.1.2.1 d_mm_number_7 rfl (lv_at L 2 rfl) ?_
    refine lv_sipush (v := (-512)) X.1.1 X.1.2.1 d_mm_number_8 rfl ?_
    refine lv_icmp_lt (tgt := 21) X.1.1 X.1.2.1 d_mm_number_11 rfl (fun h11 => ?_) (fun h11 => ?_)
    · skip
      refine lv_iconst (v := 0) X.1.1 X.1.2.1 d_mm_number_21 rfl ?_
      exact X.zret hr hlk d_mm_number_22 (by first | rfl | assumption) (by first | (simp only [number, eq_false h4, eq_true h11, if_true, if_false]; done) | (simp [number, eq_false h4, eq_true h11]; done) | (simp [number, h4, h11]; done) | rfl) (by first | (simp only [number, eq_false h4, eq_true h11, if_true, if_false]; done) | (simp [number, eq_false h4, eq_true h11]; done) | (simp [number, h4, h11]; done) | rfl)
    · skip
      refine lv_iload_n X.1.1 X.1.2.1 d_mm_number_14 rfl (lv_at L 2 rfl) ?_
      refine lv_sipush (v := 511) X.1.1 X.1.2.1 d_mm_number_15 rfl ?_
      refine lv_icmp_le (tgt := 23) X.1.1 X.1.2.1 d_mm_number_18 rfl (fun h18 => ?_) (fun h18 => ?_)
      · skip
        refine lv_aload_n X.1.1 X.1.2.1 d_mm_number_23 rfl (lv_at L 0 rfl) ?_
        refine lv_iload_n X.1.1 X.1.2.1 d_mm_number_24 rfl (lv_at L 1 rfl) ?_
        refine lv_sipush (v := 1000) X.1.1 X.1.2.1 d_mm_number_25 rfl ?_
        refine lv_iload_n X.1.1 X.1.2.1 d_mm_number_28 rfl (lv_at L 2 rfl) ?_
        refine lv_iadd X.1.1 X.1.2.1 d_mm_number_29 ?_
        refine Mv.callV (k := 2) (c_mm_giveHandle hI _ _ _ (isHandle_in h4) hg (num_nn h11 h18)) X (gt_V mw_169 mw_171 ms_6 mw_1 mw_172) ok_mm_giveHandle ⟨rfl, rfl, by decide, by decide⟩ (rc_mm X) rfl L.1 rfl (Nat.le_of_ble_eq_true rfl) d_mm_number_30 (fun H locs X => ?_)
        refine lv_iconst (v := 1) X.1.1 X.1.2.1 d_mm_number_33 rfl ?_
        exact X.zret hr hlk d_mm_number_34 (by first | rfl | assumption) (by first | (simp only [number, eq_false h4, eq_false h11, eq_true h18, if_true, if_false]; done) | (simp [number, eq_false h4, eq_false h11, eq_true h18]; done) | (simp [number, h4, h11, h18]; done) | rfl) (by first | (simp only [number, eq_false h4, eq_false h11, eq_true h18, if_true, if_false]; done) | (simp [number, eq_false h4, eq_false h11, eq_true h18]; done) | (simp [number, h4, h11, h18]; done) | rfl)
      · skip
        refine lv_iconst (v := 0) X.1.1 X.1.2.1 d_mm_number_21 rfl ?_
        exact X.zret hr hlk d_mm_number_22 (by first | rfl | assumption) (by first | (simp only [number, eq_false h4, eq_false h11, eq_false h18, if_true, if_false]; done) | (simp [number, eq_false h4, eq_false h11, eq_false h18]; done) | (simp [number, h4, h11, h18]; done) | rfl) (by first | (simp only [number, eq_false h4, eq_false h11, eq_false h18, if_true, if_false]; done) | (simp [number, eq_false h4, eq_false h11, eq_false h18]; done) | (simp [number, h4, h11, h18]; done) | rfl)
set_option maxHeartbeats 4000000 in
theorem c_mm_move {l : Launch} {D : va_G} {ad : Nat → Nat} {ci : Nat → ClassId} (hI : Inj ad) (σ : SS) (h g : Int32) (hg : RG σ) : Mi l y_mm_move b_mm_move 3 (some .boolean) ({ frames := 5, cells := 0, slots := 0, locals := 109 } : Room) (EC D ad ci) [.ref (ad 0), .int h, .int g] σ ((move σ h g).1) ((move σ h g).2) := by
  refine Mi.start pn_mm (Nat.le_of_ble_eq_true rfl) (fun zp ze zs zm zb zt zc ls X hr hlk L => ?_)
  have L : lv_has ls 3 [(0, .ref (ad 0)), (1, .int h), (2, .int g)] := L
  refine lv_iload_n X.1.1 X.1.2.1 d_mm_move_0 rfl (lv_at L 1 rfl) ?_
  refine Mi.callS (k := 1) (c_mm_isHandle hI _ _) X mw_135 mw_136 mw_1 mw_137 ok_mm_isHandle ⟨rfl, rfl, by decide, by decide⟩ rfl L.1 rfl (Nat.le_of_ble_eq_true rfl) d_mm_move_1 (fun H locs X => ?_)
  refine lv_if_eq (tgt := 14) X.1.1 X.1.2.1 d_mm_move_4 rfl (fun h4 => ?_) (fun h4 => ?_)
  · skip
    refine lv_iconst (v := 0) X.1.1 X.1.2.1 d_mm_move_14 rfl ?_
    exact X.zret hr hlk d_mm_move_15 (by first | rfl | assumption) (by first | (simp only [move, eq_true h4, if_true, if_false]; done) | (simp [move, eq_true h4]; done) | (simp [move, h4]; done) | rfl) (by first | (simp only [move, eq_true h4, if_true, if_false]; done) | (simp [move, eq_true h4]; done) | (simp [move, h4]; done) | rfl)
  · skip
    refine lv_iload_n X.1.1 X.1.2.1 d_mm_move_7 rfl (lv_at L 2 rfl) ?_
    refine Mi.callS (k := 1) (c_mm_isHandle hI _ _) X mw_135 mw_136 mw_1 mw_137 ok_mm_isHandle ⟨rfl, rfl, by decide, by decide⟩ rfl L.1 rfl (Nat.le_of_ble_eq_true rfl) d_mm_move_8 (fun H locs X => ?_)
    refine lv_if_ne (tgt := 16) X.1.1 X.1.2.1 d_mm_move_11 rfl (fun h11 => ?_) (fun h11 => ?_)
    · skip
      refine lv_aload_n X.1.1 X.1.2.1 d_mm_move_16 rfl (lv_at L 0 rfl) ?_
      refine lv_iload_n X.1.1 X.1.2.1 d_mm_move_17 rfl (lv_at L 1 rfl) ?_
      refine lv_aload_n X.1.1 X.1.2.1 d_mm_move_18 rfl (lv_at L 0 rfl) ?_
      refine g_mm_memory X d_mm_move_19 ?_
      refine lv_iload_n X.1.1 X.1.2.1 d_mm_move_22 rfl (lv_at L 2 rfl) ?_
      refine Mi.callV (k := 1) (c_me_register hI _ _ (h7 (isHandle_in h11))) X (gt_V mw_138 mw_139 mw_140 mw_2 mw_141) ok_me_register ⟨rfl, rfl, by decide, by decide⟩ (rc_me X) rfl L.1 rfl (Nat.le_of_ble_eq_true rfl) d_mm_move_23 (fun H locs X => ?_)
      refine Mv.callV (k := 2) (c_mm_giveHandle hI _ _ _ (isHandle_in h4) hg (hg.reg (h7 (isHandle_in h11)))) X (gt_V mw_169 mw_171 ms_6 mw_1 mw_172) ok_mm_giveHandle ⟨rfl, rfl, by decide, by decide⟩ (rc_mm X) rfl L.1 rfl (Nat.le_of_ble_eq_true rfl) d_mm_move_26 (fun H locs X => ?_)
      refine lv_iconst (v := 1) X.1.1 X.1.2.1 d_mm_move_29 rfl ?_
      exact X.zret hr hlk d_mm_move_30 (by first | rfl | assumption) (by first | (simp only [move, eq_false h4, eq_false h11, if_true, if_false]; done) | (simp [move, eq_false h4, eq_false h11]; done) | (simp [move, h4, h11]; done) | rfl) (by first | (simp only [move, eq_false h4, eq_false h11, if_true, if_false]; done) | (simp [move, eq_false h4, eq_false h11]; done) | (simp [move, h4, h11]; done) | rfl)
    · skip
      refine lv_iconst (v := 0) X.1.1 X.1.2.1 d_mm_move_14 rfl ?_
      exact X.zret hr hlk d_mm_move_15 (by first | rfl | assumption) (by first | (simp only [move, eq_false h4, eq_true h11, if_true, if_false]; done) | (simp [move, eq_false h4, eq_true h11]; done) | (simp [move, h4, h11]; done) | rfl) (by first | (simp only [move, eq_false h4, eq_true h11, if_true, if_false]; done) | (simp [move, eq_false h4, eq_true h11]; done) | (simp [move, h4, h11]; done) | rfl)
set_option maxHeartbeats 4000000 in
theorem c_mm_drop {l : Launch} {D : va_G} {ad : Nat → Nat} {ci : Nat → ClassId} (hI : Inj ad) (σ : SS) (h : Int32) (hg : RG σ) : Mi l y_mm_drop b_mm_drop 2 (some .boolean) ({ frames := 5, cells := 0, slots := 0, locals := 109 } : Room) (EC D ad ci) [.ref (ad 0), .int h] σ ((drop σ h).1) ((drop σ h).2) := by
  refine Mi.start pn_mm (Nat.le_of_ble_eq_true rfl) (fun zp ze zs zm zb zt zc ls X hr hlk L => ?_)
  have L : lv_has ls 2 [(0, .ref (ad 0)), (1, .int h)] := L
  refine lv_iload_n X.1.1 X.1.2.1 d_mm_drop_0 rfl (lv_at L 1 rfl) ?_
  refine Mi.callS (k := 1) (c_mm_isHandle hI _ _) X mw_135 mw_136 mw_1 mw_137 ok_mm_isHandle ⟨rfl, rfl, by decide, by decide⟩ rfl L.1 rfl (Nat.le_of_ble_eq_true rfl) d_mm_drop_1 (fun H locs X => ?_)
  refine lv_if_ne (tgt := 9) X.1.1 X.1.2.1 d_mm_drop_4 rfl (fun h4 => ?_) (fun h4 => ?_)
  · skip
    refine lv_aload_n X.1.1 X.1.2.1 d_mm_drop_9 rfl (lv_at L 0 rfl) ?_
    refine lv_iload_n X.1.1 X.1.2.1 d_mm_drop_10 rfl (lv_at L 1 rfl) ?_
    refine lv_iconst (v := 0) X.1.1 X.1.2.1 d_mm_drop_11 rfl ?_
    refine Mv.callV (k := 2) (c_mm_giveHandle hI _ _ _ (isHandle_in h4) hg (by decide)) X (gt_V mw_169 mw_171 ms_6 mw_1 mw_172) ok_mm_giveHandle ⟨rfl, rfl, by decide, by decide⟩ (rc_mm X) rfl L.1 rfl (Nat.le_of_ble_eq_true rfl) d_mm_drop_12 (fun H locs X => ?_)
    refine lv_iconst (v := 1) X.1.1 X.1.2.1 d_mm_drop_15 rfl ?_
    exact X.zret hr hlk d_mm_drop_16 (by first | rfl | assumption) (by first | (simp only [drop, eq_false h4, if_true, if_false]; done) | (simp [drop, eq_false h4]; done) | (simp [drop, h4]; done) | rfl) (by first | (simp only [drop, eq_false h4, if_true, if_false]; done) | (simp [drop, eq_false h4]; done) | (simp [drop, h4]; done) | rfl)
  · skip
    refine lv_iconst (v := 0) X.1.1 X.1.2.1 d_mm_drop_7 rfl ?_
    exact X.zret hr hlk d_mm_drop_8 (by first | rfl | assumption) (by first | (simp only [drop, eq_true h4, if_true, if_false]; done) | (simp [drop, eq_true h4]; done) | (simp [drop, h4]; done) | rfl) (by first | (simp only [drop, eq_true h4, if_true, if_false]; done) | (simp [drop, eq_true h4]; done) | (simp [drop, h4]; done) | rfl)
set_option maxHeartbeats 4000000 in
theorem c_mm_fetch {l : Launch} {D : va_G} {ad : Nat → Nat} {ci : Nat → ClassId} (hI : Inj ad) (σ : SS) (h g k : Int32) (hg : RG σ) : Mi l y_mm_fetch b_mm_fetch 4 (some .boolean) ({ frames := 5, cells := 0, slots := 0, locals := 109 } : Room) (EC D ad ci) [.ref (ad 0), .int h, .int g, .int k] σ ((fetch σ h g k).1) ((fetch σ h g k).2) := by
  refine Mi.start pn_mm (Nat.le_of_ble_eq_true rfl) (fun zp ze zs zm zb zt zc ls X hr hlk L => ?_)
  have L : lv_has ls 4 [(0, .ref (ad 0)), (1, .int h), (2, .int g), (3, .int k)] := L
  refine lv_iload_n X.1.1 X.1.2.1 d_mm_fetch_0 rfl (lv_at L 1 rfl) ?_
  refine Mi.callS (k := 1) (c_mm_isHandle hI _ _) X mw_135 mw_136 mw_1 mw_137 ok_mm_isHandle ⟨rfl, rfl, by decide, by decide⟩ rfl L.1 rfl (Nat.le_of_ble_eq_true rfl) d_mm_fetch_1 (fun H locs X => ?_)
  refine lv_if_eq (tgt := 33) X.1.1 X.1.2.1 d_mm_fetch_4 rfl (fun h4 => ?_) (fun h4 => ?_)
  · skip
    refine lv_iconst (v := 0) X.1.1 X.1.2.1 d_mm_fetch_33 rfl ?_
    exact X.zret hr hlk d_mm_fetch_34 (by first | rfl | assumption) (by first | (simp only [fetch, eq_true h4, if_true, if_false]; done) | (simp [fetch, eq_true h4]; done) | (simp [fetch, h4]; done) | rfl) (by first | (simp only [fetch, eq_true h4, if_true, if_false]; done) | (simp [fetch, eq_true h4]; done) | (simp [fetch, h4]; done) | rfl)
  · skip
    refine lv_iload_n X.1.1 X.1.2.1 d_mm_fetch_7 rfl (lv_at L 2 rfl) ?_
    refine Mi.callS (k := 1) (c_mm_isHandle hI _ _) X mw_135 mw_136 mw_1 mw_137 ok_mm_isHandle ⟨rfl, rfl, by decide, by decide⟩ rfl L.1 rfl (Nat.le_of_ble_eq_true rfl) d_mm_fetch_8 (fun H locs X => ?_)
    refine lv_if_eq (tgt := 33) X.1.1 X.1.2.1 d_mm_fetch_11 rfl (fun h11 => ?_) (fun h11 => ?_)
    · skip
      refine lv_iconst (v := 0) X.1.1 X.1.2.1 d_mm_fetch_33 rfl ?_
      exact X.zret hr hlk d_mm_fetch_34 (by first | rfl | assumption) (by first | (simp only [fetch, eq_false h4, eq_true h11, if_true, if_false]; done) | (simp [fetch, eq_false h4, eq_true h11]; done) | (simp [fetch, h4, h11]; done) | rfl) (by first | (simp only [fetch, eq_false h4, eq_true h11, if_true, if_false]; done) | (simp [fetch, eq_false h4, eq_true h11]; done) | (simp [fetch, h4, h11]; done) | rfl)
    · skip
      refine lv_aload_n X.1.1 X.1.2.1 d_mm_fetch_14 rfl (lv_at L 0 rfl) ?_
      refine g_mm_memory X d_mm_fetch_15 ?_
      refine lv_aload_n X.1.1 X.1.2.1 d_mm_fetch_18 rfl (lv_at L 0 rfl) ?_
      refine g_mm_memory X d_mm_fetch_19 ?_
      refine lv_iload_n X.1.1 X.1.2.1 d_mm_fetch_22 rfl (lv_at L 2 rfl) ?_
      refine Mi.callV (k := 1) (c_me_register hI _ _ (h7 (isHandle_in h11))) X (gt_V mw_138 mw_139 mw_140 mw_2 mw_141) ok_me_register ⟨rfl, rfl, by decide, by decide⟩ (rc_me X) rfl L.1 rfl (Nat.le_of_ble_eq_true rfl) d_mm_fetch_23 (fun H locs X => ?_)
      refine lv_iload_n X.1.1 X.1.2.1 d_mm_fetch_26 rfl (lv_at L 3 rfl) ?_
      refine Mi.callV (k := 2) (c_me_hasField hI _ _ _) X (gt_V mw_229 mw_230 mw_231 mw_2 mw_232) ok_me_hasField ⟨rfl, rfl, by decide, by decide⟩ (rc_me X) rfl L.1 rfl (Nat.le_of_ble_eq_true rfl) d_mm_fetch_27 (fun H locs X => ?_)
      refine lv_if_ne (tgt := 35) X.1.1 X.1.2.1 d_mm_fetch_30 rfl (fun h30 => ?_) (fun h30 => ?_)
      · skip
        refine lv_aload_n X.1.1 X.1.2.1 d_mm_fetch_35 rfl (lv_at L 0 rfl) ?_
        refine lv_iload_n X.1.1 X.1.2.1 d_mm_fetch_36 rfl (lv_at L 1 rfl) ?_
        refine lv_aload_n X.1.1 X.1.2.1 d_mm_fetch_37 rfl (lv_at L 0 rfl) ?_
        refine g_mm_memory X d_mm_fetch_38 ?_
        refine lv_aload_n X.1.1 X.1.2.1 d_mm_fetch_41 rfl (lv_at L 0 rfl) ?_
        refine g_mm_memory X d_mm_fetch_42 ?_
        refine lv_iload_n X.1.1 X.1.2.1 d_mm_fetch_45 rfl (lv_at L 2 rfl) ?_
        refine Mi.callV (k := 1) (c_me_register hI _ _ (h7 (isHandle_in h11))) X (gt_V mw_138 mw_139 mw_140 mw_2 mw_141) ok_me_register ⟨rfl, rfl, by decide, by decide⟩ (rc_me X) rfl L.1 rfl (Nat.le_of_ble_eq_true rfl) d_mm_fetch_46 (fun H locs X => ?_)
        refine lv_iload_n X.1.1 X.1.2.1 d_mm_fetch_49 rfl (lv_at L 3 rfl) ?_
        refine Mi.callV (k := 2) (c_me_fieldOf hI _ _ _ (hf_o h30) (hf_k hg h30)) X (gt_V mw_233 mw_234 mw_235 mw_2 mw_236) ok_me_fieldOf ⟨rfl, rfl, by decide, by decide⟩ (rc_me X) rfl L.1 rfl (Nat.le_of_ble_eq_true rfl) d_mm_fetch_50 (fun H locs X => ?_)
        refine Mv.callV (k := 2) (c_mm_giveHandle hI _ _ _ (isHandle_in h4) hg (hg.grid (hf_o h30) (hf_k hg h30))) X (gt_V mw_169 mw_171 ms_6 mw_1 mw_172) ok_mm_giveHandle ⟨rfl, rfl, by decide, by decide⟩ (rc_mm X) rfl L.1 rfl (Nat.le_of_ble_eq_true rfl) d_mm_fetch_53 (fun H locs X => ?_)
        refine lv_iconst (v := 1) X.1.1 X.1.2.1 d_mm_fetch_56 rfl ?_
        exact X.zret hr hlk d_mm_fetch_57 (by first | rfl | assumption) (by first | (simp only [fetch, eq_false h4, eq_false h11, eq_false h30, if_true, if_false]; done) | (simp [fetch, eq_false h4, eq_false h11, eq_false h30]; done) | (simp [fetch, h4, h11, h30]; done) | rfl) (by first | (simp only [fetch, eq_false h4, eq_false h11, eq_false h30, if_true, if_false]; done) | (simp [fetch, eq_false h4, eq_false h11, eq_false h30]; done) | (simp [fetch, h4, h11, h30]; done) | rfl)
      · skip
        refine lv_iconst (v := 0) X.1.1 X.1.2.1 d_mm_fetch_33 rfl ?_
        exact X.zret hr hlk d_mm_fetch_34 (by first | rfl | assumption) (by first | (simp only [fetch, eq_false h4, eq_false h11, eq_true h30, if_true, if_false]; done) | (simp [fetch, eq_false h4, eq_false h11, eq_true h30]; done) | (simp [fetch, h4, h11, h30]; done) | rfl) (by first | (simp only [fetch, eq_false h4, eq_false h11, eq_true h30, if_true, if_false]; done) | (simp [fetch, eq_false h4, eq_false h11, eq_true h30]; done) | (simp [fetch, h4, h11, h30]; done) | rfl)
set_option maxHeartbeats 4000000 in
theorem c_mm_kind {l : Launch} {D : va_G} {ad : Nat → Nat} {ci : Nat → ClassId} (hI : Inj ad) (σ : SS) (h g : Int32) (hg : RG σ) : Mi l y_mm_kind b_mm_kind 3 (some .boolean) ({ frames := 5, cells := 0, slots := 0, locals := 109 } : Room) (EC D ad ci) [.ref (ad 0), .int h, .int g] σ ((kind σ h g).1) ((kind σ h g).2) := by
  refine Mi.start pn_mm (Nat.le_of_ble_eq_true rfl) (fun zp ze zs zm zb zt zc ls X hr hlk L => ?_)
  have L : lv_has ls 3 [(0, .ref (ad 0)), (1, .int h), (2, .int g)] := L
  refine lv_iload_n X.1.1 X.1.2.1 d_mm_kind_0 rfl (lv_at L 1 rfl) ?_
  refine Mi.callS (k := 1) (c_mm_isHandle hI _ _) X mw_135 mw_136 mw_1 mw_137 ok_mm_isHandle ⟨rfl, rfl, by decide, by decide⟩ rfl L.1 rfl (Nat.le_of_ble_eq_true rfl) d_mm_kind_1 (fun H locs X => ?_)
  refine lv_if_eq (tgt := 14) X.1.1 X.1.2.1 d_mm_kind_4 rfl (fun h4 => ?_) (fun h4 => ?_)
  · skip
    refine lv_iconst (v := 0) X.1.1 X.1.2.1 d_mm_kind_14 rfl ?_
    exact X.zret hr hlk d_mm_kind_15 (by first | rfl | assumption) (by first | (simp only [kind, eq_true h4, if_true, if_false]; done) | (simp [kind, eq_true h4]; done) | (simp [kind, h4]; done) | rfl) (by first | (simp only [kind, eq_true h4, if_true, if_false]; done) | (simp [kind, eq_true h4]; done) | (simp [kind, h4]; done) | rfl)
  · skip
    refine lv_iload_n X.1.1 X.1.2.1 d_mm_kind_7 rfl (lv_at L 2 rfl) ?_
    refine Mi.callS (k := 1) (c_mm_isHandle hI _ _) X mw_135 mw_136 mw_1 mw_137 ok_mm_isHandle ⟨rfl, rfl, by decide, by decide⟩ rfl L.1 rfl (Nat.le_of_ble_eq_true rfl) d_mm_kind_8 (fun H locs X => ?_)
    refine lv_if_ne (tgt := 16) X.1.1 X.1.2.1 d_mm_kind_11 rfl (fun h11 => ?_) (fun h11 => ?_)
    · skip
      refine lv_aload_n X.1.1 X.1.2.1 d_mm_kind_16 rfl (lv_at L 0 rfl) ?_
      refine lv_iload_n X.1.1 X.1.2.1 d_mm_kind_17 rfl (lv_at L 1 rfl) ?_
      refine lv_aload_n X.1.1 X.1.2.1 d_mm_kind_18 rfl (lv_at L 0 rfl) ?_
      refine g_mm_memory X d_mm_kind_19 ?_
      refine lv_aload_n X.1.1 X.1.2.1 d_mm_kind_22 rfl (lv_at L 0 rfl) ?_
      refine g_mm_memory X d_mm_kind_23 ?_
      refine lv_iload_n X.1.1 X.1.2.1 d_mm_kind_26 rfl (lv_at L 2 rfl) ?_
      refine Mi.callV (k := 1) (c_me_register hI _ _ (h7 (isHandle_in h11))) X (gt_V mw_138 mw_139 mw_140 mw_2 mw_141) ok_me_register ⟨rfl, rfl, by decide, by decide⟩ (rc_me X) rfl L.1 rfl (Nat.le_of_ble_eq_true rfl) d_mm_kind_27 (fun H locs X => ?_)
      refine Mi.callV (k := 1) (c_me_classOfWord hI _ _) X (gt_V mw_241 mw_242 mw_243 mw_2 mw_244) ok_me_classOfWord ⟨rfl, rfl, by decide, by decide⟩ (rc_me X) rfl L.1 rfl (Nat.le_of_ble_eq_true rfl) d_mm_kind_30 (fun H locs X => ?_)
      refine Mv.callV (k := 2) (c_mm_giveHandle hI _ _ _ (isHandle_in h4) hg (cow_nn hg _)) X (gt_V mw_169 mw_171 ms_6 mw_1 mw_172) ok_mm_giveHandle ⟨rfl, rfl, by decide, by decide⟩ (rc_mm X) rfl L.1 rfl (Nat.le_of_ble_eq_true rfl) d_mm_kind_33 (fun H locs X => ?_)
      refine lv_iconst (v := 1) X.1.1 X.1.2.1 d_mm_kind_36 rfl ?_
      exact X.zret hr hlk d_mm_kind_37 (by first | rfl | assumption) (by first | (simp only [kind, eq_false h4, eq_false h11, if_true, if_false]; done) | (simp [kind, eq_false h4, eq_false h11]; done) | (simp [kind, h4, h11]; done) | rfl) (by first | (simp only [kind, eq_false h4, eq_false h11, if_true, if_false]; done) | (simp [kind, eq_false h4, eq_false h11]; done) | (simp [kind, h4, h11]; done) | rfl)
    · skip
      refine lv_iconst (v := 0) X.1.1 X.1.2.1 d_mm_kind_14 rfl ?_
      exact X.zret hr hlk d_mm_kind_15 (by first | rfl | assumption) (by first | (simp only [kind, eq_false h4, eq_true h11, if_true, if_false]; done) | (simp [kind, eq_false h4, eq_true h11]; done) | (simp [kind, h4, h11]; done) | rfl) (by first | (simp only [kind, eq_false h4, eq_true h11, if_true, if_false]; done) | (simp [kind, eq_false h4, eq_true h11]; done) | (simp [kind, h4, h11]; done) | rfl)
set_option maxHeartbeats 4000000 in
theorem c_mm_store {l : Launch} {D : va_G} {ad : Nat → Nat} {ci : Nat → ClassId} (hI : Inj ad) (σ : SS) (g k h : Int32) (hg : RG σ) : Mi l y_mm_store b_mm_store 4 (some .boolean) ({ frames := 4, cells := 0, slots := 0, locals := 87 } : Room) (EC D ad ci) [.ref (ad 0), .int g, .int k, .int h] σ ((store σ g k h).1) ((store σ g k h).2) := by
  refine Mi.start pn_mm (Nat.le_of_ble_eq_true rfl) (fun zp ze zs zm zb zt zc ls X hr hlk L => ?_)
  have L : lv_has ls 4 [(0, .ref (ad 0)), (1, .int g), (2, .int k), (3, .int h)] := L
  refine lv_iload_n X.1.1 X.1.2.1 d_mm_store_0 rfl (lv_at L 3 rfl) ?_
  refine Mi.callS (k := 1) (c_mm_isHandle hI _ _) X mw_135 mw_136 mw_1 mw_137 ok_mm_isHandle ⟨rfl, rfl, by decide, by decide⟩ rfl L.1 rfl (Nat.le_of_ble_eq_true rfl) d_mm_store_1 (fun H locs X => ?_)
  refine lv_if_eq (tgt := 33) X.1.1 X.1.2.1 d_mm_store_4 rfl (fun h4 => ?_) (fun h4 => ?_)
  · skip
    refine lv_iconst (v := 0) X.1.1 X.1.2.1 d_mm_store_33 rfl ?_
    exact X.zret hr hlk d_mm_store_34 (by first | rfl | assumption) (by first | (simp only [store, eq_true h4, if_true, if_false]; done) | (simp [store, eq_true h4]; done) | (simp [store, h4]; done) | rfl) (by first | (simp only [store, eq_true h4, if_true, if_false]; done) | (simp [store, eq_true h4]; done) | (simp [store, h4]; done) | rfl)
  · skip
    refine lv_iload_n X.1.1 X.1.2.1 d_mm_store_7 rfl (lv_at L 1 rfl) ?_
    refine Mi.callS (k := 1) (c_mm_isHandle hI _ _) X mw_135 mw_136 mw_1 mw_137 ok_mm_isHandle ⟨rfl, rfl, by decide, by decide⟩ rfl L.1 rfl (Nat.le_of_ble_eq_true rfl) d_mm_store_8 (fun H locs X => ?_)
    refine lv_if_eq (tgt := 33) X.1.1 X.1.2.1 d_mm_store_11 rfl (fun h11 => ?_) (fun h11 => ?_)
    · skip
      refine lv_iconst (v := 0) X.1.1 X.1.2.1 d_mm_store_33 rfl ?_
      exact X.zret hr hlk d_mm_store_34 (by first | rfl | assumption) (by first | (simp only [store, eq_false h4, eq_true h11, if_true, if_false]; done) | (simp [store, eq_false h4, eq_true h11]; done) | (simp [store, h4, h11]; done) | rfl) (by first | (simp only [store, eq_false h4, eq_true h11, if_true, if_false]; done) | (simp [store, eq_false h4, eq_true h11]; done) | (simp [store, h4, h11]; done) | rfl)
    · skip
      refine lv_aload_n X.1.1 X.1.2.1 d_mm_store_14 rfl (lv_at L 0 rfl) ?_
      refine g_mm_memory X d_mm_store_15 ?_
      refine lv_aload_n X.1.1 X.1.2.1 d_mm_store_18 rfl (lv_at L 0 rfl) ?_
      refine g_mm_memory X d_mm_store_19 ?_
      refine lv_iload_n X.1.1 X.1.2.1 d_mm_store_22 rfl (lv_at L 1 rfl) ?_
      refine Mi.callV (k := 1) (c_me_register hI _ _ (h7 (isHandle_in h11))) X (gt_V mw_138 mw_139 mw_140 mw_2 mw_141) ok_me_register ⟨rfl, rfl, by decide, by decide⟩ (rc_me X) rfl L.1 rfl (Nat.le_of_ble_eq_true rfl) d_mm_store_23 (fun H locs X => ?_)
      refine lv_iload_n X.1.1 X.1.2.1 d_mm_store_26 rfl (lv_at L 2 rfl) ?_
      refine Mi.callV (k := 2) (c_me_hasFreeField hI _ _ _) X (gt_V mw_252 mw_253 mw_254 mw_2 mw_255) ok_me_hasFreeField ⟨rfl, rfl, by decide, by decide⟩ (rc_me X) rfl L.1 rfl (Nat.le_of_ble_eq_true rfl) d_mm_store_27 (fun H locs X => ?_)
      refine lv_if_ne (tgt := 35) X.1.1 X.1.2.1 d_mm_store_30 rfl (fun h30 => ?_) (fun h30 => ?_)
      · skip
        refine lv_aload_n X.1.1 X.1.2.1 d_mm_store_35 rfl (lv_at L 0 rfl) ?_
        refine g_mm_memory X d_mm_store_36 ?_
        refine lv_aload_n X.1.1 X.1.2.1 d_mm_store_39 rfl (lv_at L 0 rfl) ?_
        refine g_mm_memory X d_mm_store_40 ?_
        refine lv_iload_n X.1.1 X.1.2.1 d_mm_store_43 rfl (lv_at L 1 rfl) ?_
        refine Mi.callV (k := 1) (c_me_register hI _ _ (h7 (isHandle_in h11))) X (gt_V mw_138 mw_139 mw_140 mw_2 mw_141) ok_me_register ⟨rfl, rfl, by decide, by decide⟩ (rc_me X) rfl L.1 rfl (Nat.le_of_ble_eq_true rfl) d_mm_store_44 (fun H locs X => ?_)
        refine lv_iload_n X.1.1 X.1.2.1 d_mm_store_47 rfl (lv_at L 2 rfl) ?_
        refine lv_aload_n X.1.1 X.1.2.1 d_mm_store_48 rfl (lv_at L 0 rfl) ?_
        refine g_mm_memory X d_mm_store_49 ?_
        refine lv_iload_n X.1.1 X.1.2.1 d_mm_store_52 rfl (lv_at L 3 rfl) ?_
        refine Mi.callV (k := 1) (c_me_register hI _ _ (h7 (isHandle_in h4))) X (gt_V mw_138 mw_139 mw_140 mw_2 mw_141) ok_me_register ⟨rfl, rfl, by decide, by decide⟩ (rc_me X) rfl L.1 rfl (Nat.le_of_ble_eq_true rfl) d_mm_store_53 (fun H locs X => ?_)
        refine Mv.callV (k := 3) (c_me_setField hI _ _ _ _ (hf_o (hff h30)) (hf_k hg (hff h30)) hg (hg.reg (h7 (isHandle_in h4)))) X (gt_V mw_261 mw_35 mw_36 mw_2 mw_37) ok_me_setField ⟨rfl, rfl, by decide, by decide⟩ (rc_me X) rfl L.1 rfl (Nat.le_of_ble_eq_true rfl) d_mm_store_56 (fun H locs X => ?_)
        refine lv_aload_n X.1.1 X.1.2.1 d_mm_store_59 rfl (lv_at L 0 rfl) ?_
        refine g_mm_memory X d_mm_store_60 ?_
        refine Mv.callV (k := 0) (c_me_settle hI _ (RG_setField hg _ _ (hg.reg (h7 (isHandle_in h4))))) X (gt_V mw_177 mw_178 mw_179 mw_2 mw_180) ok_me_settle ⟨rfl, rfl, by decide, by decide⟩ (rc_me X) rfl L.1 rfl (Nat.le_of_ble_eq_true rfl) d_mm_store_63 (fun H locs X => ?_)
        refine lv_iconst (v := 1) X.1.1 X.1.2.1 d_mm_store_66 rfl ?_
        exact X.zret hr hlk d_mm_store_67 (by first | rfl | assumption) (by first | (simp only [store, eq_false h4, eq_false h11, eq_false h30, if_true, if_false]; done) | (simp [store, eq_false h4, eq_false h11, eq_false h30]; done) | (simp [store, h4, h11, h30]; done) | rfl) (by first | (simp only [store, eq_false h4, eq_false h11, eq_false h30, if_true, if_false]; done) | (simp [store, eq_false h4, eq_false h11, eq_false h30]; done) | (simp [store, h4, h11, h30]; done) | rfl)
      · skip
        refine lv_iconst (v := 0) X.1.1 X.1.2.1 d_mm_store_33 rfl ?_
        exact X.zret hr hlk d_mm_store_34 (by first | rfl | assumption) (by first | (simp only [store, eq_false h4, eq_false h11, eq_true h30, if_true, if_false]; done) | (simp [store, eq_false h4, eq_false h11, eq_true h30]; done) | (simp [store, h4, h11, h30]; done) | rfl) (by first | (simp only [store, eq_false h4, eq_false h11, eq_true h30, if_true, if_false]; done) | (simp [store, eq_false h4, eq_false h11, eq_true h30]; done) | (simp [store, h4, h11, h30]; done) | rfl)
set_option maxHeartbeats 4000000 in
theorem c_mm_inherit {l : Launch} {D : va_G} {ad : Nat → Nat} {ci : Nat → ClassId} (hI : Inj ad) (σ : SS) (c s : Int32) (hg : RG σ) (hs : ∀ r, vp_in r 6 → ¬ isClassOrNil σ (rgs σ r) = 0 → Sup σ (rgs σ r)) : Mi l y_mm_inherit b_mm_inherit 5 (some .boolean) ({ frames := 4, cells := 0, slots := 0, locals := 87 } : Room) (EC D ad ci) [.ref (ad 0), .int c, .int s] σ ((inherit σ c s).1) ((inherit σ c s).2) := by
  refine Mi.start pn_mm (Nat.le_of_ble_eq_true rfl) (fun zp ze zs zm zb zt zc ls X hr hlk L => ?_)
  have L : lv_has ls 5 [(0, .ref (ad 0)), (1, .int c), (2, .int s)] := L
  refine lv_aload_n X.1.1 X.1.2.1 d_mm_inherit_0 rfl (lv_at L 0 rfl) ?_
  refine lv_iload_n X.1.1 X.1.2.1 d_mm_inherit_1 rfl (lv_at L 1 rfl) ?_
  refine Mi.callV (k := 1) (c_mm_holdsClass hI _ _) X (gt_V mw_193 mw_195 ms_9 mw_1 mw_196) ok_mm_holdsClass ⟨rfl, rfl, by decide, by decide⟩ (rc_mm X) rfl L.1 rfl (Nat.le_of_ble_eq_true rfl) d_mm_inherit_2 (fun H locs X => ?_)
  refine lv_if_eq (tgt := 15) X.1.1 X.1.2.1 d_mm_inherit_5 rfl (fun h5 => ?_) (fun h5 => ?_)
  · skip
    refine lv_iconst (v := 0) X.1.1 X.1.2.1 d_mm_inherit_15 rfl ?_
    exact X.zret hr hlk d_mm_inherit_16 (by first | rfl | assumption) (by first | (simp only [inherit, eq_true h5, if_true, if_false]; done) | (simp [inherit, eq_true h5]; done) | (simp [inherit, h5]; done) | rfl) (by first | (simp only [inherit, eq_true h5, if_true, if_false]; done) | (simp [inherit, eq_true h5]; done) | (simp [inherit, h5]; done) | rfl)
  · skip
    refine lv_iload_n X.1.1 X.1.2.1 d_mm_inherit_8 rfl (lv_at L 2 rfl) ?_
    refine Mi.callS (k := 1) (c_mm_isHandle hI _ _) X mw_135 mw_136 mw_1 mw_137 ok_mm_isHandle ⟨rfl, rfl, by decide, by decide⟩ rfl L.1 rfl (Nat.le_of_ble_eq_true rfl) d_mm_inherit_9 (fun H locs X => ?_)
    refine lv_if_ne (tgt := 17) X.1.1 X.1.2.1 d_mm_inherit_12 rfl (fun h12 => ?_) (fun h12 => ?_)
    · skip
      refine lv_aload_n X.1.1 X.1.2.1 d_mm_inherit_17 rfl (lv_at L 0 rfl) ?_
      refine g_mm_memory X d_mm_inherit_18 ?_
      refine lv_iload_n X.1.1 X.1.2.1 d_mm_inherit_21 rfl (lv_at L 1 rfl) ?_
      refine Mi.callV (k := 1) (c_me_register hI _ _ (h7 (holds_in h5))) X (gt_V mw_138 mw_139 mw_140 mw_2 mw_141) ok_me_register ⟨rfl, rfl, by decide, by decide⟩ (rc_me X) rfl L.1 rfl (Nat.le_of_ble_eq_true rfl) d_mm_inherit_22 (fun H locs X => ?_)
      refine lv_istore_n (lv' := [(3, .int _), (0, .ref _), (1, .int _), (2, .int _)]) X.1.1 X.1.2.1 d_mm_inherit_25 rfl L (by decide) rfl (fun ls L => ?_)
      refine lv_aload_n X.1.1 X.1.2.1 d_mm_inherit_26 rfl (lv_at L 1 rfl) ?_
      refine g_mm_memory X d_mm_inherit_27 ?_
      refine lv_iload_n X.1.1 X.1.2.1 d_mm_inherit_30 rfl (lv_at L 3 rfl) ?_
      refine Mi.callV (k := 1) (c_me_register hI _ _ (h7 (isHandle_in h12))) X (gt_V mw_138 mw_139 mw_140 mw_2 mw_141) ok_me_register ⟨rfl, rfl, by decide, by decide⟩ (rc_me X) rfl L.1 rfl (Nat.le_of_ble_eq_true rfl) d_mm_inherit_31 (fun H locs X => ?_)
      refine lv_istore (lv' := [(4, .int _), (3, .int _), (0, .ref _), (1, .int _), (2, .int _)]) X.1.1 X.1.2.1 d_mm_inherit_34 L (by decide) rfl (fun ls L => ?_)
      refine lv_iload_n X.1.1 X.1.2.1 d_mm_inherit_36 rfl (lv_at L 1 rfl) ?_
      refine lv_iconst (v := 4) X.1.1 X.1.2.1 d_mm_inherit_37 rfl ?_
      refine lv_icmp_lt (tgt := 66) X.1.1 X.1.2.1 d_mm_inherit_38 rfl (fun h38 => ?_) (fun h38 => ?_)
      · skip
        refine lv_iconst (v := 0) X.1.1 X.1.2.1 d_mm_inherit_66 rfl ?_
        exact X.zret hr hlk d_mm_inherit_67 (by first | rfl | assumption) (by first | (simp only [inherit, eq_false h5, eq_false h12, eq_true h38, if_true, if_false]; done) | (simp [inherit, eq_false h5, eq_false h12, eq_true h38]; done) | (simp [inherit, h5, h12, h38]; done) | rfl) (by first | (simp only [inherit, eq_false h5, eq_false h12, eq_true h38, if_true, if_false]; done) | (simp [inherit, eq_false h5, eq_false h12, eq_true h38]; done) | (simp [inherit, h5, h12, h38]; done) | rfl)
      · skip
        refine lv_aload_n X.1.1 X.1.2.1 d_mm_inherit_41 rfl (lv_at L 2 rfl) ?_
        refine g_mm_memory X d_mm_inherit_42 ?_
        refine lv_iload X.1.1 X.1.2.1 d_mm_inherit_45 (lv_at L 0 rfl) ?_
        refine Mi.callV (k := 1) (c_me_isClassOrNil hI _ _) X (gt_V mw_142 mw_143 mw_144 mw_2 mw_145) ok_me_isClassOrNil ⟨rfl, rfl, by decide, by decide⟩ (rc_me X) rfl L.1 rfl (Nat.le_of_ble_eq_true rfl) d_mm_inherit_47 (fun H locs X => ?_)
        refine lv_if_eq (tgt := 66) X.1.1 X.1.2.1 d_mm_inherit_50 rfl (fun h50 => ?_) (fun h50 => ?_)
        · skip
          refine lv_iconst (v := 0) X.1.1 X.1.2.1 d_mm_inherit_66 rfl ?_
          exact X.zret hr hlk d_mm_inherit_67 (by first | rfl | assumption) (by first | (simp only [inherit, eq_false h5, eq_false h12, eq_false h38, eq_true h50, if_true, if_false]; done) | (simp [inherit, eq_false h5, eq_false h12, eq_false h38, eq_true h50]; done) | (simp [inherit, h5, h12, h38, h50]; done) | rfl) (by first | (simp only [inherit, eq_false h5, eq_false h12, eq_false h38, eq_true h50, if_true, if_false]; done) | (simp [inherit, eq_false h5, eq_false h12, eq_false h38, eq_true h50]; done) | (simp [inherit, h5, h12, h38, h50]; done) | rfl)
        · skip
          refine lv_aload_n X.1.1 X.1.2.1 d_mm_inherit_53 rfl (lv_at L 2 rfl) ?_
          refine g_mm_memory X d_mm_inherit_54 ?_
          refine lv_iload_n X.1.1 X.1.2.1 d_mm_inherit_57 rfl (lv_at L 1 rfl) ?_
          refine lv_iload X.1.1 X.1.2.1 d_mm_inherit_58 (lv_at L 0 rfl) ?_
          refine Mi.callV (k := 2) (c_me_isAmongSuperclasses hI _ _ _ (hs _ (isHandle_in h12) h50)) X (gt_V mw_266 mw_267 mw_268 mw_2 mw_269) ok_me_isAmongSuperclasses ⟨rfl, rfl, by decide, by decide⟩ (rc_me X) rfl L.1 rfl (Nat.le_of_ble_eq_true rfl) d_mm_inherit_60 (fun H locs X => ?_)
          refine lv_if_eq (tgt := 68) X.1.1 X.1.2.1 d_mm_inherit_63 rfl (fun h63 => ?_) (fun h63 => ?_)
          · skip
            refine lv_aload_n X.1.1 X.1.2.1 d_mm_inherit_68 rfl (lv_at L 2 rfl) ?_
            refine g_mm_memory X d_mm_inherit_69 ?_
            refine lv_iload_n X.1.1 X.1.2.1 d_mm_inherit_72 rfl (lv_at L 1 rfl) ?_
            refine lv_iconst (v := 0) X.1.1 X.1.2.1 d_mm_inherit_73 rfl ?_
            refine lv_iload X.1.1 X.1.2.1 d_mm_inherit_74 (lv_at L 0 rfl) ?_
            refine Mv.callV (k := 3) (c_me_setField hI _ _ _ _ (holds_c h5) (vpc (by decide)) hg (hg.reg (h7 (isHandle_in h12)))) X (gt_V mw_261 mw_35 mw_36 mw_2 mw_37) ok_me_setField ⟨rfl, rfl, by decide, by decide⟩ (rc_me X) rfl L.1 rfl (Nat.le_of_ble_eq_true rfl) d_mm_inherit_76 (fun H locs X => ?_)
            refine lv_aload_n X.1.1 X.1.2.1 d_mm_inherit_79 rfl (lv_at L 2 rfl) ?_
            refine g_mm_memory X d_mm_inherit_80 ?_
            refine Mv.callV (k := 0) (c_me_settle hI _ (RG_setField hg _ _ (hg.reg (h7 (isHandle_in h12))))) X (gt_V mw_177 mw_178 mw_179 mw_2 mw_180) ok_me_settle ⟨rfl, rfl, by decide, by decide⟩ (rc_me X) rfl L.1 rfl (Nat.le_of_ble_eq_true rfl) d_mm_inherit_83 (fun H locs X => ?_)
            refine lv_iconst (v := 1) X.1.1 X.1.2.1 d_mm_inherit_86 rfl ?_
            exact X.zret hr hlk d_mm_inherit_87 (by first | rfl | assumption) (by first | (simp only [inherit, eq_false h5, eq_false h12, eq_false h38, eq_false h50, eq_true h63, if_true, if_false]; done) | (simp [inherit, eq_false h5, eq_false h12, eq_false h38, eq_false h50, eq_true h63]; done) | (simp [inherit, h5, h12, h38, h50, h63]; done) | rfl) (by first | (simp only [inherit, eq_false h5, eq_false h12, eq_false h38, eq_false h50, eq_true h63, if_true, if_false]; done) | (simp [inherit, eq_false h5, eq_false h12, eq_false h38, eq_false h50, eq_true h63]; done) | (simp [inherit, h5, h12, h38, h50, h63]; done) | rfl)
          · skip
            refine lv_iconst (v := 0) X.1.1 X.1.2.1 d_mm_inherit_66 rfl ?_
            exact X.zret hr hlk d_mm_inherit_67 (by first | rfl | assumption) (by first | (simp only [inherit, eq_false h5, eq_false h12, eq_false h38, eq_false h50, eq_false h63, if_true, if_false]; done) | (simp [inherit, eq_false h5, eq_false h12, eq_false h38, eq_false h50, eq_false h63]; done) | (simp [inherit, h5, h12, h38, h50, h63]; done) | rfl) (by first | (simp only [inherit, eq_false h5, eq_false h12, eq_false h38, eq_false h50, eq_false h63, if_true, if_false]; done) | (simp [inherit, eq_false h5, eq_false h12, eq_false h38, eq_false h50, eq_false h63]; done) | (simp [inherit, h5, h12, h38, h50, h63]; done) | rfl)
    · skip
      refine lv_iconst (v := 0) X.1.1 X.1.2.1 d_mm_inherit_15 rfl ?_
      exact X.zret hr hlk d_mm_inherit_16 (by first | rfl | assumption) (by first | (simp only [inherit, eq_false h5, eq_true h12, if_true, if_false]; done) | (simp [inherit, eq_false h5, eq_true h12]; done) | (simp [inherit, h5, h12]; done) | rfl) (by first | (simp only [inherit, eq_false h5, eq_true h12, if_true, if_false]; done) | (simp [inherit, eq_false h5, eq_true h12]; done) | (simp [inherit, h5, h12]; done) | rfl)
set_option maxHeartbeats 4000000 in
theorem c_mm_send {l : Launch} {D : va_G} {ad : Nat → Nat} {ci : Nat → ClassId} (hI : Inj ad) (σ : SS) (h t : Int32) (hg : RG σ) (hz : BZ σ) (hs : ∀ r, vp_in r 6 → Sup σ (classOfWord σ (rgs σ r))) : Mi l y_mm_send b_mm_send 3 (some .boolean) ({ frames := 5, cells := 0, slots := 0, locals := 113 } : Room) (EC D ad ci) [.ref (ad 0), .int h, .int t] σ ((send σ h t).1) ((send σ h t).2) := by
  refine Mi.start pn_mm (Nat.le_of_ble_eq_true rfl) (fun zp ze zs zm zb zt zc ls X hr hlk L => ?_)
  have L : lv_has ls 3 [(0, .ref (ad 0)), (1, .int h), (2, .int t)] := L
  refine lv_aload_n X.1.1 X.1.2.1 d_mm_send_0 rfl (lv_at L 0 rfl) ?_
  refine g_mm_processor X d_mm_send_1 ?_
  refine Mi.callV (k := 0) (c_pr_condition hI _) X (gt_V mw_274 mw_275 mw_276 mw_4 mw_277) ok_pr_condition ⟨rfl, rfl, by decide, by decide⟩ (rc_pr X) rfl L.1 rfl (Nat.le_of_ble_eq_true rfl) d_mm_send_4 (fun H locs X => ?_)
  refine lv_if_ne (tgt := 24) X.1.1 X.1.2.1 d_mm_send_7 rfl (fun h7 => ?_) (fun h7 => ?_)
  · skip
    refine lv_iconst (v := 0) X.1.1 X.1.2.1 d_mm_send_24 rfl ?_
    exact X.zret hr hlk d_mm_send_25 (by first | rfl | exact nar01 (start_01 σ h t)) (by first | (simp only [send, eq_false h7, if_true, if_false]; done) | (simp [send, eq_false h7]; done) | (simp [send, h7]; done) | rfl) (by first | (simp only [send, eq_false h7, if_true, if_false]; done) | (simp [send, eq_false h7]; done) | (simp [send, h7]; done) | rfl)
  · skip
    refine lv_iload_n X.1.1 X.1.2.1 d_mm_send_10 rfl (lv_at L 1 rfl) ?_
    refine Mi.callS (k := 1) (c_mm_isHandle hI _ _) X mw_135 mw_136 mw_1 mw_137 ok_mm_isHandle ⟨rfl, rfl, by decide, by decide⟩ rfl L.1 rfl (Nat.le_of_ble_eq_true rfl) d_mm_send_11 (fun H locs X => ?_)
    refine lv_if_eq (tgt := 24) X.1.1 X.1.2.1 d_mm_send_14 rfl (fun h14 => ?_) (fun h14 => ?_)
    · skip
      refine lv_iconst (v := 0) X.1.1 X.1.2.1 d_mm_send_24 rfl ?_
      exact X.zret hr hlk d_mm_send_25 (by first | rfl | exact nar01 (start_01 σ h t)) (by first | (simp only [send, eq_true h7, eq_true h14, if_true, if_false]; done) | (simp [send, eq_true h7, eq_true h14]; done) | (simp [send, h7, h14]; done) | rfl) (by first | (simp only [send, eq_true h7, eq_true h14, if_true, if_false]; done) | (simp [send, eq_true h7, eq_true h14]; done) | (simp [send, h7, h14]; done) | rfl)
    · skip
      refine lv_iload_n X.1.1 X.1.2.1 d_mm_send_17 rfl (lv_at L 2 rfl) ?_
      refine Mi.callS (k := 1) (c_mm_isSelector hI _ _) X mw_198 mw_199 mw_1 mw_200 ok_mm_isSelector ⟨rfl, rfl, by decide, by decide⟩ rfl L.1 rfl (Nat.le_of_ble_eq_true rfl) d_mm_send_18 (fun H locs X => ?_)
      refine lv_if_ne (tgt := 26) X.1.1 X.1.2.1 d_mm_send_21 rfl (fun h21 => ?_) (fun h21 => ?_)
      · skip
        refine lv_aload_n X.1.1 X.1.2.1 d_mm_send_26 rfl (lv_at L 0 rfl) ?_
        refine g_mm_processor X d_mm_send_27 ?_
        refine lv_iload_n X.1.1 X.1.2.1 d_mm_send_30 rfl (lv_at L 1 rfl) ?_
        refine lv_iload_n X.1.1 X.1.2.1 d_mm_send_31 rfl (lv_at L 2 rfl) ?_
        refine Mi.callV (k := 2) (c_pr_start hI _ _ _ (isHandle_in h14) (isSelector_in h21) hg hz (hs _ (isHandle_in h14))) X (gt_V mw_279 mw_280 mw_281 mw_4 mw_282) ok_pr_start ⟨rfl, rfl, by decide, by decide⟩ (rc_pr X) rfl L.1 rfl (Nat.le_of_ble_eq_true rfl) d_mm_send_32 (fun H locs X => ?_)
        exact X.zret hr hlk d_mm_send_35 (by first | rfl | exact nar01 (start_01 σ h t)) (by first | (simp only [send, eq_true h7, eq_false h14, eq_false h21, if_true, if_false]; done) | (simp [send, eq_true h7, eq_false h14, eq_false h21]; done) | (simp [send, h7, h14, h21]; done) | rfl) (by first | (simp only [send, eq_true h7, eq_false h14, eq_false h21, if_true, if_false]; done) | (simp [send, eq_true h7, eq_false h14, eq_false h21]; done) | (simp [send, h7, h14, h21]; done) | rfl)
      · skip
        refine lv_iconst (v := 0) X.1.1 X.1.2.1 d_mm_send_24 rfl ?_
        exact X.zret hr hlk d_mm_send_25 (by first | rfl | exact nar01 (start_01 σ h t)) (by first | (simp only [send, eq_true h7, eq_false h14, eq_true h21, if_true, if_false]; done) | (simp [send, eq_true h7, eq_false h14, eq_true h21]; done) | (simp [send, h7, h14, h21]; done) | rfl) (by first | (simp only [send, eq_true h7, eq_false h14, eq_true h21, if_true, if_false]; done) | (simp [send, eq_true h7, eq_false h14, eq_true h21]; done) | (simp [send, h7, h14, h21]; done) | rfl)
set_option maxHeartbeats 4000000 in
theorem c_mm_run {l : Launch} {D : va_G} {ad : Nat → Nat} {ci : Nat → ClassId} (hI : Inj ad) (σ : SS) (I : SS → Prop) (w : Int32) (i1 : ∀ τ, I τ → condition τ = 1 → ByOk τ) (i2 : ∀ τ, I τ → condition τ = 1 → I (doByte τ).2) (i0 : I σ) : Mi l y_mm_run b_mm_run 3 (some .int) ({ frames := 6, cells := 0, slots := 0, locals := 146 } : Room) (EC D ad ci) [.ref (ad 0), .int w] σ ((run σ w).1) ((run σ w).2) := by
  refine Mi.start pn_mm (Nat.le_of_ble_eq_true rfl) (fun zp ze zs zm zb zt zc ls X hr hlk L => ?_)
  have L : lv_has ls 3 [(0, .ref (ad 0)), (1, .int w)] := L
  refine lv_iload_n X.1.1 X.1.2.1 d_mm_run_0 rfl (lv_at L 1 rfl) ?_
  refine lv_if_lt (tgt := 11) X.1.1 X.1.2.1 d_mm_run_1 rfl (fun h1 => ?_) (fun h1 => ?_)
  · skip
    refine lv_iconst (v := (-1)) X.1.1 X.1.2.1 d_mm_run_11 rfl ?_
    exact X.iret hr hlk d_mm_run_12 (by first | (simp only [run, eq_true h1, if_true, if_false]; done) | (simp [run, eq_true h1]; done) | (simp [run, h1]; done) | rfl) (by first | (simp only [run, eq_true h1, if_true, if_false]; done) | (simp [run, eq_true h1]; done) | (simp [run, h1]; done) | rfl)
  · skip
    refine lv_iload_n X.1.1 X.1.2.1 d_mm_run_4 rfl (lv_at L 1 rfl) ?_
    refine lv_sipush (v := 500) X.1.1 X.1.2.1 d_mm_run_5 rfl ?_
    refine lv_icmp_le (tgt := 13) X.1.1 X.1.2.1 d_mm_run_8 rfl (fun h8 => ?_) (fun h8 => ?_)
    · skip
      refine lv_iconst (v := 0) X.1.1 X.1.2.1 d_mm_run_13 rfl ?_
      refine lv_istore_n (lv' := [(2, .int _), (0, .ref _), (1, .int _)]) X.1.1 X.1.2.1 d_mm_run_14 rfl L (by decide) rfl (fun ls L => ?_)
      have ew0 : 0 ≤ w.toInt := by rw [ilt0] at h1; omega
      have ew : nI (ix w) = w := ix_back ew0
      have ew5 : ix w ≤ 500 := ix_le (by rw [Int32.le_iff_toInt_le, show (500 : Int32).toInt = 500 from rfl] at h8; exact h8)
      have loop15 : ∀ (n : Nat) (k : Nat) (σ1 : SS) (H : Heap) (locs : List Loc) (ls : Array Slot), (k + n = ix w) → (I σ1) → (runL n k σ1 = run σ w) → Cx (EC D ad ci) zp zs zm (([.ref (ad 0), .int w] : List Value).toArray) zc b_mm_run 3 "MessageMachine" H locs σ1 → lv_has ls 3 [(2, .int (nI k)), (0, .ref (ad 0)), (1, .int w)] → W zp l ze ({ frames := 6, cells := 0, slots := 0, locals := 146 } : Room) zs zm (([.ref (ad 0), .int w] : List Value).toArray) zb zt zc H locs 0 0 (MQ zb (va_Qi (fun (x : Int32) (u : SS) => x = ((run σ w).1) ∧ u = ((run σ w).2)) (fun u t => Pq (EC D ad ci) u t) (EC D ad ci).2.2.2) (([.ref (ad 0), .int w] : List Value).toArray) zs 0 0 (EC D ad ci).2.2.2) (F0 zm 15 ls []) := by
        intro n
        induction n with
        | zero =>
          intro k σ1 H locs ls hk hI1 hq X L
          have e8 : w = nI k := by rw [show k = ix w by omega]; exact ew.symm
          refine lv_iload_n X.1.1 X.1.2.1 d_mm_run_15 rfl (lv_at L 0 rfl) ?_
          refine lv_iload_n X.1.1 X.1.2.1 d_mm_run_16 rfl (lv_at L 2 rfl) ?_
          refine lv_icmp_ge (tgt := 47) X.1.1 X.1.2.1 d_mm_run_17 rfl (fun h17 => ?_) (fun h17 => ?_)
          · skip
            refine lv_iload_n X.1.1 X.1.2.1 d_mm_run_47 rfl (lv_at L 0 rfl) ?_
            exact X.iret hr hlk d_mm_run_48 (congrArg Prod.fst hq) (congrArg Prod.snd hq)
          · skip
            exact absurd (by rw [e8]; exact Int32.le_refl _) h17
        | succ n ih =>
          intro k σ1 H locs ls hk hI1 hq X L
          have e8 : ¬ w ≤ nI k := by rw [← ew, nI_leI (by omega) (by omega)]; omega
          refine lv_iload_n X.1.1 X.1.2.1 d_mm_run_15 rfl (lv_at L 0 rfl) ?_
          refine lv_iload_n X.1.1 X.1.2.1 d_mm_run_16 rfl (lv_at L 2 rfl) ?_
          refine lv_icmp_ge (tgt := 47) X.1.1 X.1.2.1 d_mm_run_17 rfl (fun h17 => ?_) (fun h17 => ?_)
          · skip
            exact absurd h17 e8
          · skip
            refine lv_aload_n X.1.1 X.1.2.1 d_mm_run_20 rfl (lv_at L 1 rfl) ?_
            refine g_mm_processor X d_mm_run_21 ?_
            refine Mi.callV (k := 0) (c_pr_condition hI _) X (gt_V mw_274 mw_275 mw_276 mw_4 mw_277) ok_pr_condition ⟨rfl, rfl, by decide, by decide⟩ (rc_pr X) rfl L.1 rfl (Nat.le_of_ble_eq_true rfl) d_mm_run_24 (fun H locs X => ?_)
            refine lv_iconst (v := 1) X.1.1 X.1.2.1 d_mm_run_27 rfl ?_
            refine lv_icmp_ne (tgt := 47) X.1.1 X.1.2.1 d_mm_run_28 rfl (fun h28 => ?_) (fun h28 => ?_)
            · skip
              refine lv_iload_n X.1.1 X.1.2.1 d_mm_run_47 rfl (lv_at L 0 rfl) ?_
              exact X.iret hr hlk d_mm_run_48 (by rw [← hq, runL]; simp only [eq_false h17, eq_false h28, if_true, if_false]) (by rw [← hq, runL]; simp only [eq_false h17, eq_false h28, if_true, if_false])
            · skip
              refine lv_aload_n X.1.1 X.1.2.1 d_mm_run_31 rfl (lv_at L 1 rfl) ?_
              refine g_mm_processor X d_mm_run_32 ?_
              refine Mi.callV (k := 0) (c_pr_doByte hI _ (i1 _ hI1 h28).1 (i1 _ hI1 h28).2.1 (i1 _ hI1 h28).2.2.1 (i1 _ hI1 h28).2.2.2) X (gt_V mw_307 mw_308 mw_309 mw_4 mw_310) ok_pr_doByte ⟨rfl, rfl, by decide, by decide⟩ (rc_pr X) rfl L.1 rfl (Nat.le_of_ble_eq_true rfl) d_mm_run_35 (fun H locs X => ?_)
              refine lv_if_eq (tgt := 47) X.1.1 X.1.2.1 d_mm_run_38 rfl (fun h38 => ?_) (fun h38 => ?_)
              · skip
                refine lv_iload_n X.1.1 X.1.2.1 d_mm_run_47 rfl (lv_at L 0 rfl) ?_
                exact X.iret hr hlk d_mm_run_48 (by rw [← hq, runL]; simp only [eq_false h17, eq_true h28, eq_true h38, if_true, if_false]) (by rw [← hq, runL]; simp only [eq_false h17, eq_true h28, eq_true h38, if_true, if_false])
              · skip
                refine lv_iinc (k := 0) (lv' := [(2, .int (nI (k + 1))), (0, .ref _), (1, .int _)]) X.1.1 X.1.2.1 d_mm_run_41 L rfl (nI_inc k) (by decide) rfl (fun ls L => ?_)
                refine lv_goto (tgt := 15) X.1.1 X.1.2.1 d_mm_run_44 rfl ?_
                exact ih (k + 1) _ _ _ _ (by omega) (i2 _ hI1 h28) (by rw [← hq, runL]; simp only [eq_false h17, eq_true h28, eq_false h38, if_true, if_false]) X L
      exact loop15 (ix w) 0 σ _ _ _ (by omega) i0 (by rw [run, if_neg h1, if_pos h8]) X L
    · skip
      refine lv_iconst (v := (-1)) X.1.1 X.1.2.1 d_mm_run_11 rfl ?_
      exact X.iret hr hlk d_mm_run_12 (by first | (simp only [run, eq_false h1, eq_false h8, if_true, if_false]; done) | (simp [run, eq_false h1, eq_false h8]; done) | (simp [run, h1, h8]; done) | rfl) (by first | (simp only [run, eq_false h1, eq_false h8, if_true, if_false]; done) | (simp [run, eq_false h1, eq_false h8]; done) | (simp [run, h1, h8]; done) | rfl)
set_option maxHeartbeats 4000000 in
theorem c_mm_abort {l : Launch} {D : va_G} {ad : Nat → Nat} {ci : Nat → ClassId} (hI : Inj ad) (σ : SS)  (hg : RG σ) : Mi l y_mm_abort b_mm_abort 1 (some .boolean) ({ frames := 5, cells := 0, slots := 0, locals := 107 } : Room) (EC D ad ci) [.ref (ad 0)] σ ((abort σ).1) ((abort σ).2) := by
  refine Mi.start pn_mm (Nat.le_of_ble_eq_true rfl) (fun zp ze zs zm zb zt zc ls X hr hlk L => ?_)
  have L : lv_has ls 1 [(0, .ref (ad 0))] := L
  refine lv_aload_n X.1.1 X.1.2.1 d_mm_abort_0 rfl (lv_at L 0 rfl) ?_
  refine g_mm_processor X d_mm_abort_1 ?_
  refine Mi.callV (k := 0) (c_pr_condition hI _) X (gt_V mw_274 mw_275 mw_276 mw_4 mw_277) ok_pr_condition ⟨rfl, rfl, by decide, by decide⟩ (rc_pr X) rfl L.1 rfl (Nat.le_of_ble_eq_true rfl) d_mm_abort_4 (fun H locs X => ?_)
  refine lv_if_ne (tgt := 12) X.1.1 X.1.2.1 d_mm_abort_7 rfl (fun h7 => ?_) (fun h7 => ?_)
  · skip
    refine lv_aload_n X.1.1 X.1.2.1 d_mm_abort_12 rfl (lv_at L 0 rfl) ?_
    refine g_mm_processor X d_mm_abort_13 ?_
    refine Mv.callV (k := 0) (c_pr_stop hI _ hg) X (gt_V mw_438 mw_439 mw_440 mw_4 mw_441) ok_pr_stop ⟨rfl, rfl, by decide, by decide⟩ (rc_pr X) rfl L.1 rfl (Nat.le_of_ble_eq_true rfl) d_mm_abort_16 (fun H locs X => ?_)
    refine lv_iconst (v := 1) X.1.1 X.1.2.1 d_mm_abort_19 rfl ?_
    exact X.zret hr hlk d_mm_abort_20 (by first | rfl | assumption) (by first | (simp only [abort, eq_false h7, if_true, if_false]; done) | (simp [abort, eq_false h7]; done) | (simp [abort, h7]; done) | rfl) (by first | (simp only [abort, eq_false h7, if_true, if_false]; done) | (simp [abort, eq_false h7]; done) | (simp [abort, h7]; done) | rfl)
  · skip
    refine lv_iconst (v := 0) X.1.1 X.1.2.1 d_mm_abort_10 rfl ?_
    exact X.zret hr hlk d_mm_abort_11 (by first | rfl | assumption) (by first | (simp only [abort, eq_true h7, if_true, if_false]; done) | (simp [abort, eq_true h7]; done) | (simp [abort, h7]; done) | rfl) (by first | (simp only [abort, eq_true h7, if_true, if_false]; done) | (simp [abort, eq_true h7]; done) | (simp [abort, h7]; done) | rfl)
set_option maxHeartbeats 4000000 in
theorem c_mm_sweep {l : Launch} {D : va_G} {ad : Nat → Nat} {ci : Nat → ClassId} (hI : Inj ad) (σ : SS)  (hg : RG σ) : Mi l y_mm_sweep b_mm_sweep 1 (some .int) ({ frames := 5, cells := 0, slots := 0, locals := 106 } : Room) (EC D ad ci) [.ref (ad 0)] σ ((unr σ).2) (sweepS σ) := by
  refine Mi.start pn_mm (Nat.le_of_ble_eq_true rfl) (fun zp ze zs zm zb zt zc ls X hr hlk L => ?_)
  have L : lv_has ls 1 [(0, .ref (ad 0))] := L
  refine lv_aload_n X.1.1 X.1.2.1 d_mm_sweep_0 rfl (lv_at L 0 rfl) ?_
  refine g_mm_memory X d_mm_sweep_1 ?_
  refine Mi.callV (k := 0) (c_me_giveBackUnreached hI _ hg) X (gt_V mw_446 mw_447 mw_448 mw_2 mw_449) ok_me_giveBackUnreached ⟨rfl, rfl, by decide, by decide⟩ (rc_me X) rfl L.1 rfl (Nat.le_of_ble_eq_true rfl) d_mm_sweep_4 (fun H locs X => ?_)
  exact X.iret hr hlk d_mm_sweep_7 rfl rfl
set_option maxHeartbeats 4000000 in
theorem c_mm_state {l : Launch} {D : va_G} {ad : Nat → Nat} {ci : Nat → ClassId} (hI : Inj ad) (σ : SS)   : Mi l y_mm_state b_mm_state 1 (some .int) ({ frames := 2, cells := 0, slots := 0, locals := 41 } : Room) (EC D ad ci) [.ref (ad 0)] σ (condition σ) (σ) := by
  refine Mi.start pn_mm (Nat.le_of_ble_eq_true rfl) (fun zp ze zs zm zb zt zc ls X hr hlk L => ?_)
  have L : lv_has ls 1 [(0, .ref (ad 0))] := L
  refine lv_aload_n X.1.1 X.1.2.1 d_mm_state_0 rfl (lv_at L 0 rfl) ?_
  refine g_mm_processor X d_mm_state_1 ?_
  refine Mi.callV (k := 0) (c_pr_condition hI _) X (gt_V mw_274 mw_275 mw_276 mw_4 mw_277) ok_pr_condition ⟨rfl, rfl, by decide, by decide⟩ (rc_pr X) rfl L.1 rfl (Nat.le_of_ble_eq_true rfl) d_mm_state_4 (fun H locs X => ?_)
  exact X.iret hr hlk d_mm_state_7 rfl rfl
set_option maxHeartbeats 4000000 in
theorem c_mm_reason {l : Launch} {D : va_G} {ad : Nat → Nat} {ci : Nat → ClassId} (hI : Inj ad) (σ : SS)   : Mi l y_mm_reason b_mm_reason 1 (some .int) ({ frames := 1, cells := 0, slots := 0, locals := 20 } : Room) (EC D ad ci) [.ref (ad 0)] σ (σ.1 21 0) (σ) := by
  refine Mi.start pn_mm (Nat.le_of_ble_eq_true rfl) (fun zp ze zs zm zb zt zc ls X hr hlk L => ?_)
  have L : lv_has ls 1 [(0, .ref (ad 0))] := L
  refine lv_aload_n X.1.1 X.1.2.1 d_mm_reason_0 rfl (lv_at L 0 rfl) ?_
  refine g_mm_processor X d_mm_reason_1 ?_
  refine Mi.callV (k := 0) (c_pr_whyHalted hI _) X (gt_V mw_470 mw_471 mw_472 mw_4 mw_473) ok_pr_whyHalted ⟨rfl, rfl, by decide, by decide⟩ (rc_pr X) rfl L.1 rfl (Nat.le_of_ble_eq_true rfl) d_mm_reason_4 (fun H locs X => ?_)
  exact X.iret hr hlk d_mm_reason_7 rfl rfl
set_option maxHeartbeats 4000000 in
theorem c_mm_active {l : Launch} {D : va_G} {ad : Nat → Nat} {ci : Nat → ClassId} (hI : Inj ad) (σ : SS)   : Mi l y_mm_active b_mm_active 1 (some .int) ({ frames := 1, cells := 0, slots := 0, locals := 21 } : Room) (EC D ad ci) [.ref (ad 0)] σ (σ.1 13 (ix 6)) (σ) := by
  refine Mi.start pn_mm (Nat.le_of_ble_eq_true rfl) (fun zp ze zs zm zb zt zc ls X hr hlk L => ?_)
  have L : lv_has ls 1 [(0, .ref (ad 0))] := L
  refine lv_aload_n X.1.1 X.1.2.1 d_mm_active_0 rfl (lv_at L 0 rfl) ?_
  refine g_mm_memory X d_mm_active_1 ?_
  refine lv_bipush (v := 6) X.1.1 X.1.2.1 d_mm_active_4 rfl ?_
  refine Mi.callV (k := 1) (c_me_register hI _ _ (vpc (by decide))) X (gt_V mw_138 mw_139 mw_140 mw_2 mw_141) ok_me_register ⟨rfl, rfl, by decide, by decide⟩ (rc_me X) rfl L.1 rfl (Nat.le_of_ble_eq_true rfl) d_mm_active_6 (fun H locs X => ?_)
  exact X.iret hr hlk d_mm_active_9 rfl rfl
set_option maxHeartbeats 4000000 in
theorem c_mm_stack {l : Launch} {D : va_G} {ad : Nat → Nat} {ci : Nat → ClassId} (hI : Inj ad) (σ : SS) (o : Int32)  : Mi l y_mm_stack b_mm_stack 2 (some .int) ({ frames := 2, cells := 0, slots := 0, locals := 42 } : Room) (EC D ad ci) [.ref (ad 0), .int o] σ (stackQ σ o) (σ) := by
  refine Mi.start pn_mm (Nat.le_of_ble_eq_true rfl) (fun zp ze zs zm zb zt zc ls X hr hlk L => ?_)
  have L : lv_has ls 2 [(0, .ref (ad 0)), (1, .int o)] := L
  refine lv_aload_n X.1.1 X.1.2.1 d_mm_stack_0 rfl (lv_at L 0 rfl) ?_
  refine g_mm_memory X d_mm_stack_1 ?_
  refine lv_iload_n X.1.1 X.1.2.1 d_mm_stack_4 rfl (lv_at L 1 rfl) ?_
  refine Mi.callV (k := 1) (c_me_isContext hI _ _) X (gt_V mw_482 mw_258 mw_259 mw_2 mw_260) ok_me_isContext ⟨rfl, rfl, by decide, by decide⟩ (rc_me X) rfl L.1 rfl (Nat.le_of_ble_eq_true rfl) d_mm_stack_5 (fun H locs X => ?_)
  refine lv_if_eq (tgt := 22) X.1.1 X.1.2.1 d_mm_stack_8 rfl (fun h8 => ?_) (fun h8 => ?_)
  · skip
    refine lv_iconst (v := (-1)) X.1.1 X.1.2.1 d_mm_stack_22 rfl ?_
    exact X.iret hr hlk d_mm_stack_23 (by first | (simp only [stackQ, eq_true h8, if_true, if_false]; done) | (simp [stackQ, eq_true h8]; done) | (simp [stackQ, h8]; done) | rfl) rfl
  · skip
    refine lv_aload_n X.1.1 X.1.2.1 d_mm_stack_11 rfl (lv_at L 0 rfl) ?_
    refine g_mm_memory X d_mm_stack_12 ?_
    refine lv_iload_n X.1.1 X.1.2.1 d_mm_stack_15 rfl (lv_at L 1 rfl) ?_
    refine Mi.callV (k := 1) (c_me_depthOf hI _ _ (isContext_in h8)) X (gt_V mw_483 mw_332 mw_333 mw_2 mw_334) ok_me_depthOf ⟨rfl, rfl, by decide, by decide⟩ (rc_me X) rfl L.1 rfl (Nat.le_of_ble_eq_true rfl) d_mm_stack_16 (fun H locs X => ?_)
    refine lv_goto (tgt := 23) X.1.1 X.1.2.1 d_mm_stack_19 rfl ?_
    exact X.iret hr hlk d_mm_stack_23 (by first | (simp only [stackQ, eq_false h8, if_true, if_false]; done) | (simp [stackQ, eq_false h8]; done) | (simp [stackQ, h8]; done) | rfl) rfl
set_option maxHeartbeats 4000000 in
theorem c_mm_handle {l : Launch} {D : va_G} {ad : Nat → Nat} {ci : Nat → ClassId} (hI : Inj ad) (σ : SS) (h : Int32)  : Mi l y_mm_handle b_mm_handle 2 (some .int) ({ frames := 1, cells := 0, slots := 0, locals := 21 } : Room) (EC D ad ci) [.ref (ad 0), .int h] σ (handleQ σ h) (σ) := by
  refine Mi.start pn_mm (Nat.le_of_ble_eq_true rfl) (fun zp ze zs zm zb zt zc ls X hr hlk L => ?_)
  have L : lv_has ls 2 [(0, .ref (ad 0)), (1, .int h)] := L
  refine lv_iload_n X.1.1 X.1.2.1 d_mm_handle_0 rfl (lv_at L 1 rfl) ?_
  refine Mi.callS (k := 1) (c_mm_isHandle hI _ _) X mw_135 mw_136 mw_1 mw_137 ok_mm_isHandle ⟨rfl, rfl, by decide, by decide⟩ rfl L.1 rfl (Nat.le_of_ble_eq_true rfl) d_mm_handle_1 (fun H locs X => ?_)
  refine lv_if_eq (tgt := 18) X.1.1 X.1.2.1 d_mm_handle_4 rfl (fun h4 => ?_) (fun h4 => ?_)
  · skip
    refine lv_iconst (v := (-1)) X.1.1 X.1.2.1 d_mm_handle_18 rfl ?_
    exact X.iret hr hlk d_mm_handle_19 (by first | (simp only [handleQ, eq_true h4, if_true, if_false]; done) | (simp [handleQ, eq_true h4]; done) | (simp [handleQ, h4]; done) | rfl) rfl
  · skip
    refine lv_aload_n X.1.1 X.1.2.1 d_mm_handle_7 rfl (lv_at L 0 rfl) ?_
    refine g_mm_memory X d_mm_handle_8 ?_
    refine lv_iload_n X.1.1 X.1.2.1 d_mm_handle_11 rfl (lv_at L 1 rfl) ?_
    refine Mi.callV (k := 1) (c_me_register hI _ _ (h7 (isHandle_in h4))) X (gt_V mw_138 mw_139 mw_140 mw_2 mw_141) ok_me_register ⟨rfl, rfl, by decide, by decide⟩ (rc_me X) rfl L.1 rfl (Nat.le_of_ble_eq_true rfl) d_mm_handle_12 (fun H locs X => ?_)
    refine lv_goto (tgt := 19) X.1.1 X.1.2.1 d_mm_handle_15 rfl ?_
    exact X.iret hr hlk d_mm_handle_19 (by first | (simp only [handleQ, eq_false h4, if_true, if_false]; done) | (simp [handleQ, eq_false h4]; done) | (simp [handleQ, h4]; done) | rfl) rfl
set_option maxHeartbeats 4000000 in
theorem c_mm_field {l : Launch} {D : va_G} {ad : Nat → Nat} {ci : Nat → ClassId} (hI : Inj ad) (σ : SS) (o k : Int32) (hg : RG σ) : Mi l y_mm_field b_mm_field 3 (some .int) ({ frames := 2, cells := 0, slots := 0, locals := 43 } : Room) (EC D ad ci) [.ref (ad 0), .int o, .int k] σ (fieldQ σ o k) (σ) := by
  refine Mi.start pn_mm (Nat.le_of_ble_eq_true rfl) (fun zp ze zs zm zb zt zc ls X hr hlk L => ?_)
  have L : lv_has ls 3 [(0, .ref (ad 0)), (1, .int o), (2, .int k)] := L
  refine lv_aload_n X.1.1 X.1.2.1 d_mm_field_0 rfl (lv_at L 0 rfl) ?_
  refine g_mm_memory X d_mm_field_1 ?_
  refine lv_iload_n X.1.1 X.1.2.1 d_mm_field_4 rfl (lv_at L 1 rfl) ?_
  refine lv_iload_n X.1.1 X.1.2.1 d_mm_field_5 rfl (lv_at L 2 rfl) ?_
  refine Mi.callV (k := 2) (c_me_hasField hI _ _ _) X (gt_V mw_229 mw_230 mw_231 mw_2 mw_232) ok_me_hasField ⟨rfl, rfl, by decide, by decide⟩ (rc_me X) rfl L.1 rfl (Nat.le_of_ble_eq_true rfl) d_mm_field_6 (fun H locs X => ?_)
  refine lv_if_eq (tgt := 24) X.1.1 X.1.2.1 d_mm_field_9 rfl (fun h9 => ?_) (fun h9 => ?_)
  · skip
    refine lv_iconst (v := (-1)) X.1.1 X.1.2.1 d_mm_field_24 rfl ?_
    exact X.iret hr hlk d_mm_field_25 (by first | (simp only [fieldQ, eq_true h9, if_true, if_false]; done) | (simp [fieldQ, eq_true h9]; done) | (simp [fieldQ, h9]; done) | rfl) rfl
  · skip
    refine lv_aload_n X.1.1 X.1.2.1 d_mm_field_12 rfl (lv_at L 0 rfl) ?_
    refine g_mm_memory X d_mm_field_13 ?_
    refine lv_iload_n X.1.1 X.1.2.1 d_mm_field_16 rfl (lv_at L 1 rfl) ?_
    refine lv_iload_n X.1.1 X.1.2.1 d_mm_field_17 rfl (lv_at L 2 rfl) ?_
    refine Mi.callV (k := 2) (c_me_fieldOf hI _ _ _ (hf_o h9) (hf_k hg h9)) X (gt_V mw_233 mw_234 mw_235 mw_2 mw_236) ok_me_fieldOf ⟨rfl, rfl, by decide, by decide⟩ (rc_me X) rfl L.1 rfl (Nat.le_of_ble_eq_true rfl) d_mm_field_18 (fun H locs X => ?_)
    refine lv_goto (tgt := 25) X.1.1 X.1.2.1 d_mm_field_21 rfl ?_
    exact X.iret hr hlk d_mm_field_25 (by first | (simp only [fieldQ, eq_false h9, if_true, if_false]; done) | (simp [fieldQ, eq_false h9]; done) | (simp [fieldQ, h9]; done) | rfl) rfl
set_option maxHeartbeats 4000000 in
theorem c_mm_classOf {l : Launch} {D : va_G} {ad : Nat → Nat} {ci : Nat → ClassId} (hI : Inj ad) (σ : SS) (o : Int32)  : Mi l y_mm_classOf b_mm_classOf 2 (some .int) ({ frames := 2, cells := 0, slots := 0, locals := 41 } : Room) (EC D ad ci) [.ref (ad 0), .int o] σ (classOfQ σ o) (σ) := by
  refine Mi.start pn_mm (Nat.le_of_ble_eq_true rfl) (fun zp ze zs zm zb zt zc ls X hr hlk L => ?_)
  have L : lv_has ls 2 [(0, .ref (ad 0)), (1, .int o)] := L
  refine lv_aload_n X.1.1 X.1.2.1 d_mm_classOf_0 rfl (lv_at L 0 rfl) ?_
  refine g_mm_memory X d_mm_classOf_1 ?_
  refine lv_iload_n X.1.1 X.1.2.1 d_mm_classOf_4 rfl (lv_at L 1 rfl) ?_
  refine Mi.callV (k := 1) (c_me_isAlive hI _ _) X (gt_V mw_496 mw_151 mw_152 mw_2 mw_153) ok_me_isAlive ⟨rfl, rfl, by decide, by decide⟩ (rc_me X) rfl L.1 rfl (Nat.le_of_ble_eq_true rfl) d_mm_classOf_5 (fun H locs X => ?_)
  refine lv_if_eq (tgt := 22) X.1.1 X.1.2.1 d_mm_classOf_8 rfl (fun h8 => ?_) (fun h8 => ?_)
  · skip
    refine lv_iconst (v := (-1)) X.1.1 X.1.2.1 d_mm_classOf_22 rfl ?_
    exact X.iret hr hlk d_mm_classOf_23 (by first | (simp only [classOfQ, eq_true h8, if_true, if_false]; done) | (simp [classOfQ, eq_true h8]; done) | (simp [classOfQ, h8]; done) | rfl) rfl
  · skip
    refine lv_aload_n X.1.1 X.1.2.1 d_mm_classOf_11 rfl (lv_at L 0 rfl) ?_
    refine g_mm_memory X d_mm_classOf_12 ?_
    refine lv_iload_n X.1.1 X.1.2.1 d_mm_classOf_15 rfl (lv_at L 1 rfl) ?_
    refine Mi.callV (k := 1) (c_me_classOfWord hI _ _) X (gt_V mw_241 mw_242 mw_243 mw_2 mw_244) ok_me_classOfWord ⟨rfl, rfl, by decide, by decide⟩ (rc_me X) rfl L.1 rfl (Nat.le_of_ble_eq_true rfl) d_mm_classOf_16 (fun H locs X => ?_)
    refine lv_goto (tgt := 23) X.1.1 X.1.2.1 d_mm_classOf_19 rfl ?_
    exact X.iret hr hlk d_mm_classOf_23 (by first | (simp only [classOfQ, eq_false h8, if_true, if_false]; done) | (simp [classOfQ, eq_false h8]; done) | (simp [classOfQ, h8]; done) | rfl) rfl
set_option maxHeartbeats 4000000 in
theorem c_mm_count {l : Launch} {D : va_G} {ad : Nat → Nat} {ci : Nat → ClassId} (hI : Inj ad) (σ : SS) (o : Int32)  : Mi l y_mm_count b_mm_count 2 (some .int) ({ frames := 1, cells := 0, slots := 0, locals := 21 } : Room) (EC D ad ci) [.ref (ad 0), .int o] σ (countQ σ o) (σ) := by
  refine Mi.start pn_mm (Nat.le_of_ble_eq_true rfl) (fun zp ze zs zm zb zt zc ls X hr hlk L => ?_)
  have L : lv_has ls 2 [(0, .ref (ad 0)), (1, .int o)] := L
  refine lv_aload_n X.1.1 X.1.2.1 d_mm_count_0 rfl (lv_at L 0 rfl) ?_
  refine g_mm_memory X d_mm_count_1 ?_
  refine lv_iload_n X.1.1 X.1.2.1 d_mm_count_4 rfl (lv_at L 1 rfl) ?_
  refine Mi.callV (k := 1) (c_me_isAlive hI _ _) X (gt_V mw_496 mw_151 mw_152 mw_2 mw_153) ok_me_isAlive ⟨rfl, rfl, by decide, by decide⟩ (rc_me X) rfl L.1 rfl (Nat.le_of_ble_eq_true rfl) d_mm_count_5 (fun H locs X => ?_)
  refine lv_if_eq (tgt := 22) X.1.1 X.1.2.1 d_mm_count_8 rfl (fun h8 => ?_) (fun h8 => ?_)
  · skip
    refine lv_iconst (v := (-1)) X.1.1 X.1.2.1 d_mm_count_22 rfl ?_
    exact X.iret hr hlk d_mm_count_23 (by first | (simp only [countQ, eq_true h8, if_true, if_false]; done) | (simp [countQ, eq_true h8]; done) | (simp [countQ, h8]; done) | rfl) rfl
  · skip
    refine lv_aload_n X.1.1 X.1.2.1 d_mm_count_11 rfl (lv_at L 0 rfl) ?_
    refine g_mm_memory X d_mm_count_12 ?_
    refine lv_iload_n X.1.1 X.1.2.1 d_mm_count_15 rfl (lv_at L 1 rfl) ?_
    refine Mi.callV (k := 1) (c_me_countOf hI _ _ (isAlive_in h8)) X (gt_V mw_501 mw_502 mw_503 mw_2 mw_504) ok_me_countOf ⟨rfl, rfl, by decide, by decide⟩ (rc_me X) rfl L.1 rfl (Nat.le_of_ble_eq_true rfl) d_mm_count_16 (fun H locs X => ?_)
    refine lv_goto (tgt := 23) X.1.1 X.1.2.1 d_mm_count_19 rfl ?_
    exact X.iret hr hlk d_mm_count_23 (by first | (simp only [countQ, eq_false h8, if_true, if_false]; done) | (simp [countQ, eq_false h8]; done) | (simp [countQ, h8]; done) | rfl) rfl
set_option maxHeartbeats 4000000 in
theorem c_mm_alive {l : Launch} {D : va_G} {ad : Nat → Nat} {ci : Nat → ClassId} (hI : Inj ad) (σ : SS)   : Mi l y_mm_alive b_mm_alive 1 (some .int) ({ frames := 1, cells := 0, slots := 0, locals := 22 } : Room) (EC D ad ci) [.ref (ad 0)] σ (howManyAlive σ) (σ) := by
  refine Mi.start pn_mm (Nat.le_of_ble_eq_true rfl) (fun zp ze zs zm zb zt zc ls X hr hlk L => ?_)
  have L : lv_has ls 1 [(0, .ref (ad 0))] := L
  refine lv_aload_n X.1.1 X.1.2.1 d_mm_alive_0 rfl (lv_at L 0 rfl) ?_
  refine g_mm_memory X d_mm_alive_1 ?_
  refine Mi.callV (k := 0) (c_me_howManyAlive hI _) X (gt_V mw_509 mw_510 mw_511 mw_2 mw_512) ok_me_howManyAlive ⟨rfl, rfl, by decide, by decide⟩ (rc_me X) rfl L.1 rfl (Nat.le_of_ble_eq_true rfl) d_mm_alive_4 (fun H locs X => ?_)
  exact X.iret hr hlk d_mm_alive_7 rfl rfl
set_option maxHeartbeats 4000000 in
theorem c_mm_lookup {l : Launch} {D : va_G} {ad : Nat → Nat} {ci : Nat → ClassId} (hI : Inj ad) (σ : SS) (h t : Int32) (hz : BZ σ) (hs : ∀ r, vp_in r 6 → Sup σ (classOfWord σ (rgs σ r))) : Mi l y_mm_lookup b_mm_lookup 3 (some .int) ({ frames := 3, cells := 0, slots := 0, locals := 67 } : Room) (EC D ad ci) [.ref (ad 0), .int h, .int t] σ (lookupQ σ h t) (σ) := by
  refine Mi.start pn_mm (Nat.le_of_ble_eq_true rfl) (fun zp ze zs zm zb zt zc ls X hr hlk L => ?_)
  have L : lv_has ls 3 [(0, .ref (ad 0)), (1, .int h), (2, .int t)] := L
  refine lv_iload_n X.1.1 X.1.2.1 d_mm_lookup_0 rfl (lv_at L 1 rfl) ?_
  refine Mi.callS (k := 1) (c_mm_isHandle hI _ _) X mw_135 mw_136 mw_1 mw_137 ok_mm_isHandle ⟨rfl, rfl, by decide, by decide⟩ rfl L.1 rfl (Nat.le_of_ble_eq_true rfl) d_mm_lookup_1 (fun H locs X => ?_)
  refine lv_if_eq (tgt := 14) X.1.1 X.1.2.1 d_mm_lookup_4 rfl (fun h4 => ?_) (fun h4 => ?_)
  · skip
    refine lv_iconst (v := (-1)) X.1.1 X.1.2.1 d_mm_lookup_14 rfl ?_
    exact X.iret hr hlk d_mm_lookup_15 (by first | (simp only [lookupQ, eq_true h4, if_true, if_false]; done) | (simp [lookupQ, eq_true h4]; done) | (simp [lookupQ, h4]; done) | rfl) rfl
  · skip
    refine lv_iload_n X.1.1 X.1.2.1 d_mm_lookup_7 rfl (lv_at L 2 rfl) ?_
    refine Mi.callS (k := 1) (c_mm_isSelector hI _ _) X mw_198 mw_199 mw_1 mw_200 ok_mm_isSelector ⟨rfl, rfl, by decide, by decide⟩ rfl L.1 rfl (Nat.le_of_ble_eq_true rfl) d_mm_lookup_8 (fun H locs X => ?_)
    refine lv_if_ne (tgt := 16) X.1.1 X.1.2.1 d_mm_lookup_11 rfl (fun h11 => ?_) (fun h11 => ?_)
    · skip
      refine lv_aload_n X.1.1 X.1.2.1 d_mm_lookup_16 rfl (lv_at L 0 rfl) ?_
      refine g_mm_processor X d_mm_lookup_17 ?_
      refine lv_aload_n X.1.1 X.1.2.1 d_mm_lookup_20 rfl (lv_at L 0 rfl) ?_
      refine g_mm_memory X d_mm_lookup_21 ?_
      refine lv_aload_n X.1.1 X.1.2.1 d_mm_lookup_24 rfl (lv_at L 0 rfl) ?_
      refine g_mm_memory X d_mm_lookup_25 ?_
      refine lv_iload_n X.1.1 X.1.2.1 d_mm_lookup_28 rfl (lv_at L 1 rfl) ?_
      refine Mi.callV (k := 1) (c_me_register hI _ _ (h7 (isHandle_in h4))) X (gt_V mw_138 mw_139 mw_140 mw_2 mw_141) ok_me_register ⟨rfl, rfl, by decide, by decide⟩ (rc_me X) rfl L.1 rfl (Nat.le_of_ble_eq_true rfl) d_mm_lookup_29 (fun H locs X => ?_)
      refine Mi.callV (k := 1) (c_me_classOfWord hI _ _) X (gt_V mw_241 mw_242 mw_243 mw_2 mw_244) ok_me_classOfWord ⟨rfl, rfl, by decide, by decide⟩ (rc_me X) rfl L.1 rfl (Nat.le_of_ble_eq_true rfl) d_mm_lookup_32 (fun H locs X => ?_)
      refine lv_iload_n X.1.1 X.1.2.1 d_mm_lookup_35 rfl (lv_at L 2 rfl) ?_
      refine Mi.callV (k := 2) (c_pr_find hI _ _ _ (hs _ (isHandle_in h4)) (isSelector_in h11) hz) X (gt_V mw_517 mw_285 mw_286 mw_4 mw_287) ok_pr_find ⟨rfl, rfl, by decide, by decide⟩ (rc_pr X) rfl L.1 rfl (Nat.le_of_ble_eq_true rfl) d_mm_lookup_36 (fun H locs X => ?_)
      exact X.iret hr hlk d_mm_lookup_39 (by first | (simp only [lookupQ, eq_false h4, eq_false h11, if_true, if_false]; done) | (simp [lookupQ, eq_false h4, eq_false h11]; done) | (simp [lookupQ, h4, h11]; done) | rfl) rfl
    · skip
      refine lv_iconst (v := (-1)) X.1.1 X.1.2.1 d_mm_lookup_14 rfl ?_
      exact X.iret hr hlk d_mm_lookup_15 (by first | (simp only [lookupQ, eq_false h4, eq_true h11, if_true, if_false]; done) | (simp [lookupQ, eq_false h4, eq_true h11]; done) | (simp [lookupQ, h4, h11]; done) | rfl) rfl
