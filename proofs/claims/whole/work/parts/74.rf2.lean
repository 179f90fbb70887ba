set_option maxHeartbeats 4000000 in
theorem c_rf_define {l : Launch} {D : va_G} {ad : Nat → Nat} {ci : Nat → ClassId} (hI : InjR ad) (σ : SS) (h s z : Int32) (hm : RGm σ) : Mi l y_rf_define b_rf_define 6 (some .int) ({ frames := 3, cells := 0, slots := 0, locals := 65 } : Room) (ER D ad ci) [.ref (ad 0), .int h, .int s, .int z] σ ((defineM σ h s z).1) ((defineM σ h s z).2) := by
  refine Mi.start pn_rf (Nat.le_of_ble_eq_true rfl) (fun zp ze zs zm zb zt zc ls X hr hlk L => ?_)
  have L : lv_has ls 6 [(0, .ref (ad 0)), (1, .int h), (2, .int s), (3, .int z)] := L
  refine lv_iload_n X.1.1 X.1.2.1 d_rf_define_0 rfl (lv_at L 1 rfl) ?_
  refine Mi.callS (k := 1) (c_rf_noHandle hI _ _) X mw_585 mw_586 mw_5 mw_587 ok_rf_noHandle ⟨rfl, rfl, by decide, by decide⟩ rfl L.1 rfl (Nat.le_of_ble_eq_true rfl) d_rf_define_1 (fun H locs X => ?_)
  refine lv_if_ne (tgt := 46) X.1.1 X.1.2.1 d_rf_define_4 rfl (fun h4 => ?_) (fun h4 => ?_)
  · skip
    refine lv_iconst (v := (-1)) X.1.1 X.1.2.1 d_rf_define_46 rfl ?_
    exact X.iret hr hlk d_rf_define_47 (by first | (simp only [defineM, def3M, eq_false h4, if_true, if_false]; done) | (simp [defineM, def3M, eq_false h4]; done) | (simp [defineM, def3M, h4]; done) | rfl) (by first | (simp only [defineM, def3M, eq_false h4, if_true, if_false]; done) | (simp [defineM, def3M, eq_false h4]; done) | (simp [defineM, def3M, h4]; done) | rfl)
  · skip
    refine lv_iload_n X.1.1 X.1.2.1 d_rf_define_7 rfl (lv_at L 2 rfl) ?_
    refine Mi.callS (k := 1) (c_rf_noHandle hI _ _) X mw_585 mw_586 mw_5 mw_587 ok_rf_noHandle ⟨rfl, rfl, by decide, by decide⟩ rfl L.1 rfl (Nat.le_of_ble_eq_true rfl) d_rf_define_8 (fun H locs X => ?_)
    refine lv_if_ne (tgt := 46) X.1.1 X.1.2.1 d_rf_define_11 rfl (fun h11 => ?_) (fun h11 => ?_)
    · skip
      refine lv_iconst (v := (-1)) X.1.1 X.1.2.1 d_rf_define_46 rfl ?_
      exact X.iret hr hlk d_rf_define_47 (by first | (simp only [defineM, def3M, eq_true h4, eq_false h11, if_true, if_false]; done) | (simp [defineM, def3M, eq_true h4, eq_false h11]; done) | (simp [defineM, def3M, h4, h11]; done) | rfl) (by first | (simp only [defineM, def3M, eq_true h4, eq_false h11, if_true, if_false]; done) | (simp [defineM, def3M, eq_true h4, eq_false h11]; done) | (simp [defineM, def3M, h4, h11]; done) | rfl)
    · skip
      refine lv_aload_n X.1.1 X.1.2.1 d_rf_define_14 rfl (lv_at L 0 rfl) ?_
      refine g_rf_handles X d_rf_define_15 ?_
      refine lv_iload_n X.1.1 X.1.2.1 d_rf_define_18 rfl (lv_at L 2 rfl) ?_
      refine rl_12 X (nh_in h11) d_rf_define_19 ?_
      refine lv_if_eq (tgt := 36) X.1.1 X.1.2.1 d_rf_define_20 rfl (fun h20 => ?_) (fun h20 => ?_)
      · skip
        refine lv_iload_n X.1.1 X.1.2.1 d_rf_define_36 rfl (lv_at L 3 rfl) ?_
        refine lv_if_lt (tgt := 46) X.1.1 X.1.2.1 d_rf_define_37 rfl (fun h37 => ?_) (fun h37 => ?_)
        · skip
          refine lv_iconst (v := (-1)) X.1.1 X.1.2.1 d_rf_define_46 rfl ?_
          exact X.iret hr hlk d_rf_define_47 (by first | (simp only [defineM, def3M, eq_true h4, eq_true h11, eq_true h20, eq_true h37, if_true, if_false]; done) | (simp [defineM, def3M, eq_true h4, eq_true h11, eq_true h20, eq_true h37]; done) | (simp [defineM, def3M, h4, h11, h20, h37]; done) | rfl) (by first | (simp only [defineM, def3M, eq_true h4, eq_true h11, eq_true h20, eq_true h37, if_true, if_false]; done) | (simp [defineM, def3M, eq_true h4, eq_true h11, eq_true h20, eq_true h37]; done) | (simp [defineM, def3M, h4, h11, h20, h37]; done) | rfl)
        · skip
          refine lv_iload_n X.1.1 X.1.2.1 d_rf_define_40 rfl (lv_at L 3 rfl) ?_
          refine lv_bipush (v := 6) X.1.1 X.1.2.1 d_rf_define_41 rfl ?_
          refine lv_icmp_le (tgt := 48) X.1.1 X.1.2.1 d_rf_define_43 rfl (fun h43 => ?_) (fun h43 => ?_)
          · skip
            refine lv_aload_n X.1.1 X.1.2.1 d_rf_define_48 rfl (lv_at L 0 rfl) ?_
            refine Mi.callV (k := 0) (c_rf_room hI _) X (gt_V mw_592 mw_594 ms_35 mw_5 mw_595) ok_rf_room ⟨rfl, rfl, by decide, by decide⟩ (rc_rf X) rfl L.1 rfl (Nat.le_of_ble_eq_true rfl) d_rf_define_49 (fun H locs X => ?_)
            refine lv_istore (lv' := [(4, .int _), (0, .ref _), (1, .int _), (2, .int _), (3, .int _)]) X.1.1 X.1.2.1 d_rf_define_52 L (by decide) rfl (fun ls L => ?_)
            refine lv_iload X.1.1 X.1.2.1 d_rf_define_54 (lv_at L 0 rfl) ?_
            refine lv_if_ge (tgt := 61) X.1.1 X.1.2.1 d_rf_define_56 rfl (fun h56 => ?_) (fun h56 => ?_)
            · skip
              refine lv_aload_n X.1.1 X.1.2.1 d_rf_define_61 rfl (lv_at L 1 rfl) ?_
              refine lv_iload X.1.1 X.1.2.1 d_rf_define_62 (lv_at L 0 rfl) ?_
              refine lv_iconst (v := 1) X.1.1 X.1.2.1 d_rf_define_64 rfl ?_
              refine lv_iconst (v := 1) X.1.1 X.1.2.1 d_rf_define_65 rfl ?_
              refine lv_iconst (v := 1) X.1.1 X.1.2.1 d_rf_define_66 rfl ?_
              refine Mv.callV (k := 4) (c_rf_make1 hI _ _ _ _ _ (room_in h56)) X (gt_V mw_596 mw_598 ms_36 mw_5 mw_599) ok_rf_make1 ⟨rfl, rfl, by decide, by decide⟩ (rc_rf X) rfl L.1 rfl (Nat.le_of_ble_eq_true rfl) d_rf_define_67 (fun H locs X => ?_)
              refine lv_aload_n X.1.1 X.1.2.1 d_rf_define_70 rfl (lv_at L 1 rfl) ?_
              refine g_rf_word X d_rf_define_71 ?_
              refine lv_bipush (v := 15) X.1.1 X.1.2.1 d_rf_define_74 rfl ?_
              refine lv_iload X.1.1 X.1.2.1 d_rf_define_76 (lv_at L 0 rfl) ?_
              refine lv_imul X.1.1 X.1.2.1 d_rf_define_78 ?_
              refine lv_aload_n X.1.1 X.1.2.1 d_rf_define_79 rfl (lv_at L 1 rfl) ?_
              refine g_rf_handles X d_rf_define_80 ?_
              refine lv_iload_n X.1.1 X.1.2.1 d_rf_define_83 rfl (lv_at L 3 rfl) ?_
              refine rl_12 X (nh_in h11) d_rf_define_84 ?_
              refine rs_5 hI X (w15v (room_in h56)) d_rf_define_85 (fun H locs X => ?_)
              refine lv_aload_n X.1.1 X.1.2.1 d_rf_define_86 rfl (lv_at L 1 rfl) ?_
              refine g_rf_size X d_rf_define_87 ?_
              refine lv_iload X.1.1 X.1.2.1 d_rf_define_90 (lv_at L 0 rfl) ?_
              refine lv_iload_n X.1.1 X.1.2.1 d_rf_define_92 rfl (lv_at L 4 rfl) ?_
              refine rs_8 hI X (room_in h56) d_rf_define_93 (fun H locs X => ?_)
              refine lv_iconst (v := 0) X.1.1 X.1.2.1 d_rf_define_94 rfl ?_
              refine lv_istore (lv' := [(5, .int _), (4, .int _), (0, .ref _), (1, .int _), (2, .int _), (3, .int _)]) X.1.1 X.1.2.1 d_rf_define_95 L (by decide) rfl (fun ls L => ?_)
              have hr1 : (defineM σ h s z).1 = roomM σ := by simp only [defineM, def3M, eq_true h4, eq_true h11, eq_true h20, eq_false h37, eq_true h43, eq_true h56, if_true, if_false]
              have loop97 : ∀ (n : Nat) (k : Nat) (σ1 : SS) (H : Heap) (locs : List Loc) (ls : Array Slot), (k + n = 8) → (RGm σ1) → (settleM (sA (hasL n k σ1 (roomM σ)) 12 (ix h) (roomM σ)) = (defineM σ h s z).2) → Cx (ER D ad ci) zp zs zm (([.ref (ad 0), .int h, .int s, .int z] : List Value).toArray) zc b_rf_define 6 "MessageMachineModel" H locs σ1 → lv_has ls 6 [(5, .int (nI k)), (0, .ref (ad 0)), (1, .int h), (2, .int s), (3, .int z), (4, .int (roomM σ))] → W zp l ze ({ frames := 3, cells := 0, slots := 0, locals := 65 } : Room) zs zm (([.ref (ad 0), .int h, .int s, .int z] : List Value).toArray) zb zt zc H locs 0 0 (MQ zb (va_Qi (fun (x : Int32) (u : SS) => x = ((defineM σ h s z).1) ∧ u = ((defineM σ h s z).2)) (fun u t => Pq (ER D ad ci) u t) (ER D ad ci).2.2.2) (([.ref (ad 0), .int h, .int s, .int z] : List Value).toArray) zs 0 0 (ER D ad ci).2.2.2) (F0 zm 97 ls []) := by
                intro n
                induction n with
                | zero =>
                  intro k σ1 H locs ls hk hm1 hq X L
                  refine lv_iload X.1.1 X.1.2.1 d_rf_define_97 (lv_at L 0 rfl) ?_
                  refine lv_bipush (v := 8) X.1.1 X.1.2.1 d_rf_define_99 rfl ?_
                  refine lv_icmp_ge (tgt := 124) X.1.1 X.1.2.1 d_rf_define_101 rfl (fun h101 => ?_) (fun h101 => ?_)
                  · skip
                    refine lv_aload_n X.1.1 X.1.2.1 d_rf_define_124 rfl (lv_at L 1 rfl) ?_
                    refine g_rf_handles X d_rf_define_125 ?_
                    refine lv_iload_n X.1.1 X.1.2.1 d_rf_define_128 rfl (lv_at L 2 rfl) ?_
                    refine lv_iload X.1.1 X.1.2.1 d_rf_define_129 (lv_at L 5 rfl) ?_
                    refine rs_12 hI X (nh_in h4) d_rf_define_131 (fun H locs X => ?_)
                    refine lv_aload_n X.1.1 X.1.2.1 d_rf_define_132 rfl (lv_at L 1 rfl) ?_
                    refine Mv.callV (k := 0) (c_rf_settle hI _ (RGm_12 hm1 _ (vp_nn (room_in h56)))) X (gt_V mw_524 mw_526 ms_32 mw_5 mw_527) ok_rf_settle ⟨rfl, rfl, by decide, by decide⟩ (rc_rf X) rfl L.1 rfl (Nat.le_of_ble_eq_true rfl) d_rf_define_133 (fun H locs X => ?_)
                    refine lv_iload X.1.1 X.1.2.1 d_rf_define_136 (lv_at L 5 rfl) ?_
                    exact X.iret hr hlk d_rf_define_138 hr1.symm hq
                  · skip
                    exact absurd ((le8N (by omega)).mpr (by omega)) h101
                | succ n ih =>
                  intro k σ1 H locs ls hk hm1 hq X L
                  refine lv_iload X.1.1 X.1.2.1 d_rf_define_97 (lv_at L 0 rfl) ?_
                  refine lv_bipush (v := 8) X.1.1 X.1.2.1 d_rf_define_99 rfl ?_
                  refine lv_icmp_ge (tgt := 124) X.1.1 X.1.2.1 d_rf_define_101 rfl (fun h101 => ?_) (fun h101 => ?_)
                  · skip
                    exact absurd ((le8N (by omega)).mp h101) (by omega)
                  · skip
                    refine lv_aload_n X.1.1 X.1.2.1 d_rf_define_104 rfl (lv_at L 1 rfl) ?_
                    refine g_rf_has X d_rf_define_105 ?_
                    refine lv_bipush (v := 8) X.1.1 X.1.2.1 d_rf_define_108 rfl ?_
                    refine lv_iload X.1.1 X.1.2.1 d_rf_define_110 (lv_at L 5 rfl) ?_
                    refine lv_imul X.1.1 X.1.2.1 d_rf_define_112 ?_
                    refine lv_iload X.1.1 X.1.2.1 d_rf_define_113 (lv_at L 0 rfl) ?_
                    refine lv_iadd X.1.1 X.1.2.1 d_rf_define_115 ?_
                    refine lv_iconst (v := 0) X.1.1 X.1.2.1 d_rf_define_116 rfl ?_
                    refine rs_9 hI X (slv (room_in h56) (vp_k (by omega) (by decide))) rfl d_rf_define_117 (fun H locs X => ?_)
                    refine lv_iinc (k := 0) (lv' := [(5, .int (nI (k + 1))), (0, .ref _), (1, .int _), (2, .int _), (3, .int _), (4, .int _)]) X.1.1 X.1.2.1 d_rf_define_118 L rfl (nI_inc k) (by decide) rfl (fun ls L => ?_)
                    refine lv_goto (tgt := 97) X.1.1 X.1.2.1 d_rf_define_121 rfl ?_
                    exact ih (k + 1) _ _ _ _ (by omega) (RGm_A hm1 (by decide) _ _) (by rw [← hq]; rfl) X L
              exact loop97 8 0 _ _ _ _ (by omega) (RGm_8 (RGm_5 (RGm_make1 hm _ (room_in h56) (vpc (by decide)) (by decide)) _ ((RGm_make1 hm _ (room_in h56) (vpc (by decide)) (by decide)).hn (nh_in h11))) _ (z6 h37 h43)) (by simp only [defineM, def3M, eq_true h4, eq_true h11, eq_true h20, eq_false h37, eq_true h43, eq_true h56, if_true, if_false]; rfl) X (lv_sub L [0, 2, 3, 4, 5, 1] rfl)
            · skip
              refine lv_iconst (v := (-1)) X.1.1 X.1.2.1 d_rf_define_59 rfl ?_
              exact X.iret hr hlk d_rf_define_60 (by first | (simp only [defineM, def3M, eq_true h4, eq_true h11, eq_true h20, eq_false h37, eq_true h43, eq_false h56, if_true, if_false]; done) | (simp [defineM, def3M, eq_true h4, eq_true h11, eq_true h20, eq_false h37, eq_true h43, eq_false h56]; done) | (simp [defineM, def3M, h4, h11, h20, h37, h43, h56]; done) | rfl) (by first | (simp only [defineM, def3M, eq_true h4, eq_true h11, eq_true h20, eq_false h37, eq_true h43, eq_false h56, if_true, if_false]; done) | (simp [defineM, def3M, eq_true h4, eq_true h11, eq_true h20, eq_false h37, eq_true h43, eq_false h56]; done) | (simp [defineM, def3M, h4, h11, h20, h37, h43, h56]; done) | rfl)
          · skip
            refine lv_iconst (v := (-1)) X.1.1 X.1.2.1 d_rf_define_46 rfl ?_
            exact X.iret hr hlk d_rf_define_47 (by first | (simp only [defineM, def3M, eq_true h4, eq_true h11, eq_true h20, eq_false h37, eq_false h43, if_true, if_false]; done) | (simp [defineM, def3M, eq_true h4, eq_true h11, eq_true h20, eq_false h37, eq_false h43]; done) | (simp [defineM, def3M, h4, h11, h20, h37, h43]; done) | rfl) (by first | (simp only [defineM, def3M, eq_true h4, eq_true h11, eq_true h20, eq_false h37, eq_false h43, if_true, if_false]; done) | (simp [defineM, def3M, eq_true h4, eq_true h11, eq_true h20, eq_false h37, eq_false h43]; done) | (simp [defineM, def3M, h4, h11, h20, h37, h43]; done) | rfl)
      · skip
        refine lv_aload_n X.1.1 X.1.2.1 d_rf_define_23 rfl (lv_at L 0 rfl) ?_
        refine lv_aload_n X.1.1 X.1.2.1 d_rf_define_24 rfl (lv_at L 0 rfl) ?_
        refine g_rf_handles X d_rf_define_25 ?_
        refine lv_iload_n X.1.1 X.1.2.1 d_rf_define_28 rfl (lv_at L 2 rfl) ?_
        refine rl_12 X (nh_in h11) d_rf_define_29 ?_
        refine Mi.callV (k := 1) (c_rf_isClass hI _ _ (hm.hn (nh_in h11))) X (gt_V mw_588 mw_590 ms_34 mw_5 mw_591) ok_rf_isClass ⟨rfl, rfl, by decide, by decide⟩ (rc_rf X) rfl L.1 rfl (Nat.le_of_ble_eq_true rfl) d_rf_define_30 (fun H locs X => ?_)
        refine lv_if_eq (tgt := 46) X.1.1 X.1.2.1 d_rf_define_33 rfl (fun h33 => ?_) (fun h33 => ?_)
        · skip
          refine lv_iconst (v := (-1)) X.1.1 X.1.2.1 d_rf_define_46 rfl ?_
          exact X.iret hr hlk d_rf_define_47 (by first | (simp only [defineM, def3M, eq_true h4, eq_true h11, eq_false h20, eq_true h33, if_true, if_false]; done) | (simp [defineM, def3M, eq_true h4, eq_true h11, eq_false h20, eq_true h33]; done) | (simp [defineM, def3M, h4, h11, h20, h33]; done) | rfl) (by first | (simp only [defineM, def3M, eq_true h4, eq_true h11, eq_false h20, eq_true h33, if_true, if_false]; done) | (simp [defineM, def3M, eq_true h4, eq_true h11, eq_false h20, eq_true h33]; done) | (simp [defineM, def3M, h4, h11, h20, h33]; done) | rfl)
        · skip
          refine lv_iload_n X.1.1 X.1.2.1 d_rf_define_36 rfl (lv_at L 3 rfl) ?_
          refine lv_if_lt (tgt := 46) X.1.1 X.1.2.1 d_rf_define_37 rfl (fun h37 => ?_) (fun h37 => ?_)
          · skip
            refine lv_iconst (v := (-1)) X.1.1 X.1.2.1 d_rf_define_46 rfl ?_
            exact X.iret hr hlk d_rf_define_47 (by first | (simp only [defineM, def3M, eq_true h4, eq_true h11, eq_false h20, eq_false h33, eq_true h37, if_true, if_false]; done) | (simp [defineM, def3M, eq_true h4, eq_true h11, eq_false h20, eq_false h33, eq_true h37]; done) | (simp [defineM, def3M, h4, h11, h20, h33, h37]; done) | rfl) (by first | (simp only [defineM, def3M, eq_true h4, eq_true h11, eq_false h20, eq_false h33, eq_true h37, if_true, if_false]; done) | (simp [defineM, def3M, eq_true h4, eq_true h11, eq_false h20, eq_false h33, eq_true h37]; done) | (simp [defineM, def3M, h4, h11, h20, h33, h37]; done) | rfl)
          · skip
            refine lv_iload_n X.1.1 X.1.2.1 d_rf_define_40 rfl (lv_at L 3 rfl) ?_
            refine lv_bipush (v := 6) X.1.1 X.1.2.1 d_rf_define_41 rfl ?_
            refine lv_icmp_le (tgt := 48) X.1.1 X.1.2.1 d_rf_define_43 rfl (fun h43 => ?_) (fun h43 => ?_)
            · skip
              refine lv_aload_n X.1.1 X.1.2.1 d_rf_define_48 rfl (lv_at L 0 rfl) ?_
              refine Mi.callV (k := 0) (c_rf_room hI _) X (gt_V mw_592 mw_594 ms_35 mw_5 mw_595) ok_rf_room ⟨rfl, rfl, by decide, by decide⟩ (rc_rf X) rfl L.1 rfl (Nat.le_of_ble_eq_true rfl) d_rf_define_49 (fun H locs X => ?_)
              refine lv_istore (lv' := [(4, .int _), (0, .ref _), (1, .int _), (2, .int _), (3, .int _)]) X.1.1 X.1.2.1 d_rf_define_52 L (by decide) rfl (fun ls L => ?_)
              refine lv_iload X.1.1 X.1.2.1 d_rf_define_54 (lv_at L 0 rfl) ?_
              refine lv_if_ge (tgt := 61) X.1.1 X.1.2.1 d_rf_define_56 rfl (fun h56 => ?_) (fun h56 => ?_)
              · skip
                refine lv_aload_n X.1.1 X.1.2.1 d_rf_define_61 rfl (lv_at L 1 rfl) ?_
                refine lv_iload X.1.1 X.1.2.1 d_rf_define_62 (lv_at L 0 rfl) ?_
                refine lv_iconst (v := 1) X.1.1 X.1.2.1 d_rf_define_64 rfl ?_
                refine lv_iconst (v := 1) X.1.1 X.1.2.1 d_rf_define_65 rfl ?_
                refine lv_iconst (v := 1) X.1.1 X.1.2.1 d_rf_define_66 rfl ?_
                refine Mv.callV (k := 4) (c_rf_make1 hI _ _ _ _ _ (room_in h56)) X (gt_V mw_596 mw_598 ms_36 mw_5 mw_599) ok_rf_make1 ⟨rfl, rfl, by decide, by decide⟩ (rc_rf X) rfl L.1 rfl (Nat.le_of_ble_eq_true rfl) d_rf_define_67 (fun H locs X => ?_)
                refine lv_aload_n X.1.1 X.1.2.1 d_rf_define_70 rfl (lv_at L 1 rfl) ?_
                refine g_rf_word X d_rf_define_71 ?_
                refine lv_bipush (v := 15) X.1.1 X.1.2.1 d_rf_define_74 rfl ?_
                refine lv_iload X.1.1 X.1.2.1 d_rf_define_76 (lv_at L 0 rfl) ?_
                refine lv_imul X.1.1 X.1.2.1 d_rf_define_78 ?_
                refine lv_aload_n X.1.1 X.1.2.1 d_rf_define_79 rfl (lv_at L 1 rfl) ?_
                refine g_rf_handles X d_rf_define_80 ?_
                refine lv_iload_n X.1.1 X.1.2.1 d_rf_define_83 rfl (lv_at L 3 rfl) ?_
                refine rl_12 X (nh_in h11) d_rf_define_84 ?_
                refine rs_5 hI X (w15v (room_in h56)) d_rf_define_85 (fun H locs X => ?_)
                refine lv_aload_n X.1.1 X.1.2.1 d_rf_define_86 rfl (lv_at L 1 rfl) ?_
                refine g_rf_size X d_rf_define_87 ?_
                refine lv_iload X.1.1 X.1.2.1 d_rf_define_90 (lv_at L 0 rfl) ?_
                refine lv_iload_n X.1.1 X.1.2.1 d_rf_define_92 rfl (lv_at L 4 rfl) ?_
                refine rs_8 hI X (room_in h56) d_rf_define_93 (fun H locs X => ?_)
                refine lv_iconst (v := 0) X.1.1 X.1.2.1 d_rf_define_94 rfl ?_
                refine lv_istore (lv' := [(5, .int _), (4, .int _), (0, .ref _), (1, .int _), (2, .int _), (3, .int _)]) X.1.1 X.1.2.1 d_rf_define_95 L (by decide) rfl (fun ls L => ?_)
                have hr1 : (defineM σ h s z).1 = roomM σ := by simp only [defineM, def3M, eq_true h4, eq_true h11, eq_false h20, eq_false h33, eq_false h37, eq_true h43, eq_true h56, if_true, if_false]
                have loop97 : ∀ (n : Nat) (k : Nat) (σ1 : SS) (H : Heap) (locs : List Loc) (ls : Array Slot), (k + n = 8) → (RGm σ1) → (settleM (sA (hasL n k σ1 (roomM σ)) 12 (ix h) (roomM σ)) = (defineM σ h s z).2) → Cx (ER D ad ci) zp zs zm (([.ref (ad 0), .int h, .int s, .int z] : List Value).toArray) zc b_rf_define 6 "MessageMachineModel" H locs σ1 → lv_has ls 6 [(5, .int (nI k)), (0, .ref (ad 0)), (1, .int h), (2, .int s), (3, .int z), (4, .int (roomM σ))] → W zp l ze ({ frames := 3, cells := 0, slots := 0, locals := 65 } : Room) zs zm (([.ref (ad 0), .int h, .int s, .int z] : List Value).toArray) zb zt zc H locs 0 0 (MQ zb (va_Qi (fun (x : Int32) (u : SS) => x = ((defineM σ h s z).1) ∧ u = ((defineM σ h s z).2)) (fun u t => Pq (ER D ad ci) u t) (ER D ad ci).2.2.2) (([.ref (ad 0), .int h, .int s, .int z] : List Value).toArray) zs 0 0 (ER D ad ci).2.2.2) (F0 zm 97 ls []) := by
                  intro n
                  induction n with
                  | zero =>
                    intro k σ1 H locs ls hk hm1 hq X L
                    refine lv_iload X.1.1 X.1.2.1 d_rf_define_97 (lv_at L 0 rfl) ?_
                    refine lv_bipush (v := 8) X.1.1 X.1.2.1 d_rf_define_99 rfl ?_
                    refine lv_icmp_ge (tgt := 124) X.1.1 X.1.2.1 d_rf_define_101 rfl (fun h101 => ?_) (fun h101 => ?_)
                    · skip
                      refine lv_aload_n X.1.1 X.1.2.1 d_rf_define_124 rfl (lv_at L 1 rfl) ?_
                      refine g_rf_handles X d_rf_define_125 ?_
                      refine lv_iload_n X.1.1 X.1.2.1 d_rf_define_128 rfl (lv_at L 2 rfl) ?_
                      refine lv_iload X.1.1 X.1.2.1 d_rf_define_129 (lv_at L 5 rfl) ?_
                      refine rs_12 hI X (nh_in h4) d_rf_define_131 (fun H locs X => ?_)
                      refine lv_aload_n X.1.1 X.1.2.1 d_rf_define_132 rfl (lv_at L 1 rfl) ?_
                      refine Mv.callV (k := 0) (c_rf_settle hI _ (RGm_12 hm1 _ (vp_nn (room_in h56)))) X (gt_V mw_524 mw_526 ms_32 mw_5 mw_527) ok_rf_settle ⟨rfl, rfl, by decide, by decide⟩ (rc_rf X) rfl L.1 rfl (Nat.le_of_ble_eq_true rfl) d_rf_define_133 (fun H locs X => ?_)
                      refine lv_iload X.1.1 X.1.2.1 d_rf_define_136 (lv_at L 5 rfl) ?_
                      exact X.iret hr hlk d_rf_define_138 hr1.symm hq
                    · skip
                      exact absurd ((le8N (by omega)).mpr (by omega)) h101
                  | succ n ih =>
                    intro k σ1 H locs ls hk hm1 hq X L
                    refine lv_iload X.1.1 X.1.2.1 d_rf_define_97 (lv_at L 0 rfl) ?_
                    refine lv_bipush (v := 8) X.1.1 X.1.2.1 d_rf_define_99 rfl ?_
                    refine lv_icmp_ge (tgt := 124) X.1.1 X.1.2.1 d_rf_define_101 rfl (fun h101 => ?_) (fun h101 => ?_)
                    · skip
                      exact absurd ((le8N (by omega)).mp h101) (by omega)
                    · skip
                      refine lv_aload_n X.1.1 X.1.2.1 d_rf_define_104 rfl (lv_at L 1 rfl) ?_
                      refine g_rf_has X d_rf_define_105 ?_
                      refine lv_bipush (v := 8) X.1.1 X.1.2.1 d_rf_define_108 rfl ?_
                      refine lv_iload X.1.1 X.1.2.1 d_rf_define_110 (lv_at L 5 rfl) ?_
                      refine lv_imul X.1.1 X.1.2.1 d_rf_define_112 ?_
                      refine lv_iload X.1.1 X.1.2.1 d_rf_define_113 (lv_at L 0 rfl) ?_
                      refine lv_iadd X.1.1 X.1.2.1 d_rf_define_115 ?_
                      refine lv_iconst (v := 0) X.1.1 X.1.2.1 d_rf_define_116 rfl ?_
                      refine rs_9 hI X (slv (room_in h56) (vp_k (by omega) (by decide))) rfl d_rf_define_117 (fun H locs X => ?_)
                      refine lv_iinc (k := 0) (lv' := [(5, .int (nI (k + 1))), (0, .ref _), (1, .int _), (2, .int _), (3, .int _), (4, .int _)]) X.1.1 X.1.2.1 d_rf_define_118 L rfl (nI_inc k) (by decide) rfl (fun ls L => ?_)
                      refine lv_goto (tgt := 97) X.1.1 X.1.2.1 d_rf_define_121 rfl ?_
                      exact ih (k + 1) _ _ _ _ (by omega) (RGm_A hm1 (by decide) _ _) (by rw [← hq]; rfl) X L
                exact loop97 8 0 _ _ _ _ (by omega) (RGm_8 (RGm_5 (RGm_make1 hm _ (room_in h56) (vpc (by decide)) (by decide)) _ ((RGm_make1 hm _ (room_in h56) (vpc (by decide)) (by decide)).hn (nh_in h11))) _ (z6 h37 h43)) (by simp only [defineM, def3M, eq_true h4, eq_true h11, eq_false h20, eq_false h33, eq_false h37, eq_true h43, eq_true h56, if_true, if_false]; rfl) X (lv_sub L [0, 2, 3, 4, 5, 1] rfl)
              · skip
                refine lv_iconst (v := (-1)) X.1.1 X.1.2.1 d_rf_define_59 rfl ?_
                exact X.iret hr hlk d_rf_define_60 (by first | (simp only [defineM, def3M, eq_true h4, eq_true h11, eq_false h20, eq_false h33, eq_false h37, eq_true h43, eq_false h56, if_true, if_false]; done) | (simp [defineM, def3M, eq_true h4, eq_true h11, eq_false h20, eq_false h33, eq_false h37, eq_true h43, eq_false h56]; done) | (simp [defineM, def3M, h4, h11, h20, h33, h37, h43, h56]; done) | rfl) (by first | (simp only [defineM, def3M, eq_true h4, eq_true h11, eq_false h20, eq_false h33, eq_false h37, eq_true h43, eq_false h56, if_true, if_false]; done) | (simp [defineM, def3M, eq_true h4, eq_true h11, eq_false h20, eq_false h33, eq_false h37, eq_true h43, eq_false h56]; done) | (simp [defineM, def3M, h4, h11, h20, h33, h37, h43, h56]; done) | rfl)
            · skip
              refine lv_iconst (v := (-1)) X.1.1 X.1.2.1 d_rf_define_46 rfl ?_
              exact X.iret hr hlk d_rf_define_47 (by first | (simp only [defineM, def3M, eq_true h4, eq_true h11, eq_false h20, eq_false h33, eq_false h37, eq_false h43, if_true, if_false]; done) | (simp [defineM, def3M, eq_true h4, eq_true h11, eq_false h20, eq_false h33, eq_false h37, eq_false h43]; done) | (simp [defineM, def3M, h4, h11, h20, h33, h37, h43]; done) | rfl) (by first | (simp only [defineM, def3M, eq_true h4, eq_true h11, eq_false h20, eq_false h33, eq_false h37, eq_false h43, if_true, if_false]; done) | (simp [defineM, def3M, eq_true h4, eq_true h11, eq_false h20, eq_false h33, eq_false h37, eq_false h43]; done) | (simp [defineM, def3M, h4, h11, h20, h33, h37, h43]; done) | rfl)
set_option maxHeartbeats 4000000 in
theorem c_rf_method {l : Launch} {D : va_G} {ad : Nat → Nat} {ci : Nat → ClassId} (hI : InjR ad) (σ : SS) (c t : Int32) (lo hi : Int64) (hm : RGm σ) : Mi l y_rf_method b_rf_method 9 (some .boolean) ({ frames := 3, cells := 0, slots := 0, locals := 65 } : Room) (ER D ad ci) [.ref (ad 0), .int c, .int t, .long lo, .long hi] σ ((methodM σ c t lo hi).1) ((methodM σ c t lo hi).2) := by
  refine Mi.start pn_rf (Nat.le_of_ble_eq_true rfl) (fun zp ze zs zm zb zt zc ls X hr hlk L => ?_)
  have L : lv_has ls 9 [(0, .ref (ad 0)), (1, .int c), (2, .int t), (3, .long lo), (5, .long hi)] := L
  refine lv_iload_n X.1.1 X.1.2.1 d_rf_method_0 rfl (lv_at L 1 rfl) ?_
  refine Mi.callS (k := 1) (c_rf_noHandle hI _ _) X mw_585 mw_586 mw_5 mw_587 ok_rf_noHandle ⟨rfl, rfl, by decide, by decide⟩ rfl L.1 rfl (Nat.le_of_ble_eq_true rfl) d_rf_method_1 (fun H locs X => ?_)
  refine lv_if_ne (tgt := 27) X.1.1 X.1.2.1 d_rf_method_4 rfl (fun h4 => ?_) (fun h4 => ?_)
  · skip
    refine lv_iconst (v := 0) X.1.1 X.1.2.1 d_rf_method_27 rfl ?_
    exact X.zret hr hlk d_rf_method_28 (by first | rfl | assumption) (by first | (simp only [methodM, eq_false h4, if_true, if_false]; done) | (simp [methodM, eq_false h4]; done) | (simp [methodM, h4]; done) | rfl) (by first | (simp only [methodM, eq_false h4, if_true, if_false]; done) | (simp [methodM, eq_false h4]; done) | (simp [methodM, h4]; done) | rfl)
  · skip
    refine lv_iload_n X.1.1 X.1.2.1 d_rf_method_7 rfl (lv_at L 2 rfl) ?_
    refine Mi.callS (k := 1) (c_rf_noSelector hI _ _) X mw_604 mw_605 mw_5 mw_606 ok_rf_noSelector ⟨rfl, rfl, by decide, by decide⟩ rfl L.1 rfl (Nat.le_of_ble_eq_true rfl) d_rf_method_8 (fun H locs X => ?_)
    refine lv_if_ne (tgt := 27) X.1.1 X.1.2.1 d_rf_method_11 rfl (fun h11 => ?_) (fun h11 => ?_)
    · skip
      refine lv_iconst (v := 0) X.1.1 X.1.2.1 d_rf_method_27 rfl ?_
      exact X.zret hr hlk d_rf_method_28 (by first | rfl | assumption) (by first | (simp only [methodM, eq_true h4, eq_false h11, if_true, if_false]; done) | (simp [methodM, eq_true h4, eq_false h11]; done) | (simp [methodM, h4, h11]; done) | rfl) (by first | (simp only [methodM, eq_true h4, eq_false h11, if_true, if_false]; done) | (simp [methodM, eq_true h4, eq_false h11]; done) | (simp [methodM, h4, h11]; done) | rfl)
    · skip
      refine lv_aload_n X.1.1 X.1.2.1 d_rf_method_14 rfl (lv_at L 0 rfl) ?_
      refine lv_aload_n X.1.1 X.1.2.1 d_rf_method_15 rfl (lv_at L 0 rfl) ?_
      refine g_rf_handles X d_rf_method_16 ?_
      refine lv_iload_n X.1.1 X.1.2.1 d_rf_method_19 rfl (lv_at L 1 rfl) ?_
      refine rl_12 X (nh_in h4) d_rf_method_20 ?_
      refine Mi.callV (k := 1) (c_rf_isClass hI _ _ (hm.hn (nh_in h4))) X (gt_V mw_588 mw_590 ms_34 mw_5 mw_591) ok_rf_isClass ⟨rfl, rfl, by decide, by decide⟩ (rc_rf X) rfl L.1 rfl (Nat.le_of_ble_eq_true rfl) d_rf_method_21 (fun H locs X => ?_)
      refine lv_if_ne (tgt := 29) X.1.1 X.1.2.1 d_rf_method_24 rfl (fun h24 => ?_) (fun h24 => ?_)
      · skip
        refine lv_bipush (v := 8) X.1.1 X.1.2.1 d_rf_method_29 rfl ?_
        refine lv_aload_n X.1.1 X.1.2.1 d_rf_method_31 rfl (lv_at L 0 rfl) ?_
        refine g_rf_handles X d_rf_method_32 ?_
        refine lv_iload_n X.1.1 X.1.2.1 d_rf_method_35 rfl (lv_at L 1 rfl) ?_
        refine rl_12 X (nh_in h4) d_rf_method_36 ?_
        refine lv_imul X.1.1 X.1.2.1 d_rf_method_37 ?_
        refine lv_iload_n X.1.1 X.1.2.1 d_rf_method_38 rfl (lv_at L 2 rfl) ?_
        refine lv_iadd X.1.1 X.1.2.1 d_rf_method_39 ?_
        refine lv_istore (lv' := [(7, .int _), (0, .ref _), (1, .int _), (2, .int _), (3, .long _), (5, .long _)]) X.1.1 X.1.2.1 d_rf_method_40 L (by decide) rfl (fun ls L => ?_)
        refine lv_aload_n X.1.1 X.1.2.1 d_rf_method_42 rfl (lv_at L 1 rfl) ?_
        refine g_rf_has X d_rf_method_43 ?_
        refine lv_iload X.1.1 X.1.2.1 d_rf_method_46 (lv_at L 0 rfl) ?_
        refine lv_iconst (v := 1) X.1.1 X.1.2.1 d_rf_method_48 rfl ?_
        refine rs_9 hI X (slv (isClassM_in h24 (hm.hn (nh_in h4))) (ns_in h11)) rfl d_rf_method_49 (fun H locs X => ?_)
        refine lv_iconst (v := 0) X.1.1 X.1.2.1 d_rf_method_50 rfl ?_
        refine lv_istore (lv' := [(8, .int _), (7, .int _), (0, .ref _), (1, .int _), (2, .int _), (3, .long _), (5, .long _)]) X.1.1 X.1.2.1 d_rf_method_51 L (by decide) rfl (fun ls L => ?_)
        have hsl : vp_in (slM σ c t) 224 := slv (isClassM_in h24 (hm.hn (nh_in h4))) (ns_in h11)
        have hr1 : (methodM σ c t lo hi).1 = 1 := by simp only [methodM, eq_true h4, eq_true h11, eq_false h24, if_true, if_false]
        have loop53 : ∀ (n : Nat) (k : Nat) (σ1 : SS) (H : Heap) (locs : List Loc) (ls : Array Slot), (k + n = 8) → (RGm σ1) → (settleM (codeL n k σ1 (slM σ c t) lo hi) = (methodM σ c t lo hi).2) → Cx (ER D ad ci) zp zs zm (([.ref (ad 0), .int c, .int t, .long lo, .long hi] : List Value).toArray) zc b_rf_method 9 "MessageMachineModel" H locs σ1 → lv_has ls 9 [(8, .int (nI k)), (7, .int (slM σ c t)), (0, .ref (ad 0)), (1, .int c), (2, .int t), (3, .long lo), (5, .long hi)] → W zp l ze ({ frames := 3, cells := 0, slots := 0, locals := 65 } : Room) zs zm (([.ref (ad 0), .int c, .int t, .long lo, .long hi] : List Value).toArray) zb zt zc H locs 0 0 (MQ zb (va_Qi (fun (x : Int32) (u : SS) => x = ((methodM σ c t lo hi).1) ∧ u = ((methodM σ c t lo hi).2)) (fun u t => Pq (ER D ad ci) u t) (ER D ad ci).2.2.2) (([.ref (ad 0), .int c, .int t, .long lo, .long hi] : List Value).toArray) zs 0 0 (ER D ad ci).2.2.2) (F0 zm 53 ls []) := by
          intro n
          induction n with
          | zero =>
            intro k σ1 H locs ls hk hm1 hq X L
            refine lv_iload X.1.1 X.1.2.1 d_rf_method_53 (lv_at L 0 rfl) ?_
            refine lv_bipush (v := 8) X.1.1 X.1.2.1 d_rf_method_55 rfl ?_
            refine lv_icmp_ge (tgt := 120) X.1.1 X.1.2.1 d_rf_method_57 rfl (fun h57 => ?_) (fun h57 => ?_)
            · skip
              refine lv_aload_n X.1.1 X.1.2.1 d_rf_method_120 rfl (lv_at L 2 rfl) ?_
              refine Mv.callV (k := 0) (c_rf_settle hI _ hm1) X (gt_V mw_524 mw_526 ms_32 mw_5 mw_527) ok_rf_settle ⟨rfl, rfl, by decide, by decide⟩ (rc_rf X) rfl L.1 rfl (Nat.le_of_ble_eq_true rfl) d_rf_method_121 (fun H locs X => ?_)
              refine lv_iconst (v := 1) X.1.1 X.1.2.1 d_rf_method_124 rfl ?_
              exact X.zret hr hlk d_rf_method_125 (by first | rfl | assumption) hr1.symm hq
            · skip
              exact absurd ((le8N (by omega)).mpr (by omega)) h57
          | succ n ih =>
            intro k σ1 H locs ls hk hm1 hq X L
            refine lv_iload X.1.1 X.1.2.1 d_rf_method_53 (lv_at L 0 rfl) ?_
            refine lv_bipush (v := 8) X.1.1 X.1.2.1 d_rf_method_55 rfl ?_
            refine lv_icmp_ge (tgt := 120) X.1.1 X.1.2.1 d_rf_method_57 rfl (fun h57 => ?_) (fun h57 => ?_)
            · skip
              exact absurd ((le8N (by omega)).mp h57) (by omega)
            · skip
              refine lv_aload_n X.1.1 X.1.2.1 d_rf_method_60 rfl (lv_at L 2 rfl) ?_
              refine g_rf_code X d_rf_method_61 ?_
              refine lv_bipush (v := 16) X.1.1 X.1.2.1 d_rf_method_64 rfl ?_
              refine lv_iload X.1.1 X.1.2.1 d_rf_method_66 (lv_at L 1 rfl) ?_
              refine lv_imul X.1.1 X.1.2.1 d_rf_method_68 ?_
              refine lv_iload X.1.1 X.1.2.1 d_rf_method_69 (lv_at L 0 rfl) ?_
              refine lv_iadd X.1.1 X.1.2.1 d_rf_method_71 ?_
              refine lv_lload_n X.1.1 X.1.2.1 d_rf_method_72 rfl (lv_at L 5 rfl) ?_
              refine lv_bipush (v := 8) X.1.1 X.1.2.1 d_rf_method_73 rfl ?_
              refine lv_iload X.1.1 X.1.2.1 d_rf_method_75 (lv_at L 0 rfl) ?_
              refine lv_imul X.1.1 X.1.2.1 d_rf_method_77 ?_
              refine lv_lshr X.1.1 X.1.2.1 d_rf_method_78 rfl ?_
              refine lv_ldc2 (own := "MessageMachineModel") (v := 255) X.1.1 X.1.2.1 X.1.2.2.2.1 (X.1.2.2.2.2 _ mw_607) d_rf_method_79 ?_
              refine lv_land X.1.1 X.1.2.1 d_rf_method_82 ?_
              refine lv_l2i X.1.1 X.1.2.1 d_rf_method_83 rfl ?_
              refine rs_10 hI X (cdv hsl (by omega)) d_rf_method_84 (fun H locs X => ?_)
              refine lv_aload_n X.1.1 X.1.2.1 d_rf_method_85 rfl (lv_at L 2 rfl) ?_
              refine g_rf_code X d_rf_method_86 ?_
              refine lv_bipush (v := 16) X.1.1 X.1.2.1 d_rf_method_89 rfl ?_
              refine lv_iload X.1.1 X.1.2.1 d_rf_method_91 (lv_at L 1 rfl) ?_
              refine lv_imul X.1.1 X.1.2.1 d_rf_method_93 ?_
              refine lv_bipush (v := 8) X.1.1 X.1.2.1 d_rf_method_94 rfl ?_
              refine lv_iadd X.1.1 X.1.2.1 d_rf_method_96 ?_
              refine lv_iload X.1.1 X.1.2.1 d_rf_method_97 (lv_at L 0 rfl) ?_
              refine lv_iadd X.1.1 X.1.2.1 d_rf_method_99 ?_
              refine lv_lload X.1.1 X.1.2.1 d_rf_method_100 (lv_at L 6 rfl) ?_
              refine lv_bipush (v := 8) X.1.1 X.1.2.1 d_rf_method_102 rfl ?_
              refine lv_iload X.1.1 X.1.2.1 d_rf_method_104 (lv_at L 0 rfl) ?_
              refine lv_imul X.1.1 X.1.2.1 d_rf_method_106 ?_
              refine lv_lshr X.1.1 X.1.2.1 d_rf_method_107 rfl ?_
              refine lv_ldc2 (own := "MessageMachineModel") (v := 255) X.1.1 X.1.2.1 X.1.2.2.2.1 (X.1.2.2.2.2 _ mw_607) d_rf_method_108 ?_
              refine lv_land X.1.1 X.1.2.1 d_rf_method_111 ?_
              refine lv_l2i X.1.1 X.1.2.1 d_rf_method_112 rfl ?_
              refine rs_10 hI X (cdv8 hsl (by omega)) d_rf_method_113 (fun H locs X => ?_)
              refine lv_iinc (k := 0) (lv' := [(8, .int (nI (k + 1))), (7, .int _), (0, .ref _), (1, .int _), (2, .int _), (3, .long _), (5, .long _)]) X.1.1 X.1.2.1 d_rf_method_114 L rfl (nI_inc k) (by decide) rfl (fun ls L => ?_)
              refine lv_goto (tgt := 53) X.1.1 X.1.2.1 d_rf_method_117 rfl ?_
              exact ih (k + 1) _ _ _ _ (by omega) (RGm_A (RGm_A hm1 (by decide) _ _) (by decide) _ _) (by rw [← hq]; rfl) X L
        exact loop53 8 0 _ _ _ _ (by omega) (RGm_A hm (by decide) _ _) (by simp only [methodM, eq_true h4, eq_true h11, eq_false h24, if_true, if_false]; rfl) X L
      · skip
        refine lv_iconst (v := 0) X.1.1 X.1.2.1 d_rf_method_27 rfl ?_
        exact X.zret hr hlk d_rf_method_28 (by first | rfl | assumption) (by first | (simp only [methodM, eq_true h4, eq_true h11, eq_true h24, if_true, if_false]; done) | (simp [methodM, eq_true h4, eq_true h11, eq_true h24]; done) | (simp [methodM, h4, h11, h24]; done) | rfl) (by first | (simp only [methodM, eq_true h4, eq_true h11, eq_true h24, if_true, if_false]; done) | (simp [methodM, eq_true h4, eq_true h11, eq_true h24]; done) | (simp [methodM, h4, h11, h24]; done) | rfl)
set_option maxHeartbeats 4000000 in
theorem c_rf_make {l : Launch} {D : va_G} {ad : Nat → Nat} {ci : Nat → ClassId} (hI : InjR ad) (σ : SS) (h c : Int32) (hm : RGm σ) : Mi l y_rf_make b_rf_make 4 (some .int) ({ frames := 3, cells := 0, slots := 0, locals := 65 } : Room) (ER D ad ci) [.ref (ad 0), .int h, .int c] σ ((makeM σ h c).1) ((makeM σ h c).2) := by
  refine Mi.start pn_rf (Nat.le_of_ble_eq_true rfl) (fun zp ze zs zm zb zt zc ls X hr hlk L => ?_)
  have L : lv_has ls 4 [(0, .ref (ad 0)), (1, .int h), (2, .int c)] := L
  refine lv_iload_n X.1.1 X.1.2.1 d_rf_make_0 rfl (lv_at L 1 rfl) ?_
  refine Mi.callS (k := 1) (c_rf_noHandle hI _ _) X mw_585 mw_586 mw_5 mw_587 ok_rf_noHandle ⟨rfl, rfl, by decide, by decide⟩ rfl L.1 rfl (Nat.le_of_ble_eq_true rfl) d_rf_make_1 (fun H locs X => ?_)
  refine lv_if_ne (tgt := 37) X.1.1 X.1.2.1 d_rf_make_4 rfl (fun h4 => ?_) (fun h4 => ?_)
  · skip
    refine lv_iconst (v := (-1)) X.1.1 X.1.2.1 d_rf_make_37 rfl ?_
    exact X.iret hr hlk d_rf_make_38 (by first | (simp only [makeM, mk2M, eq_false h4, if_true, if_false]; done) | (simp [makeM, mk2M, eq_false h4]; done) | (simp [makeM, mk2M, h4]; done) | rfl) (by first | (simp only [makeM, mk2M, eq_false h4, if_true, if_false]; done) | (simp [makeM, mk2M, eq_false h4]; done) | (simp [makeM, mk2M, h4]; done) | rfl)
  · skip
    refine lv_iload_n X.1.1 X.1.2.1 d_rf_make_7 rfl (lv_at L 2 rfl) ?_
    refine Mi.callS (k := 1) (c_rf_noHandle hI _ _) X mw_585 mw_586 mw_5 mw_587 ok_rf_noHandle ⟨rfl, rfl, by decide, by decide⟩ rfl L.1 rfl (Nat.le_of_ble_eq_true rfl) d_rf_make_8 (fun H locs X => ?_)
    refine lv_if_ne (tgt := 37) X.1.1 X.1.2.1 d_rf_make_11 rfl (fun h11 => ?_) (fun h11 => ?_)
    · skip
      refine lv_iconst (v := (-1)) X.1.1 X.1.2.1 d_rf_make_37 rfl ?_
      exact X.iret hr hlk d_rf_make_38 (by first | (simp only [makeM, mk2M, eq_true h4, eq_false h11, if_true, if_false]; done) | (simp [makeM, mk2M, eq_true h4, eq_false h11]; done) | (simp [makeM, mk2M, h4, h11]; done) | rfl) (by first | (simp only [makeM, mk2M, eq_true h4, eq_false h11, if_true, if_false]; done) | (simp [makeM, mk2M, eq_true h4, eq_false h11]; done) | (simp [makeM, mk2M, h4, h11]; done) | rfl)
    · skip
      refine lv_aload_n X.1.1 X.1.2.1 d_rf_make_14 rfl (lv_at L 0 rfl) ?_
      refine lv_aload_n X.1.1 X.1.2.1 d_rf_make_15 rfl (lv_at L 0 rfl) ?_
      refine g_rf_handles X d_rf_make_16 ?_
      refine lv_iload_n X.1.1 X.1.2.1 d_rf_make_19 rfl (lv_at L 2 rfl) ?_
      refine rl_12 X (nh_in h11) d_rf_make_20 ?_
      refine Mi.callV (k := 1) (c_rf_isClass hI _ _ (hm.hn (nh_in h11))) X (gt_V mw_588 mw_590 ms_34 mw_5 mw_591) ok_rf_isClass ⟨rfl, rfl, by decide, by decide⟩ (rc_rf X) rfl L.1 rfl (Nat.le_of_ble_eq_true rfl) d_rf_make_21 (fun H locs X => ?_)
      refine lv_if_eq (tgt := 37) X.1.1 X.1.2.1 d_rf_make_24 rfl (fun h24 => ?_) (fun h24 => ?_)
      · skip
        refine lv_iconst (v := (-1)) X.1.1 X.1.2.1 d_rf_make_37 rfl ?_
        exact X.iret hr hlk d_rf_make_38 (by first | (simp only [makeM, mk2M, eq_true h4, eq_true h11, eq_true h24, if_true, if_false]; done) | (simp [makeM, mk2M, eq_true h4, eq_true h11, eq_true h24]; done) | (simp [makeM, mk2M, h4, h11, h24]; done) | rfl) (by first | (simp only [makeM, mk2M, eq_true h4, eq_true h11, eq_true h24, if_true, if_false]; done) | (simp [makeM, mk2M, eq_true h4, eq_true h11, eq_true h24]; done) | (simp [makeM, mk2M, h4, h11, h24]; done) | rfl)
      · skip
        refine lv_aload_n X.1.1 X.1.2.1 d_rf_make_27 rfl (lv_at L 0 rfl) ?_
        refine g_rf_handles X d_rf_make_28 ?_
        refine lv_iload_n X.1.1 X.1.2.1 d_rf_make_31 rfl (lv_at L 2 rfl) ?_
        refine rl_12 X (nh_in h11) d_rf_make_32 ?_
        refine lv_iconst (v := 3) X.1.1 X.1.2.1 d_rf_make_33 rfl ?_
        refine lv_icmp_ne (tgt := 39) X.1.1 X.1.2.1 d_rf_make_34 rfl (fun h34 => ?_) (fun h34 => ?_)
        · skip
          refine lv_aload_n X.1.1 X.1.2.1 d_rf_make_39 rfl (lv_at L 0 rfl) ?_
          refine Mi.callV (k := 0) (c_rf_room hI _) X (gt_V mw_592 mw_594 ms_35 mw_5 mw_595) ok_rf_room ⟨rfl, rfl, by decide, by decide⟩ (rc_rf X) rfl L.1 rfl (Nat.le_of_ble_eq_true rfl) d_rf_make_40 (fun H locs X => ?_)
          refine lv_istore_n (lv' := [(3, .int _), (0, .ref _), (1, .int _), (2, .int _)]) X.1.1 X.1.2.1 d_rf_make_43 rfl L (by decide) rfl (fun ls L => ?_)
          refine lv_iload_n X.1.1 X.1.2.1 d_rf_make_44 rfl (lv_at L 0 rfl) ?_
          refine lv_if_ge (tgt := 50) X.1.1 X.1.2.1 d_rf_make_45 rfl (fun h45 => ?_) (fun h45 => ?_)
          · skip
            refine lv_aload_n X.1.1 X.1.2.1 d_rf_make_50 rfl (lv_at L 1 rfl) ?_
            refine lv_iload_n X.1.1 X.1.2.1 d_rf_make_51 rfl (lv_at L 0 rfl) ?_
            refine lv_iconst (v := 0) X.1.1 X.1.2.1 d_rf_make_52 rfl ?_
            refine lv_aload_n X.1.1 X.1.2.1 d_rf_make_53 rfl (lv_at L 1 rfl) ?_
            refine g_rf_handles X d_rf_make_54 ?_
            refine lv_iload_n X.1.1 X.1.2.1 d_rf_make_57 rfl (lv_at L 3 rfl) ?_
            refine rl_12 X (nh_in h11) d_rf_make_58 ?_
            refine lv_aload_n X.1.1 X.1.2.1 d_rf_make_59 rfl (lv_at L 1 rfl) ?_
            refine g_rf_size X d_rf_make_60 ?_
            refine lv_aload_n X.1.1 X.1.2.1 d_rf_make_63 rfl (lv_at L 1 rfl) ?_
            refine g_rf_handles X d_rf_make_64 ?_
            refine lv_iload_n X.1.1 X.1.2.1 d_rf_make_67 rfl (lv_at L 3 rfl) ?_
            refine rl_12 X (nh_in h11) d_rf_make_68 ?_
            refine rl_8 X (isClassM_in h24 (hm.hn (nh_in h11))) d_rf_make_69 ?_
            refine Mv.callV (k := 4) (c_rf_make1 hI _ _ _ _ _ (room_in h45)) X (gt_V mw_596 mw_598 ms_36 mw_5 mw_599) ok_rf_make1 ⟨rfl, rfl, by decide, by decide⟩ (rc_rf X) rfl L.1 rfl (Nat.le_of_ble_eq_true rfl) d_rf_make_70 (fun H locs X => ?_)
            refine lv_aload_n X.1.1 X.1.2.1 d_rf_make_73 rfl (lv_at L 1 rfl) ?_
            refine g_rf_handles X d_rf_make_74 ?_
            refine lv_iload_n X.1.1 X.1.2.1 d_rf_make_77 rfl (lv_at L 2 rfl) ?_
            refine lv_iload_n X.1.1 X.1.2.1 d_rf_make_78 rfl (lv_at L 0 rfl) ?_
            refine rs_12 hI X (nh_in h4) d_rf_make_79 (fun H locs X => ?_)
            refine lv_aload_n X.1.1 X.1.2.1 d_rf_make_80 rfl (lv_at L 1 rfl) ?_
            refine Mv.callV (k := 0) (c_rf_settle hI _ (RGm_12 (RGm_make1 hm _ (room_in h45) (isClassM_in h24 (hm.hn (nh_in h11))) ⟨(hm.sz (isClassM_in h24 (hm.hn (nh_in h11)))).1, by have := (hm.sz (isClassM_in h24 (hm.hn (nh_in h11)))).2; omega⟩) _ (vp_nn (room_in h45)))) X (gt_V mw_524 mw_526 ms_32 mw_5 mw_527) ok_rf_settle ⟨rfl, rfl, by decide, by decide⟩ (rc_rf X) rfl L.1 rfl (Nat.le_of_ble_eq_true rfl) d_rf_make_81 (fun H locs X => ?_)
            refine lv_iload_n X.1.1 X.1.2.1 d_rf_make_84 rfl (lv_at L 0 rfl) ?_
            exact X.iret hr hlk d_rf_make_85 (by first | (simp only [makeM, mk2M, eq_true h4, eq_true h11, eq_false h24, eq_false h34, eq_true h45, if_true, if_false]; done) | (simp [makeM, mk2M, eq_true h4, eq_true h11, eq_false h24, eq_false h34, eq_true h45]; done) | (simp [makeM, mk2M, h4, h11, h24, h34, h45]; done) | rfl) (by first | (simp only [makeM, mk2M, eq_true h4, eq_true h11, eq_false h24, eq_false h34, eq_true h45, if_true, if_false]; done) | (simp [makeM, mk2M, eq_true h4, eq_true h11, eq_false h24, eq_false h34, eq_true h45]; done) | (simp [makeM, mk2M, h4, h11, h24, h34, h45]; done) | rfl)
          · skip
            refine lv_iconst (v := (-1)) X.1.1 X.1.2.1 d_rf_make_48 rfl ?_
            exact X.iret hr hlk d_rf_make_49 (by first | (simp only [makeM, mk2M, eq_true h4, eq_true h11, eq_false h24, eq_false h34, eq_false h45, if_true, if_false]; done) | (simp [makeM, mk2M, eq_true h4, eq_true h11, eq_false h24, eq_false h34, eq_false h45]; done) | (simp [makeM, mk2M, h4, h11, h24, h34, h45]; done) | rfl) (by first | (simp only [makeM, mk2M, eq_true h4, eq_true h11, eq_false h24, eq_false h34, eq_false h45, if_true, if_false]; done) | (simp [makeM, mk2M, eq_true h4, eq_true h11, eq_false h24, eq_false h34, eq_false h45]; done) | (simp [makeM, mk2M, h4, h11, h24, h34, h45]; done) | rfl)
        · skip
          refine lv_iconst (v := (-1)) X.1.1 X.1.2.1 d_rf_make_37 rfl ?_
          exact X.iret hr hlk d_rf_make_38 (by first | (simp only [makeM, mk2M, eq_true h4, eq_true h11, eq_false h24, eq_true h34, if_true, if_false]; done) | (simp [makeM, mk2M, eq_true h4, eq_true h11, eq_false h24, eq_true h34]; done) | (simp [makeM, mk2M, h4, h11, h24, h34]; done) | rfl) (by first | (simp only [makeM, mk2M, eq_true h4, eq_true h11, eq_false h24, eq_true h34, if_true, if_false]; done) | (simp [makeM, mk2M, eq_true h4, eq_true h11, eq_false h24, eq_true h34]; done) | (simp [makeM, mk2M, h4, h11, h24, h34]; done) | rfl)
set_option maxHeartbeats 4000000 in
theorem c_rf_put {l : Launch} {D : va_G} {ad : Nat → Nat} {ci : Nat → ClassId} (hI : InjR ad) (σ : SS) (h w : Int32) (hm : RGm σ) (h_h : vp_in h 6) (n_w : 0 ≤ w.toInt) : Mi l y_rf_put b_rf_put 3 (some .boolean) ({ frames := 3, cells := 0, slots := 0, locals := 65 } : Room) (ER D ad ci) [.ref (ad 0), .int h, .int w] σ (1) (putM σ h w) := by
  refine Mi.start pn_rf (Nat.le_of_ble_eq_true rfl) (fun zp ze zs zm zb zt zc ls X hr hlk L => ?_)
  have L : lv_has ls 3 [(0, .ref (ad 0)), (1, .int h), (2, .int w)] := L
  refine lv_aload_n X.1.1 X.1.2.1 d_rf_put_0 rfl (lv_at L 0 rfl) ?_
  refine g_rf_handles X d_rf_put_1 ?_
  refine lv_iload_n X.1.1 X.1.2.1 d_rf_put_4 rfl (lv_at L 1 rfl) ?_
  refine lv_iload_n X.1.1 X.1.2.1 d_rf_put_5 rfl (lv_at L 2 rfl) ?_
  refine rs_12 hI X h_h d_rf_put_6 (fun H locs X => ?_)
  refine lv_aload_n X.1.1 X.1.2.1 d_rf_put_7 rfl (lv_at L 0 rfl) ?_
  refine Mv.callV (k := 0) (c_rf_settle hI _ (RGm_12 hm _ n_w)) X (gt_V mw_524 mw_526 ms_32 mw_5 mw_527) ok_rf_settle ⟨rfl, rfl, by decide, by decide⟩ (rc_rf X) rfl L.1 rfl (Nat.le_of_ble_eq_true rfl) d_rf_put_8 (fun H locs X => ?_)
  refine lv_iconst (v := 1) X.1.1 X.1.2.1 d_rf_put_11 rfl ?_
  exact X.zret hr hlk d_rf_put_12 (by first | rfl | assumption) rfl rfl
set_option maxHeartbeats 4000000 in
theorem c_rf_number {l : Launch} {D : va_G} {ad : Nat → Nat} {ci : Nat → ClassId} (hI : InjR ad) (σ : SS) (h v : Int32) (hm : RGm σ) : Mi l y_rf_number b_rf_number 3 (some .boolean) ({ frames := 4, cells := 0, slots := 0, locals := 87 } : Room) (ER D ad ci) [.ref (ad 0), .int h, .int v] σ ((numberM σ h v).1) ((numberM σ h v).2) := by
  refine Mi.start pn_rf (Nat.le_of_ble_eq_true rfl) (fun zp ze zs zm zb zt zc ls X hr hlk L => ?_)
  have L : lv_has ls 3 [(0, .ref (ad 0)), (1, .int h), (2, .int v)] := L
  refine lv_iload_n X.1.1 X.1.2.1 d_rf_number_0 rfl (lv_at L 1 rfl) ?_
  refine Mi.callS (k := 1) (c_rf_noHandle hI _ _) X mw_585 mw_586 mw_5 mw_587 ok_rf_noHandle ⟨rfl, rfl, by decide, by decide⟩ rfl L.1 rfl (Nat.le_of_ble_eq_true rfl) d_rf_number_1 (fun H locs X => ?_)
  refine lv_if_ne (tgt := 38) X.1.1 X.1.2.1 d_rf_number_4 rfl (fun h4 => ?_) (fun h4 => ?_)
  · skip
    refine lv_iconst (v := 0) X.1.1 X.1.2.1 d_rf_number_38 rfl ?_
    exact X.zret hr hlk d_rf_number_39 (by first | rfl | assumption) (by first | (simp only [numberM, eq_false h4, if_true, if_false]; done) | (rw [numberM, if_pos h4, if_neg h11, if_pos (Int32.not_lt.mp h18)]) | (rw [numberM, if_pos h4, if_neg h11, if_neg (Int32.not_le.mpr h18)])) (by first | (simp only [numberM, eq_false h4, if_true, if_false]; done) | (rw [numberM, if_pos h4, if_neg h11, if_pos (Int32.not_lt.mp h18)]) | (rw [numberM, if_pos h4, if_neg h11, if_neg (Int32.not_le.mpr h18)]))
  · skip
    refine lv_iload_n X.1.1 X.1.2.1 d_rf_number_7 rfl (lv_at L 2 rfl) ?_
    refine lv_sipush (v := (-512)) X.1.1 X.1.2.1 d_rf_number_8 rfl ?_
    refine lv_icmp_lt (tgt := 38) X.1.1 X.1.2.1 d_rf_number_11 rfl (fun h11 => ?_) (fun h11 => ?_)
    · skip
      refine lv_iconst (v := 0) X.1.1 X.1.2.1 d_rf_number_38 rfl ?_
      exact X.zret hr hlk d_rf_number_39 (by first | rfl | assumption) (by first | (simp only [numberM, eq_true h4, eq_true h11, if_true, if_false]; done) | (rw [numberM, if_pos h4, if_neg h11, if_pos (Int32.not_lt.mp h18)]) | (rw [numberM, if_pos h4, if_neg h11, if_neg (Int32.not_le.mpr h18)])) (by first | (simp only [numberM, eq_true h4, eq_true h11, if_true, if_false]; done) | (rw [numberM, if_pos h4, if_neg h11, if_pos (Int32.not_lt.mp h18)]) | (rw [numberM, if_pos h4, if_neg h11, if_neg (Int32.not_le.mpr h18)]))
    · skip
      refine lv_iload_n X.1.1 X.1.2.1 d_rf_number_14 rfl (lv_at L 2 rfl) ?_
      refine lv_sipush (v := 511) X.1.1 X.1.2.1 d_rf_number_15 rfl ?_
      refine lv_icmp_gt (tgt := 38) X.1.1 X.1.2.1 d_rf_number_18 rfl (fun h18 => ?_) (fun h18 => ?_)
      · skip
        refine lv_iconst (v := 0) X.1.1 X.1.2.1 d_rf_number_38 rfl ?_
        exact X.zret hr hlk d_rf_number_39 (by first | rfl | assumption) (by first | (simp only [numberM, eq_true h4, eq_false h11, eq_true h18, if_true, if_false]; done) | (rw [numberM, if_pos h4, if_neg h11, if_pos (Int32.not_lt.mp h18)]) | (rw [numberM, if_pos h4, if_neg h11, if_neg (Int32.not_le.mpr h18)])) (by first | (simp only [numberM, eq_true h4, eq_false h11, eq_true h18, if_true, if_false]; done) | (rw [numberM, if_pos h4, if_neg h11, if_pos (Int32.not_lt.mp h18)]) | (rw [numberM, if_pos h4, if_neg h11, if_neg (Int32.not_le.mpr h18)]))
      · skip
        refine lv_aload_n X.1.1 X.1.2.1 d_rf_number_21 rfl (lv_at L 0 rfl) ?_
        refine lv_iload_n X.1.1 X.1.2.1 d_rf_number_22 rfl (lv_at L 1 rfl) ?_
        refine lv_sipush (v := 1000) X.1.1 X.1.2.1 d_rf_number_23 rfl ?_
        refine lv_iload_n X.1.1 X.1.2.1 d_rf_number_26 rfl (lv_at L 2 rfl) ?_
        refine lv_iadd X.1.1 X.1.2.1 d_rf_number_27 ?_
        refine Mi.callV (k := 2) (c_rf_put hI _ _ _ hm (nh_in h4) (num_nn h11 (Int32.not_lt.mp h18))) X (gt_V mw_616 mw_618 ms_37 mw_5 mw_619) ok_rf_put ⟨rfl, rfl, by decide, by decide⟩ (rc_rf X) rfl L.1 rfl (Nat.le_of_ble_eq_true rfl) d_rf_number_28 (fun H locs X => ?_)
        refine lv_if_eq (tgt := 38) X.1.1 X.1.2.1 d_rf_number_31 rfl (fun h31 => ?_) (fun h31 => ?_)
        · skip
          exact absurd h31 (by decide)
        · skip
          refine lv_iconst (v := 1) X.1.1 X.1.2.1 d_rf_number_34 rfl ?_
          refine lv_goto (tgt := 39) X.1.1 X.1.2.1 d_rf_number_35 rfl ?_
          exact X.zret hr hlk d_rf_number_39 (by first | rfl | assumption) (by first | (simp only [numberM, eq_true h4, eq_false h11, eq_false h18, eq_false h31, if_true, if_false]; done) | (rw [numberM, if_pos h4, if_neg h11, if_pos (Int32.not_lt.mp h18)]) | (rw [numberM, if_pos h4, if_neg h11, if_neg (Int32.not_le.mpr h18)])) (by first | (simp only [numberM, eq_true h4, eq_false h11, eq_false h18, eq_false h31, if_true, if_false]; done) | (rw [numberM, if_pos h4, if_neg h11, if_pos (Int32.not_lt.mp h18)]) | (rw [numberM, if_pos h4, if_neg h11, if_neg (Int32.not_le.mpr h18)]))
set_option maxHeartbeats 4000000 in
theorem c_rf_move {l : Launch} {D : va_G} {ad : Nat → Nat} {ci : Nat → ClassId} (hI : InjR ad) (σ : SS) (h g : Int32) (hm : RGm σ) : Mi l y_rf_move b_rf_move 3 (some .boolean) ({ frames := 4, cells := 0, slots := 0, locals := 87 } : Room) (ER D ad ci) [.ref (ad 0), .int h, .int g] σ ((moveM σ h g).1) ((moveM σ h g).2) := by
  refine Mi.start pn_rf (Nat.le_of_ble_eq_true rfl) (fun zp ze zs zm zb zt zc ls X hr hlk L => ?_)
  have L : lv_has ls 3 [(0, .ref (ad 0)), (1, .int h), (2, .int g)] := L
  refine lv_iload_n X.1.1 X.1.2.1 d_rf_move_0 rfl (lv_at L 1 rfl) ?_
  refine Mi.callS (k := 1) (c_rf_noHandle hI _ _) X mw_585 mw_586 mw_5 mw_587 ok_rf_noHandle ⟨rfl, rfl, by decide, by decide⟩ rfl L.1 rfl (Nat.le_of_ble_eq_true rfl) d_rf_move_1 (fun H locs X => ?_)
  refine lv_if_ne (tgt := 32) X.1.1 X.1.2.1 d_rf_move_4 rfl (fun h4 => ?_) (fun h4 => ?_)
  · skip
    refine lv_iconst (v := 0) X.1.1 X.1.2.1 d_rf_move_32 rfl ?_
    exact X.zret hr hlk d_rf_move_33 (by first | rfl | assumption) (by first | (simp only [moveM, eq_false h4, if_true, if_false]; done) | (simp [moveM, eq_false h4]; done) | (simp [moveM, h4]; done) | rfl) (by first | (simp only [moveM, eq_false h4, if_true, if_false]; done) | (simp [moveM, eq_false h4]; done) | (simp [moveM, h4]; done) | rfl)
  · skip
    refine lv_iload_n X.1.1 X.1.2.1 d_rf_move_7 rfl (lv_at L 2 rfl) ?_
    refine Mi.callS (k := 1) (c_rf_noHandle hI _ _) X mw_585 mw_586 mw_5 mw_587 ok_rf_noHandle ⟨rfl, rfl, by decide, by decide⟩ rfl L.1 rfl (Nat.le_of_ble_eq_true rfl) d_rf_move_8 (fun H locs X => ?_)
    refine lv_if_ne (tgt := 32) X.1.1 X.1.2.1 d_rf_move_11 rfl (fun h11 => ?_) (fun h11 => ?_)
    · skip
      refine lv_iconst (v := 0) X.1.1 X.1.2.1 d_rf_move_32 rfl ?_
      exact X.zret hr hlk d_rf_move_33 (by first | rfl | assumption) (by first | (simp only [moveM, eq_true h4, eq_false h11, if_true, if_false]; done) | (simp [moveM, eq_true h4, eq_false h11]; done) | (simp [moveM, h4, h11]; done) | rfl) (by first | (simp only [moveM, eq_true h4, eq_false h11, if_true, if_false]; done) | (simp [moveM, eq_true h4, eq_false h11]; done) | (simp [moveM, h4, h11]; done) | rfl)
    · skip
      refine lv_aload_n X.1.1 X.1.2.1 d_rf_move_14 rfl (lv_at L 0 rfl) ?_
      refine lv_iload_n X.1.1 X.1.2.1 d_rf_move_15 rfl (lv_at L 1 rfl) ?_
      refine lv_aload_n X.1.1 X.1.2.1 d_rf_move_16 rfl (lv_at L 0 rfl) ?_
      refine g_rf_handles X d_rf_move_17 ?_
      refine lv_iload_n X.1.1 X.1.2.1 d_rf_move_20 rfl (lv_at L 2 rfl) ?_
      refine rl_12 X (nh_in h11) d_rf_move_21 ?_
      refine Mi.callV (k := 2) (c_rf_put hI _ _ _ hm (nh_in h4) (hm.hn (nh_in h11))) X (gt_V mw_616 mw_618 ms_37 mw_5 mw_619) ok_rf_put ⟨rfl, rfl, by decide, by decide⟩ (rc_rf X) rfl L.1 rfl (Nat.le_of_ble_eq_true rfl) d_rf_move_22 (fun H locs X => ?_)
      refine lv_if_eq (tgt := 32) X.1.1 X.1.2.1 d_rf_move_25 rfl (fun h25 => ?_) (fun h25 => ?_)
      · skip
        exact absurd h25 (by decide)
      · skip
        refine lv_iconst (v := 1) X.1.1 X.1.2.1 d_rf_move_28 rfl ?_
        refine lv_goto (tgt := 33) X.1.1 X.1.2.1 d_rf_move_29 rfl ?_
        exact X.zret hr hlk d_rf_move_33 (by first | rfl | assumption) (by first | (simp only [moveM, eq_true h4, eq_true h11, eq_false h25, if_true, if_false]; done) | (simp [moveM, eq_true h4, eq_true h11, eq_false h25]; done) | (simp [moveM, h4, h11, h25]; done) | rfl) (by first | (simp only [moveM, eq_true h4, eq_true h11, eq_false h25, if_true, if_false]; done) | (simp [moveM, eq_true h4, eq_true h11, eq_false h25]; done) | (simp [moveM, h4, h11, h25]; done) | rfl)
set_option maxHeartbeats 4000000 in
theorem c_rf_drop {l : Launch} {D : va_G} {ad : Nat → Nat} {ci : Nat → ClassId} (hI : InjR ad) (σ : SS) (h : Int32) (hm : RGm σ) : Mi l y_rf_drop b_rf_drop 2 (some .boolean) ({ frames := 4, cells := 0, slots := 0, locals := 87 } : Room) (ER D ad ci) [.ref (ad 0), .int h] σ ((dropM σ h).1) ((dropM σ h).2) := by
  refine Mi.start pn_rf (Nat.le_of_ble_eq_true rfl) (fun zp ze zs zm zb zt zc ls X hr hlk L => ?_)
  have L : lv_has ls 2 [(0, .ref (ad 0)), (1, .int h)] := L
  refine lv_iload_n X.1.1 X.1.2.1 d_rf_drop_0 rfl (lv_at L 1 rfl) ?_
  refine Mi.callS (k := 1) (c_rf_noHandle hI _ _) X mw_585 mw_586 mw_5 mw_587 ok_rf_noHandle ⟨rfl, rfl, by decide, by decide⟩ rfl L.1 rfl (Nat.le_of_ble_eq_true rfl) d_rf_drop_1 (fun H locs X => ?_)
  refine lv_if_ne (tgt := 20) X.1.1 X.1.2.1 d_rf_drop_4 rfl (fun h4 => ?_) (fun h4 => ?_)
  · skip
    refine lv_iconst (v := 0) X.1.1 X.1.2.1 d_rf_drop_20 rfl ?_
    exact X.zret hr hlk d_rf_drop_21 (by first | rfl | assumption) (by first | (simp only [dropM, eq_false h4, if_true, if_false]; done) | (simp [dropM, eq_false h4]; done) | (simp [dropM, h4]; done) | rfl) (by first | (simp only [dropM, eq_false h4, if_true, if_false]; done) | (simp [dropM, eq_false h4]; done) | (simp [dropM, h4]; done) | rfl)
  · skip
    refine lv_aload_n X.1.1 X.1.2.1 d_rf_drop_7 rfl (lv_at L 0 rfl) ?_
    refine lv_iload_n X.1.1 X.1.2.1 d_rf_drop_8 rfl (lv_at L 1 rfl) ?_
    refine lv_iconst (v := 0) X.1.1 X.1.2.1 d_rf_drop_9 rfl ?_
    refine Mi.callV (k := 2) (c_rf_put hI _ _ _ hm (nh_in h4) (by decide)) X (gt_V mw_616 mw_618 ms_37 mw_5 mw_619) ok_rf_put ⟨rfl, rfl, by decide, by decide⟩ (rc_rf X) rfl L.1 rfl (Nat.le_of_ble_eq_true rfl) d_rf_drop_10 (fun H locs X => ?_)
    refine lv_if_eq (tgt := 20) X.1.1 X.1.2.1 d_rf_drop_13 rfl (fun h13 => ?_) (fun h13 => ?_)
    · skip
      exact absurd h13 (by decide)
    · skip
      refine lv_iconst (v := 1) X.1.1 X.1.2.1 d_rf_drop_16 rfl ?_
      refine lv_goto (tgt := 21) X.1.1 X.1.2.1 d_rf_drop_17 rfl ?_
      exact X.zret hr hlk d_rf_drop_21 (by first | rfl | assumption) (by first | (simp only [dropM, eq_true h4, eq_false h13, if_true, if_false]; done) | (simp [dropM, eq_true h4, eq_false h13]; done) | (simp [dropM, h4, h13]; done) | rfl) (by first | (simp only [dropM, eq_true h4, eq_false h13, if_true, if_false]; done) | (simp [dropM, eq_true h4, eq_false h13]; done) | (simp [dropM, h4, h13]; done) | rfl)
set_option maxHeartbeats 4000000 in
theorem c_rf_fetch {l : Launch} {D : va_G} {ad : Nat → Nat} {ci : Nat → ClassId} (hI : InjR ad) (σ : SS) (h g k : Int32) (hm : RGm σ) : Mi l y_rf_fetch b_rf_fetch 4 (some .boolean) ({ frames := 4, cells := 0, slots := 0, locals := 87 } : Room) (ER D ad ci) [.ref (ad 0), .int h, .int g, .int k] σ ((fetchM σ h g k).1) ((fetchM σ h g k).2) := by
  refine Mi.start pn_rf (Nat.le_of_ble_eq_true rfl) (fun zp ze zs zm zb zt zc ls X hr hlk L => ?_)
  have L : lv_has ls 4 [(0, .ref (ad 0)), (1, .int h), (2, .int g), (3, .int k)] := L
  refine lv_iload_n X.1.1 X.1.2.1 d_rf_fetch_0 rfl (lv_at L 1 rfl) ?_
  refine Mi.callS (k := 1) (c_rf_noHandle hI _ _) X mw_585 mw_586 mw_5 mw_587 ok_rf_noHandle ⟨rfl, rfl, by decide, by decide⟩ rfl L.1 rfl (Nat.le_of_ble_eq_true rfl) d_rf_fetch_1 (fun H locs X => ?_)
  refine lv_if_ne (tgt := 56) X.1.1 X.1.2.1 d_rf_fetch_4 rfl (fun h4 => ?_) (fun h4 => ?_)
  · skip
    refine lv_iconst (v := 0) X.1.1 X.1.2.1 d_rf_fetch_56 rfl ?_
    exact X.zret hr hlk d_rf_fetch_57 (by first | rfl | assumption) (by first | (simp only [fetchM, eq_false h4, if_true, if_false]; done) | (simp [fetchM, eq_false h4]; done) | (simp [fetchM, h4]; done) | rfl) (by first | (simp only [fetchM, eq_false h4, if_true, if_false]; done) | (simp [fetchM, eq_false h4]; done) | (simp [fetchM, h4]; done) | rfl)
  · skip
    refine lv_iload_n X.1.1 X.1.2.1 d_rf_fetch_7 rfl (lv_at L 2 rfl) ?_
    refine Mi.callS (k := 1) (c_rf_noHandle hI _ _) X mw_585 mw_586 mw_5 mw_587 ok_rf_noHandle ⟨rfl, rfl, by decide, by decide⟩ rfl L.1 rfl (Nat.le_of_ble_eq_true rfl) d_rf_fetch_8 (fun H locs X => ?_)
    refine lv_if_ne (tgt := 56) X.1.1 X.1.2.1 d_rf_fetch_11 rfl (fun h11 => ?_) (fun h11 => ?_)
    · skip
      refine lv_iconst (v := 0) X.1.1 X.1.2.1 d_rf_fetch_56 rfl ?_
      exact X.zret hr hlk d_rf_fetch_57 (by first | rfl | assumption) (by first | (simp only [fetchM, eq_true h4, eq_false h11, if_true, if_false]; done) | (simp [fetchM, eq_true h4, eq_false h11]; done) | (simp [fetchM, h4, h11]; done) | rfl) (by first | (simp only [fetchM, eq_true h4, eq_false h11, if_true, if_false]; done) | (simp [fetchM, eq_true h4, eq_false h11]; done) | (simp [fetchM, h4, h11]; done) | rfl)
    · skip
      refine lv_aload_n X.1.1 X.1.2.1 d_rf_fetch_14 rfl (lv_at L 0 rfl) ?_
      refine lv_aload_n X.1.1 X.1.2.1 d_rf_fetch_15 rfl (lv_at L 0 rfl) ?_
      refine g_rf_handles X d_rf_fetch_16 ?_
      refine lv_iload_n X.1.1 X.1.2.1 d_rf_fetch_19 rfl (lv_at L 2 rfl) ?_
      refine rl_12 X (nh_in h11) d_rf_fetch_20 ?_
      refine lv_iload_n X.1.1 X.1.2.1 d_rf_fetch_21 rfl (lv_at L 3 rfl) ?_
      refine Mi.callV (k := 2) (c_rf_hasField hI _ _ _ (hm.hn (nh_in h11))) X (gt_V mw_632 mw_634 ms_38 mw_5 mw_635) ok_rf_hasField ⟨rfl, rfl, by decide, by decide⟩ (rc_rf X) rfl L.1 rfl (Nat.le_of_ble_eq_true rfl) d_rf_fetch_22 (fun H locs X => ?_)
      refine lv_if_eq (tgt := 56) X.1.1 X.1.2.1 d_rf_fetch_25 rfl (fun h25 => ?_) (fun h25 => ?_)
      · skip
        refine lv_iconst (v := 0) X.1.1 X.1.2.1 d_rf_fetch_56 rfl ?_
        exact X.zret hr hlk d_rf_fetch_57 (by first | rfl | assumption) (by first | (simp only [fetchM, eq_true h4, eq_true h11, eq_true h25, if_true, if_false]; done) | (simp [fetchM, eq_true h4, eq_true h11, eq_true h25]; done) | (simp [fetchM, h4, h11, h25]; done) | rfl) (by first | (simp only [fetchM, eq_true h4, eq_true h11, eq_true h25, if_true, if_false]; done) | (simp [fetchM, eq_true h4, eq_true h11, eq_true h25]; done) | (simp [fetchM, h4, h11, h25]; done) | rfl)
      · skip
        refine lv_aload_n X.1.1 X.1.2.1 d_rf_fetch_28 rfl (lv_at L 0 rfl) ?_
        refine lv_iload_n X.1.1 X.1.2.1 d_rf_fetch_29 rfl (lv_at L 1 rfl) ?_
        refine lv_aload_n X.1.1 X.1.2.1 d_rf_fetch_30 rfl (lv_at L 0 rfl) ?_
        refine g_rf_word X d_rf_fetch_31 ?_
        refine lv_bipush (v := 15) X.1.1 X.1.2.1 d_rf_fetch_34 rfl ?_
        refine lv_aload_n X.1.1 X.1.2.1 d_rf_fetch_36 rfl (lv_at L 0 rfl) ?_
        refine g_rf_handles X d_rf_fetch_37 ?_
        refine lv_iload_n X.1.1 X.1.2.1 d_rf_fetch_40 rfl (lv_at L 2 rfl) ?_
        refine rl_12 X (nh_in h11) d_rf_fetch_41 ?_
        refine lv_imul X.1.1 X.1.2.1 d_rf_fetch_42 ?_
        refine lv_iload_n X.1.1 X.1.2.1 d_rf_fetch_43 rfl (lv_at L 3 rfl) ?_
        refine lv_iadd X.1.1 X.1.2.1 d_rf_fetch_44 ?_
        refine rl_5 X (wiv (hasFieldM_in hm h25 (hm.hn (nh_in h11))).1 (hasFieldM_in hm h25 (hm.hn (nh_in h11))).2) d_rf_fetch_45 ?_
        refine Mi.callV (k := 2) (c_rf_put hI _ _ _ hm (nh_in h4) (hm.wd (wiv (hasFieldM_in hm h25 (hm.hn (nh_in h11))).1 (hasFieldM_in hm h25 (hm.hn (nh_in h11))).2))) X (gt_V mw_616 mw_618 ms_37 mw_5 mw_619) ok_rf_put ⟨rfl, rfl, by decide, by decide⟩ (rc_rf X) rfl L.1 rfl (Nat.le_of_ble_eq_true rfl) d_rf_fetch_46 (fun H locs X => ?_)
        refine lv_if_eq (tgt := 56) X.1.1 X.1.2.1 d_rf_fetch_49 rfl (fun h49 => ?_) (fun h49 => ?_)
        · skip
          exact absurd h49 (by decide)
        · skip
          refine lv_iconst (v := 1) X.1.1 X.1.2.1 d_rf_fetch_52 rfl ?_
          refine lv_goto (tgt := 57) X.1.1 X.1.2.1 d_rf_fetch_53 rfl ?_
          exact X.zret hr hlk d_rf_fetch_57 (by first | rfl | assumption) (by first | (simp only [fetchM, eq_true h4, eq_true h11, eq_false h25, eq_false h49, if_true, if_false]; done) | (simp [fetchM, eq_true h4, eq_true h11, eq_false h25, eq_false h49]; done) | (simp [fetchM, h4, h11, h25, h49]; done) | rfl) (by first | (simp only [fetchM, eq_true h4, eq_true h11, eq_false h25, eq_false h49, if_true, if_false]; done) | (simp [fetchM, eq_true h4, eq_true h11, eq_false h25, eq_false h49]; done) | (simp [fetchM, h4, h11, h25, h49]; done) | rfl)
set_option maxHeartbeats 4000000 in
theorem c_rf_kind {l : Launch} {D : va_G} {ad : Nat → Nat} {ci : Nat → ClassId} (hI : InjR ad) (σ : SS) (h g : Int32) (hm : RGm σ) : Mi l y_rf_kind b_rf_kind 3 (some .boolean) ({ frames := 4, cells := 0, slots := 0, locals := 87 } : Room) (ER D ad ci) [.ref (ad 0), .int h, .int g] σ ((kindM σ h g).1) ((kindM σ h g).2) := by
  refine Mi.start pn_rf (Nat.le_of_ble_eq_true rfl) (fun zp ze zs zm zb zt zc ls X hr hlk L => ?_)
  have L : lv_has ls 3 [(0, .ref (ad 0)), (1, .int h), (2, .int g)] := L
  refine lv_iload_n X.1.1 X.1.2.1 d_rf_kind_0 rfl (lv_at L 1 rfl) ?_
  refine Mi.callS (k := 1) (c_rf_noHandle hI _ _) X mw_585 mw_586 mw_5 mw_587 ok_rf_noHandle ⟨rfl, rfl, by decide, by decide⟩ rfl L.1 rfl (Nat.le_of_ble_eq_true rfl) d_rf_kind_1 (fun H locs X => ?_)
  refine lv_if_ne (tgt := 36) X.1.1 X.1.2.1 d_rf_kind_4 rfl (fun h4 => ?_) (fun h4 => ?_)
  · skip
    refine lv_iconst (v := 0) X.1.1 X.1.2.1 d_rf_kind_36 rfl ?_
    exact X.zret hr hlk d_rf_kind_37 (by first | rfl | assumption) (by first | (simp only [kindM, eq_false h4, if_true, if_false]; done) | (simp [kindM, eq_false h4]; done) | (simp [kindM, h4]; done) | rfl) (by first | (simp only [kindM, eq_false h4, if_true, if_false]; done) | (simp [kindM, eq_false h4]; done) | (simp [kindM, h4]; done) | rfl)
  · skip
    refine lv_iload_n X.1.1 X.1.2.1 d_rf_kind_7 rfl (lv_at L 2 rfl) ?_
    refine Mi.callS (k := 1) (c_rf_noHandle hI _ _) X mw_585 mw_586 mw_5 mw_587 ok_rf_noHandle ⟨rfl, rfl, by decide, by decide⟩ rfl L.1 rfl (Nat.le_of_ble_eq_true rfl) d_rf_kind_8 (fun H locs X => ?_)
    refine lv_if_ne (tgt := 36) X.1.1 X.1.2.1 d_rf_kind_11 rfl (fun h11 => ?_) (fun h11 => ?_)
    · skip
      refine lv_iconst (v := 0) X.1.1 X.1.2.1 d_rf_kind_36 rfl ?_
      exact X.zret hr hlk d_rf_kind_37 (by first | rfl | assumption) (by first | (simp only [kindM, eq_true h4, eq_false h11, if_true, if_false]; done) | (simp [kindM, eq_true h4, eq_false h11]; done) | (simp [kindM, h4, h11]; done) | rfl) (by first | (simp only [kindM, eq_true h4, eq_false h11, if_true, if_false]; done) | (simp [kindM, eq_true h4, eq_false h11]; done) | (simp [kindM, h4, h11]; done) | rfl)
    · skip
      refine lv_aload_n X.1.1 X.1.2.1 d_rf_kind_14 rfl (lv_at L 0 rfl) ?_
      refine lv_iload_n X.1.1 X.1.2.1 d_rf_kind_15 rfl (lv_at L 1 rfl) ?_
      refine lv_aload_n X.1.1 X.1.2.1 d_rf_kind_16 rfl (lv_at L 0 rfl) ?_
      refine lv_aload_n X.1.1 X.1.2.1 d_rf_kind_17 rfl (lv_at L 0 rfl) ?_
      refine g_rf_handles X d_rf_kind_18 ?_
      refine lv_iload_n X.1.1 X.1.2.1 d_rf_kind_21 rfl (lv_at L 2 rfl) ?_
      refine rl_12 X (nh_in h11) d_rf_kind_22 ?_
      refine Mi.callV (k := 1) (c_rf_classOfWord hI _ _ (hm.hn (nh_in h11))) X (gt_V mw_640 mw_642 ms_39 mw_5 mw_643) ok_rf_classOfWord ⟨rfl, rfl, by decide, by decide⟩ (rc_rf X) rfl L.1 rfl (Nat.le_of_ble_eq_true rfl) d_rf_kind_23 (fun H locs X => ?_)
      refine Mi.callV (k := 2) (c_rf_put hI _ _ _ hm (nh_in h4) (vp_nn (cowM_in hm (hm.hn (nh_in h11))))) X (gt_V mw_616 mw_618 ms_37 mw_5 mw_619) ok_rf_put ⟨rfl, rfl, by decide, by decide⟩ (rc_rf X) rfl L.1 rfl (Nat.le_of_ble_eq_true rfl) d_rf_kind_26 (fun H locs X => ?_)
      refine lv_if_eq (tgt := 36) X.1.1 X.1.2.1 d_rf_kind_29 rfl (fun h29 => ?_) (fun h29 => ?_)
      · skip
        exact absurd h29 (by decide)
      · skip
        refine lv_iconst (v := 1) X.1.1 X.1.2.1 d_rf_kind_32 rfl ?_
        refine lv_goto (tgt := 37) X.1.1 X.1.2.1 d_rf_kind_33 rfl ?_
        exact X.zret hr hlk d_rf_kind_37 (by first | rfl | assumption) (by first | (simp only [kindM, eq_true h4, eq_true h11, eq_false h29, if_true, if_false]; done) | (simp [kindM, eq_true h4, eq_true h11, eq_false h29]; done) | (simp [kindM, h4, h11, h29]; done) | rfl) (by first | (simp only [kindM, eq_true h4, eq_true h11, eq_false h29, if_true, if_false]; done) | (simp [kindM, eq_true h4, eq_true h11, eq_false h29]; done) | (simp [kindM, h4, h11, h29]; done) | rfl)
set_option maxHeartbeats 4000000 in
theorem c_rf_store {l : Launch} {D : va_G} {ad : Nat → Nat} {ci : Nat → ClassId} (hI : InjR ad) (σ : SS) (g k h : Int32) (hm : RGm σ) : Mi l y_rf_store b_rf_store 4 (some .boolean) ({ frames := 3, cells := 0, slots := 0, locals := 65 } : Room) (ER D ad ci) [.ref (ad 0), .int g, .int k, .int h] σ ((storeM σ g k h).1) ((storeM σ g k h).2) := by
  refine Mi.start pn_rf (Nat.le_of_ble_eq_true rfl) (fun zp ze zs zm zb zt zc ls X hr hlk L => ?_)
  have L : lv_has ls 4 [(0, .ref (ad 0)), (1, .int g), (2, .int k), (3, .int h)] := L
  refine lv_iload_n X.1.1 X.1.2.1 d_rf_store_0 rfl (lv_at L 3 rfl) ?_
  refine Mi.callS (k := 1) (c_rf_noHandle hI _ _) X mw_585 mw_586 mw_5 mw_587 ok_rf_noHandle ⟨rfl, rfl, by decide, by decide⟩ rfl L.1 rfl (Nat.le_of_ble_eq_true rfl) d_rf_store_1 (fun H locs X => ?_)
  refine lv_if_ne (tgt := 42) X.1.1 X.1.2.1 d_rf_store_4 rfl (fun h4 => ?_) (fun h4 => ?_)
  · skip
    refine lv_iconst (v := 0) X.1.1 X.1.2.1 d_rf_store_42 rfl ?_
    exact X.zret hr hlk d_rf_store_43 (by first | rfl | assumption) (by first | (simp only [storeM, eq_false h4, if_true, if_false]; done) | (simp [storeM, eq_false h4]; done) | (simp [storeM, h4]; done) | rfl) (by first | (simp only [storeM, eq_false h4, if_true, if_false]; done) | (simp [storeM, eq_false h4]; done) | (simp [storeM, h4]; done) | rfl)
  · skip
    refine lv_iload_n X.1.1 X.1.2.1 d_rf_store_7 rfl (lv_at L 1 rfl) ?_
    refine Mi.callS (k := 1) (c_rf_noHandle hI _ _) X mw_585 mw_586 mw_5 mw_587 ok_rf_noHandle ⟨rfl, rfl, by decide, by decide⟩ rfl L.1 rfl (Nat.le_of_ble_eq_true rfl) d_rf_store_8 (fun H locs X => ?_)
    refine lv_if_ne (tgt := 42) X.1.1 X.1.2.1 d_rf_store_11 rfl (fun h11 => ?_) (fun h11 => ?_)
    · skip
      refine lv_iconst (v := 0) X.1.1 X.1.2.1 d_rf_store_42 rfl ?_
      exact X.zret hr hlk d_rf_store_43 (by first | rfl | assumption) (by first | (simp only [storeM, eq_true h4, eq_false h11, if_true, if_false]; done) | (simp [storeM, eq_true h4, eq_false h11]; done) | (simp [storeM, h4, h11]; done) | rfl) (by first | (simp only [storeM, eq_true h4, eq_false h11, if_true, if_false]; done) | (simp [storeM, eq_true h4, eq_false h11]; done) | (simp [storeM, h4, h11]; done) | rfl)
    · skip
      refine lv_aload_n X.1.1 X.1.2.1 d_rf_store_14 rfl (lv_at L 0 rfl) ?_
      refine lv_aload_n X.1.1 X.1.2.1 d_rf_store_15 rfl (lv_at L 0 rfl) ?_
      refine g_rf_handles X d_rf_store_16 ?_
      refine lv_iload_n X.1.1 X.1.2.1 d_rf_store_19 rfl (lv_at L 1 rfl) ?_
      refine rl_12 X (nh_in h11) d_rf_store_20 ?_
      refine lv_iload_n X.1.1 X.1.2.1 d_rf_store_21 rfl (lv_at L 2 rfl) ?_
      refine Mi.callV (k := 2) (c_rf_hasField hI _ _ _ (hm.hn (nh_in h11))) X (gt_V mw_632 mw_634 ms_38 mw_5 mw_635) ok_rf_hasField ⟨rfl, rfl, by decide, by decide⟩ (rc_rf X) rfl L.1 rfl (Nat.le_of_ble_eq_true rfl) d_rf_store_22 (fun H locs X => ?_)
      refine lv_if_eq (tgt := 42) X.1.1 X.1.2.1 d_rf_store_25 rfl (fun h25 => ?_) (fun h25 => ?_)
      · skip
        refine lv_iconst (v := 0) X.1.1 X.1.2.1 d_rf_store_42 rfl ?_
        exact X.zret hr hlk d_rf_store_43 (by first | rfl | assumption) (by first | (simp only [storeM, eq_true h4, eq_true h11, eq_true h25, if_true, if_false]; done) | (simp [storeM, eq_true h4, eq_true h11, eq_true h25]; done) | (simp [storeM, h4, h11, h25]; done) | rfl) (by first | (simp only [storeM, eq_true h4, eq_true h11, eq_true h25, if_true, if_false]; done) | (simp [storeM, eq_true h4, eq_true h11, eq_true h25]; done) | (simp [storeM, h4, h11, h25]; done) | rfl)
      · skip
        refine lv_aload_n X.1.1 X.1.2.1 d_rf_store_28 rfl (lv_at L 0 rfl) ?_
        refine g_rf_sort X d_rf_store_29 ?_
        refine lv_aload_n X.1.1 X.1.2.1 d_rf_store_32 rfl (lv_at L 0 rfl) ?_
        refine g_rf_handles X d_rf_store_33 ?_
        refine lv_iload_n X.1.1 X.1.2.1 d_rf_store_36 rfl (lv_at L 1 rfl) ?_
        refine rl_12 X (nh_in h11) d_rf_store_37 ?_
        refine rl_2 X (hasFieldM_in hm h25 (hm.hn (nh_in h11))).1 d_rf_store_38 ?_
        refine lv_if_eq (tgt := 44) X.1.1 X.1.2.1 d_rf_store_39 rfl (fun h39 => ?_) (fun h39 => ?_)
        · skip
          refine lv_aload_n X.1.1 X.1.2.1 d_rf_store_44 rfl (lv_at L 0 rfl) ?_
          refine g_rf_word X d_rf_store_45 ?_
          refine lv_bipush (v := 15) X.1.1 X.1.2.1 d_rf_store_48 rfl ?_
          refine lv_aload_n X.1.1 X.1.2.1 d_rf_store_50 rfl (lv_at L 0 rfl) ?_
          refine g_rf_handles X d_rf_store_51 ?_
          refine lv_iload_n X.1.1 X.1.2.1 d_rf_store_54 rfl (lv_at L 1 rfl) ?_
          refine rl_12 X (nh_in h11) d_rf_store_55 ?_
          refine lv_imul X.1.1 X.1.2.1 d_rf_store_56 ?_
          refine lv_iload_n X.1.1 X.1.2.1 d_rf_store_57 rfl (lv_at L 2 rfl) ?_
          refine lv_iadd X.1.1 X.1.2.1 d_rf_store_58 ?_
          refine lv_aload_n X.1.1 X.1.2.1 d_rf_store_59 rfl (lv_at L 0 rfl) ?_
          refine g_rf_handles X d_rf_store_60 ?_
          refine lv_iload_n X.1.1 X.1.2.1 d_rf_store_63 rfl (lv_at L 3 rfl) ?_
          refine rl_12 X (nh_in h4) d_rf_store_64 ?_
          refine rs_5 hI X (wiv (hasFieldM_in hm h25 (hm.hn (nh_in h11))).1 (hasFieldM_in hm h25 (hm.hn (nh_in h11))).2) d_rf_store_65 (fun H locs X => ?_)
          refine lv_aload_n X.1.1 X.1.2.1 d_rf_store_66 rfl (lv_at L 0 rfl) ?_
          refine Mv.callV (k := 0) (c_rf_settle hI _ (RGm_5 hm _ (hm.hn (nh_in h4)))) X (gt_V mw_524 mw_526 ms_32 mw_5 mw_527) ok_rf_settle ⟨rfl, rfl, by decide, by decide⟩ (rc_rf X) rfl L.1 rfl (Nat.le_of_ble_eq_true rfl) d_rf_store_67 (fun H locs X => ?_)
          refine lv_iconst (v := 1) X.1.1 X.1.2.1 d_rf_store_70 rfl ?_
          exact X.zret hr hlk d_rf_store_71 (by first | rfl | assumption) (by first | (simp only [storeM, eq_true h4, eq_true h11, eq_false h25, eq_true h39, if_true, if_false]; done) | (simp [storeM, eq_true h4, eq_true h11, eq_false h25, eq_true h39]; done) | (simp [storeM, h4, h11, h25, h39]; done) | rfl) (by first | (simp only [storeM, eq_true h4, eq_true h11, eq_false h25, eq_true h39, if_true, if_false]; done) | (simp [storeM, eq_true h4, eq_true h11, eq_false h25, eq_true h39]; done) | (simp [storeM, h4, h11, h25, h39]; done) | rfl)
        · skip
          refine lv_iconst (v := 0) X.1.1 X.1.2.1 d_rf_store_42 rfl ?_
          exact X.zret hr hlk d_rf_store_43 (by first | rfl | assumption) (by first | (simp only [storeM, eq_true h4, eq_true h11, eq_false h25, eq_false h39, if_true, if_false]; done) | (simp [storeM, eq_true h4, eq_true h11, eq_false h25, eq_false h39]; done) | (simp [storeM, h4, h11, h25, h39]; done) | rfl) (by first | (simp only [storeM, eq_true h4, eq_true h11, eq_false h25, eq_false h39, if_true, if_false]; done) | (simp [storeM, eq_true h4, eq_true h11, eq_false h25, eq_false h39]; done) | (simp [storeM, h4, h11, h25, h39]; done) | rfl)
set_option maxHeartbeats 4000000 in
theorem c_rf_inherit {l : Launch} {D : va_G} {ad : Nat → Nat} {ci : Nat → ClassId} (hI : InjR ad) (σ : SS) (c s : Int32) (hm : RGm σ) (hsup : ∀ r, vp_in r 6 → (hM σ r = 0 ∨ ¬ isClassM σ (hM σ r) = 0) → SupM 28 σ (hM σ r)) : Mi l y_rf_inherit b_rf_inherit 4 (some .boolean) ({ frames := 3, cells := 0, slots := 0, locals := 65 } : Room) (ER D ad ci) [.ref (ad 0), .int c, .int s] σ ((inheritM σ c s).1) ((inheritM σ c s).2) := by
  refine Mi.start pn_rf (Nat.le_of_ble_eq_true rfl) (fun zp ze zs zm zb zt zc ls X hr hlk L => ?_)
  have L : lv_has ls 4 [(0, .ref (ad 0)), (1, .int c), (2, .int s)] := L
  refine lv_iload_n X.1.1 X.1.2.1 d_rf_inherit_0 rfl (lv_at L 1 rfl) ?_
  refine Mi.callS (k := 1) (c_rf_noHandle hI _ _) X mw_585 mw_586 mw_5 mw_587 ok_rf_noHandle ⟨rfl, rfl, by decide, by decide⟩ rfl L.1 rfl (Nat.le_of_ble_eq_true rfl) d_rf_inherit_1 (fun H locs X => ?_)
  refine lv_if_ne (tgt := 59) X.1.1 X.1.2.1 d_rf_inherit_4 rfl (fun h4 => ?_) (fun h4 => ?_)
  · skip
    refine lv_iconst (v := 0) X.1.1 X.1.2.1 d_rf_inherit_59 rfl ?_
    exact X.zret hr hlk d_rf_inherit_60 (by first | rfl | assumption) (by first | (simp only [inheritM, eq_false h4, if_true, if_false]; done) | (simp [inheritM, eq_false h4]; done) | (simp [inheritM, h4]; done) | rfl) (by first | (simp only [inheritM, eq_false h4, if_true, if_false]; done) | (simp [inheritM, eq_false h4]; done) | (simp [inheritM, h4]; done) | rfl)
  · skip
    refine lv_iload_n X.1.1 X.1.2.1 d_rf_inherit_7 rfl (lv_at L 2 rfl) ?_
    refine Mi.callS (k := 1) (c_rf_noHandle hI _ _) X mw_585 mw_586 mw_5 mw_587 ok_rf_noHandle ⟨rfl, rfl, by decide, by decide⟩ rfl L.1 rfl (Nat.le_of_ble_eq_true rfl) d_rf_inherit_8 (fun H locs X => ?_)
    refine lv_if_ne (tgt := 59) X.1.1 X.1.2.1 d_rf_inherit_11 rfl (fun h11 => ?_) (fun h11 => ?_)
    · skip
      refine lv_iconst (v := 0) X.1.1 X.1.2.1 d_rf_inherit_59 rfl ?_
      exact X.zret hr hlk d_rf_inherit_60 (by first | rfl | assumption) (by first | (simp only [inheritM, eq_true h4, eq_false h11, if_true, if_false]; done) | (simp [inheritM, eq_true h4, eq_false h11]; done) | (simp [inheritM, h4, h11]; done) | rfl) (by first | (simp only [inheritM, eq_true h4, eq_false h11, if_true, if_false]; done) | (simp [inheritM, eq_true h4, eq_false h11]; done) | (simp [inheritM, h4, h11]; done) | rfl)
    · skip
      refine lv_aload_n X.1.1 X.1.2.1 d_rf_inherit_14 rfl (lv_at L 0 rfl) ?_
      refine lv_aload_n X.1.1 X.1.2.1 d_rf_inherit_15 rfl (lv_at L 0 rfl) ?_
      refine g_rf_handles X d_rf_inherit_16 ?_
      refine lv_iload_n X.1.1 X.1.2.1 d_rf_inherit_19 rfl (lv_at L 1 rfl) ?_
      refine rl_12 X (nh_in h4) d_rf_inherit_20 ?_
      refine Mi.callV (k := 1) (c_rf_isClass hI _ _ (hm.hn (nh_in h4))) X (gt_V mw_588 mw_590 ms_34 mw_5 mw_591) ok_rf_isClass ⟨rfl, rfl, by decide, by decide⟩ (rc_rf X) rfl L.1 rfl (Nat.le_of_ble_eq_true rfl) d_rf_inherit_21 (fun H locs X => ?_)
      refine lv_if_eq (tgt := 59) X.1.1 X.1.2.1 d_rf_inherit_24 rfl (fun h24 => ?_) (fun h24 => ?_)
      · skip
        refine lv_iconst (v := 0) X.1.1 X.1.2.1 d_rf_inherit_59 rfl ?_
        exact X.zret hr hlk d_rf_inherit_60 (by first | rfl | assumption) (by first | (simp only [inheritM, eq_true h4, eq_true h11, eq_true h24, if_true, if_false]; done) | (simp [inheritM, eq_true h4, eq_true h11, eq_true h24]; done) | (simp [inheritM, h4, h11, h24]; done) | rfl) (by first | (simp only [inheritM, eq_true h4, eq_true h11, eq_true h24, if_true, if_false]; done) | (simp [inheritM, eq_true h4, eq_true h11, eq_true h24]; done) | (simp [inheritM, h4, h11, h24]; done) | rfl)
      · skip
        refine lv_aload_n X.1.1 X.1.2.1 d_rf_inherit_27 rfl (lv_at L 0 rfl) ?_
        refine g_rf_handles X d_rf_inherit_28 ?_
        refine lv_iload_n X.1.1 X.1.2.1 d_rf_inherit_31 rfl (lv_at L 1 rfl) ?_
        refine rl_12 X (nh_in h4) d_rf_inherit_32 ?_
        refine lv_iconst (v := 4) X.1.1 X.1.2.1 d_rf_inherit_33 rfl ?_
        refine lv_icmp_lt (tgt := 59) X.1.1 X.1.2.1 d_rf_inherit_34 rfl (fun h34 => ?_) (fun h34 => ?_)
        · skip
          refine lv_iconst (v := 0) X.1.1 X.1.2.1 d_rf_inherit_59 rfl ?_
          exact X.zret hr hlk d_rf_inherit_60 (by first | rfl | assumption) (by first | (simp only [inheritM, eq_true h4, eq_true h11, eq_false h24, eq_true h34, if_true, if_false]; done) | (simp [inheritM, eq_true h4, eq_true h11, eq_false h24, eq_true h34]; done) | (simp [inheritM, h4, h11, h24, h34]; done) | rfl) (by first | (simp only [inheritM, eq_true h4, eq_true h11, eq_false h24, eq_true h34, if_true, if_false]; done) | (simp [inheritM, eq_true h4, eq_true h11, eq_false h24, eq_true h34]; done) | (simp [inheritM, h4, h11, h24, h34]; done) | rfl)
        · skip
          refine lv_aload_n X.1.1 X.1.2.1 d_rf_inherit_37 rfl (lv_at L 0 rfl) ?_
          refine g_rf_handles X d_rf_inherit_38 ?_
          refine lv_iload_n X.1.1 X.1.2.1 d_rf_inherit_41 rfl (lv_at L 2 rfl) ?_
          refine rl_12 X (nh_in h11) d_rf_inherit_42 ?_
          refine lv_if_eq (tgt := 61) X.1.1 X.1.2.1 d_rf_inherit_43 rfl (fun h43 => ?_) (fun h43 => ?_)
          · skip
            refine lv_aload_n X.1.1 X.1.2.1 d_rf_inherit_61 rfl (lv_at L 0 rfl) ?_
            refine g_rf_handles X d_rf_inherit_62 ?_
            refine lv_iload_n X.1.1 X.1.2.1 d_rf_inherit_65 rfl (lv_at L 2 rfl) ?_
            refine rl_12 X (nh_in h11) d_rf_inherit_66 ?_
            refine lv_istore_n (lv' := [(3, .int _), (0, .ref _), (1, .int _), (2, .int _)]) X.1.1 X.1.2.1 d_rf_inherit_67 rfl L (by decide) rfl (fun ls L => ?_)
            have hI1 : inheritM σ c s = inh1M σ c s := by simp only [inheritM, eq_true h4, eq_true h11, eq_false h24, eq_false h34, eq_true h43, if_true, if_false]
            have loop68 : ∀ (n : Nat) (u : Int32) (σ1 : SS) (H : Heap) (locs : List Loc) (ls : Array Slot), (σ1 = σ) → (SupM n σ1 u) → (inhL n σ1 (hM σ c) u = inhL 28 σ (hM σ c) (hM σ s)) → Cx (ER D ad ci) zp zs zm (([.ref (ad 0), .int c, .int s] : List Value).toArray) zc b_rf_inherit 4 "MessageMachineModel" H locs σ1 → lv_has ls 4 [(3, .int u), (0, .ref (ad 0)), (1, .int c), (2, .int s)] → W zp l ze ({ frames := 3, cells := 0, slots := 0, locals := 65 } : Room) zs zm (([.ref (ad 0), .int c, .int s] : List Value).toArray) zb zt zc H locs 0 0 (MQ zb (va_Qi (fun (x : Int32) (u : SS) => x = ((inheritM σ c s).1) ∧ u = ((inheritM σ c s).2)) (fun u t => Pq (ER D ad ci) u t) (ER D ad ci).2.2.2) (([.ref (ad 0), .int c, .int s] : List Value).toArray) zs 0 0 (ER D ad ci).2.2.2) (F0 zm 68 ls []) := by
              intro n
              induction n with
              | zero =>
                intro u σ1 H locs ls hs hc hq X L
                have hm1 : RGm σ1 := by rw [hs]; exact hm
                have hcc : vp_in (σ1.1 12 (ix c)) 28 := by rw [hs]; exact isClassM_in h24 (hm.hn (nh_in h4))
                refine lv_iload_n X.1.1 X.1.2.1 d_rf_inherit_68 rfl (lv_at L 0 rfl) ?_
                refine lv_if_eq (tgt := 95) X.1.1 X.1.2.1 d_rf_inherit_69 rfl (fun h69 => ?_) (fun h69 => ?_)
                · skip
                  refine lv_iload_n X.1.1 X.1.2.1 d_rf_inherit_95 rfl (lv_at L 0 rfl) ?_
                  refine lv_if_eq (tgt := 101) X.1.1 X.1.2.1 d_rf_inherit_96 rfl (fun h96 => ?_) (fun h96 => ?_)
                  · skip
                    have hz0 : inhL 28 σ (hM σ c) (hM σ s) = 0 := by first | exact absurd h96 h69 | (rw [← hq, inhL, if_pos h69]; exact h96) | (rw [← hq, inhL]; exact h96)
                    refine lv_aload_n X.1.1 X.1.2.1 d_rf_inherit_101 rfl (lv_at L 1 rfl) ?_
                    refine g_rf_word X d_rf_inherit_102 ?_
                    refine lv_bipush (v := 15) X.1.1 X.1.2.1 d_rf_inherit_105 rfl ?_
                    refine lv_aload_n X.1.1 X.1.2.1 d_rf_inherit_107 rfl (lv_at L 1 rfl) ?_
                    refine g_rf_handles X d_rf_inherit_108 ?_
                    refine lv_iload_n X.1.1 X.1.2.1 d_rf_inherit_111 rfl (lv_at L 2 rfl) ?_
                    refine rl_12 X (nh_in h4) d_rf_inherit_112 ?_
                    refine lv_imul X.1.1 X.1.2.1 d_rf_inherit_113 ?_
                    refine lv_aload_n X.1.1 X.1.2.1 d_rf_inherit_114 rfl (lv_at L 1 rfl) ?_
                    refine g_rf_handles X d_rf_inherit_115 ?_
                    refine lv_iload_n X.1.1 X.1.2.1 d_rf_inherit_118 rfl (lv_at L 3 rfl) ?_
                    refine rl_12 X (nh_in h11) d_rf_inherit_119 ?_
                    refine rs_5 hI X (w15v hcc) d_rf_inherit_120 (fun H locs X => ?_)
                    refine lv_aload_n X.1.1 X.1.2.1 d_rf_inherit_121 rfl (lv_at L 1 rfl) ?_
                    refine Mv.callV (k := 0) (c_rf_settle hI _ (RGm_5 hm1 _ (hm1.hn (nh_in h11)))) X (gt_V mw_524 mw_526 ms_32 mw_5 mw_527) ok_rf_settle ⟨rfl, rfl, by decide, by decide⟩ (rc_rf X) rfl L.1 rfl (Nat.le_of_ble_eq_true rfl) d_rf_inherit_122 (fun H locs X => ?_)
                    refine lv_iconst (v := 1) X.1.1 X.1.2.1 d_rf_inherit_125 rfl ?_
                    exact X.zret hr hlk d_rf_inherit_126 (by first | rfl | assumption) (by rw [hI1, inh1M, if_pos hz0]) (by rw [hI1, inh1M, if_pos hz0, hs])
                  · skip
                    refine lv_iconst (v := 0) X.1.1 X.1.2.1 d_rf_inherit_99 rfl ?_
                    exact X.zret hr hlk d_rf_inherit_100 (by first | rfl | assumption) (by first | exact absurd h69 h96 | (rw [hI1, inh1M, ← hq, inhL, if_neg h69, if_pos (h79.trans (by rw [hs])), if_neg h96])) (by first | exact absurd h69 h96 | (rw [hI1, inh1M, ← hq, inhL, if_neg h69, if_pos (h79.trans (by rw [hs])), if_neg h96]; exact hs))
                · skip
                  exact absurd hc h69
              | succ n ih =>
                intro u σ1 H locs ls hs hc hq X L
                have hm1 : RGm σ1 := by rw [hs]; exact hm
                have hcc : vp_in (σ1.1 12 (ix c)) 28 := by rw [hs]; exact isClassM_in h24 (hm.hn (nh_in h4))
                refine lv_iload_n X.1.1 X.1.2.1 d_rf_inherit_68 rfl (lv_at L 0 rfl) ?_
                refine lv_if_eq (tgt := 95) X.1.1 X.1.2.1 d_rf_inherit_69 rfl (fun h69 => ?_) (fun h69 => ?_)
                · skip
                  refine lv_iload_n X.1.1 X.1.2.1 d_rf_inherit_95 rfl (lv_at L 0 rfl) ?_
                  refine lv_if_eq (tgt := 101) X.1.1 X.1.2.1 d_rf_inherit_96 rfl (fun h96 => ?_) (fun h96 => ?_)
                  · skip
                    have hz0 : inhL 28 σ (hM σ c) (hM σ s) = 0 := by first | exact absurd h96 h69 | (rw [← hq, inhL, if_pos h69]; exact h96) | (rw [← hq, inhL]; exact h96)
                    refine lv_aload_n X.1.1 X.1.2.1 d_rf_inherit_101 rfl (lv_at L 1 rfl) ?_
                    refine g_rf_word X d_rf_inherit_102 ?_
                    refine lv_bipush (v := 15) X.1.1 X.1.2.1 d_rf_inherit_105 rfl ?_
                    refine lv_aload_n X.1.1 X.1.2.1 d_rf_inherit_107 rfl (lv_at L 1 rfl) ?_
                    refine g_rf_handles X d_rf_inherit_108 ?_
                    refine lv_iload_n X.1.1 X.1.2.1 d_rf_inherit_111 rfl (lv_at L 2 rfl) ?_
                    refine rl_12 X (nh_in h4) d_rf_inherit_112 ?_
                    refine lv_imul X.1.1 X.1.2.1 d_rf_inherit_113 ?_
                    refine lv_aload_n X.1.1 X.1.2.1 d_rf_inherit_114 rfl (lv_at L 1 rfl) ?_
                    refine g_rf_handles X d_rf_inherit_115 ?_
                    refine lv_iload_n X.1.1 X.1.2.1 d_rf_inherit_118 rfl (lv_at L 3 rfl) ?_
                    refine rl_12 X (nh_in h11) d_rf_inherit_119 ?_
                    refine rs_5 hI X (w15v hcc) d_rf_inherit_120 (fun H locs X => ?_)
                    refine lv_aload_n X.1.1 X.1.2.1 d_rf_inherit_121 rfl (lv_at L 1 rfl) ?_
                    refine Mv.callV (k := 0) (c_rf_settle hI _ (RGm_5 hm1 _ (hm1.hn (nh_in h11)))) X (gt_V mw_524 mw_526 ms_32 mw_5 mw_527) ok_rf_settle ⟨rfl, rfl, by decide, by decide⟩ (rc_rf X) rfl L.1 rfl (Nat.le_of_ble_eq_true rfl) d_rf_inherit_122 (fun H locs X => ?_)
                    refine lv_iconst (v := 1) X.1.1 X.1.2.1 d_rf_inherit_125 rfl ?_
                    exact X.zret hr hlk d_rf_inherit_126 (by first | rfl | assumption) (by rw [hI1, inh1M, if_pos hz0]) (by rw [hI1, inh1M, if_pos hz0, hs])
                  · skip
                    refine lv_iconst (v := 0) X.1.1 X.1.2.1 d_rf_inherit_99 rfl ?_
                    exact X.zret hr hlk d_rf_inherit_100 (by first | rfl | assumption) (by first | exact absurd h69 h96 | (rw [hI1, inh1M, ← hq, inhL, if_neg h69, if_pos (h79.trans (by rw [hs])), if_neg h96])) (by first | exact absurd h69 h96 | (rw [hI1, inh1M, ← hq, inhL, if_neg h69, if_pos (h79.trans (by rw [hs])), if_neg h96]; exact hs))
                · skip
                  refine lv_iload_n X.1.1 X.1.2.1 d_rf_inherit_72 rfl (lv_at L 0 rfl) ?_
                  refine lv_aload_n X.1.1 X.1.2.1 d_rf_inherit_73 rfl (lv_at L 1 rfl) ?_
                  refine g_rf_handles X d_rf_inherit_74 ?_
                  refine lv_iload_n X.1.1 X.1.2.1 d_rf_inherit_77 rfl (lv_at L 2 rfl) ?_
                  refine rl_12 X (nh_in h4) d_rf_inherit_78 ?_
                  refine lv_icmp_eq (tgt := 95) X.1.1 X.1.2.1 d_rf_inherit_79 rfl (fun h79 => ?_) (fun h79 => ?_)
                  · skip
                    refine lv_iload_n X.1.1 X.1.2.1 d_rf_inherit_95 rfl (lv_at L 0 rfl) ?_
                    refine lv_if_eq (tgt := 101) X.1.1 X.1.2.1 d_rf_inherit_96 rfl (fun h96 => ?_) (fun h96 => ?_)
                    · skip
                      have hz0 : inhL 28 σ (hM σ c) (hM σ s) = 0 := by first | exact absurd h96 h69 | (rw [← hq, inhL, if_pos h69]; exact h96) | (rw [← hq, inhL]; exact h96)
                      refine lv_aload_n X.1.1 X.1.2.1 d_rf_inherit_101 rfl (lv_at L 1 rfl) ?_
                      refine g_rf_word X d_rf_inherit_102 ?_
                      refine lv_bipush (v := 15) X.1.1 X.1.2.1 d_rf_inherit_105 rfl ?_
                      refine lv_aload_n X.1.1 X.1.2.1 d_rf_inherit_107 rfl (lv_at L 1 rfl) ?_
                      refine g_rf_handles X d_rf_inherit_108 ?_
                      refine lv_iload_n X.1.1 X.1.2.1 d_rf_inherit_111 rfl (lv_at L 2 rfl) ?_
                      refine rl_12 X (nh_in h4) d_rf_inherit_112 ?_
                      refine lv_imul X.1.1 X.1.2.1 d_rf_inherit_113 ?_
                      refine lv_aload_n X.1.1 X.1.2.1 d_rf_inherit_114 rfl (lv_at L 1 rfl) ?_
                      refine g_rf_handles X d_rf_inherit_115 ?_
                      refine lv_iload_n X.1.1 X.1.2.1 d_rf_inherit_118 rfl (lv_at L 3 rfl) ?_
                      refine rl_12 X (nh_in h11) d_rf_inherit_119 ?_
                      refine rs_5 hI X (w15v hcc) d_rf_inherit_120 (fun H locs X => ?_)
                      refine lv_aload_n X.1.1 X.1.2.1 d_rf_inherit_121 rfl (lv_at L 1 rfl) ?_
                      refine Mv.callV (k := 0) (c_rf_settle hI _ (RGm_5 hm1 _ (hm1.hn (nh_in h11)))) X (gt_V mw_524 mw_526 ms_32 mw_5 mw_527) ok_rf_settle ⟨rfl, rfl, by decide, by decide⟩ (rc_rf X) rfl L.1 rfl (Nat.le_of_ble_eq_true rfl) d_rf_inherit_122 (fun H locs X => ?_)
                      refine lv_iconst (v := 1) X.1.1 X.1.2.1 d_rf_inherit_125 rfl ?_
                      exact X.zret hr hlk d_rf_inherit_126 (by first | rfl | assumption) (by rw [hI1, inh1M, if_pos hz0]) (by rw [hI1, inh1M, if_pos hz0, hs])
                    · skip
                      refine lv_iconst (v := 0) X.1.1 X.1.2.1 d_rf_inherit_99 rfl ?_
                      exact X.zret hr hlk d_rf_inherit_100 (by first | rfl | assumption) (by first | exact absurd h69 h96 | (rw [hI1, inh1M, ← hq, inhL, if_neg h69, if_pos (h79.trans (by rw [hs])), if_neg h96])) (by first | exact absurd h69 h96 | (rw [hI1, inh1M, ← hq, inhL, if_neg h69, if_pos (h79.trans (by rw [hs])), if_neg h96]; exact hs))
                  · skip
                    refine lv_aload_n X.1.1 X.1.2.1 d_rf_inherit_82 rfl (lv_at L 1 rfl) ?_
                    refine g_rf_word X d_rf_inherit_83 ?_
                    refine lv_bipush (v := 15) X.1.1 X.1.2.1 d_rf_inherit_86 rfl ?_
                    refine lv_iload_n X.1.1 X.1.2.1 d_rf_inherit_88 rfl (lv_at L 0 rfl) ?_
                    refine lv_imul X.1.1 X.1.2.1 d_rf_inherit_89 ?_
                    refine rl_5 X (w15v (hc.resolve_left h69).1) d_rf_inherit_90 ?_
                    refine lv_istore_n (lv' := [(3, .int _), (0, .ref _), (1, .int _), (2, .int _)]) X.1.1 X.1.2.1 d_rf_inherit_91 rfl L (by decide) rfl (fun ls L => ?_)
                    refine lv_goto (tgt := 68) X.1.1 X.1.2.1 d_rf_inherit_92 rfl ?_
                    exact ih _ σ1 _ _ _ hs (hc.resolve_left h69).2 (by rw [← hq, inhL, if_neg h69, if_neg (fun z => h79 (z.trans (by rw [hs])))]) X L
            exact loop68 28 _ σ _ _ _ rfl (hsup _ (nh_in h11) (by first | exact Or.inl h43 | exact Or.inr h56)) rfl X L
          · skip
            refine lv_aload_n X.1.1 X.1.2.1 d_rf_inherit_46 rfl (lv_at L 0 rfl) ?_
            refine lv_aload_n X.1.1 X.1.2.1 d_rf_inherit_47 rfl (lv_at L 0 rfl) ?_
            refine g_rf_handles X d_rf_inherit_48 ?_
            refine lv_iload_n X.1.1 X.1.2.1 d_rf_inherit_51 rfl (lv_at L 2 rfl) ?_
            refine rl_12 X (nh_in h11) d_rf_inherit_52 ?_
            refine Mi.callV (k := 1) (c_rf_isClass hI _ _ (hm.hn (nh_in h11))) X (gt_V mw_588 mw_590 ms_34 mw_5 mw_591) ok_rf_isClass ⟨rfl, rfl, by decide, by decide⟩ (rc_rf X) rfl L.1 rfl (Nat.le_of_ble_eq_true rfl) d_rf_inherit_53 (fun H locs X => ?_)
            refine lv_if_ne (tgt := 61) X.1.1 X.1.2.1 d_rf_inherit_56 rfl (fun h56 => ?_) (fun h56 => ?_)
            · skip
              refine lv_aload_n X.1.1 X.1.2.1 d_rf_inherit_61 rfl (lv_at L 0 rfl) ?_
              refine g_rf_handles X d_rf_inherit_62 ?_
              refine lv_iload_n X.1.1 X.1.2.1 d_rf_inherit_65 rfl (lv_at L 2 rfl) ?_
              refine rl_12 X (nh_in h11) d_rf_inherit_66 ?_
              refine lv_istore_n (lv' := [(3, .int _), (0, .ref _), (1, .int _), (2, .int _)]) X.1.1 X.1.2.1 d_rf_inherit_67 rfl L (by decide) rfl (fun ls L => ?_)
              have hI1 : inheritM σ c s = inh1M σ c s := by simp only [inheritM, eq_true h4, eq_true h11, eq_false h24, eq_false h34, eq_false h43, eq_false h56, if_true, if_false]
              have loop68 : ∀ (n : Nat) (u : Int32) (σ1 : SS) (H : Heap) (locs : List Loc) (ls : Array Slot), (σ1 = σ) → (SupM n σ1 u) → (inhL n σ1 (hM σ c) u = inhL 28 σ (hM σ c) (hM σ s)) → Cx (ER D ad ci) zp zs zm (([.ref (ad 0), .int c, .int s] : List Value).toArray) zc b_rf_inherit 4 "MessageMachineModel" H locs σ1 → lv_has ls 4 [(3, .int u), (0, .ref (ad 0)), (1, .int c), (2, .int s)] → W zp l ze ({ frames := 3, cells := 0, slots := 0, locals := 65 } : Room) zs zm (([.ref (ad 0), .int c, .int s] : List Value).toArray) zb zt zc H locs 0 0 (MQ zb (va_Qi (fun (x : Int32) (u : SS) => x = ((inheritM σ c s).1) ∧ u = ((inheritM σ c s).2)) (fun u t => Pq (ER D ad ci) u t) (ER D ad ci).2.2.2) (([.ref (ad 0), .int c, .int s] : List Value).toArray) zs 0 0 (ER D ad ci).2.2.2) (F0 zm 68 ls []) := by
                intro n
                induction n with
                | zero =>
                  intro u σ1 H locs ls hs hc hq X L
                  have hm1 : RGm σ1 := by rw [hs]; exact hm
                  have hcc : vp_in (σ1.1 12 (ix c)) 28 := by rw [hs]; exact isClassM_in h24 (hm.hn (nh_in h4))
                  refine lv_iload_n X.1.1 X.1.2.1 d_rf_inherit_68 rfl (lv_at L 0 rfl) ?_
                  refine lv_if_eq (tgt := 95) X.1.1 X.1.2.1 d_rf_inherit_69 rfl (fun h69 => ?_) (fun h69 => ?_)
                  · skip
                    refine lv_iload_n X.1.1 X.1.2.1 d_rf_inherit_95 rfl (lv_at L 0 rfl) ?_
                    refine lv_if_eq (tgt := 101) X.1.1 X.1.2.1 d_rf_inherit_96 rfl (fun h96 => ?_) (fun h96 => ?_)
                    · skip
                      have hz0 : inhL 28 σ (hM σ c) (hM σ s) = 0 := by first | exact absurd h96 h69 | (rw [← hq, inhL, if_pos h69]; exact h96) | (rw [← hq, inhL]; exact h96)
                      refine lv_aload_n X.1.1 X.1.2.1 d_rf_inherit_101 rfl (lv_at L 1 rfl) ?_
                      refine g_rf_word X d_rf_inherit_102 ?_
                      refine lv_bipush (v := 15) X.1.1 X.1.2.1 d_rf_inherit_105 rfl ?_
                      refine lv_aload_n X.1.1 X.1.2.1 d_rf_inherit_107 rfl (lv_at L 1 rfl) ?_
                      refine g_rf_handles X d_rf_inherit_108 ?_
                      refine lv_iload_n X.1.1 X.1.2.1 d_rf_inherit_111 rfl (lv_at L 2 rfl) ?_
                      refine rl_12 X (nh_in h4) d_rf_inherit_112 ?_
                      refine lv_imul X.1.1 X.1.2.1 d_rf_inherit_113 ?_
                      refine lv_aload_n X.1.1 X.1.2.1 d_rf_inherit_114 rfl (lv_at L 1 rfl) ?_
                      refine g_rf_handles X d_rf_inherit_115 ?_
                      refine lv_iload_n X.1.1 X.1.2.1 d_rf_inherit_118 rfl (lv_at L 3 rfl) ?_
                      refine rl_12 X (nh_in h11) d_rf_inherit_119 ?_
                      refine rs_5 hI X (w15v hcc) d_rf_inherit_120 (fun H locs X => ?_)
                      refine lv_aload_n X.1.1 X.1.2.1 d_rf_inherit_121 rfl (lv_at L 1 rfl) ?_
                      refine Mv.callV (k := 0) (c_rf_settle hI _ (RGm_5 hm1 _ (hm1.hn (nh_in h11)))) X (gt_V mw_524 mw_526 ms_32 mw_5 mw_527) ok_rf_settle ⟨rfl, rfl, by decide, by decide⟩ (rc_rf X) rfl L.1 rfl (Nat.le_of_ble_eq_true rfl) d_rf_inherit_122 (fun H locs X => ?_)
                      refine lv_iconst (v := 1) X.1.1 X.1.2.1 d_rf_inherit_125 rfl ?_
                      exact X.zret hr hlk d_rf_inherit_126 (by first | rfl | assumption) (by rw [hI1, inh1M, if_pos hz0]) (by rw [hI1, inh1M, if_pos hz0, hs])
                    · skip
                      refine lv_iconst (v := 0) X.1.1 X.1.2.1 d_rf_inherit_99 rfl ?_
                      exact X.zret hr hlk d_rf_inherit_100 (by first | rfl | assumption) (by first | exact absurd h69 h96 | (rw [hI1, inh1M, ← hq, inhL, if_neg h69, if_pos (h79.trans (by rw [hs])), if_neg h96])) (by first | exact absurd h69 h96 | (rw [hI1, inh1M, ← hq, inhL, if_neg h69, if_pos (h79.trans (by rw [hs])), if_neg h96]; exact hs))
                  · skip
                    exact absurd hc h69
                | succ n ih =>
                  intro u σ1 H locs ls hs hc hq X L
                  have hm1 : RGm σ1 := by rw [hs]; exact hm
                  have hcc : vp_in (σ1.1 12 (ix c)) 28 := by rw [hs]; exact isClassM_in h24 (hm.hn (nh_in h4))
                  refine lv_iload_n X.1.1 X.1.2.1 d_rf_inherit_68 rfl (lv_at L 0 rfl) ?_
                  refine lv_if_eq (tgt := 95) X.1.1 X.1.2.1 d_rf_inherit_69 rfl (fun h69 => ?_) (fun h69 => ?_)
                  · skip
                    refine lv_iload_n X.1.1 X.1.2.1 d_rf_inherit_95 rfl (lv_at L 0 rfl) ?_
                    refine lv_if_eq (tgt := 101) X.1.1 X.1.2.1 d_rf_inherit_96 rfl (fun h96 => ?_) (fun h96 => ?_)
                    · skip
                      have hz0 : inhL 28 σ (hM σ c) (hM σ s) = 0 := by first | exact absurd h96 h69 | (rw [← hq, inhL, if_pos h69]; exact h96) | (rw [← hq, inhL]; exact h96)
                      refine lv_aload_n X.1.1 X.1.2.1 d_rf_inherit_101 rfl (lv_at L 1 rfl) ?_
                      refine g_rf_word X d_rf_inherit_102 ?_
                      refine lv_bipush (v := 15) X.1.1 X.1.2.1 d_rf_inherit_105 rfl ?_
                      refine lv_aload_n X.1.1 X.1.2.1 d_rf_inherit_107 rfl (lv_at L 1 rfl) ?_
                      refine g_rf_handles X d_rf_inherit_108 ?_
                      refine lv_iload_n X.1.1 X.1.2.1 d_rf_inherit_111 rfl (lv_at L 2 rfl) ?_
                      refine rl_12 X (nh_in h4) d_rf_inherit_112 ?_
                      refine lv_imul X.1.1 X.1.2.1 d_rf_inherit_113 ?_
                      refine lv_aload_n X.1.1 X.1.2.1 d_rf_inherit_114 rfl (lv_at L 1 rfl) ?_
                      refine g_rf_handles X d_rf_inherit_115 ?_
                      refine lv_iload_n X.1.1 X.1.2.1 d_rf_inherit_118 rfl (lv_at L 3 rfl) ?_
                      refine rl_12 X (nh_in h11) d_rf_inherit_119 ?_
                      refine rs_5 hI X (w15v hcc) d_rf_inherit_120 (fun H locs X => ?_)
                      refine lv_aload_n X.1.1 X.1.2.1 d_rf_inherit_121 rfl (lv_at L 1 rfl) ?_
                      refine Mv.callV (k := 0) (c_rf_settle hI _ (RGm_5 hm1 _ (hm1.hn (nh_in h11)))) X (gt_V mw_524 mw_526 ms_32 mw_5 mw_527) ok_rf_settle ⟨rfl, rfl, by decide, by decide⟩ (rc_rf X) rfl L.1 rfl (Nat.le_of_ble_eq_true rfl) d_rf_inherit_122 (fun H locs X => ?_)
                      refine lv_iconst (v := 1) X.1.1 X.1.2.1 d_rf_inherit_125 rfl ?_
                      exact X.zret hr hlk d_rf_inherit_126 (by first | rfl | assumption) (by rw [hI1, inh1M, if_pos hz0]) (by rw [hI1, inh1M, if_pos hz0, hs])
                    · skip
                      refine lv_iconst (v := 0) X.1.1 X.1.2.1 d_rf_inherit_99 rfl ?_
                      exact X.zret hr hlk d_rf_inherit_100 (by first | rfl | assumption) (by first | exact absurd h69 h96 | (rw [hI1, inh1M, ← hq, inhL, if_neg h69, if_pos (h79.trans (by rw [hs])), if_neg h96])) (by first | exact absurd h69 h96 | (rw [hI1, inh1M, ← hq, inhL, if_neg h69, if_pos (h79.trans (by rw [hs])), if_neg h96]; exact hs))
                  · skip
                    refine lv_iload_n X.1.1 X.1.2.1 d_rf_inherit_72 rfl (lv_at L 0 rfl) ?_
                    refine lv_aload_n X.1.1 X.1.2.1 d_rf_inherit_73 rfl (lv_at L 1 rfl) ?_
                    refine g_rf_handles X d_rf_inherit_74 ?_
                    refine lv_iload_n X.1.1 X.1.2.1 d_rf_inherit_77 rfl (lv_at L 2 rfl) ?_
                    refine rl_12 X (nh_in h4) d_rf_inherit_78 ?_
                    refine lv_icmp_eq (tgt := 95) X.1.1 X.1.2.1 d_rf_inherit_79 rfl (fun h79 => ?_) (fun h79 => ?_)
                    · skip
                      refine lv_iload_n X.1.1 X.1.2.1 d_rf_inherit_95 rfl (lv_at L 0 rfl) ?_
                      refine lv_if_eq (tgt := 101) X.1.1 X.1.2.1 d_rf_inherit_96 rfl (fun h96 => ?_) (fun h96 => ?_)
                      · skip
                        have hz0 : inhL 28 σ (hM σ c) (hM σ s) = 0 := by first | exact absurd h96 h69 | (rw [← hq, inhL, if_pos h69]; exact h96) | (rw [← hq, inhL]; exact h96)
                        refine lv_aload_n X.1.1 X.1.2.1 d_rf_inherit_101 rfl (lv_at L 1 rfl) ?_
                        refine g_rf_word X d_rf_inherit_102 ?_
                        refine lv_bipush (v := 15) X.1.1 X.1.2.1 d_rf_inherit_105 rfl ?_
                        refine lv_aload_n X.1.1 X.1.2.1 d_rf_inherit_107 rfl (lv_at L 1 rfl) ?_
                        refine g_rf_handles X d_rf_inherit_108 ?_
                        refine lv_iload_n X.1.1 X.1.2.1 d_rf_inherit_111 rfl (lv_at L 2 rfl) ?_
                        refine rl_12 X (nh_in h4) d_rf_inherit_112 ?_
                        refine lv_imul X.1.1 X.1.2.1 d_rf_inherit_113 ?_
                        refine lv_aload_n X.1.1 X.1.2.1 d_rf_inherit_114 rfl (lv_at L 1 rfl) ?_
                        refine g_rf_handles X d_rf_inherit_115 ?_
                        refine lv_iload_n X.1.1 X.1.2.1 d_rf_inherit_118 rfl (lv_at L 3 rfl) ?_
                        refine rl_12 X (nh_in h11) d_rf_inherit_119 ?_
                        refine rs_5 hI X (w15v hcc) d_rf_inherit_120 (fun H locs X => ?_)
                        refine lv_aload_n X.1.1 X.1.2.1 d_rf_inherit_121 rfl (lv_at L 1 rfl) ?_
                        refine Mv.callV (k := 0) (c_rf_settle hI _ (RGm_5 hm1 _ (hm1.hn (nh_in h11)))) X (gt_V mw_524 mw_526 ms_32 mw_5 mw_527) ok_rf_settle ⟨rfl, rfl, by decide, by decide⟩ (rc_rf X) rfl L.1 rfl (Nat.le_of_ble_eq_true rfl) d_rf_inherit_122 (fun H locs X => ?_)
                        refine lv_iconst (v := 1) X.1.1 X.1.2.1 d_rf_inherit_125 rfl ?_
                        exact X.zret hr hlk d_rf_inherit_126 (by first | rfl | assumption) (by rw [hI1, inh1M, if_pos hz0]) (by rw [hI1, inh1M, if_pos hz0, hs])
                      · skip
                        refine lv_iconst (v := 0) X.1.1 X.1.2.1 d_rf_inherit_99 rfl ?_
                        exact X.zret hr hlk d_rf_inherit_100 (by first | rfl | assumption) (by first | exact absurd h69 h96 | (rw [hI1, inh1M, ← hq, inhL, if_neg h69, if_pos (h79.trans (by rw [hs])), if_neg h96])) (by first | exact absurd h69 h96 | (rw [hI1, inh1M, ← hq, inhL, if_neg h69, if_pos (h79.trans (by rw [hs])), if_neg h96]; exact hs))
                    · skip
                      refine lv_aload_n X.1.1 X.1.2.1 d_rf_inherit_82 rfl (lv_at L 1 rfl) ?_
                      refine g_rf_word X d_rf_inherit_83 ?_
                      refine lv_bipush (v := 15) X.1.1 X.1.2.1 d_rf_inherit_86 rfl ?_
                      refine lv_iload_n X.1.1 X.1.2.1 d_rf_inherit_88 rfl (lv_at L 0 rfl) ?_
                      refine lv_imul X.1.1 X.1.2.1 d_rf_inherit_89 ?_
                      refine rl_5 X (w15v (hc.resolve_left h69).1) d_rf_inherit_90 ?_
                      refine lv_istore_n (lv' := [(3, .int _), (0, .ref _), (1, .int _), (2, .int _)]) X.1.1 X.1.2.1 d_rf_inherit_91 rfl L (by decide) rfl (fun ls L => ?_)
                      refine lv_goto (tgt := 68) X.1.1 X.1.2.1 d_rf_inherit_92 rfl ?_
                      exact ih _ σ1 _ _ _ hs (hc.resolve_left h69).2 (by rw [← hq, inhL, if_neg h69, if_neg (fun z => h79 (z.trans (by rw [hs])))]) X L
              exact loop68 28 _ σ _ _ _ rfl (hsup _ (nh_in h11) (by first | exact Or.inl h43 | exact Or.inr h56)) rfl X L
            · skip
              refine lv_iconst (v := 0) X.1.1 X.1.2.1 d_rf_inherit_59 rfl ?_
              exact X.zret hr hlk d_rf_inherit_60 (by first | rfl | assumption) (by first | (simp only [inheritM, eq_true h4, eq_true h11, eq_false h24, eq_false h34, eq_false h43, eq_true h56, if_true, if_false]; done) | (simp [inheritM, eq_true h4, eq_true h11, eq_false h24, eq_false h34, eq_false h43, eq_true h56]; done) | (simp [inheritM, h4, h11, h24, h34, h43, h56]; done) | rfl) (by first | (simp only [inheritM, eq_true h4, eq_true h11, eq_false h24, eq_false h34, eq_false h43, eq_true h56, if_true, if_false]; done) | (simp [inheritM, eq_true h4, eq_true h11, eq_false h24, eq_false h34, eq_false h43, eq_true h56]; done) | (simp [inheritM, h4, h11, h24, h34, h43, h56]; done) | rfl)
set_option maxHeartbeats 4000000 in
theorem c_rf_context {l : Launch} {D : va_G} {ad : Nat → Nat} {ci : Nat → ClassId} (hI : InjR ad) (σ : SS) (o s r i t : Int32) (h_o : vp_in o 28) : Mv l y_rf_context b_rf_context 6 ({ frames := 1, cells := 0, slots := 0, locals := 25 } : Room) (ER D ad ci) [.ref (ad 0), .int o, .int s, .int r, .int i, .int t] σ (contextM σ o s r i t) := by
  refine Mv.start pn_rf (Nat.le_of_ble_eq_true rfl) (fun zp ze zs zm zb zt zc ls X hr hlk L => ?_)
  have L : lv_has ls 6 [(0, .ref (ad 0)), (1, .int o), (2, .int s), (3, .int r), (4, .int i), (5, .int t)] := L
  refine lv_aload_n X.1.1 X.1.2.1 d_rf_context_0 rfl (lv_at L 0 rfl) ?_
  refine lv_iload_n X.1.1 X.1.2.1 d_rf_context_1 rfl (lv_at L 1 rfl) ?_
  refine lv_iconst (v := 2) X.1.1 X.1.2.1 d_rf_context_2 rfl ?_
  refine lv_iconst (v := 3) X.1.1 X.1.2.1 d_rf_context_3 rfl ?_
  refine lv_bipush (v := 15) X.1.1 X.1.2.1 d_rf_context_4 rfl ?_
  refine Mv.callV (k := 4) (c_rf_make1 hI _ _ _ _ _ h_o) X (gt_V mw_596 mw_598 ms_36 mw_5 mw_599) ok_rf_make1 ⟨rfl, rfl, by decide, by decide⟩ (rc_rf X) rfl L.1 rfl (Nat.le_of_ble_eq_true rfl) d_rf_context_6 (fun H locs X => ?_)
  refine lv_aload_n X.1.1 X.1.2.1 d_rf_context_9 rfl (lv_at L 0 rfl) ?_
  refine g_rf_word X d_rf_context_10 ?_
  refine lv_bipush (v := 15) X.1.1 X.1.2.1 d_rf_context_13 rfl ?_
  refine lv_iload_n X.1.1 X.1.2.1 d_rf_context_15 rfl (lv_at L 1 rfl) ?_
  refine lv_imul X.1.1 X.1.2.1 d_rf_context_16 ?_
  refine lv_iload_n X.1.1 X.1.2.1 d_rf_context_17 rfl (lv_at L 2 rfl) ?_
  refine rs_5 hI X (w15v h_o) d_rf_context_18 (fun H locs X => ?_)
  refine lv_aload_n X.1.1 X.1.2.1 d_rf_context_19 rfl (lv_at L 0 rfl) ?_
  refine g_rf_word X d_rf_context_20 ?_
  refine lv_bipush (v := 15) X.1.1 X.1.2.1 d_rf_context_23 rfl ?_
  refine lv_iload_n X.1.1 X.1.2.1 d_rf_context_25 rfl (lv_at L 1 rfl) ?_
  refine lv_imul X.1.1 X.1.2.1 d_rf_context_26 ?_
  refine lv_iconst (v := 1) X.1.1 X.1.2.1 d_rf_context_27 rfl ?_
  refine lv_iadd X.1.1 X.1.2.1 d_rf_context_28 ?_
  refine lv_iload_n X.1.1 X.1.2.1 d_rf_context_29 rfl (lv_at L 3 rfl) ?_
  refine rs_5 hI X (wiv h_o (vpc (by decide))) d_rf_context_30 (fun H locs X => ?_)
  refine lv_aload_n X.1.1 X.1.2.1 d_rf_context_31 rfl (lv_at L 0 rfl) ?_
  refine g_rf_word X d_rf_context_32 ?_
  refine lv_bipush (v := 15) X.1.1 X.1.2.1 d_rf_context_35 rfl ?_
  refine lv_iload_n X.1.1 X.1.2.1 d_rf_context_37 rfl (lv_at L 1 rfl) ?_
  refine lv_imul X.1.1 X.1.2.1 d_rf_context_38 ?_
  refine lv_iconst (v := 2) X.1.1 X.1.2.1 d_rf_context_39 rfl ?_
  refine lv_iadd X.1.1 X.1.2.1 d_rf_context_40 ?_
  refine lv_iload X.1.1 X.1.2.1 d_rf_context_41 (lv_at L 4 rfl) ?_
  refine rs_5 hI X (wiv h_o (vpc (by decide))) d_rf_context_43 (fun H locs X => ?_)
  refine lv_aload_n X.1.1 X.1.2.1 d_rf_context_44 rfl (lv_at L 0 rfl) ?_
  refine g_rf_word X d_rf_context_45 ?_
  refine lv_bipush (v := 15) X.1.1 X.1.2.1 d_rf_context_48 rfl ?_
  refine lv_iload_n X.1.1 X.1.2.1 d_rf_context_50 rfl (lv_at L 1 rfl) ?_
  refine lv_imul X.1.1 X.1.2.1 d_rf_context_51 ?_
  refine lv_iconst (v := 3) X.1.1 X.1.2.1 d_rf_context_52 rfl ?_
  refine lv_iadd X.1.1 X.1.2.1 d_rf_context_53 ?_
  refine lv_sipush (v := 1000) X.1.1 X.1.2.1 d_rf_context_54 rfl ?_
  refine lv_iload X.1.1 X.1.2.1 d_rf_context_57 (lv_at L 5 rfl) ?_
  refine lv_iadd X.1.1 X.1.2.1 d_rf_context_59 ?_
  refine rs_5 hI X (wiv h_o (vpc (by decide))) d_rf_context_60 (fun H locs X => ?_)
  refine lv_aload_n X.1.1 X.1.2.1 d_rf_context_61 rfl (lv_at L 0 rfl) ?_
  refine g_rf_word X d_rf_context_62 ?_
  refine lv_bipush (v := 15) X.1.1 X.1.2.1 d_rf_context_65 rfl ?_
  refine lv_iload_n X.1.1 X.1.2.1 d_rf_context_67 rfl (lv_at L 1 rfl) ?_
  refine lv_imul X.1.1 X.1.2.1 d_rf_context_68 ?_
  refine lv_iconst (v := 4) X.1.1 X.1.2.1 d_rf_context_69 rfl ?_
  refine lv_iadd X.1.1 X.1.2.1 d_rf_context_70 ?_
  refine lv_sipush (v := 1000) X.1.1 X.1.2.1 d_rf_context_71 rfl ?_
  refine rs_5 hI X (wiv h_o (vpc (by decide))) d_rf_context_74 (fun H locs X => ?_)
  refine lv_aload_n X.1.1 X.1.2.1 d_rf_context_75 rfl (lv_at L 0 rfl) ?_
  refine lv_iload_n X.1.1 X.1.2.1 d_rf_context_76 rfl (lv_at L 1 rfl) ?_
  refine p_rf_active hI X d_rf_context_77 (fun H locs X => ?_)
  exact X.vret hr hlk d_rf_context_80 (by first | with_reducible rfl | (simp only [contextM, ctx1M]; done) | rfl)
set_option maxHeartbeats 4000000 in
theorem c_rf_send {l : Launch} {D : va_G} {ad : Nat → Nat} {ci : Nat → ClassId} (hI : InjR ad) (σ : SS) (h t : Int32) (hm : RGm σ) (hsup : ∀ r, vp_in r 6 → SupM 28 σ (classOfWordM σ (hM σ r))) : Mi l y_rf_send b_rf_send 6 (some .boolean) ({ frames := 3, cells := 0, slots := 0, locals := 65 } : Room) (ER D ad ci) [.ref (ad 0), .int h, .int t] σ ((sendM σ h t).1) ((sendM σ h t).2) := by
  refine Mi.start pn_rf (Nat.le_of_ble_eq_true rfl) (fun zp ze zs zm zb zt zc ls X hr hlk L => ?_)
  have L : lv_has ls 6 [(0, .ref (ad 0)), (1, .int h), (2, .int t)] := L
  refine lv_aload_n X.1.1 X.1.2.1 d_rf_send_0 rfl (lv_at L 0 rfl) ?_
  refine g_rf_active X d_rf_send_1 ?_
  refine lv_if_ne (tgt := 21) X.1.1 X.1.2.1 d_rf_send_4 rfl (fun h4 => ?_) (fun h4 => ?_)
  · skip
    refine lv_iconst (v := 0) X.1.1 X.1.2.1 d_rf_send_21 rfl ?_
    exact X.zret hr hlk d_rf_send_22 (by first | rfl | assumption) (by first | (simp only [sendM, sendM1, eq_false h4, if_true, if_false]; done) | (simp [sendM, sendM1, eq_false h4]; done) | (simp [sendM, sendM1, h4]; done) | rfl) (by first | (simp only [sendM, sendM1, eq_false h4, if_true, if_false]; done) | (simp [sendM, sendM1, eq_false h4]; done) | (simp [sendM, sendM1, h4]; done) | rfl)
  · skip
    refine lv_iload_n X.1.1 X.1.2.1 d_rf_send_7 rfl (lv_at L 1 rfl) ?_
    refine Mi.callS (k := 1) (c_rf_noHandle hI _ _) X mw_585 mw_586 mw_5 mw_587 ok_rf_noHandle ⟨rfl, rfl, by decide, by decide⟩ rfl L.1 rfl (Nat.le_of_ble_eq_true rfl) d_rf_send_8 (fun H locs X => ?_)
    refine lv_if_ne (tgt := 21) X.1.1 X.1.2.1 d_rf_send_11 rfl (fun h11 => ?_) (fun h11 => ?_)
    · skip
      refine lv_iconst (v := 0) X.1.1 X.1.2.1 d_rf_send_21 rfl ?_
      exact X.zret hr hlk d_rf_send_22 (by first | rfl | assumption) (by first | (simp only [sendM, sendM1, eq_true h4, eq_false h11, if_true, if_false]; done) | (simp [sendM, sendM1, eq_true h4, eq_false h11]; done) | (simp [sendM, sendM1, h4, h11]; done) | rfl) (by first | (simp only [sendM, sendM1, eq_true h4, eq_false h11, if_true, if_false]; done) | (simp [sendM, sendM1, eq_true h4, eq_false h11]; done) | (simp [sendM, sendM1, h4, h11]; done) | rfl)
    · skip
      refine lv_iload_n X.1.1 X.1.2.1 d_rf_send_14 rfl (lv_at L 2 rfl) ?_
      refine Mi.callS (k := 1) (c_rf_noSelector hI _ _) X mw_604 mw_605 mw_5 mw_606 ok_rf_noSelector ⟨rfl, rfl, by decide, by decide⟩ rfl L.1 rfl (Nat.le_of_ble_eq_true rfl) d_rf_send_15 (fun H locs X => ?_)
      refine lv_if_eq (tgt := 23) X.1.1 X.1.2.1 d_rf_send_18 rfl (fun h18 => ?_) (fun h18 => ?_)
      · skip
        refine lv_aload_n X.1.1 X.1.2.1 d_rf_send_23 rfl (lv_at L 0 rfl) ?_
        refine lv_aload_n X.1.1 X.1.2.1 d_rf_send_24 rfl (lv_at L 0 rfl) ?_
        refine lv_aload_n X.1.1 X.1.2.1 d_rf_send_25 rfl (lv_at L 0 rfl) ?_
        refine g_rf_handles X d_rf_send_26 ?_
        refine lv_iload_n X.1.1 X.1.2.1 d_rf_send_29 rfl (lv_at L 1 rfl) ?_
        refine rl_12 X (nh_in h11) d_rf_send_30 ?_
        refine Mi.callV (k := 1) (c_rf_classOfWord hI _ _ (hm.hn (nh_in h11))) X (gt_V mw_640 mw_642 ms_39 mw_5 mw_643) ok_rf_classOfWord ⟨rfl, rfl, by decide, by decide⟩ (rc_rf X) rfl L.1 rfl (Nat.le_of_ble_eq_true rfl) d_rf_send_31 (fun H locs X => ?_)
        refine lv_iload_n X.1.1 X.1.2.1 d_rf_send_34 rfl (lv_at L 2 rfl) ?_
        refine Mi.callV (k := 2) (c_rf_found hI _ _ _ (hsup _ (nh_in h11)) (ns_in h18)) X (gt_V mw_656 mw_658 ms_40 mw_5 mw_659) ok_rf_found ⟨rfl, rfl, by decide, by decide⟩ (rc_rf X) rfl L.1 rfl (Nat.le_of_ble_eq_true rfl) d_rf_send_35 (fun H locs X => ?_)
        refine lv_istore_n (lv' := [(3, .int _), (0, .ref _), (1, .int _), (2, .int _)]) X.1.1 X.1.2.1 d_rf_send_38 rfl L (by decide) rfl (fun ls L => ?_)
        refine lv_aload_n X.1.1 X.1.2.1 d_rf_send_39 rfl (lv_at L 1 rfl) ?_
        refine Mi.callV (k := 0) (c_rf_room hI _) X (gt_V mw_592 mw_594 ms_35 mw_5 mw_595) ok_rf_room ⟨rfl, rfl, by decide, by decide⟩ (rc_rf X) rfl L.1 rfl (Nat.le_of_ble_eq_true rfl) d_rf_send_40 (fun H locs X => ?_)
        refine lv_istore (lv' := [(4, .int _), (3, .int _), (0, .ref _), (1, .int _), (2, .int _)]) X.1.1 X.1.2.1 d_rf_send_43 L (by decide) rfl (fun ls L => ?_)
        refine lv_iload_n X.1.1 X.1.2.1 d_rf_send_45 rfl (lv_at L 1 rfl) ?_
        refine lv_if_eq (tgt := 54) X.1.1 X.1.2.1 d_rf_send_46 rfl (fun h46 => ?_) (fun h46 => ?_)
        · skip
          refine lv_iconst (v := 0) X.1.1 X.1.2.1 d_rf_send_54 rfl ?_
          exact X.zret hr hlk d_rf_send_55 (by first | rfl | assumption) (by first | (simp only [sendM, sendM1, eq_true h4, eq_true h11, eq_true h18, eq_true h46, if_true, if_false]; done) | (simp [sendM, sendM1, eq_true h4, eq_true h11, eq_true h18, eq_true h46]; done) | (simp [sendM, sendM1, h4, h11, h18, h46]; done) | rfl) (by first | (simp only [sendM, sendM1, eq_true h4, eq_true h11, eq_true h18, eq_true h46, if_true, if_false]; done) | (simp [sendM, sendM1, eq_true h4, eq_true h11, eq_true h18, eq_true h46]; done) | (simp [sendM, sendM1, h4, h11, h18, h46]; done) | rfl)
        · skip
          refine lv_iload X.1.1 X.1.2.1 d_rf_send_49 (lv_at L 0 rfl) ?_
          refine lv_if_ge (tgt := 56) X.1.1 X.1.2.1 d_rf_send_51 rfl (fun h51 => ?_) (fun h51 => ?_)
          · skip
            refine lv_aload_n X.1.1 X.1.2.1 d_rf_send_56 rfl (lv_at L 2 rfl) ?_
            refine lv_iload X.1.1 X.1.2.1 d_rf_send_57 (lv_at L 0 rfl) ?_
            refine lv_iconst (v := 0) X.1.1 X.1.2.1 d_rf_send_59 rfl ?_
            refine lv_aload_n X.1.1 X.1.2.1 d_rf_send_60 rfl (lv_at L 2 rfl) ?_
            refine g_rf_handles X d_rf_send_61 ?_
            refine lv_iload_n X.1.1 X.1.2.1 d_rf_send_64 rfl (lv_at L 3 rfl) ?_
            refine rl_12 X (nh_in h11) d_rf_send_65 ?_
            refine lv_iload_n X.1.1 X.1.2.1 d_rf_send_66 rfl (lv_at L 1 rfl) ?_
            refine lv_iload_n X.1.1 X.1.2.1 d_rf_send_67 rfl (lv_at L 4 rfl) ?_
            refine Mv.callV (k := 5) (c_rf_context hI _ _ _ _ _ _ (room_in h51)) X (gt_V mw_660 mw_662 ms_41 mw_5 mw_663) ok_rf_context ⟨rfl, rfl, by decide, by decide⟩ (rc_rf X) rfl L.1 rfl (Nat.le_of_ble_eq_true rfl) d_rf_send_68 (fun H locs X => ?_)
            refine lv_iconst (v := 0) X.1.1 X.1.2.1 d_rf_send_71 rfl ?_
            refine lv_istore (lv' := [(5, .int _), (4, .int _), (3, .int _), (0, .ref _), (1, .int _), (2, .int _)]) X.1.1 X.1.2.1 d_rf_send_72 L (by decide) rfl (fun ls L => ?_)
            have hr1 : (sendM σ h t).1 = 1 := by simp only [sendM, sendM1, eq_true h4, eq_true h11, eq_true h18, eq_false h46, eq_true h51, if_true, if_false]
            have loop74 : ∀ (n : Nat) (k : Nat) (σ1 : SS) (H : Heap) (locs : List Loc) (ls : Array Slot), (nI (k + n) = argumentsOf t) → (k + n ≤ 2) → (RGm σ1) → (settleM (argL n k σ1 (roomM σ) h) = (sendM σ h t).2) → Cx (ER D ad ci) zp zs zm (([.ref (ad 0), .int h, .int t] : List Value).toArray) zc b_rf_send 6 "MessageMachineModel" H locs σ1 → lv_has ls 6 [(5, .int (nI k)), (0, .ref (ad 0)), (1, .int h), (2, .int t), (3, .int (foundM σ (classOfWordM σ (hM σ h)) t)), (4, .int (roomM σ))] → W zp l ze ({ frames := 3, cells := 0, slots := 0, locals := 65 } : Room) zs zm (([.ref (ad 0), .int h, .int t] : List Value).toArray) zb zt zc H locs 0 0 (MQ zb (va_Qi (fun (x : Int32) (u : SS) => x = ((sendM σ h t).1) ∧ u = ((sendM σ h t).2)) (fun u t => Pq (ER D ad ci) u t) (ER D ad ci).2.2.2) (([.ref (ad 0), .int h, .int t] : List Value).toArray) zs 0 0 (ER D ad ci).2.2.2) (F0 zm 74 ls []) := by
              intro n
              induction n with
              | zero =>
                intro k σ1 H locs ls hk hkl hm1 hq X L
                have e8 : argumentsOf t ≤ nI k := by rw [← hk]; exact Int32.le_refl _
                refine lv_iload X.1.1 X.1.2.1 d_rf_send_74 (lv_at L 0 rfl) ?_
                refine lv_iload_n X.1.1 X.1.2.1 d_rf_send_76 rfl (lv_at L 3 rfl) ?_
                refine lv_iconst (v := 3) X.1.1 X.1.2.1 d_rf_send_77 rfl ?_
                refine lv_irem X.1.1 X.1.2.1 d_rf_send_78 (by decide) ?_
                refine lv_icmp_ge (tgt := 117) X.1.1 X.1.2.1 d_rf_send_79 rfl (fun h79 => ?_) (fun h79 => ?_)
                · skip
                  refine lv_aload_n X.1.1 X.1.2.1 d_rf_send_117 rfl (lv_at L 1 rfl) ?_
                  refine Mv.callV (k := 0) (c_rf_settle hI _ hm1) X (gt_V mw_524 mw_526 ms_32 mw_5 mw_527) ok_rf_settle ⟨rfl, rfl, by decide, by decide⟩ (rc_rf X) rfl L.1 rfl (Nat.le_of_ble_eq_true rfl) d_rf_send_118 (fun H locs X => ?_)
                  refine lv_iconst (v := 1) X.1.1 X.1.2.1 d_rf_send_121 rfl ?_
                  exact X.zret hr hlk d_rf_send_122 (by first | rfl | assumption) hr1.symm hq
                · skip
                  exact absurd e8 h79
              | succ n ih =>
                intro k σ1 H locs ls hk hkl hm1 hq X L
                have e8 : ¬ argumentsOf t ≤ nI k := by rw [← hk, nI_leI (by omega) (by omega)]; omega
                refine lv_iload X.1.1 X.1.2.1 d_rf_send_74 (lv_at L 0 rfl) ?_
                refine lv_iload_n X.1.1 X.1.2.1 d_rf_send_76 rfl (lv_at L 3 rfl) ?_
                refine lv_iconst (v := 3) X.1.1 X.1.2.1 d_rf_send_77 rfl ?_
                refine lv_irem X.1.1 X.1.2.1 d_rf_send_78 (by decide) ?_
                refine lv_icmp_ge (tgt := 117) X.1.1 X.1.2.1 d_rf_send_79 rfl (fun h79 => ?_) (fun h79 => ?_)
                · skip
                  exact absurd h79 e8
                · skip
                  refine lv_aload_n X.1.1 X.1.2.1 d_rf_send_82 rfl (lv_at L 1 rfl) ?_
                  refine g_rf_word X d_rf_send_83 ?_
                  refine lv_bipush (v := 15) X.1.1 X.1.2.1 d_rf_send_86 rfl ?_
                  refine lv_iload X.1.1 X.1.2.1 d_rf_send_88 (lv_at L 5 rfl) ?_
                  refine lv_imul X.1.1 X.1.2.1 d_rf_send_90 ?_
                  refine lv_iconst (v := 5) X.1.1 X.1.2.1 d_rf_send_91 rfl ?_
                  refine lv_iadd X.1.1 X.1.2.1 d_rf_send_92 ?_
                  refine lv_iload X.1.1 X.1.2.1 d_rf_send_93 (lv_at L 0 rfl) ?_
                  refine lv_iadd X.1.1 X.1.2.1 d_rf_send_95 ?_
                  refine lv_aload_n X.1.1 X.1.2.1 d_rf_send_96 rfl (lv_at L 1 rfl) ?_
                  refine g_rf_handles X d_rf_send_97 ?_
                  refine lv_iload_n X.1.1 X.1.2.1 d_rf_send_100 rfl (lv_at L 2 rfl) ?_
                  refine lv_iconst (v := 1) X.1.1 X.1.2.1 d_rf_send_101 rfl ?_
                  refine lv_iadd X.1.1 X.1.2.1 d_rf_send_102 ?_
                  refine lv_iload X.1.1 X.1.2.1 d_rf_send_103 (lv_at L 0 rfl) ?_
                  refine lv_iadd X.1.1 X.1.2.1 d_rf_send_105 ?_
                  refine lv_bipush (v := 6) X.1.1 X.1.2.1 d_rf_send_106 rfl ?_
                  refine lv_irem X.1.1 X.1.2.1 d_rf_send_108 (by decide) ?_
                  refine rl_12 X (argh (nh_in h11) (by omega)) d_rf_send_109 ?_
                  refine rs_5 hI X (w5v (room_in h51) (by omega)) d_rf_send_110 (fun H locs X => ?_)
                  refine lv_iinc (k := 0) (lv' := [(5, .int (nI (k + 1))), (0, .ref _), (1, .int _), (2, .int _), (3, .int _), (4, .int _)]) X.1.1 X.1.2.1 d_rf_send_111 L rfl (nI_inc k) (by decide) rfl (fun ls L => ?_)
                  refine lv_goto (tgt := 74) X.1.1 X.1.2.1 d_rf_send_114 rfl ?_
                  exact ih (k + 1) _ _ _ _ (by rw [show k + 1 + n = k + (n + 1) by omega]; exact hk) (by omega) (RGm_5 hm1 _ (hm1.hn (argh (nh_in h11) (by omega)))) (by rw [← hq]; rfl) X L
            exact loop74 (ix (argumentsOf t)) 0 _ _ _ _ (by rw [Nat.zero_add]; exact (args_nI (ns_in h18)).1.symm) (by rw [Nat.zero_add]; exact (args_nI (ns_in h18)).2) (RGm_20 (RGm_cx hm (room_in h51) (by decide) (hm.hn (nh_in h11)) (vp_nn (foundM_in (hsup _ (nh_in h11)))) (ns_in h18)) (room_in h51)) (by simp only [sendM, sendM1, eq_true h4, eq_true h11, eq_true h18, eq_false h46, eq_true h51, if_true, if_false]; rfl) X (lv_sub L [0, 3, 4, 5, 2, 1] rfl)
          · skip
            refine lv_iconst (v := 0) X.1.1 X.1.2.1 d_rf_send_54 rfl ?_
            exact X.zret hr hlk d_rf_send_55 (by first | rfl | assumption) (by first | (simp only [sendM, sendM1, eq_true h4, eq_true h11, eq_true h18, eq_false h46, eq_false h51, if_true, if_false]; done) | (simp [sendM, sendM1, eq_true h4, eq_true h11, eq_true h18, eq_false h46, eq_false h51]; done) | (simp [sendM, sendM1, h4, h11, h18, h46, h51]; done) | rfl) (by first | (simp only [sendM, sendM1, eq_true h4, eq_true h11, eq_true h18, eq_false h46, eq_false h51, if_true, if_false]; done) | (simp [sendM, sendM1, eq_true h4, eq_true h11, eq_true h18, eq_false h46, eq_false h51]; done) | (simp [sendM, sendM1, h4, h11, h18, h46, h51]; done) | rfl)
      · skip
        refine lv_iconst (v := 0) X.1.1 X.1.2.1 d_rf_send_21 rfl ?_
        exact X.zret hr hlk d_rf_send_22 (by first | rfl | assumption) (by first | (simp only [sendM, sendM1, eq_true h4, eq_true h11, eq_false h18, if_true, if_false]; done) | (simp [sendM, sendM1, eq_true h4, eq_true h11, eq_false h18]; done) | (simp [sendM, sendM1, h4, h11, h18]; done) | rfl) (by first | (simp only [sendM, sendM1, eq_true h4, eq_true h11, eq_false h18, if_true, if_false]; done) | (simp [sendM, sendM1, eq_true h4, eq_true h11, eq_false h18]; done) | (simp [sendM, sendM1, h4, h11, h18]; done) | rfl)
