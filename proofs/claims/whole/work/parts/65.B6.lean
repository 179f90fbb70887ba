/-! making an instance, sending -/
section SND
variable {σ τ μ : SS}
theorem pop_make1 {c o : Int32} (hc : vp_in c 28) (ho : vp_in o 28) (hne : ix c ≠ ix o) (ha : acM μ = c) (s k n : Int32) {D : Nat} (hD : tpM μ - 1 = nI D) (hD6 : D ≤ 5) : popM (make1M μ o s k n) = make1M (popM μ) o s k n := by
  have ac1 : acM (make1M μ o s k n) = c := by unfold acM; rw [mk1_ne _ _ _ _ _ (by decide)]; exact ha
  have tp1 : tpM (make1M μ o s k n) = tpM μ := by unfold tpM; rw [ac1, ha, mk1_11, pk_un hne]
  have ej : ix (15 * c + 9 + nI D) = 15 * ix c + (9 + D) := by rw [a9, ixa hc (by omega)]
  have hc28 := vp_ix hc
  have ho28 := vp_ix ho
  unfold popM pop1M
  rw [tp1, ac1, hD, ha, ej]
  refine Prod.ext (funext (fun a => ?_)) ?_
  · have pn : ∀ {a}, a ≠ 5 → a ≠ 11 → (sA (sA μ 11 (ix c) (nI D)) 5 (15 * ix c + (9 + D)) 0).1 a = μ.1 a := fun h1 h2 => by rw [sA_ne _ h1, sA_ne _ h2]
    by_cases a5 : a = 5
    · subst a5
      funext j
      rw [sA_eq, sA_ne _ (by decide), mk1_5 _ ho, sA_eq, sA_ne _ (by decide)]
      by_cases e : j = 15 * ix c + (9 + D)
      · subst e
        rw [pk_us, pk_us]
        split <;> rfl
      · rw [pk_un e, pk_un e, mk1_5 _ ho]
    · rw [sA_ne _ a5]
      by_cases a11 : a = 11
      · subst a11; rw [sA_eq, mk1_11, mk1_11, sA_ne _ (by decide), sA_eq, upd_comm (Ne.symm hne)]
      · rw [sA_ne _ a11]
        by_cases q : a ≠ 1 ∧ a ≠ 2 ∧ a ≠ 3 ∧ a ≠ 4 ∧ a ≠ 5 ∧ a ≠ 6 ∧ a ≠ 11
        · rw [mk1_ne _ _ _ _ _ q, mk1_ne _ _ _ _ _ q, pn a5 a11]
        · have h5 : a = 1 ∨ a = 2 ∨ a = 3 ∨ a = 4 ∨ a = 6 := by omega
          rcases h5 with rfl | rfl | rfl | rfl | rfl
          · rw [mk1_1, mk1_1, pn (by decide) (by decide)]
          · rw [mk1_s, mk1_s, pn (by decide) (by decide)]
          · rw [mk1_3, mk1_3, pn (by decide) (by decide)]
          · rw [mk1_4, mk1_4, pn (by decide) (by decide)]
          · rw [mk1_6, mk1_6, pn (by decide) (by decide)]
  · rw [mk1_2, sA_2, sA_2, sA_2, sA_2, mk1_2]
theorem pb_12 {c : Int32} {a : Nat} (h : ACT σ μ c) (ha : a < 16) (hd : a = 0 → 1 ≤ dpt σ c) : PB (instance0 σ c (nI a)) (fa12M μ (nI a)) (createM μ) σ := by
  have hc := h.ctx
  have hp := dpt_nI h.inn.rg hc.1
  unfold instance0 fa12M
  by_cases e0 : nI a = 0
  · have a0 : a = 0 := (nI_eq (b := 0) (by omega) (by omega)).mp e0
    rw [if_pos e0, if_neg (by rw [e0]; decide)]
    have hd1 := hd a0
    have t0 := h.top (m := 0) hd1
    rw [show fromTopM μ 0 = topBut σ c 0 from t0.1]
    have t0w : 0 ≤ (topBut σ c 0).toInt ∧ Wd σ (topBut σ c 0) := t0.2
    unfold instance1 createM
    rw [show fromTopM μ 0 = topBut σ c 0 from t0.1]
    obtain ⟨k, hk⟩ : ∃ k, k = topBut σ c 0 := ⟨_, rfl⟩
    rw [← hk] at t0w ⊢
    rcases isClass_eq h.rr t0w.1 t0w.2 with ⟨c1, c2, _⟩ | ⟨c1, c2, c3⟩
    · rw [if_pos c1, if_pos c2]; exact PB.no (by decide)
    · rw [if_neg c1, if_neg c2]
      by_cases e3 : k = 3
      · rw [if_pos e3, if_pos e3]; exact PB.no (by decide)
      · rw [if_neg e3, if_neg e3]
        rcases lf_cases h.rr h.inn with ⟨d1, d2⟩ | ⟨d1, d2, d3, d4⟩
        · rw [if_pos d1, if_neg d2]
          unfold newInstance
          rw [if_pos d1]; exact PB.no (by decide)
        · rw [if_neg d1, if_pos d2, room_eq h.rr h.inn]
          unfold instanceT newInstance
          rw [if_neg d1]
          have hne : ix c ≠ ix (leastFree σ) := fun q => hc.2.1 (by rw [q]; exact d4)
          have hsz := h.inn.rg.2.2.2.2.1 _ (vp_ix c3.1)
          have hn : 0 ≤ (σ.1 9 (ix k)).toInt ∧ (σ.1 9 (ix k)).toInt ≤ 15 := ⟨hsz.1, by omega⟩
          have e8 : (popM μ).1 8 (ix k) = σ.1 9 (ix k) := by
            unfold popM pop1M
            rw [sA_ne _ (by decide), sA_ne _ (by decide)]
            exact (h.rr.2.2.1 _ (vp_ix c3.1) (h.inn.cl4 (vp_ix c3.1) c3.2)).2.2.2.2.1 c3.2
          rw [e8, ← pop_make1 hc.1 d3 hne h.ac 0 k _ (D := dpt σ c - 1) (by rw [h.rr.tp hc h.ac, hp.1, show (1 : Int32) = nI 1 from rfl, pk_sub hd1]) (by omega)]
          have hW : ACT (wake σ (leastFree σ) k (σ.1 9 (ix k))) (make1M μ (leastFree σ) 0 k (σ.1 9 (ix k))) c := by
            refine ⟨⟨IN_wake h.inn d3 d4 c3 e3 hn, (AX_wake h.inn h.ax d4).1, ?_, Rr_wake h.rr h.inn.za h.inn.zd _ _ d3 d4 (by rw [if_neg e3]), RGm_make1 h.rgm _ d3 c3.1 hn⟩, ?_, h.2.2⟩
            · rw [wake_ne _ _ _ _ (by decide)]; exact h.1.2.2.1
            · rw [wake_ne _ _ _ _ (by decide)]; exact h.2.1
          have dW : dpt (wake σ (leastFree σ) k (σ.1 9 (ix k))) c = dpt σ c := by unfold dpt; rw [wake_ne _ _ _ _ (by decide)]
          have hP := ACT_pop hW (by rw [dW]; exact hd1)
          have dP := pop_dpt hW.inn.rg hc.1 (show 1 ≤ dpt (wake σ (leastFree σ) k (σ.1 9 (ix k))) c by rw [dW]; exact hd1)
          refine PB.ok (ACT_push hP (by omega) (vp_nn d3) (Or.inr ?_)).1
          rw [pop_ne _ _ (by decide) (by decide), wake_4, pk_us]; decide
  · have a0 : a ≠ 0 := fun q => e0 (by rw [q]; rfl)
    have z : (0 : Int32) < nI a := (nI_ltI (a := 0) (b := a) (by omega) (by omega)).mpr (by omega)
    rw [if_neg e0, if_pos z]; exact PB.no (by decide)
/-- the sender of a context that is none of those that wait -/
theorem IN_snd0 (h : IN σ) {o w : Int32} (ho : Ctx σ o) (hw : XN σ w) : IN (setField σ o 0 w) := by
  have sn : ∀ {a}, a ≠ 11 → (setField σ o 0 w).1 a = σ.1 a := fun h1 => setField_ne _ _ _ _ h1
  have s4 := sn (show (4 : Nat) ≠ 11 by decide)
  have s6 := sn (show (6 : Nat) ≠ 11 by decide)
  have s7 := sn (show (7 : Nat) ≠ 11 by decide)
  have s8 := sn (show (8 : Nat) ≠ 11 by decide)
  have s10 := sn (show (10 : Nat) ≠ 11 by decide)
  have hk := h.kx _ (vp_ix ho.1) ho.2.1 ho.2.2
  have wn : 0 ≤ w.toInt := by
    rcases hw with rfl | q
    · decide
    · exact vp_nn q.1
  have ww : Wd σ w := by
    rcases hw with rfl | q
    · exact Wd_0 h
    · exact Or.inr q.2.1
  have cne : ∀ i, i < 28 → ¬ σ.1 6 i = 0 → i ≠ ix o := fun i hi q e => by
    have := (h.kc i hi q).1
    rw [e, ho.2.2] at this
    exact absurd this (by decide)
  have o0 : ix o ≠ 0 := fun e => by
    have := (h.f4.1 0 (by omega)).2
    rw [← e, ho.2.2] at this
    exact absurd this (by decide)
  refine ⟨RG_setField h.rg _ _ wn, ?_, fun i j hi hj h8 => ?_, ?_, HC_setField h.rg h.hc ho.1 (vpc (by decide)) ho.2.1 (by rw [hk.1]; decide) wn, ?_, ⟨?_, fun i j hi hj => ?_, ?_⟩, fun i hi hci => ?_, fun i hi hli h3 => ?_, fun i hi hci => ?_⟩
  · unfold BZ; rw [sn (by decide)]; exact h.bz
  · rw [s8] at h8
    by_cases e : i = ix o
    · subst e; rw [hk.1, show ix (15 : Int32) = 15 by decide] at h8; omega
    · rw [sF_oth _ _ _ _ e]; exact h.za i j hi hj h8
  · unfold Zd; rw [s4, s6, s8, s10, sn (show (5 : Nat) ≠ 11 by decide)]; exact h.zd
  · unfold F4; rw [s4, s6, s7, s8]; exact h.f4
  · unfold CW; rw [s4, s6, s7]; exact h.cl.1
  · unfold Wd; rw [s4]
    by_cases e : i = ix o
    · subst e; rw [sF_row, i0]
      by_cases e2 : j = 0
      · rw [e2, pk_us]; exact ww
      · rw [pk_un e2]; exact h.cl.2.1 _ j hi hj
    · rw [sF_oth _ _ _ _ e]; exact h.cl.2.1 i j hi hj
  · unfold Wd; rw [s4, sn (show (13 : Nat) ≠ 11 by decide)]; exact h.cl.2.2
  · rw [s6] at hci
    unfold CW; rw [s6, s7, s8, sF_oth _ _ _ _ (cne i hi hci)]; exact h.kc i hi hci
  · rw [s4] at hli
    rw [s7] at h3
    unfold KXo XN CW; rw [s4, s6, s7, s8, s10]
    by_cases e : i = ix o
    · subst e
      rw [sF_row, i0, pk_us, pk_un (by omega), pk_un (by omega), pk_un (by omega)]
      refine ⟨hk.1, hw, hk.2.2.1, hk.2.2.2.1, hk.2.2.2.2.1, fun j hj hu => ?_⟩
      rw [pk_un (by omega)]; exact hk.2.2.2.2.2 j hj hu
    · rw [sF_oth _ _ _ _ e]; exact h.kx i hi hli h3
  · rw [s6] at hci
    obtain ⟨n, hn⟩ := h.sc i hi hci
    refine ⟨n, ?_⟩
    rw [(supN_eq (σ := σ) (P := CN σ) (fun a ha => ⟨?_, ha.step h⟩) n _ (Or.inr ⟨vp_k hi (by decide), by rw [ix_nI (by omega)]; exact hci⟩)).1]
    · exact hn
    · rcases ha with rfl | ha
      · rw [i0, sF_oth _ _ _ _ (Ne.symm o0)]
      · rw [sF_oth _ _ _ _ (cne _ (vp_ix ha.1) ha.2)]
theorem AX_at {o k w : Int32} (hx : AX σ) (hf : Off σ (ix o)) : AX (setField σ o k w) ∧ Off (setField σ o k w) (ix o) :=
  AX_off hx hf (fun a i ha hi => by rw [setField_ne _ _ _ _ (by omega)]) (by rw [setField_ne _ _ _ _ (by decide)]) (fun i hi => by rw [sF_oth _ _ _ _ hi])
theorem sA_sA (μ : SS) {k j : Nat} {x y : Int32} : sA (sA μ k j x) k j y = sA μ k j y := by
  refine Prod.ext (funext (fun a => ?_)) rfl
  by_cases e : a = k
  · subst e; rw [sA_eq, sA_eq, sA_eq, upd_upd]
  · rw [sA_ne _ e, sA_ne _ e, sA_ne _ e]
theorem ctx1_s {o : Int32} (ho : vp_in o 28) (s r f t : Int32) : ctx1M μ o s r f t = sA (ctx1M μ o 0 r f t) 5 (15 * ix o + 0) s := by
  unfold ctx1M
  rw [ix15 ho, show (1 : Int32) = nI 1 from rfl, ixa ho (by omega), show (2 : Int32) = nI 2 from rfl, ixa ho (by omega), show (3 : Int32) = nI 3 from rfl, ixa ho (by omega), show (4 : Int32) = nI 4 from rfl, ixa ho (by omega)]
  rw [sA_comm5 _ (show 15 * ix o + 4 ≠ 15 * ix o + 0 by omega), sA_comm5 _ (show 15 * ix o + 3 ≠ 15 * ix o + 0 by omega), sA_comm5 _ (show 15 * ix o + 2 ≠ 15 * ix o + 0 by omega), sA_comm5 _ (show 15 * ix o + 1 ≠ 15 * ix o + 0 by omega), sA_sA]
theorem sdL_act {n : Nat} : ∀ {k : Nat} {μ : SS} {o c m w : Int32}, sdL n k (sA μ 20 0 w) o c m = sA (sdL n k μ o c m) 20 0 w := by
  induction n with
  | zero => intro k μ o c m w; rfl
  | succ n ih =>
    intro k μ o c m w
    unfold sdL
    rw [sA_ne μ (show (5 : Nat) ≠ 20 by decide), sA_ne μ (show (11 : Nat) ≠ 20 by decide), sA_comm _ (show (20 : Nat) ≠ 5 by decide), sA_comm _ (show (20 : Nat) ≠ 5 by decide), ih]
theorem sd2_act {c m w : Int32} : sd2M (sA μ 20 0 w) c m = sA (sd2M μ c m) 20 0 w := by
  unfold sd2M sd1M
  rw [sA_ne μ (show (11 : Nat) ≠ 20 by decide), sA_comm μ (show (20 : Nat) ≠ 11 by decide), sA_ne _ (show (11 : Nat) ≠ 20 by decide), sA_comm _ (show (20 : Nat) ≠ 5 by decide)]
theorem sdi {i d m k : Nat} (h : m ≤ 9 + d) (hi : i < 28) (hd : d ≤ 6) (hk : k ≤ m) : ix (15 * nI i + 9 + nI d - nI m + nI k) = 15 * i + (9 + d - m + k) := by
  rw [a9, wi, pk_sub (by omega), nI_add, ix_nI (by omega)]
  omega
/-- the reference's sending, once the new context is laid: arguments go over, the stack shrinks -/
theorem Rr_sends {c o : Int32} (h : Rr σ μ) (hg : RG σ) (hc : Ctx σ c) (ho : vp_in o 28) (hne : ix c ≠ ix o) {m : Nat} (hm : m ≤ 2) (hd : m + 1 ≤ dpt σ c)
    (r : ∀ a, a ≠ 10 → a ≠ 11 → τ.1 a = σ.1 a) (r10 : τ.1 10 = upd (σ.1 10) (ix c) (nI (dpt σ c - m - 1))) (gc : ∀ j, τ.2.1 (ix c) j = if 9 + (dpt σ c - m - 1) ≤ j ∧ j < 9 + dpt σ c then 0 else σ.2.1 (ix c) j)
    (go : ∀ j, τ.2.1 (ix o) j = if 5 ≤ j ∧ j < 5 + m then σ.2.1 (ix c) (9 + (dpt σ c - m + (j - 5))) else σ.2.1 (ix o) j) (gr : ∀ i, i ≠ ix c → i ≠ ix o → τ.2.1 i = σ.2.1 i) (gl : τ.2.2 = σ.2.2) : Rr τ (sd2M (sdL m 0 μ o c (nI m)) c (nI m)) := by
  have hp := dpt_nI hg hc.1
  have htp : μ.1 11 (ix c) = nI (dpt σ c) := ((h.ctx hc).2.2.2.2.2 hc.2.2).trans hp.1
  have hw : ∀ j, j < 15 → μ.1 5 (15 * ix c + j) = σ.2.1 (ix c) j := fun j hj => (h.ctx hc).2.2.1 j hj
  obtain ⟨i, hi, rfl⟩ := vp_in_of hc.1 (by decide)
  rw [ix_nI (show i < 2 ^ 31 by omega)] at *
  generalize hdd : dpt σ (nI i) = d at hp htp hd r10 gc go
  have hio := vp_ix ho
  have vI : vp_in (nI i) 28 := hc.1
  have fld : ∀ {σ μ : SS} {k : Nat} {w : Int32}, Rr σ μ → k < 15 → Rr (setField σ (nI i) (nI k) w) (sA μ 5 (15 * i + k) w) := fun {σ μ k w} hR hk => by
    have := Rr_field hR (o := nI i) (k := nI k) w (vp_k (by omega) (by decide))
    rw [ix_nI (by omega), ix_nI (by omega)] at this
    exact this
  have flo : ∀ {σ μ : SS} {k : Nat} {w : Int32}, Rr σ μ → k < 15 → Rr (setField σ o (nI k) w) (sA μ 5 (15 * ix o + k) w) := fun {σ μ k w} hR hk => by
    have := Rr_field hR (o := o) (k := nI k) w (vp_k (by omega) (by decide))
    rw [ix_nI (by omega)] at this
    exact this
  have ci : ∀ (σ : SS) (k : Nat) (w : Int32), k < 15 → (setField σ (nI i) (nI k) w).2.1 i = upd (σ.2.1 i) k w := fun σ k w hk => by
    have := sF_row σ (nI i) (nI k) w
    rw [ix_nI (by omega), ix_nI (by omega)] at this
    exact this
  have cn : ∀ (σ : SS) (k : Nat) (w : Int32) (a : Nat), a ≠ i → (setField σ (nI i) (nI k) w).2.1 a = σ.2.1 a := fun σ k w a ha => sF_oth _ _ _ _ (by rw [ix_nI (by omega)]; exact ha)
  have co : ∀ (σ : SS) (k : Nat) (w : Int32), k < 15 → (setField σ o (nI k) w).2.1 (ix o) = upd (σ.2.1 (ix o)) k w := fun σ k w hk => by
    have := sF_row σ o (nI k) w
    rw [ix_nI (show k < 2 ^ 31 by omega)] at this
    exact this
  have con : ∀ (σ : SS) (k : Nat) (w : Int32) (a : Nat), a ≠ ix o → (setField σ o (nI k) w).2.1 a = σ.2.1 a := fun σ k w a ha => sF_oth _ _ _ _ ha
  have hm3 : m = 0 ∨ m = 1 ∨ m = 2 := by omega
  rcases hm3 with rfl | rfl | rfl
  · -- no arguments
    unfold sdL sd2M sd1M
    rw [ix_nI (show i < 2 ^ 31 by omega), htp, show nI 0 + 1 = nI 1 from by rw [nI_1], pk_sub (show 1 ≤ d by omega), sA_eq, pk_us, a9, wi, ix_nI (by omega)]
    have q := fld (k := 9 + (d - 1)) (w := 0) (Rr_dep h i (nI (d - 1))) (by omega)
    refine Rr_equiv q (fun a ha => ?_) (Prod.ext (funext (fun a => ?_)) ?_)
    · by_cases a10 : a = 10
      · subst a10; rw [r10, setField_ne _ _ _ _ (by decide), sA_eq]; rfl
      · rw [r a a10 ha, setField_ne _ _ _ _ ha, sA_ne _ a10]
    · by_cases e : a = i
      · subst e
        funext j
        rw [gc, ci _ _ _ (by omega), sA_2]
        by_cases e2 : j = 9 + (d - 1)
        · rw [if_pos (by omega), e2, pk_us]
        · rw [pk_un e2, if_neg (by omega)]
      · rw [cn _ _ _ _ e, sA_2]
        by_cases e2 : a = ix o
        · subst e2; funext j; rw [go, if_neg (by omega)]
        · exact gr a e e2
    · rw [gl, sF_L]; rfl
  · -- one
    unfold sdL sdL sd2M sd1M
    rw [ix_nI (show i < 2 ^ 31 by omega), htp, sdi (by omega) hi (by omega) (by omega), w10 ho (by omega)]
    rw [sA_ne _ (show (11 : Nat) ≠ 5 by decide), sA_ne _ (show (11 : Nat) ≠ 5 by decide), htp, show nI 1 + 1 = nI 2 from by rw [nI_1], pk_sub (show 2 ≤ d by omega), sA_eq, pk_us, a9, wi, ix_nI (by omega)]
    rw [show 9 + d - 1 + 0 = 9 + (d - 1) by omega, hw _ (by omega)]
    have q := fld (k := 9 + (d - 2)) (w := 0) (Rr_dep (fld (k := 9 + (d - 1)) (w := 0) (flo (k := 5) (w := σ.2.1 i (9 + (d - 1))) h (by omega)) (by omega)) i (nI (d - 2))) (by omega)
    refine Rr_equiv q (fun a ha => ?_) (Prod.ext (funext (fun a => ?_)) ?_)
    · by_cases a10 : a = 10
      · subst a10; rw [r10, setField_ne _ _ _ _ (by decide), sA_eq, setField_ne _ _ _ _ (by decide), setField_ne _ _ _ _ (by decide), show d - 1 - 1 = d - 2 by omega]
      · rw [r a a10 ha, setField_ne _ _ _ _ ha, sA_ne _ a10, setField_ne _ _ _ _ ha, setField_ne _ _ _ _ ha]
    · by_cases e : a = i
      · subst e
        funext j
        rw [gc, ci _ _ _ (by omega), sA_2, ci _ _ _ (by omega), con _ _ _ _ hne]
        by_cases e2 : j = 9 + (d - 2)
        · rw [if_pos (by omega), e2, pk_us]
        · rw [pk_un e2]
          by_cases e3 : j = 9 + (d - 1)
          · rw [if_pos (by omega), e3, pk_us]
          · rw [pk_un e3, if_neg (by omega)]
      · rw [cn _ _ _ _ e, sA_2, cn _ _ _ _ e]
        by_cases e2 : a = ix o
        · subst e2; funext j; rw [go, co _ _ _ (by omega)]
          by_cases e3 : j = 5
          · rw [if_pos (by omega), e3, pk_us, show d - 1 + (5 - 5) = d - 1 by omega]
          · rw [pk_un e3, if_neg (by omega)]
        · rw [con _ _ _ _ e2]; exact gr a e e2
    · rw [gl, sF_L, sA_2, sF_L, sF_L]
  · -- two
    unfold sdL sdL sdL sd2M sd1M
    rw [ix_nI (show i < 2 ^ 31 by omega), htp, sdi (by omega) hi (by omega) (by omega), w10 ho (by omega)]
    simp only [sA_ne _ (show (11 : Nat) ≠ 5 by decide), htp]
    rw [sdi (by omega) hi (by omega) (by omega), w10 ho (by omega), show nI 2 + 1 = nI 3 from by rw [nI_1], pk_sub (show 3 ≤ d by omega), sA_eq _ 11 i (nI (d - 3)), pk_us, a9, wi, ix_nI (by omega)]
    rw [show 9 + d - 2 + 0 = 9 + (d - 2) by omega, show 9 + d - 2 + (0 + 1) = 9 + (d - 1) by omega, show 5 + (0 + 1) = 6 by omega, show 5 + 0 = 5 by omega]
    rw [show (sA (sA μ 5 (15 * ix o + 5) (μ.1 5 (15 * i + (9 + (d - 2))))) 5 (15 * i + (9 + (d - 2))) 0).1 5 (15 * i + (9 + (d - 1))) = σ.2.1 i (9 + (d - 1)) from by
      rw [sA_eq, pk_un (by omega), sA_eq, pk_un (by omega), hw _ (by omega)], hw _ (by omega)]
    have q := fld (k := 9 + (d - 3)) (w := 0) (Rr_dep (fld (k := 9 + (d - 1)) (w := 0) (flo (k := 6) (w := σ.2.1 i (9 + (d - 1))) (fld (k := 9 + (d - 2)) (w := 0) (flo (k := 5) (w := σ.2.1 i (9 + (d - 2))) h (by omega)) (by omega)) (by omega)) (by omega)) i (nI (d - 3))) (by omega)
    refine Rr_equiv q (fun a ha => ?_) (Prod.ext (funext (fun a => ?_)) ?_)
    · by_cases a10 : a = 10
      · subst a10; rw [r10, setField_ne _ _ _ _ (by decide), sA_eq, setField_ne _ _ _ _ (by decide), setField_ne _ _ _ _ (by decide), setField_ne _ _ _ _ (by decide), setField_ne _ _ _ _ (by decide), show d - 2 - 1 = d - 3 by omega]
      · rw [r a a10 ha, setField_ne _ _ _ _ ha, sA_ne _ a10, setField_ne _ _ _ _ ha, setField_ne _ _ _ _ ha, setField_ne _ _ _ _ ha, setField_ne _ _ _ _ ha]
    · by_cases e : a = i
      · subst e
        funext j
        rw [gc, ci _ _ _ (by omega), sA_2, ci _ _ _ (by omega), con _ _ _ _ hne, ci _ _ _ (by omega), con _ _ _ _ hne]
        by_cases e2 : j = 9 + (d - 3)
        · rw [if_pos (by omega), e2, pk_us]
        · rw [pk_un e2]
          by_cases e3 : j = 9 + (d - 1)
          · rw [if_pos (by omega), e3, pk_us]
          · rw [pk_un e3]
            by_cases e4 : j = 9 + (d - 2)
            · rw [if_pos (by omega), e4, pk_us]
            · rw [pk_un e4, if_neg (by omega)]
      · rw [cn _ _ _ _ e, sA_2, cn _ _ _ _ e]
        by_cases e2 : a = ix o
        · subst e2; funext j
          rw [go, co _ _ _ (by omega), cn _ _ _ _ e, co _ _ _ (by omega)]
          by_cases e3 : j = 6
          · rw [if_pos (by omega), e3, pk_us, show d - 2 + (6 - 5) = d - 1 by omega]
          · rw [pk_un e3]
            by_cases e4 : j = 5
            · rw [if_pos (by omega), e4, pk_us, show d - 2 + (5 - 5) = d - 2 by omega]
            · rw [pk_un e4, if_neg (by omega)]
        · rw [con _ _ _ _ e2, cn _ _ _ _ e, con _ _ _ _ e2]; exact gr a e e2
    · rw [gl, sF_L, sA_2, sF_L, sF_L, sF_L, sF_L]
end SND
