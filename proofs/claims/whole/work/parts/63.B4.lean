/-! the active context -/
section ACTV
variable {σ τ μ : SS}
def ACT (σ μ : SS) (c : Int32) : Prop := PRE σ μ ∧ σ.1 13 6 = c ∧ ¬ c = 0
theorem ACT.inn {c : Int32} (h : ACT σ μ c) : IN σ := h.1.1
theorem ACT.rr {c : Int32} (h : ACT σ μ c) : Rr σ μ := h.1.2.2.2.1
theorem ACT.ax {c : Int32} (h : ACT σ μ c) : AX σ := h.1.2.1
theorem ACT.rgm {c : Int32} (h : ACT σ μ c) : RGm μ := h.1.2.2.2.2
theorem ACT.ctx {c : Int32} (h : ACT σ μ c) : Ctx σ c := by
  have := h.ax.1
  rw [h.2.1] at this
  exact this.resolve_left h.2.2
theorem ACT.ac {c : Int32} (h : ACT σ μ c) : acM μ = c := h.rr.2.2.2.2.1.trans h.2.1
theorem AX_act {c : Int32} (h : ACT σ μ c) (r : ∀ a, a ≠ 10 → a ≠ 11 → τ.1 a = σ.1 a) (r10 : ∀ i, i ≠ ix c → τ.1 10 i = σ.1 10 i) (g00 : ∀ i, τ.2.1 i 0 = σ.2.1 i 0) : AX τ :=
  AX_ctx h.ax (by rw [h.2.1]; exact h.2.2) r (by rw [h.2.1]; exact r10) g00 (fun n => h.ax.chain h.inn n)
theorem ACT_push {c w : Int32} (h : ACT σ μ c) (hd : dpt σ c < 6) (h0 : 0 ≤ w.toInt) (hw : Wd σ w) : ACT (push σ c w) (pushM μ w) c := by
  have hc := h.ctx
  have hp := dpt_nI h.inn.rg hc.1
  refine ⟨⟨IN_push h.inn hc hd h0 hw, AX_act h (fun a h1 h2 => push_ne σ c w h1 h2) (fun i hi => by rw [push_10, pk_un hi]) (fun i => ?_), ?_, Rr_push h.rr h.inn.rg hc h.ac hd w, ?_⟩, ?_, h.2.2⟩
  · by_cases e : i = ix c
    · rw [e, push_row h.inn.rg hc.1, pk_un (by omega)]
    · rw [push_oth _ _ _ e]
  · rw [push_ne _ _ _ (by decide) (by decide)]; exact h.1.2.2.1
  · unfold pushM push1M
    refine RGm_11 (RGm_5 h.rgm _ h0) _ ?_
    rw [h.rr.tp hc h.ac, hp.1, nI_1, nI_toInt (by omega)]
    omega
  · rw [push_ne _ _ _ (by decide) (by decide)]; exact h.2.1
theorem ACT_pop {c : Int32} (h : ACT σ μ c) (hd : 1 ≤ dpt σ c) : ACT (pop σ c) (popM μ) c := by
  have hc := h.ctx
  have hp := dpt_nI h.inn.rg hc.1
  refine ⟨⟨IN_pop h.inn hc hd, AX_act h (fun a h1 h2 => pop_ne σ c h1 h2) (fun i hi => by rw [popT_10, pk_un hi]) (fun i => ?_), ?_, Rr_pop h.rr h.inn.rg hc h.ac hd, ?_⟩, ?_, h.2.2⟩
  · by_cases e : i = ix c
    · rw [e, pop_row h.inn.rg hc.1 hd, pk_un (by omega)]
    · rw [pop_oth _ _ e]
  · rw [pop_ne _ _ (by decide) (by decide)]; exact h.1.2.2.1
  · unfold popM pop1M
    refine RGm_5 (RGm_11 h.rgm _ ?_) _ (by decide)
    rw [h.rr.tp hc h.ac, hp.1, show (1 : Int32) = nI 1 from rfl, pk_sub hd, nI_toInt (by omega)]
    omega
  · rw [pop_ne _ _ (by decide) (by decide)]; exact h.2.1
theorem ACT_tmp {c w : Int32} {k : Nat} (h : ACT σ μ c) (hk5 : 4 ≤ k) (hk9 : k < 9) (h0 : 0 ≤ w.toInt) (hw : Wd σ w) (hp : k = 4 → ∃ q, q ≤ 16 ∧ w = nI (1000 + q)) : ACT (setField σ c (nI k) w) (sA μ 5 (15 * ix c + k) w) c := by
  have hc := h.ctx
  refine ⟨⟨IN_tmp h.inn hc hk5 hk9 h0 hw hp, AX_act h (fun a h1 h2 => setField_ne _ _ _ _ h2) (fun i hi => by rw [setField_ne _ _ _ _ (by decide)]) (fun i => ?_), ?_, ?_, RGm_5 h.rgm _ h0⟩, ?_, h.2.2⟩
  · by_cases e : i = ix c
    · rw [e, sF_row, ix_nI (by omega), pk_un (by omega)]
    · rw [sF_oth _ _ _ _ e]
  · rw [setField_ne _ _ _ _ (by decide)]; exact h.1.2.2.1
  · rw [← ixa hc.1 (show k < 15 by omega)]; exact Rr_tmp h.rr hc.1 (by omega) w
  · rw [setField_ne _ _ _ _ (by decide)]; exact h.2.1
theorem n1000 {q : Nat} : 1000 + nI q = nI (1000 + q) := by rw [show (1000 : Int32) = nI 1000 from rfl, nI_add]
theorem ACT_jump {c : Int32} {q : Nat} (h : ACT σ μ c) (hq : q ≤ 16) : ACT (setPlace σ c (nI q)) (jumpM μ (nI q)) c := by
  have := ACT_tmp (k := 4) (w := nI (1000 + q)) h (by omega) (by omega) (by rw [nI_toInt (by omega)]; omega) (wd_num (by omega) (by omega)) (fun _ => ⟨q, hq, rfl⟩)
  unfold setPlace jumpM
  rw [n1000, h.ac, show (4 : Int32) = nI 4 from rfl, ixa h.ctx.1 (by omega)]
  exact this
theorem ACT.wd {c : Int32} (h : ACT σ μ c) {k : Nat} (hk : k < 15) : 0 ≤ (σ.2.1 (ix c) k).toInt ∧ Wd σ (σ.2.1 (ix c) k) := ⟨h.inn.rg.1 _ _ (vp_ix h.ctx.1) hk, h.inn.cl.2.1 _ _ (vp_ix h.ctx.1) hk⟩
theorem ACT.top {c : Int32} (h : ACT σ μ c) {m : Nat} (hm : m + 1 ≤ dpt σ c) : fromTopM μ (nI m) = topBut σ c (nI m) ∧ 0 ≤ (topBut σ c (nI m)).toInt ∧ Wd σ (topBut σ c (nI m)) := by
  have hp := dpt_nI h.inn.rg h.ctx.1
  refine ⟨h.rr.top h.inn.rg h.ctx h.ac hm, ?_⟩
  rw [topBut_nI h.inn.rg h.ctx.1 hm]
  exact h.wd (by omega)
theorem ACT.recv {c : Int32} (h : ACT σ μ c) : atM μ 1 = recv σ c ∧ 0 ≤ (recv σ c).toInt ∧ Wd σ (recv σ c) := ⟨h.rr.at h.ctx h.ac (k := 1) (by omega), h.wd (k := 1) (by omega)⟩
/-- what a byte does on both sides -/
def PB (z : RS) (r : Int32) (υ σ : SS) : Prop := z.1 = r ∧ (z.1 = 0 → PRE z.2 υ) ∧ (¬ z.1 = 0 → z.2 = σ)
theorem PB.ok {x υ : SS} (h : PRE x υ) : PB (0, x) 0 υ σ := ⟨rfl, fun _ => h, fun q => absurd rfl q⟩
theorem PB.no {r : Int32} {υ : SS} (h : ¬ r = 0) : PB (r, σ) r υ σ := ⟨rfl, fun q => absurd q h, fun _ => rfl⟩
theorem lt_le {x : Nat} {j : Nat} (hx : x < 2 ^ 31) (hj : j + 1 < 2 ^ 31) : nI x < nI (j + 1) ↔ nI x ≤ nI j := by rw [nI_ltI hx hj, nI_leI hx (by omega)]; omega
theorem pb_0 {c : Int32} {a : Nat} (h : ACT σ μ c) (ha : a < 16) (hd : dpt σ c < 6) : PB (pushTemporary σ c (nI a)) (if nI a ≤ 3 then 0 else 3) (pushM μ (atM μ (5 + nI a))) σ := by
  unfold pushTemporary
  have e : (nI a < 4) ↔ nI a ≤ 3 := lt_le (j := 3) (by omega) (by omega)
  by_cases h1 : nI a ≤ 3
  · rw [if_pos h1, if_pos (e.mpr h1)]
    have h3 : a ≤ 3 := (nI_leI (b := 3) (by omega) (by omega)).mp h1
    rw [tmp_idx, h.rr.at h.ctx h.ac (by omega), ix_nI (by omega)]
    have hw := h.wd (k := 5 + a) (by omega)
    exact PB.ok (ACT_push h hd hw.1 hw.2).1
  · rw [if_neg h1, if_neg (fun z => h1 (e.mp z))]; exact PB.no (by decide)
theorem pb_1 {c a : Int32} (h : ACT σ μ c) (hd : dpt σ c < 6) : PB (pushField σ c a) (fa1M μ 1 a) (pushM μ (μ.1 5 (ix (15 * atM μ 1 + a)))) σ := by
  have hr := h.recv
  unfold pushField fa1M
  rw [hr.1, hasField_eq h.rr a hr.2.1 hr.2.2, if_neg (show ¬ (1 : Int32) = 4 by decide)]
  by_cases e : hasField σ (recv σ c) a = 0
  · rw [if_pos e, if_pos e]; exact PB.no (by decide)
  · rw [if_neg e, if_neg e]
    rcases isContext_eq h.rr h.inn hr.2.1 hr.2.2 with ⟨d1, d2, _⟩ | ⟨d1, d2, _⟩
    · rw [if_pos d1, if_pos d2]
      obtain ⟨b1, b2, b3, b4⟩ := hasField_in h.inn e
      rw [(wordM_eq h.rr b1 b2 b3).1]
      exact PB.ok (ACT_push h hd (h.inn.rg.grid b1 b2) (h.inn.cl.2.1 _ _ (vp_ix b1) (vp_ix b2))).1
    · rw [if_neg d1, if_neg d2]; exact PB.no (by decide)
theorem pb_2 {c : Int32} {a : Nat} (h : ACT σ μ c) (ha : a < 16) (hd : dpt σ c < 6) : PB (0, push σ c (otherWord σ c (nI a))) 0 (pushM μ (constM μ (nI a))) σ := by
  have hr := h.recv
  have e7 : (7 < nI a) ↔ 8 ≤ nI a := by
    rw [show (7 : Int32) = nI 7 from rfl, show (8 : Int32) = nI 8 from rfl, nI_ltI (by omega) (by omega), nI_leI (by omega) (by omega)]; omega
  have key : constM μ (nI a) = otherWord σ c (nI a) ∧ 0 ≤ (otherWord σ c (nI a)).toInt ∧ Wd σ (otherWord σ c (nI a)) := by
    unfold otherWord constM
    by_cases e0 : nI a = 0
    · rw [if_pos e0, if_pos e0]; exact ⟨rfl, by decide, Wd_0 h.inn⟩
    · rw [if_neg e0, if_neg e0]
      by_cases e8 : 8 ≤ nI a
      · rw [if_pos e8, if_pos (e7.mpr e8)]
        by_cases f8 : nI a = 8
        · rw [if_pos f8, if_pos f8]; exact hr
        · rw [if_neg f8, if_neg f8]
          by_cases f9 : nI a = 9
          · rw [if_pos f9, if_pos f9, hr.1, classOfWord_eq h.rr hr.2.1 hr.2.2]
            have hc := classOfWord_CW h.inn hr.2.1 hr.2.2
            exact ⟨rfl, vp_nn hc.1, Or.inr (h.inn.cl4 (vp_ix hc.1) hc.2)⟩
          · rw [if_neg f9, if_neg f9]
            have a10 : 10 ≤ a := by
              have g1 := (nI_leI (a := 8) (b := a) (by omega) (by omega)).mp e8
              have g2 : a ≠ 8 := fun q => f8 (by rw [q]; rfl)
              have g3 : a ≠ 9 := fun q => f9 (by rw [q]; rfl)
              omega
            have er : nI a - 10 = nI (a - 10) := by rw [show (10 : Int32) = nI 10 from rfl, pk_sub a10]
            have hr6 : vp_in (nI a - 10) 6 := by rw [er]; exact vp_k (by omega) (by decide)
            exact ⟨h.rr.2.2.2.1 _ (vp_ix hr6), h.inn.rg.reg (h7 hr6), h.inn.cl.2.2 _ (vp_ix (h7 hr6))⟩
      · rw [if_neg e8, if_neg (fun z => e8 (e7.mp z))]
        have h1 : 1 ≤ a := Nat.pos_of_ne_zero (fun q => e0 (by rw [q]; rfl))
        have e4 : 1000 + nI a - 4 = nI (1000 + a - 4) := by rw [n1000, show (4 : Int32) = nI 4 from rfl, pk_sub (by omega)]
        rw [e4]
        exact ⟨rfl, by rw [nI_toInt (by omega)]; omega, wd_num (by omega) (by omega)⟩
  rw [key.1]
  exact PB.ok (ACT_push h hd key.2.1 key.2.2).1
theorem Wd_rows {w : Int32} (e : τ.1 4 = σ.1 4) (hw : Wd σ w) : Wd τ w := by unfold Wd; rw [e]; exact hw
theorem pb_3 {c : Int32} {a : Nat} (h : ACT σ μ c) (ha : a < 16) (hd : 1 ≤ dpt σ c) : PB (popTemporary σ c (nI a)) (if nI a ≤ 3 then 0 else 3) (intoM μ (15 * acM μ + 5 + nI a)) σ := by
  unfold popTemporary intoM
  have e : (nI a < 4) ↔ nI a ≤ 3 := lt_le (j := 3) (by omega) (by omega)
  by_cases h1 : nI a ≤ 3
  · rw [if_pos h1, if_pos (e.mpr h1)]
    have h3 : a ≤ 3 := (nI_leI (b := 3) (by omega) (by omega)).mp h1
    have ht := h.top (m := 0) (by omega)
    rw [h.ac, w10 h.ctx.1 (by omega), tmp_idx]
    rw [show (0 : Int32) = nI 0 from rfl, ht.1]
    exact PB.ok (ACT_tmp (ACT_pop h hd) (by omega) (by omega) ht.2.1 (Wd_rows (pop_ne _ _ (by decide) (by decide)) ht.2.2) (fun q => by omega)).1
  · rw [if_neg h1, if_neg (fun z => h1 (e.mp z))]; exact PB.no (by decide)
theorem pb_4 {c a : Int32} (h : ACT σ μ c) (hd : 1 ≤ dpt σ c) : PB (popField σ c a) (fa1M μ 4 a) (intoM μ (15 * atM μ 1 + a)) σ := by
  have hr := h.recv
  have ht := h.top (m := 0) (by omega)
  unfold popField fa1M intoM
  rw [hr.1, hasField_eq h.rr a hr.2.1 hr.2.2, if_pos rfl]
  rcases free_eq h.rr h.inn (k := a) hr.2.1 hr.2.2 with ⟨e1, e2⟩ | ⟨e1, e2, e3, e4, e5⟩
  · rw [if_pos e1]
    rcases e2 with e2 | ⟨e2, e3, e4⟩
    · rw [if_pos e2]; exact PB.no (by decide)
    · rw [if_neg e2]
      rcases isContext_eq h.rr h.inn hr.2.1 hr.2.2 with ⟨d1, d2, d3⟩ | ⟨d1, d2, d3⟩
      · rw [if_pos d2]
        rcases isClass_eq h.rr hr.2.1 hr.2.2 with ⟨f1, f2, f3⟩ | ⟨f1, f2, f3⟩
        · rcases e4 with e4 | e4
          · exact absurd e4 f3
          · exact absurd e4 d3
        · rw [if_neg f2]; exact PB.no (by decide)
      · rw [if_neg d2]; exact PB.no (by decide)
  · rw [if_neg e1, if_neg e2]
    obtain ⟨b1, b2, b3, b4⟩ := hasField_in h.inn e2
    rcases isContext_eq h.rr h.inn hr.2.1 hr.2.2 with ⟨d1, d2, d3⟩ | ⟨d1, d2, d3⟩
    · rw [if_pos d2]
      rcases isClass_eq h.rr hr.2.1 hr.2.2 with ⟨f1, f2, f3⟩ | ⟨f1, f2, f3⟩
      · rw [if_pos f2]
        have hP := ACT_pop h hd
        have sn : ∀ {a}, a ≠ 10 → a ≠ 11 → (pop σ c).1 a = σ.1 a := fun h1 h2 => pop_ne _ _ h1 h2
        have b3' : ¬ (pop σ c).1 4 (ix (recv σ c)) = 0 := by rw [sn (by decide) (by decide)]; exact b3
        have b4' : ix a < ix ((pop σ c).1 8 (ix (recv σ c))) := by rw [sn (by decide) (by decide)]; exact b4
        have e5' : ¬ (pop σ c).1 7 (ix (recv σ c)) = 3 := by rw [sn (by decide) (by decide)]; exact e5
        have hI := IN_free (w := topBut σ c (nI 0)) hP.inn b1 b2 b3' b4' (by rw [sn (by decide) (by decide)]; exact e4) e5' ht.2.1 (Wd_rows (sn (by decide) (by decide)) ht.2.2)
        rw [(wordM_eq h.rr b1 b2 b3).2]
        rw [show (0 : Int32) = nI 0 from rfl, ht.1]
        refine PB.ok ⟨hI, AX_free hP.inn hP.ax b4' e5', ?_, Rr_field hP.rr _ b2, RGm_5 hP.rgm _ ht.2.1⟩
        rw [setField_ne _ _ _ _ (by decide), sn (by decide) (by decide)]; exact h.1.2.2.1
      · exact absurd e4 f3.2
    · exact absurd d3.2.2 e5
theorem pb_8 {c : Int32} {a q : Nat} (h : ACT σ μ c) (ha : a < 16) (hq : q < 16) (hpl : placeOf σ c = nI (q + 1)) : PB (forward σ c (nI a)) (fa8M (nI q) (nI a)) (jumpM μ (nI q + 1 + nI a)) σ := by
  unfold forward fa8M
  rw [hpl, nI_1, nI_add]
  by_cases e : nI (q + 1 + a) ≤ 16
  · rw [if_pos e, if_pos e]; exact PB.ok (ACT_jump h ((nI_leI (b := 16) (by omega) (by omega)).mp e)).1
  · rw [if_neg e, if_neg e]; exact PB.no (by decide)
theorem pb_10 {c : Int32} {a q : Nat} (h : ACT σ μ c) (ha : a < 16) (hq : q < 16) (hpl : placeOf σ c = nI (q + 1)) : PB (back σ c (nI a)) (if 0 ≤ nI q - nI a then 0 else 3) (jumpM μ (nI q - nI a)) σ := by
  unfold back
  rw [hpl, nI_1]
  by_cases e : a ≤ q
  · rw [pk_sub e, pk_sub (show a + 1 ≤ q + 1 by omega), show q + 1 - (a + 1) = q - a by omega, if_pos (nI_pos' (by omega)), if_pos (nI_pos' (by omega))]
    exact PB.ok (ACT_jump h (by omega)).1
  · have n1 : ¬ 0 ≤ nI (q + 1) - nI (a + 1) := Int32.not_le.mpr (pk_sneg (by omega) (by omega))
    have n2 : ¬ 0 ≤ nI q - nI a := Int32.not_le.mpr (pk_sneg (by omega) (by omega))
    rw [if_neg n1, if_neg n2]; exact PB.no (by decide)
theorem place_pop {c : Int32} (h : ACT σ μ c) (hd : 1 ≤ dpt σ c) : placeOf (pop σ c) c = placeOf σ c := by
  unfold placeOf
  rw [pop_row h.inn.rg h.ctx.1 hd, show ix (4 : Int32) = 4 by decide, pk_un (by omega)]
theorem sA_comm5 (σ : SS) {k j j2 : Nat} (h : j ≠ j2) (x x2 : Int32) : sA (sA σ k j x) k j2 x2 = sA (sA σ k j2 x2) k j x := by
  refine Prod.ext (funext (fun a => ?_)) rfl
  by_cases e : a = k
  · subst e; rw [sA_eq, sA_eq, sA_eq, sA_eq, upd_comm h]
  · rw [sA_ne _ e, sA_ne _ e, sA_ne _ e, sA_ne _ e]
theorem ac_sA (μ : SS) {k : Nat} (h : 20 ≠ k) (j : Nat) (x : Int32) : acM (sA μ k j x) = acM μ := by unfold acM; rw [sA_ne _ h]
theorem jump_pop {c x : Int32} (h : ACT σ μ c) (hd : 1 ≤ dpt σ c) : popM (jumpM μ x) = jumpM (popM μ) x := by
  have hc := h.ctx
  have hp := dpt_nI h.inn.rg hc.1
  have ht := h.rr.tp hc h.ac
  have ac1 : acM (jumpM μ x) = c := by unfold jumpM acM; rw [sA_ne _ (by decide)]; exact h.ac
  have tp1 : tpM (jumpM μ x) = tpM μ := by unfold tpM; rw [ac1, h.ac]; unfold jumpM; rw [sA_ne _ (by decide)]
  have e1 : tpM μ - 1 = nI (dpt σ c - 1) := by rw [ht, hp.1, show (1 : Int32) = nI 1 from rfl, pk_sub hd]
  unfold popM pop1M
  rw [tp1, ac1, e1, a9, ixa hc.1 (by omega)]
  unfold jumpM
  rw [ac_sA _ (by decide), ac_sA _ (by decide), h.ac, a9, ixa hc.1 (by omega), show (4 : Int32) = nI 4 from rfl, ixa hc.1 (by omega), sA_comm μ (by decide), sA_comm5 _ (by omega)]
theorem pb_9 {c : Int32} {a q : Nat} (h : ACT σ μ c) (ha : a < 16) (hq : q < 16) (hpl : placeOf σ c = nI (q + 1)) (hd : 1 ≤ dpt σ c) : PB (forwardIfNil σ c (nI a)) (fa9M μ (nI q) (nI a)) (popM (if fromTopM μ 0 = 0 then jumpM μ (nI q + 1 + nI a) else μ)) σ := by
  have ht := h.top (m := 0) (by omega)
  have hP := ACT_pop h hd
  have h4 : σ.2.1 (ix c) 4 = nI (1000 + (q + 1)) := by
    obtain ⟨x, hx, e⟩ := (h.inn.kx _ (vp_ix h.ctx.1) h.ctx.2.1 h.ctx.2.2).2.2.2.2.1
    unfold placeOf at hpl
    rw [show ix (4 : Int32) = 4 by decide, e, show (1000 : Int32) = nI 1000 from rfl, pk_sub (by omega), nI_eq (by omega) (by omega)] at hpl
    rw [e, show x = q + 1 by omega]
  unfold forwardIfNil fa9M fin fa8M
  rw [show (0 : Int32) = nI 0 from rfl, ht.1, hpl]
  by_cases e0 : topBut σ c (nI 0) = nI 0
  · rw [if_pos e0, if_pos e0, if_pos e0, nI_1, nI_add]
    by_cases e : nI (q + 1 + a) ≤ 16
    · rw [if_pos e, if_pos e, jump_pop h hd]; exact PB.ok (ACT_jump hP ((nI_leI (b := 16) (by omega) (by omega)).mp e)).1
    · rw [if_neg e, if_neg e]; exact PB.no (by decide)
  · rw [if_neg e0, if_neg e0, if_neg e0, nI_add, Nat.add_zero]
    have e16 : nI (q + 1) ≤ 16 := (nI_leI (b := 16) (by omega) (by omega)).mpr (by omega)
    rw [if_pos e16]
    have hj := ACT_jump (q := q + 1) hP (by omega)
    have e2 : jumpM (popM μ) (nI (q + 1)) = popM μ := by
      unfold jumpM
      rw [n1000]
      apply sA_id
      have := hP.rr.at hP.ctx hP.ac (k := 4) (by omega)
      unfold atM at this
      rw [show (4 : Int32) = nI 4 from rfl, this, pop_row h.inn.rg h.ctx.1 hd, pk_un (by omega), h4]
    rw [e2] at hj
    exact PB.ok hj.1
theorem pb_13 {c : Int32} {a : Nat} (h : ACT σ μ c) (ha : a < 16) (hd : a ≤ 1 → 1 ≤ dpt σ c) (hd6 : a = 0 → dpt σ c < 6) : PB (doubleOrPop σ c (nI a)) (if nI a ≤ 1 then 0 else 3) (if nI a = 0 then pushM μ (fromTopM μ 0) else popM μ) σ := by
  unfold doubleOrPop
  by_cases e : nI a ≤ 1
  · rw [if_pos e, if_pos e]
    have h1 : a ≤ 1 := (nI_leI (b := 1) (by omega) (by omega)).mp e
    have ht := h.top (m := 0) (hd h1)
    by_cases e0 : nI a = 0
    · rw [if_pos e0, if_pos e0, show (0 : Int32) = nI 0 from rfl, ht.1]
      have a0 : a = 0 := (nI_eq (b := 0) (by omega) (by omega)).mp e0
      exact PB.ok (ACT_push h (hd6 a0) ht.2.1 ht.2.2).1
    · rw [if_neg e0, if_neg e0]; exact PB.ok (ACT_pop h (hd h1)).1
  · rw [if_neg e, if_neg e]; exact PB.no (by decide)
end ACTV
