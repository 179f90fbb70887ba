/-! changes within a context -/
theorem HC_A {σ : SS} (h : HC σ) {a : Nat} (ha : a ≠ 4 ∧ a ≠ 7 ∧ a ≠ 8 ∧ a ≠ 11 ∧ a ≠ 13) (j : Nat) (x : Int32) : HC (sA σ a j x) := by
  intro o ho
  rw [sA_ne _ (by omega)]
  rw [h o ho]
  congr 1
  unfold tally tal c1
  rw [sA_ne _ (show 4 ≠ a by omega), sA_ne _ (show 7 ≠ a by omega), sA_ne _ (show 8 ≠ a by omega), sA_ne _ (show 13 ≠ a by omega), sA_2]
/-- a context that is alive -/
def Ctx (σ : SS) (c : Int32) : Prop := vp_in c 28 ∧ ¬ σ.1 4 (ix c) = 0 ∧ σ.1 7 (ix c) = 3
theorem IN_ctx {σ τ : SS} (h : IN σ) {c : Nat} (hc : c < 28) (hl : ¬ σ.1 4 c = 0) (h3 : σ.1 7 c = 3)
    (r : ∀ a, a ≠ 10 → a ≠ 11 → τ.1 a = σ.1 a) (r10 : ∀ i, i ≠ c → τ.1 10 i = σ.1 10 i) (g : ∀ i, i ≠ c → τ.2.1 i = σ.2.1 i) (g0 : ∀ k, k < 4 → τ.2.1 c k = σ.2.1 c k) (hg : RG τ) (hhc : HC τ)
    (w : ∀ k, 4 ≤ k → k < 15 → Wd σ (τ.2.1 c k)) (pl : ∃ q, q ≤ 16 ∧ τ.2.1 c 4 = nI (1000 + q)) (up : ∀ j, j < 6 → ix (τ.1 10 c) ≤ j → τ.2.1 c (9 + j) = 0) : IN τ := by
  have r4 := r 4 (by decide) (by decide)
  have r6 := r 6 (by decide) (by decide)
  have r7 := r 7 (by decide) (by decide)
  have r8 := r 8 (by decide) (by decide)
  have g00 : ∀ i, τ.2.1 i 0 = σ.2.1 i 0 := fun i => by
    by_cases e : i = c
    · rw [e]; exact g0 0 (by omega)
    · rw [g i e]
  have hk := h.kx c hc hl h3
  refine ⟨hg, ?_, fun o k ho hk8 h8 => ?_, fun o ho hd => ?_, hhc, ?_, ⟨?_, fun o k ho hk15 => ?_, ?_⟩, ?_, fun o ho hlo h3o => ?_, ?_⟩
  · unfold BZ; rw [r 16 (by decide) (by decide)]; exact h.bz
  · rw [r8] at h8
    by_cases e : o = c
    · subst e; rw [hk.1, show ix (15 : Int32) = 15 by decide] at h8; omega
    · rw [g o e]; exact h.za o k ho hk8 h8
  · rw [r4] at hd
    rw [r 5 (by decide) (by decide), r6, r8, r10 o (fun e => hl (e ▸ hd))]
    exact h.zd o ho hd
  · unfold F4; rw [r4, r6, r7, r8]; exact h.f4
  · unfold CW; rw [r4, r6, r7]; exact h.cl.1
  · unfold Wd; rw [r4]
    by_cases e : o = c
    · subst e
      by_cases k4 : k < 4
      · rw [g0 k k4]; exact h.cl.2.1 o k ho hk15
      · exact w k (by omega) hk15
    · rw [g o e]; exact h.cl.2.1 o k ho hk15
  · unfold Wd; rw [r4, r 13 (by decide) (by decide)]; exact h.cl.2.2
  · unfold KC CW; rw [r6, r7, r8]; simp only [g00]; exact h.kc
  · rw [r4] at hlo
    rw [r7] at h3o
    unfold KXo XN CW
    rw [r4, r6, r7, r8]
    by_cases e : o = c
    · subst e
      rw [g0 0 (by omega), g0 2 (by omega), g0 3 (by omega)]
      exact ⟨hk.1, hk.2.1, hk.2.2.1, hk.2.2.2.1, pl, up⟩
    · rw [g o e, r10 o e]; exact h.kx o ho hlo h3o
  · unfold SC
    have hsup : ∀ n a, supN τ n a = supN σ n a := fun n a => (supN_eq (σ := σ) (τ := τ) (P := fun _ => True) (fun a _ => ⟨g00 _, trivial⟩) n a trivial).1
    rw [r6]; simp only [hsup]; exact h.sc
/-- a change within the active context leaves those that wait as they are -/
theorem AX_ctx {σ τ : SS} (hx : AX σ) (h0 : ¬ σ.1 13 6 = 0) (r : ∀ a, a ≠ 10 → a ≠ 11 → τ.1 a = σ.1 a) (r10 : ∀ i, i ≠ ix (σ.1 13 6) → τ.1 10 i = σ.1 10 i) (g00 : ∀ i, τ.2.1 i 0 = σ.2.1 i 0) (hst : ∀ n, XN σ (supN σ n (σ.1 13 6))) : AX τ := by
  have hsup : ∀ n a, supN τ n a = supN σ n a := fun n a => (supN_eq (σ := σ) (τ := τ) (P := fun _ => True) (fun a _ => ⟨g00 _, trivial⟩) n a trivial).1
  unfold AX XN
  rw [r 4 (by decide) (by decide), r 7 (by decide) (by decide), r 13 (by decide) (by decide)]
  simp only [hsup]
  refine ⟨hx.1, hx.2.1, fun j hj hz => ?_⟩
  rw [r10 _ (fun e => ?_)]
  · exact hx.2.2 j hj hz
  · have hne := hx.2.1 0 j (by omega) h0
    apply hne
    show σ.1 13 6 = _
    have a1 : 0 ≤ (σ.1 13 6).toInt := by
      rcases hx.1 with q | q
      · exact absurd q h0
      · exact vp_nn q.1
    have a2 : 0 ≤ (supN σ j (σ.1 13 6)).toInt := by
      rcases hst j with q | q
      · exact absurd q hz
      · exact vp_nn q.1
    exact (ix_back a1).symm.trans ((congrArg nI e.symm).trans (ix_back a2))
theorem AX.chain {σ : SS} (h : IN σ) (hx : AX σ) (n : Nat) : XN σ (supN σ n (σ.1 13 6)) := supN_P (P := XN σ) (fun _ q => q.step h) n _ hx.1
def dpt (σ : SS) (c : Int32) : Nat := ix (σ.1 10 (ix c))
theorem dpt_nI {σ : SS} (hg : RG σ) {c : Int32} (hc : vp_in c 28) : σ.1 10 (ix c) = nI (dpt σ c) ∧ dpt σ c ≤ 6 := by
  have h := hg.2.2.2.2.2 _ (vp_ix hc)
  exact ⟨(ix_back h.1).symm, ix_le h.2⟩
theorem n9 (d : Nat) : 9 + nI d = nI (9 + d) := by rw [show (9 : Int32) = nI 9 from rfl, nI_add]
theorem push_row {σ : SS} (hg : RG σ) {c : Int32} (hc : vp_in c 28) (w : Int32) : (push σ c w).2.1 (ix c) = upd (σ.2.1 (ix c)) (9 + dpt σ c) w := by
  have hd := dpt_nI hg hc
  unfold push pushF
  rw [sA_2, sF_row, hd.1, n9, ix_nI (by omega)]
theorem push_oth (σ : SS) (c w : Int32) {i : Nat} (h : i ≠ ix c) : (push σ c w).2.1 i = σ.2.1 i := by unfold push pushF; rw [sA_2, sF_oth _ _ _ _ h]
theorem push_ne (σ : SS) (c w : Int32) {a : Nat} (h : a ≠ 10) (h2 : a ≠ 11) : (push σ c w).1 a = σ.1 a := by unfold push pushF; rw [sA_ne _ h, setField_ne _ _ _ _ h2]
theorem push_10 (σ : SS) (c w : Int32) : (push σ c w).1 10 = upd (σ.1 10) (ix c) (σ.1 10 (ix c) + 1) := by unfold push pushF; rw [sA_eq, setField_ne _ _ _ _ (by decide)]
theorem push_L (σ : SS) (c w : Int32) : (push σ c w).2.2 = σ.2.2 := by unfold push pushF; rw [sA_2, sF_L]
theorem push_dpt {σ : SS} (hg : RG σ) {c : Int32} (hc : vp_in c 28) (w : Int32) : dpt (push σ c w) c = dpt σ c + 1 := by
  have hd := dpt_nI hg hc
  rw [show dpt (push σ c w) c = ix ((push σ c w).1 10 (ix c)) from rfl, push_10, pk_us, hd.1, nI_1, ix_nI (by omega)]
theorem RG_push2 {σ : SS} (hg : RG σ) {c w : Int32} (hc : vp_in c 28) (hd : dpt σ c < 6) (hw : 0 ≤ w.toInt) : RG (push σ c w) := by
  have h := dpt_nI hg hc
  unfold push
  refine RG_10 (RG_setField hg _ _ hw) _ ?_
  unfold pushF
  rw [setField_ne _ _ _ _ (by decide), h.1, nI_1, nI_toInt (by omega)]
  omega
theorem HC_push {σ : SS} (h : IN σ) {c w : Int32} (hc : Ctx σ c) (hd : dpt σ c < 6) (hw : 0 ≤ w.toInt) : HC (push σ c w) := by
  have hp := dpt_nI h.rg hc.1
  have e : 9 + σ.1 10 (ix c) = nI (9 + dpt σ c) := by rw [hp.1, n9]
  unfold push pushF
  refine HC_A (HC_setField h.rg h.hc hc.1 (by rw [e]; exact vp_k (by omega) (by decide)) hc.2.1 ?_ hw) (by decide) _ _
  rw [e, ix_nI (by omega), (h.kx _ (vp_ix hc.1) hc.2.1 hc.2.2).1, show ix (15 : Int32) = 15 by decide]
  omega
theorem IN_push {σ : SS} (h : IN σ) {c w : Int32} (hc : Ctx σ c) (hd : dpt σ c < 6) (hw : 0 ≤ w.toInt) (hW : Wd σ w) : IN (push σ c w) := by
  have hk := h.kx _ (vp_ix hc.1) hc.2.1 hc.2.2
  refine IN_ctx h (vp_ix hc.1) hc.2.1 hc.2.2 (fun a h1 h2 => push_ne σ c w h1 h2) (fun i hi => by rw [push_10, pk_un hi]) (fun i hi => push_oth σ c w hi) (fun k hk4 => ?_) (RG_push2 h.rg hc.1 hd hw) (HC_push h hc hd hw) (fun k h4 hk15 => ?_) ?_ (fun j hj hu => ?_)
  · rw [push_row h.rg hc.1, pk_un (by omega)]
  · rw [push_row h.rg hc.1]
    by_cases e : k = 9 + dpt σ c
    · rw [e, pk_us]; exact hW
    · rw [pk_un e]; exact h.cl.2.1 _ k (vp_ix hc.1) hk15
  · rw [push_row h.rg hc.1, pk_un (by omega)]; exact hk.2.2.2.2.1
  · have := push_dpt h.rg hc.1 w
    have hu2 : dpt (push σ c w) c ≤ j := hu
    rw [this] at hu2
    rw [push_row h.rg hc.1, pk_un (by omega)]
    exact hk.2.2.2.2.2 j hj (show dpt σ c ≤ j by omega)
theorem pop_ne (σ : SS) (c : Int32) {a : Nat} (h : a ≠ 10) (h2 : a ≠ 11) : (pop σ c).1 a = σ.1 a := by unfold pop; rw [setField_ne _ _ _ _ h2]; unfold popD; exact sA_ne _ h _ _
theorem popT_10 (σ : SS) (c : Int32) : (pop σ c).1 10 = upd (σ.1 10) (ix c) (σ.1 10 (ix c) - 1) := by unfold pop; rw [setField_ne _ _ _ _ (by decide)]; unfold popD; exact sA_eq _ _ _ _
theorem pop_L (σ : SS) (c : Int32) : (pop σ c).2.2 = σ.2.2 := by unfold pop; rw [sF_L]; rfl
theorem pop_oth (σ : SS) (c : Int32) {i : Nat} (h : i ≠ ix c) : (pop σ c).2.1 i = σ.2.1 i := by unfold pop; rw [sF_oth _ _ _ _ h]; rfl
theorem pop_idx {σ : SS} (hg : RG σ) {c : Int32} (hc : vp_in c 28) (hd : 1 ≤ dpt σ c) : 9 + (popD σ c).1 10 (ix c) = nI (9 + (dpt σ c - 1)) := by
  have h := dpt_nI hg hc
  rw [popD_10, h.1, show nI (dpt σ c) - 1 = nI (dpt σ c - 1) from by rw [show (1 : Int32) = nI 1 from rfl, pk_sub hd], n9]
theorem pop_row {σ : SS} (hg : RG σ) {c : Int32} (hc : vp_in c 28) (hd : 1 ≤ dpt σ c) : (pop σ c).2.1 (ix c) = upd (σ.2.1 (ix c)) (9 + (dpt σ c - 1)) 0 := by
  have h := dpt_nI hg hc
  unfold pop
  rw [sF_row, pop_idx hg hc hd, ix_nI (by omega)]
  rfl
theorem pop_dpt {σ : SS} (hg : RG σ) {c : Int32} (hc : vp_in c 28) (hd : 1 ≤ dpt σ c) : dpt (pop σ c) c = dpt σ c - 1 := by
  have h := dpt_nI hg hc
  rw [show dpt (pop σ c) c = ix ((pop σ c).1 10 (ix c)) from rfl, popT_10, pk_us, h.1, show (1 : Int32) = nI 1 from rfl, pk_sub hd, ix_nI (by omega)]
theorem RG_pop2 {σ : SS} (hg : RG σ) {c : Int32} (hc : vp_in c 28) (hd : 1 ≤ dpt σ c) : RG (pop σ c) := by
  have h := dpt_nI hg hc
  unfold pop popD
  refine RG_setField (RG_10 hg _ ?_) _ _ (by decide)
  rw [h.1, show (1 : Int32) = nI 1 from rfl, pk_sub hd, nI_toInt (by omega)]
  omega
theorem IN_pop {σ : SS} (h : IN σ) {c : Int32} (hc : Ctx σ c) (hd : 1 ≤ dpt σ c) : IN (pop σ c) := by
  have hp := dpt_nI h.rg hc.1
  have hk := h.kx _ (vp_ix hc.1) hc.2.1 hc.2.2
  refine IN_ctx h (vp_ix hc.1) hc.2.1 hc.2.2 (fun a h1 h2 => pop_ne σ c h1 h2) (fun i hi => by rw [popT_10, pk_un hi]) (fun i hi => pop_oth σ c hi) (fun k hk4 => ?_) (RG_pop2 h.rg hc.1 hd) ?_ (fun k h4 hk15 => ?_) ?_ (fun j hj hu => ?_)
  · rw [pop_row h.rg hc.1 hd, pk_un (by omega)]
  · unfold pop
    refine HC_setField (RG_10 h.rg _ ?_) (HC_A h.hc (by decide) _ _) hc.1 ?_ ?_ ?_ (by decide)
    · rw [hp.1, show (1 : Int32) = nI 1 from rfl, pk_sub hd, nI_toInt (by omega)]; omega
    · rw [pop_idx h.rg hc.1 hd]; exact vp_k (by omega) (by decide)
    · rw [sA_ne _ (by decide)]; exact hc.2.1
    · rw [pop_idx h.rg hc.1 hd, ix_nI (by omega)]; rw [sA_ne _ (by decide), hk.1, show ix (15 : Int32) = 15 by decide]; omega
  · rw [pop_row h.rg hc.1 hd]
    by_cases e : k = 9 + (dpt σ c - 1)
    · rw [e, pk_us]; exact Or.inr (by rw [i0]; exact h.l0)
    · rw [pk_un e]; exact h.cl.2.1 _ k (vp_ix hc.1) hk15
  · rw [pop_row h.rg hc.1 hd, pk_un (by omega)]; exact hk.2.2.2.2.1
  · have := pop_dpt h.rg hc.1 hd
    have hu2 : dpt (pop σ c) c ≤ j := hu
    rw [this] at hu2
    rw [pop_row h.rg hc.1 hd]
    by_cases e : 9 + j = 9 + (dpt σ c - 1)
    · rw [e, pk_us]
    · rw [pk_un e]; exact hk.2.2.2.2.2 j hj (show dpt σ c ≤ j by omega)
/-- a field of a context that isn't its stack's -/
theorem IN_tmp {σ : SS} (h : IN σ) {c : Int32} {k : Nat} {w : Int32} (hc : Ctx σ c) (hk5 : 4 ≤ k) (hk9 : k < 9) (hw : 0 ≤ w.toInt) (hW : Wd σ w) (hp : k = 4 → ∃ q, q ≤ 16 ∧ w = nI (1000 + q)) : IN (setField σ c (nI k) w) := by
  have hk := h.kx _ (vp_ix hc.1) hc.2.1 hc.2.2
  have ek : ix (nI k) = k := ix_nI (by omega)
  refine IN_ctx h (vp_ix hc.1) hc.2.1 hc.2.2 (fun a h1 h2 => setField_ne _ _ _ _ h2) (fun i hi => by rw [setField_ne _ _ _ _ (by decide)]) (fun i hi => sF_oth _ _ _ _ hi) (fun j hj => ?_) (RG_setField h.rg _ _ hw) (HC_setField h.rg h.hc hc.1 (vp_k (by omega) (by decide)) hc.2.1 (by rw [ek, hk.1, show ix (15 : Int32) = 15 by decide]; omega) hw) (fun j h4 h15 => ?_) ?_ (fun j hj hu => ?_)
  · rw [sF_row, ek, pk_un (by omega)]
  · rw [sF_row, ek]
    by_cases e : j = k
    · rw [e, pk_us]; exact hW
    · rw [pk_un e]; exact h.cl.2.1 _ j (vp_ix hc.1) h15
  · rw [sF_row, ek]
    by_cases e : k = 4
    · rw [e, pk_us]; exact hp e
    · rw [pk_un (fun q => e q.symm)]; exact hk.2.2.2.2.1
  · rw [setField_ne _ _ _ _ (by decide)] at hu
    rw [sF_row, ek, pk_un (by omega)]; exact hk.2.2.2.2.2 j hj hu
/-! the same on both sides: pushing, popping, the place -/
theorem Rr.ctx {σ μ : SS} (h : Rr σ μ) {c : Int32} (hc : Ctx σ c) : Rl σ μ (ix c) := h.2.2.1 _ (vp_ix hc.1) hc.2.1
theorem Rr.tp {σ μ : SS} (h : Rr σ μ) {c : Int32} (hc : Ctx σ c) (ha : acM μ = c) : tpM μ = σ.1 10 (ix c) := by
  unfold tpM
  rw [ha]
  exact (h.ctx hc).2.2.2.2.2 hc.2.2
theorem ixa {c : Int32} (hc : vp_in c 28) {k : Nat} (hk : k < 15) : ix (15 * c + nI k) = 15 * ix c + k := by
  obtain ⟨i, hi, rfl⟩ := vp_in_of hc (by decide)
  rw [ixw (by omega), ix_nI (by omega)]
theorem a9 (x : Int32) (d : Nat) : x + 9 + nI d = x + nI (9 + d) := by rw [Int32.add_assoc, n9]
theorem Rr_push {σ μ : SS} (h : Rr σ μ) (hg : RG σ) {c : Int32} (hc : Ctx σ c) (ha : acM μ = c) (hd : dpt σ c < 6) (w : Int32) : Rr (push σ c w) (pushM μ w) := by
  have hp := dpt_nI hg hc.1
  have ht := h.tp hc ha
  unfold push pushF pushM push1M
  rw [ht, ha, setField_ne _ _ _ _ (by decide), hp.1, a9, ixa hc.1 (by omega), n9]
  have := Rr_field h (o := c) (k := nI (9 + dpt σ c)) w (vp_k (by omega) (by decide))
  rw [ix_nI (by omega)] at this
  exact Rr_dep this _ _
theorem Rr_pop {σ μ : SS} (h : Rr σ μ) (hg : RG σ) {c : Int32} (hc : Ctx σ c) (ha : acM μ = c) (hd : 1 ≤ dpt σ c) : Rr (pop σ c) (popM μ) := by
  have hp := dpt_nI hg hc.1
  have ht := h.tp hc ha
  unfold pop
  rw [pop_idx hg hc.1 hd]
  unfold popD popM pop1M
  rw [ht, ha, hp.1, show nI (dpt σ c) - 1 = nI (dpt σ c - 1) from by rw [show (1 : Int32) = nI 1 from rfl, pk_sub hd], a9, ixa hc.1 (by omega)]
  have := Rr_field (Rr_dep h (ix c) (nI (dpt σ c - 1))) (o := c) (k := nI (9 + (dpt σ c - 1))) 0 (vp_k (by omega) (by decide))
  rw [ix_nI (by omega)] at this
  exact this
theorem Rr_tmp {σ μ : SS} (h : Rr σ μ) {c : Int32} (hc : vp_in c 28) {k : Nat} (hk : k < 15) (w : Int32) : Rr (setField σ c (nI k) w) (sA μ 5 (ix (15 * c + nI k)) w) := by
  rw [ixa hc hk]
  have := Rr_field h (o := c) (k := nI k) w (vp_k (by omega) (by decide))
  rw [ix_nI (by omega)] at this
  exact this
theorem Rr_jump {σ μ : SS} (h : Rr σ μ) {c : Int32} (hc : vp_in c 28) (ha : acM μ = c) (q : Int32) : Rr (setPlace σ c q) (jumpM μ q) := by
  unfold setPlace jumpM
  rw [ha]
  exact Rr_tmp h hc (k := 4) (by omega) _
theorem Rr.at {σ μ : SS} (h : Rr σ μ) {c : Int32} (hc : Ctx σ c) (ha : acM μ = c) {k : Nat} (hk : k < 15) : atM μ (nI k) = σ.2.1 (ix c) k := by
  unfold atM
  rw [ha, ixa hc.1 hk]
  exact (h.ctx hc).2.2.1 k hk
theorem topBut_nI {σ : SS} (hg : RG σ) {c : Int32} (hc : vp_in c 28) {m : Nat} (hm : m + 1 ≤ dpt σ c) : topBut σ c (nI m) = σ.2.1 (ix c) (9 + (dpt σ c - 1 - m)) := by
  have hp := dpt_nI hg hc
  unfold topBut
  rw [hp.1, n9, show (1 : Int32) = nI 1 from rfl, pk_sub (by omega), pk_sub (by omega), ix_nI (by omega), show 9 + dpt σ c - 1 - m = 9 + (dpt σ c - 1 - m) by omega]
theorem Rr.top {σ μ : SS} (h : Rr σ μ) (hg : RG σ) {c : Int32} (hc : Ctx σ c) (ha : acM μ = c) {m : Nat} (hm : m + 1 ≤ dpt σ c) : fromTopM μ (nI m) = topBut σ c (nI m) := by
  have hp := dpt_nI hg hc.1
  rw [topBut_nI hg hc.1 hm]
  unfold fromTopM
  rw [h.tp hc ha, hp.1, n9, show (1 : Int32) = nI 1 from rfl, pk_sub (by omega), pk_sub (by omega), h.at hc ha (by omega), show 9 + dpt σ c - 1 - m = 9 + (dpt σ c - 1 - m) by omega]
