/-! what the class's state keeps -/
def Wd (σ : SS) (w : Int32) : Prop := 28 ≤ w.toInt ∨ ¬ σ.1 4 (ix w) = 0
def CW (σ : SS) (w : Int32) : Prop := vp_in w 28 ∧ ¬ σ.1 6 (ix w) = 0
def XN (σ : SS) (w : Int32) : Prop := w = 0 ∨ (vp_in w 28 ∧ ¬ σ.1 4 (ix w) = 0 ∧ σ.1 7 (ix w) = 3)
def F4 (σ : SS) : Prop := (∀ o, o < 4 → ¬ σ.1 4 o = 0 ∧ σ.1 7 o = 1) ∧ σ.1 6 0 = 0 ∧ σ.1 8 0 = 0 ∧ (∀ o, 1 ≤ o → o < 4 → ¬ σ.1 6 o = 0)
def CL (σ : SS) : Prop := (∀ o, o < 28 → ¬ σ.1 4 o = 0 → CW σ (σ.1 7 o)) ∧ (∀ o k, o < 28 → k < 15 → Wd σ (σ.2.1 o k)) ∧ (∀ r, r < 7 → Wd σ (σ.1 13 r))
def KC (σ : SS) : Prop := ∀ o, o < 28 → ¬ σ.1 6 o = 0 → σ.1 7 o = 1 ∧ σ.1 8 o = 1 ∧ (σ.2.1 o 0 = 0 ∨ CW σ (σ.2.1 o 0))
def KXo (σ : SS) (o : Nat) : Prop := σ.1 8 o = 15 ∧ XN σ (σ.2.1 o 0) ∧ CW σ (σ.2.1 o 2) ∧ (∃ t, t < 8 ∧ σ.2.1 o 3 = nI (1000 + t)) ∧ (∃ q, q ≤ 16 ∧ σ.2.1 o 4 = nI (1000 + q)) ∧ (∀ j, j < 6 → ix (σ.1 10 o) ≤ j → σ.2.1 o (9 + j) = 0)
def KX (σ : SS) : Prop := ∀ o, o < 28 → ¬ σ.1 4 o = 0 → σ.1 7 o = 3 → KXo σ o
def SC (σ : SS) : Prop := ∀ o, o < 28 → ¬ σ.1 6 o = 0 → ∃ n, supN σ n (nI o) = 0
def IN (σ : SS) : Prop := RG σ ∧ BZ σ ∧ Za σ ∧ Zd σ ∧ HC σ ∧ F4 σ ∧ CL σ ∧ KC σ ∧ KX σ ∧ SC σ
theorem IN.rg {σ : SS} (h : IN σ) : RG σ := h.1
theorem IN.bz {σ : SS} (h : IN σ) : BZ σ := h.2.1
theorem IN.za {σ : SS} (h : IN σ) : Za σ := h.2.2.1
theorem IN.zd {σ : SS} (h : IN σ) : Zd σ := h.2.2.2.1
theorem IN.hc {σ : SS} (h : IN σ) : HC σ := h.2.2.2.2.1
theorem IN.f4 {σ : SS} (h : IN σ) : F4 σ := h.2.2.2.2.2.1
theorem IN.cl {σ : SS} (h : IN σ) : CL σ := h.2.2.2.2.2.2.1
theorem IN.kc {σ : SS} (h : IN σ) : KC σ := h.2.2.2.2.2.2.2.1
theorem IN.kx {σ : SS} (h : IN σ) : KX σ := h.2.2.2.2.2.2.2.2.1
theorem IN.sc {σ : SS} (h : IN σ) : SC σ := h.2.2.2.2.2.2.2.2.2
theorem IN.l0 {σ : SS} (h : IN σ) : ¬ σ.1 4 0 = 0 := (h.f4.1 0 (by omega)).1
theorem IN.n0 {σ : SS} (h : IN σ) {k : Nat} (hk : k < 15) : σ.2.1 0 k = 0 := h.za 0 k (by omega) hk (by rw [h.f4.2.2.1]; exact Nat.zero_le _)
theorem IN.cl4 {σ : SS} (h : IN σ) {o : Nat} (ho : o < 28) (hc : ¬ σ.1 6 o = 0) : ¬ σ.1 4 o = 0 := fun q => hc (h.zd o ho q).2.1
theorem IN.deadrow {σ : SS} (h : IN σ) {o k : Nat} (ho : o < 28) (hk : k < 15) (hd : σ.1 4 o = 0) : σ.2.1 o k = 0 := h.za o k ho hk (by rw [(h.zd o ho hd).2.2.1]; exact Nat.zero_le _)
def SE (σ : SS) : Prop := Fin0 σ ∧ ∀ o, o < 28 → ¬ σ.1 4 o = 0 → 6 ≤ tally σ o → ¬ σ.1 5 o = 0
/-- the active context and those that wait for it -/
def AX (σ : SS) : Prop := XN σ (σ.1 13 6) ∧ (∀ i j, i < j → ¬ supN σ i (σ.1 13 6) = 0 → supN σ i (σ.1 13 6) ≠ supN σ j (σ.1 13 6)) ∧ (∀ j, 1 ≤ j → ¬ supN σ j (σ.1 13 6) = 0 → (σ.1 10 (ix (supN σ j (σ.1 13 6)))).toInt ≤ 5)
theorem i0 : ix (0 : Int32) = 0 := by decide
theorem supN_0 {σ : SS} (h0 : σ.2.1 0 0 = 0) : ∀ n, supN σ n 0 = 0
  | 0 => rfl
  | n + 1 => by
    show supN σ n (σ.2.1 (ix 0) (ix 0)) = 0
    rw [i0, h0]
    exact supN_0 h0 n
theorem supN_s (σ : SS) (n : Nat) (a : Int32) : supN σ (n + 1) a = supN σ n (σ.2.1 (ix a) 0) := by
  show supN σ n (σ.2.1 (ix a) (ix 0)) = _
  rw [i0]
theorem supN_end (σ : SS) : ∀ (n : Nat) (a : Int32), supN σ (n + 1) a = σ.2.1 (ix (supN σ n a)) 0
  | 0, a => supN_s σ 0 a
  | n + 1, a => by rw [supN_s, supN_end σ n, ← supN_s]
/-- chains that stay where the two states agree -/
theorem supN_eq {σ τ : SS} {P : Int32 → Prop} (hP : ∀ a, P a → τ.2.1 (ix a) 0 = σ.2.1 (ix a) 0 ∧ P (σ.2.1 (ix a) 0)) : ∀ (n : Nat) (a : Int32), P a → supN τ n a = supN σ n a ∧ P (supN σ n a)
  | 0, a, h => ⟨rfl, h⟩
  | n + 1, a, h => by
    have := hP a h
    rw [supN_s, supN_s, this.1]
    exact supN_eq hP n _ this.2
theorem supN_P {σ : SS} {P : Int32 → Prop} (hP : ∀ a, P a → P (σ.2.1 (ix a) 0)) : ∀ (n : Nat) (a : Int32), P a → P (supN σ n a) := fun n a h => (supN_eq (τ := σ) (fun a h => ⟨rfl, hP a h⟩) n a h).2
theorem XN.step {σ : SS} (h : IN σ) {a : Int32} (ha : XN σ a) : XN σ (σ.2.1 (ix a) 0) := by
  rcases ha with rfl | ⟨h1, h2, h3⟩
  · rw [i0, h.n0 (by omega)]; exact Or.inl rfl
  · exact (h.kx _ (vp_ix h1) h2 h3).2.1
def CN (σ : SS) (w : Int32) : Prop := w = 0 ∨ CW σ w
theorem CN.step {σ : SS} (h : IN σ) {a : Int32} (ha : CN σ a) : CN σ (σ.2.1 (ix a) 0) := by
  rcases ha with rfl | ⟨h1, h2⟩
  · rw [i0, h.n0 (by omega)]; exact Or.inl rfl
  · exact (h.kc _ (vp_ix h1) h2).2.2
theorem CN.vp {σ : SS} {a : Int32} (ha : CN σ a) : vp_in a 28 := by
  rcases ha with rfl | h
  · exact vp_0
  · exact h.1
theorem CN.sup {σ : SS} (h : IN σ) {a : Int32} (ha : CN σ a) : Sup σ a := fun n => (supN_P (P := CN σ) (fun _ q => q.step h) n a ha).vp
theorem CN.ends {σ : SS} (h : IN σ) {a : Int32} (ha : CN σ a) : ∃ n, supN σ n a = 0 := by
  rcases ha with rfl | ⟨h1, h2⟩
  · exact ⟨0, rfl⟩
  · have := h.sc _ (vp_ix h1) h2
    rw [ix_back (vp_nn h1)] at this
    exact this
theorem ew_self {w : Int32} (h0 : 0 ≤ w.toInt) : 0 < ew w (ix w) := ew_pos.mpr (ix_back h0).symm
theorem c1_field {σ : SS} {i k : Nat} (hk : k < ix (σ.1 8 i)) (h0 : 0 ≤ (σ.2.1 i k).toInt) : 0 < c1 σ i (ix (σ.2.1 i k)) := by
  unfold c1
  have : 0 < sm (ix (σ.1 8 i)) (fun j => ew (σ.2.1 i j) (ix (σ.2.1 i k))) := sm_pos.mpr ⟨k, hk, ew_self h0⟩
  omega
theorem c1_cls {σ : SS} {i : Nat} (h0 : 0 ≤ (σ.1 7 i).toInt) : 0 < c1 σ i (ix (σ.1 7 i)) := by
  unfold c1
  have := ew_self h0
  omega
/-- what is held stays, in giving back -/
def Hld (σ τ : SS) : Prop := ∀ x, x < 28 → ¬ σ.1 4 x = 0 → ((∃ i, i < 28 ∧ ¬ τ.1 4 i = 0 ∧ 0 < c1 σ i x) ∨ (∃ r, r < 7 ∧ 0 < ew (σ.1 13 r) x)) → ¬ τ.1 4 x = 0
theorem Sbt.l4 {σ τ : SS} (hs : Sbt σ τ) {o : Nat} (ho : o < 4) : Kept σ τ o := by
  rcases hs.1 o (by omega) with k | ⟨_, _, q⟩
  · exact k
  · omega
section GIVE
variable {σ τ : SS}
theorem gv_live (hs : Sbt σ τ) {o : Nat} (ho : o < 28) (hl : ¬ τ.1 4 o = 0) : ¬ σ.1 4 o = 0 := fun q => hl ((hs.live ho hl).1.trans q)
theorem gv_l0 (h : IN σ) (hs : Sbt σ τ) : ¬ τ.1 4 0 = 0 := by rw [(hs.l4 (by omega)).1]; exact h.l0
theorem gv_fld (h : IN σ) (hs : Sbt σ τ) (hh : Hld σ τ) {o k : Nat} (ho : o < 28) (hk : k < 15) (hl : ¬ τ.1 4 o = 0) (hw : (σ.2.1 o k).toInt < 28) : ¬ τ.1 4 (ix (σ.2.1 o k)) = 0 := by
  have h0 := h.rg.1 o k ho hk
  by_cases z : k < ix (σ.1 8 o)
  · rcases h.cl.2.1 o k ho hk with q | q
    · omega
    · exact hh _ (by have := ix_toInt h0; omega) q (Or.inl ⟨o, ho, hl, c1_field z h0⟩)
  · rw [h.za o k ho hk (by omega), i0]; exact gv_l0 h hs
theorem gv_Wd (h : IN σ) (hs : Sbt σ τ) (hh : Hld σ τ) {o k : Nat} (ho : o < 28) (hk : k < 15) (hl : ¬ τ.1 4 o = 0) : Wd τ (σ.2.1 o k) := by
  by_cases w : 28 ≤ (σ.2.1 o k).toInt
  · exact Or.inl w
  · exact Or.inr (gv_fld h hs hh ho hk hl (by omega))
theorem gv_reg (h : IN σ) (hh : Hld σ τ) {r : Nat} (hr : r < 7) : Wd τ (σ.1 13 r) := by
  have h0 := h.rg.2.1 r hr
  rcases h.cl.2.2 r hr with q | q
  · exact Or.inl q
  · by_cases w : 28 ≤ (σ.1 13 r).toInt
    · exact Or.inl w
    · exact Or.inr (hh _ (by have := ix_toInt h0; omega) q (Or.inr ⟨r, hr, ew_self h0⟩))
theorem gv_CW (hs : Sbt σ τ) {w : Int32} (hc : CW σ w) (hl : ¬ τ.1 4 (ix w) = 0) : CW τ w := ⟨hc.1, by rw [(hs.live (vp_ix hc.1) hl).2.2.1]; exact hc.2⟩
theorem vp_lt {w : Int32} {n : Nat} (h : vp_in w n) : w.toInt < n := (vp_in_iff.mp h).2
theorem gv_CN (h : IN σ) (hs : Sbt σ τ) (hh : Hld σ τ) {a : Int32} (ha : CN τ a) : τ.2.1 (ix a) 0 = σ.2.1 (ix a) 0 ∧ CN τ (σ.2.1 (ix a) 0) := by
  rcases ha with rfl | ⟨h1, h2⟩
  · rw [i0, h.n0 (by omega), (hs.l4 (by omega)).2.2.2.2.2 0 (by omega), h.n0 (by omega)]; exact ⟨rfl, Or.inl rfl⟩
  · have hl : ¬ τ.1 4 (ix a) = 0 := fun q => h2 (Zd_Sbt h.zd hs _ (vp_ix h1) q).2.1
    have hk := hs.live (vp_ix h1) hl
    refine ⟨hk.2.2.2.2.2 0 (by omega), ?_⟩
    rw [hk.2.2.1] at h2
    rcases (h.kc _ (vp_ix h1) h2).2.2 with q | q
    · exact Or.inl q
    · exact Or.inr (gv_CW hs q (gv_fld h hs hh (vp_ix h1) (by omega) hl (vp_lt q.1)))
theorem gv_XN (h : IN σ) (hs : Sbt σ τ) (hh : Hld σ τ) {a : Int32} (ha : XN τ a) : τ.2.1 (ix a) 0 = σ.2.1 (ix a) 0 ∧ XN τ (σ.2.1 (ix a) 0) := by
  rcases ha with rfl | ⟨h1, h2, h3⟩
  · rw [i0, h.n0 (by omega), (hs.l4 (by omega)).2.2.2.2.2 0 (by omega), h.n0 (by omega)]; exact ⟨rfl, Or.inl rfl⟩
  · have hk := hs.live (vp_ix h1) h2
    refine ⟨hk.2.2.2.2.2 0 (by omega), ?_⟩
    rw [hs.2.1 7 (by decide)] at h3
    rcases (h.kx _ (vp_ix h1) (gv_live hs (vp_ix h1) h2) h3).2.1 with q | ⟨q1, q2, q3⟩
    · exact Or.inl q
    · exact Or.inr ⟨q1, gv_fld h hs hh (vp_ix h1) (by omega) h2 (vp_lt q1), by rw [hs.2.1 7 (by decide)]; exact q3⟩
theorem IN_Sbt (h : IN σ) (hs : Sbt σ τ) (hh : Hld σ τ) (hg : RG τ) (hc : HC τ) : IN τ := by
  have hz := Za_Sbt h.za hs
  have hd := Zd_Sbt h.zd hs
  have h7 := hs.2.1 7 (by decide)
  have l0 := gv_l0 h hs
  refine ⟨hg, ?_, hz, hd, hc, ?_, ⟨fun o ho hl => ?_, fun o k ho hk => ?_, fun r hr => ?_⟩, fun o ho hl => ?_, fun o ho hl h3 => ?_, fun o ho hl => ?_⟩
  · unfold BZ; rw [hs.2.1 16 (by decide)]; exact h.bz
  · refine ⟨fun o ho => ?_, ?_, ?_, fun o h1 ho => ?_⟩
    · rw [(hs.l4 ho).1, h7]; exact h.f4.1 o ho
    · rw [(hs.l4 (by omega)).2.2.1]; exact h.f4.2.1
    · rw [(hs.l4 (by omega)).2.2.2.1]; exact h.f4.2.2.1
    · rw [(hs.l4 ho).2.2.1]; exact h.f4.2.2.2 o h1 ho
  · rw [h7]
    have hl0 := gv_live hs ho hl
    have q := h.cl.1 o ho hl0
    exact gv_CW hs q (hh _ (vp_ix q.1) (h.cl4 (vp_ix q.1) q.2) (Or.inl ⟨o, ho, hl, c1_cls (vp_nn q.1)⟩))
  · by_cases hl : τ.1 4 o = 0
    · rw [hz o k ho hk (by rw [(hd o ho hl).2.2.1]; exact Nat.zero_le _)]
      exact Or.inr (by rw [i0]; exact l0)
    · rw [(hs.live ho hl).2.2.2.2.2 k hk]; exact gv_Wd h hs hh ho hk hl
  · rw [hs.2.1 13 (by decide)]; exact gv_reg h hh hr
  · have hl4 : ¬ τ.1 4 o = 0 := fun q => hl (hd o ho q).2.1
    have hk := hs.live ho hl4
    have hl2 := hl
    rw [hk.2.2.1] at hl2
    have q := h.kc o ho hl2
    rw [h7, hk.2.2.2.1, hk.2.2.2.2.2 0 (by omega)]
    refine ⟨q.1, q.2.1, ?_⟩
    rcases q.2.2 with r | r
    · exact Or.inl r
    · exact Or.inr (gv_CW hs r (gv_fld h hs hh ho (by omega) hl4 (vp_lt r.1)))
  · have hk := hs.live ho hl
    rw [h7] at h3
    have hl0 := gv_live hs ho hl
    obtain ⟨q1, q2, q3, q4, q5, q6⟩ := h.kx o ho hl0 h3
    refine ⟨by rw [hk.2.2.2.1]; exact q1, ?_, ?_, ?_, ?_, fun j hj hd6 => ?_⟩
    · rw [hk.2.2.2.2.2 0 (by omega)]
      rcases q2 with r | ⟨r1, r2, r3⟩
      · exact Or.inl r
      · exact Or.inr ⟨r1, gv_fld h hs hh ho (by omega) hl (vp_lt r1), by rw [h7]; exact r3⟩
    · rw [hk.2.2.2.2.2 2 (by omega)]; exact gv_CW hs q3 (gv_fld h hs hh ho (by omega) hl (vp_lt q3.1))
    · rw [hk.2.2.2.2.2 3 (by omega)]; exact q4
    · rw [hk.2.2.2.2.2 4 (by omega)]; exact q5
    · rw [hk.2.2.2.2.2 (9 + j) (by omega)]; rw [hk.2.2.2.2.1] at hd6; exact q6 j hj hd6
  · have hl4 : ¬ τ.1 4 o = 0 := fun q => hl (hd o ho q).2.1
    have hl2 := hl
    rw [(hs.live ho hl4).2.2.1] at hl2
    obtain ⟨n, hn⟩ := h.sc o ho hl2
    have hP : CN τ (nI o) := Or.inr ⟨vp_k ho (by decide), by rw [ix_nI (by omega)]; exact hl⟩
    exact ⟨n, by rw [(supN_eq (P := CN τ) (fun a ha => gv_CN h hs hh ha) n _ hP).1]; exact hn⟩
theorem gv_act (h : IN σ) (hx : AX σ) (hs : Sbt σ τ) (hh : Hld σ τ) : XN τ (σ.1 13 6) := by
  rcases hx.1 with q | ⟨q1, q2, q3⟩
  · exact Or.inl q
  · refine Or.inr ⟨q1, ?_, by rw [hs.2.1 7 (by decide)]; exact q3⟩
    exact hh _ (vp_ix q1) q2 (Or.inr ⟨6, by omega, ew_self (vp_nn q1)⟩)
theorem AX_Sbt (h : IN σ) (hx : AX σ) (hs : Sbt σ τ) (hh : Hld σ τ) : AX τ := by
  have ha := gv_act h hx hs hh
  have hn := fun n => supN_eq (P := XN τ) (fun a ha => gv_XN h hs hh ha) n _ ha
  unfold AX
  rw [hs.2.1 13 (by decide)]
  refine ⟨ha, fun i j hij hi => ?_, fun j hj hz => ?_⟩
  · rw [(hn i).1] at hi ⊢; rw [(hn j).1]; exact hx.2.1 i j hij hi
  · rw [(hn j).1] at hz ⊢
    rcases (hn j).2 with q | ⟨q1, q2, q3⟩
    · exact absurd q hz
    · rw [(hs.live (vp_ix q1) q2).2.2.2.2.1]; exact hx.2.2 j hj hz
end GIVE
/-- after settling -/
theorem settle_Hld {σ : SS} (h : IN σ) : Hld σ (settleL 28 σ 1) := by
  obtain ⟨a1, a2, a3, a4⟩ := settle_Sbt h.rg h.za h.hc h.l0
  intro x hx hl hw
  have hX : Gd σ (fun i => ¬ (settleL 28 σ 1).1 4 i = 0 ∨ (¬ σ.1 4 i = 0 ∧ ((∃ j, j < 28 ∧ ¬ (settleL 28 σ 1).1 4 j = 0 ∧ 0 < c1 σ j i) ∨ (∃ r, r < 7 ∧ 0 < ew (σ.1 13 r) i)))) := by
    intro o h4 ho xo hu
    rcases xo with q | ⟨_, q⟩
    · rcases a3.gd h.rg a1 o h4 ho q hu with ⟨i, hi, li, hp⟩ | r
      · exact Or.inl ⟨i, hi, Or.inl li, hp⟩
      · exact Or.inr r
    · rcases q with ⟨j, hj, lj, hp⟩ | r
      · exact Or.inl ⟨j, hj, Or.inl lj, hp⟩
      · exact Or.inr r
  exact a4 _ hX (fun i hi xi => by
    rcases xi with q | q
    · exact gv_live a1 hi q
    · exact q.1) x hx (Or.inr ⟨hl, hw⟩)
theorem IN_stick {σ : SS} (h : IN σ) : IN (stick σ) := by
  obtain ⟨h1, h2, h3, h4, h5, h6, h7, h8, h9, h10⟩ := h
  have sn : ∀ {a}, a ≠ 5 → (stick σ).1 a = σ.1 a := fun ha => stick_ne σ ha
  have hsup : ∀ n a, supN (stick σ) n a = supN σ n a := fun n a => (supN_eq (σ := σ) (τ := stick σ) (P := fun _ => True) (fun a _ => ⟨by rw [stick_2], trivial⟩) n a trivial).1
  refine ⟨RG_stickL h1, ?_, ?_, fun o ho hd => ?_, HC_stick h5, ?_, ?_, ?_, ?_, ?_⟩
  · unfold BZ; rw [sn (by decide)]; exact h2
  · unfold Za; rw [sn (by decide), stick_2]; exact h3
  · rw [sn (by decide)] at hd
    rw [stick_5 σ ho, if_neg (fun z => z.1 hd), sn (show (6 : Nat) ≠ 5 by decide), sn (show (8 : Nat) ≠ 5 by decide), sn (show (10 : Nat) ≠ 5 by decide)]
    exact h4 o ho hd
  · unfold F4; rw [sn (show (4 : Nat) ≠ 5 by decide), sn (show (7 : Nat) ≠ 5 by decide), sn (show (6 : Nat) ≠ 5 by decide), sn (show (8 : Nat) ≠ 5 by decide)]; exact h6
  · unfold CL CW Wd; rw [sn (show (4 : Nat) ≠ 5 by decide), sn (show (7 : Nat) ≠ 5 by decide), sn (show (6 : Nat) ≠ 5 by decide), sn (show (13 : Nat) ≠ 5 by decide), stick_2]; exact h7
  · unfold KC CW; rw [sn (show (7 : Nat) ≠ 5 by decide), sn (show (6 : Nat) ≠ 5 by decide), sn (show (8 : Nat) ≠ 5 by decide), stick_2]; exact h8
  · unfold KX KXo XN CW; rw [sn (show (4 : Nat) ≠ 5 by decide), sn (show (7 : Nat) ≠ 5 by decide), sn (show (6 : Nat) ≠ 5 by decide), sn (show (8 : Nat) ≠ 5 by decide), sn (show (10 : Nat) ≠ 5 by decide), stick_2]; exact h9
  · unfold SC; rw [sn (show (6 : Nat) ≠ 5 by decide)]; simp only [hsup]; exact h10
theorem AX_stick {σ : SS} (h : AX σ) : AX (stick σ) := by
  have sn : ∀ {a}, a ≠ 5 → (stick σ).1 a = σ.1 a := fun ha => stick_ne σ ha
  have hsup : ∀ n a, supN (stick σ) n a = supN σ n a := fun n a => (supN_eq (σ := σ) (τ := stick σ) (P := fun _ => True) (fun a _ => ⟨by rw [stick_2], trivial⟩) n a trivial).1
  unfold AX XN
  rw [sn (show (4 : Nat) ≠ 5 by decide), sn (show (7 : Nat) ≠ 5 by decide), sn (show (10 : Nat) ≠ 5 by decide), sn (show (13 : Nat) ≠ 5 by decide)]
  simp only [hsup]
  exact h
theorem IN_settle {σ : SS} (h : IN σ) : IN (settle σ) := by
  obtain ⟨a1, a2, a3, a4⟩ := settle_Sbt h.rg h.za h.hc h.l0
  exact IN_stick (IN_Sbt h a1 (settle_Hld h) (RG_settleL h.rg) a2)
theorem AX_settle {σ : SS} (h : IN σ) (hx : AX σ) : AX (settle σ) := by
  obtain ⟨a1, a2, a3, a4⟩ := settle_Sbt h.rg h.za h.hc h.l0
  exact AX_stick (AX_Sbt h hx a1 (settle_Hld h))
theorem SE_stick {σ : SS} (hg : RG σ) (hc : HC σ) (h : Fin0 σ) : SE (stick σ) := by
  have sn : ∀ {a}, a ≠ 5 → (stick σ).1 a = σ.1 a := fun ha => stick_ne σ ha
  refine ⟨fun o h4 ho hl hu => ?_, fun o ho hl ht => ?_⟩
  · rw [sn (by decide)] at hl
    rw [stick_5 σ ho] at hu
    rw [tally_stick]
    by_cases q : ¬ σ.1 4 o = 0 ∧ ¬ σ.1 11 o < 6
    · rw [if_pos q] at hu; exact absurd hu (by decide)
    · rw [if_neg q] at hu; exact h o h4 ho hl hu
  · rw [sn (by decide)] at hl
    rw [tally_stick] at ht
    have : ¬ σ.1 11 o < 6 := by rw [hc o ho, lt6 (by have := tally_bd hg o; omega)]; omega
    rw [stick_5 σ ho, if_pos ⟨hl, this⟩]
    decide
theorem SE_settle {σ : SS} (h : IN σ) : SE (settle σ) := by
  obtain ⟨a1, a2, a3, a4⟩ := settle_Sbt h.rg h.za h.hc h.l0
  exact SE_stick (RG_settleL h.rg) a2 a3
