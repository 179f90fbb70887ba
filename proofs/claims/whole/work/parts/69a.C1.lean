/-! sweeping: what is reached, on the class's side -/
def Rts (σ : SS) (X : Nat → Prop) : Prop := (∀ o, o < 4 → X o) ∧ ∀ r, r < 7 → (σ.1 13 r).toInt < 28 → X (ix (σ.1 13 r))
def Clo (σ : SS) (o : Nat) (X : Nat → Prop) : Prop := X (ix (σ.1 7 o)) ∧ ∀ k, k < ix (σ.1 8 o) → (σ.2.1 o k).toInt < 28 → X (ix (σ.2.1 o k))
def Cls (σ : SS) (X : Nat → Prop) : Prop := ∀ o, o < 28 → X o → Clo σ o X
/-- marking goes on: only marks and trail change, and they grow -/
def Ext (σ τ : SS) : Prop := (∀ a, a ≠ 14 ∧ a ≠ 15 ∧ a ≠ 20 → τ.1 a = σ.1 a) ∧ τ.2 = σ.2 ∧ (∀ o, ¬ σ.1 14 o = 0 → ¬ τ.1 14 o = 0) ∧ cntL 28 (σ.1 14) ≤ cntL 28 (τ.1 14) ∧ (∀ j, j < cntL 28 (σ.1 14) → τ.1 15 j = σ.1 15 j)
theorem Ext.rf (σ : SS) : Ext σ σ := ⟨fun _ _ => rfl, rfl, fun _ h => h, Nat.le_refl _, fun _ _ => rfl⟩
theorem Ext.tr {σ τ υ : SS} (h : Ext σ τ) (h2 : Ext τ υ) : Ext σ υ :=
  ⟨fun a ha => (h2.1 a ha).trans (h.1 a ha), h2.2.1.trans h.2.1, fun o q => h2.2.2.1 o (h.2.2.1 o q), Nat.le_trans h.2.2.2.1 h2.2.2.2.1, fun j hj => (h2.2.2.2.2 j (Nat.lt_of_lt_of_le hj h.2.2.2.1)).trans (h.2.2.2.2 j hj)⟩
/-- marks and trail say the same -/
def TRL (σ : SS) : Prop := MK σ ∧ (∀ o, o < 28 → ¬ σ.1 14 o = 0 → ∃ j, j < cntL 28 (σ.1 14) ∧ σ.1 15 j = nI o) ∧ (∀ j, j < cntL 28 (σ.1 14) → ¬ σ.1 14 (ix (σ.1 15 j)) = 0)
theorem reach_spec {σ : SS} (h : TRL σ) {w : Int32} (h0 : 0 ≤ w.toInt) (X : Nat → Prop) (hX : ∀ o, o < 28 → ¬ σ.1 14 o = 0 → X o) (hw : w.toInt < 28 → X (ix w)) : TRL (reach σ w) ∧ Ext σ (reach σ w) ∧ (w.toInt < 28 → ¬ (reach σ w).1 14 (ix w) = 0) ∧ (∀ o, o < 28 → ¬ (reach σ w).1 14 o = 0 → X o) := by
  have hm := MK_reach h.1 w
  unfold reach at hm ⊢
  rcases obj w h0 with ⟨a, _, b⟩ | ⟨a, _, b⟩
  · rw [if_pos a]; exact ⟨h, Ext.rf σ, fun q => by omega, hX⟩
  · rw [if_neg a] at hm ⊢
    have hw28 := vp_ix b
    by_cases e : σ.1 14 (ix w) = 0
    · rw [if_pos e] at hm ⊢
      have hc : cntL 28 ((reach3 σ w).1 14) = cntL 28 (σ.1 14) + 1 := cntL_set hw28 e
      have r14 : (reach3 σ w).1 14 = upd (σ.1 14) (ix w) 1 := by unfold reach3 reach2 reach1; rw [sA_ne _ (by decide), sA_ne _ (by decide), sA_eq]
      have ht : ix (σ.1 20 0) = cntL 28 (σ.1 14) := by rw [h.1.1, ix_nI (by have := cntL_le (σ.1 14) 28; omega)]
      have r15 : (reach3 σ w).1 15 = upd (σ.1 15) (cntL 28 (σ.1 14)) w := by
        unfold reach3 reach2
        rw [sA_ne _ (by decide), sA_eq]
        unfold reach1
        rw [sA_ne _ (show (20 : Nat) ≠ 14 by decide), sA_ne _ (show (15 : Nat) ≠ 14 by decide), ht]
      refine ⟨⟨hm, fun o ho hr => ?_, fun j hj => ?_⟩, ⟨fun x hx => ?_, rfl, fun o hr => ?_, by omega, fun j hj => ?_⟩, fun _ => by rw [r14, pk_us]; decide, fun o ho hr => ?_⟩
      · rw [hc, r15]
        rw [r14] at hr
        by_cases q : o = ix w
        · exact ⟨cntL 28 (σ.1 14), by omega, by rw [pk_us, q, ix_back h0]⟩
        · rw [pk_un q] at hr
          obtain ⟨j, hj, ej⟩ := h.2.1 o ho hr
          exact ⟨j, by omega, by rw [pk_un (by omega)]; exact ej⟩
      · rw [hc] at hj
        rw [r14, r15]
        by_cases q : j = cntL 28 (σ.1 14)
        · rw [q, pk_us, pk_us]; decide
        · rw [pk_un q]
          by_cases q2 : ix (σ.1 15 j) = ix w
          · rw [q2, pk_us]; decide
          · rw [pk_un q2]; exact h.2.2 j (by omega)
      · unfold reach3 reach2 reach1; rw [sA_ne _ hx.2.2, sA_ne _ hx.2.1, sA_ne _ hx.1]
      · rw [r14]
        by_cases q : o = ix w
        · rw [q, pk_us]; decide
        · rw [pk_un q]; exact hr
      · rw [r15, pk_un (by omega)]
      · rw [r14] at hr
        by_cases q : o = ix w
        · rw [q]; exact hw (vp_lt b)
        · rw [pk_un q] at hr; exact hX o ho hr
    · rw [if_neg e]; exact ⟨h, Ext.rf σ, fun _ => e, hX⟩
theorem Clo.mono {σ : SS} {o : Nat} {X Y : Nat → Prop} (h : Clo σ o X) (hx : ∀ i, X i → Y i) : Clo σ o Y := ⟨hx _ h.1, fun k hk hw => hx _ (h.2 k hk hw)⟩
theorem rfL_spec {σ0 : SS} (hg : RG σ0) {o : Nat} (ho : o < 28) {X : Nat → Prop} (hc : Clo σ0 o X) : ∀ {n k : Nat} {σ : SS}, k + n = ix (σ0.1 8 o) → TRL σ → Ext σ0 σ → (∀ i, i < 28 → ¬ σ.1 14 i = 0 → X i) →
    TRL (rfL n k σ (nI o)) ∧ Ext σ (rfL n k σ (nI o)) ∧ (∀ i, i < 28 → ¬ (rfL n k σ (nI o)).1 14 i = 0 → X i) ∧ ∀ j, k ≤ j → j < k + n → (σ0.2.1 o j).toInt < 28 → ¬ (rfL n k σ (nI o)).1 14 (ix (σ0.2.1 o j)) = 0 := by
  intro n
  induction n with
  | zero => intro k σ _ h _ hX; exact ⟨h, Ext.rf σ, hX, fun j h1 h2 => by omega⟩
  | succ n ih =>
    intro k σ hk h hE hX
    have h15 := ix_le (w := σ0.1 8 o) (n := 15) (hg.2.2.2.1 o ho).2
    unfold rfL
    rw [ix_nI (show o < 2 ^ 31 by omega), ix_nI (show k < 2 ^ 31 by omega), hE.2.1]
    obtain ⟨a1, a2, a3, a4⟩ := reach_spec h (hg.1 o k ho (by omega)) X hX (fun hw => hc.2 k (by omega) hw)
    obtain ⟨b1, b2, b3, b4⟩ := ih (k := k + 1) (by omega) a1 (hE.tr a2) a4
    refine ⟨b1, a2.tr b2, b3, fun j h1 h2 hw => ?_⟩
    by_cases e : j = k
    · subst e; exact b2.2.2.1 _ (a3 hw)
    · exact b4 j (by omega) (by omega) hw
theorem reachFrom_spec {σ0 σ : SS} (hg : RG σ0) {o : Nat} (ho : o < 28) {X : Nat → Prop} (hc : Clo σ0 o X) (h : TRL σ) (hE : Ext σ0 σ) (hX : ∀ i, i < 28 → ¬ σ.1 14 i = 0 → X i) :
    TRL (reachFrom σ (nI o)) ∧ Ext σ (reachFrom σ (nI o)) ∧ (∀ i, i < 28 → ¬ (reachFrom σ (nI o)).1 14 i = 0 → X i) ∧ Clo σ0 o (fun i => ¬ (reachFrom σ (nI o)).1 14 i = 0) := by
  unfold reachFrom
  rw [ix_nI (show o < 2 ^ 31 by omega), hE.1 8 (by decide), hE.1 7 (by decide)]
  obtain ⟨a1, a2, a3, a4⟩ := reach_spec h (hg.2.2.1 o ho).1 X hX (fun _ => hc.1)
  obtain ⟨b1, b2, b3, b4⟩ := rfL_spec hg ho hc (n := ix (σ0.1 8 o)) (k := 0) (by omega) a1 (hE.tr a2) a4
  exact ⟨b1, a2.tr b2, b3, b2.2.2.1 _ (a3 (hg.2.2.1 o ho).2), fun k hk hw => b4 k (by omega) (by omega) hw⟩
theorem mTL_spec {σ0 : SS} (hg : RG σ0) {X : Nat → Prop} (hX : Cls σ0 X) : ∀ {n k : Nat} {σ : SS}, k + n = 28 → TRL σ → Ext σ0 σ → (∀ i, i < 28 → ¬ σ.1 14 i = 0 → X i) → (∀ j, j < k → j < cntL 28 (σ.1 14) → Clo σ0 (ix (σ.1 15 j)) (fun i => ¬ σ.1 14 i = 0)) →
    TRL (mTL n k σ) ∧ Ext σ (mTL n k σ) ∧ (∀ i, i < 28 → ¬ (mTL n k σ).1 14 i = 0 → X i) ∧ Cls σ0 (fun i => ¬ (mTL n k σ).1 14 i = 0) := by
  have fin : ∀ {σ : SS} {k : Nat}, TRL σ → cntL 28 (σ.1 14) ≤ k → (∀ j, j < k → j < cntL 28 (σ.1 14) → Clo σ0 (ix (σ.1 15 j)) (fun i => ¬ σ.1 14 i = 0)) → Cls σ0 (fun i => ¬ σ.1 14 i = 0) := by
    intro σ k h hk hd o ho hr
    obtain ⟨j, hj, ej⟩ := h.2.1 o ho hr
    have := hd j (by omega) hj
    rw [ej, ix_nI (by omega)] at this
    exact this
  intro n
  induction n with
  | zero =>
    intro k σ hk h hE hx hd
    have hcn := cntL_le (σ.1 14) 28
    have hle : cntL 28 (σ.1 14) ≤ k := by omega
    exact ⟨h, Ext.rf σ, hx, fin h hle hd⟩
  | succ n ih =>
    intro k σ hk h hE hx hd
    unfold mTL
    have hcn := cntL_le (σ.1 14) 28
    by_cases e : σ.1 20 0 ≤ nI k
    · rw [if_pos e]
      rw [h.1.1, nI_leI (by omega) (by omega)] at e
      exact ⟨h, Ext.rf σ, hx, fin h e hd⟩
    · rw [if_neg e]
      rw [h.1.1, nI_leI (by omega) (by omega)] at e
      rw [ix_nI (show k < 2 ^ 31 by omega)]
      have hv := h.1.2 k (by omega)
      obtain ⟨o, ho, eo⟩ := vp_in_of hv (by decide)
      rw [eo]
      have hro : ¬ σ.1 14 o = 0 := by
        have := h.2.2 k (by omega)
        rw [eo, ix_nI (by omega)] at this
        exact this
      obtain ⟨a1, a2, a3, a4⟩ := reachFrom_spec hg ho (hX o ho (hx o ho hro)) h hE hx
      have hd2 : ∀ j, j < k + 1 → j < cntL 28 ((reachFrom σ (nI o)).1 14) → Clo σ0 (ix ((reachFrom σ (nI o)).1 15 j)) (fun i => ¬ (reachFrom σ (nI o)).1 14 i = 0) := fun j hj hj2 => by
        by_cases ej : j = k
        · subst ej
          rw [a2.2.2.2.2 j (by omega), eo, ix_nI (by omega)]; exact a4
        · rw [a2.2.2.2.2 j (by omega)]
          exact (hd j (by omega) (by omega)).mono (fun i q => a2.2.2.1 i q)
      obtain ⟨b1, b2, b3, b4⟩ := ih (k := k + 1) (by omega) a1 (hE.tr a2) a3 hd2
      exact ⟨b1, a2.tr b2, b3, b4⟩
theorem m4L_spec {X : Nat → Prop} (hX : ∀ o, o < 4 → X o) : ∀ {n k : Nat} {σ : SS}, k + n = 4 → TRL σ → (∀ i, i < 28 → ¬ σ.1 14 i = 0 → X i) →
    TRL (m4L n k σ) ∧ Ext σ (m4L n k σ) ∧ (∀ i, i < 28 → ¬ (m4L n k σ).1 14 i = 0 → X i) ∧ ∀ j, k ≤ j → j < 4 → ¬ (m4L n k σ).1 14 j = 0 := by
  intro n
  induction n with
  | zero => intro k σ _ h hx; exact ⟨h, Ext.rf σ, hx, fun j h1 h2 => by omega⟩
  | succ n ih =>
    intro k σ hk h hx
    unfold m4L
    have ek : ix (nI k) = k := ix_nI (by omega)
    have et : (nI k).toInt = k := nI_toInt (by omega)
    obtain ⟨a1, a2, a3, a4⟩ := reach_spec h (w := nI k) (by omega) X hx (fun _ => by rw [ek]; exact hX k (by omega))
    obtain ⟨b1, b2, b3, b4⟩ := ih (k := k + 1) (by omega) a1 a4
    refine ⟨b1, a2.tr b2, b3, fun j h1 h2 => ?_⟩
    by_cases e : j = k
    · subst e
      have := a3 (by omega)
      rw [ek] at this
      exact b2.2.2.1 _ this
    · exact b4 j (by omega) h2
theorem m7L_spec {σ0 : SS} (hg : RG σ0) {X : Nat → Prop} (hX : ∀ r, r < 7 → (σ0.1 13 r).toInt < 28 → X (ix (σ0.1 13 r))) : ∀ {n k : Nat} {σ : SS}, k + n = 7 → TRL σ → Ext σ0 σ → (∀ i, i < 28 → ¬ σ.1 14 i = 0 → X i) →
    TRL (m7L n k σ) ∧ Ext σ (m7L n k σ) ∧ (∀ i, i < 28 → ¬ (m7L n k σ).1 14 i = 0 → X i) ∧ ∀ j, k ≤ j → j < 7 → (σ0.1 13 j).toInt < 28 → ¬ (m7L n k σ).1 14 (ix (σ0.1 13 j)) = 0 := by
  intro n
  induction n with
  | zero => intro k σ _ h _ hx; exact ⟨h, Ext.rf σ, hx, fun j h1 h2 => by omega⟩
  | succ n ih =>
    intro k σ hk h hE hx
    unfold m7L
    rw [ix_nI (show k < 2 ^ 31 by omega), hE.1 13 (by decide)]
    obtain ⟨a1, a2, a3, a4⟩ := reach_spec h (hg.2.1 k (by omega)) X hx (fun hw => hX k (by omega) hw)
    obtain ⟨b1, b2, b3, b4⟩ := ih (k := k + 1) (by omega) a1 (hE.tr a2) a4
    refine ⟨b1, a2.tr b2, b3, fun j h1 h2 hw => ?_⟩
    by_cases e : j = k
    · subst e; exact b2.2.2.1 _ (a3 hw)
    · exact b4 j (by omega) h2 hw
theorem clrL_ne2 {n : Nat} : ∀ {k : Nat} {σ : SS} {a : Nat}, a ≠ 14 → (clrL n k σ).1 a = σ.1 a := by
  induction n with
  | zero => intro k σ a _; rfl
  | succ n ih => intro k σ a h; unfold clrL; rw [ih h, sA_ne σ h]
theorem clrL_22 {n : Nat} : ∀ {k : Nat} {σ : SS}, (clrL n k σ).2 = σ.2 := by
  induction n with
  | zero => intro k σ; rfl
  | succ n ih => intro k σ; unfold clrL; rw [ih, sA_2]
theorem clrL_14 {n : Nat} : ∀ {k : Nat} {σ : SS} {o : Nat}, k + n = 28 → o < 28 → (k ≤ o ∨ σ.1 14 o = 0) → (clrL n k σ).1 14 o = 0 := by
  induction n with
  | zero => intro k σ o hk ho h; exact h.resolve_left (by omega)
  | succ n ih =>
    intro k σ o hk ho h
    unfold clrL
    apply ih (by omega) ho
    by_cases e : o = k
    · right
      rw [sA_eq, ix_nI (by omega), e, pk_us]
    · rcases h with h | h
      · left; omega
      · right; rw [sA_eq, ix_nI (by omega), pk_un e]; exact h
/-- what marking leaves: the least set with the roots that is closed -/
theorem mark_spec {σ : SS} (hg : RG σ) : (∀ a, a ≠ 14 ∧ a ≠ 15 ∧ a ≠ 20 → (markReached σ).1 a = σ.1 a) ∧ (markReached σ).2 = σ.2 ∧ Rts σ (fun i => ¬ (markReached σ).1 14 i = 0) ∧ Cls σ (fun i => ¬ (markReached σ).1 14 i = 0) ∧ ∀ X : Nat → Prop, Rts σ X → Cls σ X → ∀ i, i < 28 → ¬ (markReached σ).1 14 i = 0 → X i := by
  obtain ⟨s0, hs0⟩ : ∃ s, s = sA (clrL 28 0 σ) 20 0 0 := ⟨_, rfl⟩
  have z14 : ∀ o, o < 28 → s0.1 14 o = 0 := fun o ho => by rw [hs0, sA_ne _ (by decide)]; exact clrL_14 (by omega) ho (Or.inl (Nat.zero_le _))
  have z0 : cntL 28 (s0.1 14) = 0 := cntL_0 z14
  have s0n : ∀ a, a ≠ 14 ∧ a ≠ 15 ∧ a ≠ 20 → s0.1 a = σ.1 a := fun a ha => by rw [hs0, sA_ne _ ha.2.2, clrL_ne2 ha.1]
  have s02 : s0.2 = σ.2 := by rw [hs0, sA_2, clrL_22]
  have hT0 : TRL s0 := ⟨⟨by rw [z0, hs0, sA_eq, pk_us]; rfl, fun j hj => by omega⟩, fun o ho q => absurd (z14 o ho) q, fun j hj => by omega⟩
  have hgs : RG s0 := by
    unfold RG at hg ⊢
    rw [s0n 13 (by decide), s0n 7 (by decide), s0n 8 (by decide), s0n 9 (by decide), s0n 10 (by decide), s02]
    exact hg
  have key : ∀ X : Nat → Prop, Rts σ X → Cls σ X → Ext s0 (markReached σ) ∧ (∀ i, i < 28 → ¬ (markReached σ).1 14 i = 0 → X i) ∧ Rts σ (fun i => ¬ (markReached σ).1 14 i = 0) ∧ Cls σ (fun i => ¬ (markReached σ).1 14 i = 0) := by
    intro X hR hC
    have hC0 : Cls s0 X := by
      unfold Cls Clo; rw [s0n 7 (by decide), s0n 8 (by decide), s02]; exact hC
    obtain ⟨a1, a2, a3, a4⟩ := m4L_spec hR.1 (n := 4) (k := 0) (by omega) hT0 (fun i hi q => absurd (z14 i hi) q)
    obtain ⟨b1, b2, b3, b4⟩ := m7L_spec hgs (X := X) (by rw [s0n 13 (by decide)]; exact hR.2) (n := 7) (k := 0) (by omega) a1 a2 a3
    obtain ⟨c1, c2, c3, c4⟩ := mTL_spec hgs hC0 (n := 28) (k := 0) (by omega) b1 (a2.tr b2) b3 (fun j hj => by omega)
    have em : markReached σ = mTL 28 0 (m7L 7 0 (m4L 4 0 s0)) := by unfold markReached mk0 mk1 mk2 mk3; rw [hs0]
    rw [← em] at c1 c2 c3 c4
    refine ⟨(a2.tr b2).tr c2, c3, ⟨fun o ho => (b2.tr c2).2.2.1 o (a4 o (Nat.zero_le _) ho), fun r hr hw => ?_⟩, ?_⟩
    · have := b4 r (Nat.zero_le _) hr (by rw [s0n 13 (by decide)]; exact hw)
      rw [s0n 13 (by decide)] at this
      exact c2.2.2.1 _ this
    · unfold Cls Clo at c4 ⊢; rw [s0n 7 (by decide), s0n 8 (by decide), s02] at c4; exact c4
  obtain ⟨k1, k2, k3, k4⟩ := key (fun _ => True) ⟨fun _ _ => trivial, fun _ _ _ => trivial⟩ (fun _ _ _ => ⟨trivial, fun _ _ _ => trivial⟩)
  exact ⟨fun a ha => (k1.1 a ha).trans (s0n a ha), k1.2.1.trans s02, k3, k4, fun X hR hC => (key X hR hC).2.1⟩
