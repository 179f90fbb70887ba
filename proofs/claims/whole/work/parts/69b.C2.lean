/-! sweeping: what is reached, on the reference's side -/
def RtsM (μ : SS) (X : Nat → Prop) : Prop := (∀ o, o < 4 → X o) ∧ (∀ r, r < 6 → (μ.1 12 r).toInt < 28 → X (ix (μ.1 12 r))) ∧ ((μ.1 20 0).toInt < 28 → X (ix (μ.1 20 0)))
def CloM (μ : SS) (o : Nat) (X : Nat → Prop) : Prop := X (ix (μ.1 3 o)) ∧ ∀ k, k < ix (μ.1 4 o) → (μ.1 5 (15 * o + k)).toInt < 28 → X (ix (μ.1 5 (15 * o + k)))
def ClsM (μ : SS) (X : Nat → Prop) : Prop := ∀ o, o < 28 → X o → CloM μ o X
def ExtM (μ υ : SS) : Prop := (∀ a, a ≠ 13 → υ.1 a = μ.1 a) ∧ υ.2 = μ.2 ∧ (∀ o, ¬ μ.1 13 o = 0 → ¬ υ.1 13 o = 0)
theorem ExtM.rf (μ : SS) : ExtM μ μ := ⟨fun _ _ => rfl, rfl, fun _ h => h⟩
theorem ExtM.tr {σ τ υ : SS} (h : ExtM σ τ) (h2 : ExtM τ υ) : ExtM σ υ := ⟨fun a ha => (h2.1 a ha).trans (h.1 a ha), h2.2.1.trans h.2.1, fun o q => h2.2.2 o (h.2.2 o q)⟩
theorem CloM.mono {μ : SS} {o : Nat} {X Y : Nat → Prop} (h : CloM μ o X) (hx : ∀ i, X i → Y i) : CloM μ o Y := ⟨hx _ h.1, fun k hk hw => hx _ (h.2 k hk hw)⟩
theorem reachM_spec {μ : SS} {w : Int32} (h0 : 0 ≤ w.toInt) (X : Nat → Prop) (hX : ∀ o, o < 28 → ¬ μ.1 13 o = 0 → X o) (hw : w.toInt < 28 → X (ix w)) : ExtM μ (reachM μ w) ∧ (w.toInt < 28 → ¬ (reachM μ w).1 13 (ix w) = 0) ∧ (∀ o, o < 28 → ¬ (reachM μ w).1 13 o = 0 → X o) := by
  unfold reachM
  rcases obj w h0 with ⟨_, a, b⟩ | ⟨_, a, b⟩
  · rw [if_neg a]; exact ⟨ExtM.rf μ, fun q => by omega, hX⟩
  · rw [if_pos a]
    refine ⟨⟨fun x hx => sA_ne _ hx _ _, rfl, fun o hr => ?_⟩, fun _ => by rw [sA_eq, pk_us]; decide, fun o ho hr => ?_⟩
    · rw [sA_eq]
      by_cases q : o = ix w
      · rw [q, pk_us]; decide
      · rw [pk_un q]; exact hr
    · rw [sA_eq] at hr
      by_cases q : o = ix w
      · rw [q]; exact hw (vp_lt b)
      · rw [pk_un q] at hr; exact hX o ho hr
theorem sw4L_spec {μ0 : SS} (hg : RGm μ0) {o : Nat} (ho : o < 28) {X : Nat → Prop} (hc : CloM μ0 o X) : ∀ {n k : Nat} {μ : SS}, k + n = ix (μ0.1 4 o) → ExtM μ0 μ → (∀ i, i < 28 → ¬ μ.1 13 i = 0 → X i) →
    ExtM μ (sw4L n k μ o) ∧ (∀ i, i < 28 → ¬ (sw4L n k μ o).1 13 i = 0 → X i) ∧ ∀ j, k ≤ j → j < k + n → (μ0.1 5 (15 * o + j)).toInt < 28 → ¬ (sw4L n k μ o).1 13 (ix (μ0.1 5 (15 * o + j))) = 0 := by
  intro n
  induction n with
  | zero => intro k μ _ _ hX; exact ⟨ExtM.rf μ, hX, fun j h1 h2 => by omega⟩
  | succ n ih =>
    intro k μ hk hE hX
    have h15 := ix_le (w := μ0.1 4 o) (n := 15) (hg.2.2.2.1 o ho).2
    unfold sw4L
    rw [ixw (by omega), hE.1 5 (by decide)]
    obtain ⟨a2, a3, a4⟩ := reachM_spec (μ := μ) (hg.1 (15 * o + k) (by omega)) X hX (fun hw => hc.2 k (by omega) hw)
    obtain ⟨b2, b3, b4⟩ := ih (k := k + 1) (by omega) (hE.tr a2) a4
    refine ⟨a2.tr b2, b3, fun j h1 h2 hw => ?_⟩
    by_cases e : j = k
    · subst e; exact b2.2.2 _ (a3 hw)
    · exact b4 j (by omega) (by omega) hw
theorem sw3L_spec {μ0 : SS} (hg : RGm μ0) {X : Nat → Prop} (hC : ClsM μ0 X) : ∀ {n k : Nat} {μ : SS}, k + n = 28 → ExtM μ0 μ → (∀ i, i < 28 → ¬ μ.1 13 i = 0 → X i) →
    ExtM μ (sw3L n k μ) ∧ (∀ i, i < 28 → ¬ (sw3L n k μ).1 13 i = 0 → X i) ∧ ∀ o, k ≤ o → o < 28 → ¬ μ.1 13 o = 0 → CloM μ0 o (fun i => ¬ (sw3L n k μ).1 13 i = 0) := by
  intro n
  induction n with
  | zero => intro k μ hk _ hX; exact ⟨ExtM.rf μ, hX, fun o h1 h2 => by omega⟩
  | succ n ih =>
    intro k μ hk hE hX
    unfold sw3L
    rw [ix_nI (show k < 2 ^ 31 by omega)]
    by_cases e : μ.1 13 k = 0
    · rw [if_pos e]
      obtain ⟨b1, b2, b3⟩ := ih (k := k + 1) (by omega) hE hX
      refine ⟨b1, b2, fun o h1 h2 hr => ?_⟩
      by_cases q : o = k
      · exact absurd (by rw [q]; exact e) hr
      · exact b3 o (by omega) h2 hr
    · rw [if_neg e, hE.1 3 (by decide), hE.1 4 (by decide)]
      have hXk := hX k (by omega) e
      have hc := hC k (by omega) hXk
      obtain ⟨a1, a2, a3⟩ := reachM_spec (μ := μ) (hg.2.2.1 k (by omega)).1 X hX (fun _ => hc.1)
      obtain ⟨c1, c2, c3⟩ := sw4L_spec hg (show k < 28 by omega) hc (n := ix (μ0.1 4 k)) (k := 0) (by omega) (hE.tr a1) a3
      obtain ⟨b1, b2, b3⟩ := ih (k := k + 1) (by omega) (hE.tr (a1.tr c1)) c2
      refine ⟨(a1.tr c1).tr b1, b2, fun o h1 h2 hr => ?_⟩
      by_cases q : o = k
      · subst q
        exact ⟨(c1.tr b1).2.2 _ (a2 (hg.2.2.1 o h2).2), fun j hj hw => b1.2.2 _ (c3 j (Nat.zero_le _) (by omega) hw)⟩
      · exact b3 o (by omega) h2 ((a1.tr c1).2.2 o hr)
theorem cnt_same {f g : Nat → Int32} : ∀ {n : Nat}, (∀ i, i < n → ¬ f i = 0 → ¬ g i = 0) → cntL n g ≤ cntL n f → ∀ i, i < n → ¬ g i = 0 → ¬ f i = 0 := by
  intro n h hle i hi hg hf
  have := cnt_less (f := g) (g := f) (n := n) (fun j hj q => Classical.byContradiction (fun r => h j hj r q)) ⟨i, hi, hg, hf⟩
  omega
theorem ClsM_E {μ0 μ : SS} {X : Nat → Prop} (hE : ExtM μ0 μ) : ClsM μ X ↔ ClsM μ0 X := by unfold ClsM CloM; rw [hE.1 3 (by decide), hE.1 4 (by decide), hE.1 5 (by decide)]
theorem RGm_E {μ0 μ : SS} (hE : ExtM μ0 μ) (h : RGm μ0) : RGm μ := RGm_same h (fun a ha => hE.1 a (by omega))
/-- rounds enough close the marks -/
theorem sw2L_spec {X : Nat → Prop} : ∀ {n : Nat} {μ : SS}, RGm μ → ClsM μ X → (∀ i, i < 28 → ¬ μ.1 13 i = 0 → X i) → ExtM μ (sw2L n μ) ∧ (∀ i, i < 28 → ¬ (sw2L n μ).1 13 i = 0 → X i) ∧ ((28 < cntL 28 (μ.1 13) + n ∨ ClsM μ (fun i => ¬ μ.1 13 i = 0)) → ClsM μ (fun i => ¬ (sw2L n μ).1 13 i = 0)) := by
  intro n
  induction n with
  | zero =>
    intro μ hg hC hX
    refine ⟨ExtM.rf μ, hX, fun h => ?_⟩
    rcases h with h | h
    · have := cntL_le (μ.1 13) 28; omega
    · exact h
  | succ n ih =>
    intro μ hg hC hX
    obtain ⟨a1, a2, a3⟩ := sw3L_spec hg hC (n := 28) (k := 0) (by omega) (ExtM.rf μ) hX
    obtain ⟨b1, b2, b3⟩ := ih (μ := sw3L 28 0 μ) (RGm_E a1 hg) ((ClsM_E a1).mpr hC) a2
    have eu : sw2L (n + 1) μ = sw2L n (sw3L 28 0 μ) := rfl
    rw [eu]
    refine ⟨a1.tr b1, b2, fun h => (ClsM_E a1).mp (b3 ?_)⟩
    by_cases q : cntL 28 (μ.1 13) < cntL 28 ((sw3L 28 0 μ).1 13)
    · rcases h with h | h
      · exact Or.inl (by omega)
      · -- closed already: nothing is added
        have := (sw3L_spec hg h (n := 28) (k := 0) (by omega) (ExtM.rf μ) (fun i _ z => z)).2.1
        have hle : cntL 28 ((sw3L 28 0 μ).1 13) ≤ cntL 28 (μ.1 13) := cnt_mono (fun i hi z => Classical.byContradiction (fun r => this i hi r z))
        omega
    · right
      rw [ClsM_E a1]
      intro o ho hr
      have hback := cnt_same (f := μ.1 13) (g := (sw3L 28 0 μ).1 13) (n := 28) (fun i _ z => a1.2.2 i z) (by omega)
      exact a3 o (Nat.zero_le _) ho (hback o ho hr)
theorem sw0L_ne {n : Nat} : ∀ {k : Nat} {μ : SS} {a : Nat}, a ≠ 13 → (sw0L n k μ).1 a = μ.1 a := by
  induction n with
  | zero => intro k μ a _; rfl
  | succ n ih => intro k μ a h; unfold sw0L; rw [ih h, sA_ne μ h]
theorem sw0L_2 {n : Nat} : ∀ {k : Nat} {μ : SS}, (sw0L n k μ).2 = μ.2 := by
  induction n with
  | zero => intro k μ; rfl
  | succ n ih => intro k μ; unfold sw0L; rw [ih, sA_2]
theorem sw0L_13 {n : Nat} : ∀ {k : Nat} {μ : SS} {o : Nat}, k + n = 28 → o < 28 → (sw0L n k μ).1 13 o = if k ≤ o then (if 4 ≤ o then 0 else 1) else μ.1 13 o := by
  induction n with
  | zero => intro k μ o hk ho; rw [if_neg (by omega)]; rfl
  | succ n ih =>
    intro k μ o hk ho
    unfold sw0L
    rw [ih (by omega) ho, ix_nI (by omega), sA_eq]
    have e4 : ((4 : Int32) ≤ nI k) ↔ 4 ≤ k := nI_leI (a := 4) (by omega) (by omega)
    by_cases e : o = k
    · subst e
      rw [if_neg (by omega), if_pos (Nat.le_refl _), pk_us]
      by_cases f : 4 ≤ o
      · rw [if_pos f, if_pos (e4.mpr f)]
      · rw [if_neg f, if_neg (fun z => f (e4.mp z))]
    · rw [pk_un e]
      by_cases r : k + 1 ≤ o
      · rw [if_pos r, if_pos (show k ≤ o by omega)]
      · rw [if_neg r, if_neg (show ¬ k ≤ o by omega)]
theorem sw1L_spec {μ0 : SS} (hg : RGm μ0) {X : Nat → Prop} (hX : ∀ r, r < 6 → (μ0.1 12 r).toInt < 28 → X (ix (μ0.1 12 r))) : ∀ {n k : Nat} {μ : SS}, k + n = 6 → ExtM μ0 μ → (∀ i, i < 28 → ¬ μ.1 13 i = 0 → X i) →
    ExtM μ (sw1L n k μ) ∧ (∀ i, i < 28 → ¬ (sw1L n k μ).1 13 i = 0 → X i) ∧ ∀ j, k ≤ j → j < 6 → (μ0.1 12 j).toInt < 28 → ¬ (sw1L n k μ).1 13 (ix (μ0.1 12 j)) = 0 := by
  intro n
  induction n with
  | zero => intro k μ _ _ hx; exact ⟨ExtM.rf μ, hx, fun j h1 h2 => by omega⟩
  | succ n ih =>
    intro k μ hk hE hx
    unfold sw1L
    rw [ix_nI (show k < 2 ^ 31 by omega), hE.1 12 (by decide)]
    obtain ⟨a2, a3, a4⟩ := reachM_spec (μ := μ) (hg.2.1 k (by omega)) X hx (fun hw => hX k (by omega) hw)
    obtain ⟨b2, b3, b4⟩ := ih (k := k + 1) (by omega) (hE.tr a2) a4
    refine ⟨a2.tr b2, b3, fun j h1 h2 hw => ?_⟩
    by_cases e : j = k
    · subst e; exact b2.2.2 _ (a3 hw)
    · exact b4 j (by omega) h2 hw
theorem markM_spec {μ : SS} (hg : RGm μ) : (∀ a, a ≠ 13 → (sw2M μ).1 a = μ.1 a) ∧ (sw2M μ).2 = μ.2 ∧ RtsM μ (fun i => ¬ (sw2M μ).1 13 i = 0) ∧ ClsM μ (fun i => ¬ (sw2M μ).1 13 i = 0) ∧ ∀ X : Nat → Prop, RtsM μ X → ClsM μ X → ∀ i, i < 28 → ¬ (sw2M μ).1 13 i = 0 → X i := by
  obtain ⟨s0, hs0⟩ : ∃ s, s = sw0L 28 0 μ := ⟨_, rfl⟩
  have n0 : ∀ a, a ≠ 13 → s0.1 a = μ.1 a := fun a ha => by rw [hs0, sw0L_ne ha]
  have n2 : s0.2 = μ.2 := by rw [hs0, sw0L_2]
  have m0 : ∀ o, o < 28 → s0.1 13 o = if 4 ≤ o then 0 else 1 := fun o ho => by rw [hs0, sw0L_13 (by omega) ho, if_pos (Nat.zero_le _)]
  have hg0 : RGm s0 := RGm_same hg (fun a ha => n0 a (by omega))
  have l4 : ∀ o, o < 4 → ¬ s0.1 13 o = 0 := fun o ho => by rw [m0 o (by omega), if_neg (by omega)]; decide
  have key : ∀ X : Nat → Prop, RtsM μ X → ClsM μ X → ExtM s0 (sw2M μ) ∧ (∀ i, i < 28 → ¬ (sw2M μ).1 13 i = 0 → X i) ∧ RtsM μ (fun i => ¬ (sw2M μ).1 13 i = 0) ∧ ClsM μ (fun i => ¬ (sw2M μ).1 13 i = 0) := by
    intro X hR hC
    have hx0 : ∀ i, i < 28 → ¬ s0.1 13 i = 0 → X i := fun i hi q => by
      rw [m0 i hi] at q
      by_cases e : 4 ≤ i
      · rw [if_pos e] at q; exact absurd rfl q
      · exact hR.1 i (by omega)
    obtain ⟨a1, a2, a3⟩ := sw1L_spec hg0 (X := X) (by rw [n0 12 (by decide)]; exact hR.2.1) (n := 6) (k := 0) (by omega) (ExtM.rf s0) hx0
    have e1 : sw1M μ = sw1L 6 0 s0 := by unfold sw1M; rw [hs0]
    rw [← e1] at a1 a2 a3
    have ea : acM (sw1M μ) = μ.1 20 0 := by unfold acM; rw [a1.1 20 (by decide), n0 20 (by decide)]
    obtain ⟨b1, b2, b3⟩ := reachM_spec (μ := sw1M μ) (w := acM (sw1M μ)) (by rw [ea]; exact vp_nn hg.2.2.2.2.2.2) X a2 (fun hw => by rw [ea] at hw ⊢; exact hR.2.2 hw)
    have hE1 := a1.tr b1
    have hC0 : ClsM (reachM (sw1M μ) (acM (sw1M μ))) X := by
      rw [ClsM_E hE1]
      unfold ClsM CloM; rw [n0 3 (by decide), n0 4 (by decide), n0 5 (by decide)]; exact hC
    obtain ⟨c1, c2, c3⟩ := sw2L_spec (n := 28) (RGm_E hE1 hg0) hC0 b3
    have e2 : sw2M μ = sw2L 28 (reachM (sw1M μ) (acM (sw1M μ))) := by unfold sw2M; rfl
    rw [← e2] at c1 c2 c3
    have hpos : 28 < cntL 28 ((reachM (sw1M μ) (acM (sw1M μ))).1 13) + 28 := by
      have := cntL_pos (f := (reachM (sw1M μ) (acM (sw1M μ))).1 13) (n := 28) (by omega) (hE1.2.2 0 (l4 0 (by omega)))
      omega
    refine ⟨hE1.tr c1, c2, ⟨fun o ho => (hE1.tr c1).2.2 o (l4 o ho), fun r hr hw => ?_, fun hw => ?_⟩, ?_⟩
    · have := a3 r (Nat.zero_le _) hr (by rw [n0 12 (by decide)]; exact hw)
      rw [n0 12 (by decide)] at this
      exact (b1.tr c1).2.2 _ this
    · rw [ea] at b2
      have := b2 hw
      rw [ea] at c1
      exact c1.2.2 _ this
    · have := (ClsM_E hE1).mp (c3 (Or.inl hpos))
      unfold ClsM CloM at this ⊢
      rw [n0 3 (by decide), n0 4 (by decide), n0 5 (by decide)] at this
      exact this
  obtain ⟨k1, k2, k3, k4⟩ := key (fun _ => True) ⟨fun _ _ => trivial, fun _ _ _ => trivial, fun _ => trivial⟩ (fun _ _ _ => ⟨trivial, fun _ _ _ => trivial⟩)
  exact ⟨fun a ha => (k1.1 a ha).trans (n0 a ha), k1.2.1.trans n2, k3, k4, fun X hR hC => (key X hR hC).2.1⟩
