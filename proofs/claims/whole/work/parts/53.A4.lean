/-! class and reference side by side -/
def srt (σ : SS) (o : Nat) : Int32 := if σ.1 6 o = 0 then (if σ.1 7 o = 3 then 2 else 0) else 1
/-- an object that is alive is the same on both sides -/
def Rl (σ μ : SS) (o : Nat) : Prop := μ.1 3 o = σ.1 7 o ∧ μ.1 4 o = σ.1 8 o ∧ (∀ k, k < 15 → μ.1 5 (15 * o + k) = σ.2.1 o k) ∧ μ.1 2 o = srt σ o ∧ (¬ σ.1 6 o = 0 → μ.1 8 o = σ.1 9 o) ∧ (σ.1 7 o = 3 → μ.1 11 o = σ.1 10 o)
/-- what no step but its own call changes -/
def Rc (σ μ : SS) : Prop := (∀ j, j < 224 → (μ.1 9 j = 0 ↔ σ.1 16 j = 0)) ∧ (∀ j k, j < 224 → k < 8 → μ.1 10 (16 * j + k) = byteM (σ.2.2 17 j) k ∧ μ.1 10 (16 * j + 8 + k) = byteM (σ.2.2 18 j) k)
def Rr (σ μ : SS) : Prop := (∀ o, o < 28 → (μ.1 1 o = 0 ↔ σ.1 4 o = 0)) ∧ (∀ o, o < 28 → (μ.1 6 o = 0 ↔ σ.1 5 o = 0)) ∧ (∀ o, o < 28 → ¬ σ.1 4 o = 0 → Rl σ μ o) ∧ (∀ h, h < 6 → μ.1 12 h = σ.1 13 h) ∧ μ.1 20 0 = σ.1 13 6 ∧ μ.1 21 0 = σ.1 21 0 ∧ Rc σ μ
theorem Rl.cnt1 {σ μ : SS} {i : Nat} (h : Rl σ μ i) (h8 : ix (σ.1 8 i) ≤ 15) (x : Nat) : c1M μ i x = c1 σ i x := by
  unfold c1M c1
  rw [h.1, h.2.1]
  congr 1
  exact sm_congr (fun k hk => by rw [h.2.2.1 k (by omega)])
theorem regs_eq {σ μ : SS} (h4 : ∀ h, h < 6 → μ.1 12 h = σ.1 13 h) (h5 : μ.1 20 0 = σ.1 13 6) (x : Nat) : sm 6 (fun r => ew (μ.1 12 r) x) + ew (μ.1 20 0) x = sm 7 (fun r => ew (σ.1 13 r) x) := by
  rw [show sm 7 (fun r => ew (σ.1 13 r) x) = sm 6 (fun r => ew (σ.1 13 r) x) + ew (σ.1 13 6) x from rfl, h5]
  congr 1
  exact sm_congr (fun r hr => by rw [h4 r hr])
theorem Rr.regs {σ μ : SS} (h : Rr σ μ) (x : Nat) : sm 6 (fun r => ew (μ.1 12 r) x) + ew (μ.1 20 0) x = sm 7 (fun r => ew (σ.1 13 r) x) := regs_eq h.2.2.2.1 h.2.2.2.2.1 x
theorem tal_eq {σ μ : SS} (h1 : ∀ o, o < 28 → (μ.1 1 o = 0 ↔ σ.1 4 o = 0)) (h3 : ∀ o, o < 28 → ¬ σ.1 4 o = 0 → Rl σ μ o) (h4 : ∀ h, h < 6 → μ.1 12 h = σ.1 13 h) (h5 : μ.1 20 0 = σ.1 13 6) (hg : RG σ) (x : Nat) : talM μ x = tally σ x := by
  unfold talM tally tal
  rw [regs_eq h4 h5]
  congr 1
  apply sm_congr
  intro i hi
  by_cases e : σ.1 4 i = 0
  · rw [if_pos e, if_pos ((h1 i hi).mpr e)]
  · rw [if_neg e, if_neg (fun q => e ((h1 i hi).mp q)), (h3 i hi e).cnt1 (ix_le (hg.2.2.2.1 i hi).2)]
theorem Rr.tal {σ μ : SS} (h : Rr σ μ) (hg : RG σ) (x : Nat) : talM μ x = tally σ x := tal_eq h.1 h.2.2.1 h.2.2.2.1 h.2.2.2.2.1 hg x
theorem Rr.gd {σ μ : SS} (h : Rr σ μ) (hg : RG σ) {X : Nat → Prop} (hl : ∀ i, i < 28 → X i → ¬ σ.1 4 i = 0) : Gd σ X ↔ GdM μ X := by
  have hr : ∀ x, (∃ r, r < 7 ∧ 0 < ew (σ.1 13 r) x) ↔ 0 < sm 6 (fun r => ew (μ.1 12 r) x) + ew (μ.1 20 0) x := fun x => by rw [h.regs]; exact (sm_pos (f := fun r => ew (σ.1 13 r) x) (n := 7)).symm
  constructor
  · intro hX o h4 ho xo hu
    rcases hX o h4 ho xo ((h.2.1 o ho).mp hu) with ⟨i, hi, xi, hp⟩ | q
    · exact Or.inl ⟨i, hi, xi, by rw [(h.2.2.1 i hi (hl i hi xi)).cnt1 (ix_le (hg.2.2.2.1 i hi).2)]; exact hp⟩
    · exact Or.inr ((hr o).mp q)
  · intro hX o h4 ho xo hu
    rcases hX o h4 ho xo ((h.2.1 o ho).mpr hu) with ⟨i, hi, xi, hp⟩ | q
    · exact Or.inl ⟨i, hi, xi, by rw [(h.2.2.1 i hi (hl i hi xi)).cnt1 (ix_le (hg.2.2.2.1 i hi).2)] at hp; exact hp⟩
    · exact Or.inr ((hr o).mpr q)
theorem stkL_ne {n : Nat} : ∀ {k : Nat} {σ : SS} {a : Nat}, a ≠ 5 → (stickL n k σ).1 a = σ.1 a := by
  induction n with
  | zero => intro k σ a _; rfl
  | succ n ih =>
    intro k σ a h
    unfold stickL
    rw [ih h]
    split
    · rfl
    · split
      · rfl
      · exact sA_ne σ h _ _
theorem stickL_2 {n : Nat} : ∀ {k : Nat} {σ : SS}, (stickL n k σ).2 = σ.2 := by
  induction n with
  | zero => intro k σ; rfl
  | succ n ih =>
    intro k σ
    unfold stickL
    rw [ih]
    split
    · rfl
    · split <;> rfl
theorem stickL_5 {n : Nat} : ∀ {k : Nat} {σ : SS} {o : Nat}, k + n ≤ 28 → (stickL n k σ).1 5 o = if k ≤ o ∧ o < k + n ∧ ¬ σ.1 4 o = 0 ∧ ¬ σ.1 11 o < 6 then 1 else σ.1 5 o := by
  induction n with
  | zero => intro k σ o _; rw [if_neg (by omega)]; rfl
  | succ n ih =>
    intro k σ o hk
    unfold stickL
    rw [ih (by omega), ix_nI (by omega)]
    have h4 : ∀ a, a ≠ 5 → (if σ.1 4 k = 0 then σ else if σ.1 11 k < 6 then σ else sA σ 5 k 1).1 a = σ.1 a := fun a ha => by
      split
      · rfl
      · split
        · rfl
        · exact sA_ne σ ha _ _
    rw [h4 4 (by decide), h4 11 (by decide)]
    by_cases q : o = k
    · subst q
      rw [if_neg (by omega)]
      by_cases e1 : σ.1 4 o = 0
      · rw [if_pos e1, if_neg (fun z => z.2.2.1 e1)]
      · rw [if_neg e1]
        by_cases e2 : σ.1 11 o < 6
        · rw [if_pos e2, if_neg (fun z => z.2.2.2 e2)]
        · rw [if_neg e2, if_pos ⟨Nat.le_refl _, by omega, e1, e2⟩, sA_eq, pk_us]
    · have h5 : (if σ.1 4 k = 0 then σ else if σ.1 11 k < 6 then σ else sA σ 5 k 1).1 5 o = σ.1 5 o := by
        split
        · rfl
        · split
          · rfl
          · rw [sA_eq, pk_un q]
      rw [h5]
      by_cases r : k + 1 ≤ o ∧ o < k + 1 + n ∧ ¬ σ.1 4 o = 0 ∧ ¬ σ.1 11 o < 6
      · rw [if_pos r, if_pos ⟨by omega, by omega, r.2.2⟩]
      · rw [if_neg r, if_neg (fun z => r ⟨by omega, by omega, z.2.2⟩)]
theorem stick_ne (σ : SS) {a : Nat} (h : a ≠ 5) : (stick σ).1 a = σ.1 a := by unfold stick; exact stkL_ne h
theorem stick_2 (σ : SS) : (stick σ).2 = σ.2 := by unfold stick; exact stickL_2
theorem stick_5 (σ : SS) {o : Nat} (ho : o < 28) : (stick σ).1 5 o = if ¬ σ.1 4 o = 0 ∧ ¬ σ.1 11 o < 6 then 1 else σ.1 5 o := by
  unfold stick
  rw [stickL_5 (by omega)]
  by_cases r : ¬ σ.1 4 o = 0 ∧ ¬ σ.1 11 o < 6
  · rw [if_pos r, if_pos ⟨Nat.zero_le _, by omega, r⟩]
  · rw [if_neg r, if_neg (fun z => r z.2.2)]
theorem skL_ne {n : Nat} : ∀ {k : Nat} {σ : SS} {a : Nat}, a ≠ 6 → (skL n k σ).1 a = σ.1 a := by
  induction n with
  | zero => intro k σ a _; rfl
  | succ n ih => intro k σ a h; unfold skL; rw [ih h, sA_ne σ h]
theorem skL_2 {n : Nat} : ∀ {k : Nat} {σ : SS}, (skL n k σ).2 = σ.2 := by
  induction n with
  | zero => intro k σ; rfl
  | succ n ih => intro k σ; unfold skL; rw [ih, sA_2]
theorem skL_6 {n : Nat} : ∀ {k : Nat} {σ : SS} {o : Nat}, k + n ≤ 28 → (skL n k σ).1 6 o = if k ≤ o ∧ o < k + n then skv σ (nI o) else σ.1 6 o := by
  induction n with
  | zero => intro k σ o _; rw [if_neg (by omega)]; rfl
  | succ n ih =>
    intro k σ o hk
    unfold skL
    rw [ih (by omega), ix_nI (by omega)]
    by_cases q : o = k
    · subst q
      rw [if_neg (by omega), if_pos (by omega), sA_eq, pk_us]
    · have hv : k + 1 ≤ o → o < 28 → skv (sA σ 6 k (skv σ (nI k))) (nI o) = skv σ (nI o) := fun h1 h2 => by
        unfold skv
        rw [ix_nI (show o < 2 ^ 31 by omega), sA_ne _ (show (1 : Nat) ≠ 6 by decide), sA_ne _ (show (7 : Nat) ≠ 6 by decide), sA_eq, pk_un q]
      by_cases r : k + 1 ≤ o ∧ o < k + 1 + n
      · rw [if_pos r, if_pos (by omega), hv r.1 (by omega)]
      · rw [if_neg r, if_neg (by omega), sA_eq, pk_un q]
theorem lt6 {t : Nat} (h : t < 2 ^ 31) : nI t < 6 ↔ t < 6 := by rw [show (6 : Int32) = nI 6 from rfl, nI_ltI h (by decide)]
/-- all that settle keeps of the class: the rest is given back -/
theorem settle_Sbt {σ : SS} (hg : RG σ) (hz : Za σ) (hc : HC σ) (h0 : ¬ σ.1 4 0 = 0) : Sbt σ (settleL 28 σ 1) ∧ HC (settleL 28 σ 1) ∧ Fin0 (settleL 28 σ 1) ∧ ∀ X : Nat → Prop, Gd σ X → (∀ i, i < 28 → X i → ¬ σ.1 4 i = 0) → ∀ i, i < 28 → X i → ¬ (settleL 28 σ 1).1 4 i = 0 := by
  have key : ∀ X : Nat → Prop, Gd σ X → (∀ i, i < 28 → X i → ¬ σ.1 4 i = 0) → Sbt σ (settleL 28 σ 1) ∧ HC (settleL 28 σ 1) ∧ (∀ i, i < 28 → X i → ¬ (settleL 28 σ 1).1 4 i = 0) ∧ Fin0 (settleL 28 σ 1) := fun X hX hl =>
    settleL_spec hg hX (by have := cntL_le (σ.1 4) 28; omega) h0 (by decide) hg hz hc (Sbt.rf σ) hl
  obtain ⟨b1, b2, _, b4⟩ := key (fun _ => False) (fun o _ _ h => absurd h id) (fun i _ h => absurd h id)
  exact ⟨b1, b2, b4, fun X hX hl => (key X hX hl).2.2.1⟩
theorem settleM_SbM {μ : SS} (hg : RGm μ) : SbM μ (seL 30 μ 1) ∧ RGm (seL 30 μ 1) ∧ FinM (seL 30 μ 1) ∧ ∀ X : Nat → Prop, GdM μ X → (∀ i, i < 28 → X i → ¬ μ.1 1 i = 0) → ∀ i, i < 28 → X i → ¬ (seL 30 μ 1).1 1 i = 0 := by
  have key : ∀ X : Nat → Prop, GdM μ X → (∀ i, i < 28 → X i → ¬ μ.1 1 i = 0) → SbM μ (seL 30 μ 1) ∧ RGm (seL 30 μ 1) ∧ (∀ i, i < 28 → X i → ¬ (seL 30 μ 1).1 1 i = 0) ∧ FinM (seL 30 μ 1) := fun X hX hl =>
    seL_spec hX (by have := cntL_le (μ.1 1) 28; omega) (by decide) hg (SbM.rf μ) hl
  obtain ⟨b1, b2, _, b4⟩ := key (fun _ => False) (fun o _ _ h => absurd h id) (fun i _ h => absurd h id)
  exact ⟨b1, b2, b4, fun X hX hl => (key X hX hl).2.2.1⟩
theorem FinM.gd {μ0 μ : SS} (h : FinM μ) (hs : SbM μ0 μ) : GdM μ0 (fun i => ¬ μ.1 1 i = 0) := by
  intro o h4 ho hx hu
  have hp := h.1 o h4 ho hx (by rw [hs.2.1 6 (by decide)]; exact hu)
  unfold talM at hp
  rw [hs.2.1 12 (by decide), hs.2.1 20 (by decide)] at hp
  by_cases h1 : 0 < sm 28 (fun i => if μ.1 1 i = 0 then 0 else c1M μ i o)
  · obtain ⟨i, hi, q⟩ := sm_pos.mp h1
    have q2 : 0 < (if μ.1 1 i = 0 then 0 else c1M μ i o) := q
    by_cases li : μ.1 1 i = 0
    · rw [if_pos li] at q2; omega
    · rw [if_neg li, hs.c1] at q2
      exact Or.inl ⟨i, hi, li, q2⟩
  · exact Or.inr (by omega)
/-- the two sides give back the same -/
theorem settle_live {σ μ : SS} (h : Rr σ μ) (hg : RG σ) (hz : Za σ) (hc : HC σ) (h0 : ¬ σ.1 4 0 = 0) (hm : RGm μ) {o : Nat} (ho : o < 28) : (seL 30 μ 1).1 1 o = 0 ↔ (settleL 28 σ 1).1 4 o = 0 := by
  obtain ⟨a1, a2, a3, a4⟩ := settle_Sbt hg hz hc h0
  obtain ⟨b1, b2, b3, b4⟩ := settleM_SbM hm
  have la : ∀ i, i < 28 → ¬ (settleL 28 σ 1).1 4 i = 0 → ¬ σ.1 4 i = 0 := fun i hi q r => q ((a1.live hi q).1.trans r)
  have lb : ∀ i, i < 28 → ¬ (seL 30 μ 1).1 1 i = 0 → ¬ σ.1 4 i = 0 := fun i hi q r => by
    rcases b1.1 i hi with e | e
    · exact q (e.trans ((h.1 i hi).mpr r))
    · exact q e.1
  have ga := a3.gd hg a1
  have gb := b3.gd b1
  constructor
  · intro e
    refine Classical.byContradiction (fun q => ?_)
    exact b4 _ ((h.gd hg la).mp ga) (fun i hi x r => la i hi x ((h.1 i hi).mp r)) o ho q e
  · intro e
    refine Classical.byContradiction (fun q => ?_)
    exact a4 _ ((h.gd hg lb).mpr gb) lb o ho q e
theorem Rl_Kept {σ τ μ υ : SS} {o : Nat} (h : Rl σ μ o) (k : Kept σ τ o) (h7 : τ.1 7 = σ.1 7) (h9 : τ.1 9 = σ.1 9) (hm : ∀ a, a = 2 ∨ a = 3 ∨ a = 4 ∨ a = 5 ∨ a = 8 ∨ a = 11 → υ.1 a = μ.1 a) : Rl τ υ o := by
  unfold Rl srt
  rw [hm 2 (by omega), hm 3 (by omega), hm 4 (by omega), hm 5 (by omega), hm 8 (by omega), hm 11 (by omega), h7, h9, k.2.2.1, k.2.2.2.1, k.2.2.2.2.1]
  exact ⟨h.1, h.2.1, fun j hj => by rw [k.2.2.2.2.2 j hj]; exact h.2.2.1 j hj, h.2.2.2.1, h.2.2.2.2.1, h.2.2.2.2.2⟩
theorem settle_ne (σ : SS) {a : Nat} (h : a ≠ 5) : (settle σ).1 a = (settleL 28 σ 1).1 a := by unfold settle; exact stick_ne _ h
theorem settle_2 (σ : SS) : (settle σ).2 = (settleL 28 σ 1).2 := by unfold settle; exact stick_2 _
theorem settleM_ne (σ : SS) {a : Nat} (h : a ≠ 6) : (settleM σ).1 a = (seL 30 σ 1).1 a := by unfold settleM; exact skL_ne h
theorem settleM_2 (σ : SS) : (settleM σ).2 = (seL 30 σ 1).2 := by unfold settleM; exact skL_2
theorem Rc_same {σ τ μ υ : SS} (h : Rc σ μ) (h1 : τ.1 16 = σ.1 16) (h2 : τ.2.2 = σ.2.2) (h3 : υ.1 9 = μ.1 9) (h4 : υ.1 10 = μ.1 10) : Rc τ υ := by
  unfold Rc
  rw [h1, h2, h3, h4]
  exact h
/-- what isn't alive is clean -/
def Zd (σ : SS) : Prop := ∀ o, o < 28 → σ.1 4 o = 0 → σ.1 5 o = 0 ∧ σ.1 6 o = 0 ∧ σ.1 8 o = 0 ∧ σ.1 10 o = 0
theorem Zd_Sbt {σ τ : SS} (h : Zd σ) (hs : Sbt σ τ) : Zd τ := by
  intro o ho hd
  rcases hs.1 o ho with k | ⟨g, _, _⟩
  · have := h o ho (k.1.symm.trans hd)
    exact ⟨k.2.1.trans this.1, k.2.2.1.trans this.2.1, k.2.2.2.1.trans this.2.2.1, k.2.2.2.2.1.trans this.2.2.2⟩
  · exact ⟨g.2.1, g.2.2.1, g.2.2.2.1, g.2.2.2.2.1⟩
theorem tally_stick (σ : SS) (x : Nat) : tally (stick σ) x = tally σ x := by
  unfold tally tal
  rw [stick_ne σ (show (4 : Nat) ≠ 5 by decide), stick_ne σ (show (13 : Nat) ≠ 5 by decide)]
  have hc : ∀ i, c1 (stick σ) i x = c1 σ i x := fun i => by
    unfold c1
    rw [stick_ne σ (show (7 : Nat) ≠ 5 by decide), stick_ne σ (show (8 : Nat) ≠ 5 by decide), stick_2]
  simp only [hc]
theorem HC_stick {σ : SS} (h : HC σ) : HC (stick σ) := fun o ho => by rw [stick_ne σ (by decide), tally_stick]; exact h o ho
/-- settling keeps the two sides alike -/
theorem Rr_settle {σ μ : SS} (h : Rr σ μ) (hg : RG σ) (hz : Za σ) (hd : Zd σ) (hc : HC σ) (h0 : ¬ σ.1 4 0 = 0) (hm : RGm μ) : Rr (settle σ) (settleM μ) := by
  obtain ⟨a1, a2, a3, a4⟩ := settle_Sbt hg hz hc h0
  obtain ⟨b1, b2, b3, b4⟩ := settleM_SbM hm
  have hgs : RG (settleL 28 σ 1) := RG_settleL hg
  have hl := fun o (ho : o < 28) => settle_live h hg hz hc h0 hm ho
  have k3 : ∀ o, o < 28 → ¬ (settleL 28 σ 1).1 4 o = 0 → Rl (settleL 28 σ 1) (seL 30 μ 1) o := fun o ho lo =>
    Rl_Kept (h.2.2.1 o ho (fun q => lo ((a1.live ho lo).1.trans q))) (a1.live ho lo) (a1.2.1 7 (by decide)) (a1.2.1 9 (by decide)) (fun a ha => b1.2.1 a (by omega))
  have k4 : ∀ r, r < 6 → (seL 30 μ 1).1 12 r = (settleL 28 σ 1).1 13 r := fun r hr => by rw [b1.2.1 12 (by decide), a1.2.1 13 (by decide)]; exact h.2.2.2.1 r hr
  have k5 : (seL 30 μ 1).1 20 0 = (settleL 28 σ 1).1 13 6 := by rw [b1.2.1 20 (by decide), a1.2.1 13 (by decide)]; exact h.2.2.2.2.1
  refine ⟨fun o ho => ?_, fun o ho => ?_, fun o ho lo => ?_, fun r hr => ?_, ?_, ?_, ?_⟩
  · rw [settleM_ne μ (by decide), settle_ne σ (by decide)]; exact hl o ho
  · have e1 : (settleM μ).1 6 o = skv (seL 30 μ 1) (nI o) := by unfold settleM; rw [skL_6 (by omega), if_pos (by omega)]
    have e2 : (settle σ).1 5 o = if ¬ (settleL 28 σ 1).1 4 o = 0 ∧ ¬ (settleL 28 σ 1).1 11 o < 6 then 1 else (settleL 28 σ 1).1 5 o := by unfold settle; exact stick_5 _ ho
    rw [e1, e2]
    unfold skv
    rw [ix_nI (show o < 2 ^ 31 by omega)]
    by_cases q : (settleL 28 σ 1).1 4 o = 0
    · rw [if_pos ((hl o ho).mpr q), if_neg (fun z => z.1 q), (Zd_Sbt hd a1 o ho q).1]
    · have hk := a1.live ho q
      have ht : (seL 30 μ 1).1 7 o = (settleL 28 σ 1).1 11 o := by rw [b3.2 o ho, a2 o ho, tal_eq hl k3 k4 k5 hgs]
      have hs : (seL 30 μ 1).1 6 o = 0 ↔ (settleL 28 σ 1).1 5 o = 0 := by rw [b1.2.1 6 (by decide), hk.2.1]; exact h.2.1 o ho
      rw [if_neg (fun z => q ((hl o ho).mp z)), ht]
      by_cases r : (settleL 28 σ 1).1 5 o = 0
      · rw [if_pos (hs.mpr r)]
        by_cases w : (settleL 28 σ 1).1 11 o < 6
        · rw [if_pos w, if_neg (fun z => z.2 w), r]
        · rw [if_neg w, if_pos ⟨q, w⟩]
      · rw [if_neg (fun z => r (hs.mp z))]
        by_cases w : (settleL 28 σ 1).1 11 o < 6
        · rw [if_neg (fun z => z.2 w)]; exact ⟨fun z => absurd z (by decide), fun z => absurd z r⟩
        · rw [if_pos ⟨q, w⟩]
  · rw [settle_ne σ (by decide)] at lo
    have k := k3 o ho lo
    unfold Rl srt at k ⊢
    rw [settle_2, settle_ne σ (show (7 : Nat) ≠ 5 by decide), settle_ne σ (show (8 : Nat) ≠ 5 by decide), settle_ne σ (show (6 : Nat) ≠ 5 by decide), settle_ne σ (show (9 : Nat) ≠ 5 by decide), settle_ne σ (show (10 : Nat) ≠ 5 by decide), settleM_ne μ (show (2 : Nat) ≠ 6 by decide), settleM_ne μ (show (3 : Nat) ≠ 6 by decide), settleM_ne μ (show (4 : Nat) ≠ 6 by decide), settleM_ne μ (show (5 : Nat) ≠ 6 by decide), settleM_ne μ (show (8 : Nat) ≠ 6 by decide), settleM_ne μ (show (11 : Nat) ≠ 6 by decide)]
    exact k
  · rw [settleM_ne μ (by decide), settle_ne σ (by decide)]; exact k4 r hr
  · rw [settleM_ne μ (by decide), settle_ne σ (by decide)]; exact k5
  · rw [settleM_ne μ (by decide), settle_ne σ (by decide), b1.2.1 21 (by decide), a1.2.1 21 (by decide)]; exact h.2.2.2.2.2.1
  · exact Rc_same h.2.2.2.2.2.2 ((settle_ne σ (by decide)).trans (a1.2.1 16 (by decide))) (by rw [settle_2]; exact a1.2.2) ((settleM_ne μ (by decide)).trans (b1.2.1 9 (by decide))) ((settleM_ne μ (by decide)).trans (b1.2.1 10 (by decide)))
