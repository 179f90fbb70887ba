/-! sweeping alike -/
def gnL : Nat → Nat → (Nat → Int32) → (Nat → Int32) → Nat
  | 0, _, _, _ => 0
  | n + 1, k, L, M => (if L k = 0 then 0 else if M k = 0 then 1 else 0) + gnL n (k + 1) L M
theorem gnL_congr {L M L2 M2 : Nat → Int32} : ∀ {n k : Nat}, (∀ o, k ≤ o → o < k + n → ((L o = 0 ↔ L2 o = 0) ∧ (M o = 0 ↔ M2 o = 0))) → gnL n k L M = gnL n k L2 M2 := by
  intro n
  induction n with
  | zero => intro k _; rfl
  | succ n ih =>
    intro k h
    unfold gnL
    rw [ih (fun o h1 h2 => h o (by omega) (by omega))]
    have := h k (Nat.le_refl _) (by omega)
    simp only [this.1, this.2]
section SWP
variable {σ τ μ : SS}
theorem unrL_spec : ∀ {n k : Nat} {σ : SS} {a : Int32}, 4 ≤ k → k + n = 28 → RG σ → Za σ → HC σ →
    Sbt σ (unrL n k σ a).1 ∧ HC (unrL n k σ a).1 ∧ RG (unrL n k σ a).1 ∧ (∀ o, o < 28 → ((unrL n k σ a).1.1 4 o = 0 ↔ (σ.1 4 o = 0 ∨ (k ≤ o ∧ σ.1 14 o = 0)))) ∧ (unrL n k σ a).2 = a + nI (gnL n k (σ.1 4) (σ.1 14)) := by
  intro n
  induction n with
  | zero => intro k σ a h4 hk hg hz hc; exact ⟨Sbt.rf σ, hc, hg, fun o ho => ⟨fun q => Or.inl q, fun q => q.elim id (fun z => by omega)⟩, (Int32.add_zero _).symm⟩
  | succ n ih =>
    intro k σ a h4 hk hg hz hc
    unfold unrL gnL
    rw [ix_nI (show k < 2 ^ 31 by omega)]
    by_cases e1 : σ.1 4 k = 0
    · rw [if_pos e1, if_pos e1]
      obtain ⟨a1, a2, a3, a4, a5⟩ := ih (k := k + 1) (a := a) (by omega) (by omega) hg hz hc
      refine ⟨a1, a2, a3, fun o ho => ?_, by rw [a5, Nat.zero_add]⟩
      rw [a4 o ho]
      constructor
      · rintro (q | ⟨q, r⟩)
        · exact Or.inl q
        · exact Or.inr ⟨by omega, r⟩
      · rintro (q | ⟨q, r⟩)
        · exact Or.inl q
        · by_cases z : o = k
          · left; rw [z]; exact e1
          · exact Or.inr ⟨by omega, r⟩
    · rw [if_neg e1, if_neg e1]
      by_cases e2 : σ.1 14 k = 0
      · rw [if_pos e2, if_pos e2]
        have hs := gb_Sbt hg hz h4 (show k < 28 by omega) e1
        obtain ⟨a1, a2, a3, a4, a5⟩ := ih (k := k + 1) (σ := giveBack σ (nI k)) (a := a + 1) (by omega) (by omega) (RG_giveBack hg (nI k)) (Za_Sbt hz hs) (HC_gb hg hz hc h4 (by omega) e1)
        have g4 : (giveBack σ (nI k)).1 4 = upd (σ.1 4) k 0 := by rw [gb_row σ _ (by omega), ix_nI (by omega)]
        have g14 : (giveBack σ (nI k)).1 14 = σ.1 14 := hs.2.1 14 (by decide)
        refine ⟨hs.tr a1, a2, a3, fun o ho => ?_, ?_⟩
        · rw [a4 o ho, g4, g14]
          by_cases z : o = k
          · subst z
            rw [pk_us]
            exact ⟨fun _ => Or.inr ⟨Nat.le_refl _, e2⟩, fun _ => Or.inl rfl⟩
          · rw [pk_un z]
            constructor
            · rintro (q | ⟨q, r⟩)
              · exact Or.inl q
              · exact Or.inr ⟨by omega, r⟩
            · rintro (q | ⟨q, r⟩)
              · exact Or.inl q
              · exact Or.inr ⟨by omega, r⟩
        · rw [a5, g4, g14, gnL_congr (L2 := σ.1 4) (M2 := σ.1 14) (fun o h1 h2 => by rw [pk_un (by omega)]; exact ⟨Iff.rfl, Iff.rfl⟩), ← nI_add, ← Int32.add_assoc]
          rfl
      · rw [if_neg e2, if_neg e2]
        obtain ⟨a1, a2, a3, a4, a5⟩ := ih (k := k + 1) (a := a) (by omega) (by omega) hg hz hc
        refine ⟨a1, a2, a3, fun o ho => ?_, by rw [a5, Nat.zero_add]⟩
        rw [a4 o ho]
        constructor
        · rintro (q | ⟨q, r⟩)
          · exact Or.inl q
          · exact Or.inr ⟨by omega, r⟩
        · rintro (q | ⟨q, r⟩)
          · exact Or.inl q
          · by_cases z : o = k
            · exact absurd (by rw [← z]; exact r) e2
            · exact Or.inr ⟨by omega, r⟩
theorem sw5L_spec : ∀ {n k : Nat} {μ : SS} {g : Int32}, k + n = 28 →
    (∀ a, a ≠ 1 → a ≠ 6 → (sw5L n k μ g).1.1 a = μ.1 a) ∧ (sw5L n k μ g).1.2 = μ.2 ∧ (∀ o, o < 28 → ((sw5L n k μ g).1.1 1 o = 0 ↔ (μ.1 1 o = 0 ∨ (k ≤ o ∧ μ.1 13 o = 0)))) ∧ (∀ o, o < 28 → (sw5L n k μ g).1.1 6 o = if k ≤ o then 0 else μ.1 6 o) ∧ (sw5L n k μ g).2 = g + nI (gnL n k (μ.1 1) (μ.1 13)) := by
  intro n
  induction n with
  | zero => intro k μ g hk; exact ⟨fun _ _ _ => rfl, rfl, fun o ho => ⟨fun q => Or.inl q, fun q => q.elim id (fun z => by omega)⟩, fun o ho => by rw [if_neg (by omega)]; rfl, (Int32.add_zero _).symm⟩
  | succ n ih =>
    intro k μ g hk
    unfold sw5L gnL
    have ek : ix (nI k) = k := ix_nI (by omega)
    obtain ⟨a1, a2, a3, a4, a5⟩ := ih (k := k + 1) (μ := sw5b μ (nI k)) (g := sw5a μ (nI k) g) (by omega)
    have b1 : (sw5b μ (nI k)).1 1 = upd (μ.1 1) k (if μ.1 1 k = 0 then 0 else if μ.1 13 k = 0 then 0 else 1) := by unfold sw5b; rw [sA_ne _ (by decide), sA_eq, ek]
    have b6 : (sw5b μ (nI k)).1 6 = upd (μ.1 6) k 0 := by unfold sw5b; rw [sA_eq, sA_ne _ (by decide), ek]
    have bn : ∀ a, a ≠ 1 → a ≠ 6 → (sw5b μ (nI k)).1 a = μ.1 a := fun a h1 h2 => by unfold sw5b; rw [sA_ne _ h2, sA_ne _ h1]
    refine ⟨fun a h1 h2 => (a1 a h1 h2).trans (bn a h1 h2), a2.trans rfl, fun o ho => ?_, fun o ho => ?_, ?_⟩
    · rw [a3 o ho, b1, bn 13 (by decide) (by decide)]
      by_cases z : o = k
      · subst z
        rw [pk_us]
        by_cases e1 : μ.1 1 o = 0
        · rw [if_pos e1]; exact ⟨fun _ => Or.inl e1, fun _ => Or.inl rfl⟩
        · rw [if_neg e1]
          by_cases e2 : μ.1 13 o = 0
          · rw [if_pos e2]; exact ⟨fun _ => Or.inr ⟨Nat.le_refl _, e2⟩, fun _ => Or.inl rfl⟩
          · rw [if_neg e2]
            exact ⟨fun q => q.elim (fun z => absurd z (by decide)) (fun z => by omega), fun q => q.elim (fun z => absurd z e1) (fun z => absurd z.2 e2)⟩
      · rw [pk_un z]
        constructor
        · rintro (q | ⟨q, r⟩)
          · exact Or.inl q
          · exact Or.inr ⟨by omega, r⟩
        · rintro (q | ⟨q, r⟩)
          · exact Or.inl q
          · exact Or.inr ⟨by omega, r⟩
    · rw [a4 o ho, b6]
      by_cases z : o = k
      · subst z; rw [if_neg (show ¬ o + 1 ≤ o by omega), pk_us, if_pos (Nat.le_refl _)]
      · rw [pk_un z]
        by_cases r : k + 1 ≤ o
        · rw [if_pos r, if_pos (show k ≤ o by omega)]
        · rw [if_neg r, if_neg (show ¬ k ≤ o by omega)]
    · rw [a5, b1, bn 13 (by decide) (by decide), gnL_congr (L2 := μ.1 1) (M2 := μ.1 13) (fun o h1 h2 => by rw [pk_un (by omega)]; exact ⟨Iff.rfl, Iff.rfl⟩)]
      unfold sw5a
      rw [ek]
      by_cases e1 : μ.1 1 k = 0
      · rw [if_pos e1, if_pos e1, Nat.zero_add]
      · rw [if_neg e1, if_neg e1]
        by_cases e2 : μ.1 13 k = 0
        · rw [if_pos e2, if_pos e2, ← nI_add, ← Int32.add_assoc]; rfl
        · rw [if_neg e2, if_neg e2, Nat.zero_add]
theorem usL_ne {n : Nat} : ∀ {k : Nat} {σ : SS} {a : Nat}, a ≠ 5 → (usL n k σ).1 a = σ.1 a := by
  induction n with
  | zero => intro k σ a _; rfl
  | succ n ih => intro k σ a h; unfold usL; rw [ih h, sA_ne σ h]
theorem usL_2 {n : Nat} : ∀ {k : Nat} {σ : SS}, (usL n k σ).2 = σ.2 := by
  induction n with
  | zero => intro k σ; rfl
  | succ n ih => intro k σ; unfold usL; rw [ih, sA_2]
theorem usL_5 {n : Nat} : ∀ {k : Nat} {σ : SS} {o : Nat}, k + n = 28 → o < 28 → (k ≤ o ∨ σ.1 5 o = 0) → (usL n k σ).1 5 o = 0 := by
  induction n with
  | zero => intro k σ o hk ho h; exact h.resolve_left (by omega)
  | succ n ih =>
    intro k σ o hk ho h
    unfold usL
    apply ih (by omega) ho
    by_cases e : o = k
    · right; rw [sA_eq, ix_nI (by omega), e, pk_us]
    · rcases h with h | h
      · left; omega
      · right; rw [sA_eq, ix_nI (by omega), pk_un e]; exact h
/-- rows that IN doesn't look at -/
theorem IN_rows (h : IN σ) (e : ∀ a, a = 4 ∨ a = 6 ∨ a = 7 ∨ a = 8 ∨ a = 9 ∨ a = 10 ∨ a = 11 ∨ a = 13 ∨ a = 16 → τ.1 a = σ.1 a) (e2 : τ.2 = σ.2) (h5 : ∀ o, o < 28 → σ.1 4 o = 0 → τ.1 5 o = 0) : IN τ := by
  have hsup : ∀ n a, supN τ n a = supN σ n a := fun n a => (supN_eq (σ := σ) (τ := τ) (P := fun _ => True) (fun a _ => ⟨by rw [e2], trivial⟩) n a trivial).1
  refine ⟨?_, ?_, ?_, fun o ho hd => ?_, ?_, ?_, ?_, ?_, ?_, ?_⟩
  · unfold RG; rw [e 7 (by omega), e 8 (by omega), e 9 (by omega), e 10 (by omega), e 13 (by omega), e2]; exact h.rg
  · unfold BZ; rw [e 16 (by omega)]; exact h.bz
  · unfold Za; rw [e 8 (by omega), e2]; exact h.za
  · rw [e 4 (by omega)] at hd
    rw [e 6 (by omega), e 8 (by omega), e 10 (by omega)]
    exact ⟨h5 o ho hd, (h.zd o ho hd).2⟩
  · unfold HC tally tal c1; rw [e 11 (by omega), e 4 (by omega), e 7 (by omega), e 8 (by omega), e 13 (by omega), e2]; exact h.hc
  · unfold F4; rw [e 4 (by omega), e 6 (by omega), e 7 (by omega), e 8 (by omega)]; exact h.f4
  · unfold CL CW Wd; rw [e 4 (by omega), e 6 (by omega), e 7 (by omega), e 13 (by omega), e2]; exact h.cl
  · unfold KC CW; rw [e 6 (by omega), e 7 (by omega), e 8 (by omega), e2]; exact h.kc
  · unfold KX KXo XN CW; rw [e 4 (by omega), e 6 (by omega), e 7 (by omega), e 8 (by omega), e 10 (by omega), e2]; exact h.kx
  · unfold SC; rw [e 6 (by omega)]; simp only [hsup]; exact h.sc
theorem AX_rows (h : AX σ) (e : ∀ a, a = 4 ∨ a = 7 ∨ a = 10 ∨ a = 13 → τ.1 a = σ.1 a) (e2 : τ.2 = σ.2) : AX τ := by
  have hsup : ∀ n a, supN τ n a = supN σ n a := fun n a => (supN_eq (σ := σ) (τ := τ) (P := fun _ => True) (fun a _ => ⟨by rw [e2], trivial⟩) n a trivial).1
  unfold AX XN; rw [e 4 (by omega), e 7 (by omega), e 10 (by omega), e 13 (by omega)]; simp only [hsup]; exact h
theorem tally_rows (e : ∀ a, a = 4 ∨ a = 7 ∨ a = 8 ∨ a = 13 → τ.1 a = σ.1 a) (e2 : τ.2 = σ.2) (x : Nat) : tally τ x = tally σ x := by
  unfold tally tal c1; rw [e 4 (by omega), e 7 (by omega), e 8 (by omega), e 13 (by omega), e2]
/-- the reached are the same on both sides -/
theorem reach_eq (h : Rr σ μ) (hi : IN σ) (hm : RGm μ) : (∀ i, i < 28 → ¬ (markReached σ).1 14 i = 0 → ¬ σ.1 4 i = 0) ∧ ∀ i, i < 28 → ((sw2M μ).1 13 i = 0 ↔ (markReached σ).1 14 i = 0) := by
  obtain ⟨c1, c2, c3, c4, c5⟩ := mark_spec hi.rg
  obtain ⟨d1, d2, d3, d4, d5⟩ := markM_spec hm
  have lvR : Rts σ (fun i => ¬ σ.1 4 i = 0) := ⟨fun o ho => (hi.f4.1 o ho).1, fun r hr hw => (hi.cl.2.2 r hr).live (vp_in_iff.mpr ⟨hi.rg.2.1 r hr, hw⟩)⟩
  have lvC : Cls σ (fun i => ¬ σ.1 4 i = 0) := fun o ho hl => by
    have q := hi.cl.1 o ho hl
    have h15 := ix_le (w := σ.1 8 o) (n := 15) (hi.rg.2.2.2.1 o ho).2
    exact ⟨hi.cl4 (vp_ix q.1) q.2, fun k hk hw => (hi.cl.2.1 o k ho (by omega)).live (vp_in_iff.mpr ⟨hi.rg.1 o k ho (by omega), hw⟩)⟩
  have toR : ∀ X : Nat → Prop, Rts σ X ↔ RtsM μ X := fun X => by
    constructor
    · intro q
      refine ⟨q.1, fun r hr hw => ?_, fun hw => ?_⟩
      · rw [h.2.2.2.1 r hr] at hw ⊢; exact q.2 r (by omega) hw
      · rw [h.2.2.2.2.1] at hw ⊢; exact q.2 6 (by omega) hw
    · intro q
      refine ⟨q.1, fun r hr hw => ?_⟩
      by_cases e : r = 6
      · subst e
        have := q.2.2
        rw [h.2.2.2.2.1] at this
        exact this hw
      · have := q.2.1 r (by omega)
        rw [h.2.2.2.1 r (by omega)] at this
        exact this hw
  have toC : ∀ {o : Nat} {X : Nat → Prop}, o < 28 → ¬ σ.1 4 o = 0 → (Clo σ o X ↔ CloM μ o X) := fun {o X} ho hl => by
    have q := h.2.2.1 o ho hl
    have h15 := ix_le (w := σ.1 8 o) (n := 15) (hi.rg.2.2.2.1 o ho).2
    unfold Clo CloM
    rw [q.1, q.2.1]
    constructor
    · intro z
      refine ⟨z.1, fun k hk hw => ?_⟩
      rw [q.2.2.1 k (by omega)] at hw ⊢; exact z.2 k hk hw
    · intro z
      refine ⟨z.1, fun k hk hw => ?_⟩
      have := z.2 k hk
      rw [q.2.2.1 k (by omega)] at this
      exact this hw
  have sl := c5 _ lvR lvC
  have ml : ∀ i, i < 28 → ¬ (sw2M μ).1 13 i = 0 → ¬ σ.1 4 i = 0 := d5 _ ((toR _).mp lvR) (fun o ho hl => (toC ho hl).mp (lvC o ho hl))
  refine ⟨sl, fun i hi2 => ⟨fun e => ?_, fun e => ?_⟩⟩
  · refine Classical.byContradiction (fun q => ?_)
    have g : ClsM μ (fun i => i < 28 ∧ ¬ (sw2M μ).1 13 i = 0) := fun o ho hr => by
      have z := d4 o ho hr.2
      have q0 := h.2.2.1 o ho (ml o ho hr.2)
      have h15 := ix_le (w := σ.1 8 o) (n := 15) (hi.rg.2.2.2.1 o ho).2
      refine ⟨⟨?_, z.1⟩, fun k hk hw => ⟨?_, z.2 k hk hw⟩⟩
      · rw [q0.1]; have := hi.rg.2.2.1 o ho; have := ix_toInt this.1; omega
      · have := hm.1 (15 * o + k) (by rw [q0.2.1] at hk; omega); have := ix_toInt this; omega
    have key := c5 (fun i => i < 28 ∧ ¬ (sw2M μ).1 13 i = 0) ((toR _).mpr ⟨fun o ho => ⟨by omega, d3.1 o ho⟩, fun r hr hw => ⟨by have := ix_toInt (hm.2.1 r hr); omega, d3.2.1 r hr hw⟩, fun hw => ⟨by have := ix_toInt (vp_nn hm.2.2.2.2.2.2); omega, d3.2.2 hw⟩⟩) (fun o ho hr => (toC ho (ml o ho hr.2)).mpr (g o ho hr))
    exact (key i hi2 q).2 e
  · refine Classical.byContradiction (fun q => ?_)
    have key := d5 (fun i => i < 28 ∧ ¬ (markReached σ).1 14 i = 0) ((toR _).mp ⟨fun o ho => ⟨by omega, c3.1 o ho⟩, fun r hr hw => ⟨by have := ix_toInt (hi.rg.2.1 r hr); omega, c3.2 r hr hw⟩⟩) (fun o ho hr => (toC ho (sl o ho hr.2)).mp (by
      have z := c4 o ho hr.2
      have h15 := ix_le (w := σ.1 8 o) (n := 15) (hi.rg.2.2.2.1 o ho).2
      refine ⟨⟨?_, z.1⟩, fun k hk hw => ⟨?_, z.2 k hk hw⟩⟩
      · have := hi.rg.2.2.1 o ho; have := ix_toInt this.1; omega
      · have := hi.rg.1 o k ho (by omega); have := ix_toInt this; omega))
    exact (key i hi2 q).2 e
theorem s_sweep (h : BIG σ μ) : Same ((unr σ).2, sweepS σ) (sweepM μ) := by
  have hR := h.2.2.2.2.1
  have hi := h.1
  have hm := h.2.2.2.2.2
  obtain ⟨m1, m2, m3, m4, m5⟩ := mark_spec hi.rg
  obtain ⟨d1, d2, d3, d4, d5⟩ := markM_spec hm
  obtain ⟨sl, er⟩ := reach_eq hR hi hm
  obtain ⟨M, hM⟩ : ∃ M, M = markReached σ := ⟨_, rfl⟩
  rw [← hM] at m1 m2 m3 m4 m5 sl er
  have hIM : IN M := IN_rows hi (fun a ha => m1 a (by omega)) m2 (fun o ho hd => by rw [m1 5 (by decide)]; exact (hi.zd o ho hd).1)
  have hAM : AX M := AX_rows h.2.1 (fun a ha => m1 a (by omega)) m2
  obtain ⟨u1, u2, u3, u4, u5⟩ := unrL_spec (n := 24) (k := 4) (a := 0) (by omega) (by omega) hIM.rg hIM.za hIM.hc
  have eu : unrL 24 4 M 0 = unr σ := by unfold unr; rw [hM]
  rw [eu] at u1 u2 u3 u4 u5
  -- what stays is what is reached
  have lv : ∀ o, o < 28 → (¬ (unr σ).1.1 4 o = 0 ↔ ¬ M.1 14 o = 0) := fun o ho => by
    rw [u4 o ho]
    constructor
    · intro q r
      apply q
      by_cases z : 4 ≤ o
      · exact Or.inr ⟨z, r⟩
      · exact absurd r (m3.1 o (by omega))
    · intro q r
      rcases r with r | ⟨_, r⟩
      · rw [m1 4 (by decide)] at r; exact sl o ho q r
      · exact q r
  have hH : Hld M (unr σ).1 := fun x hx hl hw => by
    rw [lv x hx]
    have M7 := m1 7 (by decide)
    have M8 := m1 8 (by decide)
    rcases hw with ⟨i, hi2, li, hp⟩ | ⟨r, hr, hp⟩
    · have ri := (lv i hi2).mp li
      have cc := m4 i hi2 ri
      unfold c1 at hp
      rw [M7, M8, m2] at hp
      by_cases p1 : 0 < ew (σ.1 7 i) x
      · have e := ew_pos.mp p1
        have := cc.1
        rw [e, ix_nI (by omega)] at this
        exact this
      · obtain ⟨k, hk, pk⟩ := sm_pos.mp (show 0 < sm (ix (σ.1 8 i)) (fun k => ew (σ.2.1 i k) x) by omega)
        have e : σ.2.1 i k = nI x := ew_pos.mp pk
        have := cc.2 k hk (by rw [e, nI_toInt (by omega)]; omega)
        rw [e, ix_nI (by omega)] at this
        exact this
    · have e : M.1 13 r = nI x := ew_pos.mp hp
      rw [m1 13 (by decide)] at e
      have := m3.2 r hr (by rw [e, nI_toInt (by omega)]; omega)
      rw [e, ix_nI (by omega)] at this
      exact this
  have hIu : IN (unr σ).1 := IN_Sbt hIM u1 hH u3 u2
  have hAu : AX (unr σ).1 := AX_Sbt hIM hAM u1 hH
  obtain ⟨S, hS⟩ : ∃ S, S = usL 28 0 (unr σ).1 := ⟨_, rfl⟩
  have Sn : ∀ a, a ≠ 5 → S.1 a = (unr σ).1.1 a := fun a ha => by rw [hS, usL_ne ha]
  have S2 : S.2 = (unr σ).1.2 := by rw [hS, usL_2]
  have S5 : ∀ o, o < 28 → S.1 5 o = 0 := fun o ho => by rw [hS]; exact usL_5 (by omega) ho (Or.inl (Nat.zero_le _))
  have hIS : IN S := IN_rows hIu (fun a ha => Sn a (by omega)) S2 (fun o ho _ => S5 o ho)
  have hAS : AX S := AX_rows hAu (fun a ha => Sn a (by omega)) S2
  have tS : ∀ x, tally S x = tally (unr σ).1 x := tally_rows (fun a ha => Sn a (by omega)) S2
  -- every mortal that stays is held
  have hF : Fin0 S := fun o h4 ho hl _ => by
    rw [tS]
    rw [Sn 4 (by decide), lv o ho] at hl
    have hX := m5 (fun i => i < 28 → (i < 4 ∨ (∃ j, j < 28 ∧ ¬ M.1 14 j = 0 ∧ 0 < c1 σ j i) ∨ (∃ r, r < 7 ∧ 0 < ew (σ.1 13 r) i)) ∧ ¬ M.1 14 i = 0) ⟨fun i hi4 _ => ⟨Or.inl hi4, m3.1 i hi4⟩, fun r hr hw _ => ⟨Or.inr (Or.inr ⟨r, hr, ew_self (hi.rg.2.1 r hr)⟩), m3.2 r hr hw⟩⟩ (fun i hi28 hxi => by
      have hri := (hxi hi28).2
      have cc := m4 i hi28 hri
      refine ⟨fun _ => ⟨Or.inr (Or.inl ⟨i, hi28, hri, c1_cls (hi.rg.2.2.1 i hi28).1⟩), cc.1⟩, fun k hk hw _ => ⟨Or.inr (Or.inl ⟨i, hi28, hri, c1_field hk ?_⟩), cc.2 k hk hw⟩⟩
      have h15 := ix_le (w := σ.1 8 i) (n := 15) (hi.rg.2.2.2.1 i hi28).2
      exact hi.rg.1 i k hi28 (by omega)) o ho hl ho
    unfold tally tal
    rcases hX.1 with z | ⟨j, hj, rj, pj⟩ | ⟨r, hr, pr⟩
    · omega
    · have lj := (lv j hj).mpr rj
      have kj := u1.live hj lj
      have e1 : c1 (unr σ).1 j o = c1 σ j o := by
        rw [kj.cnt1 (u1.2.1 7 (by decide)) (ix_le (hIM.rg.2.2.2.1 j hj).2)]
        unfold c1; rw [m1 7 (by decide), m1 8 (by decide), m2]
      have : 0 < sm 28 (fun i => if (unr σ).1.1 4 i = 0 then 0 else c1 (unr σ).1 i o) := sm_pos.mpr ⟨j, hj, by
        show 0 < (if (unr σ).1.1 4 j = 0 then 0 else c1 (unr σ).1 j o)
        rw [if_neg lj, e1]; exact pj⟩
      omega
    · have : 0 < sm 7 (fun r => ew ((unr σ).1.1 13 r) o) := sm_pos.mpr ⟨r, hr, by
        show 0 < ew ((unr σ).1.1 13 r) o
        rw [u1.2.1 13 (by decide), m1 13 (by decide)]; exact pr⟩
      omega
  -- the reference
  obtain ⟨N, hN⟩ : ∃ N, N = sw2M μ := ⟨_, rfl⟩
  rw [← hN] at d1 d2 d3 d4 d5 er
  obtain ⟨w1, w2, w3, w4, w5⟩ := sw5L_spec (n := 28) (k := 0) (μ := N) (g := 0) (by omega)
  have ew5 : sw5L 28 0 N 0 = sw5M μ := by unfold sw5M; rw [hN]
  rw [ew5] at w1 w2 w3 w4 w5
  have hl : ∀ o, o < 28 → ((sw5M μ).1.1 1 o = 0 ↔ S.1 4 o = 0) := fun o ho => by
    rw [w3 o ho, Sn 4 (by decide), d1 1 (by decide)]
    have q := lv o ho
    constructor
    · intro z
      refine Classical.byContradiction (fun y => ?_)
      have ry := q.mp y
      rcases z with z | ⟨_, z⟩
      · exact sl o ho ry ((hR.1 o ho).mp z)
      · exact ry ((er o ho).mp z)
    · intro z
      right
      refine ⟨Nat.zero_le _, (er o ho).mpr (Classical.byContradiction (fun y => q.mpr y z))⟩
  have hRS : Rr S (sw5M μ).1 := by
    refine ⟨hl, fun o ho => ?_, fun o ho lo => ?_, fun r hr => ?_, ?_, ?_, ?_⟩
    · rw [w4 o ho, if_pos (Nat.zero_le _), S5 o ho]
    · rw [Sn 4 (by decide)] at lo
      have k := u1.live ho lo
      have l0 : ¬ σ.1 4 o = 0 := by
        have := gv_live u1 ho lo
        rw [m1 4 (by decide)] at this
        exact this
      have q1 : Rl M μ o := Rl_same (hR.2.2.1 o ho l0) (fun a ha => m1 a (by omega)) m2 (fun _ _ => rfl)
      have q2 : Rl (unr σ).1 (sw5M μ).1 o := Rl_Kept q1 k (u1.2.1 7 (by decide)) (u1.2.1 9 (by decide)) (fun a ha => (w1 a (by omega) (by omega)).trans (d1 a (by omega)))
      exact Rl_same q2 (fun a ha => Sn a (by omega)) S2 (fun _ _ => rfl)
    · rw [w1 12 (by decide) (by decide), d1 12 (by decide), Sn 13 (by decide), u1.2.1 13 (by decide), m1 13 (by decide)]; exact hR.2.2.2.1 r hr
    · rw [w1 20 (by decide) (by decide), d1 20 (by decide), Sn 13 (by decide), u1.2.1 13 (by decide), m1 13 (by decide)]; exact hR.2.2.2.2.1
    · rw [w1 21 (by decide) (by decide), d1 21 (by decide), Sn 21 (by decide), u1.2.1 21 (by decide), m1 21 (by decide)]; exact hR.2.2.2.2.2.1
    · exact Rc_same hR.2.2.2.2.2.2 (by rw [Sn 16 (by decide), u1.2.1 16 (by decide), m1 16 (by decide)]) (by rw [S2, u1.2.2, m2]) (by rw [w1 9 (by decide) (by decide), d1 9 (by decide)]) (by rw [w1 10 (by decide) (by decide), d1 10 (by decide)])
  have hgM : RGm (sw5M μ).1 := RGm_same hm (fun a ha => (w1 a (by omega) (by omega)).trans (d1 a (by omega)))
  have hfin := Rr_settle hRS hIS.rg hIS.za hIS.zd hIS.hc hIS.l0 hgM
  have est : settle S = stick S := by unfold settle; rw [settleL_fin hIS.rg hIS.hc hF]
  rw [est] at hfin
  have hcnt : (unr σ).2 = (sw5M μ).2 := by
    rw [u5, w5]
    have r4 : ∀ o, o < 4 → ¬ N.1 13 o = 0 := fun o ho => fun z => m3.1 o ho ((er o (by omega)).mp z)
    have z : ∀ o, o < 4 → (if N.1 1 o = 0 then 0 else if N.1 13 o = 0 then 1 else 0) = 0 := fun o ho => by
      split
      · rfl
      · rw [if_neg (r4 o ho)]
    have g4 : gnL 28 0 (N.1 1) (N.1 13) = gnL 24 4 (N.1 1) (N.1 13) := by
      rw [show (28 : Nat) = 27 + 1 from rfl, gnL, z 0 (by omega), show (27 : Nat) = 26 + 1 from rfl, gnL, z 1 (by omega), show (26 : Nat) = 25 + 1 from rfl, gnL, z 2 (by omega), show (25 : Nat) = 24 + 1 from rfl, gnL, z 3 (by omega)]
      simp
    rw [g4, gnL_congr (fun o h1 h2 => ⟨?_, ?_⟩)]
    · rw [m1 4 (by decide), d1 1 (by decide)]; exact (hR.1 o (by omega)).symm
    · exact (er o (by omega)).symm
  unfold sweepS sweepM
  rw [hcnt, ← hS]
  refine Same.mk ⟨IN_stick hIS, AX_stick hAS, SE_stick hIS.rg hIS.hc hF, ?_, hfin, RGm_settle hgM⟩
  rw [stick_ne _ (by decide), Sn 21 (by decide), u1.2.1 21 (by decide), m1 21 (by decide)]; exact h.2.2.2.1
end SWP
