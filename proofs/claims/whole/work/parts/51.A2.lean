/-! giving back: what stays, what goes -/
theorem sm_shift {f : Nat → Nat} : ∀ {n : Nat}, sm (n + 1) f = f 0 + sm n (fun j => f (j + 1)) := by
  intro n
  induction n with
  | zero => simp [sm]
  | succ n ih =>
    show sm (n + 1) f + f (n + 1) = f 0 + (sm n (fun j => f (j + 1)) + f (n + 1))
    rw [ih]; omega
theorem sub_nI (x : Int32) (a b : Nat) : x - nI a - nI b = x - nI (a + b) := by
  rw [← nI_add, Int32.sub_eq_add_neg, Int32.sub_eq_add_neg, Int32.sub_eq_add_neg, Int32.neg_add, Int32.sub_eq_add_neg, Int32.add_assoc]
theorem gbL_11 {x : Nat} (hx : x < 28) {o : Int32} (ho : vp_in o 28) : ∀ {n k : Nat} {σ : SS}, RG σ → k + n ≤ 15 → (gbL n k σ o).1 11 x = σ.1 11 x - nI (sm n (fun j => ew (σ.2.1 (ix o) (k + j)) x)) := by
  intro n
  induction n with
  | zero => intro k σ _ _; exact (Int32.sub_zero _).symm
  | succ n ih =>
    intro k σ hg hk
    have hr : 0 ≤ (σ.2.1 (ix o) (ix (nI k))).toInt := hg.grid ho (vp_k (by omega) (by decide))
    unfold gbL
    rw [ih (RG_G (RG_release hg _) _ _ (by decide)) (by omega)]
    show (release σ _).1 11 x - _ = _
    rw [release_11 hr hx, sm_shift, sub_nI, ix_nI (by omega)]
    congr 3
    apply sm_congr
    intro j hj
    show ew ((if ix o = ix o then upd ((release σ _).2.1 (ix o)) k 0 else _) (k + 1 + j)) x = _
    rw [if_pos rfl, pk_un (by omega), release_G, show k + 1 + j = k + (j + 1) by omega]
theorem gbL_G {o : Int32} : ∀ {n k : Nat} {σ : SS} {a b : Nat}, k + n ≤ 15 → (gbL n k σ o).2.1 a b = if a = ix o ∧ k ≤ b ∧ b < k + n then 0 else σ.2.1 a b := by
  intro n
  induction n with
  | zero => intro k σ a b _; rw [if_neg (by omega)]; rfl
  | succ n ih =>
    intro k σ a b hk
    unfold gbL
    rw [ih (by omega)]
    show (if a = ix o ∧ k + 1 ≤ b ∧ b < k + 1 + n then 0 else (if a = ix o then upd ((release σ _).2.1 a) (ix (nI k)) 0 else (release σ _).2.1 a) b) = _
    rw [release_G, ix_nI (by omega)]
    by_cases ha : a = ix o
    · simp only [ha, if_true, true_and]
      unfold upd
      by_cases h1 : b = k
      · simp [h1]
      · by_cases h2 : k + 1 ≤ b ∧ b < k + 1 + n
        · rw [if_pos h2, if_pos (by omega)]
        · rw [if_neg h2, if_neg h1, if_neg (by omega)]
    · simp [ha]
theorem gbL_L {o : Int32} : ∀ {n k : Nat} {σ : SS}, (gbL n k σ o).2.2 = σ.2.2 := by
  intro n
  induction n with
  | zero => intro k σ; rfl
  | succ n ih => intro k σ; unfold gbL; rw [ih]; show (release σ _).2.2 = _; rw [release_G]
def Gone (τ : SS) (o : Nat) : Prop := τ.1 4 o = 0 ∧ τ.1 5 o = 0 ∧ τ.1 6 o = 0 ∧ τ.1 8 o = 0 ∧ τ.1 10 o = 0 ∧ ∀ k, k < 15 → τ.2.1 o k = 0
def Kept (σ τ : SS) (o : Nat) : Prop := τ.1 4 o = σ.1 4 o ∧ τ.1 5 o = σ.1 5 o ∧ τ.1 6 o = σ.1 6 o ∧ τ.1 8 o = σ.1 8 o ∧ τ.1 10 o = σ.1 10 o ∧ ∀ k, k < 15 → τ.2.1 o k = σ.2.1 o k
def Sbt (σ τ : SS) : Prop := (∀ o, o < 28 → Kept σ τ o ∨ (Gone τ o ∧ ¬ σ.1 4 o = 0 ∧ 4 ≤ o)) ∧ (∀ a, a ≠ 4 ∧ a ≠ 5 ∧ a ≠ 6 ∧ a ≠ 8 ∧ a ≠ 10 ∧ a ≠ 11 → τ.1 a = σ.1 a) ∧ τ.2.2 = σ.2.2
theorem Kept.rf (σ : SS) (o : Nat) : Kept σ σ o := ⟨rfl, rfl, rfl, rfl, rfl, fun _ _ => rfl⟩
theorem Sbt.rf (σ : SS) : Sbt σ σ := ⟨fun o _ => Or.inl (Kept.rf σ o), fun _ _ => rfl, rfl⟩
theorem Kept.tr {σ τ υ : SS} {o : Nat} (h : Kept σ τ o) (h2 : Kept τ υ o) : Kept σ υ o :=
  ⟨h2.1.trans h.1, h2.2.1.trans h.2.1, h2.2.2.1.trans h.2.2.1, h2.2.2.2.1.trans h.2.2.2.1, h2.2.2.2.2.1.trans h.2.2.2.2.1, fun k hk => (h2.2.2.2.2.2 k hk).trans (h.2.2.2.2.2 k hk)⟩
theorem Gone.tr {τ υ : SS} {o : Nat} (h : Gone τ o) (h2 : Kept τ υ o) : Gone υ o :=
  ⟨h2.1.trans h.1, h2.2.1.trans h.2.1, h2.2.2.1.trans h.2.2.1, h2.2.2.2.1.trans h.2.2.2.1, h2.2.2.2.2.1.trans h.2.2.2.2.1, fun k hk => (h2.2.2.2.2.2 k hk).trans (h.2.2.2.2.2 k hk)⟩
theorem Sbt.tr {σ τ υ : SS} (h : Sbt σ τ) (h2 : Sbt τ υ) : Sbt σ υ := by
  refine ⟨fun o ho => ?_, fun a ha => (h2.2.1 a ha).trans (h.2.1 a ha), h2.2.2.trans h.2.2⟩
  rcases h.1 o ho with k1 | ⟨g1, l1, m1⟩
  · rcases h2.1 o ho with k2 | ⟨g2, l2, m2⟩
    · exact Or.inl (k1.tr k2)
    · exact Or.inr ⟨g2, fun q => l2 (k1.1.trans q), m2⟩
  · rcases h2.1 o ho with k2 | ⟨g2, l2, m2⟩
    · exact Or.inr ⟨g1.tr k2, l1, m1⟩
    · exact Or.inr ⟨g2, l1, m1⟩
theorem Sbt.live {σ τ : SS} (h : Sbt σ τ) {o : Nat} (ho : o < 28) (hl : ¬ τ.1 4 o = 0) : Kept σ τ o := by
  rcases h.1 o ho with k | ⟨g, _, _⟩
  · exact k
  · exact absurd g.1 hl
theorem Kept.cnt1 {σ τ : SS} {i : Nat} (h : Kept σ τ i) (h7 : τ.1 7 = σ.1 7) (h8 : ix (σ.1 8 i) ≤ 15) (x : Nat) : c1 τ i x = c1 σ i x := by
  unfold c1
  rw [h7, h.2.2.2.1]
  congr 1
  exact sm_congr (fun k hk => by rw [h.2.2.2.2.2 k (by omega)])
/-- fields that an object hasn't are nil -/
def Za (σ : SS) : Prop := ∀ o k, o < 28 → k < 15 → ix (σ.1 8 o) ≤ k → σ.2.1 o k = 0
theorem Za_Sbt {σ τ : SS} (h : Za σ) (hs : Sbt σ τ) : Za τ := by
  intro o k ho hk h8
  rcases hs.1 o ho with q | ⟨g, _, _⟩
  · rw [q.2.2.2.2.2 k hk]; rw [q.2.2.2.1] at h8; exact h o k ho hk h8
  · exact g.2.2.2.2.2 k hk
theorem gb_ne (σ : SS) (o : Int32) {a : Nat} (h : a ≠ 4 ∧ a ≠ 5 ∧ a ≠ 6 ∧ a ≠ 8 ∧ a ≠ 10 ∧ a ≠ 11) : (giveBack σ o).1 a = σ.1 a := by
  unfold giveBack gb1
  rw [sA_ne _ h.2.2.2.2.1, sA_ne _ h.2.2.2.1, sA_ne _ h.2.2.1, sA_ne _ h.2.1, sA_ne _ h.1, gbL_ne h.2.2.2.2.2, release_ne _ _ h.2.2.2.2.2]
theorem gb_row (σ : SS) (o : Int32) {a : Nat} (h : a = 4 ∨ a = 5 ∨ a = 6 ∨ a = 8 ∨ a = 10) : (giveBack σ o).1 a = upd (σ.1 a) (ix o) 0 := by
  have h11 : ∀ a, a ≠ 11 → (gb1 σ o).1 a = σ.1 a := fun a ha => by unfold gb1; rw [gbL_ne ha, release_ne _ _ ha]
  unfold giveBack
  rcases h with rfl | rfl | rfl | rfl | rfl
  · rw [sA_ne _ (by decide), sA_ne _ (by decide), sA_ne _ (by decide), sA_ne _ (by decide), sA_eq, h11 _ (by decide)]
  · rw [sA_ne _ (by decide), sA_ne _ (by decide), sA_ne _ (by decide), sA_eq, sA_ne _ (by decide), h11 _ (by decide)]
  · rw [sA_ne _ (by decide), sA_ne _ (by decide), sA_eq, sA_ne _ (by decide), sA_ne _ (by decide), h11 _ (by decide)]
  · rw [sA_ne _ (by decide), sA_eq, sA_ne _ (by decide), sA_ne _ (by decide), sA_ne _ (by decide), h11 _ (by decide)]
  · rw [sA_eq, sA_ne _ (by decide), sA_ne _ (by decide), sA_ne _ (by decide), sA_ne _ (by decide), h11 _ (by decide)]
theorem gb_G {σ : SS} (hg : RG σ) (hz : Za σ) {o : Nat} (ho : o < 28) {a b : Nat} (hb : b < 15) : (giveBack σ (nI o)).2.1 a b = if a = o then 0 else σ.2.1 a b := by
  show (gb1 σ (nI o)).2.1 a b = _
  have h8 := ix_le (w := σ.1 8 o) (n := 15) (hg.2.2.2.1 o ho).2
  unfold gb1
  rw [ix_nI (by omega), gbL_G (by omega), release_G, ix_nI (by omega)]
  by_cases e : a = o
  · subst e
    rw [if_pos rfl]
    by_cases q : b < ix (σ.1 8 a)
    · rw [if_pos ⟨rfl, Nat.zero_le _, by omega⟩]
    · rw [if_neg (fun r => by omega)]; exact hz a b ho hb (by omega)
  · rw [if_neg e, if_neg (fun r => e r.1)]
theorem gb_Sbt {σ : SS} (hg : RG σ) (hz : Za σ) {o : Nat} (h4 : 4 ≤ o) (ho : o < 28) (hl : ¬ σ.1 4 o = 0) : Sbt σ (giveBack σ (nI o)) := by
  have ei : ix (nI o) = o := ix_nI (by omega)
  refine ⟨fun i hi => ?_, fun a ha => gb_ne σ _ ha, ?_⟩
  · by_cases e : i = o
    · subst e
      refine Or.inr ⟨⟨?_, ?_, ?_, ?_, ?_, fun k hk => ?_⟩, hl, h4⟩
      · rw [gb_row σ _ (by omega), ei, pk_us]
      · rw [gb_row σ _ (by omega), ei, pk_us]
      · rw [gb_row σ _ (by omega), ei, pk_us]
      · rw [gb_row σ _ (by omega), ei, pk_us]
      · rw [gb_row σ _ (by omega), ei, pk_us]
      · rw [gb_G hg hz ho hk, if_pos rfl]
    · refine Or.inl ⟨?_, ?_, ?_, ?_, ?_, fun k hk => ?_⟩
      · rw [gb_row σ _ (by omega), ei, pk_un e]
      · rw [gb_row σ _ (by omega), ei, pk_un e]
      · rw [gb_row σ _ (by omega), ei, pk_un e]
      · rw [gb_row σ _ (by omega), ei, pk_un e]
      · rw [gb_row σ _ (by omega), ei, pk_un e]
      · rw [gb_G hg hz ho hk, if_neg e]
  · show (gb1 σ (nI o)).2.2 = _
    unfold gb1
    rw [gbL_L, release_G]
theorem HC_gb {σ : SS} (hg : RG σ) (hz : Za σ) (hc : HC σ) {o : Nat} (h4 : 4 ≤ o) (ho : o < 28) (hl : ¬ σ.1 4 o = 0) : HC (giveBack σ (nI o)) := by
  have ei : ix (nI o) = o := ix_nI (by omega)
  have hs := gb_Sbt hg hz h4 ho hl
  have h8 := ix_le (w := σ.1 8 o) (n := 15) (hg.2.2.2.1 o ho).2
  intro x hx
  have e1 : (giveBack σ (nI o)).1 11 x = σ.1 11 x - nI (c1 σ o x) := by
    show (gb1 σ (nI o)).1 11 x = _
    unfold gb1
    rw [ei, gbL_11 hx (vp_k (by omega) (by decide)) (RG_release hg _) (by omega), release_11 (hg.2.2.1 o ho).1 hx, sub_nI, ei, release_G]
    unfold c1
    simp only [Nat.zero_add]
  rw [e1, hc x hx]
  have e2 : tally (giveBack σ (nI o)) x + c1 σ o x = tally σ x + 0 := by
    unfold tally tal
    rw [hs.2.1 13 (by decide)]
    have h1 := sm_one (n := 28) (i := o) (f := fun i => if (giveBack σ (nI o)).1 4 i = 0 then 0 else c1 (giveBack σ (nI o)) i x) (g := fun i => if σ.1 4 i = 0 then 0 else c1 σ i x) ho (fun j hj hn => by
      show (if (giveBack σ (nI o)).1 4 j = 0 then 0 else c1 (giveBack σ (nI o)) j x) = (if σ.1 4 j = 0 then 0 else c1 σ j x)
      rw [gb_row σ _ (by omega), ei, pk_un hn]
      by_cases q : σ.1 4 j = 0
      · rw [if_pos q, if_pos q]
      · rw [if_neg q, if_neg q]
        refine (hs.live hj ?_).cnt1 (hs.2.1 7 (by decide)) (ix_le (hg.2.2.2.1 j hj).2) x
        rw [gb_row σ _ (by omega), ei, pk_un hn]
        exact q)
    have h2 : (giveBack σ (nI o)).1 4 o = 0 := by rw [gb_row σ _ (by omega), ei, pk_us]
    simp only [if_neg hl, h2, if_true] at h1
    omega
  rw [nI_cancel e2, nI_0, Int32.add_zero]
theorem gb_cnt {σ : SS} {o : Nat} (ho : o < 28) (hl : ¬ σ.1 4 o = 0) : cntL 28 ((giveBack σ (nI o)).1 4) < cntL 28 (σ.1 4) := by
  rw [gb_row σ _ (by omega), ix_nI (by omega)]
  have h0 : cntL 28 (upd (upd (σ.1 4) o 0) o 1) = cntL 28 (upd (σ.1 4) o 0) + 1 := cntL_set ho pk_us
  have h1 : ∀ n, cntL n (upd (upd (σ.1 4) o 0) o 1) = cntL n (σ.1 4) := by
    intro n
    induction n with
    | zero => rfl
    | succ n ih =>
      unfold cntL
      rw [ih]
      congr 1
      by_cases e : n = o
      · subst e; rw [pk_us, if_neg (by decide), if_neg hl]
      · rw [pk_un e, pk_un e]
  rw [h1] at h0
  omega
/-- a set in which every mortal that isn't stuck is held from within, or by a register -/
def Gd (σ : SS) (X : Nat → Prop) : Prop := ∀ o, 4 ≤ o → o < 28 → X o → σ.1 5 o = 0 → (∃ i, i < 28 ∧ X i ∧ 0 < c1 σ i o) ∨ (∃ r, r < 7 ∧ 0 < ew (σ.1 13 r) o)
theorem Gd.held {σ0 σ : SS} {X : Nat → Prop} (hX : Gd σ0 X) (hg : RG σ0) (hs : Sbt σ0 σ) (hl : ∀ i, i < 28 → X i → ¬ σ.1 4 i = 0) {o : Nat} (h4 : 4 ≤ o) (ho : o < 28) (hx : X o) (hu : σ.1 5 o = 0) : 0 < tally σ o := by
  have hk := hs.live ho (hl o ho hx)
  unfold tally tal
  rcases hX o h4 ho hx (hk.2.1.symm.trans hu) with ⟨i, hi, xi, hp⟩ | ⟨r, hr, hp⟩
  · have : 0 < sm 28 (fun i => if σ.1 4 i = 0 then 0 else c1 σ i o) := sm_pos.mpr ⟨i, hi, by
      show 0 < (if σ.1 4 i = 0 then 0 else c1 σ i o)
      rw [if_neg (hl i hi xi), (hs.live hi (hl i hi xi)).cnt1 (hs.2.1 7 (by decide)) (ix_le (hg.2.2.2.1 i hi).2)]
      exact hp⟩
    omega
  · have : 0 < sm 7 (fun r => ew (σ.1 13 r) o) := sm_pos.mpr ⟨r, hr, by
      show 0 < ew (σ.1 13 r) o
      rw [hs.2.1 13 (by decide)]
      exact hp⟩
    omega
/-- nothing is left to give back -/
def Fin0 (σ : SS) : Prop := ∀ o, 4 ≤ o → o < 28 → ¬ σ.1 4 o = 0 → σ.1 5 o = 0 → 0 < tally σ o
theorem Fin0.gd {σ0 σ : SS} (h : Fin0 σ) (hg : RG σ0) (hs : Sbt σ0 σ) : Gd σ0 (fun i => ¬ σ.1 4 i = 0) := by
  intro o h4 ho hx hu
  have hk := hs.live ho hx
  have hp := h o h4 ho hx (hk.2.1.trans hu)
  unfold tally tal at hp
  by_cases h1 : 0 < sm 28 (fun i => if σ.1 4 i = 0 then 0 else c1 σ i o)
  · obtain ⟨i, hi, q⟩ := sm_pos.mp h1
    have q2 : 0 < (if σ.1 4 i = 0 then 0 else c1 σ i o) := q
    by_cases li : σ.1 4 i = 0
    · rw [if_pos li] at q2; omega
    · rw [if_neg li, (hs.live hi li).cnt1 (hs.2.1 7 (by decide)) (ix_le (hg.2.2.2.1 i hi).2)] at q2
      exact Or.inl ⟨i, hi, li, q2⟩
  · obtain ⟨r, hr, q⟩ := sm_pos.mp (show 0 < sm 7 (fun r => ew (σ.1 13 r) o) by omega)
    have q2 : 0 < ew (σ.1 13 r) o := q
    rw [hs.2.1 13 (by decide)] at q2
    exact Or.inr ⟨r, hr, q2⟩
theorem holders_0 {σ : SS} (hg : RG σ) (hc : HC σ) {o : Nat} (ho : o < 28) : σ.1 11 o = 0 ↔ tally σ o = 0 := by
  rw [hc o ho, ← nI_0, nI_eq (by have := tally_bd hg o; omega) (by decide)]
theorem unheldL_spec {σ0 : SS} (hg0 : RG σ0) {X : Nat → Prop} (hX : Gd σ0 X) : ∀ {n k : Nat} {σ : SS} {s : Int32}, 4 ≤ k → k + n = 28 → RG σ → Za σ → HC σ → Sbt σ0 σ → (∀ i, i < 28 → X i → ¬ σ.1 4 i = 0) →
    Sbt σ (unheldL n k σ s).1 ∧ HC (unheldL n k σ s).1 ∧ (∀ i, i < 28 → X i → ¬ (unheldL n k σ s).1.1 4 i = 0) ∧ cntL 28 ((unheldL n k σ s).1.1 4) ≤ cntL 28 (σ.1 4) ∧
    ((unheldL n k σ s).2 = 0 → s = 0 ∧ (unheldL n k σ s).1 = σ ∧ ∀ j, k ≤ j → j < 28 → ¬ σ.1 4 j = 0 → σ.1 5 j = 0 → 0 < tally σ j) ∧
    (¬ (unheldL n k σ s).2 = 0 → s = 0 → cntL 28 ((unheldL n k σ s).1.1 4) < cntL 28 (σ.1 4)) := by
  intro n
  induction n with
  | zero => intro k σ s _ hk hg hz hc hs hx; exact ⟨Sbt.rf σ, hc, hx, Nat.le_refl _, fun h => ⟨h, rfl, fun j h1 h2 => by omega⟩, fun h h2 => absurd h2 h⟩
  | succ n ih =>
    intro k σ s h4 hk hg hz hc hs hx
    have ek : ix (nI k) = k := ix_nI (by omega)
    unfold unheldL
    rw [ek]
    by_cases e1 : σ.1 4 k = 0
    · rw [if_pos e1]
      obtain ⟨a1, a2, a3, a4, a5, a6⟩ := ih (k := k + 1) (s := s) (by omega) (by omega) hg hz hc hs hx
      refine ⟨a1, a2, a3, a4, fun h => ⟨(a5 h).1, (a5 h).2.1, fun j h1 h2 h3 => ?_⟩, a6⟩
      by_cases q : j = k
      · exact absurd (by rw [q]; exact e1) h3
      · exact (a5 h).2.2 j (by omega) h2 h3
    · rw [if_neg e1]
      by_cases e2 : σ.1 5 k = 0
      · rw [if_pos e2]
        by_cases e3 : σ.1 11 k = 0
        · rw [if_pos e3]
          have hs1 := gb_Sbt hg hz h4 (by omega) e1
          have hcn := gb_cnt (σ := σ) (o := k) (by omega) e1
          have hx1 : ∀ i, i < 28 → X i → ¬ (giveBack σ (nI k)).1 4 i = 0 := fun i hi xi => by
            rw [gb_row σ _ (by omega), ek]
            by_cases q : i = k
            · subst q
              have := hX.held hg0 hs hx h4 (by omega) xi e2
              rw [(holders_0 hg hc (by omega)).mp e3] at this
              omega
            · rw [pk_un q]; exact hx i hi xi
          obtain ⟨a1, a2, a3, a4, a5, a6⟩ := ih (k := k + 1) (s := 1) (by omega) (by omega) (RG_giveBack hg (nI k)) (Za_Sbt hz hs1) (HC_gb hg hz hc h4 (by omega) e1) (hs.tr hs1) hx1
          exact ⟨hs1.tr a1, a2, a3, by omega, fun h => absurd (a5 h).1 (by decide), fun h _ => by omega⟩
        · rw [if_neg e3]
          obtain ⟨a1, a2, a3, a4, a5, a6⟩ := ih (k := k + 1) (s := s) (by omega) (by omega) hg hz hc hs hx
          refine ⟨a1, a2, a3, a4, fun h => ⟨(a5 h).1, (a5 h).2.1, fun j h1 h2 h3 h5 => ?_⟩, a6⟩
          by_cases q : j = k
          · rw [q]; exact Nat.pos_of_ne_zero (fun r => e3 ((holders_0 hg hc (by omega)).mpr r))
          · exact (a5 h).2.2 j (by omega) h2 h3 h5
      · rw [if_neg e2]
        obtain ⟨a1, a2, a3, a4, a5, a6⟩ := ih (k := k + 1) (s := s) (by omega) (by omega) hg hz hc hs hx
        refine ⟨a1, a2, a3, a4, fun h => ⟨(a5 h).1, (a5 h).2.1, fun j h1 h2 h3 h5 => ?_⟩, a6⟩
        by_cases q : j = k
        · exact absurd (by rw [← q]; exact h5) e2
        · exact (a5 h).2.2 j (by omega) h2 h3 h5
theorem settleL_0 (n : Nat) (σ : SS) : settleL n σ 0 = σ := by
  cases n with
  | zero => rfl
  | succ n => unfold settleL; exact if_pos rfl
theorem cntL_pos {f : Nat → Int32} : ∀ {n : Nat}, 0 < n → ¬ f 0 = 0 → 0 < cntL n f
  | 0, h, _ => absurd h (Nat.lt_irrefl 0)
  | 1, _, h => by unfold cntL; rw [if_neg h]; omega
  | n + 2, _, h => by
    unfold cntL
    have := cntL_pos (f := f) (n := n + 1) (by omega) h
    split <;> omega
theorem settleL_spec {σ0 : SS} (hg0 : RG σ0) {X : Nat → Prop} (hX : Gd σ0 X) : ∀ {n : Nat} {σ : SS} {a : Int32}, cntL 28 (σ.1 4) < n + 1 → ¬ σ.1 4 0 = 0 → ¬ a = 0 → RG σ → Za σ → HC σ → Sbt σ0 σ → (∀ i, i < 28 → X i → ¬ σ.1 4 i = 0) →
    Sbt σ (settleL n σ a) ∧ HC (settleL n σ a) ∧ (∀ i, i < 28 → X i → ¬ (settleL n σ a).1 4 i = 0) ∧ Fin0 (settleL n σ a) := by
  intro n
  induction n with
  | zero => intro σ a h h0; have := cntL_pos (f := σ.1 4) (n := 28) (by omega) h0; omega
  | succ n ih =>
    intro σ a hn h0 ha hg hz hc hs hx
    obtain ⟨a1, a2, a3, a4, a5, a6⟩ := unheldL_spec hg0 hX (n := 24) (k := 4) (s := 0) (by omega) (by omega) hg hz hc hs hx
    have hu : unheldL 24 4 σ 0 = unheld σ := by unfold unheld; rfl
    rw [hu] at a1 a2 a3 a4 a5 a6
    unfold settleL
    rw [if_neg ha]
    by_cases e : (unheld σ).2 = 0
    · rw [e, settleL_0]
      have b := a5 e
      refine ⟨a1, a2, a3, ?_⟩
      rw [b.2.1]
      intro o h4 ho hl hu
      exact b.2.2 o h4 ho hl hu
    · have h01 : ¬ (unheld σ).1.1 4 0 = 0 := by
        rcases a1.1 0 (by omega) with k | ⟨_, _, k⟩
        · rw [k.1]; exact h0
        · omega
      obtain ⟨b1, b2, b3, b4⟩ := ih (σ := (unheld σ).1) (a := (unheld σ).2) (by have := a6 e rfl; omega) h01 e (RG_unheld hg) (Za_Sbt hz a1) a2 (hs.tr a1) a3
      exact ⟨Sbt.tr a1 b1, b2, b3, b4⟩
