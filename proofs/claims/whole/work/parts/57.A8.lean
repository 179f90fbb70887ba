/-! questions: the two sides answer alike -/
theorem hnd (w : Int32) : (isHandle w = 0 ∧ ¬ noHandleM w = 0) ∨ (¬ isHandle w = 0 ∧ noHandleM w = 0 ∧ vp_in w 6) := by
  unfold isHandle noHandleM
  by_cases h1 : w < 0
  · rw [if_pos h1, if_pos h1]; exact Or.inl ⟨rfl, by decide⟩
  · rw [if_neg h1, if_neg h1]
    have e6 : (6 ≤ w) ↔ 6 ≤ w.toInt := by rw [Int32.le_iff_toInt_le]; exact Iff.rfl
    have e5 : (w ≤ 5) ↔ w.toInt ≤ 5 := by rw [Int32.le_iff_toInt_le]; exact Iff.rfl
    by_cases h2 : 6 ≤ w
    · rw [if_pos h2, if_neg (fun q => by rw [e6] at h2; rw [e5] at q; omega)]; exact Or.inl ⟨rfl, by decide⟩
    · rw [if_neg h2, if_pos (by rw [e5]; rw [e6] at h2; omega)]
      rw [ilt0] at h1
      rw [e6] at h2
      exact Or.inr ⟨by decide, rfl, vp_in_iff.mpr ⟨by omega, by omega⟩⟩
theorem sel (w : Int32) : (isSelector w = 0 ∧ ¬ noSelectorM w = 0) ∨ (¬ isSelector w = 0 ∧ noSelectorM w = 0 ∧ vp_in w 8) := by
  unfold isSelector noSelectorM
  by_cases h1 : w < 0
  · rw [if_pos h1, if_pos h1]; exact Or.inl ⟨rfl, by decide⟩
  · rw [if_neg h1, if_neg h1]
    have e6 : (8 ≤ w) ↔ 8 ≤ w.toInt := by rw [Int32.le_iff_toInt_le]; exact Iff.rfl
    have e5 : (w ≤ 7) ↔ w.toInt ≤ 7 := by rw [Int32.le_iff_toInt_le]; exact Iff.rfl
    by_cases h2 : 8 ≤ w
    · rw [if_pos h2, if_neg (fun q => by rw [e6] at h2; rw [e5] at q; omega)]; exact Or.inl ⟨rfl, by decide⟩
    · rw [if_neg h2, if_pos (by rw [e5]; rw [e6] at h2; omega)]
      rw [ilt0] at h1
      rw [e6] at h2
      exact Or.inr ⟨by decide, rfl, vp_in_iff.mpr ⟨by omega, by omega⟩⟩
theorem obj (w : Int32) (h0 : 0 ≤ w.toInt) : (isObject w = 0 ∧ ¬ isNumberM w = 0 ∧ 28 ≤ w.toInt) ∨ (¬ isObject w = 0 ∧ isNumberM w = 0 ∧ vp_in w 28) := by
  by_cases h : w.toInt < 28
  · refine Or.inr ⟨?_, isNumberM_0.mpr h, vp_in_iff.mpr ⟨h0, h⟩⟩
    unfold isObject
    rw [if_neg (by rw [ilt0]; omega), if_neg (by rw [le28]; omega)]
    decide
  · refine Or.inl ⟨?_, fun q => h (isNumberM_0.mp q), by omega⟩
    unfold isObject
    rw [if_neg (by rw [ilt0]; omega), if_pos (by rw [le28]; omega)]
section ASK
variable {σ μ : SS}
theorem Wd.live {w : Int32} (hw : Wd σ w) (h : vp_in w 28) : ¬ σ.1 4 (ix w) = 0 := by
  rcases hw with q | q
  · have := vp_lt h; omega
  · exact q
theorem alive_eq {w : Int32} (h0 : 0 ≤ w.toInt) (hw : Wd σ w) : (isAlive σ w = 0 ∧ 28 ≤ w.toInt) ∨ (¬ isAlive σ w = 0 ∧ vp_in w 28 ∧ ¬ σ.1 4 (ix w) = 0) := by
  unfold isAlive
  rcases obj w h0 with ⟨a, _, b⟩ | ⟨a, _, b⟩
  · rw [if_pos a]; exact Or.inl ⟨rfl, b⟩
  · rw [if_neg a, if_neg (hw.live b)]; exact Or.inr ⟨by decide, b, hw.live b⟩
theorem srt_1 {o : Nat} : srt σ o = 1 ↔ ¬ σ.1 6 o = 0 := by
  unfold srt
  by_cases h : σ.1 6 o = 0
  · rw [if_pos h]
    by_cases h3 : σ.1 7 o = 3
    · rw [if_pos h3]; exact ⟨fun q => absurd q (by decide), fun q => absurd h q⟩
    · rw [if_neg h3]; exact ⟨fun q => absurd q (by decide), fun q => absurd h q⟩
  · rw [if_neg h]; exact ⟨fun _ => h, fun _ => rfl⟩
theorem srt_2 (hi : IN σ) {o : Nat} (ho : o < 28) : srt σ o = 2 ↔ σ.1 7 o = 3 := by
  unfold srt
  by_cases h : σ.1 6 o = 0
  · rw [if_pos h]
    by_cases h3 : σ.1 7 o = 3
    · rw [if_pos h3]; exact ⟨fun _ => h3, fun _ => rfl⟩
    · rw [if_neg h3]; exact ⟨fun q => absurd q (by decide), fun q => absurd q h3⟩
  · rw [if_neg h]
    have := (hi.kc o ho h).1
    exact ⟨fun q => absurd q (by decide), fun q => absurd (this.symm.trans q) (by decide)⟩
theorem srt_0 {o : Nat} : srt σ o = 0 ↔ σ.1 6 o = 0 ∧ ¬ σ.1 7 o = 3 := by
  unfold srt
  by_cases h : σ.1 6 o = 0
  · rw [if_pos h]
    by_cases h3 : σ.1 7 o = 3
    · rw [if_pos h3]; exact ⟨fun q => absurd q (by decide), fun q => absurd h3 q.2⟩
    · rw [if_neg h3]; exact ⟨fun _ => ⟨h, h3⟩, fun _ => rfl⟩
  · rw [if_neg h]; exact ⟨fun q => absurd q (by decide), fun q => absurd q.1 h⟩
theorem isClass_eq (h : Rr σ μ) {w : Int32} (h0 : 0 ≤ w.toInt) (hw : Wd σ w) : (isClass σ w = 0 ∧ isClassM μ w = 0 ∧ ¬ CW σ w) ∨ (¬ isClass σ w = 0 ∧ ¬ isClassM μ w = 0 ∧ CW σ w) := by
  unfold isClass isClassM
  rcases obj w h0 with ⟨a, b, c⟩ | ⟨a, b, c⟩
  · rw [if_neg b]
    rcases alive_eq h0 hw with ⟨q, _⟩ | ⟨_, q, _⟩
    · rw [if_pos q]; exact Or.inl ⟨rfl, rfl, fun r => by have := vp_lt r.1; omega⟩
    · have := vp_lt q; omega
  · rw [if_pos b]
    rcases alive_eq h0 hw with ⟨_, q⟩ | ⟨q, _, l⟩
    · have := vp_lt c; omega
    · rw [if_neg q, (h.2.2.1 _ (vp_ix c) l).2.2.2.1]
      by_cases e : σ.1 6 (ix w) = 0
      · rw [if_pos e, if_neg (fun z => srt_1.mp z e)]; exact Or.inl ⟨rfl, rfl, fun r => r.2 e⟩
      · rw [if_neg e, if_pos (srt_1.mpr e)]; exact Or.inr ⟨by decide, by decide, c, e⟩
theorem isContext_eq (h : Rr σ μ) (hi : IN σ) {w : Int32} (h0 : 0 ≤ w.toInt) (hw : Wd σ w) : (isContext σ w = 0 ∧ isContextM μ w = 0 ∧ ¬ Ctx σ w) ∨ (¬ isContext σ w = 0 ∧ ¬ isContextM μ w = 0 ∧ Ctx σ w) := by
  unfold isContext isContextM
  rcases obj w h0 with ⟨a, b, c⟩ | ⟨a, b, c⟩
  · rw [if_neg b]
    rcases alive_eq h0 hw with ⟨q, _⟩ | ⟨_, q, _⟩
    · rw [if_pos q]; exact Or.inl ⟨rfl, rfl, fun r => by have := vp_lt r.1; omega⟩
    · have := vp_lt q; omega
  · rw [if_pos b]
    rcases alive_eq h0 hw with ⟨_, q⟩ | ⟨q, _, l⟩
    · have := vp_lt c; omega
    · rw [if_neg q, (h.2.2.1 _ (vp_ix c) l).2.2.2.1]
      by_cases e : σ.1 7 (ix w) = 3
      · rw [if_pos e, if_pos ((srt_2 hi (vp_ix c)).mpr e)]; exact Or.inr ⟨by decide, by decide, c, l, e⟩
      · rw [if_neg e, if_neg (fun z => e ((srt_2 hi (vp_ix c)).mp z))]; exact Or.inl ⟨rfl, rfl, fun r => e r.2.2⟩
theorem classOfWord_eq (h : Rr σ μ) {w : Int32} (h0 : 0 ≤ w.toInt) (hw : Wd σ w) : classOfWordM μ w = classOfWord σ w := by
  unfold classOfWord classOfWordM
  rcases obj w h0 with ⟨a, b, c⟩ | ⟨a, b, c⟩
  · rw [if_pos a, if_neg b]
  · rw [if_neg a, if_pos b, (h.2.2.1 _ (vp_ix c) (hw.live c)).1]
theorem classOfWord_CW (hi : IN σ) {w : Int32} (h0 : 0 ≤ w.toInt) (hw : Wd σ w) : CW σ (classOfWord σ w) := by
  unfold classOfWord
  rcases obj w h0 with ⟨a, b, c⟩ | ⟨a, b, c⟩
  · rw [if_pos a]; exact ⟨vp_28 (by decide) (by decide), hi.f4.2.2.2 2 (by omega) (by omega)⟩
  · rw [if_neg a]; exact hi.cl.1 _ (vp_ix c) (hw.live c)
theorem hasField_eq (h : Rr σ μ) {w : Int32} (k : Int32) (h0 : 0 ≤ w.toInt) (hw : Wd σ w) : hasFieldM μ w k = hasField σ w k := by
  unfold hasField hasFieldM
  rcases obj w h0 with ⟨a, b, c⟩ | ⟨a, b, c⟩
  · rw [if_neg b]
    rcases alive_eq h0 hw with ⟨q, _⟩ | ⟨_, q, _⟩
    · rw [if_pos q]
    · have := vp_lt q; omega
  · rw [if_pos b]
    rcases alive_eq h0 hw with ⟨_, q⟩ | ⟨q, _, l⟩
    · have := vp_lt c; omega
    · rw [if_neg q, (h.2.2.1 _ (vp_ix c) l).2.1]
/-- any number of an object -/
theorem noObject_eq (h : Rr σ μ) (o : Int32) : (isAlive σ o = 0 ∧ ¬ noObjectM μ o = 0) ∨ (¬ isAlive σ o = 0 ∧ noObjectM μ o = 0 ∧ vp_in o 28 ∧ ¬ σ.1 4 (ix o) = 0) := by
  unfold isAlive isObject noObjectM
  by_cases h1 : o < 0
  · rw [if_pos h1, if_pos h1, if_pos rfl]; exact Or.inl ⟨rfl, by decide⟩
  · rw [if_neg h1, if_neg h1]
    by_cases h2 : 28 ≤ o
    · rw [if_pos h2, if_pos h2, if_pos rfl]; exact Or.inl ⟨rfl, by decide⟩
    · have hv : vp_in o 28 := vp_28 (by rw [ilt0] at h1; omega) h2
      rw [if_neg h2, if_neg h2, if_neg (show ¬ (1 : Int32) = 0 by decide)]
      by_cases h3 : σ.1 4 (ix o) = 0
      · rw [if_pos h3, if_pos ((h.1 _ (vp_ix hv)).mpr h3)]; exact Or.inl ⟨rfl, by decide⟩
      · rw [if_neg h3, if_neg (fun q => h3 ((h.1 _ (vp_ix hv)).mp q))]; exact Or.inr ⟨by decide, rfl, hv, h3⟩
theorem leastL_eq (h : Rr σ μ) : ∀ {n k : Nat}, k + n = 28 → roomL n k μ = leastL n k σ := by
  intro n
  induction n with
  | zero => intro k _; rfl
  | succ n ih =>
    intro k hk
    unfold roomL leastL
    rw [ix_nI (by omega)]
    by_cases e : σ.1 4 k = 0
    · rw [if_pos e, if_pos ((h.1 k (by omega)).mpr e)]
    · rw [if_neg e, if_neg (fun q => e ((h.1 k (by omega)).mp q)), ih (by omega)]
theorem room_eq (h : Rr σ μ) (hi : IN σ) : roomM μ = leastFree σ := by
  have hl : ∀ o, o < 4 → ¬ μ.1 1 o = 0 := fun o ho q => (hi.f4.1 o ho).1 ((h.1 o (by omega)).mp q)
  unfold roomM leastFree
  rw [← leastL_eq h (n := 24) (k := 4) (by omega)]
  unfold roomL
  rw [ix_nI (by omega), if_neg (hl 0 (by omega))]
  unfold roomL
  rw [ix_nI (by omega), if_neg (hl 1 (by omega))]
  unfold roomL
  rw [ix_nI (by omega), if_neg (hl 2 (by omega))]
  unfold roomL
  rw [ix_nI (by omega), if_neg (hl 3 (by omega))]
  rfl
theorem leastL_dead {n : Nat} : ∀ {k : Nat}, ¬ leastL n k σ = -1 → σ.1 4 (ix (leastL n k σ)) = 0 := by
  induction n with
  | zero => intro k h; exact absurd rfl h
  | succ n ih =>
    intro k h
    unfold leastL at h ⊢
    by_cases e : σ.1 4 (ix (nI k)) = 0
    · rw [if_pos e]; exact e
    · rw [if_neg e] at h ⊢; exact ih h
theorem lf_cases (h : Rr σ μ) (hi : IN σ) : (leastFree σ = -1 ∧ ¬ 0 ≤ roomM μ) ∨ (¬ leastFree σ = -1 ∧ 0 ≤ roomM μ ∧ vp_in (leastFree σ) 28 ∧ σ.1 4 (ix (leastFree σ)) = 0) := by
  rw [room_eq h hi]
  by_cases e : leastFree σ = -1
  · rw [e]; exact Or.inl ⟨rfl, by decide⟩
  · have hv := leastFree_in e
    refine Or.inr ⟨e, ?_, hv, leastL_dead e⟩
    rw [Int32.le_iff_toInt_le]
    exact vp_nn hv
theorem alive_cnt (h : Rr σ μ) : ∀ {n k : Nat} {a : Int32}, k + n = 28 → alL n k μ a = aliveL n k σ a := by
  intro n
  induction n with
  | zero => intro k a _; rfl
  | succ n ih =>
    intro k a hk
    unfold alL aliveL
    rw [ix_nI (by omega)]
    by_cases e : σ.1 4 k = 0
    · rw [if_pos e, if_pos ((h.1 k (by omega)).mpr e)]; exact ih (by omega)
    · rw [if_neg e, if_neg (fun q => e ((h.1 k (by omega)).mp q))]; exact ih (by omega)
theorem slot_eq {c t : Int32} (hc : vp_in c 28) (ht : vp_in t 8) : ix (8 * c + t) = ix (slotOf c t) ∧ ix (slotOf c t) = 8 * ix c + ix t ∧ 8 * ix c + ix t < 224 := by
  obtain ⟨i, hi, rfl⟩ := vp_in_of hc (by decide)
  obtain ⟨j, hj, rfl⟩ := vp_in_of ht (by decide)
  unfold slotOf
  rw [show (8 : Int32) = nI 8 from rfl, pk_mul, pk_mul, nI_add, nI_add, ix_nI (by omega), ix_nI (by omega), ix_nI (by omega), ix_nI (by omega)]
  omega
theorem ix15 {c : Int32} (hc : vp_in c 28) : ix (15 * c) = 15 * ix c + 0 := by
  obtain ⟨i, hi, rfl⟩ := vp_in_of hc (by decide)
  rw [show (15 : Int32) = nI 15 from rfl, pk_mul, ix_nI (by omega), ix_nI (by omega)]
  omega
theorem sup_eq (h : Rr σ μ) (hi : IN σ) {c : Int32} (hc : CW σ c) : μ.1 5 (ix (15 * c)) = σ.2.1 (ix c) 0 := by
  rw [ix15 hc.1]
  exact (h.2.2.1 _ (vp_ix hc.1) (hi.cl4 (vp_ix hc.1) hc.2)).2.2.1 0 (by omega)
theorem find_eq (h : Rr σ μ) (hi : IN σ) {t : Int32} (ht : vp_in t 8) : ∀ {n : Nat} {c : Int32}, CN σ c → foundL n μ t c = findL n σ t c ∧ CN σ (findL n σ t c) := by
  intro n
  induction n with
  | zero => intro c hc; exact ⟨rfl, hc⟩
  | succ n ih =>
    intro c hc
    unfold foundL findL
    by_cases e : c = 0
    · rw [if_pos e, if_pos e]; exact ⟨rfl, hc⟩
    · rw [if_neg e, if_neg e]
      have hw : CW σ c := hc.resolve_left e
      have hs := slot_eq hw.1 ht
      have hb : μ.1 9 (ix (8 * c + t)) = 0 ↔ has σ c t = 0 := by
        unfold has
        rw [hs.1]
        exact h.2.2.2.2.2.2.1 _ (by rw [hs.2.1]; exact hs.2.2)
      by_cases q : has σ c t = 0
      · rw [if_pos q, if_pos (hb.mpr q), sup_eq h hi hw, i0]
        exact ih (hc.step hi)
      · rw [if_neg q, if_neg (fun z => q (hb.mp z))]; exact ⟨rfl, hc⟩
theorem found_eq (h : Rr σ μ) (hi : IN σ) {t c : Int32} (ht : vp_in t 8) (hc : CN σ c) : foundM μ c t = find σ c t ∧ CN σ (find σ c t) := find_eq h hi ht hc
theorem among_eq (h : Rr σ μ) (hi : IN σ) {x : Int32} : ∀ {n : Nat} {u : Int32}, CN σ u → inhL n μ x u = amongL n σ x u := by
  intro n
  induction n with
  | zero => intro u hc; rfl
  | succ n ih =>
    intro u hc
    unfold inhL amongL
    by_cases e : u = 0
    · rw [if_pos e, if_pos e]
    · rw [if_neg e, if_neg e]
      by_cases q : u = x
      · rw [if_pos q, if_pos q]
      · rw [if_neg q, if_neg q, sup_eq h hi (hc.resolve_left e), i0]
        exact ih (hc.step hi)
end ASK
/-! chains of superclasses end within 27 steps -/
theorem php : ∀ (n : Nat) (g : Nat → Nat), (∀ i, i ≤ n → g i < n) → ∃ i j, i < j ∧ j ≤ n ∧ g i = g j := by
  intro n
  induction n with
  | zero => intro g h; have := h 0 (Nat.le_refl 0); omega
  | succ n ih =>
    intro g h
    by_cases q : ∃ i, i ≤ n ∧ g i = g (n + 1)
    · obtain ⟨i, hi, e⟩ := q
      exact ⟨i, n + 1, by omega, Nat.le_refl _, e⟩
    · have hq : ∀ i, i ≤ n → g i ≠ g (n + 1) := fun i hi e => q ⟨i, hi, e⟩
      obtain ⟨i, j, hij, hj, e⟩ := ih (fun i => if g i = n then g (n + 1) else g i) (fun i hi => by
        have h1 := h i (by omega)
        have h2 := h (n + 1) (Nat.le_refl _)
        have h3 := hq i hi
        show (if g i = n then g (n + 1) else g i) < n
        split <;> omega)
      refine ⟨i, j, hij, by omega, ?_⟩
      have a := hq i (by omega)
      have b := hq j (by omega)
      have e2 : (if g i = n then g (n + 1) else g i) = (if g j = n then g (n + 1) else g j) := e
      by_cases c1 : g i = n
      · by_cases c2 : g j = n
        · omega
        · rw [if_pos c1, if_neg c2] at e2; exact absurd e2.symm b
      · by_cases c2 : g j = n
        · rw [if_neg c1, if_pos c2] at e2; exact absurd e2 a
        · rw [if_neg c1, if_neg c2] at e2; exact e2
theorem supN_add (σ : SS) : ∀ (n m : Nat) (a : Int32), supN σ (n + m) a = supN σ m (supN σ n a)
  | 0, m, a => by rw [Nat.zero_add]; rfl
  | n + 1, m, a => by rw [show n + 1 + m = (n + m) + 1 by omega, supN_s, supN_add σ n m, ← supN_s]
theorem supN_27 {σ : SS} (h : IN σ) {a : Int32} (ha : CN σ a) : supN σ 27 a = 0 := by
  refine Classical.byContradiction (fun hne => ?_)
  have hz := supN_0 (σ := σ) (h.n0 (by omega))
  have hall : ∀ i, i ≤ 27 → ¬ supN σ i a = 0 := fun i hi q => hne (by
    rw [show 27 = i + (27 - i) by omega, supN_add, q, hz])
  have hcn : ∀ i, CN σ (supN σ i a) := fun i => supN_P (P := CN σ) (fun _ q => q.step h) i a ha
  obtain ⟨i, j, hij, hj, e⟩ := php 27 (fun i => ix (supN σ i a) - 1) (fun i hi => by
    have h1 := vp_ix (hcn i).vp
    have h2 : ix (supN σ i a) ≠ 0 := fun q => hall i hi (by rw [← ix_back (vp_nn (hcn i).vp), q]; rfl)
    show ix (supN σ i a) - 1 < 27
    omega)
  have e1 : ix (supN σ i a) = ix (supN σ j a) := by
    have h2 : ix (supN σ i a) ≠ 0 := fun q => hall i (by omega) (by rw [← ix_back (vp_nn (hcn i).vp), q]; rfl)
    have h3 : ix (supN σ j a) ≠ 0 := fun q => hall j hj (by rw [← ix_back (vp_nn (hcn j).vp), q]; rfl)
    have : ix (supN σ i a) - 1 = ix (supN σ j a) - 1 := e
    omega
  have e2 : supN σ i a = supN σ j a := by rw [← ix_back (vp_nn (hcn i).vp), ← ix_back (vp_nn (hcn j).vp), e1]
  obtain ⟨n, hn⟩ := ha.ends h
  have per : ∀ k, supN σ (i + k * (j - i)) a = supN σ i a := fun k => by
    induction k with
    | zero => simp
    | succ k ih => rw [Nat.succ_mul, show i + (k * (j - i) + (j - i)) = (i + k * (j - i)) + (j - i) by omega, supN_add, ih, ← supN_add, show i + (j - i) = j by omega, e2]
  apply hall i (by omega)
  rw [← per n]
  have hle : n ≤ i + n * (j - i) := by
    have : n * 1 ≤ n * (j - i) := Nat.mul_le_mul_left n (by omega)
    omega
  rw [show i + n * (j - i) = n + (i + n * (j - i) - n) by omega, supN_add, hn, hz]
theorem SupM_of {σ μ : SS} (h : Rr σ μ) (hi : IN σ) : ∀ (n : Nat) {a : Int32}, CN σ a → supN σ n a = 0 → SupM n μ a
  | 0, a, _, e => e
  | n + 1, a, ha, e => by
    unfold SupM
    by_cases q : a = 0
    · exact Or.inl q
    · right
      have hw := ha.resolve_left q
      refine ⟨hw.1, ?_⟩
      rw [sup_eq h hi hw]
      rw [supN_s] at e
      exact SupM_of h hi n (ha.step hi) e
theorem SupM_28 {σ μ : SS} (h : Rr σ μ) (hi : IN σ) {a : Int32} (ha : CN σ a) : SupM 28 μ a := SupM_of h hi 28 ha (by rw [show (28 : Nat) = 27 + 1 from rfl, supN_add, supN_27 hi ha]; exact supN_0 (hi.n0 (by omega)) 1)
/-- the search ends at nil or at what is sought -/
theorem among_end {σ : SS} (h : IN σ) {x : Int32} : ∀ (n : Nat) {u : Int32}, supN σ n u = 0 → amongL n σ x u = 0 ∨ amongL n σ x u = x
  | 0, u, e => Or.inl e
  | n + 1, u, e => by
    unfold amongL
    by_cases q : u = 0
    · rw [if_pos q]; exact Or.inl q
    · rw [if_neg q]
      by_cases r : u = x
      · rw [if_pos r]; exact Or.inr r
      · rw [if_neg r, i0]
        rw [supN_s] at e
        exact among_end h n e
