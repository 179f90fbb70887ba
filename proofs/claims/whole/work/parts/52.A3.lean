/-! the reference: tally and settle -/
def RGm (σ : SS) : Prop := (∀ j, j < 420 → 0 ≤ (σ.1 5 j).toInt) ∧ (∀ i, i < 6 → 0 ≤ (σ.1 12 i).toInt) ∧ (∀ i, i < 28 → 0 ≤ (σ.1 3 i).toInt ∧ (σ.1 3 i).toInt < 28) ∧ (∀ i, i < 28 → 0 ≤ (σ.1 4 i).toInt ∧ (σ.1 4 i).toInt ≤ 15) ∧ (∀ i, i < 28 → 0 ≤ (σ.1 8 i).toInt ∧ (σ.1 8 i).toInt ≤ 6) ∧ (∀ i, i < 28 → 0 ≤ (σ.1 11 i).toInt ∧ (σ.1 11 i).toInt ≤ 6) ∧ vp_in (σ.1 20 0) 28
theorem RGm_same {σ τ : SS} (h : RGm σ) (e : ∀ a, (a = 3 ∨ a = 4 ∨ a = 5 ∨ a = 8 ∨ a = 11 ∨ a = 12 ∨ a = 20) → τ.1 a = σ.1 a) : RGm τ := by
  unfold RGm
  rw [e 3 (by omega), e 4 (by omega), e 5 (by omega), e 8 (by omega), e 11 (by omega), e 12 (by omega), e 20 (by omega)]
  exact h
theorem wi (o k : Nat) : 15 * nI o + nI k = nI (15 * o + k) := by rw [show (15 : Int32) = nI 15 from rfl, pk_mul, nI_add]
theorem ixw {o k : Nat} (h : 15 * o + k < 2 ^ 31) : ix (15 * nI o + nI k) = 15 * o + k := by rw [wi, ix_nI h]
theorem isNumberM_0 {w : Int32} : isNumberM w = 0 ↔ w.toInt < 28 := by
  unfold isNumberM
  have h : (w < 28) ↔ w.toInt < 28 := by rw [Int32.lt_iff_toInt_lt]; exact Iff.rfl
  by_cases e : w < 28
  · rw [if_pos e]; exact ⟨fun _ => h.mp e, fun _ => rfl⟩
  · rw [if_neg e]; exact ⟨fun q => absurd q (by decide), fun q => absurd (h.mpr q) e⟩
theorem incH_ne (σ : SS) (j : Int32) {a : Nat} (h : a ≠ 7) : (incH σ j).1 a = σ.1 a := sA_ne σ h _ _
theorem incH_7 {σ : SS} {j : Int32} (h0 : 0 ≤ j.toInt) {o : Nat} (ho : o < 28) : (incH σ j).1 7 o = σ.1 7 o + nI (ew j o) := by
  unfold incH ew
  rw [sA_eq]
  by_cases hw : j = nI o
  · rw [if_pos hw, hw, ix_nI (by omega), pk_us]; rfl
  · rw [if_neg hw, pk_un (fun q => hw ((ix_inj h0 (by omega)).mpr q.symm))]
    exact (Int32.add_zero _).symm
theorem inc2_ne (σ : SS) (w : Int32) {a : Nat} (h : a ≠ 7) : (if isNumberM w = 0 then incH σ w else σ).1 a = σ.1 a := by
  split
  · exact incH_ne σ _ h
  · rfl
theorem inc2_7 {σ : SS} {w : Int32} (h0 : 0 ≤ w.toInt) {o : Nat} (ho : o < 28) : (if isNumberM w = 0 then incH σ w else σ).1 7 o = σ.1 7 o + nI (ew w o) := by
  by_cases h : isNumberM w = 0
  · rw [if_pos h, incH_7 h0 ho]
  · rw [if_neg h]
    rw [isNumberM_0] at h
    unfold ew
    rw [if_neg (fun q => by rw [q, nI_toInt (by omega)] at h; omega)]
    exact (Int32.add_zero _).symm
theorem clL_ne {n : Nat} : ∀ {k : Nat} {σ : SS} {a : Nat}, a ≠ 7 → (clL n k σ).1 a = σ.1 a := by
  induction n with
  | zero => intro k σ a _; rfl
  | succ n ih => intro k σ a h; unfold clL; rw [ih h, sA_ne σ h]
theorem clL_7 {n : Nat} : ∀ {k : Nat} {σ : SS} {o : Nat}, k + n = 28 → o < 28 → (k ≤ o ∨ σ.1 7 o = 0) → (clL n k σ).1 7 o = 0 := by
  induction n with
  | zero => intro k σ o hk ho h; exact h.resolve_left (by omega)
  | succ n ih =>
    intro k σ o hk ho h
    unfold clL
    apply ih (by omega) ho
    by_cases e : o = k
    · right
      rw [sA_eq, ix_nI (by omega), e, pk_us]
    · rcases h with h | h
      · left; omega
      · right; rw [sA_eq, ix_nI (by omega), pk_un e]; exact h
theorem tfL_ne {n : Nat} : ∀ {k : Nat} {σ : SS} {o a : Nat}, a ≠ 7 → (tfL n k σ o).1 a = σ.1 a := by
  induction n with
  | zero => intro k σ o a _; rfl
  | succ n ih => intro k σ o a h; unfold tfL; rw [ih h, inc2_ne _ _ h]
theorem nI_acc (x : Int32) (a b : Nat) : x + nI a + nI b = x + nI (a + b) := by rw [Int32.add_assoc, nI_add]
theorem tfL_7 {x : Nat} (hx : x < 28) {o : Nat} (ho : o < 28) {n : Nat} : ∀ {k : Nat} {σ : SS}, RGm σ → k + n ≤ 15 → (tfL n k σ o).1 7 x = σ.1 7 x + nI (sm n (fun j => ew (σ.1 5 (15 * o + (k + j))) x)) := by
  induction n with
  | zero => intro k σ _ _; exact (Int32.add_zero _).symm
  | succ n ih =>
    intro k σ hg hk
    unfold tfL
    rw [ixw (by omega)]
    rw [ih (RGm_same hg (fun a ha => inc2_ne _ _ (by omega))) (by omega), inc2_7 (hg.1 _ (by omega)) hx, nI_acc, inc2_ne _ _ (by decide), sm_shift]
    congr 3
    exact sm_congr (fun j _ => by rw [show k + 1 + j = k + (j + 1) by omega])
def c1M (σ : SS) (i o : Nat) : Nat := ew (σ.1 3 i) o + sm (ix (σ.1 4 i)) (fun k => ew (σ.1 5 (15 * i + k)) o)
def talM (σ : SS) (o : Nat) : Nat := sm 28 (fun i => if σ.1 1 i = 0 then 0 else c1M σ i o) + (sm 6 (fun h => ew (σ.1 12 h) o) + ew (σ.1 20 0) o)
theorem toL_ne {n : Nat} : ∀ {k : Nat} {σ : SS} {a : Nat}, a ≠ 7 → (toL n k σ).1 a = σ.1 a := by
  induction n with
  | zero => intro k σ a _; rfl
  | succ n ih =>
    intro k σ a h
    unfold toL
    split
    · exact ih h
    · rw [ih h, tfL_ne h, incH_ne _ _ h]
theorem toL_7 {x : Nat} (hx : x < 28) {n : Nat} : ∀ {k : Nat} {σ : SS}, RGm σ → k + n ≤ 28 → (toL n k σ).1 7 x = σ.1 7 x + nI (sm n (fun j => if σ.1 1 (k + j) = 0 then 0 else c1M σ (k + j) x)) := by
  induction n with
  | zero => intro k σ _ _; exact (Int32.add_zero _).symm
  | succ n ih =>
    intro k σ hg hk
    unfold toL
    rw [ix_nI (by omega), sm_shift]
    by_cases e : σ.1 1 k = 0
    · rw [if_pos e, ih hg (by omega)]
      simp only [Nat.add_zero, if_pos e, Nat.zero_add]
      rw [sm_congr (n := n) (f := fun j => if σ.1 1 (k + 1 + j) = 0 then 0 else c1M σ (k + 1 + j) x) (g := fun j => if σ.1 1 (k + (j + 1)) = 0 then 0 else c1M σ (k + (j + 1)) x) (fun j _ => by rw [show k + 1 + j = k + (j + 1) by omega])]
    · rw [if_neg e]
      have hg1 : RGm (incH σ (σ.1 3 k)) := RGm_same hg (fun a ha => incH_ne _ _ (by omega))
      have h8 := ix_le (w := σ.1 4 k) (n := 15) (hg.2.2.2.1 k (by omega)).2
      rw [ih (RGm_same hg1 (fun a ha => tfL_ne (by omega))) (by omega), tfL_7 hx (by omega) hg1 (by omega), incH_7 (hg.2.2.1 k (by omega)).1 hx, nI_acc, nI_acc]
      have hs : ∀ a, a ≠ 7 → (tfL (ix (σ.1 4 k)) 0 (incH σ (σ.1 3 k)) k).1 a = σ.1 a := fun a ha => by rw [tfL_ne ha, incH_ne _ _ ha]
      rw [sm_congr (n := n) (g := fun j => if σ.1 1 (k + (j + 1)) = 0 then 0 else c1M σ (k + (j + 1)) x) (fun j _ => by
        rw [show k + 1 + j = k + (j + 1) by omega, hs 1 (by decide)]
        unfold c1M
        rw [hs 3 (by decide), hs 4 (by decide), hs 5 (by decide)])]
      simp only [Nat.add_zero, if_neg e]
      rw [show (sm (ix (σ.1 4 k)) fun j => ew ((incH σ (σ.1 3 k)).1 5 (15 * k + (0 + j))) x) = sm (ix (σ.1 4 k)) (fun j => ew (σ.1 5 (15 * k + j)) x) from sm_congr (fun j _ => by rw [incH_ne _ _ (by decide), Nat.zero_add])]
      rw [show c1M σ k x = ew (σ.1 3 k) x + sm (ix (σ.1 4 k)) (fun j => ew (σ.1 5 (15 * k + j)) x) from rfl, Nat.add_assoc]
theorem thL_ne {n : Nat} : ∀ {k : Nat} {σ : SS} {a : Nat}, a ≠ 7 → (thL n k σ).1 a = σ.1 a := by
  induction n with
  | zero => intro k σ a _; rfl
  | succ n ih => intro k σ a h; unfold thL; rw [ih h, inc2_ne _ _ h]
theorem thL_7 {x : Nat} (hx : x < 28) {n : Nat} : ∀ {k : Nat} {σ : SS}, RGm σ → k + n ≤ 6 → (thL n k σ).1 7 x = σ.1 7 x + nI (sm n (fun j => ew (σ.1 12 (k + j)) x)) := by
  induction n with
  | zero => intro k σ _ _; exact (Int32.add_zero _).symm
  | succ n ih =>
    intro k σ hg hk
    unfold thL
    rw [ix_nI (by omega), ih (RGm_same hg (fun a ha => inc2_ne _ _ (by omega))) (by omega), inc2_7 (hg.2.1 _ (by omega)) hx, nI_acc, inc2_ne _ _ (by decide), sm_shift]
    congr 3
    exact sm_congr (fun j _ => by rw [show k + 1 + j = k + (j + 1) by omega])
theorem tallyM_ne (σ : SS) {a : Nat} (h : a ≠ 7) : (tallyM σ).1 a = σ.1 a := by
  unfold tallyM tal3
  rw [incH_ne _ _ h, thL_ne h, toL_ne h, clL_ne h]
theorem sA_2 (σ : SS) (k j : Nat) (x : Int32) : (sA σ k j x).2 = σ.2 := rfl
theorem tallyM_2 (σ : SS) : (tallyM σ).2 = σ.2 := by
  have h1 : ∀ n k (σ : SS), (clL n k σ).2 = σ.2 := fun n => by
    induction n with
    | zero => intro k σ; rfl
    | succ n ih => intro k σ; unfold clL; rw [ih]; rfl
  have h2 : ∀ (σ : SS) w, (if isNumberM w = 0 then incH σ w else σ).2 = σ.2 := fun σ w => by split <;> rfl
  have h3 : ∀ n k (σ : SS) o, (tfL n k σ o).2 = σ.2 := fun n => by
    induction n with
    | zero => intro k σ o; rfl
    | succ n ih => intro k σ o; unfold tfL; rw [ih, h2]
  have h4 : ∀ n k (σ : SS), (toL n k σ).2 = σ.2 := fun n => by
    induction n with
    | zero => intro k σ; rfl
    | succ n ih =>
      intro k σ; unfold toL
      split
      · exact ih _ _
      · rw [ih, h3]; rfl
  have h5 : ∀ n k (σ : SS), (thL n k σ).2 = σ.2 := fun n => by
    induction n with
    | zero => intro k σ; rfl
    | succ n ih => intro k σ; unfold thL; rw [ih, h2]
  unfold tallyM incH tal3
  rw [sA_2, h5, h4, h1]
theorem RGm_tally {σ : SS} (h : RGm σ) : RGm (tallyM σ) := RGm_same h (fun a ha => tallyM_ne σ (by omega))
theorem c1M_same {σ τ : SS} (h : ∀ a, a = 3 ∨ a = 4 ∨ a = 5 → τ.1 a = σ.1 a) (i o : Nat) : c1M τ i o = c1M σ i o := by
  unfold c1M
  rw [h 3 (by omega), h 4 (by omega), h 5 (by omega)]
theorem tallyM_7 {σ : SS} (hg : RGm σ) {x : Nat} (hx : x < 28) : (tallyM σ).1 7 x = nI (talM σ x) := by
  have hgc : RGm (clL 28 0 σ) := RGm_same hg (fun a ha => clL_ne (by omega))
  have hgo : RGm (toL 28 0 (clL 28 0 σ)) := RGm_same hgc (fun a ha => toL_ne (by omega))
  have hac : acM (tal3 σ) = σ.1 20 0 := by unfold tal3 acM; rw [thL_ne (by decide), toL_ne (by decide), clL_ne (by decide)]
  unfold tallyM
  rw [hac, incH_7 (vp_nn hg.2.2.2.2.2.2) hx]
  unfold tal3
  rw [thL_7 hx hgo (by omega), toL_7 hx hgc (by omega), clL_7 (by omega) hx (Or.inl (Nat.zero_le _)), Int32.zero_add, nI_add, nI_add]
  unfold talM
  rw [Nat.add_assoc]
  simp only [Nat.zero_add, toL_ne (show (12 : Nat) ≠ 7 by decide), clL_ne (show (12 : Nat) ≠ 7 by decide), clL_ne (show (1 : Nat) ≠ 7 by decide)]
  rw [sm_congr (n := 28) (g := fun j => if σ.1 1 j = 0 then 0 else c1M σ j x) (fun j _ => by rw [c1M_same (fun a ha => clL_ne (by omega))])]
theorem c1M_bd {σ : SS} (hg : RGm σ) {i : Nat} (hi : i < 28) (o : Nat) : c1M σ i o ≤ 16 := by
  unfold c1M
  have h1 := ew_le (σ.1 3 i) o
  have h2 := sm_bd (f := fun k => ew (σ.1 5 (15 * i + k)) o) (b := 1) (n := ix (σ.1 4 i)) (fun k _ => ew_le _ _)
  have h3 := ix_le (w := σ.1 4 i) (n := 15) (hg.2.2.2.1 i hi).2
  omega
theorem talM_bd {σ : SS} (hg : RGm σ) (o : Nat) : talM σ o ≤ 455 := by
  unfold talM
  have h1 := sm_bd (f := fun i => if σ.1 1 i = 0 then 0 else c1M σ i o) (b := 16) (n := 28) (fun i hi => by
    show (if σ.1 1 i = 0 then 0 else c1M σ i o) ≤ 16
    split
    · omega
    · exact c1M_bd hg hi o)
  have h2 := sm_bd (f := fun r => ew (σ.1 12 r) o) (b := 1) (n := 6) (fun k _ => ew_le _ _)
  have h3 := ew_le (σ.1 20 0) o
  omega
theorem cnt_mono {f g : Nat → Int32} : ∀ {n : Nat}, (∀ i, i < n → f i = 0 → g i = 0) → cntL n g ≤ cntL n f
  | 0, _ => Nat.le_refl _
  | n + 1, h => by
    unfold cntL
    have := cnt_mono (n := n) (fun i hi => h i (by omega))
    by_cases e : f n = 0
    · rw [if_pos e, if_pos (h n (by omega) e)]; exact this
    · rw [if_neg e]; split <;> omega
theorem cnt_less {f g : Nat → Int32} : ∀ {n : Nat}, (∀ i, i < n → f i = 0 → g i = 0) → (∃ i, i < n ∧ ¬ f i = 0 ∧ g i = 0) → cntL n g < cntL n f
  | 0, _, ⟨i, hi, _⟩ => by omega
  | n + 1, h, ⟨i, hi, h1, h2⟩ => by
    unfold cntL
    by_cases e : i = n
    · subst e
      have := cnt_mono (n := i) (fun j hj => h j (by omega))
      rw [if_neg h1, if_pos h2]; omega
    · have := cnt_less (n := n) (fun i hi => h i (by omega)) ⟨i, by omega, h1, h2⟩
      by_cases e : f n = 0
      · rw [if_pos e, if_pos (h n (by omega) e)]; exact this
      · rw [if_neg e]; split <;> omega
theorem paL_ne {n : Nat} : ∀ {k : Nat} {σ : SS} {m : Int32} {a : Nat}, a ≠ 1 → (paL n k σ m).1.1 a = σ.1 a := by
  induction n with
  | zero => intro k σ m a _; rfl
  | succ n ih =>
    intro k σ m a h
    unfold paL
    split
    · exact ih h
    · split
      · split
        · rw [ih h, sA_ne σ h]
        · exact ih h
      · exact ih h
theorem paL_2 {n : Nat} : ∀ {k : Nat} {σ : SS} {m : Int32}, (paL n k σ m).1.2 = σ.2 := by
  induction n with
  | zero => intro k σ m; rfl
  | succ n ih =>
    intro k σ m
    unfold paL
    split
    · exact ih
    · split
      · split
        · rw [ih]; rfl
        · exact ih
      · exact ih
theorem paL_spec {n : Nat} : ∀ {k : Nat} {σ : SS} {m : Int32}, k + n ≤ 28 →
    (∀ o, (paL n k σ m).1.1 1 o = if k ≤ o ∧ o < k + n ∧ σ.1 7 o = 0 ∧ σ.1 6 o = 0 then 0 else σ.1 1 o) ∧
    ((paL n k σ m).2 = 0 → m = 0 ∧ (paL n k σ m).1 = σ ∧ ∀ o, k ≤ o → o < k + n → ¬ σ.1 1 o = 0 → σ.1 6 o = 0 → ¬ σ.1 7 o = 0) ∧
    (¬ (paL n k σ m).2 = 0 → m = 0 → ∃ o, k ≤ o ∧ o < k + n ∧ ¬ σ.1 1 o = 0 ∧ (paL n k σ m).1.1 1 o = 0) := by
  induction n with
  | zero => intro k σ m _; exact ⟨fun o => by rw [if_neg (by omega)]; rfl, fun h => ⟨h, rfl, fun o h1 h2 => by omega⟩, fun h h2 => absurd h2 h⟩
  | succ n ih =>
    intro k σ m hk
    have ek : ix (nI k) = k := ix_nI (by omega)
    unfold paL
    rw [ek]
    by_cases e1 : σ.1 1 k = 0
    · rw [if_pos e1]
      obtain ⟨a1, a2, a3⟩ := ih (k := k + 1) (σ := σ) (m := m) (by omega)
      refine ⟨fun o => ?_, fun h => ⟨(a2 h).1, (a2 h).2.1, fun o h1 h2 h3 => ?_⟩, fun h h2 => ?_⟩
      · rw [a1]
        by_cases q : o = k
        · subst q
          rw [if_neg (by omega)]
          split
          · exact e1
          · rfl
        · by_cases r : k + 1 ≤ o ∧ o < k + 1 + n ∧ σ.1 7 o = 0 ∧ σ.1 6 o = 0
          · rw [if_pos r, if_pos ⟨by omega, by omega, r.2.2.1, r.2.2.2⟩]
          · rw [if_neg r, if_neg (fun z => r ⟨by omega, by omega, z.2.2.1, z.2.2.2⟩)]
      · by_cases q : o = k
        · exact absurd (by rw [q]; exact e1) h3
        · exact (a2 h).2.2 o (by omega) (by omega) h3
      · obtain ⟨o, b1, b2, b3⟩ := a3 h h2
        exact ⟨o, by omega, by omega, b3⟩
    · rw [if_neg e1]
      by_cases e2 : σ.1 7 k = 0
      · rw [if_pos e2]
        by_cases e3 : σ.1 6 k = 0
        · rw [if_pos e3]
          obtain ⟨a1, a2, a3⟩ := ih (k := k + 1) (σ := sA σ 1 k 0) (m := 1) (by omega)
          rw [sA_ne σ (show (7 : Nat) ≠ 1 by decide), sA_ne σ (show (6 : Nat) ≠ 1 by decide), sA_eq] at a1
          refine ⟨fun o => ?_, fun h => absurd (a2 h).1 (by decide), fun h h2 => ⟨k, by omega, by omega, e1, ?_⟩⟩
          · rw [a1]
            by_cases q : o = k
            · subst q
              rw [if_neg (by omega), pk_us, if_pos ⟨Nat.le_refl _, by omega, e2, e3⟩]
            · by_cases r : k + 1 ≤ o ∧ o < k + 1 + n ∧ σ.1 7 o = 0 ∧ σ.1 6 o = 0
              · rw [if_pos r, if_pos ⟨by omega, by omega, r.2.2.1, r.2.2.2⟩]
              · rw [if_neg r, if_neg (fun z => r ⟨by omega, by omega, z.2.2.1, z.2.2.2⟩), pk_un q]
          · rw [a1, if_neg (by omega), pk_us]
        · rw [if_neg e3]
          obtain ⟨a1, a2, a3⟩ := ih (k := k + 1) (σ := σ) (m := m) (by omega)
          refine ⟨fun o => ?_, fun h => ⟨(a2 h).1, (a2 h).2.1, fun o h1 h2 h3 h4 => ?_⟩, fun h h2 => ?_⟩
          · rw [a1]
            by_cases q : o = k
            · subst q
              rw [if_neg (by omega), if_neg (fun z => e3 z.2.2.2)]
            · by_cases r : k + 1 ≤ o ∧ o < k + 1 + n ∧ σ.1 7 o = 0 ∧ σ.1 6 o = 0
              · rw [if_pos r, if_pos ⟨by omega, by omega, r.2.2.1, r.2.2.2⟩]
              · rw [if_neg r, if_neg (fun z => r ⟨by omega, by omega, z.2.2.1, z.2.2.2⟩)]
          · by_cases q : o = k
            · exact absurd (by rw [← q]; exact h4) e3
            · exact (a2 h).2.2 o (by omega) (by omega) h3 h4
          · obtain ⟨o, b1, b2, b3⟩ := a3 h h2
            exact ⟨o, by omega, by omega, b3⟩
      · rw [if_neg e2]
        obtain ⟨a1, a2, a3⟩ := ih (k := k + 1) (σ := σ) (m := m) (by omega)
        refine ⟨fun o => ?_, fun h => ⟨(a2 h).1, (a2 h).2.1, fun o h1 h2 h3 h4 => ?_⟩, fun h h2 => ?_⟩
        · rw [a1]
          by_cases q : o = k
          · subst q
            rw [if_neg (by omega), if_neg (fun z => e2 z.2.2.1)]
          · by_cases r : k + 1 ≤ o ∧ o < k + 1 + n ∧ σ.1 7 o = 0 ∧ σ.1 6 o = 0
            · rw [if_pos r, if_pos ⟨by omega, by omega, r.2.2.1, r.2.2.2⟩]
            · rw [if_neg r, if_neg (fun z => r ⟨by omega, by omega, z.2.2.1, z.2.2.2⟩)]
        · by_cases q : o = k
          · rw [q]; exact e2
          · exact (a2 h).2.2 o (by omega) (by omega) h3 h4
        · obtain ⟨o, b1, b2, b3⟩ := a3 h h2
          exact ⟨o, by omega, by omega, b3⟩
/-- what the reference's giving back leaves: all but live and holds -/
def SbM (σ τ : SS) : Prop := (∀ o, o < 28 → τ.1 1 o = σ.1 1 o ∨ (τ.1 1 o = 0 ∧ 4 ≤ o)) ∧ (∀ a, a ≠ 1 ∧ a ≠ 7 → τ.1 a = σ.1 a) ∧ τ.2 = σ.2
theorem SbM.rf (σ : SS) : SbM σ σ := ⟨fun _ _ => Or.inl rfl, fun _ _ => rfl, rfl⟩
theorem SbM.tr {σ τ υ : SS} (h : SbM σ τ) (h2 : SbM τ υ) : SbM σ υ := by
  refine ⟨fun o ho => ?_, fun a ha => (h2.2.1 a ha).trans (h.2.1 a ha), h2.2.2.trans h.2.2⟩
  rcases h2.1 o ho with e | e
  · rcases h.1 o ho with d | d
    · exact Or.inl (e.trans d)
    · exact Or.inr ⟨e.trans d.1, d.2⟩
  · exact Or.inr e
theorem SbM.c1 {σ τ : SS} (h : SbM σ τ) (i o : Nat) : c1M τ i o = c1M σ i o := c1M_same (fun a ha => h.2.1 a (by omega)) i o
def GdM (σ : SS) (X : Nat → Prop) : Prop := ∀ o, 4 ≤ o → o < 28 → X o → σ.1 6 o = 0 → (∃ i, i < 28 ∧ X i ∧ 0 < c1M σ i o) ∨ 0 < sm 6 (fun h => ew (σ.1 12 h) o) + ew (σ.1 20 0) o
theorem GdM.held {σ0 σ : SS} {X : Nat → Prop} (hX : GdM σ0 X) (hs : SbM σ0 σ) (hl : ∀ i, i < 28 → X i → ¬ σ.1 1 i = 0) {o : Nat} (h4 : 4 ≤ o) (ho : o < 28) (hx : X o) (hu : σ.1 6 o = 0) : 0 < talM σ o := by
  unfold talM
  rw [hs.2.1 6 (by decide)] at hu
  rw [hs.2.1 12 (by decide), hs.2.1 20 (by decide)]
  rcases hX o h4 ho hx hu with ⟨i, hi, xi, hp⟩ | hp
  · have : 0 < sm 28 (fun i => if σ.1 1 i = 0 then 0 else c1M σ i o) := sm_pos.mpr ⟨i, hi, by
      show 0 < (if σ.1 1 i = 0 then 0 else c1M σ i o)
      rw [if_neg (hl i hi xi), hs.c1]
      exact hp⟩
    omega
  · omega
def FinM (σ : SS) : Prop := (∀ o, 4 ≤ o → o < 28 → ¬ σ.1 1 o = 0 → σ.1 6 o = 0 → 0 < talM σ o) ∧ ∀ o, o < 28 → σ.1 7 o = nI (talM σ o)
theorem SbM_tally (σ : SS) : SbM σ (tallyM σ) := ⟨fun o _ => Or.inl (by rw [tallyM_ne σ (by decide)]), fun a ha => tallyM_ne σ ha.2, tallyM_2 σ⟩
theorem talM_tally (σ : SS) (o : Nat) : talM (tallyM σ) o = talM σ o := by
  unfold talM
  rw [tallyM_ne σ (show (1 : Nat) ≠ 7 by decide), tallyM_ne σ (show (12 : Nat) ≠ 7 by decide), tallyM_ne σ (show (20 : Nat) ≠ 7 by decide)]
  simp only [c1M_same (fun a ha => tallyM_ne σ (show a ≠ 7 by omega))]
theorem holds_0 {σ : SS} (hg : RGm σ) {o : Nat} (ho : o < 28) : (tallyM σ).1 7 o = 0 ↔ talM σ o = 0 := by
  rw [tallyM_7 hg ho, ← nI_0, nI_eq (by have := talM_bd hg o; omega) (by decide)]
theorem passM_spec {σ0 : SS} {X : Nat → Prop} (hX : GdM σ0 X) {σ : SS} (hg : RGm σ) (hs : SbM σ0 σ) (hx : ∀ i, i < 28 → X i → ¬ σ.1 1 i = 0) :
    SbM σ (passM σ).1 ∧ RGm (passM σ).1 ∧ (∀ i, i < 28 → X i → ¬ (passM σ).1.1 1 i = 0) ∧ ((passM σ).2 = 0 → FinM (passM σ).1) ∧ (¬ (passM σ).2 = 0 → cntL 28 ((passM σ).1.1 1) < cntL 28 (σ.1 1)) := by
  obtain ⟨a1, a2, a3⟩ := paL_spec (n := 24) (k := 4) (σ := tallyM σ) (m := 0) (by omega)
  have hne : ∀ {a}, a ≠ 1 → (passM σ).1.1 a = (tallyM σ).1 a := fun h => by unfold passM; rw [paL_ne h]
  have h2 : (passM σ).1.2 = σ.2 := by unfold passM; rw [paL_2, tallyM_2]
  have hpd : paL 24 4 (tallyM σ) 0 = passM σ := by unfold passM; rfl
  rw [hpd] at a1 a2 a3
  simp only [show 4 + 24 = 28 from rfl] at a1 a2 a3
  have h1 : ∀ o, (passM σ).1.1 1 o = if 4 ≤ o ∧ o < 28 ∧ (tallyM σ).1 7 o = 0 ∧ σ.1 6 o = 0 then 0 else σ.1 1 o := fun o => by
    rw [a1 o, tallyM_ne σ (show (6 : Nat) ≠ 7 by decide), tallyM_ne σ (show (1 : Nat) ≠ 7 by decide)]
  refine ⟨⟨fun o ho => ?_, fun a ha => (hne ha.1).trans (tallyM_ne σ ha.2), h2⟩, RGm_same hg (fun a ha => (hne (by omega)).trans (tallyM_ne σ (by omega))), fun i hi xi => ?_, fun h => ?_, fun h => ?_⟩
  · rw [h1 o]
    split
    · exact Or.inr ⟨rfl, by omega⟩
    · exact Or.inl rfl
  · rw [h1 i]
    split
    · rename_i q
      have := hX.held hs hx q.1 hi xi q.2.2.2
      rw [(holds_0 hg hi).mp q.2.2.1] at this
      omega
    · exact hx i hi xi
  · have b := a2 h
    have e : (passM σ).1 = tallyM σ := b.2.1
    rw [e]
    refine ⟨fun o h4 ho hl hu => ?_, fun o ho => by rw [talM_tally, tallyM_7 hg ho]⟩
    rw [talM_tally]
    exact Nat.pos_of_ne_zero (fun q => b.2.2 o h4 (by omega) hl hu ((holds_0 hg ho).mpr q))
  · obtain ⟨o, b1, b2, b3, b4⟩ := a3 h trivial
    rw [tallyM_ne σ (show (1 : Nat) ≠ 7 by decide)] at b3
    refine cnt_less (fun i _ h0 => ?_) ⟨o, by omega, b3, b4⟩
    rw [h1 i, h0]
    split <;> rfl
theorem seL_0 (n : Nat) (σ : SS) : seL n σ 0 = σ := by
  cases n with
  | zero => rfl
  | succ n => unfold seL; exact if_pos rfl
theorem seL_spec {σ0 : SS} {X : Nat → Prop} (hX : GdM σ0 X) : ∀ {n : Nat} {σ : SS} {a : Int32}, cntL 28 (σ.1 1) < n → ¬ a = 0 → RGm σ → SbM σ0 σ → (∀ i, i < 28 → X i → ¬ σ.1 1 i = 0) →
    SbM σ (seL n σ a) ∧ RGm (seL n σ a) ∧ (∀ i, i < 28 → X i → ¬ (seL n σ a).1 1 i = 0) ∧ FinM (seL n σ a) := by
  intro n
  induction n with
  | zero => intro σ a h; omega
  | succ n ih =>
    intro σ a hn ha hg hs hx
    obtain ⟨a1, a2, a3, a4, a5⟩ := passM_spec hX hg hs hx
    unfold seL
    rw [if_neg ha]
    by_cases e : (passM σ).2 = 0
    · rw [e, seL_0]; exact ⟨a1, a2, a3, a4 e⟩
    · obtain ⟨b1, b2, b3, b4⟩ := ih (by have := a5 e; omega) e a2 (hs.tr a1) a3
      exact ⟨a1.tr b1, b2, b3, b4⟩
