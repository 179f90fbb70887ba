/-! doing a byte: what it needs of the context -/
abbrev dep (σ : SS) (c : Int32) : Int := (σ.1 10 (ix c)).toInt
def CtxOk (σ : SS) (c : Int32) : Prop := vp_in c 28 ∧ vp_in (σ.2.1 (ix c) (ix 2)) 28 ∧ Sup σ (σ.2.1 (ix (σ.2.1 (ix c) (ix 2))) (ix 0)) ∧ vp_in (σ.2.1 (ix c) (ix 0)) 28 ∧ (¬ σ.2.1 (ix c) (ix 0) = 0 → dep σ (σ.2.1 (ix c) (ix 0)) < 6) ∧ (∀ m : Int32, 0 ≤ m.toInt → m.toInt + 1 ≤ dep σ c → Sup σ (classOfWord σ (topBut σ c m))) ∧ 0 ≤ (placeOf σ c).toInt ∧ (placeOf σ c).toInt ≤ 16
theorem suits_w {σ : SS} {c q a : Int32} (h : ¬ stackSuits σ c q a = 0) : (wordsUsed q a).toInt ≤ dep σ c := by
  unfold stackSuits at h
  by_cases e : σ.1 10 (ix c) < wordsUsed q a
  · rw [if_pos e] at h; exact absurd rfl h
  · rw [Int32.lt_iff_toInt_lt] at e; show _ ≤ (σ.1 10 (ix c)).toInt; omega
theorem suits_p {σ : SS} {c q a : Int32} (h : ¬ stackSuits σ c q a = 0) (hp : ¬ onlyPushes q a = 0) : dep σ c < 6 := by
  unfold stackSuits at h
  by_cases e : σ.1 10 (ix c) < wordsUsed q a
  · rw [if_pos e] at h; exact absurd rfl h
  · rw [if_neg e] at h
    by_cases e2 : σ.1 10 (ix c) < 6
    · rw [Int32.lt_iff_toInt_lt] at e2; exact e2
    · rw [if_neg e2, if_neg hp] at h; exact absurd rfl h
theorem op_02 {q a : Int32} (h : q = 0 ∨ q = 1 ∨ q = 2) : ¬ onlyPushes q a = 0 := by
  rcases h with rfl | rfl | rfl <;> simp [onlyPushes]
theorem op_13 {q a : Int32} (h : q = 13) (ha : a = 0) : ¬ onlyPushes q a = 0 := by
  subst h; subst ha; decide
theorem wu_1 {q a : Int32} (h : q = 3 ∨ q = 4 ∨ q = 9) : (wordsUsed q a).toInt = 1 := by
  rcases h with rfl | rfl | rfl <;> rfl
theorem wu_s {q a : Int32} (h : q = 5 ∨ q = 6) : wordsUsed q a = argumentsOf a + 1 := by
  rcases h with rfl | rfl <;> rfl
theorem wu_7 {q a : Int32} (h : q = 7) : (wordsUsed q a).toInt = 2 := by
  subst h; rfl
theorem wu_a {q a : Int32} (h : q = 11 ∨ q = 12) (ha : a = 0) : (wordsUsed q a).toInt = 1 := by
  subst ha; rcases h with rfl | rfl <;> decide
theorem wu_13 {q a : Int32} (h : q = 13) (ha : a ≤ 1) : (wordsUsed q a).toInt = 1 := by
  subst h
  have e : ¬ 1 < a := by
    rw [Int32.lt_iff_toInt_lt]
    rw [Int32.le_iff_toInt_le] at ha
    omega
  show (if 1 < a then (0 : Int32) else 1).toInt = 1
  rw [if_neg e]
  rfl
theorem args1 {a : Int32} (h : vp_in a 16) : (argumentsOf a + 1).toInt = (argumentsOf a).toInt + 1 ∧ 0 ≤ (argumentsOf a).toInt := by
  obtain ⟨j, hj, rfl⟩ := vp_in_of h (by decide)
  have e : argumentsOf (nI j) = nI (j % 3) := pk_rem (by omega) (by decide) (by decide)
  have hm : j % 3 < 3 := Nat.mod_lt _ (by decide)
  rw [e, nI_1, nI_toInt (by omega), nI_toInt (by omega)]
  omega
theorem pl_nn {p x : Int32} (h0 : 0 ≤ p.toInt) (h1 : p.toInt ≤ 16) (h2 : vp_in x 16) : 0 ≤ (1000 + (p + x)).toInt := by
  obtain ⟨i, hi, rfl⟩ := d_of h0 (n := 16) h1 (by decide)
  obtain ⟨j, hj, rfl⟩ := vp_in_of h2 (by decide)
  rw [nI_add, show (1000 : Int32) = nI 1000 from rfl, nI_add, nI_toInt (by omega)]
  omega
theorem pl1_nn {p : Int32} (h0 : 0 ≤ p.toInt) (h1 : p.toInt ≤ 16) : 0 ≤ (1000 + p).toInt := by
  obtain ⟨i, hi, rfl⟩ := d_of h0 (n := 16) h1 (by decide)
  rw [show (1000 : Int32) = nI 1000 from rfl, nI_add, nI_toInt (by omega)]
  omega
theorem bk_nn {p x : Int32} (h0 : 0 ≤ p.toInt) (h1 : p.toInt ≤ 16) (h2 : vp_in x 16) (h : 0 ≤ p - (x + 1)) : 0 ≤ (1000 + (p - (x + 1))).toInt := by
  obtain ⟨i, hi, rfl⟩ := d_of h0 (n := 16) h1 (by decide)
  obtain ⟨j, hj, rfl⟩ := vp_in_of h2 (by decide)
  rw [nI_1] at h ⊢
  by_cases e : j + 1 ≤ i
  · rw [pk_sub e]
    exact pl1_nn (by rw [nI_toInt (by omega)]; omega) (by rw [nI_toInt (by omega)]; omega)
  · have := pk_sneg (a := i) (b := j + 1) (by omega) (by omega)
    rw [Int32.le_iff_toInt_le, n0] at h
    rw [ilt0] at this
    omega
theorem cow_nn {σ : SS} (hg : RG σ) (w : Int32) : 0 ≤ (classOfWord σ w).toInt := by
  unfold classOfWord
  by_cases e : isObject w = 0
  · rw [if_pos e]; decide
  · rw [if_neg e]; exact vp_nn (hg.cls (isObject_in e))
theorem otherWord_nn {σ : SS} (hg : RG σ) {c a : Int32} (hc : vp_in c 28) (ha : vp_in a 16) : 0 ≤ (otherWord σ c a).toInt := by
  unfold otherWord
  by_cases e0 : a = 0
  · rw [if_pos e0]; decide
  · rw [if_neg e0]
    by_cases e7 : 7 < a
    · rw [if_pos e7]
      by_cases e8 : a = 8
      · rw [if_pos e8]; exact hg.grid hc (vpc (by decide))
      · rw [if_neg e8]
        by_cases e9 : a = 9
        · rw [if_pos e9]; exact cow_nn hg _
        · rw [if_neg e9]; exact hg.reg (reg_in ha e7 e8 e9)
    · rw [if_neg e7]
      obtain ⟨j, hj, rfl⟩ := vp_in_of ha (by decide)
      rw [show (1000 : Int32) = nI 1000 from rfl, nI_add, show (4 : Int32) = nI 4 from rfl, pk_sub (by omega), nI_toInt (by omega)]
      omega
theorem fin_nn {σ : SS} {c a : Int32} (h0 : 0 ≤ (placeOf σ c).toInt) (h1 : (placeOf σ c).toInt ≤ 16) (h2 : vp_in a 16) : 0 ≤ (1000 + fin σ c a).toInt := by
  by_cases e : topBut σ c 0 = 0
  · rw [fin_z e]; exact pl_nn h0 h1 h2
  · rw [fin_n e]; exact pl_nn h0 h1 (vpc (by decide))
/-- the ranges hold behind a byte's work -/
theorem sndL_keep {n : Nat} : ∀ {k : Nat} {σ : SS} {o c m : Int32} {M : Nat}, m = nI M → k + n = M → vp_in c 28 → (M : Int) + 1 ≤ dep σ c → RG σ → RG (sndL n k σ o c m) ∧ (sndL n k σ o c m).1 10 = σ.1 10 := by
  induction n with
  | zero => intro k σ o c m M _ _ _ _ h; exact ⟨h, rfl⟩
  | succ n ih =>
    intro k σ o c m M e hk hc hd h
    have h6 := (h.dep hc).2
    have hd' : (M : Int) + 1 ≤ (σ.1 10 (ix c)).toInt := hd
    have ea : (m - 1 - nI k).toInt = (M : Int) - 1 - k := by rw [e, sub_arg (by omega), nI_toInt (by omega)]; omega
    have e10 : (setField σ o (5 + nI k) (topBut σ c (m - 1 - nI k))).1 10 = σ.1 10 := setField_ne σ _ _ _ (by decide)
    obtain ⟨g1, g2⟩ := ih (k := k + 1) (o := o) (c := c) e (by omega) hc (show (M : Int) + 1 ≤ ((setField σ o (5 + nI k) (topBut σ c (m - 1 - nI k))).1 10 (ix c)).toInt by rw [e10]; exact hd) (RG_setField h _ _ (h.top hc (by rw [ea]; omega) (by rw [ea]; omega)))
    exact ⟨g1, g2.trans e10⟩
theorem RG_sendOn {σ : SS} (hg : RG σ) {c q t : Int32} (h_c : vp_in c 28) (hw : ¬ isSelector t = 0 → (argumentsOf t).toInt + 1 ≤ dep σ c) (hs5 : q = 5 → ¬ isSelector t = 0 → Sup σ (classOfWord σ (topBut σ c (argumentsOf t)))) (hs6 : ¬ q = 5 → Sup σ (σ.2.1 (ix (σ.2.1 (ix c) (ix 2))) (ix 0))) : RG (sendOn σ c q t).2 := by
  unfold sendOn
  by_cases e : isSelector t = 0
  · rw [if_pos e]; exact hg
  · rw [if_neg e]
    have h_t := isSelector_in e
    obtain ⟨M, hM, eM⟩ := args_in h_t
    have hw := hw e
    have hsup : Sup σ (sndF σ c q (argumentsOf t)) := by
      unfold sndF
      by_cases e5 : q = 5
      · rw [if_pos e5]; exact hs5 e5 e
      · rw [if_neg e5]; exact hs6 e5
    unfold snd1
    by_cases e1 : find σ (sndF σ c q (argumentsOf t)) t = 0
    · rw [if_pos e1]; exact hg
    · rw [if_neg e1]
      have g1 := RG_newContext hg (hg.top h_c (args_nn h_t) hw) (vp_nn (find_in (t := t) hsup)) h_t
      by_cases e2 : leastFree σ = -1
      · rw [if_pos e2]; exact g1
      · rw [if_neg e2]
        have hd := hg.dep h_c
        have eI : (argumentsOf t).toInt = (M : Int) := by rw [eM, nI_toInt (by omega)]
        have e10 : dep (newContext σ (topBut σ c (argumentsOf t)) (find σ (sndF σ c q (argumentsOf t)) t) t) c = dep σ c := congrArg Int32.toInt (congrFun (newContext_ne σ _ _ _ (by decide)) _)
        obtain ⟨g2, g3⟩ := sndL_keep (n := ix (argumentsOf t)) (k := 0) (o := leastFree σ) (c := c) eM (by rw [ix_args hM eM]; omega) h_c (by rw [e10]; omega) g1
        unfold snd2 sndE
        have g4 := RG_setField g2 (leastFree σ) 0 (vp_nn h_c)
        refine RG_setRegister (RG_popDownTo g4 _ ?_) _ (vp_nn (leastFree_in e2))
        have e11 : (setField (sndL (ix (argumentsOf t)) 0 (newContext σ (topBut σ c (argumentsOf t)) (find σ (sndF σ c q (argumentsOf t)) t) t) (leastFree σ) c (argumentsOf t)) (leastFree σ) 0 c).1 10 = σ.1 10 := (setField_ne _ _ _ _ (by decide)).trans (g3.trans (newContext_ne σ _ _ _ (by decide)))
        rw [e11]
        have e12 := sub2_in (d := σ.1 10 (ix c)) eM (by show (M : Int) + 1 ≤ dep σ c; omega) hd.2
        rw [e12]
        have : dep σ c = (σ.1 10 (ix c)).toInt := rfl
        omega
