/-! what the Processor's walks need -/
theorem tmp_in {a : Int32} (h0 : 0 ≤ a.toInt) (h : a < 4) : vp_in (5 + a) 15 := by
  rw [Int32.lt_iff_toInt_lt, show (4 : Int32).toInt = 4 from rfl] at h
  obtain ⟨j, hj, rfl⟩ := d_of (d := a) h0 (n := 3) (by omega) (by decide)
  rw [show (5 : Int32) = nI 5 from rfl, nI_add]
  exact vp_k (by omega) (by decide)
theorem hf_alive {σ : SS} {o k : Int32} (h : ¬ hasField σ o k = 0) : ¬ isAlive σ o = 0 ∧ ¬ k < 0 ∧ ¬ σ.1 8 (ix o) ≤ k := by
  unfold hasField at h
  by_cases h1 : isAlive σ o = 0
  · simp [h1] at h
  · by_cases h2 : k < 0
    · simp [h1, h2] at h
    · by_cases h3 : σ.1 8 (ix o) ≤ k
      · simp [h1, h2, h3] at h
      · exact ⟨h1, h2, h3⟩
theorem hf_o {σ : SS} {o k : Int32} (h : ¬ hasField σ o k = 0) : vp_in o 28 := isAlive_in (hf_alive h).1
theorem hf_k {σ : SS} (hg : RG σ) {o k : Int32} (h : ¬ hasField σ o k = 0) : vp_in k 15 := by
  obtain ⟨h1, h2, h3⟩ := hf_alive h
  have h8 := hg.2.2.2.1 _ (vp_ix (isAlive_in h1))
  rw [ilt0] at h2
  rw [Int32.le_iff_toInt_le] at h3
  exact vp_in_iff.mpr ⟨by omega, by omega⟩
theorem hff {σ : SS} {o k : Int32} (h : ¬ hasFreeField σ o k = 0) : ¬ hasField σ o k = 0 := by
  intro e
  apply h
  unfold hasFreeField
  rw [if_pos e]
theorem isClass_alive {σ : SS} {o : Int32} (h : ¬ isClass σ o = 0) : ¬ isAlive σ o = 0 := by
  intro e
  apply h
  unfold isClass
  rw [if_pos e]
theorem isClass_in {σ : SS} {o : Int32} (h : ¬ isClass σ o = 0) : vp_in o 28 := isAlive_in (isClass_alive h)
theorem reg_in {a : Int32} (h : vp_in a 16) (h1 : 7 < a) (h2 : ¬ a = 8) (h3 : ¬ a = 9) : vp_in (a - 10) 7 := by
  obtain ⟨j, hj, rfl⟩ := vp_in_of h (by decide)
  rw [show (7 : Int32) = nI 7 from rfl, nI_ltI (by omega) (by omega)] at h1
  rw [show (8 : Int32) = nI 8 from rfl, nI_eq (by omega) (by omega)] at h2
  rw [show (9 : Int32) = nI 9 from rfl, nI_eq (by omega) (by omega)] at h3
  rw [show (10 : Int32) = nI 10 from rfl, pk_sub (by omega)]
  exact vp_k (by omega) (by decide)
theorem fin_z {σ : SS} {c a : Int32} (h : topBut σ c 0 = 0) : fin σ c a = placeOf σ c + a := by unfold fin; rw [if_pos h]
theorem fin_n {σ : SS} {c a : Int32} (h : ¬ topBut σ c 0 = 0) : fin σ c a = placeOf σ c + 0 := by unfold fin; rw [if_neg h]
theorem numberWord_nn {v : Int32} (h : ¬ numberWord v = -1) : 0 ≤ (numberWord v).toInt := by
  unfold numberWord at h ⊢
  by_cases h1 : v < -512
  · rw [if_pos h1] at h; exact absurd rfl h
  · rw [if_neg h1] at h ⊢
    by_cases h2 : v ≤ 511
    · rw [if_pos h2]
      rw [Int32.lt_iff_toInt_lt, show (-512 : Int32).toInt = -512 from rfl] at h1
      rw [Int32.le_iff_toInt_le, show (511 : Int32).toInt = 511 from rfl] at h2
      rw [Int32.toInt_add, show (1000 : Int32).toInt = 1000 from rfl]
      have e : (1000 + v.toInt).bmod (2 ^ 32) = 1000 + v.toInt := by
        rw [Int.bmod_eq_of_le] <;> omega
      rw [e]
      omega
    · rw [if_neg h2] at h; exact absurd rfl h
theorem truth_nn (b : Int32) : 0 ≤ (truth b).toInt := by
  unfold truth
  split <;> decide
theorem resultOf_nn {a x y : Int32} (h : ¬ resultOf a x y = -1) : 0 ≤ (resultOf a x y).toInt := by
  unfold resultOf at h ⊢
  by_cases e0 : a = 0
  · rw [if_pos e0] at h ⊢; exact numberWord_nn h
  · rw [if_neg e0] at h ⊢
    by_cases e1 : a = 1
    · rw [if_pos e1] at h ⊢; exact numberWord_nn h
    · rw [if_neg e1] at h ⊢
      by_cases e2 : a = 2
      · rw [if_pos e2] at h ⊢; exact numberWord_nn h
      · rw [if_neg e2] at h ⊢
        by_cases e3 : a = 3
        · rw [if_pos e3] at h ⊢; exact truth_nn _
        · rw [if_neg e3] at h ⊢; exact truth_nn _
theorem sub_in {d : Int32} {k : Nat} {K : Int32} (hK : K = nI k) (h1 : (k : Int) ≤ d.toInt) (h2 : d.toInt ≤ 6) : (d - K).toInt = d.toInt - k := by
  obtain ⟨j, hj, rfl⟩ := d_of (d := d) (by omega) (n := 6) (by omega) (by decide)
  rw [nI_toInt (by omega)] at h1
  rw [hK, pk_sub (by omega), nI_toInt (by omega), nI_toInt (by omega)]
  omega
theorem popL_ne {n : Nat} : ∀ {k : Nat} {σ : SS} {c : Int32} {a : Nat}, a ≠ 11 → (popL n k σ c).1 a = σ.1 a := by
  induction n with
  | zero => intro k σ c a _; rfl
  | succ n ih => intro k σ c a h; exact (ih h).trans (setField_ne σ _ _ _ h)
theorem RG_popL {n : Nat} : ∀ {k : Nat} {σ : SS} {c : Int32}, RG σ → RG (popL n k σ c) := by
  induction n with
  | zero => intro k σ c h; exact h
  | succ n ih => intro k σ c h; exact ih (RG_setField h _ _ (by decide))
theorem popDownTo_10 (σ : SS) (c d : Int32) : (popDownTo σ c d).1 10 (ix c) = d := by
  unfold popDownTo
  rw [sA_eq]
  exact if_pos rfl
theorem RG_popDownTo {σ : SS} (h : RG σ) (c : Int32) {d : Int32} (hd : 0 ≤ d.toInt ∧ d.toInt ≤ 6) : RG (popDownTo σ c d) := RG_10 (RG_popL h) _ hd
