/-! what sends and starts need -/
theorem isSelector_in {t : Int32} (h : ¬ isSelector t = 0) : vp_in t 8 := by
  unfold isSelector at h
  by_cases h1 : t < 0
  · simp [h1] at h
  · by_cases h2 : 8 ≤ t
    · simp [h1, h2] at h
    · rw [ilt0] at h1
      rw [Int32.le_iff_toInt_le, show (8 : Int32).toInt = 8 from rfl] at h2
      exact vp_in_iff.mpr ⟨by omega, by omega⟩
theorem isHandle_in {t : Int32} (h : ¬ isHandle t = 0) : vp_in t 6 := by
  unfold isHandle at h
  by_cases h1 : t < 0
  · simp [h1] at h
  · by_cases h2 : 6 ≤ t
    · simp [h1, h2] at h
    · rw [ilt0] at h1
      rw [Int32.le_iff_toInt_le, show (6 : Int32).toInt = 6 from rfl] at h2
      exact vp_in_iff.mpr ⟨by omega, by omega⟩
theorem args_in {t : Int32} (h : vp_in t 8) : ∃ M : Nat, M < 3 ∧ argumentsOf t = nI M := by
  obtain ⟨j, hj, rfl⟩ := vp_in_of h (by decide)
  exact ⟨j % 3, Nat.mod_lt _ (by decide), pk_rem (by omega) (by decide) (by decide)⟩
theorem args_nn {t : Int32} (h : vp_in t 8) : 0 ≤ (argumentsOf t).toInt := by
  obtain ⟨M, hM, e⟩ := args_in h
  rw [e, nI_toInt (by omega)]
  omega
theorem findL_in {n : Nat} : ∀ {σ : SS} {t c : Int32}, Sup σ c → vp_in (findL n σ t c) 28 := by
  induction n with
  | zero => intro σ t c h; exact h 0
  | succ n ih =>
    intro σ t c h
    unfold findL
    by_cases e : c = 0
    · rw [if_pos e]; exact h 0
    · rw [if_neg e]
      by_cases e2 : has σ c t = 0
      · rw [if_pos e2]; exact ih h.step
      · rw [if_neg e2]; exact h 0
theorem find_in {σ : SS} {c t : Int32} (h : Sup σ c) : vp_in (find σ c t) 28 := findL_in h
theorem hnd_in {h : Int32} {k : Nat} (hh : vp_in h 6) (hk : k < 3) : vp_in (h + 1 + nI k - (h + 1 + nI k) / 6 * 6) 7 := by
  obtain ⟨j, hj, rfl⟩ := vp_in_of hh (by decide)
  rw [nI_1, nI_add, show (6 : Int32) = nI 6 from rfl, pk_rem (by omega) (by decide) (by decide)]
  exact vp_k (by omega) (by decide)
theorem arg_in {k : Nat} (hk : k < 3) : vp_in (5 + nI k) 15 := by
  rw [show (5 : Int32) = nI 5 from rfl, nI_add]
  exact vp_k (by omega) (by decide)
theorem sub_arg {M k : Nat} (h : k < M) : nI M - 1 - nI k = nI (M - 1 - k) := by
  rw [show (1 : Int32) = nI 1 from rfl, pk_sub (by omega), pk_sub (by omega)]
theorem ix_args {t : Int32} {M : Nat} (hM : M < 3) (e : argumentsOf t = nI M) : ix (argumentsOf t) = M := by rw [e, ix_nI (by omega)]
theorem sub2_in {d m : Int32} {M : Nat} (e : m = nI M) (h1 : (M : Int) + 1 ≤ d.toInt) (h2 : d.toInt ≤ 6) : (d - m - 1).toInt = d.toInt - M - 1 := by
  obtain ⟨j, hj, rfl⟩ := d_of (d := d) (by omega) (n := 6) (by omega) (by decide)
  rw [nI_toInt (by omega)] at h1
  rw [e, show (1 : Int32) = nI 1 from rfl, pk_sub (by omega), pk_sub (by omega), nI_toInt (by omega), nI_toInt (by omega)]
  omega
