theorem cowM_in {σ : SS} (hm : RGm σ) {w : Int32} (h0 : 0 ≤ w.toInt) : vp_in (classOfWordM σ w) 28 := by
  unfold classOfWordM
  by_cases e : isNumberM w = 0
  · rw [if_pos e]; exact hm.cl (num_in e h0)
  · rw [if_neg e]; exact vpc (by decide)
theorem foundL_in {σ : SS} {t : Int32} : ∀ (n : Nat) {c : Int32}, SupM n σ c → vp_in (foundL n σ t c) 28
  | 0, c, h => by
    have e : c = 0 := h
    rw [e]; exact vp_0
  | n + 1, c, h => by
    unfold foundL
    unfold SupM at h
    by_cases e : c = 0
    · rw [if_pos e, e]; exact vp_0
    · have q := h.resolve_left e
      rw [if_neg e]
      by_cases e2 : σ.1 9 (ix (8 * c + t)) = 0
      · rw [if_pos e2]; exact foundL_in n q.2
      · rw [if_neg e2]; exact q.1
theorem foundM_in {σ : SS} {t c : Int32} (h : SupM 28 σ c) : vp_in (foundM σ c t) 28 := foundL_in 28 h
theorem args_nI {t : Int32} (ht : vp_in t 8) : argumentsOf t = nI (ix (argumentsOf t)) ∧ ix (argumentsOf t) ≤ 2 := by
  obtain ⟨m, hm, e⟩ := args3 ht
  rw [e, ix_nI (by omega)]
  exact ⟨rfl, hm⟩
