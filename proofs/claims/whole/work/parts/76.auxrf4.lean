theorem p_eq {p : Int32} {P : Nat} (ep : p = nI P) (hP : P < 16) {k : Nat} (h : p = nI k) (hk : k < 16) : P = k := (nI_cases hP (by omega)).mp (ep.symm.trans h)
theorem sdvp {c : Int32} (hc : vp_in c 28) {d m k : Nat} (hd : d ≤ 6) (hm : m ≤ d) (hk : k < m) : vp_in (15 * c + 9 + nI d - nI m + nI k) 420 := by
  obtain ⟨i, hi, rfl⟩ := vp_in_of hc (by decide)
  rw [a9, wi, pk_sub (by omega), nI_add]; exact vp_k (by omega) (by decide)
theorem noObj_in {σ : SS} {o : Int32} (h : noObjectM σ o = 0) : vp_in o 28 := by
  unfold noObjectM at h
  by_cases h1 : o < 0
  · rw [if_pos h1] at h; exact absurd h (by decide)
  · rw [if_neg h1] at h
    by_cases h2 : 28 ≤ o
    · rw [if_pos h2] at h; exact absurd h (by decide)
    · exact vp_28 (by rw [ilt0] at h1; omega) h2
theorem fk_in {σ : SS} (hm : RGm σ) {o k : Int32} (ho : vp_in o 28) (h0 : ¬ k < 0) (h1 : k < σ.1 4 (ix o)) : vp_in k 15 := by
  have := hm.fl ho
  rw [ilt0] at h0
  rw [Int32.lt_iff_toInt_lt] at h1
  exact vp_in_iff.mpr ⟨by omega, by omega⟩
theorem tp_make1 {σ : SS} {o : Int32} (s c f : Int32) (h : (tpM σ).toInt < 6) : (tpM (make1M σ o s c f)).toInt < 6 := by
  unfold tpM acM
  rw [mk1_11, mk1_ne _ _ _ _ _ (by decide)]
  exact upd_P (P := fun y => y.toInt < 6) h (by decide)
section RFC
variable {τ σ : SS} {c : Int32}
theorem ACT.dle (h : ACT τ σ c) : dpt τ c ≤ 6 := (dpt_nI h.inn.rg h.ctx.1).2
theorem ac_ne (h : ACT τ σ c) (hr : 0 ≤ roomM σ) : ix (acM σ) ≠ ix (roomM σ) := fun q => by
  rcases lf_cases h.rr h.inn with ⟨_, d2⟩ | ⟨_, _, _, d4⟩
  · exact d2 hr
  · rw [room_eq h.rr h.inn, h.ac] at q
    exact h.ctx.2.1 (by rw [q]; exact d4)
theorem ctx_11 (h : ACT τ σ c) (hr : 0 ≤ roomM σ) (s r i t : Int32) : (contextM σ (roomM σ) s r i t).1 11 (ix (acM σ)) = tpM σ := by
  unfold contextM ctx1M
  rw [sA_ne _ (by decide), sA_ne _ (by decide), sA_ne _ (by decide), sA_ne _ (by decide), sA_ne _ (by decide), sA_ne _ (by decide), mk1_11, pk_un (ac_ne h hr)]
  rfl
end RFC
