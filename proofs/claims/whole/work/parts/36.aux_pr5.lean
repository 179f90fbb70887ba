theorem BZ_same {σ τ : SS} (h : BZ σ) (e : τ.1 16 = σ.1 16) : BZ τ := fun j hj => by rw [e]; exact h j hj
theorem BZ_place {σ : SS} (h : BZ σ) (c p : Int32) : BZ (setPlace σ c p) := BZ_same h (setField_ne σ _ _ _ (by decide))
theorem pf_place {σ : SS} {c q a : Int32} (hg : RG σ) (ok : CtxOk σ c) (h : placeOf σ c < 16) (h_a : vp_in a 16) (hst : ¬ stackSuits σ c q a = 0) : PfOk (setPlace σ c (placeOf σ c + 1)) c q a := by
  have p0 := ok.2.2.2.2.2.2.1
  have p1 := ok.2.2.2.2.2.2.2
  rw [Int32.lt_iff_toInt_lt, show (16 : Int32).toInt = 16 from rfl] at h
  have e : (placeOf σ c + 1).toInt = (placeOf σ c).toInt + 1 := by
    obtain ⟨i, hi, ei⟩ := d_of p0 (n := 16) p1 (by decide)
    rw [ei, nI_1, nI_toInt (by omega), nI_toInt (by omega)]
    omega
  exact ⟨RG_setPlace hg _ (pl_nn p0 p1 (vpc (by decide))), CtxOk_place hg ok (by omega) (by omega), h_a, by rw [suits_place]; exact hst⟩
