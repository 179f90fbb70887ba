/-! what the reference's walks of a byte need -/
theorem RGm.at {σ : SS} (h : RGm σ) {k : Int32} (hk : vp_in k 15) : 0 ≤ (atM σ k).toInt := h.wd (wiv h.ac hk)
theorem RGm.ti {σ : SS} (h : RGm σ) {k : Int32} (h0 : 0 ≤ k.toInt) (h1 : k.toInt + 1 ≤ (tpM σ).toInt) : vp_in (9 + tpM σ - 1 - k) 15 := top_in h0 h1 h.tp.2
theorem RGm.ft {σ : SS} (h : RGm σ) {k : Int32} (h0 : 0 ≤ k.toInt) (h1 : k.toInt + 1 ≤ (tpM σ).toInt) : 0 ≤ (fromTopM σ k).toInt := h.at (h.ti h0 h1)
theorem RGm.t6 {σ : SS} (h : RGm σ) (h1 : (tpM σ).toInt < 6) : vp_in (tpM σ) 6 := vp_in_iff.mpr ⟨h.tp.1, h1⟩
theorem RGm.t5 {σ : SS} (h : RGm σ) (h1 : 1 ≤ (tpM σ).toInt) : vp_in (tpM σ - 1) 6 := by
  have e := dec_in h1 h.tp.2
  have := h.tp
  exact vp_in_iff.mpr ⟨by omega, by omega⟩
theorem RGm_popM {σ : SS} (h : RGm σ) (h1 : 1 ≤ (tpM σ).toInt) : RGm (popM σ) ∧ tpM (popM σ) = tpM σ - 1 := by
  have e := dec_in h1 h.tp.2
  have := h.tp
  refine ⟨RGm_5 (RGm_11 h _ ⟨by omega, by omega⟩) _ (by decide), ?_⟩
  unfold tpM popM pop1M
  rw [ac_sA _ (by decide), ac_sA _ (by decide), sA_ne _ (by decide), sA_eq, pk_us]
  rfl
theorem creg {a : Int32} (h : vp_in a 16) (h1 : 8 ≤ a) (h2 : ¬ a = 8) (h3 : ¬ a = 9) : vp_in (a - 10) 6 := by
  obtain ⟨j, hj, rfl⟩ := vp_in_of h (by decide)
  have g1 := (nI_leI (a := 8) (b := j) (by omega) (by omega)).mp h1
  have g2 : j ≠ 8 := fun q => h2 (by rw [q]; rfl)
  have g3 : j ≠ 9 := fun q => h3 (by rw [q]; rfl)
  rw [show (10 : Int32) = nI 10 from rfl, pk_sub (by omega)]
  exact vp_k (by omega) (by decide)
section RFB
variable {τ σ : SS} {c : Int32}
theorem ACT.tpd (h : ACT τ σ c) : tpM σ = nI (dpt τ c) ∧ (tpM σ).toInt = dpt τ c := by
  have hp := dpt_nI h.inn.rg h.ctx.1
  have e : tpM σ = nI (dpt τ c) := (h.rr.tp h.ctx h.ac).trans hp.1
  exact ⟨e, by rw [e, nI_toInt (by omega)]⟩
theorem ACT.top1 (h : ACT τ σ c) {m : Nat} (hm : m + 1 ≤ dpt τ c) : 0 ≤ (nI m).toInt ∧ (nI m).toInt + 1 ≤ (tpM σ).toInt := by
  have hp := dpt_nI h.inn.rg h.ctx.1
  rw [h.tpd.2, nI_toInt (by omega)]
  omega
theorem ACT.c2 (h : ACT τ σ c) : vp_in (atM σ 2) 28 := by
  have hc := h.ctx
  rw [show atM σ 2 = τ.2.1 (ix c) 2 from h.rr.at hc h.ac (k := 2) (by omega)]
  exact (h.inn.kx _ (vp_ix hc.1) hc.2.1 hc.2.2).2.2.1.1
theorem args16 {a : Nat} (ha : a < 16) : argumentsOf (nI a) = nI (a % 3) := by unfold argumentsOf; rw [show (3 : Int32) = nI 3 from rfl, pk_rem (by omega) (by omega) (by omega)]
theorem sup_begin (h : ACT τ σ c) (p : Int32) {a : Nat} (ha : a < 16) (hd : a % 3 + 1 ≤ dpt τ c) : SupM 28 σ (beginM σ p (nI a)) := by
  have hc := h.ctx
  have hk := h.inn.kx _ (vp_ix hc.1) hc.2.1 hc.2.2
  have tm := h.top (m := a % 3) hd
  have hat2 : atM σ 2 = τ.2.1 (ix c) 2 := h.rr.at hc h.ac (k := 2) (by omega)
  apply SupM_28 h.rr h.inn
  unfold beginM superM
  rw [args16 ha]
  by_cases e5 : p = 5
  · rw [if_pos e5, tm.1, classOfWord_eq h.rr tm.2.1 tm.2.2]
    exact Or.inr (classOfWord_CW h.inn tm.2.1 tm.2.2)
  · rw [if_neg e5, hat2, sup_eq h.rr h.inn hk.2.2.1]
    exact CN.step h.inn (Or.inr hk.2.2.1)
/-- after the first look at the stack -/
theorem need_wu (h : ACT τ σ c) {p a : Nat} (hp : p < 16) (ha : a < 16) (hn : ¬ tpM σ < needsM (nI p) (nI a)) : wu p a ≤ dpt τ c := by
  have hd := dpt_nI h.inn.rg h.ctx.1
  have wub : wu p a ≤ 3 := by unfold wu; repeat' split
                              all_goals omega
  rw [(words_eq hp ha).1, wordsUsed_nI hp ha, h.tpd.1] at hn
  exact Nat.not_lt.mp (fun z => hn ((nI_ltI (by omega) (by omega)).mpr z))
theorem wn_1 {p a : Nat} (e : p = 3 ∨ p = 4 ∨ p = 9) : wu p a = 1 := by unfold wu; rw [if_pos e]
theorem wn_5 {p a : Nat} (e : p = 5 ∨ p = 6) : wu p a = a % 3 + 1 := by unfold wu; rw [if_neg (by omega), if_pos e]
theorem wn_7 {a : Nat} : wu 7 a = 2 := by unfold wu; rw [if_neg (by omega), if_neg (by omega), if_pos rfl]
theorem wn_11 {p : Nat} (e : p = 11 ∨ p = 12) : wu p 0 = 1 := by unfold wu; rw [if_neg (by omega), if_neg (by omega), if_neg (by omega), if_pos e, if_pos rfl]
theorem wn_13 {a : Nat} (e : a ≤ 1) : wu 13 a = 1 := by unfold wu; rw [if_neg (by omega), if_neg (by omega), if_neg (by omega), if_neg (by omega), if_pos rfl, if_neg (by omega)]
end RFB
section PF
variable {σ : SS} {p a q : Int32}
theorem pf_0 (h : fails1M σ p a q = 0) (e : p = 0 ∨ p = 3) : a ≤ 3 := by
  refine Classical.byContradiction (fun z => ?_)
  unfold fails1M at h
  rcases e with rfl | rfl
  · rw [if_pos rfl, if_neg z] at h; exact absurd h (by decide)
  · rw [if_neg (by decide), if_neg (by decide), if_neg (by decide), if_pos rfl, if_neg z] at h; exact absurd h (by decide)
theorem pf_1 (h : fails1M σ p a q = 0) (e : p = 1 ∨ p = 4) : ¬ hasFieldM σ (atM σ 1) a = 0 := by
  intro z
  unfold fails1M fa1M at h
  rcases e with rfl | rfl
  · rw [if_neg (by decide), if_pos rfl, if_pos z] at h; exact absurd h (by decide)
  · rw [if_neg (by decide), if_neg (by decide), if_neg (by decide), if_neg (by decide), if_pos rfl, if_pos z] at h; exact absurd h (by decide)
theorem fa5_0 (h : fa5M σ p a = 0) : a ≤ 7 ∧ ¬ foundM σ (beginM σ p a) a = 0 ∧ 0 ≤ roomM σ := by
  unfold fa5M at h
  by_cases e1 : a ≤ 7
  · rw [if_pos e1] at h
    by_cases e2 : foundM σ (beginM σ p a) a = 0
    · rw [if_pos e2] at h; exact absurd h (by decide)
    · rw [if_neg e2] at h
      by_cases e3 : 0 ≤ roomM σ
      · exact ⟨e1, e2, e3⟩
      · rw [if_neg e3] at h; exact absurd h (by decide)
  · rw [if_neg e1] at h; exact absurd h (by decide)
theorem pf_5 (h : fails1M σ p a q = 0) (e : p = 5 ∨ p = 6) : a ≤ 7 ∧ ¬ foundM σ (beginM σ p a) a = 0 ∧ 0 ≤ roomM σ := by
  unfold fails1M at h
  rcases e with rfl | rfl
  · rw [if_neg (by decide), if_neg (by decide), if_neg (by decide), if_neg (by decide), if_neg (by decide), if_pos rfl] at h; exact fa5_0 h
  · rw [if_neg (by decide), if_neg (by decide), if_neg (by decide), if_neg (by decide), if_neg (by decide), if_neg (by decide), if_pos rfl] at h; exact fa5_0 h
theorem pf_11 (h : fails1M σ p a q = 0) (e : p = 11 ∨ p = 13) : a ≤ 1 := by
  refine Classical.byContradiction (fun z => ?_)
  unfold fails1M at h
  rcases e with rfl | rfl
  · rw [if_neg (by decide), if_neg (by decide), if_neg (by decide), if_neg (by decide), if_neg (by decide), if_neg (by decide), if_neg (by decide), if_neg (by decide), if_neg (by decide), if_neg (by decide), if_neg (by decide), if_pos rfl, if_neg z] at h; exact absurd h (by decide)
  · rw [if_neg (by decide), if_neg (by decide), if_neg (by decide), if_neg (by decide), if_neg (by decide), if_neg (by decide), if_neg (by decide), if_neg (by decide), if_neg (by decide), if_neg (by decide), if_neg (by decide), if_neg (by decide), if_neg (by decide), if_pos rfl, if_neg z] at h; exact absurd h (by decide)
theorem pf_12 (h : fails1M σ 12 a q = 0) : ¬ 0 < a ∧ ¬ isClassM σ (fromTopM σ 0) = 0 ∧ 0 ≤ roomM σ := by
  unfold fails1M fa12M at h
  rw [if_neg (by decide), if_neg (by decide), if_neg (by decide), if_neg (by decide), if_neg (by decide), if_neg (by decide), if_neg (by decide), if_neg (by decide), if_neg (by decide), if_neg (by decide), if_neg (by decide), if_neg (by decide), if_pos rfl] at h
  by_cases e1 : 0 < a
  · rw [if_pos e1] at h; exact absurd h (by decide)
  · rw [if_neg e1] at h
    by_cases e2 : isClassM σ (fromTopM σ 0) = 0
    · rw [if_pos e2] at h; exact absurd h (by decide)
    · rw [if_neg e2] at h
      by_cases e3 : fromTopM σ 0 = 3
      · rw [if_pos e3] at h; exact absurd h (by decide)
      · rw [if_neg e3] at h
        by_cases e4 : 0 ≤ roomM σ
        · exact ⟨e1, e2, e4⟩
        · rw [if_neg e4] at h; exact absurd h (by decide)
/-- an operation above 13 fails -/
theorem pf_14 {p : Nat} (hp : p < 16) (h : fails1M σ (nI p) a q = 0) : p ≤ 13 := by
  refine Classical.byContradiction (fun z => ?_)
  have e : ∀ k : Nat, k < 14 → ¬ nI p = nI k := fun k hk r => by have := (nI_cases hp (by omega)).mp r; omega
  have n0 : ¬ nI p = 0 := e 0 (by omega)
  have n1 : ¬ nI p = 1 := e 1 (by omega)
  have n2 : ¬ nI p = 2 := e 2 (by omega)
  have n3 : ¬ nI p = 3 := e 3 (by omega)
  have n4 : ¬ nI p = 4 := e 4 (by omega)
  have n5 : ¬ nI p = 5 := e 5 (by omega)
  have n6 : ¬ nI p = 6 := e 6 (by omega)
  have n7 : ¬ nI p = 7 := e 7 (by omega)
  have n8 : ¬ nI p = 8 := e 8 (by omega)
  have n9 : ¬ nI p = 9 := e 9 (by omega)
  have n10 : ¬ nI p = 10 := e 10 (by omega)
  have n11 : ¬ nI p = 11 := e 11 (by omega)
  have n12 : ¬ nI p = 12 := e 12 (by omega)
  have n13 : ¬ nI p = 13 := e 13 (by omega)
  have n14 : ¬ nI p ≤ 13 := fun r => by have := (nI_leI (b := 13) (by omega) (by omega)).mp r; omega
  unfold fails1M at h
  rw [if_neg n0, if_neg n1, if_neg n2, if_neg n3, if_neg n4, if_neg n5, if_neg n6, if_neg n7, if_neg n8, if_neg n9, if_neg n10, if_neg n11, if_neg n12, if_neg n13, if_neg n14] at h
  exact absurd h (by decide)
end PF
