theorem a5v {a : Int32} {A : Nat} (ea : a = nI A) (hA : A < 16) (h : a ≤ 3) : vp_in (5 + a) 15 := by
  rw [ea] at h ⊢
  have := (nI_leI (b := 3) (by omega) (by omega)).mp h
  rw [tmp_idx]; exact vp_k (by omega) (by decide)
theorem a5w {a c : Int32} {A : Nat} (ea : a = nI A) (hA : A < 16) (h : a ≤ 3) (hc : vp_in c 28) : vp_in (15 * c + 5 + a) 420 := by
  rw [ea] at h ⊢
  have := (nI_leI (b := 3) (by omega) (by omega)).mp h
  exact w5v hc (by omega)
theorem a8v {a : Int32} {A : Nat} (ea : a = nI A) (hA : A < 16) (h : a ≤ 7) : vp_in a 8 := by
  rw [ea] at h ⊢
  have := (nI_leI (b := 7) (by omega) (by omega)).mp h
  exact vp_k (by omega) (by decide)
theorem jp_nn {q a : Int32} {Q A : Nat} (eq : q = nI Q) (ea : a = nI A) (hQ : Q < 16) (hA : A < 16) : 0 ≤ (1000 + (q + 1 + a)).toInt := by
  rw [eq, ea, nI_1, nI_add, n1000, nI_toInt (by omega)]; omega
theorem p_ne {p : Int32} {P : Nat} (ep : p = nI P) {k : Nat} (h : ¬ p = nI k) : P ≠ k := fun q => h (by rw [ep, q])
section RFD
variable {τ σ : SS} {c : Int32}
theorem ACT.s0 (h : ACT τ σ c) : vp_in (atM σ 0) 28 ∧ (¬ atM σ 0 = 0 → (tpM (sA σ 20 0 (atM σ 0))).toInt < 6) := by
  have hc := h.ctx
  have hk := h.inn.kx _ (vp_ix hc.1) hc.2.1 hc.2.2
  rw [show atM σ 0 = τ.2.1 (ix c) 0 from h.rr.at hc h.ac (k := 0) (by omega)]
  rcases hk.2.1 with z | z
  · rw [z]; exact ⟨vp_0, fun q => absurd rfl q⟩
  · refine ⟨z.1, fun q => ?_⟩
    have hl := h.rr.2.2.1 _ (vp_ix z.1) z.2.1
    have d5 := h.ax.2.2 1 (by omega)
    rw [supN_s, h.2.1] at d5
    have := d5 q
    unfold tpM acM
    rw [sA_ne _ (by decide), sA_eq, pk_us, hl.2.2.2.2.2 z.2.2]
    exact Int.lt_of_le_of_lt this (by decide)
theorem fails_0 {p a q : Int32} (h : failsM σ p a q ≤ 0) : failsM σ p a q = 0 := by
  have hv : failsM σ p a q = 1 ∨ FV (failsM σ p a q) := by
    unfold failsM
    by_cases e1 : tpM σ < needsM p a
    · rw [if_pos e1]; exact Or.inl rfl
    · rw [if_neg e1]
      by_cases e2 : growsM p a = 0
      · rw [if_pos e2]; exact Or.inr (FV_fails _ _ _ _)
      · rw [if_neg e2]
        by_cases e3 : tpM σ = 6
        · rw [if_pos e3]; exact Or.inl rfl
        · rw [if_neg e3]; exact Or.inr (FV_fails _ _ _ _)
  rcases hv with e | e
  · rw [e] at h; exact absurd h (by decide)
  · exact Classical.byContradiction (fun z => (FV_pos e z).2 h)
theorem fails_ok (h : ACT τ σ c) {P A : Nat} {q : Int32} (hP : P < 16) (ha : A < 16) (hf : failsM σ (nI P) (nI A) q = 0) : wu P A ≤ dpt τ c ∧ ((P ≤ 2 ∨ (P = 13 ∧ A = 0)) → dpt τ c < 6) ∧ fails1M σ (nI P) (nI A) q = 0 := by
  unfold failsM at hf
  by_cases e1 : tpM σ < needsM (nI P) (nI A)
  · rw [if_pos e1] at hf; exact absurd hf (by decide)
  · rw [if_neg e1] at hf
    have hw := need_wu h hP ha e1
    by_cases e2 : growsM (nI P) (nI A) = 0
    · rw [if_pos e2] at hf
      rw [(words_eq hP ha).2] at e2
      exact ⟨hw, fun z => absurd z ((onlyPushes_nI hP ha).mp e2), hf⟩
    · rw [if_neg e2] at hf
      by_cases e3 : tpM σ = 6
      · rw [if_pos e3] at hf; exact absurd hf (by decide)
      · rw [if_neg e3] at hf
        refine ⟨hw, fun _ => ?_, hf⟩
        have := h.dle
        have : dpt τ c ≠ 6 := fun z => e3 (by rw [h.tpd.1, z]; rfl)
        omega
theorem perf_RGm (h : ACT τ σ c) {P A Q : Nat} (hP : P < 16) (ha : A < 16) (hQ : Q < 16) (hw : wu P A ≤ dpt τ c) (h6 : (P ≤ 2 ∨ (P = 13 ∧ A = 0)) → dpt τ c < 6) (hf : fails1M σ (nI P) (nI A) (nI Q) = 0) : RGm (perf1M (jumpM σ (nI Q + 1)) (nI P) (nI A) (nI Q)) := by
  have hJ := ACT_jump (q := Q + 1) h (by omega)
  have dJ : dpt (setPlace τ c (nI (Q + 1))) c = dpt τ c := by unfold dpt setPlace; rw [setField_ne _ _ _ _ (by decide)]
  have pJ : placeOf (setPlace τ c (nI (Q + 1))) c = nI (Q + 1) := by
    unfold placeOf setPlace
    rw [sF_row, pk_us, n1000, show (1000 : Int32) = nI 1000 from rfl, pk_sub (by omega), show 1000 + (Q + 1) - 1000 = Q + 1 by omega]
  have hB := pb_all hJ hP ha hQ (by rw [dJ]; exact hw) (fun z => by rw [dJ]; exact h6 z) pJ
  rw [jump_fails h hP ha hw, hf] at hB
  rw [nI_1]
  exact (hB.2.1 hB.1).2.2.2.2
/-- what a step of the reference looks at -/
theorem stepF (hB : BIG τ σ) (hcd : condition τ = 1) : ∃ c Q v, ACT τ σ c ∧ Q ≤ 16 ∧ atM σ 4 - 1000 = nI Q ∧ σ.1 21 0 = 0 ∧ (Q < 16 → v < 256 ∧ σ.1 10 (ix (16 * (8 * atM σ 2 + atM σ 3 - 1000) + (atM σ 4 - 1000))) = nI v ∧ vp_in (16 * (8 * atM σ 2 + atM σ 3 - 1000) + (atM σ 4 - 1000)) 3584) := by
  have g := (cond_1 hB).mp hcd
  have h0 : ¬ τ.1 13 6 = 0 := fun q => g.1 (hB.2.2.2.2.1.2.2.2.2.1.trans q)
  have hA := hB.act h0
  have hc := hA.ctx
  have hk := hB.1.kx _ (vp_ix hc.1) hc.2.1 hc.2.2
  obtain ⟨q, hq, e4⟩ := hk.2.2.2.2.1
  obtain ⟨t, ht, et⟩ := hk.2.2.2.1
  obtain ⟨f, hf, ef⟩ := vp_in_of hk.2.2.1.1 (by decide)
  have epm : atM σ 4 - 1000 = nI q := by
    rw [show atM σ 4 = τ.2.1 (ix (τ.1 13 6)) 4 from hA.rr.at hc hA.ac (k := 4) (by omega), e4, show (1000 : Int32) = nI 1000 from rfl, pk_sub (by omega), show 1000 + q - 1000 = q by omega]
  by_cases h16 : q < 16
  · obtain ⟨v, hv, _, ev2⟩ := byte_eq hA h16
    refine ⟨_, q, v, hA, hq, epm, g.2, fun _ => ⟨hv, ?_, ?_⟩⟩
    · unfold stepC at ev2
      rw [if_neg (show ¬ 16 ≤ nI q from fun z => by have := (nI_leI (a := 16) (by omega) (by omega)).mp z; omega)] at ev2
      rw [epm]; exact ev2
    · rw [epm, show atM σ 2 = τ.2.1 (ix (τ.1 13 6)) 2 from hA.rr.at hc hA.ac (k := 2) (by omega), show atM σ 3 = τ.2.1 (ix (τ.1 13 6)) 3 from hA.rr.at hc hA.ac (k := 3) (by omega), ef, et]
      rw [show (8 : Int32) = nI 8 from rfl, pk_mul, nI_add, show (1000 : Int32) = nI 1000 from rfl, pk_sub (by omega), show (16 : Int32) = nI 16 from rfl, pk_mul, nI_add]
      exact vp_k (by omega) (by decide)
  · exact ⟨_, q, 0, hA, hq, epm, g.2, fun z => absurd z h16⟩
end RFD
theorem n16 {x : Int32} (h : x ≤ 15) : ¬ 16 ≤ x := fun q => by
  rw [Int32.le_iff_toInt_le, show (15 : Int32).toInt = 15 from rfl] at h
  rw [Int32.le_iff_toInt_le, show (16 : Int32).toInt = 16 from rfl] at q
  omega
theorem n15 {x : Int32} (h : ¬ x ≤ 15) : 16 ≤ x := by
  rw [Int32.le_iff_toInt_le, show (15 : Int32).toInt = 15 from rfl] at h
  rw [Int32.le_iff_toInt_le, show (16 : Int32).toInt = 16 from rfl]
  omega
/-! sweeping's pieces -/
def swA (τ : SS) : RS := ((sw5L 28 0 τ 0).2, settleM (sw5L 28 0 τ 0).1)
def swB (τ : SS) : RS := swA (sw2L 28 τ)
def swC (τ : SS) : RS := swB (reachM τ (acM τ))
def swD (τ : SS) : RS := swC (sw1L 6 0 τ)
theorem swD_eq (σ : SS) : swD (sw0L 28 0 σ) = sweepM σ := by unfold swD swC swB swA sweepM sw5M sw2M sw1M; rfl
theorem RGm_reach {σ : SS} (h : RGm σ) (w : Int32) : RGm (reachM σ w) := by
  unfold reachM
  by_cases e : isNumberM w = 0
  · rw [if_pos e]; exact RGm_A h (by decide) _ _
  · rw [if_neg e]; exact h
theorem reachM_ne (σ : SS) (w : Int32) {a : Nat} (h : a ≠ 13) : (reachM σ w).1 a = σ.1 a := by
  unfold reachM
  by_cases e : isNumberM w = 0
  · rw [if_pos e]; exact sA_ne _ h _ _
  · rw [if_neg e]
