/-! what the reference's walks need -/
theorem wiv {o k : Int32} (ho : vp_in o 28) (hk : vp_in k 15) : vp_in (15 * o + k) 420 := by
  obtain ⟨i, hi, rfl⟩ := vp_in_of ho (by decide)
  obtain ⟨j, hj, rfl⟩ := vp_in_of hk (by decide)
  rw [wi]; exact vp_k (by omega) (by decide)
theorem w15v {o : Int32} (ho : vp_in o 28) : vp_in (15 * o) 420 := by
  obtain ⟨i, hi, rfl⟩ := vp_in_of ho (by decide)
  rw [show (15 : Int32) = nI 15 from rfl, pk_mul]; exact vp_k (by omega) (by decide)
theorem wik {o k : Nat} (ho : o < 28) (hk : k < 15) : vp_in (15 * nI o + nI k) 420 := by rw [wi]; exact vp_k (by omega) (by decide)
theorem slv {c t : Int32} (hc : vp_in c 28) (ht : vp_in t 8) : vp_in (8 * c + t) 224 := by
  obtain ⟨i, hi, rfl⟩ := vp_in_of hc (by decide)
  obtain ⟨j, hj, rfl⟩ := vp_in_of ht (by decide)
  rw [show (8 : Int32) = nI 8 from rfl, pk_mul, nI_add]; exact vp_k (by omega) (by decide)
theorem cdv {s : Int32} (hs : vp_in s 224) {k : Nat} (hk : k < 8) : vp_in (16 * s + nI k) 3584 := by
  obtain ⟨i, hi, rfl⟩ := vp_in_of hs (by decide)
  rw [ci]; exact vp_k (by omega) (by decide)
theorem cdv8 {s : Int32} (hs : vp_in s 224) {k : Nat} (hk : k < 8) : vp_in (16 * s + 8 + nI k) 3584 := by
  obtain ⟨i, hi, rfl⟩ := vp_in_of hs (by decide)
  rw [ci8]; exact vp_k (by omega) (by decide)
theorem cdq {s q : Int32} (hs : vp_in s 224) (hq : vp_in q 16) : vp_in (16 * s + q) 3584 := by
  obtain ⟨i, hi, rfl⟩ := vp_in_of hs (by decide)
  obtain ⟨j, hj, rfl⟩ := vp_in_of hq (by decide)
  rw [ci]; exact vp_k (by omega) (by decide)
theorem w9v {c t : Int32} (hc : vp_in c 28) (ht : vp_in t 6) : vp_in (15 * c + 9 + t) 420 := by
  obtain ⟨i, hi, rfl⟩ := vp_in_of hc (by decide)
  obtain ⟨j, hj, rfl⟩ := vp_in_of ht (by decide)
  rw [a9, wi]; exact vp_k (by omega) (by decide)
theorem w5v {c : Int32} (hc : vp_in c 28) {k : Nat} (hk : k < 10) : vp_in (15 * c + 5 + nI k) 420 := by
  obtain ⟨i, hi, rfl⟩ := vp_in_of hc (by decide)
  rw [Int32.add_assoc, tmp_idx, wi]; exact vp_k (by omega) (by decide)
theorem num_in {w : Int32} (h : isNumberM w = 0) (h0 : 0 ≤ w.toInt) : vp_in w 28 := vp_in_iff.mpr ⟨h0, isNumberM_0.mp h⟩
theorem nh_in {w : Int32} (h : noHandleM w = 0) : vp_in w 6 := by
  rcases hnd w with ⟨_, q⟩ | ⟨_, _, r⟩
  · exact absurd h q
  · exact r
theorem ns_in {w : Int32} (h : noSelectorM w = 0) : vp_in w 8 := by
  rcases sel w with ⟨_, q⟩ | ⟨_, _, r⟩
  · exact absurd h q
  · exact r
theorem RGm.ac {σ : SS} (h : RGm σ) : vp_in (σ.1 20 0) 28 := h.2.2.2.2.2.2
theorem RGm.hn {σ : SS} (h : RGm σ) {s : Int32} (hs : vp_in s 6) : 0 ≤ (σ.1 12 (ix s)).toInt := h.2.1 _ (vp_ix hs)
theorem RGm.wd {σ : SS} (h : RGm σ) {j : Int32} (hj : vp_in j 420) : 0 ≤ (σ.1 5 (ix j)).toInt := h.1 _ (vp_ix hj)
theorem RGm.cl {σ : SS} (h : RGm σ) {o : Int32} (ho : vp_in o 28) : vp_in (σ.1 3 (ix o)) 28 := vp_in_iff.mpr (h.2.2.1 _ (vp_ix ho))
theorem RGm.fl {σ : SS} (h : RGm σ) {o : Int32} (ho : vp_in o 28) : 0 ≤ (σ.1 4 (ix o)).toInt ∧ (σ.1 4 (ix o)).toInt ≤ 15 := h.2.2.2.1 _ (vp_ix ho)
theorem RGm.sz {σ : SS} (h : RGm σ) {o : Int32} (ho : vp_in o 28) : 0 ≤ (σ.1 8 (ix o)).toInt ∧ (σ.1 8 (ix o)).toInt ≤ 6 := h.2.2.2.2.1 _ (vp_ix ho)
theorem RGm.tp {σ : SS} (h : RGm σ) : 0 ≤ (tpM σ).toInt ∧ (tpM σ).toInt ≤ 6 := h.2.2.2.2.2.1 _ (vp_ix h.ac)
theorem RGm_inc {σ : SS} (h : RGm σ) (j : Int32) : RGm (incH σ j) := RGm_same h (fun a ha => incH_ne _ _ (by omega))
theorem isClassM_in {σ : SS} {w : Int32} (h : ¬ isClassM σ w = 0) (h0 : 0 ≤ w.toInt) : vp_in w 28 := by
  unfold isClassM at h
  by_cases e : isNumberM w = 0
  · exact num_in e h0
  · rw [if_neg e] at h; exact absurd rfl h
theorem hasFieldM_in {σ : SS} (hm : RGm σ) {w k : Int32} (h : ¬ hasFieldM σ w k = 0) (h0 : 0 ≤ w.toInt) : vp_in w 28 ∧ vp_in k 15 := by
  unfold hasFieldM at h
  by_cases e : isNumberM w = 0
  · have hw := num_in e h0
    rw [if_pos e] at h
    by_cases e1 : k < 0
    · rw [if_pos e1] at h; exact absurd rfl h
    · rw [if_neg e1] at h
      by_cases e2 : σ.1 4 (ix w) ≤ k
      · rw [if_pos e2] at h; exact absurd rfl h
      · have := hm.fl hw
        rw [ilt0] at e1
        rw [Int32.le_iff_toInt_le] at e2
        exact ⟨hw, vp_in_iff.mpr ⟨by omega, by omega⟩⟩
  · rw [if_neg e] at h; exact absurd rfl h
theorem roomL_in {σ : SS} : ∀ {n k : Nat}, k + n = 28 → 0 ≤ roomL n k σ → vp_in (roomL n k σ) 28 := by
  intro n
  induction n with
  | zero => intro k _ h; exact absurd h (by unfold roomL; decide)
  | succ n ih =>
    intro k hk h
    unfold roomL at h ⊢
    by_cases e : σ.1 1 (ix (nI k)) = 0
    · rw [if_pos e]; exact vp_k (by omega) (by decide)
    · rw [if_neg e] at h ⊢; exact ih (by omega) h
theorem room_in {σ : SS} (h : 0 ≤ roomM σ) : vp_in (roomM σ) 28 := roomL_in (by omega) h
theorem pass_cnt {σ : SS} (h : RGm σ) : RGm (passM σ).1 ∧ ((passM σ).2 = 0 ∨ cntL 28 ((passM σ).1.1 1) < cntL 28 (σ.1 1)) := by
  obtain ⟨a1, a2, a3, a4, a5⟩ := passM_spec (σ0 := σ) (X := fun _ => False) (fun o _ _ q => absurd q id) h (SbM.rf σ) (fun i _ q => absurd q id)
  refine ⟨a2, ?_⟩
  by_cases e : (passM σ).2 = 0
  · exact Or.inl e
  · exact Or.inr (a5 e)
def tl4 (τ : SS) : SS := incH τ (acM τ)
def tl3 (τ : SS) : SS := tl4 (thL 6 0 τ)
def tl2 (τ : SS) : SS := tl3 (toL 28 0 τ)
theorem tl2_eq (σ : SS) : tl2 (clL 28 0 σ) = tallyM σ := by unfold tl2 tl3 tl4 tallyM tal3; rfl
def mk1f (τ : SS) (o : Int32) : SS := sA (sA τ 6 (ix o) 0) 11 (ix o) 0
theorem le15N {k : Nat} (h : k < 2 ^ 31) : (15 : Int32) ≤ nI k ↔ 15 ≤ k := by rw [show (15 : Int32) = nI 15 from rfl, nI_leI (by omega) h]
theorem le6N {k : Nat} (h : k < 2 ^ 31) : (6 : Int32) ≤ nI k ↔ 6 ≤ k := by rw [show (6 : Int32) = nI 6 from rfl, nI_leI (by omega) h]
