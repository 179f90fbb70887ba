/-! marking and sweeping; Methods -/
def cntL : Nat → (Nat → Int32) → Nat
  | 0, _ => 0
  | n + 1, f => cntL n f + (if f n = 0 then 0 else 1)
theorem cntL_le (f : Nat → Int32) : ∀ n, cntL n f ≤ n
  | 0 => Nat.le_refl _
  | n + 1 => by
    have := cntL_le f n
    unfold cntL
    split <;> omega
theorem cntL_lt {f : Nat → Int32} : ∀ {n i : Nat}, i < n → f i = 0 → cntL n f < n
  | 0, _, h, _ => by omega
  | n + 1, i, h, h0 => by
    unfold cntL
    by_cases e : i = n
    · subst e
      rw [if_pos h0]
      have := cntL_le f i
      omega
    · have := cntL_lt (n := n) (by omega) h0
      split <;> omega
theorem cntL_out {f : Nat → Int32} {i : Nat} {x : Int32} : ∀ {n : Nat}, n ≤ i → cntL n (upd f i x) = cntL n f
  | 0, _ => rfl
  | n + 1, h => by
    unfold cntL
    rw [cntL_out (by omega), show upd f i x n = f n from if_neg (by omega)]
theorem cntL_set {f : Nat → Int32} {i : Nat} : ∀ {n : Nat}, i < n → f i = 0 → cntL n (upd f i 1) = cntL n f + 1
  | 0, h, _ => by omega
  | n + 1, h, h0 => by
    unfold cntL
    by_cases e : i = n
    · subst e
      rw [cntL_out (Nat.le_refl _), show upd f i 1 i = 1 from if_pos rfl, if_neg (by decide), if_pos h0]
    · rw [cntL_set (by omega) h0, show upd f i 1 n = f n from if_neg (by omega)]
      omega
theorem cntL_0 {f : Nat → Int32} : ∀ {n : Nat}, (∀ i, i < n → f i = 0) → cntL n f = 0
  | 0, _ => rfl
  | n + 1, h => by
    unfold cntL
    rw [cntL_0 (fun i hi => h i (by omega)), if_pos (h n (by omega))]
/-- while marking: trailEnd counts what is reached, the trail holds objects -/
def MK (σ : SS) : Prop := σ.1 20 0 = nI (cntL 28 (σ.1 14)) ∧ ∀ j, j < cntL 28 (σ.1 14) → vp_in (σ.1 15 j) 28
def reach1 (σ : SS) (w : Int32) : SS := sA σ 14 (ix w) 1
def reach2 (σ : SS) (w : Int32) : SS := sA (reach1 σ w) 15 (ix ((reach1 σ w).1 20 0)) w
def reach3 (σ : SS) (w : Int32) : SS := sA (reach2 σ w) 20 0 ((reach2 σ w).1 20 0 + 1)
def reach (σ : SS) (w : Int32) : SS := if isObject w = 0 then σ else if σ.1 14 (ix w) = 0 then reach3 σ w else σ
theorem MK.room {σ : SS} (h : MK σ) {w : Int32} (h1 : ¬ isObject w = 0) (h2 : σ.1 14 (ix w) = 0) : vp_in (σ.1 20 0) 28 := by
  rw [h.1]
  exact vp_k (cntL_lt (vp_ix (isObject_in h1)) h2) (by decide)
theorem MK_reach {σ : SS} (h : MK σ) (w : Int32) : MK (reach σ w) := by
  unfold reach
  by_cases e1 : isObject w = 0
  · rw [if_pos e1]; exact h
  · rw [if_neg e1]
    by_cases e2 : σ.1 14 (ix w) = 0
    · rw [if_pos e2]
      have hw := isObject_in e1
      have hc : cntL 28 ((reach3 σ w).1 14) = cntL 28 (σ.1 14) + 1 := cntL_set (vp_ix hw) e2
      have hlt := cntL_lt (vp_ix hw) e2
      have ht : ix (σ.1 20 0) = cntL 28 (σ.1 14) := by rw [h.1, ix_nI (by omega)]
      refine ⟨?_, fun j hj => ?_⟩
      · rw [hc]
        show upd (σ.1 20) 0 (σ.1 20 0 + 1) 0 = _
        rw [show upd (σ.1 20) 0 (σ.1 20 0 + 1) 0 = σ.1 20 0 + 1 from if_pos rfl, h.1]
        exact (nI_succ _).symm
      · rw [hc] at hj
        show vp_in (upd (σ.1 15) (ix (σ.1 20 0)) w j) 28
        rw [ht]
        by_cases e : j = cntL 28 (σ.1 14)
        · rw [show upd (σ.1 15) (cntL 28 (σ.1 14)) w j = w from if_pos e]; exact hw
        · rw [show upd (σ.1 15) (cntL 28 (σ.1 14)) w j = σ.1 15 j from if_neg e]; exact h.2 j (by omega)
    · rw [if_neg e2]; exact h
theorem RG_reach {σ : SS} (h : RG σ) (w : Int32) : RG (reach σ w) := by
  unfold reach
  by_cases e1 : isObject w = 0
  · rw [if_pos e1]; exact h
  · rw [if_neg e1]
    by_cases e2 : σ.1 14 (ix w) = 0
    · rw [if_pos e2]; exact RG_A (RG_A (RG_A h (by decide) _ _) (by decide) _ _) (by decide) _ _
    · rw [if_neg e2]; exact h
theorem reach_ne (σ : SS) (w : Int32) {a : Nat} (h : a ≠ 14 ∧ a ≠ 15 ∧ a ≠ 20) : (reach σ w).1 a = σ.1 a := by
  unfold reach
  by_cases e1 : isObject w = 0
  · rw [if_pos e1]
  · rw [if_neg e1]
    by_cases e2 : σ.1 14 (ix w) = 0
    · rw [if_pos e2]
      unfold reach3 reach2 reach1
      rw [sA_ne _ h.2.2, sA_ne _ h.2.1, sA_ne _ h.1]
    · rw [if_neg e2]
def rfL : Nat → Nat → SS → Int32 → SS
  | 0, _, σ, _ => σ
  | n + 1, k, σ, o => rfL n (k + 1) (reach σ (σ.2.1 (ix o) (ix (nI k)))) o
def reachFrom (σ : SS) (o : Int32) : SS := rfL (ix (σ.1 8 (ix o))) 0 (reach σ (σ.1 7 (ix o))) o
theorem rfL_keep {n : Nat} : ∀ {k : Nat} {σ : SS} {o : Int32}, MK σ → RG σ → MK (rfL n k σ o) ∧ RG (rfL n k σ o) := by
  induction n with
  | zero => intro k σ o h1 h2; exact ⟨h1, h2⟩
  | succ n ih => intro k σ o h1 h2; exact ih (MK_reach h1 _) (RG_reach h2 _)
theorem reachFrom_keep {σ : SS} (o : Int32) (h1 : MK σ) (h2 : RG σ) : MK (reachFrom σ o) ∧ RG (reachFrom σ o) := rfL_keep (MK_reach h1 _) (RG_reach h2 _)
def clrL : Nat → Nat → SS → SS
  | 0, _, σ => σ
  | n + 1, k, σ => clrL n (k + 1) (sA σ 14 (ix (nI k)) 0)
def m4L : Nat → Nat → SS → SS
  | 0, _, σ => σ
  | n + 1, k, σ => m4L n (k + 1) (reach σ (nI k))
def m7L : Nat → Nat → SS → SS
  | 0, _, σ => σ
  | n + 1, k, σ => m7L n (k + 1) (reach σ (σ.1 13 (ix (nI k))))
def mTL : Nat → Nat → SS → SS
  | 0, _, σ => σ
  | n + 1, k, σ => if σ.1 20 0 ≤ nI k then σ else mTL n (k + 1) (reachFrom σ (σ.1 15 (ix (nI k))))
def mk3 (σ : SS) : SS := mTL 28 0 σ
def mk2 (σ : SS) : SS := mk3 (m7L 7 0 σ)
def mk1 (σ : SS) : SS := mk2 (m4L 4 0 σ)
def mk0 (σ : SS) : SS := mk1 (sA σ 20 0 0)
def markReached (σ : SS) : SS := mk0 (clrL 28 0 σ)
theorem RG_clrL {n : Nat} : ∀ {k : Nat} {σ : SS}, RG σ → RG (clrL n k σ) := by
  induction n with
  | zero => intro k σ h; exact h
  | succ n ih => intro k σ h; exact ih (RG_A h (by decide) _ _)
theorem RG_m4L {n : Nat} : ∀ {k : Nat} {σ : SS}, RG σ → RG (m4L n k σ) := by
  induction n with
  | zero => intro k σ h; exact h
  | succ n ih => intro k σ h; exact ih (RG_reach h _)
theorem RG_m7L {n : Nat} : ∀ {k : Nat} {σ : SS}, RG σ → RG (m7L n k σ) := by
  induction n with
  | zero => intro k σ h; exact h
  | succ n ih => intro k σ h; exact ih (RG_reach h _)
theorem RG_rfL {n : Nat} : ∀ {k : Nat} {σ : SS} {o : Int32}, RG σ → RG (rfL n k σ o) := by
  induction n with
  | zero => intro k σ o h; exact h
  | succ n ih => intro k σ o h; exact ih (RG_reach h _)
theorem RG_mTL {n : Nat} : ∀ {k : Nat} {σ : SS}, RG σ → RG (mTL n k σ) := by
  induction n with
  | zero => intro k σ h; exact h
  | succ n ih =>
    intro k σ h
    unfold mTL
    by_cases e : σ.1 20 0 ≤ nI k
    · rw [if_pos e]; exact h
    · rw [if_neg e]; exact ih (RG_rfL (RG_reach h _))
theorem RG_mark {σ : SS} (h : RG σ) : RG (markReached σ) := RG_mTL (RG_m7L (RG_m4L (RG_A (RG_clrL h) (by decide) _ _)))
theorem MK.trail {σ : SS} (h : MK σ) {k : Nat} (hk : k < 2 ^ 31) (e : ¬ σ.1 20 0 ≤ nI k) : vp_in (σ.1 15 (ix (nI k))) 28 := by
  rw [ix_nI hk]
  apply h.2
  rw [h.1, nI_leI (Nat.lt_of_le_of_lt (cntL_le _ _) (by decide)) hk] at e
  omega
theorem MK_0 {σ : SS} (h : ∀ i, i < 28 → σ.1 14 i = 0) : MK (sA σ 20 0 0) := by
  have h0 : cntL 28 ((sA σ 20 0 0).1 14) = 0 := cntL_0 h
  refine ⟨?_, fun j hj => ?_⟩
  · rw [h0]; rfl
  · rw [h0] at hj; omega
theorem clr_step {σ : SS} {k : Nat} (hk : k < 28) (h : ∀ i, i < k → σ.1 14 i = 0) : ∀ i, i < k + 1 → (sA σ 14 (ix (nI k)) 0).1 14 i = 0 := by
  intro i hi
  rw [sA_eq, ix_nI (by omega)]
  by_cases e : i = k
  · exact if_pos e
  · exact (if_neg e).trans (h i (by omega))
def unrL : Nat → Nat → SS → Int32 → SS × Int32
  | 0, _, σ, a => (σ, a)
  | n + 1, k, σ, a => if σ.1 4 (ix (nI k)) = 0 then unrL n (k + 1) σ a else if σ.1 14 (ix (nI k)) = 0 then unrL n (k + 1) (giveBack σ (nI k)) (a + 1) else unrL n (k + 1) σ a
def usL : Nat → Nat → SS → SS
  | 0, _, σ => σ
  | n + 1, k, σ => usL n (k + 1) (sA σ 5 (ix (nI k)) 0)
def unr (σ : SS) : SS × Int32 := unrL 24 4 (markReached σ) 0
def sweepS (σ : SS) : SS := stick (usL 28 0 (unr σ).1)
def slotOf (c t : Int32) : Int32 := c * 8 + t
def keep (σ : SS) (c t : Int32) (lo hi : Int64) : SS := sL (sL (sA σ 16 (ix (slotOf c t)) 1) 17 (ix (slotOf c t)) lo) 18 (ix (slotOf c t)) hi
def fgL : Nat → Nat → SS → Int32 → SS
  | 0, _, σ, _ => σ
  | n + 1, k, σ, c => fgL n (k + 1) (sA σ 16 (ix (slotOf c (nI k))) 0) c
def forget (σ : SS) (c : Int32) : SS := fgL 8 0 σ c
def has (σ : SS) (c t : Int32) : Int32 := σ.1 16 (ix (slotOf c t))
def byteSh (x : Int64) (q : Int32) : Int32 := (x.toUInt64 >>> (((q - q / 8 * 8) * 8).toInt64.toUInt64 &&& Int64.toUInt64 63)).toInt64.toInt32 &&& 255
def byteAt (σ : SS) (c t q : Int32) : Int32 := if 8 ≤ q then byteSh (σ.2.2 18 (ix (slotOf c t))) q else byteSh (σ.2.2 17 (ix (slotOf c t))) q
theorem slot_in {c t : Int32} (hc : vp_in c 28) (ht : vp_in t 8) : vp_in (slotOf c t) 224 := by
  obtain ⟨i, hi, rfl⟩ := vp_in_of hc (by decide)
  obtain ⟨j, hj, rfl⟩ := vp_in_of ht (by decide)
  show vp_in (nI i * 8 + nI j) 224
  rw [show (8 : Int32) = nI 8 from rfl, pk_mul, nI_add]
  exact vp_k (by omega) (by decide)
theorem le8N {k : Nat} (h : k < 2 ^ 31) : (8 : Int32) ≤ nI k ↔ 8 ≤ k := by rw [show (8 : Int32) = nI 8 from rfl, nI_leI (by omega) h]
theorem le4N {k : Nat} (h : k < 2 ^ 31) : (4 : Int32) ≤ nI k ↔ 4 ≤ k := by rw [show (4 : Int32) = nI 4 from rfl, nI_leI (by omega) h]
theorem le7N {k : Nat} (h : k < 2 ^ 31) : (7 : Int32) ≤ nI k ↔ 7 ≤ k := by rw [show (7 : Int32) = nI 7 from rfl, nI_leI (by omega) h]
