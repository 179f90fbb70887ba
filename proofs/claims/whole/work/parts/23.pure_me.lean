/-! the class's methods as pure functions; RG: the ranges that its rows keep -/
abbrev ix (w : Int32) : Nat := w.toNatClampNeg
theorem vp_ix {w : Int32} {n : Nat} (h : vp_in w n) : ix w < n := Nat.not_le.mp fun q => h (Or.inr q)
theorem n0 : (0 : Int32).toInt = 0 := rfl
theorem ilt0 {w : Int32} : w < 0 ↔ w.toInt < 0 := by rw [Int32.lt_iff_toInt_lt, n0]
theorem le28 {w : Int32} : 28 ≤ w ↔ 28 ≤ w.toInt := by rw [Int32.le_iff_toInt_le]; exact Iff.rfl
theorem vp_28 {w : Int32} (h0 : 0 ≤ w.toInt) (h : ¬ 28 ≤ w) : vp_in w 28 := by
  rw [vp_in_iff]
  rw [le28] at h
  omega
theorem vp_0 : vp_in 0 28 := vp_28 (by decide) (by decide)
theorem vp_up {w : Int32} {a b : Nat} (h : vp_in w a) (hab : a ≤ b) : vp_in w b := by
  rw [vp_in_iff] at h ⊢
  omega
theorem vp_nn {w : Int32} {a : Nat} (h : vp_in w a) : 0 ≤ w.toInt := (vp_in_iff.mp h).1
theorem vp_k {k n : Nat} (h : k < n) (hn : n < 2 ^ 31) : vp_in (nI k) n := vp_in_nI h hn
theorem ix_nI {k : Nat} (h : k < 2 ^ 31) : ix (nI k) = k := nI_clamp h
theorem le28N {k : Nat} (h : k < 2 ^ 31) : (28 : Int32) ≤ nI k ↔ 28 ≤ k := by rw [show (28 : Int32) = nI 28 from rfl, nI_leI (by omega) h]
theorem nI_inc (k : Nat) : nI k + Int32.ofInt 1 = nI (k + 1) := (nI_succ k).symm
def isObject (w : Int32) : Int32 := if w < 0 then 0 else if 28 ≤ w then 0 else 1
def isHandle (w : Int32) : Int32 := if w < 0 then 0 else if 6 ≤ w then 0 else 1
def isSelector (w : Int32) : Int32 := if w < 0 then 0 else if 8 ≤ w then 0 else 1
def argumentsOf (w : Int32) : Int32 := w - w / 3 * 3
theorem isObject_in {w : Int32} (h : ¬ isObject w = 0) : vp_in w 28 := by
  unfold isObject at h
  by_cases h1 : w < 0
  · simp [h1] at h
  · by_cases h2 : 28 ≤ w
    · simp [h1, h2] at h
    · rw [ilt0] at h1
      exact vp_28 (by omega) h2
def hold (σ : SS) (w : Int32) : SS := if 28 ≤ w then σ else sA σ 11 (ix w) (σ.1 11 (ix w) + 1)
def release (σ : SS) (w : Int32) : SS := if 28 ≤ w then σ else sA σ 11 (ix w) (σ.1 11 (ix w) - 1)
def isAlive (σ : SS) (o : Int32) : Int32 := if isObject o = 0 then 0 else if σ.1 4 (ix o) = 0 then 0 else 1
def isClass (σ : SS) (o : Int32) : Int32 := if isAlive σ o = 0 then 0 else if σ.1 6 (ix o) = 0 then 0 else 1
def isClassOrNil (σ : SS) (o : Int32) : Int32 := if o = 0 then 1 else if isClass σ o = 0 then 0 else 1
def isContext (σ : SS) (o : Int32) : Int32 := if isAlive σ o = 0 then 0 else if σ.1 7 (ix o) = 3 then 1 else 0
def hasField (σ : SS) (o k : Int32) : Int32 := if isAlive σ o = 0 then 0 else if k < 0 then 0 else if σ.1 8 (ix o) ≤ k then 0 else 1
def hasFreeField (σ : SS) (o k : Int32) : Int32 := if hasField σ o k = 0 then 0 else if isClass σ o = 0 then (if isContext σ o = 0 then 1 else 0) else 0
def classOfWord (σ : SS) (w : Int32) : Int32 := if isObject w = 0 then 2 else σ.1 7 (ix w)
theorem isAlive_in {σ : SS} {w : Int32} (h : ¬ isAlive σ w = 0) : vp_in w 28 := by
  unfold isAlive at h
  by_cases h1 : isObject w = 0
  · simp [h1] at h
  · exact isObject_in h1
def setField (σ : SS) (o k w : Int32) : SS := hold (sG (release σ (σ.2.1 (ix o) (ix k))) (ix o) (ix k) w) w
def setRegister (σ : SS) (r w : Int32) : SS := hold (sA (release σ (σ.1 13 (ix r))) 13 (ix r) w) w
def wake1 (σ : SS) (o c n : Int32) : SS := hold (sA (sA (sA σ 4 (ix o) 1) 7 (ix o) c) 8 (ix o) n) c
def wake (σ : SS) (o c n : Int32) : SS := sA (wake1 σ o c n) 11 0 ((wake1 σ o c n).1 11 0 + n)
def countOf (σ : SS) (o : Int32) : Int32 := if σ.1 5 (ix o) = 0 then σ.1 11 (ix o) else 6
def topBut (σ : SS) (o a : Int32) : Int32 := σ.2.1 (ix o) (ix (9 + σ.1 10 (ix o) - 1 - a))
/-- the ranges -/
def RG (σ : SS) : Prop := (∀ i j, i < 28 → j < 15 → 0 ≤ (σ.2.1 i j).toInt) ∧ (∀ i, i < 7 → 0 ≤ (σ.1 13 i).toInt) ∧ (∀ i, i < 28 → 0 ≤ (σ.1 7 i).toInt ∧ (σ.1 7 i).toInt < 28) ∧ (∀ i, i < 28 → 0 ≤ (σ.1 8 i).toInt ∧ (σ.1 8 i).toInt ≤ 15) ∧ (∀ i, i < 28 → 0 ≤ (σ.1 9 i).toInt ∧ (σ.1 9 i).toInt ≤ 6) ∧ (∀ i, i < 28 → 0 ≤ (σ.1 10 i).toInt ∧ (σ.1 10 i).toInt ≤ 6)
theorem sA_ne (σ : SS) {k a : Nat} (h : a ≠ k) (j : Nat) (x : Int32) : (sA σ k j x).1 a = σ.1 a := if_neg h
theorem sA_eq (σ : SS) (k j : Nat) (x : Int32) : (sA σ k j x).1 k = upd (σ.1 k) j x := if_pos rfl
theorem upd_P {P : Int32 → Prop} {f : Nat → Int32} {j i : Nat} {x : Int32} (h : P (f i)) (hx : P x) : P (upd f j x i) := by
  unfold upd
  by_cases e : i = j
  · rw [if_pos e]; exact hx
  · rw [if_neg e]; exact h
theorem RG_A {σ : SS} (h : RG σ) {k : Nat} (hk : k ≠ 7 ∧ k ≠ 8 ∧ k ≠ 9 ∧ k ≠ 10 ∧ k ≠ 13) (j : Nat) (x : Int32) : RG (sA σ k j x) := by
  obtain ⟨h1, h2, h3, h4, h5, h6⟩ := h
  refine ⟨h1, ?_, ?_, ?_, ?_, ?_⟩ <;> rw [sA_ne σ (by omega)] <;> assumption
theorem RG_13 {σ : SS} (h : RG σ) (j : Nat) {x : Int32} (hx : 0 ≤ x.toInt) : RG (sA σ 13 j x) := by
  obtain ⟨h1, h2, h3, h4, h5, h6⟩ := h
  refine ⟨h1, ?_, ?_, ?_, ?_, ?_⟩
  · rw [sA_eq]; exact fun i hi => upd_P (P := fun y => 0 ≤ y.toInt) (h2 i hi) hx
  all_goals rw [sA_ne σ (by omega)]; assumption
theorem RG_7 {σ : SS} (h : RG σ) (j : Nat) {x : Int32} (hx : 0 ≤ x.toInt ∧ x.toInt < 28) : RG (sA σ 7 j x) := by
  obtain ⟨h1, h2, h3, h4, h5, h6⟩ := h
  refine ⟨h1, ?_, ?_, ?_, ?_, ?_⟩
  · rw [sA_ne σ (by omega)]; assumption
  · rw [sA_eq]; exact fun i hi => upd_P (P := fun y => 0 ≤ y.toInt ∧ y.toInt < 28) (h3 i hi) hx
  all_goals rw [sA_ne σ (by omega)]; assumption
theorem RG_8 {σ : SS} (h : RG σ) (j : Nat) {x : Int32} (hx : 0 ≤ x.toInt ∧ x.toInt ≤ 15) : RG (sA σ 8 j x) := by
  obtain ⟨h1, h2, h3, h4, h5, h6⟩ := h
  refine ⟨h1, ?_, ?_, ?_, ?_, ?_⟩
  · rw [sA_ne σ (by omega)]; assumption
  · rw [sA_ne σ (by omega)]; assumption
  · rw [sA_eq]; exact fun i hi => upd_P (P := fun y => 0 ≤ y.toInt ∧ y.toInt ≤ 15) (h4 i hi) hx
  all_goals rw [sA_ne σ (by omega)]; assumption
theorem RG_9 {σ : SS} (h : RG σ) (j : Nat) {x : Int32} (hx : 0 ≤ x.toInt ∧ x.toInt ≤ 6) : RG (sA σ 9 j x) := by
  obtain ⟨h1, h2, h3, h4, h5, h6⟩ := h
  refine ⟨h1, ?_, ?_, ?_, ?_, ?_⟩
  · rw [sA_ne σ (by omega)]; assumption
  · rw [sA_ne σ (by omega)]; assumption
  · rw [sA_ne σ (by omega)]; assumption
  · rw [sA_eq]; exact fun i hi => upd_P (P := fun y => 0 ≤ y.toInt ∧ y.toInt ≤ 6) (h5 i hi) hx
  · rw [sA_ne σ (by omega)]; assumption
theorem RG_10 {σ : SS} (h : RG σ) (j : Nat) {x : Int32} (hx : 0 ≤ x.toInt ∧ x.toInt ≤ 6) : RG (sA σ 10 j x) := by
  obtain ⟨h1, h2, h3, h4, h5, h6⟩ := h
  refine ⟨h1, ?_, ?_, ?_, ?_, ?_⟩
  · rw [sA_ne σ (by omega)]; assumption
  · rw [sA_ne σ (by omega)]; assumption
  · rw [sA_ne σ (by omega)]; assumption
  · rw [sA_ne σ (by omega)]; assumption
  · rw [sA_eq]; exact fun i hi => upd_P (P := fun y => 0 ≤ y.toInt ∧ y.toInt ≤ 6) (h6 i hi) hx
theorem RG_G {σ : SS} (h : RG σ) (n j : Nat) {x : Int32} (hx : 0 ≤ x.toInt) : RG (sG σ n j x) := by
  obtain ⟨h1, h2⟩ := h
  refine ⟨fun i k hi hk => ?_, h2⟩
  show 0 ≤ ((if i = n then upd (σ.2.1 i) j x else σ.2.1 i) k).toInt
  by_cases e : i = n
  · rw [if_pos e]; exact upd_P (P := fun y => 0 ≤ y.toInt) (h1 i k hi hk) hx
  · rw [if_neg e]; exact h1 i k hi hk
theorem RG_hold {σ : SS} (h : RG σ) (w : Int32) : RG (hold σ w) := by
  unfold hold
  by_cases e : 28 ≤ w
  · rw [if_pos e]; exact h
  · rw [if_neg e]; exact RG_A h (by decide) _ _
theorem RG_release {σ : SS} (h : RG σ) (w : Int32) : RG (release σ w) := by
  unfold release
  by_cases e : 28 ≤ w
  · rw [if_pos e]; exact h
  · rw [if_neg e]; exact RG_A h (by decide) _ _
theorem RG.grid {σ : SS} (h : RG σ) {o k : Int32} (ho : vp_in o 28) (hk : vp_in k 15) : 0 ≤ (σ.2.1 (ix o) (ix k)).toInt := h.1 _ _ (vp_ix ho) (vp_ix hk)
theorem RG.reg {σ : SS} (h : RG σ) {r : Int32} (hr : vp_in r 7) : 0 ≤ (σ.1 13 (ix r)).toInt := h.2.1 _ (vp_ix hr)
theorem RG.cls {σ : SS} (h : RG σ) {o : Int32} (ho : vp_in o 28) : vp_in (σ.1 7 (ix o)) 28 := vp_in_iff.mpr (h.2.2.1 _ (vp_ix ho))
theorem RG_setField {σ : SS} (h : RG σ) (o k : Int32) {w : Int32} (hw : 0 ≤ w.toInt) : RG (setField σ o k w) := RG_hold (RG_G (RG_release h _) _ _ hw) _
theorem RG_setRegister {σ : SS} (h : RG σ) (r : Int32) {w : Int32} (hw : 0 ≤ w.toInt) : RG (setRegister σ r w) := RG_hold (RG_13 (RG_release h _) _ hw) _
theorem RG_wake {σ : SS} (h : RG σ) (o : Int32) {c n : Int32} (hc : vp_in c 28) (hn : 0 ≤ n.toInt ∧ n.toInt ≤ 15) : RG (wake σ o c n) := RG_A (RG_hold (RG_8 (RG_7 (RG_A h (by decide) _ _) _ (vp_in_iff.mp hc)) _ hn) _) (by decide) _ _
