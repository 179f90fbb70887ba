/-! more of Memory, with its loops -/
theorem vpc {w : Int32} {n : Nat} (h : 0 ≤ w.toInt ∧ w.toInt < n) : vp_in w n := vp_in_iff.mpr h
theorem ix_back {w : Int32} (h : 0 ≤ w.toInt) : nI (ix w) = w := by
  obtain ⟨j, hj, rfl⟩ := nI_of (x := w) (by rw [ilt0]; omega)
  rw [ix_nI hj]
theorem ix_toInt {w : Int32} (h : 0 ≤ w.toInt) : (ix w : Int) = w.toInt := by
  obtain ⟨j, hj, rfl⟩ := nI_of (x := w) (by rw [ilt0]; omega)
  rw [ix_nI hj, nI_toInt hj]
theorem ix_le {w : Int32} {n : Nat} (h : w.toInt ≤ n) : ix w ≤ n := by
  by_cases h0 : 0 ≤ w.toInt
  · have := ix_toInt h0; omega
  · have e : ix w = 0 := by
      show w.toInt.toNat = 0
      omega
    omega
theorem ix_mono {a b : Int32} (h0 : 0 ≤ a.toInt) (h : a.toInt ≤ b.toInt) : ix a ≤ ix b := by
  have h1 := ix_toInt h0
  have h2 := ix_toInt (w := b) (by omega)
  omega
def leastL : Nat → Nat → SS → Int32
  | 0, _, _ => -1
  | n + 1, k, σ => if σ.1 4 (ix (nI k)) = 0 then nI k else leastL n (k + 1) σ
def leastFree (σ : SS) : Int32 := leastL 24 4 σ
theorem leastL_in {n : Nat} : ∀ {k : Nat} {σ : SS}, k + n = 28 → ¬ leastL n k σ = -1 → vp_in (leastL n k σ) 28 := by
  induction n with
  | zero => intro k σ _ h; exact absurd rfl h
  | succ n ih =>
    intro k σ hk h
    unfold leastL at h ⊢
    by_cases e : σ.1 4 (ix (nI k)) = 0
    · rw [if_pos e]; exact vp_k (by omega) (by decide)
    · rw [if_neg e] at h ⊢; exact ih (by omega) h
theorem leastFree_in {σ : SS} (h : ¬ leastFree σ = -1) : vp_in (leastFree σ) 28 := leastL_in (by omega) h
def wakeClass (σ : SS) (o s z : Int32) : SS := setField (sA (sA (wake σ o 1 1) 6 (ix o) 1) 9 (ix o) z) o 0 s
theorem RG_wakeClass {σ : SS} (h : RG σ) (o : Int32) {s z : Int32} (hs : 0 ≤ s.toInt) (hz : 0 ≤ z.toInt ∧ z.toInt ≤ 6) : RG (wakeClass σ o s z) := RG_setField (RG_9 (RG_A (RG_wake h _ (vpc (by decide)) (by decide)) (by decide) _ _) _ hz) _ _ hs
def newClass (σ : SS) (s z : Int32) : SS := if leastFree σ = -1 then σ else wakeClass σ (leastFree σ) s z
def newInstance (σ : SS) (c : Int32) : SS := if leastFree σ = -1 then σ else wake σ (leastFree σ) c (σ.1 9 (ix c))
def ctx (σ : SS) (o r f t : Int32) : SS := setField (setField (setField (setField (wake σ o 3 15) o 1 r) o 2 f) o 3 (1000 + t)) o 4 1000
def newContext (σ : SS) (r f t : Int32) : SS := if leastFree σ = -1 then σ else ctx σ (leastFree σ) r f t
theorem k1000 {t : Int32} (h : vp_in t 8) : 0 ≤ (1000 + t).toInt := by
  obtain ⟨j, hj, rfl⟩ := vp_in_of h (by decide)
  rw [show (1000 : Int32) = nI 1000 from rfl, nI_add, nI_toInt (by omega)]
  omega
theorem RG_ctx0 {σ : SS} (h : RG σ) (o : Int32) : RG (wake σ o 3 15) := RG_wake h _ (vpc (by decide)) (by decide)
theorem RG_ctx {σ : SS} (h : RG σ) (o : Int32) {r f t : Int32} (hr : 0 ≤ r.toInt) (hf : 0 ≤ f.toInt) (ht : vp_in t 8) : RG (ctx σ o r f t) := RG_setField (RG_setField (RG_setField (RG_setField (RG_ctx0 h o) _ _ hr) _ _ hf) _ _ (k1000 ht)) _ _ (by decide)
def pushF (σ : SS) (c w : Int32) : SS := setField σ c (9 + σ.1 10 (ix c)) w
def push (σ : SS) (c w : Int32) : SS := sA (pushF σ c w) 10 (ix c) ((pushF σ c w).1 10 (ix c) + 1)
def popD (σ : SS) (c : Int32) : SS := sA σ 10 (ix c) (σ.1 10 (ix c) - 1)
def pop (σ : SS) (c : Int32) : SS := setField (popD σ c) c (9 + (popD σ c).1 10 (ix c)) 0
theorem popD_10 (σ : SS) (c : Int32) : (popD σ c).1 10 (ix c) = σ.1 10 (ix c) - 1 := by
  unfold popD
  rw [sA_eq]
  exact if_pos rfl
def stickL : Nat → Nat → SS → SS
  | 0, _, σ => σ
  | n + 1, k, σ => stickL n (k + 1) (if σ.1 4 (ix (nI k)) = 0 then σ else if σ.1 11 (ix (nI k)) < 6 then σ else sA σ 5 (ix (nI k)) 1)
def stick (σ : SS) : SS := stickL 28 0 σ
def aliveL : Nat → Nat → SS → Int32 → Int32
  | 0, _, _, a => a
  | n + 1, k, σ, a => aliveL n (k + 1) σ (if σ.1 4 (ix (nI k)) = 0 then a else a + 1)
def howManyAlive (σ : SS) : Int32 := aliveL 28 0 σ 0
def gbL : Nat → Nat → SS → Int32 → SS
  | 0, _, σ, _ => σ
  | n + 1, k, σ, o => gbL n (k + 1) (sG (release σ (σ.2.1 (ix o) (ix (nI k)))) (ix o) (ix (nI k)) 0) o
def gb1 (σ : SS) (o : Int32) : SS := gbL (ix (σ.1 8 (ix o))) 0 (release σ (σ.1 7 (ix o))) o
def giveBack (σ : SS) (o : Int32) : SS := sA (sA (sA (sA (sA (gb1 σ o) 4 (ix o) 0) 5 (ix o) 0) 6 (ix o) 0) 8 (ix o) 0) 10 (ix o) 0
theorem hold_ne (σ : SS) (w : Int32) {a : Nat} (h : a ≠ 11) : (hold σ w).1 a = σ.1 a := by
  unfold hold
  by_cases e : 28 ≤ w
  · rw [if_pos e]
  · rw [if_neg e, sA_ne σ h]
theorem release_ne (σ : SS) (w : Int32) {a : Nat} (h : a ≠ 11) : (release σ w).1 a = σ.1 a := by
  unfold release
  by_cases e : 28 ≤ w
  · rw [if_pos e]
  · rw [if_neg e, sA_ne σ h]
theorem RG_gbL {n : Nat} : ∀ {k : Nat} {σ : SS} {o : Int32}, RG σ → RG (gbL n k σ o) := by
  induction n with
  | zero => intro k σ o h; exact h
  | succ n ih => intro k σ o h; exact ih (RG_G (RG_release h _) _ _ (by decide))
theorem gbL_ne {n : Nat} : ∀ {k : Nat} {σ : SS} {o : Int32} {a : Nat}, a ≠ 11 → (gbL n k σ o).1 a = σ.1 a := by
  induction n with
  | zero => intro k σ o a h; rfl
  | succ n ih => intro k σ o a h; exact (ih h).trans (release_ne σ _ h)
theorem RG_giveBack {σ : SS} (h : RG σ) (o : Int32) : RG (giveBack σ o) := RG_10 (RG_8 (RG_A (RG_A (RG_A (RG_gbL (RG_release h _)) (by decide) _ _) (by decide) _ _) (by decide) _ _) _ (by decide)) _ (by decide)
def unheldL : Nat → Nat → SS → Int32 → SS × Int32
  | 0, _, σ, s => (σ, s)
  | n + 1, k, σ, s => if σ.1 4 (ix (nI k)) = 0 then unheldL n (k + 1) σ s else if σ.1 5 (ix (nI k)) = 0 then (if σ.1 11 (ix (nI k)) = 0 then unheldL n (k + 1) (giveBack σ (nI k)) 1 else unheldL n (k + 1) σ s) else unheldL n (k + 1) σ s
def unheld (σ : SS) : SS × Int32 := unheldL 24 4 σ 0
theorem RG_unheldL {n : Nat} : ∀ {k : Nat} {σ : SS} {s : Int32}, RG σ → RG (unheldL n k σ s).1 := by
  induction n with
  | zero => intro k σ s h; exact h
  | succ n ih =>
    intro k σ s h
    unfold unheldL
    by_cases e1 : σ.1 4 (ix (nI k)) = 0
    · rw [if_pos e1]; exact ih h
    · rw [if_neg e1]
      by_cases e2 : σ.1 5 (ix (nI k)) = 0
      · rw [if_pos e2]
        by_cases e3 : σ.1 11 (ix (nI k)) = 0
        · rw [if_pos e3]; exact ih (RG_giveBack h _)
        · rw [if_neg e3]; exact ih h
      · rw [if_neg e2]; exact ih h
theorem RG_unheld {σ : SS} (h : RG σ) : RG (unheld σ).1 := RG_unheldL h
def settleL : Nat → SS → Int32 → SS
  | 0, σ, _ => σ
  | n + 1, σ, a => if a = 0 then σ else settleL n (unheld σ).1 (unheld σ).2
def settle (σ : SS) : SS := stick (settleL 28 σ 1)
theorem RG_stickL {n : Nat} : ∀ {k : Nat} {σ : SS}, RG σ → RG (stickL n k σ) := by
  induction n with
  | zero => intro k σ h; exact h
  | succ n ih =>
    intro k σ h
    unfold stickL
    apply ih
    by_cases e1 : σ.1 4 (ix (nI k)) = 0
    · rw [if_pos e1]; exact h
    · rw [if_neg e1]
      by_cases e2 : σ.1 11 (ix (nI k)) < 6
      · rw [if_pos e2]; exact h
      · rw [if_neg e2]; exact RG_A h (by decide) _ _
theorem RG_settleL {n : Nat} : ∀ {σ : SS} {a : Int32}, RG σ → RG (settleL n σ a) := by
  induction n with
  | zero => intro σ a h; exact h
  | succ n ih =>
    intro σ a h
    unfold settleL
    by_cases e : a = 0
    · rw [if_pos e]; exact h
    · rw [if_neg e]; exact ih (RG_unheldL h)
theorem RG_settle {σ : SS} (h : RG σ) : RG (settle σ) := RG_stickL (RG_settleL h)
def popL : Nat → Nat → SS → Int32 → SS
  | 0, _, σ, _ => σ
  | n + 1, k, σ, c => popL n (k + 1) (setField σ c (9 + nI k) 0) c
def popDownTo (σ : SS) (c d : Int32) : SS := sA (popL (ix (σ.1 10 (ix c)) - ix d) (ix d) σ c) 10 (ix c) d
theorem setField_ne (σ : SS) (o k w : Int32) {a : Nat} (h : a ≠ 11) : (setField σ o k w).1 a = σ.1 a := by
  unfold setField
  rw [hold_ne _ _ h]
  exact release_ne σ _ h
def amongL : Nat → SS → Int32 → Int32 → Int32
  | 0, _, _, a => a
  | n + 1, σ, c, a => if a = 0 then a else if a = c then a else amongL n σ c (σ.2.1 (ix a) (ix 0))
def isAmong (σ : SS) (c f : Int32) : Int32 := if amongL 28 σ c f = c then 1 else 0
/-- superclasses stay among the objects -/
def supN (σ : SS) : Nat → Int32 → Int32
  | 0, a => a
  | n + 1, a => supN σ n (σ.2.1 (ix a) (ix 0))
def Sup (σ : SS) (a : Int32) : Prop := ∀ n, vp_in (supN σ n a) 28
theorem Sup.step {σ : SS} {a : Int32} (h : Sup σ a) : Sup σ (σ.2.1 (ix a) (ix 0)) := fun n => h (n + 1)
theorem d_of {d : Int32} (h0 : 0 ≤ d.toInt) {n : Nat} (h : d.toInt ≤ n) (hn : n < 2 ^ 31) : ∃ j : Nat, j ≤ n ∧ d = nI j := by
  obtain ⟨j, hj, rfl⟩ := nI_of (x := d) (by rw [ilt0]; omega)
  rw [nI_toInt hj] at h
  exact ⟨j, by omega, rfl⟩
theorem top_in {d a : Int32} (h0 : 0 ≤ a.toInt) (h1 : a.toInt + 1 ≤ d.toInt) (h2 : d.toInt ≤ 6) : vp_in (9 + d - 1 - a) 15 := by
  obtain ⟨j, hj, rfl⟩ := d_of (d := d) (by omega) (n := 6) (by omega) (by decide)
  rw [nI_toInt (by omega)] at h1
  obtain ⟨i, hi, rfl⟩ := d_of (d := a) h0 (n := 6) (by omega) (by decide)
  rw [nI_toInt (by omega)] at h1
  rw [show (9 : Int32) = nI 9 from rfl, show (1 : Int32) = nI 1 from rfl, nI_add, pk_sub (by omega), pk_sub (by omega)]
  exact vp_k (by omega) (by decide)
theorem push_in {d : Int32} (h0 : 0 ≤ d.toInt) (h : d.toInt < 6) : vp_in (9 + d) 15 := by
  obtain ⟨j, hj, rfl⟩ := d_of (d := d) h0 (n := 5) (by omega) (by decide)
  rw [show (9 : Int32) = nI 9 from rfl, nI_add]
  exact vp_k (by omega) (by decide)
theorem dec_in {d : Int32} (h1 : 1 ≤ d.toInt) (h2 : d.toInt ≤ 6) : (d - 1).toInt = d.toInt - 1 := by
  obtain ⟨j, hj, rfl⟩ := d_of (d := d) (by omega) (n := 6) (by omega) (by decide)
  rw [nI_toInt (by omega)] at h1
  rw [show (1 : Int32) = nI 1 from rfl, pk_sub (by omega), nI_toInt (by omega), nI_toInt (by omega)]
  omega
theorem inc_in {d : Int32} (h1 : 0 ≤ d.toInt) (h2 : d.toInt < 6) : (d + 1).toInt = d.toInt + 1 := by
  obtain ⟨j, hj, rfl⟩ := d_of (d := d) (by omega) (n := 6) (by omega) (by decide)
  rw [show (1 : Int32) = nI 1 from rfl, nI_add, nI_toInt (by omega), nI_toInt (by omega)]
  omega
theorem RG.dep {σ : SS} (h : RG σ) {o : Int32} (ho : vp_in o 28) : 0 ≤ (σ.1 10 (ix o)).toInt ∧ (σ.1 10 (ix o)).toInt ≤ 6 := h.2.2.2.2.2 _ (vp_ix ho)
theorem Sup.vp {σ : SS} {a : Int32} (h : Sup σ a) : vp_in a 28 := h 0
