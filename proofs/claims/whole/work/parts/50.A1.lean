/-! sums, and how many hold an object -/
def sm : Nat → (Nat → Nat) → Nat
  | 0, _ => 0
  | n + 1, f => sm n f + f n
theorem sm_congr {f g : Nat → Nat} : ∀ {n : Nat}, (∀ i, i < n → f i = g i) → sm n f = sm n g := by
  intro n
  induction n with
  | zero => intro _; rfl
  | succ n ih => intro h; unfold sm; rw [ih (fun i hi => h i (by omega)), h n (by omega)]
theorem sm_one {f g : Nat → Nat} {i : Nat} : ∀ {n : Nat}, i < n → (∀ j, j < n → j ≠ i → f j = g j) → sm n f + g i = sm n g + f i := by
  intro n
  induction n with
  | zero => intro h; omega
  | succ n ih =>
    intro hi h
    unfold sm
    by_cases e : i = n
    · subst e
      rw [sm_congr (f := f) (g := g) (fun j hj => h j (by omega) (by omega))]
      omega
    · have h1 := ih (by omega) (fun j hj hn => h j (by omega) hn)
      have h2 := h n (by omega) (fun q => e q.symm)
      omega
theorem sm_pos {f : Nat → Nat} : ∀ {n : Nat}, 0 < sm n f ↔ ∃ i, i < n ∧ 0 < f i := by
  intro n
  induction n with
  | zero => exact ⟨fun h => absurd h (Nat.lt_irrefl 0), fun ⟨i, hi, _⟩ => absurd hi (Nat.not_lt_zero i)⟩
  | succ n ih =>
    unfold sm
    constructor
    · intro h
      by_cases h1 : 0 < sm n f
      · obtain ⟨i, hi, q⟩ := ih.mp h1; exact ⟨i, by omega, q⟩
      · exact ⟨n, by omega, by omega⟩
    · rintro ⟨i, hi, q⟩
      by_cases e : i = n
      · subst e; omega
      · have := ih.mpr ⟨i, by omega, q⟩; omega
theorem sm_le {f g : Nat → Nat} : ∀ {n : Nat}, (∀ i, i < n → f i ≤ g i) → sm n f ≤ sm n g := by
  intro n
  induction n with
  | zero => intro _; exact Nat.le_refl 0
  | succ n ih => intro h; unfold sm; have h1 := ih (fun i hi => h i (by omega)); have h2 := h n (by omega); omega
theorem sm_bd {f : Nat → Nat} {b : Nat} : ∀ {n : Nat}, (∀ i, i < n → f i ≤ b) → sm n f ≤ n * b := by
  intro n
  induction n with
  | zero => intro _; exact Nat.zero_le _
  | succ n ih => intro h; unfold sm; have h1 := ih (fun i hi => h i (by omega)); have h2 := h n (by omega); rw [Nat.succ_mul]; omega
theorem sm_zero {f : Nat → Nat} {n : Nat} (h : ∀ i, i < n → f i = 0) : sm n f = 0 := by
  have := sm_bd (f := f) (b := 0) (n := n) (fun i hi => by rw [h i hi]; exact Nat.le_refl 0)
  omega
theorem sm_const {f : Nat → Nat} {b : Nat} : ∀ {n : Nat}, (∀ i, i < n → f i = b) → sm n f = n * b := by
  intro n
  induction n with
  | zero => intro _; simp [sm]
  | succ n ih => intro h; unfold sm; rw [ih (fun i hi => h i (by omega)), h n (by omega), Nat.succ_mul]
def ew (w : Int32) (o : Nat) : Nat := if w = nI o then 1 else 0
theorem ew_le (w : Int32) (o : Nat) : ew w o ≤ 1 := by unfold ew; split <;> omega
theorem ew_pos {w : Int32} {o : Nat} : 0 < ew w o ↔ w = nI o := by unfold ew; split <;> simp_all
def c1 (σ : SS) (i o : Nat) : Nat := ew (σ.1 7 i) o + sm (ix (σ.1 8 i)) (fun k => ew (σ.2.1 i k) o)
def tal (L : Nat → Int32) (σ : SS) (o : Nat) : Nat := sm 28 (fun i => if L i = 0 then 0 else c1 σ i o) + sm 7 (fun r => ew (σ.1 13 r) o)
def tally (σ : SS) (o : Nat) : Nat := tal (σ.1 4) σ o
def HC (σ : SS) : Prop := ∀ o, o < 28 → σ.1 11 o = nI (tally σ o)
theorem c1_bd {σ : SS} (hg : RG σ) {i : Nat} (hi : i < 28) (o : Nat) : c1 σ i o ≤ 16 := by
  unfold c1
  have h1 := ew_le (σ.1 7 i) o
  have h2 := sm_bd (f := fun k => ew (σ.2.1 i k) o) (b := 1) (n := ix (σ.1 8 i)) (fun k _ => ew_le _ _)
  have h3 := ix_le (w := σ.1 8 i) (n := 15) (hg.2.2.2.1 i hi).2
  omega
theorem tal_bd {σ : SS} (hg : RG σ) (L : Nat → Int32) (o : Nat) : tal L σ o ≤ 455 := by
  unfold tal
  have h1 := sm_bd (f := fun i => if L i = 0 then 0 else c1 σ i o) (b := 16) (n := 28) (fun i hi => by
    show (if L i = 0 then 0 else c1 σ i o) ≤ 16
    split
    · omega
    · exact c1_bd hg hi o)
  have h2 := sm_bd (f := fun r => ew (σ.1 13 r) o) (b := 1) (n := 7) (fun k _ => ew_le _ _)
  omega
theorem tally_bd {σ : SS} (hg : RG σ) (o : Nat) : tally σ o ≤ 455 := tal_bd hg _ _
theorem nI_cancel {t t1 a b : Nat} (h : t1 + a = t + b) : nI t1 = nI t - nI a + nI b := by
  have h1 : nI t1 + nI a = nI t + nI b := by rw [nI_add, nI_add, h]
  have h2 : nI t1 = nI t + nI b - nI a := by rw [← h1, Int32.add_sub_cancel]
  rw [h2, Int32.sub_eq_add_neg, Int32.sub_eq_add_neg, Int32.add_assoc, Int32.add_assoc, Int32.add_comm (nI b)]
theorem ix_inj {w : Int32} {o : Nat} (h0 : 0 ≤ w.toInt) (ho : o < 2 ^ 31) : w = nI o ↔ ix w = o := by
  constructor
  · intro h; rw [h, ix_nI ho]
  · intro h; rw [← h, ix_back h0]
theorem hold_11 {σ : SS} {w : Int32} (h0 : 0 ≤ w.toInt) {o : Nat} (ho : o < 28) : (hold σ w).1 11 o = σ.1 11 o + nI (ew w o) := by
  unfold hold ew
  by_cases h28 : 28 ≤ w
  · rw [if_pos h28, if_neg (fun q => by rw [le28, q, nI_toInt (by omega)] at h28; omega)]
    exact (Int32.add_zero _).symm
  · rw [if_neg h28, sA_eq]
    by_cases hw : w = nI o
    · rw [if_pos hw, hw, ix_nI (by omega), pk_us]; rfl
    · rw [if_neg hw, pk_un (fun q => hw ((ix_inj h0 (by omega)).mpr q.symm))]
      exact (Int32.add_zero _).symm
theorem release_11 {σ : SS} {w : Int32} (h0 : 0 ≤ w.toInt) {o : Nat} (ho : o < 28) : (release σ w).1 11 o = σ.1 11 o - nI (ew w o) := by
  unfold release ew
  by_cases h28 : 28 ≤ w
  · rw [if_pos h28, if_neg (fun q => by rw [le28, q, nI_toInt (by omega)] at h28; omega)]
    exact (Int32.sub_zero _).symm
  · rw [if_neg h28, sA_eq]
    by_cases hw : w = nI o
    · rw [if_pos hw, hw, ix_nI (by omega), pk_us]; rfl
    · rw [if_neg hw, pk_un (fun q => hw ((ix_inj h0 (by omega)).mpr q.symm))]
      exact (Int32.sub_zero _).symm
theorem setField_g (σ : SS) (o k w : Int32) : (setField σ o k w).2 = (fun a => if a = ix o then upd (σ.2.1 a) (ix k) w else σ.2.1 a, σ.2.2) := by
  unfold setField
  rw [hold_G]
  show ((fun a => if a = ix o then upd ((release σ _).2.1 a) (ix k) w else (release σ _).2.1 a), (release σ _).2.2) = _
  rw [release_G]
theorem setRegister_G (σ : SS) (r w : Int32) : (setRegister σ r w).2 = σ.2 := by
  unfold setRegister
  rw [hold_G]
  exact release_G _ _
theorem setRegister_ne (σ : SS) (r w : Int32) {a : Nat} (h : a ≠ 11) (h2 : a ≠ 13) : (setRegister σ r w).1 a = σ.1 a := by
  unfold setRegister
  rw [hold_ne _ _ h, sA_ne _ h2, release_ne _ _ h]
theorem setRegister_13 (σ : SS) (r w : Int32) : (setRegister σ r w).1 13 = upd (σ.1 13) (ix r) w := by
  unfold setRegister
  rw [hold_ne _ _ (by decide), sA_eq, release_ne _ _ (by decide)]
theorem HC_setField {σ : SS} (hg : RG σ) (hc : HC σ) {o k w : Int32} (ho : vp_in o 28) (hk : vp_in k 15) (hl : ¬ σ.1 4 (ix o) = 0) (hf : ix k < ix (σ.1 8 (ix o))) (hw : 0 ≤ w.toInt) : HC (setField σ o k w) := by
  intro x hx
  have hr : 0 ≤ (σ.2.1 (ix o) (ix k)).toInt := hg.grid ho hk
  have e1 : (setField σ o k w).1 11 x = σ.1 11 x - nI (ew (σ.2.1 (ix o) (ix k)) x) + nI (ew w x) := by
    unfold setField
    rw [hold_11 hw hx]
    show (release σ _).1 11 x + _ = _
    rw [release_11 hr hx]
  rw [e1, hc x hx]
  refine (nI_cancel ?_).symm
  unfold tally tal
  rw [setField_ne _ _ _ _ (by decide), setField_ne _ _ _ _ (by decide)]
  have hc1 : c1 (setField σ o k w) (ix o) x + ew (σ.2.1 (ix o) (ix k)) x = c1 σ (ix o) x + ew w x := by
    unfold c1
    rw [setField_ne _ _ _ _ (by decide), setField_ne _ _ _ _ (by decide), setField_g]
    have := sm_one (n := ix (σ.1 8 (ix o))) (i := ix k) (f := fun j => ew ((if ix o = ix o then upd (σ.2.1 (ix o)) (ix k) w else σ.2.1 (ix o)) j) x) (g := fun j => ew (σ.2.1 (ix o) j) x) hf (fun j _ hj => by
      show ew ((if ix o = ix o then upd (σ.2.1 (ix o)) (ix k) w else σ.2.1 (ix o)) j) x = _
      rw [if_pos rfl, pk_un hj])
    simp only [if_true, pk_us] at this ⊢
    omega
  have := sm_one (n := 28) (i := ix o) (f := fun i => if σ.1 4 i = 0 then 0 else c1 (setField σ o k w) i x) (g := fun i => if σ.1 4 i = 0 then 0 else c1 σ i x) (vp_ix ho) (fun j _ hj => by
    show (if σ.1 4 j = 0 then 0 else c1 (setField σ o k w) j x) = (if σ.1 4 j = 0 then 0 else c1 σ j x)
    unfold c1
    rw [setField_ne _ _ _ _ (by decide), setField_ne _ _ _ _ (by decide), setField_g]
    simp only [if_neg hj])
  simp only [if_neg hl] at this
  omega
theorem HC_setRegister {σ : SS} (hg : RG σ) (hc : HC σ) {r w : Int32} (hr : vp_in r 7) (hw : 0 ≤ w.toInt) : HC (setRegister σ r w) := by
  intro x hx
  have e1 : (setRegister σ r w).1 11 x = σ.1 11 x - nI (ew (σ.1 13 (ix r)) x) + nI (ew w x) := by
    unfold setRegister
    rw [hold_11 hw hx]
    show (sA (release σ _) 13 _ w).1 11 x + _ = _
    rw [sA_ne _ (by decide), release_11 (hg.reg hr) hx]
  rw [e1, hc x hx]
  refine (nI_cancel ?_).symm
  unfold tally tal
  rw [setRegister_ne _ _ _ (by decide) (by decide), setRegister_13]
  have h1 := sm_one (n := 7) (i := ix r) (f := fun j => ew (upd (σ.1 13) (ix r) w j) x) (g := fun j => ew (σ.1 13 j) x) (vp_ix hr) (fun j _ hj => by
    show ew (upd (σ.1 13) (ix r) w j) x = _
    rw [pk_un hj])
  have h2 : sm 28 (fun i => if σ.1 4 i = 0 then 0 else c1 (setRegister σ r w) i x) = sm 28 (fun i => if σ.1 4 i = 0 then 0 else c1 σ i x) := sm_congr (fun i _ => by
    unfold c1
    rw [setRegister_ne _ _ _ (by decide) (by decide), setRegister_ne _ _ _ (by decide) (by decide), setRegister_G])
  simp only [pk_us] at h1
  omega
theorem wake_G (σ : SS) (o c n : Int32) : (wake σ o c n).2 = σ.2 := by
  unfold wake wake1
  show (hold _ _).2 = _
  rw [hold_G]
  rfl
theorem wake_4 (σ : SS) (o c n : Int32) : (wake σ o c n).1 4 = upd (σ.1 4) (ix o) 1 := by
  unfold wake wake1
  rw [sA_ne _ (by decide), hold_ne _ _ (by decide), sA_ne _ (by decide), sA_ne _ (by decide), sA_eq]
theorem wake_7 (σ : SS) (o c n : Int32) : (wake σ o c n).1 7 = upd (σ.1 7) (ix o) c := by
  unfold wake wake1
  rw [sA_ne _ (by decide), hold_ne _ _ (by decide), sA_ne _ (by decide), sA_eq, sA_ne _ (by decide)]
theorem wake_8 (σ : SS) (o c n : Int32) : (wake σ o c n).1 8 = upd (σ.1 8) (ix o) n := by
  unfold wake wake1
  rw [sA_ne _ (by decide), hold_ne _ _ (by decide), sA_eq, sA_ne _ (by decide), sA_ne _ (by decide)]
theorem wake_11 {σ : SS} {o c n : Int32} (hc : 0 ≤ c.toInt) {x : Nat} (hx : x < 28) : (wake σ o c n).1 11 x = σ.1 11 x + nI (ew c x) + (if x = 0 then n else 0) := by
  have h1 : (wake1 σ o c n).1 11 x = σ.1 11 x + nI (ew c x) := by
    unfold wake1
    rw [hold_11 hc hx, sA_ne _ (by decide), sA_ne _ (by decide), sA_ne _ (by decide)]
  unfold wake
  rw [sA_eq]
  by_cases e0 : x = 0
  · subst e0
    rw [pk_us, h1, if_pos rfl]
  · rw [pk_un e0, h1, if_neg e0, Int32.add_zero]
theorem HC_wake {σ : SS} (hc : HC σ) {o c : Int32} {n : Nat} (ho : vp_in o 28) (hd : σ.1 4 (ix o) = 0) (hz : ∀ k, k < 15 → σ.2.1 (ix o) k = 0) (hcn : 0 ≤ c.toInt) (hn : n ≤ 15) : HC (wake σ o c (nI n)) := by
  intro x hx
  rw [wake_11 hcn hx, hc x hx]
  have h0 : (if x = 0 then nI n else 0) = nI (n * (if x = 0 then 1 else 0)) := by
    split
    · rw [Nat.mul_one]
    · rfl
  rw [h0, nI_add, nI_add]
  congr 1
  unfold tally tal
  rw [wake_4]
  have hc1 : c1 (wake σ o c (nI n)) (ix o) x = ew c x + n * (if x = 0 then 1 else 0) := by
    unfold c1
    rw [wake_7, wake_8, wake_G, pk_us, pk_us, ix_nI (by omega)]
    rw [sm_const (b := if x = 0 then 1 else 0) (fun k hk => by
      show ew (σ.2.1 (ix o) k) x = _
      rw [hz k (by omega)]
      unfold ew
      by_cases e : x = 0
      · rw [if_pos e, e, if_pos nI_0.symm]
      · rw [if_neg e, if_neg (fun q => e ((nI_eq (by omega) (by omega)).mp ((nI_0.trans q).symm)))])]
  have h1 := sm_one (n := 28) (i := ix o) (f := fun i => if upd (σ.1 4) (ix o) 1 i = 0 then 0 else c1 (wake σ o c (nI n)) i x) (g := fun i => if σ.1 4 i = 0 then 0 else c1 σ i x) (vp_ix ho) (fun j _ hj => by
    show (if upd (σ.1 4) (ix o) 1 j = 0 then 0 else c1 (wake σ o c (nI n)) j x) = (if σ.1 4 j = 0 then 0 else c1 σ j x)
    unfold c1
    rw [wake_7, wake_8, wake_G, pk_un hj, pk_un hj, pk_un hj])
  have h2 : sm 7 (fun r => ew ((wake σ o c (nI n)).1 13 r) x) = sm 7 (fun r => ew (σ.1 13 r) x) := by
    rw [wake_ne _ _ _ _ (by decide)]
  simp only [pk_us, hd, if_true, if_neg (show ¬ (1 : Int32) = 0 by decide), hc1] at h1
  omega
