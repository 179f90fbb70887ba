/-! single changes on both sides -/
theorem upd_rowE {f g : Nat → Int32} {o j k : Nat} {w : Int32} (_ : j < 15) (_ : k < 15) (h : f (15 * o + k) = g k) : upd f (15 * o + j) w (15 * o + k) = upd g j w k := by
  unfold upd
  by_cases e : k = j
  · rw [if_pos e, if_pos (by omega)]
  · rw [if_neg e, if_neg (by omega)]; exact h
theorem upd_rowN {f : Nat → Int32} {o i j k : Nat} {w : Int32} (hj : j < 15) (hk : k < 15) (hn : i ≠ o) : upd f (15 * o + j) w (15 * i + k) = f (15 * i + k) := pk_un (by omega)
theorem sF_row (σ : SS) (o k w : Int32) : (setField σ o k w).2.1 (ix o) = upd (σ.2.1 (ix o)) (ix k) w := by rw [setField_g]; exact if_pos rfl
theorem sF_oth (σ : SS) (o k w : Int32) {a : Nat} (h : a ≠ ix o) : (setField σ o k w).2.1 a = σ.2.1 a := by rw [setField_g]; exact if_neg h
theorem sF_L (σ : SS) (o k w : Int32) : (setField σ o k w).2.2 = σ.2.2 := by rw [setField_g]
theorem Rr_field {σ μ : SS} (h : Rr σ μ) {o k : Int32} (w : Int32) (hk : vp_in k 15) : Rr (setField σ o k w) (sA μ 5 (15 * ix o + ix k) w) := by
  have hk' := vp_ix hk
  have sn : ∀ {a}, a ≠ 11 → (setField σ o k w).1 a = σ.1 a := fun ha => setField_ne _ _ _ _ ha
  have mn : ∀ {a}, a ≠ 5 → (sA μ 5 (15 * ix o + ix k) w).1 a = μ.1 a := fun ha => sA_ne _ ha _ _
  refine ⟨fun i hi => ?_, fun i hi => ?_, fun i hi li => ?_, fun r hr => ?_, ?_, ?_, ?_⟩
  · rw [mn (by decide), sn (by decide)]; exact h.1 i hi
  · rw [mn (by decide), sn (by decide)]; exact h.2.1 i hi
  · rw [sn (by decide)] at li
    have q := h.2.2.1 i hi li
    unfold Rl srt at q ⊢
    rw [mn (show (3 : Nat) ≠ 5 by decide), mn (show (4 : Nat) ≠ 5 by decide), mn (show (2 : Nat) ≠ 5 by decide), mn (show (8 : Nat) ≠ 5 by decide), mn (show (11 : Nat) ≠ 5 by decide), sn (show (7 : Nat) ≠ 11 by decide), sn (show (8 : Nat) ≠ 11 by decide), sn (show (6 : Nat) ≠ 11 by decide), sn (show (9 : Nat) ≠ 11 by decide), sn (show (10 : Nat) ≠ 11 by decide), sA_eq]
    refine ⟨q.1, q.2.1, fun j hj => ?_, q.2.2.2⟩
    by_cases e : i = ix o
    · subst e; rw [sF_row]; exact upd_rowE hk' hj (q.2.2.1 j hj)
    · rw [sF_oth _ _ _ _ e, upd_rowN hk' hj e]; exact q.2.2.1 j hj
  · rw [mn (by decide), sn (by decide)]; exact h.2.2.2.1 r hr
  · rw [mn (by decide), sn (by decide)]; exact h.2.2.2.2.1
  · rw [mn (by decide), sn (by decide)]; exact h.2.2.2.2.2.1
  · exact Rc_same h.2.2.2.2.2.2 (sn (by decide)) (sF_L _ _ _ _) (mn (by decide)) (mn (by decide))
theorem Rr_dep {σ μ : SS} (h : Rr σ μ) (c : Nat) (d : Int32) : Rr (sA σ 10 c d) (sA μ 11 c d) := by
  have sn : ∀ {a}, a ≠ 10 → (sA σ 10 c d).1 a = σ.1 a := fun ha => sA_ne _ ha _ _
  have mn : ∀ {a}, a ≠ 11 → (sA μ 11 c d).1 a = μ.1 a := fun ha => sA_ne _ ha _ _
  refine ⟨fun i hi => ?_, fun i hi => ?_, fun i hi li => ?_, fun r hr => ?_, ?_, ?_, ?_⟩
  · rw [mn (by decide), sn (by decide)]; exact h.1 i hi
  · rw [mn (by decide), sn (by decide)]; exact h.2.1 i hi
  · rw [sn (by decide)] at li
    have q := h.2.2.1 i hi li
    unfold Rl srt at q ⊢
    rw [mn (show (3 : Nat) ≠ 11 by decide), mn (show (4 : Nat) ≠ 11 by decide), mn (show (2 : Nat) ≠ 11 by decide), mn (show (8 : Nat) ≠ 11 by decide), mn (show (5 : Nat) ≠ 11 by decide), sn (show (7 : Nat) ≠ 10 by decide), sn (show (8 : Nat) ≠ 10 by decide), sn (show (6 : Nat) ≠ 10 by decide), sn (show (9 : Nat) ≠ 10 by decide), sA_eq, sA_eq, sA_2]
    refine ⟨q.1, q.2.1, q.2.2.1, q.2.2.2.1, q.2.2.2.2.1, fun h3 => ?_⟩
    by_cases e : i = c
    · subst e; rw [pk_us, pk_us]
    · rw [pk_un e, pk_un e]; exact q.2.2.2.2.2 h3
  · rw [mn (by decide), sn (by decide)]; exact h.2.2.2.1 r hr
  · rw [mn (by decide), sn (by decide)]; exact h.2.2.2.2.1
  · rw [mn (by decide), sn (by decide)]; exact h.2.2.2.2.2.1
  · exact Rc_same h.2.2.2.2.2.2 (sn (by decide)) rfl (mn (by decide)) (mn (by decide))
theorem Rl_same {σ τ μ υ : SS} {i : Nat} (h : Rl σ μ i) (hs : ∀ a, a = 6 ∨ a = 7 ∨ a = 8 ∨ a = 9 ∨ a = 10 → τ.1 a = σ.1 a) (hg : τ.2 = σ.2) (hm : ∀ a, a = 2 ∨ a = 3 ∨ a = 4 ∨ a = 5 ∨ a = 8 ∨ a = 11 → υ.1 a = μ.1 a) : Rl τ υ i := by
  unfold Rl srt at h ⊢
  rw [hs 6 (by omega), hs 7 (by omega), hs 8 (by omega), hs 9 (by omega), hs 10 (by omega), hg, hm 2 (by omega), hm 3 (by omega), hm 4 (by omega), hm 5 (by omega), hm 8 (by omega), hm 11 (by omega)]
  exact h
theorem Rr_regh {σ μ : SS} (h : Rr σ μ) {r : Int32} (hr : vp_in r 6) (w : Int32) : Rr (setRegister σ r w) (sA μ 12 (ix r) w) := by
  have sn : ∀ {a}, a ≠ 11 → a ≠ 13 → (setRegister σ r w).1 a = σ.1 a := fun h1 h2 => setRegister_ne _ _ _ h1 h2
  have mn : ∀ {a}, a ≠ 12 → (sA μ 12 (ix r) w).1 a = μ.1 a := fun ha => sA_ne _ ha _ _
  have h6 := vp_ix hr
  refine ⟨fun i hi => ?_, fun i hi => ?_, fun i hi li => ?_, fun j hj => ?_, ?_, ?_, ?_⟩
  · rw [mn (by decide), sn (by decide) (by decide)]; exact h.1 i hi
  · rw [mn (by decide), sn (by decide) (by decide)]; exact h.2.1 i hi
  · rw [sn (by decide) (by decide)] at li
    exact Rl_same (h.2.2.1 i hi li) (fun a ha => sn (by omega) (by omega)) (setRegister_G _ _ _) (fun a ha => mn (by omega))
  · rw [sA_eq, setRegister_13]
    by_cases e : j = ix r
    · rw [e, pk_us, pk_us]
    · rw [pk_un e, pk_un e]; exact h.2.2.2.1 j hj
  · rw [mn (by decide), setRegister_13, pk_un (by omega)]; exact h.2.2.2.2.1
  · rw [mn (by decide), sn (by decide) (by decide)]; exact h.2.2.2.2.2.1
  · exact Rc_same h.2.2.2.2.2.2 (sn (by decide) (by decide)) (by rw [setRegister_G]) (mn (by decide)) (mn (by decide))
theorem Rr_act {σ μ : SS} (h : Rr σ μ) (w : Int32) : Rr (setRegister σ 6 w) (sA μ 20 0 w) := by
  have sn : ∀ {a}, a ≠ 11 → a ≠ 13 → (setRegister σ 6 w).1 a = σ.1 a := fun h1 h2 => setRegister_ne _ _ _ h1 h2
  have mn : ∀ {a}, a ≠ 20 → (sA μ 20 0 w).1 a = μ.1 a := fun ha => sA_ne _ ha _ _
  have e6 : ix (6 : Int32) = 6 := by decide
  refine ⟨fun i hi => ?_, fun i hi => ?_, fun i hi li => ?_, fun j hj => ?_, ?_, ?_, ?_⟩
  · rw [mn (by decide), sn (by decide) (by decide)]; exact h.1 i hi
  · rw [mn (by decide), sn (by decide) (by decide)]; exact h.2.1 i hi
  · rw [sn (by decide) (by decide)] at li
    exact Rl_same (h.2.2.1 i hi li) (fun a ha => sn (by omega) (by omega)) (setRegister_G _ _ _) (fun a ha => mn (by omega))
  · rw [mn (by decide), setRegister_13, e6, pk_un (by omega)]; exact h.2.2.2.1 j hj
  · rw [sA_eq, setRegister_13, e6, pk_us, pk_us]
  · rw [mn (by decide), sn (by decide) (by decide)]; exact h.2.2.2.2.2.1
  · exact Rc_same h.2.2.2.2.2.2 (sn (by decide) (by decide)) (by rw [setRegister_G]) (mn (by decide)) (mn (by decide))
theorem Rr_reason {σ μ : SS} (h : Rr σ μ) (w : Int32) : Rr (sA σ 21 0 w) (sA μ 21 0 w) := by
  have sn : ∀ {a}, a ≠ 21 → (sA σ 21 0 w).1 a = σ.1 a := fun ha => sA_ne _ ha _ _
  have mn : ∀ {a}, a ≠ 21 → (sA μ 21 0 w).1 a = μ.1 a := fun ha => sA_ne _ ha _ _
  refine ⟨fun i hi => ?_, fun i hi => ?_, fun i hi li => ?_, fun j hj => ?_, ?_, ?_, ?_⟩
  · rw [mn (by decide), sn (by decide)]; exact h.1 i hi
  · rw [mn (by decide), sn (by decide)]; exact h.2.1 i hi
  · rw [sn (by decide)] at li
    exact Rl_same (h.2.2.1 i hi li) (fun a ha => sn (by omega)) rfl (fun a ha => mn (by omega))
  · rw [mn (by decide), sn (by decide)]; exact h.2.2.2.1 j hj
  · rw [mn (by decide), sn (by decide)]; exact h.2.2.2.2.1
  · rw [sA_eq, sA_eq, pk_us, pk_us]
  · exact Rc_same h.2.2.2.2.2.2 (sn (by decide)) rfl (mn (by decide)) (mn (by decide))
theorem mkL_ne {n : Nat} : ∀ {k : Nat} {σ : SS} {o : Int32} {a : Nat}, a ≠ 5 → (mkL n k σ o).1 a = σ.1 a := by
  induction n with
  | zero => intro k σ o a _; rfl
  | succ n ih => intro k σ o a h; unfold mkL; rw [ih h, sA_ne σ h]
theorem mkL_2 {n : Nat} : ∀ {k : Nat} {σ : SS} {o : Int32}, (mkL n k σ o).2 = σ.2 := by
  induction n with
  | zero => intro k σ o; rfl
  | succ n ih => intro k σ o; unfold mkL; rw [ih, sA_2]
theorem mkL_5 {o : Nat} (ho : o < 28) {n : Nat} : ∀ {k : Nat} {σ : SS} {j : Nat}, k + n ≤ 15 → (mkL n k σ (nI o)).1 5 j = if 15 * o + k ≤ j ∧ j < 15 * o + k + n then 0 else σ.1 5 j := by
  induction n with
  | zero => intro k σ j _; rw [if_neg (by omega)]; rfl
  | succ n ih =>
    intro k σ j hk
    unfold mkL
    rw [ih (by omega), ixw (by omega), sA_eq]
    by_cases e : j = 15 * o + k
    · rw [if_neg (by omega), if_pos (by omega), e, pk_us]
    · rw [pk_un e]
      by_cases r : 15 * o + (k + 1) ≤ j ∧ j < 15 * o + (k + 1) + n
      · rw [if_pos r, if_pos (by omega)]
      · rw [if_neg r, if_neg (by omega)]
theorem mk1_ne (μ : SS) (o s c f : Int32) {a : Nat} (h : a ≠ 1 ∧ a ≠ 2 ∧ a ≠ 3 ∧ a ≠ 4 ∧ a ≠ 5 ∧ a ≠ 6 ∧ a ≠ 11) : (make1M μ o s c f).1 a = μ.1 a := by
  unfold make1M make0M
  rw [sA_ne _ h.2.2.2.2.2.2, sA_ne _ h.2.2.2.2.2.1, mkL_ne h.2.2.2.2.1, sA_ne _ h.2.2.2.1, sA_ne _ h.2.2.1, sA_ne _ h.2.1, sA_ne _ h.1]
theorem mk1_2 (μ : SS) (o s c f : Int32) : (make1M μ o s c f).2 = μ.2 := by
  unfold make1M make0M
  rw [sA_2, sA_2, mkL_2, sA_2, sA_2, sA_2, sA_2]
theorem mk1_1 (μ : SS) (o s c f : Int32) : (make1M μ o s c f).1 1 = upd (μ.1 1) (ix o) 1 := by
  unfold make1M make0M
  rw [sA_ne _ (by decide), sA_ne _ (by decide), mkL_ne (by decide), sA_ne _ (by decide), sA_ne _ (by decide), sA_ne _ (by decide), sA_eq]
theorem mk1_s (μ : SS) (o s c f : Int32) : (make1M μ o s c f).1 2 = upd (μ.1 2) (ix o) s := by
  unfold make1M make0M
  rw [sA_ne _ (by decide), sA_ne _ (by decide), mkL_ne (by decide), sA_ne _ (by decide), sA_ne _ (by decide), sA_eq, sA_ne _ (by decide)]
theorem mk1_3 (μ : SS) (o s c f : Int32) : (make1M μ o s c f).1 3 = upd (μ.1 3) (ix o) c := by
  unfold make1M make0M
  rw [sA_ne _ (by decide), sA_ne _ (by decide), mkL_ne (by decide), sA_ne _ (by decide), sA_eq, sA_ne _ (by decide), sA_ne _ (by decide)]
theorem mk1_4 (μ : SS) (o s c f : Int32) : (make1M μ o s c f).1 4 = upd (μ.1 4) (ix o) f := by
  unfold make1M make0M
  rw [sA_ne _ (by decide), sA_ne _ (by decide), mkL_ne (by decide), sA_eq, sA_ne _ (by decide), sA_ne _ (by decide), sA_ne _ (by decide)]
theorem mk1_6 (μ : SS) (o s c f : Int32) : (make1M μ o s c f).1 6 = upd (μ.1 6) (ix o) 0 := by
  unfold make1M make0M
  rw [sA_ne _ (by decide), sA_eq, mkL_ne (by decide), sA_ne _ (by decide), sA_ne _ (by decide), sA_ne _ (by decide), sA_ne _ (by decide)]
theorem mk1_11 (μ : SS) (o s c f : Int32) : (make1M μ o s c f).1 11 = upd (μ.1 11) (ix o) 0 := by
  unfold make1M make0M
  rw [sA_eq, sA_ne _ (by decide), mkL_ne (by decide), sA_ne _ (by decide), sA_ne _ (by decide), sA_ne _ (by decide), sA_ne _ (by decide)]
theorem mk1_5 (μ : SS) {o : Int32} (ho : vp_in o 28) (s c f : Int32) (j : Nat) : (make1M μ o s c f).1 5 j = if 15 * ix o ≤ j ∧ j < 15 * ix o + 15 then 0 else μ.1 5 j := by
  obtain ⟨i, hi, rfl⟩ := vp_in_of ho (by decide)
  unfold make1M make0M
  rw [sA_ne _ (by decide), sA_ne _ (by decide), mkL_5 hi (by omega), sA_ne _ (by decide), sA_ne _ (by decide), sA_ne _ (by decide), sA_ne _ (by decide), ix_nI (by omega), Nat.add_zero]
theorem Rr_wake {σ μ : SS} (h : Rr σ μ) (hz : Za σ) (hd : Zd σ) {o c : Int32} (n s : Int32) (ho : vp_in o 28) (hl : σ.1 4 (ix o) = 0) (hs : s = if c = 3 then 2 else 0) : Rr (wake σ o c n) (make1M μ o s c n) := by
  have hc := hd (ix o) (vp_ix ho) hl
  have sn : ∀ {a}, a ≠ 4 ∧ a ≠ 7 ∧ a ≠ 8 ∧ a ≠ 11 → (wake σ o c n).1 a = σ.1 a := fun ha => wake_ne _ _ _ _ ha
  have mn : ∀ {a}, a ≠ 1 ∧ a ≠ 2 ∧ a ≠ 3 ∧ a ≠ 4 ∧ a ≠ 5 ∧ a ≠ 6 ∧ a ≠ 11 → (make1M μ o s c n).1 a = μ.1 a := fun ha => mk1_ne _ _ _ _ _ ha
  refine ⟨fun i hi => ?_, fun i hi => ?_, fun i hi li => ?_, fun j hj => ?_, ?_, ?_, ?_⟩
  · rw [mk1_1, wake_4]
    by_cases e : i = ix o
    · rw [e, pk_us, pk_us]
    · rw [pk_un e, pk_un e]; exact h.1 i hi
  · rw [mk1_6, sn (by decide)]
    by_cases e : i = ix o
    · rw [e, pk_us]; exact ⟨fun _ => hc.1, fun _ => rfl⟩
    · rw [pk_un e]; exact h.2.1 i hi
  · unfold Rl srt
    rw [mk1_s, mk1_3, mk1_4, mk1_11, mn (show 8 ≠ 1 ∧ 8 ≠ 2 ∧ 8 ≠ 3 ∧ 8 ≠ 4 ∧ 8 ≠ 5 ∧ 8 ≠ 6 ∧ 8 ≠ 11 by decide), wake_7, wake_8, wake_G, sn (show 6 ≠ 4 ∧ 6 ≠ 7 ∧ 6 ≠ 8 ∧ 6 ≠ 11 by decide), sn (show 9 ≠ 4 ∧ 9 ≠ 7 ∧ 9 ≠ 8 ∧ 9 ≠ 11 by decide), sn (show 10 ≠ 4 ∧ 10 ≠ 7 ∧ 10 ≠ 8 ∧ 10 ≠ 11 by decide)]
    by_cases e : i = ix o
    · subst e
      simp only [pk_us]
      refine ⟨trivial, trivial, fun k hk => ?_, ?_, fun q => absurd hc.2.1 q, fun _ => hc.2.2.2.symm⟩
      · rw [mk1_5 μ ho, if_pos (by omega), hz _ k hi hk (by rw [hc.2.2.1]; exact Nat.zero_le _)]
      · rw [if_pos hc.2.1]; exact hs
    · rw [wake_4, pk_un e] at li
      have q := h.2.2.1 i hi li
      unfold Rl srt at q
      rw [pk_un e, pk_un e, pk_un e, pk_un e, pk_un e, pk_un e]
      refine ⟨q.1, q.2.1, fun k hk => ?_, q.2.2.2⟩
      rw [mk1_5 μ ho, if_neg (by omega)]; exact q.2.2.1 k hk
  · rw [mn (by decide), sn (by decide)]; exact h.2.2.2.1 j hj
  · rw [mn (by decide), sn (by decide)]; exact h.2.2.2.2.1
  · rw [mn (by decide), sn (by decide)]; exact h.2.2.2.2.2.1
  · exact Rc_same h.2.2.2.2.2.2 (sn (by decide)) (by rw [wake_G]) (mn (by decide)) (mn (by decide))
/-- waking a class: its flag and its size -/
theorem Rr_wakeC {σ μ : SS} (h : Rr σ μ) (hz : Za σ) (hd : Zd σ) {o : Int32} (z : Int32) (ho : vp_in o 28) (hl : σ.1 4 (ix o) = 0) : Rr (sA (sA (wake σ o 1 1) 6 (ix o) 1) 9 (ix o) z) (sA (make1M μ o 1 1 1) 8 (ix o) z) := by
  have hc := hd (ix o) (vp_ix ho) hl
  have sn : ∀ {a}, a ≠ 4 ∧ a ≠ 7 ∧ a ≠ 8 ∧ a ≠ 11 → a ≠ 6 → a ≠ 9 → (sA (sA (wake σ o 1 1) 6 (ix o) 1) 9 (ix o) z).1 a = σ.1 a := fun h1 h2 h3 => by rw [sA_ne _ h3, sA_ne _ h2, wake_ne _ _ _ _ h1]
  have sw : ∀ {a}, a ≠ 6 → a ≠ 9 → (sA (sA (wake σ o 1 1) 6 (ix o) 1) 9 (ix o) z).1 a = (wake σ o 1 1).1 a := fun h1 h2 => by rw [sA_ne _ h2, sA_ne _ h1]
  have mw : ∀ {a}, a ≠ 8 → (sA (make1M μ o 1 1 1) 8 (ix o) z).1 a = (make1M μ o 1 1 1).1 a := fun h2 => by rw [sA_ne _ h2]
  have mn : ∀ {a}, a ≠ 1 ∧ a ≠ 2 ∧ a ≠ 3 ∧ a ≠ 4 ∧ a ≠ 5 ∧ a ≠ 6 ∧ a ≠ 11 → a ≠ 8 → (sA (make1M μ o 1 1 1) 8 (ix o) z).1 a = μ.1 a := fun ha h8 => by rw [sA_ne _ h8, mk1_ne _ _ _ _ _ ha]
  refine ⟨fun i hi => ?_, fun i hi => ?_, fun i hi li => ?_, fun j hj => ?_, ?_, ?_, ?_⟩
  · rw [mw (by decide), sw (by decide) (by decide), mk1_1, wake_4]
    by_cases e : i = ix o
    · rw [e, pk_us, pk_us]
    · rw [pk_un e, pk_un e]; exact h.1 i hi
  · rw [mw (by decide), mk1_6, sn (by decide) (by decide) (by decide)]
    by_cases e : i = ix o
    · rw [e, pk_us]; exact ⟨fun _ => hc.1, fun _ => rfl⟩
    · rw [pk_un e]; exact h.2.1 i hi
  · have e6 : (sA (sA (wake σ o 1 1) 6 (ix o) 1) 9 (ix o) z).1 6 = upd (σ.1 6) (ix o) 1 := by rw [sA_ne _ (by decide), sA_eq, wake_ne _ _ _ _ (by decide)]
    have e9 : (sA (sA (wake σ o 1 1) 6 (ix o) 1) 9 (ix o) z).1 9 = upd (σ.1 9) (ix o) z := by rw [sA_eq, sA_ne _ (by decide), wake_ne _ _ _ _ (by decide)]
    have m8 : (sA (make1M μ o 1 1 1) 8 (ix o) z).1 8 = upd (μ.1 8) (ix o) z := by rw [sA_eq, mk1_ne _ _ _ _ _ (by decide)]
    unfold Rl srt
    rw [e6, e9, m8, mw (show (2 : Nat) ≠ 8 by decide), mw (show (3 : Nat) ≠ 8 by decide), mw (show (4 : Nat) ≠ 8 by decide), mw (show (5 : Nat) ≠ 8 by decide), mw (show (11 : Nat) ≠ 8 by decide), mk1_s, mk1_3, mk1_4, mk1_11, sw (show (7 : Nat) ≠ 6 by decide) (by decide), sw (show (8 : Nat) ≠ 6 by decide) (by decide), sn (show 10 ≠ 4 ∧ 10 ≠ 7 ∧ 10 ≠ 8 ∧ 10 ≠ 11 by decide) (by decide) (by decide), wake_7, wake_8, sA_2, sA_2, wake_G]
    by_cases e : i = ix o
    · subst e
      simp only [pk_us]
      refine ⟨trivial, trivial, fun k hk => ?_, ?_, fun _ => trivial, fun _ => hc.2.2.2.symm⟩
      · rw [mk1_5 μ ho, if_pos (by omega), hz _ k hi hk (by rw [hc.2.2.1]; exact Nat.zero_le _)]
      · rw [if_neg (by decide)]
    · rw [sw (by decide) (by decide), wake_4, pk_un e] at li
      have q := h.2.2.1 i hi li
      unfold Rl srt at q
      rw [pk_un e, pk_un e, pk_un e, pk_un e, pk_un e, pk_un e, pk_un e, pk_un e, pk_un e]
      refine ⟨q.1, q.2.1, fun k hk => ?_, q.2.2.2⟩
      rw [mk1_5 μ ho, if_neg (by omega)]; exact q.2.2.1 k hk
  · rw [mn (by decide) (by decide), sn (by decide) (by decide) (by decide)]; exact h.2.2.2.1 j hj
  · rw [mn (by decide) (by decide), sn (by decide) (by decide) (by decide)]; exact h.2.2.2.2.1
  · rw [mn (by decide) (by decide), sn (by decide) (by decide) (by decide)]; exact h.2.2.2.2.2.1
  · exact Rc_same h.2.2.2.2.2.2 (sn (by decide) (by decide) (by decide)) (by rw [sA_2, sA_2, wake_G]) (mn (by decide) (by decide)) (mn (by decide) (by decide))
