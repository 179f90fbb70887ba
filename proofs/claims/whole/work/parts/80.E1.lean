/-! the beginning, on both sides -/
def m3 : SS := wakeClass (wakeClass (wakeClass (wake mem1 0 1 0) 1 0 0) 2 1 0) 3 1 0
def rin1 : SS := sA z0 1 (ix 0) 1
def rin2 : SS := sA rin1 3 (ix 0) 1
def rin3 : SS := sA rin2 2 (ix 0) 0
def rin4 : SS := sA rin3 4 (ix 0) 0
def rin5 : SS := sA rin4 5 (ix (15 * 0)) 0
def rin6 : SS := sA rin5 1 (ix 1) 1
def rin7 : SS := sA rin6 3 (ix 1) 1
def rin8 : SS := sA rin7 2 (ix 1) 1
def rin9 : SS := sA rin8 4 (ix 1) 1
def rin10 : SS := sA rin9 5 (ix (15 * 1)) 0
def rin11 : SS := sA rin10 1 (ix 2) 1
def rin12 : SS := sA rin11 3 (ix 2) 1
def rin13 : SS := sA rin12 2 (ix 2) 1
def rin14 : SS := sA rin13 4 (ix 2) 1
def rin15 : SS := sA rin14 5 (ix (15 * 2)) 1
def rin16 : SS := sA rin15 1 (ix 3) 1
def rin17 : SS := sA rin16 3 (ix 3) 1
def rin18 : SS := sA rin17 2 (ix 3) 1
def rin19 : SS := sA rin18 4 (ix 3) 1
def rin20 : SS := sA rin19 5 (ix (15 * 3)) 1
def rin : SS := settleM rin20
theorem RGm_z0 : RGm z0 := ⟨fun _ _ => (by decide : 0 ≤ (0 : Int32).toInt), fun _ _ => (by decide : 0 ≤ (0 : Int32).toInt), fun _ _ => (by decide : 0 ≤ (0 : Int32).toInt ∧ (0 : Int32).toInt < 28), fun _ _ => (by decide : 0 ≤ (0 : Int32).toInt ∧ (0 : Int32).toInt ≤ 15), fun _ _ => (by decide : 0 ≤ (0 : Int32).toInt ∧ (0 : Int32).toInt ≤ 6), fun _ _ => (by decide : 0 ≤ (0 : Int32).toInt ∧ (0 : Int32).toInt ≤ 6), vp_0⟩
theorem RGm_3 {μ : SS} (h : RGm μ) (j : Nat) {w : Int32} (hw : 0 ≤ w.toInt ∧ w.toInt < 28) : RGm (sA μ 3 j w) := by
  obtain ⟨h1, h2, h3, h4, h5, h6, h7⟩ := h
  unfold RGm
  rw [sA_ne _ (show (12 : Nat) ≠ 3 by decide), sA_ne _ (show (4 : Nat) ≠ 3 by decide), sA_ne _ (show (5 : Nat) ≠ 3 by decide), sA_ne _ (show (8 : Nat) ≠ 3 by decide), sA_ne _ (show (11 : Nat) ≠ 3 by decide), sA_ne _ (show (20 : Nat) ≠ 3 by decide), sA_eq]
  exact ⟨h1, h2, fun i hi => upd_P (P := fun y => 0 ≤ y.toInt ∧ y.toInt < 28) (h3 i hi) hw, h4, h5, h6, h7⟩
theorem RGm_4 {μ : SS} (h : RGm μ) (j : Nat) {w : Int32} (hw : 0 ≤ w.toInt ∧ w.toInt ≤ 15) : RGm (sA μ 4 j w) := by
  obtain ⟨h1, h2, h3, h4, h5, h6, h7⟩ := h
  unfold RGm
  rw [sA_ne _ (show (12 : Nat) ≠ 4 by decide), sA_ne _ (show (3 : Nat) ≠ 4 by decide), sA_ne _ (show (5 : Nat) ≠ 4 by decide), sA_ne _ (show (8 : Nat) ≠ 4 by decide), sA_ne _ (show (11 : Nat) ≠ 4 by decide), sA_ne _ (show (20 : Nat) ≠ 4 by decide), sA_eq]
  exact ⟨h1, h2, h3, fun i hi => upd_P (P := fun y => 0 ≤ y.toInt ∧ y.toInt ≤ 15) (h4 i hi) hw, h5, h6, h7⟩
theorem RGm_rin1 : RGm rin1 := RGm_A RGm_z0 (by decide) _ _
theorem RGm_rin2 : RGm rin2 := RGm_3 RGm_rin1 _ (by decide)
theorem RGm_rin3 : RGm rin3 := RGm_A RGm_rin2 (by decide) _ _
theorem RGm_rin4 : RGm rin4 := RGm_4 RGm_rin3 _ (by decide)
theorem RGm_rin5 : RGm rin5 := RGm_5 RGm_rin4 _ (by decide)
theorem RGm_rin6 : RGm rin6 := RGm_A RGm_rin5 (by decide) _ _
theorem RGm_rin7 : RGm rin7 := RGm_3 RGm_rin6 _ (by decide)
theorem RGm_rin8 : RGm rin8 := RGm_A RGm_rin7 (by decide) _ _
theorem RGm_rin9 : RGm rin9 := RGm_4 RGm_rin8 _ (by decide)
theorem RGm_rin10 : RGm rin10 := RGm_5 RGm_rin9 _ (by decide)
theorem RGm_rin11 : RGm rin11 := RGm_A RGm_rin10 (by decide) _ _
theorem RGm_rin12 : RGm rin12 := RGm_3 RGm_rin11 _ (by decide)
theorem RGm_rin13 : RGm rin13 := RGm_A RGm_rin12 (by decide) _ _
theorem RGm_rin14 : RGm rin14 := RGm_4 RGm_rin13 _ (by decide)
theorem RGm_rin15 : RGm rin15 := RGm_5 RGm_rin14 _ (by decide)
theorem RGm_rin16 : RGm rin16 := RGm_A RGm_rin15 (by decide) _ _
theorem RGm_rin17 : RGm rin17 := RGm_3 RGm_rin16 _ (by decide)
theorem RGm_rin18 : RGm rin18 := RGm_A RGm_rin17 (by decide) _ _
theorem RGm_rin19 : RGm rin19 := RGm_4 RGm_rin18 _ (by decide)
theorem RGm_rin20 : RGm rin20 := RGm_5 RGm_rin19 _ (by decide)
theorem RG_m3 : RG m3 := RG_wakeClass (RG_wakeClass (RG_wakeClass (RG_wake RG_mem1 _ (vpc (by decide)) (by decide)) _ (by decide) (by decide)) _ (by decide) (by decide)) _ (by decide) (by decide)
theorem m3_4 : ∀ o, o < 28 → m3.1 4 o = if o < 4 then 1 else 0 := by decide +kernel
theorem m3_5 : ∀ o, o < 28 → m3.1 5 o = 0 := by decide +kernel
theorem m3_6 : ∀ o, o < 28 → m3.1 6 o = if 1 ≤ o ∧ o < 4 then 1 else 0 := by decide +kernel
theorem m3_7 : ∀ o, o < 28 → m3.1 7 o = if o < 4 then 1 else 0 := by decide +kernel
theorem m3_8 : ∀ o, o < 28 → m3.1 8 o = if 1 ≤ o ∧ o < 4 then 1 else 0 := by decide +kernel
theorem m3_9 : ∀ o, o < 28 → m3.1 9 o = 0 := by decide +kernel
theorem m3_10 : ∀ o, o < 28 → m3.1 10 o = 0 := by decide +kernel
theorem m3_13 : ∀ o, o < 7 → m3.1 13 o = 0 := by decide +kernel
theorem m3_16 : ∀ o, o < 224 → m3.1 16 o = 0 := by decide +kernel
theorem m3_G : ∀ o, o < 28 → ∀ k, k < 15 → m3.2.1 o k = if (o = 2 ∨ o = 3) ∧ k = 0 then 1 else 0 := by decide +kernel
theorem m3_H : ∀ o, o < 28 → m3.1 11 o = nI (tally m3 o) := by decide +kernel
theorem CW_m3 {w : Nat} (h1 : 1 ≤ w) (h4 : w < 4) : CW m3 (nI w) := ⟨vp_k (by omega) (by decide), by rw [ix_nI (by omega), m3_6 w (by omega), if_pos ⟨h1, h4⟩]; decide⟩
theorem l4_m3 {o : Nat} (ho : o < 28) (h : ¬ m3.1 4 o = 0) : o < 4 := by
  rw [m3_4 o ho] at h
  exact Classical.byContradiction (fun z => h (if_neg z))
theorem c4_m3 {o : Nat} (ho : o < 28) (h : ¬ m3.1 6 o = 0) : 1 ≤ o ∧ o < 4 := by
  rw [m3_6 o ho] at h
  exact Classical.byContradiction (fun z => h (if_neg z))
theorem W_m3 {o k : Nat} (ho : o < 28) (hk : k < 15) : CN m3 (m3.2.1 o k) := by
  rw [m3_G o ho k hk]
  by_cases e : (o = 2 ∨ o = 3) ∧ k = 0
  · rw [if_pos e]; exact Or.inr (CW_m3 (w := 1) (by omega) (by omega))
  · rw [if_neg e]; exact Or.inl rfl
theorem IN_m3 : IN m3 := by
  have l0 : ¬ m3.1 4 0 = 0 := by rw [m3_4 0 (by omega)]; decide
  have wd : ∀ {w}, CN m3 w → Wd m3 w := fun {w} h => by
    rcases h with rfl | h
    · exact Or.inr (by rw [i0]; exact l0)
    · right
      have := c4_m3 (vp_ix h.1) h.2
      rw [m3_4 _ (vp_ix h.1), if_pos this.2]; decide
  refine ⟨RG_m3, fun j hj => Or.inl (m3_16 j hj), fun o k ho hk h8 => ?_, fun o ho hd => ?_, m3_H, ⟨fun o ho => ?_, ?_, ?_, fun o h1 ho => ?_⟩, ⟨fun o ho hl => ?_, fun o k ho hk => wd (W_m3 ho hk), fun r hr => ?_⟩, fun o ho hc => ?_, fun o ho hl h3 => ?_, fun o ho hc => ?_⟩
  · rw [m3_G o ho k hk]
    by_cases e : (o = 2 ∨ o = 3) ∧ k = 0
    · rw [m3_8 o ho, if_pos (by omega), show ix (1 : Int32) = 1 by decide] at h8; omega
    · rw [if_neg e]
  · have h4 : ¬ o < 4 := fun z => by rw [m3_4 o ho, if_pos z] at hd; exact absurd hd (by decide)
    rw [m3_5 o ho, m3_6 o ho, m3_8 o ho, m3_10 o ho, if_neg (by omega)]
    exact ⟨rfl, rfl, rfl, rfl⟩
  · rw [m3_4 o (by omega), m3_7 o (by omega), if_pos ho]; exact ⟨by decide, rfl⟩
  · rw [m3_6 0 (by omega)]; rfl
  · rw [m3_8 0 (by omega)]; rfl
  · rw [m3_6 o (by omega), if_pos ⟨h1, ho⟩]; decide
  · rw [m3_7 o ho, if_pos (l4_m3 ho hl)]; exact CW_m3 (w := 1) (by omega) (by omega)
  · rw [m3_13 r hr]; exact wd (Or.inl rfl)
  · have q := c4_m3 ho hc
    rw [m3_7 o ho, m3_8 o ho, if_pos q.2, if_pos q]
    exact ⟨rfl, rfl, W_m3 ho (by omega)⟩
  · rw [m3_7 o ho, if_pos (l4_m3 ho hl)] at h3; exact absurd h3 (by decide)
  · have q := c4_m3 ho hc
    have e3 : o = 1 ∨ o = 2 ∨ o = 3 := by omega
    rcases e3 with rfl | rfl | rfl
    · exact ⟨1, by rw [supN_s, ix_nI (by omega), m3_G 1 (by omega) 0 (by omega)]; rfl⟩
    · exact ⟨2, by rw [supN_s, ix_nI (by omega), m3_G 2 (by omega) 0 (by omega), if_pos (by omega), supN_s, show ix (1 : Int32) = 1 by decide, m3_G 1 (by omega) 0 (by omega)]; rfl⟩
    · exact ⟨2, by rw [supN_s, ix_nI (by omega), m3_G 3 (by omega) 0 (by omega), if_pos (by omega), supN_s, show ix (1 : Int32) = 1 by decide, m3_G 1 (by omega) 0 (by omega)]; rfl⟩
theorem Fin_m3 : Fin0 m3 := fun o h4 ho hl _ => absurd (l4_m3 ho hl) (by omega)
theorem r20_1 : ∀ o, o < 28 → (rin20.1 1 o = 0 ↔ m3.1 4 o = 0) := by decide +kernel
theorem r20_l : ∀ o, o < 4 → rin20.1 3 o = m3.1 7 o ∧ rin20.1 4 o = m3.1 8 o ∧ (∀ k, k < 15 → rin20.1 5 (15 * o + k) = m3.2.1 o k) ∧ rin20.1 2 o = srt m3 o ∧ rin20.1 8 o = m3.1 9 o := by decide +kernel
theorem r20_b : ∀ k, k < 8 → byteM 0 k = 0 := by decide +kernel
theorem Rr_m3 : Rr m3 rin20 := by
  refine ⟨r20_1, fun o ho => ?_, fun o ho hl => ?_, fun r hr => ?_, ?_, ?_, ⟨fun j hj => ?_, fun j k hj hk => ?_⟩⟩
  · rw [m3_5 o ho]; exact ⟨fun _ => rfl, fun _ => rfl⟩
  · have q := r20_l o (l4_m3 ho hl)
    refine ⟨q.1, q.2.1, q.2.2.1, q.2.2.2.1, fun _ => q.2.2.2.2, fun h3 => ?_⟩
    rw [m3_7 o ho, if_pos (l4_m3 ho hl)] at h3; exact absurd h3 (by decide)
  · rw [m3_13 r (by omega)]; rfl
  · rw [m3_13 6 (by omega)]; rfl
  · decide +kernel
  · rw [m3_16 j hj]; exact ⟨fun _ => rfl, fun _ => rfl⟩
  · have e1 : (m3.2.2 17 j) = 0 := rfl
    have e2 : (m3.2.2 18 j) = 0 := rfl
    rw [e1, e2, r20_b k hk]
    exact ⟨rfl, rfl⟩
theorem mem0_eq : mem0 = stick m3 := rfl
/-- at the beginning the two sides are alike -/
theorem BIG_0 : BIG mem0 rin := by
  have hst : settle m3 = stick m3 := by unfold settle; rw [settleL_fin RG_m3 IN_m3.hc Fin_m3]
  have hA : AX m3 := AX_nil IN_m3 (m3_13 6 (by omega))
  have h21 : 0 ≤ (m3.1 21 0).toInt := by decide +kernel
  have := BIG_settle (σ := m3) (μ := rin20) ⟨IN_m3, hA, h21, Rr_m3, RGm_rin20⟩
  rw [hst] at this
  rw [mem0_eq]
  exact this
