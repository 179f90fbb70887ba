/-! one step, a run -/
section STEP
variable {σ τ μ : SS}
theorem sF_num {o k w : Int32} (h1 : 28 ≤ (σ.2.1 (ix o) (ix k)).toInt) (h2 : 28 ≤ w.toInt) : setField σ o k w = sG σ (ix o) (ix k) w := by
  unfold setField
  have e1 : release σ (σ.2.1 (ix o) (ix k)) = σ := by unfold release; rw [if_pos (le28.mpr h1)]
  rw [e1]
  unfold hold
  rw [if_pos (le28.mpr h2)]
theorem sG_sG (σ : SS) {n j : Nat} {x y : Int32} (h : σ.2.1 n j = y) : sG (sG σ n j x) n j y = σ := by
  refine Prod.ext rfl (Prod.ext (funext (fun a => ?_)) rfl)
  show (if a = n then upd ((if a = n then upd (σ.2.1 a) j x else σ.2.1 a)) j y else (if a = n then upd (σ.2.1 a) j x else σ.2.1 a)) = σ.2.1 a
  by_cases e : a = n
  · rw [if_pos e, if_pos e, upd_upd, upd_id (by rw [e]; exact h)]
  · rw [if_neg e, if_neg e]
theorem restore {c : Int32} {q x : Nat} (h4 : σ.2.1 (ix c) 4 = nI (1000 + q)) (hq : q < 100) (hx : x < 100) : setPlace (setPlace σ c (nI x)) c (nI q) = σ := by
  have e4 : ix (4 : Int32) = 4 := by decide
  have g1 : 28 ≤ (σ.2.1 (ix c) (ix 4)).toInt := by rw [e4, h4, nI_toInt (by omega)]; omega
  have g2 : 28 ≤ (1000 + nI x).toInt := by rw [n1000, nI_toInt (by omega)]; omega
  have g3 : 28 ≤ (1000 + nI q).toInt := by rw [n1000, nI_toInt (by omega)]; omega
  unfold setPlace
  rw [sF_num g1 g2]
  have g4 : 28 ≤ ((sG σ (ix c) (ix 4) (1000 + nI x)).2.1 (ix c) (ix 4)).toInt := by
    show 28 ≤ ((if ix c = ix c then upd (σ.2.1 (ix c)) (ix 4) (1000 + nI x) else σ.2.1 (ix c)) (ix 4)).toInt
    rw [if_pos rfl, pk_us]; exact g2
  rw [sF_num g4 g3]
  exact sG_sG σ (by rw [e4, h4, n1000])
theorem BIG_halt (h : BIG σ μ) {r : Int32} (hr : 0 ≤ r.toInt) : BIG (halt σ r) (sA μ 21 0 r) := by
  unfold halt
  have e : ∀ {a}, a ≠ 21 → (sA σ 21 0 r).1 a = σ.1 a := fun ha => sA_ne _ ha _ _
  have ht : ∀ o, tally (sA σ 21 0 r) o = tally σ o := fun o => by
    unfold tally tal c1
    rw [e (show (4 : Nat) ≠ 21 by decide), e (show (7 : Nat) ≠ 21 by decide), e (show (8 : Nat) ≠ 21 by decide), e (show (13 : Nat) ≠ 21 by decide), sA_2]
  refine ⟨IN_row21 h.1 r, AX_row21 h.2.1 r, ?_, by rw [sA_eq, pk_us]; exact hr, Rr_reason h.2.2.2.2.1 r, RGm_A h.2.2.2.2.2 (by decide) _ _⟩
  unfold SE Fin0
  simp only [ht]
  rw [e (show (4 : Nat) ≠ 21 by decide), e (show (5 : Nat) ≠ 21 by decide)]
  exact h.2.2.1
theorem BIG.act (h : BIG σ μ) (h0 : ¬ σ.1 13 6 = 0) : ACT σ μ (σ.1 13 6) := ⟨h.pre, rfl, h0⟩
theorem pb_all {c : Int32} {p a q : Nat} (h : ACT σ μ c) (hp : p < 16) (ha : a < 16) (hq : q < 16) (hw : wu p a ≤ dpt σ c) (h6 : (p ≤ 2 ∨ (p = 13 ∧ a = 0)) → dpt σ c < 6) (hpl : placeOf σ c = nI (q + 1)) : PB (perform σ c (nI p) (nI a)) (fails1M μ (nI p) (nI a) (nI q)) (perf1M μ (nI p) (nI a) (nI q)) σ := by
  have e : ∀ k : Nat, k < 16 → ((nI p = nI k) ↔ p = k) := fun k hk => nI_cases hp (by omega)
  unfold wu at hw
  unfold perform fails1M perf1M
  by_cases e0 : nI p = 0
  · have p0 := (e 0 (by omega)).mp e0
    rw [if_pos e0, if_pos e0, if_pos e0]; exact pb_0 h ha (h6 (Or.inl (by omega)))
  rw [if_neg e0, if_neg e0, if_neg e0]
  by_cases e1 : nI p = 1
  · have p1 := (e 1 (by omega)).mp e1
    rw [if_pos e1, if_pos e1, if_pos e1, e1]; exact pb_1 h (h6 (Or.inl (by omega)))
  rw [if_neg e1, if_neg e1, if_neg e1]
  by_cases e2 : nI p = 2
  · have p2 := (e 2 (by omega)).mp e2
    rw [if_pos e2, if_pos e2, if_pos e2]; exact pb_2 h ha (h6 (Or.inl (by omega)))
  rw [if_neg e2, if_neg e2, if_neg e2]
  by_cases e3 : nI p = 3
  · have p3 := (e 3 (by omega)).mp e3
    rw [if_pos (by omega)] at hw
    rw [if_pos e3, if_pos e3, if_pos e3]; exact pb_3 h ha hw
  rw [if_neg e3, if_neg e3, if_neg e3]
  by_cases e4 : nI p = 4
  · have p4 := (e 4 (by omega)).mp e4
    rw [if_pos (by omega)] at hw
    rw [if_pos e4, if_pos e4, if_pos e4, e4]; exact pb_4 h hw
  rw [if_neg e4, if_neg e4, if_neg e4]
  by_cases e5 : nI p = 5
  · have p5 := (e 5 (by omega)).mp e5
    rw [if_neg (by omega), if_pos (by omega)] at hw
    rw [if_pos e5, if_pos e5, if_pos e5]; exact pb_56 h (Or.inl e5) ha hw
  rw [if_neg e5, if_neg e5, if_neg e5]
  by_cases e6 : nI p = 6
  · have p6 := (e 6 (by omega)).mp e6
    rw [if_neg (by omega), if_pos (by omega)] at hw
    rw [if_pos e6, if_pos e6, if_pos e6]; exact pb_56 h (Or.inr e6) ha hw
  rw [if_neg e6, if_neg e6, if_neg e6]
  have n5 : ¬ (p = 5 ∨ p = 6) := fun q => by
    rcases q with q | q
    · exact e5 ((e 5 (by omega)).mpr q)
    · exact e6 ((e 6 (by omega)).mpr q)
  by_cases e7 : nI p = 7
  · have p7 := (e 7 (by omega)).mp e7
    rw [if_neg (by omega), if_neg n5, if_pos (by omega)] at hw
    rw [if_pos e7, if_pos e7, if_pos e7]; exact pb_7 h ha hw
  rw [if_neg e7, if_neg e7, if_neg e7]
  by_cases e8 : nI p = 8
  · rw [if_pos e8, if_pos e8, if_pos e8]; exact pb_8 h ha hq hpl
  rw [if_neg e8, if_neg e8, if_neg e8]
  by_cases e9 : nI p = 9
  · have p9 := (e 9 (by omega)).mp e9
    rw [if_pos (by omega)] at hw
    rw [if_pos e9, if_pos e9, if_pos e9]; exact pb_9 h ha hq hpl hw
  rw [if_neg e9, if_neg e9, if_neg e9]
  by_cases e10 : nI p = 10
  · rw [if_pos e10, if_pos e10, if_pos e10]; exact pb_10 h ha hq hpl
  rw [if_neg e10, if_neg e10, if_neg e10]
  by_cases e11 : nI p = 11
  · have p11 := (e 11 (by omega)).mp e11
    rw [if_neg (by omega), if_neg n5, if_neg (by omega), if_pos (by omega)] at hw
    rw [if_pos e11, if_pos e11, if_pos e11]; exact pb_11 h ha (fun a0 => by rw [if_pos a0] at hw; exact hw)
  rw [if_neg e11, if_neg e11, if_neg e11]
  by_cases e12 : nI p = 12
  · have p12 := (e 12 (by omega)).mp e12
    rw [if_neg (by omega), if_neg n5, if_neg (by omega), if_pos (by omega)] at hw
    rw [if_pos e12, if_pos e12, if_pos e12]; exact pb_12 h ha (fun a0 => by rw [if_pos a0] at hw; exact hw)
  rw [if_neg e12, if_neg e12, if_neg e12]
  by_cases e13 : nI p = 13
  · have p13 := (e 13 (by omega)).mp e13
    rw [if_neg (by omega), if_neg n5, if_neg (by omega), if_neg (by omega), if_pos p13] at hw
    rw [if_pos e13, if_pos e13]; exact pb_13 h ha (fun a1 => by rw [if_neg (by omega)] at hw; exact hw) (fun a0 => h6 (Or.inr ⟨p13, a0⟩))
  rw [if_neg e13, if_neg e13]
  have p14 : ¬ nI p ≤ 13 := fun z => by
    have g := (nI_leI (b := 13) (by omega) (by omega)).mp z
    have := fun k (hk : k < 16) => (e k hk)
    have q0 : p ≠ 0 := fun r => e0 ((e 0 (by omega)).mpr r)
    have q1 : p ≠ 1 := fun r => e1 ((e 1 (by omega)).mpr r)
    have q2 : p ≠ 2 := fun r => e2 ((e 2 (by omega)).mpr r)
    have q3 : p ≠ 3 := fun r => e3 ((e 3 (by omega)).mpr r)
    have q4 : p ≠ 4 := fun r => e4 ((e 4 (by omega)).mpr r)
    have q7 : p ≠ 7 := fun r => e7 ((e 7 (by omega)).mpr r)
    have q8 : p ≠ 8 := fun r => e8 ((e 8 (by omega)).mpr r)
    have q9 : p ≠ 9 := fun r => e9 ((e 9 (by omega)).mpr r)
    have q10 : p ≠ 10 := fun r => e10 ((e 10 (by omega)).mpr r)
    have q11 : p ≠ 11 := fun r => e11 ((e 11 (by omega)).mpr r)
    have q12 : p ≠ 12 := fun r => e12 ((e 12 (by omega)).mpr r)
    have q13 : p ≠ 13 := fun r => e13 ((e 13 (by omega)).mpr r)
    omega
  rw [if_neg p14]
  exact PB.no (by decide)
/-- jumping first changes no reason to fail -/
theorem jump_fails {c : Int32} {p a : Nat} (h : ACT σ μ c) (hp : p < 16) (ha : a < 16) (hw : wu p a ≤ dpt σ c) (x q : Int32) : fails1M (jumpM μ x) (nI p) (nI a) q = fails1M μ (nI p) (nI a) q := by
  have e : ∀ k : Nat, k < 16 → ((nI p = nI k) ↔ p = k) := fun k hk => nI_cases hp (by omega)
  unfold wu at hw
  unfold fails1M
  by_cases e5 : p = 5 ∨ p = 6
  · rw [if_neg (by omega), if_pos e5] at hw
    rw [jump_fa1 h, jump_fa5 h x _ ha hw]
    rcases e5 with rfl | rfl
    · rw [if_neg (show ¬ nI 5 = 0 by decide), if_neg (show ¬ nI 5 = 1 by decide), if_neg (show ¬ nI 5 = 2 by decide), if_neg (show ¬ nI 5 = 3 by decide), if_neg (show ¬ nI 5 = 4 by decide), if_pos (show nI 5 = 5 from rfl), if_neg (show ¬ nI 5 = 0 by decide), if_neg (show ¬ nI 5 = 1 by decide), if_neg (show ¬ nI 5 = 2 by decide), if_neg (show ¬ nI 5 = 3 by decide), if_neg (show ¬ nI 5 = 4 by decide), if_pos (show nI 5 = 5 from rfl)]
    · rw [if_neg (show ¬ nI 6 = 0 by decide), if_neg (show ¬ nI 6 = 1 by decide), if_neg (show ¬ nI 6 = 2 by decide), if_neg (show ¬ nI 6 = 3 by decide), if_neg (show ¬ nI 6 = 4 by decide), if_neg (show ¬ nI 6 = 5 by decide), if_pos (show nI 6 = 6 from rfl), if_neg (show ¬ nI 6 = 0 by decide), if_neg (show ¬ nI 6 = 1 by decide), if_neg (show ¬ nI 6 = 2 by decide), if_neg (show ¬ nI 6 = 3 by decide), if_neg (show ¬ nI 6 = 4 by decide), if_neg (show ¬ nI 6 = 5 by decide), if_pos (show nI 6 = 6 from rfl)]
  · have g5 : ¬ nI p = 5 := fun z => e5 (Or.inl ((e 5 (by omega)).mp z))
    have g6 : ¬ nI p = 6 := fun z => e5 (Or.inr ((e 6 (by omega)).mp z))
    rw [jump_fa1 h, if_neg g5, if_neg g5, if_neg g6, if_neg g6]
    by_cases e7 : nI p = 7
    · have p7 := (e 7 (by omega)).mp e7
      rw [if_neg (by omega), if_neg e5, if_pos p7] at hw
      rw [jump_wf h x _ hw, if_pos e7, if_pos e7]
    · rw [if_neg e7, if_neg e7]
      by_cases e9 : nI p = 9
      · have p9 := (e 9 (by omega)).mp e9
        rw [if_pos (by omega)] at hw
        rw [jump_fa9 h x _ _ hw, if_pos e9, if_pos e9]
      · rw [if_neg e9, if_neg e9]
        by_cases e12 : nI p = 12
        · have p12 := (e 12 (by omega)).mp e12
          rw [if_neg (by omega), if_neg e5, if_neg (by omega), if_pos (by omega)] at hw
          rw [jump_fa12 h x ha (fun a0 => by rw [if_pos a0] at hw; exact hw)]
        · rw [if_neg e12, if_neg e12]
def FV (r : Int32) : Prop := r = 0 ∨ r = 2 ∨ r = 3 ∨ r = 4 ∨ r = 5
theorem FV_pos {r : Int32} (hr : FV r) (hn : ¬ r = 0) : 0 ≤ r.toInt ∧ ¬ r ≤ 0 := by
  rcases hr with rfl | rfl | rfl | rfl | rfl
  · exact absurd rfl hn
  all_goals exact ⟨by decide, by decide⟩
theorem FV_ite {P : Prop} [Decidable P] {x y : Int32} (hx : FV x) (hy : FV y) : FV (if P then x else y) := by
  by_cases h : P
  · rw [if_pos h]; exact hx
  · rw [if_neg h]; exact hy
theorem FV_fails (μ : SS) (p a q : Int32) : FV (fails1M μ p a q) := by
  have f0 : FV 0 := Or.inl rfl
  have f2 : FV 2 := Or.inr (Or.inl rfl)
  have f3 : FV 3 := Or.inr (Or.inr (Or.inl rfl))
  have f4 : FV 4 := Or.inr (Or.inr (Or.inr (Or.inl rfl)))
  have f5 : FV 5 := Or.inr (Or.inr (Or.inr (Or.inr rfl)))
  have b1 : ∀ p a, FV (fa1M μ p a) := fun p a => by unfold fa1M; exact FV_ite f3 (FV_ite (FV_ite (FV_ite f0 f3) f0) f3)
  have b5 : ∀ p a, FV (fa5M μ p a) := fun p a => by unfold fa5M; exact FV_ite (FV_ite f2 (FV_ite f0 f4)) f3
  have b7 : ∀ a, FV (workFailsM μ a) := fun a => by unfold workFailsM wf1M wf2M; exact FV_ite (FV_ite f0 (FV_ite f3 (FV_ite f3 (FV_ite f5 (FV_ite f0 f5))))) f3
  have b8 : ∀ q a, FV (fa8M q a) := fun q a => by unfold fa8M; exact FV_ite f0 f3
  have b9 : ∀ q a, FV (fa9M μ q a) := fun q a => by unfold fa9M; exact FV_ite (b8 q a) f0
  have b12 : ∀ a, FV (fa12M μ a) := fun a => by unfold fa12M; exact FV_ite f3 (FV_ite f3 (FV_ite f3 (FV_ite f0 f4)))
  unfold fails1M
  exact FV_ite (FV_ite f0 f3) (FV_ite (b1 _ _) (FV_ite f0 (FV_ite (FV_ite f0 f3) (FV_ite (b1 _ _) (FV_ite (b5 _ _) (FV_ite (b5 _ _) (FV_ite (b7 _) (FV_ite (b8 _ _) (FV_ite (b9 _ _) (FV_ite (FV_ite f0 f3) (FV_ite (FV_ite f0 f3) (FV_ite (b12 _) (FV_ite (FV_ite f0 f3) (FV_ite f0 f3))))))))))))))
theorem s_step (h : BIG σ μ) (hc : condition σ = 1) : Same (doByte σ) (stepM μ) := by
  have h0 : ¬ σ.1 13 6 = 0 := fun q => by rw [(cond_0 σ).mpr q] at hc; exact absurd hc (by decide)
  have hr0 : σ.1 21 0 = 0 := by
    unfold condition at hc
    rw [show ix (6 : Int32) = 6 by decide, if_neg h0] at hc
    exact Classical.byContradiction (fun q => by rw [if_neg q] at hc; exact absurd hc (by decide))
  have hA := h.act h0
  obtain ⟨c, hce⟩ : ∃ c, c = σ.1 13 6 := ⟨_, rfl⟩
  have e6 : ix (6 : Int32) = 6 := by decide
  rw [← hce] at hA
  have hk := h.1.kx _ (vp_ix hA.ctx.1) hA.ctx.2.1 hA.ctx.2.2
  obtain ⟨q, hq, e4⟩ := hk.2.2.2.2.1
  have epl : placeOf σ c = nI q := by unfold placeOf; rw [show ix (4 : Int32) = 4 by decide, e4, show (1000 : Int32) = nI 1000 from rfl, pk_sub (by omega), show 1000 + q - 1000 = q by omega]
  have epm : atM μ 4 - 1000 = nI q := by
    rw [show atM μ 4 = σ.2.1 (ix c) 4 from hA.rr.at hA.ctx hA.ac (k := 4) (by omega), e4, show (1000 : Int32) = nI 1000 from rfl, pk_sub (by omega), show 1000 + q - 1000 = q by omega]
  unfold doByte stepM
  rw [e6, ← hce, epl, epm]
  unfold by0 step1M
  by_cases h16 : q < 16
  · have a1 : nI q < 16 := (nI_ltI (b := 16) (by omega) (by omega)).mpr h16
    have a2 : nI q ≤ 15 := (nI_leI (b := 15) (by omega) (by omega)).mpr (by omega)
    rw [if_pos a1, if_pos a2]
    obtain ⟨v, hv, ev1, ev2⟩ := byte_eq hA h16
    rw [ev1, ev2]
    obtain ⟨t1, t2, t3, t4⟩ := halves hv
    rw [t1, t2, t3, t4]
    obtain ⟨p, hpe⟩ : ∃ p, p = v / 16 := ⟨_, rfl⟩
    obtain ⟨a, hae⟩ : ∃ a, a = v % 16 := ⟨_, rfl⟩
    have hp : p < 16 := by omega
    have ha : a < 16 := by omega
    rw [← hpe] at t3 ⊢
    rw [← hae] at t4 ⊢
    have hd := dpt_nI h.1.rg hA.ctx.1
    have htp : tpM μ = nI (dpt σ c) := (hA.rr.tp hA.ctx hA.ac).trans hd.1
    have hwe := words_eq hp ha
    have hwn := wordsUsed_nI hp ha
    have wub : wu p a ≤ 3 := by unfold wu; repeat' split
                                all_goals omega
    unfold by1 stackSuits failsM
    rw [hwe.1, hwe.2, htp, hd.1, hwn]
    by_cases s1 : nI (dpt σ c) < nI (wu p a)
    · rw [if_pos s1, if_pos s1, if_pos rfl]
      unfold step2M
      rw [if_neg (show ¬ (1 : Int32) ≤ 0 by decide)]
      exact Same.mk (BIG_halt h (by decide))
    · rw [if_neg s1, if_neg s1]
      have hw : wu p a ≤ dpt σ c := Nat.not_lt.mp (fun z => s1 ((nI_ltI (by omega) (by omega)).mpr z))
      -- what happens when the stack suits
      have key : ((p ≤ 2 ∨ (p = 13 ∧ a = 0)) → dpt σ c < 6) → Same (by2 σ c (nI q) (perform (setPlace σ c (nI q + 1)) c (nI p) (nI a))) (step2M μ (nI v) (nI q) (fails1M μ (nI p) (nI a) (nI q))) := by
        intro h6
        have hJ := ACT_jump (q := q + 1) hA (by omega)
        have dJ : dpt (setPlace σ c (nI (q + 1))) c = dpt σ c := by unfold dpt setPlace; rw [setField_ne _ _ _ _ (by decide)]
        have pJ : placeOf (setPlace σ c (nI (q + 1))) c = nI (q + 1) := by
          unfold placeOf setPlace
          rw [sF_row, pk_us, n1000, show (1000 : Int32) = nI 1000 from rfl, pk_sub (by omega), show 1000 + (q + 1) - 1000 = q + 1 by omega]
        have hB := pb_all hJ hp ha h16 (by rw [dJ]; exact hw) (fun z => by rw [dJ]; exact h6 z) pJ
        rw [jump_fails hA hp ha hw] at hB
        rw [nI_1]
        obtain ⟨b1, b2, b3⟩ := hB
        unfold by2 step2M
        by_cases z0 : (perform (setPlace σ c (nI (q + 1))) c (nI p) (nI a)).1 = 0
        · rw [if_pos z0, ← b1, z0, if_pos (show (0 : Int32) ≤ 0 by decide)]
          have hm0 : sA μ 21 0 0 = μ := sA_id μ (hA.rr.2.2.2.2.2.1.trans hr0)
          rw [hm0, t3, t4]
          unfold performM
          rw [nI_1]
          exact Same.mk (BIG_settle (b2 z0))
        · rw [if_neg z0, b3 z0, restore e4 (by omega) (by omega), b1]
          rw [b1] at z0
          have hpos : 0 ≤ (fails1M μ (nI p) (nI a) (nI q)).toInt ∧ ¬ fails1M μ (nI p) (nI a) (nI q) ≤ 0 := by
            exact FV_pos (FV_fails μ _ _ _) z0
          rw [if_neg hpos.2]
          exact Same.mk (BIG_halt h hpos.1)
      by_cases s2 : dpt σ c < 6
      · rw [if_pos ((lt6 (by omega)).mpr s2), if_neg (show ¬ (1 : Int32) = 0 by decide)]
        have k := key (fun _ => s2)
        by_cases g : onlyPushes (nI p) (nI a) = 0
        · rw [if_pos g]; exact k
        · rw [if_neg g, if_neg (show ¬ nI (dpt σ c) = 6 from fun z => by have := (nI_eq (b := 6) (by omega) (by omega)).mp z; omega)]; exact k
      · have d6 : dpt σ c = 6 := by omega
        rw [if_neg (fun z => s2 ((lt6 (by omega)).mp z))]
        by_cases g : onlyPushes (nI p) (nI a) = 0
        · rw [if_pos g, if_pos g, if_neg (show ¬ (1 : Int32) = 0 by decide)]
          exact key (fun z => absurd z ((onlyPushes_nI hp ha).mp g))
        · rw [if_neg g, if_neg g, if_pos rfl, if_pos (show nI (dpt σ c) = 6 by rw [d6]; rfl)]
          unfold step2M
          rw [if_neg (show ¬ (1 : Int32) ≤ 0 by decide)]
          exact Same.mk (BIG_halt h (by decide))
  · rw [if_neg (show ¬ nI q < 16 from fun z => h16 ((nI_ltI (b := 16) (by omega) (by omega)).mp z)), if_neg (show ¬ nI q ≤ 15 from fun z => by have := (nI_leI (b := 15) (by omega) (by omega)).mp z; omega)]
    unfold step2M
    rw [if_neg (show ¬ (6 : Int32) ≤ 0 by decide)]
    exact Same.mk (BIG_halt h (by decide))
theorem cond_1 (h : BIG σ μ) : condition σ = 1 ↔ (¬ acM μ = 0 ∧ μ.1 21 0 = 0) := by
  have ea : acM μ = σ.1 13 6 := h.2.2.2.2.1.2.2.2.2.1
  have er : μ.1 21 0 = σ.1 21 0 := h.2.2.2.2.1.2.2.2.2.2.1
  rw [ea, er]
  unfold condition
  rw [show ix (6 : Int32) = 6 by decide]
  by_cases e : σ.1 13 6 = 0
  · rw [if_pos e]; exact ⟨fun q => absurd q (by decide), fun q => absurd e q.1⟩
  · rw [if_neg e]
    by_cases e2 : σ.1 21 0 = 0
    · rw [if_pos e2]; exact ⟨fun _ => ⟨e, e2⟩, fun _ => rfl⟩
    · rw [if_neg e2]; exact ⟨fun q => absurd q (by decide), fun q => absurd q.2 e2⟩
theorem s_runL : ∀ {m k : Nat} {σ μ : SS}, BIG σ μ → Same (runL m k σ) (runML m k μ) := by
  intro m
  induction m with
  | zero => intro k σ μ h; exact Same.mk h
  | succ m ih =>
    intro k σ μ h
    unfold runL runML
    by_cases hc : condition σ = 1
    · have g := (cond_1 h).mp hc
      have s := s_step h hc
      rw [if_pos hc, if_neg g.1, if_pos g.2, s.1]
      by_cases e : (stepM μ).1 = 0
      · rw [if_pos e, if_pos e]; exact Same.mk s.2
      · rw [if_neg e, if_neg e]; exact ih s.2
    · rw [if_neg hc]
      by_cases g1 : acM μ = 0
      · rw [if_pos g1]; exact Same.mk h
      · rw [if_neg g1, if_neg (fun q => hc ((cond_1 h).mpr ⟨g1, q⟩))]; exact Same.mk h
theorem s_run (h : BIG σ μ) (n : Int32) : Same (run σ n) (runM μ n) := by
  unfold run runM
  by_cases e1 : n < 0
  · rw [if_pos e1, if_pos e1]; exact Same.mk h
  · rw [if_neg e1, if_neg e1]
    by_cases e2 : n ≤ 500
    · rw [if_pos e2, if_pos e2]; exact s_runL h
    · rw [if_neg e2, if_neg e2]; exact Same.mk h
/-- what the class's walk of a byte needs -/
theorem BIG_ByOk (h : BIG σ μ) (hc : condition σ = 1) : ByOk σ := by
  have h0 : ¬ σ.1 13 6 = 0 := fun q => by rw [(cond_0 σ).mpr q] at hc; exact absurd hc (by decide)
  have hA := h.act h0
  have e6 : ix (6 : Int32) = 6 := by decide
  unfold ByOk
  rw [e6]
  have hC := hA.ctx
  obtain ⟨k1, k2, k3, ⟨t, ht, et⟩, ⟨q, hq, e4⟩, k6⟩ := h.1.kx _ (vp_ix hC.1) hC.2.1 hC.2.2
  have x2 : ix (2 : Int32) = 2 := by decide
  have x3 : ix (3 : Int32) = 3 := by decide
  have x4 : ix (4 : Int32) = 4 := by decide
  refine ⟨h.1.rg, h.1.bz, ⟨hC.1, ?_, ?_, ?_, fun hz => ?_, fun m hm0 hm => ?_, ?_⟩, ?_⟩
  · rw [x2]; exact k3.1
  · rw [x2, i0]; exact CN.sup h.1 (CN.step h.1 (Or.inr k3))
  · rw [i0]
    rcases k2 with z | z
    · rw [z]; exact vp_0
    · exact z.1
  · rw [i0] at hz ⊢
    have := h.2.1.2.2 1 (by omega)
    rw [supN_s] at this
    have g := this hz
    show (σ.1 10 (ix (σ.2.1 (ix (σ.1 13 6)) 0))).toInt < 6
    exact Int.lt_of_le_of_lt g (by decide)
  · have hd := dpt_nI h.1.rg hC.1
    have hm' : m.toInt + 1 ≤ (σ.1 10 (ix (σ.1 13 6))).toInt := hm
    rw [hd.1, nI_toInt (by omega)] at hm'
    obtain ⟨j, hj, rfl⟩ := d_of (d := m) hm0 (n := 6) (by omega) (by decide)
    rw [nI_toInt (by omega)] at hm'
    have tm := hA.top (m := j) (by omega)
    exact CN.sup h.1 (Or.inr (classOfWord_CW h.1 tm.2.1 tm.2.2))
  · unfold placeOf
    rw [x4, e4, show (1000 : Int32) = nI 1000 from rfl, pk_sub (by omega), nI_toInt (by omega)]
    omega
  · rw [x3, et, show (1000 : Int32) = nI 1000 from rfl, pk_sub (by omega)]
    exact vp_k (by omega) (by decide)
end STEP
