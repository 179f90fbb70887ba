/-! perform keeps the ranges; a byte that fails leaves the state -/
abbrev PfOk (σ : SS) (c q a : Int32) : Prop := RG σ ∧ CtxOk σ c ∧ vp_in a 16 ∧ ¬ stackSuits σ c q a = 0
theorem RG_setPlace {σ : SS} (h : RG σ) (c : Int32) {q : Int32} (hq : 0 ≤ (1000 + q).toInt) : RG (setPlace σ c q) := RG_setField h _ _ hq
theorem RG_calc {σ : SS} (hg : RG σ) {c w : Int32} (h_c : vp_in c 28) (h2 : 2 ≤ dep σ c) (hw : 0 ≤ w.toInt) : RG (calcT σ c w) := by
  have hd := hg.dep h_c
  have e2 := sub_in (K := 2) (k := 2) (d := σ.1 10 (ix c)) rfl h2 hd.2
  have h2' : 2 ≤ (σ.1 10 (ix c)).toInt := h2
  exact RG_push (RG_popDownTo hg _ (by omega)) h_c (by rw [popDownTo_10]; omega) hw
theorem RG_calculate {σ : SS} (hg : RG σ) {c a : Int32} (h_c : vp_in c 28) (h2 : 2 ≤ dep σ c) : RG (calculate σ c a).2 := by
  unfold calculate
  by_cases e1 : 4 < a
  · rw [if_pos e1]; exact hg
  · rw [if_neg e1]
    by_cases e2 : a = 4
    · rw [if_pos e2]
      by_cases e3 : resultOf a (topBut σ c 1) (topBut σ c 0) = -1
      · rw [if_pos e3]; exact hg
      · rw [if_neg e3]; exact RG_calc hg h_c h2 (resultOf_nn e3)
    · rw [if_neg e2]
      by_cases e3 : isObject (topBut σ c 1) = 0
      · rw [if_pos e3]
        by_cases e4 : isObject (topBut σ c 0) = 0
        · rw [if_pos e4]
          by_cases e5 : resultOf a (topBut σ c 1) (topBut σ c 0) = -1
          · rw [if_pos e5]; exact hg
          · rw [if_neg e5]; exact RG_calc hg h_c h2 (resultOf_nn e5)
        · rw [if_neg e4]; exact hg
      · rw [if_neg e3]; exact hg
theorem RG_answer {σ : SS} (hg : RG σ) {c a : Int32} (h_c : vp_in c 28) (h1 : a = 0 → 1 ≤ dep σ c) (h_d : vp_in (σ.2.1 (ix c) (ix 0)) 28) (hdd : ¬ σ.2.1 (ix c) (ix 0) = 0 → dep σ (σ.2.1 (ix c) (ix 0)) < 6) : RG (giveAnswer σ c a).2 := by
  unfold giveAnswer
  by_cases e1 : a ≤ 1
  · rw [if_pos e1]
    have nw : 0 ≤ (answerW σ c a).toInt := by
      unfold answerW
      by_cases e : a = 0
      · rw [if_pos e]; exact hg.top h_c (by decide) (by rw [n0]; have : 1 ≤ (σ.1 10 (ix c)).toInt := h1 e; omega)
      · rw [if_neg e]; exact hg.grid h_c (vpc (by decide))
    show RG (answerS σ (σ.2.1 (ix c) (ix 0)) (answerW σ c a))
    unfold answerS
    refine RG_setRegister ?_ _ (vp_nn h_d)
    by_cases e : σ.2.1 (ix c) (ix 0) = 0
    · rw [if_pos e]; exact RG_setRegister hg _ nw
    · rw [if_neg e]; exact RG_push hg h_d (hdd e) nw
  · rw [if_neg e1]; exact hg
theorem RG_inst {σ : SS} (hg : RG σ) {c a : Int32} (h_c : vp_in c 28) (h1 : a = 0 → 1 ≤ dep σ c) : RG (instance0 σ c a).2 := by
  unfold instance0
  by_cases e1 : a = 0
  · rw [if_pos e1]
    unfold instance1
    by_cases e2 : isClass σ (topBut σ c 0) = 0
    · rw [if_pos e2]; exact hg
    · rw [if_neg e2]
      by_cases e3 : topBut σ c 0 = 3
      · rw [if_pos e3]; exact hg
      · rw [if_neg e3]
        have g1 := RG_newInstance hg (isClass_in e2)
        by_cases e4 : leastFree σ = -1
        · rw [if_pos e4]; exact g1
        · rw [if_neg e4]
          have h1' : 1 ≤ (σ.1 10 (ix c)).toInt := h1 e1
          have e10 : (newInstance σ (topBut σ c 0)).1 10 = σ.1 10 := newInstance_ne _ _ (by decide)
          have g2 := RG_pop g1 h_c (by rw [e10]; exact h1')
          refine RG_push g2 h_c ?_ (vp_nn (leastFree_in e4))
          rw [pop_10, e10, dec_in h1' (hg.dep h_c).2]
          have := (hg.dep h_c).2
          omega
  · rw [if_neg e1]; exact hg
theorem RG_perform {σ : SS} {c q a : Int32} (hp : PfOk σ c q a) : RG (perform σ c q a).2 := by
  obtain ⟨hg, ⟨h_c, h_f, hs6, h_d, hdd, hS, p0, p1⟩, h_a, hst⟩ := hp
  have hpu := fun h => suits_p (σ := σ) (c := c) (q := q) (a := a) hst h
  have hwu := suits_w hst
  unfold perform
  by_cases q0 : q = 0
  · rw [if_pos q0]
    unfold pushTemporary
    by_cases e : a < 4
    · rw [if_pos e]; exact RG_push hg h_c (hpu (op_02 (Or.inl q0))) (hg.grid h_c (tmp_in (vp_nn h_a) e))
    · rw [if_neg e]; exact hg
  rw [if_neg q0]
  by_cases q1 : q = 1
  · rw [if_pos q1]
    unfold pushField
    by_cases e : hasField σ (recv σ c) a = 0
    · rw [if_pos e]; exact hg
    · rw [if_neg e]
      by_cases e2 : isContext σ (recv σ c) = 0
      · rw [if_pos e2]; exact RG_push hg h_c (hpu (op_02 (Or.inr (Or.inl q1)))) (hg.grid (hf_o e) (hf_k hg e))
      · rw [if_neg e2]; exact hg
  rw [if_neg q1]
  by_cases q2 : q = 2
  · rw [if_pos q2]; exact RG_push hg h_c (hpu (op_02 (Or.inr (Or.inr q2)))) (otherWord_nn hg h_c h_a)
  rw [if_neg q2]
  by_cases q3 : q = 3
  · rw [if_pos q3]
    rw [wu_1 (Or.inl q3)] at hwu
    unfold popTemporary
    by_cases e : a < 4
    · rw [if_pos e]; exact RG_setField (RG_pop hg h_c hwu) _ _ (hg.top h_c (by decide) (by rw [n0]; exact hwu))
    · rw [if_neg e]; exact hg
  rw [if_neg q3]
  by_cases q4 : q = 4
  · rw [if_pos q4]
    rw [wu_1 (Or.inr (Or.inl q4))] at hwu
    unfold popField
    by_cases e : hasFreeField σ (recv σ c) a = 0
    · rw [if_pos e]; exact hg
    · rw [if_neg e]; exact RG_setField (RG_pop hg h_c hwu) _ _ (hg.top h_c (by decide) (by rw [n0]; exact hwu))
  rw [if_neg q4]
  have hsnd : q = 5 ∨ q = 6 → RG (sendOn σ c q a).2 := fun h56 => by
    have ha1 := args1 h_a
    rw [wu_s h56, ha1.1] at hwu
    exact RG_sendOn hg h_c (fun _ => hwu) (fun _ _ => hS _ ha1.2 hwu) (fun _ => hs6)
  by_cases q5 : q = 5
  · rw [if_pos q5]; exact hsnd (Or.inl q5)
  rw [if_neg q5]
  by_cases q6 : q = 6
  · rw [if_pos q6]; exact hsnd (Or.inr q6)
  rw [if_neg q6]
  by_cases q7 : q = 7
  · rw [if_pos q7]; rw [wu_7 q7] at hwu; exact RG_calculate hg h_c hwu
  rw [if_neg q7]
  by_cases q8 : q = 8
  · rw [if_pos q8]
    unfold forward
    by_cases e : placeOf σ c + a ≤ 16
    · rw [if_pos e]; exact RG_setPlace hg _ (pl_nn p0 p1 h_a)
    · rw [if_neg e]; exact hg
  rw [if_neg q8]
  by_cases q9 : q = 9
  · rw [if_pos q9]
    rw [wu_1 (Or.inr (Or.inr q9))] at hwu
    unfold forwardIfNil
    by_cases e : fin σ c a ≤ 16
    · rw [if_pos e]; exact RG_setPlace (RG_pop hg h_c hwu) _ (fin_nn p0 p1 h_a)
    · rw [if_neg e]; exact hg
  rw [if_neg q9]
  by_cases q10 : q = 10
  · rw [if_pos q10]
    unfold back
    by_cases e : 0 ≤ placeOf σ c - (a + 1)
    · rw [if_pos e]; exact RG_setPlace hg _ (bk_nn p0 p1 h_a e)
    · rw [if_neg e]; exact hg
  rw [if_neg q10]
  by_cases q11 : q = 11
  · rw [if_pos q11]; exact RG_answer hg h_c (fun e => by rw [wu_a (Or.inl q11) e] at hwu; exact hwu) h_d hdd
  rw [if_neg q11]
  by_cases q12 : q = 12
  · rw [if_pos q12]; exact RG_inst hg h_c (fun e => by rw [wu_a (Or.inr q12) e] at hwu; exact hwu)
  rw [if_neg q12]
  by_cases q13 : q = 13
  · rw [if_pos q13]
    unfold doubleOrPop
    by_cases e : a ≤ 1
    · rw [if_pos e]
      rw [wu_13 q13 e] at hwu
      by_cases e0 : a = 0
      · rw [if_pos e0]; exact RG_push hg h_c (hpu (op_13 q13 e0)) (hg.top h_c (by decide) (by rw [n0]; exact hwu))
      · rw [if_neg e0]; exact RG_pop hg h_c hwu
    · rw [if_neg e]; exact hg
  rw [if_neg q13]
  exact hg
/-- setting the place leaves all that a byte needs -/
theorem sG_ne (σ : SS) {n j a b : Nat} (x : Int32) (h : ¬ (a = n ∧ b = j)) : (sG σ n j x).2.1 a b = σ.2.1 a b := by
  show (if a = n then upd (σ.2.1 a) j x else σ.2.1 a) b = _
  by_cases e : a = n
  · rw [if_pos e]; exact if_neg (fun e2 => h ⟨e, e2⟩)
  · rw [if_neg e]
theorem hold_G (σ : SS) (w : Int32) : (hold σ w).2 = σ.2 := by
  unfold hold
  split <;> rfl
theorem release_G (σ : SS) (w : Int32) : (release σ w).2 = σ.2 := by
  unfold release
  split <;> rfl
theorem setField_G (σ : SS) (o k w : Int32) : (setField σ o k w).2 = (sG σ (ix o) (ix k) w).2 := by
  unfold setField
  rw [hold_G]
  show (_, _) = _
  rw [release_G]
  rfl
theorem setField_ne2 (σ : SS) {o k w : Int32} {a b : Nat} (h : ¬ (a = ix o ∧ b = ix k)) : (setField σ o k w).2.1 a b = σ.2.1 a b := by
  rw [setField_G]
  exact sG_ne σ w h
theorem setField_eq2 (σ : SS) (o k w : Int32) : (setField σ o k w).2.1 (ix o) (ix k) = w := by
  rw [setField_G]
  show (if ix o = ix o then upd (σ.2.1 (ix o)) (ix k) w else σ.2.1 (ix o)) (ix k) = w
  rw [if_pos rfl]
  exact if_pos rfl
theorem supN_same {σ τ : SS} (h : ∀ i, τ.2.1 i 0 = σ.2.1 i 0) : ∀ (n : Nat) (a : Int32), supN τ n a = supN σ n a
  | 0, _ => rfl
  | n + 1, a => by
    show supN τ n (τ.2.1 (ix a) 0) = supN σ n (σ.2.1 (ix a) 0)
    rw [h, supN_same h n]
theorem Sup_same {σ τ : SS} (h : ∀ i, τ.2.1 i 0 = σ.2.1 i 0) {a : Int32} (hs : Sup σ a) : Sup τ a := fun n => by rw [supN_same h]; exact hs n
theorem place_back {p : Int32} : 1000 + p - 1000 = p := by
  rw [Int32.add_comm, Int32.add_sub_cancel]
theorem CtxOk_place {σ : SS} {c p : Int32} (hg : RG σ) (h : CtxOk σ c) (p0 : 0 ≤ p.toInt) (p1 : p.toInt ≤ 16) : CtxOk (setPlace σ c p) c := by
  obtain ⟨h_c, h_f, hs6, h_d, hdd, hS, -, -⟩ := h
  have g : ∀ {a b : Nat}, b ≠ 4 → (setPlace σ c p).2.1 a b = σ.2.1 a b := fun {a b} hb => setField_ne2 σ (fun e => hb e.2)
  have r : ∀ {a : Nat}, a ≠ 11 → (setPlace σ c p).1 a = σ.1 a := fun {a} ha => setField_ne σ _ _ _ ha
  have s0 : ∀ i, (setPlace σ c p).2.1 i 0 = σ.2.1 i 0 := fun i => g (by decide)
  have e0 : (setPlace σ c p).2.1 (ix c) (ix 0) = σ.2.1 (ix c) (ix 0) := g (by decide)
  have e2 : (setPlace σ c p).2.1 (ix c) (ix 2) = σ.2.1 (ix c) (ix 2) := g (by decide)
  refine ⟨h_c, by rw [e2]; exact h_f, ?_, by rw [e0]; exact h_d, ?_, ?_, ?_⟩
  · rw [e2, show (setPlace σ c p).2.1 (ix (σ.2.1 (ix c) (ix 2))) (ix 0) = σ.2.1 (ix (σ.2.1 (ix c) (ix 2))) (ix 0) from g (by decide)]
    exact Sup_same s0 hs6
  · rw [e0]
    intro e
    show ((setPlace σ c p).1 10 _).toInt < 6
    rw [r (by decide)]
    exact hdd e
  · intro m m0 m1
    have ed : (setPlace σ c p).1 10 = σ.1 10 := r (by decide)
    have m1' : m.toInt + 1 ≤ (σ.1 10 (ix c)).toInt := by
      have : m.toInt + 1 ≤ ((setPlace σ c p).1 10 (ix c)).toInt := m1
      rw [ed] at this
      exact this
    have et : topBut (setPlace σ c p) c m = topBut σ c m := by
      unfold topBut
      rw [ed]
      obtain ⟨j, hj, ej⟩ := d_of (d := σ.1 10 (ix c)) (hg.dep h_c).1 (n := 6) (hg.dep h_c).2 (by decide)
      obtain ⟨i, hi, ei⟩ := d_of (d := m) m0 (n := 6) (by have := (hg.dep h_c).2; omega) (by decide)
      rw [ej, ei] at m1'
      rw [nI_toInt (by omega), nI_toInt (by omega)] at m1'
      apply g
      rw [ej, ei, show (9 : Int32) = nI 9 from rfl, show (1 : Int32) = nI 1 from rfl, nI_add, pk_sub (by omega), pk_sub (by omega), ix_nI (by omega)]
      omega
    have ec : classOfWord (setPlace σ c p) (topBut σ c m) = classOfWord σ (topBut σ c m) := by
      unfold classOfWord
      rw [r (by decide)]
    rw [et, ec]
    exact Sup_same s0 (hS m m0 m1')
  · have ep : placeOf (setPlace σ c p) c = p := by
      unfold placeOf
      rw [show (setPlace σ c p).2.1 (ix c) (ix 4) = 1000 + p from setField_eq2 σ c 4 _]
      exact place_back
    rw [ep]
    exact ⟨p0, p1⟩
theorem suits_place (σ : SS) (c p q a : Int32) : stackSuits (setPlace σ c p) c q a = stackSuits σ c q a := by
  unfold stackSuits
  rw [show (setPlace σ c p).1 10 = σ.1 10 from setField_ne σ _ _ _ (by decide)]
