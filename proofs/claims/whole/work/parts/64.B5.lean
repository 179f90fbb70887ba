/-! popping several, calculating, answering, making -/
section BYT
variable {σ τ μ : SS}
theorem popL_oth {n : Nat} : ∀ {k : Nat} {σ : SS} {c : Int32} {i : Nat}, i ≠ ix c → (popL n k σ c).2.1 i = σ.2.1 i := by
  induction n with
  | zero => intro k σ c i _; rfl
  | succ n ih => intro k σ c i h; unfold popL; rw [ih h, sF_oth _ _ _ _ h]
theorem popL_L {n : Nat} : ∀ {k : Nat} {σ : SS} {c : Int32}, (popL n k σ c).2.2 = σ.2.2 := by
  induction n with
  | zero => intro k σ c; rfl
  | succ n ih => intro k σ c; unfold popL; rw [ih, sF_L]
theorem popL_row {n : Nat} : ∀ {k : Nat} {σ : SS} {c : Int32} {j : Nat}, k + n ≤ 6 → (popL n k σ c).2.1 (ix c) j = if 9 + k ≤ j ∧ j < 9 + k + n then 0 else σ.2.1 (ix c) j := by
  induction n with
  | zero => intro k σ c j _; rw [if_neg (by omega)]; rfl
  | succ n ih =>
    intro k σ c j hk
    unfold popL
    rw [ih (by omega), sF_row, n9, ix_nI (by omega)]
    by_cases e : j = 9 + k
    · rw [if_neg (by omega), if_pos (by omega), e, pk_us]
    · rw [pk_un e]
      by_cases r : 9 + (k + 1) ≤ j ∧ j < 9 + (k + 1) + n
      · rw [if_pos r, if_pos (by omega)]
      · rw [if_neg r, if_neg (by omega)]
theorem R15_popL {c : Int32} (hc : vp_in c 28) {n : Nat} : ∀ {k : Nat} {σ : SS}, k + n ≤ 6 → R15 σ c → R15 (popL n k σ c) c := by
  induction n with
  | zero => intro k σ _ h; exact h
  | succ n ih => intro k σ hk h; unfold popL; exact ih (by omega) (h.step hc (by rw [n9]; exact vp_k (by omega) (by decide)) (by decide))
theorem pdt_ne (σ : SS) (c d : Int32) {a : Nat} (h : a ≠ 10) (h2 : a ≠ 11) : (popDownTo σ c d).1 a = σ.1 a := by unfold popDownTo; rw [sA_ne _ h, popL_ne h2]
theorem pdt_10 (σ : SS) (c d : Int32) : (popDownTo σ c d).1 10 = upd (σ.1 10) (ix c) d := by unfold popDownTo; rw [sA_eq, popL_ne (by decide)]
theorem pdt_oth (σ : SS) (c d : Int32) {i : Nat} (h : i ≠ ix c) : (popDownTo σ c d).2.1 i = σ.2.1 i := by unfold popDownTo; rw [sA_2, popL_oth h]
theorem pdt_L (σ : SS) (c d : Int32) : (popDownTo σ c d).2.2 = σ.2.2 := by unfold popDownTo; rw [sA_2, popL_L]
theorem pdt_row {c : Int32} (hg : RG σ) (hc : vp_in c 28) {D : Nat} (hD : D ≤ dpt σ c) (j : Nat) : (popDownTo σ c (nI D)).2.1 (ix c) j = if 9 + D ≤ j ∧ j < 9 + dpt σ c then 0 else σ.2.1 (ix c) j := by
  have hp := dpt_nI hg hc
  unfold popDownTo
  rw [sA_2, ix_nI (by omega), popL_row (show D + (ix (σ.1 10 (ix c)) - D) ≤ 6 from by show D + (dpt σ c - D) ≤ 6; omega)]
  have e : 9 + D + (ix (σ.1 10 (ix c)) - D) = 9 + dpt σ c := by show 9 + D + (dpt σ c - D) = _; omega
  rw [e]
theorem IN_pdt {c : Int32} (h : IN σ) (hc : Ctx σ c) {D : Nat} (hD : D ≤ dpt σ c) : IN (popDownTo σ c (nI D)) := by
  have hp := dpt_nI h.rg hc.1
  have hk := h.kx _ (vp_ix hc.1) hc.2.1 hc.2.2
  have h15 : R15 (popL (ix (σ.1 10 (ix c)) - ix (nI D)) (ix (nI D)) σ c) c := R15_popL hc.1 (by rw [ix_nI (by omega)]; show D + (dpt σ c - D) ≤ 6; omega) ⟨h.rg, h.hc, hc.2.1, hk.1⟩
  refine IN_ctx h (vp_ix hc.1) hc.2.1 hc.2.2 (fun a h1 h2 => pdt_ne σ c _ h1 h2) (fun i hi => by rw [pdt_10, pk_un hi]) (fun i hi => pdt_oth σ c _ hi) (fun k hk4 => ?_) (RG_10 h15.1 _ (by rw [nI_toInt (by omega)]; omega)) (HC_A h15.2.1 (by decide) _ _) (fun k h4 hk15 => ?_) ?_ (fun j hj hu => ?_)
  · rw [pdt_row h.rg hc.1 hD, if_neg (by omega)]
  · rw [pdt_row h.rg hc.1 hD]
    split
    · exact Wd_0 h
    · exact h.cl.2.1 _ k (vp_ix hc.1) hk15
  · rw [pdt_row h.rg hc.1 hD, if_neg (by omega)]; exact hk.2.2.2.2.1
  · rw [pdt_10, pk_us, ix_nI (by omega)] at hu
    rw [pdt_row h.rg hc.1 hD]
    split
    · rfl
    · exact hk.2.2.2.2.2 j hj (show dpt σ c ≤ j by omega)
theorem AX_pdt {c : Int32} (h : ACT σ μ c) {D : Nat} (hD : D ≤ dpt σ c) : AX (popDownTo σ c (nI D)) := by
  refine AX_act h (fun a h1 h2 => pdt_ne σ c _ h1 h2) (fun i hi => by rw [pdt_10, pk_un hi]) (fun i => ?_)
  by_cases e : i = ix c
  · rw [e, pdt_row h.inn.rg h.ctx.1 hD, if_neg (by omega)]
  · rw [pdt_oth _ _ _ e]
/-- popping two -/
theorem pdt_2 {c : Int32} (h : ACT σ μ c) (hd : 2 ≤ dpt σ c) : ACT (popDownTo σ c (nI (dpt σ c - 2))) (popM (popM μ)) c := by
  have hc := h.ctx
  have hp := dpt_nI h.inn.rg hc.1
  have h1 := ACT_pop h (by omega)
  have d1 := pop_dpt h.inn.rg hc.1 (show 1 ≤ dpt σ c by omega)
  have h2 := ACT_pop h1 (by omega)
  refine ⟨⟨IN_pdt h.inn hc (by omega), AX_pdt h (by omega), ?_, Rr_equiv h2.rr (fun a ha => ?_) ?_, h2.rgm⟩, ?_, h.2.2⟩
  · rw [pdt_ne _ _ _ (by decide) (by decide)]; exact h.1.2.2.1
  · by_cases e : a = 10
    · subst e
      rw [pdt_10, popT_10, popT_10, pk_us, upd_upd, hp.1]
      rw [show (1 : Int32) = nI 1 from rfl, pk_sub (show 1 ≤ dpt σ c by omega), pk_sub (show 1 ≤ dpt σ c - 1 by omega), show dpt σ c - 1 - 1 = dpt σ c - 2 by omega]
    · rw [pdt_ne _ _ _ e ha, pop_ne _ _ e ha, pop_ne _ _ e ha]
  · refine Prod.ext (funext (fun i => ?_)) ?_
    · by_cases e : i = ix c
      · subst e
        funext j
        rw [pdt_row h.inn.rg hc.1 (by omega), pop_row h1.inn.rg hc.1 (by omega), pop_row h.inn.rg hc.1 (by omega), d1]
        by_cases e1 : j = 9 + (dpt σ c - 1 - 1)
        · rw [if_pos (by omega), e1, pk_us]
        · rw [pk_un e1]
          by_cases e2 : j = 9 + (dpt σ c - 1)
          · rw [if_pos (by omega), e2, pk_us]
          · rw [pk_un e2, if_neg (by omega)]
      · rw [pdt_oth _ _ _ e, pop_oth _ _ e, pop_oth _ _ e]
    · rw [pdt_L, pop_L, pop_L]
  · rw [pdt_ne _ _ _ (by decide) (by decide)]; exact h.2.1
theorem number_cases (v : Int32) : (numberWord v = -1 ∧ wf2M v = 5) ∨ (numberWord v = 1000 + v ∧ ¬ numberWord v = -1 ∧ wf2M v = 0 ∧ 488 ≤ (1000 + v).toInt) := by
  unfold numberWord wf2M
  by_cases h1 : v < -512
  · rw [if_pos h1, if_pos h1]; exact Or.inl ⟨rfl, rfl⟩
  · rw [if_neg h1, if_neg h1]
    by_cases h2 : v ≤ 511
    · rw [if_pos h2, if_pos h2]
      have g1 := h1
      have g2 := h2
      rw [Int32.lt_iff_toInt_lt, show (-512 : Int32).toInt = -512 from rfl] at g1
      rw [Int32.le_iff_toInt_le, show (511 : Int32).toInt = 511 from rfl] at g2
      have h3 : (1000 + v).toInt = 1000 + v.toInt := by
        rw [Int32.toInt_add, show (1000 : Int32).toInt = 1000 from rfl, Int.bmod_eq_of_le] <;> omega
      refine Or.inr ⟨rfl, fun q => ?_, rfl, by omega⟩
      rw [q, show (-1 : Int32).toInt = -1 from rfl] at h3
      omega
    · rw [if_neg h2, if_neg h2]; exact Or.inl ⟨rfl, rfl⟩
theorem truth_w (h : IN σ) (b : Int32) : 0 ≤ (truth b).toInt ∧ Wd σ (truth b) ∧ ¬ truth b = -1 := by
  unfold truth
  by_cases e : b = 0
  · rw [if_pos e]; exact ⟨by decide, Wd_0 h, by decide⟩
  · rw [if_neg e]; exact ⟨by decide, Or.inl (by decide), by decide⟩
theorem pb_7 {c : Int32} {a : Nat} (h : ACT σ μ c) (ha : a < 16) (hd : 2 ≤ dpt σ c) : PB (calculate σ c (nI a)) (workFailsM μ (nI a)) (workM μ (nI a)) σ := by
  have hp := dpt_nI h.inn.rg h.ctx.1
  have t0 := h.top (m := 0) (by omega)
  have t1 := h.top (m := 1) (by omega)
  have e2 : σ.1 10 (ix c) - 2 = nI (dpt σ c - 2) := by rw [hp.1, show (2 : Int32) = nI 2 from rfl, pk_sub hd]
  have hP := pdt_2 h hd
  have dP : dpt (popDownTo σ c (nI (dpt σ c - 2))) c = dpt σ c - 2 := by unfold dpt; rw [pdt_10, pk_us, ix_nI (by have := hp.2; unfold dpt at this; omega)]
  have fin : ∀ w, 0 ≤ w.toInt → Wd σ w → PRE (calcT σ c w) (pushM (popM (popM μ)) w) := fun w h0 hw => by
    unfold calcT
    rw [e2]
    exact (ACT_push hP (by omega) h0 (Wd_rows (pdt_ne _ _ _ (by decide) (by decide)) hw)).1
  unfold calculate workFailsM workM
  rw [show fromTopM μ 0 = topBut σ c 0 from t0.1, show fromTopM μ 1 = topBut σ c 1 from t1.1]
  have t0w : 0 ≤ (topBut σ c 0).toInt ∧ Wd σ (topBut σ c 0) := t0.2
  have t1w : 0 ≤ (topBut σ c 1).toInt ∧ Wd σ (topBut σ c 1) := t1.2
  by_cases e4 : nI a ≤ 4
  · rw [if_pos e4, if_neg (Int32.not_lt.mpr e4)]
    have a4 : a ≤ 4 := (nI_leI (b := 4) (by omega) (by omega)).mp e4
    by_cases q4 : nI a = 4
    · rw [if_pos q4, if_pos q4]
      have hr : resultOf (nI a) (topBut σ c 1) (topBut σ c 0) = truth (if topBut σ c 1 = topBut σ c 0 then 1 else 0) := by
        unfold resultOf; rw [q4, if_neg (by decide), if_neg (by decide), if_neg (by decide), if_neg (by decide)]
      have hw : wk2M (nI a) (topBut σ c 1) (topBut σ c 0) = truth (if topBut σ c 1 = topBut σ c 0 then 1 else 0) := by
        unfold wk2M wk1M truth; rw [q4, if_pos (by decide), if_neg (show ¬ (4 : Int32) = 3 by decide)]
      have ht := truth_w h.inn (if topBut σ c 1 = topBut σ c 0 then 1 else 0)
      rw [hr, hw, if_neg ht.2.2]; exact PB.ok (fin _ ht.1 ht.2.1)
    · rw [if_neg q4, if_neg q4]
      have a3 : a ≤ 3 := by
        have : a ≠ 4 := fun q => q4 (by rw [q]; rfl)
        omega
      rcases obj (topBut σ c 1) t1w.1 with ⟨x1, x2, x3⟩ | ⟨x1, x2, x3⟩
      · rw [if_pos x1, if_neg x2]
        rcases obj (topBut σ c 0) t0w.1 with ⟨y1, y2, y3⟩ | ⟨y1, y2, y3⟩
        · rw [if_pos y1, if_neg y2]
          unfold wf1M
          rw [show fromTopM μ 0 = topBut σ c 0 from t0.1, show fromTopM μ 1 = topBut σ c 1 from t1.1]
          by_cases q3 : nI a = 3
          · have hr : resultOf (nI a) (topBut σ c 1) (topBut σ c 0) = truth (if topBut σ c 0 ≤ topBut σ c 1 then 0 else 1) := by
              unfold resultOf; rw [q3, if_neg (by decide), if_neg (by decide), if_neg (by decide), if_pos rfl]
            have hw : wk2M (nI a) (topBut σ c 1) (topBut σ c 0) = truth (if topBut σ c 0 ≤ topBut σ c 1 then 0 else 1) := by
              unfold wk2M wk1M truth; rw [q3, if_pos (by decide), if_pos rfl]
            have ht := truth_w h.inn (if topBut σ c 0 ≤ topBut σ c 1 then 0 else 1)
            rw [hr, hw, if_neg ht.2.2, if_pos q3, show wf2M 0 = 0 by decide]; exact PB.ok (fin _ ht.1 ht.2.1)
          · rw [if_neg q3]
            have a2 : a ≤ 2 := by
              have : a ≠ 3 := fun q => q3 (by rw [q]; rfl)
              omega
            have hw : wk2M (nI a) (topBut σ c 1) (topBut σ c 0) = 1000 + arithM (nI a) (topBut σ c 1 - 1000) (topBut σ c 0 - 1000) := by
              unfold wk2M
              rw [if_neg (fun q => by have := (nI_leI (a := 3) (b := a) (by omega) (by omega)).mp q; omega)]
            have hr : resultOf (nI a) (topBut σ c 1) (topBut σ c 0) = numberWord (arithM (nI a) (topBut σ c 1 - 1000) (topBut σ c 0 - 1000)) := by
              unfold resultOf arithM
              by_cases z0 : nI a = 0
              · rw [if_pos z0, if_pos z0]
              · rw [if_neg z0, if_neg z0]
                by_cases z1 : nI a = 1
                · rw [if_pos z1, if_pos z1]
                  congr 1
                  rw [Int32.sub_eq_add_neg, Int32.sub_eq_add_neg, Int32.sub_eq_add_neg, Int32.sub_eq_add_neg (topBut σ c 0), Int32.neg_add, Int32.sub_eq_add_neg, Int32.neg_neg, Int32.add_assoc, Int32.add_comm (-1000), Int32.add_assoc (-topBut σ c 0), Int32.add_comm 1000, Int32.add_left_neg, Int32.add_zero]
                · have z2 : nI a = 2 := by
                    have g0 : a ≠ 0 := fun q => z0 (by rw [q]; rfl)
                    have g1 : a ≠ 1 := fun q => z1 (by rw [q]; rfl)
                    rw [show a = 2 by omega]; rfl
                  rw [if_neg z1, if_neg z1, if_pos z2]
            rw [hr, hw]
            rcases number_cases (arithM (nI a) (topBut σ c 1 - 1000) (topBut σ c 0 - 1000)) with ⟨n1, n2⟩ | ⟨n1, n2, n3, n4⟩
            · rw [n2, if_pos n1]; exact PB.no (by decide)
            · rw [n3, if_neg n2, n1]; exact PB.ok (fin _ (by omega) (Or.inl (by omega)))
        · rw [if_neg y1, if_pos y2]; exact PB.no (by decide)
      · rw [if_neg x1, if_pos x2]
        split <;> exact PB.no (by decide)
  · rw [if_neg e4, if_pos (Int32.not_le.mp e4)]; exact PB.no (by decide)
/-- the answer of a context -/
theorem supN_push {c w : Int32} (hg : RG σ) (hc : vp_in c 28) (n : Nat) (a : Int32) : supN (push σ c w) n a = supN σ n a := (supN_eq (σ := σ) (τ := push σ c w) (P := fun _ => True) (fun a _ => ⟨by
  by_cases e : ix a = ix c
  · rw [e, push_row hg hc, pk_un (by omega)]
  · rw [push_oth _ _ _ e], trivial⟩) n a trivial).1
theorem pb_11 {c : Int32} {a : Nat} (h : ACT σ μ c) (ha : a < 16) (hd : a = 0 → 1 ≤ dpt σ c) : PB (giveAnswer σ c (nI a)) (if nI a ≤ 1 then 0 else 3) (returnsM μ (if nI a = 0 then fromTopM μ 0 else atM μ 1)) σ := by
  have hc := h.ctx
  have hr := h.recv
  unfold giveAnswer
  by_cases e : nI a ≤ 1
  · rw [if_pos e, if_pos e]
    have key : (if nI a = 0 then fromTopM μ 0 else atM μ 1) = answerW σ c (nI a) ∧ 0 ≤ (answerW σ c (nI a)).toInt ∧ Wd σ (answerW σ c (nI a)) := by
      unfold answerW
      by_cases e0 : nI a = 0
      · rw [if_pos e0, if_pos e0]
        exact h.top (m := 0) (hd ((nI_eq (b := 0) (by omega) (by omega)).mp e0))
      · rw [if_neg e0, if_neg e0]; exact hr
    rw [key.1]
    obtain ⟨w, hw⟩ : ∃ w, w = answerW σ c (nI a) := ⟨_, rfl⟩
    rw [← hw] at key ⊢
    have hk := h.inn.kx _ (vp_ix hc.1) hc.2.1 hc.2.2
    have e0 : atM μ 0 = σ.2.1 (ix c) 0 := h.rr.at hc h.ac (k := 0) (by omega)
    unfold answerS returnsM
    rw [i0, e0]
    rcases hk.2.1 with s0 | sc
    · rw [if_pos s0, if_pos s0, s0]
      have hI := IN_reg (r := 0) h.inn (vpc (by decide)) key.2.1 key.2.2
      have hI2 := IN_reg (r := 6) hI (vpc (by decide)) (w := 0) (by decide) (Wd_0 hI)
      rw [sA_comm μ (by decide)]
      refine PB.ok ⟨hI2, AX_nil hI2 (by rw [setRegister_13]; rfl), ?_, Rr_act (Rr_regh h.rr (r := 0) (vpc (by decide)) w) 0, RGm_20 (RGm_12 h.rgm _ key.2.1) (vpc (by decide))⟩
      rw [setRegister_ne _ _ _ (by decide) (by decide), setRegister_ne _ _ _ (by decide) (by decide)]; exact h.1.2.2.1
    · have s0 : ¬ σ.2.1 (ix c) 0 = 0 := fun q => by rw [q, i0] at sc; exact absurd (sc.2.2.symm.trans (h.inn.f4.1 0 (by omega)).2) (by decide)
      rw [if_neg s0, if_neg s0]
      obtain ⟨s, hs⟩ : ∃ s, s = σ.2.1 (ix c) 0 := ⟨_, rfl⟩
      rw [← hs] at sc s0 ⊢
      have cS : Ctx σ s := sc
      have ch : ∀ n, supN σ n s = supN σ (n + 1) (σ.1 13 6) := fun n => by rw [supN_s, h.2.1, hs]
      have d5 : (σ.1 10 (ix s)).toInt ≤ 5 := by
        have := h.ax.2.2 1 (by omega)
        rw [← ch 0] at this
        exact this s0
      have hps := dpt_nI h.inn.rg cS.1
      have d6 : dpt σ s < 6 := by
        rw [hps.1, nI_toInt (by omega)] at d5; omega
      have hIp := IN_push h.inn cS d6 key.2.1 key.2.2
      have sn : ∀ {a}, a ≠ 10 → a ≠ 11 → (push σ s w).1 a = σ.1 a := fun h1 h2 => push_ne _ _ _ h1 h2
      have cP : Ctx (push σ s w) s := ⟨cS.1, by rw [sn (by decide) (by decide)]; exact cS.2.1, by rw [sn (by decide) (by decide)]; exact cS.2.2⟩
      have hIr := IN_reg (r := 6) hIp (vpc (by decide)) (vp_nn cS.1) (Or.inr cP.2.1)
      have hne : ∀ n, supN σ (n + 1) s ≠ s := fun n => by
        have := h.ax.2.1 1 (n + 2) (by omega)
        rw [← ch 0, ← ch (n + 1)] at this
        exact fun q => this s0 q.symm
      have hA : AX (setRegister (push σ s w) 6 s) := by
        refine AX_new hIp cP (fun n => ?_) (fun i j hij hz => ?_) (fun j hz => ?_)
        · rw [supN_push h.inn.rg cS.1]; exact hne n
        · rw [supN_push h.inn.rg cS.1] at hz ⊢
          rw [supN_push h.inn.rg cS.1]
          rw [ch (i + 1)] at hz ⊢
          rw [ch (j + 1)]
          exact h.ax.2.1 (i + 1 + 1) (j + 1 + 1) (by omega) hz
        · rw [supN_push h.inn.rg cS.1] at hz ⊢
          have hxn : XN σ (supN σ (j + 1) s) := by rw [ch]; exact h.ax.chain h.inn _
          have hx2 := hxn.resolve_left hz
          have hn : ix (supN σ (j + 1) s) ≠ ix s := fun q => hne j (by rw [← ix_back (vp_nn hx2.1), q, ix_back (vp_nn cS.1)])
          rw [push_10, pk_un hn]
          rw [ch] at hz ⊢
          exact h.ax.2.2 _ (by omega) hz
      have hRa := Rr_act h.rr s
      have aa : ∀ {a}, a ≠ 11 → a ≠ 13 → (setRegister σ 6 s).1 a = σ.1 a := fun h1 h2 => setRegister_ne _ _ _ h1 h2
      have cA : Ctx (setRegister σ 6 s) s := ⟨cS.1, by rw [aa (by decide) (by decide)]; exact cS.2.1, by rw [aa (by decide) (by decide)]; exact cS.2.2⟩
      have acs : acM (sA μ 20 0 s) = s := by unfold acM; rw [sA_eq, pk_us]
      have hga : RG (setRegister σ 6 s) := RG_setRegister h.inn.rg _ (vp_nn cS.1)
      have dpa : dpt (setRegister σ 6 s) s = dpt σ s := by unfold dpt; rw [aa (by decide) (by decide)]
      have hRp := Rr_push hRa hga cA acs (by rw [dpa]; exact d6) w
      refine PB.ok ⟨hIr, hA, ?_, Rr_equiv hRp (fun a ha => ?_) ?_, ?_⟩
      · rw [setRegister_ne _ _ _ (by decide) (by decide), sn (by decide) (by decide)]; exact h.1.2.2.1
      · by_cases a13 : a = 13
        · subst a13; rw [setRegister_13, sn (by decide) (by decide), push_ne _ _ _ (by decide) (by decide), setRegister_13]
        · rw [setRegister_ne _ _ _ ha a13]
          by_cases a10 : a = 10
          · subst a10; rw [push_10, push_10, aa (by decide) (by decide)]
          · rw [sn a10 ha, push_ne _ _ _ a10 ha, aa ha a13]
      · rw [setRegister_G]
        refine Prod.ext (funext (fun i => ?_)) ?_
        · by_cases e : i = ix s
          · rw [e, push_row h.inn.rg cS.1, push_row hga cS.1, setRegister_G, dpa]
          · rw [push_oth _ _ _ e, push_oth _ _ _ e, setRegister_G]
        · rw [push_L, push_L, setRegister_G]
      · unfold pushM push1M
        refine RGm_11 (RGm_5 (RGm_20 h.rgm cS.1) _ key.2.1) _ ?_
        rw [hRa.tp cA acs, aa (by decide) (by decide), hps.1, nI_1, nI_toInt (by omega)]
        omega
  · rw [if_neg e, if_neg e]; exact PB.no (by decide)
end BYT
