/-! a byte that sends -/
section SN2
variable {σ τ μ : SS}
def INS (T : SS) (o c : Int32) : Prop := IN T ∧ Ctx T o ∧ Ctx T c ∧ AX T ∧ Off T (ix o) ∧ T.1 13 6 = c
theorem Ctx_row {c : Int32} (h : Ctx σ c) (e : ∀ a, a ≠ 11 → τ.1 a = σ.1 a) : Ctx τ c := ⟨h.1, by rw [e 4 (by decide)]; exact h.2.1, by rw [e 7 (by decide)]; exact h.2.2⟩
theorem sndL_spec {o c : Int32} (hne : ix c ≠ ix o) {m d : Nat} (hm : m ≤ 2) (hd : m + 1 ≤ d) : ∀ {n k : Nat} {T : SS}, k + n = m → INS T o c → dpt T c = d →
    INS (sndL n k T o c (nI m)) o c ∧ (∀ a, a ≠ 11 → (sndL n k T o c (nI m)).1 a = T.1 a) ∧ (∀ i, i ≠ ix o → (sndL n k T o c (nI m)).2.1 i = T.2.1 i) ∧
    (∀ j, (sndL n k T o c (nI m)).2.1 (ix o) j = if 5 + k ≤ j ∧ j < 5 + k + n then T.2.1 (ix c) (9 + (d - m + (j - 5))) else T.2.1 (ix o) j) ∧ (sndL n k T o c (nI m)).2.2 = T.2.2 := by
  intro n
  induction n with
  | zero => intro k T _ h _; exact ⟨h, fun _ _ => rfl, fun _ _ => rfl, fun j => by rw [if_neg (by omega)]; rfl, rfl⟩
  | succ n ih =>
    intro k T hk h hdp
    obtain ⟨hI, hO, hC, hX, hF, h13⟩ := h
    have hp := dpt_nI hI.rg hC.1
    have ew : topBut T c (nI m - 1 - nI k) = T.2.1 (ix c) (9 + (d - m + k)) := by
      rw [show (1 : Int32) = nI 1 from rfl, pk_sub (by omega), pk_sub (by omega), topBut_nI hI.rg hC.1 (by omega), hdp, show d - 1 - (m - 1 - k) = d - m + k by omega]
    have hw : 0 ≤ (T.2.1 (ix c) (9 + (d - m + k))).toInt ∧ Wd T (T.2.1 (ix c) (9 + (d - m + k))) := ⟨hI.rg.1 _ _ (vp_ix hC.1) (by omega), hI.cl.2.1 _ _ (vp_ix hC.1) (by omega)⟩
    unfold sndL
    rw [ew, tmp_idx]
    obtain ⟨w, hwe⟩ : ∃ w, w = T.2.1 (ix c) (9 + (d - m + k)) := ⟨_, rfl⟩
    rw [← hwe] at hw ⊢
    have sn : ∀ a, a ≠ 11 → (setField T o (nI (5 + k)) w).1 a = T.1 a := fun a ha => setField_ne _ _ _ _ ha
    have hA := AX_at (o := o) (k := nI (5 + k)) (w := w) hX hF
    have hN : INS (setField T o (nI (5 + k)) w) o c := ⟨IN_tmp hI hO (by omega) (by omega) hw.1 hw.2 (fun q => by omega), Ctx_row hO sn, Ctx_row hC sn, hA.1, hA.2, by rw [sn 13 (by decide)]; exact h13⟩
    obtain ⟨b1, b2, b3, b4, b5⟩ := ih (k := k + 1) (by omega) hN (by unfold dpt; rw [sn 10 (by decide)]; exact hdp)
    refine ⟨b1, fun a ha => (b2 a ha).trans (sn a ha), fun i hi => (b3 i hi).trans (sF_oth _ _ _ _ hi), fun j => ?_, b5.trans (sF_L _ _ _ _)⟩
    rw [b4, sF_oth _ _ _ _ hne, sF_row, ix_nI (by omega)]
    by_cases e : j = 5 + k
    · rw [if_neg (by omega), if_pos (by omega), e, pk_us, hwe, show 5 + k - 5 = k by omega]
    · rw [pk_un e]
      by_cases r : 5 + (k + 1) ≤ j ∧ j < 5 + (k + 1) + n
      · rw [if_pos r, if_pos (by omega)]
      · rw [if_neg r, if_neg (by omega)]
theorem RGm_sdL {o : Int32} (ho : vp_in o 28) {i d m : Nat} (hi : i < 28) (hd : d ≤ 6) (hm : m ≤ d) : ∀ {n k : Nat} {μ : SS}, k + n = m → RGm μ → μ.1 11 i = nI d → RGm (sdL n k μ o (nI i) (nI m)) ∧ (sdL n k μ o (nI i) (nI m)).1 11 i = nI d := by
  intro n
  induction n with
  | zero => intro k μ _ h e; exact ⟨h, e⟩
  | succ n ih =>
    intro k μ hk h e
    unfold sdL
    rw [ix_nI (show i < 2 ^ 31 by omega), e, sdi (by omega) hi hd (by omega)]
    exact ih (by omega) (RGm_5 (RGm_5 h _ (h.1 _ (by omega))) _ (by decide)) (by rw [sA_ne _ (by decide), sA_ne _ (by decide)]; exact e)
theorem pb_56 {c p : Int32} {a : Nat} (h : ACT σ μ c) (hp : p = 5 ∨ p = 6) (ha : a < 16) (hd : a % 3 + 1 ≤ dpt σ c) : PB (sendOn σ c p (nI a)) (fa5M μ p (nI a)) (sendsM μ p (nI a)) σ := by
  have hc := h.ctx
  have hdp := dpt_nI h.inn.rg hc.1
  have em : argumentsOf (nI a) = nI (a % 3) := by unfold argumentsOf; rw [show (3 : Int32) = nI 3 from rfl, pk_rem (by omega) (by omega) (by omega)]
  obtain ⟨m, hm⟩ : ∃ m, m = a % 3 := ⟨_, rfl⟩
  have hm2 : m ≤ 2 := by omega
  rw [← hm] at em hd
  unfold sendOn fa5M
  rcases sel (nI a) with ⟨p1, q1⟩ | ⟨p1, q1, r1⟩
  · have e7 : ¬ nI a ≤ 7 := fun q => by
      have := (nI_leI (b := 7) (by omega) (by omega)).mp q
      unfold isSelector at p1
      rw [if_neg (nI_pos (by omega)), if_neg (fun z => by have := (nI_leI (a := 8) (by omega) (by omega)).mp z; omega)] at p1
      exact absurd p1 (by decide)
    rw [if_pos p1, if_neg e7]; exact PB.no (by decide)
  · have e7 : nI a ≤ 7 := by
      have := vp_lt r1
      rw [nI_toInt (by omega)] at this
      exact (nI_leI (b := 7) (by omega) (by omega)).mpr (by omega)
    rw [if_neg p1, if_pos e7]
    have tm := h.top (m := m) hd
    have hk := h.inn.kx _ (vp_ix hc.1) hc.2.1 hc.2.2
    have hat2 : atM μ 2 = σ.2.1 (ix c) 2 := h.rr.at hc h.ac (k := 2) (by omega)
    have hfr : beginM μ p (nI a) = sndF σ c p (nI m) ∧ CN σ (sndF σ c p (nI m)) := by
      unfold beginM sndF superM
      rw [em]
      by_cases e5 : p = 5
      · rw [if_pos e5, if_pos e5, tm.1, classOfWord_eq h.rr tm.2.1 tm.2.2]
        exact ⟨rfl, Or.inr (classOfWord_CW h.inn tm.2.1 tm.2.2)⟩
      · rw [if_neg e5, if_neg e5, hat2, sup_eq h.rr h.inn hk.2.2.1, show ix (2 : Int32) = 2 by decide, i0]
        exact ⟨rfl, CN.step h.inn (Or.inr hk.2.2.1)⟩
    have hf := found_eq h.rr h.inn r1 hfr.2
    rw [em]
    unfold snd1
    obtain ⟨f, hfe⟩ : ∃ f, f = find σ (sndF σ c p (nI m)) (nI a) := ⟨_, rfl⟩
    have hfm : foundM μ (beginM μ p (nI a)) (nI a) = f := by rw [hfr.1, hf.1, hfe]
    rw [hfm, ← hfe]
    rw [← hfe] at hf
    by_cases f0 : f = 0
    · rw [if_pos f0, if_pos f0]; exact PB.no (by decide)
    · rw [if_neg f0, if_neg f0]
      have hfw := hf.2.resolve_left f0
      rcases lf_cases h.rr h.inn with ⟨d1, d2⟩ | ⟨d1, d2, d3, d4⟩
      · rw [if_pos d1, if_neg d2]
        unfold newContext
        rw [if_pos d1]; exact PB.no (by decide)
      · rw [if_neg d1, if_pos d2]
        unfold newContext sendsM
        rw [if_neg d1, em, ix_nI (show m < 2 ^ 31 by omega), hfm, room_eq h.rr h.inn, h.ac, tm.1]
        obtain ⟨o, hoe⟩ : ∃ o, o = leastFree σ := ⟨_, rfl⟩
        obtain ⟨r, hre⟩ : ∃ r, r = topBut σ c (nI m) := ⟨_, rfl⟩
        have d0 := lf_4 h.inn d4
        rw [← hoe] at d3 d4 d0 ⊢
        rw [← hre] at tm ⊢
        have hne : ix c ≠ ix o := fun q => hc.2.1 (by rw [q]; exact d4)
        unfold contextM snd2 sndE
        rw [sdL_act, sd2_act, ctx1_s d3, ix_nI (show m < 2 ^ 31 by omega)]
        -- the new context
        have hI := IN_cx h.inn d3 d4 tm.2.1 tm.2.2 hfw r1
        have hA := AX_cx (r := r) (f := f) (t := nI a) h.inn h.ax d4
        have cn : ∀ {x}, x ≠ 4 ∧ x ≠ 7 ∧ x ≠ 8 ∧ x ≠ 11 → (ctx σ o r f (nI a)).1 x = σ.1 x := fun hx => ctx_ne _ _ _ _ _ hx
        have cC : Ctx (ctx σ o r f (nI a)) c := ⟨hc.1, by rw [cx_w _ _ _ _ _ (by decide), wake_4, pk_un hne]; exact hc.2.1, by rw [cx_w _ _ _ _ _ (by decide), wake_7, pk_un hne]; exact hc.2.2⟩
        have cd : dpt (ctx σ o r f (nI a)) c = dpt σ c := by unfold dpt; rw [cn (by decide)]
        have hN0 : INS (ctx σ o r f (nI a)) o c := ⟨hI.1, hI.2.1, cC, hA.1, hA.2, by rw [cn (by decide)]; exact h.2.1⟩
        obtain ⟨d, hde⟩ : ∃ d, d = dpt σ c := ⟨_, rfl⟩
        rw [← hde] at hd hdp cd
        obtain ⟨b1, b2, b3, b4, b5⟩ := sndL_spec hne hm2 hd (n := m) (k := 0) (by omega) hN0 cd
        have hRT : Rr (setField (ctx σ o r f (nI a)) o 0 c) (sA (ctx1M μ o 0 r f (nI a)) 5 (15 * ix o + 0) c) := by
          have := Rr_field (Rr_cx (r := r) (f := f) (t := nI a) h.rr h.inn d3 d4) (o := o) (k := 0) c (vpc (by decide))
          rw [i0] at this
          exact this
        obtain ⟨T1, hT1⟩ : ∃ T1, T1 = sndL m 0 (ctx σ o r f (nI a)) o c (nI m) := ⟨_, rfl⟩
        rw [← hT1] at b1 b2 b3 b4 b5 ⊢
        obtain ⟨e1, e2, e3, e4, e5, e6⟩ := b1
        have s1 : ∀ x, x ≠ 11 → (setField T1 o 0 c).1 x = T1.1 x := fun x hx => setField_ne _ _ _ _ hx
        have hI2 : IN (setField T1 o 0 c) := IN_snd0 e1 e2 (Or.inr e3)
        have hA2 := AX_at (o := o) (k := 0) (w := c) e4 e5
        have cC2 : Ctx (setField T1 o 0 c) c := Ctx_row e3 s1
        have cO2 : Ctx (setField T1 o 0 c) o := Ctx_row e2 s1
        have dT2 : dpt (setField T1 o 0 c) c = d := by unfold dpt at cd ⊢; rw [s1 10 (by decide), b2 10 (by decide)]; exact cd
        have eD : (setField T1 o 0 c).1 10 (ix c) - nI m - 1 = nI (d - m - 1) := by
          rw [(dpt_nI hI2.rg hc.1).1, dT2, show (1 : Int32) = nI 1 from rfl, pk_sub (by omega), pk_sub (by omega)]
        rw [eD]
        have h13 : (setField T1 o 0 c).1 13 6 = c := by rw [s1 13 (by decide)]; exact e6
        obtain ⟨T2, hT2⟩ : ∃ T2, T2 = setField T1 o 0 c := ⟨_, rfl⟩
        have g2o : T2.2.1 (ix o) = upd (T1.2.1 (ix o)) 0 c := by rw [hT2, sF_row, i0]
        have g2n : ∀ i, i ≠ ix o → T2.2.1 i = T1.2.1 i := fun i hi => by rw [hT2, sF_oth _ _ _ _ hi]
        have g2l : T2.2.2 = T1.2.2 := by rw [hT2, sF_L]
        rw [← hT2] at s1 hI2 hA2 cC2 cO2 dT2 h13 ⊢
        have hD : d - m - 1 ≤ dpt T2 c := by omega
        have hI3 := IN_pdt hI2 cC2 hD
        have p3 : ∀ x, x ≠ 10 → x ≠ 11 → (popDownTo T2 c (nI (d - m - 1))).1 x = T2.1 x := fun x hx hy => pdt_ne _ _ _ hx hy
        have g00 : ∀ i, (popDownTo T2 c (nI (d - m - 1))).2.1 i 0 = T2.2.1 i 0 := fun i => by
          by_cases e : i = ix c
          · rw [e, pdt_row hI2.rg hc.1 hD, if_neg (by omega)]
          · rw [pdt_oth _ _ _ e]
        have hA3 : AX (popDownTo T2 c (nI (d - m - 1))) := AX_ctx hA2.1 (by rw [h13]; exact h.2.2) p3 (by rw [h13]; exact fun i hi => by rw [pdt_10, pk_un hi]) g00 (fun n => hA2.1.chain hI2 n)
        have hs3 : ∀ n x, supN (popDownTo T2 c (nI (d - m - 1))) n x = supN T2 n x := fun n x => (supN_eq (σ := T2) (P := fun _ => True) (fun a _ => ⟨g00 _, trivial⟩) n x trivial).1
        obtain ⟨T3, hT3⟩ : ∃ T3, T3 = popDownTo T2 c (nI (d - m - 1)) := ⟨_, rfl⟩
        have r10 : T3.1 10 = upd (T2.1 10) (ix c) (nI (d - m - 1)) := by rw [hT3, pdt_10]
        have g3c : ∀ j, T3.2.1 (ix c) j = if 9 + (d - m - 1) ≤ j ∧ j < 9 + d then 0 else T2.2.1 (ix c) j := fun j => by rw [hT3, pdt_row hI2.rg hc.1 hD, dT2]
        have g3n : ∀ i, i ≠ ix c → T3.2.1 i = T2.2.1 i := fun i hi => by rw [hT3, pdt_oth _ _ _ hi]
        have g3l : T3.2.2 = T2.2.2 := by rw [hT3, pdt_L]
        rw [← hT3] at hI3 p3 g00 hA3 hs3 ⊢
        have h313 : T3.1 13 6 = c := by rw [p3 13 (by decide) (by decide)]; exact h13
        have cO3 : Ctx T3 o := ⟨d3, by rw [p3 4 (by decide) (by decide)]; exact cO2.2.1, by rw [p3 7 (by decide) (by decide)]; exact cO2.2.2⟩
        have so : T3.2.1 (ix o) 0 = c := by rw [g00, g2o, pk_us]
        have ch : ∀ n, supN T3 (n + 1) o = supN T3 n c := fun n => by rw [supN_s, so]
        have hoff : ∀ n, ix (supN T3 n c) ≠ ix o := fun n => by
          have := hA2.2 n
          rw [h13, ← hs3] at this
          exact this
        have hA4 : AX (setRegister T3 6 o) := by
          refine AX_new hI3 cO3 (fun n q => hoff n ?_) (fun i j hij hz => ?_) (fun j hz => ?_)
          · rw [ch] at q; rw [q]
          · rw [ch] at hz ⊢
            rw [ch]
            have := hA3.2.1 i j hij
            rw [h313] at this
            exact this hz
          · rw [ch] at hz ⊢
            cases j with
            | zero =>
              show (T3.1 10 (ix c)).toInt ≤ 5
              rw [r10, pk_us, nI_toInt (by omega)]
              omega
            | succ j =>
              have := hA3.2.2 (j + 1) (by omega)
              rw [h313] at this
              exact this hz
        have hI4 := IN_reg (r := 6) hI3 (vpc (by decide)) (vp_nn d3) (Or.inr cO3.2.1)
        have c15 : ∀ x, x ≠ 11 → (setField (ctx σ o r f (nI a)) o 0 c).1 x = (ctx σ o r f (nI a)).1 x := fun x hx => setField_ne _ _ _ _ hx
        have hgT : RG (setField (ctx σ o r f (nI a)) o 0 c) := RG_setField hI.1.rg _ _ (vp_nn hc.1)
        have dTT : dpt (setField (ctx σ o r f (nI a)) o 0 c) c = d := by unfold dpt at cd ⊢; rw [c15 10 (by decide)]; exact cd
        have hR3 : Rr T3 (sd2M (sdL m 0 (sA (ctx1M μ o 0 r f (nI a)) 5 (15 * ix o + 0) c) o c (nI m)) c (nI m)) := by
          refine Rr_sends hRT hgT (Ctx_row cC c15) d3 hne hm2 (by rw [dTT]; exact hd) (fun x hx hy => ?_) ?_ (fun j => ?_) (fun j => ?_) (fun i hi hj => ?_) ?_
          · rw [p3 x hx hy, s1 x hy, b2 x hy, c15 x hy]
          · rw [r10, s1 10 (by decide), b2 10 (by decide), c15 10 (by decide), dTT]
          · rw [g3c, dTT, g2n _ hne, b3 _ hne, sF_oth _ _ _ _ hne]
          · rw [g3n _ (Ne.symm hne), g2o, dTT, sF_row, sF_oth _ _ _ _ hne, i0]
            by_cases e : j = 0
            · rw [e, pk_us, if_neg (by omega), pk_us]
            · rw [pk_un e, pk_un e, b4, Nat.add_zero]
          · rw [g3n i hi, g2n i hj, b3 i hj, sF_oth _ _ _ _ hj]
          · rw [g3l, g2l, b5, sF_L]
        refine PB.ok ⟨hI4, hA4, ?_, Rr_act hR3 o, RGm_20 ?_ d3⟩
        · rw [setRegister_ne _ _ _ (by decide) (by decide), p3 21 (by decide) (by decide), s1 21 (by decide), b2 21 (by decide), cn (by decide)]; exact h.1.2.2.1
        · obtain ⟨i, hi, hie⟩ := vp_in_of hc.1 (by decide)
          have t11 : (sA (ctx1M μ o 0 r f (nI a)) 5 (15 * ix o + 0) c).1 11 i = nI d := by
            have := (hRT.ctx (Ctx_row cC c15)).2.2.2.2.2 (Ctx_row cC c15).2.2
            have hq := (dpt_nI hgT hc.1).1
            rw [dTT] at hq
            rw [hq, hie, ix_nI (show i < 2 ^ 31 by omega)] at this
            rw [hie]
            exact this
          have hg1 : RGm (sA (ctx1M μ o 0 r f (nI a)) 5 (15 * ix o + 0) c) := RGm_5 (RGm_cx h.rgm d3 (by decide) tm.2.1 (vp_nn hfw.1) r1) _ (vp_nn hc.1)
          have hg2 := RGm_sdL d3 hi hdp.2 (show m ≤ d by omega) (n := m) (k := 0) (by omega) hg1 t11
          rw [hie] at hg2 ⊢
          unfold sd2M sd1M
          refine RGm_5 (RGm_11 hg2.1 _ ?_) _ (by decide)
          rw [ix_nI (show i < 2 ^ 31 by omega), hg2.2, nI_1, pk_sub (by omega), nI_toInt (by omega)]
          omega
end SN2
