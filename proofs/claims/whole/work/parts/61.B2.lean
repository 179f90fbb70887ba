/-! inherit, method, abort, the questions -/
section INH
variable {σ τ μ : SS}
theorem among_not (h : IN σ) {x : Int32} (hx0 : ¬ x = 0) : ∀ (n : Nat) {u : Int32}, supN σ n u = 0 → ¬ amongL n σ x u = x → ∀ m, supN σ m u ≠ x
  | 0, u, e, _ => fun m => by
    have e0 : u = 0 := e
    rw [e0, supN_0 (h.n0 (by omega))]; exact fun q => hx0 q.symm
  | n + 1, u, e, ha => fun m => by
    unfold amongL at ha
    by_cases q : u = 0
    · rw [q, supN_0 (h.n0 (by omega))]; exact fun q => hx0 q.symm
    · rw [if_neg q] at ha
      by_cases r : u = x
      · rw [if_pos r] at ha; exact absurd r ha
      · rw [if_neg r, i0] at ha
        cases m with
        | zero => exact r
        | succ m =>
          rw [supN_s] at e ⊢
          exact among_not h hx0 n e ha m
theorem IN_inh (h : IN σ) {c s : Int32} (hc : CW σ c) (h4 : ¬ c = 0) (hs : CN σ s) (hna : ¬ amongL 28 σ c s = c) : IN (setField σ c 0 s) := by
  have sn : ∀ {a}, a ≠ 11 → (setField σ c 0 s).1 a = σ.1 a := fun h1 => setField_ne _ _ _ _ h1
  have s4 := sn (show (4 : Nat) ≠ 11 by decide)
  have s6 := sn (show (6 : Nat) ≠ 11 by decide)
  have s7 := sn (show (7 : Nat) ≠ 11 by decide)
  have s8 := sn (show (8 : Nat) ≠ 11 by decide)
  have s10 := sn (show (10 : Nat) ≠ 11 by decide)
  have kc := h.kc _ (vp_ix hc.1) hc.2
  have hl := h.cl4 (vp_ix hc.1) hc.2
  have e1 : ix (1 : Int32) = 1 := by decide
  have hsw : Wd σ s := by
    rcases hs with rfl | q
    · exact Wd_0 h
    · exact Or.inr (h.cl4 (vp_ix q.1) q.2)
  have hns := among_not h h4 28 (by rw [show (28 : Nat) = 27 + 1 from rfl, supN_add, supN_27 h hs]; exact supN_0 (h.n0 (by omega)) 1) hna
  have ne : ∀ {a}, CN σ a → ¬ a = c → ix a ≠ ix c := fun {a} q e r => e (by rw [← ix_back (vp_nn q.vp), r, ix_back (vp_nn hc.1)])
  have hss : ∀ m, supN (setField σ c 0 s) m s = supN σ m s := fun m => by
    induction m with
    | zero => rfl
    | succ m ih => rw [supN_end, supN_end, ih, sF_oth _ _ _ _ (ne (supN_P (P := CN σ) (fun _ q => q.step h) m s hs) (hns m))]
  obtain ⟨ns, hns0⟩ := hs.ends h
  have hend : ∀ n a, CN σ a → supN σ n a = 0 → ∃ m, supN (setField σ c 0 s) m a = 0 := by
    intro n
    induction n with
    | zero => intro a _ e; exact ⟨0, e⟩
    | succ n ih =>
      intro a ha e
      by_cases q : a = c
      · subst q
        exact ⟨ns + 1, by rw [supN_s, sF_row, i0, pk_us, hss, hns0]⟩
      · rw [supN_s] at e
        obtain ⟨m, hm⟩ := ih _ (ha.step h) e
        exact ⟨m + 1, by rw [supN_s, sF_oth _ _ _ _ (ne ha q), hm]⟩
  refine ⟨RG_setField h.rg _ _ (vp_nn hs.vp), ?_, fun i j hi hj h8 => ?_, ?_, HC_setField h.rg h.hc hc.1 (vpc (by decide)) hl (by rw [kc.2.1]; decide) (vp_nn hs.vp), ?_, ⟨?_, fun i j hi hj => ?_, ?_⟩, fun i hi hci => ?_, fun i hi hli h3 => ?_, fun i hi hci => ?_⟩
  · unfold BZ; rw [sn (by decide)]; exact h.bz
  · rw [s8] at h8
    by_cases e : i = ix c
    · subst e; rw [kc.2.1, e1] at h8; rw [sF_row, i0, pk_un (by omega)]; exact h.za _ j hi hj (by rw [kc.2.1, e1]; exact h8)
    · rw [sF_oth _ _ _ _ e]; exact h.za i j hi hj h8
  · unfold Zd; rw [s4, s6, s8, s10, sn (show (5 : Nat) ≠ 11 by decide)]; exact h.zd
  · unfold F4; rw [s4, s6, s7, s8]; exact h.f4
  · unfold CW; rw [s4, s6, s7]; exact h.cl.1
  · unfold Wd; rw [s4]
    by_cases e : i = ix c
    · subst e; rw [sF_row, i0]
      by_cases e2 : j = 0
      · rw [e2, pk_us]; exact hsw
      · rw [pk_un e2]; exact h.cl.2.1 _ j hi hj
    · rw [sF_oth _ _ _ _ e]; exact h.cl.2.1 i j hi hj
  · unfold Wd; rw [s4, sn (show (13 : Nat) ≠ 11 by decide)]; exact h.cl.2.2
  · rw [s6] at hci
    unfold CW; rw [s6, s7, s8]
    by_cases e : i = ix c
    · subst e; rw [sF_row, i0, pk_us]; exact ⟨kc.1, kc.2.1, hs⟩
    · rw [sF_oth _ _ _ _ e]; exact h.kc i hi hci
  · rw [s4] at hli
    rw [s7] at h3
    have e : i ≠ ix c := fun e => absurd (kc.1.symm.trans (e ▸ h3)) (by decide)
    unfold KXo XN CW; rw [s4, s6, s7, s8, s10, sF_oth _ _ _ _ e]; exact h.kx i hi hli h3
  · rw [s6] at hci
    obtain ⟨n, hn⟩ := h.sc i hi hci
    exact hend n _ (Or.inr ⟨vp_k hi (by decide), by rw [ix_nI (by omega)]; exact hci⟩) hn
theorem s_inherit (h : BIG σ μ) (c s : Int32) : Same (inherit σ c s) (inheritM μ c s) := by
  unfold inherit inheritM holdsClass
  have hR := h.2.2.2.2.1
  rcases hnd c with ⟨p, q⟩ | ⟨p, q, r⟩
  · rw [if_pos p, if_neg q, if_pos rfl]; exact Same.mk h
  · rw [if_neg p, if_pos q, h.hm r]
    rcases hnd s with ⟨p2, q2⟩ | ⟨p2, q2, r2⟩
    · rw [if_pos p2, if_neg q2]
      split <;> exact Same.mk h
    · rw [if_neg p2, if_pos q2, h.hm r2]
      rcases isClass_eq hR (h.nn r) (h.wd r) with ⟨c1, c2, _⟩ | ⟨c1, c2, c3⟩
      · rw [if_pos c1, if_pos c2, if_pos rfl]; exact Same.mk h
      · rw [if_neg c1, if_neg c2, if_neg (show ¬ (1 : Int32) = 0 by decide)]
        by_cases e4 : rgs σ c < 4
        · rw [if_pos e4, if_pos e4]; exact Same.mk h
        · rw [if_neg e4, if_neg e4]
          have hc0 : ¬ rgs σ c = 0 := fun q => e4 (by rw [q]; decide)
          have key : CN σ (rgs σ s) → Same (if isAmong σ (rgs σ c) (rgs σ s) = 0 then (1, settle (setField σ (rgs σ c) 0 (rgs σ s))) else (0, σ)) (inh1M μ c s) := by
            intro hcn
            unfold inh1M isAmong
            rw [h.hm r, h.hm r2, among_eq hR h.1 hcn]
            rcases among_end h.1 (x := rgs σ c) 28 (u := rgs σ s) (by rw [show (28 : Nat) = 27 + 1 from rfl, supN_add, supN_27 h.1 hcn]; exact supN_0 (h.1.n0 (by omega)) 1) with e | e
            · have e0 : (if amongL 28 σ (rgs σ c) (rgs σ s) = rgs σ c then (1 : Int32) else 0) = 0 := by rw [e]; exact if_neg (fun z => hc0 z.symm)
              rw [if_pos e0, if_pos e]
              have hna : ¬ amongL 28 σ (rgs σ c) (rgs σ s) = rgs σ c := by rw [e]; exact fun z => hc0 z.symm
              have kc := h.1.kc _ (vp_ix c3.1) c3.2
              refine Same.mk (BIG_settle ⟨IN_inh h.1 c3 hc0 hcn hna, AX_free h.1 h.2.1 (by rw [kc.2.1]; decide) (by rw [kc.1]; decide), ?_, ?_, RGm_5 h.2.2.2.2.2 _ (h.nn r2)⟩)
              · rw [setField_ne _ _ _ _ (by decide)]; exact h.2.2.2.1
              · rw [ix15 c3.1]
                have := Rr_field hR (o := rgs σ c) (k := 0) (rgs σ s) (vpc (by decide))
                rw [i0] at this
                exact this
            · rw [e, if_pos rfl, if_neg (show ¬ (1 : Int32) = 0 by decide), if_neg hc0]; exact Same.mk h
          by_cases e0 : rgs σ s = 0
          · rw [if_pos e0, if_neg (show ¬ isClassOrNil σ (rgs σ s) = 0 by unfold isClassOrNil; rw [if_pos e0]; decide)]; exact key (Or.inl e0)
          · rw [if_neg e0]
            rcases isClass_eq hR (h.nn r2) (h.wd r2) with ⟨d1, d2, _⟩ | ⟨d1, d2, d3⟩
            · rw [if_pos d2, if_pos (show isClassOrNil σ (rgs σ s) = 0 by unfold isClassOrNil; rw [if_neg e0, if_pos d1])]; exact Same.mk h
            · rw [if_neg d2, if_neg (show ¬ isClassOrNil σ (rgs σ s) = 0 by unfold isClassOrNil; rw [if_neg e0, if_neg d1]; decide)]; exact key (Or.inr d3)
/-! a settled state stays -/
theorem unheldL_fin (hg : RG σ) (hc : HC σ) (hf : Fin0 σ) : ∀ {n k : Nat}, 4 ≤ k → k + n = 28 → unheldL n k σ 0 = (σ, 0) := by
  intro n
  induction n with
  | zero => intro k _ _; rfl
  | succ n ih =>
    intro k h4 hk
    unfold unheldL
    rw [ix_nI (by omega)]
    by_cases e1 : σ.1 4 k = 0
    · rw [if_pos e1]; exact ih (by omega) (by omega)
    · rw [if_neg e1]
      by_cases e2 : σ.1 5 k = 0
      · rw [if_pos e2, if_neg (fun q => by have := hf k h4 (by omega) e1 e2; rw [(holders_0 hg hc (by omega)).mp q] at this; omega)]
        exact ih (by omega) (by omega)
      · rw [if_neg e2]; exact ih (by omega) (by omega)
theorem settleL_fin (hg : RG σ) (hc : HC σ) (hf : Fin0 σ) : settleL 28 σ 1 = σ := by
  have e : unheld σ = (σ, 0) := unheldL_fin hg hc hf (by omega) (by omega)
  rw [show (28 : Nat) = 27 + 1 from rfl, settleL, if_neg (by decide), e]
  exact settleL_0 27 σ
theorem Rr_unsettle (h : IN σ) (hs : SE σ) (hR : Rr (settle σ) μ) : Rr σ μ := by
  have e : settle σ = stick σ := by unfold settle; rw [settleL_fin h.rg h.hc hs.1]
  rw [e] at hR
  have sn : ∀ {a}, a ≠ 5 → (stick σ).1 a = σ.1 a := fun ha => stick_ne σ ha
  obtain ⟨h1, h2, h3, h4, h5, h6, h7⟩ := hR
  refine ⟨fun o ho => ?_, fun o ho => ?_, fun o ho hl => ?_, fun r hr => ?_, ?_, ?_, ?_⟩
  · have := h1 o ho; rw [sn (by decide)] at this; exact this
  · have := h2 o ho
    rw [stick_5 σ ho] at this
    by_cases q : ¬ σ.1 4 o = 0 ∧ ¬ σ.1 11 o < 6
    · rw [if_pos q] at this
      have ht : 6 ≤ tally σ o := by
        have := q.2
        rw [h.hc o ho, lt6 (by have := tally_bd h.rg o; omega)] at this
        omega
      exact ⟨fun z => absurd (this.mp z) (by decide), fun z => absurd z (hs.2 o ho q.1 ht)⟩
    · rw [if_neg q] at this; exact this
  · have := h3 o ho (by rw [sn (by decide)]; exact hl)
    exact Rl_same this (fun a ha => (sn (by omega)).symm) (stick_2 σ).symm (fun a ha => rfl)
  · rw [h4 r hr, sn (by decide)]
  · rw [h5, sn (by decide)]
  · rw [h6, sn (by decide)]
  · exact Rc_same h7 (sn (by decide)).symm (by rw [stick_2]) rfl rfl
theorem codeL_ne {n : Nat} : ∀ {k : Nat} {μ : SS} {x : Int32} {lo hi : Int64} {a : Nat}, a ≠ 10 → (codeL n k μ x lo hi).1 a = μ.1 a := by
  induction n with
  | zero => intro k μ x lo hi a _; rfl
  | succ n ih => intro k μ x lo hi a h; unfold codeL; rw [ih h, sA_ne _ h, sA_ne _ h]
theorem ci {s k : Nat} : 16 * nI s + nI k = nI (16 * s + k) := by rw [show (16 : Int32) = nI 16 from rfl, pk_mul, nI_add]
theorem ci8 {s k : Nat} : 16 * nI s + 8 + nI k = nI (16 * s + 8 + k) := by rw [show (16 : Int32) = nI 16 from rfl, show (8 : Int32) = nI 8 from rfl, pk_mul, nI_add, nI_add]
theorem codeL_10 {s : Nat} (hs : s < 224) {lo hi : Int64} {n : Nat} : ∀ {k : Nat} {μ : SS} {x : Nat}, k + n ≤ 8 → (codeL n k μ (nI s) lo hi).1 10 x = if 16 * s + k ≤ x ∧ x < 16 * s + k + n then byteM lo (x - 16 * s) else if 16 * s + 8 + k ≤ x ∧ x < 16 * s + 8 + k + n then byteM hi (x - (16 * s + 8)) else μ.1 10 x := by
  induction n with
  | zero => intro k μ x _; rw [if_neg (by omega), if_neg (by omega)]; rfl
  | succ n ih =>
    intro k μ x hk
    unfold codeL
    rw [ih (by omega), ci, ci8, ix_nI (by omega), ix_nI (by omega), sA_eq, sA_eq]
    by_cases e1 : x = 16 * s + k
    · rw [if_neg (by omega), if_neg (by omega), if_pos (by omega), pk_un (by omega), e1, pk_us, show 16 * s + k - 16 * s = k by omega]
    · by_cases e2 : x = 16 * s + 8 + k
      · rw [if_neg (by omega), if_neg (by omega), if_neg (by omega), if_pos (by omega), e2, pk_us, show 16 * s + 8 + k - (16 * s + 8) = k by omega]
      · rw [pk_un e2, pk_un e1]
        by_cases r : 16 * s + (k + 1) ≤ x ∧ x < 16 * s + (k + 1) + n
        · rw [if_pos r, if_pos (by omega)]
        · rw [if_neg r, if_neg (show ¬ (16 * s + k ≤ x ∧ x < 16 * s + k + (n + 1)) by omega)]
          by_cases r2 : 16 * s + 8 + (k + 1) ≤ x ∧ x < 16 * s + 8 + (k + 1) + n
          · rw [if_pos r2, if_pos (by omega)]
          · rw [if_neg r2, if_neg (by omega)]
theorem keep_ne (σ : SS) (c t : Int32) (lo hi : Int64) {a : Nat} (h : a ≠ 16) : (keep σ c t lo hi).1 a = σ.1 a := by
  unfold keep
  exact sA_ne σ h _ _
theorem Rr_keep (h : Rr σ μ) {c t : Int32} (hc : vp_in c 28) (ht : vp_in t 8) (lo hi : Int64) : Rr (keep σ c t lo hi) (codeL 8 0 (sA μ 9 (ix (8 * c + t)) 1) (8 * c + t) lo hi) := by
  have hs := slot_eq hc ht
  have he : 8 * c + t = nI (8 * ix c + ix t) := by
    obtain ⟨i, hi, rfl⟩ := vp_in_of hc (by decide)
    obtain ⟨j, hj, rfl⟩ := vp_in_of ht (by decide)
    rw [ix_nI (by omega), ix_nI (by omega), show (8 : Int32) = nI 8 from rfl, pk_mul, nI_add]
  have hx : ix (8 * c + t) = 8 * ix c + ix t := hs.1.trans hs.2.1
  have sn : ∀ {a}, a ≠ 16 → (keep σ c t lo hi).1 a = σ.1 a := fun ha => keep_ne _ _ _ _ _ ha
  have mn : ∀ {a}, a ≠ 10 → a ≠ 9 → (codeL 8 0 (sA μ 9 (ix (8 * c + t)) 1) (8 * c + t) lo hi).1 a = μ.1 a := fun h1 h2 => by rw [codeL_ne h1, sA_ne _ h2]
  refine ⟨fun i hi => ?_, fun i hi => ?_, fun i hi li => ?_, fun j hj => ?_, ?_, ?_, ⟨fun j hj => ?_, fun j k hj hk => ?_⟩⟩
  · rw [mn (by decide) (by decide), sn (by decide)]; exact h.1 i hi
  · rw [mn (by decide) (by decide), sn (by decide)]; exact h.2.1 i hi
  · rw [sn (by decide)] at li
    have q := h.2.2.1 i hi li
    unfold Rl srt at q ⊢
    rw [mn (show (3 : Nat) ≠ 10 by decide) (by decide), mn (show (4 : Nat) ≠ 10 by decide) (by decide), mn (show (5 : Nat) ≠ 10 by decide) (by decide), mn (show (2 : Nat) ≠ 10 by decide) (by decide), mn (show (8 : Nat) ≠ 10 by decide) (by decide), mn (show (11 : Nat) ≠ 10 by decide) (by decide), sn (show (7 : Nat) ≠ 16 by decide), sn (show (8 : Nat) ≠ 16 by decide), sn (show (6 : Nat) ≠ 16 by decide), sn (show (9 : Nat) ≠ 16 by decide), sn (show (10 : Nat) ≠ 16 by decide)]
    exact q
  · rw [mn (by decide) (by decide), sn (by decide)]; exact h.2.2.2.1 j hj
  · rw [mn (by decide) (by decide), sn (by decide)]; exact h.2.2.2.2.1
  · rw [mn (by decide) (by decide), sn (by decide)]; exact h.2.2.2.2.2.1
  · rw [codeL_ne (by decide), sA_eq, hx]
    show upd (μ.1 9) (8 * ix c + ix t) 1 j = 0 ↔ (sA σ 16 (ix (slotOf c t)) 1).1 16 j = 0
    rw [sA_eq, hs.2.1]
    by_cases e : j = 8 * ix c + ix t
    · rw [e, pk_us, pk_us]
    · rw [pk_un e, pk_un e]; exact h.2.2.2.2.2.2.1 j hj
  · have l17 : (keep σ c t lo hi).2.2 17 j = vp_updL (σ.2.2 17) (8 * ix c + ix t) lo j := by unfold keep; rw [hs.2.1]; rfl
    have l18 : (keep σ c t lo hi).2.2 18 j = vp_updL (σ.2.2 18) (8 * ix c + ix t) hi j := by unfold keep; rw [hs.2.1]; rfl
    rw [l17, l18, he, codeL_10 (by omega) (by omega), codeL_10 (by omega) (by omega), sA_ne _ (by decide)]
    by_cases e : j = 8 * ix c + ix t
    · rw [e, pk_uLs, pk_uLs, if_pos (by omega), if_neg (by omega), if_pos (by omega)]
      rw [show 16 * (8 * ix c + ix t) + k - 16 * (8 * ix c + ix t) = k by omega, show 16 * (8 * ix c + ix t) + 8 + k - (16 * (8 * ix c + ix t) + 8) = k by omega]
      exact ⟨rfl, rfl⟩
    · rw [pk_uLn e, pk_uLn e, if_neg (by omega), if_neg (by omega), if_neg (by omega), if_neg (by omega)]
      exact h.2.2.2.2.2.2.2 j k hj hk
theorem s_method (h : BIG σ μ) (c t : Int32) (lo hi : Int64) : Same (methodF σ c t lo hi) (methodM μ c t lo hi) := by
  unfold methodF methodM holdsClass
  have hR := h.2.2.2.2.1
  rcases hnd c with ⟨p, q⟩ | ⟨p, q, r⟩
  · rw [if_pos p, if_neg q, if_pos rfl]; exact Same.mk h
  · rw [if_neg p, if_pos q, h.hm r]
    rcases isClass_eq hR (h.nn r) (h.wd r) with ⟨g1, g2, _⟩ | ⟨g1, g2, c3⟩
    · rw [if_pos g1, if_pos g2, if_pos rfl]
      split <;> exact Same.mk h
    · rw [if_neg g1, if_neg g2, if_neg (show ¬ (1 : Int32) = 0 by decide)]
      rcases sel t with ⟨p2, q2⟩ | ⟨p2, q2, r2⟩
      · rw [if_pos p2, if_neg q2]; exact Same.mk h
      · rw [if_neg p2, if_pos q2]
        unfold meth1M slM
        rw [h.hm r]
        have kn : ∀ a, a ≠ 16 → (keep σ (rgs σ c) t lo hi).1 a = σ.1 a := fun a ha => keep_ne _ _ _ _ _ ha
        have hb : BZ (keep σ (rgs σ c) t lo hi) := fun j hj => by
          show (sA σ 16 (ix (slotOf (rgs σ c) t)) 1).1 16 j = 0 ∨ _ = 1
          rw [sA_eq]
          exact upd_P (P := fun y => y = 0 ∨ y = 1) (h.1.bz j hj) (Or.inr rfl)
        have hI : IN (keep σ (rgs σ c) t lo hi) := IN_flags h.1 kn rfl hb
        have hA : AX (keep σ (rgs σ c) t lo hi) := AX_flags h.2.1 kn rfl
        have htl : ∀ o, tally (keep σ (rgs σ c) t lo hi) o = tally σ o := fun o => by
          unfold tally tal c1
          rw [kn 4 (by decide), kn 7 (by decide), kn 8 (by decide), kn 13 (by decide)]; rfl
        have hS : SE (keep σ (rgs σ c) t lo hi) := by
          unfold SE Fin0
          simp only [htl]
          rw [kn 4 (by decide), kn 5 (by decide)]
          exact h.2.2.1
        have h21 : 0 ≤ ((keep σ (rgs σ c) t lo hi).1 21 0).toInt := by rw [kn 21 (by decide)]; exact h.2.2.2.1
        have hm : RGm (codeL 8 0 (sA μ 9 (ix (8 * rgs σ c + t)) 1) (8 * rgs σ c + t) lo hi) := RGm_same h.2.2.2.2.2 (fun a ha => by rw [codeL_ne (by omega), sA_ne _ (by omega)])
        have hB := BIG_settle ⟨hI, hA, h21, Rr_keep hR c3.1 r2 lo hi, hm⟩
        exact Same.mk ⟨hI, hA, hS, h21, Rr_unsettle hI hS hB.2.2.2.2.1, hB.2.2.2.2.2⟩
/-! abort -/
theorem AX_nil (h : IN σ) (h6 : σ.1 13 6 = 0) : AX σ := by
  unfold AX
  rw [h6]
  have hz := supN_0 (σ := σ) (h.n0 (by omega))
  exact ⟨Or.inl rfl, fun i j _ q => absurd (hz i) q, fun j _ q => absurd (hz j) q⟩
theorem cond_0 (σ : SS) : condition σ = 0 ↔ σ.1 13 6 = 0 := by
  unfold condition
  rw [show ix (6 : Int32) = 6 by decide]
  by_cases e : σ.1 13 6 = 0
  · rw [if_pos e]; exact ⟨fun _ => e, fun _ => rfl⟩
  · rw [if_neg e]
    by_cases e2 : σ.1 21 0 = 0
    · rw [if_pos e2]; exact ⟨fun q => absurd q (by decide), fun q => absurd q e⟩
    · rw [if_neg e2]; exact ⟨fun q => absurd q (by decide), fun q => absurd q e⟩
theorem IN_row21 (h : IN σ) (x : Int32) : IN (sA σ 21 0 x) := by
  have e : ∀ {a}, a ≠ 21 → (sA σ 21 0 x).1 a = σ.1 a := fun ha => sA_ne _ ha _ _
  have hsup : ∀ n a, supN (sA σ 21 0 x) n a = supN σ n a := fun n a => (supN_eq (σ := σ) (τ := sA σ 21 0 x) (P := fun _ => True) (fun a _ => ⟨rfl, trivial⟩) n a trivial).1
  refine ⟨RG_A h.rg (by decide) _ _, ?_, ?_, ?_, HC_A h.hc (by decide) _ _, ?_, ?_, ?_, ?_, ?_⟩
  · unfold BZ; rw [e (by decide)]; exact h.bz
  · unfold Za; rw [e (by decide)]; exact h.za
  · unfold Zd; rw [e (by decide), e (by decide), e (by decide), e (by decide), e (by decide)]; exact h.zd
  · unfold F4; rw [e (by decide), e (by decide), e (by decide), e (by decide)]; exact h.f4
  · unfold CL CW Wd; rw [e (by decide), e (by decide), e (by decide), e (by decide)]; exact h.cl
  · unfold KC CW; rw [e (by decide), e (by decide), e (by decide)]; exact h.kc
  · unfold KX KXo XN CW; rw [e (by decide), e (by decide), e (by decide), e (by decide), e (by decide)]; exact h.kx
  · unfold SC; rw [e (by decide)]; simp only [hsup]; exact h.sc
theorem AX_row21 (h : AX σ) (x : Int32) : AX (sA σ 21 0 x) := by
  have e : ∀ {a}, a ≠ 21 → (sA σ 21 0 x).1 a = σ.1 a := fun ha => sA_ne _ ha _ _
  have hsup : ∀ n a, supN (sA σ 21 0 x) n a = supN σ n a := fun n a => (supN_eq (σ := σ) (τ := sA σ 21 0 x) (P := fun _ => True) (fun a _ => ⟨rfl, trivial⟩) n a trivial).1
  unfold AX XN; rw [e (by decide), e (by decide), e (by decide), e (by decide)]; simp only [hsup]; exact h
theorem s_abort (h : BIG σ μ) : Same (abort σ) (abortM μ) := by
  have hR := h.2.2.2.2.1
  unfold abort abortM
  by_cases e : σ.1 13 6 = 0
  · rw [if_pos ((cond_0 σ).mpr e), if_pos (hR.2.2.2.2.1.trans e)]; exact Same.mk h
  · rw [if_neg (fun q => e ((cond_0 σ).mp q)), if_neg (fun q => e (hR.2.2.2.2.1.symm.trans q))]
    unfold stop
    have hI : IN (setRegister (sA σ 21 0 0) 6 0) := IN_reg (IN_row21 h.1 0) (vpc (by decide)) (by decide) (Wd_0 (IN_row21 h.1 0))
    rw [sA_comm μ (by decide)]
    refine Same.mk (BIG_settle ⟨hI, AX_nil hI (by rw [setRegister_13]; rfl), ?_, Rr_act (Rr_reason hR 0) 0, RGm_20 (RGm_A h.2.2.2.2.2 (by decide) _ _) (vpc (by decide))⟩)
    rw [setRegister_ne _ _ _ (by decide) (by decide), sA_eq, pk_us]; decide
/-! the questions -/
theorem q_state (h : BIG σ μ) : condition σ = stateM μ := by
  unfold condition stateM acM
  rw [h.2.2.2.2.1.2.2.2.2.1, h.2.2.2.2.1.2.2.2.2.2.1, show ix (6 : Int32) = 6 by decide]
  by_cases e : σ.1 13 6 = 0
  · rw [if_pos e, if_pos e]
  · rw [if_neg e, if_neg e]
    have h0 := h.2.2.2.1
    by_cases e2 : σ.1 21 0 = 0
    · rw [if_pos e2, e2, if_pos (by decide)]
    · rw [if_neg e2, if_neg (fun q => e2 (Int32.toInt_inj.mp (by rw [Int32.le_iff_toInt_le, n0] at q; rw [n0]; omega)))]
theorem q_reason (h : BIG σ μ) : σ.1 21 0 = μ.1 21 0 := h.2.2.2.2.1.2.2.2.2.2.1.symm
theorem q_active (h : BIG σ μ) : σ.1 13 (ix 6) = μ.1 20 0 := h.2.2.2.2.1.2.2.2.2.1.symm
theorem q_handle (h : BIG σ μ) (r : Int32) : handleQ σ r = handleM μ r := by
  unfold handleQ handleM
  rcases hnd r with ⟨p, q⟩ | ⟨p, q, w⟩
  · rw [if_pos p, if_neg q]
  · rw [if_neg p, if_pos q, h.hm w]
theorem q_stack (h : BIG σ μ) (o : Int32) : stackQ σ o = stackM μ o := by
  unfold stackQ stackM isContext
  rcases noObject_eq h.2.2.2.2.1 o with ⟨a, b⟩ | ⟨a, b, c, d⟩
  · rw [if_pos a, if_neg b, if_pos rfl]
  · have hl := h.2.2.2.2.1.2.2.1 _ (vp_ix c) d
    rw [if_neg a, if_pos b, hl.2.2.2.1]
    by_cases e : σ.1 7 (ix o) = 3
    · rw [if_pos e, if_neg (by decide), if_pos ((srt_2 h.1 (vp_ix c)).mpr e)]; exact (hl.2.2.2.2.2 e).symm
    · rw [if_neg e, if_pos rfl, if_neg (fun q => e ((srt_2 h.1 (vp_ix c)).mp q))]
theorem q_field (h : BIG σ μ) (o k : Int32) : fieldQ σ o k = fieldM μ o k := by
  unfold fieldQ fieldM
  by_cases e : hasField σ o k = 0
  · rw [if_pos e]
    unfold hasField at e
    rcases noObject_eq h.2.2.2.2.1 o with ⟨a, b⟩ | ⟨a, b, c, d⟩
    · rw [if_neg b]
    · rw [if_neg a] at e
      rw [if_pos b]
      by_cases e1 : k < 0
      · rw [if_pos e1]
      · rw [if_neg e1] at e ⊢
        by_cases e2 : σ.1 8 (ix o) ≤ k
        · rw [(h.2.2.2.2.1.2.2.1 _ (vp_ix c) d).2.1, if_neg (Int32.not_lt.mpr e2)]
        · rw [if_neg e2] at e; exact absurd e (by decide)
  · rw [if_neg e]
    obtain ⟨b1, b2, b3, b4⟩ := hasField_in h.1 e
    obtain ⟨a1, a2, a3⟩ := hf_alive e
    rcases noObject_eq h.2.2.2.2.1 o with ⟨a, b⟩ | ⟨a, b, c, d⟩
    · exact absurd a a1
    · rw [if_pos b, if_neg a2, (h.2.2.2.2.1.2.2.1 _ (vp_ix c) d).2.1, if_pos (Int32.not_le.mp a3), (wordM_eq h.2.2.2.2.1 b1 b2 b3).1]
theorem q_classOf (h : BIG σ μ) (o : Int32) : classOfQ σ o = classOfM μ o := by
  unfold classOfQ classOfM classOfWord
  rcases noObject_eq h.2.2.2.2.1 o with ⟨a, b⟩ | ⟨a, b, c, d⟩
  · rw [if_pos a, if_neg b]
  · rw [if_neg a, if_pos b, (h.2.2.2.2.1.2.2.1 _ (vp_ix c) d).1]
    rcases obj o (vp_nn c) with ⟨_, _, z⟩ | ⟨z, _, _⟩
    · have := vp_lt c; omega
    · rw [if_neg z]
theorem BIG_tally (h : BIG σ μ) : BIG σ (tallyM μ) := by
  have e : ∀ {a}, a ≠ 7 → (tallyM μ).1 a = μ.1 a := fun ha => tallyM_ne μ ha
  refine ⟨h.1, h.2.1, h.2.2.1, h.2.2.2.1, ?_, RGm_tally h.2.2.2.2.2⟩
  have hR := h.2.2.2.2.1
  unfold Rr Rl Rc at hR ⊢
  rw [e (show (1 : Nat) ≠ 7 by decide), e (show (2 : Nat) ≠ 7 by decide), e (show (3 : Nat) ≠ 7 by decide), e (show (4 : Nat) ≠ 7 by decide), e (show (5 : Nat) ≠ 7 by decide), e (show (6 : Nat) ≠ 7 by decide), e (show (8 : Nat) ≠ 7 by decide), e (show (9 : Nat) ≠ 7 by decide), e (show (10 : Nat) ≠ 7 by decide), e (show (11 : Nat) ≠ 7 by decide), e (show (12 : Nat) ≠ 7 by decide), e (show (20 : Nat) ≠ 7 by decide), e (show (21 : Nat) ≠ 7 by decide)]
  exact hR
theorem s_count (h : BIG σ μ) (o : Int32) : Same (countQ σ o, σ) (countM μ o) := by
  unfold countQ countM countOf
  rcases noObject_eq h.2.2.2.2.1 o with ⟨a, b⟩ | ⟨a, b, c, d⟩
  · rw [if_pos a, if_neg b]; exact Same.mk h
  · rw [if_neg a, if_pos b, tallyM_ne μ (show (6 : Nat) ≠ 7 by decide), tallyM_7 h.2.2.2.2.2 (vp_ix c), h.2.2.2.2.1.tal h.1.rg, ← h.1.hc _ (vp_ix c)]
    have hs := h.2.2.2.2.1.2.1 _ (vp_ix c)
    by_cases e : σ.1 5 (ix o) = 0
    · rw [if_pos e, if_pos (hs.mpr e)]; exact Same.mk (BIG_tally h)
    · rw [if_neg e, if_neg (fun q => e (hs.mp q))]; exact Same.mk (BIG_tally h)
theorem q_alive (h : BIG σ μ) : howManyAlive σ = aliveM μ := (alive_cnt h.2.2.2.2.1 (by omega)).symm
theorem q_lookup (h : BIG σ μ) (r t : Int32) : lookupQ σ r t = lookupM μ r t := by
  unfold lookupQ lookupM
  rcases hnd r with ⟨p, q⟩ | ⟨p, q, w⟩
  · rw [if_pos p, if_neg q]
  · rw [if_neg p, if_pos q]
    rcases sel t with ⟨p2, q2⟩ | ⟨p2, q2, w2⟩
    · rw [if_pos p2, if_neg q2]
    · rw [if_neg p2, if_pos q2, h.hm w, classOfWord_eq h.2.2.2.2.1 (h.nn w) (h.wd w), (found_eq h.2.2.2.2.1 h.1 w2 (Or.inr (classOfWord_CW h.1 (h.nn w) (h.wd w)))).1]
end INH
