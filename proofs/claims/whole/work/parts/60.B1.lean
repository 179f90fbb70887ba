/-! new objects -/
section NEW
variable {σ τ μ : SS}
theorem nw_Wd {o : Nat} (hd : σ.1 4 o = 0) (r4 : ∀ i, i ≠ o → τ.1 4 i = σ.1 4 i) {w : Int32} (hw : Wd σ w) : Wd τ w := by
  rcases hw with q | q
  · exact Or.inl q
  · refine Or.inr ?_
    have e : ix w ≠ o := fun e => q (e ▸ hd)
    rw [r4 _ e]; exact q
theorem nw_CW (h : IN σ) {o : Nat} (hd : σ.1 4 o = 0) (r6 : ∀ i, i ≠ o → τ.1 6 i = σ.1 6 i) {w : Int32} (hw : CW σ w) : CW τ w :=
  have e : ix w ≠ o := fun e => h.cl4 (vp_ix hw.1) hw.2 (e ▸ hd)
  ⟨hw.1, by rw [r6 _ e]; exact hw.2⟩
theorem nw_XN {o : Nat} (hd : σ.1 4 o = 0) (r4 : ∀ i, i ≠ o → τ.1 4 i = σ.1 4 i) (r7 : ∀ i, i ≠ o → τ.1 7 i = σ.1 7 i) {w : Int32} (hw : XN σ w) : XN τ w := by
  rcases hw with q | ⟨q1, q2, q3⟩
  · exact Or.inl q
  · have e : ix w ≠ o := fun e => q2 (e ▸ hd)
    exact Or.inr ⟨q1, by rw [r4 _ e]; exact q2, by rw [r7 _ e]; exact q3⟩
theorem IN_new (h : IN σ) {o : Nat} (ho : o < 28) (hd : σ.1 4 o = 0) (r : ∀ a i, a = 4 ∨ a = 5 ∨ a = 6 ∨ a = 7 ∨ a = 8 ∨ a = 9 ∨ a = 10 → i ≠ o → τ.1 a i = σ.1 a i) (r13 : τ.1 13 = σ.1 13) (g : ∀ i, i ≠ o → τ.2.1 i = σ.2.1 i)
    (l : ¬ τ.1 4 o = 0) (c : CW σ (τ.1 7 o)) (hg : RG τ) (hb : BZ τ) (hc : HC τ) (za : ∀ k, k < 15 → ix (τ.1 8 o) ≤ k → τ.2.1 o k = 0) (w : ∀ k, k < 15 → Wd σ (τ.2.1 o k))
    (kc : ¬ τ.1 6 o = 0 → τ.1 7 o = 1 ∧ τ.1 8 o = 1 ∧ CN σ (τ.2.1 o 0))
    (kx : τ.1 7 o = 3 → τ.1 8 o = 15 ∧ XN σ (τ.2.1 o 0) ∧ CW σ (τ.2.1 o 2) ∧ (∃ t, t < 8 ∧ τ.2.1 o 3 = nI (1000 + t)) ∧ (∃ q, q ≤ 16 ∧ τ.2.1 o 4 = nI (1000 + q)) ∧ (∀ j, j < 6 → ix (τ.1 10 o) ≤ j → τ.2.1 o (9 + j) = 0)) : IN τ := by
  have h4 : 4 ≤ o := Nat.not_lt.mp (fun q => (h.f4.1 o q).1 hd)
  have r4 : ∀ i, i ≠ o → τ.1 4 i = σ.1 4 i := fun i hi => r 4 i (by omega) hi
  have r6 : ∀ i, i ≠ o → τ.1 6 i = σ.1 6 i := fun i hi => r 6 i (by omega) hi
  have r7 : ∀ i, i ≠ o → τ.1 7 i = σ.1 7 i := fun i hi => r 7 i (by omega) hi
  have r8 : ∀ i, i ≠ o → τ.1 8 i = σ.1 8 i := fun i hi => r 8 i (by omega) hi
  have wd : ∀ {w}, Wd σ w → Wd τ w := fun q => nw_Wd hd r4 q
  have cw : ∀ {w}, CW σ w → CW τ w := fun q => nw_CW h hd r6 q
  have xn : ∀ {w}, XN σ w → XN τ w := fun q => nw_XN hd r4 r7 q
  have cne : ∀ {a}, CN σ a → ix a ≠ o := fun {a} q e => by
    rcases q with rfl | q
    · rw [i0] at e; omega
    · exact h.cl4 (vp_ix q.1) q.2 (e ▸ hd)
  have hsup : ∀ n a, CN σ a → supN τ n a = supN σ n a := fun n a ha => (supN_eq (P := CN σ) (fun a ha => ⟨by rw [g _ (cne ha)], ha.step h⟩) n a ha).1
  refine ⟨hg, hb, fun i k hi hk h8 => ?_, fun i hi hdi => ?_, hc, ?_, ⟨fun i hi hl => ?_, fun i k hi hk => ?_, fun j hj => ?_⟩, fun i hi hci => ?_, fun i hi hl h3 => ?_, fun i hi hci => ?_⟩
  · by_cases e : i = o
    · subst e; exact za k hk h8
    · rw [g i e]; rw [r8 i e] at h8; exact h.za i k hi hk h8
  · by_cases e : i = o
    · subst e; exact absurd hdi l
    · rw [r4 i e] at hdi
      rw [r 5 i (by omega) e, r6 i e, r8 i e, r 10 i (by omega) e]; exact h.zd i hi hdi
  · refine ⟨fun i hi => ?_, ?_, ?_, fun i h1 hi => ?_⟩
    · rw [r4 i (by omega), r7 i (by omega)]; exact h.f4.1 i hi
    · rw [r6 0 (by omega)]; exact h.f4.2.1
    · rw [r8 0 (by omega)]; exact h.f4.2.2.1
    · rw [r6 i (by omega)]; exact h.f4.2.2.2 i h1 hi
  · by_cases e : i = o
    · subst e; exact cw c
    · rw [r7 i e]; rw [r4 i e] at hl; exact cw (h.cl.1 i hi hl)
  · by_cases e : i = o
    · subst e; exact wd (w k hk)
    · rw [g i e]; exact wd (h.cl.2.1 i k hi hk)
  · rw [r13]; exact wd (h.cl.2.2 j hj)
  · by_cases e : i = o
    · subst e
      have q := kc hci
      refine ⟨q.1, q.2.1, ?_⟩
      rcases q.2.2 with z | z
      · exact Or.inl z
      · exact Or.inr (cw z)
    · rw [r6 i e] at hci
      have q := h.kc i hi hci
      rw [r7 i e, r8 i e, g i e]
      refine ⟨q.1, q.2.1, ?_⟩
      rcases q.2.2 with z | z
      · exact Or.inl z
      · exact Or.inr (cw z)
  · by_cases e : i = o
    · subst e
      have q := kx h3
      exact ⟨q.1, xn q.2.1, cw q.2.2.1, q.2.2.2⟩
    · rw [r4 i e] at hl
      rw [r7 i e] at h3
      have q := h.kx i hi hl h3
      unfold KXo
      rw [r8 i e, g i e, r 10 i (by omega) e]
      exact ⟨q.1, xn q.2.1, cw q.2.2.1, q.2.2.2⟩
  · by_cases e : i = o
    · subst e
      obtain ⟨n, hn⟩ := CN.ends h (kc hci).2.2
      refine ⟨n + 1, ?_⟩
      rw [supN_s, ix_nI (by omega), hsup _ _ (kc hci).2.2]; exact hn
    · rw [r6 i e] at hci
      obtain ⟨n, hn⟩ := h.sc i hi hci
      exact ⟨n, by rw [hsup _ _ (Or.inr ⟨vp_k hi (by decide), by rw [ix_nI (by omega)]; exact hci⟩)]; exact hn⟩
/-- nothing that waits is at o -/
def Off (σ : SS) (o : Nat) : Prop := ∀ n, ix (supN σ n (σ.1 13 6)) ≠ o
theorem Off_dead (h : IN σ) (hx : AX σ) {o : Nat} (hd : σ.1 4 o = 0) : Off σ o := fun n e => by
  rcases hx.chain h n with q | ⟨_, q, _⟩
  · rw [q, i0] at e; exact h.l0 (e ▸ hd)
  · exact q (e ▸ hd)
/-- changes at o alone leave those that wait as they are -/
theorem AX_off (hx : AX σ) {o : Nat} (hf : Off σ o) (r : ∀ a i, a = 4 ∨ a = 7 ∨ a = 10 → i ≠ o → τ.1 a i = σ.1 a i) (r13 : τ.1 13 6 = σ.1 13 6) (g : ∀ i, i ≠ o → τ.2.1 i 0 = σ.2.1 i 0) : AX τ ∧ Off τ o := by
  have hsup : ∀ n, supN τ n (σ.1 13 6) = supN σ n (σ.1 13 6) := fun n => by
    induction n with
    | zero => rfl
    | succ n ih => rw [supN_end, supN_end, ih, g _ (hf n)]
  have hf0 : ix (σ.1 13 6) ≠ o := hf 0
  refine ⟨?_, fun n => by rw [r13, hsup]; exact hf n⟩
  unfold AX XN
  rw [r13]
  simp only [hsup]
  refine ⟨?_, hx.2.1, fun j hj hz => ?_⟩
  · rw [r 4 _ (by omega) hf0, r 7 _ (by omega) hf0]; exact hx.1
  · rw [r 10 _ (by omega) (hf j)]; exact hx.2.2 j hj hz
theorem BZ_eq16 (h : BZ σ) (e : τ.1 16 = σ.1 16) : BZ τ := by unfold BZ; rw [e]; exact h
theorem nI_of_rg {x : Int32} (h0 : 0 ≤ x.toInt) : x = nI (ix x) := (ix_back h0).symm
theorem HC_wake2 (h : IN σ) {o c n : Int32} (ho : vp_in o 28) (hd : σ.1 4 (ix o) = 0) (hc : 0 ≤ c.toInt) (hn : 0 ≤ n.toInt ∧ n.toInt ≤ 15) : HC (wake σ o c n) := by
  rw [nI_of_rg hn.1]
  exact HC_wake h.hc ho hd (fun k hk => h.deadrow (vp_ix ho) hk hd) hc (ix_le hn.2)
theorem wake_r (σ : SS) (o c n : Int32) : ∀ a i, a = 4 ∨ a = 5 ∨ a = 6 ∨ a = 7 ∨ a = 8 ∨ a = 9 ∨ a = 10 → i ≠ ix o → (wake σ o c n).1 a i = σ.1 a i := by
  intro a i ha hi
  rcases ha with rfl | rfl | rfl | rfl | rfl | rfl | rfl
  · rw [wake_4, pk_un hi]
  · rw [wake_ne _ _ _ _ (by decide)]
  · rw [wake_ne _ _ _ _ (by decide)]
  · rw [wake_7, pk_un hi]
  · rw [wake_8, pk_un hi]
  · rw [wake_ne _ _ _ _ (by decide)]
  · rw [wake_ne _ _ _ _ (by decide)]
theorem IN_wake (h : IN σ) {o c n : Int32} (ho : vp_in o 28) (hd : σ.1 4 (ix o) = 0) (hc : CW σ c) (h3 : ¬ c = 3) (hn : 0 ≤ n.toInt ∧ n.toInt ≤ 15) : IN (wake σ o c n) := by
  have hz := h.zd _ (vp_ix ho) hd
  have hrow : ∀ k, k < 15 → (wake σ o c n).2.1 (ix o) k = 0 := fun k hk => by rw [wake_G]; exact h.deadrow (vp_ix ho) hk hd
  refine IN_new h (vp_ix ho) hd (wake_r σ o c n) (wake_ne _ _ _ _ (by decide)) (fun i _ => by rw [wake_G]) (by rw [wake_4, pk_us]; decide) (by rw [wake_7, pk_us]; exact hc) (RG_wake h.rg _ hc.1 hn) (BZ_eq16 h.bz (wake_ne _ _ _ _ (by decide))) (HC_wake2 h ho hd (vp_nn hc.1) hn) (fun k hk _ => hrow k hk) (fun k hk => by rw [hrow k hk]; exact Wd_0 h) (fun q => ?_) (fun q => ?_)
  · rw [wake_ne _ _ _ _ (by decide)] at q; exact absurd hz.2.1 q
  · rw [wake_7, pk_us] at q; exact absurd q h3
theorem AX_wake (h : IN σ) (hx : AX σ) {o c n : Int32} (hd : σ.1 4 (ix o) = 0) : AX (wake σ o c n) ∧ Off (wake σ o c n) (ix o) :=
  AX_off hx (Off_dead h hx hd) (fun a i ha hi => wake_r σ o c n a i (by omega) hi) (by rw [wake_ne _ _ _ _ (by decide)]) (fun i _ => by rw [wake_G])
theorem s_make (h : BIG σ μ) (a c : Int32) : Same (make σ a c) (makeM μ a c) := by
  unfold make makeM holdsClass
  rcases hnd a with ⟨p, q⟩ | ⟨p, q, r⟩
  · rw [if_pos p, if_neg q]; exact Same.mk h
  · rw [if_neg p, if_pos q]
    rcases hnd c with ⟨p2, q2⟩ | ⟨p2, q2, r2⟩
    · rw [if_pos p2, if_neg q2, if_pos rfl]; exact Same.mk h
    · rw [if_neg p2, if_pos q2, h.hm r2]
      rcases isClass_eq h.2.2.2.2.1 (h.nn r2) (h.wd r2) with ⟨c1, c2, _⟩ | ⟨c1, c2, c3⟩
      · rw [if_pos c1, if_pos c2, if_pos rfl]; exact Same.mk h
      · rw [if_neg c1, if_neg c2, if_neg (show ¬ (1 : Int32) = 0 by decide)]
        by_cases e3 : rgs σ c = 3
        · rw [if_pos e3, if_pos e3]; exact Same.mk h
        · rw [if_neg e3, if_neg e3]
          rcases lf_cases h.2.2.2.2.1 h.1 with ⟨d1, d2⟩ | ⟨d1, d2, d3, d4⟩
          · rw [if_pos d1, if_neg d2]
            unfold newInstance
            rw [if_pos d1]; exact Same.mk h
          · rw [if_neg d1, if_pos d2, room_eq h.2.2.2.2.1 h.1]
            have hsz := h.1.rg.2.2.2.2.1 _ (vp_ix c3.1)
            have hn : 0 ≤ (σ.1 9 (ix (rgs σ c))).toInt ∧ (σ.1 9 (ix (rgs σ c))).toInt ≤ 15 := ⟨hsz.1, by omega⟩
            have e8 : μ.1 8 (ix (rgs σ c)) = σ.1 9 (ix (rgs σ c)) := (h.2.2.2.2.1.2.2.1 _ (vp_ix c3.1) (h.1.cl4 (vp_ix c3.1) c3.2)).2.2.2.2.1 c3.2
            unfold newInstance giveHandle mk2M
            rw [if_neg d1, h.hm r2, e8]
            have hI := IN_wake h.1 d3 d4 c3 e3 hn
            refine Same.mk (BIG_settle ⟨IN_reg hI (h7 r) (vp_nn d3) (Or.inr (by rw [wake_4, pk_us]; decide)), AX_regh (AX_wake h.1 h.2.1 d4).1 r _, ?_, Rr_regh (Rr_wake h.2.2.2.2.1 h.1.za h.1.zd _ _ d3 d4 (by rw [if_neg e3])) r _, RGm_12 (RGm_make1 h.2.2.2.2.2 _ d3 c3.1 hn) _ (vp_nn d3)⟩)
            rw [setRegister_ne _ _ _ (by decide) (by decide), wake_ne _ _ _ _ (by decide)]; exact h.2.2.2.1
/-! a new class -/
theorem wc_row (σ : SS) (o s z : Int32) : (wakeClass σ o s z).2.1 (ix o) = upd (σ.2.1 (ix o)) 0 s := by
  unfold wakeClass
  rw [sF_row, sA_2, sA_2, wake_G, i0]
theorem wc_ne (σ : SS) (o s z : Int32) {a : Nat} (h : a ≠ 4 ∧ a ≠ 7 ∧ a ≠ 8 ∧ a ≠ 11) (h2 : a ≠ 6) (h3 : a ≠ 9) : (wakeClass σ o s z).1 a = σ.1 a := by
  unfold wakeClass
  rw [setField_ne _ _ _ _ h.2.2.2, sA_ne _ h3, sA_ne _ h2, wake_ne _ _ _ _ h]
theorem wc_w (σ : SS) (o s z : Int32) {a : Nat} (h : a ≠ 11) (h2 : a ≠ 6) (h3 : a ≠ 9) : (wakeClass σ o s z).1 a = (wake σ o 1 1).1 a := by
  unfold wakeClass
  rw [setField_ne _ _ _ _ h, sA_ne _ h3, sA_ne _ h2]
theorem wc_6 (σ : SS) (o s z : Int32) : (wakeClass σ o s z).1 6 = upd (σ.1 6) (ix o) 1 := by
  unfold wakeClass
  rw [setField_ne _ _ _ _ (by decide), sA_ne _ (by decide), sA_eq, wake_ne _ _ _ _ (by decide)]
theorem wc_9 (σ : SS) (o s z : Int32) : (wakeClass σ o s z).1 9 = upd (σ.1 9) (ix o) z := by
  unfold wakeClass
  rw [setField_ne _ _ _ _ (by decide), sA_eq, sA_ne _ (by decide), wake_ne _ _ _ _ (by decide)]
theorem IN_wc (h : IN σ) {o s z : Int32} (ho : vp_in o 28) (hd : σ.1 4 (ix o) = 0) (hs : CN σ s) (hz : 0 ≤ z.toInt ∧ z.toInt ≤ 6) : IN (wakeClass σ o s z) := by
  have c1w : CW σ 1 := ⟨vp_28 (by decide) (by decide), h.f4.2.2.2 1 (by omega) (by omega)⟩
  have hrg := RG_wake h.rg o (c := 1) (n := 1) (vpc (by decide)) (by decide)
  have hsw : Wd σ s := by
    rcases hs with rfl | q
    · exact Wd_0 h
    · exact Or.inr (h.cl4 (vp_ix q.1) q.2)
  have e1 : ix (1 : Int32) = 1 := by decide
  refine IN_new h (vp_ix ho) hd (fun a i ha hi => ?_) (wc_ne _ _ _ _ (by decide) (by decide) (by decide)) (fun i hi => ?_) (by rw [wc_w _ _ _ _ (by decide) (by decide) (by decide), wake_4, pk_us]; decide) (by rw [wc_w _ _ _ _ (by decide) (by decide) (by decide), wake_7, pk_us]; exact c1w) (RG_wakeClass h.rg o (vp_nn hs.vp) hz) (BZ_eq16 h.bz (wc_ne _ _ _ _ (by decide) (by decide) (by decide))) ?_ (fun k hk h8 => ?_) (fun k hk => ?_) (fun _ => ?_) (fun q => ?_)
  · by_cases a6 : a = 6
    · subst a6; rw [wc_6, pk_un hi]
    · by_cases a9 : a = 9
      · subst a9; rw [wc_9, pk_un hi]
      · rw [wc_w _ _ _ _ (by omega) a6 a9]; exact wake_r σ o 1 1 a i ha hi
  · unfold wakeClass; rw [sF_oth _ _ _ _ hi, sA_2, sA_2, wake_G]
  · unfold wakeClass
    refine HC_setField (RG_9 (RG_A hrg (by decide) _ _) _ hz) (HC_A (HC_A (HC_wake2 h ho hd (by decide) (by decide)) (by decide) _ _) (by decide) _ _) ho (vpc (by decide)) ?_ ?_ (vp_nn hs.vp)
    · rw [sA_ne _ (by decide), sA_ne _ (by decide), wake_4, pk_us]; decide
    · rw [sA_ne _ (by decide), sA_ne _ (by decide), wake_8, pk_us]; decide
  · rw [wc_w _ _ _ _ (by decide) (by decide) (by decide), wake_8, pk_us, e1] at h8
    rw [wc_row, pk_un (by omega)]; exact h.deadrow (vp_ix ho) hk hd
  · rw [wc_row]
    by_cases e : k = 0
    · rw [e, pk_us]; exact hsw
    · rw [pk_un e, h.deadrow (vp_ix ho) hk hd]; exact Wd_0 h
  · rw [wc_w _ _ _ _ (by decide) (by decide) (by decide), wc_w _ _ _ _ (by decide) (by decide) (by decide), wake_7, wake_8, wc_row, pk_us, pk_us, pk_us]
    exact ⟨rfl, rfl, hs⟩
  · rw [wc_w _ _ _ _ (by decide) (by decide) (by decide), wake_7, pk_us] at q; exact absurd q (by decide)
theorem AX_wc (h : IN σ) (hx : AX σ) {o s z : Int32} (hd : σ.1 4 (ix o) = 0) : AX (wakeClass σ o s z) := by
  refine (AX_off hx (Off_dead h hx hd) (fun a i ha hi => ?_) (by rw [wc_ne _ _ _ _ (by decide) (by decide) (by decide)]) (fun i hi => ?_)).1
  · rw [wc_w _ _ _ _ (by omega) (by omega) (by omega)]; exact wake_r σ o 1 1 a i (by omega) hi
  · unfold wakeClass; rw [sF_oth _ _ _ _ hi, sA_2, sA_2, wake_G]
theorem sA_comm (σ : SS) {k k2 : Nat} (h : k ≠ k2) (j j2 : Nat) (x x2 : Int32) : sA (sA σ k j x) k2 j2 x2 = sA (sA σ k2 j2 x2) k j x := by
  refine Prod.ext (funext (fun a => ?_)) rfl
  by_cases e : a = k
  · subst e; rw [sA_ne _ h, sA_eq, sA_eq, sA_ne _ h]
  · by_cases e2 : a = k2
    · subst e2; rw [sA_eq, sA_ne _ e, sA_ne _ e, sA_eq]
    · rw [sA_ne _ e2, sA_ne _ e, sA_ne _ e, sA_ne _ e2]
/-- the methods' flags on both sides -/
theorem fgL_ne {n : Nat} : ∀ {k : Nat} {σ : SS} {c : Int32} {a : Nat}, a ≠ 16 → (fgL n k σ c).1 a = σ.1 a := by
  induction n with
  | zero => intro k σ c a _; rfl
  | succ n ih => intro k σ c a h; unfold fgL; rw [ih h, sA_ne σ h]
theorem fgL_2 {n : Nat} : ∀ {k : Nat} {σ : SS} {c : Int32}, (fgL n k σ c).2 = σ.2 := by
  induction n with
  | zero => intro k σ c; rfl
  | succ n ih => intro k σ c; unfold fgL; rw [ih, sA_2]
theorem Rr_flag (h : Rr σ μ) (j : Nat) (x : Int32) : Rr (sA σ 16 j x) (sA μ 9 j x) := by
  have sn : ∀ {a}, a ≠ 16 → (sA σ 16 j x).1 a = σ.1 a := fun ha => sA_ne _ ha _ _
  have mn : ∀ {a}, a ≠ 9 → (sA μ 9 j x).1 a = μ.1 a := fun ha => sA_ne _ ha _ _
  refine ⟨fun i hi => ?_, fun i hi => ?_, fun i hi li => ?_, fun j hj => ?_, ?_, ?_, ⟨fun i hi => ?_, ?_⟩⟩
  · rw [mn (by decide), sn (by decide)]; exact h.1 i hi
  · rw [mn (by decide), sn (by decide)]; exact h.2.1 i hi
  · rw [sn (by decide)] at li
    exact Rl_same (h.2.2.1 i hi li) (fun a ha => sn (by omega)) rfl (fun a ha => mn (by omega))
  · rw [mn (by decide), sn (by decide)]; exact h.2.2.2.1 j hj
  · rw [mn (by decide), sn (by decide)]; exact h.2.2.2.2.1
  · rw [mn (by decide), sn (by decide)]; exact h.2.2.2.2.2.1
  · rw [sA_eq, sA_eq]
    by_cases e : i = j
    · rw [e, pk_us, pk_us]
    · rw [pk_un e, pk_un e]; exact h.2.2.2.2.2.2.1 i hi
  · rw [mn (by decide), sA_2]; exact h.2.2.2.2.2.2.2
theorem Rr_forgetL {o : Int32} (ho : vp_in o 28) {n : Nat} : ∀ {k : Nat} {σ μ : SS}, k + n ≤ 8 → Rr σ μ → Rr (fgL n k σ o) (hasL n k μ o) := by
  induction n with
  | zero => intro k σ μ _ h; exact h
  | succ n ih =>
    intro k σ μ hk h
    unfold fgL hasL
    refine ih (by omega) ?_
    rw [(slot_eq ho (vp_k (show k < 8 by omega) (by decide))).1]
    exact Rr_flag h _ _
theorem hasL_ne {n : Nat} : ∀ {k : Nat} {σ : SS} {o : Int32} {a : Nat}, a ≠ 9 → (hasL n k σ o).1 a = σ.1 a := by
  induction n with
  | zero => intro k σ o a _; rfl
  | succ n ih => intro k σ o a h; unfold hasL; rw [ih h, sA_ne σ h]
theorem BZ_fgL {n : Nat} : ∀ {k : Nat} {σ : SS} {c : Int32}, BZ σ → BZ (fgL n k σ c) := by
  induction n with
  | zero => intro k σ c h; exact h
  | succ n ih =>
    intro k σ c h
    unfold fgL
    refine ih (fun j hj => ?_)
    rw [sA_eq]
    exact upd_P (P := fun y => y = 0 ∨ y = 1) (h j hj) (Or.inl rfl)
/-- IN looks at the methods' flags in BZ alone -/
theorem IN_flags (h : IN σ) (e : ∀ a, a ≠ 16 → τ.1 a = σ.1 a) (e2 : τ.2.1 = σ.2.1) (hb : BZ τ) : IN τ := by
  have hsup : ∀ n a, supN τ n a = supN σ n a := fun n a => (supN_eq (σ := σ) (τ := τ) (P := fun _ => True) (fun a _ => ⟨by rw [e2], trivial⟩) n a trivial).1
  refine ⟨?_, hb, ?_, ?_, ?_, ?_, ?_, ?_, ?_, ?_⟩
  · unfold RG; rw [e 7 (by decide), e 8 (by decide), e 9 (by decide), e 10 (by decide), e 13 (by decide), e2]; exact h.rg
  · unfold Za; rw [e 8 (by decide), e2]; exact h.za
  · unfold Zd; rw [e 4 (by decide), e 5 (by decide), e 6 (by decide), e 8 (by decide), e 10 (by decide)]; exact h.zd
  · unfold HC tally tal c1; rw [e 11 (by decide), e 4 (by decide), e 7 (by decide), e 8 (by decide), e 13 (by decide), e2]; exact h.hc
  · unfold F4; rw [e 4 (by decide), e 6 (by decide), e 7 (by decide), e 8 (by decide)]; exact h.f4
  · unfold CL CW Wd; rw [e 4 (by decide), e 6 (by decide), e 7 (by decide), e 13 (by decide), e2]; exact h.cl
  · unfold KC CW; rw [e 6 (by decide), e 7 (by decide), e 8 (by decide), e2]; exact h.kc
  · unfold KX KXo XN CW; rw [e 4 (by decide), e 6 (by decide), e 7 (by decide), e 8 (by decide), e 10 (by decide), e2]; exact h.kx
  · unfold SC; rw [e 6 (by decide)]; simp only [hsup]; exact h.sc
theorem AX_flags (hx : AX σ) (e : ∀ a, a ≠ 16 → τ.1 a = σ.1 a) (e2 : τ.2.1 = σ.2.1) : AX τ := by
  have hsup : ∀ n a, supN τ n a = supN σ n a := fun n a => (supN_eq (σ := σ) (τ := τ) (P := fun _ => True) (fun a _ => ⟨by rw [e2], trivial⟩) n a trivial).1
  unfold AX XN; rw [e 4 (by decide), e 7 (by decide), e 10 (by decide), e 13 (by decide)]; simp only [hsup]; exact hx
theorem s_define (h : BIG σ μ) (a s z : Int32) : Same (define σ a s z) (defineM μ a s z) := by
  unfold define defineM
  rcases hnd a with ⟨p, q⟩ | ⟨p, q, r⟩
  · rw [if_pos p, if_neg q]; exact Same.mk h
  · rw [if_neg p, if_pos q]
    rcases hnd s with ⟨p2, q2⟩ | ⟨p2, q2, r2⟩
    · rw [if_pos p2, if_neg q2]; exact Same.mk h
    · rw [if_neg p2, if_pos q2, h.hm r2]
      have hR := h.2.2.2.2.1
      have key : CN σ (rgs σ s) → ¬ isClassOrNil σ (rgs σ s) = 0 → Same (if z < 0 then (-1, σ) else if z ≤ 6 then define1 σ a s z else (-1, σ)) (def3M μ a s z) := by
        intro hcn hco
        unfold def3M
        by_cases h1 : z < 0
        · rw [if_pos h1, if_pos h1]; exact Same.mk h
        · rw [if_neg h1, if_neg h1]
          by_cases h2 : z ≤ 6
          · rw [if_pos h2, if_pos h2]
            have hz := z6 h1 h2
            unfold define1
            rw [if_neg hco]
            rcases lf_cases hR h.1 with ⟨d1, d2⟩ | ⟨d1, d2, d3, d4⟩
            · rw [if_pos d1, if_neg d2]
              unfold newClass
              rw [if_pos d1]; exact Same.mk h
            · rw [if_neg d1, if_pos d2, room_eq hR h.1]
              unfold newClass giveHandle def2M def1M forget
              rw [if_neg d1]
              have hI := IN_wc h.1 d3 d4 hcn hz
              have hI2 : IN (fgL 8 0 (wakeClass σ (leastFree σ) (rgs σ s) z) (leastFree σ)) := IN_flags hI (fun a ha => fgL_ne ha) (by rw [fgL_2]) (BZ_fgL hI.bz)
              have hA2 : AX (fgL 8 0 (wakeClass σ (leastFree σ) (rgs σ s) z) (leastFree σ)) := AX_flags (AX_wc h.1 h.2.1 d4) (fun a ha => fgL_ne ha) (by rw [fgL_2])
              have hh : hM (make1M μ (leastFree σ) 1 1 1) s = rgs σ s := by unfold hM; rw [mk1_ne _ _ _ _ _ (by decide)]; exact h.hm r2
              have hRw : Rr (wakeClass σ (leastFree σ) (rgs σ s) z) (sA (sA (make1M μ (leastFree σ) 1 1 1) 5 (ix (15 * leastFree σ)) (rgs σ s)) 8 (ix (leastFree σ)) z) := by
                rw [sA_comm _ (by decide), ix15 d3]
                unfold wakeClass
                have := Rr_field (Rr_wakeC hR h.1.za h.1.zd z d3 d4) (o := leastFree σ) (k := 0) (rgs σ s) (vpc (by decide))
                rw [i0] at this
                exact this
              rw [hh]
              refine Same.mk (BIG_settle ⟨IN_reg hI2 (h7 r) (vp_nn d3) (Or.inr ?_), AX_regh hA2 r _, ?_, Rr_regh (Rr_forgetL d3 (by omega) hRw) r _, RGm_12 ?_ _ (vp_nn d3)⟩)
              · rw [fgL_ne (by decide), wc_w _ _ _ _ (by decide) (by decide) (by decide), wake_4, pk_us]; decide
              · rw [setRegister_ne _ _ _ (by decide) (by decide), fgL_ne (by decide), wc_ne _ _ _ _ (by decide) (by decide) (by decide)]; exact h.2.2.2.1
              · exact RGm_same (RGm_8 (RGm_5 (RGm_make1 h.2.2.2.2.2 _ d3 (vpc (by decide)) (by decide)) _ (h.nn r2)) _ hz) (fun a ha => hasL_ne (by omega))
          · rw [if_neg h2, if_neg h2]; exact Same.mk h
      by_cases e0 : rgs σ s = 0
      · rw [if_pos e0]; exact key (Or.inl e0) (by unfold isClassOrNil; rw [if_pos e0]; decide)
      · rw [if_neg e0]
        rcases isClass_eq hR (h.nn r2) (h.wd r2) with ⟨c1, c2, _⟩ | ⟨c1, c2, c3⟩
        · rw [if_pos c2]
          have : isClassOrNil σ (rgs σ s) = 0 := by unfold isClassOrNil; rw [if_neg e0, if_pos c1]
          unfold define1
          rw [if_pos this]
          split
          · exact Same.mk h
          · split <;> exact Same.mk h
        · rw [if_neg c2]; exact key (Or.inr c3) (by unfold isClassOrNil; rw [if_neg e0, if_neg c1]; decide)
end NEW
