/-! new contexts, and send -/
section CXN
variable {σ τ μ : SS}
theorem Rr_equiv (h : Rr σ μ) (e : ∀ a, a ≠ 11 → τ.1 a = σ.1 a) (e2 : τ.2 = σ.2) : Rr τ μ := by
  refine ⟨fun i hi => ?_, fun i hi => ?_, fun i hi li => ?_, fun j hj => ?_, ?_, ?_, ?_⟩
  · rw [e 4 (by decide)]; exact h.1 i hi
  · rw [e 5 (by decide)]; exact h.2.1 i hi
  · rw [e 4 (by decide)] at li
    exact Rl_same (h.2.2.1 i hi li) (fun a ha => e a (by omega)) e2 (fun _ _ => rfl)
  · rw [e 13 (by decide)]; exact h.2.2.2.1 j hj
  · rw [e 13 (by decide)]; exact h.2.2.2.2.1
  · rw [e 21 (by decide)]; exact h.2.2.2.2.2.1
  · exact Rc_same h.2.2.2.2.2.2 (e 16 (by decide)) (by rw [e2]) rfl rfl
theorem upd_comm {f : Nat → Int32} {i j : Nat} {x y : Int32} (h : i ≠ j) : upd (upd f i x) j y = upd (upd f j y) i x := by
  funext k
  unfold upd
  by_cases e1 : k = j
  · rw [if_pos e1, if_neg (fun q => h (q.symm.trans e1)), if_pos e1]
  · rw [if_neg e1]
    by_cases e2 : k = i
    · rw [if_pos e2, if_pos e2]
    · rw [if_neg e2, if_neg e2, if_neg e1]
theorem upd_id {f : Nat → Int32} {i : Nat} {x : Int32} (h : f i = x) : upd f i x = f := by
  funext k
  unfold upd
  by_cases e : k = i
  · rw [if_pos e, e, h]
  · rw [if_neg e]
theorem upd_upd {f : Nat → Int32} {i : Nat} {x y : Int32} : upd (upd f i x) i y = upd f i y := by
  funext k
  unfold upd
  by_cases e : k = i
  · rw [if_pos e, if_pos e]
  · rw [if_neg e, if_neg e, if_neg e]
theorem sA_id (μ : SS) {k j : Nat} {x : Int32} (h : μ.1 k j = x) : sA μ k j x = μ := by
  refine Prod.ext (funext (fun a => ?_)) rfl
  by_cases e : a = k
  · subst e; rw [sA_eq, upd_id h]
  · rw [sA_ne _ e]
theorem cx_w (σ : SS) (o r f t : Int32) {a : Nat} (h : a ≠ 11) : (ctx σ o r f t).1 a = (wake σ o 3 15).1 a := by
  unfold ctx
  rw [setField_ne _ _ _ _ h, setField_ne _ _ _ _ h, setField_ne _ _ _ _ h, setField_ne _ _ _ _ h]
theorem cx_row (σ : SS) (o r f t : Int32) : (ctx σ o r f t).2.1 (ix o) = upd (upd (upd (upd (σ.2.1 (ix o)) 1 r) 2 f) 3 (1000 + t)) 4 1000 := by
  unfold ctx
  rw [sF_row, sF_row, sF_row, sF_row, wake_G]
  rfl
theorem cx_oth (σ : SS) (o r f t : Int32) {a : Nat} (h : a ≠ ix o) : (ctx σ o r f t).2.1 a = σ.2.1 a := by
  unfold ctx
  rw [sF_oth _ _ _ _ h, sF_oth _ _ _ _ h, sF_oth _ _ _ _ h, sF_oth _ _ _ _ h, wake_G]
/-- a row of fifteen fields that is alive -/
def R15 (σ : SS) (o : Int32) : Prop := RG σ ∧ HC σ ∧ ¬ σ.1 4 (ix o) = 0 ∧ σ.1 8 (ix o) = 15
theorem R15.step {o : Int32} (h : R15 σ o) (ho : vp_in o 28) {k w : Int32} (hk : vp_in k 15) (hw : 0 ≤ w.toInt) : R15 (setField σ o k w) o :=
  ⟨RG_setField h.1 _ _ hw, HC_setField h.1 h.2.1 ho hk h.2.2.1 (by rw [h.2.2.2, show ix (15 : Int32) = 15 by decide]; exact vp_ix hk) hw, by rw [setField_ne _ _ _ _ (by decide)]; exact h.2.2.1, by rw [setField_ne _ _ _ _ (by decide)]; exact h.2.2.2⟩
theorem t1000 {t : Int32} (ht : vp_in t 8) : ∃ j, j < 8 ∧ 1000 + t = nI (1000 + j) := by
  obtain ⟨j, hj, rfl⟩ := vp_in_of ht (by decide)
  exact ⟨j, hj, by rw [show (1000 : Int32) = nI 1000 from rfl, nI_add]⟩
theorem wd_num {n : Nat} (h : 28 ≤ n) (h2 : n < 2 ^ 31) : Wd σ (nI n) := Or.inl (by rw [nI_toInt h2]; omega)
theorem cx_R15 (h : IN σ) {o r f t : Int32} (ho : vp_in o 28) (hd : σ.1 4 (ix o) = 0) (hr : 0 ≤ r.toInt) (hf : vp_in f 28) (ht : vp_in t 8) : R15 (ctx σ o r f t) o := by
  have h0 : R15 (wake σ o 3 15) o := ⟨RG_ctx0 h.rg o, HC_wake2 h ho hd (by decide) (by decide), by rw [wake_4, pk_us]; decide, by rw [wake_8, pk_us]⟩
  unfold ctx
  exact (((h0.step ho (vpc (by decide)) hr).step ho (vpc (by decide)) (vp_nn hf)).step ho (vpc (by decide)) (k1000 ht)).step ho (vpc (by decide)) (by decide)
theorem IN_cx (h : IN σ) {o r f t : Int32} (ho : vp_in o 28) (hd : σ.1 4 (ix o) = 0) (hr : 0 ≤ r.toInt) (hrw : Wd σ r) (hf : CW σ f) (ht : vp_in t 8) : IN (ctx σ o r f t) ∧ Ctx (ctx σ o r f t) o ∧ dpt (ctx σ o r f t) o = 0 := by
  have h15 := cx_R15 h ho hd hr hf.1 ht
  have hz := h.zd _ (vp_ix ho) hd
  have hrow : ∀ k, k < 15 → σ.2.1 (ix o) k = 0 := fun k hk => h.deadrow (vp_ix ho) hk hd
  obtain ⟨tj, htj, et⟩ := t1000 ht
  have c3 : CW σ 3 := ⟨vp_28 (by decide) (by decide), h.f4.2.2.2 3 (by omega) (by omega)⟩
  have e7 : (ctx σ o r f t).1 7 (ix o) = 3 := by rw [cx_w _ _ _ _ _ (by decide), wake_7, pk_us]
  have e10 : (ctx σ o r f t).1 10 (ix o) = 0 := by rw [ctx_ne _ _ _ _ _ (by decide)]; exact hz.2.2.2
  have hw : ∀ k, k < 15 → Wd σ ((ctx σ o r f t).2.1 (ix o) k) := fun k hk => by
    rw [cx_row]
    by_cases k4 : k = 4
    · rw [k4, pk_us]; exact wd_num (n := 1000) (by omega) (by omega)
    · rw [pk_un k4]
      by_cases k3 : k = 3
      · rw [k3, pk_us, et]; exact wd_num (by omega) (by omega)
      · rw [pk_un k3]
        by_cases k2 : k = 2
        · rw [k2, pk_us]; exact Or.inr (h.cl4 (vp_ix hf.1) hf.2)
        · rw [pk_un k2]
          by_cases k1 : k = 1
          · rw [k1, pk_us]; exact hrw
          · rw [pk_un k1, hrow k hk]; exact Wd_0 h
  refine ⟨IN_new h (vp_ix ho) hd (fun a i ha hi => by rw [cx_w _ _ _ _ _ (by omega)]; exact wake_r σ o 3 15 a i ha hi) (ctx_ne _ _ _ _ _ (by decide)) (fun i hi => cx_oth _ _ _ _ _ hi) h15.2.2.1 (by rw [e7]; exact c3) h15.1 (BZ_eq16 h.bz (ctx_ne _ _ _ _ _ (by decide))) h15.2.1 (fun k hk h8 => ?_) hw (fun q => ?_) (fun _ => ?_), ⟨ho, h15.2.2.1, e7⟩, by unfold dpt; rw [e10]; exact i0⟩
  · rw [h15.2.2.2, show ix (15 : Int32) = 15 by decide] at h8; omega
  · rw [ctx_ne _ _ _ _ _ (by decide)] at q; exact absurd hz.2.1 q
  · rw [cx_row]
    refine ⟨h15.2.2.2, ?_, ?_, ⟨tj, htj, ?_⟩, ⟨0, by omega, ?_⟩, fun j hj _ => ?_⟩
    · rw [pk_un (by decide), pk_un (by decide), pk_un (by decide), pk_un (by decide), hrow 0 (by omega)]; exact Or.inl rfl
    · rw [pk_un (by decide), pk_un (by decide), pk_us]; exact hf
    · rw [pk_un (by decide), pk_us, et]
    · rw [pk_us]; rfl
    · rw [pk_un (by omega), pk_un (by omega), pk_un (by omega), pk_un (by omega), hrow _ (by omega)]
theorem AX_cx (h : IN σ) (hx : AX σ) {o r f t : Int32} (hd : σ.1 4 (ix o) = 0) : AX (ctx σ o r f t) ∧ Off (ctx σ o r f t) (ix o) :=
  AX_off hx (Off_dead h hx hd) (fun a i ha hi => by rw [cx_w _ _ _ _ _ (by omega)]; exact wake_r σ o 3 15 a i (by omega) hi) (by rw [ctx_ne _ _ _ _ _ (by decide)]) (fun i hi => by rw [cx_oth _ _ _ _ _ hi])
/-- the reference's new context, its sender still nil -/
theorem Rr_cx (h : Rr σ μ) (hi : IN σ) {o r f t : Int32} (ho : vp_in o 28) (hd : σ.1 4 (ix o) = 0) : Rr (ctx σ o r f t) (ctx1M μ o 0 r f t) := by
  have k := Rr_wake h hi.za hi.zd (o := o) (c := 3) 15 2 ho hd (by decide)
  unfold ctx1M ctx
  rw [sA_id (make1M μ o 2 3 15) (show (make1M μ o 2 3 15).1 5 (ix (15 * o)) = 0 by rw [mk1_5 μ ho, ix15 ho, if_pos (by omega)])]
  exact Rr_tmp (k := 4) (Rr_tmp (k := 3) (Rr_tmp (k := 2) (Rr_tmp (k := 1) k ho (by omega) _) ho (by omega) _) ho (by omega) _) ho (by omega) _
theorem RGm_cx (h : RGm μ) {o s r f t : Int32} (ho : vp_in o 28) (hs : 0 ≤ s.toInt) (hr : 0 ≤ r.toInt) (hf : 0 ≤ f.toInt) (ht : vp_in t 8) : RGm (ctx1M μ o s r f t) := by
  unfold ctx1M
  exact RGm_5 (RGm_5 (RGm_5 (RGm_5 (RGm_5 (RGm_make1 h _ ho (vpc (by decide)) (by decide)) _ hs) _ hr) _ hf) _ (k1000 ht)) _ (by decide)
/-- a context becomes active that nothing waits behind but what is behind its sender -/
theorem AX_new {o : Int32} (h : IN σ) (ho : Ctx σ o) (hsn : ∀ n, supN σ (n + 1) o ≠ o) (hr : ∀ i j, i < j → ¬ supN σ (i + 1) o = 0 → supN σ (i + 1) o ≠ supN σ (j + 1) o) (hp : ∀ j, ¬ supN σ (j + 1) o = 0 → (σ.1 10 (ix (supN σ (j + 1) o))).toInt ≤ 5) : AX (setRegister σ 6 o) := by
  have hsup : ∀ n a, supN (setRegister σ 6 o) n a = supN σ n a := fun n a => (supN_eq (σ := σ) (τ := setRegister σ 6 o) (P := fun _ => True) (fun a _ => ⟨by rw [setRegister_G], trivial⟩) n a trivial).1
  unfold AX XN
  rw [setRegister_13, show ix (6 : Int32) = 6 by decide, pk_us, setRegister_ne _ _ _ (show (4 : Nat) ≠ 11 by decide) (by decide), setRegister_ne _ _ _ (show (7 : Nat) ≠ 11 by decide) (by decide), setRegister_ne _ _ _ (show (10 : Nat) ≠ 11 by decide) (by decide)]
  simp only [hsup]
  refine ⟨Or.inr ho, fun i j hij hi => ?_, fun j hj hz => ?_⟩
  · cases i with
    | zero =>
      obtain ⟨k, rfl⟩ : ∃ k, j = k + 1 := ⟨j - 1, by omega⟩
      exact fun q => hsn k q.symm
    | succ i =>
      obtain ⟨k, rfl⟩ : ∃ k, j = k + 1 := ⟨j - 1, by omega⟩
      exact hr i k (by omega) hi
  · obtain ⟨k, rfl⟩ : ∃ k, j = k + 1 := ⟨j - 1, by omega⟩
    exact hp k hz
theorem AX_fresh {o : Int32} (h : IN σ) (ho : Ctx σ o) (hs : σ.2.1 (ix o) 0 = 0) (h4 : ¬ o = 0) : AX (setRegister σ 6 o) := by
  have hz : ∀ n, supN σ (n + 1) o = 0 := fun n => by rw [supN_s, hs]; exact supN_0 (h.n0 (by omega)) n
  exact AX_new h ho (fun n q => h4 (q.symm.trans (hz n))) (fun i j _ q => absurd (hz i) q) (fun j q => absurd (hz j) q)
/-! send: the arguments -/
theorem tmp_idx {k : Nat} : 5 + nI k = nI (5 + k) := by rw [show (5 : Int32) = nI 5 from rfl, nI_add]
theorem args3 {t : Int32} (ht : vp_in t 8) : ∃ m, m ≤ 2 ∧ argumentsOf t = nI m := by
  obtain ⟨j, hj, rfl⟩ := vp_in_of ht (by decide)
  unfold argumentsOf
  rw [show (3 : Int32) = nI 3 from rfl, pk_rem (by omega) (by omega) (by omega)]
  exact ⟨j % 3, by omega, rfl⟩
theorem argh {h : Int32} (hh : vp_in h 6) {k : Nat} (hk : k < 2) : vp_in (h + 1 + nI k - (h + 1 + nI k) / 6 * 6) 6 := by
  obtain ⟨j, hj, rfl⟩ := vp_in_of hh (by decide)
  rw [show (1 : Int32) = nI 1 from rfl, show (6 : Int32) = nI 6 from rfl, nI_add, nI_add, pk_rem (by omega) (by omega) (by omega)]
  exact vp_k (by omega) (by decide)
theorem w10 {c : Int32} (hc : vp_in c 28) {k : Nat} (hk : 5 + k < 15) : ix (15 * c + 5 + nI k) = 15 * ix c + (5 + k) := by
  rw [Int32.add_assoc, tmp_idx, ixa hc hk]
/-- while the arguments are laid into a new context -/
def NEWC (σ μ : SS) (o : Int32) : Prop := IN σ ∧ Ctx σ o ∧ dpt σ o = 0 ∧ Rr σ μ ∧ RGm μ
theorem NEWC_tmp {o w : Int32} {k : Nat} (h : NEWC σ μ o) (hk : 5 ≤ k) (hk2 : k < 9) (h0 : 0 ≤ w.toInt) (hw : Wd σ w) : NEWC (setField σ o (nI k) w) (sA μ 5 (15 * ix o + k) w) o := by
  refine ⟨IN_tmp h.1 h.2.1 (by omega) hk2 h0 hw (fun q => by omega), ⟨h.2.1.1, ?_, ?_⟩, ?_, ?_, RGm_5 h.2.2.2.2 _ h0⟩
  · rw [setField_ne _ _ _ _ (by decide)]; exact h.2.1.2.1
  · rw [setField_ne _ _ _ _ (by decide)]; exact h.2.1.2.2
  · unfold dpt; rw [setField_ne _ _ _ _ (by decide)]; exact h.2.2.1
  · rw [← ixa h.2.1.1 (show k < 15 by omega)]; exact Rr_tmp h.2.2.2.1 h.2.1.1 (by omega) w
theorem staL_spec {o h : Int32} (hh : vp_in h 6) {n : Nat} : ∀ {k : Nat} {σ μ : SS}, k + n ≤ 2 → NEWC σ μ o → NEWC (staL n k σ o h) (argL n k μ o h) o ∧ (∀ a, a ≠ 11 → (staL n k σ o h).1 a = σ.1 a) ∧ (∀ i, (staL n k σ o h).2.1 i 0 = σ.2.1 i 0) ∧ (∀ a, a ≠ 5 → (argL n k μ o h).1 a = μ.1 a) := by
  induction n with
  | zero => intro k σ μ _ hN; exact ⟨hN, fun _ _ => rfl, fun _ => rfl, fun _ _ => rfl⟩
  | succ n ih =>
    intro k σ μ hk hN
    unfold staL argL
    have ha := argh hh (k := k) (by omega)
    have e1 : hM μ (h + 1 + nI k - (h + 1 + nI k) / 6 * 6) = σ.1 13 (ix (h + 1 + nI k - (h + 1 + nI k) / 6 * 6)) := hN.2.2.2.1.2.2.2.1 _ (vp_ix ha)
    rw [tmp_idx, w10 hN.2.1.1 (by omega), e1]
    obtain ⟨b1, b2, b3, b4⟩ := ih (k := k + 1) (by omega) (NEWC_tmp (k := 5 + k) hN (by omega) (by omega) (hN.1.rg.reg (h7 ha)) (hN.1.cl.2.2 _ (vp_ix (h7 ha))))
    refine ⟨b1, fun a ha => (b2 a ha).trans (setField_ne _ _ _ _ ha), fun i => (b3 i).trans ?_, fun a ha => (b4 a ha).trans (sA_ne _ ha _ _)⟩
    by_cases e : i = ix o
    · rw [e, sF_row, ix_nI (by omega), pk_un (by omega)]
    · rw [sF_oth _ _ _ _ e]
theorem argL_act {n : Nat} : ∀ {k : Nat} {μ : SS} {o h w : Int32}, argL n k (sA μ 20 0 w) o h = sA (argL n k μ o h) 20 0 w := by
  induction n with
  | zero => intro k μ o h w; rfl
  | succ n ih =>
    intro k μ o h w
    unfold argL
    rw [show hM (sA μ 20 0 w) (h + 1 + nI k - (h + 1 + nI k) / 6 * 6) = hM μ (h + 1 + nI k - (h + 1 + nI k) / 6 * 6) from by unfold hM; rw [sA_ne _ (by decide)], sA_comm _ (by decide), ih]
theorem lf_4 (h : IN σ) (hd : σ.1 4 (ix (leastFree σ)) = 0) : ¬ leastFree σ = 0 := fun q => by rw [q, i0] at hd; exact h.l0 hd
theorem s_send (h : BIG σ μ) (a t : Int32) : Same (send σ a t) (sendM μ a t) := by
  have hR := h.2.2.2.2.1
  unfold send sendM
  by_cases e : σ.1 13 6 = 0
  · rw [if_pos ((cond_0 σ).mpr e), if_pos (hR.2.2.2.2.1.trans e)]
    rcases hnd a with ⟨p, q⟩ | ⟨p, q, r⟩
    · rw [if_pos p, if_neg q]; exact Same.mk h
    · rw [if_neg p, if_pos q]
      rcases sel t with ⟨p2, q2⟩ | ⟨p2, q2, r2⟩
      · rw [if_pos p2, if_neg q2]; exact Same.mk h
      · rw [if_neg p2, if_pos q2, h.hm r, classOfWord_eq hR (h.nn r) (h.wd r)]
        have hf := found_eq hR h.1 r2 (Or.inr (classOfWord_CW h.1 (h.nn r) (h.wd r)))
        rw [hf.1]
        unfold start start1 sendM1
        show Same (if find σ (classOfWord σ (rgs σ a)) t = 0 then _ else _) _
        by_cases f0 : find σ (classOfWord σ (rgs σ a)) t = 0
        · rw [if_pos f0, if_pos f0]; exact Same.mk h
        · rw [if_neg f0, if_neg f0]
          have hfw := hf.2.resolve_left f0
          rcases lf_cases hR h.1 with ⟨d1, d2⟩ | ⟨d1, d2, d3, d4⟩
          · rw [if_pos d1, if_neg d2]
            unfold newContext
            rw [if_pos d1]; exact Same.mk h
          · rw [if_neg d1, if_pos d2, room_eq hR h.1, h.hm r]
            unfold newContext sta2 contextM
            rw [if_neg d1, argL_act]
            obtain ⟨m, hm, em⟩ := args3 r2
            rw [em, ix_nI (by omega)]
            have hI := IN_cx h.1 d3 d4 (h.nn r) (h.wd r) hfw r2
            have hN : NEWC (ctx σ (leastFree σ) (rgs σ a) (find σ (classOfWord σ (rgs σ a)) t) t) (ctx1M μ (leastFree σ) 0 (rgs σ a) (find σ (classOfWord σ (rgs σ a)) t) t) (leastFree σ) :=
              ⟨hI.1, hI.2.1, hI.2.2, Rr_cx hR h.1 d3 d4, RGm_cx h.2.2.2.2.2 d3 (by decide) (h.nn r) (vp_nn hfw.1) r2⟩
            obtain ⟨b1, b2, b3, b4⟩ := staL_spec r (n := m) (k := 0) (by omega) hN
            have hsz : (staL m 0 (ctx σ (leastFree σ) (rgs σ a) (find σ (classOfWord σ (rgs σ a)) t) t) (leastFree σ) a).2.1 (ix (leastFree σ)) 0 = 0 := by
              rw [b3, cx_row, pk_un (by decide), pk_un (by decide), pk_un (by decide), pk_un (by decide)]; exact h.1.deadrow (vp_ix d3) (by omega) d4
            refine Same.mk (BIG_settle ⟨IN_reg b1.1 (vpc (by decide)) (vp_nn d3) (Or.inr b1.2.1.2.1), AX_fresh b1.1 b1.2.1 hsz (lf_4 h.1 d4), ?_, Rr_act b1.2.2.2.1 _, RGm_20 b1.2.2.2.2 d3⟩)
            rw [setRegister_ne _ _ _ (by decide) (by decide), b2 21 (by decide), ctx_ne _ _ _ _ _ (by decide)]; exact h.2.2.2.1
  · rw [if_neg (fun q => e ((cond_0 σ).mp q)), if_neg (fun q => e (hR.2.2.2.2.1.symm.trans q))]; exact Same.mk h
end CXN
