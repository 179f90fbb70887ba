/-! both sides after a call -/
def BIG (σ μ : SS) : Prop := IN σ ∧ AX σ ∧ SE σ ∧ 0 ≤ (σ.1 21 0).toInt ∧ Rr σ μ ∧ RGm μ
/-- before the settling that ends a step -/
def PRE (σ μ : SS) : Prop := IN σ ∧ AX σ ∧ 0 ≤ (σ.1 21 0).toInt ∧ Rr σ μ ∧ RGm μ
theorem RGm_settle {μ : SS} (h : RGm μ) : RGm (settleM μ) := RGm_same (settleM_SbM h).2.1 (fun a ha => settleM_ne μ (by omega))
theorem settle_21 {σ : SS} (h : IN σ) : (settle σ).1 21 = σ.1 21 := by
  rw [settle_ne σ (by decide), (settle_Sbt h.rg h.za h.hc h.l0).1.2.1 21 (by decide)]
theorem BIG_settle {σ μ : SS} (h : PRE σ μ) : BIG (settle σ) (settleM μ) :=
  ⟨IN_settle h.1, AX_settle h.1 h.2.1, SE_settle h.1, by rw [settle_21 h.1]; exact h.2.2.1, Rr_settle h.2.2.2.1 h.1.rg h.1.za h.1.zd h.1.hc h.1.l0 h.2.2.2.2, RGm_settle h.2.2.2.2⟩
theorem BIG.pre {σ μ : SS} (h : BIG σ μ) : PRE σ μ := ⟨h.1, h.2.1, h.2.2.2.1, h.2.2.2.2.1, h.2.2.2.2.2⟩
theorem IN_reg {σ : SS} (h : IN σ) {r w : Int32} (hr : vp_in r 7) (h0 : 0 ≤ w.toInt) (hw : Wd σ w) : IN (setRegister σ r w) := by
  have sn : ∀ {a}, a ≠ 11 → a ≠ 13 → (setRegister σ r w).1 a = σ.1 a := fun h1 h2 => setRegister_ne _ _ _ h1 h2
  have s4 := sn (show (4 : Nat) ≠ 11 by decide) (by decide)
  have s6 := sn (show (6 : Nat) ≠ 11 by decide) (by decide)
  have s7 := sn (show (7 : Nat) ≠ 11 by decide) (by decide)
  have s8 := sn (show (8 : Nat) ≠ 11 by decide) (by decide)
  have s10 := sn (show (10 : Nat) ≠ 11 by decide) (by decide)
  have hsup : ∀ n a, supN (setRegister σ r w) n a = supN σ n a := fun n a => (supN_eq (σ := σ) (τ := setRegister σ r w) (P := fun _ => True) (fun a _ => ⟨by rw [setRegister_G], trivial⟩) n a trivial).1
  refine ⟨RG_setRegister h.rg _ h0, ?_, ?_, ?_, HC_setRegister h.rg h.hc hr h0, ?_, ⟨?_, ?_, fun j hj => ?_⟩, ?_, ?_, ?_⟩
  · unfold BZ; rw [sn (by decide) (by decide)]; exact h.bz
  · unfold Za; rw [s8, setRegister_G]; exact h.za
  · unfold Zd; rw [s4, s6, s8, s10, sn (show (5 : Nat) ≠ 11 by decide) (by decide)]; exact h.zd
  · unfold F4; rw [s4, s6, s7, s8]; exact h.f4
  · unfold CW; rw [s4, s6, s7]; exact h.cl.1
  · unfold Wd; rw [s4, setRegister_G]; exact h.cl.2.1
  · unfold Wd; rw [s4, setRegister_13]
    by_cases e : j = ix r
    · rw [e, pk_us]; exact hw
    · rw [pk_un e]; exact h.cl.2.2 j hj
  · unfold KC CW; rw [s6, s7, s8, setRegister_G]; exact h.kc
  · unfold KX KXo XN CW; rw [s4, s6, s7, s8, s10, setRegister_G]; exact h.kx
  · unfold SC; rw [s6]; simp only [hsup]; exact h.sc
theorem AX_regh {σ : SS} (hx : AX σ) {r : Int32} (hr : vp_in r 6) (w : Int32) : AX (setRegister σ r w) := by
  have hsup : ∀ n a, supN (setRegister σ r w) n a = supN σ n a := fun n a => (supN_eq (σ := σ) (τ := setRegister σ r w) (P := fun _ => True) (fun a _ => ⟨by rw [setRegister_G], trivial⟩) n a trivial).1
  have h6 := vp_ix hr
  unfold AX XN
  rw [setRegister_13, pk_un (by omega), setRegister_ne _ _ _ (show (4 : Nat) ≠ 11 by decide) (by decide), setRegister_ne _ _ _ (show (7 : Nat) ≠ 11 by decide) (by decide), setRegister_ne _ _ _ (show (10 : Nat) ≠ 11 by decide) (by decide)]
  simp only [hsup]
  exact hx
theorem RGm_12 {μ : SS} (h : RGm μ) (j : Nat) {w : Int32} (hw : 0 ≤ w.toInt) : RGm (sA μ 12 j w) := by
  obtain ⟨h1, h2, h3, h4, h5, h6, h7⟩ := h
  unfold RGm
  rw [sA_ne _ (show (3 : Nat) ≠ 12 by decide), sA_ne _ (show (4 : Nat) ≠ 12 by decide), sA_ne _ (show (5 : Nat) ≠ 12 by decide), sA_ne _ (show (8 : Nat) ≠ 12 by decide), sA_ne _ (show (11 : Nat) ≠ 12 by decide), sA_ne _ (show (20 : Nat) ≠ 12 by decide), sA_eq]
  exact ⟨h1, fun i hi => upd_P (P := fun y => 0 ≤ y.toInt) (h2 i hi) hw, h3, h4, h5, h6, h7⟩
theorem RGm_5 {μ : SS} (h : RGm μ) (j : Nat) {w : Int32} (hw : 0 ≤ w.toInt) : RGm (sA μ 5 j w) := by
  obtain ⟨h1, h2, h3, h4, h5, h6, h7⟩ := h
  unfold RGm
  rw [sA_ne _ (show (3 : Nat) ≠ 5 by decide), sA_ne _ (show (4 : Nat) ≠ 5 by decide), sA_ne _ (show (12 : Nat) ≠ 5 by decide), sA_ne _ (show (8 : Nat) ≠ 5 by decide), sA_ne _ (show (11 : Nat) ≠ 5 by decide), sA_ne _ (show (20 : Nat) ≠ 5 by decide), sA_eq]
  exact ⟨fun i hi => upd_P (P := fun y => 0 ≤ y.toInt) (h1 i hi) hw, h2, h3, h4, h5, h6, h7⟩
theorem RGm_8 {μ : SS} (h : RGm μ) (j : Nat) {w : Int32} (hw : 0 ≤ w.toInt ∧ w.toInt ≤ 6) : RGm (sA μ 8 j w) := by
  obtain ⟨h1, h2, h3, h4, h5, h6, h7⟩ := h
  unfold RGm
  rw [sA_ne _ (show (3 : Nat) ≠ 8 by decide), sA_ne _ (show (4 : Nat) ≠ 8 by decide), sA_ne _ (show (12 : Nat) ≠ 8 by decide), sA_ne _ (show (5 : Nat) ≠ 8 by decide), sA_ne _ (show (11 : Nat) ≠ 8 by decide), sA_ne _ (show (20 : Nat) ≠ 8 by decide), sA_eq]
  exact ⟨h1, h2, h3, h4, fun i hi => upd_P (P := fun y => 0 ≤ y.toInt ∧ y.toInt ≤ 6) (h5 i hi) hw, h6, h7⟩
theorem RGm_11 {μ : SS} (h : RGm μ) (j : Nat) {w : Int32} (hw : 0 ≤ w.toInt ∧ w.toInt ≤ 6) : RGm (sA μ 11 j w) := by
  obtain ⟨h1, h2, h3, h4, h5, h6, h7⟩ := h
  unfold RGm
  rw [sA_ne _ (show (3 : Nat) ≠ 11 by decide), sA_ne _ (show (4 : Nat) ≠ 11 by decide), sA_ne _ (show (12 : Nat) ≠ 11 by decide), sA_ne _ (show (5 : Nat) ≠ 11 by decide), sA_ne _ (show (8 : Nat) ≠ 11 by decide), sA_ne _ (show (20 : Nat) ≠ 11 by decide), sA_eq]
  exact ⟨h1, h2, h3, h4, h5, fun i hi => upd_P (P := fun y => 0 ≤ y.toInt ∧ y.toInt ≤ 6) (h6 i hi) hw, h7⟩
theorem RGm_20 {μ : SS} (h : RGm μ) {w : Int32} (hw : vp_in w 28) : RGm (sA μ 20 0 w) := by
  obtain ⟨h1, h2, h3, h4, h5, h6, h7⟩ := h
  unfold RGm
  rw [sA_ne _ (show (3 : Nat) ≠ 20 by decide), sA_ne _ (show (4 : Nat) ≠ 20 by decide), sA_ne _ (show (12 : Nat) ≠ 20 by decide), sA_ne _ (show (5 : Nat) ≠ 20 by decide), sA_ne _ (show (8 : Nat) ≠ 20 by decide), sA_ne _ (show (11 : Nat) ≠ 20 by decide), sA_eq]
  exact ⟨h1, h2, h3, h4, h5, h6, by rw [pk_us]; exact hw⟩
theorem RGm_A {μ : SS} (h : RGm μ) {k : Nat} (hk : k ≠ 3 ∧ k ≠ 4 ∧ k ≠ 5 ∧ k ≠ 8 ∧ k ≠ 11 ∧ k ≠ 12 ∧ k ≠ 20) (j : Nat) (x : Int32) : RGm (sA μ k j x) := RGm_same h (fun a ha => sA_ne _ (by omega) _ _)
theorem RGm_make1 {μ : SS} (h : RGm μ) {o c f : Int32} (s : Int32) (ho : vp_in o 28) (hc : vp_in c 28) (hf : 0 ≤ f.toInt ∧ f.toInt ≤ 15) : RGm (make1M μ o s c f) := by
  obtain ⟨h1, h2, h3, h4, h5, h6, h7⟩ := h
  unfold RGm
  rw [mk1_3, mk1_4, mk1_11, mk1_ne _ _ _ _ _ (show 12 ≠ 1 ∧ 12 ≠ 2 ∧ 12 ≠ 3 ∧ 12 ≠ 4 ∧ 12 ≠ 5 ∧ 12 ≠ 6 ∧ 12 ≠ 11 by decide), mk1_ne _ _ _ _ _ (show 8 ≠ 1 ∧ 8 ≠ 2 ∧ 8 ≠ 3 ∧ 8 ≠ 4 ∧ 8 ≠ 5 ∧ 8 ≠ 6 ∧ 8 ≠ 11 by decide), mk1_ne _ _ _ _ _ (show 20 ≠ 1 ∧ 20 ≠ 2 ∧ 20 ≠ 3 ∧ 20 ≠ 4 ∧ 20 ≠ 5 ∧ 20 ≠ 6 ∧ 20 ≠ 11 by decide)]
  refine ⟨fun j hj => ?_, h2, fun i hi => upd_P (P := fun y => 0 ≤ y.toInt ∧ y.toInt < 28) (h3 i hi) (vp_in_iff.mp hc), fun i hi => upd_P (P := fun y => 0 ≤ y.toInt ∧ y.toInt ≤ 15) (h4 i hi) hf, h5, fun i hi => upd_P (P := fun y => 0 ≤ y.toInt ∧ y.toInt ≤ 6) (h6 i hi) (by decide), h7⟩
  rw [mk1_5 μ ho]
  split
  · decide
  · exact h1 j hj
/-- a handle gets a word -/
theorem BIG_put {σ μ : SS} (h : BIG σ μ) {r w : Int32} (hr : vp_in r 6) (h0 : 0 ≤ w.toInt) (hw : Wd σ w) : BIG (giveHandle σ r w) (putM μ r w) := by
  unfold giveHandle putM
  refine BIG_settle ⟨IN_reg h.1 (h7 hr) h0 hw, AX_regh h.2.1 hr w, ?_, Rr_regh h.2.2.2.2.1 hr w, RGm_12 h.2.2.2.2.2 _ h0⟩
  rw [setRegister_ne _ _ _ (by decide) (by decide)]
  exact h.2.2.2.1
section CALLS
variable {σ μ : SS}
theorem BIG.hm (h : BIG σ μ) {r : Int32} (hr : vp_in r 6) : hM μ r = rgs σ r := h.2.2.2.2.1.2.2.2.1 _ (vp_ix hr)
theorem BIG.nn (h : BIG σ μ) {r : Int32} (hr : vp_in r 6) : 0 ≤ (rgs σ r).toInt := h.1.rg.reg (h7 hr)
theorem BIG.wd (h : BIG σ μ) {r : Int32} (hr : vp_in r 6) : Wd σ (rgs σ r) := h.1.cl.2.2 _ (vp_ix (h7 hr))
theorem Wd_0 (h : IN σ) : Wd σ 0 := Or.inr (by rw [i0]; exact h.l0)
/-- what a call must do: the same answer, and the two sides alike -/
def Same (c m : RS) : Prop := c.1 = m.1 ∧ BIG c.2 m.2
theorem Same.mk {r : Int32} {a b : SS} (h : BIG a b) : Same (r, a) (r, b) := ⟨rfl, h⟩
theorem s_move (h : BIG σ μ) (a g : Int32) : Same (move σ a g) (moveM μ a g) := by
  unfold move moveM
  rcases hnd a with ⟨p, q⟩ | ⟨p, q, r⟩
  · rw [if_pos p, if_neg q]; exact Same.mk h
  · rw [if_neg p, if_pos q]
    rcases hnd g with ⟨p2, q2⟩ | ⟨p2, q2, r2⟩
    · rw [if_pos p2, if_neg q2]; exact Same.mk h
    · rw [if_neg p2, if_pos q2, h.hm r2]; exact Same.mk (BIG_put h r (h.nn r2) (h.wd r2))
theorem s_drop (h : BIG σ μ) (a : Int32) : Same (drop σ a) (dropM μ a) := by
  unfold drop dropM
  rcases hnd a with ⟨p, q⟩ | ⟨p, q, r⟩
  · rw [if_pos p, if_neg q]; exact Same.mk h
  · rw [if_neg p, if_pos q]; exact Same.mk (BIG_put h r (by decide) (Wd_0 h.1))
theorem s_number (h : BIG σ μ) (a v : Int32) : Same (number σ a v) (numberM μ a v) := by
  unfold number numberM
  rcases hnd a with ⟨p, q⟩ | ⟨p, q, r⟩
  · rw [if_pos p, if_neg q]; exact Same.mk h
  · rw [if_neg p, if_pos q]
    by_cases h1 : v < -512
    · rw [if_pos h1, if_pos h1]; exact Same.mk h
    · rw [if_neg h1, if_neg h1]
      by_cases h2 : v ≤ 511
      · rw [if_pos h2, if_pos h2]
        have h3 : (1000 + v).toInt = 1000 + v.toInt := by
          rw [Int32.lt_iff_toInt_lt, show (-512 : Int32).toInt = -512 from rfl] at h1
          rw [Int32.le_iff_toInt_le, show (511 : Int32).toInt = 511 from rfl] at h2
          rw [Int32.toInt_add, show (1000 : Int32).toInt = 1000 from rfl, Int.bmod_eq_of_le] <;> omega
        refine Same.mk (BIG_put h r (num_nn h1 h2) (Or.inl ?_))
        rw [Int32.lt_iff_toInt_lt, show (-512 : Int32).toInt = -512 from rfl] at h1
        omega
      · rw [if_neg h2, if_neg h2]; exact Same.mk h
theorem s_kind (h : BIG σ μ) (a g : Int32) : Same (kind σ a g) (kindM μ a g) := by
  unfold kind kindM
  rcases hnd a with ⟨p, q⟩ | ⟨p, q, r⟩
  · rw [if_pos p, if_neg q]; exact Same.mk h
  · rw [if_neg p, if_pos q]
    rcases hnd g with ⟨p2, q2⟩ | ⟨p2, q2, r2⟩
    · rw [if_pos p2, if_neg q2]; exact Same.mk h
    · rw [if_neg p2, if_pos q2, h.hm r2, classOfWord_eq h.2.2.2.2.1 (h.nn r2) (h.wd r2)]
      have hc := classOfWord_CW h.1 (h.nn r2) (h.wd r2)
      exact Same.mk (BIG_put h r (vp_nn hc.1) (Or.inr (h.1.cl4 (vp_ix hc.1) hc.2)))
theorem hasField_in (hi : IN σ) {w k : Int32} (hf : ¬ hasField σ w k = 0) : vp_in w 28 ∧ vp_in k 15 ∧ ¬ σ.1 4 (ix w) = 0 ∧ ix k < ix (σ.1 8 (ix w)) := by
  obtain ⟨a1, a2, a3⟩ := hf_alive hf
  have hv := hf_o hf
  refine ⟨hv, hf_k hi.rg hf, fun q => a1 ?_, ?_⟩
  · unfold isAlive
    by_cases z : isObject w = 0
    · rw [if_pos z]
    · rw [if_neg z, if_pos q]
  · rw [ilt0] at a2
    rw [Int32.le_iff_toInt_le] at a3
    have h8 := (hi.rg.2.2.2.1 _ (vp_ix hv)).1
    have b1 := ix_toInt (w := k) (by omega)
    have b2 := ix_toInt h8
    omega
theorem wordM_eq (h : Rr σ μ) {w k : Int32} (hw : vp_in w 28) (hk : vp_in k 15) (hl : ¬ σ.1 4 (ix w) = 0) : μ.1 5 (ix (15 * w + k)) = σ.2.1 (ix w) (ix k) ∧ ix (15 * w + k) = 15 * ix w + ix k := by
  obtain ⟨j, hj, rfl⟩ := vp_in_of hk (by decide)
  rw [ixa hw hj, ix_nI (by omega)]
  exact ⟨(h.2.2.1 _ (vp_ix hw) hl).2.2.1 j hj, rfl⟩
theorem s_fetch (h : BIG σ μ) (a g k : Int32) : Same (fetch σ a g k) (fetchM μ a g k) := by
  unfold fetch fetchM
  rcases hnd a with ⟨p, q⟩ | ⟨p, q, r⟩
  · rw [if_pos p, if_neg q]; exact Same.mk h
  · rw [if_neg p, if_pos q]
    rcases hnd g with ⟨p2, q2⟩ | ⟨p2, q2, r2⟩
    · rw [if_pos p2, if_neg q2]; exact Same.mk h
    · rw [if_neg p2, if_pos q2, h.hm r2, hasField_eq h.2.2.2.2.1 k (h.nn r2) (h.wd r2)]
      by_cases e : hasField σ (rgs σ g) k = 0
      · rw [if_pos e, if_pos e]; exact Same.mk h
      · rw [if_neg e, if_neg e]
        obtain ⟨b1, b2, b3, b4⟩ := hasField_in h.1 e
        rw [(wordM_eq h.2.2.2.2.1 b1 b2 b3).1]
        exact Same.mk (BIG_put h r (h.1.rg.grid b1 b2) (h.1.cl.2.1 _ _ (vp_ix b1) (vp_ix b2)))
/-- a field of an object that is no class and no context -/
theorem IN_free (h : IN σ) {o k w : Int32} (ho : vp_in o 28) (hk : vp_in k 15) (hl : ¬ σ.1 4 (ix o) = 0) (hf : ix k < ix (σ.1 8 (ix o))) (hnc : σ.1 6 (ix o) = 0) (hnx : ¬ σ.1 7 (ix o) = 3) (h0 : 0 ≤ w.toInt) (hw : Wd σ w) : IN (setField σ o k w) := by
  have sn : ∀ {a}, a ≠ 11 → (setField σ o k w).1 a = σ.1 a := fun h1 => setField_ne _ _ _ _ h1
  have s4 := sn (show (4 : Nat) ≠ 11 by decide)
  have s6 := sn (show (6 : Nat) ≠ 11 by decide)
  have s7 := sn (show (7 : Nat) ≠ 11 by decide)
  have s8 := sn (show (8 : Nat) ≠ 11 by decide)
  have s10 := sn (show (10 : Nat) ≠ 11 by decide)
  have g0 : ∀ i, i < 28 → ¬ σ.1 6 i = 0 → (setField σ o k w).2.1 i = σ.2.1 i := fun i _ q => sF_oth _ _ _ _ (fun e => q (e ▸ hnc))
  have gz : (setField σ o k w).2.1 0 = σ.2.1 0 := sF_oth _ _ _ _ (fun e => by
    rw [← e, h.f4.2.2.1] at hf
    exact absurd hf (Nat.not_lt_zero _))
  refine ⟨RG_setField h.rg _ _ h0, ?_, fun i j hi hj h8 => ?_, ?_, HC_setField h.rg h.hc ho hk hl hf h0, ?_, ⟨?_, fun i j hi hj => ?_, ?_⟩, fun i hi hc => ?_, fun i hi hli h3 => ?_, fun i hi hc => ?_⟩
  · unfold BZ; rw [sn (by decide)]; exact h.bz
  · rw [s8] at h8
    by_cases e : i = ix o
    · subst e; rw [sF_row, pk_un (by omega)]; exact h.za _ j hi hj h8
    · rw [sF_oth _ _ _ _ e]; exact h.za i j hi hj h8
  · unfold Zd; rw [s4, s6, s8, s10, sn (show (5 : Nat) ≠ 11 by decide)]; exact h.zd
  · unfold F4; rw [s4, s6, s7, s8]; exact h.f4
  · unfold CW; rw [s4, s6, s7]; exact h.cl.1
  · unfold Wd; rw [s4]
    by_cases e : i = ix o
    · subst e; rw [sF_row]
      by_cases e2 : j = ix k
      · rw [e2, pk_us]; exact hw
      · rw [pk_un e2]; exact h.cl.2.1 _ j hi hj
    · rw [sF_oth _ _ _ _ e]; exact h.cl.2.1 i j hi hj
  · unfold Wd; rw [s4, sn (show (13 : Nat) ≠ 11 by decide)]; exact h.cl.2.2
  · rw [s6] at hc
    unfold CW; rw [s6, s7, s8, g0 i hi hc]; exact h.kc i hi hc
  · rw [s4] at hli
    rw [s7] at h3
    unfold KXo XN CW; rw [s4, s6, s7, s8, s10, sF_oth _ _ _ _ (fun e => hnx (e ▸ h3))]; exact h.kx i hi hli h3
  · rw [s6] at hc
    obtain ⟨n, hn⟩ := h.sc i hi hc
    refine ⟨n, ?_⟩
    rw [(supN_eq (σ := σ) (P := CN σ) (fun a ha => ⟨?_, ha.step h⟩) n _ (Or.inr ⟨vp_k hi (by decide), by rw [ix_nI (by omega)]; exact hc⟩)).1]
    · exact hn
    · rcases ha with rfl | ha
      · rw [i0, gz]
      · rw [g0 _ (vp_ix ha.1) ha.2]
theorem AX_free (h : IN σ) (hx : AX σ) {o k w : Int32} (hf : ix k < ix (σ.1 8 (ix o))) (hnx : ¬ σ.1 7 (ix o) = 3) : AX (setField σ o k w) := by
  have sn : ∀ {a}, a ≠ 11 → (setField σ o k w).1 a = σ.1 a := fun h1 => setField_ne _ _ _ _ h1
  have gz : (setField σ o k w).2.1 0 = σ.2.1 0 := sF_oth _ _ _ _ (fun e => by
    rw [← e, h.f4.2.2.1] at hf
    exact absurd hf (Nat.not_lt_zero _))
  have hsup : ∀ n, supN (setField σ o k w) n (σ.1 13 6) = supN σ n (σ.1 13 6) := fun n => (supN_eq (σ := σ) (P := XN σ) (fun a ha => ⟨by
    rcases ha with rfl | ⟨_, _, h3⟩
    · rw [i0, gz]
    · rw [sF_oth _ _ _ _ (fun e => hnx (e ▸ h3))], ha.step h⟩) n _ hx.1).1
  unfold AX XN
  rw [sn (show (4 : Nat) ≠ 11 by decide), sn (show (7 : Nat) ≠ 11 by decide), sn (show (10 : Nat) ≠ 11 by decide), sn (show (13 : Nat) ≠ 11 by decide)]
  simp only [hsup]
  exact hx
theorem free_eq (h : Rr σ μ) (hi : IN σ) {w k : Int32} (h0 : 0 ≤ w.toInt) (hw : Wd σ w) : (hasFreeField σ w k = 0 ∧ (hasField σ w k = 0 ∨ (¬ hasField σ w k = 0 ∧ ¬ μ.1 2 (ix w) = 0 ∧ (CW σ w ∨ Ctx σ w)))) ∨ (¬ hasFreeField σ w k = 0 ∧ ¬ hasField σ w k = 0 ∧ μ.1 2 (ix w) = 0 ∧ σ.1 6 (ix w) = 0 ∧ ¬ σ.1 7 (ix w) = 3) := by
  unfold hasFreeField
  by_cases e : hasField σ w k = 0
  · rw [if_pos e]; exact Or.inl ⟨rfl, Or.inl e⟩
  · rw [if_neg e]
    obtain ⟨b1, b2, b3, b4⟩ := hasField_in hi e
    have hs := (h.2.2.1 _ (vp_ix b1) b3).2.2.2.1
    rcases isClass_eq h h0 hw with ⟨c1, _, c3⟩ | ⟨c1, _, c3⟩
    · rw [if_pos c1]
      rcases isContext_eq h hi h0 hw with ⟨d1, _, d3⟩ | ⟨d1, _, d3⟩
      · rw [if_pos d1]
        have e6 : σ.1 6 (ix w) = 0 := Classical.byContradiction (fun q => c3 ⟨b1, q⟩)
        have e7 : ¬ σ.1 7 (ix w) = 3 := fun q => d3 ⟨b1, b3, q⟩
        exact Or.inr ⟨by decide, e, by rw [hs]; exact srt_0.mpr ⟨e6, e7⟩, e6, e7⟩
      · rw [if_neg d1]; exact Or.inl ⟨rfl, Or.inr ⟨e, by rw [hs]; exact fun q => (srt_0.mp q).2 d3.2.2, Or.inr d3⟩⟩
    · rw [if_neg c1]; exact Or.inl ⟨rfl, Or.inr ⟨e, by rw [hs]; exact fun q => c3.2 (srt_0.mp q).1, Or.inl c3⟩⟩
theorem s_store (h : BIG σ μ) (g k a : Int32) : Same (store σ g k a) (storeM μ g k a) := by
  unfold store storeM
  rcases hnd a with ⟨p, q⟩ | ⟨p, q, r⟩
  · rw [if_pos p, if_neg q]; exact Same.mk h
  · rw [if_neg p, if_pos q]
    rcases hnd g with ⟨p2, q2⟩ | ⟨p2, q2, r2⟩
    · rw [if_pos p2, if_neg q2]; exact Same.mk h
    · rw [if_neg p2, if_pos q2, h.hm r2, h.hm r, hasField_eq h.2.2.2.2.1 k (h.nn r2) (h.wd r2)]
      rcases free_eq h.2.2.2.2.1 h.1 (k := k) (h.nn r2) (h.wd r2) with ⟨e1, e2⟩ | ⟨e1, e2, e3, e4, e5⟩
      · rw [if_pos e1]
        rcases e2 with e2 | ⟨e2, e3, _⟩
        · rw [if_pos e2]; exact Same.mk h
        · rw [if_neg e2, if_neg e3]; exact Same.mk h
      · rw [if_neg e1, if_neg e2, if_pos e3]
        obtain ⟨b1, b2, b3, b4⟩ := hasField_in h.1 e2
        refine Same.mk (BIG_settle ⟨IN_free h.1 b1 b2 b3 b4 e4 e5 (h.nn r) (h.wd r), AX_free h.1 h.2.1 b4 e5, ?_, ?_, RGm_5 h.2.2.2.2.2 _ (h.nn r)⟩)
        · rw [setField_ne _ _ _ _ (by decide)]; exact h.2.2.2.1
        · rw [(wordM_eq h.2.2.2.2.1 b1 b2 b3).2]; exact Rr_field h.2.2.2.2.1 _ b2
end CALLS
