/-! the byte, its halves, and one step -/
theorem sshr_low (x : BitVec 64) {n : Nat} (hn : n ≤ 56) : (x.sshiftRight n).toNat % 256 = x.toNat / 2 ^ n % 256 := by
  have e : (x.sshiftRight n).setWidth 8 = (x >>> n).setWidth 8 := by
    apply BitVec.eq_of_getLsbD_eq
    intro i hi
    simp only [BitVec.getLsbD_setWidth, BitVec.getLsbD_sshiftRight, BitVec.getLsbD_ushiftRight]
    have h1 : n + i < 64 := by omega
    have h2 : ¬ 64 ≤ i := by omega
    simp [h1, h2, hi]
  have e2 := congrArg BitVec.toNat e
  rw [BitVec.toNat_setWidth, BitVec.toNat_setWidth, BitVec.toNat_ushiftRight, Nat.shiftRight_eq_div_pow] at e2
  exact e2
theorem nI_bv (v : Nat) : (nI v).toBitVec = BitVec.ofNat 32 v := rfl
theorem byteM_v (x : Int64) {k : Nat} (hk : k < 8) : byteM x k = nI (x.toBitVec.toNat / 2 ^ (8 * k) % 256) := by
  have key : ∀ (s : Int64) (n : Nat), (s.toBitVec.smod 64).toNat = n → n ≤ 56 → (x >>> s &&& 255).toInt32 = nI (x.toBitVec.toNat / 2 ^ n % 256) := by
    intro s n hs hn
    apply Int32.toBitVec_inj.mp
    apply BitVec.eq_of_toNat_eq
    have e1 : ((x >>> s &&& 255).toInt32).toBitVec = (x.toBitVec.sshiftRight n &&& 255#64).signExtend 32 := by
      rw [← hs]; rfl
    rw [e1, nI_bv, BitVec.toNat_ofNat]
    have h32 : (x.toBitVec.sshiftRight n &&& 255#64).signExtend 32 = (x.toBitVec.sshiftRight n &&& 255#64).setWidth 32 := BitVec.signExtend_eq_setWidth_of_le _ (by decide)
    rw [h32, BitVec.toNat_setWidth, BitVec.toNat_and, show (255#64).toNat = 2 ^ 8 - 1 from rfl, Nat.and_two_pow_sub_one_eq_mod, show (2 : Nat) ^ 8 = 256 from rfl, sshr_low _ hn]
  unfold byteM
  have h8 : k = 0 ∨ k = 1 ∨ k = 2 ∨ k = 3 ∨ k = 4 ∨ k = 5 ∨ k = 6 ∨ k = 7 := by omega
  rcases h8 with rfl | rfl | rfl | rfl | rfl | rfl | rfl | rfl
  · exact key _ 0 (by decide) (by decide)
  · exact key _ 8 (by decide) (by decide)
  · exact key _ 16 (by decide) (by decide)
  · exact key _ 24 (by decide) (by decide)
  · exact key _ 32 (by decide) (by decide)
  · exact key _ 40 (by decide) (by decide)
  · exact key _ 48 (by decide) (by decide)
  · exact key _ 56 (by decide) (by decide)
theorem byteSh_v (x : Int64) {q : Nat} (hq : q < 16) : byteSh x (nI q) = nI (x.toBitVec.toNat / 2 ^ (8 * (q % 8)) % 256) := by
  have key : ∀ (s : UInt64) (n : Nat), (s.toBitVec % 64).toNat = n → (x.toUInt64 >>> s).toInt64.toInt32 &&& 255 = nI (x.toBitVec.toNat / 2 ^ n % 256) := by
    intro s n hs
    apply Int32.toBitVec_inj.mp
    apply BitVec.eq_of_toNat_eq
    have e1 : ((x.toUInt64 >>> s).toInt64.toInt32 &&& 255).toBitVec = (x.toBitVec >>> n).signExtend 32 &&& 255#32 := by
      rw [← hs]; rfl
    rw [e1, nI_bv, BitVec.toNat_ofNat]
    have h32 : (x.toBitVec >>> n).signExtend 32 = (x.toBitVec >>> n).setWidth 32 := BitVec.signExtend_eq_setWidth_of_le _ (by decide)
    rw [h32, BitVec.toNat_and, BitVec.toNat_setWidth, show (255#32).toNat = 2 ^ 8 - 1 from rfl, Nat.and_two_pow_sub_one_eq_mod, BitVec.toNat_ushiftRight, Nat.shiftRight_eq_div_pow]
    omega
  unfold byteSh
  have h8 : q = 0 ∨ q = 1 ∨ q = 2 ∨ q = 3 ∨ q = 4 ∨ q = 5 ∨ q = 6 ∨ q = 7 ∨ q = 8 ∨ q = 9 ∨ q = 10 ∨ q = 11 ∨ q = 12 ∨ q = 13 ∨ q = 14 ∨ q = 15 := by omega
  rcases h8 with rfl | rfl | rfl | rfl | rfl | rfl | rfl | rfl | rfl | rfl | rfl | rfl | rfl | rfl | rfl | rfl
  · exact key _ 0 (by decide)
  · exact key _ 8 (by decide)
  · exact key _ 16 (by decide)
  · exact key _ 24 (by decide)
  · exact key _ 32 (by decide)
  · exact key _ 40 (by decide)
  · exact key _ 48 (by decide)
  · exact key _ 56 (by decide)
  · exact key _ 0 (by decide)
  · exact key _ 8 (by decide)
  · exact key _ 16 (by decide)
  · exact key _ 24 (by decide)
  · exact key _ 32 (by decide)
  · exact key _ 40 (by decide)
  · exact key _ 48 (by decide)
  · exact key _ 56 (by decide)
section STP
variable {σ τ μ : SS}
/-- the byte at the place, on both sides -/
theorem byte_eq {c : Int32} (h : ACT σ μ c) {q : Nat} (hq : q < 16) : ∃ v, v < 256 ∧ codeAt σ c (nI q) = nI v ∧ stepC μ (nI q) = nI v := by
  have hc := h.ctx
  have hk := h.inn.kx _ (vp_ix hc.1) hc.2.1 hc.2.2
  obtain ⟨t, ht, et⟩ := hk.2.2.2.1
  have e2 : atM μ 2 = σ.2.1 (ix c) 2 := h.rr.at hc h.ac (k := 2) (by omega)
  have e3 : atM μ 3 = σ.2.1 (ix c) 3 := h.rr.at hc h.ac (k := 3) (by omega)
  obtain ⟨f, hf, ef⟩ := vp_in_of hk.2.2.1.1 (by decide)
  have es : slotOf (nI f) (nI t) = nI (8 * f + t) := by
    unfold slotOf; rw [show (8 : Int32) = nI 8 from rfl, pk_mul, nI_add, Nat.mul_comm]
  have ec : codeAt σ c (nI q) = byteAt σ (nI f) (nI t) (nI q) := by
    unfold codeAt
    rw [show ix (2 : Int32) = 2 by decide, show ix (3 : Int32) = 3 by decide, ef, et, show (1000 : Int32) = nI 1000 from rfl, pk_sub (by omega), show 1000 + t - 1000 = t by omega]
  have em : stepC μ (nI q) = μ.1 10 (16 * (8 * f + t) + q) := by
    unfold stepC
    rw [if_neg (fun z => by have := (nI_leI (a := 16) (by omega) (by omega)).mp z; omega), e2, e3, ef, et]
    rw [show (8 : Int32) = nI 8 from rfl, pk_mul, nI_add, show (1000 : Int32) = nI 1000 from rfl, pk_sub (by omega), show (16 : Int32) = nI 16 from rfl, pk_mul, nI_add, ix_nI (by omega), show 8 * f + (1000 + t) - 1000 = 8 * f + t by omega]
  have hj : 8 * f + t < 224 := by omega
  by_cases h8 : q < 8
  · have hr := (h.rr.2.2.2.2.2.2.2 (8 * f + t) q hj h8).1
    refine ⟨(σ.2.2 17 (8 * f + t)).toBitVec.toNat / 2 ^ (8 * q) % 256, Nat.mod_lt _ (by decide), ?_, ?_⟩
    · rw [ec]
      unfold byteAt
      rw [if_neg (fun z => by have := (nI_leI (a := 8) (by omega) (by omega)).mp z; omega), es, ix_nI (by omega), byteSh_v _ hq, Nat.mod_eq_of_lt h8]
    · rw [em, hr, byteM_v _ h8]
  · have hr := (h.rr.2.2.2.2.2.2.2 (8 * f + t) (q - 8) hj (by omega)).2
    refine ⟨(σ.2.2 18 (8 * f + t)).toBitVec.toNat / 2 ^ (8 * (q - 8)) % 256, Nat.mod_lt _ (by decide), ?_, ?_⟩
    · rw [ec]
      unfold byteAt
      have e8 : (8 : Int32) ≤ nI q := (nI_leI (a := 8) (by omega) (by omega)).mpr (by omega)
      rw [if_pos e8, es, ix_nI (by omega), byteSh_v _ hq, show q % 8 = q - 8 by omega]
    · rw [em, show 16 * (8 * f + t) + q = 16 * (8 * f + t) + 8 + (q - 8) by omega, hr, byteM_v _ (by omega)]
theorem halves {v : Nat} (hv : v < 256) : nI v >>> (4 &&& 31) = nI (v / 16) ∧ nI v &&& 15 = nI (v % 16) ∧ nI v / 16 = nI (v / 16) ∧ remM (nI v) 16 = nI (v % 16) := by
  refine ⟨?_, ?_, ?_, ?_⟩
  · exact pk_shrN (by omega) _ 4 (by decide)
  · exact pk_andN (by omega) 4 (by decide)
  · rw [show (16 : Int32) = nI 16 from rfl, pk_div (by omega) (by omega) (by omega)]
  · unfold remM; rw [show (16 : Int32) = nI 16 from rfl, pk_rem (by omega) (by omega) (by omega)]
/-- the stack suits, on both sides -/
theorem words_eq {p a : Nat} (hp : p < 16) (ha : a < 16) : needsM (nI p) (nI a) = wordsUsed (nI p) (nI a) ∧ growsM (nI p) (nI a) = onlyPushes (nI p) (nI a) := by
  unfold needsM wordsUsed growsM onlyPushes
  have e1 : (2 ≤ nI a) ↔ (1 < nI a) := by
    rw [show (2 : Int32) = nI 2 from rfl, show (1 : Int32) = nI 1 from rfl, nI_leI (by omega) (by omega), nI_ltI (by omega) (by omega)]; omega
  have e2 : (nI p < 3) ↔ (nI p ≤ 2) := lt_le (j := 2) (by omega) (by omega)
  simp only [e1, e2, and_self]
theorem nI_cases {p : Nat} (hp : p < 16) {k : Nat} (hk : k < 2 ^ 31) : (nI p = nI k) ↔ p = k := nI_eq (by omega) hk
/-- how many words a byte uses -/
def wu (p a : Nat) : Nat := if p = 3 ∨ p = 4 ∨ p = 9 then 1 else if p = 5 ∨ p = 6 then a % 3 + 1 else if p = 7 then 2 else if p = 11 ∨ p = 12 then (if a = 0 then 1 else 0) else if p = 13 then (if 1 < a then 0 else 1) else 0
theorem wordsUsed_nI {p a : Nat} (hp : p < 16) (ha : a < 16) : wordsUsed (nI p) (nI a) = nI (wu p a) := by
  have e : ∀ k : Nat, k < 16 → ((nI p = nI k) ↔ p = k) := fun k hk => nI_cases hp (by omega)
  unfold wordsUsed wu
  rw [show (3 : Int32) = nI 3 from rfl, show (4 : Int32) = nI 4 from rfl, show (9 : Int32) = nI 9 from rfl, show (5 : Int32) = nI 5 from rfl, show (6 : Int32) = nI 6 from rfl, show (7 : Int32) = nI 7 from rfl, show (11 : Int32) = nI 11 from rfl, show (12 : Int32) = nI 12 from rfl, show (13 : Int32) = nI 13 from rfl]
  simp only [e 3 (by omega), e 4 (by omega), e 9 (by omega), e 5 (by omega), e 6 (by omega), e 7 (by omega), e 11 (by omega), e 12 (by omega), e 13 (by omega)]
  have ea : (nI a = 0) ↔ a = 0 := nI_eq (b := 0) (by omega) (by omega)
  have e1 : ((1 : Int32) < nI a) ↔ 1 < a := nI_ltI (a := 1) (by omega) (by omega)
  have em : argumentsOf (nI a) + 1 = nI (a % 3 + 1) := by unfold argumentsOf; rw [show (3 : Int32) = nI 3 from rfl, pk_rem (by omega) (by omega) (by omega), nI_1]
  simp only [ea, e1, em]
  repeat' split
  all_goals rfl
theorem onlyPushes_nI {p a : Nat} (hp : p < 16) (ha : a < 16) : onlyPushes (nI p) (nI a) = 0 ↔ ¬ (p ≤ 2 ∨ (p = 13 ∧ a = 0)) := by
  unfold onlyPushes
  have e1 : (nI p ≤ 2) ↔ p ≤ 2 := nI_leI (b := 2) (by omega) (by omega)
  have e2 : (nI p = 13) ↔ p = 13 := nI_eq (b := 13) (by omega) (by omega)
  have e3 : (nI a = 0) ↔ a = 0 := nI_eq (b := 0) (by omega) (by omega)
  simp only [e1, e2, e3]
  by_cases h1 : p ≤ 2
  · rw [if_pos h1]; exact ⟨fun q => absurd q (by decide), fun q => absurd (Or.inl h1) q⟩
  · rw [if_neg h1]
    by_cases h2 : p = 13
    · rw [if_pos h2]
      by_cases h3 : a = 0
      · rw [if_pos h3]; exact ⟨fun q => absurd q (by decide), fun q => absurd (Or.inr ⟨h2, h3⟩) q⟩
      · rw [if_neg h3]; exact ⟨fun _ q => by omega, fun _ => rfl⟩
    · rw [if_neg h2]; exact ⟨fun _ q => by omega, fun _ => rfl⟩
/-- jumping changes no reason to fail -/
theorem jump_ne (μ : SS) (x : Int32) {a : Nat} (h : a ≠ 5) : (jumpM μ x).1 a = μ.1 a := by unfold jumpM; exact sA_ne _ h _ _
theorem jump_ac (μ : SS) (x : Int32) : acM (jumpM μ x) = acM μ := by unfold acM; rw [jump_ne _ _ (by decide)]
theorem jump_tp (μ : SS) (x : Int32) : tpM (jumpM μ x) = tpM μ := by unfold tpM; rw [jump_ac, jump_ne _ _ (by decide)]
theorem jump_at {c : Int32} (hc : vp_in c 28) (ha : acM μ = c) (x : Int32) {k : Nat} (hk : k < 15) (h4 : k ≠ 4) : atM (jumpM μ x) (nI k) = atM μ (nI k) := by
  unfold atM
  rw [jump_ac, ha]
  unfold jumpM
  rw [sA_eq, ha, show (4 : Int32) = nI 4 from rfl, ixa hc (by omega), ixa hc hk, pk_un (by omega)]
theorem jump_top {c : Int32} (h : ACT σ μ c) (x : Int32) {m : Nat} (hm : m + 1 ≤ dpt σ c) : fromTopM (jumpM μ x) (nI m) = fromTopM μ (nI m) := by
  have hp := dpt_nI h.inn.rg h.ctx.1
  unfold fromTopM
  rw [jump_tp, h.rr.tp h.ctx h.ac, hp.1, n9, show (1 : Int32) = nI 1 from rfl, pk_sub (by omega), pk_sub (by omega), jump_at h.ctx.1 h.ac _ (by omega) (by omega)]
theorem jump_sup {c : Int32} (hc : vp_in c 28) (ha : acM μ = c) (x : Int32) {f : Int32} (hf : vp_in f 28) : (jumpM μ x).1 5 (ix (15 * f)) = μ.1 5 (ix (15 * f)) := by
  unfold jumpM
  rw [sA_eq, ha, show (4 : Int32) = nI 4 from rfl, ixa hc (by omega), ix15 hf, pk_un (by omega)]
theorem jump_found {c : Int32} (hc : vp_in c 28) (ha : acM μ = c) (x t : Int32) : ∀ (n : Nat) {f : Int32}, SupM n μ f → foundL n (jumpM μ x) t f = foundL n μ t f
  | 0, f, _ => rfl
  | n + 1, f, hs => by
    unfold foundL
    unfold SupM at hs
    rw [jump_ne _ _ (show (9 : Nat) ≠ 5 by decide)]
    by_cases e : f = 0
    · rw [if_pos e, if_pos e]
    · have hq := hs.resolve_left e
      rw [if_neg e, if_neg e, jump_sup hc ha x hq.1, jump_found hc ha x t n hq.2]
theorem jump_room (x : Int32) : ∀ (n k : Nat), roomL n k (jumpM μ x) = roomL n k μ
  | 0, k => rfl
  | n + 1, k => by unfold roomL; rw [jump_ne _ _ (by decide), jump_room x n (k + 1)]
theorem jump_cls (x w : Int32) : isClassM (jumpM μ x) w = isClassM μ w := by unfold isClassM; rw [jump_ne _ _ (by decide)]
theorem jump_ctx (x w : Int32) : isContextM (jumpM μ x) w = isContextM μ w := by unfold isContextM; rw [jump_ne _ _ (by decide)]
theorem jump_cow (x w : Int32) : classOfWordM (jumpM μ x) w = classOfWordM μ w := by unfold classOfWordM; rw [jump_ne _ _ (by decide)]
theorem jump_hf (x w k : Int32) : hasFieldM (jumpM μ x) w k = hasFieldM μ w k := by unfold hasFieldM; rw [jump_ne _ _ (by decide)]
theorem jump_fa1 {c : Int32} (h : ACT σ μ c) (x p a : Int32) : fa1M (jumpM μ x) p a = fa1M μ p a := by
  unfold fa1M
  rw [show atM (jumpM μ x) 1 = atM μ 1 from jump_at h.ctx.1 h.ac x (k := 1) (by omega) (by omega), jump_hf, jump_ctx, jump_cls]
theorem jump_fa5 {c : Int32} (h : ACT σ μ c) (x p : Int32) {a : Nat} (ha : a < 16) (hd : a % 3 + 1 ≤ dpt σ c) : fa5M (jumpM μ x) p (nI a) = fa5M μ p (nI a) := by
  have hc := h.ctx
  have hk := h.inn.kx _ (vp_ix hc.1) hc.2.1 hc.2.2
  have em : argumentsOf (nI a) = nI (a % 3) := by unfold argumentsOf; rw [show (3 : Int32) = nI 3 from rfl, pk_rem (by omega) (by omega) (by omega)]
  have tm := h.top (m := a % 3) hd
  have hat2 : atM μ 2 = σ.2.1 (ix c) 2 := h.rr.at hc h.ac (k := 2) (by omega)
  have hb : beginM (jumpM μ x) p (nI a) = beginM μ p (nI a) ∧ CN σ (beginM μ p (nI a)) := by
    unfold beginM superM
    rw [em, jump_top h x hd, jump_cow, show atM (jumpM μ x) 2 = atM μ 2 from jump_at hc.1 h.ac x (k := 2) (by omega) (by omega)]
    by_cases e5 : p = 5
    · rw [if_pos e5, if_pos e5, tm.1, classOfWord_eq h.rr tm.2.1 tm.2.2]
      exact ⟨rfl, Or.inr (classOfWord_CW h.inn tm.2.1 tm.2.2)⟩
    · rw [if_neg e5, if_neg e5, hat2, jump_sup hc.1 h.ac x hk.2.2.1.1, sup_eq h.rr h.inn hk.2.2.1]
      exact ⟨rfl, CN.step h.inn (Or.inr hk.2.2.1)⟩
  unfold fa5M foundM roomM
  rw [hb.1, jump_found hc.1 h.ac x _ 28 (SupM_28 h.rr h.inn hb.2), jump_room]
theorem jump_wf {c : Int32} (h : ACT σ μ c) (x a : Int32) (hd : 2 ≤ dpt σ c) : workFailsM (jumpM μ x) a = workFailsM μ a := by
  unfold workFailsM wf1M
  rw [show fromTopM (jumpM μ x) 0 = fromTopM μ 0 from jump_top h x (m := 0) (by omega), show fromTopM (jumpM μ x) 1 = fromTopM μ 1 from jump_top h x (m := 1) (by omega)]
theorem jump_fa9 {c : Int32} (h : ACT σ μ c) (x q a : Int32) (hd : 1 ≤ dpt σ c) : fa9M (jumpM μ x) q a = fa9M μ q a := by
  unfold fa9M
  rw [show fromTopM (jumpM μ x) 0 = fromTopM μ 0 from jump_top h x (m := 0) (by omega)]
theorem jump_fa12 {c : Int32} (h : ACT σ μ c) (x : Int32) {a : Nat} (ha : a < 16) (hd : a = 0 → 1 ≤ dpt σ c) : fa12M (jumpM μ x) (nI a) = fa12M μ (nI a) := by
  unfold fa12M roomM
  by_cases e : (0 : Int32) < nI a
  · rw [if_pos e, if_pos e]
  · have a0 : a = 0 := Classical.byContradiction (fun q => e ((nI_ltI (a := 0) (b := a) (by omega) (by omega)).mpr (by omega)))
    rw [if_neg e, if_neg e, show fromTopM (jumpM μ x) 0 = fromTopM μ 0 from jump_top h x (m := 0) (by have := hd a0; omega), jump_cls, jump_room]
end STP
