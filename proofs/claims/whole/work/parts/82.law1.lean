/-! the law: class and reference side by side -/
def LX (D : va_G) (adC : Nat → Nat) (ciC : Nat → ClassId) (adR : Nat → Nat) (ciR : Nat → ClassId) (p : Program) (s : State) (m : MethodId) (c : Code) (b L : Nat) (xs : Nat → Int32) (H : Heap) (locs : List Loc) (σ μ : SS) : Prop :=
  CallFix p m c code 4 s #[Value.ref b] gt "MessageMachineLaw" ∧ va_K D cl (tyc ciC) s ∧ va_K D cl (tyr ciR) s ∧ nst s ∧ va_P D cl (cw adC ciC σ) H ∧ va_P D cl (rwd adR ciR μ) H ∧ va_S (fun q => s.heap.size ≤ q) s.heap H locs ∧ (∀ q, Aw adC q → s.heap.size ≤ q) ∧ (∀ q, Ar adR q → s.heap.size ≤ q) ∧ (∀ q, Aw adC q → ¬ Ar adR q) ∧ (Inj adC ∧ InjR adR) ∧ va_X b L xs s s.heap ∧ b < s.heap.size
section LAWC
variable {p : Program} {l : Launch} {e : Env} {R : Room} {s : State} {m : MethodId} {below : List Frame} {meth : Method} {c : Code} {H : Heap} {locs : List Loc} {cells slots : Nat} {Q : State → Prop}
variable {bytes : ByteArray} {maxL index pc b L : Nat} {ls : Array Slot} {rest st0 As : List Value} {y : MethodName} {ret : Option FieldType} {rm : Room} {D : va_G} {adC adR : Nat → Nat} {ciC ciR : Nat → ClassId} {xs : Nat → Int32} {σ σ' μ μ' : SS} {r : Int32}
theorem LX.inj (X : LX D adC ciC adR ciR p s m c b L xs H locs σ μ) : Inj adC := X.2.2.2.2.2.2.2.2.2.2.1.1
theorem LX.injR (X : LX D adC ciC adR ciR p s m c b L xs H locs σ μ) : InjR adR := X.2.2.2.2.2.2.2.2.2.2.1.2
theorem LX.rcC (X : LX D adC ciC adR ciR p s m c b L xs H locs σ μ) : Rcv s H "MessageMachine" (adC 0) := va_recv X.2.1 X.2.2.2.2.1 (ci := 3) rfl (q0 := 0) rfl
theorem LX.rcR (X : LX D adC ciC adR ciR p s m c b L xs H locs σ μ) : Rcv s H "MessageMachineModel" (adR 0) := va_recv X.2.2.1 X.2.2.2.2.2.1 (ci := 4) rfl (q0 := 0) rfl
theorem LX.sld (X : LX D adC ciC adR ciR p s m c b L xs H locs σ μ) {i : Nat} (hi : i < L) (hL : L ≤ 3584) (hdg : decode code pc = .ok (.iaload, 1))
    (kk : W p l e R s m #[Value.ref b] below meth c H locs cells slots Q (F0 m (pc + 1) ls (.int (xs i) :: rest))) : W p l e R s m #[Value.ref b] below meth c H locs cells slots Q (F0 m pc ls (.int (nI i) :: .ref b :: rest)) := by
  refine va_sld X.1.1 X.1.2.1 X.2.2.2.2.2.2.2.2.2.2.2.1 X.2.2.2.2.2.2.2.2.2.2.2.2 (fun h => Nat.lt_irrefl _ (Nat.lt_of_lt_of_le X.2.2.2.2.2.2.2.2.2.2.2.2 h)) X.2.2.2.2.2.2.1 (i := nI i) (vp_k hi (by omega)) hdg ?_
  rw [nI_clamp (by omega)]
  exact kk
theorem LX.callC {k : Nat} (hM : Mi l y bytes maxL ret rm (EC D adC ciC) (.ref (adC 0) :: As) σ r σ') (X : LX D adC ciC adR ciR p s m c b L xs H locs σ μ) (hG : GoodIn gt (wsV "MessageMachineLaw" index y.cls y (.code y bytes maxL ret :: gt))) (hd : NmOk y k) (hrm : rm.cells = 0 ∧ rm.slots = 0 ∧ rm.frames + 1 ≤ R.frames ∧ 8 + (maxL + 11) + rm.locals ≤ R.locals) (hv : Rcv s H y.cls (adC 0))
    (hn : As.length = k) (hls : ls.size = 4) (hst : st0 = As.reverse ++ .ref (adC 0) :: rest) (hw : (rest.map fun v => v.category).sum ≤ 8) (hdg : decode code pc = .ok (.invokevirtual index, 3)) (hcs : cells ≤ R.cells ∧ slots ≤ R.slots)
    (kk : ∀ (H1 : Heap) (locs1 : List Loc), LX D adC ciC adR ciR p s m c b L xs H1 locs1 σ' μ → W p l e R s m #[Value.ref b] below meth c H1 locs1 cells slots Q (F0 m (pc + 3) ls (.int r :: rest))) : W p l e R s m #[Value.ref b] below meth c H locs cells slots Q (F0 m pc ls st0) := by
  obtain ⟨x1, x2, x3, x4, x5, x6, x7, x8, x9, x10, x11, x12⟩ := X
  refine va_calli (va_runV (As := As) (rest := rest) x1 hM (cwV k x1.2.2.2.2 hG rfl hrm.1 hrm.2.1 ⟨rfl, hd⟩ hrm.2.2) ⟨Pq.blind, hv, fun U hU hW => ⟨rfl, ⟨by rw [hU]; exact x5, va_K.moved hW.alike x2, x4.warm hW⟩⟩⟩ rfl hn hls hst (lv_room hw) hdg hcs) x7 (fun q _ h => x8 q h) x8 (fun r2 u t H1 locs1 ht _ hp hB hz hk hS1 => ?_)
  obtain ⟨rfl, rfl⟩ := hp
  refine kk H1 locs1 ⟨x1, x2, x3, x4, by rw [← ht]; exact hB.1, fun k q h => ?_, hS1, x8, x9, x10, x11, x12⟩
  have h1 := rwd_at h
  exact (x6 k q h).kept (hk q.1 (x6 k q h).lt (fun z => x10 _ z ⟨k, h1.1, h1.2⟩))
theorem LX.callM {k : Nat} (hM : Mi l y bytes maxL ret rm (ER D adR ciR) (.ref (adR 0) :: As) μ r μ') (X : LX D adC ciC adR ciR p s m c b L xs H locs σ μ) (hG : GoodIn gt (wsV "MessageMachineLaw" index y.cls y (.code y bytes maxL ret :: gt))) (hd : NmOk y k) (hrm : rm.cells = 0 ∧ rm.slots = 0 ∧ rm.frames + 1 ≤ R.frames ∧ 8 + (maxL + 11) + rm.locals ≤ R.locals) (hv : Rcv s H y.cls (adR 0))
    (hn : As.length = k) (hls : ls.size = 4) (hst : st0 = As.reverse ++ .ref (adR 0) :: rest) (hw : (rest.map fun v => v.category).sum ≤ 8) (hdg : decode code pc = .ok (.invokevirtual index, 3)) (hcs : cells ≤ R.cells ∧ slots ≤ R.slots)
    (kk : ∀ (H1 : Heap) (locs1 : List Loc), LX D adC ciC adR ciR p s m c b L xs H1 locs1 σ μ' → W p l e R s m #[Value.ref b] below meth c H1 locs1 cells slots Q (F0 m (pc + 3) ls (.int r :: rest))) : W p l e R s m #[Value.ref b] below meth c H locs cells slots Q (F0 m pc ls st0) := by
  obtain ⟨x1, x2, x3, x4, x5, x6, x7, x8, x9, x10, x11, x12⟩ := X
  refine va_calli (va_runV (As := As) (rest := rest) x1 hM (cwV k x1.2.2.2.2 hG rfl hrm.1 hrm.2.1 ⟨rfl, hd⟩ hrm.2.2) ⟨Pq.blind, hv, fun U hU hW => ⟨rfl, ⟨by rw [hU]; exact x6, va_K.moved hW.alike x3, x4.warm hW⟩⟩⟩ rfl hn hls hst (lv_room hw) hdg hcs) x7 (fun q _ h => x9 q h) x9 (fun r2 u t H1 locs1 ht _ hp hB hz hk hS1 => ?_)
  obtain ⟨rfl, rfl⟩ := hp
  refine kk H1 locs1 ⟨x1, x2, x3, x4, fun k q h => ?_, by rw [← ht]; exact hB.1, hS1, x8, x9, x10, x11, x12⟩
  have h1 := cw_at h
  exact (x5 k q h).kept (hk q.1 (x5 k q h).lt (fun z => x10 _ ⟨k, h1.1, h1.2⟩ z))
end LAWC
section LAWP
variable {σ μ : SS}
theorem bg_inh (h : BIG σ μ) : ∀ r, vp_in r 6 → ¬ isClassOrNil σ (rgs σ r) = 0 → Sup σ (rgs σ r) := fun r hr hc => by
  refine CN.sup h.1 ?_
  unfold isClassOrNil at hc
  by_cases e : rgs σ r = 0
  · exact Or.inl e
  · rw [if_neg e] at hc
    rcases isClass_eq h.2.2.2.2.1 (h.nn hr) (h.wd hr) with ⟨c1, _, _⟩ | ⟨_, _, c3⟩
    · rw [if_pos c1] at hc; exact absurd rfl hc
    · exact Or.inr c3
theorem bg_inhM (h : BIG σ μ) : ∀ r, vp_in r 6 → (hM μ r = 0 ∨ ¬ isClassM μ (hM μ r) = 0) → SupM 28 μ (hM μ r) := fun r hr hc => by
  refine SupM_28 h.2.2.2.2.1 h.1 ?_
  rw [h.hm hr] at hc ⊢
  rcases hc with e | e
  · exact Or.inl e
  · rcases isClass_eq h.2.2.2.2.1 (h.nn hr) (h.wd hr) with ⟨_, c2, _⟩ | ⟨_, _, c3⟩
    · exact absurd c2 e
    · exact Or.inr c3
theorem bg_cow (h : BIG σ μ) : ∀ r, vp_in r 6 → Sup σ (classOfWord σ (rgs σ r)) := fun r hr => CN.sup h.1 (Or.inr (classOfWord_CW h.1 (h.nn hr) (h.wd hr)))
theorem bg_cowM (h : BIG σ μ) : ∀ r, vp_in r 6 → SupM 28 μ (classOfWordM μ (hM μ r)) := fun r hr => by
  refine SupM_28 h.2.2.2.2.1 h.1 ?_
  rw [h.hm hr, classOfWord_eq h.2.2.2.2.1 (h.nn hr) (h.wd hr)]
  exact Or.inr (classOfWord_CW h.1 (h.nn hr) (h.wd hr))
theorem Same.q {r r2 : Int32} (h : BIG σ μ) (e : r = r2) : Same (r, σ) (r2, μ) := ⟨e, h⟩
theorem ix7 {i L : Nat} (hi : i < 2 ^ 30) (hL : L < 2 ^ 30) (h : ¬ nI L - 7 < nI i) : i + 7 ≤ L := by
  rw [Int32.lt_iff_toInt_lt, show (7 : Int32) = nI 7 from rfl, pk_sub_toInt (by omega) (by omega), nI_toInt (by omega)] at h
  omega
theorem ix7n {i L : Nat} (hi : i < 2 ^ 30) (hL : L < i) : nI L - 7 < nI i := by
  rw [Int32.lt_iff_toInt_lt, show (7 : Int32) = nI 7 from rfl, pk_sub_toInt (by omega) (by omega), nI_toInt (by omega)]
  omega
end LAWP
theorem q_sweep {σ μ : SS} (h : BIG σ μ) : (unr σ).2 = (sweepM μ).1 ∧ BIG (sweepS σ) (sweepM μ).2 := by
  have z := s_sweep h
  unfold Same at z
  simp only at z
  exact z
theorem q_count {σ μ : SS} (h : BIG σ μ) (o : Int32) : countQ σ o = (countM μ o).1 ∧ BIG σ (countM μ o).2 := by
  have z := s_count h o
  unfold Same at z
  simp only at z
  exact z
