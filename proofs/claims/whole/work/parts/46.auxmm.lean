/-! MessageMachine's constructor: what it needs -/
theorem aoa.moved {u U : State} (hvm : u.vm.Alike U.vm) (h : aoa u) : aoa U := by
  obtain ⟨comp, c, k, h1, h2, h3, h4, h5⟩ := arrayOverA_spec h
  obtain ⟨k', hk', he⟩ := hvm.2.2 _ _ h3
  have hi : (U.vm.classes.findIdx? fun (x : Class) => match x.kind with | .array component _ => component == comp | _ => false) = some c := by
    rw [hvm.findIdx?_eq _ (fun _ => rfl)]
    exact h2
  have hkind : k'.kind = .array comp (.array .int) := by rw [he]; exact h4
  have f1 : U.vm.findClass (FieldType.array .int).toString = some comp := by rw [hvm.findClass]; exact h1
  have f2 : U.vm.findClass ("[" ++ (FieldType.array .int).toString) = some c := by rw [hvm.findClass]; exact h5
  unfold aoa Cond.before Cond.holds
  simp only [Cond.value]
  rw [f1, Option.bind_some]
  refine (congrArg (fun o : Option Nat => (o.bind (fun c => (U.vm.classes[c]?).map fun (k : Class) => match k.kind with | .array _ ty => decide (ty = FieldType.array .int) && decide (U.vm.findClass ("[" ++ (FieldType.array .int).toString) = some c) | _ => false) == some true)) hi).trans ?_
  simp [hk', hkind, f2]
/-- the callee's cell is the last one: what it makes of it stands behind the rest -/
theorem lastP {D : va_G} {cl : List vw_C} {ws : va_W} {x : Nat × va_E} {H : Heap} (hP : va_P D cl (ws ++ [x]) H) : va_P D cl [x] H := fun k q hk => by
  have h0 : k < 1 := (List.getElem?_eq_some_iff.mp hk).1
  rw [show k = 0 by omega] at hk
  cases hk
  exact hP ws.length x (by rw [List.getElem?_append_right (Nat.le_refl _), Nat.sub_self]; rfl)
theorem lastF {A0 : Nat → Prop} {ws : va_W} {x : Nat × va_E} {H0 H : Heap} {locs : List Loc} (hD : va_D A0 (ws ++ [x])) (hS : va_S A0 H0 H locs) (hA : ∀ q, H0.size ≤ q → A0 q) : ∀ q, va_A [x] H.size q → A0 q := by
  intro q h
  rcases h with ⟨k, e, h⟩ | h
  · have h0 : k < 1 := (List.getElem?_eq_some_iff.mp h).1
    rw [show k = 0 by omega] at h
    cases h
    exact hD.2 ws.length (q, e) (by rw [List.getElem?_append_right (Nat.le_refl _), Nat.sub_self]; rfl)
  · exact hA q (Nat.le_trans hS.1 h)
theorem joinLast {A0 : Nat → Prop} {D : va_G} {cl : List vw_C} {ws w1 : va_W} {x : Nat × va_E} {H H1 : Heap} (hP : va_P D cl (ws ++ [x]) H) (hD : va_D A0 (ws ++ [x])) (hk : ∀ q : Nat, q < H.size → ¬ va_A [x] H.size q → H1[q]? = H[q]?) (hF : ∀ q, va_A [x] H.size q → A0 q) (hP1 : va_P D cl w1 H1) (hD1 : va_D (va_A [x] H.size) w1) : va_P D cl (ws ++ w1) H1 ∧ va_D A0 (ws ++ w1) := by
  have hl : ∀ (k : Nat) (q : Nat × va_E), ws[k]? = some q → (ws ++ [x])[k]? = some q := fun k q h => by
    rw [List.getElem?_append_left ((List.getElem?_eq_some_iff.mp h).1)]; exact h
  have hx : (ws ++ [x])[ws.length]? = some x := by rw [List.getElem?_append_right (Nat.le_refl _), Nat.sub_self]; rfl
  have apart : ∀ (k : Nat) (q : Nat × va_E), ws[k]? = some q → q.1 < H.size ∧ ¬ va_A [x] H.size q.1 := fun k q h => by
    have hlt := (hP k q (hl k q h)).lt
    refine ⟨hlt, fun ha => ?_⟩
    rcases ha with ⟨k2, e, h2⟩ | h2
    · have h0 : k2 < 1 := (List.getElem?_eq_some_iff.mp h2).1
      rw [show k2 = 0 by omega] at h2
      have h3 : x = (q.1, e) := Option.some.inj h2
      have := hD.1 k ws.length q x (hl k q h) hx (by rw [h3])
      have := (List.getElem?_eq_some_iff.mp h).1
      omega
    · omega
  have hD0 : va_D A0 ws := ⟨fun i j p q hi hj e => hD.1 i j p q (hl i p hi) (hl j q hj) e, fun k q h => hD.2 k q (hl k q h)⟩
  refine ⟨va_P.app (fun k q h => ?_) hP1, va_D.app hD0 (hD1.weaken (fun k q _ h => hF q.1 h)) (fun i j p q hp hq e => ?_)⟩
  · obtain ⟨g1, g2⟩ := apart k q h
    exact (hP k q (hl k q h)).kept (hk q.1 g1 g2)
  · exact (apart i p hp).2 (by rw [e]; exact hD1.2 j q hq)
/-- a world by places of another -/
theorem placeP {D : va_G} {cl : List vw_C} {big ws : va_W} {H : Heap} (g : Nat → Nat) {n : Nat} (e : (List.range n).map (fun i => big[g i]?) = ws.map some) (h : va_P D cl big H) : va_P D cl ws H := fun k q hk => by
  have h1 : (ws.map some)[k]? = some (some q) := by rw [List.getElem?_map, hk]; rfl
  rw [← e, List.getElem?_map] at h1
  by_cases hl : k < n
  · rw [List.getElem?_range hl] at h1
    exact h (g k) q (Option.some.inj h1)
  · rw [List.getElem?_eq_none (by rw [List.length_range]; omega)] at h1
    cases h1
theorem placeD {A : Nat → Prop} {big ws : va_W} (g : Nat → Nat) {n : Nat} (hg : ∀ i j, i < n → j < n → g i = g j → i = j) (e : (List.range n).map (fun i => big[g i]?) = ws.map some) (h : va_D A big) : va_D A ws := by
  have key : ∀ (k : Nat) (q : Nat × va_E), ws[k]? = some q → k < n ∧ big[g k]? = some q := fun k q hk => by
    have h1 : (ws.map some)[k]? = some (some q) := by rw [List.getElem?_map, hk]; rfl
    rw [← e, List.getElem?_map] at h1
    by_cases hl : k < n
    · rw [List.getElem?_range hl] at h1
      exact ⟨hl, Option.some.inj h1⟩
    · rw [List.getElem?_eq_none (by rw [List.length_range]; omega)] at h1
      cases h1
  refine ⟨fun i j p q hi hj e2 => ?_, fun k q hk => h.2 _ q (key k q hk).2⟩
  obtain ⟨a1, a2⟩ := key i p hi
  obtain ⟨b1, b2⟩ := key j q hj
  exact hg i j a1 b1 (h.1 _ _ p q a2 b2 e2)
theorem cw_len (ad : Nat → Nat) (ci : Nat → ClassId) (σ : SS) : (cw ad ci σ).length = 47 := by
  have := congrArg List.length (cw_fst ad ci σ)
  simpa using this
theorem Inj_of {A : Nat → Prop} {ad : Nat → Nat} {ci : Nat → ClassId} {σ : SS} (h : va_D A (cw ad ci σ)) : Inj ad := fun i j hi hj e => by
  have hi2 : i < (cw ad ci σ).length := by rw [cw_len]; exact hi
  have hj2 : j < (cw ad ci σ).length := by rw [cw_len]; exact hj
  have a1 := List.getElem?_eq_getElem hi2
  have b1 := List.getElem?_eq_getElem hj2
  exact h.1 i j _ _ a1 b1 (by rw [(cw_at a1).2, (cw_at b1).2]; exact e)
theorem stickL_ne {n : Nat} : ∀ {k : Nat} {σ : SS}, (∀ a, a ≠ 5 → (stickL n k σ).1 a = σ.1 a) ∧ (stickL n k σ).2 = σ.2 := by
  induction n with
  | zero => intro k σ; exact ⟨fun _ _ => rfl, rfl⟩
  | succ n ih =>
    intro k σ
    unfold stickL
    obtain ⟨g1, g2⟩ := @ih (k + 1) (if σ.1 4 (ix (nI k)) = 0 then σ else if σ.1 11 (ix (nI k)) < 6 then σ else sA σ 5 (ix (nI k)) 1)
    refine ⟨fun a ha => (g1 a ha).trans ?_, g2.trans ?_⟩
    · split
      · rfl
      · split
        · rfl
        · exact sA_ne σ ha _ _
    · split
      · rfl
      · split <;> rfl
theorem wakeClass_ne (σ : SS) (o s z : Int32) {a : Nat} (h : a ≠ 4 ∧ a ≠ 6 ∧ a ≠ 7 ∧ a ≠ 8 ∧ a ≠ 9 ∧ a ≠ 11) : (wakeClass σ o s z).1 a = σ.1 a := by
  unfold wakeClass
  rw [setField_ne _ _ _ _ h.2.2.2.2.2, sA_ne _ h.2.2.2.2.1, sA_ne _ h.2.1, wake_ne _ _ _ _ ⟨h.1, h.2.2.1, h.2.2.2.1, h.2.2.2.2.2⟩]
theorem wake_L (σ : SS) (o c n : Int32) : (wake σ o c n).2 = σ.2 := by
  unfold wake wake1
  show (hold _ _).2 = _
  rw [hold_G]
  rfl
theorem wakeClass_L (σ : SS) (o s z : Int32) : (wakeClass σ o s z).2.2 = σ.2.2 := by
  unfold wakeClass
  rw [setField_G]
  show (wake σ o 1 1).2.2 = _
  rw [wake_L]
theorem mem0_ne {a : Nat} (h : a ≠ 4 ∧ a ≠ 5 ∧ a ≠ 6 ∧ a ≠ 7 ∧ a ≠ 8 ∧ a ≠ 9 ∧ a ≠ 11) : mem0.1 a = mem1.1 a := by
  unfold mem0 stick
  have h6 : a ≠ 4 ∧ a ≠ 6 ∧ a ≠ 7 ∧ a ≠ 8 ∧ a ≠ 9 ∧ a ≠ 11 := ⟨h.1, h.2.2.1, h.2.2.2.1, h.2.2.2.2.1, h.2.2.2.2.2.1, h.2.2.2.2.2.2⟩
  rw [stickL_ne.1 a h.2.1, wakeClass_ne _ _ _ _ h6, wakeClass_ne _ _ _ _ h6, wakeClass_ne _ _ _ _ h6, wake_ne _ _ _ _ ⟨h.1, h.2.2.2.1, h.2.2.2.2.1, h.2.2.2.2.2.2⟩]
theorem mem0_16 : mem0.1 16 = fun _ => 0 := by rw [mem0_ne (by decide)]; rfl
theorem mem0_21 : mem0.1 21 0 = 0 := by rw [mem0_ne (by decide)]; rfl
theorem mem0_L (a : Nat) : mem0.2.2 a = fun _ => 0 := by
  unfold mem0 stick
  rw [stickL_ne.2, wakeClass_L, wakeClass_L, wakeClass_L, wake_L]
  rfl
