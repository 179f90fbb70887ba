def plc (i : Nat) : Nat := if i = 0 then 0 else if i = 1 then 1 else if i = 2 then 42 else if i = 3 then 46 else if i < 16 then i - 2 else if i < 19 then i + 27 else i - 5
theorem plc_inj : ∀ i j, i < 47 → j < 47 → plc i = plc j → i = j := by
  have h : ∀ i, i < 47 → ∀ j, j < 47 → plc i = plc j → i = j := by decide +kernel
  exact fun i j hi hj => h i hi j hj
def ada (h q2 q3 q16 q17 q18 : Nat) (ad : Nat → Nat) : Nat → Nat := fun k => if k = 0 then h else if k = 2 then q2 else if k = 3 then q3 else if k = 16 then q16 else if k = 17 then q17 else if k = 18 then q18 else ad k
def cia (cJ : ClassId) (ci : Nat → ClassId) : Nat → ClassId := fun k => if k = 2 then cJ else ci k
theorem ada_row (h q2 q3 q16 q17 q18 : Nat) (ad : Nat → Nat) (i : Nat) : ada h q2 q3 q16 q17 q18 ad (19 + i) = ad (19 + i) := by
  unfold ada
  rw [if_neg (by omega), if_neg (by omega), if_neg (by omega), if_neg (by omega), if_neg (by omega), if_neg (by omega)]
set_option maxHeartbeats 16000000 in
set_option maxRecDepth 20000 in
theorem c_mm_init {l : Launch} {D : va_G} (h sz : Nat) : Met l y_mm_init (.code y_mm_init b_mm_init 1 none :: gt) ({ frames := 4, cells := 46, slots := 1426, locals := 87 } : Room) (va_Pc [.ref h] (fun U => U.heap.size = sz ∧ va_P D cl [(h, .inr (3, [.null, .null, .null]))] U.heap ∧ va_K D cl [] U ∧ nst U ∧ aoa U ∧ va_Nw (.methodLinkNest "MessageMachine" 18 y_mt_init "MessageMachine") U)) (va_Qv (fun u : (Nat → Nat) × (Nat → ClassId) => u.1 0 = h) (fun u t => Pq (EC D u.1 u.2) mem0 t ∧ va_D (va_A [(h, .inr (3, [.null, .null, .null]))] sz) (cw u.1 u.2 mem0)) (va_A [(h, .inr (3, [.null, .null, .null]))] sz)) 46 1426 (va_A [(h, .inr (3, [.null, .null, .null]))] sz) := by
  refine Met.ofW (cc := b_mm_init) (maxL := 1) (ret := none) pn_mm rfl ?_
  intro p e s m args below meth c s₁ B hml hv
  obtain ⟨rfl, hsz, hP, hK, hN, hO, hNw⟩ := hv
  have hx := B.exec
  have hb := B.bytes
  have hr := B.returns
  have hts := atoms_spec (ws := .code y_mm_init b_mm_init 1 none :: gt) B.pre
  have hg : ∀ w ∈ gt, w.before _ s = true := fun w hw => hts w (List.mem_cons_of_mem _ hw)
  have hown : s.vm.findClass "MessageMachine" = some m.cls := findClass_of_methodNamed B.named
  have hlocks := B.notSynchronized
  have hin : meth.name = "<init>" := (name_of_methodNamed B.named B.method).1
  subst hsz
  have hD := (one_D (x := (h, .inr (3, [.null, .null, .null])))).self (sz := s.heap.size)
  generalize hAe : va_A [(h, .inr (3, [.null, .null, .null]))] s.heap.size = A at hD ⊢
  have hA : ∀ q : Nat, s.heap.size ≤ q → A q := fun q h => by rw [← hAe]; exact Or.inr h
  have hS : va_S A s.heap s.heap [] := va_S.rf
  have hl := lv_entry ([.ref h]) (n := 1) (Nat.le_of_ble_eq_true rfl)
  rw [lg_entry_eq]
  generalize (lg_sl ([.ref h]) ++ List.replicate (1 - (lg_sl ([.ref h])).length) Slot.unset).toArray = ls at hl ⊢
  have hl : lv_has ls 1 [(0, .ref h)] := hl
  refine lv_aload_n hx hb d_mm_init_0 rfl (lv_at hl 0 rfl) ?_
  refine W.objInit hx hb hown (hg _ mw_11) (hg _ mw_12) (hg _ mw_13) rfl (by rw [hml]; exact hl.1) rfl d_mm_init_1 (Nat.le_of_ble_eq_true rfl) (Nat.le_of_ble_eq_true rfl) ?_
  refine W.eq (g2 := F0 m 4 ls []) rfl ?_
  refine lv_aload_n hx hb d_mm_init_4 rfl (lv_at hl 0 rfl) ?_
  refine va_new (ci := 0) (fs := [.null, .null, .null, .null, .null, .null, .null, .null, .null, .null, .null, .null, .int 0]) (C := "MessageMachine$Memory") (T := T_me) (N := 13) hx hb hg in_me ty_me tk_me hown (hg _ mw_14) (hg _ mw_15) (hg _ mw_2) hK hP hD hS hA rfl (by decide +kernel) (Nat.le_of_ble_eq_true rfl) (Nat.le_of_ble_eq_true rfl) d_mm_init_5 (fun q1 H hP hD hS => ?_)
  refine lv_dup hx hb d_mm_init_8 rfl ?_
  have hP : va_P D cl ([(h, .inr (3, [.null, .null, .null]))] ++ [(q1, .inr (0, [.null, .null, .null, .null, .null, .null, .null, .null, .null, .null, .null, .null, .int 0]))]) H := hP
  have hD : va_D A ([(h, .inr (3, [.null, .null, .null]))] ++ [(q1, .inr (0, [.null, .null, .null, .null, .null, .null, .null, .null, .null, .null, .null, .null, .int 0]))]) := hD
  have hF := lastF hD hS hA
  refine va_callv (va_runI (As := []) (rest := [.ref q1, .ref h]) ⟨hx, hb, hml, hown, hg⟩ (c_me_init (D := D) q1 H.size) (cwI 0 hg (gt_good mw_18) rfl rfl rfl (hg _ mw_2) (hg _ mw_16) (hg _ mw_17) rfl ok_me_init ⟨by decide, by decide⟩) ⟨fun a U g mk q => by obtain ⟨a0, a1, aP, aK, aN, aO⟩ := q; exact ⟨a0, a1, aP, va_K.moved (u := U) (U := U.calling g mk a) (Vm.Alike.refl U.vm) aK, nst.same (u := U) (U := U.calling g mk a) rfl aN, aoa.moved (u := U) (U := U.calling g mk a) (Vm.Alike.refl U.vm) aO⟩, fun U hU hW => ⟨rfl, by rw [hU], by rw [hU]; exact lastP hP, va_K.moved hW.alike (hK.sub (tys' := []) [] rfl), hN.warm hW, aoa.moved hW.alike hO⟩⟩ rfl rfl hl.1 rfl (lv_room (Nat.le_of_ble_eq_true rfl)) d_mm_init_9 ⟨Nat.le_of_ble_eq_true rfl, Nat.le_of_ble_eq_true rfl⟩) hS (fun q _ h9 => hF q h9) hF (fun u t H1 locs ht hvm hpost hB hz1 hk1 hS => ?_)
  obtain ⟨ad, ci⟩ := u
  obtain ⟨⟨hP1, hK1, -⟩, hD1⟩ := hB
  rw [ht] at hP1
  have hK : va_K D cl (tyM ci) s := va_K.moved hvm.symm hK1
  obtain ⟨hP, hD⟩ := joinLast hP hD hk1 hF hP1 hD1
  have hpost : ad 1 = q1 := hpost
  generalize H1 = H at hP hS ⊢
  have hP : va_P D cl ([(h, .inr (3, [.null, .null, .null]))] ++ cwM ad ci mem0) H := hP
  have hD : va_D A ([(h, .inr (3, [.null, .null, .null]))] ++ cwM ad ci mem0) := hD
  refine va_putF (D := D) (ci := 3) (v := .ref q1) (ty := .object "MessageMachine$Memory") (C := "MessageMachine") (T := T_mm) (N := 3) hx hb hg in_mm ty_mm tk_mm nm_mm hown hK hP hD hS 0 rfl rfl 0 (by decide) (hg _ mw_121) (fun _ h9 => h9) rfl hin rfl (by decide +kernel) rfl rfl (Nat.le_of_ble_eq_true rfl) d_mm_init_12 (fun H locs hP hD hS => ?_)
  have hP : va_P D cl ([(h, .inr (3, [.ref q1, .null, .null]))] ++ cwM ad ci mem0) H := hP
  have hD : va_D A ([(h, .inr (3, [.ref q1, .null, .null]))] ++ cwM ad ci mem0) := hD
  refine lv_aload_n hx hb d_mm_init_15 rfl (lv_at hl 0 rfl) ?_
  refine va_new (ci := 1) (fs := [.null, .null, .null]) (C := "MessageMachine$Methods") (T := T_mt) (N := 3) hx hb hg in_mt ty_mt tk_mt hown (hg _ mw_88) (hg _ mw_89) (hg _ mw_3) hK hP hD hS hA rfl (by decide +kernel) (Nat.le_of_ble_eq_true rfl) (Nat.le_of_ble_eq_true rfl) d_mm_init_16 (fun q2 H hP hD hS => ?_)
  refine lv_dup hx hb d_mm_init_19 rfl ?_
  have hP : va_P D cl (([(h, .inr (3, [.ref q1, .null, .null]))] ++ cwM ad ci mem0) ++ [(q2, .inr (1, [.null, .null, .null]))]) H := hP
  have hD : va_D A (([(h, .inr (3, [.ref q1, .null, .null]))] ++ cwM ad ci mem0) ++ [(q2, .inr (1, [.null, .null, .null]))]) := hD
  have hF := lastF hD hS hA
  refine va_callv (va_runIN (host := "MessageMachine") (As := []) (rest := [.ref q2, .ref h]) ⟨hx, hb, hml, hown, hg⟩ (c_mt_init (D := D) q2 H.size) ⟨va_cnB 0 hg (gt_good mw_92) rfl rfl rfl hNw (hg _ mw_3) ok_mt_init ⟨by decide, by decide⟩, rfl, hg _ mw_91⟩ ⟨fun a U g mk q => by obtain ⟨a0, a1, aP, aK, aN⟩ := q; exact ⟨a0, a1, aP, va_K.moved (u := U) (U := U.calling g mk a) (Vm.Alike.refl U.vm) aK, nst.same (u := U) (U := U.calling g mk a) rfl aN⟩, fun U hU hW => ⟨rfl, by rw [hU], by rw [hU]; exact lastP hP, va_K.moved hW.alike (hK.sub (tys' := []) [] rfl), hN.warm hW⟩⟩ rfl rfl hl.1 rfl (lv_room (Nat.le_of_ble_eq_true rfl)) d_mm_init_20 ⟨Nat.le_of_ble_eq_true rfl, Nat.le_of_ble_eq_true rfl⟩) hS (fun q _ h9 => hF q h9) hF (fun u t H1 locs ht hvm _ hB hz1 hk1 hS => ?_)
  obtain ⟨q16, q17, q18, cZ, cJ⟩ := u
  obtain ⟨hP1, hK1, -, hD1⟩ := hB
  rw [ht] at hP1
  have hK1 : va_K D cl [(cZ, .boolean), (cJ, .long)] s := va_K.moved hvm.symm hK1
  have hK := hK.app hK1
  obtain ⟨hP, hD⟩ := joinLast hP hD hk1 hF hP1 hD1
  generalize H1 = H at hP hS ⊢
  obtain rfl : ci 1 = cZ := Option.some.inj ((hK.2 1 _ rfl).2.symm.trans (hK.2 3 _ rfl).2)
  have hP : va_P D cl (([(h, .inr (3, [.ref q1, .null, .null]))] ++ cwM ad ci mem0) ++ [(q2, .inr (1, [.ref q16, .ref q17, .ref q18])), (q16, .inl (ci 1, 224, .inl (fun _ => 0))), (q17, .inl (cJ, 224, .inr (.inl (fun _ => 0)))), (q18, .inl (cJ, 224, .inr (.inl (fun _ => 0))))]) H := hP
  have hD : va_D A (([(h, .inr (3, [.ref q1, .null, .null]))] ++ cwM ad ci mem0) ++ [(q2, .inr (1, [.ref q16, .ref q17, .ref q18])), (q16, .inl (ci 1, 224, .inl (fun _ => 0))), (q17, .inl (cJ, 224, .inr (.inl (fun _ => 0)))), (q18, .inl (cJ, 224, .inr (.inl (fun _ => 0))))]) := hD
  refine va_putF (D := D) (ci := 3) (v := .ref q2) (ty := .object "MessageMachine$Methods") (C := "MessageMachine") (T := T_mm) (N := 3) hx hb hg in_mm ty_mm tk_mm nm_mm hown hK hP hD hS 0 rfl rfl 1 (by decide) (hg _ mw_122) (fun _ h9 => h9) rfl hin rfl (by decide +kernel) rfl rfl (Nat.le_of_ble_eq_true rfl) d_mm_init_23 (fun H locs hP hD hS => ?_)
  have hP : va_P D cl (([(h, .inr (3, [.ref q1, .ref q2, .null]))] ++ cwM ad ci mem0) ++ [(q2, .inr (1, [.ref q16, .ref q17, .ref q18])), (q16, .inl (ci 1, 224, .inl (fun _ => 0))), (q17, .inl (cJ, 224, .inr (.inl (fun _ => 0)))), (q18, .inl (cJ, 224, .inr (.inl (fun _ => 0))))]) H := hP
  have hD : va_D A (([(h, .inr (3, [.ref q1, .ref q2, .null]))] ++ cwM ad ci mem0) ++ [(q2, .inr (1, [.ref q16, .ref q17, .ref q18])), (q16, .inl (ci 1, 224, .inl (fun _ => 0))), (q17, .inl (cJ, 224, .inr (.inl (fun _ => 0)))), (q18, .inl (cJ, 224, .inr (.inl (fun _ => 0))))]) := hD
  refine lv_aload_n hx hb d_mm_init_26 rfl (lv_at hl 0 rfl) ?_
  refine va_new (ci := 2) (fs := [.null, .null, .int 0]) (C := "MessageMachine$Processor") (T := T_pr) (N := 3) hx hb hg in_pr ty_pr tk_pr hown (hg _ mw_105) (hg _ mw_106) (hg _ mw_4) hK hP hD hS hA rfl (by decide +kernel) (Nat.le_of_ble_eq_true rfl) (Nat.le_of_ble_eq_true rfl) d_mm_init_27 (fun q3 H hP hD hS => ?_)
  refine lv_dup hx hb d_mm_init_30 rfl ?_
  have hP : va_P D cl ((([(h, .inr (3, [.ref q1, .ref q2, .null]))] ++ cwM ad ci mem0) ++ [(q2, .inr (1, [.ref q16, .ref q17, .ref q18])), (q16, .inl (ci 1, 224, .inl (fun _ => 0))), (q17, .inl (cJ, 224, .inr (.inl (fun _ => 0)))), (q18, .inl (cJ, 224, .inr (.inl (fun _ => 0))))]) ++ [(q3, .inr (2, [.null, .null, .int 0]))]) H := hP
  have hD : va_D A ((([(h, .inr (3, [.ref q1, .ref q2, .null]))] ++ cwM ad ci mem0) ++ [(q2, .inr (1, [.ref q16, .ref q17, .ref q18])), (q16, .inl (ci 1, 224, .inl (fun _ => 0))), (q17, .inl (cJ, 224, .inr (.inl (fun _ => 0)))), (q18, .inl (cJ, 224, .inr (.inl (fun _ => 0))))]) ++ [(q3, .inr (2, [.null, .null, .int 0]))]) := hD
  refine lv_aload_n hx hb d_mm_init_31 rfl (lv_at hl 0 rfl) ?_
  refine va_get (C := "MessageMachine") (T := T_mm) (N := 3) (ci := 3) (v := .ref q1) hx hb hg in_mm hown hK hP 0 rfl rfl 0 (by decide) (hg _ mw_121) (fun _ h => h) rfl d_mm_init_32 ?_
  refine lv_aload_n hx hb d_mm_init_35 rfl (lv_at hl 0 rfl) ?_
  refine va_get (C := "MessageMachine") (T := T_mm) (N := 3) (ci := 3) (v := .ref q2) hx hb hg in_mm hown hK hP 0 rfl rfl 1 (by decide) (hg _ mw_122) (fun _ h => h) rfl d_mm_init_36 ?_
  have hF := lastF hD hS hA
  refine va_callv (va_runI (As := [.ref q1, .ref q2]) (rest := [.ref q3, .ref h]) ⟨hx, hb, hml, hown, hg⟩ (c_pr_init (D := D) q3 H.size q1 q2) (cwI 2 hg (gt_good mw_109) rfl rfl rfl (hg _ mw_4) (hg _ mw_107) (hg _ mw_108) rfl ok_pr_init ⟨by decide, by decide⟩) ⟨fun a U g mk q => by obtain ⟨a0, a1, aP, aK, aN⟩ := q; exact ⟨a0, a1, aP, va_K.moved (u := U) (U := U.calling g mk a) (Vm.Alike.refl U.vm) aK, nst.same (u := U) (U := U.calling g mk a) rfl aN⟩, fun U hU hW => ⟨rfl, by rw [hU], by rw [hU]; exact lastP hP, va_K.moved hW.alike (hK.sub (tys' := []) [] rfl), hN.warm hW⟩⟩ rfl rfl hl.1 rfl (lv_room (Nat.le_of_ble_eq_true rfl)) d_mm_init_39 ⟨Nat.le_of_ble_eq_true rfl, Nat.le_of_ble_eq_true rfl⟩) hS (fun q _ h9 => hF q h9) hF (fun u t H1 locs ht hvm _ hB hz1 hk1 hS => ?_)
  have hB : va_P D cl [(q3, .inr (2, [.ref q1, .ref q2, .int 0]))] t.heap := hB
  rw [ht] at hB
  have hD1 : va_D (va_A [(q3, .inr (2, [.null, .null, .int 0]))] H.size) [(q3, .inr (2, [.ref q1, .ref q2, .int 0]))] := ⟨one_D.1, fun k q hk => by
    have h0 : k < 1 := (List.getElem?_eq_some_iff.mp hk).1
    rw [show k = 0 by omega] at hk
    cases hk
    exact Or.inl ⟨0, _, rfl⟩⟩
  obtain ⟨hP, hD⟩ := joinLast hP hD hk1 hF hB hD1
  generalize H1 = H at hP hS ⊢
  have hP : va_P D cl ((([(h, .inr (3, [.ref q1, .ref q2, .null]))] ++ cwM ad ci mem0) ++ [(q2, .inr (1, [.ref q16, .ref q17, .ref q18])), (q16, .inl (ci 1, 224, .inl (fun _ => 0))), (q17, .inl (cJ, 224, .inr (.inl (fun _ => 0)))), (q18, .inl (cJ, 224, .inr (.inl (fun _ => 0))))]) ++ [(q3, .inr (2, [.ref q1, .ref q2, .int 0]))]) H := hP
  have hD : va_D A ((([(h, .inr (3, [.ref q1, .ref q2, .null]))] ++ cwM ad ci mem0) ++ [(q2, .inr (1, [.ref q16, .ref q17, .ref q18])), (q16, .inl (ci 1, 224, .inl (fun _ => 0))), (q17, .inl (cJ, 224, .inr (.inl (fun _ => 0)))), (q18, .inl (cJ, 224, .inr (.inl (fun _ => 0))))]) ++ [(q3, .inr (2, [.ref q1, .ref q2, .int 0]))]) := hD
  refine va_putF (D := D) (ci := 3) (v := .ref q3) (ty := .object "MessageMachine$Processor") (C := "MessageMachine") (T := T_mm) (N := 3) hx hb hg in_mm ty_mm tk_mm nm_mm hown hK hP hD hS 0 rfl rfl 2 (by decide) (hg _ mw_123) (fun _ h9 => h9) rfl hin rfl (by decide +kernel) rfl rfl (Nat.le_of_ble_eq_true rfl) d_mm_init_42 (fun H locs hP hD hS => ?_)
  have hP : va_P D cl ((([(h, .inr (3, [.ref q1, .ref q2, .ref q3]))] ++ cwM ad ci mem0) ++ [(q2, .inr (1, [.ref q16, .ref q17, .ref q18])), (q16, .inl (ci 1, 224, .inl (fun _ => 0))), (q17, .inl (cJ, 224, .inr (.inl (fun _ => 0)))), (q18, .inl (cJ, 224, .inr (.inl (fun _ => 0))))]) ++ [(q3, .inr (2, [.ref q1, .ref q2, .int 0]))]) H := hP
  have hD : va_D A ((([(h, .inr (3, [.ref q1, .ref q2, .ref q3]))] ++ cwM ad ci mem0) ++ [(q2, .inr (1, [.ref q16, .ref q17, .ref q18])), (q16, .inl (ci 1, 224, .inl (fun _ => 0))), (q17, .inl (cJ, 224, .inr (.inl (fun _ => 0)))), (q18, .inl (cJ, 224, .inr (.inl (fun _ => 0))))]) ++ [(q3, .inr (2, [.ref q1, .ref q2, .int 0]))]) := hD
  have eW : (List.range 47).map (fun i => ((([(h, .inr (3, [.ref q1, .ref q2, .ref q3]))] ++ cwM ad ci mem0) ++ [(q2, .inr (1, [.ref q16, .ref q17, .ref q18])), (q16, .inl (ci 1, 224, .inl (fun _ => 0))), (q17, .inl (cJ, 224, .inr (.inl (fun _ => 0)))), (q18, .inl (cJ, 224, .inr (.inl (fun _ => 0))))]) ++ [(q3, .inr (2, [.ref q1, .ref q2, .int 0]))])[plc i]?) = (cw (ada h q2 q3 q16 q17 q18 ad) (cia cJ ci) mem0).map some := by
    rw [← hpost]
    unfold cw hd rows cwM hdM
    rw [mem0_16, mem0_21, mem0_L, mem0_L]
    simp only [ada_row]
    rfl
  have hP := placeP plc eW hP
  have hD := placeD plc plc_inj eW hD
  have hK : va_K D cl (tyc (cia cJ ci)) s := hK.sub [0, 1, 4, 2] rfl
  have hAA : ∀ q, Aw (ada h q2 q3 q16 q17 q18 ad) q → A q := fun q hq => by
    obtain ⟨k, hk, rfl⟩ := hq
    have hk2 : k < (cw (ada h q2 q3 q16 q17 q18 ad) (cia cJ ci) mem0).length := by rw [cw_len]; exact hk
    have a1 := List.getElem?_eq_getElem hk2
    have := hD.2 k _ a1
    rw [(cw_at a1).2] at this
    exact this
  exact W.vret hx hb hr (fun t ht hW => ⟨⟨(ada h q2 q3 q16 q17 q18 ad, cia cJ ci), rfl, rfl, ⟨by rw [ht]; exact hP, va_K.moved hW.alike hK, hN.warm hW⟩, hD⟩, hS.F ht⟩) hS.2.2 d_mm_init_45 hlocks
