set_option maxHeartbeats 8000000 in
theorem c_mt_init {l : Launch} {D : va_G} (h sz : Nat) : Met l y_mt_init (.code y_mt_init b_mt_init 1 none :: gt) ({ frames := 1, cells := 3, slots := 672, locals := 12 } : Room) (va_Pc [.ref h] (fun U => U.heap.size = sz ∧ va_P D cl [(h, .inr (1, [.null, .null, .null]))] U.heap ∧ va_K D cl [] U ∧ nst U)) (va_Qv (fun _ : Nat × Nat × Nat × ClassId × ClassId => True) (fun u t => va_P D cl [(h, .inr (1, [.ref u.1, .ref u.2.1, .ref u.2.2.1])), (u.1, .inl (u.2.2.2.1, 224, .inl (fun _ => 0))), (u.2.1, .inl (u.2.2.2.2, 224, .inr (.inl (fun _ => 0)))), (u.2.2.1, .inl (u.2.2.2.2, 224, .inr (.inl (fun _ => 0))))] t.heap ∧ va_K D cl [(u.2.2.2.1, .boolean), (u.2.2.2.2, .long)] t ∧ nst t ∧ va_D (va_A [(h, .inr (1, [.null, .null, .null]))] sz) [(h, .inr (1, [.ref u.1, .ref u.2.1, .ref u.2.2.1])), (u.1, .inl (u.2.2.2.1, 224, .inl (fun _ => 0))), (u.2.1, .inl (u.2.2.2.2, 224, .inr (.inl (fun _ => 0)))), (u.2.2.1, .inl (u.2.2.2.2, 224, .inr (.inl (fun _ => 0))))]) (va_A [(h, .inr (1, [.null, .null, .null]))] sz)) 3 672 (va_A [(h, .inr (1, [.null, .null, .null]))] sz) := by
  refine Met.ofW (cc := b_mt_init) (maxL := 1) (ret := none) pn_mt rfl ?_
  intro p e s m args below meth c s₁ B hml hv
  obtain ⟨rfl, hsz, hP, hK, hN⟩ := hv
  have hx := B.exec
  have hb := B.bytes
  have hr := B.returns
  have hts := atoms_spec (ws := .code y_mt_init b_mt_init 1 none :: gt) B.pre
  have hg : ∀ w ∈ gt, w.before _ s = true := fun w hw => hts w (List.mem_cons_of_mem _ hw)
  have hown : s.vm.findClass "MessageMachine$Methods" = some m.cls := findClass_of_methodNamed B.named
  have hlocks := B.notSynchronized
  have hin : meth.name = "<init>" := (name_of_methodNamed B.named B.method).1
  subst hsz
  have hD := (one_D (x := (h, .inr (1, [.null, .null, .null])))).self (sz := s.heap.size)
  generalize hAe : va_A [(h, .inr (1, [.null, .null, .null]))] s.heap.size = A at hD ⊢
  have hA : ∀ q : Nat, s.heap.size ≤ q → A q := fun q h => by rw [← hAe]; exact Or.inr h
  have hS : va_S A s.heap s.heap [] := va_S.rf
  have hl := lv_entry ([.ref h]) (n := 1) (Nat.le_of_ble_eq_true rfl)
  rw [lg_entry_eq]
  generalize (lg_sl ([.ref h]) ++ List.replicate (1 - (lg_sl ([.ref h])).length) Slot.unset).toArray = ls at hl ⊢
  have hl : lv_has ls 1 [(0, .ref h)] := hl
  refine lv_aload_n hx hb d_mt_init_0 rfl (lv_at hl 0 rfl) ?_
  refine W.objInit hx hb hown (hg _ mw_93) (hg _ mw_12) (hg _ mw_13) rfl (by rw [hml]; exact hl.1) rfl d_mt_init_1 (Nat.le_of_ble_eq_true rfl) (Nat.le_of_ble_eq_true rfl) ?_
  refine W.eq (g2 := F0 m 4 ls []) rfl ?_
  refine lv_aload_n hx hb d_mt_init_4 rfl (lv_at hl 0 rfl) ?_
  refine lv_sipush (v := 224) hx hb d_mt_init_5 rfl ?_
  refine va_newa (atype := .boolean) (ty := .boolean) (a0 := (224, .inl (fun _ => 0))) (N' := 224) hx hb (hg _ mw_86) rfl hK hP hD hS hA (fun cA => rfl) (by decide) rfl (by decide) (Nat.le_of_ble_eq_true rfl) (Nat.le_of_ble_eq_true rfl) d_mt_init_8 (fun q16 cZ H hK hP hD hS => ?_)
  have hK : va_K D cl [(cZ, .boolean)] s := hK
  have hP : va_P D cl [(h, .inr (1, [.null, .null, .null])), (q16, .inl (cZ, 224, .inl (fun _ => 0)))] H := hP
  have hD : va_D A [(h, .inr (1, [.null, .null, .null])), (q16, .inl (cZ, 224, .inl (fun _ => 0)))] := hD
  refine va_putF (D := D) (ci := 1) (v := .ref q16) (ty := .array .boolean) (C := "MessageMachine$Methods") (T := T_mt) (N := 3) hx hb hg in_mt ty_mt tk_mt nm_mt hown hK hP hD hS 0 rfl rfl 0 (by decide) (hg _ mw_94) (fun _ h9 => h9) rfl hin rfl (by decide +kernel) rfl rfl (Nat.le_of_ble_eq_true rfl) d_mt_init_10 (fun H locs hP hD hS => ?_)
  have hP : va_P D cl [(h, .inr (1, [.ref q16, .null, .null])), (q16, .inl (cZ, 224, .inl (fun _ => 0)))] H := hP
  have hD : va_D A [(h, .inr (1, [.ref q16, .null, .null])), (q16, .inl (cZ, 224, .inl (fun _ => 0)))] := hD
  refine lv_aload_n hx hb d_mt_init_13 rfl (lv_at hl 0 rfl) ?_
  refine lv_sipush (v := 224) hx hb d_mt_init_14 rfl ?_
  refine va_newa (atype := .long) (ty := .long) (a0 := (224, .inr (.inl (fun _ => 0)))) (N' := 224) hx hb (hg _ mw_104) rfl hK hP hD hS hA (fun cA => rfl) (by decide) rfl (by decide) (Nat.le_of_ble_eq_true rfl) (Nat.le_of_ble_eq_true rfl) d_mt_init_17 (fun q17 cJ H hK hP hD hS => ?_)
  have hK : va_K D cl [(cZ, .boolean), (cJ, .long)] s := hK
  have hP : va_P D cl [(h, .inr (1, [.ref q16, .null, .null])), (q16, .inl (cZ, 224, .inl (fun _ => 0))), (q17, .inl (cJ, 224, .inr (.inl (fun _ => 0))))] H := hP
  have hD : va_D A [(h, .inr (1, [.ref q16, .null, .null])), (q16, .inl (cZ, 224, .inl (fun _ => 0))), (q17, .inl (cJ, 224, .inr (.inl (fun _ => 0))))] := hD
  refine va_putF (D := D) (ci := 1) (v := .ref q17) (ty := .array .long) (C := "MessageMachine$Methods") (T := T_mt) (N := 3) hx hb hg in_mt ty_mt tk_mt nm_mt hown hK hP hD hS 0 rfl rfl 1 (by decide) (hg _ mw_95) (fun _ h9 => h9) rfl hin rfl (by decide +kernel) rfl rfl (Nat.le_of_ble_eq_true rfl) d_mt_init_19 (fun H locs hP hD hS => ?_)
  have hP : va_P D cl [(h, .inr (1, [.ref q16, .ref q17, .null])), (q16, .inl (cZ, 224, .inl (fun _ => 0))), (q17, .inl (cJ, 224, .inr (.inl (fun _ => 0))))] H := hP
  have hD : va_D A [(h, .inr (1, [.ref q16, .ref q17, .null])), (q16, .inl (cZ, 224, .inl (fun _ => 0))), (q17, .inl (cJ, 224, .inr (.inl (fun _ => 0))))] := hD
  refine lv_aload_n hx hb d_mt_init_22 rfl (lv_at hl 0 rfl) ?_
  refine lv_sipush (v := 224) hx hb d_mt_init_23 rfl ?_
  refine va_newa (atype := .long) (ty := .long) (a0 := (224, .inr (.inl (fun _ => 0)))) (N' := 224) hx hb (hg _ mw_104) rfl hK hP hD hS hA (fun cA => rfl) (by decide) rfl (by decide) (Nat.le_of_ble_eq_true rfl) (Nat.le_of_ble_eq_true rfl) d_mt_init_26 (fun q18 c9 H hK hP hD hS => ?_)
  have hK : va_K D cl [(cZ, .boolean), (cJ, .long), (c9, .long)] s := hK
  obtain rfl : cJ = c9 := Option.some.inj ((hK.2 1 _ rfl).2.symm.trans (hK.2 2 _ rfl).2)
  have hK := hK.sub (tys' := [(cZ, .boolean), (cJ, .long)]) [0, 1] rfl
  have hP : va_P D cl [(h, .inr (1, [.ref q16, .ref q17, .null])), (q16, .inl (cZ, 224, .inl (fun _ => 0))), (q17, .inl (cJ, 224, .inr (.inl (fun _ => 0)))), (q18, .inl (cJ, 224, .inr (.inl (fun _ => 0))))] H := hP
  have hD : va_D A [(h, .inr (1, [.ref q16, .ref q17, .null])), (q16, .inl (cZ, 224, .inl (fun _ => 0))), (q17, .inl (cJ, 224, .inr (.inl (fun _ => 0)))), (q18, .inl (cJ, 224, .inr (.inl (fun _ => 0))))] := hD
  refine va_putF (D := D) (ci := 1) (v := .ref q18) (ty := .array .long) (C := "MessageMachine$Methods") (T := T_mt) (N := 3) hx hb hg in_mt ty_mt tk_mt nm_mt hown hK hP hD hS 0 rfl rfl 2 (by decide) (hg _ mw_96) (fun _ h9 => h9) rfl hin rfl (by decide +kernel) rfl rfl (Nat.le_of_ble_eq_true rfl) d_mt_init_28 (fun H locs hP hD hS => ?_)
  have hP : va_P D cl [(h, .inr (1, [.ref q16, .ref q17, .ref q18])), (q16, .inl (cZ, 224, .inl (fun _ => 0))), (q17, .inl (cJ, 224, .inr (.inl (fun _ => 0)))), (q18, .inl (cJ, 224, .inr (.inl (fun _ => 0))))] H := hP
  have hD : va_D A [(h, .inr (1, [.ref q16, .ref q17, .ref q18])), (q16, .inl (cZ, 224, .inl (fun _ => 0))), (q17, .inl (cJ, 224, .inr (.inl (fun _ => 0)))), (q18, .inl (cJ, 224, .inr (.inl (fun _ => 0))))] := hD
  exact W.vret hx hb hr (fun t ht hW => ⟨⟨(q16, q17, q18, cZ, cJ), rfl, trivial, by rw [ht]; exact hP, va_K.moved hW.alike hK, hN.warm hW, hD⟩, hS.F ht⟩) hS.2.2 d_mt_init_31 hlocks
set_option maxHeartbeats 8000000 in
theorem c_pr_init {l : Launch} {D : va_G} (h sz : Nat) (a b : Nat) : Met l y_pr_init (.code y_pr_init b_pr_init 3 none :: gt) ({ frames := 1, cells := 0, slots := 0, locals := 12 } : Room) (va_Pc [.ref h, .ref a, .ref b] (fun U => U.heap.size = sz ∧ va_P D cl [(h, .inr (2, [.null, .null, .int 0]))] U.heap ∧ va_K D cl [] U ∧ nst U)) (va_Qv (fun _ : Unit => True) (fun _ t => va_P D cl [(h, .inr (2, [.ref a, .ref b, .int 0]))] t.heap) (va_A [(h, .inr (2, [.null, .null, .int 0]))] sz)) 0 0 (va_A [(h, .inr (2, [.null, .null, .int 0]))] sz) := by
  refine Met.ofW (cc := b_pr_init) (maxL := 3) (ret := none) pn_pr rfl ?_
  intro p e s m args below meth c s₁ B hml hv
  obtain ⟨rfl, hsz, hP, hK, hN⟩ := hv
  have hx := B.exec
  have hb := B.bytes
  have hr := B.returns
  have hts := atoms_spec (ws := .code y_pr_init b_pr_init 3 none :: gt) B.pre
  have hg : ∀ w ∈ gt, w.before _ s = true := fun w hw => hts w (List.mem_cons_of_mem _ hw)
  have hown : s.vm.findClass "MessageMachine$Processor" = some m.cls := findClass_of_methodNamed B.named
  have hlocks := B.notSynchronized
  have hin : meth.name = "<init>" := (name_of_methodNamed B.named B.method).1
  subst hsz
  have hD := (one_D (x := (h, .inr (2, [.null, .null, .int 0])))).self (sz := s.heap.size)
  generalize hAe : va_A [(h, .inr (2, [.null, .null, .int 0]))] s.heap.size = A at hD ⊢
  have hA : ∀ q : Nat, s.heap.size ≤ q → A q := fun q h => by rw [← hAe]; exact Or.inr h
  have hS : va_S A s.heap s.heap [] := va_S.rf
  have hl := lv_entry ([.ref h, .ref a, .ref b]) (n := 3) (Nat.le_of_ble_eq_true rfl)
  rw [lg_entry_eq]
  generalize (lg_sl ([.ref h, .ref a, .ref b]) ++ List.replicate (3 - (lg_sl ([.ref h, .ref a, .ref b])).length) Slot.unset).toArray = ls at hl ⊢
  have hl : lv_has ls 3 [(0, .ref h), (1, .ref a), (2, .ref b)] := hl
  refine lv_aload_n hx hb d_pr_init_0 rfl (lv_at hl 0 rfl) ?_
  refine W.objInit hx hb hown (hg _ mw_110) (hg _ mw_12) (hg _ mw_13) rfl (by rw [hml]; exact hl.1) rfl d_pr_init_1 (Nat.le_of_ble_eq_true rfl) (Nat.le_of_ble_eq_true rfl) ?_
  refine W.eq (g2 := F0 m 4 ls []) rfl ?_
  refine lv_aload_n hx hb d_pr_init_4 rfl (lv_at hl 0 rfl) ?_
  refine lv_iconst (v := 0) hx hb d_pr_init_5 rfl ?_
  refine va_put (C := "MessageMachine$Processor") (T := T_pr) (N := 3) (ci := 2) (ty := .int) hx hb hg in_pr ty_pr tk_pr nm_pr hown hK hP hD hS 0 rfl rfl 2 (by decide) (hg _ mw_113) (fun _ h => h) rfl (by decide +kernel) rfl rfl (Nat.le_of_ble_eq_true rfl) d_pr_init_6 (fun H locs hP hD hS => ?_)
  have hP : va_P D cl [(h, .inr (2, [.null, .null, .int 0]))] H := hP
  have hD : va_D A [(h, .inr (2, [.null, .null, .int 0]))] := hD
  refine lv_aload_n hx hb d_pr_init_9 rfl (lv_at hl 0 rfl) ?_
  refine lv_aload_n hx hb d_pr_init_10 rfl (lv_at hl 1 rfl) ?_
  refine va_putF (D := D) (ci := 2) (v := .ref a) (ty := .object "MessageMachine$Memory") (C := "MessageMachine$Processor") (T := T_pr) (N := 3) hx hb hg in_pr ty_pr tk_pr nm_pr hown hK hP hD hS 0 rfl rfl 0 (by decide) (hg _ mw_111) (fun _ h9 => h9) rfl hin rfl (by decide +kernel) rfl rfl (Nat.le_of_ble_eq_true rfl) d_pr_init_11 (fun H locs hP hD hS => ?_)
  have hP : va_P D cl [(h, .inr (2, [.ref a, .null, .int 0]))] H := hP
  have hD : va_D A [(h, .inr (2, [.ref a, .null, .int 0]))] := hD
  refine lv_aload_n hx hb d_pr_init_14 rfl (lv_at hl 0 rfl) ?_
  refine lv_aload_n hx hb d_pr_init_15 rfl (lv_at hl 2 rfl) ?_
  refine va_putF (D := D) (ci := 2) (v := .ref b) (ty := .object "MessageMachine$Methods") (C := "MessageMachine$Processor") (T := T_pr) (N := 3) hx hb hg in_pr ty_pr tk_pr nm_pr hown hK hP hD hS 0 rfl rfl 1 (by decide) (hg _ mw_112) (fun _ h9 => h9) rfl hin rfl (by decide +kernel) rfl rfl (Nat.le_of_ble_eq_true rfl) d_pr_init_16 (fun H locs hP hD hS => ?_)
  have hP : va_P D cl [(h, .inr (2, [.ref a, .ref b, .int 0]))] H := hP
  have hD : va_D A [(h, .inr (2, [.ref a, .ref b, .int 0]))] := hD
  exact W.vret hx hb hr (fun t ht hW => ⟨⟨(), rfl, trivial, by show va_P _ _ _ t.heap; rw [ht]; exact hP⟩, hS.F ht⟩) hS.2.2 d_pr_init_19 hlocks
