set_option maxHeartbeats 8000000 in
theorem c_me_init {l : Launch} {D : va_G} (h sz : Nat) : Met l y_me_init (.code y_me_init b_me_init 1 none :: gt) ({ frames := 3, cells := 40, slots := 735, locals := 67 } : Room) (va_Pc [.ref h] (fun U => U.heap.size = sz ∧ va_P D cl [(h, .inr (0, [.null, .null, .null, .null, .null, .null, .null, .null, .null, .null, .null, .null, .int 0]))] U.heap ∧ va_K D cl [] U ∧ nst U ∧ aoa U)) (va_Qv (fun u : (Nat → Nat) × (Nat → ClassId) => u.1 1 = h) (fun u t => Pq (EM D u.1 u.2) mem0 t ∧ va_D (va_A [(h, .inr (0, [.null, .null, .null, .null, .null, .null, .null, .null, .null, .null, .null, .null, .int 0]))] sz) (cwM u.1 u.2 mem0)) (va_A [(h, .inr (0, [.null, .null, .null, .null, .null, .null, .null, .null, .null, .null, .null, .null, .int 0]))] sz)) 40 735 (va_A [(h, .inr (0, [.null, .null, .null, .null, .null, .null, .null, .null, .null, .null, .null, .null, .int 0]))] sz) := by
  refine Met.ofW (cc := b_me_init) (maxL := 1) (ret := none) pn_me rfl ?_
  intro p e s m args below meth c s₁ B hml hv
  obtain ⟨rfl, hsz, hP, hK, hN, hO⟩ := hv
  have hx := B.exec
  have hb := B.bytes
  have hr := B.returns
  have hts := atoms_spec (ws := .code y_me_init b_me_init 1 none :: gt) B.pre
  have hg : ∀ w ∈ gt, w.before _ s = true := fun w hw => hts w (List.mem_cons_of_mem _ hw)
  have hown : s.vm.findClass "MessageMachine$Memory" = some m.cls := findClass_of_methodNamed B.named
  have hlocks := B.notSynchronized
  have hin : meth.name = "<init>" := (name_of_methodNamed B.named B.method).1
  subst hsz
  have hD := (one_D (x := (h, .inr (0, [.null, .null, .null, .null, .null, .null, .null, .null, .null, .null, .null, .null, .int 0])))).self (sz := s.heap.size)
  generalize hAe : va_A [(h, .inr (0, [.null, .null, .null, .null, .null, .null, .null, .null, .null, .null, .null, .null, .int 0]))] s.heap.size = A at hD ⊢
  have hA : ∀ q : Nat, s.heap.size ≤ q → A q := fun q h => by rw [← hAe]; exact Or.inr h
  have hS : va_S A s.heap s.heap [] := va_S.rf
  have hl := lv_entry ([.ref h]) (n := 1) (Nat.le_of_ble_eq_true rfl)
  rw [lg_entry_eq]
  generalize (lg_sl ([.ref h]) ++ List.replicate (1 - (lg_sl ([.ref h])).length) Slot.unset).toArray = ls at hl ⊢
  have hl : lv_has ls 1 [(0, .ref h)] := hl
  refine lv_aload_n hx hb d_me_init_0 rfl (lv_at hl 0 rfl) ?_
  refine W.objInit hx hb hown (hg _ mw_19) (hg _ mw_12) (hg _ mw_13) rfl (by rw [hml]; exact hl.1) rfl d_me_init_1 (Nat.le_of_ble_eq_true rfl) (Nat.le_of_ble_eq_true rfl) ?_
  refine W.eq (g2 := F0 m 4 ls []) rfl ?_
  refine lv_aload_n hx hb d_me_init_4 rfl (lv_at hl 0 rfl) ?_
  refine lv_bipush (v := 28) hx hb d_me_init_5 rfl ?_
  refine va_newa (atype := .boolean) (ty := .boolean) (a0 := (28, .inl (fun _ => 0))) (N' := 28) hx hb (hg _ mw_86) rfl hK hP hD hS hA (fun cA => rfl) (by decide) rfl (by decide) (Nat.le_of_ble_eq_true rfl) (Nat.le_of_ble_eq_true rfl) d_me_init_7 (fun q4 cZ H hK hP hD hS => ?_)
  have hK : va_K D cl [(cZ, .boolean)] s := hK
  have hP : va_P D cl ([(h, .inr (0, [.null, .null, .null, .null, .null, .null, .null, .null, .null, .null, .null, .null, .int 0])), (q4, .inl (cZ, 28, .inl (fun _ => 0)))]) H := hP
  have hD : va_D A ([(h, .inr (0, [.null, .null, .null, .null, .null, .null, .null, .null, .null, .null, .null, .null, .int 0])), (q4, .inl (cZ, 28, .inl (fun _ => 0)))]) := hD
  refine va_putF (D := D) (ci := 0) (v := .ref q4) (ty := .array .boolean) (C := "MessageMachine$Memory") (T := T_me) (N := 13) hx hb hg in_me ty_me tk_me nm_me hown hK hP hD hS 0 rfl rfl 0 (by decide) (hg _ mw_46) (fun _ h9 => h9) rfl hin rfl (by decide +kernel) rfl rfl (Nat.le_of_ble_eq_true rfl) d_me_init_9 (fun H locs hP hD hS => ?_)
  have hP : va_P D cl ([(h, .inr (0, [.ref q4, .null, .null, .null, .null, .null, .null, .null, .null, .null, .null, .null, .int 0])), (q4, .inl (cZ, 28, .inl (fun _ => 0)))]) H := hP
  have hD : va_D A ([(h, .inr (0, [.ref q4, .null, .null, .null, .null, .null, .null, .null, .null, .null, .null, .null, .int 0])), (q4, .inl (cZ, 28, .inl (fun _ => 0)))]) := hD
  refine lv_aload_n hx hb d_me_init_12 rfl (lv_at hl 0 rfl) ?_
  refine lv_bipush (v := 28) hx hb d_me_init_13 rfl ?_
  refine va_newa (atype := .boolean) (ty := .boolean) (a0 := (28, .inl (fun _ => 0))) (N' := 28) hx hb (hg _ mw_86) rfl hK hP hD hS hA (fun cA => rfl) (by decide) rfl (by decide) (Nat.le_of_ble_eq_true rfl) (Nat.le_of_ble_eq_true rfl) d_me_init_15 (fun q5 c9 H hK hP hD hS => ?_)
  have hK : va_K D cl [(cZ, .boolean), (c9, .boolean)] s := hK
  obtain rfl : cZ = c9 := Option.some.inj ((hK.2 0 _ rfl).2.symm.trans (hK.2 1 _ rfl).2)
  have hK := hK.sub (tys' := [(cZ, .boolean)]) [0] rfl
  have hP : va_P D cl ([(h, .inr (0, [.ref q4, .null, .null, .null, .null, .null, .null, .null, .null, .null, .null, .null, .int 0])), (q4, .inl (cZ, 28, .inl (fun _ => 0))), (q5, .inl (cZ, 28, .inl (fun _ => 0)))]) H := hP
  have hD : va_D A ([(h, .inr (0, [.ref q4, .null, .null, .null, .null, .null, .null, .null, .null, .null, .null, .null, .int 0])), (q4, .inl (cZ, 28, .inl (fun _ => 0))), (q5, .inl (cZ, 28, .inl (fun _ => 0)))]) := hD
  refine va_putF (D := D) (ci := 0) (v := .ref q5) (ty := .array .boolean) (C := "MessageMachine$Memory") (T := T_me) (N := 13) hx hb hg in_me ty_me tk_me nm_me hown hK hP hD hS 0 rfl rfl 1 (by decide) (hg _ mw_47) (fun _ h9 => h9) rfl hin rfl (by decide +kernel) rfl rfl (Nat.le_of_ble_eq_true rfl) d_me_init_17 (fun H locs hP hD hS => ?_)
  have hP : va_P D cl ([(h, .inr (0, [.ref q4, .ref q5, .null, .null, .null, .null, .null, .null, .null, .null, .null, .null, .int 0])), (q4, .inl (cZ, 28, .inl (fun _ => 0))), (q5, .inl (cZ, 28, .inl (fun _ => 0)))]) H := hP
  have hD : va_D A ([(h, .inr (0, [.ref q4, .ref q5, .null, .null, .null, .null, .null, .null, .null, .null, .null, .null, .int 0])), (q4, .inl (cZ, 28, .inl (fun _ => 0))), (q5, .inl (cZ, 28, .inl (fun _ => 0)))]) := hD
  refine lv_aload_n hx hb d_me_init_20 rfl (lv_at hl 0 rfl) ?_
  refine lv_bipush (v := 28) hx hb d_me_init_21 rfl ?_
  refine va_newa (atype := .boolean) (ty := .boolean) (a0 := (28, .inl (fun _ => 0))) (N' := 28) hx hb (hg _ mw_86) rfl hK hP hD hS hA (fun cA => rfl) (by decide) rfl (by decide) (Nat.le_of_ble_eq_true rfl) (Nat.le_of_ble_eq_true rfl) d_me_init_23 (fun q6 c9 H hK hP hD hS => ?_)
  have hK : va_K D cl [(cZ, .boolean), (c9, .boolean)] s := hK
  obtain rfl : cZ = c9 := Option.some.inj ((hK.2 0 _ rfl).2.symm.trans (hK.2 1 _ rfl).2)
  have hK := hK.sub (tys' := [(cZ, .boolean)]) [0] rfl
  have hP : va_P D cl ([(h, .inr (0, [.ref q4, .ref q5, .null, .null, .null, .null, .null, .null, .null, .null, .null, .null, .int 0])), (q4, .inl (cZ, 28, .inl (fun _ => 0))), (q5, .inl (cZ, 28, .inl (fun _ => 0))), (q6, .inl (cZ, 28, .inl (fun _ => 0)))]) H := hP
  have hD : va_D A ([(h, .inr (0, [.ref q4, .ref q5, .null, .null, .null, .null, .null, .null, .null, .null, .null, .null, .int 0])), (q4, .inl (cZ, 28, .inl (fun _ => 0))), (q5, .inl (cZ, 28, .inl (fun _ => 0))), (q6, .inl (cZ, 28, .inl (fun _ => 0)))]) := hD
  refine va_putF (D := D) (ci := 0) (v := .ref q6) (ty := .array .boolean) (C := "MessageMachine$Memory") (T := T_me) (N := 13) hx hb hg in_me ty_me tk_me nm_me hown hK hP hD hS 0 rfl rfl 2 (by decide) (hg _ mw_48) (fun _ h9 => h9) rfl hin rfl (by decide +kernel) rfl rfl (Nat.le_of_ble_eq_true rfl) d_me_init_25 (fun H locs hP hD hS => ?_)
  have hP : va_P D cl ([(h, .inr (0, [.ref q4, .ref q5, .ref q6, .null, .null, .null, .null, .null, .null, .null, .null, .null, .int 0])), (q4, .inl (cZ, 28, .inl (fun _ => 0))), (q5, .inl (cZ, 28, .inl (fun _ => 0))), (q6, .inl (cZ, 28, .inl (fun _ => 0)))]) H := hP
  have hD : va_D A ([(h, .inr (0, [.ref q4, .ref q5, .ref q6, .null, .null, .null, .null, .null, .null, .null, .null, .null, .int 0])), (q4, .inl (cZ, 28, .inl (fun _ => 0))), (q5, .inl (cZ, 28, .inl (fun _ => 0))), (q6, .inl (cZ, 28, .inl (fun _ => 0)))]) := hD
  refine lv_aload_n hx hb d_me_init_28 rfl (lv_at hl 0 rfl) ?_
  refine lv_bipush (v := 28) hx hb d_me_init_29 rfl ?_
  refine va_newa (atype := .int) (ty := .int) (a0 := (28, .inl (fun _ => 0))) (N' := 28) hx hb (hg _ mw_87) rfl hK hP hD hS hA (fun cA => rfl) (by decide) rfl (by decide) (Nat.le_of_ble_eq_true rfl) (Nat.le_of_ble_eq_true rfl) d_me_init_31 (fun q7 cI H hK hP hD hS => ?_)
  have hK : va_K D cl [(cZ, .boolean), (cI, .int)] s := hK
  have hP : va_P D cl ([(h, .inr (0, [.ref q4, .ref q5, .ref q6, .null, .null, .null, .null, .null, .null, .null, .null, .null, .int 0])), (q4, .inl (cZ, 28, .inl (fun _ => 0))), (q5, .inl (cZ, 28, .inl (fun _ => 0))), (q6, .inl (cZ, 28, .inl (fun _ => 0))), (q7, .inl (cI, 28, .inl (fun _ => 0)))]) H := hP
  have hD : va_D A ([(h, .inr (0, [.ref q4, .ref q5, .ref q6, .null, .null, .null, .null, .null, .null, .null, .null, .null, .int 0])), (q4, .inl (cZ, 28, .inl (fun _ => 0))), (q5, .inl (cZ, 28, .inl (fun _ => 0))), (q6, .inl (cZ, 28, .inl (fun _ => 0))), (q7, .inl (cI, 28, .inl (fun _ => 0)))]) := hD
  refine va_putF (D := D) (ci := 0) (v := .ref q7) (ty := .array .int) (C := "MessageMachine$Memory") (T := T_me) (N := 13) hx hb hg in_me ty_me tk_me nm_me hown hK hP hD hS 0 rfl rfl 3 (by decide) (hg _ mw_49) (fun _ h9 => h9) rfl hin rfl (by decide +kernel) rfl rfl (Nat.le_of_ble_eq_true rfl) d_me_init_33 (fun H locs hP hD hS => ?_)
  have hP : va_P D cl ([(h, .inr (0, [.ref q4, .ref q5, .ref q6, .ref q7, .null, .null, .null, .null, .null, .null, .null, .null, .int 0])), (q4, .inl (cZ, 28, .inl (fun _ => 0))), (q5, .inl (cZ, 28, .inl (fun _ => 0))), (q6, .inl (cZ, 28, .inl (fun _ => 0))), (q7, .inl (cI, 28, .inl (fun _ => 0)))]) H := hP
  have hD : va_D A ([(h, .inr (0, [.ref q4, .ref q5, .ref q6, .ref q7, .null, .null, .null, .null, .null, .null, .null, .null, .int 0])), (q4, .inl (cZ, 28, .inl (fun _ => 0))), (q5, .inl (cZ, 28, .inl (fun _ => 0))), (q6, .inl (cZ, 28, .inl (fun _ => 0))), (q7, .inl (cI, 28, .inl (fun _ => 0)))]) := hD
  refine lv_aload_n hx hb d_me_init_36 rfl (lv_at hl 0 rfl) ?_
  refine lv_bipush (v := 28) hx hb d_me_init_37 rfl ?_
  refine va_newa (atype := .int) (ty := .int) (a0 := (28, .inl (fun _ => 0))) (N' := 28) hx hb (hg _ mw_87) rfl hK hP hD hS hA (fun cA => rfl) (by decide) rfl (by decide) (Nat.le_of_ble_eq_true rfl) (Nat.le_of_ble_eq_true rfl) d_me_init_39 (fun q8 c9 H hK hP hD hS => ?_)
  have hK : va_K D cl [(cZ, .boolean), (cI, .int), (c9, .int)] s := hK
  obtain rfl : cI = c9 := Option.some.inj ((hK.2 1 _ rfl).2.symm.trans (hK.2 2 _ rfl).2)
  have hK := hK.sub (tys' := [(cZ, .boolean), (cI, .int)]) [0, 1] rfl
  have hP : va_P D cl ([(h, .inr (0, [.ref q4, .ref q5, .ref q6, .ref q7, .null, .null, .null, .null, .null, .null, .null, .null, .int 0])), (q4, .inl (cZ, 28, .inl (fun _ => 0))), (q5, .inl (cZ, 28, .inl (fun _ => 0))), (q6, .inl (cZ, 28, .inl (fun _ => 0))), (q7, .inl (cI, 28, .inl (fun _ => 0))), (q8, .inl (cI, 28, .inl (fun _ => 0)))]) H := hP
  have hD : va_D A ([(h, .inr (0, [.ref q4, .ref q5, .ref q6, .ref q7, .null, .null, .null, .null, .null, .null, .null, .null, .int 0])), (q4, .inl (cZ, 28, .inl (fun _ => 0))), (q5, .inl (cZ, 28, .inl (fun _ => 0))), (q6, .inl (cZ, 28, .inl (fun _ => 0))), (q7, .inl (cI, 28, .inl (fun _ => 0))), (q8, .inl (cI, 28, .inl (fun _ => 0)))]) := hD
  refine va_putF (D := D) (ci := 0) (v := .ref q8) (ty := .array .int) (C := "MessageMachine$Memory") (T := T_me) (N := 13) hx hb hg in_me ty_me tk_me nm_me hown hK hP hD hS 0 rfl rfl 4 (by decide) (hg _ mw_50) (fun _ h9 => h9) rfl hin rfl (by decide +kernel) rfl rfl (Nat.le_of_ble_eq_true rfl) d_me_init_41 (fun H locs hP hD hS => ?_)
  have hP : va_P D cl ([(h, .inr (0, [.ref q4, .ref q5, .ref q6, .ref q7, .ref q8, .null, .null, .null, .null, .null, .null, .null, .int 0])), (q4, .inl (cZ, 28, .inl (fun _ => 0))), (q5, .inl (cZ, 28, .inl (fun _ => 0))), (q6, .inl (cZ, 28, .inl (fun _ => 0))), (q7, .inl (cI, 28, .inl (fun _ => 0))), (q8, .inl (cI, 28, .inl (fun _ => 0)))]) H := hP
  have hD : va_D A ([(h, .inr (0, [.ref q4, .ref q5, .ref q6, .ref q7, .ref q8, .null, .null, .null, .null, .null, .null, .null, .int 0])), (q4, .inl (cZ, 28, .inl (fun _ => 0))), (q5, .inl (cZ, 28, .inl (fun _ => 0))), (q6, .inl (cZ, 28, .inl (fun _ => 0))), (q7, .inl (cI, 28, .inl (fun _ => 0))), (q8, .inl (cI, 28, .inl (fun _ => 0)))]) := hD
  refine lv_aload_n hx hb d_me_init_44 rfl (lv_at hl 0 rfl) ?_
  refine lv_bipush (v := 28) hx hb d_me_init_45 rfl ?_
  refine va_newa (atype := .int) (ty := .int) (a0 := (28, .inl (fun _ => 0))) (N' := 28) hx hb (hg _ mw_87) rfl hK hP hD hS hA (fun cA => rfl) (by decide) rfl (by decide) (Nat.le_of_ble_eq_true rfl) (Nat.le_of_ble_eq_true rfl) d_me_init_47 (fun q9 c9 H hK hP hD hS => ?_)
  have hK : va_K D cl [(cZ, .boolean), (cI, .int), (c9, .int)] s := hK
  obtain rfl : cI = c9 := Option.some.inj ((hK.2 1 _ rfl).2.symm.trans (hK.2 2 _ rfl).2)
  have hK := hK.sub (tys' := [(cZ, .boolean), (cI, .int)]) [0, 1] rfl
  have hP : va_P D cl ([(h, .inr (0, [.ref q4, .ref q5, .ref q6, .ref q7, .ref q8, .null, .null, .null, .null, .null, .null, .null, .int 0])), (q4, .inl (cZ, 28, .inl (fun _ => 0))), (q5, .inl (cZ, 28, .inl (fun _ => 0))), (q6, .inl (cZ, 28, .inl (fun _ => 0))), (q7, .inl (cI, 28, .inl (fun _ => 0))), (q8, .inl (cI, 28, .inl (fun _ => 0))), (q9, .inl (cI, 28, .inl (fun _ => 0)))]) H := hP
  have hD : va_D A ([(h, .inr (0, [.ref q4, .ref q5, .ref q6, .ref q7, .ref q8, .null, .null, .null, .null, .null, .null, .null, .int 0])), (q4, .inl (cZ, 28, .inl (fun _ => 0))), (q5, .inl (cZ, 28, .inl (fun _ => 0))), (q6, .inl (cZ, 28, .inl (fun _ => 0))), (q7, .inl (cI, 28, .inl (fun _ => 0))), (q8, .inl (cI, 28, .inl (fun _ => 0))), (q9, .inl (cI, 28, .inl (fun _ => 0)))]) := hD
  refine va_putF (D := D) (ci := 0) (v := .ref q9) (ty := .array .int) (C := "MessageMachine$Memory") (T := T_me) (N := 13) hx hb hg in_me ty_me tk_me nm_me hown hK hP hD hS 0 rfl rfl 5 (by decide) (hg _ mw_51) (fun _ h9 => h9) rfl hin rfl (by decide +kernel) rfl rfl (Nat.le_of_ble_eq_true rfl) d_me_init_49 (fun H locs hP hD hS => ?_)
  have hP : va_P D cl ([(h, .inr (0, [.ref q4, .ref q5, .ref q6, .ref q7, .ref q8, .ref q9, .null, .null, .null, .null, .null, .null, .int 0])), (q4, .inl (cZ, 28, .inl (fun _ => 0))), (q5, .inl (cZ, 28, .inl (fun _ => 0))), (q6, .inl (cZ, 28, .inl (fun _ => 0))), (q7, .inl (cI, 28, .inl (fun _ => 0))), (q8, .inl (cI, 28, .inl (fun _ => 0))), (q9, .inl (cI, 28, .inl (fun _ => 0)))]) H := hP
  have hD : va_D A ([(h, .inr (0, [.ref q4, .ref q5, .ref q6, .ref q7, .ref q8, .ref q9, .null, .null, .null, .null, .null, .null, .int 0])), (q4, .inl (cZ, 28, .inl (fun _ => 0))), (q5, .inl (cZ, 28, .inl (fun _ => 0))), (q6, .inl (cZ, 28, .inl (fun _ => 0))), (q7, .inl (cI, 28, .inl (fun _ => 0))), (q8, .inl (cI, 28, .inl (fun _ => 0))), (q9, .inl (cI, 28, .inl (fun _ => 0)))]) := hD
  refine lv_aload_n hx hb d_me_init_52 rfl (lv_at hl 0 rfl) ?_
  refine lv_bipush (v := 28) hx hb d_me_init_53 rfl ?_
  refine va_newa (atype := .int) (ty := .int) (a0 := (28, .inl (fun _ => 0))) (N' := 28) hx hb (hg _ mw_87) rfl hK hP hD hS hA (fun cA => rfl) (by decide) rfl (by decide) (Nat.le_of_ble_eq_true rfl) (Nat.le_of_ble_eq_true rfl) d_me_init_55 (fun q10 c9 H hK hP hD hS => ?_)
  have hK : va_K D cl [(cZ, .boolean), (cI, .int), (c9, .int)] s := hK
  obtain rfl : cI = c9 := Option.some.inj ((hK.2 1 _ rfl).2.symm.trans (hK.2 2 _ rfl).2)
  have hK := hK.sub (tys' := [(cZ, .boolean), (cI, .int)]) [0, 1] rfl
  have hP : va_P D cl ([(h, .inr (0, [.ref q4, .ref q5, .ref q6, .ref q7, .ref q8, .ref q9, .null, .null, .null, .null, .null, .null, .int 0])), (q4, .inl (cZ, 28, .inl (fun _ => 0))), (q5, .inl (cZ, 28, .inl (fun _ => 0))), (q6, .inl (cZ, 28, .inl (fun _ => 0))), (q7, .inl (cI, 28, .inl (fun _ => 0))), (q8, .inl (cI, 28, .inl (fun _ => 0))), (q9, .inl (cI, 28, .inl (fun _ => 0))), (q10, .inl (cI, 28, .inl (fun _ => 0)))]) H := hP
  have hD : va_D A ([(h, .inr (0, [.ref q4, .ref q5, .ref q6, .ref q7, .ref q8, .ref q9, .null, .null, .null, .null, .null, .null, .int 0])), (q4, .inl (cZ, 28, .inl (fun _ => 0))), (q5, .inl (cZ, 28, .inl (fun _ => 0))), (q6, .inl (cZ, 28, .inl (fun _ => 0))), (q7, .inl (cI, 28, .inl (fun _ => 0))), (q8, .inl (cI, 28, .inl (fun _ => 0))), (q9, .inl (cI, 28, .inl (fun _ => 0))), (q10, .inl (cI, 28, .inl (fun _ => 0)))]) := hD
  refine va_putF (D := D) (ci := 0) (v := .ref q10) (ty := .array .int) (C := "MessageMachine$Memory") (T := T_me) (N := 13) hx hb hg in_me ty_me tk_me nm_me hown hK hP hD hS 0 rfl rfl 6 (by decide) (hg _ mw_52) (fun _ h9 => h9) rfl hin rfl (by decide +kernel) rfl rfl (Nat.le_of_ble_eq_true rfl) d_me_init_57 (fun H locs hP hD hS => ?_)
  have hP : va_P D cl ([(h, .inr (0, [.ref q4, .ref q5, .ref q6, .ref q7, .ref q8, .ref q9, .ref q10, .null, .null, .null, .null, .null, .int 0])), (q4, .inl (cZ, 28, .inl (fun _ => 0))), (q5, .inl (cZ, 28, .inl (fun _ => 0))), (q6, .inl (cZ, 28, .inl (fun _ => 0))), (q7, .inl (cI, 28, .inl (fun _ => 0))), (q8, .inl (cI, 28, .inl (fun _ => 0))), (q9, .inl (cI, 28, .inl (fun _ => 0))), (q10, .inl (cI, 28, .inl (fun _ => 0)))]) H := hP
  have hD : va_D A ([(h, .inr (0, [.ref q4, .ref q5, .ref q6, .ref q7, .ref q8, .ref q9, .ref q10, .null, .null, .null, .null, .null, .int 0])), (q4, .inl (cZ, 28, .inl (fun _ => 0))), (q5, .inl (cZ, 28, .inl (fun _ => 0))), (q6, .inl (cZ, 28, .inl (fun _ => 0))), (q7, .inl (cI, 28, .inl (fun _ => 0))), (q8, .inl (cI, 28, .inl (fun _ => 0))), (q9, .inl (cI, 28, .inl (fun _ => 0))), (q10, .inl (cI, 28, .inl (fun _ => 0)))]) := hD
  refine lv_aload_n hx hb d_me_init_60 rfl (lv_at hl 0 rfl) ?_
  refine lv_bipush (v := 28) hx hb d_me_init_61 rfl ?_
  refine va_newa (atype := .int) (ty := .int) (a0 := (28, .inl (fun _ => 0))) (N' := 28) hx hb (hg _ mw_87) rfl hK hP hD hS hA (fun cA => rfl) (by decide) rfl (by decide) (Nat.le_of_ble_eq_true rfl) (Nat.le_of_ble_eq_true rfl) d_me_init_63 (fun q11 c9 H hK hP hD hS => ?_)
  have hK : va_K D cl [(cZ, .boolean), (cI, .int), (c9, .int)] s := hK
  obtain rfl : cI = c9 := Option.some.inj ((hK.2 1 _ rfl).2.symm.trans (hK.2 2 _ rfl).2)
  have hK := hK.sub (tys' := [(cZ, .boolean), (cI, .int)]) [0, 1] rfl
  have hP : va_P D cl ([(h, .inr (0, [.ref q4, .ref q5, .ref q6, .ref q7, .ref q8, .ref q9, .ref q10, .null, .null, .null, .null, .null, .int 0])), (q4, .inl (cZ, 28, .inl (fun _ => 0))), (q5, .inl (cZ, 28, .inl (fun _ => 0))), (q6, .inl (cZ, 28, .inl (fun _ => 0))), (q7, .inl (cI, 28, .inl (fun _ => 0))), (q8, .inl (cI, 28, .inl (fun _ => 0))), (q9, .inl (cI, 28, .inl (fun _ => 0))), (q10, .inl (cI, 28, .inl (fun _ => 0))), (q11, .inl (cI, 28, .inl (fun _ => 0)))]) H := hP
  have hD : va_D A ([(h, .inr (0, [.ref q4, .ref q5, .ref q6, .ref q7, .ref q8, .ref q9, .ref q10, .null, .null, .null, .null, .null, .int 0])), (q4, .inl (cZ, 28, .inl (fun _ => 0))), (q5, .inl (cZ, 28, .inl (fun _ => 0))), (q6, .inl (cZ, 28, .inl (fun _ => 0))), (q7, .inl (cI, 28, .inl (fun _ => 0))), (q8, .inl (cI, 28, .inl (fun _ => 0))), (q9, .inl (cI, 28, .inl (fun _ => 0))), (q10, .inl (cI, 28, .inl (fun _ => 0))), (q11, .inl (cI, 28, .inl (fun _ => 0)))]) := hD
  refine va_putF (D := D) (ci := 0) (v := .ref q11) (ty := .array .int) (C := "MessageMachine$Memory") (T := T_me) (N := 13) hx hb hg in_me ty_me tk_me nm_me hown hK hP hD hS 0 rfl rfl 7 (by decide) (hg _ mw_53) (fun _ h9 => h9) rfl hin rfl (by decide +kernel) rfl rfl (Nat.le_of_ble_eq_true rfl) d_me_init_65 (fun H locs hP hD hS => ?_)
  have hP : va_P D cl ([(h, .inr (0, [.ref q4, .ref q5, .ref q6, .ref q7, .ref q8, .ref q9, .ref q10, .ref q11, .null, .null, .null, .null, .int 0])), (q4, .inl (cZ, 28, .inl (fun _ => 0))), (q5, .inl (cZ, 28, .inl (fun _ => 0))), (q6, .inl (cZ, 28, .inl (fun _ => 0))), (q7, .inl (cI, 28, .inl (fun _ => 0))), (q8, .inl (cI, 28, .inl (fun _ => 0))), (q9, .inl (cI, 28, .inl (fun _ => 0))), (q10, .inl (cI, 28, .inl (fun _ => 0))), (q11, .inl (cI, 28, .inl (fun _ => 0)))]) H := hP
  have hD : va_D A ([(h, .inr (0, [.ref q4, .ref q5, .ref q6, .ref q7, .ref q8, .ref q9, .ref q10, .ref q11, .null, .null, .null, .null, .int 0])), (q4, .inl (cZ, 28, .inl (fun _ => 0))), (q5, .inl (cZ, 28, .inl (fun _ => 0))), (q6, .inl (cZ, 28, .inl (fun _ => 0))), (q7, .inl (cI, 28, .inl (fun _ => 0))), (q8, .inl (cI, 28, .inl (fun _ => 0))), (q9, .inl (cI, 28, .inl (fun _ => 0))), (q10, .inl (cI, 28, .inl (fun _ => 0))), (q11, .inl (cI, 28, .inl (fun _ => 0)))]) := hD
  refine lv_aload_n hx hb d_me_init_68 rfl (lv_at hl 0 rfl) ?_
  refine lv_bipush (v := 28) hx hb d_me_init_69 rfl ?_
  refine lv_bipush (v := 15) hx hb d_me_init_71 rfl ?_
  refine mna (N' := 28) (K' := 15) (z := (15, .inl (fun _ => 0))) (cy := cI) hx hb hown (hg _ mw_20) hO (hg _ mw_87) (hK.2 1 _ rfl).2 hK hP hD hS hA (by decide) (by decide) rfl rfl (by decide) (by decide) (by decide) (Nat.le_of_ble_eq_true rfl) (Nat.le_of_ble_eq_true rfl) (fun c => (arrV_new c 15 _).trans (vp_cell_i c 15 _).symm) d_me_init_73 (fun q12 r cG H hK hP hD hS => ?_)
  have hK : va_K D cl [(cZ, .boolean), (cI, .int), (cG, .array .int)] s := hK
  have hP : va_P D cl ([(h, .inr (0, [.ref q4, .ref q5, .ref q6, .ref q7, .ref q8, .ref q9, .ref q10, .ref q11, .null, .null, .null, .null, .int 0])), (q4, .inl (cZ, 28, .inl (fun _ => 0))), (q5, .inl (cZ, 28, .inl (fun _ => 0))), (q6, .inl (cZ, 28, .inl (fun _ => 0))), (q7, .inl (cI, 28, .inl (fun _ => 0))), (q8, .inl (cI, 28, .inl (fun _ => 0))), (q9, .inl (cI, 28, .inl (fun _ => 0))), (q10, .inl (cI, 28, .inl (fun _ => 0))), (q11, .inl (cI, 28, .inl (fun _ => 0))), (q12, .inl (cG, 28, .inr (.inr (.inr (.inr (fun i => if i < 28 then some (r i) else none))))))] ++ rowsR r cI 28 (15, .inl (fun _ => 0))) H := hP
  have hD : va_D A ([(h, .inr (0, [.ref q4, .ref q5, .ref q6, .ref q7, .ref q8, .ref q9, .ref q10, .ref q11, .null, .null, .null, .null, .int 0])), (q4, .inl (cZ, 28, .inl (fun _ => 0))), (q5, .inl (cZ, 28, .inl (fun _ => 0))), (q6, .inl (cZ, 28, .inl (fun _ => 0))), (q7, .inl (cI, 28, .inl (fun _ => 0))), (q8, .inl (cI, 28, .inl (fun _ => 0))), (q9, .inl (cI, 28, .inl (fun _ => 0))), (q10, .inl (cI, 28, .inl (fun _ => 0))), (q11, .inl (cI, 28, .inl (fun _ => 0))), (q12, .inl (cG, 28, .inr (.inr (.inr (.inr (fun i => if i < 28 then some (r i) else none))))))] ++ rowsR r cI 28 (15, .inl (fun _ => 0))) := hD
  refine va_putF (D := D) (ci := 0) (v := .ref q12) (ty := .array (.array .int)) (C := "MessageMachine$Memory") (T := T_me) (N := 13) hx hb hg in_me ty_me tk_me nm_me hown hK hP hD hS 0 rfl rfl 8 (by decide) (hg _ mw_54) (fun _ h9 => h9) rfl hin rfl (by decide +kernel) rfl rfl (Nat.le_of_ble_eq_true rfl) d_me_init_77 (fun H locs hP hD hS => ?_)
  have hP : va_P D cl ([(h, .inr (0, [.ref q4, .ref q5, .ref q6, .ref q7, .ref q8, .ref q9, .ref q10, .ref q11, .ref q12, .null, .null, .null, .int 0])), (q4, .inl (cZ, 28, .inl (fun _ => 0))), (q5, .inl (cZ, 28, .inl (fun _ => 0))), (q6, .inl (cZ, 28, .inl (fun _ => 0))), (q7, .inl (cI, 28, .inl (fun _ => 0))), (q8, .inl (cI, 28, .inl (fun _ => 0))), (q9, .inl (cI, 28, .inl (fun _ => 0))), (q10, .inl (cI, 28, .inl (fun _ => 0))), (q11, .inl (cI, 28, .inl (fun _ => 0))), (q12, .inl (cG, 28, .inr (.inr (.inr (.inr (fun i => if i < 28 then some (r i) else none))))))] ++ rowsR r cI 28 (15, .inl (fun _ => 0))) H := hP
  have hD : va_D A ([(h, .inr (0, [.ref q4, .ref q5, .ref q6, .ref q7, .ref q8, .ref q9, .ref q10, .ref q11, .ref q12, .null, .null, .null, .int 0])), (q4, .inl (cZ, 28, .inl (fun _ => 0))), (q5, .inl (cZ, 28, .inl (fun _ => 0))), (q6, .inl (cZ, 28, .inl (fun _ => 0))), (q7, .inl (cI, 28, .inl (fun _ => 0))), (q8, .inl (cI, 28, .inl (fun _ => 0))), (q9, .inl (cI, 28, .inl (fun _ => 0))), (q10, .inl (cI, 28, .inl (fun _ => 0))), (q11, .inl (cI, 28, .inl (fun _ => 0))), (q12, .inl (cG, 28, .inr (.inr (.inr (.inr (fun i => if i < 28 then some (r i) else none))))))] ++ rowsR r cI 28 (15, .inl (fun _ => 0))) := hD
  refine lv_aload_n hx hb d_me_init_80 rfl (lv_at hl 0 rfl) ?_
  refine lv_bipush (v := 7) hx hb d_me_init_81 rfl ?_
  refine va_newa (atype := .int) (ty := .int) (a0 := (7, .inl (fun _ => 0))) (N' := 7) hx hb (hg _ mw_87) rfl hK hP hD hS hA (fun cA => rfl) (by decide) rfl (by decide) (Nat.le_of_ble_eq_true rfl) (Nat.le_of_ble_eq_true rfl) d_me_init_83 (fun q13 c9 H hK hP hD hS => ?_)
  have hK : va_K D cl [(cZ, .boolean), (cI, .int), (cG, .array .int), (c9, .int)] s := hK
  obtain rfl : cI = c9 := Option.some.inj ((hK.2 1 _ rfl).2.symm.trans (hK.2 3 _ rfl).2)
  have hK := hK.sub (tys' := [(cZ, .boolean), (cI, .int), (cG, .array .int)]) [0, 1, 2] rfl
  have hP := va_P.swap hP
  have hD := va_D.swap hD
  have hP : va_P D cl ([(h, .inr (0, [.ref q4, .ref q5, .ref q6, .ref q7, .ref q8, .ref q9, .ref q10, .ref q11, .ref q12, .null, .null, .null, .int 0])), (q4, .inl (cZ, 28, .inl (fun _ => 0))), (q5, .inl (cZ, 28, .inl (fun _ => 0))), (q6, .inl (cZ, 28, .inl (fun _ => 0))), (q7, .inl (cI, 28, .inl (fun _ => 0))), (q8, .inl (cI, 28, .inl (fun _ => 0))), (q9, .inl (cI, 28, .inl (fun _ => 0))), (q10, .inl (cI, 28, .inl (fun _ => 0))), (q11, .inl (cI, 28, .inl (fun _ => 0))), (q12, .inl (cG, 28, .inr (.inr (.inr (.inr (fun i => if i < 28 then some (r i) else none)))))), (q13, .inl (cI, 7, .inl (fun _ => 0)))] ++ rowsR r cI 28 (15, .inl (fun _ => 0))) H := hP
  have hD : va_D A ([(h, .inr (0, [.ref q4, .ref q5, .ref q6, .ref q7, .ref q8, .ref q9, .ref q10, .ref q11, .ref q12, .null, .null, .null, .int 0])), (q4, .inl (cZ, 28, .inl (fun _ => 0))), (q5, .inl (cZ, 28, .inl (fun _ => 0))), (q6, .inl (cZ, 28, .inl (fun _ => 0))), (q7, .inl (cI, 28, .inl (fun _ => 0))), (q8, .inl (cI, 28, .inl (fun _ => 0))), (q9, .inl (cI, 28, .inl (fun _ => 0))), (q10, .inl (cI, 28, .inl (fun _ => 0))), (q11, .inl (cI, 28, .inl (fun _ => 0))), (q12, .inl (cG, 28, .inr (.inr (.inr (.inr (fun i => if i < 28 then some (r i) else none)))))), (q13, .inl (cI, 7, .inl (fun _ => 0)))] ++ rowsR r cI 28 (15, .inl (fun _ => 0))) := hD
  refine va_putF (D := D) (ci := 0) (v := .ref q13) (ty := .array .int) (C := "MessageMachine$Memory") (T := T_me) (N := 13) hx hb hg in_me ty_me tk_me nm_me hown hK hP hD hS 0 rfl rfl 9 (by decide) (hg _ mw_55) (fun _ h9 => h9) rfl hin rfl (by decide +kernel) rfl rfl (Nat.le_of_ble_eq_true rfl) d_me_init_85 (fun H locs hP hD hS => ?_)
  have hP : va_P D cl ([(h, .inr (0, [.ref q4, .ref q5, .ref q6, .ref q7, .ref q8, .ref q9, .ref q10, .ref q11, .ref q12, .ref q13, .null, .null, .int 0])), (q4, .inl (cZ, 28, .inl (fun _ => 0))), (q5, .inl (cZ, 28, .inl (fun _ => 0))), (q6, .inl (cZ, 28, .inl (fun _ => 0))), (q7, .inl (cI, 28, .inl (fun _ => 0))), (q8, .inl (cI, 28, .inl (fun _ => 0))), (q9, .inl (cI, 28, .inl (fun _ => 0))), (q10, .inl (cI, 28, .inl (fun _ => 0))), (q11, .inl (cI, 28, .inl (fun _ => 0))), (q12, .inl (cG, 28, .inr (.inr (.inr (.inr (fun i => if i < 28 then some (r i) else none)))))), (q13, .inl (cI, 7, .inl (fun _ => 0)))] ++ rowsR r cI 28 (15, .inl (fun _ => 0))) H := hP
  have hD : va_D A ([(h, .inr (0, [.ref q4, .ref q5, .ref q6, .ref q7, .ref q8, .ref q9, .ref q10, .ref q11, .ref q12, .ref q13, .null, .null, .int 0])), (q4, .inl (cZ, 28, .inl (fun _ => 0))), (q5, .inl (cZ, 28, .inl (fun _ => 0))), (q6, .inl (cZ, 28, .inl (fun _ => 0))), (q7, .inl (cI, 28, .inl (fun _ => 0))), (q8, .inl (cI, 28, .inl (fun _ => 0))), (q9, .inl (cI, 28, .inl (fun _ => 0))), (q10, .inl (cI, 28, .inl (fun _ => 0))), (q11, .inl (cI, 28, .inl (fun _ => 0))), (q12, .inl (cG, 28, .inr (.inr (.inr (.inr (fun i => if i < 28 then some (r i) else none)))))), (q13, .inl (cI, 7, .inl (fun _ => 0)))] ++ rowsR r cI 28 (15, .inl (fun _ => 0))) := hD
  refine lv_aload_n hx hb d_me_init_88 rfl (lv_at hl 0 rfl) ?_
  refine lv_bipush (v := 28) hx hb d_me_init_89 rfl ?_
  refine va_newa (atype := .boolean) (ty := .boolean) (a0 := (28, .inl (fun _ => 0))) (N' := 28) hx hb (hg _ mw_86) rfl hK hP hD hS hA (fun cA => rfl) (by decide) rfl (by decide) (Nat.le_of_ble_eq_true rfl) (Nat.le_of_ble_eq_true rfl) d_me_init_91 (fun q14 c9 H hK hP hD hS => ?_)
  have hK : va_K D cl [(cZ, .boolean), (cI, .int), (cG, .array .int), (c9, .boolean)] s := hK
  obtain rfl : cZ = c9 := Option.some.inj ((hK.2 0 _ rfl).2.symm.trans (hK.2 3 _ rfl).2)
  have hK := hK.sub (tys' := [(cZ, .boolean), (cI, .int), (cG, .array .int)]) [0, 1, 2] rfl
  have hP := va_P.swap hP
  have hD := va_D.swap hD
  have hP : va_P D cl ([(h, .inr (0, [.ref q4, .ref q5, .ref q6, .ref q7, .ref q8, .ref q9, .ref q10, .ref q11, .ref q12, .ref q13, .null, .null, .int 0])), (q4, .inl (cZ, 28, .inl (fun _ => 0))), (q5, .inl (cZ, 28, .inl (fun _ => 0))), (q6, .inl (cZ, 28, .inl (fun _ => 0))), (q7, .inl (cI, 28, .inl (fun _ => 0))), (q8, .inl (cI, 28, .inl (fun _ => 0))), (q9, .inl (cI, 28, .inl (fun _ => 0))), (q10, .inl (cI, 28, .inl (fun _ => 0))), (q11, .inl (cI, 28, .inl (fun _ => 0))), (q12, .inl (cG, 28, .inr (.inr (.inr (.inr (fun i => if i < 28 then some (r i) else none)))))), (q13, .inl (cI, 7, .inl (fun _ => 0))), (q14, .inl (cZ, 28, .inl (fun _ => 0)))] ++ rowsR r cI 28 (15, .inl (fun _ => 0))) H := hP
  have hD : va_D A ([(h, .inr (0, [.ref q4, .ref q5, .ref q6, .ref q7, .ref q8, .ref q9, .ref q10, .ref q11, .ref q12, .ref q13, .null, .null, .int 0])), (q4, .inl (cZ, 28, .inl (fun _ => 0))), (q5, .inl (cZ, 28, .inl (fun _ => 0))), (q6, .inl (cZ, 28, .inl (fun _ => 0))), (q7, .inl (cI, 28, .inl (fun _ => 0))), (q8, .inl (cI, 28, .inl (fun _ => 0))), (q9, .inl (cI, 28, .inl (fun _ => 0))), (q10, .inl (cI, 28, .inl (fun _ => 0))), (q11, .inl (cI, 28, .inl (fun _ => 0))), (q12, .inl (cG, 28, .inr (.inr (.inr (.inr (fun i => if i < 28 then some (r i) else none)))))), (q13, .inl (cI, 7, .inl (fun _ => 0))), (q14, .inl (cZ, 28, .inl (fun _ => 0)))] ++ rowsR r cI 28 (15, .inl (fun _ => 0))) := hD
  refine va_putF (D := D) (ci := 0) (v := .ref q14) (ty := .array .boolean) (C := "MessageMachine$Memory") (T := T_me) (N := 13) hx hb hg in_me ty_me tk_me nm_me hown hK hP hD hS 0 rfl rfl 10 (by decide) (hg _ mw_56) (fun _ h9 => h9) rfl hin rfl (by decide +kernel) rfl rfl (Nat.le_of_ble_eq_true rfl) d_me_init_93 (fun H locs hP hD hS => ?_)
  have hP : va_P D cl ([(h, .inr (0, [.ref q4, .ref q5, .ref q6, .ref q7, .ref q8, .ref q9, .ref q10, .ref q11, .ref q12, .ref q13, .ref q14, .null, .int 0])), (q4, .inl (cZ, 28, .inl (fun _ => 0))), (q5, .inl (cZ, 28, .inl (fun _ => 0))), (q6, .inl (cZ, 28, .inl (fun _ => 0))), (q7, .inl (cI, 28, .inl (fun _ => 0))), (q8, .inl (cI, 28, .inl (fun _ => 0))), (q9, .inl (cI, 28, .inl (fun _ => 0))), (q10, .inl (cI, 28, .inl (fun _ => 0))), (q11, .inl (cI, 28, .inl (fun _ => 0))), (q12, .inl (cG, 28, .inr (.inr (.inr (.inr (fun i => if i < 28 then some (r i) else none)))))), (q13, .inl (cI, 7, .inl (fun _ => 0))), (q14, .inl (cZ, 28, .inl (fun _ => 0)))] ++ rowsR r cI 28 (15, .inl (fun _ => 0))) H := hP
  have hD : va_D A ([(h, .inr (0, [.ref q4, .ref q5, .ref q6, .ref q7, .ref q8, .ref q9, .ref q10, .ref q11, .ref q12, .ref q13, .ref q14, .null, .int 0])), (q4, .inl (cZ, 28, .inl (fun _ => 0))), (q5, .inl (cZ, 28, .inl (fun _ => 0))), (q6, .inl (cZ, 28, .inl (fun _ => 0))), (q7, .inl (cI, 28, .inl (fun _ => 0))), (q8, .inl (cI, 28, .inl (fun _ => 0))), (q9, .inl (cI, 28, .inl (fun _ => 0))), (q10, .inl (cI, 28, .inl (fun _ => 0))), (q11, .inl (cI, 28, .inl (fun _ => 0))), (q12, .inl (cG, 28, .inr (.inr (.inr (.inr (fun i => if i < 28 then some (r i) else none)))))), (q13, .inl (cI, 7, .inl (fun _ => 0))), (q14, .inl (cZ, 28, .inl (fun _ => 0)))] ++ rowsR r cI 28 (15, .inl (fun _ => 0))) := hD
  refine lv_aload_n hx hb d_me_init_96 rfl (lv_at hl 0 rfl) ?_
  refine lv_bipush (v := 28) hx hb d_me_init_97 rfl ?_
  refine va_newa (atype := .int) (ty := .int) (a0 := (28, .inl (fun _ => 0))) (N' := 28) hx hb (hg _ mw_87) rfl hK hP hD hS hA (fun cA => rfl) (by decide) rfl (by decide) (Nat.le_of_ble_eq_true rfl) (Nat.le_of_ble_eq_true rfl) d_me_init_99 (fun q15 c9 H hK hP hD hS => ?_)
  have hK : va_K D cl [(cZ, .boolean), (cI, .int), (cG, .array .int), (c9, .int)] s := hK
  obtain rfl : cI = c9 := Option.some.inj ((hK.2 1 _ rfl).2.symm.trans (hK.2 3 _ rfl).2)
  have hK := hK.sub (tys' := [(cZ, .boolean), (cI, .int), (cG, .array .int)]) [0, 1, 2] rfl
  have hP := va_P.swap hP
  have hD := va_D.swap hD
  have hP : va_P D cl ([(h, .inr (0, [.ref q4, .ref q5, .ref q6, .ref q7, .ref q8, .ref q9, .ref q10, .ref q11, .ref q12, .ref q13, .ref q14, .null, .int 0])), (q4, .inl (cZ, 28, .inl (fun _ => 0))), (q5, .inl (cZ, 28, .inl (fun _ => 0))), (q6, .inl (cZ, 28, .inl (fun _ => 0))), (q7, .inl (cI, 28, .inl (fun _ => 0))), (q8, .inl (cI, 28, .inl (fun _ => 0))), (q9, .inl (cI, 28, .inl (fun _ => 0))), (q10, .inl (cI, 28, .inl (fun _ => 0))), (q11, .inl (cI, 28, .inl (fun _ => 0))), (q12, .inl (cG, 28, .inr (.inr (.inr (.inr (fun i => if i < 28 then some (r i) else none)))))), (q13, .inl (cI, 7, .inl (fun _ => 0))), (q14, .inl (cZ, 28, .inl (fun _ => 0))), (q15, .inl (cI, 28, .inl (fun _ => 0)))] ++ rowsR r cI 28 (15, .inl (fun _ => 0))) H := hP
  have hD : va_D A ([(h, .inr (0, [.ref q4, .ref q5, .ref q6, .ref q7, .ref q8, .ref q9, .ref q10, .ref q11, .ref q12, .ref q13, .ref q14, .null, .int 0])), (q4, .inl (cZ, 28, .inl (fun _ => 0))), (q5, .inl (cZ, 28, .inl (fun _ => 0))), (q6, .inl (cZ, 28, .inl (fun _ => 0))), (q7, .inl (cI, 28, .inl (fun _ => 0))), (q8, .inl (cI, 28, .inl (fun _ => 0))), (q9, .inl (cI, 28, .inl (fun _ => 0))), (q10, .inl (cI, 28, .inl (fun _ => 0))), (q11, .inl (cI, 28, .inl (fun _ => 0))), (q12, .inl (cG, 28, .inr (.inr (.inr (.inr (fun i => if i < 28 then some (r i) else none)))))), (q13, .inl (cI, 7, .inl (fun _ => 0))), (q14, .inl (cZ, 28, .inl (fun _ => 0))), (q15, .inl (cI, 28, .inl (fun _ => 0)))] ++ rowsR r cI 28 (15, .inl (fun _ => 0))) := hD
  refine va_putF (D := D) (ci := 0) (v := .ref q15) (ty := .array .int) (C := "MessageMachine$Memory") (T := T_me) (N := 13) hx hb hg in_me ty_me tk_me nm_me hown hK hP hD hS 0 rfl rfl 11 (by decide) (hg _ mw_57) (fun _ h9 => h9) rfl hin rfl (by decide +kernel) rfl rfl (Nat.le_of_ble_eq_true rfl) d_me_init_101 (fun H locs hP hD hS => ?_)
  have hP : va_P D cl ([(h, .inr (0, [.ref q4, .ref q5, .ref q6, .ref q7, .ref q8, .ref q9, .ref q10, .ref q11, .ref q12, .ref q13, .ref q14, .ref q15, .int 0])), (q4, .inl (cZ, 28, .inl (fun _ => 0))), (q5, .inl (cZ, 28, .inl (fun _ => 0))), (q6, .inl (cZ, 28, .inl (fun _ => 0))), (q7, .inl (cI, 28, .inl (fun _ => 0))), (q8, .inl (cI, 28, .inl (fun _ => 0))), (q9, .inl (cI, 28, .inl (fun _ => 0))), (q10, .inl (cI, 28, .inl (fun _ => 0))), (q11, .inl (cI, 28, .inl (fun _ => 0))), (q12, .inl (cG, 28, .inr (.inr (.inr (.inr (fun i => if i < 28 then some (r i) else none)))))), (q13, .inl (cI, 7, .inl (fun _ => 0))), (q14, .inl (cZ, 28, .inl (fun _ => 0))), (q15, .inl (cI, 28, .inl (fun _ => 0)))] ++ rowsR r cI 28 (15, .inl (fun _ => 0))) H := hP
  have hD : va_D A ([(h, .inr (0, [.ref q4, .ref q5, .ref q6, .ref q7, .ref q8, .ref q9, .ref q10, .ref q11, .ref q12, .ref q13, .ref q14, .ref q15, .int 0])), (q4, .inl (cZ, 28, .inl (fun _ => 0))), (q5, .inl (cZ, 28, .inl (fun _ => 0))), (q6, .inl (cZ, 28, .inl (fun _ => 0))), (q7, .inl (cI, 28, .inl (fun _ => 0))), (q8, .inl (cI, 28, .inl (fun _ => 0))), (q9, .inl (cI, 28, .inl (fun _ => 0))), (q10, .inl (cI, 28, .inl (fun _ => 0))), (q11, .inl (cI, 28, .inl (fun _ => 0))), (q12, .inl (cG, 28, .inr (.inr (.inr (.inr (fun i => if i < 28 then some (r i) else none)))))), (q13, .inl (cI, 7, .inl (fun _ => 0))), (q14, .inl (cZ, 28, .inl (fun _ => 0))), (q15, .inl (cI, 28, .inl (fun _ => 0)))] ++ rowsR r cI 28 (15, .inl (fun _ => 0))) := hD
  have eW : ([(h, .inr (0, [.ref q4, .ref q5, .ref q6, .ref q7, .ref q8, .ref q9, .ref q10, .ref q11, .ref q12, .ref q13, .ref q14, .ref q15, .int 0])), (q4, .inl (cZ, 28, .inl (fun _ => 0))), (q5, .inl (cZ, 28, .inl (fun _ => 0))), (q6, .inl (cZ, 28, .inl (fun _ => 0))), (q7, .inl (cI, 28, .inl (fun _ => 0))), (q8, .inl (cI, 28, .inl (fun _ => 0))), (q9, .inl (cI, 28, .inl (fun _ => 0))), (q10, .inl (cI, 28, .inl (fun _ => 0))), (q11, .inl (cI, 28, .inl (fun _ => 0))), (q12, .inl (cG, 28, .inr (.inr (.inr (.inr (fun i => if i < 28 then some (r i) else none)))))), (q13, .inl (cI, 7, .inl (fun _ => 0))), (q14, .inl (cZ, 28, .inl (fun _ => 0))), (q15, .inl (cI, 28, .inl (fun _ => 0)))] ++ rowsR r cI 28 (15, .inl (fun _ => 0))) = cwM (mkad h q4 q5 q6 q7 q8 q9 q10 q11 q12 q13 q14 q15 r) (mkci cI cZ cG) z0 := by
    unfold cwM hdM rows rowsR
    simp only [mkad_row]
    rfl
  obtain ⟨ad, ead⟩ : ∃ z, z = mkad h q4 q5 q6 q7 q8 q9 q10 q11 q12 q13 q14 q15 r := ⟨_, rfl⟩
  obtain ⟨ci, eci⟩ : ∃ z, z = mkci cI cZ cG := ⟨_, rfl⟩
  have hK : va_K D cl (tyM (mkci cI cZ cG)) s := hK.sub [1, 0, 2] rfl
  have eh : mkad h q4 q5 q6 q7 q8 q9 q10 q11 q12 q13 q14 q15 r 1 = h := rfl
  rw [← ead, ← eci] at eW
  rw [← eci] at hK
  rw [← ead] at eh
  have hP : va_P D cl (cwM ad ci z0) H := va_P.eq eW hP
  have hD : va_D A (cwM ad ci z0) := va_D.eq eW hD
  have hI := InjM_of hD
  have hAA := AwM_of hD
  have hl : lv_has ls 1 [(0, .ref (ad 1))] := by rw [eh]; exact hl
  refine lv_aload_n hx hb d_me_init_104 rfl (lv_at hl 0 rfl) ?_
  refine lv_iconst (v := 0) hx hb d_me_init_105 rfl ?_
  refine va_put (C := "MessageMachine$Memory") (T := T_me) (N := 13) (ci := 0) (ty := .int) hx hb hg in_me ty_me tk_me nm_me hown hK hP hD hS 0 rfl rfl 12 (by decide) (hg _ mw_58) (fun _ h => h) rfl (by decide +kernel) rfl rfl (Nat.le_of_ble_eq_true rfl) d_me_init_106 (fun H locs hP hD hS => ?_)
  have hP : va_P D cl (cwM ad ci (sA z0 20 0 0)) H := hP
  have hD : va_D A (cwM ad ci (sA z0 20 0 0)) := hD
  refine lv_aload_n hx hb d_me_init_109 rfl (lv_at hl 0 rfl) ?_
  refine va_get (C := "MessageMachine$Memory") (T := T_me) (N := 13) (ci := 0) (v := .ref (ad 11)) hx hb hg in_me hown hK hP 0 rfl rfl 7 (by decide) (hg _ mw_53) (fun _ h => h) rfl d_me_init_110 ?_
  refine lv_iconst (v := 0) hx hb d_me_init_113 rfl ?_
  refine lv_bipush (v := 7) hx hb d_me_init_114 rfl ?_
  refine va_iast hx hb hK hP hD hS 8 0 (f := (sA z0 20 0 0).1 11) (n := 28) (cA := ci 0) rfl rfl vp_0 d_me_init_116 (fun H locs hP hD hS => ?_)
  have hP : va_P D cl (cwM ad ci mem1) H := hP
  have hD : va_D A (cwM ad ci mem1) := hD
  have X : Cx (EMA D ad ci A) p s m ([Value.ref h] : List Value).toArray c b_me_init 1 "MessageMachine$Memory" H locs mem1 := ⟨⟨hx, hb, hml, hown, hg⟩, hK, hN, hP, hS⟩
  have rcm : ∀ {H : Heap} {locs : List Loc} {σ : SS}, Cx (EMA D ad ci A) p s m ([Value.ref h] : List Value).toArray c b_me_init 1 "MessageMachine$Memory" H locs σ → Rcv s H "MessageMachine$Memory" (ad 1) := fun X => va_recv X.2.1 X.2.2.2.1 (ci := 0) rfl (q0 := 0) rfl
  refine lv_aload_n hx hb d_me_init_117 rfl (lv_at hl 0 rfl) ?_
  refine lv_iconst (v := 0) hx hb d_me_init_118 rfl ?_
  refine lv_iconst (v := 1) hx hb d_me_init_119 rfl ?_
  refine lv_iconst (v := 0) hx hb d_me_init_120 rfl ?_
  refine callW (k := 3) hAA (c_me_wakeM hI _ _ _ _ (vpc (by decide)) (by decide)) X (gt_V mw_22 mw_24 ms_0 mw_2 mw_25) ok_me_wake ⟨rfl, rfl, by decide, by decide⟩ (rcm X) rfl hl.1 rfl (Nat.le_of_ble_eq_true rfl) d_me_init_121 ⟨Nat.le_of_ble_eq_true rfl, Nat.le_of_ble_eq_true rfl⟩ (fun H locs X => ?_)
  refine lv_aload_n hx hb d_me_init_124 rfl (lv_at hl 0 rfl) ?_
  refine lv_iconst (v := 1) hx hb d_me_init_125 rfl ?_
  refine lv_iconst (v := 0) hx hb d_me_init_126 rfl ?_
  refine lv_iconst (v := 0) hx hb d_me_init_127 rfl ?_
  refine callW (k := 3) hAA (c_me_wakeClassM hI _ _ _ _ (vpc (by decide)) (by decide) (RG_wake RG_mem1 _ (vpc (by decide)) (by decide)) (by decide)) X (gt_V mw_30 mw_32 ms_2 mw_2 mw_33) ok_me_wakeClass ⟨rfl, rfl, by decide, by decide⟩ (rcm X) rfl hl.1 rfl (Nat.le_of_ble_eq_true rfl) d_me_init_128 ⟨Nat.le_of_ble_eq_true rfl, Nat.le_of_ble_eq_true rfl⟩ (fun H locs X => ?_)
  refine lv_aload_n hx hb d_me_init_131 rfl (lv_at hl 0 rfl) ?_
  refine lv_iconst (v := 2) hx hb d_me_init_132 rfl ?_
  refine lv_iconst (v := 1) hx hb d_me_init_133 rfl ?_
  refine lv_iconst (v := 0) hx hb d_me_init_134 rfl ?_
  refine callW (k := 3) hAA (c_me_wakeClassM hI _ _ _ _ (vpc (by decide)) (by decide) (RG_wakeClass (RG_wake RG_mem1 _ (vpc (by decide)) (by decide)) _ (by decide) (by decide)) (by decide)) X (gt_V mw_30 mw_32 ms_2 mw_2 mw_33) ok_me_wakeClass ⟨rfl, rfl, by decide, by decide⟩ (rcm X) rfl hl.1 rfl (Nat.le_of_ble_eq_true rfl) d_me_init_135 ⟨Nat.le_of_ble_eq_true rfl, Nat.le_of_ble_eq_true rfl⟩ (fun H locs X => ?_)
  refine lv_aload_n hx hb d_me_init_138 rfl (lv_at hl 0 rfl) ?_
  refine lv_iconst (v := 3) hx hb d_me_init_139 rfl ?_
  refine lv_iconst (v := 1) hx hb d_me_init_140 rfl ?_
  refine lv_iconst (v := 0) hx hb d_me_init_141 rfl ?_
  refine callW (k := 3) hAA (c_me_wakeClassM hI _ _ _ _ (vpc (by decide)) (by decide) (RG_wakeClass (RG_wakeClass (RG_wake RG_mem1 _ (vpc (by decide)) (by decide)) _ (by decide) (by decide)) _ (by decide) (by decide)) (by decide)) X (gt_V mw_30 mw_32 ms_2 mw_2 mw_33) ok_me_wakeClass ⟨rfl, rfl, by decide, by decide⟩ (rcm X) rfl hl.1 rfl (Nat.le_of_ble_eq_true rfl) d_me_init_142 ⟨Nat.le_of_ble_eq_true rfl, Nat.le_of_ble_eq_true rfl⟩ (fun H locs X => ?_)
  refine lv_aload_n hx hb d_me_init_145 rfl (lv_at hl 0 rfl) ?_
  refine callW (k := 0) hAA (c_me_stickM hI _) X (gt_V mw_42 mw_44 ms_4 mw_2 mw_45) ok_me_stick ⟨rfl, rfl, by decide, by decide⟩ (rcm X) rfl hl.1 rfl (Nat.le_of_ble_eq_true rfl) d_me_init_146 ⟨Nat.le_of_ble_eq_true rfl, Nat.le_of_ble_eq_true rfl⟩ (fun H locs X => ?_)
  have hD : va_D A (cwM ad ci mem0) := (cwM_D hI ci mem0).weaken (fun _ _ _ h => hAA _ h)
  exact W.vret hx hb hr (fun t ht hW => ⟨⟨(ad, ci), rfl, eh, ⟨by rw [ht]; exact X.2.2.2.1, va_K.moved hW.alike X.2.1, X.2.2.1.warm hW⟩, hD⟩, X.2.2.2.2.F ht⟩) X.2.2.2.2.2.2 d_me_init_149 hlocks
