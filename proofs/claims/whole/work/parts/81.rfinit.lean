/-! the reference's constructor: its walk stands in the larger A -/
def ERA (D : va_G) (ad : Nat → Nat) (ci : Nat → ClassId) (A : Nat → Prop) : EV SS := (D, tyr ci, rwd ad ci, A)
section CALLR
variable {p : Program} {l : Launch} {e : Env} {R : Room} {s : State} {m : MethodId} {args : Array Value} {below : List Frame} {meth : Method} {c : Code} {H : Heap} {locs : List Loc} {cells slots : Nat} {Q : State → Prop}
variable {cc bytes : ByteArray} {n nL maxL index pc : Nat} {ls : Array Slot} {rest st0 As av : List Value} {own : String} {y : MethodName} {rm : Room} {D : va_G} {ad : Nat → Nat} {ci : Nat → ClassId} {A : Nat → Prop} {σ σ' : SS}
theorem callR {k : Nat} {b : Addr} (hA : ∀ q, Ar ad q → A q) (hM : Mv l y bytes maxL rm (ER D ad ci) (.ref b :: As) σ σ') (X : Cx (ERA D ad ci A) p s m args c cc nL own H locs σ) (hG : GoodIn gt (wsV own index y.cls y (.code y bytes maxL none :: gt))) (hd : NmOk y k) (hrm : rm.cells = 0 ∧ rm.slots = 0 ∧ rm.frames + 1 ≤ R.frames ∧ 8 + (maxL + 11) + rm.locals ≤ R.locals) (hv : Rcv s H y.cls b)
    (hn : As.length = k) (hls : ls.size = nL) (hst : st0 = As.reverse ++ .ref b :: rest) (hw : (rest.map fun v => v.category).sum ≤ 8) (hdg : decode cc pc = .ok (.invokevirtual index, 3)) (hcs : cells ≤ R.cells ∧ slots ≤ R.slots)
    (kk : ∀ (H1 : Heap) (locs1 : List Loc), Cx (ERA D ad ci A) p s m args c cc nL own H1 locs1 σ' → W p l e R s m args below meth c H1 locs1 cells slots Q (F0 m (pc + 3) ls rest)) : W p l e R s m args below meth c H locs cells slots Q (F0 m pc ls st0) := by
  refine va_callv (va_runV (As := As) (rest := rest) X.1 hM (cwV k X.1.2.2.2.2 hG rfl hrm.1 hrm.2.1 ⟨rfl, hd⟩ hrm.2.2) ⟨Pq.blind, hv, fun U hU hW => ⟨rfl, ⟨by rw [hU]; exact X.2.2.2.1, va_K.moved hW.alike X.2.1, X.2.2.1.warm hW⟩⟩⟩ rfl hn hls hst (lv_room hw) hdg hcs) X.2.2.2.2 (fun q _ h => hA q h) hA (fun u t H1 locs1 ht _ hp hB _ _ hS1 => ?_)
  subst hp
  exact kk H1 locs1 ⟨X.1, X.2.1, X.2.2.1, by rw [← ht]; exact hB.1, hS1⟩
end CALLR
def mkar (h q1 q2 q3 q4 q5 q6 q7 q8 q9 q10 q11 q12 q13 : Nat) : Nat → Nat := fun k => if k = 0 then h else if k = 1 then q1 else if k = 2 then q2 else if k = 3 then q3 else if k = 4 then q4 else if k = 5 then q5 else if k = 6 then q6 else if k = 7 then q7 else if k = 8 then q8 else if k = 9 then q9 else if k = 10 then q10 else if k = 11 then q11 else if k = 12 then q12 else q13
def mkcr (cI cZ : ClassId) : Nat → ClassId := fun k => if k = 0 then cI else cZ
theorem rwd_get (ad : Nat → Nat) (ci : Nat → ClassId) (σ : SS) {k : Nat} (hk : k < 14) : ∃ e, (rwd ad ci σ)[k]? = some (ad k, e) := by
  have h1 : k < (rwd ad ci σ).length := hk
  refine ⟨((rwd ad ci σ)[k]).2, ?_⟩
  have h2 := List.getElem?_eq_getElem h1
  rw [h2]
  have h3 := (rwd_at h2).2
  rw [← h3]
theorem InjR_of {A : Nat → Prop} {ad : Nat → Nat} {ci : Nat → ClassId} {σ : SS} (h : va_D A (rwd ad ci σ)) : InjR ad := fun i j hi hj e => by
  obtain ⟨a, ha⟩ := rwd_get ad ci σ hi
  obtain ⟨b, hb⟩ := rwd_get ad ci σ hj
  exact h.1 i j _ _ ha hb e
theorem Ar_of {A : Nat → Prop} {ad : Nat → Nat} {ci : Nat → ClassId} {σ : SS} (h : va_D A (rwd ad ci σ)) : ∀ q, Ar ad q → A q := fun q hq => by
  obtain ⟨k, hk, rfl⟩ := hq
  obtain ⟨a, ha⟩ := rwd_get ad ci σ hk
  exact h.2 k _ ha
set_option maxHeartbeats 8000000 in
theorem c_rf_init {l : Launch} {D : va_G} (h sz : Nat) : Met l y_rf_init (.code y_rf_init b_rf_init 2 none :: gt) ({ frames := 3, cells := 13, slots := 4486, locals := 65 } : Room) (va_Pc [.ref h] (fun U => U.heap.size = sz ∧ va_P D cl [(h, .inr (4, [.null, .null, .null, .null, .null, .null, .null, .null, .null, .null, .null, .null, .int 0, .int 0, .null]))] U.heap ∧ va_K D cl [] U ∧ nst U)) (va_Qv (fun u : (Nat → Nat) × (Nat → ClassId) => u.1 0 = h) (fun u t => Pq (ER D u.1 u.2) rin t ∧ va_D (va_A [(h, .inr (4, [.null, .null, .null, .null, .null, .null, .null, .null, .null, .null, .null, .null, .int 0, .int 0, .null]))] sz) (rwd u.1 u.2 rin)) (va_A [(h, .inr (4, [.null, .null, .null, .null, .null, .null, .null, .null, .null, .null, .null, .null, .int 0, .int 0, .null]))] sz)) 13 4486 (va_A [(h, .inr (4, [.null, .null, .null, .null, .null, .null, .null, .null, .null, .null, .null, .null, .int 0, .int 0, .null]))] sz) := by
  refine Met.ofW (cc := b_rf_init) (maxL := 2) (ret := none) pn_rf rfl ?_
  intro p e s m args below meth c s₁ B hml hv
  obtain ⟨rfl, hsz, hP, hK, hN⟩ := hv
  have hx := B.exec
  have hb := B.bytes
  have hr := B.returns
  have hts := atoms_spec (ws := .code y_rf_init b_rf_init 2 none :: gt) B.pre
  have hg : ∀ w ∈ gt, w.before _ s = true := fun w hw => hts w (List.mem_cons_of_mem _ hw)
  have hown : s.vm.findClass "MessageMachineModel" = some m.cls := findClass_of_methodNamed B.named
  have hlocks := B.notSynchronized
  have hin : meth.name = "<init>" := (name_of_methodNamed B.named B.method).1
  subst hsz
  have hD := (one_D (x := (h, .inr (4, [.null, .null, .null, .null, .null, .null, .null, .null, .null, .null, .null, .null, .int 0, .int 0, .null])))).self (sz := s.heap.size)
  generalize hAe : va_A [(h, .inr (4, [.null, .null, .null, .null, .null, .null, .null, .null, .null, .null, .null, .null, .int 0, .int 0, .null]))] s.heap.size = A at hD ⊢
  have hA : ∀ q : Nat, s.heap.size ≤ q → A q := fun q h => by rw [← hAe]; exact Or.inr h
  have hS : va_S A s.heap s.heap [] := va_S.rf
  have hl := lv_entry ([.ref h]) (n := 2) (Nat.le_of_ble_eq_true rfl)
  rw [lg_entry_eq]
  generalize (lg_sl ([.ref h]) ++ List.replicate (2 - (lg_sl ([.ref h])).length) Slot.unset).toArray = ls at hl ⊢
  have hl : lv_has ls 2 [(0, .ref h)] := hl
  refine lv_aload_n hx hb d_rf_init_0 rfl (lv_at hl 0 rfl) ?_
  refine W.objInit hx hb hown (hg _ mw_523) (hg _ mw_12) (hg _ mw_13) rfl (by rw [hml]; exact hl.1) rfl d_rf_init_1 (Nat.le_of_ble_eq_true rfl) (Nat.le_of_ble_eq_true rfl) ?_
  refine W.eq (g2 := F0 m 4 ls []) rfl ?_
  refine lv_aload_n hx hb d_rf_init_4 rfl (lv_at hl 0 rfl) ?_
  refine lv_bipush (v := 28) hx hb d_rf_init_5 rfl ?_
  refine va_newa (atype := .boolean) (ty := .boolean) (a0 := (28, .inl (fun _ => 0))) (N' := 28) hx hb (hg _ mw_86) rfl hK hP hD hS hA (fun cA => rfl) (by decide) rfl (by decide) (Nat.le_of_ble_eq_true rfl) (Nat.le_of_ble_eq_true rfl) d_rf_init_7 (fun q1 cZ H hK hP hD hS => ?_)
  have hK : va_K D cl [(cZ, .boolean)] s := hK
  have hP : va_P D cl ([(h, .inr (4, [.null, .null, .null, .null, .null, .null, .null, .null, .null, .null, .null, .null, .int 0, .int 0, .null])), (q1, .inl (cZ, 28, .inl (fun _ => 0)))]) H := hP
  have hD : va_D A ([(h, .inr (4, [.null, .null, .null, .null, .null, .null, .null, .null, .null, .null, .null, .null, .int 0, .int 0, .null])), (q1, .inl (cZ, 28, .inl (fun _ => 0)))]) := hD
  refine va_putF (D := D) (ci := 4) (v := .ref q1) (ty := .array .boolean) (C := "MessageMachineModel") (T := T_rf) (N := 15) hx hb hg in_rf ty_rf tk_rf nm_rf hown hK hP hD hS 0 rfl rfl 0 (by decide) (hg _ mw_535) (fun _ h9 => h9) rfl hin rfl (by decide +kernel) rfl rfl (Nat.le_of_ble_eq_true rfl) d_rf_init_9 (fun H locs hP hD hS => ?_)
  have hP : va_P D cl ([(h, .inr (4, [.ref q1, .null, .null, .null, .null, .null, .null, .null, .null, .null, .null, .null, .int 0, .int 0, .null])), (q1, .inl (cZ, 28, .inl (fun _ => 0)))]) H := hP
  have hD : va_D A ([(h, .inr (4, [.ref q1, .null, .null, .null, .null, .null, .null, .null, .null, .null, .null, .null, .int 0, .int 0, .null])), (q1, .inl (cZ, 28, .inl (fun _ => 0)))]) := hD
  refine lv_aload_n hx hb d_rf_init_12 rfl (lv_at hl 0 rfl) ?_
  refine lv_bipush (v := 28) hx hb d_rf_init_13 rfl ?_
  refine va_newa (atype := .int) (ty := .int) (a0 := (28, .inl (fun _ => 0))) (N' := 28) hx hb (hg _ mw_87) rfl hK hP hD hS hA (fun cA => rfl) (by decide) rfl (by decide) (Nat.le_of_ble_eq_true rfl) (Nat.le_of_ble_eq_true rfl) d_rf_init_15 (fun q2 cI H hK hP hD hS => ?_)
  have hK : va_K D cl [(cZ, .boolean), (cI, .int)] s := hK
  have hP : va_P D cl ([(h, .inr (4, [.ref q1, .null, .null, .null, .null, .null, .null, .null, .null, .null, .null, .null, .int 0, .int 0, .null])), (q1, .inl (cZ, 28, .inl (fun _ => 0))), (q2, .inl (cI, 28, .inl (fun _ => 0)))]) H := hP
  have hD : va_D A ([(h, .inr (4, [.ref q1, .null, .null, .null, .null, .null, .null, .null, .null, .null, .null, .null, .int 0, .int 0, .null])), (q1, .inl (cZ, 28, .inl (fun _ => 0))), (q2, .inl (cI, 28, .inl (fun _ => 0)))]) := hD
  refine va_putF (D := D) (ci := 4) (v := .ref q2) (ty := .array .int) (C := "MessageMachineModel") (T := T_rf) (N := 15) hx hb hg in_rf ty_rf tk_rf nm_rf hown hK hP hD hS 0 rfl rfl 1 (by decide) (hg _ mw_536) (fun _ h9 => h9) rfl hin rfl (by decide +kernel) rfl rfl (Nat.le_of_ble_eq_true rfl) d_rf_init_17 (fun H locs hP hD hS => ?_)
  have hP : va_P D cl ([(h, .inr (4, [.ref q1, .ref q2, .null, .null, .null, .null, .null, .null, .null, .null, .null, .null, .int 0, .int 0, .null])), (q1, .inl (cZ, 28, .inl (fun _ => 0))), (q2, .inl (cI, 28, .inl (fun _ => 0)))]) H := hP
  have hD : va_D A ([(h, .inr (4, [.ref q1, .ref q2, .null, .null, .null, .null, .null, .null, .null, .null, .null, .null, .int 0, .int 0, .null])), (q1, .inl (cZ, 28, .inl (fun _ => 0))), (q2, .inl (cI, 28, .inl (fun _ => 0)))]) := hD
  refine lv_aload_n hx hb d_rf_init_20 rfl (lv_at hl 0 rfl) ?_
  refine lv_bipush (v := 28) hx hb d_rf_init_21 rfl ?_
  refine va_newa (atype := .int) (ty := .int) (a0 := (28, .inl (fun _ => 0))) (N' := 28) hx hb (hg _ mw_87) rfl hK hP hD hS hA (fun cA => rfl) (by decide) rfl (by decide) (Nat.le_of_ble_eq_true rfl) (Nat.le_of_ble_eq_true rfl) d_rf_init_23 (fun q3 c9 H hK hP hD hS => ?_)
  have hK : va_K D cl [(cZ, .boolean), (cI, .int), (c9, .int)] s := hK
  obtain rfl : cI = c9 := Option.some.inj ((hK.2 1 _ rfl).2.symm.trans (hK.2 2 _ rfl).2)
  have hK := hK.sub (tys' := [(cZ, .boolean), (cI, .int)]) [0, 1] rfl
  have hP : va_P D cl ([(h, .inr (4, [.ref q1, .ref q2, .null, .null, .null, .null, .null, .null, .null, .null, .null, .null, .int 0, .int 0, .null])), (q1, .inl (cZ, 28, .inl (fun _ => 0))), (q2, .inl (cI, 28, .inl (fun _ => 0))), (q3, .inl (cI, 28, .inl (fun _ => 0)))]) H := hP
  have hD : va_D A ([(h, .inr (4, [.ref q1, .ref q2, .null, .null, .null, .null, .null, .null, .null, .null, .null, .null, .int 0, .int 0, .null])), (q1, .inl (cZ, 28, .inl (fun _ => 0))), (q2, .inl (cI, 28, .inl (fun _ => 0))), (q3, .inl (cI, 28, .inl (fun _ => 0)))]) := hD
  refine va_putF (D := D) (ci := 4) (v := .ref q3) (ty := .array .int) (C := "MessageMachineModel") (T := T_rf) (N := 15) hx hb hg in_rf ty_rf tk_rf nm_rf hown hK hP hD hS 0 rfl rfl 2 (by decide) (hg _ mw_537) (fun _ h9 => h9) rfl hin rfl (by decide +kernel) rfl rfl (Nat.le_of_ble_eq_true rfl) d_rf_init_25 (fun H locs hP hD hS => ?_)
  have hP : va_P D cl ([(h, .inr (4, [.ref q1, .ref q2, .ref q3, .null, .null, .null, .null, .null, .null, .null, .null, .null, .int 0, .int 0, .null])), (q1, .inl (cZ, 28, .inl (fun _ => 0))), (q2, .inl (cI, 28, .inl (fun _ => 0))), (q3, .inl (cI, 28, .inl (fun _ => 0)))]) H := hP
  have hD : va_D A ([(h, .inr (4, [.ref q1, .ref q2, .ref q3, .null, .null, .null, .null, .null, .null, .null, .null, .null, .int 0, .int 0, .null])), (q1, .inl (cZ, 28, .inl (fun _ => 0))), (q2, .inl (cI, 28, .inl (fun _ => 0))), (q3, .inl (cI, 28, .inl (fun _ => 0)))]) := hD
  refine lv_aload_n hx hb d_rf_init_28 rfl (lv_at hl 0 rfl) ?_
  refine lv_bipush (v := 28) hx hb d_rf_init_29 rfl ?_
  refine va_newa (atype := .int) (ty := .int) (a0 := (28, .inl (fun _ => 0))) (N' := 28) hx hb (hg _ mw_87) rfl hK hP hD hS hA (fun cA => rfl) (by decide) rfl (by decide) (Nat.le_of_ble_eq_true rfl) (Nat.le_of_ble_eq_true rfl) d_rf_init_31 (fun q4 c9 H hK hP hD hS => ?_)
  have hK : va_K D cl [(cZ, .boolean), (cI, .int), (c9, .int)] s := hK
  obtain rfl : cI = c9 := Option.some.inj ((hK.2 1 _ rfl).2.symm.trans (hK.2 2 _ rfl).2)
  have hK := hK.sub (tys' := [(cZ, .boolean), (cI, .int)]) [0, 1] rfl
  have hP : va_P D cl ([(h, .inr (4, [.ref q1, .ref q2, .ref q3, .null, .null, .null, .null, .null, .null, .null, .null, .null, .int 0, .int 0, .null])), (q1, .inl (cZ, 28, .inl (fun _ => 0))), (q2, .inl (cI, 28, .inl (fun _ => 0))), (q3, .inl (cI, 28, .inl (fun _ => 0))), (q4, .inl (cI, 28, .inl (fun _ => 0)))]) H := hP
  have hD : va_D A ([(h, .inr (4, [.ref q1, .ref q2, .ref q3, .null, .null, .null, .null, .null, .null, .null, .null, .null, .int 0, .int 0, .null])), (q1, .inl (cZ, 28, .inl (fun _ => 0))), (q2, .inl (cI, 28, .inl (fun _ => 0))), (q3, .inl (cI, 28, .inl (fun _ => 0))), (q4, .inl (cI, 28, .inl (fun _ => 0)))]) := hD
  refine va_putF (D := D) (ci := 4) (v := .ref q4) (ty := .array .int) (C := "MessageMachineModel") (T := T_rf) (N := 15) hx hb hg in_rf ty_rf tk_rf nm_rf hown hK hP hD hS 0 rfl rfl 3 (by decide) (hg _ mw_538) (fun _ h9 => h9) rfl hin rfl (by decide +kernel) rfl rfl (Nat.le_of_ble_eq_true rfl) d_rf_init_33 (fun H locs hP hD hS => ?_)
  have hP : va_P D cl ([(h, .inr (4, [.ref q1, .ref q2, .ref q3, .ref q4, .null, .null, .null, .null, .null, .null, .null, .null, .int 0, .int 0, .null])), (q1, .inl (cZ, 28, .inl (fun _ => 0))), (q2, .inl (cI, 28, .inl (fun _ => 0))), (q3, .inl (cI, 28, .inl (fun _ => 0))), (q4, .inl (cI, 28, .inl (fun _ => 0)))]) H := hP
  have hD : va_D A ([(h, .inr (4, [.ref q1, .ref q2, .ref q3, .ref q4, .null, .null, .null, .null, .null, .null, .null, .null, .int 0, .int 0, .null])), (q1, .inl (cZ, 28, .inl (fun _ => 0))), (q2, .inl (cI, 28, .inl (fun _ => 0))), (q3, .inl (cI, 28, .inl (fun _ => 0))), (q4, .inl (cI, 28, .inl (fun _ => 0)))]) := hD
  refine lv_aload_n hx hb d_rf_init_36 rfl (lv_at hl 0 rfl) ?_
  refine lv_sipush (v := 420) hx hb d_rf_init_37 rfl ?_
  refine va_newa (atype := .int) (ty := .int) (a0 := (420, .inl (fun _ => 0))) (N' := 420) hx hb (hg _ mw_87) rfl hK hP hD hS hA (fun cA => rfl) (by decide) rfl (by decide) (Nat.le_of_ble_eq_true rfl) (Nat.le_of_ble_eq_true rfl) d_rf_init_40 (fun q5 c9 H hK hP hD hS => ?_)
  have hK : va_K D cl [(cZ, .boolean), (cI, .int), (c9, .int)] s := hK
  obtain rfl : cI = c9 := Option.some.inj ((hK.2 1 _ rfl).2.symm.trans (hK.2 2 _ rfl).2)
  have hK := hK.sub (tys' := [(cZ, .boolean), (cI, .int)]) [0, 1] rfl
  have hP : va_P D cl ([(h, .inr (4, [.ref q1, .ref q2, .ref q3, .ref q4, .null, .null, .null, .null, .null, .null, .null, .null, .int 0, .int 0, .null])), (q1, .inl (cZ, 28, .inl (fun _ => 0))), (q2, .inl (cI, 28, .inl (fun _ => 0))), (q3, .inl (cI, 28, .inl (fun _ => 0))), (q4, .inl (cI, 28, .inl (fun _ => 0))), (q5, .inl (cI, 420, .inl (fun _ => 0)))]) H := hP
  have hD : va_D A ([(h, .inr (4, [.ref q1, .ref q2, .ref q3, .ref q4, .null, .null, .null, .null, .null, .null, .null, .null, .int 0, .int 0, .null])), (q1, .inl (cZ, 28, .inl (fun _ => 0))), (q2, .inl (cI, 28, .inl (fun _ => 0))), (q3, .inl (cI, 28, .inl (fun _ => 0))), (q4, .inl (cI, 28, .inl (fun _ => 0))), (q5, .inl (cI, 420, .inl (fun _ => 0)))]) := hD
  refine va_putF (D := D) (ci := 4) (v := .ref q5) (ty := .array .int) (C := "MessageMachineModel") (T := T_rf) (N := 15) hx hb hg in_rf ty_rf tk_rf nm_rf hown hK hP hD hS 0 rfl rfl 4 (by decide) (hg _ mw_539) (fun _ h9 => h9) rfl hin rfl (by decide +kernel) rfl rfl (Nat.le_of_ble_eq_true rfl) d_rf_init_42 (fun H locs hP hD hS => ?_)
  have hP : va_P D cl ([(h, .inr (4, [.ref q1, .ref q2, .ref q3, .ref q4, .ref q5, .null, .null, .null, .null, .null, .null, .null, .int 0, .int 0, .null])), (q1, .inl (cZ, 28, .inl (fun _ => 0))), (q2, .inl (cI, 28, .inl (fun _ => 0))), (q3, .inl (cI, 28, .inl (fun _ => 0))), (q4, .inl (cI, 28, .inl (fun _ => 0))), (q5, .inl (cI, 420, .inl (fun _ => 0)))]) H := hP
  have hD : va_D A ([(h, .inr (4, [.ref q1, .ref q2, .ref q3, .ref q4, .ref q5, .null, .null, .null, .null, .null, .null, .null, .int 0, .int 0, .null])), (q1, .inl (cZ, 28, .inl (fun _ => 0))), (q2, .inl (cI, 28, .inl (fun _ => 0))), (q3, .inl (cI, 28, .inl (fun _ => 0))), (q4, .inl (cI, 28, .inl (fun _ => 0))), (q5, .inl (cI, 420, .inl (fun _ => 0)))]) := hD
  refine lv_aload_n hx hb d_rf_init_45 rfl (lv_at hl 0 rfl) ?_
  refine lv_bipush (v := 28) hx hb d_rf_init_46 rfl ?_
  refine va_newa (atype := .boolean) (ty := .boolean) (a0 := (28, .inl (fun _ => 0))) (N' := 28) hx hb (hg _ mw_86) rfl hK hP hD hS hA (fun cA => rfl) (by decide) rfl (by decide) (Nat.le_of_ble_eq_true rfl) (Nat.le_of_ble_eq_true rfl) d_rf_init_48 (fun q6 c9 H hK hP hD hS => ?_)
  have hK : va_K D cl [(cZ, .boolean), (cI, .int), (c9, .boolean)] s := hK
  obtain rfl : cZ = c9 := Option.some.inj ((hK.2 0 _ rfl).2.symm.trans (hK.2 2 _ rfl).2)
  have hK := hK.sub (tys' := [(cZ, .boolean), (cI, .int)]) [0, 1] rfl
  have hP : va_P D cl ([(h, .inr (4, [.ref q1, .ref q2, .ref q3, .ref q4, .ref q5, .null, .null, .null, .null, .null, .null, .null, .int 0, .int 0, .null])), (q1, .inl (cZ, 28, .inl (fun _ => 0))), (q2, .inl (cI, 28, .inl (fun _ => 0))), (q3, .inl (cI, 28, .inl (fun _ => 0))), (q4, .inl (cI, 28, .inl (fun _ => 0))), (q5, .inl (cI, 420, .inl (fun _ => 0))), (q6, .inl (cZ, 28, .inl (fun _ => 0)))]) H := hP
  have hD : va_D A ([(h, .inr (4, [.ref q1, .ref q2, .ref q3, .ref q4, .ref q5, .null, .null, .null, .null, .null, .null, .null, .int 0, .int 0, .null])), (q1, .inl (cZ, 28, .inl (fun _ => 0))), (q2, .inl (cI, 28, .inl (fun _ => 0))), (q3, .inl (cI, 28, .inl (fun _ => 0))), (q4, .inl (cI, 28, .inl (fun _ => 0))), (q5, .inl (cI, 420, .inl (fun _ => 0))), (q6, .inl (cZ, 28, .inl (fun _ => 0)))]) := hD
  refine va_putF (D := D) (ci := 4) (v := .ref q6) (ty := .array .boolean) (C := "MessageMachineModel") (T := T_rf) (N := 15) hx hb hg in_rf ty_rf tk_rf nm_rf hown hK hP hD hS 0 rfl rfl 5 (by decide) (hg _ mw_540) (fun _ h9 => h9) rfl hin rfl (by decide +kernel) rfl rfl (Nat.le_of_ble_eq_true rfl) d_rf_init_50 (fun H locs hP hD hS => ?_)
  have hP : va_P D cl ([(h, .inr (4, [.ref q1, .ref q2, .ref q3, .ref q4, .ref q5, .ref q6, .null, .null, .null, .null, .null, .null, .int 0, .int 0, .null])), (q1, .inl (cZ, 28, .inl (fun _ => 0))), (q2, .inl (cI, 28, .inl (fun _ => 0))), (q3, .inl (cI, 28, .inl (fun _ => 0))), (q4, .inl (cI, 28, .inl (fun _ => 0))), (q5, .inl (cI, 420, .inl (fun _ => 0))), (q6, .inl (cZ, 28, .inl (fun _ => 0)))]) H := hP
  have hD : va_D A ([(h, .inr (4, [.ref q1, .ref q2, .ref q3, .ref q4, .ref q5, .ref q6, .null, .null, .null, .null, .null, .null, .int 0, .int 0, .null])), (q1, .inl (cZ, 28, .inl (fun _ => 0))), (q2, .inl (cI, 28, .inl (fun _ => 0))), (q3, .inl (cI, 28, .inl (fun _ => 0))), (q4, .inl (cI, 28, .inl (fun _ => 0))), (q5, .inl (cI, 420, .inl (fun _ => 0))), (q6, .inl (cZ, 28, .inl (fun _ => 0)))]) := hD
  refine lv_aload_n hx hb d_rf_init_53 rfl (lv_at hl 0 rfl) ?_
  refine lv_bipush (v := 28) hx hb d_rf_init_54 rfl ?_
  refine va_newa (atype := .int) (ty := .int) (a0 := (28, .inl (fun _ => 0))) (N' := 28) hx hb (hg _ mw_87) rfl hK hP hD hS hA (fun cA => rfl) (by decide) rfl (by decide) (Nat.le_of_ble_eq_true rfl) (Nat.le_of_ble_eq_true rfl) d_rf_init_56 (fun q7 c9 H hK hP hD hS => ?_)
  have hK : va_K D cl [(cZ, .boolean), (cI, .int), (c9, .int)] s := hK
  obtain rfl : cI = c9 := Option.some.inj ((hK.2 1 _ rfl).2.symm.trans (hK.2 2 _ rfl).2)
  have hK := hK.sub (tys' := [(cZ, .boolean), (cI, .int)]) [0, 1] rfl
  have hP : va_P D cl ([(h, .inr (4, [.ref q1, .ref q2, .ref q3, .ref q4, .ref q5, .ref q6, .null, .null, .null, .null, .null, .null, .int 0, .int 0, .null])), (q1, .inl (cZ, 28, .inl (fun _ => 0))), (q2, .inl (cI, 28, .inl (fun _ => 0))), (q3, .inl (cI, 28, .inl (fun _ => 0))), (q4, .inl (cI, 28, .inl (fun _ => 0))), (q5, .inl (cI, 420, .inl (fun _ => 0))), (q6, .inl (cZ, 28, .inl (fun _ => 0))), (q7, .inl (cI, 28, .inl (fun _ => 0)))]) H := hP
  have hD : va_D A ([(h, .inr (4, [.ref q1, .ref q2, .ref q3, .ref q4, .ref q5, .ref q6, .null, .null, .null, .null, .null, .null, .int 0, .int 0, .null])), (q1, .inl (cZ, 28, .inl (fun _ => 0))), (q2, .inl (cI, 28, .inl (fun _ => 0))), (q3, .inl (cI, 28, .inl (fun _ => 0))), (q4, .inl (cI, 28, .inl (fun _ => 0))), (q5, .inl (cI, 420, .inl (fun _ => 0))), (q6, .inl (cZ, 28, .inl (fun _ => 0))), (q7, .inl (cI, 28, .inl (fun _ => 0)))]) := hD
  refine va_putF (D := D) (ci := 4) (v := .ref q7) (ty := .array .int) (C := "MessageMachineModel") (T := T_rf) (N := 15) hx hb hg in_rf ty_rf tk_rf nm_rf hown hK hP hD hS 0 rfl rfl 6 (by decide) (hg _ mw_541) (fun _ h9 => h9) rfl hin rfl (by decide +kernel) rfl rfl (Nat.le_of_ble_eq_true rfl) d_rf_init_58 (fun H locs hP hD hS => ?_)
  have hP : va_P D cl ([(h, .inr (4, [.ref q1, .ref q2, .ref q3, .ref q4, .ref q5, .ref q6, .ref q7, .null, .null, .null, .null, .null, .int 0, .int 0, .null])), (q1, .inl (cZ, 28, .inl (fun _ => 0))), (q2, .inl (cI, 28, .inl (fun _ => 0))), (q3, .inl (cI, 28, .inl (fun _ => 0))), (q4, .inl (cI, 28, .inl (fun _ => 0))), (q5, .inl (cI, 420, .inl (fun _ => 0))), (q6, .inl (cZ, 28, .inl (fun _ => 0))), (q7, .inl (cI, 28, .inl (fun _ => 0)))]) H := hP
  have hD : va_D A ([(h, .inr (4, [.ref q1, .ref q2, .ref q3, .ref q4, .ref q5, .ref q6, .ref q7, .null, .null, .null, .null, .null, .int 0, .int 0, .null])), (q1, .inl (cZ, 28, .inl (fun _ => 0))), (q2, .inl (cI, 28, .inl (fun _ => 0))), (q3, .inl (cI, 28, .inl (fun _ => 0))), (q4, .inl (cI, 28, .inl (fun _ => 0))), (q5, .inl (cI, 420, .inl (fun _ => 0))), (q6, .inl (cZ, 28, .inl (fun _ => 0))), (q7, .inl (cI, 28, .inl (fun _ => 0)))]) := hD
  refine lv_aload_n hx hb d_rf_init_61 rfl (lv_at hl 0 rfl) ?_
  refine lv_bipush (v := 28) hx hb d_rf_init_62 rfl ?_
  refine va_newa (atype := .int) (ty := .int) (a0 := (28, .inl (fun _ => 0))) (N' := 28) hx hb (hg _ mw_87) rfl hK hP hD hS hA (fun cA => rfl) (by decide) rfl (by decide) (Nat.le_of_ble_eq_true rfl) (Nat.le_of_ble_eq_true rfl) d_rf_init_64 (fun q8 c9 H hK hP hD hS => ?_)
  have hK : va_K D cl [(cZ, .boolean), (cI, .int), (c9, .int)] s := hK
  obtain rfl : cI = c9 := Option.some.inj ((hK.2 1 _ rfl).2.symm.trans (hK.2 2 _ rfl).2)
  have hK := hK.sub (tys' := [(cZ, .boolean), (cI, .int)]) [0, 1] rfl
  have hP : va_P D cl ([(h, .inr (4, [.ref q1, .ref q2, .ref q3, .ref q4, .ref q5, .ref q6, .ref q7, .null, .null, .null, .null, .null, .int 0, .int 0, .null])), (q1, .inl (cZ, 28, .inl (fun _ => 0))), (q2, .inl (cI, 28, .inl (fun _ => 0))), (q3, .inl (cI, 28, .inl (fun _ => 0))), (q4, .inl (cI, 28, .inl (fun _ => 0))), (q5, .inl (cI, 420, .inl (fun _ => 0))), (q6, .inl (cZ, 28, .inl (fun _ => 0))), (q7, .inl (cI, 28, .inl (fun _ => 0))), (q8, .inl (cI, 28, .inl (fun _ => 0)))]) H := hP
  have hD : va_D A ([(h, .inr (4, [.ref q1, .ref q2, .ref q3, .ref q4, .ref q5, .ref q6, .ref q7, .null, .null, .null, .null, .null, .int 0, .int 0, .null])), (q1, .inl (cZ, 28, .inl (fun _ => 0))), (q2, .inl (cI, 28, .inl (fun _ => 0))), (q3, .inl (cI, 28, .inl (fun _ => 0))), (q4, .inl (cI, 28, .inl (fun _ => 0))), (q5, .inl (cI, 420, .inl (fun _ => 0))), (q6, .inl (cZ, 28, .inl (fun _ => 0))), (q7, .inl (cI, 28, .inl (fun _ => 0))), (q8, .inl (cI, 28, .inl (fun _ => 0)))]) := hD
  refine va_putF (D := D) (ci := 4) (v := .ref q8) (ty := .array .int) (C := "MessageMachineModel") (T := T_rf) (N := 15) hx hb hg in_rf ty_rf tk_rf nm_rf hown hK hP hD hS 0 rfl rfl 7 (by decide) (hg _ mw_542) (fun _ h9 => h9) rfl hin rfl (by decide +kernel) rfl rfl (Nat.le_of_ble_eq_true rfl) d_rf_init_66 (fun H locs hP hD hS => ?_)
  have hP : va_P D cl ([(h, .inr (4, [.ref q1, .ref q2, .ref q3, .ref q4, .ref q5, .ref q6, .ref q7, .ref q8, .null, .null, .null, .null, .int 0, .int 0, .null])), (q1, .inl (cZ, 28, .inl (fun _ => 0))), (q2, .inl (cI, 28, .inl (fun _ => 0))), (q3, .inl (cI, 28, .inl (fun _ => 0))), (q4, .inl (cI, 28, .inl (fun _ => 0))), (q5, .inl (cI, 420, .inl (fun _ => 0))), (q6, .inl (cZ, 28, .inl (fun _ => 0))), (q7, .inl (cI, 28, .inl (fun _ => 0))), (q8, .inl (cI, 28, .inl (fun _ => 0)))]) H := hP
  have hD : va_D A ([(h, .inr (4, [.ref q1, .ref q2, .ref q3, .ref q4, .ref q5, .ref q6, .ref q7, .ref q8, .null, .null, .null, .null, .int 0, .int 0, .null])), (q1, .inl (cZ, 28, .inl (fun _ => 0))), (q2, .inl (cI, 28, .inl (fun _ => 0))), (q3, .inl (cI, 28, .inl (fun _ => 0))), (q4, .inl (cI, 28, .inl (fun _ => 0))), (q5, .inl (cI, 420, .inl (fun _ => 0))), (q6, .inl (cZ, 28, .inl (fun _ => 0))), (q7, .inl (cI, 28, .inl (fun _ => 0))), (q8, .inl (cI, 28, .inl (fun _ => 0)))]) := hD
  refine lv_aload_n hx hb d_rf_init_69 rfl (lv_at hl 0 rfl) ?_
  refine lv_sipush (v := 224) hx hb d_rf_init_70 rfl ?_
  refine va_newa (atype := .boolean) (ty := .boolean) (a0 := (224, .inl (fun _ => 0))) (N' := 224) hx hb (hg _ mw_86) rfl hK hP hD hS hA (fun cA => rfl) (by decide) rfl (by decide) (Nat.le_of_ble_eq_true rfl) (Nat.le_of_ble_eq_true rfl) d_rf_init_73 (fun q9 c9 H hK hP hD hS => ?_)
  have hK : va_K D cl [(cZ, .boolean), (cI, .int), (c9, .boolean)] s := hK
  obtain rfl : cZ = c9 := Option.some.inj ((hK.2 0 _ rfl).2.symm.trans (hK.2 2 _ rfl).2)
  have hK := hK.sub (tys' := [(cZ, .boolean), (cI, .int)]) [0, 1] rfl
  have hP : va_P D cl ([(h, .inr (4, [.ref q1, .ref q2, .ref q3, .ref q4, .ref q5, .ref q6, .ref q7, .ref q8, .null, .null, .null, .null, .int 0, .int 0, .null])), (q1, .inl (cZ, 28, .inl (fun _ => 0))), (q2, .inl (cI, 28, .inl (fun _ => 0))), (q3, .inl (cI, 28, .inl (fun _ => 0))), (q4, .inl (cI, 28, .inl (fun _ => 0))), (q5, .inl (cI, 420, .inl (fun _ => 0))), (q6, .inl (cZ, 28, .inl (fun _ => 0))), (q7, .inl (cI, 28, .inl (fun _ => 0))), (q8, .inl (cI, 28, .inl (fun _ => 0))), (q9, .inl (cZ, 224, .inl (fun _ => 0)))]) H := hP
  have hD : va_D A ([(h, .inr (4, [.ref q1, .ref q2, .ref q3, .ref q4, .ref q5, .ref q6, .ref q7, .ref q8, .null, .null, .null, .null, .int 0, .int 0, .null])), (q1, .inl (cZ, 28, .inl (fun _ => 0))), (q2, .inl (cI, 28, .inl (fun _ => 0))), (q3, .inl (cI, 28, .inl (fun _ => 0))), (q4, .inl (cI, 28, .inl (fun _ => 0))), (q5, .inl (cI, 420, .inl (fun _ => 0))), (q6, .inl (cZ, 28, .inl (fun _ => 0))), (q7, .inl (cI, 28, .inl (fun _ => 0))), (q8, .inl (cI, 28, .inl (fun _ => 0))), (q9, .inl (cZ, 224, .inl (fun _ => 0)))]) := hD
  refine va_putF (D := D) (ci := 4) (v := .ref q9) (ty := .array .boolean) (C := "MessageMachineModel") (T := T_rf) (N := 15) hx hb hg in_rf ty_rf tk_rf nm_rf hown hK hP hD hS 0 rfl rfl 8 (by decide) (hg _ mw_543) (fun _ h9 => h9) rfl hin rfl (by decide +kernel) rfl rfl (Nat.le_of_ble_eq_true rfl) d_rf_init_75 (fun H locs hP hD hS => ?_)
  have hP : va_P D cl ([(h, .inr (4, [.ref q1, .ref q2, .ref q3, .ref q4, .ref q5, .ref q6, .ref q7, .ref q8, .ref q9, .null, .null, .null, .int 0, .int 0, .null])), (q1, .inl (cZ, 28, .inl (fun _ => 0))), (q2, .inl (cI, 28, .inl (fun _ => 0))), (q3, .inl (cI, 28, .inl (fun _ => 0))), (q4, .inl (cI, 28, .inl (fun _ => 0))), (q5, .inl (cI, 420, .inl (fun _ => 0))), (q6, .inl (cZ, 28, .inl (fun _ => 0))), (q7, .inl (cI, 28, .inl (fun _ => 0))), (q8, .inl (cI, 28, .inl (fun _ => 0))), (q9, .inl (cZ, 224, .inl (fun _ => 0)))]) H := hP
  have hD : va_D A ([(h, .inr (4, [.ref q1, .ref q2, .ref q3, .ref q4, .ref q5, .ref q6, .ref q7, .ref q8, .ref q9, .null, .null, .null, .int 0, .int 0, .null])), (q1, .inl (cZ, 28, .inl (fun _ => 0))), (q2, .inl (cI, 28, .inl (fun _ => 0))), (q3, .inl (cI, 28, .inl (fun _ => 0))), (q4, .inl (cI, 28, .inl (fun _ => 0))), (q5, .inl (cI, 420, .inl (fun _ => 0))), (q6, .inl (cZ, 28, .inl (fun _ => 0))), (q7, .inl (cI, 28, .inl (fun _ => 0))), (q8, .inl (cI, 28, .inl (fun _ => 0))), (q9, .inl (cZ, 224, .inl (fun _ => 0)))]) := hD
  refine lv_aload_n hx hb d_rf_init_78 rfl (lv_at hl 0 rfl) ?_
  refine lv_sipush (v := 3584) hx hb d_rf_init_79 rfl ?_
  refine va_newa (atype := .int) (ty := .int) (a0 := (3584, .inl (fun _ => 0))) (N' := 3584) hx hb (hg _ mw_87) rfl hK hP hD hS hA (fun cA => rfl) (by decide) rfl (by decide) (Nat.le_of_ble_eq_true rfl) (Nat.le_of_ble_eq_true rfl) d_rf_init_82 (fun q10 c9 H hK hP hD hS => ?_)
  have hK : va_K D cl [(cZ, .boolean), (cI, .int), (c9, .int)] s := hK
  obtain rfl : cI = c9 := Option.some.inj ((hK.2 1 _ rfl).2.symm.trans (hK.2 2 _ rfl).2)
  have hK := hK.sub (tys' := [(cZ, .boolean), (cI, .int)]) [0, 1] rfl
  have hP : va_P D cl ([(h, .inr (4, [.ref q1, .ref q2, .ref q3, .ref q4, .ref q5, .ref q6, .ref q7, .ref q8, .ref q9, .null, .null, .null, .int 0, .int 0, .null])), (q1, .inl (cZ, 28, .inl (fun _ => 0))), (q2, .inl (cI, 28, .inl (fun _ => 0))), (q3, .inl (cI, 28, .inl (fun _ => 0))), (q4, .inl (cI, 28, .inl (fun _ => 0))), (q5, .inl (cI, 420, .inl (fun _ => 0))), (q6, .inl (cZ, 28, .inl (fun _ => 0))), (q7, .inl (cI, 28, .inl (fun _ => 0))), (q8, .inl (cI, 28, .inl (fun _ => 0))), (q9, .inl (cZ, 224, .inl (fun _ => 0))), (q10, .inl (cI, 3584, .inl (fun _ => 0)))]) H := hP
  have hD : va_D A ([(h, .inr (4, [.ref q1, .ref q2, .ref q3, .ref q4, .ref q5, .ref q6, .ref q7, .ref q8, .ref q9, .null, .null, .null, .int 0, .int 0, .null])), (q1, .inl (cZ, 28, .inl (fun _ => 0))), (q2, .inl (cI, 28, .inl (fun _ => 0))), (q3, .inl (cI, 28, .inl (fun _ => 0))), (q4, .inl (cI, 28, .inl (fun _ => 0))), (q5, .inl (cI, 420, .inl (fun _ => 0))), (q6, .inl (cZ, 28, .inl (fun _ => 0))), (q7, .inl (cI, 28, .inl (fun _ => 0))), (q8, .inl (cI, 28, .inl (fun _ => 0))), (q9, .inl (cZ, 224, .inl (fun _ => 0))), (q10, .inl (cI, 3584, .inl (fun _ => 0)))]) := hD
  refine va_putF (D := D) (ci := 4) (v := .ref q10) (ty := .array .int) (C := "MessageMachineModel") (T := T_rf) (N := 15) hx hb hg in_rf ty_rf tk_rf nm_rf hown hK hP hD hS 0 rfl rfl 9 (by decide) (hg _ mw_544) (fun _ h9 => h9) rfl hin rfl (by decide +kernel) rfl rfl (Nat.le_of_ble_eq_true rfl) d_rf_init_84 (fun H locs hP hD hS => ?_)
  have hP : va_P D cl ([(h, .inr (4, [.ref q1, .ref q2, .ref q3, .ref q4, .ref q5, .ref q6, .ref q7, .ref q8, .ref q9, .ref q10, .null, .null, .int 0, .int 0, .null])), (q1, .inl (cZ, 28, .inl (fun _ => 0))), (q2, .inl (cI, 28, .inl (fun _ => 0))), (q3, .inl (cI, 28, .inl (fun _ => 0))), (q4, .inl (cI, 28, .inl (fun _ => 0))), (q5, .inl (cI, 420, .inl (fun _ => 0))), (q6, .inl (cZ, 28, .inl (fun _ => 0))), (q7, .inl (cI, 28, .inl (fun _ => 0))), (q8, .inl (cI, 28, .inl (fun _ => 0))), (q9, .inl (cZ, 224, .inl (fun _ => 0))), (q10, .inl (cI, 3584, .inl (fun _ => 0)))]) H := hP
  have hD : va_D A ([(h, .inr (4, [.ref q1, .ref q2, .ref q3, .ref q4, .ref q5, .ref q6, .ref q7, .ref q8, .ref q9, .ref q10, .null, .null, .int 0, .int 0, .null])), (q1, .inl (cZ, 28, .inl (fun _ => 0))), (q2, .inl (cI, 28, .inl (fun _ => 0))), (q3, .inl (cI, 28, .inl (fun _ => 0))), (q4, .inl (cI, 28, .inl (fun _ => 0))), (q5, .inl (cI, 420, .inl (fun _ => 0))), (q6, .inl (cZ, 28, .inl (fun _ => 0))), (q7, .inl (cI, 28, .inl (fun _ => 0))), (q8, .inl (cI, 28, .inl (fun _ => 0))), (q9, .inl (cZ, 224, .inl (fun _ => 0))), (q10, .inl (cI, 3584, .inl (fun _ => 0)))]) := hD
  refine lv_aload_n hx hb d_rf_init_87 rfl (lv_at hl 0 rfl) ?_
  refine lv_bipush (v := 28) hx hb d_rf_init_88 rfl ?_
  refine va_newa (atype := .int) (ty := .int) (a0 := (28, .inl (fun _ => 0))) (N' := 28) hx hb (hg _ mw_87) rfl hK hP hD hS hA (fun cA => rfl) (by decide) rfl (by decide) (Nat.le_of_ble_eq_true rfl) (Nat.le_of_ble_eq_true rfl) d_rf_init_90 (fun q11 c9 H hK hP hD hS => ?_)
  have hK : va_K D cl [(cZ, .boolean), (cI, .int), (c9, .int)] s := hK
  obtain rfl : cI = c9 := Option.some.inj ((hK.2 1 _ rfl).2.symm.trans (hK.2 2 _ rfl).2)
  have hK := hK.sub (tys' := [(cZ, .boolean), (cI, .int)]) [0, 1] rfl
  have hP : va_P D cl ([(h, .inr (4, [.ref q1, .ref q2, .ref q3, .ref q4, .ref q5, .ref q6, .ref q7, .ref q8, .ref q9, .ref q10, .null, .null, .int 0, .int 0, .null])), (q1, .inl (cZ, 28, .inl (fun _ => 0))), (q2, .inl (cI, 28, .inl (fun _ => 0))), (q3, .inl (cI, 28, .inl (fun _ => 0))), (q4, .inl (cI, 28, .inl (fun _ => 0))), (q5, .inl (cI, 420, .inl (fun _ => 0))), (q6, .inl (cZ, 28, .inl (fun _ => 0))), (q7, .inl (cI, 28, .inl (fun _ => 0))), (q8, .inl (cI, 28, .inl (fun _ => 0))), (q9, .inl (cZ, 224, .inl (fun _ => 0))), (q10, .inl (cI, 3584, .inl (fun _ => 0))), (q11, .inl (cI, 28, .inl (fun _ => 0)))]) H := hP
  have hD : va_D A ([(h, .inr (4, [.ref q1, .ref q2, .ref q3, .ref q4, .ref q5, .ref q6, .ref q7, .ref q8, .ref q9, .ref q10, .null, .null, .int 0, .int 0, .null])), (q1, .inl (cZ, 28, .inl (fun _ => 0))), (q2, .inl (cI, 28, .inl (fun _ => 0))), (q3, .inl (cI, 28, .inl (fun _ => 0))), (q4, .inl (cI, 28, .inl (fun _ => 0))), (q5, .inl (cI, 420, .inl (fun _ => 0))), (q6, .inl (cZ, 28, .inl (fun _ => 0))), (q7, .inl (cI, 28, .inl (fun _ => 0))), (q8, .inl (cI, 28, .inl (fun _ => 0))), (q9, .inl (cZ, 224, .inl (fun _ => 0))), (q10, .inl (cI, 3584, .inl (fun _ => 0))), (q11, .inl (cI, 28, .inl (fun _ => 0)))]) := hD
  refine va_putF (D := D) (ci := 4) (v := .ref q11) (ty := .array .int) (C := "MessageMachineModel") (T := T_rf) (N := 15) hx hb hg in_rf ty_rf tk_rf nm_rf hown hK hP hD hS 0 rfl rfl 10 (by decide) (hg _ mw_545) (fun _ h9 => h9) rfl hin rfl (by decide +kernel) rfl rfl (Nat.le_of_ble_eq_true rfl) d_rf_init_92 (fun H locs hP hD hS => ?_)
  have hP : va_P D cl ([(h, .inr (4, [.ref q1, .ref q2, .ref q3, .ref q4, .ref q5, .ref q6, .ref q7, .ref q8, .ref q9, .ref q10, .ref q11, .null, .int 0, .int 0, .null])), (q1, .inl (cZ, 28, .inl (fun _ => 0))), (q2, .inl (cI, 28, .inl (fun _ => 0))), (q3, .inl (cI, 28, .inl (fun _ => 0))), (q4, .inl (cI, 28, .inl (fun _ => 0))), (q5, .inl (cI, 420, .inl (fun _ => 0))), (q6, .inl (cZ, 28, .inl (fun _ => 0))), (q7, .inl (cI, 28, .inl (fun _ => 0))), (q8, .inl (cI, 28, .inl (fun _ => 0))), (q9, .inl (cZ, 224, .inl (fun _ => 0))), (q10, .inl (cI, 3584, .inl (fun _ => 0))), (q11, .inl (cI, 28, .inl (fun _ => 0)))]) H := hP
  have hD : va_D A ([(h, .inr (4, [.ref q1, .ref q2, .ref q3, .ref q4, .ref q5, .ref q6, .ref q7, .ref q8, .ref q9, .ref q10, .ref q11, .null, .int 0, .int 0, .null])), (q1, .inl (cZ, 28, .inl (fun _ => 0))), (q2, .inl (cI, 28, .inl (fun _ => 0))), (q3, .inl (cI, 28, .inl (fun _ => 0))), (q4, .inl (cI, 28, .inl (fun _ => 0))), (q5, .inl (cI, 420, .inl (fun _ => 0))), (q6, .inl (cZ, 28, .inl (fun _ => 0))), (q7, .inl (cI, 28, .inl (fun _ => 0))), (q8, .inl (cI, 28, .inl (fun _ => 0))), (q9, .inl (cZ, 224, .inl (fun _ => 0))), (q10, .inl (cI, 3584, .inl (fun _ => 0))), (q11, .inl (cI, 28, .inl (fun _ => 0)))]) := hD
  refine lv_aload_n hx hb d_rf_init_95 rfl (lv_at hl 0 rfl) ?_
  refine lv_bipush (v := 6) hx hb d_rf_init_96 rfl ?_
  refine va_newa (atype := .int) (ty := .int) (a0 := (6, .inl (fun _ => 0))) (N' := 6) hx hb (hg _ mw_87) rfl hK hP hD hS hA (fun cA => rfl) (by decide) rfl (by decide) (Nat.le_of_ble_eq_true rfl) (Nat.le_of_ble_eq_true rfl) d_rf_init_98 (fun q12 c9 H hK hP hD hS => ?_)
  have hK : va_K D cl [(cZ, .boolean), (cI, .int), (c9, .int)] s := hK
  obtain rfl : cI = c9 := Option.some.inj ((hK.2 1 _ rfl).2.symm.trans (hK.2 2 _ rfl).2)
  have hK := hK.sub (tys' := [(cZ, .boolean), (cI, .int)]) [0, 1] rfl
  have hP : va_P D cl ([(h, .inr (4, [.ref q1, .ref q2, .ref q3, .ref q4, .ref q5, .ref q6, .ref q7, .ref q8, .ref q9, .ref q10, .ref q11, .null, .int 0, .int 0, .null])), (q1, .inl (cZ, 28, .inl (fun _ => 0))), (q2, .inl (cI, 28, .inl (fun _ => 0))), (q3, .inl (cI, 28, .inl (fun _ => 0))), (q4, .inl (cI, 28, .inl (fun _ => 0))), (q5, .inl (cI, 420, .inl (fun _ => 0))), (q6, .inl (cZ, 28, .inl (fun _ => 0))), (q7, .inl (cI, 28, .inl (fun _ => 0))), (q8, .inl (cI, 28, .inl (fun _ => 0))), (q9, .inl (cZ, 224, .inl (fun _ => 0))), (q10, .inl (cI, 3584, .inl (fun _ => 0))), (q11, .inl (cI, 28, .inl (fun _ => 0))), (q12, .inl (cI, 6, .inl (fun _ => 0)))]) H := hP
  have hD : va_D A ([(h, .inr (4, [.ref q1, .ref q2, .ref q3, .ref q4, .ref q5, .ref q6, .ref q7, .ref q8, .ref q9, .ref q10, .ref q11, .null, .int 0, .int 0, .null])), (q1, .inl (cZ, 28, .inl (fun _ => 0))), (q2, .inl (cI, 28, .inl (fun _ => 0))), (q3, .inl (cI, 28, .inl (fun _ => 0))), (q4, .inl (cI, 28, .inl (fun _ => 0))), (q5, .inl (cI, 420, .inl (fun _ => 0))), (q6, .inl (cZ, 28, .inl (fun _ => 0))), (q7, .inl (cI, 28, .inl (fun _ => 0))), (q8, .inl (cI, 28, .inl (fun _ => 0))), (q9, .inl (cZ, 224, .inl (fun _ => 0))), (q10, .inl (cI, 3584, .inl (fun _ => 0))), (q11, .inl (cI, 28, .inl (fun _ => 0))), (q12, .inl (cI, 6, .inl (fun _ => 0)))]) := hD
  refine va_putF (D := D) (ci := 4) (v := .ref q12) (ty := .array .int) (C := "MessageMachineModel") (T := T_rf) (N := 15) hx hb hg in_rf ty_rf tk_rf nm_rf hown hK hP hD hS 0 rfl rfl 11 (by decide) (hg _ mw_546) (fun _ h9 => h9) rfl hin rfl (by decide +kernel) rfl rfl (Nat.le_of_ble_eq_true rfl) d_rf_init_100 (fun H locs hP hD hS => ?_)
  have hP : va_P D cl ([(h, .inr (4, [.ref q1, .ref q2, .ref q3, .ref q4, .ref q5, .ref q6, .ref q7, .ref q8, .ref q9, .ref q10, .ref q11, .ref q12, .int 0, .int 0, .null])), (q1, .inl (cZ, 28, .inl (fun _ => 0))), (q2, .inl (cI, 28, .inl (fun _ => 0))), (q3, .inl (cI, 28, .inl (fun _ => 0))), (q4, .inl (cI, 28, .inl (fun _ => 0))), (q5, .inl (cI, 420, .inl (fun _ => 0))), (q6, .inl (cZ, 28, .inl (fun _ => 0))), (q7, .inl (cI, 28, .inl (fun _ => 0))), (q8, .inl (cI, 28, .inl (fun _ => 0))), (q9, .inl (cZ, 224, .inl (fun _ => 0))), (q10, .inl (cI, 3584, .inl (fun _ => 0))), (q11, .inl (cI, 28, .inl (fun _ => 0))), (q12, .inl (cI, 6, .inl (fun _ => 0)))]) H := hP
  have hD : va_D A ([(h, .inr (4, [.ref q1, .ref q2, .ref q3, .ref q4, .ref q5, .ref q6, .ref q7, .ref q8, .ref q9, .ref q10, .ref q11, .ref q12, .int 0, .int 0, .null])), (q1, .inl (cZ, 28, .inl (fun _ => 0))), (q2, .inl (cI, 28, .inl (fun _ => 0))), (q3, .inl (cI, 28, .inl (fun _ => 0))), (q4, .inl (cI, 28, .inl (fun _ => 0))), (q5, .inl (cI, 420, .inl (fun _ => 0))), (q6, .inl (cZ, 28, .inl (fun _ => 0))), (q7, .inl (cI, 28, .inl (fun _ => 0))), (q8, .inl (cI, 28, .inl (fun _ => 0))), (q9, .inl (cZ, 224, .inl (fun _ => 0))), (q10, .inl (cI, 3584, .inl (fun _ => 0))), (q11, .inl (cI, 28, .inl (fun _ => 0))), (q12, .inl (cI, 6, .inl (fun _ => 0)))]) := hD
  refine lv_aload_n hx hb d_rf_init_103 rfl (lv_at hl 0 rfl) ?_
  refine lv_bipush (v := 28) hx hb d_rf_init_104 rfl ?_
  refine va_newa (atype := .boolean) (ty := .boolean) (a0 := (28, .inl (fun _ => 0))) (N' := 28) hx hb (hg _ mw_86) rfl hK hP hD hS hA (fun cA => rfl) (by decide) rfl (by decide) (Nat.le_of_ble_eq_true rfl) (Nat.le_of_ble_eq_true rfl) d_rf_init_106 (fun q13 c9 H hK hP hD hS => ?_)
  have hK : va_K D cl [(cZ, .boolean), (cI, .int), (c9, .boolean)] s := hK
  obtain rfl : cZ = c9 := Option.some.inj ((hK.2 0 _ rfl).2.symm.trans (hK.2 2 _ rfl).2)
  have hK := hK.sub (tys' := [(cZ, .boolean), (cI, .int)]) [0, 1] rfl
  have hP : va_P D cl ([(h, .inr (4, [.ref q1, .ref q2, .ref q3, .ref q4, .ref q5, .ref q6, .ref q7, .ref q8, .ref q9, .ref q10, .ref q11, .ref q12, .int 0, .int 0, .null])), (q1, .inl (cZ, 28, .inl (fun _ => 0))), (q2, .inl (cI, 28, .inl (fun _ => 0))), (q3, .inl (cI, 28, .inl (fun _ => 0))), (q4, .inl (cI, 28, .inl (fun _ => 0))), (q5, .inl (cI, 420, .inl (fun _ => 0))), (q6, .inl (cZ, 28, .inl (fun _ => 0))), (q7, .inl (cI, 28, .inl (fun _ => 0))), (q8, .inl (cI, 28, .inl (fun _ => 0))), (q9, .inl (cZ, 224, .inl (fun _ => 0))), (q10, .inl (cI, 3584, .inl (fun _ => 0))), (q11, .inl (cI, 28, .inl (fun _ => 0))), (q12, .inl (cI, 6, .inl (fun _ => 0))), (q13, .inl (cZ, 28, .inl (fun _ => 0)))]) H := hP
  have hD : va_D A ([(h, .inr (4, [.ref q1, .ref q2, .ref q3, .ref q4, .ref q5, .ref q6, .ref q7, .ref q8, .ref q9, .ref q10, .ref q11, .ref q12, .int 0, .int 0, .null])), (q1, .inl (cZ, 28, .inl (fun _ => 0))), (q2, .inl (cI, 28, .inl (fun _ => 0))), (q3, .inl (cI, 28, .inl (fun _ => 0))), (q4, .inl (cI, 28, .inl (fun _ => 0))), (q5, .inl (cI, 420, .inl (fun _ => 0))), (q6, .inl (cZ, 28, .inl (fun _ => 0))), (q7, .inl (cI, 28, .inl (fun _ => 0))), (q8, .inl (cI, 28, .inl (fun _ => 0))), (q9, .inl (cZ, 224, .inl (fun _ => 0))), (q10, .inl (cI, 3584, .inl (fun _ => 0))), (q11, .inl (cI, 28, .inl (fun _ => 0))), (q12, .inl (cI, 6, .inl (fun _ => 0))), (q13, .inl (cZ, 28, .inl (fun _ => 0)))]) := hD
  refine va_putF (D := D) (ci := 4) (v := .ref q13) (ty := .array .boolean) (C := "MessageMachineModel") (T := T_rf) (N := 15) hx hb hg in_rf ty_rf tk_rf nm_rf hown hK hP hD hS 0 rfl rfl 14 (by decide) (hg _ mw_549) (fun _ h9 => h9) rfl hin rfl (by decide +kernel) rfl rfl (Nat.le_of_ble_eq_true rfl) d_rf_init_108 (fun H locs hP hD hS => ?_)
  have hP : va_P D cl ([(h, .inr (4, [.ref q1, .ref q2, .ref q3, .ref q4, .ref q5, .ref q6, .ref q7, .ref q8, .ref q9, .ref q10, .ref q11, .ref q12, .int 0, .int 0, .ref q13])), (q1, .inl (cZ, 28, .inl (fun _ => 0))), (q2, .inl (cI, 28, .inl (fun _ => 0))), (q3, .inl (cI, 28, .inl (fun _ => 0))), (q4, .inl (cI, 28, .inl (fun _ => 0))), (q5, .inl (cI, 420, .inl (fun _ => 0))), (q6, .inl (cZ, 28, .inl (fun _ => 0))), (q7, .inl (cI, 28, .inl (fun _ => 0))), (q8, .inl (cI, 28, .inl (fun _ => 0))), (q9, .inl (cZ, 224, .inl (fun _ => 0))), (q10, .inl (cI, 3584, .inl (fun _ => 0))), (q11, .inl (cI, 28, .inl (fun _ => 0))), (q12, .inl (cI, 6, .inl (fun _ => 0))), (q13, .inl (cZ, 28, .inl (fun _ => 0)))]) H := hP
  have hD : va_D A ([(h, .inr (4, [.ref q1, .ref q2, .ref q3, .ref q4, .ref q5, .ref q6, .ref q7, .ref q8, .ref q9, .ref q10, .ref q11, .ref q12, .int 0, .int 0, .ref q13])), (q1, .inl (cZ, 28, .inl (fun _ => 0))), (q2, .inl (cI, 28, .inl (fun _ => 0))), (q3, .inl (cI, 28, .inl (fun _ => 0))), (q4, .inl (cI, 28, .inl (fun _ => 0))), (q5, .inl (cI, 420, .inl (fun _ => 0))), (q6, .inl (cZ, 28, .inl (fun _ => 0))), (q7, .inl (cI, 28, .inl (fun _ => 0))), (q8, .inl (cI, 28, .inl (fun _ => 0))), (q9, .inl (cZ, 224, .inl (fun _ => 0))), (q10, .inl (cI, 3584, .inl (fun _ => 0))), (q11, .inl (cI, 28, .inl (fun _ => 0))), (q12, .inl (cI, 6, .inl (fun _ => 0))), (q13, .inl (cZ, 28, .inl (fun _ => 0)))]) := hD
  have eW : ([(h, .inr (4, [.ref q1, .ref q2, .ref q3, .ref q4, .ref q5, .ref q6, .ref q7, .ref q8, .ref q9, .ref q10, .ref q11, .ref q12, .int 0, .int 0, .ref q13])), (q1, .inl (cZ, 28, .inl (fun _ => 0))), (q2, .inl (cI, 28, .inl (fun _ => 0))), (q3, .inl (cI, 28, .inl (fun _ => 0))), (q4, .inl (cI, 28, .inl (fun _ => 0))), (q5, .inl (cI, 420, .inl (fun _ => 0))), (q6, .inl (cZ, 28, .inl (fun _ => 0))), (q7, .inl (cI, 28, .inl (fun _ => 0))), (q8, .inl (cI, 28, .inl (fun _ => 0))), (q9, .inl (cZ, 224, .inl (fun _ => 0))), (q10, .inl (cI, 3584, .inl (fun _ => 0))), (q11, .inl (cI, 28, .inl (fun _ => 0))), (q12, .inl (cI, 6, .inl (fun _ => 0))), (q13, .inl (cZ, 28, .inl (fun _ => 0)))]) = rwd (mkar h q1 q2 q3 q4 q5 q6 q7 q8 q9 q10 q11 q12 q13) (mkcr cI cZ) z0 := rfl
  obtain ⟨ad, ead⟩ : ∃ z, z = mkar h q1 q2 q3 q4 q5 q6 q7 q8 q9 q10 q11 q12 q13 := ⟨_, rfl⟩
  obtain ⟨ci, eci⟩ : ∃ z, z = mkcr cI cZ := ⟨_, rfl⟩
  have hK : va_K D cl (tyr (mkcr cI cZ)) s := hK.sub [1, 0] rfl
  have eh : mkar h q1 q2 q3 q4 q5 q6 q7 q8 q9 q10 q11 q12 q13 0 = h := rfl
  rw [← ead, ← eci] at eW
  rw [← eci] at hK
  rw [← ead] at eh
  have hP : va_P D cl (rwd ad ci z0) H := va_P.eq eW hP
  have hD : va_D A (rwd ad ci z0) := va_D.eq eW hD
  have hI := InjR_of hD
  have hAA := Ar_of hD
  have hl : lv_has ls 2 [(0, .ref (ad 0))] := by rw [eh]; exact hl
  refine lv_iconst (v := 0) hx hb d_rf_init_111 rfl ?_
  refine lv_istore_n (lv' := [(1, .int 0), (0, .ref (ad 0))]) hx hb d_rf_init_112 rfl hl (by decide) rfl (fun ls hl => ?_)
  refine lv_iload_n hx hb d_rf_init_113 rfl (lv_at hl 0 rfl) ?_
  refine lv_iconst (v := 4) hx hb d_rf_init_114 rfl ?_
  refine lv_icmp_ge (tgt := 187) hx hb d_rf_init_115 rfl (fun h9 => absurd h9 (show ¬ ((4 : Int32) ≤ 0) by decide)) (fun _ => ?_)
  refine lv_aload_n hx hb d_rf_init_118 rfl (lv_at hl 1 rfl) ?_
  refine va_get (C := "MessageMachineModel") (T := T_rf) (N := 15) (ci := 4) (v := .ref (ad 1)) hx hb hg in_rf hown hK hP 0 rfl rfl 0 (by decide) (hg _ mw_535) (fun _ h => h) rfl d_rf_init_119 ?_
  refine lv_iload_n hx hb d_rf_init_122 rfl (lv_at hl 0 rfl) ?_
  refine lv_iconst (v := 1) hx hb d_rf_init_123 rfl ?_
  refine va_zast hx hb hK hP hD hS 1 1 (f := z0.1 1) (n := 28) (cA := ci 1) rfl rfl (vpc (by decide)) d_rf_init_124 (fun H locs hP hD hS => ?_)
  have hP : va_P D cl (rwd ad ci rin1) H := hP
  have hD : va_D A (rwd ad ci rin1) := hD
  refine lv_aload_n hx hb d_rf_init_125 rfl (lv_at hl 1 rfl) ?_
  refine va_get (C := "MessageMachineModel") (T := T_rf) (N := 15) (ci := 4) (v := .ref (ad 3)) hx hb hg in_rf hown hK hP 0 rfl rfl 2 (by decide) (hg _ mw_537) (fun _ h => h) rfl d_rf_init_126 ?_
  refine lv_iload_n hx hb d_rf_init_129 rfl (lv_at hl 0 rfl) ?_
  refine lv_iconst (v := 1) hx hb d_rf_init_130 rfl ?_
  refine va_iast hx hb hK hP hD hS 3 0 (f := rin1.1 3) (n := 28) (cA := ci 0) rfl rfl (vpc (by decide)) d_rf_init_131 (fun H locs hP hD hS => ?_)
  have hP : va_P D cl (rwd ad ci rin2) H := hP
  have hD : va_D A (rwd ad ci rin2) := hD
  refine lv_aload_n hx hb d_rf_init_132 rfl (lv_at hl 1 rfl) ?_
  refine va_get (C := "MessageMachineModel") (T := T_rf) (N := 15) (ci := 4) (v := .ref (ad 2)) hx hb hg in_rf hown hK hP 0 rfl rfl 1 (by decide) (hg _ mw_536) (fun _ h => h) rfl d_rf_init_133 ?_
  refine lv_iload_n hx hb d_rf_init_136 rfl (lv_at hl 0 rfl) ?_
  refine lv_iload_n hx hb d_rf_init_137 rfl (lv_at hl 0 rfl) ?_
  refine lv_if_le (tgt := 145) hx hb d_rf_init_138 rfl (fun _ => ?_) (fun h9 => absurd (show (0 : Int32) ≤ 0 by decide) h9)
  refine lv_iconst (v := 0) hx hb d_rf_init_145 rfl ?_
  refine va_iast hx hb hK hP hD hS 2 0 (f := rin2.1 2) (n := 28) (cA := ci 0) rfl rfl (vpc (by decide)) d_rf_init_146 (fun H locs hP hD hS => ?_)
  have hP : va_P D cl (rwd ad ci rin3) H := hP
  have hD : va_D A (rwd ad ci rin3) := hD
  refine lv_aload_n hx hb d_rf_init_147 rfl (lv_at hl 1 rfl) ?_
  refine va_get (C := "MessageMachineModel") (T := T_rf) (N := 15) (ci := 4) (v := .ref (ad 4)) hx hb hg in_rf hown hK hP 0 rfl rfl 3 (by decide) (hg _ mw_538) (fun _ h => h) rfl d_rf_init_148 ?_
  refine lv_iload_n hx hb d_rf_init_151 rfl (lv_at hl 0 rfl) ?_
  refine lv_iload_n hx hb d_rf_init_152 rfl (lv_at hl 0 rfl) ?_
  refine lv_if_le (tgt := 160) hx hb d_rf_init_153 rfl (fun _ => ?_) (fun h9 => absurd (show (0 : Int32) ≤ 0 by decide) h9)
  refine lv_iconst (v := 0) hx hb d_rf_init_160 rfl ?_
  refine va_iast hx hb hK hP hD hS 4 0 (f := rin3.1 4) (n := 28) (cA := ci 0) rfl rfl (vpc (by decide)) d_rf_init_161 (fun H locs hP hD hS => ?_)
  have hP : va_P D cl (rwd ad ci rin4) H := hP
  have hD : va_D A (rwd ad ci rin4) := hD
  refine lv_aload_n hx hb d_rf_init_162 rfl (lv_at hl 1 rfl) ?_
  refine va_get (C := "MessageMachineModel") (T := T_rf) (N := 15) (ci := 4) (v := .ref (ad 5)) hx hb hg in_rf hown hK hP 0 rfl rfl 4 (by decide) (hg _ mw_539) (fun _ h => h) rfl d_rf_init_163 ?_
  refine lv_bipush (v := 15) hx hb d_rf_init_166 rfl ?_
  refine lv_iload_n hx hb d_rf_init_168 rfl (lv_at hl 0 rfl) ?_
  refine lv_imul hx hb d_rf_init_169 ?_
  refine lv_iload_n hx hb d_rf_init_170 rfl (lv_at hl 0 rfl) ?_
  refine lv_iconst (v := 1) hx hb d_rf_init_171 rfl ?_
  refine lv_icmp_le (tgt := 179) hx hb d_rf_init_172 rfl (fun _ => ?_) (fun h9 => absurd (show (0 : Int32) ≤ 1 by decide) h9)
  refine lv_iconst (v := 0) hx hb d_rf_init_179 rfl ?_
  refine va_iast hx hb hK hP hD hS 5 0 (f := rin4.1 5) (n := 420) (cA := ci 0) rfl rfl (vpc (by decide)) d_rf_init_180 (fun H locs hP hD hS => ?_)
  have hP : va_P D cl (rwd ad ci rin5) H := hP
  have hD : va_D A (rwd ad ci rin5) := hD
  refine lv_iinc (k := 0) (lv' := [(1, .int 1), (0, .ref (ad 0))]) hx hb d_rf_init_181 hl rfl (by decide) (by decide) rfl (fun ls hl => ?_)
  refine lv_goto (tgt := 113) hx hb d_rf_init_184 rfl ?_
  refine lv_iload_n hx hb d_rf_init_113 rfl (lv_at hl 0 rfl) ?_
  refine lv_iconst (v := 4) hx hb d_rf_init_114 rfl ?_
  refine lv_icmp_ge (tgt := 187) hx hb d_rf_init_115 rfl (fun h9 => absurd h9 (show ¬ ((4 : Int32) ≤ 1) by decide)) (fun _ => ?_)
  refine lv_aload_n hx hb d_rf_init_118 rfl (lv_at hl 1 rfl) ?_
  refine va_get (C := "MessageMachineModel") (T := T_rf) (N := 15) (ci := 4) (v := .ref (ad 1)) hx hb hg in_rf hown hK hP 0 rfl rfl 0 (by decide) (hg _ mw_535) (fun _ h => h) rfl d_rf_init_119 ?_
  refine lv_iload_n hx hb d_rf_init_122 rfl (lv_at hl 0 rfl) ?_
  refine lv_iconst (v := 1) hx hb d_rf_init_123 rfl ?_
  refine va_zast hx hb hK hP hD hS 1 1 (f := rin5.1 1) (n := 28) (cA := ci 1) rfl rfl (vpc (by decide)) d_rf_init_124 (fun H locs hP hD hS => ?_)
  have hP : va_P D cl (rwd ad ci rin6) H := hP
  have hD : va_D A (rwd ad ci rin6) := hD
  refine lv_aload_n hx hb d_rf_init_125 rfl (lv_at hl 1 rfl) ?_
  refine va_get (C := "MessageMachineModel") (T := T_rf) (N := 15) (ci := 4) (v := .ref (ad 3)) hx hb hg in_rf hown hK hP 0 rfl rfl 2 (by decide) (hg _ mw_537) (fun _ h => h) rfl d_rf_init_126 ?_
  refine lv_iload_n hx hb d_rf_init_129 rfl (lv_at hl 0 rfl) ?_
  refine lv_iconst (v := 1) hx hb d_rf_init_130 rfl ?_
  refine va_iast hx hb hK hP hD hS 3 0 (f := rin6.1 3) (n := 28) (cA := ci 0) rfl rfl (vpc (by decide)) d_rf_init_131 (fun H locs hP hD hS => ?_)
  have hP : va_P D cl (rwd ad ci rin7) H := hP
  have hD : va_D A (rwd ad ci rin7) := hD
  refine lv_aload_n hx hb d_rf_init_132 rfl (lv_at hl 1 rfl) ?_
  refine va_get (C := "MessageMachineModel") (T := T_rf) (N := 15) (ci := 4) (v := .ref (ad 2)) hx hb hg in_rf hown hK hP 0 rfl rfl 1 (by decide) (hg _ mw_536) (fun _ h => h) rfl d_rf_init_133 ?_
  refine lv_iload_n hx hb d_rf_init_136 rfl (lv_at hl 0 rfl) ?_
  refine lv_iload_n hx hb d_rf_init_137 rfl (lv_at hl 0 rfl) ?_
  refine lv_if_le (tgt := 145) hx hb d_rf_init_138 rfl (fun h9 => absurd h9 (show ¬ ((1 : Int32) ≤ 0) by decide)) (fun _ => ?_)
  refine lv_iconst (v := 1) hx hb d_rf_init_141 rfl ?_
  refine lv_goto (tgt := 146) hx hb d_rf_init_142 rfl ?_
  refine va_iast hx hb hK hP hD hS 2 0 (f := rin7.1 2) (n := 28) (cA := ci 0) rfl rfl (vpc (by decide)) d_rf_init_146 (fun H locs hP hD hS => ?_)
  have hP : va_P D cl (rwd ad ci rin8) H := hP
  have hD : va_D A (rwd ad ci rin8) := hD
  refine lv_aload_n hx hb d_rf_init_147 rfl (lv_at hl 1 rfl) ?_
  refine va_get (C := "MessageMachineModel") (T := T_rf) (N := 15) (ci := 4) (v := .ref (ad 4)) hx hb hg in_rf hown hK hP 0 rfl rfl 3 (by decide) (hg _ mw_538) (fun _ h => h) rfl d_rf_init_148 ?_
  refine lv_iload_n hx hb d_rf_init_151 rfl (lv_at hl 0 rfl) ?_
  refine lv_iload_n hx hb d_rf_init_152 rfl (lv_at hl 0 rfl) ?_
  refine lv_if_le (tgt := 160) hx hb d_rf_init_153 rfl (fun h9 => absurd h9 (show ¬ ((1 : Int32) ≤ 0) by decide)) (fun _ => ?_)
  refine lv_iconst (v := 1) hx hb d_rf_init_156 rfl ?_
  refine lv_goto (tgt := 161) hx hb d_rf_init_157 rfl ?_
  refine va_iast hx hb hK hP hD hS 4 0 (f := rin8.1 4) (n := 28) (cA := ci 0) rfl rfl (vpc (by decide)) d_rf_init_161 (fun H locs hP hD hS => ?_)
  have hP : va_P D cl (rwd ad ci rin9) H := hP
  have hD : va_D A (rwd ad ci rin9) := hD
  refine lv_aload_n hx hb d_rf_init_162 rfl (lv_at hl 1 rfl) ?_
  refine va_get (C := "MessageMachineModel") (T := T_rf) (N := 15) (ci := 4) (v := .ref (ad 5)) hx hb hg in_rf hown hK hP 0 rfl rfl 4 (by decide) (hg _ mw_539) (fun _ h => h) rfl d_rf_init_163 ?_
  refine lv_bipush (v := 15) hx hb d_rf_init_166 rfl ?_
  refine lv_iload_n hx hb d_rf_init_168 rfl (lv_at hl 0 rfl) ?_
  refine lv_imul hx hb d_rf_init_169 ?_
  refine lv_iload_n hx hb d_rf_init_170 rfl (lv_at hl 0 rfl) ?_
  refine lv_iconst (v := 1) hx hb d_rf_init_171 rfl ?_
  refine lv_icmp_le (tgt := 179) hx hb d_rf_init_172 rfl (fun _ => ?_) (fun h9 => absurd (show (1 : Int32) ≤ 1 by decide) h9)
  refine lv_iconst (v := 0) hx hb d_rf_init_179 rfl ?_
  refine va_iast hx hb hK hP hD hS 5 0 (f := rin9.1 5) (n := 420) (cA := ci 0) rfl rfl (vpc (by decide)) d_rf_init_180 (fun H locs hP hD hS => ?_)
  have hP : va_P D cl (rwd ad ci rin10) H := hP
  have hD : va_D A (rwd ad ci rin10) := hD
  refine lv_iinc (k := 0) (lv' := [(1, .int 2), (0, .ref (ad 0))]) hx hb d_rf_init_181 hl rfl (by decide) (by decide) rfl (fun ls hl => ?_)
  refine lv_goto (tgt := 113) hx hb d_rf_init_184 rfl ?_
  refine lv_iload_n hx hb d_rf_init_113 rfl (lv_at hl 0 rfl) ?_
  refine lv_iconst (v := 4) hx hb d_rf_init_114 rfl ?_
  refine lv_icmp_ge (tgt := 187) hx hb d_rf_init_115 rfl (fun h9 => absurd h9 (show ¬ ((4 : Int32) ≤ 2) by decide)) (fun _ => ?_)
  refine lv_aload_n hx hb d_rf_init_118 rfl (lv_at hl 1 rfl) ?_
  refine va_get (C := "MessageMachineModel") (T := T_rf) (N := 15) (ci := 4) (v := .ref (ad 1)) hx hb hg in_rf hown hK hP 0 rfl rfl 0 (by decide) (hg _ mw_535) (fun _ h => h) rfl d_rf_init_119 ?_
  refine lv_iload_n hx hb d_rf_init_122 rfl (lv_at hl 0 rfl) ?_
  refine lv_iconst (v := 1) hx hb d_rf_init_123 rfl ?_
  refine va_zast hx hb hK hP hD hS 1 1 (f := rin10.1 1) (n := 28) (cA := ci 1) rfl rfl (vpc (by decide)) d_rf_init_124 (fun H locs hP hD hS => ?_)
  have hP : va_P D cl (rwd ad ci rin11) H := hP
  have hD : va_D A (rwd ad ci rin11) := hD
  refine lv_aload_n hx hb d_rf_init_125 rfl (lv_at hl 1 rfl) ?_
  refine va_get (C := "MessageMachineModel") (T := T_rf) (N := 15) (ci := 4) (v := .ref (ad 3)) hx hb hg in_rf hown hK hP 0 rfl rfl 2 (by decide) (hg _ mw_537) (fun _ h => h) rfl d_rf_init_126 ?_
  refine lv_iload_n hx hb d_rf_init_129 rfl (lv_at hl 0 rfl) ?_
  refine lv_iconst (v := 1) hx hb d_rf_init_130 rfl ?_
  refine va_iast hx hb hK hP hD hS 3 0 (f := rin11.1 3) (n := 28) (cA := ci 0) rfl rfl (vpc (by decide)) d_rf_init_131 (fun H locs hP hD hS => ?_)
  have hP : va_P D cl (rwd ad ci rin12) H := hP
  have hD : va_D A (rwd ad ci rin12) := hD
  refine lv_aload_n hx hb d_rf_init_132 rfl (lv_at hl 1 rfl) ?_
  refine va_get (C := "MessageMachineModel") (T := T_rf) (N := 15) (ci := 4) (v := .ref (ad 2)) hx hb hg in_rf hown hK hP 0 rfl rfl 1 (by decide) (hg _ mw_536) (fun _ h => h) rfl d_rf_init_133 ?_
  refine lv_iload_n hx hb d_rf_init_136 rfl (lv_at hl 0 rfl) ?_
  refine lv_iload_n hx hb d_rf_init_137 rfl (lv_at hl 0 rfl) ?_
  refine lv_if_le (tgt := 145) hx hb d_rf_init_138 rfl (fun h9 => absurd h9 (show ¬ ((2 : Int32) ≤ 0) by decide)) (fun _ => ?_)
  refine lv_iconst (v := 1) hx hb d_rf_init_141 rfl ?_
  refine lv_goto (tgt := 146) hx hb d_rf_init_142 rfl ?_
  refine va_iast hx hb hK hP hD hS 2 0 (f := rin12.1 2) (n := 28) (cA := ci 0) rfl rfl (vpc (by decide)) d_rf_init_146 (fun H locs hP hD hS => ?_)
  have hP : va_P D cl (rwd ad ci rin13) H := hP
  have hD : va_D A (rwd ad ci rin13) := hD
  refine lv_aload_n hx hb d_rf_init_147 rfl (lv_at hl 1 rfl) ?_
  refine va_get (C := "MessageMachineModel") (T := T_rf) (N := 15) (ci := 4) (v := .ref (ad 4)) hx hb hg in_rf hown hK hP 0 rfl rfl 3 (by decide) (hg _ mw_538) (fun _ h => h) rfl d_rf_init_148 ?_
  refine lv_iload_n hx hb d_rf_init_151 rfl (lv_at hl 0 rfl) ?_
  refine lv_iload_n hx hb d_rf_init_152 rfl (lv_at hl 0 rfl) ?_
  refine lv_if_le (tgt := 160) hx hb d_rf_init_153 rfl (fun h9 => absurd h9 (show ¬ ((2 : Int32) ≤ 0) by decide)) (fun _ => ?_)
  refine lv_iconst (v := 1) hx hb d_rf_init_156 rfl ?_
  refine lv_goto (tgt := 161) hx hb d_rf_init_157 rfl ?_
  refine va_iast hx hb hK hP hD hS 4 0 (f := rin13.1 4) (n := 28) (cA := ci 0) rfl rfl (vpc (by decide)) d_rf_init_161 (fun H locs hP hD hS => ?_)
  have hP : va_P D cl (rwd ad ci rin14) H := hP
  have hD : va_D A (rwd ad ci rin14) := hD
  refine lv_aload_n hx hb d_rf_init_162 rfl (lv_at hl 1 rfl) ?_
  refine va_get (C := "MessageMachineModel") (T := T_rf) (N := 15) (ci := 4) (v := .ref (ad 5)) hx hb hg in_rf hown hK hP 0 rfl rfl 4 (by decide) (hg _ mw_539) (fun _ h => h) rfl d_rf_init_163 ?_
  refine lv_bipush (v := 15) hx hb d_rf_init_166 rfl ?_
  refine lv_iload_n hx hb d_rf_init_168 rfl (lv_at hl 0 rfl) ?_
  refine lv_imul hx hb d_rf_init_169 ?_
  refine lv_iload_n hx hb d_rf_init_170 rfl (lv_at hl 0 rfl) ?_
  refine lv_iconst (v := 1) hx hb d_rf_init_171 rfl ?_
  refine lv_icmp_le (tgt := 179) hx hb d_rf_init_172 rfl (fun h9 => absurd h9 (show ¬ ((2 : Int32) ≤ 1) by decide)) (fun _ => ?_)
  refine lv_iconst (v := 1) hx hb d_rf_init_175 rfl ?_
  refine lv_goto (tgt := 180) hx hb d_rf_init_176 rfl ?_
  refine va_iast hx hb hK hP hD hS 5 0 (f := rin14.1 5) (n := 420) (cA := ci 0) rfl rfl (vpc (by decide)) d_rf_init_180 (fun H locs hP hD hS => ?_)
  have hP : va_P D cl (rwd ad ci rin15) H := hP
  have hD : va_D A (rwd ad ci rin15) := hD
  refine lv_iinc (k := 0) (lv' := [(1, .int 3), (0, .ref (ad 0))]) hx hb d_rf_init_181 hl rfl (by decide) (by decide) rfl (fun ls hl => ?_)
  refine lv_goto (tgt := 113) hx hb d_rf_init_184 rfl ?_
  refine lv_iload_n hx hb d_rf_init_113 rfl (lv_at hl 0 rfl) ?_
  refine lv_iconst (v := 4) hx hb d_rf_init_114 rfl ?_
  refine lv_icmp_ge (tgt := 187) hx hb d_rf_init_115 rfl (fun h9 => absurd h9 (show ¬ ((4 : Int32) ≤ 3) by decide)) (fun _ => ?_)
  refine lv_aload_n hx hb d_rf_init_118 rfl (lv_at hl 1 rfl) ?_
  refine va_get (C := "MessageMachineModel") (T := T_rf) (N := 15) (ci := 4) (v := .ref (ad 1)) hx hb hg in_rf hown hK hP 0 rfl rfl 0 (by decide) (hg _ mw_535) (fun _ h => h) rfl d_rf_init_119 ?_
  refine lv_iload_n hx hb d_rf_init_122 rfl (lv_at hl 0 rfl) ?_
  refine lv_iconst (v := 1) hx hb d_rf_init_123 rfl ?_
  refine va_zast hx hb hK hP hD hS 1 1 (f := rin15.1 1) (n := 28) (cA := ci 1) rfl rfl (vpc (by decide)) d_rf_init_124 (fun H locs hP hD hS => ?_)
  have hP : va_P D cl (rwd ad ci rin16) H := hP
  have hD : va_D A (rwd ad ci rin16) := hD
  refine lv_aload_n hx hb d_rf_init_125 rfl (lv_at hl 1 rfl) ?_
  refine va_get (C := "MessageMachineModel") (T := T_rf) (N := 15) (ci := 4) (v := .ref (ad 3)) hx hb hg in_rf hown hK hP 0 rfl rfl 2 (by decide) (hg _ mw_537) (fun _ h => h) rfl d_rf_init_126 ?_
  refine lv_iload_n hx hb d_rf_init_129 rfl (lv_at hl 0 rfl) ?_
  refine lv_iconst (v := 1) hx hb d_rf_init_130 rfl ?_
  refine va_iast hx hb hK hP hD hS 3 0 (f := rin16.1 3) (n := 28) (cA := ci 0) rfl rfl (vpc (by decide)) d_rf_init_131 (fun H locs hP hD hS => ?_)
  have hP : va_P D cl (rwd ad ci rin17) H := hP
  have hD : va_D A (rwd ad ci rin17) := hD
  refine lv_aload_n hx hb d_rf_init_132 rfl (lv_at hl 1 rfl) ?_
  refine va_get (C := "MessageMachineModel") (T := T_rf) (N := 15) (ci := 4) (v := .ref (ad 2)) hx hb hg in_rf hown hK hP 0 rfl rfl 1 (by decide) (hg _ mw_536) (fun _ h => h) rfl d_rf_init_133 ?_
  refine lv_iload_n hx hb d_rf_init_136 rfl (lv_at hl 0 rfl) ?_
  refine lv_iload_n hx hb d_rf_init_137 rfl (lv_at hl 0 rfl) ?_
  refine lv_if_le (tgt := 145) hx hb d_rf_init_138 rfl (fun h9 => absurd h9 (show ¬ ((3 : Int32) ≤ 0) by decide)) (fun _ => ?_)
  refine lv_iconst (v := 1) hx hb d_rf_init_141 rfl ?_
  refine lv_goto (tgt := 146) hx hb d_rf_init_142 rfl ?_
  refine va_iast hx hb hK hP hD hS 2 0 (f := rin17.1 2) (n := 28) (cA := ci 0) rfl rfl (vpc (by decide)) d_rf_init_146 (fun H locs hP hD hS => ?_)
  have hP : va_P D cl (rwd ad ci rin18) H := hP
  have hD : va_D A (rwd ad ci rin18) := hD
  refine lv_aload_n hx hb d_rf_init_147 rfl (lv_at hl 1 rfl) ?_
  refine va_get (C := "MessageMachineModel") (T := T_rf) (N := 15) (ci := 4) (v := .ref (ad 4)) hx hb hg in_rf hown hK hP 0 rfl rfl 3 (by decide) (hg _ mw_538) (fun _ h => h) rfl d_rf_init_148 ?_
  refine lv_iload_n hx hb d_rf_init_151 rfl (lv_at hl 0 rfl) ?_
  refine lv_iload_n hx hb d_rf_init_152 rfl (lv_at hl 0 rfl) ?_
  refine lv_if_le (tgt := 160) hx hb d_rf_init_153 rfl (fun h9 => absurd h9 (show ¬ ((3 : Int32) ≤ 0) by decide)) (fun _ => ?_)
  refine lv_iconst (v := 1) hx hb d_rf_init_156 rfl ?_
  refine lv_goto (tgt := 161) hx hb d_rf_init_157 rfl ?_
  refine va_iast hx hb hK hP hD hS 4 0 (f := rin18.1 4) (n := 28) (cA := ci 0) rfl rfl (vpc (by decide)) d_rf_init_161 (fun H locs hP hD hS => ?_)
  have hP : va_P D cl (rwd ad ci rin19) H := hP
  have hD : va_D A (rwd ad ci rin19) := hD
  refine lv_aload_n hx hb d_rf_init_162 rfl (lv_at hl 1 rfl) ?_
  refine va_get (C := "MessageMachineModel") (T := T_rf) (N := 15) (ci := 4) (v := .ref (ad 5)) hx hb hg in_rf hown hK hP 0 rfl rfl 4 (by decide) (hg _ mw_539) (fun _ h => h) rfl d_rf_init_163 ?_
  refine lv_bipush (v := 15) hx hb d_rf_init_166 rfl ?_
  refine lv_iload_n hx hb d_rf_init_168 rfl (lv_at hl 0 rfl) ?_
  refine lv_imul hx hb d_rf_init_169 ?_
  refine lv_iload_n hx hb d_rf_init_170 rfl (lv_at hl 0 rfl) ?_
  refine lv_iconst (v := 1) hx hb d_rf_init_171 rfl ?_
  refine lv_icmp_le (tgt := 179) hx hb d_rf_init_172 rfl (fun h9 => absurd h9 (show ¬ ((3 : Int32) ≤ 1) by decide)) (fun _ => ?_)
  refine lv_iconst (v := 1) hx hb d_rf_init_175 rfl ?_
  refine lv_goto (tgt := 180) hx hb d_rf_init_176 rfl ?_
  refine va_iast hx hb hK hP hD hS 5 0 (f := rin19.1 5) (n := 420) (cA := ci 0) rfl rfl (vpc (by decide)) d_rf_init_180 (fun H locs hP hD hS => ?_)
  have hP : va_P D cl (rwd ad ci rin20) H := hP
  have hD : va_D A (rwd ad ci rin20) := hD
  refine lv_iinc (k := 0) (lv' := [(1, .int 4), (0, .ref (ad 0))]) hx hb d_rf_init_181 hl rfl (by decide) (by decide) rfl (fun ls hl => ?_)
  refine lv_goto (tgt := 113) hx hb d_rf_init_184 rfl ?_
  refine lv_iload_n hx hb d_rf_init_113 rfl (lv_at hl 0 rfl) ?_
  refine lv_iconst (v := 4) hx hb d_rf_init_114 rfl ?_
  refine lv_icmp_ge (tgt := 187) hx hb d_rf_init_115 rfl (fun _ => ?_) (fun h9 => absurd (show (4 : Int32) ≤ 4 by decide) h9)
  have X : Cx (ERA D ad ci A) p s m ([Value.ref h] : List Value).toArray c b_rf_init 2 "MessageMachineModel" H locs rin20 := ⟨⟨hx, hb, hml, hown, hg⟩, hK, hN, hP, hS⟩
  refine lv_aload_n hx hb d_rf_init_187 rfl (lv_at hl 1 rfl) ?_
  refine callR (k := 0) hAA (c_rf_settle hI _ RGm_rin20) X (gt_V mw_524 mw_526 ms_32 mw_5 mw_527) ok_rf_settle ⟨rfl, rfl, by decide, by decide⟩ (va_recv X.2.1 X.2.2.2.1 (ci := 4) rfl (q0 := 0) rfl) rfl hl.1 rfl (Nat.le_of_ble_eq_true rfl) d_rf_init_188 ⟨Nat.le_of_ble_eq_true rfl, Nat.le_of_ble_eq_true rfl⟩ (fun H locs X => ?_)
  have hD : va_D A (rwd ad ci rin) := (rwd_D hI ci rin).weaken (fun _ _ _ h => hAA _ h)
  exact W.vret hx hb hr (fun t ht hW => ⟨⟨(ad, ci), rfl, eh, ⟨by rw [ht]; exact X.2.2.2.1, va_K.moved hW.alike X.2.1, X.2.2.1.warm hW⟩, hD⟩, X.2.2.2.2.F ht⟩) X.2.2.2.2.2.2 d_rf_init_191 hlocks
