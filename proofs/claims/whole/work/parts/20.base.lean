/-! the layer that all walks use: a world family w over pure states S, one context for a walk, contracts by pure answers -/
def nst (U : State) : Prop := va_Nw (.methodLinkNest "MessageMachine$Memory" 86 y_mm_isObject "MessageMachine") U ∧ va_Nw (.methodLinkNest "MessageMachine$Processor" 56 y_mm_argumentsOf "MessageMachine") U ∧ va_Nw (.methodLinkNest "MessageMachine$Processor" 149 y_mm_isSelector "MessageMachine") U ∧ va_Nw (.methodLinkNest "MessageMachine$Processor" 158 y_mm_isObject "MessageMachine") U
theorem nst.warm {s U : State} (hW : s.WarmedH U.vm) (h : nst s) : nst U := ⟨va_Nw.warmM hW h.1, va_Nw.warmM hW h.2.1, va_Nw.warmM hW h.2.2.1, va_Nw.warmM hW h.2.2.2⟩
theorem nst.same {u U : State} (e : u.vm = U.vm) (h : nst u) : nst U := ⟨va_Nw.same rfl e h.1, va_Nw.same rfl e h.2.1, va_Nw.same rfl e h.2.2.1, va_Nw.same rfl e h.2.2.2⟩
/-- D, the array classes, the world of a pure state, its addresses -/
abbrev EV (S : Type) : Type := va_G × List (ClassId × FieldType) × (S → va_W) × (Nat → Prop)
def Pq {S : Type} (E : EV S) (σ : S) (U : State) : Prop := va_P E.1 cl (E.2.2.1 σ) U.heap ∧ va_K E.1 cl E.2.1 U ∧ nst U
theorem Pq.blind {S : Type} {E : EV S} {σ : S} {av : List Value} : FrameBlind (va_Pc av (Pq E σ)) := fun a U g mk h => by
  obtain ⟨h0, h1, h2, h3⟩ := h
  exact ⟨h0, h1, va_K.moved (u := U) (U := U.calling g mk a) (Vm.Alike.refl U.vm) h2, nst.same (u := U) (U := U.calling g mk a) rfl h3⟩
def Mi (l : Launch) (y : MethodName) (cc : ByteArray) (n : Nat) (ret : Option FieldType) (rm : Room) {S : Type} (E : EV S) (av : List Value) (σ : S) (r : Int32) (σ' : S) : Prop :=
  Met l y (.code y cc n ret :: gt) rm (va_Pc av (Pq E σ)) (va_Qi (fun (x : Int32) (u : S) => x = r ∧ u = σ') (fun u t => Pq E u t) E.2.2.2) 0 0 E.2.2.2
def Mv (l : Launch) (y : MethodName) (cc : ByteArray) (n : Nat) (rm : Room) {S : Type} (E : EV S) (av : List Value) (σ : S) (σ' : S) : Prop :=
  Met l y (.code y cc n none :: gt) rm (va_Pc av (Pq E σ)) (va_Qv (fun (u : S) => u = σ') (fun u t => Pq E u t) E.2.2.2) 0 0 E.2.2.2
/-- where a walk stands -/
def Cx {S : Type} (E : EV S) (p : Program) (s : State) (m : MethodId) (args : Array Value) (c : Code) (cc : ByteArray) (n : Nat) (own : String) (H : Heap) (locs : List Loc) (σ : S) : Prop :=
  CallFix p m c cc n s args gt own ∧ va_K E.1 cl E.2.1 s ∧ nst s ∧ va_P E.1 cl (E.2.2.1 σ) H ∧ va_S E.2.2.2 s.heap H locs
section BASE
variable {p : Program} {l : Launch} {e : Env} {R : Room} {s : State} {m : MethodId} {args : Array Value} {below : List Frame} {meth : Method} {c : Code} {H : Heap} {locs : List Loc} {Q : State → Prop}
variable {cc bytes : ByteArray} {n nL maxL index pc : Nat} {ls : Array Slot} {rest st0 As av : List Value} {own : String} {y : MethodName} {ret : Option FieldType} {rm : Room} {S : Type} {E : EV S} {σ σ' σ1 : S} {r r1 : Int32}
theorem Mi.start (hy : plainName y.cls = true) (hn : (lg_sl av).length ≤ n)
    (body : ∀ (p : Program) (e : Env) (s : State) (m : MethodId) (below : List Frame) (meth : Method) (c : Code) (ls : Array Slot), Cx E p s m av.toArray c cc n y.cls s.heap [] σ → meth.sig.returnType = ret → meth.locks = false → lv_has ls n (lv_args 0 av) →
      W p l e rm s m av.toArray below meth c s.heap [] 0 0 (MQ below (va_Qi (fun (x : Int32) (u : S) => x = r ∧ u = σ') (fun u t => Pq E u t) E.2.2.2) av.toArray s 0 0 E.2.2.2) (F0 m 0 ls [])) : Mi l y cc n ret rm E av σ r σ' := by
  refine Met.ofW (cc := cc) (maxL := n) (ret := ret) hy rfl ?_
  intro p e s m args below meth c s₁ B hml hv
  obtain ⟨rfl, hP, hK, hN⟩ := hv
  have hts := atoms_spec (ws := .code y cc n ret :: gt) B.pre
  have hl := lv_entry av (n := n) hn
  rw [lg_entry_eq]
  exact body p e s m below meth c _ ⟨⟨B.exec, B.bytes, hml, findClass_of_methodNamed B.named, fun w hw => hts w (List.mem_cons_of_mem _ hw)⟩, hK, hN, hP, va_S.rf⟩ B.returns B.notSynchronized hl
theorem Mv.start (hy : plainName y.cls = true) (hn : (lg_sl av).length ≤ n)
    (body : ∀ (p : Program) (e : Env) (s : State) (m : MethodId) (below : List Frame) (meth : Method) (c : Code) (ls : Array Slot), Cx E p s m av.toArray c cc n y.cls s.heap [] σ → meth.sig.returnType = none → meth.locks = false → lv_has ls n (lv_args 0 av) →
      W p l e rm s m av.toArray below meth c s.heap [] 0 0 (MQ below (va_Qv (fun (u : S) => u = σ') (fun u t => Pq E u t) E.2.2.2) av.toArray s 0 0 E.2.2.2) (F0 m 0 ls [])) : Mv l y cc n rm E av σ σ' := by
  refine Met.ofW (cc := cc) (maxL := n) (ret := none) hy rfl ?_
  intro p e s m args below meth c s₁ B hml hv
  obtain ⟨rfl, hP, hK, hN⟩ := hv
  have hts := atoms_spec (ws := .code y cc n none :: gt) B.pre
  have hl := lv_entry av (n := n) hn
  rw [lg_entry_eq]
  exact body p e s m below meth c _ ⟨⟨B.exec, B.bytes, hml, findClass_of_methodNamed B.named, fun w hw => hts w (List.mem_cons_of_mem _ hw)⟩, hK, hN, hP, va_S.rf⟩ B.returns B.notSynchronized hl
theorem Cx.iret (X : Cx E p s m args c cc n own H locs σ1) (hr : meth.sig.returnType = some .int) (hlk : meth.locks = false) (hdg : decode cc pc = .ok (.ireturn, 1)) (e1 : r1 = r) (e2 : σ1 = σ') :
    W p l e R s m args below meth c H locs 0 0 (MQ below (va_Qi (fun (x : Int32) (u : S) => x = r ∧ u = σ') (fun u t => Pq E u t) E.2.2.2) args s 0 0 E.2.2.2) (F0 m pc ls [.int r1]) := by
  obtain ⟨⟨hx, hb, -⟩, hK, hN, hP, hS⟩ := X
  exact W.iret (v := r1) hx hb hr (fun t ht hW => ⟨⟨r1, σ1, rfl, ⟨e1, e2⟩, by rw [ht]; exact hP, va_K.moved hW.alike hK, hN.warm hW⟩, hS.F ht⟩) hS.2.2 hdg hlk
theorem Cx.zret (X : Cx E p s m args c cc n own H locs σ1) (hr : meth.sig.returnType = some .boolean) (hlk : meth.locks = false) (hdg : decode cc pc = .ok (.ireturn, 1)) (hn : narrow .boolean (.int r1) = .int r1) (e1 : r1 = r) (e2 : σ1 = σ') :
    W p l e R s m args below meth c H locs 0 0 (MQ below (va_Qi (fun (x : Int32) (u : S) => x = r ∧ u = σ') (fun u t => Pq E u t) E.2.2.2) args s 0 0 E.2.2.2) (F0 m pc ls [.int r1]) := by
  obtain ⟨⟨hx, hb, -⟩, hK, hN, hP, hS⟩ := X
  exact W.zret (v := r1) hx hb hr hn (fun t ht hW => ⟨⟨r1, σ1, rfl, ⟨e1, e2⟩, by rw [ht]; exact hP, va_K.moved hW.alike hK, hN.warm hW⟩, hS.F ht⟩) hS.2.2 hdg hlk
theorem Cx.vret (X : Cx E p s m args c cc n own H locs σ1) (hr : meth.sig.returnType = none) (hlk : meth.locks = false) (hdg : decode cc pc = .ok (.return_, 1)) (e2 : σ1 = σ') :
    W p l e R s m args below meth c H locs 0 0 (MQ below (va_Qv (fun (u : S) => u = σ') (fun u t => Pq E u t) E.2.2.2) args s 0 0 E.2.2.2) (F0 m pc ls []) := by
  obtain ⟨⟨hx, hb, -⟩, hK, hN, hP, hS⟩ := X
  exact W.vret hx hb hr (fun t ht hW => ⟨⟨σ1, rfl, e2, by rw [ht]; exact hP, va_K.moved hW.alike hK, hN.warm hW⟩, hS.F ht⟩) hS.2.2 hdg hlk
/-- what a call needs of the callee's name -/
abbrev NmOk (y : MethodName) (k : Nat) : Prop := y.cls ≠ "java/lang/invoke/MethodHandle" ∧ y.cls ≠ "java/lang/invoke/VarHandle" ∧ (parseMethodDescriptor y.desc).map (fun d => d.parameters.length) = some k
abbrev Rcv (s : State) (H : Heap) (C : String) (b : Addr) : Prop := ∃ cellB : Cell, H[b]? = some cellB ∧ cellB.vm.isStatics = false ∧ s.vm.findClass C = some cellB.cls
theorem Cx.after {t : State} {H1 : Heap} {locs1 : List Loc} (X : Cx E p s m args c cc n own H locs σ) (ht : t.heap = H1) (hB : Pq E σ' t) (hS : va_S E.2.2.2 s.heap H1 locs1) : Cx E p s m args c cc n own H1 locs1 σ' :=
  ⟨X.1, X.2.1, X.2.2.1, by rw [← ht]; exact hB.1, hS⟩
theorem Cx.pq {b : Addr} (X : Cx E p s m args c cc n own H locs σ) (U : State) (hU : U.heap = H) (hW : s.WarmedH U.vm) : Pq E σ U := ⟨by rw [hU]; exact X.2.2.2.1, va_K.moved hW.alike X.2.1, X.2.2.1.warm hW⟩
theorem Mi.callV {k : Nat} {b : Addr} (hM : Mi l y bytes maxL ret rm E (.ref b :: As) σ r σ') (X : Cx E p s m args c cc nL own H locs σ) (hG : GoodIn gt (wsV own index y.cls y (.code y bytes maxL ret :: gt))) (hd : NmOk y k) (hrm : rm.cells = 0 ∧ rm.slots = 0 ∧ rm.frames + 1 ≤ R.frames ∧ 8 + (maxL + 11) + rm.locals ≤ R.locals) (hv : Rcv s H y.cls b)
    (hn : As.length = k) (hls : ls.size = nL) (hst : st0 = As.reverse ++ .ref b :: rest) (hw : (rest.map fun v => v.category).sum ≤ 8) (hdg : decode cc pc = .ok (.invokevirtual index, 3))
    (kk : ∀ (H1 : Heap) (locs1 : List Loc), Cx E p s m args c cc nL own H1 locs1 σ' → W p l e R s m args below meth c H1 locs1 0 0 Q (F0 m (pc + 3) ls (.int r :: rest))) : W p l e R s m args below meth c H locs 0 0 Q (F0 m pc ls st0) := by
  refine va_calli (va_runV (As := As) (rest := rest) X.1 hM (cwV k X.1.2.2.2.2 hG rfl hrm.1 hrm.2.1 ⟨rfl, hd⟩ hrm.2.2) ⟨Pq.blind, hv, fun U hU hW => ⟨rfl, X.pq (b := b) U hU hW⟩⟩ rfl hn hls hst (lv_room hw) hdg ⟨Nat.zero_le _, Nat.zero_le _⟩) X.2.2.2.2 (fun q _ h => h) (fun q h => h) (fun r2 u t H1 locs1 ht _ hp hB _ _ hS1 => ?_)
  obtain ⟨rfl, rfl⟩ := hp
  exact kk H1 locs1 (X.after ht hB hS1)
theorem Mv.callV {k : Nat} {b : Addr} (hM : Mv l y bytes maxL rm E (.ref b :: As) σ σ') (X : Cx E p s m args c cc nL own H locs σ) (hG : GoodIn gt (wsV own index y.cls y (.code y bytes maxL none :: gt))) (hd : NmOk y k) (hrm : rm.cells = 0 ∧ rm.slots = 0 ∧ rm.frames + 1 ≤ R.frames ∧ 8 + (maxL + 11) + rm.locals ≤ R.locals) (hv : Rcv s H y.cls b)
    (hn : As.length = k) (hls : ls.size = nL) (hst : st0 = As.reverse ++ .ref b :: rest) (hw : (rest.map fun v => v.category).sum ≤ 8) (hdg : decode cc pc = .ok (.invokevirtual index, 3))
    (kk : ∀ (H1 : Heap) (locs1 : List Loc), Cx E p s m args c cc nL own H1 locs1 σ' → W p l e R s m args below meth c H1 locs1 0 0 Q (F0 m (pc + 3) ls rest)) : W p l e R s m args below meth c H locs 0 0 Q (F0 m pc ls st0) := by
  refine va_callv (va_runV (As := As) (rest := rest) X.1 hM (cwV k X.1.2.2.2.2 hG rfl hrm.1 hrm.2.1 ⟨rfl, hd⟩ hrm.2.2) ⟨Pq.blind, hv, fun U hU hW => ⟨rfl, X.pq (b := b) U hU hW⟩⟩ rfl hn hls hst (lv_room hw) hdg ⟨Nat.zero_le _, Nat.zero_le _⟩) X.2.2.2.2 (fun q _ h => h) (fun q h => h) (fun u t H1 locs1 ht _ hp hB _ _ hS1 => ?_)
  subst hp
  exact kk H1 locs1 (X.after ht hB hS1)
theorem Mi.callS {k : Nat} (hM : Mi l y bytes maxL ret rm E As σ r σ') (X : Cx E p s m args c cc nL own H locs σ) (h1 : Cond.methodLink own index y ∈ gt) (h2 : Cond.static y ∈ gt) (h3 : Cond.initialized y.cls ∈ gt) (h4 : Cond.code y bytes maxL ret ∈ gt) (hd : NmOk y k) (hrm : rm.cells = 0 ∧ rm.slots = 0 ∧ rm.frames + 1 ≤ R.frames ∧ 8 + (maxL + 11) + rm.locals ≤ R.locals)
    (hn : As.length = k) (hls : ls.size = nL) (hst : st0 = As.reverse ++ rest) (hw : (rest.map fun v => v.category).sum ≤ 8) (hdg : decode cc pc = .ok (.invokestatic index, 3))
    (kk : ∀ (H1 : Heap) (locs1 : List Loc), Cx E p s m args c cc nL own H1 locs1 σ' → W p l e R s m args below meth c H1 locs1 0 0 Q (F0 m (pc + 3) ls (.int r :: rest))) : W p l e R s m args below meth c H locs 0 0 Q (F0 m pc ls st0) := by
  have ht := X.1.2.2.2.2
  refine va_calli (va_runS (As := As) (rest := rest) X.1 hM ⟨callB_of k ht (gt_good h4) rfl hrm.1 hrm.2.1 (ht _ h3) (ht _ h1) hd hrm.2.2, ht _ h2⟩ ⟨Pq.blind, fun U hU hW => ⟨rfl, X.pq (b := 0) U hU hW⟩⟩ rfl hn hls hst (lv_room hw) hdg ⟨Nat.zero_le _, Nat.zero_le _⟩) X.2.2.2.2 (fun q _ h => h) (fun q h => h) (fun r2 u t H1 locs1 ht _ hp hB _ _ hS1 => ?_)
  obtain ⟨rfl, rfl⟩ := hp
  exact kk H1 locs1 (X.after ht hB hS1)
theorem Mi.callN {k : Nat} {host : String} (hM : Mi l y bytes maxL ret rm E As σ r σ') (X : Cx E p s m args c cc nL own H locs σ) (h1 : va_Nw (.methodLinkNest own index y host) s) (h2 : Cond.static y ∈ gt) (h3 : Cond.initialized y.cls ∈ gt) (h4 : Cond.code y bytes maxL ret ∈ gt) (hd : NmOk y k) (hrm : rm.cells = 0 ∧ rm.slots = 0 ∧ rm.frames + 1 ≤ R.frames ∧ 8 + (maxL + 11) + rm.locals ≤ R.locals)
    (hn : As.length = k) (hls : ls.size = nL) (hst : st0 = As.reverse ++ rest) (hw : (rest.map fun v => v.category).sum ≤ 8) (hdg : decode cc pc = .ok (.invokestatic index, 3))
    (kk : ∀ (H1 : Heap) (locs1 : List Loc), Cx E p s m args c cc nL own H1 locs1 σ' → W p l e R s m args below meth c H1 locs1 0 0 Q (F0 m (pc + 3) ls (.int r :: rest))) : W p l e R s m args below meth c H locs 0 0 Q (F0 m pc ls st0) := by
  have ht := X.1.2.2.2.2
  refine va_calli (va_runSN (As := As) (rest := rest) X.1 hM ⟨va_cnB k ht (gt_good h4) rfl hrm.1 hrm.2.1 h1 (ht _ h3) hd hrm.2.2, ht _ h2, trivial⟩ ⟨Pq.blind, fun U hU hW => ⟨rfl, X.pq (b := 0) U hU hW⟩⟩ rfl hn hls hst (lv_room hw) hdg ⟨Nat.zero_le _, Nat.zero_le _⟩) X.2.2.2.2 (fun q _ h => h) (fun q h => h) (fun r2 u t H1 locs1 ht _ hp hB _ _ hS1 => ?_)
  obtain ⟨rfl, rfl⟩ := hp
  exact kk H1 locs1 (X.after ht hB hS1)
end BASE
