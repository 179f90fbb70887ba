/-! Memory's constructor: its walk stands in the larger A -/
def EMA (D : va_G) (ad : Nat → Nat) (ci : Nat → ClassId) (A : Nat → Prop) : EV SS := (D, tyM ci, cwM ad ci, A)
section CALLW
variable {p : Program} {l : Launch} {e : Env} {R : Room} {s : State} {m : MethodId} {args : Array Value} {below : List Frame} {meth : Method} {c : Code} {H : Heap} {locs : List Loc} {cells slots : Nat} {Q : State → Prop}
variable {cc bytes : ByteArray} {n nL maxL index pc : Nat} {ls : Array Slot} {rest st0 As av : List Value} {own : String} {y : MethodName} {rm : Room} {D : va_G} {ad : Nat → Nat} {ci : Nat → ClassId} {A : Nat → Prop} {σ σ' : SS}
theorem callW {k : Nat} {b : Addr} (hA : ∀ q, AwM ad q → A q) (hM : Mv l y bytes maxL rm (EM D ad ci) (.ref b :: As) σ σ') (X : Cx (EMA D ad ci A) p s m args c cc nL own H locs σ) (hG : GoodIn gt (wsV own index y.cls y (.code y bytes maxL none :: gt))) (hd : NmOk y k) (hrm : rm.cells = 0 ∧ rm.slots = 0 ∧ rm.frames + 1 ≤ R.frames ∧ 8 + (maxL + 11) + rm.locals ≤ R.locals) (hv : Rcv s H y.cls b)
    (hn : As.length = k) (hls : ls.size = nL) (hst : st0 = As.reverse ++ .ref b :: rest) (hw : (rest.map fun v => v.category).sum ≤ 8) (hdg : decode cc pc = .ok (.invokevirtual index, 3)) (hcs : cells ≤ R.cells ∧ slots ≤ R.slots)
    (kk : ∀ (H1 : Heap) (locs1 : List Loc), Cx (EMA D ad ci A) p s m args c cc nL own H1 locs1 σ' → W p l e R s m args below meth c H1 locs1 cells slots Q (F0 m (pc + 3) ls rest)) : W p l e R s m args below meth c H locs cells slots Q (F0 m pc ls st0) := by
  refine va_callv (va_runV (As := As) (rest := rest) X.1 hM (cwV k X.1.2.2.2.2 hG rfl hrm.1 hrm.2.1 ⟨rfl, hd⟩ hrm.2.2) ⟨Pq.blind, hv, fun U hU hW => ⟨rfl, ⟨by rw [hU]; exact X.2.2.2.1, va_K.moved hW.alike X.2.1, X.2.2.1.warm hW⟩⟩⟩ rfl hn hls hst (lv_room hw) hdg hcs) X.2.2.2.2 (fun q _ h => hA q h) hA (fun u t H1 locs1 ht _ hp hB _ _ hS1 => ?_)
  subst hp
  exact kk H1 locs1 ⟨X.1, X.2.1, X.2.2.1, by rw [← ht]; exact hB.1, hS1⟩
end CALLW
def z0 : SS := (fun _ _ => 0, fun _ _ => 0, fun _ _ => 0)
def mem1 : SS := sA (sA z0 20 0 0) 11 (ix 0) 7
def mem0 : SS := stick (wakeClass (wakeClass (wakeClass (wake mem1 0 1 0) 1 0 0) 2 1 0) 3 1 0)
theorem RG_z0 : RG z0 := ⟨fun _ _ _ _ => (by decide : 0 ≤ (0 : Int32).toInt), fun _ _ => (by decide : 0 ≤ (0 : Int32).toInt), fun _ _ => (by decide : 0 ≤ (0 : Int32).toInt ∧ (0 : Int32).toInt < 28), fun _ _ => (by decide : 0 ≤ (0 : Int32).toInt ∧ (0 : Int32).toInt ≤ 15), fun _ _ => (by decide : 0 ≤ (0 : Int32).toInt ∧ (0 : Int32).toInt ≤ 6), fun _ _ => (by decide : 0 ≤ (0 : Int32).toInt ∧ (0 : Int32).toInt ≤ 6)⟩
theorem RG_mem1 : RG mem1 := RG_A (RG_A RG_z0 (by decide) _ _) (by decide) _ _
def mkad (h q4 q5 q6 q7 q8 q9 q10 q11 q12 q13 q14 q15 : Nat) (r : Nat → Nat) : Nat → Nat := fun k => if k = 1 then h else if k = 4 then q4 else if k = 5 then q5 else if k = 6 then q6 else if k = 7 then q7 else if k = 8 then q8 else if k = 9 then q9 else if k = 10 then q10 else if k = 11 then q11 else if k = 12 then q12 else if k = 13 then q13 else if k = 14 then q14 else if k = 15 then q15 else r (k - 19)
def mkci (cI cZ cG : ClassId) : Nat → ClassId := fun k => if k = 0 then cI else if k = 1 then cZ else cG
theorem mkad_row (h q4 q5 q6 q7 q8 q9 q10 q11 q12 q13 q14 q15 : Nat) (r : Nat → Nat) (i : Nat) : mkad h q4 q5 q6 q7 q8 q9 q10 q11 q12 q13 q14 q15 r (19 + i) = r i := by
  unfold mkad
  rw [if_neg (by omega), if_neg (by omega), if_neg (by omega), if_neg (by omega), if_neg (by omega), if_neg (by omega), if_neg (by omega), if_neg (by omega), if_neg (by omega), if_neg (by omega), if_neg (by omega), if_neg (by omega), if_neg (by omega), Nat.add_sub_cancel_left]
theorem cwM_get (ad : Nat → Nat) (ci : Nat → ClassId) (σ : SS) {k : Nat} (hk : k < 41) : ∃ e, (cwM ad ci σ)[k]? = some (ad (idM k), e) := by
  have h1 : k < (cwM ad ci σ).length := by rw [cwM_len]; exact hk
  refine ⟨((cwM ad ci σ)[k]).2, ?_⟩
  have h2 := List.getElem?_eq_getElem h1
  rw [h2]
  have h3 := (cwM_at h2).2
  rw [← h3]
theorem InjM_of {A : Nat → Prop} {ad : Nat → Nat} {ci : Nat → ClassId} {σ : SS} (h : va_D A (cwM ad ci σ)) : InjM ad := fun i j hi hj e => by
  obtain ⟨a, ha⟩ := cwM_get ad ci σ hi
  obtain ⟨b, hb⟩ := cwM_get ad ci σ hj
  exact h.1 i j _ _ ha hb e
theorem AwM_of {A : Nat → Prop} {ad : Nat → Nat} {ci : Nat → ClassId} {σ : SS} (h : va_D A (cwM ad ci σ)) : ∀ q, AwM ad q → A q := fun q hq => by
  obtain ⟨k, hk, rfl⟩ := hq
  obtain ⟨a, ha⟩ := cwM_get ad ci σ hk
  exact h.2 k _ ha
theorem va_D.eq {A : Nat → Prop} {ws ws' : va_W} (h : ws = ws') (hD : va_D A ws) : va_D A ws' := h ▸ hD
theorem one_D {x : Nat × va_E} : va_D (fun _ => True) [x] := ⟨fun i j p q hi hj _ => by
    have h1 : i < 1 := (List.getElem?_eq_some_iff.mp hi).1
    have h2 : j < 1 := (List.getElem?_eq_some_iff.mp hj).1
    omega, fun _ _ _ => trivial⟩
