/-! the class's world: 47 cells at the addresses ad 0 .. ad 46; cell k of the list is at ad k.
pure state: .1 the int and boolean rows by their cell's number (4 living, 5 stuck, 6 classes, 7 classIn, 8 fieldsIn, 9 sizes, 10 depths, 11 holders, 13 registers, 14 reached, 15 trail, 16 known; 20 0: trailEnd, 21 0: reason), .2.1 the grid of fields, .2.2 the long rows (17 lows, 18 highs) -/
abbrev SS : Type := (Nat → Nat → Int32) × (Nat → Nat → Int32) × (Nat → Nat → Int64)
def rows (ad : Nat → Nat) (ci : Nat → ClassId) (G : Nat → Nat → Int32) : va_W := (List.range 28).map (fun i => (ad (19 + i), .inl (ci 0, 15, .inl (G i))))
def hd (ad : Nat → Nat) (ci : Nat → ClassId) (A : Nat → Nat → Int32) (L : Nat → Nat → Int64) : va_W :=
  [(ad 0, .inr (3, [.ref (ad 1), .ref (ad 2), .ref (ad 3)])),
   (ad 1, .inr (0, [.ref (ad 4), .ref (ad 5), .ref (ad 6), .ref (ad 7), .ref (ad 8), .ref (ad 9), .ref (ad 10), .ref (ad 11), .ref (ad 12), .ref (ad 13), .ref (ad 14), .ref (ad 15), .int (A 20 0)])),
   (ad 2, .inr (1, [.ref (ad 16), .ref (ad 17), .ref (ad 18)])),
   (ad 3, .inr (2, [.ref (ad 1), .ref (ad 2), .int (A 21 0)])),
   (ad 4, .inl (ci 1, 28, .inl (A 4))), (ad 5, .inl (ci 1, 28, .inl (A 5))), (ad 6, .inl (ci 1, 28, .inl (A 6))),
   (ad 7, .inl (ci 0, 28, .inl (A 7))), (ad 8, .inl (ci 0, 28, .inl (A 8))), (ad 9, .inl (ci 0, 28, .inl (A 9))), (ad 10, .inl (ci 0, 28, .inl (A 10))), (ad 11, .inl (ci 0, 28, .inl (A 11))),
   (ad 12, .inl (ci 3, 28, .inr (.inr (.inr (.inr (fun i => if i < 28 then some (ad (19 + i)) else none)))))),
   (ad 13, .inl (ci 0, 7, .inl (A 13))), (ad 14, .inl (ci 1, 28, .inl (A 14))), (ad 15, .inl (ci 0, 28, .inl (A 15))),
   (ad 16, .inl (ci 1, 224, .inl (A 16))), (ad 17, .inl (ci 2, 224, .inr (.inl (L 17)))), (ad 18, .inl (ci 2, 224, .inr (.inl (L 18))))]
def cw (ad : Nat → Nat) (ci : Nat → ClassId) (σ : SS) : va_W := hd ad ci σ.1 σ.2.2 ++ rows ad ci σ.2.1
def tyc (ci : Nat → ClassId) : List (ClassId × FieldType) := [(ci 0, .int), (ci 1, .boolean), (ci 2, .long), (ci 3, .array .int)]
def Aw (ad : Nat → Nat) : Nat → Prop := fun q => ∃ k, k < 47 ∧ q = ad k
def Inj (ad : Nat → Nat) : Prop := ∀ i j, i < 47 → j < 47 → ad i = ad j → i = j
def EC (D : va_G) (ad : Nat → Nat) (ci : Nat → ClassId) : EV SS := (D, tyc ci, cw ad ci, Aw ad)
theorem cw_fst (ad : Nat → Nat) (ci : Nat → ClassId) (σ : SS) : (cw ad ci σ).map Prod.fst = (List.range 47).map ad := rfl
theorem cw_at {ad : Nat → Nat} {ci : Nat → ClassId} {σ : SS} {k : Nat} {q : Nat × va_E} (h : (cw ad ci σ)[k]? = some q) : k < 47 ∧ q.1 = ad k := by
  have h1 : ((cw ad ci σ).map Prod.fst)[k]? = some q.1 := by rw [List.getElem?_map, h]; rfl
  rw [cw_fst, List.getElem?_map] at h1
  by_cases hk : k < 47
  · rw [List.getElem?_range hk] at h1
    exact ⟨hk, (Option.some.inj h1).symm⟩
  · rw [List.getElem?_eq_none (by rw [List.length_range]; omega)] at h1
    cases h1
theorem cw_D {ad : Nat → Nat} (hI : Inj ad) (ci : Nat → ClassId) (σ : SS) : va_D (Aw ad) (cw ad ci σ) := by
  refine ⟨fun i j x y hi hj hxy => ?_, fun k q hk => ?_⟩
  · obtain ⟨h1, e1⟩ := cw_at hi
    obtain ⟨h2, e2⟩ := cw_at hj
    exact hI i j h1 h2 (by rw [← e1, ← e2]; exact hxy)
  · obtain ⟨h1, e1⟩ := cw_at hk
    exact ⟨k, h1, e1⟩
def sA (σ : SS) (k j : Nat) (x : Int32) : SS := (fun a => if a = k then upd (σ.1 a) j x else σ.1 a, σ.2)
def sG (σ : SS) (n j : Nat) (x : Int32) : SS := (σ.1, fun a => if a = n then upd (σ.2.1 a) j x else σ.2.1 a, σ.2.2)
def sL (σ : SS) (k j : Nat) (x : Int64) : SS := (σ.1, σ.2.1, fun a => if a = k then vp_updL (σ.2.2 a) j x else σ.2.2 a)
theorem rows_at (ad : Nat → Nat) (ci : Nat → ClassId) (G : Nat → Nat → Int32) {n : Nat} (hn : n < 28) : (rows ad ci G)[n]? = some (ad (19 + n), .inl (ci 0, 15, .inl (G n))) := by
  unfold rows
  rw [List.getElem?_map, List.getElem?_range hn]
  rfl
theorem cw_row (ad : Nat → Nat) (ci : Nat → ClassId) (σ : SS) {n : Nat} (hn : n < 28) : (cw ad ci σ)[19 + n]? = some (ad (19 + n), .inl (ci 0, 15, .inl (σ.2.1 n))) := by
  unfold cw
  rw [List.getElem?_append_right (by show 19 ≤ 19 + n; omega)]
  show (rows ad ci σ.2.1)[19 + n - 19]? = _
  rw [Nat.add_sub_cancel_left]
  exact rows_at ad ci _ hn
theorem cw_setG (ad : Nat → Nat) (ci : Nat → ClassId) (σ : SS) {n : Nat} (hn : n < 28) (j : Nat) (x : Int32) : (cw ad ci σ).set (19 + n) (ad (19 + n), .inl (ci 0, 15, .inl (upd (σ.2.1 n) j x))) = cw ad ci (sG σ n j x) := by
  apply List.ext_getElem?
  intro k
  have hlen : (cw ad ci σ).length = 47 := by
    have := congrArg List.length (cw_fst ad ci σ)
    simpa using this
  by_cases hk : k = 19 + n
  · subst hk
    rw [List.getElem?_set_self (by rw [hlen]; omega), cw_row ad ci _ hn]
    simp [sG]
  · rw [List.getElem?_set_ne (Ne.symm hk)]
    by_cases h19 : k < 19
    · unfold cw
      rw [List.getElem?_append_left (by show k < 19; exact h19), List.getElem?_append_left (by show k < 19; exact h19)]
      rfl
    · by_cases h47 : k < 47
      · obtain ⟨i, rfl⟩ : ∃ i, k = 19 + i := ⟨k - 19, by omega⟩
        rw [cw_row ad ci _ (by omega), cw_row ad ci _ (by omega)]
        have : i ≠ n := fun e => hk (by rw [e])
        simp [sG, this]
      · have hlen2 : (cw ad ci (sG σ n j x)).length = 47 := by
          have := congrArg List.length (cw_fst ad ci (sG σ n j x))
          simpa using this
        rw [List.getElem?_eq_none (by rw [hlen]; omega), List.getElem?_eq_none (by rw [hlen2]; omega)]
theorem va_P.eq {D : va_G} {cl : List vw_C} {ws ws' : va_W} {H : Heap} (h : ws = ws') (hP : va_P D cl ws H) : va_P D cl ws' H := h ▸ hP
section ALDA
variable {p : Program} {l : Launch} {e : Env} {R : Room} {s : State} {m : MethodId} {args : Array Value} {below : List Frame} {meth : Method} {c : Code} {H : Heap} {locs : List Loc} {cells slots : Nat} {Q : State → Prop}
variable {cc : ByteArray} {pc : Nat} {ls : Array Slot} {rest : List Value} {D : va_G} {cl : List vw_C} {a : Nat} {tys : List (ClassId × FieldType)} {ws : va_W}
/-- aaload of an array of arrays -/
theorem aldA (hexec : p.tables.exec = Jvm.exec) (hb : c.code = cc) (hK : va_K D cl tys s) (hP : va_P D cl ws H) (q0 t0 : Nat) {cA : ClassId} {ty : FieldType} {n v : Nat} {f : Nat → Option Nat} (ha : ws[q0]? = some (a, .inl (cA, n, .inr (.inr (.inr (.inr f)))))) (ht : tys[t0]? = some (cA, .array ty)) {i : Int32} (hin : vp_in i n) (hf : f i.toNatClampNeg = some v) (hdg : decode cc pc = .ok (.aaload, 1))
    (kk : W p l e R s m args below meth c H locs cells slots Q (F0 m (pc + 1) ls (.ref v :: rest))) : W p l e R s m args below meth c H locs cells slots Q (F0 m pc ls (.int i :: .ref a :: rest)) := by
  have hlt : i.toNatClampNeg < n := Nat.not_le.mp fun q => hin (Or.inr q)
  exact W.aald (v := .ref v) (ty := .array ty) hexec hb (hP q0 _ ha) ((hK.2 t0 _ ht).1 n (fun j => va_rf (f j))) rfl (fun q => by cases q) (by show ¬ (i < 0 ∨ (arrV _ _ _).slots.size ≤ _); rw [arrV_size]; exact hin) (by show (arrV _ _ _).slots[_]? = _; rw [arrV_read _ _ hlt, hf]; rfl) rfl rfl hdg kk
end ALDA
section CROWS
variable {p : Program} {l : Launch} {e : Env} {R : Room} {s : State} {m : MethodId} {args : Array Value} {below : List Frame} {meth : Method} {c : Code} {H : Heap} {locs : List Loc} {cells slots : Nat} {Q : State → Prop}
variable {cc : ByteArray} {nL pc : Nat} {ls : Array Slot} {rest : List Value} {own : String} {D : va_G} {ad : Nat → Nat} {ci : Nat → ClassId} {σ : SS}
theorem rc_mm (X : Cx (EC D ad ci) p s m args c cc nL own H locs σ) : Rcv s H "MessageMachine" (ad 0) := va_recv X.2.1 X.2.2.2.1 (ci := 3) rfl (q0 := 0) rfl
theorem rc_me (X : Cx (EC D ad ci) p s m args c cc nL own H locs σ) : Rcv s H "MessageMachine$Memory" (ad 1) := va_recv X.2.1 X.2.2.2.1 (ci := 0) rfl (q0 := 1) rfl
theorem rc_mt (X : Cx (EC D ad ci) p s m args c cc nL own H locs σ) : Rcv s H "MessageMachine$Methods" (ad 2) := va_recv X.2.1 X.2.2.2.1 (ci := 1) rfl (q0 := 2) rfl
theorem rc_pr (X : Cx (EC D ad ci) p s m args c cc nL own H locs σ) : Rcv s H "MessageMachine$Processor" (ad 3) := va_recv X.2.1 X.2.2.2.1 (ci := 2) rfl (q0 := 3) rfl
/-- int rows -/
theorem Cx.iald (q : Nat) {n : Nat} {a : Nat} {f : Nat → Int32} (X : Cx (EC D ad ci) p s m args c cc nL own H locs σ) (ha : (cw ad ci σ)[q]? = some (a, .inl (ci 0, n, .inl f))) {i : Int32} (hin : vp_in i n) (hdg : decode cc pc = .ok (.iaload, 1))
    (kk : W p l e R s m args below meth c H locs cells slots Q (F0 m (pc + 1) ls (.int (f i.toNatClampNeg) :: rest))) : W p l e R s m args below meth c H locs cells slots Q (F0 m pc ls (.int i :: .ref a :: rest)) :=
  va_iald X.1.1 X.1.2.1 X.2.1 X.2.2.2.1 q 0 ha rfl hin hdg kk
theorem Cx.zald (q : Nat) {n : Nat} {a : Nat} {f : Nat → Int32} (X : Cx (EC D ad ci) p s m args c cc nL own H locs σ) (ha : (cw ad ci σ)[q]? = some (a, .inl (ci 1, n, .inl f))) {i : Int32} (hin : vp_in i n) (hdg : decode cc pc = .ok (.baload, 1))
    (kk : W p l e R s m args below meth c H locs cells slots Q (F0 m (pc + 1) ls (.int (f i.toNatClampNeg) :: rest))) : W p l e R s m args below meth c H locs cells slots Q (F0 m pc ls (.int i :: .ref a :: rest)) :=
  va_zald X.1.1 X.1.2.1 X.2.1 X.2.2.2.1 q 1 ha rfl hin hdg kk
theorem Cx.lald (q : Nat) {n : Nat} {a : Nat} {f : Nat → Int64} (X : Cx (EC D ad ci) p s m args c cc nL own H locs σ) (ha : (cw ad ci σ)[q]? = some (a, .inl (ci 2, n, .inr (.inl f)))) {i : Int32} (hin : vp_in i n) (hdg : decode cc pc = .ok (.laload, 1))
    (kk : W p l e R s m args below meth c H locs cells slots Q (F0 m (pc + 1) ls (.long (f i.toNatClampNeg) :: rest))) : W p l e R s m args below meth c H locs cells slots Q (F0 m pc ls (.int i :: .ref a :: rest)) :=
  va_lald X.1.1 X.1.2.1 X.2.1 X.2.2.2.1 q 2 ha rfl hin hdg kk
theorem Cx.iast (hI : Inj ad) (q : Nat) {n : Nat} {a : Nat} {f : Nat → Int32} {i x : Int32} (X : Cx (EC D ad ci) p s m args c cc nL own H locs σ) (ha : (cw ad ci σ)[q]? = some (a, .inl (ci 0, n, .inl f))) (hs : (cw ad ci σ).set q (a, .inl (ci 0, n, .inl (upd f i.toNatClampNeg x))) = cw ad ci (sA σ q i.toNatClampNeg x)) (hin : vp_in i n) (hdg : decode cc pc = .ok (.iastore, 1))
    (kk : ∀ (H1 : Heap) (locs1 : List Loc), Cx (EC D ad ci) p s m args c cc nL own H1 locs1 (sA σ q i.toNatClampNeg x) → W p l e R s m args below meth c H1 locs1 cells slots Q (F0 m (pc + 1) ls rest)) : W p l e R s m args below meth c H locs cells slots Q (F0 m pc ls (.int x :: .int i :: .ref a :: rest)) :=
  va_iast X.1.1 X.1.2.1 X.2.1 X.2.2.2.1 (cw_D hI ci σ) X.2.2.2.2 q 0 ha rfl hin hdg (fun H1 locs1 hP _ hS => kk H1 locs1 ⟨X.1, X.2.1, X.2.2.1, va_P.eq hs hP, hS⟩)
theorem Cx.zast (hI : Inj ad) (q : Nat) {n : Nat} {a : Nat} {f : Nat → Int32} {i x : Int32} (X : Cx (EC D ad ci) p s m args c cc nL own H locs σ) (ha : (cw ad ci σ)[q]? = some (a, .inl (ci 1, n, .inl f))) (hx : vp_nar .boolean x = x) (hs : (cw ad ci σ).set q (a, .inl (ci 1, n, .inl (upd f i.toNatClampNeg x))) = cw ad ci (sA σ q i.toNatClampNeg x)) (hin : vp_in i n) (hdg : decode cc pc = .ok (.bastore, 1))
    (kk : ∀ (H1 : Heap) (locs1 : List Loc), Cx (EC D ad ci) p s m args c cc nL own H1 locs1 (sA σ q i.toNatClampNeg x) → W p l e R s m args below meth c H1 locs1 cells slots Q (F0 m (pc + 1) ls rest)) : W p l e R s m args below meth c H locs cells slots Q (F0 m pc ls (.int x :: .int i :: .ref a :: rest)) :=
  va_zast X.1.1 X.1.2.1 X.2.1 X.2.2.2.1 (cw_D hI ci σ) X.2.2.2.2 q 1 ha rfl hin hdg (fun H1 locs1 hP _ hS => kk H1 locs1 ⟨X.1, X.2.1, X.2.2.1, va_P.eq hs (by rw [hx] at hP; exact hP), hS⟩)
theorem Cx.last (hI : Inj ad) (q : Nat) {n : Nat} {a : Nat} {f : Nat → Int64} {i : Int32} {x : Int64} (X : Cx (EC D ad ci) p s m args c cc nL own H locs σ) (ha : (cw ad ci σ)[q]? = some (a, .inl (ci 2, n, .inr (.inl f)))) (hs : (cw ad ci σ).set q (a, .inl (ci 2, n, .inr (.inl (vp_updL f i.toNatClampNeg x)))) = cw ad ci (sL σ q i.toNatClampNeg x)) (hin : vp_in i n) (hdg : decode cc pc = .ok (.lastore, 1))
    (kk : ∀ (H1 : Heap) (locs1 : List Loc), Cx (EC D ad ci) p s m args c cc nL own H1 locs1 (sL σ q i.toNatClampNeg x) → W p l e R s m args below meth c H1 locs1 cells slots Q (F0 m (pc + 1) ls rest)) : W p l e R s m args below meth c H locs cells slots Q (F0 m pc ls (.long x :: .int i :: .ref a :: rest)) :=
  va_last X.1.1 X.1.2.1 X.2.1 X.2.2.2.1 (cw_D hI ci σ) X.2.2.2.2 q 2 ha rfl hin hdg (fun H1 locs1 hP _ hS => kk H1 locs1 ⟨X.1, X.2.1, X.2.2.1, va_P.eq hs hP, hS⟩)
/-- the grid -/
theorem Cx.gald (X : Cx (EC D ad ci) p s m args c cc nL own H locs σ) {i : Int32} (hin : vp_in i 28) (hdg : decode cc pc = .ok (.aaload, 1))
    (kk : W p l e R s m args below meth c H locs cells slots Q (F0 m (pc + 1) ls (.ref (ad (19 + i.toNatClampNeg)) :: rest))) : W p l e R s m args below meth c H locs cells slots Q (F0 m pc ls (.int i :: .ref (ad 12) :: rest)) := by
  have hlt : i.toNatClampNeg < 28 := Nat.not_le.mp fun q => hin (Or.inr q)
  exact aldA X.1.1 X.1.2.1 X.2.1 X.2.2.2.1 12 3 (ty := .int) (f := fun i => if i < 28 then some (ad (19 + i)) else none) rfl rfl hin (if_pos hlt) hdg kk
theorem Cx.rald (X : Cx (EC D ad ci) p s m args c cc nL own H locs σ) {n : Nat} (hn : n < 28) {i : Int32} (hin : vp_in i 15) (hdg : decode cc pc = .ok (.iaload, 1))
    (kk : W p l e R s m args below meth c H locs cells slots Q (F0 m (pc + 1) ls (.int (σ.2.1 n i.toNatClampNeg) :: rest))) : W p l e R s m args below meth c H locs cells slots Q (F0 m pc ls (.int i :: .ref (ad (19 + n)) :: rest)) :=
  va_iald X.1.1 X.1.2.1 X.2.1 X.2.2.2.1 (19 + n) 0 (cw_row ad ci σ hn) rfl hin hdg kk
theorem Cx.rast (hI : Inj ad) {n : Nat} {i x : Int32} (X : Cx (EC D ad ci) p s m args c cc nL own H locs σ) (hn : n < 28) (hin : vp_in i 15) (hdg : decode cc pc = .ok (.iastore, 1))
    (kk : ∀ (H1 : Heap) (locs1 : List Loc), Cx (EC D ad ci) p s m args c cc nL own H1 locs1 (sG σ n i.toNatClampNeg x) → W p l e R s m args below meth c H1 locs1 cells slots Q (F0 m (pc + 1) ls rest)) : W p l e R s m args below meth c H locs cells slots Q (F0 m pc ls (.int x :: .int i :: .ref (ad (19 + n)) :: rest)) :=
  va_iast X.1.1 X.1.2.1 X.2.1 X.2.2.2.1 (cw_D hI ci σ) X.2.2.2.2 (19 + n) 0 (cw_row ad ci σ hn) rfl hin hdg (fun H1 locs1 hP _ hS => kk H1 locs1 ⟨X.1, X.2.1, X.2.2.1, va_P.eq (cw_setG ad ci σ hn _ _) hP, hS⟩)
end CROWS
