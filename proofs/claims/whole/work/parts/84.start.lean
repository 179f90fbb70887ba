/-! THE CLAIM OUT OF ONE WALK OF THE LAW'S BODY. Your part is whole_start (and what it stands on); all else here is the same for every law, but numbers. -/
def R_law : String := "MessageMachineLaw"
def lw_P (b : Addr) (xs : List Int32) (args : Array Value) (s : State) : Prop := args = #[.ref b] ∧ s.IntsAt b xs ∧ xs.length ≤ 3584 ∧ (Jvm.Cond.and given_1 narrow_1).before args s = true
def lw_Q (_ : Array Value) (s : State) (o : Outcome) (t : State) : Prop := o = .returned (some (.int 1)) ∧ Framed s o t [] 600000 7302250
def lw_Z (below : List Frame) (a : Array Value) (s : State) : State → Prop := fun t => ∃ o, t.status = .running ∧ Ended t below o ∧ lw_Q a s o t
/-- the law's own end, with 1 on the stack, nothing written that was there before, its room as the claim has it -/
theorem lw_ret {p : Program} {l : Launch} {e : Env} {s : State} {m : MethodId} {below : List Frame} {meth : Method} {c : Code} {b : Nat} (hx : p.tables.exec = Jvm.exec) (hb : c.code = code) (hr : meth.sig.returnType = ret) (hlocks : meth.locks = false) {pc : Nat} {H : Heap} {ls : Array Slot} (hdg : decode code pc = .ok (.ireturn, 1)) : W p l e room_1 s m #[Value.ref b] below meth c H [] 600000 7302250 (lw_Z below #[Value.ref b] s) (F0 m pc ls [.int 1]) := by
  intro T hT X
  obtain ⟨fs, hret, hrun, hended, hW, hframe⟩ := X.leave (v := some (.int 1)) (hlocks := hlocks) (fun h => by rw [hr] at h; cases h)
  have hmeth' : T.vm.method? m = some meth := X.method'
  refine ⟨T.setFrames fs, ?_, .returned (some (.int 1)), hrun, hended, rfl, ⟨_, rfl⟩, hW, hframe⟩
  jvm_step X.here [X.here.top, hx, hb, hdg, hmeth', hr, ret, narrow_b1]
  (try refine ⟨rfl, ?_⟩); (try refine ⟨rfl, ?_⟩)
  first | (intro acts; rw [hret _ acts rfl rfl rfl]) | rw [hret _ _ rfl rfl rfl]
  exact Steps.refl _
/-- what holds at the law's entry: the machine, the code, the tables' words (any of lw_tbl by 'hts w (by decide +kernel)'), the script of L ints xs at the cell b, what the Statement gives of the start (any of its parts by flat_of_before) -/
def lw_At (p : Program) (s : State) (m : MethodId) (meth : Method) (c : Code) (b L : Nat) (xs : Nat → Int32) : Prop :=
  p.tables.exec = Jvm.exec ∧ c.code = code ∧ meth.sig.returnType = ret ∧ c.maxLocals = 4 ∧ s.vm.findClass R_law = some m.cls ∧ (∀ w ∈ lw_tbl, w.before #[Value.ref b] s = true) ∧ va_X b L xs s s.heap ∧ b < s.heap.size ∧ meth.locks = false ∧ (Jvm.Cond.and given_1 narrow_1).before #[Value.ref b] s = true
set_option maxHeartbeats 8000000 in
theorem whole_start {p : Program} {e : Env} {s : State} {m : MethodId} {below : List Frame} {meth : Method} {c : Code} (l : Launch) {b L : Nat} {xs : Nat → Int32} (hL : L ≤ 3584) (C0 : lw_At p s m meth c b L xs) : W p l e room_1 s m #[Value.ref b] below meth c s.heap [] 0 0 (lw_Z below #[Value.ref b] s) (entryFrame m ([Value.ref b] : List Value).toArray 4) := by
  obtain ⟨hx, hb, hr, hml, hown, hts, hX, hbl, hlocks, -⟩ := C0
  have hg : ∀ w ∈ gt, w.before #[Value.ref b] s = true := fun w hw => hts w (List.mem_filter.mp hw).1
  have htb : ∀ (i : Nat) (w : Cond), tables_1[i]? = some w → w.before #[Value.ref b] s = true := fun i w h => hts w (List.mem_append_right _ (List.mem_of_getElem? h))
  have hO : aoa s := (htb 21 (.arrayOver (.array .int)) (by decide +kernel) : (Cond.arrayOver (.array .int)).before #[Value.ref b] s = true)
  have hNw : va_Nw (.methodLinkNest "MessageMachine" 18 y_mt_init "MessageMachine") s := va_Nw.of rfl (htb 90 _ (by decide +kernel))
  have hN : nst s := ⟨va_Nw.of rfl (htb 245 _ (by decide +kernel)), va_Nw.of rfl (htb 297 _ (by decide +kernel)), va_Nw.of rfl (htb 388 _ (by decide +kernel)), va_Nw.of rfl (htb 398 _ (by decide +kernel))⟩
  obtain ⟨c0, j0, k0⟩ := u_known hg in_me (hg _ mw_15)
  obtain ⟨c1, j1, k1⟩ := u_known hg in_mt (hg _ mw_89)
  obtain ⟨c2, j2, k2⟩ := u_known hg in_pr (hg _ mw_106)
  obtain ⟨c3, j3, k3⟩ := u_known hg in_mm (hg _ mw_7)
  obtain ⟨c4, j4, k4⟩ := u_known hg in_rf (hg _ mw_519)
  obtain ⟨D, hK⟩ : ∃ D : va_G, va_K D cl [] s := by
    refine ⟨(fun k => match k with | 0 => c0 | 1 => c1 | 2 => c2 | 3 => c3 | _ => c4, fun k => match k with | 0 => j0 | 1 => j1 | 2 => j2 | 3 => j3 | _ => j4), fun k q hq => ?_, fun k q h => by cases h⟩
    have h5 : k < 5 := (List.getElem?_eq_some_iff.mp hq).1
    have h6 : k = 0 ∨ k = 1 ∨ k = 2 ∨ k = 3 ∨ k = 4 := by omega
    rcases h6 with rfl | rfl | rfl | rfl | rfl
    · obtain rfl := Option.some.inj hq; exact k0
    · obtain rfl := Option.some.inj hq; exact k1
    · obtain rfl := Option.some.inj hq; exact k2
    · obtain rfl := Option.some.inj hq; exact k3
    · obtain rfl := Option.some.inj hq; exact k4
  have hP : va_P D cl [] s.heap := fun k q h => by cases h
  have hD : va_D (fun q => s.heap.size ≤ q) [] := ⟨fun i j x y h _ _ => (by cases h), fun k q h => (by cases h)⟩
  have hS : va_S (fun q => s.heap.size ≤ q) s.heap s.heap [] := va_S.rf
  have hA : ∀ q : Nat, s.heap.size ≤ q → (fun q => s.heap.size ≤ q) q := fun _ h => h
  have hl := lv_entry ([.ref b]) (n := 4) (Nat.le_of_ble_eq_true rfl)
  rw [lg_entry_eq]
  generalize (lg_sl ([.ref b]) ++ List.replicate (4 - (lg_sl ([.ref b])).length) Slot.unset).toArray = ls at hl ⊢
  have hl : lv_has ls 4 [(0, .ref b)] := hl
  refine va_new (ci := 3) (fs := [.null, .null, .null]) (C := "MessageMachine") (T := T_mm) (N := 3) hx hb hg in_mm ty_mm tk_mm hown (hg _ mw_6) (hg _ mw_7) (hg _ mw_1) hK hP hD hS hA rfl (by decide +kernel) (Nat.le_of_ble_eq_true rfl) (Nat.le_of_ble_eq_true rfl) d_lw_law_0 (fun q0 H hP hD hS => ?_)
  refine lv_dup hx hb d_lw_law_3 rfl ?_
  have hF := lastF hD hS hA
  refine va_callv (va_runI (As := []) (rest := [.ref q0]) ⟨hx, hb, hml, hown, hg⟩ (c_mm_init (D := D) q0 H.size) (cwI 0 hg (gt_good mw_10) rfl rfl rfl (hg _ mw_1) (hg _ mw_8) (hg _ mw_9) rfl ok_mm_init ⟨by decide, by decide⟩) ⟨fun a U g mk q => by obtain ⟨a0, a1, aP, aK, aN, aO, aW⟩ := q; exact ⟨a0, a1, aP, va_K.moved (u := U) (U := U.calling g mk a) (Vm.Alike.refl U.vm) aK, nst.same (u := U) (U := U.calling g mk a) rfl aN, aoa.moved (u := U) (U := U.calling g mk a) (Vm.Alike.refl U.vm) aO, va_Nw.same (u := U) (U := U.calling g mk a) rfl rfl aW⟩, fun U hU hW => ⟨rfl, by rw [hU], by rw [hU]; exact lastP hP, va_K.moved hW.alike hK, hN.warm hW, aoa.moved hW.alike hO, va_Nw.warmM hW hNw⟩⟩ rfl rfl hl.1 rfl (lv_room (Nat.le_of_ble_eq_true rfl)) d_lw_law_4 ⟨Nat.le_of_ble_eq_true rfl, Nat.le_of_ble_eq_true rfl⟩) hS (fun q _ h9 => hF q h9) hF (fun u t H1 locs ht hvm hpost hB hz1 hk1 hS => ?_)
  obtain ⟨adC, ciC⟩ := u
  obtain ⟨⟨hP1, hK1, -⟩, hD1⟩ := hB
  rw [ht] at hP1
  have hKC : va_K D cl (tyc ciC) s := va_K.moved hvm.symm hK1
  obtain ⟨hP9, hD9⟩ := joinLast hP hD hk1 hF hP1 hD1
  have hpost : adC 0 = q0 := hpost
  subst hpost
  generalize H1 = H at hP9 hS ⊢
  have hP : va_P D cl (cw adC ciC mem0) H := hP9
  have hD : va_D (fun q => s.heap.size ≤ q) (cw adC ciC mem0) := hD9
  refine lv_astore_n (lv' := [(1, .ref (adC 0)), (0, .ref b)]) hx hb d_lw_law_7 rfl hl (by decide) rfl (fun ls hl => ?_)
  refine va_new (ci := 4) (fs := [.null, .null, .null, .null, .null, .null, .null, .null, .null, .null, .null, .null, .int 0, .int 0, .null]) (C := "MessageMachineModel") (T := T_rf) (N := 15) hx hb hg in_rf ty_rf tk_rf hown (hg _ mw_518) (hg _ mw_519) (hg _ mw_5) hKC hP hD hS hA rfl (by decide +kernel) (Nat.le_of_ble_eq_true rfl) (Nat.le_of_ble_eq_true rfl) d_lw_law_8 (fun q1 H hP hD hS => ?_)
  refine lv_dup hx hb d_lw_law_11 rfl ?_
  have hF := lastF hD hS hA
  refine va_callv (va_runI (As := []) (rest := [.ref q1]) ⟨hx, hb, hml, hown, hg⟩ (c_rf_init (D := D) q1 H.size) (cwI 0 hg (gt_good mw_522) rfl rfl rfl (hg _ mw_5) (hg _ mw_520) (hg _ mw_521) rfl ok_rf_init ⟨by decide, by decide⟩) ⟨fun a U g mk q => by obtain ⟨a0, a1, aP, aK, aN⟩ := q; exact ⟨a0, a1, aP, va_K.moved (u := U) (U := U.calling g mk a) (Vm.Alike.refl U.vm) aK, nst.same (u := U) (U := U.calling g mk a) rfl aN⟩, fun U hU hW => ⟨rfl, by rw [hU], by rw [hU]; exact lastP hP, va_K.moved hW.alike hK, hN.warm hW⟩⟩ rfl rfl hl.1 rfl (lv_room (Nat.le_of_ble_eq_true rfl)) d_lw_law_12 ⟨Nat.le_of_ble_eq_true rfl, Nat.le_of_ble_eq_true rfl⟩) hS (fun q _ h9 => hF q h9) hF (fun u t H1 locs ht hvm hpost hB hz1 hk1 hS => ?_)
  obtain ⟨adR, ciR⟩ := u
  obtain ⟨⟨hP1, hK1, -⟩, hD1⟩ := hB
  rw [ht] at hP1
  have hKR : va_K D cl (tyr ciR) s := va_K.moved hvm.symm hK1
  obtain ⟨hP9, hD9⟩ := joinLast hP hD hk1 hF hP1 hD1
  have hpost : adR 0 = q1 := hpost
  subst hpost
  generalize H1 = H at hP9 hS ⊢
  refine lv_astore_n (lv' := [(2, .ref (adR 0)), (1, .ref (adC 0)), (0, .ref b)]) hx hb d_lw_law_15 rfl hl (by decide) rfl (fun ls hl => ?_)
  refine lv_iconst (v := 0) hx hb d_lw_law_16 rfl ?_
  refine lv_istore_n (lv' := [(3, .int 0), (2, .ref (adR 0)), (1, .ref (adC 0)), (0, .ref b)]) hx hb d_lw_law_17 rfl hl (by decide) rfl (fun ls hl => ?_)
  have lC : (cw adC ciC mem0).length = 47 := cw_len adC ciC mem0
  have hP : va_P D cl (cw adC ciC mem0 ++ rwd adR ciR rin) H := hP9
  have hD : va_D (fun q => s.heap.size ≤ q) (cw adC ciC mem0 ++ rwd adR ciR rin) := hD9
  have hPC : va_P D cl (cw adC ciC mem0) H := fun k q h => hP k q (by rw [List.getElem?_append_left (List.getElem?_eq_some_iff.mp h).1]; exact h)
  have hPR : va_P D cl (rwd adR ciR rin) H := fun k q h => hP (47 + k) q (by rw [List.getElem?_append_right (by rw [lC]; omega), lC, Nat.add_sub_cancel_left]; exact h)
  have hDC : va_D (fun q => s.heap.size ≤ q) (cw adC ciC mem0) := ⟨fun i j x y hi hj h => hD.1 i j x y (by rw [List.getElem?_append_left (List.getElem?_eq_some_iff.mp hi).1]; exact hi) (by rw [List.getElem?_append_left (List.getElem?_eq_some_iff.mp hj).1]; exact hj) h, fun k q h => hD.2 k q (by rw [List.getElem?_append_left (List.getElem?_eq_some_iff.mp h).1]; exact h)⟩
  have hDR : va_D (fun q => s.heap.size ≤ q) (rwd adR ciR rin) := ⟨fun i j x y hi hj h => Nat.add_left_cancel (hD.1 (47 + i) (47 + j) x y (by rw [List.getElem?_append_right (by rw [lC]; omega), lC, Nat.add_sub_cancel_left]; exact hi) (by rw [List.getElem?_append_right (by rw [lC]; omega), lC, Nat.add_sub_cancel_left]; exact hj) h), fun k q h => hD.2 (47 + k) q (by rw [List.getElem?_append_right (by rw [lC]; omega), lC, Nat.add_sub_cancel_left]; exact h)⟩
  have gC : ∀ k, k < 47 → ∃ e, (cw adC ciC mem0)[k]? = some (adC k, e) := fun k hk => by
    have h2 := List.getElem?_eq_getElem (show k < (cw adC ciC mem0).length by rw [lC]; exact hk)
    refine ⟨((cw adC ciC mem0)[k]'(by rw [lC]; exact hk)).2, ?_⟩
    rw [h2, ← (cw_at h2).2]
  have x8 : ∀ q, Aw adC q → s.heap.size ≤ q := fun q hq => by
    obtain ⟨k, hk, rfl⟩ := hq
    obtain ⟨e1, h1⟩ := gC k hk
    exact hDC.2 k _ h1
  have x10 : ∀ q, Aw adC q → ¬ Ar adR q := fun q hq hr => by
    obtain ⟨k, hk, rfl⟩ := hq
    obtain ⟨j, hj, ej⟩ := hr
    obtain ⟨e1, h1⟩ := gC k hk
    obtain ⟨e2, h2⟩ := rwd_get adR ciR rin hj
    have := hD.1 k (47 + j) _ _ (by rw [List.getElem?_append_left (by rw [lC]; exact hk)]; exact h1) (by rw [List.getElem?_append_right (by rw [lC]; omega), lC, Nat.add_sub_cancel_left]; exact h2) ej
    omega
  have X0 : LX D adC ciC adR ciR p s m c b L xs H _ mem0 rin := ⟨⟨hx, hb, hml, hown, hg⟩, hKC, hKR, hN, hPC, hPR, hS, x8, Ar_of hDR, x10, ⟨Inj_of hDC, InjR_of hDR⟩, hX, hbl⟩
  have loop : ∀ (n i : Nat) (σ μ : SS) (H : Heap) (locs : List Loc) (ls : Array Slot), L < i + 7 * n → i ≤ 4000 → BIG σ μ → LX D adC ciC adR ciR p s m c b L xs H locs σ μ → lv_has ls 4 (LV adC adR b i) → W p l e room_1 s m #[Value.ref b] below meth c H locs (0 + 1 + 46 + 1 + 13) (0 + 3 + 1426 + 15 + 4486) (lw_Z below #[Value.ref b] s) (F0 m 18 ls []) := by
    intro n
    induction n with
    | zero =>
      intro i σ μ H locs ls hn hi4 hB X hl
      refine lv_iload_n X.1.1 X.1.2.1 d_lw_law_18 rfl (lv_at hl 0 rfl) ?_
      refine lv_aload_n X.1.1 X.1.2.1 d_lw_law_19 rfl (lv_at hl 3 rfl) ?_
      refine va_slen X.1.1 X.1.2.1 X.2.2.2.2.2.2.2.2.2.2.2.1 hbl (fun h => Nat.lt_irrefl _ (Nat.lt_of_lt_of_le hbl h)) X.2.2.2.2.2.2.1 d_lw_law_20 ?_
      refine lv_bipush (v := 7) X.1.1 X.1.2.1 d_lw_law_21 rfl ?_
      refine lv_isub X.1.1 X.1.2.1 d_lw_law_23 ?_
      refine lv_icmp_gt (tgt := 874) X.1.1 X.1.2.1 d_lw_law_24 rfl (fun _ => ?_) (fun h9 => absurd (ix7n (by omega) (by omega)) h9)
      refine lv_iconst (v := 1) X.1.1 X.1.2.1 d_lw_law_874 rfl ?_
      refine va_forget X.2.2.2.2.2.2.1.2.2 (W.widen (k := 600000) (n := 7302250) (by omega) (by omega) ?_)
      exact lw_ret hx hb hr hlocks d_lw_law_875
    | succ n ih =>
      intro i σ μ H locs ls hn hi4 hB X hl
      refine lv_iload_n X.1.1 X.1.2.1 d_lw_law_18 rfl (lv_at hl 0 rfl) ?_
      refine lv_aload_n X.1.1 X.1.2.1 d_lw_law_19 rfl (lv_at hl 3 rfl) ?_
      refine va_slen X.1.1 X.1.2.1 X.2.2.2.2.2.2.2.2.2.2.2.1 hbl (fun h => Nat.lt_irrefl _ (Nat.lt_of_lt_of_le hbl h)) X.2.2.2.2.2.2.1 d_lw_law_20 ?_
      refine lv_bipush (v := 7) X.1.1 X.1.2.1 d_lw_law_21 rfl ?_
      refine lv_isub X.1.1 X.1.2.1 d_lw_law_23 ?_
      refine lv_icmp_gt (tgt := 874) X.1.1 X.1.2.1 d_lw_law_24 rfl (fun _ => ?_) (fun h24 => ?_)
      · refine lv_iconst (v := 1) X.1.1 X.1.2.1 d_lw_law_874 rfl ?_
        refine va_forget X.2.2.2.2.2.2.1.2.2 (W.widen (k := 600000) (n := 7302250) (by omega) (by omega) ?_)
        exact lw_ret hx hb hr hlocks d_lw_law_875
      · have hi : i + 7 ≤ L := ix7 (by omega) (by omega) h24
        have hcs : 0 + 1 + 46 + 1 + 13 ≤ room_1.cells ∧ 0 + 3 + 1426 + 15 + 4486 ≤ room_1.slots := ⟨Nat.le_of_ble_eq_true rfl, Nat.le_of_ble_eq_true rfl⟩
        have kk : NX p l e s m below meth c (0 + 1 + 46 + 1 + 13) (0 + 3 + 1426 + 15 + 4486) (lw_Z below #[Value.ref b] s) b L i D adC adR ciC ciR xs := fun σ1 μ1 H1 locs1 ls1 hB1 X1 hl1 => ih (i + 7) σ1 μ1 H1 locs1 ls1 (by omega) (by omega) hB1 X1 hl1
        refine lv_aload_n X.1.1 X.1.2.1 d_lw_law_27 rfl (lv_at hl 3 rfl) ?_
        refine lv_iload_n X.1.1 X.1.2.1 d_lw_law_28 rfl (lv_at hl 0 rfl) ?_
        refine X.sld (by omega) hL d_lw_law_29 ?_
        refine lv_bipush (v := 31) X.1.1 X.1.2.1 d_lw_law_30 rfl ?_
        refine lv_iand X.1.1 X.1.2.1 d_lw_law_32 ?_
        by_cases q0 : xs i &&& 31 = 0
        · refine lv_tableIn (tgt := 144) X.1.1 X.1.2.1 d_lw_law_33 (by rw [q0]; decide) (by rw [q0]; decide) (by rw [q0]; rfl) rfl ?_
          exact lc_0 hB X hl hi hL hcs kk
        by_cases q1 : xs i &&& 31 = 1
        · refine lv_tableIn (tgt := 187) X.1.1 X.1.2.1 d_lw_law_33 (by rw [q1]; decide) (by rw [q1]; decide) (by rw [q1]; rfl) rfl ?_
          exact lc_1 hB X hl hi hL hcs kk
        by_cases q2 : xs i &&& 31 = 2
        · refine lv_tableIn (tgt := 302) X.1.1 X.1.2.1 d_lw_law_33 (by rw [q2]; decide) (by rw [q2]; decide) (by rw [q2]; rfl) rfl ?_
          exact lc_2 hB X hl hi hL hcs kk
        by_cases q3 : xs i &&& 31 = 3
        · refine lv_tableIn (tgt := 335) X.1.1 X.1.2.1 d_lw_law_33 (by rw [q3]; decide) (by rw [q3]; decide) (by rw [q3]; rfl) rfl ?_
          exact lc_3 hB X hl hi hL hcs kk
        by_cases q4 : xs i &&& 31 = 4
        · refine lv_tableIn (tgt := 368) X.1.1 X.1.2.1 d_lw_law_33 (by rw [q4]; decide) (by rw [q4]; decide) (by rw [q4]; rfl) rfl ?_
          exact lc_4 hB X hl hi hL hcs kk
        by_cases q5 : xs i &&& 31 = 5
        · refine lv_tableIn (tgt := 401) X.1.1 X.1.2.1 d_lw_law_33 (by rw [q5]; decide) (by rw [q5]; decide) (by rw [q5]; rfl) rfl ?_
          exact lc_5 hB X hl hi hL hcs kk
        by_cases q6 : xs i &&& 31 = 6
        · refine lv_tableIn (tgt := 424) X.1.1 X.1.2.1 d_lw_law_33 (by rw [q6]; decide) (by rw [q6]; decide) (by rw [q6]; rfl) rfl ?_
          exact lc_6 hB X hl hi hL hcs kk
        by_cases q7 : xs i &&& 31 = 7
        · refine lv_tableIn (tgt := 467) X.1.1 X.1.2.1 d_lw_law_33 (by rw [q7]; decide) (by rw [q7]; decide) (by rw [q7]; rfl) rfl ?_
          exact lc_7 hB X hl hi hL hcs kk
        by_cases q8 : xs i &&& 31 = 8
        · refine lv_tableIn (tgt := 500) X.1.1 X.1.2.1 d_lw_law_33 (by rw [q8]; decide) (by rw [q8]; decide) (by rw [q8]; rfl) rfl ?_
          exact lc_8 hB X hl hi hL hcs kk
        by_cases q9 : xs i &&& 31 = 9
        · refine lv_tableIn (tgt := 543) X.1.1 X.1.2.1 d_lw_law_33 (by rw [q9]; decide) (by rw [q9]; decide) (by rw [q9]; rfl) rfl ?_
          exact lc_9 hB X hl hi hL hcs kk
        by_cases q10 : xs i &&& 31 = 10
        · refine lv_tableIn (tgt := 576) X.1.1 X.1.2.1 d_lw_law_33 (by rw [q10]; decide) (by rw [q10]; decide) (by rw [q10]; rfl) rfl ?_
          exact lc_10 hB X hl hi hL hcs kk
        by_cases q11 : xs i &&& 31 = 11
        · refine lv_tableIn (tgt := 609) X.1.1 X.1.2.1 d_lw_law_33 (by rw [q11]; decide) (by rw [q11]; decide) (by rw [q11]; rfl) rfl ?_
          exact lc_11 hB X hl hi hL hcs kk
        by_cases q12 : xs i &&& 31 = 12
        · refine lv_tableIn (tgt := 632) X.1.1 X.1.2.1 d_lw_law_33 (by rw [q12]; decide) (by rw [q12]; decide) (by rw [q12]; rfl) rfl ?_
          exact lc_12 hB X hl hi hL hcs kk
        by_cases q13 : xs i &&& 31 = 13
        · refine lv_tableIn (tgt := 645) X.1.1 X.1.2.1 d_lw_law_33 (by rw [q13]; decide) (by rw [q13]; decide) (by rw [q13]; rfl) rfl ?_
          exact lc_13 hB X hl hi hL hcs kk
        by_cases q14 : xs i &&& 31 = 14
        · refine lv_tableIn (tgt := 658) X.1.1 X.1.2.1 d_lw_law_33 (by rw [q14]; decide) (by rw [q14]; decide) (by rw [q14]; rfl) rfl ?_
          exact lc_14 hB X hl hi hL hcs kk
        by_cases q15 : xs i &&& 31 = 15
        · refine lv_tableIn (tgt := 671) X.1.1 X.1.2.1 d_lw_law_33 (by rw [q15]; decide) (by rw [q15]; decide) (by rw [q15]; rfl) rfl ?_
          exact lc_15 hB X hl hi hL hcs kk
        by_cases q16 : xs i &&& 31 = 16
        · refine lv_tableIn (tgt := 684) X.1.1 X.1.2.1 d_lw_law_33 (by rw [q16]; decide) (by rw [q16]; decide) (by rw [q16]; rfl) rfl ?_
          exact lc_16 hB X hl hi hL hcs kk
        by_cases q17 : xs i &&& 31 = 17
        · refine lv_tableIn (tgt := 697) X.1.1 X.1.2.1 d_lw_law_33 (by rw [q17]; decide) (by rw [q17]; decide) (by rw [q17]; rfl) rfl ?_
          exact lc_17 hB X hl hi hL hcs kk
        by_cases q18 : xs i &&& 31 = 18
        · refine lv_tableIn (tgt := 720) X.1.1 X.1.2.1 d_lw_law_33 (by rw [q18]; decide) (by rw [q18]; decide) (by rw [q18]; rfl) rfl ?_
          exact lc_18 hB X hl hi hL hcs kk
        by_cases q19 : xs i &&& 31 = 19
        · refine lv_tableIn (tgt := 743) X.1.1 X.1.2.1 d_lw_law_33 (by rw [q19]; decide) (by rw [q19]; decide) (by rw [q19]; rfl) rfl ?_
          exact lc_19 hB X hl hi hL hcs kk
        by_cases q20 : xs i &&& 31 = 20
        · refine lv_tableIn (tgt := 776) X.1.1 X.1.2.1 d_lw_law_33 (by rw [q20]; decide) (by rw [q20]; decide) (by rw [q20]; rfl) rfl ?_
          exact lc_20 hB X hl hi hL hcs kk
        by_cases q21 : xs i &&& 31 = 21
        · refine lv_tableIn (tgt := 799) X.1.1 X.1.2.1 d_lw_law_33 (by rw [q21]; decide) (by rw [q21]; decide) (by rw [q21]; rfl) rfl ?_
          exact lc_21 hB X hl hi hL hcs kk
        by_cases q22 : xs i &&& 31 = 22
        · refine lv_tableIn (tgt := 822) X.1.1 X.1.2.1 d_lw_law_33 (by rw [q22]; decide) (by rw [q22]; decide) (by rw [q22]; rfl) rfl ?_
          exact lc_22 hB X hl hi hL hcs kk
        by_cases q23 : xs i &&& 31 = 23
        · refine lv_tableIn (tgt := 835) X.1.1 X.1.2.1 d_lw_law_33 (by rw [q23]; decide) (by rw [q23]; decide) (by rw [q23]; rfl) rfl ?_
          exact lc_23 hB X hl hi hL hcs kk
        refine lv_tableOut (tgt := 868) X.1.1 X.1.2.1 d_lw_law_33 (by have := lv_neT q0 (show (0 : Int32).toInt = 0 from rfl); have := lv_neT q1 (show (1 : Int32).toInt = 1 from rfl); have := lv_neT q2 (show (2 : Int32).toInt = 2 from rfl); have := lv_neT q3 (show (3 : Int32).toInt = 3 from rfl); have := lv_neT q4 (show (4 : Int32).toInt = 4 from rfl); have := lv_neT q5 (show (5 : Int32).toInt = 5 from rfl); have := lv_neT q6 (show (6 : Int32).toInt = 6 from rfl); have := lv_neT q7 (show (7 : Int32).toInt = 7 from rfl); have := lv_neT q8 (show (8 : Int32).toInt = 8 from rfl); have := lv_neT q9 (show (9 : Int32).toInt = 9 from rfl); have := lv_neT q10 (show (10 : Int32).toInt = 10 from rfl); have := lv_neT q11 (show (11 : Int32).toInt = 11 from rfl); have := lv_neT q12 (show (12 : Int32).toInt = 12 from rfl); have := lv_neT q13 (show (13 : Int32).toInt = 13 from rfl); have := lv_neT q14 (show (14 : Int32).toInt = 14 from rfl); have := lv_neT q15 (show (15 : Int32).toInt = 15 from rfl); have := lv_neT q16 (show (16 : Int32).toInt = 16 from rfl); have := lv_neT q17 (show (17 : Int32).toInt = 17 from rfl); have := lv_neT q18 (show (18 : Int32).toInt = 18 from rfl); have := lv_neT q19 (show (19 : Int32).toInt = 19 from rfl); have := lv_neT q20 (show (20 : Int32).toInt = 20 from rfl); have := lv_neT q21 (show (21 : Int32).toInt = 21 from rfl); have := lv_neT q22 (show (22 : Int32).toInt = 22 from rfl); have := lv_neT q23 (show (23 : Int32).toInt = 23 from rfl); omega) rfl ?_
        exact lc_end hB X hl kk
  exact loop (L + 1) 0 mem0 rin H _ ls (by omega) (by omega) BIG_0 X0 hl
