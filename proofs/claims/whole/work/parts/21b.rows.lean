section AROWS
variable {p : Program} {l : Launch} {e : Env} {R : Room} {s : State} {m : MethodId} {args : Array Value} {below : List Frame} {meth : Method} {c : Code} {H : Heap} {locs : List Loc} {cells slots : Nat} {Q : State → Prop}
variable {cc : ByteArray} {nL pc : Nat} {ls : Array Slot} {rest : List Value} {own : String} {D : va_G} {ad : Nat → Nat} {ci : Nat → ClassId} {σ : SS}
theorem at_4 (ad : Nat → Nat) (ci : Nat → ClassId) (σ : SS) : (cw ad ci σ)[4]? = some (ad 4, .inl (ci 1, 28, .inl (σ.1 4))) := rfl
theorem set_4 (ad : Nat → Nat) (ci : Nat → ClassId) (σ : SS) (j : Nat) (x : Int32) : (cw ad ci σ).set 4 (ad 4, .inl (ci 1, 28, .inl (upd (σ.1 4) j x))) = cw ad ci (sA σ 4 j x) := rfl
theorem al_4 (X : Cx (EC D ad ci) p s m args c cc nL own H locs σ) {i : Int32} (hin : vp_in i 28) (hdg : decode cc pc = .ok (.baload, 1)) (kk : W p l e R s m args below meth c H locs cells slots Q (F0 m (pc + 1) ls (.int (σ.1 4 i.toNatClampNeg) :: rest))) : W p l e R s m args below meth c H locs cells slots Q (F0 m pc ls (.int i :: .ref (ad 4) :: rest)) := X.zald 4 (at_4 ad ci σ) hin hdg kk
theorem as_4 (hI : Inj ad) {i : Int32} {x : Int32} (X : Cx (EC D ad ci) p s m args c cc nL own H locs σ) (hin : vp_in i 28) (hx : vp_nar .boolean x = x) (hdg : decode cc pc = .ok (.bastore, 1)) (kk : ∀ (H1 : Heap) (locs1 : List Loc), Cx (EC D ad ci) p s m args c cc nL own H1 locs1 (sA σ 4 i.toNatClampNeg x) → W p l e R s m args below meth c H1 locs1 cells slots Q (F0 m (pc + 1) ls rest)) : W p l e R s m args below meth c H locs cells slots Q (F0 m pc ls (.int x :: .int i :: .ref (ad 4) :: rest)) := X.zast hI 4 (at_4 ad ci σ) hx (set_4 ad ci σ _ _) hin hdg kk
theorem at_5 (ad : Nat → Nat) (ci : Nat → ClassId) (σ : SS) : (cw ad ci σ)[5]? = some (ad 5, .inl (ci 1, 28, .inl (σ.1 5))) := rfl
theorem set_5 (ad : Nat → Nat) (ci : Nat → ClassId) (σ : SS) (j : Nat) (x : Int32) : (cw ad ci σ).set 5 (ad 5, .inl (ci 1, 28, .inl (upd (σ.1 5) j x))) = cw ad ci (sA σ 5 j x) := rfl
theorem al_5 (X : Cx (EC D ad ci) p s m args c cc nL own H locs σ) {i : Int32} (hin : vp_in i 28) (hdg : decode cc pc = .ok (.baload, 1)) (kk : W p l e R s m args below meth c H locs cells slots Q (F0 m (pc + 1) ls (.int (σ.1 5 i.toNatClampNeg) :: rest))) : W p l e R s m args below meth c H locs cells slots Q (F0 m pc ls (.int i :: .ref (ad 5) :: rest)) := X.zald 5 (at_5 ad ci σ) hin hdg kk
theorem as_5 (hI : Inj ad) {i : Int32} {x : Int32} (X : Cx (EC D ad ci) p s m args c cc nL own H locs σ) (hin : vp_in i 28) (hx : vp_nar .boolean x = x) (hdg : decode cc pc = .ok (.bastore, 1)) (kk : ∀ (H1 : Heap) (locs1 : List Loc), Cx (EC D ad ci) p s m args c cc nL own H1 locs1 (sA σ 5 i.toNatClampNeg x) → W p l e R s m args below meth c H1 locs1 cells slots Q (F0 m (pc + 1) ls rest)) : W p l e R s m args below meth c H locs cells slots Q (F0 m pc ls (.int x :: .int i :: .ref (ad 5) :: rest)) := X.zast hI 5 (at_5 ad ci σ) hx (set_5 ad ci σ _ _) hin hdg kk
theorem at_6 (ad : Nat → Nat) (ci : Nat → ClassId) (σ : SS) : (cw ad ci σ)[6]? = some (ad 6, .inl (ci 1, 28, .inl (σ.1 6))) := rfl
theorem set_6 (ad : Nat → Nat) (ci : Nat → ClassId) (σ : SS) (j : Nat) (x : Int32) : (cw ad ci σ).set 6 (ad 6, .inl (ci 1, 28, .inl (upd (σ.1 6) j x))) = cw ad ci (sA σ 6 j x) := rfl
theorem al_6 (X : Cx (EC D ad ci) p s m args c cc nL own H locs σ) {i : Int32} (hin : vp_in i 28) (hdg : decode cc pc = .ok (.baload, 1)) (kk : W p l e R s m args below meth c H locs cells slots Q (F0 m (pc + 1) ls (.int (σ.1 6 i.toNatClampNeg) :: rest))) : W p l e R s m args below meth c H locs cells slots Q (F0 m pc ls (.int i :: .ref (ad 6) :: rest)) := X.zald 6 (at_6 ad ci σ) hin hdg kk
theorem as_6 (hI : Inj ad) {i : Int32} {x : Int32} (X : Cx (EC D ad ci) p s m args c cc nL own H locs σ) (hin : vp_in i 28) (hx : vp_nar .boolean x = x) (hdg : decode cc pc = .ok (.bastore, 1)) (kk : ∀ (H1 : Heap) (locs1 : List Loc), Cx (EC D ad ci) p s m args c cc nL own H1 locs1 (sA σ 6 i.toNatClampNeg x) → W p l e R s m args below meth c H1 locs1 cells slots Q (F0 m (pc + 1) ls rest)) : W p l e R s m args below meth c H locs cells slots Q (F0 m pc ls (.int x :: .int i :: .ref (ad 6) :: rest)) := X.zast hI 6 (at_6 ad ci σ) hx (set_6 ad ci σ _ _) hin hdg kk
theorem at_7 (ad : Nat → Nat) (ci : Nat → ClassId) (σ : SS) : (cw ad ci σ)[7]? = some (ad 7, .inl (ci 0, 28, .inl (σ.1 7))) := rfl
theorem set_7 (ad : Nat → Nat) (ci : Nat → ClassId) (σ : SS) (j : Nat) (x : Int32) : (cw ad ci σ).set 7 (ad 7, .inl (ci 0, 28, .inl (upd (σ.1 7) j x))) = cw ad ci (sA σ 7 j x) := rfl
theorem al_7 (X : Cx (EC D ad ci) p s m args c cc nL own H locs σ) {i : Int32} (hin : vp_in i 28) (hdg : decode cc pc = .ok (.iaload, 1)) (kk : W p l e R s m args below meth c H locs cells slots Q (F0 m (pc + 1) ls (.int (σ.1 7 i.toNatClampNeg) :: rest))) : W p l e R s m args below meth c H locs cells slots Q (F0 m pc ls (.int i :: .ref (ad 7) :: rest)) := X.iald 7 (at_7 ad ci σ) hin hdg kk
theorem as_7 (hI : Inj ad) {i : Int32} {x : Int32} (X : Cx (EC D ad ci) p s m args c cc nL own H locs σ) (hin : vp_in i 28) (hdg : decode cc pc = .ok (.iastore, 1)) (kk : ∀ (H1 : Heap) (locs1 : List Loc), Cx (EC D ad ci) p s m args c cc nL own H1 locs1 (sA σ 7 i.toNatClampNeg x) → W p l e R s m args below meth c H1 locs1 cells slots Q (F0 m (pc + 1) ls rest)) : W p l e R s m args below meth c H locs cells slots Q (F0 m pc ls (.int x :: .int i :: .ref (ad 7) :: rest)) := X.iast hI 7 (at_7 ad ci σ) (set_7 ad ci σ _ _) hin hdg kk
theorem at_8 (ad : Nat → Nat) (ci : Nat → ClassId) (σ : SS) : (cw ad ci σ)[8]? = some (ad 8, .inl (ci 0, 28, .inl (σ.1 8))) := rfl
theorem set_8 (ad : Nat → Nat) (ci : Nat → ClassId) (σ : SS) (j : Nat) (x : Int32) : (cw ad ci σ).set 8 (ad 8, .inl (ci 0, 28, .inl (upd (σ.1 8) j x))) = cw ad ci (sA σ 8 j x) := rfl
theorem al_8 (X : Cx (EC D ad ci) p s m args c cc nL own H locs σ) {i : Int32} (hin : vp_in i 28) (hdg : decode cc pc = .ok (.iaload, 1)) (kk : W p l e R s m args below meth c H locs cells slots Q (F0 m (pc + 1) ls (.int (σ.1 8 i.toNatClampNeg) :: rest))) : W p l e R s m args below meth c H locs cells slots Q (F0 m pc ls (.int i :: .ref (ad 8) :: rest)) := X.iald 8 (at_8 ad ci σ) hin hdg kk
theorem as_8 (hI : Inj ad) {i : Int32} {x : Int32} (X : Cx (EC D ad ci) p s m args c cc nL own H locs σ) (hin : vp_in i 28) (hdg : decode cc pc = .ok (.iastore, 1)) (kk : ∀ (H1 : Heap) (locs1 : List Loc), Cx (EC D ad ci) p s m args c cc nL own H1 locs1 (sA σ 8 i.toNatClampNeg x) → W p l e R s m args below meth c H1 locs1 cells slots Q (F0 m (pc + 1) ls rest)) : W p l e R s m args below meth c H locs cells slots Q (F0 m pc ls (.int x :: .int i :: .ref (ad 8) :: rest)) := X.iast hI 8 (at_8 ad ci σ) (set_8 ad ci σ _ _) hin hdg kk
theorem at_9 (ad : Nat → Nat) (ci : Nat → ClassId) (σ : SS) : (cw ad ci σ)[9]? = some (ad 9, .inl (ci 0, 28, .inl (σ.1 9))) := rfl
theorem set_9 (ad : Nat → Nat) (ci : Nat → ClassId) (σ : SS) (j : Nat) (x : Int32) : (cw ad ci σ).set 9 (ad 9, .inl (ci 0, 28, .inl (upd (σ.1 9) j x))) = cw ad ci (sA σ 9 j x) := rfl
theorem al_9 (X : Cx (EC D ad ci) p s m args c cc nL own H locs σ) {i : Int32} (hin : vp_in i 28) (hdg : decode cc pc = .ok (.iaload, 1)) (kk : W p l e R s m args below meth c H locs cells slots Q (F0 m (pc + 1) ls (.int (σ.1 9 i.toNatClampNeg) :: rest))) : W p l e R s m args below meth c H locs cells slots Q (F0 m pc ls (.int i :: .ref (ad 9) :: rest)) := X.iald 9 (at_9 ad ci σ) hin hdg kk
theorem as_9 (hI : Inj ad) {i : Int32} {x : Int32} (X : Cx (EC D ad ci) p s m args c cc nL own H locs σ) (hin : vp_in i 28) (hdg : decode cc pc = .ok (.iastore, 1)) (kk : ∀ (H1 : Heap) (locs1 : List Loc), Cx (EC D ad ci) p s m args c cc nL own H1 locs1 (sA σ 9 i.toNatClampNeg x) → W p l e R s m args below meth c H1 locs1 cells slots Q (F0 m (pc + 1) ls rest)) : W p l e R s m args below meth c H locs cells slots Q (F0 m pc ls (.int x :: .int i :: .ref (ad 9) :: rest)) := X.iast hI 9 (at_9 ad ci σ) (set_9 ad ci σ _ _) hin hdg kk
theorem at_10 (ad : Nat → Nat) (ci : Nat → ClassId) (σ : SS) : (cw ad ci σ)[10]? = some (ad 10, .inl (ci 0, 28, .inl (σ.1 10))) := rfl
theorem set_10 (ad : Nat → Nat) (ci : Nat → ClassId) (σ : SS) (j : Nat) (x : Int32) : (cw ad ci σ).set 10 (ad 10, .inl (ci 0, 28, .inl (upd (σ.1 10) j x))) = cw ad ci (sA σ 10 j x) := rfl
theorem al_10 (X : Cx (EC D ad ci) p s m args c cc nL own H locs σ) {i : Int32} (hin : vp_in i 28) (hdg : decode cc pc = .ok (.iaload, 1)) (kk : W p l e R s m args below meth c H locs cells slots Q (F0 m (pc + 1) ls (.int (σ.1 10 i.toNatClampNeg) :: rest))) : W p l e R s m args below meth c H locs cells slots Q (F0 m pc ls (.int i :: .ref (ad 10) :: rest)) := X.iald 10 (at_10 ad ci σ) hin hdg kk
theorem as_10 (hI : Inj ad) {i : Int32} {x : Int32} (X : Cx (EC D ad ci) p s m args c cc nL own H locs σ) (hin : vp_in i 28) (hdg : decode cc pc = .ok (.iastore, 1)) (kk : ∀ (H1 : Heap) (locs1 : List Loc), Cx (EC D ad ci) p s m args c cc nL own H1 locs1 (sA σ 10 i.toNatClampNeg x) → W p l e R s m args below meth c H1 locs1 cells slots Q (F0 m (pc + 1) ls rest)) : W p l e R s m args below meth c H locs cells slots Q (F0 m pc ls (.int x :: .int i :: .ref (ad 10) :: rest)) := X.iast hI 10 (at_10 ad ci σ) (set_10 ad ci σ _ _) hin hdg kk
theorem at_11 (ad : Nat → Nat) (ci : Nat → ClassId) (σ : SS) : (cw ad ci σ)[11]? = some (ad 11, .inl (ci 0, 28, .inl (σ.1 11))) := rfl
theorem set_11 (ad : Nat → Nat) (ci : Nat → ClassId) (σ : SS) (j : Nat) (x : Int32) : (cw ad ci σ).set 11 (ad 11, .inl (ci 0, 28, .inl (upd (σ.1 11) j x))) = cw ad ci (sA σ 11 j x) := rfl
theorem al_11 (X : Cx (EC D ad ci) p s m args c cc nL own H locs σ) {i : Int32} (hin : vp_in i 28) (hdg : decode cc pc = .ok (.iaload, 1)) (kk : W p l e R s m args below meth c H locs cells slots Q (F0 m (pc + 1) ls (.int (σ.1 11 i.toNatClampNeg) :: rest))) : W p l e R s m args below meth c H locs cells slots Q (F0 m pc ls (.int i :: .ref (ad 11) :: rest)) := X.iald 11 (at_11 ad ci σ) hin hdg kk
theorem as_11 (hI : Inj ad) {i : Int32} {x : Int32} (X : Cx (EC D ad ci) p s m args c cc nL own H locs σ) (hin : vp_in i 28) (hdg : decode cc pc = .ok (.iastore, 1)) (kk : ∀ (H1 : Heap) (locs1 : List Loc), Cx (EC D ad ci) p s m args c cc nL own H1 locs1 (sA σ 11 i.toNatClampNeg x) → W p l e R s m args below meth c H1 locs1 cells slots Q (F0 m (pc + 1) ls rest)) : W p l e R s m args below meth c H locs cells slots Q (F0 m pc ls (.int x :: .int i :: .ref (ad 11) :: rest)) := X.iast hI 11 (at_11 ad ci σ) (set_11 ad ci σ _ _) hin hdg kk
theorem at_13 (ad : Nat → Nat) (ci : Nat → ClassId) (σ : SS) : (cw ad ci σ)[13]? = some (ad 13, .inl (ci 0, 7, .inl (σ.1 13))) := rfl
theorem set_13 (ad : Nat → Nat) (ci : Nat → ClassId) (σ : SS) (j : Nat) (x : Int32) : (cw ad ci σ).set 13 (ad 13, .inl (ci 0, 7, .inl (upd (σ.1 13) j x))) = cw ad ci (sA σ 13 j x) := rfl
theorem al_13 (X : Cx (EC D ad ci) p s m args c cc nL own H locs σ) {i : Int32} (hin : vp_in i 7) (hdg : decode cc pc = .ok (.iaload, 1)) (kk : W p l e R s m args below meth c H locs cells slots Q (F0 m (pc + 1) ls (.int (σ.1 13 i.toNatClampNeg) :: rest))) : W p l e R s m args below meth c H locs cells slots Q (F0 m pc ls (.int i :: .ref (ad 13) :: rest)) := X.iald 13 (at_13 ad ci σ) hin hdg kk
theorem as_13 (hI : Inj ad) {i : Int32} {x : Int32} (X : Cx (EC D ad ci) p s m args c cc nL own H locs σ) (hin : vp_in i 7) (hdg : decode cc pc = .ok (.iastore, 1)) (kk : ∀ (H1 : Heap) (locs1 : List Loc), Cx (EC D ad ci) p s m args c cc nL own H1 locs1 (sA σ 13 i.toNatClampNeg x) → W p l e R s m args below meth c H1 locs1 cells slots Q (F0 m (pc + 1) ls rest)) : W p l e R s m args below meth c H locs cells slots Q (F0 m pc ls (.int x :: .int i :: .ref (ad 13) :: rest)) := X.iast hI 13 (at_13 ad ci σ) (set_13 ad ci σ _ _) hin hdg kk
theorem at_14 (ad : Nat → Nat) (ci : Nat → ClassId) (σ : SS) : (cw ad ci σ)[14]? = some (ad 14, .inl (ci 1, 28, .inl (σ.1 14))) := rfl
theorem set_14 (ad : Nat → Nat) (ci : Nat → ClassId) (σ : SS) (j : Nat) (x : Int32) : (cw ad ci σ).set 14 (ad 14, .inl (ci 1, 28, .inl (upd (σ.1 14) j x))) = cw ad ci (sA σ 14 j x) := rfl
theorem al_14 (X : Cx (EC D ad ci) p s m args c cc nL own H locs σ) {i : Int32} (hin : vp_in i 28) (hdg : decode cc pc = .ok (.baload, 1)) (kk : W p l e R s m args below meth c H locs cells slots Q (F0 m (pc + 1) ls (.int (σ.1 14 i.toNatClampNeg) :: rest))) : W p l e R s m args below meth c H locs cells slots Q (F0 m pc ls (.int i :: .ref (ad 14) :: rest)) := X.zald 14 (at_14 ad ci σ) hin hdg kk
theorem as_14 (hI : Inj ad) {i : Int32} {x : Int32} (X : Cx (EC D ad ci) p s m args c cc nL own H locs σ) (hin : vp_in i 28) (hx : vp_nar .boolean x = x) (hdg : decode cc pc = .ok (.bastore, 1)) (kk : ∀ (H1 : Heap) (locs1 : List Loc), Cx (EC D ad ci) p s m args c cc nL own H1 locs1 (sA σ 14 i.toNatClampNeg x) → W p l e R s m args below meth c H1 locs1 cells slots Q (F0 m (pc + 1) ls rest)) : W p l e R s m args below meth c H locs cells slots Q (F0 m pc ls (.int x :: .int i :: .ref (ad 14) :: rest)) := X.zast hI 14 (at_14 ad ci σ) hx (set_14 ad ci σ _ _) hin hdg kk
theorem at_15 (ad : Nat → Nat) (ci : Nat → ClassId) (σ : SS) : (cw ad ci σ)[15]? = some (ad 15, .inl (ci 0, 28, .inl (σ.1 15))) := rfl
theorem set_15 (ad : Nat → Nat) (ci : Nat → ClassId) (σ : SS) (j : Nat) (x : Int32) : (cw ad ci σ).set 15 (ad 15, .inl (ci 0, 28, .inl (upd (σ.1 15) j x))) = cw ad ci (sA σ 15 j x) := rfl
theorem al_15 (X : Cx (EC D ad ci) p s m args c cc nL own H locs σ) {i : Int32} (hin : vp_in i 28) (hdg : decode cc pc = .ok (.iaload, 1)) (kk : W p l e R s m args below meth c H locs cells slots Q (F0 m (pc + 1) ls (.int (σ.1 15 i.toNatClampNeg) :: rest))) : W p l e R s m args below meth c H locs cells slots Q (F0 m pc ls (.int i :: .ref (ad 15) :: rest)) := X.iald 15 (at_15 ad ci σ) hin hdg kk
theorem as_15 (hI : Inj ad) {i : Int32} {x : Int32} (X : Cx (EC D ad ci) p s m args c cc nL own H locs σ) (hin : vp_in i 28) (hdg : decode cc pc = .ok (.iastore, 1)) (kk : ∀ (H1 : Heap) (locs1 : List Loc), Cx (EC D ad ci) p s m args c cc nL own H1 locs1 (sA σ 15 i.toNatClampNeg x) → W p l e R s m args below meth c H1 locs1 cells slots Q (F0 m (pc + 1) ls rest)) : W p l e R s m args below meth c H locs cells slots Q (F0 m pc ls (.int x :: .int i :: .ref (ad 15) :: rest)) := X.iast hI 15 (at_15 ad ci σ) (set_15 ad ci σ _ _) hin hdg kk
theorem at_16 (ad : Nat → Nat) (ci : Nat → ClassId) (σ : SS) : (cw ad ci σ)[16]? = some (ad 16, .inl (ci 1, 224, .inl (σ.1 16))) := rfl
theorem set_16 (ad : Nat → Nat) (ci : Nat → ClassId) (σ : SS) (j : Nat) (x : Int32) : (cw ad ci σ).set 16 (ad 16, .inl (ci 1, 224, .inl (upd (σ.1 16) j x))) = cw ad ci (sA σ 16 j x) := rfl
theorem al_16 (X : Cx (EC D ad ci) p s m args c cc nL own H locs σ) {i : Int32} (hin : vp_in i 224) (hdg : decode cc pc = .ok (.baload, 1)) (kk : W p l e R s m args below meth c H locs cells slots Q (F0 m (pc + 1) ls (.int (σ.1 16 i.toNatClampNeg) :: rest))) : W p l e R s m args below meth c H locs cells slots Q (F0 m pc ls (.int i :: .ref (ad 16) :: rest)) := X.zald 16 (at_16 ad ci σ) hin hdg kk
theorem as_16 (hI : Inj ad) {i : Int32} {x : Int32} (X : Cx (EC D ad ci) p s m args c cc nL own H locs σ) (hin : vp_in i 224) (hx : vp_nar .boolean x = x) (hdg : decode cc pc = .ok (.bastore, 1)) (kk : ∀ (H1 : Heap) (locs1 : List Loc), Cx (EC D ad ci) p s m args c cc nL own H1 locs1 (sA σ 16 i.toNatClampNeg x) → W p l e R s m args below meth c H1 locs1 cells slots Q (F0 m (pc + 1) ls rest)) : W p l e R s m args below meth c H locs cells slots Q (F0 m pc ls (.int x :: .int i :: .ref (ad 16) :: rest)) := X.zast hI 16 (at_16 ad ci σ) hx (set_16 ad ci σ _ _) hin hdg kk
theorem at_17 (ad : Nat → Nat) (ci : Nat → ClassId) (σ : SS) : (cw ad ci σ)[17]? = some (ad 17, .inl (ci 2, 224, .inr (.inl (σ.2.2 17)))) := rfl
theorem set_17 (ad : Nat → Nat) (ci : Nat → ClassId) (σ : SS) (j : Nat) (x : Int64) : (cw ad ci σ).set 17 (ad 17, .inl (ci 2, 224, .inr (.inl (vp_updL (σ.2.2 17) j x)))) = cw ad ci (sL σ 17 j x) := rfl
theorem al_17 (X : Cx (EC D ad ci) p s m args c cc nL own H locs σ) {i : Int32} (hin : vp_in i 224) (hdg : decode cc pc = .ok (.laload, 1)) (kk : W p l e R s m args below meth c H locs cells slots Q (F0 m (pc + 1) ls (.long (σ.2.2 17 i.toNatClampNeg) :: rest))) : W p l e R s m args below meth c H locs cells slots Q (F0 m pc ls (.int i :: .ref (ad 17) :: rest)) := X.lald 17 (at_17 ad ci σ) hin hdg kk
theorem as_17 (hI : Inj ad) {i : Int32} {x : Int64} (X : Cx (EC D ad ci) p s m args c cc nL own H locs σ) (hin : vp_in i 224) (hdg : decode cc pc = .ok (.lastore, 1)) (kk : ∀ (H1 : Heap) (locs1 : List Loc), Cx (EC D ad ci) p s m args c cc nL own H1 locs1 (sL σ 17 i.toNatClampNeg x) → W p l e R s m args below meth c H1 locs1 cells slots Q (F0 m (pc + 1) ls rest)) : W p l e R s m args below meth c H locs cells slots Q (F0 m pc ls (.long x :: .int i :: .ref (ad 17) :: rest)) := X.last hI 17 (at_17 ad ci σ) (set_17 ad ci σ _ _) hin hdg kk
theorem at_18 (ad : Nat → Nat) (ci : Nat → ClassId) (σ : SS) : (cw ad ci σ)[18]? = some (ad 18, .inl (ci 2, 224, .inr (.inl (σ.2.2 18)))) := rfl
theorem set_18 (ad : Nat → Nat) (ci : Nat → ClassId) (σ : SS) (j : Nat) (x : Int64) : (cw ad ci σ).set 18 (ad 18, .inl (ci 2, 224, .inr (.inl (vp_updL (σ.2.2 18) j x)))) = cw ad ci (sL σ 18 j x) := rfl
theorem al_18 (X : Cx (EC D ad ci) p s m args c cc nL own H locs σ) {i : Int32} (hin : vp_in i 224) (hdg : decode cc pc = .ok (.laload, 1)) (kk : W p l e R s m args below meth c H locs cells slots Q (F0 m (pc + 1) ls (.long (σ.2.2 18 i.toNatClampNeg) :: rest))) : W p l e R s m args below meth c H locs cells slots Q (F0 m pc ls (.int i :: .ref (ad 18) :: rest)) := X.lald 18 (at_18 ad ci σ) hin hdg kk
theorem as_18 (hI : Inj ad) {i : Int32} {x : Int64} (X : Cx (EC D ad ci) p s m args c cc nL own H locs σ) (hin : vp_in i 224) (hdg : decode cc pc = .ok (.lastore, 1)) (kk : ∀ (H1 : Heap) (locs1 : List Loc), Cx (EC D ad ci) p s m args c cc nL own H1 locs1 (sL σ 18 i.toNatClampNeg x) → W p l e R s m args below meth c H1 locs1 cells slots Q (F0 m (pc + 1) ls rest)) : W p l e R s m args below meth c H locs cells slots Q (F0 m pc ls (.long x :: .int i :: .ref (ad 18) :: rest)) := X.last hI 18 (at_18 ad ci σ) (set_18 ad ci σ _ _) hin hdg kk
end AROWS
theorem pn_mm : plainName "MessageMachine" = true := by decide +kernel
theorem ok_mm_init : NmOk y_mm_init 0 := by decide +kernel
theorem ok_mm_define : NmOk y_mm_define 3 := by decide +kernel
theorem ok_mm_method : NmOk y_mm_method 4 := by decide +kernel
theorem ok_mm_make : NmOk y_mm_make 2 := by decide +kernel
theorem ok_mm_number : NmOk y_mm_number 2 := by decide +kernel
theorem ok_mm_move : NmOk y_mm_move 2 := by decide +kernel
theorem ok_mm_drop : NmOk y_mm_drop 1 := by decide +kernel
theorem ok_mm_fetch : NmOk y_mm_fetch 3 := by decide +kernel
theorem ok_mm_kind : NmOk y_mm_kind 2 := by decide +kernel
theorem ok_mm_store : NmOk y_mm_store 3 := by decide +kernel
theorem ok_mm_inherit : NmOk y_mm_inherit 2 := by decide +kernel
theorem ok_mm_send : NmOk y_mm_send 2 := by decide +kernel
theorem ok_mm_run : NmOk y_mm_run 1 := by decide +kernel
theorem ok_mm_abort : NmOk y_mm_abort 0 := by decide +kernel
theorem ok_mm_sweep : NmOk y_mm_sweep 0 := by decide +kernel
theorem ok_mm_state : NmOk y_mm_state 0 := by decide +kernel
theorem ok_mm_reason : NmOk y_mm_reason 0 := by decide +kernel
theorem ok_mm_active : NmOk y_mm_active 0 := by decide +kernel
theorem ok_mm_stack : NmOk y_mm_stack 1 := by decide +kernel
theorem ok_mm_handle : NmOk y_mm_handle 1 := by decide +kernel
theorem ok_mm_field : NmOk y_mm_field 2 := by decide +kernel
theorem ok_mm_classOf : NmOk y_mm_classOf 1 := by decide +kernel
theorem ok_mm_count : NmOk y_mm_count 1 := by decide +kernel
theorem ok_mm_alive : NmOk y_mm_alive 0 := by decide +kernel
theorem ok_mm_lookup : NmOk y_mm_lookup 2 := by decide +kernel
theorem ok_mm_giveHandle : NmOk y_mm_giveHandle 2 := by decide +kernel
theorem ok_mm_holdsClass : NmOk y_mm_holdsClass 1 := by decide +kernel
theorem ok_mm_isHandle : NmOk y_mm_isHandle 1 := by decide +kernel
theorem ok_mm_isSelector : NmOk y_mm_isSelector 1 := by decide +kernel
theorem ok_mm_argumentsOf : NmOk y_mm_argumentsOf 1 := by decide +kernel
theorem ok_mm_isObject : NmOk y_mm_isObject 1 := by decide +kernel
theorem pn_rf : plainName "MessageMachineModel" = true := by decide +kernel
theorem ok_rf_init : NmOk y_rf_init 0 := by decide +kernel
theorem ok_rf_isNumber : NmOk y_rf_isNumber 1 := by decide +kernel
theorem ok_rf_isClass : NmOk y_rf_isClass 1 := by decide +kernel
theorem ok_rf_isContext : NmOk y_rf_isContext 1 := by decide +kernel
theorem ok_rf_classOfWord : NmOk y_rf_classOfWord 1 := by decide +kernel
theorem ok_rf_noHandle : NmOk y_rf_noHandle 1 := by decide +kernel
theorem ok_rf_noSelector : NmOk y_rf_noSelector 1 := by decide +kernel
theorem ok_rf_noObject : NmOk y_rf_noObject 1 := by decide +kernel
theorem ok_rf_hasField : NmOk y_rf_hasField 2 := by decide +kernel
theorem ok_rf_found : NmOk y_rf_found 2 := by decide +kernel
theorem ok_rf_tally : NmOk y_rf_tally 0 := by decide +kernel
theorem ok_rf_settle : NmOk y_rf_settle 0 := by decide +kernel
theorem ok_rf_room : NmOk y_rf_room 0 := by decide +kernel
theorem ok_rf_make1 : NmOk y_rf_make1 4 := by decide +kernel
theorem ok_rf_define : NmOk y_rf_define 3 := by decide +kernel
theorem ok_rf_method : NmOk y_rf_method 4 := by decide +kernel
theorem ok_rf_make : NmOk y_rf_make 2 := by decide +kernel
theorem ok_rf_put : NmOk y_rf_put 2 := by decide +kernel
theorem ok_rf_number : NmOk y_rf_number 2 := by decide +kernel
theorem ok_rf_move : NmOk y_rf_move 2 := by decide +kernel
theorem ok_rf_drop : NmOk y_rf_drop 1 := by decide +kernel
theorem ok_rf_fetch : NmOk y_rf_fetch 3 := by decide +kernel
theorem ok_rf_kind : NmOk y_rf_kind 2 := by decide +kernel
theorem ok_rf_store : NmOk y_rf_store 3 := by decide +kernel
theorem ok_rf_inherit : NmOk y_rf_inherit 2 := by decide +kernel
theorem ok_rf_context : NmOk y_rf_context 5 := by decide +kernel
theorem ok_rf_send : NmOk y_rf_send 2 := by decide +kernel
theorem ok_rf_at : NmOk y_rf_at 1 := by decide +kernel
theorem ok_rf_fromTop : NmOk y_rf_fromTop 1 := by decide +kernel
theorem ok_rf_push : NmOk y_rf_push 1 := by decide +kernel
theorem ok_rf_pop : NmOk y_rf_pop 0 := by decide +kernel
theorem ok_rf_jump : NmOk y_rf_jump 1 := by decide +kernel
theorem ok_rf_needs : NmOk y_rf_needs 2 := by decide +kernel
theorem ok_rf_grows : NmOk y_rf_grows 2 := by decide +kernel
theorem ok_rf_superclassOf : NmOk y_rf_superclassOf 1 := by decide +kernel
theorem ok_rf_beginning : NmOk y_rf_beginning 2 := by decide +kernel
theorem ok_rf_arithmetic : NmOk y_rf_arithmetic 3 := by decide +kernel
theorem ok_rf_workFails : NmOk y_rf_workFails 1 := by decide +kernel
theorem ok_rf_fails : NmOk y_rf_fails 3 := by decide +kernel
theorem ok_rf_constant : NmOk y_rf_constant 1 := by decide +kernel
theorem ok_rf_work : NmOk y_rf_work 1 := by decide +kernel
theorem ok_rf_sends : NmOk y_rf_sends 2 := by decide +kernel
theorem ok_rf_returns : NmOk y_rf_returns 1 := by decide +kernel
theorem ok_rf_create : NmOk y_rf_create 0 := by decide +kernel
theorem ok_rf_into : NmOk y_rf_into 1 := by decide +kernel
theorem ok_rf_perform : NmOk y_rf_perform 3 := by decide +kernel
theorem ok_rf_step : NmOk y_rf_step 0 := by decide +kernel
theorem ok_rf_run : NmOk y_rf_run 1 := by decide +kernel
theorem ok_rf_abort : NmOk y_rf_abort 0 := by decide +kernel
theorem ok_rf_reach : NmOk y_rf_reach 1 := by decide +kernel
theorem ok_rf_sweep : NmOk y_rf_sweep 0 := by decide +kernel
theorem ok_rf_state : NmOk y_rf_state 0 := by decide +kernel
theorem ok_rf_reason : NmOk y_rf_reason 0 := by decide +kernel
theorem ok_rf_active : NmOk y_rf_active 0 := by decide +kernel
theorem ok_rf_stack : NmOk y_rf_stack 1 := by decide +kernel
theorem ok_rf_handle : NmOk y_rf_handle 1 := by decide +kernel
theorem ok_rf_field : NmOk y_rf_field 2 := by decide +kernel
theorem ok_rf_classOf : NmOk y_rf_classOf 1 := by decide +kernel
theorem ok_rf_count : NmOk y_rf_count 1 := by decide +kernel
theorem ok_rf_alive : NmOk y_rf_alive 0 := by decide +kernel
theorem ok_rf_lookup : NmOk y_rf_lookup 2 := by decide +kernel
theorem pn_me : plainName "MessageMachine$Memory" = true := by decide +kernel
theorem ok_me_init : NmOk y_me_init 0 := by decide +kernel
theorem ok_me_newClass : NmOk y_me_newClass 2 := by decide +kernel
theorem ok_me_newInstance : NmOk y_me_newInstance 1 := by decide +kernel
theorem ok_me_newContext : NmOk y_me_newContext 3 := by decide +kernel
theorem ok_me_isAlive : NmOk y_me_isAlive 1 := by decide +kernel
theorem ok_me_isClass : NmOk y_me_isClass 1 := by decide +kernel
theorem ok_me_isClassOrNil : NmOk y_me_isClassOrNil 1 := by decide +kernel
theorem ok_me_isContext : NmOk y_me_isContext 1 := by decide +kernel
theorem ok_me_hasField : NmOk y_me_hasField 2 := by decide +kernel
theorem ok_me_hasFreeField : NmOk y_me_hasFreeField 2 := by decide +kernel
theorem ok_me_classOfWord : NmOk y_me_classOfWord 1 := by decide +kernel
theorem ok_me_fieldOf : NmOk y_me_fieldOf 2 := by decide +kernel
theorem ok_me_setField : NmOk y_me_setField 3 := by decide +kernel
theorem ok_me_register : NmOk y_me_register 1 := by decide +kernel
theorem ok_me_setRegister : NmOk y_me_setRegister 2 := by decide +kernel
theorem ok_me_isAmongSuperclasses : NmOk y_me_isAmongSuperclasses 2 := by decide +kernel
theorem ok_me_depthOf : NmOk y_me_depthOf 1 := by decide +kernel
theorem ok_me_topBut : NmOk y_me_topBut 2 := by decide +kernel
theorem ok_me_push : NmOk y_me_push 2 := by decide +kernel
theorem ok_me_popDownTo : NmOk y_me_popDownTo 2 := by decide +kernel
theorem ok_me_pop : NmOk y_me_pop 1 := by decide +kernel
theorem ok_me_countOf : NmOk y_me_countOf 1 := by decide +kernel
theorem ok_me_howManyAlive : NmOk y_me_howManyAlive 0 := by decide +kernel
theorem ok_me_settle : NmOk y_me_settle 0 := by decide +kernel
theorem ok_me_giveBackUnreached : NmOk y_me_giveBackUnreached 0 := by decide +kernel
theorem ok_me_leastFree : NmOk y_me_leastFree 0 := by decide +kernel
theorem ok_me_wakeClass : NmOk y_me_wakeClass 3 := by decide +kernel
theorem ok_me_wake : NmOk y_me_wake 3 := by decide +kernel
theorem ok_me_giveBack : NmOk y_me_giveBack 1 := by decide +kernel
theorem ok_me_giveBackUnheld : NmOk y_me_giveBackUnheld 0 := by decide +kernel
theorem ok_me_stick : NmOk y_me_stick 0 := by decide +kernel
theorem ok_me_hold : NmOk y_me_hold 1 := by decide +kernel
theorem ok_me_release : NmOk y_me_release 1 := by decide +kernel
theorem ok_me_markReached : NmOk y_me_markReached 0 := by decide +kernel
theorem ok_me_reachFrom : NmOk y_me_reachFrom 1 := by decide +kernel
theorem ok_me_reach : NmOk y_me_reach 1 := by decide +kernel
theorem pn_mt : plainName "MessageMachine$Methods" = true := by decide +kernel
theorem ok_mt_init : NmOk y_mt_init 0 := by decide +kernel
theorem ok_mt_keep : NmOk y_mt_keep 4 := by decide +kernel
theorem ok_mt_forget : NmOk y_mt_forget 1 := by decide +kernel
theorem ok_mt_has : NmOk y_mt_has 2 := by decide +kernel
theorem ok_mt_byteAt : NmOk y_mt_byteAt 3 := by decide +kernel
theorem ok_mt_slotOf : NmOk y_mt_slotOf 2 := by decide +kernel
theorem pn_pr : plainName "MessageMachine$Processor" = true := by decide +kernel
theorem ok_pr_init : NmOk y_pr_init 2 := by decide +kernel
theorem ok_pr_condition : NmOk y_pr_condition 0 := by decide +kernel
theorem ok_pr_whyHalted : NmOk y_pr_whyHalted 0 := by decide +kernel
theorem ok_pr_stop : NmOk y_pr_stop 0 := by decide +kernel
theorem ok_pr_find : NmOk y_pr_find 2 := by decide +kernel
theorem ok_pr_start : NmOk y_pr_start 2 := by decide +kernel
theorem ok_pr_doByte : NmOk y_pr_doByte 0 := by decide +kernel
theorem ok_pr_halt : NmOk y_pr_halt 1 := by decide +kernel
theorem ok_pr_codeAt : NmOk y_pr_codeAt 2 := by decide +kernel
theorem ok_pr_stackSuits : NmOk y_pr_stackSuits 3 := by decide +kernel
theorem ok_pr_perform : NmOk y_pr_perform 3 := by decide +kernel
theorem ok_pr_wordsUsed : NmOk y_pr_wordsUsed 2 := by decide +kernel
theorem ok_pr_onlyPushes : NmOk y_pr_onlyPushes 2 := by decide +kernel
theorem ok_pr_pushTemporary : NmOk y_pr_pushTemporary 2 := by decide +kernel
theorem ok_pr_pushField : NmOk y_pr_pushField 2 := by decide +kernel
theorem ok_pr_otherWord : NmOk y_pr_otherWord 2 := by decide +kernel
theorem ok_pr_popTemporary : NmOk y_pr_popTemporary 2 := by decide +kernel
theorem ok_pr_popField : NmOk y_pr_popField 2 := by decide +kernel
theorem ok_pr_sendOn : NmOk y_pr_sendOn 3 := by decide +kernel
theorem ok_pr_calculate : NmOk y_pr_calculate 2 := by decide +kernel
theorem ok_pr_resultOf : NmOk y_pr_resultOf 3 := by decide +kernel
theorem ok_pr_numberWord : NmOk y_pr_numberWord 1 := by decide +kernel
theorem ok_pr_truth : NmOk y_pr_truth 1 := by decide +kernel
theorem ok_pr_forward : NmOk y_pr_forward 2 := by decide +kernel
theorem ok_pr_forwardIfNil : NmOk y_pr_forwardIfNil 2 := by decide +kernel
theorem ok_pr_back : NmOk y_pr_back 2 := by decide +kernel
theorem ok_pr_giveAnswer : NmOk y_pr_giveAnswer 2 := by decide +kernel
theorem ok_pr_instance : NmOk y_pr_instance 2 := by decide +kernel
theorem ok_pr_doubleOrPop : NmOk y_pr_doubleOrPop 2 := by decide +kernel
theorem ok_pr_placeOf : NmOk y_pr_placeOf 1 := by decide +kernel
theorem ok_pr_setPlace : NmOk y_pr_setPlace 2 := by decide +kernel
