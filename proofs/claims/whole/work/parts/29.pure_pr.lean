/-! Processor as pure functions -/
theorem RG.top {σ : SS} (h : RG σ) {o a : Int32} (ho : vp_in o 28) (h1 : 0 ≤ a.toInt) (h2 : a.toInt + 1 ≤ (σ.1 10 (ix o)).toInt) : 0 ≤ (topBut σ o a).toInt := h.grid ho (top_in h1 h2 (h.dep ho).2)
theorem upd_same (f : Nat → Int32) (j : Nat) (x : Int32) : upd f j x j = x := if_pos rfl
theorem RG_pop {σ : SS} (h : RG σ) {o : Int32} (ho : vp_in o 28) (h1 : 1 ≤ (σ.1 10 (ix o)).toInt) : RG (pop σ o) := by
  have hd := h.dep ho
  have e := dec_in h1 hd.2
  exact RG_setField (RG_10 h _ (by rw [e]; omega)) _ _ (by decide)
theorem pop_10 (σ : SS) (o : Int32) : (pop σ o).1 10 (ix o) = σ.1 10 (ix o) - 1 := by
  unfold pop
  rw [setField_ne _ _ _ _ (by decide), popD_10]
theorem RG_push {σ : SS} (h : RG σ) {o w : Int32} (ho : vp_in o 28) (hd : (σ.1 10 (ix o)).toInt < 6) (hw : 0 ≤ w.toInt) : RG (push σ o w) := by
  have h1 := h.dep ho
  have e := inc_in h1.1 hd
  refine RG_10 (RG_setField h _ _ hw) _ ?_
  have e2 : (pushF σ o w).1 10 (ix o) = σ.1 10 (ix o) := congrFun (setField_ne σ _ _ _ (by decide)) _
  rw [e2, e]
  omega
theorem wake_ne (σ : SS) (o c n : Int32) {a : Nat} (h : a ≠ 4 ∧ a ≠ 7 ∧ a ≠ 8 ∧ a ≠ 11) : (wake σ o c n).1 a = σ.1 a := by
  unfold wake wake1
  rw [sA_ne _ h.2.2.2, hold_ne _ _ h.2.2.2, sA_ne _ h.2.2.1, sA_ne _ h.2.1, sA_ne _ h.1]
theorem newInstance_ne (σ : SS) (c : Int32) {a : Nat} (h : a ≠ 4 ∧ a ≠ 7 ∧ a ≠ 8 ∧ a ≠ 11) : (newInstance σ c).1 a = σ.1 a := by
  unfold newInstance
  split
  · rfl
  · exact wake_ne _ _ _ _ h
theorem ctx_ne (σ : SS) (o r f t : Int32) {a : Nat} (h : a ≠ 4 ∧ a ≠ 7 ∧ a ≠ 8 ∧ a ≠ 11) : (ctx σ o r f t).1 a = σ.1 a := by
  unfold ctx
  rw [setField_ne _ _ _ _ h.2.2.2, setField_ne _ _ _ _ h.2.2.2, setField_ne _ _ _ _ h.2.2.2, setField_ne _ _ _ _ h.2.2.2]
  exact wake_ne _ _ _ _ h
theorem newContext_ne (σ : SS) (r f t : Int32) {a : Nat} (h : a ≠ 4 ∧ a ≠ 7 ∧ a ≠ 8 ∧ a ≠ 11) : (newContext σ r f t).1 a = σ.1 a := by
  unfold newContext
  split
  · rfl
  · exact ctx_ne _ _ _ _ _ h
theorem RG_newInstance {σ : SS} (h : RG σ) {c : Int32} (hc : vp_in c 28) : RG (newInstance σ c) := by
  unfold newInstance
  split
  · exact h
  · have h9 := h.2.2.2.2.1 _ (vp_ix hc)
    exact RG_wake h _ hc ⟨h9.1, by omega⟩
theorem RG_newContext {σ : SS} (h : RG σ) {r f t : Int32} (hr : 0 ≤ r.toInt) (hf : 0 ≤ f.toInt) (ht : vp_in t 8) : RG (newContext σ r f t) := by
  unfold newContext
  split
  · exact h
  · exact RG_ctx h _ hr hf ht
/-- the flags of methods are 0 or 1 -/
def BZ (σ : SS) : Prop := ∀ j, j < 224 → σ.1 16 j = 0 ∨ σ.1 16 j = 1
theorem nar01 {x : Int32} (h : x = 0 ∨ x = 1) : narrow .boolean (.int x) = .int x := by
  rcases h with rfl | rfl <;> rfl
theorem BZ.nar {σ : SS} (h : BZ σ) {c t : Int32} (hc : vp_in c 28) (ht : vp_in t 8) : narrow .boolean (.int (has σ c t)) = .int (has σ c t) := nar01 (h _ (vp_ix (slot_in hc ht)))
def condition (σ : SS) : Int32 := if σ.1 13 (ix 6) = 0 then 0 else if σ.1 21 0 = 0 then 1 else 2
def stop (σ : SS) : SS := settle (setRegister (sA σ 21 0 0) 6 0)
def findL : Nat → SS → Int32 → Int32 → Int32
  | 0, _, _, c => c
  | n + 1, σ, t, c => if c = 0 then c else if has σ c t = 0 then findL n σ t (σ.2.1 (ix c) (ix 0)) else c
def find (σ : SS) (c t : Int32) : Int32 := findL 28 σ t c
def placeOf (σ : SS) (c : Int32) : Int32 := σ.2.1 (ix c) (ix 4) - 1000
def setPlace (σ : SS) (c q : Int32) : SS := setField σ c 4 (1000 + q)
def halt (σ : SS) (f : Int32) : SS := sA σ 21 0 f
def codeAt (σ : SS) (c q : Int32) : Int32 := byteAt σ (σ.2.1 (ix c) (ix 2)) (σ.2.1 (ix c) (ix 3) - 1000) q
def wordsUsed (p a : Int32) : Int32 := if p = 3 ∨ p = 4 ∨ p = 9 then 1 else if p = 5 ∨ p = 6 then argumentsOf a + 1 else if p = 7 then 2 else if p = 11 ∨ p = 12 then (if a = 0 then 1 else 0) else if p = 13 then (if 1 < a then 0 else 1) else 0
def onlyPushes (p a : Int32) : Int32 := if p ≤ 2 then 1 else if p = 13 then (if a = 0 then 1 else 0) else 0
def stackSuits (σ : SS) (c p a : Int32) : Int32 := if σ.1 10 (ix c) < wordsUsed p a then 0 else if σ.1 10 (ix c) < 6 then 1 else if onlyPushes p a = 0 then 1 else 0
abbrev RS : Type := Int32 × SS
def pushTemporary (σ : SS) (c a : Int32) : RS := if a < 4 then (0, push σ c (σ.2.1 (ix c) (ix (5 + a)))) else (3, σ)
def recv (σ : SS) (c : Int32) : Int32 := σ.2.1 (ix c) (ix 1)
def pushField (σ : SS) (c a : Int32) : RS := if hasField σ (recv σ c) a = 0 then (3, σ) else if isContext σ (recv σ c) = 0 then (0, push σ c (σ.2.1 (ix (recv σ c)) (ix a))) else (3, σ)
def otherWord (σ : SS) (c a : Int32) : Int32 := if a = 0 then 0 else if 7 < a then (if a = 8 then recv σ c else if a = 9 then classOfWord σ (recv σ c) else σ.1 13 (ix (a - 10))) else 1000 + a - 4
def popTemporary (σ : SS) (c a : Int32) : RS := if a < 4 then (0, setField (pop σ c) c (5 + a) (topBut σ c 0)) else (3, σ)
def popField (σ : SS) (c a : Int32) : RS := if hasFreeField σ (recv σ c) a = 0 then (3, σ) else (0, setField (pop σ c) (recv σ c) a (topBut σ c 0))
def numberWord (v : Int32) : Int32 := if v < -512 then -1 else if v ≤ 511 then 1000 + v else -1
def truth (b : Int32) : Int32 := if b = 0 then 0 else 1001
def resultOf (a x y : Int32) : Int32 := if a = 0 then numberWord (x - 1000 + (y - 1000)) else if a = 1 then numberWord (x - y) else if a = 2 then numberWord ((x - 1000) * (y - 1000)) else if a = 3 then truth (if y ≤ x then 0 else 1) else truth (if x = y then 1 else 0)
def notNums (a x y : Int32) : Prop := 4 < a ∨ (¬ a = 4 ∧ (¬ isObject x = 0 ∨ ¬ isObject y = 0))
def calcT (σ : SS) (c w : Int32) : SS := push (popDownTo σ c (σ.1 10 (ix c) - 2)) c w
def calculate (σ : SS) (c a : Int32) : RS := if 4 < a then (3, σ) else if a = 4 then (if resultOf a (topBut σ c 1) (topBut σ c 0) = -1 then (5, σ) else (0, calcT σ c (resultOf a (topBut σ c 1) (topBut σ c 0)))) else if isObject (topBut σ c 1) = 0 then (if isObject (topBut σ c 0) = 0 then (if resultOf a (topBut σ c 1) (topBut σ c 0) = -1 then (5, σ) else (0, calcT σ c (resultOf a (topBut σ c 1) (topBut σ c 0)))) else (3, σ)) else (3, σ)
def forward (σ : SS) (c a : Int32) : RS := if placeOf σ c + a ≤ 16 then (0, setPlace σ c (placeOf σ c + a)) else (3, σ)
def fin (σ : SS) (c a : Int32) : Int32 := placeOf σ c + (if topBut σ c 0 = 0 then a else 0)
def forwardIfNil (σ : SS) (c a : Int32) : RS := if fin σ c a ≤ 16 then (0, setPlace (pop σ c) c (fin σ c a)) else (3, σ)
def back (σ : SS) (c a : Int32) : RS := if 0 ≤ placeOf σ c - (a + 1) then (0, setPlace σ c (placeOf σ c - (a + 1))) else (3, σ)
def answerW (σ : SS) (c a : Int32) : Int32 := if a = 0 then topBut σ c 0 else recv σ c
def answerS (σ : SS) (d w : Int32) : SS := setRegister (if d = 0 then setRegister σ 0 w else push σ d w) 6 d
def giveAnswer (σ : SS) (c a : Int32) : RS := if a ≤ 1 then (0, answerS σ (σ.2.1 (ix c) (ix 0)) (answerW σ c a)) else (3, σ)
def instanceT (σ : SS) (c k : Int32) : SS := push (pop (newInstance σ k) c) c (leastFree σ)
def instance1 (σ : SS) (c k : Int32) : RS := if isClass σ k = 0 then (3, σ) else if k = 3 then (3, σ) else if leastFree σ = -1 then (4, newInstance σ k) else (0, instanceT σ c k)
def instance0 (σ : SS) (c a : Int32) : RS := if a = 0 then instance1 σ c (topBut σ c 0) else (3, σ)
def doubleOrPop (σ : SS) (c a : Int32) : RS := if a ≤ 1 then (0, if a = 0 then push σ c (topBut σ c 0) else pop σ c) else (3, σ)
def sndL : Nat → Nat → SS → Int32 → Int32 → Int32 → SS
  | 0, _, σ, _, _, _ => σ
  | n + 1, k, σ, o, c, m => sndL n (k + 1) (setField σ o (5 + nI k) (topBut σ c (m - 1 - nI k))) o c m
def sndE (σ : SS) (o c m : Int32) : SS := setRegister (popDownTo (setField σ o 0 c) c ((setField σ o 0 c).1 10 (ix c) - m - 1)) 6 o
def sndF (σ : SS) (c p : Int32) (m : Int32) : Int32 := if p = 5 then classOfWord σ (topBut σ c m) else σ.2.1 (ix (σ.2.1 (ix c) (ix 2))) (ix 0)
def snd2 (σ : SS) (o c m : Int32) : SS := sndE (sndL (ix m) 0 σ o c m) o c m
def snd1 (σ : SS) (c m r f t : Int32) : RS := if f = 0 then (2, σ) else if leastFree σ = -1 then (4, newContext σ r f t) else (0, snd2 (newContext σ r f t) (leastFree σ) c m)
def sendOn (σ : SS) (c p t : Int32) : RS := if isSelector t = 0 then (3, σ) else snd1 σ c (argumentsOf t) (topBut σ c (argumentsOf t)) (find σ (sndF σ c p (argumentsOf t)) t) t
def staL : Nat → Nat → SS → Int32 → Int32 → SS
  | 0, _, σ, _, _ => σ
  | n + 1, k, σ, o, h => staL n (k + 1) (setField σ o (5 + nI k) (σ.1 13 (ix (h + 1 + nI k - (h + 1 + nI k) / 6 * 6)))) o h
def sta2 (σ : SS) (o h t : Int32) : SS := settle (setRegister (staL (ix (argumentsOf t)) 0 σ o h) 6 o)
def start1 (σ : SS) (h t f : Int32) : RS := if f = 0 then (0, σ) else if leastFree σ = -1 then (0, newContext σ (σ.1 13 (ix h)) f t) else (1, sta2 (newContext σ (σ.1 13 (ix h)) f t) (leastFree σ) h t)
def start (σ : SS) (h t : Int32) : RS := start1 σ h t (find σ (classOfWord σ (σ.1 13 (ix h))) t)
def perform (σ : SS) (c p a : Int32) : RS :=
  if p = 0 then pushTemporary σ c a else if p = 1 then pushField σ c a else if p = 2 then (0, push σ c (otherWord σ c a)) else if p = 3 then popTemporary σ c a else if p = 4 then popField σ c a
  else if p = 5 then sendOn σ c p a else if p = 6 then sendOn σ c p a else if p = 7 then calculate σ c a else if p = 8 then forward σ c a else if p = 9 then forwardIfNil σ c a else if p = 10 then back σ c a
  else if p = 11 then giveAnswer σ c a else if p = 12 then instance0 σ c a else if p = 13 then doubleOrPop σ c a else (3, σ)
def by2 (σ : SS) (c q : Int32) (z : RS) : RS := if z.1 = 0 then (1, settle z.2) else (0, halt (setPlace z.2 c q) z.1)
def by1 (σ : SS) (c q p a : Int32) : RS := if stackSuits σ c p a = 0 then (0, halt σ 1) else by2 σ c q (perform (setPlace σ c (q + 1)) c p a)
def by0 (σ : SS) (c q : Int32) : RS := if q < 16 then by1 σ c q (codeAt σ c q >>> (4 &&& 31)) (codeAt σ c q &&& 15) else (0, halt σ 6)
def doByte (σ : SS) : RS := by0 σ (σ.1 13 (ix 6)) (placeOf σ (σ.1 13 (ix 6)))
