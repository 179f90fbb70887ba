/-! the reference's methods as pure functions: rows 1 live, 2 sort, 3 cls, 4 fields, 5 word, 6 stuck, 7 holds, 8 size, 9 has, 10 code, 11 top, 12 handles, 13 reached; 20 0 active, 21 0 reason -/
abbrev acM (σ : SS) : Int32 := σ.1 20 0
abbrev hM (σ : SS) (h : Int32) : Int32 := σ.1 12 (ix h)
def isNumberM (w : Int32) : Int32 := if w < 28 then 0 else 1
def isClassM (σ : SS) (w : Int32) : Int32 := if isNumberM w = 0 then (if σ.1 2 (ix w) = 1 then 1 else 0) else 0
def isContextM (σ : SS) (w : Int32) : Int32 := if isNumberM w = 0 then (if σ.1 2 (ix w) = 2 then 1 else 0) else 0
def classOfWordM (σ : SS) (w : Int32) : Int32 := if isNumberM w = 0 then σ.1 3 (ix w) else 2
def noHandleM (w : Int32) : Int32 := if w < 0 then 1 else if w ≤ 5 then 0 else 1
def noSelectorM (w : Int32) : Int32 := if w < 0 then 1 else if w ≤ 7 then 0 else 1
def noObjectM (σ : SS) (o : Int32) : Int32 := if o < 0 then 1 else if 28 ≤ o then 1 else if σ.1 1 (ix o) = 0 then 1 else 0
def hasFieldM (σ : SS) (w k : Int32) : Int32 := if isNumberM w = 0 then (if k < 0 then 0 else if σ.1 4 (ix w) ≤ k then 0 else 1) else 0
def foundL : Nat → SS → Int32 → Int32 → Int32
  | 0, _, _, c => c
  | n + 1, σ, t, c => if c = 0 then c else if σ.1 9 (ix (8 * c + t)) = 0 then foundL n σ t (σ.1 5 (ix (15 * c))) else c
def foundM (σ : SS) (c t : Int32) : Int32 := foundL 28 σ t c
/-- the superclasses from c on end within n steps -/
def SupM : Nat → SS → Int32 → Prop
  | 0, _, c => c = 0
  | n + 1, σ, c => c = 0 ∨ (vp_in c 28 ∧ SupM n σ (σ.1 5 (ix (15 * c))))
def incH (σ : SS) (j : Int32) : SS := sA σ 7 (ix j) (σ.1 7 (ix j) + 1)
def clL : Nat → Nat → SS → SS
  | 0, _, σ => σ
  | n + 1, k, σ => clL n (k + 1) (sA σ 7 (ix (nI k)) 0)
def tfL : Nat → Nat → SS → Nat → SS
  | 0, _, σ, _ => σ
  | n + 1, k, σ, o => tfL n (k + 1) (if isNumberM (σ.1 5 (ix (15 * nI o + nI k))) = 0 then incH σ (σ.1 5 (ix (15 * nI o + nI k))) else σ) o
def toL : Nat → Nat → SS → SS
  | 0, _, σ => σ
  | n + 1, o, σ => if σ.1 1 (ix (nI o)) = 0 then toL n (o + 1) σ else toL n (o + 1) (tfL (ix (σ.1 4 (ix (nI o)))) 0 (incH σ (σ.1 3 (ix (nI o)))) o)
def thL : Nat → Nat → SS → SS
  | 0, _, σ => σ
  | n + 1, h, σ => thL n (h + 1) (if isNumberM (σ.1 12 (ix (nI h))) = 0 then incH σ (σ.1 12 (ix (nI h))) else σ)
def tal3 (σ : SS) : SS := thL 6 0 (toL 28 0 (clL 28 0 σ))
def tallyM (σ : SS) : SS := incH (tal3 σ) (acM (tal3 σ))
def paL : Nat → Nat → SS → Int32 → SS × Int32
  | 0, _, σ, m => (σ, m)
  | n + 1, k, σ, m => if σ.1 1 (ix (nI k)) = 0 then paL n (k + 1) σ m else if σ.1 7 (ix (nI k)) = 0 then (if σ.1 6 (ix (nI k)) = 0 then paL n (k + 1) (sA σ 1 (ix (nI k)) 0) 1 else paL n (k + 1) σ m) else paL n (k + 1) σ m
def passM (σ : SS) : SS × Int32 := paL 24 4 (tallyM σ) 0
def seL : Nat → SS → Int32 → SS
  | 0, σ, _ => σ
  | n + 1, σ, m => if m = 0 then σ else seL n (passM σ).1 (passM σ).2
def skv (σ : SS) (k : Int32) : Int32 := if σ.1 1 (ix k) = 0 then 0 else if σ.1 6 (ix k) = 0 then (if σ.1 7 (ix k) < 6 then 0 else 1) else 1
def skL : Nat → Nat → SS → SS
  | 0, _, σ => σ
  | n + 1, k, σ => skL n (k + 1) (sA σ 6 (ix (nI k)) (skv σ (nI k)))
def settleM (σ : SS) : SS := skL 28 0 (seL 30 σ 1)
def roomL : Nat → Nat → SS → Int32
  | 0, _, _ => -1
  | n + 1, k, σ => if σ.1 1 (ix (nI k)) = 0 then nI k else roomL n (k + 1) σ
def roomM (σ : SS) : Int32 := roomL 28 0 σ
def mkL : Nat → Nat → SS → Int32 → SS
  | 0, _, σ, _ => σ
  | n + 1, k, σ, o => mkL n (k + 1) (sA σ 5 (ix (15 * o + nI k)) 0) o
def make0M (σ : SS) (o s c f : Int32) : SS := sA (sA (sA (sA σ 1 (ix o) 1) 2 (ix o) s) 3 (ix o) c) 4 (ix o) f
def make1M (σ : SS) (o s c f : Int32) : SS := sA (sA (mkL 15 0 (make0M σ o s c f) o) 6 (ix o) 0) 11 (ix o) 0
def hasL : Nat → Nat → SS → Int32 → SS
  | 0, _, σ, _ => σ
  | n + 1, k, σ, o => hasL n (k + 1) (sA σ 9 (ix (8 * o + nI k)) 0) o
def def1M (σ : SS) (o w z : Int32) : SS := hasL 8 0 (sA (sA σ 5 (ix (15 * o)) w) 8 (ix o) z) o
def def2M (σ : SS) (o h s z : Int32) : SS := settleM (sA (def1M (make1M σ o 1 1 1) o (hM (make1M σ o 1 1 1) s) z) 12 (ix h) o)
def def3M (σ : SS) (h s z : Int32) : RS := if z < 0 then (-1, σ) else if z ≤ 6 then (if 0 ≤ roomM σ then (roomM σ, def2M σ (roomM σ) h s z) else (-1, σ)) else (-1, σ)
def defineM (σ : SS) (h s z : Int32) : RS := if noHandleM h = 0 then (if noHandleM s = 0 then (if hM σ s = 0 then def3M σ h s z else if isClassM σ (hM σ s) = 0 then (-1, σ) else def3M σ h s z) else (-1, σ)) else (-1, σ)
def byteM (x : Int64) (k : Nat) : Int32 := (x >>> ((8 * nI k).toInt64 &&& 63) &&& 255).toInt32
def codeL : Nat → Nat → SS → Int32 → Int64 → Int64 → SS
  | 0, _, σ, _, _, _ => σ
  | n + 1, k, σ, a, lo, hi => codeL n (k + 1) (sA (sA σ 10 (ix (16 * a + nI k)) (byteM lo k)) 10 (ix (16 * a + 8 + nI k)) (byteM hi k)) a lo hi
def slM (σ : SS) (c t : Int32) : Int32 := 8 * hM σ c + t
def meth1M (σ : SS) (a : Int32) (lo hi : Int64) : SS := settleM (codeL 8 0 (sA σ 9 (ix a) 1) a lo hi)
def methodM (σ : SS) (c t : Int32) (lo hi : Int64) : RS := if noHandleM c = 0 then (if noSelectorM t = 0 then (if isClassM σ (hM σ c) = 0 then (0, σ) else (1, meth1M σ (slM σ c t) lo hi)) else (0, σ)) else (0, σ)
def putM (σ : SS) (h w : Int32) : SS := settleM (sA σ 12 (ix h) w)
def mk2M (σ : SS) (o h c : Int32) : SS := settleM (sA (make1M σ o 0 (hM σ c) (σ.1 8 (ix (hM σ c)))) 12 (ix h) o)
def makeM (σ : SS) (h c : Int32) : RS := if noHandleM h = 0 then (if noHandleM c = 0 then (if isClassM σ (hM σ c) = 0 then (-1, σ) else if hM σ c = 3 then (-1, σ) else if 0 ≤ roomM σ then (roomM σ, mk2M σ (roomM σ) h c) else (-1, σ)) else (-1, σ)) else (-1, σ)
def numberM (σ : SS) (h v : Int32) : RS := if noHandleM h = 0 then (if v < -512 then (0, σ) else if v ≤ 511 then (1, putM σ h (1000 + v)) else (0, σ)) else (0, σ)
def moveM (σ : SS) (h g : Int32) : RS := if noHandleM h = 0 then (if noHandleM g = 0 then (1, putM σ h (hM σ g)) else (0, σ)) else (0, σ)
def dropM (σ : SS) (h : Int32) : RS := if noHandleM h = 0 then (1, putM σ h 0) else (0, σ)
def fetchM (σ : SS) (h g k : Int32) : RS := if noHandleM h = 0 then (if noHandleM g = 0 then (if hasFieldM σ (hM σ g) k = 0 then (0, σ) else (1, putM σ h (σ.1 5 (ix (15 * hM σ g + k))))) else (0, σ)) else (0, σ)
def kindM (σ : SS) (h g : Int32) : RS := if noHandleM h = 0 then (if noHandleM g = 0 then (1, putM σ h (classOfWordM σ (hM σ g))) else (0, σ)) else (0, σ)
def storeM (σ : SS) (g k h : Int32) : RS := if noHandleM h = 0 then (if noHandleM g = 0 then (if hasFieldM σ (hM σ g) k = 0 then (0, σ) else if σ.1 2 (ix (hM σ g)) = 0 then (1, settleM (sA σ 5 (ix (15 * hM σ g + k)) (hM σ h))) else (0, σ)) else (0, σ)) else (0, σ)
def inhL : Nat → SS → Int32 → Int32 → Int32
  | 0, _, _, u => u
  | n + 1, σ, c, u => if u = 0 then u else if u = c then u else inhL n σ c (σ.1 5 (ix (15 * u)))
def inh1M (σ : SS) (c s : Int32) : RS := if inhL 28 σ (hM σ c) (hM σ s) = 0 then (1, settleM (sA σ 5 (ix (15 * hM σ c)) (hM σ s))) else (0, σ)
def inheritM (σ : SS) (c s : Int32) : RS := if noHandleM c = 0 then (if noHandleM s = 0 then (if isClassM σ (hM σ c) = 0 then (0, σ) else if hM σ c < 4 then (0, σ) else if hM σ s = 0 then inh1M σ c s else if isClassM σ (hM σ s) = 0 then (0, σ) else inh1M σ c s) else (0, σ)) else (0, σ)
def ctx1M (σ : SS) (o s r i t : Int32) : SS := sA (sA (sA (sA (sA (make1M σ o 2 3 15) 5 (ix (15 * o)) s) 5 (ix (15 * o + 1)) r) 5 (ix (15 * o + 2)) i) 5 (ix (15 * o + 3)) (1000 + t)) 5 (ix (15 * o + 4)) 1000
def contextM (σ : SS) (o s r i t : Int32) : SS := sA (ctx1M σ o s r i t) 20 0 o
def argL : Nat → Nat → SS → Int32 → Int32 → SS
  | 0, _, σ, _, _ => σ
  | n + 1, k, σ, o, h => argL n (k + 1) (sA σ 5 (ix (15 * o + 5 + nI k)) (hM σ (h + 1 + nI k - (h + 1 + nI k) / 6 * 6))) o h
def sendM1 (σ : SS) (h t f : Int32) : RS := if f = 0 then (0, σ) else if 0 ≤ roomM σ then (1, settleM (argL (ix (argumentsOf t)) 0 (contextM σ (roomM σ) 0 (hM σ h) f t) (roomM σ) h)) else (0, σ)
def sendM (σ : SS) (h t : Int32) : RS := if acM σ = 0 then (if noHandleM h = 0 then (if noSelectorM t = 0 then sendM1 σ h t (foundM σ (classOfWordM σ (hM σ h)) t) else (0, σ)) else (0, σ)) else (0, σ)
def atM (σ : SS) (k : Int32) : Int32 := σ.1 5 (ix (15 * acM σ + k))
def tpM (σ : SS) : Int32 := σ.1 11 (ix (acM σ))
def fromTopM (σ : SS) (k : Int32) : Int32 := atM σ (9 + tpM σ - 1 - k)
def push1M (σ : SS) (w : Int32) : SS := sA σ 5 (ix (15 * acM σ + 9 + tpM σ)) w
def pushM (σ : SS) (w : Int32) : SS := sA (push1M σ w) 11 (ix (acM σ)) (tpM σ + 1)
def pop1M (σ : SS) : SS := sA σ 11 (ix (acM σ)) (tpM σ - 1)
def popM (σ : SS) : SS := sA (pop1M σ) 5 (ix (15 * acM σ + 9 + (tpM σ - 1))) 0
def jumpM (σ : SS) (q : Int32) : SS := sA σ 5 (ix (15 * acM σ + 4)) (1000 + q)
def needsM (p a : Int32) : Int32 := if p = 3 ∨ p = 4 ∨ p = 9 then 1 else if p = 5 ∨ p = 6 then argumentsOf a + 1 else if p = 7 then 2 else if p = 11 ∨ p = 12 then (if a = 0 then 1 else 0) else if p = 13 then (if 2 ≤ a then 0 else 1) else 0
def growsM (p a : Int32) : Int32 := if p < 3 then 1 else if p = 13 then (if a = 0 then 1 else 0) else 0
def superM (σ : SS) (c : Int32) : Int32 := σ.1 5 (ix (15 * c))
def beginM (σ : SS) (p a : Int32) : Int32 := if p = 5 then classOfWordM σ (fromTopM σ (argumentsOf a)) else superM σ (atM σ 2)
def arithM (a x y : Int32) : Int32 := if a = 0 then x + y else if a = 1 then x - y else x * y
def wf2M (v : Int32) : Int32 := if v < -512 then 5 else if v ≤ 511 then 0 else 5
def wf1M (σ : SS) (a : Int32) : Int32 := wf2M (if a = 3 then 0 else arithM a (fromTopM σ 1 - 1000) (fromTopM σ 0 - 1000))
def workFailsM (σ : SS) (a : Int32) : Int32 := if a ≤ 4 then (if a = 4 then 0 else if isNumberM (fromTopM σ 0) = 0 then 3 else if isNumberM (fromTopM σ 1) = 0 then 3 else wf1M σ a) else 3
def fa1M (σ : SS) (p a : Int32) : Int32 := if hasFieldM σ (atM σ 1) a = 0 then 3 else if isContextM σ (atM σ 1) = 0 then (if p = 4 then (if isClassM σ (atM σ 1) = 0 then 0 else 3) else 0) else 3
def fa5M (σ : SS) (p a : Int32) : Int32 := if a ≤ 7 then (if foundM σ (beginM σ p a) a = 0 then 2 else if 0 ≤ roomM σ then 0 else 4) else 3
def fa8M (q a : Int32) : Int32 := if q + 1 + a ≤ 16 then 0 else 3
def fa9M (σ : SS) (q a : Int32) : Int32 := if fromTopM σ 0 = 0 then fa8M q a else 0
def fa12M (σ : SS) (a : Int32) : Int32 := if 0 < a then 3 else if isClassM σ (fromTopM σ 0) = 0 then 3 else if fromTopM σ 0 = 3 then 3 else if 0 ≤ roomM σ then 0 else 4
def fails1M (σ : SS) (p a q : Int32) : Int32 :=
  if p = 0 then (if a ≤ 3 then 0 else 3) else if p = 1 then fa1M σ p a else if p = 2 then 0 else if p = 3 then (if a ≤ 3 then 0 else 3) else if p = 4 then fa1M σ p a
  else if p = 5 then fa5M σ p a else if p = 6 then fa5M σ p a else if p = 7 then workFailsM σ a else if p = 8 then fa8M q a else if p = 9 then fa9M σ q a else if p = 10 then (if 0 ≤ q - a then 0 else 3)
  else if p = 11 then (if a ≤ 1 then 0 else 3) else if p = 12 then fa12M σ a else if p = 13 then (if a ≤ 1 then 0 else 3) else if p ≤ 13 then 0 else 3
def failsM (σ : SS) (p a q : Int32) : Int32 := if tpM σ < needsM p a then 1 else if growsM p a = 0 then fails1M σ p a q else if tpM σ = 6 then 1 else fails1M σ p a q
def constM (σ : SS) (a : Int32) : Int32 := if a = 0 then 0 else if 8 ≤ a then (if a = 8 then atM σ 1 else if a = 9 then classOfWordM σ (atM σ 1) else hM σ (a - 10)) else 1000 + a - 4
def wk1M (a x y : Int32) : Int32 := if a = 3 then (if y ≤ x then 0 else 1) else (if x = y then 1 else 0)
def wk2M (a x y : Int32) : Int32 := if 3 ≤ a then (if wk1M a x y = 0 then 0 else 1001) else 1000 + arithM a (x - 1000) (y - 1000)
def workM (σ : SS) (a : Int32) : SS := pushM (popM (popM σ)) (wk2M a (fromTopM σ 1) (fromTopM σ 0))
def sdL : Nat → Nat → SS → Int32 → Int32 → Int32 → SS
  | 0, _, σ, _, _, _ => σ
  | n + 1, k, σ, o, c, m => sdL n (k + 1) (sA (sA σ 5 (ix (15 * o + 5 + nI k)) (σ.1 5 (ix (15 * c + 9 + σ.1 11 (ix c) - m + nI k)))) 5 (ix (15 * c + 9 + σ.1 11 (ix c) - m + nI k)) 0) o c m
def sd1M (σ : SS) (c m : Int32) : SS := sA σ 11 (ix c) (σ.1 11 (ix c) - (m + 1))
def sd2M (σ : SS) (c m : Int32) : SS := sA (sd1M σ c m) 5 (ix (15 * c + 9 + (sd1M σ c m).1 11 (ix c))) 0
def sendsM (σ : SS) (p a : Int32) : SS := sd2M (sdL (ix (argumentsOf a)) 0 (contextM σ (roomM σ) (acM σ) (fromTopM σ (argumentsOf a)) (foundM σ (beginM σ p a) a) a) (roomM σ) (acM σ) (argumentsOf a)) (acM σ) (argumentsOf a)
def returnsM (σ : SS) (w : Int32) : SS := if atM σ 0 = 0 then sA (sA σ 20 0 (atM σ 0)) 12 (ix 0) w else pushM (sA σ 20 0 (atM σ 0)) w
def createM (σ : SS) : SS := pushM (make1M (popM σ) (roomM σ) 0 (fromTopM σ 0) ((popM σ).1 8 (ix (fromTopM σ 0)))) (roomM σ)
def intoM (σ : SS) (j : Int32) : SS := sA (popM σ) 5 (ix j) (fromTopM σ 0)
def perf1M (σ : SS) (p a q : Int32) : SS :=
  if p = 0 then pushM σ (atM σ (5 + a)) else if p = 1 then pushM σ (σ.1 5 (ix (15 * atM σ 1 + a))) else if p = 2 then pushM σ (constM σ a) else if p = 3 then intoM σ (15 * acM σ + 5 + a) else if p = 4 then intoM σ (15 * atM σ 1 + a)
  else if p = 5 then sendsM σ p a else if p = 6 then sendsM σ p a else if p = 7 then workM σ a else if p = 8 then jumpM σ (q + 1 + a) else if p = 9 then popM (if fromTopM σ 0 = 0 then jumpM σ (q + 1 + a) else σ) else if p = 10 then jumpM σ (q - a)
  else if p = 11 then returnsM σ (if a = 0 then fromTopM σ 0 else atM σ 1) else if p = 12 then createM σ else if a = 0 then pushM σ (fromTopM σ 0) else popM σ
def performM (σ : SS) (p a q : Int32) : SS := settleM (perf1M (jumpM σ (q + 1)) p a q)
def remM (x y : Int32) : Int32 := x - x / y * y
def stepC (σ : SS) (q : Int32) : Int32 := if 16 ≤ q then 0 else σ.1 10 (ix (16 * (8 * atM σ 2 + atM σ 3 - 1000) + q))
def step2M (σ : SS) (b q r : Int32) : RS := if r ≤ 0 then (1, performM (sA σ 21 0 r) (b / 16) (remM b 16) q) else (0, sA σ 21 0 r)
def step1M (σ : SS) (b q : Int32) : RS := if q ≤ 15 then step2M σ b q (failsM σ (b / 16) (remM b 16) q) else step2M σ b q 6
def stepM (σ : SS) : RS := step1M σ (stepC σ (atM σ 4 - 1000)) (atM σ 4 - 1000)
def runML : Nat → Nat → SS → RS
  | 0, k, σ => (nI k, σ)
  | m + 1, k, σ => if acM σ = 0 then (nI k, σ) else if σ.1 21 0 = 0 then (if (stepM σ).1 = 0 then (nI k, (stepM σ).2) else runML m (k + 1) (stepM σ).2) else (nI k, σ)
def runM (σ : SS) (n : Int32) : RS := if n < 0 then (-1, σ) else if n ≤ 500 then runML (ix n) 0 σ else (-1, σ)
def abortM (σ : SS) : RS := if acM σ = 0 then (0, σ) else (1, settleM (sA (sA σ 20 0 0) 21 0 0))
def reachM (σ : SS) (w : Int32) : SS := if isNumberM w = 0 then sA σ 13 (ix w) 1 else σ
def sw0L : Nat → Nat → SS → SS
  | 0, _, σ => σ
  | n + 1, k, σ => sw0L n (k + 1) (sA σ 13 (ix (nI k)) (if 4 ≤ nI k then 0 else 1))
def sw1L : Nat → Nat → SS → SS
  | 0, _, σ => σ
  | n + 1, k, σ => sw1L n (k + 1) (reachM σ (σ.1 12 (ix (nI k))))
def sw4L : Nat → Nat → SS → Nat → SS
  | 0, _, σ, _ => σ
  | n + 1, k, σ, o => sw4L n (k + 1) (reachM σ (σ.1 5 (ix (15 * nI o + nI k)))) o
def sw3L : Nat → Nat → SS → SS
  | 0, _, σ => σ
  | n + 1, o, σ => if σ.1 13 (ix (nI o)) = 0 then sw3L n (o + 1) σ else sw3L n (o + 1) (sw4L (ix (σ.1 4 (ix (nI o)))) 0 (reachM σ (σ.1 3 (ix (nI o)))) o)
def sw2L : Nat → SS → SS
  | 0, σ => σ
  | n + 1, σ => sw2L n (sw3L 28 0 σ)
def sw1M (σ : SS) : SS := sw1L 6 0 (sw0L 28 0 σ)
def sw2M (σ : SS) : SS := sw2L 28 (reachM (sw1M σ) (acM (sw1M σ)))
def sw5a (σ : SS) (k g : Int32) : Int32 := if σ.1 1 (ix k) = 0 then g else if σ.1 13 (ix k) = 0 then g + 1 else g
def sw5b (σ : SS) (k : Int32) : SS := sA (sA σ 1 (ix k) (if σ.1 1 (ix k) = 0 then 0 else if σ.1 13 (ix k) = 0 then 0 else 1)) 6 (ix k) 0
def sw5L : Nat → Nat → SS → Int32 → SS × Int32
  | 0, _, σ, g => (σ, g)
  | n + 1, k, σ, g => sw5L n (k + 1) (sw5b σ (nI k)) (sw5a σ (nI k) g)
def sw5M (σ : SS) : SS × Int32 := sw5L 28 0 (sw2M σ) 0
def sweepM (σ : SS) : RS := ((sw5M σ).2, settleM (sw5M σ).1)
def stateM (σ : SS) : Int32 := if acM σ = 0 then 0 else if σ.1 21 0 ≤ 0 then 1 else 2
def stackM (σ : SS) (o : Int32) : Int32 := if noObjectM σ o = 0 then (if σ.1 2 (ix o) = 2 then σ.1 11 (ix o) else -1) else -1
def handleM (σ : SS) (h : Int32) : Int32 := if noHandleM h = 0 then hM σ h else -1
def fieldM (σ : SS) (o k : Int32) : Int32 := if noObjectM σ o = 0 then (if k < 0 then -1 else if k < σ.1 4 (ix o) then σ.1 5 (ix (15 * o + k)) else -1) else -1
def classOfM (σ : SS) (o : Int32) : Int32 := if noObjectM σ o = 0 then σ.1 3 (ix o) else -1
def countM (σ : SS) (o : Int32) : RS := if noObjectM σ o = 0 then ((if (tallyM σ).1 6 (ix o) = 0 then (tallyM σ).1 7 (ix o) else 6), tallyM σ) else (-1, σ)
def alL : Nat → Nat → SS → Int32 → Int32
  | 0, _, _, a => a
  | n + 1, k, σ, a => alL n (k + 1) σ (if σ.1 1 (ix (nI k)) = 0 then a else a + 1)
def aliveM (σ : SS) : Int32 := alL 28 0 σ 0
def lookupM (σ : SS) (h t : Int32) : Int32 := if noHandleM h = 0 then (if noSelectorM t = 0 then foundM σ (classOfWordM σ (hM σ h)) t else -1) else -1
