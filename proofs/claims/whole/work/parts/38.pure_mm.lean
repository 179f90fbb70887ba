/-! the class's calls as pure functions -/
abbrev rgs (σ : SS) (h : Int32) : Int32 := σ.1 13 (ix h)
def giveHandle (σ : SS) (h w : Int32) : SS := settle (setRegister σ h w)
def holdsClass (σ : SS) (h : Int32) : Int32 := if isHandle h = 0 then 0 else if isClass σ (rgs σ h) = 0 then 0 else 1
theorem holds_h {σ : SS} {h : Int32} (e : ¬ holdsClass σ h = 0) : ¬ isHandle h = 0 ∧ ¬ isClass σ (rgs σ h) = 0 := by
  unfold holdsClass at e
  by_cases h1 : isHandle h = 0
  · rw [if_pos h1] at e; exact absurd rfl e
  · rw [if_neg h1] at e
    by_cases h2 : isClass σ (rgs σ h) = 0
    · rw [if_pos h2] at e; exact absurd rfl e
    · exact ⟨h1, h2⟩
theorem holds_in {σ : SS} {h : Int32} (e : ¬ holdsClass σ h = 0) : vp_in h 6 := isHandle_in (holds_h e).1
theorem holds_c {σ : SS} {h : Int32} (e : ¬ holdsClass σ h = 0) : vp_in (rgs σ h) 28 := isClass_in (holds_h e).2
theorem h7 {h : Int32} (e : vp_in h 6) : vp_in h 7 := vp_up e (by decide)
theorem RG_forgetL {n : Nat} : ∀ {k : Nat} {σ : SS} {c : Int32}, RG σ → RG (fgL n k σ c) := by
  induction n with
  | zero => intro k σ c h; exact h
  | succ n ih => intro k σ c h; exact ih (RG_A h (by decide) _ _)
theorem RG_forget {σ : SS} (h : RG σ) (c : Int32) : RG (forget σ c) := RG_forgetL h
theorem RG_newClass {σ : SS} (h : RG σ) {s z : Int32} (hs : 0 ≤ s.toInt) (hz : 0 ≤ z.toInt ∧ z.toInt ≤ 6) : RG (newClass σ s z) := by
  unfold newClass
  split
  · exact h
  · exact RG_wakeClass h _ hs hz
theorem RG_giveHandle {σ : SS} (h : RG σ) (r : Int32) {w : Int32} (hw : 0 ≤ w.toInt) : RG (giveHandle σ r w) := RG_settle (RG_setRegister h _ hw)
theorem z6 {z : Int32} (h1 : ¬ z < 0) (h2 : z ≤ 6) : 0 ≤ z.toInt ∧ z.toInt ≤ 6 := by
  rw [ilt0] at h1
  rw [Int32.le_iff_toInt_le, show (6 : Int32).toInt = 6 from rfl] at h2
  omega
theorem num_nn {v : Int32} (h1 : ¬ v < -512) (h2 : v ≤ 511) : 0 ≤ (1000 + v).toInt := by
  have e : numberWord v = 1000 + v := by unfold numberWord; rw [if_neg h1, if_pos h2]
  rw [← e]
  apply numberWord_nn
  rw [e]
  intro h
  rw [Int32.lt_iff_toInt_lt, show (-512 : Int32).toInt = -512 from rfl] at h1
  rw [Int32.le_iff_toInt_le, show (511 : Int32).toInt = 511 from rfl] at h2
  have h3 := congrArg Int32.toInt h
  rw [Int32.toInt_add, show (1000 : Int32).toInt = 1000 from rfl, show (-1 : Int32).toInt = -1 from rfl] at h3
  have e4 : (1000 + v.toInt).bmod (2 ^ 32) = 1000 + v.toInt := by
    rw [Int.bmod_eq_of_le] <;> omega
  omega
theorem isContext_in {σ : SS} {o : Int32} (h : ¬ isContext σ o = 0) : vp_in o 28 := by
  apply isAlive_in (σ := σ)
  intro e
  apply h
  unfold isContext
  rw [if_pos e]
def define1 (σ : SS) (h s z : Int32) : RS := if isClassOrNil σ (rgs σ s) = 0 then (-1, σ) else if leastFree σ = -1 then (-1, newClass σ (rgs σ s) z) else (leastFree σ, giveHandle (forget (newClass σ (rgs σ s) z) (leastFree σ)) h (leastFree σ))
def define (σ : SS) (h s z : Int32) : RS := if isHandle h = 0 then (-1, σ) else if isHandle s = 0 then (-1, σ) else if z < 0 then (-1, σ) else if z ≤ 6 then define1 σ h s z else (-1, σ)
def methodF (σ : SS) (c t : Int32) (lo hi : Int64) : RS := if holdsClass σ c = 0 then (0, σ) else if isSelector t = 0 then (0, σ) else (1, keep σ (rgs σ c) t lo hi)
def make (σ : SS) (h c : Int32) : RS := if isHandle h = 0 then (-1, σ) else if holdsClass σ c = 0 then (-1, σ) else if rgs σ c = 3 then (-1, σ) else if leastFree σ = -1 then (-1, newInstance σ (rgs σ c)) else (leastFree σ, giveHandle (newInstance σ (rgs σ c)) h (leastFree σ))
def number (σ : SS) (h v : Int32) : RS := if isHandle h = 0 then (0, σ) else if v < -512 then (0, σ) else if v ≤ 511 then (1, giveHandle σ h (1000 + v)) else (0, σ)
def move (σ : SS) (h g : Int32) : RS := if isHandle h = 0 then (0, σ) else if isHandle g = 0 then (0, σ) else (1, giveHandle σ h (rgs σ g))
def drop (σ : SS) (h : Int32) : RS := if isHandle h = 0 then (0, σ) else (1, giveHandle σ h 0)
def fetch (σ : SS) (h g k : Int32) : RS := if isHandle h = 0 then (0, σ) else if isHandle g = 0 then (0, σ) else if hasField σ (rgs σ g) k = 0 then (0, σ) else (1, giveHandle σ h (σ.2.1 (ix (rgs σ g)) (ix k)))
def kind (σ : SS) (h g : Int32) : RS := if isHandle h = 0 then (0, σ) else if isHandle g = 0 then (0, σ) else (1, giveHandle σ h (classOfWord σ (rgs σ g)))
def store (σ : SS) (g k h : Int32) : RS := if isHandle h = 0 then (0, σ) else if isHandle g = 0 then (0, σ) else if hasFreeField σ (rgs σ g) k = 0 then (0, σ) else (1, settle (setField σ (rgs σ g) k (rgs σ h)))
def inherit (σ : SS) (c s : Int32) : RS := if holdsClass σ c = 0 then (0, σ) else if isHandle s = 0 then (0, σ) else if rgs σ c < 4 then (0, σ) else if isClassOrNil σ (rgs σ s) = 0 then (0, σ) else if isAmong σ (rgs σ c) (rgs σ s) = 0 then (1, settle (setField σ (rgs σ c) 0 (rgs σ s))) else (0, σ)
def send (σ : SS) (h t : Int32) : RS := if condition σ = 0 then (if isHandle h = 0 then (0, σ) else if isSelector t = 0 then (0, σ) else start σ h t) else (0, σ)
theorem start_01 (σ : SS) (h t : Int32) : (start σ h t).1 = 0 ∨ (start σ h t).1 = 1 := by
  unfold start start1
  split
  · exact Or.inl rfl
  · split
    · exact Or.inl rfl
    · exact Or.inr rfl
def runL : Nat → Nat → SS → RS
  | 0, k, σ => (nI k, σ)
  | m + 1, k, σ => if condition σ = 1 then (if (doByte σ).1 = 0 then (nI k, (doByte σ).2) else runL m (k + 1) (doByte σ).2) else (nI k, σ)
def run (σ : SS) (n : Int32) : RS := if n < 0 then (-1, σ) else if n ≤ 500 then runL (ix n) 0 σ else (-1, σ)
def abort (σ : SS) : RS := if condition σ = 0 then (0, σ) else (1, stop σ)
def stackQ (σ : SS) (o : Int32) : Int32 := if isContext σ o = 0 then -1 else σ.1 10 (ix o)
def handleQ (σ : SS) (h : Int32) : Int32 := if isHandle h = 0 then -1 else rgs σ h
def fieldQ (σ : SS) (o k : Int32) : Int32 := if hasField σ o k = 0 then -1 else σ.2.1 (ix o) (ix k)
def classOfQ (σ : SS) (o : Int32) : Int32 := if isAlive σ o = 0 then -1 else classOfWord σ o
def countQ (σ : SS) (o : Int32) : Int32 := if isAlive σ o = 0 then -1 else countOf σ o
def lookupQ (σ : SS) (h t : Int32) : Int32 := if isHandle h = 0 then -1 else if isSelector t = 0 then -1 else find σ (classOfWord σ (rgs σ h)) t
/-- what each byte needs, of every state of a run -/
def ByOk (τ : SS) : Prop := RG τ ∧ BZ τ ∧ CtxOk τ (τ.1 13 (ix 6)) ∧ vp_in (τ.2.1 (ix (τ.1 13 (ix 6))) (ix 3) - 1000) 8
