/-! What a text tells, plainly: tokens, lines, faults -/
def clsT (x : Int32) : Nat := if 97 ≤ x ∧ x ≤ 122 then 1 else if 48 ≤ x ∧ x ≤ 57 then 2 else if x = 32 ∨ x = 10 then 4 else if x = 59 ∨ x = 40 ∨ x = 41 ∨ x = 43 ∨ x = 45 ∨ x = 42 ∨ x = 47 ∨ x = 60 ∨ x = 61 then 3 else 5
theorem cls_pos (x : Int32) : 1 ≤ clsT x ∧ clsT x ≤ 5 := by
  unfold clsT
  split
  · omega
  · split
    · omega
    · split
      · omega
      · split <;> omega
/-- from i on, the first place at which p is not -/
def runF (p : Nat → Bool) : Nat → Nat → Nat
  | 0, i => i
  | f + 1, i => if p i = true then runF p f (i + 1) else i
theorem run_y {p : Nat → Bool} {f i : Nat} (h : p i = true) : runF p (f + 1) i = runF p f (i + 1) := if_pos h
theorem run_n {p : Nat → Bool} {f i : Nat} (h : ¬ p i = true) : runF p (f + 1) i = i := if_neg h
theorem run_le {p : Nat → Bool} : ∀ f i, i ≤ runF p f i ∧ runF p f i ≤ i + f := by
  intro f
  induction f with
  | zero => intro i; exact ⟨Nat.le_refl _, Nat.le_refl _⟩
  | succ f ih =>
    intro i
    by_cases h : p i = true
    · rw [run_y h]; have := ih (i + 1); omega
    · rw [run_n h]; omega
theorem run_end {p : Nat → Bool} : ∀ f i, (∀ j, i + f ≤ j → p j = false) → p (runF p f i) = false := by
  intro f
  induction f with
  | zero => intro i h; exact h i (Nat.le_refl _)
  | succ f ih =>
    intro i h
    by_cases hp : p i = true
    · rw [run_y hp]; exact ih (i + 1) (fun j hj => h j (by omega))
    · rw [run_n hp]; simpa using hp
theorem run_ev {p : Nat → Bool} : ∀ f i j, i ≤ j → j < runF p f i → p j = true := by
  intro f
  induction f with
  | zero => intro i j h1 h2; exact absurd (show j < i from h2) (by omega)
  | succ f ih =>
    intro i j h1 h2
    by_cases hp : p i = true
    · rw [run_y hp] at h2
      by_cases e : i = j
      · rw [← e]; exact hp
      · exact ih (i + 1) j (by omega) h2
    · rw [run_n hp] at h2; omega
/-- a text: its bytes, how many -/
abbrev TX : Type := (Nat → Int32) × Nat
def kdT (T : TX) (a : Nat) : Nat := if a < T.2 then clsT (T.1 a) else 0
theorem kd_lt {T : TX} {a : Nat} (h : a < T.2) : kdT T a = clsT (T.1 a) := if_pos h
theorem kd_0 {T : TX} {a : Nat} (h : ¬ a < T.2) : kdT T a = 0 := if_neg h
theorem kd_le (T : TX) (a : Nat) : kdT T a ≤ 5 := by
  unfold kdT
  have := cls_pos (T.1 a)
  split <;> omega
theorem kd_ne {T : TX} {a : Nat} (h : ¬ kdT T a = 0) : a < T.2 := by
  rcases Nat.lt_or_ge a T.2 with z | z
  · exact z
  · exact absurd (kd_0 (T := T) (by omega)) h
def isK (T : TX) (k j : Nat) : Bool := decide (j < T.2 ∧ clsT (T.1 j) = k)
def runT (T : TX) (k i : Nat) : Nat := runF (isK T k) (T.2 - i) i
theorem runT_end {T : TX} {k i : Nat} : isK T k (runT T k i) = false := run_end _ _ fun j hj => decide_eq_false fun z => by omega
theorem runT_le {T : TX} {k i : Nat} : i ≤ runT T k i ∧ (i ≤ T.2 → runT T k i ≤ T.2) := by
  have := run_le (p := isK T k) (T.2 - i) i
  unfold runT
  omega
theorem runT_all {T : TX} {k i j : Nat} (h : i ≤ j) (h2 : j < runT T k i) : j < T.2 ∧ clsT (T.1 j) = k := of_decide_eq_true (run_ev _ _ j h h2)
theorem runT_y {T : TX} {k i : Nat} (h : i < T.2) (h2 : clsT (T.1 i) = k) : runT T k i = runT T k (i + 1) := by
  unfold runT
  rw [show T.2 - i = (T.2 - (i + 1)) + 1 by omega, run_y (decide_eq_true ⟨h, h2⟩)]
theorem runT_n {T : TX} {k i : Nat} (h : ¬ (i < T.2 ∧ clsT (T.1 i) = k)) : runT T k i = i := by
  unfold runT
  cases hz : T.2 - i with
  | zero => rfl
  | succ f => exact run_n (by unfold isK; rw [decide_eq_false h]; decide)
/-- where the next token begins, ends -/
def toB (T : TX) (i : Nat) : Nat := runT T 4 i
def toE (T : TX) (a : Nat) : Nat := if kdT T a = 0 then a else if kdT T a = 1 ∨ kdT T a = 2 then runT T (kdT T a) (a + 1) else a + 1
def nxT (T : TX) (a : Nat) : Nat := toB T (toE T a)
theorem toB_kd {T : TX} {i : Nat} : ¬ kdT T (toB T i) = 4 := by
  intro h
  have hl := kd_ne (T := T) (a := toB T i) (by omega)
  rw [kd_lt hl] at h
  have := runT_end (T := T) (k := 4) (i := i)
  unfold isK at this
  exact absurd (decide_eq_true (p := runT T 4 i < T.2 ∧ clsT (T.1 (runT T 4 i)) = 4) ⟨hl, h⟩) (by rw [this]; decide)
theorem toE_le {T : TX} {a : Nat} : a ≤ toE T a ∧ (a ≤ T.2 → toE T a ≤ T.2) ∧ (¬ kdT T a = 0 → a + 1 ≤ toE T a) := by
  unfold toE
  by_cases h0 : kdT T a = 0
  · rw [if_pos h0]; exact ⟨Nat.le_refl _, id, fun z => absurd h0 z⟩
  · rw [if_neg h0]
    have hl := kd_ne h0
    by_cases h1 : kdT T a = 1 ∨ kdT T a = 2
    · rw [if_pos h1]
      have := runT_le (T := T) (k := kdT T a) (i := a + 1)
      omega
    · rw [if_neg h1]; omega
theorem nxT_le {T : TX} {a : Nat} : a ≤ nxT T a ∧ (a ≤ T.2 → nxT T a ≤ T.2) ∧ (¬ kdT T a = 0 → a + 1 ≤ nxT T a) := by
  have h1 := toE_le (T := T) (a := a)
  have h2 := runT_le (T := T) (k := 4) (i := toE T a)
  unfold nxT toB
  omega
/-- a NUMBER's value; of five digits and more 10000 -/
def dgT (x : Int32) : Nat := (x - 48).toNatClampNeg
def numN (t : Nat → Int32) (a : Nat) : Nat → Nat
  | 0 => 0
  | k + 1 => 10 * numN t a k + dgT (t (a + k))
def lenT (T : TX) (a : Nat) : Nat := toE T a - a
def numT (T : TX) (a : Nat) : Nat := if 4 < lenT T a then 10000 else numN T.1 a (lenT T a)
def inN (T : TX) (a lo hi : Nat) : Bool := decide (kdT T a = 2 ∧ lo ≤ numT T a ∧ numT T a ≤ hi)
def isW (T : TX) (a : Nat) (w : List Int32) : Bool := decide (kdT T a = 1 ∧ lenT T a = w.length) && (List.range w.length).all (fun i => decide (T.1 (a + i) = w.getD i 0))
def isS (T : TX) (a : Nat) (c : Int32) : Bool := decide (kdT T a = 3 ∧ T.1 a = c)
theorem isW_kd {T : TX} {a : Nat} {w : List Int32} (h : isW T a w = true) : kdT T a = 1 := by
  unfold isW at h
  rw [Bool.and_eq_true, decide_eq_true_eq] at h
  exact h.1.1
theorem isS_kd {T : TX} {a : Nat} {c : Int32} (h : isS T a c = true) : kdT T a = 3 := (of_decide_eq_true h).1
/-- what is told so far: how many sleepers; of each 1 kind .. 7 tenths; who mustn't lie beside; 0 wide, 1 room, 2 minutes, 3 awake, 4 bolsters, 5 lines that stand once; how many nevers; the rule -/
abbrev BD : Type := Nat × (Nat → Nat → Int32) × (Nat → Int32) × (Nat → Int32) × Nat × List Int32
def bC (B : BD) : Nat := B.1
def bL (B : BD) : Nat → Nat → Int32 := B.2.1
def bE (B : BD) : Nat → Int32 := B.2.2.1
def bX (B : BD) : Nat → Int32 := B.2.2.2.1
def bN (B : BD) : Nat := B.2.2.2.2.1
def bR (B : BD) : List Int32 := B.2.2.2.2.2
/-- a fault and its place; or the place of the token that is next, and what is told -/
abbrev PS : Type := (Nat × Nat) ⊕ (Nat × BD)
def advS (T : TX) : PS → PS
  | .inl x => .inl x
  | .inr (a, B) => .inr (nxT T a, B)
def fltS (k : Nat) : PS → PS
  | .inl x => .inl x
  | .inr (a, _) => .inl (k, a)
def wdS (T : TX) (w : List Int32) : PS → Bool
  | .inl _ => false
  | .inr (a, _) => isW T a w
def sgS (T : TX) (c : Int32) : PS → Bool
  | .inl _ => false
  | .inr (a, _) => isS T a c
def kiS (T : TX) (k : Nat) : PS → Bool
  | .inl _ => false
  | .inr (a, _) => decide (kdT T a = k)
def nwS (T : TX) (lo hi : Nat) : PS → Bool
  | .inl _ => false
  | .inr (a, _) => inN T a lo hi
def vaS (T : TX) : PS → Nat
  | .inl _ => 0
  | .inr (a, _) => numT T a
/-- a step more in the rule -/
def addR (B : BD) (X : List Int32) : BD := (B.1, B.2.1, B.2.2.1, B.2.2.2.1, B.2.2.2.2.1, B.2.2.2.2.2 ++ X)
def ruS (x : Int32) : PS → PS
  | .inl y => .inl y
  | .inr (a, B) => .inr (a, addR B [x])
def sgnS (T : TX) (c : Int32) (s : PS) : PS := if sgS T c s = true then advS T s else fltS 1 s
def tkS (T : TX) (lo hi : Nat) (s : PS) : PS := if kiS T 2 s = true then (if nwS T lo hi s = true then advS T s else fltS 2 s) else fltS 1 s
def loopS (c : PS → Bool) (f : PS → PS) : Nat → PS → PS
  | 0, s => s
  | k + 1, s => if c s = true then loopS c f k (f s) else s
def w_sleeper : List Int32 := [115, 108, 101, 101, 112, 101, 114]
def w_child : List Int32 := [99, 104, 105, 108, 100]
def w_snorer : List Int32 := [115, 110, 111, 114, 101, 114]
def w_dog : List Int32 := [100, 111, 103]
def w_bolster : List Int32 := [98, 111, 108, 115, 116, 101, 114]
def w_never : List Int32 := [110, 101, 118, 101, 114]
def w_wakes : List Int32 := [119, 97, 107, 101, 115]
def w_not : List Int32 := [110, 111, 116]
def w_and : List Int32 := [97, 110, 100]
def w_or : List Int32 := [111, 114]
def w_light : List Int32 := [108, 105, 103, 104, 116]
def w_off : List Int32 := [111, 102, 102]
def w_turns : List Int32 := [116, 117, 114, 110, 115]
def w_hour : List Int32 := [104, 111, 117, 114]
def w_snore : List Int32 := [115, 110, 111, 114, 101]
def w_edge : List Int32 := [101, 100, 103, 101]
def w_woken : List Int32 := [119, 111, 107, 101, 110]
def w_bed : List Int32 := [98, 101, 100]
def w_night : List Int32 := [110, 105, 103, 104, 116]
def w_awake : List Int32 := [97, 119, 97, 107, 101]
/-- the VALUE that stands here; 0 for none -/
def vlS (T : TX) (s : PS) : Int32 := if wdS T w_light s = true then -1 else if wdS T w_off s = true then -2 else if wdS T w_turns s = true then -3 else if wdS T w_hour s = true then -4 else if wdS T w_snore s = true then -5 else if wdS T w_edge s = true then -6 else if wdS T w_woken s = true then -7 else 0
def valS (T : TX) (s : PS) : PS := if vlS T s = 0 then fltS 3 s else advS T (ruS (vlS T s) s)
def partS (T : TX) (ex : PS → PS) (s : PS) : PS := if sgS T 40 s = true then sgnS T 41 (ex (advS T s)) else if kiS T 1 s = true then valS T s else ruS (nI (vaS T s)) (tkS T 0 9999 s)
def prodC (T : TX) (s : PS) : Bool := sgS T 42 s || sgS T 47 s
def prodB (T : TX) (ex : PS → PS) (s : PS) : PS := ruS (if sgS T 42 s = true then -15 else -16) (partS T ex (advS T s))
def prodS (T : TX) (ex : PS → PS) (s : PS) : PS := loopS (prodC T) (prodB T ex) 600 (partS T ex s)
def sumC (T : TX) (s : PS) : Bool := sgS T 43 s || sgS T 45 s
def sumB (T : TX) (ex : PS → PS) (s : PS) : PS := ruS (if sgS T 43 s = true then -13 else -14) (prodS T ex (advS T s))
def sumS (T : TX) (ex : PS → PS) (s : PS) : PS := loopS (sumC T) (sumB T ex) 600 (prodS T ex s)
def testC (T : TX) (s : PS) : Bool := sgS T 60 s || sgS T 61 s
def testB (T : TX) (ex : PS → PS) (s : PS) : PS := ruS (if sgS T 60 s = true then -11 else -12) (sumS T ex (advS T s))
def testS (T : TX) (ex : PS → PS) (s : PS) : PS := if testC T (sumS T ex s) = true then testB T ex (sumS T ex s) else sumS T ex s
/-- how many 'not' stand here (at most k), and what is behind them -/
def notN (T : TX) : Nat → PS → Nat × PS
  | 0, s => (0, s)
  | k + 1, s => if wdS T w_not s = true then ((notN T k (advS T s)).1 + 1, (notN T k (advS T s)).2) else (0, s)
def repS (x : Int32) : Nat → PS → PS
  | 0, s => s
  | k + 1, s => repS x k (ruS x s)
def notM (T : TX) (s : PS) : PS := if wdS T w_not s = true then fltS 2 s else s
def notS (T : TX) (ex : PS → PS) (s : PS) : PS := repS (-10) (notN T 6 s).1 (testS T ex (notM T (notN T 6 s).2))
def andB (T : TX) (ex : PS → PS) (s : PS) : PS := ruS (-9) (notS T ex (advS T s))
def andS (T : TX) (ex : PS → PS) (s : PS) : PS := loopS (wdS T w_and) (andB T ex) 600 (notS T ex s)
def orB (T : TX) (ex : PS → PS) (s : PS) : PS := ruS (-8) (andS T ex (advS T s))
def orS (T : TX) (ex : PS → PS) (s : PS) : PS := loopS (wdS T w_or) (orB T ex) 600 (andS T ex s)
/-- whether a PART may begin here -/
def mayS (T : TX) (s : PS) : Bool := kiS T 2 s || kiS T 1 s || sgS T 40 s
/-- an EXPR within 6 - l others -/
def exprS (T : TX) : Nat → PS → PS
  | 0, s => fltS (if mayS T s = true then 2 else 1) s
  | l + 1, s => orS T (exprS T l) s
/-! lines -/
def newS (T : TX) : PS → PS
  | .inl x => .inl x
  | .inr (a, B) => if 7 ≤ bC B then .inl (2, a) else .inr (nxT T a, B)
/-- one more sleeper -/
def slS (f : Nat → Int32) : PS → PS
  | .inl x => .inl x
  | .inr (a, B) => .inr (a, (B.1 + 1, (fun k s => if s = B.1 then f k else B.2.1 k s), B.2.2))
def setX (B : BD) (i : Nat) (v : Int32) : BD := (B.1, B.2.1, B.2.2.1, (fun k => if k = i then v else B.2.2.2.1 k), B.2.2.2.2)
def scS (i : Nat) (v : Int32) : PS → PS
  | .inl x => .inl x
  | .inr (a, B) => .inr (a, setX B i v)
def onS (T : TX) (l : Int32) : PS → PS
  | .inl x => .inl x
  | .inr (a, B) => if bX B 5 &&& l = 0 then .inr (nxT T a, setX B 5 (bX B 5 ||| l)) else .inl (5, a)
def kd7 (x1 x2 x3 x4 x5 x6 x7 : Int32) : Nat → Int32 := fun k => if k = 1 then x1 else if k = 2 then x2 else if k = 3 then x3 else if k = 4 then x4 else if k = 5 then x5 else if k = 6 then x6 else if k = 7 then x7 else 0
def peS (T : TX) (kd : Int32) (s : PS) : PS :=
  let s1 := newS T s
  let s2 := tkS T 1 240 s1
  let s3 := tkS T 1 240 s2
  let s4 := tkS T 0 9 s3
  let s5 := tkS T 1 9 s4
  let s6 := tkS T 0 600 s5
  slS (kd7 kd (nI (vaS T s1)) (nI (vaS T s2)) (nI (vaS T s3)) (nI (vaS T s4)) (nI (vaS T s5)) (nI (vaS T s6))) (tkS T 0 10 s6)
def dgS (T : TX) (s : PS) : PS := slS (kd7 3 0 0 0 (nI (vaS T (newS T s))) 0 0) (tkS T 1 9 (newS T s))
def bdS (T : TX) (s : PS) : PS :=
  let s1 := onS T 1 s
  let s2 := scS 0 (nI (vaS T s1)) (tkS T 1 99 s1)
  scS 1 (nI (vaS T s2)) (tkS T 0 9 s2)
def niS (T : TX) (s : PS) : PS := scS 2 (nI (vaS T (onS T 2 s))) (tkS T 1 600 (onS T 2 s))
def awS (T : TX) (s : PS) : PS := scS 3 (nI (vaS T (onS T 4 s))) (tkS T 0 60 (onS T 4 s))
/-- a second BOLSTER at its PLACE -/
def boC (T : TX) : PS → Bool
  | .inl _ => false
  | .inr (a, B) => inN T a 1 6 && decide ((bX B 4 >>> (nI (numT T a) &&& 31)) &&& 1 = 1)
def boD (T : TX) (s : PS) : PS := if boC T s = true then fltS 5 s else s
def orX (v : Int32) : PS → PS
  | .inl x => .inl x
  | .inr (a, B) => .inr (a, setX B 4 (bX B 4 ||| v))
def boS (T : TX) (s : PS) : PS := orX (1 <<< (nI (vaS T (boD T (advS T s))) &&& 31)) (tkS T 1 6 (boD T (advS T s)))
def neF : PS → PS
  | .inl x => .inl x
  | .inr (a, B) => if 6 ≤ bN B then .inl (2, a) else .inr (a, B)
/-- a SLEEPER that isn't told ahead -/
def unS (T : TX) : PS → PS
  | .inl x => .inl x
  | .inr (a, B) => if inN T a (bC B) 9999 = true then .inl (3, a) else .inr (a, B)
def agS (T : TX) (v : Nat) : PS → PS
  | .inl x => .inl x
  | .inr (a, B) => if kdT T a = 2 ∧ numT T a < bC B ∧ (numT T a = v ∨ (bE B v >>> (nI (numT T a) &&& 31)) &&& 1 = 1) then .inl (4, a) else .inr (a, B)
def nvS (x y : Nat) : PS → PS
  | .inl z => .inl z
  | .inr (a, B) => .inr (a, (B.1, B.2.1, (fun s => if s = y then (if y = x then bE B x ||| (1 <<< (nI y &&& 31)) else bE B y) ||| (1 <<< (nI x &&& 31)) else if s = x then bE B x ||| (1 <<< (nI y &&& 31)) else bE B s), B.2.2.2.1, B.2.2.2.2.1 + 1, B.2.2.2.2.2))
def neS (T : TX) (s : PS) : PS :=
  let s1 := unS T (advS T (neF s))
  let s2 := unS T (tkS T 0 9999 s1)
  let s3 := agS T (vaS T s1) s2
  nvS (vaS T s1) (vaS T s3) (tkS T 0 9999 s3)
def lineS (T : TX) (s : PS) : PS :=
  if wdS T w_sleeper s = true then peS T 0 s else if wdS T w_child s = true then peS T 1 s else if wdS T w_snorer s = true then peS T 2 s else if wdS T w_dog s = true then dgS T s
  else if wdS T w_bolster s = true then boS T s else if wdS T w_never s = true then neS T s else if wdS T w_wakes s = true then exprS T 6 (onS T 8 s)
  else if wdS T w_bed s = true then bdS T s else if wdS T w_night s = true then niS T s else if wdS T w_awake s = true then awS T s else fltS 1 s
def liS (T : TX) (s : PS) : PS := sgnS T 59 (lineS T s)
def goC (T : TX) : PS → Bool
  | .inl _ => false
  | .inr (a, _) => decide (¬ kdT T a = 0)
def bd0 : BD := (0, fun _ _ => 0, fun _ => 0, fun k => if k = 0 then 20 else if k = 1 then 3 else if k = 2 then 480 else if k = 3 then 15 else 0, 0, [])
def textS (T : TX) : PS := loopS (goC T) (liS T) T.2 (.inr (toB T 0, bd0))
