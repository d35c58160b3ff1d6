/-! A night, plainly: V says who lies how, S what has become of them -/
/-- how many lie; by place: 0 number, 1 kind, 2 left, 3 right, 4 light, 5 out; 0 every, 1 bolsters, 2 free, 3 awake, 4 first; the word's place; the rule -/
abbrev NV : Type := Nat × (Nat → Nat → Int32) × (Nat → Int32) × Nat × List Int32
/-- by place: 0 side, 1 since, 2 woken at, 3 times, 4 begun; 0 quiet, 1 latest turn, 2 woken; the turns -/
abbrev NS : Type := (Nat → Nat → Int32) × (Nat → Int32) × List (Int32 × Int32 × Int32 × Int32)
def vL (V : NV) : Nat := V.1
def vA (V : NV) : Nat → Nat → Int32 := V.2.1
def vS (V : NV) : Nat → Int32 := V.2.2.1
def vW (V : NV) : Nat := V.2.2.2.1
def vR (V : NV) : List Int32 := V.2.2.2.2
def nA (S : NS) : Nat → Nat → Int32 := S.1
def nS (S : NS) : Nat → Int32 := S.2.1
def nG (S : NS) : List (Int32 × Int32 × Int32 × Int32) := S.2.2
def canF (V : NV) (p : Nat) : Bool := decide (¬ vA V 1 p = 1 ∧ ¬ vA V 1 p = 3)
def awkF (V : NV) (f : Nat → Nat → Int32) (p t : Nat) : Bool := decide (0 < f 2 p ∧ nI t - f 2 p < vS V 3)
def snF (V : NV) (x : Int32) : Int32 := if x < 0 then 0 else if nI (vL V) ≤ x then 0 else if vA V 1 x.toNatClampNeg = 2 then 1 else 0
def offF (p q : Nat) : Int32 := if 0 ≤ nI p - nI q then nI p - nI q else 0 - (nI p - nI q)
def valF (V : NV) (f : Nat → Nat → Int32) (g p q t : Nat) : Nat → Int32
  | 0 => vA V 4 p
  | 1 => offF p q
  | 2 => nI g
  | 3 => nI t / 60
  | 4 => snF V (nI p - 1) + snF V (nI p + 1)
  | 5 => nI (vL V) - 1 - nI p
  | 6 => f 3 p
  | _ => 0
def stepS (vals : Nat → Int32) (s : Int32) (st : List Int32) : List Int32 :=
  if s < 0 then
    if s < -7 then
      if s = -10 then (match st with
        | a :: u => (if a = 0 then 1 else 0) :: u
        | [] => [])
      else (match st with
        | b :: a :: u => joinedV s a b :: u
        | x => x)
    else vals (-1 - s).toNatClampNeg :: st
  else s :: st
def evalS (vals : Nat → Int32) : List Int32 → List Int32 → List Int32
  | [], st => st
  | s :: r, st => evalS vals r (stepS vals s st)
def wakF (V : NV) (f : Nat → Nat → Int32) (g p q t : Nat) : Bool := if vR V = [] then decide (offF p q ≤ vA V 4 p) else decide (¬ (evalS (valF V f g p q t) (vR V) []).headD 0 = 0)
/-- whether p is woken by a turn of a .. b that q began -/
def wokeF (V : NV) (S : NS) (a b q t p : Nat) : Bool := decide (a ≤ p ∧ p < b ∧ ¬ p = q) && canF V p && !awkF V (nA S) p t && wakF V (nA S) (nG S).length p q t
def cntF (f : Nat → Bool) (a : Nat) : Nat → Nat
  | 0 => 0
  | k + 1 => cntF f a k + (if f (a + k) then 1 else 0)
def maxF (x y : Int32) : Int32 := if x < y then y else x
def minF (x y : Int32) : Int32 := if y < x then y else x
def flipF (V : NV) (f : Nat → Nat → Int32) (a b t : Nat) : Nat → Nat → Int32 := fun k p =>
  if a ≤ p ∧ p < b ∧ ¬ vA V 1 p = 3 then (if k = 0 then 1 - f 0 p else if k = 1 then nI t else f k p) else f k p
/-- those of whom w says so are woken -/
def wokenF (f : Nat → Nat → Int32) (w : Nat → Bool) (t : Nat) : Nat → Nat → Int32 := fun k p =>
  if w p then (if k = 2 then nI t else if k = 3 then f 3 p + 1 else f k p) else f k p
def begF (f : Nat → Nat → Int32) (q : Nat) : Nat → Nat → Int32 := fun k p => if k = 4 ∧ p = q then f 4 p + 1 else f k p
def sc3 (a b c : Int32) : Nat → Int32 := fun k => if k = 0 then a else if k = 1 then b else c
def turnF (V : NV) (S : NS) (a b q : Nat) (w : Int32) (t : Nat) : NS :=
  (begF (wokenF (flipF V (nA S) a b t) (wokeF V S a b q t) t) q,
   sc3 (maxF (nS S 0) (nI t - nS S 1 - 1)) (nI t) (nS S 2 + nI (cntF (wokeF V S a b q t) a (b - a))),
   nG S ++ [(nI t, vA V 0 q, nI (cntF (wokeF V S a b q t) a (b - a)), w)])
def tiredF (V : NV) (S : NS) (p t : Nat) : Bool := decide (¬ vA V 1 p = 3 ∧ nA S 1 p + (if nA S 0 p = 0 then vA V 2 p else vA V 3 p) ≤ nI t)
/-- the first tired one of k places from a on -/
def firstF (V : NV) (S : NS) (t a : Nat) : Nat → Option Nat
  | 0 => none
  | k + 1 => if tiredF V S a t then some a else firstF V S t (a + 1) k
def splitF (V : NV) (b : Nat) : Bool := decide (b = vL V ∨ ¬ vS V 2 = 0 ∨ (vS V 1 >>> (nI b &&& 31)) &&& 1 = 1)
/-- behind the groups up to b: what is, and where the next begins -/
def groupF (V : NV) (t : Nat) (S : NS) : Nat → NS × Nat
  | 0 => (S, 0)
  | b + 1 => if splitF V (b + 1) then
      ((match firstF V (groupF V t S b).1 t (groupF V t S b).2 (b + 1 - (groupF V t S b).2) with
        | none => (groupF V t S b).1
        | some q => turnF V (groupF V t S b).1 (groupF V t S b).2 (b + 1) q 0 t), b + 1)
    else groupF V t S b
def overW (V : NV) (S : NS) (p t : Nat) : Nat → Bool := fun q => decide (p < q ∧ q < vL V) && canF V q && !awkF V (nA S) q t
def overF (V : NV) (S : NS) (p t : Nat) : NS := (wokenF (nA S) (overW V S p t) t, sc3 (nS S 0) (nS S 1) (nS S 2 + nI (cntF (overW V S p t) (p + 1) (vL V - (p + 1)))), nG S)
def goneF (V : NV) (t : Nat) (S : NS) : Nat → NS
  | 0 => S
  | p + 1 => if vA V 5 p = nI t then overF V (goneF V t S p) p t else goneF V t S p
def wordF (V : NV) (t : Nat) : Bool := decide (0 < vS V 0 ∧ nI t - nI t / vS V 0 * vS V 0 = 0)
def minuteF (V : NV) (t : Nat) (S : NS) : NS := goneF V t (groupF V t (if wordF V t then turnF V S 0 (vL V) (vW V) 1 t else S) (vL V)).1 (vL V)
def startF (V : NV) : NS := (fun k _ => if k = 0 then vS V 4 else 0, fun _ => 0, [])
def nightF (V : NV) : Nat → NS
  | 0 => startF V
  | t + 1 => minuteF V (t + 1) (nightF V t)
/-- the rule's depth: never over 40, one thing at its end -/
def depS (s : Int32) (k : Nat) : Option Nat :=
  if s < 0 then
    if s < -7 then
      if s = -10 then (if k = 0 then none else some k)
      else (if k < 2 then none else some (k - 1))
    else (if k < 40 then some (k + 1) else none)
  else (if k < 40 then some (k + 1) else none)
def depthS : List Int32 → Nat → Option Nat
  | [], k => some k
  | s :: r, k => (depS s k).bind (depthS r)
def rule1 (L : List Int32) : Prop := L = [] ∨ depthS L 0 = some 1
