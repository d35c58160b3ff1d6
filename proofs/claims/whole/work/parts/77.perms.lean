/-! All rows of L: by the next one, and by laying one behind the other -/
/-- the bits of those that are left, without s -/
def clrN (M s : Nat) : Nat := if M.testBit s then M - 2 ^ s else M
/-- all rows of those in M behind pre, n of them; al says who may lie where -/
def dfsP (L : Nat) (al : List Nat → Nat → Bool) : Nat → Nat → List Nat → List (List Nat)
  | 0, _, pre => [pre]
  | n + 1, M, pre => (List.range L).flatMap (fun s => if M.testBit s && al pre s then dfsP L al n (clrN M s) (pre ++ [s]) else [])
def permL (L : Nat) : List (List Nat) := dfsP L (fun _ _ => true) L (2 ^ L - 1) []
def chkP : List (List Nat) → Bool
  | [] => false
  | x :: r => match r with
    | [] => nextF x == none
    | y :: _ => (nextF x == some y) && chkP r
def isPB (L : Nat) (l : List Nat) : Bool := decide (l.length = L) && (List.range L).all (fun i => decide (gN l i < L) && (List.range L).all (fun j => decide (gN l i = gN l j → i = j)) && (List.range L).any (fun j => decide (gN l j = i)))
theorem perm_chk : ∀ L, L < 7 → (chkP (permL L) && (permL L).all (isPB L) && decide ((permL L).length ≤ 720) && decide ((permL L).head? = some (List.range L))) = true := by decide +kernel
theorem mask_all : ∀ L, L < 7 → (1 <<< (nI L &&& 31)) - 1 = nI (2 ^ L - 1) ∧ 2 ^ L - 1 < 64 := by decide +kernel
theorem mask_bit : ∀ M, M < 64 → ∀ s, s < 6 → (((nI M >>> (nI s &&& 31)) &&& 1 = 0) ↔ M.testBit s = false) := by decide +kernel
theorem mask_clr : ∀ M, M < 64 → ∀ s, s < 6 → M.testBit s = true → nI M &&& ((1 <<< (nI s &&& 31)) ^^^ -1) = nI (clrN M s) ∧ clrN M s < 64 := by decide +kernel
/-- who must not lie beside whom -/
def neV (ne : Nat → Int32) (x y : Nat) : Bool := decide ((ne x >>> (nI y &&& 31)) &&& 1 = 1)
def alN (ne : Nat → Int32) (pre : List Nat) (s : Nat) : Bool := decide (pre.length = 0) || !neV ne (gN pre (pre.length - 1)) s
/-- from place p on nobody lies beside one he must not -/
def okN (ne : Nat → Int32) (p : Nat) (l : List Nat) : Bool := (List.range l.length).all (fun k => decide (k = 0) || decide (k < p) || !neV ne (gN l (k - 1)) (gN l k))
theorem okN_iff {ne : Nat → Int32} {p : Nat} {l : List Nat} : okN ne p l = true ↔ ∀ k, k < l.length → ¬ k = 0 → p ≤ k → neV ne (gN l (k - 1)) (gN l k) = false := by
  unfold okN
  rw [List.all_eq_true]
  constructor
  · intro h k hk h0 hp
    have := h k (List.mem_range.mpr hk)
    simp only [Bool.or_eq_true, decide_eq_true_eq, Bool.not_eq_true'] at this
    rcases this with (z | z) | z
    · exact absurd z h0
    · omega
    · exact z
  · intro h k hk
    have hk := List.mem_range.mp hk
    simp only [Bool.or_eq_true, decide_eq_true_eq, Bool.not_eq_true']
    by_cases h0 : k = 0
    · exact Or.inl (Or.inl h0)
    · by_cases hp : k < p
      · exact Or.inl (Or.inr hp)
      · exact Or.inr (h k hk h0 (by omega))
theorem gN_app {pre : List Nat} {s i : Nat} (h : i < pre.length) : gN (pre ++ [s]) i = gN pre i := by
  unfold gN
  rw [List.getD_eq_getElem?_getD, List.getD_eq_getElem?_getD, List.getElem?_append_left h]
theorem gN_end {pre : List Nat} {s : Nat} : gN (pre ++ [s]) pre.length = s := by
  unfold gN
  rw [List.getD_eq_getElem?_getD, List.getElem?_append_right (Nat.le_refl _), Nat.sub_self]
  rfl
/-- each row found begins with pre -/
theorem dfs_pre {L : Nat} {al : List Nat → Nat → Bool} : ∀ n M pre l, l ∈ dfsP L al n M pre → l.length = pre.length + n ∧ ∀ i, i < pre.length → gN l i = gN pre i := by
  intro n
  induction n with
  | zero =>
    intro M pre l h
    rw [show l = pre from List.mem_singleton.mp h]
    exact ⟨rfl, fun _ _ => rfl⟩
  | succ n ih =>
    intro M pre l h
    obtain ⟨s, hs, h⟩ := List.mem_flatMap.mp h
    by_cases hc : (M.testBit s && al pre s) = true
    · rw [if_pos hc] at h
      obtain ⟨a, b⟩ := ih _ _ _ h
      rw [List.length_append] at a b
      refine ⟨by simp at a; omega, fun i hi => ?_⟩
      rw [b i (by simp; omega), gN_app hi]
    · rw [if_neg hc] at h; cases h
theorem filter_none {α : Type} {p : α → Bool} {l : List α} (h : ∀ x ∈ l, p x = false) : l.filter p = [] := by
  rw [List.filter_eq_nil_iff]
  intro x hx
  rw [h x hx]; decide
theorem dfs_filter {L : Nat} {ne : Nat → Int32} : ∀ n M pre, dfsP L (alN ne) n M pre = (dfsP L (fun _ _ => true) n M pre).filter (okN ne pre.length) := by
  intro n
  induction n with
  | zero =>
    intro M pre
    have : okN ne pre.length pre = true := okN_iff.mpr (fun k hk _ hp => by omega)
    show [pre] = [pre].filter _
    rw [List.filter_cons_of_pos this]; rfl
  | succ n ih =>
    intro M pre
    show (List.range L).flatMap _ = ((List.range L).flatMap _).filter _
    rw [List.filter_flatMap]
    congr 1
    funext s
    by_cases hb : M.testBit s = true
    · by_cases ha : alN ne pre s = true
      · rw [if_pos (by rw [hb, ha]; rfl), if_pos (by rw [hb]; rfl), ih]
        apply List.filter_congr
        intro l hl
        obtain ⟨a, b⟩ := dfs_pre _ _ _ _ hl
        have al : (pre ++ [s]).length = pre.length + 1 := by simp
        rw [al] at a b
        rw [al]
        have e : okN ne (pre.length + 1) l = true ↔ okN ne pre.length l = true := by
          rw [okN_iff, okN_iff]
          constructor
          · intro h k hk h0 hp
            rcases Nat.lt_or_ge pre.length k with z | z
            · exact h k hk h0 (by omega)
            · have hkp : k = pre.length := by omega
              subst hkp
              rw [b (pre.length - 1) (by omega), b pre.length (by omega), gN_end, gN_app (by omega)]
              unfold alN at ha
              rw [Bool.or_eq_true, decide_eq_true_eq, Bool.not_eq_true'] at ha
              exact ha.resolve_left h0
          · intro h k hk h0 hp
            exact h k hk h0 (by omega)
        rcases hx : okN ne (pre.length + 1) l <;> rcases hy : okN ne pre.length l
        · rfl
        · rw [e.mpr hy] at hx; cases hx
        · rw [e.mp hx] at hy; cases hy
        · rfl
      · rw [if_neg (by rw [hb]; simpa using ha), if_pos (by rw [hb]; rfl)]
        symm
        apply filter_none
        intro l hl
        obtain ⟨a, b⟩ := dfs_pre _ _ _ _ hl
        have al : (pre ++ [s]).length = pre.length + 1 := by simp
        rw [al] at a b
        rcases hx : okN ne pre.length l
        · rfl
        · exfalso
          apply ha
          unfold alN
          rw [Bool.or_eq_true, decide_eq_true_eq, Bool.not_eq_true']
          by_cases h0 : pre.length = 0
          · exact Or.inl h0
          · have := okN_iff.mp hx pre.length (by omega) h0 (Nat.le_refl _)
            rw [b (pre.length - 1) (by omega), b pre.length (by omega), gN_end, gN_app (by omega)] at this
            exact Or.inr this
    · rw [if_neg (by simp [hb]), if_neg (by simp [hb])]; rfl
/-- what a row of all is -/
def PermOK (L : Nat) (l : List Nat) : Prop := l.length = L ∧ (∀ i, i < L → gN l i < L) ∧ (∀ i j, i < L → j < L → gN l i = gN l j → i = j) ∧ (∀ s, s < L → ∃ i, i < L ∧ gN l i = s)
theorem isPB_ok {L : Nat} {l : List Nat} (h : isPB L l = true) : PermOK L l := by
  unfold isPB at h
  rw [Bool.and_eq_true, decide_eq_true_eq, List.all_eq_true] at h
  obtain ⟨h1, h2⟩ := h
  have h3 : ∀ i, i < L → gN l i < L ∧ (∀ j, j < L → gN l i = gN l j → i = j) ∧ ∃ j, j < L ∧ gN l j = i := fun i hi => by
    have := h2 i (List.mem_range.mpr hi)
    rw [Bool.and_eq_true, Bool.and_eq_true, decide_eq_true_eq, List.all_eq_true, List.any_eq_true] at this
    obtain ⟨⟨a, b⟩, j, hj, c⟩ := this
    exact ⟨a, fun j hj => of_decide_eq_true (b j (List.mem_range.mpr hj)), j, List.mem_range.mp hj, of_decide_eq_true c⟩
  exact ⟨h1, fun i hi => (h3 i hi).1, fun i j hi hj => (h3 i hi).2.1 j hj, fun s hs => (h3 s hs).2.2⟩
theorem perm_ok {L : Nat} (h : L < 7) : ∀ l ∈ permL L, PermOK L l := by
  have := perm_chk L h
  rw [Bool.and_eq_true, Bool.and_eq_true, Bool.and_eq_true, List.all_eq_true] at this
  exact fun l hl => isPB_ok (this.1.1.2 l hl)
theorem perm_len {L : Nat} (h : L < 7) : (permL L).length ≤ 720 := by
  have := perm_chk L h
  rw [Bool.and_eq_true, Bool.and_eq_true, decide_eq_true_eq] at this
  exact this.1.2
theorem perm_0 {L : Nat} (h : L < 7) : (permL L)[0]? = some (List.range L) := by
  have := perm_chk L h
  rw [Bool.and_eq_true, decide_eq_true_eq] at this
  rw [← List.head?_eq_getElem?]
  exact this.2
theorem chk_next : ∀ (P : List (List Nat)), chkP P = true → ∀ i x, P[i]? = some x → nextF x = P[i + 1]? := by
  intro P
  induction P with
  | nil => intro h; cases h
  | cons a r ih =>
    intro h i x hx
    cases r with
    | nil =>
      cases i with
      | zero =>
        have e : a = x := by simpa using hx
        subst e
        have h : (nextF a == none) = true := h
        rw [show nextF a = none by simpa using h]; rfl
      | succ i => simp at hx
    | cons b r =>
      have h : ((nextF a == some b) && chkP (b :: r)) = true := h
      rw [Bool.and_eq_true] at h
      cases i with
      | zero =>
        have e : a = x := by simpa using hx
        subst e
        rw [show nextF a = some b by simpa using h.1]; rfl
      | succ i => exact ih h.2 i x hx
theorem perm_next {L : Nat} (h : L < 7) {i : Nat} {x : List Nat} (hx : (permL L)[i]? = some x) : nextF x = (permL L)[i + 1]? := by
  have := perm_chk L h
  rw [Bool.and_eq_true, Bool.and_eq_true, Bool.and_eq_true] at this
  exact chk_next _ this.1.1.1 i x hx
theorem dfs_perm {L : Nat} {ne : Nat → Int32} : dfsP L (alN ne) L (2 ^ L - 1) [] = (permL L).filter (okN ne 0) := dfs_filter L (2 ^ L - 1) []
