/-! What holds of a text that is told: numbers in their bounds, a rule that lays one value -/
def okv (v : Int32) (h : Nat) : Prop := ∃ k, k ≤ h ∧ v = nI k
def lvB (B : BD) : Prop := bC B ≤ 7 ∧ rule1 (bR B) ∧ (bX B 5 &&& 8 = 0 → bR B = []) ∧ (∃ m, 1 ≤ m ∧ m ≤ 600 ∧ bX B 2 = nI m) ∧ okv (bX B 0) 99 ∧ okv (bX B 1) 9 ∧ okv (bX B 3) 60 ∧ ∀ s, s < bC B → okv (bL B 1 s) 3 ∧ okv (bL B 2 s) 240 ∧ okv (bL B 3 s) 240 ∧ okv (bL B 4 s) 9 ∧ okv (bL B 5 s) 9 ∧ okv (bL B 6 s) 600 ∧ okv (bL B 7 s) 10
def lvS : PS → Prop
  | .inl _ => True
  | .inr (_, B) => lvB B
theorem lv_of {s : PS} (h : ∀ a B, s = .inr (a, B) → lvB B) : lvS s := by
  cases s with
  | inl x => trivial
  | inr q => exact h q.1 q.2 rfl
theorem lv_on {s : PS} {a : Nat} {B : BD} (h : lvS s) (e : s = .inr (a, B)) : lvB B := by
  subst e
  exact h
theorem lv_flt {k : Nat} (s : PS) : lvS (fltS k s) := by cases s <;> trivial
theorem lv_adv {T : TX} {s : PS} (h : lvS s) : lvS (advS T s) := by
  cases s with
  | inl x => trivial
  | inr q => exact h
theorem lv_tk {T : TX} {lo hi : Nat} {s : PS} (h : lvS s) : lvS (tkS T lo hi s) := by
  unfold tkS
  split
  · split
    · exact lv_adv h
    · exact lv_flt s
  · exact lv_flt s
theorem lv_sgn {T : TX} {c : Int32} {s : PS} (h : lvS s) : lvS (sgnS T c s) := by
  unfold sgnS
  split
  · exact lv_adv h
  · exact lv_flt s
theorem tk_inr {T : TX} {lo hi a : Nat} {B : BD} {s : PS} (h : tkS T lo hi s = .inr (a, B)) : ∃ a0, s = .inr (a0, B) ∧ lo ≤ vaS T s ∧ vaS T s ≤ hi := by
  cases s with
  | inl x =>
    unfold tkS at h
    rw [if_neg (show ¬ kiS T 2 (.inl x) = true from (by show ¬ false = true; decide))] at h
    exact absurd (show (.inl x : PS) = .inr (a, B) from h) (fun z => by cases z)
  | inr q =>
    obtain ⟨a0, B0⟩ := q
    unfold tkS at h
    by_cases h1 : kiS T 2 (.inr (a0, B0)) = true
    · rw [if_pos h1] at h
      by_cases h2 : nwS T lo hi (.inr (a0, B0)) = true
      · rw [if_pos h2] at h
        have h3 : kdT T a0 = 2 ∧ lo ≤ numT T a0 ∧ numT T a0 ≤ hi := of_decide_eq_true h2
        have h4 : (.inr (nxT T a0, B0) : PS) = .inr (a, B) := h
        cases h4
        exact ⟨a0, rfl, h3.2.1, h3.2.2⟩
      · rw [if_neg h2] at h
        exact absurd (show (.inl (2, a0) : PS) = .inr (a, B) from h) (fun z => by cases z)
    · rw [if_neg h1] at h
      exact absurd (show (.inl (1, a0) : PS) = .inr (a, B) from h) (fun z => by cases z)
theorem new_inr {T : TX} {a : Nat} {B : BD} {s : PS} (h : newS T s = .inr (a, B)) : ∃ a0, s = .inr (a0, B) ∧ bC B < 7 := by
  cases s with
  | inl x => exact absurd (show (.inl x : PS) = .inr (a, B) from h) (fun z => by cases z)
  | inr q =>
    obtain ⟨a0, B0⟩ := q
    have h : (if 7 ≤ bC B0 then .inl (2, a0) else .inr (nxT T a0, B0) : PS) = .inr (a, B) := h
    by_cases h1 : 7 ≤ bC B0
    · rw [if_pos h1] at h
      cases h
    · rw [if_neg h1] at h
      cases h
      exact ⟨a0, rfl, by omega⟩
theorem on_inr {T : TX} {l : Int32} {a : Nat} {B : BD} {s : PS} (h : onS T l s = .inr (a, B)) : ∃ a0 B0, s = .inr (a0, B0) ∧ bX B0 5 &&& l = 0 ∧ B = setX B0 5 (bX B0 5 ||| l) := by
  cases s with
  | inl x => exact absurd (show (.inl x : PS) = .inr (a, B) from h) (fun z => by cases z)
  | inr q =>
    obtain ⟨a0, B0⟩ := q
    have h : (if bX B0 5 &&& l = 0 then .inr (nxT T a0, setX B0 5 (bX B0 5 ||| l)) else .inl (5, a0) : PS) = .inr (a, B) := h
    by_cases h1 : bX B0 5 &&& l = 0
    · rw [if_pos h1] at h
      cases h
      exact ⟨a0, B0, rfl, h1, rfl⟩
    · rw [if_neg h1] at h
      cases h
theorem sc_inr {i a : Nat} {v : Int32} {B : BD} {s : PS} (h : scS i v s = .inr (a, B)) : ∃ B0, s = .inr (a, B0) ∧ B = setX B0 i v := by
  cases s with
  | inl x => exact absurd (show (.inl x : PS) = .inr (a, B) from h) (fun z => by cases z)
  | inr q =>
    obtain ⟨a0, B0⟩ := q
    have h4 : (.inr (a0, setX B0 i v) : PS) = .inr (a, B) := h
    cases h4
    exact ⟨B0, rfl, rfl⟩
theorem sl_inr {f : Nat → Int32} {a : Nat} {B : BD} {s : PS} (h : slS f s = .inr (a, B)) : ∃ B0, s = .inr (a, B0) ∧ B = (B0.1 + 1, (fun k s => if s = B0.1 then f k else B0.2.1 k s), B0.2.2) := by
  cases s with
  | inl x => exact absurd (show (.inl x : PS) = .inr (a, B) from h) (fun z => by cases z)
  | inr q =>
    obtain ⟨a0, B0⟩ := q
    have h4 : (.inr (a0, (B0.1 + 1, (fun k s => if s = B0.1 then f k else B0.2.1 k s), B0.2.2)) : PS) = .inr (a, B) := h
    cases h4
    exact ⟨B0, rfl, rfl⟩
theorem lv_sl {f : Nat → Int32} {B : BD} (h : lvB B) (hc : bC B < 7) (hf : okv (f 1) 3 ∧ okv (f 2) 240 ∧ okv (f 3) 240 ∧ okv (f 4) 9 ∧ okv (f 5) 9 ∧ okv (f 6) 600 ∧ okv (f 7) 10) : lvB (B.1 + 1, (fun k s => if s = B.1 then f k else B.2.1 k s), B.2.2) := by
  obtain ⟨c1, c2, c3, c4, c5, c6, c7, c8⟩ := h
  refine ⟨hc, c2, c3, c4, c5, c6, c7, fun s hs => ?_⟩
  have hs : s < B.1 + 1 := hs
  have hv : ∀ k, bL (B.1 + 1, (fun k s => if s = B.1 then f k else B.2.1 k s), B.2.2) k s = if s = B.1 then f k else bL B k s := fun _ => rfl
  simp only [hv]
  by_cases e : s = B.1
  · simp only [if_pos e]
    exact hf
  · simp only [if_neg e]
    exact c8 s (show s < B.1 by omega)
theorem ok_na {k h : Nat} (z : k ≤ h) : okv (nI k) h := ⟨k, z, rfl⟩
theorem ok_0 {h : Nat} : okv 0 h := ⟨0, Nat.zero_le _, rfl⟩
theorem lv_pe {T : TX} {k : Nat} {s : PS} (hk : k ≤ 3) (h : lvS s) : lvS (peS T (nI k) s) := by
  refine lv_of fun a B e => ?_
  unfold peS at e
  obtain ⟨B0, e1, rfl⟩ := sl_inr e
  obtain ⟨a6, e6, -, v6⟩ := tk_inr e1
  obtain ⟨a5, e5, -, v5⟩ := tk_inr e6
  obtain ⟨a4, e4, -, v4⟩ := tk_inr e5
  obtain ⟨a3, e3, -, v3⟩ := tk_inr e4
  obtain ⟨a2, e2, -, v2⟩ := tk_inr e3
  obtain ⟨a1, e0, -, v1⟩ := tk_inr e2
  obtain ⟨a0, hs, hc⟩ := new_inr e0
  exact lv_sl (lv_on h hs) hc ⟨ok_na hk, ok_na v1, ok_na v2, ok_na v3, ok_na v4, ok_na v5, ok_na v6⟩
theorem lv_dg {T : TX} {s : PS} (h : lvS s) : lvS (dgS T s) := by
  refine lv_of fun a B e => ?_
  unfold dgS at e
  obtain ⟨B0, e1, rfl⟩ := sl_inr e
  obtain ⟨a1, e0, -, v1⟩ := tk_inr e1
  obtain ⟨a0, hs, hc⟩ := new_inr e0
  exact lv_sl (lv_on h hs) hc ⟨ok_na (k := 3) (Nat.le_refl _), ok_0, ok_0, ok_0, ok_na v1, ok_0, ok_0⟩
theorem or_and8 (v : Int32) : (v ||| 8) &&& 8 = 8 := by
  refine Int32.toBitVec_inj.mp (BitVec.eq_of_getLsbD_eq fun i hi => ?_)
  rw [Int32.toBitVec_and, Int32.toBitVec_or, BitVec.getLsbD_and, BitVec.getLsbD_or]
  cases v.toBitVec.getLsbD i <;> cases (8 : Int32).toBitVec.getLsbD i <;> rfl
theorem or_and8n {v l : Int32} (h : (v ||| l) &&& 8 = 0) : v &&& 8 = 0 := by
  refine Int32.toBitVec_inj.mp (BitVec.eq_of_getLsbD_eq fun i hi => ?_)
  have e : ((v ||| l) &&& 8).toBitVec.getLsbD i = (0 : Int32).toBitVec.getLsbD i := by rw [h]
  rw [Int32.toBitVec_and, Int32.toBitVec_or, BitVec.getLsbD_and, BitVec.getLsbD_or] at e
  rw [Int32.toBitVec_and, BitVec.getLsbD_and]
  revert e
  have z : (0 : Int32).toBitVec.getLsbD i = false := BitVec.getLsbD_zero
  rw [z]
  cases v.toBitVec.getLsbD i <;> cases l.toBitVec.getLsbD i <;> cases (8 : Int32).toBitVec.getLsbD i <;> decide
/-- what a line that stands once leaves -/
theorem lv_once {B : BD} {l : Int32} (h : lvB B) : lvB (setX B 5 (bX B 5 ||| l)) := ⟨h.1, h.2.1, fun z => h.2.2.1 (or_and8n z), h.2.2.2⟩
theorem lv_x0 {B : BD} {v : Int32} (h : lvB B) (hv : okv v 99) : lvB (setX B 0 v) := ⟨h.1, h.2.1, h.2.2.1, h.2.2.2.1, hv, h.2.2.2.2.2⟩
theorem lv_x1 {B : BD} {v : Int32} (h : lvB B) (hv : okv v 9) : lvB (setX B 1 v) := ⟨h.1, h.2.1, h.2.2.1, h.2.2.2.1, h.2.2.2.2.1, hv, h.2.2.2.2.2.2⟩
theorem lv_x2 {B : BD} {v : Int32} (h : lvB B) (hv : ∃ m, 1 ≤ m ∧ m ≤ 600 ∧ v = nI m) : lvB (setX B 2 v) := ⟨h.1, h.2.1, h.2.2.1, hv, h.2.2.2.2⟩
theorem lv_x3 {B : BD} {v : Int32} (h : lvB B) (hv : okv v 60) : lvB (setX B 3 v) := ⟨h.1, h.2.1, h.2.2.1, h.2.2.2.1, h.2.2.2.2.1, h.2.2.2.2.2.1, hv, h.2.2.2.2.2.2.2⟩
theorem lv_x4 {B : BD} {v : Int32} (h : lvB B) : lvB (setX B 4 v) := ⟨h.1, h.2.1, h.2.2.1, h.2.2.2.1, h.2.2.2.2.1, h.2.2.2.2.2.1, h.2.2.2.2.2.2.1, h.2.2.2.2.2.2.2⟩
theorem lv_bd {T : TX} {s : PS} (h : lvS s) : lvS (bdS T s) := by
  refine lv_of fun a B e => ?_
  unfold bdS at e
  obtain ⟨B1, e1, rfl⟩ := sc_inr e
  obtain ⟨a1, e2, -, v2⟩ := tk_inr e1
  obtain ⟨B2, e3, rfl⟩ := sc_inr e2
  obtain ⟨a3, e4, -, v4⟩ := tk_inr e3
  obtain ⟨a5, B5, hs, -, rfl⟩ := on_inr e4
  exact lv_x1 (lv_x0 (lv_once (lv_on h hs)) (ok_na v4)) (ok_na v2)
theorem lv_ni {T : TX} {s : PS} (h : lvS s) : lvS (niS T s) := by
  refine lv_of fun a B e => ?_
  unfold niS at e
  obtain ⟨B1, e1, rfl⟩ := sc_inr e
  obtain ⟨a1, e2, v1, v2⟩ := tk_inr e1
  obtain ⟨a5, B5, hs, -, rfl⟩ := on_inr e2
  exact lv_x2 (lv_once (lv_on h hs)) ⟨_, v1, v2, rfl⟩
theorem lv_aw {T : TX} {s : PS} (h : lvS s) : lvS (awS T s) := by
  refine lv_of fun a B e => ?_
  unfold awS at e
  obtain ⟨B1, e1, rfl⟩ := sc_inr e
  obtain ⟨a1, e2, -, v2⟩ := tk_inr e1
  obtain ⟨a5, B5, hs, -, rfl⟩ := on_inr e2
  exact lv_x3 (lv_once (lv_on h hs)) (ok_na v2)
theorem lv_bo {T : TX} {s : PS} (h : lvS s) : lvS (boS T s) := by
  unfold boS
  have h1 : lvS (boD T (advS T s)) := by
    unfold boD
    split
    · exact lv_flt _
    · exact lv_adv h
  have h2 := lv_tk (T := T) (lo := 1) (hi := 6) h1
  cases hz : tkS T 1 6 (boD T (advS T s)) with
  | inl x => trivial
  | inr q => exact lv_x4 (lv_on h2 hz)
theorem lv_neF {s : PS} (h : lvS s) : lvS (neF s) := by
  cases s with
  | inl x => trivial
  | inr q =>
    show lvS (if 6 ≤ bN q.2 then .inl (2, q.1) else .inr (q.1, q.2))
    split
    · trivial
    · exact h
theorem lv_un {T : TX} {s : PS} (h : lvS s) : lvS (unS T s) := by
  cases s with
  | inl x => trivial
  | inr q =>
    show lvS (if inN T q.1 (bC q.2) 9999 = true then .inl (3, q.1) else .inr (q.1, q.2))
    split
    · trivial
    · exact h
theorem lv_ag {T : TX} {v : Nat} {s : PS} (h : lvS s) : lvS (agS T v s) := by
  cases s with
  | inl x => trivial
  | inr q =>
    show lvS (if kdT T q.1 = 2 ∧ numT T q.1 < bC q.2 ∧ (numT T q.1 = v ∨ (bE q.2 v >>> (nI (numT T q.1) &&& 31)) &&& 1 = 1) then .inl (4, q.1) else .inr (q.1, q.2))
    split
    · trivial
    · exact h
theorem lv_nv {x y : Nat} {s : PS} (h : lvS s) : lvS (nvS x y s) := by
  cases s with
  | inl z => trivial
  | inr q => exact h
theorem lv_ne {T : TX} {s : PS} (h : lvS s) : lvS (neS T s) := lv_nv (lv_tk (lv_ag (lv_un (lv_tk (lv_un (lv_adv (lv_neF h)))))))
theorem lv_wk {T : TX} {s : PS} (h : lvS s) : lvS (exprS T 6 (onS T 8 s)) := by
  rcases expr_ext (T := T) 6 (onS T 8 s) with ⟨x, e⟩ | ⟨a, B, a2, X, e, e2, -, hd⟩
  · rw [e]; trivial
  · obtain ⟨a0, B0, hs, h0, rfl⟩ := on_inr e
    have hB := lv_on h hs
    rw [e2]
    have hR : bR (addR (setX B0 5 (bX B0 5 ||| 8)) X) = X := by
      show bR B0 ++ X = X
      rw [hB.2.2.1 h0]; rfl
    refine ⟨hB.1, ?_, fun z => ?_, hB.2.2.2⟩
    · rw [hR]; exact Or.inr (hd 0 (by decide))
    · have z : (bX B0 5 ||| 8) &&& 8 = 0 := z
      rw [or_and8] at z
      exact absurd z (by decide)
theorem lv_line {T : TX} {s : PS} (h : lvS s) : lvS (lineS T s) := by
  unfold lineS
  split
  · exact lv_pe (k := 0) (by decide) h
  split
  · exact lv_pe (k := 1) (by decide) h
  split
  · exact lv_pe (k := 2) (by decide) h
  split
  · exact lv_dg h
  split
  · exact lv_bo h
  split
  · exact lv_ne h
  split
  · exact lv_wk h
  split
  · exact lv_bd h
  split
  · exact lv_ni h
  split
  · exact lv_aw h
  · exact lv_flt s
theorem lv_loop {T : TX} : ∀ f s, lvS s → lvS (loopS (goC T) (liS T) f s) := by
  intro f
  induction f with
  | zero => intro s h; exact h
  | succ f ih =>
    intro s h
    show lvS (if goC T s = true then loopS (goC T) (liS T) f (liS T s) else s)
    split
    · exact ih _ (lv_sgn (lv_line h))
    · exact h
theorem lv_text {T : TX} {a : Nat} {B : BD} (e : textS T = .inr (a, B)) : lvB B := by
  refine lv_on (s := textS T) (lv_loop _ _ ?_) e
  exact ⟨Nat.zero_le _, Or.inl rfl, fun _ => rfl, ⟨480, by decide, by decide, rfl⟩, ⟨20, by decide, rfl⟩, ⟨3, by decide, rfl⟩, ⟨15, by decide, rfl⟩, fun s hs => absurd hs (Nat.not_lt_zero s)⟩
