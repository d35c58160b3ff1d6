/-! mlines, further on -/
def x5S (x : Int32) (s : PS) : Prop := ∀ a B, s = .inr (a, B) → bX B 5 = x
theorem x5_tk {T : TX} {lo hi : Nat} {x : Int32} {s : PS} (h : x5S x s) : x5S x (tkS T lo hi s) := fun a B z => by
  obtain ⟨a0, e, -⟩ := tk_live z
  exact h _ _ e
theorem x5_adv {T : TX} {x : Int32} {s : PS} (h : x5S x s) : x5S x (advS T s) := fun a B z => by
  obtain ⟨a0, e⟩ := adv_live z
  exact h _ _ e
theorem x5_flt {k : Nat} {x : Int32} {s : PS} : x5S x (fltS k s) := fun a B z => by cases s <;> cases z
theorem x5_sgn {T : TX} {c x : Int32} {s : PS} (h : x5S x s) : x5S x (sgnS T c s) := by
  unfold sgnS
  split
  · exact x5_adv h
  · exact x5_flt
theorem x5_new {T : TX} {x : Int32} {s : PS} (h : x5S x s) : x5S x (newS T s) := fun a B z => by
  cases s with
  | inl y => cases z
  | inr q =>
    have z : (if 7 ≤ bC q.2 then .inl (2, q.1) else .inr (nxT T q.1, q.2)) = (.inr (a, B) : PS) := z
    by_cases h1 : 7 ≤ bC q.2
    · rw [if_pos h1] at z; cases z
    · rw [if_neg h1] at z
      have z := Sum.inr.inj z
      cases z
      exact h _ _ rfl
theorem x5_sl {f : Nat → Int32} {x : Int32} {s : PS} (h : x5S x s) : x5S x (slS f s) := fun a B z => by
  cases s with
  | inl y => cases z
  | inr q =>
    have z := Sum.inr.inj z
    cases z
    show bX q.2 5 = x
    exact h _ _ rfl
theorem x5_sc {i : Nat} {v x : Int32} {s : PS} (hi : i < 5) (h : x5S x s) : x5S x (scS i v s) := fun a B z => by
  cases s with
  | inl y => cases z
  | inr q =>
    have z := Sum.inr.inj z
    cases z
    show (if 5 = i then v else bX q.2 5) = x
    rw [if_neg (by omega)]
    exact h _ _ rfl
theorem x5_or {v x : Int32} {s : PS} (h : x5S x s) : x5S x (orX v s) := fun a B z => by
  cases s with
  | inl y => cases z
  | inr q =>
    have z := Sum.inr.inj z
    cases z
    show (if 5 = 4 then bX q.2 4 ||| v else bX q.2 5) = x
    rw [if_neg (by omega)]
    exact h _ _ rfl
theorem x5_nv {v w : Nat} {x : Int32} {s : PS} (h : x5S x s) : x5S x (nvS v w s) := fun a B z => by
  cases s with
  | inl y => cases z
  | inr q =>
    have z := Sum.inr.inj z
    cases z
    show bX q.2 5 = x
    exact h _ _ rfl
theorem x5_nf {x : Int32} {s : PS} (h : x5S x s) : x5S x (neF s) := fun a B z => h _ _ (nf_live z).2
theorem x5_un {T : TX} {x : Int32} {s : PS} (h : x5S x s) : x5S x (unS T s) := fun a B z => h _ _ (un_live z).1
theorem x5_ag {T : TX} {v : Nat} {x : Int32} {s : PS} (h : x5S x s) : x5S x (agS T v s) := fun a B z => h _ _ (ag_live z).1
theorem x5_bd {T : TX} {x : Int32} {s : PS} (h : x5S x s) : x5S x (boD T s) := by
  unfold boD
  split
  · exact x5_flt
  · exact h
theorem x5_ext {k : Nat} {x : Int32} {s s2 : PS} (q : Ext k s s2) (h : x5S x s) : x5S x s2 := fun a B z => by
  rcases q with ⟨y, e⟩ | ⟨a0, B0, a2, X, e1, e2, -⟩
  · rw [e] at z; cases z
  · rw [e2] at z
    have z := Sum.inr.inj z
    cases z
    show bX B0 5 = x
    exact h _ _ e1
theorem x5_on {T : TX} {l x : Int32} {s : PS} (h : x5S x s) : x5S (x ||| l) (onS T l s) := fun a B z => by
  cases s with
  | inl y => cases z
  | inr q =>
    have hq := h q.1 q.2 rfl
    have z : (if bX q.2 5 &&& l = 0 then .inr (nxT T q.1, setX q.2 5 (bX q.2 5 ||| l)) else .inl (5, q.1)) = (.inr (a, B) : PS) := z
    by_cases h1 : bX q.2 5 &&& l = 0
    · rw [if_pos h1] at z
      have z := Sum.inr.inj z
      cases z
      show (if 5 = 5 then bX q.2 5 ||| l else bX q.2 5) = x ||| l
      rw [if_pos rfl, hq]
    · rw [if_neg h1] at z; cases z
theorem x5_pe {T : TX} {k x : Int32} {s : PS} (h : x5S x s) : x5S x (peS T k s) := x5_sl (x5_tk (x5_tk (x5_tk (x5_tk (x5_tk (x5_tk (x5_new h)))))))
theorem x5_dg {T : TX} {x : Int32} {s : PS} (h : x5S x s) : x5S x (dgS T s) := x5_sl (x5_tk (x5_new h))
theorem x5_bo {T : TX} {x : Int32} {s : PS} (h : x5S x s) : x5S x (boS T s) := x5_or (x5_tk (x5_bd (x5_adv h)))
theorem x5_ne {T : TX} {x : Int32} {s : PS} (h : x5S x s) : x5S x (neS T s) := x5_nv (x5_tk (x5_ag (x5_un (x5_tk (x5_un (x5_adv (x5_nf h)))))))
theorem isW_inj {T : TX} {a : Nat} {w w2 : List Int32} (h : isW T a w = true) (h2 : isW T a w2 = true) : w = w2 := by
  unfold isW at h h2
  rw [Bool.and_eq_true, decide_eq_true_eq, List.all_eq_true] at h h2
  have hl : w.length = w2.length := h.1.2.symm.trans h2.1.2
  refine List.ext_getElem? fun i => ?_
  rcases Nat.lt_or_ge i w.length with z | z
  · have e1 := of_decide_eq_true (h.2 i (List.mem_range.mpr z))
    have e2 := of_decide_eq_true (h2.2 i (List.mem_range.mpr (by omega)))
    rw [e1] at e2
    rw [List.getD_eq_getElem?_getD, List.getD_eq_getElem?_getD, List.getElem?_eq_getElem z, List.getElem?_eq_getElem (by omega)] at e2
    rw [List.getElem?_eq_getElem z, List.getElem?_eq_getElem (show i < w2.length by omega)]
    exact congrArg some e2
  · rw [List.getElem?_eq_none z, List.getElem?_eq_none (by omega)]
/-- two words don't stand at one place -/
theorem wd_no {T : TX} {w w2 : List Int32} {s : PS} (h : wdS T w s = true) (hne : ¬ w = w2) : ¬ wdS T w2 s = true := by
  cases s with
  | inl x => exact absurd h (by show ¬ false = true; decide)
  | inr q => exact fun z => hne (isW_inj (T := T) (a := q.1) h z)
theorem on_a {T : TX} {l : Int32} {a : Nat} {B : BD} (h : bX B 5 &&& l = 0) : onS T l (.inr (a, B)) = .inr (nxT T a, setX B 5 (bX B 5 ||| l)) := if_pos h
theorem on_b {T : TX} {l : Int32} {a : Nat} {B : BD} (h : ¬ bX B 5 &&& l = 0) : onS T l (.inr (a, B)) = .inl (5, a) := if_neg h
/-- the lines told once: only the model's reader keeps them elsewhere -/
theorem md_set5 {E0 E : HP} {T : TX} {a : Nat} {B : BD} {v : Int32} (y : CMd E0 E T (.inr (a, B))) : CMd E0 E T (.inr (a, setX B 5 v)) := by
  obtain ⟨c1, c2, c3, o1, o2, o3, o4, o5, o6, o7, o8, o9, o10⟩ := id y.2
  refine ⟨y.1, c1, c2, c3, o1, o2, o3, o4, fun i hi => ?_, o6, o7, o8, o9, o10⟩
  show _ = (if i = 5 then v else bX B i)
  rw [if_neg (by omega)]
  exact o5 i hi
