/-! What an EXPR adds to the rule, and how far it goes -/
theorem dep_cat {X Y : List Int32} : ∀ {k : Nat}, depthS (X ++ Y) k = (depthS X k).bind (depthS Y) := by
  induction X with
  | nil => intro k; rfl
  | cons s r ih =>
    intro k
    show (depS s k).bind (depthS (r ++ Y)) = ((depS s k).bind (depthS r)).bind (depthS Y)
    cases depS s k with
    | none => rfl
    | some j => exact ih
theorem addR_R (B : BD) (X : List Int32) : bR (addR B X) = bR B ++ X := rfl
theorem addR_2 (B : BD) (X Y : List Int32) : addR (addR B X) Y = addR B (X ++ Y) := by
  unfold addR
  rw [← List.append_assoc]
def Ext (h : Nat) (s s2 : PS) : Prop := (∃ x, s2 = .inl x) ∨ ∃ a B a2 X, s = .inr (a, B) ∧ s2 = .inr (a2, addR B X) ∧ X.length + a ≤ a2 ∧ ∀ k, k + h ≤ 40 → depthS X k = some (k + 1)
theorem ext_mono {h h2 : Nat} {s s2 : PS} (hh : h ≤ h2) (q : Ext h s s2) : Ext h2 s s2 := by
  rcases q with z | ⟨a, B, a2, X, e1, e2, e3, e4⟩
  · exact Or.inl z
  · exact Or.inr ⟨a, B, a2, X, e1, e2, e3, fun k hk => e4 k (by omega)⟩
theorem vl_r (T : TX) (s : PS) : vlS T s = 0 ∨ (vlS T s < 0 ∧ ¬ vlS T s < -7) := by
  unfold vlS
  split
  · exact Or.inr (by decide)
  · split
    · exact Or.inr (by decide)
    · split
      · exact Or.inr (by decide)
      · split
        · exact Or.inr (by decide)
        · split
          · exact Or.inr (by decide)
          · split
            · exact Or.inr (by decide)
            · split
              · exact Or.inr (by decide)
              · exact Or.inl rfl
theorem dep_v {v : Int32} {k : Nat} (h1 : v < 0) (h2 : ¬ v < -7) (hk : k < 40) : depthS [v] k = some (k + 1) := by
  show (depS v k).bind (depthS []) = _
  unfold depS
  rw [if_pos h1, if_neg h2, if_pos hk]
  rfl
theorem dep_n {v : Int32} {k : Nat} (h1 : ¬ v < 0) (hk : k < 40) : depthS [v] k = some (k + 1) := by
  show (depS v k).bind (depthS []) = _
  unfold depS
  rw [if_neg h1, if_pos hk]
  rfl
theorem dep_op {v : Int32} {k : Nat} (h2 : v < -7) (h3 : ¬ v = -10) : depthS [v] (k + 2) = some (k + 1) := by
  show (depS v (k + 2)).bind (depthS []) = _
  unfold depS
  rw [if_pos (Int32.lt_trans h2 (by decide)), if_pos h2, if_neg h3, if_neg (by omega)]
  rfl
theorem numN_lt {t : Nat → Int32} {a : Nat} : ∀ k, (∀ j, j < k → 48 ≤ t (a + j) ∧ t (a + j) ≤ 57) → numN t a k < 10 ^ k ∧ numN t a k + 1 ≤ 10 ^ k := by
  intro k
  induction k with
  | zero => intro _; exact ⟨Nat.zero_lt_one, Nat.le_refl _⟩
  | succ k ih =>
    intro h
    have h1 := (ih (fun j hj => h j (by omega))).2
    obtain ⟨h2, h3⟩ := h k (by omega)
    have h4 : dgT (t (a + k)) ≤ 9 := by
      unfold dgT
      have e : (t (a + k) - 48).toInt = (t (a + k)).toInt - 48 := by
        have a1 := Int32.le_iff_toInt_le.mp h2
        have a2 := Int32.le_iff_toInt_le.mp h3
        have b1 : (48 : Int32).toInt = 48 := by decide
        have b2 : (57 : Int32).toInt = 57 := by decide
        rw [b1] at a1
        rw [b2] at a2
        rw [Int32.toInt_sub, b1, Int.bmod_eq_of_le (by omega) (by omega)]
      have a2 := Int32.le_iff_toInt_le.mp h3
      have b2 : (57 : Int32).toInt = 57 := by decide
      rw [b2] at a2
      rw [Int32.toNatClampNeg, e]
      omega
    have e : numN t a (k + 1) = 10 * numN t a k + dgT (t (a + k)) := rfl
    have e2 : 10 ^ (k + 1) = 10 ^ k * 10 := Nat.pow_succ 10 k
    omega
theorem toE_cls {T : TX} {a k : Nat} (hk : k = 1 ∨ k = 2) (h : kdT T a = k) {j : Nat} (h1 : a ≤ j) (h2 : j < toE T a) : j < T.2 ∧ clsT (T.1 j) = k := by
  have hl : a < T.2 := kd_ne (by omega)
  unfold toE at h2
  rw [if_neg (by omega), if_pos (by omega), h] at h2
  by_cases e : a = j
  · subst e
    exact ⟨hl, by rw [← kd_lt hl]; exact h⟩
  · exact runT_all (show a + 1 ≤ j by omega) h2
theorem cls_2 {x : Int32} (h : clsT x = 2) : 48 ≤ x ∧ x ≤ 57 := by
  unfold clsT at h
  split at h
  · omega
  · split at h
    · assumption
    · split at h
      · omega
      · split at h <;> omega
theorem num_dig {T : TX} {a : Nat} (h : kdT T a = 2) : ∀ j, j < lenT T a → 48 ≤ T.1 (a + j) ∧ T.1 (a + j) ≤ 57 := fun j hj => cls_2 (toE_cls (Or.inr rfl) h (show a ≤ a + j by omega) (by unfold lenT at hj; omega)).2
theorem num_lt {T : TX} {a : Nat} (h : kdT T a = 2) : numT T a ≤ 10000 := by
  unfold numT
  by_cases hl : 4 < lenT T a
  · rw [if_pos hl]; exact Nat.le_refl _
  · rw [if_neg hl]
    have := (numN_lt (lenT T a) (num_dig h)).1
    have h2 : 10 ^ lenT T a ≤ 10 ^ 4 := Nat.pow_le_pow_right (by decide) (by omega)
    have h3 : 10 ^ 4 = 10000 := by decide
    omega
theorem in_num {T : TX} {a lo hi : Nat} (h : inN T a lo hi = true) : kdT T a = 2 ∧ lo ≤ numT T a ∧ numT T a ≤ hi := of_decide_eq_true h
theorem part_ext {T : TX} {ex : PS → PS} {he h : Nat} (hex : ∀ s, Ext he s (ex s)) (h1 : he ≤ h) (h2 : 1 ≤ h) : ∀ s, Ext h s (partS T ex s) := by
  intro s
  cases s with
  | inl x => exact Or.inl ⟨x, rfl⟩
  | inr q =>
    obtain ⟨a, B⟩ := q
    unfold partS
    by_cases c1 : sgS T 40 (.inr (a, B)) = true
    · rw [if_pos c1]
      have hk : ¬ kdT T a = 0 := by rw [isS_kd c1]; decide
      have hn := (nxT_le (T := T) (a := a)).2.2 hk
      rcases hex (advS T (.inr (a, B))) with ⟨x, e⟩ | ⟨a1, B1, a2, X, e1, e2, e3, e4⟩
      · rw [e]; exact Or.inl ⟨x, rfl⟩
      · have e1' : (nxT T a, B) = (a1, B1) := Sum.inr.inj e1
        cases e1'
        rw [e2]
        unfold sgnS
        by_cases c2 : sgS T 41 (.inr (a2, addR B X)) = true
        · rw [if_pos c2]
          have h9 := (nxT_le (T := T) (a := a2)).1
          exact Or.inr ⟨a, B, nxT T a2, X, rfl, rfl, by omega, fun k hk => e4 k (by omega)⟩
        · rw [if_neg c2]; exact Or.inl ⟨_, rfl⟩
    · rw [if_neg c1]
      by_cases c2 : kiS T 1 (.inr (a, B)) = true
      · rw [if_pos c2]
        unfold valS
        have hk : kdT T a = 1 := of_decide_eq_true c2
        have hn := (nxT_le (T := T) (a := a)).2.2 (by omega)
        rcases vl_r T (.inr (a, B)) with c3 | ⟨c3, c4⟩
        · rw [if_pos c3]; exact Or.inl ⟨_, rfl⟩
        · rw [if_neg (fun z => by rw [z] at c3; exact absurd c3 (by decide))]
          exact Or.inr ⟨a, B, nxT T a, [vlS T (.inr (a, B))], rfl, rfl, by show 1 + a ≤ _; omega, fun k hk => dep_v c3 c4 (by omega)⟩
      · rw [if_neg c2]
        unfold tkS
        by_cases c3 : kiS T 2 (.inr (a, B)) = true
        · rw [if_pos c3]
          by_cases c4 : nwS T 0 9999 (.inr (a, B)) = true
          · rw [if_pos c4]
            have hk : kdT T a = 2 := of_decide_eq_true c3
            have hn := (nxT_le (T := T) (a := a)).2.2 (by omega)
            have h9 := (in_num c4).2.2
            exact Or.inr ⟨a, B, nxT T a, [nI (vaS T (.inr (a, B)))], rfl, rfl, by show 1 + a ≤ _; omega, fun k hk => dep_n (nI_pos (by show numT T a < _; omega)) (by omega)⟩
          · rw [if_neg c4]; exact Or.inl ⟨_, rfl⟩
        · rw [if_neg c3]; exact Or.inl ⟨_, rfl⟩
def liv (T : TX) (s : PS) : Prop := ∃ a B, s = .inr (a, B) ∧ ¬ kdT T a = 0
theorem bin_ext {T : TX} {sub : PS → PS} {h0 h1 : Nat} {op : Int32} (ho : op < -7) (ho2 : ¬ op = -10) (hs : ∀ s, Ext h1 s (sub s)) (hh : h1 + 1 ≤ h0) {s0 s : PS} (h : Ext h0 s0 s) (hl : liv T s) : Ext h0 s0 (ruS op (sub (advS T s))) := by
  obtain ⟨a2, B2, rfl, hk⟩ := hl
  rcases h with ⟨x, e⟩ | ⟨a, B, a2', X, e1, e2, e3, e4⟩
  · cases e
  · have e2' := Sum.inr.inj e2
    cases e2'
    have hn := (nxT_le (T := T) (a := a2)).2.2 hk
    rcases hs (advS T (.inr (a2, addR B X))) with ⟨x, e⟩ | ⟨a3, B3, a4, Y, f1, f2, f3, f4⟩
    · rw [e]; exact Or.inl ⟨x, rfl⟩
    · have f1' : (nxT T a2, addR B X) = (a3, B3) := Sum.inr.inj f1
      cases f1'
      rw [f2]
      refine Or.inr ⟨a, B, a4, X ++ (Y ++ [op]), e1, ?_, ?_, fun k hk => ?_⟩
      · show Sum.inr (a4, addR (addR (addR B X) Y) [op]) = _
        rw [addR_2, addR_2]
      · rw [List.length_append, List.length_append]
        show X.length + (Y.length + 1) + a ≤ a4
        omega
      · rw [dep_cat, e4 k hk]
        show depthS (Y ++ [op]) (k + 1) = _
        rw [dep_cat, f4 (k + 1) (by omega)]
        exact dep_op ho ho2
theorem loop_ext {c : PS → Bool} {f : PS → PS} {h : Nat} {s0 : PS} (hf : ∀ s, Ext h s0 s → c s = true → Ext h s0 (f s)) : ∀ k s, Ext h s0 s → Ext h s0 (loopS c f k s) := by
  intro k
  induction k with
  | zero => intro s q; exact q
  | succ k ih =>
    intro s q
    show Ext h s0 (if c s = true then loopS c f k (f s) else s)
    by_cases hc : c s = true
    · rw [if_pos hc]; exact ih _ (hf s q hc)
    · rw [if_neg hc]; exact q
theorem liv_sg {T : TX} {c : Int32} {s : PS} (h : sgS T c s = true) : liv T s := by
  cases s with
  | inl x => exact absurd h (by show ¬ false = true; decide)
  | inr q => exact ⟨q.1, q.2, rfl, by rw [isS_kd (T := T) (a := q.1) (c := c) h]; decide⟩
theorem liv_wd {T : TX} {w : List Int32} {s : PS} (h : wdS T w s = true) : liv T s := by
  cases s with
  | inl x => exact absurd h (by show ¬ false = true; decide)
  | inr q => exact ⟨q.1, q.2, rfl, by rw [isW_kd (T := T) (a := q.1) (w := w) h]; decide⟩
theorem liv_or {T : TX} {c c2 : Int32} {s : PS} (h : (sgS T c s || sgS T c2 s) = true) : liv T s := by
  rw [Bool.or_eq_true] at h
  exact h.elim liv_sg liv_sg
theorem prod_ext {T : TX} {ex : PS → PS} {h : Nat} (hp : ∀ s, Ext h s (partS T ex s)) : ∀ s, Ext (h + 1) s (prodS T ex s) := fun s => loop_ext (fun s1 q hc => bin_ext (by split <;> decide) (by split <;> decide) hp (Nat.le_refl _) q (liv_or hc)) 600 _ (ext_mono (by omega) (hp s))
theorem sum_ext {T : TX} {ex : PS → PS} {h : Nat} (hp : ∀ s, Ext h s (prodS T ex s)) : ∀ s, Ext (h + 1) s (sumS T ex s) := fun s => loop_ext (fun s1 q hc => bin_ext (by split <;> decide) (by split <;> decide) hp (Nat.le_refl _) q (liv_or hc)) 600 _ (ext_mono (by omega) (hp s))
theorem test_ext {T : TX} {ex : PS → PS} {h : Nat} (hp : ∀ s, Ext h s (sumS T ex s)) : ∀ s, Ext (h + 1) s (testS T ex s) := fun s => by
  unfold testS
  by_cases hc : testC T (sumS T ex s) = true
  · rw [if_pos hc]
    exact bin_ext (by split <;> decide) (by split <;> decide) hp (Nat.le_refl _) (ext_mono (by omega) (hp s)) (liv_or hc)
  · rw [if_neg hc]
    exact ext_mono (by omega) (hp s)
theorem not_n {T : TX} : ∀ k a B, ∃ a2, (notN T k (.inr (a, B))).2 = .inr (a2, B) ∧ (notN T k (.inr (a, B))).1 + a ≤ a2 ∧ (notN T k (.inr (a, B))).1 ≤ k := by
  intro k
  induction k with
  | zero => intro a B; exact ⟨a, rfl, by show 0 + a ≤ a; omega, Nat.le_refl _⟩
  | succ k ih =>
    intro a B
    by_cases hw : wdS T w_not (.inr (a, B)) = true
    · have e : notN T (k + 1) (.inr (a, B)) = ((notN T k (advS T (.inr (a, B)))).1 + 1, (notN T k (advS T (.inr (a, B)))).2) := if_pos hw
      obtain ⟨a2, h1, h2, h3⟩ := ih (nxT T a) B
      have hn := (nxT_le (T := T) (a := a)).2.2 (by rw [isW_kd (T := T) (a := a) (w := w_not) hw]; decide)
      have h2' : (notN T k (advS T (.inr (a, B)))).1 + nxT T a ≤ a2 := h2
      have h3' : (notN T k (advS T (.inr (a, B)))).1 ≤ k := h3
      rw [e]
      exact ⟨a2, h1, by show (notN T k (advS T (.inr (a, B)))).1 + 1 + a ≤ a2; omega, by show (notN T k (advS T (.inr (a, B)))).1 + 1 ≤ k + 1; omega⟩
    · have e : notN T (k + 1) (.inr (a, B)) = (0, .inr (a, B)) := if_neg hw
      rw [e]
      exact ⟨a, rfl, by show 0 + a ≤ a; omega, Nat.zero_le _⟩
theorem rep_inl {x : Int32} {q : Nat × Nat} : ∀ c, repS x c (.inl q) = .inl q := by
  intro c
  induction c with
  | zero => rfl
  | succ c ih => exact ih
theorem rep_inr {x : Int32} {a : Nat} : ∀ c B, repS x c (.inr (a, B)) = .inr (a, addR B (List.replicate c x)) := by
  intro c
  induction c with
  | zero =>
    intro B
    show Sum.inr (a, B) = Sum.inr (a, addR B [])
    unfold addR
    rw [List.append_nil]
  | succ c ih =>
    intro B
    show repS x c (.inr (a, addR B [x])) = _
    rw [ih, addR_2]
    rfl
theorem dep_rep {k : Nat} : ∀ c, depthS (List.replicate c (-10)) (k + 1) = some (k + 1) := by
  intro c
  induction c with
  | zero => rfl
  | succ c ih =>
    show (depS (-10) (k + 1)).bind (depthS (List.replicate c (-10))) = _
    have e : depS (-10) (k + 1) = some (k + 1) := by
      unfold depS
      rw [if_pos (by decide), if_pos (by decide), if_pos rfl, if_neg (by omega)]
    rw [e]
    exact ih
theorem not_inl {T : TX} {ex : PS → PS} (hx : ∀ x, testS T ex (.inl x) = .inl x) (x : Nat × Nat) : notS T ex (.inl x) = .inl x := by
  show repS (-10) 0 (testS T ex (.inl x)) = _
  rw [hx]
  rfl
theorem ext_inl {h : Nat} {f : PS → PS} (hf : ∀ s, Ext h s (f s)) (x : Nat × Nat) : ∃ y, f (.inl x) = .inl y := by
  rcases hf (.inl x) with z | ⟨a, B, a2, X, e1, -⟩
  · exact z
  · cases e1
theorem not_ext {T : TX} {ex : PS → PS} {h : Nat} (hp : ∀ s, Ext h s (testS T ex s)) : ∀ s, Ext h s (notS T ex s) := by
  intro s
  cases s with
  | inl x =>
    obtain ⟨y, hy⟩ := ext_inl hp x
    refine Or.inl ⟨y, ?_⟩
    show repS (-10) 0 (testS T ex (.inl x)) = _
    rw [hy]
    rfl
  | inr q =>
    obtain ⟨a, B⟩ := q
    obtain ⟨a2, h1, h2, -⟩ := not_n (T := T) 6 a B
    unfold notS
    rw [h1]
    obtain ⟨c, hc⟩ : ∃ c, (notN T 6 (.inr (a, B))).1 = c := ⟨_, rfl⟩
    rw [hc] at h2 ⊢
    unfold notM
    by_cases hw : wdS T w_not (.inr (a2, B)) = true
    · rw [if_pos hw]
      obtain ⟨y, hy⟩ := ext_inl hp (2, a2)
      refine Or.inl ⟨y, ?_⟩
      show repS (-10) c (testS T ex (.inl (2, a2))) = _
      rw [hy, rep_inl]
    · rw [if_neg hw]
      rcases hp (.inr (a2, B)) with ⟨y, hy⟩ | ⟨a3, B3, a4, Y, e1, e2, e3, e4⟩
      · refine Or.inl ⟨y, ?_⟩
        rw [hy, rep_inl]
      · have e1' := Sum.inr.inj e1
        cases e1'
        rw [e2, rep_inr, addR_2]
        refine Or.inr ⟨a, B, a4, _, rfl, rfl, ?_, fun k hk => ?_⟩
        · rw [List.length_append, List.length_replicate]; omega
        · rw [dep_cat, e4 k hk]
          exact dep_rep c
theorem and_ext {T : TX} {ex : PS → PS} {h : Nat} (hp : ∀ s, Ext h s (notS T ex s)) : ∀ s, Ext (h + 1) s (andS T ex s) := fun s => loop_ext (fun s1 q hc => bin_ext (by decide) (by decide) hp (Nat.le_refl _) q (liv_wd hc)) 600 _ (ext_mono (by omega) (hp s))
theorem or_ext {T : TX} {ex : PS → PS} {h : Nat} (hp : ∀ s, Ext h s (andS T ex s)) : ∀ s, Ext (h + 1) s (orS T ex s) := fun s => loop_ext (fun s1 q hc => bin_ext (by decide) (by decide) hp (Nat.le_refl _) q (liv_wd hc)) 600 _ (ext_mono (by omega) (hp s))
theorem flt_ext {h k : Nat} (s : PS) : Ext h s (fltS k s) := by
  cases s with
  | inl x => exact Or.inl ⟨x, rfl⟩
  | inr q => exact Or.inl ⟨_, rfl⟩
theorem expr_ext {T : TX} : ∀ l s, Ext (5 * l + 1) s (exprS T l s) := by
  intro l
  induction l with
  | zero => intro s; exact flt_ext s
  | succ l ih =>
    have h1 := part_ext (T := T) ih (Nat.le_refl (5 * l + 1)) (by omega)
    exact or_ext (and_ext (not_ext (test_ext (sum_ext (prod_ext h1)))))
theorem ex_part {T : TX} (l : Nat) : ∀ s, Ext (5 * l + 1) s (partS T (exprS T l) s) := part_ext (expr_ext l) (Nat.le_refl _) (by omega)
theorem ex_prod {T : TX} (l : Nat) : ∀ s, Ext (5 * l + 2) s (prodS T (exprS T l) s) := prod_ext (ex_part l)
theorem ex_sum {T : TX} (l : Nat) : ∀ s, Ext (5 * l + 3) s (sumS T (exprS T l) s) := sum_ext (ex_prod l)
theorem ex_test {T : TX} (l : Nat) : ∀ s, Ext (5 * l + 4) s (testS T (exprS T l) s) := test_ext (ex_sum l)
theorem ex_not {T : TX} (l : Nat) : ∀ s, Ext (5 * l + 4) s (notS T (exprS T l) s) := not_ext (ex_test l)
theorem ex_and {T : TX} (l : Nat) : ∀ s, Ext (5 * l + 5) s (andS T (exprS T l) s) := and_ext (ex_not l)
/-- room for j more steps of the rule -/
def slk (j : Nat) : PS → Prop
  | .inl _ => True
  | .inr (a, B) => (bR B).length + j ≤ a
def aft (m : Nat) : PS → Prop
  | .inl _ => True
  | .inr (a, _) => m ≤ a
theorem slk_ext {h j : Nat} {s s2 : PS} (q : Ext h s s2) (hs : slk j s) : slk j s2 := by
  rcases q with ⟨x, e⟩ | ⟨a, B, a2, X, e1, e2, e3, e4⟩
  · rw [e]; trivial
  · rw [e1] at hs
    rw [e2]
    have hs : (bR B).length + j ≤ a := hs
    show (bR (addR B X)).length + j ≤ a2
    rw [addR_R, List.length_append]
    omega
theorem aft_ext {h m : Nat} {s s2 : PS} (q : Ext h s s2) (hs : aft m s) : aft m s2 := by
  rcases q with ⟨x, e⟩ | ⟨a, B, a2, X, e1, e2, e3, e4⟩
  · rw [e]; trivial
  · rw [e1] at hs
    rw [e2]
    have hs : m ≤ a := hs
    show m ≤ a2
    omega
theorem slk_adv {T : TX} {j : Nat} {s : PS} (hl : liv T s) (hs : slk j s) : slk (j + 1) (advS T s) := by
  obtain ⟨a, B, rfl, hk⟩ := hl
  have hn := (nxT_le (T := T) (a := a)).2.2 hk
  have hs : (bR B).length + j ≤ a := hs
  show (bR B).length + (j + 1) ≤ nxT T a
  omega
theorem aft_adv {T : TX} {j : Nat} {s : PS} (hl : liv T s) (hs : aft j s) : aft (j + 1) (advS T s) := by
  obtain ⟨a, B, rfl, hk⟩ := hl
  have hn := (nxT_le (T := T) (a := a)).2.2 hk
  have hs : j ≤ a := hs
  show j + 1 ≤ nxT T a
  omega
theorem slk_mono {j j2 : Nat} {s : PS} (h : j2 ≤ j) (hs : slk j s) : slk j2 s := by
  cases s with
  | inl x => trivial
  | inr q =>
    have hs : (bR q.2).length + j ≤ q.1 := hs
    show (bR q.2).length + j2 ≤ q.1
    omega
theorem slk_ru {j : Nat} {x : Int32} {s : PS} (hs : slk (j + 1) s) : slk j (ruS x s) := by
  cases s with
  | inl y => trivial
  | inr q =>
    have hs : (bR q.2).length + (j + 1) ≤ q.1 := hs
    show (bR (addR q.2 [x])).length + j ≤ q.1
    rw [addR_R, List.length_append]
    show (bR q.2).length + 1 + j ≤ q.1
    omega
theorem aft_ru {j : Nat} {x : Int32} {s : PS} (hs : aft j s) : aft j (ruS x s) := by
  cases s with
  | inl y => trivial
  | inr q => exact hs
/-- a state that is dead, or whose place lies within the text -/
theorem aft_liv {T : TX} {s : PS} (h : aft T.2 s) : ¬ liv T s := by
  rintro ⟨a, B, rfl, hk⟩
  have h : T.2 ≤ a := h
  have := kd_ne hk
  omega
