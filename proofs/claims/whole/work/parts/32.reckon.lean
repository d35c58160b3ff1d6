/-! Rule.holds is what evalS says -/
def StkIs (f : Nat → Int32) : List Int32 → Prop
  | [] => True
  | x :: u => f u.length = x ∧ StkIs f u
theorem stk_keep {f g : Nat → Int32} : ∀ {u : List Int32}, StkIs f u → (∀ j, j < u.length → g j = f j) → StkIs g u := by
  intro u
  induction u with
  | nil => exact fun _ _ => trivial
  | cons x u ih =>
    intro h hk
    exact ⟨(hk _ (by simp)).trans h.1, ih h.2 (fun j hj => hk j (by simp; omega))⟩
/-- where the reckoning stands -/
def RunIs (E : HP) (h : Nat) (q : HP × Int32) (st : List Int32) : Prop := q.2 = dn st.length ∧ st.length ≤ 40 ∧ StkIs (gA q.1 (h + 6)) st ∧ gA q.1 (h + 2) = gA E (h + 2) ∧ gA q.1 (h + 4) = gA E (h + 4)
theorem dn_p1 (m : Nat) : dn m + 1 = nI m := by
  unfold dn
  rw [Int32.sub_add_cancel]
theorem run_put {E F : HP} {h j : Nat} {u : List Int32} {x : Int32} (hj : j = u.length) (hl : j < 40) (hs : StkIs (gA F (h + 6)) u) (h2 : gA F (h + 2) = gA E (h + 2)) (h4 : gA F (h + 4) = gA E (h + 4)) : RunIs E h (rPut F (h + 5) 40 (nI j) x, nI j) (x :: u) := by
  subst hj
  rw [rPut_nI hl (by omega)]
  refine ⟨(dn_s _).symm, by simp; omega, ⟨?_, stk_keep hs fun i hi => ?_⟩, ?_, ?_⟩
  · show gA (sA F (h + 5 + 1) u.length x) (h + 6) u.length = x
    rw [gA_sA, if_pos ⟨rfl, rfl⟩]
  · show gA (sA F (h + 5 + 1) u.length x) (h + 6) i = _
    rw [gA_sA, if_neg (by omega)]
  · funext i
    show gA (sA F (h + 5 + 1) u.length x) (h + 2) i = _
    rw [gA_sA, if_neg (by omega), h2]
  · funext i
    show gA (sA F (h + 5 + 1) u.length x) (h + 4) i = _
    rw [gA_sA, if_neg (by omega), h4]
theorem neg7 {s : Int32} (h0 : s < 0) (h7 : ¬ s < -7) : ∃ k, k < 7 ∧ -1 - s = nI k ∧ (-1 - s).toNatClampNeg = k := by
  have h1 : s.toInt < 0 := by have := Int32.lt_iff_toInt_lt.mp h0; simpa using this
  have h2 : -7 ≤ s.toInt := by have := Int32.le_iff_toInt_le.mp (Int32.not_lt.mp h7); simpa using this
  have e : -1 - s = nI (-1 - s.toInt).toNat := by
    apply Int32.toInt_inj.mp
    rw [Int32.toInt_sub, nI_toInt (by omega)]
    have : (-1 : Int32).toInt = -1 := by decide
    rw [this, Int.bmod_eq_of_le (by omega) (by omega)]
    omega
  refine ⟨(-1 - s.toInt).toNat, by omega, e, ?_⟩
  rw [e, nI_clamp (by omega)]
theorem run_step {E : HP} {h i : Nat} {q : HP × Int32} {st : List Int32} {s : Int32} {k2 : Nat} (hq : RunIs E h q st) (hi : i < 600) (hs : gA E (h + 2) i = s) (hd : depS s st.length = some k2) : RunIs E h (ruStep h q i) (stepS (gA E (h + 4)) s st) ∧ (stepS (gA E (h + 4)) s st).length = k2 := by
  obtain ⟨q1, q2, q3, q4, q5⟩ := hq
  have e1 : rAt q.1 (h + 1) 600 (nI i) = s := by
    rw [rAt_nI hi (by omega)]
    show gA q.1 (h + 2) i = s
    rw [q4, hs]
  unfold ruStep stepS
  unfold depS at hd
  rw [e1]
  by_cases h0 : s < 0
  · rw [if_pos h0] at hd ⊢
    rw [if_pos h0]
    by_cases h7 : s < -7
    · rw [if_pos h7] at hd ⊢
      rw [if_pos h7]
      by_cases h10 : s = -10
      · rw [if_pos h10] at hd ⊢
        rw [if_pos h10]
        cases st with
        | nil => simp at hd
        | cons a u =>
          have hk : (a :: u).length = k2 := by simp at hd; simpa using hd
          have hq2 : q.2 = nI u.length := by rw [q1]; exact dn_s _
          have hul : u.length < 40 := by simp at q2; omega
          have ea : rAt q.1 (h + 5) 40 q.2 = a := by rw [hq2, rAt_nI hul (by omega)]; exact q3.1
          rw [ea, hq2]
          exact ⟨run_put rfl hul q3.2 q4 q5, by simpa using hk⟩
      · rw [if_neg h10] at hd ⊢
        rw [if_neg h10]
        cases st with
        | nil => simp at hd
        | cons b st =>
          cases st with
          | nil => simp at hd
          | cons a u =>
            have hk : u.length + 1 = k2 := by simp at hd; omega
            have hm1 : q.2 + m1 = nI u.length := by
              rw [q1]
              show dn (u.length + 1 + 1) + m1 = _
              rw [dn_m1, dn_s]
            have hul : u.length + 1 < 40 := by simp at q2; omega
            have ea : rAt q.1 (h + 5) 40 (q.2 + m1) = a := by rw [hm1, rAt_nI (by omega) (by omega)]; exact q3.2.1
            have eb : rAt q.1 (h + 5) 40 (q.2 + m1 + 1) = b := by rw [hm1, ← nI_succ, rAt_nI hul (by omega)]; exact q3.1
            rw [ea, eb, hm1]
            exact ⟨run_put rfl (by omega) q3.2.2 q4 q5, by simpa using hk⟩
    · rw [if_neg h7] at hd ⊢
      rw [if_neg h7]
      obtain ⟨k, hk7, hk1, hk2⟩ := neg7 h0 h7
      by_cases h40 : st.length < 40
      · rw [if_pos h40] at hd
        have hk : st.length + 1 = k2 := by simpa using hd
        have hq2 : q.2 + 1 = nI st.length := by rw [q1, dn_p1]
        have ev : rAt q.1 (h + 3) 7 (-1 - s) = gA E (h + 4) (-1 - s).toNatClampNeg := by
          rw [hk2, hk1, rAt_nI hk7 (by omega)]
          show gA q.1 (h + 4) k = _
          rw [q5]
        rw [ev, hq2]
        exact ⟨run_put rfl h40 q3 q4 q5, by simpa using hk⟩
      · rw [if_neg h40] at hd; cases hd
  · rw [if_neg h0] at hd ⊢
    rw [if_neg h0]
    by_cases h40 : st.length < 40
    · rw [if_pos h40] at hd
      have hk : st.length + 1 = k2 := by simpa using hd
      have hq2 : q.2 + 1 = nI st.length := by rw [q1, dn_p1]
      rw [hq2]
      exact ⟨run_put rfl h40 q3 q4 q5, by simpa using hk⟩
    · rw [if_neg h40] at hd; cases hd
theorem run_all {E : HP} {h : Nat} : ∀ (R : List Int32) (k : Nat) (st : List Int32) (e : Nat), RunIs E h (ruIt h E k) st → k + R.length ≤ 600 → (∀ i, i < R.length → gA E (h + 2) (k + i) = R.getD i 0) → depthS R st.length = some e → RunIs E h (ruIt h E (k + R.length)) (evalS (gA E (h + 4)) R st) ∧ (evalS (gA E (h + 4)) R st).length = e := by
  intro R
  induction R with
  | nil =>
    intro k st e h1 h2 h3 h4
    exact ⟨h1, by simpa [depthS, evalS] using h4⟩
  | cons s R ih =>
    intro k st e h1 h2 h3 h4
    simp only [List.length_cons] at h2
    cases hd : depS s st.length with
    | none => simp [depthS, hd] at h4
    | some k2 =>
      have h5 : depthS R k2 = some e := by simpa [depthS, hd] using h4
      have e0 : gA E (h + 2) k = s := by have := h3 0 (by simp); simpa using this
      obtain ⟨s1, s2⟩ := run_step (i := k) h1 (by omega) e0 hd
      have := ih (k + 1) (stepS (gA E (h + 4)) s st) e s1 (by omega) (fun i hi => by
        have := h3 (i + 1) (by simp; omega)
        rw [show k + 1 + i = k + (i + 1) by omega]
        simpa using this) (by rw [s2]; exact h5)
      rw [show k + (s :: R).length = k + 1 + R.length by simp; omega]
      exact this
/-- the rule h tells the steps L -/
def RuleIs (E : HP) (h : Nat) (L : List Int32) : Prop := gI E 897 h = nI L.length ∧ L.length ≤ 600 ∧ (∀ i, i < L.length → gA E (h + 2) i = L.getD i 0) ∧ rule1 L
theorem rule_val {E : HP} {h : Nat} {L : List Int32} (hr : RuleIs E h L) (hL : ¬ L = []) : ruVal h L.length E = if (evalS (gA E (h + 4)) L []).headD 0 = 0 then 0 else 1 := by
  obtain ⟨r1, r2, r3, r4⟩ := hr
  have r5 : depthS L 0 = some 1 := r4.resolve_left hL
  obtain ⟨a1, a2⟩ := run_all (E := E) (h := h) L 0 [] 1 ⟨rfl, by simp, trivial, rfl, rfl⟩ (by omega) (fun i hi => by rw [Nat.zero_add]; exact r3 i hi) r5
  rw [Nat.zero_add] at a1
  obtain ⟨b1, b2, b3, -⟩ := a1
  cases hs : evalS (gA E (h + 4)) L [] with
  | nil => rw [hs] at a2; cases a2
  | cons x u =>
    rw [hs] at a2 b1 b3
    have hu : u.length = 0 := by simpa using a2
    have e1 : rAt (ruIt h E L.length).1 (h + 5) 40 (ruIt h E L.length).2 = x := by
      rw [b1, show dn (x :: u).length = nI 0 by rw [List.length_cons, hu]; rfl, rAt_nI (by omega) (by omega)]
      have := b3.1
      rw [hu] at this
      exact this
    unfold ruVal
    rw [e1]
    rfl
