/-! Night.passMinute -/
theorem turn_len {V : NV} {S : NS} {a e q t : Nat} {w : Int32} : (nG (turnF V S a e q w t)).length = (nG S).length + 1 := by
  show (nG S ++ [_]).length = _
  rw [List.length_append]
  rfl
theorem group_len {V : NV} {t : Nat} {S : NS} : ∀ k, (nG (groupF V t S k).1).length ≤ (nG S).length + k ∧ (groupF V t S k).2 ≤ k := by
  intro k
  induction k with
  | zero => exact ⟨Nat.le_refl _, Nat.le_refl _⟩
  | succ k ih =>
    unfold groupF
    by_cases h : splitF V (k + 1) = true
    · rw [if_pos h]
      refine ⟨?_, Nat.le_refl _⟩
      cases hf : firstF V (groupF V t S k).1 t (groupF V t S k).2 (k + 1 - (groupF V t S k).2) with
      | none => simp only; omega
      | some q => simp only; rw [turn_len]; omega
    · rw [if_neg h]
      omega
theorem first_in {V : NV} {S : NS} {t q : Nat} : ∀ k a, firstF V S t a k = some q → a ≤ q ∧ q < a + k := by
  intro k
  induction k with
  | zero => intro a h; cases h
  | succ k ih =>
    intro a h
    unfold firstF at h
    by_cases h1 : tiredF V S a t = true
    · rw [if_pos h1] at h; cases h; omega
    · rw [if_neg h1] at h
      have := ih (a + 1) h
      omega
theorem over_len {V : NV} {S : NS} {p t : Nat} : nG (overF V S p t) = nG S := rfl
theorem gone_len {V : NV} {S : NS} {t : Nat} : ∀ k, nG (goneF V t S k) = nG S := by
  intro k
  induction k with
  | zero => rfl
  | succ k ih =>
    unfold goneF
    split
    · rw [over_len]; exact ih
    · exact ih
theorem split_of {E : HP} {b p t j : Nat} {V : NV} (hc : NC E b p V t) (hj : j ≤ vL V) : splitF V j = true ↔ (nI j = gI E 514 p ∨ ¬ gI E 519 p = 0 ∨ ¬ bolV E p (nI j) = 0) := by
  obtain ⟨v1, v2, v3, v4, v5, v6, -⟩ := hc.2.1
  unfold splitF bolV
  rw [v1, v5, v6]
  simp only [decide_eq_true_eq]
  have e1 : (nI j = nI (vL V)) = (j = vL V) := propext ⟨fun z => by
    have := congrArg Int32.toInt z
    rw [nI_toInt (by omega), nI_toInt (by omega)] at this
    omega, fun z => by rw [z]⟩
  rw [e1]
  by_cases h3 : (vS V 1 >>> (nI j &&& 31)) &&& 1 = 1
  · simp [h3]
  · simp [h3]
