/-! A call of both: what comes of it -/
/-- a call that may throw: answers alike, throws alike (the model says 1 or 2); a value stands in the law's long by then -/
def OpT (two : Bool) (y : MethodName) (M : MI) (yM : MethodName) (MM : MI) (as : List Value) (E : HP) : Prop :=
  (∃ v E2 bc2 bs2, bc2 ≤ 1 ∧ bs2 ≤ 6 ∧ Cl y M 60 bc2 bs2 (.ref 0 :: as) E 137 (.inl (some (.int v)), E2, 137) ∧ ∃ E3, Cl yM MM 60 0 0 (.ref 95 :: as) (sL E2 136 0 v.toInt64) 137 (.inl (some (.int v)), E3, 137) ∧ gI E3 1538 95 = 0 ∧ gL E3 136 0 = v.toInt64 ∧ Rel E3)
  ∨ (∃ E2, Cl y M 60 1 6 (.ref 0 :: as) E 137 (.inr nseN, E2, 137) ∧ ∃ w E3, Cl yM MM 60 0 0 (.ref 95 :: as) E2 137 (.inl (some (.int w)), E3, 137) ∧ gI E3 1538 95 = 1 ∧ Rel E3)
  ∨ (two = true ∧ ∃ E2, Cl y M 60 1 6 (.ref 0 :: as) E 137 (.inr iaeN, E2, 137) ∧ ∃ w E3, Cl yM MM 60 0 0 (.ref 95 :: as) E2 137 (.inl (some (.int w)), E3, 137) ∧ gI E3 1538 95 = 2 ∧ Rel E3)
/-- one that throws nothing -/
def OpP (y : MethodName) (M : MI) (yM : MethodName) (MM : MI) (as : List Value) (E : HP) : Prop :=
  ∃ v E2 bc2 bs2, bc2 ≤ 1 ∧ bs2 ≤ 6 ∧ Cl y M 60 bc2 bs2 (.ref 0 :: as) E 137 (.inl (some (.int v)), E2, 137) ∧ ∃ E3, Cl yM MM 60 0 0 (.ref 95 :: as) E2 137 (.inl (some (.int v)), E3, 137) ∧ Rel E3
/-- one that answers nothing -/
def OpN (y : MethodName) (M : MI) (yM : MethodName) (MM : MI) (as : List Value) (E : HP) : Prop :=
  ∃ E2 bc2 bs2, bc2 ≤ 1 ∧ bs2 ≤ 6 ∧ Cl y M 60 bc2 bs2 (.ref 0 :: as) E 137 (.inl none, E2, 137) ∧ ∃ E3, Cl yM MM 60 0 0 (.ref 95 :: as) E2 137 (.inl none, E3, 137) ∧ Rel E3
theorem frk_sL {b a i : Nat} {E : HP} {x : Int64} (hc : CR E b) (hM : MoOK E) (hQ : QS E) : FrK b E (sL E a i x) := ⟨cr_sr ⟨rfl, rfl⟩ hc, hM, hQ, fun _ _ => rfl, fun _ _ => ⟨fun _ => rfl, rfl⟩, fun _ _ => rfl, fun _ _ _ => rfl⟩
theorem frk_rfl {b : Nat} {E : HP} (hc : CR E b) (hM : MoOK E) (hQ : QS E) : FrK b E E := ⟨hc, hM, hQ, fun _ _ => rfl, fun _ _ => ⟨fun _ => rfl, rfl⟩, fun _ _ => rfl, fun _ _ _ => rfl⟩
theorem frk_tr {b : Nat} {E E2 E3 : HP} (h : FrK b E E2) (h2 : FrK b E2 E3) : FrK b E E3 := ⟨h2.1, h2.2.1, h2.2.2.1, fun g z => (h2.2.2.2.1 g z).trans (h.2.2.2.1 g z), fun k z => ⟨fun g => ((h2.2.2.2.2.1 k z).1 g).trans ((h.2.2.2.2.1 k z).1 g), ((h2.2.2.2.2.1 k z).2).trans (h.2.2.2.2.1 k z).2⟩, fun g z => (h2.2.2.2.2.2.1 g z).trans (h.2.2.2.2.2.1 g z), fun a z1 z2 => (h2.2.2.2.2.2.2 a z1 z2).trans (h.2.2.2.2.2.2 a z1 z2)⟩
theorem frk_vals {b : Nat} {E E2 : HP} (f : FrK b E E2) : slC E2 b = slC E b ∧ gI E2 8 b = gI E 8 b ∧ cfgP E2 46 = cfgP E 46 ∧ gI E2 519 46 = gI E 519 46 := by
  have hb := f.1.1
  have fi : ∀ k, ((0 < k ∧ k < 74 ∧ k ≠ b + 9 ∧ k ≠ b + 11) ∨ k = 87) → ∀ g, gI E2 g k = gI E g k := fun k z => (f.2.2.2.2.1 k z).1
  have fa : ∀ k, ((0 < k ∧ k < 74 ∧ k ≠ b + 9 ∧ k ≠ b + 11) ∨ k = 87) → gA E2 k = gA E k := fun k z => (f.2.2.2.2.1 k z).2
  refine ⟨?_, fi b (by omega) _, ?_, fi 46 (by omega) _⟩
  · funext j s
    unfold slC
    by_cases h : s < 7
    · rw [if_pos h, if_pos h, fi _ (by omega)]
    · rw [if_neg h, if_neg h]
  · unfold cfgP
    rw [fa (46 + 2) (by omega), fa (46 + 4) (by omega), fi 46 (by omega), fi 46 (by omega), fi 46 (by omega), fi 46 (by omega)]
theorem md_K {E E2 : HP} {b L m k S t : Nat} {R : List Int32} (h : RelN E b L m R k S t) (f : FrK b E E2) : MD E2 L m (slC E b) (gI E 8 b) R (cfgP E 46) (gI E 519 46) := by
  have h2 := md_of (rel_K h f)
  obtain ⟨e1, e2, e3, e4⟩ := frk_vals f
  rw [e1, e2, e3, e4] at h2
  exact h2
/-- what is kept stands too -/
def K4 (E Ex : HP) : Prop := gI Ex 1418 0 = gI E 1418 0 ∧ gA Ex 74 = gA E 74 ∧ gI Ex 1594 95 = gI E 1594 95 ∧ gA Ex 124 = gA E 124
theorem k4_qf {E E2 : HP} {b a i : Nat} {x : Int64} (hb : b = 3 ∨ b = 22) (f : QF b E E2) : K4 E (sL E2 a i x) := ⟨fr_gI f.1 (qq_no hb (by omega)) _, fr_gA f.1 (k := 74) (qq_no hb (by omega)), fr_gI f.1 (qq_no hb (by omega)) _, fr_gA f.1 (k := 124) (qq_no hb (by omega))⟩
theorem kp_sL {E : HP} {L a i : Nat} {x : Int64} (h : KpR E L) : KpR (sL E a i x) L := h
section OPS
variable {two : Bool} {y yM : MethodName} {M MM : MI} {as : List Value} {E E2 : HP} {b L m k S t bc2 bs2 : Nat} {R : List Int32} {v : Int32}
theorem op_val (h : RelN E b L m R k S t) (hk : KpR E L) (h1 : bc2 ≤ 1) (h2 : bs2 ≤ 6) (hc : Cl y M 60 bc2 bs2 (.ref 0 :: as) E 137 (.inl (some (.int v)), E2, 137)) (f : QF b E E2) (hm : ∀ Ex, FrK b E Ex → MD Ex L m (slC E b) (gI E 8 b) R (cfgP E 46) (gI E 519 46) → RelN Ex b L m R k S t → KpR Ex L → K4 E Ex → ∃ E3, AQ Ex E3 0 ∧ Cl yM MM 60 0 0 (.ref 95 :: as) Ex 137 (.inl (some (.int v)), E3, 137)) : OpT two y M yM MM as E := by
  obtain ⟨c, mo, q⟩ := rel_td h
  have f1 := frk_qf c mo q f
  have f2 : FrK b E (sL E2 136 0 v.toInt64) := frk_tr f1 (frk_sL f1.1 f1.2.1 f1.2.2.1)
  have r2 := rel_K h f2
  have k2 : KpR (sL E2 136 0 v.toInt64) L := kp_sL (kp_qf c.1 hk f)
  obtain ⟨E3, a3, hcl⟩ := hm _ f2 (md_K h f2) r2 k2 (k4_qf c.1 f)
  refine Or.inl ⟨v, E2, bc2, bs2, h1, h2, hc, E3, hcl, a3.2, ?_, b, L, m, R, k, S, t, rel_aq r2 a3, kp_aq k2 a3⟩
  rw [mf_gL a3.1, gL_sL, if_pos ⟨rfl, rfl⟩]
theorem op_nse (h : RelN E b L m R k S t) (hk : KpR E L) (hc : Cl y M 60 1 6 (.ref 0 :: as) E 137 (.inr nseN, E2, 137)) (f : QF b E E2) (hm : ∀ Ex, MD Ex L m (slC E b) (gI E 8 b) R (cfgP E 46) (gI E 519 46) → RelN Ex b L m R k S t → KpR Ex L → ∃ E3, AQ Ex E3 1 ∧ Cl yM MM 60 0 0 (.ref 95 :: as) Ex 137 (.inl (some (.int 0)), E3, 137)) : OpT two y M yM MM as E := by
  obtain ⟨c, mo, q⟩ := rel_td h
  have f1 := frk_qf c mo q f
  have r2 := rel_K h f1
  have k2 := kp_qf c.1 hk f
  obtain ⟨E3, a3, hcl⟩ := hm _ (md_K h f1) r2 k2
  exact Or.inr (Or.inl ⟨E2, hc, 0, E3, hcl, a3.2, b, L, m, R, k, S, t, rel_aq r2 a3, kp_aq k2 a3⟩)
theorem op_iae (h : RelN E b L m R k S t) (hk : KpR E L) (hc : Cl y M 60 1 6 (.ref 0 :: as) E 137 (.inr iaeN, E2, 137)) (f : QF b E E2) (hm : ∀ Ex, MD Ex L m (slC E b) (gI E 8 b) R (cfgP E 46) (gI E 519 46) → RelN Ex b L m R k S t → KpR Ex L → ∃ E3, AQ Ex E3 2 ∧ Cl yM MM 60 0 0 (.ref 95 :: as) Ex 137 (.inl (some (.int 0)), E3, 137)) : OpT true y M yM MM as E := by
  obtain ⟨c, mo, q⟩ := rel_td h
  have f1 := frk_qf c mo q f
  have r2 := rel_K h f1
  have k2 := kp_qf c.1 hk f
  obtain ⟨E3, a3, hcl⟩ := hm _ (md_K h f1) r2 k2
  exact Or.inr (Or.inr ⟨rfl, E2, hc, 0, E3, hcl, a3.2, b, L, m, R, k, S, t, rel_aq r2 a3, kp_aq k2 a3⟩)
end OPS
