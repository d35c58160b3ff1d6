/-! Night.pass, forgetSums, addToSums -/
theorem group_idle {V : NV} {S : NS} {t : Nat} (h : ∀ p, p < vL V → tiredF V S p t = false) : ∀ k, k ≤ vL V → (groupF V t S k).1 = S := by
  have hf : ∀ k a, a + k ≤ vL V → firstF V S t a k = none := by
    intro k
    induction k with
    | zero => intro a _; rfl
    | succ k ih =>
      intro a ha
      unfold firstF
      rw [h a (by omega)]
      exact ih (a + 1) (by omega)
  intro k
  induction k with
  | zero => intro _; rfl
  | succ k ih =>
    intro hk
    have h1 := ih (by omega)
    have h2 := (group_len (V := V) (t := t) (S := S) k).2
    by_cases hs : splitF V (k + 1) = true
    · rw [group_no hs (by rw [h1]; exact hf _ _ (by omega))]
      exact h1
    · conv => lhs; unfold groupF
      rw [if_neg hs]
      exact h1
theorem gone_idle {V : NV} {S : NS} {t : Nat} (h : ∀ p, p < vL V → ¬ vA V 5 p = nI t) : ∀ k, k ≤ vL V → goneF V t S k = S := by
  intro k
  induction k with
  | zero => intro _; rfl
  | succ k ih =>
    intro hk
    unfold goneF
    rw [if_neg (h k (by omega))]
    exact ih (by omega)
/-- between two events nothing happens -/
theorem idle {V : NV} {S : NS} {t0 t : Nat} {v : Int32} (he : ∃ e, e ≤ 240 ∧ vS V 0 = nI e) (hne : NE V S t0 (vL V) v) (h0 : t0 < t) (ht : t ≤ 600) (hv : nI t < v) : minuteF V t S = S := by
  have hw : wordF V t = false := by
    obtain ⟨e, he, hE⟩ := he
    unfold wordF
    refine decide_eq_false ?_
    rintro ⟨p1, p2⟩
    have e0 : 0 < e := by
      rcases Nat.eq_zero_or_pos e with z | z
      · rw [hE, z] at p1; exact absurd p1 (by decide)
      · exact z
    have h1 := hne.1 p1
    rw [hE, pk_rem (by omega) e0 (by omega), pk_sub (Nat.mod_le _ _), nI_add] at h1
    rw [hE, pk_rem (by omega) e0 (by omega)] at p2
    have p3 : t % e = 0 := (nI_eq (by have := Nat.mod_lt t e0; omega) (by omega)).mp p2
    have h2 : nI t < nI (t0 - t0 % e + e) := Int32.lt_of_lt_of_le hv h1
    have h3 := (nI_ltI (by omega) (by omega)).mp h2
    have q1 := Nat.div_add_mod t e
    have q2 := Nat.div_add_mod t0 e
    have q3 : t0 / e < t / e := by
      rcases Nat.lt_or_ge (t0 / e) (t / e) with z | z
      · exact z
      · have := Nat.mul_le_mul_left e z
        omega
    have q4 := Nat.mul_le_mul_left e q3
    rw [Nat.mul_succ] at q4
    omega
  have hg := group_idle (V := V) (S := S) (t := t) (fun p hp => by
    unfold tiredF
    refine decide_eq_false ?_
    rintro ⟨p1, p2⟩
    exact absurd (Int32.lt_of_lt_of_le hv ((hne.2 p hp).1 p1)) (Int32.not_lt.mpr p2)) (vL V) (Nat.le_refl _)
  unfold minuteF
  rw [hw]
  show goneF V t (groupF V t S (vL V)).1 (vL V) = S
  rw [hg]
  refine gone_idle (fun p hp z => ?_) _ (Nat.le_refl _)
  have h1 := (hne.2 p hp).2 (by rw [z]; exact nI_lt h0 (by omega))
  rw [z] at h1
  exact absurd hv (Int32.not_lt.mpr h1)
theorem minute_len {V : NV} {S : NS} {t : Nat} : (nG (minuteF V t S)).length ≤ (nG S).length + 1 + vL V := by
  unfold minuteF
  rw [gone_len]
  have h := (group_len (V := V) (t := t) (S := if wordF V t then turnF V S 0 (vL V) (vW V) 1 t else S) (vL V)).1
  have h0 : (nG (if wordF V t then turnF V S 0 (vL V) (vW V) 1 t else S)).length ≤ (nG S).length + 1 := by
    split
    · rw [turn_len]; omega
    · omega
  omega
theorem night_len {V : NV} (h7 : vL V ≤ 7) : ∀ t, (nG (nightF V t)).length ≤ 8 * t := by
  intro t
  induction t with
  | zero => exact Nat.le_refl _
  | succ t ih =>
    have := minute_len (V := V) (S := nightF V t) (t := t + 1)
    show (nG (minuteF V (t + 1) (nightF V t))).length ≤ _
    omega
/-- what a night changes -/
def Pp (b k : Nat) : Prop := k = 80 ∨ (88 ≤ k ∧ k ≤ 94) ∨ k = 85 ∨ k = b + 9 ∨ k = b + 11
theorem nf_pp {b : Nat} {E E2 : HP} (h : NF b E E2) : Fr (Pp b) E E2 := by
  intro k hk
  unfold Pp at hk
  obtain ⟨h1, h2, h3, h4⟩ := h
  refine ⟨fun g => h2 g k (by omega) (by omega), fun g => ?_, h3 k (by omega) (by omega) (by omega), ?_, ?_⟩
  · unfold gR; rw [h1.1]
  · unfold gQ; rw [h1.2]
  · unfold gL; rw [h4]
def quF (V : NV) (m : Nat) : Int32 := maxF (nS (nightF V m) 0) (nI m - nS (nightF V m) 1)
/-- behind a night of m minutes -/
def PR (E : HP) (b p : Nat) (V : NV) (m : Nat) : Prop := (∃ t, NC E b p V t) ∧ gI E 264 80 = nI (nG (nightF V m)).length ∧ gI E 265 80 = nS (nightF V m) 2 ∧ gI E 266 80 = quF V m ∧ LF E (vL V) (nA (nightF V m)) ∧ WT E (nG (nightF V m))
theorem nc_263 {E : HP} {b p t i : Nat} {V : NV} (hi : i ≤ 600) (h : NC E b p V t) : NC (sI E 263 80 (nI i)) b p V i := by
  obtain ⟨o1, o2, o3, o4, o5⟩ := h
  have hF : Fr PN E (sI E 263 80 (nI i)) := fr_sI (Or.inl rfl) fr_rfl
  refine ⟨night_fr hF (fun _ => rfl) o1, nvis_fr o1.2.2.2.2.2.2.2.2.2.2.2.1 o1.2.2.2.2.2.2.2.2.2.2.2.2.1 hF o2, by rw [gI_sI, if_pos ⟨rfl, rfl⟩], hi, fun j hj => ?_⟩
  obtain ⟨c1, c2, c3, c4⟩ := o5 j hj
  refine ⟨c1, ?_, ?_, ?_⟩
  · rw [gI_sI, if_neg (by omega)]; exact c2
  · rw [gI_sI, if_neg (by omega)]; exact c3
  · rw [gI_sI, if_neg (by omega)]; exact c4
theorem nr_263 {E : HP} {i : Int32} {V : NV} {S : NS} (h : NR E V S) : NR (sI E 263 80 i) V S := by
  obtain ⟨r1, r2, r3, r4, r5, r6⟩ := h
  refine ⟨?_, ?_, ?_, ?_, fun j hj k hk => ?_, fun j x g1 => ?_⟩
  · rw [gI_sI, if_neg (by omega)]; exact r1
  · rw [gI_sI, if_neg (by omega)]; exact r2
  · rw [gI_sI, if_neg (by omega)]; exact r3
  · rw [gI_sI, if_neg (by omega)]; exact r4
  · rw [gI_sI, if_neg (by omega)]; exact r5 j hj k hk
  · rw [gI_sI, if_neg (by omega)] at g1; exact r6 j x g1
theorem nI_le_of {i m : Nat} (hi : i < 100000) (hm : m < 100000) (h : ¬ nI m < nI i) : i ≤ m := by
  rcases Nat.lt_or_ge m i with z | z
  · exact absurd (nI_lt z (by omega)) h
  · exact z
def E2p (E : HP) (b p : Nat) : HP := sR (sR E 261 80 (some b)) 262 80 (some p)
set_option maxRecDepth 20000 in
theorem c_X2_pass {d b p m : Nat} {V : NV} {E : HP} (okn : NightOK (E2p E b p) b p) (ov : NVis E b p V) (he : ∃ e, e ≤ 240 ∧ vS V 0 = nI e) (hm : m ≤ 600) : ∃ o, (∃ E2, o = (.inl none, E2, 137) ∧ Fr (Pp b) E E2 ∧ (∀ g, g ≠ 261 → g ≠ 262 → gR E2 g 80 = gR E g 80) ∧ gI E2 260 80 = gI E 260 80 ∧ PR E2 b p V m) ∧ Cl yX2_pass mX2_pass (d + 5) 0 0 [.ref 80, .ref b, .ref p, .int (nI m)] E 137 o := by
  have l7 := ov.2.1
  refine Cx.of (by decide) rfl (fun q => by cases q) rfl rfl (Nat.le_of_ble_eq_true rfl) ?_
  show Sx _ _ _ _ _ 0 [some (.ref 80), some (.ref b), some (.ref p), some (.int (nI m)), none, none] [] _ _
  have hF0 : Fr (Pp b) E (E2p E b p) := fr_sR (Or.inl rfl) (fr_sR (Or.inl rfl) fr_rfl)
  obtain ⟨_, ⟨E1, rfl, hF1, hR1, h260, hc1, hr1⟩, hcl⟩ := c_X2_lieDown (d := d + 3) okn (show NVis (E2p E b p) b p V from ov)
  have hF2 : Fr (Pp b) E E1 := fr_tr hF0 (fr_mono hF1 (fun k hk => by unfold PN at hk; unfold Pp; omega))
  obtain ⟨_, ⟨v0, rfl, hne0⟩, hcn⟩ := c_X2_nextEvent (d := d + 3) hc1 hr1.2.2.2.2.1
  have hg2 : ∀ g, g ≠ 261 → g ≠ 262 → gR (E2p E b p) g 80 = gR E g 80 := fun g a1 a2 => by
    unfold E2p
    simp only [gR_sR]
    rw [if_neg (by omega), if_neg (by omega)]
  have loop := sxUp (σ := HP × Int32) (S := fun k9 q => Sx mX2_pass (d + 5) 0 0 (fun o => ∃ E2, o = (.inl none, E2, 137) ∧ Fr (Pp b) E E2 ∧ (∀ g, g ≠ 261 → g ≠ 262 → gR E2 g 80 = gR E g 80) ∧ gI E2 260 80 = gI E 260 80 ∧ PR E2 b p V m) 23 [some (.ref 80), some (.ref b), some (.ref p), some (.int (nI m)), some (.int q.2), some (.int (nI k9))] [] q.1 137) (Inv := fun k9 q => Fr (Pp b) E q.1 ∧ (∀ g, gR q.1 g 80 = gR (E2p E b p) g 80) ∧ gI q.1 260 80 = gI E 260 80 ∧ ∃ t0, t0 < k9 ∧ NC q.1 b p V t0 ∧ NR q.1 V (nightF V t0) ∧ NE V (nightF V t0) t0 (vL V) q.2 ∧ nightF V (k9 - 1) = nightF V t0) (a := 1) (l := m + 1) (by omega) ?_ ?_
  refine Sx.up (fun _ kk => r_aload_n 1 dX2_pass_0 rfl rfl kk) ?_
  refine Sx.up (fun _ kk => r_aload_n 2 dX2_pass_1 rfl rfl kk) ?_
  refine Sx.up (fun _ kk => r_putR 5 dX2_pass_2 rfl f2_48 rfl (Or.inl rfl) (by first | with_reducible assumption | exact Nat.le_of_ble_eq_true rfl | with_reducible exact bo_1 n10 | with_reducible exact bo_n n10 | with_reducible exact ro_1 p4 | with_reducible exact ro_6 p4 | with_reducible exact ro_1 p5 | with_reducible exact ro_6 p5 | with_reducible exact ro_1 n8 | with_reducible exact ro_6 n8 | with_reducible exact ro_1 n9 | with_reducible exact ro_6 n9 | rfl) (by first | with_reducible assumption | exact Nat.le_of_ble_eq_true rfl | with_reducible exact bo_1 n10 | with_reducible exact bo_n n10 | with_reducible exact ro_1 p4 | with_reducible exact ro_6 p4 | with_reducible exact ro_1 p5 | with_reducible exact ro_6 p5 | with_reducible exact ro_1 n8 | with_reducible exact ro_6 n8 | with_reducible exact ro_1 n9 | with_reducible exact ro_6 n9 | rfl) kk) ?_
  refine Sx.up (fun _ kk => r_aload_n 6 dX2_pass_5 rfl rfl kk) ?_
  refine Sx.up (fun _ kk => r_aload_n 7 dX2_pass_6 rfl rfl kk) ?_
  refine Sx.up (fun _ kk => r_putR 10 dX2_pass_7 rfl f2_52 rfl (Or.inl rfl) (by first | with_reducible assumption | exact Nat.le_of_ble_eq_true rfl | with_reducible exact bo_1 n10 | with_reducible exact bo_n n10 | with_reducible exact ro_1 p4 | with_reducible exact ro_6 p4 | with_reducible exact ro_1 p5 | with_reducible exact ro_6 p5 | with_reducible exact ro_1 n8 | with_reducible exact ro_6 n8 | with_reducible exact ro_1 n9 | with_reducible exact ro_6 n9 | rfl) (by first | with_reducible assumption | exact Nat.le_of_ble_eq_true rfl | with_reducible exact bo_1 n10 | with_reducible exact bo_n n10 | with_reducible exact ro_1 p4 | with_reducible exact ro_6 p4 | with_reducible exact ro_1 p5 | with_reducible exact ro_6 p5 | with_reducible exact ro_1 n8 | with_reducible exact ro_6 n8 | with_reducible exact ro_1 n9 | with_reducible exact ro_6 n9 | rfl) kk) ?_
  refine Sx.up (fun _ kk => r_aload_n 11 dX2_pass_10 rfl rfl kk) ?_
  refine Sx.up (fun _ kk => r_callV (M := mX2_pass) (pc := 11) 14 dX2_pass_11 rfl k2_70 hcl rfl rfl (by first | with_reducible assumption | exact Nat.le_of_ble_eq_true rfl | with_reducible exact bo_1 n10 | with_reducible exact bo_n n10 | with_reducible exact ro_1 p4 | with_reducible exact ro_6 p4 | with_reducible exact ro_1 p5 | with_reducible exact ro_6 p5 | with_reducible exact ro_1 n8 | with_reducible exact ro_6 n8 | with_reducible exact ro_1 n9 | with_reducible exact ro_6 n9 | rfl) (by decide) rfl (by first | with_reducible assumption | exact Nat.le_of_ble_eq_true rfl | with_reducible exact bo_1 n10 | with_reducible exact bo_n n10 | with_reducible exact ro_1 p4 | with_reducible exact ro_6 p4 | with_reducible exact ro_1 p5 | with_reducible exact ro_6 p5 | with_reducible exact ro_1 n8 | with_reducible exact ro_6 n8 | with_reducible exact ro_1 n9 | with_reducible exact ro_6 n9 | rfl) (Nat.le_of_ble_eq_true rfl) kk) ?_
  refine Sx.up (fun _ kk => r_aload_n 15 dX2_pass_14 rfl rfl kk) ?_
  refine Sx.up (fun _ kk => r_callV (M := mX2_pass) (pc := 15) 18 dX2_pass_15 rfl k2_73 hcn rfl rfl (by first | with_reducible assumption | exact Nat.le_of_ble_eq_true rfl | with_reducible exact bo_1 n10 | with_reducible exact bo_n n10 | with_reducible exact ro_1 p4 | with_reducible exact ro_6 p4 | with_reducible exact ro_1 p5 | with_reducible exact ro_6 p5 | with_reducible exact ro_1 n8 | with_reducible exact ro_6 n8 | with_reducible exact ro_1 n9 | with_reducible exact ro_6 n9 | rfl) (by decide) rfl (by first | with_reducible assumption | exact Nat.le_of_ble_eq_true rfl | with_reducible exact bo_1 n10 | with_reducible exact bo_n n10 | with_reducible exact ro_1 p4 | with_reducible exact ro_6 p4 | with_reducible exact ro_1 p5 | with_reducible exact ro_6 p5 | with_reducible exact ro_1 n8 | with_reducible exact ro_6 n8 | with_reducible exact ro_1 n9 | with_reducible exact ro_6 n9 | rfl) (Nat.le_of_ble_eq_true rfl) kk) ?_
  refine Sx.up (fun _ kk => r_istore 20 dX2_pass_18 rfl (by decide) rfl kk) ?_
  refine Sx.up (fun _ kk => r_iconst (1) 21 dX2_pass_20 rfl (by decide) kk) ?_
  refine Sx.up (fun _ kk => r_istore 23 dX2_pass_21 rfl (by decide) rfl kk) ?_
  exact loop (E1, v0) ⟨hF2, hR1, h260.trans rfl, 0, by omega, hc1, hr1, hne0, rfl⟩
  · intro ⟨E3, x⟩ ⟨hF, hR, h26, t0, ht0, hc, hr, hne, hS⟩
    simp only [Nat.add_sub_cancel] at hS
    have hS80 := hc.1
    simp only
    refine Sx.up (fun _ kk => r_iload 25 dX2_pass_23 rfl rfl kk) ?_
    refine Sx.up (fun _ kk => r_iload_n 26 dX2_pass_25 rfl rfl kk) ?_
    refine Sx.up (fun _ kk => r_icmp_gt 29 58 dX2_pass_26 rfl (by decide) (fun _ => kk) (fun h26 => absurd (nI_lt (by omega) (by omega)) h26)) ?_
    refine Sx.up (fun _ kk => r_aload_n 59 dX2_pass_58 rfl rfl kk) ?_
    refine Sx.up (fun _ kk => r_aload_n 60 dX2_pass_59 rfl rfl kk) ?_
    refine Sx.up (fun _ kk => r_getI 63 dX2_pass_60 rfl f2_42 rfl (by first | with_reducible assumption | exact Nat.le_of_ble_eq_true rfl | with_reducible exact bo_1 n10 | with_reducible exact bo_n n10 | with_reducible exact ro_1 p4 | with_reducible exact ro_6 p4 | with_reducible exact ro_1 p5 | with_reducible exact ro_6 p5 | with_reducible exact ro_1 n8 | with_reducible exact ro_6 n8 | with_reducible exact ro_1 n9 | with_reducible exact ro_6 n9 | rfl) (by first | with_reducible assumption | exact Nat.le_of_ble_eq_true rfl | with_reducible exact bo_1 n10 | with_reducible exact bo_n n10 | with_reducible exact ro_1 p4 | with_reducible exact ro_6 p4 | with_reducible exact ro_1 p5 | with_reducible exact ro_6 p5 | with_reducible exact ro_1 n8 | with_reducible exact ro_6 n8 | with_reducible exact ro_1 n9 | with_reducible exact ro_6 n9 | rfl) kk) ?_
    refine Sx.up (fun _ kk => r_iload_n 64 dX2_pass_63 rfl rfl kk) ?_
    refine Sx.up (fun _ kk => r_aload_n 65 dX2_pass_64 rfl rfl kk) ?_
    refine Sx.up (fun _ kk => r_getI 68 dX2_pass_65 rfl f2_45 rfl (by first | with_reducible assumption | exact Nat.le_of_ble_eq_true rfl | with_reducible exact bo_1 n10 | with_reducible exact bo_n n10 | with_reducible exact ro_1 p4 | with_reducible exact ro_6 p4 | with_reducible exact ro_1 p5 | with_reducible exact ro_6 p5 | with_reducible exact ro_1 n8 | with_reducible exact ro_6 n8 | with_reducible exact ro_1 n9 | with_reducible exact ro_6 n9 | rfl) (by first | with_reducible assumption | exact Nat.le_of_ble_eq_true rfl | with_reducible exact bo_1 n10 | with_reducible exact bo_n n10 | with_reducible exact ro_1 p4 | with_reducible exact ro_6 p4 | with_reducible exact ro_1 p5 | with_reducible exact ro_6 p5 | with_reducible exact ro_1 n8 | with_reducible exact ro_6 n8 | with_reducible exact ro_1 n9 | with_reducible exact ro_6 n9 | rfl) kk) ?_
    refine Sx.up (fun _ kk => r_isub 69 dX2_pass_68 rfl kk) ?_
    refine Sx.up (fun _ kk => r_max 72 dX2_pass_69 rfl k2_80 (Nat.le_of_ble_eq_true rfl) kk) ?_
    refine Sx.up (fun _ kk => r_putI 75 dX2_pass_72 rfl f2_42 (by first | with_reducible assumption | exact Nat.le_of_ble_eq_true rfl | with_reducible exact bo_1 n10 | with_reducible exact bo_n n10 | with_reducible exact ro_1 p4 | with_reducible exact ro_6 p4 | with_reducible exact ro_1 p5 | with_reducible exact ro_6 p5 | with_reducible exact ro_1 n8 | with_reducible exact ro_6 n8 | with_reducible exact ro_1 n9 | with_reducible exact ro_6 n9 | rfl) (by first | with_reducible assumption | exact Nat.le_of_ble_eq_true rfl | with_reducible exact bo_1 n10 | with_reducible exact bo_n n10 | with_reducible exact ro_1 p4 | with_reducible exact ro_6 p4 | with_reducible exact ro_1 p5 | with_reducible exact ro_6 p5 | with_reducible exact ro_1 n8 | with_reducible exact ro_6 n8 | with_reducible exact ro_1 n9 | with_reducible exact ro_6 n9 | rfl) kk) ?_
    refine ⟨_, ?_, r_vret dX2_pass_75 rfl rfl rfl⟩
    refine ⟨_, rfl, fr_sI (Or.inl rfl) hF, fun g a1 a2 => (hR g).trans (hg2 g a1 a2), by rw [gI_sI, if_neg (by omega)]; exact h26, ⟨t0, ?_⟩, ?_, ?_, ?_, fun j hj k hk => ?_, fun j y g1 => ?_⟩
    · exact ⟨night_fr (fr_sI (Or.inl rfl) fr_rfl) (fun _ => rfl) hc.1, nvis_fr hc.1.2.2.2.2.2.2.2.2.2.2.2.1 hc.1.2.2.2.2.2.2.2.2.2.2.2.2.1 (fr_sI (Or.inl rfl) fr_rfl) hc.2.1, by rw [gI_sI, if_neg (by omega)]; exact hc.2.2.1, hc.2.2.2.1, fun j hj => ⟨(hc.2.2.2.2 j hj).1, by rw [gI_sI, if_neg (by omega)]; exact (hc.2.2.2.2 j hj).2.1, by rw [gI_sI, if_neg (by omega)]; exact (hc.2.2.2.2 j hj).2.2.1, by rw [gI_sI, if_neg (by omega)]; exact (hc.2.2.2.2 j hj).2.2.2⟩⟩
    · rw [gI_sI, if_neg (by omega), hS]; exact hr.1
    · rw [gI_sI, if_neg (by omega), hS]; exact hr.2.1
    · rw [gI_sI, if_pos ⟨rfl, rfl⟩]
      unfold quF
      rw [hS, hr.2.2.1, hr.2.2.2.1]
      rfl
    · rw [gI_sI, if_neg (by omega), hS]; exact hr.2.2.2.2.1 j hj k hk
    · rw [gI_sI, if_neg (by omega)] at g1; rw [hS]; exact hr.2.2.2.2.2 j y g1
  · intro k9 ⟨E3, x⟩ hk1 hk2 ⟨hF, hR, h26, t0, ht0, hc, hr, hne, hS⟩ hq
    simp only
    have hk3 : nightF V k9 = minuteF V k9 (nightF V (k9 - 1)) := by
      obtain ⟨j, rfl⟩ : ∃ j, k9 = j + 1 := ⟨k9 - 1, by omega⟩
      rfl
    have hc9 := nc_263 (i := k9) (by omega) hc
    have hr9 := nr_263 (i := nI k9) hr
    have hln := night_len l7 t0
    have ht06 := hc.2.2.2.1
    obtain ⟨_, ⟨E4, rfl, hN4, hR4⟩, hcp⟩ := c_X2_passMinute (d := d) hc9 hr9 (by omega)
    have hc4 := nc_nf hN4 hc9
    obtain ⟨_, ⟨v4, rfl, hne4⟩, hcn4⟩ := c_X2_nextEvent (d := d + 3) hc4 hR4.2.2.2.2.1
    refine Sx.up (fun _ kk => r_iload 25 dX2_pass_23 rfl rfl kk) ?_
    refine Sx.up (fun _ kk => r_iload_n 26 dX2_pass_25 rfl rfl kk) ?_
    refine Sx.up (fun _ kk => r_icmp_gt 29 58 dX2_pass_26 rfl (by decide) (fun h26 => absurd h26 (nI_nlt (by omega) (by omega))) (fun _ => kk)) ?_
    refine Sx.up (fun _ kk => r_iload 31 dX2_pass_29 rfl rfl kk) ?_
    refine Sx.up (fun _ kk => r_iload 33 dX2_pass_31 rfl rfl kk) ?_
    refine Sx.br (fun _ ka kb => r_icmp_lt 36 52 dX2_pass_33 rfl (by decide) ka kb) (by first | exact em1 | exact em2) (fun h33 => ?_) (fun h33 => ?_)
    · refine Sx.up (fun _ kk => r_iinc (1) 55 dX2_pass_52 rfl rfl (by decide) (by decide) rfl kk) ?_
      refine Sx.up (fun _ kk => r_goto 23 dX2_pass_55 (by decide) kk) ?_
      rw [nI_pp]
      refine hq (E3, x) ⟨hF, hR, h26, t0, by omega, hc, hr, hne, ?_⟩
      show nightF V k9 = nightF V t0
      rw [hk3, hS]
      exact idle he hne (by omega) (by omega) h33
    · refine Sx.up (fun _ kk => r_aload_n 37 dX2_pass_36 rfl rfl kk) ?_
      refine Sx.up (fun _ kk => r_iload 39 dX2_pass_37 rfl rfl kk) ?_
      refine Sx.up (fun _ kk => r_putI 42 dX2_pass_39 rfl f2_33 (by first | with_reducible assumption | exact Nat.le_of_ble_eq_true rfl | with_reducible exact bo_1 n10 | with_reducible exact bo_n n10 | with_reducible exact ro_1 p4 | with_reducible exact ro_6 p4 | with_reducible exact ro_1 p5 | with_reducible exact ro_6 p5 | with_reducible exact ro_1 n8 | with_reducible exact ro_6 n8 | with_reducible exact ro_1 n9 | with_reducible exact ro_6 n9 | rfl) (by first | with_reducible assumption | exact Nat.le_of_ble_eq_true rfl | with_reducible exact bo_1 n10 | with_reducible exact bo_n n10 | with_reducible exact ro_1 p4 | with_reducible exact ro_6 p4 | with_reducible exact ro_1 p5 | with_reducible exact ro_6 p5 | with_reducible exact ro_1 n8 | with_reducible exact ro_6 n8 | with_reducible exact ro_1 n9 | with_reducible exact ro_6 n9 | rfl) kk) ?_
      refine Sx.up (fun _ kk => r_aload_n 43 dX2_pass_42 rfl rfl kk) ?_
      refine Sx.up (fun _ kk => r_callV (M := mX2_pass) (pc := 43) 46 dX2_pass_43 rfl k2_77 hcp rfl rfl (by first | with_reducible assumption | exact Nat.le_of_ble_eq_true rfl | with_reducible exact bo_1 n10 | with_reducible exact bo_n n10 | with_reducible exact ro_1 p4 | with_reducible exact ro_6 p4 | with_reducible exact ro_1 p5 | with_reducible exact ro_6 p5 | with_reducible exact ro_1 n8 | with_reducible exact ro_6 n8 | with_reducible exact ro_1 n9 | with_reducible exact ro_6 n9 | rfl) (by decide) rfl (by first | with_reducible assumption | exact Nat.le_of_ble_eq_true rfl | with_reducible exact bo_1 n10 | with_reducible exact bo_n n10 | with_reducible exact ro_1 p4 | with_reducible exact ro_6 p4 | with_reducible exact ro_1 p5 | with_reducible exact ro_6 p5 | with_reducible exact ro_1 n8 | with_reducible exact ro_6 n8 | with_reducible exact ro_1 n9 | with_reducible exact ro_6 n9 | rfl) (Nat.le_of_ble_eq_true rfl) kk) ?_
      refine Sx.up (fun _ kk => r_aload_n 47 dX2_pass_46 rfl rfl kk) ?_
      refine Sx.up (fun _ kk => r_callV (M := mX2_pass) (pc := 47) 50 dX2_pass_47 rfl k2_73 hcn4 rfl rfl (by first | with_reducible assumption | exact Nat.le_of_ble_eq_true rfl | with_reducible exact bo_1 n10 | with_reducible exact bo_n n10 | with_reducible exact ro_1 p4 | with_reducible exact ro_6 p4 | with_reducible exact ro_1 p5 | with_reducible exact ro_6 p5 | with_reducible exact ro_1 n8 | with_reducible exact ro_6 n8 | with_reducible exact ro_1 n9 | with_reducible exact ro_6 n9 | rfl) (by decide) rfl (by first | with_reducible assumption | exact Nat.le_of_ble_eq_true rfl | with_reducible exact bo_1 n10 | with_reducible exact bo_n n10 | with_reducible exact ro_1 p4 | with_reducible exact ro_6 p4 | with_reducible exact ro_1 p5 | with_reducible exact ro_6 p5 | with_reducible exact ro_1 n8 | with_reducible exact ro_6 n8 | with_reducible exact ro_1 n9 | with_reducible exact ro_6 n9 | rfl) (Nat.le_of_ble_eq_true rfl) kk) ?_
      refine Sx.up (fun _ kk => r_istore 52 dX2_pass_50 rfl (by decide) rfl kk) ?_
      refine Sx.up (fun _ kk => r_iinc (1) 55 dX2_pass_52 rfl rfl (by decide) (by decide) rfl kk) ?_
      refine Sx.up (fun _ kk => r_goto 23 dX2_pass_55 (by decide) kk) ?_
      rw [nI_pp]
      refine hq (E4, v4) ⟨fr_tr (fr_sI (Or.inl rfl) hF) (nf_pp hN4), fun g => ?_, ?_, k9, by omega, hc4, ?_, ?_, rfl⟩
      · rw [← hR g]
        show gR E4 g 80 = gR (sI E3 263 80 (nI k9)) g 80
        unfold gR; rw [hN4.1.1]
      · show gI E4 260 80 = _
        rw [hN4.2.1 _ _ (by omega) (by omega), gI_sI, if_neg (by omega)]
        exact h26
      · rw [hk3, hS]; exact hR4
      · rw [hk3, hS]; exact hne4
set_option maxRecDepth 20000 in
theorem c_X2_forgetSums {d : Nat} {E : HP} (h8 : gR E 258 80 = some 82) (o8 : RowOK E 137 82 7) : Cl yX2_forgetSums mX2_forgetSums (d + 1) 0 0 [.ref 80] E 137 (.inl none, rFill 82 0 7 E, 137) := by
  refine Cl.of (by decide) rfl (fun q => by cases q) rfl rfl (Nat.le_of_ble_eq_true rfl) ?_
  show Sm _ _ _ _ _ 0 [some (.ref 80)] [] _ _
  refine r_aload_n 1 dX2_forgetSums_0 rfl rfl ?_
  refine r_getR 4 dX2_forgetSums_1 rfl f2_22 rfl (by first | with_reducible assumption | exact Nat.le_of_ble_eq_true rfl | rfl) (by first | with_reducible assumption | exact Nat.le_of_ble_eq_true rfl | rfl) (by first | with_reducible assumption | exact Nat.le_of_ble_eq_true rfl | rfl) ?_
  refine r_iconst (0) 5 dX2_forgetSums_4 rfl (by decide) ?_
  refine r_callV (M := mX2_forgetSums) (pc := 5) 8 dX2_forgetSums_5 rfl k2_235 (c_X6_fill o8) rfl rfl (by first | with_reducible assumption | exact Nat.le_of_ble_eq_true rfl | rfl) (by decide) rfl (by first | with_reducible assumption | exact Nat.le_of_ble_eq_true rfl | rfl) (Nat.le_of_ble_eq_true rfl) ?_
  exact r_vret dX2_forgetSums_8 rfl rfl (rfl)
