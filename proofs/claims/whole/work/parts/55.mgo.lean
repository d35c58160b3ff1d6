/-! The model: begin, go, allWoken, tellFree, set -/
abbrev asB : List Nat := [115, 116, 117, 118, 119]
theorem sum0 {f : Nat → Int32} : ∀ l, (∀ i, i < l → f i = 0) → sumM f l = 0 := by
  intro l
  induction l with
  | zero => intro _; rfl
  | succ l ih =>
    intro h
    show sumM f l + f l = 0
    rw [ih (fun i hi => h i (by omega)), h l (by omega)]
    rfl
set_option maxRecDepth 20000 in
theorem c_X12_begin {d : Nat} {E : HP} {x : Int32} (hM : MoOK E) : ∃ o, (∃ E2, o = (.inl none, E2, 137) ∧ MF gsN asB E E2 ∧ gI E2 1585 95 = 0 ∧ gI E2 1587 95 = 0 ∧ gI E2 1588 95 = 0 ∧ (∀ i, i < 7 → gA E2 115 i = x ∧ gA E2 116 i = 0 ∧ gA E2 117 i = -10000 ∧ gA E2 118 i = 0 ∧ gA E2 119 i = 0)) ∧ Cl yX12_begin mX12_begin (d + 1) 0 0 [.ref 95, .int x] E 137 o := by
  refine Cx.of (by decide) rfl (fun q => by cases q) rfl rfl (Nat.le_of_ble_eq_true rfl) ?_
  show Sx _ _ _ _ _ 0 [some (.ref 95), some (.int x), none] [] _ _
  have loop := sxUp (S := fun k9 E1 => Sx mX12_begin (d + 1) 0 0 (fun o => ∃ E2, o = (.inl none, E2, 137) ∧ MF gsN asB E E2 ∧ gI E2 1585 95 = 0 ∧ gI E2 1587 95 = 0 ∧ gI E2 1588 95 = 0 ∧ (∀ i, i < 7 → gA E2 115 i = x ∧ gA E2 116 i = 0 ∧ gA E2 117 i = -10000 ∧ gA E2 118 i = 0 ∧ gA E2 119 i = 0)) 2 [some (.ref 95), some (.int x), some (.int (nI k9))] [] E1 137) (Inv := fun k9 E1 => MF [] asB E E1 ∧ (∀ i, i < k9 → gA E1 115 i = x ∧ gA E1 116 i = 0 ∧ gA E1 117 i = -10000 ∧ gA E1 118 i = 0 ∧ gA E1 119 i = 0)) (a := 0) (l := 7) (by omega) ?_ ?_ E ⟨mf_rfl, fun i hi => absurd hi (by omega)⟩
  refine Sx.up (fun _ kk => r_iconst (0) 1 dX12_begin_0 rfl (by decide) kk) ?_
  refine Sx.up (fun _ kk => r_istore_n 2 dX12_begin_1 rfl (by decide) rfl kk) ?_
  exact loop
  · intro E1 ⟨hN, hA⟩
    have hM1 := mf_mo hN hM
    refine Sx.up (fun _ kk => r_iload_n 3 dX12_begin_2 rfl rfl kk) ?_
    refine Sx.up (fun _ kk => r_bipush (7) 5 dX12_begin_3 rfl (by decide) kk) ?_
    refine Sx.up (fun _ kk => r_icmp_ge 8 51 dX12_begin_5 rfl (by decide) (fun _ => kk) (fun h5 => absurd (nI_le (a := 7) (b := 7) (by omega) (by omega)) h5)) ?_
    refine Sx.up (fun _ kk => r_aload_n 52 dX12_begin_51 rfl rfl kk) ?_
    refine Sx.up (fun _ kk => r_iconst (0) 53 dX12_begin_52 rfl (by decide) kk) ?_
    refine Sx.up (fun _ kk => r_putI 56 dX12_begin_53 rfl f12_365 rfl lt95 kk) ?_
    refine Sx.up (fun _ kk => r_aload_n 57 dX12_begin_56 rfl rfl kk) ?_
    refine Sx.up (fun _ kk => r_iconst (0) 58 dX12_begin_57 rfl (by decide) kk) ?_
    refine Sx.up (fun _ kk => r_putI 61 dX12_begin_58 rfl f12_385 rfl lt95 kk) ?_
    refine Sx.up (fun _ kk => r_aload_n 62 dX12_begin_61 rfl rfl kk) ?_
    refine Sx.up (fun _ kk => r_iconst (0) 63 dX12_begin_62 rfl (by decide) kk) ?_
    refine Sx.up (fun _ kk => r_putI 66 dX12_begin_63 rfl f12_388 rfl lt95 kk) ?_
    refine ⟨_, ?_, r_vret dX12_begin_66 rfl rfl rfl⟩
    refine ⟨_, rfl, mf_sI (by decide) (mf_sI (by decide) (mf_sI (by decide) (mf_mono hN (by decide) (by decide)))), ?_, ?_, ?_, hA⟩
    all_goals simp [gI_sI]
  · intro k9 E1 hk0 hk9 ⟨hN, hA⟩ hq
    have hM1 := mf_mo hN hM
    refine Sx.up (fun _ kk => r_iload_n 3 dX12_begin_2 rfl rfl kk) ?_
    refine Sx.up (fun _ kk => r_bipush (7) 5 dX12_begin_3 rfl (by decide) kk) ?_
    refine Sx.up (fun _ kk => r_icmp_ge 8 51 dX12_begin_5 rfl (by decide) (fun h5 => absurd h5 (nI_ge (b := 7) hk9 (by omega))) (fun _ => kk)) ?_
    refine Sx.up (fun _ kk => r_aload_n 9 dX12_begin_8 rfl rfl kk) ?_
    refine Sx.up (fun _ kk => r_getR 12 dX12_begin_9 rfl f12_96 rfl rfl lt95 (mo_36 hM1) kk) ?_
    refine Sx.up (fun _ kk => r_iload_n 13 dX12_begin_12 rfl rfl kk) ?_
    refine Sx.up (fun _ kk => r_iload_n 14 dX12_begin_13 rfl rfl kk) ?_
    refine Sx.up (fun _ kk => r_iastN (k9) 15 dX12_begin_14 rfl rfl (Nat.le_of_ble_eq_true rfl) (rfl) (by omega) (Nat.le_of_ble_eq_true rfl) kk) ?_
    refine Sx.up (fun _ kk => r_aload_n 16 dX12_begin_15 rfl rfl kk) ?_
    refine Sx.up (fun _ kk => r_getR 19 dX12_begin_16 rfl f12_99 rfl rfl lt95 (mo_37 hM1) kk) ?_
    refine Sx.up (fun _ kk => r_iload_n 20 dX12_begin_19 rfl rfl kk) ?_
    refine Sx.up (fun _ kk => r_iconst (0) 21 dX12_begin_20 rfl (by decide) kk) ?_
    refine Sx.up (fun _ kk => r_iastN (k9) 22 dX12_begin_21 rfl rfl (Nat.le_of_ble_eq_true rfl) (rfl) (by omega) (Nat.le_of_ble_eq_true rfl) kk) ?_
    refine Sx.up (fun _ kk => r_aload_n 23 dX12_begin_22 rfl rfl kk) ?_
    refine Sx.up (fun _ kk => r_getR 26 dX12_begin_23 rfl f12_102 rfl rfl lt95 (mo_38 hM1) kk) ?_
    refine Sx.up (fun _ kk => r_iload_n 27 dX12_begin_26 rfl rfl kk) ?_
    refine Sx.up (fun _ kk => r_sipush (-10000) 30 dX12_begin_27 rfl (by decide) kk) ?_
    refine Sx.up (fun _ kk => r_iastN (k9) 31 dX12_begin_30 rfl rfl (Nat.le_of_ble_eq_true rfl) (rfl) (by omega) (Nat.le_of_ble_eq_true rfl) kk) ?_
    refine Sx.up (fun _ kk => r_aload_n 32 dX12_begin_31 rfl rfl kk) ?_
    refine Sx.up (fun _ kk => r_getR 35 dX12_begin_32 rfl f12_105 rfl rfl lt95 (mo_39 hM1) kk) ?_
    refine Sx.up (fun _ kk => r_iload_n 36 dX12_begin_35 rfl rfl kk) ?_
    refine Sx.up (fun _ kk => r_iconst (0) 37 dX12_begin_36 rfl (by decide) kk) ?_
    refine Sx.up (fun _ kk => r_iastN (k9) 38 dX12_begin_37 rfl rfl (Nat.le_of_ble_eq_true rfl) (rfl) (by omega) (Nat.le_of_ble_eq_true rfl) kk) ?_
    refine Sx.up (fun _ kk => r_aload_n 39 dX12_begin_38 rfl rfl kk) ?_
    refine Sx.up (fun _ kk => r_getR 42 dX12_begin_39 rfl f12_108 rfl rfl lt95 (mo_40 hM1) kk) ?_
    refine Sx.up (fun _ kk => r_iload_n 43 dX12_begin_42 rfl rfl kk) ?_
    refine Sx.up (fun _ kk => r_iconst (0) 44 dX12_begin_43 rfl (by decide) kk) ?_
    refine Sx.up (fun _ kk => r_iastN (k9) 45 dX12_begin_44 rfl rfl (Nat.le_of_ble_eq_true rfl) (rfl) (by omega) (Nat.le_of_ble_eq_true rfl) kk) ?_
    refine Sx.up (fun _ kk => r_iinc (1) 48 dX12_begin_45 rfl rfl (by decide) (by decide) rfl kk) ?_
    refine Sx.up (fun _ kk => r_goto 2 dX12_begin_48 (by decide) kk) ?_
    rw [nI_pp]
    refine hq _ ⟨mf_sA (by decide) (mf_sA (by decide) (mf_sA (by decide) (mf_sA (by decide) (mf_sA (by decide) hN)))), fun i hi => ?_⟩
    by_cases hik : i = k9
    · subst hik
      simp [gA_sA]
    · have h9 := hA i (by omega)
      simp only [gA_sA, Nat.reduceEqDiff, false_and, if_false, true_and, hik]
      exact h9
/-- behind begin the night has started -/
theorem mr_start {E : HP} {V : NV} {L : Nat} {x : Int32} (hv : MVis E V L) (hx : x = 0 ∨ x = 1) (hxv : x = vS V 4) (h5 : gI E 1585 95 = 0) (h7 : gI E 1587 95 = 0) (h8 : gI E 1588 95 = 0) (hA : ∀ i, i < 7 → gA E 115 i = x ∧ gA E 116 i = 0 ∧ gA E 117 i = -10000 ∧ gA E 118 i = 0 ∧ gA E 119 i = 0) : MR E V (startF V) L := by
  refine ⟨h5, h7, h8, ?_, fun i hi => ?_, fun i e _ h => ?_⟩
  · exact sum0 L fun i hi => (hA i (by have := hv.2.2.1; omega)).2.2.2.1
  · have ho := (hv.2.2.2.2.1 i hi).2.1
    have h3 := hv.2.2.1
    obtain ⟨a1, a2, a3, a4, a5⟩ := hA (oV V i) (by omega)
    refine ⟨?_, ?_, ?_, ⟨0, by omega, rfl⟩, Or.inl ⟨rfl, a3⟩, ?_, ?_⟩
    · rw [a1, hxv]; rfl
    · show vS V 4 = 0 ∨ vS V 4 = 1
      rw [← hxv]; exact hx
    · rw [a2]; rfl
    · rw [a4]; rfl
    · rw [a5]; rfl
  · have : ([] : List (Int32 × Int32 × Int32 × Int32))[i]? = some e := h
    simp at this
abbrev gsG : List Nat := [1585, 1586, 1587, 1588]
/-- behind a night of m minutes in the model -/
def GR (E : HP) (V : NV) (m L : Nat) : Prop := MoOK E ∧ MVis E V L ∧ gI E 1586 95 = nI m ∧ gI E 1585 95 = nI (nG (nightF V m)).length ∧ gI E 1587 95 = quF V m ∧ sumM (gA E 118) L = nS (nightF V m) 2 ∧ MLF E V (nA (nightF V m)) ∧ MWT E (nG (nightF V m))
theorem mvis_g {E E2 : HP} {V : NV} {L : Nat} (h : MF gsG asN E E2) (o : MVis E V L) : MVis E2 V L := by
  have g : ∀ g, g ∉ gsG → gI E2 g 95 = gI E g 95 := fun g hg => mf_gI h hg
  have a : ∀ a, a ∉ asN → gA E2 a = gA E a := fun a ha => mf_gA h ha
  unfold MVis at *
  rw [g 1581 (by decide), g 1582 (by decide), g 1583 (by decide), g 1584 (by decide), g 1589 (by decide), a 98 (by decide), a 99 (by decide), a 100 (by decide), a 101 (by decide), a 106 (by decide), a 113 (by decide), a 114 (by decide)]
  exact o
theorem mr_g {E E2 : HP} {V : NV} {S : NS} {L : Nat} (h : MF [1586] [] E E2) (o : MR E V S L) : MR E2 V S L := by
  obtain ⟨r1, r2, r3, r4, r5, r6⟩ := o
  refine ⟨(mf_gI h (by decide)).trans r1, (mf_gI h (by decide)).trans r2, (mf_gI h (by decide)).trans r3, by rw [mf_gA h (by decide)]; exact r4, mlf_mf h (by decide) (by decide) (by decide) (by decide) (by decide) r5, fun i x z1 z2 => ?_⟩
  rw [mf_gA h (by decide), mf_gA h (by decide), mf_gA h (by decide), mf_gA h (by decide)]
  exact r6 i x z1 z2
set_option maxRecDepth 20000 in
theorem c_X12_go {d m L : Nat} {V : NV} {E : HP} (hM : MoOK E) (hv : MVis E V L) (hx : vS V 4 = 0 ∨ vS V 4 = 1) (hm : m ≤ 600) : ∃ o, (∃ E2, o = (.inl none, E2, 137) ∧ MF gsG asN E E2 ∧ GR E2 V m L) ∧ Cl yX12_go mX12_go (d + 5) 0 0 [.ref 95, .int (vS V 4), .int (nI m)] E 137 o := by
  refine Cx.of (by decide) rfl (fun q => by cases q) rfl rfl (Nat.le_of_ble_eq_true rfl) ?_
  show Sx _ _ _ _ _ 0 [some (.ref 95), some (.int (vS V 4)), some (.int (nI m))] [] _ _
  obtain ⟨_, ⟨E0, rfl, hN0, b1, b2, b3, b4⟩, hbe⟩ := c_X12_begin (d := d + 3) (x := vS V 4) hM
  have hv0 := mvis_mf (mf_mono hN0 (by decide) (by decide)) hv
  have hr0 := mr_start hv0 hx rfl b1 b2 b3 b4
  have hN00 : MF gsG asN E E0 := mf_mono hN0 (by decide) (by decide)
  have l7 : vL V ≤ 7 := by have := hv.2.1; have := hv.2.2.1; omega
  have loop := sxUp (S := fun k9 E1 => Sx mX12_go (d + 5) 0 0 (fun o => ∃ E2, o = (.inl none, E2, 137) ∧ MF gsG asN E E2 ∧ GR E2 V m L) 10 [some (.ref 95), some (.int (vS V 4)), some (.int (nI m))] [] E1 137) (Inv := fun k9 E1 => MF gsG asN E E1 ∧ gI E1 1586 95 = nI k9 ∧ MR E1 V (nightF V (k9 - 1)) L) (a := 1) (l := m + 1) (by omega) ?_ ?_ (sI E0 1586 95 (nI 1)) ⟨mf_sI (by decide) hN00, by rw [gI_sI, if_pos ⟨rfl, rfl⟩], mr_g (mf_sI (by decide) mf_rfl) hr0⟩
  refine Sx.up (fun _ kk => r_aload_n 1 dX12_go_0 rfl rfl kk) ?_
  refine Sx.up (fun _ kk => r_iload_n 2 dX12_go_1 rfl rfl kk) ?_
  refine Sx.up (fun _ kk => r_callV (M := mX12_go) (pc := 2) 5 dX12_go_2 rfl k12_407 hbe rfl rfl rfl (by decide) rfl lt95 (Nat.le_of_ble_eq_true rfl) kk) ?_
  refine Sx.up (fun _ kk => r_aload_n 6 dX12_go_5 rfl rfl kk) ?_
  refine Sx.up (fun _ kk => r_iconst (1) 7 dX12_go_6 rfl (by decide) kk) ?_
  refine Sx.up (fun _ kk => r_putI 10 dX12_go_7 rfl f12_359 rfl lt95 kk) ?_
  exact loop
  · intro E1 ⟨hN, hk, hR⟩
    simp only [Nat.add_sub_cancel] at hR
    have hM1 := mf_mo hN hM
    refine Sx.up (fun _ kk => r_aload_n 11 dX12_go_10 rfl rfl kk) ?_
    refine Sx.up (fun _ kk => r_getIV (nI (m + 1)) 14 dX12_go_11 rfl f12_359 rfl rfl lt95 (hk) kk) ?_
    refine Sx.up (fun _ kk => r_iload_n 15 dX12_go_14 rfl rfl kk) ?_
    refine Sx.up (fun _ kk => r_icmp_gt 18 35 dX12_go_15 rfl (by decide) (fun _ => kk) (fun h15 => absurd (nI_lt (by omega) (by omega)) h15)) ?_
    refine Sx.up (fun _ kk => r_aload_n 36 dX12_go_35 rfl rfl kk) ?_
    refine Sx.up (fun _ kk => r_iload_n 37 dX12_go_36 rfl rfl kk) ?_
    refine Sx.up (fun _ kk => r_putI 40 dX12_go_37 rfl f12_359 rfl lt95 kk) ?_
    refine Sx.up (fun _ kk => r_aload_n 41 dX12_go_40 rfl rfl kk) ?_
    refine Sx.up (fun _ kk => r_aload_n 42 dX12_go_41 rfl rfl kk) ?_
    refine Sx.up (fun _ kk => r_getI 45 dX12_go_42 rfl f12_385 rfl rfl lt95 kk) ?_
    refine Sx.up (fun _ kk => r_iload_n 46 dX12_go_45 rfl rfl kk) ?_
    refine Sx.up (fun _ kk => r_aload_n 47 dX12_go_46 rfl rfl kk) ?_
    refine Sx.up (fun _ kk => r_getI 50 dX12_go_47 rfl f12_388 rfl rfl lt95 kk) ?_
    refine Sx.up (fun _ kk => r_isub 51 dX12_go_50 rfl kk) ?_
    refine Sx.up (fun _ kk => r_max 54 dX12_go_51 rfl k12_391 (Nat.le_of_ble_eq_true rfl) kk) ?_
    refine Sx.up (fun _ kk => r_putI 57 dX12_go_54 rfl f12_385 rfl lt95 kk) ?_
    refine ⟨_, ?_, r_vret dX12_go_57 rfl rfl rfl⟩
    refine ⟨_, rfl, mf_sI (by decide) (mf_sI (by decide) hN), hM1, mvis_g (mf_sI (by decide) (mf_sI (by decide) hN)) hv, ?_, ?_, ?_, hR.2.2.2.1, hR.2.2.2.2.1, hR.2.2.2.2.2⟩
    · simp [gI_sI]
    · simp only [gI_sI, Nat.reduceEqDiff, false_and, if_false, and_self, if_true]
      exact hR.1
    · simp only [gI_sI, Nat.reduceEqDiff, false_and, if_false, and_self, if_true, and_true]
      rw [hR.2.1, hR.2.2.1]
      rfl
  · intro k9 E1 hk1 hk2 ⟨hN, hk, hR⟩ hq
    have hM1 := mf_mo hN hM
    have hln := night_len l7 (k9 - 1)
    have hc1 : MC E1 V L k9 := ⟨hM1, mvis_g hN hv, hk, by omega⟩
    have hk3 : nightF V k9 = minuteF V k9 (nightF V (k9 - 1)) := by
      obtain ⟨j, rfl⟩ : ∃ j, k9 = j + 1 := ⟨k9 - 1, by omega⟩
      rfl
    obtain ⟨_, ⟨E2, rfl, hN2, hR2⟩, hcl⟩ := c_X12_minuteNow (d := d) hc1 hR (by omega) (by omega)
    have hN3 : MF gsG asN E E2 := mf_tr hN (mf_mono hN2 (by decide) (by decide))
    have hk22 : gI E2 1586 95 = nI k9 := (mf_gI hN2 (by decide)).trans hk
    refine Sx.up (fun _ kk => r_aload_n 11 dX12_go_10 rfl rfl kk) ?_
    refine Sx.up (fun _ kk => r_getIV (nI k9) 14 dX12_go_11 rfl f12_359 rfl rfl lt95 (hk) kk) ?_
    refine Sx.up (fun _ kk => r_iload_n 15 dX12_go_14 rfl rfl kk) ?_
    refine Sx.up (fun _ kk => r_icmp_gt 18 35 dX12_go_15 rfl (by decide) (fun h15 => absurd h15 (nI_nlt (by omega) (by omega))) (fun _ => kk)) ?_
    refine Sx.up (fun _ kk => r_aload_n 19 dX12_go_18 rfl rfl kk) ?_
    refine Sx.up (fun _ kk => r_callV (M := mX12_go) (pc := 19) 22 dX12_go_19 rfl k12_410 hcl rfl rfl rfl (by decide) rfl lt95 (Nat.le_of_ble_eq_true rfl) kk) ?_
    refine Sx.up (fun _ kk => r_aload_n 23 dX12_go_22 rfl rfl kk) ?_
    refine Sx.up (fun _ kk => r_dup 24 dX12_go_23 rfl rfl kk) ?_
    refine Sx.up (fun _ kk => r_getIV (nI k9) 27 dX12_go_24 rfl f12_359 rfl rfl lt95 (hk22) kk) ?_
    refine Sx.up (fun _ kk => r_iconst (1) 28 dX12_go_27 rfl (by decide) kk) ?_
    refine Sx.up (fun _ kk => r_iadd 29 dX12_go_28 rfl kk) ?_
    refine Sx.up (fun _ kk => r_putI 32 dX12_go_29 rfl f12_359 rfl lt95 kk) ?_
    refine Sx.up (fun _ kk => r_goto 10 dX12_go_32 (by decide) kk) ?_
    rw [nI_pp]
    exact hq _ ⟨mf_sI (by decide) hN3, by rw [gI_sI, if_pos ⟨rfl, rfl⟩], by rw [show k9 + 1 - 1 = k9 from rfl, hk3]; exact mr_g (mf_sI (by decide) mf_rfl) hR2⟩
set_option maxRecDepth 20000 in
theorem c_X12_allWoken {d L : Nat} {E : HP} (hM : MoOK E) (hL : gA E 98 0 = nI L) (h7 : L ≤ 7) : Cl yX12_allWoken mX12_allWoken (d) 0 0 [.ref 95] E 137 (.inl (some (.int (sumM (gA E 118) L))), E, 137) := by
  refine Cl.of (by decide) rfl (fun q => by cases q) rfl rfl (Nat.le_of_ble_eq_true rfl) ?_
  show Sm _ _ _ _ _ 0 [some (.ref 95), none, none] [] _ _
  have loop := loopUp (P := fun k9 => Sm mX12_allWoken d 0 0 (.inl (some (.int (sumM (gA E 118) L))), E, 137) 4 [some (.ref 95), some (.int (sumM (gA E 118) k9)), some (.int (nI k9))] [] E 137) (l := L) ?_ ?_
  refine r_iconst (0) 1 dX12_allWoken_0 rfl (by decide) ?_
  refine r_istore_n 2 dX12_allWoken_1 rfl (by decide) rfl ?_
  refine r_iconst (0) 3 dX12_allWoken_2 rfl (by decide) ?_
  refine r_istore_n 4 dX12_allWoken_3 rfl (by decide) rfl ?_
  exact loop
  · show Sm _ _ _ _ _ 4 _ _ _ _
    refine r_iload_n 5 dX12_allWoken_4 rfl rfl ?_
    refine r_aload_n 6 dX12_allWoken_5 rfl rfl ?_
    refine r_getR 9 dX12_allWoken_6 rfl f12_38 rfl rfl lt95 (mo_3 hM) ?_
    refine r_iconst (0) 10 dX12_allWoken_9 rfl (by decide) ?_
    refine r_ialdN (0) (nI L) 11 dX12_allWoken_10 rfl rfl (Nat.le_of_ble_eq_true rfl) (by decide) (Nat.le_of_ble_eq_true rfl) (Nat.le_of_ble_eq_true rfl) (hL) ?_
    refine r_icmp_ge 14 29 dX12_allWoken_11 rfl (by decide) (fun h11 => ?_) (fun h11 => absurd (nI_le (Nat.le_refl _) (by omega)) h11)
    refine r_iload_n 30 dX12_allWoken_29 rfl rfl ?_
    exact r_iret dX12_allWoken_30 rfl rfl (rfl)
  · intro k9 hk9 hq
    show Sm _ _ _ _ _ 4 _ _ _ _
    refine r_iload_n 5 dX12_allWoken_4 rfl rfl ?_
    refine r_aload_n 6 dX12_allWoken_5 rfl rfl ?_
    refine r_getR 9 dX12_allWoken_6 rfl f12_38 rfl rfl lt95 (mo_3 hM) ?_
    refine r_iconst (0) 10 dX12_allWoken_9 rfl (by decide) ?_
    refine r_ialdN (0) (nI L) 11 dX12_allWoken_10 rfl rfl (Nat.le_of_ble_eq_true rfl) (by decide) (Nat.le_of_ble_eq_true rfl) (Nat.le_of_ble_eq_true rfl) (hL) ?_
    refine r_icmp_ge 14 29 dX12_allWoken_11 rfl (by decide) (fun h11 => absurd h11 (nI_ge hk9 (by omega))) (fun h11 => ?_)
    refine r_iload_n 15 dX12_allWoken_14 rfl rfl ?_
    refine r_aload_n 16 dX12_allWoken_15 rfl rfl ?_
    refine r_getR 19 dX12_allWoken_16 rfl f12_105 rfl rfl lt95 (mo_39 hM) ?_
    refine r_iload_n 20 dX12_allWoken_19 rfl rfl ?_
    refine r_ialdN (k9) (_) 21 dX12_allWoken_20 rfl rfl (Nat.le_of_ble_eq_true rfl) (rfl) (by omega) (Nat.le_of_ble_eq_true rfl) (rfl) ?_
    refine r_iadd 22 dX12_allWoken_21 rfl ?_
    refine r_istore_n 23 dX12_allWoken_22 rfl (by decide) rfl ?_
    refine r_iinc (1) 26 dX12_allWoken_23 rfl rfl (by decide) (by decide) rfl ?_
    refine r_goto 4 dX12_allWoken_26 (by decide) ?_
    rw [nI_pp]
    exact hq
/-- the widths of those in the first k places of the model's row -/
def widM (E : HP) (k : Nat) : Int32 := match k with
  | 0 => gA E 98 2
  | k + 1 => widM E k + gA E 102 (gA E 113 k).toNatClampNeg
def freM (E : HP) (l : Nat) : Int32 := if gA E 98 1 < widM E l then 0 else 1
theorem widM_gA {E E2 : HP} (h : gA E2 = gA E) : ∀ k, widM E2 k = widM E k := by
  intro k
  induction k with
  | zero => unfold widM; rw [h]
  | succ k ih => unfold widM; rw [ih, h]
theorem freM_gA {E E2 : HP} (h : gA E2 = gA E) (l : Nat) : freM E2 l = freM E l := by unfold freM; rw [h, widM_gA h]
theorem freM_sI (E : HP) (g k : Nat) (v : Int32) (l : Nat) : freM (sI E g k v) l = freM E l := freM_gA (E := E) (E2 := sI E g k v) rfl l
set_option maxRecDepth 20000 in
theorem c_X12_tellFree {d l : Nat} {E : HP} (hM : MoOK E) (hl : gI E 1581 95 = nI l) (h7 : l ≤ 7) (ho : ∀ p, p < l → ∃ s, s < 7 ∧ gA E 113 p = nI s) : Cl yX12_tellFree mX12_tellFree (d) 0 0 [.ref 95] E 137 (.inl none, sI E 1589 95 (freM E l), 137) := by
  refine Cl.of (by decide) rfl (fun q => by cases q) rfl rfl (Nat.le_of_ble_eq_true rfl) ?_
  show Sm _ _ _ _ _ 0 [some (.ref 95), none, none] [] _ _
  have loop := loopUp (P := fun k9 => Sm mX12_tellFree d 0 0 (.inl none, sI E 1589 95 (freM E l), 137) 9 [some (.ref 95), some (.int (widM E k9)), some (.int (nI k9))] [] E 137) (l := l) ?_ ?_
  refine r_aload_n 1 dX12_tellFree_0 rfl rfl ?_
  refine r_getR 4 dX12_tellFree_1 rfl f12_38 rfl rfl lt95 (mo_3 hM) ?_
  refine r_iconst (2) 5 dX12_tellFree_4 rfl (by decide) ?_
  refine r_ialdN (2) (_) 6 dX12_tellFree_5 rfl rfl (Nat.le_of_ble_eq_true rfl) (by decide) (Nat.le_of_ble_eq_true rfl) (Nat.le_of_ble_eq_true rfl) (rfl) ?_
  refine r_istore_n 7 dX12_tellFree_6 rfl (by decide) rfl ?_
  refine r_iconst (0) 8 dX12_tellFree_7 rfl (by decide) ?_
  refine r_istore_n 9 dX12_tellFree_8 rfl (by decide) rfl ?_
  exact loop
  · show Sm _ _ _ _ _ 9 _ _ _ _
    refine r_iload_n 10 dX12_tellFree_9 rfl rfl ?_
    refine r_aload_n 11 dX12_tellFree_10 rfl rfl ?_
    refine r_getIV (nI l) 14 dX12_tellFree_11 rfl f12_341 rfl rfl lt95 (hl) ?_
    refine r_icmp_ge 17 37 dX12_tellFree_14 rfl (by decide) (fun h14 => ?_) (fun h14 => absurd (nI_le (Nat.le_refl _) (by omega)) h14)
    refine r_aload_n 38 dX12_tellFree_37 rfl rfl ?_
    refine r_aload_n 39 dX12_tellFree_38 rfl rfl ?_
    refine r_getR 42 dX12_tellFree_39 rfl f12_38 rfl rfl lt95 (mo_3 hM) ?_
    refine r_iconst (1) 43 dX12_tellFree_42 rfl (by decide) ?_
    refine r_ialdN (1) (_) 44 dX12_tellFree_43 rfl rfl (Nat.le_of_ble_eq_true rfl) (by decide) (Nat.le_of_ble_eq_true rfl) (Nat.le_of_ble_eq_true rfl) (rfl) ?_
    refine r_iload_n 45 dX12_tellFree_44 rfl rfl ?_
    refine r_icmp_lt 48 52 dX12_tellFree_45 rfl (by decide) (fun h45 => ?_) (fun h45 => ?_)
    · refine r_iconst (0) 53 dX12_tellFree_52 rfl (by decide) ?_
      refine r_putZ 56 dX12_tellFree_53 rfl f12_356 rfl lt95 (by decide) ?_
      exact r_vret dX12_tellFree_56 rfl rfl (by first | (rw [show freM E l = 0 by unfold freM; rw [if_pos h45]]) | (rw [show freM E l = 1 by unfold freM; rw [if_neg h45]]))
    · refine r_iconst (1) 49 dX12_tellFree_48 rfl (by decide) ?_
      refine r_goto 53 dX12_tellFree_49 (by decide) ?_
      refine r_putZ 56 dX12_tellFree_53 rfl f12_356 rfl lt95 (by decide) ?_
      exact r_vret dX12_tellFree_56 rfl rfl (by first | (rw [show freM E l = 0 by unfold freM; rw [if_pos h45]]) | (rw [show freM E l = 1 by unfold freM; rw [if_neg h45]]))
  · intro k9 hk9 hq
    show Sm _ _ _ _ _ 9 _ _ _ _
    obtain ⟨s, s7, hs⟩ := ho k9 hk9
    have hwid : widM E k9 + gA E 102 s = widM E (k9 + 1) := by
      show _ = widM E k9 + gA E 102 (gA E 113 k9).toNatClampNeg
      rw [hs, nI_clamp (by omega)]
    refine r_iload_n 10 dX12_tellFree_9 rfl rfl ?_
    refine r_aload_n 11 dX12_tellFree_10 rfl rfl ?_
    refine r_getIV (nI l) 14 dX12_tellFree_11 rfl f12_341 rfl rfl lt95 (hl) ?_
    refine r_icmp_ge 17 37 dX12_tellFree_14 rfl (by decide) (fun h14 => absurd h14 (nI_ge hk9 (by omega))) (fun h14 => ?_)
    refine r_iload_n 18 dX12_tellFree_17 rfl rfl ?_
    refine r_aload_n 19 dX12_tellFree_18 rfl rfl ?_
    refine r_getR 22 dX12_tellFree_19 rfl f12_50 rfl rfl lt95 (mo_7 hM) ?_
    refine r_aload_n 23 dX12_tellFree_22 rfl rfl ?_
    refine r_getR 26 dX12_tellFree_23 rfl f12_90 rfl rfl lt95 (mo_34 hM) ?_
    refine r_iload_n 27 dX12_tellFree_26 rfl rfl ?_
    refine r_ialdN (k9) (nI s) 28 dX12_tellFree_27 rfl rfl (Nat.le_of_ble_eq_true rfl) (rfl) (by omega) (Nat.le_of_ble_eq_true rfl) (hs) ?_
    refine r_ialdN (s) (_) 29 dX12_tellFree_28 rfl rfl (Nat.le_of_ble_eq_true rfl) (rfl) (by omega) (Nat.le_of_ble_eq_true rfl) (rfl) ?_
    refine r_iadd 30 dX12_tellFree_29 rfl ?_
    refine r_istore_n 31 dX12_tellFree_30 rfl (by decide) rfl ?_
    refine r_iinc (1) 34 dX12_tellFree_31 rfl rfl (by decide) (by decide) rfl ?_
    refine r_goto 9 dX12_tellFree_34 (by decide) ?_
    rw [nI_pp, hwid]
    exact hq
set_option maxRecDepth 20000 in
theorem c_X12_set {d L : Nat} {E : HP} (hM : MoOK E) (hL : gA E 98 0 = nI L) (h7 : L ≤ 7) (ho : ∀ p, p < L → ∃ s, s < 7 ∧ gA E 109 p = nI s) : ∃ o, (∃ E2, o = (.inl none, E2, 137) ∧ MF [1581, 1582, 1583, 1584, 1589] [113, 114] E E2 ∧ gI E2 1581 95 = nI L ∧ gI E2 1582 95 = gI E 1563 95 ∧ gI E2 1583 95 = (if gI E 1563 95 = -1 then 0 else gI E 1564 95) ∧ gI E2 1584 95 = gI E 1565 95 ∧ gI E2 1589 95 = freM E2 L ∧ (∀ i, i < L → gA E2 113 i = gA E 109 i ∧ gA E2 114 i = gA E 103 i)) ∧ Cl yX12_set mX12_set (d + 1) 0 0 [.ref 95] E 137 o := by
  refine Cx.of (by decide) rfl (fun q => by cases q) rfl rfl (Nat.le_of_ble_eq_true rfl) ?_
  show Sx _ _ _ _ _ 0 [some (.ref 95), none] [] _ _
  have hM1 := hM
  have loop := sxUp (S := fun k9 E1 => Sx mX12_set (d + 1) 0 0 (fun o => ∃ E2, o = (.inl none, E2, 137) ∧ MF [1581, 1582, 1583, 1584, 1589] [113, 114] E E2 ∧ gI E2 1581 95 = nI L ∧ gI E2 1582 95 = gI E 1563 95 ∧ gI E2 1583 95 = (if gI E 1563 95 = -1 then 0 else gI E 1564 95) ∧ gI E2 1584 95 = gI E 1565 95 ∧ gI E2 1589 95 = freM E2 L ∧ (∀ i, i < L → gA E2 113 i = gA E 109 i ∧ gA E2 114 i = gA E 103 i)) 12 [some (.ref 95), some (.int (nI k9))] [] E1 137) (Inv := fun k9 E1 => MF [1581] [113, 114] E E1 ∧ gI E1 1581 95 = nI L ∧ (∀ i, i < k9 → gA E1 113 i = gA E 109 i ∧ gA E1 114 i = gA E 103 i)) (a := 0) (l := L) (by omega) ?_ ?_ (sI E 1581 95 (nI L)) ⟨mf_sI (by decide) mf_rfl, by rw [gI_sI, if_pos ⟨rfl, rfl⟩], fun i hi => absurd hi (by omega)⟩
  refine Sx.up (fun _ kk => r_aload_n 1 dX12_set_0 rfl rfl kk) ?_
  refine Sx.up (fun _ kk => r_aload_n 2 dX12_set_1 rfl rfl kk) ?_
  refine Sx.up (fun _ kk => r_getR 5 dX12_set_2 rfl f12_38 rfl rfl lt95 (mo_3 hM1) kk) ?_
  refine Sx.up (fun _ kk => r_iconst (0) 6 dX12_set_5 rfl (by decide) kk) ?_
  refine Sx.up (fun _ kk => r_ialdN (0) (nI L) 7 dX12_set_6 rfl rfl (Nat.le_of_ble_eq_true rfl) (by decide) (Nat.le_of_ble_eq_true rfl) (Nat.le_of_ble_eq_true rfl) (hL) kk) ?_
  refine Sx.up (fun _ kk => r_putI 10 dX12_set_7 rfl f12_341 rfl lt95 kk) ?_
  refine Sx.up (fun _ kk => r_iconst (0) 11 dX12_set_10 rfl (by decide) kk) ?_
  refine Sx.up (fun _ kk => r_istore_n 12 dX12_set_11 rfl (by decide) rfl kk) ?_
  exact loop
  · intro E1 ⟨hN, hl, hA⟩
    have hM1 := mf_mo hN hM
    have hby : gI E1 1563 95 = gI E 1563 95 := mf_gI hN (by decide)
    have hev : gI E1 1564 95 = gI E 1564 95 := mf_gI hN (by decide)
    have hbo : gI E1 1565 95 = gI E 1565 95 := mf_gI hN (by decide)
    have tf : ∀ w e b, e = (if gI E 1563 95 = -1 then 0 else gI E 1564 95) → w = gI E 1563 95 → b = gI E 1565 95 → Sx mX12_set (d + 1) 0 0 (fun o => ∃ E2, o = (.inl none, E2, 137) ∧ MF [1581, 1582, 1583, 1584, 1589] [113, 114] E E2 ∧ gI E2 1581 95 = nI L ∧ gI E2 1582 95 = gI E 1563 95 ∧ gI E2 1583 95 = (if gI E 1563 95 = -1 then 0 else gI E 1564 95) ∧ gI E2 1584 95 = gI E 1565 95 ∧ gI E2 1589 95 = freM E2 L ∧ (∀ i, i < L → gA E2 113 i = gA E 109 i ∧ gA E2 114 i = gA E 103 i)) 86 [some (.ref 95), some (.int (nI L))] [] (sI (sI (sI E1 1582 95 w) 1583 95 e) 1584 95 b) 137 := by
      intro w e b he hw hb
      have hct := c_X12_tellFree (d := d) (l := L) (E := sI (sI (sI E1 1582 95 w) 1583 95 e) 1584 95 b) hM1 (by simp only [gI_sI, Nat.reduceEqDiff, false_and, if_false]; exact hl) h7 (fun p hp => by obtain ⟨s, hs, e⟩ := ho p hp; exact ⟨s, hs, (hA p hp).1.trans e⟩)
      refine Sx.up (fun _ kk => r_aload_n 87 dX12_set_86 rfl rfl kk) ?_
      refine Sx.up (fun _ kk => r_callV (M := mX12_set) (pc := 87) 90 dX12_set_87 rfl k12_353 hct rfl rfl rfl (by decide) rfl lt95 (Nat.le_of_ble_eq_true rfl) kk) ?_
      refine ⟨_, ?_, r_vret dX12_set_90 rfl rfl rfl⟩
      refine ⟨_, rfl, mf_sI (by decide) (mf_sI (by decide) (mf_sI (by decide) (mf_sI (by decide) (mf_mono hN (by decide) (by decide))))), ?_, ?_, ?_, ?_, ?_, hA⟩
      · simp only [gI_sI, Nat.reduceEqDiff, false_and, if_false]
        exact hl
      · simpa [gI_sI] using hw
      · simpa [gI_sI] using he
      · simpa [gI_sI] using hb
      · rw [gI_sI, if_pos ⟨rfl, rfl⟩]
        exact (freM_sI _ _ _ _ _).symm
    refine Sx.up (fun _ kk => r_iload_n 13 dX12_set_12 rfl rfl kk) ?_
    refine Sx.up (fun _ kk => r_aload_n 14 dX12_set_13 rfl rfl kk) ?_
    refine Sx.up (fun _ kk => r_getIV (nI L) 17 dX12_set_14 rfl f12_341 rfl rfl lt95 (hl) kk) ?_
    refine Sx.up (fun _ kk => r_icmp_ge 20 50 dX12_set_17 rfl (by decide) (fun _ => kk) (fun h17 => absurd (nI_le (Nat.le_refl _) (by omega)) h17)) ?_
    refine Sx.up (fun _ kk => r_aload_n 51 dX12_set_50 rfl rfl kk) ?_
    refine Sx.up (fun _ kk => r_aload_n 52 dX12_set_51 rfl rfl kk) ?_
    refine Sx.up (fun _ kk => r_getIV (gI E 1563 95) 55 dX12_set_52 rfl f12_81 rfl rfl lt95 (by first | exact hby | (simp only [gI_sI, Nat.reduceEqDiff, false_and, if_false]; exact hby)) kk) ?_
    refine Sx.up (fun _ kk => r_putI 58 dX12_set_55 rfl f12_344 rfl lt95 kk) ?_
    refine Sx.up (fun _ kk => r_aload_n 59 dX12_set_58 rfl rfl kk) ?_
    refine Sx.up (fun _ kk => r_aload_n 60 dX12_set_59 rfl rfl kk) ?_
    refine Sx.up (fun _ kk => r_getIV (gI E 1563 95) 63 dX12_set_60 rfl f12_81 rfl rfl lt95 (by first | exact hby | (simp only [gI_sI, Nat.reduceEqDiff, false_and, if_false]; exact hby)) kk) ?_
    refine Sx.up (fun _ kk => r_iconst (-1) 64 dX12_set_63 rfl (by decide) kk) ?_
    refine Sx.br (fun _ ka kb => r_icmp_ne 67 71 dX12_set_64 rfl (by decide) ka kb) (by first | exact em1 | exact em2) (fun h64 => ?_) (fun h64 => ?_)
    · refine Sx.up (fun _ kk => r_aload_n 72 dX12_set_71 rfl rfl kk) ?_
      refine Sx.up (fun _ kk => r_getIV (gI E 1564 95) 75 dX12_set_72 rfl f12_318 rfl rfl lt95 (by first | exact hev | (simp only [gI_sI, Nat.reduceEqDiff, false_and, if_false]; exact hev)) kk) ?_
      refine Sx.up (fun _ kk => r_putI 78 dX12_set_75 rfl f12_347 rfl lt95 kk) ?_
      refine Sx.up (fun _ kk => r_aload_n 79 dX12_set_78 rfl rfl kk) ?_
      refine Sx.up (fun _ kk => r_aload_n 80 dX12_set_79 rfl rfl kk) ?_
      refine Sx.up (fun _ kk => r_getIV (gI E 1565 95) 83 dX12_set_80 rfl f12_321 rfl rfl lt95 (by first | exact hbo | (simp only [gI_sI, Nat.reduceEqDiff, false_and, if_false]; exact hbo)) kk) ?_
      refine Sx.up (fun _ kk => r_putI 86 dX12_set_83 rfl f12_350 rfl lt95 kk) ?_
      exact tf _ _ _ (by rw [if_neg h64]) rfl rfl
    · refine Sx.up (fun _ kk => r_iconst (0) 68 dX12_set_67 rfl (by decide) kk) ?_
      refine Sx.up (fun _ kk => r_goto 75 dX12_set_68 (by decide) kk) ?_
      refine Sx.up (fun _ kk => r_putI 78 dX12_set_75 rfl f12_347 rfl lt95 kk) ?_
      refine Sx.up (fun _ kk => r_aload_n 79 dX12_set_78 rfl rfl kk) ?_
      refine Sx.up (fun _ kk => r_aload_n 80 dX12_set_79 rfl rfl kk) ?_
      refine Sx.up (fun _ kk => r_getIV (gI E 1565 95) 83 dX12_set_80 rfl f12_321 rfl rfl lt95 (by first | exact hbo | (simp only [gI_sI, Nat.reduceEqDiff, false_and, if_false]; exact hbo)) kk) ?_
      refine Sx.up (fun _ kk => r_putI 86 dX12_set_83 rfl f12_350 rfl lt95 kk) ?_
      exact tf _ _ _ (by rw [if_pos h64]) rfl rfl
  · intro k9 E1 hk0 hk9 ⟨hN, hl, hA⟩ hq
    have hM1 := mf_mo hN hM
    refine Sx.up (fun _ kk => r_iload_n 13 dX12_set_12 rfl rfl kk) ?_
    refine Sx.up (fun _ kk => r_aload_n 14 dX12_set_13 rfl rfl kk) ?_
    refine Sx.up (fun _ kk => r_getIV (nI L) 17 dX12_set_14 rfl f12_341 rfl rfl lt95 (hl) kk) ?_
    refine Sx.up (fun _ kk => r_icmp_ge 20 50 dX12_set_17 rfl (by decide) (fun h17 => absurd h17 (nI_ge hk9 (by omega))) (fun _ => kk)) ?_
    refine Sx.up (fun _ kk => r_aload_n 21 dX12_set_20 rfl rfl kk) ?_
    refine Sx.up (fun _ kk => r_getR 24 dX12_set_21 rfl f12_90 rfl rfl lt95 (mo_34 hM1) kk) ?_
    refine Sx.up (fun _ kk => r_iload_n 25 dX12_set_24 rfl rfl kk) ?_
    refine Sx.up (fun _ kk => r_aload_n 26 dX12_set_25 rfl rfl kk) ?_
    refine Sx.up (fun _ kk => r_getR 29 dX12_set_26 rfl f12_75 rfl rfl lt95 (mo_24 hM1) kk) ?_
    refine Sx.up (fun _ kk => r_iload_n 30 dX12_set_29 rfl rfl kk) ?_
    refine Sx.up (fun _ kk => r_ialdN (k9) (gA E 109 k9) 31 dX12_set_30 rfl rfl (Nat.le_of_ble_eq_true rfl) (rfl) (by omega) (Nat.le_of_ble_eq_true rfl) (by rw [mf_gA hN (by decide)]) kk) ?_
    refine Sx.up (fun _ kk => r_iastN (k9) 32 dX12_set_31 rfl rfl (Nat.le_of_ble_eq_true rfl) (rfl) (by omega) (Nat.le_of_ble_eq_true rfl) kk) ?_
    refine Sx.up (fun _ kk => r_aload_n 33 dX12_set_32 rfl rfl kk) ?_
    refine Sx.up (fun _ kk => r_getR 36 dX12_set_33 rfl f12_93 rfl rfl lt95 (mo_35 hM1) kk) ?_
    refine Sx.up (fun _ kk => r_iload_n 37 dX12_set_36 rfl rfl kk) ?_
    refine Sx.up (fun _ kk => r_aload_n 38 dX12_set_37 rfl rfl kk) ?_
    refine Sx.up (fun _ kk => r_getR 41 dX12_set_38 rfl f12_53 rfl rfl lt95 (mo_8 hM1) kk) ?_
    refine Sx.up (fun _ kk => r_iload_n 42 dX12_set_41 rfl rfl kk) ?_
    refine Sx.up (fun _ kk => r_ialdN (k9) (gA E 103 k9) 43 dX12_set_42 rfl rfl (Nat.le_of_ble_eq_true rfl) (rfl) (by omega) (Nat.le_of_ble_eq_true rfl) (by simp only [gA_sA, Nat.reduceEqDiff, false_and, if_false]; rw [mf_gA hN (by decide)]) kk) ?_
    refine Sx.up (fun _ kk => r_iastN (k9) 44 dX12_set_43 rfl rfl (Nat.le_of_ble_eq_true rfl) (rfl) (by omega) (Nat.le_of_ble_eq_true rfl) kk) ?_
    refine Sx.up (fun _ kk => r_iinc (1) 47 dX12_set_44 rfl rfl (by decide) (by decide) rfl kk) ?_
    refine Sx.up (fun _ kk => r_goto 12 dX12_set_47 (by decide) kk) ?_
    rw [nI_pp]
    refine hq _ ⟨mf_sA (by decide) (mf_sA (by decide) hN), hl, fun i hi => ?_⟩
    by_cases hik : i = k9
    · subst hik
      simp [gA_sA]
    · have h9 := hA i (by omega)
      simp only [gA_sA, Nat.reduceEqDiff, false_and, if_false, true_and, hik]
      exact h9
