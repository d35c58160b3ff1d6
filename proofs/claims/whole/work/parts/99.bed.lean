/-! The class: a text told -/
theorem row_gr {E E2 : HP} {n h l : Nat} (q : gR E2 768 h = gR E 768 h) (k : RowOK E n h l) : RowOK E2 n h l := ⟨k.1, q.trans k.2.1, k.2.2⟩
theorem bed_gr {E E2 : HP} {n b : Nat} (q : ∀ g k, g < 1000 → g ≠ 641 → gR E2 g k = gR E g k) (qq : gQ E2 = gQ E) (k : BedOK E n b) : BedOK E2 n b := by
  obtain ⟨k1, k2, k3, k4, k5, k6, k7, k8, k9, ⟨u1, u2, u3, u4, u5, u6, u7, u8⟩, k11⟩ := k
  exact ⟨k1, (q _ _ (by decide) (by decide)).trans k2, (q _ _ (by decide) (by decide)).trans k3, (q _ _ (by decide) (by decide)).trans k4, (q _ _ (by decide) (by decide)).trans k5, k6, k7, fun i hi => ⟨by rw [qq]; exact (k8 i hi).1, (k8 i hi).2⟩, row_gr (q _ _ (by decide) (by decide)) k9, ⟨u1, (q _ _ (by decide) (by decide)).trans u2, (q _ _ (by decide) (by decide)).trans u3, (q _ _ (by decide) (by decide)).trans u4, row_gr (q _ _ (by decide) (by decide)) u5, row_gr (q _ _ (by decide) (by decide)) u6, row_gr (q _ _ (by decide) (by decide)) u7, u8⟩, k11⟩
theorem cr_list : ∀ q ∈ crL, ¬ (q.1 = 641 ∧ q.2.1 = 41) ∧ ¬ (q.1 = 1280 ∧ q.2.1 = 42) ∧ ¬ (q.1 = 1411 ∧ q.2.1 = 0) ∧ ¬ (q.1 = 1412 ∧ q.2.1 = 0) := by decide
theorem cr_gen {E E2 : HP} {b b2 : Nat} (c : CR E b) (hb : b2 = 3 ∨ b2 = 22) (h : ∀ g k, ¬ (g = 641 ∧ k = 41) → ¬ (g = 1280 ∧ k = 42) → ¬ (g = 1411 ∧ k = 0) → ¬ (g = 1412 ∧ k = 0) → gR E2 g k = gR E g k) (hq : gQ E2 = gQ E) (h1 : gR E2 1411 0 = some b2) (h2 : gR E2 1412 0 = some (25 - b2)) (h3 : gR E2 641 41 = some 3 ∨ gR E2 641 41 = some 22) (h4 : gR E2 1280 42 = some 43 ∨ gR E2 1280 42 = some 1) : CR E2 b2 := by
  obtain ⟨-, c2, -, -, c5, c6, c7, -⟩ := c
  have hg : ∀ g k, g < 1000 → g ≠ 641 → gR E2 g k = gR E g k := fun g k z1 z2 => h g k (fun y => z2 y.1) (by omega) (by omega) (by omega)
  exact ⟨hb, fun q m => (h _ _ (cr_list q m).1 (cr_list q m).2.1 (cr_list q m).2.2.1 (cr_list q m).2.2.2).trans (c2 q m), h1, h2, fun i hi => by rw [hq]; exact c5 i hi, bed_gr hg hq c6, bed_gr hg hq c7, h3, h4⟩
/-- the heap behind a text that was read into the bed b: the beds change places, the plan is laid anew -/
noncomputable def bedH (b b2 l : Nat) (E : HP) : HP := sI (sI (stSettle 45 b2 l (sR (sR (sI E 1410 0 (gI E 643 41)) 1411 0 (some b2)) 1412 0 (some b))) 1416 0 0) 1418 0 (-1)
set_option maxRecDepth 20000 in
theorem x_bed {d b L m t : Nat} {R : List Int32} {E : HP} {w : Int32} (hci : CI E b L m R) (ht : gI E 1409 0 = nI t) (hw : ¬ inC w (nI t)) : Cl yX11_bed mX11_bed (d + 60) 1 6 [.ref 0, .int (w)] E 137 (.inr iaeN, E, 137) := by
  have hC := hci.1
  refine Cl.of (by decide) rfl (fun q => by cases q) rfl rfl (Nat.le_of_ble_eq_true rfl) ?_
  show Sm _ _ _ _ _ 0 [some (.ref 0), some (.int (w)), none, none] [] _ _
  refine r_iload_n 1 dX11_bed_0 rfl rfl ?_
  refine r_if_lt 4 12 dX11_bed_1 rfl (by decide) (fun h1 => ?_) (fun h1 => ?_)
  · exact r_throw dX11_bed_12 rfl rfl rfl dX11_bed_15 dX11_bed_16 dX11_bed_19 tp_iae (Or.inl rfl) rfl rfl rfl (by first | rfl | assumption) (rfl) (by decide)
  · refine r_iload_n 5 dX11_bed_4 rfl rfl ?_
    refine r_aload_n 6 dX11_bed_5 rfl rfl ?_
    refine r_getIV (nI t) 9 dX11_bed_6 rfl f11_18 rfl (by first | with_reducible assumption | with_reducible exact cr_bs hC | rfl) (by first | with_reducible assumption | with_reducible exact cr_bn hC | exact Nat.le_of_ble_eq_true rfl) (ht) ?_
    refine r_icmp_le 12 20 dX11_bed_9 rfl (by decide) (fun h9 => absurd h9 (fun z => hw ⟨h1, z⟩)) (fun h9 => ?_)
    exact r_throw dX11_bed_12 rfl rfl rfl dX11_bed_15 dX11_bed_16 dX11_bed_19 tp_iae (Or.inl rfl) rfl rfl rfl (by first | rfl | assumption) (rfl) (by decide)
set_option maxHeartbeats 16000000 in
set_option maxRecDepth 20000 in
theorem c_bedX {d b L m t k f p : Nat} {R : List Int32} {E : HP} (hci : CI E b L m R) (ht : gI E 1409 0 = nI t) (h6 : t ≤ 600) (hk : k ≤ t) (hT : TXok ((fun i => gA E 2 i, k) : TX)) (hx : textS ((fun i => gA E 2 i, k) : TX) = .inl (f, p)) : ∃ o, (∃ E2, o = (.inl (some (.int (nI f))), stRefuse 45 0 (sI E2 1410 0 (gI E2 643 41)), 137) ∧ RdE (sI E 1409 0 0) E2 (25 - b) ∧ CR E2 b ∧ CSt E2 ((fun i => gA E 2 i, k) : TX) (25 - b) (.inl (f, p))) ∧ Cl yX11_bed mX11_bed (d + 60) 0 0 [.ref 0, .int (nI k)] E 137 o := by
  have hC := hci.1
  have hb := hC.1
  have hC0 : CR (sI E 1409 0 0) b := hC
  have hsp : gR E 1412 0 = some (25 - b) := hC.2.2.2.1
  have hb2 : 25 - b = 3 ∨ 25 - b = 22 := by rcases hb with z | z <;> rw [z] <;> decide
  have hbo : BedOK (sI E 1409 0 0) 137 (25 - b) := by
    show BedOK E 137 (25 - b)
    rcases hb with z | z
    · rw [z]; exact hC.2.2.2.2.2.2.1
    · rw [z]; exact hC.2.2.2.2.2.1
  obtain ⟨_, ⟨E2, rfl, ⟨r1, r2, r3⟩, r4, r5, r6⟩, hrd⟩ := c_read (d := d + 6) (T := ((fun i => gA E 2 i, k) : TX)) (E := sI E 1409 0 0) hT (cr_row1 hC) (fun i _ => rfl) hb2 hbo (cr_640_41 hC)
  have hC2 : CR E2 b := cr_gen hC0 hb (fun g k z1 z2 _ _ => r2 g k z1 z2) r3 ((r2 _ _ (by decide) (by decide)).trans hC.2.2.1) ((r2 _ _ (by decide) (by decide)).trans hsp) (by rw [r4]; rcases hb2 with z | z <;> rw [z]; exact Or.inl rfl; exact Or.inr rfl) (Or.inr r5)
  rw [hx] at hrd r6
  have hrd : Cl yX5_read mX5_read (d + 6 + 53) 0 0 [.ref 41, .ref 1, .int (nI k), .ref (25 - b)] (sI E 1409 0 0) 137 (.inl (some (.int (nI f))), E2, 137) := hrd
  have f15 := r6
  have hs5 : StateOK (sI E2 1410 0 (gI E2 643 41)) 137 45 := cr_state45 hC2
  refine Cx.of (by decide) rfl (fun q => by cases q) rfl rfl (Nat.le_of_ble_eq_true rfl) ?_
  show Sx _ _ _ _ _ 0 [some (.ref 0), some (.int (nI k)), none, none] [] _ _
  refine Sx.up (fun _ kk => r_iload_n 1 dX11_bed_0 rfl rfl kk) ?_
  refine Sx.up (fun _ kk => r_if_lt 4 12 dX11_bed_1 rfl (by decide) (fun h1 => absurd h1 (nI_pos (by omega))) (fun _ => kk)) ?_
  refine Sx.up (fun _ kk => r_iload_n 5 dX11_bed_4 rfl rfl kk) ?_
  refine Sx.up (fun _ kk => r_aload_n 6 dX11_bed_5 rfl rfl kk) ?_
  refine Sx.up (fun _ kk => r_getIV (nI t) 9 dX11_bed_6 rfl f11_18 rfl (by first | with_reducible assumption | with_reducible exact cr_bs hC | rfl) (by first | with_reducible assumption | with_reducible exact cr_bn hC | exact Nat.le_of_ble_eq_true rfl) (ht) kk) ?_
  refine Sx.up (fun _ kk => r_icmp_le 12 20 dX11_bed_9 rfl (by decide) (fun _ => kk) (fun h9 => absurd (nI_le hk (by omega)) h9)) ?_
  refine Sx.up (fun _ kk => r_aload_n 21 dX11_bed_20 rfl rfl kk) ?_
  refine Sx.up (fun _ kk => r_iconst (0) 22 dX11_bed_21 rfl (by decide) kk) ?_
  refine Sx.up (fun _ kk => r_putI 25 dX11_bed_22 rfl f11_18 (by first | with_reducible assumption | with_reducible exact cr_bs hC | rfl) (by first | with_reducible assumption | with_reducible exact cr_bn hC | exact Nat.le_of_ble_eq_true rfl) kk) ?_
  refine Sx.up (fun _ kk => r_aload_n 26 dX11_bed_25 rfl rfl kk) ?_
  refine Sx.up (fun _ kk => r_getR 29 dX11_bed_26 rfl f11_40 rfl (by first | with_reducible assumption | with_reducible exact cr_bs hC | rfl) (by first | with_reducible assumption | with_reducible exact cr_bn hC | exact Nat.le_of_ble_eq_true rfl) (cr_1413_0 hC) kk) ?_
  refine Sx.up (fun _ kk => r_aload_n 30 dX11_bed_29 rfl rfl kk) ?_
  refine Sx.up (fun _ kk => r_getR 33 dX11_bed_30 rfl f11_14 rfl (by first | with_reducible assumption | with_reducible exact cr_bs hC | rfl) (by first | with_reducible assumption | with_reducible exact cr_bn hC | exact Nat.le_of_ble_eq_true rfl) (cr_1408_0 hC) kk) ?_
  refine Sx.up (fun _ kk => r_iload_n 34 dX11_bed_33 rfl rfl kk) ?_
  refine Sx.up (fun _ kk => r_aload_n 35 dX11_bed_34 rfl rfl kk) ?_
  refine Sx.up (fun _ kk => r_getR 38 dX11_bed_35 rfl f11_32 rfl (by first | with_reducible assumption | with_reducible exact cr_bs hC | rfl) (by first | with_reducible assumption | with_reducible exact cr_bn hC | exact Nat.le_of_ble_eq_true rfl) (hsp) kk) ?_
  refine Sx.up (fun _ kk => r_callV (M := mX11_bed) (pc := 38) 41 dX11_bed_38 rfl k11_93 hrd rfl rfl (by first | with_reducible assumption | with_reducible exact cr_bs hC | rfl) (by decide) rfl (by first | with_reducible assumption | with_reducible exact cr_bn hC | exact Nat.le_of_ble_eq_true rfl) (Nat.le_of_ble_eq_true rfl) kk) ?_
  refine Sx.up (fun _ kk => r_istore_n 42 dX11_bed_41 rfl (by decide) rfl kk) ?_
  refine Sx.up (fun _ kk => r_aload_n 43 dX11_bed_42 rfl rfl kk) ?_
  refine Sx.up (fun _ kk => r_aload_n 44 dX11_bed_43 rfl rfl kk) ?_
  refine Sx.up (fun _ kk => r_getR 47 dX11_bed_44 rfl f11_40 rfl (by first | with_reducible assumption | with_reducible exact cr_bs hC | rfl) (by first | with_reducible assumption | with_reducible exact cr_bn hC | exact Nat.le_of_ble_eq_true rfl) (cr_1413_0 hC2) kk) ?_
  refine Sx.up (fun _ kk => r_getI 50 dX11_bed_47 rfl f11_97 rfl (by first | with_reducible assumption | with_reducible exact cr_bs hC | rfl) (by first | with_reducible assumption | with_reducible exact cr_bn hC | exact Nat.le_of_ble_eq_true rfl) kk) ?_
  refine Sx.up (fun _ kk => r_putI 53 dX11_bed_50 rfl f11_22 (by first | with_reducible assumption | with_reducible exact cr_bs hC | rfl) (by first | with_reducible assumption | with_reducible exact cr_bn hC | exact Nat.le_of_ble_eq_true rfl) kk) ?_
  refine Sx.up (fun _ kk => r_iload_n 54 dX11_bed_53 rfl rfl kk) ?_
  refine Sx.up (fun _ kk => r_if_eq 57 67 dX11_bed_54 rfl (by decide) (fun h54 => absurd h54 (nI_ne0 f15.2.1 (by have := f15.2.2.1; omega))) (fun _ => kk)) ?_
  refine Sx.up (fun _ kk => r_aload_n 58 dX11_bed_57 rfl rfl kk) ?_
  refine Sx.up (fun _ kk => r_getR 61 dX11_bed_58 rfl f11_47 rfl (by first | with_reducible assumption | with_reducible exact cr_bs hC | rfl) (by first | with_reducible assumption | with_reducible exact cr_bn hC | exact Nat.le_of_ble_eq_true rfl) (cr_1414_0 hC2) kk) ?_
  refine Sx.up (fun _ kk => r_iconst (0) 62 dX11_bed_61 rfl (by decide) kk) ?_
  refine Sx.up (fun _ kk => r_callV (M := mX11_bed) (pc := 62) 65 dX11_bed_62 rfl k11_98 (c_X9_refuse hs5) rfl rfl (by first | with_reducible assumption | with_reducible exact cr_bs hC | rfl) (by decide) rfl (by first | with_reducible assumption | with_reducible exact cr_bn hC | exact Nat.le_of_ble_eq_true rfl) (Nat.le_of_ble_eq_true rfl) kk) ?_
  refine Sx.up (fun _ kk => r_iload_n 66 dX11_bed_65 rfl rfl kk) ?_
  refine ⟨_, ?_, r_iret dX11_bed_66 rfl rfl rfl⟩
  exact ⟨E2, rfl, ⟨r1, r2, r3⟩, hC2, r6⟩
set_option maxHeartbeats 16000000 in
set_option maxRecDepth 20000 in
theorem c_bed {d b L m t k a : Nat} {R : List Int32} {E : HP} {B : BD} (hci : CI E b L m R) (ht : gI E 1409 0 = nI t) (h6 : t ≤ 600) (hk : k ≤ t) (hT : TXok ((fun i => gA E 2 i, k) : TX)) (hx : textS ((fun i => gA E 2 i, k) : TX) = .inr (a, B)) : ∃ o, (∃ E2, o = (.inl (some (.int 0)), bedH b (25 - b) (bC B) E2, 137) ∧ RdE (sI E 1409 0 0) E2 (25 - b) ∧ CR E2 b ∧ CR (bedH b (25 - b) (bC B) E2) (25 - b) ∧ CSt E2 ((fun i => gA E 2 i, k) : TX) (25 - b) (.inr (a, B))) ∧ Cl yX11_bed mX11_bed (d + 60) 0 0 [.ref 0, .int (nI k)] E 137 o := by
  have hC := hci.1
  have hb := hC.1
  have hC0 : CR (sI E 1409 0 0) b := hC
  have hsp : gR E 1412 0 = some (25 - b) := hC.2.2.2.1
  have hb2 : 25 - b = 3 ∨ 25 - b = 22 := by rcases hb with z | z <;> rw [z] <;> decide
  have hbo : BedOK (sI E 1409 0 0) 137 (25 - b) := by
    show BedOK E 137 (25 - b)
    rcases hb with z | z
    · rw [z]; exact hC.2.2.2.2.2.2.1
    · rw [z]; exact hC.2.2.2.2.2.1
  obtain ⟨_, ⟨E2, rfl, ⟨r1, r2, r3⟩, r4, r5, r6⟩, hrd⟩ := c_read (d := d + 6) (T := ((fun i => gA E 2 i, k) : TX)) (E := sI E 1409 0 0) hT (cr_row1 hC) (fun i _ => rfl) hb2 hbo (cr_640_41 hC)
  have hC2 : CR E2 b := cr_gen hC0 hb (fun g k z1 z2 _ _ => r2 g k z1 z2) r3 ((r2 _ _ (by decide) (by decide)).trans hC.2.2.1) ((r2 _ _ (by decide) (by decide)).trans hsp) (by rw [r4]; rcases hb2 with z | z <;> rw [z]; exact Or.inl rfl; exact Or.inr rfl) (Or.inr r5)
  rw [hx] at hrd r6
  have hrd : Cl yX5_read mX5_read (d + 6 + 53) 0 0 [.ref 41, .ref 1, .int (nI k), .ref (25 - b)] (sI E 1409 0 0) 137 (.inl (some (.int 0)), E2, 137) := hrd
  obtain ⟨E4, hE4⟩ : ∃ E4, sR (sR (sI E2 1410 0 (gI E2 643 41)) 1411 0 (some (25 - b))) 1412 0 (some b) = E4 := ⟨_, rfl⟩
  have g4 : ∀ g k, ¬ (g = 1411 ∧ k = 0) → ¬ (g = 1412 ∧ k = 0) → gR E4 g k = gR E2 g k := fun g k z1 z2 => by subst hE4; rw [gR_sR, if_neg z2, gR_sR, if_neg z1]; rfl
  have q4 : gQ E4 = gQ E2 := by subst hE4; rfl
  have hC4 : CR E4 (25 - b) := cr_gen hC2 hb2 (fun g k _ _ z3 z4 => g4 g k z3 z4) q4 (by subst hE4; rw [gR_sR, if_neg (by decide), gR_sR, if_pos ⟨rfl, rfl⟩]) (by subst hE4; rw [gR_sR, if_pos ⟨rfl, rfl⟩]; exact congrArg some (by omega)) (by rw [g4 _ _ (by decide) (by decide), r4]; rcases hb2 with z | z <;> rw [z]; exact Or.inl rfl; exact Or.inr rfl) (Or.inr ((g4 _ _ (by decide) (by decide)).trans r5))
  have hs4 := cr_state45 hC4
  have hbo4 : BedOK E4 137 (25 - b) := by
    rcases hb2 with z | z
    · rw [z]; exact hC4.2.2.2.2.2.1
    · rw [z]; exact hC4.2.2.2.2.2.2.1
  have hl4 : gI E4 4 (25 - b) = nI (bC B) := by subst hE4; show gI (sI E2 1410 0 (gI E2 643 41)) 4 (25 - b) = _; rw [gI_sI, if_neg (fun z => absurd z.1 (by decide))]; exact r6.2.2.2.2.1
  have l7 : bC B ≤ 7 := r6.2.2.2.2.2.1
  have hst := c_X9_settle (d := d + 56) hs4 hbo4 hl4 l7
  have hC5 : CR (bedH b (25 - b) (bC B) E2) (25 - b) := by unfold bedH; rw [hE4]; exact cr_sr (sr_sI (sr_sI sr_stSettle)) hC4
  refine Cx.of (by decide) rfl (fun q => by cases q) rfl rfl (Nat.le_of_ble_eq_true rfl) ?_
  show Sx _ _ _ _ _ 0 [some (.ref 0), some (.int (nI k)), none, none] [] _ _
  refine Sx.up (fun _ kk => r_iload_n 1 dX11_bed_0 rfl rfl kk) ?_
  refine Sx.up (fun _ kk => r_if_lt 4 12 dX11_bed_1 rfl (by decide) (fun h1 => absurd h1 (nI_pos (by omega))) (fun _ => kk)) ?_
  refine Sx.up (fun _ kk => r_iload_n 5 dX11_bed_4 rfl rfl kk) ?_
  refine Sx.up (fun _ kk => r_aload_n 6 dX11_bed_5 rfl rfl kk) ?_
  refine Sx.up (fun _ kk => r_getIV (nI t) 9 dX11_bed_6 rfl f11_18 rfl (by first | with_reducible assumption | with_reducible exact cr_bs hC | rfl) (by first | with_reducible assumption | with_reducible exact cr_bn hC | exact Nat.le_of_ble_eq_true rfl) (ht) kk) ?_
  refine Sx.up (fun _ kk => r_icmp_le 12 20 dX11_bed_9 rfl (by decide) (fun _ => kk) (fun h9 => absurd (nI_le hk (by omega)) h9)) ?_
  refine Sx.up (fun _ kk => r_aload_n 21 dX11_bed_20 rfl rfl kk) ?_
  refine Sx.up (fun _ kk => r_iconst (0) 22 dX11_bed_21 rfl (by decide) kk) ?_
  refine Sx.up (fun _ kk => r_putI 25 dX11_bed_22 rfl f11_18 (by first | with_reducible assumption | with_reducible exact cr_bs hC | rfl) (by first | with_reducible assumption | with_reducible exact cr_bn hC | exact Nat.le_of_ble_eq_true rfl) kk) ?_
  refine Sx.up (fun _ kk => r_aload_n 26 dX11_bed_25 rfl rfl kk) ?_
  refine Sx.up (fun _ kk => r_getR 29 dX11_bed_26 rfl f11_40 rfl (by first | with_reducible assumption | with_reducible exact cr_bs hC | rfl) (by first | with_reducible assumption | with_reducible exact cr_bn hC | exact Nat.le_of_ble_eq_true rfl) (cr_1413_0 hC) kk) ?_
  refine Sx.up (fun _ kk => r_aload_n 30 dX11_bed_29 rfl rfl kk) ?_
  refine Sx.up (fun _ kk => r_getR 33 dX11_bed_30 rfl f11_14 rfl (by first | with_reducible assumption | with_reducible exact cr_bs hC | rfl) (by first | with_reducible assumption | with_reducible exact cr_bn hC | exact Nat.le_of_ble_eq_true rfl) (cr_1408_0 hC) kk) ?_
  refine Sx.up (fun _ kk => r_iload_n 34 dX11_bed_33 rfl rfl kk) ?_
  refine Sx.up (fun _ kk => r_aload_n 35 dX11_bed_34 rfl rfl kk) ?_
  refine Sx.up (fun _ kk => r_getR 38 dX11_bed_35 rfl f11_32 rfl (by first | with_reducible assumption | with_reducible exact cr_bs hC | rfl) (by first | with_reducible assumption | with_reducible exact cr_bn hC | exact Nat.le_of_ble_eq_true rfl) (hsp) kk) ?_
  refine Sx.up (fun _ kk => r_callV (M := mX11_bed) (pc := 38) 41 dX11_bed_38 rfl k11_93 hrd rfl rfl (by first | with_reducible assumption | with_reducible exact cr_bs hC | rfl) (by decide) rfl (by first | with_reducible assumption | with_reducible exact cr_bn hC | exact Nat.le_of_ble_eq_true rfl) (Nat.le_of_ble_eq_true rfl) kk) ?_
  refine Sx.up (fun _ kk => r_istore_n 42 dX11_bed_41 rfl (by decide) rfl kk) ?_
  refine Sx.up (fun _ kk => r_aload_n 43 dX11_bed_42 rfl rfl kk) ?_
  refine Sx.up (fun _ kk => r_aload_n 44 dX11_bed_43 rfl rfl kk) ?_
  refine Sx.up (fun _ kk => r_getR 47 dX11_bed_44 rfl f11_40 rfl (by first | with_reducible assumption | with_reducible exact cr_bs hC | rfl) (by first | with_reducible assumption | with_reducible exact cr_bn hC | exact Nat.le_of_ble_eq_true rfl) (cr_1413_0 hC2) kk) ?_
  refine Sx.up (fun _ kk => r_getI 50 dX11_bed_47 rfl f11_97 rfl (by first | with_reducible assumption | with_reducible exact cr_bs hC | rfl) (by first | with_reducible assumption | with_reducible exact cr_bn hC | exact Nat.le_of_ble_eq_true rfl) kk) ?_
  refine Sx.up (fun _ kk => r_putI 53 dX11_bed_50 rfl f11_22 (by first | with_reducible assumption | with_reducible exact cr_bs hC | rfl) (by first | with_reducible assumption | with_reducible exact cr_bn hC | exact Nat.le_of_ble_eq_true rfl) kk) ?_
  refine Sx.up (fun _ kk => r_iload_n 54 dX11_bed_53 rfl rfl kk) ?_
  refine Sx.up (fun _ kk => r_if_eq 57 67 dX11_bed_54 rfl (by decide) (fun _ => kk) (fun h54 => absurd rfl h54)) ?_
  refine Sx.up (fun _ kk => r_aload_n 68 dX11_bed_67 rfl rfl kk) ?_
  refine Sx.up (fun _ kk => r_getR 71 dX11_bed_68 rfl f11_28 rfl (by first | with_reducible assumption | with_reducible exact cr_bs hC | rfl) (by first | with_reducible assumption | with_reducible exact cr_bn hC | exact Nat.le_of_ble_eq_true rfl) (cr_told hC2) kk) ?_
  refine Sx.up (fun _ kk => r_astore_n 72 dX11_bed_71 rfl (by decide) rfl kk) ?_
  refine Sx.up (fun _ kk => r_aload_n 73 dX11_bed_72 rfl rfl kk) ?_
  refine Sx.up (fun _ kk => r_aload_n 74 dX11_bed_73 rfl rfl kk) ?_
  refine Sx.up (fun _ kk => r_getR 77 dX11_bed_74 rfl f11_32 rfl (by first | with_reducible assumption | with_reducible exact cr_bs hC | rfl) (by first | with_reducible assumption | with_reducible exact cr_bn hC | exact Nat.le_of_ble_eq_true rfl) (hC2.2.2.2.1) kk) ?_
  refine Sx.up (fun _ kk => r_putR 80 dX11_bed_77 rfl f11_28 rfl (Or.inl rfl) (by first | with_reducible assumption | with_reducible exact cr_bs hC | rfl) (by first | with_reducible assumption | with_reducible exact cr_bn hC | exact Nat.le_of_ble_eq_true rfl) kk) ?_
  refine Sx.up (fun _ kk => r_aload_n 81 dX11_bed_80 rfl rfl kk) ?_
  refine Sx.up (fun _ kk => r_aload_n 82 dX11_bed_81 rfl rfl kk) ?_
  refine Sx.up (fun _ kk => r_putR 85 dX11_bed_82 rfl f11_32 rfl (Or.inl rfl) (by first | with_reducible assumption | with_reducible exact cr_bs hC | rfl) (by first | with_reducible assumption | with_reducible exact cr_bn hC | exact Nat.le_of_ble_eq_true rfl) kk) ?_
  rw [hE4]
  refine Sx.up (fun _ kk => r_aload_n 86 dX11_bed_85 rfl rfl kk) ?_
  refine Sx.up (fun _ kk => r_getR 89 dX11_bed_86 rfl f11_47 rfl (by first | with_reducible assumption | with_reducible exact cr_bs hC | rfl) (by first | with_reducible assumption | with_reducible exact cr_bn hC | exact Nat.le_of_ble_eq_true rfl) (cr_1414_0 hC4) kk) ?_
  refine Sx.up (fun _ kk => r_aload_n 90 dX11_bed_89 rfl rfl kk) ?_
  refine Sx.up (fun _ kk => r_getR 93 dX11_bed_90 rfl f11_28 rfl (by first | with_reducible assumption | with_reducible exact cr_bs hC | rfl) (by first | with_reducible assumption | with_reducible exact cr_bn hC | exact Nat.le_of_ble_eq_true rfl) (hC4.2.2.1) kk) ?_
  refine Sx.up (fun _ kk => r_callV (M := mX11_bed) (pc := 93) 96 dX11_bed_93 rfl k11_80 hst rfl rfl (by first | with_reducible assumption | with_reducible exact cr_bs hC | rfl) (by decide) rfl (by first | with_reducible assumption | with_reducible exact cr_bn hC | exact Nat.le_of_ble_eq_true rfl) (Nat.le_of_ble_eq_true rfl) kk) ?_
  refine Sx.up (fun _ kk => r_aload_n 97 dX11_bed_96 rfl rfl kk) ?_
  refine Sx.up (fun _ kk => r_iconst (0) 98 dX11_bed_97 rfl (by decide) kk) ?_
  refine Sx.up (fun _ kk => r_putZ 101 dX11_bed_98 rfl f11_54 (by first | with_reducible assumption | with_reducible exact cr_bs hC | rfl) (by first | with_reducible assumption | with_reducible exact cr_bn hC | exact Nat.le_of_ble_eq_true rfl) (by decide) kk) ?_
  refine Sx.up (fun _ kk => r_aload_n 102 dX11_bed_101 rfl rfl kk) ?_
  refine Sx.up (fun _ kk => r_iconst (-1) 103 dX11_bed_102 rfl (by decide) kk) ?_
  refine Sx.up (fun _ kk => r_putI 106 dX11_bed_103 rfl f11_61 (by first | with_reducible assumption | with_reducible exact cr_bs hC | rfl) (by first | with_reducible assumption | with_reducible exact cr_bn hC | exact Nat.le_of_ble_eq_true rfl) kk) ?_
  refine Sx.up (fun _ kk => r_iconst (0) 107 dX11_bed_106 rfl (by decide) kk) ?_
  refine ⟨_, ?_, r_iret dX11_bed_107 rfl rfl rfl⟩
  refine ⟨E2, ?_, ⟨r1, r2, r3⟩, hC2, hC5, r6⟩
  unfold bedH
  rw [hE4]
