/-! Plan.leaveOut, drawOuts, nextOrder -/
theorem nI_p (m : Nat) : nI m + 1 = nI (m + 1) := (nI_succ m).symm
set_option maxRecDepth 20000 in
theorem c_X4_leaveOut {d n p l k : Nat} {E : HP} {s : Int32} (okp : PlanOK E n p) (hl : gI E 514 p = nI l) (hl7 : l ≤ 7) (hk : k < l) (hv : PV E p l s (nI k)) : ∃ o, (∃ E2, o = (.inl none, E2, n) ∧ SR E E2 ∧ Fr (fun j => j = p ∨ j = p + 2) E E2 ∧ (∀ j, gA E2 (p + 2) j = if j < k then gA E (p + 2) j else if j + 1 < l then gA E (p + 2) (j + 1) else if j + 1 = l then gA E (p + 2) k else gA E (p + 2) j) ∧ gI E2 514 p = nI (l - 1) ∧ gI E2 516 p = (if gI E 516 p = s then -1 else gI E 516 p) ∧ gI E2 517 p = (if gI E 516 p = s then 0 else gI E 517 p) ∧ (∀ g, g ≠ 514 → g ≠ 516 → g ≠ 517 → gI E2 g p = gI E g p)) ∧ Cl yX4_leaveOut mX4_leaveOut (d + 2) 0 0 [.ref p, .int s] E n o := by
  obtain ⟨p1, p2, p3, p4, p5, p6⟩ := id okp
  refine Cx.of (by decide) rfl (fun q => by cases q) rfl rfl (Nat.le_of_ble_eq_true rfl) ?_
  show Sx _ _ _ _ _ 0 [some (.ref p), some (.int s), none] [] _ _
  have loop := sxUp (S := fun k9 E1 => Sx mX4_leaveOut (d + 2) 0 0 (fun o => ∃ E2, o = (.inl none, E2, n) ∧ SR E E2 ∧ Fr (fun j => j = p ∨ j = p + 2) E E2 ∧ (∀ j, gA E2 (p + 2) j = if j < k then gA E (p + 2) j else if j + 1 < l then gA E (p + 2) (j + 1) else if j + 1 = l then gA E (p + 2) k else gA E (p + 2) j) ∧ gI E2 514 p = nI (l - 1) ∧ gI E2 516 p = (if gI E 516 p = s then -1 else gI E 516 p) ∧ gI E2 517 p = (if gI E 516 p = s then 0 else gI E 517 p) ∧ (∀ g, g ≠ 514 → g ≠ 516 → g ≠ 517 → gI E2 g p = gI E g p)) 6 [some (.ref p), some (.int s), some (.int (nI k9))] [] E1 n) (Inv := fun k9 E1 => SR E E1 ∧ Fr (fun j => j = p + 2) E E1 ∧ (∀ j, gA E1 (p + 2) j = if j < k then gA E (p + 2) j else if j < k9 then gA E (p + 2) (j + 1) else if j = k9 then gA E (p + 2) k else gA E (p + 2) j)) (a := k) (l := l - 1) (by omega) ?_ ?_ E ⟨sr_rfl, fr_rfl, fun j => by by_cases h1 : j < k <;> by_cases h2 : j = k <;> simp [h1, h2]⟩
  refine Sx.up (fun _ kk => r_aload_n 1 dX4_leaveOut_0 rfl rfl kk) ?_
  refine Sx.up (fun _ kk => r_iload_n 2 dX4_leaveOut_1 rfl rfl kk) ?_
  refine Sx.up (fun _ kk => r_callV (M := mX4_leaveOut) (pc := 2) 5 dX4_leaveOut_2 rfl k4_83 (c_X4_placeOf okp hl hl7 hv) rfl rfl (by first | with_reducible assumption | with_reducible exact ro_1 p4 | with_reducible exact ro_6 p4 | with_reducible exact ro_1 p5 | with_reducible exact ro_6 p5 | exact sr_gR hS (by with_reducible assumption)) (by decide) rfl (by first | with_reducible assumption | with_reducible exact ro_1 p4 | with_reducible exact ro_6 p4 | with_reducible exact ro_1 p5 | with_reducible exact ro_6 p5 | exact sr_gR hS (by with_reducible assumption)) (Nat.le_of_ble_eq_true rfl) kk) ?_
  refine Sx.up (fun _ kk => r_istore_n 6 dX4_leaveOut_5 rfl (by decide) rfl kk) ?_
  exact loop
  · intro E1 ⟨hS, hF, hC⟩
    have hg : ∀ g, gI E1 g p = gI E g p := fun g => fr_gI hF (by omega) g
    have hl1 : gI E1 514 p - 1 = nI (l - 1) := by rw [hg, hl, show l = (l - 1) + 1 by omega, nI_pred]; rfl
    refine Sx.up (fun _ kk => r_iload_n 7 dX4_leaveOut_6 rfl rfl kk) ?_
    refine Sx.up (fun _ kk => r_if_lt 10 37 dX4_leaveOut_7 rfl (by decide) (fun h7 => absurd h7 (nI_pos (by omega))) (fun _ => kk)) ?_
    refine Sx.up (fun _ kk => r_iload_n 11 dX4_leaveOut_10 rfl rfl kk) ?_
    refine Sx.up (fun _ kk => r_aload_n 12 dX4_leaveOut_11 rfl rfl kk) ?_
    refine Sx.up (fun _ kk => r_getI 15 dX4_leaveOut_12 rfl f4_23 rfl (by first | with_reducible assumption | with_reducible exact ro_1 p4 | with_reducible exact ro_6 p4 | with_reducible exact ro_1 p5 | with_reducible exact ro_6 p5 | exact sr_gR hS (by with_reducible assumption)) (by first | with_reducible assumption | with_reducible exact ro_1 p4 | with_reducible exact ro_6 p4 | with_reducible exact ro_1 p5 | with_reducible exact ro_6 p5 | exact sr_gR hS (by with_reducible assumption)) kk) ?_
    refine Sx.up (fun _ kk => r_iconst (1) 16 dX4_leaveOut_15 rfl (by decide) kk) ?_
    refine Sx.up (fun _ kk => r_isub 17 dX4_leaveOut_16 rfl kk) ?_
    refine Sx.up (fun _ kk => r_icmp_ge 20 37 dX4_leaveOut_17 rfl (by decide) (fun _ => kk) (fun h17 => absurd (by rw [hl1]; exact nI_le (Nat.le_refl _) (by omega)) h17)) ?_
    refine Sx.up (fun _ kk => r_aload_n 38 dX4_leaveOut_37 rfl rfl kk) ?_
    refine Sx.up (fun _ kk => r_dup 39 dX4_leaveOut_38 rfl rfl kk) ?_
    refine Sx.up (fun _ kk => r_getI 42 dX4_leaveOut_39 rfl f4_23 rfl (by first | with_reducible assumption | with_reducible exact ro_1 p4 | with_reducible exact ro_6 p4 | with_reducible exact ro_1 p5 | with_reducible exact ro_6 p5 | exact sr_gR hS (by with_reducible assumption)) (by first | with_reducible assumption | with_reducible exact ro_1 p4 | with_reducible exact ro_6 p4 | with_reducible exact ro_1 p5 | with_reducible exact ro_6 p5 | exact sr_gR hS (by with_reducible assumption)) kk) ?_
    refine Sx.up (fun _ kk => r_iconst (1) 43 dX4_leaveOut_42 rfl (by decide) kk) ?_
    refine Sx.up (fun _ kk => r_isub 44 dX4_leaveOut_43 rfl kk) ?_
    refine Sx.up (fun _ kk => r_putI 47 dX4_leaveOut_44 rfl f4_23 (by first | with_reducible assumption | with_reducible exact ro_1 p4 | with_reducible exact ro_6 p4 | with_reducible exact ro_1 p5 | with_reducible exact ro_6 p5 | exact sr_gR hS (by with_reducible assumption)) (by first | with_reducible assumption | with_reducible exact ro_1 p4 | with_reducible exact ro_6 p4 | with_reducible exact ro_1 p5 | with_reducible exact ro_6 p5 | exact sr_gR hS (by with_reducible assumption)) kk) ?_
    refine Sx.up (fun _ kk => r_aload_n 48 dX4_leaveOut_47 rfl rfl kk) ?_
    refine Sx.up (fun _ kk => r_getI 51 dX4_leaveOut_48 rfl f4_30 rfl (by first | with_reducible assumption | with_reducible exact ro_1 p4 | with_reducible exact ro_6 p4 | with_reducible exact ro_1 p5 | with_reducible exact ro_6 p5 | exact sr_gR hS (by with_reducible assumption)) (by first | with_reducible assumption | with_reducible exact ro_1 p4 | with_reducible exact ro_6 p4 | with_reducible exact ro_1 p5 | with_reducible exact ro_6 p5 | exact sr_gR hS (by with_reducible assumption)) kk) ?_
    refine Sx.up (fun _ kk => r_iload_n 52 dX4_leaveOut_51 rfl rfl kk) ?_
    refine Sx.br (fun _ ka kb => r_icmp_ne 55 61 dX4_leaveOut_52 rfl (by decide) ka kb) (by first | exact em1 | exact em2) (fun h52 => ?_) (fun h52 => ?_)
    · refine ⟨_, ?_, r_vret dX4_leaveOut_61 rfl rfl rfl⟩
      have hq7 : ¬ gI E 516 p = s := by rw [← hg]; exact h52
      refine ⟨_, rfl, hS, fr_sI (Or.inl rfl) (fr_mono hF (fun _ z => Or.inr z)), ?_, ?_, ?_, ?_, ?_⟩
      · intro j
        have hj := hC j
        simp only [plSay, gA_sI]
        rw [hj]
        by_cases h1 : j < k
        · simp [h1]
        · by_cases h2 : j + 1 < l
          · simp [h1, h2, show j < l - 1 by omega]
          · have h3 : ¬ j < l - 1 := by omega
            have h4 : (j = l - 1) = (j + 1 = l) := propext (by omega)
            simp [h1, h2, h3, h4]
      · simp [plSay, gI_sI, hl1]
      · simp [plSay, gI_sI, hg, hq7]
      · simp [plSay, gI_sI, hg, hq7]
      · intro g h1 h2 h3
        simp [plSay, gI_sI, hg, hq7, h1, h2, h3]
    · refine Sx.up (fun _ kk => r_aload_n 56 dX4_leaveOut_55 rfl rfl kk) ?_
      refine Sx.up (fun _ kk => r_iconst (-1) 57 dX4_leaveOut_56 rfl (by decide) kk) ?_
      refine Sx.up (fun _ kk => r_iconst (0) 58 dX4_leaveOut_57 rfl (by decide) kk) ?_
      have hq7 : gI E 516 p = s := by rw [← hg]; exact h52
      refine Sx.up (fun _ kk => r_callV (M := mX4_leaveOut) (pc := 58) 61 dX4_leaveOut_58 rfl k4_64 (c_X4_letSay p1 p6) rfl rfl (by first | with_reducible assumption | with_reducible exact ro_1 p4 | with_reducible exact ro_6 p4 | with_reducible exact ro_1 p5 | with_reducible exact ro_6 p5 | exact sr_gR hS (by with_reducible assumption)) (by decide) rfl (by first | with_reducible assumption | with_reducible exact ro_1 p4 | with_reducible exact ro_6 p4 | with_reducible exact ro_1 p5 | with_reducible exact ro_6 p5 | exact sr_gR hS (by with_reducible assumption)) (Nat.le_of_ble_eq_true rfl) kk) ?_
      refine ⟨_, ?_, r_vret dX4_leaveOut_61 rfl rfl rfl⟩
      refine ⟨_, rfl, hS, fr_sI (Or.inl rfl) (fr_sI (Or.inl rfl) (fr_sI (Or.inl rfl) (fr_mono hF (fun _ z => Or.inr z)))), ?_, ?_, ?_, ?_, ?_⟩
      · intro j
        have hj := hC j
        simp only [plSay, gA_sI]
        rw [hj]
        by_cases h1 : j < k
        · simp [h1]
        · by_cases h2 : j + 1 < l
          · simp [h1, h2, show j < l - 1 by omega]
          · have h3 : ¬ j < l - 1 := by omega
            have h4 : (j = l - 1) = (j + 1 = l) := propext (by omega)
            simp [h1, h2, h3, h4]
      · simp [plSay, gI_sI, hl1]
      · simp [plSay, gI_sI, hg, hq7]
      · simp [plSay, gI_sI, hg, hq7]
      · intro g h1 h2 h3
        simp [plSay, gI_sI, hg, hq7, h1, h2, h3]
  · intro k9 E1 hk0 hk9 ⟨hS, hF, hC⟩ hq
    have hg : ∀ g, gI E1 g p = gI E g p := fun g => fr_gI hF (by omega) g
    have hl1 : gI E1 514 p - 1 = nI (l - 1) := by rw [hg, hl, show l = (l - 1) + 1 by omega, nI_pred]; rfl
    refine Sx.up (fun _ kk => r_iload_n 7 dX4_leaveOut_6 rfl rfl kk) ?_
    refine Sx.up (fun _ kk => r_if_lt 10 37 dX4_leaveOut_7 rfl (by decide) (fun h7 => absurd h7 (nI_pos (by omega))) (fun _ => kk)) ?_
    refine Sx.up (fun _ kk => r_iload_n 11 dX4_leaveOut_10 rfl rfl kk) ?_
    refine Sx.up (fun _ kk => r_aload_n 12 dX4_leaveOut_11 rfl rfl kk) ?_
    refine Sx.up (fun _ kk => r_getI 15 dX4_leaveOut_12 rfl f4_23 rfl (by first | with_reducible assumption | with_reducible exact ro_1 p4 | with_reducible exact ro_6 p4 | with_reducible exact ro_1 p5 | with_reducible exact ro_6 p5 | exact sr_gR hS (by with_reducible assumption)) (by first | with_reducible assumption | with_reducible exact ro_1 p4 | with_reducible exact ro_6 p4 | with_reducible exact ro_1 p5 | with_reducible exact ro_6 p5 | exact sr_gR hS (by with_reducible assumption)) kk) ?_
    refine Sx.up (fun _ kk => r_iconst (1) 16 dX4_leaveOut_15 rfl (by decide) kk) ?_
    refine Sx.up (fun _ kk => r_isub 17 dX4_leaveOut_16 rfl kk) ?_
    refine Sx.up (fun _ kk => r_icmp_ge 20 37 dX4_leaveOut_17 rfl (by decide) (fun h17 => absurd h17 (by rw [hl1]; exact nI_ge hk9 (by omega))) (fun _ => kk)) ?_
    refine Sx.up (fun _ kk => r_aload_n 21 dX4_leaveOut_20 rfl rfl kk) ?_
    refine Sx.up (fun _ kk => r_getR 24 dX4_leaveOut_21 rfl f4_14 rfl (by first | with_reducible assumption | with_reducible exact ro_1 p4 | with_reducible exact ro_6 p4 | with_reducible exact ro_1 p5 | with_reducible exact ro_6 p5 | exact sr_gR hS (by with_reducible assumption)) (by first | with_reducible assumption | with_reducible exact ro_1 p4 | with_reducible exact ro_6 p4 | with_reducible exact ro_1 p5 | with_reducible exact ro_6 p5 | exact sr_gR hS (by with_reducible assumption)) (by first | with_reducible assumption | with_reducible exact ro_1 p4 | with_reducible exact ro_6 p4 | with_reducible exact ro_1 p5 | with_reducible exact ro_6 p5 | exact sr_gR hS (by with_reducible assumption)) kk) ?_
    refine Sx.up (fun _ kk => r_iload_n 25 dX4_leaveOut_24 rfl rfl kk) ?_
    refine Sx.up (fun _ kk => r_iload_n 26 dX4_leaveOut_25 rfl rfl kk) ?_
    refine Sx.up (fun _ kk => r_iconst (1) 27 dX4_leaveOut_26 rfl (by decide) kk) ?_
    refine Sx.up (fun _ kk => r_iadd 28 dX4_leaveOut_27 rfl kk) ?_
    refine Sx.up (fun _ kk => r_callV (M := mX4_leaveOut) (pc := 28) 31 dX4_leaveOut_28 rfl k4_80 (c_X6_exchange (sr_row hS p4)) rfl rfl (by first | with_reducible assumption | with_reducible exact ro_1 p4 | with_reducible exact ro_6 p4 | with_reducible exact ro_1 p5 | with_reducible exact ro_6 p5 | exact sr_gR hS (by with_reducible assumption)) (by decide) rfl (by first | with_reducible assumption | with_reducible exact ro_1 p4 | with_reducible exact ro_6 p4 | with_reducible exact ro_1 p5 | with_reducible exact ro_6 p5 | exact sr_gR hS (by with_reducible assumption)) (Nat.le_of_ble_eq_true rfl) kk) ?_
    refine Sx.up (fun _ kk => r_iinc (1) 34 dX4_leaveOut_31 rfl rfl (by decide) (by decide) rfl kk) ?_
    refine Sx.up (fun _ kk => r_goto 6 dX4_leaveOut_34 (by decide) kk) ?_
    rw [nI_p]
    refine hq _ ⟨sr_exch hS, fr_exch rfl hF, fun j => ?_⟩
    refine (exch_at (E := E1) (h := p + 1) (l := 7) (i := k9) (j := k9 + 1) (m := j) (by omega) (by omega) (by omega)).trans ?_
    show (if j = k9 + 1 then gA E1 (p + 2) k9 else if j = k9 then gA E1 (p + 2) (k9 + 1) else gA E1 (p + 2) j) = _
    rw [hC, hC, hC]
    by_cases h1 : j = k9 + 1
    · subst h1
      simp [show ¬ k9 + 1 < k by omega, show ¬ k9 < k by omega]
    · by_cases h2 : j = k9
      · subst h2
        simp [show ¬ j < k by omega]
        intro z; omega
      · have e : (j < k9 + 1) = (j < k9) := propext (by omega)
        simp [h1, h2, e]
def drOne (kd tn mins s : Int32) : Int32 × Option Int32 := if kd = 3 then (s, none) else if drawV (seedV s) 10 < tn then (seedV (seedV s), some (1 + drawV (seedV (seedV s)) mins)) else (seedV s, some 0)
def drSeed (kd tn : Nat → Int32) (mins s : Int32) : Nat → Int32
  | 0 => s
  | k + 1 => (drOne (kd k) (tn k) mins (drSeed kd tn mins s k)).1
def bKd (E : HP) (b j : Nat) : Int32 := gI E 1024 (b + 12 + j)
def bTn (E : HP) (b j : Nat) : Int32 := gI E 1030 (b + 12 + j)
theorem put_at {E : HP} {h l i m : Nat} {v : Int32} (hi : i < l) (hl : l < 100000) : gA (rPut E h l (nI i) v) (h + 1) m = if m = i then v else gA E (h + 1) m := by
  rw [rPut_nI hi hl, gA_sA]
  simp only [true_and]
set_option maxRecDepth 20000 in
theorem c_X4_drawOuts {d n p b l : Nat} {E : HP} {s : Int32} (okp : PlanOK E n p) (ok : BedOK E n b) (hl : gI E 4 b = nI l) (hl7 : l ≤ 7) : ∃ o, (∃ E2, o = (.inl (some (.int (drSeed (bKd E b) (bTn E b) (gI E 7 b) s l))), E2, n) ∧ SR E E2 ∧ (∀ g k, gI E2 g k = gI E g k) ∧ Fr (fun j => j = p + 4) E E2 ∧ (∀ j, gA E2 (p + 4) j = if j < l then (drOne (bKd E b j) (bTn E b j) (gI E 7 b) (drSeed (bKd E b) (bTn E b) (gI E 7 b) s j)).2.getD (gA E (p + 4) j) else gA E (p + 4) j)) ∧ Cl yX4_drawOuts mX4_drawOuts (d + 2) 0 0 [.ref p, .ref b, .int s] E n o := by
  obtain ⟨p1, p2, p3, p4, p5, p6⟩ := id okp
  refine Cx.of (by decide) rfl (fun q => by cases q) rfl rfl (Nat.le_of_ble_eq_true rfl) ?_
  show Sx _ _ _ _ _ 0 [some (.ref p), some (.ref b), some (.int s), none, none, none, none] [] _ _
  have loop := sxUp (S := fun k9 E1 => Sx mX4_drawOuts (d + 2) 0 0 (fun o => ∃ E2, o = (.inl (some (.int (drSeed (bKd E b) (bTn E b) (gI E 7 b) s l))), E2, n) ∧ SR E E2 ∧ (∀ g k, gI E2 g k = gI E g k) ∧ Fr (fun j => j = p + 4) E E2 ∧ (∀ j, gA E2 (p + 4) j = if j < l then (drOne (bKd E b j) (bTn E b j) (gI E 7 b) (drSeed (bKd E b) (bTn E b) (gI E 7 b) s j)).2.getD (gA E (p + 4) j) else gA E (p + 4) j)) 5 [some (.ref p), some (.ref b), some (.int s), some (.int (drSeed (bKd E b) (bTn E b) (gI E 7 b) s k9)), some (.int (nI k9)), none, none] [] E1 n) (Inv := fun k9 E1 => SR E E1 ∧ (∀ g k, gI E1 g k = gI E g k) ∧ Fr (fun j => j = p + 4) E E1 ∧ (∀ j, gA E1 (p + 4) j = if j < k9 then (drOne (bKd E b j) (bTn E b j) (gI E 7 b) (drSeed (bKd E b) (bTn E b) (gI E 7 b) s j)).2.getD (gA E (p + 4) j) else gA E (p + 4) j)) (a := 0) (l := l) (by omega) ?_ ?_ E ⟨sr_rfl, fun _ _ => rfl, fr_rfl, fun j => by simp⟩
  refine Sx.up (fun _ kk => r_iload_n 1 dX4_drawOuts_0 rfl rfl kk) ?_
  refine Sx.up (fun _ kk => r_istore_n 2 dX4_drawOuts_1 rfl (by decide) rfl kk) ?_
  refine Sx.up (fun _ kk => r_iconst (0) 3 dX4_drawOuts_2 rfl (by decide) kk) ?_
  refine Sx.up (fun _ kk => r_istore 5 dX4_drawOuts_3 rfl (by decide) rfl kk) ?_
  exact loop
  · intro E1 ⟨hS, hI, hF, hC⟩
    refine Sx.up (fun _ kk => r_iload 7 dX4_drawOuts_5 rfl rfl kk) ?_
    refine Sx.up (fun _ kk => r_aload_n 8 dX4_drawOuts_7 rfl rfl kk) ?_
    refine Sx.up (fun _ kk => r_getI 11 dX4_drawOuts_8 rfl f4_46 rfl (by first | with_reducible assumption | with_reducible exact ro_1 p4 | with_reducible exact ro_6 p4 | with_reducible exact ro_1 p5 | with_reducible exact ro_6 p5 | exact sr_gR hS (by with_reducible assumption) | with_reducible exact bo_1 ok | with_reducible exact bo_n ok | exact (who_sh ok _).1 | exact (who_sh ok _).2) (by first | with_reducible assumption | with_reducible exact ro_1 p4 | with_reducible exact ro_6 p4 | with_reducible exact ro_1 p5 | with_reducible exact ro_6 p5 | exact sr_gR hS (by with_reducible assumption) | with_reducible exact bo_1 ok | with_reducible exact bo_n ok | exact (who_sh ok _).1 | exact (who_sh ok _).2) kk) ?_
    refine Sx.up (fun _ kk => r_icmp_ge 14 87 dX4_drawOuts_11 rfl (by decide) (fun _ => kk) (fun h11 => absurd (by rw [hI, hl]; exact nI_le (Nat.le_refl _) (by omega)) h11)) ?_
    refine Sx.up (fun _ kk => r_iload_n 88 dX4_drawOuts_87 rfl rfl kk) ?_
    refine ⟨_, ?_, r_iret dX4_drawOuts_88 rfl rfl rfl⟩
    exact ⟨_, rfl, hS, hI, hF, hC⟩
  · intro k9 E1 hk0 hk9 ⟨hS, hI, hF, hC⟩ hq
    have hw : whoId b (nI k9) = b + 12 + k9 := whoId_nI (by omega)
    have hkd : gI E1 1024 (whoId b (nI k9)) = bKd E b k9 := by rw [hI, hw]; rfl
    have htn : gI E1 1030 (whoId b (nI k9)) = bTn E b k9 := by rw [hI, hw]; rfl
    have hmn : gI E1 7 b = gI E 7 b := hI _ _
    refine Sx.up (fun _ kk => r_iload 7 dX4_drawOuts_5 rfl rfl kk) ?_
    refine Sx.up (fun _ kk => r_aload_n 8 dX4_drawOuts_7 rfl rfl kk) ?_
    refine Sx.up (fun _ kk => r_getI 11 dX4_drawOuts_8 rfl f4_46 rfl (by first | with_reducible assumption | with_reducible exact ro_1 p4 | with_reducible exact ro_6 p4 | with_reducible exact ro_1 p5 | with_reducible exact ro_6 p5 | exact sr_gR hS (by with_reducible assumption) | with_reducible exact bo_1 ok | with_reducible exact bo_n ok | exact (who_sh ok _).1 | exact (who_sh ok _).2) (by first | with_reducible assumption | with_reducible exact ro_1 p4 | with_reducible exact ro_6 p4 | with_reducible exact ro_1 p5 | with_reducible exact ro_6 p5 | exact sr_gR hS (by with_reducible assumption) | with_reducible exact bo_1 ok | with_reducible exact bo_n ok | exact (who_sh ok _).1 | exact (who_sh ok _).2) kk) ?_
    refine Sx.up (fun _ kk => r_icmp_ge 14 87 dX4_drawOuts_11 rfl (by decide) (fun h11 => absurd h11 (by rw [hI, hl]; exact nI_ge hk9 (by omega))) (fun _ => kk)) ?_
    refine Sx.up (fun _ kk => r_aload_n 15 dX4_drawOuts_14 rfl rfl kk) ?_
    refine Sx.up (fun _ kk => r_iload 17 dX4_drawOuts_15 rfl rfl kk) ?_
    refine Sx.up (fun _ kk => r_callV (M := mX4_drawOuts) (pc := 17) 20 dX4_drawOuts_17 rfl k4_51 (c_X0_who (sr_bed hS ok)) rfl rfl (by first | with_reducible assumption | with_reducible exact ro_1 p4 | with_reducible exact ro_6 p4 | with_reducible exact ro_1 p5 | with_reducible exact ro_6 p5 | exact sr_gR hS (by with_reducible assumption) | with_reducible exact bo_1 ok | with_reducible exact bo_n ok | exact (who_sh ok _).1 | exact (who_sh ok _).2) (by decide) rfl (by first | with_reducible assumption | with_reducible exact ro_1 p4 | with_reducible exact ro_6 p4 | with_reducible exact ro_1 p5 | with_reducible exact ro_6 p5 | exact sr_gR hS (by with_reducible assumption) | with_reducible exact bo_1 ok | with_reducible exact bo_n ok | exact (who_sh ok _).1 | exact (who_sh ok _).2) (Nat.le_of_ble_eq_true rfl) kk) ?_
    refine Sx.up (fun _ kk => r_astore 22 dX4_drawOuts_20 rfl (by decide) rfl kk) ?_
    refine Sx.up (fun _ kk => r_aload 24 dX4_drawOuts_22 rfl rfl kk) ?_
    refine Sx.up (fun _ kk => r_getI 27 dX4_drawOuts_24 rfl f4_86 rfl (by first | with_reducible assumption | with_reducible exact ro_1 p4 | with_reducible exact ro_6 p4 | with_reducible exact ro_1 p5 | with_reducible exact ro_6 p5 | exact sr_gR hS (by with_reducible assumption) | with_reducible exact bo_1 ok | with_reducible exact bo_n ok | exact (who_sh ok _).1 | exact (who_sh ok _).2) (by first | with_reducible assumption | with_reducible exact ro_1 p4 | with_reducible exact ro_6 p4 | with_reducible exact ro_1 p5 | with_reducible exact ro_6 p5 | exact sr_gR hS (by with_reducible assumption) | with_reducible exact bo_1 ok | with_reducible exact bo_n ok | exact (who_sh ok _).1 | exact (who_sh ok _).2) kk) ?_
    refine Sx.up (fun _ kk => r_iconst (3) 28 dX4_drawOuts_27 rfl (by decide) kk) ?_
    refine Sx.br (fun _ ka kb => r_icmp_eq 31 81 dX4_drawOuts_28 rfl (by decide) ka kb) (by first | exact em1 | exact em2) (fun h28 => ?_) (fun h28 => ?_)
    · refine Sx.up (fun _ kk => r_iinc (1) 84 dX4_drawOuts_81 rfl rfl (by decide) (by decide) rfl kk) ?_
      refine Sx.up (fun _ kk => r_goto 5 dX4_drawOuts_84 (by decide) kk) ?_
      have D9 : drOne (bKd E b k9) (bTn E b k9) (gI E 7 b) (drSeed (bKd E b) (bTn E b) (gI E 7 b) s k9) = (drSeed (bKd E b) (bTn E b) (gI E 7 b) s k9, none)
        := by unfold drOne; rw [if_pos (hkd ▸ h28)]
      rw [nI_p]
      have e9 : drSeed (bKd E b) (bTn E b) (gI E 7 b) s (k9 + 1) = (drOne (bKd E b k9) (bTn E b k9) (gI E 7 b) (drSeed (bKd E b) (bTn E b) (gI E 7 b) s k9)).1 := rfl
      rw [D9] at e9
      refine Sx.less (ls := [some (.ref p), some (.ref b), some (.int s), some (.int (drSeed (bKd E b) (bTn E b) (gI E 7 b) s (k9 + 1))), some (.int (nI (k9 + 1))), none, none]) (by rw [e9]; exact ⟨rfl, rfl, rfl, rfl, rfl, trivial⟩) (hq _ ⟨hS, hI, hF, fun j => ?_⟩)
      by_cases h1 : j = k9
      · subst h1; simp [hC, D9, hmn]
      · have e : (j < k9 + 1) = (j < k9) := propext (by omega)
        simp only [e, h1, if_false]
        exact hC j
    · refine Sx.up (fun _ kk => r_iload_n 32 dX4_drawOuts_31 rfl rfl kk) ?_
      refine Sx.up (fun _ kk => r_callS (M := mX4_drawOuts) (pc := 32) 35 dX4_drawOuts_32 rfl k4_89 c_X4_nextSeed rfl rfl (Nat.le_of_ble_eq_true rfl) kk) ?_
      refine Sx.up (fun _ kk => r_istore_n 36 dX4_drawOuts_35 rfl (by decide) rfl kk) ?_
      refine Sx.up (fun _ kk => r_iconst (0) 37 dX4_drawOuts_36 rfl (by decide) kk) ?_
      refine Sx.up (fun _ kk => r_istore 39 dX4_drawOuts_37 rfl (by decide) rfl kk) ?_
      refine Sx.up (fun _ kk => r_iload_n 40 dX4_drawOuts_39 rfl rfl kk) ?_
      refine Sx.up (fun _ kk => r_bipush (10) 42 dX4_drawOuts_40 rfl (by decide) kk) ?_
      refine Sx.up (fun _ kk => r_callS (M := mX4_drawOuts) (pc := 42) 45 dX4_drawOuts_42 rfl k4_92 c_X4_draw rfl rfl (Nat.le_of_ble_eq_true rfl) kk) ?_
      refine Sx.up (fun _ kk => r_aload 47 dX4_drawOuts_45 rfl rfl kk) ?_
      refine Sx.up (fun _ kk => r_getI 50 dX4_drawOuts_47 rfl f4_96 rfl (by first | with_reducible assumption | with_reducible exact ro_1 p4 | with_reducible exact ro_6 p4 | with_reducible exact ro_1 p5 | with_reducible exact ro_6 p5 | exact sr_gR hS (by with_reducible assumption) | with_reducible exact bo_1 ok | with_reducible exact bo_n ok | exact (who_sh ok _).1 | exact (who_sh ok _).2) (by first | with_reducible assumption | with_reducible exact ro_1 p4 | with_reducible exact ro_6 p4 | with_reducible exact ro_1 p5 | with_reducible exact ro_6 p5 | exact sr_gR hS (by with_reducible assumption) | with_reducible exact bo_1 ok | with_reducible exact bo_n ok | exact (who_sh ok _).1 | exact (who_sh ok _).2) kk) ?_
      refine Sx.br (fun _ ka kb => r_icmp_ge 53 70 dX4_drawOuts_50 rfl (by decide) ka kb) (by first | exact em1 | exact em2) (fun h50 => ?_) (fun h50 => ?_)
      · refine Sx.up (fun _ kk => r_aload_n 71 dX4_drawOuts_70 rfl rfl kk) ?_
        refine Sx.up (fun _ kk => r_getR 74 dX4_drawOuts_71 rfl f4_20 rfl (by first | with_reducible assumption | with_reducible exact ro_1 p4 | with_reducible exact ro_6 p4 | with_reducible exact ro_1 p5 | with_reducible exact ro_6 p5 | exact sr_gR hS (by with_reducible assumption) | with_reducible exact bo_1 ok | with_reducible exact bo_n ok | exact (who_sh ok _).1 | exact (who_sh ok _).2) (by first | with_reducible assumption | with_reducible exact ro_1 p4 | with_reducible exact ro_6 p4 | with_reducible exact ro_1 p5 | with_reducible exact ro_6 p5 | exact sr_gR hS (by with_reducible assumption) | with_reducible exact bo_1 ok | with_reducible exact bo_n ok | exact (who_sh ok _).1 | exact (who_sh ok _).2) (by first | with_reducible assumption | with_reducible exact ro_1 p4 | with_reducible exact ro_6 p4 | with_reducible exact ro_1 p5 | with_reducible exact ro_6 p5 | exact sr_gR hS (by with_reducible assumption) | with_reducible exact bo_1 ok | with_reducible exact bo_n ok | exact (who_sh ok _).1 | exact (who_sh ok _).2) kk) ?_
        refine Sx.up (fun _ kk => r_iload 76 dX4_drawOuts_74 rfl rfl kk) ?_
        refine Sx.up (fun _ kk => r_iload 78 dX4_drawOuts_76 rfl rfl kk) ?_
        refine Sx.up (fun _ kk => r_callV (M := mX4_drawOuts) (pc := 78) 81 dX4_drawOuts_78 rfl k4_60 (c_X6_put (sr_row hS p5)) rfl rfl (by first | with_reducible assumption | with_reducible exact ro_1 p4 | with_reducible exact ro_6 p4 | with_reducible exact ro_1 p5 | with_reducible exact ro_6 p5 | exact sr_gR hS (by with_reducible assumption) | with_reducible exact bo_1 ok | with_reducible exact bo_n ok | exact (who_sh ok _).1 | exact (who_sh ok _).2) (by decide) rfl (by first | with_reducible assumption | with_reducible exact ro_1 p4 | with_reducible exact ro_6 p4 | with_reducible exact ro_1 p5 | with_reducible exact ro_6 p5 | exact sr_gR hS (by with_reducible assumption) | with_reducible exact bo_1 ok | with_reducible exact bo_n ok | exact (who_sh ok _).1 | exact (who_sh ok _).2) (Nat.le_of_ble_eq_true rfl) kk) ?_
        refine Sx.up (fun _ kk => r_iinc (1) 84 dX4_drawOuts_81 rfl rfl (by decide) (by decide) rfl kk) ?_
        refine Sx.up (fun _ kk => r_goto 5 dX4_drawOuts_84 (by decide) kk) ?_
        have D9 : drOne (bKd E b k9) (bTn E b k9) (gI E 7 b) (drSeed (bKd E b) (bTn E b) (gI E 7 b) s k9) = (seedV (drSeed (bKd E b) (bTn E b) (gI E 7 b) s k9), some 0)
          := by unfold drOne; rw [if_neg (hkd ▸ h28), if_neg (fun z => Int32.not_lt.mpr (htn ▸ h50) z)]
        rw [nI_p]
        have e9 : drSeed (bKd E b) (bTn E b) (gI E 7 b) s (k9 + 1) = (drOne (bKd E b k9) (bTn E b k9) (gI E 7 b) (drSeed (bKd E b) (bTn E b) (gI E 7 b) s k9)).1 := rfl
        rw [D9] at e9
        refine Sx.less (ls := [some (.ref p), some (.ref b), some (.int s), some (.int (drSeed (bKd E b) (bTn E b) (gI E 7 b) s (k9 + 1))), some (.int (nI (k9 + 1))), none, none]) (by rw [e9]; exact ⟨rfl, rfl, rfl, rfl, rfl, trivial⟩) (hq _ ⟨sr_put hS, fun g k => by rw [gI_rPut]; exact hI g k, fr_put rfl hF, fun j => ?_⟩)
        refine (put_at (E := E1) (h := p + 3) (l := 7) (i := k9) (m := j) (by omega) (by omega)).trans ?_
        show (if j = k9 then _ else gA E1 (p + 4) j) = _
        by_cases h1 : j = k9
        · subst h1; simp [hC, D9, hmn]
        · have e : (j < k9 + 1) = (j < k9) := propext (by omega)
          simp only [e, h1, if_false]
          exact hC j
      · refine Sx.up (fun _ kk => r_iload_n 54 dX4_drawOuts_53 rfl rfl kk) ?_
        refine Sx.up (fun _ kk => r_callS (M := mX4_drawOuts) (pc := 54) 57 dX4_drawOuts_54 rfl k4_89 c_X4_nextSeed rfl rfl (Nat.le_of_ble_eq_true rfl) kk) ?_
        refine Sx.up (fun _ kk => r_istore_n 58 dX4_drawOuts_57 rfl (by decide) rfl kk) ?_
        refine Sx.up (fun _ kk => r_iconst (1) 59 dX4_drawOuts_58 rfl (by decide) kk) ?_
        refine Sx.up (fun _ kk => r_iload_n 60 dX4_drawOuts_59 rfl rfl kk) ?_
        refine Sx.up (fun _ kk => r_aload_n 61 dX4_drawOuts_60 rfl rfl kk) ?_
        refine Sx.up (fun _ kk => r_getI 64 dX4_drawOuts_61 rfl f4_99 rfl (by first | with_reducible assumption | with_reducible exact ro_1 p4 | with_reducible exact ro_6 p4 | with_reducible exact ro_1 p5 | with_reducible exact ro_6 p5 | exact sr_gR hS (by with_reducible assumption) | with_reducible exact bo_1 ok | with_reducible exact bo_n ok | exact (who_sh ok _).1 | exact (who_sh ok _).2) (by first | with_reducible assumption | with_reducible exact ro_1 p4 | with_reducible exact ro_6 p4 | with_reducible exact ro_1 p5 | with_reducible exact ro_6 p5 | exact sr_gR hS (by with_reducible assumption) | with_reducible exact bo_1 ok | with_reducible exact bo_n ok | exact (who_sh ok _).1 | exact (who_sh ok _).2) kk) ?_
        refine Sx.up (fun _ kk => r_callS (M := mX4_drawOuts) (pc := 64) 67 dX4_drawOuts_64 rfl k4_92 c_X4_draw rfl rfl (Nat.le_of_ble_eq_true rfl) kk) ?_
        refine Sx.up (fun _ kk => r_iadd 68 dX4_drawOuts_67 rfl kk) ?_
        refine Sx.up (fun _ kk => r_istore 70 dX4_drawOuts_68 rfl (by decide) rfl kk) ?_
        refine Sx.up (fun _ kk => r_aload_n 71 dX4_drawOuts_70 rfl rfl kk) ?_
        refine Sx.up (fun _ kk => r_getR 74 dX4_drawOuts_71 rfl f4_20 rfl (by first | with_reducible assumption | with_reducible exact ro_1 p4 | with_reducible exact ro_6 p4 | with_reducible exact ro_1 p5 | with_reducible exact ro_6 p5 | exact sr_gR hS (by with_reducible assumption) | with_reducible exact bo_1 ok | with_reducible exact bo_n ok | exact (who_sh ok _).1 | exact (who_sh ok _).2) (by first | with_reducible assumption | with_reducible exact ro_1 p4 | with_reducible exact ro_6 p4 | with_reducible exact ro_1 p5 | with_reducible exact ro_6 p5 | exact sr_gR hS (by with_reducible assumption) | with_reducible exact bo_1 ok | with_reducible exact bo_n ok | exact (who_sh ok _).1 | exact (who_sh ok _).2) (by first | with_reducible assumption | with_reducible exact ro_1 p4 | with_reducible exact ro_6 p4 | with_reducible exact ro_1 p5 | with_reducible exact ro_6 p5 | exact sr_gR hS (by with_reducible assumption) | with_reducible exact bo_1 ok | with_reducible exact bo_n ok | exact (who_sh ok _).1 | exact (who_sh ok _).2) kk) ?_
        refine Sx.up (fun _ kk => r_iload 76 dX4_drawOuts_74 rfl rfl kk) ?_
        refine Sx.up (fun _ kk => r_iload 78 dX4_drawOuts_76 rfl rfl kk) ?_
        refine Sx.up (fun _ kk => r_callV (M := mX4_drawOuts) (pc := 78) 81 dX4_drawOuts_78 rfl k4_60 (c_X6_put (sr_row hS p5)) rfl rfl (by first | with_reducible assumption | with_reducible exact ro_1 p4 | with_reducible exact ro_6 p4 | with_reducible exact ro_1 p5 | with_reducible exact ro_6 p5 | exact sr_gR hS (by with_reducible assumption) | with_reducible exact bo_1 ok | with_reducible exact bo_n ok | exact (who_sh ok _).1 | exact (who_sh ok _).2) (by decide) rfl (by first | with_reducible assumption | with_reducible exact ro_1 p4 | with_reducible exact ro_6 p4 | with_reducible exact ro_1 p5 | with_reducible exact ro_6 p5 | exact sr_gR hS (by with_reducible assumption) | with_reducible exact bo_1 ok | with_reducible exact bo_n ok | exact (who_sh ok _).1 | exact (who_sh ok _).2) (Nat.le_of_ble_eq_true rfl) kk) ?_
        refine Sx.up (fun _ kk => r_iinc (1) 84 dX4_drawOuts_81 rfl rfl (by decide) (by decide) rfl kk) ?_
        refine Sx.up (fun _ kk => r_goto 5 dX4_drawOuts_84 (by decide) kk) ?_
        have D9 : drOne (bKd E b k9) (bTn E b k9) (gI E 7 b) (drSeed (bKd E b) (bTn E b) (gI E 7 b) s k9) = (seedV (seedV (drSeed (bKd E b) (bTn E b) (gI E 7 b) s k9)), some (1 + drawV (seedV (seedV (drSeed (bKd E b) (bTn E b) (gI E 7 b) s k9))) (gI E 7 b)))
          := by unfold drOne; rw [if_neg (hkd ▸ h28), if_pos (Int32.not_le.mp (htn ▸ h50))]
        rw [nI_p]
        have e9 : drSeed (bKd E b) (bTn E b) (gI E 7 b) s (k9 + 1) = (drOne (bKd E b k9) (bTn E b k9) (gI E 7 b) (drSeed (bKd E b) (bTn E b) (gI E 7 b) s k9)).1 := rfl
        rw [D9] at e9
        refine Sx.less (ls := [some (.ref p), some (.ref b), some (.int s), some (.int (drSeed (bKd E b) (bTn E b) (gI E 7 b) s (k9 + 1))), some (.int (nI (k9 + 1))), none, none]) (by rw [e9]; exact ⟨rfl, rfl, rfl, rfl, rfl, trivial⟩) (hq _ ⟨sr_put hS, fun g k => by rw [gI_rPut]; exact hI g k, fr_put rfl hF, fun j => ?_⟩)
        refine (put_at (E := E1) (h := p + 3) (l := 7) (i := k9) (m := j) (by omega) (by omega)).trans ?_
        show (if j = k9 then _ else gA E1 (p + 4) j) = _
        by_cases h1 : j = k9
        · subst h1; simp [hC, D9, hmn]
        · have e : (j < k9 + 1) = (j < k9) := propext (by omega)
          simp only [e, h1, if_false]
          exact hC j
/-! the next order, on a list -/
theorem c_exch {d n h l : Nat} {E : HP} {i j : Int32} (ok : RowOK E n h l) : Cl yX6_exchange mX6_exchange (d + 1) 0 0 [.ref h, .int i, .int j] E n (.inl none, rExch h l i j E, n) := c_X6_exchange ok
def gN (L : List Nat) (i : Nat) : Nat := L.getD i 0
def riseF (L : List Nat) : Nat → Option Nat
  | 0 => none
  | m + 1 => if gN L (m + 1) < gN L m then riseF L m else some m
def aboveF (L : List Nat) (r : Nat) : Nat → Nat
  | 0 => 0
  | m + 1 => if r < m + 1 ∧ gN L (m + 1) < gN L r then aboveF L r m else m + 1
def swapF (L : List Nat) (i j : Nat) : List Nat := (L.set i (gN L j)).set j (gN L i)
def revF : Nat → List Nat → Nat → Nat → List Nat
  | 0, L, _, _ => L
  | k + 1, L, i, j => if i < j then revF k (swapF L i j) (i + 1) (j - 1) else L
def nextF (L : List Nat) : Option (List Nat) := match riseF L (L.length - 1) with
  | none => none
  | some r => some (revF 7 (swapF L r (aboveF L r (L.length - 1))) (r + 1) (L.length - 1))
/-- the places of p's order are those of L -/
def OrdL (E : HP) (p : Nat) (L : List Nat) : Prop := (∀ i, i < L.length → gA E (p + 2) i = nI (gN L i) ∧ gN L i < 7) ∧ L.length ≤ 7
theorem swap_len {L : List Nat} {i j : Nat} : (swapF L i j).length = L.length := by simp [swapF]
theorem gN_swap {L : List Nat} {i j m : Nat} (hi : i < L.length) (hj : j < L.length) : gN (swapF L i j) m = if m = j then gN L i else if m = i then gN L j else gN L m := by
  unfold swapF gN
  simp only [List.getD_eq_getElem?_getD]
  rw [List.getElem?_set, List.getElem?_set]
  by_cases h1 : m = j
  · subst h1; simp [hj]
  · rw [if_neg (fun z => h1 z.symm), if_neg h1]
    by_cases h2 : m = i
    · subst h2; simp [hi]
    · rw [if_neg (fun z => h2 z.symm), if_neg h2]
theorem ordL_exch {E : HP} {p i j : Nat} {L : List Nat} (h : OrdL E p L) (hi : i < L.length) (hj : j < L.length) : OrdL (rExch (p + 1) 7 (nI i) (nI j) E) p (swapF L i j) := by
  refine ⟨fun m hm => ?_, by rw [swap_len]; exact h.2⟩
  rw [swap_len] at hm
  have h2 := h.2
  rw [show gA (rExch (p + 1) 7 (nI i) (nI j) E) (p + 2) m = _ from exch_at (E := E) (h := p + 1) (l := 7) (i := i) (j := j) (m := m) (by omega) (by omega) (by omega), gN_swap hi hj]
  by_cases h3 : m = j
  · rw [if_pos h3, if_pos h3]; exact h.1 i hi
  · rw [if_neg h3, if_neg h3]
    by_cases h4 : m = i
    · rw [if_pos h4, if_pos h4]; exact h.1 j hj
    · rw [if_neg h4, if_neg h4]; exact h.1 m hm
theorem ordAt_L {E : HP} {p i : Nat} {L : List Nat} (h : OrdL E p L) (hi : i < L.length) : rAt E (p + 1) 7 (nI i) = nI (gN L i) := by
  rw [rAt_nI (by have := h.2; omega) (by omega)]; exact (h.1 i hi).1
theorem nI_lt_iff {a b : Nat} (ha : a < 100000) (hb : b < 100000) : (nI a < nI b) ↔ a < b := by
  constructor
  · intro z
    rcases Nat.lt_or_ge a b with q | q
    · exact q
    · exact absurd z (Int32.not_lt.mpr (nI_le q (by omega)))
  · intro z
    exact Int32.not_le.mp (nI_ge z (by omega))
theorem dn1 (m : Nat) : nI (m + 1) - 1 = nI m := nI_pred m
theorem nI_pp (m : Nat) : nI m + 1 = nI (m + 1) := (nI_succ m).symm
theorem nI_m2 {l : Nat} : nI (l + 1) - 2 = dn l := by
  unfold dn
  rw [← dn1 l, show (2 : Int32) = 1 + 1 from rfl, ← Int32.sub_sub]
set_option maxRecDepth 20000 in
theorem c_X4_nextOrder {d n p : Nat} {E : HP} {L : List Nat} (okp : PlanOK E n p) (hl : gI E 514 p = nI L.length) (ho : OrdL E p L) : ∃ o, (∃ E2, o = (.inl (some (.int (if (nextF L).isSome then 1 else 0))), E2, n) ∧ SR E E2 ∧ (∀ g k, gI E2 g k = gI E g k) ∧ Fr (fun j => j = p + 2) E E2 ∧ OrdL E2 p ((nextF L).getD L)) ∧ Cl yX4_nextOrder mX4_nextOrder (d + 2) 0 0 [.ref p] E n o := by
  obtain ⟨p1, p2, p3, p4, p5, p6⟩ := id okp
  have hl7 := ho.2
  refine Cx.of (by decide) rfl (fun q => by cases q) rfl rfl (Nat.le_of_ble_eq_true rfl) ?_
  show Sx _ _ _ _ _ 0 [some (.ref p), none, none, none, none] [] _ _
  have loop3 : ∀ r A, ∀ k i j L1 E1, SR E E1 → (∀ g k, gI E1 g k = gI E g k) → Fr (fun j => j = p + 2) E E1 → OrdL E1 p L1 → L1.length = L.length → j < L.length → i ≤ L.length → j - i < k → nextF L = some (revF k L1 i j) → Sx mX4_nextOrder (d + 2) 0 0 (fun o => ∃ E2, o = (.inl (some (.int (if (nextF L).isSome then 1 else 0))), E2, n) ∧ SR E E2 ∧ (∀ g k, gI E2 g k = gI E g k) ∧ Fr (fun j => j = p + 2) E E2 ∧ OrdL E2 p ((nextF L).getD L)) 102 [some (.ref p), some (.int (nI r)), some (.int (nI A)), some (.int (nI i)), some (.int (nI j))] [] E1 n := by
    intro r A k
    induction k with
    | zero => intro i j L1 E1 hS hI hF hO hL hj hi hk; omega
    | succ k ih =>
    intro i j L1 E1 hS hI hF hO hL hj hi hk hN
    by_cases hij : i < j
    · refine Sx.up (fun _ kk => r_iload_n 103 dX4_nextOrder_102 rfl rfl kk) ?_
      refine Sx.up (fun _ kk => r_iload 105 dX4_nextOrder_103 rfl rfl kk) ?_
      refine Sx.up (fun _ kk => r_icmp_ge 108 127 dX4_nextOrder_105 rfl (by decide) (fun h105 => absurd h105 (nI_ge hij (by omega))) (fun _ => kk)) ?_
      refine Sx.up (fun _ kk => r_aload_n 109 dX4_nextOrder_108 rfl rfl kk) ?_
      refine Sx.up (fun _ kk => r_getR 112 dX4_nextOrder_109 rfl f4_14 rfl (by first | with_reducible assumption | with_reducible exact ro_1 p4 | with_reducible exact ro_6 p4 | with_reducible exact ro_1 p5 | with_reducible exact ro_6 p5 | exact sr_gR hS (by with_reducible assumption)) (by first | with_reducible assumption | with_reducible exact ro_1 p4 | with_reducible exact ro_6 p4 | with_reducible exact ro_1 p5 | with_reducible exact ro_6 p5 | exact sr_gR hS (by with_reducible assumption)) (by first | with_reducible assumption | with_reducible exact ro_1 p4 | with_reducible exact ro_6 p4 | with_reducible exact ro_1 p5 | with_reducible exact ro_6 p5 | exact sr_gR hS (by with_reducible assumption)) kk) ?_
      refine Sx.up (fun _ kk => r_iload_n 113 dX4_nextOrder_112 rfl rfl kk) ?_
      refine Sx.up (fun _ kk => r_iload 115 dX4_nextOrder_113 rfl rfl kk) ?_
      refine Sx.up (fun _ kk => r_callV (M := mX4_nextOrder) (pc := 115) 118 dX4_nextOrder_115 rfl k4_80 (c_exch (sr_row hS p4)) rfl rfl (by first | with_reducible assumption | with_reducible exact ro_1 p4 | with_reducible exact ro_6 p4 | with_reducible exact ro_1 p5 | with_reducible exact ro_6 p5 | exact sr_gR hS (by with_reducible assumption)) (by decide) rfl (by first | with_reducible assumption | with_reducible exact ro_1 p4 | with_reducible exact ro_6 p4 | with_reducible exact ro_1 p5 | with_reducible exact ro_6 p5 | exact sr_gR hS (by with_reducible assumption)) (Nat.le_of_ble_eq_true rfl) kk) ?_
      refine Sx.up (fun _ kk => r_iinc (1) 121 dX4_nextOrder_118 rfl rfl (by decide) (by decide) rfl kk) ?_
      refine Sx.up (fun _ kk => r_iinc (m1) 124 dX4_nextOrder_121 rfl rfl (m1_of) (by decide) rfl kk) ?_
      refine Sx.up (fun _ kk => r_goto 102 dX4_nextOrder_124 (by decide) kk) ?_
      refine Sx.less (ls := [some (.ref p), some (.int (nI r)), some (.int (nI A)), some (.int (nI (i + 1))), some (.int (nI (j - 1)))]) (by rw [nI_pp, show nI j + m1 = nI (j - 1) by rw [show j = (j - 1) + 1 by omega, nI_p1]; rfl]; exact ⟨rfl, rfl, rfl, rfl, rfl, trivial⟩) ?_
      refine ih (i + 1) (j - 1) (swapF L1 i j) _ (sr_exch hS) (fun g k => by rw [gI_exch]; exact hI g k) (fr_exch rfl hF) (ordL_exch hO (by omega) (by omega)) (by rw [swap_len]; exact hL) (by omega) (by omega) (by omega) ?_
      rw [hN]
      show some (if i < j then _ else _) = _
      rw [if_pos hij]
    · refine Sx.up (fun _ kk => r_iload_n 103 dX4_nextOrder_102 rfl rfl kk) ?_
      refine Sx.up (fun _ kk => r_iload 105 dX4_nextOrder_103 rfl rfl kk) ?_
      refine Sx.up (fun _ kk => r_icmp_ge 108 127 dX4_nextOrder_105 rfl (by decide) (fun _ => kk) (fun h105 => absurd (nI_le (by omega) (by omega)) h105)) ?_
      refine Sx.up (fun _ kk => r_iconst (1) 128 dX4_nextOrder_127 rfl (by decide) kk) ?_
      refine ⟨_, ?_, r_zret dX4_nextOrder_128 rfl rfl (by decide) rfl⟩
      refine ⟨_, by rw [hN]; rfl, hS, hI, hF, ?_⟩
      rw [hN]
      show OrdL E1 p (if i < j then _ else _)
      rw [if_neg hij]
      exact hO
  have loop2 : ∀ r, r + 1 < L.length → riseF L (L.length - 1) = some r → ∀ a, a < L.length → r ≤ a → aboveF L r (L.length - 1) = aboveF L r a → Sx mX4_nextOrder (d + 2) 0 0 (fun o => ∃ E2, o = (.inl (some (.int (if (nextF L).isSome then 1 else 0))), E2, n) ∧ SR E E2 ∧ (∀ g k, gI E2 g k = gI E g k) ∧ Fr (fun j => j = p + 2) E E2 ∧ OrdL E2 p ((nextF L).getD L)) 51 [some (.ref p), some (.int (nI r)), some (.int (nI a)), none, none] [] E n := by
    intro r hr hR a
    have hS : SR E E := sr_rfl
    have fin : ∀ a, a < L.length → r < a ∨ r = a → aboveF L r (L.length - 1) = a → Sx mX4_nextOrder (d + 2) 0 0 (fun o => ∃ E2, o = (.inl (some (.int (if (nextF L).isSome then 1 else 0))), E2, n) ∧ SR E E2 ∧ (∀ g k, gI E2 g k = gI E g k) ∧ Fr (fun j => j = p + 2) E E2 ∧ OrdL E2 p ((nextF L).getD L)) 81 [some (.ref p), some (.int (nI r)), some (.int (nI a)), none, none] [] E n := by
      intro a ha hra hA
      have hN : nextF L = some (revF 7 (swapF L r a) (r + 1) (L.length - 1)) := by unfold nextF; rw [hR]; simp only [hA]
      refine Sx.up (fun _ kk => r_aload_n 82 dX4_nextOrder_81 rfl rfl kk) ?_
      refine Sx.up (fun _ kk => r_getR 85 dX4_nextOrder_82 rfl f4_14 rfl (by first | with_reducible assumption | with_reducible exact ro_1 p4 | with_reducible exact ro_6 p4 | with_reducible exact ro_1 p5 | with_reducible exact ro_6 p5 | exact sr_gR hS (by with_reducible assumption)) (by first | with_reducible assumption | with_reducible exact ro_1 p4 | with_reducible exact ro_6 p4 | with_reducible exact ro_1 p5 | with_reducible exact ro_6 p5 | exact sr_gR hS (by with_reducible assumption)) (by first | with_reducible assumption | with_reducible exact ro_1 p4 | with_reducible exact ro_6 p4 | with_reducible exact ro_1 p5 | with_reducible exact ro_6 p5 | exact sr_gR hS (by with_reducible assumption)) kk) ?_
      refine Sx.up (fun _ kk => r_iload_n 86 dX4_nextOrder_85 rfl rfl kk) ?_
      refine Sx.up (fun _ kk => r_iload_n 87 dX4_nextOrder_86 rfl rfl kk) ?_
      refine Sx.up (fun _ kk => r_callV (M := mX4_nextOrder) (pc := 87) 90 dX4_nextOrder_87 rfl k4_80 (c_exch (sr_row hS p4)) rfl rfl (by first | with_reducible assumption | with_reducible exact ro_1 p4 | with_reducible exact ro_6 p4 | with_reducible exact ro_1 p5 | with_reducible exact ro_6 p5 | exact sr_gR hS (by with_reducible assumption)) (by decide) rfl (by first | with_reducible assumption | with_reducible exact ro_1 p4 | with_reducible exact ro_6 p4 | with_reducible exact ro_1 p5 | with_reducible exact ro_6 p5 | exact sr_gR hS (by with_reducible assumption)) (Nat.le_of_ble_eq_true rfl) kk) ?_
      refine Sx.up (fun _ kk => r_iload_n 91 dX4_nextOrder_90 rfl rfl kk) ?_
      refine Sx.up (fun _ kk => r_iconst (1) 92 dX4_nextOrder_91 rfl (by decide) kk) ?_
      refine Sx.up (fun _ kk => r_iadd 93 dX4_nextOrder_92 rfl kk) ?_
      refine Sx.up (fun _ kk => r_istore_n 94 dX4_nextOrder_93 rfl (by decide) rfl kk) ?_
      refine Sx.up (fun _ kk => r_aload_n 95 dX4_nextOrder_94 rfl rfl kk) ?_
      refine Sx.up (fun _ kk => r_getI 98 dX4_nextOrder_95 rfl f4_23 rfl (by first | with_reducible assumption | with_reducible exact ro_1 p4 | with_reducible exact ro_6 p4 | with_reducible exact ro_1 p5 | with_reducible exact ro_6 p5 | exact sr_gR hS (by with_reducible assumption)) (by first | with_reducible assumption | with_reducible exact ro_1 p4 | with_reducible exact ro_6 p4 | with_reducible exact ro_1 p5 | with_reducible exact ro_6 p5 | exact sr_gR hS (by with_reducible assumption)) kk) ?_
      refine Sx.up (fun _ kk => r_iconst (1) 99 dX4_nextOrder_98 rfl (by decide) kk) ?_
      refine Sx.up (fun _ kk => r_isub 100 dX4_nextOrder_99 rfl kk) ?_
      refine Sx.up (fun _ kk => r_istore 102 dX4_nextOrder_100 rfl (by decide) rfl kk) ?_
      rw [nI_pp, show gI (rExch (p + 1) 7 (nI r) (nI a) E) 514 p - 1 = nI (L.length - 1) by rw [gI_exch, hl, show L.length = (L.length - 1) + 1 by omega, dn1]; rfl]
      exact loop3 r a 7 (r + 1) (L.length - 1) (swapF L r a) _ (sr_exch sr_rfl) (fun g k => gI_exch) (fr_exch rfl fr_rfl) (ordL_exch ho (by omega) ha) swap_len (by omega) (by omega) (by omega) hN
    induction a with
    | zero =>
      intro h1 h2 h3
      have hr0 : r = 0 := by omega
      refine Sx.up (fun _ kk => r_iload_n 52 dX4_nextOrder_51 rfl rfl kk) ?_
      refine Sx.up (fun _ kk => r_iload_n 53 dX4_nextOrder_52 rfl rfl kk) ?_
      refine Sx.up (fun _ kk => r_icmp_le 56 81 dX4_nextOrder_53 rfl (by decide) (fun _ => kk) (fun h53 => absurd (nI_le (by omega) (by omega)) h53)) ?_
      exact fin 0 h1 (Or.inr hr0) (h3.trans rfl)
    | succ a ih =>
      intro h1 h2 h3
      by_cases h5 : r < a + 1
      · refine Sx.up (fun _ kk => r_iload_n 52 dX4_nextOrder_51 rfl rfl kk) ?_
        refine Sx.up (fun _ kk => r_iload_n 53 dX4_nextOrder_52 rfl rfl kk) ?_
        refine Sx.up (fun _ kk => r_icmp_le 56 81 dX4_nextOrder_53 rfl (by decide) (fun h53 => absurd h53 (nI_ge h5 (by omega))) (fun _ => kk)) ?_
        refine Sx.up (fun _ kk => r_aload_n 57 dX4_nextOrder_56 rfl rfl kk) ?_
        refine Sx.up (fun _ kk => r_getR 60 dX4_nextOrder_57 rfl f4_14 rfl (by first | with_reducible assumption | with_reducible exact ro_1 p4 | with_reducible exact ro_6 p4 | with_reducible exact ro_1 p5 | with_reducible exact ro_6 p5 | exact sr_gR hS (by with_reducible assumption)) (by first | with_reducible assumption | with_reducible exact ro_1 p4 | with_reducible exact ro_6 p4 | with_reducible exact ro_1 p5 | with_reducible exact ro_6 p5 | exact sr_gR hS (by with_reducible assumption)) (by first | with_reducible assumption | with_reducible exact ro_1 p4 | with_reducible exact ro_6 p4 | with_reducible exact ro_1 p5 | with_reducible exact ro_6 p5 | exact sr_gR hS (by with_reducible assumption)) kk) ?_
        refine Sx.up (fun _ kk => r_iload_n 61 dX4_nextOrder_60 rfl rfl kk) ?_
        refine Sx.up (fun _ kk => r_callV (M := mX4_nextOrder) (pc := 61) 64 dX4_nextOrder_61 rfl k4_76 (c_X6_at (sr_row hS p4)) rfl rfl (by first | with_reducible assumption | with_reducible exact ro_1 p4 | with_reducible exact ro_6 p4 | with_reducible exact ro_1 p5 | with_reducible exact ro_6 p5 | exact sr_gR hS (by with_reducible assumption)) (by decide) rfl (by first | with_reducible assumption | with_reducible exact ro_1 p4 | with_reducible exact ro_6 p4 | with_reducible exact ro_1 p5 | with_reducible exact ro_6 p5 | exact sr_gR hS (by with_reducible assumption)) (Nat.le_of_ble_eq_true rfl) kk) ?_
        refine Sx.up (fun _ kk => r_aload_n 65 dX4_nextOrder_64 rfl rfl kk) ?_
        refine Sx.up (fun _ kk => r_getR 68 dX4_nextOrder_65 rfl f4_14 rfl (by first | with_reducible assumption | with_reducible exact ro_1 p4 | with_reducible exact ro_6 p4 | with_reducible exact ro_1 p5 | with_reducible exact ro_6 p5 | exact sr_gR hS (by with_reducible assumption)) (by first | with_reducible assumption | with_reducible exact ro_1 p4 | with_reducible exact ro_6 p4 | with_reducible exact ro_1 p5 | with_reducible exact ro_6 p5 | exact sr_gR hS (by with_reducible assumption)) (by first | with_reducible assumption | with_reducible exact ro_1 p4 | with_reducible exact ro_6 p4 | with_reducible exact ro_1 p5 | with_reducible exact ro_6 p5 | exact sr_gR hS (by with_reducible assumption)) kk) ?_
        refine Sx.up (fun _ kk => r_iload_n 69 dX4_nextOrder_68 rfl rfl kk) ?_
        refine Sx.up (fun _ kk => r_callV (M := mX4_nextOrder) (pc := 69) 72 dX4_nextOrder_69 rfl k4_76 (c_X6_at (sr_row hS p4)) rfl rfl (by first | with_reducible assumption | with_reducible exact ro_1 p4 | with_reducible exact ro_6 p4 | with_reducible exact ro_1 p5 | with_reducible exact ro_6 p5 | exact sr_gR hS (by with_reducible assumption)) (by decide) rfl (by first | with_reducible assumption | with_reducible exact ro_1 p4 | with_reducible exact ro_6 p4 | with_reducible exact ro_1 p5 | with_reducible exact ro_6 p5 | exact sr_gR hS (by with_reducible assumption)) (Nat.le_of_ble_eq_true rfl) kk) ?_
        refine Sx.br (fun _ ka kb => r_icmp_ge 75 81 dX4_nextOrder_72 rfl (by decide) ka kb) (by first | exact em1 | exact em2) (fun h72 => ?_) (fun h72 => ?_)
        · refine fin (a + 1) h1 (Or.inl h5) (h3.trans ?_)
          rw [ordAt_L ho h1, ordAt_L ho (by omega)] at h72
          unfold aboveF
          rw [if_neg fun z => absurd ((nI_lt_iff (by have := (ho.1 _ h1).2; omega) (by have := (ho.1 r (by omega)).2; omega)).mpr z.2) (Int32.not_lt.mpr h72)]
        · refine Sx.up (fun _ kk => r_iinc (m1) 78 dX4_nextOrder_75 rfl rfl (m1_of) (by decide) rfl kk) ?_
          refine Sx.up (fun _ kk => r_goto 51 dX4_nextOrder_78 (by decide) kk) ?_
          rw [nI_p1]
          refine ih (by omega) (by omega) (h3.trans ?_)
          rw [ordAt_L ho h1, ordAt_L ho (by omega)] at h72
          have h73 := (nI_lt_iff (by have := (ho.1 _ h1).2; omega) (by have := (ho.1 r (by omega)).2; omega)).mp (Int32.not_le.mp h72)
          conv => lhs; unfold aboveF
          rw [if_pos ⟨h5, h73⟩]
      · refine Sx.up (fun _ kk => r_iload_n 52 dX4_nextOrder_51 rfl rfl kk) ?_
        refine Sx.up (fun _ kk => r_iload_n 53 dX4_nextOrder_52 rfl rfl kk) ?_
        refine Sx.up (fun _ kk => r_icmp_le 56 81 dX4_nextOrder_53 rfl (by decide) (fun _ => kk) (fun h53 => absurd (nI_le (by omega) (by omega)) h53)) ?_
        refine fin (a + 1) h1 (Or.inr (by omega)) (h3.trans ?_)
        unfold aboveF
        rw [if_neg fun z => h5 z.1]
  have loop1 : ∀ m, m < L.length ∨ m = 0 → riseF L (L.length - 1) = riseF L m → Sx mX4_nextOrder (d + 2) 0 0 (fun o => ∃ E2, o = (.inl (some (.int (if (nextF L).isSome then 1 else 0))), E2, n) ∧ SR E E2 ∧ (∀ g k, gI E2 g k = gI E g k) ∧ Fr (fun j => j = p + 2) E E2 ∧ OrdL E2 p ((nextF L).getD L)) 7 [some (.ref p), some (.int (dn m)), none, none, none] [] E n := by
    have hS : SR E E := sr_rfl
    intro m
    induction m with
    | zero =>
      intro h1 h2
      have hN : nextF L = none := by unfold nextF; rw [h2]; rfl
      refine Sx.up (fun _ kk => r_iload_n 8 dX4_nextOrder_7 rfl rfl kk) ?_
      refine Sx.up (fun _ kk => r_if_lt 11 38 dX4_nextOrder_8 rfl (by decide) (fun _ => kk) (fun h8 => absurd dn_0 h8)) ?_
      refine Sx.up (fun _ kk => r_iload_n 39 dX4_nextOrder_38 rfl rfl kk) ?_
      refine Sx.up (fun _ kk => r_if_ge 42 44 dX4_nextOrder_39 rfl (by decide) (fun h39 => absurd h39 (Int32.not_le.mpr dn_0)) (fun _ => kk)) ?_
      refine Sx.up (fun _ kk => r_iconst (0) 43 dX4_nextOrder_42 rfl (by decide) kk) ?_
      refine ⟨_, ?_, r_zret dX4_nextOrder_43 rfl rfl (by decide) rfl⟩
      refine ⟨_, by rw [hN]; rfl, sr_rfl, fun _ _ => rfl, fr_rfl, ?_⟩
      rw [hN]
      exact ho
    | succ m ih =>
      intro h1 h2
      have h3 : m + 1 < L.length := by omega
      rw [dn_s]
      refine Sx.up (fun _ kk => r_iload_n 8 dX4_nextOrder_7 rfl rfl kk) ?_
      refine Sx.up (fun _ kk => r_if_lt 11 38 dX4_nextOrder_8 rfl (by decide) (fun h8 => absurd h8 (nI_pos (by omega))) (fun _ => kk)) ?_
      refine Sx.up (fun _ kk => r_aload_n 12 dX4_nextOrder_11 rfl rfl kk) ?_
      refine Sx.up (fun _ kk => r_getR 15 dX4_nextOrder_12 rfl f4_14 rfl (by first | with_reducible assumption | with_reducible exact ro_1 p4 | with_reducible exact ro_6 p4 | with_reducible exact ro_1 p5 | with_reducible exact ro_6 p5 | exact sr_gR hS (by with_reducible assumption)) (by first | with_reducible assumption | with_reducible exact ro_1 p4 | with_reducible exact ro_6 p4 | with_reducible exact ro_1 p5 | with_reducible exact ro_6 p5 | exact sr_gR hS (by with_reducible assumption)) (by first | with_reducible assumption | with_reducible exact ro_1 p4 | with_reducible exact ro_6 p4 | with_reducible exact ro_1 p5 | with_reducible exact ro_6 p5 | exact sr_gR hS (by with_reducible assumption)) kk) ?_
      refine Sx.up (fun _ kk => r_iload_n 16 dX4_nextOrder_15 rfl rfl kk) ?_
      refine Sx.up (fun _ kk => r_callV (M := mX4_nextOrder) (pc := 16) 19 dX4_nextOrder_16 rfl k4_76 (c_X6_at (sr_row hS p4)) rfl rfl (by first | with_reducible assumption | with_reducible exact ro_1 p4 | with_reducible exact ro_6 p4 | with_reducible exact ro_1 p5 | with_reducible exact ro_6 p5 | exact sr_gR hS (by with_reducible assumption)) (by decide) rfl (by first | with_reducible assumption | with_reducible exact ro_1 p4 | with_reducible exact ro_6 p4 | with_reducible exact ro_1 p5 | with_reducible exact ro_6 p5 | exact sr_gR hS (by with_reducible assumption)) (Nat.le_of_ble_eq_true rfl) kk) ?_
      refine Sx.up (fun _ kk => r_aload_n 20 dX4_nextOrder_19 rfl rfl kk) ?_
      refine Sx.up (fun _ kk => r_getR 23 dX4_nextOrder_20 rfl f4_14 rfl (by first | with_reducible assumption | with_reducible exact ro_1 p4 | with_reducible exact ro_6 p4 | with_reducible exact ro_1 p5 | with_reducible exact ro_6 p5 | exact sr_gR hS (by with_reducible assumption)) (by first | with_reducible assumption | with_reducible exact ro_1 p4 | with_reducible exact ro_6 p4 | with_reducible exact ro_1 p5 | with_reducible exact ro_6 p5 | exact sr_gR hS (by with_reducible assumption)) (by first | with_reducible assumption | with_reducible exact ro_1 p4 | with_reducible exact ro_6 p4 | with_reducible exact ro_1 p5 | with_reducible exact ro_6 p5 | exact sr_gR hS (by with_reducible assumption)) kk) ?_
      refine Sx.up (fun _ kk => r_iload_n 24 dX4_nextOrder_23 rfl rfl kk) ?_
      refine Sx.up (fun _ kk => r_iconst (1) 25 dX4_nextOrder_24 rfl (by decide) kk) ?_
      refine Sx.up (fun _ kk => r_iadd 26 dX4_nextOrder_25 rfl kk) ?_
      refine Sx.up (fun _ kk => r_callV (M := mX4_nextOrder) (pc := 26) 29 dX4_nextOrder_26 rfl k4_76 (c_X6_at (sr_row hS p4)) rfl rfl (by first | with_reducible assumption | with_reducible exact ro_1 p4 | with_reducible exact ro_6 p4 | with_reducible exact ro_1 p5 | with_reducible exact ro_6 p5 | exact sr_gR hS (by with_reducible assumption)) (by decide) rfl (by first | with_reducible assumption | with_reducible exact ro_1 p4 | with_reducible exact ro_6 p4 | with_reducible exact ro_1 p5 | with_reducible exact ro_6 p5 | exact sr_gR hS (by with_reducible assumption)) (Nat.le_of_ble_eq_true rfl) kk) ?_
      refine Sx.br (fun _ ka kb => r_icmp_le 32 38 dX4_nextOrder_29 rfl (by decide) ka kb) (by first | exact em1 | exact em2) (fun h29 => ?_) (fun h29 => ?_)
      · refine Sx.up (fun _ kk => r_iload_n 39 dX4_nextOrder_38 rfl rfl kk) ?_
        refine Sx.up (fun _ kk => r_if_ge 42 44 dX4_nextOrder_39 rfl (by decide) (fun _ => kk) (fun h39 => absurd (Int32.not_lt.mp (nI_pos (by omega))) h39)) ?_
        refine Sx.up (fun _ kk => r_aload_n 45 dX4_nextOrder_44 rfl rfl kk) ?_
        refine Sx.up (fun _ kk => r_getI 48 dX4_nextOrder_45 rfl f4_23 rfl (by first | with_reducible assumption | with_reducible exact ro_1 p4 | with_reducible exact ro_6 p4 | with_reducible exact ro_1 p5 | with_reducible exact ro_6 p5 | exact sr_gR hS (by with_reducible assumption)) (by first | with_reducible assumption | with_reducible exact ro_1 p4 | with_reducible exact ro_6 p4 | with_reducible exact ro_1 p5 | with_reducible exact ro_6 p5 | exact sr_gR hS (by with_reducible assumption)) kk) ?_
        refine Sx.up (fun _ kk => r_iconst (1) 49 dX4_nextOrder_48 rfl (by decide) kk) ?_
        refine Sx.up (fun _ kk => r_isub 50 dX4_nextOrder_49 rfl kk) ?_
        refine Sx.up (fun _ kk => r_istore_n 51 dX4_nextOrder_50 rfl (by decide) rfl kk) ?_
        rw [nI_pp, ordAt_L ho (by omega), ordAt_L ho h3] at h29
        have hR : riseF L (L.length - 1) = some m := by
          rw [h2]
          unfold riseF
          rw [if_neg fun z => absurd ((nI_lt_iff (by have := (ho.1 _ h3).2; omega) (by have := (ho.1 m (by omega)).2; omega)).mpr z) (Int32.not_lt.mpr h29)]
        rw [show gI E 514 p - 1 = nI (L.length - 1) by rw [hl, show L.length = (L.length - 1) + 1 by omega, dn1]; rfl]
        exact loop2 m h3 hR (L.length - 1) (by omega) (by omega) rfl
      · refine Sx.up (fun _ kk => r_iinc (m1) 35 dX4_nextOrder_32 rfl rfl (m1_of) (by decide) rfl kk) ?_
        refine Sx.up (fun _ kk => r_goto 7 dX4_nextOrder_35 (by decide) kk) ?_
        rw [nI_pp, ordAt_L ho (by omega), ordAt_L ho h3] at h29
        have h73 := (nI_lt_iff (by have := (ho.1 _ h3).2; omega) (by have := (ho.1 m (by omega)).2; omega)).mp (Int32.not_le.mp h29)
        rw [dn_b]
        refine ih (Or.inl (by omega)) (h2.trans ?_)
        conv => lhs; unfold riseF
        rw [if_pos h73]
  refine Sx.up (fun _ kk => r_aload_n 1 dX4_nextOrder_0 rfl rfl kk) ?_
  refine Sx.up (fun _ kk => r_getI 4 dX4_nextOrder_1 rfl f4_23 rfl (by first | with_reducible assumption | with_reducible exact ro_1 p4 | with_reducible exact ro_6 p4 | with_reducible exact ro_1 p5 | with_reducible exact ro_6 p5 | exact sr_gR hS (by with_reducible assumption)) (by first | with_reducible assumption | with_reducible exact ro_1 p4 | with_reducible exact ro_6 p4 | with_reducible exact ro_1 p5 | with_reducible exact ro_6 p5 | exact sr_gR hS (by with_reducible assumption)) kk) ?_
  refine Sx.up (fun _ kk => r_iconst (2) 5 dX4_nextOrder_4 rfl (by decide) kk) ?_
  refine Sx.up (fun _ kk => r_isub 6 dX4_nextOrder_5 rfl kk) ?_
  refine Sx.up (fun _ kk => r_istore_n 7 dX4_nextOrder_6 rfl (by decide) rfl kk) ?_
  rcases Nat.eq_zero_or_pos L.length with z | z
  · have hN : nextF L = none := by unfold nextF; rw [z]; rfl
    rw [hl, z]
    refine Sx.up (fun _ kk => r_iload_n 8 dX4_nextOrder_7 rfl rfl kk) ?_
    refine Sx.up (fun _ kk => r_if_lt 11 38 dX4_nextOrder_8 rfl (by decide) (fun _ => kk) (fun h8 => absurd (by decide) h8)) ?_
    refine Sx.up (fun _ kk => r_iload_n 39 dX4_nextOrder_38 rfl rfl kk) ?_
    refine Sx.up (fun _ kk => r_if_ge 42 44 dX4_nextOrder_39 rfl (by decide) (fun h39 => absurd h39 (by decide)) (fun _ => kk)) ?_
    refine Sx.up (fun _ kk => r_iconst (0) 43 dX4_nextOrder_42 rfl (by decide) kk) ?_
    refine ⟨_, ?_, r_zret dX4_nextOrder_43 rfl rfl (by decide) rfl⟩
    refine ⟨_, by rw [hN]; rfl, sr_rfl, fun _ _ => rfl, fr_rfl, ?_⟩
    rw [hN]
    exact ho
  · rw [show gI E 514 p - 2 = dn (L.length - 1) by rw [hl, show L.length = (L.length - 1) + 1 by omega, nI_m2]; rfl]
    exact loop1 (L.length - 1) (by omega) rfl
