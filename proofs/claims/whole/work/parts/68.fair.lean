/-! The class: fair -/
/-- sums of some nights: what each sleeper's entry becomes -/
theorem c_X2_addToSums {d b p m : Nat} {V : NV} {E : HP} {f : Nat → Int32} (hp : PR E b p V m) (hinj : ∀ i j, i < vL V → j < vL V → vA V 0 i = vA V 0 j → i = j) (hn : ∀ i, i < vL V → ∃ s, s < 7 ∧ vA V 0 i = nI s) (hf : ∀ s, s < 7 → gA E 83 s = f s) : ∃ E2, (Fr (fun k => k = 83) E E2 ∧ SR E E2 ∧ (∀ s, s < 7 → gA E2 83 s = (if plcF (vA V 0) (nI s) (vL V) < vL V then f s + byS V (nightF V m) 3 s else f s))) ∧ Cl yX2_addToSums mX2_addToSums (d + 2) 0 0 [.ref 80] E 137 (.inl none, E2, 137) := by
  obtain ⟨⟨t, hc⟩, p1, p2, p3, p4, p5⟩ := id hp
  obtain ⟨okn, ov, ot, ot6, ol⟩ := id hc
  have l7 := ov.2.1
  have okp := okn.2.2.2.2.2.2.2.2.2.2.1
  suffices hX : ∃ o, (∃ E2, o = (.inl none, E2, 137) ∧ Fr (fun k => k = 83) E E2 ∧ SR E E2 ∧ (∀ s, s < 7 → gA E2 83 s = (if plcF (vA V 0) (nI s) (vL V) < vL V then f s + byS V (nightF V m) 3 s else f s))) ∧ Cl yX2_addToSums mX2_addToSums (d + 2) 0 0 [.ref 80] E 137 o by
    obtain ⟨_, ⟨E2, rfl, h⟩, hcl⟩ := hX
    exact ⟨E2, h, hcl⟩
  refine Cx.of (by decide) rfl (fun q => by cases q) rfl rfl (Nat.le_of_ble_eq_true rfl) ?_
  show Sx _ _ _ _ _ 0 [some (.ref 80), none, none] [] _ _
  have loop := sxUp (S := fun k9 E1 => Sx mX2_addToSums (d + 2) 0 0 (fun o => ∃ E2, o = (.inl none, E2, 137) ∧ Fr (fun k => k = 83) E E2 ∧ SR E E2 ∧ (∀ s, s < 7 → gA E2 83 s = (if plcF (vA V 0) (nI s) (vL V) < vL V then f s + byS V (nightF V m) 3 s else f s))) 2 [some (.ref 80), some (.int (nI k9)), none] [] E1 137) (Inv := fun k9 E1 => Fr (fun k => k = 83) E E1 ∧ SR E E1 ∧ (∀ s, s < 7 → gA E1 83 s = (if plcF (vA V 0) (nI s) (vL V) < k9 then f s + byS V (nightF V m) 3 s else f s))) (a := 0) (l := vL V) (by omega) ?_ ?_ E ⟨fr_rfl, sr_rfl, fun s hs => by rw [if_neg (Nat.not_lt_zero _)]; exact hf s hs⟩
  refine Sx.up (fun _ kk => r_iconst (0) 1 dX2_addToSums_0 rfl (by decide) kk) ?_
  refine Sx.up (fun _ kk => r_istore_n 2 dX2_addToSums_1 rfl (by decide) rfl kk) ?_
  exact loop
  · intro E1 ⟨hF, hS, hA⟩
    have w1 : gI E1 514 p = nI (vL V) := (fr_gI hF (by have := okn.2.2.2.2.2.2.2.2.2.2.2.2.1; omega) _).trans ov.1
    have hr6 : gR E1 262 80 = some p := (sr_night hS okn).2.2.2.2.2.1
    have hr3 : gR E1 258 80 = some 82 := (sr_night hS okn).2.2.1
    have hp1 : sh p = (4, 0) := okp.1
    have hp2 : p < 137 := okp.2.2.2.2.2
    refine Sx.up (fun _ kk => r_iload_n 3 dX2_addToSums_2 rfl rfl kk) ?_
    refine Sx.up (fun _ kk => r_aload_n 4 dX2_addToSums_3 rfl rfl kk) ?_
    refine Sx.up (fun _ kk => r_getR 7 dX2_addToSums_4 rfl f2_52 rfl (by first | with_reducible assumption | exact Nat.le_of_ble_eq_true rfl | with_reducible exact (sr_night hS okn).2.2.2.2.2.1 | with_reducible exact (sr_night hS okn).2.2.1 | with_reducible exact okp.1 | with_reducible exact okp.2.2.2.2.2 | rfl) (by first | with_reducible assumption | exact Nat.le_of_ble_eq_true rfl | with_reducible exact (sr_night hS okn).2.2.2.2.2.1 | with_reducible exact (sr_night hS okn).2.2.1 | with_reducible exact okp.1 | with_reducible exact okp.2.2.2.2.2 | rfl) (by first | with_reducible assumption | exact Nat.le_of_ble_eq_true rfl | with_reducible exact (sr_night hS okn).2.2.2.2.2.1 | with_reducible exact (sr_night hS okn).2.2.1 | with_reducible exact okp.1 | with_reducible exact okp.2.2.2.2.2 | rfl) kk) ?_
    refine Sx.up (fun _ kk => r_getI 10 dX2_addToSums_7 rfl f2_86 rfl (by first | with_reducible assumption | exact Nat.le_of_ble_eq_true rfl | with_reducible exact (sr_night hS okn).2.2.2.2.2.1 | with_reducible exact (sr_night hS okn).2.2.1 | with_reducible exact okp.1 | with_reducible exact okp.2.2.2.2.2 | rfl) (by first | with_reducible assumption | exact Nat.le_of_ble_eq_true rfl | with_reducible exact (sr_night hS okn).2.2.2.2.2.1 | with_reducible exact (sr_night hS okn).2.2.1 | with_reducible exact okp.1 | with_reducible exact okp.2.2.2.2.2 | rfl) kk) ?_
    refine Sx.up (fun _ kk => r_icmp_ge 13 40 dX2_addToSums_10 rfl (by decide) (fun _ => kk) (fun h10 => absurd (by rw [w1]; exact nI_le (Nat.le_refl _) (by omega)) h10)) ?_
    refine ⟨_, ?_, r_vret dX2_addToSums_40 rfl rfl rfl⟩
    exact ⟨E1, rfl, hF, hS, hA⟩
  · intro k9 E1 hk0 hk9 ⟨hF, hS, hA⟩ hq
    have hp7 := okn.2.2.2.2.2.2.2.2.2.2.2.2.1
    have w1 : gI E1 514 p = nI (vL V) := (fr_gI hF (by omega) _).trans ov.1
    have hr6 : gR E1 262 80 = some p := (sr_night hS okn).2.2.2.2.2.1
    have hr3 : gR E1 258 80 = some 82 := (sr_night hS okn).2.2.1
    have hp1 : sh p = (4, 0) := okp.1
    have hp2 : p < 137 := okp.2.2.2.2.2
    have okn1 := sr_night hS okn
    have hli := c_X2_lierIn (d := d + 1) (x := nI k9) okn1 w1 l7
    rw [liId_nI hk9 l7] at hli
    have hsl := sh_li (show k9 < 7 by omega)
    have h88 : 88 + k9 < 137 := by omega
    obtain ⟨s, hs7, hs⟩ := hn k9 hk9
    have hnu : gI E1 129 (88 + k9) = nI s := (fr_gI hF (by omega) _).trans ((ol k9 hk9).2.1.trans hs)
    have hti : gI E1 135 (88 + k9) = byS V (nightF V m) 3 s := by
      rw [fr_gI hF (by omega)]
      have := p4 k9 hk9 3 (by decide)
      rw [this]
      unfold byS
      obtain ⟨q1, q2, q3⟩ := plc_hit hk9 hs
      rw [show k9 = plcF (vA V 0) (nI s) (vL V) from hinj _ _ hk9 q1 (by rw [q2, hs])]
    obtain ⟨q1, q2, q3⟩ := plc_hit hk9 hs
    have hpk : plcF (vA V 0) (nI s) (vL V) = k9 := (hinj _ _ hk9 q1 (by rw [q2, hs])).symm
    have o8 : RowOK E1 137 82 7 := okn1.2.2.2.2.2.2.2.1
    have had := c_X6_add (d := d) (i := nI s) (v := byS V (nightF V m) 3 s) o8
    rw [rPut_nI hs7 (by omega), rAt_nI hs7 (by omega)] at had
    have e83 : gA E1 (82 + 1) s = f s := by
      have := hA s hs7
      rw [hpk, if_neg (Nat.lt_irrefl _)] at this
      exact this
    rw [e83] at had
    refine Sx.up (fun _ kk => r_iload_n 3 dX2_addToSums_2 rfl rfl kk) ?_
    refine Sx.up (fun _ kk => r_aload_n 4 dX2_addToSums_3 rfl rfl kk) ?_
    refine Sx.up (fun _ kk => r_getR 7 dX2_addToSums_4 rfl f2_52 rfl (by first | with_reducible assumption | exact Nat.le_of_ble_eq_true rfl | with_reducible exact (sr_night hS okn).2.2.2.2.2.1 | with_reducible exact (sr_night hS okn).2.2.1 | with_reducible exact okp.1 | with_reducible exact okp.2.2.2.2.2 | rfl) (by first | with_reducible assumption | exact Nat.le_of_ble_eq_true rfl | with_reducible exact (sr_night hS okn).2.2.2.2.2.1 | with_reducible exact (sr_night hS okn).2.2.1 | with_reducible exact okp.1 | with_reducible exact okp.2.2.2.2.2 | rfl) (by first | with_reducible assumption | exact Nat.le_of_ble_eq_true rfl | with_reducible exact (sr_night hS okn).2.2.2.2.2.1 | with_reducible exact (sr_night hS okn).2.2.1 | with_reducible exact okp.1 | with_reducible exact okp.2.2.2.2.2 | rfl) kk) ?_
    refine Sx.up (fun _ kk => r_getI 10 dX2_addToSums_7 rfl f2_86 rfl (by first | with_reducible assumption | exact Nat.le_of_ble_eq_true rfl | with_reducible exact (sr_night hS okn).2.2.2.2.2.1 | with_reducible exact (sr_night hS okn).2.2.1 | with_reducible exact okp.1 | with_reducible exact okp.2.2.2.2.2 | rfl) (by first | with_reducible assumption | exact Nat.le_of_ble_eq_true rfl | with_reducible exact (sr_night hS okn).2.2.2.2.2.1 | with_reducible exact (sr_night hS okn).2.2.1 | with_reducible exact okp.1 | with_reducible exact okp.2.2.2.2.2 | rfl) kk) ?_
    refine Sx.up (fun _ kk => r_icmp_ge 13 40 dX2_addToSums_10 rfl (by decide) (fun h10 => absurd h10 (by rw [w1]; exact nI_ge hk9 (by omega))) (fun _ => kk)) ?_
    refine Sx.up (fun _ kk => r_aload_n 14 dX2_addToSums_13 rfl rfl kk) ?_
    refine Sx.up (fun _ kk => r_iload_n 15 dX2_addToSums_14 rfl rfl kk) ?_
    refine Sx.up (fun _ kk => r_callV (M := mX2_addToSums) (pc := 15) 18 dX2_addToSums_15 rfl k2_98 hli rfl rfl (by first | with_reducible assumption | exact Nat.le_of_ble_eq_true rfl | with_reducible exact (sr_night hS okn).2.2.2.2.2.1 | with_reducible exact (sr_night hS okn).2.2.1 | with_reducible exact okp.1 | with_reducible exact okp.2.2.2.2.2 | rfl) (by decide) rfl (by first | with_reducible assumption | exact Nat.le_of_ble_eq_true rfl | with_reducible exact (sr_night hS okn).2.2.2.2.2.1 | with_reducible exact (sr_night hS okn).2.2.1 | with_reducible exact okp.1 | with_reducible exact okp.2.2.2.2.2 | rfl) (Nat.le_of_ble_eq_true rfl) kk) ?_
    refine Sx.up (fun _ kk => r_astore_n 19 dX2_addToSums_18 rfl (by decide) rfl kk) ?_
    refine Sx.up (fun _ kk => r_aload_n 20 dX2_addToSums_19 rfl rfl kk) ?_
    refine Sx.up (fun _ kk => r_getR 23 dX2_addToSums_20 rfl f2_22 rfl (by first | with_reducible assumption | exact Nat.le_of_ble_eq_true rfl | with_reducible exact (sr_night hS okn).2.2.2.2.2.1 | with_reducible exact (sr_night hS okn).2.2.1 | with_reducible exact okp.1 | with_reducible exact okp.2.2.2.2.2 | rfl) (by first | with_reducible assumption | exact Nat.le_of_ble_eq_true rfl | with_reducible exact (sr_night hS okn).2.2.2.2.2.1 | with_reducible exact (sr_night hS okn).2.2.1 | with_reducible exact okp.1 | with_reducible exact okp.2.2.2.2.2 | rfl) (by first | with_reducible assumption | exact Nat.le_of_ble_eq_true rfl | with_reducible exact (sr_night hS okn).2.2.2.2.2.1 | with_reducible exact (sr_night hS okn).2.2.1 | with_reducible exact okp.1 | with_reducible exact okp.2.2.2.2.2 | rfl) kk) ?_
    refine Sx.up (fun _ kk => r_aload_n 24 dX2_addToSums_23 rfl rfl kk) ?_
    refine Sx.up (fun _ kk => r_getIV (nI s) 27 dX2_addToSums_24 rfl f2_180 rfl (by first | with_reducible assumption | exact Nat.le_of_ble_eq_true rfl | with_reducible exact (sr_night hS okn).2.2.2.2.2.1 | with_reducible exact (sr_night hS okn).2.2.1 | with_reducible exact okp.1 | with_reducible exact okp.2.2.2.2.2 | rfl) (by first | with_reducible assumption | exact Nat.le_of_ble_eq_true rfl | with_reducible exact (sr_night hS okn).2.2.2.2.2.1 | with_reducible exact (sr_night hS okn).2.2.1 | with_reducible exact okp.1 | with_reducible exact okp.2.2.2.2.2 | rfl) (hnu) kk) ?_
    refine Sx.up (fun _ kk => r_aload_n 28 dX2_addToSums_27 rfl rfl kk) ?_
    refine Sx.up (fun _ kk => r_getIV (byS V (nightF V m) 3 s) 31 dX2_addToSums_28 rfl f2_226 rfl (by first | with_reducible assumption | exact Nat.le_of_ble_eq_true rfl | with_reducible exact (sr_night hS okn).2.2.2.2.2.1 | with_reducible exact (sr_night hS okn).2.2.1 | with_reducible exact okp.1 | with_reducible exact okp.2.2.2.2.2 | rfl) (by first | with_reducible assumption | exact Nat.le_of_ble_eq_true rfl | with_reducible exact (sr_night hS okn).2.2.2.2.2.1 | with_reducible exact (sr_night hS okn).2.2.1 | with_reducible exact okp.1 | with_reducible exact okp.2.2.2.2.2 | rfl) (hti) kk) ?_
    refine Sx.up (fun _ kk => r_callV (M := mX2_addToSums) (pc := 31) 34 dX2_addToSums_31 rfl k2_238 had rfl rfl (by first | with_reducible assumption | exact Nat.le_of_ble_eq_true rfl | with_reducible exact (sr_night hS okn).2.2.2.2.2.1 | with_reducible exact (sr_night hS okn).2.2.1 | with_reducible exact okp.1 | with_reducible exact okp.2.2.2.2.2 | rfl) (by decide) rfl (by first | with_reducible assumption | exact Nat.le_of_ble_eq_true rfl | with_reducible exact (sr_night hS okn).2.2.2.2.2.1 | with_reducible exact (sr_night hS okn).2.2.1 | with_reducible exact okp.1 | with_reducible exact okp.2.2.2.2.2 | rfl) (Nat.le_of_ble_eq_true rfl) kk) ?_
    refine Sx.up (fun _ kk => r_iinc (1) 37 dX2_addToSums_34 rfl rfl (by decide) (by decide) rfl kk) ?_
    refine Sx.up (fun _ kk => r_goto 2 dX2_addToSums_37 (by decide) kk) ?_
    rw [nI_pp]
    refine Sx.less (ls := [some (.ref 80), some (.int (nI (k9 + 1))), none]) ⟨rfl, rfl, trivial⟩ (hq _ ⟨fr_sA rfl hF, sr_sA hS, fun s2 hs2 => ?_⟩)
    show gA (sA E1 83 s _) 83 s2 = _
    rw [gA_sA]
    by_cases hss : s2 = s
    · subst hss
      rw [if_pos ⟨rfl, rfl⟩, if_pos (by omega)]
    · rw [if_neg (fun z => hss z.2), hA s2 hs2]
      have : ¬ plcF (vA V 0) (nI s2) (vL V) = k9 := fun z => by
        have h3 := (plc_le (f := vA V 0) (s := nI s2) (vL V)).2.1 (by omega)
        rw [z, hs] at h3
        exact hss ((nI_eq (by omega) (by omega)).mp h3).symm
      by_cases h4 : plcF (vA V 0) (nI s2) (vL V) < k9
      · rw [if_pos h4, if_pos (by omega)]
      · rw [if_neg h4, if_neg (by omega)]
/-- how far apart: most, least of those that can wake -/
def apaF (cw : Nat → Bool) (f : Nat → Int32) : Nat → Int32 × Int32
  | 0 => (-1, -1)
  | k + 1 => if cw k = true then (if (apaF cw f k).1 = -1 ∨ (apaF cw f k).1 < f k then f k else (apaF cw f k).1, if (apaF cw f k).2 = -1 ∨ f k < (apaF cw f k).2 then f k else (apaF cw f k).2) else apaF cw f k
def canS2 (sl : Nat → Nat → Int32) : Nat → Bool := fun s => decide (¬ sl 1 s = 1 ∧ ¬ sl 1 s = 3)
theorem can_sl (x : Int32) : slCan x = bI (decide (¬ x = 1 ∧ ¬ x = 3)) := by
  unfold slCan bI
  by_cases h1 : x = 1
  · simp [h1]
  · by_cases h3 : x = 3
    · simp [h3]
    · simp [h1, h3]
set_option maxRecDepth 20000 in
theorem c_X11_apart {d b L m : Nat} {R : List Int32} {E : HP} {f : Nat → Int32} (hci : CI E b L m R) (hf : ∀ s, s < 7 → gA E 83 s = f s) : Cl yX11_apart mX11_apart (d + 2) 0 0 [.ref 0] E 137 (.inl (some (.int ((apaF (canS2 (slC E b)) f L).1 - (apaF (canS2 (slC E b)) f L).2))), E, 137) := by
  obtain ⟨hC, cL, c51, cok, csu, crl, c87, ⟨m1, m6, cmi⟩, cfr⟩ := id hci
  have l7 : L ≤ 7 := cok.2.1
  refine Cl.of (by decide) rfl (fun q => by cases q) rfl rfl (Nat.le_of_ble_eq_true rfl) ?_
  show Sm _ _ _ _ _ 0 [some (.ref 0), none, none, none, none] [] _ _
  have loop := loopUp (P := fun k9 => Sm mX11_apart (d + 2) 0 0 (.inl (some (.int ((apaF (canS2 (slC E b)) f L).1 - (apaF (canS2 (slC E b)) f L).2))), E, 137) 6 [some (.ref 0), some (.int (apaF (canS2 (slC E b)) f k9).1), some (.int (apaF (canS2 (slC E b)) f k9).2), some (.int (nI k9)), none] [] E 137) (l := L) ?_ ?_
  refine r_iconst (-1) 1 dX11_apart_0 rfl (by decide) ?_
  refine r_istore_n 2 dX11_apart_1 rfl (by decide) rfl ?_
  refine r_iconst (-1) 3 dX11_apart_2 rfl (by decide) ?_
  refine r_istore_n 4 dX11_apart_3 rfl (by decide) rfl ?_
  refine r_iconst (0) 5 dX11_apart_4 rfl (by decide) ?_
  refine r_istore_n 6 dX11_apart_5 rfl (by decide) rfl ?_
  exact loop
  · show Sm _ _ _ _ _ 6 _ _ _ _
    refine r_iload_n 7 dX11_apart_6 rfl rfl ?_
    refine r_aload_n 8 dX11_apart_7 rfl rfl ?_
    refine r_getR 11 dX11_apart_8 rfl f11_28 rfl (by first | with_reducible assumption | with_reducible exact cr_bs hC | rfl) (by first | with_reducible assumption | with_reducible exact cr_bn hC | exact Nat.le_of_ble_eq_true rfl) (cr_told hC) ?_
    refine r_getIV (nI L) 14 dX11_apart_11 rfl f11_101 rfl (by first | with_reducible assumption | with_reducible exact cr_bs hC | rfl) (by first | with_reducible assumption | with_reducible exact cr_bn hC | exact Nat.le_of_ble_eq_true rfl) (cL) ?_
    refine r_icmp_ge 17 86 dX11_apart_14 rfl (by decide) (fun h14 => ?_) (fun h14 => absurd (nI_le (Nat.le_refl _) (by omega)) h14)
    refine r_iload_n 87 dX11_apart_86 rfl rfl ?_
    refine r_iload_n 88 dX11_apart_87 rfl rfl ?_
    refine r_isub 89 dX11_apart_88 rfl ?_
    exact r_iret dX11_apart_89 rfl rfl (rfl)
  · intro k9 hk9 hq
    show Sm _ _ _ _ _ 6 _ _ _ _
    obtain ⟨ws, wn, wk⟩ := who_of hci hk9
    have hwh := c_X0_who (d := d + 1) (s := nI k9) (cr_bed hC)
    rw [whoId_nI (by omega)] at hwh
    have hcw := c_X8_canWake (d := d + 1) (n := 137) (h := b + 12 + k9) (E := E) ws wn
    rw [wk, can_sl] at hcw
    have hat := c_X6_at (d := d + 1) (i := nI k9) (cr_row82 hC)
    rw [rAt_nI (by omega) (by omega), show gA E (82 + 1) k9 = f k9 from hf k9 (by omega)] at hat
    obtain ⟨g, hg⟩ : ∃ g, f k9 = g := ⟨_, rfl⟩
    rw [hg] at hat
    have hy : canS2 (slC E b) k9 = true → apaF (canS2 (slC E b)) f (k9 + 1) = (if (apaF (canS2 (slC E b)) f k9).1 = -1 ∨ (apaF (canS2 (slC E b)) f k9).1 < g then g else (apaF (canS2 (slC E b)) f k9).1, if (apaF (canS2 (slC E b)) f k9).2 = -1 ∨ g < (apaF (canS2 (slC E b)) f k9).2 then g else (apaF (canS2 (slC E b)) f k9).2) := fun z => by rw [← hg]; exact if_pos z
    have hn : ¬ canS2 (slC E b) k9 = true → apaF (canS2 (slC E b)) f (k9 + 1) = apaF (canS2 (slC E b)) f k9 := fun z => if_neg z
    refine r_iload_n 7 dX11_apart_6 rfl rfl ?_
    refine r_aload_n 8 dX11_apart_7 rfl rfl ?_
    refine r_getR 11 dX11_apart_8 rfl f11_28 rfl (by first | with_reducible assumption | with_reducible exact cr_bs hC | rfl) (by first | with_reducible assumption | with_reducible exact cr_bn hC | exact Nat.le_of_ble_eq_true rfl) (cr_told hC) ?_
    refine r_getIV (nI L) 14 dX11_apart_11 rfl f11_101 rfl (by first | with_reducible assumption | with_reducible exact cr_bs hC | rfl) (by first | with_reducible assumption | with_reducible exact cr_bn hC | exact Nat.le_of_ble_eq_true rfl) (cL) ?_
    refine r_icmp_ge 17 86 dX11_apart_14 rfl (by decide) (fun h14 => absurd h14 (nI_ge hk9 (by omega))) (fun h14 => ?_)
    refine r_aload_n 18 dX11_apart_17 rfl rfl ?_
    refine r_getR 21 dX11_apart_18 rfl f11_28 rfl (by first | with_reducible assumption | with_reducible exact cr_bs hC | rfl) (by first | with_reducible assumption | with_reducible exact cr_bn hC | exact Nat.le_of_ble_eq_true rfl) (cr_told hC) ?_
    refine r_iload_n 22 dX11_apart_21 rfl rfl ?_
    refine r_callV (M := mX11_apart) (pc := 22) 25 dX11_apart_22 rfl k11_195 hwh rfl rfl (by first | with_reducible assumption | with_reducible exact cr_bs hC | rfl) (by decide) rfl (by first | with_reducible assumption | with_reducible exact cr_bn hC | exact Nat.le_of_ble_eq_true rfl) (Nat.le_of_ble_eq_true rfl) ?_
    refine r_callV (M := mX11_apart) (pc := 25) 28 dX11_apart_25 rfl k11_323 hcw rfl rfl (by first | with_reducible assumption | with_reducible exact cr_bs hC | rfl) (by decide) rfl (by first | with_reducible assumption | with_reducible exact cr_bn hC | exact Nat.le_of_ble_eq_true rfl) (Nat.le_of_ble_eq_true rfl) ?_
    refine r_if_eq 31 80 dX11_apart_28 rfl (by decide) (fun h28 => ?_) (fun h28 => ?_)
    · refine r_iinc (1) 83 dX11_apart_80 rfl rfl (by decide) (by decide) rfl ?_
      refine r_goto 6 dX11_apart_83 (by decide) ?_
      rw [hn (by rw [show canS2 (slC E b) k9 = decide (¬ slC E b 1 k9 = 1 ∧ ¬ slC E b 1 k9 = 3) from rfl, b0 h28]; decide)] at hq
      rw [nI_pp]
      exact Sm.less (by exact ⟨rfl, rfl, rfl, rfl, trivial⟩) hq
    · refine r_aload_n 32 dX11_apart_31 rfl rfl ?_
      refine r_getR 35 dX11_apart_32 rfl f11_76 rfl (by first | with_reducible assumption | with_reducible exact cr_bs hC | rfl) (by first | with_reducible assumption | with_reducible exact cr_bn hC | exact Nat.le_of_ble_eq_true rfl) (cr_1420_0 hC) ?_
      refine r_getR 38 dX11_apart_35 rfl f11_320 rfl (by first | with_reducible assumption | with_reducible exact cr_bs hC | rfl) (by first | with_reducible assumption | with_reducible exact cr_bn hC | exact Nat.le_of_ble_eq_true rfl) (cr_258_80 hC) ?_
      refine r_iload_n 39 dX11_apart_38 rfl rfl ?_
      refine r_callV (M := mX11_apart) (pc := 39) 42 dX11_apart_39 rfl k11_152 hat rfl rfl (by first | with_reducible assumption | with_reducible exact cr_bs hC | rfl) (by decide) rfl (by first | with_reducible assumption | with_reducible exact cr_bn hC | exact Nat.le_of_ble_eq_true rfl) (Nat.le_of_ble_eq_true rfl) ?_
      refine r_istore 44 dX11_apart_42 rfl (by decide) rfl ?_
      refine r_iload_n 45 dX11_apart_44 rfl rfl ?_
      refine r_iconst (-1) 46 dX11_apart_45 rfl (by decide) ?_
      refine r_icmp_eq 49 55 dX11_apart_46 rfl (by decide) (fun h46 => ?_) (fun h46 => ?_)
      · refine r_iload 57 dX11_apart_55 rfl rfl ?_
        refine r_goto 61 dX11_apart_57 (by decide) ?_
        refine r_istore_n 62 dX11_apart_61 rfl (by decide) rfl ?_
        refine r_iload_n 63 dX11_apart_62 rfl rfl ?_
        refine r_iconst (-1) 64 dX11_apart_63 rfl (by decide) ?_
        refine r_icmp_eq 67 73 dX11_apart_64 rfl (by decide) (fun h64 => ?_) (fun h64 => ?_)
        · refine r_iload 75 dX11_apart_73 rfl rfl ?_
          refine r_goto 79 dX11_apart_75 (by decide) ?_
          refine r_istore_n 80 dX11_apart_79 rfl (by decide) rfl ?_
          refine r_iinc (1) 83 dX11_apart_80 rfl rfl (by decide) (by decide) rfl ?_
          refine r_goto 6 dX11_apart_83 (by decide) ?_
          rw [hy (b1 h28)] at hq
          first | rw [if_pos (Or.inl h46)] at hq | rw [if_pos (Or.inr (Int32.not_le.mp h52))] at hq | rw [if_neg (fun z => z.elim h46 (Int32.not_lt.mpr h52))] at hq
          first | rw [if_pos (Or.inl h64)] at hq | rw [if_pos (Or.inr (Int32.not_le.mp h70))] at hq | rw [if_neg (fun z => z.elim h64 (Int32.not_lt.mpr h70))] at hq
          rw [nI_pp]
          exact Sm.less (by exact ⟨rfl, rfl, rfl, rfl, trivial⟩) hq
        · refine r_iload 69 dX11_apart_67 rfl rfl ?_
          refine r_iload_n 70 dX11_apart_69 rfl rfl ?_
          refine r_icmp_ge 73 78 dX11_apart_70 rfl (by decide) (fun h70 => ?_) (fun h70 => ?_)
          · refine r_iload_n 79 dX11_apart_78 rfl rfl ?_
            refine r_istore_n 80 dX11_apart_79 rfl (by decide) rfl ?_
            refine r_iinc (1) 83 dX11_apart_80 rfl rfl (by decide) (by decide) rfl ?_
            refine r_goto 6 dX11_apart_83 (by decide) ?_
            rw [hy (b1 h28)] at hq
            first | rw [if_pos (Or.inl h46)] at hq | rw [if_pos (Or.inr (Int32.not_le.mp h52))] at hq | rw [if_neg (fun z => z.elim h46 (Int32.not_lt.mpr h52))] at hq
            first | rw [if_pos (Or.inl h64)] at hq | rw [if_pos (Or.inr (Int32.not_le.mp h70))] at hq | rw [if_neg (fun z => z.elim h64 (Int32.not_lt.mpr h70))] at hq
            rw [nI_pp]
            exact Sm.less (by exact ⟨rfl, rfl, rfl, rfl, trivial⟩) hq
          · refine r_iload 75 dX11_apart_73 rfl rfl ?_
            refine r_goto 79 dX11_apart_75 (by decide) ?_
            refine r_istore_n 80 dX11_apart_79 rfl (by decide) rfl ?_
            refine r_iinc (1) 83 dX11_apart_80 rfl rfl (by decide) (by decide) rfl ?_
            refine r_goto 6 dX11_apart_83 (by decide) ?_
            rw [hy (b1 h28)] at hq
            first | rw [if_pos (Or.inl h46)] at hq | rw [if_pos (Or.inr (Int32.not_le.mp h52))] at hq | rw [if_neg (fun z => z.elim h46 (Int32.not_lt.mpr h52))] at hq
            first | rw [if_pos (Or.inl h64)] at hq | rw [if_pos (Or.inr (Int32.not_le.mp h70))] at hq | rw [if_neg (fun z => z.elim h64 (Int32.not_lt.mpr h70))] at hq
            rw [nI_pp]
            exact Sm.less (by exact ⟨rfl, rfl, rfl, rfl, trivial⟩) hq
      · refine r_iload 51 dX11_apart_49 rfl rfl ?_
        refine r_iload_n 52 dX11_apart_51 rfl rfl ?_
        refine r_icmp_le 55 60 dX11_apart_52 rfl (by decide) (fun h52 => ?_) (fun h52 => ?_)
        · refine r_iload_n 61 dX11_apart_60 rfl rfl ?_
          refine r_istore_n 62 dX11_apart_61 rfl (by decide) rfl ?_
          refine r_iload_n 63 dX11_apart_62 rfl rfl ?_
          refine r_iconst (-1) 64 dX11_apart_63 rfl (by decide) ?_
          refine r_icmp_eq 67 73 dX11_apart_64 rfl (by decide) (fun h64 => ?_) (fun h64 => ?_)
          · refine r_iload 75 dX11_apart_73 rfl rfl ?_
            refine r_goto 79 dX11_apart_75 (by decide) ?_
            refine r_istore_n 80 dX11_apart_79 rfl (by decide) rfl ?_
            refine r_iinc (1) 83 dX11_apart_80 rfl rfl (by decide) (by decide) rfl ?_
            refine r_goto 6 dX11_apart_83 (by decide) ?_
            rw [hy (b1 h28)] at hq
            first | rw [if_pos (Or.inl h46)] at hq | rw [if_pos (Or.inr (Int32.not_le.mp h52))] at hq | rw [if_neg (fun z => z.elim h46 (Int32.not_lt.mpr h52))] at hq
            first | rw [if_pos (Or.inl h64)] at hq | rw [if_pos (Or.inr (Int32.not_le.mp h70))] at hq | rw [if_neg (fun z => z.elim h64 (Int32.not_lt.mpr h70))] at hq
            rw [nI_pp]
            exact Sm.less (by exact ⟨rfl, rfl, rfl, rfl, trivial⟩) hq
          · refine r_iload 69 dX11_apart_67 rfl rfl ?_
            refine r_iload_n 70 dX11_apart_69 rfl rfl ?_
            refine r_icmp_ge 73 78 dX11_apart_70 rfl (by decide) (fun h70 => ?_) (fun h70 => ?_)
            · refine r_iload_n 79 dX11_apart_78 rfl rfl ?_
              refine r_istore_n 80 dX11_apart_79 rfl (by decide) rfl ?_
              refine r_iinc (1) 83 dX11_apart_80 rfl rfl (by decide) (by decide) rfl ?_
              refine r_goto 6 dX11_apart_83 (by decide) ?_
              rw [hy (b1 h28)] at hq
              first | rw [if_pos (Or.inl h46)] at hq | rw [if_pos (Or.inr (Int32.not_le.mp h52))] at hq | rw [if_neg (fun z => z.elim h46 (Int32.not_lt.mpr h52))] at hq
              first | rw [if_pos (Or.inl h64)] at hq | rw [if_pos (Or.inr (Int32.not_le.mp h70))] at hq | rw [if_neg (fun z => z.elim h64 (Int32.not_lt.mpr h70))] at hq
              rw [nI_pp]
              exact Sm.less (by exact ⟨rfl, rfl, rfl, rfl, trivial⟩) hq
            · refine r_iload 75 dX11_apart_73 rfl rfl ?_
              refine r_goto 79 dX11_apart_75 (by decide) ?_
              refine r_istore_n 80 dX11_apart_79 rfl (by decide) rfl ?_
              refine r_iinc (1) 83 dX11_apart_80 rfl rfl (by decide) (by decide) rfl ?_
              refine r_goto 6 dX11_apart_83 (by decide) ?_
              rw [hy (b1 h28)] at hq
              first | rw [if_pos (Or.inl h46)] at hq | rw [if_pos (Or.inr (Int32.not_le.mp h52))] at hq | rw [if_neg (fun z => z.elim h46 (Int32.not_lt.mpr h52))] at hq
              first | rw [if_pos (Or.inl h64)] at hq | rw [if_pos (Or.inr (Int32.not_le.mp h70))] at hq | rw [if_neg (fun z => z.elim h64 (Int32.not_lt.mpr h70))] at hq
              rw [nI_pp]
              exact Sm.less (by exact ⟨rfl, rfl, rfl, rfl, trivial⟩) hq
        · refine r_iload 57 dX11_apart_55 rfl rfl ?_
          refine r_goto 61 dX11_apart_57 (by decide) ?_
          refine r_istore_n 62 dX11_apart_61 rfl (by decide) rfl ?_
          refine r_iload_n 63 dX11_apart_62 rfl rfl ?_
          refine r_iconst (-1) 64 dX11_apart_63 rfl (by decide) ?_
          refine r_icmp_eq 67 73 dX11_apart_64 rfl (by decide) (fun h64 => ?_) (fun h64 => ?_)
          · refine r_iload 75 dX11_apart_73 rfl rfl ?_
            refine r_goto 79 dX11_apart_75 (by decide) ?_
            refine r_istore_n 80 dX11_apart_79 rfl (by decide) rfl ?_
            refine r_iinc (1) 83 dX11_apart_80 rfl rfl (by decide) (by decide) rfl ?_
            refine r_goto 6 dX11_apart_83 (by decide) ?_
            rw [hy (b1 h28)] at hq
            first | rw [if_pos (Or.inl h46)] at hq | rw [if_pos (Or.inr (Int32.not_le.mp h52))] at hq | rw [if_neg (fun z => z.elim h46 (Int32.not_lt.mpr h52))] at hq
            first | rw [if_pos (Or.inl h64)] at hq | rw [if_pos (Or.inr (Int32.not_le.mp h70))] at hq | rw [if_neg (fun z => z.elim h64 (Int32.not_lt.mpr h70))] at hq
            rw [nI_pp]
            exact Sm.less (by exact ⟨rfl, rfl, rfl, rfl, trivial⟩) hq
          · refine r_iload 69 dX11_apart_67 rfl rfl ?_
            refine r_iload_n 70 dX11_apart_69 rfl rfl ?_
            refine r_icmp_ge 73 78 dX11_apart_70 rfl (by decide) (fun h70 => ?_) (fun h70 => ?_)
            · refine r_iload_n 79 dX11_apart_78 rfl rfl ?_
              refine r_istore_n 80 dX11_apart_79 rfl (by decide) rfl ?_
              refine r_iinc (1) 83 dX11_apart_80 rfl rfl (by decide) (by decide) rfl ?_
              refine r_goto 6 dX11_apart_83 (by decide) ?_
              rw [hy (b1 h28)] at hq
              first | rw [if_pos (Or.inl h46)] at hq | rw [if_pos (Or.inr (Int32.not_le.mp h52))] at hq | rw [if_neg (fun z => z.elim h46 (Int32.not_lt.mpr h52))] at hq
              first | rw [if_pos (Or.inl h64)] at hq | rw [if_pos (Or.inr (Int32.not_le.mp h70))] at hq | rw [if_neg (fun z => z.elim h64 (Int32.not_lt.mpr h70))] at hq
              rw [nI_pp]
              exact Sm.less (by exact ⟨rfl, rfl, rfl, rfl, trivial⟩) hq
            · refine r_iload 75 dX11_apart_73 rfl rfl ?_
              refine r_goto 79 dX11_apart_75 (by decide) ?_
              refine r_istore_n 80 dX11_apart_79 rfl (by decide) rfl ?_
              refine r_iinc (1) 83 dX11_apart_80 rfl rfl (by decide) (by decide) rfl ?_
              refine r_goto 6 dX11_apart_83 (by decide) ?_
              rw [hy (b1 h28)] at hq
              first | rw [if_pos (Or.inl h46)] at hq | rw [if_pos (Or.inr (Int32.not_le.mp h52))] at hq | rw [if_neg (fun z => z.elim h46 (Int32.not_lt.mpr h52))] at hq
              first | rw [if_pos (Or.inl h64)] at hq | rw [if_pos (Or.inr (Int32.not_le.mp h70))] at hq | rw [if_neg (fun z => z.elim h64 (Int32.not_lt.mpr h70))] at hq
              rw [nI_pp]
              exact Sm.less (by exact ⟨rfl, rfl, rfl, rfl, trivial⟩) hq
