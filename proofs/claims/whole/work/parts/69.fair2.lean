/-! The class: fair -/
theorem mv_at {E : HP} {p L : Nat} (h7 : L ≤ 7) : ∀ i, i ≤ L - 1 → ∀ j, gA (mvF p (L - 1) i E) (p + 2) j = if i = 0 then gA E (p + 2) j else if j = L - 1 - i then gA E (p + 2) (L - 1) else if L - 1 - i < j ∧ j ≤ L - 1 then gA E (p + 2) (j - 1) else gA E (p + 2) j := by
  intro i
  induction i with
  | zero => intro _ j; rw [if_pos rfl]; rfl
  | succ i ih =>
    intro hi j
    have ih := ih (by omega)
    show gA (rExch (p + 1) 7 (nI (L - 1 - i)) (nI (L - 1 - i) - 1) (mvF p (L - 1) i E)) (p + 2) j = _
    obtain ⟨r, hr⟩ : ∃ r, L - 1 - i = r + 1 := ⟨L - 2 - i, by omega⟩
    rw [hr, nI_pred]
    have he := exch_at (E := mvF p (L - 1) i E) (h := p + 1) (l := 7) (i := r + 1) (j := r) (m := j) (by omega) (by omega) (by omega)
    refine he.trans ?_
    show (if j = r then gA (mvF p (L - 1) i E) (p + 2) (r + 1) else if j = r + 1 then gA (mvF p (L - 1) i E) (p + 2) r else gA (mvF p (L - 1) i E) (p + 2) j) = _
    rw [ih, ih, ih, if_neg (show ¬ i + 1 = 0 by omega), hr]
    have e1 : L - 1 - (i + 1) = r := by omega
    rw [e1]
    by_cases h0 : i = 0
    · subst h0
      have hL : r + 1 = L - 1 := by omega
      simp only [if_true]
      by_cases a1 : j = r
      · rw [if_pos a1, if_pos a1, hL]
      · rw [if_neg a1, if_neg a1]
        by_cases a2 : j = r + 1
        · rw [if_pos a2, if_pos (by omega), a2]; rfl
        · rw [if_neg a2, if_neg (by omega)]
    · simp only [h0, if_false]
      by_cases a1 : j = r
      · rw [if_pos a1, if_pos a1, if_pos trivial]
      · rw [if_neg a1, if_neg a1]
        by_cases a2 : j = r + 1
        · rw [if_pos a2, if_neg (by omega), if_neg (by omega), if_pos (by omega), a2]; rfl
        · rw [if_neg a2, if_neg a2]
          by_cases a3 : r + 1 < j ∧ j ≤ L - 1
          · rw [if_pos a3, if_pos (by omega)]
          · rw [if_neg a3, if_neg (by omega)]
/-- all go one place to the edge -/
def cRot (L : Nat) (c : Cfg) : Cfg := ((fun j => if j = 0 then cO c (L - 1) else if j < L then cO c (j - 1) else cO c j), cU c, cF c, cS c, cE c, cB c)
def cRots (L : Nat) (c : Cfg) : Nat → Cfg
  | 0 => c
  | k + 1 => cRot L (cRots L c k)
def cful (L : Nat) (c : Cfg) : Prop := cokN L L c ∧ ∀ s, s < L → ∃ i, i < L ∧ cO c i = nI s
theorem ful_rot {L : Nat} {c : Cfg} (h : cful L c) : cful L (cRot L c) := by
  obtain ⟨⟨k1, k2, k3, k4, k5, k6, k7⟩, hs⟩ := h
  have hO : ∀ i, i < L → cO (cRot L c) i = cO c (if i = 0 then L - 1 else i - 1) := fun i hi => by
    show (if i = 0 then _ else if i < L then _ else _) = _
    by_cases h0 : i = 0
    · rw [if_pos h0, if_pos h0]
    · rw [if_neg h0, if_neg h0, if_pos hi]
  have hb : ∀ x, (∃ i, i < L ∧ cO c i = x) → ∃ i, i < L ∧ cO (cRot L c) i = x := fun x ⟨i, hi, e⟩ => by
    by_cases h1 : i = L - 1
    · exact ⟨0, by omega, by rw [hO 0 (by omega), if_pos rfl, ← h1, e]⟩
    · exact ⟨i + 1, by omega, by rw [hO (i + 1) (by omega), if_neg (by omega), Nat.add_sub_cancel, e]⟩
  refine ⟨⟨k1, k2, fun i hi => ?_, fun i j hi hj h9 => ?_, k5, fun z => hb _ (k6 z), k7⟩, fun s h9 => hb _ (hs s h9)⟩
  · rw [hO i hi]; exact k3 _ (by split <;> omega)
  · rw [hO i hi, hO j hj] at h9
    have := k4 _ _ (by split <;> omega) (by split <;> omega) h9
    split at this <;> split at this <;> omega
theorem ful_rots {L : Nat} {c : Cfg} (h : cful L c) : ∀ k, cful L (cRots L c k) := by
  intro k
  induction k with
  | zero => exact h
  | succ k ih => exact ful_rot ih
def vRot (E : HP) (b L : Nat) (R : List Int32) (k : Nat) : NV := vMk L (slC E b) (gI E 8 b) R (cRots L (cfgP E 46) k) (gI E 519 46)
/-- sums of the first k fair nights -/
def faF (E : HP) (b L m : Nat) (R : List Int32) : Nat → Nat → Int32
  | 0 => fun _ => 0
  | k + 1 => fun s => if plcF (vA (vRot E b L R k) 0) (nI s) L < L then faF E b L m R k s + byS (vRot E b L R k) (nightF (vRot E b L R k) m) 3 s else faF E b L m R k s
theorem fr_mv {E : HP} {L : Nat} : Fr (fun k => k = 77) E (mvF 75 (L - 1) (L - 1) E) := fr_it (P := fun k => k = 77) (f := fun j E => rExch 76 7 (nI (L - 1 - j)) (nI (L - 1 - j) - 1) E) (fun _ _ => fr_exch (P := fun k => k = 77) (h := 76) rfl fr_rfl) fr_rfl _
theorem tr_rot {E E1 : HP} {b L : Nat} {c : Cfg} {fr : Int32} (h7 : L ≤ 7) (h : TR E E1 b L c fr) : TR E (mvF 75 (L - 1) (L - 1) E1) b L (cRot L c) fr := by
  obtain ⟨h1, h2, ⟨e1, e2, e3, e4, e5⟩, h4⟩ := h
  have hF : Fr (fun k => k = 77) E1 (mvF 75 (L - 1) (L - 1) E1) := fr_mv
  have hS : SR E1 (mvF 75 (L - 1) (L - 1) E1) := sr_mv sr_rfl
  have g : ∀ g, gI (mvF 75 (L - 1) (L - 1) E1) g 75 = gI E1 g 75 := fun g => fr_gI hF (by decide) g
  refine ⟨qf_tr h1 (fr_Qq hF (fun k hk => by unfold Qq; omega) hS), (g _).trans h2, ⟨fun i hi => ⟨?_, ?_⟩, (g _).trans e2, (g _).trans e3, (g _).trans e4, (g _).trans e5⟩, (g _).trans h4⟩
  · have hm := mv_at (E := E1) (p := 75) h7 (L - 1) (Nat.le_refl _) i
    refine hm.trans ?_
    show _ = (if i = 0 then cO c (L - 1) else if i < L then cO c (i - 1) else cO c i)
    by_cases h0 : L - 1 = 0
    · rw [if_pos h0]
      by_cases hi0 : i = 0
      · rw [if_pos hi0, hi0, h0]; exact (e1 0 (by omega)).1
      · rw [if_neg hi0, if_neg (by omega)]; exact (e1 i hi).1
    · rw [if_neg h0, Nat.sub_self]
      by_cases hi0 : i = 0
      · rw [if_pos hi0, if_pos hi0]; exact (e1 _ (by omega)).1
      · rw [if_neg hi0, if_neg hi0]
        by_cases hiL : i < L
        · rw [if_pos hiL, if_pos (by omega)]; exact (e1 _ (by omega)).1
        · rw [if_neg hiL, if_neg (by omega)]; exact (e1 i hi).1
  · rw [fr_gA hF (by decide)]; exact (e1 i hi).2
set_option maxRecDepth 20000 in
theorem c_X11_fair {d b L m n s : Nat} {R : List Int32} {E : HP} (hci : CI E b L m R) (hn : n ≤ 30) (hs : s < L) : ∃ o, (∃ E2, o = (.inl (some (.int (faF E b L m R n s))), E2, 137) ∧ QF b E E2) ∧ Cl yX11_fair mX11_fair (d + 8) 1 6 [.ref 0, .int (nI n), .int (nI s)] E 137 o := by
  obtain ⟨hC, cL, c51, cok, csu, crl, c87, ⟨m1, m6, cmi⟩, cfr⟩ := id hci
  have hb := hC.1
  have l7 : L ≤ 7 := cok.2.1
  have q83 : Qq b 83 := Or.inr (Or.inr (Or.inr (Or.inr rfl)))
  have hQ0 : QF b E (rFill 82 0 7 E) := fr_Qq (P := fun k => k = 83) (fr_fill rfl fr_rfl) (fun k hk => by rw [hk]; exact q83) (sr_fill sr_rfl)
  obtain ⟨hci0, hv0⟩ := ci_qf hQ0 hci
  have hC0 := hci0.1
  obtain ⟨E1, hE1⟩ : ∃ E1, E1 = plCopy 75 46 (rFill 82 0 7 E) := ⟨_, rfl⟩
  have t1 := tr_copy hci0
  have hcp := c_X4_copy (d := d + 5) (cr_plan75 hC0) (cr_plan46 hC0) hci0.2.2.2.2.2.2.2.2
  have h83 : ∀ s, s < 7 → gA (plCopy 75 46 (rFill 82 0 7 E)) 83 s = 0 := fun s hs => by
    show gA (rCopy (75 + 3) (46 + 3) 7 7 (rCopy (75 + 1) (46 + 1) 7 7 (rFill 82 0 7 E))) 83 s = 0
    rw [fr_gA (P := fun k => k = 79) (fr_copy rfl fr_rfl) (by decide), fr_gA (P := fun k => k = 77) (fr_copy rfl fr_rfl) (by decide)]
    exact (fill_at (h := 82)).trans (if_pos hs)
  rw [← hE1] at t1 hcp h83
  have hcf : cfgP (rFill 82 0 7 E) 46 = cfgP E 46 := by
    have hF : Fr (fun k => k = 83) E (rFill 82 0 7 E) := fr_fill rfl fr_rfl
    unfold cfgP
    rw [fr_gI hF (by decide), fr_gI hF (by decide), fr_gI hF (by decide), fr_gI hF (by decide), fr_gA hF (by decide), fr_gA hF (by decide)]
  rw [hcf, show gI (rFill 82 0 7 E) 519 46 = gI E 519 46 from gI_rFill] at t1
  have t1 : TR E E1 b L (cfgP E 46) (gI E 519 46) := ⟨qf_tr hQ0 t1.1, t1.2⟩
  have hC1 := cr_kr t1.1.2 hC
  have hful : cful L (cfgP E 46) := ⟨cok, csu⟩
  have hfs := c_X2_forgetSums (d := d + 6) (cr_258_80 hC) (cr_row82 hC)
  refine Cx.of (by decide) rfl (fun q => by cases q) rfl rfl (Nat.le_of_ble_eq_true rfl) ?_
  show Sx _ _ _ _ _ 0 [some (.ref 0), some (.int (nI n)), some (.int (nI s)), none] [] _ _
  have loop := sxUp (S := fun k9 E2 => Sx mX11_fair (d + 8) 1 6 (fun o => ∃ E2, o = (.inl (some (.int (faF E b L m R n s))), E2, 137) ∧ QF b E E2) 47 [some (.ref 0), some (.int (nI n)), some (.int (nI s)), some (.int (nI k9))] [] E2 137) (Inv := fun k9 E2 => TR E E2 b L (cRots L (cfgP E 46) k9) (gI E 519 46) ∧ (∀ s, s < 7 → gA E2 83 s = faF E b L m R k9 s)) (a := 0) (l := n) (by omega) ?_ ?_
  refine Sx.up (fun _ kk => r_iload_n 1 dX11_fair_0 rfl rfl kk) ?_
  refine Sx.up (fun _ kk => r_iconst (-1) 2 dX11_fair_1 rfl (by decide) kk) ?_
  refine Sx.up (fun _ kk => r_icmp_eq 5 17 dX11_fair_2 rfl (by decide) (fun h2 => absurd h2 (fun z => absurd (show nI s < 0 by rw [z]; decide) (nI_pos (by omega)))) (fun _ => kk)) ?_
  refine Sx.up (fun _ kk => r_aload_n 6 dX11_fair_5 rfl rfl kk) ?_
  refine Sx.up (fun _ kk => r_iload_n 7 dX11_fair_6 rfl rfl kk) ?_
  refine Sx.up (fun _ kk => r_aload_n 8 dX11_fair_7 rfl rfl kk) ?_
  refine Sx.up (fun _ kk => r_getR 11 dX11_fair_8 rfl f11_28 rfl (by first | with_reducible assumption | with_reducible exact cr_bs hC | rfl) (by first | with_reducible assumption | with_reducible exact cr_bn hC | exact Nat.le_of_ble_eq_true rfl) (cr_told hC) kk) ?_
  refine Sx.up (fun _ kk => r_getIV (nI L) 14 dX11_fair_11 rfl f11_101 rfl (by first | with_reducible assumption | with_reducible exact cr_bs hC | rfl) (by first | with_reducible assumption | with_reducible exact cr_bn hC | exact Nat.le_of_ble_eq_true rfl) (cL) kk) ?_
  refine Sx.up (fun _ kk => r_callV (M := mX11_fair) (pc := 14) 17 dX11_fair_14 rfl k11_192 (c_X11_checkNumber (inB_of hs (by omega))) rfl rfl (by first | with_reducible assumption | with_reducible exact cr_bs hC | rfl) (by decide) rfl (by first | with_reducible assumption | with_reducible exact cr_bn hC | exact Nat.le_of_ble_eq_true rfl) (Nat.le_of_ble_eq_true rfl) kk) ?_
  refine Sx.up (fun _ kk => r_aload_n 18 dX11_fair_17 rfl rfl kk) ?_
  refine Sx.up (fun _ kk => r_iload_n 19 dX11_fair_18 rfl rfl kk) ?_
  refine Sx.up (fun _ kk => r_bipush (30) 21 dX11_fair_19 rfl (by decide) kk) ?_
  refine Sx.up (fun _ kk => r_callV (M := mX11_fair) (pc := 21) 24 dX11_fair_21 rfl k11_256 (c_X11_checkBound (inC_of (L := 30) hn (by omega))) rfl rfl (by first | with_reducible assumption | with_reducible exact cr_bs hC | rfl) (by decide) rfl (by first | with_reducible assumption | with_reducible exact cr_bn hC | exact Nat.le_of_ble_eq_true rfl) (Nat.le_of_ble_eq_true rfl) kk) ?_
  refine Sx.up (fun _ kk => r_aload_n 25 dX11_fair_24 rfl rfl kk) ?_
  refine Sx.up (fun _ kk => r_getR 28 dX11_fair_25 rfl f11_76 rfl (by first | with_reducible assumption | with_reducible exact cr_bs hC | rfl) (by first | with_reducible assumption | with_reducible exact cr_bn hC | exact Nat.le_of_ble_eq_true rfl) (cr_1420_0 hC) kk) ?_
  refine Sx.up (fun _ kk => r_callV (M := mX11_fair) (pc := 28) 31 dX11_fair_28 rfl k11_308 hfs rfl rfl (by first | with_reducible assumption | with_reducible exact cr_bs hC | rfl) (by decide) rfl (by first | with_reducible assumption | with_reducible exact cr_bn hC | exact Nat.le_of_ble_eq_true rfl) (Nat.le_of_ble_eq_true rfl) kk) ?_
  refine Sx.up (fun _ kk => r_aload_n 32 dX11_fair_31 rfl rfl kk) ?_
  refine Sx.up (fun _ kk => r_getR 35 dX11_fair_32 rfl f11_67 rfl (by first | with_reducible assumption | with_reducible exact cr_bs hC | rfl) (by first | with_reducible assumption | with_reducible exact cr_bn hC | exact Nat.le_of_ble_eq_true rfl) (cr_1419_0 hC0) kk) ?_
  refine Sx.up (fun _ kk => r_aload_n 36 dX11_fair_35 rfl rfl kk) ?_
  refine Sx.up (fun _ kk => r_getR 39 dX11_fair_36 rfl f11_47 rfl (by first | with_reducible assumption | with_reducible exact cr_bs hC | rfl) (by first | with_reducible assumption | with_reducible exact cr_bn hC | exact Nat.le_of_ble_eq_true rfl) (cr_1414_0 hC0) kk) ?_
  refine Sx.up (fun _ kk => r_getR 42 dX11_fair_39 rfl f11_116 rfl (by first | with_reducible assumption | with_reducible exact cr_bs hC | rfl) (by first | with_reducible assumption | with_reducible exact cr_bn hC | exact Nat.le_of_ble_eq_true rfl) (cr_1152_45 hC0) kk) ?_
  refine Sx.up (fun _ kk => r_callV (M := mX11_fair) (pc := 42) 45 dX11_fair_42 rfl k11_272 hcp rfl rfl (by first | with_reducible assumption | with_reducible exact cr_bs hC | rfl) (by decide) rfl (by first | with_reducible assumption | with_reducible exact cr_bn hC | exact Nat.le_of_ble_eq_true rfl) (Nat.le_of_ble_eq_true rfl) kk) ?_
  refine Sx.up (fun _ kk => r_iconst (0) 46 dX11_fair_45 rfl (by decide) kk) ?_
  refine Sx.up (fun _ kk => r_istore_n 47 dX11_fair_46 rfl (by decide) rfl kk) ?_
  exact loop E1 ⟨t1, h83⟩
  · intro E2 ⟨t2, hA⟩
    have hci2 := ci_qf1 t2.1 hci
    have hC2 := hci2.1
    have hat := c_X6_at (d := d + 7) (i := nI s) (cr_row82 hC2)
    rw [rAt_nI (by omega) (by omega), show gA E2 (82 + 1) s = faF E b L m R n s from hA s (by omega)] at hat
    refine Sx.up (fun _ kk => r_iload_n 48 dX11_fair_47 rfl rfl kk) ?_
    refine Sx.up (fun _ kk => r_iload_n 49 dX11_fair_48 rfl rfl kk) ?_
    refine Sx.up (fun _ kk => r_icmp_ge 52 77 dX11_fair_49 rfl (by decide) (fun _ => kk) (fun h49 => absurd (nI_le (Nat.le_refl _) (by omega)) h49)) ?_
    refine Sx.up (fun _ kk => r_iload_n 78 dX11_fair_77 rfl rfl kk) ?_
    refine Sx.up (fun _ kk => r_iconst (-1) 79 dX11_fair_78 rfl (by decide) kk) ?_
    refine Sx.up (fun _ kk => r_icmp_ne 82 89 dX11_fair_79 rfl (by decide) (fun _ => kk) (fun h79 => absurd h79 (fun z => absurd (show nI s < 0 by rw [z]; decide) (nI_pos (by omega))))) ?_
    refine Sx.up (fun _ kk => r_aload_n 90 dX11_fair_89 rfl rfl kk) ?_
    refine Sx.up (fun _ kk => r_getR 93 dX11_fair_90 rfl f11_76 rfl (by first | with_reducible assumption | with_reducible exact cr_bs hC2 | rfl) (by first | with_reducible assumption | with_reducible exact cr_bn hC2 | exact Nat.le_of_ble_eq_true rfl) (cr_1420_0 hC2) kk) ?_
    refine Sx.up (fun _ kk => r_getR 96 dX11_fair_93 rfl f11_320 rfl (by first | with_reducible assumption | with_reducible exact cr_bs hC2 | rfl) (by first | with_reducible assumption | with_reducible exact cr_bn hC2 | exact Nat.le_of_ble_eq_true rfl) (cr_258_80 hC2) kk) ?_
    refine Sx.up (fun _ kk => r_iload_n 97 dX11_fair_96 rfl rfl kk) ?_
    refine Sx.up (fun _ kk => r_callV (M := mX11_fair) (pc := 97) 100 dX11_fair_97 rfl k11_152 hat rfl rfl (by first | with_reducible assumption | with_reducible exact cr_bs hC2 | rfl) (by decide) rfl (by first | with_reducible assumption | with_reducible exact cr_bn hC2 | exact Nat.le_of_ble_eq_true rfl) (Nat.le_of_ble_eq_true rfl) kk) ?_
    refine ⟨_, ?_, r_iret dX11_fair_100 rfl rfl rfl⟩
    refine ⟨E2, ?_, t2.1⟩
    rfl
  · intro k9 E2 hk0 hk9 ⟨t2, hA⟩ hq
    have hC2 := cr_kr t2.1.2 hC
    have hfu := ful_rots hful k9
    have ov : NVis E2 b 75 (vRot E b L R k9) := tr_nvis t2 hci hfu.1
    have cmi2 : gI E2 7 b = nI m := (fr_gI t2.1.1 (qq_no hb (by omega)) _).trans cmi
    obtain ⟨E3, ⟨f1, f2, f3, f4⟩, hcl⟩ := c_X11_passTrial (d := d + 1) hC2 ov hfu.1.2.2.2.2.1 m6 cmi2
    have t3 := tr_pass hb t2 f1 f2
    have hC3 := cr_kr t3.1.2 hC
    have hA3 : ∀ s, s < 7 → gA E3 83 s = faF E b L m R k9 s := fun s hs => by rw [fr_gA f1 (by unfold Pp; omega)]; exact hA s hs
    obtain ⟨E4, ⟨g1, g2, g3⟩, had⟩ := c_X2_addToSums (d := d + 5) f4 hfu.1.2.2.2.1 (fun i hi => by obtain ⟨s, hs, e⟩ := hfu.1.2.2.1 i hi; exact ⟨s, by omega, e⟩) hA3
    have t4 : TR E E4 b L (cRots L (cfgP E 46) k9) (gI E 519 46) := by
      obtain ⟨h1, h2, ⟨e1, e2, e3, e4, e5⟩, h4⟩ := t3
      have g : ∀ g, gI E4 g 75 = gI E3 g 75 := fun g => fr_gI g1 (by decide) g
      refine ⟨qf_tr h1 (fr_Qq g1 (fun k hk => by rw [hk]; exact q83) g2), (g _).trans h2, ⟨fun i hi => ?_, (g _).trans e2, (g _).trans e3, (g _).trans e4, (g _).trans e5⟩, (g _).trans h4⟩
      rw [fr_gA g1 (show ¬ 75 + 2 = 83 by decide), fr_gA g1 (show ¬ 75 + 4 = 83 by decide)]
      exact e1 i hi
    have hC4 := cr_kr t4.1.2 hC
    have hmv := c_X4_moveToEdge (d := d + 5) (cr_plan75 hC4) t4.2.1 l7
    have t5 := tr_rot l7 t4
    have hgo := hq _ ⟨t5, fun s hs => ?_⟩
    refine Sx.up (fun _ kk => r_iload_n 48 dX11_fair_47 rfl rfl kk) ?_
    refine Sx.up (fun _ kk => r_iload_n 49 dX11_fair_48 rfl rfl kk) ?_
    refine Sx.up (fun _ kk => r_icmp_ge 52 77 dX11_fair_49 rfl (by decide) (fun h49 => absurd h49 (nI_ge hk9 (by omega))) (fun _ => kk)) ?_
    refine Sx.up (fun _ kk => r_aload_n 53 dX11_fair_52 rfl rfl kk) ?_
    refine Sx.up (fun _ kk => r_callV (M := mX11_fair) (pc := 53) 56 dX11_fair_53 rfl k11_287 hcl rfl rfl (by first | with_reducible assumption | with_reducible exact cr_bs hC2 | rfl) (by decide) rfl (by first | with_reducible assumption | with_reducible exact cr_bn hC2 | exact Nat.le_of_ble_eq_true rfl) (Nat.le_of_ble_eq_true rfl) kk) ?_
    refine Sx.up (fun _ kk => r_pop 57 dX11_fair_56 rfl rfl kk) ?_
    refine Sx.up (fun _ kk => r_aload_n 58 dX11_fair_57 rfl rfl kk) ?_
    refine Sx.up (fun _ kk => r_getR 61 dX11_fair_58 rfl f11_76 rfl (by first | with_reducible assumption | with_reducible exact cr_bs hC2 | rfl) (by first | with_reducible assumption | with_reducible exact cr_bn hC2 | exact Nat.le_of_ble_eq_true rfl) (cr_1420_0 hC3) kk) ?_
    refine Sx.up (fun _ kk => r_callV (M := mX11_fair) (pc := 61) 64 dX11_fair_61 rfl k11_311 had rfl rfl (by first | with_reducible assumption | with_reducible exact cr_bs hC2 | rfl) (by decide) rfl (by first | with_reducible assumption | with_reducible exact cr_bn hC2 | exact Nat.le_of_ble_eq_true rfl) (Nat.le_of_ble_eq_true rfl) kk) ?_
    refine Sx.up (fun _ kk => r_aload_n 65 dX11_fair_64 rfl rfl kk) ?_
    refine Sx.up (fun _ kk => r_getR 68 dX11_fair_65 rfl f11_67 rfl (by first | with_reducible assumption | with_reducible exact cr_bs hC2 | rfl) (by first | with_reducible assumption | with_reducible exact cr_bn hC2 | exact Nat.le_of_ble_eq_true rfl) (cr_1419_0 hC4) kk) ?_
    refine Sx.up (fun _ kk => r_callV (M := mX11_fair) (pc := 68) 71 dX11_fair_68 rfl k11_314 hmv rfl rfl (by first | with_reducible assumption | with_reducible exact cr_bs hC2 | rfl) (by decide) rfl (by first | with_reducible assumption | with_reducible exact cr_bn hC2 | exact Nat.le_of_ble_eq_true rfl) (Nat.le_of_ble_eq_true rfl) kk) ?_
    refine Sx.up (fun _ kk => r_iinc (1) 74 dX11_fair_71 rfl rfl (by decide) (by decide) rfl kk) ?_
    refine Sx.up (fun _ kk => r_goto 47 dX11_fair_74 (by decide) kk) ?_
    rw [nI_pp]
    exact hgo
    · have hF : Fr (fun k => k = 77) E4 (mvF 75 (L - 1) (L - 1) E4) := fr_mv
      rw [fr_gA hF (by decide)]
      exact g3 s hs
set_option maxRecDepth 20000 in
theorem c_X11_fairA {d b L m n s : Nat} {R : List Int32} {E : HP} (hci : CI E b L m R) (hn : n ≤ 30) : ∃ o, (∃ E2, o = (.inl (some (.int ((apaF (canS2 (slC E b)) (faF E b L m R n) L).1 - (apaF (canS2 (slC E b)) (faF E b L m R n) L).2))), E2, 137) ∧ QF b E E2) ∧ Cl yX11_fair mX11_fair (d + 8) 1 6 [.ref 0, .int (nI n), .int (-1)] E 137 o := by
  obtain ⟨hC, cL, c51, cok, csu, crl, c87, ⟨m1, m6, cmi⟩, cfr⟩ := id hci
  have hb := hC.1
  have l7 : L ≤ 7 := cok.2.1
  have q83 : Qq b 83 := Or.inr (Or.inr (Or.inr (Or.inr rfl)))
  have hQ0 : QF b E (rFill 82 0 7 E) := fr_Qq (P := fun k => k = 83) (fr_fill rfl fr_rfl) (fun k hk => by rw [hk]; exact q83) (sr_fill sr_rfl)
  obtain ⟨hci0, hv0⟩ := ci_qf hQ0 hci
  have hC0 := hci0.1
  obtain ⟨E1, hE1⟩ : ∃ E1, E1 = plCopy 75 46 (rFill 82 0 7 E) := ⟨_, rfl⟩
  have t1 := tr_copy hci0
  have hcp := c_X4_copy (d := d + 5) (cr_plan75 hC0) (cr_plan46 hC0) hci0.2.2.2.2.2.2.2.2
  have h83 : ∀ s, s < 7 → gA (plCopy 75 46 (rFill 82 0 7 E)) 83 s = 0 := fun s hs => by
    show gA (rCopy (75 + 3) (46 + 3) 7 7 (rCopy (75 + 1) (46 + 1) 7 7 (rFill 82 0 7 E))) 83 s = 0
    rw [fr_gA (P := fun k => k = 79) (fr_copy rfl fr_rfl) (by decide), fr_gA (P := fun k => k = 77) (fr_copy rfl fr_rfl) (by decide)]
    exact (fill_at (h := 82)).trans (if_pos hs)
  rw [← hE1] at t1 hcp h83
  have hcf : cfgP (rFill 82 0 7 E) 46 = cfgP E 46 := by
    have hF : Fr (fun k => k = 83) E (rFill 82 0 7 E) := fr_fill rfl fr_rfl
    unfold cfgP
    rw [fr_gI hF (by decide), fr_gI hF (by decide), fr_gI hF (by decide), fr_gI hF (by decide), fr_gA hF (by decide), fr_gA hF (by decide)]
  rw [hcf, show gI (rFill 82 0 7 E) 519 46 = gI E 519 46 from gI_rFill] at t1
  have t1 : TR E E1 b L (cfgP E 46) (gI E 519 46) := ⟨qf_tr hQ0 t1.1, t1.2⟩
  have hC1 := cr_kr t1.1.2 hC
  have hful : cful L (cfgP E 46) := ⟨cok, csu⟩
  have hfs := c_X2_forgetSums (d := d + 6) (cr_258_80 hC) (cr_row82 hC)
  refine Cx.of (by decide) rfl (fun q => by cases q) rfl rfl (Nat.le_of_ble_eq_true rfl) ?_
  show Sx _ _ _ _ _ 0 [some (.ref 0), some (.int (nI n)), some (.int (-1)), none] [] _ _
  have loop := sxUp (S := fun k9 E2 => Sx mX11_fair (d + 8) 1 6 (fun o => ∃ E2, o = (.inl (some (.int ((apaF (canS2 (slC E b)) (faF E b L m R n) L).1 - (apaF (canS2 (slC E b)) (faF E b L m R n) L).2))), E2, 137) ∧ QF b E E2) 47 [some (.ref 0), some (.int (nI n)), some (.int (-1)), some (.int (nI k9))] [] E2 137) (Inv := fun k9 E2 => TR E E2 b L (cRots L (cfgP E 46) k9) (gI E 519 46) ∧ (∀ s, s < 7 → gA E2 83 s = faF E b L m R k9 s)) (a := 0) (l := n) (by omega) ?_ ?_
  refine Sx.up (fun _ kk => r_iload_n 1 dX11_fair_0 rfl rfl kk) ?_
  refine Sx.up (fun _ kk => r_iconst (-1) 2 dX11_fair_1 rfl (by decide) kk) ?_
  refine Sx.up (fun _ kk => r_icmp_eq 5 17 dX11_fair_2 rfl (by decide) (fun _ => kk) (fun h2 => absurd rfl h2)) ?_
  refine Sx.up (fun _ kk => r_aload_n 18 dX11_fair_17 rfl rfl kk) ?_
  refine Sx.up (fun _ kk => r_iload_n 19 dX11_fair_18 rfl rfl kk) ?_
  refine Sx.up (fun _ kk => r_bipush (30) 21 dX11_fair_19 rfl (by decide) kk) ?_
  refine Sx.up (fun _ kk => r_callV (M := mX11_fair) (pc := 21) 24 dX11_fair_21 rfl k11_256 (c_X11_checkBound (inC_of (L := 30) hn (by omega))) rfl rfl (by first | with_reducible assumption | with_reducible exact cr_bs hC | rfl) (by decide) rfl (by first | with_reducible assumption | with_reducible exact cr_bn hC | exact Nat.le_of_ble_eq_true rfl) (Nat.le_of_ble_eq_true rfl) kk) ?_
  refine Sx.up (fun _ kk => r_aload_n 25 dX11_fair_24 rfl rfl kk) ?_
  refine Sx.up (fun _ kk => r_getR 28 dX11_fair_25 rfl f11_76 rfl (by first | with_reducible assumption | with_reducible exact cr_bs hC | rfl) (by first | with_reducible assumption | with_reducible exact cr_bn hC | exact Nat.le_of_ble_eq_true rfl) (cr_1420_0 hC) kk) ?_
  refine Sx.up (fun _ kk => r_callV (M := mX11_fair) (pc := 28) 31 dX11_fair_28 rfl k11_308 hfs rfl rfl (by first | with_reducible assumption | with_reducible exact cr_bs hC | rfl) (by decide) rfl (by first | with_reducible assumption | with_reducible exact cr_bn hC | exact Nat.le_of_ble_eq_true rfl) (Nat.le_of_ble_eq_true rfl) kk) ?_
  refine Sx.up (fun _ kk => r_aload_n 32 dX11_fair_31 rfl rfl kk) ?_
  refine Sx.up (fun _ kk => r_getR 35 dX11_fair_32 rfl f11_67 rfl (by first | with_reducible assumption | with_reducible exact cr_bs hC | rfl) (by first | with_reducible assumption | with_reducible exact cr_bn hC | exact Nat.le_of_ble_eq_true rfl) (cr_1419_0 hC0) kk) ?_
  refine Sx.up (fun _ kk => r_aload_n 36 dX11_fair_35 rfl rfl kk) ?_
  refine Sx.up (fun _ kk => r_getR 39 dX11_fair_36 rfl f11_47 rfl (by first | with_reducible assumption | with_reducible exact cr_bs hC | rfl) (by first | with_reducible assumption | with_reducible exact cr_bn hC | exact Nat.le_of_ble_eq_true rfl) (cr_1414_0 hC0) kk) ?_
  refine Sx.up (fun _ kk => r_getR 42 dX11_fair_39 rfl f11_116 rfl (by first | with_reducible assumption | with_reducible exact cr_bs hC | rfl) (by first | with_reducible assumption | with_reducible exact cr_bn hC | exact Nat.le_of_ble_eq_true rfl) (cr_1152_45 hC0) kk) ?_
  refine Sx.up (fun _ kk => r_callV (M := mX11_fair) (pc := 42) 45 dX11_fair_42 rfl k11_272 hcp rfl rfl (by first | with_reducible assumption | with_reducible exact cr_bs hC | rfl) (by decide) rfl (by first | with_reducible assumption | with_reducible exact cr_bn hC | exact Nat.le_of_ble_eq_true rfl) (Nat.le_of_ble_eq_true rfl) kk) ?_
  refine Sx.up (fun _ kk => r_iconst (0) 46 dX11_fair_45 rfl (by decide) kk) ?_
  refine Sx.up (fun _ kk => r_istore_n 47 dX11_fair_46 rfl (by decide) rfl kk) ?_
  exact loop E1 ⟨t1, h83⟩
  · intro E2 ⟨t2, hA⟩
    have hci2 := ci_qf1 t2.1 hci
    have hC2 := hci2.1
    have hap := c_X11_apart (d := d + 5) hci2 hA
    have esl : slC E2 b = slC E b := by
      funext k s
      unfold slC
      by_cases hs : s < 7
      · rw [if_pos hs, if_pos hs, fr_gI t2.1.1 (qq_no hb (by omega))]
      · rw [if_neg hs, if_neg hs]
    rw [esl] at hap
    refine Sx.up (fun _ kk => r_iload_n 48 dX11_fair_47 rfl rfl kk) ?_
    refine Sx.up (fun _ kk => r_iload_n 49 dX11_fair_48 rfl rfl kk) ?_
    refine Sx.up (fun _ kk => r_icmp_ge 52 77 dX11_fair_49 rfl (by decide) (fun _ => kk) (fun h49 => absurd (nI_le (Nat.le_refl _) (by omega)) h49)) ?_
    refine Sx.up (fun _ kk => r_iload_n 78 dX11_fair_77 rfl rfl kk) ?_
    refine Sx.up (fun _ kk => r_iconst (-1) 79 dX11_fair_78 rfl (by decide) kk) ?_
    refine Sx.up (fun _ kk => r_icmp_ne 82 89 dX11_fair_79 rfl (by decide) (fun h79 => absurd h79 (fun z => z rfl)) (fun _ => kk)) ?_
    refine Sx.up (fun _ kk => r_aload_n 83 dX11_fair_82 rfl rfl kk) ?_
    refine Sx.up (fun _ kk => r_callV (M := mX11_fair) (pc := 83) 86 dX11_fair_83 rfl k11_317 hap rfl rfl (by first | with_reducible assumption | with_reducible exact cr_bs hC2 | rfl) (by decide) rfl (by first | with_reducible assumption | with_reducible exact cr_bn hC2 | exact Nat.le_of_ble_eq_true rfl) (Nat.le_of_ble_eq_true rfl) kk) ?_
    refine Sx.up (fun _ kk => r_goto 100 dX11_fair_86 (by decide) kk) ?_
    refine ⟨_, ?_, r_iret dX11_fair_100 rfl rfl rfl⟩
    refine ⟨E2, ?_, t2.1⟩
    rfl
  · intro k9 E2 hk0 hk9 ⟨t2, hA⟩ hq
    have hC2 := cr_kr t2.1.2 hC
    have hfu := ful_rots hful k9
    have ov : NVis E2 b 75 (vRot E b L R k9) := tr_nvis t2 hci hfu.1
    have cmi2 : gI E2 7 b = nI m := (fr_gI t2.1.1 (qq_no hb (by omega)) _).trans cmi
    obtain ⟨E3, ⟨f1, f2, f3, f4⟩, hcl⟩ := c_X11_passTrial (d := d + 1) hC2 ov hfu.1.2.2.2.2.1 m6 cmi2
    have t3 := tr_pass hb t2 f1 f2
    have hC3 := cr_kr t3.1.2 hC
    have hA3 : ∀ s, s < 7 → gA E3 83 s = faF E b L m R k9 s := fun s hs => by rw [fr_gA f1 (by unfold Pp; omega)]; exact hA s hs
    obtain ⟨E4, ⟨g1, g2, g3⟩, had⟩ := c_X2_addToSums (d := d + 5) f4 hfu.1.2.2.2.1 (fun i hi => by obtain ⟨s, hs, e⟩ := hfu.1.2.2.1 i hi; exact ⟨s, by omega, e⟩) hA3
    have t4 : TR E E4 b L (cRots L (cfgP E 46) k9) (gI E 519 46) := by
      obtain ⟨h1, h2, ⟨e1, e2, e3, e4, e5⟩, h4⟩ := t3
      have g : ∀ g, gI E4 g 75 = gI E3 g 75 := fun g => fr_gI g1 (by decide) g
      refine ⟨qf_tr h1 (fr_Qq g1 (fun k hk => by rw [hk]; exact q83) g2), (g _).trans h2, ⟨fun i hi => ?_, (g _).trans e2, (g _).trans e3, (g _).trans e4, (g _).trans e5⟩, (g _).trans h4⟩
      rw [fr_gA g1 (show ¬ 75 + 2 = 83 by decide), fr_gA g1 (show ¬ 75 + 4 = 83 by decide)]
      exact e1 i hi
    have hC4 := cr_kr t4.1.2 hC
    have hmv := c_X4_moveToEdge (d := d + 5) (cr_plan75 hC4) t4.2.1 l7
    have t5 := tr_rot l7 t4
    have hgo := hq _ ⟨t5, fun s hs => ?_⟩
    refine Sx.up (fun _ kk => r_iload_n 48 dX11_fair_47 rfl rfl kk) ?_
    refine Sx.up (fun _ kk => r_iload_n 49 dX11_fair_48 rfl rfl kk) ?_
    refine Sx.up (fun _ kk => r_icmp_ge 52 77 dX11_fair_49 rfl (by decide) (fun h49 => absurd h49 (nI_ge hk9 (by omega))) (fun _ => kk)) ?_
    refine Sx.up (fun _ kk => r_aload_n 53 dX11_fair_52 rfl rfl kk) ?_
    refine Sx.up (fun _ kk => r_callV (M := mX11_fair) (pc := 53) 56 dX11_fair_53 rfl k11_287 hcl rfl rfl (by first | with_reducible assumption | with_reducible exact cr_bs hC2 | rfl) (by decide) rfl (by first | with_reducible assumption | with_reducible exact cr_bn hC2 | exact Nat.le_of_ble_eq_true rfl) (Nat.le_of_ble_eq_true rfl) kk) ?_
    refine Sx.up (fun _ kk => r_pop 57 dX11_fair_56 rfl rfl kk) ?_
    refine Sx.up (fun _ kk => r_aload_n 58 dX11_fair_57 rfl rfl kk) ?_
    refine Sx.up (fun _ kk => r_getR 61 dX11_fair_58 rfl f11_76 rfl (by first | with_reducible assumption | with_reducible exact cr_bs hC2 | rfl) (by first | with_reducible assumption | with_reducible exact cr_bn hC2 | exact Nat.le_of_ble_eq_true rfl) (cr_1420_0 hC3) kk) ?_
    refine Sx.up (fun _ kk => r_callV (M := mX11_fair) (pc := 61) 64 dX11_fair_61 rfl k11_311 had rfl rfl (by first | with_reducible assumption | with_reducible exact cr_bs hC2 | rfl) (by decide) rfl (by first | with_reducible assumption | with_reducible exact cr_bn hC2 | exact Nat.le_of_ble_eq_true rfl) (Nat.le_of_ble_eq_true rfl) kk) ?_
    refine Sx.up (fun _ kk => r_aload_n 65 dX11_fair_64 rfl rfl kk) ?_
    refine Sx.up (fun _ kk => r_getR 68 dX11_fair_65 rfl f11_67 rfl (by first | with_reducible assumption | with_reducible exact cr_bs hC2 | rfl) (by first | with_reducible assumption | with_reducible exact cr_bn hC2 | exact Nat.le_of_ble_eq_true rfl) (cr_1419_0 hC4) kk) ?_
    refine Sx.up (fun _ kk => r_callV (M := mX11_fair) (pc := 68) 71 dX11_fair_68 rfl k11_314 hmv rfl rfl (by first | with_reducible assumption | with_reducible exact cr_bs hC2 | rfl) (by decide) rfl (by first | with_reducible assumption | with_reducible exact cr_bn hC2 | exact Nat.le_of_ble_eq_true rfl) (Nat.le_of_ble_eq_true rfl) kk) ?_
    refine Sx.up (fun _ kk => r_iinc (1) 74 dX11_fair_71 rfl rfl (by decide) (by decide) rfl kk) ?_
    refine Sx.up (fun _ kk => r_goto 47 dX11_fair_74 (by decide) kk) ?_
    rw [nI_pp]
    exact hgo
    · have hF : Fr (fun k => k = 77) E4 (mvF 75 (L - 1) (L - 1) E4) := fr_mv
      rw [fr_gA hF (by decide)]
      exact g3 s hs
set_option maxRecDepth 20000 in
theorem x_fair1 {d b L m : Nat} {R : List Int32} {E : HP} {x y : Int32} (hci : CI E b L m R) (h1 : ¬ y = -1) (h : ¬ inB y (nI L)) : Cl yX11_fair mX11_fair (d + 8) 1 6 [.ref 0, .int (x), .int (y)] E 137 (.inr nseN, E, 137) := by
  have hC := hci.1
  have cL := hci.2.1
  have l7 : L ≤ 7 := hci.2.2.2.1.2.1
  refine Cl.of (by decide) rfl (fun q => by cases q) rfl rfl (Nat.le_of_ble_eq_true rfl) ?_
  show Sm _ _ _ _ _ 0 [some (.ref 0), some (.int (x)), some (.int (y)), none] [] _ _
  refine r_iload_n 1 dX11_fair_0 rfl rfl ?_
  refine r_iconst (-1) 2 dX11_fair_1 rfl (by decide) ?_
  refine r_icmp_eq 5 17 dX11_fair_2 rfl (by decide) (fun h2 => absurd h2 h1) (fun h2 => ?_)
  refine r_aload_n 6 dX11_fair_5 rfl rfl ?_
  refine r_iload_n 7 dX11_fair_6 rfl rfl ?_
  refine r_aload_n 8 dX11_fair_7 rfl rfl ?_
  refine r_getR 11 dX11_fair_8 rfl f11_28 rfl (by first | with_reducible assumption | with_reducible exact cr_bs hC | rfl) (by first | with_reducible assumption | with_reducible exact cr_bn hC | exact Nat.le_of_ble_eq_true rfl) (cr_told hC) ?_
  refine r_getIV (nI L) 14 dX11_fair_11 rfl f11_101 rfl (by first | with_reducible assumption | with_reducible exact cr_bs hC | rfl) (by first | with_reducible assumption | with_reducible exact cr_bn hC | exact Nat.le_of_ble_eq_true rfl) (cL) ?_
  exact r_callVX (M := mX11_fair) (pc := 14) dX11_fair_14 k11_192 (x_checkNumber h) rfl rfl (by first | with_reducible assumption | with_reducible exact cr_bs hC | rfl) (by decide) rfl (by first | with_reducible assumption | with_reducible exact cr_bn hC | exact Nat.le_of_ble_eq_true rfl) (Nat.le_of_ble_eq_true rfl) rfl rfl (rfl)
set_option maxRecDepth 20000 in
theorem x_fair2 {d b L m s : Nat} {R : List Int32} {E : HP} {x : Int32} (hci : CI E b L m R) (hs : s < L) (h : ¬ inC x 30) : Cl yX11_fair mX11_fair (d + 8) 1 6 [.ref 0, .int (x), .int (nI s)] E 137 (.inr iaeN, E, 137) := by
  have hC := hci.1
  have cL := hci.2.1
  have l7 : L ≤ 7 := hci.2.2.2.1.2.1
  refine Cl.of (by decide) rfl (fun q => by cases q) rfl rfl (Nat.le_of_ble_eq_true rfl) ?_
  show Sm _ _ _ _ _ 0 [some (.ref 0), some (.int (x)), some (.int (nI s)), none] [] _ _
  refine r_iload_n 1 dX11_fair_0 rfl rfl ?_
  refine r_iconst (-1) 2 dX11_fair_1 rfl (by decide) ?_
  refine r_icmp_eq 5 17 dX11_fair_2 rfl (by decide) (fun h2 => absurd h2 (fun z => absurd (show nI s < 0 by rw [z]; decide) (nI_pos (by omega)))) (fun h2 => ?_)
  refine r_aload_n 6 dX11_fair_5 rfl rfl ?_
  refine r_iload_n 7 dX11_fair_6 rfl rfl ?_
  refine r_aload_n 8 dX11_fair_7 rfl rfl ?_
  refine r_getR 11 dX11_fair_8 rfl f11_28 rfl (by first | with_reducible assumption | with_reducible exact cr_bs hC | rfl) (by first | with_reducible assumption | with_reducible exact cr_bn hC | exact Nat.le_of_ble_eq_true rfl) (cr_told hC) ?_
  refine r_getIV (nI L) 14 dX11_fair_11 rfl f11_101 rfl (by first | with_reducible assumption | with_reducible exact cr_bs hC | rfl) (by first | with_reducible assumption | with_reducible exact cr_bn hC | exact Nat.le_of_ble_eq_true rfl) (cL) ?_
  refine r_callV (M := mX11_fair) (pc := 14) 17 dX11_fair_14 rfl k11_192 (c_X11_checkNumber (inB_of hs (by omega))) rfl rfl (by first | with_reducible assumption | with_reducible exact cr_bs hC | rfl) (by decide) rfl (by first | with_reducible assumption | with_reducible exact cr_bn hC | exact Nat.le_of_ble_eq_true rfl) (Nat.le_of_ble_eq_true rfl) ?_
  refine r_aload_n 18 dX11_fair_17 rfl rfl ?_
  refine r_iload_n 19 dX11_fair_18 rfl rfl ?_
  refine r_bipush (30) 21 dX11_fair_19 rfl (by decide) ?_
  exact r_callVX (M := mX11_fair) (pc := 21) dX11_fair_21 k11_256 (x_checkBound h) rfl rfl (by first | with_reducible assumption | with_reducible exact cr_bs hC | rfl) (by decide) rfl (by first | with_reducible assumption | with_reducible exact cr_bn hC | exact Nat.le_of_ble_eq_true rfl) (Nat.le_of_ble_eq_true rfl) rfl rfl (rfl)
set_option maxRecDepth 20000 in
theorem x_fair3 {d b L m : Nat} {R : List Int32} {E : HP} {x : Int32} (hci : CI E b L m R) (h : ¬ inC x 30) : Cl yX11_fair mX11_fair (d + 8) 1 6 [.ref 0, .int (x), .int (-1)] E 137 (.inr iaeN, E, 137) := by
  have hC := hci.1
  have cL := hci.2.1
  have l7 : L ≤ 7 := hci.2.2.2.1.2.1
  refine Cl.of (by decide) rfl (fun q => by cases q) rfl rfl (Nat.le_of_ble_eq_true rfl) ?_
  show Sm _ _ _ _ _ 0 [some (.ref 0), some (.int (x)), some (.int (-1)), none] [] _ _
  refine r_iload_n 1 dX11_fair_0 rfl rfl ?_
  refine r_iconst (-1) 2 dX11_fair_1 rfl (by decide) ?_
  refine r_icmp_eq 5 17 dX11_fair_2 rfl (by decide) (fun h2 => ?_) (fun h2 => absurd rfl h2)
  refine r_aload_n 18 dX11_fair_17 rfl rfl ?_
  refine r_iload_n 19 dX11_fair_18 rfl rfl ?_
  refine r_bipush (30) 21 dX11_fair_19 rfl (by decide) ?_
  exact r_callVX (M := mX11_fair) (pc := 21) dX11_fair_21 k11_256 (x_checkBound h) rfl rfl (by first | with_reducible assumption | with_reducible exact cr_bs hC | rfl) (by decide) rfl (by first | with_reducible assumption | with_reducible exact cr_bn hC | exact Nat.le_of_ble_eq_true rfl) (Nat.le_of_ble_eq_true rfl) rfl rfl (rfl)
