/-! The class: fits -/
/-- what has been seen: who, when, how -/
def SeenC (E : HP) (L S : Nat) (sw sq : Nat → Nat) (sd : Nat → Int32) : Prop := gI E 386 54 = nI S ∧ S ≤ 8 ∧ ∀ i, i < S → sw i < L ∧ sq i ≤ 600 ∧ gA E 56 (3 * i) = nI (sw i) ∧ gA E 56 (3 * i + 1) = nI (sq i) ∧ gA E 56 (3 * i + 2) = sd i
/-- the first k of what has been seen is as it would be -/
def fitV (V : NV) (m : Nat) (sw sq : Nat → Nat) (sd : Nat → Int32) (k : Nat) : Prop := ∀ i, i < k → byS V (nightF V (min (sq i) m)) 0 (sw i) = sd i
theorem seen_qf {b L S : Nat} {sw sq : Nat → Nat} {sd : Nat → Int32} {E E2 : HP} (hb : b = 3 ∨ b = 22) (h : QF b E E2) (hs : SeenC E L S sw sq sd) : SeenC E2 L S sw sq sd := by
  unfold SeenC at *
  rw [fr_gI h.1 (qq_no hb (by omega)), fr_gA h.1 (qq_no hb (by omega))]
  exact hs
theorem pi_nI {E : HP} {i j : Nat} (hi : i < 8) (hj : j < 3) : piAt E 54 24 (nI i) (nI j) = gA E 56 (3 * i + j) := by
  have e : nI i * 3 + nI j = nI (3 * i + j) := by
    have : ∀ i, i < 8 → ∀ j, j < 3 → nI i * 3 + nI j = nI (3 * i + j) := by decide +kernel
    exact this i hi j hj
  show rAt E 55 24 (nI i * 3 + nI j) = _
  rw [e, rAt_nI (by omega) (by omega)]
set_option maxRecDepth 20000 in
theorem c_X11_trialFits {d b L m S : Nat} {R : List Int32} {E : HP} {sw sq : Nat → Nat} {sd : Nat → Int32} {E1 : HP} {c : Cfg} {fr : Int32} (hci : CI E b L m R) (t1 : TR E E1 b L c fr) (hs : SeenC E L S sw sq sd) (hc : S = 0 ∨ cful L c) : ∃ o, (∃ E2, o = (.inl (some (.int (b01 (fitV (vMk L (slC E b) (gI E 8 b) R c fr) m sw sq sd S)))), E2, 137) ∧ TR E E2 b L c fr) ∧ Cl yX11_trialFits mX11_trialFits (d + 7) 0 0 [.ref 0] E1 137 o := by
  obtain ⟨hC, cL, c51, cok, csu, crl, c87, ⟨m1, m6, cmi⟩, cfr⟩ := id hci
  have hb := hC.1
  have l7 : L ≤ 7 := cok.2.1
  have hS8 := hs.2.1
  refine Cx.of (by decide) rfl (fun q => by cases q) rfl rfl (Nat.le_of_ble_eq_true rfl) ?_
  show Sx _ _ _ _ _ 0 [some (.ref 0), none] [] _ _
  have loop := sxUp (S := fun k9 E2 => Sx mX11_trialFits (d + 7) 0 0 (fun o => ∃ E2, o = (.inl (some (.int (b01 (fitV (vMk L (slC E b) (gI E 8 b) R c fr) m sw sq sd S)))), E2, 137) ∧ TR E E2 b L c fr) 2 [some (.ref 0), some (.int (nI k9))] [] E2 137) (Inv := fun k9 E2 => TR E E2 b L c fr ∧ fitV (vMk L (slC E b) (gI E 8 b) R c fr) m sw sq sd k9) (a := 0) (l := S) (by omega) ?_ ?_
  refine Sx.up (fun _ kk => r_iconst (0) 1 dX11_trialFits_0 rfl (by decide) kk) ?_
  refine Sx.up (fun _ kk => r_istore_n 2 dX11_trialFits_1 rfl (by decide) rfl kk) ?_
  exact loop E1 ⟨t1, fun i hi => absurd hi (Nat.not_lt_zero i)⟩
  · intro E2 ⟨t2, hf⟩
    have hC2 := cr_kr t2.1.2 hC
    have h54 := (seen_qf hb t2.1 hs).1
    refine Sx.up (fun _ kk => r_iload_n 3 dX11_trialFits_2 rfl rfl kk) ?_
    refine Sx.up (fun _ kk => r_aload_n 4 dX11_trialFits_3 rfl rfl kk) ?_
    refine Sx.up (fun _ kk => r_getR 7 dX11_trialFits_4 rfl f11_47 rfl (by first | with_reducible assumption | with_reducible exact cr_bs hC2 | rfl) (by first | with_reducible assumption | with_reducible exact cr_bn hC2 | exact Nat.le_of_ble_eq_true rfl) (cr_1414_0 hC2) kk) ?_
    refine Sx.up (fun _ kk => r_getR 10 dX11_trialFits_7 rfl f11_146 rfl (by first | with_reducible assumption | with_reducible exact cr_bs hC2 | rfl) (by first | with_reducible assumption | with_reducible exact cr_bn hC2 | exact Nat.le_of_ble_eq_true rfl) (cr_1154_45 hC2) kk) ?_
    refine Sx.up (fun _ kk => r_getIV (nI S) 13 dX11_trialFits_10 rfl f11_141 rfl (by first | with_reducible assumption | with_reducible exact cr_bs hC2 | rfl) (by first | with_reducible assumption | with_reducible exact cr_bn hC2 | exact Nat.le_of_ble_eq_true rfl) (h54) kk) ?_
    refine Sx.up (fun _ kk => r_icmp_ge 16 98 dX11_trialFits_13 rfl (by decide) (fun _ => kk) (fun h13 => absurd (nI_le (Nat.le_refl _) (by omega)) h13)) ?_
    refine Sx.up (fun _ kk => r_iconst (1) 99 dX11_trialFits_98 rfl (by decide) kk) ?_
    refine ⟨_, ?_, r_zret dX11_trialFits_99 rfl rfl (by decide) rfl⟩
    refine ⟨E2, ?_, t2⟩
    rw [b01_t hf]
  · intro k9 E2 hk0 hk9 ⟨t2, hf⟩ hq
    have hC2 := cr_kr t2.1.2 hC
    have hs2 := seen_qf hb t2.1 hs
    obtain ⟨h54, hS8, hsn⟩ := hs2
    obtain ⟨w1, w2, w3, w4, w5⟩ := hsn k9 hk9
    have hcf := hc.resolve_left (by omega)
    have ov := tr_nvis t2 hci hcf.1
    have cmi2 : gI E2 7 b = nI m := (fr_gI t2.1.1 (qq_no hb (by omega)) _).trans cmi
    have hmin : (if nI m < nI (sq k9) then nI m else nI (sq k9)) = nI (min (sq k9) m) := by
      by_cases h9 : m < sq k9
      · rw [if_pos (nI_lt h9 (by omega)), Nat.min_eq_right (by omega)]
      · rw [if_neg (nI_nlt (by omega) (by omega)), Nat.min_eq_left (by omega)]
    have hp1 := c_X3_at (d := d + 5) (i := nI k9) (j := 1) (cr_pile54 hC2)
    rw [show (1 : Int32) = nI 1 from rfl, pi_nI (by omega) (by omega), w4] at hp1
    obtain ⟨E3, ⟨f1, f2, f3, f4⟩, hcl⟩ := c_night (d := d + 1) hC2 (Or.inr rfl) ov hcf.1.2.2.2.2.1 (show min (sq k9) m ≤ 600 by omega)
    have t3 := tr_pass hb t2 f1 f2
    have hC3 := cr_kr t3.1.2 hC
    have h54b := (seen_qf hb t3.1 hs).1
    obtain ⟨-, -, hsn3⟩ := seen_qf hb t3.1 hs
    obtain ⟨-, -, u3, u4, u5⟩ := hsn3 k9 hk9
    have f4 : PR E3 b 75 (vMk L (slC E b) (gI E 8 b) R c fr) (min (sq k9) m) := f4
    obtain ⟨k, k7, kV, kE, kb, hli⟩ := c_lier (d := d + 4) f4 (hcf.2 _ w1)
    have hsl := sh_li k7
    have h88 : 88 + k < 137 := by omega
    have hp0 := c_X3_at (d := d + 5) (i := nI k9) (j := 0) (cr_pile54 hC3)
    rw [show (0 : Int32) = nI 0 from rfl, pi_nI (by omega) (by omega), show gA E3 56 (3 * k9 + 0) = nI (sw k9) from u3] at hp0
    have hp2 := c_X3_at (d := d + 5) (i := nI k9) (j := 2) (cr_pile54 hC3)
    rw [show (2 : Int32) = nI 2 from rfl, pi_nI (by omega) (by omega), u5] at hp2
    refine Sx.up (fun _ kk => r_iload_n 3 dX11_trialFits_2 rfl rfl kk) ?_
    refine Sx.up (fun _ kk => r_aload_n 4 dX11_trialFits_3 rfl rfl kk) ?_
    refine Sx.up (fun _ kk => r_getR 7 dX11_trialFits_4 rfl f11_47 rfl (by first | with_reducible assumption | with_reducible exact cr_bs hC2 | rfl) (by first | with_reducible assumption | with_reducible exact cr_bn hC2 | exact Nat.le_of_ble_eq_true rfl) (cr_1414_0 hC2) kk) ?_
    refine Sx.up (fun _ kk => r_getR 10 dX11_trialFits_7 rfl f11_146 rfl (by first | with_reducible assumption | with_reducible exact cr_bs hC2 | rfl) (by first | with_reducible assumption | with_reducible exact cr_bn hC2 | exact Nat.le_of_ble_eq_true rfl) (cr_1154_45 hC2) kk) ?_
    refine Sx.up (fun _ kk => r_getIV (nI S) 13 dX11_trialFits_10 rfl f11_141 rfl (by first | with_reducible assumption | with_reducible exact cr_bs hC2 | rfl) (by first | with_reducible assumption | with_reducible exact cr_bn hC2 | exact Nat.le_of_ble_eq_true rfl) (h54) kk) ?_
    refine Sx.up (fun _ kk => r_icmp_ge 16 98 dX11_trialFits_13 rfl (by decide) (fun h13 => absurd h13 (nI_ge hk9 (by omega))) (fun _ => kk)) ?_
    refine Sx.up (fun _ kk => r_aload_n 17 dX11_trialFits_16 rfl rfl kk) ?_
    refine Sx.up (fun _ kk => r_getR 20 dX11_trialFits_17 rfl f11_76 rfl (by first | with_reducible assumption | with_reducible exact cr_bs hC2 | rfl) (by first | with_reducible assumption | with_reducible exact cr_bn hC2 | exact Nat.le_of_ble_eq_true rfl) (cr_1420_0 hC2) kk) ?_
    refine Sx.up (fun _ kk => r_aload_n 21 dX11_trialFits_20 rfl rfl kk) ?_
    refine Sx.up (fun _ kk => r_getR 24 dX11_trialFits_21 rfl f11_28 rfl (by first | with_reducible assumption | with_reducible exact cr_bs hC2 | rfl) (by first | with_reducible assumption | with_reducible exact cr_bn hC2 | exact Nat.le_of_ble_eq_true rfl) (cr_told hC2) kk) ?_
    refine Sx.up (fun _ kk => r_aload_n 25 dX11_trialFits_24 rfl rfl kk) ?_
    refine Sx.up (fun _ kk => r_getR 28 dX11_trialFits_25 rfl f11_67 rfl (by first | with_reducible assumption | with_reducible exact cr_bs hC2 | rfl) (by first | with_reducible assumption | with_reducible exact cr_bn hC2 | exact Nat.le_of_ble_eq_true rfl) (cr_1419_0 hC2) kk) ?_
    refine Sx.up (fun _ kk => r_aload_n 29 dX11_trialFits_28 rfl rfl kk) ?_
    refine Sx.up (fun _ kk => r_getR 32 dX11_trialFits_29 rfl f11_47 rfl (by first | with_reducible assumption | with_reducible exact cr_bs hC2 | rfl) (by first | with_reducible assumption | with_reducible exact cr_bn hC2 | exact Nat.le_of_ble_eq_true rfl) (cr_1414_0 hC2) kk) ?_
    refine Sx.up (fun _ kk => r_getR 35 dX11_trialFits_32 rfl f11_146 rfl (by first | with_reducible assumption | with_reducible exact cr_bs hC2 | rfl) (by first | with_reducible assumption | with_reducible exact cr_bn hC2 | exact Nat.le_of_ble_eq_true rfl) (cr_1154_45 hC2) kk) ?_
    refine Sx.up (fun _ kk => r_iload_n 36 dX11_trialFits_35 rfl rfl kk) ?_
    refine Sx.up (fun _ kk => r_iconst (1) 37 dX11_trialFits_36 rfl (by decide) kk) ?_
    refine Sx.up (fun _ kk => r_callV (M := mX11_trialFits) (pc := 37) 40 dX11_trialFits_37 rfl k11_332 hp1 rfl rfl (by first | with_reducible assumption | with_reducible exact cr_bs hC2 | rfl) (by decide) rfl (by first | with_reducible assumption | with_reducible exact cr_bn hC2 | exact Nat.le_of_ble_eq_true rfl) (Nat.le_of_ble_eq_true rfl) kk) ?_
    refine Sx.up (fun _ kk => r_aload_n 41 dX11_trialFits_40 rfl rfl kk) ?_
    refine Sx.up (fun _ kk => r_getR 44 dX11_trialFits_41 rfl f11_28 rfl (by first | with_reducible assumption | with_reducible exact cr_bs hC2 | rfl) (by first | with_reducible assumption | with_reducible exact cr_bn hC2 | exact Nat.le_of_ble_eq_true rfl) (cr_told hC2) kk) ?_
    refine Sx.up (fun _ kk => r_getIV (nI m) 47 dX11_trialFits_44 rfl f11_110 rfl (by first | with_reducible assumption | with_reducible exact cr_bs hC2 | rfl) (by first | with_reducible assumption | with_reducible exact cr_bn hC2 | exact Nat.le_of_ble_eq_true rfl) (cmi2) kk) ?_
    refine Sx.up (fun _ kk => r_min 50 dX11_trialFits_47 rfl k11_335 (Nat.le_of_ble_eq_true rfl) kk) ?_
    rw [hmin]
    refine Sx.up (fun _ kk => r_callV (M := mX11_trialFits) (pc := 50) 53 dX11_trialFits_50 rfl k11_240 hcl rfl rfl (by first | with_reducible assumption | with_reducible exact cr_bs hC2 | rfl) (by decide) rfl (by first | with_reducible assumption | with_reducible exact cr_bn hC2 | exact Nat.le_of_ble_eq_true rfl) (Nat.le_of_ble_eq_true rfl) kk) ?_
    refine Sx.up (fun _ kk => r_aload_n 54 dX11_trialFits_53 rfl rfl kk) ?_
    refine Sx.up (fun _ kk => r_getR 57 dX11_trialFits_54 rfl f11_76 rfl (by first | with_reducible assumption | with_reducible exact cr_bs hC2 | rfl) (by first | with_reducible assumption | with_reducible exact cr_bn hC2 | exact Nat.le_of_ble_eq_true rfl) (cr_1420_0 hC3) kk) ?_
    refine Sx.up (fun _ kk => r_aload_n 58 dX11_trialFits_57 rfl rfl kk) ?_
    refine Sx.up (fun _ kk => r_getR 61 dX11_trialFits_58 rfl f11_47 rfl (by first | with_reducible assumption | with_reducible exact cr_bs hC2 | rfl) (by first | with_reducible assumption | with_reducible exact cr_bn hC2 | exact Nat.le_of_ble_eq_true rfl) (cr_1414_0 hC3) kk) ?_
    refine Sx.up (fun _ kk => r_getR 64 dX11_trialFits_61 rfl f11_146 rfl (by first | with_reducible assumption | with_reducible exact cr_bs hC2 | rfl) (by first | with_reducible assumption | with_reducible exact cr_bn hC2 | exact Nat.le_of_ble_eq_true rfl) (cr_1154_45 hC3) kk) ?_
    refine Sx.up (fun _ kk => r_iload_n 65 dX11_trialFits_64 rfl rfl kk) ?_
    refine Sx.up (fun _ kk => r_iconst (0) 66 dX11_trialFits_65 rfl (by decide) kk) ?_
    refine Sx.up (fun _ kk => r_callV (M := mX11_trialFits) (pc := 66) 69 dX11_trialFits_66 rfl k11_332 hp0 rfl rfl (by first | with_reducible assumption | with_reducible exact cr_bs hC2 | rfl) (by decide) rfl (by first | with_reducible assumption | with_reducible exact cr_bn hC2 | exact Nat.le_of_ble_eq_true rfl) (Nat.le_of_ble_eq_true rfl) kk) ?_
    refine Sx.up (fun _ kk => r_callV (M := mX11_trialFits) (pc := 69) 72 dX11_trialFits_69 rfl k11_244 hli rfl rfl (by first | with_reducible assumption | with_reducible exact cr_bs hC2 | rfl) (by decide) rfl (by first | with_reducible assumption | with_reducible exact cr_bn hC2 | exact Nat.le_of_ble_eq_true rfl) (Nat.le_of_ble_eq_true rfl) kk) ?_
    refine Sx.up (fun _ kk => r_getIV (_) 75 dX11_trialFits_72 rfl f11_259 rfl (by first | with_reducible assumption | with_reducible exact cr_bs hC2 | rfl) (by first | with_reducible assumption | with_reducible exact cr_bn hC2 | exact Nat.le_of_ble_eq_true rfl) (kb 0 (by decide)) kk) ?_
    refine Sx.up (fun _ kk => r_aload_n 76 dX11_trialFits_75 rfl rfl kk) ?_
    refine Sx.up (fun _ kk => r_getR 79 dX11_trialFits_76 rfl f11_47 rfl (by first | with_reducible assumption | with_reducible exact cr_bs hC2 | rfl) (by first | with_reducible assumption | with_reducible exact cr_bn hC2 | exact Nat.le_of_ble_eq_true rfl) (cr_1414_0 hC3) kk) ?_
    refine Sx.up (fun _ kk => r_getR 82 dX11_trialFits_79 rfl f11_146 rfl (by first | with_reducible assumption | with_reducible exact cr_bs hC2 | rfl) (by first | with_reducible assumption | with_reducible exact cr_bn hC2 | exact Nat.le_of_ble_eq_true rfl) (cr_1154_45 hC3) kk) ?_
    refine Sx.up (fun _ kk => r_iload_n 83 dX11_trialFits_82 rfl rfl kk) ?_
    refine Sx.up (fun _ kk => r_iconst (2) 84 dX11_trialFits_83 rfl (by decide) kk) ?_
    refine Sx.up (fun _ kk => r_callV (M := mX11_trialFits) (pc := 84) 87 dX11_trialFits_84 rfl k11_332 hp2 rfl rfl (by first | with_reducible assumption | with_reducible exact cr_bs hC2 | rfl) (by decide) rfl (by first | with_reducible assumption | with_reducible exact cr_bn hC2 | exact Nat.le_of_ble_eq_true rfl) (Nat.le_of_ble_eq_true rfl) kk) ?_
    refine Sx.br (fun _ ka kb => r_icmp_eq 90 92 dX11_trialFits_87 rfl (by decide) ka kb) (by first | exact em1 | exact em2) (fun h87 => ?_) (fun h87 => ?_)
    · refine Sx.up (fun _ kk => r_iinc (1) 95 dX11_trialFits_92 rfl rfl (by decide) (by decide) rfl kk) ?_
      refine Sx.up (fun _ kk => r_goto 2 dX11_trialFits_95 (by decide) kk) ?_
      rw [nI_pp]
      refine hq E3 ⟨t3, fun i hi => ?_⟩
      rcases Nat.lt_or_ge i k9 with z | z
      · exact hf i z
      · rw [show i = k9 by omega]; exact h87
    · refine Sx.up (fun _ kk => r_iconst (0) 91 dX11_trialFits_90 rfl (by decide) kk) ?_
      refine ⟨_, ?_, r_zret dX11_trialFits_91 rfl rfl (by decide) rfl⟩
      refine ⟨E3, ?_, t3⟩
      rw [b01_f (fun z => h87 (z k9 hk9))]
/-- a plan with first side f and sayer s each e minutes -/
def cFit (c : Cfg) (f s e : Int32) : Cfg := cSay (cO c, cU c, f, cS c, cE c, cB c) s e
def saS (c : Cfg) : Int32 := if cS c = -1 then 0 else cS c
def cFi (c : Cfg) (j : Nat) : Cfg := cFit c (nI (j / 61)) (saS c) (nI (j % 61))
/-- how many of the first k ways fit, and the earliest -/
noncomputable def fitN (fi : Nat → Prop) : Nat → Nat × Int32
  | 0 => (0, -1)
  | k + 1 => @ite _ (fi k) (Classical.propDecidable _) ((fitN fi k).1 + 1, if (fitN fi k).1 = 0 then 100 * nI (k / 61) + nI (k % 61) else (fitN fi k).2) (fitN fi k)
theorem fit_y {fi : Nat → Prop} {k : Nat} (h : fi k) : fitN fi (k + 1) = ((fitN fi k).1 + 1, if (fitN fi k).1 = 0 then 100 * nI (k / 61) + nI (k % 61) else (fitN fi k).2) := if_pos h
theorem fit_n {fi : Nat → Prop} {k : Nat} (h : ¬ fi k) : fitN fi (k + 1) = fitN fi k := if_neg h
theorem fit_le {fi : Nat → Prop} : ∀ k, (fitN fi k).1 ≤ k := by
  intro k
  induction k with
  | zero => exact Nat.le_refl _
  | succ k ih =>
    by_cases h : fi k
    · rw [fit_y h]; show (fitN fi k).1 + 1 ≤ k + 1; omega
    · rw [fit_n h]; omega
theorem ful_fit {c : Cfg} {L j : Nat} (h : cful L c) (hj : j < 122) (h0 : 0 < L) (hs : cS c = -1 ∨ ∃ s, s < L ∧ cS c = nI s) : cful L (cFi c j) := by
  obtain ⟨⟨k1, k2, k3, k4, k5, k6, k7⟩, hsu⟩ := h
  refine ⟨⟨k1, k2, k3, k4, ⟨j % 61, by omega, rfl⟩, fun z => ?_, ?_⟩, hsu⟩
  · have hne : ¬ nI (j % 61) = 0 := fun y => by
      rw [show cE (cFi c j) = nI (j % 61) from rfl, y] at z
      exact absurd z (by decide)
    have hS : cS (cFi c j) = saS c := if_neg hne
    rw [hS]
    unfold saS
    by_cases h1 : cS c = -1
    · rw [if_pos h1]; exact hsu 0 h0
    · rw [if_neg h1]
      obtain ⟨s, hs9, e⟩ := hs.resolve_left h1
      rw [e]; exact hsu s hs9
  · show nI (j / 61) = 0 ∨ nI (j / 61) = 1
    rcases Nat.lt_or_ge j 61 with z | z
    · exact Or.inl (by rw [Nat.div_eq_of_lt z]; rfl)
    · exact Or.inr (by rw [show j / 61 = 1 by omega]; rfl)
theorem fit_ix : ∀ f, f < 2 → ∀ e, e < 61 → (61 * f + e) / 61 = f ∧ (61 * f + e) % 61 = e := fun f _ e he => by omega
theorem cfit_of {c c0 : Cfg} {f : Int32} (h : ∀ s e, cSay c s e = cFit c0 f s e) : ∀ {g s e : Int32}, cFit c g s e = cFit c0 g s e := by
  intro g s e
  have h1 := h s e
  have b1 : cO (cSay c s e) = cO (cFit c0 f s e) := congrArg cO h1
  have b2 : cU (cSay c s e) = cU (cFit c0 f s e) := congrArg cU h1
  have b3 : cB (cSay c s e) = cB (cFit c0 f s e) := congrArg cB h1
  have a1 : cO c = cO c0 := b1
  have a2 : cU c = cU c0 := b2
  have a3 : cB c = cB c0 := b3
  show (cO c, cU c, g, (if e = 0 then -1 else s), e, cB c) = (cO c0, cU c0, g, (if e = 0 then -1 else s), e, cB c0)
  rw [a1, a2, a3]
set_option maxRecDepth 20000 in
theorem c_X11_fits {d b L m S : Nat} {R : List Int32} {E : HP} {sw sq : Nat → Nat} {sd : Nat → Int32} {w : Int32} (hci : CI E b L m R) (hw : inB w 2) (hs : SeenC E L S sw sq sd) (hsa : cS (cfgP E 46) = -1 ∨ ∃ s, s < L ∧ cS (cfgP E 46) = nI s) : ∃ o, (∃ E2, o = (.inl (some (.int (if w = 0 then nI (fitN (fun j => fitV (vMk L (slC E b) (gI E 8 b) R (cFi (cfgP E 46) j) (gI E 519 46)) m sw sq sd S) 122).1 else (fitN (fun j => fitV (vMk L (slC E b) (gI E 8 b) R (cFi (cfgP E 46) j) (gI E 519 46)) m sw sq sd S) 122).2))), E2, 137) ∧ QF b E E2) ∧ Cl yX11_fits mX11_fits (d + 9) 1 6 [.ref 0, .int w] E 137 o := by
  obtain ⟨hC, cL, c51, cok, csu, crl, c87, ⟨m1, m6, cmi⟩, cfr⟩ := id hci
  have hb := hC.1
  have l7 : L ≤ 7 := cok.2.1
  have hful : cful L (cfgP E 46) := ⟨cok, csu⟩
  obtain ⟨E1, t1, hcp⟩ := c_copy (d := d + 6) hci
  have hC1 := cr_kr t1.1.2 hC
  have hS0 : S = 0 ∨ 0 < L := by
    rcases Nat.eq_zero_or_pos S with z | z
    · exact Or.inl z
    · exact Or.inr (by have := (hs.2.2 0 z).1; omega)
  have hq5 : gI E1 516 46 = cS (cfgP E 46) := fr_gI t1.1.1 (qq_no hb (by omega)) 516
  refine Cx.of (by decide) rfl (fun q => by cases q) rfl rfl (Nat.le_of_ble_eq_true rfl) ?_
  show Sx _ _ _ _ _ 0 [some (.ref 0), some (.int w), none, none, none, none, none] [] _ _
  have loop2 : ∀ f, f < 2 → (∀ E2, (∃ c, TR E E2 b L c (gI E 519 46) ∧ (∀ s e, cSay c s e = cFit (cfgP E 46) (nI f) s e)) → Sx mX11_fits (d + 9) 1 6 (fun o => ∃ E2, o = (.inl (some (.int (if w = 0 then nI (fitN (fun j => fitV (vMk L (slC E b) (gI E 8 b) R (cFi (cfgP E 46) j) (gI E 519 46)) m sw sq sd S) 122).1 else (fitN (fun j => fitV (vMk L (slC E b) (gI E 8 b) R (cFi (cfgP E 46) j) (gI E 519 46)) m sw sq sd S) 122).2))), E2, 137) ∧ QF b E E2) 126 [some (.ref 0), some (.int w), some (.int (nI (fitN (fun j => fitV (vMk L (slC E b) (gI E 8 b) R (cFi (cfgP E 46) j) (gI E 519 46)) m sw sq sd S) (61 * f + 61)).1)), some (.int (fitN (fun j => fitV (vMk L (slC E b) (gI E 8 b) R (cFi (cfgP E 46) j) (gI E 519 46)) m sw sq sd S) (61 * f + 61)).2), some (.int (saS (cfgP E 46))), some (.int (nI f)), some (.int (nI 61))] [] E2 137) → ∀ E2, (∃ c, TR E E2 b L c (gI E 519 46) ∧ (∀ s e, cSay c s e = cFit (cfgP E 46) (nI f) s e)) → Sx mX11_fits (d + 9) 1 6 (fun o => ∃ E2, o = (.inl (some (.int (if w = 0 then nI (fitN (fun j => fitV (vMk L (slC E b) (gI E 8 b) R (cFi (cfgP E 46) j) (gI E 519 46)) m sw sq sd S) 122).1 else (fitN (fun j => fitV (vMk L (slC E b) (gI E 8 b) R (cFi (cfgP E 46) j) (gI E 519 46)) m sw sq sd S) 122).2))), E2, 137) ∧ QF b E E2) 75 [some (.ref 0), some (.int w), some (.int (nI (fitN (fun j => fitV (vMk L (slC E b) (gI E 8 b) R (cFi (cfgP E 46) j) (gI E 519 46)) m sw sq sd S) (61 * f + 0)).1)), some (.int (fitN (fun j => fitV (vMk L (slC E b) (gI E 8 b) R (cFi (cfgP E 46) j) (gI E 519 46)) m sw sq sd S) (61 * f + 0)).2), some (.int (saS (cfgP E 46))), some (.int (nI f)), some (.int (nI 0))] [] E2 137 := by
    intro f hf2 hout
    refine sxUp (S := fun k9 E2 => Sx mX11_fits (d + 9) 1 6 (fun o => ∃ E2, o = (.inl (some (.int (if w = 0 then nI (fitN (fun j => fitV (vMk L (slC E b) (gI E 8 b) R (cFi (cfgP E 46) j) (gI E 519 46)) m sw sq sd S) 122).1 else (fitN (fun j => fitV (vMk L (slC E b) (gI E 8 b) R (cFi (cfgP E 46) j) (gI E 519 46)) m sw sq sd S) 122).2))), E2, 137) ∧ QF b E E2) 75 [some (.ref 0), some (.int w), some (.int (nI (fitN (fun j => fitV (vMk L (slC E b) (gI E 8 b) R (cFi (cfgP E 46) j) (gI E 519 46)) m sw sq sd S) (61 * f + k9)).1)), some (.int (fitN (fun j => fitV (vMk L (slC E b) (gI E 8 b) R (cFi (cfgP E 46) j) (gI E 519 46)) m sw sq sd S) (61 * f + k9)).2), some (.int (saS (cfgP E 46))), some (.int (nI f)), some (.int (nI k9))] [] E2 137) (Inv := fun k9 E2 => ∃ c, TR E E2 b L c (gI E 519 46) ∧ (∀ s e, cSay c s e = cFit (cfgP E 46) (nI f) s e)) (a := 0) (l := 61) (by omega) ?_ ?_
    · intro E2 hinv
      refine Sx.up (fun _ kk => r_iload 77 dX11_fits_75 rfl rfl kk) ?_
      refine Sx.up (fun _ kk => r_bipush (60) 79 dX11_fits_77 rfl (by decide) kk) ?_
      refine Sx.up (fun _ kk => r_icmp_gt 82 126 dX11_fits_79 rfl (by decide) (fun _ => kk) (fun h79 => absurd (nI_lt (a := 60) (by omega) (by omega)) h79)) ?_
      exact hout E2 hinv
    · intro k9 E2 hk0 hk9 ⟨c, t2, hce⟩ hq
      obtain ⟨hd1, hd2⟩ := fit_ix f hf2 k9 hk9
      have hC2 := cr_kr t2.1.2 hC
      have t3 := tr_say (s := saS (cfgP E 46)) (e := nI k9) t2
      rw [hce] at t3
      have hcfi : cFit (cfgP E 46) (nI f) (saS (cfgP E 46)) (nI k9) = cFi (cfgP E 46) (61 * f + k9) := by unfold cFi; rw [hd1, hd2]
      rw [hcfi] at t3
      have hle := c_X4_letSay (d := d + 8) (n := 137) (p := 75) (s := saS (cfgP E 46)) (e := nI k9) (E := E2) rfl (by decide)
      have hC3 := cr_kr t3.1.2 hC
      obtain ⟨_, ⟨E4, rfl, t4⟩, hfi⟩ := c_X11_trialFits (d := d + 1) hci t3 hs (hS0.imp id (fun z => ful_fit hful (by omega) z hsa))
      have hgo := hq E4 ⟨_, t4, fun s e => by rw [← hcfi]; rfl⟩
      have hlt := fit_le (fi := (fun j => fitV (vMk L (slC E b) (gI E 8 b) R (cFi (cfgP E 46) j) (gI E 519 46)) m sw sq sd S)) (61 * f + k9)
      refine Sx.up (fun _ kk => r_iload 77 dX11_fits_75 rfl rfl kk) ?_
      refine Sx.up (fun _ kk => r_bipush (60) 79 dX11_fits_77 rfl (by decide) kk) ?_
      refine Sx.up (fun _ kk => r_icmp_gt 82 126 dX11_fits_79 rfl (by decide) (fun h79 => absurd h79 (nI_nlt (a := 60) (by omega) (by omega))) (fun _ => kk)) ?_
      refine Sx.up (fun _ kk => r_aload_n 83 dX11_fits_82 rfl rfl kk) ?_
      refine Sx.up (fun _ kk => r_getR 86 dX11_fits_83 rfl f11_67 rfl (by first | with_reducible assumption | with_reducible exact cr_bs hC2 | rfl) (by first | with_reducible assumption | with_reducible exact cr_bn hC2 | exact Nat.le_of_ble_eq_true rfl) (cr_1419_0 hC2) kk) ?_
      refine Sx.up (fun _ kk => r_iload 88 dX11_fits_86 rfl rfl kk) ?_
      refine Sx.up (fun _ kk => r_iload 90 dX11_fits_88 rfl rfl kk) ?_
      refine Sx.up (fun _ kk => r_callV (M := mX11_fits) (pc := 90) 93 dX11_fits_90 rfl k11_212 hle rfl rfl (by first | with_reducible assumption | with_reducible exact cr_bs hC2 | rfl) (by decide) rfl (by first | with_reducible assumption | with_reducible exact cr_bn hC2 | exact Nat.le_of_ble_eq_true rfl) (Nat.le_of_ble_eq_true rfl) kk) ?_
      refine Sx.up (fun _ kk => r_aload_n 94 dX11_fits_93 rfl rfl kk) ?_
      refine Sx.up (fun _ kk => r_callV (M := mX11_fits) (pc := 94) 97 dX11_fits_94 rfl k11_329 hfi rfl rfl (by first | with_reducible assumption | with_reducible exact cr_bs hC2 | rfl) (by decide) rfl (by first | with_reducible assumption | with_reducible exact cr_bn hC2 | exact Nat.le_of_ble_eq_true rfl) (Nat.le_of_ble_eq_true rfl) kk) ?_
      refine Sx.br (fun _ ka kb => r_if_eq 100 120 dX11_fits_97 rfl (by decide) ka kb) (by first | exact em1 | exact em2) (fun h97 => ?_) (fun h97 => ?_)
      · refine Sx.up (fun _ kk => r_iinc (1) 123 dX11_fits_120 rfl rfl (by decide) (by decide) rfl kk) ?_
        refine Sx.up (fun _ kk => r_goto 75 dX11_fits_123 (by decide) kk) ?_
        have hno : ¬ ((fun j => fitV (vMk L (slC E b) (gI E 8 b) R (cFi (cfgP E 46) j) (gI E 519 46)) m sw sq sd S) (61 * f + k9)) := fun z => by
          have : b01 ((fun j => fitV (vMk L (slC E b) (gI E 8 b) R (cFi (cfgP E 46) j) (gI E 519 46)) m sw sq sd S) (61 * f + k9)) = 1 := b01_t z
          rw [show b01 (fitV _ m sw sq sd S) = b01 ((fun j => fitV (vMk L (slC E b) (gI E 8 b) R (cFi (cfgP E 46) j) (gI E 519 46)) m sw sq sd S) (61 * f + k9)) from rfl, this] at h97
          exact absurd h97 (by decide)
        rw [show 61 * f + (k9 + 1) = 61 * f + k9 + 1 from rfl, fit_n (fi := (fun j => fitV (vMk L (slC E b) (gI E 8 b) R (cFi (cfgP E 46) j) (gI E 519 46)) m sw sq sd S)) (k := 61 * f + k9) hno, ← nI_pp] at hgo
        exact Sx.less (by exact ⟨rfl, rfl, rfl, rfl, rfl, rfl, rfl, trivial⟩) hgo
      · refine Sx.up (fun _ kk => r_iload_n 101 dX11_fits_100 rfl rfl kk) ?_
        refine Sx.br (fun _ ka kb => r_if_ne 104 115 dX11_fits_101 rfl (by decide) ka kb) (by first | exact em1 | exact em2) (fun h101 => ?_) (fun h101 => ?_)
        · refine Sx.up (fun _ kk => r_iload_n 116 dX11_fits_115 rfl rfl kk) ?_
          refine Sx.up (fun _ kk => r_istore_n 117 dX11_fits_116 rfl (by decide) rfl kk) ?_
          refine Sx.up (fun _ kk => r_iinc (1) 120 dX11_fits_117 rfl rfl (by decide) (by decide) rfl kk) ?_
          refine Sx.up (fun _ kk => r_iinc (1) 123 dX11_fits_120 rfl rfl (by decide) (by decide) rfl kk) ?_
          refine Sx.up (fun _ kk => r_goto 75 dX11_fits_123 (by decide) kk) ?_
          have hyes : ((fun j => fitV (vMk L (slC E b) (gI E 8 b) R (cFi (cfgP E 46) j) (gI E 519 46)) m sw sq sd S) (61 * f + k9)) := by
            apply Classical.byContradiction
            intro z
            exact h97 (b01_f z)
          rw [show 61 * f + (k9 + 1) = 61 * f + k9 + 1 from rfl, fit_y (fi := (fun j => fitV (vMk L (slC E b) (gI E 8 b) R (cFi (cfgP E 46) j) (gI E 519 46)) m sw sq sd S)) (k := 61 * f + k9) hyes] at hgo
          dsimp only at hgo
          rw [← nI_pp (fitN (fun j => fitV (vMk L (slC E b) (gI E 8 b) R (cFi (cfgP E 46) j) (gI E 519 46)) m sw sq sd S) (61 * f + k9)).1, ← nI_pp k9] at hgo
          rw [if_neg (show ¬ (fitN (fun j => fitV (vMk L (slC E b) (gI E 8 b) R (cFi (cfgP E 46) j) (gI E 519 46)) m sw sq sd S) (61 * f + k9)).1 = 0 from fun z => h101 (by rw [z]; rfl))] at hgo
          exact Sx.less (by exact ⟨rfl, rfl, rfl, rfl, rfl, rfl, rfl, trivial⟩) hgo
        · refine Sx.up (fun _ kk => r_bipush (100) 106 dX11_fits_104 rfl (by decide) kk) ?_
          refine Sx.up (fun _ kk => r_iload 108 dX11_fits_106 rfl rfl kk) ?_
          refine Sx.up (fun _ kk => r_imul 109 dX11_fits_108 rfl kk) ?_
          refine Sx.up (fun _ kk => r_iload 111 dX11_fits_109 rfl rfl kk) ?_
          refine Sx.up (fun _ kk => r_iadd 112 dX11_fits_111 rfl kk) ?_
          refine Sx.up (fun _ kk => r_goto 116 dX11_fits_112 (by decide) kk) ?_
          refine Sx.up (fun _ kk => r_istore_n 117 dX11_fits_116 rfl (by decide) rfl kk) ?_
          refine Sx.up (fun _ kk => r_iinc (1) 120 dX11_fits_117 rfl rfl (by decide) (by decide) rfl kk) ?_
          refine Sx.up (fun _ kk => r_iinc (1) 123 dX11_fits_120 rfl rfl (by decide) (by decide) rfl kk) ?_
          refine Sx.up (fun _ kk => r_goto 75 dX11_fits_123 (by decide) kk) ?_
          have hyes : ((fun j => fitV (vMk L (slC E b) (gI E 8 b) R (cFi (cfgP E 46) j) (gI E 519 46)) m sw sq sd S) (61 * f + k9)) := by
            apply Classical.byContradiction
            intro z
            exact h97 (b01_f z)
          rw [show 61 * f + (k9 + 1) = 61 * f + k9 + 1 from rfl, fit_y (fi := (fun j => fitV (vMk L (slC E b) (gI E 8 b) R (cFi (cfgP E 46) j) (gI E 519 46)) m sw sq sd S)) (k := 61 * f + k9) hyes] at hgo
          dsimp only at hgo
          rw [← nI_pp (fitN (fun j => fitV (vMk L (slC E b) (gI E 8 b) R (cFi (cfgP E 46) j) (gI E 519 46)) m sw sq sd S) (61 * f + k9)).1, ← nI_pp k9] at hgo
          have z0 : (fitN (fun j => fitV (vMk L (slC E b) (gI E 8 b) R (cFi (cfgP E 46) j) (gI E 519 46)) m sw sq sd S) (61 * f + k9)).1 = 0 := by
            exact (nI_eq (by omega) (by omega)).mp (show nI (fitN (fun j => fitV (vMk L (slC E b) (gI E 8 b) R (cFi (cfgP E 46) j) (gI E 519 46)) m sw sq sd S) (61 * f + k9)).1 = nI 0 from h101)
          rw [if_pos z0, hd1, hd2] at hgo
          exact Sx.less (by exact ⟨rfl, rfl, rfl, rfl, rfl, rfl, rfl, trivial⟩) hgo
  have loop1 := sxUp (S := fun f E2 => Sx mX11_fits (d + 9) 1 6 (fun o => ∃ E2, o = (.inl (some (.int (if w = 0 then nI (fitN (fun j => fitV (vMk L (slC E b) (gI E 8 b) R (cFi (cfgP E 46) j) (gI E 519 46)) m sw sq sd S) 122).1 else (fitN (fun j => fitV (vMk L (slC E b) (gI E 8 b) R (cFi (cfgP E 46) j) (gI E 519 46)) m sw sq sd S) 122).2))), E2, 137) ∧ QF b E E2) 57 [some (.ref 0), some (.int w), some (.int (nI (fitN (fun j => fitV (vMk L (slC E b) (gI E 8 b) R (cFi (cfgP E 46) j) (gI E 519 46)) m sw sq sd S) (61 * f)).1)), some (.int (fitN (fun j => fitV (vMk L (slC E b) (gI E 8 b) R (cFi (cfgP E 46) j) (gI E 519 46)) m sw sq sd S) (61 * f)).2), some (.int (saS (cfgP E 46))), some (.int (nI f)), none] [] E2 137) (Inv := fun f E2 => ∃ c, TR E E2 b L c (gI E 519 46) ∧ (∀ g s e, cFit c g s e = cFit (cfgP E 46) g s e)) (a := 0) (l := 2) (by omega) ?_ ?_
  refine Sx.up (fun _ kk => r_aload_n 1 dX11_fits_0 rfl rfl kk) ?_
  refine Sx.up (fun _ kk => r_iload_n 2 dX11_fits_1 rfl rfl kk) ?_
  refine Sx.up (fun _ kk => r_iconst (2) 3 dX11_fits_2 rfl (by decide) kk) ?_
  refine Sx.up (fun _ kk => r_callV (M := mX11_fits) (pc := 3) 6 dX11_fits_3 rfl k11_192 (c_X11_checkNumber hw) rfl rfl (by first | with_reducible assumption | with_reducible exact cr_bs hC | rfl) (by decide) rfl (by first | with_reducible assumption | with_reducible exact cr_bn hC | exact Nat.le_of_ble_eq_true rfl) (Nat.le_of_ble_eq_true rfl) kk) ?_
  refine Sx.up (fun _ kk => r_iconst (0) 7 dX11_fits_6 rfl (by decide) kk) ?_
  refine Sx.up (fun _ kk => r_istore_n 8 dX11_fits_7 rfl (by decide) rfl kk) ?_
  refine Sx.up (fun _ kk => r_iconst (-1) 9 dX11_fits_8 rfl (by decide) kk) ?_
  refine Sx.up (fun _ kk => r_istore_n 10 dX11_fits_9 rfl (by decide) rfl kk) ?_
  refine Sx.up (fun _ kk => r_aload_n 11 dX11_fits_10 rfl rfl kk) ?_
  refine Sx.up (fun _ kk => r_getR 14 dX11_fits_11 rfl f11_67 rfl (by first | with_reducible assumption | with_reducible exact cr_bs hC | rfl) (by first | with_reducible assumption | with_reducible exact cr_bn hC | exact Nat.le_of_ble_eq_true rfl) (cr_1419_0 hC) kk) ?_
  refine Sx.up (fun _ kk => r_aload_n 15 dX11_fits_14 rfl rfl kk) ?_
  refine Sx.up (fun _ kk => r_getR 18 dX11_fits_15 rfl f11_47 rfl (by first | with_reducible assumption | with_reducible exact cr_bs hC | rfl) (by first | with_reducible assumption | with_reducible exact cr_bn hC | exact Nat.le_of_ble_eq_true rfl) (cr_1414_0 hC) kk) ?_
  refine Sx.up (fun _ kk => r_getR 21 dX11_fits_18 rfl f11_116 rfl (by first | with_reducible assumption | with_reducible exact cr_bs hC | rfl) (by first | with_reducible assumption | with_reducible exact cr_bn hC | exact Nat.le_of_ble_eq_true rfl) (cr_1152_45 hC) kk) ?_
  refine Sx.up (fun _ kk => r_callV (M := mX11_fits) (pc := 21) 24 dX11_fits_21 rfl k11_272 hcp rfl rfl (by first | with_reducible assumption | with_reducible exact cr_bs hC | rfl) (by decide) rfl (by first | with_reducible assumption | with_reducible exact cr_bn hC | exact Nat.le_of_ble_eq_true rfl) (Nat.le_of_ble_eq_true rfl) kk) ?_
  refine Sx.up (fun _ kk => r_aload_n 25 dX11_fits_24 rfl rfl kk) ?_
  refine Sx.up (fun _ kk => r_getR 28 dX11_fits_25 rfl f11_47 rfl (by first | with_reducible assumption | with_reducible exact cr_bs hC | rfl) (by first | with_reducible assumption | with_reducible exact cr_bn hC | exact Nat.le_of_ble_eq_true rfl) (cr_1414_0 hC1) kk) ?_
  refine Sx.up (fun _ kk => r_getR 31 dX11_fits_28 rfl f11_116 rfl (by first | with_reducible assumption | with_reducible exact cr_bs hC | rfl) (by first | with_reducible assumption | with_reducible exact cr_bn hC | exact Nat.le_of_ble_eq_true rfl) (cr_1152_45 hC1) kk) ?_
  refine Sx.up (fun _ kk => r_getIV (cS (cfgP E 46)) 34 dX11_fits_31 rfl f11_128 rfl (by first | with_reducible assumption | with_reducible exact cr_bs hC | rfl) (by first | with_reducible assumption | with_reducible exact cr_bn hC | exact Nat.le_of_ble_eq_true rfl) (hq5) kk) ?_
  refine Sx.up (fun _ kk => r_iconst (-1) 35 dX11_fits_34 rfl (by decide) kk) ?_
  refine Sx.br (fun _ ka kb => r_icmp_ne 38 42 dX11_fits_35 rfl (by decide) ka kb) (by first | exact em1 | exact em2) (fun h35 => ?_) (fun h35 => ?_)
  · refine Sx.up (fun _ kk => r_aload_n 43 dX11_fits_42 rfl rfl kk) ?_
    refine Sx.up (fun _ kk => r_getR 46 dX11_fits_43 rfl f11_47 rfl (by first | with_reducible assumption | with_reducible exact cr_bs hC | rfl) (by first | with_reducible assumption | with_reducible exact cr_bn hC | exact Nat.le_of_ble_eq_true rfl) (cr_1414_0 hC1) kk) ?_
    refine Sx.up (fun _ kk => r_getR 49 dX11_fits_46 rfl f11_116 rfl (by first | with_reducible assumption | with_reducible exact cr_bs hC | rfl) (by first | with_reducible assumption | with_reducible exact cr_bn hC | exact Nat.le_of_ble_eq_true rfl) (cr_1152_45 hC1) kk) ?_
    refine Sx.up (fun _ kk => r_getIV (cS (cfgP E 46)) 52 dX11_fits_49 rfl f11_128 rfl (by first | with_reducible assumption | with_reducible exact cr_bs hC | rfl) (by first | with_reducible assumption | with_reducible exact cr_bn hC | exact Nat.le_of_ble_eq_true rfl) (hq5) kk) ?_
    refine Sx.up (fun _ kk => r_istore 54 dX11_fits_52 rfl (by decide) rfl kk) ?_
    refine Sx.up (fun _ kk => r_iconst (0) 55 dX11_fits_54 rfl (by decide) kk) ?_
    refine Sx.up (fun _ kk => r_istore 57 dX11_fits_55 rfl (by decide) rfl kk) ?_
    exact Sx.less (ls := [some (.ref 0), some (.int w), some (.int (nI (fitN (fun j => fitV (vMk L (slC E b) (gI E 8 b) R (cFi (cfgP E 46) j) (gI E 519 46)) m sw sq sd S) (61 * 0)).1)), some (.int (fitN (fun j => fitV (vMk L (slC E b) (gI E 8 b) R (cFi (cfgP E 46) j) (gI E 519 46)) m sw sq sd S) (61 * 0)).2), some (.int (saS (cfgP E 46))), some (.int (nI 0)), none]) (by rw [show saS (cfgP E 46) = cS (cfgP E 46) from if_neg h35]; exact ⟨rfl, rfl, rfl, rfl, rfl, rfl, trivial⟩) (loop1 E1 ⟨_, t1, fun _ _ _ => rfl⟩)
  · refine Sx.up (fun _ kk => r_iconst (0) 39 dX11_fits_38 rfl (by decide) kk) ?_
    refine Sx.up (fun _ kk => r_goto 52 dX11_fits_39 (by decide) kk) ?_
    refine Sx.up (fun _ kk => r_istore 54 dX11_fits_52 rfl (by decide) rfl kk) ?_
    refine Sx.up (fun _ kk => r_iconst (0) 55 dX11_fits_54 rfl (by decide) kk) ?_
    refine Sx.up (fun _ kk => r_istore 57 dX11_fits_55 rfl (by decide) rfl kk) ?_
    exact Sx.less (ls := [some (.ref 0), some (.int w), some (.int (nI (fitN (fun j => fitV (vMk L (slC E b) (gI E 8 b) R (cFi (cfgP E 46) j) (gI E 519 46)) m sw sq sd S) (61 * 0)).1)), some (.int (fitN (fun j => fitV (vMk L (slC E b) (gI E 8 b) R (cFi (cfgP E 46) j) (gI E 519 46)) m sw sq sd S) (61 * 0)).2), some (.int (saS (cfgP E 46))), some (.int (nI 0)), none]) (by rw [show saS (cfgP E 46) = 0 from if_pos h35]; exact ⟨rfl, rfl, rfl, rfl, rfl, rfl, trivial⟩) (loop1 E1 ⟨_, t1, fun _ _ _ => rfl⟩)
  · intro E2 ⟨c, t2, hce⟩
    refine Sx.up (fun _ kk => r_iload 59 dX11_fits_57 rfl rfl kk) ?_
    refine Sx.up (fun _ kk => r_iconst (1) 60 dX11_fits_59 rfl (by decide) kk) ?_
    refine Sx.up (fun _ kk => r_icmp_gt 63 132 dX11_fits_60 rfl (by decide) (fun _ => kk) (fun h60 => absurd (nI_lt (a := 1) (by omega) (by omega)) h60)) ?_
    refine Sx.up (fun _ kk => r_iload_n 133 dX11_fits_132 rfl rfl kk) ?_
    refine Sx.br (fun _ ka kb => r_if_ne 136 140 dX11_fits_133 rfl (by decide) ka kb) (by first | exact em1 | exact em2) (fun h133 => ?_) (fun h133 => ?_)
    · refine Sx.up (fun _ kk => r_iload_n 141 dX11_fits_140 rfl rfl kk) ?_
      refine ⟨_, ?_, r_iret dX11_fits_141 rfl rfl rfl⟩
      refine ⟨E2, ?_, t2.1⟩
      first | rw [if_pos h133] | rw [if_neg h133]
    · refine Sx.up (fun _ kk => r_iload_n 137 dX11_fits_136 rfl rfl kk) ?_
      refine Sx.up (fun _ kk => r_goto 141 dX11_fits_137 (by decide) kk) ?_
      refine ⟨_, ?_, r_iret dX11_fits_141 rfl rfl rfl⟩
      refine ⟨E2, ?_, t2.1⟩
      first | rw [if_pos h133] | rw [if_neg h133]
  · intro f E2 hk0 hf2 ⟨c, t2, hce⟩ hq
    have hC2 := cr_kr t2.1.2 hC
    have t3 := tr_first (v := nI f) t2
    refine Sx.up (fun _ kk => r_iload 59 dX11_fits_57 rfl rfl kk) ?_
    refine Sx.up (fun _ kk => r_iconst (1) 60 dX11_fits_59 rfl (by decide) kk) ?_
    refine Sx.up (fun _ kk => r_icmp_gt 63 132 dX11_fits_60 rfl (by decide) (fun h60 => absurd h60 (nI_nlt (a := 1) (by omega) (by omega))) (fun _ => kk)) ?_
    refine Sx.up (fun _ kk => r_aload_n 64 dX11_fits_63 rfl rfl kk) ?_
    refine Sx.up (fun _ kk => r_getR 67 dX11_fits_64 rfl f11_67 rfl (by first | with_reducible assumption | with_reducible exact cr_bs hC2 | rfl) (by first | with_reducible assumption | with_reducible exact cr_bn hC2 | exact Nat.le_of_ble_eq_true rfl) (cr_1419_0 hC2) kk) ?_
    refine Sx.up (fun _ kk => r_iload 69 dX11_fits_67 rfl rfl kk) ?_
    refine Sx.up (fun _ kk => r_putI 72 dX11_fits_69 rfl f11_125 (by first | with_reducible assumption | with_reducible exact cr_bs hC2 | rfl) (by first | with_reducible assumption | with_reducible exact cr_bn hC2 | exact Nat.le_of_ble_eq_true rfl) kk) ?_
    refine Sx.up (fun _ kk => r_iconst (0) 73 dX11_fits_72 rfl (by decide) kk) ?_
    refine Sx.up (fun _ kk => r_istore 75 dX11_fits_73 rfl (by decide) rfl kk) ?_
    refine Sx.less (ls := [some (.ref 0), some (.int w), some (.int (nI (fitN (fun j => fitV (vMk L (slC E b) (gI E 8 b) R (cFi (cfgP E 46) j) (gI E 519 46)) m sw sq sd S) (61 * f + 0)).1)), some (.int (fitN (fun j => fitV (vMk L (slC E b) (gI E 8 b) R (cFi (cfgP E 46) j) (gI E 519 46)) m sw sq sd S) (61 * f + 0)).2), some (.int (saS (cfgP E 46))), some (.int (nI f)), some (.int (nI 0))]) ⟨rfl, rfl, rfl, rfl, rfl, rfl, rfl, trivial⟩ (loop2 f hf2 ?_ _ ⟨_, t3, fun s e => hce (nI f) s e⟩)
    intro E3 ⟨c3, t4, hce3⟩
    refine Sx.up (fun _ kk => r_iinc (1) 129 dX11_fits_126 rfl rfl (by decide) (by decide) rfl kk) ?_
    refine Sx.up (fun _ kk => r_goto 57 dX11_fits_129 (by decide) kk) ?_
    rw [nI_pp]
    have hgo := hq E3 ⟨c3, t4, fun g s e => ?_⟩
    · rw [show 61 * (f + 1) = 61 * f + 61 by omega] at hgo
      exact Sx.less (by exact ⟨rfl, rfl, rfl, rfl, rfl, rfl, trivial⟩) hgo
    · exact cfit_of hce3
set_option maxRecDepth 20000 in
theorem x_fits {d b L m : Nat} {R : List Int32} {E : HP} {w : Int32} (hci : CI E b L m R) (h : ¬ inB w 2) : Cl yX11_fits mX11_fits (d + 9) 1 6 [.ref 0, .int (w)] E 137 (.inr nseN, E, 137) := by
  have hC := hci.1
  have cL := hci.2.1
  have l7 : L ≤ 7 := hci.2.2.2.1.2.1
  refine Cl.of (by decide) rfl (fun q => by cases q) rfl rfl (Nat.le_of_ble_eq_true rfl) ?_
  show Sm _ _ _ _ _ 0 [some (.ref 0), some (.int (w)), none, none, none, none, none] [] _ _
  refine r_aload_n 1 dX11_fits_0 rfl rfl ?_
  refine r_iload_n 2 dX11_fits_1 rfl rfl ?_
  refine r_iconst (2) 3 dX11_fits_2 rfl (by decide) ?_
  exact r_callVX (M := mX11_fits) (pc := 3) dX11_fits_3 k11_192 (x_checkNumber h) rfl rfl (by first | with_reducible assumption | with_reducible exact cr_bs hC | rfl) (by decide) rfl (by first | with_reducible assumption | with_reducible exact cr_bn hC | exact Nat.le_of_ble_eq_true rfl) (Nat.le_of_ble_eq_true rfl) rfl rfl (rfl)
