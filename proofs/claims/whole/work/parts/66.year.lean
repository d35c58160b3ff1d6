/-! The class: year -/
theorem drSeed_congr {kd kd2 tn tn2 : Nat → Int32} {mi s : Int32} : ∀ k, (∀ j, j < k → kd j = kd2 j ∧ tn j = tn2 j) → drSeed kd tn mi s k = drSeed kd2 tn2 mi s k := by
  intro k
  induction k with
  | zero => intro _; rfl
  | succ k ih =>
    intro h
    show (drOne (kd k) (tn k) mi (drSeed kd tn mi s k)).1 = (drOne (kd2 k) (tn2 k) mi (drSeed kd2 tn2 mi s k)).1
    rw [ih (fun j hj => h j (by omega)), (h k (by omega)).1, (h k (by omega)).2]
/-- who must out, drawn by the seed s -/
def drU (sl : Nat → Nat → Int32) (mi s : Int32) (L : Nat) (u : Nat → Int32) : Nat → Int32 := fun j => if j < L then (drOne (sl 1 j) (sl 7 j) mi (drSeed (sl 1) (sl 7) mi s j)).2.getD (u j) else u j
/-- behind k nights of a year: the seed, who must out -/
def yeS (sl : Nat → Nat → Int32) (mi s : Int32) (L : Nat) (u : Nat → Int32) : Nat → Int32 × (Nat → Int32)
  | 0 => (s, u)
  | k + 1 => (drSeed (sl 1) (sl 7) mi (yeS sl mi s L u k).1 L, drU sl mi (yeS sl mi s L u k).1 L (yeS sl mi s L u k).2)
/-- all, the most, how many without -/
def yeA (w : Nat → Int32) : Nat → Int32 × Int32 × Int32
  | 0 => (0, 0, 0)
  | k + 1 => ((yeA w k).1 + w k, maxF (yeA w k).2.1 (w k), (yeA w k).2.2 + (if w k = 0 then 1 else 0))
def cOut (c : Cfg) (u : Nat → Int32) : Cfg := (cO c, u, cF c, cS c, cE c, cB c)
def vOut (E : HP) (b L : Nat) (R : List Int32) (u : Nat → Int32) : NV := vMk L (slC E b) (gI E 8 b) R (cOut (cfgP E 46) u) (gI E 519 46)
theorem tr_draw {d b L m : Nat} {R : List Int32} {E E1 : HP} {c : Cfg} {fr s : Int32} (hci : CI E b L m R) (h : TR E E1 b L c fr) : ∃ E2, TR E E2 b L (cOut c (drU (slC E b) (nI m) s L (cU c))) fr ∧ Cl yX4_drawOuts mX4_drawOuts (d + 2) 0 0 [.ref 75, .ref b, .int s] E1 137 (.inl (some (.int (drSeed (slC E b 1) (slC E b 7) (nI m) s L))), E2, 137) := by
  have l7 : L ≤ 7 := hci.2.2.2.1.2.1
  have hb := hci.1.1
  have hC1 := cr_kr h.1.2 hci.1
  have hci1 := ci_qf1 h.1 hci
  have hsl : ∀ j, j < 7 → bKd E1 b j = slC E b 1 j ∧ bTn E1 b j = slC E b 7 j := fun j hj => by
    rw [slC_lt hj, slC_lt hj]
    exact ⟨fr_gI h.1.1 (qq_no hb (by omega)) _, fr_gI h.1.1 (qq_no hb (by omega)) _⟩
  have hmi : gI E1 7 b = nI m := hci1.2.2.2.2.2.2.2.1.2.2
  obtain ⟨_, ⟨E2, rfl, s1, s2, s3, s4⟩, hcl⟩ := c_X4_drawOuts (d := d) (s := s) (cr_plan75 hC1) (cr_bed hC1) hci1.2.1 l7
  have hds : ∀ k, k ≤ 7 → drSeed (bKd E1 b) (bTn E1 b) (gI E1 7 b) s k = drSeed (slC E b 1) (slC E b 7) (nI m) s k := fun k hk => by
    rw [hmi]
    exact drSeed_congr k (fun j hj => hsl j (by omega))
  rw [hds L l7] at hcl
  refine ⟨E2, ?_, hcl⟩
  obtain ⟨h1, h2, ⟨e1, e2, e3, e4, e5⟩, h4⟩ := h
  refine ⟨qf_tr h1 ⟨fr_mono s3 (fun k hk => by rw [hk]; exact Or.inr (Or.inr (Or.inr (Or.inl rfl)))), kr_sr s1⟩, (s2 _ _).trans h2, ⟨fun i hi => ⟨?_, ?_⟩, (s2 _ _).trans e2, (s2 _ _).trans e3, (s2 _ _).trans e4, (s2 _ _).trans e5⟩, (s2 _ _).trans h4⟩
  · rw [fr_gA s3 (show ¬ (75 + 2 = 75 + 4) by decide)]
    exact (e1 i hi).1
  · rw [s4 i]
    show _ = drU (slC E b) (nI m) s L (cU c) i
    unfold drU
    by_cases hiL : i < L
    · rw [if_pos hiL, if_pos hiL, (hsl i hi).1, (hsl i hi).2, hds i (by omega), hmi, (e1 i hi).2]
    · rw [if_neg hiL, if_neg hiL]
      exact (e1 i hi).2
set_option maxRecDepth 20000 in
theorem c_X11_year {d b L m n : Nat} {R : List Int32} {E : HP} {x w : Int32} (hci : CI E b L m R) (hw : inB w 3) (hn : n ≤ 40) : ∃ o, (∃ E2, o = (.inl (some (.int (if w = 0 then (yeA (fun k => nS (nightF (vOut E b L R (yeS (slC E b) (nI m) x L (cU (cfgP E 46)) (k + 1)).2) m) 2) n).1 else if w = 1 then (yeA (fun k => nS (nightF (vOut E b L R (yeS (slC E b) (nI m) x L (cU (cfgP E 46)) (k + 1)).2) m) 2) n).2.1 else (yeA (fun k => nS (nightF (vOut E b L R (yeS (slC E b) (nI m) x L (cU (cfgP E 46)) (k + 1)).2) m) 2) n).2.2))), E2, 137) ∧ QF b E E2) ∧ Cl yX11_year mX11_year (d + 8) 1 6 [.ref 0, .int x, .int (nI n), .int w] E 137 o := by
  obtain ⟨hC, cL, c51, cok, csu, crl, c87, ⟨m1, m6, cmi⟩, cfr⟩ := id hci
  obtain ⟨E1, t1, hcp⟩ := c_copy (d := d + 5) hci
  have hC1 := cr_kr t1.1.2 hC
  have l7 := cok.2.1
  have hb := hC.1
  refine Cx.of (by decide) rfl (fun q => by cases q) rfl rfl (Nat.le_of_ble_eq_true rfl) ?_
  show Sx _ _ _ _ _ 0 [some (.ref 0), some (.int x), some (.int (nI n)), some (.int w), none, none, none, none, none, none] [] _ _
  have loop := sxUp (S := fun k9 E2 => Sx mX11_year (d + 8) 1 6 (fun o => ∃ E2, o = (.inl (some (.int (if w = 0 then (yeA (fun k => nS (nightF (vOut E b L R (yeS (slC E b) (nI m) x L (cU (cfgP E 46)) (k + 1)).2) m) 2) n).1 else if w = 1 then (yeA (fun k => nS (nightF (vOut E b L R (yeS (slC E b) (nI m) x L (cU (cfgP E 46)) (k + 1)).2) m) 2) n).2.1 else (yeA (fun k => nS (nightF (vOut E b L R (yeS (slC E b) (nI m) x L (cU (cfgP E 46)) (k + 1)).2) m) 2) n).2.2))), E2, 137) ∧ QF b E E2) 42 [some (.ref 0), some (.int x), some (.int (nI n)), some (.int w), some (.int (yeA (fun k => nS (nightF (vOut E b L R (yeS (slC E b) (nI m) x L (cU (cfgP E 46)) (k + 1)).2) m) 2) k9).1), some (.int (yeA (fun k => nS (nightF (vOut E b L R (yeS (slC E b) (nI m) x L (cU (cfgP E 46)) (k + 1)).2) m) 2) k9).2.1), some (.int (yeA (fun k => nS (nightF (vOut E b L R (yeS (slC E b) (nI m) x L (cU (cfgP E 46)) (k + 1)).2) m) 2) k9).2.2), some (.int (yeS (slC E b) (nI m) x L (cU (cfgP E 46)) k9).1), some (.int (nI k9)), none] [] E2 137) (Inv := fun k9 E2 => TR E E2 b L (cOut (cfgP E 46) (yeS (slC E b) (nI m) x L (cU (cfgP E 46)) k9).2) (gI E 519 46)) (a := 0) (l := n) (by omega) ?_ ?_
  refine Sx.up (fun _ kk => r_aload_n 1 dX11_year_0 rfl rfl kk) ?_
  refine Sx.up (fun _ kk => r_iload_n 2 dX11_year_1 rfl rfl kk) ?_
  refine Sx.up (fun _ kk => r_iconst (3) 3 dX11_year_2 rfl (by decide) kk) ?_
  refine Sx.up (fun _ kk => r_callV (M := mX11_year) (pc := 3) 6 dX11_year_3 rfl k11_192 (c_X11_checkNumber hw) rfl rfl (by first | with_reducible assumption | with_reducible exact cr_bs hC | rfl) (by decide) rfl (by first | with_reducible assumption | with_reducible exact cr_bn hC | exact Nat.le_of_ble_eq_true rfl) (Nat.le_of_ble_eq_true rfl) kk) ?_
  refine Sx.up (fun _ kk => r_aload_n 7 dX11_year_6 rfl rfl kk) ?_
  refine Sx.up (fun _ kk => r_iload_n 8 dX11_year_7 rfl rfl kk) ?_
  refine Sx.up (fun _ kk => r_bipush (40) 10 dX11_year_8 rfl (by decide) kk) ?_
  refine Sx.up (fun _ kk => r_callV (M := mX11_year) (pc := 10) 13 dX11_year_10 rfl k11_256 (c_X11_checkBound (inC_of (L := 40) hn (by omega))) rfl rfl (by first | with_reducible assumption | with_reducible exact cr_bs hC | rfl) (by decide) rfl (by first | with_reducible assumption | with_reducible exact cr_bn hC | exact Nat.le_of_ble_eq_true rfl) (Nat.le_of_ble_eq_true rfl) kk) ?_
  refine Sx.up (fun _ kk => r_iconst (0) 14 dX11_year_13 rfl (by decide) kk) ?_
  refine Sx.up (fun _ kk => r_istore 16 dX11_year_14 rfl (by decide) rfl kk) ?_
  refine Sx.up (fun _ kk => r_iconst (0) 17 dX11_year_16 rfl (by decide) kk) ?_
  refine Sx.up (fun _ kk => r_istore 19 dX11_year_17 rfl (by decide) rfl kk) ?_
  refine Sx.up (fun _ kk => r_iconst (0) 20 dX11_year_19 rfl (by decide) kk) ?_
  refine Sx.up (fun _ kk => r_istore 22 dX11_year_20 rfl (by decide) rfl kk) ?_
  refine Sx.up (fun _ kk => r_iload_n 23 dX11_year_22 rfl rfl kk) ?_
  refine Sx.up (fun _ kk => r_istore 25 dX11_year_23 rfl (by decide) rfl kk) ?_
  refine Sx.up (fun _ kk => r_aload_n 26 dX11_year_25 rfl rfl kk) ?_
  refine Sx.up (fun _ kk => r_getR 29 dX11_year_26 rfl f11_67 rfl (by first | with_reducible assumption | with_reducible exact cr_bs hC | rfl) (by first | with_reducible assumption | with_reducible exact cr_bn hC | exact Nat.le_of_ble_eq_true rfl) (cr_1419_0 hC) kk) ?_
  refine Sx.up (fun _ kk => r_aload_n 30 dX11_year_29 rfl rfl kk) ?_
  refine Sx.up (fun _ kk => r_getR 33 dX11_year_30 rfl f11_47 rfl (by first | with_reducible assumption | with_reducible exact cr_bs hC | rfl) (by first | with_reducible assumption | with_reducible exact cr_bn hC | exact Nat.le_of_ble_eq_true rfl) (cr_1414_0 hC) kk) ?_
  refine Sx.up (fun _ kk => r_getR 36 dX11_year_33 rfl f11_116 rfl (by first | with_reducible assumption | with_reducible exact cr_bs hC | rfl) (by first | with_reducible assumption | with_reducible exact cr_bn hC | exact Nat.le_of_ble_eq_true rfl) (cr_1152_45 hC) kk) ?_
  refine Sx.up (fun _ kk => r_callV (M := mX11_year) (pc := 36) 39 dX11_year_36 rfl k11_272 hcp rfl rfl (by first | with_reducible assumption | with_reducible exact cr_bs hC | rfl) (by decide) rfl (by first | with_reducible assumption | with_reducible exact cr_bn hC | exact Nat.le_of_ble_eq_true rfl) (Nat.le_of_ble_eq_true rfl) kk) ?_
  refine Sx.up (fun _ kk => r_iconst (0) 40 dX11_year_39 rfl (by decide) kk) ?_
  refine Sx.up (fun _ kk => r_istore 42 dX11_year_40 rfl (by decide) rfl kk) ?_
  exact loop E1 t1
  · intro E2 t2
    refine Sx.up (fun _ kk => r_iload 44 dX11_year_42 rfl rfl kk) ?_
    refine Sx.up (fun _ kk => r_iload_n 45 dX11_year_44 rfl rfl kk) ?_
    refine Sx.up (fun _ kk => r_icmp_ge 48 106 dX11_year_45 rfl (by decide) (fun _ => kk) (fun h45 => absurd (nI_le (Nat.le_refl _) (by omega)) h45)) ?_
    refine Sx.up (fun _ kk => r_iload_n 107 dX11_year_106 rfl rfl kk) ?_
    refine Sx.br (fun _ ka kb => r_if_ne 110 113 dX11_year_107 rfl (by decide) ka kb) (by first | exact em1 | exact em2) (fun h107 => ?_) (fun h107 => ?_)
    · refine Sx.up (fun _ kk => r_iload_n 114 dX11_year_113 rfl rfl kk) ?_
      refine Sx.up (fun _ kk => r_iconst (1) 115 dX11_year_114 rfl (by decide) kk) ?_
      refine Sx.br (fun _ ka kb => r_icmp_ne 118 123 dX11_year_115 rfl (by decide) ka kb) (by first | exact em1 | exact em2) (fun h115 => ?_) (fun h115 => ?_)
      · refine Sx.up (fun _ kk => r_iload 125 dX11_year_123 rfl rfl kk) ?_
        refine ⟨_, ?_, r_iret dX11_year_125 rfl rfl rfl⟩
        refine ⟨E2, ?_, t2.1⟩
        first | rw [if_pos h107] | rw [if_neg h107, if_pos h115] | rw [if_neg h107, if_neg h115]
      · refine Sx.up (fun _ kk => r_iload 120 dX11_year_118 rfl rfl kk) ?_
        refine Sx.up (fun _ kk => r_goto 125 dX11_year_120 (by decide) kk) ?_
        refine ⟨_, ?_, r_iret dX11_year_125 rfl rfl rfl⟩
        refine ⟨E2, ?_, t2.1⟩
        first | rw [if_pos h107] | rw [if_neg h107, if_pos h115] | rw [if_neg h107, if_neg h115]
    · refine Sx.up (fun _ kk => r_iload 112 dX11_year_110 rfl rfl kk) ?_
      refine ⟨_, ?_, r_iret dX11_year_112 rfl rfl rfl⟩
      refine ⟨E2, ?_, t2.1⟩
      first | rw [if_pos h107] | rw [if_neg h107, if_pos h115] | rw [if_neg h107, if_neg h115]
  · intro k9 E2 hk0 hk9 t2 hq
    obtain ⟨E3, t3, hdr⟩ := tr_draw (d := d + 5) (s := (yeS (slC E b) (nI m) x L (cU (cfgP E 46)) k9).1) hci t2
    have hC2 := cr_kr t2.1.2 hC
    have hC3 := cr_kr t3.1.2 hC
    have t3 : TR E E3 b L (cOut (cfgP E 46) (yeS (slC E b) (nI m) x L (cU (cfgP E 46)) (k9 + 1)).2) (gI E 519 46) := t3
    have ov : NVis E3 b 75 (vOut E b L R (yeS (slC E b) (nI m) x L (cU (cfgP E 46)) (k9 + 1)).2) := tr_nvis t3 hci cok
    have cmi2 : gI E3 7 b = nI m := (fr_gI t3.1.1 (qq_no hb (by omega)) _).trans cmi
    obtain ⟨E4, ⟨f1, f2, f3, f4⟩, hcl⟩ := c_X11_passTrial (d := d + 1) hC3 ov cok.2.2.2.2.1 m6 cmi2
    have t4 := tr_pass hb t3 f1 f2
    have hgo := hq E4 t4
    have hA : (yeA (fun k => nS (nightF (vOut E b L R (yeS (slC E b) (nI m) x L (cU (cfgP E 46)) (k + 1)).2) m) 2) (k9 + 1)) = ((yeA (fun k => nS (nightF (vOut E b L R (yeS (slC E b) (nI m) x L (cU (cfgP E 46)) (k + 1)).2) m) 2) k9).1 + (fun k => nS (nightF (vOut E b L R (yeS (slC E b) (nI m) x L (cU (cfgP E 46)) (k + 1)).2) m) 2) k9, maxF (yeA (fun k => nS (nightF (vOut E b L R (yeS (slC E b) (nI m) x L (cU (cfgP E 46)) (k + 1)).2) m) 2) k9).2.1 ((fun k => nS (nightF (vOut E b L R (yeS (slC E b) (nI m) x L (cU (cfgP E 46)) (k + 1)).2) m) 2) k9), (yeA (fun k => nS (nightF (vOut E b L R (yeS (slC E b) (nI m) x L (cU (cfgP E 46)) (k + 1)).2) m) 2) k9).2.2 + (if (fun k => nS (nightF (vOut E b L R (yeS (slC E b) (nI m) x L (cU (cfgP E 46)) (k + 1)).2) m) 2) k9 = 0 then 1 else 0)) := rfl
    refine Sx.up (fun _ kk => r_iload 44 dX11_year_42 rfl rfl kk) ?_
    refine Sx.up (fun _ kk => r_iload_n 45 dX11_year_44 rfl rfl kk) ?_
    refine Sx.up (fun _ kk => r_icmp_ge 48 106 dX11_year_45 rfl (by decide) (fun h45 => absurd h45 (nI_ge hk9 (by omega))) (fun _ => kk)) ?_
    refine Sx.up (fun _ kk => r_aload_n 49 dX11_year_48 rfl rfl kk) ?_
    refine Sx.up (fun _ kk => r_getR 52 dX11_year_49 rfl f11_67 rfl (by first | with_reducible assumption | with_reducible exact cr_bs hC2 | rfl) (by first | with_reducible assumption | with_reducible exact cr_bn hC2 | exact Nat.le_of_ble_eq_true rfl) (cr_1419_0 hC2) kk) ?_
    refine Sx.up (fun _ kk => r_aload_n 53 dX11_year_52 rfl rfl kk) ?_
    refine Sx.up (fun _ kk => r_getR 56 dX11_year_53 rfl f11_28 rfl (by first | with_reducible assumption | with_reducible exact cr_bs hC2 | rfl) (by first | with_reducible assumption | with_reducible exact cr_bn hC2 | exact Nat.le_of_ble_eq_true rfl) (cr_told hC2) kk) ?_
    refine Sx.up (fun _ kk => r_iload 58 dX11_year_56 rfl rfl kk) ?_
    refine Sx.up (fun _ kk => r_callV (M := mX11_year) (pc := 58) 61 dX11_year_58 rfl k11_346 hdr rfl rfl (by first | with_reducible assumption | with_reducible exact cr_bs hC2 | rfl) (by decide) rfl (by first | with_reducible assumption | with_reducible exact cr_bn hC2 | exact Nat.le_of_ble_eq_true rfl) (Nat.le_of_ble_eq_true rfl) kk) ?_
    refine Sx.up (fun _ kk => r_istore 63 dX11_year_61 rfl (by decide) rfl kk) ?_
    refine Sx.up (fun _ kk => r_aload_n 64 dX11_year_63 rfl rfl kk) ?_
    refine Sx.up (fun _ kk => r_callV (M := mX11_year) (pc := 64) 67 dX11_year_64 rfl k11_287 hcl rfl rfl (by first | with_reducible assumption | with_reducible exact cr_bs hC2 | rfl) (by decide) rfl (by first | with_reducible assumption | with_reducible exact cr_bn hC2 | exact Nat.le_of_ble_eq_true rfl) (Nat.le_of_ble_eq_true rfl) kk) ?_
    refine Sx.up (fun _ kk => r_istore 69 dX11_year_67 rfl (by decide) rfl kk) ?_
    refine Sx.up (fun _ kk => r_iload 71 dX11_year_69 rfl rfl kk) ?_
    refine Sx.up (fun _ kk => r_iload 73 dX11_year_71 rfl rfl kk) ?_
    refine Sx.up (fun _ kk => r_iadd 74 dX11_year_73 rfl kk) ?_
    refine Sx.up (fun _ kk => r_istore 76 dX11_year_74 rfl (by decide) rfl kk) ?_
    refine Sx.up (fun _ kk => r_iload 78 dX11_year_76 rfl rfl kk) ?_
    refine Sx.up (fun _ kk => r_iload 80 dX11_year_78 rfl rfl kk) ?_
    refine Sx.up (fun _ kk => r_max 83 dX11_year_80 rfl k11_350 (Nat.le_of_ble_eq_true rfl) kk) ?_
    refine Sx.up (fun _ kk => r_istore 85 dX11_year_83 rfl (by decide) rfl kk) ?_
    refine Sx.up (fun _ kk => r_iload 87 dX11_year_85 rfl rfl kk) ?_
    refine Sx.up (fun _ kk => r_iload 89 dX11_year_87 rfl rfl kk) ?_
    refine Sx.br (fun _ ka kb => r_if_ne 92 96 dX11_year_89 rfl (by decide) ka kb) (by first | exact em1 | exact em2) (fun h89 => ?_) (fun h89 => ?_)
    · refine Sx.up (fun _ kk => r_iconst (0) 97 dX11_year_96 rfl (by decide) kk) ?_
      refine Sx.up (fun _ kk => r_iadd 98 dX11_year_97 rfl kk) ?_
      refine Sx.up (fun _ kk => r_istore 100 dX11_year_98 rfl (by decide) rfl kk) ?_
      refine Sx.up (fun _ kk => r_iinc (1) 103 dX11_year_100 rfl rfl (by decide) (by decide) rfl kk) ?_
      refine Sx.up (fun _ kk => r_goto 42 dX11_year_103 (by decide) kk) ?_
      rw [hA, if_neg h89] at hgo
      rw [nI_pp]
      exact Sx.less (by exact ⟨rfl, rfl, rfl, rfl, rfl, rfl, rfl, rfl, rfl, trivial⟩) hgo
    · refine Sx.up (fun _ kk => r_iconst (1) 93 dX11_year_92 rfl (by decide) kk) ?_
      refine Sx.up (fun _ kk => r_goto 97 dX11_year_93 (by decide) kk) ?_
      refine Sx.up (fun _ kk => r_iadd 98 dX11_year_97 rfl kk) ?_
      refine Sx.up (fun _ kk => r_istore 100 dX11_year_98 rfl (by decide) rfl kk) ?_
      refine Sx.up (fun _ kk => r_iinc (1) 103 dX11_year_100 rfl rfl (by decide) (by decide) rfl kk) ?_
      refine Sx.up (fun _ kk => r_goto 42 dX11_year_103 (by decide) kk) ?_
      rw [hA, if_pos h89] at hgo
      rw [nI_pp]
      exact Sx.less (by exact ⟨rfl, rfl, rfl, rfl, rfl, rfl, rfl, rfl, rfl, trivial⟩) hgo
set_option maxRecDepth 20000 in
theorem x_year1 {d b L m : Nat} {R : List Int32} {E : HP} {x y w : Int32} (hci : CI E b L m R) (h : ¬ inB w 3) : Cl yX11_year mX11_year (d + 8) 1 6 [.ref 0, .int (x), .int (y), .int (w)] E 137 (.inr nseN, E, 137) := by
  have hC := hci.1
  have cL := hci.2.1
  have l7 : L ≤ 7 := hci.2.2.2.1.2.1
  refine Cl.of (by decide) rfl (fun q => by cases q) rfl rfl (Nat.le_of_ble_eq_true rfl) ?_
  show Sm _ _ _ _ _ 0 [some (.ref 0), some (.int (x)), some (.int (y)), some (.int (w)), none, none, none, none, none, none] [] _ _
  refine r_aload_n 1 dX11_year_0 rfl rfl ?_
  refine r_iload_n 2 dX11_year_1 rfl rfl ?_
  refine r_iconst (3) 3 dX11_year_2 rfl (by decide) ?_
  exact r_callVX (M := mX11_year) (pc := 3) dX11_year_3 k11_192 (x_checkNumber h) rfl rfl (by first | with_reducible assumption | with_reducible exact cr_bs hC | rfl) (by decide) rfl (by first | with_reducible assumption | with_reducible exact cr_bn hC | exact Nat.le_of_ble_eq_true rfl) (Nat.le_of_ble_eq_true rfl) rfl rfl (rfl)
set_option maxRecDepth 20000 in
theorem x_year2 {d b L m : Nat} {R : List Int32} {E : HP} {x y w : Int32} (hci : CI E b L m R) (hw : inB w 3) (h : ¬ inC y 40) : Cl yX11_year mX11_year (d + 8) 1 6 [.ref 0, .int (x), .int (y), .int (w)] E 137 (.inr iaeN, E, 137) := by
  have hC := hci.1
  have cL := hci.2.1
  have l7 : L ≤ 7 := hci.2.2.2.1.2.1
  refine Cl.of (by decide) rfl (fun q => by cases q) rfl rfl (Nat.le_of_ble_eq_true rfl) ?_
  show Sm _ _ _ _ _ 0 [some (.ref 0), some (.int (x)), some (.int (y)), some (.int (w)), none, none, none, none, none, none] [] _ _
  refine r_aload_n 1 dX11_year_0 rfl rfl ?_
  refine r_iload_n 2 dX11_year_1 rfl rfl ?_
  refine r_iconst (3) 3 dX11_year_2 rfl (by decide) ?_
  refine r_callV (M := mX11_year) (pc := 3) 6 dX11_year_3 rfl k11_192 (c_X11_checkNumber hw) rfl rfl (by first | with_reducible assumption | with_reducible exact cr_bs hC | rfl) (by decide) rfl (by first | with_reducible assumption | with_reducible exact cr_bn hC | exact Nat.le_of_ble_eq_true rfl) (Nat.le_of_ble_eq_true rfl) ?_
  refine r_aload_n 7 dX11_year_6 rfl rfl ?_
  refine r_iload_n 8 dX11_year_7 rfl rfl ?_
  refine r_bipush (40) 10 dX11_year_8 rfl (by decide) ?_
  exact r_callVX (M := mX11_year) (pc := 10) dX11_year_10 k11_256 (x_checkBound h) rfl rfl (by first | with_reducible assumption | with_reducible exact cr_bs hC | rfl) (by decide) rfl (by first | with_reducible assumption | with_reducible exact cr_bn hC | exact Nat.le_of_ble_eq_true rfl) (Nat.le_of_ble_eq_true rfl) rfl rfl (rfl)
