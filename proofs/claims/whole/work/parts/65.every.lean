/-! The class: toldSleeper, every -/
set_option maxRecDepth 20000 in
theorem c_X11_toldSleeper {d b L m s : Nat} {R : List Int32} {E : HP} (hci : CI E b L m R) (hs : s < L) : Cl yX11_toldSleeper mX11_toldSleeper (d + 2) 0 0 [.ref 0, .int (nI s)] E 137 (.inl (some (.ref (b + 12 + s))), E, 137) := by
  have hC := hci.1
  have cL := hci.2.1
  have l7 : L ≤ 7 := hci.2.2.2.1.2.1
  have hwh := c_X0_who (d := d + 1) (s := nI s) (cr_bed hC)
  rw [whoId_nI (by omega)] at hwh
  refine Cl.of (by decide) rfl (fun q => by cases q) rfl rfl (Nat.le_of_ble_eq_true rfl) ?_
  show Sm _ _ _ _ _ 0 [some (.ref 0), some (.int (nI s))] [] _ _
  refine r_aload_n 1 dX11_toldSleeper_0 rfl rfl ?_
  refine r_iload_n 2 dX11_toldSleeper_1 rfl rfl ?_
  refine r_aload_n 3 dX11_toldSleeper_2 rfl rfl ?_
  refine r_getR 6 dX11_toldSleeper_3 rfl f11_28 rfl (by first | with_reducible assumption | with_reducible exact cr_bs hC | rfl) (by first | with_reducible assumption | with_reducible exact cr_bn hC | exact Nat.le_of_ble_eq_true rfl) (cr_told hC) ?_
  refine r_getIV (nI L) 9 dX11_toldSleeper_6 rfl f11_101 rfl (by first | with_reducible assumption | with_reducible exact cr_bs hC | rfl) (by first | with_reducible assumption | with_reducible exact cr_bn hC | exact Nat.le_of_ble_eq_true rfl) (cL) ?_
  refine r_callV (M := mX11_toldSleeper) (pc := 9) 12 dX11_toldSleeper_9 rfl k11_192 (c_X11_checkNumber (inB_of hs (by omega))) rfl rfl (by first | with_reducible assumption | with_reducible exact cr_bs hC | rfl) (by decide) rfl (by first | with_reducible assumption | with_reducible exact cr_bn hC | exact Nat.le_of_ble_eq_true rfl) (Nat.le_of_ble_eq_true rfl) ?_
  refine r_aload_n 13 dX11_toldSleeper_12 rfl rfl ?_
  refine r_getR 16 dX11_toldSleeper_13 rfl f11_28 rfl (by first | with_reducible assumption | with_reducible exact cr_bs hC | rfl) (by first | with_reducible assumption | with_reducible exact cr_bn hC | exact Nat.le_of_ble_eq_true rfl) (cr_told hC) ?_
  refine r_iload_n 17 dX11_toldSleeper_16 rfl rfl ?_
  refine r_callV (M := mX11_toldSleeper) (pc := 17) 20 dX11_toldSleeper_17 rfl k11_195 hwh rfl rfl (by first | with_reducible assumption | with_reducible exact cr_bs hC | rfl) (by decide) rfl (by first | with_reducible assumption | with_reducible exact cr_bn hC | exact Nat.le_of_ble_eq_true rfl) (Nat.le_of_ble_eq_true rfl) ?_
  exact r_aret dX11_toldSleeper_20 rfl rfl (rfl)
set_option maxRecDepth 20000 in
theorem x_toldSleeper {d b L m s : Nat} {R : List Int32} {E : HP} {x : Int32} (hci : CI E b L m R) (h : ¬ inB x (nI L)) : Cl yX11_toldSleeper mX11_toldSleeper (d + 2) 1 6 [.ref 0, .int x] E 137 (.inr nseN, E, 137) := by
  have hC := hci.1
  have cL := hci.2.1
  have l7 : L ≤ 7 := hci.2.2.2.1.2.1
  refine Cl.of (by decide) rfl (fun q => by cases q) rfl rfl (Nat.le_of_ble_eq_true rfl) ?_
  show Sm _ _ _ _ _ 0 [some (.ref 0), some (.int (x))] [] _ _
  refine r_aload_n 1 dX11_toldSleeper_0 rfl rfl ?_
  refine r_iload_n 2 dX11_toldSleeper_1 rfl rfl ?_
  refine r_aload_n 3 dX11_toldSleeper_2 rfl rfl ?_
  refine r_getR 6 dX11_toldSleeper_3 rfl f11_28 rfl (by first | with_reducible assumption | with_reducible exact cr_bs hC | rfl) (by first | with_reducible assumption | with_reducible exact cr_bn hC | exact Nat.le_of_ble_eq_true rfl) (cr_told hC) ?_
  refine r_getIV (nI L) 9 dX11_toldSleeper_6 rfl f11_101 rfl (by first | with_reducible assumption | with_reducible exact cr_bs hC | rfl) (by first | with_reducible assumption | with_reducible exact cr_bn hC | exact Nat.le_of_ble_eq_true rfl) (cL) ?_
  exact r_callVX (M := mX11_toldSleeper) (pc := 9) dX11_toldSleeper_9 k11_192 (x_checkNumber h) rfl rfl (by first | with_reducible assumption | with_reducible exact cr_bs hC | rfl) (by decide) rfl (by first | with_reducible assumption | with_reducible exact cr_bn hC | exact Nat.le_of_ble_eq_true rfl) (Nat.le_of_ble_eq_true rfl) rfl rfl (rfl)
theorem who_of {E : HP} {b L m s : Nat} {R : List Int32} (h : CI E b L m R) (hs : s < L) : sh (b + 12 + s) = (8, 0) ∧ b + 12 + s < 137 ∧ gI E 1024 (b + 12 + s) = slC E b 1 s := by
  have l7 : L ≤ 7 := h.2.2.2.1.2.1
  have hb := h.1.1
  have := who_sh (cr_bed h.1) (nI s)
  rw [whoId_nI (by omega)] at this
  exact ⟨this.1, this.2, by rw [slC_lt (by omega)]⟩
theorem cok_say {b L m s e : Nat} {R : List Int32} {E : HP} (h : CI E b L m R) (hs : s < L) (he : e ≤ 240) : cokN L L (cSay (cfgP E 46) (nI s) (nI e)) := by
  obtain ⟨k1, k2, k3, k4, k5, k6, k7⟩ := h.2.2.2.1
  refine ⟨k1, k2, k3, k4, ⟨e, he, rfl⟩, fun z => ?_, k7⟩
  obtain ⟨i, hi, e1⟩ := h.2.2.2.2.1 s hs
  refine ⟨i, hi, ?_⟩
  show cO (cfgP E 46) i = if nI e = 0 then -1 else nI s
  rw [if_neg (fun y => by rw [show cE (cSay (cfgP E 46) (nI s) (nI e)) = nI e from rfl, y] at z; exact absurd z (by decide))]
  exact e1
def vSay (E : HP) (b L : Nat) (R : List Int32) (s e : Nat) : NV := vMk L (slC E b) (gI E 8 b) R (cSay (cfgP E 46) (nI s) (nI e)) (gI E 519 46)
/-- the first k of w by which the least comes: it and how much -/
def bestF (w : Nat → Int32) : Nat → Int32 × Int32
  | 0 => (-1, -1)
  | k + 1 => if (bestF w k).1 = -1 ∨ w k < (bestF w k).2 then (nI k, w k) else bestF w k
theorem bestF_y {w : Nat → Int32} {k : Nat} (h : (bestF w k).1 = -1 ∨ w k < (bestF w k).2) : bestF w (k + 1) = (nI k, w k) := if_pos h
theorem bestF_n {w : Nat → Int32} {k : Nat} (h1 : ¬ (bestF w k).1 = -1) (h2 : ¬ w k < (bestF w k).2) : bestF w (k + 1) = bestF w k := if_neg (fun z => z.elim h1 h2)
set_option maxRecDepth 20000 in
theorem c_X11_every {d b L m s : Nat} {R : List Int32} {E : HP} {w : Int32} (hci : CI E b L m R) (hs : s < L) (hw : inB w 2) (h3 : ¬ slC E b 1 s = 3) : ∃ o, (∃ E2, o = (.inl (some (.int (if w = 0 then (bestF (fun e => nS (nightF (vSay E b L R s e) m) 2) 241).1 else (bestF (fun e => nS (nightF (vSay E b L R s e) m) 2) 241).2))), E2, 137) ∧ QF b E E2) ∧ Cl yX11_every mX11_every (d + 8) 1 6 [.ref 0, .int (nI s), .int w] E 137 o := by
  obtain ⟨hC, cL, c51, cok, csu, crl, c87, ⟨m1, m6, cmi⟩, cfr⟩ := id hci
  obtain ⟨E1, t1, hcp⟩ := c_copy (d := d + 5) hci
  have hC1 := cr_kr t1.1.2 hC
  have l7 := cok.2.1
  have hb := hC.1
  obtain ⟨ws, wn, wk⟩ := who_of hci hs
  have hts := c_X11_toldSleeper (d := d + 5) hci hs
  refine Cx.of (by decide) rfl (fun q => by cases q) rfl rfl (Nat.le_of_ble_eq_true rfl) ?_
  show Sx _ _ _ _ _ 0 [some (.ref 0), some (.int (nI s)), some (.int w), none, none, none, none, none] [] _ _
  have loop := sxUp (S := fun k9 E2 => Sx mX11_every (d + 8) 1 6 (fun o => ∃ E2, o = (.inl (some (.int (if w = 0 then (bestF (fun e => nS (nightF (vSay E b L R s e) m) 2) 241).1 else (bestF (fun e => nS (nightF (vSay E b L R s e) m) 2) 241).2))), E2, 137) ∧ QF b E E2) 51 [some (.ref 0), some (.int (nI s)), some (.int w), none, some (.int (bestF (fun e => nS (nightF (vSay E b L R s e) m) 2) k9).1), some (.int (bestF (fun e => nS (nightF (vSay E b L R s e) m) 2) k9).2), some (.int (nI k9)), none] [] E2 137) (Inv := fun k9 E2 => ∃ c, TR E E2 b L c (gI E 519 46) ∧ ∀ s e, cSay c s e = cSay (cfgP E 46) s e) (a := 0) (l := 241) (by omega) ?_ ?_
  refine Sx.up (fun _ kk => r_aload_n 1 dX11_every_0 rfl rfl kk) ?_
  refine Sx.up (fun _ kk => r_iload_n 2 dX11_every_1 rfl rfl kk) ?_
  refine Sx.up (fun _ kk => r_callV (M := mX11_every) (pc := 2) 5 dX11_every_2 rfl k11_159 hts rfl rfl (by first | with_reducible assumption | with_reducible exact cr_bs hC | rfl) (by decide) rfl (by first | with_reducible assumption | with_reducible exact cr_bn hC | exact Nat.le_of_ble_eq_true rfl) (Nat.le_of_ble_eq_true rfl) kk) ?_
  refine Sx.up (fun _ kk => r_astore_n 6 dX11_every_5 rfl (by decide) rfl kk) ?_
  refine Sx.up (fun _ kk => r_aload_n 7 dX11_every_6 rfl rfl kk) ?_
  refine Sx.up (fun _ kk => r_iload_n 8 dX11_every_7 rfl rfl kk) ?_
  refine Sx.up (fun _ kk => r_iconst (2) 9 dX11_every_8 rfl (by decide) kk) ?_
  refine Sx.up (fun _ kk => r_callV (M := mX11_every) (pc := 9) 12 dX11_every_9 rfl k11_192 (c_X11_checkNumber hw) rfl rfl (by first | with_reducible assumption | with_reducible exact cr_bs hC | rfl) (by decide) rfl (by first | with_reducible assumption | with_reducible exact cr_bn hC | exact Nat.le_of_ble_eq_true rfl) (Nat.le_of_ble_eq_true rfl) kk) ?_
  refine Sx.up (fun _ kk => r_aload_n 13 dX11_every_12 rfl rfl kk) ?_
  refine Sx.up (fun _ kk => r_getIV (slC E b 1 s) 16 dX11_every_13 rfl f11_163 rfl (by first | with_reducible assumption | with_reducible exact cr_bs hC | rfl) (by first | with_reducible assumption | with_reducible exact cr_bn hC | exact Nat.le_of_ble_eq_true rfl) (wk) kk) ?_
  refine Sx.up (fun _ kk => r_iconst (3) 17 dX11_every_16 rfl (by decide) kk) ?_
  refine Sx.up (fun _ kk => r_icmp_ne 20 28 dX11_every_17 rfl (by decide) (fun _ => kk) (fun h17 => absurd h17 h3)) ?_
  refine Sx.up (fun _ kk => r_iconst (-1) 29 dX11_every_28 rfl (by decide) kk) ?_
  refine Sx.up (fun _ kk => r_istore 31 dX11_every_29 rfl (by decide) rfl kk) ?_
  refine Sx.up (fun _ kk => r_iconst (-1) 32 dX11_every_31 rfl (by decide) kk) ?_
  refine Sx.up (fun _ kk => r_istore 34 dX11_every_32 rfl (by decide) rfl kk) ?_
  refine Sx.up (fun _ kk => r_aload_n 35 dX11_every_34 rfl rfl kk) ?_
  refine Sx.up (fun _ kk => r_getR 38 dX11_every_35 rfl f11_67 rfl (by first | with_reducible assumption | with_reducible exact cr_bs hC | rfl) (by first | with_reducible assumption | with_reducible exact cr_bn hC | exact Nat.le_of_ble_eq_true rfl) (cr_1419_0 hC) kk) ?_
  refine Sx.up (fun _ kk => r_aload_n 39 dX11_every_38 rfl rfl kk) ?_
  refine Sx.up (fun _ kk => r_getR 42 dX11_every_39 rfl f11_47 rfl (by first | with_reducible assumption | with_reducible exact cr_bs hC | rfl) (by first | with_reducible assumption | with_reducible exact cr_bn hC | exact Nat.le_of_ble_eq_true rfl) (cr_1414_0 hC) kk) ?_
  refine Sx.up (fun _ kk => r_getR 45 dX11_every_42 rfl f11_116 rfl (by first | with_reducible assumption | with_reducible exact cr_bs hC | rfl) (by first | with_reducible assumption | with_reducible exact cr_bn hC | exact Nat.le_of_ble_eq_true rfl) (cr_1152_45 hC) kk) ?_
  refine Sx.up (fun _ kk => r_callV (M := mX11_every) (pc := 45) 48 dX11_every_45 rfl k11_272 hcp rfl rfl (by first | with_reducible assumption | with_reducible exact cr_bs hC | rfl) (by decide) rfl (by first | with_reducible assumption | with_reducible exact cr_bn hC | exact Nat.le_of_ble_eq_true rfl) (Nat.le_of_ble_eq_true rfl) kk) ?_
  refine Sx.up (fun _ kk => r_iconst (0) 49 dX11_every_48 rfl (by decide) kk) ?_
  refine Sx.up (fun _ kk => r_istore 51 dX11_every_49 rfl (by decide) rfl kk) ?_
  refine Sx.less (ls := [some (.ref 0), some (.int (nI s)), some (.int w), none, some (.int (-1)), some (.int (-1)), some (.int (nI 0)), none]) ⟨rfl, rfl, rfl, rfl, rfl, rfl, trivial⟩ (loop E1 ⟨_, t1, fun _ _ => rfl⟩)
  · intro E2 ⟨c, t2, hce⟩
    refine Sx.up (fun _ kk => r_iload 53 dX11_every_51 rfl rfl kk) ?_
    refine Sx.up (fun _ kk => r_sipush (240) 56 dX11_every_53 rfl (by decide) kk) ?_
    refine Sx.up (fun _ kk => r_icmp_gt 59 102 dX11_every_56 rfl (by decide) (fun _ => kk) (fun h56 => absurd (nI_lt (a := 240) (by omega) (by omega)) h56)) ?_
    refine Sx.up (fun _ kk => r_iload_n 103 dX11_every_102 rfl rfl kk) ?_
    refine Sx.br (fun _ ka kb => r_if_ne 106 111 dX11_every_103 rfl (by decide) ka kb) (by first | exact em1 | exact em2) (fun h103 => ?_) (fun h103 => ?_)
    · refine Sx.up (fun _ kk => r_iload 113 dX11_every_111 rfl rfl kk) ?_
      refine ⟨_, ?_, r_iret dX11_every_113 rfl rfl rfl⟩
      refine ⟨E2, ?_, t2.1⟩
      first | rw [if_pos h103] | rw [if_neg h103]
    · refine Sx.up (fun _ kk => r_iload 108 dX11_every_106 rfl rfl kk) ?_
      refine Sx.up (fun _ kk => r_goto 113 dX11_every_108 (by decide) kk) ?_
      refine ⟨_, ?_, r_iret dX11_every_113 rfl rfl rfl⟩
      refine ⟨E2, ?_, t2.1⟩
      first | rw [if_pos h103] | rw [if_neg h103]
  · intro k9 E2 hk0 hk9 ⟨c, t2, hce⟩ hq
    have t3 := tr_say (s := nI s) (e := nI k9) t2
    rw [hce] at t3
    have hC2 := cr_kr t2.1.2 hC
    have hC3 := cr_kr t3.1.2 hC
    have ok9 := cok_say hci hs (show k9 ≤ 240 by omega)
    have ov : NVis _ b 75 (vSay E b L R s k9) := tr_nvis t3 hci ok9
    have cmi2 : gI (plSay E2 75 (nI s) (nI k9)) 7 b = nI m := (fr_gI t3.1.1 (qq_no hb (by omega)) _).trans cmi
    obtain ⟨E3, ⟨f1, f2, f3, f4⟩, hcl⟩ := c_X11_passTrial (d := d + 1) hC3 ov ok9.2.2.2.2.1 m6 cmi2
    have t4 := tr_pass hb t3 f1 f2
    have hle := c_X4_letSay (d := d + 7) (n := 137) (p := 75) (s := nI s) (e := nI k9) (E := E2) rfl (by decide)
    have hgo := hq E3 ⟨_, t4, fun _ _ => rfl⟩
    refine Sx.up (fun _ kk => r_iload 53 dX11_every_51 rfl rfl kk) ?_
    refine Sx.up (fun _ kk => r_sipush (240) 56 dX11_every_53 rfl (by decide) kk) ?_
    refine Sx.up (fun _ kk => r_icmp_gt 59 102 dX11_every_56 rfl (by decide) (fun h56 => absurd h56 (nI_nlt (a := 240) (by omega) (by omega))) (fun _ => kk)) ?_
    refine Sx.up (fun _ kk => r_aload_n 60 dX11_every_59 rfl rfl kk) ?_
    refine Sx.up (fun _ kk => r_getR 63 dX11_every_60 rfl f11_67 rfl (by first | with_reducible assumption | with_reducible exact cr_bs hC2 | rfl) (by first | with_reducible assumption | with_reducible exact cr_bn hC2 | exact Nat.le_of_ble_eq_true rfl) (cr_1419_0 hC2) kk) ?_
    refine Sx.up (fun _ kk => r_iload_n 64 dX11_every_63 rfl rfl kk) ?_
    refine Sx.up (fun _ kk => r_iload 66 dX11_every_64 rfl rfl kk) ?_
    refine Sx.up (fun _ kk => r_callV (M := mX11_every) (pc := 66) 69 dX11_every_66 rfl k11_212 hle rfl rfl (by first | with_reducible assumption | with_reducible exact cr_bs hC2 | rfl) (by decide) rfl (by first | with_reducible assumption | with_reducible exact cr_bn hC2 | exact Nat.le_of_ble_eq_true rfl) (Nat.le_of_ble_eq_true rfl) kk) ?_
    refine Sx.up (fun _ kk => r_aload_n 70 dX11_every_69 rfl rfl kk) ?_
    refine Sx.up (fun _ kk => r_callV (M := mX11_every) (pc := 70) 73 dX11_every_70 rfl k11_287 hcl rfl rfl (by first | with_reducible assumption | with_reducible exact cr_bs hC2 | rfl) (by decide) rfl (by first | with_reducible assumption | with_reducible exact cr_bn hC2 | exact Nat.le_of_ble_eq_true rfl) (Nat.le_of_ble_eq_true rfl) kk) ?_
    refine Sx.up (fun _ kk => r_istore 75 dX11_every_73 rfl (by decide) rfl kk) ?_
    refine Sx.up (fun _ kk => r_iload 77 dX11_every_75 rfl rfl kk) ?_
    refine Sx.up (fun _ kk => r_iconst (-1) 78 dX11_every_77 rfl (by decide) kk) ?_
    refine Sx.br (fun _ ka kb => r_icmp_eq 81 88 dX11_every_78 rfl (by decide) ka kb) (by first | exact em1 | exact em2) (fun h78 => ?_) (fun h78 => ?_)
    · refine Sx.up (fun _ kk => r_iload 90 dX11_every_88 rfl rfl kk) ?_
      refine Sx.up (fun _ kk => r_istore 92 dX11_every_90 rfl (by decide) rfl kk) ?_
      refine Sx.up (fun _ kk => r_iload 94 dX11_every_92 rfl rfl kk) ?_
      refine Sx.up (fun _ kk => r_istore 96 dX11_every_94 rfl (by decide) rfl kk) ?_
      refine Sx.up (fun _ kk => r_iinc (1) 99 dX11_every_96 rfl rfl (by decide) (by decide) rfl kk) ?_
      refine Sx.up (fun _ kk => r_goto 51 dX11_every_99 (by decide) kk) ?_
      rw [bestF_y (Or.inl h78)] at hgo
      rw [nI_pp]
      refine Sx.less (ls := [some (.ref 0), some (.int (nI s)), some (.int w), none, some (.int (nI k9)), some (.int (nS (nightF (vSay E b L R s k9) m) 2)), some (.int (nI (k9 + 1))), none]) ⟨rfl, rfl, rfl, rfl, rfl, rfl, trivial⟩ ?_
      exact hgo
    · refine Sx.up (fun _ kk => r_iload 83 dX11_every_81 rfl rfl kk) ?_
      refine Sx.up (fun _ kk => r_iload 85 dX11_every_83 rfl rfl kk) ?_
      refine Sx.br (fun _ ka kb => r_icmp_ge 88 96 dX11_every_85 rfl (by decide) ka kb) (by first | exact em1 | exact em2) (fun h85 => ?_) (fun h85 => ?_)
      · refine Sx.up (fun _ kk => r_iinc (1) 99 dX11_every_96 rfl rfl (by decide) (by decide) rfl kk) ?_
        refine Sx.up (fun _ kk => r_goto 51 dX11_every_99 (by decide) kk) ?_
        rw [bestF_n h78 (Int32.not_lt.mpr h85)] at hgo
        rw [nI_pp]
        refine Sx.less (ls := [some (.ref 0), some (.int (nI s)), some (.int w), none, some (.int (bestF (fun e => nS (nightF (vSay E b L R s e) m) 2) k9).1), some (.int (bestF (fun e => nS (nightF (vSay E b L R s e) m) 2) k9).2), some (.int (nI (k9 + 1))), none]) ⟨rfl, rfl, rfl, rfl, rfl, rfl, trivial⟩ ?_
        exact hgo
      · refine Sx.up (fun _ kk => r_iload 90 dX11_every_88 rfl rfl kk) ?_
        refine Sx.up (fun _ kk => r_istore 92 dX11_every_90 rfl (by decide) rfl kk) ?_
        refine Sx.up (fun _ kk => r_iload 94 dX11_every_92 rfl rfl kk) ?_
        refine Sx.up (fun _ kk => r_istore 96 dX11_every_94 rfl (by decide) rfl kk) ?_
        refine Sx.up (fun _ kk => r_iinc (1) 99 dX11_every_96 rfl rfl (by decide) (by decide) rfl kk) ?_
        refine Sx.up (fun _ kk => r_goto 51 dX11_every_99 (by decide) kk) ?_
        rw [bestF_y (Or.inr (Int32.not_le.mp h85))] at hgo
        rw [nI_pp]
        refine Sx.less (ls := [some (.ref 0), some (.int (nI s)), some (.int w), none, some (.int (nI k9)), some (.int (nS (nightF (vSay E b L R s k9) m) 2)), some (.int (nI (k9 + 1))), none]) ⟨rfl, rfl, rfl, rfl, rfl, rfl, trivial⟩ ?_
        exact hgo
set_option maxRecDepth 20000 in
theorem x_every1 {d b L m s : Nat} {R : List Int32} {E : HP} {x w : Int32} (hci : CI E b L m R) (h : ¬ inB x (nI L)) : Cl yX11_every mX11_every (d + 8) 1 6 [.ref 0, .int (x), .int (w)] E 137 (.inr nseN, E, 137) := by
  have hC := hci.1
  have cL := hci.2.1
  have l7 : L ≤ 7 := hci.2.2.2.1.2.1
  refine Cl.of (by decide) rfl (fun q => by cases q) rfl rfl (Nat.le_of_ble_eq_true rfl) ?_
  show Sm _ _ _ _ _ 0 [some (.ref 0), some (.int (x)), some (.int (w)), none, none, none, none, none] [] _ _
  refine r_aload_n 1 dX11_every_0 rfl rfl ?_
  refine r_iload_n 2 dX11_every_1 rfl rfl ?_
  exact r_callVX (M := mX11_every) (pc := 2) dX11_every_2 k11_159 (x_toldSleeper (s := 0) hci h) rfl rfl (by first | with_reducible assumption | with_reducible exact cr_bs hC | rfl) (by decide) rfl (by first | with_reducible assumption | with_reducible exact cr_bn hC | exact Nat.le_of_ble_eq_true rfl) (Nat.le_of_ble_eq_true rfl) rfl rfl (rfl)
set_option maxRecDepth 20000 in
theorem x_every2 {d b L m s : Nat} {R : List Int32} {E : HP} {w : Int32} (hci : CI E b L m R) (hs : s < L) (h : ¬ inB w 2) : Cl yX11_every mX11_every (d + 8) 1 6 [.ref 0, .int (nI s), .int (w)] E 137 (.inr nseN, E, 137) := by
  have hC := hci.1
  have cL := hci.2.1
  have l7 : L ≤ 7 := hci.2.2.2.1.2.1
  have hts := c_X11_toldSleeper (d := d + 5) hci hs
  refine Cl.of (by decide) rfl (fun q => by cases q) rfl rfl (Nat.le_of_ble_eq_true rfl) ?_
  show Sm _ _ _ _ _ 0 [some (.ref 0), some (.int (nI s)), some (.int (w)), none, none, none, none, none] [] _ _
  refine r_aload_n 1 dX11_every_0 rfl rfl ?_
  refine r_iload_n 2 dX11_every_1 rfl rfl ?_
  refine r_callV (M := mX11_every) (pc := 2) 5 dX11_every_2 rfl k11_159 hts rfl rfl (by first | with_reducible assumption | with_reducible exact cr_bs hC | rfl) (by decide) rfl (by first | with_reducible assumption | with_reducible exact cr_bn hC | exact Nat.le_of_ble_eq_true rfl) (Nat.le_of_ble_eq_true rfl) ?_
  refine r_astore_n 6 dX11_every_5 rfl (by decide) rfl ?_
  refine r_aload_n 7 dX11_every_6 rfl rfl ?_
  refine r_iload_n 8 dX11_every_7 rfl rfl ?_
  refine r_iconst (2) 9 dX11_every_8 rfl (by decide) ?_
  exact r_callVX (M := mX11_every) (pc := 9) dX11_every_9 k11_192 (x_checkNumber h) rfl rfl (by first | with_reducible assumption | with_reducible exact cr_bs hC | rfl) (by decide) rfl (by first | with_reducible assumption | with_reducible exact cr_bn hC | exact Nat.le_of_ble_eq_true rfl) (Nat.le_of_ble_eq_true rfl) rfl rfl (rfl)
set_option maxRecDepth 20000 in
theorem x_every3 {d b L m s : Nat} {R : List Int32} {E : HP} {w : Int32} (hci : CI E b L m R) (hs : s < L) (hw : inB w 2) (h3 : slC E b 1 s = 3) : Cl yX11_every mX11_every (d + 8) 1 6 [.ref 0, .int (nI s), .int (w)] E 137 (.inr iaeN, E, 137) := by
  have hC := hci.1
  have cL := hci.2.1
  have l7 : L ≤ 7 := hci.2.2.2.1.2.1
  obtain ⟨ws, wn, wk⟩ := who_of hci hs
  have hts := c_X11_toldSleeper (d := d + 5) hci hs
  refine Cl.of (by decide) rfl (fun q => by cases q) rfl rfl (Nat.le_of_ble_eq_true rfl) ?_
  show Sm _ _ _ _ _ 0 [some (.ref 0), some (.int (nI s)), some (.int (w)), none, none, none, none, none] [] _ _
  refine r_aload_n 1 dX11_every_0 rfl rfl ?_
  refine r_iload_n 2 dX11_every_1 rfl rfl ?_
  refine r_callV (M := mX11_every) (pc := 2) 5 dX11_every_2 rfl k11_159 hts rfl rfl (by first | with_reducible assumption | with_reducible exact cr_bs hC | rfl) (by decide) rfl (by first | with_reducible assumption | with_reducible exact cr_bn hC | exact Nat.le_of_ble_eq_true rfl) (Nat.le_of_ble_eq_true rfl) ?_
  refine r_astore_n 6 dX11_every_5 rfl (by decide) rfl ?_
  refine r_aload_n 7 dX11_every_6 rfl rfl ?_
  refine r_iload_n 8 dX11_every_7 rfl rfl ?_
  refine r_iconst (2) 9 dX11_every_8 rfl (by decide) ?_
  refine r_callV (M := mX11_every) (pc := 9) 12 dX11_every_9 rfl k11_192 (c_X11_checkNumber hw) rfl rfl (by first | with_reducible assumption | with_reducible exact cr_bs hC | rfl) (by decide) rfl (by first | with_reducible assumption | with_reducible exact cr_bn hC | exact Nat.le_of_ble_eq_true rfl) (Nat.le_of_ble_eq_true rfl) ?_
  refine r_aload_n 13 dX11_every_12 rfl rfl ?_
  refine r_getIV (slC E b 1 s) 16 dX11_every_13 rfl f11_163 rfl (by first | with_reducible assumption | with_reducible exact cr_bs hC | rfl) (by first | with_reducible assumption | with_reducible exact cr_bn hC | exact Nat.le_of_ble_eq_true rfl) (wk) ?_
  refine r_iconst (3) 17 dX11_every_16 rfl (by decide) ?_
  refine r_icmp_ne 20 28 dX11_every_17 rfl (by decide) (fun h17 => absurd h17 (fun z => z h3)) (fun h17 => ?_)
  exact r_throw dX11_every_20 rfl rfl rfl dX11_every_23 dX11_every_24 dX11_every_27 tp_iae (Or.inl rfl) rfl rfl rfl (by first | rfl | assumption) (rfl) (by decide)
