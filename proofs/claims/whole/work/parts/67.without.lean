/-! The class: without -/
/-- the plan without the one at place k, whose number is s -/
def cGo (c : Cfg) (L k : Nat) (s : Int32) : Cfg := ((fun j => if j < k then cO c j else if j + 1 < L then cO c (j + 1) else if j + 1 = L then cO c k else cO c j), cU c, cF c, if cS c = s then -1 else cS c, if cS c = s then 0 else cE c, cB c)
theorem cok_go {c : Cfg} {L k s : Nat} (h : cokN L L c) (hk : k < L) (hs : cO c k = nI s) : cokN (L - 1) L (cGo c L k (nI s)) := by
  obtain ⟨k1, k2, k3, k4, ⟨e, he, hE⟩, k6, k7⟩ := h
  have hO : ∀ i, i < L - 1 → cO (cGo c L k (nI s)) i = cO c (if i < k then i else i + 1) := fun i hi => by
    show (if i < k then cO c i else if i + 1 < L then cO c (i + 1) else _) = _
    by_cases h1 : i < k
    · rw [if_pos h1, if_pos h1]
    · rw [if_neg h1, if_neg h1, if_pos (by omega)]
  refine ⟨by omega, k2, fun i hi => ?_, fun i j hi hj h9 => ?_, ?_, fun z => ?_, k7⟩
  · rw [hO i hi]; exact k3 _ (by split <;> omega)
  · rw [hO i hi, hO j hj] at h9
    have := k4 _ _ (by split <;> omega) (by split <;> omega) h9
    split at this <;> split at this <;> omega
  · show ∃ e, e ≤ 240 ∧ (if cS c = nI s then 0 else cE c) = nI e
    by_cases h1 : cS c = nI s
    · rw [if_pos h1]; exact ⟨0, by omega, rfl⟩
    · rw [if_neg h1]; exact ⟨e, he, hE⟩
  · have z' : 0 < (if cS c = nI s then 0 else cE c) := z
    by_cases h1 : cS c = nI s
    · rw [if_pos h1] at z'; exact absurd z' (by decide)
    · rw [if_neg h1] at z'
      obtain ⟨i, hi, e1⟩ := k6 z'
      have hik : ¬ i = k := fun y => h1 (by rw [← e1, y, hs])
      have hS : cS (cGo c L k (nI s)) = cS c := if_neg h1
      by_cases h2 : i < k
      · exact ⟨i, by omega, by rw [hO i (by omega), if_pos h2, hS, e1]⟩
      · exact ⟨i - 1, by omega, by rw [hO (i - 1) (by omega), if_neg (by omega), hS, ← e1, show i - 1 + 1 = i by omega]⟩
noncomputable def frGo (E : HP) (b L s : Nat) : Int32 := freeV E b (nI s) L
noncomputable def vGo (E : HP) (b L : Nat) (R : List Int32) (s : Nat) : NV := vMk (L - 1) (slC E b) (gI E 8 b) R (cGo (cfgP E 46) L (plcF (cO (cfgP E 46)) (nI s) L) (nI s)) (frGo E b L s)
theorem free_qf {E E2 : HP} {b L : Nat} {x : Int32} (h : QF b E E2) (hb : b = 3 ∨ b = 22) (h7 : L ≤ 7) : freeV E2 b x L = freeV E b x L := by
  have ib : ∀ g, gI E2 g b = gI E g b := fun g => fr_gI h.1 (qq_no hb (by omega)) g
  have hn : ∀ k, k ≤ 7 → needV E2 b x k = needV E b x k := by
    intro k
    induction k with
    | zero => intro _; exact ib 6
    | succ k ih =>
      intro hk
      show needV E2 b x k + _ = needV E b x k + _
      rw [ih (by omega), whoId_nI (by omega), fr_gI h.1 (qq_no hb (by omega)) 1028]
  unfold freeV
  rw [ib, hn L h7]
set_option maxRecDepth 20000 in
theorem c_X11_without {d b L m s : Nat} {R : List Int32} {E : HP} (hci : CI E b L m R) (hs : s < L) : ∃ E2, QF b E E2 ∧ Cl yX11_without mX11_without (d + 8) 1 6 [.ref 0, .int (nI s)] E 137 (.inl (some (.int ((nS (nightF (vNow E b L R) m) 2 - byS (vNow E b L R) (nightF (vNow E b L R) m) 3 s) - nS (nightF (vGo E b L R s) m) 2))), E2, 137) := by
  obtain ⟨hC, cL, c51, cok, csu, crl, c87, ⟨m1, m6, cmi⟩, cfr⟩ := id hci
  obtain ⟨E2, ⟨f1, f2, f3, f4⟩, hcl⟩ := c_X11_passNight (d := d + 1) hci
  have hQ : QF b E E2 := qf_pp f1 f2
  obtain ⟨hci2, hv2⟩ := ci_qf hQ hci
  have hC2 := hci2.1
  have hb := hC.1
  have l7 : L ≤ 7 := cok.2.1
  obtain ⟨k, k7, kV, kE, kb, hli⟩ := c_lier (d := d + 5) f4 (sur_now hci hs)
  have hsl := sh_li k7
  have h88 : 88 + k < 137 := by omega
  obtain ⟨E3, t3, hcp⟩ := c_copy (d := d + 5) hci2
  have hC3 := cr_kr t3.1.2 hC2
  obtain ⟨i0, hi0, he0⟩ := csu s hs
  obtain ⟨pa, pb, pc⟩ := plc_hit hi0 he0
  have hcf : cfgP E2 46 = cfgP E 46 := by
    have hq : ∀ k, k < 75 ∧ k ≠ b + 9 ∧ k ≠ b + 11 → ¬ Qq b k := fun k hk => qq_no hb (Or.inl hk)
    unfold cfgP
    rw [fr_gI hQ.1 (hq 46 (by omega)), fr_gI hQ.1 (hq 46 (by omega)), fr_gI hQ.1 (hq 46 (by omega)), fr_gI hQ.1 (hq 46 (by omega)), fr_gA hQ.1 (hq (46 + 2) (by omega)), fr_gA hQ.1 (hq (46 + 4) (by omega))]
  rw [hcf] at t3
  obtain ⟨h1, h2, ⟨e1, e2, e3, e4, e5⟩, h4⟩ := id t3
  have ho : ∀ i, i < L → ordAt E3 75 i = cO (cfgP E 46) i := fun i hi => by unfold ordAt; rw [rAt_nI (by omega) (by omega)]; exact (e1 i (by omega)).1
  have hpv : PV E3 75 L (nI s) (nI (plcF (cO (cfgP E 46)) (nI s) L)) := Or.inl ⟨_, pa, by rw [ho _ pa]; exact pb, fun j hj => by rw [ho j (by omega)]; exact pc j hj, rfl⟩
  obtain ⟨_, ⟨E4, rfl, s1, s2, s3, s4, s5, s6, s7⟩, hlo⟩ := c_X4_leaveOut (d := d + 5) (cr_plan75 hC3) h2 l7 pa hpv
  have hQ4 : QF b E E4 := qf_tr (qf_tr hQ h1) (fr_Qq s2 (fun k hk => by unfold Qq; omega) s1)
  have hC4 := cr_kr hQ4.2 hC
  have cL4 : gI E4 4 b = nI L := (fr_gI hQ4.1 (qq_no hb (by omega)) 4).trans cL
  have hfr := c_X0_isFreeWithout (d := d + 6) (x := nI s) (cr_bed hC4) cL4 l7
  rw [free_qf hQ4 hb l7] at hfr
  have t5 : TR E (sI E4 519 75 (freeV E b (nI s) L)) b (L - 1) (cGo (cfgP E 46) L (plcF (cO (cfgP E 46)) (nI s) L) (nI s)) (frGo E b L s) := by
    refine ⟨qf_sI (Or.inr (Or.inl rfl)) hQ4, ?_, ⟨fun i hi => ⟨?_, ?_⟩, ?_, ?_, ?_, ?_⟩, by rw [gI_sI, if_pos ⟨rfl, rfl⟩]; rfl⟩
    · rw [gI_sI, if_neg (by omega)]; exact s4
    · show gA E4 (75 + 2) i = _
      rw [s3 i]
      show _ = (if i < _ then _ else if _ then _ else if _ then _ else _)
      by_cases g1 : i < plcF (cO (cfgP E 46)) (nI s) L
      · rw [if_pos g1, if_pos g1]; exact (e1 i hi).1
      · rw [if_neg g1, if_neg g1]
        by_cases g2 : i + 1 < L
        · rw [if_pos g2, if_pos g2]; exact (e1 (i + 1) (by omega)).1
        · rw [if_neg g2, if_neg g2]
          by_cases g3 : i + 1 = L
          · rw [if_pos g3, if_pos g3]; exact (e1 _ (by omega)).1
          · rw [if_neg g3, if_neg g3]; exact (e1 i hi).1
    · show gA E4 (75 + 4) i = _
      rw [fr_gA s2 (by decide)]
      exact (e1 i hi).2
    · rw [gI_sI, if_neg (by omega), s7 515 (by decide) (by decide) (by decide)]; exact e2
    · rw [gI_sI, if_neg (by omega), s5, e3]; rfl
    · rw [gI_sI, if_neg (by omega), s6, e3, e4]; rfl
    · rw [gI_sI, if_neg (by omega), s7 518 (by decide) (by decide) (by decide)]; exact e5
  have hC5 := cr_kr t5.1.2 hC
  have ok5 := cok_go cok pa pb
  have ov : NVis _ b 75 (vGo E b L R s) := tr_nvis t5 hci ok5
  have cmi5 : gI (sI E4 519 75 (freeV E b (nI s) L)) 7 b = nI m := (fr_gI t5.1.1 (qq_no hb (by omega)) _).trans cmi
  obtain ⟨E6, ⟨g1, g2, g3, g4⟩, hcl6⟩ := c_X11_passTrial (d := d + 1) hC5 ov ok5.2.2.2.2.1 m6 cmi5
  have t6 := tr_pass hb t5 g1 g2
  have hwo : gI E2 265 80 = nS (nightF (vNow E b L R) m) 2 := f4.2.2.1
  refine ⟨E6, t6.1, ?_⟩
  refine Cl.of (by decide) rfl (fun q => by cases q) rfl rfl (Nat.le_of_ble_eq_true rfl) ?_
  show Sm _ _ _ _ _ 0 [some (.ref 0), some (.int (nI s)), none] [] _ _
  refine r_aload_n 1 dX11_without_0 rfl rfl ?_
  refine r_iload_n 2 dX11_without_1 rfl rfl ?_
  refine r_aload_n 3 dX11_without_2 rfl rfl ?_
  refine r_getR 6 dX11_without_3 rfl f11_28 rfl (by first | with_reducible assumption | with_reducible exact cr_bs hC | rfl) (by first | with_reducible assumption | with_reducible exact cr_bn hC | exact Nat.le_of_ble_eq_true rfl) (cr_told hC) ?_
  refine r_getIV (nI L) 9 dX11_without_6 rfl f11_101 rfl (by first | with_reducible assumption | with_reducible exact cr_bs hC | rfl) (by first | with_reducible assumption | with_reducible exact cr_bn hC | exact Nat.le_of_ble_eq_true rfl) (cL) ?_
  refine r_callV (M := mX11_without) (pc := 9) 12 dX11_without_9 rfl k11_192 (c_X11_checkNumber (inB_of hs (by omega))) rfl rfl (by first | with_reducible assumption | with_reducible exact cr_bs hC | rfl) (by decide) rfl (by first | with_reducible assumption | with_reducible exact cr_bn hC | exact Nat.le_of_ble_eq_true rfl) (Nat.le_of_ble_eq_true rfl) ?_
  refine r_aload_n 13 dX11_without_12 rfl rfl ?_
  refine r_callV (M := mX11_without) (pc := 13) 16 dX11_without_13 rfl k11_224 hcl rfl rfl (by first | with_reducible assumption | with_reducible exact cr_bs hC | rfl) (by decide) rfl (by first | with_reducible assumption | with_reducible exact cr_bn hC | exact Nat.le_of_ble_eq_true rfl) (Nat.le_of_ble_eq_true rfl) ?_
  refine r_aload_n 17 dX11_without_16 rfl rfl ?_
  refine r_getR 20 dX11_without_17 rfl f11_76 rfl (by first | with_reducible assumption | with_reducible exact cr_bs hC | rfl) (by first | with_reducible assumption | with_reducible exact cr_bn hC | exact Nat.le_of_ble_eq_true rfl) (cr_1420_0 hC2) ?_
  refine r_getIV (_) 23 dX11_without_20 rfl f11_230 rfl (by first | with_reducible assumption | with_reducible exact cr_bs hC | rfl) (by first | with_reducible assumption | with_reducible exact cr_bn hC | exact Nat.le_of_ble_eq_true rfl) (hwo) ?_
  refine r_aload_n 24 dX11_without_23 rfl rfl ?_
  refine r_getR 27 dX11_without_24 rfl f11_76 rfl (by first | with_reducible assumption | with_reducible exact cr_bs hC | rfl) (by first | with_reducible assumption | with_reducible exact cr_bn hC | exact Nat.le_of_ble_eq_true rfl) (cr_1420_0 hC2) ?_
  refine r_iload_n 28 dX11_without_27 rfl rfl ?_
  refine r_callV (M := mX11_without) (pc := 28) 31 dX11_without_28 rfl k11_244 hli rfl rfl (by first | with_reducible assumption | with_reducible exact cr_bs hC | rfl) (by decide) rfl (by first | with_reducible assumption | with_reducible exact cr_bn hC | exact Nat.le_of_ble_eq_true rfl) (Nat.le_of_ble_eq_true rfl) ?_
  refine r_getIV (_) 34 dX11_without_31 rfl f11_248 rfl (by first | with_reducible assumption | with_reducible exact cr_bs hC | rfl) (by first | with_reducible assumption | with_reducible exact cr_bn hC | exact Nat.le_of_ble_eq_true rfl) (kb 3 (by decide)) ?_
  refine r_isub 35 dX11_without_34 rfl ?_
  refine r_istore_n 36 dX11_without_35 rfl (by decide) rfl ?_
  refine r_aload_n 37 dX11_without_36 rfl rfl ?_
  refine r_getR 40 dX11_without_37 rfl f11_67 rfl (by first | with_reducible assumption | with_reducible exact cr_bs hC | rfl) (by first | with_reducible assumption | with_reducible exact cr_bn hC | exact Nat.le_of_ble_eq_true rfl) (cr_1419_0 hC2) ?_
  refine r_aload_n 41 dX11_without_40 rfl rfl ?_
  refine r_getR 44 dX11_without_41 rfl f11_47 rfl (by first | with_reducible assumption | with_reducible exact cr_bs hC | rfl) (by first | with_reducible assumption | with_reducible exact cr_bn hC | exact Nat.le_of_ble_eq_true rfl) (cr_1414_0 hC2) ?_
  refine r_getR 47 dX11_without_44 rfl f11_116 rfl (by first | with_reducible assumption | with_reducible exact cr_bs hC | rfl) (by first | with_reducible assumption | with_reducible exact cr_bn hC | exact Nat.le_of_ble_eq_true rfl) (cr_1152_45 hC2) ?_
  refine r_callV (M := mX11_without) (pc := 47) 50 dX11_without_47 rfl k11_272 hcp rfl rfl (by first | with_reducible assumption | with_reducible exact cr_bs hC | rfl) (by decide) rfl (by first | with_reducible assumption | with_reducible exact cr_bn hC | exact Nat.le_of_ble_eq_true rfl) (Nat.le_of_ble_eq_true rfl) ?_
  refine r_aload_n 51 dX11_without_50 rfl rfl ?_
  refine r_getR 54 dX11_without_51 rfl f11_67 rfl (by first | with_reducible assumption | with_reducible exact cr_bs hC | rfl) (by first | with_reducible assumption | with_reducible exact cr_bn hC | exact Nat.le_of_ble_eq_true rfl) (cr_1419_0 hC3) ?_
  refine r_iload_n 55 dX11_without_54 rfl rfl ?_
  refine r_callV (M := mX11_without) (pc := 55) 58 dX11_without_55 rfl k11_340 hlo rfl rfl (by first | with_reducible assumption | with_reducible exact cr_bs hC | rfl) (by decide) rfl (by first | with_reducible assumption | with_reducible exact cr_bn hC | exact Nat.le_of_ble_eq_true rfl) (Nat.le_of_ble_eq_true rfl) ?_
  refine r_aload_n 59 dX11_without_58 rfl rfl ?_
  refine r_getR 62 dX11_without_59 rfl f11_67 rfl (by first | with_reducible assumption | with_reducible exact cr_bs hC | rfl) (by first | with_reducible assumption | with_reducible exact cr_bn hC | exact Nat.le_of_ble_eq_true rfl) (cr_1419_0 hC4) ?_
  refine r_aload_n 63 dX11_without_62 rfl rfl ?_
  refine r_getR 66 dX11_without_63 rfl f11_28 rfl (by first | with_reducible assumption | with_reducible exact cr_bs hC | rfl) (by first | with_reducible assumption | with_reducible exact cr_bn hC | exact Nat.le_of_ble_eq_true rfl) (cr_told hC4) ?_
  refine r_iload_n 67 dX11_without_66 rfl rfl ?_
  refine r_callV (M := mX11_without) (pc := 67) 70 dX11_without_67 rfl k11_343 hfr rfl rfl (by first | with_reducible assumption | with_reducible exact cr_bs hC | rfl) (by decide) rfl (by first | with_reducible assumption | with_reducible exact cr_bn hC | exact Nat.le_of_ble_eq_true rfl) (Nat.le_of_ble_eq_true rfl) ?_
  refine r_putZ 73 dX11_without_70 rfl f11_134 (by first | with_reducible assumption | with_reducible exact cr_bs hC | rfl) (by first | with_reducible assumption | with_reducible exact cr_bn hC | exact Nat.le_of_ble_eq_true rfl) (b01_01 _) ?_
  refine r_iload_n 74 dX11_without_73 rfl rfl ?_
  refine r_aload_n 75 dX11_without_74 rfl rfl ?_
  refine r_callV (M := mX11_without) (pc := 75) 78 dX11_without_75 rfl k11_287 hcl6 rfl rfl (by first | with_reducible assumption | with_reducible exact cr_bs hC | rfl) (by decide) rfl (by first | with_reducible assumption | with_reducible exact cr_bn hC | exact Nat.le_of_ble_eq_true rfl) (Nat.le_of_ble_eq_true rfl) ?_
  refine r_isub 79 dX11_without_78 rfl ?_
  exact r_iret dX11_without_79 rfl rfl (rfl)
set_option maxRecDepth 20000 in
theorem x_without {d b L m s : Nat} {R : List Int32} {E : HP} {x : Int32} (hci : CI E b L m R) (h : ¬ inB x (nI L)) : Cl yX11_without mX11_without (d + 8) 1 6 [.ref 0, .int (x)] E 137 (.inr nseN, E, 137) := by
  have hC := hci.1
  have cL := hci.2.1
  have l7 : L ≤ 7 := hci.2.2.2.1.2.1
  refine Cl.of (by decide) rfl (fun q => by cases q) rfl rfl (Nat.le_of_ble_eq_true rfl) ?_
  show Sm _ _ _ _ _ 0 [some (.ref 0), some (.int (x)), none] [] _ _
  refine r_aload_n 1 dX11_without_0 rfl rfl ?_
  refine r_iload_n 2 dX11_without_1 rfl rfl ?_
  refine r_aload_n 3 dX11_without_2 rfl rfl ?_
  refine r_getR 6 dX11_without_3 rfl f11_28 rfl (by first | with_reducible assumption | with_reducible exact cr_bs hC | rfl) (by first | with_reducible assumption | with_reducible exact cr_bn hC | exact Nat.le_of_ble_eq_true rfl) (cr_told hC) ?_
  refine r_getIV (nI L) 9 dX11_without_6 rfl f11_101 rfl (by first | with_reducible assumption | with_reducible exact cr_bs hC | rfl) (by first | with_reducible assumption | with_reducible exact cr_bn hC | exact Nat.le_of_ble_eq_true rfl) (cL) ?_
  exact r_callVX (M := mX11_without) (pc := 9) dX11_without_9 k11_192 (x_checkNumber h) rfl rfl (by first | with_reducible assumption | with_reducible exact cr_bs hC | rfl) (by decide) rfl (by first | with_reducible assumption | with_reducible exact cr_bn hC | exact Nat.le_of_ble_eq_true rfl) (Nat.le_of_ble_eq_true rfl) rfl rfl (rfl)
