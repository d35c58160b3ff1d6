/-! The class: woken, lies, turn; the trial; free -/
theorem inB_of {s L : Nat} (h : s < L) (hL : L < 100000) : inB (nI s) (nI L) := ⟨nI_pos (by omega), nI_lt h (by omega)⟩
theorem inC_of {s L : Nat} (h : s ≤ L) (hL : L < 100000) : inC (nI s) (nI L) := ⟨nI_pos (by omega), nI_le h (by omega)⟩
def awV (w q a : Int32) : Int32 := if w ≤ 0 then 0 else if a ≤ q - w then 0 else 1
theorem awV_01 (w q a : Int32) : awV w q a = 0 ∨ awV w q a = 1 := by unfold awV; split; exact Or.inl rfl; split; exact Or.inl rfl; exact Or.inr rfl
/-- one component of a turn -/
def tuK (e : Int32 × Int32 × Int32 × Int32) (x : Int32) : Int32 := if x = 0 then e.1 else if x = 1 then e.2.1 else if x = 2 then e.2.2.1 else e.2.2.2
set_option maxRecDepth 20000 in
theorem c_X11_woken {d b L m s : Nat} {R : List Int32} {E : HP} {w : Int32} (hci : CI E b L m R) (hs : s < L) (hw : inB w 2) : ∃ E2, QF b E E2 ∧ Cl yX11_woken mX11_woken (d + 8) 1 6 [.ref 0, .int (nI s), .int (w)] E 137 (.inl (some (.int (byS (vNow E b L R) (nightF (vNow E b L R) m) (if w = 0 then 3 else 4) s))), E2, 137) := by
  obtain ⟨hC, cL, c51, cok, csu, crl, c87, ⟨m1, m6, cmi⟩, cfr⟩ := id hci
  obtain ⟨E2, ⟨f1, f2, f3, f4⟩, hcl⟩ := c_X11_passNight (d := d + 1) hci
  have hQ : QF b E E2 := qf_pp f1 f2
  have hC2 := cr_kr f2 hC
  have l7 : L ≤ 7 := cok.2.1
  obtain ⟨k, k7, kV, kE, kb, hli⟩ := c_lier (d := d + 5) f4 (sur_now hci hs)
  have hsl := sh_li k7
  have h88 : 88 + k < 137 := by omega
  refine ⟨E2, hQ, ?_⟩
  refine Cl.of (by decide) rfl (fun q => by cases q) rfl rfl (Nat.le_of_ble_eq_true rfl) ?_
  show Sm _ _ _ _ _ 0 [some (.ref 0), some (.int (nI s)), some (.int (w)), none] [] _ _
  refine r_aload_n 1 dX11_woken_0 rfl rfl ?_
  refine r_iload_n 2 dX11_woken_1 rfl rfl ?_
  refine r_aload_n 3 dX11_woken_2 rfl rfl ?_
  refine r_getR 6 dX11_woken_3 rfl f11_28 rfl (by first | with_reducible assumption | with_reducible exact cr_bs hC | rfl) (by first | with_reducible assumption | with_reducible exact cr_bn hC | exact Nat.le_of_ble_eq_true rfl) (cr_told hC) ?_
  refine r_getIV (nI L) 9 dX11_woken_6 rfl f11_101 rfl (by first | with_reducible assumption | with_reducible exact cr_bs hC | rfl) (by first | with_reducible assumption | with_reducible exact cr_bn hC | exact Nat.le_of_ble_eq_true rfl) (cL) ?_
  refine r_callV (M := mX11_woken) (pc := 9) 12 dX11_woken_9 rfl k11_192 (c_X11_checkNumber (inB_of hs (by omega))) rfl rfl (by first | with_reducible assumption | with_reducible exact cr_bs hC | rfl) (by decide) rfl (by first | with_reducible assumption | with_reducible exact cr_bn hC | exact Nat.le_of_ble_eq_true rfl) (Nat.le_of_ble_eq_true rfl) ?_
  refine r_aload_n 13 dX11_woken_12 rfl rfl ?_
  refine r_iload_n 14 dX11_woken_13 rfl rfl ?_
  refine r_iconst (2) 15 dX11_woken_14 rfl (by decide) ?_
  refine r_callV (M := mX11_woken) (pc := 15) 18 dX11_woken_15 rfl k11_192 (c_X11_checkNumber hw) rfl rfl (by first | with_reducible assumption | with_reducible exact cr_bs hC | rfl) (by decide) rfl (by first | with_reducible assumption | with_reducible exact cr_bn hC | exact Nat.le_of_ble_eq_true rfl) (Nat.le_of_ble_eq_true rfl) ?_
  refine r_aload_n 19 dX11_woken_18 rfl rfl ?_
  refine r_callV (M := mX11_woken) (pc := 19) 22 dX11_woken_19 rfl k11_224 hcl rfl rfl (by first | with_reducible assumption | with_reducible exact cr_bs hC | rfl) (by decide) rfl (by first | with_reducible assumption | with_reducible exact cr_bn hC | exact Nat.le_of_ble_eq_true rfl) (Nat.le_of_ble_eq_true rfl) ?_
  refine r_aload_n 23 dX11_woken_22 rfl rfl ?_
  refine r_getR 26 dX11_woken_23 rfl f11_76 rfl (by first | with_reducible assumption | with_reducible exact cr_bs hC | rfl) (by first | with_reducible assumption | with_reducible exact cr_bn hC | exact Nat.le_of_ble_eq_true rfl) (cr_1420_0 hC2) ?_
  refine r_iload_n 27 dX11_woken_26 rfl rfl ?_
  refine r_callV (M := mX11_woken) (pc := 27) 30 dX11_woken_27 rfl k11_244 hli rfl rfl (by first | with_reducible assumption | with_reducible exact cr_bs hC | rfl) (by decide) rfl (by first | with_reducible assumption | with_reducible exact cr_bn hC | exact Nat.le_of_ble_eq_true rfl) (Nat.le_of_ble_eq_true rfl) ?_
  refine r_astore_n 31 dX11_woken_30 rfl (by decide) rfl ?_
  refine r_iload_n 32 dX11_woken_31 rfl rfl ?_
  refine r_if_ne 35 42 dX11_woken_32 rfl (by decide) (fun h32 => ?_) (fun h32 => ?_)
  · refine r_aload_n 43 dX11_woken_42 rfl rfl ?_
    refine r_getIV (_) 46 dX11_woken_43 rfl f11_253 rfl (by first | with_reducible assumption | with_reducible exact cr_bs hC | rfl) (by first | with_reducible assumption | with_reducible exact cr_bn hC | exact Nat.le_of_ble_eq_true rfl) (kb 4 (by decide)) ?_
    exact r_iret dX11_woken_46 rfl rfl (by first | rw [if_pos h32] | rw [if_neg h32])
  · refine r_aload_n 36 dX11_woken_35 rfl rfl ?_
    refine r_getIV (_) 39 dX11_woken_36 rfl f11_248 rfl (by first | with_reducible assumption | with_reducible exact cr_bs hC | rfl) (by first | with_reducible assumption | with_reducible exact cr_bn hC | exact Nat.le_of_ble_eq_true rfl) (kb 3 (by decide)) ?_
    refine r_goto 46 dX11_woken_39 (by decide) ?_
    exact r_iret dX11_woken_46 rfl rfl (by first | rw [if_pos h32] | rw [if_neg h32])
set_option maxRecDepth 20000 in
theorem x_woken1 {d b L m s : Nat} {R : List Int32} {E : HP} {x w : Int32} (hci : CI E b L m R) (h : ¬ inB x (nI L)) : Cl yX11_woken mX11_woken (d + 8) 1 6 [.ref 0, .int (x), .int (w)] E 137 (.inr nseN, E, 137) := by
  have hC := hci.1
  have cL := hci.2.1
  have l7 : L ≤ 7 := hci.2.2.2.1.2.1
  refine Cl.of (by decide) rfl (fun q => by cases q) rfl rfl (Nat.le_of_ble_eq_true rfl) ?_
  show Sm _ _ _ _ _ 0 [some (.ref 0), some (.int (x)), some (.int (w)), none] [] _ _
  refine r_aload_n 1 dX11_woken_0 rfl rfl ?_
  refine r_iload_n 2 dX11_woken_1 rfl rfl ?_
  refine r_aload_n 3 dX11_woken_2 rfl rfl ?_
  refine r_getR 6 dX11_woken_3 rfl f11_28 rfl (by first | with_reducible assumption | with_reducible exact cr_bs hC | rfl) (by first | with_reducible assumption | with_reducible exact cr_bn hC | exact Nat.le_of_ble_eq_true rfl) (cr_told hC) ?_
  refine r_getIV (nI L) 9 dX11_woken_6 rfl f11_101 rfl (by first | with_reducible assumption | with_reducible exact cr_bs hC | rfl) (by first | with_reducible assumption | with_reducible exact cr_bn hC | exact Nat.le_of_ble_eq_true rfl) (cL) ?_
  exact r_callVX (M := mX11_woken) (pc := 9) dX11_woken_9 k11_192 (x_checkNumber h) rfl rfl (by first | with_reducible assumption | with_reducible exact cr_bs hC | rfl) (by decide) rfl (by first | with_reducible assumption | with_reducible exact cr_bn hC | exact Nat.le_of_ble_eq_true rfl) (Nat.le_of_ble_eq_true rfl) rfl rfl (rfl)
set_option maxRecDepth 20000 in
theorem x_woken2 {d b L m s : Nat} {R : List Int32} {E : HP} {w : Int32} (hci : CI E b L m R) (hs : s < L) (h : ¬ inB w 2) : Cl yX11_woken mX11_woken (d + 8) 1 6 [.ref 0, .int (nI s), .int (w)] E 137 (.inr nseN, E, 137) := by
  have hC := hci.1
  have cL := hci.2.1
  have l7 : L ≤ 7 := hci.2.2.2.1.2.1
  refine Cl.of (by decide) rfl (fun q => by cases q) rfl rfl (Nat.le_of_ble_eq_true rfl) ?_
  show Sm _ _ _ _ _ 0 [some (.ref 0), some (.int (nI s)), some (.int (w)), none] [] _ _
  refine r_aload_n 1 dX11_woken_0 rfl rfl ?_
  refine r_iload_n 2 dX11_woken_1 rfl rfl ?_
  refine r_aload_n 3 dX11_woken_2 rfl rfl ?_
  refine r_getR 6 dX11_woken_3 rfl f11_28 rfl (by first | with_reducible assumption | with_reducible exact cr_bs hC | rfl) (by first | with_reducible assumption | with_reducible exact cr_bn hC | exact Nat.le_of_ble_eq_true rfl) (cr_told hC) ?_
  refine r_getIV (nI L) 9 dX11_woken_6 rfl f11_101 rfl (by first | with_reducible assumption | with_reducible exact cr_bs hC | rfl) (by first | with_reducible assumption | with_reducible exact cr_bn hC | exact Nat.le_of_ble_eq_true rfl) (cL) ?_
  refine r_callV (M := mX11_woken) (pc := 9) 12 dX11_woken_9 rfl k11_192 (c_X11_checkNumber (inB_of hs (by omega))) rfl rfl (by first | with_reducible assumption | with_reducible exact cr_bs hC | rfl) (by decide) rfl (by first | with_reducible assumption | with_reducible exact cr_bn hC | exact Nat.le_of_ble_eq_true rfl) (Nat.le_of_ble_eq_true rfl) ?_
  refine r_aload_n 13 dX11_woken_12 rfl rfl ?_
  refine r_iload_n 14 dX11_woken_13 rfl rfl ?_
  refine r_iconst (2) 15 dX11_woken_14 rfl (by decide) ?_
  exact r_callVX (M := mX11_woken) (pc := 15) dX11_woken_15 k11_192 (x_checkNumber h) rfl rfl (by first | with_reducible assumption | with_reducible exact cr_bs hC | rfl) (by decide) rfl (by first | with_reducible assumption | with_reducible exact cr_bn hC | exact Nat.le_of_ble_eq_true rfl) (Nat.le_of_ble_eq_true rfl) rfl rfl (rfl)
set_option maxRecDepth 20000 in
theorem c_X11_lies {d b L m s q : Nat} {R : List Int32} {E : HP} {w : Int32} (hci : CI E b L m R) (hs : s < L) (hw : inB w 2) (hq : q ≤ m) : ∃ E2, QF b E E2 ∧ Cl yX11_lies mX11_lies (d + 8) 1 6 [.ref 0, .int (nI s), .int (nI q), .int (w)] E 137 (.inl (some (.int (if w = 0 then byS (vNow E b L R) (nightF (vNow E b L R) q) 0 s else awV (byS (vNow E b L R) (nightF (vNow E b L R) q) 2 s) (nI q) (gI E 8 b)))), E2, 137) := by
  obtain ⟨hC, cL, c51, cok, csu, crl, c87, ⟨m1, m6, cmi⟩, cfr⟩ := id hci
  obtain ⟨E2, ⟨f1, f2, f3, f4⟩, hcl⟩ := c_night (d := d + 2) hC (Or.inl rfl) (ci_nvis hci) cok.2.2.2.2.1 (show q ≤ 600 by omega)
  have hQ : QF b E E2 := qf_pp f1 f2
  have hC2 := cr_kr f2 hC
  have l7 : L ≤ 7 := cok.2.1
  have f4 : PR E2 b 46 (vNow E b L R) q := f4
  obtain ⟨k, k7, kV, kE, kb, hli⟩ := c_lier (d := d + 5) f4 (sur_now hci hs)
  have hsl := sh_li k7
  have h88 : 88 + k < 137 := by omega
  have hb := hC.1
  have haw : gI E2 8 b = gI E 8 b := fr_gI f1 (by unfold Pp; omega) 8
  have hia := c_X1_isAwake (d := d + 7) (n := 137) (h := 88 + k) (E := E2) (m := nI q) (a := gI E 8 b) hsl h88
  have hiv : liAwake E2 (88 + k) (nI q) (gI E 8 b) = awV (byS (vNow E b L R) (nightF (vNow E b L R) q) 2 s) (nI q) (gI E 8 b) := by unfold liAwake awV; rw [kb 2 (by decide)]
  rw [hiv] at hia
  refine ⟨E2, hQ, ?_⟩
  refine Cl.of (by decide) rfl (fun q => by cases q) rfl rfl (Nat.le_of_ble_eq_true rfl) ?_
  show Sm _ _ _ _ _ 0 [some (.ref 0), some (.int (nI s)), some (.int (nI q)), some (.int (w)), none] [] _ _
  refine r_aload_n 1 dX11_lies_0 rfl rfl ?_
  refine r_iload_n 2 dX11_lies_1 rfl rfl ?_
  refine r_aload_n 3 dX11_lies_2 rfl rfl ?_
  refine r_getR 6 dX11_lies_3 rfl f11_28 rfl (by first | with_reducible assumption | with_reducible exact cr_bs hC | rfl) (by first | with_reducible assumption | with_reducible exact cr_bn hC | exact Nat.le_of_ble_eq_true rfl) (cr_told hC) ?_
  refine r_getIV (nI L) 9 dX11_lies_6 rfl f11_101 rfl (by first | with_reducible assumption | with_reducible exact cr_bs hC | rfl) (by first | with_reducible assumption | with_reducible exact cr_bn hC | exact Nat.le_of_ble_eq_true rfl) (cL) ?_
  refine r_callV (M := mX11_lies) (pc := 9) 12 dX11_lies_9 rfl k11_192 (c_X11_checkNumber (inB_of hs (by omega))) rfl rfl (by first | with_reducible assumption | with_reducible exact cr_bs hC | rfl) (by decide) rfl (by first | with_reducible assumption | with_reducible exact cr_bn hC | exact Nat.le_of_ble_eq_true rfl) (Nat.le_of_ble_eq_true rfl) ?_
  refine r_aload_n 13 dX11_lies_12 rfl rfl ?_
  refine r_iload_n 14 dX11_lies_13 rfl rfl ?_
  refine r_iconst (2) 15 dX11_lies_14 rfl (by decide) ?_
  refine r_callV (M := mX11_lies) (pc := 15) 18 dX11_lies_15 rfl k11_192 (c_X11_checkNumber hw) rfl rfl (by first | with_reducible assumption | with_reducible exact cr_bs hC | rfl) (by decide) rfl (by first | with_reducible assumption | with_reducible exact cr_bn hC | exact Nat.le_of_ble_eq_true rfl) (Nat.le_of_ble_eq_true rfl) ?_
  refine r_aload_n 19 dX11_lies_18 rfl rfl ?_
  refine r_iload_n 20 dX11_lies_19 rfl rfl ?_
  refine r_aload_n 21 dX11_lies_20 rfl rfl ?_
  refine r_getR 24 dX11_lies_21 rfl f11_28 rfl (by first | with_reducible assumption | with_reducible exact cr_bs hC | rfl) (by first | with_reducible assumption | with_reducible exact cr_bn hC | exact Nat.le_of_ble_eq_true rfl) (cr_told hC) ?_
  refine r_getIV (nI m) 27 dX11_lies_24 rfl f11_110 rfl (by first | with_reducible assumption | with_reducible exact cr_bs hC | rfl) (by first | with_reducible assumption | with_reducible exact cr_bn hC | exact Nat.le_of_ble_eq_true rfl) (cmi) ?_
  refine r_callV (M := mX11_lies) (pc := 27) 30 dX11_lies_27 rfl k11_256 (c_X11_checkBound (inC_of hq (by omega))) rfl rfl (by first | with_reducible assumption | with_reducible exact cr_bs hC | rfl) (by decide) rfl (by first | with_reducible assumption | with_reducible exact cr_bn hC | exact Nat.le_of_ble_eq_true rfl) (Nat.le_of_ble_eq_true rfl) ?_
  refine r_aload_n 31 dX11_lies_30 rfl rfl ?_
  refine r_getR 34 dX11_lies_31 rfl f11_76 rfl (by first | with_reducible assumption | with_reducible exact cr_bs hC | rfl) (by first | with_reducible assumption | with_reducible exact cr_bn hC | exact Nat.le_of_ble_eq_true rfl) (cr_1420_0 hC) ?_
  refine r_aload_n 35 dX11_lies_34 rfl rfl ?_
  refine r_getR 38 dX11_lies_35 rfl f11_28 rfl (by first | with_reducible assumption | with_reducible exact cr_bs hC | rfl) (by first | with_reducible assumption | with_reducible exact cr_bn hC | exact Nat.le_of_ble_eq_true rfl) (cr_told hC) ?_
  refine r_aload_n 39 dX11_lies_38 rfl rfl ?_
  refine r_getR 42 dX11_lies_39 rfl f11_47 rfl (by first | with_reducible assumption | with_reducible exact cr_bs hC | rfl) (by first | with_reducible assumption | with_reducible exact cr_bn hC | exact Nat.le_of_ble_eq_true rfl) (cr_1414_0 hC) ?_
  refine r_getR 45 dX11_lies_42 rfl f11_116 rfl (by first | with_reducible assumption | with_reducible exact cr_bs hC | rfl) (by first | with_reducible assumption | with_reducible exact cr_bn hC | exact Nat.le_of_ble_eq_true rfl) (cr_1152_45 hC) ?_
  refine r_iload_n 46 dX11_lies_45 rfl rfl ?_
  refine r_callV (M := mX11_lies) (pc := 46) 49 dX11_lies_46 rfl k11_240 hcl rfl rfl (by first | with_reducible assumption | with_reducible exact cr_bs hC | rfl) (by decide) rfl (by first | with_reducible assumption | with_reducible exact cr_bn hC | exact Nat.le_of_ble_eq_true rfl) (Nat.le_of_ble_eq_true rfl) ?_
  refine r_aload_n 50 dX11_lies_49 rfl rfl ?_
  refine r_getR 53 dX11_lies_50 rfl f11_76 rfl (by first | with_reducible assumption | with_reducible exact cr_bs hC | rfl) (by first | with_reducible assumption | with_reducible exact cr_bn hC | exact Nat.le_of_ble_eq_true rfl) (cr_1420_0 hC2) ?_
  refine r_iload_n 54 dX11_lies_53 rfl rfl ?_
  refine r_callV (M := mX11_lies) (pc := 54) 57 dX11_lies_54 rfl k11_244 hli rfl rfl (by first | with_reducible assumption | with_reducible exact cr_bs hC | rfl) (by decide) rfl (by first | with_reducible assumption | with_reducible exact cr_bn hC | exact Nat.le_of_ble_eq_true rfl) (Nat.le_of_ble_eq_true rfl) ?_
  refine r_astore 59 dX11_lies_57 rfl (by decide) rfl ?_
  refine r_iload_n 60 dX11_lies_59 rfl rfl ?_
  refine r_if_ne 63 69 dX11_lies_60 rfl (by decide) (fun h60 => ?_) (fun h60 => ?_)
  · refine r_aload 71 dX11_lies_69 rfl rfl ?_
    refine r_iload_n 72 dX11_lies_71 rfl rfl ?_
    refine r_aload_n 73 dX11_lies_72 rfl rfl ?_
    refine r_getR 76 dX11_lies_73 rfl f11_28 rfl (by first | with_reducible assumption | with_reducible exact cr_bs hC | rfl) (by first | with_reducible assumption | with_reducible exact cr_bn hC | exact Nat.le_of_ble_eq_true rfl) (cr_told hC2) ?_
    refine r_getIV (gI E 8 b) 79 dX11_lies_76 rfl f11_113 rfl (by first | with_reducible assumption | with_reducible exact cr_bs hC | rfl) (by first | with_reducible assumption | with_reducible exact cr_bn hC | exact Nat.le_of_ble_eq_true rfl) (haw) ?_
    refine r_callV (M := mX11_lies) (pc := 79) 82 dX11_lies_79 rfl k11_262 hia rfl rfl (by first | with_reducible assumption | with_reducible exact cr_bs hC | rfl) (by decide) rfl (by first | with_reducible assumption | with_reducible exact cr_bn hC | exact Nat.le_of_ble_eq_true rfl) (Nat.le_of_ble_eq_true rfl) ?_
    refine r_if_eq 85 89 dX11_lies_82 rfl (by decide) (fun h82 => ?_) (fun h82 => ?_)
    · refine r_iconst (0) 90 dX11_lies_89 rfl (by decide) ?_
      exact r_iret dX11_lies_90 rfl rfl (by first | rw [if_neg h60, h82] | rw [if_neg h60, (awV_01 _ _ _).resolve_left h82])
    · refine r_iconst (1) 86 dX11_lies_85 rfl (by decide) ?_
      refine r_goto 90 dX11_lies_86 (by decide) ?_
      exact r_iret dX11_lies_90 rfl rfl (by first | rw [if_neg h60, h82] | rw [if_neg h60, (awV_01 _ _ _).resolve_left h82])
  · refine r_aload 65 dX11_lies_63 rfl rfl ?_
    refine r_getIV (_) 68 dX11_lies_65 rfl f11_259 rfl (by first | with_reducible assumption | with_reducible exact cr_bs hC | rfl) (by first | with_reducible assumption | with_reducible exact cr_bn hC | exact Nat.le_of_ble_eq_true rfl) (kb 0 (by decide)) ?_
    exact r_iret dX11_lies_68 rfl rfl (by rw [if_pos h60])
set_option maxRecDepth 20000 in
theorem x_lies1 {d b L m s : Nat} {R : List Int32} {E : HP} {x q w : Int32} (hci : CI E b L m R) (h : ¬ inB x (nI L)) : Cl yX11_lies mX11_lies (d + 8) 1 6 [.ref 0, .int (x), .int (q), .int (w)] E 137 (.inr nseN, E, 137) := by
  have hC := hci.1
  have cL := hci.2.1
  have l7 : L ≤ 7 := hci.2.2.2.1.2.1
  refine Cl.of (by decide) rfl (fun q => by cases q) rfl rfl (Nat.le_of_ble_eq_true rfl) ?_
  show Sm _ _ _ _ _ 0 [some (.ref 0), some (.int (x)), some (.int (q)), some (.int (w)), none] [] _ _
  refine r_aload_n 1 dX11_lies_0 rfl rfl ?_
  refine r_iload_n 2 dX11_lies_1 rfl rfl ?_
  refine r_aload_n 3 dX11_lies_2 rfl rfl ?_
  refine r_getR 6 dX11_lies_3 rfl f11_28 rfl (by first | with_reducible assumption | with_reducible exact cr_bs hC | rfl) (by first | with_reducible assumption | with_reducible exact cr_bn hC | exact Nat.le_of_ble_eq_true rfl) (cr_told hC) ?_
  refine r_getIV (nI L) 9 dX11_lies_6 rfl f11_101 rfl (by first | with_reducible assumption | with_reducible exact cr_bs hC | rfl) (by first | with_reducible assumption | with_reducible exact cr_bn hC | exact Nat.le_of_ble_eq_true rfl) (cL) ?_
  exact r_callVX (M := mX11_lies) (pc := 9) dX11_lies_9 k11_192 (x_checkNumber h) rfl rfl (by first | with_reducible assumption | with_reducible exact cr_bs hC | rfl) (by decide) rfl (by first | with_reducible assumption | with_reducible exact cr_bn hC | exact Nat.le_of_ble_eq_true rfl) (Nat.le_of_ble_eq_true rfl) rfl rfl (rfl)
set_option maxRecDepth 20000 in
theorem x_lies2 {d b L m s : Nat} {R : List Int32} {E : HP} {q w : Int32} (hci : CI E b L m R) (hs : s < L) (h : ¬ inB w 2) : Cl yX11_lies mX11_lies (d + 8) 1 6 [.ref 0, .int (nI s), .int (q), .int (w)] E 137 (.inr nseN, E, 137) := by
  have hC := hci.1
  have cL := hci.2.1
  have l7 : L ≤ 7 := hci.2.2.2.1.2.1
  refine Cl.of (by decide) rfl (fun q => by cases q) rfl rfl (Nat.le_of_ble_eq_true rfl) ?_
  show Sm _ _ _ _ _ 0 [some (.ref 0), some (.int (nI s)), some (.int (q)), some (.int (w)), none] [] _ _
  refine r_aload_n 1 dX11_lies_0 rfl rfl ?_
  refine r_iload_n 2 dX11_lies_1 rfl rfl ?_
  refine r_aload_n 3 dX11_lies_2 rfl rfl ?_
  refine r_getR 6 dX11_lies_3 rfl f11_28 rfl (by first | with_reducible assumption | with_reducible exact cr_bs hC | rfl) (by first | with_reducible assumption | with_reducible exact cr_bn hC | exact Nat.le_of_ble_eq_true rfl) (cr_told hC) ?_
  refine r_getIV (nI L) 9 dX11_lies_6 rfl f11_101 rfl (by first | with_reducible assumption | with_reducible exact cr_bs hC | rfl) (by first | with_reducible assumption | with_reducible exact cr_bn hC | exact Nat.le_of_ble_eq_true rfl) (cL) ?_
  refine r_callV (M := mX11_lies) (pc := 9) 12 dX11_lies_9 rfl k11_192 (c_X11_checkNumber (inB_of hs (by omega))) rfl rfl (by first | with_reducible assumption | with_reducible exact cr_bs hC | rfl) (by decide) rfl (by first | with_reducible assumption | with_reducible exact cr_bn hC | exact Nat.le_of_ble_eq_true rfl) (Nat.le_of_ble_eq_true rfl) ?_
  refine r_aload_n 13 dX11_lies_12 rfl rfl ?_
  refine r_iload_n 14 dX11_lies_13 rfl rfl ?_
  refine r_iconst (2) 15 dX11_lies_14 rfl (by decide) ?_
  exact r_callVX (M := mX11_lies) (pc := 15) dX11_lies_15 k11_192 (x_checkNumber h) rfl rfl (by first | with_reducible assumption | with_reducible exact cr_bs hC | rfl) (by decide) rfl (by first | with_reducible assumption | with_reducible exact cr_bn hC | exact Nat.le_of_ble_eq_true rfl) (Nat.le_of_ble_eq_true rfl) rfl rfl (rfl)
set_option maxRecDepth 20000 in
theorem x_lies3 {d b L m s : Nat} {R : List Int32} {E : HP} {q w : Int32} (hci : CI E b L m R) (hs : s < L) (hw : inB w 2) (h : ¬ inC q (nI m)) : Cl yX11_lies mX11_lies (d + 8) 1 6 [.ref 0, .int (nI s), .int (q), .int (w)] E 137 (.inr iaeN, E, 137) := by
  have hC := hci.1
  have cL := hci.2.1
  have l7 : L ≤ 7 := hci.2.2.2.1.2.1
  obtain ⟨m1, m6, cmi⟩ := id hci.2.2.2.2.2.2.2.1
  refine Cl.of (by decide) rfl (fun q => by cases q) rfl rfl (Nat.le_of_ble_eq_true rfl) ?_
  show Sm _ _ _ _ _ 0 [some (.ref 0), some (.int (nI s)), some (.int (q)), some (.int (w)), none] [] _ _
  refine r_aload_n 1 dX11_lies_0 rfl rfl ?_
  refine r_iload_n 2 dX11_lies_1 rfl rfl ?_
  refine r_aload_n 3 dX11_lies_2 rfl rfl ?_
  refine r_getR 6 dX11_lies_3 rfl f11_28 rfl (by first | with_reducible assumption | with_reducible exact cr_bs hC | rfl) (by first | with_reducible assumption | with_reducible exact cr_bn hC | exact Nat.le_of_ble_eq_true rfl) (cr_told hC) ?_
  refine r_getIV (nI L) 9 dX11_lies_6 rfl f11_101 rfl (by first | with_reducible assumption | with_reducible exact cr_bs hC | rfl) (by first | with_reducible assumption | with_reducible exact cr_bn hC | exact Nat.le_of_ble_eq_true rfl) (cL) ?_
  refine r_callV (M := mX11_lies) (pc := 9) 12 dX11_lies_9 rfl k11_192 (c_X11_checkNumber (inB_of hs (by omega))) rfl rfl (by first | with_reducible assumption | with_reducible exact cr_bs hC | rfl) (by decide) rfl (by first | with_reducible assumption | with_reducible exact cr_bn hC | exact Nat.le_of_ble_eq_true rfl) (Nat.le_of_ble_eq_true rfl) ?_
  refine r_aload_n 13 dX11_lies_12 rfl rfl ?_
  refine r_iload_n 14 dX11_lies_13 rfl rfl ?_
  refine r_iconst (2) 15 dX11_lies_14 rfl (by decide) ?_
  refine r_callV (M := mX11_lies) (pc := 15) 18 dX11_lies_15 rfl k11_192 (c_X11_checkNumber hw) rfl rfl (by first | with_reducible assumption | with_reducible exact cr_bs hC | rfl) (by decide) rfl (by first | with_reducible assumption | with_reducible exact cr_bn hC | exact Nat.le_of_ble_eq_true rfl) (Nat.le_of_ble_eq_true rfl) ?_
  refine r_aload_n 19 dX11_lies_18 rfl rfl ?_
  refine r_iload_n 20 dX11_lies_19 rfl rfl ?_
  refine r_aload_n 21 dX11_lies_20 rfl rfl ?_
  refine r_getR 24 dX11_lies_21 rfl f11_28 rfl (by first | with_reducible assumption | with_reducible exact cr_bs hC | rfl) (by first | with_reducible assumption | with_reducible exact cr_bn hC | exact Nat.le_of_ble_eq_true rfl) (cr_told hC) ?_
  refine r_getIV (nI m) 27 dX11_lies_24 rfl f11_110 rfl (by first | with_reducible assumption | with_reducible exact cr_bs hC | rfl) (by first | with_reducible assumption | with_reducible exact cr_bn hC | exact Nat.le_of_ble_eq_true rfl) (cmi) ?_
  exact r_callVX (M := mX11_lies) (pc := 27) dX11_lies_27 k11_256 (x_checkBound h) rfl rfl (by first | with_reducible assumption | with_reducible exact cr_bs hC | rfl) (by decide) rfl (by first | with_reducible assumption | with_reducible exact cr_bn hC | exact Nat.le_of_ble_eq_true rfl) (Nat.le_of_ble_eq_true rfl) rfl rfl (rfl)
