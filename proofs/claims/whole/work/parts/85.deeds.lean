/-! The class: count, sleeper, fault, kept; swap, side, word, bolster, out, undo; see, forget; image, restore; feed -/
theorem ps_fr {E E2 : HP} {h l k most : Nat} (o : piSz E 137 h l k most) (s : SR E E2) (h6 : gI E2 386 h = gI E 386 h) (h4 : gI E2 384 h = gI E 384 h) : piSz E2 137 h l k most := ⟨sr_pile s o.1, h6.trans o.2.1, h4.trans o.2.2.1, o.2.2.2⟩
theorem sw_o17 {x : Int32} (h : ¬ inB x 17) : x.toInt < 0 ∨ 16 < x.toInt := by
  by_cases h0 : x < 0
  · left
    have h1 := Int32.lt_iff_toInt_lt.mp h0
    rw [show (0 : Int32).toInt = 0 by decide] at h1
    exact h1
  · right
    have h1 : ¬ x < 17 := fun z => h ⟨h0, z⟩
    have h2 := Int32.le_iff_toInt_le.mp (Int32.not_lt.mp h1)
    rw [show (17 : Int32).toInt = 17 by decide] at h2
    omega
theorem sw_o9 {x : Int32} (h : ¬ inB x 9) : x.toInt < 0 ∨ 8 < x.toInt := by
  by_cases h0 : x < 0
  · left
    have h1 := Int32.lt_iff_toInt_lt.mp h0
    rw [show (0 : Int32).toInt = 0 by decide] at h1
    exact h1
  · right
    have h1 : ¬ x < 9 := fun z => h ⟨h0, z⟩
    have h2 := Int32.le_iff_toInt_le.mp (Int32.not_lt.mp h1)
    rw [show (9 : Int32).toInt = 9 by decide] at h2
    omega
theorem gI_piDrop {E : HP} {h l k g j : Nat} (hj : ¬ (g = 386 ∧ j = h)) : gI (piDrop h l k E) g j = gI E g j := by
  unfold piDrop
  rw [gI_sI, if_neg hj, gI_piDropL]
theorem gI_piAdd {E : HP} {h l k m g j : Nat} {a b c : Int32} (hj : ¬ (g = 386 ∧ j = h)) : gI (piAdd h l k m a b c E) g j = gI E g j := by
  unfold piAdd
  split
  · rw [gI_sI, if_neg hj, gI_piPut3]
  · rw [gI_sI, if_neg hj, gI_piPut3, gI_piDrop hj]
theorem b01_r {p : Prop} (h : ¬ b01 p = 0) : p := by
  apply Classical.byContradiction
  intro z
  exact h (b01_f z)
set_option maxRecDepth 20000 in
theorem c_isPlace {d b L m : Nat} {R : List Int32} {E : HP} {x : Int32} (hci : CI E b L m R) : Cl yX11_isPlace mX11_isPlace (d) 0 0 [.ref 0, .int (x)] E 137 (.inl (some (.int (b01 (inB x (nI L))))), E, 137) := by
  have hC := hci.1
  have cL := hci.2.1
  have l7 : L ≤ 7 := hci.2.2.2.1.2.1
  refine Cl.of (by decide) rfl (fun q => by cases q) rfl rfl (Nat.le_of_ble_eq_true rfl) ?_
  show Sm _ _ _ _ _ 0 [some (.ref 0), some (.int (x))] [] _ _
  refine r_iload_n 1 dX11_isPlace_0 rfl rfl ?_
  refine r_if_lt 4 19 dX11_isPlace_1 rfl (by decide) (fun h1 => ?_) (fun h1 => ?_)
  · refine r_iconst (0) 20 dX11_isPlace_19 rfl (by decide) ?_
    exact r_zret dX11_isPlace_20 rfl rfl (by decide) (by first | exact out_eq (b01_t ⟨h1, Int32.not_le.mp h12⟩) | exact out_eq (b01_t ⟨h1, Int32.not_le.mp h12⟩).symm | exact out_eq (b01_f (fun z => absurd z.2 (Int32.not_lt.mpr h12))) | exact out_eq (b01_f (fun z => absurd z.2 (Int32.not_lt.mpr h12))).symm | exact out_eq (b01_f (fun z => z.1 h1)) | exact out_eq (b01_f (fun z => z.1 h1)).symm)
  · refine r_iload_n 5 dX11_isPlace_4 rfl rfl ?_
    refine r_aload_n 6 dX11_isPlace_5 rfl rfl ?_
    refine r_getR 9 dX11_isPlace_6 rfl f11_28 rfl (by first | with_reducible assumption | with_reducible exact cr_bs hC | rfl) (by first | with_reducible assumption | with_reducible exact cr_bn hC | exact Nat.le_of_ble_eq_true rfl) (cr_told hC) ?_
    refine r_getIV (nI L) 12 dX11_isPlace_9 rfl f11_101 rfl (by first | with_reducible assumption | with_reducible exact cr_bs hC | rfl) (by first | with_reducible assumption | with_reducible exact cr_bn hC | exact Nat.le_of_ble_eq_true rfl) (cL) ?_
    refine r_icmp_ge 15 19 dX11_isPlace_12 rfl (by decide) (fun h12 => ?_) (fun h12 => ?_)
    · refine r_iconst (0) 20 dX11_isPlace_19 rfl (by decide) ?_
      exact r_zret dX11_isPlace_20 rfl rfl (by decide) (by first | exact out_eq (b01_t ⟨h1, Int32.not_le.mp h12⟩) | exact out_eq (b01_t ⟨h1, Int32.not_le.mp h12⟩).symm | exact out_eq (b01_f (fun z => absurd z.2 (Int32.not_lt.mpr h12))) | exact out_eq (b01_f (fun z => absurd z.2 (Int32.not_lt.mpr h12))).symm | exact out_eq (b01_f (fun z => z.1 h1)) | exact out_eq (b01_f (fun z => z.1 h1)).symm)
    · refine r_iconst (1) 16 dX11_isPlace_15 rfl (by decide) ?_
      refine r_goto 20 dX11_isPlace_16 (by decide) ?_
      exact r_zret dX11_isPlace_20 rfl rfl (by decide) (by first | exact out_eq (b01_t ⟨h1, Int32.not_le.mp h12⟩) | exact out_eq (b01_t ⟨h1, Int32.not_le.mp h12⟩).symm | exact out_eq (b01_f (fun z => absurd z.2 (Int32.not_lt.mpr h12))) | exact out_eq (b01_f (fun z => absurd z.2 (Int32.not_lt.mpr h12))).symm | exact out_eq (b01_f (fun z => z.1 h1)) | exact out_eq (b01_f (fun z => z.1 h1)).symm)
set_option maxRecDepth 20000 in
theorem c_X11_fault {d b L m : Nat} {R : List Int32} {E : HP} (hci : CI E b L m R) : Cl yX11_fault mX11_fault (d + 8) 0 0 [.ref 0] E 137 (.inl (some (.int (gI E 1410 0))), E, 137) := by
  have hC := hci.1
  have cL := hci.2.1
  have l7 : L ≤ 7 := hci.2.2.2.1.2.1
  refine Cl.of (by decide) rfl (fun q => by cases q) rfl rfl (Nat.le_of_ble_eq_true rfl) ?_
  show Sm _ _ _ _ _ 0 [some (.ref 0)] [] _ _
  refine r_aload_n 1 dX11_fault_0 rfl rfl ?_
  refine r_getI 4 dX11_fault_1 rfl f11_22 rfl (by first | with_reducible assumption | with_reducible exact cr_bs hC | rfl) (by first | with_reducible assumption | with_reducible exact cr_bn hC | exact Nat.le_of_ble_eq_true rfl) ?_
  exact r_iret dX11_fault_4 rfl rfl (rfl)
def cntV (E : HP) (b : Nat) : Nat → Int32
  | 0 => gI E 4 b
  | 1 => gI E 5 b
  | 2 => gI E 6 b
  | 3 => gI E 7 b
  | 4 => gI E 8 b
  | 5 => gI E 518 46
  | 6 => gI E 10 b
  | 7 => gI E 515 46
  | 8 => gI E 516 46
  | 9 => gI E 517 46
  | 10 => gI E 519 46
  | 11 => gI E 386 51
  | 12 => gI E 386 54
  | 13 => gI E 1409 0
  | 14 => gA E 58 0
  | 15 => gA E 58 1
  | 16 => gA E 58 2
  | _ => 0
set_option maxRecDepth 20000 in
theorem c_X11_count {d b L m j : Nat} {R : List Int32} {E : HP} (hci : CI E b L m R) (hj : j < 17) : Cl yX11_count mX11_count (d + 8) 0 0 [.ref 0, .int (nI j)] E 137 (.inl (some (.int (cntV E b j))), E, 137) := by
  obtain ⟨hC, cL, c51, cok, csu, crl, c87, ⟨m1, m6, cmi⟩, cfr⟩ := id hci
  have hr0 := c_X6_at (d := d + 7) (i := 0) (cr_row57 hC)
  rw [show (0 : Int32) = nI 0 from rfl, rAt_nI (by omega) (by omega)] at hr0
  have hr1 := c_X6_at (d := d + 7) (i := 1) (cr_row57 hC)
  rw [show (1 : Int32) = nI 1 from rfl, rAt_nI (by omega) (by omega)] at hr1
  have hr2 := c_X6_at (d := d + 7) (i := 2) (cr_row57 hC)
  rw [show (2 : Int32) = nI 2 from rfl, rAt_nI (by omega) (by omega)] at hr2
  match j, hj with
  | 0, _ =>
    refine Cl.of (by decide) rfl (fun q => by cases q) rfl rfl (Nat.le_of_ble_eq_true rfl) ?_
    show Sm _ _ _ _ _ 0 [some (.ref 0), some (.int (nI 0))] [] _ _
    refine r_iload_n 1 dX11_count_0 rfl rfl ?_
    refine r_tableIn 84 dX11_count_1 (by decide) (by decide) rfl (by decide) ?_
    refine r_aload_n 85 dX11_count_84 rfl rfl ?_
    refine r_getR 88 dX11_count_85 rfl f11_28 rfl (by first | with_reducible assumption | with_reducible exact cr_bs hC | rfl) (by first | with_reducible assumption | with_reducible exact cr_bn hC | exact Nat.le_of_ble_eq_true rfl) (cr_told hC) ?_
    refine r_getI 91 dX11_count_88 rfl f11_101 rfl (by first | with_reducible assumption | with_reducible exact cr_bs hC | rfl) (by first | with_reducible assumption | with_reducible exact cr_bn hC | exact Nat.le_of_ble_eq_true rfl) ?_
    exact r_iret dX11_count_91 rfl rfl (rfl)
  | 1, _ =>
    refine Cl.of (by decide) rfl (fun q => by cases q) rfl rfl (Nat.le_of_ble_eq_true rfl) ?_
    show Sm _ _ _ _ _ 0 [some (.ref 0), some (.int (nI 1))] [] _ _
    refine r_iload_n 1 dX11_count_0 rfl rfl ?_
    refine r_tableIn 92 dX11_count_1 (by decide) (by decide) rfl (by decide) ?_
    refine r_aload_n 93 dX11_count_92 rfl rfl ?_
    refine r_getR 96 dX11_count_93 rfl f11_28 rfl (by first | with_reducible assumption | with_reducible exact cr_bs hC | rfl) (by first | with_reducible assumption | with_reducible exact cr_bn hC | exact Nat.le_of_ble_eq_true rfl) (cr_told hC) ?_
    refine r_getI 99 dX11_count_96 rfl f11_104 rfl (by first | with_reducible assumption | with_reducible exact cr_bs hC | rfl) (by first | with_reducible assumption | with_reducible exact cr_bn hC | exact Nat.le_of_ble_eq_true rfl) ?_
    exact r_iret dX11_count_99 rfl rfl (rfl)
  | 2, _ =>
    refine Cl.of (by decide) rfl (fun q => by cases q) rfl rfl (Nat.le_of_ble_eq_true rfl) ?_
    show Sm _ _ _ _ _ 0 [some (.ref 0), some (.int (nI 2))] [] _ _
    refine r_iload_n 1 dX11_count_0 rfl rfl ?_
    refine r_tableIn 100 dX11_count_1 (by decide) (by decide) rfl (by decide) ?_
    refine r_aload_n 101 dX11_count_100 rfl rfl ?_
    refine r_getR 104 dX11_count_101 rfl f11_28 rfl (by first | with_reducible assumption | with_reducible exact cr_bs hC | rfl) (by first | with_reducible assumption | with_reducible exact cr_bn hC | exact Nat.le_of_ble_eq_true rfl) (cr_told hC) ?_
    refine r_getI 107 dX11_count_104 rfl f11_107 rfl (by first | with_reducible assumption | with_reducible exact cr_bs hC | rfl) (by first | with_reducible assumption | with_reducible exact cr_bn hC | exact Nat.le_of_ble_eq_true rfl) ?_
    exact r_iret dX11_count_107 rfl rfl (rfl)
  | 3, _ =>
    refine Cl.of (by decide) rfl (fun q => by cases q) rfl rfl (Nat.le_of_ble_eq_true rfl) ?_
    show Sm _ _ _ _ _ 0 [some (.ref 0), some (.int (nI 3))] [] _ _
    refine r_iload_n 1 dX11_count_0 rfl rfl ?_
    refine r_tableIn 108 dX11_count_1 (by decide) (by decide) rfl (by decide) ?_
    refine r_aload_n 109 dX11_count_108 rfl rfl ?_
    refine r_getR 112 dX11_count_109 rfl f11_28 rfl (by first | with_reducible assumption | with_reducible exact cr_bs hC | rfl) (by first | with_reducible assumption | with_reducible exact cr_bn hC | exact Nat.le_of_ble_eq_true rfl) (cr_told hC) ?_
    refine r_getI 115 dX11_count_112 rfl f11_110 rfl (by first | with_reducible assumption | with_reducible exact cr_bs hC | rfl) (by first | with_reducible assumption | with_reducible exact cr_bn hC | exact Nat.le_of_ble_eq_true rfl) ?_
    exact r_iret dX11_count_115 rfl rfl (rfl)
  | 4, _ =>
    refine Cl.of (by decide) rfl (fun q => by cases q) rfl rfl (Nat.le_of_ble_eq_true rfl) ?_
    show Sm _ _ _ _ _ 0 [some (.ref 0), some (.int (nI 4))] [] _ _
    refine r_iload_n 1 dX11_count_0 rfl rfl ?_
    refine r_tableIn 116 dX11_count_1 (by decide) (by decide) rfl (by decide) ?_
    refine r_aload_n 117 dX11_count_116 rfl rfl ?_
    refine r_getR 120 dX11_count_117 rfl f11_28 rfl (by first | with_reducible assumption | with_reducible exact cr_bs hC | rfl) (by first | with_reducible assumption | with_reducible exact cr_bn hC | exact Nat.le_of_ble_eq_true rfl) (cr_told hC) ?_
    refine r_getI 123 dX11_count_120 rfl f11_113 rfl (by first | with_reducible assumption | with_reducible exact cr_bs hC | rfl) (by first | with_reducible assumption | with_reducible exact cr_bn hC | exact Nat.le_of_ble_eq_true rfl) ?_
    exact r_iret dX11_count_123 rfl rfl (rfl)
  | 5, _ =>
    refine Cl.of (by decide) rfl (fun q => by cases q) rfl rfl (Nat.le_of_ble_eq_true rfl) ?_
    show Sm _ _ _ _ _ 0 [some (.ref 0), some (.int (nI 5))] [] _ _
    refine r_iload_n 1 dX11_count_0 rfl rfl ?_
    refine r_tableIn 124 dX11_count_1 (by decide) (by decide) rfl (by decide) ?_
    refine r_aload_n 125 dX11_count_124 rfl rfl ?_
    refine r_getR 128 dX11_count_125 rfl f11_47 rfl (by first | with_reducible assumption | with_reducible exact cr_bs hC | rfl) (by first | with_reducible assumption | with_reducible exact cr_bn hC | exact Nat.le_of_ble_eq_true rfl) (cr_1414_0 hC) ?_
    refine r_getR 131 dX11_count_128 rfl f11_116 rfl (by first | with_reducible assumption | with_reducible exact cr_bs hC | rfl) (by first | with_reducible assumption | with_reducible exact cr_bn hC | exact Nat.le_of_ble_eq_true rfl) (cr_1152_45 hC) ?_
    refine r_getI 134 dX11_count_131 rfl f11_119 rfl (by first | with_reducible assumption | with_reducible exact cr_bs hC | rfl) (by first | with_reducible assumption | with_reducible exact cr_bn hC | exact Nat.le_of_ble_eq_true rfl) ?_
    exact r_iret dX11_count_134 rfl rfl (rfl)
  | 6, _ =>
    refine Cl.of (by decide) rfl (fun q => by cases q) rfl rfl (Nat.le_of_ble_eq_true rfl) ?_
    show Sm _ _ _ _ _ 0 [some (.ref 0), some (.int (nI 6))] [] _ _
    refine r_iload_n 1 dX11_count_0 rfl rfl ?_
    refine r_tableIn 135 dX11_count_1 (by decide) (by decide) rfl (by decide) ?_
    refine r_aload_n 136 dX11_count_135 rfl rfl ?_
    refine r_getR 139 dX11_count_136 rfl f11_28 rfl (by first | with_reducible assumption | with_reducible exact cr_bs hC | rfl) (by first | with_reducible assumption | with_reducible exact cr_bn hC | exact Nat.le_of_ble_eq_true rfl) (cr_told hC) ?_
    refine r_getI 142 dX11_count_139 rfl f11_122 rfl (by first | with_reducible assumption | with_reducible exact cr_bs hC | rfl) (by first | with_reducible assumption | with_reducible exact cr_bn hC | exact Nat.le_of_ble_eq_true rfl) ?_
    exact r_iret dX11_count_142 rfl rfl (rfl)
  | 7, _ =>
    refine Cl.of (by decide) rfl (fun q => by cases q) rfl rfl (Nat.le_of_ble_eq_true rfl) ?_
    show Sm _ _ _ _ _ 0 [some (.ref 0), some (.int (nI 7))] [] _ _
    refine r_iload_n 1 dX11_count_0 rfl rfl ?_
    refine r_tableIn 143 dX11_count_1 (by decide) (by decide) rfl (by decide) ?_
    refine r_aload_n 144 dX11_count_143 rfl rfl ?_
    refine r_getR 147 dX11_count_144 rfl f11_47 rfl (by first | with_reducible assumption | with_reducible exact cr_bs hC | rfl) (by first | with_reducible assumption | with_reducible exact cr_bn hC | exact Nat.le_of_ble_eq_true rfl) (cr_1414_0 hC) ?_
    refine r_getR 150 dX11_count_147 rfl f11_116 rfl (by first | with_reducible assumption | with_reducible exact cr_bs hC | rfl) (by first | with_reducible assumption | with_reducible exact cr_bn hC | exact Nat.le_of_ble_eq_true rfl) (cr_1152_45 hC) ?_
    refine r_getI 153 dX11_count_150 rfl f11_125 rfl (by first | with_reducible assumption | with_reducible exact cr_bs hC | rfl) (by first | with_reducible assumption | with_reducible exact cr_bn hC | exact Nat.le_of_ble_eq_true rfl) ?_
    exact r_iret dX11_count_153 rfl rfl (rfl)
  | 8, _ =>
    refine Cl.of (by decide) rfl (fun q => by cases q) rfl rfl (Nat.le_of_ble_eq_true rfl) ?_
    show Sm _ _ _ _ _ 0 [some (.ref 0), some (.int (nI 8))] [] _ _
    refine r_iload_n 1 dX11_count_0 rfl rfl ?_
    refine r_tableIn 154 dX11_count_1 (by decide) (by decide) rfl (by decide) ?_
    refine r_aload_n 155 dX11_count_154 rfl rfl ?_
    refine r_getR 158 dX11_count_155 rfl f11_47 rfl (by first | with_reducible assumption | with_reducible exact cr_bs hC | rfl) (by first | with_reducible assumption | with_reducible exact cr_bn hC | exact Nat.le_of_ble_eq_true rfl) (cr_1414_0 hC) ?_
    refine r_getR 161 dX11_count_158 rfl f11_116 rfl (by first | with_reducible assumption | with_reducible exact cr_bs hC | rfl) (by first | with_reducible assumption | with_reducible exact cr_bn hC | exact Nat.le_of_ble_eq_true rfl) (cr_1152_45 hC) ?_
    refine r_getI 164 dX11_count_161 rfl f11_128 rfl (by first | with_reducible assumption | with_reducible exact cr_bs hC | rfl) (by first | with_reducible assumption | with_reducible exact cr_bn hC | exact Nat.le_of_ble_eq_true rfl) ?_
    exact r_iret dX11_count_164 rfl rfl (rfl)
  | 9, _ =>
    refine Cl.of (by decide) rfl (fun q => by cases q) rfl rfl (Nat.le_of_ble_eq_true rfl) ?_
    show Sm _ _ _ _ _ 0 [some (.ref 0), some (.int (nI 9))] [] _ _
    refine r_iload_n 1 dX11_count_0 rfl rfl ?_
    refine r_tableIn 165 dX11_count_1 (by decide) (by decide) rfl (by decide) ?_
    refine r_aload_n 166 dX11_count_165 rfl rfl ?_
    refine r_getR 169 dX11_count_166 rfl f11_47 rfl (by first | with_reducible assumption | with_reducible exact cr_bs hC | rfl) (by first | with_reducible assumption | with_reducible exact cr_bn hC | exact Nat.le_of_ble_eq_true rfl) (cr_1414_0 hC) ?_
    refine r_getR 172 dX11_count_169 rfl f11_116 rfl (by first | with_reducible assumption | with_reducible exact cr_bs hC | rfl) (by first | with_reducible assumption | with_reducible exact cr_bn hC | exact Nat.le_of_ble_eq_true rfl) (cr_1152_45 hC) ?_
    refine r_getI 175 dX11_count_172 rfl f11_131 rfl (by first | with_reducible assumption | with_reducible exact cr_bs hC | rfl) (by first | with_reducible assumption | with_reducible exact cr_bn hC | exact Nat.le_of_ble_eq_true rfl) ?_
    exact r_iret dX11_count_175 rfl rfl (rfl)
  | 10, _ =>
    refine Cl.of (by decide) rfl (fun q => by cases q) rfl rfl (Nat.le_of_ble_eq_true rfl) ?_
    show Sm _ _ _ _ _ 0 [some (.ref 0), some (.int (nI 10))] [] _ _
    refine r_iload_n 1 dX11_count_0 rfl rfl ?_
    refine r_tableIn 176 dX11_count_1 (by decide) (by decide) rfl (by decide) ?_
    refine r_aload_n 177 dX11_count_176 rfl rfl ?_
    refine r_getR 180 dX11_count_177 rfl f11_47 rfl (by first | with_reducible assumption | with_reducible exact cr_bs hC | rfl) (by first | with_reducible assumption | with_reducible exact cr_bn hC | exact Nat.le_of_ble_eq_true rfl) (cr_1414_0 hC) ?_
    refine r_getR 183 dX11_count_180 rfl f11_116 rfl (by first | with_reducible assumption | with_reducible exact cr_bs hC | rfl) (by first | with_reducible assumption | with_reducible exact cr_bn hC | exact Nat.le_of_ble_eq_true rfl) (cr_1152_45 hC) ?_
    refine r_getI 186 dX11_count_183 rfl f11_134 rfl (by first | with_reducible assumption | with_reducible exact cr_bs hC | rfl) (by first | with_reducible assumption | with_reducible exact cr_bn hC | exact Nat.le_of_ble_eq_true rfl) ?_
    refine r_if_eq 189 193 dX11_count_186 rfl (by decide) (fun h186 => ?_) (fun h186 => ?_)
    · refine r_iconst (0) 194 dX11_count_193 rfl (by decide) ?_
      exact r_iret dX11_count_194 rfl rfl (by first | exact out_eq (show (1 : Int32) = gI E 519 46 from (cfr.resolve_left h186).symm) | exact out_eq (show (0 : Int32) = gI E 519 46 from h186.symm) | exact out_eq (cfr.resolve_left h186) | exact out_eq h186)
    · refine r_iconst (1) 190 dX11_count_189 rfl (by decide) ?_
      refine r_goto 194 dX11_count_190 (by decide) ?_
      exact r_iret dX11_count_194 rfl rfl (by first | exact out_eq (show (1 : Int32) = gI E 519 46 from (cfr.resolve_left h186).symm) | exact out_eq (show (0 : Int32) = gI E 519 46 from h186.symm) | exact out_eq (cfr.resolve_left h186) | exact out_eq h186)
  | 11, _ =>
    refine Cl.of (by decide) rfl (fun q => by cases q) rfl rfl (Nat.le_of_ble_eq_true rfl) ?_
    show Sm _ _ _ _ _ 0 [some (.ref 0), some (.int (nI 11))] [] _ _
    refine r_iload_n 1 dX11_count_0 rfl rfl ?_
    refine r_tableIn 195 dX11_count_1 (by decide) (by decide) rfl (by decide) ?_
    refine r_aload_n 196 dX11_count_195 rfl rfl ?_
    refine r_getR 199 dX11_count_196 rfl f11_47 rfl (by first | with_reducible assumption | with_reducible exact cr_bs hC | rfl) (by first | with_reducible assumption | with_reducible exact cr_bn hC | exact Nat.le_of_ble_eq_true rfl) (cr_1414_0 hC) ?_
    refine r_getR 202 dX11_count_199 rfl f11_137 rfl (by first | with_reducible assumption | with_reducible exact cr_bs hC | rfl) (by first | with_reducible assumption | with_reducible exact cr_bn hC | exact Nat.le_of_ble_eq_true rfl) (cr_1153_45 hC) ?_
    refine r_getI 205 dX11_count_202 rfl f11_141 rfl (by first | with_reducible assumption | with_reducible exact cr_bs hC | rfl) (by first | with_reducible assumption | with_reducible exact cr_bn hC | exact Nat.le_of_ble_eq_true rfl) ?_
    exact r_iret dX11_count_205 rfl rfl (rfl)
  | 12, _ =>
    refine Cl.of (by decide) rfl (fun q => by cases q) rfl rfl (Nat.le_of_ble_eq_true rfl) ?_
    show Sm _ _ _ _ _ 0 [some (.ref 0), some (.int (nI 12))] [] _ _
    refine r_iload_n 1 dX11_count_0 rfl rfl ?_
    refine r_tableIn 206 dX11_count_1 (by decide) (by decide) rfl (by decide) ?_
    refine r_aload_n 207 dX11_count_206 rfl rfl ?_
    refine r_getR 210 dX11_count_207 rfl f11_47 rfl (by first | with_reducible assumption | with_reducible exact cr_bs hC | rfl) (by first | with_reducible assumption | with_reducible exact cr_bn hC | exact Nat.le_of_ble_eq_true rfl) (cr_1414_0 hC) ?_
    refine r_getR 213 dX11_count_210 rfl f11_146 rfl (by first | with_reducible assumption | with_reducible exact cr_bs hC | rfl) (by first | with_reducible assumption | with_reducible exact cr_bn hC | exact Nat.le_of_ble_eq_true rfl) (cr_1154_45 hC) ?_
    refine r_getI 216 dX11_count_213 rfl f11_141 rfl (by first | with_reducible assumption | with_reducible exact cr_bs hC | rfl) (by first | with_reducible assumption | with_reducible exact cr_bn hC | exact Nat.le_of_ble_eq_true rfl) ?_
    exact r_iret dX11_count_216 rfl rfl (rfl)
  | 13, _ =>
    refine Cl.of (by decide) rfl (fun q => by cases q) rfl rfl (Nat.le_of_ble_eq_true rfl) ?_
    show Sm _ _ _ _ _ 0 [some (.ref 0), some (.int (nI 13))] [] _ _
    refine r_iload_n 1 dX11_count_0 rfl rfl ?_
    refine r_tableIn 217 dX11_count_1 (by decide) (by decide) rfl (by decide) ?_
    refine r_aload_n 218 dX11_count_217 rfl rfl ?_
    refine r_getI 221 dX11_count_218 rfl f11_18 rfl (by first | with_reducible assumption | with_reducible exact cr_bs hC | rfl) (by first | with_reducible assumption | with_reducible exact cr_bn hC | exact Nat.le_of_ble_eq_true rfl) ?_
    exact r_iret dX11_count_221 rfl rfl (rfl)
  | 14, _ =>
    refine Cl.of (by decide) rfl (fun q => by cases q) rfl rfl (Nat.le_of_ble_eq_true rfl) ?_
    show Sm _ _ _ _ _ 0 [some (.ref 0), some (.int (nI 14))] [] _ _
    refine r_iload_n 1 dX11_count_0 rfl rfl ?_
    refine r_tableIn 222 dX11_count_1 (by decide) (by decide) rfl (by decide) ?_
    refine r_aload_n 223 dX11_count_222 rfl rfl ?_
    refine r_getR 226 dX11_count_223 rfl f11_47 rfl (by first | with_reducible assumption | with_reducible exact cr_bs hC | rfl) (by first | with_reducible assumption | with_reducible exact cr_bn hC | exact Nat.le_of_ble_eq_true rfl) (cr_1414_0 hC) ?_
    refine r_getR 229 dX11_count_226 rfl f11_149 rfl (by first | with_reducible assumption | with_reducible exact cr_bs hC | rfl) (by first | with_reducible assumption | with_reducible exact cr_bn hC | exact Nat.le_of_ble_eq_true rfl) (cr_1155_45 hC) ?_
    refine r_iconst (0) 230 dX11_count_229 rfl (by decide) ?_
    refine r_callV (M := mX11_count) (pc := 230) 233 dX11_count_230 rfl k11_152 hr0 rfl rfl (by first | with_reducible assumption | with_reducible exact cr_bs hC | rfl) (by decide) rfl (by first | with_reducible assumption | with_reducible exact cr_bn hC | exact Nat.le_of_ble_eq_true rfl) (Nat.le_of_ble_eq_true rfl) ?_
    exact r_iret dX11_count_233 rfl rfl (rfl)
  | 15, _ =>
    refine Cl.of (by decide) rfl (fun q => by cases q) rfl rfl (Nat.le_of_ble_eq_true rfl) ?_
    show Sm _ _ _ _ _ 0 [some (.ref 0), some (.int (nI 15))] [] _ _
    refine r_iload_n 1 dX11_count_0 rfl rfl ?_
    refine r_tableIn 234 dX11_count_1 (by decide) (by decide) rfl (by decide) ?_
    refine r_aload_n 235 dX11_count_234 rfl rfl ?_
    refine r_getR 238 dX11_count_235 rfl f11_47 rfl (by first | with_reducible assumption | with_reducible exact cr_bs hC | rfl) (by first | with_reducible assumption | with_reducible exact cr_bn hC | exact Nat.le_of_ble_eq_true rfl) (cr_1414_0 hC) ?_
    refine r_getR 241 dX11_count_238 rfl f11_149 rfl (by first | with_reducible assumption | with_reducible exact cr_bs hC | rfl) (by first | with_reducible assumption | with_reducible exact cr_bn hC | exact Nat.le_of_ble_eq_true rfl) (cr_1155_45 hC) ?_
    refine r_iconst (1) 242 dX11_count_241 rfl (by decide) ?_
    refine r_callV (M := mX11_count) (pc := 242) 245 dX11_count_242 rfl k11_152 hr1 rfl rfl (by first | with_reducible assumption | with_reducible exact cr_bs hC | rfl) (by decide) rfl (by first | with_reducible assumption | with_reducible exact cr_bn hC | exact Nat.le_of_ble_eq_true rfl) (Nat.le_of_ble_eq_true rfl) ?_
    exact r_iret dX11_count_245 rfl rfl (rfl)
  | 16, _ =>
    refine Cl.of (by decide) rfl (fun q => by cases q) rfl rfl (Nat.le_of_ble_eq_true rfl) ?_
    show Sm _ _ _ _ _ 0 [some (.ref 0), some (.int (nI 16))] [] _ _
    refine r_iload_n 1 dX11_count_0 rfl rfl ?_
    refine r_tableIn 246 dX11_count_1 (by decide) (by decide) rfl (by decide) ?_
    refine r_aload_n 247 dX11_count_246 rfl rfl ?_
    refine r_getR 250 dX11_count_247 rfl f11_47 rfl (by first | with_reducible assumption | with_reducible exact cr_bs hC | rfl) (by first | with_reducible assumption | with_reducible exact cr_bn hC | exact Nat.le_of_ble_eq_true rfl) (cr_1414_0 hC) ?_
    refine r_getR 253 dX11_count_250 rfl f11_149 rfl (by first | with_reducible assumption | with_reducible exact cr_bs hC | rfl) (by first | with_reducible assumption | with_reducible exact cr_bn hC | exact Nat.le_of_ble_eq_true rfl) (cr_1155_45 hC) ?_
    refine r_iconst (2) 254 dX11_count_253 rfl (by decide) ?_
    refine r_callV (M := mX11_count) (pc := 254) 257 dX11_count_254 rfl k11_152 hr2 rfl rfl (by first | with_reducible assumption | with_reducible exact cr_bs hC | rfl) (by decide) rfl (by first | with_reducible assumption | with_reducible exact cr_bn hC | exact Nat.le_of_ble_eq_true rfl) (Nat.le_of_ble_eq_true rfl) ?_
    exact r_iret dX11_count_257 rfl rfl (rfl)
  | n + 17, h => exact absurd h (by omega)
set_option maxRecDepth 20000 in
theorem x_count {d b L m : Nat} {R : List Int32} {E : HP} {x : Int32} (hci : CI E b L m R) (h : ¬ inB x 17) : Cl yX11_count mX11_count (d + 8) 1 6 [.ref 0, .int x] E 137 (.inr nseN, E, 137) := by
  have hC := hci.1
  have cL := hci.2.1
  have l7 : L ≤ 7 := hci.2.2.2.1.2.1
  refine Cl.of (by decide) rfl (fun q => by cases q) rfl rfl (Nat.le_of_ble_eq_true rfl) ?_
  show Sm _ _ _ _ _ 0 [some (.ref 0), some (.int (x))] [] _ _
  refine r_iload_n 1 dX11_count_0 rfl rfl ?_
  refine r_tableOut 258 dX11_count_1 (sw_o17 h) (by decide) ?_
  exact r_throw dX11_count_258 rfl rfl rfl dX11_count_261 dX11_count_262 dX11_count_265 tp_nse (Or.inr rfl) rfl rfl rfl (by first | rfl | assumption) (rfl) (by decide)
def sleV (E : HP) (b s p : Nat) : Nat → Int32
  | 0 => slC E b 1 s
  | 1 => slC E b 2 s
  | 2 => slC E b 3 s
  | 3 => slC E b 4 s
  | 4 => slC E b 5 s
  | 5 => gA E 50 s
  | 6 => slC E b 7 s
  | 7 => nI p
  | 8 => gA E (b + 4) s
  | _ => 0
set_option maxRecDepth 20000 in
theorem c_X11_sleeper {d b L m j s : Nat} {R : List Int32} {E : HP} (hci : CI E b L m R) (hs : s < L) (hj : j < 9) : Cl yX11_sleeper mX11_sleeper (d + 8) 0 0 [.ref 0, .int (nI s), .int (nI j)] E 137 (.inl (some (.int (sleV E b s (plcF (cO (cfgP E 46)) (nI s) L) j))), E, 137) := by
  obtain ⟨hC, cL, c51, cok, csu, crl, c87, ⟨m1, m6, cmi⟩, cfr⟩ := id hci
  have hb := hC.1
  have l7 : L ≤ 7 := cok.2.1
  obtain ⟨ws, wn, wk⟩ := who_of hci hs
  have hts := c_X11_toldSleeper (d := d + 5) hci hs
  have hwi : ∀ k, gI E (1023 + k) (b + 12 + s) = slC E b k s := fun k => (slC_lt (by omega)).symm
  have ho := c_X6_at (d := d + 7) (i := nI s) (cr_row49 hC)
  rw [rAt_nI (by omega) (by omega)] at ho
  have he := c_X6_at (d := d + 7) (i := nI s) (cr_bed hC).2.2.2.2.2.2.2.2.1
  rw [rAt_nI (by omega) (by omega)] at he
  have hr3 : sh (b + 3) = (6, 0) := (cr_bed hC).2.2.2.2.2.2.2.2.1.1
  have hn3 : b + 3 < 137 := by omega
  obtain ⟨i0, hi0, he0⟩ := csu s hs
  obtain ⟨pa, pb, pc⟩ := plc_hit hi0 he0
  have hoa : ∀ i, i < L → ordAt E 46 i = cO (cfgP E 46) i := fun i hi => by unfold ordAt; rw [rAt_nI (by omega) (by omega)]; rfl
  have hpl := c_X4_placeOf (d := d + 6) (cr_plan46 hC) c51 l7 (s := nI s) (v := nI (plcF (cO (cfgP E 46)) (nI s) L)) (Or.inl ⟨_, pa, by rw [hoa _ pa]; exact pb, fun j hj => by rw [hoa j (by omega)]; exact pc j hj, rfl⟩)
  match j, hj with
  | 0, _ =>
    refine Cl.of (by decide) rfl (fun q => by cases q) rfl rfl (Nat.le_of_ble_eq_true rfl) ?_
    show Sm _ _ _ _ _ 0 [some (.ref 0), some (.int (nI s)), some (.int (nI 0)), none] [] _ _
    refine r_aload_n 1 dX11_sleeper_0 rfl rfl ?_
    refine r_iload_n 2 dX11_sleeper_1 rfl rfl ?_
    refine r_callV (M := mX11_sleeper) (pc := 2) 5 dX11_sleeper_2 rfl k11_159 hts rfl rfl (by first | with_reducible assumption | with_reducible exact cr_bs hC | rfl) (by decide) rfl (by first | with_reducible assumption | with_reducible exact cr_bn hC | exact Nat.le_of_ble_eq_true rfl) (Nat.le_of_ble_eq_true rfl) ?_
    refine r_astore_n 6 dX11_sleeper_5 rfl (by decide) rfl ?_
    refine r_iload_n 7 dX11_sleeper_6 rfl rfl ?_
    refine r_tableIn 56 dX11_sleeper_7 (by decide) (by decide) rfl (by decide) ?_
    refine r_aload_n 57 dX11_sleeper_56 rfl rfl ?_
    refine r_getIV (slC E b 1 s) 60 dX11_sleeper_57 rfl f11_163 rfl (by first | with_reducible assumption | with_reducible exact cr_bs hC | rfl) (by first | with_reducible assumption | with_reducible exact cr_bn hC | exact Nat.le_of_ble_eq_true rfl) (hwi 1) ?_
    exact r_iret dX11_sleeper_60 rfl rfl (rfl)
  | 1, _ =>
    refine Cl.of (by decide) rfl (fun q => by cases q) rfl rfl (Nat.le_of_ble_eq_true rfl) ?_
    show Sm _ _ _ _ _ 0 [some (.ref 0), some (.int (nI s)), some (.int (nI 1)), none] [] _ _
    refine r_aload_n 1 dX11_sleeper_0 rfl rfl ?_
    refine r_iload_n 2 dX11_sleeper_1 rfl rfl ?_
    refine r_callV (M := mX11_sleeper) (pc := 2) 5 dX11_sleeper_2 rfl k11_159 hts rfl rfl (by first | with_reducible assumption | with_reducible exact cr_bs hC | rfl) (by decide) rfl (by first | with_reducible assumption | with_reducible exact cr_bn hC | exact Nat.le_of_ble_eq_true rfl) (Nat.le_of_ble_eq_true rfl) ?_
    refine r_astore_n 6 dX11_sleeper_5 rfl (by decide) rfl ?_
    refine r_iload_n 7 dX11_sleeper_6 rfl rfl ?_
    refine r_tableIn 61 dX11_sleeper_7 (by decide) (by decide) rfl (by decide) ?_
    refine r_aload_n 62 dX11_sleeper_61 rfl rfl ?_
    refine r_getIV (slC E b 2 s) 65 dX11_sleeper_62 rfl f11_168 rfl (by first | with_reducible assumption | with_reducible exact cr_bs hC | rfl) (by first | with_reducible assumption | with_reducible exact cr_bn hC | exact Nat.le_of_ble_eq_true rfl) (hwi 2) ?_
    exact r_iret dX11_sleeper_65 rfl rfl (rfl)
  | 2, _ =>
    refine Cl.of (by decide) rfl (fun q => by cases q) rfl rfl (Nat.le_of_ble_eq_true rfl) ?_
    show Sm _ _ _ _ _ 0 [some (.ref 0), some (.int (nI s)), some (.int (nI 2)), none] [] _ _
    refine r_aload_n 1 dX11_sleeper_0 rfl rfl ?_
    refine r_iload_n 2 dX11_sleeper_1 rfl rfl ?_
    refine r_callV (M := mX11_sleeper) (pc := 2) 5 dX11_sleeper_2 rfl k11_159 hts rfl rfl (by first | with_reducible assumption | with_reducible exact cr_bs hC | rfl) (by decide) rfl (by first | with_reducible assumption | with_reducible exact cr_bn hC | exact Nat.le_of_ble_eq_true rfl) (Nat.le_of_ble_eq_true rfl) ?_
    refine r_astore_n 6 dX11_sleeper_5 rfl (by decide) rfl ?_
    refine r_iload_n 7 dX11_sleeper_6 rfl rfl ?_
    refine r_tableIn 66 dX11_sleeper_7 (by decide) (by decide) rfl (by decide) ?_
    refine r_aload_n 67 dX11_sleeper_66 rfl rfl ?_
    refine r_getIV (slC E b 3 s) 70 dX11_sleeper_67 rfl f11_171 rfl (by first | with_reducible assumption | with_reducible exact cr_bs hC | rfl) (by first | with_reducible assumption | with_reducible exact cr_bn hC | exact Nat.le_of_ble_eq_true rfl) (hwi 3) ?_
    exact r_iret dX11_sleeper_70 rfl rfl (rfl)
  | 3, _ =>
    refine Cl.of (by decide) rfl (fun q => by cases q) rfl rfl (Nat.le_of_ble_eq_true rfl) ?_
    show Sm _ _ _ _ _ 0 [some (.ref 0), some (.int (nI s)), some (.int (nI 3)), none] [] _ _
    refine r_aload_n 1 dX11_sleeper_0 rfl rfl ?_
    refine r_iload_n 2 dX11_sleeper_1 rfl rfl ?_
    refine r_callV (M := mX11_sleeper) (pc := 2) 5 dX11_sleeper_2 rfl k11_159 hts rfl rfl (by first | with_reducible assumption | with_reducible exact cr_bs hC | rfl) (by decide) rfl (by first | with_reducible assumption | with_reducible exact cr_bn hC | exact Nat.le_of_ble_eq_true rfl) (Nat.le_of_ble_eq_true rfl) ?_
    refine r_astore_n 6 dX11_sleeper_5 rfl (by decide) rfl ?_
    refine r_iload_n 7 dX11_sleeper_6 rfl rfl ?_
    refine r_tableIn 71 dX11_sleeper_7 (by decide) (by decide) rfl (by decide) ?_
    refine r_aload_n 72 dX11_sleeper_71 rfl rfl ?_
    refine r_getIV (slC E b 4 s) 75 dX11_sleeper_72 rfl f11_174 rfl (by first | with_reducible assumption | with_reducible exact cr_bs hC | rfl) (by first | with_reducible assumption | with_reducible exact cr_bn hC | exact Nat.le_of_ble_eq_true rfl) (hwi 4) ?_
    exact r_iret dX11_sleeper_75 rfl rfl (rfl)
  | 4, _ =>
    refine Cl.of (by decide) rfl (fun q => by cases q) rfl rfl (Nat.le_of_ble_eq_true rfl) ?_
    show Sm _ _ _ _ _ 0 [some (.ref 0), some (.int (nI s)), some (.int (nI 4)), none] [] _ _
    refine r_aload_n 1 dX11_sleeper_0 rfl rfl ?_
    refine r_iload_n 2 dX11_sleeper_1 rfl rfl ?_
    refine r_callV (M := mX11_sleeper) (pc := 2) 5 dX11_sleeper_2 rfl k11_159 hts rfl rfl (by first | with_reducible assumption | with_reducible exact cr_bs hC | rfl) (by decide) rfl (by first | with_reducible assumption | with_reducible exact cr_bn hC | exact Nat.le_of_ble_eq_true rfl) (Nat.le_of_ble_eq_true rfl) ?_
    refine r_astore_n 6 dX11_sleeper_5 rfl (by decide) rfl ?_
    refine r_iload_n 7 dX11_sleeper_6 rfl rfl ?_
    refine r_tableIn 76 dX11_sleeper_7 (by decide) (by decide) rfl (by decide) ?_
    refine r_aload_n 77 dX11_sleeper_76 rfl rfl ?_
    refine r_getIV (slC E b 5 s) 80 dX11_sleeper_77 rfl f11_177 rfl (by first | with_reducible assumption | with_reducible exact cr_bs hC | rfl) (by first | with_reducible assumption | with_reducible exact cr_bn hC | exact Nat.le_of_ble_eq_true rfl) (hwi 5) ?_
    exact r_iret dX11_sleeper_80 rfl rfl (rfl)
  | 5, _ =>
    refine Cl.of (by decide) rfl (fun q => by cases q) rfl rfl (Nat.le_of_ble_eq_true rfl) ?_
    show Sm _ _ _ _ _ 0 [some (.ref 0), some (.int (nI s)), some (.int (nI 5)), none] [] _ _
    refine r_aload_n 1 dX11_sleeper_0 rfl rfl ?_
    refine r_iload_n 2 dX11_sleeper_1 rfl rfl ?_
    refine r_callV (M := mX11_sleeper) (pc := 2) 5 dX11_sleeper_2 rfl k11_159 hts rfl rfl (by first | with_reducible assumption | with_reducible exact cr_bs hC | rfl) (by decide) rfl (by first | with_reducible assumption | with_reducible exact cr_bn hC | exact Nat.le_of_ble_eq_true rfl) (Nat.le_of_ble_eq_true rfl) ?_
    refine r_astore_n 6 dX11_sleeper_5 rfl (by decide) rfl ?_
    refine r_iload_n 7 dX11_sleeper_6 rfl rfl ?_
    refine r_tableIn 81 dX11_sleeper_7 (by decide) (by decide) rfl (by decide) ?_
    refine r_aload_n 82 dX11_sleeper_81 rfl rfl ?_
    refine r_getR 85 dX11_sleeper_82 rfl f11_47 rfl (by first | with_reducible assumption | with_reducible exact cr_bs hC | rfl) (by first | with_reducible assumption | with_reducible exact cr_bn hC | exact Nat.le_of_ble_eq_true rfl) (cr_1414_0 hC) ?_
    refine r_getR 88 dX11_sleeper_85 rfl f11_116 rfl (by first | with_reducible assumption | with_reducible exact cr_bs hC | rfl) (by first | with_reducible assumption | with_reducible exact cr_bn hC | exact Nat.le_of_ble_eq_true rfl) (cr_1152_45 hC) ?_
    refine r_getR 91 dX11_sleeper_88 rfl f11_180 rfl (by first | with_reducible assumption | with_reducible exact cr_bs hC | rfl) (by first | with_reducible assumption | with_reducible exact cr_bn hC | exact Nat.le_of_ble_eq_true rfl) (cr_513_46 hC) ?_
    refine r_iload_n 92 dX11_sleeper_91 rfl rfl ?_
    refine r_callV (M := mX11_sleeper) (pc := 92) 95 dX11_sleeper_92 rfl k11_152 ho rfl rfl (by first | with_reducible assumption | with_reducible exact cr_bs hC | rfl) (by decide) rfl (by first | with_reducible assumption | with_reducible exact cr_bn hC | exact Nat.le_of_ble_eq_true rfl) (Nat.le_of_ble_eq_true rfl) ?_
    exact r_iret dX11_sleeper_95 rfl rfl (rfl)
  | 6, _ =>
    refine Cl.of (by decide) rfl (fun q => by cases q) rfl rfl (Nat.le_of_ble_eq_true rfl) ?_
    show Sm _ _ _ _ _ 0 [some (.ref 0), some (.int (nI s)), some (.int (nI 6)), none] [] _ _
    refine r_aload_n 1 dX11_sleeper_0 rfl rfl ?_
    refine r_iload_n 2 dX11_sleeper_1 rfl rfl ?_
    refine r_callV (M := mX11_sleeper) (pc := 2) 5 dX11_sleeper_2 rfl k11_159 hts rfl rfl (by first | with_reducible assumption | with_reducible exact cr_bs hC | rfl) (by decide) rfl (by first | with_reducible assumption | with_reducible exact cr_bn hC | exact Nat.le_of_ble_eq_true rfl) (Nat.le_of_ble_eq_true rfl) ?_
    refine r_astore_n 6 dX11_sleeper_5 rfl (by decide) rfl ?_
    refine r_iload_n 7 dX11_sleeper_6 rfl rfl ?_
    refine r_tableIn 96 dX11_sleeper_7 (by decide) (by decide) rfl (by decide) ?_
    refine r_aload_n 97 dX11_sleeper_96 rfl rfl ?_
    refine r_getIV (slC E b 7 s) 100 dX11_sleeper_97 rfl f11_183 rfl (by first | with_reducible assumption | with_reducible exact cr_bs hC | rfl) (by first | with_reducible assumption | with_reducible exact cr_bn hC | exact Nat.le_of_ble_eq_true rfl) (hwi 7) ?_
    exact r_iret dX11_sleeper_100 rfl rfl (rfl)
  | 7, _ =>
    refine Cl.of (by decide) rfl (fun q => by cases q) rfl rfl (Nat.le_of_ble_eq_true rfl) ?_
    show Sm _ _ _ _ _ 0 [some (.ref 0), some (.int (nI s)), some (.int (nI 7)), none] [] _ _
    refine r_aload_n 1 dX11_sleeper_0 rfl rfl ?_
    refine r_iload_n 2 dX11_sleeper_1 rfl rfl ?_
    refine r_callV (M := mX11_sleeper) (pc := 2) 5 dX11_sleeper_2 rfl k11_159 hts rfl rfl (by first | with_reducible assumption | with_reducible exact cr_bs hC | rfl) (by decide) rfl (by first | with_reducible assumption | with_reducible exact cr_bn hC | exact Nat.le_of_ble_eq_true rfl) (Nat.le_of_ble_eq_true rfl) ?_
    refine r_astore_n 6 dX11_sleeper_5 rfl (by decide) rfl ?_
    refine r_iload_n 7 dX11_sleeper_6 rfl rfl ?_
    refine r_tableIn 101 dX11_sleeper_7 (by decide) (by decide) rfl (by decide) ?_
    refine r_aload_n 102 dX11_sleeper_101 rfl rfl ?_
    refine r_getR 105 dX11_sleeper_102 rfl f11_47 rfl (by first | with_reducible assumption | with_reducible exact cr_bs hC | rfl) (by first | with_reducible assumption | with_reducible exact cr_bn hC | exact Nat.le_of_ble_eq_true rfl) (cr_1414_0 hC) ?_
    refine r_getR 108 dX11_sleeper_105 rfl f11_116 rfl (by first | with_reducible assumption | with_reducible exact cr_bs hC | rfl) (by first | with_reducible assumption | with_reducible exact cr_bn hC | exact Nat.le_of_ble_eq_true rfl) (cr_1152_45 hC) ?_
    refine r_iload_n 109 dX11_sleeper_108 rfl rfl ?_
    refine r_callV (M := mX11_sleeper) (pc := 109) 112 dX11_sleeper_109 rfl k11_186 hpl rfl rfl (by first | with_reducible assumption | with_reducible exact cr_bs hC | rfl) (by decide) rfl (by first | with_reducible assumption | with_reducible exact cr_bn hC | exact Nat.le_of_ble_eq_true rfl) (Nat.le_of_ble_eq_true rfl) ?_
    exact r_iret dX11_sleeper_112 rfl rfl (rfl)
  | 8, _ =>
    refine Cl.of (by decide) rfl (fun q => by cases q) rfl rfl (Nat.le_of_ble_eq_true rfl) ?_
    show Sm _ _ _ _ _ 0 [some (.ref 0), some (.int (nI s)), some (.int (nI 8)), none] [] _ _
    refine r_aload_n 1 dX11_sleeper_0 rfl rfl ?_
    refine r_iload_n 2 dX11_sleeper_1 rfl rfl ?_
    refine r_callV (M := mX11_sleeper) (pc := 2) 5 dX11_sleeper_2 rfl k11_159 hts rfl rfl (by first | with_reducible assumption | with_reducible exact cr_bs hC | rfl) (by decide) rfl (by first | with_reducible assumption | with_reducible exact cr_bn hC | exact Nat.le_of_ble_eq_true rfl) (Nat.le_of_ble_eq_true rfl) ?_
    refine r_astore_n 6 dX11_sleeper_5 rfl (by decide) rfl ?_
    refine r_iload_n 7 dX11_sleeper_6 rfl rfl ?_
    refine r_tableIn 113 dX11_sleeper_7 (by decide) (by decide) rfl (by decide) ?_
    refine r_aload_n 114 dX11_sleeper_113 rfl rfl ?_
    refine r_getR 117 dX11_sleeper_114 rfl f11_28 rfl (by first | with_reducible assumption | with_reducible exact cr_bs hC | rfl) (by first | with_reducible assumption | with_reducible exact cr_bn hC | exact Nat.le_of_ble_eq_true rfl) (cr_told hC) ?_
    refine r_getR 120 dX11_sleeper_117 rfl f11_189 rfl (by first | with_reducible assumption | with_reducible exact cr_bs hC | rfl) (by first | with_reducible assumption | with_reducible exact cr_bn hC | exact Nat.le_of_ble_eq_true rfl) ((cr_bed hC).2.2.2.1) ?_
    refine r_iload_n 121 dX11_sleeper_120 rfl rfl ?_
    refine r_callV (M := mX11_sleeper) (pc := 121) 124 dX11_sleeper_121 rfl k11_152 he rfl rfl (by first | with_reducible assumption | with_reducible exact cr_bs hC | rfl) (by decide) rfl (by first | with_reducible assumption | with_reducible exact cr_bn hC | exact Nat.le_of_ble_eq_true rfl) (Nat.le_of_ble_eq_true rfl) ?_
    exact r_iret dX11_sleeper_124 rfl rfl (rfl)
  | n + 9, h => exact absurd h (by omega)
set_option maxRecDepth 20000 in
theorem x_sleeper1 {d b L m s : Nat} {R : List Int32} {E : HP} {x w : Int32} (hci : CI E b L m R) (h : ¬ inB x (nI L)) : Cl yX11_sleeper mX11_sleeper (d + 8) 1 6 [.ref 0, .int (x), .int (w)] E 137 (.inr nseN, E, 137) := by
  have hC := hci.1
  have cL := hci.2.1
  have l7 : L ≤ 7 := hci.2.2.2.1.2.1
  refine Cl.of (by decide) rfl (fun q => by cases q) rfl rfl (Nat.le_of_ble_eq_true rfl) ?_
  show Sm _ _ _ _ _ 0 [some (.ref 0), some (.int (x)), some (.int (w)), none] [] _ _
  refine r_aload_n 1 dX11_sleeper_0 rfl rfl ?_
  refine r_iload_n 2 dX11_sleeper_1 rfl rfl ?_
  exact r_callVX (M := mX11_sleeper) (pc := 2) dX11_sleeper_2 k11_159 (x_toldSleeper (s := 0) hci h) rfl rfl (by first | with_reducible assumption | with_reducible exact cr_bs hC | rfl) (by decide) rfl (by first | with_reducible assumption | with_reducible exact cr_bn hC | exact Nat.le_of_ble_eq_true rfl) (Nat.le_of_ble_eq_true rfl) rfl rfl (rfl)
set_option maxRecDepth 20000 in
theorem x_sleeper2 {d b L m s : Nat} {R : List Int32} {E : HP} {w : Int32} (hci : CI E b L m R) (hs : s < L) (h : ¬ inB w 9) : Cl yX11_sleeper mX11_sleeper (d + 8) 1 6 [.ref 0, .int (nI s), .int (w)] E 137 (.inr nseN, E, 137) := by
  have hC := hci.1
  have cL := hci.2.1
  have l7 : L ≤ 7 := hci.2.2.2.1.2.1
  have hts := c_X11_toldSleeper (d := d + 5) hci hs
  refine Cl.of (by decide) rfl (fun q => by cases q) rfl rfl (Nat.le_of_ble_eq_true rfl) ?_
  show Sm _ _ _ _ _ 0 [some (.ref 0), some (.int (nI s)), some (.int (w)), none] [] _ _
  refine r_aload_n 1 dX11_sleeper_0 rfl rfl ?_
  refine r_iload_n 2 dX11_sleeper_1 rfl rfl ?_
  refine r_callV (M := mX11_sleeper) (pc := 2) 5 dX11_sleeper_2 rfl k11_159 hts rfl rfl (by first | with_reducible assumption | with_reducible exact cr_bs hC | rfl) (by decide) rfl (by first | with_reducible assumption | with_reducible exact cr_bn hC | exact Nat.le_of_ble_eq_true rfl) (Nat.le_of_ble_eq_true rfl) ?_
  refine r_astore_n 6 dX11_sleeper_5 rfl (by decide) rfl ?_
  refine r_iload_n 7 dX11_sleeper_6 rfl rfl ?_
  refine r_tableOut 125 dX11_sleeper_7 (sw_o9 h) (by decide) ?_
  exact r_throw dX11_sleeper_125 rfl rfl rfl dX11_sleeper_128 dX11_sleeper_129 dX11_sleeper_132 tp_nse (Or.inr rfl) rfl rfl rfl (by first | rfl | assumption) (rfl) (by decide)
set_option maxRecDepth 20000 in
theorem c_X11_kept {d b L m n i : Nat} {R : List Int32} {E : HP} (hci : CI E b L m R) (hk : gI E 1418 0 = nI n) (hi : i < n) (hn : n ≤ 7) : Cl yX11_kept mX11_kept (d + 8) 0 0 [.ref 0, .int (nI i)] E 137 (.inl (some (.int (gA E 74 i))), E, 137) := by
  have hC := hci.1
  have cL := hci.2.1
  have l7 : L ≤ 7 := hci.2.2.2.1.2.1
  have hat := c_X6_at (d := d + 7) (i := nI i) (cr_row73 hC)
  rw [rAt_nI (by omega) (by omega)] at hat
  refine Cl.of (by decide) rfl (fun q => by cases q) rfl rfl (Nat.le_of_ble_eq_true rfl) ?_
  show Sm _ _ _ _ _ 0 [some (.ref 0), some (.int (nI i))] [] _ _
  refine r_aload_n 1 dX11_kept_0 rfl rfl ?_
  refine r_iload_n 2 dX11_kept_1 rfl rfl ?_
  refine r_aload_n 3 dX11_kept_2 rfl rfl ?_
  refine r_getIV (nI n) 6 dX11_kept_3 rfl f11_61 rfl (by first | with_reducible assumption | with_reducible exact cr_bs hC | rfl) (by first | with_reducible assumption | with_reducible exact cr_bn hC | exact Nat.le_of_ble_eq_true rfl) (hk) ?_
  refine r_callV (M := mX11_kept) (pc := 6) 9 dX11_kept_6 rfl k11_192 (c_X11_checkNumber (inB_of hi (by omega))) rfl rfl (by first | with_reducible assumption | with_reducible exact cr_bs hC | rfl) (by decide) rfl (by first | with_reducible assumption | with_reducible exact cr_bn hC | exact Nat.le_of_ble_eq_true rfl) (Nat.le_of_ble_eq_true rfl) ?_
  refine r_aload_n 10 dX11_kept_9 rfl rfl ?_
  refine r_getR 13 dX11_kept_10 rfl f11_58 rfl (by first | with_reducible assumption | with_reducible exact cr_bs hC | rfl) (by first | with_reducible assumption | with_reducible exact cr_bn hC | exact Nat.le_of_ble_eq_true rfl) (cr_1417_0 hC) ?_
  refine r_iload_n 14 dX11_kept_13 rfl rfl ?_
  refine r_callV (M := mX11_kept) (pc := 14) 17 dX11_kept_14 rfl k11_152 hat rfl rfl (by first | with_reducible assumption | with_reducible exact cr_bs hC | rfl) (by decide) rfl (by first | with_reducible assumption | with_reducible exact cr_bn hC | exact Nat.le_of_ble_eq_true rfl) (Nat.le_of_ble_eq_true rfl) ?_
  exact r_iret dX11_kept_17 rfl rfl (rfl)
set_option maxRecDepth 20000 in
theorem x_kept {d b L m : Nat} {R : List Int32} {E : HP} {x y : Int32} (hci : CI E b L m R) (hk : gI E 1418 0 = y) (h : ¬ inB x y) : Cl yX11_kept mX11_kept (d + 8) 1 6 [.ref 0, .int (x)] E 137 (.inr nseN, E, 137) := by
  have hC := hci.1
  have cL := hci.2.1
  have l7 : L ≤ 7 := hci.2.2.2.1.2.1
  refine Cl.of (by decide) rfl (fun q => by cases q) rfl rfl (Nat.le_of_ble_eq_true rfl) ?_
  show Sm _ _ _ _ _ 0 [some (.ref 0), some (.int (x))] [] _ _
  refine r_aload_n 1 dX11_kept_0 rfl rfl ?_
  refine r_iload_n 2 dX11_kept_1 rfl rfl ?_
  refine r_aload_n 3 dX11_kept_2 rfl rfl ?_
  refine r_getIV (y) 6 dX11_kept_3 rfl f11_61 rfl (by first | with_reducible assumption | with_reducible exact cr_bs hC | rfl) (by first | with_reducible assumption | with_reducible exact cr_bn hC | exact Nat.le_of_ble_eq_true rfl) (hk) ?_
  exact r_callVX (M := mX11_kept) (pc := 6) dX11_kept_6 k11_192 (x_checkNumber h) rfl rfl (by first | with_reducible assumption | with_reducible exact cr_bs hC | rfl) (by decide) rfl (by first | with_reducible assumption | with_reducible exact cr_bn hC | exact Nat.le_of_ble_eq_true rfl) (Nat.le_of_ble_eq_true rfl) rfl rfl (rfl)
set_option maxRecDepth 20000 in
theorem c_X11_swap {d b L m k i j : Nat} {R : List Int32} {E : HP} (hci : CI E b L m R) (ac : piSz E 137 51 120 k 40) (hi : i < L) (hj : j < L) (hij : ¬ i = j) : Cl yX11_swap mX11_swap (d + 8) 0 0 [.ref 0, .int (nI i), .int (nI j)] E 137 (.inl (some (.int (1))), piAdd 51 120 k 40 0 (nI i) (nI j) (rExch 47 7 (nI i) (nI j) E), 137) := by
  have hC := hci.1
  have cL := hci.2.1
  have l7 : L ≤ 7 := hci.2.2.2.1.2.1
  have hp1 := c_isPlace (d := d + 7) (x := nI i) hci
  have hp2 := c_isPlace (d := d + 7) (x := nI j) hci
  rw [b01_t (inB_of hi (by omega))] at hp1
  rw [b01_t (inB_of hj (by omega))] at hp2
  have hex := c_exch (d := d + 6) (i := nI i) (j := nI j) (cr_row47 hC)
  have hS : SR E (rExch 47 7 (nI i) (nI j) E) := sr_exch sr_rfl
  have hC2 := cr_sr hS hC
  have had := c_X3_add (d := d + 5) (a := 0) (b := nI i) (c := nI j) (ps_fr ac hS gI_exch gI_exch)
  refine Cl.of (by decide) rfl (fun q => by cases q) rfl rfl (Nat.le_of_ble_eq_true rfl) ?_
  show Sm _ _ _ _ _ 0 [some (.ref 0), some (.int (nI i)), some (.int (nI j))] [] _ _
  refine r_aload_n 1 dX11_swap_0 rfl rfl ?_
  refine r_iload_n 2 dX11_swap_1 rfl rfl ?_
  refine r_callV (M := mX11_swap) (pc := 2) 5 dX11_swap_2 rfl k11_198 hp1 rfl rfl (by first | with_reducible assumption | with_reducible exact cr_bs hC | rfl) (by decide) rfl (by first | with_reducible assumption | with_reducible exact cr_bn hC | exact Nat.le_of_ble_eq_true rfl) (Nat.le_of_ble_eq_true rfl) ?_
  refine r_if_eq 8 21 dX11_swap_5 rfl (by decide) (fun h5 => absurd h5 (by decide)) (fun h5 => ?_)
  refine r_aload_n 9 dX11_swap_8 rfl rfl ?_
  refine r_iload_n 10 dX11_swap_9 rfl rfl ?_
  refine r_callV (M := mX11_swap) (pc := 10) 13 dX11_swap_10 rfl k11_198 hp2 rfl rfl (by first | with_reducible assumption | with_reducible exact cr_bs hC | rfl) (by decide) rfl (by first | with_reducible assumption | with_reducible exact cr_bn hC | exact Nat.le_of_ble_eq_true rfl) (Nat.le_of_ble_eq_true rfl) ?_
  refine r_if_eq 16 21 dX11_swap_13 rfl (by decide) (fun h13 => absurd h13 (by decide)) (fun h13 => ?_)
  refine r_iload_n 17 dX11_swap_16 rfl rfl ?_
  refine r_iload_n 18 dX11_swap_17 rfl rfl ?_
  refine r_icmp_ne 21 31 dX11_swap_18 rfl (by decide) (fun h18 => ?_) (fun h18 => absurd h18 (fun z => hij ((nI_eq (by omega) (by omega)).mp z)))
  refine r_aload_n 32 dX11_swap_31 rfl rfl ?_
  refine r_getR 35 dX11_swap_32 rfl f11_47 rfl (by first | with_reducible assumption | with_reducible exact cr_bs hC | rfl) (by first | with_reducible assumption | with_reducible exact cr_bn hC | exact Nat.le_of_ble_eq_true rfl) (cr_1414_0 hC) ?_
  refine r_getR 38 dX11_swap_35 rfl f11_116 rfl (by first | with_reducible assumption | with_reducible exact cr_bs hC | rfl) (by first | with_reducible assumption | with_reducible exact cr_bn hC | exact Nat.le_of_ble_eq_true rfl) (cr_1152_45 hC) ?_
  refine r_getR 41 dX11_swap_38 rfl f11_202 rfl (by first | with_reducible assumption | with_reducible exact cr_bs hC | rfl) (by first | with_reducible assumption | with_reducible exact cr_bn hC | exact Nat.le_of_ble_eq_true rfl) (cr_512_46 hC) ?_
  refine r_iload_n 42 dX11_swap_41 rfl rfl ?_
  refine r_iload_n 43 dX11_swap_42 rfl rfl ?_
  refine r_callV (M := mX11_swap) (pc := 43) 46 dX11_swap_43 rfl k11_205 hex rfl rfl (by first | with_reducible assumption | with_reducible exact cr_bs hC | rfl) (by decide) rfl (by first | with_reducible assumption | with_reducible exact cr_bn hC | exact Nat.le_of_ble_eq_true rfl) (Nat.le_of_ble_eq_true rfl) ?_
  refine r_aload_n 47 dX11_swap_46 rfl rfl ?_
  refine r_getR 50 dX11_swap_47 rfl f11_47 rfl (by first | with_reducible assumption | with_reducible exact cr_bs hC | rfl) (by first | with_reducible assumption | with_reducible exact cr_bn hC | exact Nat.le_of_ble_eq_true rfl) (cr_1414_0 hC2) ?_
  refine r_getR 53 dX11_swap_50 rfl f11_137 rfl (by first | with_reducible assumption | with_reducible exact cr_bs hC | rfl) (by first | with_reducible assumption | with_reducible exact cr_bn hC | exact Nat.le_of_ble_eq_true rfl) (cr_1153_45 hC2) ?_
  refine r_iconst (0) 54 dX11_swap_53 rfl (by decide) ?_
  refine r_iload_n 55 dX11_swap_54 rfl rfl ?_
  refine r_iload_n 56 dX11_swap_55 rfl rfl ?_
  refine r_callV (M := mX11_swap) (pc := 56) 59 dX11_swap_56 rfl k11_208 had rfl rfl (by first | with_reducible assumption | with_reducible exact cr_bs hC | rfl) (by decide) rfl (by first | with_reducible assumption | with_reducible exact cr_bn hC | exact Nat.le_of_ble_eq_true rfl) (Nat.le_of_ble_eq_true rfl) ?_
  refine r_iconst (1) 60 dX11_swap_59 rfl (by decide) ?_
  exact r_zret dX11_swap_60 rfl rfl (by decide) (rfl)
set_option maxRecDepth 20000 in
theorem x_swap {d b L m : Nat} {R : List Int32} {E : HP} {x y : Int32} (hci : CI E b L m R) (h : ¬ (inB x (nI L) ∧ inB y (nI L) ∧ ¬ x = y)) : Cl yX11_swap mX11_swap (d + 8) 0 0 [.ref 0, .int (x), .int (y)] E 137 (.inl (some (.int (0))), stRefuse 45 1 E, 137) := by
  have hC := hci.1
  have cL := hci.2.1
  have l7 : L ≤ 7 := hci.2.2.2.1.2.1
  have hp1 := c_isPlace (d := d + 7) (x := x) hci
  have hp2 := c_isPlace (d := d + 7) (x := y) hci
  have hre := c_X9_refuse (d := d + 5) (E := E) (w := 1) (cr_state45 hC)
  refine Cl.of (by decide) rfl (fun q => by cases q) rfl rfl (Nat.le_of_ble_eq_true rfl) ?_
  show Sm _ _ _ _ _ 0 [some (.ref 0), some (.int (x)), some (.int (y))] [] _ _
  refine r_aload_n 1 dX11_swap_0 rfl rfl ?_
  refine r_iload_n 2 dX11_swap_1 rfl rfl ?_
  refine r_callV (M := mX11_swap) (pc := 2) 5 dX11_swap_2 rfl k11_198 hp1 rfl rfl (by first | with_reducible assumption | with_reducible exact cr_bs hC | rfl) (by decide) rfl (by first | with_reducible assumption | with_reducible exact cr_bn hC | exact Nat.le_of_ble_eq_true rfl) (Nat.le_of_ble_eq_true rfl) ?_
  refine r_if_eq 8 21 dX11_swap_5 rfl (by decide) (fun h5 => ?_) (fun h5 => ?_)
  · refine r_aload_n 22 dX11_swap_21 rfl rfl ?_
    refine r_getR 25 dX11_swap_22 rfl f11_47 rfl (by first | with_reducible assumption | with_reducible exact cr_bs hC | rfl) (by first | with_reducible assumption | with_reducible exact cr_bn hC | exact Nat.le_of_ble_eq_true rfl) (cr_1414_0 hC) ?_
    refine r_iconst (1) 26 dX11_swap_25 rfl (by decide) ?_
    refine r_callV (M := mX11_swap) (pc := 26) 29 dX11_swap_26 rfl k11_98 hre rfl rfl (by first | with_reducible assumption | with_reducible exact cr_bs hC | rfl) (by decide) rfl (by first | with_reducible assumption | with_reducible exact cr_bn hC | exact Nat.le_of_ble_eq_true rfl) (Nat.le_of_ble_eq_true rfl) ?_
    refine r_iconst (0) 30 dX11_swap_29 rfl (by decide) ?_
    exact r_zret dX11_swap_30 rfl rfl (by decide) (rfl)
  · refine r_aload_n 9 dX11_swap_8 rfl rfl ?_
    refine r_iload_n 10 dX11_swap_9 rfl rfl ?_
    refine r_callV (M := mX11_swap) (pc := 10) 13 dX11_swap_10 rfl k11_198 hp2 rfl rfl (by first | with_reducible assumption | with_reducible exact cr_bs hC | rfl) (by decide) rfl (by first | with_reducible assumption | with_reducible exact cr_bn hC | exact Nat.le_of_ble_eq_true rfl) (Nat.le_of_ble_eq_true rfl) ?_
    refine r_if_eq 16 21 dX11_swap_13 rfl (by decide) (fun h13 => ?_) (fun h13 => ?_)
    · refine r_aload_n 22 dX11_swap_21 rfl rfl ?_
      refine r_getR 25 dX11_swap_22 rfl f11_47 rfl (by first | with_reducible assumption | with_reducible exact cr_bs hC | rfl) (by first | with_reducible assumption | with_reducible exact cr_bn hC | exact Nat.le_of_ble_eq_true rfl) (cr_1414_0 hC) ?_
      refine r_iconst (1) 26 dX11_swap_25 rfl (by decide) ?_
      refine r_callV (M := mX11_swap) (pc := 26) 29 dX11_swap_26 rfl k11_98 hre rfl rfl (by first | with_reducible assumption | with_reducible exact cr_bs hC | rfl) (by decide) rfl (by first | with_reducible assumption | with_reducible exact cr_bn hC | exact Nat.le_of_ble_eq_true rfl) (Nat.le_of_ble_eq_true rfl) ?_
      refine r_iconst (0) 30 dX11_swap_29 rfl (by decide) ?_
      exact r_zret dX11_swap_30 rfl rfl (by decide) (rfl)
    · refine r_iload_n 17 dX11_swap_16 rfl rfl ?_
      refine r_iload_n 18 dX11_swap_17 rfl rfl ?_
      refine r_icmp_ne 21 31 dX11_swap_18 rfl (by decide) (fun h18 => ?_) (fun h18 => ?_)
      · exact absurd ⟨b01_r h5, b01_r h13, h18⟩ h
      · refine r_aload_n 22 dX11_swap_21 rfl rfl ?_
        refine r_getR 25 dX11_swap_22 rfl f11_47 rfl (by first | with_reducible assumption | with_reducible exact cr_bs hC | rfl) (by first | with_reducible assumption | with_reducible exact cr_bn hC | exact Nat.le_of_ble_eq_true rfl) (cr_1414_0 hC) ?_
        refine r_iconst (1) 26 dX11_swap_25 rfl (by decide) ?_
        refine r_callV (M := mX11_swap) (pc := 26) 29 dX11_swap_26 rfl k11_98 hre rfl rfl (by first | with_reducible assumption | with_reducible exact cr_bs hC | rfl) (by decide) rfl (by first | with_reducible assumption | with_reducible exact cr_bn hC | exact Nat.le_of_ble_eq_true rfl) (Nat.le_of_ble_eq_true rfl) ?_
        refine r_iconst (0) 30 dX11_swap_29 rfl (by decide) ?_
        exact r_zret dX11_swap_30 rfl rfl (by decide) (rfl)
set_option maxRecDepth 20000 in
theorem c_X11_side {d b L m k : Nat} {R : List Int32} {E : HP} {v : Int32} (hci : CI E b L m R) (ac : piSz E 137 51 120 k 40) (hv : v = 0 ∨ v = 1) : Cl yX11_side mX11_side (d + 8) 0 0 [.ref 0, .int (v)] E 137 (.inl (some (.int (gI E 515 46))), sI (piAdd 51 120 k 40 1 (gI E 515 46) 0 E) 515 46 v, 137) := by
  have hC := hci.1
  have cL := hci.2.1
  have l7 : L ≤ 7 := hci.2.2.2.1.2.1
  have had := c_X3_add (d := d + 5) (a := 1) (b := gI E 515 46) (c := 0) ac
  have hS : SR E (piAdd 51 120 k 40 1 (gI E 515 46) 0 E) := sr_add sr_rfl
  have hC2 := cr_sr hS hC
  refine Cl.of (by decide) rfl (fun q => by cases q) rfl rfl (Nat.le_of_ble_eq_true rfl) ?_
  show Sm _ _ _ _ _ 0 [some (.ref 0), some (.int (v)), none] [] _ _
  refine r_iload_n 1 dX11_side_0 rfl rfl ?_
  refine r_if_eq 4 19 dX11_side_1 rfl (by decide) (fun h1 => ?_) (fun h1 => ?_)
  · refine r_aload_n 20 dX11_side_19 rfl rfl ?_
    refine r_getR 23 dX11_side_20 rfl f11_47 rfl (by first | with_reducible assumption | with_reducible exact cr_bs hC | rfl) (by first | with_reducible assumption | with_reducible exact cr_bn hC | exact Nat.le_of_ble_eq_true rfl) (cr_1414_0 hC) ?_
    refine r_getR 26 dX11_side_23 rfl f11_116 rfl (by first | with_reducible assumption | with_reducible exact cr_bs hC | rfl) (by first | with_reducible assumption | with_reducible exact cr_bn hC | exact Nat.le_of_ble_eq_true rfl) (cr_1152_45 hC) ?_
    refine r_getI 29 dX11_side_26 rfl f11_125 rfl (by first | with_reducible assumption | with_reducible exact cr_bs hC | rfl) (by first | with_reducible assumption | with_reducible exact cr_bn hC | exact Nat.le_of_ble_eq_true rfl) ?_
    refine r_istore_n 30 dX11_side_29 rfl (by decide) rfl ?_
    refine r_aload_n 31 dX11_side_30 rfl rfl ?_
    refine r_getR 34 dX11_side_31 rfl f11_47 rfl (by first | with_reducible assumption | with_reducible exact cr_bs hC | rfl) (by first | with_reducible assumption | with_reducible exact cr_bn hC | exact Nat.le_of_ble_eq_true rfl) (cr_1414_0 hC) ?_
    refine r_getR 37 dX11_side_34 rfl f11_137 rfl (by first | with_reducible assumption | with_reducible exact cr_bs hC | rfl) (by first | with_reducible assumption | with_reducible exact cr_bn hC | exact Nat.le_of_ble_eq_true rfl) (cr_1153_45 hC) ?_
    refine r_iconst (1) 38 dX11_side_37 rfl (by decide) ?_
    refine r_iload_n 39 dX11_side_38 rfl rfl ?_
    refine r_iconst (0) 40 dX11_side_39 rfl (by decide) ?_
    refine r_callV (M := mX11_side) (pc := 40) 43 dX11_side_40 rfl k11_208 had rfl rfl (by first | with_reducible assumption | with_reducible exact cr_bs hC | rfl) (by decide) rfl (by first | with_reducible assumption | with_reducible exact cr_bn hC | exact Nat.le_of_ble_eq_true rfl) (Nat.le_of_ble_eq_true rfl) ?_
    refine r_aload_n 44 dX11_side_43 rfl rfl ?_
    refine r_getR 47 dX11_side_44 rfl f11_47 rfl (by first | with_reducible assumption | with_reducible exact cr_bs hC | rfl) (by first | with_reducible assumption | with_reducible exact cr_bn hC | exact Nat.le_of_ble_eq_true rfl) (cr_1414_0 hC2) ?_
    refine r_getR 50 dX11_side_47 rfl f11_116 rfl (by first | with_reducible assumption | with_reducible exact cr_bs hC | rfl) (by first | with_reducible assumption | with_reducible exact cr_bn hC | exact Nat.le_of_ble_eq_true rfl) (cr_1152_45 hC2) ?_
    refine r_iload_n 51 dX11_side_50 rfl rfl ?_
    refine r_putI 54 dX11_side_51 rfl f11_125 (by first | with_reducible assumption | with_reducible exact cr_bs hC | rfl) (by first | with_reducible assumption | with_reducible exact cr_bn hC | exact Nat.le_of_ble_eq_true rfl) ?_
    refine r_iload_n 55 dX11_side_54 rfl rfl ?_
    exact r_iret dX11_side_55 rfl rfl (rfl)
  · refine r_iload_n 5 dX11_side_4 rfl rfl ?_
    refine r_iconst (1) 6 dX11_side_5 rfl (by decide) ?_
    refine r_icmp_eq 9 19 dX11_side_6 rfl (by decide) (fun h6 => ?_) (fun h6 => ?_)
    · refine r_aload_n 20 dX11_side_19 rfl rfl ?_
      refine r_getR 23 dX11_side_20 rfl f11_47 rfl (by first | with_reducible assumption | with_reducible exact cr_bs hC | rfl) (by first | with_reducible assumption | with_reducible exact cr_bn hC | exact Nat.le_of_ble_eq_true rfl) (cr_1414_0 hC) ?_
      refine r_getR 26 dX11_side_23 rfl f11_116 rfl (by first | with_reducible assumption | with_reducible exact cr_bs hC | rfl) (by first | with_reducible assumption | with_reducible exact cr_bn hC | exact Nat.le_of_ble_eq_true rfl) (cr_1152_45 hC) ?_
      refine r_getI 29 dX11_side_26 rfl f11_125 rfl (by first | with_reducible assumption | with_reducible exact cr_bs hC | rfl) (by first | with_reducible assumption | with_reducible exact cr_bn hC | exact Nat.le_of_ble_eq_true rfl) ?_
      refine r_istore_n 30 dX11_side_29 rfl (by decide) rfl ?_
      refine r_aload_n 31 dX11_side_30 rfl rfl ?_
      refine r_getR 34 dX11_side_31 rfl f11_47 rfl (by first | with_reducible assumption | with_reducible exact cr_bs hC | rfl) (by first | with_reducible assumption | with_reducible exact cr_bn hC | exact Nat.le_of_ble_eq_true rfl) (cr_1414_0 hC) ?_
      refine r_getR 37 dX11_side_34 rfl f11_137 rfl (by first | with_reducible assumption | with_reducible exact cr_bs hC | rfl) (by first | with_reducible assumption | with_reducible exact cr_bn hC | exact Nat.le_of_ble_eq_true rfl) (cr_1153_45 hC) ?_
      refine r_iconst (1) 38 dX11_side_37 rfl (by decide) ?_
      refine r_iload_n 39 dX11_side_38 rfl rfl ?_
      refine r_iconst (0) 40 dX11_side_39 rfl (by decide) ?_
      refine r_callV (M := mX11_side) (pc := 40) 43 dX11_side_40 rfl k11_208 had rfl rfl (by first | with_reducible assumption | with_reducible exact cr_bs hC | rfl) (by decide) rfl (by first | with_reducible assumption | with_reducible exact cr_bn hC | exact Nat.le_of_ble_eq_true rfl) (Nat.le_of_ble_eq_true rfl) ?_
      refine r_aload_n 44 dX11_side_43 rfl rfl ?_
      refine r_getR 47 dX11_side_44 rfl f11_47 rfl (by first | with_reducible assumption | with_reducible exact cr_bs hC | rfl) (by first | with_reducible assumption | with_reducible exact cr_bn hC | exact Nat.le_of_ble_eq_true rfl) (cr_1414_0 hC2) ?_
      refine r_getR 50 dX11_side_47 rfl f11_116 rfl (by first | with_reducible assumption | with_reducible exact cr_bs hC | rfl) (by first | with_reducible assumption | with_reducible exact cr_bn hC | exact Nat.le_of_ble_eq_true rfl) (cr_1152_45 hC2) ?_
      refine r_iload_n 51 dX11_side_50 rfl rfl ?_
      refine r_putI 54 dX11_side_51 rfl f11_125 (by first | with_reducible assumption | with_reducible exact cr_bs hC | rfl) (by first | with_reducible assumption | with_reducible exact cr_bn hC | exact Nat.le_of_ble_eq_true rfl) ?_
      refine r_iload_n 55 dX11_side_54 rfl rfl ?_
      exact r_iret dX11_side_55 rfl rfl (rfl)
    · exact absurd hv (fun z => z.elim h1 h6)
set_option maxRecDepth 20000 in
theorem x_side {d b L m : Nat} {R : List Int32} {E : HP} {v : Int32} (hci : CI E b L m R) (hv : ¬ (v = 0 ∨ v = 1)) : Cl yX11_side mX11_side (d + 8) 0 0 [.ref 0, .int (v)] E 137 (.inl (some (.int (-1))), stRefuse 45 1 E, 137) := by
  have hC := hci.1
  have cL := hci.2.1
  have l7 : L ≤ 7 := hci.2.2.2.1.2.1
  have hre := c_X9_refuse (d := d + 5) (E := E) (w := 1) (cr_state45 hC)
  refine Cl.of (by decide) rfl (fun q => by cases q) rfl rfl (Nat.le_of_ble_eq_true rfl) ?_
  show Sm _ _ _ _ _ 0 [some (.ref 0), some (.int (v)), none] [] _ _
  refine r_iload_n 1 dX11_side_0 rfl rfl ?_
  refine r_if_eq 4 19 dX11_side_1 rfl (by decide) (fun h1 => absurd h1 (fun z => hv (Or.inl z))) (fun h1 => ?_)
  refine r_iload_n 5 dX11_side_4 rfl rfl ?_
  refine r_iconst (1) 6 dX11_side_5 rfl (by decide) ?_
  refine r_icmp_eq 9 19 dX11_side_6 rfl (by decide) (fun h6 => absurd h6 (fun z => hv (Or.inr z))) (fun h6 => ?_)
  refine r_aload_n 10 dX11_side_9 rfl rfl ?_
  refine r_getR 13 dX11_side_10 rfl f11_47 rfl (by first | with_reducible assumption | with_reducible exact cr_bs hC | rfl) (by first | with_reducible assumption | with_reducible exact cr_bn hC | exact Nat.le_of_ble_eq_true rfl) (cr_1414_0 hC) ?_
  refine r_iconst (1) 14 dX11_side_13 rfl (by decide) ?_
  refine r_callV (M := mX11_side) (pc := 14) 17 dX11_side_14 rfl k11_98 hre rfl rfl (by first | with_reducible assumption | with_reducible exact cr_bs hC | rfl) (by decide) rfl (by first | with_reducible assumption | with_reducible exact cr_bn hC | exact Nat.le_of_ble_eq_true rfl) (Nat.le_of_ble_eq_true rfl) ?_
  refine r_iconst (-1) 18 dX11_side_17 rfl (by decide) ?_
  exact r_iret dX11_side_18 rfl rfl (rfl)
set_option maxRecDepth 20000 in
theorem c_X11_word {d b L m k s e : Nat} {R : List Int32} {E : HP} (hci : CI E b L m R) (ac : piSz E 137 51 120 k 40) (hs : s < L) (he : e ≤ 240) (h3 : ¬ slC E b 1 s = 3) : Cl yX11_word mX11_word (d + 8) 0 0 [.ref 0, .int (nI s), .int (nI e)] E 137 (.inl (some (.int (gI E 517 46))), plSay (piAdd 51 120 k 40 2 (gI E 516 46) (gI E 517 46) E) 46 (nI s) (nI e), 137) := by
  have hC := hci.1
  have cL := hci.2.1
  have l7 : L ≤ 7 := hci.2.2.2.1.2.1
  obtain ⟨ws, wn, wk⟩ := who_of hci hs
  have hts := c_X11_toldSleeper (d := d + 5) hci hs
  have had := c_X3_add (d := d + 5) (a := 2) (b := gI E 516 46) (c := gI E 517 46) ac
  have hS : SR E (piAdd 51 120 k 40 2 (gI E 516 46) (gI E 517 46) E) := sr_add sr_rfl
  have hC2 := cr_sr hS hC
  have hle := c_X4_letSay (d := d + 7) (n := 137) (p := 46) (s := nI s) (e := nI e) (E := (piAdd 51 120 k 40 2 (gI E 516 46) (gI E 517 46) E)) rfl (by decide)
  refine Cl.of (by decide) rfl (fun q => by cases q) rfl rfl (Nat.le_of_ble_eq_true rfl) ?_
  show Sm _ _ _ _ _ 0 [some (.ref 0), some (.int (nI s)), some (.int (nI e)), none, none] [] _ _
  refine r_aload_n 1 dX11_word_0 rfl rfl ?_
  refine r_iload_n 2 dX11_word_1 rfl rfl ?_
  refine r_callV (M := mX11_word) (pc := 2) 5 dX11_word_2 rfl k11_159 hts rfl rfl (by first | with_reducible assumption | with_reducible exact cr_bs hC | rfl) (by decide) rfl (by first | with_reducible assumption | with_reducible exact cr_bn hC | exact Nat.le_of_ble_eq_true rfl) (Nat.le_of_ble_eq_true rfl) ?_
  refine r_astore_n 6 dX11_word_5 rfl (by decide) rfl ?_
  refine r_iload_n 7 dX11_word_6 rfl rfl ?_
  refine r_if_lt 10 25 dX11_word_7 rfl (by decide) (fun h7 => absurd h7 (nI_pos (by omega))) (fun h7 => ?_)
  refine r_iload_n 11 dX11_word_10 rfl rfl ?_
  refine r_sipush (240) 14 dX11_word_11 rfl (by decide) ?_
  refine r_icmp_gt 17 25 dX11_word_14 rfl (by decide) (fun h14 => absurd h14 (nI_nlt (a := 240) (by omega) (by omega))) (fun h14 => ?_)
  refine r_aload_n 18 dX11_word_17 rfl rfl ?_
  refine r_getIV (slC E b 1 s) 21 dX11_word_18 rfl f11_163 rfl (by first | with_reducible assumption | with_reducible exact cr_bs hC | rfl) (by first | with_reducible assumption | with_reducible exact cr_bn hC | exact Nat.le_of_ble_eq_true rfl) (wk) ?_
  refine r_iconst (3) 22 dX11_word_21 rfl (by decide) ?_
  refine r_icmp_ne 25 35 dX11_word_22 rfl (by decide) (fun h22 => ?_) (fun h22 => absurd h22 h3)
  refine r_aload_n 36 dX11_word_35 rfl rfl ?_
  refine r_getR 39 dX11_word_36 rfl f11_47 rfl (by first | with_reducible assumption | with_reducible exact cr_bs hC | rfl) (by first | with_reducible assumption | with_reducible exact cr_bn hC | exact Nat.le_of_ble_eq_true rfl) (cr_1414_0 hC) ?_
  refine r_getR 42 dX11_word_39 rfl f11_116 rfl (by first | with_reducible assumption | with_reducible exact cr_bs hC | rfl) (by first | with_reducible assumption | with_reducible exact cr_bn hC | exact Nat.le_of_ble_eq_true rfl) (cr_1152_45 hC) ?_
  refine r_getI 45 dX11_word_42 rfl f11_131 rfl (by first | with_reducible assumption | with_reducible exact cr_bs hC | rfl) (by first | with_reducible assumption | with_reducible exact cr_bn hC | exact Nat.le_of_ble_eq_true rfl) ?_
  refine r_istore 47 dX11_word_45 rfl (by decide) rfl ?_
  refine r_aload_n 48 dX11_word_47 rfl rfl ?_
  refine r_getR 51 dX11_word_48 rfl f11_47 rfl (by first | with_reducible assumption | with_reducible exact cr_bs hC | rfl) (by first | with_reducible assumption | with_reducible exact cr_bn hC | exact Nat.le_of_ble_eq_true rfl) (cr_1414_0 hC) ?_
  refine r_getR 54 dX11_word_51 rfl f11_137 rfl (by first | with_reducible assumption | with_reducible exact cr_bs hC | rfl) (by first | with_reducible assumption | with_reducible exact cr_bn hC | exact Nat.le_of_ble_eq_true rfl) (cr_1153_45 hC) ?_
  refine r_iconst (2) 55 dX11_word_54 rfl (by decide) ?_
  refine r_aload_n 56 dX11_word_55 rfl rfl ?_
  refine r_getR 59 dX11_word_56 rfl f11_47 rfl (by first | with_reducible assumption | with_reducible exact cr_bs hC | rfl) (by first | with_reducible assumption | with_reducible exact cr_bn hC | exact Nat.le_of_ble_eq_true rfl) (cr_1414_0 hC) ?_
  refine r_getR 62 dX11_word_59 rfl f11_116 rfl (by first | with_reducible assumption | with_reducible exact cr_bs hC | rfl) (by first | with_reducible assumption | with_reducible exact cr_bn hC | exact Nat.le_of_ble_eq_true rfl) (cr_1152_45 hC) ?_
  refine r_getI 65 dX11_word_62 rfl f11_128 rfl (by first | with_reducible assumption | with_reducible exact cr_bs hC | rfl) (by first | with_reducible assumption | with_reducible exact cr_bn hC | exact Nat.le_of_ble_eq_true rfl) ?_
  refine r_iload 67 dX11_word_65 rfl rfl ?_
  refine r_callV (M := mX11_word) (pc := 67) 70 dX11_word_67 rfl k11_208 had rfl rfl (by first | with_reducible assumption | with_reducible exact cr_bs hC | rfl) (by decide) rfl (by first | with_reducible assumption | with_reducible exact cr_bn hC | exact Nat.le_of_ble_eq_true rfl) (Nat.le_of_ble_eq_true rfl) ?_
  refine r_aload_n 71 dX11_word_70 rfl rfl ?_
  refine r_getR 74 dX11_word_71 rfl f11_47 rfl (by first | with_reducible assumption | with_reducible exact cr_bs hC | rfl) (by first | with_reducible assumption | with_reducible exact cr_bn hC | exact Nat.le_of_ble_eq_true rfl) (cr_1414_0 hC2) ?_
  refine r_getR 77 dX11_word_74 rfl f11_116 rfl (by first | with_reducible assumption | with_reducible exact cr_bs hC | rfl) (by first | with_reducible assumption | with_reducible exact cr_bn hC | exact Nat.le_of_ble_eq_true rfl) (cr_1152_45 hC2) ?_
  refine r_iload_n 78 dX11_word_77 rfl rfl ?_
  refine r_iload_n 79 dX11_word_78 rfl rfl ?_
  refine r_callV (M := mX11_word) (pc := 79) 82 dX11_word_79 rfl k11_212 hle rfl rfl (by first | with_reducible assumption | with_reducible exact cr_bs hC | rfl) (by decide) rfl (by first | with_reducible assumption | with_reducible exact cr_bn hC | exact Nat.le_of_ble_eq_true rfl) (Nat.le_of_ble_eq_true rfl) ?_
  refine r_iload 84 dX11_word_82 rfl rfl ?_
  exact r_iret dX11_word_84 rfl rfl (rfl)
set_option maxRecDepth 20000 in
theorem x_word1 {d b L m s : Nat} {R : List Int32} {E : HP} {x w : Int32} (hci : CI E b L m R) (h : ¬ inB x (nI L)) : Cl yX11_word mX11_word (d + 8) 1 6 [.ref 0, .int (x), .int (w)] E 137 (.inr nseN, E, 137) := by
  have hC := hci.1
  have cL := hci.2.1
  have l7 : L ≤ 7 := hci.2.2.2.1.2.1
  refine Cl.of (by decide) rfl (fun q => by cases q) rfl rfl (Nat.le_of_ble_eq_true rfl) ?_
  show Sm _ _ _ _ _ 0 [some (.ref 0), some (.int (x)), some (.int (w)), none, none] [] _ _
  refine r_aload_n 1 dX11_word_0 rfl rfl ?_
  refine r_iload_n 2 dX11_word_1 rfl rfl ?_
  exact r_callVX (M := mX11_word) (pc := 2) dX11_word_2 k11_159 (x_toldSleeper (s := 0) hci h) rfl rfl (by first | with_reducible assumption | with_reducible exact cr_bs hC | rfl) (by decide) rfl (by first | with_reducible assumption | with_reducible exact cr_bn hC | exact Nat.le_of_ble_eq_true rfl) (Nat.le_of_ble_eq_true rfl) rfl rfl (rfl)
set_option maxRecDepth 20000 in
theorem x_word2 {d b L m s : Nat} {R : List Int32} {E : HP} {w : Int32} (hci : CI E b L m R) (hs : s < L) (h : ¬ inC w 240 ∨ slC E b 1 s = 3) : Cl yX11_word mX11_word (d + 8) 0 0 [.ref 0, .int (nI s), .int (w)] E 137 (.inl (some (.int (-1))), stRefuse 45 1 E, 137) := by
  have hC := hci.1
  have cL := hci.2.1
  have l7 : L ≤ 7 := hci.2.2.2.1.2.1
  obtain ⟨ws, wn, wk⟩ := who_of hci hs
  have hts := c_X11_toldSleeper (d := d + 5) hci hs
  have hre := c_X9_refuse (d := d + 5) (E := E) (w := 1) (cr_state45 hC)
  refine Cl.of (by decide) rfl (fun q => by cases q) rfl rfl (Nat.le_of_ble_eq_true rfl) ?_
  show Sm _ _ _ _ _ 0 [some (.ref 0), some (.int (nI s)), some (.int (w)), none, none] [] _ _
  refine r_aload_n 1 dX11_word_0 rfl rfl ?_
  refine r_iload_n 2 dX11_word_1 rfl rfl ?_
  refine r_callV (M := mX11_word) (pc := 2) 5 dX11_word_2 rfl k11_159 hts rfl rfl (by first | with_reducible assumption | with_reducible exact cr_bs hC | rfl) (by decide) rfl (by first | with_reducible assumption | with_reducible exact cr_bn hC | exact Nat.le_of_ble_eq_true rfl) (Nat.le_of_ble_eq_true rfl) ?_
  refine r_astore_n 6 dX11_word_5 rfl (by decide) rfl ?_
  refine r_iload_n 7 dX11_word_6 rfl rfl ?_
  refine r_if_lt 10 25 dX11_word_7 rfl (by decide) (fun h7 => ?_) (fun h7 => ?_)
  · refine r_aload_n 26 dX11_word_25 rfl rfl ?_
    refine r_getR 29 dX11_word_26 rfl f11_47 rfl (by first | with_reducible assumption | with_reducible exact cr_bs hC | rfl) (by first | with_reducible assumption | with_reducible exact cr_bn hC | exact Nat.le_of_ble_eq_true rfl) (cr_1414_0 hC) ?_
    refine r_iconst (1) 30 dX11_word_29 rfl (by decide) ?_
    refine r_callV (M := mX11_word) (pc := 30) 33 dX11_word_30 rfl k11_98 hre rfl rfl (by first | with_reducible assumption | with_reducible exact cr_bs hC | rfl) (by decide) rfl (by first | with_reducible assumption | with_reducible exact cr_bn hC | exact Nat.le_of_ble_eq_true rfl) (Nat.le_of_ble_eq_true rfl) ?_
    refine r_iconst (-1) 34 dX11_word_33 rfl (by decide) ?_
    exact r_iret dX11_word_34 rfl rfl (rfl)
  · refine r_iload_n 11 dX11_word_10 rfl rfl ?_
    refine r_sipush (240) 14 dX11_word_11 rfl (by decide) ?_
    refine r_icmp_gt 17 25 dX11_word_14 rfl (by decide) (fun h14 => ?_) (fun h14 => ?_)
    · refine r_aload_n 26 dX11_word_25 rfl rfl ?_
      refine r_getR 29 dX11_word_26 rfl f11_47 rfl (by first | with_reducible assumption | with_reducible exact cr_bs hC | rfl) (by first | with_reducible assumption | with_reducible exact cr_bn hC | exact Nat.le_of_ble_eq_true rfl) (cr_1414_0 hC) ?_
      refine r_iconst (1) 30 dX11_word_29 rfl (by decide) ?_
      refine r_callV (M := mX11_word) (pc := 30) 33 dX11_word_30 rfl k11_98 hre rfl rfl (by first | with_reducible assumption | with_reducible exact cr_bs hC | rfl) (by decide) rfl (by first | with_reducible assumption | with_reducible exact cr_bn hC | exact Nat.le_of_ble_eq_true rfl) (Nat.le_of_ble_eq_true rfl) ?_
      refine r_iconst (-1) 34 dX11_word_33 rfl (by decide) ?_
      exact r_iret dX11_word_34 rfl rfl (rfl)
    · refine r_aload_n 18 dX11_word_17 rfl rfl ?_
      refine r_getIV (slC E b 1 s) 21 dX11_word_18 rfl f11_163 rfl (by first | with_reducible assumption | with_reducible exact cr_bs hC | rfl) (by first | with_reducible assumption | with_reducible exact cr_bn hC | exact Nat.le_of_ble_eq_true rfl) (wk) ?_
      refine r_iconst (3) 22 dX11_word_21 rfl (by decide) ?_
      refine r_icmp_ne 25 35 dX11_word_22 rfl (by decide) (fun h22 => ?_) (fun h22 => ?_)
      · exact absurd h (fun z => z.elim (fun y => y ⟨h7, Int32.not_lt.mp h14⟩) h22)
      · refine r_aload_n 26 dX11_word_25 rfl rfl ?_
        refine r_getR 29 dX11_word_26 rfl f11_47 rfl (by first | with_reducible assumption | with_reducible exact cr_bs hC | rfl) (by first | with_reducible assumption | with_reducible exact cr_bn hC | exact Nat.le_of_ble_eq_true rfl) (cr_1414_0 hC) ?_
        refine r_iconst (1) 30 dX11_word_29 rfl (by decide) ?_
        refine r_callV (M := mX11_word) (pc := 30) 33 dX11_word_30 rfl k11_98 hre rfl rfl (by first | with_reducible assumption | with_reducible exact cr_bs hC | rfl) (by decide) rfl (by first | with_reducible assumption | with_reducible exact cr_bn hC | exact Nat.le_of_ble_eq_true rfl) (Nat.le_of_ble_eq_true rfl) ?_
        refine r_iconst (-1) 34 dX11_word_33 rfl (by decide) ?_
        exact r_iret dX11_word_34 rfl rfl (rfl)
set_option maxRecDepth 20000 in
theorem c_X11_bolster {d b L m k p : Nat} {R : List Int32} {E : HP} {w : Int32} (hci : CI E b L m R) (ac : piSz E 137 51 120 k 40) (h1 : 1 ≤ p) (h6 : p ≤ 6) (hw : ¬ bolV E 46 (nI p) = w) : Cl yX11_bolster mX11_bolster (d + 8) 0 0 [.ref 0, .int (nI p), .int (w)] E 137 (.inl (some (.int (1))), sI (piAdd 51 120 k 40 3 (nI p) 0 E) 518 46 (gI (piAdd 51 120 k 40 3 (nI p) 0 E) 518 46 ^^^ (1 <<< (nI p &&& 31))), 137) := by
  have hC := hci.1
  have cL := hci.2.1
  have l7 : L ≤ 7 := hci.2.2.2.1.2.1
  have had := c_X3_add (d := d + 5) (a := 3) (b := nI p) (c := 0) ac
  have hS : SR E (piAdd 51 120 k 40 3 (nI p) 0 E) := sr_add sr_rfl
  have hC2 := cr_sr hS hC
  have hib := c_X4_isBolsterAhead (d := d + 7) (n := 137) (p := 46) (k := nI p) (E := E) rfl (by decide)
  have hcb := c_X4_changeBolster (d := d + 7) (n := 137) (p := 46) (k := nI p) (E := (piAdd 51 120 k 40 3 (nI p) 0 E)) rfl (by decide)
  refine Cl.of (by decide) rfl (fun q => by cases q) rfl rfl (Nat.le_of_ble_eq_true rfl) ?_
  show Sm _ _ _ _ _ 0 [some (.ref 0), some (.int (nI p)), some (.int (w))] [] _ _
  refine r_iload_n 1 dX11_bolster_0 rfl rfl ?_
  refine r_iconst (1) 2 dX11_bolster_1 rfl (by decide) ?_
  refine r_icmp_lt 5 26 dX11_bolster_2 rfl (by decide) (fun h2 => absurd h2 (nI_nlt (b := 1) h1 (by omega))) (fun h2 => ?_)
  refine r_iload_n 6 dX11_bolster_5 rfl rfl ?_
  refine r_bipush (6) 8 dX11_bolster_6 rfl (by decide) ?_
  refine r_icmp_gt 11 26 dX11_bolster_8 rfl (by decide) (fun h8 => absurd h8 (nI_nlt (a := 6) (by omega) (by omega))) (fun h8 => ?_)
  refine r_aload_n 12 dX11_bolster_11 rfl rfl ?_
  refine r_getR 15 dX11_bolster_12 rfl f11_47 rfl (by first | with_reducible assumption | with_reducible exact cr_bs hC | rfl) (by first | with_reducible assumption | with_reducible exact cr_bn hC | exact Nat.le_of_ble_eq_true rfl) (cr_1414_0 hC) ?_
  refine r_getR 18 dX11_bolster_15 rfl f11_116 rfl (by first | with_reducible assumption | with_reducible exact cr_bs hC | rfl) (by first | with_reducible assumption | with_reducible exact cr_bn hC | exact Nat.le_of_ble_eq_true rfl) (cr_1152_45 hC) ?_
  refine r_iload_n 19 dX11_bolster_18 rfl rfl ?_
  refine r_callV (M := mX11_bolster) (pc := 19) 22 dX11_bolster_19 rfl k11_215 hib rfl rfl (by first | with_reducible assumption | with_reducible exact cr_bs hC | rfl) (by decide) rfl (by first | with_reducible assumption | with_reducible exact cr_bn hC | exact Nat.le_of_ble_eq_true rfl) (Nat.le_of_ble_eq_true rfl) ?_
  refine r_iload_n 23 dX11_bolster_22 rfl rfl ?_
  refine r_icmp_ne 26 36 dX11_bolster_23 rfl (by decide) (fun h23 => ?_) (fun h23 => absurd h23 hw)
  refine r_aload_n 37 dX11_bolster_36 rfl rfl ?_
  refine r_getR 40 dX11_bolster_37 rfl f11_47 rfl (by first | with_reducible assumption | with_reducible exact cr_bs hC | rfl) (by first | with_reducible assumption | with_reducible exact cr_bn hC | exact Nat.le_of_ble_eq_true rfl) (cr_1414_0 hC) ?_
  refine r_getR 43 dX11_bolster_40 rfl f11_137 rfl (by first | with_reducible assumption | with_reducible exact cr_bs hC | rfl) (by first | with_reducible assumption | with_reducible exact cr_bn hC | exact Nat.le_of_ble_eq_true rfl) (cr_1153_45 hC) ?_
  refine r_iconst (3) 44 dX11_bolster_43 rfl (by decide) ?_
  refine r_iload_n 45 dX11_bolster_44 rfl rfl ?_
  refine r_iconst (0) 46 dX11_bolster_45 rfl (by decide) ?_
  refine r_callV (M := mX11_bolster) (pc := 46) 49 dX11_bolster_46 rfl k11_208 had rfl rfl (by first | with_reducible assumption | with_reducible exact cr_bs hC | rfl) (by decide) rfl (by first | with_reducible assumption | with_reducible exact cr_bn hC | exact Nat.le_of_ble_eq_true rfl) (Nat.le_of_ble_eq_true rfl) ?_
  refine r_aload_n 50 dX11_bolster_49 rfl rfl ?_
  refine r_getR 53 dX11_bolster_50 rfl f11_47 rfl (by first | with_reducible assumption | with_reducible exact cr_bs hC | rfl) (by first | with_reducible assumption | with_reducible exact cr_bn hC | exact Nat.le_of_ble_eq_true rfl) (cr_1414_0 hC2) ?_
  refine r_getR 56 dX11_bolster_53 rfl f11_116 rfl (by first | with_reducible assumption | with_reducible exact cr_bs hC | rfl) (by first | with_reducible assumption | with_reducible exact cr_bn hC | exact Nat.le_of_ble_eq_true rfl) (cr_1152_45 hC2) ?_
  refine r_iload_n 57 dX11_bolster_56 rfl rfl ?_
  refine r_callV (M := mX11_bolster) (pc := 57) 60 dX11_bolster_57 rfl k11_218 hcb rfl rfl (by first | with_reducible assumption | with_reducible exact cr_bs hC | rfl) (by decide) rfl (by first | with_reducible assumption | with_reducible exact cr_bn hC | exact Nat.le_of_ble_eq_true rfl) (Nat.le_of_ble_eq_true rfl) ?_
  refine r_iconst (1) 61 dX11_bolster_60 rfl (by decide) ?_
  exact r_zret dX11_bolster_61 rfl rfl (by decide) (rfl)
set_option maxRecDepth 20000 in
theorem x_bolster {d b L m : Nat} {R : List Int32} {E : HP} {x w : Int32} (hci : CI E b L m R) (h : x < 1 ∨ 6 < x ∨ bolV E 46 x = w) : Cl yX11_bolster mX11_bolster (d + 8) 0 0 [.ref 0, .int (x), .int (w)] E 137 (.inl (some (.int (0))), stRefuse 45 1 E, 137) := by
  have hC := hci.1
  have cL := hci.2.1
  have l7 : L ≤ 7 := hci.2.2.2.1.2.1
  have hre := c_X9_refuse (d := d + 5) (E := E) (w := 1) (cr_state45 hC)
  have hib := c_X4_isBolsterAhead (d := d + 7) (n := 137) (p := 46) (k := x) (E := E) rfl (by decide)
  refine Cl.of (by decide) rfl (fun q => by cases q) rfl rfl (Nat.le_of_ble_eq_true rfl) ?_
  show Sm _ _ _ _ _ 0 [some (.ref 0), some (.int (x)), some (.int (w))] [] _ _
  refine r_iload_n 1 dX11_bolster_0 rfl rfl ?_
  refine r_iconst (1) 2 dX11_bolster_1 rfl (by decide) ?_
  refine r_icmp_lt 5 26 dX11_bolster_2 rfl (by decide) (fun h2 => ?_) (fun h2 => ?_)
  · refine r_aload_n 27 dX11_bolster_26 rfl rfl ?_
    refine r_getR 30 dX11_bolster_27 rfl f11_47 rfl (by first | with_reducible assumption | with_reducible exact cr_bs hC | rfl) (by first | with_reducible assumption | with_reducible exact cr_bn hC | exact Nat.le_of_ble_eq_true rfl) (cr_1414_0 hC) ?_
    refine r_iconst (1) 31 dX11_bolster_30 rfl (by decide) ?_
    refine r_callV (M := mX11_bolster) (pc := 31) 34 dX11_bolster_31 rfl k11_98 hre rfl rfl (by first | with_reducible assumption | with_reducible exact cr_bs hC | rfl) (by decide) rfl (by first | with_reducible assumption | with_reducible exact cr_bn hC | exact Nat.le_of_ble_eq_true rfl) (Nat.le_of_ble_eq_true rfl) ?_
    refine r_iconst (0) 35 dX11_bolster_34 rfl (by decide) ?_
    exact r_zret dX11_bolster_35 rfl rfl (by decide) (rfl)
  · refine r_iload_n 6 dX11_bolster_5 rfl rfl ?_
    refine r_bipush (6) 8 dX11_bolster_6 rfl (by decide) ?_
    refine r_icmp_gt 11 26 dX11_bolster_8 rfl (by decide) (fun h8 => ?_) (fun h8 => ?_)
    · refine r_aload_n 27 dX11_bolster_26 rfl rfl ?_
      refine r_getR 30 dX11_bolster_27 rfl f11_47 rfl (by first | with_reducible assumption | with_reducible exact cr_bs hC | rfl) (by first | with_reducible assumption | with_reducible exact cr_bn hC | exact Nat.le_of_ble_eq_true rfl) (cr_1414_0 hC) ?_
      refine r_iconst (1) 31 dX11_bolster_30 rfl (by decide) ?_
      refine r_callV (M := mX11_bolster) (pc := 31) 34 dX11_bolster_31 rfl k11_98 hre rfl rfl (by first | with_reducible assumption | with_reducible exact cr_bs hC | rfl) (by decide) rfl (by first | with_reducible assumption | with_reducible exact cr_bn hC | exact Nat.le_of_ble_eq_true rfl) (Nat.le_of_ble_eq_true rfl) ?_
      refine r_iconst (0) 35 dX11_bolster_34 rfl (by decide) ?_
      exact r_zret dX11_bolster_35 rfl rfl (by decide) (rfl)
    · refine r_aload_n 12 dX11_bolster_11 rfl rfl ?_
      refine r_getR 15 dX11_bolster_12 rfl f11_47 rfl (by first | with_reducible assumption | with_reducible exact cr_bs hC | rfl) (by first | with_reducible assumption | with_reducible exact cr_bn hC | exact Nat.le_of_ble_eq_true rfl) (cr_1414_0 hC) ?_
      refine r_getR 18 dX11_bolster_15 rfl f11_116 rfl (by first | with_reducible assumption | with_reducible exact cr_bs hC | rfl) (by first | with_reducible assumption | with_reducible exact cr_bn hC | exact Nat.le_of_ble_eq_true rfl) (cr_1152_45 hC) ?_
      refine r_iload_n 19 dX11_bolster_18 rfl rfl ?_
      refine r_callV (M := mX11_bolster) (pc := 19) 22 dX11_bolster_19 rfl k11_215 hib rfl rfl (by first | with_reducible assumption | with_reducible exact cr_bs hC | rfl) (by decide) rfl (by first | with_reducible assumption | with_reducible exact cr_bn hC | exact Nat.le_of_ble_eq_true rfl) (Nat.le_of_ble_eq_true rfl) ?_
      refine r_iload_n 23 dX11_bolster_22 rfl rfl ?_
      refine r_icmp_ne 26 36 dX11_bolster_23 rfl (by decide) (fun h23 => ?_) (fun h23 => ?_)
      · exact absurd h (fun z => z.elim h2 (fun z => z.elim h8 h23))
      · refine r_aload_n 27 dX11_bolster_26 rfl rfl ?_
        refine r_getR 30 dX11_bolster_27 rfl f11_47 rfl (by first | with_reducible assumption | with_reducible exact cr_bs hC | rfl) (by first | with_reducible assumption | with_reducible exact cr_bn hC | exact Nat.le_of_ble_eq_true rfl) (cr_1414_0 hC) ?_
        refine r_iconst (1) 31 dX11_bolster_30 rfl (by decide) ?_
        refine r_callV (M := mX11_bolster) (pc := 31) 34 dX11_bolster_31 rfl k11_98 hre rfl rfl (by first | with_reducible assumption | with_reducible exact cr_bs hC | rfl) (by decide) rfl (by first | with_reducible assumption | with_reducible exact cr_bn hC | exact Nat.le_of_ble_eq_true rfl) (Nat.le_of_ble_eq_true rfl) ?_
        refine r_iconst (0) 35 dX11_bolster_34 rfl (by decide) ?_
        exact r_zret dX11_bolster_35 rfl rfl (by decide) (rfl)
set_option maxRecDepth 20000 in
theorem c_X11_out {d b L m k s q : Nat} {R : List Int32} {E : HP} (hci : CI E b L m R) (ac : piSz E 137 51 120 k 40) (hs : s < L) (hq : q ≤ 600) (h3 : ¬ slC E b 1 s = 3) : Cl yX11_out mX11_out (d + 8) 0 0 [.ref 0, .int (nI s), .int (nI q)] E 137 (.inl (some (.int (gA E 50 s))), sA (piAdd 51 120 k 40 4 (nI s) (gA E 50 s) E) 50 s (nI q), 137) := by
  have hC := hci.1
  have cL := hci.2.1
  have l7 : L ≤ 7 := hci.2.2.2.1.2.1
  obtain ⟨ws, wn, wk⟩ := who_of hci hs
  have hts := c_X11_toldSleeper (d := d + 5) hci hs
  have had := c_X3_add (d := d + 5) (a := 4) (b := nI s) (c := gA E 50 s) ac
  have hS : SR E (piAdd 51 120 k 40 4 (nI s) (gA E 50 s) E) := sr_add sr_rfl
  have hC2 := cr_sr hS hC
  have hat := c_X6_at (d := d + 7) (i := nI s) (cr_row49 hC)
  rw [rAt_nI (by omega) (by omega)] at hat
  have hpt := c_X6_put (d := d + 7) (i := nI s) (v := nI q) (cr_row49 hC2)
  rw [rPut_nI (by omega) (by omega)] at hpt
  refine Cl.of (by decide) rfl (fun q => by cases q) rfl rfl (Nat.le_of_ble_eq_true rfl) ?_
  show Sm _ _ _ _ _ 0 [some (.ref 0), some (.int (nI s)), some (.int (nI q)), none, none] [] _ _
  refine r_aload_n 1 dX11_out_0 rfl rfl ?_
  refine r_iload_n 2 dX11_out_1 rfl rfl ?_
  refine r_callV (M := mX11_out) (pc := 2) 5 dX11_out_2 rfl k11_159 hts rfl rfl (by first | with_reducible assumption | with_reducible exact cr_bs hC | rfl) (by decide) rfl (by first | with_reducible assumption | with_reducible exact cr_bn hC | exact Nat.le_of_ble_eq_true rfl) (Nat.le_of_ble_eq_true rfl) ?_
  refine r_astore_n 6 dX11_out_5 rfl (by decide) rfl ?_
  refine r_iload_n 7 dX11_out_6 rfl rfl ?_
  refine r_if_lt 10 25 dX11_out_7 rfl (by decide) (fun h7 => absurd h7 (nI_pos (by omega))) (fun h7 => ?_)
  refine r_iload_n 11 dX11_out_10 rfl rfl ?_
  refine r_sipush (600) 14 dX11_out_11 rfl (by decide) ?_
  refine r_icmp_gt 17 25 dX11_out_14 rfl (by decide) (fun h14 => absurd h14 (nI_nlt (a := 600) (by omega) (by omega))) (fun h14 => ?_)
  refine r_aload_n 18 dX11_out_17 rfl rfl ?_
  refine r_getIV (slC E b 1 s) 21 dX11_out_18 rfl f11_163 rfl (by first | with_reducible assumption | with_reducible exact cr_bs hC | rfl) (by first | with_reducible assumption | with_reducible exact cr_bn hC | exact Nat.le_of_ble_eq_true rfl) (wk) ?_
  refine r_iconst (3) 22 dX11_out_21 rfl (by decide) ?_
  refine r_icmp_ne 25 35 dX11_out_22 rfl (by decide) (fun h22 => ?_) (fun h22 => absurd h22 h3)
  refine r_aload_n 36 dX11_out_35 rfl rfl ?_
  refine r_getR 39 dX11_out_36 rfl f11_47 rfl (by first | with_reducible assumption | with_reducible exact cr_bs hC | rfl) (by first | with_reducible assumption | with_reducible exact cr_bn hC | exact Nat.le_of_ble_eq_true rfl) (cr_1414_0 hC) ?_
  refine r_getR 42 dX11_out_39 rfl f11_116 rfl (by first | with_reducible assumption | with_reducible exact cr_bs hC | rfl) (by first | with_reducible assumption | with_reducible exact cr_bn hC | exact Nat.le_of_ble_eq_true rfl) (cr_1152_45 hC) ?_
  refine r_getR 45 dX11_out_42 rfl f11_180 rfl (by first | with_reducible assumption | with_reducible exact cr_bs hC | rfl) (by first | with_reducible assumption | with_reducible exact cr_bn hC | exact Nat.le_of_ble_eq_true rfl) (cr_513_46 hC) ?_
  refine r_iload_n 46 dX11_out_45 rfl rfl ?_
  refine r_callV (M := mX11_out) (pc := 46) 49 dX11_out_46 rfl k11_152 hat rfl rfl (by first | with_reducible assumption | with_reducible exact cr_bs hC | rfl) (by decide) rfl (by first | with_reducible assumption | with_reducible exact cr_bn hC | exact Nat.le_of_ble_eq_true rfl) (Nat.le_of_ble_eq_true rfl) ?_
  refine r_istore 51 dX11_out_49 rfl (by decide) rfl ?_
  refine r_aload_n 52 dX11_out_51 rfl rfl ?_
  refine r_getR 55 dX11_out_52 rfl f11_47 rfl (by first | with_reducible assumption | with_reducible exact cr_bs hC | rfl) (by first | with_reducible assumption | with_reducible exact cr_bn hC | exact Nat.le_of_ble_eq_true rfl) (cr_1414_0 hC) ?_
  refine r_getR 58 dX11_out_55 rfl f11_137 rfl (by first | with_reducible assumption | with_reducible exact cr_bs hC | rfl) (by first | with_reducible assumption | with_reducible exact cr_bn hC | exact Nat.le_of_ble_eq_true rfl) (cr_1153_45 hC) ?_
  refine r_iconst (4) 59 dX11_out_58 rfl (by decide) ?_
  refine r_iload_n 60 dX11_out_59 rfl rfl ?_
  refine r_iload 62 dX11_out_60 rfl rfl ?_
  refine r_callV (M := mX11_out) (pc := 62) 65 dX11_out_62 rfl k11_208 had rfl rfl (by first | with_reducible assumption | with_reducible exact cr_bs hC | rfl) (by decide) rfl (by first | with_reducible assumption | with_reducible exact cr_bn hC | exact Nat.le_of_ble_eq_true rfl) (Nat.le_of_ble_eq_true rfl) ?_
  refine r_aload_n 66 dX11_out_65 rfl rfl ?_
  refine r_getR 69 dX11_out_66 rfl f11_47 rfl (by first | with_reducible assumption | with_reducible exact cr_bs hC | rfl) (by first | with_reducible assumption | with_reducible exact cr_bn hC | exact Nat.le_of_ble_eq_true rfl) (cr_1414_0 hC2) ?_
  refine r_getR 72 dX11_out_69 rfl f11_116 rfl (by first | with_reducible assumption | with_reducible exact cr_bs hC | rfl) (by first | with_reducible assumption | with_reducible exact cr_bn hC | exact Nat.le_of_ble_eq_true rfl) (cr_1152_45 hC2) ?_
  refine r_getR 75 dX11_out_72 rfl f11_180 rfl (by first | with_reducible assumption | with_reducible exact cr_bs hC | rfl) (by first | with_reducible assumption | with_reducible exact cr_bn hC | exact Nat.le_of_ble_eq_true rfl) (cr_513_46 hC2) ?_
  refine r_iload_n 76 dX11_out_75 rfl rfl ?_
  refine r_iload_n 77 dX11_out_76 rfl rfl ?_
  refine r_callV (M := mX11_out) (pc := 77) 80 dX11_out_77 rfl k11_86 hpt rfl rfl (by first | with_reducible assumption | with_reducible exact cr_bs hC | rfl) (by decide) rfl (by first | with_reducible assumption | with_reducible exact cr_bn hC | exact Nat.le_of_ble_eq_true rfl) (Nat.le_of_ble_eq_true rfl) ?_
  refine r_iload 82 dX11_out_80 rfl rfl ?_
  exact r_iret dX11_out_82 rfl rfl (rfl)
set_option maxRecDepth 20000 in
theorem x_out1 {d b L m s : Nat} {R : List Int32} {E : HP} {x w : Int32} (hci : CI E b L m R) (h : ¬ inB x (nI L)) : Cl yX11_out mX11_out (d + 8) 1 6 [.ref 0, .int (x), .int (w)] E 137 (.inr nseN, E, 137) := by
  have hC := hci.1
  have cL := hci.2.1
  have l7 : L ≤ 7 := hci.2.2.2.1.2.1
  refine Cl.of (by decide) rfl (fun q => by cases q) rfl rfl (Nat.le_of_ble_eq_true rfl) ?_
  show Sm _ _ _ _ _ 0 [some (.ref 0), some (.int (x)), some (.int (w)), none, none] [] _ _
  refine r_aload_n 1 dX11_out_0 rfl rfl ?_
  refine r_iload_n 2 dX11_out_1 rfl rfl ?_
  exact r_callVX (M := mX11_out) (pc := 2) dX11_out_2 k11_159 (x_toldSleeper (s := 0) hci h) rfl rfl (by first | with_reducible assumption | with_reducible exact cr_bs hC | rfl) (by decide) rfl (by first | with_reducible assumption | with_reducible exact cr_bn hC | exact Nat.le_of_ble_eq_true rfl) (Nat.le_of_ble_eq_true rfl) rfl rfl (rfl)
set_option maxRecDepth 20000 in
theorem x_out2 {d b L m s : Nat} {R : List Int32} {E : HP} {w : Int32} (hci : CI E b L m R) (hs : s < L) (h : ¬ inC w 600 ∨ slC E b 1 s = 3) : Cl yX11_out mX11_out (d + 8) 0 0 [.ref 0, .int (nI s), .int (w)] E 137 (.inl (some (.int (-1))), stRefuse 45 1 E, 137) := by
  have hC := hci.1
  have cL := hci.2.1
  have l7 : L ≤ 7 := hci.2.2.2.1.2.1
  obtain ⟨ws, wn, wk⟩ := who_of hci hs
  have hts := c_X11_toldSleeper (d := d + 5) hci hs
  have hre := c_X9_refuse (d := d + 5) (E := E) (w := 1) (cr_state45 hC)
  refine Cl.of (by decide) rfl (fun q => by cases q) rfl rfl (Nat.le_of_ble_eq_true rfl) ?_
  show Sm _ _ _ _ _ 0 [some (.ref 0), some (.int (nI s)), some (.int (w)), none, none] [] _ _
  refine r_aload_n 1 dX11_out_0 rfl rfl ?_
  refine r_iload_n 2 dX11_out_1 rfl rfl ?_
  refine r_callV (M := mX11_out) (pc := 2) 5 dX11_out_2 rfl k11_159 hts rfl rfl (by first | with_reducible assumption | with_reducible exact cr_bs hC | rfl) (by decide) rfl (by first | with_reducible assumption | with_reducible exact cr_bn hC | exact Nat.le_of_ble_eq_true rfl) (Nat.le_of_ble_eq_true rfl) ?_
  refine r_astore_n 6 dX11_out_5 rfl (by decide) rfl ?_
  refine r_iload_n 7 dX11_out_6 rfl rfl ?_
  refine r_if_lt 10 25 dX11_out_7 rfl (by decide) (fun h7 => ?_) (fun h7 => ?_)
  · refine r_aload_n 26 dX11_out_25 rfl rfl ?_
    refine r_getR 29 dX11_out_26 rfl f11_47 rfl (by first | with_reducible assumption | with_reducible exact cr_bs hC | rfl) (by first | with_reducible assumption | with_reducible exact cr_bn hC | exact Nat.le_of_ble_eq_true rfl) (cr_1414_0 hC) ?_
    refine r_iconst (1) 30 dX11_out_29 rfl (by decide) ?_
    refine r_callV (M := mX11_out) (pc := 30) 33 dX11_out_30 rfl k11_98 hre rfl rfl (by first | with_reducible assumption | with_reducible exact cr_bs hC | rfl) (by decide) rfl (by first | with_reducible assumption | with_reducible exact cr_bn hC | exact Nat.le_of_ble_eq_true rfl) (Nat.le_of_ble_eq_true rfl) ?_
    refine r_iconst (-1) 34 dX11_out_33 rfl (by decide) ?_
    exact r_iret dX11_out_34 rfl rfl (rfl)
  · refine r_iload_n 11 dX11_out_10 rfl rfl ?_
    refine r_sipush (600) 14 dX11_out_11 rfl (by decide) ?_
    refine r_icmp_gt 17 25 dX11_out_14 rfl (by decide) (fun h14 => ?_) (fun h14 => ?_)
    · refine r_aload_n 26 dX11_out_25 rfl rfl ?_
      refine r_getR 29 dX11_out_26 rfl f11_47 rfl (by first | with_reducible assumption | with_reducible exact cr_bs hC | rfl) (by first | with_reducible assumption | with_reducible exact cr_bn hC | exact Nat.le_of_ble_eq_true rfl) (cr_1414_0 hC) ?_
      refine r_iconst (1) 30 dX11_out_29 rfl (by decide) ?_
      refine r_callV (M := mX11_out) (pc := 30) 33 dX11_out_30 rfl k11_98 hre rfl rfl (by first | with_reducible assumption | with_reducible exact cr_bs hC | rfl) (by decide) rfl (by first | with_reducible assumption | with_reducible exact cr_bn hC | exact Nat.le_of_ble_eq_true rfl) (Nat.le_of_ble_eq_true rfl) ?_
      refine r_iconst (-1) 34 dX11_out_33 rfl (by decide) ?_
      exact r_iret dX11_out_34 rfl rfl (rfl)
    · refine r_aload_n 18 dX11_out_17 rfl rfl ?_
      refine r_getIV (slC E b 1 s) 21 dX11_out_18 rfl f11_163 rfl (by first | with_reducible assumption | with_reducible exact cr_bs hC | rfl) (by first | with_reducible assumption | with_reducible exact cr_bn hC | exact Nat.le_of_ble_eq_true rfl) (wk) ?_
      refine r_iconst (3) 22 dX11_out_21 rfl (by decide) ?_
      refine r_icmp_ne 25 35 dX11_out_22 rfl (by decide) (fun h22 => ?_) (fun h22 => ?_)
      · exact absurd h (fun z => z.elim (fun y => y ⟨h7, Int32.not_lt.mp h14⟩) h22)
      · refine r_aload_n 26 dX11_out_25 rfl rfl ?_
        refine r_getR 29 dX11_out_26 rfl f11_47 rfl (by first | with_reducible assumption | with_reducible exact cr_bs hC | rfl) (by first | with_reducible assumption | with_reducible exact cr_bn hC | exact Nat.le_of_ble_eq_true rfl) (cr_1414_0 hC) ?_
        refine r_iconst (1) 30 dX11_out_29 rfl (by decide) ?_
        refine r_callV (M := mX11_out) (pc := 30) 33 dX11_out_30 rfl k11_98 hre rfl rfl (by first | with_reducible assumption | with_reducible exact cr_bs hC | rfl) (by decide) rfl (by first | with_reducible assumption | with_reducible exact cr_bn hC | exact Nat.le_of_ble_eq_true rfl) (Nat.le_of_ble_eq_true rfl) ?_
        refine r_iconst (-1) 34 dX11_out_33 rfl (by decide) ?_
        exact r_iret dX11_out_34 rfl rfl (rfl)
set_option maxRecDepth 20000 in
theorem c_X11_undo0 {d b L m : Nat} {R : List Int32} {E : HP} (hci : CI E b L m R) (h0 : gI E 386 51 = 0) : Cl yX11_undo mX11_undo (d + 8) 0 0 [.ref 0] E 137 (.inl (some (.int (-1))), E, 137) := by
  have hC := hci.1
  have cL := hci.2.1
  have l7 : L ≤ 7 := hci.2.2.2.1.2.1
  refine Cl.of (by decide) rfl (fun q => by cases q) rfl rfl (Nat.le_of_ble_eq_true rfl) ?_
  show Sm _ _ _ _ _ 0 [some (.ref 0)] [] _ _
  refine r_aload_n 1 dX11_undo_0 rfl rfl ?_
  refine r_getR 4 dX11_undo_1 rfl f11_47 rfl (by first | with_reducible assumption | with_reducible exact cr_bs hC | rfl) (by first | with_reducible assumption | with_reducible exact cr_bn hC | exact Nat.le_of_ble_eq_true rfl) (cr_1414_0 hC) ?_
  refine r_getR 7 dX11_undo_4 rfl f11_137 rfl (by first | with_reducible assumption | with_reducible exact cr_bs hC | rfl) (by first | with_reducible assumption | with_reducible exact cr_bn hC | exact Nat.le_of_ble_eq_true rfl) (cr_1153_45 hC) ?_
  refine r_getIV (0) 10 dX11_undo_7 rfl f11_141 rfl (by first | with_reducible assumption | with_reducible exact cr_bs hC | rfl) (by first | with_reducible assumption | with_reducible exact cr_bn hC | exact Nat.le_of_ble_eq_true rfl) (h0) ?_
  refine r_if_ne 13 15 dX11_undo_10 rfl (by decide) (fun h10 => absurd h10 (fun z => z rfl)) (fun h10 => ?_)
  refine r_iconst (-1) 14 dX11_undo_13 rfl (by decide) ?_
  exact r_iret dX11_undo_14 rfl rfl (rfl)
set_option maxRecDepth 20000 in
theorem c_X11_undo {d b L m : Nat} {R : List Int32} {E : HP} (hci : CI E b L m R) (h0 : ¬ gI E 386 51 = 0) : Cl yX11_undo mX11_undo (d + 8) 0 0 [.ref 0] E 137 (.inl (some (.int (gI (stUndo 45 E) 386 51))), stUndo 45 E, 137) := by
  have hC := hci.1
  have cL := hci.2.1
  have l7 : L ≤ 7 := hci.2.2.2.1.2.1
  have hC2 : CR (stUndo 45 E) b := cr_sr sr_stUndo hC
  have hun := c_X9_undoLatest (d := d + 5) (cr_state45 hC)
  refine Cl.of (by decide) rfl (fun q => by cases q) rfl rfl (Nat.le_of_ble_eq_true rfl) ?_
  show Sm _ _ _ _ _ 0 [some (.ref 0)] [] _ _
  refine r_aload_n 1 dX11_undo_0 rfl rfl ?_
  refine r_getR 4 dX11_undo_1 rfl f11_47 rfl (by first | with_reducible assumption | with_reducible exact cr_bs hC | rfl) (by first | with_reducible assumption | with_reducible exact cr_bn hC | exact Nat.le_of_ble_eq_true rfl) (cr_1414_0 hC) ?_
  refine r_getR 7 dX11_undo_4 rfl f11_137 rfl (by first | with_reducible assumption | with_reducible exact cr_bs hC | rfl) (by first | with_reducible assumption | with_reducible exact cr_bn hC | exact Nat.le_of_ble_eq_true rfl) (cr_1153_45 hC) ?_
  refine r_getI 10 dX11_undo_7 rfl f11_141 rfl (by first | with_reducible assumption | with_reducible exact cr_bs hC | rfl) (by first | with_reducible assumption | with_reducible exact cr_bn hC | exact Nat.le_of_ble_eq_true rfl) ?_
  refine r_if_ne 13 15 dX11_undo_10 rfl (by decide) (fun h10 => ?_) (fun h10 => absurd h10 h0)
  refine r_aload_n 16 dX11_undo_15 rfl rfl ?_
  refine r_getR 19 dX11_undo_16 rfl f11_47 rfl (by first | with_reducible assumption | with_reducible exact cr_bs hC | rfl) (by first | with_reducible assumption | with_reducible exact cr_bn hC | exact Nat.le_of_ble_eq_true rfl) (cr_1414_0 hC) ?_
  refine r_callV (M := mX11_undo) (pc := 19) 22 dX11_undo_19 rfl k11_221 hun rfl rfl (by first | with_reducible assumption | with_reducible exact cr_bs hC | rfl) (by decide) rfl (by first | with_reducible assumption | with_reducible exact cr_bn hC | exact Nat.le_of_ble_eq_true rfl) (Nat.le_of_ble_eq_true rfl) ?_
  refine r_aload_n 23 dX11_undo_22 rfl rfl ?_
  refine r_getR 26 dX11_undo_23 rfl f11_47 rfl (by first | with_reducible assumption | with_reducible exact cr_bs hC | rfl) (by first | with_reducible assumption | with_reducible exact cr_bn hC | exact Nat.le_of_ble_eq_true rfl) (cr_1414_0 hC2) ?_
  refine r_getR 29 dX11_undo_26 rfl f11_137 rfl (by first | with_reducible assumption | with_reducible exact cr_bs hC | rfl) (by first | with_reducible assumption | with_reducible exact cr_bn hC | exact Nat.le_of_ble_eq_true rfl) (cr_1153_45 hC2) ?_
  refine r_getI 32 dX11_undo_29 rfl f11_141 rfl (by first | with_reducible assumption | with_reducible exact cr_bs hC | rfl) (by first | with_reducible assumption | with_reducible exact cr_bn hC | exact Nat.le_of_ble_eq_true rfl) ?_
  exact r_iret dX11_undo_32 rfl rfl (rfl)
set_option maxHeartbeats 8000000 in
set_option maxRecDepth 20000 in
theorem c_X11_see {d b L m k s q : Nat} {R : List Int32} {E : HP} {v : Int32} (hci : CI E b L m R) (ac : piSz E 137 54 24 k 8) (hk : k < 8) (hs : s < L) (hq : q ≤ 600) (hv : v = 0 ∨ v = 1) (h3 : ¬ slC E b 1 s = 3) : Cl yX11_see mX11_see (d + 8) 0 0 [.ref 0, .int (nI s), .int (nI q), .int (v)] E 137 (.inl (some (.int (gI (piAdd 54 24 k 8 (nI s) (nI q) v E) 386 54))), (piAdd 54 24 k 8 (nI s) (nI q) v E), 137) := by
  have hC := hci.1
  have cL := hci.2.1
  have l7 : L ≤ 7 := hci.2.2.2.1.2.1
  obtain ⟨ws, wn, wk⟩ := who_of hci hs
  have hts := c_X11_toldSleeper (d := d + 5) hci hs
  have had := c_X3_add (d := d + 5) (a := nI s) (b := nI q) (c := v) ac
  have hS : SR E (piAdd 54 24 k 8 (nI s) (nI q) v E) := sr_add sr_rfl
  have hC2 := cr_sr hS hC
  have hsz : gI E 386 54 = nI k := ac.2.1
  refine Cl.of (by decide) rfl (fun q => by cases q) rfl rfl (Nat.le_of_ble_eq_true rfl) ?_
  show Sm _ _ _ _ _ 0 [some (.ref 0), some (.int (nI s)), some (.int (nI q)), some (.int (v)), none, none, none] [] _ _
  refine r_aload_n 1 dX11_see_0 rfl rfl ?_
  refine r_iload_n 2 dX11_see_1 rfl rfl ?_
  refine r_callV (M := mX11_see) (pc := 2) 5 dX11_see_2 rfl k11_159 hts rfl rfl (by first | with_reducible assumption | with_reducible exact cr_bs hC | rfl) (by decide) rfl (by first | with_reducible assumption | with_reducible exact cr_bn hC | exact Nat.le_of_ble_eq_true rfl) (Nat.le_of_ble_eq_true rfl) ?_
  refine r_astore 7 dX11_see_5 rfl (by decide) rfl ?_
  refine r_iload_n 8 dX11_see_7 rfl rfl ?_
  refine r_if_eq 11 16 dX11_see_8 rfl (by decide) (fun h8 => ?_) (fun h8 => ?_)
  · refine r_iconst (1) 17 dX11_see_16 rfl (by decide) ?_
    refine r_goto 21 dX11_see_17 (by decide) ?_
    refine r_istore 23 dX11_see_21 rfl (by decide) rfl ?_
    refine r_iload_n 24 dX11_see_23 rfl rfl ?_
    refine r_if_lt 27 38 dX11_see_24 rfl (by decide) (fun h24 => absurd h24 (nI_pos (by omega))) (fun h24 => ?_)
    refine r_iload_n 28 dX11_see_27 rfl rfl ?_
    refine r_sipush (600) 31 dX11_see_28 rfl (by decide) ?_
    refine r_icmp_gt 34 38 dX11_see_31 rfl (by decide) (fun h31 => absurd h31 (nI_nlt (a := 600) (by omega) (by omega))) (fun h31 => ?_)
    refine r_iconst (1) 35 dX11_see_34 rfl (by decide) ?_
    refine r_goto 39 dX11_see_35 (by decide) ?_
    refine r_istore 41 dX11_see_39 rfl (by decide) rfl ?_
    refine r_aload_n 42 dX11_see_41 rfl rfl ?_
    refine r_getR 45 dX11_see_42 rfl f11_47 rfl (by first | with_reducible assumption | with_reducible exact cr_bs hC | rfl) (by first | with_reducible assumption | with_reducible exact cr_bn hC | exact Nat.le_of_ble_eq_true rfl) (cr_1414_0 hC) ?_
    refine r_getR 48 dX11_see_45 rfl f11_146 rfl (by first | with_reducible assumption | with_reducible exact cr_bs hC | rfl) (by first | with_reducible assumption | with_reducible exact cr_bn hC | exact Nat.le_of_ble_eq_true rfl) (cr_1154_45 hC) ?_
    refine r_getIV (nI k) 51 dX11_see_48 rfl f11_141 rfl (by first | with_reducible assumption | with_reducible exact cr_bs hC | rfl) (by first | with_reducible assumption | with_reducible exact cr_bn hC | exact Nat.le_of_ble_eq_true rfl) (hsz) ?_
    refine r_bipush (8) 53 dX11_see_51 rfl (by decide) ?_
    refine r_icmp_ge 56 75 dX11_see_53 rfl (by decide) (fun h53 => absurd h53 (nI_ge (b := 8) hk (by omega))) (fun h53 => ?_)
    refine r_iload 58 dX11_see_56 rfl rfl ?_
    refine r_if_eq 61 75 dX11_see_58 rfl (by decide) (fun h58 => ?_) (fun h58 => ?_)
    · first | exact absurd hv (fun z => z.elim h8 h13) | exact absurd h58 (by decide) | exact absurd hv (fun z => z.elim h8 (fun y => h13 y))
    · refine r_iload 63 dX11_see_61 rfl rfl ?_
      refine r_if_eq 66 75 dX11_see_63 rfl (by decide) (fun h63 => absurd h63 (by decide)) (fun h63 => ?_)
      refine r_aload 68 dX11_see_66 rfl rfl ?_
      refine r_getIV (slC E b 1 s) 71 dX11_see_68 rfl f11_163 rfl (by first | with_reducible assumption | with_reducible exact cr_bs hC | rfl) (by first | with_reducible assumption | with_reducible exact cr_bn hC | exact Nat.le_of_ble_eq_true rfl) (wk) ?_
      refine r_iconst (3) 72 dX11_see_71 rfl (by decide) ?_
      refine r_icmp_ne 75 85 dX11_see_72 rfl (by decide) (fun h72 => ?_) (fun h72 => absurd h72 h3)
      refine r_aload_n 86 dX11_see_85 rfl rfl ?_
      refine r_getR 89 dX11_see_86 rfl f11_47 rfl (by first | with_reducible assumption | with_reducible exact cr_bs hC | rfl) (by first | with_reducible assumption | with_reducible exact cr_bn hC | exact Nat.le_of_ble_eq_true rfl) (cr_1414_0 hC) ?_
      refine r_getR 92 dX11_see_89 rfl f11_146 rfl (by first | with_reducible assumption | with_reducible exact cr_bs hC | rfl) (by first | with_reducible assumption | with_reducible exact cr_bn hC | exact Nat.le_of_ble_eq_true rfl) (cr_1154_45 hC) ?_
      refine r_iload_n 93 dX11_see_92 rfl rfl ?_
      refine r_iload_n 94 dX11_see_93 rfl rfl ?_
      refine r_iload_n 95 dX11_see_94 rfl rfl ?_
      refine r_callV (M := mX11_see) (pc := 95) 98 dX11_see_95 rfl k11_208 had rfl rfl (by first | with_reducible assumption | with_reducible exact cr_bs hC | rfl) (by decide) rfl (by first | with_reducible assumption | with_reducible exact cr_bn hC | exact Nat.le_of_ble_eq_true rfl) (Nat.le_of_ble_eq_true rfl) ?_
      refine r_aload_n 99 dX11_see_98 rfl rfl ?_
      refine r_getR 102 dX11_see_99 rfl f11_47 rfl (by first | with_reducible assumption | with_reducible exact cr_bs hC | rfl) (by first | with_reducible assumption | with_reducible exact cr_bn hC | exact Nat.le_of_ble_eq_true rfl) (cr_1414_0 hC2) ?_
      refine r_getR 105 dX11_see_102 rfl f11_146 rfl (by first | with_reducible assumption | with_reducible exact cr_bs hC | rfl) (by first | with_reducible assumption | with_reducible exact cr_bn hC | exact Nat.le_of_ble_eq_true rfl) (cr_1154_45 hC2) ?_
      refine r_getI 108 dX11_see_105 rfl f11_141 rfl (by first | with_reducible assumption | with_reducible exact cr_bs hC | rfl) (by first | with_reducible assumption | with_reducible exact cr_bn hC | exact Nat.le_of_ble_eq_true rfl) ?_
      exact r_iret dX11_see_108 rfl rfl (rfl)
  · refine r_iload_n 12 dX11_see_11 rfl rfl ?_
    refine r_iconst (1) 13 dX11_see_12 rfl (by decide) ?_
    refine r_icmp_ne 16 20 dX11_see_13 rfl (by decide) (fun h13 => ?_) (fun h13 => ?_)
    · refine r_iconst (0) 21 dX11_see_20 rfl (by decide) ?_
      refine r_istore 23 dX11_see_21 rfl (by decide) rfl ?_
      refine r_iload_n 24 dX11_see_23 rfl rfl ?_
      refine r_if_lt 27 38 dX11_see_24 rfl (by decide) (fun h24 => absurd h24 (nI_pos (by omega))) (fun h24 => ?_)
      refine r_iload_n 28 dX11_see_27 rfl rfl ?_
      refine r_sipush (600) 31 dX11_see_28 rfl (by decide) ?_
      refine r_icmp_gt 34 38 dX11_see_31 rfl (by decide) (fun h31 => absurd h31 (nI_nlt (a := 600) (by omega) (by omega))) (fun h31 => ?_)
      refine r_iconst (1) 35 dX11_see_34 rfl (by decide) ?_
      refine r_goto 39 dX11_see_35 (by decide) ?_
      refine r_istore 41 dX11_see_39 rfl (by decide) rfl ?_
      refine r_aload_n 42 dX11_see_41 rfl rfl ?_
      refine r_getR 45 dX11_see_42 rfl f11_47 rfl (by first | with_reducible assumption | with_reducible exact cr_bs hC | rfl) (by first | with_reducible assumption | with_reducible exact cr_bn hC | exact Nat.le_of_ble_eq_true rfl) (cr_1414_0 hC) ?_
      refine r_getR 48 dX11_see_45 rfl f11_146 rfl (by first | with_reducible assumption | with_reducible exact cr_bs hC | rfl) (by first | with_reducible assumption | with_reducible exact cr_bn hC | exact Nat.le_of_ble_eq_true rfl) (cr_1154_45 hC) ?_
      refine r_getIV (nI k) 51 dX11_see_48 rfl f11_141 rfl (by first | with_reducible assumption | with_reducible exact cr_bs hC | rfl) (by first | with_reducible assumption | with_reducible exact cr_bn hC | exact Nat.le_of_ble_eq_true rfl) (hsz) ?_
      refine r_bipush (8) 53 dX11_see_51 rfl (by decide) ?_
      refine r_icmp_ge 56 75 dX11_see_53 rfl (by decide) (fun h53 => absurd h53 (nI_ge (b := 8) hk (by omega))) (fun h53 => ?_)
      refine r_iload 58 dX11_see_56 rfl rfl ?_
      refine r_if_eq 61 75 dX11_see_58 rfl (by decide) (fun h58 => ?_) (fun h58 => ?_)
      · first | exact absurd hv (fun z => z.elim h8 h13) | exact absurd h58 (by decide) | exact absurd hv (fun z => z.elim h8 (fun y => h13 y))
      · refine r_iload 63 dX11_see_61 rfl rfl ?_
        refine r_if_eq 66 75 dX11_see_63 rfl (by decide) (fun h63 => absurd h63 (by decide)) (fun h63 => ?_)
        refine r_aload 68 dX11_see_66 rfl rfl ?_
        refine r_getIV (slC E b 1 s) 71 dX11_see_68 rfl f11_163 rfl (by first | with_reducible assumption | with_reducible exact cr_bs hC | rfl) (by first | with_reducible assumption | with_reducible exact cr_bn hC | exact Nat.le_of_ble_eq_true rfl) (wk) ?_
        refine r_iconst (3) 72 dX11_see_71 rfl (by decide) ?_
        refine r_icmp_ne 75 85 dX11_see_72 rfl (by decide) (fun h72 => ?_) (fun h72 => absurd h72 h3)
        refine r_aload_n 86 dX11_see_85 rfl rfl ?_
        refine r_getR 89 dX11_see_86 rfl f11_47 rfl (by first | with_reducible assumption | with_reducible exact cr_bs hC | rfl) (by first | with_reducible assumption | with_reducible exact cr_bn hC | exact Nat.le_of_ble_eq_true rfl) (cr_1414_0 hC) ?_
        refine r_getR 92 dX11_see_89 rfl f11_146 rfl (by first | with_reducible assumption | with_reducible exact cr_bs hC | rfl) (by first | with_reducible assumption | with_reducible exact cr_bn hC | exact Nat.le_of_ble_eq_true rfl) (cr_1154_45 hC) ?_
        refine r_iload_n 93 dX11_see_92 rfl rfl ?_
        refine r_iload_n 94 dX11_see_93 rfl rfl ?_
        refine r_iload_n 95 dX11_see_94 rfl rfl ?_
        refine r_callV (M := mX11_see) (pc := 95) 98 dX11_see_95 rfl k11_208 had rfl rfl (by first | with_reducible assumption | with_reducible exact cr_bs hC | rfl) (by decide) rfl (by first | with_reducible assumption | with_reducible exact cr_bn hC | exact Nat.le_of_ble_eq_true rfl) (Nat.le_of_ble_eq_true rfl) ?_
        refine r_aload_n 99 dX11_see_98 rfl rfl ?_
        refine r_getR 102 dX11_see_99 rfl f11_47 rfl (by first | with_reducible assumption | with_reducible exact cr_bs hC | rfl) (by first | with_reducible assumption | with_reducible exact cr_bn hC | exact Nat.le_of_ble_eq_true rfl) (cr_1414_0 hC2) ?_
        refine r_getR 105 dX11_see_102 rfl f11_146 rfl (by first | with_reducible assumption | with_reducible exact cr_bs hC | rfl) (by first | with_reducible assumption | with_reducible exact cr_bn hC | exact Nat.le_of_ble_eq_true rfl) (cr_1154_45 hC2) ?_
        refine r_getI 108 dX11_see_105 rfl f11_141 rfl (by first | with_reducible assumption | with_reducible exact cr_bs hC | rfl) (by first | with_reducible assumption | with_reducible exact cr_bn hC | exact Nat.le_of_ble_eq_true rfl) ?_
        exact r_iret dX11_see_108 rfl rfl (rfl)
    · refine r_iconst (1) 17 dX11_see_16 rfl (by decide) ?_
      refine r_goto 21 dX11_see_17 (by decide) ?_
      refine r_istore 23 dX11_see_21 rfl (by decide) rfl ?_
      refine r_iload_n 24 dX11_see_23 rfl rfl ?_
      refine r_if_lt 27 38 dX11_see_24 rfl (by decide) (fun h24 => absurd h24 (nI_pos (by omega))) (fun h24 => ?_)
      refine r_iload_n 28 dX11_see_27 rfl rfl ?_
      refine r_sipush (600) 31 dX11_see_28 rfl (by decide) ?_
      refine r_icmp_gt 34 38 dX11_see_31 rfl (by decide) (fun h31 => absurd h31 (nI_nlt (a := 600) (by omega) (by omega))) (fun h31 => ?_)
      refine r_iconst (1) 35 dX11_see_34 rfl (by decide) ?_
      refine r_goto 39 dX11_see_35 (by decide) ?_
      refine r_istore 41 dX11_see_39 rfl (by decide) rfl ?_
      refine r_aload_n 42 dX11_see_41 rfl rfl ?_
      refine r_getR 45 dX11_see_42 rfl f11_47 rfl (by first | with_reducible assumption | with_reducible exact cr_bs hC | rfl) (by first | with_reducible assumption | with_reducible exact cr_bn hC | exact Nat.le_of_ble_eq_true rfl) (cr_1414_0 hC) ?_
      refine r_getR 48 dX11_see_45 rfl f11_146 rfl (by first | with_reducible assumption | with_reducible exact cr_bs hC | rfl) (by first | with_reducible assumption | with_reducible exact cr_bn hC | exact Nat.le_of_ble_eq_true rfl) (cr_1154_45 hC) ?_
      refine r_getIV (nI k) 51 dX11_see_48 rfl f11_141 rfl (by first | with_reducible assumption | with_reducible exact cr_bs hC | rfl) (by first | with_reducible assumption | with_reducible exact cr_bn hC | exact Nat.le_of_ble_eq_true rfl) (hsz) ?_
      refine r_bipush (8) 53 dX11_see_51 rfl (by decide) ?_
      refine r_icmp_ge 56 75 dX11_see_53 rfl (by decide) (fun h53 => absurd h53 (nI_ge (b := 8) hk (by omega))) (fun h53 => ?_)
      refine r_iload 58 dX11_see_56 rfl rfl ?_
      refine r_if_eq 61 75 dX11_see_58 rfl (by decide) (fun h58 => ?_) (fun h58 => ?_)
      · first | exact absurd hv (fun z => z.elim h8 h13) | exact absurd h58 (by decide) | exact absurd hv (fun z => z.elim h8 (fun y => h13 y))
      · refine r_iload 63 dX11_see_61 rfl rfl ?_
        refine r_if_eq 66 75 dX11_see_63 rfl (by decide) (fun h63 => absurd h63 (by decide)) (fun h63 => ?_)
        refine r_aload 68 dX11_see_66 rfl rfl ?_
        refine r_getIV (slC E b 1 s) 71 dX11_see_68 rfl f11_163 rfl (by first | with_reducible assumption | with_reducible exact cr_bs hC | rfl) (by first | with_reducible assumption | with_reducible exact cr_bn hC | exact Nat.le_of_ble_eq_true rfl) (wk) ?_
        refine r_iconst (3) 72 dX11_see_71 rfl (by decide) ?_
        refine r_icmp_ne 75 85 dX11_see_72 rfl (by decide) (fun h72 => ?_) (fun h72 => absurd h72 h3)
        refine r_aload_n 86 dX11_see_85 rfl rfl ?_
        refine r_getR 89 dX11_see_86 rfl f11_47 rfl (by first | with_reducible assumption | with_reducible exact cr_bs hC | rfl) (by first | with_reducible assumption | with_reducible exact cr_bn hC | exact Nat.le_of_ble_eq_true rfl) (cr_1414_0 hC) ?_
        refine r_getR 92 dX11_see_89 rfl f11_146 rfl (by first | with_reducible assumption | with_reducible exact cr_bs hC | rfl) (by first | with_reducible assumption | with_reducible exact cr_bn hC | exact Nat.le_of_ble_eq_true rfl) (cr_1154_45 hC) ?_
        refine r_iload_n 93 dX11_see_92 rfl rfl ?_
        refine r_iload_n 94 dX11_see_93 rfl rfl ?_
        refine r_iload_n 95 dX11_see_94 rfl rfl ?_
        refine r_callV (M := mX11_see) (pc := 95) 98 dX11_see_95 rfl k11_208 had rfl rfl (by first | with_reducible assumption | with_reducible exact cr_bs hC | rfl) (by decide) rfl (by first | with_reducible assumption | with_reducible exact cr_bn hC | exact Nat.le_of_ble_eq_true rfl) (Nat.le_of_ble_eq_true rfl) ?_
        refine r_aload_n 99 dX11_see_98 rfl rfl ?_
        refine r_getR 102 dX11_see_99 rfl f11_47 rfl (by first | with_reducible assumption | with_reducible exact cr_bs hC | rfl) (by first | with_reducible assumption | with_reducible exact cr_bn hC | exact Nat.le_of_ble_eq_true rfl) (cr_1414_0 hC2) ?_
        refine r_getR 105 dX11_see_102 rfl f11_146 rfl (by first | with_reducible assumption | with_reducible exact cr_bs hC | rfl) (by first | with_reducible assumption | with_reducible exact cr_bn hC | exact Nat.le_of_ble_eq_true rfl) (cr_1154_45 hC2) ?_
        refine r_getI 108 dX11_see_105 rfl f11_141 rfl (by first | with_reducible assumption | with_reducible exact cr_bs hC | rfl) (by first | with_reducible assumption | with_reducible exact cr_bn hC | exact Nat.le_of_ble_eq_true rfl) ?_
        exact r_iret dX11_see_108 rfl rfl (rfl)
set_option maxRecDepth 20000 in
theorem x_see1 {d b L m s : Nat} {R : List Int32} {E : HP} {x w v : Int32} (hci : CI E b L m R) (h : ¬ inB x (nI L)) : Cl yX11_see mX11_see (d + 8) 1 6 [.ref 0, .int (x), .int (w), .int (v)] E 137 (.inr nseN, E, 137) := by
  have hC := hci.1
  have cL := hci.2.1
  have l7 : L ≤ 7 := hci.2.2.2.1.2.1
  refine Cl.of (by decide) rfl (fun q => by cases q) rfl rfl (Nat.le_of_ble_eq_true rfl) ?_
  show Sm _ _ _ _ _ 0 [some (.ref 0), some (.int (x)), some (.int (w)), some (.int (v)), none, none, none] [] _ _
  refine r_aload_n 1 dX11_see_0 rfl rfl ?_
  refine r_iload_n 2 dX11_see_1 rfl rfl ?_
  exact r_callVX (M := mX11_see) (pc := 2) dX11_see_2 k11_159 (x_toldSleeper (s := 0) hci h) rfl rfl (by first | with_reducible assumption | with_reducible exact cr_bs hC | rfl) (by decide) rfl (by first | with_reducible assumption | with_reducible exact cr_bn hC | exact Nat.le_of_ble_eq_true rfl) (Nat.le_of_ble_eq_true rfl) rfl rfl (rfl)
set_option maxHeartbeats 8000000 in
set_option maxRecDepth 20000 in
theorem x_see2 {d b L m s k : Nat} {R : List Int32} {E : HP} {w v : Int32} (hci : CI E b L m R) (ac : piSz E 137 54 24 k 8) (hs : s < L) (h : ¬ k < 8 ∨ ¬ inC w 600 ∨ ¬ (v = 0 ∨ v = 1) ∨ slC E b 1 s = 3) : Cl yX11_see mX11_see (d + 8) 0 0 [.ref 0, .int (nI s), .int (w), .int (v)] E 137 (.inl (some (.int (-1))), stRefuse 45 2 E, 137) := by
  have hC := hci.1
  have cL := hci.2.1
  have l7 : L ≤ 7 := hci.2.2.2.1.2.1
  obtain ⟨ws, wn, wk⟩ := who_of hci hs
  have hts := c_X11_toldSleeper (d := d + 5) hci hs
  have hre := c_X9_refuse (d := d + 5) (E := E) (w := 2) (cr_state45 hC)
  have hsz : gI E 386 54 = nI k := ac.2.1
  have hk8 := ac.2.2.2.2.1
  refine Cl.of (by decide) rfl (fun q => by cases q) rfl rfl (Nat.le_of_ble_eq_true rfl) ?_
  show Sm _ _ _ _ _ 0 [some (.ref 0), some (.int (nI s)), some (.int (w)), some (.int (v)), none, none, none] [] _ _
  refine r_aload_n 1 dX11_see_0 rfl rfl ?_
  refine r_iload_n 2 dX11_see_1 rfl rfl ?_
  refine r_callV (M := mX11_see) (pc := 2) 5 dX11_see_2 rfl k11_159 hts rfl rfl (by first | with_reducible assumption | with_reducible exact cr_bs hC | rfl) (by decide) rfl (by first | with_reducible assumption | with_reducible exact cr_bn hC | exact Nat.le_of_ble_eq_true rfl) (Nat.le_of_ble_eq_true rfl) ?_
  refine r_astore 7 dX11_see_5 rfl (by decide) rfl ?_
  refine r_iload_n 8 dX11_see_7 rfl rfl ?_
  refine r_if_eq 11 16 dX11_see_8 rfl (by decide) (fun h8 => ?_) (fun h8 => ?_)
  · refine r_iconst (1) 17 dX11_see_16 rfl (by decide) ?_
    refine r_goto 21 dX11_see_17 (by decide) ?_
    refine r_istore 23 dX11_see_21 rfl (by decide) rfl ?_
    refine r_iload_n 24 dX11_see_23 rfl rfl ?_
    refine r_if_lt 27 38 dX11_see_24 rfl (by decide) (fun h24 => ?_) (fun h24 => ?_)
    · refine r_iconst (0) 39 dX11_see_38 rfl (by decide) ?_
      refine r_istore 41 dX11_see_39 rfl (by decide) rfl ?_
      refine r_aload_n 42 dX11_see_41 rfl rfl ?_
      refine r_getR 45 dX11_see_42 rfl f11_47 rfl (by first | with_reducible assumption | with_reducible exact cr_bs hC | rfl) (by first | with_reducible assumption | with_reducible exact cr_bn hC | exact Nat.le_of_ble_eq_true rfl) (cr_1414_0 hC) ?_
      refine r_getR 48 dX11_see_45 rfl f11_146 rfl (by first | with_reducible assumption | with_reducible exact cr_bs hC | rfl) (by first | with_reducible assumption | with_reducible exact cr_bn hC | exact Nat.le_of_ble_eq_true rfl) (cr_1154_45 hC) ?_
      refine r_getIV (nI k) 51 dX11_see_48 rfl f11_141 rfl (by first | with_reducible assumption | with_reducible exact cr_bs hC | rfl) (by first | with_reducible assumption | with_reducible exact cr_bn hC | exact Nat.le_of_ble_eq_true rfl) (hsz) ?_
      refine r_bipush (8) 53 dX11_see_51 rfl (by decide) ?_
      refine r_icmp_ge 56 75 dX11_see_53 rfl (by decide) (fun h53 => ?_) (fun h53 => ?_)
      · refine r_aload_n 76 dX11_see_75 rfl rfl ?_
        refine r_getR 79 dX11_see_76 rfl f11_47 rfl (by first | with_reducible assumption | with_reducible exact cr_bs hC | rfl) (by first | with_reducible assumption | with_reducible exact cr_bn hC | exact Nat.le_of_ble_eq_true rfl) (cr_1414_0 hC) ?_
        refine r_iconst (2) 80 dX11_see_79 rfl (by decide) ?_
        refine r_callV (M := mX11_see) (pc := 80) 83 dX11_see_80 rfl k11_98 hre rfl rfl (by first | with_reducible assumption | with_reducible exact cr_bs hC | rfl) (by decide) rfl (by first | with_reducible assumption | with_reducible exact cr_bn hC | exact Nat.le_of_ble_eq_true rfl) (Nat.le_of_ble_eq_true rfl) ?_
        refine r_iconst (-1) 84 dX11_see_83 rfl (by decide) ?_
        exact r_iret dX11_see_84 rfl rfl (rfl)
      · refine r_iload 58 dX11_see_56 rfl rfl ?_
        refine r_if_eq 61 75 dX11_see_58 rfl (by decide) (fun h58 => ?_) (fun h58 => ?_)
        · refine r_aload_n 76 dX11_see_75 rfl rfl ?_
          refine r_getR 79 dX11_see_76 rfl f11_47 rfl (by first | with_reducible assumption | with_reducible exact cr_bs hC | rfl) (by first | with_reducible assumption | with_reducible exact cr_bn hC | exact Nat.le_of_ble_eq_true rfl) (cr_1414_0 hC) ?_
          refine r_iconst (2) 80 dX11_see_79 rfl (by decide) ?_
          refine r_callV (M := mX11_see) (pc := 80) 83 dX11_see_80 rfl k11_98 hre rfl rfl (by first | with_reducible assumption | with_reducible exact cr_bs hC | rfl) (by decide) rfl (by first | with_reducible assumption | with_reducible exact cr_bn hC | exact Nat.le_of_ble_eq_true rfl) (Nat.le_of_ble_eq_true rfl) ?_
          refine r_iconst (-1) 84 dX11_see_83 rfl (by decide) ?_
          exact r_iret dX11_see_84 rfl rfl (rfl)
        · refine r_iload 63 dX11_see_61 rfl rfl ?_
          refine r_if_eq 66 75 dX11_see_63 rfl (by decide) (fun h63 => ?_) (fun h63 => ?_)
          · refine r_aload_n 76 dX11_see_75 rfl rfl ?_
            refine r_getR 79 dX11_see_76 rfl f11_47 rfl (by first | with_reducible assumption | with_reducible exact cr_bs hC | rfl) (by first | with_reducible assumption | with_reducible exact cr_bn hC | exact Nat.le_of_ble_eq_true rfl) (cr_1414_0 hC) ?_
            refine r_iconst (2) 80 dX11_see_79 rfl (by decide) ?_
            refine r_callV (M := mX11_see) (pc := 80) 83 dX11_see_80 rfl k11_98 hre rfl rfl (by first | with_reducible assumption | with_reducible exact cr_bs hC | rfl) (by decide) rfl (by first | with_reducible assumption | with_reducible exact cr_bn hC | exact Nat.le_of_ble_eq_true rfl) (Nat.le_of_ble_eq_true rfl) ?_
            refine r_iconst (-1) 84 dX11_see_83 rfl (by decide) ?_
            exact r_iret dX11_see_84 rfl rfl (rfl)
          · refine r_aload 68 dX11_see_66 rfl rfl ?_
            refine r_getIV (slC E b 1 s) 71 dX11_see_68 rfl f11_163 rfl (by first | with_reducible assumption | with_reducible exact cr_bs hC | rfl) (by first | with_reducible assumption | with_reducible exact cr_bn hC | exact Nat.le_of_ble_eq_true rfl) (wk) ?_
            refine r_iconst (3) 72 dX11_see_71 rfl (by decide) ?_
            refine r_icmp_ne 75 85 dX11_see_72 rfl (by decide) (fun h72 => ?_) (fun h72 => ?_)
            · first | exact absurd rfl h58 | exact absurd rfl h63 | exact absurd h (fun z => z.elim (fun y => y (by have h53 := h53; exact Classical.byContradiction (fun y => h53 (nI_le (a := 8) (by omega) (by omega))))) (fun z => z.elim (fun y => y ⟨h24, Int32.not_lt.mp h31⟩) (fun z => z.elim (fun y => y (Or.inl h8)) h72))) | exact absurd h (fun z => z.elim (fun y => y (by have h53 := h53; exact Classical.byContradiction (fun y => h53 (nI_le (a := 8) (by omega) (by omega))))) (fun z => z.elim (fun y => y ⟨h24, Int32.not_lt.mp h31⟩) (fun z => z.elim (fun y => y (Or.inr h13)) h72)))
            · refine r_aload_n 76 dX11_see_75 rfl rfl ?_
              refine r_getR 79 dX11_see_76 rfl f11_47 rfl (by first | with_reducible assumption | with_reducible exact cr_bs hC | rfl) (by first | with_reducible assumption | with_reducible exact cr_bn hC | exact Nat.le_of_ble_eq_true rfl) (cr_1414_0 hC) ?_
              refine r_iconst (2) 80 dX11_see_79 rfl (by decide) ?_
              refine r_callV (M := mX11_see) (pc := 80) 83 dX11_see_80 rfl k11_98 hre rfl rfl (by first | with_reducible assumption | with_reducible exact cr_bs hC | rfl) (by decide) rfl (by first | with_reducible assumption | with_reducible exact cr_bn hC | exact Nat.le_of_ble_eq_true rfl) (Nat.le_of_ble_eq_true rfl) ?_
              refine r_iconst (-1) 84 dX11_see_83 rfl (by decide) ?_
              exact r_iret dX11_see_84 rfl rfl (rfl)
    · refine r_iload_n 28 dX11_see_27 rfl rfl ?_
      refine r_sipush (600) 31 dX11_see_28 rfl (by decide) ?_
      refine r_icmp_gt 34 38 dX11_see_31 rfl (by decide) (fun h31 => ?_) (fun h31 => ?_)
      · refine r_iconst (0) 39 dX11_see_38 rfl (by decide) ?_
        refine r_istore 41 dX11_see_39 rfl (by decide) rfl ?_
        refine r_aload_n 42 dX11_see_41 rfl rfl ?_
        refine r_getR 45 dX11_see_42 rfl f11_47 rfl (by first | with_reducible assumption | with_reducible exact cr_bs hC | rfl) (by first | with_reducible assumption | with_reducible exact cr_bn hC | exact Nat.le_of_ble_eq_true rfl) (cr_1414_0 hC) ?_
        refine r_getR 48 dX11_see_45 rfl f11_146 rfl (by first | with_reducible assumption | with_reducible exact cr_bs hC | rfl) (by first | with_reducible assumption | with_reducible exact cr_bn hC | exact Nat.le_of_ble_eq_true rfl) (cr_1154_45 hC) ?_
        refine r_getIV (nI k) 51 dX11_see_48 rfl f11_141 rfl (by first | with_reducible assumption | with_reducible exact cr_bs hC | rfl) (by first | with_reducible assumption | with_reducible exact cr_bn hC | exact Nat.le_of_ble_eq_true rfl) (hsz) ?_
        refine r_bipush (8) 53 dX11_see_51 rfl (by decide) ?_
        refine r_icmp_ge 56 75 dX11_see_53 rfl (by decide) (fun h53 => ?_) (fun h53 => ?_)
        · refine r_aload_n 76 dX11_see_75 rfl rfl ?_
          refine r_getR 79 dX11_see_76 rfl f11_47 rfl (by first | with_reducible assumption | with_reducible exact cr_bs hC | rfl) (by first | with_reducible assumption | with_reducible exact cr_bn hC | exact Nat.le_of_ble_eq_true rfl) (cr_1414_0 hC) ?_
          refine r_iconst (2) 80 dX11_see_79 rfl (by decide) ?_
          refine r_callV (M := mX11_see) (pc := 80) 83 dX11_see_80 rfl k11_98 hre rfl rfl (by first | with_reducible assumption | with_reducible exact cr_bs hC | rfl) (by decide) rfl (by first | with_reducible assumption | with_reducible exact cr_bn hC | exact Nat.le_of_ble_eq_true rfl) (Nat.le_of_ble_eq_true rfl) ?_
          refine r_iconst (-1) 84 dX11_see_83 rfl (by decide) ?_
          exact r_iret dX11_see_84 rfl rfl (rfl)
        · refine r_iload 58 dX11_see_56 rfl rfl ?_
          refine r_if_eq 61 75 dX11_see_58 rfl (by decide) (fun h58 => ?_) (fun h58 => ?_)
          · refine r_aload_n 76 dX11_see_75 rfl rfl ?_
            refine r_getR 79 dX11_see_76 rfl f11_47 rfl (by first | with_reducible assumption | with_reducible exact cr_bs hC | rfl) (by first | with_reducible assumption | with_reducible exact cr_bn hC | exact Nat.le_of_ble_eq_true rfl) (cr_1414_0 hC) ?_
            refine r_iconst (2) 80 dX11_see_79 rfl (by decide) ?_
            refine r_callV (M := mX11_see) (pc := 80) 83 dX11_see_80 rfl k11_98 hre rfl rfl (by first | with_reducible assumption | with_reducible exact cr_bs hC | rfl) (by decide) rfl (by first | with_reducible assumption | with_reducible exact cr_bn hC | exact Nat.le_of_ble_eq_true rfl) (Nat.le_of_ble_eq_true rfl) ?_
            refine r_iconst (-1) 84 dX11_see_83 rfl (by decide) ?_
            exact r_iret dX11_see_84 rfl rfl (rfl)
          · refine r_iload 63 dX11_see_61 rfl rfl ?_
            refine r_if_eq 66 75 dX11_see_63 rfl (by decide) (fun h63 => ?_) (fun h63 => ?_)
            · refine r_aload_n 76 dX11_see_75 rfl rfl ?_
              refine r_getR 79 dX11_see_76 rfl f11_47 rfl (by first | with_reducible assumption | with_reducible exact cr_bs hC | rfl) (by first | with_reducible assumption | with_reducible exact cr_bn hC | exact Nat.le_of_ble_eq_true rfl) (cr_1414_0 hC) ?_
              refine r_iconst (2) 80 dX11_see_79 rfl (by decide) ?_
              refine r_callV (M := mX11_see) (pc := 80) 83 dX11_see_80 rfl k11_98 hre rfl rfl (by first | with_reducible assumption | with_reducible exact cr_bs hC | rfl) (by decide) rfl (by first | with_reducible assumption | with_reducible exact cr_bn hC | exact Nat.le_of_ble_eq_true rfl) (Nat.le_of_ble_eq_true rfl) ?_
              refine r_iconst (-1) 84 dX11_see_83 rfl (by decide) ?_
              exact r_iret dX11_see_84 rfl rfl (rfl)
            · refine r_aload 68 dX11_see_66 rfl rfl ?_
              refine r_getIV (slC E b 1 s) 71 dX11_see_68 rfl f11_163 rfl (by first | with_reducible assumption | with_reducible exact cr_bs hC | rfl) (by first | with_reducible assumption | with_reducible exact cr_bn hC | exact Nat.le_of_ble_eq_true rfl) (wk) ?_
              refine r_iconst (3) 72 dX11_see_71 rfl (by decide) ?_
              refine r_icmp_ne 75 85 dX11_see_72 rfl (by decide) (fun h72 => ?_) (fun h72 => ?_)
              · first | exact absurd rfl h58 | exact absurd rfl h63 | exact absurd h (fun z => z.elim (fun y => y (by have h53 := h53; exact Classical.byContradiction (fun y => h53 (nI_le (a := 8) (by omega) (by omega))))) (fun z => z.elim (fun y => y ⟨h24, Int32.not_lt.mp h31⟩) (fun z => z.elim (fun y => y (Or.inl h8)) h72))) | exact absurd h (fun z => z.elim (fun y => y (by have h53 := h53; exact Classical.byContradiction (fun y => h53 (nI_le (a := 8) (by omega) (by omega))))) (fun z => z.elim (fun y => y ⟨h24, Int32.not_lt.mp h31⟩) (fun z => z.elim (fun y => y (Or.inr h13)) h72)))
              · refine r_aload_n 76 dX11_see_75 rfl rfl ?_
                refine r_getR 79 dX11_see_76 rfl f11_47 rfl (by first | with_reducible assumption | with_reducible exact cr_bs hC | rfl) (by first | with_reducible assumption | with_reducible exact cr_bn hC | exact Nat.le_of_ble_eq_true rfl) (cr_1414_0 hC) ?_
                refine r_iconst (2) 80 dX11_see_79 rfl (by decide) ?_
                refine r_callV (M := mX11_see) (pc := 80) 83 dX11_see_80 rfl k11_98 hre rfl rfl (by first | with_reducible assumption | with_reducible exact cr_bs hC | rfl) (by decide) rfl (by first | with_reducible assumption | with_reducible exact cr_bn hC | exact Nat.le_of_ble_eq_true rfl) (Nat.le_of_ble_eq_true rfl) ?_
                refine r_iconst (-1) 84 dX11_see_83 rfl (by decide) ?_
                exact r_iret dX11_see_84 rfl rfl (rfl)
      · refine r_iconst (1) 35 dX11_see_34 rfl (by decide) ?_
        refine r_goto 39 dX11_see_35 (by decide) ?_
        refine r_istore 41 dX11_see_39 rfl (by decide) rfl ?_
        refine r_aload_n 42 dX11_see_41 rfl rfl ?_
        refine r_getR 45 dX11_see_42 rfl f11_47 rfl (by first | with_reducible assumption | with_reducible exact cr_bs hC | rfl) (by first | with_reducible assumption | with_reducible exact cr_bn hC | exact Nat.le_of_ble_eq_true rfl) (cr_1414_0 hC) ?_
        refine r_getR 48 dX11_see_45 rfl f11_146 rfl (by first | with_reducible assumption | with_reducible exact cr_bs hC | rfl) (by first | with_reducible assumption | with_reducible exact cr_bn hC | exact Nat.le_of_ble_eq_true rfl) (cr_1154_45 hC) ?_
        refine r_getIV (nI k) 51 dX11_see_48 rfl f11_141 rfl (by first | with_reducible assumption | with_reducible exact cr_bs hC | rfl) (by first | with_reducible assumption | with_reducible exact cr_bn hC | exact Nat.le_of_ble_eq_true rfl) (hsz) ?_
        refine r_bipush (8) 53 dX11_see_51 rfl (by decide) ?_
        refine r_icmp_ge 56 75 dX11_see_53 rfl (by decide) (fun h53 => ?_) (fun h53 => ?_)
        · refine r_aload_n 76 dX11_see_75 rfl rfl ?_
          refine r_getR 79 dX11_see_76 rfl f11_47 rfl (by first | with_reducible assumption | with_reducible exact cr_bs hC | rfl) (by first | with_reducible assumption | with_reducible exact cr_bn hC | exact Nat.le_of_ble_eq_true rfl) (cr_1414_0 hC) ?_
          refine r_iconst (2) 80 dX11_see_79 rfl (by decide) ?_
          refine r_callV (M := mX11_see) (pc := 80) 83 dX11_see_80 rfl k11_98 hre rfl rfl (by first | with_reducible assumption | with_reducible exact cr_bs hC | rfl) (by decide) rfl (by first | with_reducible assumption | with_reducible exact cr_bn hC | exact Nat.le_of_ble_eq_true rfl) (Nat.le_of_ble_eq_true rfl) ?_
          refine r_iconst (-1) 84 dX11_see_83 rfl (by decide) ?_
          exact r_iret dX11_see_84 rfl rfl (rfl)
        · refine r_iload 58 dX11_see_56 rfl rfl ?_
          refine r_if_eq 61 75 dX11_see_58 rfl (by decide) (fun h58 => ?_) (fun h58 => ?_)
          · refine r_aload_n 76 dX11_see_75 rfl rfl ?_
            refine r_getR 79 dX11_see_76 rfl f11_47 rfl (by first | with_reducible assumption | with_reducible exact cr_bs hC | rfl) (by first | with_reducible assumption | with_reducible exact cr_bn hC | exact Nat.le_of_ble_eq_true rfl) (cr_1414_0 hC) ?_
            refine r_iconst (2) 80 dX11_see_79 rfl (by decide) ?_
            refine r_callV (M := mX11_see) (pc := 80) 83 dX11_see_80 rfl k11_98 hre rfl rfl (by first | with_reducible assumption | with_reducible exact cr_bs hC | rfl) (by decide) rfl (by first | with_reducible assumption | with_reducible exact cr_bn hC | exact Nat.le_of_ble_eq_true rfl) (Nat.le_of_ble_eq_true rfl) ?_
            refine r_iconst (-1) 84 dX11_see_83 rfl (by decide) ?_
            exact r_iret dX11_see_84 rfl rfl (rfl)
          · refine r_iload 63 dX11_see_61 rfl rfl ?_
            refine r_if_eq 66 75 dX11_see_63 rfl (by decide) (fun h63 => ?_) (fun h63 => ?_)
            · refine r_aload_n 76 dX11_see_75 rfl rfl ?_
              refine r_getR 79 dX11_see_76 rfl f11_47 rfl (by first | with_reducible assumption | with_reducible exact cr_bs hC | rfl) (by first | with_reducible assumption | with_reducible exact cr_bn hC | exact Nat.le_of_ble_eq_true rfl) (cr_1414_0 hC) ?_
              refine r_iconst (2) 80 dX11_see_79 rfl (by decide) ?_
              refine r_callV (M := mX11_see) (pc := 80) 83 dX11_see_80 rfl k11_98 hre rfl rfl (by first | with_reducible assumption | with_reducible exact cr_bs hC | rfl) (by decide) rfl (by first | with_reducible assumption | with_reducible exact cr_bn hC | exact Nat.le_of_ble_eq_true rfl) (Nat.le_of_ble_eq_true rfl) ?_
              refine r_iconst (-1) 84 dX11_see_83 rfl (by decide) ?_
              exact r_iret dX11_see_84 rfl rfl (rfl)
            · refine r_aload 68 dX11_see_66 rfl rfl ?_
              refine r_getIV (slC E b 1 s) 71 dX11_see_68 rfl f11_163 rfl (by first | with_reducible assumption | with_reducible exact cr_bs hC | rfl) (by first | with_reducible assumption | with_reducible exact cr_bn hC | exact Nat.le_of_ble_eq_true rfl) (wk) ?_
              refine r_iconst (3) 72 dX11_see_71 rfl (by decide) ?_
              refine r_icmp_ne 75 85 dX11_see_72 rfl (by decide) (fun h72 => ?_) (fun h72 => ?_)
              · first | exact absurd rfl h58 | exact absurd rfl h63 | exact absurd h (fun z => z.elim (fun y => y (by have h53 := h53; exact Classical.byContradiction (fun y => h53 (nI_le (a := 8) (by omega) (by omega))))) (fun z => z.elim (fun y => y ⟨h24, Int32.not_lt.mp h31⟩) (fun z => z.elim (fun y => y (Or.inl h8)) h72))) | exact absurd h (fun z => z.elim (fun y => y (by have h53 := h53; exact Classical.byContradiction (fun y => h53 (nI_le (a := 8) (by omega) (by omega))))) (fun z => z.elim (fun y => y ⟨h24, Int32.not_lt.mp h31⟩) (fun z => z.elim (fun y => y (Or.inr h13)) h72)))
              · refine r_aload_n 76 dX11_see_75 rfl rfl ?_
                refine r_getR 79 dX11_see_76 rfl f11_47 rfl (by first | with_reducible assumption | with_reducible exact cr_bs hC | rfl) (by first | with_reducible assumption | with_reducible exact cr_bn hC | exact Nat.le_of_ble_eq_true rfl) (cr_1414_0 hC) ?_
                refine r_iconst (2) 80 dX11_see_79 rfl (by decide) ?_
                refine r_callV (M := mX11_see) (pc := 80) 83 dX11_see_80 rfl k11_98 hre rfl rfl (by first | with_reducible assumption | with_reducible exact cr_bs hC | rfl) (by decide) rfl (by first | with_reducible assumption | with_reducible exact cr_bn hC | exact Nat.le_of_ble_eq_true rfl) (Nat.le_of_ble_eq_true rfl) ?_
                refine r_iconst (-1) 84 dX11_see_83 rfl (by decide) ?_
                exact r_iret dX11_see_84 rfl rfl (rfl)
  · refine r_iload_n 12 dX11_see_11 rfl rfl ?_
    refine r_iconst (1) 13 dX11_see_12 rfl (by decide) ?_
    refine r_icmp_ne 16 20 dX11_see_13 rfl (by decide) (fun h13 => ?_) (fun h13 => ?_)
    · refine r_iconst (0) 21 dX11_see_20 rfl (by decide) ?_
      refine r_istore 23 dX11_see_21 rfl (by decide) rfl ?_
      refine r_iload_n 24 dX11_see_23 rfl rfl ?_
      refine r_if_lt 27 38 dX11_see_24 rfl (by decide) (fun h24 => ?_) (fun h24 => ?_)
      · refine r_iconst (0) 39 dX11_see_38 rfl (by decide) ?_
        refine r_istore 41 dX11_see_39 rfl (by decide) rfl ?_
        refine r_aload_n 42 dX11_see_41 rfl rfl ?_
        refine r_getR 45 dX11_see_42 rfl f11_47 rfl (by first | with_reducible assumption | with_reducible exact cr_bs hC | rfl) (by first | with_reducible assumption | with_reducible exact cr_bn hC | exact Nat.le_of_ble_eq_true rfl) (cr_1414_0 hC) ?_
        refine r_getR 48 dX11_see_45 rfl f11_146 rfl (by first | with_reducible assumption | with_reducible exact cr_bs hC | rfl) (by first | with_reducible assumption | with_reducible exact cr_bn hC | exact Nat.le_of_ble_eq_true rfl) (cr_1154_45 hC) ?_
        refine r_getIV (nI k) 51 dX11_see_48 rfl f11_141 rfl (by first | with_reducible assumption | with_reducible exact cr_bs hC | rfl) (by first | with_reducible assumption | with_reducible exact cr_bn hC | exact Nat.le_of_ble_eq_true rfl) (hsz) ?_
        refine r_bipush (8) 53 dX11_see_51 rfl (by decide) ?_
        refine r_icmp_ge 56 75 dX11_see_53 rfl (by decide) (fun h53 => ?_) (fun h53 => ?_)
        · refine r_aload_n 76 dX11_see_75 rfl rfl ?_
          refine r_getR 79 dX11_see_76 rfl f11_47 rfl (by first | with_reducible assumption | with_reducible exact cr_bs hC | rfl) (by first | with_reducible assumption | with_reducible exact cr_bn hC | exact Nat.le_of_ble_eq_true rfl) (cr_1414_0 hC) ?_
          refine r_iconst (2) 80 dX11_see_79 rfl (by decide) ?_
          refine r_callV (M := mX11_see) (pc := 80) 83 dX11_see_80 rfl k11_98 hre rfl rfl (by first | with_reducible assumption | with_reducible exact cr_bs hC | rfl) (by decide) rfl (by first | with_reducible assumption | with_reducible exact cr_bn hC | exact Nat.le_of_ble_eq_true rfl) (Nat.le_of_ble_eq_true rfl) ?_
          refine r_iconst (-1) 84 dX11_see_83 rfl (by decide) ?_
          exact r_iret dX11_see_84 rfl rfl (rfl)
        · refine r_iload 58 dX11_see_56 rfl rfl ?_
          refine r_if_eq 61 75 dX11_see_58 rfl (by decide) (fun h58 => ?_) (fun h58 => ?_)
          · refine r_aload_n 76 dX11_see_75 rfl rfl ?_
            refine r_getR 79 dX11_see_76 rfl f11_47 rfl (by first | with_reducible assumption | with_reducible exact cr_bs hC | rfl) (by first | with_reducible assumption | with_reducible exact cr_bn hC | exact Nat.le_of_ble_eq_true rfl) (cr_1414_0 hC) ?_
            refine r_iconst (2) 80 dX11_see_79 rfl (by decide) ?_
            refine r_callV (M := mX11_see) (pc := 80) 83 dX11_see_80 rfl k11_98 hre rfl rfl (by first | with_reducible assumption | with_reducible exact cr_bs hC | rfl) (by decide) rfl (by first | with_reducible assumption | with_reducible exact cr_bn hC | exact Nat.le_of_ble_eq_true rfl) (Nat.le_of_ble_eq_true rfl) ?_
            refine r_iconst (-1) 84 dX11_see_83 rfl (by decide) ?_
            exact r_iret dX11_see_84 rfl rfl (rfl)
          · refine r_iload 63 dX11_see_61 rfl rfl ?_
            refine r_if_eq 66 75 dX11_see_63 rfl (by decide) (fun h63 => ?_) (fun h63 => ?_)
            · refine r_aload_n 76 dX11_see_75 rfl rfl ?_
              refine r_getR 79 dX11_see_76 rfl f11_47 rfl (by first | with_reducible assumption | with_reducible exact cr_bs hC | rfl) (by first | with_reducible assumption | with_reducible exact cr_bn hC | exact Nat.le_of_ble_eq_true rfl) (cr_1414_0 hC) ?_
              refine r_iconst (2) 80 dX11_see_79 rfl (by decide) ?_
              refine r_callV (M := mX11_see) (pc := 80) 83 dX11_see_80 rfl k11_98 hre rfl rfl (by first | with_reducible assumption | with_reducible exact cr_bs hC | rfl) (by decide) rfl (by first | with_reducible assumption | with_reducible exact cr_bn hC | exact Nat.le_of_ble_eq_true rfl) (Nat.le_of_ble_eq_true rfl) ?_
              refine r_iconst (-1) 84 dX11_see_83 rfl (by decide) ?_
              exact r_iret dX11_see_84 rfl rfl (rfl)
            · refine r_aload 68 dX11_see_66 rfl rfl ?_
              refine r_getIV (slC E b 1 s) 71 dX11_see_68 rfl f11_163 rfl (by first | with_reducible assumption | with_reducible exact cr_bs hC | rfl) (by first | with_reducible assumption | with_reducible exact cr_bn hC | exact Nat.le_of_ble_eq_true rfl) (wk) ?_
              refine r_iconst (3) 72 dX11_see_71 rfl (by decide) ?_
              refine r_icmp_ne 75 85 dX11_see_72 rfl (by decide) (fun h72 => ?_) (fun h72 => ?_)
              · first | exact absurd rfl h58 | exact absurd rfl h63 | exact absurd h (fun z => z.elim (fun y => y (by have h53 := h53; exact Classical.byContradiction (fun y => h53 (nI_le (a := 8) (by omega) (by omega))))) (fun z => z.elim (fun y => y ⟨h24, Int32.not_lt.mp h31⟩) (fun z => z.elim (fun y => y (Or.inl h8)) h72))) | exact absurd h (fun z => z.elim (fun y => y (by have h53 := h53; exact Classical.byContradiction (fun y => h53 (nI_le (a := 8) (by omega) (by omega))))) (fun z => z.elim (fun y => y ⟨h24, Int32.not_lt.mp h31⟩) (fun z => z.elim (fun y => y (Or.inr h13)) h72)))
              · refine r_aload_n 76 dX11_see_75 rfl rfl ?_
                refine r_getR 79 dX11_see_76 rfl f11_47 rfl (by first | with_reducible assumption | with_reducible exact cr_bs hC | rfl) (by first | with_reducible assumption | with_reducible exact cr_bn hC | exact Nat.le_of_ble_eq_true rfl) (cr_1414_0 hC) ?_
                refine r_iconst (2) 80 dX11_see_79 rfl (by decide) ?_
                refine r_callV (M := mX11_see) (pc := 80) 83 dX11_see_80 rfl k11_98 hre rfl rfl (by first | with_reducible assumption | with_reducible exact cr_bs hC | rfl) (by decide) rfl (by first | with_reducible assumption | with_reducible exact cr_bn hC | exact Nat.le_of_ble_eq_true rfl) (Nat.le_of_ble_eq_true rfl) ?_
                refine r_iconst (-1) 84 dX11_see_83 rfl (by decide) ?_
                exact r_iret dX11_see_84 rfl rfl (rfl)
      · refine r_iload_n 28 dX11_see_27 rfl rfl ?_
        refine r_sipush (600) 31 dX11_see_28 rfl (by decide) ?_
        refine r_icmp_gt 34 38 dX11_see_31 rfl (by decide) (fun h31 => ?_) (fun h31 => ?_)
        · refine r_iconst (0) 39 dX11_see_38 rfl (by decide) ?_
          refine r_istore 41 dX11_see_39 rfl (by decide) rfl ?_
          refine r_aload_n 42 dX11_see_41 rfl rfl ?_
          refine r_getR 45 dX11_see_42 rfl f11_47 rfl (by first | with_reducible assumption | with_reducible exact cr_bs hC | rfl) (by first | with_reducible assumption | with_reducible exact cr_bn hC | exact Nat.le_of_ble_eq_true rfl) (cr_1414_0 hC) ?_
          refine r_getR 48 dX11_see_45 rfl f11_146 rfl (by first | with_reducible assumption | with_reducible exact cr_bs hC | rfl) (by first | with_reducible assumption | with_reducible exact cr_bn hC | exact Nat.le_of_ble_eq_true rfl) (cr_1154_45 hC) ?_
          refine r_getIV (nI k) 51 dX11_see_48 rfl f11_141 rfl (by first | with_reducible assumption | with_reducible exact cr_bs hC | rfl) (by first | with_reducible assumption | with_reducible exact cr_bn hC | exact Nat.le_of_ble_eq_true rfl) (hsz) ?_
          refine r_bipush (8) 53 dX11_see_51 rfl (by decide) ?_
          refine r_icmp_ge 56 75 dX11_see_53 rfl (by decide) (fun h53 => ?_) (fun h53 => ?_)
          · refine r_aload_n 76 dX11_see_75 rfl rfl ?_
            refine r_getR 79 dX11_see_76 rfl f11_47 rfl (by first | with_reducible assumption | with_reducible exact cr_bs hC | rfl) (by first | with_reducible assumption | with_reducible exact cr_bn hC | exact Nat.le_of_ble_eq_true rfl) (cr_1414_0 hC) ?_
            refine r_iconst (2) 80 dX11_see_79 rfl (by decide) ?_
            refine r_callV (M := mX11_see) (pc := 80) 83 dX11_see_80 rfl k11_98 hre rfl rfl (by first | with_reducible assumption | with_reducible exact cr_bs hC | rfl) (by decide) rfl (by first | with_reducible assumption | with_reducible exact cr_bn hC | exact Nat.le_of_ble_eq_true rfl) (Nat.le_of_ble_eq_true rfl) ?_
            refine r_iconst (-1) 84 dX11_see_83 rfl (by decide) ?_
            exact r_iret dX11_see_84 rfl rfl (rfl)
          · refine r_iload 58 dX11_see_56 rfl rfl ?_
            refine r_if_eq 61 75 dX11_see_58 rfl (by decide) (fun h58 => ?_) (fun h58 => ?_)
            · refine r_aload_n 76 dX11_see_75 rfl rfl ?_
              refine r_getR 79 dX11_see_76 rfl f11_47 rfl (by first | with_reducible assumption | with_reducible exact cr_bs hC | rfl) (by first | with_reducible assumption | with_reducible exact cr_bn hC | exact Nat.le_of_ble_eq_true rfl) (cr_1414_0 hC) ?_
              refine r_iconst (2) 80 dX11_see_79 rfl (by decide) ?_
              refine r_callV (M := mX11_see) (pc := 80) 83 dX11_see_80 rfl k11_98 hre rfl rfl (by first | with_reducible assumption | with_reducible exact cr_bs hC | rfl) (by decide) rfl (by first | with_reducible assumption | with_reducible exact cr_bn hC | exact Nat.le_of_ble_eq_true rfl) (Nat.le_of_ble_eq_true rfl) ?_
              refine r_iconst (-1) 84 dX11_see_83 rfl (by decide) ?_
              exact r_iret dX11_see_84 rfl rfl (rfl)
            · refine r_iload 63 dX11_see_61 rfl rfl ?_
              refine r_if_eq 66 75 dX11_see_63 rfl (by decide) (fun h63 => ?_) (fun h63 => ?_)
              · refine r_aload_n 76 dX11_see_75 rfl rfl ?_
                refine r_getR 79 dX11_see_76 rfl f11_47 rfl (by first | with_reducible assumption | with_reducible exact cr_bs hC | rfl) (by first | with_reducible assumption | with_reducible exact cr_bn hC | exact Nat.le_of_ble_eq_true rfl) (cr_1414_0 hC) ?_
                refine r_iconst (2) 80 dX11_see_79 rfl (by decide) ?_
                refine r_callV (M := mX11_see) (pc := 80) 83 dX11_see_80 rfl k11_98 hre rfl rfl (by first | with_reducible assumption | with_reducible exact cr_bs hC | rfl) (by decide) rfl (by first | with_reducible assumption | with_reducible exact cr_bn hC | exact Nat.le_of_ble_eq_true rfl) (Nat.le_of_ble_eq_true rfl) ?_
                refine r_iconst (-1) 84 dX11_see_83 rfl (by decide) ?_
                exact r_iret dX11_see_84 rfl rfl (rfl)
              · refine r_aload 68 dX11_see_66 rfl rfl ?_
                refine r_getIV (slC E b 1 s) 71 dX11_see_68 rfl f11_163 rfl (by first | with_reducible assumption | with_reducible exact cr_bs hC | rfl) (by first | with_reducible assumption | with_reducible exact cr_bn hC | exact Nat.le_of_ble_eq_true rfl) (wk) ?_
                refine r_iconst (3) 72 dX11_see_71 rfl (by decide) ?_
                refine r_icmp_ne 75 85 dX11_see_72 rfl (by decide) (fun h72 => ?_) (fun h72 => ?_)
                · first | exact absurd rfl h58 | exact absurd rfl h63 | exact absurd h (fun z => z.elim (fun y => y (by have h53 := h53; exact Classical.byContradiction (fun y => h53 (nI_le (a := 8) (by omega) (by omega))))) (fun z => z.elim (fun y => y ⟨h24, Int32.not_lt.mp h31⟩) (fun z => z.elim (fun y => y (Or.inl h8)) h72))) | exact absurd h (fun z => z.elim (fun y => y (by have h53 := h53; exact Classical.byContradiction (fun y => h53 (nI_le (a := 8) (by omega) (by omega))))) (fun z => z.elim (fun y => y ⟨h24, Int32.not_lt.mp h31⟩) (fun z => z.elim (fun y => y (Or.inr h13)) h72)))
                · refine r_aload_n 76 dX11_see_75 rfl rfl ?_
                  refine r_getR 79 dX11_see_76 rfl f11_47 rfl (by first | with_reducible assumption | with_reducible exact cr_bs hC | rfl) (by first | with_reducible assumption | with_reducible exact cr_bn hC | exact Nat.le_of_ble_eq_true rfl) (cr_1414_0 hC) ?_
                  refine r_iconst (2) 80 dX11_see_79 rfl (by decide) ?_
                  refine r_callV (M := mX11_see) (pc := 80) 83 dX11_see_80 rfl k11_98 hre rfl rfl (by first | with_reducible assumption | with_reducible exact cr_bs hC | rfl) (by decide) rfl (by first | with_reducible assumption | with_reducible exact cr_bn hC | exact Nat.le_of_ble_eq_true rfl) (Nat.le_of_ble_eq_true rfl) ?_
                  refine r_iconst (-1) 84 dX11_see_83 rfl (by decide) ?_
                  exact r_iret dX11_see_84 rfl rfl (rfl)
        · refine r_iconst (1) 35 dX11_see_34 rfl (by decide) ?_
          refine r_goto 39 dX11_see_35 (by decide) ?_
          refine r_istore 41 dX11_see_39 rfl (by decide) rfl ?_
          refine r_aload_n 42 dX11_see_41 rfl rfl ?_
          refine r_getR 45 dX11_see_42 rfl f11_47 rfl (by first | with_reducible assumption | with_reducible exact cr_bs hC | rfl) (by first | with_reducible assumption | with_reducible exact cr_bn hC | exact Nat.le_of_ble_eq_true rfl) (cr_1414_0 hC) ?_
          refine r_getR 48 dX11_see_45 rfl f11_146 rfl (by first | with_reducible assumption | with_reducible exact cr_bs hC | rfl) (by first | with_reducible assumption | with_reducible exact cr_bn hC | exact Nat.le_of_ble_eq_true rfl) (cr_1154_45 hC) ?_
          refine r_getIV (nI k) 51 dX11_see_48 rfl f11_141 rfl (by first | with_reducible assumption | with_reducible exact cr_bs hC | rfl) (by first | with_reducible assumption | with_reducible exact cr_bn hC | exact Nat.le_of_ble_eq_true rfl) (hsz) ?_
          refine r_bipush (8) 53 dX11_see_51 rfl (by decide) ?_
          refine r_icmp_ge 56 75 dX11_see_53 rfl (by decide) (fun h53 => ?_) (fun h53 => ?_)
          · refine r_aload_n 76 dX11_see_75 rfl rfl ?_
            refine r_getR 79 dX11_see_76 rfl f11_47 rfl (by first | with_reducible assumption | with_reducible exact cr_bs hC | rfl) (by first | with_reducible assumption | with_reducible exact cr_bn hC | exact Nat.le_of_ble_eq_true rfl) (cr_1414_0 hC) ?_
            refine r_iconst (2) 80 dX11_see_79 rfl (by decide) ?_
            refine r_callV (M := mX11_see) (pc := 80) 83 dX11_see_80 rfl k11_98 hre rfl rfl (by first | with_reducible assumption | with_reducible exact cr_bs hC | rfl) (by decide) rfl (by first | with_reducible assumption | with_reducible exact cr_bn hC | exact Nat.le_of_ble_eq_true rfl) (Nat.le_of_ble_eq_true rfl) ?_
            refine r_iconst (-1) 84 dX11_see_83 rfl (by decide) ?_
            exact r_iret dX11_see_84 rfl rfl (rfl)
          · refine r_iload 58 dX11_see_56 rfl rfl ?_
            refine r_if_eq 61 75 dX11_see_58 rfl (by decide) (fun h58 => ?_) (fun h58 => ?_)
            · refine r_aload_n 76 dX11_see_75 rfl rfl ?_
              refine r_getR 79 dX11_see_76 rfl f11_47 rfl (by first | with_reducible assumption | with_reducible exact cr_bs hC | rfl) (by first | with_reducible assumption | with_reducible exact cr_bn hC | exact Nat.le_of_ble_eq_true rfl) (cr_1414_0 hC) ?_
              refine r_iconst (2) 80 dX11_see_79 rfl (by decide) ?_
              refine r_callV (M := mX11_see) (pc := 80) 83 dX11_see_80 rfl k11_98 hre rfl rfl (by first | with_reducible assumption | with_reducible exact cr_bs hC | rfl) (by decide) rfl (by first | with_reducible assumption | with_reducible exact cr_bn hC | exact Nat.le_of_ble_eq_true rfl) (Nat.le_of_ble_eq_true rfl) ?_
              refine r_iconst (-1) 84 dX11_see_83 rfl (by decide) ?_
              exact r_iret dX11_see_84 rfl rfl (rfl)
            · refine r_iload 63 dX11_see_61 rfl rfl ?_
              refine r_if_eq 66 75 dX11_see_63 rfl (by decide) (fun h63 => ?_) (fun h63 => ?_)
              · refine r_aload_n 76 dX11_see_75 rfl rfl ?_
                refine r_getR 79 dX11_see_76 rfl f11_47 rfl (by first | with_reducible assumption | with_reducible exact cr_bs hC | rfl) (by first | with_reducible assumption | with_reducible exact cr_bn hC | exact Nat.le_of_ble_eq_true rfl) (cr_1414_0 hC) ?_
                refine r_iconst (2) 80 dX11_see_79 rfl (by decide) ?_
                refine r_callV (M := mX11_see) (pc := 80) 83 dX11_see_80 rfl k11_98 hre rfl rfl (by first | with_reducible assumption | with_reducible exact cr_bs hC | rfl) (by decide) rfl (by first | with_reducible assumption | with_reducible exact cr_bn hC | exact Nat.le_of_ble_eq_true rfl) (Nat.le_of_ble_eq_true rfl) ?_
                refine r_iconst (-1) 84 dX11_see_83 rfl (by decide) ?_
                exact r_iret dX11_see_84 rfl rfl (rfl)
              · refine r_aload 68 dX11_see_66 rfl rfl ?_
                refine r_getIV (slC E b 1 s) 71 dX11_see_68 rfl f11_163 rfl (by first | with_reducible assumption | with_reducible exact cr_bs hC | rfl) (by first | with_reducible assumption | with_reducible exact cr_bn hC | exact Nat.le_of_ble_eq_true rfl) (wk) ?_
                refine r_iconst (3) 72 dX11_see_71 rfl (by decide) ?_
                refine r_icmp_ne 75 85 dX11_see_72 rfl (by decide) (fun h72 => ?_) (fun h72 => ?_)
                · first | exact absurd rfl h58 | exact absurd rfl h63 | exact absurd h (fun z => z.elim (fun y => y (by have h53 := h53; exact Classical.byContradiction (fun y => h53 (nI_le (a := 8) (by omega) (by omega))))) (fun z => z.elim (fun y => y ⟨h24, Int32.not_lt.mp h31⟩) (fun z => z.elim (fun y => y (Or.inl h8)) h72))) | exact absurd h (fun z => z.elim (fun y => y (by have h53 := h53; exact Classical.byContradiction (fun y => h53 (nI_le (a := 8) (by omega) (by omega))))) (fun z => z.elim (fun y => y ⟨h24, Int32.not_lt.mp h31⟩) (fun z => z.elim (fun y => y (Or.inr h13)) h72)))
                · refine r_aload_n 76 dX11_see_75 rfl rfl ?_
                  refine r_getR 79 dX11_see_76 rfl f11_47 rfl (by first | with_reducible assumption | with_reducible exact cr_bs hC | rfl) (by first | with_reducible assumption | with_reducible exact cr_bn hC | exact Nat.le_of_ble_eq_true rfl) (cr_1414_0 hC) ?_
                  refine r_iconst (2) 80 dX11_see_79 rfl (by decide) ?_
                  refine r_callV (M := mX11_see) (pc := 80) 83 dX11_see_80 rfl k11_98 hre rfl rfl (by first | with_reducible assumption | with_reducible exact cr_bs hC | rfl) (by decide) rfl (by first | with_reducible assumption | with_reducible exact cr_bn hC | exact Nat.le_of_ble_eq_true rfl) (Nat.le_of_ble_eq_true rfl) ?_
                  refine r_iconst (-1) 84 dX11_see_83 rfl (by decide) ?_
                  exact r_iret dX11_see_84 rfl rfl (rfl)
    · refine r_iconst (1) 17 dX11_see_16 rfl (by decide) ?_
      refine r_goto 21 dX11_see_17 (by decide) ?_
      refine r_istore 23 dX11_see_21 rfl (by decide) rfl ?_
      refine r_iload_n 24 dX11_see_23 rfl rfl ?_
      refine r_if_lt 27 38 dX11_see_24 rfl (by decide) (fun h24 => ?_) (fun h24 => ?_)
      · refine r_iconst (0) 39 dX11_see_38 rfl (by decide) ?_
        refine r_istore 41 dX11_see_39 rfl (by decide) rfl ?_
        refine r_aload_n 42 dX11_see_41 rfl rfl ?_
        refine r_getR 45 dX11_see_42 rfl f11_47 rfl (by first | with_reducible assumption | with_reducible exact cr_bs hC | rfl) (by first | with_reducible assumption | with_reducible exact cr_bn hC | exact Nat.le_of_ble_eq_true rfl) (cr_1414_0 hC) ?_
        refine r_getR 48 dX11_see_45 rfl f11_146 rfl (by first | with_reducible assumption | with_reducible exact cr_bs hC | rfl) (by first | with_reducible assumption | with_reducible exact cr_bn hC | exact Nat.le_of_ble_eq_true rfl) (cr_1154_45 hC) ?_
        refine r_getIV (nI k) 51 dX11_see_48 rfl f11_141 rfl (by first | with_reducible assumption | with_reducible exact cr_bs hC | rfl) (by first | with_reducible assumption | with_reducible exact cr_bn hC | exact Nat.le_of_ble_eq_true rfl) (hsz) ?_
        refine r_bipush (8) 53 dX11_see_51 rfl (by decide) ?_
        refine r_icmp_ge 56 75 dX11_see_53 rfl (by decide) (fun h53 => ?_) (fun h53 => ?_)
        · refine r_aload_n 76 dX11_see_75 rfl rfl ?_
          refine r_getR 79 dX11_see_76 rfl f11_47 rfl (by first | with_reducible assumption | with_reducible exact cr_bs hC | rfl) (by first | with_reducible assumption | with_reducible exact cr_bn hC | exact Nat.le_of_ble_eq_true rfl) (cr_1414_0 hC) ?_
          refine r_iconst (2) 80 dX11_see_79 rfl (by decide) ?_
          refine r_callV (M := mX11_see) (pc := 80) 83 dX11_see_80 rfl k11_98 hre rfl rfl (by first | with_reducible assumption | with_reducible exact cr_bs hC | rfl) (by decide) rfl (by first | with_reducible assumption | with_reducible exact cr_bn hC | exact Nat.le_of_ble_eq_true rfl) (Nat.le_of_ble_eq_true rfl) ?_
          refine r_iconst (-1) 84 dX11_see_83 rfl (by decide) ?_
          exact r_iret dX11_see_84 rfl rfl (rfl)
        · refine r_iload 58 dX11_see_56 rfl rfl ?_
          refine r_if_eq 61 75 dX11_see_58 rfl (by decide) (fun h58 => ?_) (fun h58 => ?_)
          · refine r_aload_n 76 dX11_see_75 rfl rfl ?_
            refine r_getR 79 dX11_see_76 rfl f11_47 rfl (by first | with_reducible assumption | with_reducible exact cr_bs hC | rfl) (by first | with_reducible assumption | with_reducible exact cr_bn hC | exact Nat.le_of_ble_eq_true rfl) (cr_1414_0 hC) ?_
            refine r_iconst (2) 80 dX11_see_79 rfl (by decide) ?_
            refine r_callV (M := mX11_see) (pc := 80) 83 dX11_see_80 rfl k11_98 hre rfl rfl (by first | with_reducible assumption | with_reducible exact cr_bs hC | rfl) (by decide) rfl (by first | with_reducible assumption | with_reducible exact cr_bn hC | exact Nat.le_of_ble_eq_true rfl) (Nat.le_of_ble_eq_true rfl) ?_
            refine r_iconst (-1) 84 dX11_see_83 rfl (by decide) ?_
            exact r_iret dX11_see_84 rfl rfl (rfl)
          · refine r_iload 63 dX11_see_61 rfl rfl ?_
            refine r_if_eq 66 75 dX11_see_63 rfl (by decide) (fun h63 => ?_) (fun h63 => ?_)
            · refine r_aload_n 76 dX11_see_75 rfl rfl ?_
              refine r_getR 79 dX11_see_76 rfl f11_47 rfl (by first | with_reducible assumption | with_reducible exact cr_bs hC | rfl) (by first | with_reducible assumption | with_reducible exact cr_bn hC | exact Nat.le_of_ble_eq_true rfl) (cr_1414_0 hC) ?_
              refine r_iconst (2) 80 dX11_see_79 rfl (by decide) ?_
              refine r_callV (M := mX11_see) (pc := 80) 83 dX11_see_80 rfl k11_98 hre rfl rfl (by first | with_reducible assumption | with_reducible exact cr_bs hC | rfl) (by decide) rfl (by first | with_reducible assumption | with_reducible exact cr_bn hC | exact Nat.le_of_ble_eq_true rfl) (Nat.le_of_ble_eq_true rfl) ?_
              refine r_iconst (-1) 84 dX11_see_83 rfl (by decide) ?_
              exact r_iret dX11_see_84 rfl rfl (rfl)
            · refine r_aload 68 dX11_see_66 rfl rfl ?_
              refine r_getIV (slC E b 1 s) 71 dX11_see_68 rfl f11_163 rfl (by first | with_reducible assumption | with_reducible exact cr_bs hC | rfl) (by first | with_reducible assumption | with_reducible exact cr_bn hC | exact Nat.le_of_ble_eq_true rfl) (wk) ?_
              refine r_iconst (3) 72 dX11_see_71 rfl (by decide) ?_
              refine r_icmp_ne 75 85 dX11_see_72 rfl (by decide) (fun h72 => ?_) (fun h72 => ?_)
              · first | exact absurd rfl h58 | exact absurd rfl h63 | exact absurd h (fun z => z.elim (fun y => y (by have h53 := h53; exact Classical.byContradiction (fun y => h53 (nI_le (a := 8) (by omega) (by omega))))) (fun z => z.elim (fun y => y ⟨h24, Int32.not_lt.mp h31⟩) (fun z => z.elim (fun y => y (Or.inl h8)) h72))) | exact absurd h (fun z => z.elim (fun y => y (by have h53 := h53; exact Classical.byContradiction (fun y => h53 (nI_le (a := 8) (by omega) (by omega))))) (fun z => z.elim (fun y => y ⟨h24, Int32.not_lt.mp h31⟩) (fun z => z.elim (fun y => y (Or.inr h13)) h72)))
              · refine r_aload_n 76 dX11_see_75 rfl rfl ?_
                refine r_getR 79 dX11_see_76 rfl f11_47 rfl (by first | with_reducible assumption | with_reducible exact cr_bs hC | rfl) (by first | with_reducible assumption | with_reducible exact cr_bn hC | exact Nat.le_of_ble_eq_true rfl) (cr_1414_0 hC) ?_
                refine r_iconst (2) 80 dX11_see_79 rfl (by decide) ?_
                refine r_callV (M := mX11_see) (pc := 80) 83 dX11_see_80 rfl k11_98 hre rfl rfl (by first | with_reducible assumption | with_reducible exact cr_bs hC | rfl) (by decide) rfl (by first | with_reducible assumption | with_reducible exact cr_bn hC | exact Nat.le_of_ble_eq_true rfl) (Nat.le_of_ble_eq_true rfl) ?_
                refine r_iconst (-1) 84 dX11_see_83 rfl (by decide) ?_
                exact r_iret dX11_see_84 rfl rfl (rfl)
      · refine r_iload_n 28 dX11_see_27 rfl rfl ?_
        refine r_sipush (600) 31 dX11_see_28 rfl (by decide) ?_
        refine r_icmp_gt 34 38 dX11_see_31 rfl (by decide) (fun h31 => ?_) (fun h31 => ?_)
        · refine r_iconst (0) 39 dX11_see_38 rfl (by decide) ?_
          refine r_istore 41 dX11_see_39 rfl (by decide) rfl ?_
          refine r_aload_n 42 dX11_see_41 rfl rfl ?_
          refine r_getR 45 dX11_see_42 rfl f11_47 rfl (by first | with_reducible assumption | with_reducible exact cr_bs hC | rfl) (by first | with_reducible assumption | with_reducible exact cr_bn hC | exact Nat.le_of_ble_eq_true rfl) (cr_1414_0 hC) ?_
          refine r_getR 48 dX11_see_45 rfl f11_146 rfl (by first | with_reducible assumption | with_reducible exact cr_bs hC | rfl) (by first | with_reducible assumption | with_reducible exact cr_bn hC | exact Nat.le_of_ble_eq_true rfl) (cr_1154_45 hC) ?_
          refine r_getIV (nI k) 51 dX11_see_48 rfl f11_141 rfl (by first | with_reducible assumption | with_reducible exact cr_bs hC | rfl) (by first | with_reducible assumption | with_reducible exact cr_bn hC | exact Nat.le_of_ble_eq_true rfl) (hsz) ?_
          refine r_bipush (8) 53 dX11_see_51 rfl (by decide) ?_
          refine r_icmp_ge 56 75 dX11_see_53 rfl (by decide) (fun h53 => ?_) (fun h53 => ?_)
          · refine r_aload_n 76 dX11_see_75 rfl rfl ?_
            refine r_getR 79 dX11_see_76 rfl f11_47 rfl (by first | with_reducible assumption | with_reducible exact cr_bs hC | rfl) (by first | with_reducible assumption | with_reducible exact cr_bn hC | exact Nat.le_of_ble_eq_true rfl) (cr_1414_0 hC) ?_
            refine r_iconst (2) 80 dX11_see_79 rfl (by decide) ?_
            refine r_callV (M := mX11_see) (pc := 80) 83 dX11_see_80 rfl k11_98 hre rfl rfl (by first | with_reducible assumption | with_reducible exact cr_bs hC | rfl) (by decide) rfl (by first | with_reducible assumption | with_reducible exact cr_bn hC | exact Nat.le_of_ble_eq_true rfl) (Nat.le_of_ble_eq_true rfl) ?_
            refine r_iconst (-1) 84 dX11_see_83 rfl (by decide) ?_
            exact r_iret dX11_see_84 rfl rfl (rfl)
          · refine r_iload 58 dX11_see_56 rfl rfl ?_
            refine r_if_eq 61 75 dX11_see_58 rfl (by decide) (fun h58 => ?_) (fun h58 => ?_)
            · refine r_aload_n 76 dX11_see_75 rfl rfl ?_
              refine r_getR 79 dX11_see_76 rfl f11_47 rfl (by first | with_reducible assumption | with_reducible exact cr_bs hC | rfl) (by first | with_reducible assumption | with_reducible exact cr_bn hC | exact Nat.le_of_ble_eq_true rfl) (cr_1414_0 hC) ?_
              refine r_iconst (2) 80 dX11_see_79 rfl (by decide) ?_
              refine r_callV (M := mX11_see) (pc := 80) 83 dX11_see_80 rfl k11_98 hre rfl rfl (by first | with_reducible assumption | with_reducible exact cr_bs hC | rfl) (by decide) rfl (by first | with_reducible assumption | with_reducible exact cr_bn hC | exact Nat.le_of_ble_eq_true rfl) (Nat.le_of_ble_eq_true rfl) ?_
              refine r_iconst (-1) 84 dX11_see_83 rfl (by decide) ?_
              exact r_iret dX11_see_84 rfl rfl (rfl)
            · refine r_iload 63 dX11_see_61 rfl rfl ?_
              refine r_if_eq 66 75 dX11_see_63 rfl (by decide) (fun h63 => ?_) (fun h63 => ?_)
              · refine r_aload_n 76 dX11_see_75 rfl rfl ?_
                refine r_getR 79 dX11_see_76 rfl f11_47 rfl (by first | with_reducible assumption | with_reducible exact cr_bs hC | rfl) (by first | with_reducible assumption | with_reducible exact cr_bn hC | exact Nat.le_of_ble_eq_true rfl) (cr_1414_0 hC) ?_
                refine r_iconst (2) 80 dX11_see_79 rfl (by decide) ?_
                refine r_callV (M := mX11_see) (pc := 80) 83 dX11_see_80 rfl k11_98 hre rfl rfl (by first | with_reducible assumption | with_reducible exact cr_bs hC | rfl) (by decide) rfl (by first | with_reducible assumption | with_reducible exact cr_bn hC | exact Nat.le_of_ble_eq_true rfl) (Nat.le_of_ble_eq_true rfl) ?_
                refine r_iconst (-1) 84 dX11_see_83 rfl (by decide) ?_
                exact r_iret dX11_see_84 rfl rfl (rfl)
              · refine r_aload 68 dX11_see_66 rfl rfl ?_
                refine r_getIV (slC E b 1 s) 71 dX11_see_68 rfl f11_163 rfl (by first | with_reducible assumption | with_reducible exact cr_bs hC | rfl) (by first | with_reducible assumption | with_reducible exact cr_bn hC | exact Nat.le_of_ble_eq_true rfl) (wk) ?_
                refine r_iconst (3) 72 dX11_see_71 rfl (by decide) ?_
                refine r_icmp_ne 75 85 dX11_see_72 rfl (by decide) (fun h72 => ?_) (fun h72 => ?_)
                · first | exact absurd rfl h58 | exact absurd rfl h63 | exact absurd h (fun z => z.elim (fun y => y (by have h53 := h53; exact Classical.byContradiction (fun y => h53 (nI_le (a := 8) (by omega) (by omega))))) (fun z => z.elim (fun y => y ⟨h24, Int32.not_lt.mp h31⟩) (fun z => z.elim (fun y => y (Or.inl h8)) h72))) | exact absurd h (fun z => z.elim (fun y => y (by have h53 := h53; exact Classical.byContradiction (fun y => h53 (nI_le (a := 8) (by omega) (by omega))))) (fun z => z.elim (fun y => y ⟨h24, Int32.not_lt.mp h31⟩) (fun z => z.elim (fun y => y (Or.inr h13)) h72)))
                · refine r_aload_n 76 dX11_see_75 rfl rfl ?_
                  refine r_getR 79 dX11_see_76 rfl f11_47 rfl (by first | with_reducible assumption | with_reducible exact cr_bs hC | rfl) (by first | with_reducible assumption | with_reducible exact cr_bn hC | exact Nat.le_of_ble_eq_true rfl) (cr_1414_0 hC) ?_
                  refine r_iconst (2) 80 dX11_see_79 rfl (by decide) ?_
                  refine r_callV (M := mX11_see) (pc := 80) 83 dX11_see_80 rfl k11_98 hre rfl rfl (by first | with_reducible assumption | with_reducible exact cr_bs hC | rfl) (by decide) rfl (by first | with_reducible assumption | with_reducible exact cr_bn hC | exact Nat.le_of_ble_eq_true rfl) (Nat.le_of_ble_eq_true rfl) ?_
                  refine r_iconst (-1) 84 dX11_see_83 rfl (by decide) ?_
                  exact r_iret dX11_see_84 rfl rfl (rfl)
        · refine r_iconst (1) 35 dX11_see_34 rfl (by decide) ?_
          refine r_goto 39 dX11_see_35 (by decide) ?_
          refine r_istore 41 dX11_see_39 rfl (by decide) rfl ?_
          refine r_aload_n 42 dX11_see_41 rfl rfl ?_
          refine r_getR 45 dX11_see_42 rfl f11_47 rfl (by first | with_reducible assumption | with_reducible exact cr_bs hC | rfl) (by first | with_reducible assumption | with_reducible exact cr_bn hC | exact Nat.le_of_ble_eq_true rfl) (cr_1414_0 hC) ?_
          refine r_getR 48 dX11_see_45 rfl f11_146 rfl (by first | with_reducible assumption | with_reducible exact cr_bs hC | rfl) (by first | with_reducible assumption | with_reducible exact cr_bn hC | exact Nat.le_of_ble_eq_true rfl) (cr_1154_45 hC) ?_
          refine r_getIV (nI k) 51 dX11_see_48 rfl f11_141 rfl (by first | with_reducible assumption | with_reducible exact cr_bs hC | rfl) (by first | with_reducible assumption | with_reducible exact cr_bn hC | exact Nat.le_of_ble_eq_true rfl) (hsz) ?_
          refine r_bipush (8) 53 dX11_see_51 rfl (by decide) ?_
          refine r_icmp_ge 56 75 dX11_see_53 rfl (by decide) (fun h53 => ?_) (fun h53 => ?_)
          · refine r_aload_n 76 dX11_see_75 rfl rfl ?_
            refine r_getR 79 dX11_see_76 rfl f11_47 rfl (by first | with_reducible assumption | with_reducible exact cr_bs hC | rfl) (by first | with_reducible assumption | with_reducible exact cr_bn hC | exact Nat.le_of_ble_eq_true rfl) (cr_1414_0 hC) ?_
            refine r_iconst (2) 80 dX11_see_79 rfl (by decide) ?_
            refine r_callV (M := mX11_see) (pc := 80) 83 dX11_see_80 rfl k11_98 hre rfl rfl (by first | with_reducible assumption | with_reducible exact cr_bs hC | rfl) (by decide) rfl (by first | with_reducible assumption | with_reducible exact cr_bn hC | exact Nat.le_of_ble_eq_true rfl) (Nat.le_of_ble_eq_true rfl) ?_
            refine r_iconst (-1) 84 dX11_see_83 rfl (by decide) ?_
            exact r_iret dX11_see_84 rfl rfl (rfl)
          · refine r_iload 58 dX11_see_56 rfl rfl ?_
            refine r_if_eq 61 75 dX11_see_58 rfl (by decide) (fun h58 => ?_) (fun h58 => ?_)
            · refine r_aload_n 76 dX11_see_75 rfl rfl ?_
              refine r_getR 79 dX11_see_76 rfl f11_47 rfl (by first | with_reducible assumption | with_reducible exact cr_bs hC | rfl) (by first | with_reducible assumption | with_reducible exact cr_bn hC | exact Nat.le_of_ble_eq_true rfl) (cr_1414_0 hC) ?_
              refine r_iconst (2) 80 dX11_see_79 rfl (by decide) ?_
              refine r_callV (M := mX11_see) (pc := 80) 83 dX11_see_80 rfl k11_98 hre rfl rfl (by first | with_reducible assumption | with_reducible exact cr_bs hC | rfl) (by decide) rfl (by first | with_reducible assumption | with_reducible exact cr_bn hC | exact Nat.le_of_ble_eq_true rfl) (Nat.le_of_ble_eq_true rfl) ?_
              refine r_iconst (-1) 84 dX11_see_83 rfl (by decide) ?_
              exact r_iret dX11_see_84 rfl rfl (rfl)
            · refine r_iload 63 dX11_see_61 rfl rfl ?_
              refine r_if_eq 66 75 dX11_see_63 rfl (by decide) (fun h63 => ?_) (fun h63 => ?_)
              · refine r_aload_n 76 dX11_see_75 rfl rfl ?_
                refine r_getR 79 dX11_see_76 rfl f11_47 rfl (by first | with_reducible assumption | with_reducible exact cr_bs hC | rfl) (by first | with_reducible assumption | with_reducible exact cr_bn hC | exact Nat.le_of_ble_eq_true rfl) (cr_1414_0 hC) ?_
                refine r_iconst (2) 80 dX11_see_79 rfl (by decide) ?_
                refine r_callV (M := mX11_see) (pc := 80) 83 dX11_see_80 rfl k11_98 hre rfl rfl (by first | with_reducible assumption | with_reducible exact cr_bs hC | rfl) (by decide) rfl (by first | with_reducible assumption | with_reducible exact cr_bn hC | exact Nat.le_of_ble_eq_true rfl) (Nat.le_of_ble_eq_true rfl) ?_
                refine r_iconst (-1) 84 dX11_see_83 rfl (by decide) ?_
                exact r_iret dX11_see_84 rfl rfl (rfl)
              · refine r_aload 68 dX11_see_66 rfl rfl ?_
                refine r_getIV (slC E b 1 s) 71 dX11_see_68 rfl f11_163 rfl (by first | with_reducible assumption | with_reducible exact cr_bs hC | rfl) (by first | with_reducible assumption | with_reducible exact cr_bn hC | exact Nat.le_of_ble_eq_true rfl) (wk) ?_
                refine r_iconst (3) 72 dX11_see_71 rfl (by decide) ?_
                refine r_icmp_ne 75 85 dX11_see_72 rfl (by decide) (fun h72 => ?_) (fun h72 => ?_)
                · first | exact absurd rfl h58 | exact absurd rfl h63 | exact absurd h (fun z => z.elim (fun y => y (by have h53 := h53; exact Classical.byContradiction (fun y => h53 (nI_le (a := 8) (by omega) (by omega))))) (fun z => z.elim (fun y => y ⟨h24, Int32.not_lt.mp h31⟩) (fun z => z.elim (fun y => y (Or.inl h8)) h72))) | exact absurd h (fun z => z.elim (fun y => y (by have h53 := h53; exact Classical.byContradiction (fun y => h53 (nI_le (a := 8) (by omega) (by omega))))) (fun z => z.elim (fun y => y ⟨h24, Int32.not_lt.mp h31⟩) (fun z => z.elim (fun y => y (Or.inr h13)) h72)))
                · refine r_aload_n 76 dX11_see_75 rfl rfl ?_
                  refine r_getR 79 dX11_see_76 rfl f11_47 rfl (by first | with_reducible assumption | with_reducible exact cr_bs hC | rfl) (by first | with_reducible assumption | with_reducible exact cr_bn hC | exact Nat.le_of_ble_eq_true rfl) (cr_1414_0 hC) ?_
                  refine r_iconst (2) 80 dX11_see_79 rfl (by decide) ?_
                  refine r_callV (M := mX11_see) (pc := 80) 83 dX11_see_80 rfl k11_98 hre rfl rfl (by first | with_reducible assumption | with_reducible exact cr_bs hC | rfl) (by decide) rfl (by first | with_reducible assumption | with_reducible exact cr_bn hC | exact Nat.le_of_ble_eq_true rfl) (Nat.le_of_ble_eq_true rfl) ?_
                  refine r_iconst (-1) 84 dX11_see_83 rfl (by decide) ?_
                  exact r_iret dX11_see_84 rfl rfl (rfl)
set_option maxRecDepth 20000 in
theorem c_X11_forget0 {d b L m : Nat} {R : List Int32} {E : HP} (hci : CI E b L m R) (h0 : gI E 386 54 = 0) : Cl yX11_forget mX11_forget (d + 8) 0 0 [.ref 0] E 137 (.inl (some (.int (-1))), E, 137) := by
  have hC := hci.1
  have cL := hci.2.1
  have l7 : L ≤ 7 := hci.2.2.2.1.2.1
  refine Cl.of (by decide) rfl (fun q => by cases q) rfl rfl (Nat.le_of_ble_eq_true rfl) ?_
  show Sm _ _ _ _ _ 0 [some (.ref 0)] [] _ _
  refine r_aload_n 1 dX11_forget_0 rfl rfl ?_
  refine r_getR 4 dX11_forget_1 rfl f11_47 rfl (by first | with_reducible assumption | with_reducible exact cr_bs hC | rfl) (by first | with_reducible assumption | with_reducible exact cr_bn hC | exact Nat.le_of_ble_eq_true rfl) (cr_1414_0 hC) ?_
  refine r_getR 7 dX11_forget_4 rfl f11_146 rfl (by first | with_reducible assumption | with_reducible exact cr_bs hC | rfl) (by first | with_reducible assumption | with_reducible exact cr_bn hC | exact Nat.le_of_ble_eq_true rfl) (cr_1154_45 hC) ?_
  refine r_getIV (0) 10 dX11_forget_7 rfl f11_141 rfl (by first | with_reducible assumption | with_reducible exact cr_bs hC | rfl) (by first | with_reducible assumption | with_reducible exact cr_bn hC | exact Nat.le_of_ble_eq_true rfl) (h0) ?_
  refine r_if_ne 13 15 dX11_forget_10 rfl (by decide) (fun h10 => absurd h10 (fun z => z rfl)) (fun h10 => ?_)
  refine r_iconst (-1) 14 dX11_forget_13 rfl (by decide) ?_
  exact r_iret dX11_forget_14 rfl rfl (rfl)
set_option maxRecDepth 20000 in
theorem c_X11_forget {d b L m : Nat} {R : List Int32} {E : HP} (hci : CI E b L m R) (h0 : ¬ gI E 386 54 = 0) : Cl yX11_forget mX11_forget (d + 8) 0 0 [.ref 0] E 137 (.inl (some (.int (gI (piLast E 54) 386 54))), piLast E 54, 137) := by
  have hC := hci.1
  have cL := hci.2.1
  have l7 : L ≤ 7 := hci.2.2.2.1.2.1
  have hC2 : CR (piLast E 54) b := cr_sr (sr_last sr_rfl) hC
  have hdl := c_X3_dropLatest (d := d + 7) (n := 137) (h := 54) (E := E) rfl (by decide)
  refine Cl.of (by decide) rfl (fun q => by cases q) rfl rfl (Nat.le_of_ble_eq_true rfl) ?_
  show Sm _ _ _ _ _ 0 [some (.ref 0)] [] _ _
  refine r_aload_n 1 dX11_forget_0 rfl rfl ?_
  refine r_getR 4 dX11_forget_1 rfl f11_47 rfl (by first | with_reducible assumption | with_reducible exact cr_bs hC | rfl) (by first | with_reducible assumption | with_reducible exact cr_bn hC | exact Nat.le_of_ble_eq_true rfl) (cr_1414_0 hC) ?_
  refine r_getR 7 dX11_forget_4 rfl f11_146 rfl (by first | with_reducible assumption | with_reducible exact cr_bs hC | rfl) (by first | with_reducible assumption | with_reducible exact cr_bn hC | exact Nat.le_of_ble_eq_true rfl) (cr_1154_45 hC) ?_
  refine r_getI 10 dX11_forget_7 rfl f11_141 rfl (by first | with_reducible assumption | with_reducible exact cr_bs hC | rfl) (by first | with_reducible assumption | with_reducible exact cr_bn hC | exact Nat.le_of_ble_eq_true rfl) ?_
  refine r_if_ne 13 15 dX11_forget_10 rfl (by decide) (fun h10 => ?_) (fun h10 => absurd h10 h0)
  refine r_aload_n 16 dX11_forget_15 rfl rfl ?_
  refine r_getR 19 dX11_forget_16 rfl f11_47 rfl (by first | with_reducible assumption | with_reducible exact cr_bs hC | rfl) (by first | with_reducible assumption | with_reducible exact cr_bn hC | exact Nat.le_of_ble_eq_true rfl) (cr_1414_0 hC) ?_
  refine r_getR 22 dX11_forget_19 rfl f11_146 rfl (by first | with_reducible assumption | with_reducible exact cr_bs hC | rfl) (by first | with_reducible assumption | with_reducible exact cr_bn hC | exact Nat.le_of_ble_eq_true rfl) (cr_1154_45 hC) ?_
  refine r_callV (M := mX11_forget) (pc := 22) 25 dX11_forget_22 rfl k11_326 hdl rfl rfl (by first | with_reducible assumption | with_reducible exact cr_bs hC | rfl) (by decide) rfl (by first | with_reducible assumption | with_reducible exact cr_bn hC | exact Nat.le_of_ble_eq_true rfl) (Nat.le_of_ble_eq_true rfl) ?_
  refine r_aload_n 26 dX11_forget_25 rfl rfl ?_
  refine r_getR 29 dX11_forget_26 rfl f11_47 rfl (by first | with_reducible assumption | with_reducible exact cr_bs hC | rfl) (by first | with_reducible assumption | with_reducible exact cr_bn hC | exact Nat.le_of_ble_eq_true rfl) (cr_1414_0 hC2) ?_
  refine r_getR 32 dX11_forget_29 rfl f11_146 rfl (by first | with_reducible assumption | with_reducible exact cr_bs hC | rfl) (by first | with_reducible assumption | with_reducible exact cr_bn hC | exact Nat.le_of_ble_eq_true rfl) (cr_1154_45 hC2) ?_
  refine r_getI 35 dX11_forget_32 rfl f11_141 rfl (by first | with_reducible assumption | with_reducible exact cr_bs hC | rfl) (by first | with_reducible assumption | with_reducible exact cr_bn hC | exact Nat.le_of_ble_eq_true rfl) ?_
  exact r_iret dX11_forget_35 rfl rfl (rfl)
set_option maxRecDepth 20000 in
theorem c_X11_image {d b L m : Nat} {R : List Int32} {E : HP} (hci : CI E b L m R) : Cl yX11_image mX11_image (d + 8) 0 0 [.ref 0] E 137 (.inl none, sI (stCopy 59 45 E) 1416 0 1, 137) := by
  obtain ⟨hC, cL, c51, cok, csu, crl, c87, ⟨m1, m6, cmi⟩, cfr⟩ := id hci
  have hco := c_X9_copy (d := d + 4) (cr_state59 hC) (cr_state45 hC) cfr
  refine Cl.of (by decide) rfl (fun q => by cases q) rfl rfl (Nat.le_of_ble_eq_true rfl) ?_
  show Sm _ _ _ _ _ 0 [some (.ref 0)] [] _ _
  refine r_aload_n 1 dX11_image_0 rfl rfl ?_
  refine r_getR 4 dX11_image_1 rfl f11_51 rfl (by first | with_reducible assumption | with_reducible exact cr_bs hC | rfl) (by first | with_reducible assumption | with_reducible exact cr_bn hC | exact Nat.le_of_ble_eq_true rfl) (cr_1415_0 hC) ?_
  refine r_aload_n 5 dX11_image_4 rfl rfl ?_
  refine r_getR 8 dX11_image_5 rfl f11_47 rfl (by first | with_reducible assumption | with_reducible exact cr_bs hC | rfl) (by first | with_reducible assumption | with_reducible exact cr_bn hC | exact Nat.le_of_ble_eq_true rfl) (cr_1414_0 hC) ?_
  refine r_callV (M := mX11_image) (pc := 8) 11 dX11_image_8 rfl k11_353 hco rfl rfl (by first | with_reducible assumption | with_reducible exact cr_bs hC | rfl) (by decide) rfl (by first | with_reducible assumption | with_reducible exact cr_bn hC | exact Nat.le_of_ble_eq_true rfl) (Nat.le_of_ble_eq_true rfl) ?_
  refine r_aload_n 12 dX11_image_11 rfl rfl ?_
  refine r_iconst (1) 13 dX11_image_12 rfl (by decide) ?_
  refine r_putZ 16 dX11_image_13 rfl f11_54 (by first | with_reducible assumption | with_reducible exact cr_bs hC | rfl) (by first | with_reducible assumption | with_reducible exact cr_bn hC | exact Nat.le_of_ble_eq_true rfl) (by decide) ?_
  exact r_vret dX11_image_16 rfl rfl (rfl)
set_option maxRecDepth 20000 in
theorem c_X11_restore0 {d b L m : Nat} {R : List Int32} {E : HP} (hci : CI E b L m R) (h0 : gI E 1416 0 = 0) : Cl yX11_restore mX11_restore (d + 8) 0 0 [.ref 0] E 137 (.inl (some (.int (0))), E, 137) := by
  have hC := hci.1
  have cL := hci.2.1
  have l7 : L ≤ 7 := hci.2.2.2.1.2.1
  refine Cl.of (by decide) rfl (fun q => by cases q) rfl rfl (Nat.le_of_ble_eq_true rfl) ?_
  show Sm _ _ _ _ _ 0 [some (.ref 0)] [] _ _
  refine r_aload_n 1 dX11_restore_0 rfl rfl ?_
  refine r_getIV (0) 4 dX11_restore_1 rfl f11_54 rfl (by first | with_reducible assumption | with_reducible exact cr_bs hC | rfl) (by first | with_reducible assumption | with_reducible exact cr_bn hC | exact Nat.le_of_ble_eq_true rfl) (h0) ?_
  refine r_if_ne 7 9 dX11_restore_4 rfl (by decide) (fun h4 => absurd h4 (fun z => z rfl)) (fun h4 => ?_)
  refine r_iconst (0) 8 dX11_restore_7 rfl (by decide) ?_
  exact r_zret dX11_restore_8 rfl rfl (by decide) (rfl)
set_option maxRecDepth 20000 in
theorem c_X11_restore {d b L m : Nat} {R : List Int32} {E : HP} (hci : CI E b L m R) (h0 : ¬ gI E 1416 0 = 0) (h6 : gI E 519 60 = 0 ∨ gI E 519 60 = 1) : Cl yX11_restore mX11_restore (d + 8) 0 0 [.ref 0] E 137 (.inl (some (.int (1))), stCopy 45 59 E, 137) := by
  have hC := hci.1
  have cL := hci.2.1
  have l7 : L ≤ 7 := hci.2.2.2.1.2.1
  have hco := c_X9_copy (d := d + 4) (cr_state45 hC) (cr_state59 hC) h6
  refine Cl.of (by decide) rfl (fun q => by cases q) rfl rfl (Nat.le_of_ble_eq_true rfl) ?_
  show Sm _ _ _ _ _ 0 [some (.ref 0)] [] _ _
  refine r_aload_n 1 dX11_restore_0 rfl rfl ?_
  refine r_getI 4 dX11_restore_1 rfl f11_54 rfl (by first | with_reducible assumption | with_reducible exact cr_bs hC | rfl) (by first | with_reducible assumption | with_reducible exact cr_bn hC | exact Nat.le_of_ble_eq_true rfl) ?_
  refine r_if_ne 7 9 dX11_restore_4 rfl (by decide) (fun h4 => ?_) (fun h4 => absurd h4 h0)
  refine r_aload_n 10 dX11_restore_9 rfl rfl ?_
  refine r_getR 13 dX11_restore_10 rfl f11_47 rfl (by first | with_reducible assumption | with_reducible exact cr_bs hC | rfl) (by first | with_reducible assumption | with_reducible exact cr_bn hC | exact Nat.le_of_ble_eq_true rfl) (cr_1414_0 hC) ?_
  refine r_aload_n 14 dX11_restore_13 rfl rfl ?_
  refine r_getR 17 dX11_restore_14 rfl f11_51 rfl (by first | with_reducible assumption | with_reducible exact cr_bs hC | rfl) (by first | with_reducible assumption | with_reducible exact cr_bn hC | exact Nat.le_of_ble_eq_true rfl) (cr_1415_0 hC) ?_
  refine r_callV (M := mX11_restore) (pc := 17) 20 dX11_restore_17 rfl k11_353 hco rfl rfl (by first | with_reducible assumption | with_reducible exact cr_bs hC | rfl) (by decide) rfl (by first | with_reducible assumption | with_reducible exact cr_bn hC | exact Nat.le_of_ble_eq_true rfl) (Nat.le_of_ble_eq_true rfl) ?_
  refine r_iconst (1) 21 dX11_restore_20 rfl (by decide) ?_
  exact r_zret dX11_restore_21 rfl rfl (by decide) (rfl)
def shV : Nat → Int32
  | 0 => 24
  | 1 => 16
  | 2 => 8
  | 3 => 0
  | _ => -8
theorem shV_s : ∀ k, k < 4 → shV k + (-8) = shV (k + 1) ∧ ¬ shV k < 0 := by decide
def byF (x : Int32) (k : Nat) : Int32 := usr x (shV k) &&& 255
/-- four more bytes on the tape -/
def FedN (E E2 : HP) (t : Nat) (x : Int32) (k : Nat) : Prop := Fr (fun j => j = 0 ∨ j = 2) E E2 ∧ SR E E2 ∧ (∀ g, g ≠ 1409 → gI E2 g 0 = gI E g 0) ∧ gI E2 1409 0 = nI (t + k) ∧ (∀ i, gA E2 2 i = if t ≤ i ∧ i < t + k then byF x (i - t) else gA E 2 i) ∧ gA E2 0 = gA E 0
set_option maxRecDepth 20000 in
theorem c_X11_feedNumber {d b t : Nat} {E : HP} {x : Int32} (hC : CR E b) (ht : gI E 1409 0 = nI t) (h6 : t + 4 ≤ 600) : ∃ o, (∃ E2, o = (.inl none, E2, 137) ∧ FedN E E2 t x 4) ∧ Cl yX11_feedNumber mX11_feedNumber (d + 1) 0 0 [.ref 0, .int x] E 137 o := by
  refine Cx.of (by decide) rfl (fun q => by cases q) rfl rfl (Nat.le_of_ble_eq_true rfl) ?_
  show Sx _ _ _ _ _ 0 [some (.ref 0), some (.int x), none] [] _ _
  have loop := sxUp (S := fun k9 E2 => Sx mX11_feedNumber (d + 1) 0 0 (fun o => ∃ E2, o = (.inl none, E2, 137) ∧ FedN E E2 t x 4) 3 [some (.ref 0), some (.int x), some (.int (shV k9))] [] E2 137) (Inv := fun k9 E2 => FedN E E2 t x k9) (a := 0) (l := 4) (by omega) ?_ ?_ E ⟨fr_rfl, sr_rfl, fun _ _ => rfl, ht, fun i => by rw [if_neg (by omega)], rfl⟩
  refine Sx.up (fun _ kk => r_bipush (24) 2 dX11_feedNumber_0 rfl (by decide) kk) ?_
  refine Sx.up (fun _ kk => r_istore_n 3 dX11_feedNumber_2 rfl (by decide) rfl kk) ?_
  exact loop
  · intro E2 h2
    refine Sx.up (fun _ kk => r_iload_n 4 dX11_feedNumber_3 rfl rfl kk) ?_
    refine Sx.up (fun _ kk => r_if_lt 7 41 dX11_feedNumber_4 rfl (by decide) (fun _ => kk) (fun h4 => absurd (by decide) h4)) ?_
    refine ⟨_, ?_, r_vret dX11_feedNumber_41 rfl rfl rfl⟩
    exact ⟨E2, rfl, h2⟩
  · intro k9 E2 hk0 hk9 ⟨f1, f2, f3, f4, f5, f6⟩ hq
    obtain ⟨hs1, hs2⟩ := shV_s k9 hk9
    have hC2 := cr_sr f2 hC
    have hpt := c_X6_put (d := d) (i := nI (t + k9)) (v := usr x (shV k9) &&& 255) (cr_row1 hC2)
    rw [rPut_nI (by omega) (by omega)] at hpt
    have h2t : gI (sA E2 2 (t + k9) (usr x (shV k9) &&& 255)) 1409 0 = nI (t + k9) := f4
    refine Sx.up (fun _ kk => r_iload_n 4 dX11_feedNumber_3 rfl rfl kk) ?_
    refine Sx.up (fun _ kk => r_if_lt 7 41 dX11_feedNumber_4 rfl (by decide) (fun h4 => absurd h4 hs2) (fun _ => kk)) ?_
    refine Sx.up (fun _ kk => r_aload_n 8 dX11_feedNumber_7 rfl rfl kk) ?_
    refine Sx.up (fun _ kk => r_getR 11 dX11_feedNumber_8 rfl f11_14 rfl (by first | with_reducible assumption | with_reducible exact cr_bs hC2 | rfl) (by first | with_reducible assumption | with_reducible exact cr_bn hC2 | exact Nat.le_of_ble_eq_true rfl) (cr_1408_0 hC2) kk) ?_
    refine Sx.up (fun _ kk => r_aload_n 12 dX11_feedNumber_11 rfl rfl kk) ?_
    refine Sx.up (fun _ kk => r_getIV (nI (t + k9)) 15 dX11_feedNumber_12 rfl f11_18 rfl (by first | with_reducible assumption | with_reducible exact cr_bs hC2 | rfl) (by first | with_reducible assumption | with_reducible exact cr_bn hC2 | exact Nat.le_of_ble_eq_true rfl) (f4) kk) ?_
    refine Sx.up (fun _ kk => r_iload_n 16 dX11_feedNumber_15 rfl rfl kk) ?_
    refine Sx.up (fun _ kk => r_iload_n 17 dX11_feedNumber_16 rfl rfl kk) ?_
    refine Sx.up (fun _ kk => r_iushr 18 dX11_feedNumber_17 rfl kk) ?_
    refine Sx.up (fun _ kk => r_sipush (255) 21 dX11_feedNumber_18 rfl (by decide) kk) ?_
    refine Sx.up (fun _ kk => r_iand 22 dX11_feedNumber_21 rfl kk) ?_
    refine Sx.up (fun _ kk => r_callV (M := mX11_feedNumber) (pc := 22) 25 dX11_feedNumber_22 rfl k11_86 hpt rfl rfl (by first | with_reducible assumption | with_reducible exact cr_bs hC2 | rfl) (by decide) rfl (by first | with_reducible assumption | with_reducible exact cr_bn hC2 | exact Nat.le_of_ble_eq_true rfl) (Nat.le_of_ble_eq_true rfl) kk) ?_
    refine Sx.up (fun _ kk => r_aload_n 26 dX11_feedNumber_25 rfl rfl kk) ?_
    refine Sx.up (fun _ kk => r_dup 27 dX11_feedNumber_26 rfl rfl kk) ?_
    refine Sx.up (fun _ kk => r_getIV (nI (t + k9)) 30 dX11_feedNumber_27 rfl f11_18 rfl (by first | with_reducible assumption | with_reducible exact cr_bs hC2 | rfl) (by first | with_reducible assumption | with_reducible exact cr_bn hC2 | exact Nat.le_of_ble_eq_true rfl) (h2t) kk) ?_
    refine Sx.up (fun _ kk => r_iconst (1) 31 dX11_feedNumber_30 rfl (by decide) kk) ?_
    refine Sx.up (fun _ kk => r_iadd 32 dX11_feedNumber_31 rfl kk) ?_
    refine Sx.up (fun _ kk => r_putI 35 dX11_feedNumber_32 rfl f11_18 (by first | with_reducible assumption | with_reducible exact cr_bs hC2 | rfl) (by first | with_reducible assumption | with_reducible exact cr_bn hC2 | exact Nat.le_of_ble_eq_true rfl) kk) ?_
    refine Sx.up (fun _ kk => r_iinc (-8) 38 dX11_feedNumber_35 rfl rfl (by decide) (by decide) rfl kk) ?_
    refine Sx.up (fun _ kk => r_goto 3 dX11_feedNumber_38 (by decide) kk) ?_
    rw [hs1, nI_pp]
    refine hq _ ⟨fr_sI (Or.inl rfl) (fr_sA (Or.inr rfl) f1), sr_sI (sr_sA f2), fun g hg => ?_, ?_, fun i => ?_, f6⟩
    · rw [gI_sI, if_neg (fun z => hg z.1)]; exact f3 g hg
    · rw [gI_sI, if_pos ⟨rfl, rfl⟩]; rfl
    · show gA (sA E2 2 (t + k9) (byF x k9)) 2 i = _
      rw [gA_sA]
      by_cases h9 : i = t + k9
      · rw [if_pos ⟨rfl, h9⟩, if_pos (by omega), h9, Nat.add_sub_cancel_left]
      · rw [if_neg (fun z => h9 z.2), f5 i]
        by_cases h8 : t ≤ i ∧ i < t + k9
        · rw [if_pos h8, if_pos (by omega)]
        · rw [if_neg h8, if_neg (by omega)]
def FedK (E E2 : HP) (t n : Nat) (f : Nat → Int32) : Prop := Fr (fun j => j = 0 ∨ j = 2) E E2 ∧ SR E E2 ∧ (∀ g, g ≠ 1409 → gI E2 g 0 = gI E g 0) ∧ (∀ i, gA E2 2 i = if t ≤ i ∧ i < t + n then f (i - t) else gA E 2 i) ∧ gA E2 0 = gA E 0
theorem fed_add {E E2 E3 : HP} {t : Nat} {x : Int32} {f : Nat → Int32} {n : Nat} (h : FedK E E2 t n f) (h2 : FedN E2 E3 (t + n) x 4) : FedK E E3 t (n + 4) (fun j => if j < n then f j else byF x (j - n)) := by
  obtain ⟨a1, a2, a3, a4, a5⟩ := h
  obtain ⟨b1, b2, b3, -, b4, b5⟩ := h2
  refine ⟨fr_tr a1 b1, sr_tr a2 b2, fun g hg => (b3 g hg).trans (a3 g hg), fun i => ?_, b5.trans a5⟩
  rw [b4 i, a4 i]
  by_cases h1 : t + n ≤ i ∧ i < t + n + 4
  · rw [if_pos h1, if_pos (by omega)]
    show _ = if i - t < n then _ else _
    rw [if_neg (by omega), show i - t - n = i - (t + n) by omega]
  · rw [if_neg h1]
    by_cases h2 : t ≤ i ∧ i < t + n
    · rw [if_pos h2, if_pos (by omega)]
      show _ = if i - t < n then _ else _
      rw [if_pos (by omega)]
    · rw [if_neg h2, if_neg (by omega)]
/-- the byte j of five ints -/
def by5 (a b c e f : Int32) (j : Nat) : Int32 := if j < 16 then (if j < 12 then (if j < 8 then (if j < 4 then byF a j else byF b (j - 4)) else byF c (j - 8)) else byF e (j - 12)) else byF f (j - 16)
def Fed5 (E E2 : HP) (t : Nat) (a b c e f : Int32) : Prop := Fr (fun j => j = 0 ∨ j = 2) E E2 ∧ SR E E2 ∧ (∀ g, g ≠ 1409 → gI E2 g 0 = gI E g 0) ∧ (∀ i, gA E2 2 i = if t ≤ i ∧ i < t + 20 then by5 a b c e f (i - t) else gA E 2 i) ∧ gA E2 0 = gA E 0 ∧ gI E2 1409 0 = nI (t + 20)
set_option maxRecDepth 20000 in
theorem c_X11_feed {d b L m t : Nat} {R : List Int32} {E : HP} {a b9 c e f : Int32} (hci : CI E b L m R) (ht : gI E 1409 0 = nI t) (h6 : t + 20 ≤ 600) : ∃ E2, Fed5 E E2 t a b9 c e f ∧ Cl yX11_feed mX11_feed (d + 8) 0 0 [.ref 0, .int (a), .int (b9), .int (c), .int (e), .int (f)] E 137 (.inl (some (.int (nI (t + 20)))), E2, 137) := by
  have hC := hci.1
  have cL := hci.2.1
  have l7 : L ≤ 7 := hci.2.2.2.1.2.1
  obtain ⟨_, ⟨E2, rfl, f1⟩, hf1⟩ := c_X11_feedNumber (d := d + 6) (x := a) hC ht (by omega)
  have hC2 := cr_sr f1.2.1 hC
  obtain ⟨_, ⟨E3, rfl, f2⟩, hf2⟩ := c_X11_feedNumber (d := d + 6) (x := b9) hC2 f1.2.2.2.1 (by omega)
  have hC3 := cr_sr f2.2.1 hC2
  obtain ⟨_, ⟨E4, rfl, f3⟩, hf3⟩ := c_X11_feedNumber (d := d + 6) (x := c) hC3 f2.2.2.2.1 (by omega)
  have hC4 := cr_sr f3.2.1 hC3
  obtain ⟨_, ⟨E5, rfl, f4⟩, hf4⟩ := c_X11_feedNumber (d := d + 6) (x := e) hC4 f3.2.2.2.1 (by omega)
  have hC5 := cr_sr f4.2.1 hC4
  obtain ⟨_, ⟨E6, rfl, f5⟩, hf5⟩ := c_X11_feedNumber (d := d + 6) (x := f) hC5 f4.2.2.2.1 (by omega)
  have hC6 := cr_sr f5.2.1 hC5
  have g0 : FedK E E t 0 (fun _ => 0) := ⟨fr_rfl, sr_rfl, fun _ _ => rfl, fun i => by rw [if_neg (by omega)], rfl⟩
  have g1 := fed_add (n := 0) g0 f1
  have g2 := fed_add (n := 0 + 4) g1 (by exact f2)
  have g3 := fed_add (n := 0 + 4 + 4) g2 (by exact f3)
  have g4 := fed_add (n := 0 + 4 + 4 + 4) g3 (by exact f4)
  have g5 := fed_add (n := 0 + 4 + 4 + 4 + 4) g4 (by exact f5)
  obtain ⟨q1, q2, q3, q4, q5⟩ := g5
  have hfin : gI E6 1409 0 = nI (t + 20) := f5.2.2.2.1
  refine ⟨E6, ⟨q1, q2, q3, fun i => ?_, q5, hfin⟩, ?_⟩
  · rw [q4 i]
    by_cases hh : t ≤ i ∧ i < t + 20
    · rw [if_pos hh, if_pos (by omega)]; rfl
    · rw [if_neg hh, if_neg (by omega)]
  refine Cl.of (by decide) rfl (fun q => by cases q) rfl rfl (Nat.le_of_ble_eq_true rfl) ?_
  show Sm _ _ _ _ _ 0 [some (.ref 0), some (.int (a)), some (.int (b9)), some (.int (c)), some (.int (e)), some (.int (f))] [] _ _
  refine r_aload_n 1 dX11_feed_0 rfl rfl ?_
  refine r_getIV (nI t) 4 dX11_feed_1 rfl f11_18 rfl (by first | with_reducible assumption | with_reducible exact cr_bs hC | rfl) (by first | with_reducible assumption | with_reducible exact cr_bn hC | exact Nat.le_of_ble_eq_true rfl) (ht) ?_
  refine r_bipush (20) 6 dX11_feed_4 rfl (by decide) ?_
  refine r_iadd 7 dX11_feed_6 rfl ?_
  rw [show nI t + 20 = nI (t + 20) from (Int32.ofNat_add t 20).symm]
  refine r_sipush (600) 10 dX11_feed_7 rfl (by decide) ?_
  refine r_icmp_le 13 15 dX11_feed_10 rfl (by decide) (fun h10 => ?_) (fun h10 => absurd (nI_le (b := 600) h6 (by omega)) h10)
  refine r_aload_n 16 dX11_feed_15 rfl rfl ?_
  refine r_iload_n 17 dX11_feed_16 rfl rfl ?_
  refine r_callV (M := mX11_feed) (pc := 17) 20 dX11_feed_17 rfl k11_83 hf1 rfl rfl (by first | with_reducible assumption | with_reducible exact cr_bs hC | rfl) (by decide) rfl (by first | with_reducible assumption | with_reducible exact cr_bn hC | exact Nat.le_of_ble_eq_true rfl) (Nat.le_of_ble_eq_true rfl) ?_
  refine r_aload_n 21 dX11_feed_20 rfl rfl ?_
  refine r_iload_n 22 dX11_feed_21 rfl rfl ?_
  refine r_callV (M := mX11_feed) (pc := 22) 25 dX11_feed_22 rfl k11_83 hf2 rfl rfl (by first | with_reducible assumption | with_reducible exact cr_bs hC | rfl) (by decide) rfl (by first | with_reducible assumption | with_reducible exact cr_bn hC | exact Nat.le_of_ble_eq_true rfl) (Nat.le_of_ble_eq_true rfl) ?_
  refine r_aload_n 26 dX11_feed_25 rfl rfl ?_
  refine r_iload_n 27 dX11_feed_26 rfl rfl ?_
  refine r_callV (M := mX11_feed) (pc := 27) 30 dX11_feed_27 rfl k11_83 hf3 rfl rfl (by first | with_reducible assumption | with_reducible exact cr_bs hC | rfl) (by decide) rfl (by first | with_reducible assumption | with_reducible exact cr_bn hC | exact Nat.le_of_ble_eq_true rfl) (Nat.le_of_ble_eq_true rfl) ?_
  refine r_aload_n 31 dX11_feed_30 rfl rfl ?_
  refine r_iload 33 dX11_feed_31 rfl rfl ?_
  refine r_callV (M := mX11_feed) (pc := 33) 36 dX11_feed_33 rfl k11_83 hf4 rfl rfl (by first | with_reducible assumption | with_reducible exact cr_bs hC | rfl) (by decide) rfl (by first | with_reducible assumption | with_reducible exact cr_bn hC | exact Nat.le_of_ble_eq_true rfl) (Nat.le_of_ble_eq_true rfl) ?_
  refine r_aload_n 37 dX11_feed_36 rfl rfl ?_
  refine r_iload 39 dX11_feed_37 rfl rfl ?_
  refine r_callV (M := mX11_feed) (pc := 39) 42 dX11_feed_39 rfl k11_83 hf5 rfl rfl (by first | with_reducible assumption | with_reducible exact cr_bs hC | rfl) (by decide) rfl (by first | with_reducible assumption | with_reducible exact cr_bn hC | exact Nat.le_of_ble_eq_true rfl) (Nat.le_of_ble_eq_true rfl) ?_
  refine r_aload_n 43 dX11_feed_42 rfl rfl ?_
  refine r_getIV (nI (t + 20)) 46 dX11_feed_43 rfl f11_18 rfl (by first | with_reducible assumption | with_reducible exact cr_bs hC | rfl) (by first | with_reducible assumption | with_reducible exact cr_bn hC | exact Nat.le_of_ble_eq_true rfl) (hfin) ?_
  exact r_iret dX11_feed_46 rfl rfl (rfl)
set_option maxRecDepth 20000 in
theorem c_X11_feed0 {d b L m t : Nat} {R : List Int32} {E : HP} {a b9 c e f : Int32} (hci : CI E b L m R) (ht : gI E 1409 0 = nI t) (h6 : ¬ t + 20 ≤ 600) (h7 : t ≤ 600) : Cl yX11_feed mX11_feed (d + 8) 0 0 [.ref 0, .int (a), .int (b9), .int (c), .int (e), .int (f)] E 137 (.inl (some (.int (-1))), E, 137) := by
  have hC := hci.1
  have cL := hci.2.1
  have l7 : L ≤ 7 := hci.2.2.2.1.2.1
  refine Cl.of (by decide) rfl (fun q => by cases q) rfl rfl (Nat.le_of_ble_eq_true rfl) ?_
  show Sm _ _ _ _ _ 0 [some (.ref 0), some (.int (a)), some (.int (b9)), some (.int (c)), some (.int (e)), some (.int (f))] [] _ _
  refine r_aload_n 1 dX11_feed_0 rfl rfl ?_
  refine r_getIV (nI t) 4 dX11_feed_1 rfl f11_18 rfl (by first | with_reducible assumption | with_reducible exact cr_bs hC | rfl) (by first | with_reducible assumption | with_reducible exact cr_bn hC | exact Nat.le_of_ble_eq_true rfl) (ht) ?_
  refine r_bipush (20) 6 dX11_feed_4 rfl (by decide) ?_
  refine r_iadd 7 dX11_feed_6 rfl ?_
  rw [show nI t + 20 = nI (t + 20) from (Int32.ofNat_add t 20).symm]
  refine r_sipush (600) 10 dX11_feed_7 rfl (by decide) ?_
  refine r_icmp_le 13 15 dX11_feed_10 rfl (by decide) (fun h10 => absurd h10 (nI_ge (a := 600) (by omega) (by omega))) (fun h10 => ?_)
  refine r_iconst (-1) 14 dX11_feed_13 rfl (by decide) ?_
  exact r_iret dX11_feed_14 rfl rfl (rfl)
