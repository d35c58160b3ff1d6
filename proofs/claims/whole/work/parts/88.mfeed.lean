/-! The model: image, restore, feed -/
set_option maxRecDepth 20000 in
theorem m_image {d : Nat} {E : HP} (hM : MoOK E) : ∃ E2, MF [1538, 1600, 1601, 1602] [130, 131, 132, 133, 134, 135] E E2 ∧ gI E2 1538 95 = 0 ∧ gI E2 1600 95 = 1 ∧ gI E2 1601 95 = gI E 1566 95 ∧ gI E2 1602 95 = gI E 1567 95 ∧ (∀ i, i < 18 → gA E2 130 i = pkF E i) ∧ (∀ i, i < 720 → gA E2 131 i = gA E 110 i) ∧ (∀ i, i < 8 → gA E2 132 i = gA E 127 i ∧ gA E2 133 i = gA E 128 i ∧ gA E2 134 i = gA E 129 i) ∧ (∀ i, i < 3 → gA E2 135 i = gA E 107 i) ∧ Cl yX12_image mX12_image (d + 8) 0 0 [.ref 95] E 137 (.inl none, E2, 137) := by
  have hM0 : MoOK (sI E 1538 95 0) := hM
  obtain ⟨EA, hEA⟩ : ∃ EA, EA = sI (sI (sI (sI E 1538 95 0) 1600 95 1) 1601 95 (gI E 1566 95)) 1602 95 (gI E 1567 95) := ⟨_, rfl⟩
  have fA : MF [1538, 1600, 1601, 1602] [] E EA := by rw [hEA]; exact mf_sI (by decide) (mf_sI (by decide) (mf_sI (by decide) (mf_sI (by decide) mf_rfl)))
  have hMA := mf_mo fA hM
  have qA : gI EA 1538 95 = 0 ∧ gI EA 1600 95 = 1 ∧ gI EA 1601 95 = gI E 1566 95 ∧ gI EA 1602 95 = gI E 1567 95 := by
    rw [hEA]
    simp only [gI_sI, Nat.reduceEqDiff, false_and, if_false, and_self, if_true, reduceIte]
  obtain ⟨_, ⟨EB, rfl, fB, bB⟩, hpk⟩ := c_pack (d := d + 7) (a := 130) (l9 := 18) (o9 := 0) hMA rfl (by decide) (by decide) (by decide) (by omega) (by omega)
  rw [pk_mf fA (by decide) (by decide) (by decide) (by decide) (by decide) (by decide)] at bB
  have hMB := mf_mo fB hMA
  obtain ⟨_, ⟨EC, rfl, fC, bC⟩, hbC⟩ := c_be (d := d + 7) (a := 131) (a2 := 110) (l9 := 720) (E := EB) rfl rfl (by decide) (by decide) (by decide) (by decide)
  have hMC := mf_mo fC hMB
  obtain ⟨_, ⟨ED, rfl, fD, bD⟩, hbD⟩ := c_be (d := d + 7) (a := 132) (a2 := 127) (l9 := 8) (E := EC) rfl rfl (by decide) (by decide) (by decide) (by decide)
  have hMD := mf_mo fD hMC
  obtain ⟨_, ⟨EE, rfl, fE, bE⟩, hbE⟩ := c_be (d := d + 7) (a := 133) (a2 := 128) (l9 := 8) (E := ED) rfl rfl (by decide) (by decide) (by decide) (by decide)
  have hME := mf_mo fE hMD
  obtain ⟨_, ⟨EF, rfl, fF, bF⟩, hbF⟩ := c_be (d := d + 7) (a := 134) (a2 := 129) (l9 := 8) (E := EE) rfl rfl (by decide) (by decide) (by decide) (by decide)
  have hMF := mf_mo fF hME
  obtain ⟨_, ⟨EG, rfl, fG, bG⟩, hbG⟩ := c_be (d := d + 7) (a := 135) (a2 := 107) (l9 := 3) (E := EF) rfl rfl (by decide) (by decide) (by decide) (by decide)
  have hMG := mf_mo fG hMF
  have g1 := mf_mono (gs2 := [1538, 1600, 1601, 1602]) (as2 := [130, 131, 132, 133, 134, 135]) fA (by decide) (by decide)
  have g2 := mf_tr g1 (mf_mono fB (by decide) (by decide))
  have g3 := mf_tr g2 (mf_mono fC (by decide) (by decide))
  have g4 := mf_tr g3 (mf_mono fD (by decide) (by decide))
  have g5 := mf_tr g4 (mf_mono fE (by decide) (by decide))
  have g6 := mf_tr g5 (mf_mono fF (by decide) (by decide))
  have g7 := mf_tr g6 (mf_mono fG (by decide) (by decide))
  refine ⟨EG, g7, ?_, ?_, ?_, ?_, fun i hi => ?_, fun i hi => ?_, fun i hi => ⟨?_, ?_, ?_⟩, fun i hi => ?_, ?_⟩
  · rw [mf_gI fG (by decide), mf_gI fF (by decide), mf_gI fE (by decide), mf_gI fD (by decide), mf_gI fC (by decide), mf_gI fB (by decide)]; exact qA.1
  · rw [mf_gI fG (by decide), mf_gI fF (by decide), mf_gI fE (by decide), mf_gI fD (by decide), mf_gI fC (by decide), mf_gI fB (by decide)]; exact qA.2.1
  · rw [mf_gI fG (by decide), mf_gI fF (by decide), mf_gI fE (by decide), mf_gI fD (by decide), mf_gI fC (by decide), mf_gI fB (by decide)]; exact qA.2.2.1
  · rw [mf_gI fG (by decide), mf_gI fF (by decide), mf_gI fE (by decide), mf_gI fD (by decide), mf_gI fC (by decide), mf_gI fB (by decide)]; exact qA.2.2.2
  · rw [mf_gA fG (by decide), mf_gA fF (by decide), mf_gA fE (by decide), mf_gA fD (by decide), mf_gA fC (by decide), bB i, if_pos (by omega)]; rfl
  · rw [mf_gA fG (by decide), mf_gA fF (by decide), mf_gA fE (by decide), mf_gA fD (by decide), bC _ hi, mf_gA fB (by decide), mf_gA fA (by decide)]
  · rw [mf_gA fG (by decide), mf_gA fF (by decide), mf_gA fE (by decide), bD _ hi, mf_gA fC (by decide), mf_gA fB (by decide), mf_gA fA (by decide)]
  · rw [mf_gA fG (by decide), mf_gA fF (by decide), bE _ hi, mf_gA fD (by decide), mf_gA fC (by decide), mf_gA fB (by decide), mf_gA fA (by decide)]
  · rw [mf_gA fG (by decide), bF _ hi, mf_gA fE (by decide), mf_gA fD (by decide), mf_gA fC (by decide), mf_gA fB (by decide), mf_gA fA (by decide)]
  · rw [bG _ hi, mf_gA fF (by decide), mf_gA fE (by decide), mf_gA fD (by decide), mf_gA fC (by decide), mf_gA fB (by decide), mf_gA fA (by decide)]
  refine Cl.of (by decide) rfl (fun q => by cases q) rfl rfl (Nat.le_of_ble_eq_true rfl) ?_
  show Sm _ _ _ _ _ 0 [some (.ref 95)] [] _ _
  refine r_aload_n 1 dX12_image_0 rfl rfl ?_
  refine r_iconst (0) 2 dX12_image_1 rfl (by decide) ?_
  refine r_putI 5 dX12_image_2 rfl f12_159 rfl lt95 ?_
  refine r_aload_n 6 dX12_image_5 rfl rfl ?_
  refine r_iconst (1) 7 dX12_image_6 rfl (by decide) ?_
  refine r_putZ 10 dX12_image_7 rfl f12_334 rfl lt95 (by decide) ?_
  refine r_aload_n 11 dX12_image_10 rfl rfl ?_
  refine r_aload_n 12 dX12_image_11 rfl rfl ?_
  refine r_getI 15 dX12_image_12 rfl f12_324 rfl rfl lt95 ?_
  refine r_putI 18 dX12_image_15 rfl f12_499 rfl lt95 ?_
  refine r_aload_n 19 dX12_image_18 rfl rfl ?_
  refine r_aload_n 20 dX12_image_19 rfl rfl ?_
  refine r_getI 23 dX12_image_20 rfl f12_327 rfl rfl lt95 ?_
  refine r_putI 26 dX12_image_23 rfl f12_502 rfl lt95 ?_
  refine r_aload_n 27 dX12_image_26 rfl rfl ?_
  refine r_aload_n 28 dX12_image_27 rfl rfl ?_
  refine r_getR 31 dX12_image_28 rfl f12_141 rfl rfl lt95 (mo_67 hM0) ?_
  refine r_iconst (0) 32 dX12_image_31 rfl (by decide) ?_
  have eA : sI (sI (sI (sI E 1538 95 0) 1600 95 1) 1601 95 (gI (sI (sI E 1538 95 0) 1600 95 1) 1566 95)) 1602 95 (gI (sI (sI (sI E 1538 95 0) 1600 95 1) 1601 95 (gI (sI (sI E 1538 95 0) 1600 95 1) 1566 95)) 1567 95) = EA := by
    rw [hEA]; rfl
  rw [eA]
  refine r_callV (M := mX12_image) (pc := 32) 35 dX12_image_32 rfl k12_423 hpk rfl rfl rfl (by decide) rfl lt95 (Nat.le_of_ble_eq_true rfl) ?_
  refine r_aload_n 36 dX12_image_35 rfl rfl ?_
  refine r_getR 39 dX12_image_36 rfl f12_144 rfl rfl lt95 (mo_68 hMB) ?_
  refine r_aload_n 40 dX12_image_39 rfl rfl ?_
  refine r_getR 43 dX12_image_40 rfl f12_78 rfl rfl lt95 (mo_25 hMB) ?_
  refine r_callS (M := mX12_image) (pc := 43) 46 dX12_image_43 rfl k12_505 hbC rfl rfl (Nat.le_of_ble_eq_true rfl) ?_
  refine r_aload_n 47 dX12_image_46 rfl rfl ?_
  refine r_getR 50 dX12_image_47 rfl f12_147 rfl rfl lt95 (mo_69 hMC) ?_
  refine r_aload_n 51 dX12_image_50 rfl rfl ?_
  refine r_getR 54 dX12_image_51 rfl f12_132 rfl rfl lt95 (mo_60 hMC) ?_
  refine r_callS (M := mX12_image) (pc := 54) 57 dX12_image_54 rfl k12_505 hbD rfl rfl (Nat.le_of_ble_eq_true rfl) ?_
  refine r_aload_n 58 dX12_image_57 rfl rfl ?_
  refine r_getR 61 dX12_image_58 rfl f12_150 rfl rfl lt95 (mo_70 hMD) ?_
  refine r_aload_n 62 dX12_image_61 rfl rfl ?_
  refine r_getR 65 dX12_image_62 rfl f12_135 rfl rfl lt95 (mo_61 hMD) ?_
  refine r_callS (M := mX12_image) (pc := 65) 68 dX12_image_65 rfl k12_505 hbE rfl rfl (Nat.le_of_ble_eq_true rfl) ?_
  refine r_aload_n 69 dX12_image_68 rfl rfl ?_
  refine r_getR 72 dX12_image_69 rfl f12_153 rfl rfl lt95 (mo_71 hME) ?_
  refine r_aload_n 73 dX12_image_72 rfl rfl ?_
  refine r_getR 76 dX12_image_73 rfl f12_138 rfl rfl lt95 (mo_62 hME) ?_
  refine r_callS (M := mX12_image) (pc := 76) 79 dX12_image_76 rfl k12_505 hbF rfl rfl (Nat.le_of_ble_eq_true rfl) ?_
  refine r_aload_n 80 dX12_image_79 rfl rfl ?_
  refine r_getR 83 dX12_image_80 rfl f12_156 rfl rfl lt95 (mo_72 hMF) ?_
  refine r_aload_n 84 dX12_image_83 rfl rfl ?_
  refine r_getR 87 dX12_image_84 rfl f12_65 rfl rfl lt95 (mo_12 hMF) ?_
  refine r_callS (M := mX12_image) (pc := 87) 90 dX12_image_87 rfl k12_505 hbG rfl rfl (Nat.le_of_ble_eq_true rfl) ?_
  exact r_vret dX12_image_90 rfl rfl (rfl)
set_option maxRecDepth 20000 in
theorem m_restore0 {d : Nat} {E : HP} (hM : MoOK E) (h0 : gI E 1600 95 = 0) : Cl yX12_restore mX12_restore (d + 8) 0 0 [.ref 95] E 137 (.inl (some (.int (0))), (sI E 1538 95 0), 137) := by
  have hM0 : MoOK (sI E 1538 95 0) := hM
  have h00 : gI (sI E 1538 95 0) 1600 95 = 0 := by rw [gI_sI, if_neg (by decide)]; exact h0
  refine Cl.of (by decide) rfl (fun q => by cases q) rfl rfl (Nat.le_of_ble_eq_true rfl) ?_
  show Sm _ _ _ _ _ 0 [some (.ref 95)] [] _ _
  refine r_aload_n 1 dX12_restore_0 rfl rfl ?_
  refine r_iconst (0) 2 dX12_restore_1 rfl (by decide) ?_
  refine r_putI 5 dX12_restore_2 rfl f12_159 rfl lt95 ?_
  refine r_aload_n 6 dX12_restore_5 rfl rfl ?_
  refine r_getIV (0) 9 dX12_restore_6 rfl f12_334 rfl rfl lt95 (h00) ?_
  refine r_if_ne 12 14 dX12_restore_9 rfl (by decide) (fun h9 => absurd h9 (fun z => z rfl)) (fun h9 => ?_)
  refine r_iconst (0) 13 dX12_restore_12 rfl (by decide) ?_
  exact r_zret dX12_restore_13 rfl rfl (by decide) (rfl)
set_option maxRecDepth 20000 in
theorem m_restore {d : Nat} {E : HP} (hM : MoOK E) (h0 : ¬ gI E 1600 95 = 0) : ∃ E2, MF [1538, 1562, 1563, 1564, 1565, 1566, 1567] [103, 107, 109, 110, 127, 128, 129] E E2 ∧ gI E2 1538 95 = 0 ∧ gI E2 1566 95 = gI E 1601 95 ∧ gI E2 1567 95 = gI E 1602 95 ∧ (∀ j, j < 7 → gA E2 109 j = gA E 130 j ∧ gA E2 103 j = gA E 130 (7 + j)) ∧ gI E2 1562 95 = gA E 130 14 ∧ gI E2 1563 95 = gA E 130 15 ∧ gI E2 1564 95 = gA E 130 16 ∧ gI E2 1565 95 = gA E 130 17 ∧ (∀ i, i < 720 → gA E2 110 i = gA E 131 i) ∧ (∀ i, i < 8 → gA E2 127 i = gA E 132 i ∧ gA E2 128 i = gA E 133 i ∧ gA E2 129 i = gA E 134 i) ∧ (∀ i, i < 3 → gA E2 107 i = gA E 135 i) ∧ Cl yX12_restore mX12_restore (d + 8) 0 0 [.ref 95] E 137 (.inl (some (.int (1))), E2, 137) := by
  have hM0 : MoOK (sI E 1538 95 0) := hM
  have h00 : ¬ gI (sI E 1538 95 0) 1600 95 = 0 := by rw [gI_sI, if_neg (by decide)]; exact h0
  obtain ⟨EA, hEA⟩ : ∃ EA, EA = sI (sI (sI E 1538 95 0) 1566 95 (gI E 1601 95)) 1567 95 (gI E 1602 95) := ⟨_, rfl⟩
  have fA : MF [1538, 1566, 1567] [] E EA := by rw [hEA]; exact mf_sI (by decide) (mf_sI (by decide) (mf_sI (by decide) mf_rfl))
  have hMA := mf_mo fA hM
  have qA : gI EA 1538 95 = 0 ∧ gI EA 1566 95 = gI E 1601 95 ∧ gI EA 1567 95 = gI E 1602 95 := by
    rw [hEA]
    simp only [gI_sI, Nat.reduceEqDiff, false_and, if_false, and_self, if_true, reduceIte]
  obtain ⟨_, ⟨EB, rfl, fB, b1, b2, b3, b4, b5, b6⟩, hun⟩ := c_unpack (d := d + 7) (a := 130) (l9 := 18) (o9 := 0) hMA rfl (by decide) (by decide) (by decide) (by omega) (by omega)
  have hMB := mf_mo fB hMA
  obtain ⟨_, ⟨EC, rfl, fC, bC⟩, hbC⟩ := c_be (d := d + 7) (a := 110) (a2 := 131) (l9 := 720) (E := EB) rfl rfl (by decide) (by decide) (by decide) (by decide)
  have hMC := mf_mo fC hMB
  obtain ⟨_, ⟨ED, rfl, fD, bD⟩, hbD⟩ := c_be (d := d + 7) (a := 127) (a2 := 132) (l9 := 8) (E := EC) rfl rfl (by decide) (by decide) (by decide) (by decide)
  have hMD := mf_mo fD hMC
  obtain ⟨_, ⟨EE, rfl, fE, bE⟩, hbE⟩ := c_be (d := d + 7) (a := 128) (a2 := 133) (l9 := 8) (E := ED) rfl rfl (by decide) (by decide) (by decide) (by decide)
  have hME := mf_mo fE hMD
  obtain ⟨_, ⟨EF, rfl, fF, bF⟩, hbF⟩ := c_be (d := d + 7) (a := 129) (a2 := 134) (l9 := 8) (E := EE) rfl rfl (by decide) (by decide) (by decide) (by decide)
  have hMF := mf_mo fF hME
  obtain ⟨_, ⟨EG, rfl, fG, bG⟩, hbG⟩ := c_be (d := d + 7) (a := 107) (a2 := 135) (l9 := 3) (E := EF) rfl rfl (by decide) (by decide) (by decide) (by decide)
  have hMG := mf_mo fG hMF
  have g1 := mf_mono (gs2 := [1538, 1562, 1563, 1564, 1565, 1566, 1567]) (as2 := [103, 107, 109, 110, 127, 128, 129]) fA (by decide) (by decide)
  have g2 := mf_tr g1 (mf_mono fB (by decide) (by decide))
  have g3 := mf_tr g2 (mf_mono fC (by decide) (by decide))
  have g4 := mf_tr g3 (mf_mono fD (by decide) (by decide))
  have g5 := mf_tr g4 (mf_mono fE (by decide) (by decide))
  have g6 := mf_tr g5 (mf_mono fF (by decide) (by decide))
  have g7 := mf_tr g6 (mf_mono fG (by decide) (by decide))
  have e30 : gA EA 130 = gA E 130 := mf_gA fA (by decide)
  rw [e30] at b1 b3 b4 b5 b6
  refine ⟨EG, g7, ?_, ?_, ?_, fun j hj => ⟨?_, ?_⟩, ?_, ?_, ?_, ?_, fun i hi => ?_, fun i hi => ⟨?_, ?_, ?_⟩, fun i hi => ?_, ?_⟩
  · rw [mf_gI fG (by decide), mf_gI fF (by decide), mf_gI fE (by decide), mf_gI fD (by decide), mf_gI fC (by decide), mf_gI fB (by decide)]; exact qA.1
  · rw [mf_gI fG (by decide), mf_gI fF (by decide), mf_gI fE (by decide), mf_gI fD (by decide), mf_gI fC (by decide), mf_gI fB (by decide)]; exact qA.2.1
  · rw [mf_gI fG (by decide), mf_gI fF (by decide), mf_gI fE (by decide), mf_gI fD (by decide), mf_gI fC (by decide), mf_gI fB (by decide)]; exact qA.2.2
  · rw [mf_gA fG (by decide), mf_gA fF (by decide), mf_gA fE (by decide), mf_gA fD (by decide), mf_gA fC (by decide), (b1 j hj).1, Nat.zero_add]
  · rw [mf_gA fG (by decide), mf_gA fF (by decide), mf_gA fE (by decide), mf_gA fD (by decide), mf_gA fC (by decide), (b1 j hj).2, Nat.zero_add]
  · rw [mf_gI fG (by decide), mf_gI fF (by decide), mf_gI fE (by decide), mf_gI fD (by decide), mf_gI fC (by decide)]; exact b3
  · rw [mf_gI fG (by decide), mf_gI fF (by decide), mf_gI fE (by decide), mf_gI fD (by decide), mf_gI fC (by decide)]; exact b4
  · rw [mf_gI fG (by decide), mf_gI fF (by decide), mf_gI fE (by decide), mf_gI fD (by decide), mf_gI fC (by decide)]; exact b5
  · rw [mf_gI fG (by decide), mf_gI fF (by decide), mf_gI fE (by decide), mf_gI fD (by decide), mf_gI fC (by decide)]; exact b6
  · rw [mf_gA fG (by decide), mf_gA fF (by decide), mf_gA fE (by decide), mf_gA fD (by decide), bC _ hi, mf_gA fB (by decide), mf_gA fA (by decide)]
  · rw [mf_gA fG (by decide), mf_gA fF (by decide), mf_gA fE (by decide), bD _ hi, mf_gA fC (by decide), mf_gA fB (by decide), mf_gA fA (by decide)]
  · rw [mf_gA fG (by decide), mf_gA fF (by decide), bE _ hi, mf_gA fD (by decide), mf_gA fC (by decide), mf_gA fB (by decide), mf_gA fA (by decide)]
  · rw [mf_gA fG (by decide), bF _ hi, mf_gA fE (by decide), mf_gA fD (by decide), mf_gA fC (by decide), mf_gA fB (by decide), mf_gA fA (by decide)]
  · rw [bG _ hi, mf_gA fF (by decide), mf_gA fE (by decide), mf_gA fD (by decide), mf_gA fC (by decide), mf_gA fB (by decide), mf_gA fA (by decide)]
  refine Cl.of (by decide) rfl (fun q => by cases q) rfl rfl (Nat.le_of_ble_eq_true rfl) ?_
  show Sm _ _ _ _ _ 0 [some (.ref 95)] [] _ _
  refine r_aload_n 1 dX12_restore_0 rfl rfl ?_
  refine r_iconst (0) 2 dX12_restore_1 rfl (by decide) ?_
  refine r_putI 5 dX12_restore_2 rfl f12_159 rfl lt95 ?_
  refine r_aload_n 6 dX12_restore_5 rfl rfl ?_
  refine r_getI 9 dX12_restore_6 rfl f12_334 rfl rfl lt95 ?_
  refine r_if_ne 12 14 dX12_restore_9 rfl (by decide) (fun h9 => ?_) (fun h9 => absurd h9 h00)
  refine r_aload_n 15 dX12_restore_14 rfl rfl ?_
  refine r_aload_n 16 dX12_restore_15 rfl rfl ?_
  refine r_getI 19 dX12_restore_16 rfl f12_499 rfl rfl lt95 ?_
  refine r_putI 22 dX12_restore_19 rfl f12_324 rfl lt95 ?_
  refine r_aload_n 23 dX12_restore_22 rfl rfl ?_
  refine r_aload_n 24 dX12_restore_23 rfl rfl ?_
  refine r_getI 27 dX12_restore_24 rfl f12_502 rfl rfl lt95 ?_
  refine r_putI 30 dX12_restore_27 rfl f12_327 rfl lt95 ?_
  refine r_aload_n 31 dX12_restore_30 rfl rfl ?_
  refine r_aload_n 32 dX12_restore_31 rfl rfl ?_
  refine r_getR 35 dX12_restore_32 rfl f12_141 rfl rfl lt95 (mo_67 hM0) ?_
  refine r_iconst (0) 36 dX12_restore_35 rfl (by decide) ?_
  have eA : sI (sI (sI E 1538 95 0) 1566 95 (gI (sI E 1538 95 0) 1601 95)) 1567 95 (gI (sI (sI E 1538 95 0) 1566 95 (gI (sI E 1538 95 0) 1601 95)) 1602 95) = EA := by
    rw [hEA]; rfl
  rw [eA]
  refine r_callV (M := mX12_restore) (pc := 36) 39 dX12_restore_36 rfl k12_439 hun rfl rfl rfl (by decide) rfl lt95 (Nat.le_of_ble_eq_true rfl) ?_
  refine r_aload_n 40 dX12_restore_39 rfl rfl ?_
  refine r_getR 43 dX12_restore_40 rfl f12_78 rfl rfl lt95 (mo_25 hMB) ?_
  refine r_aload_n 44 dX12_restore_43 rfl rfl ?_
  refine r_getR 47 dX12_restore_44 rfl f12_144 rfl rfl lt95 (mo_68 hMB) ?_
  refine r_callS (M := mX12_restore) (pc := 47) 50 dX12_restore_47 rfl k12_505 hbC rfl rfl (Nat.le_of_ble_eq_true rfl) ?_
  refine r_aload_n 51 dX12_restore_50 rfl rfl ?_
  refine r_getR 54 dX12_restore_51 rfl f12_132 rfl rfl lt95 (mo_60 hMC) ?_
  refine r_aload_n 55 dX12_restore_54 rfl rfl ?_
  refine r_getR 58 dX12_restore_55 rfl f12_147 rfl rfl lt95 (mo_69 hMC) ?_
  refine r_callS (M := mX12_restore) (pc := 58) 61 dX12_restore_58 rfl k12_505 hbD rfl rfl (Nat.le_of_ble_eq_true rfl) ?_
  refine r_aload_n 62 dX12_restore_61 rfl rfl ?_
  refine r_getR 65 dX12_restore_62 rfl f12_135 rfl rfl lt95 (mo_61 hMD) ?_
  refine r_aload_n 66 dX12_restore_65 rfl rfl ?_
  refine r_getR 69 dX12_restore_66 rfl f12_150 rfl rfl lt95 (mo_70 hMD) ?_
  refine r_callS (M := mX12_restore) (pc := 69) 72 dX12_restore_69 rfl k12_505 hbE rfl rfl (Nat.le_of_ble_eq_true rfl) ?_
  refine r_aload_n 73 dX12_restore_72 rfl rfl ?_
  refine r_getR 76 dX12_restore_73 rfl f12_138 rfl rfl lt95 (mo_62 hME) ?_
  refine r_aload_n 77 dX12_restore_76 rfl rfl ?_
  refine r_getR 80 dX12_restore_77 rfl f12_153 rfl rfl lt95 (mo_71 hME) ?_
  refine r_callS (M := mX12_restore) (pc := 80) 83 dX12_restore_80 rfl k12_505 hbF rfl rfl (Nat.le_of_ble_eq_true rfl) ?_
  refine r_aload_n 84 dX12_restore_83 rfl rfl ?_
  refine r_getR 87 dX12_restore_84 rfl f12_65 rfl rfl lt95 (mo_12 hMF) ?_
  refine r_aload_n 88 dX12_restore_87 rfl rfl ?_
  refine r_getR 91 dX12_restore_88 rfl f12_156 rfl rfl lt95 (mo_72 hMF) ?_
  refine r_callS (M := mX12_restore) (pc := 91) 94 dX12_restore_91 rfl k12_505 hbG rfl rfl (Nat.le_of_ble_eq_true rfl) ?_
  refine r_iconst (1) 95 dX12_restore_94 rfl (by decide) ?_
  exact r_zret dX12_restore_95 rfl rfl (by decide) (rfl)
theorem sh_m : ∀ k, k < 20 → (24 : Int32) - 8 * (nI k - nI k / 4 * 4) = shV (k % 4) := by decide
theorem by_m {x : Int32} : ∀ j, j < 4 → (x >>> (shV j &&& 31)) &&& 255 = byF x j := by
  intro j hj
  match j, hj with
  | 0, _ => exact byte_bits x _ _ 24 (by decide) (by decide) (by decide)
  | 1, _ => exact byte_bits x _ _ 16 (by decide) (by decide) (by decide)
  | 2, _ => exact byte_bits x _ _ 8 (by decide) (by decide) (by decide)
  | 3, _ => exact byte_bits x _ _ 0 (by decide) (by decide) (by decide)
theorem by5_1 {a b c e f : Int32} {k : Nat} (h : k < 4) : by5 a b c e f k = byF a (k % 4) := by
  unfold by5; rw [if_pos (by omega), if_pos (by omega), if_pos (by omega), if_pos h, Nat.mod_eq_of_lt h]
theorem by5_2 {a b c e f : Int32} {k : Nat} (h0 : ¬ k < 4) (h : k < 8) : by5 a b c e f k = byF b (k % 4) := by
  unfold by5; rw [if_pos (by omega), if_pos (by omega), if_pos h, if_neg h0, show k % 4 = k - 4 by omega]
theorem by5_3 {a b c e f : Int32} {k : Nat} (h0 : ¬ k < 8) (h : k < 12) : by5 a b c e f k = byF c (k % 4) := by
  unfold by5; rw [if_pos (by omega), if_pos h, if_neg h0, show k % 4 = k - 8 by omega]
theorem by5_4 {a b c e f : Int32} {k : Nat} (h0 : ¬ k < 12) (h : k < 16) : by5 a b c e f k = byF e (k % 4) := by
  unfold by5; rw [if_pos h, if_neg h0, show k % 4 = k - 12 by omega]
theorem by5_5 {a b c e f : Int32} {k : Nat} (h0 : ¬ k < 16) (h : k < 20) : by5 a b c e f k = byF f (k % 4) := by
  unfold by5; rw [if_neg h0, show k % 4 = k - 16 by omega]
set_option maxRecDepth 20000 in
theorem m_feed {d t : Nat} {E : HP} {a b c e f : Int32} (hM : MoOK E) (ht : gI E 1550 95 = nI t) (h6 : t + 20 ≤ 600) : ∃ o, (∃ E2, o = (.inl (some (.int (nI (t + 20)))), E2, 137) ∧ MF [1538, 1550] [108] E E2 ∧ gI E2 1538 95 = 0 ∧ gI E2 1550 95 = nI (t + 20) ∧ ∀ i, gA E2 108 i = if t ≤ i ∧ i < t + 20 then by5 a b c e f (i - t) else gA E 108 i) ∧ Cl yX12_feed mX12_feed (d + 8) 0 0 [.ref 95, .int a, .int b, .int c, .int e, .int f] E 137 o := by
  have hM0 : MoOK (sI E 1538 95 0) := hM
  have ht0 : gI (sI E 1538 95 0) 1550 95 = nI t := by rw [gI_sI, if_neg (by decide)]; exact ht
  refine Cx.of (by decide) rfl (fun q => by cases q) rfl rfl (Nat.le_of_ble_eq_true rfl) ?_
  show Sx _ _ _ _ _ 0 [some (.ref 95), some (.int a), some (.int b), some (.int c), some (.int e), some (.int f), none, none] [] _ _
  have loop := sxUp (σ := HP × Option Value) (S := fun k9 q => Sx mX12_feed (d + 8) 0 0 (fun o => ∃ E2, o = (.inl (some (.int (nI (t + 20)))), E2, 137) ∧ MF [1538, 1550] [108] E E2 ∧ gI E2 1538 95 = 0 ∧ gI E2 1550 95 = nI (t + 20) ∧ ∀ i, gA E2 108 i = if t ≤ i ∧ i < t + 20 then by5 a b c e f (i - t) else gA E 108 i) 23 [some (.ref 95), some (.int a), some (.int b), some (.int c), some (.int e), some (.int f), some (.int (nI k9)), q.2] [] q.1 137) (Inv := fun k9 q => MF [1538, 1550] [108] E q.1 ∧ gI q.1 1538 95 = 0 ∧ gI q.1 1550 95 = nI (t + k9) ∧ ∀ i, gA q.1 108 i = if t ≤ i ∧ i < t + k9 then by5 a b c e f (i - t) else gA E 108 i) (a := 0) (l := 20) (by omega) ?_ ?_ (sI E 1538 95 0, none) ⟨mf_sI (by decide) mf_rfl, by rw [gI_sI, if_pos ⟨rfl, rfl⟩], ht0, fun i => by rw [if_neg (by omega)]; rfl⟩
  refine Sx.up (fun _ kk => r_aload_n 1 dX12_feed_0 rfl rfl kk) ?_
  refine Sx.up (fun _ kk => r_iconst (0) 2 dX12_feed_1 rfl (by decide) kk) ?_
  refine Sx.up (fun _ kk => r_putI 5 dX12_feed_2 rfl f12_159 rfl lt95 kk) ?_
  refine Sx.up (fun _ kk => r_aload_n 6 dX12_feed_5 rfl rfl kk) ?_
  refine Sx.up (fun _ kk => r_getIV (nI t) 9 dX12_feed_6 rfl f12_166 rfl rfl lt95 (ht0) kk) ?_
  refine Sx.up (fun _ kk => r_bipush (20) 11 dX12_feed_9 rfl (by decide) kk) ?_
  refine Sx.up (fun _ kk => r_iadd 12 dX12_feed_11 rfl kk) ?_
  rw [show nI t + 20 = nI (t + 20) from (add_nI t 20)]
  refine Sx.up (fun _ kk => r_sipush (600) 15 dX12_feed_12 rfl (by decide) kk) ?_
  refine Sx.up (fun _ kk => r_icmp_le 18 20 dX12_feed_15 rfl (by decide) (fun _ => kk) (fun h15 => absurd (nI_le (b := 600) h6 (by omega)) h15)) ?_
  refine Sx.up (fun _ kk => r_iconst (0) 21 dX12_feed_20 rfl (by decide) kk) ?_
  refine Sx.up (fun _ kk => r_istore 23 dX12_feed_21 rfl (by decide) rfl kk) ?_
  exact loop
  · intro ⟨E2, x7⟩ ⟨f2, c0, ct, ci⟩
    have hM2 := mf_mo f2 hM
    refine Sx.up (fun _ kk => r_iload 25 dX12_feed_23 rfl rfl kk) ?_
    refine Sx.up (fun _ kk => r_bipush (20) 27 dX12_feed_25 rfl (by decide) kk) ?_
    refine Sx.up (fun _ kk => r_icmp_ge 30 120 dX12_feed_27 rfl (by decide) (fun _ => kk) (fun h27 => absurd (by decide) h27)) ?_
    refine Sx.up (fun _ kk => r_aload_n 121 dX12_feed_120 rfl rfl kk) ?_
    refine Sx.up (fun _ kk => r_getIV (nI (t + 20)) 124 dX12_feed_121 rfl f12_166 rfl rfl lt95 (ct) kk) ?_
    refine ⟨_, ?_, r_iret dX12_feed_124 rfl rfl rfl⟩
    exact ⟨E2, rfl, f2, c0, ct, ci⟩
  · intro k9 ⟨E2, x7⟩ hk0 hk9 ⟨f2, c0, ct, ci⟩ hq
    have hM2 := mf_mo f2 hM
    have hM0 := hM2
    have wr : ∀ w, by5 a b c e f k9 = byF w (k9 % 4) → Sx mX12_feed (d + 8) 0 0 (fun o => ∃ E2, o = (.inl (some (.int (nI (t + 20)))), E2, 137) ∧ MF [1538, 1550] [108] E E2 ∧ gI E2 1538 95 = 0 ∧ gI E2 1550 95 = nI (t + 20) ∧ ∀ i, gA E2 108 i = if t ≤ i ∧ i < t + 20 then by5 a b c e f (i - t) else gA E 108 i) 76 [some (.ref 95), some (.int a), some (.int b), some (.int c), some (.int e), some (.int f), some (.int (nI k9)), x7] [.int w] E2 137 := by
      intro w hw
      have hbv := by_m (x := w) (k9 % 4) (by omega)
      have ct2 : gI (sA E2 108 (t + k9) (byF w (k9 % 4))) 1550 95 = nI (t + k9) := ct
      refine Sx.less (ls := [some (.ref 95), some (.int a), some (.int b), some (.int c), some (.int e), some (.int f), some (.int (nI k9)), none]) (by exact ⟨rfl, rfl, rfl, rfl, rfl, rfl, rfl, trivial⟩) ?_
      refine Sx.up (fun _ kk => r_istore 78 dX12_feed_76 rfl (by decide) rfl kk) ?_
      refine Sx.up (fun _ kk => r_aload_n 79 dX12_feed_78 rfl rfl kk) ?_
      refine Sx.up (fun _ kk => r_getR 82 dX12_feed_79 rfl f12_68 rfl rfl lt95 (mo_13 hM2) kk) ?_
      refine Sx.up (fun _ kk => r_aload_n 83 dX12_feed_82 rfl rfl kk) ?_
      refine Sx.up (fun _ kk => r_getIV (nI (t + k9)) 86 dX12_feed_83 rfl f12_166 rfl rfl lt95 (ct) kk) ?_
      refine Sx.up (fun _ kk => r_iload 88 dX12_feed_86 rfl rfl kk) ?_
      refine Sx.up (fun _ kk => r_bipush (24) 90 dX12_feed_88 rfl (by decide) kk) ?_
      refine Sx.up (fun _ kk => r_bipush (8) 92 dX12_feed_90 rfl (by decide) kk) ?_
      refine Sx.up (fun _ kk => r_iload 94 dX12_feed_92 rfl rfl kk) ?_
      refine Sx.up (fun _ kk => r_iconst (4) 95 dX12_feed_94 rfl (by decide) kk) ?_
      refine Sx.up (fun _ kk => r_irem 96 dX12_feed_95 rfl (by first | with_reducible assumption | rfl | decide | omega) kk) ?_
      refine Sx.up (fun _ kk => r_imul 97 dX12_feed_96 rfl kk) ?_
      refine Sx.up (fun _ kk => r_isub 98 dX12_feed_97 rfl kk) ?_
      rw [sh_m k9 hk9]
      refine Sx.up (fun _ kk => r_ishr 99 dX12_feed_98 rfl kk) ?_
      refine Sx.up (fun _ kk => r_sipush (255) 102 dX12_feed_99 rfl (by decide) kk) ?_
      refine Sx.up (fun _ kk => r_iand 103 dX12_feed_102 rfl kk) ?_
      rw [hbv]
      refine Sx.up (fun _ kk => r_iastN (t + k9) 104 dX12_feed_103 rfl rfl (Nat.le_of_ble_eq_true rfl) (rfl) (by omega) (Nat.le_of_ble_eq_true rfl) kk) ?_
      refine Sx.up (fun _ kk => r_aload_n 105 dX12_feed_104 rfl rfl kk) ?_
      refine Sx.up (fun _ kk => r_dup 106 dX12_feed_105 rfl rfl kk) ?_
      refine Sx.up (fun _ kk => r_getIV (nI (t + k9)) 109 dX12_feed_106 rfl f12_166 rfl rfl lt95 (ct2) kk) ?_
      refine Sx.up (fun _ kk => r_iconst (1) 110 dX12_feed_109 rfl (by decide) kk) ?_
      refine Sx.up (fun _ kk => r_iadd 111 dX12_feed_110 rfl kk) ?_
      refine Sx.up (fun _ kk => r_putI 114 dX12_feed_111 rfl f12_166 rfl lt95 kk) ?_
      refine Sx.up (fun _ kk => r_iinc (1) 117 dX12_feed_114 rfl rfl (by decide) (by decide) rfl kk) ?_
      refine Sx.up (fun _ kk => r_goto 23 dX12_feed_117 (by decide) kk) ?_
      rw [nI_pp, nI_pp]
      refine hq (sI (sA E2 108 (t + k9) (byF w (k9 % 4))) 1550 95 (nI (t + k9 + 1)), _) ⟨mf_sI (by decide) (mf_sA (by decide) f2), by show gI (sI _ _ _ _) _ _ = _; rw [gI_sI, if_neg (by decide)]; exact c0, by show gI (sI _ _ _ _) _ _ = _; rw [gI_sI, if_pos ⟨rfl, rfl⟩]; (try rfl), fun i => ?_⟩
      show gA (sA E2 108 (t + k9) (byF w (k9 % 4))) 108 i = _
      rw [gA_sA]
      by_cases h9 : i = t + k9
      · rw [if_pos ⟨rfl, h9⟩, if_pos (by omega), h9, Nat.add_sub_cancel_left, hw]
      · rw [if_neg (fun z => h9 z.2), ci i]
        by_cases h8 : t ≤ i ∧ i < t + k9
        · rw [if_pos h8, if_pos (by omega)]
        · rw [if_neg h8, if_neg (by omega)]
    refine Sx.up (fun _ kk => r_iload 25 dX12_feed_23 rfl rfl kk) ?_
    refine Sx.up (fun _ kk => r_bipush (20) 27 dX12_feed_25 rfl (by decide) kk) ?_
    refine Sx.up (fun _ kk => r_icmp_ge 30 120 dX12_feed_27 rfl (by decide) (fun h27 => absurd h27 (nI_ge (b := 20) hk9 (by omega))) (fun _ => kk)) ?_
    refine Sx.up (fun _ kk => r_iload 32 dX12_feed_30 rfl rfl kk) ?_
    refine Sx.up (fun _ kk => r_iconst (4) 33 dX12_feed_32 rfl (by decide) kk) ?_
    refine Sx.br (fun _ ka kb => r_icmp_ge 36 40 dX12_feed_33 rfl (by decide) ka kb) (by first | exact em1 | exact em2) (fun h33 => ?_) (fun h33 => ?_)
    · refine Sx.up (fun _ kk => r_iload 42 dX12_feed_40 rfl rfl kk) ?_
      refine Sx.up (fun _ kk => r_bipush (8) 44 dX12_feed_42 rfl (by decide) kk) ?_
      refine Sx.br (fun _ ka kb => r_icmp_ge 47 51 dX12_feed_44 rfl (by decide) ka kb) (by first | exact em1 | exact em2) (fun h44 => ?_) (fun h44 => ?_)
      · refine Sx.up (fun _ kk => r_iload 53 dX12_feed_51 rfl rfl kk) ?_
        refine Sx.up (fun _ kk => r_bipush (12) 55 dX12_feed_53 rfl (by decide) kk) ?_
        refine Sx.br (fun _ ka kb => r_icmp_ge 58 62 dX12_feed_55 rfl (by decide) ka kb) (by first | exact em1 | exact em2) (fun h55 => ?_) (fun h55 => ?_)
        · refine Sx.up (fun _ kk => r_iload 64 dX12_feed_62 rfl rfl kk) ?_
          refine Sx.up (fun _ kk => r_bipush (16) 66 dX12_feed_64 rfl (by decide) kk) ?_
          refine Sx.br (fun _ ka kb => r_icmp_ge 69 74 dX12_feed_66 rfl (by decide) ka kb) (by first | exact em1 | exact em2) (fun h66 => ?_) (fun h66 => ?_)
          · refine Sx.up (fun _ kk => r_iload 76 dX12_feed_74 rfl rfl kk) ?_
            exact wr f (by5_5 (fun y => nI_ge (b := 16) y (by omega) h66) hk9)
          · refine Sx.up (fun _ kk => r_iload 71 dX12_feed_69 rfl rfl kk) ?_
            refine Sx.up (fun _ kk => r_goto 76 dX12_feed_71 (by decide) kk) ?_
            exact wr e (by5_4 (fun y => nI_ge (b := 12) y (by omega) h55) (by have := h66; exact Classical.byContradiction (fun y => this (nI_le (a := 16) (by omega) (by omega)))))
        · refine Sx.up (fun _ kk => r_iload_n 59 dX12_feed_58 rfl rfl kk) ?_
          refine Sx.up (fun _ kk => r_goto 76 dX12_feed_59 (by decide) kk) ?_
          exact wr c (by5_3 (fun y => nI_ge (b := 8) y (by omega) h44) (by have := h55; exact Classical.byContradiction (fun y => this (nI_le (a := 12) (by omega) (by omega)))))
      · refine Sx.up (fun _ kk => r_iload_n 48 dX12_feed_47 rfl rfl kk) ?_
        refine Sx.up (fun _ kk => r_goto 76 dX12_feed_48 (by decide) kk) ?_
        exact wr b (by5_2 (fun y => nI_ge (b := 4) y (by omega) h33) (by have := h44; exact Classical.byContradiction (fun y => this (nI_le (a := 8) (by omega) (by omega)))))
    · refine Sx.up (fun _ kk => r_iload_n 37 dX12_feed_36 rfl rfl kk) ?_
      refine Sx.up (fun _ kk => r_goto 76 dX12_feed_37 (by decide) kk) ?_
      exact wr a (by5_1 (by have := h33; exact Classical.byContradiction (fun y => this (nI_le (a := 4) (by omega) (by omega)))))
set_option maxRecDepth 20000 in
theorem m_feed0 {d t : Nat} {E : HP} {a b c e f : Int32} (hM : MoOK E) (ht : gI E 1550 95 = nI t) (h6 : ¬ t + 20 ≤ 600) (h7 : t ≤ 600) : Cl yX12_feed mX12_feed (d + 8) 0 0 [.ref 95, .int (a), .int (b), .int (c), .int (e), .int (f)] E 137 (.inl (some (.int (-1))), (sI E 1538 95 0), 137) := by
  have hM0 : MoOK (sI E 1538 95 0) := hM
  have ht0 : gI (sI E 1538 95 0) 1550 95 = nI t := by rw [gI_sI, if_neg (by decide)]; exact ht
  refine Cl.of (by decide) rfl (fun q => by cases q) rfl rfl (Nat.le_of_ble_eq_true rfl) ?_
  show Sm _ _ _ _ _ 0 [some (.ref 95), some (.int a), some (.int b), some (.int c), some (.int e), some (.int f), none, none] [] _ _
  refine r_aload_n 1 dX12_feed_0 rfl rfl ?_
  refine r_iconst (0) 2 dX12_feed_1 rfl (by decide) ?_
  refine r_putI 5 dX12_feed_2 rfl f12_159 rfl lt95 ?_
  refine r_aload_n 6 dX12_feed_5 rfl rfl ?_
  refine r_getIV (nI t) 9 dX12_feed_6 rfl f12_166 rfl rfl lt95 (ht0) ?_
  refine r_bipush (20) 11 dX12_feed_9 rfl (by decide) ?_
  refine r_iadd 12 dX12_feed_11 rfl ?_
  rw [show nI t + 20 = nI (t + 20) from (add_nI t 20)]
  refine r_sipush (600) 15 dX12_feed_12 rfl (by decide) ?_
  refine r_icmp_le 18 20 dX12_feed_15 rfl (by decide) (fun h15 => absurd h15 (nI_ge (a := 600) (by omega) (by omega))) (fun h15 => ?_)
  refine r_iconst (-1) 19 dX12_feed_18 rfl (by decide) ?_
  exact r_iret dX12_feed_19 rfl rfl (rfl)
