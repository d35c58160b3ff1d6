/-! The model: a text told -/
theorem mf_in {gs as gs2 as2 : List Nat} {E E2 : HP} (h : MF gs as E E2) (h1 : gs.all (fun g => gs2.contains g) = true) (h2 : as.all (fun a => as2.contains a) = true) : MF gs2 as2 E E2 := mf_mono h (fun g hg => List.contains_iff_mem.mp (List.all_eq_true.mp h1 g hg)) (fun a ha => List.contains_iff_mem.mp (List.all_eq_true.mp h2 a ha))
set_option maxHeartbeats 16000000 in
set_option maxRecDepth 20000 in
theorem c_half {d a h9 : Nat} {E : HP} (ha : sh a = (100, 2 * h9)) (h137 : a < 137) (hd9 : Int32.ofNat (2 * h9) / 2 = nI h9) (hl : h9 ≤ 600) : ∃ o, (∃ E2, o = (.inl none, E2, 137) ∧ MF [] [a] E E2 ∧ (∀ i, i < h9 → gA E2 a i = gA E a (h9 + i)) ∧ ∀ i, h9 ≤ i → gA E2 a i = gA E a i) ∧ Cl yX12_takeHalf mX12_takeHalf d 0 0 [.ref a] E 137 o := by
  refine Cx.of (by decide) rfl (fun q => by cases q) rfl rfl (Nat.le_of_ble_eq_true rfl) ?_
  show Sx _ _ _ _ _ 0 [some (.ref a), none] [] _ _
  have loop := sxUp (σ := HP) (S := fun k9 E2 => Sx mX12_takeHalf d 0 0 (fun o => ∃ E2, o = (.inl none, E2, 137) ∧ MF [] [a] E E2 ∧ (∀ i, i < h9 → gA E2 a i = gA E a (h9 + i)) ∧ ∀ i, h9 ≤ i → gA E2 a i = gA E a i) 2 [some (.ref a), some (.int (nI k9))] [] E2 137) (Inv := fun k9 E2 => MF [] [a] E E2 ∧ (∀ i, i < k9 → gA E2 a i = gA E a (h9 + i)) ∧ ∀ i, k9 ≤ i → gA E2 a i = gA E a i) (a := 0) (l := h9) (Nat.zero_le _) ?_ ?_ E ⟨mf_rfl, fun i hi => absurd hi (Nat.not_lt_zero i), fun _ _ => rfl⟩
  · refine Sx.up (fun _ kk => r_iconst (0) 1 dX12_takeHalf_0 rfl (by decide) kk) ?_
    refine Sx.up (fun _ kk => r_istore_n 2 dX12_takeHalf_1 rfl (by decide) rfl kk) ?_
    exact loop
  · rintro E2 ⟨f2, i1, i2⟩
    refine Sx.up (fun _ kk => r_iload_n 3 dX12_takeHalf_2 rfl rfl kk) ?_
    refine Sx.up (fun _ kk => r_aload_n 4 dX12_takeHalf_3 rfl rfl kk) ?_
    refine Sx.up (fun _ kk => r_alenI (Int32.ofNat (2 * h9)) 5 dX12_takeHalf_4 rfl ha h137 rfl kk) ?_
    refine Sx.up (fun _ kk => r_iconst (2) 6 dX12_takeHalf_5 rfl (by decide) kk) ?_
    refine Sx.up (fun _ kk => r_idiv 7 dX12_takeHalf_6 rfl ((by decide)) kk) ?_
    rw [hd9]
    refine Sx.up (fun _ kk => r_icmp_ge 10 27 dX12_takeHalf_7 rfl (by decide) (fun _ => kk) (fun h7 => absurd (nI_le (Nat.le_refl _) (by omega)) h7)) ?_
    refine ⟨_, ?_, r_vret dX12_takeHalf_27 rfl rfl rfl⟩
    exact ⟨_, rfl, f2, i1, i2⟩
  · rintro k9 E2 - hk ⟨f2, i1, i2⟩ hgo
    refine Sx.up (fun _ kk => r_iload_n 3 dX12_takeHalf_2 rfl rfl kk) ?_
    refine Sx.up (fun _ kk => r_aload_n 4 dX12_takeHalf_3 rfl rfl kk) ?_
    refine Sx.up (fun _ kk => r_alenI (Int32.ofNat (2 * h9)) 5 dX12_takeHalf_4 rfl ha h137 rfl kk) ?_
    refine Sx.up (fun _ kk => r_iconst (2) 6 dX12_takeHalf_5 rfl (by decide) kk) ?_
    refine Sx.up (fun _ kk => r_idiv 7 dX12_takeHalf_6 rfl ((by decide)) kk) ?_
    rw [hd9]
    refine Sx.up (fun _ kk => r_icmp_ge 10 27 dX12_takeHalf_7 rfl (by decide) (fun h7 => absurd h7 (nI_ge hk (by omega))) (fun _ => kk)) ?_
    refine Sx.up (fun _ kk => r_aload_n 11 dX12_takeHalf_10 rfl rfl kk) ?_
    refine Sx.up (fun _ kk => r_iload_n 12 dX12_takeHalf_11 rfl rfl kk) ?_
    refine Sx.up (fun _ kk => r_aload_n 13 dX12_takeHalf_12 rfl rfl kk) ?_
    refine Sx.up (fun _ kk => r_aload_n 14 dX12_takeHalf_13 rfl rfl kk) ?_
    refine Sx.up (fun _ kk => r_alenI (Int32.ofNat (2 * h9)) 15 dX12_takeHalf_14 rfl ha h137 rfl kk) ?_
    refine Sx.up (fun _ kk => r_iconst (2) 16 dX12_takeHalf_15 rfl (by decide) kk) ?_
    refine Sx.up (fun _ kk => r_idiv 17 dX12_takeHalf_16 rfl ((by decide)) kk) ?_
    rw [hd9]
    refine Sx.up (fun _ kk => r_iload_n 18 dX12_takeHalf_17 rfl rfl kk) ?_
    refine Sx.up (fun _ kk => r_iadd 19 dX12_takeHalf_18 rfl kk) ?_
    rw [show nI h9 + nI k9 = nI (h9 + k9) from nI_add h9 k9]
    refine Sx.up (fun _ kk => r_ialdN (h9 + k9) (gA E2 a (h9 + k9)) 20 dX12_takeHalf_19 rfl ha h137 rfl (by omega) (by omega) rfl kk) ?_
    refine Sx.up (fun _ kk => r_iastN (k9) 21 dX12_takeHalf_20 rfl ha h137 rfl (by omega) (by omega) kk) ?_
    refine Sx.up (fun _ kk => r_iinc (1) 24 dX12_takeHalf_21 rfl rfl (by decide) (by decide) rfl kk) ?_
    refine Sx.up (fun _ kk => r_goto 2 dX12_takeHalf_24 (by decide) kk) ?_
    rw [nI_pp]
    refine hgo _ ⟨mf_sA (by simp) f2, fun i hi => ?_, fun i hi => ?_⟩
    · rw [gA_sA]
      by_cases e : i = k9
      · rw [if_pos ⟨rfl, e⟩, e]; exact i2 _ (by omega)
      · rw [if_neg (fun z => e z.2)]; exact i1 i (by omega)
    · rw [gA_sA, if_neg (fun z => by omega)]; exact i2 i (by omega)
set_option maxHeartbeats 16000000 in
set_option maxRecDepth 20000 in
theorem c_over {d : Nat} {E : HP} (hM : MoOK E) : ∃ o, (∃ E2, o = (.inl none, E2, 137) ∧ MF [1562, 1563, 1564, 1565, 1566, 1567, 1594, 1600] [98, 99, 100, 101, 102, 103, 104, 105, 106, 109] E E2 ∧ (∀ q ∈ halfL, ∀ i, i < q.2 → gA E2 q.1 i = gA E q.1 (q.2 + i)) ∧ (∀ i, i < 7 → gA E2 109 i = nI i) ∧ gI E2 1562 95 = 0 ∧ gI E2 1563 95 = -1 ∧ gI E2 1564 95 = 0 ∧ gI E2 1565 95 = gA E 98 13 ∧ gI E2 1566 95 = 0 ∧ gI E2 1567 95 = 0 ∧ gI E2 1594 95 = 0 ∧ gI E2 1600 95 = 0) ∧ Cl yX12_takeOver mX12_takeOver (d + 1) 0 0 [.ref 95] E 137 o := by
  obtain ⟨_, ⟨e1, rfl, f1, p1, -⟩, hc1⟩ := c_half (d := d) (a := 98) (h9 := 8) (E := E) rfl (by decide) (by decide) (by decide)
  obtain ⟨_, ⟨e2, rfl, f2, p2, -⟩, hc2⟩ := c_half (d := d) (a := 99) (h9 := 7) (E := e1) rfl (by decide) (by decide) (by decide)
  obtain ⟨_, ⟨e3, rfl, f3, p3, -⟩, hc3⟩ := c_half (d := d) (a := 100) (h9 := 14) (E := e2) rfl (by decide) (by decide) (by decide)
  obtain ⟨_, ⟨e4, rfl, f4, p4, -⟩, hc4⟩ := c_half (d := d) (a := 101) (h9 := 7) (E := e3) rfl (by decide) (by decide) (by decide)
  obtain ⟨_, ⟨e5, rfl, f5, p5, -⟩, hc5⟩ := c_half (d := d) (a := 102) (h9 := 7) (E := e4) rfl (by decide) (by decide) (by decide)
  obtain ⟨_, ⟨e6, rfl, f6, p6, -⟩, hc6⟩ := c_half (d := d) (a := 103) (h9 := 7) (E := e5) rfl (by decide) (by decide) (by decide)
  obtain ⟨_, ⟨e7, rfl, f7, p7, -⟩, hc7⟩ := c_half (d := d) (a := 104) (h9 := 7) (E := e6) rfl (by decide) (by decide) (by decide)
  obtain ⟨_, ⟨e8, rfl, f8, p8, -⟩, hc8⟩ := c_half (d := d) (a := 105) (h9 := 7) (E := e7) rfl (by decide) (by decide) (by decide)
  obtain ⟨_, ⟨e9, rfl, f9, p9, -⟩, hc9⟩ := c_half (d := d) (a := 106) (h9 := 600) (E := e8) rfl (by decide) (by decide) (by decide)
  have f0 : MF [] [98, 99, 100, 101, 102, 103, 104, 105, 106] E e9 := mf_tr (mf_tr (mf_tr (mf_tr (mf_tr (mf_tr (mf_tr (mf_tr (mf_in f1 (by decide) (by decide)) (mf_in f2 (by decide) (by decide))) (mf_in f3 (by decide) (by decide))) (mf_in f4 (by decide) (by decide))) (mf_in f5 (by decide) (by decide))) (mf_in f6 (by decide) (by decide))) (mf_in f7 (by decide) (by decide))) (mf_in f8 (by decide) (by decide))) (mf_in f9 (by decide) (by decide))
  have q1 : ∀ i, i < 8 → gA e9 98 i = gA E 98 (8 + i) := fun i hi => by rw [mf_gA f9 (by decide)]; rw [mf_gA f8 (by decide)]; rw [mf_gA f7 (by decide)]; rw [mf_gA f6 (by decide)]; rw [mf_gA f5 (by decide)]; rw [mf_gA f4 (by decide)]; rw [mf_gA f3 (by decide)]; rw [mf_gA f2 (by decide)]; rw [p1 i hi]
  have q2 : ∀ i, i < 7 → gA e9 99 i = gA E 99 (7 + i) := fun i hi => by rw [mf_gA f9 (by decide)]; rw [mf_gA f8 (by decide)]; rw [mf_gA f7 (by decide)]; rw [mf_gA f6 (by decide)]; rw [mf_gA f5 (by decide)]; rw [mf_gA f4 (by decide)]; rw [mf_gA f3 (by decide)]; rw [p2 i hi]; rw [mf_gA f1 (by decide)]
  have q3 : ∀ i, i < 14 → gA e9 100 i = gA E 100 (14 + i) := fun i hi => by rw [mf_gA f9 (by decide)]; rw [mf_gA f8 (by decide)]; rw [mf_gA f7 (by decide)]; rw [mf_gA f6 (by decide)]; rw [mf_gA f5 (by decide)]; rw [mf_gA f4 (by decide)]; rw [p3 i hi]; rw [mf_gA f2 (by decide)] ; rw [mf_gA f1 (by decide)]
  have q4 : ∀ i, i < 7 → gA e9 101 i = gA E 101 (7 + i) := fun i hi => by rw [mf_gA f9 (by decide)]; rw [mf_gA f8 (by decide)]; rw [mf_gA f7 (by decide)]; rw [mf_gA f6 (by decide)]; rw [mf_gA f5 (by decide)]; rw [p4 i hi]; rw [mf_gA f3 (by decide)] ; rw [mf_gA f2 (by decide)] ; rw [mf_gA f1 (by decide)]
  have q5 : ∀ i, i < 7 → gA e9 102 i = gA E 102 (7 + i) := fun i hi => by rw [mf_gA f9 (by decide)]; rw [mf_gA f8 (by decide)]; rw [mf_gA f7 (by decide)]; rw [mf_gA f6 (by decide)]; rw [p5 i hi]; rw [mf_gA f4 (by decide)] ; rw [mf_gA f3 (by decide)] ; rw [mf_gA f2 (by decide)] ; rw [mf_gA f1 (by decide)]
  have q6 : ∀ i, i < 7 → gA e9 103 i = gA E 103 (7 + i) := fun i hi => by rw [mf_gA f9 (by decide)]; rw [mf_gA f8 (by decide)]; rw [mf_gA f7 (by decide)]; rw [p6 i hi]; rw [mf_gA f5 (by decide)] ; rw [mf_gA f4 (by decide)] ; rw [mf_gA f3 (by decide)] ; rw [mf_gA f2 (by decide)] ; rw [mf_gA f1 (by decide)]
  have q7 : ∀ i, i < 7 → gA e9 104 i = gA E 104 (7 + i) := fun i hi => by rw [mf_gA f9 (by decide)]; rw [mf_gA f8 (by decide)]; rw [p7 i hi]; rw [mf_gA f6 (by decide)] ; rw [mf_gA f5 (by decide)] ; rw [mf_gA f4 (by decide)] ; rw [mf_gA f3 (by decide)] ; rw [mf_gA f2 (by decide)] ; rw [mf_gA f1 (by decide)]
  have q8 : ∀ i, i < 7 → gA e9 105 i = gA E 105 (7 + i) := fun i hi => by rw [mf_gA f9 (by decide)]; rw [p8 i hi]; rw [mf_gA f7 (by decide)] ; rw [mf_gA f6 (by decide)] ; rw [mf_gA f5 (by decide)] ; rw [mf_gA f4 (by decide)] ; rw [mf_gA f3 (by decide)] ; rw [mf_gA f2 (by decide)] ; rw [mf_gA f1 (by decide)]
  have q9 : ∀ i, i < 600 → gA e9 106 i = gA E 106 (600 + i) := fun i hi => by  rw [p9 i hi]; rw [mf_gA f8 (by decide)] ; rw [mf_gA f7 (by decide)] ; rw [mf_gA f6 (by decide)] ; rw [mf_gA f5 (by decide)] ; rw [mf_gA f4 (by decide)] ; rw [mf_gA f3 (by decide)] ; rw [mf_gA f2 (by decide)] ; rw [mf_gA f1 (by decide)]
  have hall : ∀ q ∈ halfL, ∀ i, i < q.2 → gA e9 q.1 i = gA E q.1 (q.2 + i) := by
    intro q hq
    simp only [halfL, List.mem_cons, List.not_mem_nil, or_false] at hq
    rcases hq with z | z | z | z | z | z | z | z | z <;> subst z
    · exact q1
    · exact q2
    · exact q3
    · exact q4
    · exact q5
    · exact q6
    · exact q7
    · exact q8
    · exact q9
  have hM9 := mf_mo f0 hM
  refine Cx.of (by decide) rfl (fun q => by cases q) rfl rfl (Nat.le_of_ble_eq_true rfl) ?_
  show Sx _ _ _ _ _ 0 [some (.ref 95), none] [] _ _
  have hMs2 : MoOK e2 := mf_mo (show MF [] [98, 99, 100, 101, 102, 103, 104, 105, 106] E e2 from mf_tr (mf_in f1 (by decide) (by decide)) (mf_in f2 (by decide) (by decide))) hM
  have hMs3 : MoOK e3 := mf_mo (show MF [] [98, 99, 100, 101, 102, 103, 104, 105, 106] E e3 from mf_tr (mf_tr (mf_in f1 (by decide) (by decide)) (mf_in f2 (by decide) (by decide))) (mf_in f3 (by decide) (by decide))) hM
  have hMs4 : MoOK e4 := mf_mo (show MF [] [98, 99, 100, 101, 102, 103, 104, 105, 106] E e4 from mf_tr (mf_tr (mf_tr (mf_in f1 (by decide) (by decide)) (mf_in f2 (by decide) (by decide))) (mf_in f3 (by decide) (by decide))) (mf_in f4 (by decide) (by decide))) hM
  have hMs5 : MoOK e5 := mf_mo (show MF [] [98, 99, 100, 101, 102, 103, 104, 105, 106] E e5 from mf_tr (mf_tr (mf_tr (mf_tr (mf_in f1 (by decide) (by decide)) (mf_in f2 (by decide) (by decide))) (mf_in f3 (by decide) (by decide))) (mf_in f4 (by decide) (by decide))) (mf_in f5 (by decide) (by decide))) hM
  have hMs6 : MoOK e6 := mf_mo (show MF [] [98, 99, 100, 101, 102, 103, 104, 105, 106] E e6 from mf_tr (mf_tr (mf_tr (mf_tr (mf_tr (mf_in f1 (by decide) (by decide)) (mf_in f2 (by decide) (by decide))) (mf_in f3 (by decide) (by decide))) (mf_in f4 (by decide) (by decide))) (mf_in f5 (by decide) (by decide))) (mf_in f6 (by decide) (by decide))) hM
  have hMs7 : MoOK e7 := mf_mo (show MF [] [98, 99, 100, 101, 102, 103, 104, 105, 106] E e7 from mf_tr (mf_tr (mf_tr (mf_tr (mf_tr (mf_tr (mf_in f1 (by decide) (by decide)) (mf_in f2 (by decide) (by decide))) (mf_in f3 (by decide) (by decide))) (mf_in f4 (by decide) (by decide))) (mf_in f5 (by decide) (by decide))) (mf_in f6 (by decide) (by decide))) (mf_in f7 (by decide) (by decide))) hM
  have hMs8 : MoOK e8 := mf_mo (show MF [] [98, 99, 100, 101, 102, 103, 104, 105, 106] E e8 from mf_tr (mf_tr (mf_tr (mf_tr (mf_tr (mf_tr (mf_tr (mf_in f1 (by decide) (by decide)) (mf_in f2 (by decide) (by decide))) (mf_in f3 (by decide) (by decide))) (mf_in f4 (by decide) (by decide))) (mf_in f5 (by decide) (by decide))) (mf_in f6 (by decide) (by decide))) (mf_in f7 (by decide) (by decide))) (mf_in f8 (by decide) (by decide))) hM
  have loop := sxUp (σ := HP) (S := fun k9 E2 => Sx mX12_takeOver (d + 1) 0 0 (fun o => ∃ E2, o = (.inl none, E2, 137) ∧ MF [1562, 1563, 1564, 1565, 1566, 1567, 1594, 1600] [98, 99, 100, 101, 102, 103, 104, 105, 106, 109] E E2 ∧ (∀ q ∈ halfL, ∀ i, i < q.2 → gA E2 q.1 i = gA E q.1 (q.2 + i)) ∧ (∀ i, i < 7 → gA E2 109 i = nI i) ∧ gI E2 1562 95 = 0 ∧ gI E2 1563 95 = -1 ∧ gI E2 1564 95 = 0 ∧ gI E2 1565 95 = gA E 98 13 ∧ gI E2 1566 95 = 0 ∧ gI E2 1567 95 = 0 ∧ gI E2 1594 95 = 0 ∧ gI E2 1600 95 = 0) 65 [some (.ref 95), some (.int (nI k9))] [] E2 137) (Inv := fun k9 E2 => MF [] [109] e9 E2 ∧ ∀ i, i < k9 → gA E2 109 i = nI i) (a := 0) (l := 7) (by decide) ?_ ?_
  · refine Sx.up (fun _ kk => r_aload_n 1 dX12_takeOver_0 rfl rfl kk) ?_
    refine Sx.up (fun _ kk => r_getR 4 dX12_takeOver_1 rfl f12_38 rfl rfl lt95 (mo_3 (mf_mo (mf_rfl (gs := []) (as := [])) hM)) kk) ?_
    refine Sx.up (fun _ kk => r_callS (M := mX12_takeOver) (pc := 4) 7 dX12_takeOver_4 rfl k12_311 hc1 rfl rfl (Nat.le_of_ble_eq_true rfl) kk) ?_
    refine Sx.up (fun _ kk => r_aload_n 8 dX12_takeOver_7 rfl rfl kk) ?_
    refine Sx.up (fun _ kk => r_getR 11 dX12_takeOver_8 rfl f12_42 rfl rfl lt95 (mo_4 (mf_mo (show MF [] [98, 99, 100, 101, 102, 103, 104, 105, 106] E e1 from mf_in f1 (by decide) (by decide)) hM)) kk) ?_
    refine Sx.up (fun _ kk => r_callS (M := mX12_takeOver) (pc := 11) 14 dX12_takeOver_11 rfl k12_311 hc2 rfl rfl (Nat.le_of_ble_eq_true rfl) kk) ?_
    refine Sx.up (fun _ kk => r_aload_n 15 dX12_takeOver_14 rfl rfl kk) ?_
    refine Sx.up (fun _ kk => r_getR 18 dX12_takeOver_15 rfl f12_45 rfl rfl lt95 (mo_5 (hMs2)) kk) ?_
    refine Sx.up (fun _ kk => r_callS (M := mX12_takeOver) (pc := 18) 21 dX12_takeOver_18 rfl k12_311 hc3 rfl rfl (Nat.le_of_ble_eq_true rfl) kk) ?_
    refine Sx.up (fun _ kk => r_aload_n 22 dX12_takeOver_21 rfl rfl kk) ?_
    refine Sx.up (fun _ kk => r_getR 25 dX12_takeOver_22 rfl f12_48 rfl rfl lt95 (mo_6 (hMs3)) kk) ?_
    refine Sx.up (fun _ kk => r_callS (M := mX12_takeOver) (pc := 25) 28 dX12_takeOver_25 rfl k12_311 hc4 rfl rfl (Nat.le_of_ble_eq_true rfl) kk) ?_
    refine Sx.up (fun _ kk => r_aload_n 29 dX12_takeOver_28 rfl rfl kk) ?_
    refine Sx.up (fun _ kk => r_getR 32 dX12_takeOver_29 rfl f12_50 rfl rfl lt95 (mo_7 (hMs4)) kk) ?_
    refine Sx.up (fun _ kk => r_callS (M := mX12_takeOver) (pc := 32) 35 dX12_takeOver_32 rfl k12_311 hc5 rfl rfl (Nat.le_of_ble_eq_true rfl) kk) ?_
    refine Sx.up (fun _ kk => r_aload_n 36 dX12_takeOver_35 rfl rfl kk) ?_
    refine Sx.up (fun _ kk => r_getR 39 dX12_takeOver_36 rfl f12_53 rfl rfl lt95 (mo_8 (hMs5)) kk) ?_
    refine Sx.up (fun _ kk => r_callS (M := mX12_takeOver) (pc := 39) 42 dX12_takeOver_39 rfl k12_311 hc6 rfl rfl (Nat.le_of_ble_eq_true rfl) kk) ?_
    refine Sx.up (fun _ kk => r_aload_n 43 dX12_takeOver_42 rfl rfl kk) ?_
    refine Sx.up (fun _ kk => r_getR 46 dX12_takeOver_43 rfl f12_56 rfl rfl lt95 (mo_9 (hMs6)) kk) ?_
    refine Sx.up (fun _ kk => r_callS (M := mX12_takeOver) (pc := 46) 49 dX12_takeOver_46 rfl k12_311 hc7 rfl rfl (Nat.le_of_ble_eq_true rfl) kk) ?_
    refine Sx.up (fun _ kk => r_aload_n 50 dX12_takeOver_49 rfl rfl kk) ?_
    refine Sx.up (fun _ kk => r_getR 53 dX12_takeOver_50 rfl f12_59 rfl rfl lt95 (mo_10 (hMs7)) kk) ?_
    refine Sx.up (fun _ kk => r_callS (M := mX12_takeOver) (pc := 53) 56 dX12_takeOver_53 rfl k12_311 hc8 rfl rfl (Nat.le_of_ble_eq_true rfl) kk) ?_
    refine Sx.up (fun _ kk => r_aload_n 57 dX12_takeOver_56 rfl rfl kk) ?_
    refine Sx.up (fun _ kk => r_getR 60 dX12_takeOver_57 rfl f12_62 rfl rfl lt95 (mo_11 (hMs8)) kk) ?_
    refine Sx.up (fun _ kk => r_callS (M := mX12_takeOver) (pc := 60) 63 dX12_takeOver_60 rfl k12_311 hc9 rfl rfl (Nat.le_of_ble_eq_true rfl) kk) ?_
    refine Sx.up (fun _ kk => r_iconst (0) 64 dX12_takeOver_63 rfl (by decide) kk) ?_
    refine Sx.up (fun _ kk => r_istore_n 65 dX12_takeOver_64 rfl (by decide) rfl kk) ?_
    exact loop e9 ⟨mf_rfl, fun i hi => absurd hi (Nat.not_lt_zero i)⟩
  · rintro E2 ⟨f2, i2⟩
    have hMx : MoOK E2 := mf_mo f2 hM9
    have a98 : gA E2 98 5 = gA E 98 13 := by rw [mf_gA f2 (by decide)]; exact q1 5 (by decide)
    refine Sx.up (fun _ kk => r_iload_n 66 dX12_takeOver_65 rfl rfl kk) ?_
    refine Sx.up (fun _ kk => r_bipush (7) 68 dX12_takeOver_66 rfl (by decide) kk) ?_
    refine Sx.up (fun _ kk => r_icmp_ge 71 84 dX12_takeOver_68 rfl (by decide) (fun _ => kk) (fun h68 => absurd (by decide) h68)) ?_
    refine Sx.up (fun _ kk => r_aload_n 85 dX12_takeOver_84 rfl rfl kk) ?_
    refine Sx.up (fun _ kk => r_iconst (0) 86 dX12_takeOver_85 rfl (by decide) kk) ?_
    refine Sx.up (fun _ kk => r_putI 89 dX12_takeOver_86 rfl f12_315 rfl lt95 kk) ?_
    refine Sx.up (fun _ kk => r_aload_n 90 dX12_takeOver_89 rfl rfl kk) ?_
    refine Sx.up (fun _ kk => r_iconst (-1) 91 dX12_takeOver_90 rfl (by decide) kk) ?_
    refine Sx.up (fun _ kk => r_putI 94 dX12_takeOver_91 rfl f12_81 rfl lt95 kk) ?_
    refine Sx.up (fun _ kk => r_aload_n 95 dX12_takeOver_94 rfl rfl kk) ?_
    refine Sx.up (fun _ kk => r_iconst (0) 96 dX12_takeOver_95 rfl (by decide) kk) ?_
    refine Sx.up (fun _ kk => r_putI 99 dX12_takeOver_96 rfl f12_318 rfl lt95 kk) ?_
    refine Sx.up (fun _ kk => r_aload_n 100 dX12_takeOver_99 rfl rfl kk) ?_
    refine Sx.up (fun _ kk => r_aload_n 101 dX12_takeOver_100 rfl rfl kk) ?_
    refine Sx.up (fun _ kk => r_getR 104 dX12_takeOver_101 rfl f12_38 rfl rfl lt95 (mo_3 hMx) kk) ?_
    refine Sx.up (fun _ kk => r_iconst (5) 105 dX12_takeOver_104 rfl (by decide) kk) ?_
    refine Sx.up (fun _ kk => r_ialdN (5) (gA E 98 13) 106 dX12_takeOver_105 rfl rfl (Nat.le_of_ble_eq_true rfl) (by decide) (Nat.le_of_ble_eq_true rfl) (Nat.le_of_ble_eq_true rfl) (a98) kk) ?_
    refine Sx.up (fun _ kk => r_putI 109 dX12_takeOver_106 rfl f12_321 rfl lt95 kk) ?_
    refine Sx.up (fun _ kk => r_aload_n 110 dX12_takeOver_109 rfl rfl kk) ?_
    refine Sx.up (fun _ kk => r_iconst (0) 111 dX12_takeOver_110 rfl (by decide) kk) ?_
    refine Sx.up (fun _ kk => r_putI 114 dX12_takeOver_111 rfl f12_324 rfl lt95 kk) ?_
    refine Sx.up (fun _ kk => r_aload_n 115 dX12_takeOver_114 rfl rfl kk) ?_
    refine Sx.up (fun _ kk => r_iconst (0) 116 dX12_takeOver_115 rfl (by decide) kk) ?_
    refine Sx.up (fun _ kk => r_putI 119 dX12_takeOver_116 rfl f12_327 rfl lt95 kk) ?_
    refine Sx.up (fun _ kk => r_aload_n 120 dX12_takeOver_119 rfl rfl kk) ?_
    refine Sx.up (fun _ kk => r_iconst (0) 121 dX12_takeOver_120 rfl (by decide) kk) ?_
    refine Sx.up (fun _ kk => r_putZ 124 dX12_takeOver_121 rfl f12_330 rfl lt95 (by decide) kk) ?_
    refine Sx.up (fun _ kk => r_aload_n 125 dX12_takeOver_124 rfl rfl kk) ?_
    refine Sx.up (fun _ kk => r_iconst (0) 126 dX12_takeOver_125 rfl (by decide) kk) ?_
    refine Sx.up (fun _ kk => r_putZ 129 dX12_takeOver_126 rfl f12_334 rfl lt95 (by decide) kk) ?_
    refine ⟨_, ?_, r_vret dX12_takeOver_129 rfl rfl rfl⟩
    refine ⟨_, rfl, ?_, ?_, ?_, ?_, ?_, ?_, ?_, ?_, ?_, ?_, ?_⟩
    · exact mf_sI (by decide) (mf_sI (by decide) (mf_sI (by decide) (mf_sI (by decide) (mf_sI (by decide) (mf_sI (by decide) (mf_sI (by decide) (mf_sI (by decide) (mf_tr (mf_in f0 (by decide) (by decide)) (mf_in f2 (by decide) (by decide))))))))))
    · intro q hq i hi
      have h109 : ∀ q ∈ halfL, q.1 ≠ 109 := by decide
      exact (congrFun (mf_gA f2 (by simp [h109 q hq])) i).trans (hall q hq i hi)
    · exact i2
    · simp [gI_sI]
    · simp [gI_sI]
    · simp [gI_sI]
    · simp [gI_sI]
    · simp [gI_sI]
    · simp [gI_sI]
    · simp [gI_sI]
    · simp [gI_sI]
  · rintro k9 E2 - hk ⟨f2, i2⟩ hgo
    have hMx : MoOK E2 := mf_mo f2 hM9
    refine Sx.up (fun _ kk => r_iload_n 66 dX12_takeOver_65 rfl rfl kk) ?_
    refine Sx.up (fun _ kk => r_bipush (7) 68 dX12_takeOver_66 rfl (by decide) kk) ?_
    refine Sx.up (fun _ kk => r_icmp_ge 71 84 dX12_takeOver_68 rfl (by decide) (fun h68 => absurd h68 (nI_ge (b := 7) hk (by omega))) (fun _ => kk)) ?_
    refine Sx.up (fun _ kk => r_aload_n 72 dX12_takeOver_71 rfl rfl kk) ?_
    refine Sx.up (fun _ kk => r_getR 75 dX12_takeOver_72 rfl f12_75 rfl rfl lt95 (mo_24 hMx) kk) ?_
    refine Sx.up (fun _ kk => r_iload_n 76 dX12_takeOver_75 rfl rfl kk) ?_
    refine Sx.up (fun _ kk => r_iload_n 77 dX12_takeOver_76 rfl rfl kk) ?_
    refine Sx.up (fun _ kk => r_iastN (k9) 78 dX12_takeOver_77 rfl rfl (Nat.le_of_ble_eq_true rfl) (rfl) (by omega) (Nat.le_of_ble_eq_true rfl) kk) ?_
    refine Sx.up (fun _ kk => r_iinc (1) 81 dX12_takeOver_78 rfl rfl (by decide) (by decide) rfl kk) ?_
    refine Sx.up (fun _ kk => r_goto 65 dX12_takeOver_81 (by decide) kk) ?_
    rw [nI_pp]
    refine hgo _ ⟨mf_sA (by simp) f2, fun i hi => ?_⟩
    rw [gA_sA]
    by_cases e : i = k9
    · rw [if_pos ⟨rfl, e⟩, e]
    · rw [if_neg (fun z => e z.2)]; exact i2 i (by omega)
set_option maxRecDepth 20000 in
theorem m_bedX {d t : Nat} {E : HP} {w : Int32} (hM : MoOK E) (ht : gI E 1550 95 = nI t) (hw : ¬ inC w (nI t)) : ∃ E2, AQ E E2 1 ∧ Cl yX12_bed mX12_bed (d + 60) 0 0 [.ref 95, .int w] E 137 (.inl (some (.int 0)), E2, 137) := by
  refine ⟨sI (sI E 1538 95 0) 1538 95 1, mq_fail, ?_⟩
  have ht0 : gI (sI E 1538 95 0) 1550 95 = nI t := by rw [gI_sI, if_neg (by decide)]; exact ht
  have hfa := c_fail (d := d + 59) (E := sI E 1538 95 0) (k := 1)
  refine Cl.of (by decide) rfl (fun q => by cases q) rfl rfl (Nat.le_of_ble_eq_true rfl) ?_
  show Sm _ _ _ _ _ 0 [some (.ref 95), some (.int (w)), none] [] _ _
  refine r_aload_n 1 dX12_bed_0 rfl rfl ?_
  refine r_iconst (0) 2 dX12_bed_1 rfl (by decide) ?_
  refine r_putI 5 dX12_bed_2 rfl f12_159 rfl lt95 ?_
  refine r_iload_n 6 dX12_bed_5 rfl rfl ?_
  refine r_if_lt 9 17 dX12_bed_6 rfl (by decide) (fun h6 => ?_) (fun h6 => ?_)
  · refine r_aload_n 18 dX12_bed_17 rfl rfl ?_
    refine r_iconst (1) 19 dX12_bed_18 rfl (by decide) ?_
    refine r_callV (M := mX12_bed) (pc := 19) 22 dX12_bed_19 rfl k12_302 hfa rfl rfl rfl (by decide) rfl lt95 (Nat.le_of_ble_eq_true rfl) ?_
    exact r_iret dX12_bed_22 rfl rfl (rfl)
  · refine r_iload_n 10 dX12_bed_9 rfl rfl ?_
    refine r_aload_n 11 dX12_bed_10 rfl rfl ?_
    refine r_getIV (nI t) 14 dX12_bed_11 rfl f12_166 rfl rfl lt95 (ht0) ?_
    refine r_icmp_le 17 23 dX12_bed_14 rfl (by decide) (fun h14 => absurd h14 (fun z => hw ⟨h6, z⟩)) (fun h14 => ?_)
    refine r_aload_n 18 dX12_bed_17 rfl rfl ?_
    refine r_iconst (1) 19 dX12_bed_18 rfl (by decide) ?_
    refine r_callV (M := mX12_bed) (pc := 19) 22 dX12_bed_19 rfl k12_302 hfa rfl rfl rfl (by decide) rfl lt95 (Nat.le_of_ble_eq_true rfl) ?_
    exact r_iret dX12_bed_22 rfl rfl (rfl)
theorem li_adv {T : TX} {s : PS} {a2 : Nat} {B2 : BD} (h : liS T s = .inr (a2, B2)) : ∃ a B, s = .inr (a, B) ∧ a + 1 ≤ a2 := by
  unfold liS at h
  have hm := mo_line (T := T) (s := s)
  rcases hm with ⟨x, e⟩ | ⟨a, B, a1, B1, e1, e2, e3, -⟩
  · rw [e] at h; cases h
  · rw [e2] at h
    have h : (if sgS T 59 (.inr (a1, B1)) = true then advS T (.inr (a1, B1)) else fltS 1 (.inr (a1, B1))) = .inr (a2, B2) := h
    by_cases c : sgS T 59 (.inr (a1, B1)) = true
    · rw [if_pos c] at h
      have h := Sum.inr.inj (show (.inr (nxT T a1, B1) : PS) = .inr (a2, B2) from h)
      cases h
      have hn := (nxT_le (T := T) (a := a1)).2.2 (by rw [isS_kd (T := T) (a := a1) (c := 59) c]; decide)
      exact ⟨a, B, e1, by omega⟩
    · rw [if_neg c] at h; cases h
theorem aft_li {T : TX} {m : Nat} {s : PS} (h : aft m s) : aft (m + 1) (liS T s) := by
  cases hz : liS T s with
  | inl x => trivial
  | inr q =>
    obtain ⟨a, B, e, h1⟩ := li_adv (a2 := q.1) (B2 := q.2) hz
    rw [e] at h
    have h : m ≤ a := h
    show m + 1 ≤ q.1
    omega
theorem md_go {E0 E : HP} {T : TX} {a : Nat} {B : BD} (y1 : CMd E0 E T (.inr (a, B))) : gI E 1553 95 = 0 ↔ ¬ goC T (.inr (a, B)) = true := by
  have h := md_k y1 (k := 0) (by decide)
  constructor
  · intro z q
    exact of_decide_eq_true q (h.mp z)
  · intro z
    refine h.mpr ?_
    by_cases e : kdT T a = 0
    · exact e
    · exact absurd (decide_eq_true e) z
def MBx (E E2 : HP) (f p : Nat) : Prop := MF [1538, 1550, 1551, 1552, 1553, 1554, 1555, 1556, 1557, 1558, 1559] (107 :: asP) E E2 ∧ (∀ q ∈ halfL, ∀ i, i < q.2 → gA E2 q.1 i = gA E q.1 i) ∧ gI E2 1538 95 = 0 ∧ gI E2 1550 95 = 0 ∧ gI E2 1559 95 = nI p ∧ ∀ i, gA E2 107 i = if i = 0 then gA E 107 0 + 1 else gA E 107 i
def MBo (E E2 : HP) (B : BD) : Prop := MF [1538, 1550, 1551, 1552, 1553, 1554, 1555, 1556, 1557, 1558, 1559, 1562, 1563, 1564, 1565, 1566, 1567, 1594, 1600] (109 :: asP) E E2 ∧ gI E2 1538 95 = 0 ∧ gI E2 1550 95 = 0 ∧ gI E2 1559 95 = -1 ∧ (∀ i, i < 7 → gA E2 109 i = nI i) ∧ gI E2 1562 95 = 0 ∧ gI E2 1563 95 = -1 ∧ gI E2 1564 95 = 0 ∧ gI E2 1565 95 = bX B 4 ∧ gI E2 1566 95 = 0 ∧ gI E2 1567 95 = 0 ∧ gI E2 1594 95 = 0 ∧ gI E2 1600 95 = 0 ∧ gA E2 98 0 = nI (bC B) ∧ (∀ i, i < 5 → gA E2 98 (1 + i) = bX B i) ∧ gA E2 98 6 = nI (bN B) ∧ gA E2 98 7 = nI (bR B).length ∧ (∀ i, i < (bR B).length → gA E2 106 i = mS ((bR B).getD i 0)) ∧ ∀ s, s < bC B → gA E2 99 s = bL B 1 s ∧ gA E2 100 (2 * s) = bL B 2 s ∧ gA E2 100 (2 * s + 1) = bL B 3 s ∧ gA E2 101 s = bL B 4 s ∧ gA E2 102 s = bL B 5 s ∧ gA E2 103 s = bL B 6 s ∧ gA E2 104 s = bL B 7 s ∧ gA E2 105 s = bE B s
def bedA (E : HP) (k : Nat) : HP := sI (sI (sI (sI (sI (sI E 1538 95 0) 1550 95 0) 1552 95 (nI k)) 1551 95 0) 1557 95 0) 1559 95 (-1)
def bedB (E : HP) (k : Nat) : HP := sA (sA (sA (sA (sA (sA (sA (sA (bedA E k) 98 8 0) 98 9 20) 98 10 3) 98 11 480) 98 12 15) 98 13 0) 98 14 0) 98 15 0
theorem bedA_mf {E : HP} {k : Nat} : MF [1538, 1550, 1551, 1552, 1557, 1559] [] E (bedA E k) := mf_sI (by decide) (mf_sI (by decide) (mf_sI (by decide) (mf_sI (by decide) (mf_sI (by decide) (mf_sI (by decide) mf_rfl)))))
theorem bedB_mf {E : HP} {k : Nat} : MF [] [98] (bedA E k) (bedB E k) := mf_sA (by decide) (mf_sA (by decide) (mf_sA (by decide) (mf_sA (by decide) (mf_sA (by decide) (mf_sA (by decide) (mf_sA (by decide) (mf_sA (by decide) mf_rfl)))))))
theorem bedB_tf {E : HP} {k : Nat} {T : TX} (hM : MoOK E) (hQ : QS E) (hk : T.2 = k) (hT : ∀ i, i < T.2 → gA E 108 i = T.1 i) : TmF (bedB E k) T := by
  have f : MF [1538, 1550, 1551, 1552, 1557, 1559] [98] E (bedB E k) := mf_tr (mf_in bedA_mf (by decide) (by decide)) (mf_in bedB_mf (by decide) (by decide))
  refine ⟨mf_mo f hM, ⟨fun i hi => by rw [mf_gQ f]; exact hQ.1 i hi, fun i hi => by rw [mf_gQ f]; exact hQ.2 i hi⟩, ?_, fun i hi => by rw [mf_gA f (by decide)]; exact hT i hi⟩
  rw [mf_gI bedB_mf (by decide)]
  unfold bedA
  rw [gI_sI, if_neg (by decide), gI_sI, if_neg (by decide), gI_sI, if_neg (by decide), gI_sI, if_pos ⟨rfl, rfl⟩, hk]
theorem bedB_bd {E E2 : HP} {k : Nat} {gs : List Nat} (f : MF gs [] (bedB E k) E2) : BdM E2 bd0 := by
  have e : ∀ a, gA E2 a = gA (bedB E k) a := fun a => f.2.2.1 a List.not_mem_nil
  unfold BdM
  rw [e 98]
  refine ⟨by unfold bedB; simp [gA_sA]; rfl, Nat.zero_le _, fun s hs => absurd hs (Nat.not_lt_zero s), fun _ _ _ => rfl, fun i hi => ?_, by unfold bedB; simp [gA_sA]; rfl, Nat.zero_le _, by unfold bedB; simp [gA_sA]; rfl, Nat.zero_le _, fun i hi => absurd hi (Nat.not_lt_zero i)⟩
  match i, hi with
  | 0, _ => unfold bedB; simp [gA_sA]; rfl
  | 1, _ => unfold bedB; simp [gA_sA]; rfl
  | 2, _ => unfold bedB; simp [gA_sA]; rfl
  | 3, _ => unfold bedB; simp [gA_sA]; rfl
  | 4, _ => unfold bedB; simp [gA_sA]; rfl
theorem bedB_half {E : HP} {k : Nat} : ∀ q ∈ halfL, ∀ i, i < q.2 → gA (bedB E k) q.1 i = gA E q.1 i := by
  intro q hq i hi
  have h98 : ∀ q ∈ halfL, q.1 = 98 → q.2 = 8 := by decide
  by_cases h : q.1 = 98
  · have h8 := h98 q hq h
    rw [h]
    unfold bedB
    rw [gA_sA, if_neg (by omega), gA_sA, if_neg (by omega), gA_sA, if_neg (by omega), gA_sA, if_neg (by omega), gA_sA, if_neg (by omega), gA_sA, if_neg (by omega), gA_sA, if_neg (by omega), gA_sA, if_neg (by omega)]
    exact congrFun (mf_gA (bedA_mf (E := E) (k := k)) List.not_mem_nil) i
  · exact (congrFun (mf_gA (bedB_mf (E := E) (k := k)) (by simp [h])) i).trans (congrFun (mf_gA (bedA_mf (E := E) (k := k)) List.not_mem_nil) i)
set_option maxHeartbeats 16000000 in
set_option maxRecDepth 20000 in
theorem m_bed {d t k : Nat} {E : HP} {T : TX} (hM : MoOK E) (hQ : QS E) (ht : gI E 1550 95 = nI t) (h6 : t ≤ 600) (hk : k ≤ t) (hTk : T.2 = k) (hTx : ∀ i, i < T.2 → gA E 108 i = T.1 i) (hT : TXok T) : ∃ o, ((∃ E2 f p, o = (.inl (some (.int (nI f))), E2, 137) ∧ textS T = .inl (f, p) ∧ 1 ≤ f ∧ f ≤ 5 ∧ MBx E E2 f p) ∨ (∃ E2 a B, o = (.inl (some (.int 0)), E2, 137) ∧ textS T = .inr (a, B) ∧ MBo E E2 B)) ∧ Cl yX12_bed mX12_bed (d + 60) 0 0 [.ref 95, .int (nI k)] E 137 o := by
  have ht0 : gI (sI E 1538 95 0) 1550 95 = nI t := by rw [gI_sI, if_neg (by decide)]; exact ht
  have hMA : MoOK (bedA E k) := mf_mo bedA_mf hM
  have hMB : MoOK (bedB E k) := mf_mo bedB_mf hMA
  have hTF := bedB_tf hM hQ hTk hTx
  have hat : gI (bedB E k) 1551 95 = nI 0 := by rw [mf_gI bedB_mf (by decide)]; unfold bedA; simp [gI_sI]; rfl
  have hbad : gI (bedB E k) 1557 95 = 0 := by rw [mf_gI bedB_mf (by decide)]; unfold bedA; simp [gI_sI]
  obtain ⟨_, ⟨E9, rfl, f9, hA9⟩, hst⟩ := c_stepOn (d := d + 58) hT hTF hat (Nat.zero_le _)
  have y0 : CMd (bedB E k) E9 T (.inr (toB T 0, bd0)) := ⟨⟨hT, tmf_mf f9 (by decide) (by decide) hTF, mf_in f9 (by decide) (by decide), fun q _ i _ => by rw [f9.2.2.1 q.1 List.not_mem_nil]⟩, (mf_gI f9 (by decide)).trans hbad, (runT_le (T := T) (k := 4) (i := 0)).2 (Nat.zero_le _), hA9, bedB_bd f9⟩
  refine Cx.of (by decide) rfl (fun q => by cases q) rfl rfl (Nat.le_of_ble_eq_true rfl) ?_
  show Sx _ _ _ _ _ 0 [some (.ref 95), some (.int (nI k)), none] [] _ _
  have k141 : ∀ E2 s dn, CMd (bedB E k) E2 T s → textS T = s → Sx mX12_bed (d + 60) 0 0 (fun o => (∃ E2 f p, o = (.inl (some (.int (nI f))), E2, 137) ∧ textS T = .inl (f, p) ∧ 1 ≤ f ∧ f ≤ 5 ∧ MBx E E2 f p) ∨ (∃ E2 a B, o = (.inl (some (.int 0)), E2, 137) ∧ textS T = .inr (a, B) ∧ MBo E E2 B)) 141 [some (.ref 95), some (.int (nI k)), some (.int dn)] [] E2 137 := by
    intro E2 s dn y1 hs
    have hM2 := md_M y1
    obtain ⟨⟨-, -, hHF⟩, hSt⟩ := id y1
    cases s with
    | inl x =>
      obtain ⟨f, p⟩ := x
      obtain ⟨c1, c2, c3, c4⟩ := hSt
      have hb := md_1b y1
      refine Sx.up (fun _ kk => r_aload_n 142 dX12_bed_141 rfl rfl kk) ?_
      refine Sx.up (fun _ kk => r_getIV (nI f) 145 dX12_bed_142 rfl f12_208 rfl rfl lt95 (c1) kk) ?_
      refine Sx.up (fun _ kk => r_if_eq 148 171 dX12_bed_145 rfl (by decide) (fun h145 => absurd h145 (fun z => hb (c1.trans z))) (fun _ => kk)) ?_
      refine Sx.up (fun _ kk => r_aload_n 149 dX12_bed_148 rfl rfl kk) ?_
      refine Sx.up (fun _ kk => r_aload_n 150 dX12_bed_149 rfl rfl kk) ?_
      refine Sx.up (fun _ kk => r_getIV (nI p) 153 dX12_bed_150 rfl f12_211 rfl rfl lt95 (c4) kk) ?_
      refine Sx.up (fun _ kk => r_putI 156 dX12_bed_153 rfl f12_71 rfl lt95 kk) ?_
      refine Sx.up (fun _ kk => r_aload_n 157 dX12_bed_156 rfl rfl kk) ?_
      refine Sx.up (fun _ kk => r_getR 160 dX12_bed_157 rfl f12_65 rfl rfl lt95 (mo_12 hM2) kk) ?_
      refine Sx.up (fun _ kk => r_iconst (0) 161 dX12_bed_160 rfl (by decide) kk) ?_
      refine Sx.up (fun _ kk => r_dup2 162 dX12_bed_161 rfl rfl rfl kk) ?_
      refine Sx.up (fun _ kk => r_ialdN (0) (_) 163 dX12_bed_162 rfl rfl (Nat.le_of_ble_eq_true rfl) (by decide) (Nat.le_of_ble_eq_true rfl) (Nat.le_of_ble_eq_true rfl) (rfl) kk) ?_
      refine Sx.up (fun _ kk => r_iconst (1) 164 dX12_bed_163 rfl (by decide) kk) ?_
      refine Sx.up (fun _ kk => r_iadd 165 dX12_bed_164 rfl kk) ?_
      refine Sx.up (fun _ kk => r_iastN (0) 166 dX12_bed_165 rfl rfl (Nat.le_of_ble_eq_true rfl) (by decide) (Nat.le_of_ble_eq_true rfl) (Nat.le_of_ble_eq_true rfl) kk) ?_
      refine Sx.up (fun _ kk => r_aload_n 167 dX12_bed_166 rfl rfl kk) ?_
      refine Sx.up (fun _ kk => r_getIV (nI f) 170 dX12_bed_167 rfl f12_208 rfl rfl lt95 (by rw [gI_sA, gI_sI, if_neg (by decide)]; exact c1) kk) ?_
      refine ⟨_, ?_, r_iret dX12_bed_170 rfl rfl rfl⟩
      refine Or.inl ⟨_, f, p, rfl, hs, c2, c3, ?_⟩
      have hm : MF [1538, 1550, 1551, 1552, 1553, 1554, 1555, 1556, 1557, 1558, 1559] asP E E2 := mf_tr (mf_in bedA_mf (by decide) (by decide)) (mf_tr (mf_in bedB_mf (by decide) (by decide)) (mf_in hHF.1 (by decide) (by decide)))
      refine ⟨mf_sA (by simp) (mf_sI (by decide) (mf_in hm (by decide) (by decide))), fun q hq i hi => ?_, ?_, ?_, ?_, fun i => ?_⟩
      · have h107 : ∀ q ∈ halfL, q.1 ≠ 107 := by decide
        rw [gA_sA, if_neg (fun z => h107 q hq z.1), gA_sI, hHF.2 q hq i hi]
        exact bedB_half q hq i hi
      · rw [gI_sA, gI_sI, if_neg (by decide), mf_gI hHF.1 (by decide), mf_gI bedB_mf (by decide)]; unfold bedA; simp [gI_sI]
      · rw [gI_sA, gI_sI, if_neg (by decide), mf_gI hHF.1 (by decide), mf_gI bedB_mf (by decide)]; unfold bedA; simp [gI_sI]
      · rw [gI_sA, gI_sI, if_pos ⟨rfl, rfl⟩]
      · rw [gA_sA, gA_sI, mf_gA hm (by decide)]
        simp only [true_and]
    | inr x =>
      obtain ⟨a, B⟩ := x
      obtain ⟨c1, c2, c3, o1, o2, o3, o4, o5, o6, o7, o8, o9, o10⟩ := hSt
      obtain ⟨_, ⟨E3, rfl, f3, p3, r3, s1, s2, s3, s4, s5, s6, s7, s8⟩, hov⟩ := c_over (d := d + 58) hM2
      refine Sx.up (fun _ kk => r_aload_n 142 dX12_bed_141 rfl rfl kk) ?_
      refine Sx.up (fun _ kk => r_getIV (0) 145 dX12_bed_142 rfl f12_208 rfl rfl lt95 (c1) kk) ?_
      refine Sx.up (fun _ kk => r_if_eq 148 171 dX12_bed_145 rfl (by decide) (fun _ => kk) (fun h145 => absurd rfl h145)) ?_
      refine Sx.up (fun _ kk => r_aload_n 172 dX12_bed_171 rfl rfl kk) ?_
      refine Sx.up (fun _ kk => r_callV (M := mX12_bed) (pc := 172) 175 dX12_bed_172 rfl k12_308 hov rfl rfl rfl (by decide) rfl lt95 (Nat.le_of_ble_eq_true rfl) kk) ?_
      refine Sx.up (fun _ kk => r_iconst (0) 176 dX12_bed_175 rfl (by decide) kk) ?_
      refine ⟨_, ?_, r_iret dX12_bed_176 rfl rfl rfl⟩
      refine Or.inr ⟨_, a, B, rfl, hs, ?_⟩
      have hm : MF [1538, 1550, 1551, 1552, 1553, 1554, 1555, 1556, 1557, 1558, 1559] asP E E2 := mf_tr (mf_in bedA_mf (by decide) (by decide)) (mf_tr (mf_in bedB_mf (by decide) (by decide)) (mf_in hHF.1 (by decide) (by decide)))
      have l7 := o2
      have g : ∀ q ∈ halfL, ∀ i, i < q.2 → gA E3 q.1 i = gA E2 q.1 (q.2 + i) := p3
      have g98 : ∀ i, i < 8 → gA E3 98 i = gA E2 98 (8 + i) := g (98, 8) (by decide)
      have g99 : ∀ i, i < 7 → gA E3 99 i = gA E2 99 (7 + i) := g (99, 7) (by decide)
      have g100 : ∀ i, i < 14 → gA E3 100 i = gA E2 100 (14 + i) := g (100, 14) (by decide)
      have g101 : ∀ i, i < 7 → gA E3 101 i = gA E2 101 (7 + i) := g (101, 7) (by decide)
      have g102 : ∀ i, i < 7 → gA E3 102 i = gA E2 102 (7 + i) := g (102, 7) (by decide)
      have g103 : ∀ i, i < 7 → gA E3 103 i = gA E2 103 (7 + i) := g (103, 7) (by decide)
      have g104 : ∀ i, i < 7 → gA E3 104 i = gA E2 104 (7 + i) := g (104, 7) (by decide)
      have g105 : ∀ i, i < 7 → gA E3 105 i = gA E2 105 (7 + i) := g (105, 7) (by decide)
      have g106 : ∀ i, i < 600 → gA E3 106 i = gA E2 106 (600 + i) := g (106, 600) (by decide)
      refine ⟨mf_tr (mf_in hm (by decide) (by decide)) (mf_in f3 (by decide) (by decide)), ?_, ?_, ?_, r3, s1, s2, s3, ?_, s5, s6, s7, s8, ?_, fun i hi => ?_, ?_, ?_, fun i hi => ?_, fun s hs => ?_⟩
      · rw [mf_gI f3 (by decide), mf_gI hHF.1 (by decide), mf_gI bedB_mf (by decide)]; unfold bedA; simp [gI_sI]
      · rw [mf_gI f3 (by decide), mf_gI hHF.1 (by decide), mf_gI bedB_mf (by decide)]; unfold bedA; simp [gI_sI]
      · rw [mf_gI f3 (by decide), mf_gI hHF.1 (by decide), mf_gI bedB_mf (by decide)]; unfold bedA; simp [gI_sI]
      · rw [s4]; exact o5 4 (by decide)
      · rw [g98 0 (by decide)]; exact o1
      · rw [g98 (1 + i) (by omega), show 8 + (1 + i) = 9 + i by omega]; exact o5 i hi
      · rw [g98 6 (by decide)]; exact o6
      · rw [g98 7 (by decide)]; exact o8
      · rw [g106 i (by omega)]; exact o10 i hi
      · obtain ⟨a1, a2, a3, a4, a5, a6, a7, a8⟩ := o3 s hs
        rw [g99 s (by omega), g100 (2 * s) (by omega), g100 (2 * s + 1) (by omega), g101 s (by omega), g102 s (by omega), g103 s (by omega), g104 s (by omega), g105 s (by omega), show 14 + 2 * s = 2 * (7 + s) by omega, show 14 + (2 * s + 1) = 2 * (7 + s) + 1 by omega]
        exact ⟨a1, a2, a3, a4, a5, a6, a7, a8⟩
  have loop : ∀ f, f ≤ T.2 → ∀ E2 s dn, CMd (bedB E k) E2 T s → slk 0 s → aft (T.2 - f) s → (∀ a B, s = .inr (a, B) → dn = bX B 5) → textS T = loopS (goC T) (liS T) f s → Sx mX12_bed (d + 60) 0 0 (fun o => (∃ E2 f p, o = (.inl (some (.int (nI f))), E2, 137) ∧ textS T = .inl (f, p) ∧ 1 ≤ f ∧ f ≤ 5 ∧ MBx E E2 f p) ∨ (∃ E2 a B, o = (.inl (some (.int 0)), E2, 137) ∧ textS T = .inr (a, B) ∧ MBo E E2 B)) 118 [some (.ref 95), some (.int (nI k)), some (.int dn)] [] E2 137 := by
    intro f
    induction f with
    | zero =>
      intro _ E2 s dn y1 hs0 ha hdn htx
      have htx : textS T = s := htx
      cases s with
      | inl x =>
        have hb := md_1b y1
        refine Sx.up (fun _ kk => r_aload_n 119 dX12_bed_118 rfl rfl kk) ?_
        refine Sx.up (fun _ kk => r_getI 122 dX12_bed_119 rfl f12_208 rfl rfl lt95 kk) ?_
        refine Sx.up (fun _ kk => r_if_ne 125 141 dX12_bed_122 rfl (by decide) (fun _ => kk) (fun h122 => absurd h122 hb)) ?_
        exact k141 E2 _ dn y1 htx
      | inr x =>
        obtain ⟨a, B⟩ := x
        have hb := md_0b y1 ⟨_, rfl⟩
        have ha : T.2 ≤ a := ha
        have hg := (md_go y1).mpr (fun q => of_decide_eq_true q (kd_0 (by omega)))
        refine Sx.up (fun _ kk => r_aload_n 119 dX12_bed_118 rfl rfl kk) ?_
        refine Sx.up (fun _ kk => r_getI 122 dX12_bed_119 rfl f12_208 rfl rfl lt95 kk) ?_
        refine Sx.up (fun _ kk => r_if_ne 125 141 dX12_bed_122 rfl (by decide) (fun h122 => absurd h122 (fun z => z hb)) (fun _ => kk)) ?_
        refine Sx.up (fun _ kk => r_aload_n 126 dX12_bed_125 rfl rfl kk) ?_
        refine Sx.up (fun _ kk => r_getI 129 dX12_bed_126 rfl f12_182 rfl rfl lt95 kk) ?_
        refine Sx.up (fun _ kk => r_if_eq 132 141 dX12_bed_129 rfl (by decide) (fun _ => kk) (fun h129 => absurd hg h129)) ?_
        exact k141 E2 _ dn y1 htx
    | succ f ih =>
      intro hf E2 s dn y1 hs0 ha hdn htx
      cases s with
      | inl x =>
        have hb := md_1b y1
        have htx : textS T = .inl x := htx
        refine Sx.up (fun _ kk => r_aload_n 119 dX12_bed_118 rfl rfl kk) ?_
        refine Sx.up (fun _ kk => r_getI 122 dX12_bed_119 rfl f12_208 rfl rfl lt95 kk) ?_
        refine Sx.up (fun _ kk => r_if_ne 125 141 dX12_bed_122 rfl (by decide) (fun _ => kk) (fun h122 => absurd h122 hb)) ?_
        exact k141 E2 _ dn y1 htx
      | inr x =>
        obtain ⟨a, B⟩ := x
        have hb := md_0b y1 ⟨_, rfl⟩
        by_cases hg : goC T (.inr (a, B)) = true
        · have htx : textS T = loopS (goC T) (liS T) f (liS T (.inr (a, B))) := htx.trans (if_pos hg)
          have hne : ¬ gI E2 1553 95 = 0 := fun z => (md_go y1).mp z hg
          obtain ⟨_, ⟨E3, v, rfl, y3, hv3⟩, hln⟩ := md_line (d := d + 13) y1 hs0 (hdn a B rfl)
          refine Sx.up (fun _ kk => r_aload_n 119 dX12_bed_118 rfl rfl kk) ?_
          refine Sx.up (fun _ kk => r_getI 122 dX12_bed_119 rfl f12_208 rfl rfl lt95 kk) ?_
          refine Sx.up (fun _ kk => r_if_ne 125 141 dX12_bed_122 rfl (by decide) (fun h122 => absurd h122 (fun z => z hb)) (fun _ => kk)) ?_
          refine Sx.up (fun _ kk => r_aload_n 126 dX12_bed_125 rfl rfl kk) ?_
          refine Sx.up (fun _ kk => r_getI 129 dX12_bed_126 rfl f12_182 rfl rfl lt95 kk) ?_
          refine Sx.up (fun _ kk => r_if_eq 132 141 dX12_bed_129 rfl (by decide) (fun h129 => absurd h129 hne) (fun _ => kk)) ?_
          refine Sx.up (fun _ kk => r_aload_n 133 dX12_bed_132 rfl rfl kk) ?_
          refine Sx.up (fun _ kk => r_iload_n 134 dX12_bed_133 rfl rfl kk) ?_
          refine Sx.up (fun _ kk => r_callV (M := mX12_bed) (pc := 134) 137 dX12_bed_134 rfl k12_305 hln rfl rfl rfl (by decide) rfl lt95 (Nat.le_of_ble_eq_true rfl) kk) ?_
          refine Sx.up (fun _ kk => r_istore_n 138 dX12_bed_137 rfl (by decide) rfl kk) ?_
          refine Sx.up (fun _ kk => r_goto 118 dX12_bed_138 (by decide) kk) ?_
          exact ih (by omega) E3 _ v y3 (slk_mo mo_li hs0) (by have h9 := aft_li (T := T) ha; rw [show T.2 - (f + 1) + 1 = T.2 - f by omega] at h9; exact h9) hv3 htx
        · have htx : textS T = .inr (a, B) := htx.trans (if_neg hg)
          have hz := (md_go y1).mpr hg
          refine Sx.up (fun _ kk => r_aload_n 119 dX12_bed_118 rfl rfl kk) ?_
          refine Sx.up (fun _ kk => r_getI 122 dX12_bed_119 rfl f12_208 rfl rfl lt95 kk) ?_
          refine Sx.up (fun _ kk => r_if_ne 125 141 dX12_bed_122 rfl (by decide) (fun h122 => absurd h122 (fun z => z hb)) (fun _ => kk)) ?_
          refine Sx.up (fun _ kk => r_aload_n 126 dX12_bed_125 rfl rfl kk) ?_
          refine Sx.up (fun _ kk => r_getI 129 dX12_bed_126 rfl f12_182 rfl rfl lt95 kk) ?_
          refine Sx.up (fun _ kk => r_if_eq 132 141 dX12_bed_129 rfl (by decide) (fun _ => kk) (fun h129 => absurd hz h129)) ?_
          exact k141 E2 _ dn y1 htx
  have hrow : ∀ a, sh 98 = a → a = (100, 16) := fun a h => h.symm
  refine Sx.up (fun _ kk => r_aload_n 1 dX12_bed_0 rfl rfl kk) ?_
  refine Sx.up (fun _ kk => r_iconst (0) 2 dX12_bed_1 rfl (by decide) kk) ?_
  refine Sx.up (fun _ kk => r_putI 5 dX12_bed_2 rfl f12_159 rfl lt95 kk) ?_
  refine Sx.up (fun _ kk => r_iload_n 6 dX12_bed_5 rfl rfl kk) ?_
  refine Sx.up (fun _ kk => r_if_lt 9 17 dX12_bed_6 rfl (by decide) (fun h6 => absurd h6 (nI_pos (by omega))) (fun _ => kk)) ?_
  refine Sx.up (fun _ kk => r_iload_n 10 dX12_bed_9 rfl rfl kk) ?_
  refine Sx.up (fun _ kk => r_aload_n 11 dX12_bed_10 rfl rfl kk) ?_
  refine Sx.up (fun _ kk => r_getIV (nI t) 14 dX12_bed_11 rfl f12_166 rfl rfl lt95 (ht0) kk) ?_
  refine Sx.up (fun _ kk => r_icmp_le 17 23 dX12_bed_14 rfl (by decide) (fun _ => kk) (fun h14 => absurd (nI_le hk (by omega)) h14)) ?_
  refine Sx.up (fun _ kk => r_aload_n 24 dX12_bed_23 rfl rfl kk) ?_
  refine Sx.up (fun _ kk => r_iconst (0) 25 dX12_bed_24 rfl (by decide) kk) ?_
  refine Sx.up (fun _ kk => r_putI 28 dX12_bed_25 rfl f12_166 rfl lt95 kk) ?_
  refine Sx.up (fun _ kk => r_aload_n 29 dX12_bed_28 rfl rfl kk) ?_
  refine Sx.up (fun _ kk => r_iload_n 30 dX12_bed_29 rfl rfl kk) ?_
  refine Sx.up (fun _ kk => r_putI 33 dX12_bed_30 rfl f12_169 rfl lt95 kk) ?_
  refine Sx.up (fun _ kk => r_aload_n 34 dX12_bed_33 rfl rfl kk) ?_
  refine Sx.up (fun _ kk => r_iconst (0) 35 dX12_bed_34 rfl (by decide) kk) ?_
  refine Sx.up (fun _ kk => r_putI 38 dX12_bed_35 rfl f12_172 rfl lt95 kk) ?_
  refine Sx.up (fun _ kk => r_aload_n 39 dX12_bed_38 rfl rfl kk) ?_
  refine Sx.up (fun _ kk => r_iconst (0) 40 dX12_bed_39 rfl (by decide) kk) ?_
  refine Sx.up (fun _ kk => r_putI 43 dX12_bed_40 rfl f12_208 rfl lt95 kk) ?_
  refine Sx.up (fun _ kk => r_aload_n 44 dX12_bed_43 rfl rfl kk) ?_
  refine Sx.up (fun _ kk => r_iconst (-1) 45 dX12_bed_44 rfl (by decide) kk) ?_
  refine Sx.up (fun _ kk => r_putI 48 dX12_bed_45 rfl f12_71 rfl lt95 kk) ?_
  refine Sx.up (fun _ kk => r_iconst (0) 49 dX12_bed_48 rfl (by decide) kk) ?_
  refine Sx.up (fun _ kk => r_istore_n 50 dX12_bed_49 rfl (by decide) rfl kk) ?_
  show Sx mX12_bed (d + 60) 0 0 _ 50 [some (.ref 95), some (.int (nI k)), some (.int 0)] [] (bedA E k) 137
  refine Sx.up (fun _ kk => r_iload_n 51 dX12_bed_50 rfl rfl kk) ?_
  refine Sx.up (fun _ kk => r_bipush (8) 53 dX12_bed_51 rfl (by decide) kk) ?_
  refine Sx.up (fun _ kk => r_icmp_ge 56 112 dX12_bed_53 rfl (by decide) (fun h53 => absurd h53 (by decide)) (fun _ => kk)) ?_
  refine Sx.up (fun _ kk => r_aload_n 57 dX12_bed_56 rfl rfl kk) ?_
  refine Sx.up (fun _ kk => r_getR 60 dX12_bed_57 rfl f12_38 rfl rfl lt95 (mo_3 (mf_mo (show MF [] [98] (bedA E k) _ from mf_rfl) hMA)) kk) ?_
  refine Sx.up (fun _ kk => r_bipush (8) 62 dX12_bed_60 rfl (by decide) kk) ?_
  refine Sx.up (fun _ kk => r_iload_n 63 dX12_bed_62 rfl rfl kk) ?_
  refine Sx.up (fun _ kk => r_iadd 64 dX12_bed_63 rfl kk) ?_
  refine Sx.up (fun _ kk => r_iload_n 65 dX12_bed_64 rfl rfl kk) ?_
  refine Sx.up (fun _ kk => r_iconst (1) 66 dX12_bed_65 rfl (by decide) kk) ?_
  refine Sx.up (fun _ kk => r_icmp_ne 69 74 dX12_bed_66 rfl (by decide) (fun _ => kk) (fun h66 => absurd h66 (by decide))) ?_
  refine Sx.up (fun _ kk => r_iload_n 75 dX12_bed_74 rfl rfl kk) ?_
  refine Sx.up (fun _ kk => r_iconst (2) 76 dX12_bed_75 rfl (by decide) kk) ?_
  refine Sx.up (fun _ kk => r_icmp_ne 79 83 dX12_bed_76 rfl (by decide) (fun _ => kk) (fun h76 => absurd h76 (by decide))) ?_
  refine Sx.up (fun _ kk => r_iload_n 84 dX12_bed_83 rfl rfl kk) ?_
  refine Sx.up (fun _ kk => r_iconst (3) 85 dX12_bed_84 rfl (by decide) kk) ?_
  refine Sx.up (fun _ kk => r_icmp_ne 88 94 dX12_bed_85 rfl (by decide) (fun _ => kk) (fun h85 => absurd h85 (by decide))) ?_
  refine Sx.up (fun _ kk => r_iload_n 95 dX12_bed_94 rfl rfl kk) ?_
  refine Sx.up (fun _ kk => r_iconst (4) 96 dX12_bed_95 rfl (by decide) kk) ?_
  refine Sx.up (fun _ kk => r_icmp_ne 99 104 dX12_bed_96 rfl (by decide) (fun _ => kk) (fun h96 => absurd h96 (by decide))) ?_
  refine Sx.up (fun _ kk => r_iconst (0) 105 dX12_bed_104 rfl (by decide) kk) ?_
  refine Sx.up (fun _ kk => r_iastN (8) 106 dX12_bed_105 rfl rfl (Nat.le_of_ble_eq_true rfl) (by decide) (Nat.le_of_ble_eq_true rfl) (Nat.le_of_ble_eq_true rfl) kk) ?_
  refine Sx.up (fun _ kk => r_iinc (1) 109 dX12_bed_106 rfl rfl (by decide) (by decide) rfl kk) ?_
  refine Sx.up (fun _ kk => r_goto 50 dX12_bed_109 (by decide) kk) ?_
  rw [show (0 : Int32) + 1 = 1 by decide]
  refine Sx.up (fun _ kk => r_iload_n 51 dX12_bed_50 rfl rfl kk) ?_
  refine Sx.up (fun _ kk => r_bipush (8) 53 dX12_bed_51 rfl (by decide) kk) ?_
  refine Sx.up (fun _ kk => r_icmp_ge 56 112 dX12_bed_53 rfl (by decide) (fun h53 => absurd h53 (by decide)) (fun _ => kk)) ?_
  refine Sx.up (fun _ kk => r_aload_n 57 dX12_bed_56 rfl rfl kk) ?_
  refine Sx.up (fun _ kk => r_getR 60 dX12_bed_57 rfl f12_38 rfl rfl lt95 (mo_3 (mf_mo (show MF [] [98] (bedA E k) _ from mf_sA (by decide) (mf_rfl)) hMA)) kk) ?_
  refine Sx.up (fun _ kk => r_bipush (8) 62 dX12_bed_60 rfl (by decide) kk) ?_
  refine Sx.up (fun _ kk => r_iload_n 63 dX12_bed_62 rfl rfl kk) ?_
  refine Sx.up (fun _ kk => r_iadd 64 dX12_bed_63 rfl kk) ?_
  refine Sx.up (fun _ kk => r_iload_n 65 dX12_bed_64 rfl rfl kk) ?_
  refine Sx.up (fun _ kk => r_iconst (1) 66 dX12_bed_65 rfl (by decide) kk) ?_
  refine Sx.up (fun _ kk => r_icmp_ne 69 74 dX12_bed_66 rfl (by decide) (fun h66 => absurd h66 (fun z => z rfl)) (fun _ => kk)) ?_
  refine Sx.up (fun _ kk => r_bipush (20) 71 dX12_bed_69 rfl (by decide) kk) ?_
  refine Sx.up (fun _ kk => r_goto 105 dX12_bed_71 (by decide) kk) ?_
  refine Sx.up (fun _ kk => r_iastN (9) 106 dX12_bed_105 rfl rfl (Nat.le_of_ble_eq_true rfl) (by decide) (Nat.le_of_ble_eq_true rfl) (Nat.le_of_ble_eq_true rfl) kk) ?_
  refine Sx.up (fun _ kk => r_iinc (1) 109 dX12_bed_106 rfl rfl (by decide) (by decide) rfl kk) ?_
  refine Sx.up (fun _ kk => r_goto 50 dX12_bed_109 (by decide) kk) ?_
  rw [show (1 : Int32) + 1 = 2 by decide]
  refine Sx.up (fun _ kk => r_iload_n 51 dX12_bed_50 rfl rfl kk) ?_
  refine Sx.up (fun _ kk => r_bipush (8) 53 dX12_bed_51 rfl (by decide) kk) ?_
  refine Sx.up (fun _ kk => r_icmp_ge 56 112 dX12_bed_53 rfl (by decide) (fun h53 => absurd h53 (by decide)) (fun _ => kk)) ?_
  refine Sx.up (fun _ kk => r_aload_n 57 dX12_bed_56 rfl rfl kk) ?_
  refine Sx.up (fun _ kk => r_getR 60 dX12_bed_57 rfl f12_38 rfl rfl lt95 (mo_3 (mf_mo (show MF [] [98] (bedA E k) _ from mf_sA (by decide) (mf_sA (by decide) (mf_rfl))) hMA)) kk) ?_
  refine Sx.up (fun _ kk => r_bipush (8) 62 dX12_bed_60 rfl (by decide) kk) ?_
  refine Sx.up (fun _ kk => r_iload_n 63 dX12_bed_62 rfl rfl kk) ?_
  refine Sx.up (fun _ kk => r_iadd 64 dX12_bed_63 rfl kk) ?_
  refine Sx.up (fun _ kk => r_iload_n 65 dX12_bed_64 rfl rfl kk) ?_
  refine Sx.up (fun _ kk => r_iconst (1) 66 dX12_bed_65 rfl (by decide) kk) ?_
  refine Sx.up (fun _ kk => r_icmp_ne 69 74 dX12_bed_66 rfl (by decide) (fun _ => kk) (fun h66 => absurd h66 (by decide))) ?_
  refine Sx.up (fun _ kk => r_iload_n 75 dX12_bed_74 rfl rfl kk) ?_
  refine Sx.up (fun _ kk => r_iconst (2) 76 dX12_bed_75 rfl (by decide) kk) ?_
  refine Sx.up (fun _ kk => r_icmp_ne 79 83 dX12_bed_76 rfl (by decide) (fun h76 => absurd h76 (fun z => z rfl)) (fun _ => kk)) ?_
  refine Sx.up (fun _ kk => r_iconst (3) 80 dX12_bed_79 rfl (by decide) kk) ?_
  refine Sx.up (fun _ kk => r_goto 105 dX12_bed_80 (by decide) kk) ?_
  refine Sx.up (fun _ kk => r_iastN (10) 106 dX12_bed_105 rfl rfl (Nat.le_of_ble_eq_true rfl) (by decide) (Nat.le_of_ble_eq_true rfl) (Nat.le_of_ble_eq_true rfl) kk) ?_
  refine Sx.up (fun _ kk => r_iinc (1) 109 dX12_bed_106 rfl rfl (by decide) (by decide) rfl kk) ?_
  refine Sx.up (fun _ kk => r_goto 50 dX12_bed_109 (by decide) kk) ?_
  rw [show (2 : Int32) + 1 = 3 by decide]
  refine Sx.up (fun _ kk => r_iload_n 51 dX12_bed_50 rfl rfl kk) ?_
  refine Sx.up (fun _ kk => r_bipush (8) 53 dX12_bed_51 rfl (by decide) kk) ?_
  refine Sx.up (fun _ kk => r_icmp_ge 56 112 dX12_bed_53 rfl (by decide) (fun h53 => absurd h53 (by decide)) (fun _ => kk)) ?_
  refine Sx.up (fun _ kk => r_aload_n 57 dX12_bed_56 rfl rfl kk) ?_
  refine Sx.up (fun _ kk => r_getR 60 dX12_bed_57 rfl f12_38 rfl rfl lt95 (mo_3 (mf_mo (show MF [] [98] (bedA E k) _ from mf_sA (by decide) (mf_sA (by decide) (mf_sA (by decide) (mf_rfl)))) hMA)) kk) ?_
  refine Sx.up (fun _ kk => r_bipush (8) 62 dX12_bed_60 rfl (by decide) kk) ?_
  refine Sx.up (fun _ kk => r_iload_n 63 dX12_bed_62 rfl rfl kk) ?_
  refine Sx.up (fun _ kk => r_iadd 64 dX12_bed_63 rfl kk) ?_
  refine Sx.up (fun _ kk => r_iload_n 65 dX12_bed_64 rfl rfl kk) ?_
  refine Sx.up (fun _ kk => r_iconst (1) 66 dX12_bed_65 rfl (by decide) kk) ?_
  refine Sx.up (fun _ kk => r_icmp_ne 69 74 dX12_bed_66 rfl (by decide) (fun _ => kk) (fun h66 => absurd h66 (by decide))) ?_
  refine Sx.up (fun _ kk => r_iload_n 75 dX12_bed_74 rfl rfl kk) ?_
  refine Sx.up (fun _ kk => r_iconst (2) 76 dX12_bed_75 rfl (by decide) kk) ?_
  refine Sx.up (fun _ kk => r_icmp_ne 79 83 dX12_bed_76 rfl (by decide) (fun _ => kk) (fun h76 => absurd h76 (by decide))) ?_
  refine Sx.up (fun _ kk => r_iload_n 84 dX12_bed_83 rfl rfl kk) ?_
  refine Sx.up (fun _ kk => r_iconst (3) 85 dX12_bed_84 rfl (by decide) kk) ?_
  refine Sx.up (fun _ kk => r_icmp_ne 88 94 dX12_bed_85 rfl (by decide) (fun h85 => absurd h85 (fun z => z rfl)) (fun _ => kk)) ?_
  refine Sx.up (fun _ kk => r_sipush (480) 91 dX12_bed_88 rfl (by decide) kk) ?_
  refine Sx.up (fun _ kk => r_goto 105 dX12_bed_91 (by decide) kk) ?_
  refine Sx.up (fun _ kk => r_iastN (11) 106 dX12_bed_105 rfl rfl (Nat.le_of_ble_eq_true rfl) (by decide) (Nat.le_of_ble_eq_true rfl) (Nat.le_of_ble_eq_true rfl) kk) ?_
  refine Sx.up (fun _ kk => r_iinc (1) 109 dX12_bed_106 rfl rfl (by decide) (by decide) rfl kk) ?_
  refine Sx.up (fun _ kk => r_goto 50 dX12_bed_109 (by decide) kk) ?_
  rw [show (3 : Int32) + 1 = 4 by decide]
  refine Sx.up (fun _ kk => r_iload_n 51 dX12_bed_50 rfl rfl kk) ?_
  refine Sx.up (fun _ kk => r_bipush (8) 53 dX12_bed_51 rfl (by decide) kk) ?_
  refine Sx.up (fun _ kk => r_icmp_ge 56 112 dX12_bed_53 rfl (by decide) (fun h53 => absurd h53 (by decide)) (fun _ => kk)) ?_
  refine Sx.up (fun _ kk => r_aload_n 57 dX12_bed_56 rfl rfl kk) ?_
  refine Sx.up (fun _ kk => r_getR 60 dX12_bed_57 rfl f12_38 rfl rfl lt95 (mo_3 (mf_mo (show MF [] [98] (bedA E k) _ from mf_sA (by decide) (mf_sA (by decide) (mf_sA (by decide) (mf_sA (by decide) (mf_rfl))))) hMA)) kk) ?_
  refine Sx.up (fun _ kk => r_bipush (8) 62 dX12_bed_60 rfl (by decide) kk) ?_
  refine Sx.up (fun _ kk => r_iload_n 63 dX12_bed_62 rfl rfl kk) ?_
  refine Sx.up (fun _ kk => r_iadd 64 dX12_bed_63 rfl kk) ?_
  refine Sx.up (fun _ kk => r_iload_n 65 dX12_bed_64 rfl rfl kk) ?_
  refine Sx.up (fun _ kk => r_iconst (1) 66 dX12_bed_65 rfl (by decide) kk) ?_
  refine Sx.up (fun _ kk => r_icmp_ne 69 74 dX12_bed_66 rfl (by decide) (fun _ => kk) (fun h66 => absurd h66 (by decide))) ?_
  refine Sx.up (fun _ kk => r_iload_n 75 dX12_bed_74 rfl rfl kk) ?_
  refine Sx.up (fun _ kk => r_iconst (2) 76 dX12_bed_75 rfl (by decide) kk) ?_
  refine Sx.up (fun _ kk => r_icmp_ne 79 83 dX12_bed_76 rfl (by decide) (fun _ => kk) (fun h76 => absurd h76 (by decide))) ?_
  refine Sx.up (fun _ kk => r_iload_n 84 dX12_bed_83 rfl rfl kk) ?_
  refine Sx.up (fun _ kk => r_iconst (3) 85 dX12_bed_84 rfl (by decide) kk) ?_
  refine Sx.up (fun _ kk => r_icmp_ne 88 94 dX12_bed_85 rfl (by decide) (fun _ => kk) (fun h85 => absurd h85 (by decide))) ?_
  refine Sx.up (fun _ kk => r_iload_n 95 dX12_bed_94 rfl rfl kk) ?_
  refine Sx.up (fun _ kk => r_iconst (4) 96 dX12_bed_95 rfl (by decide) kk) ?_
  refine Sx.up (fun _ kk => r_icmp_ne 99 104 dX12_bed_96 rfl (by decide) (fun h96 => absurd h96 (fun z => z rfl)) (fun _ => kk)) ?_
  refine Sx.up (fun _ kk => r_bipush (15) 101 dX12_bed_99 rfl (by decide) kk) ?_
  refine Sx.up (fun _ kk => r_goto 105 dX12_bed_101 (by decide) kk) ?_
  refine Sx.up (fun _ kk => r_iastN (12) 106 dX12_bed_105 rfl rfl (Nat.le_of_ble_eq_true rfl) (by decide) (Nat.le_of_ble_eq_true rfl) (Nat.le_of_ble_eq_true rfl) kk) ?_
  refine Sx.up (fun _ kk => r_iinc (1) 109 dX12_bed_106 rfl rfl (by decide) (by decide) rfl kk) ?_
  refine Sx.up (fun _ kk => r_goto 50 dX12_bed_109 (by decide) kk) ?_
  rw [show (4 : Int32) + 1 = 5 by decide]
  refine Sx.up (fun _ kk => r_iload_n 51 dX12_bed_50 rfl rfl kk) ?_
  refine Sx.up (fun _ kk => r_bipush (8) 53 dX12_bed_51 rfl (by decide) kk) ?_
  refine Sx.up (fun _ kk => r_icmp_ge 56 112 dX12_bed_53 rfl (by decide) (fun h53 => absurd h53 (by decide)) (fun _ => kk)) ?_
  refine Sx.up (fun _ kk => r_aload_n 57 dX12_bed_56 rfl rfl kk) ?_
  refine Sx.up (fun _ kk => r_getR 60 dX12_bed_57 rfl f12_38 rfl rfl lt95 (mo_3 (mf_mo (show MF [] [98] (bedA E k) _ from mf_sA (by decide) (mf_sA (by decide) (mf_sA (by decide) (mf_sA (by decide) (mf_sA (by decide) (mf_rfl)))))) hMA)) kk) ?_
  refine Sx.up (fun _ kk => r_bipush (8) 62 dX12_bed_60 rfl (by decide) kk) ?_
  refine Sx.up (fun _ kk => r_iload_n 63 dX12_bed_62 rfl rfl kk) ?_
  refine Sx.up (fun _ kk => r_iadd 64 dX12_bed_63 rfl kk) ?_
  refine Sx.up (fun _ kk => r_iload_n 65 dX12_bed_64 rfl rfl kk) ?_
  refine Sx.up (fun _ kk => r_iconst (1) 66 dX12_bed_65 rfl (by decide) kk) ?_
  refine Sx.up (fun _ kk => r_icmp_ne 69 74 dX12_bed_66 rfl (by decide) (fun _ => kk) (fun h66 => absurd h66 (by decide))) ?_
  refine Sx.up (fun _ kk => r_iload_n 75 dX12_bed_74 rfl rfl kk) ?_
  refine Sx.up (fun _ kk => r_iconst (2) 76 dX12_bed_75 rfl (by decide) kk) ?_
  refine Sx.up (fun _ kk => r_icmp_ne 79 83 dX12_bed_76 rfl (by decide) (fun _ => kk) (fun h76 => absurd h76 (by decide))) ?_
  refine Sx.up (fun _ kk => r_iload_n 84 dX12_bed_83 rfl rfl kk) ?_
  refine Sx.up (fun _ kk => r_iconst (3) 85 dX12_bed_84 rfl (by decide) kk) ?_
  refine Sx.up (fun _ kk => r_icmp_ne 88 94 dX12_bed_85 rfl (by decide) (fun _ => kk) (fun h85 => absurd h85 (by decide))) ?_
  refine Sx.up (fun _ kk => r_iload_n 95 dX12_bed_94 rfl rfl kk) ?_
  refine Sx.up (fun _ kk => r_iconst (4) 96 dX12_bed_95 rfl (by decide) kk) ?_
  refine Sx.up (fun _ kk => r_icmp_ne 99 104 dX12_bed_96 rfl (by decide) (fun _ => kk) (fun h96 => absurd h96 (by decide))) ?_
  refine Sx.up (fun _ kk => r_iconst (0) 105 dX12_bed_104 rfl (by decide) kk) ?_
  refine Sx.up (fun _ kk => r_iastN (13) 106 dX12_bed_105 rfl rfl (Nat.le_of_ble_eq_true rfl) (by decide) (Nat.le_of_ble_eq_true rfl) (Nat.le_of_ble_eq_true rfl) kk) ?_
  refine Sx.up (fun _ kk => r_iinc (1) 109 dX12_bed_106 rfl rfl (by decide) (by decide) rfl kk) ?_
  refine Sx.up (fun _ kk => r_goto 50 dX12_bed_109 (by decide) kk) ?_
  rw [show (5 : Int32) + 1 = 6 by decide]
  refine Sx.up (fun _ kk => r_iload_n 51 dX12_bed_50 rfl rfl kk) ?_
  refine Sx.up (fun _ kk => r_bipush (8) 53 dX12_bed_51 rfl (by decide) kk) ?_
  refine Sx.up (fun _ kk => r_icmp_ge 56 112 dX12_bed_53 rfl (by decide) (fun h53 => absurd h53 (by decide)) (fun _ => kk)) ?_
  refine Sx.up (fun _ kk => r_aload_n 57 dX12_bed_56 rfl rfl kk) ?_
  refine Sx.up (fun _ kk => r_getR 60 dX12_bed_57 rfl f12_38 rfl rfl lt95 (mo_3 (mf_mo (show MF [] [98] (bedA E k) _ from mf_sA (by decide) (mf_sA (by decide) (mf_sA (by decide) (mf_sA (by decide) (mf_sA (by decide) (mf_sA (by decide) (mf_rfl))))))) hMA)) kk) ?_
  refine Sx.up (fun _ kk => r_bipush (8) 62 dX12_bed_60 rfl (by decide) kk) ?_
  refine Sx.up (fun _ kk => r_iload_n 63 dX12_bed_62 rfl rfl kk) ?_
  refine Sx.up (fun _ kk => r_iadd 64 dX12_bed_63 rfl kk) ?_
  refine Sx.up (fun _ kk => r_iload_n 65 dX12_bed_64 rfl rfl kk) ?_
  refine Sx.up (fun _ kk => r_iconst (1) 66 dX12_bed_65 rfl (by decide) kk) ?_
  refine Sx.up (fun _ kk => r_icmp_ne 69 74 dX12_bed_66 rfl (by decide) (fun _ => kk) (fun h66 => absurd h66 (by decide))) ?_
  refine Sx.up (fun _ kk => r_iload_n 75 dX12_bed_74 rfl rfl kk) ?_
  refine Sx.up (fun _ kk => r_iconst (2) 76 dX12_bed_75 rfl (by decide) kk) ?_
  refine Sx.up (fun _ kk => r_icmp_ne 79 83 dX12_bed_76 rfl (by decide) (fun _ => kk) (fun h76 => absurd h76 (by decide))) ?_
  refine Sx.up (fun _ kk => r_iload_n 84 dX12_bed_83 rfl rfl kk) ?_
  refine Sx.up (fun _ kk => r_iconst (3) 85 dX12_bed_84 rfl (by decide) kk) ?_
  refine Sx.up (fun _ kk => r_icmp_ne 88 94 dX12_bed_85 rfl (by decide) (fun _ => kk) (fun h85 => absurd h85 (by decide))) ?_
  refine Sx.up (fun _ kk => r_iload_n 95 dX12_bed_94 rfl rfl kk) ?_
  refine Sx.up (fun _ kk => r_iconst (4) 96 dX12_bed_95 rfl (by decide) kk) ?_
  refine Sx.up (fun _ kk => r_icmp_ne 99 104 dX12_bed_96 rfl (by decide) (fun _ => kk) (fun h96 => absurd h96 (by decide))) ?_
  refine Sx.up (fun _ kk => r_iconst (0) 105 dX12_bed_104 rfl (by decide) kk) ?_
  refine Sx.up (fun _ kk => r_iastN (14) 106 dX12_bed_105 rfl rfl (Nat.le_of_ble_eq_true rfl) (by decide) (Nat.le_of_ble_eq_true rfl) (Nat.le_of_ble_eq_true rfl) kk) ?_
  refine Sx.up (fun _ kk => r_iinc (1) 109 dX12_bed_106 rfl rfl (by decide) (by decide) rfl kk) ?_
  refine Sx.up (fun _ kk => r_goto 50 dX12_bed_109 (by decide) kk) ?_
  rw [show (6 : Int32) + 1 = 7 by decide]
  refine Sx.up (fun _ kk => r_iload_n 51 dX12_bed_50 rfl rfl kk) ?_
  refine Sx.up (fun _ kk => r_bipush (8) 53 dX12_bed_51 rfl (by decide) kk) ?_
  refine Sx.up (fun _ kk => r_icmp_ge 56 112 dX12_bed_53 rfl (by decide) (fun h53 => absurd h53 (by decide)) (fun _ => kk)) ?_
  refine Sx.up (fun _ kk => r_aload_n 57 dX12_bed_56 rfl rfl kk) ?_
  refine Sx.up (fun _ kk => r_getR 60 dX12_bed_57 rfl f12_38 rfl rfl lt95 (mo_3 (mf_mo (show MF [] [98] (bedA E k) _ from mf_sA (by decide) (mf_sA (by decide) (mf_sA (by decide) (mf_sA (by decide) (mf_sA (by decide) (mf_sA (by decide) (mf_sA (by decide) (mf_rfl)))))))) hMA)) kk) ?_
  refine Sx.up (fun _ kk => r_bipush (8) 62 dX12_bed_60 rfl (by decide) kk) ?_
  refine Sx.up (fun _ kk => r_iload_n 63 dX12_bed_62 rfl rfl kk) ?_
  refine Sx.up (fun _ kk => r_iadd 64 dX12_bed_63 rfl kk) ?_
  refine Sx.up (fun _ kk => r_iload_n 65 dX12_bed_64 rfl rfl kk) ?_
  refine Sx.up (fun _ kk => r_iconst (1) 66 dX12_bed_65 rfl (by decide) kk) ?_
  refine Sx.up (fun _ kk => r_icmp_ne 69 74 dX12_bed_66 rfl (by decide) (fun _ => kk) (fun h66 => absurd h66 (by decide))) ?_
  refine Sx.up (fun _ kk => r_iload_n 75 dX12_bed_74 rfl rfl kk) ?_
  refine Sx.up (fun _ kk => r_iconst (2) 76 dX12_bed_75 rfl (by decide) kk) ?_
  refine Sx.up (fun _ kk => r_icmp_ne 79 83 dX12_bed_76 rfl (by decide) (fun _ => kk) (fun h76 => absurd h76 (by decide))) ?_
  refine Sx.up (fun _ kk => r_iload_n 84 dX12_bed_83 rfl rfl kk) ?_
  refine Sx.up (fun _ kk => r_iconst (3) 85 dX12_bed_84 rfl (by decide) kk) ?_
  refine Sx.up (fun _ kk => r_icmp_ne 88 94 dX12_bed_85 rfl (by decide) (fun _ => kk) (fun h85 => absurd h85 (by decide))) ?_
  refine Sx.up (fun _ kk => r_iload_n 95 dX12_bed_94 rfl rfl kk) ?_
  refine Sx.up (fun _ kk => r_iconst (4) 96 dX12_bed_95 rfl (by decide) kk) ?_
  refine Sx.up (fun _ kk => r_icmp_ne 99 104 dX12_bed_96 rfl (by decide) (fun _ => kk) (fun h96 => absurd h96 (by decide))) ?_
  refine Sx.up (fun _ kk => r_iconst (0) 105 dX12_bed_104 rfl (by decide) kk) ?_
  refine Sx.up (fun _ kk => r_iastN (15) 106 dX12_bed_105 rfl rfl (Nat.le_of_ble_eq_true rfl) (by decide) (Nat.le_of_ble_eq_true rfl) (Nat.le_of_ble_eq_true rfl) kk) ?_
  refine Sx.up (fun _ kk => r_iinc (1) 109 dX12_bed_106 rfl rfl (by decide) (by decide) rfl kk) ?_
  refine Sx.up (fun _ kk => r_goto 50 dX12_bed_109 (by decide) kk) ?_
  rw [show (7 : Int32) + 1 = 8 by decide]
  show Sx mX12_bed (d + 60) 0 0 _ 50 [some (.ref 95), some (.int (nI k)), some (.int 8)] [] (bedB E k) 137
  refine Sx.up (fun _ kk => r_iload_n 51 dX12_bed_50 rfl rfl kk) ?_
  refine Sx.up (fun _ kk => r_bipush (8) 53 dX12_bed_51 rfl (by decide) kk) ?_
  refine Sx.up (fun _ kk => r_icmp_ge 56 112 dX12_bed_53 rfl (by decide) (fun _ => kk) (fun h53 => absurd (by decide) h53)) ?_
  refine Sx.up (fun _ kk => r_aload_n 113 dX12_bed_112 rfl rfl kk) ?_
  refine Sx.up (fun _ kk => r_callV (M := mX12_bed) (pc := 113) 116 dX12_bed_113 rfl k12_233 hst rfl rfl rfl (by decide) rfl lt95 (Nat.le_of_ble_eq_true rfl) kk) ?_
  refine Sx.up (fun _ kk => r_iconst (0) 117 dX12_bed_116 rfl (by decide) kk) ?_
  refine Sx.up (fun _ kk => r_istore_n 118 dX12_bed_117 rfl (by decide) rfl kk) ?_
  refine loop T.2 (Nat.le_refl _) E9 _ 0 y0 (by show 0 + 0 ≤ toB T 0; omega) (by rw [Nat.sub_self]; exact Nat.zero_le _) (fun a B z => ?_) rfl
  have z := Sum.inr.inj z
  cases z
  rfl
