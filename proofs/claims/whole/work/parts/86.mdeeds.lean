/-! The model: pack, unpack, keep, be, refuse; count, sleeper, fault, thrown; swap, side, word, bolster, out, undo; see, forget; image, restore; feed -/
/-- what a picture of the plan holds at place j -/
def pkF (E : HP) (j : Nat) : Int32 := if j < 7 then gA E 109 j else if j < 14 then gA E 103 (j - 7) else if j = 14 then gI E 1562 95 else if j = 15 then gI E 1563 95 else if j = 16 then gI E 1564 95 else gI E 1565 95
theorem pk_mf {gs as : List Nat} {E E2 : HP} (h : MF gs as E E2) (h1 : 109 ∉ as) (h2 : 103 ∉ as) (g1 : 1562 ∉ gs) (g2 : 1563 ∉ gs) (g3 : 1564 ∉ gs) (g4 : 1565 ∉ gs) : pkF E2 = pkF E := by
  funext j
  unfold pkF
  rw [mf_gA h h1, mf_gA h h2, mf_gI h g1, mf_gI h g2, mf_gI h g3, mf_gI h g4]
theorem pk_step {o9 k9 i : Nat} {p g : Nat → Int32} (hk : k9 < 7) : (if i = o9 + 7 + k9 then p (7 + k9) else if i = o9 + k9 then p k9 else if o9 ≤ i ∧ i < o9 + k9 then p (i - o9) else if o9 + 7 ≤ i ∧ i < o9 + 7 + k9 then p (i - o9) else g i) = (if o9 ≤ i ∧ i < o9 + (k9 + 1) then p (i - o9) else if o9 + 7 ≤ i ∧ i < o9 + 7 + (k9 + 1) then p (i - o9) else g i) := by
  by_cases h1 : i = o9 + 7 + k9
  · rw [if_pos h1, if_neg (by omega), if_pos (by omega), show i - o9 = 7 + k9 by omega]
  · rw [if_neg h1]
    by_cases h2 : i = o9 + k9
    · rw [if_pos h2, if_pos (by omega), show i - o9 = k9 by omega]
    · rw [if_neg h2]
      by_cases h3 : o9 ≤ i ∧ i < o9 + k9
      · rw [if_pos h3, if_pos (by omega)]
      · rw [if_neg h3, if_neg (show ¬ (o9 ≤ i ∧ i < o9 + (k9 + 1)) by omega)]
        by_cases h4 : o9 + 7 ≤ i ∧ i < o9 + 7 + k9
        · rw [if_pos h4, if_pos (by omega)]
        · rw [if_neg h4, if_neg (by omega)]
theorem pk_four {E : HP} {o9 i : Nat} {x0 x1 x2 x3 g : Int32} (e0 : x0 = gI E 1562 95) (e1 : x1 = gI E 1563 95) (e2 : x2 = gI E 1564 95) (e3 : x3 = gI E 1565 95) : (if i = o9 + 17 then x3 else if i = o9 + 16 then x2 else if i = o9 + 15 then x1 else if i = o9 + 14 then x0 else if o9 ≤ i ∧ i < o9 + 7 then pkF E (i - o9) else if o9 + 7 ≤ i ∧ i < o9 + 7 + 7 then pkF E (i - o9) else g) = (if o9 ≤ i ∧ i < o9 + 18 then pkF E (i - o9) else g) := by
  subst e0; subst e1; subst e2; subst e3
  by_cases h0 : i = o9 + 17
  · rw [if_pos h0, if_pos (by omega), show i - o9 = 17 by omega]; rfl
  · rw [if_neg h0]
    by_cases h1 : i = o9 + 16
    · rw [if_pos h1, if_pos (by omega), show i - o9 = 16 by omega]; rfl
    · rw [if_neg h1]
      by_cases h2 : i = o9 + 15
      · rw [if_pos h2, if_pos (by omega), show i - o9 = 15 by omega]; rfl
      · rw [if_neg h2]
        by_cases h3 : i = o9 + 14
        · rw [if_pos h3, if_pos (by omega), show i - o9 = 14 by omega]; rfl
        · rw [if_neg h3]
          by_cases h4 : o9 ≤ i ∧ i < o9 + 7
          · rw [if_pos h4, if_pos (by omega)]
          · rw [if_neg h4]
            by_cases h5 : o9 + 7 ≤ i ∧ i < o9 + 7 + 7
            · rw [if_pos h5, if_pos (by omega)]
            · rw [if_neg h5, if_neg (by omega)]
set_option maxRecDepth 20000 in
theorem c_pack {d a l9 o9 : Nat} {E : HP} (hM : MoOK E) (ha : sh a = (100, l9)) (h9 : a < 137) (n1 : a ≠ 109) (n2 : a ≠ 103) (hl : o9 + 18 ≤ l9) (hl2 : l9 ≤ 1200) : ∃ o, (∃ E2, o = (.inl none, E2, 137) ∧ MF [] [a] E E2 ∧ ∀ i, gA E2 a i = if o9 ≤ i ∧ i < o9 + 18 then pkF E (i - o9) else gA E a i) ∧ Cl yX12_pack mX12_pack d 0 0 [.ref 95, .ref a, .int (nI o9)] E 137 o := by
  refine Cx.of (by decide) rfl (fun q => by cases q) rfl rfl (Nat.le_of_ble_eq_true rfl) ?_
  show Sx _ _ _ _ _ 0 [some (.ref 95), some (.ref a), some (.int (nI o9)), none] [] _ _
  have loop := sxUp (S := fun k9 E2 => Sx mX12_pack d 0 0 (fun o => ∃ E2, o = (.inl none, E2, 137) ∧ MF [] [a] E E2 ∧ ∀ i, gA E2 a i = if o9 ≤ i ∧ i < o9 + 18 then pkF E (i - o9) else gA E a i) 2 [some (.ref 95), some (.ref a), some (.int (nI o9)), some (.int (nI k9))] [] E2 137) (Inv := fun k9 E2 => MF [] [a] E E2 ∧ ∀ i, gA E2 a i = if o9 ≤ i ∧ i < o9 + k9 then pkF E (i - o9) else if o9 + 7 ≤ i ∧ i < o9 + 7 + k9 then pkF E (i - o9) else gA E a i) (a := 0) (l := 7) (by omega) ?_ ?_ E ⟨mf_rfl, fun i => by rw [if_neg (by omega), if_neg (by omega)]⟩
  refine Sx.up (fun _ kk => r_iconst (0) 1 dX12_pack_0 rfl (by decide) kk) ?_
  refine Sx.up (fun _ kk => r_istore_n 2 dX12_pack_1 rfl (by decide) rfl kk) ?_
  exact loop
  · intro E2 ⟨f2, b2⟩
    have hM2 := mf_mo f2 hM
    have i2 : ∀ g, gI E2 g 95 = gI E g 95 := fun g => mf_gI f2 (by intro z; cases z)
    refine Sx.up (fun _ kk => r_iload_n 3 dX12_pack_2 rfl rfl kk) ?_
    refine Sx.up (fun _ kk => r_bipush (7) 5 dX12_pack_3 rfl (by decide) kk) ?_
    refine Sx.up (fun _ kk => r_icmp_ge 8 39 dX12_pack_5 rfl (by decide) (fun _ => kk) (fun h5 => absurd (by decide) h5)) ?_
    refine Sx.up (fun _ kk => r_iload_n 40 dX12_pack_39 rfl rfl kk) ?_
    refine Sx.up (fun _ kk => r_bipush (14) 42 dX12_pack_40 rfl (by decide) kk) ?_
    refine Sx.up (fun _ kk => r_iadd 43 dX12_pack_42 rfl kk) ?_
    refine Sx.up (fun _ kk => r_istore_n 44 dX12_pack_43 rfl (by decide) rfl kk) ?_
    refine Sx.up (fun _ kk => r_aload_n 45 dX12_pack_44 rfl rfl kk) ?_
    refine Sx.up (fun _ kk => r_iload_n 46 dX12_pack_45 rfl rfl kk) ?_
    refine Sx.up (fun _ kk => r_aload_n 47 dX12_pack_46 rfl rfl kk) ?_
    refine Sx.up (fun _ kk => r_getIV (gI E 1562 95) 50 dX12_pack_47 rfl f12_315 rfl rfl lt95 (i2 _) kk) ?_
    refine Sx.up (fun _ kk => r_iastN (o9 + 14) 51 dX12_pack_50 rfl ha h9 ((add_nI o9 14)) (by omega) (by omega) kk) ?_
    refine Sx.up (fun _ kk => r_aload_n 52 dX12_pack_51 rfl rfl kk) ?_
    refine Sx.up (fun _ kk => r_iload_n 53 dX12_pack_52 rfl rfl kk) ?_
    refine Sx.up (fun _ kk => r_iconst (1) 54 dX12_pack_53 rfl (by decide) kk) ?_
    refine Sx.up (fun _ kk => r_iadd 55 dX12_pack_54 rfl kk) ?_
    refine Sx.up (fun _ kk => r_aload_n 56 dX12_pack_55 rfl rfl kk) ?_
    refine Sx.up (fun _ kk => r_getI 59 dX12_pack_56 rfl f12_81 rfl rfl lt95 kk) ?_
    refine Sx.up (fun _ kk => r_iastN (o9 + 15) 60 dX12_pack_59 rfl ha h9 ((by rw [show nI o9 + 14 = nI (o9 + 14) from add_nI o9 14]; exact add_nI (o9 + 14) 1)) (by omega) (by omega) kk) ?_
    refine Sx.up (fun _ kk => r_aload_n 61 dX12_pack_60 rfl rfl kk) ?_
    refine Sx.up (fun _ kk => r_iload_n 62 dX12_pack_61 rfl rfl kk) ?_
    refine Sx.up (fun _ kk => r_iconst (2) 63 dX12_pack_62 rfl (by decide) kk) ?_
    refine Sx.up (fun _ kk => r_iadd 64 dX12_pack_63 rfl kk) ?_
    refine Sx.up (fun _ kk => r_aload_n 65 dX12_pack_64 rfl rfl kk) ?_
    refine Sx.up (fun _ kk => r_getI 68 dX12_pack_65 rfl f12_318 rfl rfl lt95 kk) ?_
    refine Sx.up (fun _ kk => r_iastN (o9 + 16) 69 dX12_pack_68 rfl ha h9 ((by rw [show nI o9 + 14 = nI (o9 + 14) from add_nI o9 14]; exact add_nI (o9 + 14) 2)) (by omega) (by omega) kk) ?_
    refine Sx.up (fun _ kk => r_aload_n 70 dX12_pack_69 rfl rfl kk) ?_
    refine Sx.up (fun _ kk => r_iload_n 71 dX12_pack_70 rfl rfl kk) ?_
    refine Sx.up (fun _ kk => r_iconst (3) 72 dX12_pack_71 rfl (by decide) kk) ?_
    refine Sx.up (fun _ kk => r_iadd 73 dX12_pack_72 rfl kk) ?_
    refine Sx.up (fun _ kk => r_aload_n 74 dX12_pack_73 rfl rfl kk) ?_
    refine Sx.up (fun _ kk => r_getI 77 dX12_pack_74 rfl f12_321 rfl rfl lt95 kk) ?_
    refine Sx.up (fun _ kk => r_iastN (o9 + 17) 78 dX12_pack_77 rfl ha h9 ((by rw [show nI o9 + 14 = nI (o9 + 14) from add_nI o9 14]; exact add_nI (o9 + 14) 3)) (by omega) (by omega) kk) ?_
    refine ⟨_, ?_, r_vret dX12_pack_78 rfl rfl rfl⟩
    refine ⟨_, rfl, mf_sA (List.mem_singleton.mpr rfl) (mf_sA (List.mem_singleton.mpr rfl) (mf_sA (List.mem_singleton.mpr rfl) (mf_sA (List.mem_singleton.mpr rfl) f2))), fun i => ?_⟩
    simp only [gA_sA, true_and]
    rw [b2 i]
    exact pk_four rfl (i2 _) (i2 _) (i2 _)
  · intro k9 E2 hk0 hk9 ⟨f2, b2⟩ hq
    have hM2 := mf_mo f2 hM
    have v1 : gA E2 109 k9 = pkF E k9 := by rw [mf_gA f2 (by simp; omega)]; exact (if_pos hk9).symm
    have v2 : gA (sA E2 a (o9 + k9) (pkF E k9)) 103 k9 = pkF E (7 + k9) := by
      show gA (sA E2 a (o9 + k9) (pkF E k9)) 103 k9 = _
      rw [gA_sA, if_neg (fun z => n2 z.1.symm), mf_gA f2 (by simp; omega)]
      unfold pkF
      rw [if_neg (by omega), if_pos (by omega), show 7 + k9 - 7 = k9 by omega]
    refine Sx.up (fun _ kk => r_iload_n 3 dX12_pack_2 rfl rfl kk) ?_
    refine Sx.up (fun _ kk => r_bipush (7) 5 dX12_pack_3 rfl (by decide) kk) ?_
    refine Sx.up (fun _ kk => r_icmp_ge 8 39 dX12_pack_5 rfl (by decide) (fun h5 => absurd h5 (nI_ge (b := 7) hk9 (by omega))) (fun _ => kk)) ?_
    refine Sx.up (fun _ kk => r_aload_n 9 dX12_pack_8 rfl rfl kk) ?_
    refine Sx.up (fun _ kk => r_iload_n 10 dX12_pack_9 rfl rfl kk) ?_
    refine Sx.up (fun _ kk => r_iload_n 11 dX12_pack_10 rfl rfl kk) ?_
    refine Sx.up (fun _ kk => r_iadd 12 dX12_pack_11 rfl kk) ?_
    refine Sx.up (fun _ kk => r_aload_n 13 dX12_pack_12 rfl rfl kk) ?_
    refine Sx.up (fun _ kk => r_getR 16 dX12_pack_13 rfl f12_75 rfl rfl lt95 (mo_24 hM2) kk) ?_
    refine Sx.up (fun _ kk => r_iload_n 17 dX12_pack_16 rfl rfl kk) ?_
    refine Sx.up (fun _ kk => r_ialdN (k9) (_) 18 dX12_pack_17 rfl rfl (Nat.le_of_ble_eq_true rfl) (rfl) (by omega) (Nat.le_of_ble_eq_true rfl) (v1) kk) ?_
    refine Sx.up (fun _ kk => r_iastN (o9 + k9) 19 dX12_pack_18 rfl ha h9 ((add_nI o9 k9)) (by omega) (by omega) kk) ?_
    refine Sx.up (fun _ kk => r_aload_n 20 dX12_pack_19 rfl rfl kk) ?_
    refine Sx.up (fun _ kk => r_iload_n 21 dX12_pack_20 rfl rfl kk) ?_
    refine Sx.up (fun _ kk => r_bipush (7) 23 dX12_pack_21 rfl (by decide) kk) ?_
    refine Sx.up (fun _ kk => r_iadd 24 dX12_pack_23 rfl kk) ?_
    refine Sx.up (fun _ kk => r_iload_n 25 dX12_pack_24 rfl rfl kk) ?_
    refine Sx.up (fun _ kk => r_iadd 26 dX12_pack_25 rfl kk) ?_
    refine Sx.up (fun _ kk => r_aload_n 27 dX12_pack_26 rfl rfl kk) ?_
    refine Sx.up (fun _ kk => r_getR 30 dX12_pack_27 rfl f12_53 rfl rfl lt95 (mo_8 hM2) kk) ?_
    refine Sx.up (fun _ kk => r_iload_n 31 dX12_pack_30 rfl rfl kk) ?_
    refine Sx.up (fun _ kk => r_ialdN (k9) (_) 32 dX12_pack_31 rfl rfl (Nat.le_of_ble_eq_true rfl) (rfl) (by omega) (Nat.le_of_ble_eq_true rfl) (v2) kk) ?_
    refine Sx.up (fun _ kk => r_iastN (o9 + 7 + k9) 33 dX12_pack_32 rfl ha h9 ((by rw [show nI o9 + 7 = nI (o9 + 7) from add_nI o9 7]; exact add_nI (o9 + 7) k9)) (by omega) (by omega) kk) ?_
    refine Sx.up (fun _ kk => r_iinc (1) 36 dX12_pack_33 rfl rfl (by decide) (by decide) rfl kk) ?_
    refine Sx.up (fun _ kk => r_goto 2 dX12_pack_36 (by decide) kk) ?_
    rw [nI_pp]
    refine hq _ ⟨mf_sA (List.mem_singleton.mpr rfl) (mf_sA (List.mem_singleton.mpr rfl) f2), fun i => ?_⟩
    simp only [gA_sA, true_and]
    rw [b2 i]
    exact pk_step hk9
set_option maxRecDepth 20000 in
theorem c_unpack {d a l9 o9 : Nat} {E : HP} (hM : MoOK E) (ha : sh a = (100, l9)) (h9 : a < 137) (n1 : a ≠ 109) (n2 : a ≠ 103) (hl : o9 + 18 ≤ l9) (hl2 : l9 ≤ 1200) : ∃ o, (∃ E2, o = (.inl none, E2, 137) ∧ MF [1562, 1563, 1564, 1565] [103, 109] E E2 ∧ (∀ j, j < 7 → gA E2 109 j = gA E a (o9 + j) ∧ gA E2 103 j = gA E a (o9 + 7 + j)) ∧ (∀ j, 7 ≤ j → gA E2 103 j = gA E 103 j) ∧ gI E2 1562 95 = gA E a (o9 + 14) ∧ gI E2 1563 95 = gA E a (o9 + 15) ∧ gI E2 1564 95 = gA E a (o9 + 16) ∧ gI E2 1565 95 = gA E a (o9 + 17)) ∧ Cl yX12_unpack mX12_unpack d 0 0 [.ref 95, .ref a, .int (nI o9)] E 137 o := by
  refine Cx.of (by decide) rfl (fun q => by cases q) rfl rfl (Nat.le_of_ble_eq_true rfl) ?_
  show Sx _ _ _ _ _ 0 [some (.ref 95), some (.ref a), some (.int (nI o9)), none] [] _ _
  have loop := sxUp (S := fun k9 E2 => Sx mX12_unpack d 0 0 (fun o => ∃ E2, o = (.inl none, E2, 137) ∧ MF [1562, 1563, 1564, 1565] [103, 109] E E2 ∧ (∀ j, j < 7 → gA E2 109 j = gA E a (o9 + j) ∧ gA E2 103 j = gA E a (o9 + 7 + j)) ∧ (∀ j, 7 ≤ j → gA E2 103 j = gA E 103 j) ∧ gI E2 1562 95 = gA E a (o9 + 14) ∧ gI E2 1563 95 = gA E a (o9 + 15) ∧ gI E2 1564 95 = gA E a (o9 + 16) ∧ gI E2 1565 95 = gA E a (o9 + 17)) 2 [some (.ref 95), some (.ref a), some (.int (nI o9)), some (.int (nI k9))] [] E2 137) (Inv := fun k9 E2 => MF [] [103, 109] E E2 ∧ (∀ j, j < k9 → gA E2 109 j = gA E a (o9 + j) ∧ gA E2 103 j = gA E a (o9 + 7 + j)) ∧ (∀ j, 7 ≤ j → gA E2 103 j = gA E 103 j)) (a := 0) (l := 7) (by omega) ?_ ?_ E ⟨mf_rfl, fun j hj => absurd hj (Nat.not_lt_zero j), fun _ _ => rfl⟩
  refine Sx.up (fun _ kk => r_iconst (0) 1 dX12_unpack_0 rfl (by decide) kk) ?_
  refine Sx.up (fun _ kk => r_istore_n 2 dX12_unpack_1 rfl (by decide) rfl kk) ?_
  exact loop
  · intro E2 ⟨f2, b2, b3⟩
    have hM2 := mf_mo f2 hM
    have ea : gA E2 a = gA E a := mf_gA f2 (by simp; omega)
    refine Sx.up (fun _ kk => r_iload_n 3 dX12_unpack_2 rfl rfl kk) ?_
    refine Sx.up (fun _ kk => r_bipush (7) 5 dX12_unpack_3 rfl (by decide) kk) ?_
    refine Sx.up (fun _ kk => r_icmp_ge 8 39 dX12_unpack_5 rfl (by decide) (fun _ => kk) (fun h5 => absurd (by decide) h5)) ?_
    refine Sx.up (fun _ kk => r_iload_n 40 dX12_unpack_39 rfl rfl kk) ?_
    refine Sx.up (fun _ kk => r_bipush (14) 42 dX12_unpack_40 rfl (by decide) kk) ?_
    refine Sx.up (fun _ kk => r_iadd 43 dX12_unpack_42 rfl kk) ?_
    refine Sx.up (fun _ kk => r_istore_n 44 dX12_unpack_43 rfl (by decide) rfl kk) ?_
    refine Sx.up (fun _ kk => r_aload_n 45 dX12_unpack_44 rfl rfl kk) ?_
    refine Sx.up (fun _ kk => r_aload_n 46 dX12_unpack_45 rfl rfl kk) ?_
    refine Sx.up (fun _ kk => r_iload_n 47 dX12_unpack_46 rfl rfl kk) ?_
    refine Sx.up (fun _ kk => r_ialdN (o9 + 14) (_) 48 dX12_unpack_47 rfl ha h9 ((add_nI o9 14)) (by omega) (by omega) (rfl) kk) ?_
    refine Sx.up (fun _ kk => r_putI 51 dX12_unpack_48 rfl f12_315 rfl lt95 kk) ?_
    refine Sx.up (fun _ kk => r_aload_n 52 dX12_unpack_51 rfl rfl kk) ?_
    refine Sx.up (fun _ kk => r_aload_n 53 dX12_unpack_52 rfl rfl kk) ?_
    refine Sx.up (fun _ kk => r_iload_n 54 dX12_unpack_53 rfl rfl kk) ?_
    refine Sx.up (fun _ kk => r_iconst (1) 55 dX12_unpack_54 rfl (by decide) kk) ?_
    refine Sx.up (fun _ kk => r_iadd 56 dX12_unpack_55 rfl kk) ?_
    refine Sx.up (fun _ kk => r_ialdN (o9 + 15) (_) 57 dX12_unpack_56 rfl ha h9 ((by rw [show nI o9 + 14 = nI (o9 + 14) from add_nI o9 14]; exact add_nI (o9 + 14) 1)) (by omega) (by omega) (rfl) kk) ?_
    refine Sx.up (fun _ kk => r_putI 60 dX12_unpack_57 rfl f12_81 rfl lt95 kk) ?_
    refine Sx.up (fun _ kk => r_aload_n 61 dX12_unpack_60 rfl rfl kk) ?_
    refine Sx.up (fun _ kk => r_aload_n 62 dX12_unpack_61 rfl rfl kk) ?_
    refine Sx.up (fun _ kk => r_iload_n 63 dX12_unpack_62 rfl rfl kk) ?_
    refine Sx.up (fun _ kk => r_iconst (2) 64 dX12_unpack_63 rfl (by decide) kk) ?_
    refine Sx.up (fun _ kk => r_iadd 65 dX12_unpack_64 rfl kk) ?_
    refine Sx.up (fun _ kk => r_ialdN (o9 + 16) (_) 66 dX12_unpack_65 rfl ha h9 ((by rw [show nI o9 + 14 = nI (o9 + 14) from add_nI o9 14]; exact add_nI (o9 + 14) 2)) (by omega) (by omega) (rfl) kk) ?_
    refine Sx.up (fun _ kk => r_putI 69 dX12_unpack_66 rfl f12_318 rfl lt95 kk) ?_
    refine Sx.up (fun _ kk => r_aload_n 70 dX12_unpack_69 rfl rfl kk) ?_
    refine Sx.up (fun _ kk => r_aload_n 71 dX12_unpack_70 rfl rfl kk) ?_
    refine Sx.up (fun _ kk => r_iload_n 72 dX12_unpack_71 rfl rfl kk) ?_
    refine Sx.up (fun _ kk => r_iconst (3) 73 dX12_unpack_72 rfl (by decide) kk) ?_
    refine Sx.up (fun _ kk => r_iadd 74 dX12_unpack_73 rfl kk) ?_
    refine Sx.up (fun _ kk => r_ialdN (o9 + 17) (_) 75 dX12_unpack_74 rfl ha h9 ((by rw [show nI o9 + 14 = nI (o9 + 14) from add_nI o9 14]; exact add_nI (o9 + 14) 3)) (by omega) (by omega) (rfl) kk) ?_
    refine Sx.up (fun _ kk => r_putI 78 dX12_unpack_75 rfl f12_321 rfl lt95 kk) ?_
    refine ⟨_, ?_, r_vret dX12_unpack_78 rfl rfl rfl⟩
    refine ⟨_, rfl, mf_sI (by decide) (mf_sI (by decide) (mf_sI (by decide) (mf_sI (by decide) (mf_mono f2 (by decide) (by decide))))), b2, b3, ?_, ?_, ?_, ?_⟩
    · simp only [gI_sI, Nat.reduceEqDiff, false_and, if_false, and_self, if_true, reduceIte]; rw [ea]
    · simp only [gI_sI, Nat.reduceEqDiff, false_and, if_false, and_self, if_true, reduceIte]; rw [← ea]; rfl
    · simp only [gI_sI, Nat.reduceEqDiff, false_and, if_false, and_self, if_true, reduceIte]; rw [← ea]; rfl
    · simp only [gI_sI, Nat.reduceEqDiff, false_and, if_false, and_self, if_true, reduceIte]; rw [← ea]; rfl
  · intro k9 E2 hk0 hk9 ⟨f2, b2, b3⟩ hq
    have hM2 := mf_mo f2 hM
    have ea : gA E2 a = gA E a := mf_gA f2 (by simp; omega)
    have v1 : gA E2 a (o9 + k9) = gA E a (o9 + k9) := by rw [ea]
    have v2 : gA (sA E2 109 k9 (gA E a (o9 + k9))) a (o9 + 7 + k9) = gA E a (o9 + 7 + k9) := by rw [gA_sA, if_neg (fun z => n1 z.1), ea]
    refine Sx.up (fun _ kk => r_iload_n 3 dX12_unpack_2 rfl rfl kk) ?_
    refine Sx.up (fun _ kk => r_bipush (7) 5 dX12_unpack_3 rfl (by decide) kk) ?_
    refine Sx.up (fun _ kk => r_icmp_ge 8 39 dX12_unpack_5 rfl (by decide) (fun h5 => absurd h5 (nI_ge (b := 7) hk9 (by omega))) (fun _ => kk)) ?_
    refine Sx.up (fun _ kk => r_aload_n 9 dX12_unpack_8 rfl rfl kk) ?_
    refine Sx.up (fun _ kk => r_getR 12 dX12_unpack_9 rfl f12_75 rfl rfl lt95 (mo_24 hM2) kk) ?_
    refine Sx.up (fun _ kk => r_iload_n 13 dX12_unpack_12 rfl rfl kk) ?_
    refine Sx.up (fun _ kk => r_aload_n 14 dX12_unpack_13 rfl rfl kk) ?_
    refine Sx.up (fun _ kk => r_iload_n 15 dX12_unpack_14 rfl rfl kk) ?_
    refine Sx.up (fun _ kk => r_iload_n 16 dX12_unpack_15 rfl rfl kk) ?_
    refine Sx.up (fun _ kk => r_iadd 17 dX12_unpack_16 rfl kk) ?_
    refine Sx.up (fun _ kk => r_ialdN (o9 + k9) (_) 18 dX12_unpack_17 rfl ha h9 ((add_nI o9 k9)) (by omega) (by omega) (v1) kk) ?_
    refine Sx.up (fun _ kk => r_iastN (k9) 19 dX12_unpack_18 rfl rfl (Nat.le_of_ble_eq_true rfl) (rfl) (by omega) (Nat.le_of_ble_eq_true rfl) kk) ?_
    refine Sx.up (fun _ kk => r_aload_n 20 dX12_unpack_19 rfl rfl kk) ?_
    refine Sx.up (fun _ kk => r_getR 23 dX12_unpack_20 rfl f12_53 rfl rfl lt95 (mo_8 hM2) kk) ?_
    refine Sx.up (fun _ kk => r_iload_n 24 dX12_unpack_23 rfl rfl kk) ?_
    refine Sx.up (fun _ kk => r_aload_n 25 dX12_unpack_24 rfl rfl kk) ?_
    refine Sx.up (fun _ kk => r_iload_n 26 dX12_unpack_25 rfl rfl kk) ?_
    refine Sx.up (fun _ kk => r_bipush (7) 28 dX12_unpack_26 rfl (by decide) kk) ?_
    refine Sx.up (fun _ kk => r_iadd 29 dX12_unpack_28 rfl kk) ?_
    refine Sx.up (fun _ kk => r_iload_n 30 dX12_unpack_29 rfl rfl kk) ?_
    refine Sx.up (fun _ kk => r_iadd 31 dX12_unpack_30 rfl kk) ?_
    refine Sx.up (fun _ kk => r_ialdN (o9 + 7 + k9) (_) 32 dX12_unpack_31 rfl ha h9 ((by rw [show nI o9 + 7 = nI (o9 + 7) from add_nI o9 7]; exact add_nI (o9 + 7) k9)) (by omega) (by omega) (v2) kk) ?_
    refine Sx.up (fun _ kk => r_iastN (k9) 33 dX12_unpack_32 rfl rfl (Nat.le_of_ble_eq_true rfl) (rfl) (by omega) (Nat.le_of_ble_eq_true rfl) kk) ?_
    refine Sx.up (fun _ kk => r_iinc (1) 36 dX12_unpack_33 rfl rfl (by decide) (by decide) rfl kk) ?_
    refine Sx.up (fun _ kk => r_goto 2 dX12_unpack_36 (by decide) kk) ?_
    rw [nI_pp]
    refine hq _ ⟨mf_sA (by decide) (mf_sA (by decide) f2), fun j hj => ?_, fun j hj => ?_⟩
    · simp only [gA_sA, true_and, Nat.reduceEqDiff, false_and, if_false, reduceIte]
      by_cases hjk : j = k9
      · rw [if_pos hjk, if_pos hjk, hjk]; exact ⟨rfl, rfl⟩
      · rw [if_neg hjk, if_neg hjk]; exact b2 j (by omega)
    · simp only [gA_sA, true_and, Nat.reduceEqDiff, false_and, if_false, reduceIte]
      rw [if_neg (by omega)]; exact b3 j hj
def keF (E : HP) (k i : Nat) : Int32 := if k = 40 then (if 702 ≤ i ∧ i < 720 then pkF E (i - 702) else if i < 702 then gA E 110 (i + 18) else gA E 110 i) else (if 18 * k ≤ i ∧ i < 18 * k + 18 then pkF E (i - 18 * k) else gA E 110 i)
def keN (k : Nat) : Nat := if k = 40 then 40 else k + 1
set_option maxRecDepth 20000 in
theorem c_keep {d k : Nat} {E : HP} (hM : MoOK E) (hk : gI E 1566 95 = nI k) (h4 : k ≤ 40) : ∃ o, (∃ E2, o = (.inl none, E2, 137) ∧ MF [1566] [110] E E2 ∧ gI E2 1566 95 = nI (keN k) ∧ ∀ i, gA E2 110 i = keF E k i) ∧ Cl yX12_keep mX12_keep (d + 1) 0 0 [.ref 95] E 137 o := by
  refine Cx.of (by decide) rfl (fun q => by cases q) rfl rfl (Nat.le_of_ble_eq_true rfl) ?_
  show Sx _ _ _ _ _ 0 [some (.ref 95), none] [] _ _
  have fin : ∀ E3 n x1, n ≤ 39 → MF [1566] [110] E E3 → gI E3 1566 95 = nI n → nI (n + 1) = nI (keN k) → (∀ i, (if 18 * n ≤ i ∧ i < 18 * n + 18 then pkF E (i - 18 * n) else gA E3 110 i) = keF E k i) → Sx mX12_keep (d + 1) 0 0 (fun o => ∃ E2, o = (.inl none, E2, 137) ∧ MF [1566] [110] E E2 ∧ gI E2 1566 95 = nI (keN k) ∧ ∀ i, gA E2 110 i = keF E k i) 52 [some (.ref 95), x1] [] E3 137 := by
    intro E3 n x1 hn f3 a1 a2 a3
    have hM3 := mf_mo f3 hM
    have hmul : (18 : Int32) * nI n = nI (18 * n) := by
      show Int32.ofNat 18 * Int32.ofNat n = Int32.ofNat (18 * n)
      exact (Int32.ofNat_mul 18 n).symm
    obtain ⟨_, ⟨E4, rfl, f4, b4⟩, hpk⟩ := c_pack (d := d) (a := 110) (l9 := 720) (o9 := 18 * n) hM3 rfl (by decide) (by decide) (by decide) (by omega) (by omega)
    have hpe : pkF E3 = pkF E := pk_mf f3 (by decide) (by decide) (by decide) (by decide) (by decide) (by decide)
    rw [hpe] at b4
    have hM4 := mf_mo f4 hM3
    have e4 : gI E4 1566 95 = nI n := (mf_gI f4 (by decide)).trans a1
    refine Sx.up (fun _ kk => r_aload_n 53 dX12_keep_52 rfl rfl kk) ?_
    refine Sx.up (fun _ kk => r_aload_n 54 dX12_keep_53 rfl rfl kk) ?_
    refine Sx.up (fun _ kk => r_getR 57 dX12_keep_54 rfl f12_78 rfl rfl lt95 (mo_25 hM3) kk) ?_
    refine Sx.up (fun _ kk => r_bipush (18) 59 dX12_keep_57 rfl (by decide) kk) ?_
    refine Sx.up (fun _ kk => r_aload_n 60 dX12_keep_59 rfl rfl kk) ?_
    refine Sx.up (fun _ kk => r_getIV (nI n) 63 dX12_keep_60 rfl f12_324 rfl rfl lt95 (a1) kk) ?_
    refine Sx.up (fun _ kk => r_imul 64 dX12_keep_63 rfl kk) ?_
    rw [hmul]
    refine Sx.up (fun _ kk => r_callV (M := mX12_keep) (pc := 64) 67 dX12_keep_64 rfl k12_423 hpk rfl rfl rfl (by decide) rfl lt95 (Nat.le_of_ble_eq_true rfl) kk) ?_
    refine Sx.up (fun _ kk => r_aload_n 68 dX12_keep_67 rfl rfl kk) ?_
    refine Sx.up (fun _ kk => r_dup 69 dX12_keep_68 rfl rfl kk) ?_
    refine Sx.up (fun _ kk => r_getIV (nI n) 72 dX12_keep_69 rfl f12_324 rfl rfl lt95 (e4) kk) ?_
    refine Sx.up (fun _ kk => r_iconst (1) 73 dX12_keep_72 rfl (by decide) kk) ?_
    refine Sx.up (fun _ kk => r_iadd 74 dX12_keep_73 rfl kk) ?_
    refine Sx.up (fun _ kk => r_putI 77 dX12_keep_74 rfl f12_324 rfl lt95 kk) ?_
    refine ⟨_, ?_, r_vret dX12_keep_77 rfl rfl rfl⟩
    refine ⟨_, rfl, mf_sI (by decide) (mf_tr f3 (mf_mono f4 (by decide) (by decide))), ?_, fun i => (b4 i).trans (a3 i)⟩
    rw [gI_sI, if_pos ⟨rfl, rfl⟩, nI_pp, a2]
  by_cases hk40 : k = 40
  · have loop := sxUp (S := fun k9 E2 => Sx mX12_keep (d + 1) 0 0 (fun o => ∃ E2, o = (.inl none, E2, 137) ∧ MF [1566] [110] E E2 ∧ gI E2 1566 95 = nI (keN k) ∧ ∀ i, gA E2 110 i = keF E k i) 12 [some (.ref 95), some (.int (nI k9))] [] E2 137) (Inv := fun k9 E2 => MF [] [110] E E2 ∧ ∀ i, gA E2 110 i = if i + 18 < k9 then gA E 110 (i + 18) else gA E 110 i) (a := 18) (l := 720) (by omega) ?_ ?_ E ⟨mf_rfl, fun i => by rw [if_neg (by omega)]⟩
    refine Sx.up (fun _ kk => r_aload_n 1 dX12_keep_0 rfl rfl kk) ?_
    refine Sx.up (fun _ kk => r_getIV (nI k) 4 dX12_keep_1 rfl f12_324 rfl rfl lt95 (hk) kk) ?_
    refine Sx.up (fun _ kk => r_bipush (40) 6 dX12_keep_4 rfl (by decide) kk) ?_
    refine Sx.up (fun _ kk => r_icmp_ne 9 52 dX12_keep_6 rfl (by decide) (fun h6 => absurd h6 (fun z => z (by rw [hk40]; rfl))) (fun _ => kk)) ?_
    refine Sx.up (fun _ kk => r_bipush (18) 11 dX12_keep_9 rfl (by decide) kk) ?_
    refine Sx.up (fun _ kk => r_istore_n 12 dX12_keep_11 rfl (by decide) rfl kk) ?_
    exact loop
    · intro E2 ⟨f2, b2⟩
      have hM2 := mf_mo f2 hM
      have e2 : gI E2 1566 95 = nI k := (mf_gI f2 (by decide)).trans hk
      refine Sx.up (fun _ kk => r_iload_n 13 dX12_keep_12 rfl rfl kk) ?_
      refine Sx.up (fun _ kk => r_aload_n 14 dX12_keep_13 rfl rfl kk) ?_
      refine Sx.up (fun _ kk => r_getR 17 dX12_keep_14 rfl f12_78 rfl rfl lt95 (mo_25 hM2) kk) ?_
      refine Sx.up (fun _ kk => r_alenI 720 18 dX12_keep_17 rfl rfl (by decide) rfl kk) ?_
      refine Sx.up (fun _ kk => r_icmp_ge 21 42 dX12_keep_18 rfl (by decide) (fun _ => kk) (fun h18 => absurd (by decide) h18)) ?_
      refine Sx.up (fun _ kk => r_aload_n 43 dX12_keep_42 rfl rfl kk) ?_
      refine Sx.up (fun _ kk => r_dup 44 dX12_keep_43 rfl rfl kk) ?_
      refine Sx.up (fun _ kk => r_getIV (nI k) 47 dX12_keep_44 rfl f12_324 rfl rfl lt95 (e2) kk) ?_
      refine Sx.up (fun _ kk => r_iconst (1) 48 dX12_keep_47 rfl (by decide) kk) ?_
      refine Sx.up (fun _ kk => r_isub 49 dX12_keep_48 rfl kk) ?_
      refine Sx.up (fun _ kk => r_putI 52 dX12_keep_49 rfl f12_324 rfl lt95 kk) ?_
      have ek : nI k - 1 = nI 39 := by rw [hk40]; rfl
      rw [ek]
      refine fin _ 39 _ (by omega) (mf_sI (by decide) (mf_mono f2 (by decide) (by decide))) (by rw [gI_sI, if_pos ⟨rfl, rfl⟩]) (by unfold keN; rw [if_pos hk40]) (fun i => ?_)
      unfold keF
      rw [if_pos hk40]
      show (if 702 ≤ i ∧ i < 720 then pkF E (i - 702) else gA E2 110 i) = _
      by_cases h1 : 702 ≤ i ∧ i < 720
      · rw [if_pos h1, if_pos h1]
      · rw [if_neg h1, if_neg h1, b2 i]
        by_cases h2 : i < 702
        · rw [if_pos (by omega), if_pos h2]
        · rw [if_neg (by omega), if_neg h2]
    · intro k9 E2 hk0 hk9 ⟨f2, b2⟩ hq
      have hM2 := mf_mo f2 hM
      have e18 : nI k9 - 18 = nI (k9 - 18) := by
        rw [show nI k9 = nI (k9 - 18) + 18 by show _ = nI (k9 - 18) + nI 18; rw [add_nI, show k9 - 18 + 18 = k9 by omega], Int32.add_sub_cancel]
      have v1 : gA E2 110 k9 = gA E 110 k9 := by rw [b2 k9, if_neg (by omega)]
      refine Sx.up (fun _ kk => r_iload_n 13 dX12_keep_12 rfl rfl kk) ?_
      refine Sx.up (fun _ kk => r_aload_n 14 dX12_keep_13 rfl rfl kk) ?_
      refine Sx.up (fun _ kk => r_getR 17 dX12_keep_14 rfl f12_78 rfl rfl lt95 (mo_25 hM2) kk) ?_
      refine Sx.up (fun _ kk => r_alenI 720 18 dX12_keep_17 rfl rfl (by decide) rfl kk) ?_
      refine Sx.up (fun _ kk => r_icmp_ge 21 42 dX12_keep_18 rfl (by decide) (fun h18 => absurd h18 (fun z => absurd (show nI 720 ≤ nI k9 from z) (nI_ge hk9 (by omega)))) (fun _ => kk)) ?_
      refine Sx.up (fun _ kk => r_aload_n 22 dX12_keep_21 rfl rfl kk) ?_
      refine Sx.up (fun _ kk => r_getR 25 dX12_keep_22 rfl f12_78 rfl rfl lt95 (mo_25 hM2) kk) ?_
      refine Sx.up (fun _ kk => r_iload_n 26 dX12_keep_25 rfl rfl kk) ?_
      refine Sx.up (fun _ kk => r_bipush (18) 28 dX12_keep_26 rfl (by decide) kk) ?_
      refine Sx.up (fun _ kk => r_isub 29 dX12_keep_28 rfl kk) ?_
      refine Sx.up (fun _ kk => r_aload_n 30 dX12_keep_29 rfl rfl kk) ?_
      refine Sx.up (fun _ kk => r_getR 33 dX12_keep_30 rfl f12_78 rfl rfl lt95 (mo_25 hM2) kk) ?_
      refine Sx.up (fun _ kk => r_iload_n 34 dX12_keep_33 rfl rfl kk) ?_
      refine Sx.up (fun _ kk => r_ialdN (k9) (_) 35 dX12_keep_34 rfl rfl (Nat.le_of_ble_eq_true rfl) (rfl) (by omega) (Nat.le_of_ble_eq_true rfl) (v1) kk) ?_
      refine Sx.up (fun _ kk => r_iastN (k9 - 18) 36 dX12_keep_35 rfl rfl (Nat.le_of_ble_eq_true rfl) (e18) (by omega) (Nat.le_of_ble_eq_true rfl) kk) ?_
      refine Sx.up (fun _ kk => r_iinc (1) 39 dX12_keep_36 rfl rfl (by decide) (by decide) rfl kk) ?_
      refine Sx.up (fun _ kk => r_goto 12 dX12_keep_39 (by decide) kk) ?_
      rw [nI_pp]
      refine hq _ ⟨mf_sA (by decide) f2, fun i => ?_⟩
      rw [gA_sA]
      by_cases h1 : i = k9 - 18
      · rw [if_pos ⟨rfl, h1⟩, if_pos (by omega), show i + 18 = k9 by omega]
      · rw [if_neg (fun z => h1 z.2), b2 i]
        by_cases h2 : i + 18 < k9
        · rw [if_pos h2, if_pos (by omega)]
        · rw [if_neg h2, if_neg (by omega)]
  · refine Sx.up (fun _ kk => r_aload_n 1 dX12_keep_0 rfl rfl kk) ?_
    refine Sx.up (fun _ kk => r_getIV (nI k) 4 dX12_keep_1 rfl f12_324 rfl rfl lt95 (hk) kk) ?_
    refine Sx.up (fun _ kk => r_bipush (40) 6 dX12_keep_4 rfl (by decide) kk) ?_
    refine Sx.up (fun _ kk => r_icmp_ne 9 52 dX12_keep_6 rfl (by decide) (fun _ => kk) (fun h6 => absurd h6 (fun z => hk40 ((nI_eq (by omega) (by omega)).mp (show nI k = nI 40 from z))))) ?_
    refine fin E k _ (by omega) mf_rfl hk (by unfold keN; rw [if_neg hk40]) (fun i => ?_)
    unfold keF
    rw [if_neg hk40]
set_option maxRecDepth 20000 in
theorem c_be {d a a2 l9 : Nat} {E : HP} (ha : sh a = (100, l9)) (ha2 : sh a2 = (100, l9)) (h9 : a < 137) (h92 : a2 < 137) (hne : a ≠ a2) (hl : l9 ≤ 1200) : ∃ o, (∃ E2, o = (.inl none, E2, 137) ∧ MF [] [a] E E2 ∧ ∀ i, i < l9 → gA E2 a i = gA E a2 i) ∧ Cl yX12_be mX12_be d 0 0 [.ref a, .ref a2] E 137 o := by
  refine Cx.of (by decide) rfl (fun q => by cases q) rfl rfl (Nat.le_of_ble_eq_true rfl) ?_
  show Sx _ _ _ _ _ 0 [some (.ref a), some (.ref a2), none] [] _ _
  have loop := sxUp (S := fun k9 E2 => Sx mX12_be d 0 0 (fun o => ∃ E2, o = (.inl none, E2, 137) ∧ MF [] [a] E E2 ∧ ∀ i, i < l9 → gA E2 a i = gA E a2 i) 2 [some (.ref a), some (.ref a2), some (.int (nI k9))] [] E2 137) (Inv := fun k9 E2 => MF [] [a] E E2 ∧ ∀ i, i < k9 → gA E2 a i = gA E a2 i) (a := 0) (l := l9) (by omega) ?_ ?_ E ⟨mf_rfl, fun i hi => absurd hi (Nat.not_lt_zero i)⟩
  refine Sx.up (fun _ kk => r_iconst (0) 1 dX12_be_0 rfl (by decide) kk) ?_
  refine Sx.up (fun _ kk => r_istore_n 2 dX12_be_1 rfl (by decide) rfl kk) ?_
  exact loop
  · intro E2 ⟨f2, b2⟩
    refine Sx.up (fun _ kk => r_iload_n 3 dX12_be_2 rfl rfl kk) ?_
    refine Sx.up (fun _ kk => r_aload_n 4 dX12_be_3 rfl rfl kk) ?_
    refine Sx.up (fun _ kk => r_alenI (nI l9) 5 dX12_be_4 rfl ha h9 rfl kk) ?_
    refine Sx.up (fun _ kk => r_icmp_ge 8 20 dX12_be_5 rfl (by decide) (fun _ => kk) (fun h5 => absurd (nI_le (Nat.le_refl _) (by omega)) h5)) ?_
    refine ⟨_, ?_, r_vret dX12_be_20 rfl rfl rfl⟩
    exact ⟨E2, rfl, f2, b2⟩
  · intro k9 E2 hk0 hk9 ⟨f2, b2⟩ hq
    have v1 : gA E2 a2 k9 = gA E a2 k9 := by rw [mf_gA f2 (fun z => hne (List.mem_singleton.mp z).symm)]
    refine Sx.up (fun _ kk => r_iload_n 3 dX12_be_2 rfl rfl kk) ?_
    refine Sx.up (fun _ kk => r_aload_n 4 dX12_be_3 rfl rfl kk) ?_
    refine Sx.up (fun _ kk => r_alenI (nI l9) 5 dX12_be_4 rfl ha h9 rfl kk) ?_
    refine Sx.up (fun _ kk => r_icmp_ge 8 20 dX12_be_5 rfl (by decide) (fun h5 => absurd h5 (nI_ge hk9 (by omega))) (fun _ => kk)) ?_
    refine Sx.up (fun _ kk => r_aload_n 9 dX12_be_8 rfl rfl kk) ?_
    refine Sx.up (fun _ kk => r_iload_n 10 dX12_be_9 rfl rfl kk) ?_
    refine Sx.up (fun _ kk => r_aload_n 11 dX12_be_10 rfl rfl kk) ?_
    refine Sx.up (fun _ kk => r_iload_n 12 dX12_be_11 rfl rfl kk) ?_
    refine Sx.up (fun _ kk => r_ialdN (k9) (_) 13 dX12_be_12 rfl ha2 h92 (rfl) (by omega) (by omega) (v1) kk) ?_
    refine Sx.up (fun _ kk => r_iastN (k9) 14 dX12_be_13 rfl ha h9 (rfl) (by omega) (by omega) kk) ?_
    refine Sx.up (fun _ kk => r_iinc (1) 17 dX12_be_14 rfl rfl (by decide) (by decide) rfl kk) ?_
    refine Sx.up (fun _ kk => r_goto 2 dX12_be_17 (by decide) kk) ?_
    rw [nI_pp]
    refine hq _ ⟨mf_sA (List.mem_singleton.mpr rfl) f2, fun i hi => ?_⟩
    rw [gA_sA]
    by_cases h1 : i = k9
    · rw [if_pos ⟨rfl, h1⟩, h1]
    · rw [if_neg (fun z => h1 z.2)]; exact b2 i (by omega)
set_option maxRecDepth 20000 in
theorem c_ref {d k : Nat} {E : HP} (hM : MoOK E) (hk : k < 3) : Cl yX12_refuse mX12_refuse d 0 0 [.ref 95, .int (nI k)] E 137 (.inl (some (.int (-1))), sA E 107 k (gA E 107 k + 1), 137) := by
  refine Cl.of (by decide) rfl (fun q => by cases q) rfl rfl (Nat.le_of_ble_eq_true rfl) ?_
  show Sm _ _ _ _ _ 0 [some (.ref 95), some (.int (nI k))] [] _ _
  refine r_aload_n 1 dX12_refuse_0 rfl rfl ?_
  refine r_getR 4 dX12_refuse_1 rfl f12_65 rfl rfl lt95 (mo_12 hM) ?_
  refine r_iload_n 5 dX12_refuse_4 rfl rfl ?_
  refine r_dup2 6 dX12_refuse_5 rfl rfl rfl ?_
  refine r_ialdN (k) (_) 7 dX12_refuse_6 rfl rfl (Nat.le_of_ble_eq_true rfl) (rfl) (by omega) (Nat.le_of_ble_eq_true rfl) (rfl) ?_
  refine r_iconst (1) 8 dX12_refuse_7 rfl (by decide) ?_
  refine r_iadd 9 dX12_refuse_8 rfl ?_
  refine r_iastN (k) 10 dX12_refuse_9 rfl rfl (Nat.le_of_ble_eq_true rfl) (rfl) (by omega) (Nat.le_of_ble_eq_true rfl) ?_
  refine r_iconst (-1) 11 dX12_refuse_10 rfl (by decide) ?_
  exact r_iret dX12_refuse_11 rfl rfl (rfl)
