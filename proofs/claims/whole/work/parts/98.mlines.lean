/-! The model's reader: lines -/
/-- what stands in the second halves beside who is told -/
theorem md_sA {E0 E : HP} {T : TX} {s : PS} {a i m : Nat} {v : Int32} (y1 : CMd E0 E T s) (ha : (a, m) ∈ halfL) (h98 : a ≠ 98) (h106 : a ≠ 106) (hi : m ≤ i) (hB : ∀ p B, s = .inr (p, B) → (if a = 100 then 2 * (7 + bC B) else 7 + bC B) ≤ i) : CMd E0 (sA E a i v) T s := by
  have hM : MF [] [a] E (sA E a i v) := mf_sA (by simp) mf_rfl
  have h8 := half_ck (a, m) ha (a, m) ha
  have hT : TmF (sA E a i v) T := tmf_mf hM (by decide) (by intro z; have := List.mem_singleton.mp z; subst this; exact absurd h8.1 (by decide)) (md_F y1)
  refine ⟨⟨md_T y1, hT, hf_sA y1.1.2.2 ha hi⟩, ?_⟩
  cases s with
  | inl x => exact y1.2
  | inr x =>
    obtain ⟨p, B⟩ := x
    obtain ⟨c1, c2, c3, o1, o2, o3, o4, o5, o6, o7, o8, o9, o10⟩ := id y1.2
    have hb := hB p B rfl
    have hg : ∀ k j, ¬ (k = a ∧ j = i) → gA (sA E a i v) k j = gA E k j := fun k j z => by rw [gA_sA, if_neg z]
    refine ⟨c1, c2, c3, (hg _ _ (by omega)).trans o1, o2, fun q hq => ?_, o4, fun j hj => (hg _ _ (by omega)).trans (o5 j hj), (hg _ _ (by omega)).trans o6, o7, (hg _ _ (by omega)).trans o8, o9, fun j hj => (hg _ _ (by omega)).trans (o10 j hj)⟩
    obtain ⟨q1, q2, q3, q4, q5, q6, q7, q8⟩ := o3 q hq
    have n : ∀ k, k ≠ 100 → ¬ (k = a ∧ 7 + q = i) := fun k hk z => by
      rw [if_neg (by omega)] at hb
      omega
    have n2 : ∀ j, j ≤ 1 → ¬ (100 = a ∧ 2 * (7 + q) + j = i) := fun j hj z => by
      rw [if_pos (by omega)] at hb
      omega
    exact ⟨(hg _ _ (n _ (by decide))).trans q1, (hg _ _ (n2 0 (by decide))).trans q2, (hg _ _ (n2 1 (by decide))).trans q3, (hg _ _ (n _ (by decide))).trans q4, (hg _ _ (n _ (by decide))).trans q5, (hg _ _ (n _ (by decide))).trans q6, (hg _ _ (n _ (by decide))).trans q7, (hg _ _ (n _ (by decide))).trans q8⟩
theorem md_told {E0 E : HP} {T : TX} {s : PS} {f : Nat → Int32} {v : Int32} (y1 : CMd E0 E T s) (hv : ∀ p B, s = .inr (p, B) → v = nI (bC B) + 1 ∧ bC B < 7 ∧ gA E 99 (7 + bC B) = f 1 ∧ gA E 100 (2 * (7 + bC B)) = f 2 ∧ gA E 100 (2 * (7 + bC B) + 1) = f 3 ∧ gA E 101 (7 + bC B) = f 4 ∧ gA E 102 (7 + bC B) = f 5 ∧ gA E 103 (7 + bC B) = f 6 ∧ gA E 104 (7 + bC B) = f 7 ∧ gA E 105 (7 + bC B) = 0) : CMd E0 (sA E 98 8 v) T (slS f s) := by
  have hM : MF [] [98] E (sA E 98 8 v) := mf_sA (by simp) mf_rfl
  have hT : TmF (sA E 98 8 v) T := tmf_mf hM (by decide) (by decide) (md_F y1)
  refine ⟨⟨md_T y1, hT, hf_sA y1.1.2.2 (m := 8) (by decide) (Nat.le_refl _)⟩, ?_⟩
  cases s with
  | inl x => exact y1.2
  | inr x =>
    obtain ⟨p, B⟩ := x
    obtain ⟨c1, c2, c3, o1, o2, o3, o4, o5, o6, o7, o8, o9, o10⟩ := id y1.2
    obtain ⟨rfl, h7, f1, f2, f3, f4, f5, f6, f7, f8⟩ := hv p B rfl
    have hg : ∀ j, j ≠ 8 → gA (sA E 98 8 (nI (bC B) + 1)) 98 j = gA E 98 j := fun j z => by rw [gA_sA, if_neg (fun y => z y.2)]
    have ho : ∀ k, k ≠ 98 → gA (sA E 98 8 (nI (bC B) + 1)) k = gA E k := fun k hk => mf_gA hM (by simp [hk])
    refine ⟨c1, c2, c3, ?_, ?_, fun q hq => ?_, fun q h1 h2 => ?_, fun j hj => (hg _ (by omega)).trans (o5 j hj), (hg _ (by decide)).trans o6, o7, (hg _ (by decide)).trans o8, o9, fun j hj => by rw [ho 106 (by decide)]; exact o10 j hj⟩
    · rw [gA_sA, if_pos ⟨rfl, rfl⟩, nI_pp]; rfl
    · show bC B + 1 ≤ 7; omega
    · have hq : q < bC B + 1 := hq
      rw [ho 99 (by decide), ho 100 (by decide), ho 101 (by decide), ho 102 (by decide), ho 103 (by decide), ho 104 (by decide), ho 105 (by decide)]
      have e : ∀ k, bL (B.1 + 1, (fun k s => if s = B.1 then f k else B.2.1 k s), B.2.2) k q = if q = bC B then f k else bL B k q := fun _ => rfl
      show gA E 99 (7 + q) = bL (B.1 + 1, (fun k s => if s = B.1 then f k else B.2.1 k s), B.2.2) 1 q ∧ gA E 100 (2 * (7 + q)) = bL (B.1 + 1, (fun k s => if s = B.1 then f k else B.2.1 k s), B.2.2) 2 q ∧ gA E 100 (2 * (7 + q) + 1) = bL (B.1 + 1, (fun k s => if s = B.1 then f k else B.2.1 k s), B.2.2) 3 q ∧ gA E 101 (7 + q) = bL (B.1 + 1, (fun k s => if s = B.1 then f k else B.2.1 k s), B.2.2) 4 q ∧ gA E 102 (7 + q) = bL (B.1 + 1, (fun k s => if s = B.1 then f k else B.2.1 k s), B.2.2) 5 q ∧ gA E 103 (7 + q) = bL (B.1 + 1, (fun k s => if s = B.1 then f k else B.2.1 k s), B.2.2) 6 q ∧ gA E 104 (7 + q) = bL (B.1 + 1, (fun k s => if s = B.1 then f k else B.2.1 k s), B.2.2) 7 q ∧ gA E 105 (7 + q) = bE B q
      rw [e, e, e, e, e, e, e]
      by_cases h9 : q = bC B
      · subst h9
        simp only [if_true]
        exact ⟨f1, f2, f3, f4, f5, f6, f7, f8.trans (o4 _ (Nat.le_refl _) h7).symm⟩
      · simp only [if_neg h9]
        exact o3 q (by omega)
    · have h1 : bC B + 1 ≤ q := h1
      exact o4 q (by omega) h2
theorem tk_inl {T : TX} {lo hi : Nat} (x : Nat × Nat) : tkS T lo hi (.inl x) = .inl x := rfl
theorem bcS {T : TX} {lo hi c : Nat} {s : PS} (h : ∀ p B, s = .inr (p, B) → bC B = c) : ∀ p B, tkS T lo hi s = .inr (p, B) → bC B = c := fun p B z => by
  obtain ⟨a0, e, -⟩ := tk_live z
  exact h _ _ e
theorem dbl7 (k : Nat) : 2 * nI k = nI (2 * k) := (Int32.ofNat_mul 2 k).symm
theorem pe_dead {T : TX} {kd : Int32} {s : PS} {x : Nat × Nat} (h : newS T s = .inl x) : peS T kd s = .inl x := by
  unfold peS
  rw [h]; rfl
theorem dg_dead {T : TX} {s : PS} {x : Nat × Nat} (h : newS T s = .inl x) : dgS T s = .inl x := by
  unfold dgS
  rw [h]; rfl
set_option maxRecDepth 20000 in
theorem md_sleep {d : Nat} {E0 E : HP} {T : TX} {a : Nat} {B : BD} {kd : Int32} (y1 : CMd E0 E T (.inr (a, B))) (hk : kd = 3 ∨ ¬ kd = 3) : ∃ o, (∃ E2, o = (.inl none, E2, 137) ∧ CMd E0 E2 T (if kd = 3 then dgS T (.inr (a, B)) else peS T kd (.inr (a, B)))) ∧ Cl yX12_readSleeper mX12_readSleeper (d + 3) 0 0 [.ref 95, .int kd] E 137 o := by
  have hb := md_0b y1 ⟨_, rfl⟩
  obtain ⟨c1, c2, c3, o1, o2, o3, o4, o5, o6, o7, o8, o9, o10⟩ := id y1.2
  refine Cx.of (by decide) rfl (fun q => by cases q) rfl rfl (Nat.le_of_ble_eq_true rfl) ?_
  show Sx _ _ _ _ _ 0 [some (.ref 95), some (.int (kd)), none, none] [] _ _
  by_cases h7 : bC B = 7
  · have hn : newS T (.inr (a, B)) = .inl (2, a) := if_pos (by omega)
    rw [pe_dead hn, dg_dead hn, ite_self]
    refine Sx.up (fun _ kk => r_aload_n 1 dX12_readSleeper_0 rfl rfl kk) ?_
    refine Sx.up (fun _ kk => r_getR 4 dX12_readSleeper_1 rfl f12_38 rfl rfl lt95 (mo_3 (md_M y1)) kk) ?_
    refine Sx.up (fun _ kk => r_bipush (8) 6 dX12_readSleeper_4 rfl (by decide) kk) ?_
    refine Sx.up (fun _ kk => r_ialdN (8) (nI (bC B)) 7 dX12_readSleeper_6 rfl rfl (Nat.le_of_ble_eq_true rfl) (by decide) (Nat.le_of_ble_eq_true rfl) (Nat.le_of_ble_eq_true rfl) (o1) kk) ?_
    refine Sx.up (fun _ kk => r_bipush (7) 9 dX12_readSleeper_7 rfl (by decide) kk) ?_
    refine Sx.up (fun _ kk => r_icmp_ne 12 17 dX12_readSleeper_9 rfl (by decide) (fun h9 => absurd h9 (fun z => z (by rw [h7]; rfl))) (fun _ => kk)) ?_
    refine Sx.up (fun _ kk => r_aload_n 13 dX12_readSleeper_12 rfl rfl kk) ?_
    refine Sx.up (fun _ kk => r_iconst (2) 14 dX12_readSleeper_13 rfl (by decide) kk) ?_
    obtain ⟨_, ⟨E2, rfl, y2⟩, hcl2⟩ := md_wrong (d := d + 2) y1 (k := 2) (k9 := 2) rfl (by decide) (by decide)
    refine Sx.up (fun _ kk => r_callV 17 dX12_readSleeper_14 rfl k12_229 hcl2 rfl rfl rfl (by decide) rfl lt95 (Nat.le_of_ble_eq_true rfl) kk) ?_
    refine Sx.up (fun _ kk => r_aload_n 18 dX12_readSleeper_17 rfl rfl kk) ?_
    refine Sx.up (fun _ kk => r_getI 21 dX12_readSleeper_18 rfl f12_208 rfl rfl lt95 kk) ?_
    refine Sx.up (fun _ kk => r_if_eq 24 25 dX12_readSleeper_21 rfl (by decide) (fun h21 => absurd h21 (md_1b y2)) (fun _ => kk)) ?_
    refine ⟨_, ?_, r_vret dX12_readSleeper_24 rfl rfl rfl⟩
    exact ⟨_, rfl, y2⟩
  have hn : newS T (.inr (a, B)) = advS T (.inr (a, B)) := if_neg (by omega)
  obtain ⟨c, hc⟩ : ∃ c, bC B = c := ⟨_, rfl⟩
  rw [hc] at o1 h7
  have hc7 : c < 7 := by omega
  obtain ⟨_, ⟨E2, rfl, y2, w2⟩, hcl2⟩ := md_advM (d := d + 1) y1 ⟨_, rfl⟩
  rw [← hn] at y2
  obtain ⟨s1, hs1⟩ : ∃ s1, newS T (.inr (a, B)) = s1 := ⟨_, rfl⟩
  rw [hs1] at y2
  have b1 : ∀ p B', s1 = .inr (p, B') → bC B' = c := fun p B' z => by
    rw [← hs1, hn] at z
    have z := Sum.inr.inj (show (.inr (nxT T a, B) : PS) = .inr (p, B') from z)
    cases z
    exact hc
  have o1b : gA E2 98 8 = nI c := by rw [mf_gA w2 (by decide)]; exact o1
  have i7 : (7 : Int32) + nI c = nI (7 + c) := nI_add 7 c
  have i2 : 2 * nI (7 + c) = nI (2 * (7 + c)) := dbl7 _
  have i21 : 2 * nI (7 + c) + 1 = nI (2 * (7 + c) + 1) := by rw [dbl7, nI_pp]
  have no100 : ∀ {k : Nat}, k ≠ 100 → ∀ {s : PS}, (∀ p B', s = .inr (p, B') → bC B' = c) → ∀ p B', s = .inr (p, B') → (if k = 100 then 2 * (7 + bC B') else 7 + bC B') ≤ 7 + c := fun hk hs p B' z => by rw [if_neg hk, hs p B' z]; exact Nat.le_refl _
  have y3 := md_sA (a := 99) (i := 7 + c) (m := 7) (v := kd) y2 (by decide) (by decide) (by decide) (by omega) (no100 (by decide) b1)
  by_cases h3 : kd = 3
  · rw [if_pos h3]
    have y4 := md_sA (a := 100) (i := 2 * (7 + c)) (m := 14) (v := 0) y3 (by decide) (by decide) (by decide) (by omega) (fun p B' z => by rw [if_pos rfl, b1 p B' z]; exact Nat.le_refl _)
    have y5 := md_sA (a := 100) (i := 2 * (7 + c) + 1) (m := 14) (v := 0) y4 (by decide) (by decide) (by decide) (by omega) (fun p B' z => by rw [if_pos rfl, b1 p B' z]; omega)
    have y6 := md_sA (a := 101) (i := 7 + c) (m := 7) (v := 0) y5 (by decide) (by decide) (by decide) (by omega) (no100 (by decide) b1)
    obtain ⟨_, ⟨E7, v5, rfl, y7, hv5, w7⟩, hcl7⟩ := md_rnM (d := d) y6 (lo := 1) (hi := 9) rfl rfl (by decide) (by decide)
    have b7 : ∀ p B', tkS T 1 9 s1 = .inr (p, B') → bC B' = c := bcS b1
    have y8 := md_sA (a := 102) (i := 7 + c) (m := 7) (v := v5) y7 (by decide) (by decide) (by decide) (by omega) (no100 (by decide) b7)
    have y9 := md_sA (a := 103) (i := 7 + c) (m := 7) (v := 0) y8 (by decide) (by decide) (by decide) (by omega) (no100 (by decide) b7)
    have y10 := md_sA (a := 104) (i := 7 + c) (m := 7) (v := 0) y9 (by decide) (by decide) (by decide) (by omega) (no100 (by decide) b7)
    have y11 := md_sA (a := 105) (i := 7 + c) (m := 7) (v := 0) y10 (by decide) (by decide) (by decide) (by omega) (no100 (by decide) b7)
    have e7 : ∀ k, gA E7 k = gA (sA (sA (sA (sA E2 99 (7 + c) kd) 100 (2 * (7 + c)) 0) 100 (2 * (7 + c) + 1) 0) 101 (7 + c) 0) k := fun k => w7.2.2.1 k List.not_mem_nil
    have g8 : gA (sA (sA (sA (sA E7 102 (7 + c) v5) 103 (7 + c) 0) 104 (7 + c) 0) 105 (7 + c) 0) 98 8 = nI c := by
      simp only [gA_sA, e7]
      simp [gA_sA, o1b]
    have yf := md_told (f := kd7 3 0 0 0 (nI (vaS T s1)) 0 0) (v := nI c + 1) y11 (fun p B' z => by
      have hB := b7 p B' z
      rw [hB]
      refine ⟨rfl, hc7, ?_, ?_, ?_, ?_, ?_, ?_, ?_, ?_⟩
      · simp only [gA_sA, e7]; simp [gA_sA, kd7, h3]
      · simp only [gA_sA, e7]; simp [gA_sA, kd7]
      · simp only [gA_sA, e7]; simp [gA_sA, kd7]
      · simp only [gA_sA, e7]; simp [gA_sA, kd7]
      · simp [gA_sA, kd7, hv5 p B' z]
      · simp [gA_sA, kd7]
      · simp [gA_sA, kd7]
      · simp [gA_sA])
    have hres : dgS T (.inr (a, B)) = slS (kd7 3 0 0 0 (nI (vaS T s1)) 0 0) (tkS T 1 9 s1) := by unfold dgS; rw [hs1]
    rw [hres]
    refine Sx.up (fun _ kk => r_aload_n 1 dX12_readSleeper_0 rfl rfl kk) ?_
    refine Sx.up (fun _ kk => r_getR 4 dX12_readSleeper_1 rfl f12_38 rfl rfl lt95 (mo_3 (by first | exact md_M y11 | exact md_M y10 | exact md_M y9 | exact md_M y8 | exact md_M y7 | exact md_M y6 | exact md_M y5 | exact md_M y4 | exact md_M y3 | exact md_M y2 | exact md_M y1)) kk) ?_
    refine Sx.up (fun _ kk => r_bipush (8) 6 dX12_readSleeper_4 rfl (by decide) kk) ?_
    refine Sx.up (fun _ kk => r_ialdN (8) (nI c) 7 dX12_readSleeper_6 rfl rfl (Nat.le_of_ble_eq_true rfl) (by decide) (Nat.le_of_ble_eq_true rfl) (Nat.le_of_ble_eq_true rfl) (o1) kk) ?_
    refine Sx.up (fun _ kk => r_bipush (7) 9 dX12_readSleeper_7 rfl (by decide) kk) ?_
    refine Sx.up (fun _ kk => r_icmp_ne 12 17 dX12_readSleeper_9 rfl (by decide) (fun _ => kk) (fun h9 => absurd h9 (fun z => h7 ((nI_eq (b := 7) (by omega) (by omega)).mp z)))) ?_
    refine Sx.up (fun _ kk => r_aload_n 18 dX12_readSleeper_17 rfl rfl kk) ?_
    refine Sx.up (fun _ kk => r_getI 21 dX12_readSleeper_18 rfl f12_208 rfl rfl lt95 kk) ?_
    refine Sx.up (fun _ kk => r_if_eq 24 25 dX12_readSleeper_21 rfl (by decide) (fun _ => kk) (fun h21 => absurd hb h21)) ?_
    refine Sx.up (fun _ kk => r_aload_n 26 dX12_readSleeper_25 rfl rfl kk) ?_
    refine Sx.up (fun _ kk => r_callV 29 dX12_readSleeper_26 rfl k12_233 hcl2 rfl rfl rfl (by decide) rfl lt95 (Nat.le_of_ble_eq_true rfl) kk) ?_
    refine Sx.up (fun _ kk => r_bipush (7) 31 dX12_readSleeper_29 rfl (by decide) kk) ?_
    refine Sx.up (fun _ kk => r_aload_n 32 dX12_readSleeper_31 rfl rfl kk) ?_
    refine Sx.up (fun _ kk => r_getR 35 dX12_readSleeper_32 rfl f12_38 rfl rfl lt95 (mo_3 (by first | exact md_M y11 | exact md_M y10 | exact md_M y9 | exact md_M y8 | exact md_M y7 | exact md_M y6 | exact md_M y5 | exact md_M y4 | exact md_M y3 | exact md_M y2 | exact md_M y1)) kk) ?_
    refine Sx.up (fun _ kk => r_bipush (8) 37 dX12_readSleeper_35 rfl (by decide) kk) ?_
    refine Sx.up (fun _ kk => r_ialdN (8) (nI c) 38 dX12_readSleeper_37 rfl rfl (Nat.le_of_ble_eq_true rfl) (by decide) (Nat.le_of_ble_eq_true rfl) (Nat.le_of_ble_eq_true rfl) (o1b) kk) ?_
    refine Sx.up (fun _ kk => r_iadd 39 dX12_readSleeper_38 rfl kk) ?_
    rw [i7]
    refine Sx.up (fun _ kk => r_istore_n 40 dX12_readSleeper_39 rfl (by decide) rfl kk) ?_
    refine Sx.up (fun _ kk => r_iload_n 41 dX12_readSleeper_40 rfl rfl kk) ?_
    refine Sx.up (fun _ kk => r_iconst (3) 42 dX12_readSleeper_41 rfl (by decide) kk) ?_
    refine Sx.up (fun _ kk => r_icmp_ne 45 49 dX12_readSleeper_42 rfl (by decide) (fun h42 => absurd h42 (fun z => z h3)) (fun _ => kk)) ?_
    refine Sx.up (fun _ kk => r_iconst (1) 46 dX12_readSleeper_45 rfl (by decide) kk) ?_
    refine Sx.up (fun _ kk => r_goto 50 dX12_readSleeper_46 (by decide) kk) ?_
    refine Sx.up (fun _ kk => r_istore_n 51 dX12_readSleeper_50 rfl (by decide) rfl kk) ?_
    refine Sx.up (fun _ kk => r_aload_n 52 dX12_readSleeper_51 rfl rfl kk) ?_
    refine Sx.up (fun _ kk => r_getR 55 dX12_readSleeper_52 rfl f12_42 rfl rfl lt95 (mo_4 (by first | exact md_M y11 | exact md_M y10 | exact md_M y9 | exact md_M y8 | exact md_M y7 | exact md_M y6 | exact md_M y5 | exact md_M y4 | exact md_M y3 | exact md_M y2 | exact md_M y1)) kk) ?_
    refine Sx.up (fun _ kk => r_iload_n 56 dX12_readSleeper_55 rfl rfl kk) ?_
    refine Sx.up (fun _ kk => r_iload_n 57 dX12_readSleeper_56 rfl rfl kk) ?_
    refine Sx.up (fun _ kk => r_iastN (7 + c) 58 dX12_readSleeper_57 rfl rfl (Nat.le_of_ble_eq_true rfl) (rfl) (by omega) (Nat.le_of_ble_eq_true rfl) kk) ?_
    refine Sx.up (fun _ kk => r_aload_n 59 dX12_readSleeper_58 rfl rfl kk) ?_
    refine Sx.up (fun _ kk => r_getR 62 dX12_readSleeper_59 rfl f12_45 rfl rfl lt95 (mo_5 (by first | exact md_M y11 | exact md_M y10 | exact md_M y9 | exact md_M y8 | exact md_M y7 | exact md_M y6 | exact md_M y5 | exact md_M y4 | exact md_M y3 | exact md_M y2 | exact md_M y1)) kk) ?_
    refine Sx.up (fun _ kk => r_iconst (2) 63 dX12_readSleeper_62 rfl (by decide) kk) ?_
    refine Sx.up (fun _ kk => r_iload_n 64 dX12_readSleeper_63 rfl rfl kk) ?_
    refine Sx.up (fun _ kk => r_imul 65 dX12_readSleeper_64 rfl kk) ?_
    refine Sx.up (fun _ kk => r_iload_n 66 dX12_readSleeper_65 rfl rfl kk) ?_
    refine Sx.up (fun _ kk => r_if_eq 69 73 dX12_readSleeper_66 rfl (by decide) (fun h66 => absurd h66 (by decide)) (fun _ => kk)) ?_
    refine Sx.up (fun _ kk => r_iconst (0) 70 dX12_readSleeper_69 rfl (by decide) kk) ?_
    refine Sx.up (fun _ kk => r_goto 81 dX12_readSleeper_70 (by decide) kk) ?_
    refine Sx.up (fun _ kk => r_iastN (2 * (7 + c)) 82 dX12_readSleeper_81 rfl rfl (Nat.le_of_ble_eq_true rfl) (i2) (by omega) (Nat.le_of_ble_eq_true rfl) kk) ?_
    refine Sx.up (fun _ kk => r_aload_n 83 dX12_readSleeper_82 rfl rfl kk) ?_
    refine Sx.up (fun _ kk => r_getR 86 dX12_readSleeper_83 rfl f12_45 rfl rfl lt95 (mo_5 (by first | exact md_M y11 | exact md_M y10 | exact md_M y9 | exact md_M y8 | exact md_M y7 | exact md_M y6 | exact md_M y5 | exact md_M y4 | exact md_M y3 | exact md_M y2 | exact md_M y1)) kk) ?_
    refine Sx.up (fun _ kk => r_iconst (2) 87 dX12_readSleeper_86 rfl (by decide) kk) ?_
    refine Sx.up (fun _ kk => r_iload_n 88 dX12_readSleeper_87 rfl rfl kk) ?_
    refine Sx.up (fun _ kk => r_imul 89 dX12_readSleeper_88 rfl kk) ?_
    refine Sx.up (fun _ kk => r_iconst (1) 90 dX12_readSleeper_89 rfl (by decide) kk) ?_
    refine Sx.up (fun _ kk => r_iadd 91 dX12_readSleeper_90 rfl kk) ?_
    refine Sx.up (fun _ kk => r_iload_n 92 dX12_readSleeper_91 rfl rfl kk) ?_
    refine Sx.up (fun _ kk => r_if_eq 95 99 dX12_readSleeper_92 rfl (by decide) (fun h92 => absurd h92 (by decide)) (fun _ => kk)) ?_
    refine Sx.up (fun _ kk => r_iconst (0) 96 dX12_readSleeper_95 rfl (by decide) kk) ?_
    refine Sx.up (fun _ kk => r_goto 107 dX12_readSleeper_96 (by decide) kk) ?_
    refine Sx.up (fun _ kk => r_iastN (2 * (7 + c) + 1) 108 dX12_readSleeper_107 rfl rfl (Nat.le_of_ble_eq_true rfl) (i21) (by omega) (Nat.le_of_ble_eq_true rfl) kk) ?_
    refine Sx.up (fun _ kk => r_aload_n 109 dX12_readSleeper_108 rfl rfl kk) ?_
    refine Sx.up (fun _ kk => r_getR 112 dX12_readSleeper_109 rfl f12_48 rfl rfl lt95 (mo_6 (by first | exact md_M y11 | exact md_M y10 | exact md_M y9 | exact md_M y8 | exact md_M y7 | exact md_M y6 | exact md_M y5 | exact md_M y4 | exact md_M y3 | exact md_M y2 | exact md_M y1)) kk) ?_
    refine Sx.up (fun _ kk => r_iload_n 113 dX12_readSleeper_112 rfl rfl kk) ?_
    refine Sx.up (fun _ kk => r_iload_n 114 dX12_readSleeper_113 rfl rfl kk) ?_
    refine Sx.up (fun _ kk => r_if_eq 117 121 dX12_readSleeper_114 rfl (by decide) (fun h114 => absurd h114 (by decide)) (fun _ => kk)) ?_
    refine Sx.up (fun _ kk => r_iconst (0) 118 dX12_readSleeper_117 rfl (by decide) kk) ?_
    refine Sx.up (fun _ kk => r_goto 128 dX12_readSleeper_118 (by decide) kk) ?_
    refine Sx.up (fun _ kk => r_iastN (7 + c) 129 dX12_readSleeper_128 rfl rfl (Nat.le_of_ble_eq_true rfl) (rfl) (by omega) (Nat.le_of_ble_eq_true rfl) kk) ?_
    refine Sx.up (fun _ kk => r_aload_n 130 dX12_readSleeper_129 rfl rfl kk) ?_
    refine Sx.up (fun _ kk => r_getR 133 dX12_readSleeper_130 rfl f12_50 rfl rfl lt95 (mo_7 (by first | exact md_M y11 | exact md_M y10 | exact md_M y9 | exact md_M y8 | exact md_M y7 | exact md_M y6 | exact md_M y5 | exact md_M y4 | exact md_M y3 | exact md_M y2 | exact md_M y1)) kk) ?_
    refine Sx.up (fun _ kk => r_iload_n 134 dX12_readSleeper_133 rfl rfl kk) ?_
    refine Sx.up (fun _ kk => r_aload_n 135 dX12_readSleeper_134 rfl rfl kk) ?_
    refine Sx.up (fun _ kk => r_iconst (1) 136 dX12_readSleeper_135 rfl (by decide) kk) ?_
    refine Sx.up (fun _ kk => r_bipush (9) 138 dX12_readSleeper_136 rfl (by decide) kk) ?_
    refine Sx.up (fun _ kk => r_callV 141 dX12_readSleeper_138 rfl k12_239 hcl7 rfl rfl rfl (by decide) rfl lt95 (Nat.le_of_ble_eq_true rfl) kk) ?_
    refine Sx.up (fun _ kk => r_iastN (7 + c) 142 dX12_readSleeper_141 rfl rfl (Nat.le_of_ble_eq_true rfl) (rfl) (by omega) (Nat.le_of_ble_eq_true rfl) kk) ?_
    refine Sx.up (fun _ kk => r_aload_n 143 dX12_readSleeper_142 rfl rfl kk) ?_
    refine Sx.up (fun _ kk => r_getR 146 dX12_readSleeper_143 rfl f12_53 rfl rfl lt95 (mo_8 (by first | exact md_M y11 | exact md_M y10 | exact md_M y9 | exact md_M y8 | exact md_M y7 | exact md_M y6 | exact md_M y5 | exact md_M y4 | exact md_M y3 | exact md_M y2 | exact md_M y1)) kk) ?_
    refine Sx.up (fun _ kk => r_iload_n 147 dX12_readSleeper_146 rfl rfl kk) ?_
    refine Sx.up (fun _ kk => r_iload_n 148 dX12_readSleeper_147 rfl rfl kk) ?_
    refine Sx.up (fun _ kk => r_if_eq 151 155 dX12_readSleeper_148 rfl (by decide) (fun h148 => absurd h148 (by decide)) (fun _ => kk)) ?_
    refine Sx.up (fun _ kk => r_iconst (0) 152 dX12_readSleeper_151 rfl (by decide) kk) ?_
    refine Sx.up (fun _ kk => r_goto 163 dX12_readSleeper_152 (by decide) kk) ?_
    refine Sx.up (fun _ kk => r_iastN (7 + c) 164 dX12_readSleeper_163 rfl rfl (Nat.le_of_ble_eq_true rfl) (rfl) (by omega) (Nat.le_of_ble_eq_true rfl) kk) ?_
    refine Sx.up (fun _ kk => r_aload_n 165 dX12_readSleeper_164 rfl rfl kk) ?_
    refine Sx.up (fun _ kk => r_getR 168 dX12_readSleeper_165 rfl f12_56 rfl rfl lt95 (mo_9 (by first | exact md_M y11 | exact md_M y10 | exact md_M y9 | exact md_M y8 | exact md_M y7 | exact md_M y6 | exact md_M y5 | exact md_M y4 | exact md_M y3 | exact md_M y2 | exact md_M y1)) kk) ?_
    refine Sx.up (fun _ kk => r_iload_n 169 dX12_readSleeper_168 rfl rfl kk) ?_
    refine Sx.up (fun _ kk => r_iload_n 170 dX12_readSleeper_169 rfl rfl kk) ?_
    refine Sx.up (fun _ kk => r_if_eq 173 177 dX12_readSleeper_170 rfl (by decide) (fun h170 => absurd h170 (by decide)) (fun _ => kk)) ?_
    refine Sx.up (fun _ kk => r_iconst (0) 174 dX12_readSleeper_173 rfl (by decide) kk) ?_
    refine Sx.up (fun _ kk => r_goto 184 dX12_readSleeper_174 (by decide) kk) ?_
    refine Sx.up (fun _ kk => r_iastN (7 + c) 185 dX12_readSleeper_184 rfl rfl (Nat.le_of_ble_eq_true rfl) (rfl) (by omega) (Nat.le_of_ble_eq_true rfl) kk) ?_
    refine Sx.up (fun _ kk => r_aload_n 186 dX12_readSleeper_185 rfl rfl kk) ?_
    refine Sx.up (fun _ kk => r_getR 189 dX12_readSleeper_186 rfl f12_59 rfl rfl lt95 (mo_10 (by first | exact md_M y11 | exact md_M y10 | exact md_M y9 | exact md_M y8 | exact md_M y7 | exact md_M y6 | exact md_M y5 | exact md_M y4 | exact md_M y3 | exact md_M y2 | exact md_M y1)) kk) ?_
    refine Sx.up (fun _ kk => r_iload_n 190 dX12_readSleeper_189 rfl rfl kk) ?_
    refine Sx.up (fun _ kk => r_iconst (0) 191 dX12_readSleeper_190 rfl (by decide) kk) ?_
    refine Sx.up (fun _ kk => r_iastN (7 + c) 192 dX12_readSleeper_191 rfl rfl (Nat.le_of_ble_eq_true rfl) (rfl) (by omega) (Nat.le_of_ble_eq_true rfl) kk) ?_
    refine Sx.up (fun _ kk => r_aload_n 193 dX12_readSleeper_192 rfl rfl kk) ?_
    refine Sx.up (fun _ kk => r_getR 196 dX12_readSleeper_193 rfl f12_38 rfl rfl lt95 (mo_3 (by first | exact md_M y11 | exact md_M y10 | exact md_M y9 | exact md_M y8 | exact md_M y7 | exact md_M y6 | exact md_M y5 | exact md_M y4 | exact md_M y3 | exact md_M y2 | exact md_M y1)) kk) ?_
    refine Sx.up (fun _ kk => r_bipush (8) 198 dX12_readSleeper_196 rfl (by decide) kk) ?_
    refine Sx.up (fun _ kk => r_dup2 199 dX12_readSleeper_198 rfl rfl rfl kk) ?_
    refine Sx.up (fun _ kk => r_ialdN (8) (nI c) 200 dX12_readSleeper_199 rfl rfl (Nat.le_of_ble_eq_true rfl) (by decide) (Nat.le_of_ble_eq_true rfl) (Nat.le_of_ble_eq_true rfl) (g8) kk) ?_
    refine Sx.up (fun _ kk => r_iconst (1) 201 dX12_readSleeper_200 rfl (by decide) kk) ?_
    refine Sx.up (fun _ kk => r_iadd 202 dX12_readSleeper_201 rfl kk) ?_
    refine Sx.up (fun _ kk => r_iastN (8) 203 dX12_readSleeper_202 rfl rfl (Nat.le_of_ble_eq_true rfl) (by decide) (Nat.le_of_ble_eq_true rfl) (Nat.le_of_ble_eq_true rfl) kk) ?_
    refine ⟨_, ?_, r_vret dX12_readSleeper_203 rfl rfl rfl⟩
    exact ⟨_, rfl, yf⟩
  · rw [if_neg h3]
    obtain ⟨_, ⟨E4, v2, rfl, y4, hv2, w4⟩, hcl4⟩ := md_rnM (d := d) y3 (lo := 1) (hi := 240) rfl rfl (by decide) (by decide)
    obtain ⟨s2, hs2⟩ : ∃ s2, tkS T 1 240 s1 = s2 := ⟨_, rfl⟩
    have b2 : ∀ p B', s2 = .inr (p, B') → bC B' = c := by rw [← hs2]; exact bcS b1
    rw [hs2] at y4 hv2
    have y5 := md_sA (a := 100) (i := 2 * (7 + c)) (m := 14) (v := v2) y4 (by decide) (by decide) (by decide) (by omega) (fun p B' z => by rw [if_pos rfl, b2 p B' z]; exact Nat.le_refl _)
    obtain ⟨_, ⟨E6, v3, rfl, y6, hv3, w6⟩, hcl6⟩ := md_rnM (d := d) y5 (lo := 1) (hi := 240) rfl rfl (by decide) (by decide)
    obtain ⟨s3, hs3⟩ : ∃ s3, tkS T 1 240 s2 = s3 := ⟨_, rfl⟩
    have b3 : ∀ p B', s3 = .inr (p, B') → bC B' = c := by rw [← hs3]; exact bcS b2
    rw [hs3] at y6 hv3
    have y7 := md_sA (a := 100) (i := 2 * (7 + c) + 1) (m := 14) (v := v3) y6 (by decide) (by decide) (by decide) (by omega) (fun p B' z => by rw [if_pos rfl, b3 p B' z]; omega)
    obtain ⟨_, ⟨E8, v4, rfl, y8, hv4, w8⟩, hcl8⟩ := md_rnM (d := d) y7 (lo := 0) (hi := 9) rfl rfl (by decide) (by decide)
    obtain ⟨s4, hs4⟩ : ∃ s4, tkS T 0 9 s3 = s4 := ⟨_, rfl⟩
    have b4 : ∀ p B', s4 = .inr (p, B') → bC B' = c := by rw [← hs4]; exact bcS b3
    rw [hs4] at y8 hv4
    have y9 := md_sA (a := 101) (i := 7 + c) (m := 7) (v := v4) y8 (by decide) (by decide) (by decide) (by omega) (no100 (by decide) b4)
    obtain ⟨_, ⟨E10, v5, rfl, y10, hv5, w10⟩, hcl10⟩ := md_rnM (d := d) y9 (lo := 1) (hi := 9) rfl rfl (by decide) (by decide)
    obtain ⟨s5, hs5⟩ : ∃ s5, tkS T 1 9 s4 = s5 := ⟨_, rfl⟩
    have b5 : ∀ p B', s5 = .inr (p, B') → bC B' = c := by rw [← hs5]; exact bcS b4
    rw [hs5] at y10 hv5
    have y11 := md_sA (a := 102) (i := 7 + c) (m := 7) (v := v5) y10 (by decide) (by decide) (by decide) (by omega) (no100 (by decide) b5)
    obtain ⟨_, ⟨E12, v6, rfl, y12, hv6, w12⟩, hcl12⟩ := md_rnM (d := d) y11 (lo := 0) (hi := 600) rfl rfl (by decide) (by decide)
    obtain ⟨s6, hs6⟩ : ∃ s6, tkS T 0 600 s5 = s6 := ⟨_, rfl⟩
    have b6 : ∀ p B', s6 = .inr (p, B') → bC B' = c := by rw [← hs6]; exact bcS b5
    rw [hs6] at y12 hv6
    have y13 := md_sA (a := 103) (i := 7 + c) (m := 7) (v := v6) y12 (by decide) (by decide) (by decide) (by omega) (no100 (by decide) b6)
    obtain ⟨_, ⟨E14, v7, rfl, y14, hv7, w14⟩, hcl14⟩ := md_rnM (d := d) y13 (lo := 0) (hi := 10) rfl rfl (by decide) (by decide)
    have b7 : ∀ p B', tkS T 0 10 s6 = .inr (p, B') → bC B' = c := bcS b6
    have y15 := md_sA (a := 104) (i := 7 + c) (m := 7) (v := v7) y14 (by decide) (by decide) (by decide) (by omega) (no100 (by decide) b7)
    have y16 := md_sA (a := 105) (i := 7 + c) (m := 7) (v := 0) y15 (by decide) (by decide) (by decide) (by omega) (no100 (by decide) b7)
    have e4 : ∀ k j, gA E4 k j = gA (sA E2 99 (7 + c) kd) k j := fun k j => by rw [w4.2.2.1 k List.not_mem_nil]
    have e6 : ∀ k j, gA E6 k j = gA (sA E4 100 (2 * (7 + c)) v2) k j := fun k j => by rw [w6.2.2.1 k List.not_mem_nil]
    have e8 : ∀ k j, gA E8 k j = gA (sA E6 100 (2 * (7 + c) + 1) v3) k j := fun k j => by rw [w8.2.2.1 k List.not_mem_nil]
    have e10 : ∀ k j, gA E10 k j = gA (sA E8 101 (7 + c) v4) k j := fun k j => by rw [w10.2.2.1 k List.not_mem_nil]
    have e12 : ∀ k j, gA E12 k j = gA (sA E10 102 (7 + c) v5) k j := fun k j => by rw [w12.2.2.1 k List.not_mem_nil]
    have e14 : ∀ k j, gA E14 k j = gA (sA E12 103 (7 + c) v6) k j := fun k j => by rw [w14.2.2.1 k List.not_mem_nil]
    have g8 : gA (sA (sA E14 104 (7 + c) v7) 105 (7 + c) 0) 98 8 = nI c := by
      simp [gA_sA, e4, e6, e8, e10, e12, e14, o1b]
    have yf := md_told (f := kd7 kd (nI (vaS T s1)) (nI (vaS T s2)) (nI (vaS T s3)) (nI (vaS T s4)) (nI (vaS T s5)) (nI (vaS T s6))) (v := nI c + 1) y16 (fun p B' z => by
      have hB := b7 p B' z
      have a7 := hv7 p B' z
      obtain ⟨p6, z6, -⟩ := tk_live z
      have a6 := hv6 p6 B' z6
      rw [← hs6] at z6
      obtain ⟨p5, z5, -⟩ := tk_live z6
      have a5 := hv5 p5 B' z5
      rw [← hs5] at z5
      obtain ⟨p4, z4, -⟩ := tk_live z5
      have a4 := hv4 p4 B' z4
      rw [← hs4] at z4
      obtain ⟨p3, z3, -⟩ := tk_live z4
      have a3 := hv3 p3 B' z3
      rw [← hs3] at z3
      obtain ⟨p2, z2, -⟩ := tk_live z3
      have a2 := hv2 p2 B' z2
      rw [hB]
      refine ⟨rfl, hc7, ?_, ?_, ?_, ?_, ?_, ?_, ?_, ?_⟩
      · simp [gA_sA, e4, e6, e8, e10, e12, e14, kd7]
      · simp [gA_sA, e6, e8, e10, e12, e14, kd7, a2]
      · simp [gA_sA, e8, e10, e12, e14, kd7, a3]
      · simp [gA_sA, e10, e12, e14, kd7, a4]
      · simp [gA_sA, e12, e14, kd7, a5]
      · simp [gA_sA, e14, kd7, a6]
      · simp [gA_sA, kd7, a7]
      · simp [gA_sA])
    have hres : peS T kd (.inr (a, B)) = slS (kd7 kd (nI (vaS T s1)) (nI (vaS T s2)) (nI (vaS T s3)) (nI (vaS T s4)) (nI (vaS T s5)) (nI (vaS T s6))) (tkS T 0 10 s6) := by
      unfold peS
      rw [hs1, hs2, hs3, hs4, hs5, hs6]
    rw [hres]
    refine Sx.up (fun _ kk => r_aload_n 1 dX12_readSleeper_0 rfl rfl kk) ?_
    refine Sx.up (fun _ kk => r_getR 4 dX12_readSleeper_1 rfl f12_38 rfl rfl lt95 (mo_3 (by first | exact md_M y16 | exact md_M y15 | exact md_M y14 | exact md_M y13 | exact md_M y12 | exact md_M y11 | exact md_M y10 | exact md_M y9 | exact md_M y8 | exact md_M y7 | exact md_M y6 | exact md_M y5 | exact md_M y4 | exact md_M y3 | exact md_M y2 | exact md_M y1)) kk) ?_
    refine Sx.up (fun _ kk => r_bipush (8) 6 dX12_readSleeper_4 rfl (by decide) kk) ?_
    refine Sx.up (fun _ kk => r_ialdN (8) (nI c) 7 dX12_readSleeper_6 rfl rfl (Nat.le_of_ble_eq_true rfl) (by decide) (Nat.le_of_ble_eq_true rfl) (Nat.le_of_ble_eq_true rfl) (o1) kk) ?_
    refine Sx.up (fun _ kk => r_bipush (7) 9 dX12_readSleeper_7 rfl (by decide) kk) ?_
    refine Sx.up (fun _ kk => r_icmp_ne 12 17 dX12_readSleeper_9 rfl (by decide) (fun _ => kk) (fun h9 => absurd h9 (fun z => h7 ((nI_eq (b := 7) (by omega) (by omega)).mp z)))) ?_
    refine Sx.up (fun _ kk => r_aload_n 18 dX12_readSleeper_17 rfl rfl kk) ?_
    refine Sx.up (fun _ kk => r_getI 21 dX12_readSleeper_18 rfl f12_208 rfl rfl lt95 kk) ?_
    refine Sx.up (fun _ kk => r_if_eq 24 25 dX12_readSleeper_21 rfl (by decide) (fun _ => kk) (fun h21 => absurd hb h21)) ?_
    refine Sx.up (fun _ kk => r_aload_n 26 dX12_readSleeper_25 rfl rfl kk) ?_
    refine Sx.up (fun _ kk => r_callV 29 dX12_readSleeper_26 rfl k12_233 hcl2 rfl rfl rfl (by decide) rfl lt95 (Nat.le_of_ble_eq_true rfl) kk) ?_
    refine Sx.up (fun _ kk => r_bipush (7) 31 dX12_readSleeper_29 rfl (by decide) kk) ?_
    refine Sx.up (fun _ kk => r_aload_n 32 dX12_readSleeper_31 rfl rfl kk) ?_
    refine Sx.up (fun _ kk => r_getR 35 dX12_readSleeper_32 rfl f12_38 rfl rfl lt95 (mo_3 (by first | exact md_M y16 | exact md_M y15 | exact md_M y14 | exact md_M y13 | exact md_M y12 | exact md_M y11 | exact md_M y10 | exact md_M y9 | exact md_M y8 | exact md_M y7 | exact md_M y6 | exact md_M y5 | exact md_M y4 | exact md_M y3 | exact md_M y2 | exact md_M y1)) kk) ?_
    refine Sx.up (fun _ kk => r_bipush (8) 37 dX12_readSleeper_35 rfl (by decide) kk) ?_
    refine Sx.up (fun _ kk => r_ialdN (8) (nI c) 38 dX12_readSleeper_37 rfl rfl (Nat.le_of_ble_eq_true rfl) (by decide) (Nat.le_of_ble_eq_true rfl) (Nat.le_of_ble_eq_true rfl) (o1b) kk) ?_
    refine Sx.up (fun _ kk => r_iadd 39 dX12_readSleeper_38 rfl kk) ?_
    rw [i7]
    refine Sx.up (fun _ kk => r_istore_n 40 dX12_readSleeper_39 rfl (by decide) rfl kk) ?_
    refine Sx.up (fun _ kk => r_iload_n 41 dX12_readSleeper_40 rfl rfl kk) ?_
    refine Sx.up (fun _ kk => r_iconst (3) 42 dX12_readSleeper_41 rfl (by decide) kk) ?_
    refine Sx.up (fun _ kk => r_icmp_ne 45 49 dX12_readSleeper_42 rfl (by decide) (fun _ => kk) (fun h42 => absurd h42 h3)) ?_
    refine Sx.up (fun _ kk => r_iconst (0) 50 dX12_readSleeper_49 rfl (by decide) kk) ?_
    refine Sx.up (fun _ kk => r_istore_n 51 dX12_readSleeper_50 rfl (by decide) rfl kk) ?_
    refine Sx.up (fun _ kk => r_aload_n 52 dX12_readSleeper_51 rfl rfl kk) ?_
    refine Sx.up (fun _ kk => r_getR 55 dX12_readSleeper_52 rfl f12_42 rfl rfl lt95 (mo_4 (by first | exact md_M y16 | exact md_M y15 | exact md_M y14 | exact md_M y13 | exact md_M y12 | exact md_M y11 | exact md_M y10 | exact md_M y9 | exact md_M y8 | exact md_M y7 | exact md_M y6 | exact md_M y5 | exact md_M y4 | exact md_M y3 | exact md_M y2 | exact md_M y1)) kk) ?_
    refine Sx.up (fun _ kk => r_iload_n 56 dX12_readSleeper_55 rfl rfl kk) ?_
    refine Sx.up (fun _ kk => r_iload_n 57 dX12_readSleeper_56 rfl rfl kk) ?_
    refine Sx.up (fun _ kk => r_iastN (7 + c) 58 dX12_readSleeper_57 rfl rfl (Nat.le_of_ble_eq_true rfl) (rfl) (by omega) (Nat.le_of_ble_eq_true rfl) kk) ?_
    refine Sx.up (fun _ kk => r_aload_n 59 dX12_readSleeper_58 rfl rfl kk) ?_
    refine Sx.up (fun _ kk => r_getR 62 dX12_readSleeper_59 rfl f12_45 rfl rfl lt95 (mo_5 (by first | exact md_M y16 | exact md_M y15 | exact md_M y14 | exact md_M y13 | exact md_M y12 | exact md_M y11 | exact md_M y10 | exact md_M y9 | exact md_M y8 | exact md_M y7 | exact md_M y6 | exact md_M y5 | exact md_M y4 | exact md_M y3 | exact md_M y2 | exact md_M y1)) kk) ?_
    refine Sx.up (fun _ kk => r_iconst (2) 63 dX12_readSleeper_62 rfl (by decide) kk) ?_
    refine Sx.up (fun _ kk => r_iload_n 64 dX12_readSleeper_63 rfl rfl kk) ?_
    refine Sx.up (fun _ kk => r_imul 65 dX12_readSleeper_64 rfl kk) ?_
    refine Sx.up (fun _ kk => r_iload_n 66 dX12_readSleeper_65 rfl rfl kk) ?_
    refine Sx.up (fun _ kk => r_if_eq 69 73 dX12_readSleeper_66 rfl (by decide) (fun _ => kk) (fun h66 => absurd rfl h66)) ?_
    refine Sx.up (fun _ kk => r_aload_n 74 dX12_readSleeper_73 rfl rfl kk) ?_
    refine Sx.up (fun _ kk => r_iconst (1) 75 dX12_readSleeper_74 rfl (by decide) kk) ?_
    refine Sx.up (fun _ kk => r_sipush (240) 78 dX12_readSleeper_75 rfl (by decide) kk) ?_
    refine Sx.up (fun _ kk => r_callV 81 dX12_readSleeper_78 rfl k12_239 hcl4 rfl rfl rfl (by decide) rfl lt95 (Nat.le_of_ble_eq_true rfl) kk) ?_
    refine Sx.up (fun _ kk => r_iastN (2 * (7 + c)) 82 dX12_readSleeper_81 rfl rfl (Nat.le_of_ble_eq_true rfl) (i2) (by omega) (Nat.le_of_ble_eq_true rfl) kk) ?_
    refine Sx.up (fun _ kk => r_aload_n 83 dX12_readSleeper_82 rfl rfl kk) ?_
    refine Sx.up (fun _ kk => r_getR 86 dX12_readSleeper_83 rfl f12_45 rfl rfl lt95 (mo_5 (by first | exact md_M y16 | exact md_M y15 | exact md_M y14 | exact md_M y13 | exact md_M y12 | exact md_M y11 | exact md_M y10 | exact md_M y9 | exact md_M y8 | exact md_M y7 | exact md_M y6 | exact md_M y5 | exact md_M y4 | exact md_M y3 | exact md_M y2 | exact md_M y1)) kk) ?_
    refine Sx.up (fun _ kk => r_iconst (2) 87 dX12_readSleeper_86 rfl (by decide) kk) ?_
    refine Sx.up (fun _ kk => r_iload_n 88 dX12_readSleeper_87 rfl rfl kk) ?_
    refine Sx.up (fun _ kk => r_imul 89 dX12_readSleeper_88 rfl kk) ?_
    refine Sx.up (fun _ kk => r_iconst (1) 90 dX12_readSleeper_89 rfl (by decide) kk) ?_
    refine Sx.up (fun _ kk => r_iadd 91 dX12_readSleeper_90 rfl kk) ?_
    refine Sx.up (fun _ kk => r_iload_n 92 dX12_readSleeper_91 rfl rfl kk) ?_
    refine Sx.up (fun _ kk => r_if_eq 95 99 dX12_readSleeper_92 rfl (by decide) (fun _ => kk) (fun h92 => absurd rfl h92)) ?_
    refine Sx.up (fun _ kk => r_aload_n 100 dX12_readSleeper_99 rfl rfl kk) ?_
    refine Sx.up (fun _ kk => r_iconst (1) 101 dX12_readSleeper_100 rfl (by decide) kk) ?_
    refine Sx.up (fun _ kk => r_sipush (240) 104 dX12_readSleeper_101 rfl (by decide) kk) ?_
    refine Sx.up (fun _ kk => r_callV 107 dX12_readSleeper_104 rfl k12_239 hcl6 rfl rfl rfl (by decide) rfl lt95 (Nat.le_of_ble_eq_true rfl) kk) ?_
    refine Sx.up (fun _ kk => r_iastN (2 * (7 + c) + 1) 108 dX12_readSleeper_107 rfl rfl (Nat.le_of_ble_eq_true rfl) (i21) (by omega) (Nat.le_of_ble_eq_true rfl) kk) ?_
    refine Sx.up (fun _ kk => r_aload_n 109 dX12_readSleeper_108 rfl rfl kk) ?_
    refine Sx.up (fun _ kk => r_getR 112 dX12_readSleeper_109 rfl f12_48 rfl rfl lt95 (mo_6 (by first | exact md_M y16 | exact md_M y15 | exact md_M y14 | exact md_M y13 | exact md_M y12 | exact md_M y11 | exact md_M y10 | exact md_M y9 | exact md_M y8 | exact md_M y7 | exact md_M y6 | exact md_M y5 | exact md_M y4 | exact md_M y3 | exact md_M y2 | exact md_M y1)) kk) ?_
    refine Sx.up (fun _ kk => r_iload_n 113 dX12_readSleeper_112 rfl rfl kk) ?_
    refine Sx.up (fun _ kk => r_iload_n 114 dX12_readSleeper_113 rfl rfl kk) ?_
    refine Sx.up (fun _ kk => r_if_eq 117 121 dX12_readSleeper_114 rfl (by decide) (fun _ => kk) (fun h114 => absurd rfl h114)) ?_
    refine Sx.up (fun _ kk => r_aload_n 122 dX12_readSleeper_121 rfl rfl kk) ?_
    refine Sx.up (fun _ kk => r_iconst (0) 123 dX12_readSleeper_122 rfl (by decide) kk) ?_
    refine Sx.up (fun _ kk => r_bipush (9) 125 dX12_readSleeper_123 rfl (by decide) kk) ?_
    refine Sx.up (fun _ kk => r_callV 128 dX12_readSleeper_125 rfl k12_239 hcl8 rfl rfl rfl (by decide) rfl lt95 (Nat.le_of_ble_eq_true rfl) kk) ?_
    refine Sx.up (fun _ kk => r_iastN (7 + c) 129 dX12_readSleeper_128 rfl rfl (Nat.le_of_ble_eq_true rfl) (rfl) (by omega) (Nat.le_of_ble_eq_true rfl) kk) ?_
    refine Sx.up (fun _ kk => r_aload_n 130 dX12_readSleeper_129 rfl rfl kk) ?_
    refine Sx.up (fun _ kk => r_getR 133 dX12_readSleeper_130 rfl f12_50 rfl rfl lt95 (mo_7 (by first | exact md_M y16 | exact md_M y15 | exact md_M y14 | exact md_M y13 | exact md_M y12 | exact md_M y11 | exact md_M y10 | exact md_M y9 | exact md_M y8 | exact md_M y7 | exact md_M y6 | exact md_M y5 | exact md_M y4 | exact md_M y3 | exact md_M y2 | exact md_M y1)) kk) ?_
    refine Sx.up (fun _ kk => r_iload_n 134 dX12_readSleeper_133 rfl rfl kk) ?_
    refine Sx.up (fun _ kk => r_aload_n 135 dX12_readSleeper_134 rfl rfl kk) ?_
    refine Sx.up (fun _ kk => r_iconst (1) 136 dX12_readSleeper_135 rfl (by decide) kk) ?_
    refine Sx.up (fun _ kk => r_bipush (9) 138 dX12_readSleeper_136 rfl (by decide) kk) ?_
    refine Sx.up (fun _ kk => r_callV 141 dX12_readSleeper_138 rfl k12_239 hcl10 rfl rfl rfl (by decide) rfl lt95 (Nat.le_of_ble_eq_true rfl) kk) ?_
    refine Sx.up (fun _ kk => r_iastN (7 + c) 142 dX12_readSleeper_141 rfl rfl (Nat.le_of_ble_eq_true rfl) (rfl) (by omega) (Nat.le_of_ble_eq_true rfl) kk) ?_
    refine Sx.up (fun _ kk => r_aload_n 143 dX12_readSleeper_142 rfl rfl kk) ?_
    refine Sx.up (fun _ kk => r_getR 146 dX12_readSleeper_143 rfl f12_53 rfl rfl lt95 (mo_8 (by first | exact md_M y16 | exact md_M y15 | exact md_M y14 | exact md_M y13 | exact md_M y12 | exact md_M y11 | exact md_M y10 | exact md_M y9 | exact md_M y8 | exact md_M y7 | exact md_M y6 | exact md_M y5 | exact md_M y4 | exact md_M y3 | exact md_M y2 | exact md_M y1)) kk) ?_
    refine Sx.up (fun _ kk => r_iload_n 147 dX12_readSleeper_146 rfl rfl kk) ?_
    refine Sx.up (fun _ kk => r_iload_n 148 dX12_readSleeper_147 rfl rfl kk) ?_
    refine Sx.up (fun _ kk => r_if_eq 151 155 dX12_readSleeper_148 rfl (by decide) (fun _ => kk) (fun h148 => absurd rfl h148)) ?_
    refine Sx.up (fun _ kk => r_aload_n 156 dX12_readSleeper_155 rfl rfl kk) ?_
    refine Sx.up (fun _ kk => r_iconst (0) 157 dX12_readSleeper_156 rfl (by decide) kk) ?_
    refine Sx.up (fun _ kk => r_sipush (600) 160 dX12_readSleeper_157 rfl (by decide) kk) ?_
    refine Sx.up (fun _ kk => r_callV 163 dX12_readSleeper_160 rfl k12_239 hcl12 rfl rfl rfl (by decide) rfl lt95 (Nat.le_of_ble_eq_true rfl) kk) ?_
    refine Sx.up (fun _ kk => r_iastN (7 + c) 164 dX12_readSleeper_163 rfl rfl (Nat.le_of_ble_eq_true rfl) (rfl) (by omega) (Nat.le_of_ble_eq_true rfl) kk) ?_
    refine Sx.up (fun _ kk => r_aload_n 165 dX12_readSleeper_164 rfl rfl kk) ?_
    refine Sx.up (fun _ kk => r_getR 168 dX12_readSleeper_165 rfl f12_56 rfl rfl lt95 (mo_9 (by first | exact md_M y16 | exact md_M y15 | exact md_M y14 | exact md_M y13 | exact md_M y12 | exact md_M y11 | exact md_M y10 | exact md_M y9 | exact md_M y8 | exact md_M y7 | exact md_M y6 | exact md_M y5 | exact md_M y4 | exact md_M y3 | exact md_M y2 | exact md_M y1)) kk) ?_
    refine Sx.up (fun _ kk => r_iload_n 169 dX12_readSleeper_168 rfl rfl kk) ?_
    refine Sx.up (fun _ kk => r_iload_n 170 dX12_readSleeper_169 rfl rfl kk) ?_
    refine Sx.up (fun _ kk => r_if_eq 173 177 dX12_readSleeper_170 rfl (by decide) (fun _ => kk) (fun h170 => absurd rfl h170)) ?_
    refine Sx.up (fun _ kk => r_aload_n 178 dX12_readSleeper_177 rfl rfl kk) ?_
    refine Sx.up (fun _ kk => r_iconst (0) 179 dX12_readSleeper_178 rfl (by decide) kk) ?_
    refine Sx.up (fun _ kk => r_bipush (10) 181 dX12_readSleeper_179 rfl (by decide) kk) ?_
    refine Sx.up (fun _ kk => r_callV 184 dX12_readSleeper_181 rfl k12_239 hcl14 rfl rfl rfl (by decide) rfl lt95 (Nat.le_of_ble_eq_true rfl) kk) ?_
    refine Sx.up (fun _ kk => r_iastN (7 + c) 185 dX12_readSleeper_184 rfl rfl (Nat.le_of_ble_eq_true rfl) (rfl) (by omega) (Nat.le_of_ble_eq_true rfl) kk) ?_
    refine Sx.up (fun _ kk => r_aload_n 186 dX12_readSleeper_185 rfl rfl kk) ?_
    refine Sx.up (fun _ kk => r_getR 189 dX12_readSleeper_186 rfl f12_59 rfl rfl lt95 (mo_10 (by first | exact md_M y16 | exact md_M y15 | exact md_M y14 | exact md_M y13 | exact md_M y12 | exact md_M y11 | exact md_M y10 | exact md_M y9 | exact md_M y8 | exact md_M y7 | exact md_M y6 | exact md_M y5 | exact md_M y4 | exact md_M y3 | exact md_M y2 | exact md_M y1)) kk) ?_
    refine Sx.up (fun _ kk => r_iload_n 190 dX12_readSleeper_189 rfl rfl kk) ?_
    refine Sx.up (fun _ kk => r_iconst (0) 191 dX12_readSleeper_190 rfl (by decide) kk) ?_
    refine Sx.up (fun _ kk => r_iastN (7 + c) 192 dX12_readSleeper_191 rfl rfl (Nat.le_of_ble_eq_true rfl) (rfl) (by omega) (Nat.le_of_ble_eq_true rfl) kk) ?_
    refine Sx.up (fun _ kk => r_aload_n 193 dX12_readSleeper_192 rfl rfl kk) ?_
    refine Sx.up (fun _ kk => r_getR 196 dX12_readSleeper_193 rfl f12_38 rfl rfl lt95 (mo_3 (by first | exact md_M y16 | exact md_M y15 | exact md_M y14 | exact md_M y13 | exact md_M y12 | exact md_M y11 | exact md_M y10 | exact md_M y9 | exact md_M y8 | exact md_M y7 | exact md_M y6 | exact md_M y5 | exact md_M y4 | exact md_M y3 | exact md_M y2 | exact md_M y1)) kk) ?_
    refine Sx.up (fun _ kk => r_bipush (8) 198 dX12_readSleeper_196 rfl (by decide) kk) ?_
    refine Sx.up (fun _ kk => r_dup2 199 dX12_readSleeper_198 rfl rfl rfl kk) ?_
    refine Sx.up (fun _ kk => r_ialdN (8) (nI c) 200 dX12_readSleeper_199 rfl rfl (Nat.le_of_ble_eq_true rfl) (by decide) (Nat.le_of_ble_eq_true rfl) (Nat.le_of_ble_eq_true rfl) (g8) kk) ?_
    refine Sx.up (fun _ kk => r_iconst (1) 201 dX12_readSleeper_200 rfl (by decide) kk) ?_
    refine Sx.up (fun _ kk => r_iadd 202 dX12_readSleeper_201 rfl kk) ?_
    refine Sx.up (fun _ kk => r_iastN (8) 203 dX12_readSleeper_202 rfl rfl (Nat.le_of_ble_eq_true rfl) (by decide) (Nat.le_of_ble_eq_true rfl) (Nat.le_of_ble_eq_true rfl) kk) ?_
    refine ⟨_, ?_, r_vret dX12_readSleeper_203 rfl rfl rfl⟩
    exact ⟨_, rfl, yf⟩
theorem bo_nu {T : TX} {s : PS} {v9 : Int32} (h : ∀ q, nuS T 1 6 s ≠ .inr q) : orX v9 (tkS T 1 6 (boD T s)) = nuS T 1 6 s := by
  have hno : ¬ nwS T 1 6 s = true := fun z => by
    cases s with
    | inl x => exact absurd z (by show ¬ false = true; decide)
    | inr q =>
      have k2 : kiS T 2 (.inr q) = true := decide_eq_true (in_num z).1
      exact h q (by unfold nuS; rw [if_pos k2, if_pos z])
  have e : boD T s = s := if_neg (bo_no hno)
  rw [e, ← adv_nu]
  cases hn : nuS T 1 6 s with
  | inl x => rfl
  | inr q => exact absurd hn (h q)
theorem nu_live {T : TX} {lo hi : Nat} {s : PS} {q : Nat × BD} (h : nuS T lo hi s = .inr q) : s = .inr q ∧ nwS T lo hi s = true := by
  unfold nuS at h
  by_cases h1 : kiS T 2 s = true
  · rw [if_pos h1] at h
    by_cases h2 : nwS T lo hi s = true
    · rw [if_pos h2] at h; exact ⟨h, h2⟩
    · rw [if_neg h2] at h; cases s <;> cases h
  · rw [if_neg h1] at h; cases s <;> cases h
/-- one of the scalars written -/
theorem md_scal {E0 E : HP} {T : TX} {s : PS} {i : Nat} {v : Int32} (y1 : CMd E0 E T s) (hi : i < 5) : CMd E0 (sA E 98 (9 + i) v) T (scS i v s) := by
  have hM : MF [] [98] E (sA E 98 (9 + i) v) := mf_sA (by simp) mf_rfl
  have hT : TmF (sA E 98 (9 + i) v) T := tmf_mf hM (by decide) (by decide) (md_F y1)
  refine ⟨⟨md_T y1, hT, hf_sA y1.1.2.2 (m := 8) (by decide) (by omega)⟩, ?_⟩
  cases s with
  | inl x => exact y1.2
  | inr x =>
    obtain ⟨p, B⟩ := x
    obtain ⟨c1, c2, c3, o1, o2, o3, o4, o5, o6, o7, o8, o9, o10⟩ := id y1.2
    have hg : ∀ j, j ≠ 9 + i → gA (sA E 98 (9 + i) v) 98 j = gA E 98 j := fun j z => by rw [gA_sA, if_neg (fun y => z y.2)]
    have ho : ∀ k, k ≠ 98 → gA (sA E 98 (9 + i) v) k = gA E k := fun k hk => mf_gA hM (by simp [hk])
    refine ⟨c1, c2, c3, (hg _ (by omega)).trans o1, o2, fun q hq => ?_, o4, fun j hj => ?_, (hg _ (by omega)).trans o6, o7, (hg _ (by omega)).trans o8, o9, fun j hj => by rw [ho 106 (by decide)]; exact o10 j hj⟩
    · rw [ho 99 (by decide), ho 100 (by decide), ho 101 (by decide), ho 102 (by decide), ho 103 (by decide), ho 104 (by decide), ho 105 (by decide)]
      exact o3 q hq
    · show _ = (if j = i then v else bX B j)
      by_cases e : j = i
      · rw [if_pos e, gA_sA, if_pos ⟨rfl, by omega⟩]
      · rw [if_neg e, hg _ (by omega)]; exact o5 j hj
set_option maxRecDepth 20000 in
theorem md_bol {d : Nat} {E0 E : HP} {T : TX} {q0 : Nat × BD} (y1 : CMd E0 E T (.inr q0)) : ∃ o, (∃ E2, o = (.inl none, E2, 137) ∧ CMd E0 E2 T (boS T (.inr q0))) ∧ Cl yX12_readBolster mX12_readBolster (d + 2) 0 0 [.ref 95] E 137 o := by
  obtain ⟨_, ⟨E2, rfl, y2⟩, hcl2⟩ := md_adv (d := d) y1 ⟨_, rfl⟩
  obtain ⟨s1, hs1⟩ : ∃ s1, advS T (.inr q0) = s1 := ⟨_, rfl⟩
  have hres : boS T (.inr q0) = orX (1 <<< (nI (vaS T (boD T s1)) &&& 31)) (tkS T 1 6 (boD T s1)) := by unfold boS; rw [hs1]
  rw [hres]
  rw [hs1] at y2
  obtain ⟨_, ⟨E3, v, rfl, y3, hv, hv0⟩, hcl3⟩ := md_now (d := d) y2 (lo := 1) (hi := 6) rfl rfl (by decide) (by decide)
  refine Cx.of (by decide) rfl (fun q => by cases q) rfl rfl (Nat.le_of_ble_eq_true rfl) ?_
  show Sx _ _ _ _ _ 0 [some (.ref 95), none] [] _ _
  cases hn : nuS T 1 6 s1 with
  | inl x =>
    rw [hn] at y3
    have hb := md_1b y3
    rw [bo_nu (fun q z => by rw [hn] at z; cases z), hn]
    refine Sx.up (fun _ kk => r_aload_n 1 dX12_readBolster_0 rfl rfl kk) ?_
    refine Sx.up (fun _ kk => r_callV 4 dX12_readBolster_1 rfl k12_233 hcl2 rfl rfl rfl (by decide) rfl lt95 (Nat.le_of_ble_eq_true rfl) kk) ?_
    refine Sx.up (fun _ kk => r_aload_n 5 dX12_readBolster_4 rfl rfl kk) ?_
    refine Sx.up (fun _ kk => r_iconst (1) 6 dX12_readBolster_5 rfl (by decide) kk) ?_
    refine Sx.up (fun _ kk => r_bipush (6) 8 dX12_readBolster_6 rfl (by decide) kk) ?_
    refine Sx.up (fun _ kk => r_callV 11 dX12_readBolster_8 rfl k12_236 hcl3 rfl rfl rfl (by decide) rfl lt95 (Nat.le_of_ble_eq_true rfl) kk) ?_
    refine Sx.up (fun _ kk => r_istore_n 12 dX12_readBolster_11 rfl (by decide) rfl kk) ?_
    refine Sx.up (fun _ kk => r_aload_n 13 dX12_readBolster_12 rfl rfl kk) ?_
    refine Sx.up (fun _ kk => r_getI 16 dX12_readBolster_13 rfl f12_208 rfl rfl lt95 kk) ?_
    refine Sx.up (fun _ kk => r_if_ne 19 39 dX12_readBolster_16 rfl (by decide) (fun _ => kk) (fun h16 => absurd h16 hb)) ?_
    refine Sx.up (fun _ kk => r_aload_n 40 dX12_readBolster_39 rfl rfl kk) ?_
    refine Sx.up (fun _ kk => r_getI 43 dX12_readBolster_40 rfl f12_208 rfl rfl lt95 kk) ?_
    refine Sx.up (fun _ kk => r_if_eq 46 47 dX12_readBolster_43 rfl (by decide) (fun h43 => absurd h43 hb) (fun _ => kk)) ?_
    refine ⟨_, ?_, r_vret dX12_readBolster_46 rfl rfl rfl⟩
    exact ⟨_, rfl, y3⟩
  | inr x =>
    rw [hn] at y3
    have hb := md_0b y3 ⟨_, rfl⟩
    obtain ⟨e1, hw⟩ := nu_live hn
    have hvv := hv x hn
    subst e1
    obtain ⟨a, B⟩ := x
    have hin := in_num hw
    have h13 : gA E3 98 13 = bX B 4 := y3.2.2.2.2.2.2.2.2.1 4 (by decide)
    by_cases hbit : (bX B 4 >>> (nI (numT T a) &&& 31)) &&& 1 = 1
    · have hc : boC T (.inr (a, B)) = true := by
        show (inN T a 1 6 && decide ((bX B 4 >>> (nI (numT T a) &&& 31)) &&& 1 = 1)) = true
        rw [show inN T a 1 6 = true from hw, Bool.true_and]
        exact decide_eq_true hbit
      have hd : boD T (.inr (a, B)) = .inl (5, a) := if_pos hc
      rw [hd]
      obtain ⟨_, ⟨E4, rfl, y4⟩, hcl4⟩ := md_wrong (d := d + 1) y3 (k := 5) (k9 := 5) rfl (by decide) (by decide)
      have hb4 := md_1b y4
      refine Sx.up (fun _ kk => r_aload_n 1 dX12_readBolster_0 rfl rfl kk) ?_
      refine Sx.up (fun _ kk => r_callV 4 dX12_readBolster_1 rfl k12_233 hcl2 rfl rfl rfl (by decide) rfl lt95 (Nat.le_of_ble_eq_true rfl) kk) ?_
      refine Sx.up (fun _ kk => r_aload_n 5 dX12_readBolster_4 rfl rfl kk) ?_
      refine Sx.up (fun _ kk => r_iconst (1) 6 dX12_readBolster_5 rfl (by decide) kk) ?_
      refine Sx.up (fun _ kk => r_bipush (6) 8 dX12_readBolster_6 rfl (by decide) kk) ?_
      refine Sx.up (fun _ kk => r_callV 11 dX12_readBolster_8 rfl k12_236 hcl3 rfl rfl rfl (by decide) rfl lt95 (Nat.le_of_ble_eq_true rfl) kk) ?_
      refine Sx.up (fun _ kk => r_istore_n 12 dX12_readBolster_11 rfl (by decide) rfl kk) ?_
      refine Sx.up (fun _ kk => r_aload_n 13 dX12_readBolster_12 rfl rfl kk) ?_
      refine Sx.up (fun _ kk => r_getI 16 dX12_readBolster_13 rfl f12_208 rfl rfl lt95 kk) ?_
      refine Sx.up (fun _ kk => r_if_ne 19 39 dX12_readBolster_16 rfl (by decide) (fun h16 => absurd h16 (fun z => z hb)) (fun _ => kk)) ?_
      refine Sx.up (fun _ kk => r_aload_n 20 dX12_readBolster_19 rfl rfl kk) ?_
      refine Sx.up (fun _ kk => r_getR 23 dX12_readBolster_20 rfl f12_38 rfl rfl lt95 (mo_3 md_M y3) kk) ?_
      refine Sx.up (fun _ kk => r_bipush (13) 25 dX12_readBolster_23 rfl (by decide) kk) ?_
      refine Sx.up (fun _ kk => r_ialdN (13) (bX B 4) 26 dX12_readBolster_25 rfl rfl (Nat.le_of_ble_eq_true rfl) (by decide) (Nat.le_of_ble_eq_true rfl) (Nat.le_of_ble_eq_true rfl) (h13) kk) ?_
      refine Sx.up (fun _ kk => r_iload_n 27 dX12_readBolster_26 rfl rfl kk) ?_
      refine Sx.up (fun _ kk => r_ishr 28 dX12_readBolster_27 rfl kk) ?_
      refine Sx.up (fun _ kk => r_iconst (1) 29 dX12_readBolster_28 rfl (by decide) kk) ?_
      refine Sx.up (fun _ kk => r_iand 30 dX12_readBolster_29 rfl kk) ?_
      refine Sx.up (fun _ kk => r_iconst (1) 31 dX12_readBolster_30 rfl (by decide) kk) ?_
      refine Sx.up (fun _ kk => r_icmp_ne 34 39 dX12_readBolster_31 rfl (by decide) (fun h31 => absurd h31 (fun z => z (by rw [hvv]; exact hbit))) (fun _ => kk)) ?_
      refine Sx.up (fun _ kk => r_aload_n 35 dX12_readBolster_34 rfl rfl kk) ?_
      refine Sx.up (fun _ kk => r_iconst (5) 36 dX12_readBolster_35 rfl (by decide) kk) ?_
      refine Sx.up (fun _ kk => r_callV 39 dX12_readBolster_36 rfl k12_229 hcl4 rfl rfl rfl (by decide) rfl lt95 (Nat.le_of_ble_eq_true rfl) kk) ?_
      refine Sx.up (fun _ kk => r_aload_n 40 dX12_readBolster_39 rfl rfl kk) ?_
      refine Sx.up (fun _ kk => r_getI 43 dX12_readBolster_40 rfl f12_208 rfl rfl lt95 kk) ?_
      refine Sx.up (fun _ kk => r_if_eq 46 47 dX12_readBolster_43 rfl (by decide) (fun h43 => absurd h43 hb4) (fun _ => kk)) ?_
      refine ⟨_, ?_, r_vret dX12_readBolster_46 rfl rfl rfl⟩
      exact ⟨_, rfl, y4⟩
    · have hc : ¬ boC T (.inr (a, B)) = true := fun z => by
        have z : (inN T a 1 6 && decide ((bX B 4 >>> (nI (numT T a) &&& 31)) &&& 1 = 1)) = true := z
        rw [Bool.and_eq_true] at z
        exact hbit (of_decide_eq_true z.2)
      have hd : boD T (.inr (a, B)) = .inr (a, B) := if_neg hc
      rw [hd, ← adv_nu, hn]
      obtain ⟨_, ⟨E4, rfl, y4, w4⟩, hcl4⟩ := md_advM (d := d) y3 ⟨_, rfl⟩
      have h13b : gA E4 98 13 = bX B 4 := by rw [mf_gA w4 (by decide)]; exact h13
      have yf := md_scal (i := 4) (v := bX B 4 ||| (1 <<< (nI (numT T a) &&& 31))) y4 (by decide)
      refine Sx.up (fun _ kk => r_aload_n 1 dX12_readBolster_0 rfl rfl kk) ?_
      refine Sx.up (fun _ kk => r_callV 4 dX12_readBolster_1 rfl k12_233 hcl2 rfl rfl rfl (by decide) rfl lt95 (Nat.le_of_ble_eq_true rfl) kk) ?_
      refine Sx.up (fun _ kk => r_aload_n 5 dX12_readBolster_4 rfl rfl kk) ?_
      refine Sx.up (fun _ kk => r_iconst (1) 6 dX12_readBolster_5 rfl (by decide) kk) ?_
      refine Sx.up (fun _ kk => r_bipush (6) 8 dX12_readBolster_6 rfl (by decide) kk) ?_
      refine Sx.up (fun _ kk => r_callV 11 dX12_readBolster_8 rfl k12_236 hcl3 rfl rfl rfl (by decide) rfl lt95 (Nat.le_of_ble_eq_true rfl) kk) ?_
      refine Sx.up (fun _ kk => r_istore_n 12 dX12_readBolster_11 rfl (by decide) rfl kk) ?_
      refine Sx.up (fun _ kk => r_aload_n 13 dX12_readBolster_12 rfl rfl kk) ?_
      refine Sx.up (fun _ kk => r_getI 16 dX12_readBolster_13 rfl f12_208 rfl rfl lt95 kk) ?_
      refine Sx.up (fun _ kk => r_if_ne 19 39 dX12_readBolster_16 rfl (by decide) (fun h16 => absurd h16 (fun z => z hb)) (fun _ => kk)) ?_
      refine Sx.up (fun _ kk => r_aload_n 20 dX12_readBolster_19 rfl rfl kk) ?_
      refine Sx.up (fun _ kk => r_getR 23 dX12_readBolster_20 rfl f12_38 rfl rfl lt95 (mo_3 (by first | exact md_M y3 | exact md_M y4)) kk) ?_
      refine Sx.up (fun _ kk => r_bipush (13) 25 dX12_readBolster_23 rfl (by decide) kk) ?_
      refine Sx.up (fun _ kk => r_ialdN (13) (bX B 4) 26 dX12_readBolster_25 rfl rfl (Nat.le_of_ble_eq_true rfl) (by decide) (Nat.le_of_ble_eq_true rfl) (Nat.le_of_ble_eq_true rfl) (h13) kk) ?_
      refine Sx.up (fun _ kk => r_iload_n 27 dX12_readBolster_26 rfl rfl kk) ?_
      refine Sx.up (fun _ kk => r_ishr 28 dX12_readBolster_27 rfl kk) ?_
      refine Sx.up (fun _ kk => r_iconst (1) 29 dX12_readBolster_28 rfl (by decide) kk) ?_
      refine Sx.up (fun _ kk => r_iand 30 dX12_readBolster_29 rfl kk) ?_
      refine Sx.up (fun _ kk => r_iconst (1) 31 dX12_readBolster_30 rfl (by decide) kk) ?_
      refine Sx.up (fun _ kk => r_icmp_ne 34 39 dX12_readBolster_31 rfl (by decide) (fun _ => kk) (fun h31 => absurd h31 (fun z => hbit (by rw [hvv] at z; exact z)))) ?_
      refine Sx.up (fun _ kk => r_aload_n 40 dX12_readBolster_39 rfl rfl kk) ?_
      refine Sx.up (fun _ kk => r_getI 43 dX12_readBolster_40 rfl f12_208 rfl rfl lt95 kk) ?_
      refine Sx.up (fun _ kk => r_if_eq 46 47 dX12_readBolster_43 rfl (by decide) (fun _ => kk) (fun h43 => absurd hb h43)) ?_
      refine Sx.up (fun _ kk => r_aload_n 48 dX12_readBolster_47 rfl rfl kk) ?_
      refine Sx.up (fun _ kk => r_callV 51 dX12_readBolster_48 rfl k12_233 hcl4 rfl rfl rfl (by decide) rfl lt95 (Nat.le_of_ble_eq_true rfl) kk) ?_
      refine Sx.up (fun _ kk => r_aload_n 52 dX12_readBolster_51 rfl rfl kk) ?_
      refine Sx.up (fun _ kk => r_getR 55 dX12_readBolster_52 rfl f12_38 rfl rfl lt95 (mo_3 (by first | exact md_M y3 | exact md_M y4)) kk) ?_
      refine Sx.up (fun _ kk => r_bipush (13) 57 dX12_readBolster_55 rfl (by decide) kk) ?_
      refine Sx.up (fun _ kk => r_dup2 58 dX12_readBolster_57 rfl rfl rfl kk) ?_
      refine Sx.up (fun _ kk => r_ialdN (13) (bX B 4) 59 dX12_readBolster_58 rfl rfl (Nat.le_of_ble_eq_true rfl) (by decide) (Nat.le_of_ble_eq_true rfl) (Nat.le_of_ble_eq_true rfl) (h13b) kk) ?_
      refine Sx.up (fun _ kk => r_iconst (1) 60 dX12_readBolster_59 rfl (by decide) kk) ?_
      refine Sx.up (fun _ kk => r_iload_n 61 dX12_readBolster_60 rfl rfl kk) ?_
      refine Sx.up (fun _ kk => r_ishl 62 dX12_readBolster_61 rfl kk) ?_
      refine Sx.up (fun _ kk => r_ior 63 dX12_readBolster_62 rfl kk) ?_
      rw [hvv]
      refine Sx.up (fun _ kk => r_iastN (13) 64 dX12_readBolster_63 rfl rfl (Nat.le_of_ble_eq_true rfl) (by decide) (Nat.le_of_ble_eq_true rfl) (Nat.le_of_ble_eq_true rfl) kk) ?_
      refine ⟨_, ?_, r_vret dX12_readBolster_64 rfl rfl rfl⟩
      exact ⟨_, rfl, yf⟩
theorem sn_live {T : TX} {s : PS} {q : Nat × BD} (h : snS T s = .inr q) : s = .inr q ∧ kdT T q.1 = 2 ∧ numT T q.1 < bC q.2 := by
  unfold snS at h
  cases ht : tkS T 0 9999 (unS T s) with
  | inl x => rw [ht] at h; cases h
  | inr z =>
    rw [ht] at h
    have h : s = .inr q := h
    subst h
    obtain ⟨a0, e0, -, hk, -, h9⟩ := tk_live (a := z.1) (B := z.2) ht
    obtain ⟨e1, e2⟩ := un_live e0
    have e1 := Sum.inr.inj e1
    cases e1
    exact ⟨rfl, hk, un_lt e2 hk h9⟩
theorem sn_dead {T : TX} {s : PS} {x : Nat × Nat} (h : snS T s = .inl x) : tkS T 0 9999 (unS T s) = .inl x := by
  rw [← adv_sn, h]; rfl
/-- the second SLEEPER, as the spec goes on with it -/
theorem ag_sn {T : TX} {v : Nat} {s : PS} (hc : ∀ q, s = .inr q → bC q.2 ≤ 7) (h : ∀ q, snS T s ≠ .inr q) : tkS T 0 9999 (agS T v (unS T s)) = snS T s := by
  cases hs : snS T s with
  | inr q => exact absurd hs (h q)
  | inl x =>
    have h1 := sn_dead hs
    cases hu : unS T s with
    | inl z => rw [hu] at h1; exact h1
    | inr z =>
      have hno : agS T v (.inr z) = .inr z := by
        refine if_neg (fun y => ?_)
        have hlt := y.2.1
        obtain ⟨e1, e2⟩ := un_live (a := z.1) (B := z.2) hu
        have hin : inN T z.1 0 9999 = true := by
          have h7 := hc z e1
          exact decide_eq_true (p := kdT T z.1 = 2 ∧ 0 ≤ numT T z.1 ∧ numT T z.1 ≤ 9999) ⟨y.1, Nat.zero_le _, by omega⟩
        rw [hu] at h1
        unfold tkS at h1
        rw [if_pos (show kiS T 2 (.inr z) = true from decide_eq_true y.1), if_pos (show nwS T 0 9999 (.inr z) = true from hin)] at h1
        cases h1
      rw [hno, ← hu]
      exact h1
set_option maxRecDepth 20000 in
theorem md_nev {d : Nat} {E0 E : HP} {T : TX} {q0 : Nat × BD} (y1 : CMd E0 E T (.inr q0)) : ∃ o, (∃ E2, o = (.inl none, E2, 137) ∧ CMd E0 E2 T (neS T (.inr q0))) ∧ Cl yX12_readNever mX12_readNever (d + 3) 0 0 [.ref 95] E 137 o := by
  have hb1 := md_0b y1 ⟨_, rfl⟩
  obtain ⟨o6, o7⟩ : gA E 98 14 = nI (bN q0.2) ∧ bN q0.2 ≤ 6 := ⟨y1.2.2.2.2.2.2.2.2.2.1, y1.2.2.2.2.2.2.2.2.2.2.1⟩
  refine Cx.of (by decide) rfl (fun q => by cases q) rfl rfl (Nat.le_of_ble_eq_true rfl) ?_
  show Sx _ _ _ _ _ 0 [some (.ref 95), none, none] [] _ _
  by_cases h6 : bN q0.2 = 6
  · have hn : neF (.inr q0) = .inl (2, q0.1) := if_pos (by omega)
    have hres : neS T (.inr q0) = .inl (2, q0.1) := by unfold neS; rw [hn]; rfl
    rw [hres]
    refine Sx.up (fun _ kk => r_aload_n 1 dX12_readNever_0 rfl rfl kk) ?_
    refine Sx.up (fun _ kk => r_getR 4 dX12_readNever_1 rfl f12_38 rfl rfl lt95 (mo_3 (md_M y1)) kk) ?_
    refine Sx.up (fun _ kk => r_bipush (14) 6 dX12_readNever_4 rfl (by decide) kk) ?_
    refine Sx.up (fun _ kk => r_ialdN (14) (nI (bN q0.2)) 7 dX12_readNever_6 rfl rfl (Nat.le_of_ble_eq_true rfl) (by decide) (Nat.le_of_ble_eq_true rfl) (Nat.le_of_ble_eq_true rfl) (o6) kk) ?_
    refine Sx.up (fun _ kk => r_bipush (6) 9 dX12_readNever_7 rfl (by decide) kk) ?_
    refine Sx.up (fun _ kk => r_icmp_ne 12 17 dX12_readNever_9 rfl (by decide) (fun h9 => absurd h9 (fun z => z (by rw [h6]; rfl))) (fun _ => kk)) ?_
    refine Sx.up (fun _ kk => r_aload_n 13 dX12_readNever_12 rfl rfl kk) ?_
    refine Sx.up (fun _ kk => r_iconst (2) 14 dX12_readNever_13 rfl (by decide) kk) ?_
    obtain ⟨_, ⟨E2, rfl, y2⟩, hcl2⟩ := md_wrong (d := d + 2) y1 (k := 2) (k9 := 2) rfl (by decide) (by decide)
    refine Sx.up (fun _ kk => r_callV 17 dX12_readNever_14 rfl k12_229 hcl2 rfl rfl rfl (by decide) rfl lt95 (Nat.le_of_ble_eq_true rfl) kk) ?_
    refine Sx.up (fun _ kk => r_aload_n 18 dX12_readNever_17 rfl rfl kk) ?_
    refine Sx.up (fun _ kk => r_getI 21 dX12_readNever_18 rfl f12_208 rfl rfl lt95 kk) ?_
    refine Sx.up (fun _ kk => r_if_eq 24 25 dX12_readNever_21 rfl (by decide) (fun h21 => absurd h21 (md_1b y2)) (fun _ => kk)) ?_
    refine ⟨_, ?_, r_vret dX12_readNever_24 rfl rfl rfl⟩
    exact ⟨_, rfl, y2⟩
  have hn : neF (.inr q0) = .inr q0 := if_neg (by omega)
  obtain ⟨_, ⟨E2, rfl, y2⟩, hcl2⟩ := md_adv (d := d + 1) y1 ⟨_, rfl⟩
  obtain ⟨s0, hs0⟩ : ∃ s0, advS T (.inr q0) = s0 := ⟨_, rfl⟩
  rw [hs0] at y2
  have hc0 : ∀ q, s0 = .inr q → bC q.2 ≤ 7 ∧ q.2 = q0.2 := fun q z => by
    rw [← hs0] at z
    have z := Sum.inr.inj (show (.inr (nxT T q0.1, q0.2) : PS) = .inr q from z)
    subst z
    exact ⟨y1.2.2.2.2.2.1, rfl⟩
  have hres : neS T (.inr q0) = nvS (vaS T (unS T s0)) (vaS T (agS T (vaS T (unS T s0)) (unS T (tkS T 0 9999 (unS T s0))))) (tkS T 0 9999 (agS T (vaS T (unS T s0)) (unS T (tkS T 0 9999 (unS T s0))))) := by
    unfold neS
    rw [hn, hs0]
  obtain ⟨_, ⟨E3, v1, rfl, y3, hv1⟩, hcl3⟩ := md_sn (d := d) y2
  cases hn1 : snS T s0 with
  | inl x =>
    rw [hn1] at y3
    have hb3 := md_1b y3
    have e1 := sn_dead hn1
    have hres2 : neS T (.inr q0) = .inl x := by rw [hres, e1]; rfl
    rw [hres2]
    obtain ⟨_, ⟨E4, v2, rfl, y4, hv2⟩, hcl4⟩ := md_sn (d := d) y3
    have y4 : CMd E0 E4 T (.inl x) := y4
    have hb4 := md_1b y4
    refine Sx.up (fun _ kk => r_aload_n 1 dX12_readNever_0 rfl rfl kk) ?_
    refine Sx.up (fun _ kk => r_getR 4 dX12_readNever_1 rfl f12_38 rfl rfl lt95 (mo_3 (by first | exact md_M y1 | exact md_M y2 | exact md_M y3 | exact md_M y4 | exact md_M y5 | exact md_M y6 | exact md_M y7)) kk) ?_
    refine Sx.up (fun _ kk => r_bipush (14) 6 dX12_readNever_4 rfl (by decide) kk) ?_
    refine Sx.up (fun _ kk => r_ialdN (14) (nI (bN q0.2)) 7 dX12_readNever_6 rfl rfl (Nat.le_of_ble_eq_true rfl) (by decide) (Nat.le_of_ble_eq_true rfl) (Nat.le_of_ble_eq_true rfl) (o6) kk) ?_
    refine Sx.up (fun _ kk => r_bipush (6) 9 dX12_readNever_7 rfl (by decide) kk) ?_
    refine Sx.up (fun _ kk => r_icmp_ne 12 17 dX12_readNever_9 rfl (by decide) (fun _ => kk) (fun h9 => absurd h9 (fun z => h6 ((nI_eq (b := 6) (by omega) (by omega)).mp z)))) ?_
    refine Sx.up (fun _ kk => r_aload_n 18 dX12_readNever_17 rfl rfl kk) ?_
    refine Sx.up (fun _ kk => r_getI 21 dX12_readNever_18 rfl f12_208 rfl rfl lt95 kk) ?_
    refine Sx.up (fun _ kk => r_if_eq 24 25 dX12_readNever_21 rfl (by decide) (fun _ => kk) (fun h21 => absurd hb1 h21)) ?_
    refine Sx.up (fun _ kk => r_aload_n 26 dX12_readNever_25 rfl rfl kk) ?_
    refine Sx.up (fun _ kk => r_callV 29 dX12_readNever_26 rfl k12_233 hcl2 rfl rfl rfl (by decide) rfl lt95 (Nat.le_of_ble_eq_true rfl) kk) ?_
    refine Sx.up (fun _ kk => r_aload_n 30 dX12_readNever_29 rfl rfl kk) ?_
    refine Sx.up (fun _ kk => r_callV 33 dX12_readNever_30 rfl k12_276 hcl3 rfl rfl rfl (by decide) rfl lt95 (Nat.le_of_ble_eq_true rfl) kk) ?_
    refine Sx.up (fun _ kk => r_istore_n 34 dX12_readNever_33 rfl (by decide) rfl kk) ?_
    refine Sx.up (fun _ kk => r_aload_n 35 dX12_readNever_34 rfl rfl kk) ?_
    refine Sx.up (fun _ kk => r_getI 38 dX12_readNever_35 rfl f12_208 rfl rfl lt95 kk) ?_
    refine Sx.up (fun _ kk => r_if_ne 41 45 dX12_readNever_38 rfl (by decide) (fun _ => kk) (fun h38 => absurd h38 hb3)) ?_
    refine Sx.up (fun _ kk => r_aload_n 46 dX12_readNever_45 rfl rfl kk) ?_
    refine Sx.up (fun _ kk => r_callV 49 dX12_readNever_46 rfl k12_276 hcl4 rfl rfl rfl (by decide) rfl lt95 (Nat.le_of_ble_eq_true rfl) kk) ?_
    refine Sx.up (fun _ kk => r_istore_n 50 dX12_readNever_49 rfl (by decide) rfl kk) ?_
    refine Sx.up (fun _ kk => r_aload_n 51 dX12_readNever_50 rfl rfl kk) ?_
    refine Sx.up (fun _ kk => r_getI 54 dX12_readNever_51 rfl f12_208 rfl rfl lt95 kk) ?_
    refine Sx.up (fun _ kk => r_if_ne 57 84 dX12_readNever_54 rfl (by decide) (fun _ => kk) (fun h54 => absurd h54 hb4)) ?_
    refine Sx.up (fun _ kk => r_aload_n 85 dX12_readNever_84 rfl rfl kk) ?_
    refine Sx.up (fun _ kk => r_getI 88 dX12_readNever_85 rfl f12_208 rfl rfl lt95 kk) ?_
    refine Sx.up (fun _ kk => r_if_eq 91 92 dX12_readNever_88 rfl (by decide) (fun h88 => absurd h88 hb4) (fun _ => kk)) ?_
    refine ⟨_, ?_, r_vret dX12_readNever_91 rfl rfl rfl⟩
    exact ⟨_, rfl, y4⟩
  | inr x =>
    rw [hn1] at y3
    have hb3 := md_0b y3 ⟨_, rfl⟩
    obtain ⟨ex, kx, lx⟩ := sn_live hn1
    have hvx : v1 = nI (vaS T s0) := hv1 x hn1
    obtain ⟨hx7, hxB⟩ := hc0 x ex
    have hun : unS T s0 = s0 := by
      rw [ex]
      exact if_neg (fun z => by have := (in_num z).2.1; omega)
    have htk : tkS T 0 9999 (unS T s0) = advS T s0 := by rw [← adv_sn, hn1, ex]
    obtain ⟨_, ⟨E4, rfl, y4⟩, hcl4⟩ := md_adv (d := d + 1) y3 ⟨_, rfl⟩
    rw [← ex] at y4
    obtain ⟨sb, hsb⟩ : ∃ sb, advS T s0 = sb := ⟨_, rfl⟩
    rw [hsb] at y4
    have hcb : ∀ q, sb = .inr q → bC q.2 ≤ 7 ∧ q.2 = q0.2 := fun q z => by
      rw [← hsb, ex] at z
      have z := Sum.inr.inj (show (.inr (nxT T x.1, x.2) : PS) = .inr q from z)
      subst z
      exact ⟨hx7, hxB⟩
    obtain ⟨_, ⟨E5, v2, rfl, y5, hv2⟩, hcl5⟩ := md_sn (d := d) y4
    rw [htk, hsb, hun] at hres
    rw [hres]
    obtain ⟨vx, hvx2⟩ : ∃ vx, vaS T s0 = vx := ⟨_, rfl⟩
    have hvx7 : vx < bC q0.2 := by rw [← hvx2, ex, ← hxB]; exact lx
    have hq07 : bC q0.2 ≤ 7 := y1.2.2.2.2.2.1
    rw [hvx2] at hvx ⊢
    cases hn2 : snS T sb with
    | inl z =>
      rw [hn2] at y5
      have hb5 := md_1b y5
      have e2 : tkS T 0 9999 (agS T vx (unS T sb)) = .inl z := by rw [ag_sn (fun q y => (hcb q y).1) (fun q y => by rw [hn2] at y; cases y), hn2]
      rw [e2]
      refine Sx.up (fun _ kk => r_aload_n 1 dX12_readNever_0 rfl rfl kk) ?_
      refine Sx.up (fun _ kk => r_getR 4 dX12_readNever_1 rfl f12_38 rfl rfl lt95 (mo_3 (by first | exact md_M y1 | exact md_M y2 | exact md_M y3 | exact md_M y4 | exact md_M y5 | exact md_M y6 | exact md_M y7)) kk) ?_
      refine Sx.up (fun _ kk => r_bipush (14) 6 dX12_readNever_4 rfl (by decide) kk) ?_
      refine Sx.up (fun _ kk => r_ialdN (14) (nI (bN q0.2)) 7 dX12_readNever_6 rfl rfl (Nat.le_of_ble_eq_true rfl) (by decide) (Nat.le_of_ble_eq_true rfl) (Nat.le_of_ble_eq_true rfl) (o6) kk) ?_
      refine Sx.up (fun _ kk => r_bipush (6) 9 dX12_readNever_7 rfl (by decide) kk) ?_
      refine Sx.up (fun _ kk => r_icmp_ne 12 17 dX12_readNever_9 rfl (by decide) (fun _ => kk) (fun h9 => absurd h9 (fun z => h6 ((nI_eq (b := 6) (by omega) (by omega)).mp z)))) ?_
      refine Sx.up (fun _ kk => r_aload_n 18 dX12_readNever_17 rfl rfl kk) ?_
      refine Sx.up (fun _ kk => r_getI 21 dX12_readNever_18 rfl f12_208 rfl rfl lt95 kk) ?_
      refine Sx.up (fun _ kk => r_if_eq 24 25 dX12_readNever_21 rfl (by decide) (fun _ => kk) (fun h21 => absurd hb1 h21)) ?_
      refine Sx.up (fun _ kk => r_aload_n 26 dX12_readNever_25 rfl rfl kk) ?_
      refine Sx.up (fun _ kk => r_callV 29 dX12_readNever_26 rfl k12_233 hcl2 rfl rfl rfl (by decide) rfl lt95 (Nat.le_of_ble_eq_true rfl) kk) ?_
      refine Sx.up (fun _ kk => r_aload_n 30 dX12_readNever_29 rfl rfl kk) ?_
      refine Sx.up (fun _ kk => r_callV 33 dX12_readNever_30 rfl k12_276 hcl3 rfl rfl rfl (by decide) rfl lt95 (Nat.le_of_ble_eq_true rfl) kk) ?_
      refine Sx.up (fun _ kk => r_istore_n 34 dX12_readNever_33 rfl (by decide) rfl kk) ?_
      refine Sx.up (fun _ kk => r_aload_n 35 dX12_readNever_34 rfl rfl kk) ?_
      refine Sx.up (fun _ kk => r_getI 38 dX12_readNever_35 rfl f12_208 rfl rfl lt95 kk) ?_
      refine Sx.up (fun _ kk => r_if_ne 41 45 dX12_readNever_38 rfl (by decide) (fun h38 => absurd h38 (fun z => z hb3)) (fun _ => kk)) ?_
      refine Sx.up (fun _ kk => r_aload_n 42 dX12_readNever_41 rfl rfl kk) ?_
      refine Sx.up (fun _ kk => r_callV 45 dX12_readNever_42 rfl k12_233 hcl4 rfl rfl rfl (by decide) rfl lt95 (Nat.le_of_ble_eq_true rfl) kk) ?_
      refine Sx.up (fun _ kk => r_aload_n 46 dX12_readNever_45 rfl rfl kk) ?_
      refine Sx.up (fun _ kk => r_callV 49 dX12_readNever_46 rfl k12_276 hcl5 rfl rfl rfl (by decide) rfl lt95 (Nat.le_of_ble_eq_true rfl) kk) ?_
      refine Sx.up (fun _ kk => r_istore_n 50 dX12_readNever_49 rfl (by decide) rfl kk) ?_
      refine Sx.up (fun _ kk => r_aload_n 51 dX12_readNever_50 rfl rfl kk) ?_
      refine Sx.up (fun _ kk => r_getI 54 dX12_readNever_51 rfl f12_208 rfl rfl lt95 kk) ?_
      refine Sx.up (fun _ kk => r_if_ne 57 84 dX12_readNever_54 rfl (by decide) (fun _ => kk) (fun h54 => absurd h54 hb5)) ?_
      refine Sx.up (fun _ kk => r_aload_n 85 dX12_readNever_84 rfl rfl kk) ?_
      refine Sx.up (fun _ kk => r_getI 88 dX12_readNever_85 rfl f12_208 rfl rfl lt95 kk) ?_
      refine Sx.up (fun _ kk => r_if_eq 91 92 dX12_readNever_88 rfl (by decide) (fun h88 => absurd h88 hb5) (fun _ => kk)) ?_
      refine ⟨_, ?_, r_vret dX12_readNever_91 rfl rfl rfl⟩
      exact ⟨_, rfl, y5⟩
    | inr z =>
      rw [hn2] at y5
      have hb5 := md_0b y5 ⟨_, rfl⟩
      obtain ⟨ez, kz, lz⟩ := sn_live hn2
      obtain ⟨hz7, hzB⟩ := hcb z ez
      have hvz : v2 = nI (numT T z.1) := by rw [hv2 z hn2, ez]; rfl
      have hunb : unS T sb = .inr z := by
        rw [ez]
        exact if_neg (fun y => by have := (in_num y).2.1; omega)
      rw [hunb]
      rw [hzB] at lz
      obtain ⟨o1, o2, o3, o4, o5, o6b, o7b, -⟩ := id y5.2.2.2.2
      have hE : gA E5 105 (7 + vx) = bE z.2 vx := (o3 vx (by rw [hzB]; exact hvx7)).2.2.2.2.2.2.2
      rw [hzB] at hE o6b
      have i7 : (7 : Int32) + nI vx = nI (7 + vx) := nI_add 7 vx
      have i7b : (7 : Int32) + nI (numT T z.1) = nI (7 + numT T z.1) := nI_add 7 _
      by_cases hr : numT T z.1 = vx ∨ (bE q0.2 vx >>> (nI (numT T z.1) &&& 31)) &&& 1 = 1
      · have hag : agS T vx (.inr z) = .inl (4, z.1) := if_pos ⟨kz, by rw [hzB]; exact lz, by rw [hzB]; exact hr⟩
        rw [hag]
        obtain ⟨_, ⟨E6, rfl, y6⟩, hcl6⟩ := md_wrong (d := d + 2) y5 (k := 4) (k9 := 4) rfl (by decide) (by decide)
        have hb6 := md_1b y6
        by_cases hr1 : numT T z.1 = vx
        · refine Sx.up (fun _ kk => r_aload_n 1 dX12_readNever_0 rfl rfl kk) ?_
          refine Sx.up (fun _ kk => r_getR 4 dX12_readNever_1 rfl f12_38 rfl rfl lt95 (mo_3 (by first | exact md_M y1 | exact md_M y2 | exact md_M y3 | exact md_M y4 | exact md_M y5 | exact md_M y6 | exact md_M y7)) kk) ?_
          refine Sx.up (fun _ kk => r_bipush (14) 6 dX12_readNever_4 rfl (by decide) kk) ?_
          refine Sx.up (fun _ kk => r_ialdN (14) (nI (bN q0.2)) 7 dX12_readNever_6 rfl rfl (Nat.le_of_ble_eq_true rfl) (by decide) (Nat.le_of_ble_eq_true rfl) (Nat.le_of_ble_eq_true rfl) (o6) kk) ?_
          refine Sx.up (fun _ kk => r_bipush (6) 9 dX12_readNever_7 rfl (by decide) kk) ?_
          refine Sx.up (fun _ kk => r_icmp_ne 12 17 dX12_readNever_9 rfl (by decide) (fun _ => kk) (fun h9 => absurd h9 (fun z => h6 ((nI_eq (b := 6) (by omega) (by omega)).mp z)))) ?_
          refine Sx.up (fun _ kk => r_aload_n 18 dX12_readNever_17 rfl rfl kk) ?_
          refine Sx.up (fun _ kk => r_getI 21 dX12_readNever_18 rfl f12_208 rfl rfl lt95 kk) ?_
          refine Sx.up (fun _ kk => r_if_eq 24 25 dX12_readNever_21 rfl (by decide) (fun _ => kk) (fun h21 => absurd hb1 h21)) ?_
          refine Sx.up (fun _ kk => r_aload_n 26 dX12_readNever_25 rfl rfl kk) ?_
          refine Sx.up (fun _ kk => r_callV 29 dX12_readNever_26 rfl k12_233 hcl2 rfl rfl rfl (by decide) rfl lt95 (Nat.le_of_ble_eq_true rfl) kk) ?_
          refine Sx.up (fun _ kk => r_aload_n 30 dX12_readNever_29 rfl rfl kk) ?_
          refine Sx.up (fun _ kk => r_callV 33 dX12_readNever_30 rfl k12_276 hcl3 rfl rfl rfl (by decide) rfl lt95 (Nat.le_of_ble_eq_true rfl) kk) ?_
          refine Sx.up (fun _ kk => r_istore_n 34 dX12_readNever_33 rfl (by decide) rfl kk) ?_
          refine Sx.up (fun _ kk => r_aload_n 35 dX12_readNever_34 rfl rfl kk) ?_
          refine Sx.up (fun _ kk => r_getI 38 dX12_readNever_35 rfl f12_208 rfl rfl lt95 kk) ?_
          refine Sx.up (fun _ kk => r_if_ne 41 45 dX12_readNever_38 rfl (by decide) (fun h38 => absurd h38 (fun z => z hb3)) (fun _ => kk)) ?_
          refine Sx.up (fun _ kk => r_aload_n 42 dX12_readNever_41 rfl rfl kk) ?_
          refine Sx.up (fun _ kk => r_callV 45 dX12_readNever_42 rfl k12_233 hcl4 rfl rfl rfl (by decide) rfl lt95 (Nat.le_of_ble_eq_true rfl) kk) ?_
          refine Sx.up (fun _ kk => r_aload_n 46 dX12_readNever_45 rfl rfl kk) ?_
          refine Sx.up (fun _ kk => r_callV 49 dX12_readNever_46 rfl k12_276 hcl5 rfl rfl rfl (by decide) rfl lt95 (Nat.le_of_ble_eq_true rfl) kk) ?_
          refine Sx.up (fun _ kk => r_istore_n 50 dX12_readNever_49 rfl (by decide) rfl kk) ?_
          refine Sx.up (fun _ kk => r_aload_n 51 dX12_readNever_50 rfl rfl kk) ?_
          refine Sx.up (fun _ kk => r_getI 54 dX12_readNever_51 rfl f12_208 rfl rfl lt95 kk) ?_
          refine Sx.up (fun _ kk => r_if_ne 57 84 dX12_readNever_54 rfl (by decide) (fun h54 => absurd h54 (fun z => z hb5)) (fun _ => kk)) ?_
          refine Sx.up (fun _ kk => r_iload_n 58 dX12_readNever_57 rfl rfl kk) ?_
          refine Sx.up (fun _ kk => r_iload_n 59 dX12_readNever_58 rfl rfl kk) ?_
          refine Sx.up (fun _ kk => r_icmp_eq 62 79 dX12_readNever_59 rfl (by decide) (fun _ => kk) (fun h59 => absurd (by rw [hvx, hvz, hr1]) h59)) ?_
          refine Sx.up (fun _ kk => r_aload_n 80 dX12_readNever_79 rfl rfl kk) ?_
          refine Sx.up (fun _ kk => r_iconst (4) 81 dX12_readNever_80 rfl (by decide) kk) ?_
          refine Sx.up (fun _ kk => r_callV 84 dX12_readNever_81 rfl k12_229 hcl6 rfl rfl rfl (by decide) rfl lt95 (Nat.le_of_ble_eq_true rfl) kk) ?_
          refine Sx.up (fun _ kk => r_aload_n 85 dX12_readNever_84 rfl rfl kk) ?_
          refine Sx.up (fun _ kk => r_getI 88 dX12_readNever_85 rfl f12_208 rfl rfl lt95 kk) ?_
          refine Sx.up (fun _ kk => r_if_eq 91 92 dX12_readNever_88 rfl (by decide) (fun h88 => absurd h88 hb6) (fun _ => kk)) ?_
          refine ⟨_, ?_, r_vret dX12_readNever_91 rfl rfl rfl⟩
          exact ⟨_, rfl, y6⟩
        · refine Sx.up (fun _ kk => r_aload_n 1 dX12_readNever_0 rfl rfl kk) ?_
          refine Sx.up (fun _ kk => r_getR 4 dX12_readNever_1 rfl f12_38 rfl rfl lt95 (mo_3 (by first | exact md_M y1 | exact md_M y2 | exact md_M y3 | exact md_M y4 | exact md_M y5 | exact md_M y6 | exact md_M y7)) kk) ?_
          refine Sx.up (fun _ kk => r_bipush (14) 6 dX12_readNever_4 rfl (by decide) kk) ?_
          refine Sx.up (fun _ kk => r_ialdN (14) (nI (bN q0.2)) 7 dX12_readNever_6 rfl rfl (Nat.le_of_ble_eq_true rfl) (by decide) (Nat.le_of_ble_eq_true rfl) (Nat.le_of_ble_eq_true rfl) (o6) kk) ?_
          refine Sx.up (fun _ kk => r_bipush (6) 9 dX12_readNever_7 rfl (by decide) kk) ?_
          refine Sx.up (fun _ kk => r_icmp_ne 12 17 dX12_readNever_9 rfl (by decide) (fun _ => kk) (fun h9 => absurd h9 (fun z => h6 ((nI_eq (b := 6) (by omega) (by omega)).mp z)))) ?_
          refine Sx.up (fun _ kk => r_aload_n 18 dX12_readNever_17 rfl rfl kk) ?_
          refine Sx.up (fun _ kk => r_getI 21 dX12_readNever_18 rfl f12_208 rfl rfl lt95 kk) ?_
          refine Sx.up (fun _ kk => r_if_eq 24 25 dX12_readNever_21 rfl (by decide) (fun _ => kk) (fun h21 => absurd hb1 h21)) ?_
          refine Sx.up (fun _ kk => r_aload_n 26 dX12_readNever_25 rfl rfl kk) ?_
          refine Sx.up (fun _ kk => r_callV 29 dX12_readNever_26 rfl k12_233 hcl2 rfl rfl rfl (by decide) rfl lt95 (Nat.le_of_ble_eq_true rfl) kk) ?_
          refine Sx.up (fun _ kk => r_aload_n 30 dX12_readNever_29 rfl rfl kk) ?_
          refine Sx.up (fun _ kk => r_callV 33 dX12_readNever_30 rfl k12_276 hcl3 rfl rfl rfl (by decide) rfl lt95 (Nat.le_of_ble_eq_true rfl) kk) ?_
          refine Sx.up (fun _ kk => r_istore_n 34 dX12_readNever_33 rfl (by decide) rfl kk) ?_
          refine Sx.up (fun _ kk => r_aload_n 35 dX12_readNever_34 rfl rfl kk) ?_
          refine Sx.up (fun _ kk => r_getI 38 dX12_readNever_35 rfl f12_208 rfl rfl lt95 kk) ?_
          refine Sx.up (fun _ kk => r_if_ne 41 45 dX12_readNever_38 rfl (by decide) (fun h38 => absurd h38 (fun z => z hb3)) (fun _ => kk)) ?_
          refine Sx.up (fun _ kk => r_aload_n 42 dX12_readNever_41 rfl rfl kk) ?_
          refine Sx.up (fun _ kk => r_callV 45 dX12_readNever_42 rfl k12_233 hcl4 rfl rfl rfl (by decide) rfl lt95 (Nat.le_of_ble_eq_true rfl) kk) ?_
          refine Sx.up (fun _ kk => r_aload_n 46 dX12_readNever_45 rfl rfl kk) ?_
          refine Sx.up (fun _ kk => r_callV 49 dX12_readNever_46 rfl k12_276 hcl5 rfl rfl rfl (by decide) rfl lt95 (Nat.le_of_ble_eq_true rfl) kk) ?_
          refine Sx.up (fun _ kk => r_istore_n 50 dX12_readNever_49 rfl (by decide) rfl kk) ?_
          refine Sx.up (fun _ kk => r_aload_n 51 dX12_readNever_50 rfl rfl kk) ?_
          refine Sx.up (fun _ kk => r_getI 54 dX12_readNever_51 rfl f12_208 rfl rfl lt95 kk) ?_
          refine Sx.up (fun _ kk => r_if_ne 57 84 dX12_readNever_54 rfl (by decide) (fun h54 => absurd h54 (fun z => z hb5)) (fun _ => kk)) ?_
          refine Sx.up (fun _ kk => r_iload_n 58 dX12_readNever_57 rfl rfl kk) ?_
          refine Sx.up (fun _ kk => r_iload_n 59 dX12_readNever_58 rfl rfl kk) ?_
          refine Sx.up (fun _ kk => r_icmp_eq 62 79 dX12_readNever_59 rfl (by decide) (fun h59 => absurd h59 (fun y => hr1 ((nI_eq (by omega) (by omega)).mp (by rw [← hvx, ← hvz]; exact y.symm)))) (fun _ => kk)) ?_
          refine Sx.up (fun _ kk => r_aload_n 63 dX12_readNever_62 rfl rfl kk) ?_
          refine Sx.up (fun _ kk => r_getR 66 dX12_readNever_63 rfl f12_59 rfl rfl lt95 (mo_10 (by first | exact md_M y1 | exact md_M y2 | exact md_M y3 | exact md_M y4 | exact md_M y5 | exact md_M y6 | exact md_M y7)) kk) ?_
          refine Sx.up (fun _ kk => r_bipush (7) 68 dX12_readNever_66 rfl (by decide) kk) ?_
          refine Sx.up (fun _ kk => r_iload_n 69 dX12_readNever_68 rfl rfl kk) ?_
          refine Sx.up (fun _ kk => r_iadd 70 dX12_readNever_69 rfl kk) ?_
          refine Sx.up (fun _ kk => r_ialdN (7 + vx) (bE q0.2 vx) 71 dX12_readNever_70 rfl rfl (Nat.le_of_ble_eq_true rfl) (by rw [hvx]; exact i7) (by omega) (Nat.le_of_ble_eq_true rfl) (hE) kk) ?_
          refine Sx.up (fun _ kk => r_iload_n 72 dX12_readNever_71 rfl rfl kk) ?_
          refine Sx.up (fun _ kk => r_ishr 73 dX12_readNever_72 rfl kk) ?_
          refine Sx.up (fun _ kk => r_iconst (1) 74 dX12_readNever_73 rfl (by decide) kk) ?_
          refine Sx.up (fun _ kk => r_iand 75 dX12_readNever_74 rfl kk) ?_
          refine Sx.up (fun _ kk => r_iconst (1) 76 dX12_readNever_75 rfl (by decide) kk) ?_
          refine Sx.up (fun _ kk => r_icmp_ne 79 84 dX12_readNever_76 rfl (by decide) (fun h76 => absurd h76 (fun y => y (by rw [hvz]; exact hr.resolve_left hr1))) (fun _ => kk)) ?_
          refine Sx.up (fun _ kk => r_aload_n 80 dX12_readNever_79 rfl rfl kk) ?_
          refine Sx.up (fun _ kk => r_iconst (4) 81 dX12_readNever_80 rfl (by decide) kk) ?_
          refine Sx.up (fun _ kk => r_callV 84 dX12_readNever_81 rfl k12_229 hcl6 rfl rfl rfl (by decide) rfl lt95 (Nat.le_of_ble_eq_true rfl) kk) ?_
          refine Sx.up (fun _ kk => r_aload_n 85 dX12_readNever_84 rfl rfl kk) ?_
          refine Sx.up (fun _ kk => r_getI 88 dX12_readNever_85 rfl f12_208 rfl rfl lt95 kk) ?_
          refine Sx.up (fun _ kk => r_if_eq 91 92 dX12_readNever_88 rfl (by decide) (fun h88 => absurd h88 hb6) (fun _ => kk)) ?_
          refine ⟨_, ?_, r_vret dX12_readNever_91 rfl rfl rfl⟩
          exact ⟨_, rfl, y6⟩
      · have hr1 : ¬ numT T z.1 = vx := fun y => hr (Or.inl y)
        have hr2 : ¬ (bE q0.2 vx >>> (nI (numT T z.1) &&& 31)) &&& 1 = 1 := fun y => hr (Or.inr y)
        have hag : agS T vx (.inr z) = .inr z := if_neg (fun y => hr (by have := y.2.2; rw [hzB] at this; exact this))
        have htz : tkS T 0 9999 (.inr z) = advS T (.inr z) := by rw [← hunb, ← adv_sn, hn2]
        rw [hag, htz]
        obtain ⟨_, ⟨E6, rfl, y6, w6⟩, hcl6⟩ := md_advM (d := d + 1) y5 ⟨_, rfl⟩
        obtain ⟨w, hw⟩ : ∃ w, numT T z.1 = w := ⟨_, rfl⟩
        have hvw : vaS T (.inr z) = w := hw
        rw [hvw]
        rw [hw] at hvz i7b lz hr1
        have g105 : ∀ j, gA E6 105 j = gA E5 105 j := fun j => by rw [mf_gA w6 List.not_mem_nil]
        have hE2 : gA E5 105 (7 + w) = bE q0.2 w := by rw [← hzB]; exact (o3 w (by rw [hzB]; exact lz)).2.2.2.2.2.2.2
        have ha1 : gA E6 105 (7 + vx) = bE q0.2 vx := (g105 _).trans hE
        obtain ⟨X1, hX1⟩ : ∃ X1, bE q0.2 vx ||| (1 <<< (nI w &&& 31)) = X1 := ⟨_, rfl⟩
        obtain ⟨X2, hX2⟩ : ∃ X2, bE q0.2 w ||| (1 <<< (nI vx &&& 31)) = X2 := ⟨_, rfl⟩
        have ha2 : gA (sA E6 105 (7 + vx) X1) 105 (7 + w) = bE q0.2 w := by rw [gA_sA, if_neg (fun y => hr1 (by omega)), g105]; exact hE2
        have ha3 : gA (sA (sA E6 105 (7 + vx) X1) 105 (7 + w) X2) 98 14 = nI (bN q0.2) := by rw [gA_sA, if_neg (fun y => absurd y.1 (by decide)), gA_sA, if_neg (fun y => absurd y.1 (by decide)), mf_gA w6 List.not_mem_nil]; exact o6b
        have hM9 : MF [] [98, 105] E6 (sA (sA (sA E6 105 (7 + vx) X1) 105 (7 + w) X2) 98 14 (nI (bN q0.2) + 1)) := mf_sA (by decide) (mf_sA (by decide) (mf_sA (by decide) mf_rfl))
        have yf : CMd E0 (sA (sA (sA E6 105 (7 + vx) X1) 105 (7 + w) X2) 98 14 (nI (bN q0.2) + 1)) T (nvS vx w (advS T (.inr z))) := by
          obtain ⟨c1, c2, c3, p1, p2, p3, p4, p5, p6, p7, p8, p9, p10⟩ := id y6.2
          have h98 : ∀ j, j ≠ 14 → gA (sA (sA (sA E6 105 (7 + vx) X1) 105 (7 + w) X2) 98 14 (nI (bN q0.2) + 1)) 98 j = gA E6 98 j := fun j hj => by rw [gA_sA, if_neg (fun y => hj y.2), gA_sA, if_neg (fun y => absurd y.1 (by decide)), gA_sA, if_neg (fun y => absurd y.1 (by decide))]
          have ho : ∀ k, k ≠ 98 → k ≠ 105 → gA (sA (sA (sA E6 105 (7 + vx) X1) 105 (7 + w) X2) 98 14 (nI (bN q0.2) + 1)) k = gA E6 k := fun k h1 h2 => mf_gA hM9 (by simp [h1, h2])
          refine ⟨⟨md_T y6, tmf_mf hM9 (by decide) (by decide) (md_F y6), hf_sA (hf_sA (hf_sA y6.1.2.2 (m := 7) (by decide) (by omega)) (m := 7) (by decide) (by omega)) (m := 8) (by decide) (by omega)⟩, c1, c2, c3, (h98 _ (by decide)).trans p1, p2, fun q hq => ?_, fun q h1 h2 => ?_, fun j hj => (h98 _ (by omega)).trans (p5 j hj), ?_, ?_, (h98 _ (by decide)).trans p8, p9, fun j hj => by rw [ho 106 (by decide) (by decide)]; exact p10 j hj⟩
          · obtain ⟨q1, q2, q3, q4, q5, q6, q7, q8⟩ := p3 q hq
            rw [ho 99 (by decide) (by decide), ho 100 (by decide) (by decide), ho 101 (by decide) (by decide), ho 102 (by decide) (by decide), ho 103 (by decide) (by decide), ho 104 (by decide) (by decide)]
            refine ⟨q1, q2, q3, q4, q5, q6, q7, ?_⟩
            rw [gA_sA, if_neg (fun y => absurd y.1 (by decide)), gA_sA, gA_sA]
            show _ = (if q = w then (if w = vx then bE z.2 vx ||| (1 <<< (nI w &&& 31)) else bE z.2 w) ||| (1 <<< (nI vx &&& 31)) else if q = vx then bE z.2 vx ||| (1 <<< (nI w &&& 31)) else bE z.2 q)
            rw [hzB, if_neg hr1]
            by_cases h1 : q = w
            · rw [if_pos h1, if_pos ⟨rfl, by omega⟩]; exact hX2.symm
            · rw [if_neg h1, if_neg (fun y => h1 (by omega))]
              by_cases h2 : q = vx
              · rw [if_pos h2, if_pos ⟨rfl, by omega⟩]; exact hX1.symm
              · rw [if_neg h2, if_neg (fun y => h2 (by omega)), ← hzB]; exact q8
          · show (if q = w then _ else if q = vx then _ else bE z.2 q) = 0
            have h1 : bC z.2 ≤ q := h1
            rw [hzB] at h1
            rw [if_neg (by omega), if_neg (by omega)]
            exact p4 q (by show bC z.2 ≤ q; rw [hzB]; exact h1) h2
          · rw [gA_sA, if_pos ⟨rfl, rfl⟩, nI_pp, ← hzB]; rfl
          · show bN z.2 + 1 ≤ 6
            rw [hzB]; omega
        refine Sx.up (fun _ kk => r_aload_n 1 dX12_readNever_0 rfl rfl kk) ?_
        refine Sx.up (fun _ kk => r_getR 4 dX12_readNever_1 rfl f12_38 rfl rfl lt95 (mo_3 (by first | exact md_M y1 | exact md_M y2 | exact md_M y3 | exact md_M y4 | exact md_M y5 | exact md_M y6 | exact md_M y7)) kk) ?_
        refine Sx.up (fun _ kk => r_bipush (14) 6 dX12_readNever_4 rfl (by decide) kk) ?_
        refine Sx.up (fun _ kk => r_ialdN (14) (nI (bN q0.2)) 7 dX12_readNever_6 rfl rfl (Nat.le_of_ble_eq_true rfl) (by decide) (Nat.le_of_ble_eq_true rfl) (Nat.le_of_ble_eq_true rfl) (o6) kk) ?_
        refine Sx.up (fun _ kk => r_bipush (6) 9 dX12_readNever_7 rfl (by decide) kk) ?_
        refine Sx.up (fun _ kk => r_icmp_ne 12 17 dX12_readNever_9 rfl (by decide) (fun _ => kk) (fun h9 => absurd h9 (fun z => h6 ((nI_eq (b := 6) (by omega) (by omega)).mp z)))) ?_
        refine Sx.up (fun _ kk => r_aload_n 18 dX12_readNever_17 rfl rfl kk) ?_
        refine Sx.up (fun _ kk => r_getI 21 dX12_readNever_18 rfl f12_208 rfl rfl lt95 kk) ?_
        refine Sx.up (fun _ kk => r_if_eq 24 25 dX12_readNever_21 rfl (by decide) (fun _ => kk) (fun h21 => absurd hb1 h21)) ?_
        refine Sx.up (fun _ kk => r_aload_n 26 dX12_readNever_25 rfl rfl kk) ?_
        refine Sx.up (fun _ kk => r_callV 29 dX12_readNever_26 rfl k12_233 hcl2 rfl rfl rfl (by decide) rfl lt95 (Nat.le_of_ble_eq_true rfl) kk) ?_
        refine Sx.up (fun _ kk => r_aload_n 30 dX12_readNever_29 rfl rfl kk) ?_
        refine Sx.up (fun _ kk => r_callV 33 dX12_readNever_30 rfl k12_276 hcl3 rfl rfl rfl (by decide) rfl lt95 (Nat.le_of_ble_eq_true rfl) kk) ?_
        refine Sx.up (fun _ kk => r_istore_n 34 dX12_readNever_33 rfl (by decide) rfl kk) ?_
        refine Sx.up (fun _ kk => r_aload_n 35 dX12_readNever_34 rfl rfl kk) ?_
        refine Sx.up (fun _ kk => r_getI 38 dX12_readNever_35 rfl f12_208 rfl rfl lt95 kk) ?_
        refine Sx.up (fun _ kk => r_if_ne 41 45 dX12_readNever_38 rfl (by decide) (fun h38 => absurd h38 (fun z => z hb3)) (fun _ => kk)) ?_
        refine Sx.up (fun _ kk => r_aload_n 42 dX12_readNever_41 rfl rfl kk) ?_
        refine Sx.up (fun _ kk => r_callV 45 dX12_readNever_42 rfl k12_233 hcl4 rfl rfl rfl (by decide) rfl lt95 (Nat.le_of_ble_eq_true rfl) kk) ?_
        refine Sx.up (fun _ kk => r_aload_n 46 dX12_readNever_45 rfl rfl kk) ?_
        refine Sx.up (fun _ kk => r_callV 49 dX12_readNever_46 rfl k12_276 hcl5 rfl rfl rfl (by decide) rfl lt95 (Nat.le_of_ble_eq_true rfl) kk) ?_
        refine Sx.up (fun _ kk => r_istore_n 50 dX12_readNever_49 rfl (by decide) rfl kk) ?_
        refine Sx.up (fun _ kk => r_aload_n 51 dX12_readNever_50 rfl rfl kk) ?_
        refine Sx.up (fun _ kk => r_getI 54 dX12_readNever_51 rfl f12_208 rfl rfl lt95 kk) ?_
        refine Sx.up (fun _ kk => r_if_ne 57 84 dX12_readNever_54 rfl (by decide) (fun h54 => absurd h54 (fun z => z hb5)) (fun _ => kk)) ?_
        refine Sx.up (fun _ kk => r_iload_n 58 dX12_readNever_57 rfl rfl kk) ?_
        refine Sx.up (fun _ kk => r_iload_n 59 dX12_readNever_58 rfl rfl kk) ?_
        refine Sx.up (fun _ kk => r_icmp_eq 62 79 dX12_readNever_59 rfl (by decide) (fun h59 => absurd h59 (fun y => hr1 ((nI_eq (by omega) (by omega)).mp (by rw [← hvx, ← hvz]; exact y.symm)))) (fun _ => kk)) ?_
        refine Sx.up (fun _ kk => r_aload_n 63 dX12_readNever_62 rfl rfl kk) ?_
        refine Sx.up (fun _ kk => r_getR 66 dX12_readNever_63 rfl f12_59 rfl rfl lt95 (mo_10 (by first | exact md_M y1 | exact md_M y2 | exact md_M y3 | exact md_M y4 | exact md_M y5 | exact md_M y6 | exact md_M y7)) kk) ?_
        refine Sx.up (fun _ kk => r_bipush (7) 68 dX12_readNever_66 rfl (by decide) kk) ?_
        refine Sx.up (fun _ kk => r_iload_n 69 dX12_readNever_68 rfl rfl kk) ?_
        refine Sx.up (fun _ kk => r_iadd 70 dX12_readNever_69 rfl kk) ?_
        refine Sx.up (fun _ kk => r_ialdN (7 + vx) (bE q0.2 vx) 71 dX12_readNever_70 rfl rfl (Nat.le_of_ble_eq_true rfl) (by rw [hvx]; exact i7) (by omega) (Nat.le_of_ble_eq_true rfl) (hE) kk) ?_
        refine Sx.up (fun _ kk => r_iload_n 72 dX12_readNever_71 rfl rfl kk) ?_
        refine Sx.up (fun _ kk => r_ishr 73 dX12_readNever_72 rfl kk) ?_
        refine Sx.up (fun _ kk => r_iconst (1) 74 dX12_readNever_73 rfl (by decide) kk) ?_
        refine Sx.up (fun _ kk => r_iand 75 dX12_readNever_74 rfl kk) ?_
        refine Sx.up (fun _ kk => r_iconst (1) 76 dX12_readNever_75 rfl (by decide) kk) ?_
        refine Sx.up (fun _ kk => r_icmp_ne 79 84 dX12_readNever_76 rfl (by decide) (fun _ => kk) (fun h76 => absurd h76 (fun y => hr2 (by rw [hw, ← hvz]; exact y)))) ?_
        refine Sx.up (fun _ kk => r_aload_n 85 dX12_readNever_84 rfl rfl kk) ?_
        refine Sx.up (fun _ kk => r_getI 88 dX12_readNever_85 rfl f12_208 rfl rfl lt95 kk) ?_
        refine Sx.up (fun _ kk => r_if_eq 91 92 dX12_readNever_88 rfl (by decide) (fun _ => kk) (fun h88 => absurd hb5 h88)) ?_
        refine Sx.up (fun _ kk => r_aload_n 93 dX12_readNever_92 rfl rfl kk) ?_
        refine Sx.up (fun _ kk => r_callV 96 dX12_readNever_93 rfl k12_233 hcl6 rfl rfl rfl (by decide) rfl lt95 (Nat.le_of_ble_eq_true rfl) kk) ?_
        refine Sx.up (fun _ kk => r_aload_n 97 dX12_readNever_96 rfl rfl kk) ?_
        refine Sx.up (fun _ kk => r_getR 100 dX12_readNever_97 rfl f12_59 rfl rfl lt95 (mo_10 (by first | exact md_M y1 | exact md_M y2 | exact md_M y3 | exact md_M y4 | exact md_M y5 | exact md_M y6 | exact md_M y7)) kk) ?_
        refine Sx.up (fun _ kk => r_bipush (7) 102 dX12_readNever_100 rfl (by decide) kk) ?_
        refine Sx.up (fun _ kk => r_iload_n 103 dX12_readNever_102 rfl rfl kk) ?_
        refine Sx.up (fun _ kk => r_iadd 104 dX12_readNever_103 rfl kk) ?_
        refine Sx.up (fun _ kk => r_dup2 105 dX12_readNever_104 rfl rfl rfl kk) ?_
        refine Sx.up (fun _ kk => r_ialdN (7 + vx) (bE q0.2 vx) 106 dX12_readNever_105 rfl rfl (Nat.le_of_ble_eq_true rfl) (by rw [hvx]; exact i7) (by omega) (Nat.le_of_ble_eq_true rfl) (ha1) kk) ?_
        refine Sx.up (fun _ kk => r_iconst (1) 107 dX12_readNever_106 rfl (by decide) kk) ?_
        refine Sx.up (fun _ kk => r_iload_n 108 dX12_readNever_107 rfl rfl kk) ?_
        refine Sx.up (fun _ kk => r_ishl 109 dX12_readNever_108 rfl kk) ?_
        refine Sx.up (fun _ kk => r_ior 110 dX12_readNever_109 rfl kk) ?_
        rw [hvz, hX1]
        refine Sx.up (fun _ kk => r_iastN (7 + vx) 111 dX12_readNever_110 rfl rfl (Nat.le_of_ble_eq_true rfl) (by rw [hvx]; exact i7) (by omega) (Nat.le_of_ble_eq_true rfl) kk) ?_
        refine Sx.up (fun _ kk => r_aload_n 112 dX12_readNever_111 rfl rfl kk) ?_
        refine Sx.up (fun _ kk => r_getR 115 dX12_readNever_112 rfl f12_59 rfl rfl lt95 (mo_10 (by first | exact md_M y1 | exact md_M y2 | exact md_M y3 | exact md_M y4 | exact md_M y5 | exact md_M y6 | exact md_M y7)) kk) ?_
        refine Sx.up (fun _ kk => r_bipush (7) 117 dX12_readNever_115 rfl (by decide) kk) ?_
        refine Sx.up (fun _ kk => r_iload_n 118 dX12_readNever_117 rfl rfl kk) ?_
        refine Sx.up (fun _ kk => r_iadd 119 dX12_readNever_118 rfl kk) ?_
        refine Sx.up (fun _ kk => r_dup2 120 dX12_readNever_119 rfl rfl rfl kk) ?_
        refine Sx.up (fun _ kk => r_ialdN (7 + w) (bE q0.2 w) 121 dX12_readNever_120 rfl rfl (Nat.le_of_ble_eq_true rfl) (by first | exact i7b | (rw [hvz]; exact i7b)) (by omega) (Nat.le_of_ble_eq_true rfl) (ha2) kk) ?_
        refine Sx.up (fun _ kk => r_iconst (1) 122 dX12_readNever_121 rfl (by decide) kk) ?_
        refine Sx.up (fun _ kk => r_iload_n 123 dX12_readNever_122 rfl rfl kk) ?_
        refine Sx.up (fun _ kk => r_ishl 124 dX12_readNever_123 rfl kk) ?_
        refine Sx.up (fun _ kk => r_ior 125 dX12_readNever_124 rfl kk) ?_
        rw [hvx, hX2]
        refine Sx.up (fun _ kk => r_iastN (7 + w) 126 dX12_readNever_125 rfl rfl (Nat.le_of_ble_eq_true rfl) (by first | exact i7b | (rw [hvz]; exact i7b)) (by omega) (Nat.le_of_ble_eq_true rfl) kk) ?_
        refine Sx.up (fun _ kk => r_aload_n 127 dX12_readNever_126 rfl rfl kk) ?_
        refine Sx.up (fun _ kk => r_getR 130 dX12_readNever_127 rfl f12_38 rfl rfl lt95 (mo_3 (by first | exact md_M y1 | exact md_M y2 | exact md_M y3 | exact md_M y4 | exact md_M y5 | exact md_M y6 | exact md_M y7)) kk) ?_
        refine Sx.up (fun _ kk => r_bipush (14) 132 dX12_readNever_130 rfl (by decide) kk) ?_
        refine Sx.up (fun _ kk => r_dup2 133 dX12_readNever_132 rfl rfl rfl kk) ?_
        refine Sx.up (fun _ kk => r_ialdN (14) (nI (bN q0.2)) 134 dX12_readNever_133 rfl rfl (Nat.le_of_ble_eq_true rfl) (by decide) (Nat.le_of_ble_eq_true rfl) (Nat.le_of_ble_eq_true rfl) (ha3) kk) ?_
        refine Sx.up (fun _ kk => r_iconst (1) 135 dX12_readNever_134 rfl (by decide) kk) ?_
        refine Sx.up (fun _ kk => r_iadd 136 dX12_readNever_135 rfl kk) ?_
        refine Sx.up (fun _ kk => r_iastN (14) 137 dX12_readNever_136 rfl rfl (Nat.le_of_ble_eq_true rfl) (by decide) (Nat.le_of_ble_eq_true rfl) (Nat.le_of_ble_eq_true rfl) kk) ?_
        refine ⟨_, ?_, r_vret dX12_readNever_137 rfl rfl rfl⟩
        exact ⟨_, rfl, yf⟩
def x5S (x : Int32) (s : PS) : Prop := ∀ a B, s = .inr (a, B) → bX B 5 = x
theorem x5_tk {T : TX} {lo hi : Nat} {x : Int32} {s : PS} (h : x5S x s) : x5S x (tkS T lo hi s) := fun a B z => by
  obtain ⟨a0, e, -⟩ := tk_live z
  exact h _ _ e
theorem x5_adv {T : TX} {x : Int32} {s : PS} (h : x5S x s) : x5S x (advS T s) := fun a B z => by
  obtain ⟨a0, e⟩ := adv_live z
  exact h _ _ e
theorem x5_flt {k : Nat} {x : Int32} {s : PS} : x5S x (fltS k s) := fun a B z => by cases s <;> cases z
theorem x5_sgn {T : TX} {c x : Int32} {s : PS} (h : x5S x s) : x5S x (sgnS T c s) := by
  unfold sgnS
  split
  · exact x5_adv h
  · exact x5_flt
theorem x5_new {T : TX} {x : Int32} {s : PS} (h : x5S x s) : x5S x (newS T s) := fun a B z => by
  cases s with
  | inl y => cases z
  | inr q =>
    have z : (if 7 ≤ bC q.2 then .inl (2, q.1) else .inr (nxT T q.1, q.2)) = (.inr (a, B) : PS) := z
    by_cases h1 : 7 ≤ bC q.2
    · rw [if_pos h1] at z; cases z
    · rw [if_neg h1] at z
      have z := Sum.inr.inj z
      cases z
      exact h _ _ rfl
theorem x5_sl {f : Nat → Int32} {x : Int32} {s : PS} (h : x5S x s) : x5S x (slS f s) := fun a B z => by
  cases s with
  | inl y => cases z
  | inr q =>
    have z := Sum.inr.inj z
    cases z
    exact h _ _ rfl
theorem x5_sc {i : Nat} {v x : Int32} {s : PS} (hi : i < 5) (h : x5S x s) : x5S x (scS i v s) := fun a B z => by
  cases s with
  | inl y => cases z
  | inr q =>
    have z := Sum.inr.inj z
    cases z
    show (if 5 = i then v else bX q.2 5) = x
    rw [if_neg (by omega)]
    exact h _ _ rfl
theorem x5_or {v x : Int32} {s : PS} (h : x5S x s) : x5S x (orX v s) := fun a B z => by
  cases s with
  | inl y => cases z
  | inr q =>
    have z := Sum.inr.inj z
    cases z
    show (if 5 = 4 then _ else bX q.2 5) = x
    rw [if_neg (by omega)]
    exact h _ _ rfl
theorem x5_nv {v w : Nat} {x : Int32} {s : PS} (h : x5S x s) : x5S x (nvS v w s) := fun a B z => by
  cases s with
  | inl y => cases z
  | inr q =>
    have z := Sum.inr.inj z
    cases z
    exact h _ _ rfl
theorem x5_nf {x : Int32} {s : PS} (h : x5S x s) : x5S x (neF s) := fun a B z => h _ _ (nf_live z).2
theorem x5_un {T : TX} {x : Int32} {s : PS} (h : x5S x s) : x5S x (unS T s) := fun a B z => h _ _ (un_live z).1
theorem x5_ag {T : TX} {v : Nat} {x : Int32} {s : PS} (h : x5S x s) : x5S x (agS T v s) := fun a B z => h _ _ (ag_live z).1
theorem x5_bd {T : TX} {x : Int32} {s : PS} (h : x5S x s) : x5S x (boD T s) := by
  unfold boD
  split
  · exact x5_flt
  · exact h
theorem x5_ext {k : Nat} {x : Int32} {s s2 : PS} (q : Ext k s s2) (h : x5S x s) : x5S x s2 := fun a B z => by
  rcases q with ⟨y, e⟩ | ⟨a0, B0, a2, X, e1, e2, -⟩
  · rw [e] at z; cases z
  · rw [e2] at z
    have z := Sum.inr.inj z
    cases z
    exact h _ _ e1
theorem x5_on {T : TX} {l x : Int32} {s : PS} (h : x5S x s) : x5S (x ||| l) (onS T l s) := fun a B z => by
  cases s with
  | inl y => cases z
  | inr q =>
    have hq := h q.1 q.2 rfl
    have z : (if bX q.2 5 &&& l = 0 then .inr (nxT T q.1, setX q.2 5 (bX q.2 5 ||| l)) else .inl (5, q.1)) = (.inr (a, B) : PS) := z
    by_cases h1 : bX q.2 5 &&& l = 0
    · rw [if_pos h1] at z
      have z := Sum.inr.inj z
      cases z
      show (if 5 = 5 then bX q.2 5 ||| l else bX q.2 5) = x ||| l
      rw [if_pos rfl, hq]
    · rw [if_neg h1] at z; cases z
theorem x5_pe {T : TX} {k x : Int32} {s : PS} (h : x5S x s) : x5S x (peS T k s) := x5_sl (x5_tk (x5_tk (x5_tk (x5_tk (x5_tk (x5_tk (x5_new h)))))))
theorem x5_dg {T : TX} {x : Int32} {s : PS} (h : x5S x s) : x5S x (dgS T s) := x5_sl (x5_tk (x5_new h))
theorem x5_bo {T : TX} {x : Int32} {s : PS} (h : x5S x s) : x5S x (boS T s) := x5_or (x5_tk (x5_bd (x5_adv h)))
theorem x5_ne {T : TX} {x : Int32} {s : PS} (h : x5S x s) : x5S x (neS T s) := x5_nv (x5_tk (x5_ag (x5_un (x5_tk (x5_un (x5_adv (x5_nf h)))))))
theorem isW_inj {T : TX} {a : Nat} {w w2 : List Int32} (h : isW T a w = true) (h2 : isW T a w2 = true) : w = w2 := by
  unfold isW at h h2
  rw [Bool.and_eq_true, decide_eq_true_eq, List.all_eq_true] at h h2
  have hl : w.length = w2.length := h.1.2.symm.trans h2.1.2
  refine List.ext_getElem? fun i => ?_
  rcases Nat.lt_or_ge i w.length with z | z
  · have e1 := of_decide_eq_true (h.2 i (List.mem_range.mpr z))
    have e2 := of_decide_eq_true (h2.2 i (List.mem_range.mpr (by omega)))
    rw [e1] at e2
    rw [List.getD_eq_getElem?_getD, List.getD_eq_getElem?_getD, List.getElem?_eq_getElem z, List.getElem?_eq_getElem (by omega)] at e2
    rw [List.getElem?_eq_getElem z, List.getElem?_eq_getElem (show i < w2.length by omega)]
    exact congrArg some e2
  · rw [List.getElem?_eq_none z, List.getElem?_eq_none (by omega)]
/-- two words don't stand at one place -/
theorem wd_no {T : TX} {w w2 : List Int32} {s : PS} (h : wdS T w s = true) (hne : ¬ w = w2) : ¬ wdS T w2 s = true := by
  cases s with
  | inl x => exact absurd h (by show ¬ false = true; decide)
  | inr q => exact fun z => hne (isW_inj (T := T) (a := q.1) h z)
theorem on_a {T : TX} {l : Int32} {a : Nat} {B : BD} (h : bX B 5 &&& l = 0) : onS T l (.inr (a, B)) = .inr (nxT T a, setX B 5 (bX B 5 ||| l)) := if_pos h
theorem on_b {T : TX} {l : Int32} {a : Nat} {B : BD} (h : ¬ bX B 5 &&& l = 0) : onS T l (.inr (a, B)) = .inl (5, a) := if_neg h
/-- the lines told once: only the model's reader keeps them elsewhere -/
theorem md_set5 {E0 E : HP} {T : TX} {a : Nat} {B : BD} {v : Int32} (y : CMd E0 E T (.inr (a, B))) : CMd E0 E T (.inr (a, setX B 5 v)) := by
  obtain ⟨c1, c2, c3, o1, o2, o3, o4, o5, o6, o7, o8, o9, o10⟩ := id y.2
  refine ⟨y.1, c1, c2, c3, o1, o2, o3, o4, fun i hi => ?_, o6, o7, o8, o9, o10⟩
  show _ = (if i = 5 then v else bX B i)
  rw [if_neg (by omega)]
  exact o5 i hi
set_option maxRecDepth 20000 in
theorem md_line {d : Nat} {E0 E : HP} {T : TX} {a : Nat} {B : BD} {dn9 : Int32} (y1 : CMd E0 E T (.inr (a, B))) (h0 : slk 0 (.inr (a, B))) (hdn : dn9 = bX B 5) : ∃ o, (∃ E2 v, o = (.inl (some (.int v)), E2, 137) ∧ CMd E0 E2 T (liS T (.inr (a, B))) ∧ (∀ a2 B2, liS T (.inr (a, B)) = .inr (a2, B2) → v = bX B2 5)) ∧ Cl yX12_readLine mX12_readLine (d + 46) 0 0 [.ref 95, .int dn9] E 137 o := by
  subst hdn
  have hx5 : x5S (bX B 5) (.inr (a, B)) := fun a2 B2 z => by
    have z := Sum.inr.inj z
    cases z
    rfl
  have hb1 := md_0b y1 ⟨_, rfl⟩
  have hwh := md_whichK (d := d + 40) y1
  have k253 : ∀ kk E x3 t, CMd E0 E T t → lineS T (.inr (a, B)) = t → x5S (bX B 5 ||| kk) t → Sx mX12_readLine (d + 46) 0 0 (fun o => ∃ E2 v, o = (.inl (some (.int v)), E2, 137) ∧ CMd E0 E2 T (liS T (.inr (a, B))) ∧ (∀ a2 B2, liS T (.inr (a, B)) = .inr (a2, B2) → v = bX B2 5)) 253 [some (.ref 95), some (.int (bX B 5)), some (.int kk), x3] [] E 137 := by
    intro kk E x3 t y1 ht hx
    refine Sx.up (fun _ kk => r_aload_n 254 dX12_readLine_253 rfl rfl kk) ?_
    refine Sx.up (fun _ kk => r_bipush (59) 256 dX12_readLine_254 rfl (by decide) kk) ?_
    obtain ⟨_, ⟨E2, rfl, y2⟩, hcl2⟩ := md_mark (d := d + 43) (c := 59) y1
    refine Sx.up (fun _ kk => r_callV 259 dX12_readLine_256 rfl k12_249 hcl2 rfl rfl rfl (by decide) rfl lt95 (Nat.le_of_ble_eq_true rfl) kk) ?_
    refine Sx.up (fun _ kk => r_iload_n 260 dX12_readLine_259 rfl rfl kk) ?_
    refine Sx.up (fun _ kk => r_iload_n 261 dX12_readLine_260 rfl rfl kk) ?_
    refine Sx.up (fun _ kk => r_ior 262 dX12_readLine_261 rfl kk) ?_
    refine ⟨_, ?_, r_iret dX12_readLine_262 rfl rfl rfl⟩
    refine ⟨_, _, rfl, by unfold liS; rw [ht]; exact y2, fun a2 B2 z => ?_⟩
    unfold liS at z
    rw [ht] at z
    exact (x5_sgn hx a2 B2 z).symm
  refine Cx.of (by decide) rfl (fun q => by cases q) rfl rfl (Nat.le_of_ble_eq_true rfl) ?_
  show Sx _ _ _ _ _ 0 [some (.ref 95), some (.int (bX B 5)), none, none] [] _ _
  by_cases n_sleeper : wdS T w_sleeper (.inr (a, B)) = true
  · have n_child : ¬ wdS T w_child (.inr (a, B)) = true := wd_no n_sleeper (by decide)
    have n_snorer : ¬ wdS T w_snorer (.inr (a, B)) = true := wd_no n_sleeper (by decide)
    have n_dog : ¬ wdS T w_dog (.inr (a, B)) = true := wd_no n_sleeper (by decide)
    have n_bolster : ¬ wdS T w_bolster (.inr (a, B)) = true := wd_no n_sleeper (by decide)
    have n_never : ¬ wdS T w_never (.inr (a, B)) = true := wd_no n_sleeper (by decide)
    have n_wakes : ¬ wdS T w_wakes (.inr (a, B)) = true := wd_no n_sleeper (by decide)
    have n_bed : ¬ wdS T w_bed (.inr (a, B)) = true := wd_no n_sleeper (by decide)
    have n_night : ¬ wdS T w_night (.inr (a, B)) = true := wd_no n_sleeper (by decide)
    have n_awake : ¬ wdS T w_awake (.inr (a, B)) = true := wd_no n_sleeper (by decide)
    have hwk : whF T (.inr (a, B)) w_kinds 0 = nI 0 := by unfold w_kinds; unfold whF; rw [if_pos n_sleeper]
    rw [hwk] at hwh
    have hln : lineS T (.inr (a, B)) = peS T 0 (.inr (a, B)) := by unfold lineS; rw [if_pos n_sleeper]
    have hsl := md_sleep (d := d + 42) (kd := 0) y1 (by first | exact Or.inl rfl | exact Or.inr (by decide))
    rw [if_neg (by decide)] at hsl
    obtain ⟨_, ⟨E2, rfl, y2⟩, hcl2⟩ := hsl
    refine Sx.up (fun _ kk => r_aload_n 1 dX12_readLine_0 rfl rfl kk) ?_
    refine Sx.up (fun _ kk => r_ldcwS (i := 31) 4 dX12_readLine_1 rfl rfl kk) ?_
    refine Sx.up (fun _ kk => r_callV 7 dX12_readLine_4 rfl k12_222 (md_is (d := d + 41) (i := 31) (q := ("SpoonRowModel", 279, "bed", w_bed)) y1 rfl) rfl rfl rfl (by decide) rfl lt95 (Nat.le_of_ble_eq_true rfl) kk) ?_
    refine Sx.up (fun _ kk => r_if_eq 10 14 dX12_readLine_7 rfl (by decide) (fun _ => kk) (fun h7 => absurd (bI_f n_bed) h7)) ?_
    refine Sx.up (fun _ kk => r_aload_n 15 dX12_readLine_14 rfl rfl kk) ?_
    refine Sx.up (fun _ kk => r_ldcwS (i := 32) 18 dX12_readLine_15 rfl rfl kk) ?_
    refine Sx.up (fun _ kk => r_callV 21 dX12_readLine_18 rfl k12_222 (md_is (d := d + 41) (i := 32) (q := ("SpoonRowModel", 281, "night", w_night)) y1 rfl) rfl rfl rfl (by decide) rfl lt95 (Nat.le_of_ble_eq_true rfl) kk) ?_
    refine Sx.up (fun _ kk => r_if_eq 24 28 dX12_readLine_21 rfl (by decide) (fun _ => kk) (fun h21 => absurd (bI_f n_night) h21)) ?_
    refine Sx.up (fun _ kk => r_aload_n 29 dX12_readLine_28 rfl rfl kk) ?_
    refine Sx.up (fun _ kk => r_ldcwS (i := 33) 32 dX12_readLine_29 rfl rfl kk) ?_
    refine Sx.up (fun _ kk => r_callV 35 dX12_readLine_32 rfl k12_222 (md_is (d := d + 41) (i := 33) (q := ("SpoonRowModel", 283, "awake", w_awake)) y1 rfl) rfl rfl rfl (by decide) rfl lt95 (Nat.le_of_ble_eq_true rfl) kk) ?_
    refine Sx.up (fun _ kk => r_if_eq 38 42 dX12_readLine_35 rfl (by decide) (fun _ => kk) (fun h35 => absurd (bI_f n_awake) h35)) ?_
    refine Sx.up (fun _ kk => r_aload_n 43 dX12_readLine_42 rfl rfl kk) ?_
    refine Sx.up (fun _ kk => r_ldcwS (i := 34) 46 dX12_readLine_43 rfl rfl kk) ?_
    refine Sx.up (fun _ kk => r_callV 49 dX12_readLine_46 rfl k12_222 (md_is (d := d + 41) (i := 34) (q := ("SpoonRowModel", 285, "wakes", w_wakes)) y1 rfl) rfl rfl rfl (by decide) rfl lt95 (Nat.le_of_ble_eq_true rfl) kk) ?_
    refine Sx.up (fun _ kk => r_if_eq 52 57 dX12_readLine_49 rfl (by decide) (fun _ => kk) (fun h49 => absurd (bI_f n_wakes) h49)) ?_
    refine Sx.up (fun _ kk => r_iconst (0) 58 dX12_readLine_57 rfl (by decide) kk) ?_
    refine Sx.up (fun _ kk => r_istore_n 59 dX12_readLine_58 rfl (by decide) rfl kk) ?_
    refine Sx.up (fun _ kk => r_aload_n 60 dX12_readLine_59 rfl rfl kk) ?_
    refine Sx.up (fun _ kk => r_ldcwS (i := 35) 63 dX12_readLine_60 rfl rfl kk) ?_
    refine Sx.up (fun _ kk => r_callV 66 dX12_readLine_63 rfl k12_222 (md_is (d := d + 41) (i := 35) (q := ("SpoonRowModel", 287, "dog", w_dog)) y1 rfl) rfl rfl rfl (by decide) rfl lt95 (Nat.le_of_ble_eq_true rfl) kk) ?_
    refine Sx.up (fun _ kk => r_if_eq 69 73 dX12_readLine_66 rfl (by decide) (fun _ => kk) (fun h66 => absurd (bI_f n_dog) h66)) ?_
    refine Sx.up (fun _ kk => r_aload_n 74 dX12_readLine_73 rfl rfl kk) ?_
    refine Sx.up (fun _ kk => r_aload_n 75 dX12_readLine_74 rfl rfl kk) ?_
    refine Sx.up (fun _ kk => r_getR 78 dX12_readLine_75 rfl f12_17 rfl rfl lt95 (mo_0 (md_M y1)) kk) ?_
    refine Sx.up (fun _ kk => r_callV 81 dX12_readLine_78 rfl k12_245 hwh rfl rfl rfl (by decide) rfl lt95 (Nat.le_of_ble_eq_true rfl) kk) ?_
    refine Sx.up (fun _ kk => r_istore_n 82 dX12_readLine_81 rfl (by decide) rfl kk) ?_
    refine Sx.up (fun _ kk => r_iload_n 83 dX12_readLine_82 rfl rfl kk) ?_
    refine Sx.up (fun _ kk => r_iload_n 84 dX12_readLine_83 rfl rfl kk) ?_
    refine Sx.up (fun _ kk => r_iand 85 dX12_readLine_84 rfl kk) ?_
    refine Sx.up (fun _ kk => r_if_eq 88 93 dX12_readLine_85 rfl (by decide) (fun _ => kk) (fun h85 => absurd (Int32.zero_and) h85)) ?_
    refine Sx.up (fun _ kk => r_iload_n 94 dX12_readLine_93 rfl rfl kk) ?_
    refine Sx.up (fun _ kk => r_if_le 97 197 dX12_readLine_94 rfl (by decide) (fun _ => kk) (fun h94 => absurd (by decide) h94)) ?_
    refine Sx.up (fun _ kk => r_iload_n 198 dX12_readLine_197 rfl rfl kk) ?_
    refine Sx.up (fun _ kk => r_iconst (-1) 199 dX12_readLine_198 rfl (by decide) kk) ?_
    refine Sx.up (fun _ kk => r_icmp_eq 202 210 dX12_readLine_199 rfl (by decide) (fun h199 => absurd h199 (by decide)) (fun _ => kk)) ?_
    refine Sx.up (fun _ kk => r_aload_n 203 dX12_readLine_202 rfl rfl kk) ?_
    refine Sx.up (fun _ kk => r_iload_n 204 dX12_readLine_203 rfl rfl kk) ?_
    refine Sx.up (fun _ kk => r_callV 207 dX12_readLine_204 rfl k12_289 hcl2 rfl rfl rfl (by decide) rfl lt95 (Nat.le_of_ble_eq_true rfl) kk) ?_
    refine Sx.up (fun _ kk => r_goto 253 dX12_readLine_207 (by decide) kk) ?_
    exact k253 0 E2 _ _ y2 hln (by rw [show bX B 5 ||| 0 = bX B 5 from Int32.or_zero]; exact x5_pe hx5)
  by_cases n_child : wdS T w_child (.inr (a, B)) = true
  · have n_sleeper : ¬ wdS T w_sleeper (.inr (a, B)) = true := wd_no n_child (by decide)
    have n_snorer : ¬ wdS T w_snorer (.inr (a, B)) = true := wd_no n_child (by decide)
    have n_dog : ¬ wdS T w_dog (.inr (a, B)) = true := wd_no n_child (by decide)
    have n_bolster : ¬ wdS T w_bolster (.inr (a, B)) = true := wd_no n_child (by decide)
    have n_never : ¬ wdS T w_never (.inr (a, B)) = true := wd_no n_child (by decide)
    have n_wakes : ¬ wdS T w_wakes (.inr (a, B)) = true := wd_no n_child (by decide)
    have n_bed : ¬ wdS T w_bed (.inr (a, B)) = true := wd_no n_child (by decide)
    have n_night : ¬ wdS T w_night (.inr (a, B)) = true := wd_no n_child (by decide)
    have n_awake : ¬ wdS T w_awake (.inr (a, B)) = true := wd_no n_child (by decide)
    have hwk : whF T (.inr (a, B)) w_kinds 0 = nI 1 := by unfold w_kinds; unfold whF; rw [if_neg n_sleeper]; unfold whF; rw [if_pos n_child]
    rw [hwk] at hwh
    have hln : lineS T (.inr (a, B)) = peS T 1 (.inr (a, B)) := by unfold lineS; rw [if_neg n_sleeper, if_pos n_child]
    have hsl := md_sleep (d := d + 42) (kd := 1) y1 (by first | exact Or.inl rfl | exact Or.inr (by decide))
    rw [if_neg (by decide)] at hsl
    obtain ⟨_, ⟨E2, rfl, y2⟩, hcl2⟩ := hsl
    refine Sx.up (fun _ kk => r_aload_n 1 dX12_readLine_0 rfl rfl kk) ?_
    refine Sx.up (fun _ kk => r_ldcwS (i := 31) 4 dX12_readLine_1 rfl rfl kk) ?_
    refine Sx.up (fun _ kk => r_callV 7 dX12_readLine_4 rfl k12_222 (md_is (d := d + 41) (i := 31) (q := ("SpoonRowModel", 279, "bed", w_bed)) y1 rfl) rfl rfl rfl (by decide) rfl lt95 (Nat.le_of_ble_eq_true rfl) kk) ?_
    refine Sx.up (fun _ kk => r_if_eq 10 14 dX12_readLine_7 rfl (by decide) (fun _ => kk) (fun h7 => absurd (bI_f n_bed) h7)) ?_
    refine Sx.up (fun _ kk => r_aload_n 15 dX12_readLine_14 rfl rfl kk) ?_
    refine Sx.up (fun _ kk => r_ldcwS (i := 32) 18 dX12_readLine_15 rfl rfl kk) ?_
    refine Sx.up (fun _ kk => r_callV 21 dX12_readLine_18 rfl k12_222 (md_is (d := d + 41) (i := 32) (q := ("SpoonRowModel", 281, "night", w_night)) y1 rfl) rfl rfl rfl (by decide) rfl lt95 (Nat.le_of_ble_eq_true rfl) kk) ?_
    refine Sx.up (fun _ kk => r_if_eq 24 28 dX12_readLine_21 rfl (by decide) (fun _ => kk) (fun h21 => absurd (bI_f n_night) h21)) ?_
    refine Sx.up (fun _ kk => r_aload_n 29 dX12_readLine_28 rfl rfl kk) ?_
    refine Sx.up (fun _ kk => r_ldcwS (i := 33) 32 dX12_readLine_29 rfl rfl kk) ?_
    refine Sx.up (fun _ kk => r_callV 35 dX12_readLine_32 rfl k12_222 (md_is (d := d + 41) (i := 33) (q := ("SpoonRowModel", 283, "awake", w_awake)) y1 rfl) rfl rfl rfl (by decide) rfl lt95 (Nat.le_of_ble_eq_true rfl) kk) ?_
    refine Sx.up (fun _ kk => r_if_eq 38 42 dX12_readLine_35 rfl (by decide) (fun _ => kk) (fun h35 => absurd (bI_f n_awake) h35)) ?_
    refine Sx.up (fun _ kk => r_aload_n 43 dX12_readLine_42 rfl rfl kk) ?_
    refine Sx.up (fun _ kk => r_ldcwS (i := 34) 46 dX12_readLine_43 rfl rfl kk) ?_
    refine Sx.up (fun _ kk => r_callV 49 dX12_readLine_46 rfl k12_222 (md_is (d := d + 41) (i := 34) (q := ("SpoonRowModel", 285, "wakes", w_wakes)) y1 rfl) rfl rfl rfl (by decide) rfl lt95 (Nat.le_of_ble_eq_true rfl) kk) ?_
    refine Sx.up (fun _ kk => r_if_eq 52 57 dX12_readLine_49 rfl (by decide) (fun _ => kk) (fun h49 => absurd (bI_f n_wakes) h49)) ?_
    refine Sx.up (fun _ kk => r_iconst (0) 58 dX12_readLine_57 rfl (by decide) kk) ?_
    refine Sx.up (fun _ kk => r_istore_n 59 dX12_readLine_58 rfl (by decide) rfl kk) ?_
    refine Sx.up (fun _ kk => r_aload_n 60 dX12_readLine_59 rfl rfl kk) ?_
    refine Sx.up (fun _ kk => r_ldcwS (i := 35) 63 dX12_readLine_60 rfl rfl kk) ?_
    refine Sx.up (fun _ kk => r_callV 66 dX12_readLine_63 rfl k12_222 (md_is (d := d + 41) (i := 35) (q := ("SpoonRowModel", 287, "dog", w_dog)) y1 rfl) rfl rfl rfl (by decide) rfl lt95 (Nat.le_of_ble_eq_true rfl) kk) ?_
    refine Sx.up (fun _ kk => r_if_eq 69 73 dX12_readLine_66 rfl (by decide) (fun _ => kk) (fun h66 => absurd (bI_f n_dog) h66)) ?_
    refine Sx.up (fun _ kk => r_aload_n 74 dX12_readLine_73 rfl rfl kk) ?_
    refine Sx.up (fun _ kk => r_aload_n 75 dX12_readLine_74 rfl rfl kk) ?_
    refine Sx.up (fun _ kk => r_getR 78 dX12_readLine_75 rfl f12_17 rfl rfl lt95 (mo_0 (md_M y1)) kk) ?_
    refine Sx.up (fun _ kk => r_callV 81 dX12_readLine_78 rfl k12_245 hwh rfl rfl rfl (by decide) rfl lt95 (Nat.le_of_ble_eq_true rfl) kk) ?_
    refine Sx.up (fun _ kk => r_istore_n 82 dX12_readLine_81 rfl (by decide) rfl kk) ?_
    refine Sx.up (fun _ kk => r_iload_n 83 dX12_readLine_82 rfl rfl kk) ?_
    refine Sx.up (fun _ kk => r_iload_n 84 dX12_readLine_83 rfl rfl kk) ?_
    refine Sx.up (fun _ kk => r_iand 85 dX12_readLine_84 rfl kk) ?_
    refine Sx.up (fun _ kk => r_if_eq 88 93 dX12_readLine_85 rfl (by decide) (fun _ => kk) (fun h85 => absurd (Int32.zero_and) h85)) ?_
    refine Sx.up (fun _ kk => r_iload_n 94 dX12_readLine_93 rfl rfl kk) ?_
    refine Sx.up (fun _ kk => r_if_le 97 197 dX12_readLine_94 rfl (by decide) (fun _ => kk) (fun h94 => absurd (by decide) h94)) ?_
    refine Sx.up (fun _ kk => r_iload_n 198 dX12_readLine_197 rfl rfl kk) ?_
    refine Sx.up (fun _ kk => r_iconst (-1) 199 dX12_readLine_198 rfl (by decide) kk) ?_
    refine Sx.up (fun _ kk => r_icmp_eq 202 210 dX12_readLine_199 rfl (by decide) (fun h199 => absurd h199 (by decide)) (fun _ => kk)) ?_
    refine Sx.up (fun _ kk => r_aload_n 203 dX12_readLine_202 rfl rfl kk) ?_
    refine Sx.up (fun _ kk => r_iload_n 204 dX12_readLine_203 rfl rfl kk) ?_
    refine Sx.up (fun _ kk => r_callV 207 dX12_readLine_204 rfl k12_289 hcl2 rfl rfl rfl (by decide) rfl lt95 (Nat.le_of_ble_eq_true rfl) kk) ?_
    refine Sx.up (fun _ kk => r_goto 253 dX12_readLine_207 (by decide) kk) ?_
    exact k253 0 E2 _ _ y2 hln (by rw [show bX B 5 ||| 0 = bX B 5 from Int32.or_zero]; exact x5_pe hx5)
  by_cases n_snorer : wdS T w_snorer (.inr (a, B)) = true
  · have n_sleeper : ¬ wdS T w_sleeper (.inr (a, B)) = true := wd_no n_snorer (by decide)
    have n_child : ¬ wdS T w_child (.inr (a, B)) = true := wd_no n_snorer (by decide)
    have n_dog : ¬ wdS T w_dog (.inr (a, B)) = true := wd_no n_snorer (by decide)
    have n_bolster : ¬ wdS T w_bolster (.inr (a, B)) = true := wd_no n_snorer (by decide)
    have n_never : ¬ wdS T w_never (.inr (a, B)) = true := wd_no n_snorer (by decide)
    have n_wakes : ¬ wdS T w_wakes (.inr (a, B)) = true := wd_no n_snorer (by decide)
    have n_bed : ¬ wdS T w_bed (.inr (a, B)) = true := wd_no n_snorer (by decide)
    have n_night : ¬ wdS T w_night (.inr (a, B)) = true := wd_no n_snorer (by decide)
    have n_awake : ¬ wdS T w_awake (.inr (a, B)) = true := wd_no n_snorer (by decide)
    have hwk : whF T (.inr (a, B)) w_kinds 0 = nI 2 := by unfold w_kinds; unfold whF; rw [if_neg n_sleeper]; unfold whF; rw [if_neg n_child]; unfold whF; rw [if_pos n_snorer]
    rw [hwk] at hwh
    have hln : lineS T (.inr (a, B)) = peS T 2 (.inr (a, B)) := by unfold lineS; rw [if_neg n_sleeper, if_neg n_child, if_pos n_snorer]
    have hsl := md_sleep (d := d + 42) (kd := 2) y1 (by first | exact Or.inl rfl | exact Or.inr (by decide))
    rw [if_neg (by decide)] at hsl
    obtain ⟨_, ⟨E2, rfl, y2⟩, hcl2⟩ := hsl
    refine Sx.up (fun _ kk => r_aload_n 1 dX12_readLine_0 rfl rfl kk) ?_
    refine Sx.up (fun _ kk => r_ldcwS (i := 31) 4 dX12_readLine_1 rfl rfl kk) ?_
    refine Sx.up (fun _ kk => r_callV 7 dX12_readLine_4 rfl k12_222 (md_is (d := d + 41) (i := 31) (q := ("SpoonRowModel", 279, "bed", w_bed)) y1 rfl) rfl rfl rfl (by decide) rfl lt95 (Nat.le_of_ble_eq_true rfl) kk) ?_
    refine Sx.up (fun _ kk => r_if_eq 10 14 dX12_readLine_7 rfl (by decide) (fun _ => kk) (fun h7 => absurd (bI_f n_bed) h7)) ?_
    refine Sx.up (fun _ kk => r_aload_n 15 dX12_readLine_14 rfl rfl kk) ?_
    refine Sx.up (fun _ kk => r_ldcwS (i := 32) 18 dX12_readLine_15 rfl rfl kk) ?_
    refine Sx.up (fun _ kk => r_callV 21 dX12_readLine_18 rfl k12_222 (md_is (d := d + 41) (i := 32) (q := ("SpoonRowModel", 281, "night", w_night)) y1 rfl) rfl rfl rfl (by decide) rfl lt95 (Nat.le_of_ble_eq_true rfl) kk) ?_
    refine Sx.up (fun _ kk => r_if_eq 24 28 dX12_readLine_21 rfl (by decide) (fun _ => kk) (fun h21 => absurd (bI_f n_night) h21)) ?_
    refine Sx.up (fun _ kk => r_aload_n 29 dX12_readLine_28 rfl rfl kk) ?_
    refine Sx.up (fun _ kk => r_ldcwS (i := 33) 32 dX12_readLine_29 rfl rfl kk) ?_
    refine Sx.up (fun _ kk => r_callV 35 dX12_readLine_32 rfl k12_222 (md_is (d := d + 41) (i := 33) (q := ("SpoonRowModel", 283, "awake", w_awake)) y1 rfl) rfl rfl rfl (by decide) rfl lt95 (Nat.le_of_ble_eq_true rfl) kk) ?_
    refine Sx.up (fun _ kk => r_if_eq 38 42 dX12_readLine_35 rfl (by decide) (fun _ => kk) (fun h35 => absurd (bI_f n_awake) h35)) ?_
    refine Sx.up (fun _ kk => r_aload_n 43 dX12_readLine_42 rfl rfl kk) ?_
    refine Sx.up (fun _ kk => r_ldcwS (i := 34) 46 dX12_readLine_43 rfl rfl kk) ?_
    refine Sx.up (fun _ kk => r_callV 49 dX12_readLine_46 rfl k12_222 (md_is (d := d + 41) (i := 34) (q := ("SpoonRowModel", 285, "wakes", w_wakes)) y1 rfl) rfl rfl rfl (by decide) rfl lt95 (Nat.le_of_ble_eq_true rfl) kk) ?_
    refine Sx.up (fun _ kk => r_if_eq 52 57 dX12_readLine_49 rfl (by decide) (fun _ => kk) (fun h49 => absurd (bI_f n_wakes) h49)) ?_
    refine Sx.up (fun _ kk => r_iconst (0) 58 dX12_readLine_57 rfl (by decide) kk) ?_
    refine Sx.up (fun _ kk => r_istore_n 59 dX12_readLine_58 rfl (by decide) rfl kk) ?_
    refine Sx.up (fun _ kk => r_aload_n 60 dX12_readLine_59 rfl rfl kk) ?_
    refine Sx.up (fun _ kk => r_ldcwS (i := 35) 63 dX12_readLine_60 rfl rfl kk) ?_
    refine Sx.up (fun _ kk => r_callV 66 dX12_readLine_63 rfl k12_222 (md_is (d := d + 41) (i := 35) (q := ("SpoonRowModel", 287, "dog", w_dog)) y1 rfl) rfl rfl rfl (by decide) rfl lt95 (Nat.le_of_ble_eq_true rfl) kk) ?_
    refine Sx.up (fun _ kk => r_if_eq 69 73 dX12_readLine_66 rfl (by decide) (fun _ => kk) (fun h66 => absurd (bI_f n_dog) h66)) ?_
    refine Sx.up (fun _ kk => r_aload_n 74 dX12_readLine_73 rfl rfl kk) ?_
    refine Sx.up (fun _ kk => r_aload_n 75 dX12_readLine_74 rfl rfl kk) ?_
    refine Sx.up (fun _ kk => r_getR 78 dX12_readLine_75 rfl f12_17 rfl rfl lt95 (mo_0 (md_M y1)) kk) ?_
    refine Sx.up (fun _ kk => r_callV 81 dX12_readLine_78 rfl k12_245 hwh rfl rfl rfl (by decide) rfl lt95 (Nat.le_of_ble_eq_true rfl) kk) ?_
    refine Sx.up (fun _ kk => r_istore_n 82 dX12_readLine_81 rfl (by decide) rfl kk) ?_
    refine Sx.up (fun _ kk => r_iload_n 83 dX12_readLine_82 rfl rfl kk) ?_
    refine Sx.up (fun _ kk => r_iload_n 84 dX12_readLine_83 rfl rfl kk) ?_
    refine Sx.up (fun _ kk => r_iand 85 dX12_readLine_84 rfl kk) ?_
    refine Sx.up (fun _ kk => r_if_eq 88 93 dX12_readLine_85 rfl (by decide) (fun _ => kk) (fun h85 => absurd (Int32.zero_and) h85)) ?_
    refine Sx.up (fun _ kk => r_iload_n 94 dX12_readLine_93 rfl rfl kk) ?_
    refine Sx.up (fun _ kk => r_if_le 97 197 dX12_readLine_94 rfl (by decide) (fun _ => kk) (fun h94 => absurd (by decide) h94)) ?_
    refine Sx.up (fun _ kk => r_iload_n 198 dX12_readLine_197 rfl rfl kk) ?_
    refine Sx.up (fun _ kk => r_iconst (-1) 199 dX12_readLine_198 rfl (by decide) kk) ?_
    refine Sx.up (fun _ kk => r_icmp_eq 202 210 dX12_readLine_199 rfl (by decide) (fun h199 => absurd h199 (by decide)) (fun _ => kk)) ?_
    refine Sx.up (fun _ kk => r_aload_n 203 dX12_readLine_202 rfl rfl kk) ?_
    refine Sx.up (fun _ kk => r_iload_n 204 dX12_readLine_203 rfl rfl kk) ?_
    refine Sx.up (fun _ kk => r_callV 207 dX12_readLine_204 rfl k12_289 hcl2 rfl rfl rfl (by decide) rfl lt95 (Nat.le_of_ble_eq_true rfl) kk) ?_
    refine Sx.up (fun _ kk => r_goto 253 dX12_readLine_207 (by decide) kk) ?_
    exact k253 0 E2 _ _ y2 hln (by rw [show bX B 5 ||| 0 = bX B 5 from Int32.or_zero]; exact x5_pe hx5)
  by_cases n_dog : wdS T w_dog (.inr (a, B)) = true
  · have n_sleeper : ¬ wdS T w_sleeper (.inr (a, B)) = true := wd_no n_dog (by decide)
    have n_child : ¬ wdS T w_child (.inr (a, B)) = true := wd_no n_dog (by decide)
    have n_snorer : ¬ wdS T w_snorer (.inr (a, B)) = true := wd_no n_dog (by decide)
    have n_bolster : ¬ wdS T w_bolster (.inr (a, B)) = true := wd_no n_dog (by decide)
    have n_never : ¬ wdS T w_never (.inr (a, B)) = true := wd_no n_dog (by decide)
    have n_wakes : ¬ wdS T w_wakes (.inr (a, B)) = true := wd_no n_dog (by decide)
    have n_bed : ¬ wdS T w_bed (.inr (a, B)) = true := wd_no n_dog (by decide)
    have n_night : ¬ wdS T w_night (.inr (a, B)) = true := wd_no n_dog (by decide)
    have n_awake : ¬ wdS T w_awake (.inr (a, B)) = true := wd_no n_dog (by decide)
    have hwk : whF T (.inr (a, B)) w_kinds 0 = -1 := by unfold w_kinds; unfold whF; rw [if_neg n_sleeper]; unfold whF; rw [if_neg n_child]; unfold whF; rw [if_neg n_snorer]; rfl
    rw [hwk] at hwh
    have hln : lineS T (.inr (a, B)) = dgS T (.inr (a, B)) := by unfold lineS; rw [if_neg n_sleeper, if_neg n_child, if_neg n_snorer, if_pos n_dog]
    have hsl := md_sleep (d := d + 42) (kd := 3) y1 (by first | exact Or.inl rfl | exact Or.inr (by decide))
    rw [if_pos rfl] at hsl
    obtain ⟨_, ⟨E2, rfl, y2⟩, hcl2⟩ := hsl
    refine Sx.up (fun _ kk => r_aload_n 1 dX12_readLine_0 rfl rfl kk) ?_
    refine Sx.up (fun _ kk => r_ldcwS (i := 31) 4 dX12_readLine_1 rfl rfl kk) ?_
    refine Sx.up (fun _ kk => r_callV 7 dX12_readLine_4 rfl k12_222 (md_is (d := d + 41) (i := 31) (q := ("SpoonRowModel", 279, "bed", w_bed)) y1 rfl) rfl rfl rfl (by decide) rfl lt95 (Nat.le_of_ble_eq_true rfl) kk) ?_
    refine Sx.up (fun _ kk => r_if_eq 10 14 dX12_readLine_7 rfl (by decide) (fun _ => kk) (fun h7 => absurd (bI_f n_bed) h7)) ?_
    refine Sx.up (fun _ kk => r_aload_n 15 dX12_readLine_14 rfl rfl kk) ?_
    refine Sx.up (fun _ kk => r_ldcwS (i := 32) 18 dX12_readLine_15 rfl rfl kk) ?_
    refine Sx.up (fun _ kk => r_callV 21 dX12_readLine_18 rfl k12_222 (md_is (d := d + 41) (i := 32) (q := ("SpoonRowModel", 281, "night", w_night)) y1 rfl) rfl rfl rfl (by decide) rfl lt95 (Nat.le_of_ble_eq_true rfl) kk) ?_
    refine Sx.up (fun _ kk => r_if_eq 24 28 dX12_readLine_21 rfl (by decide) (fun _ => kk) (fun h21 => absurd (bI_f n_night) h21)) ?_
    refine Sx.up (fun _ kk => r_aload_n 29 dX12_readLine_28 rfl rfl kk) ?_
    refine Sx.up (fun _ kk => r_ldcwS (i := 33) 32 dX12_readLine_29 rfl rfl kk) ?_
    refine Sx.up (fun _ kk => r_callV 35 dX12_readLine_32 rfl k12_222 (md_is (d := d + 41) (i := 33) (q := ("SpoonRowModel", 283, "awake", w_awake)) y1 rfl) rfl rfl rfl (by decide) rfl lt95 (Nat.le_of_ble_eq_true rfl) kk) ?_
    refine Sx.up (fun _ kk => r_if_eq 38 42 dX12_readLine_35 rfl (by decide) (fun _ => kk) (fun h35 => absurd (bI_f n_awake) h35)) ?_
    refine Sx.up (fun _ kk => r_aload_n 43 dX12_readLine_42 rfl rfl kk) ?_
    refine Sx.up (fun _ kk => r_ldcwS (i := 34) 46 dX12_readLine_43 rfl rfl kk) ?_
    refine Sx.up (fun _ kk => r_callV 49 dX12_readLine_46 rfl k12_222 (md_is (d := d + 41) (i := 34) (q := ("SpoonRowModel", 285, "wakes", w_wakes)) y1 rfl) rfl rfl rfl (by decide) rfl lt95 (Nat.le_of_ble_eq_true rfl) kk) ?_
    refine Sx.up (fun _ kk => r_if_eq 52 57 dX12_readLine_49 rfl (by decide) (fun _ => kk) (fun h49 => absurd (bI_f n_wakes) h49)) ?_
    refine Sx.up (fun _ kk => r_iconst (0) 58 dX12_readLine_57 rfl (by decide) kk) ?_
    refine Sx.up (fun _ kk => r_istore_n 59 dX12_readLine_58 rfl (by decide) rfl kk) ?_
    refine Sx.up (fun _ kk => r_aload_n 60 dX12_readLine_59 rfl rfl kk) ?_
    refine Sx.up (fun _ kk => r_ldcwS (i := 35) 63 dX12_readLine_60 rfl rfl kk) ?_
    refine Sx.up (fun _ kk => r_callV 66 dX12_readLine_63 rfl k12_222 (md_is (d := d + 41) (i := 35) (q := ("SpoonRowModel", 287, "dog", w_dog)) y1 rfl) rfl rfl rfl (by decide) rfl lt95 (Nat.le_of_ble_eq_true rfl) kk) ?_
    refine Sx.up (fun _ kk => r_if_eq 69 73 dX12_readLine_66 rfl (by decide) (fun h66 => absurd h66 (by rw [bI_t n_dog]; decide)) (fun _ => kk)) ?_
    refine Sx.up (fun _ kk => r_iconst (3) 70 dX12_readLine_69 rfl (by decide) kk) ?_
    refine Sx.up (fun _ kk => r_goto 81 dX12_readLine_70 (by decide) kk) ?_
    refine Sx.up (fun _ kk => r_istore_n 82 dX12_readLine_81 rfl (by decide) rfl kk) ?_
    refine Sx.up (fun _ kk => r_iload_n 83 dX12_readLine_82 rfl rfl kk) ?_
    refine Sx.up (fun _ kk => r_iload_n 84 dX12_readLine_83 rfl rfl kk) ?_
    refine Sx.up (fun _ kk => r_iand 85 dX12_readLine_84 rfl kk) ?_
    refine Sx.up (fun _ kk => r_if_eq 88 93 dX12_readLine_85 rfl (by decide) (fun _ => kk) (fun h85 => absurd (Int32.zero_and) h85)) ?_
    refine Sx.up (fun _ kk => r_iload_n 94 dX12_readLine_93 rfl rfl kk) ?_
    refine Sx.up (fun _ kk => r_if_le 97 197 dX12_readLine_94 rfl (by decide) (fun _ => kk) (fun h94 => absurd (by decide) h94)) ?_
    refine Sx.up (fun _ kk => r_iload_n 198 dX12_readLine_197 rfl rfl kk) ?_
    refine Sx.up (fun _ kk => r_iconst (-1) 199 dX12_readLine_198 rfl (by decide) kk) ?_
    refine Sx.up (fun _ kk => r_icmp_eq 202 210 dX12_readLine_199 rfl (by decide) (fun h199 => absurd h199 (by decide)) (fun _ => kk)) ?_
    refine Sx.up (fun _ kk => r_aload_n 203 dX12_readLine_202 rfl rfl kk) ?_
    refine Sx.up (fun _ kk => r_iload_n 204 dX12_readLine_203 rfl rfl kk) ?_
    refine Sx.up (fun _ kk => r_callV 207 dX12_readLine_204 rfl k12_289 hcl2 rfl rfl rfl (by decide) rfl lt95 (Nat.le_of_ble_eq_true rfl) kk) ?_
    refine Sx.up (fun _ kk => r_goto 253 dX12_readLine_207 (by decide) kk) ?_
    exact k253 0 E2 _ _ y2 hln (by rw [show bX B 5 ||| 0 = bX B 5 from Int32.or_zero]; exact x5_dg hx5)
  by_cases n_bolster : wdS T w_bolster (.inr (a, B)) = true
  · have n_sleeper : ¬ wdS T w_sleeper (.inr (a, B)) = true := wd_no n_bolster (by decide)
    have n_child : ¬ wdS T w_child (.inr (a, B)) = true := wd_no n_bolster (by decide)
    have n_snorer : ¬ wdS T w_snorer (.inr (a, B)) = true := wd_no n_bolster (by decide)
    have n_dog : ¬ wdS T w_dog (.inr (a, B)) = true := wd_no n_bolster (by decide)
    have n_never : ¬ wdS T w_never (.inr (a, B)) = true := wd_no n_bolster (by decide)
    have n_wakes : ¬ wdS T w_wakes (.inr (a, B)) = true := wd_no n_bolster (by decide)
    have n_bed : ¬ wdS T w_bed (.inr (a, B)) = true := wd_no n_bolster (by decide)
    have n_night : ¬ wdS T w_night (.inr (a, B)) = true := wd_no n_bolster (by decide)
    have n_awake : ¬ wdS T w_awake (.inr (a, B)) = true := wd_no n_bolster (by decide)
    have hwk : whF T (.inr (a, B)) w_kinds 0 = -1 := by unfold w_kinds; unfold whF; rw [if_neg n_sleeper]; unfold whF; rw [if_neg n_child]; unfold whF; rw [if_neg n_snorer]; rfl
    rw [hwk] at hwh
    have hln : lineS T (.inr (a, B)) = boS T (.inr (a, B)) := by unfold lineS; rw [if_neg n_sleeper, if_neg n_child, if_neg n_snorer, if_neg n_dog, if_pos n_bolster]
    obtain ⟨_, ⟨E2, rfl, y2⟩, hcl2⟩ := md_bol (d := d + 43) y1
    refine Sx.up (fun _ kk => r_aload_n 1 dX12_readLine_0 rfl rfl kk) ?_
    refine Sx.up (fun _ kk => r_ldcwS (i := 31) 4 dX12_readLine_1 rfl rfl kk) ?_
    refine Sx.up (fun _ kk => r_callV 7 dX12_readLine_4 rfl k12_222 (md_is (d := d + 41) (i := 31) (q := ("SpoonRowModel", 279, "bed", w_bed)) y1 rfl) rfl rfl rfl (by decide) rfl lt95 (Nat.le_of_ble_eq_true rfl) kk) ?_
    refine Sx.up (fun _ kk => r_if_eq 10 14 dX12_readLine_7 rfl (by decide) (fun _ => kk) (fun h7 => absurd (bI_f n_bed) h7)) ?_
    refine Sx.up (fun _ kk => r_aload_n 15 dX12_readLine_14 rfl rfl kk) ?_
    refine Sx.up (fun _ kk => r_ldcwS (i := 32) 18 dX12_readLine_15 rfl rfl kk) ?_
    refine Sx.up (fun _ kk => r_callV 21 dX12_readLine_18 rfl k12_222 (md_is (d := d + 41) (i := 32) (q := ("SpoonRowModel", 281, "night", w_night)) y1 rfl) rfl rfl rfl (by decide) rfl lt95 (Nat.le_of_ble_eq_true rfl) kk) ?_
    refine Sx.up (fun _ kk => r_if_eq 24 28 dX12_readLine_21 rfl (by decide) (fun _ => kk) (fun h21 => absurd (bI_f n_night) h21)) ?_
    refine Sx.up (fun _ kk => r_aload_n 29 dX12_readLine_28 rfl rfl kk) ?_
    refine Sx.up (fun _ kk => r_ldcwS (i := 33) 32 dX12_readLine_29 rfl rfl kk) ?_
    refine Sx.up (fun _ kk => r_callV 35 dX12_readLine_32 rfl k12_222 (md_is (d := d + 41) (i := 33) (q := ("SpoonRowModel", 283, "awake", w_awake)) y1 rfl) rfl rfl rfl (by decide) rfl lt95 (Nat.le_of_ble_eq_true rfl) kk) ?_
    refine Sx.up (fun _ kk => r_if_eq 38 42 dX12_readLine_35 rfl (by decide) (fun _ => kk) (fun h35 => absurd (bI_f n_awake) h35)) ?_
    refine Sx.up (fun _ kk => r_aload_n 43 dX12_readLine_42 rfl rfl kk) ?_
    refine Sx.up (fun _ kk => r_ldcwS (i := 34) 46 dX12_readLine_43 rfl rfl kk) ?_
    refine Sx.up (fun _ kk => r_callV 49 dX12_readLine_46 rfl k12_222 (md_is (d := d + 41) (i := 34) (q := ("SpoonRowModel", 285, "wakes", w_wakes)) y1 rfl) rfl rfl rfl (by decide) rfl lt95 (Nat.le_of_ble_eq_true rfl) kk) ?_
    refine Sx.up (fun _ kk => r_if_eq 52 57 dX12_readLine_49 rfl (by decide) (fun _ => kk) (fun h49 => absurd (bI_f n_wakes) h49)) ?_
    refine Sx.up (fun _ kk => r_iconst (0) 58 dX12_readLine_57 rfl (by decide) kk) ?_
    refine Sx.up (fun _ kk => r_istore_n 59 dX12_readLine_58 rfl (by decide) rfl kk) ?_
    refine Sx.up (fun _ kk => r_aload_n 60 dX12_readLine_59 rfl rfl kk) ?_
    refine Sx.up (fun _ kk => r_ldcwS (i := 35) 63 dX12_readLine_60 rfl rfl kk) ?_
    refine Sx.up (fun _ kk => r_callV 66 dX12_readLine_63 rfl k12_222 (md_is (d := d + 41) (i := 35) (q := ("SpoonRowModel", 287, "dog", w_dog)) y1 rfl) rfl rfl rfl (by decide) rfl lt95 (Nat.le_of_ble_eq_true rfl) kk) ?_
    refine Sx.up (fun _ kk => r_if_eq 69 73 dX12_readLine_66 rfl (by decide) (fun _ => kk) (fun h66 => absurd (bI_f n_dog) h66)) ?_
    refine Sx.up (fun _ kk => r_aload_n 74 dX12_readLine_73 rfl rfl kk) ?_
    refine Sx.up (fun _ kk => r_aload_n 75 dX12_readLine_74 rfl rfl kk) ?_
    refine Sx.up (fun _ kk => r_getR 78 dX12_readLine_75 rfl f12_17 rfl rfl lt95 (mo_0 (md_M y1)) kk) ?_
    refine Sx.up (fun _ kk => r_callV 81 dX12_readLine_78 rfl k12_245 hwh rfl rfl rfl (by decide) rfl lt95 (Nat.le_of_ble_eq_true rfl) kk) ?_
    refine Sx.up (fun _ kk => r_istore_n 82 dX12_readLine_81 rfl (by decide) rfl kk) ?_
    refine Sx.up (fun _ kk => r_iload_n 83 dX12_readLine_82 rfl rfl kk) ?_
    refine Sx.up (fun _ kk => r_iload_n 84 dX12_readLine_83 rfl rfl kk) ?_
    refine Sx.up (fun _ kk => r_iand 85 dX12_readLine_84 rfl kk) ?_
    refine Sx.up (fun _ kk => r_if_eq 88 93 dX12_readLine_85 rfl (by decide) (fun _ => kk) (fun h85 => absurd (Int32.zero_and) h85)) ?_
    refine Sx.up (fun _ kk => r_iload_n 94 dX12_readLine_93 rfl rfl kk) ?_
    refine Sx.up (fun _ kk => r_if_le 97 197 dX12_readLine_94 rfl (by decide) (fun _ => kk) (fun h94 => absurd (by decide) h94)) ?_
    refine Sx.up (fun _ kk => r_iload_n 198 dX12_readLine_197 rfl rfl kk) ?_
    refine Sx.up (fun _ kk => r_iconst (-1) 199 dX12_readLine_198 rfl (by decide) kk) ?_
    refine Sx.up (fun _ kk => r_icmp_eq 202 210 dX12_readLine_199 rfl (by decide) (fun _ => kk) (fun h199 => absurd rfl h199)) ?_
    refine Sx.up (fun _ kk => r_aload_n 211 dX12_readLine_210 rfl rfl kk) ?_
    refine Sx.up (fun _ kk => r_ldcwS (i := 39) 214 dX12_readLine_211 rfl rfl kk) ?_
    refine Sx.up (fun _ kk => r_callV 217 dX12_readLine_214 rfl k12_222 (md_is (d := d + 41) (i := 39) (q := ("SpoonRowModel", 292, "bolster", w_bolster)) y1 rfl) rfl rfl rfl (by decide) rfl lt95 (Nat.le_of_ble_eq_true rfl) kk) ?_
    refine Sx.up (fun _ kk => r_if_eq 220 227 dX12_readLine_217 rfl (by decide) (fun h217 => absurd h217 (by rw [bI_t n_bolster]; decide)) (fun _ => kk)) ?_
    refine Sx.up (fun _ kk => r_aload_n 221 dX12_readLine_220 rfl rfl kk) ?_
    refine Sx.up (fun _ kk => r_callV 224 dX12_readLine_221 rfl k12_294 hcl2 rfl rfl rfl (by decide) rfl lt95 (Nat.le_of_ble_eq_true rfl) kk) ?_
    refine Sx.up (fun _ kk => r_goto 253 dX12_readLine_224 (by decide) kk) ?_
    exact k253 0 E2 _ _ y2 hln (by rw [show bX B 5 ||| 0 = bX B 5 from Int32.or_zero]; exact x5_bo hx5)
  by_cases n_never : wdS T w_never (.inr (a, B)) = true
  · have n_sleeper : ¬ wdS T w_sleeper (.inr (a, B)) = true := wd_no n_never (by decide)
    have n_child : ¬ wdS T w_child (.inr (a, B)) = true := wd_no n_never (by decide)
    have n_snorer : ¬ wdS T w_snorer (.inr (a, B)) = true := wd_no n_never (by decide)
    have n_dog : ¬ wdS T w_dog (.inr (a, B)) = true := wd_no n_never (by decide)
    have n_bolster : ¬ wdS T w_bolster (.inr (a, B)) = true := wd_no n_never (by decide)
    have n_wakes : ¬ wdS T w_wakes (.inr (a, B)) = true := wd_no n_never (by decide)
    have n_bed : ¬ wdS T w_bed (.inr (a, B)) = true := wd_no n_never (by decide)
    have n_night : ¬ wdS T w_night (.inr (a, B)) = true := wd_no n_never (by decide)
    have n_awake : ¬ wdS T w_awake (.inr (a, B)) = true := wd_no n_never (by decide)
    have hwk : whF T (.inr (a, B)) w_kinds 0 = -1 := by unfold w_kinds; unfold whF; rw [if_neg n_sleeper]; unfold whF; rw [if_neg n_child]; unfold whF; rw [if_neg n_snorer]; rfl
    rw [hwk] at hwh
    have hln : lineS T (.inr (a, B)) = neS T (.inr (a, B)) := by unfold lineS; rw [if_neg n_sleeper, if_neg n_child, if_neg n_snorer, if_neg n_dog, if_neg n_bolster, if_pos n_never]
    obtain ⟨_, ⟨E2, rfl, y2⟩, hcl2⟩ := md_nev (d := d + 42) y1
    refine Sx.up (fun _ kk => r_aload_n 1 dX12_readLine_0 rfl rfl kk) ?_
    refine Sx.up (fun _ kk => r_ldcwS (i := 31) 4 dX12_readLine_1 rfl rfl kk) ?_
    refine Sx.up (fun _ kk => r_callV 7 dX12_readLine_4 rfl k12_222 (md_is (d := d + 41) (i := 31) (q := ("SpoonRowModel", 279, "bed", w_bed)) y1 rfl) rfl rfl rfl (by decide) rfl lt95 (Nat.le_of_ble_eq_true rfl) kk) ?_
    refine Sx.up (fun _ kk => r_if_eq 10 14 dX12_readLine_7 rfl (by decide) (fun _ => kk) (fun h7 => absurd (bI_f n_bed) h7)) ?_
    refine Sx.up (fun _ kk => r_aload_n 15 dX12_readLine_14 rfl rfl kk) ?_
    refine Sx.up (fun _ kk => r_ldcwS (i := 32) 18 dX12_readLine_15 rfl rfl kk) ?_
    refine Sx.up (fun _ kk => r_callV 21 dX12_readLine_18 rfl k12_222 (md_is (d := d + 41) (i := 32) (q := ("SpoonRowModel", 281, "night", w_night)) y1 rfl) rfl rfl rfl (by decide) rfl lt95 (Nat.le_of_ble_eq_true rfl) kk) ?_
    refine Sx.up (fun _ kk => r_if_eq 24 28 dX12_readLine_21 rfl (by decide) (fun _ => kk) (fun h21 => absurd (bI_f n_night) h21)) ?_
    refine Sx.up (fun _ kk => r_aload_n 29 dX12_readLine_28 rfl rfl kk) ?_
    refine Sx.up (fun _ kk => r_ldcwS (i := 33) 32 dX12_readLine_29 rfl rfl kk) ?_
    refine Sx.up (fun _ kk => r_callV 35 dX12_readLine_32 rfl k12_222 (md_is (d := d + 41) (i := 33) (q := ("SpoonRowModel", 283, "awake", w_awake)) y1 rfl) rfl rfl rfl (by decide) rfl lt95 (Nat.le_of_ble_eq_true rfl) kk) ?_
    refine Sx.up (fun _ kk => r_if_eq 38 42 dX12_readLine_35 rfl (by decide) (fun _ => kk) (fun h35 => absurd (bI_f n_awake) h35)) ?_
    refine Sx.up (fun _ kk => r_aload_n 43 dX12_readLine_42 rfl rfl kk) ?_
    refine Sx.up (fun _ kk => r_ldcwS (i := 34) 46 dX12_readLine_43 rfl rfl kk) ?_
    refine Sx.up (fun _ kk => r_callV 49 dX12_readLine_46 rfl k12_222 (md_is (d := d + 41) (i := 34) (q := ("SpoonRowModel", 285, "wakes", w_wakes)) y1 rfl) rfl rfl rfl (by decide) rfl lt95 (Nat.le_of_ble_eq_true rfl) kk) ?_
    refine Sx.up (fun _ kk => r_if_eq 52 57 dX12_readLine_49 rfl (by decide) (fun _ => kk) (fun h49 => absurd (bI_f n_wakes) h49)) ?_
    refine Sx.up (fun _ kk => r_iconst (0) 58 dX12_readLine_57 rfl (by decide) kk) ?_
    refine Sx.up (fun _ kk => r_istore_n 59 dX12_readLine_58 rfl (by decide) rfl kk) ?_
    refine Sx.up (fun _ kk => r_aload_n 60 dX12_readLine_59 rfl rfl kk) ?_
    refine Sx.up (fun _ kk => r_ldcwS (i := 35) 63 dX12_readLine_60 rfl rfl kk) ?_
    refine Sx.up (fun _ kk => r_callV 66 dX12_readLine_63 rfl k12_222 (md_is (d := d + 41) (i := 35) (q := ("SpoonRowModel", 287, "dog", w_dog)) y1 rfl) rfl rfl rfl (by decide) rfl lt95 (Nat.le_of_ble_eq_true rfl) kk) ?_
    refine Sx.up (fun _ kk => r_if_eq 69 73 dX12_readLine_66 rfl (by decide) (fun _ => kk) (fun h66 => absurd (bI_f n_dog) h66)) ?_
    refine Sx.up (fun _ kk => r_aload_n 74 dX12_readLine_73 rfl rfl kk) ?_
    refine Sx.up (fun _ kk => r_aload_n 75 dX12_readLine_74 rfl rfl kk) ?_
    refine Sx.up (fun _ kk => r_getR 78 dX12_readLine_75 rfl f12_17 rfl rfl lt95 (mo_0 (md_M y1)) kk) ?_
    refine Sx.up (fun _ kk => r_callV 81 dX12_readLine_78 rfl k12_245 hwh rfl rfl rfl (by decide) rfl lt95 (Nat.le_of_ble_eq_true rfl) kk) ?_
    refine Sx.up (fun _ kk => r_istore_n 82 dX12_readLine_81 rfl (by decide) rfl kk) ?_
    refine Sx.up (fun _ kk => r_iload_n 83 dX12_readLine_82 rfl rfl kk) ?_
    refine Sx.up (fun _ kk => r_iload_n 84 dX12_readLine_83 rfl rfl kk) ?_
    refine Sx.up (fun _ kk => r_iand 85 dX12_readLine_84 rfl kk) ?_
    refine Sx.up (fun _ kk => r_if_eq 88 93 dX12_readLine_85 rfl (by decide) (fun _ => kk) (fun h85 => absurd (Int32.zero_and) h85)) ?_
    refine Sx.up (fun _ kk => r_iload_n 94 dX12_readLine_93 rfl rfl kk) ?_
    refine Sx.up (fun _ kk => r_if_le 97 197 dX12_readLine_94 rfl (by decide) (fun _ => kk) (fun h94 => absurd (by decide) h94)) ?_
    refine Sx.up (fun _ kk => r_iload_n 198 dX12_readLine_197 rfl rfl kk) ?_
    refine Sx.up (fun _ kk => r_iconst (-1) 199 dX12_readLine_198 rfl (by decide) kk) ?_
    refine Sx.up (fun _ kk => r_icmp_eq 202 210 dX12_readLine_199 rfl (by decide) (fun _ => kk) (fun h199 => absurd rfl h199)) ?_
    refine Sx.up (fun _ kk => r_aload_n 211 dX12_readLine_210 rfl rfl kk) ?_
    refine Sx.up (fun _ kk => r_ldcwS (i := 39) 214 dX12_readLine_211 rfl rfl kk) ?_
    refine Sx.up (fun _ kk => r_callV 217 dX12_readLine_214 rfl k12_222 (md_is (d := d + 41) (i := 39) (q := ("SpoonRowModel", 292, "bolster", w_bolster)) y1 rfl) rfl rfl rfl (by decide) rfl lt95 (Nat.le_of_ble_eq_true rfl) kk) ?_
    refine Sx.up (fun _ kk => r_if_eq 220 227 dX12_readLine_217 rfl (by decide) (fun _ => kk) (fun h217 => absurd (bI_f n_bolster) h217)) ?_
    refine Sx.up (fun _ kk => r_aload_n 228 dX12_readLine_227 rfl rfl kk) ?_
    refine Sx.up (fun _ kk => r_ldcwS (i := 40) 231 dX12_readLine_228 rfl rfl kk) ?_
    refine Sx.up (fun _ kk => r_callV 234 dX12_readLine_231 rfl k12_222 (md_is (d := d + 41) (i := 40) (q := ("SpoonRowModel", 297, "never", w_never)) y1 rfl) rfl rfl rfl (by decide) rfl lt95 (Nat.le_of_ble_eq_true rfl) kk) ?_
    refine Sx.up (fun _ kk => r_if_ne 237 242 dX12_readLine_234 rfl (by decide) (fun _ => kk) (fun h234 => absurd h234 (by rw [bI_t n_never]; decide))) ?_
    refine Sx.up (fun _ kk => r_aload_n 243 dX12_readLine_242 rfl rfl kk) ?_
    refine Sx.up (fun _ kk => r_getI 246 dX12_readLine_243 rfl f12_208 rfl rfl lt95 kk) ?_
    refine Sx.up (fun _ kk => r_if_ne 249 253 dX12_readLine_246 rfl (by decide) (fun h246 => absurd h246 (fun z => z hb1)) (fun _ => kk)) ?_
    refine Sx.up (fun _ kk => r_aload_n 250 dX12_readLine_249 rfl rfl kk) ?_
    refine Sx.up (fun _ kk => r_callV 253 dX12_readLine_250 rfl k12_299 hcl2 rfl rfl rfl (by decide) rfl lt95 (Nat.le_of_ble_eq_true rfl) kk) ?_
    exact k253 0 E2 _ _ y2 hln (by rw [show bX B 5 ||| 0 = bX B 5 from Int32.or_zero]; exact x5_ne hx5)
  by_cases n_wakes : wdS T w_wakes (.inr (a, B)) = true
  · have n_sleeper : ¬ wdS T w_sleeper (.inr (a, B)) = true := wd_no n_wakes (by decide)
    have n_child : ¬ wdS T w_child (.inr (a, B)) = true := wd_no n_wakes (by decide)
    have n_snorer : ¬ wdS T w_snorer (.inr (a, B)) = true := wd_no n_wakes (by decide)
    have n_dog : ¬ wdS T w_dog (.inr (a, B)) = true := wd_no n_wakes (by decide)
    have n_bolster : ¬ wdS T w_bolster (.inr (a, B)) = true := wd_no n_wakes (by decide)
    have n_never : ¬ wdS T w_never (.inr (a, B)) = true := wd_no n_wakes (by decide)
    have n_bed : ¬ wdS T w_bed (.inr (a, B)) = true := wd_no n_wakes (by decide)
    have n_night : ¬ wdS T w_night (.inr (a, B)) = true := wd_no n_wakes (by decide)
    have n_awake : ¬ wdS T w_awake (.inr (a, B)) = true := wd_no n_wakes (by decide)
    have hwk : whF T (.inr (a, B)) w_kinds 0 = -1 := by unfold w_kinds; unfold whF; rw [if_neg n_sleeper]; unfold whF; rw [if_neg n_child]; unfold whF; rw [if_neg n_snorer]; rfl
    rw [hwk] at hwh
    have hln : lineS T (.inr (a, B)) = exprS T 6 (onS T 8 (.inr (a, B))) := by unfold lineS; rw [if_neg n_sleeper, if_neg n_child, if_neg n_snorer, if_neg n_dog, if_neg n_bolster, if_neg n_never, if_pos n_wakes]
    have k108 : ∀ E, CMd E0 E T (onS T 8 (.inr (a, B))) → Sx mX12_readLine (d + 46) 0 0 (fun o => ∃ E2 v, o = (.inl (some (.int v)), E2, 137) ∧ CMd E0 E2 T (liS T (.inr (a, B))) ∧ (∀ a2 B2, liS T (.inr (a, B)) = .inr (a2, B2) → v = bX B2 5)) 108 [some (.ref 95), some (.int (bX B 5)), some (.int 8), some (.int (-1))] [] E 137 := by
      intro E y1
      refine Sx.up (fun _ kk => r_iload_n 109 dX12_readLine_108 rfl rfl kk) ?_
      refine Sx.up (fun _ kk => r_iconst (1) 110 dX12_readLine_109 rfl (by decide) kk) ?_
      refine Sx.up (fun _ kk => r_icmp_ne 113 144 dX12_readLine_110 rfl (by decide) (fun _ => kk) (fun h110 => absurd h110 (by decide))) ?_
      refine Sx.up (fun _ kk => r_iload_n 145 dX12_readLine_144 rfl rfl kk) ?_
      refine Sx.up (fun _ kk => r_iconst (2) 146 dX12_readLine_145 rfl (by decide) kk) ?_
      refine Sx.up (fun _ kk => r_icmp_ne 149 167 dX12_readLine_146 rfl (by decide) (fun _ => kk) (fun h146 => absurd h146 (by decide))) ?_
      refine Sx.up (fun _ kk => r_iload_n 168 dX12_readLine_167 rfl rfl kk) ?_
      refine Sx.up (fun _ kk => r_iconst (4) 169 dX12_readLine_168 rfl (by decide) kk) ?_
      refine Sx.up (fun _ kk => r_icmp_ne 172 189 dX12_readLine_169 rfl (by decide) (fun _ => kk) (fun h169 => absurd h169 (by decide))) ?_
      refine Sx.up (fun _ kk => r_aload_n 190 dX12_readLine_189 rfl rfl kk) ?_
      refine Sx.up (fun _ kk => r_iconst (0) 191 dX12_readLine_190 rfl (by decide) kk) ?_
      obtain ⟨_, ⟨E2, rfl, y2⟩, hcl2⟩ := md_expr6 (d := d + 1) y1 (slk_on8 n_wakes h0)
      refine Sx.up (fun _ kk => r_callV 194 dX12_readLine_191 rfl k12_252 hcl2 rfl rfl rfl (by decide) rfl lt95 (Nat.le_of_ble_eq_true rfl) kk) ?_
      refine Sx.up (fun _ kk => r_goto 253 dX12_readLine_194 (by decide) kk) ?_
      exact k253 8 E2 _ _ y2 hln (x5_ext (expr_ext 6 _) (x5_on hx5))
    have hkd : (8 : Int32) &&& bX B 5 = bX B 5 &&& 8 := Int32.and_comm _ _
    by_cases ho : bX B 5 &&& 8 = 0
    · refine Sx.up (fun _ kk => r_aload_n 1 dX12_readLine_0 rfl rfl kk) ?_
      refine Sx.up (fun _ kk => r_ldcwS (i := 31) 4 dX12_readLine_1 rfl rfl kk) ?_
      refine Sx.up (fun _ kk => r_callV 7 dX12_readLine_4 rfl k12_222 (md_is (d := d + 41) (i := 31) (q := ("SpoonRowModel", 279, "bed", w_bed)) y1 rfl) rfl rfl rfl (by decide) rfl lt95 (Nat.le_of_ble_eq_true rfl) kk) ?_
      refine Sx.up (fun _ kk => r_if_eq 10 14 dX12_readLine_7 rfl (by decide) (fun _ => kk) (fun h7 => absurd (bI_f n_bed) h7)) ?_
      refine Sx.up (fun _ kk => r_aload_n 15 dX12_readLine_14 rfl rfl kk) ?_
      refine Sx.up (fun _ kk => r_ldcwS (i := 32) 18 dX12_readLine_15 rfl rfl kk) ?_
      refine Sx.up (fun _ kk => r_callV 21 dX12_readLine_18 rfl k12_222 (md_is (d := d + 41) (i := 32) (q := ("SpoonRowModel", 281, "night", w_night)) y1 rfl) rfl rfl rfl (by decide) rfl lt95 (Nat.le_of_ble_eq_true rfl) kk) ?_
      refine Sx.up (fun _ kk => r_if_eq 24 28 dX12_readLine_21 rfl (by decide) (fun _ => kk) (fun h21 => absurd (bI_f n_night) h21)) ?_
      refine Sx.up (fun _ kk => r_aload_n 29 dX12_readLine_28 rfl rfl kk) ?_
      refine Sx.up (fun _ kk => r_ldcwS (i := 33) 32 dX12_readLine_29 rfl rfl kk) ?_
      refine Sx.up (fun _ kk => r_callV 35 dX12_readLine_32 rfl k12_222 (md_is (d := d + 41) (i := 33) (q := ("SpoonRowModel", 283, "awake", w_awake)) y1 rfl) rfl rfl rfl (by decide) rfl lt95 (Nat.le_of_ble_eq_true rfl) kk) ?_
      refine Sx.up (fun _ kk => r_if_eq 38 42 dX12_readLine_35 rfl (by decide) (fun _ => kk) (fun h35 => absurd (bI_f n_awake) h35)) ?_
      refine Sx.up (fun _ kk => r_aload_n 43 dX12_readLine_42 rfl rfl kk) ?_
      refine Sx.up (fun _ kk => r_ldcwS (i := 34) 46 dX12_readLine_43 rfl rfl kk) ?_
      refine Sx.up (fun _ kk => r_callV 49 dX12_readLine_46 rfl k12_222 (md_is (d := d + 41) (i := 34) (q := ("SpoonRowModel", 285, "wakes", w_wakes)) y1 rfl) rfl rfl rfl (by decide) rfl lt95 (Nat.le_of_ble_eq_true rfl) kk) ?_
      refine Sx.up (fun _ kk => r_if_eq 52 57 dX12_readLine_49 rfl (by decide) (fun h49 => absurd h49 (by rw [bI_t n_wakes]; decide)) (fun _ => kk)) ?_
      refine Sx.up (fun _ kk => r_bipush (8) 54 dX12_readLine_52 rfl (by decide) kk) ?_
      refine Sx.up (fun _ kk => r_goto 58 dX12_readLine_54 (by decide) kk) ?_
      refine Sx.up (fun _ kk => r_istore_n 59 dX12_readLine_58 rfl (by decide) rfl kk) ?_
      refine Sx.up (fun _ kk => r_aload_n 60 dX12_readLine_59 rfl rfl kk) ?_
      refine Sx.up (fun _ kk => r_ldcwS (i := 35) 63 dX12_readLine_60 rfl rfl kk) ?_
      refine Sx.up (fun _ kk => r_callV 66 dX12_readLine_63 rfl k12_222 (md_is (d := d + 41) (i := 35) (q := ("SpoonRowModel", 287, "dog", w_dog)) y1 rfl) rfl rfl rfl (by decide) rfl lt95 (Nat.le_of_ble_eq_true rfl) kk) ?_
      refine Sx.up (fun _ kk => r_if_eq 69 73 dX12_readLine_66 rfl (by decide) (fun _ => kk) (fun h66 => absurd (bI_f n_dog) h66)) ?_
      refine Sx.up (fun _ kk => r_aload_n 74 dX12_readLine_73 rfl rfl kk) ?_
      refine Sx.up (fun _ kk => r_aload_n 75 dX12_readLine_74 rfl rfl kk) ?_
      refine Sx.up (fun _ kk => r_getR 78 dX12_readLine_75 rfl f12_17 rfl rfl lt95 (mo_0 (md_M y1)) kk) ?_
      refine Sx.up (fun _ kk => r_callV 81 dX12_readLine_78 rfl k12_245 hwh rfl rfl rfl (by decide) rfl lt95 (Nat.le_of_ble_eq_true rfl) kk) ?_
      refine Sx.up (fun _ kk => r_istore_n 82 dX12_readLine_81 rfl (by decide) rfl kk) ?_
      refine Sx.up (fun _ kk => r_iload_n 83 dX12_readLine_82 rfl rfl kk) ?_
      refine Sx.up (fun _ kk => r_iload_n 84 dX12_readLine_83 rfl rfl kk) ?_
      refine Sx.up (fun _ kk => r_iand 85 dX12_readLine_84 rfl kk) ?_
      refine Sx.up (fun _ kk => r_if_eq 88 93 dX12_readLine_85 rfl (by decide) (fun _ => kk) (fun h85 => absurd (hkd.trans ho) h85)) ?_
      refine Sx.up (fun _ kk => r_iload_n 94 dX12_readLine_93 rfl rfl kk) ?_
      refine Sx.up (fun _ kk => r_if_le 97 197 dX12_readLine_94 rfl (by decide) (fun h94 => absurd h94 (by decide)) (fun _ => kk)) ?_
      refine Sx.up (fun _ kk => r_aload_n 98 dX12_readLine_97 rfl rfl kk) ?_
      refine Sx.up (fun _ kk => r_getI 101 dX12_readLine_98 rfl f12_208 rfl rfl lt95 kk) ?_
      refine Sx.up (fun _ kk => r_if_ne 104 108 dX12_readLine_101 rfl (by decide) (fun h101 => absurd h101 (fun z => z hb1)) (fun _ => kk)) ?_
      refine Sx.up (fun _ kk => r_aload_n 105 dX12_readLine_104 rfl rfl kk) ?_
      obtain ⟨_, ⟨E9, rfl, y9⟩, hcl9⟩ := md_adv (d := d + 44) y1 ⟨_, rfl⟩
      have y9 := md_set5 (v := bX B 5 ||| 8) y9
      refine Sx.up (fun _ kk => r_callV 108 dX12_readLine_105 rfl k12_233 hcl9 rfl rfl rfl (by decide) rfl lt95 (Nat.le_of_ble_eq_true rfl) kk) ?_
      exact k108 E9 (by rw [on_a ho]; exact y9)
    · refine Sx.up (fun _ kk => r_aload_n 1 dX12_readLine_0 rfl rfl kk) ?_
      refine Sx.up (fun _ kk => r_ldcwS (i := 31) 4 dX12_readLine_1 rfl rfl kk) ?_
      refine Sx.up (fun _ kk => r_callV 7 dX12_readLine_4 rfl k12_222 (md_is (d := d + 41) (i := 31) (q := ("SpoonRowModel", 279, "bed", w_bed)) y1 rfl) rfl rfl rfl (by decide) rfl lt95 (Nat.le_of_ble_eq_true rfl) kk) ?_
      refine Sx.up (fun _ kk => r_if_eq 10 14 dX12_readLine_7 rfl (by decide) (fun _ => kk) (fun h7 => absurd (bI_f n_bed) h7)) ?_
      refine Sx.up (fun _ kk => r_aload_n 15 dX12_readLine_14 rfl rfl kk) ?_
      refine Sx.up (fun _ kk => r_ldcwS (i := 32) 18 dX12_readLine_15 rfl rfl kk) ?_
      refine Sx.up (fun _ kk => r_callV 21 dX12_readLine_18 rfl k12_222 (md_is (d := d + 41) (i := 32) (q := ("SpoonRowModel", 281, "night", w_night)) y1 rfl) rfl rfl rfl (by decide) rfl lt95 (Nat.le_of_ble_eq_true rfl) kk) ?_
      refine Sx.up (fun _ kk => r_if_eq 24 28 dX12_readLine_21 rfl (by decide) (fun _ => kk) (fun h21 => absurd (bI_f n_night) h21)) ?_
      refine Sx.up (fun _ kk => r_aload_n 29 dX12_readLine_28 rfl rfl kk) ?_
      refine Sx.up (fun _ kk => r_ldcwS (i := 33) 32 dX12_readLine_29 rfl rfl kk) ?_
      refine Sx.up (fun _ kk => r_callV 35 dX12_readLine_32 rfl k12_222 (md_is (d := d + 41) (i := 33) (q := ("SpoonRowModel", 283, "awake", w_awake)) y1 rfl) rfl rfl rfl (by decide) rfl lt95 (Nat.le_of_ble_eq_true rfl) kk) ?_
      refine Sx.up (fun _ kk => r_if_eq 38 42 dX12_readLine_35 rfl (by decide) (fun _ => kk) (fun h35 => absurd (bI_f n_awake) h35)) ?_
      refine Sx.up (fun _ kk => r_aload_n 43 dX12_readLine_42 rfl rfl kk) ?_
      refine Sx.up (fun _ kk => r_ldcwS (i := 34) 46 dX12_readLine_43 rfl rfl kk) ?_
      refine Sx.up (fun _ kk => r_callV 49 dX12_readLine_46 rfl k12_222 (md_is (d := d + 41) (i := 34) (q := ("SpoonRowModel", 285, "wakes", w_wakes)) y1 rfl) rfl rfl rfl (by decide) rfl lt95 (Nat.le_of_ble_eq_true rfl) kk) ?_
      refine Sx.up (fun _ kk => r_if_eq 52 57 dX12_readLine_49 rfl (by decide) (fun h49 => absurd h49 (by rw [bI_t n_wakes]; decide)) (fun _ => kk)) ?_
      refine Sx.up (fun _ kk => r_bipush (8) 54 dX12_readLine_52 rfl (by decide) kk) ?_
      refine Sx.up (fun _ kk => r_goto 58 dX12_readLine_54 (by decide) kk) ?_
      refine Sx.up (fun _ kk => r_istore_n 59 dX12_readLine_58 rfl (by decide) rfl kk) ?_
      refine Sx.up (fun _ kk => r_aload_n 60 dX12_readLine_59 rfl rfl kk) ?_
      refine Sx.up (fun _ kk => r_ldcwS (i := 35) 63 dX12_readLine_60 rfl rfl kk) ?_
      refine Sx.up (fun _ kk => r_callV 66 dX12_readLine_63 rfl k12_222 (md_is (d := d + 41) (i := 35) (q := ("SpoonRowModel", 287, "dog", w_dog)) y1 rfl) rfl rfl rfl (by decide) rfl lt95 (Nat.le_of_ble_eq_true rfl) kk) ?_
      refine Sx.up (fun _ kk => r_if_eq 69 73 dX12_readLine_66 rfl (by decide) (fun _ => kk) (fun h66 => absurd (bI_f n_dog) h66)) ?_
      refine Sx.up (fun _ kk => r_aload_n 74 dX12_readLine_73 rfl rfl kk) ?_
      refine Sx.up (fun _ kk => r_aload_n 75 dX12_readLine_74 rfl rfl kk) ?_
      refine Sx.up (fun _ kk => r_getR 78 dX12_readLine_75 rfl f12_17 rfl rfl lt95 (mo_0 (md_M y1)) kk) ?_
      refine Sx.up (fun _ kk => r_callV 81 dX12_readLine_78 rfl k12_245 hwh rfl rfl rfl (by decide) rfl lt95 (Nat.le_of_ble_eq_true rfl) kk) ?_
      refine Sx.up (fun _ kk => r_istore_n 82 dX12_readLine_81 rfl (by decide) rfl kk) ?_
      refine Sx.up (fun _ kk => r_iload_n 83 dX12_readLine_82 rfl rfl kk) ?_
      refine Sx.up (fun _ kk => r_iload_n 84 dX12_readLine_83 rfl rfl kk) ?_
      refine Sx.up (fun _ kk => r_iand 85 dX12_readLine_84 rfl kk) ?_
      refine Sx.up (fun _ kk => r_if_eq 88 93 dX12_readLine_85 rfl (by decide) (fun h85 => absurd h85 (fun z => ho (hkd.symm.trans z))) (fun _ => kk)) ?_
      refine Sx.up (fun _ kk => r_aload_n 89 dX12_readLine_88 rfl rfl kk) ?_
      refine Sx.up (fun _ kk => r_iconst (5) 90 dX12_readLine_89 rfl (by decide) kk) ?_
      obtain ⟨_, ⟨E9, rfl, y9⟩, hcl9⟩ := md_wrong (d := d + 45) y1 (k := 5) (k9 := 5) rfl (by decide) (by decide)
      refine Sx.up (fun _ kk => r_callV 93 dX12_readLine_90 rfl k12_229 hcl9 rfl rfl rfl (by decide) rfl lt95 (Nat.le_of_ble_eq_true rfl) kk) ?_
      refine Sx.up (fun _ kk => r_iload_n 94 dX12_readLine_93 rfl rfl kk) ?_
      refine Sx.up (fun _ kk => r_if_le 97 197 dX12_readLine_94 rfl (by decide) (fun h94 => absurd h94 (by decide)) (fun _ => kk)) ?_
      refine Sx.up (fun _ kk => r_aload_n 98 dX12_readLine_97 rfl rfl kk) ?_
      refine Sx.up (fun _ kk => r_getI 101 dX12_readLine_98 rfl f12_208 rfl rfl lt95 kk) ?_
      refine Sx.up (fun _ kk => r_if_ne 104 108 dX12_readLine_101 rfl (by decide) (fun _ => kk) (fun h101 => absurd h101 (md_1b y9))) ?_
      exact k108 E9 (by rw [on_b ho]; exact y9)
  by_cases n_bed : wdS T w_bed (.inr (a, B)) = true
  · have n_sleeper : ¬ wdS T w_sleeper (.inr (a, B)) = true := wd_no n_bed (by decide)
    have n_child : ¬ wdS T w_child (.inr (a, B)) = true := wd_no n_bed (by decide)
    have n_snorer : ¬ wdS T w_snorer (.inr (a, B)) = true := wd_no n_bed (by decide)
    have n_dog : ¬ wdS T w_dog (.inr (a, B)) = true := wd_no n_bed (by decide)
    have n_bolster : ¬ wdS T w_bolster (.inr (a, B)) = true := wd_no n_bed (by decide)
    have n_never : ¬ wdS T w_never (.inr (a, B)) = true := wd_no n_bed (by decide)
    have n_wakes : ¬ wdS T w_wakes (.inr (a, B)) = true := wd_no n_bed (by decide)
    have n_night : ¬ wdS T w_night (.inr (a, B)) = true := wd_no n_bed (by decide)
    have n_awake : ¬ wdS T w_awake (.inr (a, B)) = true := wd_no n_bed (by decide)
    have hwk : whF T (.inr (a, B)) w_kinds 0 = -1 := by unfold w_kinds; unfold whF; rw [if_neg n_sleeper]; unfold whF; rw [if_neg n_child]; unfold whF; rw [if_neg n_snorer]; rfl
    rw [hwk] at hwh
    have hln : lineS T (.inr (a, B)) = bdS T (.inr (a, B)) := by unfold lineS; rw [if_neg n_sleeper, if_neg n_child, if_neg n_snorer, if_neg n_dog, if_neg n_bolster, if_neg n_never, if_neg n_wakes, if_pos n_bed]
    have k108 : ∀ E, CMd E0 E T (onS T 1 (.inr (a, B))) → Sx mX12_readLine (d + 46) 0 0 (fun o => ∃ E2 v, o = (.inl (some (.int v)), E2, 137) ∧ CMd E0 E2 T (liS T (.inr (a, B))) ∧ (∀ a2 B2, liS T (.inr (a, B)) = .inr (a2, B2) → v = bX B2 5)) 108 [some (.ref 95), some (.int (bX B 5)), some (.int 1), some (.int (-1))] [] E 137 := by
      intro E y1
      refine Sx.up (fun _ kk => r_iload_n 109 dX12_readLine_108 rfl rfl kk) ?_
      refine Sx.up (fun _ kk => r_iconst (1) 110 dX12_readLine_109 rfl (by decide) kk) ?_
      refine Sx.up (fun _ kk => r_icmp_ne 113 144 dX12_readLine_110 rfl (by decide) (fun h110 => absurd h110 (fun z => z rfl)) (fun _ => kk)) ?_
      refine Sx.up (fun _ kk => r_aload_n 114 dX12_readLine_113 rfl rfl kk) ?_
      refine Sx.up (fun _ kk => r_getR 117 dX12_readLine_114 rfl f12_38 rfl rfl lt95 (mo_3 (by first | exact md_M y1 | exact md_M ys | exact md_M y1)) kk) ?_
      refine Sx.up (fun _ kk => r_bipush (9) 119 dX12_readLine_117 rfl (by decide) kk) ?_
      refine Sx.up (fun _ kk => r_aload_n 120 dX12_readLine_119 rfl rfl kk) ?_
      refine Sx.up (fun _ kk => r_iconst (1) 121 dX12_readLine_120 rfl (by decide) kk) ?_
      refine Sx.up (fun _ kk => r_bipush (99) 123 dX12_readLine_121 rfl (by decide) kk) ?_
      obtain ⟨_, ⟨E2, v2, rfl, y2, hv2, w2⟩, hcl2⟩ := md_rnM (d := d + 43) (lo := 1) (hi := 99) y1 rfl rfl (by decide) (by decide)
      refine Sx.up (fun _ kk => r_callV 126 dX12_readLine_123 rfl k12_239 hcl2 rfl rfl rfl (by decide) rfl lt95 (Nat.le_of_ble_eq_true rfl) kk) ?_
      have ys := md_scal (i := 0) (v := v2) y2 (by decide)
      rw [sc_eq hv2] at ys
      refine Sx.up (fun _ kk => r_iastN (9) 127 dX12_readLine_126 rfl rfl (Nat.le_of_ble_eq_true rfl) (by decide) (Nat.le_of_ble_eq_true rfl) (Nat.le_of_ble_eq_true rfl) kk) ?_
      refine Sx.up (fun _ kk => r_aload_n 128 dX12_readLine_127 rfl rfl kk) ?_
      refine Sx.up (fun _ kk => r_getR 131 dX12_readLine_128 rfl f12_38 rfl rfl lt95 (mo_3 (by first | exact md_M y2 | exact md_M ys | exact md_M y1)) kk) ?_
      refine Sx.up (fun _ kk => r_bipush (10) 133 dX12_readLine_131 rfl (by decide) kk) ?_
      refine Sx.up (fun _ kk => r_aload_n 134 dX12_readLine_133 rfl rfl kk) ?_
      refine Sx.up (fun _ kk => r_iconst (0) 135 dX12_readLine_134 rfl (by decide) kk) ?_
      refine Sx.up (fun _ kk => r_bipush (9) 137 dX12_readLine_135 rfl (by decide) kk) ?_
      obtain ⟨_, ⟨E3, v3, rfl, y3, hv3, w3⟩, hcl3⟩ := md_rnM (d := d + 43) (lo := 0) (hi := 9) ys rfl rfl (by decide) (by decide)
      refine Sx.up (fun _ kk => r_callV 140 dX12_readLine_137 rfl k12_239 hcl3 rfl rfl rfl (by decide) rfl lt95 (Nat.le_of_ble_eq_true rfl) kk) ?_
      have yt := md_scal (i := 1) (v := v3) y3 (by decide)
      rw [sc_eq hv3] at yt
      refine Sx.up (fun _ kk => r_iastN (10) 141 dX12_readLine_140 rfl rfl (Nat.le_of_ble_eq_true rfl) (by decide) (Nat.le_of_ble_eq_true rfl) (Nat.le_of_ble_eq_true rfl) kk) ?_
      refine Sx.up (fun _ kk => r_goto 253 dX12_readLine_141 (by decide) kk) ?_
      exact k253 1 _ _ _ yt hln (x5_sc (by decide) (x5_tk (x5_sc (by decide) (x5_tk (x5_on hx5)))))
    have hkd : (1 : Int32) &&& bX B 5 = bX B 5 &&& 1 := Int32.and_comm _ _
    by_cases ho : bX B 5 &&& 1 = 0
    · refine Sx.up (fun _ kk => r_aload_n 1 dX12_readLine_0 rfl rfl kk) ?_
      refine Sx.up (fun _ kk => r_ldcwS (i := 31) 4 dX12_readLine_1 rfl rfl kk) ?_
      refine Sx.up (fun _ kk => r_callV 7 dX12_readLine_4 rfl k12_222 (md_is (d := d + 41) (i := 31) (q := ("SpoonRowModel", 279, "bed", w_bed)) y1 rfl) rfl rfl rfl (by decide) rfl lt95 (Nat.le_of_ble_eq_true rfl) kk) ?_
      refine Sx.up (fun _ kk => r_if_eq 10 14 dX12_readLine_7 rfl (by decide) (fun h7 => absurd h7 (by rw [bI_t n_bed]; decide)) (fun _ => kk)) ?_
      refine Sx.up (fun _ kk => r_iconst (1) 11 dX12_readLine_10 rfl (by decide) kk) ?_
      refine Sx.up (fun _ kk => r_goto 58 dX12_readLine_11 (by decide) kk) ?_
      refine Sx.up (fun _ kk => r_istore_n 59 dX12_readLine_58 rfl (by decide) rfl kk) ?_
      refine Sx.up (fun _ kk => r_aload_n 60 dX12_readLine_59 rfl rfl kk) ?_
      refine Sx.up (fun _ kk => r_ldcwS (i := 35) 63 dX12_readLine_60 rfl rfl kk) ?_
      refine Sx.up (fun _ kk => r_callV 66 dX12_readLine_63 rfl k12_222 (md_is (d := d + 41) (i := 35) (q := ("SpoonRowModel", 287, "dog", w_dog)) y1 rfl) rfl rfl rfl (by decide) rfl lt95 (Nat.le_of_ble_eq_true rfl) kk) ?_
      refine Sx.up (fun _ kk => r_if_eq 69 73 dX12_readLine_66 rfl (by decide) (fun _ => kk) (fun h66 => absurd (bI_f n_dog) h66)) ?_
      refine Sx.up (fun _ kk => r_aload_n 74 dX12_readLine_73 rfl rfl kk) ?_
      refine Sx.up (fun _ kk => r_aload_n 75 dX12_readLine_74 rfl rfl kk) ?_
      refine Sx.up (fun _ kk => r_getR 78 dX12_readLine_75 rfl f12_17 rfl rfl lt95 (mo_0 (md_M y1)) kk) ?_
      refine Sx.up (fun _ kk => r_callV 81 dX12_readLine_78 rfl k12_245 hwh rfl rfl rfl (by decide) rfl lt95 (Nat.le_of_ble_eq_true rfl) kk) ?_
      refine Sx.up (fun _ kk => r_istore_n 82 dX12_readLine_81 rfl (by decide) rfl kk) ?_
      refine Sx.up (fun _ kk => r_iload_n 83 dX12_readLine_82 rfl rfl kk) ?_
      refine Sx.up (fun _ kk => r_iload_n 84 dX12_readLine_83 rfl rfl kk) ?_
      refine Sx.up (fun _ kk => r_iand 85 dX12_readLine_84 rfl kk) ?_
      refine Sx.up (fun _ kk => r_if_eq 88 93 dX12_readLine_85 rfl (by decide) (fun _ => kk) (fun h85 => absurd (hkd.trans ho) h85)) ?_
      refine Sx.up (fun _ kk => r_iload_n 94 dX12_readLine_93 rfl rfl kk) ?_
      refine Sx.up (fun _ kk => r_if_le 97 197 dX12_readLine_94 rfl (by decide) (fun h94 => absurd h94 (by decide)) (fun _ => kk)) ?_
      refine Sx.up (fun _ kk => r_aload_n 98 dX12_readLine_97 rfl rfl kk) ?_
      refine Sx.up (fun _ kk => r_getI 101 dX12_readLine_98 rfl f12_208 rfl rfl lt95 kk) ?_
      refine Sx.up (fun _ kk => r_if_ne 104 108 dX12_readLine_101 rfl (by decide) (fun h101 => absurd h101 (fun z => z hb1)) (fun _ => kk)) ?_
      refine Sx.up (fun _ kk => r_aload_n 105 dX12_readLine_104 rfl rfl kk) ?_
      obtain ⟨_, ⟨E9, rfl, y9⟩, hcl9⟩ := md_adv (d := d + 44) y1 ⟨_, rfl⟩
      have y9 := md_set5 (v := bX B 5 ||| 1) y9
      refine Sx.up (fun _ kk => r_callV 108 dX12_readLine_105 rfl k12_233 hcl9 rfl rfl rfl (by decide) rfl lt95 (Nat.le_of_ble_eq_true rfl) kk) ?_
      exact k108 E9 (by rw [on_a ho]; exact y9)
    · refine Sx.up (fun _ kk => r_aload_n 1 dX12_readLine_0 rfl rfl kk) ?_
      refine Sx.up (fun _ kk => r_ldcwS (i := 31) 4 dX12_readLine_1 rfl rfl kk) ?_
      refine Sx.up (fun _ kk => r_callV 7 dX12_readLine_4 rfl k12_222 (md_is (d := d + 41) (i := 31) (q := ("SpoonRowModel", 279, "bed", w_bed)) y1 rfl) rfl rfl rfl (by decide) rfl lt95 (Nat.le_of_ble_eq_true rfl) kk) ?_
      refine Sx.up (fun _ kk => r_if_eq 10 14 dX12_readLine_7 rfl (by decide) (fun h7 => absurd h7 (by rw [bI_t n_bed]; decide)) (fun _ => kk)) ?_
      refine Sx.up (fun _ kk => r_iconst (1) 11 dX12_readLine_10 rfl (by decide) kk) ?_
      refine Sx.up (fun _ kk => r_goto 58 dX12_readLine_11 (by decide) kk) ?_
      refine Sx.up (fun _ kk => r_istore_n 59 dX12_readLine_58 rfl (by decide) rfl kk) ?_
      refine Sx.up (fun _ kk => r_aload_n 60 dX12_readLine_59 rfl rfl kk) ?_
      refine Sx.up (fun _ kk => r_ldcwS (i := 35) 63 dX12_readLine_60 rfl rfl kk) ?_
      refine Sx.up (fun _ kk => r_callV 66 dX12_readLine_63 rfl k12_222 (md_is (d := d + 41) (i := 35) (q := ("SpoonRowModel", 287, "dog", w_dog)) y1 rfl) rfl rfl rfl (by decide) rfl lt95 (Nat.le_of_ble_eq_true rfl) kk) ?_
      refine Sx.up (fun _ kk => r_if_eq 69 73 dX12_readLine_66 rfl (by decide) (fun _ => kk) (fun h66 => absurd (bI_f n_dog) h66)) ?_
      refine Sx.up (fun _ kk => r_aload_n 74 dX12_readLine_73 rfl rfl kk) ?_
      refine Sx.up (fun _ kk => r_aload_n 75 dX12_readLine_74 rfl rfl kk) ?_
      refine Sx.up (fun _ kk => r_getR 78 dX12_readLine_75 rfl f12_17 rfl rfl lt95 (mo_0 (md_M y1)) kk) ?_
      refine Sx.up (fun _ kk => r_callV 81 dX12_readLine_78 rfl k12_245 hwh rfl rfl rfl (by decide) rfl lt95 (Nat.le_of_ble_eq_true rfl) kk) ?_
      refine Sx.up (fun _ kk => r_istore_n 82 dX12_readLine_81 rfl (by decide) rfl kk) ?_
      refine Sx.up (fun _ kk => r_iload_n 83 dX12_readLine_82 rfl rfl kk) ?_
      refine Sx.up (fun _ kk => r_iload_n 84 dX12_readLine_83 rfl rfl kk) ?_
      refine Sx.up (fun _ kk => r_iand 85 dX12_readLine_84 rfl kk) ?_
      refine Sx.up (fun _ kk => r_if_eq 88 93 dX12_readLine_85 rfl (by decide) (fun h85 => absurd h85 (fun z => ho (hkd.symm.trans z))) (fun _ => kk)) ?_
      refine Sx.up (fun _ kk => r_aload_n 89 dX12_readLine_88 rfl rfl kk) ?_
      refine Sx.up (fun _ kk => r_iconst (5) 90 dX12_readLine_89 rfl (by decide) kk) ?_
      obtain ⟨_, ⟨E9, rfl, y9⟩, hcl9⟩ := md_wrong (d := d + 45) y1 (k := 5) (k9 := 5) rfl (by decide) (by decide)
      refine Sx.up (fun _ kk => r_callV 93 dX12_readLine_90 rfl k12_229 hcl9 rfl rfl rfl (by decide) rfl lt95 (Nat.le_of_ble_eq_true rfl) kk) ?_
      refine Sx.up (fun _ kk => r_iload_n 94 dX12_readLine_93 rfl rfl kk) ?_
      refine Sx.up (fun _ kk => r_if_le 97 197 dX12_readLine_94 rfl (by decide) (fun h94 => absurd h94 (by decide)) (fun _ => kk)) ?_
      refine Sx.up (fun _ kk => r_aload_n 98 dX12_readLine_97 rfl rfl kk) ?_
      refine Sx.up (fun _ kk => r_getI 101 dX12_readLine_98 rfl f12_208 rfl rfl lt95 kk) ?_
      refine Sx.up (fun _ kk => r_if_ne 104 108 dX12_readLine_101 rfl (by decide) (fun _ => kk) (fun h101 => absurd h101 (md_1b y9))) ?_
      exact k108 E9 (by rw [on_b ho]; exact y9)
  by_cases n_night : wdS T w_night (.inr (a, B)) = true
  · have n_sleeper : ¬ wdS T w_sleeper (.inr (a, B)) = true := wd_no n_night (by decide)
    have n_child : ¬ wdS T w_child (.inr (a, B)) = true := wd_no n_night (by decide)
    have n_snorer : ¬ wdS T w_snorer (.inr (a, B)) = true := wd_no n_night (by decide)
    have n_dog : ¬ wdS T w_dog (.inr (a, B)) = true := wd_no n_night (by decide)
    have n_bolster : ¬ wdS T w_bolster (.inr (a, B)) = true := wd_no n_night (by decide)
    have n_never : ¬ wdS T w_never (.inr (a, B)) = true := wd_no n_night (by decide)
    have n_wakes : ¬ wdS T w_wakes (.inr (a, B)) = true := wd_no n_night (by decide)
    have n_bed : ¬ wdS T w_bed (.inr (a, B)) = true := wd_no n_night (by decide)
    have n_awake : ¬ wdS T w_awake (.inr (a, B)) = true := wd_no n_night (by decide)
    have hwk : whF T (.inr (a, B)) w_kinds 0 = -1 := by unfold w_kinds; unfold whF; rw [if_neg n_sleeper]; unfold whF; rw [if_neg n_child]; unfold whF; rw [if_neg n_snorer]; rfl
    rw [hwk] at hwh
    have hln : lineS T (.inr (a, B)) = niS T (.inr (a, B)) := by unfold lineS; rw [if_neg n_sleeper, if_neg n_child, if_neg n_snorer, if_neg n_dog, if_neg n_bolster, if_neg n_never, if_neg n_wakes, if_neg n_bed, if_pos n_night]
    have k108 : ∀ E, CMd E0 E T (onS T 2 (.inr (a, B))) → Sx mX12_readLine (d + 46) 0 0 (fun o => ∃ E2 v, o = (.inl (some (.int v)), E2, 137) ∧ CMd E0 E2 T (liS T (.inr (a, B))) ∧ (∀ a2 B2, liS T (.inr (a, B)) = .inr (a2, B2) → v = bX B2 5)) 108 [some (.ref 95), some (.int (bX B 5)), some (.int 2), some (.int (-1))] [] E 137 := by
      intro E y1
      refine Sx.up (fun _ kk => r_iload_n 109 dX12_readLine_108 rfl rfl kk) ?_
      refine Sx.up (fun _ kk => r_iconst (1) 110 dX12_readLine_109 rfl (by decide) kk) ?_
      refine Sx.up (fun _ kk => r_icmp_ne 113 144 dX12_readLine_110 rfl (by decide) (fun _ => kk) (fun h110 => absurd h110 (by decide))) ?_
      refine Sx.up (fun _ kk => r_iload_n 145 dX12_readLine_144 rfl rfl kk) ?_
      refine Sx.up (fun _ kk => r_iconst (2) 146 dX12_readLine_145 rfl (by decide) kk) ?_
      refine Sx.up (fun _ kk => r_icmp_ne 149 167 dX12_readLine_146 rfl (by decide) (fun h146 => absurd h146 (fun z => z rfl)) (fun _ => kk)) ?_
      refine Sx.up (fun _ kk => r_aload_n 150 dX12_readLine_149 rfl rfl kk) ?_
      refine Sx.up (fun _ kk => r_getR 153 dX12_readLine_150 rfl f12_38 rfl rfl lt95 (mo_3 (by first | exact md_M y1 | exact md_M ys | exact md_M y1)) kk) ?_
      refine Sx.up (fun _ kk => r_bipush (11) 155 dX12_readLine_153 rfl (by decide) kk) ?_
      refine Sx.up (fun _ kk => r_aload_n 156 dX12_readLine_155 rfl rfl kk) ?_
      refine Sx.up (fun _ kk => r_iconst (1) 157 dX12_readLine_156 rfl (by decide) kk) ?_
      refine Sx.up (fun _ kk => r_sipush (600) 160 dX12_readLine_157 rfl (by decide) kk) ?_
      obtain ⟨_, ⟨E2, v2, rfl, y2, hv2, w2⟩, hcl2⟩ := md_rnM (d := d + 43) (lo := 1) (hi := 600) y1 rfl rfl (by decide) (by decide)
      refine Sx.up (fun _ kk => r_callV 163 dX12_readLine_160 rfl k12_239 hcl2 rfl rfl rfl (by decide) rfl lt95 (Nat.le_of_ble_eq_true rfl) kk) ?_
      have yt := md_scal (i := 2) (v := v2) y2 (by decide)
      rw [sc_eq hv2] at yt
      refine Sx.up (fun _ kk => r_iastN (11) 164 dX12_readLine_163 rfl rfl (Nat.le_of_ble_eq_true rfl) (by decide) (Nat.le_of_ble_eq_true rfl) (Nat.le_of_ble_eq_true rfl) kk) ?_
      refine Sx.up (fun _ kk => r_goto 253 dX12_readLine_164 (by decide) kk) ?_
      exact k253 2 _ _ _ yt hln (x5_sc (by decide) (x5_tk (x5_on hx5)))
    have hkd : (2 : Int32) &&& bX B 5 = bX B 5 &&& 2 := Int32.and_comm _ _
    by_cases ho : bX B 5 &&& 2 = 0
    · refine Sx.up (fun _ kk => r_aload_n 1 dX12_readLine_0 rfl rfl kk) ?_
      refine Sx.up (fun _ kk => r_ldcwS (i := 31) 4 dX12_readLine_1 rfl rfl kk) ?_
      refine Sx.up (fun _ kk => r_callV 7 dX12_readLine_4 rfl k12_222 (md_is (d := d + 41) (i := 31) (q := ("SpoonRowModel", 279, "bed", w_bed)) y1 rfl) rfl rfl rfl (by decide) rfl lt95 (Nat.le_of_ble_eq_true rfl) kk) ?_
      refine Sx.up (fun _ kk => r_if_eq 10 14 dX12_readLine_7 rfl (by decide) (fun _ => kk) (fun h7 => absurd (bI_f n_bed) h7)) ?_
      refine Sx.up (fun _ kk => r_aload_n 15 dX12_readLine_14 rfl rfl kk) ?_
      refine Sx.up (fun _ kk => r_ldcwS (i := 32) 18 dX12_readLine_15 rfl rfl kk) ?_
      refine Sx.up (fun _ kk => r_callV 21 dX12_readLine_18 rfl k12_222 (md_is (d := d + 41) (i := 32) (q := ("SpoonRowModel", 281, "night", w_night)) y1 rfl) rfl rfl rfl (by decide) rfl lt95 (Nat.le_of_ble_eq_true rfl) kk) ?_
      refine Sx.up (fun _ kk => r_if_eq 24 28 dX12_readLine_21 rfl (by decide) (fun h21 => absurd h21 (by rw [bI_t n_night]; decide)) (fun _ => kk)) ?_
      refine Sx.up (fun _ kk => r_iconst (2) 25 dX12_readLine_24 rfl (by decide) kk) ?_
      refine Sx.up (fun _ kk => r_goto 58 dX12_readLine_25 (by decide) kk) ?_
      refine Sx.up (fun _ kk => r_istore_n 59 dX12_readLine_58 rfl (by decide) rfl kk) ?_
      refine Sx.up (fun _ kk => r_aload_n 60 dX12_readLine_59 rfl rfl kk) ?_
      refine Sx.up (fun _ kk => r_ldcwS (i := 35) 63 dX12_readLine_60 rfl rfl kk) ?_
      refine Sx.up (fun _ kk => r_callV 66 dX12_readLine_63 rfl k12_222 (md_is (d := d + 41) (i := 35) (q := ("SpoonRowModel", 287, "dog", w_dog)) y1 rfl) rfl rfl rfl (by decide) rfl lt95 (Nat.le_of_ble_eq_true rfl) kk) ?_
      refine Sx.up (fun _ kk => r_if_eq 69 73 dX12_readLine_66 rfl (by decide) (fun _ => kk) (fun h66 => absurd (bI_f n_dog) h66)) ?_
      refine Sx.up (fun _ kk => r_aload_n 74 dX12_readLine_73 rfl rfl kk) ?_
      refine Sx.up (fun _ kk => r_aload_n 75 dX12_readLine_74 rfl rfl kk) ?_
      refine Sx.up (fun _ kk => r_getR 78 dX12_readLine_75 rfl f12_17 rfl rfl lt95 (mo_0 (md_M y1)) kk) ?_
      refine Sx.up (fun _ kk => r_callV 81 dX12_readLine_78 rfl k12_245 hwh rfl rfl rfl (by decide) rfl lt95 (Nat.le_of_ble_eq_true rfl) kk) ?_
      refine Sx.up (fun _ kk => r_istore_n 82 dX12_readLine_81 rfl (by decide) rfl kk) ?_
      refine Sx.up (fun _ kk => r_iload_n 83 dX12_readLine_82 rfl rfl kk) ?_
      refine Sx.up (fun _ kk => r_iload_n 84 dX12_readLine_83 rfl rfl kk) ?_
      refine Sx.up (fun _ kk => r_iand 85 dX12_readLine_84 rfl kk) ?_
      refine Sx.up (fun _ kk => r_if_eq 88 93 dX12_readLine_85 rfl (by decide) (fun _ => kk) (fun h85 => absurd (hkd.trans ho) h85)) ?_
      refine Sx.up (fun _ kk => r_iload_n 94 dX12_readLine_93 rfl rfl kk) ?_
      refine Sx.up (fun _ kk => r_if_le 97 197 dX12_readLine_94 rfl (by decide) (fun h94 => absurd h94 (by decide)) (fun _ => kk)) ?_
      refine Sx.up (fun _ kk => r_aload_n 98 dX12_readLine_97 rfl rfl kk) ?_
      refine Sx.up (fun _ kk => r_getI 101 dX12_readLine_98 rfl f12_208 rfl rfl lt95 kk) ?_
      refine Sx.up (fun _ kk => r_if_ne 104 108 dX12_readLine_101 rfl (by decide) (fun h101 => absurd h101 (fun z => z hb1)) (fun _ => kk)) ?_
      refine Sx.up (fun _ kk => r_aload_n 105 dX12_readLine_104 rfl rfl kk) ?_
      obtain ⟨_, ⟨E9, rfl, y9⟩, hcl9⟩ := md_adv (d := d + 44) y1 ⟨_, rfl⟩
      have y9 := md_set5 (v := bX B 5 ||| 2) y9
      refine Sx.up (fun _ kk => r_callV 108 dX12_readLine_105 rfl k12_233 hcl9 rfl rfl rfl (by decide) rfl lt95 (Nat.le_of_ble_eq_true rfl) kk) ?_
      exact k108 E9 (by rw [on_a ho]; exact y9)
    · refine Sx.up (fun _ kk => r_aload_n 1 dX12_readLine_0 rfl rfl kk) ?_
      refine Sx.up (fun _ kk => r_ldcwS (i := 31) 4 dX12_readLine_1 rfl rfl kk) ?_
      refine Sx.up (fun _ kk => r_callV 7 dX12_readLine_4 rfl k12_222 (md_is (d := d + 41) (i := 31) (q := ("SpoonRowModel", 279, "bed", w_bed)) y1 rfl) rfl rfl rfl (by decide) rfl lt95 (Nat.le_of_ble_eq_true rfl) kk) ?_
      refine Sx.up (fun _ kk => r_if_eq 10 14 dX12_readLine_7 rfl (by decide) (fun _ => kk) (fun h7 => absurd (bI_f n_bed) h7)) ?_
      refine Sx.up (fun _ kk => r_aload_n 15 dX12_readLine_14 rfl rfl kk) ?_
      refine Sx.up (fun _ kk => r_ldcwS (i := 32) 18 dX12_readLine_15 rfl rfl kk) ?_
      refine Sx.up (fun _ kk => r_callV 21 dX12_readLine_18 rfl k12_222 (md_is (d := d + 41) (i := 32) (q := ("SpoonRowModel", 281, "night", w_night)) y1 rfl) rfl rfl rfl (by decide) rfl lt95 (Nat.le_of_ble_eq_true rfl) kk) ?_
      refine Sx.up (fun _ kk => r_if_eq 24 28 dX12_readLine_21 rfl (by decide) (fun h21 => absurd h21 (by rw [bI_t n_night]; decide)) (fun _ => kk)) ?_
      refine Sx.up (fun _ kk => r_iconst (2) 25 dX12_readLine_24 rfl (by decide) kk) ?_
      refine Sx.up (fun _ kk => r_goto 58 dX12_readLine_25 (by decide) kk) ?_
      refine Sx.up (fun _ kk => r_istore_n 59 dX12_readLine_58 rfl (by decide) rfl kk) ?_
      refine Sx.up (fun _ kk => r_aload_n 60 dX12_readLine_59 rfl rfl kk) ?_
      refine Sx.up (fun _ kk => r_ldcwS (i := 35) 63 dX12_readLine_60 rfl rfl kk) ?_
      refine Sx.up (fun _ kk => r_callV 66 dX12_readLine_63 rfl k12_222 (md_is (d := d + 41) (i := 35) (q := ("SpoonRowModel", 287, "dog", w_dog)) y1 rfl) rfl rfl rfl (by decide) rfl lt95 (Nat.le_of_ble_eq_true rfl) kk) ?_
      refine Sx.up (fun _ kk => r_if_eq 69 73 dX12_readLine_66 rfl (by decide) (fun _ => kk) (fun h66 => absurd (bI_f n_dog) h66)) ?_
      refine Sx.up (fun _ kk => r_aload_n 74 dX12_readLine_73 rfl rfl kk) ?_
      refine Sx.up (fun _ kk => r_aload_n 75 dX12_readLine_74 rfl rfl kk) ?_
      refine Sx.up (fun _ kk => r_getR 78 dX12_readLine_75 rfl f12_17 rfl rfl lt95 (mo_0 (md_M y1)) kk) ?_
      refine Sx.up (fun _ kk => r_callV 81 dX12_readLine_78 rfl k12_245 hwh rfl rfl rfl (by decide) rfl lt95 (Nat.le_of_ble_eq_true rfl) kk) ?_
      refine Sx.up (fun _ kk => r_istore_n 82 dX12_readLine_81 rfl (by decide) rfl kk) ?_
      refine Sx.up (fun _ kk => r_iload_n 83 dX12_readLine_82 rfl rfl kk) ?_
      refine Sx.up (fun _ kk => r_iload_n 84 dX12_readLine_83 rfl rfl kk) ?_
      refine Sx.up (fun _ kk => r_iand 85 dX12_readLine_84 rfl kk) ?_
      refine Sx.up (fun _ kk => r_if_eq 88 93 dX12_readLine_85 rfl (by decide) (fun h85 => absurd h85 (fun z => ho (hkd.symm.trans z))) (fun _ => kk)) ?_
      refine Sx.up (fun _ kk => r_aload_n 89 dX12_readLine_88 rfl rfl kk) ?_
      refine Sx.up (fun _ kk => r_iconst (5) 90 dX12_readLine_89 rfl (by decide) kk) ?_
      obtain ⟨_, ⟨E9, rfl, y9⟩, hcl9⟩ := md_wrong (d := d + 45) y1 (k := 5) (k9 := 5) rfl (by decide) (by decide)
      refine Sx.up (fun _ kk => r_callV 93 dX12_readLine_90 rfl k12_229 hcl9 rfl rfl rfl (by decide) rfl lt95 (Nat.le_of_ble_eq_true rfl) kk) ?_
      refine Sx.up (fun _ kk => r_iload_n 94 dX12_readLine_93 rfl rfl kk) ?_
      refine Sx.up (fun _ kk => r_if_le 97 197 dX12_readLine_94 rfl (by decide) (fun h94 => absurd h94 (by decide)) (fun _ => kk)) ?_
      refine Sx.up (fun _ kk => r_aload_n 98 dX12_readLine_97 rfl rfl kk) ?_
      refine Sx.up (fun _ kk => r_getI 101 dX12_readLine_98 rfl f12_208 rfl rfl lt95 kk) ?_
      refine Sx.up (fun _ kk => r_if_ne 104 108 dX12_readLine_101 rfl (by decide) (fun _ => kk) (fun h101 => absurd h101 (md_1b y9))) ?_
      exact k108 E9 (by rw [on_b ho]; exact y9)
  by_cases n_awake : wdS T w_awake (.inr (a, B)) = true
  · have n_sleeper : ¬ wdS T w_sleeper (.inr (a, B)) = true := wd_no n_awake (by decide)
    have n_child : ¬ wdS T w_child (.inr (a, B)) = true := wd_no n_awake (by decide)
    have n_snorer : ¬ wdS T w_snorer (.inr (a, B)) = true := wd_no n_awake (by decide)
    have n_dog : ¬ wdS T w_dog (.inr (a, B)) = true := wd_no n_awake (by decide)
    have n_bolster : ¬ wdS T w_bolster (.inr (a, B)) = true := wd_no n_awake (by decide)
    have n_never : ¬ wdS T w_never (.inr (a, B)) = true := wd_no n_awake (by decide)
    have n_wakes : ¬ wdS T w_wakes (.inr (a, B)) = true := wd_no n_awake (by decide)
    have n_bed : ¬ wdS T w_bed (.inr (a, B)) = true := wd_no n_awake (by decide)
    have n_night : ¬ wdS T w_night (.inr (a, B)) = true := wd_no n_awake (by decide)
    have hwk : whF T (.inr (a, B)) w_kinds 0 = -1 := by unfold w_kinds; unfold whF; rw [if_neg n_sleeper]; unfold whF; rw [if_neg n_child]; unfold whF; rw [if_neg n_snorer]; rfl
    rw [hwk] at hwh
    have hln : lineS T (.inr (a, B)) = awS T (.inr (a, B)) := by unfold lineS; rw [if_neg n_sleeper, if_neg n_child, if_neg n_snorer, if_neg n_dog, if_neg n_bolster, if_neg n_never, if_neg n_wakes, if_neg n_bed, if_neg n_night, if_pos n_awake]
    have k108 : ∀ E, CMd E0 E T (onS T 4 (.inr (a, B))) → Sx mX12_readLine (d + 46) 0 0 (fun o => ∃ E2 v, o = (.inl (some (.int v)), E2, 137) ∧ CMd E0 E2 T (liS T (.inr (a, B))) ∧ (∀ a2 B2, liS T (.inr (a, B)) = .inr (a2, B2) → v = bX B2 5)) 108 [some (.ref 95), some (.int (bX B 5)), some (.int 4), some (.int (-1))] [] E 137 := by
      intro E y1
      refine Sx.up (fun _ kk => r_iload_n 109 dX12_readLine_108 rfl rfl kk) ?_
      refine Sx.up (fun _ kk => r_iconst (1) 110 dX12_readLine_109 rfl (by decide) kk) ?_
      refine Sx.up (fun _ kk => r_icmp_ne 113 144 dX12_readLine_110 rfl (by decide) (fun _ => kk) (fun h110 => absurd h110 (by decide))) ?_
      refine Sx.up (fun _ kk => r_iload_n 145 dX12_readLine_144 rfl rfl kk) ?_
      refine Sx.up (fun _ kk => r_iconst (2) 146 dX12_readLine_145 rfl (by decide) kk) ?_
      refine Sx.up (fun _ kk => r_icmp_ne 149 167 dX12_readLine_146 rfl (by decide) (fun _ => kk) (fun h146 => absurd h146 (by decide))) ?_
      refine Sx.up (fun _ kk => r_iload_n 168 dX12_readLine_167 rfl rfl kk) ?_
      refine Sx.up (fun _ kk => r_iconst (4) 169 dX12_readLine_168 rfl (by decide) kk) ?_
      refine Sx.up (fun _ kk => r_icmp_ne 172 189 dX12_readLine_169 rfl (by decide) (fun h169 => absurd h169 (fun z => z rfl)) (fun _ => kk)) ?_
      refine Sx.up (fun _ kk => r_aload_n 173 dX12_readLine_172 rfl rfl kk) ?_
      refine Sx.up (fun _ kk => r_getR 176 dX12_readLine_173 rfl f12_38 rfl rfl lt95 (mo_3 (by first | exact md_M y1 | exact md_M ys | exact md_M y1)) kk) ?_
      refine Sx.up (fun _ kk => r_bipush (12) 178 dX12_readLine_176 rfl (by decide) kk) ?_
      refine Sx.up (fun _ kk => r_aload_n 179 dX12_readLine_178 rfl rfl kk) ?_
      refine Sx.up (fun _ kk => r_iconst (0) 180 dX12_readLine_179 rfl (by decide) kk) ?_
      refine Sx.up (fun _ kk => r_bipush (60) 182 dX12_readLine_180 rfl (by decide) kk) ?_
      obtain ⟨_, ⟨E2, v2, rfl, y2, hv2, w2⟩, hcl2⟩ := md_rnM (d := d + 43) (lo := 0) (hi := 60) y1 rfl rfl (by decide) (by decide)
      refine Sx.up (fun _ kk => r_callV 185 dX12_readLine_182 rfl k12_239 hcl2 rfl rfl rfl (by decide) rfl lt95 (Nat.le_of_ble_eq_true rfl) kk) ?_
      have yt := md_scal (i := 3) (v := v2) y2 (by decide)
      rw [sc_eq hv2] at yt
      refine Sx.up (fun _ kk => r_iastN (12) 186 dX12_readLine_185 rfl rfl (Nat.le_of_ble_eq_true rfl) (by decide) (Nat.le_of_ble_eq_true rfl) (Nat.le_of_ble_eq_true rfl) kk) ?_
      refine Sx.up (fun _ kk => r_goto 253 dX12_readLine_186 (by decide) kk) ?_
      exact k253 4 _ _ _ yt hln (x5_sc (by decide) (x5_tk (x5_on hx5)))
    have hkd : (4 : Int32) &&& bX B 5 = bX B 5 &&& 4 := Int32.and_comm _ _
    by_cases ho : bX B 5 &&& 4 = 0
    · refine Sx.up (fun _ kk => r_aload_n 1 dX12_readLine_0 rfl rfl kk) ?_
      refine Sx.up (fun _ kk => r_ldcwS (i := 31) 4 dX12_readLine_1 rfl rfl kk) ?_
      refine Sx.up (fun _ kk => r_callV 7 dX12_readLine_4 rfl k12_222 (md_is (d := d + 41) (i := 31) (q := ("SpoonRowModel", 279, "bed", w_bed)) y1 rfl) rfl rfl rfl (by decide) rfl lt95 (Nat.le_of_ble_eq_true rfl) kk) ?_
      refine Sx.up (fun _ kk => r_if_eq 10 14 dX12_readLine_7 rfl (by decide) (fun _ => kk) (fun h7 => absurd (bI_f n_bed) h7)) ?_
      refine Sx.up (fun _ kk => r_aload_n 15 dX12_readLine_14 rfl rfl kk) ?_
      refine Sx.up (fun _ kk => r_ldcwS (i := 32) 18 dX12_readLine_15 rfl rfl kk) ?_
      refine Sx.up (fun _ kk => r_callV 21 dX12_readLine_18 rfl k12_222 (md_is (d := d + 41) (i := 32) (q := ("SpoonRowModel", 281, "night", w_night)) y1 rfl) rfl rfl rfl (by decide) rfl lt95 (Nat.le_of_ble_eq_true rfl) kk) ?_
      refine Sx.up (fun _ kk => r_if_eq 24 28 dX12_readLine_21 rfl (by decide) (fun _ => kk) (fun h21 => absurd (bI_f n_night) h21)) ?_
      refine Sx.up (fun _ kk => r_aload_n 29 dX12_readLine_28 rfl rfl kk) ?_
      refine Sx.up (fun _ kk => r_ldcwS (i := 33) 32 dX12_readLine_29 rfl rfl kk) ?_
      refine Sx.up (fun _ kk => r_callV 35 dX12_readLine_32 rfl k12_222 (md_is (d := d + 41) (i := 33) (q := ("SpoonRowModel", 283, "awake", w_awake)) y1 rfl) rfl rfl rfl (by decide) rfl lt95 (Nat.le_of_ble_eq_true rfl) kk) ?_
      refine Sx.up (fun _ kk => r_if_eq 38 42 dX12_readLine_35 rfl (by decide) (fun h35 => absurd h35 (by rw [bI_t n_awake]; decide)) (fun _ => kk)) ?_
      refine Sx.up (fun _ kk => r_iconst (4) 39 dX12_readLine_38 rfl (by decide) kk) ?_
      refine Sx.up (fun _ kk => r_goto 58 dX12_readLine_39 (by decide) kk) ?_
      refine Sx.up (fun _ kk => r_istore_n 59 dX12_readLine_58 rfl (by decide) rfl kk) ?_
      refine Sx.up (fun _ kk => r_aload_n 60 dX12_readLine_59 rfl rfl kk) ?_
      refine Sx.up (fun _ kk => r_ldcwS (i := 35) 63 dX12_readLine_60 rfl rfl kk) ?_
      refine Sx.up (fun _ kk => r_callV 66 dX12_readLine_63 rfl k12_222 (md_is (d := d + 41) (i := 35) (q := ("SpoonRowModel", 287, "dog", w_dog)) y1 rfl) rfl rfl rfl (by decide) rfl lt95 (Nat.le_of_ble_eq_true rfl) kk) ?_
      refine Sx.up (fun _ kk => r_if_eq 69 73 dX12_readLine_66 rfl (by decide) (fun _ => kk) (fun h66 => absurd (bI_f n_dog) h66)) ?_
      refine Sx.up (fun _ kk => r_aload_n 74 dX12_readLine_73 rfl rfl kk) ?_
      refine Sx.up (fun _ kk => r_aload_n 75 dX12_readLine_74 rfl rfl kk) ?_
      refine Sx.up (fun _ kk => r_getR 78 dX12_readLine_75 rfl f12_17 rfl rfl lt95 (mo_0 (md_M y1)) kk) ?_
      refine Sx.up (fun _ kk => r_callV 81 dX12_readLine_78 rfl k12_245 hwh rfl rfl rfl (by decide) rfl lt95 (Nat.le_of_ble_eq_true rfl) kk) ?_
      refine Sx.up (fun _ kk => r_istore_n 82 dX12_readLine_81 rfl (by decide) rfl kk) ?_
      refine Sx.up (fun _ kk => r_iload_n 83 dX12_readLine_82 rfl rfl kk) ?_
      refine Sx.up (fun _ kk => r_iload_n 84 dX12_readLine_83 rfl rfl kk) ?_
      refine Sx.up (fun _ kk => r_iand 85 dX12_readLine_84 rfl kk) ?_
      refine Sx.up (fun _ kk => r_if_eq 88 93 dX12_readLine_85 rfl (by decide) (fun _ => kk) (fun h85 => absurd (hkd.trans ho) h85)) ?_
      refine Sx.up (fun _ kk => r_iload_n 94 dX12_readLine_93 rfl rfl kk) ?_
      refine Sx.up (fun _ kk => r_if_le 97 197 dX12_readLine_94 rfl (by decide) (fun h94 => absurd h94 (by decide)) (fun _ => kk)) ?_
      refine Sx.up (fun _ kk => r_aload_n 98 dX12_readLine_97 rfl rfl kk) ?_
      refine Sx.up (fun _ kk => r_getI 101 dX12_readLine_98 rfl f12_208 rfl rfl lt95 kk) ?_
      refine Sx.up (fun _ kk => r_if_ne 104 108 dX12_readLine_101 rfl (by decide) (fun h101 => absurd h101 (fun z => z hb1)) (fun _ => kk)) ?_
      refine Sx.up (fun _ kk => r_aload_n 105 dX12_readLine_104 rfl rfl kk) ?_
      obtain ⟨_, ⟨E9, rfl, y9⟩, hcl9⟩ := md_adv (d := d + 44) y1 ⟨_, rfl⟩
      have y9 := md_set5 (v := bX B 5 ||| 4) y9
      refine Sx.up (fun _ kk => r_callV 108 dX12_readLine_105 rfl k12_233 hcl9 rfl rfl rfl (by decide) rfl lt95 (Nat.le_of_ble_eq_true rfl) kk) ?_
      exact k108 E9 (by rw [on_a ho]; exact y9)
    · refine Sx.up (fun _ kk => r_aload_n 1 dX12_readLine_0 rfl rfl kk) ?_
      refine Sx.up (fun _ kk => r_ldcwS (i := 31) 4 dX12_readLine_1 rfl rfl kk) ?_
      refine Sx.up (fun _ kk => r_callV 7 dX12_readLine_4 rfl k12_222 (md_is (d := d + 41) (i := 31) (q := ("SpoonRowModel", 279, "bed", w_bed)) y1 rfl) rfl rfl rfl (by decide) rfl lt95 (Nat.le_of_ble_eq_true rfl) kk) ?_
      refine Sx.up (fun _ kk => r_if_eq 10 14 dX12_readLine_7 rfl (by decide) (fun _ => kk) (fun h7 => absurd (bI_f n_bed) h7)) ?_
      refine Sx.up (fun _ kk => r_aload_n 15 dX12_readLine_14 rfl rfl kk) ?_
      refine Sx.up (fun _ kk => r_ldcwS (i := 32) 18 dX12_readLine_15 rfl rfl kk) ?_
      refine Sx.up (fun _ kk => r_callV 21 dX12_readLine_18 rfl k12_222 (md_is (d := d + 41) (i := 32) (q := ("SpoonRowModel", 281, "night", w_night)) y1 rfl) rfl rfl rfl (by decide) rfl lt95 (Nat.le_of_ble_eq_true rfl) kk) ?_
      refine Sx.up (fun _ kk => r_if_eq 24 28 dX12_readLine_21 rfl (by decide) (fun _ => kk) (fun h21 => absurd (bI_f n_night) h21)) ?_
      refine Sx.up (fun _ kk => r_aload_n 29 dX12_readLine_28 rfl rfl kk) ?_
      refine Sx.up (fun _ kk => r_ldcwS (i := 33) 32 dX12_readLine_29 rfl rfl kk) ?_
      refine Sx.up (fun _ kk => r_callV 35 dX12_readLine_32 rfl k12_222 (md_is (d := d + 41) (i := 33) (q := ("SpoonRowModel", 283, "awake", w_awake)) y1 rfl) rfl rfl rfl (by decide) rfl lt95 (Nat.le_of_ble_eq_true rfl) kk) ?_
      refine Sx.up (fun _ kk => r_if_eq 38 42 dX12_readLine_35 rfl (by decide) (fun h35 => absurd h35 (by rw [bI_t n_awake]; decide)) (fun _ => kk)) ?_
      refine Sx.up (fun _ kk => r_iconst (4) 39 dX12_readLine_38 rfl (by decide) kk) ?_
      refine Sx.up (fun _ kk => r_goto 58 dX12_readLine_39 (by decide) kk) ?_
      refine Sx.up (fun _ kk => r_istore_n 59 dX12_readLine_58 rfl (by decide) rfl kk) ?_
      refine Sx.up (fun _ kk => r_aload_n 60 dX12_readLine_59 rfl rfl kk) ?_
      refine Sx.up (fun _ kk => r_ldcwS (i := 35) 63 dX12_readLine_60 rfl rfl kk) ?_
      refine Sx.up (fun _ kk => r_callV 66 dX12_readLine_63 rfl k12_222 (md_is (d := d + 41) (i := 35) (q := ("SpoonRowModel", 287, "dog", w_dog)) y1 rfl) rfl rfl rfl (by decide) rfl lt95 (Nat.le_of_ble_eq_true rfl) kk) ?_
      refine Sx.up (fun _ kk => r_if_eq 69 73 dX12_readLine_66 rfl (by decide) (fun _ => kk) (fun h66 => absurd (bI_f n_dog) h66)) ?_
      refine Sx.up (fun _ kk => r_aload_n 74 dX12_readLine_73 rfl rfl kk) ?_
      refine Sx.up (fun _ kk => r_aload_n 75 dX12_readLine_74 rfl rfl kk) ?_
      refine Sx.up (fun _ kk => r_getR 78 dX12_readLine_75 rfl f12_17 rfl rfl lt95 (mo_0 (md_M y1)) kk) ?_
      refine Sx.up (fun _ kk => r_callV 81 dX12_readLine_78 rfl k12_245 hwh rfl rfl rfl (by decide) rfl lt95 (Nat.le_of_ble_eq_true rfl) kk) ?_
      refine Sx.up (fun _ kk => r_istore_n 82 dX12_readLine_81 rfl (by decide) rfl kk) ?_
      refine Sx.up (fun _ kk => r_iload_n 83 dX12_readLine_82 rfl rfl kk) ?_
      refine Sx.up (fun _ kk => r_iload_n 84 dX12_readLine_83 rfl rfl kk) ?_
      refine Sx.up (fun _ kk => r_iand 85 dX12_readLine_84 rfl kk) ?_
      refine Sx.up (fun _ kk => r_if_eq 88 93 dX12_readLine_85 rfl (by decide) (fun h85 => absurd h85 (fun z => ho (hkd.symm.trans z))) (fun _ => kk)) ?_
      refine Sx.up (fun _ kk => r_aload_n 89 dX12_readLine_88 rfl rfl kk) ?_
      refine Sx.up (fun _ kk => r_iconst (5) 90 dX12_readLine_89 rfl (by decide) kk) ?_
      obtain ⟨_, ⟨E9, rfl, y9⟩, hcl9⟩ := md_wrong (d := d + 45) y1 (k := 5) (k9 := 5) rfl (by decide) (by decide)
      refine Sx.up (fun _ kk => r_callV 93 dX12_readLine_90 rfl k12_229 hcl9 rfl rfl rfl (by decide) rfl lt95 (Nat.le_of_ble_eq_true rfl) kk) ?_
      refine Sx.up (fun _ kk => r_iload_n 94 dX12_readLine_93 rfl rfl kk) ?_
      refine Sx.up (fun _ kk => r_if_le 97 197 dX12_readLine_94 rfl (by decide) (fun h94 => absurd h94 (by decide)) (fun _ => kk)) ?_
      refine Sx.up (fun _ kk => r_aload_n 98 dX12_readLine_97 rfl rfl kk) ?_
      refine Sx.up (fun _ kk => r_getI 101 dX12_readLine_98 rfl f12_208 rfl rfl lt95 kk) ?_
      refine Sx.up (fun _ kk => r_if_ne 104 108 dX12_readLine_101 rfl (by decide) (fun _ => kk) (fun h101 => absurd h101 (md_1b y9))) ?_
      exact k108 E9 (by rw [on_b ho]; exact y9)
  have hwk : whF T (.inr (a, B)) w_kinds 0 = -1 := by unfold w_kinds; unfold whF; rw [if_neg n_sleeper]; unfold whF; rw [if_neg n_child]; unfold whF; rw [if_neg n_snorer]; rfl
  rw [hwk] at hwh
  have hln : lineS T (.inr (a, B)) = fltS 1 (.inr (a, B)) := by unfold lineS; rw [if_neg n_sleeper, if_neg n_child, if_neg n_snorer, if_neg n_dog, if_neg n_bolster, if_neg n_never, if_neg n_wakes, if_neg n_bed, if_neg n_night, if_neg n_awake]
  refine Sx.up (fun _ kk => r_aload_n 1 dX12_readLine_0 rfl rfl kk) ?_
  refine Sx.up (fun _ kk => r_ldcwS (i := 31) 4 dX12_readLine_1 rfl rfl kk) ?_
  refine Sx.up (fun _ kk => r_callV 7 dX12_readLine_4 rfl k12_222 (md_is (d := d + 41) (i := 31) (q := ("SpoonRowModel", 279, "bed", w_bed)) y1 rfl) rfl rfl rfl (by decide) rfl lt95 (Nat.le_of_ble_eq_true rfl) kk) ?_
  refine Sx.up (fun _ kk => r_if_eq 10 14 dX12_readLine_7 rfl (by decide) (fun _ => kk) (fun h7 => absurd (bI_f n_bed) h7)) ?_
  refine Sx.up (fun _ kk => r_aload_n 15 dX12_readLine_14 rfl rfl kk) ?_
  refine Sx.up (fun _ kk => r_ldcwS (i := 32) 18 dX12_readLine_15 rfl rfl kk) ?_
  refine Sx.up (fun _ kk => r_callV 21 dX12_readLine_18 rfl k12_222 (md_is (d := d + 41) (i := 32) (q := ("SpoonRowModel", 281, "night", w_night)) y1 rfl) rfl rfl rfl (by decide) rfl lt95 (Nat.le_of_ble_eq_true rfl) kk) ?_
  refine Sx.up (fun _ kk => r_if_eq 24 28 dX12_readLine_21 rfl (by decide) (fun _ => kk) (fun h21 => absurd (bI_f n_night) h21)) ?_
  refine Sx.up (fun _ kk => r_aload_n 29 dX12_readLine_28 rfl rfl kk) ?_
  refine Sx.up (fun _ kk => r_ldcwS (i := 33) 32 dX12_readLine_29 rfl rfl kk) ?_
  refine Sx.up (fun _ kk => r_callV 35 dX12_readLine_32 rfl k12_222 (md_is (d := d + 41) (i := 33) (q := ("SpoonRowModel", 283, "awake", w_awake)) y1 rfl) rfl rfl rfl (by decide) rfl lt95 (Nat.le_of_ble_eq_true rfl) kk) ?_
  refine Sx.up (fun _ kk => r_if_eq 38 42 dX12_readLine_35 rfl (by decide) (fun _ => kk) (fun h35 => absurd (bI_f n_awake) h35)) ?_
  refine Sx.up (fun _ kk => r_aload_n 43 dX12_readLine_42 rfl rfl kk) ?_
  refine Sx.up (fun _ kk => r_ldcwS (i := 34) 46 dX12_readLine_43 rfl rfl kk) ?_
  refine Sx.up (fun _ kk => r_callV 49 dX12_readLine_46 rfl k12_222 (md_is (d := d + 41) (i := 34) (q := ("SpoonRowModel", 285, "wakes", w_wakes)) y1 rfl) rfl rfl rfl (by decide) rfl lt95 (Nat.le_of_ble_eq_true rfl) kk) ?_
  refine Sx.up (fun _ kk => r_if_eq 52 57 dX12_readLine_49 rfl (by decide) (fun _ => kk) (fun h49 => absurd (bI_f n_wakes) h49)) ?_
  refine Sx.up (fun _ kk => r_iconst (0) 58 dX12_readLine_57 rfl (by decide) kk) ?_
  refine Sx.up (fun _ kk => r_istore_n 59 dX12_readLine_58 rfl (by decide) rfl kk) ?_
  refine Sx.up (fun _ kk => r_aload_n 60 dX12_readLine_59 rfl rfl kk) ?_
  refine Sx.up (fun _ kk => r_ldcwS (i := 35) 63 dX12_readLine_60 rfl rfl kk) ?_
  refine Sx.up (fun _ kk => r_callV 66 dX12_readLine_63 rfl k12_222 (md_is (d := d + 41) (i := 35) (q := ("SpoonRowModel", 287, "dog", w_dog)) y1 rfl) rfl rfl rfl (by decide) rfl lt95 (Nat.le_of_ble_eq_true rfl) kk) ?_
  refine Sx.up (fun _ kk => r_if_eq 69 73 dX12_readLine_66 rfl (by decide) (fun _ => kk) (fun h66 => absurd (bI_f n_dog) h66)) ?_
  refine Sx.up (fun _ kk => r_aload_n 74 dX12_readLine_73 rfl rfl kk) ?_
  refine Sx.up (fun _ kk => r_aload_n 75 dX12_readLine_74 rfl rfl kk) ?_
  refine Sx.up (fun _ kk => r_getR 78 dX12_readLine_75 rfl f12_17 rfl rfl lt95 (mo_0 (md_M y1)) kk) ?_
  refine Sx.up (fun _ kk => r_callV 81 dX12_readLine_78 rfl k12_245 hwh rfl rfl rfl (by decide) rfl lt95 (Nat.le_of_ble_eq_true rfl) kk) ?_
  refine Sx.up (fun _ kk => r_istore_n 82 dX12_readLine_81 rfl (by decide) rfl kk) ?_
  refine Sx.up (fun _ kk => r_iload_n 83 dX12_readLine_82 rfl rfl kk) ?_
  refine Sx.up (fun _ kk => r_iload_n 84 dX12_readLine_83 rfl rfl kk) ?_
  refine Sx.up (fun _ kk => r_iand 85 dX12_readLine_84 rfl kk) ?_
  refine Sx.up (fun _ kk => r_if_eq 88 93 dX12_readLine_85 rfl (by decide) (fun _ => kk) (fun h85 => absurd (Int32.zero_and) h85)) ?_
  refine Sx.up (fun _ kk => r_iload_n 94 dX12_readLine_93 rfl rfl kk) ?_
  refine Sx.up (fun _ kk => r_if_le 97 197 dX12_readLine_94 rfl (by decide) (fun _ => kk) (fun h94 => absurd (by decide) h94)) ?_
  refine Sx.up (fun _ kk => r_iload_n 198 dX12_readLine_197 rfl rfl kk) ?_
  refine Sx.up (fun _ kk => r_iconst (-1) 199 dX12_readLine_198 rfl (by decide) kk) ?_
  refine Sx.up (fun _ kk => r_icmp_eq 202 210 dX12_readLine_199 rfl (by decide) (fun _ => kk) (fun h199 => absurd rfl h199)) ?_
  refine Sx.up (fun _ kk => r_aload_n 211 dX12_readLine_210 rfl rfl kk) ?_
  refine Sx.up (fun _ kk => r_ldcwS (i := 39) 214 dX12_readLine_211 rfl rfl kk) ?_
  refine Sx.up (fun _ kk => r_callV 217 dX12_readLine_214 rfl k12_222 (md_is (d := d + 41) (i := 39) (q := ("SpoonRowModel", 292, "bolster", w_bolster)) y1 rfl) rfl rfl rfl (by decide) rfl lt95 (Nat.le_of_ble_eq_true rfl) kk) ?_
  refine Sx.up (fun _ kk => r_if_eq 220 227 dX12_readLine_217 rfl (by decide) (fun _ => kk) (fun h217 => absurd (bI_f n_bolster) h217)) ?_
  refine Sx.up (fun _ kk => r_aload_n 228 dX12_readLine_227 rfl rfl kk) ?_
  refine Sx.up (fun _ kk => r_ldcwS (i := 40) 231 dX12_readLine_228 rfl rfl kk) ?_
  refine Sx.up (fun _ kk => r_callV 234 dX12_readLine_231 rfl k12_222 (md_is (d := d + 41) (i := 40) (q := ("SpoonRowModel", 297, "never", w_never)) y1 rfl) rfl rfl rfl (by decide) rfl lt95 (Nat.le_of_ble_eq_true rfl) kk) ?_
  refine Sx.up (fun _ kk => r_if_ne 237 242 dX12_readLine_234 rfl (by decide) (fun h234 => absurd h234 (fun z => z (bI_f n_never))) (fun _ => kk)) ?_
  refine Sx.up (fun _ kk => r_aload_n 238 dX12_readLine_237 rfl rfl kk) ?_
  refine Sx.up (fun _ kk => r_iconst (1) 239 dX12_readLine_238 rfl (by decide) kk) ?_
  obtain ⟨_, ⟨E9, rfl, y9⟩, hcl9⟩ := md_wrong (d := d + 45) y1 (k := 1) (k9 := 1) rfl (by decide) (by decide)
  refine Sx.up (fun _ kk => r_callV 242 dX12_readLine_239 rfl k12_229 hcl9 rfl rfl rfl (by decide) rfl lt95 (Nat.le_of_ble_eq_true rfl) kk) ?_
  refine Sx.up (fun _ kk => r_aload_n 243 dX12_readLine_242 rfl rfl kk) ?_
  refine Sx.up (fun _ kk => r_getI 246 dX12_readLine_243 rfl f12_208 rfl rfl lt95 kk) ?_
  refine Sx.up (fun _ kk => r_if_ne 249 253 dX12_readLine_246 rfl (by decide) (fun _ => kk) (fun h246 => absurd h246 (md_1b y9))) ?_
  exact k253 0 E9 _ _ y9 hln (by rw [show bX B 5 ||| 0 = bX B 5 from Int32.or_zero]; exact x5_flt)
