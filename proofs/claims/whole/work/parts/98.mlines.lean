/-! The model's reader: lines -/
/-- what stands in the second halves beside who is told -/
theorem md_sA {E0 E : HP} {T : TX} {s : PS} {a i m : Nat} {v : Int32} (y1 : CMd E0 E T s) (ha : (a, m) ∈ halfL) (h98 : a ≠ 98) (h106 : a ≠ 106) (hi : m ≤ i) (hB : ∀ p B, s = .inr (p, B) → (if a = 100 then 2 * (7 + bC B) else 7 + bC B) ≤ i) : CMd E0 (sA E a i v) T s := by
  have hM : MF [] [a] E (sA E a i v) := mf_sA (by simp) mf_rfl
  have h8 := half_ck (a, m) ha (a, m) ha
  have hT : TmF (sA E a i v) T := tmf_mf hM (by decide) (by intro z; have := List.mem_singleton.mp z; subst this; exact absurd h8.1 (show ¬ (108 : Nat) ∈ asP by decide)) (md_F y1)
  refine ⟨⟨md_T y1, hT, hf_sA y1.1.2.2 ha hi⟩, ?_⟩
  cases s with
  | inl x => exact y1.2
  | inr x =>
    obtain ⟨p, B⟩ := x
    obtain ⟨c1, c2, c3, o1, o2, o3, o4, o5, o6, o7, o8, o9, o10⟩ := id y1.2
    have hb := hB p B rfl
    have hg : ∀ k j, ¬ (k = a ∧ j = i) → gA (sA E a i v) k j = gA E k j := fun k j z => by rw [gA_sA, if_neg z]
    refine ⟨c1, c2, c3, (hg _ _ (by omega)).trans o1, o2, fun q hq => ?_, o4, fun j hj => (hg _ _ (by omega)).trans (o5 j hj), (hg _ _ (by omega)).trans o6, o7, (hg _ _ (by omega)).trans o8, o9, fun j hj => (hg _ _ (by omega)).trans (o10 j hj)⟩
    obtain ⟨q1, q2, q3, q4, q5, q6, q7, q8⟩ := o3 q hq
    have n : ∀ k, k ≠ 100 → ¬ (k = a ∧ 7 + q = i) := fun k hk z => by
      rw [if_neg (by omega)] at hb
      omega
    have n2 : ∀ j, j ≤ 1 → ¬ (100 = a ∧ 2 * (7 + q) + j = i) := fun j hj z => by
      rw [if_pos (by omega)] at hb
      omega
    exact ⟨(hg _ _ (n _ (by decide))).trans q1, (hg _ _ (n2 0 (by decide))).trans q2, (hg _ _ (n2 1 (by decide))).trans q3, (hg _ _ (n _ (by decide))).trans q4, (hg _ _ (n _ (by decide))).trans q5, (hg _ _ (n _ (by decide))).trans q6, (hg _ _ (n _ (by decide))).trans q7, (hg _ _ (n _ (by decide))).trans q8⟩
theorem md_told {E0 E : HP} {T : TX} {s : PS} {f : Nat → Int32} {v : Int32} (y1 : CMd E0 E T s) (hv : ∀ p B, s = .inr (p, B) → v = nI (bC B) + 1 ∧ bC B < 7 ∧ gA E 99 (7 + bC B) = f 1 ∧ gA E 100 (2 * (7 + bC B)) = f 2 ∧ gA E 100 (2 * (7 + bC B) + 1) = f 3 ∧ gA E 101 (7 + bC B) = f 4 ∧ gA E 102 (7 + bC B) = f 5 ∧ gA E 103 (7 + bC B) = f 6 ∧ gA E 104 (7 + bC B) = f 7 ∧ gA E 105 (7 + bC B) = 0) : CMd E0 (sA E 98 8 v) T (slS f s) := by
  have hM : MF [] [98] E (sA E 98 8 v) := mf_sA (by simp) mf_rfl
  have hT : TmF (sA E 98 8 v) T := tmf_mf hM (by decide) (by decide) (md_F y1)
  refine ⟨⟨md_T y1, hT, hf_sA y1.1.2.2 (m := 8) (by decide) (Nat.le_refl _)⟩, ?_⟩
  cases s with
  | inl x => exact y1.2
  | inr x =>
    obtain ⟨p, B⟩ := x
    obtain ⟨c1, c2, c3, o1, o2, o3, o4, o5, o6, o7, o8, o9, o10⟩ := id y1.2
    obtain ⟨rfl, h7, f1, f2, f3, f4, f5, f6, f7, f8⟩ := hv p B rfl
    have hg : ∀ j, j ≠ 8 → gA (sA E 98 8 (nI (bC B) + 1)) 98 j = gA E 98 j := fun j z => by rw [gA_sA, if_neg (fun y => z y.2)]
    have ho : ∀ k, k ≠ 98 → gA (sA E 98 8 (nI (bC B) + 1)) k = gA E k := fun k hk => mf_gA hM (by simp [hk])
    refine ⟨c1, c2, c3, ?_, ?_, fun q hq => ?_, fun q h1 h2 => ?_, fun j hj => (hg _ (by omega)).trans (o5 j hj), (hg _ (by decide)).trans o6, o7, (hg _ (by decide)).trans o8, o9, fun j hj => by rw [ho 106 (by decide)]; exact o10 j hj⟩
    · rw [gA_sA, if_pos ⟨rfl, rfl⟩, nI_pp]; rfl
    · show bC B + 1 ≤ 7; omega
    · have hq : q < bC B + 1 := hq
      rw [ho 99 (by decide), ho 100 (by decide), ho 101 (by decide), ho 102 (by decide), ho 103 (by decide), ho 104 (by decide), ho 105 (by decide)]
      have e : ∀ k, bL (B.1 + 1, (fun k s => if s = B.1 then f k else B.2.1 k s), B.2.2) k q = if q = bC B then f k else bL B k q := fun _ => rfl
      show gA E 99 (7 + q) = bL (B.1 + 1, (fun k s => if s = B.1 then f k else B.2.1 k s), B.2.2) 1 q ∧ gA E 100 (2 * (7 + q)) = bL (B.1 + 1, (fun k s => if s = B.1 then f k else B.2.1 k s), B.2.2) 2 q ∧ gA E 100 (2 * (7 + q) + 1) = bL (B.1 + 1, (fun k s => if s = B.1 then f k else B.2.1 k s), B.2.2) 3 q ∧ gA E 101 (7 + q) = bL (B.1 + 1, (fun k s => if s = B.1 then f k else B.2.1 k s), B.2.2) 4 q ∧ gA E 102 (7 + q) = bL (B.1 + 1, (fun k s => if s = B.1 then f k else B.2.1 k s), B.2.2) 5 q ∧ gA E 103 (7 + q) = bL (B.1 + 1, (fun k s => if s = B.1 then f k else B.2.1 k s), B.2.2) 6 q ∧ gA E 104 (7 + q) = bL (B.1 + 1, (fun k s => if s = B.1 then f k else B.2.1 k s), B.2.2) 7 q ∧ gA E 105 (7 + q) = bE B q
      rw [e, e, e, e, e, e, e]
      by_cases h9 : q = bC B
      · subst h9
        simp only [if_true]
        exact ⟨f1, f2, f3, f4, f5, f6, f7, f8.trans (o4 _ (Nat.le_refl _) h7).symm⟩
      · simp only [if_neg h9]
        exact o3 q (by omega)
    · have h1 : bC B + 1 ≤ q := h1
      exact o4 q (by omega) h2
theorem tk_inl {T : TX} {lo hi : Nat} (x : Nat × Nat) : tkS T lo hi (.inl x) = .inl x := rfl
theorem bcS {T : TX} {lo hi c : Nat} {s : PS} (h : ∀ p B, s = .inr (p, B) → bC B = c) : ∀ p B, tkS T lo hi s = .inr (p, B) → bC B = c := fun p B z => by
  obtain ⟨a0, e, -⟩ := tk_live z
  exact h _ _ e
theorem dbl7 (k : Nat) : 2 * nI k = nI (2 * k) := (Int32.ofNat_mul 2 k).symm
theorem pe_dead {T : TX} {kd : Int32} {s : PS} {x : Nat × Nat} (h : newS T s = .inl x) : peS T kd s = .inl x := by
  unfold peS
  rw [h]; rfl
theorem dg_dead {T : TX} {s : PS} {x : Nat × Nat} (h : newS T s = .inl x) : dgS T s = .inl x := by
  unfold dgS
  rw [h]; rfl
set_option maxHeartbeats 16000000 in
set_option maxRecDepth 20000 in
theorem md_sleep {d : Nat} {E0 E : HP} {T : TX} {a : Nat} {B : BD} {kd : Int32} (y1 : CMd E0 E T (.inr (a, B))) (hk : kd = 3 ∨ ¬ kd = 3) : ∃ o, (∃ E2, o = (.inl none, E2, 137) ∧ CMd E0 E2 T (if kd = 3 then dgS T (.inr (a, B)) else peS T kd (.inr (a, B)))) ∧ Cl yX12_readSleeper mX12_readSleeper (d + 3) 0 0 [.ref 95, .int kd] E 137 o := by
  have hb := md_0b y1 ⟨_, rfl⟩
  obtain ⟨c1, c2, c3, o1, o2, o3, o4, o5, o6, o7, o8, o9, o10⟩ := id y1.2
  refine Cx.of (by decide) rfl (fun q => by cases q) rfl rfl (Nat.le_of_ble_eq_true rfl) ?_
  show Sx _ _ _ _ _ 0 [some (.ref 95), some (.int (kd)), none, none] [] _ _
  by_cases h7 : bC B = 7
  · have hn : newS T (.inr (a, B)) = .inl (2, a) := if_pos (by omega)
    rw [pe_dead hn, dg_dead hn, ite_self]
    refine Sx.up (fun _ kk => r_aload_n 1 dX12_readSleeper_0 rfl rfl kk) ?_
    refine Sx.up (fun _ kk => r_getR 4 dX12_readSleeper_1 rfl f12_38 rfl rfl lt95 (mo_3 (md_M y1)) kk) ?_
    refine Sx.up (fun _ kk => r_bipush (8) 6 dX12_readSleeper_4 rfl (by decide) kk) ?_
    refine Sx.up (fun _ kk => r_ialdN (8) (nI (bC B)) 7 dX12_readSleeper_6 rfl rfl (Nat.le_of_ble_eq_true rfl) (by decide) (Nat.le_of_ble_eq_true rfl) (Nat.le_of_ble_eq_true rfl) (o1) kk) ?_
    refine Sx.up (fun _ kk => r_bipush (7) 9 dX12_readSleeper_7 rfl (by decide) kk) ?_
    refine Sx.up (fun _ kk => r_icmp_ne 12 17 dX12_readSleeper_9 rfl (by decide) (fun h9 => absurd h9 (fun z => z (by rw [h7]; rfl))) (fun _ => kk)) ?_
    refine Sx.up (fun _ kk => r_aload_n 13 dX12_readSleeper_12 rfl rfl kk) ?_
    refine Sx.up (fun _ kk => r_iconst (2) 14 dX12_readSleeper_13 rfl (by decide) kk) ?_
    obtain ⟨_, ⟨E2, rfl, y2⟩, hcl2⟩ := md_wrong (d := d + 2) y1 (k := 2) (k9 := 2) rfl (by decide) (by decide)
    refine Sx.up (fun _ kk => r_callV (M := mX12_readSleeper) (pc := 14) 17 dX12_readSleeper_14 rfl k12_229 hcl2 rfl rfl rfl (by decide) rfl lt95 (Nat.le_of_ble_eq_true rfl) kk) ?_
    refine Sx.up (fun _ kk => r_aload_n 18 dX12_readSleeper_17 rfl rfl kk) ?_
    refine Sx.up (fun _ kk => r_getI 21 dX12_readSleeper_18 rfl f12_208 rfl rfl lt95 kk) ?_
    refine Sx.up (fun _ kk => r_if_eq 24 25 dX12_readSleeper_21 rfl (by decide) (fun h21 => absurd h21 (md_1b y2)) (fun _ => kk)) ?_
    refine ⟨_, ?_, r_vret dX12_readSleeper_24 rfl rfl rfl⟩
    exact ⟨_, rfl, y2⟩
  have hn : newS T (.inr (a, B)) = advS T (.inr (a, B)) := if_neg (by omega)
  obtain ⟨c, hc⟩ : ∃ c, bC B = c := ⟨_, rfl⟩
  rw [hc] at o1 h7
  have hc7 : c < 7 := by omega
  obtain ⟨_, ⟨E2, rfl, y2, w2⟩, hcl2⟩ := md_advM (d := d + 1) y1 ⟨_, rfl⟩
  rw [← hn] at y2
  obtain ⟨s1, hs1⟩ : ∃ s1, newS T (.inr (a, B)) = s1 := ⟨_, rfl⟩
  rw [hs1] at y2
  have b1 : ∀ p B', s1 = .inr (p, B') → bC B' = c := fun p B' z => by
    rw [← hs1, hn] at z
    have z := Sum.inr.inj (show (.inr (nxT T a, B) : PS) = .inr (p, B') from z)
    cases z
    exact hc
  have o1b : gA E2 98 8 = nI c := by rw [mf_gA w2 (by decide)]; exact o1
  have i7 : (7 : Int32) + nI c = nI (7 + c) := nI_add 7 c
  have i2 : 2 * nI (7 + c) = nI (2 * (7 + c)) := dbl7 _
  have i21 : 2 * nI (7 + c) + 1 = nI (2 * (7 + c) + 1) := by rw [dbl7, nI_pp]
  have no100 : ∀ {k : Nat} {s : PS}, k ≠ 100 → (∀ p B', s = .inr (p, B') → bC B' = c) → ∀ p B', s = .inr (p, B') → (if k = 100 then 2 * (7 + bC B') else 7 + bC B') ≤ 7 + c := fun hk hs p B' z => by rw [if_neg hk, hs p B' z]; exact Nat.le_refl _
  have y3 := md_sA (a := 99) (i := 7 + c) (m := 7) (v := kd) y2 (by decide) (by decide) (by decide) (by omega) (no100 (by decide) b1)
  by_cases h3 : kd = 3
  · rw [if_pos h3]
    have y4 := md_sA (a := 100) (i := 2 * (7 + c)) (m := 14) (v := 0) y3 (by decide) (by decide) (by decide) (by omega) (fun p B' z => by rw [if_pos rfl, b1 p B' z]; exact Nat.le_refl _)
    have y5 := md_sA (a := 100) (i := 2 * (7 + c) + 1) (m := 14) (v := 0) y4 (by decide) (by decide) (by decide) (by omega) (fun p B' z => by rw [if_pos rfl, b1 p B' z]; omega)
    have y6 := md_sA (a := 101) (i := 7 + c) (m := 7) (v := 0) y5 (by decide) (by decide) (by decide) (by omega) (no100 (by decide) b1)
    obtain ⟨_, ⟨E7, v5, rfl, y7, hv5, w7⟩, hcl7⟩ := md_rnM (d := d) y6 (lo := 1) (hi := 9) rfl rfl (by decide) (by decide)
    have b7 : ∀ p B', tkS T 1 9 s1 = .inr (p, B') → bC B' = c := bcS b1
    have y8 := md_sA (a := 102) (i := 7 + c) (m := 7) (v := v5) y7 (by decide) (by decide) (by decide) (by omega) (no100 (by decide) b7)
    have y9 := md_sA (a := 103) (i := 7 + c) (m := 7) (v := 0) y8 (by decide) (by decide) (by decide) (by omega) (no100 (by decide) b7)
    have y10 := md_sA (a := 104) (i := 7 + c) (m := 7) (v := 0) y9 (by decide) (by decide) (by decide) (by omega) (no100 (by decide) b7)
    have y11 := md_sA (a := 105) (i := 7 + c) (m := 7) (v := 0) y10 (by decide) (by decide) (by decide) (by omega) (no100 (by decide) b7)
    have e7 : ∀ k, gA E7 k = gA (sA (sA (sA (sA E2 99 (7 + c) kd) 100 (2 * (7 + c)) 0) 100 (2 * (7 + c) + 1) 0) 101 (7 + c) 0) k := fun k => w7.2.2.1 k List.not_mem_nil
    have g8 : gA (sA (sA (sA (sA E7 102 (7 + c) v5) 103 (7 + c) 0) 104 (7 + c) 0) 105 (7 + c) 0) 98 8 = nI c := by
      simp only [gA_sA, e7]
      simp [gA_sA, o1b]
    have yf := md_told (f := kd7 3 0 0 0 (nI (vaS T s1)) 0 0) (v := nI c + 1) y11 (fun p B' z => by
      have hB := b7 p B' z
      rw [hB]
      refine ⟨rfl, hc7, ?_, ?_, ?_, ?_, ?_, ?_, ?_, ?_⟩
      · simp only [gA_sA, e7]; simp [gA_sA, kd7, h3]
      · simp only [gA_sA, e7]; simp [gA_sA, kd7]
      · simp only [gA_sA, e7]; simp [gA_sA, kd7]
      · simp only [gA_sA, e7]; simp [gA_sA, kd7]
      · simp [gA_sA, kd7, hv5 p B' z]
      · simp [gA_sA, kd7]
      · simp [gA_sA, kd7]
      · simp [gA_sA])
    have hres : dgS T (.inr (a, B)) = slS (kd7 3 0 0 0 (nI (vaS T s1)) 0 0) (tkS T 1 9 s1) := by unfold dgS; rw [hs1]
    rw [hres]
    refine Sx.up (fun _ kk => r_aload_n 1 dX12_readSleeper_0 rfl rfl kk) ?_
    refine Sx.up (fun _ kk => r_getR 4 dX12_readSleeper_1 rfl f12_38 rfl rfl lt95 (mo_3 (by first | exact md_M y11 | exact md_M y10 | exact md_M y9 | exact md_M y8 | exact md_M y7 | exact md_M y6 | exact md_M y5 | exact md_M y4 | exact md_M y3 | exact md_M y2 | exact md_M y1)) kk) ?_
    refine Sx.up (fun _ kk => r_bipush (8) 6 dX12_readSleeper_4 rfl (by decide) kk) ?_
    refine Sx.up (fun _ kk => r_ialdN (8) (nI c) 7 dX12_readSleeper_6 rfl rfl (Nat.le_of_ble_eq_true rfl) (by decide) (Nat.le_of_ble_eq_true rfl) (Nat.le_of_ble_eq_true rfl) (o1) kk) ?_
    refine Sx.up (fun _ kk => r_bipush (7) 9 dX12_readSleeper_7 rfl (by decide) kk) ?_
    refine Sx.up (fun _ kk => r_icmp_ne 12 17 dX12_readSleeper_9 rfl (by decide) (fun _ => kk) (fun h9 => absurd h9 (fun z => h7 ((nI_eq (b := 7) (by omega) (by omega)).mp z)))) ?_
    refine Sx.up (fun _ kk => r_aload_n 18 dX12_readSleeper_17 rfl rfl kk) ?_
    refine Sx.up (fun _ kk => r_getI 21 dX12_readSleeper_18 rfl f12_208 rfl rfl lt95 kk) ?_
    refine Sx.up (fun _ kk => r_if_eq 24 25 dX12_readSleeper_21 rfl (by decide) (fun _ => kk) (fun h21 => absurd hb h21)) ?_
    refine Sx.up (fun _ kk => r_aload_n 26 dX12_readSleeper_25 rfl rfl kk) ?_
    refine Sx.up (fun _ kk => r_callV (M := mX12_readSleeper) (pc := 26) 29 dX12_readSleeper_26 rfl k12_233 hcl2 rfl rfl rfl (by decide) rfl lt95 (Nat.le_of_ble_eq_true rfl) kk) ?_
    refine Sx.up (fun _ kk => r_bipush (7) 31 dX12_readSleeper_29 rfl (by decide) kk) ?_
    refine Sx.up (fun _ kk => r_aload_n 32 dX12_readSleeper_31 rfl rfl kk) ?_
    refine Sx.up (fun _ kk => r_getR 35 dX12_readSleeper_32 rfl f12_38 rfl rfl lt95 (mo_3 (by first | exact md_M y11 | exact md_M y10 | exact md_M y9 | exact md_M y8 | exact md_M y7 | exact md_M y6 | exact md_M y5 | exact md_M y4 | exact md_M y3 | exact md_M y2 | exact md_M y1)) kk) ?_
    refine Sx.up (fun _ kk => r_bipush (8) 37 dX12_readSleeper_35 rfl (by decide) kk) ?_
    refine Sx.up (fun _ kk => r_ialdN (8) (nI c) 38 dX12_readSleeper_37 rfl rfl (Nat.le_of_ble_eq_true rfl) (by decide) (Nat.le_of_ble_eq_true rfl) (Nat.le_of_ble_eq_true rfl) (o1b) kk) ?_
    refine Sx.up (fun _ kk => r_iadd 39 dX12_readSleeper_38 rfl kk) ?_
    rw [i7]
    refine Sx.up (fun _ kk => r_istore_n 40 dX12_readSleeper_39 rfl (by decide) rfl kk) ?_
    refine Sx.up (fun _ kk => r_iload_n 41 dX12_readSleeper_40 rfl rfl kk) ?_
    refine Sx.up (fun _ kk => r_iconst (3) 42 dX12_readSleeper_41 rfl (by decide) kk) ?_
    refine Sx.up (fun _ kk => r_icmp_ne 45 49 dX12_readSleeper_42 rfl (by decide) (fun h42 => absurd h42 (fun z => z h3)) (fun _ => kk)) ?_
    refine Sx.up (fun _ kk => r_iconst (1) 46 dX12_readSleeper_45 rfl (by decide) kk) ?_
    refine Sx.up (fun _ kk => r_goto 50 dX12_readSleeper_46 (by decide) kk) ?_
    refine Sx.up (fun _ kk => r_istore_n 51 dX12_readSleeper_50 rfl (by decide) rfl kk) ?_
    refine Sx.up (fun _ kk => r_aload_n 52 dX12_readSleeper_51 rfl rfl kk) ?_
    refine Sx.up (fun _ kk => r_getR 55 dX12_readSleeper_52 rfl f12_42 rfl rfl lt95 (mo_4 (by first | exact md_M y11 | exact md_M y10 | exact md_M y9 | exact md_M y8 | exact md_M y7 | exact md_M y6 | exact md_M y5 | exact md_M y4 | exact md_M y3 | exact md_M y2 | exact md_M y1)) kk) ?_
    refine Sx.up (fun _ kk => r_iload_n 56 dX12_readSleeper_55 rfl rfl kk) ?_
    refine Sx.up (fun _ kk => r_iload_n 57 dX12_readSleeper_56 rfl rfl kk) ?_
    refine Sx.up (fun _ kk => r_iastN (7 + c) 58 dX12_readSleeper_57 rfl rfl (Nat.le_of_ble_eq_true rfl) (rfl) (by omega) (Nat.le_of_ble_eq_true rfl) kk) ?_
    refine Sx.up (fun _ kk => r_aload_n 59 dX12_readSleeper_58 rfl rfl kk) ?_
    refine Sx.up (fun _ kk => r_getR 62 dX12_readSleeper_59 rfl f12_45 rfl rfl lt95 (mo_5 (by first | exact md_M y11 | exact md_M y10 | exact md_M y9 | exact md_M y8 | exact md_M y7 | exact md_M y6 | exact md_M y5 | exact md_M y4 | exact md_M y3 | exact md_M y2 | exact md_M y1)) kk) ?_
    refine Sx.up (fun _ kk => r_iconst (2) 63 dX12_readSleeper_62 rfl (by decide) kk) ?_
    refine Sx.up (fun _ kk => r_iload_n 64 dX12_readSleeper_63 rfl rfl kk) ?_
    refine Sx.up (fun _ kk => r_imul 65 dX12_readSleeper_64 rfl kk) ?_
    refine Sx.up (fun _ kk => r_iload_n 66 dX12_readSleeper_65 rfl rfl kk) ?_
    refine Sx.up (fun _ kk => r_if_eq 69 73 dX12_readSleeper_66 rfl (by decide) (fun h66 => absurd h66 (by decide)) (fun _ => kk)) ?_
    refine Sx.up (fun _ kk => r_iconst (0) 70 dX12_readSleeper_69 rfl (by decide) kk) ?_
    refine Sx.up (fun _ kk => r_goto 81 dX12_readSleeper_70 (by decide) kk) ?_
    refine Sx.up (fun _ kk => r_iastN (2 * (7 + c)) 82 dX12_readSleeper_81 rfl rfl (Nat.le_of_ble_eq_true rfl) (i2) (by omega) (Nat.le_of_ble_eq_true rfl) kk) ?_
    refine Sx.up (fun _ kk => r_aload_n 83 dX12_readSleeper_82 rfl rfl kk) ?_
    refine Sx.up (fun _ kk => r_getR 86 dX12_readSleeper_83 rfl f12_45 rfl rfl lt95 (mo_5 (by first | exact md_M y11 | exact md_M y10 | exact md_M y9 | exact md_M y8 | exact md_M y7 | exact md_M y6 | exact md_M y5 | exact md_M y4 | exact md_M y3 | exact md_M y2 | exact md_M y1)) kk) ?_
    refine Sx.up (fun _ kk => r_iconst (2) 87 dX12_readSleeper_86 rfl (by decide) kk) ?_
    refine Sx.up (fun _ kk => r_iload_n 88 dX12_readSleeper_87 rfl rfl kk) ?_
    refine Sx.up (fun _ kk => r_imul 89 dX12_readSleeper_88 rfl kk) ?_
    refine Sx.up (fun _ kk => r_iconst (1) 90 dX12_readSleeper_89 rfl (by decide) kk) ?_
    refine Sx.up (fun _ kk => r_iadd 91 dX12_readSleeper_90 rfl kk) ?_
    refine Sx.up (fun _ kk => r_iload_n 92 dX12_readSleeper_91 rfl rfl kk) ?_
    refine Sx.up (fun _ kk => r_if_eq 95 99 dX12_readSleeper_92 rfl (by decide) (fun h92 => absurd h92 (by decide)) (fun _ => kk)) ?_
    refine Sx.up (fun _ kk => r_iconst (0) 96 dX12_readSleeper_95 rfl (by decide) kk) ?_
    refine Sx.up (fun _ kk => r_goto 107 dX12_readSleeper_96 (by decide) kk) ?_
    refine Sx.up (fun _ kk => r_iastN (2 * (7 + c) + 1) 108 dX12_readSleeper_107 rfl rfl (Nat.le_of_ble_eq_true rfl) (i21) (by omega) (Nat.le_of_ble_eq_true rfl) kk) ?_
    refine Sx.up (fun _ kk => r_aload_n 109 dX12_readSleeper_108 rfl rfl kk) ?_
    refine Sx.up (fun _ kk => r_getR 112 dX12_readSleeper_109 rfl f12_48 rfl rfl lt95 (mo_6 (by first | exact md_M y11 | exact md_M y10 | exact md_M y9 | exact md_M y8 | exact md_M y7 | exact md_M y6 | exact md_M y5 | exact md_M y4 | exact md_M y3 | exact md_M y2 | exact md_M y1)) kk) ?_
    refine Sx.up (fun _ kk => r_iload_n 113 dX12_readSleeper_112 rfl rfl kk) ?_
    refine Sx.up (fun _ kk => r_iload_n 114 dX12_readSleeper_113 rfl rfl kk) ?_
    refine Sx.up (fun _ kk => r_if_eq 117 121 dX12_readSleeper_114 rfl (by decide) (fun h114 => absurd h114 (by decide)) (fun _ => kk)) ?_
    refine Sx.up (fun _ kk => r_iconst (0) 118 dX12_readSleeper_117 rfl (by decide) kk) ?_
    refine Sx.up (fun _ kk => r_goto 128 dX12_readSleeper_118 (by decide) kk) ?_
    refine Sx.up (fun _ kk => r_iastN (7 + c) 129 dX12_readSleeper_128 rfl rfl (Nat.le_of_ble_eq_true rfl) (rfl) (by omega) (Nat.le_of_ble_eq_true rfl) kk) ?_
    refine Sx.up (fun _ kk => r_aload_n 130 dX12_readSleeper_129 rfl rfl kk) ?_
    refine Sx.up (fun _ kk => r_getR 133 dX12_readSleeper_130 rfl f12_50 rfl rfl lt95 (mo_7 (by first | exact md_M y11 | exact md_M y10 | exact md_M y9 | exact md_M y8 | exact md_M y7 | exact md_M y6 | exact md_M y5 | exact md_M y4 | exact md_M y3 | exact md_M y2 | exact md_M y1)) kk) ?_
    refine Sx.up (fun _ kk => r_iload_n 134 dX12_readSleeper_133 rfl rfl kk) ?_
    refine Sx.up (fun _ kk => r_aload_n 135 dX12_readSleeper_134 rfl rfl kk) ?_
    refine Sx.up (fun _ kk => r_iconst (1) 136 dX12_readSleeper_135 rfl (by decide) kk) ?_
    refine Sx.up (fun _ kk => r_bipush (9) 138 dX12_readSleeper_136 rfl (by decide) kk) ?_
    refine Sx.up (fun _ kk => r_callV (M := mX12_readSleeper) (pc := 138) 141 dX12_readSleeper_138 rfl k12_239 hcl7 rfl rfl rfl (by decide) rfl lt95 (Nat.le_of_ble_eq_true rfl) kk) ?_
    refine Sx.up (fun _ kk => r_iastN (7 + c) 142 dX12_readSleeper_141 rfl rfl (Nat.le_of_ble_eq_true rfl) (rfl) (by omega) (Nat.le_of_ble_eq_true rfl) kk) ?_
    refine Sx.up (fun _ kk => r_aload_n 143 dX12_readSleeper_142 rfl rfl kk) ?_
    refine Sx.up (fun _ kk => r_getR 146 dX12_readSleeper_143 rfl f12_53 rfl rfl lt95 (mo_8 (by first | exact md_M y11 | exact md_M y10 | exact md_M y9 | exact md_M y8 | exact md_M y7 | exact md_M y6 | exact md_M y5 | exact md_M y4 | exact md_M y3 | exact md_M y2 | exact md_M y1)) kk) ?_
    refine Sx.up (fun _ kk => r_iload_n 147 dX12_readSleeper_146 rfl rfl kk) ?_
    refine Sx.up (fun _ kk => r_iload_n 148 dX12_readSleeper_147 rfl rfl kk) ?_
    refine Sx.up (fun _ kk => r_if_eq 151 155 dX12_readSleeper_148 rfl (by decide) (fun h148 => absurd h148 (by decide)) (fun _ => kk)) ?_
    refine Sx.up (fun _ kk => r_iconst (0) 152 dX12_readSleeper_151 rfl (by decide) kk) ?_
    refine Sx.up (fun _ kk => r_goto 163 dX12_readSleeper_152 (by decide) kk) ?_
    refine Sx.up (fun _ kk => r_iastN (7 + c) 164 dX12_readSleeper_163 rfl rfl (Nat.le_of_ble_eq_true rfl) (rfl) (by omega) (Nat.le_of_ble_eq_true rfl) kk) ?_
    refine Sx.up (fun _ kk => r_aload_n 165 dX12_readSleeper_164 rfl rfl kk) ?_
    refine Sx.up (fun _ kk => r_getR 168 dX12_readSleeper_165 rfl f12_56 rfl rfl lt95 (mo_9 (by first | exact md_M y11 | exact md_M y10 | exact md_M y9 | exact md_M y8 | exact md_M y7 | exact md_M y6 | exact md_M y5 | exact md_M y4 | exact md_M y3 | exact md_M y2 | exact md_M y1)) kk) ?_
    refine Sx.up (fun _ kk => r_iload_n 169 dX12_readSleeper_168 rfl rfl kk) ?_
    refine Sx.up (fun _ kk => r_iload_n 170 dX12_readSleeper_169 rfl rfl kk) ?_
    refine Sx.up (fun _ kk => r_if_eq 173 177 dX12_readSleeper_170 rfl (by decide) (fun h170 => absurd h170 (by decide)) (fun _ => kk)) ?_
    refine Sx.up (fun _ kk => r_iconst (0) 174 dX12_readSleeper_173 rfl (by decide) kk) ?_
    refine Sx.up (fun _ kk => r_goto 184 dX12_readSleeper_174 (by decide) kk) ?_
    refine Sx.up (fun _ kk => r_iastN (7 + c) 185 dX12_readSleeper_184 rfl rfl (Nat.le_of_ble_eq_true rfl) (rfl) (by omega) (Nat.le_of_ble_eq_true rfl) kk) ?_
    refine Sx.up (fun _ kk => r_aload_n 186 dX12_readSleeper_185 rfl rfl kk) ?_
    refine Sx.up (fun _ kk => r_getR 189 dX12_readSleeper_186 rfl f12_59 rfl rfl lt95 (mo_10 (by first | exact md_M y11 | exact md_M y10 | exact md_M y9 | exact md_M y8 | exact md_M y7 | exact md_M y6 | exact md_M y5 | exact md_M y4 | exact md_M y3 | exact md_M y2 | exact md_M y1)) kk) ?_
    refine Sx.up (fun _ kk => r_iload_n 190 dX12_readSleeper_189 rfl rfl kk) ?_
    refine Sx.up (fun _ kk => r_iconst (0) 191 dX12_readSleeper_190 rfl (by decide) kk) ?_
    refine Sx.up (fun _ kk => r_iastN (7 + c) 192 dX12_readSleeper_191 rfl rfl (Nat.le_of_ble_eq_true rfl) (rfl) (by omega) (Nat.le_of_ble_eq_true rfl) kk) ?_
    refine Sx.up (fun _ kk => r_aload_n 193 dX12_readSleeper_192 rfl rfl kk) ?_
    refine Sx.up (fun _ kk => r_getR 196 dX12_readSleeper_193 rfl f12_38 rfl rfl lt95 (mo_3 (by first | exact md_M y11 | exact md_M y10 | exact md_M y9 | exact md_M y8 | exact md_M y7 | exact md_M y6 | exact md_M y5 | exact md_M y4 | exact md_M y3 | exact md_M y2 | exact md_M y1)) kk) ?_
    refine Sx.up (fun _ kk => r_bipush (8) 198 dX12_readSleeper_196 rfl (by decide) kk) ?_
    refine Sx.up (fun _ kk => r_dup2 199 dX12_readSleeper_198 rfl rfl rfl kk) ?_
    refine Sx.up (fun _ kk => r_ialdN (8) (nI c) 200 dX12_readSleeper_199 rfl rfl (Nat.le_of_ble_eq_true rfl) (by decide) (Nat.le_of_ble_eq_true rfl) (Nat.le_of_ble_eq_true rfl) (g8) kk) ?_
    refine Sx.up (fun _ kk => r_iconst (1) 201 dX12_readSleeper_200 rfl (by decide) kk) ?_
    refine Sx.up (fun _ kk => r_iadd 202 dX12_readSleeper_201 rfl kk) ?_
    refine Sx.up (fun _ kk => r_iastN (8) 203 dX12_readSleeper_202 rfl rfl (Nat.le_of_ble_eq_true rfl) (by decide) (Nat.le_of_ble_eq_true rfl) (Nat.le_of_ble_eq_true rfl) kk) ?_
    refine ⟨_, ?_, r_vret dX12_readSleeper_203 rfl rfl rfl⟩
    exact ⟨_, rfl, yf⟩
  · rw [if_neg h3]
    obtain ⟨_, ⟨E4, v2, rfl, y4, hv2, w4⟩, hcl4⟩ := md_rnM (d := d) y3 (lo := 1) (hi := 240) rfl rfl (by decide) (by decide)
    obtain ⟨s2, hs2⟩ : ∃ s2, tkS T 1 240 s1 = s2 := ⟨_, rfl⟩
    have b2 : ∀ p B', s2 = .inr (p, B') → bC B' = c := by rw [← hs2]; exact bcS b1
    rw [hs2] at y4 hv2
    have y5 := md_sA (a := 100) (i := 2 * (7 + c)) (m := 14) (v := v2) y4 (by decide) (by decide) (by decide) (by omega) (fun p B' z => by rw [if_pos rfl, b2 p B' z]; exact Nat.le_refl _)
    obtain ⟨_, ⟨E6, v3, rfl, y6, hv3, w6⟩, hcl6⟩ := md_rnM (d := d) y5 (lo := 1) (hi := 240) rfl rfl (by decide) (by decide)
    obtain ⟨s3, hs3⟩ : ∃ s3, tkS T 1 240 s2 = s3 := ⟨_, rfl⟩
    have b3 : ∀ p B', s3 = .inr (p, B') → bC B' = c := by rw [← hs3]; exact bcS b2
    rw [hs3] at y6 hv3
    have y7 := md_sA (a := 100) (i := 2 * (7 + c) + 1) (m := 14) (v := v3) y6 (by decide) (by decide) (by decide) (by omega) (fun p B' z => by rw [if_pos rfl, b3 p B' z]; omega)
    obtain ⟨_, ⟨E8, v4, rfl, y8, hv4, w8⟩, hcl8⟩ := md_rnM (d := d) y7 (lo := 0) (hi := 9) rfl rfl (by decide) (by decide)
    obtain ⟨s4, hs4⟩ : ∃ s4, tkS T 0 9 s3 = s4 := ⟨_, rfl⟩
    have b4 : ∀ p B', s4 = .inr (p, B') → bC B' = c := by rw [← hs4]; exact bcS b3
    rw [hs4] at y8 hv4
    have y9 := md_sA (a := 101) (i := 7 + c) (m := 7) (v := v4) y8 (by decide) (by decide) (by decide) (by omega) (no100 (by decide) b4)
    obtain ⟨_, ⟨E10, v5, rfl, y10, hv5, w10⟩, hcl10⟩ := md_rnM (d := d) y9 (lo := 1) (hi := 9) rfl rfl (by decide) (by decide)
    obtain ⟨s5, hs5⟩ : ∃ s5, tkS T 1 9 s4 = s5 := ⟨_, rfl⟩
    have b5 : ∀ p B', s5 = .inr (p, B') → bC B' = c := by rw [← hs5]; exact bcS b4
    rw [hs5] at y10 hv5
    have y11 := md_sA (a := 102) (i := 7 + c) (m := 7) (v := v5) y10 (by decide) (by decide) (by decide) (by omega) (no100 (by decide) b5)
    obtain ⟨_, ⟨E12, v6, rfl, y12, hv6, w12⟩, hcl12⟩ := md_rnM (d := d) y11 (lo := 0) (hi := 600) rfl rfl (by decide) (by decide)
    obtain ⟨s6, hs6⟩ : ∃ s6, tkS T 0 600 s5 = s6 := ⟨_, rfl⟩
    have b6 : ∀ p B', s6 = .inr (p, B') → bC B' = c := by rw [← hs6]; exact bcS b5
    rw [hs6] at y12 hv6
    have y13 := md_sA (a := 103) (i := 7 + c) (m := 7) (v := v6) y12 (by decide) (by decide) (by decide) (by omega) (no100 (by decide) b6)
    obtain ⟨_, ⟨E14, v7, rfl, y14, hv7, w14⟩, hcl14⟩ := md_rnM (d := d) y13 (lo := 0) (hi := 10) rfl rfl (by decide) (by decide)
    have b7 : ∀ p B', tkS T 0 10 s6 = .inr (p, B') → bC B' = c := bcS b6
    have y15 := md_sA (a := 104) (i := 7 + c) (m := 7) (v := v7) y14 (by decide) (by decide) (by decide) (by omega) (no100 (by decide) b7)
    have y16 := md_sA (a := 105) (i := 7 + c) (m := 7) (v := 0) y15 (by decide) (by decide) (by decide) (by omega) (no100 (by decide) b7)
    have e4 : ∀ k j, gA E4 k j = gA (sA E2 99 (7 + c) kd) k j := fun k j => by rw [w4.2.2.1 k List.not_mem_nil]
    have e6 : ∀ k j, gA E6 k j = gA (sA E4 100 (2 * (7 + c)) v2) k j := fun k j => by rw [w6.2.2.1 k List.not_mem_nil]
    have e8 : ∀ k j, gA E8 k j = gA (sA E6 100 (2 * (7 + c) + 1) v3) k j := fun k j => by rw [w8.2.2.1 k List.not_mem_nil]
    have e10 : ∀ k j, gA E10 k j = gA (sA E8 101 (7 + c) v4) k j := fun k j => by rw [w10.2.2.1 k List.not_mem_nil]
    have e12 : ∀ k j, gA E12 k j = gA (sA E10 102 (7 + c) v5) k j := fun k j => by rw [w12.2.2.1 k List.not_mem_nil]
    have e14 : ∀ k j, gA E14 k j = gA (sA E12 103 (7 + c) v6) k j := fun k j => by rw [w14.2.2.1 k List.not_mem_nil]
    have g8 : gA (sA (sA E14 104 (7 + c) v7) 105 (7 + c) 0) 98 8 = nI c := by
      simp [gA_sA, e4, e6, e8, e10, e12, e14, o1b]
    have yf := md_told (f := kd7 kd (nI (vaS T s1)) (nI (vaS T s2)) (nI (vaS T s3)) (nI (vaS T s4)) (nI (vaS T s5)) (nI (vaS T s6))) (v := nI c + 1) y16 (fun p B' z => by
      have hB := b7 p B' z
      have a7 := hv7 p B' z
      obtain ⟨p6, z6, -⟩ := tk_live z
      have a6 := hv6 p6 B' z6
      rw [← hs6] at z6
      obtain ⟨p5, z5, -⟩ := tk_live z6
      have a5 := hv5 p5 B' z5
      rw [← hs5] at z5
      obtain ⟨p4, z4, -⟩ := tk_live z5
      have a4 := hv4 p4 B' z4
      rw [← hs4] at z4
      obtain ⟨p3, z3, -⟩ := tk_live z4
      have a3 := hv3 p3 B' z3
      rw [← hs3] at z3
      obtain ⟨p2, z2, -⟩ := tk_live z3
      have a2 := hv2 p2 B' z2
      rw [hB]
      refine ⟨rfl, hc7, ?_, ?_, ?_, ?_, ?_, ?_, ?_, ?_⟩
      · simp [gA_sA, e4, e6, e8, e10, e12, e14, kd7]
      · simp [gA_sA, e6, e8, e10, e12, e14, kd7, a2]
      · simp [gA_sA, e8, e10, e12, e14, kd7, a3]
      · simp [gA_sA, e10, e12, e14, kd7, a4]
      · simp [gA_sA, e12, e14, kd7, a5]
      · simp [gA_sA, e14, kd7, a6]
      · simp [gA_sA, kd7, a7]
      · simp [gA_sA])
    have hres : peS T kd (.inr (a, B)) = slS (kd7 kd (nI (vaS T s1)) (nI (vaS T s2)) (nI (vaS T s3)) (nI (vaS T s4)) (nI (vaS T s5)) (nI (vaS T s6))) (tkS T 0 10 s6) := by
      subst hs6
      subst hs5
      subst hs4
      subst hs3
      subst hs2
      subst hs1
      rfl
    rw [hres]
    refine Sx.up (fun _ kk => r_aload_n 1 dX12_readSleeper_0 rfl rfl kk) ?_
    refine Sx.up (fun _ kk => r_getR 4 dX12_readSleeper_1 rfl f12_38 rfl rfl lt95 (mo_3 (by first | exact md_M y16 | exact md_M y15 | exact md_M y14 | exact md_M y13 | exact md_M y12 | exact md_M y11 | exact md_M y10 | exact md_M y9 | exact md_M y8 | exact md_M y7 | exact md_M y6 | exact md_M y5 | exact md_M y4 | exact md_M y3 | exact md_M y2 | exact md_M y1)) kk) ?_
    refine Sx.up (fun _ kk => r_bipush (8) 6 dX12_readSleeper_4 rfl (by decide) kk) ?_
    refine Sx.up (fun _ kk => r_ialdN (8) (nI c) 7 dX12_readSleeper_6 rfl rfl (Nat.le_of_ble_eq_true rfl) (by decide) (Nat.le_of_ble_eq_true rfl) (Nat.le_of_ble_eq_true rfl) (o1) kk) ?_
    refine Sx.up (fun _ kk => r_bipush (7) 9 dX12_readSleeper_7 rfl (by decide) kk) ?_
    refine Sx.up (fun _ kk => r_icmp_ne 12 17 dX12_readSleeper_9 rfl (by decide) (fun _ => kk) (fun h9 => absurd h9 (fun z => h7 ((nI_eq (b := 7) (by omega) (by omega)).mp z)))) ?_
    refine Sx.up (fun _ kk => r_aload_n 18 dX12_readSleeper_17 rfl rfl kk) ?_
    refine Sx.up (fun _ kk => r_getI 21 dX12_readSleeper_18 rfl f12_208 rfl rfl lt95 kk) ?_
    refine Sx.up (fun _ kk => r_if_eq 24 25 dX12_readSleeper_21 rfl (by decide) (fun _ => kk) (fun h21 => absurd hb h21)) ?_
    refine Sx.up (fun _ kk => r_aload_n 26 dX12_readSleeper_25 rfl rfl kk) ?_
    refine Sx.up (fun _ kk => r_callV (M := mX12_readSleeper) (pc := 26) 29 dX12_readSleeper_26 rfl k12_233 hcl2 rfl rfl rfl (by decide) rfl lt95 (Nat.le_of_ble_eq_true rfl) kk) ?_
    refine Sx.up (fun _ kk => r_bipush (7) 31 dX12_readSleeper_29 rfl (by decide) kk) ?_
    refine Sx.up (fun _ kk => r_aload_n 32 dX12_readSleeper_31 rfl rfl kk) ?_
    refine Sx.up (fun _ kk => r_getR 35 dX12_readSleeper_32 rfl f12_38 rfl rfl lt95 (mo_3 (by first | exact md_M y16 | exact md_M y15 | exact md_M y14 | exact md_M y13 | exact md_M y12 | exact md_M y11 | exact md_M y10 | exact md_M y9 | exact md_M y8 | exact md_M y7 | exact md_M y6 | exact md_M y5 | exact md_M y4 | exact md_M y3 | exact md_M y2 | exact md_M y1)) kk) ?_
    refine Sx.up (fun _ kk => r_bipush (8) 37 dX12_readSleeper_35 rfl (by decide) kk) ?_
    refine Sx.up (fun _ kk => r_ialdN (8) (nI c) 38 dX12_readSleeper_37 rfl rfl (Nat.le_of_ble_eq_true rfl) (by decide) (Nat.le_of_ble_eq_true rfl) (Nat.le_of_ble_eq_true rfl) (o1b) kk) ?_
    refine Sx.up (fun _ kk => r_iadd 39 dX12_readSleeper_38 rfl kk) ?_
    rw [i7]
    refine Sx.up (fun _ kk => r_istore_n 40 dX12_readSleeper_39 rfl (by decide) rfl kk) ?_
    refine Sx.up (fun _ kk => r_iload_n 41 dX12_readSleeper_40 rfl rfl kk) ?_
    refine Sx.up (fun _ kk => r_iconst (3) 42 dX12_readSleeper_41 rfl (by decide) kk) ?_
    refine Sx.up (fun _ kk => r_icmp_ne 45 49 dX12_readSleeper_42 rfl (by decide) (fun _ => kk) (fun h42 => absurd h42 h3)) ?_
    refine Sx.up (fun _ kk => r_iconst (0) 50 dX12_readSleeper_49 rfl (by decide) kk) ?_
    refine Sx.up (fun _ kk => r_istore_n 51 dX12_readSleeper_50 rfl (by decide) rfl kk) ?_
    refine Sx.up (fun _ kk => r_aload_n 52 dX12_readSleeper_51 rfl rfl kk) ?_
    refine Sx.up (fun _ kk => r_getR 55 dX12_readSleeper_52 rfl f12_42 rfl rfl lt95 (mo_4 (by first | exact md_M y16 | exact md_M y15 | exact md_M y14 | exact md_M y13 | exact md_M y12 | exact md_M y11 | exact md_M y10 | exact md_M y9 | exact md_M y8 | exact md_M y7 | exact md_M y6 | exact md_M y5 | exact md_M y4 | exact md_M y3 | exact md_M y2 | exact md_M y1)) kk) ?_
    refine Sx.up (fun _ kk => r_iload_n 56 dX12_readSleeper_55 rfl rfl kk) ?_
    refine Sx.up (fun _ kk => r_iload_n 57 dX12_readSleeper_56 rfl rfl kk) ?_
    refine Sx.up (fun _ kk => r_iastN (7 + c) 58 dX12_readSleeper_57 rfl rfl (Nat.le_of_ble_eq_true rfl) (rfl) (by omega) (Nat.le_of_ble_eq_true rfl) kk) ?_
    refine Sx.up (fun _ kk => r_aload_n 59 dX12_readSleeper_58 rfl rfl kk) ?_
    refine Sx.up (fun _ kk => r_getR 62 dX12_readSleeper_59 rfl f12_45 rfl rfl lt95 (mo_5 (by first | exact md_M y16 | exact md_M y15 | exact md_M y14 | exact md_M y13 | exact md_M y12 | exact md_M y11 | exact md_M y10 | exact md_M y9 | exact md_M y8 | exact md_M y7 | exact md_M y6 | exact md_M y5 | exact md_M y4 | exact md_M y3 | exact md_M y2 | exact md_M y1)) kk) ?_
    refine Sx.up (fun _ kk => r_iconst (2) 63 dX12_readSleeper_62 rfl (by decide) kk) ?_
    refine Sx.up (fun _ kk => r_iload_n 64 dX12_readSleeper_63 rfl rfl kk) ?_
    refine Sx.up (fun _ kk => r_imul 65 dX12_readSleeper_64 rfl kk) ?_
    refine Sx.up (fun _ kk => r_iload_n 66 dX12_readSleeper_65 rfl rfl kk) ?_
    refine Sx.up (fun _ kk => r_if_eq 69 73 dX12_readSleeper_66 rfl (by decide) (fun _ => kk) (fun h66 => absurd rfl h66)) ?_
    refine Sx.up (fun _ kk => r_aload_n 74 dX12_readSleeper_73 rfl rfl kk) ?_
    refine Sx.up (fun _ kk => r_iconst (1) 75 dX12_readSleeper_74 rfl (by decide) kk) ?_
    refine Sx.up (fun _ kk => r_sipush (240) 78 dX12_readSleeper_75 rfl (by decide) kk) ?_
    refine Sx.up (fun _ kk => r_callV (M := mX12_readSleeper) (pc := 78) 81 dX12_readSleeper_78 rfl k12_239 hcl4 rfl rfl rfl (by decide) rfl lt95 (Nat.le_of_ble_eq_true rfl) kk) ?_
    refine Sx.up (fun _ kk => r_iastN (2 * (7 + c)) 82 dX12_readSleeper_81 rfl rfl (Nat.le_of_ble_eq_true rfl) (i2) (by omega) (Nat.le_of_ble_eq_true rfl) kk) ?_
    refine Sx.up (fun _ kk => r_aload_n 83 dX12_readSleeper_82 rfl rfl kk) ?_
    refine Sx.up (fun _ kk => r_getR 86 dX12_readSleeper_83 rfl f12_45 rfl rfl lt95 (mo_5 (by first | exact md_M y16 | exact md_M y15 | exact md_M y14 | exact md_M y13 | exact md_M y12 | exact md_M y11 | exact md_M y10 | exact md_M y9 | exact md_M y8 | exact md_M y7 | exact md_M y6 | exact md_M y5 | exact md_M y4 | exact md_M y3 | exact md_M y2 | exact md_M y1)) kk) ?_
    refine Sx.up (fun _ kk => r_iconst (2) 87 dX12_readSleeper_86 rfl (by decide) kk) ?_
    refine Sx.up (fun _ kk => r_iload_n 88 dX12_readSleeper_87 rfl rfl kk) ?_
    refine Sx.up (fun _ kk => r_imul 89 dX12_readSleeper_88 rfl kk) ?_
    refine Sx.up (fun _ kk => r_iconst (1) 90 dX12_readSleeper_89 rfl (by decide) kk) ?_
    refine Sx.up (fun _ kk => r_iadd 91 dX12_readSleeper_90 rfl kk) ?_
    refine Sx.up (fun _ kk => r_iload_n 92 dX12_readSleeper_91 rfl rfl kk) ?_
    refine Sx.up (fun _ kk => r_if_eq 95 99 dX12_readSleeper_92 rfl (by decide) (fun _ => kk) (fun h92 => absurd rfl h92)) ?_
    refine Sx.up (fun _ kk => r_aload_n 100 dX12_readSleeper_99 rfl rfl kk) ?_
    refine Sx.up (fun _ kk => r_iconst (1) 101 dX12_readSleeper_100 rfl (by decide) kk) ?_
    refine Sx.up (fun _ kk => r_sipush (240) 104 dX12_readSleeper_101 rfl (by decide) kk) ?_
    refine Sx.up (fun _ kk => r_callV (M := mX12_readSleeper) (pc := 104) 107 dX12_readSleeper_104 rfl k12_239 hcl6 rfl rfl rfl (by decide) rfl lt95 (Nat.le_of_ble_eq_true rfl) kk) ?_
    refine Sx.up (fun _ kk => r_iastN (2 * (7 + c) + 1) 108 dX12_readSleeper_107 rfl rfl (Nat.le_of_ble_eq_true rfl) (i21) (by omega) (Nat.le_of_ble_eq_true rfl) kk) ?_
    refine Sx.up (fun _ kk => r_aload_n 109 dX12_readSleeper_108 rfl rfl kk) ?_
    refine Sx.up (fun _ kk => r_getR 112 dX12_readSleeper_109 rfl f12_48 rfl rfl lt95 (mo_6 (by first | exact md_M y16 | exact md_M y15 | exact md_M y14 | exact md_M y13 | exact md_M y12 | exact md_M y11 | exact md_M y10 | exact md_M y9 | exact md_M y8 | exact md_M y7 | exact md_M y6 | exact md_M y5 | exact md_M y4 | exact md_M y3 | exact md_M y2 | exact md_M y1)) kk) ?_
    refine Sx.up (fun _ kk => r_iload_n 113 dX12_readSleeper_112 rfl rfl kk) ?_
    refine Sx.up (fun _ kk => r_iload_n 114 dX12_readSleeper_113 rfl rfl kk) ?_
    refine Sx.up (fun _ kk => r_if_eq 117 121 dX12_readSleeper_114 rfl (by decide) (fun _ => kk) (fun h114 => absurd rfl h114)) ?_
    refine Sx.up (fun _ kk => r_aload_n 122 dX12_readSleeper_121 rfl rfl kk) ?_
    refine Sx.up (fun _ kk => r_iconst (0) 123 dX12_readSleeper_122 rfl (by decide) kk) ?_
    refine Sx.up (fun _ kk => r_bipush (9) 125 dX12_readSleeper_123 rfl (by decide) kk) ?_
    refine Sx.up (fun _ kk => r_callV (M := mX12_readSleeper) (pc := 125) 128 dX12_readSleeper_125 rfl k12_239 hcl8 rfl rfl rfl (by decide) rfl lt95 (Nat.le_of_ble_eq_true rfl) kk) ?_
    refine Sx.up (fun _ kk => r_iastN (7 + c) 129 dX12_readSleeper_128 rfl rfl (Nat.le_of_ble_eq_true rfl) (rfl) (by omega) (Nat.le_of_ble_eq_true rfl) kk) ?_
    refine Sx.up (fun _ kk => r_aload_n 130 dX12_readSleeper_129 rfl rfl kk) ?_
    refine Sx.up (fun _ kk => r_getR 133 dX12_readSleeper_130 rfl f12_50 rfl rfl lt95 (mo_7 (by first | exact md_M y16 | exact md_M y15 | exact md_M y14 | exact md_M y13 | exact md_M y12 | exact md_M y11 | exact md_M y10 | exact md_M y9 | exact md_M y8 | exact md_M y7 | exact md_M y6 | exact md_M y5 | exact md_M y4 | exact md_M y3 | exact md_M y2 | exact md_M y1)) kk) ?_
    refine Sx.up (fun _ kk => r_iload_n 134 dX12_readSleeper_133 rfl rfl kk) ?_
    refine Sx.up (fun _ kk => r_aload_n 135 dX12_readSleeper_134 rfl rfl kk) ?_
    refine Sx.up (fun _ kk => r_iconst (1) 136 dX12_readSleeper_135 rfl (by decide) kk) ?_
    refine Sx.up (fun _ kk => r_bipush (9) 138 dX12_readSleeper_136 rfl (by decide) kk) ?_
    refine Sx.up (fun _ kk => r_callV (M := mX12_readSleeper) (pc := 138) 141 dX12_readSleeper_138 rfl k12_239 hcl10 rfl rfl rfl (by decide) rfl lt95 (Nat.le_of_ble_eq_true rfl) kk) ?_
    refine Sx.up (fun _ kk => r_iastN (7 + c) 142 dX12_readSleeper_141 rfl rfl (Nat.le_of_ble_eq_true rfl) (rfl) (by omega) (Nat.le_of_ble_eq_true rfl) kk) ?_
    refine Sx.up (fun _ kk => r_aload_n 143 dX12_readSleeper_142 rfl rfl kk) ?_
    refine Sx.up (fun _ kk => r_getR 146 dX12_readSleeper_143 rfl f12_53 rfl rfl lt95 (mo_8 (by first | exact md_M y16 | exact md_M y15 | exact md_M y14 | exact md_M y13 | exact md_M y12 | exact md_M y11 | exact md_M y10 | exact md_M y9 | exact md_M y8 | exact md_M y7 | exact md_M y6 | exact md_M y5 | exact md_M y4 | exact md_M y3 | exact md_M y2 | exact md_M y1)) kk) ?_
    refine Sx.up (fun _ kk => r_iload_n 147 dX12_readSleeper_146 rfl rfl kk) ?_
    refine Sx.up (fun _ kk => r_iload_n 148 dX12_readSleeper_147 rfl rfl kk) ?_
    refine Sx.up (fun _ kk => r_if_eq 151 155 dX12_readSleeper_148 rfl (by decide) (fun _ => kk) (fun h148 => absurd rfl h148)) ?_
    refine Sx.up (fun _ kk => r_aload_n 156 dX12_readSleeper_155 rfl rfl kk) ?_
    refine Sx.up (fun _ kk => r_iconst (0) 157 dX12_readSleeper_156 rfl (by decide) kk) ?_
    refine Sx.up (fun _ kk => r_sipush (600) 160 dX12_readSleeper_157 rfl (by decide) kk) ?_
    refine Sx.up (fun _ kk => r_callV (M := mX12_readSleeper) (pc := 160) 163 dX12_readSleeper_160 rfl k12_239 hcl12 rfl rfl rfl (by decide) rfl lt95 (Nat.le_of_ble_eq_true rfl) kk) ?_
    refine Sx.up (fun _ kk => r_iastN (7 + c) 164 dX12_readSleeper_163 rfl rfl (Nat.le_of_ble_eq_true rfl) (rfl) (by omega) (Nat.le_of_ble_eq_true rfl) kk) ?_
    refine Sx.up (fun _ kk => r_aload_n 165 dX12_readSleeper_164 rfl rfl kk) ?_
    refine Sx.up (fun _ kk => r_getR 168 dX12_readSleeper_165 rfl f12_56 rfl rfl lt95 (mo_9 (by first | exact md_M y16 | exact md_M y15 | exact md_M y14 | exact md_M y13 | exact md_M y12 | exact md_M y11 | exact md_M y10 | exact md_M y9 | exact md_M y8 | exact md_M y7 | exact md_M y6 | exact md_M y5 | exact md_M y4 | exact md_M y3 | exact md_M y2 | exact md_M y1)) kk) ?_
    refine Sx.up (fun _ kk => r_iload_n 169 dX12_readSleeper_168 rfl rfl kk) ?_
    refine Sx.up (fun _ kk => r_iload_n 170 dX12_readSleeper_169 rfl rfl kk) ?_
    refine Sx.up (fun _ kk => r_if_eq 173 177 dX12_readSleeper_170 rfl (by decide) (fun _ => kk) (fun h170 => absurd rfl h170)) ?_
    refine Sx.up (fun _ kk => r_aload_n 178 dX12_readSleeper_177 rfl rfl kk) ?_
    refine Sx.up (fun _ kk => r_iconst (0) 179 dX12_readSleeper_178 rfl (by decide) kk) ?_
    refine Sx.up (fun _ kk => r_bipush (10) 181 dX12_readSleeper_179 rfl (by decide) kk) ?_
    refine Sx.up (fun _ kk => r_callV (M := mX12_readSleeper) (pc := 181) 184 dX12_readSleeper_181 rfl k12_239 hcl14 rfl rfl rfl (by decide) rfl lt95 (Nat.le_of_ble_eq_true rfl) kk) ?_
    refine Sx.up (fun _ kk => r_iastN (7 + c) 185 dX12_readSleeper_184 rfl rfl (Nat.le_of_ble_eq_true rfl) (rfl) (by omega) (Nat.le_of_ble_eq_true rfl) kk) ?_
    refine Sx.up (fun _ kk => r_aload_n 186 dX12_readSleeper_185 rfl rfl kk) ?_
    refine Sx.up (fun _ kk => r_getR 189 dX12_readSleeper_186 rfl f12_59 rfl rfl lt95 (mo_10 (by first | exact md_M y16 | exact md_M y15 | exact md_M y14 | exact md_M y13 | exact md_M y12 | exact md_M y11 | exact md_M y10 | exact md_M y9 | exact md_M y8 | exact md_M y7 | exact md_M y6 | exact md_M y5 | exact md_M y4 | exact md_M y3 | exact md_M y2 | exact md_M y1)) kk) ?_
    refine Sx.up (fun _ kk => r_iload_n 190 dX12_readSleeper_189 rfl rfl kk) ?_
    refine Sx.up (fun _ kk => r_iconst (0) 191 dX12_readSleeper_190 rfl (by decide) kk) ?_
    refine Sx.up (fun _ kk => r_iastN (7 + c) 192 dX12_readSleeper_191 rfl rfl (Nat.le_of_ble_eq_true rfl) (rfl) (by omega) (Nat.le_of_ble_eq_true rfl) kk) ?_
    refine Sx.up (fun _ kk => r_aload_n 193 dX12_readSleeper_192 rfl rfl kk) ?_
    refine Sx.up (fun _ kk => r_getR 196 dX12_readSleeper_193 rfl f12_38 rfl rfl lt95 (mo_3 (by first | exact md_M y16 | exact md_M y15 | exact md_M y14 | exact md_M y13 | exact md_M y12 | exact md_M y11 | exact md_M y10 | exact md_M y9 | exact md_M y8 | exact md_M y7 | exact md_M y6 | exact md_M y5 | exact md_M y4 | exact md_M y3 | exact md_M y2 | exact md_M y1)) kk) ?_
    refine Sx.up (fun _ kk => r_bipush (8) 198 dX12_readSleeper_196 rfl (by decide) kk) ?_
    refine Sx.up (fun _ kk => r_dup2 199 dX12_readSleeper_198 rfl rfl rfl kk) ?_
    refine Sx.up (fun _ kk => r_ialdN (8) (nI c) 200 dX12_readSleeper_199 rfl rfl (Nat.le_of_ble_eq_true rfl) (by decide) (Nat.le_of_ble_eq_true rfl) (Nat.le_of_ble_eq_true rfl) (g8) kk) ?_
    refine Sx.up (fun _ kk => r_iconst (1) 201 dX12_readSleeper_200 rfl (by decide) kk) ?_
    refine Sx.up (fun _ kk => r_iadd 202 dX12_readSleeper_201 rfl kk) ?_
    refine Sx.up (fun _ kk => r_iastN (8) 203 dX12_readSleeper_202 rfl rfl (Nat.le_of_ble_eq_true rfl) (by decide) (Nat.le_of_ble_eq_true rfl) (Nat.le_of_ble_eq_true rfl) kk) ?_
    refine ⟨_, ?_, r_vret dX12_readSleeper_203 rfl rfl rfl⟩
    exact ⟨_, rfl, yf⟩
