/-! mlines, further on -/
theorem bo_nu {T : TX} {s : PS} {v9 : Int32} (h : ∀ q, nuS T 1 6 s ≠ .inr q) : orX v9 (tkS T 1 6 (boD T s)) = nuS T 1 6 s := by
  have hno : ¬ nwS T 1 6 s = true := fun z => by
    cases s with
    | inl x => exact absurd z (by show ¬ false = true; decide)
    | inr q =>
      have k2 : kiS T 2 (.inr q) = true := decide_eq_true (in_num z).1
      exact h q (by unfold nuS; rw [if_pos k2, if_pos z])
  have e : boD T s = s := if_neg (bo_no hno)
  rw [e, ← adv_nu]
  cases hn : nuS T 1 6 s with
  | inl x => rfl
  | inr q => exact absurd hn (h q)
theorem nu_live {T : TX} {lo hi : Nat} {s : PS} {q : Nat × BD} (h : nuS T lo hi s = .inr q) : s = .inr q ∧ nwS T lo hi s = true := by
  unfold nuS at h
  by_cases h1 : kiS T 2 s = true
  · rw [if_pos h1] at h
    by_cases h2 : nwS T lo hi s = true
    · rw [if_pos h2] at h; exact ⟨h, h2⟩
    · rw [if_neg h2] at h; cases s <;> cases h
  · rw [if_neg h1] at h; cases s <;> cases h
/-- one of the scalars written -/
theorem md_scal {E0 E : HP} {T : TX} {s : PS} {i : Nat} {v : Int32} (y1 : CMd E0 E T s) (hi : i < 5) : CMd E0 (sA E 98 (9 + i) v) T (scS i v s) := by
  have hM : MF [] [98] E (sA E 98 (9 + i) v) := mf_sA (by simp) mf_rfl
  have hT : TmF (sA E 98 (9 + i) v) T := tmf_mf hM (by decide) (by decide) (md_F y1)
  refine ⟨⟨md_T y1, hT, hf_sA y1.1.2.2 (m := 8) (by decide) (by omega)⟩, ?_⟩
  cases s with
  | inl x => exact y1.2
  | inr x =>
    obtain ⟨p, B⟩ := x
    obtain ⟨c1, c2, c3, o1, o2, o3, o4, o5, o6, o7, o8, o9, o10⟩ := id y1.2
    have hg : ∀ j, j ≠ 9 + i → gA (sA E 98 (9 + i) v) 98 j = gA E 98 j := fun j z => by rw [gA_sA, if_neg (fun y => z y.2)]
    have ho : ∀ k, k ≠ 98 → gA (sA E 98 (9 + i) v) k = gA E k := fun k hk => mf_gA hM (by simp [hk])
    refine ⟨c1, c2, c3, (hg _ (by omega)).trans o1, o2, fun q hq => ?_, o4, fun j hj => ?_, (hg _ (by omega)).trans o6, o7, (hg _ (by omega)).trans o8, o9, fun j hj => by rw [ho 106 (by decide)]; exact o10 j hj⟩
    · rw [ho 99 (by decide), ho 100 (by decide), ho 101 (by decide), ho 102 (by decide), ho 103 (by decide), ho 104 (by decide), ho 105 (by decide)]
      exact o3 q hq
    · show _ = (if j = i then v else bX B j)
      by_cases e : j = i
      · rw [if_pos e, gA_sA, if_pos ⟨rfl, by omega⟩]
      · rw [if_neg e, hg _ (by omega)]; exact o5 j hj
set_option maxHeartbeats 16000000 in
set_option maxRecDepth 20000 in
theorem md_bol {d : Nat} {E0 E : HP} {T : TX} {q0 : Nat × BD} (y1 : CMd E0 E T (.inr q0)) : ∃ o, (∃ E2, o = (.inl none, E2, 137) ∧ CMd E0 E2 T (boS T (.inr q0))) ∧ Cl yX12_readBolster mX12_readBolster (d + 2) 0 0 [.ref 95] E 137 o := by
  obtain ⟨_, ⟨E2, rfl, y2⟩, hcl2⟩ := md_adv (d := d) y1 ⟨_, rfl⟩
  obtain ⟨s1, hs1⟩ : ∃ s1, advS T (.inr q0) = s1 := ⟨_, rfl⟩
  have hres : boS T (.inr q0) = orX (1 <<< (nI (vaS T (boD T s1)) &&& 31)) (tkS T 1 6 (boD T s1)) := by unfold boS; rw [hs1]
  rw [hres]
  rw [hs1] at y2
  obtain ⟨_, ⟨E3, v, rfl, y3, hv, hv0⟩, hcl3⟩ := md_now (d := d) y2 (lo := 1) (hi := 6) rfl rfl (by decide) (by decide)
  refine Cx.of (by decide) rfl (fun q => by cases q) rfl rfl (Nat.le_of_ble_eq_true rfl) ?_
  show Sx _ _ _ _ _ 0 [some (.ref 95), none] [] _ _
  cases hn : nuS T 1 6 s1 with
  | inl x =>
    rw [hn] at y3
    have hb := md_1b y3
    rw [bo_nu (fun q z => by rw [hn] at z; cases z), hn]
    refine Sx.up (fun _ kk => r_aload_n 1 dX12_readBolster_0 rfl rfl kk) ?_
    refine Sx.up (fun _ kk => r_callV (M := mX12_readBolster) (pc := 1) 4 dX12_readBolster_1 rfl k12_233 hcl2 rfl rfl rfl (by decide) rfl lt95 (Nat.le_of_ble_eq_true rfl) kk) ?_
    refine Sx.up (fun _ kk => r_aload_n 5 dX12_readBolster_4 rfl rfl kk) ?_
    refine Sx.up (fun _ kk => r_iconst (1) 6 dX12_readBolster_5 rfl (by decide) kk) ?_
    refine Sx.up (fun _ kk => r_bipush (6) 8 dX12_readBolster_6 rfl (by decide) kk) ?_
    refine Sx.up (fun _ kk => r_callV (M := mX12_readBolster) (pc := 8) 11 dX12_readBolster_8 rfl k12_236 hcl3 rfl rfl rfl (by decide) rfl lt95 (Nat.le_of_ble_eq_true rfl) kk) ?_
    refine Sx.up (fun _ kk => r_istore_n 12 dX12_readBolster_11 rfl (by decide) rfl kk) ?_
    refine Sx.up (fun _ kk => r_aload_n 13 dX12_readBolster_12 rfl rfl kk) ?_
    refine Sx.up (fun _ kk => r_getI 16 dX12_readBolster_13 rfl f12_208 rfl rfl lt95 kk) ?_
    refine Sx.up (fun _ kk => r_if_ne 19 39 dX12_readBolster_16 rfl (by decide) (fun _ => kk) (fun h16 => absurd h16 hb)) ?_
    refine Sx.up (fun _ kk => r_aload_n 40 dX12_readBolster_39 rfl rfl kk) ?_
    refine Sx.up (fun _ kk => r_getI 43 dX12_readBolster_40 rfl f12_208 rfl rfl lt95 kk) ?_
    refine Sx.up (fun _ kk => r_if_eq 46 47 dX12_readBolster_43 rfl (by decide) (fun h43 => absurd h43 hb) (fun _ => kk)) ?_
    refine ⟨_, ?_, r_vret dX12_readBolster_46 rfl rfl rfl⟩
    exact ⟨_, rfl, y3⟩
  | inr x =>
    rw [hn] at y3
    have hb := md_0b y3 ⟨_, rfl⟩
    obtain ⟨e1, hw⟩ := nu_live hn
    have hvv := hv x hn
    subst e1
    obtain ⟨a, B⟩ := x
    have hin := in_num hw
    have h13 : gA E3 98 13 = bX B 4 := y3.2.2.2.2.2.2.2.2.1 4 (by decide)
    by_cases hbit : (bX B 4 >>> (nI (numT T a) &&& 31)) &&& 1 = 1
    · have hc : boC T (.inr (a, B)) = true := by
        show (inN T a 1 6 && decide ((bX B 4 >>> (nI (numT T a) &&& 31)) &&& 1 = 1)) = true
        rw [show inN T a 1 6 = true from hw, Bool.true_and]
        exact decide_eq_true hbit
      have hd : boD T (.inr (a, B)) = .inl (5, a) := if_pos hc
      rw [hd]
      obtain ⟨_, ⟨E4, rfl, y4⟩, hcl4⟩ := md_wrong (d := d + 1) y3 (k := 5) (k9 := 5) rfl (by decide) (by decide)
      have hb4 := md_1b y4
      refine Sx.up (fun _ kk => r_aload_n 1 dX12_readBolster_0 rfl rfl kk) ?_
      refine Sx.up (fun _ kk => r_callV (M := mX12_readBolster) (pc := 1) 4 dX12_readBolster_1 rfl k12_233 hcl2 rfl rfl rfl (by decide) rfl lt95 (Nat.le_of_ble_eq_true rfl) kk) ?_
      refine Sx.up (fun _ kk => r_aload_n 5 dX12_readBolster_4 rfl rfl kk) ?_
      refine Sx.up (fun _ kk => r_iconst (1) 6 dX12_readBolster_5 rfl (by decide) kk) ?_
      refine Sx.up (fun _ kk => r_bipush (6) 8 dX12_readBolster_6 rfl (by decide) kk) ?_
      refine Sx.up (fun _ kk => r_callV (M := mX12_readBolster) (pc := 8) 11 dX12_readBolster_8 rfl k12_236 hcl3 rfl rfl rfl (by decide) rfl lt95 (Nat.le_of_ble_eq_true rfl) kk) ?_
      refine Sx.up (fun _ kk => r_istore_n 12 dX12_readBolster_11 rfl (by decide) rfl kk) ?_
      refine Sx.up (fun _ kk => r_aload_n 13 dX12_readBolster_12 rfl rfl kk) ?_
      refine Sx.up (fun _ kk => r_getI 16 dX12_readBolster_13 rfl f12_208 rfl rfl lt95 kk) ?_
      refine Sx.up (fun _ kk => r_if_ne 19 39 dX12_readBolster_16 rfl (by decide) (fun h16 => absurd h16 (fun z => z hb)) (fun _ => kk)) ?_
      refine Sx.up (fun _ kk => r_aload_n 20 dX12_readBolster_19 rfl rfl kk) ?_
      refine Sx.up (fun _ kk => r_getR 23 dX12_readBolster_20 rfl f12_38 rfl rfl lt95 (mo_3 (md_M y3)) kk) ?_
      refine Sx.up (fun _ kk => r_bipush (13) 25 dX12_readBolster_23 rfl (by decide) kk) ?_
      refine Sx.up (fun _ kk => r_ialdN (13) (bX B 4) 26 dX12_readBolster_25 rfl rfl (Nat.le_of_ble_eq_true rfl) (by decide) (Nat.le_of_ble_eq_true rfl) (Nat.le_of_ble_eq_true rfl) (h13) kk) ?_
      refine Sx.up (fun _ kk => r_iload_n 27 dX12_readBolster_26 rfl rfl kk) ?_
      refine Sx.up (fun _ kk => r_ishr 28 dX12_readBolster_27 rfl kk) ?_
      refine Sx.up (fun _ kk => r_iconst (1) 29 dX12_readBolster_28 rfl (by decide) kk) ?_
      refine Sx.up (fun _ kk => r_iand 30 dX12_readBolster_29 rfl kk) ?_
      refine Sx.up (fun _ kk => r_iconst (1) 31 dX12_readBolster_30 rfl (by decide) kk) ?_
      refine Sx.up (fun _ kk => r_icmp_ne 34 39 dX12_readBolster_31 rfl (by decide) (fun h31 => absurd h31 (fun z => z (by rw [hvv]; exact hbit))) (fun _ => kk)) ?_
      refine Sx.up (fun _ kk => r_aload_n 35 dX12_readBolster_34 rfl rfl kk) ?_
      refine Sx.up (fun _ kk => r_iconst (5) 36 dX12_readBolster_35 rfl (by decide) kk) ?_
      refine Sx.up (fun _ kk => r_callV (M := mX12_readBolster) (pc := 36) 39 dX12_readBolster_36 rfl k12_229 hcl4 rfl rfl rfl (by decide) rfl lt95 (Nat.le_of_ble_eq_true rfl) kk) ?_
      refine Sx.up (fun _ kk => r_aload_n 40 dX12_readBolster_39 rfl rfl kk) ?_
      refine Sx.up (fun _ kk => r_getI 43 dX12_readBolster_40 rfl f12_208 rfl rfl lt95 kk) ?_
      refine Sx.up (fun _ kk => r_if_eq 46 47 dX12_readBolster_43 rfl (by decide) (fun h43 => absurd h43 hb4) (fun _ => kk)) ?_
      refine ⟨_, ?_, r_vret dX12_readBolster_46 rfl rfl rfl⟩
      exact ⟨_, rfl, y4⟩
    · have hc : ¬ boC T (.inr (a, B)) = true := fun z => by
        have z : (inN T a 1 6 && decide ((bX B 4 >>> (nI (numT T a) &&& 31)) &&& 1 = 1)) = true := z
        rw [Bool.and_eq_true] at z
        exact hbit (of_decide_eq_true z.2)
      have hd : boD T (.inr (a, B)) = .inr (a, B) := if_neg hc
      rw [hd, ← adv_nu, hn]
      obtain ⟨_, ⟨E4, rfl, y4, w4⟩, hcl4⟩ := md_advM (d := d) y3 ⟨_, rfl⟩
      have h13b : gA E4 98 13 = bX B 4 := by rw [mf_gA w4 (by decide)]; exact h13
      have yf := md_scal (i := 4) (v := bX B 4 ||| (1 <<< (nI (numT T a) &&& 31))) y4 (by decide)
      refine Sx.up (fun _ kk => r_aload_n 1 dX12_readBolster_0 rfl rfl kk) ?_
      refine Sx.up (fun _ kk => r_callV (M := mX12_readBolster) (pc := 1) 4 dX12_readBolster_1 rfl k12_233 hcl2 rfl rfl rfl (by decide) rfl lt95 (Nat.le_of_ble_eq_true rfl) kk) ?_
      refine Sx.up (fun _ kk => r_aload_n 5 dX12_readBolster_4 rfl rfl kk) ?_
      refine Sx.up (fun _ kk => r_iconst (1) 6 dX12_readBolster_5 rfl (by decide) kk) ?_
      refine Sx.up (fun _ kk => r_bipush (6) 8 dX12_readBolster_6 rfl (by decide) kk) ?_
      refine Sx.up (fun _ kk => r_callV (M := mX12_readBolster) (pc := 8) 11 dX12_readBolster_8 rfl k12_236 hcl3 rfl rfl rfl (by decide) rfl lt95 (Nat.le_of_ble_eq_true rfl) kk) ?_
      refine Sx.up (fun _ kk => r_istore_n 12 dX12_readBolster_11 rfl (by decide) rfl kk) ?_
      refine Sx.up (fun _ kk => r_aload_n 13 dX12_readBolster_12 rfl rfl kk) ?_
      refine Sx.up (fun _ kk => r_getI 16 dX12_readBolster_13 rfl f12_208 rfl rfl lt95 kk) ?_
      refine Sx.up (fun _ kk => r_if_ne 19 39 dX12_readBolster_16 rfl (by decide) (fun h16 => absurd h16 (fun z => z hb)) (fun _ => kk)) ?_
      refine Sx.up (fun _ kk => r_aload_n 20 dX12_readBolster_19 rfl rfl kk) ?_
      refine Sx.up (fun _ kk => r_getR 23 dX12_readBolster_20 rfl f12_38 rfl rfl lt95 (mo_3 (by first | exact md_M y3 | exact md_M y4)) kk) ?_
      refine Sx.up (fun _ kk => r_bipush (13) 25 dX12_readBolster_23 rfl (by decide) kk) ?_
      refine Sx.up (fun _ kk => r_ialdN (13) (bX B 4) 26 dX12_readBolster_25 rfl rfl (Nat.le_of_ble_eq_true rfl) (by decide) (Nat.le_of_ble_eq_true rfl) (Nat.le_of_ble_eq_true rfl) (h13) kk) ?_
      refine Sx.up (fun _ kk => r_iload_n 27 dX12_readBolster_26 rfl rfl kk) ?_
      refine Sx.up (fun _ kk => r_ishr 28 dX12_readBolster_27 rfl kk) ?_
      refine Sx.up (fun _ kk => r_iconst (1) 29 dX12_readBolster_28 rfl (by decide) kk) ?_
      refine Sx.up (fun _ kk => r_iand 30 dX12_readBolster_29 rfl kk) ?_
      refine Sx.up (fun _ kk => r_iconst (1) 31 dX12_readBolster_30 rfl (by decide) kk) ?_
      refine Sx.up (fun _ kk => r_icmp_ne 34 39 dX12_readBolster_31 rfl (by decide) (fun _ => kk) (fun h31 => absurd h31 (fun z => hbit (by rw [hvv] at z; exact z)))) ?_
      refine Sx.up (fun _ kk => r_aload_n 40 dX12_readBolster_39 rfl rfl kk) ?_
      refine Sx.up (fun _ kk => r_getI 43 dX12_readBolster_40 rfl f12_208 rfl rfl lt95 kk) ?_
      refine Sx.up (fun _ kk => r_if_eq 46 47 dX12_readBolster_43 rfl (by decide) (fun _ => kk) (fun h43 => absurd hb h43)) ?_
      refine Sx.up (fun _ kk => r_aload_n 48 dX12_readBolster_47 rfl rfl kk) ?_
      refine Sx.up (fun _ kk => r_callV (M := mX12_readBolster) (pc := 48) 51 dX12_readBolster_48 rfl k12_233 hcl4 rfl rfl rfl (by decide) rfl lt95 (Nat.le_of_ble_eq_true rfl) kk) ?_
      refine Sx.up (fun _ kk => r_aload_n 52 dX12_readBolster_51 rfl rfl kk) ?_
      refine Sx.up (fun _ kk => r_getR 55 dX12_readBolster_52 rfl f12_38 rfl rfl lt95 (mo_3 (by first | exact md_M y3 | exact md_M y4)) kk) ?_
      refine Sx.up (fun _ kk => r_bipush (13) 57 dX12_readBolster_55 rfl (by decide) kk) ?_
      refine Sx.up (fun _ kk => r_dup2 58 dX12_readBolster_57 rfl rfl rfl kk) ?_
      refine Sx.up (fun _ kk => r_ialdN (13) (bX B 4) 59 dX12_readBolster_58 rfl rfl (Nat.le_of_ble_eq_true rfl) (by decide) (Nat.le_of_ble_eq_true rfl) (Nat.le_of_ble_eq_true rfl) (h13b) kk) ?_
      refine Sx.up (fun _ kk => r_iconst (1) 60 dX12_readBolster_59 rfl (by decide) kk) ?_
      refine Sx.up (fun _ kk => r_iload_n 61 dX12_readBolster_60 rfl rfl kk) ?_
      refine Sx.up (fun _ kk => r_ishl 62 dX12_readBolster_61 rfl kk) ?_
      refine Sx.up (fun _ kk => r_ior 63 dX12_readBolster_62 rfl kk) ?_
      rw [hvv]
      refine Sx.up (fun _ kk => r_iastN (13) 64 dX12_readBolster_63 rfl rfl (Nat.le_of_ble_eq_true rfl) (by decide) (Nat.le_of_ble_eq_true rfl) (Nat.le_of_ble_eq_true rfl) kk) ?_
      refine ⟨_, ?_, r_vret dX12_readBolster_64 rfl rfl rfl⟩
      exact ⟨_, rfl, yf⟩
theorem sn_live {T : TX} {s : PS} {q : Nat × BD} (h : snS T s = .inr q) : s = .inr q ∧ kdT T q.1 = 2 ∧ numT T q.1 < bC q.2 := by
  unfold snS at h
  cases ht : tkS T 0 9999 (unS T s) with
  | inl x => rw [ht] at h; cases h
  | inr z =>
    rw [ht] at h
    have h : s = .inr q := h
    subst h
    obtain ⟨a0, e0, -, hk, -, h9⟩ := tk_live (a := z.1) (B := z.2) ht
    obtain ⟨e1, e2⟩ := un_live e0
    have e1 := Sum.inr.inj e1
    cases e1
    exact ⟨rfl, hk, un_lt e2 hk h9⟩
theorem sn_dead {T : TX} {s : PS} {x : Nat × Nat} (h : snS T s = .inl x) : tkS T 0 9999 (unS T s) = .inl x := by
  rw [← adv_sn, h]; rfl
/-- the second SLEEPER, as the spec goes on with it -/
theorem ag_sn {T : TX} {v : Nat} {s : PS} (hc : ∀ q, s = .inr q → bC q.2 ≤ 7) (h : ∀ q, snS T s ≠ .inr q) : tkS T 0 9999 (agS T v (unS T s)) = snS T s := by
  cases hs : snS T s with
  | inr q => exact absurd hs (h q)
  | inl x =>
    have h1 := sn_dead hs
    cases hu : unS T s with
    | inl z => rw [hu] at h1; exact h1
    | inr z =>
      have hno : agS T v (.inr z) = .inr z := by
        refine if_neg (fun y => ?_)
        have hlt := y.2.1
        obtain ⟨e1, e2⟩ := un_live (a := z.1) (B := z.2) hu
        have hin : inN T z.1 0 9999 = true := by
          have h7 := hc z e1
          exact decide_eq_true (p := kdT T z.1 = 2 ∧ 0 ≤ numT T z.1 ∧ numT T z.1 ≤ 9999) ⟨y.1, Nat.zero_le _, by omega⟩
        rw [hu] at h1
        unfold tkS at h1
        rw [if_pos (show kiS T 2 (.inr z) = true from decide_eq_true y.1), if_pos (show nwS T 0 9999 (.inr z) = true from hin)] at h1
        cases h1
      rw [hno, ← hu]
      exact h1
set_option maxHeartbeats 16000000 in
set_option maxRecDepth 20000 in
theorem md_nev {d : Nat} {E0 E : HP} {T : TX} {q0 : Nat × BD} (y1 : CMd E0 E T (.inr q0)) : ∃ o, (∃ E2, o = (.inl none, E2, 137) ∧ CMd E0 E2 T (neS T (.inr q0))) ∧ Cl yX12_readNever mX12_readNever (d + 3) 0 0 [.ref 95] E 137 o := by
  have hb1 := md_0b y1 ⟨_, rfl⟩
  obtain ⟨o6, o7⟩ : gA E 98 14 = nI (bN q0.2) ∧ bN q0.2 ≤ 6 := ⟨y1.2.2.2.2.2.2.2.2.2.1, y1.2.2.2.2.2.2.2.2.2.2.1⟩
  refine Cx.of (by decide) rfl (fun q => by cases q) rfl rfl (Nat.le_of_ble_eq_true rfl) ?_
  show Sx _ _ _ _ _ 0 [some (.ref 95), none, none] [] _ _
  by_cases h6 : bN q0.2 = 6
  · have hn : neF (.inr q0) = .inl (2, q0.1) := if_pos (by omega)
    have hres : neS T (.inr q0) = .inl (2, q0.1) := by unfold neS; rw [hn]; rfl
    rw [hres]
    refine Sx.up (fun _ kk => r_aload_n 1 dX12_readNever_0 rfl rfl kk) ?_
    refine Sx.up (fun _ kk => r_getR 4 dX12_readNever_1 rfl f12_38 rfl rfl lt95 (mo_3 (md_M y1)) kk) ?_
    refine Sx.up (fun _ kk => r_bipush (14) 6 dX12_readNever_4 rfl (by decide) kk) ?_
    refine Sx.up (fun _ kk => r_ialdN (14) (nI (bN q0.2)) 7 dX12_readNever_6 rfl rfl (Nat.le_of_ble_eq_true rfl) (by decide) (Nat.le_of_ble_eq_true rfl) (Nat.le_of_ble_eq_true rfl) (o6) kk) ?_
    refine Sx.up (fun _ kk => r_bipush (6) 9 dX12_readNever_7 rfl (by decide) kk) ?_
    refine Sx.up (fun _ kk => r_icmp_ne 12 17 dX12_readNever_9 rfl (by decide) (fun h9 => absurd h9 (fun z => z (by rw [h6]; rfl))) (fun _ => kk)) ?_
    refine Sx.up (fun _ kk => r_aload_n 13 dX12_readNever_12 rfl rfl kk) ?_
    refine Sx.up (fun _ kk => r_iconst (2) 14 dX12_readNever_13 rfl (by decide) kk) ?_
    obtain ⟨_, ⟨E2, rfl, y2⟩, hcl2⟩ := md_wrong (d := d + 2) y1 (k := 2) (k9 := 2) rfl (by decide) (by decide)
    refine Sx.up (fun _ kk => r_callV (M := mX12_readNever) (pc := 14) 17 dX12_readNever_14 rfl k12_229 hcl2 rfl rfl rfl (by decide) rfl lt95 (Nat.le_of_ble_eq_true rfl) kk) ?_
    refine Sx.up (fun _ kk => r_aload_n 18 dX12_readNever_17 rfl rfl kk) ?_
    refine Sx.up (fun _ kk => r_getI 21 dX12_readNever_18 rfl f12_208 rfl rfl lt95 kk) ?_
    refine Sx.up (fun _ kk => r_if_eq 24 25 dX12_readNever_21 rfl (by decide) (fun h21 => absurd h21 (md_1b y2)) (fun _ => kk)) ?_
    refine ⟨_, ?_, r_vret dX12_readNever_24 rfl rfl rfl⟩
    exact ⟨_, rfl, y2⟩
  have hn : neF (.inr q0) = .inr q0 := if_neg (by omega)
  obtain ⟨_, ⟨E2, rfl, y2⟩, hcl2⟩ := md_adv (d := d + 1) y1 ⟨_, rfl⟩
  obtain ⟨s0, hs0⟩ : ∃ s0, advS T (.inr q0) = s0 := ⟨_, rfl⟩
  rw [hs0] at y2
  have hc0 : ∀ q, s0 = .inr q → bC q.2 ≤ 7 ∧ q.2 = q0.2 := fun q z => by
    rw [← hs0] at z
    have z := Sum.inr.inj (show (.inr (nxT T q0.1, q0.2) : PS) = .inr q from z)
    subst z
    exact ⟨y1.2.2.2.2.2.1, rfl⟩
  have hres : neS T (.inr q0) = nvS (vaS T (unS T s0)) (vaS T (agS T (vaS T (unS T s0)) (unS T (tkS T 0 9999 (unS T s0))))) (tkS T 0 9999 (agS T (vaS T (unS T s0)) (unS T (tkS T 0 9999 (unS T s0))))) := by
    unfold neS
    rw [hn, hs0] <;> rfl
  obtain ⟨_, ⟨E3, v1, rfl, y3, hv1⟩, hcl3⟩ := md_sn (d := d) y2
  cases hn1 : snS T s0 with
  | inl x =>
    rw [hn1] at y3
    have hb3 := md_1b y3
    have e1 := sn_dead hn1
    have hres2 : neS T (.inr q0) = .inl x := by rw [hres, e1]; rfl
    rw [hres2]
    obtain ⟨_, ⟨E4, v2, rfl, y4, hv2⟩, hcl4⟩ := md_sn (d := d) y3
    have y4 : CMd E0 E4 T (.inl x) := y4
    have hb4 := md_1b y4
    refine Sx.up (fun _ kk => r_aload_n 1 dX12_readNever_0 rfl rfl kk) ?_
    refine Sx.up (fun _ kk => r_getR 4 dX12_readNever_1 rfl f12_38 rfl rfl lt95 (mo_3 (by first | exact md_M y1 | exact md_M y2 | exact md_M y3 | exact md_M y4 | exact md_M y5 | exact md_M y6 | exact md_M y7)) kk) ?_
    refine Sx.up (fun _ kk => r_bipush (14) 6 dX12_readNever_4 rfl (by decide) kk) ?_
    refine Sx.up (fun _ kk => r_ialdN (14) (nI (bN q0.2)) 7 dX12_readNever_6 rfl rfl (Nat.le_of_ble_eq_true rfl) (by decide) (Nat.le_of_ble_eq_true rfl) (Nat.le_of_ble_eq_true rfl) (o6) kk) ?_
    refine Sx.up (fun _ kk => r_bipush (6) 9 dX12_readNever_7 rfl (by decide) kk) ?_
    refine Sx.up (fun _ kk => r_icmp_ne 12 17 dX12_readNever_9 rfl (by decide) (fun _ => kk) (fun h9 => absurd h9 (fun z => h6 ((nI_eq (b := 6) (by omega) (by omega)).mp z)))) ?_
    refine Sx.up (fun _ kk => r_aload_n 18 dX12_readNever_17 rfl rfl kk) ?_
    refine Sx.up (fun _ kk => r_getI 21 dX12_readNever_18 rfl f12_208 rfl rfl lt95 kk) ?_
    refine Sx.up (fun _ kk => r_if_eq 24 25 dX12_readNever_21 rfl (by decide) (fun _ => kk) (fun h21 => absurd hb1 h21)) ?_
    refine Sx.up (fun _ kk => r_aload_n 26 dX12_readNever_25 rfl rfl kk) ?_
    refine Sx.up (fun _ kk => r_callV (M := mX12_readNever) (pc := 26) 29 dX12_readNever_26 rfl k12_233 hcl2 rfl rfl rfl (by decide) rfl lt95 (Nat.le_of_ble_eq_true rfl) kk) ?_
    refine Sx.up (fun _ kk => r_aload_n 30 dX12_readNever_29 rfl rfl kk) ?_
    refine Sx.up (fun _ kk => r_callV (M := mX12_readNever) (pc := 30) 33 dX12_readNever_30 rfl k12_276 hcl3 rfl rfl rfl (by decide) rfl lt95 (Nat.le_of_ble_eq_true rfl) kk) ?_
    refine Sx.up (fun _ kk => r_istore_n 34 dX12_readNever_33 rfl (by decide) rfl kk) ?_
    refine Sx.up (fun _ kk => r_aload_n 35 dX12_readNever_34 rfl rfl kk) ?_
    refine Sx.up (fun _ kk => r_getI 38 dX12_readNever_35 rfl f12_208 rfl rfl lt95 kk) ?_
    refine Sx.up (fun _ kk => r_if_ne 41 45 dX12_readNever_38 rfl (by decide) (fun _ => kk) (fun h38 => absurd h38 hb3)) ?_
    refine Sx.up (fun _ kk => r_aload_n 46 dX12_readNever_45 rfl rfl kk) ?_
    refine Sx.up (fun _ kk => r_callV (M := mX12_readNever) (pc := 46) 49 dX12_readNever_46 rfl k12_276 hcl4 rfl rfl rfl (by decide) rfl lt95 (Nat.le_of_ble_eq_true rfl) kk) ?_
    refine Sx.up (fun _ kk => r_istore_n 50 dX12_readNever_49 rfl (by decide) rfl kk) ?_
    refine Sx.up (fun _ kk => r_aload_n 51 dX12_readNever_50 rfl rfl kk) ?_
    refine Sx.up (fun _ kk => r_getI 54 dX12_readNever_51 rfl f12_208 rfl rfl lt95 kk) ?_
    refine Sx.up (fun _ kk => r_if_ne 57 84 dX12_readNever_54 rfl (by decide) (fun _ => kk) (fun h54 => absurd h54 hb4)) ?_
    refine Sx.up (fun _ kk => r_aload_n 85 dX12_readNever_84 rfl rfl kk) ?_
    refine Sx.up (fun _ kk => r_getI 88 dX12_readNever_85 rfl f12_208 rfl rfl lt95 kk) ?_
    refine Sx.up (fun _ kk => r_if_eq 91 92 dX12_readNever_88 rfl (by decide) (fun h88 => absurd h88 hb4) (fun _ => kk)) ?_
    refine ⟨_, ?_, r_vret dX12_readNever_91 rfl rfl rfl⟩
    exact ⟨_, rfl, y4⟩
  | inr x =>
    rw [hn1] at y3
    have hb3 := md_0b y3 ⟨_, rfl⟩
    obtain ⟨ex, kx, lx⟩ := sn_live hn1
    have hvx : v1 = nI (vaS T s0) := hv1 x hn1
    obtain ⟨hx7, hxB⟩ := hc0 x ex
    have hun : unS T s0 = s0 := by
      rw [ex]
      exact if_neg (fun z => by have := (in_num z).2.1; omega)
    have htk : tkS T 0 9999 (unS T s0) = advS T s0 := by rw [← adv_sn, hn1, ex]
    obtain ⟨_, ⟨E4, rfl, y4⟩, hcl4⟩ := md_adv (d := d + 1) y3 ⟨_, rfl⟩
    rw [← ex] at y4
    obtain ⟨sb, hsb⟩ : ∃ sb, advS T s0 = sb := ⟨_, rfl⟩
    rw [hsb] at y4
    have hcb : ∀ q, sb = .inr q → bC q.2 ≤ 7 ∧ q.2 = q0.2 := fun q z => by
      rw [← hsb, ex] at z
      have z := Sum.inr.inj (show (.inr (nxT T x.1, x.2) : PS) = .inr q from z)
      subst z
      exact ⟨hx7, hxB⟩
    obtain ⟨_, ⟨E5, v2, rfl, y5, hv2⟩, hcl5⟩ := md_sn (d := d) y4
    rw [htk, hsb, hun] at hres
    rw [hres]
    obtain ⟨vx, hvx2⟩ : ∃ vx, vaS T s0 = vx := ⟨_, rfl⟩
    have hvx7 : vx < bC q0.2 := by rw [← hvx2, ex, ← hxB]; exact lx
    have hq07 : bC q0.2 ≤ 7 := y1.2.2.2.2.2.1
    rw [hvx2] at hvx ⊢
    cases hn2 : snS T sb with
    | inl z =>
      rw [hn2] at y5
      have hb5 := md_1b y5
      have e2 : tkS T 0 9999 (agS T vx (unS T sb)) = .inl z := by rw [ag_sn (fun q y => (hcb q y).1) (fun q y => by rw [hn2] at y; cases y), hn2]
      rw [e2]
      refine Sx.up (fun _ kk => r_aload_n 1 dX12_readNever_0 rfl rfl kk) ?_
      refine Sx.up (fun _ kk => r_getR 4 dX12_readNever_1 rfl f12_38 rfl rfl lt95 (mo_3 (by first | exact md_M y1 | exact md_M y2 | exact md_M y3 | exact md_M y4 | exact md_M y5 | exact md_M y6 | exact md_M y7)) kk) ?_
      refine Sx.up (fun _ kk => r_bipush (14) 6 dX12_readNever_4 rfl (by decide) kk) ?_
      refine Sx.up (fun _ kk => r_ialdN (14) (nI (bN q0.2)) 7 dX12_readNever_6 rfl rfl (Nat.le_of_ble_eq_true rfl) (by decide) (Nat.le_of_ble_eq_true rfl) (Nat.le_of_ble_eq_true rfl) (o6) kk) ?_
      refine Sx.up (fun _ kk => r_bipush (6) 9 dX12_readNever_7 rfl (by decide) kk) ?_
      refine Sx.up (fun _ kk => r_icmp_ne 12 17 dX12_readNever_9 rfl (by decide) (fun _ => kk) (fun h9 => absurd h9 (fun z => h6 ((nI_eq (b := 6) (by omega) (by omega)).mp z)))) ?_
      refine Sx.up (fun _ kk => r_aload_n 18 dX12_readNever_17 rfl rfl kk) ?_
      refine Sx.up (fun _ kk => r_getI 21 dX12_readNever_18 rfl f12_208 rfl rfl lt95 kk) ?_
      refine Sx.up (fun _ kk => r_if_eq 24 25 dX12_readNever_21 rfl (by decide) (fun _ => kk) (fun h21 => absurd hb1 h21)) ?_
      refine Sx.up (fun _ kk => r_aload_n 26 dX12_readNever_25 rfl rfl kk) ?_
      refine Sx.up (fun _ kk => r_callV (M := mX12_readNever) (pc := 26) 29 dX12_readNever_26 rfl k12_233 hcl2 rfl rfl rfl (by decide) rfl lt95 (Nat.le_of_ble_eq_true rfl) kk) ?_
      refine Sx.up (fun _ kk => r_aload_n 30 dX12_readNever_29 rfl rfl kk) ?_
      refine Sx.up (fun _ kk => r_callV (M := mX12_readNever) (pc := 30) 33 dX12_readNever_30 rfl k12_276 hcl3 rfl rfl rfl (by decide) rfl lt95 (Nat.le_of_ble_eq_true rfl) kk) ?_
      refine Sx.up (fun _ kk => r_istore_n 34 dX12_readNever_33 rfl (by decide) rfl kk) ?_
      refine Sx.up (fun _ kk => r_aload_n 35 dX12_readNever_34 rfl rfl kk) ?_
      refine Sx.up (fun _ kk => r_getI 38 dX12_readNever_35 rfl f12_208 rfl rfl lt95 kk) ?_
      refine Sx.up (fun _ kk => r_if_ne 41 45 dX12_readNever_38 rfl (by decide) (fun h38 => absurd h38 (fun z => z hb3)) (fun _ => kk)) ?_
      refine Sx.up (fun _ kk => r_aload_n 42 dX12_readNever_41 rfl rfl kk) ?_
      refine Sx.up (fun _ kk => r_callV (M := mX12_readNever) (pc := 42) 45 dX12_readNever_42 rfl k12_233 hcl4 rfl rfl rfl (by decide) rfl lt95 (Nat.le_of_ble_eq_true rfl) kk) ?_
      refine Sx.up (fun _ kk => r_aload_n 46 dX12_readNever_45 rfl rfl kk) ?_
      refine Sx.up (fun _ kk => r_callV (M := mX12_readNever) (pc := 46) 49 dX12_readNever_46 rfl k12_276 hcl5 rfl rfl rfl (by decide) rfl lt95 (Nat.le_of_ble_eq_true rfl) kk) ?_
      refine Sx.up (fun _ kk => r_istore_n 50 dX12_readNever_49 rfl (by decide) rfl kk) ?_
      refine Sx.up (fun _ kk => r_aload_n 51 dX12_readNever_50 rfl rfl kk) ?_
      refine Sx.up (fun _ kk => r_getI 54 dX12_readNever_51 rfl f12_208 rfl rfl lt95 kk) ?_
      refine Sx.up (fun _ kk => r_if_ne 57 84 dX12_readNever_54 rfl (by decide) (fun _ => kk) (fun h54 => absurd h54 hb5)) ?_
      refine Sx.up (fun _ kk => r_aload_n 85 dX12_readNever_84 rfl rfl kk) ?_
      refine Sx.up (fun _ kk => r_getI 88 dX12_readNever_85 rfl f12_208 rfl rfl lt95 kk) ?_
      refine Sx.up (fun _ kk => r_if_eq 91 92 dX12_readNever_88 rfl (by decide) (fun h88 => absurd h88 hb5) (fun _ => kk)) ?_
      refine ⟨_, ?_, r_vret dX12_readNever_91 rfl rfl rfl⟩
      exact ⟨_, rfl, y5⟩
    | inr z =>
      rw [hn2] at y5
      have hb5 := md_0b y5 ⟨_, rfl⟩
      obtain ⟨ez, kz, lz⟩ := sn_live hn2
      obtain ⟨hz7, hzB⟩ := hcb z ez
      have hvz : v2 = nI (numT T z.1) := by rw [hv2 z hn2, ez]; rfl
      have hunb : unS T sb = .inr z := by
        rw [ez]
        exact if_neg (fun y => by have := (in_num y).2.1; omega)
      rw [hunb]
      rw [hzB] at lz
      obtain ⟨o1, o2, o3, o4, o5, o6b, o7b, -⟩ := id y5.2.2.2.2
      have hE : gA E5 105 (7 + vx) = bE z.2 vx := (o3 vx (by rw [hzB]; exact hvx7)).2.2.2.2.2.2.2
      rw [hzB] at hE o6b
      have i7 : (7 : Int32) + nI vx = nI (7 + vx) := nI_add 7 vx
      have i7b : (7 : Int32) + nI (numT T z.1) = nI (7 + numT T z.1) := nI_add 7 _
      by_cases hr : numT T z.1 = vx ∨ (bE q0.2 vx >>> (nI (numT T z.1) &&& 31)) &&& 1 = 1
      · have hag : agS T vx (.inr z) = .inl (4, z.1) := if_pos ⟨kz, by rw [hzB]; exact lz, by rw [hzB]; exact hr⟩
        rw [hag]
        obtain ⟨_, ⟨E6, rfl, y6⟩, hcl6⟩ := md_wrong (d := d + 2) y5 (k := 4) (k9 := 4) rfl (by decide) (by decide)
        have hb6 := md_1b y6
        by_cases hr1 : numT T z.1 = vx
        · refine Sx.up (fun _ kk => r_aload_n 1 dX12_readNever_0 rfl rfl kk) ?_
          refine Sx.up (fun _ kk => r_getR 4 dX12_readNever_1 rfl f12_38 rfl rfl lt95 (mo_3 (by first | exact md_M y1 | exact md_M y2 | exact md_M y3 | exact md_M y4 | exact md_M y5 | exact md_M y6 | exact md_M y7)) kk) ?_
          refine Sx.up (fun _ kk => r_bipush (14) 6 dX12_readNever_4 rfl (by decide) kk) ?_
          refine Sx.up (fun _ kk => r_ialdN (14) (nI (bN q0.2)) 7 dX12_readNever_6 rfl rfl (Nat.le_of_ble_eq_true rfl) (by decide) (Nat.le_of_ble_eq_true rfl) (Nat.le_of_ble_eq_true rfl) (o6) kk) ?_
          refine Sx.up (fun _ kk => r_bipush (6) 9 dX12_readNever_7 rfl (by decide) kk) ?_
          refine Sx.up (fun _ kk => r_icmp_ne 12 17 dX12_readNever_9 rfl (by decide) (fun _ => kk) (fun h9 => absurd h9 (fun z => h6 ((nI_eq (b := 6) (by omega) (by omega)).mp z)))) ?_
          refine Sx.up (fun _ kk => r_aload_n 18 dX12_readNever_17 rfl rfl kk) ?_
          refine Sx.up (fun _ kk => r_getI 21 dX12_readNever_18 rfl f12_208 rfl rfl lt95 kk) ?_
          refine Sx.up (fun _ kk => r_if_eq 24 25 dX12_readNever_21 rfl (by decide) (fun _ => kk) (fun h21 => absurd hb1 h21)) ?_
          refine Sx.up (fun _ kk => r_aload_n 26 dX12_readNever_25 rfl rfl kk) ?_
          refine Sx.up (fun _ kk => r_callV (M := mX12_readNever) (pc := 26) 29 dX12_readNever_26 rfl k12_233 hcl2 rfl rfl rfl (by decide) rfl lt95 (Nat.le_of_ble_eq_true rfl) kk) ?_
          refine Sx.up (fun _ kk => r_aload_n 30 dX12_readNever_29 rfl rfl kk) ?_
          refine Sx.up (fun _ kk => r_callV (M := mX12_readNever) (pc := 30) 33 dX12_readNever_30 rfl k12_276 hcl3 rfl rfl rfl (by decide) rfl lt95 (Nat.le_of_ble_eq_true rfl) kk) ?_
          refine Sx.up (fun _ kk => r_istore_n 34 dX12_readNever_33 rfl (by decide) rfl kk) ?_
          refine Sx.up (fun _ kk => r_aload_n 35 dX12_readNever_34 rfl rfl kk) ?_
          refine Sx.up (fun _ kk => r_getI 38 dX12_readNever_35 rfl f12_208 rfl rfl lt95 kk) ?_
          refine Sx.up (fun _ kk => r_if_ne 41 45 dX12_readNever_38 rfl (by decide) (fun h38 => absurd h38 (fun z => z hb3)) (fun _ => kk)) ?_
          refine Sx.up (fun _ kk => r_aload_n 42 dX12_readNever_41 rfl rfl kk) ?_
          refine Sx.up (fun _ kk => r_callV (M := mX12_readNever) (pc := 42) 45 dX12_readNever_42 rfl k12_233 hcl4 rfl rfl rfl (by decide) rfl lt95 (Nat.le_of_ble_eq_true rfl) kk) ?_
          refine Sx.up (fun _ kk => r_aload_n 46 dX12_readNever_45 rfl rfl kk) ?_
          refine Sx.up (fun _ kk => r_callV (M := mX12_readNever) (pc := 46) 49 dX12_readNever_46 rfl k12_276 hcl5 rfl rfl rfl (by decide) rfl lt95 (Nat.le_of_ble_eq_true rfl) kk) ?_
          refine Sx.up (fun _ kk => r_istore_n 50 dX12_readNever_49 rfl (by decide) rfl kk) ?_
          refine Sx.up (fun _ kk => r_aload_n 51 dX12_readNever_50 rfl rfl kk) ?_
          refine Sx.up (fun _ kk => r_getI 54 dX12_readNever_51 rfl f12_208 rfl rfl lt95 kk) ?_
          refine Sx.up (fun _ kk => r_if_ne 57 84 dX12_readNever_54 rfl (by decide) (fun h54 => absurd h54 (fun z => z hb5)) (fun _ => kk)) ?_
          refine Sx.up (fun _ kk => r_iload_n 58 dX12_readNever_57 rfl rfl kk) ?_
          refine Sx.up (fun _ kk => r_iload_n 59 dX12_readNever_58 rfl rfl kk) ?_
          refine Sx.up (fun _ kk => r_icmp_eq 62 79 dX12_readNever_59 rfl (by decide) (fun _ => kk) (fun h59 => absurd (by rw [hvx, hvz, hr1]) h59)) ?_
          refine Sx.up (fun _ kk => r_aload_n 80 dX12_readNever_79 rfl rfl kk) ?_
          refine Sx.up (fun _ kk => r_iconst (4) 81 dX12_readNever_80 rfl (by decide) kk) ?_
          refine Sx.up (fun _ kk => r_callV (M := mX12_readNever) (pc := 81) 84 dX12_readNever_81 rfl k12_229 hcl6 rfl rfl rfl (by decide) rfl lt95 (Nat.le_of_ble_eq_true rfl) kk) ?_
          refine Sx.up (fun _ kk => r_aload_n 85 dX12_readNever_84 rfl rfl kk) ?_
          refine Sx.up (fun _ kk => r_getI 88 dX12_readNever_85 rfl f12_208 rfl rfl lt95 kk) ?_
          refine Sx.up (fun _ kk => r_if_eq 91 92 dX12_readNever_88 rfl (by decide) (fun h88 => absurd h88 hb6) (fun _ => kk)) ?_
          refine ⟨_, ?_, r_vret dX12_readNever_91 rfl rfl rfl⟩
          exact ⟨_, rfl, y6⟩
        · refine Sx.up (fun _ kk => r_aload_n 1 dX12_readNever_0 rfl rfl kk) ?_
          refine Sx.up (fun _ kk => r_getR 4 dX12_readNever_1 rfl f12_38 rfl rfl lt95 (mo_3 (by first | exact md_M y1 | exact md_M y2 | exact md_M y3 | exact md_M y4 | exact md_M y5 | exact md_M y6 | exact md_M y7)) kk) ?_
          refine Sx.up (fun _ kk => r_bipush (14) 6 dX12_readNever_4 rfl (by decide) kk) ?_
          refine Sx.up (fun _ kk => r_ialdN (14) (nI (bN q0.2)) 7 dX12_readNever_6 rfl rfl (Nat.le_of_ble_eq_true rfl) (by decide) (Nat.le_of_ble_eq_true rfl) (Nat.le_of_ble_eq_true rfl) (o6) kk) ?_
          refine Sx.up (fun _ kk => r_bipush (6) 9 dX12_readNever_7 rfl (by decide) kk) ?_
          refine Sx.up (fun _ kk => r_icmp_ne 12 17 dX12_readNever_9 rfl (by decide) (fun _ => kk) (fun h9 => absurd h9 (fun z => h6 ((nI_eq (b := 6) (by omega) (by omega)).mp z)))) ?_
          refine Sx.up (fun _ kk => r_aload_n 18 dX12_readNever_17 rfl rfl kk) ?_
          refine Sx.up (fun _ kk => r_getI 21 dX12_readNever_18 rfl f12_208 rfl rfl lt95 kk) ?_
          refine Sx.up (fun _ kk => r_if_eq 24 25 dX12_readNever_21 rfl (by decide) (fun _ => kk) (fun h21 => absurd hb1 h21)) ?_
          refine Sx.up (fun _ kk => r_aload_n 26 dX12_readNever_25 rfl rfl kk) ?_
          refine Sx.up (fun _ kk => r_callV (M := mX12_readNever) (pc := 26) 29 dX12_readNever_26 rfl k12_233 hcl2 rfl rfl rfl (by decide) rfl lt95 (Nat.le_of_ble_eq_true rfl) kk) ?_
          refine Sx.up (fun _ kk => r_aload_n 30 dX12_readNever_29 rfl rfl kk) ?_
          refine Sx.up (fun _ kk => r_callV (M := mX12_readNever) (pc := 30) 33 dX12_readNever_30 rfl k12_276 hcl3 rfl rfl rfl (by decide) rfl lt95 (Nat.le_of_ble_eq_true rfl) kk) ?_
          refine Sx.up (fun _ kk => r_istore_n 34 dX12_readNever_33 rfl (by decide) rfl kk) ?_
          refine Sx.up (fun _ kk => r_aload_n 35 dX12_readNever_34 rfl rfl kk) ?_
          refine Sx.up (fun _ kk => r_getI 38 dX12_readNever_35 rfl f12_208 rfl rfl lt95 kk) ?_
          refine Sx.up (fun _ kk => r_if_ne 41 45 dX12_readNever_38 rfl (by decide) (fun h38 => absurd h38 (fun z => z hb3)) (fun _ => kk)) ?_
          refine Sx.up (fun _ kk => r_aload_n 42 dX12_readNever_41 rfl rfl kk) ?_
          refine Sx.up (fun _ kk => r_callV (M := mX12_readNever) (pc := 42) 45 dX12_readNever_42 rfl k12_233 hcl4 rfl rfl rfl (by decide) rfl lt95 (Nat.le_of_ble_eq_true rfl) kk) ?_
          refine Sx.up (fun _ kk => r_aload_n 46 dX12_readNever_45 rfl rfl kk) ?_
          refine Sx.up (fun _ kk => r_callV (M := mX12_readNever) (pc := 46) 49 dX12_readNever_46 rfl k12_276 hcl5 rfl rfl rfl (by decide) rfl lt95 (Nat.le_of_ble_eq_true rfl) kk) ?_
          refine Sx.up (fun _ kk => r_istore_n 50 dX12_readNever_49 rfl (by decide) rfl kk) ?_
          refine Sx.up (fun _ kk => r_aload_n 51 dX12_readNever_50 rfl rfl kk) ?_
          refine Sx.up (fun _ kk => r_getI 54 dX12_readNever_51 rfl f12_208 rfl rfl lt95 kk) ?_
          refine Sx.up (fun _ kk => r_if_ne 57 84 dX12_readNever_54 rfl (by decide) (fun h54 => absurd h54 (fun z => z hb5)) (fun _ => kk)) ?_
          refine Sx.up (fun _ kk => r_iload_n 58 dX12_readNever_57 rfl rfl kk) ?_
          refine Sx.up (fun _ kk => r_iload_n 59 dX12_readNever_58 rfl rfl kk) ?_
          refine Sx.up (fun _ kk => r_icmp_eq 62 79 dX12_readNever_59 rfl (by decide) (fun h59 => absurd h59 (fun y => hr1 ((nI_eq (by omega) (by omega)).mp (by rw [← hvx, ← hvz]; exact y.symm)))) (fun _ => kk)) ?_
          refine Sx.up (fun _ kk => r_aload_n 63 dX12_readNever_62 rfl rfl kk) ?_
          refine Sx.up (fun _ kk => r_getR 66 dX12_readNever_63 rfl f12_59 rfl rfl lt95 (mo_10 (by first | exact md_M y1 | exact md_M y2 | exact md_M y3 | exact md_M y4 | exact md_M y5 | exact md_M y6 | exact md_M y7)) kk) ?_
          refine Sx.up (fun _ kk => r_bipush (7) 68 dX12_readNever_66 rfl (by decide) kk) ?_
          refine Sx.up (fun _ kk => r_iload_n 69 dX12_readNever_68 rfl rfl kk) ?_
          refine Sx.up (fun _ kk => r_iadd 70 dX12_readNever_69 rfl kk) ?_
          refine Sx.up (fun _ kk => r_ialdN (7 + vx) (bE q0.2 vx) 71 dX12_readNever_70 rfl rfl (Nat.le_of_ble_eq_true rfl) (by rw [hvx]; exact i7) (by omega) (Nat.le_of_ble_eq_true rfl) (hE) kk) ?_
          refine Sx.up (fun _ kk => r_iload_n 72 dX12_readNever_71 rfl rfl kk) ?_
          refine Sx.up (fun _ kk => r_ishr 73 dX12_readNever_72 rfl kk) ?_
          refine Sx.up (fun _ kk => r_iconst (1) 74 dX12_readNever_73 rfl (by decide) kk) ?_
          refine Sx.up (fun _ kk => r_iand 75 dX12_readNever_74 rfl kk) ?_
          refine Sx.up (fun _ kk => r_iconst (1) 76 dX12_readNever_75 rfl (by decide) kk) ?_
          refine Sx.up (fun _ kk => r_icmp_ne 79 84 dX12_readNever_76 rfl (by decide) (fun h76 => absurd h76 (fun y => y (by rw [hvz]; exact hr.resolve_left hr1))) (fun _ => kk)) ?_
          refine Sx.up (fun _ kk => r_aload_n 80 dX12_readNever_79 rfl rfl kk) ?_
          refine Sx.up (fun _ kk => r_iconst (4) 81 dX12_readNever_80 rfl (by decide) kk) ?_
          refine Sx.up (fun _ kk => r_callV (M := mX12_readNever) (pc := 81) 84 dX12_readNever_81 rfl k12_229 hcl6 rfl rfl rfl (by decide) rfl lt95 (Nat.le_of_ble_eq_true rfl) kk) ?_
          refine Sx.up (fun _ kk => r_aload_n 85 dX12_readNever_84 rfl rfl kk) ?_
          refine Sx.up (fun _ kk => r_getI 88 dX12_readNever_85 rfl f12_208 rfl rfl lt95 kk) ?_
          refine Sx.up (fun _ kk => r_if_eq 91 92 dX12_readNever_88 rfl (by decide) (fun h88 => absurd h88 hb6) (fun _ => kk)) ?_
          refine ⟨_, ?_, r_vret dX12_readNever_91 rfl rfl rfl⟩
          exact ⟨_, rfl, y6⟩
      · have hr1 : ¬ numT T z.1 = vx := fun y => hr (Or.inl y)
        have hr2 : ¬ (bE q0.2 vx >>> (nI (numT T z.1) &&& 31)) &&& 1 = 1 := fun y => hr (Or.inr y)
        have hag : agS T vx (.inr z) = .inr z := if_neg (fun y => hr (by have := y.2.2; rw [hzB] at this; exact this))
        have htz : tkS T 0 9999 (.inr z) = advS T (.inr z) := by rw [← hunb, ← adv_sn, hn2, hunb]
        rw [hag, htz]
        obtain ⟨_, ⟨E6, rfl, y6, w6⟩, hcl6⟩ := md_advM (d := d + 1) y5 ⟨_, rfl⟩
        obtain ⟨w, hw⟩ : ∃ w, numT T z.1 = w := ⟨_, rfl⟩
        have hvw : vaS T (.inr z) = w := hw
        rw [hvw]
        rw [hw] at hvz i7b lz hr1
        have g105 : ∀ j, gA E6 105 j = gA E5 105 j := fun j => by rw [mf_gA w6 List.not_mem_nil]
        have hE2 : gA E5 105 (7 + w) = bE q0.2 w := by rw [← hzB]; exact (o3 w (by rw [hzB]; exact lz)).2.2.2.2.2.2.2
        have ha1 : gA E6 105 (7 + vx) = bE q0.2 vx := (g105 _).trans hE
        obtain ⟨X1, hX1⟩ : ∃ X1, bE q0.2 vx ||| (1 <<< (nI w &&& 31)) = X1 := ⟨_, rfl⟩
        obtain ⟨X2, hX2⟩ : ∃ X2, bE q0.2 w ||| (1 <<< (nI vx &&& 31)) = X2 := ⟨_, rfl⟩
        have ha2 : gA (sA E6 105 (7 + vx) X1) 105 (7 + w) = bE q0.2 w := by rw [gA_sA, if_neg (fun y => hr1 (by omega)), g105]; exact hE2
        have ha3 : gA (sA (sA E6 105 (7 + vx) X1) 105 (7 + w) X2) 98 14 = nI (bN q0.2) := by rw [gA_sA, if_neg (fun y => absurd y.1 (by decide)), gA_sA, if_neg (fun y => absurd y.1 (by decide)), mf_gA w6 List.not_mem_nil]; exact o6b
        have hM9 : MF [] [98, 105] E6 (sA (sA (sA E6 105 (7 + vx) X1) 105 (7 + w) X2) 98 14 (nI (bN q0.2) + 1)) := mf_sA (by decide) (mf_sA (by decide) (mf_sA (by decide) mf_rfl))
        have yf : CMd E0 (sA (sA (sA E6 105 (7 + vx) X1) 105 (7 + w) X2) 98 14 (nI (bN q0.2) + 1)) T (nvS vx w (advS T (.inr z))) := by
          obtain ⟨c1, c2, c3, p1, p2, p3, p4, p5, p6, p7, p8, p9, p10⟩ := id y6.2
          have h98 : ∀ j, j ≠ 14 → gA (sA (sA (sA E6 105 (7 + vx) X1) 105 (7 + w) X2) 98 14 (nI (bN q0.2) + 1)) 98 j = gA E6 98 j := fun j hj => by rw [gA_sA, if_neg (fun y => hj y.2), gA_sA, if_neg (fun y => absurd y.1 (by decide)), gA_sA, if_neg (fun y => absurd y.1 (by decide))]
          have ho : ∀ k, k ≠ 98 → k ≠ 105 → gA (sA (sA (sA E6 105 (7 + vx) X1) 105 (7 + w) X2) 98 14 (nI (bN q0.2) + 1)) k = gA E6 k := fun k h1 h2 => mf_gA hM9 (by simp [h1, h2])
          refine ⟨⟨md_T y6, tmf_mf hM9 (by decide) (by decide) (md_F y6), hf_sA (hf_sA (hf_sA y6.1.2.2 (m := 7) (by decide) (by omega)) (m := 7) (by decide) (by omega)) (m := 8) (by decide) (by omega)⟩, c1, c2, c3, (h98 _ (by decide)).trans p1, p2, fun q hq => ?_, fun q h1 h2 => ?_, fun j hj => (h98 _ (by omega)).trans (p5 j hj), ?_, ?_, (h98 _ (by decide)).trans p8, p9, fun j hj => by rw [ho 106 (by decide) (by decide)]; exact p10 j hj⟩
          · obtain ⟨q1, q2, q3, q4, q5, q6, q7, q8⟩ := p3 q hq
            rw [ho 99 (by decide) (by decide), ho 100 (by decide) (by decide), ho 101 (by decide) (by decide), ho 102 (by decide) (by decide), ho 103 (by decide) (by decide), ho 104 (by decide) (by decide)]
            refine ⟨q1, q2, q3, q4, q5, q6, q7, ?_⟩
            rw [gA_sA, if_neg (fun y => absurd y.1 (by decide)), gA_sA, gA_sA]
            show _ = (if q = w then (if w = vx then bE z.2 vx ||| (1 <<< (nI w &&& 31)) else bE z.2 w) ||| (1 <<< (nI vx &&& 31)) else if q = vx then bE z.2 vx ||| (1 <<< (nI w &&& 31)) else bE z.2 q)
            rw [hzB, if_neg hr1]
            by_cases h1 : q = w
            · rw [if_pos h1, if_pos ⟨rfl, by omega⟩]; exact hX2.symm
            · rw [if_neg h1, if_neg (fun y => h1 (by omega))]
              by_cases h2 : q = vx
              · rw [if_pos h2, if_pos ⟨rfl, by omega⟩]; exact hX1.symm
              · rw [if_neg h2, if_neg (fun y => h2 (by omega)), ← hzB]; exact q8
          · show (if q = w then _ else if q = vx then _ else bE z.2 q) = 0
            have h1 : bC z.2 ≤ q := h1
            rw [hzB] at h1
            rw [if_neg (by omega), if_neg (by omega)]
            exact p4 q (by show bC z.2 ≤ q; rw [hzB]; exact h1) h2
          · rw [gA_sA, if_pos ⟨rfl, rfl⟩, nI_pp, ← hzB]; rfl
          · show bN z.2 + 1 ≤ 6
            rw [hzB]; omega
        refine Sx.up (fun _ kk => r_aload_n 1 dX12_readNever_0 rfl rfl kk) ?_
        refine Sx.up (fun _ kk => r_getR 4 dX12_readNever_1 rfl f12_38 rfl rfl lt95 (mo_3 (by first | exact md_M y1 | exact md_M y2 | exact md_M y3 | exact md_M y4 | exact md_M y5 | exact md_M y6 | exact md_M y7)) kk) ?_
        refine Sx.up (fun _ kk => r_bipush (14) 6 dX12_readNever_4 rfl (by decide) kk) ?_
        refine Sx.up (fun _ kk => r_ialdN (14) (nI (bN q0.2)) 7 dX12_readNever_6 rfl rfl (Nat.le_of_ble_eq_true rfl) (by decide) (Nat.le_of_ble_eq_true rfl) (Nat.le_of_ble_eq_true rfl) (o6) kk) ?_
        refine Sx.up (fun _ kk => r_bipush (6) 9 dX12_readNever_7 rfl (by decide) kk) ?_
        refine Sx.up (fun _ kk => r_icmp_ne 12 17 dX12_readNever_9 rfl (by decide) (fun _ => kk) (fun h9 => absurd h9 (fun z => h6 ((nI_eq (b := 6) (by omega) (by omega)).mp z)))) ?_
        refine Sx.up (fun _ kk => r_aload_n 18 dX12_readNever_17 rfl rfl kk) ?_
        refine Sx.up (fun _ kk => r_getI 21 dX12_readNever_18 rfl f12_208 rfl rfl lt95 kk) ?_
        refine Sx.up (fun _ kk => r_if_eq 24 25 dX12_readNever_21 rfl (by decide) (fun _ => kk) (fun h21 => absurd hb1 h21)) ?_
        refine Sx.up (fun _ kk => r_aload_n 26 dX12_readNever_25 rfl rfl kk) ?_
        refine Sx.up (fun _ kk => r_callV (M := mX12_readNever) (pc := 26) 29 dX12_readNever_26 rfl k12_233 hcl2 rfl rfl rfl (by decide) rfl lt95 (Nat.le_of_ble_eq_true rfl) kk) ?_
        refine Sx.up (fun _ kk => r_aload_n 30 dX12_readNever_29 rfl rfl kk) ?_
        refine Sx.up (fun _ kk => r_callV (M := mX12_readNever) (pc := 30) 33 dX12_readNever_30 rfl k12_276 hcl3 rfl rfl rfl (by decide) rfl lt95 (Nat.le_of_ble_eq_true rfl) kk) ?_
        refine Sx.up (fun _ kk => r_istore_n 34 dX12_readNever_33 rfl (by decide) rfl kk) ?_
        refine Sx.up (fun _ kk => r_aload_n 35 dX12_readNever_34 rfl rfl kk) ?_
        refine Sx.up (fun _ kk => r_getI 38 dX12_readNever_35 rfl f12_208 rfl rfl lt95 kk) ?_
        refine Sx.up (fun _ kk => r_if_ne 41 45 dX12_readNever_38 rfl (by decide) (fun h38 => absurd h38 (fun z => z hb3)) (fun _ => kk)) ?_
        refine Sx.up (fun _ kk => r_aload_n 42 dX12_readNever_41 rfl rfl kk) ?_
        refine Sx.up (fun _ kk => r_callV (M := mX12_readNever) (pc := 42) 45 dX12_readNever_42 rfl k12_233 hcl4 rfl rfl rfl (by decide) rfl lt95 (Nat.le_of_ble_eq_true rfl) kk) ?_
        refine Sx.up (fun _ kk => r_aload_n 46 dX12_readNever_45 rfl rfl kk) ?_
        refine Sx.up (fun _ kk => r_callV (M := mX12_readNever) (pc := 46) 49 dX12_readNever_46 rfl k12_276 hcl5 rfl rfl rfl (by decide) rfl lt95 (Nat.le_of_ble_eq_true rfl) kk) ?_
        refine Sx.up (fun _ kk => r_istore_n 50 dX12_readNever_49 rfl (by decide) rfl kk) ?_
        refine Sx.up (fun _ kk => r_aload_n 51 dX12_readNever_50 rfl rfl kk) ?_
        refine Sx.up (fun _ kk => r_getI 54 dX12_readNever_51 rfl f12_208 rfl rfl lt95 kk) ?_
        refine Sx.up (fun _ kk => r_if_ne 57 84 dX12_readNever_54 rfl (by decide) (fun h54 => absurd h54 (fun z => z hb5)) (fun _ => kk)) ?_
        refine Sx.up (fun _ kk => r_iload_n 58 dX12_readNever_57 rfl rfl kk) ?_
        refine Sx.up (fun _ kk => r_iload_n 59 dX12_readNever_58 rfl rfl kk) ?_
        refine Sx.up (fun _ kk => r_icmp_eq 62 79 dX12_readNever_59 rfl (by decide) (fun h59 => absurd h59 (fun y => hr1 ((nI_eq (by omega) (by omega)).mp (by rw [← hvx, ← hvz]; exact y.symm)))) (fun _ => kk)) ?_
        refine Sx.up (fun _ kk => r_aload_n 63 dX12_readNever_62 rfl rfl kk) ?_
        refine Sx.up (fun _ kk => r_getR 66 dX12_readNever_63 rfl f12_59 rfl rfl lt95 (mo_10 (by first | exact md_M y1 | exact md_M y2 | exact md_M y3 | exact md_M y4 | exact md_M y5 | exact md_M y6 | exact md_M y7)) kk) ?_
        refine Sx.up (fun _ kk => r_bipush (7) 68 dX12_readNever_66 rfl (by decide) kk) ?_
        refine Sx.up (fun _ kk => r_iload_n 69 dX12_readNever_68 rfl rfl kk) ?_
        refine Sx.up (fun _ kk => r_iadd 70 dX12_readNever_69 rfl kk) ?_
        refine Sx.up (fun _ kk => r_ialdN (7 + vx) (bE q0.2 vx) 71 dX12_readNever_70 rfl rfl (Nat.le_of_ble_eq_true rfl) (by rw [hvx]; exact i7) (by omega) (Nat.le_of_ble_eq_true rfl) (hE) kk) ?_
        refine Sx.up (fun _ kk => r_iload_n 72 dX12_readNever_71 rfl rfl kk) ?_
        refine Sx.up (fun _ kk => r_ishr 73 dX12_readNever_72 rfl kk) ?_
        refine Sx.up (fun _ kk => r_iconst (1) 74 dX12_readNever_73 rfl (by decide) kk) ?_
        refine Sx.up (fun _ kk => r_iand 75 dX12_readNever_74 rfl kk) ?_
        refine Sx.up (fun _ kk => r_iconst (1) 76 dX12_readNever_75 rfl (by decide) kk) ?_
        refine Sx.up (fun _ kk => r_icmp_ne 79 84 dX12_readNever_76 rfl (by decide) (fun _ => kk) (fun h76 => absurd h76 (fun y => hr2 (by rw [hw, ← hvz]; exact y)))) ?_
        refine Sx.up (fun _ kk => r_aload_n 85 dX12_readNever_84 rfl rfl kk) ?_
        refine Sx.up (fun _ kk => r_getI 88 dX12_readNever_85 rfl f12_208 rfl rfl lt95 kk) ?_
        refine Sx.up (fun _ kk => r_if_eq 91 92 dX12_readNever_88 rfl (by decide) (fun _ => kk) (fun h88 => absurd hb5 h88)) ?_
        refine Sx.up (fun _ kk => r_aload_n 93 dX12_readNever_92 rfl rfl kk) ?_
        refine Sx.up (fun _ kk => r_callV (M := mX12_readNever) (pc := 93) 96 dX12_readNever_93 rfl k12_233 hcl6 rfl rfl rfl (by decide) rfl lt95 (Nat.le_of_ble_eq_true rfl) kk) ?_
        refine Sx.up (fun _ kk => r_aload_n 97 dX12_readNever_96 rfl rfl kk) ?_
        refine Sx.up (fun _ kk => r_getR 100 dX12_readNever_97 rfl f12_59 rfl rfl lt95 (mo_10 (by first | exact md_M y1 | exact md_M y2 | exact md_M y3 | exact md_M y4 | exact md_M y5 | exact md_M y6 | exact md_M y7)) kk) ?_
        refine Sx.up (fun _ kk => r_bipush (7) 102 dX12_readNever_100 rfl (by decide) kk) ?_
        refine Sx.up (fun _ kk => r_iload_n 103 dX12_readNever_102 rfl rfl kk) ?_
        refine Sx.up (fun _ kk => r_iadd 104 dX12_readNever_103 rfl kk) ?_
        refine Sx.up (fun _ kk => r_dup2 105 dX12_readNever_104 rfl rfl rfl kk) ?_
        refine Sx.up (fun _ kk => r_ialdN (7 + vx) (bE q0.2 vx) 106 dX12_readNever_105 rfl rfl (Nat.le_of_ble_eq_true rfl) (by rw [hvx]; exact i7) (by omega) (Nat.le_of_ble_eq_true rfl) (ha1) kk) ?_
        refine Sx.up (fun _ kk => r_iconst (1) 107 dX12_readNever_106 rfl (by decide) kk) ?_
        refine Sx.up (fun _ kk => r_iload_n 108 dX12_readNever_107 rfl rfl kk) ?_
        refine Sx.up (fun _ kk => r_ishl 109 dX12_readNever_108 rfl kk) ?_
        refine Sx.up (fun _ kk => r_ior 110 dX12_readNever_109 rfl kk) ?_
        rw [hvz, hX1]
        refine Sx.up (fun _ kk => r_iastN (7 + vx) 111 dX12_readNever_110 rfl rfl (Nat.le_of_ble_eq_true rfl) (by rw [hvx]; exact i7) (by omega) (Nat.le_of_ble_eq_true rfl) kk) ?_
        refine Sx.up (fun _ kk => r_aload_n 112 dX12_readNever_111 rfl rfl kk) ?_
        refine Sx.up (fun _ kk => r_getR 115 dX12_readNever_112 rfl f12_59 rfl rfl lt95 (mo_10 (show MoOK E6 from md_M y6)) kk) ?_
        refine Sx.up (fun _ kk => r_bipush (7) 117 dX12_readNever_115 rfl (by decide) kk) ?_
        refine Sx.up (fun _ kk => r_iload_n 118 dX12_readNever_117 rfl rfl kk) ?_
        refine Sx.up (fun _ kk => r_iadd 119 dX12_readNever_118 rfl kk) ?_
        refine Sx.up (fun _ kk => r_dup2 120 dX12_readNever_119 rfl rfl rfl kk) ?_
        refine Sx.up (fun _ kk => r_ialdN (7 + w) (bE q0.2 w) 121 dX12_readNever_120 rfl rfl (Nat.le_of_ble_eq_true rfl) (by first | exact i7b | (rw [hvz]; exact i7b)) (by omega) (Nat.le_of_ble_eq_true rfl) (ha2) kk) ?_
        refine Sx.up (fun _ kk => r_iconst (1) 122 dX12_readNever_121 rfl (by decide) kk) ?_
        refine Sx.up (fun _ kk => r_iload_n 123 dX12_readNever_122 rfl rfl kk) ?_
        refine Sx.up (fun _ kk => r_ishl 124 dX12_readNever_123 rfl kk) ?_
        refine Sx.up (fun _ kk => r_ior 125 dX12_readNever_124 rfl kk) ?_
        rw [hvx, hX2]
        refine Sx.up (fun _ kk => r_iastN (7 + w) 126 dX12_readNever_125 rfl rfl (Nat.le_of_ble_eq_true rfl) (by first | exact i7b | (rw [hvz]; exact i7b)) (by omega) (Nat.le_of_ble_eq_true rfl) kk) ?_
        refine Sx.up (fun _ kk => r_aload_n 127 dX12_readNever_126 rfl rfl kk) ?_
        refine Sx.up (fun _ kk => r_getR 130 dX12_readNever_127 rfl f12_38 rfl rfl lt95 (mo_3 (show MoOK E6 from md_M y6)) kk) ?_
        refine Sx.up (fun _ kk => r_bipush (14) 132 dX12_readNever_130 rfl (by decide) kk) ?_
        refine Sx.up (fun _ kk => r_dup2 133 dX12_readNever_132 rfl rfl rfl kk) ?_
        refine Sx.up (fun _ kk => r_ialdN (14) (nI (bN q0.2)) 134 dX12_readNever_133 rfl rfl (Nat.le_of_ble_eq_true rfl) (by decide) (Nat.le_of_ble_eq_true rfl) (Nat.le_of_ble_eq_true rfl) (ha3) kk) ?_
        refine Sx.up (fun _ kk => r_iconst (1) 135 dX12_readNever_134 rfl (by decide) kk) ?_
        refine Sx.up (fun _ kk => r_iadd 136 dX12_readNever_135 rfl kk) ?_
        refine Sx.up (fun _ kk => r_iastN (14) 137 dX12_readNever_136 rfl rfl (Nat.le_of_ble_eq_true rfl) (by decide) (Nat.le_of_ble_eq_true rfl) (Nat.le_of_ble_eq_true rfl) kk) ?_
        refine ⟨_, ?_, r_vret dX12_readNever_137 rfl rfl rfl⟩
        exact ⟨_, rfl, yf⟩
