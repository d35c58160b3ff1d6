/-! The model: the rule's value; what stands fast in its night; small methods -/
theorem stk_push {E : HP} {a : Nat} {st : List Int32} {x : Int32} (h : StkIs (gA E a) st) : StkIs (gA (sA E a st.length x) a) (x :: st) := by
  refine ⟨by rw [gA_sA, if_pos ⟨rfl, rfl⟩], stk_keep h fun j hj => ?_⟩
  rw [gA_sA, if_neg (by omega)]
theorem dep_cases {s : Int32} {k k2 : Nat} (h : depS s k = some k2) : (¬ s < -7 ∧ k < 40 ∧ k2 = k + 1) ∨ (s = -10 ∧ 0 < k ∧ k2 = k) ∨ (s < -7 ∧ ¬ s = -10 ∧ 2 ≤ k ∧ k2 = k - 1) := by
  unfold depS at h
  by_cases h0 : s < 0
  · rw [if_pos h0] at h
    by_cases h7 : s < -7
    · rw [if_pos h7] at h
      by_cases h10 : s = -10
      · rw [if_pos h10] at h
        by_cases hk : k = 0
        · rw [if_pos hk] at h; cases h
        · rw [if_neg hk] at h; cases h; exact Or.inr (Or.inl ⟨h10, by omega, rfl⟩)
      · rw [if_neg h10] at h
        by_cases hk : k < 2
        · rw [if_pos hk] at h; cases h
        · rw [if_neg hk] at h; cases h; exact Or.inr (Or.inr ⟨h7, h10, by omega, rfl⟩)
    · rw [if_neg h7] at h
      by_cases hk : k < 40
      · rw [if_pos hk] at h; cases h; exact Or.inl ⟨h7, hk, rfl⟩
      · rw [if_neg hk] at h; cases h
  · rw [if_neg h0] at h
    have h7 : ¬ s < -7 := fun z => h0 (Int32.lt_trans z (by decide))
    by_cases hk : k < 40
    · rw [if_pos hk] at h; cases h; exact Or.inl ⟨h7, hk, rfl⟩
    · rw [if_neg hk] at h; cases h
theorem stepS_op {f : Nat → Int32} {s a b : Int32} {u : List Int32} (h : s < -7) (h10 : ¬ s = -10) : stepS f s (b :: a :: u) = joinedV s a b :: u := by
  unfold stepS
  rw [if_pos (Int32.lt_trans h (by decide)), if_pos h, if_neg h10]
theorem stepS_not {f : Nat → Int32} {a : Int32} {u : List Int32} : stepS f (-10) (a :: u) = (if a = 0 then 1 else 0) :: u := by
  unfold stepS
  rw [if_pos (by decide), if_pos (by decide), if_pos rfl]
theorem stepS_pos {f : Nat → Int32} {s : Int32} {st : List Int32} (h : ¬ s < 0) : stepS f s st = s :: st := by
  unfold stepS
  rw [if_neg h]
theorem stepS_neg {f : Nat → Int32} {s : Int32} {st : List Int32} {k : Nat} (h : s < 0) (h7 : ¬ s < -7) (hk : (-1 - s).toNatClampNeg = k) : stepS f s st = f k :: st := by
  unfold stepS
  rw [if_pos h, if_neg h7, hk]
set_option maxRecDepth 20000 in
theorem c_X12_valueNow {d : Nat} {E : HP} {R : List Int32} (hM : MoOK E) (h7 : gA E 98 7 = nI R.length) (h6 : R.length ≤ 600) (hs : ∀ i, i < R.length → gA E 106 i = mS (R.getD i 0)) (hr : depthS R 0 = some 1) : ∃ o, (∃ E2, o = (.inl (some (.int ((evalS (gA E 111) R []).headD 0))), E2, 137) ∧ MF [] [112] E E2) ∧ Cl yX12_valueNow mX12_valueNow (d + 1) 0 0 [.ref 95] E 137 o := by
  refine Cx.of (by decide) rfl (fun q => by cases q) rfl rfl (Nat.le_of_ble_eq_true rfl) ?_
  show Sx _ _ _ _ _ 0 [some (.ref 95), none, none, none] [] _ _
  have loop := sxUp (σ := HP × List Int32) (S := fun k9 q => Sx mX12_valueNow (d + 1) 0 0 (fun o => ∃ E2, o = (.inl (some (.int ((evalS (gA E 111) R []).headD 0))), E2, 137) ∧ MF [] [112] E E2) 4 [some (.ref 95), some (.int (nI q.2.length)), some (.int (nI k9)), none] [] q.1 137) (Inv := fun k9 q => MF [] [112] E q.1 ∧ StkIs (gA q.1 112) q.2 ∧ q.2.length ≤ 40 ∧ depthS (R.drop k9) q.2.length = some 1 ∧ evalS (gA E 111) (R.drop k9) q.2 = evalS (gA E 111) R []) (a := 0) (l := R.length) (by omega) ?_ ?_
  refine Sx.up (fun _ kk => r_iconst (0) 1 dX12_valueNow_0 rfl (by decide) kk) ?_
  refine Sx.up (fun _ kk => r_istore_n 2 dX12_valueNow_1 rfl (by decide) rfl kk) ?_
  refine Sx.up (fun _ kk => r_iconst (0) 3 dX12_valueNow_2 rfl (by decide) kk) ?_
  refine Sx.up (fun _ kk => r_istore_n 4 dX12_valueNow_3 rfl (by decide) rfl kk) ?_
  exact loop (E, []) ⟨mf_rfl, trivial, by simp, hr, rfl⟩
  · intro ⟨E1, st⟩ ⟨hF, hst, hl, hd, he⟩
    have hM1 := mf_mo hF hM
    rw [List.drop_length] at hd he
    have hl1 : st.length = 1 := by simpa [depthS] using hd
    obtain ⟨x, u, rfl⟩ : ∃ x u, st = x :: u := by
      cases st with
      | nil => cases hl1
      | cons x u => exact ⟨x, u, rfl⟩
    have hu : u.length = 0 := by simpa using hl1
    have hx : gA E1 112 0 = x := by have := hst.1; rwa [hu] at this
    have he2 : (evalS (gA E 111) R []).headD 0 = x := by rw [← he]; rfl
    simp only
    refine Sx.up (fun _ kk => r_iload_n 5 dX12_valueNow_4 rfl rfl kk) ?_
    refine Sx.up (fun _ kk => r_aload_n 6 dX12_valueNow_5 rfl rfl kk) ?_
    refine Sx.up (fun _ kk => r_getR 9 dX12_valueNow_6 rfl f12_38 rfl rfl lt95 (mo_3 hM1) kk) ?_
    refine Sx.up (fun _ kk => r_bipush (7) 11 dX12_valueNow_9 rfl (by decide) kk) ?_
    refine Sx.up (fun _ kk => r_ialdN (7) (nI R.length) 12 dX12_valueNow_11 rfl rfl (Nat.le_of_ble_eq_true rfl) (by decide) (Nat.le_of_ble_eq_true rfl) (Nat.le_of_ble_eq_true rfl) (by rw [mf_gA hF (by decide)]; exact h7) kk) ?_
    refine Sx.up (fun _ kk => r_icmp_ge 15 124 dX12_valueNow_12 rfl (by decide) (fun _ => kk) (fun h12 => absurd (nI_le (Nat.le_refl _) (by omega)) h12)) ?_
    refine Sx.up (fun _ kk => r_aload_n 125 dX12_valueNow_124 rfl rfl kk) ?_
    refine Sx.up (fun _ kk => r_getR 128 dX12_valueNow_125 rfl f12_87 rfl rfl lt95 (mo_33 hM1) kk) ?_
    refine Sx.up (fun _ kk => r_iconst (0) 129 dX12_valueNow_128 rfl (by decide) kk) ?_
    refine Sx.up (fun _ kk => r_ialdN (0) (_) 130 dX12_valueNow_129 rfl rfl (Nat.le_of_ble_eq_true rfl) (by decide) (Nat.le_of_ble_eq_true rfl) (Nat.le_of_ble_eq_true rfl) (rfl) kk) ?_
    refine ⟨_, ?_, r_iret dX12_valueNow_130 rfl rfl rfl⟩
    refine ⟨E1, ?_, hF⟩
    rw [he2, hx]
  · intro k9 ⟨E1, st⟩ hk0 hk9 ⟨hF, hst, hl, hd, he⟩ hq
    have hM1 := mf_mo hF hM
    simp only at hst hl hd he ⊢
    obtain ⟨s, hsE⟩ : ∃ s, R.getD k9 0 = s := ⟨_, rfl⟩
    have hdr : R.drop k9 = s :: R.drop (k9 + 1) := by
      rw [List.drop_eq_getElem_cons hk9, ← hsE, List.getD_eq_getElem?_getD, List.getElem?_eq_getElem hk9]
      rfl
    have hsg : gA E1 106 k9 = mS s := by rw [mf_gA hF (by decide), hs k9 hk9, hsE]
    rw [hdr] at hd he
    cases hdk : depS s st.length with
    | none => simp [depthS, hdk] at hd
    | some k2 =>
    have hd2 : depthS (R.drop (k9 + 1)) k2 = some 1 := by simpa [depthS, hdk] using hd
    rcases dep_cases hdk with ⟨c1, c2, c3⟩ | ⟨c1, c2, c3⟩ | ⟨c1, c2, c3, c4⟩
    · subst c3
      by_cases h0 : s < 0
      · obtain ⟨k, hk7, hk1, hk2⟩ := neg7 h0 c1
        refine Sx.up (fun _ kk => r_iload_n 5 dX12_valueNow_4 rfl rfl kk) ?_
        refine Sx.up (fun _ kk => r_aload_n 6 dX12_valueNow_5 rfl rfl kk) ?_
        refine Sx.up (fun _ kk => r_getR 9 dX12_valueNow_6 rfl f12_38 rfl rfl lt95 (mo_3 hM1) kk) ?_
        refine Sx.up (fun _ kk => r_bipush (7) 11 dX12_valueNow_9 rfl (by decide) kk) ?_
        refine Sx.up (fun _ kk => r_ialdN (7) (nI R.length) 12 dX12_valueNow_11 rfl rfl (Nat.le_of_ble_eq_true rfl) (by decide) (Nat.le_of_ble_eq_true rfl) (Nat.le_of_ble_eq_true rfl) (by rw [mf_gA hF (by decide)]; exact h7) kk) ?_
        refine Sx.up (fun _ kk => r_icmp_ge 15 124 dX12_valueNow_12 rfl (by decide) (fun h12 => absurd h12 (nI_ge hk9 (by omega))) (fun _ => kk)) ?_
        refine Sx.up (fun _ kk => r_aload_n 16 dX12_valueNow_15 rfl rfl kk) ?_
        refine Sx.up (fun _ kk => r_getR 19 dX12_valueNow_16 rfl f12_62 rfl rfl lt95 (mo_11 hM1) kk) ?_
        refine Sx.up (fun _ kk => r_iload_n 20 dX12_valueNow_19 rfl rfl kk) ?_
        refine Sx.up (fun _ kk => r_ialdN (k9) (mS s) 21 dX12_valueNow_20 rfl rfl (Nat.le_of_ble_eq_true rfl) (rfl) (by omega) (Nat.le_of_ble_eq_true rfl) (hsg) kk) ?_
        refine Sx.up (fun _ kk => r_istore_n 22 dX12_valueNow_21 rfl (by decide) rfl kk) ?_
        refine Sx.up (fun _ kk => r_iload_n 23 dX12_valueNow_22 rfl rfl kk) ?_
        refine Sx.up (fun _ kk => r_bipush (-20) 25 dX12_valueNow_23 rfl (by decide) kk) ?_
        refine Sx.up (fun _ kk => r_icmp_le 28 56 dX12_valueNow_25 rfl (by decide) (fun h25 => absurd h25 (Int32.not_le.mpr (by rw [mS_val c1]; exact gt20 c1))) (fun _ => kk)) ?_
        refine Sx.up (fun _ kk => r_aload_n 29 dX12_valueNow_28 rfl rfl kk) ?_
        refine Sx.up (fun _ kk => r_getR 32 dX12_valueNow_29 rfl f12_87 rfl rfl lt95 (mo_33 hM1) kk) ?_
        refine Sx.up (fun _ kk => r_iload_n 33 dX12_valueNow_32 rfl rfl kk) ?_
        refine Sx.up (fun _ kk => r_iload_n 34 dX12_valueNow_33 rfl rfl kk) ?_
        refine Sx.up (fun _ kk => r_if_lt 37 41 dX12_valueNow_34 rfl (by decide) (fun _ => kk) (fun h34 => absurd (by rw [mS_val c1]; exact h0) h34)) ?_
        refine Sx.up (fun _ kk => r_aload_n 42 dX12_valueNow_41 rfl rfl kk) ?_
        refine Sx.up (fun _ kk => r_getR 45 dX12_valueNow_42 rfl f12_84 rfl rfl lt95 (mo_32 hM1) kk) ?_
        refine Sx.up (fun _ kk => r_iconst (-1) 46 dX12_valueNow_45 rfl (by decide) kk) ?_
        refine Sx.up (fun _ kk => r_iload_n 47 dX12_valueNow_46 rfl rfl kk) ?_
        refine Sx.up (fun _ kk => r_isub 48 dX12_valueNow_47 rfl kk) ?_
        refine Sx.up (fun _ kk => r_ialdN (k) (gA E 111 k) 49 dX12_valueNow_48 rfl rfl (Nat.le_of_ble_eq_true rfl) (by rw [mS_val c1]; exact hk1) (hk7) (Nat.le_of_ble_eq_true rfl) (by rw [mf_gA hF (by decide)]) kk) ?_
        refine Sx.up (fun _ kk => r_iastN (st.length) 50 dX12_valueNow_49 rfl rfl (Nat.le_of_ble_eq_true rfl) (rfl) (by omega) (Nat.le_of_ble_eq_true rfl) kk) ?_
        refine Sx.up (fun _ kk => r_iinc (1) 53 dX12_valueNow_50 rfl rfl (by decide) (by decide) rfl kk) ?_
        refine Sx.up (fun _ kk => r_goto 118 dX12_valueNow_53 (by decide) kk) ?_
        refine Sx.up (fun _ kk => r_iinc (1) 121 dX12_valueNow_118 rfl rfl (by decide) (by decide) rfl kk) ?_
        refine Sx.up (fun _ kk => r_goto 4 dX12_valueNow_121 (by decide) kk) ?_
        rw [nI_pp]
        rw [nI_pp]
        refine Sx.less (ls := [some (.ref 95), some (.int (nI (gA E 111 k :: st).length)), some (.int (nI (k9 + 1))), none]) ⟨rfl, rfl, rfl, trivial⟩ (hq (_, gA E 111 k :: st) ⟨mf_sA (by decide) hF, stk_push hst, by simp only [List.length_cons]; omega, hd2, by rw [← he, ← stepS_neg (f := gA E 111) h0 c1 hk2]; rfl⟩)
      · refine Sx.up (fun _ kk => r_iload_n 5 dX12_valueNow_4 rfl rfl kk) ?_
        refine Sx.up (fun _ kk => r_aload_n 6 dX12_valueNow_5 rfl rfl kk) ?_
        refine Sx.up (fun _ kk => r_getR 9 dX12_valueNow_6 rfl f12_38 rfl rfl lt95 (mo_3 hM1) kk) ?_
        refine Sx.up (fun _ kk => r_bipush (7) 11 dX12_valueNow_9 rfl (by decide) kk) ?_
        refine Sx.up (fun _ kk => r_ialdN (7) (nI R.length) 12 dX12_valueNow_11 rfl rfl (Nat.le_of_ble_eq_true rfl) (by decide) (Nat.le_of_ble_eq_true rfl) (Nat.le_of_ble_eq_true rfl) (by rw [mf_gA hF (by decide)]; exact h7) kk) ?_
        refine Sx.up (fun _ kk => r_icmp_ge 15 124 dX12_valueNow_12 rfl (by decide) (fun h12 => absurd h12 (nI_ge hk9 (by omega))) (fun _ => kk)) ?_
        refine Sx.up (fun _ kk => r_aload_n 16 dX12_valueNow_15 rfl rfl kk) ?_
        refine Sx.up (fun _ kk => r_getR 19 dX12_valueNow_16 rfl f12_62 rfl rfl lt95 (mo_11 hM1) kk) ?_
        refine Sx.up (fun _ kk => r_iload_n 20 dX12_valueNow_19 rfl rfl kk) ?_
        refine Sx.up (fun _ kk => r_ialdN (k9) (mS s) 21 dX12_valueNow_20 rfl rfl (Nat.le_of_ble_eq_true rfl) (rfl) (by omega) (Nat.le_of_ble_eq_true rfl) (hsg) kk) ?_
        refine Sx.up (fun _ kk => r_istore_n 22 dX12_valueNow_21 rfl (by decide) rfl kk) ?_
        refine Sx.up (fun _ kk => r_iload_n 23 dX12_valueNow_22 rfl rfl kk) ?_
        refine Sx.up (fun _ kk => r_bipush (-20) 25 dX12_valueNow_23 rfl (by decide) kk) ?_
        refine Sx.up (fun _ kk => r_icmp_le 28 56 dX12_valueNow_25 rfl (by decide) (fun h25 => absurd h25 (Int32.not_le.mpr (by rw [mS_val c1]; exact gt20 c1))) (fun _ => kk)) ?_
        refine Sx.up (fun _ kk => r_aload_n 29 dX12_valueNow_28 rfl rfl kk) ?_
        refine Sx.up (fun _ kk => r_getR 32 dX12_valueNow_29 rfl f12_87 rfl rfl lt95 (mo_33 hM1) kk) ?_
        refine Sx.up (fun _ kk => r_iload_n 33 dX12_valueNow_32 rfl rfl kk) ?_
        refine Sx.up (fun _ kk => r_iload_n 34 dX12_valueNow_33 rfl rfl kk) ?_
        refine Sx.up (fun _ kk => r_if_lt 37 41 dX12_valueNow_34 rfl (by decide) (fun h34 => absurd h34 (by rw [mS_val c1]; exact h0)) (fun _ => kk)) ?_
        refine Sx.up (fun _ kk => r_iload_n 38 dX12_valueNow_37 rfl rfl kk) ?_
        refine Sx.up (fun _ kk => r_goto 49 dX12_valueNow_38 (by decide) kk) ?_
        refine Sx.up (fun _ kk => r_iastN (st.length) 50 dX12_valueNow_49 rfl rfl (Nat.le_of_ble_eq_true rfl) (rfl) (by omega) (Nat.le_of_ble_eq_true rfl) kk) ?_
        refine Sx.up (fun _ kk => r_iinc (1) 53 dX12_valueNow_50 rfl rfl (by decide) (by decide) rfl kk) ?_
        refine Sx.up (fun _ kk => r_goto 118 dX12_valueNow_53 (by decide) kk) ?_
        refine Sx.up (fun _ kk => r_iinc (1) 121 dX12_valueNow_118 rfl rfl (by decide) (by decide) rfl kk) ?_
        refine Sx.up (fun _ kk => r_goto 4 dX12_valueNow_121 (by decide) kk) ?_
        rw [mS_val c1]
        rw [nI_pp]
        rw [nI_pp]
        refine Sx.less (ls := [some (.ref 95), some (.int (nI (s :: st).length)), some (.int (nI (k9 + 1))), none]) ⟨rfl, rfl, rfl, trivial⟩ (hq (_, s :: st) ⟨mf_sA (by decide) hF, stk_push hst, by simp only [List.length_cons]; omega, hd2, by rw [← he, ← stepS_pos (f := gA E 111) h0]; rfl⟩)
    · subst c1
      obtain ⟨a, u, rfl⟩ : ∃ a u, st = a :: u := by
        cases st with
        | nil => exact absurd c2 (by decide)
        | cons a u => exact ⟨a, u, rfl⟩
      simp only [List.length_cons] at hl c3
      by_cases ha : a = 0
      · refine Sx.up (fun _ kk => r_iload_n 5 dX12_valueNow_4 rfl rfl kk) ?_
        refine Sx.up (fun _ kk => r_aload_n 6 dX12_valueNow_5 rfl rfl kk) ?_
        refine Sx.up (fun _ kk => r_getR 9 dX12_valueNow_6 rfl f12_38 rfl rfl lt95 (mo_3 hM1) kk) ?_
        refine Sx.up (fun _ kk => r_bipush (7) 11 dX12_valueNow_9 rfl (by decide) kk) ?_
        refine Sx.up (fun _ kk => r_ialdN (7) (nI R.length) 12 dX12_valueNow_11 rfl rfl (Nat.le_of_ble_eq_true rfl) (by decide) (Nat.le_of_ble_eq_true rfl) (Nat.le_of_ble_eq_true rfl) (by rw [mf_gA hF (by decide)]; exact h7) kk) ?_
        refine Sx.up (fun _ kk => r_icmp_ge 15 124 dX12_valueNow_12 rfl (by decide) (fun h12 => absurd h12 (nI_ge hk9 (by omega))) (fun _ => kk)) ?_
        refine Sx.up (fun _ kk => r_aload_n 16 dX12_valueNow_15 rfl rfl kk) ?_
        refine Sx.up (fun _ kk => r_getR 19 dX12_valueNow_16 rfl f12_62 rfl rfl lt95 (mo_11 hM1) kk) ?_
        refine Sx.up (fun _ kk => r_iload_n 20 dX12_valueNow_19 rfl rfl kk) ?_
        refine Sx.up (fun _ kk => r_ialdN (k9) (-28) 21 dX12_valueNow_20 rfl rfl (Nat.le_of_ble_eq_true rfl) (rfl) (by omega) (Nat.le_of_ble_eq_true rfl) (by rw [hsg]; exact mS_10) kk) ?_
        refine Sx.up (fun _ kk => r_istore_n 22 dX12_valueNow_21 rfl (by decide) rfl kk) ?_
        refine Sx.up (fun _ kk => r_iload_n 23 dX12_valueNow_22 rfl rfl kk) ?_
        refine Sx.up (fun _ kk => r_bipush (-20) 25 dX12_valueNow_23 rfl (by decide) kk) ?_
        refine Sx.up (fun _ kk => r_icmp_le 28 56 dX12_valueNow_25 rfl (by decide) (fun _ => kk) (fun h25 => absurd (by decide) h25)) ?_
        refine Sx.up (fun _ kk => r_iload_n 57 dX12_valueNow_56 rfl rfl kk) ?_
        refine Sx.up (fun _ kk => r_bipush (-28) 59 dX12_valueNow_57 rfl (by decide) kk) ?_
        refine Sx.up (fun _ kk => r_icmp_ne 62 89 dX12_valueNow_59 rfl (by decide) (fun h59 => absurd h59 (fun z => z rfl)) (fun _ => kk)) ?_
        refine Sx.up (fun _ kk => r_aload_n 63 dX12_valueNow_62 rfl rfl kk) ?_
        refine Sx.up (fun _ kk => r_getR 66 dX12_valueNow_63 rfl f12_87 rfl rfl lt95 (mo_33 hM1) kk) ?_
        refine Sx.up (fun _ kk => r_iload_n 67 dX12_valueNow_66 rfl rfl kk) ?_
        refine Sx.up (fun _ kk => r_iconst (1) 68 dX12_valueNow_67 rfl (by decide) kk) ?_
        refine Sx.up (fun _ kk => r_isub 69 dX12_valueNow_68 rfl kk) ?_
        refine Sx.up (fun _ kk => r_aload_n 70 dX12_valueNow_69 rfl rfl kk) ?_
        refine Sx.up (fun _ kk => r_getR 73 dX12_valueNow_70 rfl f12_87 rfl rfl lt95 (mo_33 hM1) kk) ?_
        refine Sx.up (fun _ kk => r_iload_n 74 dX12_valueNow_73 rfl rfl kk) ?_
        refine Sx.up (fun _ kk => r_iconst (1) 75 dX12_valueNow_74 rfl (by decide) kk) ?_
        refine Sx.up (fun _ kk => r_isub 76 dX12_valueNow_75 rfl kk) ?_
        refine Sx.up (fun _ kk => r_ialdN (u.length) (a) 77 dX12_valueNow_76 rfl rfl (Nat.le_of_ble_eq_true rfl) (nI_pred _) (by omega) (Nat.le_of_ble_eq_true rfl) (hst.1) kk) ?_
        refine Sx.up (fun _ kk => r_if_eq 80 84 dX12_valueNow_77 rfl (by decide) (fun _ => kk) (fun h77 => absurd ha h77)) ?_
        refine Sx.up (fun _ kk => r_iconst (1) 85 dX12_valueNow_84 rfl (by decide) kk) ?_
        refine Sx.up (fun _ kk => r_iastN (u.length) 86 dX12_valueNow_85 rfl rfl (Nat.le_of_ble_eq_true rfl) (nI_pred _) (by omega) (Nat.le_of_ble_eq_true rfl) kk) ?_
        refine Sx.up (fun _ kk => r_goto 118 dX12_valueNow_86 (by decide) kk) ?_
        refine Sx.up (fun _ kk => r_iinc (1) 121 dX12_valueNow_118 rfl rfl (by decide) (by decide) rfl kk) ?_
        refine Sx.up (fun _ kk => r_goto 4 dX12_valueNow_121 (by decide) kk) ?_
        rw [nI_pp]
        refine Sx.less (ls := [some (.ref 95), some (.int (nI (1 :: u).length)), some (.int (nI (k9 + 1))), none]) ⟨rfl, rfl, rfl, trivial⟩ (hq (_, 1 :: u) ⟨mf_sA (by decide) hF, stk_push hst.2, by simp only [List.length_cons]; omega, by rw [c3] at hd2; exact hd2, by rw [← he, show evalS (gA E 111) (-10 :: R.drop (k9 + 1)) (a :: u) = evalS (gA E 111) (R.drop (k9 + 1)) (stepS (gA E 111) (-10) (a :: u)) from rfl, stepS_not, if_pos ha]⟩)
      · refine Sx.up (fun _ kk => r_iload_n 5 dX12_valueNow_4 rfl rfl kk) ?_
        refine Sx.up (fun _ kk => r_aload_n 6 dX12_valueNow_5 rfl rfl kk) ?_
        refine Sx.up (fun _ kk => r_getR 9 dX12_valueNow_6 rfl f12_38 rfl rfl lt95 (mo_3 hM1) kk) ?_
        refine Sx.up (fun _ kk => r_bipush (7) 11 dX12_valueNow_9 rfl (by decide) kk) ?_
        refine Sx.up (fun _ kk => r_ialdN (7) (nI R.length) 12 dX12_valueNow_11 rfl rfl (Nat.le_of_ble_eq_true rfl) (by decide) (Nat.le_of_ble_eq_true rfl) (Nat.le_of_ble_eq_true rfl) (by rw [mf_gA hF (by decide)]; exact h7) kk) ?_
        refine Sx.up (fun _ kk => r_icmp_ge 15 124 dX12_valueNow_12 rfl (by decide) (fun h12 => absurd h12 (nI_ge hk9 (by omega))) (fun _ => kk)) ?_
        refine Sx.up (fun _ kk => r_aload_n 16 dX12_valueNow_15 rfl rfl kk) ?_
        refine Sx.up (fun _ kk => r_getR 19 dX12_valueNow_16 rfl f12_62 rfl rfl lt95 (mo_11 hM1) kk) ?_
        refine Sx.up (fun _ kk => r_iload_n 20 dX12_valueNow_19 rfl rfl kk) ?_
        refine Sx.up (fun _ kk => r_ialdN (k9) (-28) 21 dX12_valueNow_20 rfl rfl (Nat.le_of_ble_eq_true rfl) (rfl) (by omega) (Nat.le_of_ble_eq_true rfl) (by rw [hsg]; exact mS_10) kk) ?_
        refine Sx.up (fun _ kk => r_istore_n 22 dX12_valueNow_21 rfl (by decide) rfl kk) ?_
        refine Sx.up (fun _ kk => r_iload_n 23 dX12_valueNow_22 rfl rfl kk) ?_
        refine Sx.up (fun _ kk => r_bipush (-20) 25 dX12_valueNow_23 rfl (by decide) kk) ?_
        refine Sx.up (fun _ kk => r_icmp_le 28 56 dX12_valueNow_25 rfl (by decide) (fun _ => kk) (fun h25 => absurd (by decide) h25)) ?_
        refine Sx.up (fun _ kk => r_iload_n 57 dX12_valueNow_56 rfl rfl kk) ?_
        refine Sx.up (fun _ kk => r_bipush (-28) 59 dX12_valueNow_57 rfl (by decide) kk) ?_
        refine Sx.up (fun _ kk => r_icmp_ne 62 89 dX12_valueNow_59 rfl (by decide) (fun h59 => absurd h59 (fun z => z rfl)) (fun _ => kk)) ?_
        refine Sx.up (fun _ kk => r_aload_n 63 dX12_valueNow_62 rfl rfl kk) ?_
        refine Sx.up (fun _ kk => r_getR 66 dX12_valueNow_63 rfl f12_87 rfl rfl lt95 (mo_33 hM1) kk) ?_
        refine Sx.up (fun _ kk => r_iload_n 67 dX12_valueNow_66 rfl rfl kk) ?_
        refine Sx.up (fun _ kk => r_iconst (1) 68 dX12_valueNow_67 rfl (by decide) kk) ?_
        refine Sx.up (fun _ kk => r_isub 69 dX12_valueNow_68 rfl kk) ?_
        refine Sx.up (fun _ kk => r_aload_n 70 dX12_valueNow_69 rfl rfl kk) ?_
        refine Sx.up (fun _ kk => r_getR 73 dX12_valueNow_70 rfl f12_87 rfl rfl lt95 (mo_33 hM1) kk) ?_
        refine Sx.up (fun _ kk => r_iload_n 74 dX12_valueNow_73 rfl rfl kk) ?_
        refine Sx.up (fun _ kk => r_iconst (1) 75 dX12_valueNow_74 rfl (by decide) kk) ?_
        refine Sx.up (fun _ kk => r_isub 76 dX12_valueNow_75 rfl kk) ?_
        refine Sx.up (fun _ kk => r_ialdN (u.length) (a) 77 dX12_valueNow_76 rfl rfl (Nat.le_of_ble_eq_true rfl) (nI_pred _) (by omega) (Nat.le_of_ble_eq_true rfl) (hst.1) kk) ?_
        refine Sx.up (fun _ kk => r_if_eq 80 84 dX12_valueNow_77 rfl (by decide) (fun h77 => absurd h77 ha) (fun _ => kk)) ?_
        refine Sx.up (fun _ kk => r_iconst (0) 81 dX12_valueNow_80 rfl (by decide) kk) ?_
        refine Sx.up (fun _ kk => r_goto 85 dX12_valueNow_81 (by decide) kk) ?_
        refine Sx.up (fun _ kk => r_iastN (u.length) 86 dX12_valueNow_85 rfl rfl (Nat.le_of_ble_eq_true rfl) (nI_pred _) (by omega) (Nat.le_of_ble_eq_true rfl) kk) ?_
        refine Sx.up (fun _ kk => r_goto 118 dX12_valueNow_86 (by decide) kk) ?_
        refine Sx.up (fun _ kk => r_iinc (1) 121 dX12_valueNow_118 rfl rfl (by decide) (by decide) rfl kk) ?_
        refine Sx.up (fun _ kk => r_goto 4 dX12_valueNow_121 (by decide) kk) ?_
        rw [nI_pp]
        refine Sx.less (ls := [some (.ref 95), some (.int (nI (0 :: u).length)), some (.int (nI (k9 + 1))), none]) ⟨rfl, rfl, rfl, trivial⟩ (hq (_, 0 :: u) ⟨mf_sA (by decide) hF, stk_push hst.2, by simp only [List.length_cons]; omega, by rw [c3] at hd2; exact hd2, by rw [← he, show evalS (gA E 111) (-10 :: R.drop (k9 + 1)) (a :: u) = evalS (gA E 111) (R.drop (k9 + 1)) (stepS (gA E 111) (-10) (a :: u)) from rfl, stepS_not, if_neg ha]⟩)
    · obtain ⟨b, a, u, rfl⟩ : ∃ b a u, st = b :: a :: u := by
        cases st with
        | nil => exact absurd c3 (by simp)
        | cons b st => cases st with
          | nil => exact absurd c3 (by simp)
          | cons a u => exact ⟨b, a, u, rfl⟩
      simp only [List.length_cons] at hl c4
      obtain ⟨g1, g2, g3⟩ := mS_op c1 c2
      refine Sx.up (fun _ kk => r_iload_n 5 dX12_valueNow_4 rfl rfl kk) ?_
      refine Sx.up (fun _ kk => r_aload_n 6 dX12_valueNow_5 rfl rfl kk) ?_
      refine Sx.up (fun _ kk => r_getR 9 dX12_valueNow_6 rfl f12_38 rfl rfl lt95 (mo_3 hM1) kk) ?_
      refine Sx.up (fun _ kk => r_bipush (7) 11 dX12_valueNow_9 rfl (by decide) kk) ?_
      refine Sx.up (fun _ kk => r_ialdN (7) (nI R.length) 12 dX12_valueNow_11 rfl rfl (Nat.le_of_ble_eq_true rfl) (by decide) (Nat.le_of_ble_eq_true rfl) (Nat.le_of_ble_eq_true rfl) (by rw [mf_gA hF (by decide)]; exact h7) kk) ?_
      refine Sx.up (fun _ kk => r_icmp_ge 15 124 dX12_valueNow_12 rfl (by decide) (fun h12 => absurd h12 (nI_ge hk9 (by omega))) (fun _ => kk)) ?_
      refine Sx.up (fun _ kk => r_aload_n 16 dX12_valueNow_15 rfl rfl kk) ?_
      refine Sx.up (fun _ kk => r_getR 19 dX12_valueNow_16 rfl f12_62 rfl rfl lt95 (mo_11 hM1) kk) ?_
      refine Sx.up (fun _ kk => r_iload_n 20 dX12_valueNow_19 rfl rfl kk) ?_
      refine Sx.up (fun _ kk => r_ialdN (k9) (mS s) 21 dX12_valueNow_20 rfl rfl (Nat.le_of_ble_eq_true rfl) (rfl) (by omega) (Nat.le_of_ble_eq_true rfl) (hsg) kk) ?_
      refine Sx.up (fun _ kk => r_istore_n 22 dX12_valueNow_21 rfl (by decide) rfl kk) ?_
      refine Sx.up (fun _ kk => r_iload_n 23 dX12_valueNow_22 rfl rfl kk) ?_
      refine Sx.up (fun _ kk => r_bipush (-20) 25 dX12_valueNow_23 rfl (by decide) kk) ?_
      refine Sx.up (fun _ kk => r_icmp_le 28 56 dX12_valueNow_25 rfl (by decide) (fun _ => kk) (fun h25 => absurd g1 h25)) ?_
      refine Sx.up (fun _ kk => r_iload_n 57 dX12_valueNow_56 rfl rfl kk) ?_
      refine Sx.up (fun _ kk => r_bipush (-28) 59 dX12_valueNow_57 rfl (by decide) kk) ?_
      refine Sx.up (fun _ kk => r_icmp_ne 62 89 dX12_valueNow_59 rfl (by decide) (fun _ => kk) (fun h59 => absurd h59 g2)) ?_
      refine Sx.up (fun _ kk => r_iinc (m1) 92 dX12_valueNow_89 rfl rfl (m1_of) (by decide) rfl kk) ?_
      rw [show nI (b :: a :: u).length + m1 = nI (u.length + 1) from nI_p1 _]
      refine Sx.up (fun _ kk => r_aload_n 93 dX12_valueNow_92 rfl rfl kk) ?_
      refine Sx.up (fun _ kk => r_getR 96 dX12_valueNow_93 rfl f12_87 rfl rfl lt95 (mo_33 hM1) kk) ?_
      refine Sx.up (fun _ kk => r_iload_n 97 dX12_valueNow_96 rfl rfl kk) ?_
      refine Sx.up (fun _ kk => r_iconst (1) 98 dX12_valueNow_97 rfl (by decide) kk) ?_
      refine Sx.up (fun _ kk => r_isub 99 dX12_valueNow_98 rfl kk) ?_
      refine Sx.up (fun _ kk => r_iload_n 100 dX12_valueNow_99 rfl rfl kk) ?_
      refine Sx.up (fun _ kk => r_aload_n 101 dX12_valueNow_100 rfl rfl kk) ?_
      refine Sx.up (fun _ kk => r_getR 104 dX12_valueNow_101 rfl f12_87 rfl rfl lt95 (mo_33 hM1) kk) ?_
      refine Sx.up (fun _ kk => r_iload_n 105 dX12_valueNow_104 rfl rfl kk) ?_
      refine Sx.up (fun _ kk => r_iconst (1) 106 dX12_valueNow_105 rfl (by decide) kk) ?_
      refine Sx.up (fun _ kk => r_isub 107 dX12_valueNow_106 rfl kk) ?_
      refine Sx.up (fun _ kk => r_ialdN (u.length) (a) 108 dX12_valueNow_107 rfl rfl (Nat.le_of_ble_eq_true rfl) (nI_pred _) (by omega) (Nat.le_of_ble_eq_true rfl) (hst.2.1) kk) ?_
      refine Sx.up (fun _ kk => r_aload_n 109 dX12_valueNow_108 rfl rfl kk) ?_
      refine Sx.up (fun _ kk => r_getR 112 dX12_valueNow_109 rfl f12_87 rfl rfl lt95 (mo_33 hM1) kk) ?_
      refine Sx.up (fun _ kk => r_iload_n 113 dX12_valueNow_112 rfl rfl kk) ?_
      refine Sx.up (fun _ kk => r_ialdN (u.length + 1) (b) 114 dX12_valueNow_113 rfl rfl (Nat.le_of_ble_eq_true rfl) (rfl) (by omega) (Nat.le_of_ble_eq_true rfl) (hst.1) kk) ?_
      refine Sx.up (fun _ kk => r_callS (M := mX12_valueNow) (pc := 114) 117 dX12_valueNow_114 rfl k12_337 c_X12_reckon rfl rfl (Nat.le_of_ble_eq_true rfl) kk) ?_
      refine Sx.up (fun _ kk => r_iastN (u.length) 118 dX12_valueNow_117 rfl rfl (Nat.le_of_ble_eq_true rfl) (nI_pred _) (by omega) (Nat.le_of_ble_eq_true rfl) kk) ?_
      refine Sx.up (fun _ kk => r_iinc (1) 121 dX12_valueNow_118 rfl rfl (by decide) (by decide) rfl kk) ?_
      refine Sx.up (fun _ kk => r_goto 4 dX12_valueNow_121 (by decide) kk) ?_
      rw [g3]
      rw [nI_pp]
      refine Sx.less (ls := [some (.ref 95), some (.int (nI (joinedV s a b :: u).length)), some (.int (nI (k9 + 1))), none]) ⟨rfl, rfl, rfl, trivial⟩ (hq (_, joinedV s a b :: u) ⟨mf_sA (by decide) hF, stk_push hst.2.2, by simp only [List.length_cons]; omega, by rw [c4] at hd2; exact hd2, by rw [← he, ← stepS_op (f := gA E 111) c1 c2]; rfl⟩)
/-- how the model has laid out a night -/
def MVis (E : HP) (V : NV) (L : Nat) : Prop := gI E 1581 95 = nI (vL V) ∧ vL V ≤ L ∧ L ≤ 7 ∧ gA E 98 0 = nI L ∧
  (∀ p, p < vL V → vA V 0 p = nI (oV V p) ∧ oV V p < L ∧ gA E 113 p = nI (oV V p) ∧ gA E 99 (oV V p) = vA V 1 p ∧ gA E 100 (2 * oV V p) = vA V 2 p ∧ gA E 100 (2 * oV V p + 1) = vA V 3 p ∧ gA E 101 (oV V p) = vA V 4 p ∧ gA E 114 (oV V p) = vA V 5 p ∧ (∃ a, a ≤ 240 ∧ vA V 2 p = nI a) ∧ (∃ a, a ≤ 240 ∧ vA V 3 p = nI a)) ∧
  (∀ p q, p < vL V → q < vL V → oV V p = oV V q → p = q) ∧
  ((gI E 1582 95 = -1 ∨ ¬ 0 < gI E 1583 95) → ¬ 0 < vS V 0) ∧ (¬ gI E 1582 95 = -1 → 0 < gI E 1583 95 → vS V 0 = gI E 1583 95 ∧ gI E 1582 95 = nI (oV V (vW V)) ∧ vW V < vL V) ∧
  gI E 1584 95 = vS V 1 ∧ gI E 1589 95 = vS V 2 ∧ gA E 98 4 = vS V 3 ∧ (∃ a, a ≤ 60 ∧ vS V 3 = nI a) ∧
  gA E 98 7 = nI (vR V).length ∧ (vR V).length ≤ 600 ∧ (∀ i, i < (vR V).length → gA E 106 i = mS ((vR V).getD i 0)) ∧ rule1 (vR V)
/-- numbers and arrays that a night of the model changes -/
abbrev gsN : List Nat := [1585, 1587, 1588]
abbrev asN : List Nat := [111, 112, 115, 116, 117, 118, 119, 120, 121, 122, 123]
def MC (E : HP) (V : NV) (L t : Nat) : Prop := MoOK E ∧ MVis E V L ∧ gI E 1586 95 = nI t ∧ t ≤ 600
def wkM (a x : Int32) : Prop := (x = 0 ∧ a = -10000) ∨ (∃ w, 0 < w ∧ w ≤ 600 ∧ x = nI w ∧ a = x)
def MLF (E : HP) (V : NV) (f : Nat → Nat → Int32) : Prop := ∀ i, i < vL V → gA E 115 (oV V i) = f 0 i ∧ (f 0 i = 0 ∨ f 0 i = 1) ∧ gA E 116 (oV V i) = f 1 i ∧ (∃ s, s ≤ 600 ∧ f 1 i = nI s) ∧ wkM (gA E 117 (oV V i)) (f 2 i) ∧ gA E 118 (oV V i) = f 3 i ∧ gA E 119 (oV V i) = f 4 i
def MWT (E : HP) (L : List (Int32 × Int32 × Int32 × Int32)) : Prop := ∀ i e, i < 1200 → L[i]? = some e → gA E 120 i = e.1 ∧ gA E 121 i = e.2.1 ∧ gA E 122 i = e.2.2.1 ∧ gA E 123 i = e.2.2.2
def sumM (f : Nat → Int32) : Nat → Int32
  | 0 => 0
  | k + 1 => sumM f k + f k
def MR (E : HP) (V : NV) (S : NS) (L : Nat) : Prop := gI E 1585 95 = nI (nG S).length ∧ gI E 1587 95 = nS S 0 ∧ gI E 1588 95 = nS S 1 ∧ sumM (gA E 118) L = nS S 2 ∧ MLF E V (nA S) ∧ MWT E (nG S)
theorem mvis_mf {E E2 : HP} {V : NV} {L : Nat} (h : MF gsN asN E E2) (o : MVis E V L) : MVis E2 V L := by
  have g : ∀ g, g ∉ gsN → gI E2 g 95 = gI E g 95 := fun g hg => mf_gI h hg
  have a : ∀ a, a ∉ asN → gA E2 a = gA E a := fun a ha => mf_gA h ha
  unfold MVis at *
  rw [g 1581 (by decide), g 1582 (by decide), g 1583 (by decide), g 1584 (by decide), g 1589 (by decide), a 98 (by decide), a 99 (by decide), a 100 (by decide), a 101 (by decide), a 106 (by decide), a 113 (by decide), a 114 (by decide)]
  exact o
theorem mc_mf {E E2 : HP} {V : NV} {L t : Nat} (h : MF gsN asN E E2) (o : MC E V L t) : MC E2 V L t := ⟨mf_mo h o.1, mvis_mf h o.2.1, (mf_gI h (by decide)).trans o.2.2.1, o.2.2.2⟩
theorem awk_m {E : HP} {V : NV} {L t p : Nat} {f : Nat → Nat → Int32} (hc : MC E V L t) (hf : MLF E V f) (hp : p < vL V) : (nI t - gA E 117 (oV V p) < vS V 3) ↔ awkF V f p t = true := by
  obtain ⟨a, ha, hA⟩ := hc.2.1.2.2.2.2.2.2.2.2.2.2.2.1
  have ht := hc.2.2.2
  unfold awkF
  rw [decide_eq_true_eq]
  rcases (hf p hp).2.2.2.2.1 with ⟨e1, e2⟩ | ⟨w, w0, w6, e1, e2⟩
  · rw [e1, e2]
    refine ⟨fun h => absurd h (Int32.not_lt.mpr ?_), fun h => absurd h.1 (by decide)⟩
    rw [hA, show (-10000 : Int32) = 0 - nI 10000 by decide, Int32.sub_eq_add_neg, show -(0 - nI 10000) = nI 10000 by decide, nI_add]
    exact nI_le (by omega) (by omega)
  · rw [e2, e1]
    exact ⟨fun h => ⟨nI_lt (a := 0) w0 (by omega), h⟩, fun h => h.2⟩
set_option maxRecDepth 20000 in
theorem c_X12_isAwake {d L t p : Nat} {V : NV} {E : HP} {f : Nat → Nat → Int32} (hc : MC E V L t) (hf : MLF E V f) (hp : p < vL V) : Cl yX12_isAwake mX12_isAwake (d) 0 0 [.ref 95, .int (nI (oV V p))] E 137 (.inl (some (.int (bI (awkF V f p t)))), E, 137) := by
  obtain ⟨hM, hv, hmi, ht6⟩ := id hc
  obtain ⟨v1, v2, v3, v4, v5, v6, v7, v8, v9, v10, v11, v12, v13, v14, v15, v16⟩ := id hv
  obtain ⟨i1, i2, i3, i4, i5, i6, i7, i8, i9, i10⟩ := id (v5 p hp)
  have aw := awk_m hc hf hp
  refine Cl.of (by decide) rfl (fun q => by cases q) rfl rfl (Nat.le_of_ble_eq_true rfl) ?_
  show Sm _ _ _ _ _ 0 [some (.ref 95), some (.int (nI (oV V p)))] [] _ _
  refine r_aload_n 1 dX12_isAwake_0 rfl rfl ?_
  refine r_getIV (nI t) 4 dX12_isAwake_1 rfl f12_359 rfl rfl lt95 (hmi) ?_
  refine r_aload_n 5 dX12_isAwake_4 rfl rfl ?_
  refine r_getR 8 dX12_isAwake_5 rfl f12_102 rfl rfl lt95 (mo_38 hM) ?_
  refine r_iload_n 9 dX12_isAwake_8 rfl rfl ?_
  refine r_ialdN (oV V p) (_) 10 dX12_isAwake_9 rfl rfl (Nat.le_of_ble_eq_true rfl) (rfl) (by omega) (Nat.le_of_ble_eq_true rfl) (rfl) ?_
  refine r_isub 11 dX12_isAwake_10 rfl ?_
  refine r_aload_n 12 dX12_isAwake_11 rfl rfl ?_
  refine r_getR 15 dX12_isAwake_12 rfl f12_38 rfl rfl lt95 (mo_3 hM) ?_
  refine r_iconst (4) 16 dX12_isAwake_15 rfl (by decide) ?_
  refine r_ialdN (4) (vS V 3) 17 dX12_isAwake_16 rfl rfl (Nat.le_of_ble_eq_true rfl) (by decide) (Nat.le_of_ble_eq_true rfl) (Nat.le_of_ble_eq_true rfl) (v11) ?_
  refine r_icmp_ge 20 24 dX12_isAwake_17 rfl (by decide) (fun h17 => ?_) (fun h17 => ?_)
  · refine r_iconst (0) 25 dX12_isAwake_24 rfl (by decide) ?_
    exact r_zret dX12_isAwake_25 rfl rfl (by decide) (by first | exact out_eq (bI_t (aw.mp (Int32.not_le.mp h17))) | exact out_eq (bI_f (fun z => absurd h17 (Int32.not_le.mpr (aw.mpr z)))))
  · refine r_iconst (1) 21 dX12_isAwake_20 rfl (by decide) ?_
    refine r_goto 25 dX12_isAwake_21 (by decide) ?_
    exact r_zret dX12_isAwake_25 rfl rfl (by decide) (by first | exact out_eq (bI_t (aw.mp (Int32.not_le.mp h17))) | exact out_eq (bI_f (fun z => absurd h17 (Int32.not_le.mpr (aw.mpr z)))))
set_option maxRecDepth 20000 in
theorem c_X12_isDeaf {d L t p : Nat} {V : NV} {E : HP} (hc : MC E V L t) (hp : p < vL V) : Cl yX12_isDeaf mX12_isDeaf (d) 0 0 [.ref 95, .int (nI (oV V p))] E 137 (.inl (some (.int (bI (!canF V p)))), E, 137) := by
  obtain ⟨hM, hv, hmi, ht6⟩ := id hc
  obtain ⟨v1, v2, v3, v4, v5, v6, v7, v8, v9, v10, v11, v12, v13, v14, v15, v16⟩ := id hv
  obtain ⟨i1, i2, i3, i4, i5, i6, i7, i8, i9, i10⟩ := id (v5 p hp)
  refine Cl.of (by decide) rfl (fun q => by cases q) rfl rfl (Nat.le_of_ble_eq_true rfl) ?_
  show Sm _ _ _ _ _ 0 [some (.ref 95), some (.int (nI (oV V p)))] [] _ _
  refine r_aload_n 1 dX12_isDeaf_0 rfl rfl ?_
  refine r_getR 4 dX12_isDeaf_1 rfl f12_42 rfl rfl lt95 (mo_4 hM) ?_
  refine r_iload_n 5 dX12_isDeaf_4 rfl rfl ?_
  refine r_ialdN (oV V p) (vA V 1 p) 6 dX12_isDeaf_5 rfl rfl (Nat.le_of_ble_eq_true rfl) (rfl) (by omega) (Nat.le_of_ble_eq_true rfl) (i4) ?_
  refine r_iconst (1) 7 dX12_isDeaf_6 rfl (by decide) ?_
  refine r_icmp_eq 10 20 dX12_isDeaf_7 rfl (by decide) (fun h7 => ?_) (fun h7 => ?_)
  · refine r_iconst (1) 21 dX12_isDeaf_20 rfl (by decide) ?_
    refine r_goto 25 dX12_isDeaf_21 (by decide) ?_
    exact r_zret dX12_isDeaf_25 rfl rfl (by decide) (by first | (refine out_eq ?_; simp [bI, canF, h7, h17]; done) | (refine out_eq ?_; simp [bI, canF, h7]; done))
  · refine r_aload_n 11 dX12_isDeaf_10 rfl rfl ?_
    refine r_getR 14 dX12_isDeaf_11 rfl f12_42 rfl rfl lt95 (mo_4 hM) ?_
    refine r_iload_n 15 dX12_isDeaf_14 rfl rfl ?_
    refine r_ialdN (oV V p) (vA V 1 p) 16 dX12_isDeaf_15 rfl rfl (Nat.le_of_ble_eq_true rfl) (rfl) (by omega) (Nat.le_of_ble_eq_true rfl) (i4) ?_
    refine r_iconst (3) 17 dX12_isDeaf_16 rfl (by decide) ?_
    refine r_icmp_ne 20 24 dX12_isDeaf_17 rfl (by decide) (fun h17 => ?_) (fun h17 => ?_)
    · refine r_iconst (0) 25 dX12_isDeaf_24 rfl (by decide) ?_
      exact r_zret dX12_isDeaf_25 rfl rfl (by decide) (by first | (refine out_eq ?_; simp [bI, canF, h7, h17]; done) | (refine out_eq ?_; simp [bI, canF, h7]; done))
    · refine r_iconst (1) 21 dX12_isDeaf_20 rfl (by decide) ?_
      refine r_goto 25 dX12_isDeaf_21 (by decide) ?_
      exact r_zret dX12_isDeaf_25 rfl rfl (by decide) (by first | (refine out_eq ?_; simp [bI, canF, h7, h17]; done) | (refine out_eq ?_; simp [bI, canF, h7]; done))
def mWake (E : HP) (k t : Nat) : HP := sA (sA E 117 k (nI t)) 118 k (gA E 118 k + 1)
set_option maxRecDepth 20000 in
theorem c_X12_wake {d t k : Nat} {E : HP} (hM : MoOK E) (hmi : gI E 1586 95 = nI t) (hk : k < 7) : Cl yX12_wake mX12_wake (d) 0 0 [.ref 95, .int (nI k)] E 137 (.inl none, mWake E k t, 137) := by
  refine Cl.of (by decide) rfl (fun q => by cases q) rfl rfl (Nat.le_of_ble_eq_true rfl) ?_
  show Sm _ _ _ _ _ 0 [some (.ref 95), some (.int (nI k))] [] _ _
  refine r_aload_n 1 dX12_wake_0 rfl rfl ?_
  refine r_getR 4 dX12_wake_1 rfl f12_102 rfl rfl lt95 (mo_38 hM) ?_
  refine r_iload_n 5 dX12_wake_4 rfl rfl ?_
  refine r_aload_n 6 dX12_wake_5 rfl rfl ?_
  refine r_getIV (nI t) 9 dX12_wake_6 rfl f12_359 rfl rfl lt95 (hmi) ?_
  refine r_iastN (k) 10 dX12_wake_9 rfl rfl (Nat.le_of_ble_eq_true rfl) (rfl) (by omega) (Nat.le_of_ble_eq_true rfl) ?_
  refine r_aload_n 11 dX12_wake_10 rfl rfl ?_
  refine r_getR 14 dX12_wake_11 rfl f12_105 rfl rfl lt95 (mo_39 hM) ?_
  refine r_iload_n 15 dX12_wake_14 rfl rfl ?_
  refine r_dup2 16 dX12_wake_15 rfl rfl rfl ?_
  refine r_ialdN (k) (_) 17 dX12_wake_16 rfl rfl (Nat.le_of_ble_eq_true rfl) (rfl) (by omega) (Nat.le_of_ble_eq_true rfl) (rfl) ?_
  refine r_iconst (1) 18 dX12_wake_17 rfl (by decide) ?_
  refine r_iadd 19 dX12_wake_18 rfl ?_
  refine r_iastN (k) 20 dX12_wake_19 rfl rfl (Nat.le_of_ble_eq_true rfl) (rfl) (by omega) (Nat.le_of_ble_eq_true rfl) ?_
  exact r_vret dX12_wake_20 rfl rfl (rfl)
theorem tired_m {E : HP} {V : NV} {S : NS} {L t p : Nat} (hc : MC E V L t) (hf : MLF E V (nA S)) (hp : p < vL V) (h3 : ¬ vA V 1 p = 3) : (gA E 100 (2 * oV V p + (nA S 0 p).toNatClampNeg) ≤ nI t - nA S 1 p) ↔ tiredF V S p t = true := by
  obtain ⟨i1, i2, i3, i4, i5, i6, i7, i8, ⟨a, ha, hA⟩, ⟨b, hb, hB⟩⟩ := hc.2.1.2.2.2.2.1 p hp
  obtain ⟨j1, j2, j3, ⟨s, hs, hS⟩, -⟩ := hf p hp
  have ht := hc.2.2.2
  have key : ∀ c, c ≤ 240 → ((nI c ≤ nI t - nI s) ↔ (nI s + nI c ≤ nI t)) := fun c hc => by
    rw [nI_add, nI_leI (by omega) (by omega), Int32.le_iff_toInt_le, pk_sub_toInt (by omega) (by omega), nI_toInt (by omega)]
    omega
  unfold tiredF
  rw [decide_eq_true_eq, hS]
  rcases j2 with z | z
  · rw [z, if_pos rfl, show (0 : Int32).toNatClampNeg = 0 from by decide, Nat.add_zero, i5, hA, key a ha]
    exact ⟨fun h => ⟨h3, h⟩, fun h => h.2⟩
  · rw [z, if_neg (by decide), show (1 : Int32).toNatClampNeg = 1 from by decide, i6, hB, key b hb]
    exact ⟨fun h => ⟨h3, h⟩, fun h => h.2⟩
theorem side_nI {x : Int32} (h : x = 0 ∨ x = 1) : x = nI x.toNatClampNeg ∧ x.toNatClampNeg < 2 := by
  rcases h with z | z <;> subst z <;> decide
set_option maxRecDepth 20000 in
theorem c_X12_hasEnough {d L t p : Nat} {V : NV} {E : HP} {S : NS} (hc : MC E V L t) (hf : MLF E V (nA S)) (hp : p < vL V) : Cl yX12_hasEnough mX12_hasEnough (d) 0 0 [.ref 95, .int (nI (oV V p))] E 137 (.inl (some (.int (bI (tiredF V S p t)))), E, 137) := by
  obtain ⟨hM, hv, hmi, ht6⟩ := id hc
  obtain ⟨v1, v2, v3, v4, v5, v6, v7, v8, v9, v10, v11, v12, v13, v14, v15, v16⟩ := id hv
  obtain ⟨i1, i2, i3, i4, i5, i6, i7, i8, i9, i10⟩ := id (v5 p hp)
  obtain ⟨j1, j2, j3, j4, j5⟩ := id (hf p hp)
  have hsd := side_nI j2
  have hix : 2 * nI (oV V p) + nA S 0 p = nI (2 * oV V p + (nA S 0 p).toNatClampNeg) := by
    conv => lhs; rw [hsd.1]
    rw [show (2 : Int32) = nI 2 by decide, pk_mul, nI_add]
  refine Cl.of (by decide) rfl (fun q => by cases q) rfl rfl (Nat.le_of_ble_eq_true rfl) ?_
  show Sm _ _ _ _ _ 0 [some (.ref 95), some (.int (nI (oV V p)))] [] _ _
  refine r_aload_n 1 dX12_hasEnough_0 rfl rfl ?_
  refine r_getR 4 dX12_hasEnough_1 rfl f12_42 rfl rfl lt95 (mo_4 hM) ?_
  refine r_iload_n 5 dX12_hasEnough_4 rfl rfl ?_
  refine r_ialdN (oV V p) (vA V 1 p) 6 dX12_hasEnough_5 rfl rfl (Nat.le_of_ble_eq_true rfl) (rfl) (by omega) (Nat.le_of_ble_eq_true rfl) (i4) ?_
  refine r_iconst (3) 7 dX12_hasEnough_6 rfl (by decide) ?_
  refine r_icmp_eq 10 43 dX12_hasEnough_7 rfl (by decide) (fun h7 => ?_) (fun h7 => ?_)
  · refine r_iconst (0) 44 dX12_hasEnough_43 rfl (by decide) ?_
    exact r_zret dX12_hasEnough_44 rfl rfl (by decide) (by first | exact out_eq (bI_t ((tired_m hc hf hp h7).mp (Int32.not_lt.mp h36))) | exact out_eq (bI_f (fun z => absurd h36 (Int32.not_lt.mpr ((tired_m hc hf hp h7).mpr z)))) | exact out_eq (bI_f (fun z => by unfold tiredF at z; simp only [decide_eq_true_eq] at z; exact z.1 h7)))
  · refine r_aload_n 11 dX12_hasEnough_10 rfl rfl ?_
    refine r_getIV (nI t) 14 dX12_hasEnough_11 rfl f12_359 rfl rfl lt95 (hmi) ?_
    refine r_aload_n 15 dX12_hasEnough_14 rfl rfl ?_
    refine r_getR 18 dX12_hasEnough_15 rfl f12_99 rfl rfl lt95 (mo_37 hM) ?_
    refine r_iload_n 19 dX12_hasEnough_18 rfl rfl ?_
    refine r_ialdN (oV V p) (nA S 1 p) 20 dX12_hasEnough_19 rfl rfl (Nat.le_of_ble_eq_true rfl) (rfl) (by omega) (Nat.le_of_ble_eq_true rfl) (j3) ?_
    refine r_isub 21 dX12_hasEnough_20 rfl ?_
    refine r_aload_n 22 dX12_hasEnough_21 rfl rfl ?_
    refine r_getR 25 dX12_hasEnough_22 rfl f12_45 rfl rfl lt95 (mo_5 hM) ?_
    refine r_iconst (2) 26 dX12_hasEnough_25 rfl (by decide) ?_
    refine r_iload_n 27 dX12_hasEnough_26 rfl rfl ?_
    refine r_imul 28 dX12_hasEnough_27 rfl ?_
    refine r_aload_n 29 dX12_hasEnough_28 rfl rfl ?_
    refine r_getR 32 dX12_hasEnough_29 rfl f12_96 rfl rfl lt95 (mo_36 hM) ?_
    refine r_iload_n 33 dX12_hasEnough_32 rfl rfl ?_
    refine r_ialdN (oV V p) (nA S 0 p) 34 dX12_hasEnough_33 rfl rfl (Nat.le_of_ble_eq_true rfl) (rfl) (by omega) (Nat.le_of_ble_eq_true rfl) (j1) ?_
    refine r_iadd 35 dX12_hasEnough_34 rfl ?_
    refine r_ialdN (2 * oV V p + (nA S 0 p).toNatClampNeg) (_) 36 dX12_hasEnough_35 rfl rfl (Nat.le_of_ble_eq_true rfl) (hix) (by omega) (Nat.le_of_ble_eq_true rfl) (rfl) ?_
    refine r_icmp_lt 39 43 dX12_hasEnough_36 rfl (by decide) (fun h36 => ?_) (fun h36 => ?_)
    · refine r_iconst (0) 44 dX12_hasEnough_43 rfl (by decide) ?_
      exact r_zret dX12_hasEnough_44 rfl rfl (by decide) (by first | exact out_eq (bI_t ((tired_m hc hf hp h7).mp (Int32.not_lt.mp h36))) | exact out_eq (bI_f (fun z => absurd h36 (Int32.not_lt.mpr ((tired_m hc hf hp h7).mpr z)))) | exact out_eq (bI_f (fun z => by unfold tiredF at z; simp only [decide_eq_true_eq] at z; exact z.1 h7)))
    · refine r_iconst (1) 40 dX12_hasEnough_39 rfl (by decide) ?_
      refine r_goto 44 dX12_hasEnough_40 (by decide) ?_
      exact r_zret dX12_hasEnough_44 rfl rfl (by decide) (by first | exact out_eq (bI_t ((tired_m hc hf hp h7).mp (Int32.not_lt.mp h36))) | exact out_eq (bI_f (fun z => absurd h36 (Int32.not_lt.mpr ((tired_m hc hf hp h7).mpr z)))) | exact out_eq (bI_f (fun z => by unfold tiredF at z; simp only [decide_eq_true_eq] at z; exact z.1 h7)))
