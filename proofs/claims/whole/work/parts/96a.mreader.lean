/-! mreader, further on -/
set_option maxHeartbeats 16000000 in
set_option maxRecDepth 20000 in
theorem md_isM {d : Nat} {c : Int32} {E0 E : HP} {T : TX} {s : PS} (y1 : CMd E0 E T s) : Cl yX12_isMarked mX12_isMarked d 0 0 [.ref 95, .int c] E 137 (.inl (some (.int (bI (sgS T c s)))), E, 137) := by
  refine Cl.of (by decide) rfl (fun q => by cases q) rfl rfl (Nat.le_of_ble_eq_true rfl) ?_
  show Sm _ _ _ _ _ 0 [some (.ref 95), some (.int (c))] [] _ _
  cases s with
  | inl x =>
    have hb := md_1b y1
    refine r_aload_n 1 dX12_isMarked_0 rfl rfl ?_
    refine r_getI 4 dX12_isMarked_1 rfl f12_208 rfl rfl lt95 ?_
    refine r_if_ne 7 32 dX12_isMarked_4 rfl (by decide) (fun h4 => ?_) (fun h4 => absurd h4 hb)
    refine r_iconst (0) 33 dX12_isMarked_32 rfl (by decide) ?_
    exact r_zret dX12_isMarked_33 rfl rfl (by decide) (rfl)
  | inr x =>
    obtain ⟨a, B⟩ := x
    obtain ⟨c1, c2, c3, c4⟩ := id y1.2
    obtain ⟨g1, g5, g6, g3, g4⟩ := id c3
    have hk3 := md_k y1 (k := 3) (by decide)
    have n6 := (md_T y1).1
    by_cases hk : kdT T a = 3
    · have hal := kd_ne (T := T) (a := a) (by omega)
      have hT1 : gA E 108 a = T.1 a := (md_F y1).2.2.2 a hal
      refine r_aload_n 1 dX12_isMarked_0 rfl rfl ?_
      refine r_getIV (0) 4 dX12_isMarked_1 rfl f12_208 rfl rfl lt95 (c1) ?_
      refine r_if_ne 7 32 dX12_isMarked_4 rfl (by decide) (fun h4 => absurd h4 (fun z => z rfl)) (fun h4 => ?_)
      refine r_aload_n 8 dX12_isMarked_7 rfl rfl ?_
      refine r_getI 11 dX12_isMarked_8 rfl f12_182 rfl rfl lt95 ?_
      refine r_iconst (3) 12 dX12_isMarked_11 rfl (by decide) ?_
      refine r_icmp_ne 15 32 dX12_isMarked_12 rfl (by decide) (fun h12 => absurd h12 (fun z => z (hk3.mpr hk))) (fun h12 => ?_)
      refine r_aload_n 16 dX12_isMarked_15 rfl rfl ?_
      refine r_getR 19 dX12_isMarked_16 rfl f12_68 rfl rfl lt95 (mo_13 (md_M y1)) ?_
      refine r_aload_n 20 dX12_isMarked_19 rfl rfl ?_
      refine r_getIV (nI a) 23 dX12_isMarked_20 rfl f12_179 rfl rfl lt95 (g5) ?_
      refine r_ialdN (a) (T.1 a) 24 dX12_isMarked_23 rfl rfl (Nat.le_of_ble_eq_true rfl) (rfl) (by omega) (Nat.le_of_ble_eq_true rfl) (hT1) ?_
      refine r_iload_n 25 dX12_isMarked_24 rfl rfl ?_
      refine r_icmp_ne 28 32 dX12_isMarked_25 rfl (by decide) (fun h25 => ?_) (fun h25 => ?_)
      · refine r_iconst (0) 33 dX12_isMarked_32 rfl (by decide) ?_
        exact r_zret dX12_isMarked_33 rfl rfl (by decide) (out_eq (by first | exact bI_f (fun z => h25 (of_decide_eq_true z).2) | exact bI_t (decide_eq_true ⟨hk, h25⟩)))
      · refine r_iconst (1) 29 dX12_isMarked_28 rfl (by decide) ?_
        refine r_goto 33 dX12_isMarked_29 (by decide) ?_
        exact r_zret dX12_isMarked_33 rfl rfl (by decide) (out_eq (by first | exact bI_f (fun z => h25 (of_decide_eq_true z).2) | exact bI_t (decide_eq_true ⟨hk, h25⟩)))
    · refine r_aload_n 1 dX12_isMarked_0 rfl rfl ?_
      refine r_getIV (0) 4 dX12_isMarked_1 rfl f12_208 rfl rfl lt95 (c1) ?_
      refine r_if_ne 7 32 dX12_isMarked_4 rfl (by decide) (fun h4 => absurd h4 (fun z => z rfl)) (fun h4 => ?_)
      refine r_aload_n 8 dX12_isMarked_7 rfl rfl ?_
      refine r_getI 11 dX12_isMarked_8 rfl f12_182 rfl rfl lt95 ?_
      refine r_iconst (3) 12 dX12_isMarked_11 rfl (by decide) ?_
      refine r_icmp_ne 15 32 dX12_isMarked_12 rfl (by decide) (fun h12 => ?_) (fun h12 => absurd h12 (fun z => hk (hk3.mp z)))
      refine r_iconst (0) 33 dX12_isMarked_32 rfl (by decide) ?_
      exact r_zret dX12_isMarked_33 rfl rfl (by decide) (out_eq (bI_f (fun z => hk (of_decide_eq_true z).1)))
set_option maxHeartbeats 16000000 in
set_option maxRecDepth 20000 in
theorem md_mark {d : Nat} {E0 E : HP} {T : TX} {s : PS} {c : Int32} (y1 : CMd E0 E T s)  : ∃ o, (∃ E2, o = (.inl none, E2, 137) ∧ CMd E0 E2 T (sgnS T c s)) ∧ Cl yX12_mark mX12_mark (d + 2) 0 0 [.ref 95, .int c] E 137 o := by
  refine Cx.of (by decide) rfl (fun q => by cases q) rfl rfl (Nat.le_of_ble_eq_true rfl) ?_
  show Sx _ _ _ _ _ 0 [some (.ref 95), some (.int (c))] [] _ _
  cases s with
  | inl x =>
    have hb := md_1b y1
    refine Sx.up (fun _ kk => r_aload_n 1 dX12_mark_0 rfl rfl kk) ?_
    refine Sx.up (fun _ kk => r_getI 4 dX12_mark_1 rfl f12_208 rfl rfl lt95 kk) ?_
    refine Sx.up (fun _ kk => r_if_ne 7 20 dX12_mark_4 rfl (by decide) (fun _ => kk) (fun h4 => absurd h4 hb)) ?_
    refine Sx.up (fun _ kk => r_aload_n 21 dX12_mark_20 rfl rfl kk) ?_
    refine Sx.up (fun _ kk => r_getI 24 dX12_mark_21 rfl f12_208 rfl rfl lt95 kk) ?_
    refine Sx.up (fun _ kk => r_if_ne 27 31 dX12_mark_24 rfl (by decide) (fun _ => kk) (fun h24 => absurd h24 hb)) ?_
    refine ⟨_, ?_, r_vret dX12_mark_31 rfl rfl rfl⟩
    exact ⟨_, rfl, y1⟩
  | inr x =>
    have hb := md_0b y1 ⟨x, rfl⟩
    by_cases hs : sgS T c (.inr x) = true
    · refine Sx.up (fun _ kk => r_aload_n 1 dX12_mark_0 rfl rfl kk) ?_
      refine Sx.up (fun _ kk => r_getI 4 dX12_mark_1 rfl f12_208 rfl rfl lt95 kk) ?_
      refine Sx.up (fun _ kk => r_if_ne 7 20 dX12_mark_4 rfl (by decide) (fun h4 => absurd h4 (fun z => z hb)) (fun _ => kk)) ?_
      refine Sx.up (fun _ kk => r_aload_n 8 dX12_mark_7 rfl rfl kk) ?_
      refine Sx.up (fun _ kk => r_iload_n 9 dX12_mark_8 rfl rfl kk) ?_
      refine Sx.up (fun _ kk => r_callV (M := mX12_mark) (pc := 9) 12 dX12_mark_9 rfl k12_226 (md_isM y1) rfl rfl rfl (by decide) rfl lt95 (Nat.le_of_ble_eq_true rfl) kk) ?_
      refine Sx.up (fun _ kk => r_if_ne 15 20 dX12_mark_12 rfl (by decide) (fun _ => kk) (fun h12 => absurd h12 (by rw [bI_t hs]; decide))) ?_
      refine Sx.up (fun _ kk => r_aload_n 21 dX12_mark_20 rfl rfl kk) ?_
      refine Sx.up (fun _ kk => r_getI 24 dX12_mark_21 rfl f12_208 rfl rfl lt95 kk) ?_
      refine Sx.up (fun _ kk => r_if_ne 27 31 dX12_mark_24 rfl (by decide) (fun h24 => absurd h24 (fun z => z hb)) (fun _ => kk)) ?_
      refine Sx.up (fun _ kk => r_aload_n 28 dX12_mark_27 rfl rfl kk) ?_
      obtain ⟨_, ⟨E2, rfl, y2⟩, hcl2⟩ := md_adv (d := d) y1 ⟨x, rfl⟩
      refine Sx.up (fun _ kk => r_callV (M := mX12_mark) (pc := 28) 31 dX12_mark_28 rfl k12_233 hcl2 rfl rfl rfl (by decide) rfl lt95 (Nat.le_of_ble_eq_true rfl) kk) ?_
      refine ⟨_, ?_, r_vret dX12_mark_31 rfl rfl rfl⟩
      exact ⟨_, rfl, by unfold sgnS; rw [if_pos hs]; exact y2⟩
    · refine Sx.up (fun _ kk => r_aload_n 1 dX12_mark_0 rfl rfl kk) ?_
      refine Sx.up (fun _ kk => r_getI 4 dX12_mark_1 rfl f12_208 rfl rfl lt95 kk) ?_
      refine Sx.up (fun _ kk => r_if_ne 7 20 dX12_mark_4 rfl (by decide) (fun h4 => absurd h4 (fun z => z hb)) (fun _ => kk)) ?_
      refine Sx.up (fun _ kk => r_aload_n 8 dX12_mark_7 rfl rfl kk) ?_
      refine Sx.up (fun _ kk => r_iload_n 9 dX12_mark_8 rfl rfl kk) ?_
      refine Sx.up (fun _ kk => r_callV (M := mX12_mark) (pc := 9) 12 dX12_mark_9 rfl k12_226 (md_isM y1) rfl rfl rfl (by decide) rfl lt95 (Nat.le_of_ble_eq_true rfl) kk) ?_
      refine Sx.up (fun _ kk => r_if_ne 15 20 dX12_mark_12 rfl (by decide) (fun h12 => absurd h12 (fun z => z (bI_f hs))) (fun _ => kk)) ?_
      refine Sx.up (fun _ kk => r_aload_n 16 dX12_mark_15 rfl rfl kk) ?_
      refine Sx.up (fun _ kk => r_iconst (1) 17 dX12_mark_16 rfl (by decide) kk) ?_
      obtain ⟨_, ⟨E2, rfl, y2⟩, hcl2⟩ := md_wrong (d := d + 1) y1 (k := 1) (k9 := 1) rfl (by decide) (by decide)
      refine Sx.up (fun _ kk => r_callV (M := mX12_mark) (pc := 17) 20 dX12_mark_17 rfl k12_229 hcl2 rfl rfl rfl (by decide) rfl lt95 (Nat.le_of_ble_eq_true rfl) kk) ?_
      refine Sx.up (fun _ kk => r_aload_n 21 dX12_mark_20 rfl rfl kk) ?_
      refine Sx.up (fun _ kk => r_getI 24 dX12_mark_21 rfl f12_208 rfl rfl lt95 kk) ?_
      refine Sx.up (fun _ kk => r_if_ne 27 31 dX12_mark_24 rfl (by decide) (fun _ => kk) (fun h24 => absurd h24 (md_1b y2))) ?_
      refine ⟨_, ?_, r_vret dX12_mark_31 rfl rfl rfl⟩
      exact ⟨_, rfl, by unfold sgnS; rw [if_neg hs]; exact y2⟩
set_option maxHeartbeats 16000000 in
set_option maxRecDepth 20000 in
theorem md_nowM {d lo hi : Nat} {x z : Int32} {E0 E : HP} {T : TX} {s : PS} (y1 : CMd E0 E T s) (hx : x = nI lo) (hz : z = nI hi) (h1 : lo < 100000) (h2 : hi < 10000) : ∃ o, (∃ E2 v, o = (.inl (some (.int v)), E2, 137) ∧ CMd E0 E2 T (nuS T lo hi s) ∧ (∀ q, nuS T lo hi s = .inr q → v = nI (vaS T s)) ∧ (∀ q, nuS T lo hi s = .inl q → v = 0) ∧ MF gsP [] E E2) ∧ Cl yX12_numberNow mX12_numberNow (d + 1) 0 0 [.ref 95, .int x, .int z] E 137 o := by
  subst hx
  subst hz
  refine Cx.of (by decide) rfl (fun q => by cases q) rfl rfl (Nat.le_of_ble_eq_true rfl) ?_
  show Sx _ _ _ _ _ 0 [some (.ref 95), some (.int (nI lo)), some (.int (nI hi))] [] _ _
  cases s with
  | inl x =>
    have hb := md_1b y1
    refine Sx.up (fun _ kk => r_aload_n 1 dX12_numberNow_0 rfl rfl kk) ?_
    refine Sx.up (fun _ kk => r_getI 4 dX12_numberNow_1 rfl f12_208 rfl rfl lt95 kk) ?_
    refine Sx.up (fun _ kk => r_if_eq 7 9 dX12_numberNow_4 rfl (by decide) (fun h4 => absurd h4 hb) (fun _ => kk)) ?_
    refine Sx.up (fun _ kk => r_iconst (0) 8 dX12_numberNow_7 rfl (by decide) kk) ?_
    refine ⟨_, ?_, r_iret dX12_numberNow_8 rfl rfl rfl⟩
    exact ⟨_, _, rfl, y1, fun q e => (by cases e), fun _ _ => rfl, mf_rfl⟩
  | inr x =>
    obtain ⟨a, B⟩ := x
    obtain ⟨c1, c2, c3, c4⟩ := id y1.2
    obtain ⟨g1, g5, g6, g3, g4⟩ := id c3
    have hk2 := md_k y1 (k := 2) (by decide)
    have te := toE_le (T := T) (a := a)
    have n6 := (md_T y1).1
    have hdf : nI (toE T a) - nI a = nI (lenT T a) := nI_dif te.1
    have hle : lenT T a ≤ 600 := by unfold lenT; have := te.2.1 c2; omega
    by_cases hk : kdT T a = 2
    · have hki : kiS T 2 (.inr (a, B)) = true := decide_eq_true hk
      by_cases hw : nwS T lo hi (.inr (a, B)) = true
      · have e : nuS T lo hi (.inr (a, B)) = .inr (a, B) := by unfold nuS; rw [if_pos hki, if_pos hw]
        have hin := in_num hw
        have hl4 : lenT T a ≤ 4 := by
          rcases Nat.lt_or_ge 4 (lenT T a) with z | z
          · have : numT T a = 10000 := if_pos z
            omega
          · exact z
        have g4' := g4 hk hl4
        refine Sx.up (fun _ kk => r_aload_n 1 dX12_numberNow_0 rfl rfl kk) ?_
        refine Sx.up (fun _ kk => r_getIV (0) 4 dX12_numberNow_1 rfl f12_208 rfl rfl lt95 (c1) kk) ?_
        refine Sx.up (fun _ kk => r_if_eq 7 9 dX12_numberNow_4 rfl (by decide) (fun _ => kk) (fun h4 => absurd rfl h4)) ?_
        refine Sx.up (fun _ kk => r_aload_n 10 dX12_numberNow_9 rfl rfl kk) ?_
        refine Sx.up (fun _ kk => r_getI 13 dX12_numberNow_10 rfl f12_182 rfl rfl lt95 kk) ?_
        refine Sx.up (fun _ kk => r_iconst (2) 14 dX12_numberNow_13 rfl (by decide) kk) ?_
        refine Sx.up (fun _ kk => r_icmp_eq 17 25 dX12_numberNow_14 rfl (by decide) (fun _ => kk) (fun h14 => absurd (hk2.mpr hk) h14)) ?_
        refine Sx.up (fun _ kk => r_aload_n 26 dX12_numberNow_25 rfl rfl kk) ?_
        refine Sx.up (fun _ kk => r_getIV (nI (toE T a)) 29 dX12_numberNow_26 rfl f12_205 rfl rfl lt95 (g6) kk) ?_
        refine Sx.up (fun _ kk => r_aload_n 30 dX12_numberNow_29 rfl rfl kk) ?_
        refine Sx.up (fun _ kk => r_getIV (nI a) 33 dX12_numberNow_30 rfl f12_179 rfl rfl lt95 (g5) kk) ?_
        refine Sx.up (fun _ kk => r_isub 34 dX12_numberNow_33 rfl kk) ?_
        refine Sx.up (fun _ kk => r_iconst (4) 35 dX12_numberNow_34 rfl (by decide) kk) ?_
        rw [hdf]
        refine Sx.up (fun _ kk => r_icmp_gt 38 54 dX12_numberNow_35 rfl (by decide) (fun h35 => absurd h35 (fun z => absurd (show nI 4 < nI (lenT T a) from z) (fun y => absurd y (by rw [Int32.not_lt]; exact nI_le (b := 4) hl4 (by omega))))) (fun _ => kk)) ?_
        refine Sx.up (fun _ kk => r_aload_n 39 dX12_numberNow_38 rfl rfl kk) ?_
        refine Sx.up (fun _ kk => r_getIV (nI (numT T a)) 42 dX12_numberNow_39 rfl f12_192 rfl rfl lt95 (g4') kk) ?_
        refine Sx.up (fun _ kk => r_iload_n 43 dX12_numberNow_42 rfl rfl kk) ?_
        refine Sx.up (fun _ kk => r_icmp_lt 46 54 dX12_numberNow_43 rfl (by decide) (fun h43 => absurd h43 (nI_nlt (by omega) (by omega))) (fun _ => kk)) ?_
        refine Sx.up (fun _ kk => r_aload_n 47 dX12_numberNow_46 rfl rfl kk) ?_
        refine Sx.up (fun _ kk => r_getIV (nI (numT T a)) 50 dX12_numberNow_47 rfl f12_192 rfl rfl lt95 (g4') kk) ?_
        refine Sx.up (fun _ kk => r_iload_n 51 dX12_numberNow_50 rfl rfl kk) ?_
        refine Sx.up (fun _ kk => r_icmp_le 54 59 dX12_numberNow_51 rfl (by decide) (fun _ => kk) (fun h51 => absurd (nI_le (by omega) (by omega)) h51)) ?_
        refine Sx.up (fun _ kk => r_aload_n 60 dX12_numberNow_59 rfl rfl kk) ?_
        refine Sx.up (fun _ kk => r_getIV (0) 63 dX12_numberNow_60 rfl f12_208 rfl rfl lt95 (c1) kk) ?_
        refine Sx.up (fun _ kk => r_if_ne 66 73 dX12_numberNow_63 rfl (by decide) (fun h63 => absurd h63 (fun z => z rfl)) (fun _ => kk)) ?_
        refine Sx.up (fun _ kk => r_aload_n 67 dX12_numberNow_66 rfl rfl kk) ?_
        refine Sx.up (fun _ kk => r_getIV (nI (numT T a)) 70 dX12_numberNow_67 rfl f12_192 rfl rfl lt95 (g4') kk) ?_
        refine Sx.up (fun _ kk => r_goto 74 dX12_numberNow_70 (by decide) kk) ?_
        refine ⟨_, ?_, r_iret dX12_numberNow_74 rfl rfl rfl⟩
        exact ⟨_, _, rfl, by rw [e]; exact y1, fun q _ => rfl, fun q z => (by rw [e] at z; cases z), mf_rfl⟩
      · have e : nuS T lo hi (.inr (a, B)) = fltS 2 (.inr (a, B)) := by unfold nuS; rw [if_pos hki, if_neg hw]
        have done : ∀ E2, CMd E0 E2 T (fltS 2 (.inr (a, B))) → MF gsP [] E E2 → Sx mX12_numberNow (d + 1) 0 0 (fun o => ∃ E2 v, o = (.inl (some (.int v)), E2, 137) ∧ CMd E0 E2 T (nuS T lo hi (.inr (a, B))) ∧ (∀ q, nuS T lo hi (.inr (a, B)) = .inr q → v = nI (vaS T (.inr (a, B)))) ∧ (∀ q, nuS T lo hi (.inr (a, B)) = .inl q → v = 0) ∧ MF gsP [] E E2) 59 [some (.ref 95), some (.int (nI lo)), some (.int (nI hi))] [] E2 137 := by
          intro E2 y1 mE
          have hb := md_1b y1
          refine Sx.up (fun _ kk => r_aload_n 60 dX12_numberNow_59 rfl rfl kk) ?_
          refine Sx.up (fun _ kk => r_getI 63 dX12_numberNow_60 rfl f12_208 rfl rfl lt95 kk) ?_
          refine Sx.up (fun _ kk => r_if_ne 66 73 dX12_numberNow_63 rfl (by decide) (fun _ => kk) (fun h63 => absurd h63 hb)) ?_
          refine Sx.up (fun _ kk => r_iconst (0) 74 dX12_numberNow_73 rfl (by decide) kk) ?_
          refine ⟨_, ?_, r_iret dX12_numberNow_74 rfl rfl rfl⟩
          exact ⟨_, _, rfl, by rw [e]; exact y1, fun q z => (by rw [e] at z; cases z), fun _ _ => rfl, mE⟩
        by_cases hl4 : lenT T a ≤ 4
        · have g4' := g4 hk hl4
          refine Sx.up (fun _ kk => r_aload_n 1 dX12_numberNow_0 rfl rfl kk) ?_
          refine Sx.up (fun _ kk => r_getIV (0) 4 dX12_numberNow_1 rfl f12_208 rfl rfl lt95 (c1) kk) ?_
          refine Sx.up (fun _ kk => r_if_eq 7 9 dX12_numberNow_4 rfl (by decide) (fun _ => kk) (fun h4 => absurd rfl h4)) ?_
          refine Sx.up (fun _ kk => r_aload_n 10 dX12_numberNow_9 rfl rfl kk) ?_
          refine Sx.up (fun _ kk => r_getI 13 dX12_numberNow_10 rfl f12_182 rfl rfl lt95 kk) ?_
          refine Sx.up (fun _ kk => r_iconst (2) 14 dX12_numberNow_13 rfl (by decide) kk) ?_
          refine Sx.up (fun _ kk => r_icmp_eq 17 25 dX12_numberNow_14 rfl (by decide) (fun _ => kk) (fun h14 => absurd (hk2.mpr hk) h14)) ?_
          refine Sx.up (fun _ kk => r_aload_n 26 dX12_numberNow_25 rfl rfl kk) ?_
          refine Sx.up (fun _ kk => r_getIV (nI (toE T a)) 29 dX12_numberNow_26 rfl f12_205 rfl rfl lt95 (g6) kk) ?_
          refine Sx.up (fun _ kk => r_aload_n 30 dX12_numberNow_29 rfl rfl kk) ?_
          refine Sx.up (fun _ kk => r_getIV (nI a) 33 dX12_numberNow_30 rfl f12_179 rfl rfl lt95 (g5) kk) ?_
          refine Sx.up (fun _ kk => r_isub 34 dX12_numberNow_33 rfl kk) ?_
          refine Sx.up (fun _ kk => r_iconst (4) 35 dX12_numberNow_34 rfl (by decide) kk) ?_
          rw [hdf]
          refine Sx.up (fun _ kk => r_icmp_gt 38 54 dX12_numberNow_35 rfl (by decide) (fun h35 => absurd h35 (by rw [Int32.not_lt]; exact nI_le (b := 4) hl4 (by omega))) (fun _ => kk)) ?_
          refine Sx.up (fun _ kk => r_aload_n 39 dX12_numberNow_38 rfl rfl kk) ?_
          refine Sx.up (fun _ kk => r_getIV (nI (numT T a)) 42 dX12_numberNow_39 rfl f12_192 rfl rfl lt95 (g4') kk) ?_
          refine Sx.up (fun _ kk => r_iload_n 43 dX12_numberNow_42 rfl rfl kk) ?_
          refine Sx.br (fun _ ka kb => r_icmp_lt 46 54 dX12_numberNow_43 rfl (by decide) ka kb) (by first | exact em1 | exact em2) (fun h43 => ?_) (fun h43 => ?_)
          · refine Sx.up (fun _ kk => r_aload_n 55 dX12_numberNow_54 rfl rfl kk) ?_
            refine Sx.up (fun _ kk => r_iconst (2) 56 dX12_numberNow_55 rfl (by decide) kk) ?_
            obtain ⟨_, ⟨E2, rfl, y2, w2⟩, hcl2⟩ := md_wrongM (d := d) y1 (k := 2) (k9 := 2) rfl (by decide) (by decide)
            refine Sx.up (fun _ kk => r_callV (M := mX12_numberNow) (pc := 56) 59 dX12_numberNow_56 rfl k12_229 hcl2 rfl rfl rfl (by decide) rfl lt95 (Nat.le_of_ble_eq_true rfl) kk) ?_
            first
            | exact done _ y2 w2
            | exact absurd (decide_eq_true (p := kdT T a = 2 ∧ lo ≤ numT T a ∧ numT T a ≤ hi) ⟨hk, (nlt_le (by have := num_lt hk; omega) h1).mp h43, (nlt_le (by omega) (by have := num_lt hk; omega)).mp (Int32.not_lt.mpr h51)⟩) hw
          · refine Sx.up (fun _ kk => r_aload_n 47 dX12_numberNow_46 rfl rfl kk) ?_
            refine Sx.up (fun _ kk => r_getIV (nI (numT T a)) 50 dX12_numberNow_47 rfl f12_192 rfl rfl lt95 (g4') kk) ?_
            refine Sx.up (fun _ kk => r_iload_n 51 dX12_numberNow_50 rfl rfl kk) ?_
            refine Sx.br (fun _ ka kb => r_icmp_le 54 59 dX12_numberNow_51 rfl (by decide) ka kb) (by first | exact em1 | exact em2) (fun h51 => ?_) (fun h51 => ?_)
            · first
              | exact done _ y1 w1
              | exact absurd (decide_eq_true (p := kdT T a = 2 ∧ lo ≤ numT T a ∧ numT T a ≤ hi) ⟨hk, (nlt_le (by have := num_lt hk; omega) h1).mp h43, (nlt_le (by omega) (by have := num_lt hk; omega)).mp (Int32.not_lt.mpr h51)⟩) hw
            · refine Sx.up (fun _ kk => r_aload_n 55 dX12_numberNow_54 rfl rfl kk) ?_
              refine Sx.up (fun _ kk => r_iconst (2) 56 dX12_numberNow_55 rfl (by decide) kk) ?_
              obtain ⟨_, ⟨E3, rfl, y3, w3⟩, hcl3⟩ := md_wrongM (d := d) y1 (k := 2) (k9 := 2) rfl (by decide) (by decide)
              refine Sx.up (fun _ kk => r_callV (M := mX12_numberNow) (pc := 56) 59 dX12_numberNow_56 rfl k12_229 hcl3 rfl rfl rfl (by decide) rfl lt95 (Nat.le_of_ble_eq_true rfl) kk) ?_
              first
              | exact done _ y3 w3
              | exact absurd (decide_eq_true (p := kdT T a = 2 ∧ lo ≤ numT T a ∧ numT T a ≤ hi) ⟨hk, (nlt_le (by have := num_lt hk; omega) h1).mp h43, (nlt_le (by omega) (by have := num_lt hk; omega)).mp (Int32.not_lt.mpr h51)⟩) hw
        · refine Sx.up (fun _ kk => r_aload_n 1 dX12_numberNow_0 rfl rfl kk) ?_
          refine Sx.up (fun _ kk => r_getIV (0) 4 dX12_numberNow_1 rfl f12_208 rfl rfl lt95 (c1) kk) ?_
          refine Sx.up (fun _ kk => r_if_eq 7 9 dX12_numberNow_4 rfl (by decide) (fun _ => kk) (fun h4 => absurd rfl h4)) ?_
          refine Sx.up (fun _ kk => r_aload_n 10 dX12_numberNow_9 rfl rfl kk) ?_
          refine Sx.up (fun _ kk => r_getI 13 dX12_numberNow_10 rfl f12_182 rfl rfl lt95 kk) ?_
          refine Sx.up (fun _ kk => r_iconst (2) 14 dX12_numberNow_13 rfl (by decide) kk) ?_
          refine Sx.up (fun _ kk => r_icmp_eq 17 25 dX12_numberNow_14 rfl (by decide) (fun _ => kk) (fun h14 => absurd (hk2.mpr hk) h14)) ?_
          refine Sx.up (fun _ kk => r_aload_n 26 dX12_numberNow_25 rfl rfl kk) ?_
          refine Sx.up (fun _ kk => r_getIV (nI (toE T a)) 29 dX12_numberNow_26 rfl f12_205 rfl rfl lt95 (g6) kk) ?_
          refine Sx.up (fun _ kk => r_aload_n 30 dX12_numberNow_29 rfl rfl kk) ?_
          refine Sx.up (fun _ kk => r_getIV (nI a) 33 dX12_numberNow_30 rfl f12_179 rfl rfl lt95 (g5) kk) ?_
          refine Sx.up (fun _ kk => r_isub 34 dX12_numberNow_33 rfl kk) ?_
          refine Sx.up (fun _ kk => r_iconst (4) 35 dX12_numberNow_34 rfl (by decide) kk) ?_
          rw [hdf]
          refine Sx.up (fun _ kk => r_icmp_gt 38 54 dX12_numberNow_35 rfl (by decide) (fun _ => kk) (fun h35 => absurd (nI_lt (a := 4) (by omega) (by omega)) h35)) ?_
          refine Sx.up (fun _ kk => r_aload_n 55 dX12_numberNow_54 rfl rfl kk) ?_
          refine Sx.up (fun _ kk => r_iconst (2) 56 dX12_numberNow_55 rfl (by decide) kk) ?_
          obtain ⟨_, ⟨E2, rfl, y2, w2⟩, hcl2⟩ := md_wrongM (d := d) y1 (k := 2) (k9 := 2) rfl (by decide) (by decide)
          refine Sx.up (fun _ kk => r_callV (M := mX12_numberNow) (pc := 56) 59 dX12_numberNow_56 rfl k12_229 hcl2 rfl rfl rfl (by decide) rfl lt95 (Nat.le_of_ble_eq_true rfl) kk) ?_
          exact done _ y2 w2
    · have hki : ¬ kiS T 2 (.inr (a, B)) = true := fun z => hk (of_decide_eq_true z)
      have e : nuS T lo hi (.inr (a, B)) = fltS 1 (.inr (a, B)) := by unfold nuS; rw [if_neg hki]
      refine Sx.up (fun _ kk => r_aload_n 1 dX12_numberNow_0 rfl rfl kk) ?_
      refine Sx.up (fun _ kk => r_getIV (0) 4 dX12_numberNow_1 rfl f12_208 rfl rfl lt95 (c1) kk) ?_
      refine Sx.up (fun _ kk => r_if_eq 7 9 dX12_numberNow_4 rfl (by decide) (fun _ => kk) (fun h4 => absurd rfl h4)) ?_
      refine Sx.up (fun _ kk => r_aload_n 10 dX12_numberNow_9 rfl rfl kk) ?_
      refine Sx.up (fun _ kk => r_getI 13 dX12_numberNow_10 rfl f12_182 rfl rfl lt95 kk) ?_
      refine Sx.up (fun _ kk => r_iconst (2) 14 dX12_numberNow_13 rfl (by decide) kk) ?_
      refine Sx.up (fun _ kk => r_icmp_eq 17 25 dX12_numberNow_14 rfl (by decide) (fun h14 => absurd h14 (fun z => hk (hk2.mp z))) (fun _ => kk)) ?_
      refine Sx.up (fun _ kk => r_aload_n 18 dX12_numberNow_17 rfl rfl kk) ?_
      refine Sx.up (fun _ kk => r_iconst (1) 19 dX12_numberNow_18 rfl (by decide) kk) ?_
      obtain ⟨_, ⟨E2, rfl, y2, w2⟩, hcl2⟩ := md_wrongM (d := d) y1 (k := 1) (k9 := 1) rfl (by decide) (by decide)
      refine Sx.up (fun _ kk => r_callV (M := mX12_numberNow) (pc := 19) 22 dX12_numberNow_19 rfl k12_229 hcl2 rfl rfl rfl (by decide) rfl lt95 (Nat.le_of_ble_eq_true rfl) kk) ?_
      refine Sx.up (fun _ kk => r_goto 59 dX12_numberNow_22 (by decide) kk) ?_
      have hb := md_1b y2
      refine Sx.up (fun _ kk => r_aload_n 60 dX12_numberNow_59 rfl rfl kk) ?_
      refine Sx.up (fun _ kk => r_getI 63 dX12_numberNow_60 rfl f12_208 rfl rfl lt95 kk) ?_
      refine Sx.up (fun _ kk => r_if_ne 66 73 dX12_numberNow_63 rfl (by decide) (fun _ => kk) (fun h63 => absurd h63 hb)) ?_
      refine Sx.up (fun _ kk => r_iconst (0) 74 dX12_numberNow_73 rfl (by decide) kk) ?_
      refine ⟨_, ?_, r_iret dX12_numberNow_74 rfl rfl rfl⟩
      exact ⟨_, _, rfl, by rw [e]; exact y2, fun q z => (by rw [e] at z; cases z), fun _ _ => rfl, w2⟩
set_option maxHeartbeats 16000000 in
set_option maxRecDepth 20000 in
theorem md_rnM {d lo hi : Nat} {x z : Int32} {E0 E : HP} {T : TX} {s : PS} (y1 : CMd E0 E T s) (hx : x = nI lo) (hz : z = nI hi) (h1 : lo < 100000) (h2 : hi < 10000) : ∃ o, (∃ E2 v, o = (.inl (some (.int v)), E2, 137) ∧ CMd E0 E2 T (tkS T lo hi s) ∧ (∀ a B, tkS T lo hi s = .inr (a, B) → v = nI (vaS T s)) ∧ MF gsP [] E E2) ∧ Cl yX12_readNumber mX12_readNumber (d + 2) 0 0 [.ref 95, .int x, .int z] E 137 o := by
  obtain ⟨_, ⟨E2, v, rfl, y2, hv, hv0, w2⟩, hcl⟩ := md_nowM (d := d) y1 hx hz h1 h2
  refine Cx.of (by decide) rfl (fun q => by cases q) rfl rfl (Nat.le_of_ble_eq_true rfl) ?_
  show Sx _ _ _ _ _ 0 [some (.ref 95), some (.int (x)), some (.int (z)), none] [] _ _
  cases hn : nuS T lo hi s with
  | inl x =>
    rw [hn] at y2
    have hb := md_1b y2
    have e : tkS T lo hi s = .inl x := by rw [← adv_nu, hn]; rfl
    refine Sx.up (fun _ kk => r_aload_n 1 dX12_readNumber_0 rfl rfl kk) ?_
    refine Sx.up (fun _ kk => r_iload_n 2 dX12_readNumber_1 rfl rfl kk) ?_
    refine Sx.up (fun _ kk => r_iload_n 3 dX12_readNumber_2 rfl rfl kk) ?_
    refine Sx.up (fun _ kk => r_callV (M := mX12_readNumber) (pc := 3) 6 dX12_readNumber_3 rfl k12_236 hcl rfl rfl rfl (by decide) rfl lt95 (Nat.le_of_ble_eq_true rfl) kk) ?_
    refine Sx.up (fun _ kk => r_istore_n 7 dX12_readNumber_6 rfl (by decide) rfl kk) ?_
    refine Sx.up (fun _ kk => r_aload_n 8 dX12_readNumber_7 rfl rfl kk) ?_
    refine Sx.up (fun _ kk => r_getI 11 dX12_readNumber_8 rfl f12_208 rfl rfl lt95 kk) ?_
    refine Sx.up (fun _ kk => r_if_ne 14 18 dX12_readNumber_11 rfl (by decide) (fun _ => kk) (fun h11 => absurd h11 hb)) ?_
    refine Sx.up (fun _ kk => r_iload_n 19 dX12_readNumber_18 rfl rfl kk) ?_
    refine ⟨_, ?_, r_iret dX12_readNumber_19 rfl rfl rfl⟩
    exact ⟨_, _, rfl, by rw [e]; exact y2, fun a B z => (by rw [e] at z; cases z), w2⟩
  | inr x =>
    rw [hn] at y2
    have hb := md_0b y2 ⟨x, rfl⟩
    obtain ⟨_, ⟨E3, rfl, y3, w3⟩, hcl3⟩ := md_advM (d := d) y2 ⟨x, rfl⟩
    rw [← hn, adv_nu] at y3
    refine Sx.up (fun _ kk => r_aload_n 1 dX12_readNumber_0 rfl rfl kk) ?_
    refine Sx.up (fun _ kk => r_iload_n 2 dX12_readNumber_1 rfl rfl kk) ?_
    refine Sx.up (fun _ kk => r_iload_n 3 dX12_readNumber_2 rfl rfl kk) ?_
    refine Sx.up (fun _ kk => r_callV (M := mX12_readNumber) (pc := 3) 6 dX12_readNumber_3 rfl k12_236 hcl rfl rfl rfl (by decide) rfl lt95 (Nat.le_of_ble_eq_true rfl) kk) ?_
    refine Sx.up (fun _ kk => r_istore_n 7 dX12_readNumber_6 rfl (by decide) rfl kk) ?_
    refine Sx.up (fun _ kk => r_aload_n 8 dX12_readNumber_7 rfl rfl kk) ?_
    refine Sx.up (fun _ kk => r_getI 11 dX12_readNumber_8 rfl f12_208 rfl rfl lt95 kk) ?_
    refine Sx.up (fun _ kk => r_if_ne 14 18 dX12_readNumber_11 rfl (by decide) (fun h11 => absurd h11 (fun z => z hb)) (fun _ => kk)) ?_
    refine Sx.up (fun _ kk => r_aload_n 15 dX12_readNumber_14 rfl rfl kk) ?_
    refine Sx.up (fun _ kk => r_callV (M := mX12_readNumber) (pc := 15) 18 dX12_readNumber_15 rfl k12_233 hcl3 rfl rfl rfl (by decide) rfl lt95 (Nat.le_of_ble_eq_true rfl) kk) ?_
    refine Sx.up (fun _ kk => r_iload_n 19 dX12_readNumber_18 rfl rfl kk) ?_
    refine ⟨_, ?_, r_iret dX12_readNumber_19 rfl rfl rfl⟩
    exact ⟨_, _, rfl, y3, fun a B z => hv x hn, mf_tr w2 w3⟩
theorem md_now {d lo hi : Nat} {x z : Int32} {E0 E : HP} {T : TX} {s : PS} (y1 : CMd E0 E T s) (hx : x = nI lo) (hz : z = nI hi) (h1 : lo < 100000) (h2 : hi < 10000) : ∃ o, (∃ E2 v, o = (.inl (some (.int v)), E2, 137) ∧ CMd E0 E2 T (nuS T lo hi s) ∧ (∀ q, nuS T lo hi s = .inr q → v = nI (vaS T s)) ∧ (∀ q, nuS T lo hi s = .inl q → v = 0)) ∧ Cl yX12_numberNow mX12_numberNow (d + 1) 0 0 [.ref 95, .int x, .int z] E 137 o := by
  obtain ⟨o, ⟨E2, v, e1, e2, e3, e4, -⟩, h3⟩ := md_nowM (d := d) y1 hx hz h1 h2
  exact ⟨o, ⟨E2, v, e1, e2, e3, e4⟩, h3⟩
theorem md_rn {d lo hi : Nat} {x z : Int32} {E0 E : HP} {T : TX} {s : PS} (y1 : CMd E0 E T s) (hx : x = nI lo) (hz : z = nI hi) (h1 : lo < 100000) (h2 : hi < 10000) : ∃ o, (∃ E2 v, o = (.inl (some (.int v)), E2, 137) ∧ CMd E0 E2 T (tkS T lo hi s) ∧ (∀ a B, tkS T lo hi s = .inr (a, B) → v = nI (vaS T s))) ∧ Cl yX12_readNumber mX12_readNumber (d + 2) 0 0 [.ref 95, .int x, .int z] E 137 o := by
  obtain ⟨o, ⟨E2, v, e1, e2, e3, -⟩, h3⟩ := md_rnM (d := d) y1 hx hz h1 h2
  exact ⟨o, ⟨E2, v, e1, e2, e3⟩, h3⟩
set_option maxHeartbeats 16000000 in
set_option maxRecDepth 20000 in
theorem md_sn {d : Nat} {E0 E : HP} {T : TX} {s : PS} (y1 : CMd E0 E T s) : ∃ o, (∃ E2 v, o = (.inl (some (.int v)), E2, 137) ∧ CMd E0 E2 T (snS T s) ∧ (∀ q, snS T s = .inr q → v = nI (vaS T s))) ∧ Cl yX12_sleeperNow mX12_sleeperNow (d + 2) 0 0 [.ref 95] E 137 o := by
  obtain ⟨_, ⟨E2, v, rfl, y2, hv, hv0⟩, hcl⟩ := md_now (d := d) y1 (lo := 0) (hi := 9999) rfl rfl (by decide) (by decide)
  refine Cx.of (by decide) rfl (fun q => by cases q) rfl rfl (Nat.le_of_ble_eq_true rfl) ?_
  show Sx _ _ _ _ _ 0 [some (.ref 95), none] [] _ _
  cases hn : nuS T 0 9999 s with
  | inl x =>
    rw [hn] at y2
    have hb := md_1b y2
    have e : snS T s = .inl x := by
      cases s with
      | inl z => have e9 : (nuS T 0 9999 (.inl z) : PS) = .inl z := rfl; rw [e9] at hn; rw [← hn]; rfl
      | inr z =>
        have h9 : ¬ inN T z.1 (bC z.2) 9999 = true := fun q => by
          have q1 := in_num q
          unfold nuS at hn
          rw [if_pos (show kiS T 2 (.inr z) = true from decide_eq_true q1.1), if_pos (show nwS T 0 9999 (.inr z) = true from decide_eq_true (p := kdT T z.1 = 2 ∧ 0 ≤ numT T z.1 ∧ numT T z.1 ≤ 9999) ⟨q1.1, Nat.zero_le _, q1.2.2⟩)] at hn
          cases hn
        have e1 : unS T (.inr z) = .inr z := if_neg h9
        unfold snS
        rw [e1, ← adv_nu, hn]; rfl
    refine Sx.up (fun _ kk => r_aload_n 1 dX12_sleeperNow_0 rfl rfl kk) ?_
    refine Sx.up (fun _ kk => r_iconst (0) 2 dX12_sleeperNow_1 rfl (by decide) kk) ?_
    refine Sx.up (fun _ kk => r_sipush (9999) 5 dX12_sleeperNow_2 rfl (by decide) kk) ?_
    refine Sx.up (fun _ kk => r_callV (M := mX12_sleeperNow) (pc := 5) 8 dX12_sleeperNow_5 rfl k12_236 hcl rfl rfl rfl (by decide) rfl lt95 (Nat.le_of_ble_eq_true rfl) kk) ?_
    refine Sx.up (fun _ kk => r_istore_n 9 dX12_sleeperNow_8 rfl (by decide) rfl kk) ?_
    refine Sx.up (fun _ kk => r_aload_n 10 dX12_sleeperNow_9 rfl rfl kk) ?_
    refine Sx.up (fun _ kk => r_getI 13 dX12_sleeperNow_10 rfl f12_208 rfl rfl lt95 kk) ?_
    refine Sx.up (fun _ kk => r_if_ne 16 32 dX12_sleeperNow_13 rfl (by decide) (fun _ => kk) (fun h13 => absurd h13 hb)) ?_
    refine Sx.up (fun _ kk => r_aload_n 33 dX12_sleeperNow_32 rfl rfl kk) ?_
    refine Sx.up (fun _ kk => r_getI 36 dX12_sleeperNow_33 rfl f12_208 rfl rfl lt95 kk) ?_
    refine Sx.up (fun _ kk => r_if_ne 39 43 dX12_sleeperNow_36 rfl (by decide) (fun _ => kk) (fun h36 => absurd h36 hb)) ?_
    refine Sx.up (fun _ kk => r_iconst (0) 44 dX12_sleeperNow_43 rfl (by decide) kk) ?_
    refine ⟨_, ?_, r_iret dX12_sleeperNow_44 rfl rfl rfl⟩
    exact ⟨_, _, rfl, by rw [e]; exact y2, fun q z => by rw [e] at z; cases z⟩
  | inr x =>
    rw [hn] at y2
    have hx : s = .inr x ∧ nwS T 0 9999 s = true := by
      unfold nuS at hn
      by_cases h1 : kiS T 2 s = true
      · rw [if_pos h1] at hn
        by_cases h2 : nwS T 0 9999 s = true
        · rw [if_pos h2] at hn; exact ⟨hn, h2⟩
        · rw [if_neg h2] at hn; cases s <;> cases hn
      · rw [if_neg h1] at hn; cases s <;> cases hn
    obtain ⟨rfl, hw⟩ := hx
    obtain ⟨a, B⟩ := x
    have hin := in_num hw
    obtain ⟨c1, c2, c3, c4⟩ := id y2.2
    have hv : v = nI (numT T a) := hv _ hn
    have hc7 := c4.2.1
    have hb := c1
    by_cases hc : numT T a < bC B
    · have e1 : unS T (.inr (a, B)) = .inr (a, B) := if_neg (fun z => by have := (in_num z).2.1; omega)
      have e : snS T (.inr (a, B)) = .inr (a, B) := by
        unfold snS
        rw [e1, ← adv_nu, hn]; rfl
      refine Sx.up (fun _ kk => r_aload_n 1 dX12_sleeperNow_0 rfl rfl kk) ?_
      refine Sx.up (fun _ kk => r_iconst (0) 2 dX12_sleeperNow_1 rfl (by decide) kk) ?_
      refine Sx.up (fun _ kk => r_sipush (9999) 5 dX12_sleeperNow_2 rfl (by decide) kk) ?_
      refine Sx.up (fun _ kk => r_callV (M := mX12_sleeperNow) (pc := 5) 8 dX12_sleeperNow_5 rfl k12_236 hcl rfl rfl rfl (by decide) rfl lt95 (Nat.le_of_ble_eq_true rfl) kk) ?_
      refine Sx.up (fun _ kk => r_istore_n 9 dX12_sleeperNow_8 rfl (by decide) rfl kk) ?_
      refine Sx.up (fun _ kk => r_aload_n 10 dX12_sleeperNow_9 rfl rfl kk) ?_
      refine Sx.up (fun _ kk => r_getI 13 dX12_sleeperNow_10 rfl f12_208 rfl rfl lt95 kk) ?_
      refine Sx.up (fun _ kk => r_if_ne 16 32 dX12_sleeperNow_13 rfl (by decide) (fun h13 => absurd h13 (fun z => z hb)) (fun _ => kk)) ?_
      refine Sx.up (fun _ kk => r_iload_n 17 dX12_sleeperNow_16 rfl rfl kk) ?_
      refine Sx.up (fun _ kk => r_aload_n 18 dX12_sleeperNow_17 rfl rfl kk) ?_
      refine Sx.up (fun _ kk => r_getR 21 dX12_sleeperNow_18 rfl f12_38 rfl rfl lt95 (mo_3 (md_M y2)) kk) ?_
      refine Sx.up (fun _ kk => r_bipush (8) 23 dX12_sleeperNow_21 rfl (by decide) kk) ?_
      refine Sx.up (fun _ kk => r_ialdN (8) (nI (bC B)) 24 dX12_sleeperNow_23 rfl rfl (Nat.le_of_ble_eq_true rfl) (by decide) (Nat.le_of_ble_eq_true rfl) (Nat.le_of_ble_eq_true rfl) (c4.1) kk) ?_
      refine Sx.up (fun _ kk => r_icmp_lt 27 32 dX12_sleeperNow_24 rfl (by decide) (fun _ => kk) (fun h24 => absurd (by rw [hv]; exact nI_lt hc (by omega)) h24)) ?_
      refine Sx.up (fun _ kk => r_aload_n 33 dX12_sleeperNow_32 rfl rfl kk) ?_
      refine Sx.up (fun _ kk => r_getI 36 dX12_sleeperNow_33 rfl f12_208 rfl rfl lt95 kk) ?_
      refine Sx.up (fun _ kk => r_if_ne 39 43 dX12_sleeperNow_36 rfl (by decide) (fun h36 => absurd h36 (fun z => z hb)) (fun _ => kk)) ?_
      refine Sx.up (fun _ kk => r_iload_n 40 dX12_sleeperNow_39 rfl rfl kk) ?_
      refine Sx.up (fun _ kk => r_goto 44 dX12_sleeperNow_40 (by decide) kk) ?_
      refine ⟨_, ?_, r_iret dX12_sleeperNow_44 rfl rfl rfl⟩
      exact ⟨_, _, rfl, by rw [e]; exact y2, fun q z => hv⟩
    · have e1 : unS T (.inr (a, B)) = .inl (3, a) := if_pos (decide_eq_true (p := kdT T a = 2 ∧ bC B ≤ numT T a ∧ numT T a ≤ 9999) ⟨hin.1, by omega, hin.2.2⟩)
      have e : snS T (.inr (a, B)) = .inl (3, a) := by
        unfold snS
        rw [e1]; rfl
      obtain ⟨_, ⟨E3, rfl, y3⟩, hcl3⟩ := md_wrong (d := d + 1) y2 (k := 3) (k9 := 3) rfl (by decide) (by decide)
      have hb3 := md_1b y3
      refine Sx.up (fun _ kk => r_aload_n 1 dX12_sleeperNow_0 rfl rfl kk) ?_
      refine Sx.up (fun _ kk => r_iconst (0) 2 dX12_sleeperNow_1 rfl (by decide) kk) ?_
      refine Sx.up (fun _ kk => r_sipush (9999) 5 dX12_sleeperNow_2 rfl (by decide) kk) ?_
      refine Sx.up (fun _ kk => r_callV (M := mX12_sleeperNow) (pc := 5) 8 dX12_sleeperNow_5 rfl k12_236 hcl rfl rfl rfl (by decide) rfl lt95 (Nat.le_of_ble_eq_true rfl) kk) ?_
      refine Sx.up (fun _ kk => r_istore_n 9 dX12_sleeperNow_8 rfl (by decide) rfl kk) ?_
      refine Sx.up (fun _ kk => r_aload_n 10 dX12_sleeperNow_9 rfl rfl kk) ?_
      refine Sx.up (fun _ kk => r_getI 13 dX12_sleeperNow_10 rfl f12_208 rfl rfl lt95 kk) ?_
      refine Sx.up (fun _ kk => r_if_ne 16 32 dX12_sleeperNow_13 rfl (by decide) (fun h13 => absurd h13 (fun z => z hb)) (fun _ => kk)) ?_
      refine Sx.up (fun _ kk => r_iload_n 17 dX12_sleeperNow_16 rfl rfl kk) ?_
      refine Sx.up (fun _ kk => r_aload_n 18 dX12_sleeperNow_17 rfl rfl kk) ?_
      refine Sx.up (fun _ kk => r_getR 21 dX12_sleeperNow_18 rfl f12_38 rfl rfl lt95 (mo_3 (md_M y2)) kk) ?_
      refine Sx.up (fun _ kk => r_bipush (8) 23 dX12_sleeperNow_21 rfl (by decide) kk) ?_
      refine Sx.up (fun _ kk => r_ialdN (8) (nI (bC B)) 24 dX12_sleeperNow_23 rfl rfl (Nat.le_of_ble_eq_true rfl) (by decide) (Nat.le_of_ble_eq_true rfl) (Nat.le_of_ble_eq_true rfl) (c4.1) kk) ?_
      refine Sx.up (fun _ kk => r_icmp_lt 27 32 dX12_sleeperNow_24 rfl (by decide) (fun h24 => absurd h24 (by rw [hv]; exact nI_nlt (by omega) (by omega))) (fun _ => kk)) ?_
      refine Sx.up (fun _ kk => r_aload_n 28 dX12_sleeperNow_27 rfl rfl kk) ?_
      refine Sx.up (fun _ kk => r_iconst (3) 29 dX12_sleeperNow_28 rfl (by decide) kk) ?_
      refine Sx.up (fun _ kk => r_callV (M := mX12_sleeperNow) (pc := 29) 32 dX12_sleeperNow_29 rfl k12_229 hcl3 rfl rfl rfl (by decide) rfl lt95 (Nat.le_of_ble_eq_true rfl) kk) ?_
      refine Sx.up (fun _ kk => r_aload_n 33 dX12_sleeperNow_32 rfl rfl kk) ?_
      refine Sx.up (fun _ kk => r_getI 36 dX12_sleeperNow_33 rfl f12_208 rfl rfl lt95 kk) ?_
      refine Sx.up (fun _ kk => r_if_ne 39 43 dX12_sleeperNow_36 rfl (by decide) (fun _ => kk) (fun h36 => absurd h36 hb3)) ?_
      refine Sx.up (fun _ kk => r_iconst (0) 44 dX12_sleeperNow_43 rfl (by decide) kk) ?_
      refine ⟨_, ?_, r_iret dX12_sleeperNow_44 rfl rfl rfl⟩
      exact ⟨_, _, rfl, by rw [e]; exact y3, fun q z => by rw [e] at z; cases z⟩
set_option maxHeartbeats 16000000 in
set_option maxRecDepth 20000 in
theorem md_lay {d : Nat} {E0 E : HP} {T : TX} {s : PS} {v x : Int32} (y1 : CMd E0 E T s) (hs : slk 1 s) (hx : ∀ q, s = .inr q → v = mS x) : ∃ o, (∃ E2, o = (.inl none, E2, 137) ∧ CMd E0 E2 T (ruS x s)) ∧ Cl yX12_lay mX12_lay (d) 0 0 [.ref 95, .int v] E 137 o := by
  refine Cx.of (by decide) rfl (fun q => by cases q) rfl rfl (Nat.le_of_ble_eq_true rfl) ?_
  show Sx _ _ _ _ _ 0 [some (.ref 95), some (.int (v))] [] _ _
  cases s with
  | inl z =>
    have hb := md_1b y1
    refine Sx.up (fun _ kk => r_aload_n 1 dX12_lay_0 rfl rfl kk) ?_
    refine Sx.up (fun _ kk => r_getI 4 dX12_lay_1 rfl f12_208 rfl rfl lt95 kk) ?_
    refine Sx.up (fun _ kk => r_if_eq 7 8 dX12_lay_4 rfl (by decide) (fun h4 => absurd h4 hb) (fun _ => kk)) ?_
    refine ⟨_, ?_, r_vret dX12_lay_7 rfl rfl rfl⟩
    exact ⟨_, rfl, y1⟩
  | inr z =>
    obtain ⟨a, B⟩ := z
    have hs : (bR B).length + 1 ≤ a := hs
    obtain ⟨c1, c2, c3, c4⟩ := id y1.2
    obtain ⟨o1, o2, o3, o4, o5, o6, o7, o8, o9, o10⟩ := id c4
    have n6 := (md_T y1).1
    have hv := hx _ rfl
    subst hv
    obtain ⟨l, hl⟩ : ∃ l, (bR B).length = l := ⟨_, rfl⟩
    rw [hl] at o8 o9 o10 hs
    have hidx : (600 : Int32) + nI l = nI (600 + l) := nI_add 600 l
    have g15 : gA (sA E 106 (600 + l) (mS x)) 98 15 = nI l := by rw [gA_sA, if_neg (by omega)]; exact o8
    obtain ⟨E3, hE3⟩ : ∃ E3, sA (sA E 106 (600 + l) (mS x)) 98 15 (nI l + 1) = E3 := ⟨_, rfl⟩
    have hM3 : MF [] [98, 106] E E3 := by rw [← hE3]; exact mf_sA (by decide) (mf_sA (by decide) mf_rfl)
    have a98 : ∀ i, i ≠ 15 → gA E3 98 i = gA E 98 i := fun i hi => by rw [← hE3, gA_sA, if_neg (fun y => hi y.2), gA_sA, if_neg (fun y => absurd y.1 (by decide))]
    have ao : ∀ k, k ≠ 98 → k ≠ 106 → gA E3 k = gA E k := fun k h1 h2 => mf_gA hM3 (by simp [h1, h2])
    have yf : CMd E0 E3 T (ruS x (.inr (a, B))) := by
      refine ⟨⟨md_T y1, tmf_mf hM3 (by decide) (by decide) (md_F y1), ?_⟩, (mf_gI hM3 (by decide)).trans c1, c2, ?_, ?_, o2, fun s hs => ?_, o4, fun i hi => ?_, ?_, o7, ?_, ?_, fun i hi => ?_⟩
      · rw [← hE3]
        exact hf_sA (hf_sA y1.1.2.2 (m := 600) (by decide) (by omega)) (m := 8) (by decide) (by omega)
      · unfold TmA at *
        rw [mf_gI hM3 (by decide), mf_gI hM3 (g := 1555) (by decide), mf_gI hM3 (g := 1556) (by decide), mf_gI hM3 (g := 1553) (by decide), mf_gI hM3 (g := 1554) (by decide)]
        exact c3
      · exact (a98 8 (by decide)).trans o1
      · rw [ao 99 (by decide) (by decide), ao 100 (by decide) (by decide), ao 101 (by decide) (by decide), ao 102 (by decide) (by decide), ao 103 (by decide) (by decide), ao 104 (by decide) (by decide), ao 105 (by decide) (by decide)]
        exact o3 s hs
      · exact (a98 _ (by omega)).trans (o5 i hi)
      · exact (a98 _ (by omega)).trans o6
      · rw [← hE3, gA_sA, if_pos ⟨rfl, rfl⟩, addR_R, List.length_append, hl, nI_pp]; rfl
      · rw [addR_R, List.length_append, hl]; show l + 1 ≤ 600; omega
      · rw [addR_R, List.length_append, hl] at hi
        have hi : i < l + 1 := hi
        rw [addR_R, ← hE3, gA_sA, if_neg (fun y => absurd y.1 (by decide)), gA_sA, List.getD_eq_getElem?_getD]
        by_cases he : i = l
        · rw [if_pos ⟨rfl, by omega⟩, he, List.getElem?_append_right (by omega), hl, Nat.sub_self]; rfl
        · rw [if_neg (fun y => he (by omega)), List.getElem?_append_left (by omega), ← List.getD_eq_getElem?_getD]
          exact o10 i (by omega)
    refine Sx.up (fun _ kk => r_aload_n 1 dX12_lay_0 rfl rfl kk) ?_
    refine Sx.up (fun _ kk => r_getIV (0) 4 dX12_lay_1 rfl f12_208 rfl rfl lt95 (c1) kk) ?_
    refine Sx.up (fun _ kk => r_if_eq 7 8 dX12_lay_4 rfl (by decide) (fun _ => kk) (fun h4 => absurd rfl h4)) ?_
    refine Sx.up (fun _ kk => r_aload_n 9 dX12_lay_8 rfl rfl kk) ?_
    refine Sx.up (fun _ kk => r_getR 12 dX12_lay_9 rfl f12_62 rfl rfl lt95 (mo_11 (md_M y1)) kk) ?_
    refine Sx.up (fun _ kk => r_sipush (600) 15 dX12_lay_12 rfl (by decide) kk) ?_
    refine Sx.up (fun _ kk => r_aload_n 16 dX12_lay_15 rfl rfl kk) ?_
    refine Sx.up (fun _ kk => r_getR 19 dX12_lay_16 rfl f12_38 rfl rfl lt95 (mo_3 (md_M y1)) kk) ?_
    refine Sx.up (fun _ kk => r_bipush (15) 21 dX12_lay_19 rfl (by decide) kk) ?_
    refine Sx.up (fun _ kk => r_ialdN (15) (nI l) 22 dX12_lay_21 rfl rfl (Nat.le_of_ble_eq_true rfl) (by decide) (Nat.le_of_ble_eq_true rfl) (Nat.le_of_ble_eq_true rfl) (o8) kk) ?_
    refine Sx.up (fun _ kk => r_iadd 23 dX12_lay_22 rfl kk) ?_
    refine Sx.up (fun _ kk => r_iload_n 24 dX12_lay_23 rfl rfl kk) ?_
    refine Sx.up (fun _ kk => r_iastN (600 + l) 25 dX12_lay_24 rfl rfl (Nat.le_of_ble_eq_true rfl) (hidx) (by omega) (Nat.le_of_ble_eq_true rfl) kk) ?_
    refine Sx.up (fun _ kk => r_aload_n 26 dX12_lay_25 rfl rfl kk) ?_
    refine Sx.up (fun _ kk => r_getR 29 dX12_lay_26 rfl f12_38 rfl rfl lt95 (mo_3 (E := E) (md_M y1)) kk) ?_
    refine Sx.up (fun _ kk => r_bipush (15) 31 dX12_lay_29 rfl (by decide) kk) ?_
    refine Sx.up (fun _ kk => r_dup2 32 dX12_lay_31 rfl rfl rfl kk) ?_
    refine Sx.up (fun _ kk => r_ialdN (15) (nI l) 33 dX12_lay_32 rfl rfl (Nat.le_of_ble_eq_true rfl) (by decide) (Nat.le_of_ble_eq_true rfl) (Nat.le_of_ble_eq_true rfl) (g15) kk) ?_
    refine Sx.up (fun _ kk => r_iconst (1) 34 dX12_lay_33 rfl (by decide) kk) ?_
    refine Sx.up (fun _ kk => r_iadd 35 dX12_lay_34 rfl kk) ?_
    refine Sx.up (fun _ kk => r_iastN (15) 36 dX12_lay_35 rfl rfl (Nat.le_of_ble_eq_true rfl) (by decide) (Nat.le_of_ble_eq_true rfl) (Nat.le_of_ble_eq_true rfl) kk) ?_
    rw [hE3]
    refine ⟨_, ?_, r_vret dX12_lay_36 rfl rfl rfl⟩
    exact ⟨_, rfl, yf⟩
