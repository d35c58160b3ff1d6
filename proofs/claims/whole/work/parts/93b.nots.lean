/-! reader, further on -/
theorem slk_not {T : TX} {j : Nat} {s : PS} (hs : slk j s) : slk (j + (notN T 6 s).1) (notN T 6 s).2 ∧ (notN T 6 s).1 ≤ 6 := by
  cases s with
  | inl x => exact ⟨trivial, Nat.zero_le _⟩
  | inr q =>
    obtain ⟨a, B⟩ := q
    obtain ⟨a2, h1, h2, h3⟩ := not_n (T := T) 6 a B
    have hs : (bR B).length + j ≤ a := hs
    rw [h1]
    refine ⟨?_, h3⟩
    show (bR B).length + (j + _) ≤ a2
    omega
theorem not_y {T : TX} {k : Nat} {s : PS} (h : wdS T w_not s = true) : notN T (k + 1) s = ((notN T k (advS T s)).1 + 1, (notN T k (advS T s)).2) := if_pos h
theorem not_0 {T : TX} {k : Nat} {s : PS} (h : ¬ wdS T w_not s = true) : notN T k s = (0, s) := by
  cases k with
  | zero => rfl
  | succ k => exact if_neg h
theorem slk_notM {T : TX} {j : Nat} {s : PS} (hs : slk j s) : slk j (notM T s) := by
  unfold notM
  split
  · exact slk_flt s
  · exact hs
theorem cat_1 {a b c : Nat} (h : a = b) : nI a = nI b := by rw [h]
set_option maxHeartbeats 16000000 in
set_option maxRecDepth 20000 in
theorem rd_not {d e l : Nat} {E0 E : HP} {T : TX} {b : Nat} {s : PS} {w : Int32} (y1 : CRd E0 E T b s) (hs : slk 1 s) (hw : w = nI (6 - (l + 1))) (hl : l + 1 ≤ 6) (hex : ∀ {E : HP} {s : PS} {w : Int32}, CRd E0 E T b s → slk 1 s → w = nI (6 - l) → ∃ o, (∃ E2, o = (.inl none, E2, 137) ∧ CRd E0 E2 T b (exprS T l s)) ∧ Cl yX5_readExpr mX5_readExpr (d + e + 8) 0 0 [.ref 41, .int w] E 137 o) : ∃ o, (∃ E2, o = (.inl none, E2, 137) ∧ CRd E0 E2 T b (notS T (exprS T l) s)) ∧ Cl yX5_readNot mX5_readNot (d + e + 8 + 5) 0 0 [.ref 41, .int w] E 137 o := by
  have hb := rd_b y1
  have hbs : sh b = (0, 0) := bo_1 (rd_bed y1)
  have hbn : b < 137 := by omega
  have hb5 : sh (b + 5) = (7, 0) := (rd_bed y1).2.2.2.2.2.2.2.2.2.1.1
  have hb5n : b + 5 < 137 := by omega
  obtain ⟨hn1, hn6⟩ := slk_not (T := T) hs
  obtain ⟨c, hc⟩ : ∃ c, (notN T 6 s).1 = c := ⟨_, rfl⟩
  obtain ⟨s1, hs1⟩ : ∃ s1, (notN T 6 s).2 = s1 := ⟨_, rfl⟩
  rw [hc, hs1] at hn1
  rw [hc] at hn6
  have hres : notS T (exprS T l) s = repS (-10) c (testS T (exprS T l) (notM T s1)) := by unfold notS; rw [hc, hs1]
  rw [hres]
  refine Cx.of (by decide) rfl (fun q => by cases q) rfl rfl (Nat.le_of_ble_eq_true rfl) ?_
  show Sx _ _ _ _ _ 0 [some (.ref 41), some (.int (w)), none, none] [] _ _
  have k33 : ∀ E, CRd E0 E T b s1 → Sx mX5_readNot (d + e + 8 + 5) 0 0 (fun o => ∃ E2, o = (.inl none, E2, 137) ∧ CRd E0 E2 T b (repS (-10) c (testS T (exprS T l) (notM T s1)))) 33 [some (.ref 41), some (.int w), some (.int (nI c)), none] [] E 137 := by
    intro E y1
    have hst : slk (1 + c) (testS T (exprS T l) (notM T s1)) := slk_ext (ex_test l _) (slk_notM hn1)
    have loop := sxUp (σ := HP × PS) (S := fun k9 q => Sx mX5_readNot (d + e + 8 + 5) 0 0 (fun o => ∃ E2, o = (.inl none, E2, 137) ∧ CRd E0 E2 T b (repS (-10) (c - k9) q.2)) 57 [some (.ref 41), some (.int w), some (.int (nI c)), some (.int (nI k9))] [] q.1 137) (Inv := fun k9 q => CRd E0 q.1 T b q.2 ∧ slk (1 + (c - k9)) q.2) (a := 0) (l := c) (by omega) ?_ ?_
    · refine Sx.up (fun _ kk => r_aload_n 34 dX5_readNot_33 rfl rfl kk) ?_
      refine Sx.up (fun _ kk => r_getR 37 dX5_readNot_34 rfl f5_19 rfl (by first | with_reducible assumption | with_reducible exact cr_bs hC | rfl) (by first | with_reducible assumption | with_reducible exact cr_bn hC | exact Nat.le_of_ble_eq_true rfl) (rd_tok y1) kk) ?_
      refine Sx.up (fun _ kk => r_ldcS (i := 8) 39 dX5_readNot_37 rfl rfl kk) ?_
      refine Sx.up (fun _ kk => r_callV (M := mX5_readNot) (pc := 39) 42 dX5_readNot_39 rfl k5_72 (rd_word (i := 8) (q := ("SpoonRow$Reader", 206, "not", w_not)) y1 rfl) rfl rfl (by first | with_reducible assumption | with_reducible exact cr_bs hC | rfl) (by decide) rfl (by first | with_reducible assumption | with_reducible exact cr_bn hC | exact Nat.le_of_ble_eq_true rfl) (Nat.le_of_ble_eq_true rfl) kk) ?_
      refine Sx.br (fun _ ka kb => r_if_eq 45 50 dX5_readNot_42 rfl (by decide) ka kb) (by first | exact em1 | exact em2) (fun h42 => ?_) (fun h42 => ?_)
      · have y9 : CRd E0 E T b (notM T s1) := by unfold notM; first | (rw [if_pos (bnz h42)]; exact y1) | (rw [if_neg (bz h42)]; exact y1)
        refine Sx.up (fun _ kk => r_aload_n 51 dX5_readNot_50 rfl rfl kk) ?_
        refine Sx.up (fun _ kk => r_iload_n 52 dX5_readNot_51 rfl rfl kk) ?_
        obtain ⟨_, ⟨E2, rfl, y2⟩, hcl2⟩ := rd_test y9 (slk_mono (by omega) (slk_notM hn1)) hw hl hex
        refine Sx.up (fun _ kk => r_callV (M := mX5_readNot) (pc := 52) 55 dX5_readNot_52 rfl k5_208 hcl2 rfl rfl (by first | with_reducible assumption | with_reducible exact cr_bs hC | rfl) (by decide) rfl (by first | with_reducible assumption | with_reducible exact cr_bn hC | exact Nat.le_of_ble_eq_true rfl) (Nat.le_of_ble_eq_true rfl) kk) ?_
        refine Sx.up (fun _ kk => r_iconst (0) 56 dX5_readNot_55 rfl (by decide) kk) ?_
        refine Sx.up (fun _ kk => r_istore_n 57 dX5_readNot_56 rfl (by decide) rfl kk) ?_
        exact loop (E2, _) ⟨y2, hst⟩
      · refine Sx.up (fun _ kk => r_aload_n 46 dX5_readNot_45 rfl rfl kk) ?_
        refine Sx.up (fun _ kk => r_iconst (2) 47 dX5_readNot_46 rfl (by decide) kk) ?_
        obtain ⟨_, ⟨E3, rfl, y3⟩, hcl3⟩ := rd_refuse (d := d + e + 11) y1 (k := 2) (k9 := 2) rfl (by decide) (by decide)
        refine Sx.up (fun _ kk => r_callV (M := mX5_readNot) (pc := 47) 50 dX5_readNot_47 rfl k5_128 hcl3 rfl rfl (by first | with_reducible assumption | with_reducible exact cr_bs hC | rfl) (by decide) rfl (by first | with_reducible assumption | with_reducible exact cr_bn hC | exact Nat.le_of_ble_eq_true rfl) (Nat.le_of_ble_eq_true rfl) kk) ?_
        have y9 : CRd E0 E3 T b (notM T s1) := by unfold notM; first | (rw [if_pos (bnz h42)]; exact y3) | (rw [if_neg (bz h42)]; exact y3)
        refine Sx.up (fun _ kk => r_aload_n 51 dX5_readNot_50 rfl rfl kk) ?_
        refine Sx.up (fun _ kk => r_iload_n 52 dX5_readNot_51 rfl rfl kk) ?_
        obtain ⟨_, ⟨E4, rfl, y4⟩, hcl4⟩ := rd_test y9 (slk_mono (by omega) (slk_notM hn1)) hw hl hex
        refine Sx.up (fun _ kk => r_callV (M := mX5_readNot) (pc := 52) 55 dX5_readNot_52 rfl k5_208 hcl4 rfl rfl (by first | with_reducible assumption | with_reducible exact cr_bs hC | rfl) (by decide) rfl (by first | with_reducible assumption | with_reducible exact cr_bn hC | exact Nat.le_of_ble_eq_true rfl) (Nat.le_of_ble_eq_true rfl) kk) ?_
        refine Sx.up (fun _ kk => r_iconst (0) 56 dX5_readNot_55 rfl (by decide) kk) ?_
        refine Sx.up (fun _ kk => r_istore_n 57 dX5_readNot_56 rfl (by decide) rfl kk) ?_
        exact loop (E4, _) ⟨y4, hst⟩
    · intro q ⟨y1, hs9⟩
      refine Sx.up (fun _ kk => r_iload_n 58 dX5_readNot_57 rfl rfl kk) ?_
      refine Sx.up (fun _ kk => r_iload_n 59 dX5_readNot_58 rfl rfl kk) ?_
      refine Sx.up (fun _ kk => r_icmp_ge 62 80 dX5_readNot_59 rfl (by decide) (fun _ => kk) (fun h59 => absurd (nI_le (Nat.le_refl _) (by omega)) h59)) ?_
      refine ⟨_, ?_, r_vret dX5_readNot_80 rfl rfl rfl⟩
      exact ⟨_, rfl, by rw [Nat.sub_self]; exact y1⟩
    · intro k9 q hk0 hk9 ⟨y1, hs9⟩ hq
      obtain ⟨E, s⟩ := q
      have y1 : CRd E0 E T b s := y1
      have hs9 : slk (1 + (c - k9)) s := hs9
      have hy : repS (-10) (c - k9) s = repS (-10) (c - (k9 + 1)) (ruS (-10) s) := by rw [show c - k9 = c - (k9 + 1) + 1 by omega]; rfl
      refine Sx.up (fun _ kk => r_iload_n 58 dX5_readNot_57 rfl rfl kk) ?_
      refine Sx.up (fun _ kk => r_iload_n 59 dX5_readNot_58 rfl rfl kk) ?_
      refine Sx.up (fun _ kk => r_icmp_ge 62 80 dX5_readNot_59 rfl (by decide) (fun h59 => absurd h59 (nI_ge hk9 (by omega))) (fun _ => kk)) ?_
      refine Sx.up (fun _ kk => r_aload_n 63 dX5_readNot_62 rfl rfl kk) ?_
      refine Sx.up (fun _ kk => r_getR 66 dX5_readNot_63 rfl f5_35 rfl (by first | with_reducible assumption | with_reducible exact cr_bs hC | rfl) (by first | with_reducible assumption | with_reducible exact cr_bn hC | exact Nat.le_of_ble_eq_true rfl) (rd_into y1) kk) ?_
      refine Sx.up (fun _ kk => r_getR 69 dX5_readNot_66 rfl f5_192 rfl (by first | with_reducible assumption | with_reducible exact cr_bs hC | rfl) (by first | with_reducible assumption | with_reducible exact cr_bn hC | exact Nat.le_of_ble_eq_true rfl) (rd_rule y1) kk) ?_
      refine Sx.up (fun _ kk => r_bipush (-10) 71 dX5_readNot_69 rfl (by decide) kk) ?_
      obtain ⟨_, ⟨E2, rfl, y2⟩, hcl2⟩ := rd_radd (d := d + e + 11) y1 (slk_mono (by omega) hs9)
      refine Sx.up (fun _ kk => r_callV (M := mX5_readNot) (pc := 71) 74 dX5_readNot_71 rfl k5_198 hcl2 rfl rfl (by first | with_reducible assumption | with_reducible exact cr_bs hC | rfl) (by decide) rfl (by first | with_reducible assumption | with_reducible exact cr_bn hC | exact Nat.le_of_ble_eq_true rfl) (Nat.le_of_ble_eq_true rfl) kk) ?_
      refine Sx.up (fun _ kk => r_iinc (1) 77 dX5_readNot_74 rfl rfl (by decide) (by decide) rfl kk) ?_
      refine Sx.up (fun _ kk => r_goto 57 dX5_readNot_77 (by decide) kk) ?_
      rw [hy]
      have hgo := hq (E2, _) ⟨y2, slk_ru (by rw [show 1 + (c - (k9 + 1)) + 1 = 1 + (c - k9) by omega]; exact hs9)⟩
      rw [nI_pp]
      exact hgo
  have loop := sxUp (σ := HP × PS) (S := fun k9 q => Sx mX5_readNot (d + e + 8 + 5) 0 0 (fun o => ∃ E2, o = (.inl none, E2, 137) ∧ CRd E0 E2 T b (repS (-10) c (testS T (exprS T l) (notM T s1)))) 2 [some (.ref 41), some (.int w), some (.int (nI k9)), none] [] q.1 137) (Inv := fun k9 q => CRd E0 q.1 T b q.2 ∧ k9 + (notN T (6 - k9) q.2).1 = c ∧ (notN T (6 - k9) q.2).2 = s1) (a := 0) (l := 6) (by omega) ?_ ?_
  · refine Sx.up (fun _ kk => r_iconst (0) 1 dX5_readNot_0 rfl (by decide) kk) ?_
    refine Sx.up (fun _ kk => r_istore_n 2 dX5_readNot_1 rfl (by decide) rfl kk) ?_
    exact loop (E, s) ⟨y1, by rw [← hc]; show 0 + _ = _; rw [Nat.zero_add], hs1⟩
  · intro q ⟨y1, e1, e2⟩
    have e1 : c = 6 := e1.symm
    have e2 : q.2 = s1 := e2
    refine Sx.up (fun _ kk => r_iload_n 3 dX5_readNot_2 rfl rfl kk) ?_
    refine Sx.up (fun _ kk => r_bipush (6) 5 dX5_readNot_3 rfl (by decide) kk) ?_
    refine Sx.up (fun _ kk => r_icmp_ge 8 33 dX5_readNot_5 rfl (by decide) (fun _ => kk) (fun h5 => absurd (by decide) h5)) ?_
    rw [show nI 6 = nI c by rw [e1]]
    exact k33 q.1 (by rw [← e2]; exact y1)
  · intro k9 q hk0 hk9 ⟨y1, e1, e2⟩ hq
    obtain ⟨E, s⟩ := q
    have y1 : CRd E0 E T b s := y1
    have e1 : k9 + (notN T (6 - k9) s).1 = c := e1
    have e2 : (notN T (6 - k9) s).2 = s1 := e2
    refine Sx.up (fun _ kk => r_iload_n 3 dX5_readNot_2 rfl rfl kk) ?_
    refine Sx.up (fun _ kk => r_bipush (6) 5 dX5_readNot_3 rfl (by decide) kk) ?_
    refine Sx.up (fun _ kk => r_icmp_ge 8 33 dX5_readNot_5 rfl (by decide) (fun h5 => absurd h5 (nI_ge (b := 6) hk9 (by omega))) (fun _ => kk)) ?_
    refine Sx.up (fun _ kk => r_aload_n 9 dX5_readNot_8 rfl rfl kk) ?_
    refine Sx.up (fun _ kk => r_getR 12 dX5_readNot_9 rfl f5_19 rfl (by first | with_reducible assumption | with_reducible exact cr_bs hC | rfl) (by first | with_reducible assumption | with_reducible exact cr_bn hC | exact Nat.le_of_ble_eq_true rfl) (rd_tok y1) kk) ?_
    refine Sx.up (fun _ kk => r_ldcS (i := 8) 14 dX5_readNot_12 rfl rfl kk) ?_
    refine Sx.up (fun _ kk => r_callV (M := mX5_readNot) (pc := 14) 17 dX5_readNot_14 rfl k5_72 (rd_word (i := 8) (q := ("SpoonRow$Reader", 206, "not", w_not)) y1 rfl) rfl rfl (by first | with_reducible assumption | with_reducible exact cr_bs hC | rfl) (by decide) rfl (by first | with_reducible assumption | with_reducible exact cr_bn hC | exact Nat.le_of_ble_eq_true rfl) (Nat.le_of_ble_eq_true rfl) kk) ?_
    refine Sx.br (fun _ ka kb => r_if_eq 20 33 dX5_readNot_17 rfl (by decide) ka kb) (by first | exact em1 | exact em2) (fun h17 => ?_) (fun h17 => ?_)
    · have e3 := not_0 (T := T) (k := 6 - k9) (bz h17)
      rw [e3] at e1 e2
      have e1 : k9 = c := e1
      have e2 : s = s1 := e2
      rw [e1]
      exact k33 E (by rw [← e2]; exact y1)
    · refine Sx.up (fun _ kk => r_aload_n 21 dX5_readNot_20 rfl rfl kk) ?_
      refine Sx.up (fun _ kk => r_getR 24 dX5_readNot_21 rfl f5_19 rfl (by first | with_reducible assumption | with_reducible exact cr_bs hC | rfl) (by first | with_reducible assumption | with_reducible exact cr_bn hC | exact Nat.le_of_ble_eq_true rfl) (rd_tok y1) kk) ?_
      obtain ⟨_, ⟨E2, rfl, y2⟩, hcl2⟩ := rd_adv (d := d + e + 7) y1
      refine Sx.up (fun _ kk => r_callV (M := mX5_readNot) (pc := 24) 27 dX5_readNot_24 rfl k5_131 hcl2 rfl rfl (by first | with_reducible assumption | with_reducible exact cr_bs hC | rfl) (by decide) rfl (by first | with_reducible assumption | with_reducible exact cr_bn hC | exact Nat.le_of_ble_eq_true rfl) (Nat.le_of_ble_eq_true rfl) kk) ?_
      refine Sx.up (fun _ kk => r_iinc (1) 30 dX5_readNot_27 rfl rfl (by decide) (by decide) rfl kk) ?_
      refine Sx.up (fun _ kk => r_goto 2 dX5_readNot_30 (by decide) kk) ?_
      have e3 := not_y (T := T) (k := 6 - (k9 + 1)) (bnz h17)
      rw [show 6 - (k9 + 1) + 1 = 6 - k9 by omega] at e3
      rw [e3] at e1 e2
      have e1 : k9 + ((notN T (6 - (k9 + 1)) (advS T s)).1 + 1) = c := e1
      have hgo := hq (E2, _) ⟨y2, by show k9 + 1 + (notN T (6 - (k9 + 1)) (advS T s)).1 = c; omega, e2⟩
      rw [nI_pp]
      exact hgo
set_option maxHeartbeats 16000000 in
set_option maxRecDepth 20000 in
theorem rd_and {d e l : Nat} {E0 E : HP} {T : TX} {b : Nat} {s : PS} {w : Int32} (y1 : CRd E0 E T b s) (hs : slk 1 s) (hw : w = nI (6 - (l + 1))) (hl : l + 1 ≤ 6) (hex : ∀ {E : HP} {s : PS} {w : Int32}, CRd E0 E T b s → slk 1 s → w = nI (6 - l) → ∃ o, (∃ E2, o = (.inl none, E2, 137) ∧ CRd E0 E2 T b (exprS T l s)) ∧ Cl yX5_readExpr mX5_readExpr (d + e + 8) 0 0 [.ref 41, .int w] E 137 o) : ∃ o, (∃ E2, o = (.inl none, E2, 137) ∧ CRd E0 E2 T b (andS T (exprS T l) s)) ∧ Cl yX5_readAnd mX5_readAnd (d + e + 8 + 6) 0 0 [.ref 41, .int w] E 137 o := by
  have hb := rd_b y1
  have hbs : sh b = (0, 0) := bo_1 (rd_bed y1)
  have hbn : b < 137 := by omega
  have hb5 : sh (b + 5) = (7, 0) := (rd_bed y1).2.2.2.2.2.2.2.2.2.1.1
  have hb5n : b + 5 < 137 := by omega
  have hs0 : slk 1 (notS T (exprS T l) s) := slk_ext (ex_not l s) hs
  refine Cx.of (by decide) rfl (fun q => by cases q) rfl rfl (Nat.le_of_ble_eq_true rfl) ?_
  show Sx _ _ _ _ _ 0 [some (.ref 41), some (.int (w)), none] [] _ _
  have loop := sxUp (σ := HP × PS) (S := fun k9 q => Sx mX5_readAnd (d + e + 8 + 6) 0 0 (fun o => ∃ E2, o = (.inl none, E2, 137) ∧ CRd E0 E2 T b (loopS (wdS T w_and) (andB T (exprS T l)) (600 - k9) q.2)) 7 [some (.ref 41), some (.int w), some (.int (nI k9))] [] q.1 137) (Inv := fun k9 q => CRd E0 q.1 T b q.2 ∧ slk 1 q.2) (a := 0) (l := 600) (by omega) ?_ ?_
  · refine Sx.up (fun _ kk => r_aload_n 1 dX5_readAnd_0 rfl rfl kk) ?_
    refine Sx.up (fun _ kk => r_iload_n 2 dX5_readAnd_1 rfl rfl kk) ?_
    obtain ⟨_, ⟨E2, rfl, y2⟩, hcl2⟩ := rd_not y1 hs hw hl hex
    refine Sx.up (fun _ kk => r_callV (M := mX5_readAnd) (pc := 2) 5 dX5_readAnd_2 rfl k5_201 hcl2 rfl rfl (by first | with_reducible assumption | with_reducible exact cr_bs hC | rfl) (by decide) rfl (by first | with_reducible assumption | with_reducible exact cr_bn hC | exact Nat.le_of_ble_eq_true rfl) (Nat.le_of_ble_eq_true rfl) kk) ?_
    refine Sx.up (fun _ kk => r_iconst (0) 6 dX5_readAnd_5 rfl (by decide) kk) ?_
    refine Sx.up (fun _ kk => r_istore_n 7 dX5_readAnd_6 rfl (by decide) rfl kk) ?_
    exact loop (E2, _) ⟨y2, hs0⟩
  · intro q ⟨y1, hs1⟩
    refine Sx.up (fun _ kk => r_iload_n 8 dX5_readAnd_7 rfl rfl kk) ?_
    refine Sx.up (fun _ kk => r_sipush (600) 11 dX5_readAnd_8 rfl (by decide) kk) ?_
    refine Sx.up (fun _ kk => r_icmp_ge 14 56 dX5_readAnd_11 rfl (by decide) (fun _ => kk) (fun h11 => absurd (by decide) h11)) ?_
    refine ⟨_, ?_, r_vret dX5_readAnd_56 rfl rfl rfl⟩
    exact ⟨_, rfl, y1⟩
  · intro k9 q hk0 hk9 ⟨y1, hs1⟩ hq
    obtain ⟨E, s⟩ := q
    have y1 : CRd E0 E T b s := y1
    have hs1 : slk 1 s := hs1
    obtain ⟨f9, hf9⟩ : ∃ f9, 600 - k9 = f9 + 1 := ⟨600 - k9 - 1, by omega⟩
    have hy : wdS T w_and s = true → loopS (wdS T w_and) (andB T (exprS T l)) (600 - k9) s = loopS (wdS T w_and) (andB T (exprS T l)) (600 - (k9 + 1)) (andB T (exprS T l) s) := fun z => by rw [hf9, show 600 - (k9 + 1) = f9 by omega]; exact if_pos z
    have hn : ¬ wdS T w_and s = true → loopS (wdS T w_and) (andB T (exprS T l)) (600 - k9) s = s := fun z => by rw [hf9]; exact if_neg z
    refine Sx.up (fun _ kk => r_iload_n 8 dX5_readAnd_7 rfl rfl kk) ?_
    refine Sx.up (fun _ kk => r_sipush (600) 11 dX5_readAnd_8 rfl (by decide) kk) ?_
    refine Sx.up (fun _ kk => r_icmp_ge 14 56 dX5_readAnd_11 rfl (by decide) (fun h11 => absurd h11 (nI_ge (b := 600) hk9 (by omega))) (fun _ => kk)) ?_
    refine Sx.up (fun _ kk => r_aload_n 15 dX5_readAnd_14 rfl rfl kk) ?_
    refine Sx.up (fun _ kk => r_getR 18 dX5_readAnd_15 rfl f5_19 rfl (by first | with_reducible assumption | with_reducible exact cr_bs hC | rfl) (by first | with_reducible assumption | with_reducible exact cr_bn hC | exact Nat.le_of_ble_eq_true rfl) (rd_tok y1) kk) ?_
    refine Sx.up (fun _ kk => r_ldcS (i := 16) 20 dX5_readAnd_18 rfl rfl kk) ?_
    refine Sx.up (fun _ kk => r_callV (M := mX5_readAnd) (pc := 20) 23 dX5_readAnd_20 rfl k5_72 (rd_word (i := 16) (q := ("SpoonRow$Reader", 204, "and", w_and)) y1 rfl) rfl rfl (by first | with_reducible assumption | with_reducible exact cr_bs hC | rfl) (by decide) rfl (by first | with_reducible assumption | with_reducible exact cr_bn hC | exact Nat.le_of_ble_eq_true rfl) (Nat.le_of_ble_eq_true rfl) kk) ?_
    refine Sx.br (fun _ ka kb => r_if_eq 26 56 dX5_readAnd_23 rfl (by decide) ka kb) (by first | exact em1 | exact em2) (fun h23 => ?_) (fun h23 => ?_)
    · refine ⟨_, ?_, r_vret dX5_readAnd_56 rfl rfl rfl⟩
      exact ⟨_, rfl, by rw [hn (bz h23)]; exact y1⟩
    · refine Sx.up (fun _ kk => r_aload_n 27 dX5_readAnd_26 rfl rfl kk) ?_
      refine Sx.up (fun _ kk => r_getR 30 dX5_readAnd_27 rfl f5_19 rfl (by first | with_reducible assumption | with_reducible exact cr_bs hC | rfl) (by first | with_reducible assumption | with_reducible exact cr_bn hC | exact Nat.le_of_ble_eq_true rfl) (rd_tok y1) kk) ?_
      have hc : wdS T w_and s = true := bnz h23
      obtain ⟨_, ⟨E2, rfl, y2⟩, hcl2⟩ := rd_adv (d := d + e + 8) y1
      refine Sx.up (fun _ kk => r_callV (M := mX5_readAnd) (pc := 30) 33 dX5_readAnd_30 rfl k5_131 hcl2 rfl rfl (by first | with_reducible assumption | with_reducible exact cr_bs hC | rfl) (by decide) rfl (by first | with_reducible assumption | with_reducible exact cr_bn hC | exact Nat.le_of_ble_eq_true rfl) (Nat.le_of_ble_eq_true rfl) kk) ?_
      refine Sx.up (fun _ kk => r_aload_n 34 dX5_readAnd_33 rfl rfl kk) ?_
      refine Sx.up (fun _ kk => r_iload_n 35 dX5_readAnd_34 rfl rfl kk) ?_
      obtain ⟨_, ⟨E3, rfl, y3⟩, hcl3⟩ := rd_not y2 (slk_mono (by decide) (slk_adv (liv_wd hc) hs1)) hw hl hex
      refine Sx.up (fun _ kk => r_callV (M := mX5_readAnd) (pc := 35) 38 dX5_readAnd_35 rfl k5_201 hcl3 rfl rfl (by first | with_reducible assumption | with_reducible exact cr_bs hC | rfl) (by decide) rfl (by first | with_reducible assumption | with_reducible exact cr_bn hC | exact Nat.le_of_ble_eq_true rfl) (Nat.le_of_ble_eq_true rfl) kk) ?_
      refine Sx.up (fun _ kk => r_aload_n 39 dX5_readAnd_38 rfl rfl kk) ?_
      refine Sx.up (fun _ kk => r_getR 42 dX5_readAnd_39 rfl f5_35 rfl (by first | with_reducible assumption | with_reducible exact cr_bs hC | rfl) (by first | with_reducible assumption | with_reducible exact cr_bn hC | exact Nat.le_of_ble_eq_true rfl) (rd_into y3) kk) ?_
      refine Sx.up (fun _ kk => r_getR 45 dX5_readAnd_42 rfl f5_192 rfl (by first | with_reducible assumption | with_reducible exact cr_bs hC | rfl) (by first | with_reducible assumption | with_reducible exact cr_bn hC | exact Nat.le_of_ble_eq_true rfl) (rd_rule y3) kk) ?_
      refine Sx.up (fun _ kk => r_bipush (-9) 47 dX5_readAnd_45 rfl (by decide) kk) ?_
      obtain ⟨_, ⟨E4, rfl, y4⟩, hcl4⟩ := rd_radd (d := d + e + 12) y3 (slk_mono (by decide) (slk_ext (ex_not l _) (slk_adv (liv_wd hc) hs1)))
      refine Sx.up (fun _ kk => r_callV (M := mX5_readAnd) (pc := 47) 50 dX5_readAnd_47 rfl k5_198 hcl4 rfl rfl (by first | with_reducible assumption | with_reducible exact cr_bs hC | rfl) (by decide) rfl (by first | with_reducible assumption | with_reducible exact cr_bn hC | exact Nat.le_of_ble_eq_true rfl) (Nat.le_of_ble_eq_true rfl) kk) ?_
      refine Sx.up (fun _ kk => r_iinc (1) 53 dX5_readAnd_50 rfl rfl (by decide) (by decide) rfl kk) ?_
      refine Sx.up (fun _ kk => r_goto 7 dX5_readAnd_53 (by decide) kk) ?_
      rw [hy hc]
      have hgo := hq (E4, andB T (exprS T l) s) ⟨y4, slk_ru (slk_ext (ex_not l _) (slk_adv (liv_wd hc) hs1))⟩
      rw [nI_pp]
      exact hgo
set_option maxHeartbeats 16000000 in
set_option maxRecDepth 20000 in
theorem rd_or {d e l : Nat} {E0 E : HP} {T : TX} {b : Nat} {s : PS} {w : Int32} (y1 : CRd E0 E T b s) (hs : slk 1 s) (hw : w = nI (6 - (l + 1))) (hl : l + 1 ≤ 6) (hex : ∀ {E : HP} {s : PS} {w : Int32}, CRd E0 E T b s → slk 1 s → w = nI (6 - l) → ∃ o, (∃ E2, o = (.inl none, E2, 137) ∧ CRd E0 E2 T b (exprS T l s)) ∧ Cl yX5_readExpr mX5_readExpr (d + e + 8) 0 0 [.ref 41, .int w] E 137 o) : ∃ o, (∃ E2, o = (.inl none, E2, 137) ∧ CRd E0 E2 T b (orS T (exprS T l) s)) ∧ Cl yX5_readExpr mX5_readExpr (d + e + 8 + 7) 0 0 [.ref 41, .int w] E 137 o := by
  have hb := rd_b y1
  have hbs : sh b = (0, 0) := bo_1 (rd_bed y1)
  have hbn : b < 137 := by omega
  have hb5 : sh (b + 5) = (7, 0) := (rd_bed y1).2.2.2.2.2.2.2.2.2.1.1
  have hb5n : b + 5 < 137 := by omega
  have hs0 : slk 1 (andS T (exprS T l) s) := slk_ext (ex_and l s) hs
  refine Cx.of (by decide) rfl (fun q => by cases q) rfl rfl (Nat.le_of_ble_eq_true rfl) ?_
  show Sx _ _ _ _ _ 0 [some (.ref 41), some (.int (w)), none] [] _ _
  have loop := sxUp (σ := HP × PS) (S := fun k9 q => Sx mX5_readExpr (d + e + 8 + 7) 0 0 (fun o => ∃ E2, o = (.inl none, E2, 137) ∧ CRd E0 E2 T b (loopS (wdS T w_or) (orB T (exprS T l)) (600 - k9) q.2)) 30 [some (.ref 41), some (.int w), some (.int (nI k9))] [] q.1 137) (Inv := fun k9 q => CRd E0 q.1 T b q.2 ∧ slk 1 q.2) (a := 0) (l := 600) (by omega) ?_ ?_
  · refine Sx.up (fun _ kk => r_iload_n 1 dX5_readExpr_0 rfl rfl kk) ?_
    refine Sx.up (fun _ kk => r_bipush (6) 3 dX5_readExpr_1 rfl (by decide) kk) ?_
    refine Sx.up (fun _ kk => r_icmp_lt 6 23 dX5_readExpr_3 rfl (by decide) (fun _ => kk) (fun h3 => absurd (by rw [hw]; exact nI_lt (b := 6) (by omega) (by omega)) h3)) ?_
    refine Sx.up (fun _ kk => r_aload_n 24 dX5_readExpr_23 rfl rfl kk) ?_
    refine Sx.up (fun _ kk => r_iload_n 25 dX5_readExpr_24 rfl rfl kk) ?_
    obtain ⟨_, ⟨E2, rfl, y2⟩, hcl2⟩ := rd_and y1 hs hw hl hex
    refine Sx.up (fun _ kk => r_callV (M := mX5_readExpr) (pc := 25) 28 dX5_readExpr_25 rfl k5_187 hcl2 rfl rfl (by first | with_reducible assumption | with_reducible exact cr_bs hC | rfl) (by decide) rfl (by first | with_reducible assumption | with_reducible exact cr_bn hC | exact Nat.le_of_ble_eq_true rfl) (Nat.le_of_ble_eq_true rfl) kk) ?_
    refine Sx.up (fun _ kk => r_iconst (0) 29 dX5_readExpr_28 rfl (by decide) kk) ?_
    refine Sx.up (fun _ kk => r_istore_n 30 dX5_readExpr_29 rfl (by decide) rfl kk) ?_
    exact loop (E2, _) ⟨y2, hs0⟩
  · intro q ⟨y1, hs1⟩
    refine Sx.up (fun _ kk => r_iload_n 31 dX5_readExpr_30 rfl rfl kk) ?_
    refine Sx.up (fun _ kk => r_sipush (600) 34 dX5_readExpr_31 rfl (by decide) kk) ?_
    refine Sx.up (fun _ kk => r_icmp_ge 37 79 dX5_readExpr_34 rfl (by decide) (fun _ => kk) (fun h34 => absurd (by decide) h34)) ?_
    refine ⟨_, ?_, r_vret dX5_readExpr_79 rfl rfl rfl⟩
    exact ⟨_, rfl, y1⟩
  · intro k9 q hk0 hk9 ⟨y1, hs1⟩ hq
    obtain ⟨E, s⟩ := q
    have y1 : CRd E0 E T b s := y1
    have hs1 : slk 1 s := hs1
    obtain ⟨f9, hf9⟩ : ∃ f9, 600 - k9 = f9 + 1 := ⟨600 - k9 - 1, by omega⟩
    have hy : wdS T w_or s = true → loopS (wdS T w_or) (orB T (exprS T l)) (600 - k9) s = loopS (wdS T w_or) (orB T (exprS T l)) (600 - (k9 + 1)) (orB T (exprS T l) s) := fun z => by rw [hf9, show 600 - (k9 + 1) = f9 by omega]; exact if_pos z
    have hn : ¬ wdS T w_or s = true → loopS (wdS T w_or) (orB T (exprS T l)) (600 - k9) s = s := fun z => by rw [hf9]; exact if_neg z
    refine Sx.up (fun _ kk => r_iload_n 31 dX5_readExpr_30 rfl rfl kk) ?_
    refine Sx.up (fun _ kk => r_sipush (600) 34 dX5_readExpr_31 rfl (by decide) kk) ?_
    refine Sx.up (fun _ kk => r_icmp_ge 37 79 dX5_readExpr_34 rfl (by decide) (fun h34 => absurd h34 (nI_ge (b := 600) hk9 (by omega))) (fun _ => kk)) ?_
    refine Sx.up (fun _ kk => r_aload_n 38 dX5_readExpr_37 rfl rfl kk) ?_
    refine Sx.up (fun _ kk => r_getR 41 dX5_readExpr_38 rfl f5_19 rfl (by first | with_reducible assumption | with_reducible exact cr_bs hC | rfl) (by first | with_reducible assumption | with_reducible exact cr_bn hC | exact Nat.le_of_ble_eq_true rfl) (rd_tok y1) kk) ?_
    refine Sx.up (fun _ kk => r_ldcS (i := 17) 43 dX5_readExpr_41 rfl rfl kk) ?_
    refine Sx.up (fun _ kk => r_callV (M := mX5_readExpr) (pc := 43) 46 dX5_readExpr_43 rfl k5_72 (rd_word (i := 17) (q := ("SpoonRow$Reader", 190, "or", w_or)) y1 rfl) rfl rfl (by first | with_reducible assumption | with_reducible exact cr_bs hC | rfl) (by decide) rfl (by first | with_reducible assumption | with_reducible exact cr_bn hC | exact Nat.le_of_ble_eq_true rfl) (Nat.le_of_ble_eq_true rfl) kk) ?_
    refine Sx.br (fun _ ka kb => r_if_eq 49 79 dX5_readExpr_46 rfl (by decide) ka kb) (by first | exact em1 | exact em2) (fun h46 => ?_) (fun h46 => ?_)
    · refine ⟨_, ?_, r_vret dX5_readExpr_79 rfl rfl rfl⟩
      exact ⟨_, rfl, by rw [hn (bz h46)]; exact y1⟩
    · refine Sx.up (fun _ kk => r_aload_n 50 dX5_readExpr_49 rfl rfl kk) ?_
      refine Sx.up (fun _ kk => r_getR 53 dX5_readExpr_50 rfl f5_19 rfl (by first | with_reducible assumption | with_reducible exact cr_bs hC | rfl) (by first | with_reducible assumption | with_reducible exact cr_bn hC | exact Nat.le_of_ble_eq_true rfl) (rd_tok y1) kk) ?_
      have hc : wdS T w_or s = true := bnz h46
      obtain ⟨_, ⟨E2, rfl, y2⟩, hcl2⟩ := rd_adv (d := d + e + 9) y1
      refine Sx.up (fun _ kk => r_callV (M := mX5_readExpr) (pc := 53) 56 dX5_readExpr_53 rfl k5_131 hcl2 rfl rfl (by first | with_reducible assumption | with_reducible exact cr_bs hC | rfl) (by decide) rfl (by first | with_reducible assumption | with_reducible exact cr_bn hC | exact Nat.le_of_ble_eq_true rfl) (Nat.le_of_ble_eq_true rfl) kk) ?_
      refine Sx.up (fun _ kk => r_aload_n 57 dX5_readExpr_56 rfl rfl kk) ?_
      refine Sx.up (fun _ kk => r_iload_n 58 dX5_readExpr_57 rfl rfl kk) ?_
      obtain ⟨_, ⟨E3, rfl, y3⟩, hcl3⟩ := rd_and y2 (slk_mono (by decide) (slk_adv (liv_wd hc) hs1)) hw hl hex
      refine Sx.up (fun _ kk => r_callV (M := mX5_readExpr) (pc := 58) 61 dX5_readExpr_58 rfl k5_187 hcl3 rfl rfl (by first | with_reducible assumption | with_reducible exact cr_bs hC | rfl) (by decide) rfl (by first | with_reducible assumption | with_reducible exact cr_bn hC | exact Nat.le_of_ble_eq_true rfl) (Nat.le_of_ble_eq_true rfl) kk) ?_
      refine Sx.up (fun _ kk => r_aload_n 62 dX5_readExpr_61 rfl rfl kk) ?_
      refine Sx.up (fun _ kk => r_getR 65 dX5_readExpr_62 rfl f5_35 rfl (by first | with_reducible assumption | with_reducible exact cr_bs hC | rfl) (by first | with_reducible assumption | with_reducible exact cr_bn hC | exact Nat.le_of_ble_eq_true rfl) (rd_into y3) kk) ?_
      refine Sx.up (fun _ kk => r_getR 68 dX5_readExpr_65 rfl f5_192 rfl (by first | with_reducible assumption | with_reducible exact cr_bs hC | rfl) (by first | with_reducible assumption | with_reducible exact cr_bn hC | exact Nat.le_of_ble_eq_true rfl) (rd_rule y3) kk) ?_
      refine Sx.up (fun _ kk => r_bipush (-8) 70 dX5_readExpr_68 rfl (by decide) kk) ?_
      obtain ⟨_, ⟨E4, rfl, y4⟩, hcl4⟩ := rd_radd (d := d + e + 13) y3 (slk_mono (by decide) (slk_ext (ex_and l _) (slk_adv (liv_wd hc) hs1)))
      refine Sx.up (fun _ kk => r_callV (M := mX5_readExpr) (pc := 70) 73 dX5_readExpr_70 rfl k5_198 hcl4 rfl rfl (by first | with_reducible assumption | with_reducible exact cr_bs hC | rfl) (by decide) rfl (by first | with_reducible assumption | with_reducible exact cr_bn hC | exact Nat.le_of_ble_eq_true rfl) (Nat.le_of_ble_eq_true rfl) kk) ?_
      refine Sx.up (fun _ kk => r_iinc (1) 76 dX5_readExpr_73 rfl rfl (by decide) (by decide) rfl kk) ?_
      refine Sx.up (fun _ kk => r_goto 30 dX5_readExpr_76 (by decide) kk) ?_
      rw [hy hc]
      have hgo := hq (E4, orB T (exprS T l) s) ⟨y4, slk_ru (slk_ext (ex_and l _) (slk_adv (liv_wd hc) hs1))⟩
      rw [nI_pp]
      exact hgo
set_option maxRecDepth 20000 in
theorem rd_may {d : Nat} {E0 E : HP} {T : TX} {b : Nat} {s : PS} (y1 : CRd E0 E T b s) : Cl yX5_canBeginPart mX5_canBeginPart (d + 2) 0 0 [.ref 41] E 137 (.inl (some (.int (bI (mayS T s)))), E, 137) := by
  have hb := rd_b y1
  have hbs : sh b = (0, 0) := bo_1 (rd_bed y1)
  have hbn : b < 137 := by omega
  have hb5 : sh (b + 5) = (7, 0) := (rd_bed y1).2.2.2.2.2.2.2.2.2.1.1
  have hb5n : b + 5 < 137 := by omega
  have hk2 := rd_kind (k := 2) y1 (by decide) (by decide)
  have hk1 := rd_kind (k := 1) y1 (by decide) (by decide)
  refine Cl.of (by decide) rfl (fun q => by cases q) rfl rfl (Nat.le_of_ble_eq_true rfl) ?_
  show Sm _ _ _ _ _ 0 [some (.ref 41)] [] _ _
  refine r_aload_n 1 dX5_canBeginPart_0 rfl rfl ?_
  refine r_getR 4 dX5_canBeginPart_1 rfl f5_19 rfl (by first | with_reducible assumption | with_reducible exact cr_bs hC | rfl) (by first | with_reducible assumption | with_reducible exact cr_bn hC | exact Nat.le_of_ble_eq_true rfl) (rd_tok y1) ?_
  refine r_getI 7 dX5_canBeginPart_4 rfl f5_48 rfl (by first | with_reducible assumption | with_reducible exact cr_bs hC | rfl) (by first | with_reducible assumption | with_reducible exact cr_bn hC | exact Nat.le_of_ble_eq_true rfl) ?_
  refine r_iconst (2) 8 dX5_canBeginPart_7 rfl (by decide) ?_
  refine r_icmp_eq 11 34 dX5_canBeginPart_8 rfl (by decide) (fun h8 => ?_) (fun h8 => ?_)
  · refine r_iconst (1) 35 dX5_canBeginPart_34 rfl (by decide) ?_
    refine r_goto 39 dX5_canBeginPart_35 (by decide) ?_
    exact r_zret dX5_canBeginPart_39 rfl rfl (by decide) (out_eq (by first | exact bI_t (by unfold mayS; rw [hk2.mp h8]; rfl) | exact bI_t (by unfold mayS; rw [hk1.mp h19, Bool.or_true]; rfl) | exact bI_t (by unfold mayS; rw [bnz h31, Bool.or_true]) | exact bI_f (fun z => by unfold mayS at z; rw [Bool.or_eq_true, Bool.or_eq_true] at z; exact z.elim (fun z => z.elim (fun z => h8 (hk2.mpr z)) (fun z => h19 (hk1.mpr z))) (bz h31))))
  · refine r_aload_n 12 dX5_canBeginPart_11 rfl rfl ?_
    refine r_getR 15 dX5_canBeginPart_12 rfl f5_19 rfl (by first | with_reducible assumption | with_reducible exact cr_bs hC | rfl) (by first | with_reducible assumption | with_reducible exact cr_bn hC | exact Nat.le_of_ble_eq_true rfl) (rd_tok y1) ?_
    refine r_getI 18 dX5_canBeginPart_15 rfl f5_48 rfl (by first | with_reducible assumption | with_reducible exact cr_bs hC | rfl) (by first | with_reducible assumption | with_reducible exact cr_bn hC | exact Nat.le_of_ble_eq_true rfl) ?_
    refine r_iconst (1) 19 dX5_canBeginPart_18 rfl (by decide) ?_
    refine r_icmp_eq 22 34 dX5_canBeginPart_19 rfl (by decide) (fun h19 => ?_) (fun h19 => ?_)
    · refine r_iconst (1) 35 dX5_canBeginPart_34 rfl (by decide) ?_
      refine r_goto 39 dX5_canBeginPart_35 (by decide) ?_
      exact r_zret dX5_canBeginPart_39 rfl rfl (by decide) (out_eq (by first | exact bI_t (by unfold mayS; rw [hk2.mp h8]; rfl) | exact bI_t (by unfold mayS; rw [hk1.mp h19, Bool.or_true]; rfl) | exact bI_t (by unfold mayS; rw [bnz h31, Bool.or_true]) | exact bI_f (fun z => by unfold mayS at z; rw [Bool.or_eq_true, Bool.or_eq_true] at z; exact z.elim (fun z => z.elim (fun z => h8 (hk2.mpr z)) (fun z => h19 (hk1.mpr z))) (bz h31))))
    · refine r_aload_n 23 dX5_canBeginPart_22 rfl rfl ?_
      refine r_getR 26 dX5_canBeginPart_23 rfl f5_19 rfl (by first | with_reducible assumption | with_reducible exact cr_bs hC | rfl) (by first | with_reducible assumption | with_reducible exact cr_bn hC | exact Nat.le_of_ble_eq_true rfl) (rd_tok y1) ?_
      refine r_bipush (40) 28 dX5_canBeginPart_26 rfl (by decide) ?_
      refine r_callV (M := mX5_canBeginPart) (pc := 28) 31 dX5_canBeginPart_28 rfl k5_141 (rd_sign (d := d) y1) rfl rfl (by first | with_reducible assumption | with_reducible exact cr_bs hC | rfl) (by decide) rfl (by first | with_reducible assumption | with_reducible exact cr_bn hC | exact Nat.le_of_ble_eq_true rfl) (Nat.le_of_ble_eq_true rfl) ?_
      refine r_if_eq 34 38 dX5_canBeginPart_31 rfl (by decide) (fun h31 => ?_) (fun h31 => ?_)
      · refine r_iconst (0) 39 dX5_canBeginPart_38 rfl (by decide) ?_
        exact r_zret dX5_canBeginPart_39 rfl rfl (by decide) (out_eq (by first | exact bI_t (by unfold mayS; rw [hk2.mp h8]; rfl) | exact bI_t (by unfold mayS; rw [hk1.mp h19, Bool.or_true]; rfl) | exact bI_t (by unfold mayS; rw [bnz h31, Bool.or_true]) | exact bI_f (fun z => by unfold mayS at z; rw [Bool.or_eq_true, Bool.or_eq_true] at z; exact z.elim (fun z => z.elim (fun z => h8 (hk2.mpr z)) (fun z => h19 (hk1.mpr z))) (bz h31))))
      · refine r_iconst (1) 35 dX5_canBeginPart_34 rfl (by decide) ?_
        refine r_goto 39 dX5_canBeginPart_35 (by decide) ?_
        exact r_zret dX5_canBeginPart_39 rfl rfl (by decide) (out_eq (by first | exact bI_t (by unfold mayS; rw [hk2.mp h8]; rfl) | exact bI_t (by unfold mayS; rw [hk1.mp h19, Bool.or_true]; rfl) | exact bI_t (by unfold mayS; rw [bnz h31, Bool.or_true]) | exact bI_f (fun z => by unfold mayS at z; rw [Bool.or_eq_true, Bool.or_eq_true] at z; exact z.elim (fun z => z.elim (fun z => h8 (hk2.mpr z)) (fun z => h19 (hk1.mpr z))) (bz h31))))
set_option maxRecDepth 20000 in
theorem rd_expr0 {d : Nat} {E0 E : HP} {T : TX} {b : Nat} {s : PS} {w : Int32} (y1 : CRd E0 E T b s) (hw : w = nI 6) : ∃ o, (∃ E2, o = (.inl none, E2, 137) ∧ CRd E0 E2 T b (exprS T 0 s)) ∧ Cl yX5_readExpr mX5_readExpr (d + 8) 0 0 [.ref 41, .int w] E 137 o := by
  have hb := rd_b y1
  have hbs : sh b = (0, 0) := bo_1 (rd_bed y1)
  have hbn : b < 137 := by omega
  have hb5 : sh (b + 5) = (7, 0) := (rd_bed y1).2.2.2.2.2.2.2.2.2.1.1
  have hb5n : b + 5 < 137 := by omega
  refine Cx.of (by decide) rfl (fun q => by cases q) rfl rfl (Nat.le_of_ble_eq_true rfl) ?_
  show Sx _ _ _ _ _ 0 [some (.ref 41), some (.int (w)), none] [] _ _
  refine Sx.up (fun _ kk => r_iload_n 1 dX5_readExpr_0 rfl rfl kk) ?_
  refine Sx.up (fun _ kk => r_bipush (6) 3 dX5_readExpr_1 rfl (by decide) kk) ?_
  refine Sx.up (fun _ kk => r_icmp_lt 6 23 dX5_readExpr_3 rfl (by decide) (fun h3 => absurd h3 (by rw [hw]; exact nI_nlt (Nat.le_refl 6) (by omega))) (fun _ => kk)) ?_
  refine Sx.up (fun _ kk => r_aload_n 7 dX5_readExpr_6 rfl rfl kk) ?_
  refine Sx.up (fun _ kk => r_aload_n 8 dX5_readExpr_7 rfl rfl kk) ?_
  refine Sx.up (fun _ kk => r_callV (M := mX5_readExpr) (pc := 8) 11 dX5_readExpr_8 rfl k5_183 (rd_may (d := d + 5) y1) rfl rfl (by first | with_reducible assumption | with_reducible exact cr_bs hC | rfl) (by decide) rfl (by first | with_reducible assumption | with_reducible exact cr_bn hC | exact Nat.le_of_ble_eq_true rfl) (Nat.le_of_ble_eq_true rfl) kk) ?_
  refine Sx.br (fun _ ka kb => r_if_eq 14 18 dX5_readExpr_11 rfl (by decide) ka kb) (by first | exact em1 | exact em2) (fun h11 => ?_) (fun h11 => ?_)
  · refine Sx.up (fun _ kk => r_iconst (1) 19 dX5_readExpr_18 rfl (by decide) kk) ?_
    obtain ⟨_, ⟨E2, rfl, y2⟩, hcl2⟩ := rd_refuse (d := d + 6) (k9 := if mayS T s = true then 2 else 1) y1 (by first | (rw [if_pos (bnz h11)] <;> rfl) | (rw [if_neg (bz h11)] <;> rfl)) (by split <;> decide) (by split <;> decide)
    refine Sx.up (fun _ kk => r_callV (M := mX5_readExpr) (pc := 19) 22 dX5_readExpr_19 rfl k5_128 hcl2 rfl rfl (by first | with_reducible assumption | with_reducible exact cr_bs hC | rfl) (by decide) rfl (by first | with_reducible assumption | with_reducible exact cr_bn hC | exact Nat.le_of_ble_eq_true rfl) (Nat.le_of_ble_eq_true rfl) kk) ?_
    refine ⟨_, ?_, r_vret dX5_readExpr_22 rfl rfl rfl⟩
    exact ⟨_, rfl, y2⟩
  · refine Sx.up (fun _ kk => r_iconst (2) 15 dX5_readExpr_14 rfl (by decide) kk) ?_
    refine Sx.up (fun _ kk => r_goto 19 dX5_readExpr_15 (by decide) kk) ?_
    obtain ⟨_, ⟨E3, rfl, y3⟩, hcl3⟩ := rd_refuse (d := d + 6) (k9 := if mayS T s = true then 2 else 1) y1 (by first | (rw [if_pos (bnz h11)] <;> rfl) | (rw [if_neg (bz h11)] <;> rfl)) (by split <;> decide) (by split <;> decide)
    refine Sx.up (fun _ kk => r_callV (M := mX5_readExpr) (pc := 19) 22 dX5_readExpr_19 rfl k5_128 hcl3 rfl rfl (by first | with_reducible assumption | with_reducible exact cr_bs hC | rfl) (by decide) rfl (by first | with_reducible assumption | with_reducible exact cr_bn hC | exact Nat.le_of_ble_eq_true rfl) (Nat.le_of_ble_eq_true rfl) kk) ?_
    refine ⟨_, ?_, r_vret dX5_readExpr_22 rfl rfl rfl⟩
    exact ⟨_, rfl, y3⟩
theorem rd_expr {d : Nat} {E0 : HP} {T : TX} {b : Nat} : ∀ l, l ≤ 6 → ∀ {E : HP} {s : PS} {w : Int32}, CRd E0 E T b s → slk 1 s → w = nI (6 - l) → ∃ o, (∃ E2, o = (.inl none, E2, 137) ∧ CRd E0 E2 T b (exprS T l s)) ∧ Cl yX5_readExpr mX5_readExpr (d + 7 * l + 8) 0 0 [.ref 41, .int w] E 137 o := by
  intro l
  induction l with
  | zero => intro _ E s w y1 _ hw; exact rd_expr0 (d := d) y1 hw
  | succ l ih =>
    intro hl E s w y1 hs hw
    rw [show d + 7 * (l + 1) + 8 = d + 7 * l + 8 + 7 by omega]
    exact rd_or y1 hs hw hl (fun y1 hs hw => ih (by omega) y1 hs hw)
