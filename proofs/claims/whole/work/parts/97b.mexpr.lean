/-! mexpr, further on -/
set_option maxHeartbeats 16000000 in
set_option maxRecDepth 20000 in
theorem md_or {d e l : Nat} {E0 E : HP} {T : TX} {s : PS} {w : Int32} (y1 : CMd E0 E T s) (hs : slk 1 s) (hw : w = nI (6 - (l + 1))) (hl : l + 1 ≤ 6) (hex : ∀ {E : HP} {s : PS} {w : Int32}, CMd E0 E T s → slk 1 s → w = nI (6 - l) → ∃ o, (∃ E2, o = (.inl none, E2, 137) ∧ CMd E0 E2 T (exprS T l s)) ∧ Cl yX12_readExpression mX12_readExpression (d + e + 8) 0 0 [.ref 95, .int w] E 137 o) : ∃ o, (∃ E2, o = (.inl none, E2, 137) ∧ CMd E0 E2 T (exprS T (l + 1) s)) ∧ Cl yX12_readExpression mX12_readExpression (d + e + 8 + 6) 0 0 [.ref 95, .int w] E 137 o := by
  have hTx := md_T y1
  have hs0 : ∀ t, slk 1 t → slk 1 (andS T (exprS T l) t) := fun t ht => slk_ext (ex_and l t) ht
  refine Cx.of (by decide) rfl (fun q => by cases q) rfl rfl (Nat.le_of_ble_eq_true rfl) ?_
  show Sx _ _ _ _ _ 0 [some (.ref 95), some (.int (w)), none] [] _ _
  have loop : ∀ f, f ≤ 600 → ∀ E s x8, CMd E0 E T s → slk 1 s → aft (600 - f) s → Sx mX12_readExpression (d + e + 8 + 6) 0 0 (fun o => ∃ E2, o = (.inl none, E2, 137) ∧ CMd E0 E2 T (loopS (wdS T w_or) (orB T (exprS T l)) f s)) 67 [some (.ref 95), some (.int w), x8] [] E 137 := by
    intro f
    induction f with
    | zero =>
      intro _ E s x8 y1 hs1 ha
      have hn1 := aft_wd (T := T) (w := w_or) hTx ha
      refine Sx.up (fun _ kk => r_aload_n 68 dX12_readExpression_67 rfl rfl kk) ?_
      refine Sx.up (fun _ kk => r_ldcwS (i := 38) 71 dX12_readExpression_68 rfl rfl kk) ?_
      refine Sx.up (fun _ kk => r_callV (M := mX12_readExpression) (pc := 71) 74 dX12_readExpression_71 rfl k12_222 (md_is (d := d + e + 9) (i := 38) (q := ("SpoonRowModel", 274, "or", w_or)) y1 rfl) rfl rfl rfl (by decide) rfl lt95 (Nat.le_of_ble_eq_true rfl) kk) ?_
      refine Sx.up (fun _ kk => r_if_eq 77 95 dX12_readExpression_74 rfl (by decide) (fun _ => kk) (fun h74 => absurd (bI_f hn1) h74)) ?_
      refine ⟨_, ?_, r_vret dX12_readExpression_95 rfl rfl rfl⟩
      exact ⟨_, rfl, y1⟩
    | succ f ih =>
      intro hf E s x8 y1 hs1 ha
      by_cases hc : wdS T w_or s = true
      · have hy : loopS (wdS T w_or) (orB T (exprS T l)) (f + 1) s = loopS (wdS T w_or) (orB T (exprS T l)) f (orB T (exprS T l) s) := if_pos hc
        rw [hy]
        refine Sx.up (fun _ kk => r_aload_n 68 dX12_readExpression_67 rfl rfl kk) ?_
        refine Sx.up (fun _ kk => r_ldcwS (i := 38) 71 dX12_readExpression_68 rfl rfl kk) ?_
        refine Sx.up (fun _ kk => r_callV (M := mX12_readExpression) (pc := 71) 74 dX12_readExpression_71 rfl k12_222 (md_is (d := d + e + 9) (i := 38) (q := ("SpoonRowModel", 274, "or", w_or)) y1 rfl) rfl rfl rfl (by decide) rfl lt95 (Nat.le_of_ble_eq_true rfl) kk) ?_
        refine Sx.up (fun _ kk => r_if_eq 77 95 dX12_readExpression_74 rfl (by decide) (fun h74 => absurd h74 (by rw [bI_t hc]; decide)) (fun _ => kk)) ?_
        refine Sx.up (fun _ kk => r_aload_n 78 dX12_readExpression_77 rfl rfl kk) ?_
        obtain ⟨_, ⟨E2, rfl, y2⟩, hcl2⟩ := md_adv (d := d + e + 12) y1 (lv_liv (liv_wd hc))
        refine Sx.up (fun _ kk => r_callV (M := mX12_readExpression) (pc := 78) 81 dX12_readExpression_78 rfl k12_233 hcl2 rfl rfl rfl (by decide) rfl lt95 (Nat.le_of_ble_eq_true rfl) kk) ?_
        refine Sx.up (fun _ kk => r_aload_n 82 dX12_readExpression_81 rfl rfl kk) ?_
        refine Sx.up (fun _ kk => r_iload_n 83 dX12_readExpression_82 rfl rfl kk) ?_
        obtain ⟨_, ⟨E3, rfl, y3⟩, hcl3⟩ := md_and y2 (slk_mono (by decide) (slk_adv (liv_wd hc) hs1)) hw hl hex
        refine Sx.up (fun _ kk => r_callV (M := mX12_readExpression) (pc := 83) 86 dX12_readExpression_83 rfl k12_271 hcl3 rfl rfl rfl (by decide) rfl lt95 (Nat.le_of_ble_eq_true rfl) kk) ?_
        refine Sx.up (fun _ kk => r_aload_n 87 dX12_readExpression_86 rfl rfl kk) ?_
        refine Sx.up (fun _ kk => r_bipush (-27) 89 dX12_readExpression_87 rfl (by decide) kk) ?_
        obtain ⟨_, ⟨E4, rfl, y4⟩, hcl4⟩ := md_lay (d := d + e + 13) (v := -27) (x := -8) y3 (slk_mono (by decide) (slk_ext (ex_and l _) (slk_adv (liv_wd hc) hs1))) (fun q z => by decide)
        refine Sx.up (fun _ kk => r_callV (M := mX12_readExpression) (pc := 89) 92 dX12_readExpression_89 rfl k12_242 hcl4 rfl rfl rfl (by decide) rfl lt95 (Nat.le_of_ble_eq_true rfl) kk) ?_
        refine Sx.up (fun _ kk => r_goto 67 dX12_readExpression_92 (by decide) kk) ?_
        exact ih (by omega) _ _ x8 y4 (slk_ru (slk_ext (ex_and l _) (slk_adv (liv_wd hc) hs1))) (by have h9 : aft (600 - f) (orB T (exprS T l) s) := aft_ru (aft_ext (ex_and l _) (aft_mono (by omega) (aft_adv (liv_wd hc) ha))); exact h9)
      · refine Sx.up (fun _ kk => r_aload_n 68 dX12_readExpression_67 rfl rfl kk) ?_
        refine Sx.up (fun _ kk => r_ldcwS (i := 38) 71 dX12_readExpression_68 rfl rfl kk) ?_
        refine Sx.up (fun _ kk => r_callV (M := mX12_readExpression) (pc := 71) 74 dX12_readExpression_71 rfl k12_222 (md_is (d := d + e + 9) (i := 38) (q := ("SpoonRowModel", 274, "or", w_or)) y1 rfl) rfl rfl rfl (by decide) rfl lt95 (Nat.le_of_ble_eq_true rfl) kk) ?_
        refine Sx.up (fun _ kk => r_if_eq 77 95 dX12_readExpression_74 rfl (by decide) (fun _ => kk) (fun h74 => absurd (bI_f hc) h74)) ?_
        refine ⟨_, ?_, r_vret dX12_readExpression_95 rfl rfl rfl⟩
        exact ⟨_, rfl, by rw [show loopS (wdS T w_or) (orB T (exprS T l)) (f + 1) s = s from if_neg hc]; exact y1⟩
  have k62 : ∀ E t x8, CMd E0 E T t → slk 1 t → Sx mX12_readExpression (d + e + 8 + 6) 0 0 (fun o => ∃ E2, o = (.inl none, E2, 137) ∧ CMd E0 E2 T (orS T (exprS T l) t)) 62 [some (.ref 95), some (.int w), x8] [] E 137 := by
    intro E t x8 y1 hs1
    refine Sx.up (fun _ kk => r_aload_n 63 dX12_readExpression_62 rfl rfl kk) ?_
    refine Sx.up (fun _ kk => r_iload_n 64 dX12_readExpression_63 rfl rfl kk) ?_
    obtain ⟨_, ⟨E2, rfl, y2⟩, hcl2⟩ := md_and y1 hs1 hw hl hex
    refine Sx.up (fun _ kk => r_callV (M := mX12_readExpression) (pc := 64) 67 dX12_readExpression_64 rfl k12_271 hcl2 rfl rfl rfl (by decide) rfl lt95 (Nat.le_of_ble_eq_true rfl) kk) ?_
    exact loop 600 (Nat.le_refl _) _ _ _ y2 (hs0 _ hs1) (aft_0 _)
  cases s with
  | inl x =>
    have hb := md_1b y1
    refine Sx.up (fun _ kk => r_aload_n 1 dX12_readExpression_0 rfl rfl kk) ?_
    refine Sx.up (fun _ kk => r_getI 4 dX12_readExpression_1 rfl f12_208 rfl rfl lt95 kk) ?_
    refine Sx.up (fun _ kk => r_if_eq 7 8 dX12_readExpression_4 rfl (by decide) (fun h4 => absurd h4 hb) (fun _ => kk)) ?_
    refine ⟨_, ?_, r_vret dX12_readExpression_7 rfl rfl rfl⟩
    exact ⟨_, rfl, by rw [expr_inl]; exact y1⟩
  | inr x =>
    obtain ⟨a, B⟩ := x
    have hb := md_0b y1 ⟨_, rfl⟩
    have hk1 := md_k y1 (k := 1) (by decide)
    have hk2 := md_k y1 (k := 2) (by decide)
    have k39 : ∀ v, v = bI (mayS T (.inr (a, B))) → Sx mX12_readExpression (d + e + 8 + 6) 0 0 (fun o => ∃ E2, o = (.inl none, E2, 137) ∧ CMd E0 E2 T (exprS T (l + 1) (.inr (a, B)))) 39 [some (.ref 95), some (.int w), some (.int v)] [] E 137 := by
      intro v hv
      by_cases hm : mayS T (.inr (a, B)) = true
      · rw [bI_t hm] at hv
        subst hv
        refine Sx.up (fun _ kk => r_iload_n 40 dX12_readExpression_39 rfl rfl kk) ?_
        refine Sx.up (fun _ kk => r_if_ne 43 51 dX12_readExpression_40 rfl (by decide) (fun _ => kk) (fun h40 => absurd h40 (by decide))) ?_
        refine Sx.up (fun _ kk => r_iload_n 52 dX12_readExpression_51 rfl rfl kk) ?_
        refine Sx.up (fun _ kk => r_bipush (6) 54 dX12_readExpression_52 rfl (by decide) kk) ?_
        refine Sx.up (fun _ kk => r_icmp_ne 57 62 dX12_readExpression_54 rfl (by decide) (fun _ => kk) (fun h54 => absurd h54 (fun z => by rw [hw] at z; have := (nI_eq (b := 6) (by omega) (by omega)).mp z; omega))) ?_
        exact k62 E _ _ y1 hs
      · rw [bI_f hm] at hv
        subst hv
        have hex9 : exprS T (l + 1) (.inr (a, B)) = orS T (exprS T l) (fltS 1 (.inr (a, B))) := by
          show orS T (exprS T l) (.inr (a, B)) = orS T (exprS T l) (.inl (1, a))
          rw [may_no (expr_inl l) hm, or_inl]
        rw [hex9]
        refine Sx.up (fun _ kk => r_iload_n 40 dX12_readExpression_39 rfl rfl kk) ?_
        refine Sx.up (fun _ kk => r_if_ne 43 51 dX12_readExpression_40 rfl (by decide) (fun h40 => absurd h40 (fun z => z rfl)) (fun _ => kk)) ?_
        refine Sx.up (fun _ kk => r_aload_n 44 dX12_readExpression_43 rfl rfl kk) ?_
        refine Sx.up (fun _ kk => r_iconst (1) 45 dX12_readExpression_44 rfl (by decide) kk) ?_
        obtain ⟨_, ⟨E2, rfl, y2⟩, hcl2⟩ := md_wrong (d := d + e + 13) y1 (k := 1) (k9 := 1) rfl (by decide) (by decide)
        refine Sx.up (fun _ kk => r_callV (M := mX12_readExpression) (pc := 45) 48 dX12_readExpression_45 rfl k12_229 hcl2 rfl rfl rfl (by decide) rfl lt95 (Nat.le_of_ble_eq_true rfl) kk) ?_
        refine Sx.up (fun _ kk => r_goto 62 dX12_readExpression_48 (by decide) kk) ?_
        exact k62 E2 _ _ y2 trivial
    refine Sx.up (fun _ kk => r_aload_n 1 dX12_readExpression_0 rfl rfl kk) ?_
    refine Sx.up (fun _ kk => r_getI 4 dX12_readExpression_1 rfl f12_208 rfl rfl lt95 kk) ?_
    refine Sx.up (fun _ kk => r_if_eq 7 8 dX12_readExpression_4 rfl (by decide) (fun _ => kk) (fun h4 => absurd hb h4)) ?_
    refine Sx.up (fun _ kk => r_aload_n 9 dX12_readExpression_8 rfl rfl kk) ?_
    refine Sx.up (fun _ kk => r_getI 12 dX12_readExpression_9 rfl f12_182 rfl rfl lt95 kk) ?_
    refine Sx.up (fun _ kk => r_iconst (2) 13 dX12_readExpression_12 rfl (by decide) kk) ?_
    refine Sx.br (fun _ ka kb => r_icmp_eq 16 33 dX12_readExpression_13 rfl (by decide) ka kb) (by first | exact em1 | exact em2) (fun h13 => ?_) (fun h13 => ?_)
    · refine Sx.up (fun _ kk => r_iconst (1) 34 dX12_readExpression_33 rfl (by decide) kk) ?_
      refine Sx.up (fun _ kk => r_goto 38 dX12_readExpression_34 (by decide) kk) ?_
      refine Sx.up (fun _ kk => r_istore_n 39 dX12_readExpression_38 rfl (by decide) rfl kk) ?_
      exact k39 _ (by first | exact (bI_t (by unfold mayS; rw [show kiS T 2 (.inr (a, B)) = true from decide_eq_true (hk2.mp h13)]; rfl)).symm | exact (bI_t (by unfold mayS; rw [show kiS T 1 (.inr (a, B)) = true from decide_eq_true (hk1.mp h21), Bool.or_true]; rfl)).symm | exact (bI_t (by unfold mayS; rw [bnz h30, Bool.or_true])).symm | exact (bI_f (fun z => by unfold mayS at z; rw [Bool.or_eq_true, Bool.or_eq_true] at z; exact z.elim (fun z => z.elim (fun z => h13 (hk2.mpr (of_decide_eq_true z))) (fun z => h21 (hk1.mpr (of_decide_eq_true z)))) (bz h30))).symm)
    · refine Sx.up (fun _ kk => r_aload_n 17 dX12_readExpression_16 rfl rfl kk) ?_
      refine Sx.up (fun _ kk => r_getI 20 dX12_readExpression_17 rfl f12_182 rfl rfl lt95 kk) ?_
      refine Sx.up (fun _ kk => r_iconst (1) 21 dX12_readExpression_20 rfl (by decide) kk) ?_
      refine Sx.br (fun _ ka kb => r_icmp_eq 24 33 dX12_readExpression_21 rfl (by decide) ka kb) (by first | exact em1 | exact em2) (fun h21 => ?_) (fun h21 => ?_)
      · refine Sx.up (fun _ kk => r_iconst (1) 34 dX12_readExpression_33 rfl (by decide) kk) ?_
        refine Sx.up (fun _ kk => r_goto 38 dX12_readExpression_34 (by decide) kk) ?_
        refine Sx.up (fun _ kk => r_istore_n 39 dX12_readExpression_38 rfl (by decide) rfl kk) ?_
        exact k39 _ (by first | exact (bI_t (by unfold mayS; rw [show kiS T 2 (.inr (a, B)) = true from decide_eq_true (hk2.mp h13)]; rfl)).symm | exact (bI_t (by unfold mayS; rw [show kiS T 1 (.inr (a, B)) = true from decide_eq_true (hk1.mp h21), Bool.or_true]; rfl)).symm | exact (bI_t (by unfold mayS; rw [bnz h30, Bool.or_true])).symm | exact (bI_f (fun z => by unfold mayS at z; rw [Bool.or_eq_true, Bool.or_eq_true] at z; exact z.elim (fun z => z.elim (fun z => h13 (hk2.mpr (of_decide_eq_true z))) (fun z => h21 (hk1.mpr (of_decide_eq_true z)))) (bz h30))).symm)
      · refine Sx.up (fun _ kk => r_aload_n 25 dX12_readExpression_24 rfl rfl kk) ?_
        refine Sx.up (fun _ kk => r_bipush (40) 27 dX12_readExpression_25 rfl (by decide) kk) ?_
        refine Sx.up (fun _ kk => r_callV (M := mX12_readExpression) (pc := 27) 30 dX12_readExpression_27 rfl k12_226 (md_isM (d := d + e + 13) y1) rfl rfl rfl (by decide) rfl lt95 (Nat.le_of_ble_eq_true rfl) kk) ?_
        refine Sx.br (fun _ ka kb => r_if_eq 33 37 dX12_readExpression_30 rfl (by decide) ka kb) (by first | exact em1 | exact em2) (fun h30 => ?_) (fun h30 => ?_)
        · refine Sx.up (fun _ kk => r_iconst (0) 38 dX12_readExpression_37 rfl (by decide) kk) ?_
          refine Sx.up (fun _ kk => r_istore_n 39 dX12_readExpression_38 rfl (by decide) rfl kk) ?_
          exact k39 _ (by first | exact (bI_t (by unfold mayS; rw [show kiS T 2 (.inr (a, B)) = true from decide_eq_true (hk2.mp h13)]; rfl)).symm | exact (bI_t (by unfold mayS; rw [show kiS T 1 (.inr (a, B)) = true from decide_eq_true (hk1.mp h21), Bool.or_true]; rfl)).symm | exact (bI_t (by unfold mayS; rw [bnz h30, Bool.or_true])).symm | exact (bI_f (fun z => by unfold mayS at z; rw [Bool.or_eq_true, Bool.or_eq_true] at z; exact z.elim (fun z => z.elim (fun z => h13 (hk2.mpr (of_decide_eq_true z))) (fun z => h21 (hk1.mpr (of_decide_eq_true z)))) (bz h30))).symm)
        · refine Sx.up (fun _ kk => r_iconst (1) 34 dX12_readExpression_33 rfl (by decide) kk) ?_
          refine Sx.up (fun _ kk => r_goto 38 dX12_readExpression_34 (by decide) kk) ?_
          refine Sx.up (fun _ kk => r_istore_n 39 dX12_readExpression_38 rfl (by decide) rfl kk) ?_
          exact k39 _ (by first | exact (bI_t (by unfold mayS; rw [show kiS T 2 (.inr (a, B)) = true from decide_eq_true (hk2.mp h13)]; rfl)).symm | exact (bI_t (by unfold mayS; rw [show kiS T 1 (.inr (a, B)) = true from decide_eq_true (hk1.mp h21), Bool.or_true]; rfl)).symm | exact (bI_t (by unfold mayS; rw [bnz h30, Bool.or_true])).symm | exact (bI_f (fun z => by unfold mayS at z; rw [Bool.or_eq_true, Bool.or_eq_true] at z; exact z.elim (fun z => z.elim (fun z => h13 (hk2.mpr (of_decide_eq_true z))) (fun z => h21 (hk1.mpr (of_decide_eq_true z)))) (bz h30))).symm)
set_option maxHeartbeats 16000000 in
set_option maxRecDepth 20000 in
theorem md_expr0 {d : Nat} {E0 E : HP} {T : TX} {s : PS} {w : Int32} (y1 : CMd E0 E T s) (hw : w = nI 6) : ∃ o, (∃ E2, o = (.inl none, E2, 137) ∧ CMd E0 E2 T (exprS T 0 s)) ∧ Cl yX12_readExpression mX12_readExpression (d + 8) 0 0 [.ref 95, .int w] E 137 o := by
  refine Cx.of (by decide) rfl (fun q => by cases q) rfl rfl (Nat.le_of_ble_eq_true rfl) ?_
  show Sx _ _ _ _ _ 0 [some (.ref 95), some (.int (w)), none] [] _ _
  have k62 : ∀ E x x8, CMd E0 E T (.inl x) → Sx mX12_readExpression (d + 8) 0 0 (fun o => ∃ E2, o = (.inl none, E2, 137) ∧ CMd E0 E2 T (.inl x)) 62 [some (.ref 95), some (.int w), x8] [] E 137 := by
    intro E x x8 y1
    refine Sx.up (fun _ kk => r_aload_n 63 dX12_readExpression_62 rfl rfl kk) ?_
    refine Sx.up (fun _ kk => r_iload_n 64 dX12_readExpression_63 rfl rfl kk) ?_
    refine Sx.up (fun _ kk => r_callV (M := mX12_readExpression) (pc := 64) 67 dX12_readExpression_64 rfl k12_271 (md_andD (d := d + 1) y1) rfl rfl rfl (by decide) rfl lt95 (Nat.le_of_ble_eq_true rfl) kk) ?_
    refine Sx.up (fun _ kk => r_aload_n 68 dX12_readExpression_67 rfl rfl kk) ?_
    refine Sx.up (fun _ kk => r_ldcwS (i := 38) 71 dX12_readExpression_68 rfl rfl kk) ?_
    refine Sx.up (fun _ kk => r_callV (M := mX12_readExpression) (pc := 71) 74 dX12_readExpression_71 rfl k12_222 (md_is (d := d + 3) (i := 38) (q := ("SpoonRowModel", 274, "or", w_or)) y1 rfl) rfl rfl rfl (by decide) rfl lt95 (Nat.le_of_ble_eq_true rfl) kk) ?_
    refine Sx.up (fun _ kk => r_if_eq 77 95 dX12_readExpression_74 rfl (by decide) (fun _ => kk) (fun h74 => absurd rfl h74)) ?_
    refine ⟨_, ?_, r_vret dX12_readExpression_95 rfl rfl rfl⟩
    exact ⟨_, rfl, y1⟩
  cases s with
  | inl x =>
    have hb := md_1b y1
    refine Sx.up (fun _ kk => r_aload_n 1 dX12_readExpression_0 rfl rfl kk) ?_
    refine Sx.up (fun _ kk => r_getI 4 dX12_readExpression_1 rfl f12_208 rfl rfl lt95 kk) ?_
    refine Sx.up (fun _ kk => r_if_eq 7 8 dX12_readExpression_4 rfl (by decide) (fun h4 => absurd h4 hb) (fun _ => kk)) ?_
    refine ⟨_, ?_, r_vret dX12_readExpression_7 rfl rfl rfl⟩
    exact ⟨_, rfl, y1⟩
  | inr x =>
    obtain ⟨a, B⟩ := x
    have hb := md_0b y1 ⟨_, rfl⟩
    have hk1 := md_k y1 (k := 1) (by decide)
    have hk2 := md_k y1 (k := 2) (by decide)
    have k39 : ∀ v, v = bI (mayS T (.inr (a, B))) → Sx mX12_readExpression (d + 8) 0 0 (fun o => ∃ E2, o = (.inl none, E2, 137) ∧ CMd E0 E2 T (exprS T 0 (.inr (a, B)))) 39 [some (.ref 95), some (.int w), some (.int v)] [] E 137 := by
      intro v hv
      by_cases hm : mayS T (.inr (a, B)) = true
      · rw [bI_t hm] at hv
        subst hv
        have hx : exprS T 0 (.inr (a, B)) = .inl (2, a) := by show fltS (if mayS T (.inr (a, B)) = true then 2 else 1) (.inr (a, B)) = _; rw [if_pos hm]; rfl
        rw [hx]
        refine Sx.up (fun _ kk => r_iload_n 40 dX12_readExpression_39 rfl rfl kk) ?_
        refine Sx.up (fun _ kk => r_if_ne 43 51 dX12_readExpression_40 rfl (by decide) (fun _ => kk) (fun h40 => absurd h40 (by decide))) ?_
        refine Sx.up (fun _ kk => r_iload_n 52 dX12_readExpression_51 rfl rfl kk) ?_
        refine Sx.up (fun _ kk => r_bipush (6) 54 dX12_readExpression_52 rfl (by decide) kk) ?_
        refine Sx.up (fun _ kk => r_icmp_ne 57 62 dX12_readExpression_54 rfl (by decide) (fun h54 => absurd h54 (fun z => z hw)) (fun _ => kk)) ?_
        refine Sx.up (fun _ kk => r_aload_n 58 dX12_readExpression_57 rfl rfl kk) ?_
        refine Sx.up (fun _ kk => r_iconst (2) 59 dX12_readExpression_58 rfl (by decide) kk) ?_
        obtain ⟨_, ⟨E2, rfl, y2⟩, hcl2⟩ := md_wrong (d := d + 7) y1 (k := 2) (k9 := 2) rfl (by decide) (by decide)
        refine Sx.up (fun _ kk => r_callV (M := mX12_readExpression) (pc := 59) 62 dX12_readExpression_59 rfl k12_229 hcl2 rfl rfl rfl (by decide) rfl lt95 (Nat.le_of_ble_eq_true rfl) kk) ?_
        exact k62 E2 _ _ y2
      · rw [bI_f hm] at hv
        subst hv
        have hx : exprS T 0 (.inr (a, B)) = .inl (1, a) := by show fltS (if mayS T (.inr (a, B)) = true then 2 else 1) (.inr (a, B)) = _; rw [if_neg hm]; rfl
        rw [hx]
        refine Sx.up (fun _ kk => r_iload_n 40 dX12_readExpression_39 rfl rfl kk) ?_
        refine Sx.up (fun _ kk => r_if_ne 43 51 dX12_readExpression_40 rfl (by decide) (fun h40 => absurd h40 (fun z => z rfl)) (fun _ => kk)) ?_
        refine Sx.up (fun _ kk => r_aload_n 44 dX12_readExpression_43 rfl rfl kk) ?_
        refine Sx.up (fun _ kk => r_iconst (1) 45 dX12_readExpression_44 rfl (by decide) kk) ?_
        obtain ⟨_, ⟨E2, rfl, y2⟩, hcl2⟩ := md_wrong (d := d + 7) y1 (k := 1) (k9 := 1) rfl (by decide) (by decide)
        refine Sx.up (fun _ kk => r_callV (M := mX12_readExpression) (pc := 45) 48 dX12_readExpression_45 rfl k12_229 hcl2 rfl rfl rfl (by decide) rfl lt95 (Nat.le_of_ble_eq_true rfl) kk) ?_
        refine Sx.up (fun _ kk => r_goto 62 dX12_readExpression_48 (by decide) kk) ?_
        exact k62 E2 _ _ y2
    refine Sx.up (fun _ kk => r_aload_n 1 dX12_readExpression_0 rfl rfl kk) ?_
    refine Sx.up (fun _ kk => r_getI 4 dX12_readExpression_1 rfl f12_208 rfl rfl lt95 kk) ?_
    refine Sx.up (fun _ kk => r_if_eq 7 8 dX12_readExpression_4 rfl (by decide) (fun _ => kk) (fun h4 => absurd hb h4)) ?_
    refine Sx.up (fun _ kk => r_aload_n 9 dX12_readExpression_8 rfl rfl kk) ?_
    refine Sx.up (fun _ kk => r_getI 12 dX12_readExpression_9 rfl f12_182 rfl rfl lt95 kk) ?_
    refine Sx.up (fun _ kk => r_iconst (2) 13 dX12_readExpression_12 rfl (by decide) kk) ?_
    refine Sx.br (fun _ ka kb => r_icmp_eq 16 33 dX12_readExpression_13 rfl (by decide) ka kb) (by first | exact em1 | exact em2) (fun h13 => ?_) (fun h13 => ?_)
    · refine Sx.up (fun _ kk => r_iconst (1) 34 dX12_readExpression_33 rfl (by decide) kk) ?_
      refine Sx.up (fun _ kk => r_goto 38 dX12_readExpression_34 (by decide) kk) ?_
      refine Sx.up (fun _ kk => r_istore_n 39 dX12_readExpression_38 rfl (by decide) rfl kk) ?_
      exact k39 _ (by first | exact (bI_t (by unfold mayS; rw [show kiS T 2 (.inr (a, B)) = true from decide_eq_true (hk2.mp h13)]; rfl)).symm | exact (bI_t (by unfold mayS; rw [show kiS T 1 (.inr (a, B)) = true from decide_eq_true (hk1.mp h21), Bool.or_true]; rfl)).symm | exact (bI_t (by unfold mayS; rw [bnz h30, Bool.or_true])).symm | exact (bI_f (fun z => by unfold mayS at z; rw [Bool.or_eq_true, Bool.or_eq_true] at z; exact z.elim (fun z => z.elim (fun z => h13 (hk2.mpr (of_decide_eq_true z))) (fun z => h21 (hk1.mpr (of_decide_eq_true z)))) (bz h30))).symm)
    · refine Sx.up (fun _ kk => r_aload_n 17 dX12_readExpression_16 rfl rfl kk) ?_
      refine Sx.up (fun _ kk => r_getI 20 dX12_readExpression_17 rfl f12_182 rfl rfl lt95 kk) ?_
      refine Sx.up (fun _ kk => r_iconst (1) 21 dX12_readExpression_20 rfl (by decide) kk) ?_
      refine Sx.br (fun _ ka kb => r_icmp_eq 24 33 dX12_readExpression_21 rfl (by decide) ka kb) (by first | exact em1 | exact em2) (fun h21 => ?_) (fun h21 => ?_)
      · refine Sx.up (fun _ kk => r_iconst (1) 34 dX12_readExpression_33 rfl (by decide) kk) ?_
        refine Sx.up (fun _ kk => r_goto 38 dX12_readExpression_34 (by decide) kk) ?_
        refine Sx.up (fun _ kk => r_istore_n 39 dX12_readExpression_38 rfl (by decide) rfl kk) ?_
        exact k39 _ (by first | exact (bI_t (by unfold mayS; rw [show kiS T 2 (.inr (a, B)) = true from decide_eq_true (hk2.mp h13)]; rfl)).symm | exact (bI_t (by unfold mayS; rw [show kiS T 1 (.inr (a, B)) = true from decide_eq_true (hk1.mp h21), Bool.or_true]; rfl)).symm | exact (bI_t (by unfold mayS; rw [bnz h30, Bool.or_true])).symm | exact (bI_f (fun z => by unfold mayS at z; rw [Bool.or_eq_true, Bool.or_eq_true] at z; exact z.elim (fun z => z.elim (fun z => h13 (hk2.mpr (of_decide_eq_true z))) (fun z => h21 (hk1.mpr (of_decide_eq_true z)))) (bz h30))).symm)
      · refine Sx.up (fun _ kk => r_aload_n 25 dX12_readExpression_24 rfl rfl kk) ?_
        refine Sx.up (fun _ kk => r_bipush (40) 27 dX12_readExpression_25 rfl (by decide) kk) ?_
        refine Sx.up (fun _ kk => r_callV (M := mX12_readExpression) (pc := 27) 30 dX12_readExpression_27 rfl k12_226 (md_isM (d := d + 7) y1) rfl rfl rfl (by decide) rfl lt95 (Nat.le_of_ble_eq_true rfl) kk) ?_
        refine Sx.br (fun _ ka kb => r_if_eq 33 37 dX12_readExpression_30 rfl (by decide) ka kb) (by first | exact em1 | exact em2) (fun h30 => ?_) (fun h30 => ?_)
        · refine Sx.up (fun _ kk => r_iconst (0) 38 dX12_readExpression_37 rfl (by decide) kk) ?_
          refine Sx.up (fun _ kk => r_istore_n 39 dX12_readExpression_38 rfl (by decide) rfl kk) ?_
          exact k39 _ (by first | exact (bI_t (by unfold mayS; rw [show kiS T 2 (.inr (a, B)) = true from decide_eq_true (hk2.mp h13)]; rfl)).symm | exact (bI_t (by unfold mayS; rw [show kiS T 1 (.inr (a, B)) = true from decide_eq_true (hk1.mp h21), Bool.or_true]; rfl)).symm | exact (bI_t (by unfold mayS; rw [bnz h30, Bool.or_true])).symm | exact (bI_f (fun z => by unfold mayS at z; rw [Bool.or_eq_true, Bool.or_eq_true] at z; exact z.elim (fun z => z.elim (fun z => h13 (hk2.mpr (of_decide_eq_true z))) (fun z => h21 (hk1.mpr (of_decide_eq_true z)))) (bz h30))).symm)
        · refine Sx.up (fun _ kk => r_iconst (1) 34 dX12_readExpression_33 rfl (by decide) kk) ?_
          refine Sx.up (fun _ kk => r_goto 38 dX12_readExpression_34 (by decide) kk) ?_
          refine Sx.up (fun _ kk => r_istore_n 39 dX12_readExpression_38 rfl (by decide) rfl kk) ?_
          exact k39 _ (by first | exact (bI_t (by unfold mayS; rw [show kiS T 2 (.inr (a, B)) = true from decide_eq_true (hk2.mp h13)]; rfl)).symm | exact (bI_t (by unfold mayS; rw [show kiS T 1 (.inr (a, B)) = true from decide_eq_true (hk1.mp h21), Bool.or_true]; rfl)).symm | exact (bI_t (by unfold mayS; rw [bnz h30, Bool.or_true])).symm | exact (bI_f (fun z => by unfold mayS at z; rw [Bool.or_eq_true, Bool.or_eq_true] at z; exact z.elim (fun z => z.elim (fun z => h13 (hk2.mpr (of_decide_eq_true z))) (fun z => h21 (hk1.mpr (of_decide_eq_true z)))) (bz h30))).symm)
theorem md_expr {d : Nat} {E0 : HP} {T : TX} : ∀ l, l ≤ 6 → ∀ {E : HP} {s : PS} {w : Int32}, CMd E0 E T s → slk 1 s → w = nI (6 - l) → ∃ o, (∃ E2, o = (.inl none, E2, 137) ∧ CMd E0 E2 T (exprS T l s)) ∧ Cl yX12_readExpression mX12_readExpression (d + 6 * l + 8) 0 0 [.ref 95, .int w] E 137 o := by
  intro l
  induction l with
  | zero => intro _ E s w y1 _ hw; exact md_expr0 (d := d) y1 hw
  | succ l ih =>
    intro hl E s w y1 hs hw
    rw [show d + 6 * (l + 1) + 8 = d + 6 * l + 8 + 6 by omega]
    exact md_or y1 hs hw hl (fun y1 hs hw => ih (by omega) y1 hs hw)
theorem md_expr6 {d : Nat} {E0 E : HP} {T : TX} {s : PS} (y1 : CMd E0 E T s) (hs : slk 1 s) : ∃ o, (∃ E2, o = (.inl none, E2, 137) ∧ CMd E0 E2 T (exprS T 6 s)) ∧ Cl yX12_readExpression mX12_readExpression (d + 44) 0 0 [.ref 95, .int 0] E 137 o := by
  have h := md_expr (d := d) 6 (by decide) y1 hs (w := 0) rfl
  rw [show d + 6 * 6 + 8 = d + 44 by omega] at h
  exact h
