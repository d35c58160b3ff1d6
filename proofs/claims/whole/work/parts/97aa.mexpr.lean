/-! mexpr, further on -/
set_option maxHeartbeats 16000000 in
set_option maxRecDepth 20000 in
theorem md_and {d e l : Nat} {E0 E : HP} {T : TX} {s : PS} {w : Int32} (y1 : CMd E0 E T s) (hs : slk 1 s) (hw : w = nI (6 - (l + 1))) (hl : l + 1 ≤ 6) (hex : ∀ {E : HP} {s : PS} {w : Int32}, CMd E0 E T s → slk 1 s → w = nI (6 - l) → ∃ o, (∃ E2, o = (.inl none, E2, 137) ∧ CMd E0 E2 T (exprS T l s)) ∧ Cl yX12_readExpression mX12_readExpression (d + e + 8) 0 0 [.ref 95, .int w] E 137 o) : ∃ o, (∃ E2, o = (.inl none, E2, 137) ∧ CMd E0 E2 T (andS T (exprS T l) s)) ∧ Cl yX12_readAnd mX12_readAnd (d + e + 8 + 5) 0 0 [.ref 95, .int w] E 137 o := by
  have hs0 : slk 1 (notS T (exprS T l) s) := slk_ext (ex_not l s) hs
  have hTx := md_T y1
  refine Cx.of (by decide) rfl (fun q => by cases q) rfl rfl (Nat.le_of_ble_eq_true rfl) ?_
  show Sx _ _ _ _ _ 0 [some (.ref 95), some (.int (w))] [] _ _
  have loop : ∀ f, f ≤ 600 → ∀ E s, CMd E0 E T s → slk 1 s → aft (600 - f) s → Sx mX12_readAnd (d + e + 8 + 5) 0 0 (fun o => ∃ E2, o = (.inl none, E2, 137) ∧ CMd E0 E2 T (loopS (wdS T w_and) (andB T (exprS T l)) f s)) 5 [some (.ref 95), some (.int w)] [] E 137 := by
    intro f
    induction f with
    | zero =>
      intro _ E s y1 hs1 ha
      have hn1 := aft_wd (T := T) (w := w_and) hTx ha
      refine Sx.up (fun _ kk => r_aload_n 6 dX12_readAnd_5 rfl rfl kk) ?_
      refine Sx.up (fun _ kk => r_ldcwS (i := 37) 9 dX12_readAnd_6 rfl rfl kk) ?_
      refine Sx.up (fun _ kk => r_callV (M := mX12_readAnd) (pc := 9) 12 dX12_readAnd_9 rfl k12_222 (md_is (d := d + e + 8) (i := 37) (q := ("SpoonRowModel", 269, "and", w_and)) y1 rfl) rfl rfl rfl (by decide) rfl lt95 (Nat.le_of_ble_eq_true rfl) kk) ?_
      refine Sx.up (fun _ kk => r_if_eq 15 33 dX12_readAnd_12 rfl (by decide) (fun _ => kk) (fun h12 => absurd (bI_f hn1) h12)) ?_
      refine ⟨_, ?_, r_vret dX12_readAnd_33 rfl rfl rfl⟩
      exact ⟨_, rfl, y1⟩
    | succ f ih =>
      intro hf E s y1 hs1 ha
      by_cases hc : wdS T w_and s = true
      · have hy : loopS (wdS T w_and) (andB T (exprS T l)) (f + 1) s = loopS (wdS T w_and) (andB T (exprS T l)) f (andB T (exprS T l) s) := if_pos hc
        rw [hy]
        refine Sx.up (fun _ kk => r_aload_n 6 dX12_readAnd_5 rfl rfl kk) ?_
        refine Sx.up (fun _ kk => r_ldcwS (i := 37) 9 dX12_readAnd_6 rfl rfl kk) ?_
        refine Sx.up (fun _ kk => r_callV (M := mX12_readAnd) (pc := 9) 12 dX12_readAnd_9 rfl k12_222 (md_is (d := d + e + 8) (i := 37) (q := ("SpoonRowModel", 269, "and", w_and)) y1 rfl) rfl rfl rfl (by decide) rfl lt95 (Nat.le_of_ble_eq_true rfl) kk) ?_
        refine Sx.up (fun _ kk => r_if_eq 15 33 dX12_readAnd_12 rfl (by decide) (fun h12 => absurd h12 (by rw [bI_t hc]; decide)) (fun _ => kk)) ?_
        refine Sx.up (fun _ kk => r_aload_n 16 dX12_readAnd_15 rfl rfl kk) ?_
        obtain ⟨_, ⟨E2, rfl, y2⟩, hcl2⟩ := md_adv (d := d + e + 11) y1 (lv_liv (liv_wd hc))
        refine Sx.up (fun _ kk => r_callV (M := mX12_readAnd) (pc := 16) 19 dX12_readAnd_16 rfl k12_233 hcl2 rfl rfl rfl (by decide) rfl lt95 (Nat.le_of_ble_eq_true rfl) kk) ?_
        refine Sx.up (fun _ kk => r_aload_n 20 dX12_readAnd_19 rfl rfl kk) ?_
        refine Sx.up (fun _ kk => r_iload_n 21 dX12_readAnd_20 rfl rfl kk) ?_
        obtain ⟨_, ⟨E3, rfl, y3⟩, hcl3⟩ := md_not y2 (slk_mono (by decide) (slk_adv (liv_wd hc) hs1)) hw hl hex
        refine Sx.up (fun _ kk => r_callV (M := mX12_readAnd) (pc := 21) 24 dX12_readAnd_21 rfl k12_266 hcl3 rfl rfl rfl (by decide) rfl lt95 (Nat.le_of_ble_eq_true rfl) kk) ?_
        refine Sx.up (fun _ kk => r_aload_n 25 dX12_readAnd_24 rfl rfl kk) ?_
        refine Sx.up (fun _ kk => r_bipush (-26) 27 dX12_readAnd_25 rfl (by decide) kk) ?_
        obtain ⟨_, ⟨E4, rfl, y4⟩, hcl4⟩ := md_lay (d := d + e + 12) (v := -26) (x := -9) y3 (slk_mono (by decide) (slk_ext (ex_not l _) (slk_adv (liv_wd hc) hs1))) (fun q z => by decide)
        refine Sx.up (fun _ kk => r_callV (M := mX12_readAnd) (pc := 27) 30 dX12_readAnd_27 rfl k12_242 hcl4 rfl rfl rfl (by decide) rfl lt95 (Nat.le_of_ble_eq_true rfl) kk) ?_
        refine Sx.up (fun _ kk => r_goto 5 dX12_readAnd_30 (by decide) kk) ?_
        exact ih (by omega) _ _ y4 (slk_ru (slk_ext (ex_not l _) (slk_adv (liv_wd hc) hs1))) (by have h9 : aft (600 - f) (andB T (exprS T l) s) := aft_ru (aft_ext (ex_not l _) (aft_mono (by omega) (aft_adv (liv_wd hc) ha))); exact h9)
      · refine Sx.up (fun _ kk => r_aload_n 6 dX12_readAnd_5 rfl rfl kk) ?_
        refine Sx.up (fun _ kk => r_ldcwS (i := 37) 9 dX12_readAnd_6 rfl rfl kk) ?_
        refine Sx.up (fun _ kk => r_callV (M := mX12_readAnd) (pc := 9) 12 dX12_readAnd_9 rfl k12_222 (md_is (d := d + e + 8) (i := 37) (q := ("SpoonRowModel", 269, "and", w_and)) y1 rfl) rfl rfl rfl (by decide) rfl lt95 (Nat.le_of_ble_eq_true rfl) kk) ?_
        refine Sx.up (fun _ kk => r_if_eq 15 33 dX12_readAnd_12 rfl (by decide) (fun _ => kk) (fun h12 => absurd (bI_f hc) h12)) ?_
        refine ⟨_, ?_, r_vret dX12_readAnd_33 rfl rfl rfl⟩
        exact ⟨_, rfl, by rw [show loopS (wdS T w_and) (andB T (exprS T l)) (f + 1) s = s from if_neg hc]; exact y1⟩
  refine Sx.up (fun _ kk => r_aload_n 1 dX12_readAnd_0 rfl rfl kk) ?_
  refine Sx.up (fun _ kk => r_iload_n 2 dX12_readAnd_1 rfl rfl kk) ?_
  obtain ⟨_, ⟨E2, rfl, y2⟩, hcl2⟩ := md_not y1 hs hw hl hex
  refine Sx.up (fun _ kk => r_callV (M := mX12_readAnd) (pc := 2) 5 dX12_readAnd_2 rfl k12_266 hcl2 rfl rfl rfl (by decide) rfl lt95 (Nat.le_of_ble_eq_true rfl) kk) ?_
  exact loop 600 (Nat.le_refl _) _ _ y2 hs0 (aft_0 _)
