/-! mexpr, further on -/
set_option maxHeartbeats 16000000 in
set_option maxRecDepth 20000 in
theorem md_prod {d e l : Nat} {E0 E : HP} {T : TX} {s : PS} {w : Int32} (y1 : CMd E0 E T s) (hs : slk 1 s) (hw : w = nI (6 - (l + 1))) (hl : l + 1 ≤ 6) (hex : ∀ {E : HP} {s : PS} {w : Int32}, CMd E0 E T s → slk 1 s → w = nI (6 - l) → ∃ o, (∃ E2, o = (.inl none, E2, 137) ∧ CMd E0 E2 T (exprS T l s)) ∧ Cl yX12_readExpression mX12_readExpression (d + e + 8) 0 0 [.ref 95, .int w] E 137 o) : ∃ o, (∃ E2, o = (.inl none, E2, 137) ∧ CMd E0 E2 T (prodS T (exprS T l) s)) ∧ Cl yX12_readProduct mX12_readProduct (d + e + 8 + 2) 0 0 [.ref 95, .int w] E 137 o := by
  have hs0 : slk 1 (partS T (exprS T l) s) := slk_ext (ex_part l s) hs
  have hTx := md_T y1
  refine Cx.of (by decide) rfl (fun q => by cases q) rfl rfl (Nat.le_of_ble_eq_true rfl) ?_
  show Sx _ _ _ _ _ 0 [some (.ref 95), some (.int (w)), none] [] _ _
  have loop : ∀ f, f ≤ 600 → ∀ E s x8, CMd E0 E T s → slk 1 s → aft (600 - f) s → Sx mX12_readProduct (d + e + 8 + 2) 0 0 (fun o => ∃ E2, o = (.inl none, E2, 137) ∧ CMd E0 E2 T (loopS (prodC T) (prodB T (exprS T l)) f s)) 5 [some (.ref 95), some (.int w), x8] [] E 137 := by
    intro f
    induction f with
    | zero =>
      intro _ E s x8 y1 hs1 ha
      have hn1 := aft_sg (T := T) (c := 42) hTx ha
      have hn2 := aft_sg (T := T) (c := 47) hTx ha
      refine Sx.up (fun _ kk => r_aload_n 6 dX12_readProduct_5 rfl rfl kk) ?_
      refine Sx.up (fun _ kk => r_bipush (42) 8 dX12_readProduct_6 rfl (by decide) kk) ?_
      refine Sx.up (fun _ kk => r_callV (M := mX12_readProduct) (pc := 8) 11 dX12_readProduct_8 rfl k12_226 (md_isM (d := d + e + 9) y1) rfl rfl rfl (by decide) rfl lt95 (Nat.le_of_ble_eq_true rfl) kk) ?_
      refine Sx.up (fun _ kk => r_if_ne 14 23 dX12_readProduct_11 rfl (by decide) (fun h11 => absurd h11 (fun z => z (bI_f hn1))) (fun _ => kk)) ?_
      refine Sx.up (fun _ kk => r_aload_n 15 dX12_readProduct_14 rfl rfl kk) ?_
      refine Sx.up (fun _ kk => r_bipush (47) 17 dX12_readProduct_15 rfl (by decide) kk) ?_
      refine Sx.up (fun _ kk => r_callV (M := mX12_readProduct) (pc := 17) 20 dX12_readProduct_17 rfl k12_226 (md_isM (d := d + e + 9) y1) rfl rfl rfl (by decide) rfl lt95 (Nat.le_of_ble_eq_true rfl) kk) ?_
      refine Sx.up (fun _ kk => r_if_eq 23 57 dX12_readProduct_20 rfl (by decide) (fun _ => kk) (fun h20 => absurd (bI_f hn2) h20)) ?_
      refine ⟨_, ?_, r_vret dX12_readProduct_57 rfl rfl rfl⟩
      exact ⟨_, rfl, y1⟩
    | succ f ih =>
      intro hf E s x8 y1 hs1 ha
      have hy : prodC T s = true → loopS (prodC T) (prodB T (exprS T l)) (f + 1) s = loopS (prodC T) (prodB T (exprS T l)) f (prodB T (exprS T l) s) := fun z => if_pos z
      have hn : ¬ prodC T s = true → loopS (prodC T) (prodB T (exprS T l)) (f + 1) s = s := fun z => if_neg z
      refine Sx.up (fun _ kk => r_aload_n 6 dX12_readProduct_5 rfl rfl kk) ?_
      refine Sx.up (fun _ kk => r_bipush (42) 8 dX12_readProduct_6 rfl (by decide) kk) ?_
      refine Sx.up (fun _ kk => r_callV (M := mX12_readProduct) (pc := 8) 11 dX12_readProduct_8 rfl k12_226 (md_isM (d := d + e + 9) y1) rfl rfl rfl (by decide) rfl lt95 (Nat.le_of_ble_eq_true rfl) kk) ?_
      refine Sx.br (fun _ ka kb => r_if_ne 14 23 dX12_readProduct_11 rfl (by decide) ka kb) (by first | exact em1 | exact em2) (fun h11 => ?_) (fun h11 => ?_)
      · refine Sx.up (fun _ kk => r_aload_n 24 dX12_readProduct_23 rfl rfl kk) ?_
        refine Sx.up (fun _ kk => r_bipush (42) 26 dX12_readProduct_24 rfl (by decide) kk) ?_
        refine Sx.up (fun _ kk => r_callV (M := mX12_readProduct) (pc := 26) 29 dX12_readProduct_26 rfl k12_226 (md_isM (d := d + e + 9) y1) rfl rfl rfl (by decide) rfl lt95 (Nat.le_of_ble_eq_true rfl) kk) ?_
        refine Sx.br (fun _ ka kb => r_if_eq 32 37 dX12_readProduct_29 rfl (by decide) ka kb) (by first | exact em1 | exact em2) (fun h29 => ?_) (fun h29 => ?_)
        · have hc : prodC T s = true := by unfold prodC; rw [Bool.or_eq_true]; first | exact Or.inl (bnz h11) | exact Or.inr (bnz h20)
          have hop : (if sgS T 42 s = true then (-15 : Int32) else -16) = -16 := if_neg (bz h29)
          have hmo : (-23 : Int32) = mS (-16) := by decide
          refine Sx.up (fun _ kk => r_bipush (-23) 39 dX12_readProduct_37 rfl (by decide) kk) ?_
          refine Sx.less (ls := [some (.ref 95), some (.int w), none]) (by exact ⟨rfl, rfl, trivial⟩) ?_
          refine Sx.up (fun _ kk => r_istore_n 40 dX12_readProduct_39 rfl (by decide) rfl kk) ?_
          refine Sx.up (fun _ kk => r_aload_n 41 dX12_readProduct_40 rfl rfl kk) ?_
          obtain ⟨_, ⟨E2, rfl, y2⟩, hcl2⟩ := md_adv (d := d + e + 8) y1 (lv_liv (T := T) (liv_or hc))
          refine Sx.up (fun _ kk => r_callV (M := mX12_readProduct) (pc := 41) 44 dX12_readProduct_41 rfl k12_233 hcl2 rfl rfl rfl (by decide) rfl lt95 (Nat.le_of_ble_eq_true rfl) kk) ?_
          refine Sx.up (fun _ kk => r_aload_n 45 dX12_readProduct_44 rfl rfl kk) ?_
          refine Sx.up (fun _ kk => r_iload_n 46 dX12_readProduct_45 rfl rfl kk) ?_
          obtain ⟨_, ⟨E3, rfl, y3⟩, hcl3⟩ := md_part y2 (slk_mono (by decide) (slk_adv (liv_or hc) hs1)) hw hl hex
          refine Sx.up (fun _ kk => r_callV (M := mX12_readProduct) (pc := 46) 49 dX12_readProduct_46 rfl k12_255 hcl3 rfl rfl rfl (by decide) rfl lt95 (Nat.le_of_ble_eq_true rfl) kk) ?_
          refine Sx.up (fun _ kk => r_aload_n 50 dX12_readProduct_49 rfl rfl kk) ?_
          refine Sx.up (fun _ kk => r_iload_n 51 dX12_readProduct_50 rfl rfl kk) ?_
          obtain ⟨_, ⟨E4, rfl, y4⟩, hcl4⟩ := md_lay (d := d + e + 9) (x := if sgS T 42 s = true then -15 else -16) y3 (slk_mono (by decide) (slk_ext (ex_part l _) (slk_adv (liv_or hc) hs1))) (fun q z => hmo.trans (congrArg mS hop.symm))
          refine Sx.up (fun _ kk => r_callV (M := mX12_readProduct) (pc := 51) 54 dX12_readProduct_51 rfl k12_242 hcl4 rfl rfl rfl (by decide) rfl lt95 (Nat.le_of_ble_eq_true rfl) kk) ?_
          refine Sx.up (fun _ kk => r_goto 5 dX12_readProduct_54 (by decide) kk) ?_
          rw [hy hc]
          exact ih (by omega) _ _ _ y4 (slk_ru (slk_ext (ex_part l _) (slk_adv (liv_or hc) hs1))) (by have h9 : aft (600 - f) (prodB T (exprS T l) s) := aft_ru (aft_ext (ex_part l _) (aft_mono (by omega) (aft_adv (liv_or hc) ha))); exact h9)
        · have hc : prodC T s = true := by unfold prodC; rw [Bool.or_eq_true]; first | exact Or.inl (bnz h11) | exact Or.inr (bnz h20)
          have hop : (if sgS T 42 s = true then (-15 : Int32) else -16) = -15 := if_pos (bnz h29)
          have hmo : (-22 : Int32) = mS (-15) := by decide
          refine Sx.up (fun _ kk => r_bipush (-22) 34 dX12_readProduct_32 rfl (by decide) kk) ?_
          refine Sx.up (fun _ kk => r_goto 39 dX12_readProduct_34 (by decide) kk) ?_
          refine Sx.less (ls := [some (.ref 95), some (.int w), none]) (by exact ⟨rfl, rfl, trivial⟩) ?_
          refine Sx.up (fun _ kk => r_istore_n 40 dX12_readProduct_39 rfl (by decide) rfl kk) ?_
          refine Sx.up (fun _ kk => r_aload_n 41 dX12_readProduct_40 rfl rfl kk) ?_
          obtain ⟨_, ⟨E5, rfl, y5⟩, hcl5⟩ := md_adv (d := d + e + 8) y1 (lv_liv (T := T) (liv_or hc))
          refine Sx.up (fun _ kk => r_callV (M := mX12_readProduct) (pc := 41) 44 dX12_readProduct_41 rfl k12_233 hcl5 rfl rfl rfl (by decide) rfl lt95 (Nat.le_of_ble_eq_true rfl) kk) ?_
          refine Sx.up (fun _ kk => r_aload_n 45 dX12_readProduct_44 rfl rfl kk) ?_
          refine Sx.up (fun _ kk => r_iload_n 46 dX12_readProduct_45 rfl rfl kk) ?_
          obtain ⟨_, ⟨E6, rfl, y6⟩, hcl6⟩ := md_part y5 (slk_mono (by decide) (slk_adv (liv_or hc) hs1)) hw hl hex
          refine Sx.up (fun _ kk => r_callV (M := mX12_readProduct) (pc := 46) 49 dX12_readProduct_46 rfl k12_255 hcl6 rfl rfl rfl (by decide) rfl lt95 (Nat.le_of_ble_eq_true rfl) kk) ?_
          refine Sx.up (fun _ kk => r_aload_n 50 dX12_readProduct_49 rfl rfl kk) ?_
          refine Sx.up (fun _ kk => r_iload_n 51 dX12_readProduct_50 rfl rfl kk) ?_
          obtain ⟨_, ⟨E7, rfl, y7⟩, hcl7⟩ := md_lay (d := d + e + 9) (x := if sgS T 42 s = true then -15 else -16) y6 (slk_mono (by decide) (slk_ext (ex_part l _) (slk_adv (liv_or hc) hs1))) (fun q z => hmo.trans (congrArg mS hop.symm))
          refine Sx.up (fun _ kk => r_callV (M := mX12_readProduct) (pc := 51) 54 dX12_readProduct_51 rfl k12_242 hcl7 rfl rfl rfl (by decide) rfl lt95 (Nat.le_of_ble_eq_true rfl) kk) ?_
          refine Sx.up (fun _ kk => r_goto 5 dX12_readProduct_54 (by decide) kk) ?_
          rw [hy hc]
          exact ih (by omega) _ _ _ y7 (slk_ru (slk_ext (ex_part l _) (slk_adv (liv_or hc) hs1))) (by have h9 : aft (600 - f) (prodB T (exprS T l) s) := aft_ru (aft_ext (ex_part l _) (aft_mono (by omega) (aft_adv (liv_or hc) ha))); exact h9)
      · refine Sx.up (fun _ kk => r_aload_n 15 dX12_readProduct_14 rfl rfl kk) ?_
        refine Sx.up (fun _ kk => r_bipush (47) 17 dX12_readProduct_15 rfl (by decide) kk) ?_
        refine Sx.up (fun _ kk => r_callV (M := mX12_readProduct) (pc := 17) 20 dX12_readProduct_17 rfl k12_226 (md_isM (d := d + e + 9) y1) rfl rfl rfl (by decide) rfl lt95 (Nat.le_of_ble_eq_true rfl) kk) ?_
        refine Sx.br (fun _ ka kb => r_if_eq 23 57 dX12_readProduct_20 rfl (by decide) ka kb) (by first | exact em1 | exact em2) (fun h20 => ?_) (fun h20 => ?_)
        · refine ⟨_, ?_, r_vret dX12_readProduct_57 rfl rfl rfl⟩
          exact ⟨_, rfl, by rw [hn (fun z => by unfold prodC at z; rw [Bool.or_eq_true] at z; exact z.elim (bz h11) (bz h20))]; exact y1⟩
        · refine Sx.up (fun _ kk => r_aload_n 24 dX12_readProduct_23 rfl rfl kk) ?_
          refine Sx.up (fun _ kk => r_bipush (42) 26 dX12_readProduct_24 rfl (by decide) kk) ?_
          refine Sx.up (fun _ kk => r_callV (M := mX12_readProduct) (pc := 26) 29 dX12_readProduct_26 rfl k12_226 (md_isM (d := d + e + 9) y1) rfl rfl rfl (by decide) rfl lt95 (Nat.le_of_ble_eq_true rfl) kk) ?_
          refine Sx.br (fun _ ka kb => r_if_eq 32 37 dX12_readProduct_29 rfl (by decide) ka kb) (by first | exact em1 | exact em2) (fun h29 => ?_) (fun h29 => ?_)
          · have hc : prodC T s = true := by unfold prodC; rw [Bool.or_eq_true]; first | exact Or.inl (bnz h11) | exact Or.inr (bnz h20)
            have hop : (if sgS T 42 s = true then (-15 : Int32) else -16) = -16 := if_neg (bz h29)
            have hmo : (-23 : Int32) = mS (-16) := by decide
            refine Sx.up (fun _ kk => r_bipush (-23) 39 dX12_readProduct_37 rfl (by decide) kk) ?_
            refine Sx.less (ls := [some (.ref 95), some (.int w), none]) (by exact ⟨rfl, rfl, trivial⟩) ?_
            refine Sx.up (fun _ kk => r_istore_n 40 dX12_readProduct_39 rfl (by decide) rfl kk) ?_
            refine Sx.up (fun _ kk => r_aload_n 41 dX12_readProduct_40 rfl rfl kk) ?_
            obtain ⟨_, ⟨E8, rfl, y8⟩, hcl8⟩ := md_adv (d := d + e + 8) y1 (lv_liv (T := T) (liv_or hc))
            refine Sx.up (fun _ kk => r_callV (M := mX12_readProduct) (pc := 41) 44 dX12_readProduct_41 rfl k12_233 hcl8 rfl rfl rfl (by decide) rfl lt95 (Nat.le_of_ble_eq_true rfl) kk) ?_
            refine Sx.up (fun _ kk => r_aload_n 45 dX12_readProduct_44 rfl rfl kk) ?_
            refine Sx.up (fun _ kk => r_iload_n 46 dX12_readProduct_45 rfl rfl kk) ?_
            obtain ⟨_, ⟨E9, rfl, y9⟩, hcl9⟩ := md_part y8 (slk_mono (by decide) (slk_adv (liv_or hc) hs1)) hw hl hex
            refine Sx.up (fun _ kk => r_callV (M := mX12_readProduct) (pc := 46) 49 dX12_readProduct_46 rfl k12_255 hcl9 rfl rfl rfl (by decide) rfl lt95 (Nat.le_of_ble_eq_true rfl) kk) ?_
            refine Sx.up (fun _ kk => r_aload_n 50 dX12_readProduct_49 rfl rfl kk) ?_
            refine Sx.up (fun _ kk => r_iload_n 51 dX12_readProduct_50 rfl rfl kk) ?_
            obtain ⟨_, ⟨E10, rfl, y10⟩, hcl10⟩ := md_lay (d := d + e + 9) (x := if sgS T 42 s = true then -15 else -16) y9 (slk_mono (by decide) (slk_ext (ex_part l _) (slk_adv (liv_or hc) hs1))) (fun q z => hmo.trans (congrArg mS hop.symm))
            refine Sx.up (fun _ kk => r_callV (M := mX12_readProduct) (pc := 51) 54 dX12_readProduct_51 rfl k12_242 hcl10 rfl rfl rfl (by decide) rfl lt95 (Nat.le_of_ble_eq_true rfl) kk) ?_
            refine Sx.up (fun _ kk => r_goto 5 dX12_readProduct_54 (by decide) kk) ?_
            rw [hy hc]
            exact ih (by omega) _ _ _ y10 (slk_ru (slk_ext (ex_part l _) (slk_adv (liv_or hc) hs1))) (by have h9 : aft (600 - f) (prodB T (exprS T l) s) := aft_ru (aft_ext (ex_part l _) (aft_mono (by omega) (aft_adv (liv_or hc) ha))); exact h9)
          · have hc : prodC T s = true := by unfold prodC; rw [Bool.or_eq_true]; first | exact Or.inl (bnz h11) | exact Or.inr (bnz h20)
            have hop : (if sgS T 42 s = true then (-15 : Int32) else -16) = -15 := if_pos (bnz h29)
            have hmo : (-22 : Int32) = mS (-15) := by decide
            refine Sx.up (fun _ kk => r_bipush (-22) 34 dX12_readProduct_32 rfl (by decide) kk) ?_
            refine Sx.up (fun _ kk => r_goto 39 dX12_readProduct_34 (by decide) kk) ?_
            refine Sx.less (ls := [some (.ref 95), some (.int w), none]) (by exact ⟨rfl, rfl, trivial⟩) ?_
            refine Sx.up (fun _ kk => r_istore_n 40 dX12_readProduct_39 rfl (by decide) rfl kk) ?_
            refine Sx.up (fun _ kk => r_aload_n 41 dX12_readProduct_40 rfl rfl kk) ?_
            obtain ⟨_, ⟨E11, rfl, y11⟩, hcl11⟩ := md_adv (d := d + e + 8) y1 (lv_liv (T := T) (liv_or hc))
            refine Sx.up (fun _ kk => r_callV (M := mX12_readProduct) (pc := 41) 44 dX12_readProduct_41 rfl k12_233 hcl11 rfl rfl rfl (by decide) rfl lt95 (Nat.le_of_ble_eq_true rfl) kk) ?_
            refine Sx.up (fun _ kk => r_aload_n 45 dX12_readProduct_44 rfl rfl kk) ?_
            refine Sx.up (fun _ kk => r_iload_n 46 dX12_readProduct_45 rfl rfl kk) ?_
            obtain ⟨_, ⟨E12, rfl, y12⟩, hcl12⟩ := md_part y11 (slk_mono (by decide) (slk_adv (liv_or hc) hs1)) hw hl hex
            refine Sx.up (fun _ kk => r_callV (M := mX12_readProduct) (pc := 46) 49 dX12_readProduct_46 rfl k12_255 hcl12 rfl rfl rfl (by decide) rfl lt95 (Nat.le_of_ble_eq_true rfl) kk) ?_
            refine Sx.up (fun _ kk => r_aload_n 50 dX12_readProduct_49 rfl rfl kk) ?_
            refine Sx.up (fun _ kk => r_iload_n 51 dX12_readProduct_50 rfl rfl kk) ?_
            obtain ⟨_, ⟨E13, rfl, y13⟩, hcl13⟩ := md_lay (d := d + e + 9) (x := if sgS T 42 s = true then -15 else -16) y12 (slk_mono (by decide) (slk_ext (ex_part l _) (slk_adv (liv_or hc) hs1))) (fun q z => hmo.trans (congrArg mS hop.symm))
            refine Sx.up (fun _ kk => r_callV (M := mX12_readProduct) (pc := 51) 54 dX12_readProduct_51 rfl k12_242 hcl13 rfl rfl rfl (by decide) rfl lt95 (Nat.le_of_ble_eq_true rfl) kk) ?_
            refine Sx.up (fun _ kk => r_goto 5 dX12_readProduct_54 (by decide) kk) ?_
            rw [hy hc]
            exact ih (by omega) _ _ _ y13 (slk_ru (slk_ext (ex_part l _) (slk_adv (liv_or hc) hs1))) (by have h9 : aft (600 - f) (prodB T (exprS T l) s) := aft_ru (aft_ext (ex_part l _) (aft_mono (by omega) (aft_adv (liv_or hc) ha))); exact h9)
  refine Sx.up (fun _ kk => r_aload_n 1 dX12_readProduct_0 rfl rfl kk) ?_
  refine Sx.up (fun _ kk => r_iload_n 2 dX12_readProduct_1 rfl rfl kk) ?_
  obtain ⟨_, ⟨E2, rfl, y2⟩, hcl2⟩ := md_part y1 hs hw hl hex
  refine Sx.up (fun _ kk => r_callV (M := mX12_readProduct) (pc := 2) 5 dX12_readProduct_2 rfl k12_255 hcl2 rfl rfl rfl (by decide) rfl lt95 (Nat.le_of_ble_eq_true rfl) kk) ?_
  exact loop 600 (Nat.le_refl _) _ _ _ y2 hs0 (aft_0 _)
set_option maxHeartbeats 16000000 in
set_option maxRecDepth 20000 in
theorem md_sum {d e l : Nat} {E0 E : HP} {T : TX} {s : PS} {w : Int32} (y1 : CMd E0 E T s) (hs : slk 1 s) (hw : w = nI (6 - (l + 1))) (hl : l + 1 ≤ 6) (hex : ∀ {E : HP} {s : PS} {w : Int32}, CMd E0 E T s → slk 1 s → w = nI (6 - l) → ∃ o, (∃ E2, o = (.inl none, E2, 137) ∧ CMd E0 E2 T (exprS T l s)) ∧ Cl yX12_readExpression mX12_readExpression (d + e + 8) 0 0 [.ref 95, .int w] E 137 o) : ∃ o, (∃ E2, o = (.inl none, E2, 137) ∧ CMd E0 E2 T (sumS T (exprS T l) s)) ∧ Cl yX12_readSum mX12_readSum (d + e + 8 + 3) 0 0 [.ref 95, .int w] E 137 o := by
  have hs0 : slk 1 (prodS T (exprS T l) s) := slk_ext (ex_prod l s) hs
  have hTx := md_T y1
  refine Cx.of (by decide) rfl (fun q => by cases q) rfl rfl (Nat.le_of_ble_eq_true rfl) ?_
  show Sx _ _ _ _ _ 0 [some (.ref 95), some (.int (w)), none] [] _ _
  have loop : ∀ f, f ≤ 600 → ∀ E s x8, CMd E0 E T s → slk 1 s → aft (600 - f) s → Sx mX12_readSum (d + e + 8 + 3) 0 0 (fun o => ∃ E2, o = (.inl none, E2, 137) ∧ CMd E0 E2 T (loopS (sumC T) (sumB T (exprS T l)) f s)) 5 [some (.ref 95), some (.int w), x8] [] E 137 := by
    intro f
    induction f with
    | zero =>
      intro _ E s x8 y1 hs1 ha
      have hn1 := aft_sg (T := T) (c := 43) hTx ha
      have hn2 := aft_sg (T := T) (c := 45) hTx ha
      refine Sx.up (fun _ kk => r_aload_n 6 dX12_readSum_5 rfl rfl kk) ?_
      refine Sx.up (fun _ kk => r_bipush (43) 8 dX12_readSum_6 rfl (by decide) kk) ?_
      refine Sx.up (fun _ kk => r_callV (M := mX12_readSum) (pc := 8) 11 dX12_readSum_8 rfl k12_226 (md_isM (d := d + e + 10) y1) rfl rfl rfl (by decide) rfl lt95 (Nat.le_of_ble_eq_true rfl) kk) ?_
      refine Sx.up (fun _ kk => r_if_ne 14 23 dX12_readSum_11 rfl (by decide) (fun h11 => absurd h11 (fun z => z (bI_f hn1))) (fun _ => kk)) ?_
      refine Sx.up (fun _ kk => r_aload_n 15 dX12_readSum_14 rfl rfl kk) ?_
      refine Sx.up (fun _ kk => r_bipush (45) 17 dX12_readSum_15 rfl (by decide) kk) ?_
      refine Sx.up (fun _ kk => r_callV (M := mX12_readSum) (pc := 17) 20 dX12_readSum_17 rfl k12_226 (md_isM (d := d + e + 10) y1) rfl rfl rfl (by decide) rfl lt95 (Nat.le_of_ble_eq_true rfl) kk) ?_
      refine Sx.up (fun _ kk => r_if_eq 23 57 dX12_readSum_20 rfl (by decide) (fun _ => kk) (fun h20 => absurd (bI_f hn2) h20)) ?_
      refine ⟨_, ?_, r_vret dX12_readSum_57 rfl rfl rfl⟩
      exact ⟨_, rfl, y1⟩
    | succ f ih =>
      intro hf E s x8 y1 hs1 ha
      have hy : sumC T s = true → loopS (sumC T) (sumB T (exprS T l)) (f + 1) s = loopS (sumC T) (sumB T (exprS T l)) f (sumB T (exprS T l) s) := fun z => if_pos z
      have hn : ¬ sumC T s = true → loopS (sumC T) (sumB T (exprS T l)) (f + 1) s = s := fun z => if_neg z
      refine Sx.up (fun _ kk => r_aload_n 6 dX12_readSum_5 rfl rfl kk) ?_
      refine Sx.up (fun _ kk => r_bipush (43) 8 dX12_readSum_6 rfl (by decide) kk) ?_
      refine Sx.up (fun _ kk => r_callV (M := mX12_readSum) (pc := 8) 11 dX12_readSum_8 rfl k12_226 (md_isM (d := d + e + 10) y1) rfl rfl rfl (by decide) rfl lt95 (Nat.le_of_ble_eq_true rfl) kk) ?_
      refine Sx.br (fun _ ka kb => r_if_ne 14 23 dX12_readSum_11 rfl (by decide) ka kb) (by first | exact em1 | exact em2) (fun h11 => ?_) (fun h11 => ?_)
      · refine Sx.up (fun _ kk => r_aload_n 24 dX12_readSum_23 rfl rfl kk) ?_
        refine Sx.up (fun _ kk => r_bipush (43) 26 dX12_readSum_24 rfl (by decide) kk) ?_
        refine Sx.up (fun _ kk => r_callV (M := mX12_readSum) (pc := 26) 29 dX12_readSum_26 rfl k12_226 (md_isM (d := d + e + 10) y1) rfl rfl rfl (by decide) rfl lt95 (Nat.le_of_ble_eq_true rfl) kk) ?_
        refine Sx.br (fun _ ka kb => r_if_eq 32 37 dX12_readSum_29 rfl (by decide) ka kb) (by first | exact em1 | exact em2) (fun h29 => ?_) (fun h29 => ?_)
        · have hc : sumC T s = true := by unfold sumC; rw [Bool.or_eq_true]; first | exact Or.inl (bnz h11) | exact Or.inr (bnz h20)
          have hop : (if sgS T 43 s = true then (-13 : Int32) else -14) = -14 := if_neg (bz h29)
          have hmo : (-21 : Int32) = mS (-14) := by decide
          refine Sx.up (fun _ kk => r_bipush (-21) 39 dX12_readSum_37 rfl (by decide) kk) ?_
          refine Sx.less (ls := [some (.ref 95), some (.int w), none]) (by exact ⟨rfl, rfl, trivial⟩) ?_
          refine Sx.up (fun _ kk => r_istore_n 40 dX12_readSum_39 rfl (by decide) rfl kk) ?_
          refine Sx.up (fun _ kk => r_aload_n 41 dX12_readSum_40 rfl rfl kk) ?_
          obtain ⟨_, ⟨E2, rfl, y2⟩, hcl2⟩ := md_adv (d := d + e + 9) y1 (lv_liv (T := T) (liv_or hc))
          refine Sx.up (fun _ kk => r_callV (M := mX12_readSum) (pc := 41) 44 dX12_readSum_41 rfl k12_233 hcl2 rfl rfl rfl (by decide) rfl lt95 (Nat.le_of_ble_eq_true rfl) kk) ?_
          refine Sx.up (fun _ kk => r_aload_n 45 dX12_readSum_44 rfl rfl kk) ?_
          refine Sx.up (fun _ kk => r_iload_n 46 dX12_readSum_45 rfl rfl kk) ?_
          obtain ⟨_, ⟨E3, rfl, y3⟩, hcl3⟩ := md_prod y2 (slk_mono (by decide) (slk_adv (liv_or hc) hs1)) hw hl hex
          refine Sx.up (fun _ kk => r_callV (M := mX12_readSum) (pc := 46) 49 dX12_readSum_46 rfl k12_258 hcl3 rfl rfl rfl (by decide) rfl lt95 (Nat.le_of_ble_eq_true rfl) kk) ?_
          refine Sx.up (fun _ kk => r_aload_n 50 dX12_readSum_49 rfl rfl kk) ?_
          refine Sx.up (fun _ kk => r_iload_n 51 dX12_readSum_50 rfl rfl kk) ?_
          obtain ⟨_, ⟨E4, rfl, y4⟩, hcl4⟩ := md_lay (d := d + e + 10) (x := if sgS T 43 s = true then -13 else -14) y3 (slk_mono (by decide) (slk_ext (ex_prod l _) (slk_adv (liv_or hc) hs1))) (fun q z => hmo.trans (congrArg mS hop.symm))
          refine Sx.up (fun _ kk => r_callV (M := mX12_readSum) (pc := 51) 54 dX12_readSum_51 rfl k12_242 hcl4 rfl rfl rfl (by decide) rfl lt95 (Nat.le_of_ble_eq_true rfl) kk) ?_
          refine Sx.up (fun _ kk => r_goto 5 dX12_readSum_54 (by decide) kk) ?_
          rw [hy hc]
          exact ih (by omega) _ _ _ y4 (slk_ru (slk_ext (ex_prod l _) (slk_adv (liv_or hc) hs1))) (by have h9 : aft (600 - f) (sumB T (exprS T l) s) := aft_ru (aft_ext (ex_prod l _) (aft_mono (by omega) (aft_adv (liv_or hc) ha))); exact h9)
        · have hc : sumC T s = true := by unfold sumC; rw [Bool.or_eq_true]; first | exact Or.inl (bnz h11) | exact Or.inr (bnz h20)
          have hop : (if sgS T 43 s = true then (-13 : Int32) else -14) = -13 := if_pos (bnz h29)
          have hmo : (-20 : Int32) = mS (-13) := by decide
          refine Sx.up (fun _ kk => r_bipush (-20) 34 dX12_readSum_32 rfl (by decide) kk) ?_
          refine Sx.up (fun _ kk => r_goto 39 dX12_readSum_34 (by decide) kk) ?_
          refine Sx.less (ls := [some (.ref 95), some (.int w), none]) (by exact ⟨rfl, rfl, trivial⟩) ?_
          refine Sx.up (fun _ kk => r_istore_n 40 dX12_readSum_39 rfl (by decide) rfl kk) ?_
          refine Sx.up (fun _ kk => r_aload_n 41 dX12_readSum_40 rfl rfl kk) ?_
          obtain ⟨_, ⟨E5, rfl, y5⟩, hcl5⟩ := md_adv (d := d + e + 9) y1 (lv_liv (T := T) (liv_or hc))
          refine Sx.up (fun _ kk => r_callV (M := mX12_readSum) (pc := 41) 44 dX12_readSum_41 rfl k12_233 hcl5 rfl rfl rfl (by decide) rfl lt95 (Nat.le_of_ble_eq_true rfl) kk) ?_
          refine Sx.up (fun _ kk => r_aload_n 45 dX12_readSum_44 rfl rfl kk) ?_
          refine Sx.up (fun _ kk => r_iload_n 46 dX12_readSum_45 rfl rfl kk) ?_
          obtain ⟨_, ⟨E6, rfl, y6⟩, hcl6⟩ := md_prod y5 (slk_mono (by decide) (slk_adv (liv_or hc) hs1)) hw hl hex
          refine Sx.up (fun _ kk => r_callV (M := mX12_readSum) (pc := 46) 49 dX12_readSum_46 rfl k12_258 hcl6 rfl rfl rfl (by decide) rfl lt95 (Nat.le_of_ble_eq_true rfl) kk) ?_
          refine Sx.up (fun _ kk => r_aload_n 50 dX12_readSum_49 rfl rfl kk) ?_
          refine Sx.up (fun _ kk => r_iload_n 51 dX12_readSum_50 rfl rfl kk) ?_
          obtain ⟨_, ⟨E7, rfl, y7⟩, hcl7⟩ := md_lay (d := d + e + 10) (x := if sgS T 43 s = true then -13 else -14) y6 (slk_mono (by decide) (slk_ext (ex_prod l _) (slk_adv (liv_or hc) hs1))) (fun q z => hmo.trans (congrArg mS hop.symm))
          refine Sx.up (fun _ kk => r_callV (M := mX12_readSum) (pc := 51) 54 dX12_readSum_51 rfl k12_242 hcl7 rfl rfl rfl (by decide) rfl lt95 (Nat.le_of_ble_eq_true rfl) kk) ?_
          refine Sx.up (fun _ kk => r_goto 5 dX12_readSum_54 (by decide) kk) ?_
          rw [hy hc]
          exact ih (by omega) _ _ _ y7 (slk_ru (slk_ext (ex_prod l _) (slk_adv (liv_or hc) hs1))) (by have h9 : aft (600 - f) (sumB T (exprS T l) s) := aft_ru (aft_ext (ex_prod l _) (aft_mono (by omega) (aft_adv (liv_or hc) ha))); exact h9)
      · refine Sx.up (fun _ kk => r_aload_n 15 dX12_readSum_14 rfl rfl kk) ?_
        refine Sx.up (fun _ kk => r_bipush (45) 17 dX12_readSum_15 rfl (by decide) kk) ?_
        refine Sx.up (fun _ kk => r_callV (M := mX12_readSum) (pc := 17) 20 dX12_readSum_17 rfl k12_226 (md_isM (d := d + e + 10) y1) rfl rfl rfl (by decide) rfl lt95 (Nat.le_of_ble_eq_true rfl) kk) ?_
        refine Sx.br (fun _ ka kb => r_if_eq 23 57 dX12_readSum_20 rfl (by decide) ka kb) (by first | exact em1 | exact em2) (fun h20 => ?_) (fun h20 => ?_)
        · refine ⟨_, ?_, r_vret dX12_readSum_57 rfl rfl rfl⟩
          exact ⟨_, rfl, by rw [hn (fun z => by unfold sumC at z; rw [Bool.or_eq_true] at z; exact z.elim (bz h11) (bz h20))]; exact y1⟩
        · refine Sx.up (fun _ kk => r_aload_n 24 dX12_readSum_23 rfl rfl kk) ?_
          refine Sx.up (fun _ kk => r_bipush (43) 26 dX12_readSum_24 rfl (by decide) kk) ?_
          refine Sx.up (fun _ kk => r_callV (M := mX12_readSum) (pc := 26) 29 dX12_readSum_26 rfl k12_226 (md_isM (d := d + e + 10) y1) rfl rfl rfl (by decide) rfl lt95 (Nat.le_of_ble_eq_true rfl) kk) ?_
          refine Sx.br (fun _ ka kb => r_if_eq 32 37 dX12_readSum_29 rfl (by decide) ka kb) (by first | exact em1 | exact em2) (fun h29 => ?_) (fun h29 => ?_)
          · have hc : sumC T s = true := by unfold sumC; rw [Bool.or_eq_true]; first | exact Or.inl (bnz h11) | exact Or.inr (bnz h20)
            have hop : (if sgS T 43 s = true then (-13 : Int32) else -14) = -14 := if_neg (bz h29)
            have hmo : (-21 : Int32) = mS (-14) := by decide
            refine Sx.up (fun _ kk => r_bipush (-21) 39 dX12_readSum_37 rfl (by decide) kk) ?_
            refine Sx.less (ls := [some (.ref 95), some (.int w), none]) (by exact ⟨rfl, rfl, trivial⟩) ?_
            refine Sx.up (fun _ kk => r_istore_n 40 dX12_readSum_39 rfl (by decide) rfl kk) ?_
            refine Sx.up (fun _ kk => r_aload_n 41 dX12_readSum_40 rfl rfl kk) ?_
            obtain ⟨_, ⟨E8, rfl, y8⟩, hcl8⟩ := md_adv (d := d + e + 9) y1 (lv_liv (T := T) (liv_or hc))
            refine Sx.up (fun _ kk => r_callV (M := mX12_readSum) (pc := 41) 44 dX12_readSum_41 rfl k12_233 hcl8 rfl rfl rfl (by decide) rfl lt95 (Nat.le_of_ble_eq_true rfl) kk) ?_
            refine Sx.up (fun _ kk => r_aload_n 45 dX12_readSum_44 rfl rfl kk) ?_
            refine Sx.up (fun _ kk => r_iload_n 46 dX12_readSum_45 rfl rfl kk) ?_
            obtain ⟨_, ⟨E9, rfl, y9⟩, hcl9⟩ := md_prod y8 (slk_mono (by decide) (slk_adv (liv_or hc) hs1)) hw hl hex
            refine Sx.up (fun _ kk => r_callV (M := mX12_readSum) (pc := 46) 49 dX12_readSum_46 rfl k12_258 hcl9 rfl rfl rfl (by decide) rfl lt95 (Nat.le_of_ble_eq_true rfl) kk) ?_
            refine Sx.up (fun _ kk => r_aload_n 50 dX12_readSum_49 rfl rfl kk) ?_
            refine Sx.up (fun _ kk => r_iload_n 51 dX12_readSum_50 rfl rfl kk) ?_
            obtain ⟨_, ⟨E10, rfl, y10⟩, hcl10⟩ := md_lay (d := d + e + 10) (x := if sgS T 43 s = true then -13 else -14) y9 (slk_mono (by decide) (slk_ext (ex_prod l _) (slk_adv (liv_or hc) hs1))) (fun q z => hmo.trans (congrArg mS hop.symm))
            refine Sx.up (fun _ kk => r_callV (M := mX12_readSum) (pc := 51) 54 dX12_readSum_51 rfl k12_242 hcl10 rfl rfl rfl (by decide) rfl lt95 (Nat.le_of_ble_eq_true rfl) kk) ?_
            refine Sx.up (fun _ kk => r_goto 5 dX12_readSum_54 (by decide) kk) ?_
            rw [hy hc]
            exact ih (by omega) _ _ _ y10 (slk_ru (slk_ext (ex_prod l _) (slk_adv (liv_or hc) hs1))) (by have h9 : aft (600 - f) (sumB T (exprS T l) s) := aft_ru (aft_ext (ex_prod l _) (aft_mono (by omega) (aft_adv (liv_or hc) ha))); exact h9)
          · have hc : sumC T s = true := by unfold sumC; rw [Bool.or_eq_true]; first | exact Or.inl (bnz h11) | exact Or.inr (bnz h20)
            have hop : (if sgS T 43 s = true then (-13 : Int32) else -14) = -13 := if_pos (bnz h29)
            have hmo : (-20 : Int32) = mS (-13) := by decide
            refine Sx.up (fun _ kk => r_bipush (-20) 34 dX12_readSum_32 rfl (by decide) kk) ?_
            refine Sx.up (fun _ kk => r_goto 39 dX12_readSum_34 (by decide) kk) ?_
            refine Sx.less (ls := [some (.ref 95), some (.int w), none]) (by exact ⟨rfl, rfl, trivial⟩) ?_
            refine Sx.up (fun _ kk => r_istore_n 40 dX12_readSum_39 rfl (by decide) rfl kk) ?_
            refine Sx.up (fun _ kk => r_aload_n 41 dX12_readSum_40 rfl rfl kk) ?_
            obtain ⟨_, ⟨E11, rfl, y11⟩, hcl11⟩ := md_adv (d := d + e + 9) y1 (lv_liv (T := T) (liv_or hc))
            refine Sx.up (fun _ kk => r_callV (M := mX12_readSum) (pc := 41) 44 dX12_readSum_41 rfl k12_233 hcl11 rfl rfl rfl (by decide) rfl lt95 (Nat.le_of_ble_eq_true rfl) kk) ?_
            refine Sx.up (fun _ kk => r_aload_n 45 dX12_readSum_44 rfl rfl kk) ?_
            refine Sx.up (fun _ kk => r_iload_n 46 dX12_readSum_45 rfl rfl kk) ?_
            obtain ⟨_, ⟨E12, rfl, y12⟩, hcl12⟩ := md_prod y11 (slk_mono (by decide) (slk_adv (liv_or hc) hs1)) hw hl hex
            refine Sx.up (fun _ kk => r_callV (M := mX12_readSum) (pc := 46) 49 dX12_readSum_46 rfl k12_258 hcl12 rfl rfl rfl (by decide) rfl lt95 (Nat.le_of_ble_eq_true rfl) kk) ?_
            refine Sx.up (fun _ kk => r_aload_n 50 dX12_readSum_49 rfl rfl kk) ?_
            refine Sx.up (fun _ kk => r_iload_n 51 dX12_readSum_50 rfl rfl kk) ?_
            obtain ⟨_, ⟨E13, rfl, y13⟩, hcl13⟩ := md_lay (d := d + e + 10) (x := if sgS T 43 s = true then -13 else -14) y12 (slk_mono (by decide) (slk_ext (ex_prod l _) (slk_adv (liv_or hc) hs1))) (fun q z => hmo.trans (congrArg mS hop.symm))
            refine Sx.up (fun _ kk => r_callV (M := mX12_readSum) (pc := 51) 54 dX12_readSum_51 rfl k12_242 hcl13 rfl rfl rfl (by decide) rfl lt95 (Nat.le_of_ble_eq_true rfl) kk) ?_
            refine Sx.up (fun _ kk => r_goto 5 dX12_readSum_54 (by decide) kk) ?_
            rw [hy hc]
            exact ih (by omega) _ _ _ y13 (slk_ru (slk_ext (ex_prod l _) (slk_adv (liv_or hc) hs1))) (by have h9 : aft (600 - f) (sumB T (exprS T l) s) := aft_ru (aft_ext (ex_prod l _) (aft_mono (by omega) (aft_adv (liv_or hc) ha))); exact h9)
  refine Sx.up (fun _ kk => r_aload_n 1 dX12_readSum_0 rfl rfl kk) ?_
  refine Sx.up (fun _ kk => r_iload_n 2 dX12_readSum_1 rfl rfl kk) ?_
  obtain ⟨_, ⟨E2, rfl, y2⟩, hcl2⟩ := md_prod y1 hs hw hl hex
  refine Sx.up (fun _ kk => r_callV (M := mX12_readSum) (pc := 2) 5 dX12_readSum_2 rfl k12_258 hcl2 rfl rfl rfl (by decide) rfl lt95 (Nat.le_of_ble_eq_true rfl) kk) ?_
  exact loop 600 (Nat.le_refl _) _ _ _ y2 hs0 (aft_0 _)
set_option maxHeartbeats 16000000 in
set_option maxRecDepth 20000 in
theorem md_not {d e l : Nat} {E0 E : HP} {T : TX} {s : PS} {w : Int32} (y1 : CMd E0 E T s) (hs : slk 1 s) (hw : w = nI (6 - (l + 1))) (hl : l + 1 ≤ 6) (hex : ∀ {E : HP} {s : PS} {w : Int32}, CMd E0 E T s → slk 1 s → w = nI (6 - l) → ∃ o, (∃ E2, o = (.inl none, E2, 137) ∧ CMd E0 E2 T (exprS T l s)) ∧ Cl yX12_readExpression mX12_readExpression (d + e + 8) 0 0 [.ref 95, .int w] E 137 o) : ∃ o, (∃ E2, o = (.inl none, E2, 137) ∧ CMd E0 E2 T (notS T (exprS T l) s)) ∧ Cl yX12_readNot mX12_readNot (d + e + 8 + 4) 0 0 [.ref 95, .int w] E 137 o := by
  obtain ⟨hn1, hn6⟩ := slk_not (T := T) hs
  obtain ⟨c, hc⟩ : ∃ c, (notN T 6 s).1 = c := ⟨_, rfl⟩
  obtain ⟨s1, hs1⟩ : ∃ s1, (notN T 6 s).2 = s1 := ⟨_, rfl⟩
  rw [hc, hs1] at hn1
  rw [hc] at hn6
  have hres : notS T (exprS T l) s = repS (-10) c (testS T (exprS T l) (notM T s1)) := by unfold notS; rw [hc, hs1]
  rw [hres]
  refine Cx.of (by decide) rfl (fun q => by cases q) rfl rfl (Nat.le_of_ble_eq_true rfl) ?_
  show Sx _ _ _ _ _ 0 [some (.ref 95), some (.int (w)), none, none] [] _ _
  have k94 : ∀ E cnt t x8, CMd E0 E T (testS T (exprS T l) t) → slk (1 + cnt) (testS T (exprS T l) t) → repS (-10) cnt (testS T (exprS T l) t) = repS (-10) c (testS T (exprS T l) (notM T s1)) → cnt ≤ 7 → Sx mX12_readNot (d + e + 8 + 4) 0 0 (fun o => ∃ E2, o = (.inl none, E2, 137) ∧ CMd E0 E2 T (repS (-10) c (testS T (exprS T l) (notM T s1)))) 94 [some (.ref 95), some (.int w), some (.int (nI cnt)), x8] [] E 137 := by
    intro E cnt t x8 y1 hsl he h7
    have loop := sxUp (σ := HP × PS) (S := fun k9 q => Sx mX12_readNot (d + e + 8 + 4) 0 0 (fun o => ∃ E2, o = (.inl none, E2, 137) ∧ CMd E0 E2 T (repS (-10) (cnt - k9) q.2)) 96 [some (.ref 95), some (.int w), some (.int (nI cnt)), some (.int (nI k9))] [] q.1 137) (Inv := fun k9 q => CMd E0 q.1 T q.2 ∧ slk (1 + (cnt - k9)) q.2) (a := 0) (l := cnt) (Nat.zero_le _) ?_ ?_
    · refine Sx.up (fun _ kk => r_iconst (0) 95 dX12_readNot_94 rfl (by decide) kk) ?_
      refine Sx.less (ls := [some (.ref 95), some (.int w), some (.int (nI cnt)), none]) (by exact ⟨rfl, rfl, rfl, trivial⟩) ?_
      refine Sx.up (fun _ kk => r_istore_n 96 dX12_readNot_95 rfl (by decide) rfl kk) ?_
      rw [← he]
      exact loop (E, _) ⟨y1, hsl⟩
    · intro q ⟨y1, hs9⟩
      refine Sx.up (fun _ kk => r_iload_n 97 dX12_readNot_96 rfl rfl kk) ?_
      refine Sx.up (fun _ kk => r_iload_n 98 dX12_readNot_97 rfl rfl kk) ?_
      refine Sx.up (fun _ kk => r_icmp_ge 101 113 dX12_readNot_98 rfl (by decide) (fun _ => kk) (fun h98 => absurd (nI_le (Nat.le_refl _) (by omega)) h98)) ?_
      refine ⟨_, ?_, r_vret dX12_readNot_113 rfl rfl rfl⟩
      exact ⟨_, rfl, by rw [Nat.sub_self]; exact y1⟩
    · intro k9 q hk0 hk9 ⟨y1, hs9⟩ hq
      obtain ⟨E, s⟩ := q
      have y1 : CMd E0 E T s := y1
      have hs9 : slk (1 + (cnt - k9)) s := hs9
      have hy : repS (-10) (cnt - k9) s = repS (-10) (cnt - (k9 + 1)) (ruS (-10) s) := by rw [show cnt - k9 = cnt - (k9 + 1) + 1 by omega]; rfl
      refine Sx.up (fun _ kk => r_iload_n 97 dX12_readNot_96 rfl rfl kk) ?_
      refine Sx.up (fun _ kk => r_iload_n 98 dX12_readNot_97 rfl rfl kk) ?_
      refine Sx.up (fun _ kk => r_icmp_ge 101 113 dX12_readNot_98 rfl (by decide) (fun h98 => absurd h98 (nI_ge hk9 (by omega))) (fun _ => kk)) ?_
      refine Sx.up (fun _ kk => r_aload_n 102 dX12_readNot_101 rfl rfl kk) ?_
      refine Sx.up (fun _ kk => r_bipush (-28) 104 dX12_readNot_102 rfl (by decide) kk) ?_
      obtain ⟨_, ⟨E2, rfl, y2⟩, hcl2⟩ := md_lay (d := d + e + 11) (v := -28) (x := -10) y1 (slk_mono (by omega) hs9) (fun q z => by decide)
      refine Sx.up (fun _ kk => r_callV (M := mX12_readNot) (pc := 104) 107 dX12_readNot_104 rfl k12_242 hcl2 rfl rfl rfl (by decide) rfl lt95 (Nat.le_of_ble_eq_true rfl) kk) ?_
      refine Sx.up (fun _ kk => r_iinc (1) 110 dX12_readNot_107 rfl rfl (by decide) (by decide) rfl kk) ?_
      refine Sx.up (fun _ kk => r_goto 96 dX12_readNot_110 (by decide) kk) ?_
      rw [hy]
      have hgo := hq (E2, _) ⟨y2, slk_ru (by rw [show 1 + (cnt - (k9 + 1)) + 1 = 1 + (cnt - k9) by omega]; exact hs9)⟩
      rw [nI_pp]
      exact hgo
  have k40 : ∀ E cnt t, CMd E0 E T t → slk (1 + cnt) t → repS (-10) cnt (testS T (exprS T l) t) = repS (-10) c (testS T (exprS T l) (notM T s1)) → cnt ≤ 7 → Sx mX12_readNot (d + e + 8 + 4) 0 0 (fun o => ∃ E2, o = (.inl none, E2, 137) ∧ CMd E0 E2 T (repS (-10) c (testS T (exprS T l) (notM T s1)))) 40 [some (.ref 95), some (.int w), some (.int (nI cnt)), none] [] E 137 := by
    intro E cnt t y1 hsl he h7
    have hsu : slk (1 + cnt) (sumS T (exprS T l) t) := slk_ext (ex_sum l t) hsl
    have hst : slk (1 + cnt) (testS T (exprS T l) t) := slk_ext (ex_test l t) hsl
    refine Sx.up (fun _ kk => r_aload_n 41 dX12_readNot_40 rfl rfl kk) ?_
    refine Sx.up (fun _ kk => r_iload_n 42 dX12_readNot_41 rfl rfl kk) ?_
    obtain ⟨_, ⟨E2, rfl, y2⟩, hcl2⟩ := md_sum y1 (slk_mono (by omega) hsl) hw hl hex
    refine Sx.up (fun _ kk => r_callV (M := mX12_readNot) (pc := 42) 45 dX12_readNot_42 rfl k12_263 hcl2 rfl rfl rfl (by decide) rfl lt95 (Nat.le_of_ble_eq_true rfl) kk) ?_
    refine Sx.up (fun _ kk => r_aload_n 46 dX12_readNot_45 rfl rfl kk) ?_
    refine Sx.up (fun _ kk => r_bipush (60) 48 dX12_readNot_46 rfl (by decide) kk) ?_
    refine Sx.up (fun _ kk => r_callV (M := mX12_readNot) (pc := 48) 51 dX12_readNot_48 rfl k12_226 (md_isM (d := d + e + 11) y2) rfl rfl rfl (by decide) rfl lt95 (Nat.le_of_ble_eq_true rfl) kk) ?_
    refine Sx.br (fun _ ka kb => r_if_ne 54 63 dX12_readNot_51 rfl (by decide) ka kb) (by first | exact em1 | exact em2) (fun h51 => ?_) (fun h51 => ?_)
    · refine Sx.up (fun _ kk => r_aload_n 64 dX12_readNot_63 rfl rfl kk) ?_
      refine Sx.up (fun _ kk => r_bipush (60) 66 dX12_readNot_64 rfl (by decide) kk) ?_
      refine Sx.up (fun _ kk => r_callV (M := mX12_readNot) (pc := 66) 69 dX12_readNot_66 rfl k12_226 (md_isM (d := d + e + 11) y2) rfl rfl rfl (by decide) rfl lt95 (Nat.le_of_ble_eq_true rfl) kk) ?_
      refine Sx.br (fun _ ka kb => r_if_eq 72 77 dX12_readNot_69 rfl (by decide) ka kb) (by first | exact em1 | exact em2) (fun h69 => ?_) (fun h69 => ?_)
      · have hc : testC T (sumS T (exprS T l) t) = true := by unfold testC; rw [Bool.or_eq_true]; first | exact Or.inl (bnz h51) | exact Or.inr (bnz h60)
        have hop : (if sgS T 60 (sumS T (exprS T l) t) = true then (-11 : Int32) else -12) = -12 := if_neg (bz h69)
        have hmo : (-25 : Int32) = mS (-12) := by decide
        have htest : testS T (exprS T l) t = testB T (exprS T l) (sumS T (exprS T l) t) := if_pos hc
        refine Sx.up (fun _ kk => r_bipush (-25) 79 dX12_readNot_77 rfl (by decide) kk) ?_
        refine Sx.up (fun _ kk => r_istore_n 80 dX12_readNot_79 rfl (by decide) rfl kk) ?_
        refine Sx.up (fun _ kk => r_aload_n 81 dX12_readNot_80 rfl rfl kk) ?_
        obtain ⟨_, ⟨E3, rfl, y3⟩, hcl3⟩ := md_adv (d := d + e + 10) y2 (lv_liv (T := T) (liv_or hc))
        refine Sx.up (fun _ kk => r_callV (M := mX12_readNot) (pc := 81) 84 dX12_readNot_81 rfl k12_233 hcl3 rfl rfl rfl (by decide) rfl lt95 (Nat.le_of_ble_eq_true rfl) kk) ?_
        refine Sx.up (fun _ kk => r_aload_n 85 dX12_readNot_84 rfl rfl kk) ?_
        refine Sx.up (fun _ kk => r_iload_n 86 dX12_readNot_85 rfl rfl kk) ?_
        obtain ⟨_, ⟨E4, rfl, y4⟩, hcl4⟩ := md_sum y3 (slk_mono (by omega) (slk_adv (liv_or hc) hsu)) hw hl hex
        refine Sx.up (fun _ kk => r_callV (M := mX12_readNot) (pc := 86) 89 dX12_readNot_86 rfl k12_263 hcl4 rfl rfl rfl (by decide) rfl lt95 (Nat.le_of_ble_eq_true rfl) kk) ?_
        refine Sx.up (fun _ kk => r_aload_n 90 dX12_readNot_89 rfl rfl kk) ?_
        refine Sx.up (fun _ kk => r_iload_n 91 dX12_readNot_90 rfl rfl kk) ?_
        obtain ⟨_, ⟨E5, rfl, y5⟩, hcl5⟩ := md_lay (d := d + e + 11) (x := if sgS T 60 (sumS T (exprS T l) t) = true then -11 else -12) y4 (slk_mono (by omega) (slk_ext (ex_sum l _) (slk_adv (liv_or hc) hsu))) (fun q z => hmo.trans (congrArg mS hop.symm))
        refine Sx.up (fun _ kk => r_callV (M := mX12_readNot) (pc := 91) 94 dX12_readNot_91 rfl k12_242 hcl5 rfl rfl rfl (by decide) rfl lt95 (Nat.le_of_ble_eq_true rfl) kk) ?_
        refine k94 E5 cnt t _ ?_ hst he h7
        first
        | (rw [htest]; exact y5)
        | (rw [show testS T (exprS T l) t = sumS T (exprS T l) t from if_neg (fun z => by unfold testC at z; rw [Bool.or_eq_true] at z; exact z.elim (bz h51) (bz h60))]; exact y5)
      · have hc : testC T (sumS T (exprS T l) t) = true := by unfold testC; rw [Bool.or_eq_true]; first | exact Or.inl (bnz h51) | exact Or.inr (bnz h60)
        have hop : (if sgS T 60 (sumS T (exprS T l) t) = true then (-11 : Int32) else -12) = -11 := if_pos (bnz h69)
        have hmo : (-24 : Int32) = mS (-11) := by decide
        have htest : testS T (exprS T l) t = testB T (exprS T l) (sumS T (exprS T l) t) := if_pos hc
        refine Sx.up (fun _ kk => r_bipush (-24) 74 dX12_readNot_72 rfl (by decide) kk) ?_
        refine Sx.up (fun _ kk => r_goto 79 dX12_readNot_74 (by decide) kk) ?_
        refine Sx.up (fun _ kk => r_istore_n 80 dX12_readNot_79 rfl (by decide) rfl kk) ?_
        refine Sx.up (fun _ kk => r_aload_n 81 dX12_readNot_80 rfl rfl kk) ?_
        obtain ⟨_, ⟨E6, rfl, y6⟩, hcl6⟩ := md_adv (d := d + e + 10) y2 (lv_liv (T := T) (liv_or hc))
        refine Sx.up (fun _ kk => r_callV (M := mX12_readNot) (pc := 81) 84 dX12_readNot_81 rfl k12_233 hcl6 rfl rfl rfl (by decide) rfl lt95 (Nat.le_of_ble_eq_true rfl) kk) ?_
        refine Sx.up (fun _ kk => r_aload_n 85 dX12_readNot_84 rfl rfl kk) ?_
        refine Sx.up (fun _ kk => r_iload_n 86 dX12_readNot_85 rfl rfl kk) ?_
        obtain ⟨_, ⟨E7, rfl, y7⟩, hcl7⟩ := md_sum y6 (slk_mono (by omega) (slk_adv (liv_or hc) hsu)) hw hl hex
        refine Sx.up (fun _ kk => r_callV (M := mX12_readNot) (pc := 86) 89 dX12_readNot_86 rfl k12_263 hcl7 rfl rfl rfl (by decide) rfl lt95 (Nat.le_of_ble_eq_true rfl) kk) ?_
        refine Sx.up (fun _ kk => r_aload_n 90 dX12_readNot_89 rfl rfl kk) ?_
        refine Sx.up (fun _ kk => r_iload_n 91 dX12_readNot_90 rfl rfl kk) ?_
        obtain ⟨_, ⟨E8, rfl, y8⟩, hcl8⟩ := md_lay (d := d + e + 11) (x := if sgS T 60 (sumS T (exprS T l) t) = true then -11 else -12) y7 (slk_mono (by omega) (slk_ext (ex_sum l _) (slk_adv (liv_or hc) hsu))) (fun q z => hmo.trans (congrArg mS hop.symm))
        refine Sx.up (fun _ kk => r_callV (M := mX12_readNot) (pc := 91) 94 dX12_readNot_91 rfl k12_242 hcl8 rfl rfl rfl (by decide) rfl lt95 (Nat.le_of_ble_eq_true rfl) kk) ?_
        refine k94 E8 cnt t _ ?_ hst he h7
        first
        | (rw [htest]; exact y8)
        | (rw [show testS T (exprS T l) t = sumS T (exprS T l) t from if_neg (fun z => by unfold testC at z; rw [Bool.or_eq_true] at z; exact z.elim (bz h51) (bz h60))]; exact y8)
    · refine Sx.up (fun _ kk => r_aload_n 55 dX12_readNot_54 rfl rfl kk) ?_
      refine Sx.up (fun _ kk => r_bipush (61) 57 dX12_readNot_55 rfl (by decide) kk) ?_
      refine Sx.up (fun _ kk => r_callV (M := mX12_readNot) (pc := 57) 60 dX12_readNot_57 rfl k12_226 (md_isM (d := d + e + 11) y2) rfl rfl rfl (by decide) rfl lt95 (Nat.le_of_ble_eq_true rfl) kk) ?_
      refine Sx.br (fun _ ka kb => r_if_eq 63 94 dX12_readNot_60 rfl (by decide) ka kb) (by first | exact em1 | exact em2) (fun h60 => ?_) (fun h60 => ?_)
      · refine k94 E2 cnt t _ ?_ hst he h7
        first
        | (rw [htest]; exact y2)
        | (rw [show testS T (exprS T l) t = sumS T (exprS T l) t from if_neg (fun z => by unfold testC at z; rw [Bool.or_eq_true] at z; exact z.elim (bz h51) (bz h60))]; exact y2)
      · refine Sx.up (fun _ kk => r_aload_n 64 dX12_readNot_63 rfl rfl kk) ?_
        refine Sx.up (fun _ kk => r_bipush (60) 66 dX12_readNot_64 rfl (by decide) kk) ?_
        refine Sx.up (fun _ kk => r_callV (M := mX12_readNot) (pc := 66) 69 dX12_readNot_66 rfl k12_226 (md_isM (d := d + e + 11) y2) rfl rfl rfl (by decide) rfl lt95 (Nat.le_of_ble_eq_true rfl) kk) ?_
        refine Sx.br (fun _ ka kb => r_if_eq 72 77 dX12_readNot_69 rfl (by decide) ka kb) (by first | exact em1 | exact em2) (fun h69 => ?_) (fun h69 => ?_)
        · have hc : testC T (sumS T (exprS T l) t) = true := by unfold testC; rw [Bool.or_eq_true]; first | exact Or.inl (bnz h51) | exact Or.inr (bnz h60)
          have hop : (if sgS T 60 (sumS T (exprS T l) t) = true then (-11 : Int32) else -12) = -12 := if_neg (bz h69)
          have hmo : (-25 : Int32) = mS (-12) := by decide
          have htest : testS T (exprS T l) t = testB T (exprS T l) (sumS T (exprS T l) t) := if_pos hc
          refine Sx.up (fun _ kk => r_bipush (-25) 79 dX12_readNot_77 rfl (by decide) kk) ?_
          refine Sx.up (fun _ kk => r_istore_n 80 dX12_readNot_79 rfl (by decide) rfl kk) ?_
          refine Sx.up (fun _ kk => r_aload_n 81 dX12_readNot_80 rfl rfl kk) ?_
          obtain ⟨_, ⟨E9, rfl, y9⟩, hcl9⟩ := md_adv (d := d + e + 10) y2 (lv_liv (T := T) (liv_or hc))
          refine Sx.up (fun _ kk => r_callV (M := mX12_readNot) (pc := 81) 84 dX12_readNot_81 rfl k12_233 hcl9 rfl rfl rfl (by decide) rfl lt95 (Nat.le_of_ble_eq_true rfl) kk) ?_
          refine Sx.up (fun _ kk => r_aload_n 85 dX12_readNot_84 rfl rfl kk) ?_
          refine Sx.up (fun _ kk => r_iload_n 86 dX12_readNot_85 rfl rfl kk) ?_
          obtain ⟨_, ⟨E10, rfl, y10⟩, hcl10⟩ := md_sum y9 (slk_mono (by omega) (slk_adv (liv_or hc) hsu)) hw hl hex
          refine Sx.up (fun _ kk => r_callV (M := mX12_readNot) (pc := 86) 89 dX12_readNot_86 rfl k12_263 hcl10 rfl rfl rfl (by decide) rfl lt95 (Nat.le_of_ble_eq_true rfl) kk) ?_
          refine Sx.up (fun _ kk => r_aload_n 90 dX12_readNot_89 rfl rfl kk) ?_
          refine Sx.up (fun _ kk => r_iload_n 91 dX12_readNot_90 rfl rfl kk) ?_
          obtain ⟨_, ⟨E11, rfl, y11⟩, hcl11⟩ := md_lay (d := d + e + 11) (x := if sgS T 60 (sumS T (exprS T l) t) = true then -11 else -12) y10 (slk_mono (by omega) (slk_ext (ex_sum l _) (slk_adv (liv_or hc) hsu))) (fun q z => hmo.trans (congrArg mS hop.symm))
          refine Sx.up (fun _ kk => r_callV (M := mX12_readNot) (pc := 91) 94 dX12_readNot_91 rfl k12_242 hcl11 rfl rfl rfl (by decide) rfl lt95 (Nat.le_of_ble_eq_true rfl) kk) ?_
          refine k94 E11 cnt t _ ?_ hst he h7
          first
          | (rw [htest]; exact y11)
          | (rw [show testS T (exprS T l) t = sumS T (exprS T l) t from if_neg (fun z => by unfold testC at z; rw [Bool.or_eq_true] at z; exact z.elim (bz h51) (bz h60))]; exact y11)
        · have hc : testC T (sumS T (exprS T l) t) = true := by unfold testC; rw [Bool.or_eq_true]; first | exact Or.inl (bnz h51) | exact Or.inr (bnz h60)
          have hop : (if sgS T 60 (sumS T (exprS T l) t) = true then (-11 : Int32) else -12) = -11 := if_pos (bnz h69)
          have hmo : (-24 : Int32) = mS (-11) := by decide
          have htest : testS T (exprS T l) t = testB T (exprS T l) (sumS T (exprS T l) t) := if_pos hc
          refine Sx.up (fun _ kk => r_bipush (-24) 74 dX12_readNot_72 rfl (by decide) kk) ?_
          refine Sx.up (fun _ kk => r_goto 79 dX12_readNot_74 (by decide) kk) ?_
          refine Sx.up (fun _ kk => r_istore_n 80 dX12_readNot_79 rfl (by decide) rfl kk) ?_
          refine Sx.up (fun _ kk => r_aload_n 81 dX12_readNot_80 rfl rfl kk) ?_
          obtain ⟨_, ⟨E12, rfl, y12⟩, hcl12⟩ := md_adv (d := d + e + 10) y2 (lv_liv (T := T) (liv_or hc))
          refine Sx.up (fun _ kk => r_callV (M := mX12_readNot) (pc := 81) 84 dX12_readNot_81 rfl k12_233 hcl12 rfl rfl rfl (by decide) rfl lt95 (Nat.le_of_ble_eq_true rfl) kk) ?_
          refine Sx.up (fun _ kk => r_aload_n 85 dX12_readNot_84 rfl rfl kk) ?_
          refine Sx.up (fun _ kk => r_iload_n 86 dX12_readNot_85 rfl rfl kk) ?_
          obtain ⟨_, ⟨E13, rfl, y13⟩, hcl13⟩ := md_sum y12 (slk_mono (by omega) (slk_adv (liv_or hc) hsu)) hw hl hex
          refine Sx.up (fun _ kk => r_callV (M := mX12_readNot) (pc := 86) 89 dX12_readNot_86 rfl k12_263 hcl13 rfl rfl rfl (by decide) rfl lt95 (Nat.le_of_ble_eq_true rfl) kk) ?_
          refine Sx.up (fun _ kk => r_aload_n 90 dX12_readNot_89 rfl rfl kk) ?_
          refine Sx.up (fun _ kk => r_iload_n 91 dX12_readNot_90 rfl rfl kk) ?_
          obtain ⟨_, ⟨E14, rfl, y14⟩, hcl14⟩ := md_lay (d := d + e + 11) (x := if sgS T 60 (sumS T (exprS T l) t) = true then -11 else -12) y13 (slk_mono (by omega) (slk_ext (ex_sum l _) (slk_adv (liv_or hc) hsu))) (fun q z => hmo.trans (congrArg mS hop.symm))
          refine Sx.up (fun _ kk => r_callV (M := mX12_readNot) (pc := 91) 94 dX12_readNot_91 rfl k12_242 hcl14 rfl rfl rfl (by decide) rfl lt95 (Nat.le_of_ble_eq_true rfl) kk) ?_
          refine k94 E14 cnt t _ ?_ hst he h7
          first
          | (rw [htest]; exact y14)
          | (rw [show testS T (exprS T l) t = sumS T (exprS T l) t from if_neg (fun z => by unfold testC at z; rw [Bool.or_eq_true] at z; exact z.elim (bz h51) (bz h60))]; exact y14)
  have loop := sxUp (σ := HP × PS) (S := fun k9 q => Sx mX12_readNot (d + e + 8 + 4) 0 0 (fun o => ∃ E2, o = (.inl none, E2, 137) ∧ CMd E0 E2 T (repS (-10) c (testS T (exprS T l) (notM T s1)))) 2 [some (.ref 95), some (.int w), some (.int (nI k9)), none] [] q.1 137) (Inv := fun k9 q => CMd E0 q.1 T q.2 ∧ k9 + (notN T (6 - k9) q.2).1 = c ∧ (notN T (6 - k9) q.2).2 = s1) (a := 0) (l := 6) (by omega) ?_ ?_
  · refine Sx.up (fun _ kk => r_iconst (0) 1 dX12_readNot_0 rfl (by decide) kk) ?_
    refine Sx.up (fun _ kk => r_istore_n 2 dX12_readNot_1 rfl (by decide) rfl kk) ?_
    exact loop (E, s) ⟨y1, by rw [← hc]; show 0 + _ = _; rw [Nat.zero_add], hs1⟩
  · intro q ⟨y1, e1, e2⟩
    obtain ⟨E, s⟩ := q
    have y1 : CMd E0 E T s := y1
    have e1 : c = 6 := e1.symm
    have e2 : s = s1 := e2
    subst e1
    subst e2
    by_cases hw9 : wdS T w_not s = true
    · have hm : notM T s = fltS 2 s := if_pos hw9
      obtain ⟨x9, hx9⟩ := flt_inl 2 s
      refine Sx.up (fun _ kk => r_aload_n 3 dX12_readNot_2 rfl rfl kk) ?_
      refine Sx.up (fun _ kk => r_ldcwS (i := 36) 6 dX12_readNot_3 rfl rfl kk) ?_
      refine Sx.up (fun _ kk => r_callV (M := mX12_readNot) (pc := 6) 9 dX12_readNot_6 rfl k12_222 (md_is (d := d + e + 7) (i := 36) (q := ("SpoonRowModel", 261, "not", w_not)) y1 rfl) rfl rfl rfl (by decide) rfl lt95 (Nat.le_of_ble_eq_true rfl) kk) ?_
      refine Sx.up (fun _ kk => r_if_eq 12 40 dX12_readNot_9 rfl (by decide) (fun h9 => absurd h9 (by rw [bI_t hw9]; decide)) (fun _ => kk)) ?_
      refine Sx.up (fun _ kk => r_iload_n 13 dX12_readNot_12 rfl rfl kk) ?_
      refine Sx.up (fun _ kk => r_bipush (6) 15 dX12_readNot_13 rfl (by decide) kk) ?_
      refine Sx.up (fun _ kk => r_icmp_ne 18 23 dX12_readNot_15 rfl (by decide) (fun h15 => absurd h15 (fun z => z rfl)) (fun _ => kk)) ?_
      refine Sx.up (fun _ kk => r_aload_n 19 dX12_readNot_18 rfl rfl kk) ?_
      refine Sx.up (fun _ kk => r_iconst (2) 20 dX12_readNot_19 rfl (by decide) kk) ?_
      obtain ⟨_, ⟨E2, rfl, y2⟩, hcl2⟩ := md_wrong (d := d + e + 11) y1 (k := 2) (k9 := 2) rfl (by decide) (by decide)
      refine Sx.up (fun _ kk => r_callV (M := mX12_readNot) (pc := 20) 23 dX12_readNot_20 rfl k12_229 hcl2 rfl rfl rfl (by decide) rfl lt95 (Nat.le_of_ble_eq_true rfl) kk) ?_
      refine Sx.up (fun _ kk => r_iinc (1) 26 dX12_readNot_23 rfl rfl (by decide) (by decide) rfl kk) ?_
      refine Sx.up (fun _ kk => r_aload_n 27 dX12_readNot_26 rfl rfl kk) ?_
      refine Sx.up (fun _ kk => r_getI 30 dX12_readNot_27 rfl f12_208 rfl rfl lt95 kk) ?_
      have y9 := y2
      rw [hx9] at y9
      refine Sx.up (fun _ kk => r_if_ne 33 2 dX12_readNot_30 rfl (by decide) (fun _ => kk) (fun h30 => absurd h30 (md_1b y9))) ?_
      skip
      refine Sx.up (fun _ kk => r_aload_n 3 dX12_readNot_2 rfl rfl kk) ?_
      refine Sx.up (fun _ kk => r_ldcwS (i := 36) 6 dX12_readNot_3 rfl rfl kk) ?_
      refine Sx.up (fun _ kk => r_callV (M := mX12_readNot) (pc := 6) 9 dX12_readNot_6 rfl k12_222 (md_is (d := d + e + 7) (i := 36) (q := ("SpoonRowModel", 261, "not", w_not)) y9 rfl) rfl rfl rfl (by decide) rfl lt95 (Nat.le_of_ble_eq_true rfl) kk) ?_
      refine Sx.up (fun _ kk => r_if_eq 12 40 dX12_readNot_9 rfl (by decide) (fun _ => kk) (fun h9 => absurd rfl h9)) ?_
      refine k40 _ 7 (.inl x9) y9 trivial ?_ (by decide)
      rw [hm, hx9, test_inl, rep_inl, rep_inl]
    · refine Sx.up (fun _ kk => r_aload_n 3 dX12_readNot_2 rfl rfl kk) ?_
      refine Sx.up (fun _ kk => r_ldcwS (i := 36) 6 dX12_readNot_3 rfl rfl kk) ?_
      refine Sx.up (fun _ kk => r_callV (M := mX12_readNot) (pc := 6) 9 dX12_readNot_6 rfl k12_222 (md_is (d := d + e + 7) (i := 36) (q := ("SpoonRowModel", 261, "not", w_not)) y1 rfl) rfl rfl rfl (by decide) rfl lt95 (Nat.le_of_ble_eq_true rfl) kk) ?_
      refine Sx.up (fun _ kk => r_if_eq 12 40 dX12_readNot_9 rfl (by decide) (fun _ => kk) (fun h9 => absurd (bI_f hw9) h9)) ?_
      refine k40 E 6 s y1 hn1 ?_ (by decide)
      rw [show notM T s = s from if_neg hw9]
  · intro k9 q hk0 hk9 ⟨y1, e1, e2⟩ hq
    obtain ⟨E, s⟩ := q
    have y1 : CMd E0 E T s := y1
    have e1 : k9 + (notN T (6 - k9) s).1 = c := e1
    have e2 : (notN T (6 - k9) s).2 = s1 := e2
    by_cases hw9 : wdS T w_not s = true
    · refine Sx.up (fun _ kk => r_aload_n 3 dX12_readNot_2 rfl rfl kk) ?_
      refine Sx.up (fun _ kk => r_ldcwS (i := 36) 6 dX12_readNot_3 rfl rfl kk) ?_
      refine Sx.up (fun _ kk => r_callV (M := mX12_readNot) (pc := 6) 9 dX12_readNot_6 rfl k12_222 (md_is (d := d + e + 7) (i := 36) (q := ("SpoonRowModel", 261, "not", w_not)) y1 rfl) rfl rfl rfl (by decide) rfl lt95 (Nat.le_of_ble_eq_true rfl) kk) ?_
      refine Sx.up (fun _ kk => r_if_eq 12 40 dX12_readNot_9 rfl (by decide) (fun h9 => absurd h9 (by rw [bI_t hw9]; decide)) (fun _ => kk)) ?_
      refine Sx.up (fun _ kk => r_iload_n 13 dX12_readNot_12 rfl rfl kk) ?_
      refine Sx.up (fun _ kk => r_bipush (6) 15 dX12_readNot_13 rfl (by decide) kk) ?_
      refine Sx.up (fun _ kk => r_icmp_ne 18 23 dX12_readNot_15 rfl (by decide) (fun _ => kk) (fun h15 => absurd h15 (fun z => by have := (nI_eq (b := 6) (by omega) (by omega)).mp z; omega))) ?_
      refine Sx.up (fun _ kk => r_iinc (1) 26 dX12_readNot_23 rfl rfl (by decide) (by decide) rfl kk) ?_
      refine Sx.up (fun _ kk => r_aload_n 27 dX12_readNot_26 rfl rfl kk) ?_
      refine Sx.up (fun _ kk => r_getI 30 dX12_readNot_27 rfl f12_208 rfl rfl lt95 kk) ?_
      refine Sx.up (fun _ kk => r_if_ne 33 2 dX12_readNot_30 rfl (by decide) (fun h30 => absurd h30 (fun z => z (md_0b y1 (lv_liv (liv_wd hw9))))) (fun _ => kk)) ?_
      refine Sx.up (fun _ kk => r_aload_n 34 dX12_readNot_33 rfl rfl kk) ?_
      obtain ⟨_, ⟨E2, rfl, y2⟩, hcl2⟩ := md_adv (d := d + e + 10) y1 (lv_liv (liv_wd hw9))
      refine Sx.up (fun _ kk => r_callV (M := mX12_readNot) (pc := 34) 37 dX12_readNot_34 rfl k12_233 hcl2 rfl rfl rfl (by decide) rfl lt95 (Nat.le_of_ble_eq_true rfl) kk) ?_
      refine Sx.up (fun _ kk => r_goto 2 dX12_readNot_37 (by decide) kk) ?_
      have e3 := not_y (T := T) (k := 6 - (k9 + 1)) hw9
      rw [show 6 - (k9 + 1) + 1 = 6 - k9 by omega] at e3
      rw [e3] at e1 e2
      have e1 : k9 + ((notN T (6 - (k9 + 1)) (advS T s)).1 + 1) = c := e1
      have hgo := hq (E2, _) ⟨y2, by show k9 + 1 + (notN T (6 - (k9 + 1)) (advS T s)).1 = c; omega, e2⟩
      rw [nI_pp]
      exact hgo
    · refine Sx.up (fun _ kk => r_aload_n 3 dX12_readNot_2 rfl rfl kk) ?_
      refine Sx.up (fun _ kk => r_ldcwS (i := 36) 6 dX12_readNot_3 rfl rfl kk) ?_
      refine Sx.up (fun _ kk => r_callV (M := mX12_readNot) (pc := 6) 9 dX12_readNot_6 rfl k12_222 (md_is (d := d + e + 7) (i := 36) (q := ("SpoonRowModel", 261, "not", w_not)) y1 rfl) rfl rfl rfl (by decide) rfl lt95 (Nat.le_of_ble_eq_true rfl) kk) ?_
      refine Sx.up (fun _ kk => r_if_eq 12 40 dX12_readNot_9 rfl (by decide) (fun _ => kk) (fun h9 => absurd (bI_f hw9) h9)) ?_
      have e3 := not_0 (T := T) (k := 6 - k9) hw9
      rw [e3] at e1 e2
      have e1 : k9 = c := e1
      have e2 : s = s1 := e2
      subst e1
      subst e2
      refine k40 E k9 s y1 hn1 ?_ (by omega)
      rw [show notM T s = s from if_neg hw9]
