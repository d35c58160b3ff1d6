/-! THE LAW'S HELPERS: each says by a number whether its call threw, and puts its answer into the law's long -/
theorem cx_less {G : GG} {M : MI} {d d2 : Nat} {p : Program} {l : Launch} {s : State} {m : MethodId} {args : Array Value} {meth : Method} {c : Code} {R : Room} (h : d2 ≤ d) (C : Cx G M d p l s m args meth c R) : Cx G M d2 p l s m args meth c R := by
  obtain ⟨a1, a2, a3, a4, a5, a6, a7, a8, a9, b1, b2, b3, b4, b5⟩ := C
  exact ⟨a1, a2, a3, a4, a5, a6, a7, a8, a9, b1, Nat.le_trans (by unfold frR; omega) b2, Nat.le_trans (by unfold loR; omega) b3, b4, b5⟩
/-- a call that wants less room than there is -/
theorem r_callVd {M M2 : MI} {d d2 bc bs bc2 bs2 n pc : Nat} {out : OUT} {ls : List (Option Value)} {st rest : List Value} {E : HP} {y : MethodName} {idx na b ci l9 n2 : Nat} {as : List Value} {v : Option Value} {E2 : HP} (hd2 : d2 ≤ d) (pc2 : Nat) (hd : decode M.2.1 pc = .ok (.invokevirtual idx, 3)) (hp : pc + 3 = pc2) (lk : LV M.1 idx na y M2) (hc : Cl y M2 d2 bc2 bs2 (.ref b :: as) E n (.inl v, E2, n2)) (hst : st = as.reverse ++ .ref b :: rest) (hna : as.length = na) (hb : sh b = (ci, l9)) (hci : ci < 13) (hcn : cn ci = y.cls) (hbn : b < n) (hr : (rest.map fun v => v.category).sum ≤ 8)
    (kk : Sm M (d + 1) bc bs out pc2 ls (v.toList ++ rest) E2 n2) : Sm M (d + 1) (bc + bc2) (bs + bs2) out pc ls st E n := by
  subst hp
  intro G p l e s m args below meth c R H locs cells slots lsA Q C F hS hW hl h1 h2
  refine run_ret (run_V (cx_less (Nat.succ_le_succ hd2) C) hS hW hl hd lk hc hst hna hb hci hcn hbn hr (by omega) (by omega)) hS fun H1 locs1 hS1 hW1 => ?_
  have := kk G p l e s m args below meth c R H1 locs1 (cells + bc2) (slots + bs2) lsA Q C F hS1 hW1 hl (by omega) (by omega)
  rw [List.map_append] at this
  cases v <;> exact this
/-- what comes of a helper, and of the model's call behind it -/
def OpH (y : MethodName) (M : MI) (yM : MethodName) (MM : MI) (as : List Value) (E : HP) : Prop :=
  ∃ k E2 bc2 bs2, bc2 ≤ 1 ∧ bs2 ≤ 6 ∧ Cl y M 61 bc2 bs2 (.ref 0 :: (as ++ [.ref 136])) E 137 (.inl (some (.int k)), E2, 137) ∧ ∃ w E3, Cl yM MM 60 0 0 (.ref 95 :: as) E2 137 (.inl (some (.int w)), E3, 137) ∧ gI E3 1538 95 = k ∧ (k = 0 → gL E3 136 0 = w.toInt64) ∧ Rel E3
set_option maxRecDepth 20000 in
theorem l_bed {E : HP} {x : Int32} (h : OpB [.int x] E) : OpH yL_bed mL_bed yX12_bed mX12_bed [.int x] E := by
  rcases h with ⟨v, E2, bc2, bs2, h1, h2, hc, E3, hm, g1, g2, hR⟩ | ⟨E2, hc, w9, E3, hm, g1, hR⟩
  · refine ⟨0, sL E2 136 0 v.toInt64, bc2, bs2, h1, h2, ?_, v, E3, hm, g1, fun _ => g2, hR⟩
    refine Cl.ofH (h0 := (0, 9, 12, 13)) (hh := []) (by decide) rfl rfl rfl rfl (Nat.le_of_ble_eq_true rfl) ?_
    show Sm _ _ _ _ _ 0 [some (.ref 0), some (.int x), some (.ref 136), none] [] _ _
    refine r_aload_n 1 dL_bed_0 rfl rfl ?_
    refine r_iconst (0) 2 dL_bed_1 rfl (by decide) ?_
    refine r_aload_n 3 dL_bed_2 rfl rfl ?_
    refine r_iload_n 4 dL_bed_3 rfl rfl ?_
    refine Sm.wide (bc2 := 0 + bc2) (bs2 := 0 + bs2) (by omega) (by omega) ?_
    refine r_callV (M := mL_bed) (pc := 4) 7 dL_bed_4 rfl k13_7 hc rfl rfl rfl (by decide) rfl (Nat.le_of_ble_eq_true rfl) (Nat.le_of_ble_eq_true rfl) ?_
    refine r_i2l 8 dL_bed_7 rfl ?_
    refine r_last (l9 := 1) 9 dL_bed_8 rfl rfl (Nat.le_of_ble_eq_true rfl) (by unfold vp_in; decide) ?_
    refine r_goto 15 dL_bed_9 (by decide) ?_
    refine r_iconst (0) 16 dL_bed_15 rfl (by decide) ?_
    exact r_iret dL_bed_16 rfl rfl (rfl)
  · refine ⟨1, E2, 1, 6, Nat.le_refl 1, Nat.le_refl 6, ?_, w9, E3, hm, g1, fun q => absurd q (by decide), hR⟩
    refine Cl.ofH (h0 := (0, 9, 12, 13)) (hh := []) (by decide) rfl rfl rfl rfl (Nat.le_of_ble_eq_true rfl) ?_
    show Sm _ _ _ _ _ 0 [some (.ref 0), some (.int x), some (.ref 136), none] [] _ _
    refine r_aload_n 1 dL_bed_0 rfl rfl ?_
    refine r_iconst (0) 2 dL_bed_1 rfl (by decide) ?_
    refine r_aload_n 3 dL_bed_2 rfl rfl ?_
    refine r_iload_n 4 dL_bed_3 rfl rfl ?_
    refine r_callVC (M := mL_bed) (pc := 4) [] ⟨0, 9, 12, 13⟩ [] 13 dL_bed_4 k13_7 hc rfl rfl rfl (by decide) rfl (Nat.le_of_ble_eq_true rfl) (Nat.le_of_ble_eq_true rfl) rfl (fun z hz => absurd hz List.not_mem_nil) (by decide) (by decide) nl13_13 (Or.inl rfl) (Or.inl ⟨3, dL_bed_12, rfl, rfl⟩) (by decide) rfl ?_
    refine r_iconst (1) 14 dL_bed_13 rfl (by decide) ?_
    exact r_iret dL_bed_14 rfl rfl (rfl)
set_option maxRecDepth 20000 in
theorem l_count {E : HP} {x : Int32} (h : OpT false yX11_count mX11_count yX12_count mX12_count [.int x] E) : OpH yL_count mL_count yX12_count mX12_count [.int x] E := by
  rcases h with ⟨v, E2, bc2, bs2, h1, h2, hc, E3, hm, g1, g2, hR⟩ | ⟨E2, hc, w9, E3, hm, g1, hR⟩ | ⟨q9, E2, hc, w9, E3, hm, g1, hR⟩
  · refine ⟨0, sL E2 136 0 v.toInt64, bc2, bs2, h1, h2, ?_, v, E3, hm, g1, fun _ => g2, hR⟩
    refine Cl.ofH (h0 := (0, 9, 12, 18)) (hh := []) (by decide) rfl rfl rfl rfl (Nat.le_of_ble_eq_true rfl) ?_
    show Sm _ _ _ _ _ 0 [some (.ref 0), some (.int x), some (.ref 136), none] [] _ _
    refine r_aload_n 1 dL_count_0 rfl rfl ?_
    refine r_iconst (0) 2 dL_count_1 rfl (by decide) ?_
    refine r_aload_n 3 dL_count_2 rfl rfl ?_
    refine r_iload_n 4 dL_count_3 rfl rfl ?_
    refine Sm.wide (bc2 := 0 + bc2) (bs2 := 0 + bs2) (by omega) (by omega) ?_
    refine r_callV (M := mL_count) (pc := 4) 7 dL_count_4 rfl k13_15 hc rfl rfl rfl (by decide) rfl (Nat.le_of_ble_eq_true rfl) (Nat.le_of_ble_eq_true rfl) ?_
    refine r_i2l 8 dL_count_7 rfl ?_
    refine r_last (l9 := 1) 9 dL_count_8 rfl rfl (Nat.le_of_ble_eq_true rfl) (by unfold vp_in; decide) ?_
    refine r_goto 15 dL_count_9 (by decide) ?_
    refine r_iconst (0) 16 dL_count_15 rfl (by decide) ?_
    exact r_iret dL_count_16 rfl rfl (rfl)
  · refine ⟨1, E2, 1, 6, Nat.le_refl 1, Nat.le_refl 6, ?_, w9, E3, hm, g1, fun q => absurd q (by decide), hR⟩
    refine Cl.ofH (h0 := (0, 9, 12, 18)) (hh := []) (by decide) rfl rfl rfl rfl (Nat.le_of_ble_eq_true rfl) ?_
    show Sm _ _ _ _ _ 0 [some (.ref 0), some (.int x), some (.ref 136), none] [] _ _
    refine r_aload_n 1 dL_count_0 rfl rfl ?_
    refine r_iconst (0) 2 dL_count_1 rfl (by decide) ?_
    refine r_aload_n 3 dL_count_2 rfl rfl ?_
    refine r_iload_n 4 dL_count_3 rfl rfl ?_
    refine r_callVC (M := mL_count) (pc := 4) [] ⟨0, 9, 12, 18⟩ [] 13 dL_count_4 k13_15 hc rfl rfl rfl (by decide) rfl (Nat.le_of_ble_eq_true rfl) (Nat.le_of_ble_eq_true rfl) rfl (fun z hz => absurd hz List.not_mem_nil) (by decide) (by decide) nl13_18 (Or.inr rfl) (Or.inl ⟨3, dL_count_12, rfl, rfl⟩) (by decide) rfl ?_
    refine r_iconst (1) 14 dL_count_13 rfl (by decide) ?_
    exact r_iret dL_count_14 rfl rfl (rfl)
  · exact absurd q9 (by decide)
set_option maxRecDepth 20000 in
theorem l_sleeper {E : HP} {x w : Int32} (h : OpT false yX11_sleeper mX11_sleeper yX12_sleeper mX12_sleeper [.int x, .int w] E) : OpH yL_sleeper mL_sleeper yX12_sleeper mX12_sleeper [.int x, .int w] E := by
  rcases h with ⟨v, E2, bc2, bs2, h1, h2, hc, E3, hm, g1, g2, hR⟩ | ⟨E2, hc, w9, E3, hm, g1, hR⟩ | ⟨q9, E2, hc, w9, E3, hm, g1, hR⟩
  · refine ⟨0, sL E2 136 0 v.toInt64, bc2, bs2, h1, h2, ?_, v, E3, hm, g1, fun _ => g2, hR⟩
    refine Cl.ofH (h0 := (0, 10, 13, 18)) (hh := []) (by decide) rfl rfl rfl rfl (Nat.le_of_ble_eq_true rfl) ?_
    show Sm _ _ _ _ _ 0 [some (.ref 0), some (.int x), some (.int w), some (.ref 136), none] [] _ _
    refine r_aload_n 1 dL_sleeper_0 rfl rfl ?_
    refine r_iconst (0) 2 dL_sleeper_1 rfl (by decide) ?_
    refine r_aload_n 3 dL_sleeper_2 rfl rfl ?_
    refine r_iload_n 4 dL_sleeper_3 rfl rfl ?_
    refine r_iload_n 5 dL_sleeper_4 rfl rfl ?_
    refine Sm.wide (bc2 := 0 + bc2) (bs2 := 0 + bs2) (by omega) (by omega) ?_
    refine r_callV (M := mL_sleeper) (pc := 5) 8 dL_sleeper_5 rfl k13_20 hc rfl rfl rfl (by decide) rfl (Nat.le_of_ble_eq_true rfl) (Nat.le_of_ble_eq_true rfl) ?_
    refine r_i2l 9 dL_sleeper_8 rfl ?_
    refine r_last (l9 := 1) 10 dL_sleeper_9 rfl rfl (Nat.le_of_ble_eq_true rfl) (by unfold vp_in; decide) ?_
    refine r_goto 17 dL_sleeper_10 (by decide) ?_
    refine r_iconst (0) 18 dL_sleeper_17 rfl (by decide) ?_
    exact r_iret dL_sleeper_18 rfl rfl (rfl)
  · refine ⟨1, E2, 1, 6, Nat.le_refl 1, Nat.le_refl 6, ?_, w9, E3, hm, g1, fun q => absurd q (by decide), hR⟩
    refine Cl.ofH (h0 := (0, 10, 13, 18)) (hh := []) (by decide) rfl rfl rfl rfl (Nat.le_of_ble_eq_true rfl) ?_
    show Sm _ _ _ _ _ 0 [some (.ref 0), some (.int x), some (.int w), some (.ref 136), none] [] _ _
    refine r_aload_n 1 dL_sleeper_0 rfl rfl ?_
    refine r_iconst (0) 2 dL_sleeper_1 rfl (by decide) ?_
    refine r_aload_n 3 dL_sleeper_2 rfl rfl ?_
    refine r_iload_n 4 dL_sleeper_3 rfl rfl ?_
    refine r_iload_n 5 dL_sleeper_4 rfl rfl ?_
    refine r_callVC (M := mL_sleeper) (pc := 5) [] ⟨0, 10, 13, 18⟩ [] 15 dL_sleeper_5 k13_20 hc rfl rfl rfl (by decide) rfl (Nat.le_of_ble_eq_true rfl) (Nat.le_of_ble_eq_true rfl) rfl (fun z hz => absurd hz List.not_mem_nil) (by decide) (by decide) nl13_18 (Or.inr rfl) (Or.inr ⟨dL_sleeper_13, rfl⟩) (by decide) rfl ?_
    refine r_iconst (1) 16 dL_sleeper_15 rfl (by decide) ?_
    exact r_iret dL_sleeper_16 rfl rfl (rfl)
  · exact absurd q9 (by decide)
set_option maxRecDepth 20000 in
theorem l_word {E : HP} {x w : Int32} (h : OpT false yX11_word mX11_word yX12_word mX12_word [.int x, .int w] E) : OpH yL_word mL_word yX12_word mX12_word [.int x, .int w] E := by
  rcases h with ⟨v, E2, bc2, bs2, h1, h2, hc, E3, hm, g1, g2, hR⟩ | ⟨E2, hc, w9, E3, hm, g1, hR⟩ | ⟨q9, E2, hc, w9, E3, hm, g1, hR⟩
  · refine ⟨0, sL E2 136 0 v.toInt64, bc2, bs2, h1, h2, ?_, v, E3, hm, g1, fun _ => g2, hR⟩
    refine Cl.ofH (h0 := (0, 10, 13, 18)) (hh := []) (by decide) rfl rfl rfl rfl (Nat.le_of_ble_eq_true rfl) ?_
    show Sm _ _ _ _ _ 0 [some (.ref 0), some (.int x), some (.int w), some (.ref 136), none] [] _ _
    refine r_aload_n 1 dL_word_0 rfl rfl ?_
    refine r_iconst (0) 2 dL_word_1 rfl (by decide) ?_
    refine r_aload_n 3 dL_word_2 rfl rfl ?_
    refine r_iload_n 4 dL_word_3 rfl rfl ?_
    refine r_iload_n 5 dL_word_4 rfl rfl ?_
    refine Sm.wide (bc2 := 0 + bc2) (bs2 := 0 + bs2) (by omega) (by omega) ?_
    refine r_callV (M := mL_word) (pc := 5) 8 dL_word_5 rfl k13_24 hc rfl rfl rfl (by decide) rfl (Nat.le_of_ble_eq_true rfl) (Nat.le_of_ble_eq_true rfl) ?_
    refine r_i2l 9 dL_word_8 rfl ?_
    refine r_last (l9 := 1) 10 dL_word_9 rfl rfl (Nat.le_of_ble_eq_true rfl) (by unfold vp_in; decide) ?_
    refine r_goto 17 dL_word_10 (by decide) ?_
    refine r_iconst (0) 18 dL_word_17 rfl (by decide) ?_
    exact r_iret dL_word_18 rfl rfl (rfl)
  · refine ⟨1, E2, 1, 6, Nat.le_refl 1, Nat.le_refl 6, ?_, w9, E3, hm, g1, fun q => absurd q (by decide), hR⟩
    refine Cl.ofH (h0 := (0, 10, 13, 18)) (hh := []) (by decide) rfl rfl rfl rfl (Nat.le_of_ble_eq_true rfl) ?_
    show Sm _ _ _ _ _ 0 [some (.ref 0), some (.int x), some (.int w), some (.ref 136), none] [] _ _
    refine r_aload_n 1 dL_word_0 rfl rfl ?_
    refine r_iconst (0) 2 dL_word_1 rfl (by decide) ?_
    refine r_aload_n 3 dL_word_2 rfl rfl ?_
    refine r_iload_n 4 dL_word_3 rfl rfl ?_
    refine r_iload_n 5 dL_word_4 rfl rfl ?_
    refine r_callVC (M := mL_word) (pc := 5) [] ⟨0, 10, 13, 18⟩ [] 15 dL_word_5 k13_24 hc rfl rfl rfl (by decide) rfl (Nat.le_of_ble_eq_true rfl) (Nat.le_of_ble_eq_true rfl) rfl (fun z hz => absurd hz List.not_mem_nil) (by decide) (by decide) nl13_18 (Or.inr rfl) (Or.inr ⟨dL_word_13, rfl⟩) (by decide) rfl ?_
    refine r_iconst (1) 16 dL_word_15 rfl (by decide) ?_
    exact r_iret dL_word_16 rfl rfl (rfl)
  · exact absurd q9 (by decide)
set_option maxRecDepth 20000 in
theorem l_out {E : HP} {x w : Int32} (h : OpT false yX11_out mX11_out yX12_out mX12_out [.int x, .int w] E) : OpH yL_out mL_out yX12_out mX12_out [.int x, .int w] E := by
  rcases h with ⟨v, E2, bc2, bs2, h1, h2, hc, E3, hm, g1, g2, hR⟩ | ⟨E2, hc, w9, E3, hm, g1, hR⟩ | ⟨q9, E2, hc, w9, E3, hm, g1, hR⟩
  · refine ⟨0, sL E2 136 0 v.toInt64, bc2, bs2, h1, h2, ?_, v, E3, hm, g1, fun _ => g2, hR⟩
    refine Cl.ofH (h0 := (0, 10, 13, 18)) (hh := []) (by decide) rfl rfl rfl rfl (Nat.le_of_ble_eq_true rfl) ?_
    show Sm _ _ _ _ _ 0 [some (.ref 0), some (.int x), some (.int w), some (.ref 136), none] [] _ _
    refine r_aload_n 1 dL_out_0 rfl rfl ?_
    refine r_iconst (0) 2 dL_out_1 rfl (by decide) ?_
    refine r_aload_n 3 dL_out_2 rfl rfl ?_
    refine r_iload_n 4 dL_out_3 rfl rfl ?_
    refine r_iload_n 5 dL_out_4 rfl rfl ?_
    refine Sm.wide (bc2 := 0 + bc2) (bs2 := 0 + bs2) (by omega) (by omega) ?_
    refine r_callV (M := mL_out) (pc := 5) 8 dL_out_5 rfl k13_27 hc rfl rfl rfl (by decide) rfl (Nat.le_of_ble_eq_true rfl) (Nat.le_of_ble_eq_true rfl) ?_
    refine r_i2l 9 dL_out_8 rfl ?_
    refine r_last (l9 := 1) 10 dL_out_9 rfl rfl (Nat.le_of_ble_eq_true rfl) (by unfold vp_in; decide) ?_
    refine r_goto 17 dL_out_10 (by decide) ?_
    refine r_iconst (0) 18 dL_out_17 rfl (by decide) ?_
    exact r_iret dL_out_18 rfl rfl (rfl)
  · refine ⟨1, E2, 1, 6, Nat.le_refl 1, Nat.le_refl 6, ?_, w9, E3, hm, g1, fun q => absurd q (by decide), hR⟩
    refine Cl.ofH (h0 := (0, 10, 13, 18)) (hh := []) (by decide) rfl rfl rfl rfl (Nat.le_of_ble_eq_true rfl) ?_
    show Sm _ _ _ _ _ 0 [some (.ref 0), some (.int x), some (.int w), some (.ref 136), none] [] _ _
    refine r_aload_n 1 dL_out_0 rfl rfl ?_
    refine r_iconst (0) 2 dL_out_1 rfl (by decide) ?_
    refine r_aload_n 3 dL_out_2 rfl rfl ?_
    refine r_iload_n 4 dL_out_3 rfl rfl ?_
    refine r_iload_n 5 dL_out_4 rfl rfl ?_
    refine r_callVC (M := mL_out) (pc := 5) [] ⟨0, 10, 13, 18⟩ [] 15 dL_out_5 k13_27 hc rfl rfl rfl (by decide) rfl (Nat.le_of_ble_eq_true rfl) (Nat.le_of_ble_eq_true rfl) rfl (fun z hz => absurd hz List.not_mem_nil) (by decide) (by decide) nl13_18 (Or.inr rfl) (Or.inr ⟨dL_out_13, rfl⟩) (by decide) rfl ?_
    refine r_iconst (1) 16 dL_out_15 rfl (by decide) ?_
    exact r_iret dL_out_16 rfl rfl (rfl)
  · exact absurd q9 (by decide)
set_option maxRecDepth 20000 in
theorem l_night {E : HP} {x : Int32} (h : OpT false yX11_night mX11_night yX12_night mX12_night [.int x] E) : OpH yL_night mL_night yX12_night mX12_night [.int x] E := by
  rcases h with ⟨v, E2, bc2, bs2, h1, h2, hc, E3, hm, g1, g2, hR⟩ | ⟨E2, hc, w9, E3, hm, g1, hR⟩ | ⟨q9, E2, hc, w9, E3, hm, g1, hR⟩
  · refine ⟨0, sL E2 136 0 v.toInt64, bc2, bs2, h1, h2, ?_, v, E3, hm, g1, fun _ => g2, hR⟩
    refine Cl.ofH (h0 := (0, 9, 12, 18)) (hh := []) (by decide) rfl rfl rfl rfl (Nat.le_of_ble_eq_true rfl) ?_
    show Sm _ _ _ _ _ 0 [some (.ref 0), some (.int x), some (.ref 136), none] [] _ _
    refine r_aload_n 1 dL_night_0 rfl rfl ?_
    refine r_iconst (0) 2 dL_night_1 rfl (by decide) ?_
    refine r_aload_n 3 dL_night_2 rfl rfl ?_
    refine r_iload_n 4 dL_night_3 rfl rfl ?_
    refine Sm.wide (bc2 := 0 + bc2) (bs2 := 0 + bs2) (by omega) (by omega) ?_
    refine r_callV (M := mL_night) (pc := 4) 7 dL_night_4 rfl k13_30 hc rfl rfl rfl (by decide) rfl (Nat.le_of_ble_eq_true rfl) (Nat.le_of_ble_eq_true rfl) ?_
    refine r_i2l 8 dL_night_7 rfl ?_
    refine r_last (l9 := 1) 9 dL_night_8 rfl rfl (Nat.le_of_ble_eq_true rfl) (by unfold vp_in; decide) ?_
    refine r_goto 15 dL_night_9 (by decide) ?_
    refine r_iconst (0) 16 dL_night_15 rfl (by decide) ?_
    exact r_iret dL_night_16 rfl rfl (rfl)
  · refine ⟨1, E2, 1, 6, Nat.le_refl 1, Nat.le_refl 6, ?_, w9, E3, hm, g1, fun q => absurd q (by decide), hR⟩
    refine Cl.ofH (h0 := (0, 9, 12, 18)) (hh := []) (by decide) rfl rfl rfl rfl (Nat.le_of_ble_eq_true rfl) ?_
    show Sm _ _ _ _ _ 0 [some (.ref 0), some (.int x), some (.ref 136), none] [] _ _
    refine r_aload_n 1 dL_night_0 rfl rfl ?_
    refine r_iconst (0) 2 dL_night_1 rfl (by decide) ?_
    refine r_aload_n 3 dL_night_2 rfl rfl ?_
    refine r_iload_n 4 dL_night_3 rfl rfl ?_
    refine r_callVC (M := mL_night) (pc := 4) [] ⟨0, 9, 12, 18⟩ [] 13 dL_night_4 k13_30 hc rfl rfl rfl (by decide) rfl (Nat.le_of_ble_eq_true rfl) (Nat.le_of_ble_eq_true rfl) rfl (fun z hz => absurd hz List.not_mem_nil) (by decide) (by decide) nl13_18 (Or.inr rfl) (Or.inl ⟨3, dL_night_12, rfl, rfl⟩) (by decide) rfl ?_
    refine r_iconst (1) 14 dL_night_13 rfl (by decide) ?_
    exact r_iret dL_night_14 rfl rfl (rfl)
  · exact absurd q9 (by decide)
set_option maxRecDepth 20000 in
theorem l_woken {E : HP} {x w : Int32} (h : OpT false yX11_woken mX11_woken yX12_woken mX12_woken [.int x, .int w] E) : OpH yL_woken mL_woken yX12_woken mX12_woken [.int x, .int w] E := by
  rcases h with ⟨v, E2, bc2, bs2, h1, h2, hc, E3, hm, g1, g2, hR⟩ | ⟨E2, hc, w9, E3, hm, g1, hR⟩ | ⟨q9, E2, hc, w9, E3, hm, g1, hR⟩
  · refine ⟨0, sL E2 136 0 v.toInt64, bc2, bs2, h1, h2, ?_, v, E3, hm, g1, fun _ => g2, hR⟩
    refine Cl.ofH (h0 := (0, 10, 13, 18)) (hh := []) (by decide) rfl rfl rfl rfl (Nat.le_of_ble_eq_true rfl) ?_
    show Sm _ _ _ _ _ 0 [some (.ref 0), some (.int x), some (.int w), some (.ref 136), none] [] _ _
    refine r_aload_n 1 dL_woken_0 rfl rfl ?_
    refine r_iconst (0) 2 dL_woken_1 rfl (by decide) ?_
    refine r_aload_n 3 dL_woken_2 rfl rfl ?_
    refine r_iload_n 4 dL_woken_3 rfl rfl ?_
    refine r_iload_n 5 dL_woken_4 rfl rfl ?_
    refine Sm.wide (bc2 := 0 + bc2) (bs2 := 0 + bs2) (by omega) (by omega) ?_
    refine r_callV (M := mL_woken) (pc := 5) 8 dL_woken_5 rfl k13_33 hc rfl rfl rfl (by decide) rfl (Nat.le_of_ble_eq_true rfl) (Nat.le_of_ble_eq_true rfl) ?_
    refine r_i2l 9 dL_woken_8 rfl ?_
    refine r_last (l9 := 1) 10 dL_woken_9 rfl rfl (Nat.le_of_ble_eq_true rfl) (by unfold vp_in; decide) ?_
    refine r_goto 17 dL_woken_10 (by decide) ?_
    refine r_iconst (0) 18 dL_woken_17 rfl (by decide) ?_
    exact r_iret dL_woken_18 rfl rfl (rfl)
  · refine ⟨1, E2, 1, 6, Nat.le_refl 1, Nat.le_refl 6, ?_, w9, E3, hm, g1, fun q => absurd q (by decide), hR⟩
    refine Cl.ofH (h0 := (0, 10, 13, 18)) (hh := []) (by decide) rfl rfl rfl rfl (Nat.le_of_ble_eq_true rfl) ?_
    show Sm _ _ _ _ _ 0 [some (.ref 0), some (.int x), some (.int w), some (.ref 136), none] [] _ _
    refine r_aload_n 1 dL_woken_0 rfl rfl ?_
    refine r_iconst (0) 2 dL_woken_1 rfl (by decide) ?_
    refine r_aload_n 3 dL_woken_2 rfl rfl ?_
    refine r_iload_n 4 dL_woken_3 rfl rfl ?_
    refine r_iload_n 5 dL_woken_4 rfl rfl ?_
    refine r_callVC (M := mL_woken) (pc := 5) [] ⟨0, 10, 13, 18⟩ [] 15 dL_woken_5 k13_33 hc rfl rfl rfl (by decide) rfl (Nat.le_of_ble_eq_true rfl) (Nat.le_of_ble_eq_true rfl) rfl (fun z hz => absurd hz List.not_mem_nil) (by decide) (by decide) nl13_18 (Or.inr rfl) (Or.inr ⟨dL_woken_13, rfl⟩) (by decide) rfl ?_
    refine r_iconst (1) 16 dL_woken_15 rfl (by decide) ?_
    exact r_iret dL_woken_16 rfl rfl (rfl)
  · exact absurd q9 (by decide)
set_option maxHeartbeats 16000000 in
set_option maxRecDepth 20000 in
theorem l_lies {E : HP} {x w q : Int32} (h : OpT true yX11_lies mX11_lies yX12_lies mX12_lies [.int x, .int w, .int q] E) : OpH yL_lies mL_lies yX12_lies mX12_lies [.int x, .int w, .int q] E := by
  rcases h with ⟨v, E2, bc2, bs2, h1, h2, hc, E3, hm, g1, g2, hR⟩ | ⟨E2, hc, w9, E3, hm, g1, hR⟩ | ⟨q9, E2, hc, w9, E3, hm, g1, hR⟩
  · refine ⟨0, sL E2 136 0 v.toInt64, bc2, bs2, h1, h2, ?_, v, E3, hm, g1, fun _ => g2, hR⟩
    refine Cl.ofH (h0 := (0, 12, 15, 18)) (hh := [(0, 12, 19, 13)]) (by decide) rfl rfl rfl rfl (Nat.le_of_ble_eq_true rfl) ?_
    show Sm _ _ _ _ _ 0 [some (.ref 0), some (.int x), some (.int w), some (.int q), some (.ref 136), none] [] _ _
    refine r_aload 2 dL_lies_0 rfl rfl ?_
    refine r_iconst (0) 3 dL_lies_2 rfl (by decide) ?_
    refine r_aload_n 4 dL_lies_3 rfl rfl ?_
    refine r_iload_n 5 dL_lies_4 rfl rfl ?_
    refine r_iload_n 6 dL_lies_5 rfl rfl ?_
    refine r_iload_n 7 dL_lies_6 rfl rfl ?_
    refine Sm.wide (bc2 := 0 + bc2) (bs2 := 0 + bs2) (by omega) (by omega) ?_
    refine r_callV (M := mL_lies) (pc := 7) 10 dL_lies_7 rfl k13_36 hc rfl rfl rfl (by decide) rfl (Nat.le_of_ble_eq_true rfl) (Nat.le_of_ble_eq_true rfl) ?_
    refine r_i2l 11 dL_lies_10 rfl ?_
    refine r_last (l9 := 1) 12 dL_lies_11 rfl rfl (Nat.le_of_ble_eq_true rfl) (by unfold vp_in; decide) ?_
    refine r_goto 23 dL_lies_12 (by decide) ?_
    refine r_iconst (0) 24 dL_lies_23 rfl (by decide) ?_
    exact r_iret dL_lies_24 rfl rfl (rfl)
  · refine ⟨1, E2, 1, 6, Nat.le_refl 1, Nat.le_refl 6, ?_, w9, E3, hm, g1, fun q => absurd q (by decide), hR⟩
    refine Cl.ofH (h0 := (0, 12, 15, 18)) (hh := [(0, 12, 19, 13)]) (by decide) rfl rfl rfl rfl (Nat.le_of_ble_eq_true rfl) ?_
    show Sm _ _ _ _ _ 0 [some (.ref 0), some (.int x), some (.int w), some (.int q), some (.ref 136), none] [] _ _
    refine r_aload 2 dL_lies_0 rfl rfl ?_
    refine r_iconst (0) 3 dL_lies_2 rfl (by decide) ?_
    refine r_aload_n 4 dL_lies_3 rfl rfl ?_
    refine r_iload_n 5 dL_lies_4 rfl rfl ?_
    refine r_iload_n 6 dL_lies_5 rfl rfl ?_
    refine r_iload_n 7 dL_lies_6 rfl rfl ?_
    refine r_callVC (M := mL_lies) (pc := 7) [] ⟨0, 12, 15, 18⟩ [⟨0, 12, 19, 13⟩] 17 dL_lies_7 k13_36 hc rfl rfl rfl (by decide) rfl (Nat.le_of_ble_eq_true rfl) (Nat.le_of_ble_eq_true rfl) rfl (fun z hz => absurd hz List.not_mem_nil) (by decide) (by decide) nl13_18 (Or.inr rfl) (Or.inr ⟨dL_lies_15, rfl⟩) (by decide) rfl ?_
    refine r_iconst (1) 18 dL_lies_17 rfl (by decide) ?_
    exact r_iret dL_lies_18 rfl rfl (rfl)
  · refine ⟨2, E2, 1, 6, Nat.le_refl 1, Nat.le_refl 6, ?_, w9, E3, hm, g1, fun q => absurd q (by decide), hR⟩
    refine Cl.ofH (h0 := (0, 12, 15, 18)) (hh := [(0, 12, 19, 13)]) (by decide) rfl rfl rfl rfl (Nat.le_of_ble_eq_true rfl) ?_
    show Sm _ _ _ _ _ 0 [some (.ref 0), some (.int x), some (.int w), some (.int q), some (.ref 136), none] [] _ _
    refine r_aload 2 dL_lies_0 rfl rfl ?_
    refine r_iconst (0) 3 dL_lies_2 rfl (by decide) ?_
    refine r_aload_n 4 dL_lies_3 rfl rfl ?_
    refine r_iload_n 5 dL_lies_4 rfl rfl ?_
    refine r_iload_n 6 dL_lies_5 rfl rfl ?_
    refine r_iload_n 7 dL_lies_6 rfl rfl ?_
    refine r_callVC (M := mL_lies) (pc := 7) [⟨0, 12, 15, 18⟩] ⟨0, 12, 19, 13⟩ [] 21 dL_lies_7 k13_36 hc rfl rfl rfl (by decide) rfl (Nat.le_of_ble_eq_true rfl) (Nat.le_of_ble_eq_true rfl) rfl (fun z hz => Or.inr (by rw [List.mem_singleton.mp hz]; exact ⟨by decide, rfl, nl13_18⟩)) (by decide) (by decide) nl13_13 (Or.inl rfl) (Or.inr ⟨dL_lies_19, rfl⟩) (by decide) rfl ?_
    refine r_iconst (2) 22 dL_lies_21 rfl (by decide) ?_
    exact r_iret dL_lies_22 rfl rfl (rfl)
set_option maxRecDepth 20000 in
theorem l_turn {E : HP} {x w : Int32} (h : OpT false yX11_turn mX11_turn yX12_turn mX12_turn [.int x, .int w] E) : OpH yL_turn mL_turn yX12_turn mX12_turn [.int x, .int w] E := by
  rcases h with ⟨v, E2, bc2, bs2, h1, h2, hc, E3, hm, g1, g2, hR⟩ | ⟨E2, hc, w9, E3, hm, g1, hR⟩ | ⟨q9, E2, hc, w9, E3, hm, g1, hR⟩
  · refine ⟨0, sL E2 136 0 v.toInt64, bc2, bs2, h1, h2, ?_, v, E3, hm, g1, fun _ => g2, hR⟩
    refine Cl.ofH (h0 := (0, 10, 13, 18)) (hh := []) (by decide) rfl rfl rfl rfl (Nat.le_of_ble_eq_true rfl) ?_
    show Sm _ _ _ _ _ 0 [some (.ref 0), some (.int x), some (.int w), some (.ref 136), none] [] _ _
    refine r_aload_n 1 dL_turn_0 rfl rfl ?_
    refine r_iconst (0) 2 dL_turn_1 rfl (by decide) ?_
    refine r_aload_n 3 dL_turn_2 rfl rfl ?_
    refine r_iload_n 4 dL_turn_3 rfl rfl ?_
    refine r_iload_n 5 dL_turn_4 rfl rfl ?_
    refine Sm.wide (bc2 := 0 + bc2) (bs2 := 0 + bs2) (by omega) (by omega) ?_
    refine r_callV (M := mL_turn) (pc := 5) 8 dL_turn_5 rfl k13_40 hc rfl rfl rfl (by decide) rfl (Nat.le_of_ble_eq_true rfl) (Nat.le_of_ble_eq_true rfl) ?_
    refine r_i2l 9 dL_turn_8 rfl ?_
    refine r_last (l9 := 1) 10 dL_turn_9 rfl rfl (Nat.le_of_ble_eq_true rfl) (by unfold vp_in; decide) ?_
    refine r_goto 17 dL_turn_10 (by decide) ?_
    refine r_iconst (0) 18 dL_turn_17 rfl (by decide) ?_
    exact r_iret dL_turn_18 rfl rfl (rfl)
  · refine ⟨1, E2, 1, 6, Nat.le_refl 1, Nat.le_refl 6, ?_, w9, E3, hm, g1, fun q => absurd q (by decide), hR⟩
    refine Cl.ofH (h0 := (0, 10, 13, 18)) (hh := []) (by decide) rfl rfl rfl rfl (Nat.le_of_ble_eq_true rfl) ?_
    show Sm _ _ _ _ _ 0 [some (.ref 0), some (.int x), some (.int w), some (.ref 136), none] [] _ _
    refine r_aload_n 1 dL_turn_0 rfl rfl ?_
    refine r_iconst (0) 2 dL_turn_1 rfl (by decide) ?_
    refine r_aload_n 3 dL_turn_2 rfl rfl ?_
    refine r_iload_n 4 dL_turn_3 rfl rfl ?_
    refine r_iload_n 5 dL_turn_4 rfl rfl ?_
    refine r_callVC (M := mL_turn) (pc := 5) [] ⟨0, 10, 13, 18⟩ [] 15 dL_turn_5 k13_40 hc rfl rfl rfl (by decide) rfl (Nat.le_of_ble_eq_true rfl) (Nat.le_of_ble_eq_true rfl) rfl (fun z hz => absurd hz List.not_mem_nil) (by decide) (by decide) nl13_18 (Or.inr rfl) (Or.inr ⟨dL_turn_13, rfl⟩) (by decide) rfl ?_
    refine r_iconst (1) 16 dL_turn_15 rfl (by decide) ?_
    exact r_iret dL_turn_16 rfl rfl (rfl)
  · exact absurd q9 (by decide)
set_option maxRecDepth 20000 in
theorem l_kept {E : HP} {x : Int32} (h : OpT false yX11_kept mX11_kept yX12_kept mX12_kept [.int x] E) : OpH yL_kept mL_kept yX12_kept mX12_kept [.int x] E := by
  rcases h with ⟨v, E2, bc2, bs2, h1, h2, hc, E3, hm, g1, g2, hR⟩ | ⟨E2, hc, w9, E3, hm, g1, hR⟩ | ⟨q9, E2, hc, w9, E3, hm, g1, hR⟩
  · refine ⟨0, sL E2 136 0 v.toInt64, bc2, bs2, h1, h2, ?_, v, E3, hm, g1, fun _ => g2, hR⟩
    refine Cl.ofH (h0 := (0, 9, 12, 18)) (hh := []) (by decide) rfl rfl rfl rfl (Nat.le_of_ble_eq_true rfl) ?_
    show Sm _ _ _ _ _ 0 [some (.ref 0), some (.int x), some (.ref 136), none] [] _ _
    refine r_aload_n 1 dL_kept_0 rfl rfl ?_
    refine r_iconst (0) 2 dL_kept_1 rfl (by decide) ?_
    refine r_aload_n 3 dL_kept_2 rfl rfl ?_
    refine r_iload_n 4 dL_kept_3 rfl rfl ?_
    refine Sm.wide (bc2 := 0 + bc2) (bs2 := 0 + bs2) (by omega) (by omega) ?_
    refine r_callV (M := mL_kept) (pc := 4) 7 dL_kept_4 rfl k13_43 hc rfl rfl rfl (by decide) rfl (Nat.le_of_ble_eq_true rfl) (Nat.le_of_ble_eq_true rfl) ?_
    refine r_i2l 8 dL_kept_7 rfl ?_
    refine r_last (l9 := 1) 9 dL_kept_8 rfl rfl (Nat.le_of_ble_eq_true rfl) (by unfold vp_in; decide) ?_
    refine r_goto 15 dL_kept_9 (by decide) ?_
    refine r_iconst (0) 16 dL_kept_15 rfl (by decide) ?_
    exact r_iret dL_kept_16 rfl rfl (rfl)
  · refine ⟨1, E2, 1, 6, Nat.le_refl 1, Nat.le_refl 6, ?_, w9, E3, hm, g1, fun q => absurd q (by decide), hR⟩
    refine Cl.ofH (h0 := (0, 9, 12, 18)) (hh := []) (by decide) rfl rfl rfl rfl (Nat.le_of_ble_eq_true rfl) ?_
    show Sm _ _ _ _ _ 0 [some (.ref 0), some (.int x), some (.ref 136), none] [] _ _
    refine r_aload_n 1 dL_kept_0 rfl rfl ?_
    refine r_iconst (0) 2 dL_kept_1 rfl (by decide) ?_
    refine r_aload_n 3 dL_kept_2 rfl rfl ?_
    refine r_iload_n 4 dL_kept_3 rfl rfl ?_
    refine r_callVC (M := mL_kept) (pc := 4) [] ⟨0, 9, 12, 18⟩ [] 13 dL_kept_4 k13_43 hc rfl rfl rfl (by decide) rfl (Nat.le_of_ble_eq_true rfl) (Nat.le_of_ble_eq_true rfl) rfl (fun z hz => absurd hz List.not_mem_nil) (by decide) (by decide) nl13_18 (Or.inr rfl) (Or.inl ⟨3, dL_kept_12, rfl, rfl⟩) (by decide) rfl ?_
    refine r_iconst (1) 14 dL_kept_13 rfl (by decide) ?_
    exact r_iret dL_kept_14 rfl rfl (rfl)
  · exact absurd q9 (by decide)
set_option maxHeartbeats 16000000 in
set_option maxRecDepth 20000 in
theorem l_every {E : HP} {x w : Int32} (h : OpT true yX11_every mX11_every yX12_every mX12_every [.int x, .int w] E) : OpH yL_every mL_every yX12_every mX12_every [.int x, .int w] E := by
  rcases h with ⟨v, E2, bc2, bs2, h1, h2, hc, E3, hm, g1, g2, hR⟩ | ⟨E2, hc, w9, E3, hm, g1, hR⟩ | ⟨q9, E2, hc, w9, E3, hm, g1, hR⟩
  · refine ⟨0, sL E2 136 0 v.toInt64, bc2, bs2, h1, h2, ?_, v, E3, hm, g1, fun _ => g2, hR⟩
    refine Cl.ofH (h0 := (0, 10, 13, 18)) (hh := [(0, 10, 17, 13)]) (by decide) rfl rfl rfl rfl (Nat.le_of_ble_eq_true rfl) ?_
    show Sm _ _ _ _ _ 0 [some (.ref 0), some (.int x), some (.int w), some (.ref 136), none] [] _ _
    refine r_aload_n 1 dL_every_0 rfl rfl ?_
    refine r_iconst (0) 2 dL_every_1 rfl (by decide) ?_
    refine r_aload_n 3 dL_every_2 rfl rfl ?_
    refine r_iload_n 4 dL_every_3 rfl rfl ?_
    refine r_iload_n 5 dL_every_4 rfl rfl ?_
    refine Sm.wide (bc2 := 0 + bc2) (bs2 := 0 + bs2) (by omega) (by omega) ?_
    refine r_callV (M := mL_every) (pc := 5) 8 dL_every_5 rfl k13_46 hc rfl rfl rfl (by decide) rfl (Nat.le_of_ble_eq_true rfl) (Nat.le_of_ble_eq_true rfl) ?_
    refine r_i2l 9 dL_every_8 rfl ?_
    refine r_last (l9 := 1) 10 dL_every_9 rfl rfl (Nat.le_of_ble_eq_true rfl) (by unfold vp_in; decide) ?_
    refine r_goto 21 dL_every_10 (by decide) ?_
    refine r_iconst (0) 22 dL_every_21 rfl (by decide) ?_
    exact r_iret dL_every_22 rfl rfl (rfl)
  · refine ⟨1, E2, 1, 6, Nat.le_refl 1, Nat.le_refl 6, ?_, w9, E3, hm, g1, fun q => absurd q (by decide), hR⟩
    refine Cl.ofH (h0 := (0, 10, 13, 18)) (hh := [(0, 10, 17, 13)]) (by decide) rfl rfl rfl rfl (Nat.le_of_ble_eq_true rfl) ?_
    show Sm _ _ _ _ _ 0 [some (.ref 0), some (.int x), some (.int w), some (.ref 136), none] [] _ _
    refine r_aload_n 1 dL_every_0 rfl rfl ?_
    refine r_iconst (0) 2 dL_every_1 rfl (by decide) ?_
    refine r_aload_n 3 dL_every_2 rfl rfl ?_
    refine r_iload_n 4 dL_every_3 rfl rfl ?_
    refine r_iload_n 5 dL_every_4 rfl rfl ?_
    refine r_callVC (M := mL_every) (pc := 5) [] ⟨0, 10, 13, 18⟩ [⟨0, 10, 17, 13⟩] 15 dL_every_5 k13_46 hc rfl rfl rfl (by decide) rfl (Nat.le_of_ble_eq_true rfl) (Nat.le_of_ble_eq_true rfl) rfl (fun z hz => absurd hz List.not_mem_nil) (by decide) (by decide) nl13_18 (Or.inr rfl) (Or.inr ⟨dL_every_13, rfl⟩) (by decide) rfl ?_
    refine r_iconst (1) 16 dL_every_15 rfl (by decide) ?_
    exact r_iret dL_every_16 rfl rfl (rfl)
  · refine ⟨2, E2, 1, 6, Nat.le_refl 1, Nat.le_refl 6, ?_, w9, E3, hm, g1, fun q => absurd q (by decide), hR⟩
    refine Cl.ofH (h0 := (0, 10, 13, 18)) (hh := [(0, 10, 17, 13)]) (by decide) rfl rfl rfl rfl (Nat.le_of_ble_eq_true rfl) ?_
    show Sm _ _ _ _ _ 0 [some (.ref 0), some (.int x), some (.int w), some (.ref 136), none] [] _ _
    refine r_aload_n 1 dL_every_0 rfl rfl ?_
    refine r_iconst (0) 2 dL_every_1 rfl (by decide) ?_
    refine r_aload_n 3 dL_every_2 rfl rfl ?_
    refine r_iload_n 4 dL_every_3 rfl rfl ?_
    refine r_iload_n 5 dL_every_4 rfl rfl ?_
    refine r_callVC (M := mL_every) (pc := 5) [⟨0, 10, 13, 18⟩] ⟨0, 10, 17, 13⟩ [] 19 dL_every_5 k13_46 hc rfl rfl rfl (by decide) rfl (Nat.le_of_ble_eq_true rfl) (Nat.le_of_ble_eq_true rfl) rfl (fun z hz => Or.inr (by rw [List.mem_singleton.mp hz]; exact ⟨by decide, rfl, nl13_18⟩)) (by decide) (by decide) nl13_13 (Or.inl rfl) (Or.inr ⟨dL_every_17, rfl⟩) (by decide) rfl ?_
    refine r_iconst (2) 20 dL_every_19 rfl (by decide) ?_
    exact r_iret dL_every_20 rfl rfl (rfl)
set_option maxRecDepth 20000 in
theorem l_bolsters {E : HP} {x : Int32} (h : OpT false yX11_bolsters mX11_bolsters yX12_bolsters mX12_bolsters [.int x] E) : OpH yL_bolsters mL_bolsters yX12_bolsters mX12_bolsters [.int x] E := by
  rcases h with ⟨v, E2, bc2, bs2, h1, h2, hc, E3, hm, g1, g2, hR⟩ | ⟨E2, hc, w9, E3, hm, g1, hR⟩ | ⟨q9, E2, hc, w9, E3, hm, g1, hR⟩
  · refine ⟨0, sL E2 136 0 v.toInt64, bc2, bs2, h1, h2, ?_, v, E3, hm, g1, fun _ => g2, hR⟩
    refine Cl.ofH (h0 := (0, 9, 12, 18)) (hh := []) (by decide) rfl rfl rfl rfl (Nat.le_of_ble_eq_true rfl) ?_
    show Sm _ _ _ _ _ 0 [some (.ref 0), some (.int x), some (.ref 136), none] [] _ _
    refine r_aload_n 1 dL_bolsters_0 rfl rfl ?_
    refine r_iconst (0) 2 dL_bolsters_1 rfl (by decide) ?_
    refine r_aload_n 3 dL_bolsters_2 rfl rfl ?_
    refine r_iload_n 4 dL_bolsters_3 rfl rfl ?_
    refine Sm.wide (bc2 := 0 + bc2) (bs2 := 0 + bs2) (by omega) (by omega) ?_
    refine r_callV (M := mL_bolsters) (pc := 4) 7 dL_bolsters_4 rfl k13_49 hc rfl rfl rfl (by decide) rfl (Nat.le_of_ble_eq_true rfl) (Nat.le_of_ble_eq_true rfl) ?_
    refine r_i2l 8 dL_bolsters_7 rfl ?_
    refine r_last (l9 := 1) 9 dL_bolsters_8 rfl rfl (Nat.le_of_ble_eq_true rfl) (by unfold vp_in; decide) ?_
    refine r_goto 15 dL_bolsters_9 (by decide) ?_
    refine r_iconst (0) 16 dL_bolsters_15 rfl (by decide) ?_
    exact r_iret dL_bolsters_16 rfl rfl (rfl)
  · refine ⟨1, E2, 1, 6, Nat.le_refl 1, Nat.le_refl 6, ?_, w9, E3, hm, g1, fun q => absurd q (by decide), hR⟩
    refine Cl.ofH (h0 := (0, 9, 12, 18)) (hh := []) (by decide) rfl rfl rfl rfl (Nat.le_of_ble_eq_true rfl) ?_
    show Sm _ _ _ _ _ 0 [some (.ref 0), some (.int x), some (.ref 136), none] [] _ _
    refine r_aload_n 1 dL_bolsters_0 rfl rfl ?_
    refine r_iconst (0) 2 dL_bolsters_1 rfl (by decide) ?_
    refine r_aload_n 3 dL_bolsters_2 rfl rfl ?_
    refine r_iload_n 4 dL_bolsters_3 rfl rfl ?_
    refine r_callVC (M := mL_bolsters) (pc := 4) [] ⟨0, 9, 12, 18⟩ [] 13 dL_bolsters_4 k13_49 hc rfl rfl rfl (by decide) rfl (Nat.le_of_ble_eq_true rfl) (Nat.le_of_ble_eq_true rfl) rfl (fun z hz => absurd hz List.not_mem_nil) (by decide) (by decide) nl13_18 (Or.inr rfl) (Or.inl ⟨3, dL_bolsters_12, rfl, rfl⟩) (by decide) rfl ?_
    refine r_iconst (1) 14 dL_bolsters_13 rfl (by decide) ?_
    exact r_iret dL_bolsters_14 rfl rfl (rfl)
  · exact absurd q9 (by decide)
set_option maxRecDepth 20000 in
theorem l_free {E : HP} {x : Int32} (h : OpT false yX11_free mX11_free yX12_free mX12_free [.int x] E) : OpH yL_free mL_free yX12_free mX12_free [.int x] E := by
  rcases h with ⟨v, E2, bc2, bs2, h1, h2, hc, E3, hm, g1, g2, hR⟩ | ⟨E2, hc, w9, E3, hm, g1, hR⟩ | ⟨q9, E2, hc, w9, E3, hm, g1, hR⟩
  · refine ⟨0, sL E2 136 0 v.toInt64, bc2, bs2, h1, h2, ?_, v, E3, hm, g1, fun _ => g2, hR⟩
    refine Cl.ofH (h0 := (0, 9, 12, 18)) (hh := []) (by decide) rfl rfl rfl rfl (Nat.le_of_ble_eq_true rfl) ?_
    show Sm _ _ _ _ _ 0 [some (.ref 0), some (.int x), some (.ref 136), none] [] _ _
    refine r_aload_n 1 dL_free_0 rfl rfl ?_
    refine r_iconst (0) 2 dL_free_1 rfl (by decide) ?_
    refine r_aload_n 3 dL_free_2 rfl rfl ?_
    refine r_iload_n 4 dL_free_3 rfl rfl ?_
    refine Sm.wide (bc2 := 0 + bc2) (bs2 := 0 + bs2) (by omega) (by omega) ?_
    refine r_callV (M := mL_free) (pc := 4) 7 dL_free_4 rfl k13_52 hc rfl rfl rfl (by decide) rfl (Nat.le_of_ble_eq_true rfl) (Nat.le_of_ble_eq_true rfl) ?_
    refine r_i2l 8 dL_free_7 rfl ?_
    refine r_last (l9 := 1) 9 dL_free_8 rfl rfl (Nat.le_of_ble_eq_true rfl) (by unfold vp_in; decide) ?_
    refine r_goto 15 dL_free_9 (by decide) ?_
    refine r_iconst (0) 16 dL_free_15 rfl (by decide) ?_
    exact r_iret dL_free_16 rfl rfl (rfl)
  · refine ⟨1, E2, 1, 6, Nat.le_refl 1, Nat.le_refl 6, ?_, w9, E3, hm, g1, fun q => absurd q (by decide), hR⟩
    refine Cl.ofH (h0 := (0, 9, 12, 18)) (hh := []) (by decide) rfl rfl rfl rfl (Nat.le_of_ble_eq_true rfl) ?_
    show Sm _ _ _ _ _ 0 [some (.ref 0), some (.int x), some (.ref 136), none] [] _ _
    refine r_aload_n 1 dL_free_0 rfl rfl ?_
    refine r_iconst (0) 2 dL_free_1 rfl (by decide) ?_
    refine r_aload_n 3 dL_free_2 rfl rfl ?_
    refine r_iload_n 4 dL_free_3 rfl rfl ?_
    refine r_callVC (M := mL_free) (pc := 4) [] ⟨0, 9, 12, 18⟩ [] 13 dL_free_4 k13_52 hc rfl rfl rfl (by decide) rfl (Nat.le_of_ble_eq_true rfl) (Nat.le_of_ble_eq_true rfl) rfl (fun z hz => absurd hz List.not_mem_nil) (by decide) (by decide) nl13_18 (Or.inr rfl) (Or.inl ⟨3, dL_free_12, rfl, rfl⟩) (by decide) rfl ?_
    refine r_iconst (1) 14 dL_free_13 rfl (by decide) ?_
    exact r_iret dL_free_14 rfl rfl (rfl)
  · exact absurd q9 (by decide)
set_option maxRecDepth 20000 in
theorem l_outs {E : HP} {x : Int32} (h : OpT false yX11_outs mX11_outs yX12_outs mX12_outs [.int x] E) : OpH yL_outs mL_outs yX12_outs mX12_outs [.int x] E := by
  rcases h with ⟨v, E2, bc2, bs2, h1, h2, hc, E3, hm, g1, g2, hR⟩ | ⟨E2, hc, w9, E3, hm, g1, hR⟩ | ⟨q9, E2, hc, w9, E3, hm, g1, hR⟩
  · refine ⟨0, sL E2 136 0 v.toInt64, bc2, bs2, h1, h2, ?_, v, E3, hm, g1, fun _ => g2, hR⟩
    refine Cl.ofH (h0 := (0, 9, 12, 18)) (hh := []) (by decide) rfl rfl rfl rfl (Nat.le_of_ble_eq_true rfl) ?_
    show Sm _ _ _ _ _ 0 [some (.ref 0), some (.int x), some (.ref 136), none] [] _ _
    refine r_aload_n 1 dL_outs_0 rfl rfl ?_
    refine r_iconst (0) 2 dL_outs_1 rfl (by decide) ?_
    refine r_aload_n 3 dL_outs_2 rfl rfl ?_
    refine r_iload_n 4 dL_outs_3 rfl rfl ?_
    refine Sm.wide (bc2 := 0 + bc2) (bs2 := 0 + bs2) (by omega) (by omega) ?_
    refine r_callV (M := mL_outs) (pc := 4) 7 dL_outs_4 rfl k13_55 hc rfl rfl rfl (by decide) rfl (Nat.le_of_ble_eq_true rfl) (Nat.le_of_ble_eq_true rfl) ?_
    refine r_i2l 8 dL_outs_7 rfl ?_
    refine r_last (l9 := 1) 9 dL_outs_8 rfl rfl (Nat.le_of_ble_eq_true rfl) (by unfold vp_in; decide) ?_
    refine r_goto 15 dL_outs_9 (by decide) ?_
    refine r_iconst (0) 16 dL_outs_15 rfl (by decide) ?_
    exact r_iret dL_outs_16 rfl rfl (rfl)
  · refine ⟨1, E2, 1, 6, Nat.le_refl 1, Nat.le_refl 6, ?_, w9, E3, hm, g1, fun q => absurd q (by decide), hR⟩
    refine Cl.ofH (h0 := (0, 9, 12, 18)) (hh := []) (by decide) rfl rfl rfl rfl (Nat.le_of_ble_eq_true rfl) ?_
    show Sm _ _ _ _ _ 0 [some (.ref 0), some (.int x), some (.ref 136), none] [] _ _
    refine r_aload_n 1 dL_outs_0 rfl rfl ?_
    refine r_iconst (0) 2 dL_outs_1 rfl (by decide) ?_
    refine r_aload_n 3 dL_outs_2 rfl rfl ?_
    refine r_iload_n 4 dL_outs_3 rfl rfl ?_
    refine r_callVC (M := mL_outs) (pc := 4) [] ⟨0, 9, 12, 18⟩ [] 13 dL_outs_4 k13_55 hc rfl rfl rfl (by decide) rfl (Nat.le_of_ble_eq_true rfl) (Nat.le_of_ble_eq_true rfl) rfl (fun z hz => absurd hz List.not_mem_nil) (by decide) (by decide) nl13_18 (Or.inr rfl) (Or.inl ⟨3, dL_outs_12, rfl, rfl⟩) (by decide) rfl ?_
    refine r_iconst (1) 14 dL_outs_13 rfl (by decide) ?_
    exact r_iret dL_outs_14 rfl rfl (rfl)
  · exact absurd q9 (by decide)
set_option maxHeartbeats 16000000 in
set_option maxRecDepth 20000 in
theorem l_fair {E : HP} {x w : Int32} (h : OpT true yX11_fair mX11_fair yX12_fair mX12_fair [.int x, .int w] E) : OpH yL_fair mL_fair yX12_fair mX12_fair [.int x, .int w] E := by
  rcases h with ⟨v, E2, bc2, bs2, h1, h2, hc, E3, hm, g1, g2, hR⟩ | ⟨E2, hc, w9, E3, hm, g1, hR⟩ | ⟨q9, E2, hc, w9, E3, hm, g1, hR⟩
  · refine ⟨0, sL E2 136 0 v.toInt64, bc2, bs2, h1, h2, ?_, v, E3, hm, g1, fun _ => g2, hR⟩
    refine Cl.ofH (h0 := (0, 10, 13, 18)) (hh := [(0, 10, 17, 13)]) (by decide) rfl rfl rfl rfl (Nat.le_of_ble_eq_true rfl) ?_
    show Sm _ _ _ _ _ 0 [some (.ref 0), some (.int x), some (.int w), some (.ref 136), none] [] _ _
    refine r_aload_n 1 dL_fair_0 rfl rfl ?_
    refine r_iconst (0) 2 dL_fair_1 rfl (by decide) ?_
    refine r_aload_n 3 dL_fair_2 rfl rfl ?_
    refine r_iload_n 4 dL_fair_3 rfl rfl ?_
    refine r_iload_n 5 dL_fair_4 rfl rfl ?_
    refine Sm.wide (bc2 := 0 + bc2) (bs2 := 0 + bs2) (by omega) (by omega) ?_
    refine r_callV (M := mL_fair) (pc := 5) 8 dL_fair_5 rfl k13_58 hc rfl rfl rfl (by decide) rfl (Nat.le_of_ble_eq_true rfl) (Nat.le_of_ble_eq_true rfl) ?_
    refine r_i2l 9 dL_fair_8 rfl ?_
    refine r_last (l9 := 1) 10 dL_fair_9 rfl rfl (Nat.le_of_ble_eq_true rfl) (by unfold vp_in; decide) ?_
    refine r_goto 21 dL_fair_10 (by decide) ?_
    refine r_iconst (0) 22 dL_fair_21 rfl (by decide) ?_
    exact r_iret dL_fair_22 rfl rfl (rfl)
  · refine ⟨1, E2, 1, 6, Nat.le_refl 1, Nat.le_refl 6, ?_, w9, E3, hm, g1, fun q => absurd q (by decide), hR⟩
    refine Cl.ofH (h0 := (0, 10, 13, 18)) (hh := [(0, 10, 17, 13)]) (by decide) rfl rfl rfl rfl (Nat.le_of_ble_eq_true rfl) ?_
    show Sm _ _ _ _ _ 0 [some (.ref 0), some (.int x), some (.int w), some (.ref 136), none] [] _ _
    refine r_aload_n 1 dL_fair_0 rfl rfl ?_
    refine r_iconst (0) 2 dL_fair_1 rfl (by decide) ?_
    refine r_aload_n 3 dL_fair_2 rfl rfl ?_
    refine r_iload_n 4 dL_fair_3 rfl rfl ?_
    refine r_iload_n 5 dL_fair_4 rfl rfl ?_
    refine r_callVC (M := mL_fair) (pc := 5) [] ⟨0, 10, 13, 18⟩ [⟨0, 10, 17, 13⟩] 15 dL_fair_5 k13_58 hc rfl rfl rfl (by decide) rfl (Nat.le_of_ble_eq_true rfl) (Nat.le_of_ble_eq_true rfl) rfl (fun z hz => absurd hz List.not_mem_nil) (by decide) (by decide) nl13_18 (Or.inr rfl) (Or.inr ⟨dL_fair_13, rfl⟩) (by decide) rfl ?_
    refine r_iconst (1) 16 dL_fair_15 rfl (by decide) ?_
    exact r_iret dL_fair_16 rfl rfl (rfl)
  · refine ⟨2, E2, 1, 6, Nat.le_refl 1, Nat.le_refl 6, ?_, w9, E3, hm, g1, fun q => absurd q (by decide), hR⟩
    refine Cl.ofH (h0 := (0, 10, 13, 18)) (hh := [(0, 10, 17, 13)]) (by decide) rfl rfl rfl rfl (Nat.le_of_ble_eq_true rfl) ?_
    show Sm _ _ _ _ _ 0 [some (.ref 0), some (.int x), some (.int w), some (.ref 136), none] [] _ _
    refine r_aload_n 1 dL_fair_0 rfl rfl ?_
    refine r_iconst (0) 2 dL_fair_1 rfl (by decide) ?_
    refine r_aload_n 3 dL_fair_2 rfl rfl ?_
    refine r_iload_n 4 dL_fair_3 rfl rfl ?_
    refine r_iload_n 5 dL_fair_4 rfl rfl ?_
    refine r_callVC (M := mL_fair) (pc := 5) [⟨0, 10, 13, 18⟩] ⟨0, 10, 17, 13⟩ [] 19 dL_fair_5 k13_58 hc rfl rfl rfl (by decide) rfl (Nat.le_of_ble_eq_true rfl) (Nat.le_of_ble_eq_true rfl) rfl (fun z hz => Or.inr (by rw [List.mem_singleton.mp hz]; exact ⟨by decide, rfl, nl13_18⟩)) (by decide) (by decide) nl13_13 (Or.inl rfl) (Or.inr ⟨dL_fair_17, rfl⟩) (by decide) rfl ?_
    refine r_iconst (2) 20 dL_fair_19 rfl (by decide) ?_
    exact r_iret dL_fair_20 rfl rfl (rfl)
set_option maxHeartbeats 16000000 in
set_option maxRecDepth 20000 in
theorem l_see {E : HP} {x w q : Int32} (h : OpT false yX11_see mX11_see yX12_see mX12_see [.int x, .int w, .int q] E) : OpH yL_see mL_see yX12_see mX12_see [.int x, .int w, .int q] E := by
  rcases h with ⟨v, E2, bc2, bs2, h1, h2, hc, E3, hm, g1, g2, hR⟩ | ⟨E2, hc, w9, E3, hm, g1, hR⟩ | ⟨q9, E2, hc, w9, E3, hm, g1, hR⟩
  · refine ⟨0, sL E2 136 0 v.toInt64, bc2, bs2, h1, h2, ?_, v, E3, hm, g1, fun _ => g2, hR⟩
    refine Cl.ofH (h0 := (0, 12, 15, 18)) (hh := []) (by decide) rfl rfl rfl rfl (Nat.le_of_ble_eq_true rfl) ?_
    show Sm _ _ _ _ _ 0 [some (.ref 0), some (.int x), some (.int w), some (.int q), some (.ref 136), none] [] _ _
    refine r_aload 2 dL_see_0 rfl rfl ?_
    refine r_iconst (0) 3 dL_see_2 rfl (by decide) ?_
    refine r_aload_n 4 dL_see_3 rfl rfl ?_
    refine r_iload_n 5 dL_see_4 rfl rfl ?_
    refine r_iload_n 6 dL_see_5 rfl rfl ?_
    refine r_iload_n 7 dL_see_6 rfl rfl ?_
    refine Sm.wide (bc2 := 0 + bc2) (bs2 := 0 + bs2) (by omega) (by omega) ?_
    refine r_callV (M := mL_see) (pc := 7) 10 dL_see_7 rfl k13_61 hc rfl rfl rfl (by decide) rfl (Nat.le_of_ble_eq_true rfl) (Nat.le_of_ble_eq_true rfl) ?_
    refine r_i2l 11 dL_see_10 rfl ?_
    refine r_last (l9 := 1) 12 dL_see_11 rfl rfl (Nat.le_of_ble_eq_true rfl) (by unfold vp_in; decide) ?_
    refine r_goto 19 dL_see_12 (by decide) ?_
    refine r_iconst (0) 20 dL_see_19 rfl (by decide) ?_
    exact r_iret dL_see_20 rfl rfl (rfl)
  · refine ⟨1, E2, 1, 6, Nat.le_refl 1, Nat.le_refl 6, ?_, w9, E3, hm, g1, fun q => absurd q (by decide), hR⟩
    refine Cl.ofH (h0 := (0, 12, 15, 18)) (hh := []) (by decide) rfl rfl rfl rfl (Nat.le_of_ble_eq_true rfl) ?_
    show Sm _ _ _ _ _ 0 [some (.ref 0), some (.int x), some (.int w), some (.int q), some (.ref 136), none] [] _ _
    refine r_aload 2 dL_see_0 rfl rfl ?_
    refine r_iconst (0) 3 dL_see_2 rfl (by decide) ?_
    refine r_aload_n 4 dL_see_3 rfl rfl ?_
    refine r_iload_n 5 dL_see_4 rfl rfl ?_
    refine r_iload_n 6 dL_see_5 rfl rfl ?_
    refine r_iload_n 7 dL_see_6 rfl rfl ?_
    refine r_callVC (M := mL_see) (pc := 7) [] ⟨0, 12, 15, 18⟩ [] 17 dL_see_7 k13_61 hc rfl rfl rfl (by decide) rfl (Nat.le_of_ble_eq_true rfl) (Nat.le_of_ble_eq_true rfl) rfl (fun z hz => absurd hz List.not_mem_nil) (by decide) (by decide) nl13_18 (Or.inr rfl) (Or.inr ⟨dL_see_15, rfl⟩) (by decide) rfl ?_
    refine r_iconst (1) 18 dL_see_17 rfl (by decide) ?_
    exact r_iret dL_see_18 rfl rfl (rfl)
  · exact absurd q9 (by decide)
set_option maxRecDepth 20000 in
theorem l_fits {E : HP} {x : Int32} (h : OpT false yX11_fits mX11_fits yX12_fits mX12_fits [.int x] E) : OpH yL_fits mL_fits yX12_fits mX12_fits [.int x] E := by
  rcases h with ⟨v, E2, bc2, bs2, h1, h2, hc, E3, hm, g1, g2, hR⟩ | ⟨E2, hc, w9, E3, hm, g1, hR⟩ | ⟨q9, E2, hc, w9, E3, hm, g1, hR⟩
  · refine ⟨0, sL E2 136 0 v.toInt64, bc2, bs2, h1, h2, ?_, v, E3, hm, g1, fun _ => g2, hR⟩
    refine Cl.ofH (h0 := (0, 9, 12, 18)) (hh := []) (by decide) rfl rfl rfl rfl (Nat.le_of_ble_eq_true rfl) ?_
    show Sm _ _ _ _ _ 0 [some (.ref 0), some (.int x), some (.ref 136), none] [] _ _
    refine r_aload_n 1 dL_fits_0 rfl rfl ?_
    refine r_iconst (0) 2 dL_fits_1 rfl (by decide) ?_
    refine r_aload_n 3 dL_fits_2 rfl rfl ?_
    refine r_iload_n 4 dL_fits_3 rfl rfl ?_
    refine Sm.wide (bc2 := 0 + bc2) (bs2 := 0 + bs2) (by omega) (by omega) ?_
    refine r_callV (M := mL_fits) (pc := 4) 7 dL_fits_4 rfl k13_64 hc rfl rfl rfl (by decide) rfl (Nat.le_of_ble_eq_true rfl) (Nat.le_of_ble_eq_true rfl) ?_
    refine r_i2l 8 dL_fits_7 rfl ?_
    refine r_last (l9 := 1) 9 dL_fits_8 rfl rfl (Nat.le_of_ble_eq_true rfl) (by unfold vp_in; decide) ?_
    refine r_goto 15 dL_fits_9 (by decide) ?_
    refine r_iconst (0) 16 dL_fits_15 rfl (by decide) ?_
    exact r_iret dL_fits_16 rfl rfl (rfl)
  · refine ⟨1, E2, 1, 6, Nat.le_refl 1, Nat.le_refl 6, ?_, w9, E3, hm, g1, fun q => absurd q (by decide), hR⟩
    refine Cl.ofH (h0 := (0, 9, 12, 18)) (hh := []) (by decide) rfl rfl rfl rfl (Nat.le_of_ble_eq_true rfl) ?_
    show Sm _ _ _ _ _ 0 [some (.ref 0), some (.int x), some (.ref 136), none] [] _ _
    refine r_aload_n 1 dL_fits_0 rfl rfl ?_
    refine r_iconst (0) 2 dL_fits_1 rfl (by decide) ?_
    refine r_aload_n 3 dL_fits_2 rfl rfl ?_
    refine r_iload_n 4 dL_fits_3 rfl rfl ?_
    refine r_callVC (M := mL_fits) (pc := 4) [] ⟨0, 9, 12, 18⟩ [] 13 dL_fits_4 k13_64 hc rfl rfl rfl (by decide) rfl (Nat.le_of_ble_eq_true rfl) (Nat.le_of_ble_eq_true rfl) rfl (fun z hz => absurd hz List.not_mem_nil) (by decide) (by decide) nl13_18 (Or.inr rfl) (Or.inl ⟨3, dL_fits_12, rfl, rfl⟩) (by decide) rfl ?_
    refine r_iconst (1) 14 dL_fits_13 rfl (by decide) ?_
    exact r_iret dL_fits_14 rfl rfl (rfl)
  · exact absurd q9 (by decide)
set_option maxRecDepth 20000 in
theorem l_without {E : HP} {x : Int32} (h : OpT false yX11_without mX11_without yX12_without mX12_without [.int x] E) : OpH yL_without mL_without yX12_without mX12_without [.int x] E := by
  rcases h with ⟨v, E2, bc2, bs2, h1, h2, hc, E3, hm, g1, g2, hR⟩ | ⟨E2, hc, w9, E3, hm, g1, hR⟩ | ⟨q9, E2, hc, w9, E3, hm, g1, hR⟩
  · refine ⟨0, sL E2 136 0 v.toInt64, bc2, bs2, h1, h2, ?_, v, E3, hm, g1, fun _ => g2, hR⟩
    refine Cl.ofH (h0 := (0, 9, 12, 18)) (hh := []) (by decide) rfl rfl rfl rfl (Nat.le_of_ble_eq_true rfl) ?_
    show Sm _ _ _ _ _ 0 [some (.ref 0), some (.int x), some (.ref 136), none] [] _ _
    refine r_aload_n 1 dL_without_0 rfl rfl ?_
    refine r_iconst (0) 2 dL_without_1 rfl (by decide) ?_
    refine r_aload_n 3 dL_without_2 rfl rfl ?_
    refine r_iload_n 4 dL_without_3 rfl rfl ?_
    refine Sm.wide (bc2 := 0 + bc2) (bs2 := 0 + bs2) (by omega) (by omega) ?_
    refine r_callV (M := mL_without) (pc := 4) 7 dL_without_4 rfl k13_67 hc rfl rfl rfl (by decide) rfl (Nat.le_of_ble_eq_true rfl) (Nat.le_of_ble_eq_true rfl) ?_
    refine r_i2l 8 dL_without_7 rfl ?_
    refine r_last (l9 := 1) 9 dL_without_8 rfl rfl (Nat.le_of_ble_eq_true rfl) (by unfold vp_in; decide) ?_
    refine r_goto 15 dL_without_9 (by decide) ?_
    refine r_iconst (0) 16 dL_without_15 rfl (by decide) ?_
    exact r_iret dL_without_16 rfl rfl (rfl)
  · refine ⟨1, E2, 1, 6, Nat.le_refl 1, Nat.le_refl 6, ?_, w9, E3, hm, g1, fun q => absurd q (by decide), hR⟩
    refine Cl.ofH (h0 := (0, 9, 12, 18)) (hh := []) (by decide) rfl rfl rfl rfl (Nat.le_of_ble_eq_true rfl) ?_
    show Sm _ _ _ _ _ 0 [some (.ref 0), some (.int x), some (.ref 136), none] [] _ _
    refine r_aload_n 1 dL_without_0 rfl rfl ?_
    refine r_iconst (0) 2 dL_without_1 rfl (by decide) ?_
    refine r_aload_n 3 dL_without_2 rfl rfl ?_
    refine r_iload_n 4 dL_without_3 rfl rfl ?_
    refine r_callVC (M := mL_without) (pc := 4) [] ⟨0, 9, 12, 18⟩ [] 13 dL_without_4 k13_67 hc rfl rfl rfl (by decide) rfl (Nat.le_of_ble_eq_true rfl) (Nat.le_of_ble_eq_true rfl) rfl (fun z hz => absurd hz List.not_mem_nil) (by decide) (by decide) nl13_18 (Or.inr rfl) (Or.inl ⟨3, dL_without_12, rfl, rfl⟩) (by decide) rfl ?_
    refine r_iconst (1) 14 dL_without_13 rfl (by decide) ?_
    exact r_iret dL_without_14 rfl rfl (rfl)
  · exact absurd q9 (by decide)
set_option maxHeartbeats 16000000 in
set_option maxRecDepth 20000 in
theorem l_year {E : HP} {x w q : Int32} (h : OpT true yX11_year mX11_year yX12_year mX12_year [.int x, .int w, .int q] E) : OpH yL_year mL_year yX12_year mX12_year [.int x, .int w, .int q] E := by
  rcases h with ⟨v, E2, bc2, bs2, h1, h2, hc, E3, hm, g1, g2, hR⟩ | ⟨E2, hc, w9, E3, hm, g1, hR⟩ | ⟨q9, E2, hc, w9, E3, hm, g1, hR⟩
  · refine ⟨0, sL E2 136 0 v.toInt64, bc2, bs2, h1, h2, ?_, v, E3, hm, g1, fun _ => g2, hR⟩
    refine Cl.ofH (h0 := (0, 12, 15, 18)) (hh := [(0, 12, 19, 13)]) (by decide) rfl rfl rfl rfl (Nat.le_of_ble_eq_true rfl) ?_
    show Sm _ _ _ _ _ 0 [some (.ref 0), some (.int x), some (.int w), some (.int q), some (.ref 136), none] [] _ _
    refine r_aload 2 dL_year_0 rfl rfl ?_
    refine r_iconst (0) 3 dL_year_2 rfl (by decide) ?_
    refine r_aload_n 4 dL_year_3 rfl rfl ?_
    refine r_iload_n 5 dL_year_4 rfl rfl ?_
    refine r_iload_n 6 dL_year_5 rfl rfl ?_
    refine r_iload_n 7 dL_year_6 rfl rfl ?_
    refine Sm.wide (bc2 := 0 + bc2) (bs2 := 0 + bs2) (by omega) (by omega) ?_
    refine r_callV (M := mL_year) (pc := 7) 10 dL_year_7 rfl k13_70 hc rfl rfl rfl (by decide) rfl (Nat.le_of_ble_eq_true rfl) (Nat.le_of_ble_eq_true rfl) ?_
    refine r_i2l 11 dL_year_10 rfl ?_
    refine r_last (l9 := 1) 12 dL_year_11 rfl rfl (Nat.le_of_ble_eq_true rfl) (by unfold vp_in; decide) ?_
    refine r_goto 23 dL_year_12 (by decide) ?_
    refine r_iconst (0) 24 dL_year_23 rfl (by decide) ?_
    exact r_iret dL_year_24 rfl rfl (rfl)
  · refine ⟨1, E2, 1, 6, Nat.le_refl 1, Nat.le_refl 6, ?_, w9, E3, hm, g1, fun q => absurd q (by decide), hR⟩
    refine Cl.ofH (h0 := (0, 12, 15, 18)) (hh := [(0, 12, 19, 13)]) (by decide) rfl rfl rfl rfl (Nat.le_of_ble_eq_true rfl) ?_
    show Sm _ _ _ _ _ 0 [some (.ref 0), some (.int x), some (.int w), some (.int q), some (.ref 136), none] [] _ _
    refine r_aload 2 dL_year_0 rfl rfl ?_
    refine r_iconst (0) 3 dL_year_2 rfl (by decide) ?_
    refine r_aload_n 4 dL_year_3 rfl rfl ?_
    refine r_iload_n 5 dL_year_4 rfl rfl ?_
    refine r_iload_n 6 dL_year_5 rfl rfl ?_
    refine r_iload_n 7 dL_year_6 rfl rfl ?_
    refine r_callVC (M := mL_year) (pc := 7) [] ⟨0, 12, 15, 18⟩ [⟨0, 12, 19, 13⟩] 17 dL_year_7 k13_70 hc rfl rfl rfl (by decide) rfl (Nat.le_of_ble_eq_true rfl) (Nat.le_of_ble_eq_true rfl) rfl (fun z hz => absurd hz List.not_mem_nil) (by decide) (by decide) nl13_18 (Or.inr rfl) (Or.inr ⟨dL_year_15, rfl⟩) (by decide) rfl ?_
    refine r_iconst (1) 18 dL_year_17 rfl (by decide) ?_
    exact r_iret dL_year_18 rfl rfl (rfl)
  · refine ⟨2, E2, 1, 6, Nat.le_refl 1, Nat.le_refl 6, ?_, w9, E3, hm, g1, fun q => absurd q (by decide), hR⟩
    refine Cl.ofH (h0 := (0, 12, 15, 18)) (hh := [(0, 12, 19, 13)]) (by decide) rfl rfl rfl rfl (Nat.le_of_ble_eq_true rfl) ?_
    show Sm _ _ _ _ _ 0 [some (.ref 0), some (.int x), some (.int w), some (.int q), some (.ref 136), none] [] _ _
    refine r_aload 2 dL_year_0 rfl rfl ?_
    refine r_iconst (0) 3 dL_year_2 rfl (by decide) ?_
    refine r_aload_n 4 dL_year_3 rfl rfl ?_
    refine r_iload_n 5 dL_year_4 rfl rfl ?_
    refine r_iload_n 6 dL_year_5 rfl rfl ?_
    refine r_iload_n 7 dL_year_6 rfl rfl ?_
    refine r_callVC (M := mL_year) (pc := 7) [⟨0, 12, 15, 18⟩] ⟨0, 12, 19, 13⟩ [] 21 dL_year_7 k13_70 hc rfl rfl rfl (by decide) rfl (Nat.le_of_ble_eq_true rfl) (Nat.le_of_ble_eq_true rfl) rfl (fun z hz => Or.inr (by rw [List.mem_singleton.mp hz]; exact ⟨by decide, rfl, nl13_18⟩)) (by decide) (by decide) nl13_13 (Or.inl rfl) (Or.inr ⟨dL_year_19, rfl⟩) (by decide) rfl ?_
    refine r_iconst (2) 22 dL_year_21 rfl (by decide) ?_
    exact r_iret dL_year_22 rfl rfl (rfl)
