/-! THE LAW: how it begins -/
def HP0 : HP := (fun _ _ => 0, fun _ _ => none, fun _ _ => 0, fun _ _ => none, fun _ _ => 0)
def hKa : HP := hK0 (zp HP0 0)
noncomputable def hKb : HP := stSettle 45 3 0 hKa
noncomputable def hF : HP := zp (hM0 (zp hKb 95)) 136
set_option maxRecDepth 100000 in
theorem hka_state : StateOK hKa 95 45 := by
  unfold StateOK PlanOK PileOK RowOK
  repeat' apply And.intro
  all_goals decide +kernel
set_option maxRecDepth 100000 in
theorem hka_bed : BedOK hKa 95 3 := by
  unfold BedOK RuleOK RowOK
  decide +kernel
set_option maxRecDepth 100000 in
theorem hka_l : gI hKa 4 3 = nI 0 := by decide +kernel
set_option maxRecDepth 100000 in
theorem hf_cr : CR hF 3 := by
  unfold CR BedOK RuleOK RowOK
  repeat' apply And.intro
  all_goals decide +kernel
set_option maxRecDepth 100000 in
theorem hf_mo : MoOK hF := by
  unfold MoOK
  decide +kernel
set_option maxRecDepth 100000 in
theorem hf_qs : QS hF := by
  unfold QS
  decide +kernel
set_option maxRecDepth 100000 in
set_option maxHeartbeats 16000000 in
theorem gI_hM0 {E : HP} : gI (zp (hM0 (zp E 95)) 136) 519 46 = gI E 519 46 := by
  simp [hM0, gI_sI, gI_sR, gI_sA, gI_sQ, gI_zp]
set_option maxRecDepth 100000 in
theorem hf_519 : gI hF 519 46 = freW (gA hF 98 1) (gA hF 98 2) (slC hF 3 5) nI 0 := by
  obtain ⟨-, -, -, -, -, -, -, -, -, e, -⟩ := set_at (E := hKa) (b := 3) (l := 0) (Or.inl rfl) (by decide)
  have h5 : gI hKa 5 3 = 20 := by decide +kernel
  have h6 : gI hKa 6 3 = 3 := by decide +kernel
  have a1 : gA hF 98 1 = 20 := by decide +kernel
  have a2 : gA hF 98 2 = 3 := by decide +kernel
  have e1 : gI hF 519 46 = 1 := by
    refine (gI_hM0 (E := hKb)).trans (e.trans ?_)
    unfold freeV
    refine b01_t ?_
    show ¬ gI hKa 5 3 < gI hKa 6 3
    rw [h5, h6]
    decide
  rw [e1, a1, a2]
  show (1 : Int32) = if (20 : Int32) < 3 then 0 else 1
  rw [if_neg (show ¬ (20 : Int32) < 3 by decide)]
set_option maxRecDepth 100000 in
theorem hf_now : NoR hF 0 (slC hF 3) 0 0 := by
  have v14 : pkF hF 14 = 0 := by decide +kernel
  have v15 : pkF hF 15 = -1 := by decide +kernel
  have v16 : pkF hF 16 = 0 := by decide +kernel
  have no : ∀ {p : Prop} {i : Nat}, i < 0 → p := fun z => absurd z (Nat.not_lt_zero _)
  refine ⟨by decide +kernel, hf_519, fun j hj => ?_, ⟨by decide +kernel, by decide +kernel, by decide +kernel⟩, ⟨by decide +kernel, by decide +kernel, by decide +kernel⟩, ⟨fun i z => no z, fun i j z => no z, fun s z => no z, Or.inl v14, ⟨0, by decide, v16⟩, Or.inl v15, ⟨fun _ => v15, fun _ => v16⟩, fun s z => no z⟩, ⟨by decide, fun _ => pkF hF, fun _ _ => rfl, fun i z => no z⟩, ⟨by decide, fun i z => no z⟩, by decide +kernel⟩
  obtain ⟨h1, h2, h3⟩ := hj
  have hj : j = 14 ∨ j = 15 ∨ j = 16 ∨ j = 17 := by omega
  rcases hj with rfl | rfl | rfl | rfl
  · decide +kernel
  · decide +kernel
  · decide +kernel
  · decide +kernel
set_option maxRecDepth 100000 in
theorem hf_td : TdR hF 3 0 480 [] := by
  have no : ∀ {p : Prop} {i : Nat}, i < 0 → p := fun z => absurd z (Nat.not_lt_zero _)
  refine ⟨⟨hf_cr, hf_mo, hf_qs, by decide, ⟨by decide +kernel, by decide, fun i z => no z, Or.inl rfl⟩, by decide +kernel⟩, ⟨by decide +kernel, by decide +kernel⟩, ⟨by decide, by decide, by decide +kernel, by decide +kernel⟩, ⟨by decide +kernel, by decide +kernel, by decide +kernel, by decide +kernel, ⟨15, by decide, by decide +kernel⟩⟩, ⟨by decide +kernel, fun i z => no z⟩, fun s z => no z⟩
set_option maxRecDepth 100000 in
theorem rel_0 : Rel hF := by
  have no : ∀ {p : Prop} {i : Nat}, i < 0 → p := fun z => absurd z (Nat.not_lt_zero _)
  exact ⟨3, 0, 480, [], 0, 0, 0, ⟨hf_td, hf_now, Or.inl ⟨by decide +kernel, by decide +kernel⟩, ⟨by decide, by decide +kernel, by decide +kernel, fun i z => no z⟩, by decide +kernel⟩, Or.inl ⟨by decide +kernel, by decide +kernel⟩⟩
set_option maxRecDepth 100000 in
set_option maxHeartbeats 16000000 in
/-- the whole law: whatever the script, it ends with true -/
theorem law_all {L : Nat} {xs : Nat → Int32} (hL : L ≤ 3072) : Sx (mL_law L xs) 62 601024 7293034 (fun o => o.1 = .inl (some (.int 1))) 0 [some (.ref 2000), none, none, none, none, none, none] [] HP0 0 := by
  have h12 : clN 12 ≤ 200 := by decide
  have h11 : clN 11 ≤ 200 := by decide
  have hq : L / 6 ≤ 512 := by omega
  refine Sx.wide (bc2 := L / 6 + 1 + 40 + 1 + 94 + 1) (bs2 := 6 * (L / 6) + 1 + 8398 + clN 12 + 2595 + clN 11) (by omega) (by omega) ?_
  refine Sx.up (fun _ kk => r_new 3 dL_law_0 rfl n13_8 rfl kk) ?_
  refine Sx.up (fun _ kk => r_dup 4 dL_law_3 rfl rfl kk) ?_
  refine Sx.up (fun _ kk => r_callI (M := mL_law L xs) (pc := 4) (bc := L / 6 + 1 + 40 + 1) (bs := 6 * (L / 6) + 1 + 8398 + clN 12) (bc2 := 94) (bs2 := 2595) 7 dL_law_4 rfl k13_73 (c_newK (d := 57) (E := zp HP0 0) hka_state hka_bed hka_l) rfl rfl (Nat.le_of_ble_eq_true rfl) kk) ?_
  refine Sx.up (fun _ kk => r_astore_n 8 dL_law_7 rfl (Nat.le_of_ble_eq_true rfl) rfl kk) ?_
  refine Sx.up (fun _ kk => r_new 11 dL_law_8 rfl n13_74 rfl kk) ?_
  refine Sx.up (fun _ kk => r_dup 12 dL_law_11 rfl rfl kk) ?_
  refine Sx.up (fun _ kk => r_callI (M := mL_law L xs) (pc := 12) (bc := L / 6 + 1) (bs := 6 * (L / 6) + 1) (bc2 := 40) (bs2 := 8398) 15 dL_law_12 rfl k13_76 (c_newM (d := 61) (E := zp hKb 95)) rfl rfl (Nat.le_of_ble_eq_true rfl) kk) ?_
  refine Sx.up (fun _ kk => r_astore_n 16 dL_law_15 rfl (Nat.le_of_ble_eq_true rfl) rfl kk) ?_
  refine Sx.up (fun _ kk => r_iconst (1) 17 dL_law_16 rfl (by decide) kk) ?_
  refine Sx.up (fun _ kk => r_newL (l9 := 1) 19 dL_law_17 rfl rfl (by decide) (by decide) (by decide) w_ac_long kk) ?_
  refine Sx.up (fun _ kk => r_astore_n 20 dL_law_19 rfl (Nat.le_of_ble_eq_true rfl) rfl kk) ?_
  refine Sx.up (fun _ kk => r_iconst (0) 21 dL_law_20 rfl (by decide) kk) ?_
  refine Sx.up (fun _ kk => r_istore 23 dL_law_21 rfl (Nat.le_of_ble_eq_true rfl) rfl kk) ?_
  exact law_loop hL rel_0
