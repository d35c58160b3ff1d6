/-! The model: count, sleeper, fault, thrown; swap, side, word, bolster, out, undo; see, forget; image, restore; feed -/
theorem ke_0 {E : HP} {x : Int32} : keF (sI E 1538 95 x) = keF E := by
  funext k i
  unfold keF
  rw [pk_mf (E := E) (E2 := sI E 1538 95 x) (mf_sI (gs := [1538]) (as := []) (by decide) mf_rfl) (by decide) (by decide) (by decide) (by decide) (by decide) (by decide)]
  rfl
/-- behind an act: the plan that was is kept -/
def KD (gs as : List Nat) (E E2 : HP) (k : Nat) : Prop := MF (1538 :: 1566 :: gs) (110 :: as) E E2 ∧ gI E2 1538 95 = 0 ∧ gI E2 1566 95 = nI (keN k) ∧ ∀ i, gA E2 110 i = keF E k i
theorem bI_r {q : Bool} (h : ¬ bI q = 0) : q = true := by
  rcases hq : q with _ | _
  · exact absurd (bI_f (by rw [hq]; decide)) h
  · rfl
set_option maxRecDepth 20000 in
theorem m_thrown {d : Nat} {E : HP} (hM : MoOK E) : Cl yX12_thrown mX12_thrown (d + 8) 0 0 [.ref 95] E 137 (.inl (some (.int (gI E 1538 95))), E, 137) := by
  refine Cl.of (by decide) rfl (fun q => by cases q) rfl rfl (Nat.le_of_ble_eq_true rfl) ?_
  show Sm _ _ _ _ _ 0 [some (.ref 95)] [] _ _
  refine r_aload_n 1 dX12_thrown_0 rfl rfl ?_
  refine r_getI 4 dX12_thrown_1 rfl f12_159 rfl rfl lt95 ?_
  exact r_iret dX12_thrown_4 rfl rfl (rfl)
set_option maxRecDepth 20000 in
theorem m_fault {d : Nat} {E : HP} (hM : MoOK E) : Cl yX12_fault mX12_fault (d + 8) 0 0 [.ref 95] E 137 (.inl (some (.int (gI E 1559 95))), (sI E 1538 95 0), 137) := by
  have hM0 : MoOK (sI E 1538 95 0) := hM
  refine Cl.of (by decide) rfl (fun q => by cases q) rfl rfl (Nat.le_of_ble_eq_true rfl) ?_
  show Sm _ _ _ _ _ 0 [some (.ref 95)] [] _ _
  refine r_aload_n 1 dX12_fault_0 rfl rfl ?_
  refine r_iconst (0) 2 dX12_fault_1 rfl (by decide) ?_
  refine r_putI 5 dX12_fault_2 rfl f12_159 rfl lt95 ?_
  refine r_aload_n 6 dX12_fault_5 rfl rfl ?_
  refine r_getI 9 dX12_fault_6 rfl f12_71 rfl rfl lt95 ?_
  exact r_iret dX12_fault_9 rfl rfl (rfl)
def cntM (E : HP) (fr : Int32) : Nat → Int32
  | 0 => gA E 98 0
  | 1 => gA E 98 1
  | 2 => gA E 98 2
  | 3 => gA E 98 3
  | 4 => gA E 98 4
  | 5 => gI E 1565 95
  | 6 => gA E 98 6
  | 7 => gI E 1562 95
  | 8 => gI E 1563 95
  | 9 => gI E 1564 95
  | 10 => fr
  | 11 => gI E 1566 95
  | 12 => gI E 1567 95
  | 13 => gI E 1550 95
  | 14 => gA E 107 0
  | 15 => gA E 107 1
  | 16 => gA E 107 2
  | _ => 0
set_option maxRecDepth 20000 in
theorem m_count {d L m j : Nat} {sl : Nat → Nat → Int32} {aw : Int32} {R : List Int32} {c : Cfg} {fr : Int32} {E : HP} (h : MD E L m sl aw R c fr) (h01 : fr = 0 ∨ fr = 1) (hj : j < 17) : ∃ E2, AQ E E2 0 ∧ Cl yX12_count mX12_count (d + 8) 0 0 [.ref 95, .int (nI j)] E 137 (.inl (some (.int (cntM E fr j))), E2, 137) := by
  obtain ⟨hM, hL, ⟨cok, csu⟩, hoc, h62, h63, h64, h65, hsy, hsl, ⟨m1, m6, hm⟩, -⟩ := id h
  have l7 : L ≤ 7 := cok.2.1
  have hM0 : MoOK (sI E 1538 95 0) := hM
  have hL0 : gA (sI E 1538 95 0) 98 0 = nI L := hL
  have hq0 : AQ E (sI E 1538 95 0) 0 := ⟨mf_sI (by decide) mf_rfl, by rw [gI_sI, if_pos ⟨rfl, rfl⟩]⟩
  match j, hj with
  | 0, _ =>
    refine ⟨_, hq0, ?_⟩
    refine Cl.of (by decide) rfl (fun q => by cases q) rfl rfl (Nat.le_of_ble_eq_true rfl) ?_
    show Sm _ _ _ _ _ 0 [some (.ref 95), some (.int (nI 0))] [] _ _
    refine r_aload_n 1 dX12_count_0 rfl rfl ?_
    refine r_iconst (0) 2 dX12_count_1 rfl (by decide) ?_
    refine r_putI 5 dX12_count_2 rfl f12_159 rfl lt95 ?_
    refine r_iload_n 6 dX12_count_5 rfl rfl ?_
    refine r_tableIn 88 dX12_count_6 (by decide) (by decide) rfl (by decide) ?_
    refine r_aload_n 89 dX12_count_88 rfl rfl ?_
    refine r_getR 92 dX12_count_89 rfl f12_38 rfl rfl lt95 (mo_3 hM0) ?_
    refine r_iload_n 93 dX12_count_92 rfl rfl ?_
    refine r_ialdN (0) (gA E 98 0) 94 dX12_count_93 rfl rfl (Nat.le_of_ble_eq_true rfl) (by decide) (by decide) (Nat.le_of_ble_eq_true rfl) (rfl) ?_
    exact r_iret dX12_count_94 rfl rfl (rfl)
  | 1, _ =>
    refine ⟨_, hq0, ?_⟩
    refine Cl.of (by decide) rfl (fun q => by cases q) rfl rfl (Nat.le_of_ble_eq_true rfl) ?_
    show Sm _ _ _ _ _ 0 [some (.ref 95), some (.int (nI 1))] [] _ _
    refine r_aload_n 1 dX12_count_0 rfl rfl ?_
    refine r_iconst (0) 2 dX12_count_1 rfl (by decide) ?_
    refine r_putI 5 dX12_count_2 rfl f12_159 rfl lt95 ?_
    refine r_iload_n 6 dX12_count_5 rfl rfl ?_
    refine r_tableIn 88 dX12_count_6 (by decide) (by decide) rfl (by decide) ?_
    refine r_aload_n 89 dX12_count_88 rfl rfl ?_
    refine r_getR 92 dX12_count_89 rfl f12_38 rfl rfl lt95 (mo_3 hM0) ?_
    refine r_iload_n 93 dX12_count_92 rfl rfl ?_
    refine r_ialdN (1) (gA E 98 1) 94 dX12_count_93 rfl rfl (Nat.le_of_ble_eq_true rfl) (by decide) (by decide) (Nat.le_of_ble_eq_true rfl) (rfl) ?_
    exact r_iret dX12_count_94 rfl rfl (rfl)
  | 2, _ =>
    refine ⟨_, hq0, ?_⟩
    refine Cl.of (by decide) rfl (fun q => by cases q) rfl rfl (Nat.le_of_ble_eq_true rfl) ?_
    show Sm _ _ _ _ _ 0 [some (.ref 95), some (.int (nI 2))] [] _ _
    refine r_aload_n 1 dX12_count_0 rfl rfl ?_
    refine r_iconst (0) 2 dX12_count_1 rfl (by decide) ?_
    refine r_putI 5 dX12_count_2 rfl f12_159 rfl lt95 ?_
    refine r_iload_n 6 dX12_count_5 rfl rfl ?_
    refine r_tableIn 88 dX12_count_6 (by decide) (by decide) rfl (by decide) ?_
    refine r_aload_n 89 dX12_count_88 rfl rfl ?_
    refine r_getR 92 dX12_count_89 rfl f12_38 rfl rfl lt95 (mo_3 hM0) ?_
    refine r_iload_n 93 dX12_count_92 rfl rfl ?_
    refine r_ialdN (2) (gA E 98 2) 94 dX12_count_93 rfl rfl (Nat.le_of_ble_eq_true rfl) (by decide) (by decide) (Nat.le_of_ble_eq_true rfl) (rfl) ?_
    exact r_iret dX12_count_94 rfl rfl (rfl)
  | 3, _ =>
    refine ⟨_, hq0, ?_⟩
    refine Cl.of (by decide) rfl (fun q => by cases q) rfl rfl (Nat.le_of_ble_eq_true rfl) ?_
    show Sm _ _ _ _ _ 0 [some (.ref 95), some (.int (nI 3))] [] _ _
    refine r_aload_n 1 dX12_count_0 rfl rfl ?_
    refine r_iconst (0) 2 dX12_count_1 rfl (by decide) ?_
    refine r_putI 5 dX12_count_2 rfl f12_159 rfl lt95 ?_
    refine r_iload_n 6 dX12_count_5 rfl rfl ?_
    refine r_tableIn 88 dX12_count_6 (by decide) (by decide) rfl (by decide) ?_
    refine r_aload_n 89 dX12_count_88 rfl rfl ?_
    refine r_getR 92 dX12_count_89 rfl f12_38 rfl rfl lt95 (mo_3 hM0) ?_
    refine r_iload_n 93 dX12_count_92 rfl rfl ?_
    refine r_ialdN (3) (gA E 98 3) 94 dX12_count_93 rfl rfl (Nat.le_of_ble_eq_true rfl) (by decide) (by decide) (Nat.le_of_ble_eq_true rfl) (rfl) ?_
    exact r_iret dX12_count_94 rfl rfl (rfl)
  | 4, _ =>
    refine ⟨_, hq0, ?_⟩
    refine Cl.of (by decide) rfl (fun q => by cases q) rfl rfl (Nat.le_of_ble_eq_true rfl) ?_
    show Sm _ _ _ _ _ 0 [some (.ref 95), some (.int (nI 4))] [] _ _
    refine r_aload_n 1 dX12_count_0 rfl rfl ?_
    refine r_iconst (0) 2 dX12_count_1 rfl (by decide) ?_
    refine r_putI 5 dX12_count_2 rfl f12_159 rfl lt95 ?_
    refine r_iload_n 6 dX12_count_5 rfl rfl ?_
    refine r_tableIn 88 dX12_count_6 (by decide) (by decide) rfl (by decide) ?_
    refine r_aload_n 89 dX12_count_88 rfl rfl ?_
    refine r_getR 92 dX12_count_89 rfl f12_38 rfl rfl lt95 (mo_3 hM0) ?_
    refine r_iload_n 93 dX12_count_92 rfl rfl ?_
    refine r_ialdN (4) (gA E 98 4) 94 dX12_count_93 rfl rfl (Nat.le_of_ble_eq_true rfl) (by decide) (by decide) (Nat.le_of_ble_eq_true rfl) (rfl) ?_
    exact r_iret dX12_count_94 rfl rfl (rfl)
  | 5, _ =>
    refine ⟨_, hq0, ?_⟩
    refine Cl.of (by decide) rfl (fun q => by cases q) rfl rfl (Nat.le_of_ble_eq_true rfl) ?_
    show Sm _ _ _ _ _ 0 [some (.ref 95), some (.int (nI 5))] [] _ _
    refine r_aload_n 1 dX12_count_0 rfl rfl ?_
    refine r_iconst (0) 2 dX12_count_1 rfl (by decide) ?_
    refine r_putI 5 dX12_count_2 rfl f12_159 rfl lt95 ?_
    refine r_iload_n 6 dX12_count_5 rfl rfl ?_
    refine r_tableIn 95 dX12_count_6 (by decide) (by decide) rfl (by decide) ?_
    refine r_aload_n 96 dX12_count_95 rfl rfl ?_
    refine r_getI 99 dX12_count_96 rfl f12_321 rfl rfl lt95 ?_
    exact r_iret dX12_count_99 rfl rfl (rfl)
  | 6, _ =>
    refine ⟨_, hq0, ?_⟩
    refine Cl.of (by decide) rfl (fun q => by cases q) rfl rfl (Nat.le_of_ble_eq_true rfl) ?_
    show Sm _ _ _ _ _ 0 [some (.ref 95), some (.int (nI 6))] [] _ _
    refine r_aload_n 1 dX12_count_0 rfl rfl ?_
    refine r_iconst (0) 2 dX12_count_1 rfl (by decide) ?_
    refine r_putI 5 dX12_count_2 rfl f12_159 rfl lt95 ?_
    refine r_iload_n 6 dX12_count_5 rfl rfl ?_
    refine r_tableIn 100 dX12_count_6 (by decide) (by decide) rfl (by decide) ?_
    refine r_aload_n 101 dX12_count_100 rfl rfl ?_
    refine r_getR 104 dX12_count_101 rfl f12_38 rfl rfl lt95 (mo_3 hM0) ?_
    refine r_bipush (6) 106 dX12_count_104 rfl (by decide) ?_
    refine r_ialdN (6) (_) 107 dX12_count_106 rfl rfl (Nat.le_of_ble_eq_true rfl) (by decide) (Nat.le_of_ble_eq_true rfl) (Nat.le_of_ble_eq_true rfl) (rfl) ?_
    exact r_iret dX12_count_107 rfl rfl (rfl)
  | 7, _ =>
    refine ⟨_, hq0, ?_⟩
    refine Cl.of (by decide) rfl (fun q => by cases q) rfl rfl (Nat.le_of_ble_eq_true rfl) ?_
    show Sm _ _ _ _ _ 0 [some (.ref 95), some (.int (nI 7))] [] _ _
    refine r_aload_n 1 dX12_count_0 rfl rfl ?_
    refine r_iconst (0) 2 dX12_count_1 rfl (by decide) ?_
    refine r_putI 5 dX12_count_2 rfl f12_159 rfl lt95 ?_
    refine r_iload_n 6 dX12_count_5 rfl rfl ?_
    refine r_tableIn 108 dX12_count_6 (by decide) (by decide) rfl (by decide) ?_
    refine r_aload_n 109 dX12_count_108 rfl rfl ?_
    refine r_getI 112 dX12_count_109 rfl f12_315 rfl rfl lt95 ?_
    exact r_iret dX12_count_112 rfl rfl (rfl)
  | 8, _ =>
    refine ⟨_, hq0, ?_⟩
    refine Cl.of (by decide) rfl (fun q => by cases q) rfl rfl (Nat.le_of_ble_eq_true rfl) ?_
    show Sm _ _ _ _ _ 0 [some (.ref 95), some (.int (nI 8))] [] _ _
    refine r_aload_n 1 dX12_count_0 rfl rfl ?_
    refine r_iconst (0) 2 dX12_count_1 rfl (by decide) ?_
    refine r_putI 5 dX12_count_2 rfl f12_159 rfl lt95 ?_
    refine r_iload_n 6 dX12_count_5 rfl rfl ?_
    refine r_tableIn 113 dX12_count_6 (by decide) (by decide) rfl (by decide) ?_
    refine r_aload_n 114 dX12_count_113 rfl rfl ?_
    refine r_getI 117 dX12_count_114 rfl f12_81 rfl rfl lt95 ?_
    exact r_iret dX12_count_117 rfl rfl (rfl)
  | 9, _ =>
    refine ⟨_, hq0, ?_⟩
    refine Cl.of (by decide) rfl (fun q => by cases q) rfl rfl (Nat.le_of_ble_eq_true rfl) ?_
    show Sm _ _ _ _ _ 0 [some (.ref 95), some (.int (nI 9))] [] _ _
    refine r_aload_n 1 dX12_count_0 rfl rfl ?_
    refine r_iconst (0) 2 dX12_count_1 rfl (by decide) ?_
    refine r_putI 5 dX12_count_2 rfl f12_159 rfl lt95 ?_
    refine r_iload_n 6 dX12_count_5 rfl rfl ?_
    refine r_tableIn 118 dX12_count_6 (by decide) (by decide) rfl (by decide) ?_
    refine r_aload_n 119 dX12_count_118 rfl rfl ?_
    refine r_getI 122 dX12_count_119 rfl f12_318 rfl rfl lt95 ?_
    exact r_iret dX12_count_122 rfl rfl (rfl)
  | 10, _ =>
    obtain ⟨E1, ⟨f1, hv1, hr1, s1, s2⟩, hse⟩ := m_set (d := d + 6) (md_0 (x := 0) h)
    have hM1 := mf_mo f1 hM0
    have hf1 : gI E1 1589 95 = fr := hv1.2.2.2.2.2.2.2.2.2.1
    refine ⟨E1, mq_of f1 (by decide) (by decide) (by decide), ?_⟩
    refine Cl.of (by decide) rfl (fun q => by cases q) rfl rfl (Nat.le_of_ble_eq_true rfl) ?_
    show Sm _ _ _ _ _ 0 [some (.ref 95), some (.int (nI 10))] [] _ _
    refine r_aload_n 1 dX12_count_0 rfl rfl ?_
    refine r_iconst (0) 2 dX12_count_1 rfl (by decide) ?_
    refine r_putI 5 dX12_count_2 rfl f12_159 rfl lt95 ?_
    refine r_iload_n 6 dX12_count_5 rfl rfl ?_
    refine r_tableIn 123 dX12_count_6 (by decide) (by decide) rfl (by decide) ?_
    refine r_aload_n 124 dX12_count_123 rfl rfl ?_
    refine r_callV (M := mX12_count) (pc := 124) 127 dX12_count_124 rfl k12_413 hse rfl rfl rfl (by decide) rfl lt95 (Nat.le_of_ble_eq_true rfl) ?_
    refine r_aload_n 128 dX12_count_127 rfl rfl ?_
    refine r_getIV (fr) 131 dX12_count_128 rfl f12_356 rfl rfl lt95 (hf1) ?_
    refine r_if_eq 134 138 dX12_count_131 rfl (by decide) (fun h131 => ?_) (fun h131 => ?_)
    · refine r_iconst (0) 139 dX12_count_138 rfl (by decide) ?_
      exact r_iret dX12_count_139 rfl rfl (by first | exact out_eq (show (1 : Int32) = fr from (h01.resolve_left h131).symm) | exact out_eq (show (0 : Int32) = fr from h131.symm) | exact out_eq (h01.resolve_left h131) | exact out_eq h131)
    · refine r_iconst (1) 135 dX12_count_134 rfl (by decide) ?_
      refine r_goto 139 dX12_count_135 (by decide) ?_
      exact r_iret dX12_count_139 rfl rfl (by first | exact out_eq (show (1 : Int32) = fr from (h01.resolve_left h131).symm) | exact out_eq (show (0 : Int32) = fr from h131.symm) | exact out_eq (h01.resolve_left h131) | exact out_eq h131)
  | 11, _ =>
    refine ⟨_, hq0, ?_⟩
    refine Cl.of (by decide) rfl (fun q => by cases q) rfl rfl (Nat.le_of_ble_eq_true rfl) ?_
    show Sm _ _ _ _ _ 0 [some (.ref 95), some (.int (nI 11))] [] _ _
    refine r_aload_n 1 dX12_count_0 rfl rfl ?_
    refine r_iconst (0) 2 dX12_count_1 rfl (by decide) ?_
    refine r_putI 5 dX12_count_2 rfl f12_159 rfl lt95 ?_
    refine r_iload_n 6 dX12_count_5 rfl rfl ?_
    refine r_tableIn 140 dX12_count_6 (by decide) (by decide) rfl (by decide) ?_
    refine r_aload_n 141 dX12_count_140 rfl rfl ?_
    refine r_getI 144 dX12_count_141 rfl f12_324 rfl rfl lt95 ?_
    exact r_iret dX12_count_144 rfl rfl (rfl)
  | 12, _ =>
    refine ⟨_, hq0, ?_⟩
    refine Cl.of (by decide) rfl (fun q => by cases q) rfl rfl (Nat.le_of_ble_eq_true rfl) ?_
    show Sm _ _ _ _ _ 0 [some (.ref 95), some (.int (nI 12))] [] _ _
    refine r_aload_n 1 dX12_count_0 rfl rfl ?_
    refine r_iconst (0) 2 dX12_count_1 rfl (by decide) ?_
    refine r_putI 5 dX12_count_2 rfl f12_159 rfl lt95 ?_
    refine r_iload_n 6 dX12_count_5 rfl rfl ?_
    refine r_tableIn 145 dX12_count_6 (by decide) (by decide) rfl (by decide) ?_
    refine r_aload_n 146 dX12_count_145 rfl rfl ?_
    refine r_getI 149 dX12_count_146 rfl f12_327 rfl rfl lt95 ?_
    exact r_iret dX12_count_149 rfl rfl (rfl)
  | 13, _ =>
    refine ⟨_, hq0, ?_⟩
    refine Cl.of (by decide) rfl (fun q => by cases q) rfl rfl (Nat.le_of_ble_eq_true rfl) ?_
    show Sm _ _ _ _ _ 0 [some (.ref 95), some (.int (nI 13))] [] _ _
    refine r_aload_n 1 dX12_count_0 rfl rfl ?_
    refine r_iconst (0) 2 dX12_count_1 rfl (by decide) ?_
    refine r_putI 5 dX12_count_2 rfl f12_159 rfl lt95 ?_
    refine r_iload_n 6 dX12_count_5 rfl rfl ?_
    refine r_tableIn 150 dX12_count_6 (by decide) (by decide) rfl (by decide) ?_
    refine r_aload_n 151 dX12_count_150 rfl rfl ?_
    refine r_getI 154 dX12_count_151 rfl f12_166 rfl rfl lt95 ?_
    exact r_iret dX12_count_154 rfl rfl (rfl)
  | 14, _ =>
    refine ⟨_, hq0, ?_⟩
    refine Cl.of (by decide) rfl (fun q => by cases q) rfl rfl (Nat.le_of_ble_eq_true rfl) ?_
    show Sm _ _ _ _ _ 0 [some (.ref 95), some (.int (nI 14))] [] _ _
    refine r_aload_n 1 dX12_count_0 rfl rfl ?_
    refine r_iconst (0) 2 dX12_count_1 rfl (by decide) ?_
    refine r_putI 5 dX12_count_2 rfl f12_159 rfl lt95 ?_
    refine r_iload_n 6 dX12_count_5 rfl rfl ?_
    refine r_tableIn 155 dX12_count_6 (by decide) (by decide) rfl (by decide) ?_
    refine r_aload_n 156 dX12_count_155 rfl rfl ?_
    refine r_getR 159 dX12_count_156 rfl f12_65 rfl rfl lt95 (mo_12 hM0) ?_
    refine r_iload_n 160 dX12_count_159 rfl rfl ?_
    refine r_bipush (14) 162 dX12_count_160 rfl (by decide) ?_
    refine r_isub 163 dX12_count_162 rfl ?_
    refine r_ialdN (0) (gA E 107 0) 164 dX12_count_163 rfl rfl (Nat.le_of_ble_eq_true rfl) (by decide) (by decide) (Nat.le_of_ble_eq_true rfl) (rfl) ?_
    exact r_iret dX12_count_164 rfl rfl (rfl)
  | 15, _ =>
    refine ⟨_, hq0, ?_⟩
    refine Cl.of (by decide) rfl (fun q => by cases q) rfl rfl (Nat.le_of_ble_eq_true rfl) ?_
    show Sm _ _ _ _ _ 0 [some (.ref 95), some (.int (nI 15))] [] _ _
    refine r_aload_n 1 dX12_count_0 rfl rfl ?_
    refine r_iconst (0) 2 dX12_count_1 rfl (by decide) ?_
    refine r_putI 5 dX12_count_2 rfl f12_159 rfl lt95 ?_
    refine r_iload_n 6 dX12_count_5 rfl rfl ?_
    refine r_tableIn 155 dX12_count_6 (by decide) (by decide) rfl (by decide) ?_
    refine r_aload_n 156 dX12_count_155 rfl rfl ?_
    refine r_getR 159 dX12_count_156 rfl f12_65 rfl rfl lt95 (mo_12 hM0) ?_
    refine r_iload_n 160 dX12_count_159 rfl rfl ?_
    refine r_bipush (14) 162 dX12_count_160 rfl (by decide) ?_
    refine r_isub 163 dX12_count_162 rfl ?_
    refine r_ialdN (1) (gA E 107 1) 164 dX12_count_163 rfl rfl (Nat.le_of_ble_eq_true rfl) (by decide) (by decide) (Nat.le_of_ble_eq_true rfl) (rfl) ?_
    exact r_iret dX12_count_164 rfl rfl (rfl)
  | 16, _ =>
    refine ⟨_, hq0, ?_⟩
    refine Cl.of (by decide) rfl (fun q => by cases q) rfl rfl (Nat.le_of_ble_eq_true rfl) ?_
    show Sm _ _ _ _ _ 0 [some (.ref 95), some (.int (nI 16))] [] _ _
    refine r_aload_n 1 dX12_count_0 rfl rfl ?_
    refine r_iconst (0) 2 dX12_count_1 rfl (by decide) ?_
    refine r_putI 5 dX12_count_2 rfl f12_159 rfl lt95 ?_
    refine r_iload_n 6 dX12_count_5 rfl rfl ?_
    refine r_tableIn 155 dX12_count_6 (by decide) (by decide) rfl (by decide) ?_
    refine r_aload_n 156 dX12_count_155 rfl rfl ?_
    refine r_getR 159 dX12_count_156 rfl f12_65 rfl rfl lt95 (mo_12 hM0) ?_
    refine r_iload_n 160 dX12_count_159 rfl rfl ?_
    refine r_bipush (14) 162 dX12_count_160 rfl (by decide) ?_
    refine r_isub 163 dX12_count_162 rfl ?_
    refine r_ialdN (2) (gA E 107 2) 164 dX12_count_163 rfl rfl (Nat.le_of_ble_eq_true rfl) (by decide) (by decide) (Nat.le_of_ble_eq_true rfl) (rfl) ?_
    exact r_iret dX12_count_164 rfl rfl (rfl)
  | n + 17, h => exact absurd h (by omega)
set_option maxRecDepth 20000 in
theorem m_countX {d : Nat} {E : HP} {x : Int32} (hM : MoOK E) (hx : ¬ inB x 17) : ∃ E2, AQ E E2 1 ∧ Cl yX12_count mX12_count (d + 8) 0 0 [.ref 95, .int (x)] E 137 (.inl (some (.int 0)), E2, 137) := by
  have hM0 : MoOK (sI E 1538 95 0) := hM
  refine ⟨_, mq_fail (x := 0), ?_⟩
  refine Cl.of (by decide) rfl (fun q => by cases q) rfl rfl (Nat.le_of_ble_eq_true rfl) ?_
  show Sm _ _ _ _ _ 0 [some (.ref 95), some (.int (x))] [] _ _
  refine r_aload_n 1 dX12_count_0 rfl rfl ?_
  refine r_iconst (0) 2 dX12_count_1 rfl (by decide) ?_
  refine r_putI 5 dX12_count_2 rfl f12_159 rfl lt95 ?_
  refine r_iload_n 6 dX12_count_5 rfl rfl ?_
  refine r_tableOut 165 dX12_count_6 (sw_o17 hx) (by decide) ?_
  refine r_aload_n 166 dX12_count_165 rfl rfl ?_
  refine r_iconst (1) 167 dX12_count_166 rfl (by decide) ?_
  refine r_callV (M := mX12_count) (pc := 167) 170 dX12_count_167 rfl k12_302 c_fail rfl rfl rfl (by decide) rfl lt95 (Nat.le_of_ble_eq_true rfl) ?_
  exact r_iret dX12_count_170 rfl rfl (rfl)
set_option maxRecDepth 20000 in
theorem c_place2 {d L : Nat} {E : HP} {ord : Nat → Int32} {s : Int32} (hM : MoOK E) (hl : gI E 1581 95 = nI L) (h7 : L ≤ 7) (hr : ∀ i, i < L → gA E 113 i = ord i) : Cl yX12_placeOf mX12_placeOf (d) 0 0 [.ref 95, .int (s)] E 137 (.inl (some (.int (nI (plcF ord s L)))), E, 137) := by
  obtain ⟨p1, p2, p3⟩ := plc_le (f := ord) (s := s) L
  refine Cl.of (by decide) rfl (fun q => by cases q) rfl rfl (Nat.le_of_ble_eq_true rfl) ?_
  show Sm _ _ _ _ _ 0 [some (.ref 95), some (.int (s)), none] [] _ _
  have loop := loopUp (P := fun k9 => Sm mX12_placeOf d 0 0 (.inl (some (.int (nI (plcF ord s L)))), E, 137) 2 [some (.ref 95), some (.int s), some (.int (nI k9))] [] E 137) (l := plcF ord s L) ?_ ?_
  refine r_iconst (0) 1 dX12_placeOf_0 rfl (by decide) ?_
  refine r_istore_n 2 dX12_placeOf_1 rfl (by decide) rfl ?_
  exact loop
  · show Sm _ _ _ _ _ 2 _ _ _ _
    by_cases hp : plcF ord s L < L
    · refine r_iload_n 3 dX12_placeOf_2 rfl rfl ?_
      refine r_aload_n 4 dX12_placeOf_3 rfl rfl ?_
      refine r_getIV (nI L) 7 dX12_placeOf_4 rfl f12_341 rfl rfl lt95 (hl) ?_
      refine r_icmp_ge 10 26 dX12_placeOf_7 rfl (by decide) (fun h7 => absurd h7 (nI_ge hp (by omega))) (fun h7 => ?_)
      refine r_aload_n 11 dX12_placeOf_10 rfl rfl ?_
      refine r_getR 14 dX12_placeOf_11 rfl f12_90 rfl rfl lt95 (mo_34 hM) ?_
      refine r_iload_n 15 dX12_placeOf_14 rfl rfl ?_
      refine r_ialdN (plcF ord s L) (s) 16 dX12_placeOf_15 rfl rfl (Nat.le_of_ble_eq_true rfl) (rfl) (by omega) (Nat.le_of_ble_eq_true rfl) ((hr _ hp).trans (p2 hp)) ?_
      refine r_iload_n 17 dX12_placeOf_16 rfl rfl ?_
      refine r_icmp_eq 20 26 dX12_placeOf_17 rfl (by decide) (fun h17 => ?_) (fun h17 => absurd rfl h17)
      refine r_iload_n 27 dX12_placeOf_26 rfl rfl ?_
      exact r_iret dX12_placeOf_27 rfl rfl (rfl)
    · refine r_iload_n 3 dX12_placeOf_2 rfl rfl ?_
      refine r_aload_n 4 dX12_placeOf_3 rfl rfl ?_
      refine r_getIV (nI L) 7 dX12_placeOf_4 rfl f12_341 rfl rfl lt95 (hl) ?_
      refine r_icmp_ge 10 26 dX12_placeOf_7 rfl (by decide) (fun h7 => ?_) (fun h7 => absurd (nI_le (by omega) (by omega)) h7)
      refine r_iload_n 27 dX12_placeOf_26 rfl rfl ?_
      exact r_iret dX12_placeOf_27 rfl rfl (rfl)
  · intro k9 hk9 hq
    show Sm _ _ _ _ _ 2 _ _ _ _
    refine r_iload_n 3 dX12_placeOf_2 rfl rfl ?_
    refine r_aload_n 4 dX12_placeOf_3 rfl rfl ?_
    refine r_getIV (nI L) 7 dX12_placeOf_4 rfl f12_341 rfl rfl lt95 (hl) ?_
    refine r_icmp_ge 10 26 dX12_placeOf_7 rfl (by decide) (fun h7 => absurd h7 (nI_ge (show k9 < L by omega) (by omega))) (fun h7 => ?_)
    refine r_aload_n 11 dX12_placeOf_10 rfl rfl ?_
    refine r_getR 14 dX12_placeOf_11 rfl f12_90 rfl rfl lt95 (mo_34 hM) ?_
    refine r_iload_n 15 dX12_placeOf_14 rfl rfl ?_
    refine r_ialdN (k9) (ord k9) 16 dX12_placeOf_15 rfl rfl (Nat.le_of_ble_eq_true rfl) (rfl) (by omega) (Nat.le_of_ble_eq_true rfl) (hr k9 (by omega)) ?_
    refine r_iload_n 17 dX12_placeOf_16 rfl rfl ?_
    refine r_icmp_eq 20 26 dX12_placeOf_17 rfl (by decide) (fun h17 => absurd h17 (p3 k9 hk9)) (fun h17 => ?_)
    refine r_iinc (1) 23 dX12_placeOf_20 rfl rfl (by decide) (by decide) rfl ?_
    refine r_goto 2 dX12_placeOf_23 (by decide) ?_
    rw [nI_pp]
    exact hq
def sleM (sl : Nat → Nat → Int32) (E : HP) (s p : Nat) : Nat → Int32
  | 0 => sl 1 s
  | 1 => sl 2 s
  | 2 => sl 3 s
  | 3 => sl 4 s
  | 4 => sl 5 s
  | 5 => gA E 103 s
  | 6 => sl 7 s
  | 7 => nI p
  | 8 => gA E 105 s
  | _ => 0
set_option maxRecDepth 20000 in
theorem m_sleeper {d L m s j : Nat} {sl : Nat → Nat → Int32} {aw : Int32} {R : List Int32} {c : Cfg} {fr : Int32} {E : HP} (h : MD E L m sl aw R c fr) (hs : s < L) (hj : j < 9) : ∃ E2, AQ E E2 0 ∧ Cl yX12_sleeper mX12_sleeper (d + 8) 0 0 [.ref 95, .int (nI s), .int (nI j)] E 137 (.inl (some (.int (sleM sl E s (plcF (cO c) (nI s) L) j))), E2, 137) := by
  obtain ⟨hM, hL, ⟨cok, csu⟩, hoc, h62, h63, h64, h65, hsy, hsl, ⟨m1, m6, hm⟩, -⟩ := id h
  have l7 : L ≤ 7 := cok.2.1
  have hM0 : MoOK (sI E 1538 95 0) := hM
  have hL0 : gA (sI E 1538 95 0) 98 0 = nI L := hL
  have his := c_isSl (d := d + 6) (E := sI E 1538 95 0) (x := nI s) hM0 hL0 l7
  rw [b01_t (inB_of hs (by omega))] at his
  obtain ⟨a1, a2, a3, a4, a5, a6, a7, a8⟩ := hsl s hs
  have hq0 : AQ E (sI E 1538 95 0) 0 := ⟨mf_sI (by decide) mf_rfl, by rw [gI_sI, if_pos ⟨rfl, rfl⟩]⟩
  have hdb : (2 : Int32) * nI s = nI (2 * s) := (Int32.ofNat_mul 2 s).symm
  match j, hj with
  | 0, _ =>
    refine ⟨_, hq0, ?_⟩
    refine Cl.of (by decide) rfl (fun q => by cases q) rfl rfl (Nat.le_of_ble_eq_true rfl) ?_
    show Sm _ _ _ _ _ 0 [some (.ref 95), some (.int (nI s)), some (.int (nI 0))] [] _ _
    refine r_aload_n 1 dX12_sleeper_0 rfl rfl ?_
    refine r_iconst (0) 2 dX12_sleeper_1 rfl (by decide) ?_
    refine r_putI 5 dX12_sleeper_2 rfl f12_159 rfl lt95 ?_
    refine r_aload_n 6 dX12_sleeper_5 rfl rfl ?_
    refine r_iload_n 7 dX12_sleeper_6 rfl rfl ?_
    refine r_callV (M := mX12_sleeper) (pc := 7) 10 dX12_sleeper_7 rfl k12_420 his rfl rfl rfl (by decide) rfl lt95 (Nat.le_of_ble_eq_true rfl) ?_
    refine r_if_ne 13 19 dX12_sleeper_10 rfl (by decide) (fun h10 => ?_) (fun h10 => absurd h10 (by decide))
    refine r_iload_n 20 dX12_sleeper_19 rfl rfl ?_
    refine r_tableIn 72 dX12_sleeper_20 (by decide) (by decide) rfl (by decide) ?_
    refine r_aload_n 73 dX12_sleeper_72 rfl rfl ?_
    refine r_getR 76 dX12_sleeper_73 rfl f12_42 rfl rfl lt95 (mo_4 hM0) ?_
    refine r_iload_n 77 dX12_sleeper_76 rfl rfl ?_
    refine r_ialdN (s) (sl 1 s) 78 dX12_sleeper_77 rfl rfl (Nat.le_of_ble_eq_true rfl) (rfl) (by omega) (Nat.le_of_ble_eq_true rfl) (a1) ?_
    exact r_iret dX12_sleeper_78 rfl rfl (rfl)
  | 1, _ =>
    refine ⟨_, hq0, ?_⟩
    refine Cl.of (by decide) rfl (fun q => by cases q) rfl rfl (Nat.le_of_ble_eq_true rfl) ?_
    show Sm _ _ _ _ _ 0 [some (.ref 95), some (.int (nI s)), some (.int (nI 1))] [] _ _
    refine r_aload_n 1 dX12_sleeper_0 rfl rfl ?_
    refine r_iconst (0) 2 dX12_sleeper_1 rfl (by decide) ?_
    refine r_putI 5 dX12_sleeper_2 rfl f12_159 rfl lt95 ?_
    refine r_aload_n 6 dX12_sleeper_5 rfl rfl ?_
    refine r_iload_n 7 dX12_sleeper_6 rfl rfl ?_
    refine r_callV (M := mX12_sleeper) (pc := 7) 10 dX12_sleeper_7 rfl k12_420 his rfl rfl rfl (by decide) rfl lt95 (Nat.le_of_ble_eq_true rfl) ?_
    refine r_if_ne 13 19 dX12_sleeper_10 rfl (by decide) (fun h10 => ?_) (fun h10 => absurd h10 (by decide))
    refine r_iload_n 20 dX12_sleeper_19 rfl rfl ?_
    refine r_tableIn 79 dX12_sleeper_20 (by decide) (by decide) rfl (by decide) ?_
    refine r_aload_n 80 dX12_sleeper_79 rfl rfl ?_
    refine r_getR 83 dX12_sleeper_80 rfl f12_45 rfl rfl lt95 (mo_5 hM0) ?_
    refine r_iconst (2) 84 dX12_sleeper_83 rfl (by decide) ?_
    refine r_iload_n 85 dX12_sleeper_84 rfl rfl ?_
    refine r_imul 86 dX12_sleeper_85 rfl ?_
    rw [hdb]
    refine r_iload_n 87 dX12_sleeper_86 rfl rfl ?_
    refine r_iadd 88 dX12_sleeper_87 rfl ?_
    refine r_iconst (1) 89 dX12_sleeper_88 rfl (by decide) ?_
    refine r_isub 90 dX12_sleeper_89 rfl ?_
    refine r_ialdN (2 * s) (sl 2 s) 91 dX12_sleeper_90 rfl rfl (Nat.le_of_ble_eq_true rfl) ((by rw [show nI (2 * s) + nI 1 - 1 = nI (2 * s) + 1 - 1 from rfl, Int32.add_sub_cancel])) (by omega) (Nat.le_of_ble_eq_true rfl) (a2) ?_
    exact r_iret dX12_sleeper_91 rfl rfl (rfl)
  | 2, _ =>
    refine ⟨_, hq0, ?_⟩
    refine Cl.of (by decide) rfl (fun q => by cases q) rfl rfl (Nat.le_of_ble_eq_true rfl) ?_
    show Sm _ _ _ _ _ 0 [some (.ref 95), some (.int (nI s)), some (.int (nI 2))] [] _ _
    refine r_aload_n 1 dX12_sleeper_0 rfl rfl ?_
    refine r_iconst (0) 2 dX12_sleeper_1 rfl (by decide) ?_
    refine r_putI 5 dX12_sleeper_2 rfl f12_159 rfl lt95 ?_
    refine r_aload_n 6 dX12_sleeper_5 rfl rfl ?_
    refine r_iload_n 7 dX12_sleeper_6 rfl rfl ?_
    refine r_callV (M := mX12_sleeper) (pc := 7) 10 dX12_sleeper_7 rfl k12_420 his rfl rfl rfl (by decide) rfl lt95 (Nat.le_of_ble_eq_true rfl) ?_
    refine r_if_ne 13 19 dX12_sleeper_10 rfl (by decide) (fun h10 => ?_) (fun h10 => absurd h10 (by decide))
    refine r_iload_n 20 dX12_sleeper_19 rfl rfl ?_
    refine r_tableIn 79 dX12_sleeper_20 (by decide) (by decide) rfl (by decide) ?_
    refine r_aload_n 80 dX12_sleeper_79 rfl rfl ?_
    refine r_getR 83 dX12_sleeper_80 rfl f12_45 rfl rfl lt95 (mo_5 hM0) ?_
    refine r_iconst (2) 84 dX12_sleeper_83 rfl (by decide) ?_
    refine r_iload_n 85 dX12_sleeper_84 rfl rfl ?_
    refine r_imul 86 dX12_sleeper_85 rfl ?_
    rw [hdb]
    refine r_iload_n 87 dX12_sleeper_86 rfl rfl ?_
    refine r_iadd 88 dX12_sleeper_87 rfl ?_
    refine r_iconst (1) 89 dX12_sleeper_88 rfl (by decide) ?_
    refine r_isub 90 dX12_sleeper_89 rfl ?_
    refine r_ialdN (2 * s + 1) (sl 3 s) 91 dX12_sleeper_90 rfl rfl (Nat.le_of_ble_eq_true rfl) ((by rw [add_nI, show 2 * s + 2 = 2 * s + 1 + 1 from rfl, nI_pred])) (by omega) (Nat.le_of_ble_eq_true rfl) (a3) ?_
    exact r_iret dX12_sleeper_91 rfl rfl (rfl)
  | 3, _ =>
    refine ⟨_, hq0, ?_⟩
    refine Cl.of (by decide) rfl (fun q => by cases q) rfl rfl (Nat.le_of_ble_eq_true rfl) ?_
    show Sm _ _ _ _ _ 0 [some (.ref 95), some (.int (nI s)), some (.int (nI 3))] [] _ _
    refine r_aload_n 1 dX12_sleeper_0 rfl rfl ?_
    refine r_iconst (0) 2 dX12_sleeper_1 rfl (by decide) ?_
    refine r_putI 5 dX12_sleeper_2 rfl f12_159 rfl lt95 ?_
    refine r_aload_n 6 dX12_sleeper_5 rfl rfl ?_
    refine r_iload_n 7 dX12_sleeper_6 rfl rfl ?_
    refine r_callV (M := mX12_sleeper) (pc := 7) 10 dX12_sleeper_7 rfl k12_420 his rfl rfl rfl (by decide) rfl lt95 (Nat.le_of_ble_eq_true rfl) ?_
    refine r_if_ne 13 19 dX12_sleeper_10 rfl (by decide) (fun h10 => ?_) (fun h10 => absurd h10 (by decide))
    refine r_iload_n 20 dX12_sleeper_19 rfl rfl ?_
    refine r_tableIn 92 dX12_sleeper_20 (by decide) (by decide) rfl (by decide) ?_
    refine r_aload_n 93 dX12_sleeper_92 rfl rfl ?_
    refine r_getR 96 dX12_sleeper_93 rfl f12_48 rfl rfl lt95 (mo_6 hM0) ?_
    refine r_iload_n 97 dX12_sleeper_96 rfl rfl ?_
    refine r_ialdN (s) (sl 4 s) 98 dX12_sleeper_97 rfl rfl (Nat.le_of_ble_eq_true rfl) (rfl) (by omega) (Nat.le_of_ble_eq_true rfl) (a4) ?_
    exact r_iret dX12_sleeper_98 rfl rfl (rfl)
  | 4, _ =>
    refine ⟨_, hq0, ?_⟩
    refine Cl.of (by decide) rfl (fun q => by cases q) rfl rfl (Nat.le_of_ble_eq_true rfl) ?_
    show Sm _ _ _ _ _ 0 [some (.ref 95), some (.int (nI s)), some (.int (nI 4))] [] _ _
    refine r_aload_n 1 dX12_sleeper_0 rfl rfl ?_
    refine r_iconst (0) 2 dX12_sleeper_1 rfl (by decide) ?_
    refine r_putI 5 dX12_sleeper_2 rfl f12_159 rfl lt95 ?_
    refine r_aload_n 6 dX12_sleeper_5 rfl rfl ?_
    refine r_iload_n 7 dX12_sleeper_6 rfl rfl ?_
    refine r_callV (M := mX12_sleeper) (pc := 7) 10 dX12_sleeper_7 rfl k12_420 his rfl rfl rfl (by decide) rfl lt95 (Nat.le_of_ble_eq_true rfl) ?_
    refine r_if_ne 13 19 dX12_sleeper_10 rfl (by decide) (fun h10 => ?_) (fun h10 => absurd h10 (by decide))
    refine r_iload_n 20 dX12_sleeper_19 rfl rfl ?_
    refine r_tableIn 99 dX12_sleeper_20 (by decide) (by decide) rfl (by decide) ?_
    refine r_aload_n 100 dX12_sleeper_99 rfl rfl ?_
    refine r_getR 103 dX12_sleeper_100 rfl f12_50 rfl rfl lt95 (mo_7 hM0) ?_
    refine r_iload_n 104 dX12_sleeper_103 rfl rfl ?_
    refine r_ialdN (s) (sl 5 s) 105 dX12_sleeper_104 rfl rfl (Nat.le_of_ble_eq_true rfl) (rfl) (by omega) (Nat.le_of_ble_eq_true rfl) (a5) ?_
    exact r_iret dX12_sleeper_105 rfl rfl (rfl)
  | 5, _ =>
    refine ⟨_, hq0, ?_⟩
    refine Cl.of (by decide) rfl (fun q => by cases q) rfl rfl (Nat.le_of_ble_eq_true rfl) ?_
    show Sm _ _ _ _ _ 0 [some (.ref 95), some (.int (nI s)), some (.int (nI 5))] [] _ _
    refine r_aload_n 1 dX12_sleeper_0 rfl rfl ?_
    refine r_iconst (0) 2 dX12_sleeper_1 rfl (by decide) ?_
    refine r_putI 5 dX12_sleeper_2 rfl f12_159 rfl lt95 ?_
    refine r_aload_n 6 dX12_sleeper_5 rfl rfl ?_
    refine r_iload_n 7 dX12_sleeper_6 rfl rfl ?_
    refine r_callV (M := mX12_sleeper) (pc := 7) 10 dX12_sleeper_7 rfl k12_420 his rfl rfl rfl (by decide) rfl lt95 (Nat.le_of_ble_eq_true rfl) ?_
    refine r_if_ne 13 19 dX12_sleeper_10 rfl (by decide) (fun h10 => ?_) (fun h10 => absurd h10 (by decide))
    refine r_iload_n 20 dX12_sleeper_19 rfl rfl ?_
    refine r_tableIn 106 dX12_sleeper_20 (by decide) (by decide) rfl (by decide) ?_
    refine r_aload_n 107 dX12_sleeper_106 rfl rfl ?_
    refine r_getR 110 dX12_sleeper_107 rfl f12_53 rfl rfl lt95 (mo_8 hM0) ?_
    refine r_iload_n 111 dX12_sleeper_110 rfl rfl ?_
    refine r_ialdN (s) (_) 112 dX12_sleeper_111 rfl rfl (Nat.le_of_ble_eq_true rfl) (rfl) (by omega) (Nat.le_of_ble_eq_true rfl) (rfl) ?_
    exact r_iret dX12_sleeper_112 rfl rfl (rfl)
  | 6, _ =>
    refine ⟨_, hq0, ?_⟩
    refine Cl.of (by decide) rfl (fun q => by cases q) rfl rfl (Nat.le_of_ble_eq_true rfl) ?_
    show Sm _ _ _ _ _ 0 [some (.ref 95), some (.int (nI s)), some (.int (nI 6))] [] _ _
    refine r_aload_n 1 dX12_sleeper_0 rfl rfl ?_
    refine r_iconst (0) 2 dX12_sleeper_1 rfl (by decide) ?_
    refine r_putI 5 dX12_sleeper_2 rfl f12_159 rfl lt95 ?_
    refine r_aload_n 6 dX12_sleeper_5 rfl rfl ?_
    refine r_iload_n 7 dX12_sleeper_6 rfl rfl ?_
    refine r_callV (M := mX12_sleeper) (pc := 7) 10 dX12_sleeper_7 rfl k12_420 his rfl rfl rfl (by decide) rfl lt95 (Nat.le_of_ble_eq_true rfl) ?_
    refine r_if_ne 13 19 dX12_sleeper_10 rfl (by decide) (fun h10 => ?_) (fun h10 => absurd h10 (by decide))
    refine r_iload_n 20 dX12_sleeper_19 rfl rfl ?_
    refine r_tableIn 113 dX12_sleeper_20 (by decide) (by decide) rfl (by decide) ?_
    refine r_aload_n 114 dX12_sleeper_113 rfl rfl ?_
    refine r_getR 117 dX12_sleeper_114 rfl f12_56 rfl rfl lt95 (mo_9 hM0) ?_
    refine r_iload_n 118 dX12_sleeper_117 rfl rfl ?_
    refine r_ialdN (s) (sl 7 s) 119 dX12_sleeper_118 rfl rfl (Nat.le_of_ble_eq_true rfl) (rfl) (by omega) (Nat.le_of_ble_eq_true rfl) (a6) ?_
    exact r_iret dX12_sleeper_119 rfl rfl (rfl)
  | 7, _ =>
    obtain ⟨E1, ⟨f1, hv1, hr1, s1, s2⟩, hse⟩ := m_set (d := d + 6) (md_0 (x := 0) h)
    have hM1 := mf_mo f1 hM0
    have hpl := c_place2 (d := d + 7) (ord := cO c) (s := nI s) hM1 hv1.1 l7 (fun i hi => (hr1 i hi).1)
    refine ⟨E1, mq_of f1 (by decide) (by decide) (by decide), ?_⟩
    refine Cl.of (by decide) rfl (fun q => by cases q) rfl rfl (Nat.le_of_ble_eq_true rfl) ?_
    show Sm _ _ _ _ _ 0 [some (.ref 95), some (.int (nI s)), some (.int (nI 7))] [] _ _
    refine r_aload_n 1 dX12_sleeper_0 rfl rfl ?_
    refine r_iconst (0) 2 dX12_sleeper_1 rfl (by decide) ?_
    refine r_putI 5 dX12_sleeper_2 rfl f12_159 rfl lt95 ?_
    refine r_aload_n 6 dX12_sleeper_5 rfl rfl ?_
    refine r_iload_n 7 dX12_sleeper_6 rfl rfl ?_
    refine r_callV (M := mX12_sleeper) (pc := 7) 10 dX12_sleeper_7 rfl k12_420 his rfl rfl rfl (by decide) rfl lt95 (Nat.le_of_ble_eq_true rfl) ?_
    refine r_if_ne 13 19 dX12_sleeper_10 rfl (by decide) (fun h10 => ?_) (fun h10 => absurd h10 (by decide))
    refine r_iload_n 20 dX12_sleeper_19 rfl rfl ?_
    refine r_tableIn 120 dX12_sleeper_20 (by decide) (by decide) rfl (by decide) ?_
    refine r_aload_n 121 dX12_sleeper_120 rfl rfl ?_
    refine r_callV (M := mX12_sleeper) (pc := 121) 124 dX12_sleeper_121 rfl k12_413 hse rfl rfl rfl (by decide) rfl lt95 (Nat.le_of_ble_eq_true rfl) ?_
    refine r_aload_n 125 dX12_sleeper_124 rfl rfl ?_
    refine r_iload_n 126 dX12_sleeper_125 rfl rfl ?_
    refine r_callV (M := mX12_sleeper) (pc := 126) 129 dX12_sleeper_126 rfl k12_394 hpl rfl rfl rfl (by decide) rfl lt95 (Nat.le_of_ble_eq_true rfl) ?_
    exact r_iret dX12_sleeper_129 rfl rfl (rfl)
  | 8, _ =>
    refine ⟨_, hq0, ?_⟩
    refine Cl.of (by decide) rfl (fun q => by cases q) rfl rfl (Nat.le_of_ble_eq_true rfl) ?_
    show Sm _ _ _ _ _ 0 [some (.ref 95), some (.int (nI s)), some (.int (nI 8))] [] _ _
    refine r_aload_n 1 dX12_sleeper_0 rfl rfl ?_
    refine r_iconst (0) 2 dX12_sleeper_1 rfl (by decide) ?_
    refine r_putI 5 dX12_sleeper_2 rfl f12_159 rfl lt95 ?_
    refine r_aload_n 6 dX12_sleeper_5 rfl rfl ?_
    refine r_iload_n 7 dX12_sleeper_6 rfl rfl ?_
    refine r_callV (M := mX12_sleeper) (pc := 7) 10 dX12_sleeper_7 rfl k12_420 his rfl rfl rfl (by decide) rfl lt95 (Nat.le_of_ble_eq_true rfl) ?_
    refine r_if_ne 13 19 dX12_sleeper_10 rfl (by decide) (fun h10 => ?_) (fun h10 => absurd h10 (by decide))
    refine r_iload_n 20 dX12_sleeper_19 rfl rfl ?_
    refine r_tableIn 130 dX12_sleeper_20 (by decide) (by decide) rfl (by decide) ?_
    refine r_aload_n 131 dX12_sleeper_130 rfl rfl ?_
    refine r_getR 134 dX12_sleeper_131 rfl f12_59 rfl rfl lt95 (mo_10 hM0) ?_
    refine r_iload_n 135 dX12_sleeper_134 rfl rfl ?_
    refine r_ialdN (s) (_) 136 dX12_sleeper_135 rfl rfl (Nat.le_of_ble_eq_true rfl) (rfl) (by omega) (Nat.le_of_ble_eq_true rfl) (rfl) ?_
    exact r_iret dX12_sleeper_136 rfl rfl (rfl)
set_option maxRecDepth 20000 in
theorem m_sleeper1 {d L m : Nat} {sl : Nat → Nat → Int32} {aw : Int32} {R : List Int32} {c : Cfg} {fr : Int32} {E : HP} {x w : Int32} (h : MD E L m sl aw R c fr) (hx : ¬ inB x (nI L)) : ∃ E2, AQ E E2 1 ∧ Cl yX12_sleeper mX12_sleeper (d + 8) 0 0 [.ref 95, .int (x), .int (w)] E 137 (.inl (some (.int 0)), E2, 137) := by
  obtain ⟨hM, hL, ⟨cok, csu⟩, hoc, h62, h63, h64, h65, hsy, hsl, ⟨m1, m6, hm⟩, -⟩ := id h
  have l7 : L ≤ 7 := cok.2.1
  have hM0 : MoOK (sI E 1538 95 0) := hM
  have hL0 : gA (sI E 1538 95 0) 98 0 = nI L := hL
  have his := c_isSl (d := d + 6) (E := sI E 1538 95 0) (x := x) hM0 hL0 l7
  rw [b01_f hx] at his
  refine ⟨_, mq_fail (x := 0), ?_⟩
  refine Cl.of (by decide) rfl (fun q => by cases q) rfl rfl (Nat.le_of_ble_eq_true rfl) ?_
  show Sm _ _ _ _ _ 0 [some (.ref 95), some (.int (x)), some (.int (w))] [] _ _
  refine r_aload_n 1 dX12_sleeper_0 rfl rfl ?_
  refine r_iconst (0) 2 dX12_sleeper_1 rfl (by decide) ?_
  refine r_putI 5 dX12_sleeper_2 rfl f12_159 rfl lt95 ?_
  refine r_aload_n 6 dX12_sleeper_5 rfl rfl ?_
  refine r_iload_n 7 dX12_sleeper_6 rfl rfl ?_
  refine r_callV (M := mX12_sleeper) (pc := 7) 10 dX12_sleeper_7 rfl k12_420 his rfl rfl rfl (by decide) rfl lt95 (Nat.le_of_ble_eq_true rfl) ?_
  refine r_if_ne 13 19 dX12_sleeper_10 rfl (by decide) (fun h10 => absurd h10 (fun z => z rfl)) (fun h10 => ?_)
  refine r_aload_n 14 dX12_sleeper_13 rfl rfl ?_
  refine r_iconst (1) 15 dX12_sleeper_14 rfl (by decide) ?_
  refine r_callV (M := mX12_sleeper) (pc := 15) 18 dX12_sleeper_15 rfl k12_302 c_fail rfl rfl rfl (by decide) rfl lt95 (Nat.le_of_ble_eq_true rfl) ?_
  exact r_iret dX12_sleeper_18 rfl rfl (rfl)
set_option maxRecDepth 20000 in
theorem m_sleeper2 {d L m s : Nat} {sl : Nat → Nat → Int32} {aw : Int32} {R : List Int32} {c : Cfg} {fr : Int32} {E : HP} {w : Int32} (h : MD E L m sl aw R c fr) (hs : s < L) (hw : ¬ inB w 9) : ∃ E2, AQ E E2 1 ∧ Cl yX12_sleeper mX12_sleeper (d + 8) 0 0 [.ref 95, .int (nI s), .int (w)] E 137 (.inl (some (.int 0)), E2, 137) := by
  obtain ⟨hM, hL, ⟨cok, csu⟩, hoc, h62, h63, h64, h65, hsy, hsl, ⟨m1, m6, hm⟩, -⟩ := id h
  have l7 : L ≤ 7 := cok.2.1
  have hM0 : MoOK (sI E 1538 95 0) := hM
  have hL0 : gA (sI E 1538 95 0) 98 0 = nI L := hL
  have his := c_isSl (d := d + 6) (E := sI E 1538 95 0) (x := nI s) hM0 hL0 l7
  rw [b01_t (inB_of hs (by omega))] at his
  refine ⟨_, mq_fail (x := 0), ?_⟩
  refine Cl.of (by decide) rfl (fun q => by cases q) rfl rfl (Nat.le_of_ble_eq_true rfl) ?_
  show Sm _ _ _ _ _ 0 [some (.ref 95), some (.int (nI s)), some (.int (w))] [] _ _
  refine r_aload_n 1 dX12_sleeper_0 rfl rfl ?_
  refine r_iconst (0) 2 dX12_sleeper_1 rfl (by decide) ?_
  refine r_putI 5 dX12_sleeper_2 rfl f12_159 rfl lt95 ?_
  refine r_aload_n 6 dX12_sleeper_5 rfl rfl ?_
  refine r_iload_n 7 dX12_sleeper_6 rfl rfl ?_
  refine r_callV (M := mX12_sleeper) (pc := 7) 10 dX12_sleeper_7 rfl k12_420 his rfl rfl rfl (by decide) rfl lt95 (Nat.le_of_ble_eq_true rfl) ?_
  refine r_if_ne 13 19 dX12_sleeper_10 rfl (by decide) (fun h10 => ?_) (fun h10 => absurd h10 (by decide))
  refine r_iload_n 20 dX12_sleeper_19 rfl rfl ?_
  refine r_tableOut 137 dX12_sleeper_20 (sw_o9 hw) (by decide) ?_
  refine r_aload_n 138 dX12_sleeper_137 rfl rfl ?_
  refine r_iconst (1) 139 dX12_sleeper_138 rfl (by decide) ?_
  refine r_callV (M := mX12_sleeper) (pc := 139) 142 dX12_sleeper_139 rfl k12_302 c_fail rfl rfl rfl (by decide) rfl lt95 (Nat.le_of_ble_eq_true rfl) ?_
  exact r_iret dX12_sleeper_142 rfl rfl (rfl)
set_option maxRecDepth 20000 in
theorem m_swap {d L k i j : Nat} {E : HP} (hM : MoOK E) (hk : gI E 1566 95 = nI k) (h4 : k ≤ 40) (hL : gA E 98 0 = nI L) (l7 : L ≤ 7) (hi : i < L) (hj : j < L) (hij : ¬ i = j) : ∃ E2, KD [] [109] E E2 k ∧ (∀ q, gA E2 109 q = if q = j then gA E 109 i else if q = i then gA E 109 j else gA E 109 q) ∧ Cl yX12_swap mX12_swap (d + 8) 0 0 [.ref 95, .int (nI i), .int (nI j)] E 137 (.inl (some (.int (1))), E2, 137) := by
  have hM0 : MoOK (sI E 1538 95 0) := hM
  have hk0 : gI (sI E 1538 95 0) 1566 95 = nI k := by rw [gI_sI, if_neg (by decide)]; exact hk
  obtain ⟨_, ⟨E3, rfl, f3, k1, k2⟩, hke⟩ := c_keep (d := d + 6) hM0 hk0 h4
  rw [ke_0] at k2
  have hM3 := mf_mo f3 hM0
  have f03 : MF [1538, 1566] [110] E E3 := mf_tr (mf_sI (by decide) mf_rfl) (mf_mono f3 (by decide) (by decide))
  have c3 : gI E3 1538 95 = 0 := by rw [mf_gI f3 (by decide), gI_sI, if_pos ⟨rfl, rfl⟩]
  have hL0 : gA (sI E 1538 95 0) 98 0 = nI L := hL
  have his := c_isSl (d := d + 6) (E := sI E 1538 95 0) (x := nI i) hM0 hL0 l7
  rw [b01_t (inB_of hi (by omega))] at his
  have hi2 := c_isSl (d := d + 6) (E := sI E 1538 95 0) (x := nI j) hM0 hL0 l7
  rw [b01_t (inB_of hj (by omega))] at hi2
  have v1 : gA E3 109 i = gA E 109 i := by rw [mf_gA f03 (by decide)]
  have v2 : gA E3 109 j = gA E 109 j := by rw [mf_gA f03 (by decide)]
  refine ⟨sA (sA E3 109 i (gA E 109 j)) 109 j (gA E 109 i), ⟨mf_sA (by decide) (mf_sA (by decide) (mf_mono f03 (by decide) (by decide))), c3, k1, k2⟩, fun q => ?_, ?_⟩
  · simp only [gA_sA, true_and]
    rw [mf_gA f03 (by decide)]
  refine Cl.of (by decide) rfl (fun q => by cases q) rfl rfl (Nat.le_of_ble_eq_true rfl) ?_
  show Sm _ _ _ _ _ 0 [some (.ref 95), some (.int (nI i)), some (.int (nI j)), none] [] _ _
  refine r_aload_n 1 dX12_swap_0 rfl rfl ?_
  refine r_iconst (0) 2 dX12_swap_1 rfl (by decide) ?_
  refine r_putI 5 dX12_swap_2 rfl f12_159 rfl lt95 ?_
  refine r_aload_n 6 dX12_swap_5 rfl rfl ?_
  refine r_iload_n 7 dX12_swap_6 rfl rfl ?_
  refine r_callV (M := mX12_swap) (pc := 7) 10 dX12_swap_7 rfl k12_420 his rfl rfl rfl (by decide) rfl lt95 (Nat.le_of_ble_eq_true rfl) ?_
  refine r_if_eq 13 26 dX12_swap_10 rfl (by decide) (fun h10 => absurd h10 (by decide)) (fun h10 => ?_)
  refine r_aload_n 14 dX12_swap_13 rfl rfl ?_
  refine r_iload_n 15 dX12_swap_14 rfl rfl ?_
  refine r_callV (M := mX12_swap) (pc := 15) 18 dX12_swap_15 rfl k12_420 hi2 rfl rfl rfl (by decide) rfl lt95 (Nat.le_of_ble_eq_true rfl) ?_
  refine r_if_eq 21 26 dX12_swap_18 rfl (by decide) (fun h18 => absurd h18 (by decide)) (fun h18 => ?_)
  refine r_iload_n 22 dX12_swap_21 rfl rfl ?_
  refine r_iload_n 23 dX12_swap_22 rfl rfl ?_
  refine r_icmp_ne 26 38 dX12_swap_23 rfl (by decide) (fun h23 => ?_) (fun h23 => absurd h23 (fun z => hij ((nI_eq (by omega) (by omega)).mp z)))
  refine r_aload_n 39 dX12_swap_38 rfl rfl ?_
  refine r_callV (M := mX12_swap) (pc := 39) 42 dX12_swap_39 rfl k12_427 hke rfl rfl rfl (by decide) rfl lt95 (Nat.le_of_ble_eq_true rfl) ?_
  refine r_aload_n 43 dX12_swap_42 rfl rfl ?_
  refine r_getR 46 dX12_swap_43 rfl f12_75 rfl rfl lt95 (mo_24 hM3) ?_
  refine r_iload_n 47 dX12_swap_46 rfl rfl ?_
  refine r_ialdN (i) (_) 48 dX12_swap_47 rfl rfl (Nat.le_of_ble_eq_true rfl) (rfl) (by omega) (Nat.le_of_ble_eq_true rfl) (v1) ?_
  refine r_istore_n 49 dX12_swap_48 rfl (by decide) rfl ?_
  refine r_aload_n 50 dX12_swap_49 rfl rfl ?_
  refine r_getR 53 dX12_swap_50 rfl f12_75 rfl rfl lt95 (mo_24 hM3) ?_
  refine r_iload_n 54 dX12_swap_53 rfl rfl ?_
  refine r_aload_n 55 dX12_swap_54 rfl rfl ?_
  refine r_getR 58 dX12_swap_55 rfl f12_75 rfl rfl lt95 (mo_24 hM3) ?_
  refine r_iload_n 59 dX12_swap_58 rfl rfl ?_
  refine r_ialdN (j) (_) 60 dX12_swap_59 rfl rfl (Nat.le_of_ble_eq_true rfl) (rfl) (by omega) (Nat.le_of_ble_eq_true rfl) (v2) ?_
  refine r_iastN (i) 61 dX12_swap_60 rfl rfl (Nat.le_of_ble_eq_true rfl) (rfl) (by omega) (Nat.le_of_ble_eq_true rfl) ?_
  refine r_aload_n 62 dX12_swap_61 rfl rfl ?_
  refine r_getR 65 dX12_swap_62 rfl f12_75 rfl rfl lt95 (mo_24 hM3) ?_
  refine r_iload_n 66 dX12_swap_65 rfl rfl ?_
  refine r_iload_n 67 dX12_swap_66 rfl rfl ?_
  refine r_iastN (j) 68 dX12_swap_67 rfl rfl (Nat.le_of_ble_eq_true rfl) (rfl) (by omega) (Nat.le_of_ble_eq_true rfl) ?_
  refine r_iconst (1) 69 dX12_swap_68 rfl (by decide) ?_
  exact r_zret dX12_swap_69 rfl rfl (by decide) (rfl)
set_option maxRecDepth 20000 in
theorem m_swapX {d L : Nat} {E : HP} {x y : Int32} (hM : MoOK E) (hL : gA E 98 0 = nI L) (l7 : L ≤ 7) (h : ¬ (inB x (nI L) ∧ inB y (nI L) ∧ ¬ x = y)) : Cl yX12_swap mX12_swap (d + 8) 0 0 [.ref 95, .int (x), .int (y)] E 137 (.inl (some (.int (0))), sA (sI E 1538 95 0) 107 1 (gA E 107 1 + 1), 137) := by
  have hM0 : MoOK (sI E 1538 95 0) := hM
  have hL0 : gA (sI E 1538 95 0) 98 0 = nI L := hL
  have his := c_isSl (d := d + 6) (E := sI E 1538 95 0) (x := x) hM0 hL0 l7
  have hi2 := c_isSl (d := d + 6) (E := sI E 1538 95 0) (x := y) hM0 hL0 l7
  refine Cl.of (by decide) rfl (fun q => by cases q) rfl rfl (Nat.le_of_ble_eq_true rfl) ?_
  show Sm _ _ _ _ _ 0 [some (.ref 95), some (.int (x)), some (.int (y)), none] [] _ _
  refine r_aload_n 1 dX12_swap_0 rfl rfl ?_
  refine r_iconst (0) 2 dX12_swap_1 rfl (by decide) ?_
  refine r_putI 5 dX12_swap_2 rfl f12_159 rfl lt95 ?_
  refine r_aload_n 6 dX12_swap_5 rfl rfl ?_
  refine r_iload_n 7 dX12_swap_6 rfl rfl ?_
  refine r_callV (M := mX12_swap) (pc := 7) 10 dX12_swap_7 rfl k12_420 his rfl rfl rfl (by decide) rfl lt95 (Nat.le_of_ble_eq_true rfl) ?_
  refine r_if_eq 13 26 dX12_swap_10 rfl (by decide) (fun h10 => ?_) (fun h10 => ?_)
  · refine r_aload_n 27 dX12_swap_26 rfl rfl ?_
    refine r_getR 30 dX12_swap_27 rfl f12_65 rfl rfl lt95 (mo_12 hM0) ?_
    refine r_iconst (1) 31 dX12_swap_30 rfl (by decide) ?_
    refine r_dup2 32 dX12_swap_31 rfl rfl rfl ?_
    refine r_ialdN (1) (gA E 107 1) 33 dX12_swap_32 rfl rfl (Nat.le_of_ble_eq_true rfl) (by decide) (by decide) (Nat.le_of_ble_eq_true rfl) (rfl) ?_
    refine r_iconst (1) 34 dX12_swap_33 rfl (by decide) ?_
    refine r_iadd 35 dX12_swap_34 rfl ?_
    refine r_iastN (1) 36 dX12_swap_35 rfl rfl (Nat.le_of_ble_eq_true rfl) (by decide) (by decide) (Nat.le_of_ble_eq_true rfl) ?_
    refine r_iconst (0) 37 dX12_swap_36 rfl (by decide) ?_
    exact r_zret dX12_swap_37 rfl rfl (by decide) (rfl)
  · refine r_aload_n 14 dX12_swap_13 rfl rfl ?_
    refine r_iload_n 15 dX12_swap_14 rfl rfl ?_
    refine r_callV (M := mX12_swap) (pc := 15) 18 dX12_swap_15 rfl k12_420 hi2 rfl rfl rfl (by decide) rfl lt95 (Nat.le_of_ble_eq_true rfl) ?_
    refine r_if_eq 21 26 dX12_swap_18 rfl (by decide) (fun h18 => ?_) (fun h18 => ?_)
    · refine r_aload_n 27 dX12_swap_26 rfl rfl ?_
      refine r_getR 30 dX12_swap_27 rfl f12_65 rfl rfl lt95 (mo_12 hM0) ?_
      refine r_iconst (1) 31 dX12_swap_30 rfl (by decide) ?_
      refine r_dup2 32 dX12_swap_31 rfl rfl rfl ?_
      refine r_ialdN (1) (gA E 107 1) 33 dX12_swap_32 rfl rfl (Nat.le_of_ble_eq_true rfl) (by decide) (by decide) (Nat.le_of_ble_eq_true rfl) (rfl) ?_
      refine r_iconst (1) 34 dX12_swap_33 rfl (by decide) ?_
      refine r_iadd 35 dX12_swap_34 rfl ?_
      refine r_iastN (1) 36 dX12_swap_35 rfl rfl (Nat.le_of_ble_eq_true rfl) (by decide) (by decide) (Nat.le_of_ble_eq_true rfl) ?_
      refine r_iconst (0) 37 dX12_swap_36 rfl (by decide) ?_
      exact r_zret dX12_swap_37 rfl rfl (by decide) (rfl)
    · refine r_iload_n 22 dX12_swap_21 rfl rfl ?_
      refine r_iload_n 23 dX12_swap_22 rfl rfl ?_
      refine r_icmp_ne 26 38 dX12_swap_23 rfl (by decide) (fun h23 => ?_) (fun h23 => ?_)
      · exact absurd ⟨b01_r h10, b01_r h18, h23⟩ h
      · refine r_aload_n 27 dX12_swap_26 rfl rfl ?_
        refine r_getR 30 dX12_swap_27 rfl f12_65 rfl rfl lt95 (mo_12 hM0) ?_
        refine r_iconst (1) 31 dX12_swap_30 rfl (by decide) ?_
        refine r_dup2 32 dX12_swap_31 rfl rfl rfl ?_
        refine r_ialdN (1) (gA E 107 1) 33 dX12_swap_32 rfl rfl (Nat.le_of_ble_eq_true rfl) (by decide) (by decide) (Nat.le_of_ble_eq_true rfl) (rfl) ?_
        refine r_iconst (1) 34 dX12_swap_33 rfl (by decide) ?_
        refine r_iadd 35 dX12_swap_34 rfl ?_
        refine r_iastN (1) 36 dX12_swap_35 rfl rfl (Nat.le_of_ble_eq_true rfl) (by decide) (by decide) (Nat.le_of_ble_eq_true rfl) ?_
        refine r_iconst (0) 37 dX12_swap_36 rfl (by decide) ?_
        exact r_zret dX12_swap_37 rfl rfl (by decide) (rfl)
theorem v01 {v : Int32} (h : ¬ v < 0) (h1 : v ≤ 1) : v = 0 ∨ v = 1 := by
  obtain ⟨s, hs, e⟩ := inC_nI (l := 1) ⟨h, h1⟩ (by decide)
  rcases Nat.eq_zero_or_pos s with z | z
  · exact Or.inl (by rw [e, z]; rfl)
  · exact Or.inr (by rw [e, show s = 1 by omega]; rfl)
set_option maxRecDepth 20000 in
theorem m_side {d k : Nat} {E : HP} {v : Int32} (hM : MoOK E) (hk : gI E 1566 95 = nI k) (h4 : k ≤ 40) (hv : v = 0 ∨ v = 1) : ∃ E2, KD [1562] [] E E2 k ∧ gI E2 1562 95 = v ∧ Cl yX12_side mX12_side (d + 8) 0 0 [.ref 95, .int (v)] E 137 (.inl (some (.int (gI E 1562 95))), E2, 137) := by
  have hM0 : MoOK (sI E 1538 95 0) := hM
  have hk0 : gI (sI E 1538 95 0) 1566 95 = nI k := by rw [gI_sI, if_neg (by decide)]; exact hk
  obtain ⟨_, ⟨E3, rfl, f3, k1, k2⟩, hke⟩ := c_keep (d := d + 6) hM0 hk0 h4
  rw [ke_0] at k2
  have hM3 := mf_mo f3 hM0
  have f03 : MF [1538, 1566] [110] E E3 := mf_tr (mf_sI (by decide) mf_rfl) (mf_mono f3 (by decide) (by decide))
  have c3 : gI E3 1538 95 = 0 := by rw [mf_gI f3 (by decide), gI_sI, if_pos ⟨rfl, rfl⟩]
  have v1 : gI E3 1562 95 = gI E 1562 95 := mf_gI f03 (by decide)
  refine ⟨sI E3 1562 95 v, ⟨mf_sI (by decide) (mf_mono f03 (by decide) (by decide)), by rw [gI_sI, if_neg (by decide)]; exact c3, by rw [gI_sI, if_neg (by decide)]; exact k1, k2⟩, by rw [gI_sI, if_pos ⟨rfl, rfl⟩], ?_⟩
  refine Cl.of (by decide) rfl (fun q => by cases q) rfl rfl (Nat.le_of_ble_eq_true rfl) ?_
  show Sm _ _ _ _ _ 0 [some (.ref 95), some (.int (v)), none] [] _ _
  refine r_aload_n 1 dX12_side_0 rfl rfl ?_
  refine r_iconst (0) 2 dX12_side_1 rfl (by decide) ?_
  refine r_putI 5 dX12_side_2 rfl f12_159 rfl lt95 ?_
  refine r_iload_n 6 dX12_side_5 rfl rfl ?_
  refine r_if_lt 9 14 dX12_side_6 rfl (by decide) (fun h6 => absurd h6 (fun z => hv.elim (fun y => absurd z (by rw [y]; decide)) (fun y => absurd z (by rw [y]; decide)))) (fun h6 => ?_)
  refine r_iload_n 10 dX12_side_9 rfl rfl ?_
  refine r_iconst (1) 11 dX12_side_10 rfl (by decide) ?_
  refine r_icmp_le 14 20 dX12_side_11 rfl (by decide) (fun h11 => ?_) (fun h11 => absurd (hv.elim (fun y => by rw [y]; decide) (fun y => by rw [y]; decide)) h11)
  refine r_aload_n 21 dX12_side_20 rfl rfl ?_
  refine r_callV (M := mX12_side) (pc := 21) 24 dX12_side_21 rfl k12_427 hke rfl rfl rfl (by decide) rfl lt95 (Nat.le_of_ble_eq_true rfl) ?_
  refine r_aload_n 25 dX12_side_24 rfl rfl ?_
  refine r_getIV (_) 28 dX12_side_25 rfl f12_315 rfl rfl lt95 (v1) ?_
  refine r_istore_n 29 dX12_side_28 rfl (by decide) rfl ?_
  refine r_aload_n 30 dX12_side_29 rfl rfl ?_
  refine r_iload_n 31 dX12_side_30 rfl rfl ?_
  refine r_putI 34 dX12_side_31 rfl f12_315 rfl lt95 ?_
  refine r_iload_n 35 dX12_side_34 rfl rfl ?_
  exact r_iret dX12_side_35 rfl rfl (rfl)
set_option maxRecDepth 20000 in
theorem m_sideX {d : Nat} {E : HP} {v : Int32} (hM : MoOK E) (hv : ¬ (v = 0 ∨ v = 1)) : Cl yX12_side mX12_side (d + 8) 0 0 [.ref 95, .int (v)] E 137 (.inl (some (.int (-1))), sA (sI E 1538 95 0) 107 1 (gA E 107 1 + 1), 137) := by
  have hM0 : MoOK (sI E 1538 95 0) := hM
  have hre := c_ref (d := d + 7) (k := 1) (E := sI E 1538 95 0) hM0 (by decide)
  have h01 : ¬ v < 0 → v ≤ 1 → False := fun a b => hv (v01 a b)
  refine Cl.of (by decide) rfl (fun q => by cases q) rfl rfl (Nat.le_of_ble_eq_true rfl) ?_
  show Sm _ _ _ _ _ 0 [some (.ref 95), some (.int (v)), none] [] _ _
  refine r_aload_n 1 dX12_side_0 rfl rfl ?_
  refine r_iconst (0) 2 dX12_side_1 rfl (by decide) ?_
  refine r_putI 5 dX12_side_2 rfl f12_159 rfl lt95 ?_
  refine r_iload_n 6 dX12_side_5 rfl rfl ?_
  refine r_if_lt 9 14 dX12_side_6 rfl (by decide) (fun h6 => ?_) (fun h6 => ?_)
  · refine r_aload_n 15 dX12_side_14 rfl rfl ?_
    refine r_iconst (1) 16 dX12_side_15 rfl (by decide) ?_
    refine r_callV (M := mX12_side) (pc := 16) 19 dX12_side_16 rfl k12_430 hre rfl rfl rfl (by decide) rfl lt95 (Nat.le_of_ble_eq_true rfl) ?_
    exact r_iret dX12_side_19 rfl rfl (rfl)
  · refine r_iload_n 10 dX12_side_9 rfl rfl ?_
    refine r_iconst (1) 11 dX12_side_10 rfl (by decide) ?_
    refine r_icmp_le 14 20 dX12_side_11 rfl (by decide) (fun h11 => ?_) (fun h11 => ?_)
    · exact (h01 h6 h11).elim
    · refine r_aload_n 15 dX12_side_14 rfl rfl ?_
      refine r_iconst (1) 16 dX12_side_15 rfl (by decide) ?_
      refine r_callV (M := mX12_side) (pc := 16) 19 dX12_side_16 rfl k12_430 hre rfl rfl rfl (by decide) rfl lt95 (Nat.le_of_ble_eq_true rfl) ?_
      exact r_iret dX12_side_19 rfl rfl (rfl)
set_option maxRecDepth 20000 in
theorem m_word {d L k s e : Nat} {E : HP} {kd : Int32} (hM : MoOK E) (hk : gI E 1566 95 = nI k) (h4 : k ≤ 40) (hL : gA E 98 0 = nI L) (l7 : L ≤ 7) (hs : s < L) (he : e ≤ 240) (hkd : gA E 99 s = kd) (h3 : ¬ kd = 3) : ∃ E2, KD [1563, 1564] [] E E2 k ∧ gI E2 1563 95 = (if e = 0 then -1 else nI s) ∧ gI E2 1564 95 = nI e ∧ Cl yX12_word mX12_word (d + 8) 0 0 [.ref 95, .int (nI s), .int (nI e)] E 137 (.inl (some (.int (gI E 1564 95))), E2, 137) := by
  have hM0 : MoOK (sI E 1538 95 0) := hM
  have hk0 : gI (sI E 1538 95 0) 1566 95 = nI k := by rw [gI_sI, if_neg (by decide)]; exact hk
  obtain ⟨_, ⟨E3, rfl, f3, k1, k2⟩, hke⟩ := c_keep (d := d + 6) hM0 hk0 h4
  rw [ke_0] at k2
  have hM3 := mf_mo f3 hM0
  have f03 : MF [1538, 1566] [110] E E3 := mf_tr (mf_sI (by decide) mf_rfl) (mf_mono f3 (by decide) (by decide))
  have c3 : gI E3 1538 95 = 0 := by rw [mf_gI f3 (by decide), gI_sI, if_pos ⟨rfl, rfl⟩]
  have hL0 : gA (sI E 1538 95 0) 98 0 = nI L := hL
  have his := c_isSl (d := d + 6) (E := sI E 1538 95 0) (x := nI s) hM0 hL0 l7
  rw [b01_t (inB_of hs (by omega))] at his
  have hin := c_isInC (d := d + 7) (E := sI E 1538 95 0) (x := nI e) (y := 240) (z := 240) (z0 := 0) (by decide) (by decide)
  rw [b01_t (show inC (nI e) 240 from inC_of (L := 240) he (by decide))] at hin
  have hkd0 : gA (sI E 1538 95 0) 99 s = kd := hkd
  have v1 : gI E3 1564 95 = gI E 1564 95 := mf_gI f03 (by decide)
  refine ⟨sI (sI E3 1563 95 (if e = 0 then -1 else nI s)) 1564 95 (nI e), ⟨mf_sI (by decide) (mf_sI (by decide) (mf_mono f03 (by decide) (by decide))), ?_, ?_, k2⟩, ?_, by rw [gI_sI, if_pos ⟨rfl, rfl⟩], ?_⟩
  · rw [gI_sI, if_neg (by decide), gI_sI, if_neg (by decide)]; exact c3
  · rw [gI_sI, if_neg (by decide), gI_sI, if_neg (by decide)]; exact k1
  · rw [gI_sI, if_neg (by decide), gI_sI, if_pos ⟨rfl, rfl⟩]
  by_cases he0 : e = 0
  · rw [if_pos he0]
    refine Cl.of (by decide) rfl (fun q => by cases q) rfl rfl (Nat.le_of_ble_eq_true rfl) ?_
    show Sm _ _ _ _ _ 0 [some (.ref 95), some (.int (nI s)), some (.int (nI e)), none] [] _ _
    refine r_aload_n 1 dX12_word_0 rfl rfl ?_
    refine r_iconst (0) 2 dX12_word_1 rfl (by decide) ?_
    refine r_putI 5 dX12_word_2 rfl f12_159 rfl lt95 ?_
    refine r_aload_n 6 dX12_word_5 rfl rfl ?_
    refine r_iload_n 7 dX12_word_6 rfl rfl ?_
    refine r_callV (M := mX12_word) (pc := 7) 10 dX12_word_7 rfl k12_420 his rfl rfl rfl (by decide) rfl lt95 (Nat.le_of_ble_eq_true rfl) ?_
    refine r_if_ne 13 19 dX12_word_10 rfl (by decide) (fun h10 => ?_) (fun h10 => absurd h10 (by decide))
    refine r_aload_n 20 dX12_word_19 rfl rfl ?_
    refine r_getR 23 dX12_word_20 rfl f12_42 rfl rfl lt95 (mo_4 hM0) ?_
    refine r_iload_n 24 dX12_word_23 rfl rfl ?_
    refine r_ialdN (s) (kd) 25 dX12_word_24 rfl rfl (Nat.le_of_ble_eq_true rfl) (rfl) (by omega) (Nat.le_of_ble_eq_true rfl) (hkd0) ?_
    refine r_iconst (3) 26 dX12_word_25 rfl (by decide) ?_
    refine r_icmp_eq 29 41 dX12_word_26 rfl (by decide) (fun h26 => absurd h26 h3) (fun h26 => ?_)
    refine r_iload_n 30 dX12_word_29 rfl rfl ?_
    refine r_i2l 31 dX12_word_30 rfl ?_
    refine r_lconst 0 32 dX12_word_31 rfl (by decide) ?_
    refine r_ldc2 240 35 dX12_word_32 rfl c12_433 ?_
    refine r_callS (M := mX12_word) (pc := 35) 38 dX12_word_35 rfl k12_162 hin rfl rfl (Nat.le_of_ble_eq_true rfl) ?_
    refine r_if_ne 41 47 dX12_word_38 rfl (by decide) (fun h38 => ?_) (fun h38 => absurd h38 (by decide))
    refine r_aload_n 48 dX12_word_47 rfl rfl ?_
    refine r_callV (M := mX12_word) (pc := 48) 51 dX12_word_48 rfl k12_427 hke rfl rfl rfl (by decide) rfl lt95 (Nat.le_of_ble_eq_true rfl) ?_
    refine r_aload_n 52 dX12_word_51 rfl rfl ?_
    refine r_getIV (_) 55 dX12_word_52 rfl f12_318 rfl rfl lt95 (v1) ?_
    refine r_istore_n 56 dX12_word_55 rfl (by decide) rfl ?_
    refine r_aload_n 57 dX12_word_56 rfl rfl ?_
    refine r_iload_n 58 dX12_word_57 rfl rfl ?_
    refine r_if_ne 61 65 dX12_word_58 rfl (by decide) (fun h58 => absurd h58 (fun z => z (by rw [he0]; rfl))) (fun h58 => ?_)
    refine r_iconst (-1) 62 dX12_word_61 rfl (by decide) ?_
    refine r_goto 66 dX12_word_62 (by decide) ?_
    refine r_putI 69 dX12_word_66 rfl f12_81 rfl lt95 ?_
    refine r_aload_n 70 dX12_word_69 rfl rfl ?_
    refine r_iload_n 71 dX12_word_70 rfl rfl ?_
    refine r_putI 74 dX12_word_71 rfl f12_318 rfl lt95 ?_
    refine r_iload_n 75 dX12_word_74 rfl rfl ?_
    exact r_iret dX12_word_75 rfl rfl (rfl)
  · rw [if_neg he0]
    refine Cl.of (by decide) rfl (fun q => by cases q) rfl rfl (Nat.le_of_ble_eq_true rfl) ?_
    show Sm _ _ _ _ _ 0 [some (.ref 95), some (.int (nI s)), some (.int (nI e)), none] [] _ _
    refine r_aload_n 1 dX12_word_0 rfl rfl ?_
    refine r_iconst (0) 2 dX12_word_1 rfl (by decide) ?_
    refine r_putI 5 dX12_word_2 rfl f12_159 rfl lt95 ?_
    refine r_aload_n 6 dX12_word_5 rfl rfl ?_
    refine r_iload_n 7 dX12_word_6 rfl rfl ?_
    refine r_callV (M := mX12_word) (pc := 7) 10 dX12_word_7 rfl k12_420 his rfl rfl rfl (by decide) rfl lt95 (Nat.le_of_ble_eq_true rfl) ?_
    refine r_if_ne 13 19 dX12_word_10 rfl (by decide) (fun h10 => ?_) (fun h10 => absurd h10 (by decide))
    refine r_aload_n 20 dX12_word_19 rfl rfl ?_
    refine r_getR 23 dX12_word_20 rfl f12_42 rfl rfl lt95 (mo_4 hM0) ?_
    refine r_iload_n 24 dX12_word_23 rfl rfl ?_
    refine r_ialdN (s) (kd) 25 dX12_word_24 rfl rfl (Nat.le_of_ble_eq_true rfl) (rfl) (by omega) (Nat.le_of_ble_eq_true rfl) (hkd0) ?_
    refine r_iconst (3) 26 dX12_word_25 rfl (by decide) ?_
    refine r_icmp_eq 29 41 dX12_word_26 rfl (by decide) (fun h26 => absurd h26 h3) (fun h26 => ?_)
    refine r_iload_n 30 dX12_word_29 rfl rfl ?_
    refine r_i2l 31 dX12_word_30 rfl ?_
    refine r_lconst 0 32 dX12_word_31 rfl (by decide) ?_
    refine r_ldc2 240 35 dX12_word_32 rfl c12_433 ?_
    refine r_callS (M := mX12_word) (pc := 35) 38 dX12_word_35 rfl k12_162 hin rfl rfl (Nat.le_of_ble_eq_true rfl) ?_
    refine r_if_ne 41 47 dX12_word_38 rfl (by decide) (fun h38 => ?_) (fun h38 => absurd h38 (by decide))
    refine r_aload_n 48 dX12_word_47 rfl rfl ?_
    refine r_callV (M := mX12_word) (pc := 48) 51 dX12_word_48 rfl k12_427 hke rfl rfl rfl (by decide) rfl lt95 (Nat.le_of_ble_eq_true rfl) ?_
    refine r_aload_n 52 dX12_word_51 rfl rfl ?_
    refine r_getIV (_) 55 dX12_word_52 rfl f12_318 rfl rfl lt95 (v1) ?_
    refine r_istore_n 56 dX12_word_55 rfl (by decide) rfl ?_
    refine r_aload_n 57 dX12_word_56 rfl rfl ?_
    refine r_iload_n 58 dX12_word_57 rfl rfl ?_
    refine r_if_ne 61 65 dX12_word_58 rfl (by decide) (fun h58 => ?_) (fun h58 => absurd h58 (nI_ne0 (by omega) (by omega)))
    refine r_iload_n 66 dX12_word_65 rfl rfl ?_
    refine r_putI 69 dX12_word_66 rfl f12_81 rfl lt95 ?_
    refine r_aload_n 70 dX12_word_69 rfl rfl ?_
    refine r_iload_n 71 dX12_word_70 rfl rfl ?_
    refine r_putI 74 dX12_word_71 rfl f12_318 rfl lt95 ?_
    refine r_iload_n 75 dX12_word_74 rfl rfl ?_
    exact r_iret dX12_word_75 rfl rfl (rfl)
set_option maxRecDepth 20000 in
theorem m_word1 {d L : Nat} {E : HP} {x w : Int32} (hM : MoOK E) (hL : gA E 98 0 = nI L) (l7 : L ≤ 7) (hx : ¬ inB x (nI L)) : ∃ E2, AQ E E2 1 ∧ Cl yX12_word mX12_word (d + 8) 0 0 [.ref 95, .int (x), .int (w)] E 137 (.inl (some (.int 0)), E2, 137) := by
  have hM0 : MoOK (sI E 1538 95 0) := hM
  have hL0 : gA (sI E 1538 95 0) 98 0 = nI L := hL
  have his := c_isSl (d := d + 6) (E := sI E 1538 95 0) (x := x) hM0 hL0 l7
  rw [b01_f hx] at his
  refine ⟨_, mq_fail (x := 0), ?_⟩
  refine Cl.of (by decide) rfl (fun q => by cases q) rfl rfl (Nat.le_of_ble_eq_true rfl) ?_
  show Sm _ _ _ _ _ 0 [some (.ref 95), some (.int (x)), some (.int (w)), none] [] _ _
  refine r_aload_n 1 dX12_word_0 rfl rfl ?_
  refine r_iconst (0) 2 dX12_word_1 rfl (by decide) ?_
  refine r_putI 5 dX12_word_2 rfl f12_159 rfl lt95 ?_
  refine r_aload_n 6 dX12_word_5 rfl rfl ?_
  refine r_iload_n 7 dX12_word_6 rfl rfl ?_
  refine r_callV (M := mX12_word) (pc := 7) 10 dX12_word_7 rfl k12_420 his rfl rfl rfl (by decide) rfl lt95 (Nat.le_of_ble_eq_true rfl) ?_
  refine r_if_ne 13 19 dX12_word_10 rfl (by decide) (fun h10 => absurd h10 (fun z => z rfl)) (fun h10 => ?_)
  refine r_aload_n 14 dX12_word_13 rfl rfl ?_
  refine r_iconst (1) 15 dX12_word_14 rfl (by decide) ?_
  refine r_callV (M := mX12_word) (pc := 15) 18 dX12_word_15 rfl k12_302 c_fail rfl rfl rfl (by decide) rfl lt95 (Nat.le_of_ble_eq_true rfl) ?_
  exact r_iret dX12_word_18 rfl rfl (rfl)
set_option maxRecDepth 20000 in
theorem m_word2 {d L s : Nat} {E : HP} {w kd : Int32} (hM : MoOK E) (hL : gA E 98 0 = nI L) (l7 : L ≤ 7) (hs : s < L) (hkd : gA E 99 s = kd) (h : ¬ inC w 240 ∨ kd = 3) : Cl yX12_word mX12_word (d + 8) 0 0 [.ref 95, .int (nI s), .int (w)] E 137 (.inl (some (.int (-1))), sA (sI E 1538 95 0) 107 1 (gA E 107 1 + 1), 137) := by
  have hM0 : MoOK (sI E 1538 95 0) := hM
  have hL0 : gA (sI E 1538 95 0) 98 0 = nI L := hL
  have his := c_isSl (d := d + 6) (E := sI E 1538 95 0) (x := nI s) hM0 hL0 l7
  rw [b01_t (inB_of hs (by omega))] at his
  have hin := c_isInC (d := d + 7) (E := sI E 1538 95 0) (x := w) (y := 240) (z := 240) (z0 := 0) (by decide) (by decide)
  have hre := c_ref (d := d + 7) (k := 1) (E := sI E 1538 95 0) hM0 (by decide)
  have hkd0 : gA (sI E 1538 95 0) 99 s = kd := hkd
  refine Cl.of (by decide) rfl (fun q => by cases q) rfl rfl (Nat.le_of_ble_eq_true rfl) ?_
  show Sm _ _ _ _ _ 0 [some (.ref 95), some (.int (nI s)), some (.int (w)), none] [] _ _
  refine r_aload_n 1 dX12_word_0 rfl rfl ?_
  refine r_iconst (0) 2 dX12_word_1 rfl (by decide) ?_
  refine r_putI 5 dX12_word_2 rfl f12_159 rfl lt95 ?_
  refine r_aload_n 6 dX12_word_5 rfl rfl ?_
  refine r_iload_n 7 dX12_word_6 rfl rfl ?_
  refine r_callV (M := mX12_word) (pc := 7) 10 dX12_word_7 rfl k12_420 his rfl rfl rfl (by decide) rfl lt95 (Nat.le_of_ble_eq_true rfl) ?_
  refine r_if_ne 13 19 dX12_word_10 rfl (by decide) (fun h10 => ?_) (fun h10 => absurd h10 (by decide))
  refine r_aload_n 20 dX12_word_19 rfl rfl ?_
  refine r_getR 23 dX12_word_20 rfl f12_42 rfl rfl lt95 (mo_4 hM0) ?_
  refine r_iload_n 24 dX12_word_23 rfl rfl ?_
  refine r_ialdN (s) (kd) 25 dX12_word_24 rfl rfl (Nat.le_of_ble_eq_true rfl) (rfl) (by omega) (Nat.le_of_ble_eq_true rfl) (hkd0) ?_
  refine r_iconst (3) 26 dX12_word_25 rfl (by decide) ?_
  refine r_icmp_eq 29 41 dX12_word_26 rfl (by decide) (fun h26 => ?_) (fun h26 => ?_)
  · refine r_aload_n 42 dX12_word_41 rfl rfl ?_
    refine r_iconst (1) 43 dX12_word_42 rfl (by decide) ?_
    refine r_callV (M := mX12_word) (pc := 43) 46 dX12_word_43 rfl k12_430 hre rfl rfl rfl (by decide) rfl lt95 (Nat.le_of_ble_eq_true rfl) ?_
    exact r_iret dX12_word_46 rfl rfl (rfl)
  · refine r_iload_n 30 dX12_word_29 rfl rfl ?_
    refine r_i2l 31 dX12_word_30 rfl ?_
    refine r_lconst 0 32 dX12_word_31 rfl (by decide) ?_
    refine r_ldc2 240 35 dX12_word_32 rfl c12_433 ?_
    refine r_callS (M := mX12_word) (pc := 35) 38 dX12_word_35 rfl k12_162 hin rfl rfl (Nat.le_of_ble_eq_true rfl) ?_
    refine r_if_ne 41 47 dX12_word_38 rfl (by decide) (fun h38 => ?_) (fun h38 => ?_)
    · exact absurd h (fun z => z.elim (fun y => y (b01_r h38)) h26)
    · refine r_aload_n 42 dX12_word_41 rfl rfl ?_
      refine r_iconst (1) 43 dX12_word_42 rfl (by decide) ?_
      refine r_callV (M := mX12_word) (pc := 43) 46 dX12_word_43 rfl k12_430 hre rfl rfl rfl (by decide) rfl lt95 (Nat.le_of_ble_eq_true rfl) ?_
      exact r_iret dX12_word_46 rfl rfl (rfl)
set_option maxRecDepth 20000 in
theorem m_out {d L k s e : Nat} {E : HP} {kd : Int32} (hM : MoOK E) (hk : gI E 1566 95 = nI k) (h4 : k ≤ 40) (hL : gA E 98 0 = nI L) (l7 : L ≤ 7) (hs : s < L) (he : e ≤ 600) (hkd : gA E 99 s = kd) (h3 : ¬ kd = 3) : ∃ E2, KD [] [103] E E2 k ∧ (∀ q, gA E2 103 q = if q = s then nI e else gA E 103 q) ∧ Cl yX12_out mX12_out (d + 8) 0 0 [.ref 95, .int (nI s), .int (nI e)] E 137 (.inl (some (.int (gA E 103 s))), E2, 137) := by
  have hM0 : MoOK (sI E 1538 95 0) := hM
  have hk0 : gI (sI E 1538 95 0) 1566 95 = nI k := by rw [gI_sI, if_neg (by decide)]; exact hk
  obtain ⟨_, ⟨E3, rfl, f3, k1, k2⟩, hke⟩ := c_keep (d := d + 6) hM0 hk0 h4
  rw [ke_0] at k2
  have hM3 := mf_mo f3 hM0
  have f03 : MF [1538, 1566] [110] E E3 := mf_tr (mf_sI (by decide) mf_rfl) (mf_mono f3 (by decide) (by decide))
  have c3 : gI E3 1538 95 = 0 := by rw [mf_gI f3 (by decide), gI_sI, if_pos ⟨rfl, rfl⟩]
  have hL0 : gA (sI E 1538 95 0) 98 0 = nI L := hL
  have his := c_isSl (d := d + 6) (E := sI E 1538 95 0) (x := nI s) hM0 hL0 l7
  rw [b01_t (inB_of hs (by omega))] at his
  have hin := c_isInC (d := d + 7) (E := sI E 1538 95 0) (x := nI e) (y := 600) (z := 600) (z0 := 0) (by decide) (by decide)
  rw [b01_t (show inC (nI e) 600 from inC_of (L := 600) he (by decide))] at hin
  have hkd0 : gA (sI E 1538 95 0) 99 s = kd := hkd
  have v1 : gA E3 103 s = gA E 103 s := by rw [mf_gA f03 (by decide)]
  refine ⟨sA E3 103 s (nI e), ⟨mf_sA (by decide) (mf_mono f03 (by decide) (by decide)), c3, k1, k2⟩, fun q => ?_, ?_⟩
  · simp only [gA_sA, true_and]
    rw [mf_gA f03 (by decide)]
  refine Cl.of (by decide) rfl (fun q => by cases q) rfl rfl (Nat.le_of_ble_eq_true rfl) ?_
  show Sm _ _ _ _ _ 0 [some (.ref 95), some (.int (nI s)), some (.int (nI e)), none] [] _ _
  refine r_aload_n 1 dX12_out_0 rfl rfl ?_
  refine r_iconst (0) 2 dX12_out_1 rfl (by decide) ?_
  refine r_putI 5 dX12_out_2 rfl f12_159 rfl lt95 ?_
  refine r_aload_n 6 dX12_out_5 rfl rfl ?_
  refine r_iload_n 7 dX12_out_6 rfl rfl ?_
  refine r_callV (M := mX12_out) (pc := 7) 10 dX12_out_7 rfl k12_420 his rfl rfl rfl (by decide) rfl lt95 (Nat.le_of_ble_eq_true rfl) ?_
  refine r_if_ne 13 19 dX12_out_10 rfl (by decide) (fun h10 => ?_) (fun h10 => absurd h10 (by decide))
  refine r_aload_n 20 dX12_out_19 rfl rfl ?_
  refine r_getR 23 dX12_out_20 rfl f12_42 rfl rfl lt95 (mo_4 hM0) ?_
  refine r_iload_n 24 dX12_out_23 rfl rfl ?_
  refine r_ialdN (s) (kd) 25 dX12_out_24 rfl rfl (Nat.le_of_ble_eq_true rfl) (rfl) (by omega) (Nat.le_of_ble_eq_true rfl) (hkd0) ?_
  refine r_iconst (3) 26 dX12_out_25 rfl (by decide) ?_
  refine r_icmp_eq 29 41 dX12_out_26 rfl (by decide) (fun h26 => absurd h26 h3) (fun h26 => ?_)
  refine r_iload_n 30 dX12_out_29 rfl rfl ?_
  refine r_i2l 31 dX12_out_30 rfl ?_
  refine r_lconst 0 32 dX12_out_31 rfl (by decide) ?_
  refine r_ldc2 600 35 dX12_out_32 rfl c12_437 ?_
  refine r_callS (M := mX12_out) (pc := 35) 38 dX12_out_35 rfl k12_162 hin rfl rfl (Nat.le_of_ble_eq_true rfl) ?_
  refine r_if_ne 41 47 dX12_out_38 rfl (by decide) (fun h38 => ?_) (fun h38 => absurd h38 (by decide))
  refine r_aload_n 48 dX12_out_47 rfl rfl ?_
  refine r_callV (M := mX12_out) (pc := 48) 51 dX12_out_48 rfl k12_427 hke rfl rfl rfl (by decide) rfl lt95 (Nat.le_of_ble_eq_true rfl) ?_
  refine r_aload_n 52 dX12_out_51 rfl rfl ?_
  refine r_getR 55 dX12_out_52 rfl f12_53 rfl rfl lt95 (mo_8 hM3) ?_
  refine r_iload_n 56 dX12_out_55 rfl rfl ?_
  refine r_ialdN (s) (_) 57 dX12_out_56 rfl rfl (Nat.le_of_ble_eq_true rfl) (rfl) (by omega) (Nat.le_of_ble_eq_true rfl) (v1) ?_
  refine r_istore_n 58 dX12_out_57 rfl (by decide) rfl ?_
  refine r_aload_n 59 dX12_out_58 rfl rfl ?_
  refine r_getR 62 dX12_out_59 rfl f12_53 rfl rfl lt95 (mo_8 hM3) ?_
  refine r_iload_n 63 dX12_out_62 rfl rfl ?_
  refine r_iload_n 64 dX12_out_63 rfl rfl ?_
  refine r_iastN (s) 65 dX12_out_64 rfl rfl (Nat.le_of_ble_eq_true rfl) (rfl) (by omega) (Nat.le_of_ble_eq_true rfl) ?_
  refine r_iload_n 66 dX12_out_65 rfl rfl ?_
  exact r_iret dX12_out_66 rfl rfl (rfl)
set_option maxRecDepth 20000 in
theorem m_out1 {d L : Nat} {E : HP} {x w : Int32} (hM : MoOK E) (hL : gA E 98 0 = nI L) (l7 : L ≤ 7) (hx : ¬ inB x (nI L)) : ∃ E2, AQ E E2 1 ∧ Cl yX12_out mX12_out (d + 8) 0 0 [.ref 95, .int (x), .int (w)] E 137 (.inl (some (.int 0)), E2, 137) := by
  have hM0 : MoOK (sI E 1538 95 0) := hM
  have hL0 : gA (sI E 1538 95 0) 98 0 = nI L := hL
  have his := c_isSl (d := d + 6) (E := sI E 1538 95 0) (x := x) hM0 hL0 l7
  rw [b01_f hx] at his
  refine ⟨_, mq_fail (x := 0), ?_⟩
  refine Cl.of (by decide) rfl (fun q => by cases q) rfl rfl (Nat.le_of_ble_eq_true rfl) ?_
  show Sm _ _ _ _ _ 0 [some (.ref 95), some (.int (x)), some (.int (w)), none] [] _ _
  refine r_aload_n 1 dX12_out_0 rfl rfl ?_
  refine r_iconst (0) 2 dX12_out_1 rfl (by decide) ?_
  refine r_putI 5 dX12_out_2 rfl f12_159 rfl lt95 ?_
  refine r_aload_n 6 dX12_out_5 rfl rfl ?_
  refine r_iload_n 7 dX12_out_6 rfl rfl ?_
  refine r_callV (M := mX12_out) (pc := 7) 10 dX12_out_7 rfl k12_420 his rfl rfl rfl (by decide) rfl lt95 (Nat.le_of_ble_eq_true rfl) ?_
  refine r_if_ne 13 19 dX12_out_10 rfl (by decide) (fun h10 => absurd h10 (fun z => z rfl)) (fun h10 => ?_)
  refine r_aload_n 14 dX12_out_13 rfl rfl ?_
  refine r_iconst (1) 15 dX12_out_14 rfl (by decide) ?_
  refine r_callV (M := mX12_out) (pc := 15) 18 dX12_out_15 rfl k12_302 c_fail rfl rfl rfl (by decide) rfl lt95 (Nat.le_of_ble_eq_true rfl) ?_
  exact r_iret dX12_out_18 rfl rfl (rfl)
set_option maxRecDepth 20000 in
theorem m_out2 {d L s : Nat} {E : HP} {w kd : Int32} (hM : MoOK E) (hL : gA E 98 0 = nI L) (l7 : L ≤ 7) (hs : s < L) (hkd : gA E 99 s = kd) (h : ¬ inC w 600 ∨ kd = 3) : Cl yX12_out mX12_out (d + 8) 0 0 [.ref 95, .int (nI s), .int (w)] E 137 (.inl (some (.int (-1))), sA (sI E 1538 95 0) 107 1 (gA E 107 1 + 1), 137) := by
  have hM0 : MoOK (sI E 1538 95 0) := hM
  have hL0 : gA (sI E 1538 95 0) 98 0 = nI L := hL
  have his := c_isSl (d := d + 6) (E := sI E 1538 95 0) (x := nI s) hM0 hL0 l7
  rw [b01_t (inB_of hs (by omega))] at his
  have hin := c_isInC (d := d + 7) (E := sI E 1538 95 0) (x := w) (y := 600) (z := 600) (z0 := 0) (by decide) (by decide)
  have hre := c_ref (d := d + 7) (k := 1) (E := sI E 1538 95 0) hM0 (by decide)
  have hkd0 : gA (sI E 1538 95 0) 99 s = kd := hkd
  refine Cl.of (by decide) rfl (fun q => by cases q) rfl rfl (Nat.le_of_ble_eq_true rfl) ?_
  show Sm _ _ _ _ _ 0 [some (.ref 95), some (.int (nI s)), some (.int (w)), none] [] _ _
  refine r_aload_n 1 dX12_out_0 rfl rfl ?_
  refine r_iconst (0) 2 dX12_out_1 rfl (by decide) ?_
  refine r_putI 5 dX12_out_2 rfl f12_159 rfl lt95 ?_
  refine r_aload_n 6 dX12_out_5 rfl rfl ?_
  refine r_iload_n 7 dX12_out_6 rfl rfl ?_
  refine r_callV (M := mX12_out) (pc := 7) 10 dX12_out_7 rfl k12_420 his rfl rfl rfl (by decide) rfl lt95 (Nat.le_of_ble_eq_true rfl) ?_
  refine r_if_ne 13 19 dX12_out_10 rfl (by decide) (fun h10 => ?_) (fun h10 => absurd h10 (by decide))
  refine r_aload_n 20 dX12_out_19 rfl rfl ?_
  refine r_getR 23 dX12_out_20 rfl f12_42 rfl rfl lt95 (mo_4 hM0) ?_
  refine r_iload_n 24 dX12_out_23 rfl rfl ?_
  refine r_ialdN (s) (kd) 25 dX12_out_24 rfl rfl (Nat.le_of_ble_eq_true rfl) (rfl) (by omega) (Nat.le_of_ble_eq_true rfl) (hkd0) ?_
  refine r_iconst (3) 26 dX12_out_25 rfl (by decide) ?_
  refine r_icmp_eq 29 41 dX12_out_26 rfl (by decide) (fun h26 => ?_) (fun h26 => ?_)
  · refine r_aload_n 42 dX12_out_41 rfl rfl ?_
    refine r_iconst (1) 43 dX12_out_42 rfl (by decide) ?_
    refine r_callV (M := mX12_out) (pc := 43) 46 dX12_out_43 rfl k12_430 hre rfl rfl rfl (by decide) rfl lt95 (Nat.le_of_ble_eq_true rfl) ?_
    exact r_iret dX12_out_46 rfl rfl (rfl)
  · refine r_iload_n 30 dX12_out_29 rfl rfl ?_
    refine r_i2l 31 dX12_out_30 rfl ?_
    refine r_lconst 0 32 dX12_out_31 rfl (by decide) ?_
    refine r_ldc2 600 35 dX12_out_32 rfl c12_437 ?_
    refine r_callS (M := mX12_out) (pc := 35) 38 dX12_out_35 rfl k12_162 hin rfl rfl (Nat.le_of_ble_eq_true rfl) ?_
    refine r_if_ne 41 47 dX12_out_38 rfl (by decide) (fun h38 => ?_) (fun h38 => ?_)
    · exact absurd h (fun z => z.elim (fun y => y (b01_r h38)) h26)
    · refine r_aload_n 42 dX12_out_41 rfl rfl ?_
      refine r_iconst (1) 43 dX12_out_42 rfl (by decide) ?_
      refine r_callV (M := mX12_out) (pc := 43) 46 dX12_out_43 rfl k12_430 hre rfl rfl rfl (by decide) rfl lt95 (Nat.le_of_ble_eq_true rfl) ?_
      exact r_iret dX12_out_46 rfl rfl (rfl)
def bolM (E : HP) (x : Int32) : Int32 := if (gI E 1565 95 >>> (x &&& 31)) &&& 1 = 1 then 1 else 0
theorem and1_01 (x : Int32) : x &&& 1 = 0 ∨ x &&& 1 = 1 := by
  have h := pk_and x (m := 1) 1 (by decide)
  have h2 : (x &&& 1) = Int32.ofNat (x.toBitVec.toNat % 2) := h
  rw [h2]
  rcases Nat.mod_two_eq_zero_or_one x.toBitVec.toNat with z | z
  · rw [z]; exact Or.inl rfl
  · rw [z]; exact Or.inr rfl
set_option maxRecDepth 20000 in
theorem m_bolster {d k p : Nat} {E : HP} {w : Int32} (hM : MoOK E) (hk : gI E 1566 95 = nI k) (h4 : k ≤ 40) (h1 : 1 ≤ p) (h6 : p ≤ 6) (hw01 : w = 0 ∨ w = 1) (hw : ¬ bolM E (nI p) = w) : ∃ E2, KD [1565] [] E E2 k ∧ gI E2 1565 95 = gI E 1565 95 ^^^ (1 <<< (nI p &&& 31)) ∧ Cl yX12_bolster mX12_bolster (d + 8) 0 0 [.ref 95, .int (nI p), .int (w)] E 137 (.inl (some (.int (1))), E2, 137) := by
  have hM0 : MoOK (sI E 1538 95 0) := hM
  have hk0 : gI (sI E 1538 95 0) 1566 95 = nI k := by rw [gI_sI, if_neg (by decide)]; exact hk
  obtain ⟨_, ⟨E3, rfl, f3, k1, k2⟩, hke⟩ := c_keep (d := d + 6) hM0 hk0 h4
  rw [ke_0] at k2
  have hM3 := mf_mo f3 hM0
  have f03 : MF [1538, 1566] [110] E E3 := mf_tr (mf_sI (by decide) mf_rfl) (mf_mono f3 (by decide) (by decide))
  have c3 : gI E3 1538 95 = 0 := by rw [mf_gI f3 (by decide), gI_sI, if_pos ⟨rfl, rfl⟩]
  have hin := c_isIn (d := d + 7) (E := sI E 1538 95 0) (x := (nI p).toInt64) (a := 1) (b := 6)
  rw [bI_t (decide_eq_true ⟨by rw [show (1 : Int64) = (nI 1).toInt64 by decide, Int32.toInt64_le]; exact nI_le h1 (by omega), by rw [show (6 : Int64) = (nI 6).toInt64 by decide, Int32.toInt64_le]; exact nI_le h6 (by omega)⟩)] at hin
  have v1 : gI E3 1565 95 = gI E 1565 95 := mf_gI f03 (by decide)
  have v0 : gI (sI E 1538 95 0) 1565 95 = gI E 1565 95 := by rw [gI_sI, if_neg (by decide)]
  have hne : ¬ (gI E 1565 95 >>> (nI p &&& 31)) &&& 1 = w := fun z => hw (by unfold bolM; rcases hw01 with y | y <;> rw [y] at z ⊢ <;> rw [z] <;> (try rfl))
  refine ⟨sI E3 1565 95 (gI E 1565 95 ^^^ (1 <<< (nI p &&& 31))), ⟨mf_sI (by decide) (mf_mono f03 (by decide) (by decide)), by rw [gI_sI, if_neg (by decide)]; exact c3, by rw [gI_sI, if_neg (by decide)]; exact k1, k2⟩, by rw [gI_sI, if_pos ⟨rfl, rfl⟩], ?_⟩
  rcases hw01 with y | y
  all_goals subst y
  · refine Cl.of (by decide) rfl (fun q => by cases q) rfl rfl (Nat.le_of_ble_eq_true rfl) ?_
    show Sm _ _ _ _ _ 0 [some (.ref 95), some (.int (nI p)), some (.int 0)] [] _ _
    refine r_aload_n 1 dX12_bolster_0 rfl rfl ?_
    refine r_iconst (0) 2 dX12_bolster_1 rfl (by decide) ?_
    refine r_putI 5 dX12_bolster_2 rfl f12_159 rfl lt95 ?_
    refine r_iload_n 6 dX12_bolster_5 rfl rfl ?_
    refine r_i2l 7 dX12_bolster_6 rfl ?_
    refine r_lconst 1 8 dX12_bolster_7 rfl (by decide) ?_
    refine r_ldc2 6 11 dX12_bolster_8 rfl c12_435 ?_
    refine r_callS (M := mX12_bolster) (pc := 11) 14 dX12_bolster_11 rfl k12_162 hin rfl rfl (Nat.le_of_ble_eq_true rfl) ?_
    refine r_if_eq 17 37 dX12_bolster_14 rfl (by decide) (fun h14 => absurd h14 (by decide)) (fun h14 => ?_)
    refine r_aload_n 18 dX12_bolster_17 rfl rfl ?_
    refine r_getIV (gI E 1565 95) 21 dX12_bolster_18 rfl f12_321 rfl rfl lt95 (v0) ?_
    refine r_iload_n 22 dX12_bolster_21 rfl rfl ?_
    refine r_ishr 23 dX12_bolster_22 rfl ?_
    refine r_iconst (1) 24 dX12_bolster_23 rfl (by decide) ?_
    refine r_iand 25 dX12_bolster_24 rfl ?_
    refine r_iload_n 26 dX12_bolster_25 rfl rfl ?_
    refine r_if_eq 29 33 dX12_bolster_26 rfl (by decide) (fun h26 => ?_) (fun h26 => absurd rfl h26)
    refine r_iconst (0) 34 dX12_bolster_33 rfl (by decide) ?_
    refine r_icmp_ne 37 49 dX12_bolster_34 rfl (by decide) (fun h34 => ?_) (fun h34 => absurd h34 hne)
    refine r_aload_n 50 dX12_bolster_49 rfl rfl ?_
    refine r_callV (M := mX12_bolster) (pc := 50) 53 dX12_bolster_50 rfl k12_427 hke rfl rfl rfl (by decide) rfl lt95 (Nat.le_of_ble_eq_true rfl) ?_
    refine r_aload_n 54 dX12_bolster_53 rfl rfl ?_
    refine r_dup 55 dX12_bolster_54 rfl rfl ?_
    refine r_getIV (gI E 1565 95) 58 dX12_bolster_55 rfl f12_321 rfl rfl lt95 (v1) ?_
    refine r_iconst (1) 59 dX12_bolster_58 rfl (by decide) ?_
    refine r_iload_n 60 dX12_bolster_59 rfl rfl ?_
    refine r_ishl 61 dX12_bolster_60 rfl ?_
    refine r_ixor 62 dX12_bolster_61 rfl ?_
    refine r_putI 65 dX12_bolster_62 rfl f12_321 rfl lt95 ?_
    refine r_iconst (1) 66 dX12_bolster_65 rfl (by decide) ?_
    exact r_zret dX12_bolster_66 rfl rfl (by decide) (rfl)
  · refine Cl.of (by decide) rfl (fun q => by cases q) rfl rfl (Nat.le_of_ble_eq_true rfl) ?_
    show Sm _ _ _ _ _ 0 [some (.ref 95), some (.int (nI p)), some (.int 1)] [] _ _
    refine r_aload_n 1 dX12_bolster_0 rfl rfl ?_
    refine r_iconst (0) 2 dX12_bolster_1 rfl (by decide) ?_
    refine r_putI 5 dX12_bolster_2 rfl f12_159 rfl lt95 ?_
    refine r_iload_n 6 dX12_bolster_5 rfl rfl ?_
    refine r_i2l 7 dX12_bolster_6 rfl ?_
    refine r_lconst 1 8 dX12_bolster_7 rfl (by decide) ?_
    refine r_ldc2 6 11 dX12_bolster_8 rfl c12_435 ?_
    refine r_callS (M := mX12_bolster) (pc := 11) 14 dX12_bolster_11 rfl k12_162 hin rfl rfl (Nat.le_of_ble_eq_true rfl) ?_
    refine r_if_eq 17 37 dX12_bolster_14 rfl (by decide) (fun h14 => absurd h14 (by decide)) (fun h14 => ?_)
    refine r_aload_n 18 dX12_bolster_17 rfl rfl ?_
    refine r_getIV (gI E 1565 95) 21 dX12_bolster_18 rfl f12_321 rfl rfl lt95 (v0) ?_
    refine r_iload_n 22 dX12_bolster_21 rfl rfl ?_
    refine r_ishr 23 dX12_bolster_22 rfl ?_
    refine r_iconst (1) 24 dX12_bolster_23 rfl (by decide) ?_
    refine r_iand 25 dX12_bolster_24 rfl ?_
    refine r_iload_n 26 dX12_bolster_25 rfl rfl ?_
    refine r_if_eq 29 33 dX12_bolster_26 rfl (by decide) (fun h26 => absurd h26 (by decide)) (fun h26 => ?_)
    refine r_iconst (1) 30 dX12_bolster_29 rfl (by decide) ?_
    refine r_goto 34 dX12_bolster_30 (by decide) ?_
    refine r_icmp_ne 37 49 dX12_bolster_34 rfl (by decide) (fun h34 => ?_) (fun h34 => absurd h34 hne)
    refine r_aload_n 50 dX12_bolster_49 rfl rfl ?_
    refine r_callV (M := mX12_bolster) (pc := 50) 53 dX12_bolster_50 rfl k12_427 hke rfl rfl rfl (by decide) rfl lt95 (Nat.le_of_ble_eq_true rfl) ?_
    refine r_aload_n 54 dX12_bolster_53 rfl rfl ?_
    refine r_dup 55 dX12_bolster_54 rfl rfl ?_
    refine r_getIV (gI E 1565 95) 58 dX12_bolster_55 rfl f12_321 rfl rfl lt95 (v1) ?_
    refine r_iconst (1) 59 dX12_bolster_58 rfl (by decide) ?_
    refine r_iload_n 60 dX12_bolster_59 rfl rfl ?_
    refine r_ishl 61 dX12_bolster_60 rfl ?_
    refine r_ixor 62 dX12_bolster_61 rfl ?_
    refine r_putI 65 dX12_bolster_62 rfl f12_321 rfl lt95 ?_
    refine r_iconst (1) 66 dX12_bolster_65 rfl (by decide) ?_
    exact r_zret dX12_bolster_66 rfl rfl (by decide) (rfl)
set_option maxRecDepth 20000 in
theorem m_bolsterX {d : Nat} {E : HP} {x w : Int32} (hM : MoOK E) (hw01 : w = 0 ∨ w = 1) (h : x < 1 ∨ 6 < x ∨ bolM E x = w) : Cl yX12_bolster mX12_bolster (d + 8) 0 0 [.ref 95, .int (x), .int (w)] E 137 (.inl (some (.int (0))), sA (sI E 1538 95 0) 107 1 (gA E 107 1 + 1), 137) := by
  have hM0 : MoOK (sI E 1538 95 0) := hM
  have hin := c_isIn (d := d + 7) (E := sI E 1538 95 0) (x := x.toInt64) (a := 1) (b := 6)
  have hin2 := hin
  have v0 : gI (sI E 1538 95 0) 1565 95 = gI E 1565 95 := by rw [gI_sI, if_neg (by decide)]
  have hno : ∀ v : Int32, (1 : Int64) ≤ x.toInt64 ∧ x.toInt64 ≤ 6 → v = w → ¬ (gI E 1565 95 >>> (x &&& 31)) &&& 1 = v → False := fun v hx hv hne => by
    rw [show (1 : Int64) = (1 : Int32).toInt64 by decide, show (6 : Int64) = (6 : Int32).toInt64 by decide, Int32.toInt64_le, Int32.toInt64_le] at hx
    rcases h with z | z | z
    · exact absurd z (Int32.not_lt.mpr hx.1)
    · exact absurd z (Int32.not_lt.mpr hx.2)
    · unfold bolM at z
      rw [hv] at hne
      by_cases y : (gI E 1565 95 >>> (x &&& 31)) &&& 1 = 1
      · rw [if_pos y] at z; exact hne (y.trans z)
      · rw [if_neg y] at z
        rcases and1_01 (gI E 1565 95 >>> (x &&& 31)) with q | q
        · exact hne (q.trans z)
        · exact y q
  refine Cl.of (by decide) rfl (fun q => by cases q) rfl rfl (Nat.le_of_ble_eq_true rfl) ?_
  show Sm _ _ _ _ _ 0 [some (.ref 95), some (.int (x)), some (.int (w))] [] _ _
  refine r_aload_n 1 dX12_bolster_0 rfl rfl ?_
  refine r_iconst (0) 2 dX12_bolster_1 rfl (by decide) ?_
  refine r_putI 5 dX12_bolster_2 rfl f12_159 rfl lt95 ?_
  refine r_iload_n 6 dX12_bolster_5 rfl rfl ?_
  refine r_i2l 7 dX12_bolster_6 rfl ?_
  refine r_lconst 1 8 dX12_bolster_7 rfl (by decide) ?_
  refine r_ldc2 6 11 dX12_bolster_8 rfl c12_435 ?_
  refine r_callS (M := mX12_bolster) (pc := 11) 14 dX12_bolster_11 rfl k12_162 hin rfl rfl (Nat.le_of_ble_eq_true rfl) ?_
  refine r_if_eq 17 37 dX12_bolster_14 rfl (by decide) (fun h14 => ?_) (fun h14 => ?_)
  · refine r_aload_n 38 dX12_bolster_37 rfl rfl ?_
    refine r_getR 41 dX12_bolster_38 rfl f12_65 rfl rfl lt95 (mo_12 hM0) ?_
    refine r_iconst (1) 42 dX12_bolster_41 rfl (by decide) ?_
    refine r_dup2 43 dX12_bolster_42 rfl rfl rfl ?_
    refine r_ialdN (1) (gA E 107 1) 44 dX12_bolster_43 rfl rfl (Nat.le_of_ble_eq_true rfl) (by decide) (by decide) (Nat.le_of_ble_eq_true rfl) (rfl) ?_
    refine r_iconst (1) 45 dX12_bolster_44 rfl (by decide) ?_
    refine r_iadd 46 dX12_bolster_45 rfl ?_
    refine r_iastN (1) 47 dX12_bolster_46 rfl rfl (Nat.le_of_ble_eq_true rfl) (by decide) (by decide) (Nat.le_of_ble_eq_true rfl) ?_
    refine r_iconst (0) 48 dX12_bolster_47 rfl (by decide) ?_
    exact r_zret dX12_bolster_48 rfl rfl (by decide) (rfl)
  · refine r_aload_n 18 dX12_bolster_17 rfl rfl ?_
    refine r_getIV (gI E 1565 95) 21 dX12_bolster_18 rfl f12_321 rfl rfl lt95 (v0) ?_
    refine r_iload_n 22 dX12_bolster_21 rfl rfl ?_
    refine r_ishr 23 dX12_bolster_22 rfl ?_
    refine r_iconst (1) 24 dX12_bolster_23 rfl (by decide) ?_
    refine r_iand 25 dX12_bolster_24 rfl ?_
    refine r_iload_n 26 dX12_bolster_25 rfl rfl ?_
    refine r_if_eq 29 33 dX12_bolster_26 rfl (by decide) (fun h26 => ?_) (fun h26 => ?_)
    · refine r_iconst (0) 34 dX12_bolster_33 rfl (by decide) ?_
      refine r_icmp_ne 37 49 dX12_bolster_34 rfl (by decide) (fun h34 => ?_) (fun h34 => ?_)
      · first | exact (hno 0 (of_decide_eq_true (bI_r h14)) h26.symm h34).elim | exact (hno 1 (of_decide_eq_true (bI_r h14)) (hw01.resolve_left h26).symm h34).elim
      · refine r_aload_n 38 dX12_bolster_37 rfl rfl ?_
        refine r_getR 41 dX12_bolster_38 rfl f12_65 rfl rfl lt95 (mo_12 hM0) ?_
        refine r_iconst (1) 42 dX12_bolster_41 rfl (by decide) ?_
        refine r_dup2 43 dX12_bolster_42 rfl rfl rfl ?_
        refine r_ialdN (1) (gA E 107 1) 44 dX12_bolster_43 rfl rfl (Nat.le_of_ble_eq_true rfl) (by decide) (by decide) (Nat.le_of_ble_eq_true rfl) (rfl) ?_
        refine r_iconst (1) 45 dX12_bolster_44 rfl (by decide) ?_
        refine r_iadd 46 dX12_bolster_45 rfl ?_
        refine r_iastN (1) 47 dX12_bolster_46 rfl rfl (Nat.le_of_ble_eq_true rfl) (by decide) (by decide) (Nat.le_of_ble_eq_true rfl) ?_
        refine r_iconst (0) 48 dX12_bolster_47 rfl (by decide) ?_
        exact r_zret dX12_bolster_48 rfl rfl (by decide) (rfl)
    · refine r_iconst (1) 30 dX12_bolster_29 rfl (by decide) ?_
      refine r_goto 34 dX12_bolster_30 (by decide) ?_
      refine r_icmp_ne 37 49 dX12_bolster_34 rfl (by decide) (fun h34 => ?_) (fun h34 => ?_)
      · first | exact (hno 0 (of_decide_eq_true (bI_r h14)) h26.symm h34).elim | exact (hno 1 (of_decide_eq_true (bI_r h14)) (hw01.resolve_left h26).symm h34).elim
      · refine r_aload_n 38 dX12_bolster_37 rfl rfl ?_
        refine r_getR 41 dX12_bolster_38 rfl f12_65 rfl rfl lt95 (mo_12 hM0) ?_
        refine r_iconst (1) 42 dX12_bolster_41 rfl (by decide) ?_
        refine r_dup2 43 dX12_bolster_42 rfl rfl rfl ?_
        refine r_ialdN (1) (gA E 107 1) 44 dX12_bolster_43 rfl rfl (Nat.le_of_ble_eq_true rfl) (by decide) (by decide) (Nat.le_of_ble_eq_true rfl) (rfl) ?_
        refine r_iconst (1) 45 dX12_bolster_44 rfl (by decide) ?_
        refine r_iadd 46 dX12_bolster_45 rfl ?_
        refine r_iastN (1) 47 dX12_bolster_46 rfl rfl (Nat.le_of_ble_eq_true rfl) (by decide) (by decide) (Nat.le_of_ble_eq_true rfl) ?_
        refine r_iconst (0) 48 dX12_bolster_47 rfl (by decide) ?_
        exact r_zret dX12_bolster_48 rfl rfl (by decide) (rfl)
set_option maxRecDepth 20000 in
theorem m_undo0 {d : Nat} {E : HP} (hM : MoOK E) (h0 : gI E 1566 95 = 0) : Cl yX12_undo mX12_undo (d + 8) 0 0 [.ref 95] E 137 (.inl (some (.int (-1))), (sI E 1538 95 0), 137) := by
  have hM0 : MoOK (sI E 1538 95 0) := hM
  have h00 : gI (sI E 1538 95 0) 1566 95 = 0 := by rw [gI_sI, if_neg (by decide)]; exact h0
  refine Cl.of (by decide) rfl (fun q => by cases q) rfl rfl (Nat.le_of_ble_eq_true rfl) ?_
  show Sm _ _ _ _ _ 0 [some (.ref 95)] [] _ _
  refine r_aload_n 1 dX12_undo_0 rfl rfl ?_
  refine r_iconst (0) 2 dX12_undo_1 rfl (by decide) ?_
  refine r_putI 5 dX12_undo_2 rfl f12_159 rfl lt95 ?_
  refine r_aload_n 6 dX12_undo_5 rfl rfl ?_
  refine r_getIV (0) 9 dX12_undo_6 rfl f12_324 rfl rfl lt95 (h00) ?_
  refine r_if_ne 12 14 dX12_undo_9 rfl (by decide) (fun h9 => absurd h9 (fun z => z rfl)) (fun h9 => ?_)
  refine r_iconst (-1) 13 dX12_undo_12 rfl (by decide) ?_
  exact r_iret dX12_undo_13 rfl rfl (rfl)
/-- behind an undo: the plan is what was kept -/
def UD (E E2 : HP) (gs : List Nat) (a o9 : Nat) : Prop := MF (1538 :: 1562 :: 1563 :: 1564 :: 1565 :: gs) [103, 109] E E2 ∧ gI E2 1538 95 = 0 ∧ (∀ j, j < 7 → gA E2 109 j = gA E a (o9 + j) ∧ gA E2 103 j = gA E a (o9 + 7 + j)) ∧ gI E2 1562 95 = gA E a (o9 + 14) ∧ gI E2 1563 95 = gA E a (o9 + 15) ∧ gI E2 1564 95 = gA E a (o9 + 16) ∧ gI E2 1565 95 = gA E a (o9 + 17)
set_option maxRecDepth 20000 in
theorem m_undo {d k : Nat} {E : HP} (hM : MoOK E) (hk : gI E 1566 95 = nI (k + 1)) (h4 : k < 40) : ∃ E2, UD E E2 [1566] 110 (18 * k) ∧ gI E2 1566 95 = nI k ∧ Cl yX12_undo mX12_undo (d + 8) 0 0 [.ref 95] E 137 (.inl (some (.int (nI k))), E2, 137) := by
  have hM0 : MoOK (sI E 1538 95 0) := hM
  have hk0 : gI (sI E 1538 95 0) 1566 95 = nI (k + 1) := by rw [gI_sI, if_neg (by decide)]; exact hk
  have hM1 : MoOK (sI (sI E 1538 95 0) 1566 95 (nI k)) := hM
  have hk1 : gI (sI (sI E 1538 95 0) 1566 95 (nI k)) 1566 95 = nI k := by rw [gI_sI, if_pos ⟨rfl, rfl⟩]
  have hmul : (18 : Int32) * nI k = nI (18 * k) := (Int32.ofNat_mul 18 k).symm
  obtain ⟨_, ⟨E2, rfl, f2, b1, b2, b3, b4, b5, b6⟩, hun⟩ := c_unpack (d := d + 7) (a := 110) (l9 := 720) (o9 := 18 * k) hM1 rfl (by decide) (by decide) (by decide) (by omega) (by omega)
  have hM2 := mf_mo f2 hM1
  have e2 : gI E2 1566 95 = nI k := (mf_gI f2 (by decide)).trans hk1
  refine ⟨E2, ⟨mf_tr (mf_sI (by decide) (mf_sI (by decide) mf_rfl)) (mf_mono f2 (by decide) (by decide)), (mf_gI f2 (by decide)).trans (by rw [gI_sI, if_neg (by decide), gI_sI, if_pos ⟨rfl, rfl⟩]), b1, b3, b4, b5, b6⟩, e2, ?_⟩
  refine Cl.of (by decide) rfl (fun q => by cases q) rfl rfl (Nat.le_of_ble_eq_true rfl) ?_
  show Sm _ _ _ _ _ 0 [some (.ref 95)] [] _ _
  refine r_aload_n 1 dX12_undo_0 rfl rfl ?_
  refine r_iconst (0) 2 dX12_undo_1 rfl (by decide) ?_
  refine r_putI 5 dX12_undo_2 rfl f12_159 rfl lt95 ?_
  refine r_aload_n 6 dX12_undo_5 rfl rfl ?_
  refine r_getIV (nI (k + 1)) 9 dX12_undo_6 rfl f12_324 rfl rfl lt95 (hk0) ?_
  refine r_if_ne 12 14 dX12_undo_9 rfl (by decide) (fun h9 => ?_) (fun h9 => absurd h9 (nI_ne0 (by omega) (by omega)))
  refine r_aload_n 15 dX12_undo_14 rfl rfl ?_
  refine r_dup 16 dX12_undo_15 rfl rfl ?_
  refine r_getIV (nI (k + 1)) 19 dX12_undo_16 rfl f12_324 rfl rfl lt95 (hk0) ?_
  refine r_iconst (1) 20 dX12_undo_19 rfl (by decide) ?_
  refine r_isub 21 dX12_undo_20 rfl ?_
  rw [nI_pred]
  refine r_putI 24 dX12_undo_21 rfl f12_324 rfl lt95 ?_
  refine r_aload_n 25 dX12_undo_24 rfl rfl ?_
  refine r_aload_n 26 dX12_undo_25 rfl rfl ?_
  refine r_getR 29 dX12_undo_26 rfl f12_78 rfl rfl lt95 (mo_25 hM1) ?_
  refine r_bipush (18) 31 dX12_undo_29 rfl (by decide) ?_
  refine r_aload_n 32 dX12_undo_31 rfl rfl ?_
  refine r_getIV (nI k) 35 dX12_undo_32 rfl f12_324 rfl rfl lt95 (hk1) ?_
  refine r_imul 36 dX12_undo_35 rfl ?_
  rw [hmul]
  refine r_callV (M := mX12_undo) (pc := 36) 39 dX12_undo_36 rfl k12_439 hun rfl rfl rfl (by decide) rfl lt95 (Nat.le_of_ble_eq_true rfl) ?_
  refine r_aload_n 40 dX12_undo_39 rfl rfl ?_
  refine r_getIV (nI k) 43 dX12_undo_40 rfl f12_324 rfl rfl lt95 (e2) ?_
  exact r_iret dX12_undo_43 rfl rfl (rfl)
set_option maxRecDepth 20000 in
theorem m_see {d L k s q : Nat} {E : HP} {v kd : Int32} (hM : MoOK E) (hk : gI E 1567 95 = nI k) (h8 : k < 8) (hL : gA E 98 0 = nI L) (l7 : L ≤ 7) (hs : s < L) (hq : q ≤ 600) (hv : v = 0 ∨ v = 1) (hkd : gA E 99 s = kd) (h3 : ¬ kd = 3) : ∃ E2, MF [1538, 1567] [127, 128, 129] E E2 ∧ gI E2 1538 95 = 0 ∧ gI E2 1567 95 = nI (k + 1) ∧ (∀ i, gA E2 127 i = (if i = k then nI s else gA E 127 i) ∧ gA E2 128 i = (if i = k then nI q else gA E 128 i) ∧ gA E2 129 i = (if i = k then v else gA E 129 i)) ∧ Cl yX12_see mX12_see (d + 8) 0 0 [.ref 95, .int (nI s), .int (nI q), .int (v)] E 137 (.inl (some (.int (nI (k + 1)))), E2, 137) := by
  have hM0 : MoOK (sI E 1538 95 0) := hM
  have hL0 : gA (sI E 1538 95 0) 98 0 = nI L := hL
  have his := c_isSl (d := d + 6) (E := sI E 1538 95 0) (x := nI s) hM0 hL0 l7
  rw [b01_t (inB_of hs (by omega))] at his
  have hin := c_isInC (d := d + 7) (E := sI E 1538 95 0) (x := nI q) (y := 600) (z := 600) (z0 := 0) (by decide) (by decide)
  rw [b01_t (show inC (nI q) 600 from inC_of (L := 600) hq (by decide))] at hin
  have hi2 := c_isInC (d := d + 7) (E := sI E 1538 95 0) (x := v) (y := 1) (z := 1) (z0 := 0) (by decide) (by decide)
  rw [b01_t (show inC v 1 from hv.elim (fun y => by rw [y]; exact ⟨by decide, by decide⟩) (fun y => by rw [y]; exact ⟨by decide, by decide⟩))] at hi2
  have hk0 : gI (sI E 1538 95 0) 1567 95 = nI k := by rw [gI_sI, if_neg (by decide)]; exact hk
  have hkd0 : gA (sI E 1538 95 0) 99 s = kd := hkd
  refine ⟨sI (sA (sA (sA (sI E 1538 95 0) 127 k (nI s)) 128 k (nI q)) 129 k v) 1567 95 (nI (k + 1)), mf_sI (by decide) (mf_sA (by decide) (mf_sA (by decide) (mf_sA (by decide) (mf_sI (by decide) mf_rfl)))), ?_, by rw [gI_sI, if_pos ⟨rfl, rfl⟩], fun i => ?_, ?_⟩
  · rw [gI_sI, if_neg (by decide)]; show gI (sI E 1538 95 0) 1538 95 = 0; rw [gI_sI, if_pos ⟨rfl, rfl⟩]
  · refine ⟨?_, ?_, ?_⟩
    · show gA (sA (sA (sA (sI E 1538 95 0) 127 k (nI s)) 128 k (nI q)) 129 k v) 127 i = _; rw [gA_sA, if_neg (by omega), gA_sA, if_neg (by omega), gA_sA]; simp only [true_and]; rfl
    · show gA (sA (sA (sA (sI E 1538 95 0) 127 k (nI s)) 128 k (nI q)) 129 k v) 128 i = _; rw [gA_sA, if_neg (by omega), gA_sA]; simp only [true_and]; rfl
    · show gA (sA (sA (sA (sI E 1538 95 0) 127 k (nI s)) 128 k (nI q)) 129 k v) 129 i = _; rw [gA_sA]; simp only [true_and]; rfl
  refine Cl.of (by decide) rfl (fun q => by cases q) rfl rfl (Nat.le_of_ble_eq_true rfl) ?_
  show Sm _ _ _ _ _ 0 [some (.ref 95), some (.int (nI s)), some (.int (nI q)), some (.int (v))] [] _ _
  refine r_aload_n 1 dX12_see_0 rfl rfl ?_
  refine r_iconst (0) 2 dX12_see_1 rfl (by decide) ?_
  refine r_putI 5 dX12_see_2 rfl f12_159 rfl lt95 ?_
  refine r_aload_n 6 dX12_see_5 rfl rfl ?_
  refine r_iload_n 7 dX12_see_6 rfl rfl ?_
  refine r_callV (M := mX12_see) (pc := 7) 10 dX12_see_7 rfl k12_420 his rfl rfl rfl (by decide) rfl lt95 (Nat.le_of_ble_eq_true rfl) ?_
  refine r_if_ne 13 19 dX12_see_10 rfl (by decide) (fun h10 => ?_) (fun h10 => absurd h10 (by decide))
  refine r_aload_n 20 dX12_see_19 rfl rfl ?_
  refine r_getIV (nI k) 23 dX12_see_20 rfl f12_327 rfl rfl lt95 (hk0) ?_
  refine r_bipush (8) 25 dX12_see_23 rfl (by decide) ?_
  refine r_icmp_eq 28 60 dX12_see_25 rfl (by decide) (fun h25 => absurd h25 (fun z => absurd ((nI_eq (by omega) (by omega)).mp (show nI k = nI 8 from z)) (by omega))) (fun h25 => ?_)
  refine r_aload_n 29 dX12_see_28 rfl rfl ?_
  refine r_getR 32 dX12_see_29 rfl f12_42 rfl rfl lt95 (mo_4 hM0) ?_
  refine r_iload_n 33 dX12_see_32 rfl rfl ?_
  refine r_ialdN (s) (kd) 34 dX12_see_33 rfl rfl (Nat.le_of_ble_eq_true rfl) (rfl) (by omega) (Nat.le_of_ble_eq_true rfl) (hkd0) ?_
  refine r_iconst (3) 35 dX12_see_34 rfl (by decide) ?_
  refine r_icmp_eq 38 60 dX12_see_35 rfl (by decide) (fun h35 => absurd h35 h3) (fun h35 => ?_)
  refine r_iload_n 39 dX12_see_38 rfl rfl ?_
  refine r_i2l 40 dX12_see_39 rfl ?_
  refine r_lconst 0 41 dX12_see_40 rfl (by decide) ?_
  refine r_ldc2 600 44 dX12_see_41 rfl c12_437 ?_
  refine r_callS (M := mX12_see) (pc := 44) 47 dX12_see_44 rfl k12_162 hin rfl rfl (Nat.le_of_ble_eq_true rfl) ?_
  refine r_if_eq 50 60 dX12_see_47 rfl (by decide) (fun h47 => absurd h47 (by decide)) (fun h47 => ?_)
  refine r_iload_n 51 dX12_see_50 rfl rfl ?_
  refine r_i2l 52 dX12_see_51 rfl ?_
  refine r_lconst 0 53 dX12_see_52 rfl (by decide) ?_
  refine r_lconst 1 54 dX12_see_53 rfl (by decide) ?_
  refine r_callS (M := mX12_see) (pc := 54) 57 dX12_see_54 rfl k12_162 hi2 rfl rfl (Nat.le_of_ble_eq_true rfl) ?_
  refine r_if_ne 60 66 dX12_see_57 rfl (by decide) (fun h57 => ?_) (fun h57 => absurd h57 (by decide))
  refine r_aload_n 67 dX12_see_66 rfl rfl ?_
  refine r_getR 70 dX12_see_67 rfl f12_132 rfl rfl lt95 (mo_60 hM0) ?_
  refine r_aload_n 71 dX12_see_70 rfl rfl ?_
  refine r_getIV (nI k) 74 dX12_see_71 rfl f12_327 rfl rfl lt95 (hk0) ?_
  refine r_iload_n 75 dX12_see_74 rfl rfl ?_
  refine r_iastN (k) 76 dX12_see_75 rfl rfl (Nat.le_of_ble_eq_true rfl) (rfl) (by omega) (Nat.le_of_ble_eq_true rfl) ?_
  refine r_aload_n 77 dX12_see_76 rfl rfl ?_
  refine r_getR 80 dX12_see_77 rfl f12_135 rfl rfl lt95 (mo_61 hM0) ?_
  refine r_aload_n 81 dX12_see_80 rfl rfl ?_
  refine r_getIV (nI k) 84 dX12_see_81 rfl f12_327 rfl rfl lt95 (hk0) ?_
  refine r_iload_n 85 dX12_see_84 rfl rfl ?_
  refine r_iastN (k) 86 dX12_see_85 rfl rfl (Nat.le_of_ble_eq_true rfl) (rfl) (by omega) (Nat.le_of_ble_eq_true rfl) ?_
  refine r_aload_n 87 dX12_see_86 rfl rfl ?_
  refine r_getR 90 dX12_see_87 rfl f12_138 rfl rfl lt95 (mo_62 hM0) ?_
  refine r_aload_n 91 dX12_see_90 rfl rfl ?_
  refine r_getIV (nI k) 94 dX12_see_91 rfl f12_327 rfl rfl lt95 (hk0) ?_
  refine r_iload_n 95 dX12_see_94 rfl rfl ?_
  refine r_iastN (k) 96 dX12_see_95 rfl rfl (Nat.le_of_ble_eq_true rfl) (rfl) (by omega) (Nat.le_of_ble_eq_true rfl) ?_
  refine r_aload_n 97 dX12_see_96 rfl rfl ?_
  refine r_dup 98 dX12_see_97 rfl rfl ?_
  refine r_getIV (nI k) 101 dX12_see_98 rfl f12_327 rfl rfl lt95 (hk0) ?_
  refine r_iconst (1) 102 dX12_see_101 rfl (by decide) ?_
  refine r_iadd 103 dX12_see_102 rfl ?_
  rw [nI_pp]
  refine r_putI 106 dX12_see_103 rfl f12_327 rfl lt95 ?_
  refine r_aload_n 107 dX12_see_106 rfl rfl ?_
  refine r_getIV (nI (k + 1)) 110 dX12_see_107 rfl f12_327 rfl rfl lt95 (by rw [gI_sI, if_pos ⟨rfl, rfl⟩]) ?_
  exact r_iret dX12_see_110 rfl rfl (rfl)
set_option maxRecDepth 20000 in
theorem m_see1 {d L : Nat} {E : HP} {x w v : Int32} (hM : MoOK E) (hL : gA E 98 0 = nI L) (l7 : L ≤ 7) (hx : ¬ inB x (nI L)) : ∃ E2, AQ E E2 1 ∧ Cl yX12_see mX12_see (d + 8) 0 0 [.ref 95, .int (x), .int (w), .int (v)] E 137 (.inl (some (.int 0)), E2, 137) := by
  have hM0 : MoOK (sI E 1538 95 0) := hM
  have hL0 : gA (sI E 1538 95 0) 98 0 = nI L := hL
  have his := c_isSl (d := d + 6) (E := sI E 1538 95 0) (x := x) hM0 hL0 l7
  rw [b01_f hx] at his
  refine ⟨_, mq_fail (x := 0), ?_⟩
  refine Cl.of (by decide) rfl (fun q => by cases q) rfl rfl (Nat.le_of_ble_eq_true rfl) ?_
  show Sm _ _ _ _ _ 0 [some (.ref 95), some (.int (x)), some (.int (w)), some (.int (v))] [] _ _
  refine r_aload_n 1 dX12_see_0 rfl rfl ?_
  refine r_iconst (0) 2 dX12_see_1 rfl (by decide) ?_
  refine r_putI 5 dX12_see_2 rfl f12_159 rfl lt95 ?_
  refine r_aload_n 6 dX12_see_5 rfl rfl ?_
  refine r_iload_n 7 dX12_see_6 rfl rfl ?_
  refine r_callV (M := mX12_see) (pc := 7) 10 dX12_see_7 rfl k12_420 his rfl rfl rfl (by decide) rfl lt95 (Nat.le_of_ble_eq_true rfl) ?_
  refine r_if_ne 13 19 dX12_see_10 rfl (by decide) (fun h10 => absurd h10 (fun z => z rfl)) (fun h10 => ?_)
  refine r_aload_n 14 dX12_see_13 rfl rfl ?_
  refine r_iconst (1) 15 dX12_see_14 rfl (by decide) ?_
  refine r_callV (M := mX12_see) (pc := 15) 18 dX12_see_15 rfl k12_302 c_fail rfl rfl rfl (by decide) rfl lt95 (Nat.le_of_ble_eq_true rfl) ?_
  exact r_iret dX12_see_18 rfl rfl (rfl)
set_option maxRecDepth 20000 in
theorem m_see2 {d L k s : Nat} {E : HP} {w v kd : Int32} (hM : MoOK E) (hk : gI E 1567 95 = nI k) (h8 : k ≤ 8) (hL : gA E 98 0 = nI L) (l7 : L ≤ 7) (hs : s < L) (hkd : gA E 99 s = kd) (h : ¬ k < 8 ∨ ¬ inC w 600 ∨ ¬ (v = 0 ∨ v = 1) ∨ kd = 3) : Cl yX12_see mX12_see (d + 8) 0 0 [.ref 95, .int (nI s), .int (w), .int (v)] E 137 (.inl (some (.int (-1))), sA (sI E 1538 95 0) 107 2 (gA E 107 2 + 1), 137) := by
  have hM0 : MoOK (sI E 1538 95 0) := hM
  have hL0 : gA (sI E 1538 95 0) 98 0 = nI L := hL
  have his := c_isSl (d := d + 6) (E := sI E 1538 95 0) (x := nI s) hM0 hL0 l7
  rw [b01_t (inB_of hs (by omega))] at his
  have hin := c_isInC (d := d + 7) (E := sI E 1538 95 0) (x := w) (y := 600) (z := 600) (z0 := 0) (by decide) (by decide)
  have hi2 := c_isInC (d := d + 7) (E := sI E 1538 95 0) (x := v) (y := 1) (z := 1) (z0 := 0) (by decide) (by decide)
  have hk0 : gI (sI E 1538 95 0) 1567 95 = nI k := by rw [gI_sI, if_neg (by decide)]; exact hk
  have hkd0 : gA (sI E 1538 95 0) 99 s = kd := hkd
  have hre := c_ref (d := d + 7) (k := 2) (E := sI E 1538 95 0) hM0 (by decide)
  refine Cl.of (by decide) rfl (fun q => by cases q) rfl rfl (Nat.le_of_ble_eq_true rfl) ?_
  show Sm _ _ _ _ _ 0 [some (.ref 95), some (.int (nI s)), some (.int (w)), some (.int (v))] [] _ _
  refine r_aload_n 1 dX12_see_0 rfl rfl ?_
  refine r_iconst (0) 2 dX12_see_1 rfl (by decide) ?_
  refine r_putI 5 dX12_see_2 rfl f12_159 rfl lt95 ?_
  refine r_aload_n 6 dX12_see_5 rfl rfl ?_
  refine r_iload_n 7 dX12_see_6 rfl rfl ?_
  refine r_callV (M := mX12_see) (pc := 7) 10 dX12_see_7 rfl k12_420 his rfl rfl rfl (by decide) rfl lt95 (Nat.le_of_ble_eq_true rfl) ?_
  refine r_if_ne 13 19 dX12_see_10 rfl (by decide) (fun h10 => ?_) (fun h10 => absurd h10 (by decide))
  refine r_aload_n 20 dX12_see_19 rfl rfl ?_
  refine r_getIV (nI k) 23 dX12_see_20 rfl f12_327 rfl rfl lt95 (hk0) ?_
  refine r_bipush (8) 25 dX12_see_23 rfl (by decide) ?_
  refine r_icmp_eq 28 60 dX12_see_25 rfl (by decide) (fun h25 => ?_) (fun h25 => ?_)
  · refine r_aload_n 61 dX12_see_60 rfl rfl ?_
    refine r_iconst (2) 62 dX12_see_61 rfl (by decide) ?_
    refine r_callV (M := mX12_see) (pc := 62) 65 dX12_see_62 rfl k12_430 hre rfl rfl rfl (by decide) rfl lt95 (Nat.le_of_ble_eq_true rfl) ?_
    exact r_iret dX12_see_65 rfl rfl (rfl)
  · refine r_aload_n 29 dX12_see_28 rfl rfl ?_
    refine r_getR 32 dX12_see_29 rfl f12_42 rfl rfl lt95 (mo_4 hM0) ?_
    refine r_iload_n 33 dX12_see_32 rfl rfl ?_
    refine r_ialdN (s) (kd) 34 dX12_see_33 rfl rfl (Nat.le_of_ble_eq_true rfl) (rfl) (by omega) (Nat.le_of_ble_eq_true rfl) (hkd0) ?_
    refine r_iconst (3) 35 dX12_see_34 rfl (by decide) ?_
    refine r_icmp_eq 38 60 dX12_see_35 rfl (by decide) (fun h35 => ?_) (fun h35 => ?_)
    · refine r_aload_n 61 dX12_see_60 rfl rfl ?_
      refine r_iconst (2) 62 dX12_see_61 rfl (by decide) ?_
      refine r_callV (M := mX12_see) (pc := 62) 65 dX12_see_62 rfl k12_430 hre rfl rfl rfl (by decide) rfl lt95 (Nat.le_of_ble_eq_true rfl) ?_
      exact r_iret dX12_see_65 rfl rfl (rfl)
    · refine r_iload_n 39 dX12_see_38 rfl rfl ?_
      refine r_i2l 40 dX12_see_39 rfl ?_
      refine r_lconst 0 41 dX12_see_40 rfl (by decide) ?_
      refine r_ldc2 600 44 dX12_see_41 rfl c12_437 ?_
      refine r_callS (M := mX12_see) (pc := 44) 47 dX12_see_44 rfl k12_162 hin rfl rfl (Nat.le_of_ble_eq_true rfl) ?_
      refine r_if_eq 50 60 dX12_see_47 rfl (by decide) (fun h47 => ?_) (fun h47 => ?_)
      · refine r_aload_n 61 dX12_see_60 rfl rfl ?_
        refine r_iconst (2) 62 dX12_see_61 rfl (by decide) ?_
        refine r_callV (M := mX12_see) (pc := 62) 65 dX12_see_62 rfl k12_430 hre rfl rfl rfl (by decide) rfl lt95 (Nat.le_of_ble_eq_true rfl) ?_
        exact r_iret dX12_see_65 rfl rfl (rfl)
      · refine r_iload_n 51 dX12_see_50 rfl rfl ?_
        refine r_i2l 52 dX12_see_51 rfl ?_
        refine r_lconst 0 53 dX12_see_52 rfl (by decide) ?_
        refine r_lconst 1 54 dX12_see_53 rfl (by decide) ?_
        refine r_callS (M := mX12_see) (pc := 54) 57 dX12_see_54 rfl k12_162 hi2 rfl rfl (Nat.le_of_ble_eq_true rfl) ?_
        refine r_if_ne 60 66 dX12_see_57 rfl (by decide) (fun h57 => ?_) (fun h57 => ?_)
        · refine absurd h (fun z => z.elim (fun y => y ?_) (fun z => z.elim (fun y => y (b01_r h47)) (fun z => z.elim (fun y => y (v01 (b01_r h57).1 (b01_r h57).2)) h35)))
          have : ¬ k = 8 := fun y => h25 (by rw [y]; rfl)
          omega
        · refine r_aload_n 61 dX12_see_60 rfl rfl ?_
          refine r_iconst (2) 62 dX12_see_61 rfl (by decide) ?_
          refine r_callV (M := mX12_see) (pc := 62) 65 dX12_see_62 rfl k12_430 hre rfl rfl rfl (by decide) rfl lt95 (Nat.le_of_ble_eq_true rfl) ?_
          exact r_iret dX12_see_65 rfl rfl (rfl)
set_option maxRecDepth 20000 in
theorem m_forget0 {d : Nat} {E : HP} (hM : MoOK E) (h0 : gI E 1567 95 = 0) : Cl yX12_forget mX12_forget (d + 8) 0 0 [.ref 95] E 137 (.inl (some (.int (-1))), (sI E 1538 95 0), 137) := by
  have hM0 : MoOK (sI E 1538 95 0) := hM
  have h00 : gI (sI E 1538 95 0) 1567 95 = 0 := by rw [gI_sI, if_neg (by decide)]; exact h0
  refine Cl.of (by decide) rfl (fun q => by cases q) rfl rfl (Nat.le_of_ble_eq_true rfl) ?_
  show Sm _ _ _ _ _ 0 [some (.ref 95)] [] _ _
  refine r_aload_n 1 dX12_forget_0 rfl rfl ?_
  refine r_iconst (0) 2 dX12_forget_1 rfl (by decide) ?_
  refine r_putI 5 dX12_forget_2 rfl f12_159 rfl lt95 ?_
  refine r_aload_n 6 dX12_forget_5 rfl rfl ?_
  refine r_getIV (0) 9 dX12_forget_6 rfl f12_327 rfl rfl lt95 (h00) ?_
  refine r_if_ne 12 14 dX12_forget_9 rfl (by decide) (fun h9 => absurd h9 (fun z => z rfl)) (fun h9 => ?_)
  refine r_iconst (-1) 13 dX12_forget_12 rfl (by decide) ?_
  exact r_iret dX12_forget_13 rfl rfl (rfl)
set_option maxRecDepth 20000 in
theorem m_forget {d k : Nat} {E : HP} (hM : MoOK E) (hk : gI E 1567 95 = nI (k + 1)) (h4 : k < 8) : Cl yX12_forget mX12_forget (d + 8) 0 0 [.ref 95] E 137 (.inl (some (.int (nI k))), sI (sI E 1538 95 0) 1567 95 (nI k), 137) := by
  have hM0 : MoOK (sI E 1538 95 0) := hM
  have hk0 : gI (sI E 1538 95 0) 1567 95 = nI (k + 1) := by rw [gI_sI, if_neg (by decide)]; exact hk
  refine Cl.of (by decide) rfl (fun q => by cases q) rfl rfl (Nat.le_of_ble_eq_true rfl) ?_
  show Sm _ _ _ _ _ 0 [some (.ref 95)] [] _ _
  refine r_aload_n 1 dX12_forget_0 rfl rfl ?_
  refine r_iconst (0) 2 dX12_forget_1 rfl (by decide) ?_
  refine r_putI 5 dX12_forget_2 rfl f12_159 rfl lt95 ?_
  refine r_aload_n 6 dX12_forget_5 rfl rfl ?_
  refine r_getIV (nI (k + 1)) 9 dX12_forget_6 rfl f12_327 rfl rfl lt95 (hk0) ?_
  refine r_if_ne 12 14 dX12_forget_9 rfl (by decide) (fun h9 => ?_) (fun h9 => absurd h9 (nI_ne0 (by omega) (by omega)))
  refine r_aload_n 15 dX12_forget_14 rfl rfl ?_
  refine r_dup 16 dX12_forget_15 rfl rfl ?_
  refine r_getIV (nI (k + 1)) 19 dX12_forget_16 rfl f12_327 rfl rfl lt95 (hk0) ?_
  refine r_iconst (1) 20 dX12_forget_19 rfl (by decide) ?_
  refine r_isub 21 dX12_forget_20 rfl ?_
  rw [nI_pred]
  refine r_putI 24 dX12_forget_21 rfl f12_327 rfl lt95 ?_
  refine r_aload_n 25 dX12_forget_24 rfl rfl ?_
  refine r_getIV (nI k) 28 dX12_forget_25 rfl f12_327 rfl rfl lt95 (by rw [gI_sI, if_pos ⟨rfl, rfl⟩]) ?_
  exact r_iret dX12_forget_28 rfl rfl (rfl)
