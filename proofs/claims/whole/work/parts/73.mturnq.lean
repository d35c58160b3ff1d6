/-! The model: turn -/
theorem tuM_at {E : HP} {L : List (Int32 × Int32 × Int32 × Int32)} {i : Nat} {e : Int32 × Int32 × Int32 × Int32} (h : MWT E L) (hi : i < 1200) (he : L[i]? = some e) : gA E 120 i = e.1 ∧ gA E 121 i = e.2.1 ∧ gA E 122 i = e.2.2.1 ∧ gA E 123 i = e.2.2.2 := h i e hi he
set_option maxRecDepth 20000 in
theorem m_turn {d L m i j : Nat} {sl : Nat → Nat → Int32} {aw : Int32} {R : List Int32} {c : Cfg} {fr : Int32} {E : HP} {e : Int32 × Int32 × Int32 × Int32} (h : MD E L m sl aw R c fr) (hi : i < 1200) (hj : j < 4) (he : (nG (nightF (vMk L sl aw R c fr) m))[i]? = some e) : ∃ E2, AQ E E2 0 ∧ Cl yX12_turn mX12_turn (d + 8) 0 0 [.ref 95, .int (nI i), .int (nI j)] E 137 (.inl (some (.int (tuK e (nI j)))), E2, 137) := by
  obtain ⟨E2, ⟨f2, hg⟩, hni⟩ := m_night (d := d + 1) (md_0 (x := 0) h)
  obtain ⟨hM, hL, ⟨cok, csu⟩, hoc, h62, h63, h64, h65, hsy, hsl, ⟨m1, m6, hm⟩, -⟩ := id h
  obtain ⟨hM2, hv2, g1, g2, g3, g4, g5, g6⟩ := id hg
  have l7 : L ≤ 7 := cok.2.1
  have g98 : gA E2 98 = gA E 98 := (mf_gA f2 (a := 98) (by decide) : gA E2 98 = gA (sI E 1538 95 0) 98)
  have hq := mq_of f2 (by decide) (by decide) (by decide)
  have hM0 : MoOK (sI E 1538 95 0) := hM
  have hL0 : gA (sI E 1538 95 0) 98 0 = nI L := hL
  have hin := c_isInC (d := d + 7) (E := sI E 1538 95 0) (x := nI j) (y := 3) (z := 3) (z0 := 0) (by decide) (by decide)
  have hln := night_len (V := (vMk L sl aw R c fr)) (show L ≤ 7 from l7) m
  have hmn : (if (1200 : Int32) < nI (nG (nightF (vMk L sl aw R c fr) m)).length then (1200 : Int32) else nI (nG (nightF (vMk L sl aw R c fr) m)).length) = nI (min (nG (nightF (vMk L sl aw R c fr) m)).length 1200) := by
    by_cases h9 : 1200 < (nG (nightF (vMk L sl aw R c fr) m)).length
    · have h8 : (1200 : Int32) < nI (nG (nightF (vMk L sl aw R c fr) m)).length := nI_lt (a := 1200) h9 (by omega)
      rw [if_pos h8, Nat.min_eq_right (by omega)]; rfl
    · have h8 : ¬ (1200 : Int32) < nI (nG (nightF (vMk L sl aw R c fr) m)).length := nI_nlt (a := 1200) (by omega) (by omega)
      rw [if_neg h8, Nat.min_eq_left (by omega)]
  rw [b01_t (show inC (nI j) 3 from inC_of (L := 3) (by omega) (by decide))] at hin
  have hil : i < (nG (nightF (vMk L sl aw R c fr) m)).length := (List.getElem?_eq_some_iff.mp he).1
  obtain ⟨u1, u2, u3, u4⟩ := tuM_at g6 hi he
  have hi2 := c_isInC (d := d + 7) (E := E2) (x := nI i) (y := nI (min (nG (nightF (vMk L sl aw R c fr) m)).length 1200) - 1) (z := (nI (min (nG (nightF (vMk L sl aw R c fr) m)).length 1200) - 1).toInt64) (z0 := 0) rfl (by decide)
  rw [b01_t ((inB_C (by omega)).mpr (inB_of (by omega) (by omega)))] at hi2
  have e0 : nI j = 0 → tuK e (nI j) = e.1 := fun z => by rw [z]; rfl
  have e1 : nI j = 1 → tuK e (nI j) = e.2.1 := fun z => by rw [z]; rfl
  have e2 : nI j = 2 → tuK e (nI j) = e.2.2.1 := fun z => by rw [z]; rfl
  have e3 : ¬ nI j = 0 → ¬ nI j = 1 → ¬ nI j = 2 → tuK e (nI j) = e.2.2.2 := fun a b c => by unfold tuK; rw [if_neg a, if_neg b, if_neg c]
  refine ⟨E2, hq, ?_⟩
  refine Cl.of (by decide) rfl (fun q => by cases q) rfl rfl (Nat.le_of_ble_eq_true rfl) ?_
  show Sm _ _ _ _ _ 0 [some (.ref 95), some (.int (nI i)), some (.int (nI j))] [] _ _
  refine r_aload_n 1 dX12_turn_0 rfl rfl ?_
  refine r_iconst (0) 2 dX12_turn_1 rfl (by decide) ?_
  refine r_putI 5 dX12_turn_2 rfl f12_159 rfl lt95 ?_
  refine r_iload_n 6 dX12_turn_5 rfl rfl ?_
  refine r_i2l 7 dX12_turn_6 rfl ?_
  refine r_lconst 0 8 dX12_turn_7 rfl (by decide) ?_
  refine r_ldc2 3 11 dX12_turn_8 rfl c12_442 ?_
  refine r_callS (M := mX12_turn) (pc := 11) 14 dX12_turn_11 rfl k12_162 hin rfl rfl (Nat.le_of_ble_eq_true rfl) ?_
  refine r_if_ne 17 23 dX12_turn_14 rfl (by decide) (fun h14 => ?_) (fun h14 => absurd h14 (by decide))
  refine r_aload_n 24 dX12_turn_23 rfl rfl ?_
  refine r_callV (M := mX12_turn) (pc := 24) 27 dX12_turn_24 rfl k12_444 hni rfl rfl rfl (by decide) rfl lt95 (Nat.le_of_ble_eq_true rfl) ?_
  refine r_iload_n 28 dX12_turn_27 rfl rfl ?_
  refine r_i2l 29 dX12_turn_28 rfl ?_
  refine r_lconst 0 30 dX12_turn_29 rfl (by decide) ?_
  refine r_aload_n 31 dX12_turn_30 rfl rfl ?_
  refine r_getIV (_) 34 dX12_turn_31 rfl f12_365 rfl rfl lt95 (g2) ?_
  refine r_sipush (1200) 37 dX12_turn_34 rfl (by decide) ?_
  refine r_min 40 dX12_turn_37 rfl k12_196 (Nat.le_of_ble_eq_true rfl) ?_
  show Sm _ _ _ _ _ 40 _ [.int (if (1200 : Int32) < nI (nG (nightF (vMk L sl aw R c fr) m)).length then (1200 : Int32) else nI (nG (nightF (vMk L sl aw R c fr) m)).length), .long 0, .long (nI i).toInt64] _ _
  rw [hmn]
  refine r_iconst (1) 41 dX12_turn_40 rfl (by decide) ?_
  refine r_isub 42 dX12_turn_41 rfl ?_
  refine r_i2l 43 dX12_turn_42 rfl ?_
  refine r_callS (M := mX12_turn) (pc := 43) 46 dX12_turn_43 rfl k12_162 hi2 rfl rfl (Nat.le_of_ble_eq_true rfl) ?_
  refine r_if_ne 49 55 dX12_turn_46 rfl (by decide) (fun h46 => ?_) (fun h46 => absurd h46 (by decide))
  refine r_iload_n 56 dX12_turn_55 rfl rfl ?_
  refine r_if_ne 59 68 dX12_turn_56 rfl (by decide) (fun h56 => ?_) (fun h56 => ?_)
  · refine r_iload_n 69 dX12_turn_68 rfl rfl ?_
    refine r_iconst (1) 70 dX12_turn_69 rfl (by decide) ?_
    refine r_icmp_ne 73 82 dX12_turn_70 rfl (by decide) (fun h70 => ?_) (fun h70 => ?_)
    · refine r_iload_n 83 dX12_turn_82 rfl rfl ?_
      refine r_iconst (2) 84 dX12_turn_83 rfl (by decide) ?_
      refine r_icmp_ne 87 96 dX12_turn_84 rfl (by decide) (fun h84 => ?_) (fun h84 => ?_)
      · refine r_aload_n 97 dX12_turn_96 rfl rfl ?_
        refine r_getR 100 dX12_turn_97 rfl f12_120 rfl rfl lt95 (mo_44 hM2) ?_
        refine r_iload_n 101 dX12_turn_100 rfl rfl ?_
        refine r_ialdN (i) (_) 102 dX12_turn_101 rfl rfl (Nat.le_of_ble_eq_true rfl) (rfl) (by omega) (Nat.le_of_ble_eq_true rfl) (u4) ?_
        exact r_iret dX12_turn_102 rfl rfl (by first | rw [e0 h56] | rw [e1 h70] | rw [e2 h84] | rw [e3 h56 h70 h84])
      · refine r_aload_n 88 dX12_turn_87 rfl rfl ?_
        refine r_getR 91 dX12_turn_88 rfl f12_117 rfl rfl lt95 (mo_43 hM2) ?_
        refine r_iload_n 92 dX12_turn_91 rfl rfl ?_
        refine r_ialdN (i) (_) 93 dX12_turn_92 rfl rfl (Nat.le_of_ble_eq_true rfl) (rfl) (by omega) (Nat.le_of_ble_eq_true rfl) (u3) ?_
        refine r_goto 102 dX12_turn_93 (by decide) ?_
        exact r_iret dX12_turn_102 rfl rfl (by first | rw [e0 h56] | rw [e1 h70] | rw [e2 h84] | rw [e3 h56 h70 h84])
    · refine r_aload_n 74 dX12_turn_73 rfl rfl ?_
      refine r_getR 77 dX12_turn_74 rfl f12_114 rfl rfl lt95 (mo_42 hM2) ?_
      refine r_iload_n 78 dX12_turn_77 rfl rfl ?_
      refine r_ialdN (i) (_) 79 dX12_turn_78 rfl rfl (Nat.le_of_ble_eq_true rfl) (rfl) (by omega) (Nat.le_of_ble_eq_true rfl) (u2) ?_
      refine r_goto 102 dX12_turn_79 (by decide) ?_
      exact r_iret dX12_turn_102 rfl rfl (by first | rw [e0 h56] | rw [e1 h70] | rw [e2 h84] | rw [e3 h56 h70 h84])
  · refine r_aload_n 60 dX12_turn_59 rfl rfl ?_
    refine r_getR 63 dX12_turn_60 rfl f12_111 rfl rfl lt95 (mo_41 hM2) ?_
    refine r_iload_n 64 dX12_turn_63 rfl rfl ?_
    refine r_ialdN (i) (_) 65 dX12_turn_64 rfl rfl (Nat.le_of_ble_eq_true rfl) (rfl) (by omega) (Nat.le_of_ble_eq_true rfl) (u1) ?_
    refine r_goto 102 dX12_turn_65 (by decide) ?_
    exact r_iret dX12_turn_102 rfl rfl (by first | rw [e0 h56] | rw [e1 h70] | rw [e2 h84] | rw [e3 h56 h70 h84])
set_option maxRecDepth 20000 in
theorem m_turnX1 {d L m : Nat} {sl : Nat → Nat → Int32} {aw : Int32} {R : List Int32} {c : Cfg} {fr : Int32} {E : HP} {x w : Int32} (h : MD E L m sl aw R c fr) (hw : ¬ inB w 4) : ∃ E2, AQ E E2 1 ∧ Cl yX12_turn mX12_turn (d + 8) 0 0 [.ref 95, .int (x), .int (w)] E 137 (.inl (some (.int 0)), E2, 137) := by
  obtain ⟨hM, hL, ⟨cok, csu⟩, hoc, h62, h63, h64, h65, hsy, hsl, ⟨m1, m6, hm⟩, -⟩ := id h
  have l7 : L ≤ 7 := cok.2.1
  have hM0 : MoOK (sI E 1538 95 0) := hM
  have hL0 : gA (sI E 1538 95 0) 98 0 = nI L := hL
  have hin := c_isInC (d := d + 7) (E := sI E 1538 95 0) (x := w) (y := 3) (z := 3) (z0 := 0) (by decide) (by decide)
  rw [b01_f (show ¬ inC w 3 from fun z => hw ((inB_C (x := w) (l := 4) (by decide)).mp z))] at hin
  refine ⟨_, mq_fail (x := 0), ?_⟩
  refine Cl.of (by decide) rfl (fun q => by cases q) rfl rfl (Nat.le_of_ble_eq_true rfl) ?_
  show Sm _ _ _ _ _ 0 [some (.ref 95), some (.int (x)), some (.int (w))] [] _ _
  refine r_aload_n 1 dX12_turn_0 rfl rfl ?_
  refine r_iconst (0) 2 dX12_turn_1 rfl (by decide) ?_
  refine r_putI 5 dX12_turn_2 rfl f12_159 rfl lt95 ?_
  refine r_iload_n 6 dX12_turn_5 rfl rfl ?_
  refine r_i2l 7 dX12_turn_6 rfl ?_
  refine r_lconst 0 8 dX12_turn_7 rfl (by decide) ?_
  refine r_ldc2 3 11 dX12_turn_8 rfl c12_442 ?_
  refine r_callS (M := mX12_turn) (pc := 11) 14 dX12_turn_11 rfl k12_162 hin rfl rfl (Nat.le_of_ble_eq_true rfl) ?_
  refine r_if_ne 17 23 dX12_turn_14 rfl (by decide) (fun h14 => absurd h14 (fun z => z rfl)) (fun h14 => ?_)
  refine r_aload_n 18 dX12_turn_17 rfl rfl ?_
  refine r_iconst (1) 19 dX12_turn_18 rfl (by decide) ?_
  refine r_callV (M := mX12_turn) (pc := 19) 22 dX12_turn_19 rfl k12_302 c_fail rfl rfl rfl (by decide) rfl lt95 (Nat.le_of_ble_eq_true rfl) ?_
  exact r_iret dX12_turn_22 rfl rfl (rfl)
set_option maxRecDepth 20000 in
theorem m_turnX2 {d L m : Nat} {sl : Nat → Nat → Int32} {aw : Int32} {R : List Int32} {c : Cfg} {fr : Int32} {E : HP} {x w : Int32} (h : MD E L m sl aw R c fr) (hw : inB w 4) (hx : ¬ inB x (nI (min (nG (nightF (vMk L sl aw R c fr) m)).length 1200))) : ∃ E2, AQ E E2 1 ∧ Cl yX12_turn mX12_turn (d + 8) 0 0 [.ref 95, .int (x), .int (w)] E 137 (.inl (some (.int 0)), E2, 137) := by
  obtain ⟨E2, ⟨f2, hg⟩, hni⟩ := m_night (d := d + 1) (md_0 (x := 0) h)
  obtain ⟨hM, hL, ⟨cok, csu⟩, hoc, h62, h63, h64, h65, hsy, hsl, ⟨m1, m6, hm⟩, -⟩ := id h
  obtain ⟨hM2, hv2, g1, g2, g3, g4, g5, g6⟩ := id hg
  have l7 : L ≤ 7 := cok.2.1
  have g98 : gA E2 98 = gA E 98 := (mf_gA f2 (a := 98) (by decide) : gA E2 98 = gA (sI E 1538 95 0) 98)
  have hq := mq_of f2 (by decide) (by decide) (by decide)
  have hM0 : MoOK (sI E 1538 95 0) := hM
  have hL0 : gA (sI E 1538 95 0) 98 0 = nI L := hL
  have hin := c_isInC (d := d + 7) (E := sI E 1538 95 0) (x := w) (y := 3) (z := 3) (z0 := 0) (by decide) (by decide)
  have hln := night_len (V := (vMk L sl aw R c fr)) (show L ≤ 7 from l7) m
  have hmn : (if (1200 : Int32) < nI (nG (nightF (vMk L sl aw R c fr) m)).length then (1200 : Int32) else nI (nG (nightF (vMk L sl aw R c fr) m)).length) = nI (min (nG (nightF (vMk L sl aw R c fr) m)).length 1200) := by
    by_cases h9 : 1200 < (nG (nightF (vMk L sl aw R c fr) m)).length
    · have h8 : (1200 : Int32) < nI (nG (nightF (vMk L sl aw R c fr) m)).length := nI_lt (a := 1200) h9 (by omega)
      rw [if_pos h8, Nat.min_eq_right (by omega)]; rfl
    · have h8 : ¬ (1200 : Int32) < nI (nG (nightF (vMk L sl aw R c fr) m)).length := nI_nlt (a := 1200) (by omega) (by omega)
      rw [if_neg h8, Nat.min_eq_left (by omega)]
  rw [b01_t (show inC w 3 from (inB_C (x := w) (l := 4) (by decide)).mpr hw)] at hin
  have hi2 := c_isInC (d := d + 7) (E := E2) (x := x) (y := nI (min (nG (nightF (vMk L sl aw R c fr) m)).length 1200) - 1) (z := (nI (min (nG (nightF (vMk L sl aw R c fr) m)).length 1200) - 1).toInt64) (z0 := 0) rfl (by decide)
  rw [b01_f (fun z => hx ((inB_C (by omega)).mp z))] at hi2
  refine ⟨_, mq_fail2 hq (k := 1), ?_⟩
  refine Cl.of (by decide) rfl (fun q => by cases q) rfl rfl (Nat.le_of_ble_eq_true rfl) ?_
  show Sm _ _ _ _ _ 0 [some (.ref 95), some (.int (x)), some (.int (w))] [] _ _
  refine r_aload_n 1 dX12_turn_0 rfl rfl ?_
  refine r_iconst (0) 2 dX12_turn_1 rfl (by decide) ?_
  refine r_putI 5 dX12_turn_2 rfl f12_159 rfl lt95 ?_
  refine r_iload_n 6 dX12_turn_5 rfl rfl ?_
  refine r_i2l 7 dX12_turn_6 rfl ?_
  refine r_lconst 0 8 dX12_turn_7 rfl (by decide) ?_
  refine r_ldc2 3 11 dX12_turn_8 rfl c12_442 ?_
  refine r_callS (M := mX12_turn) (pc := 11) 14 dX12_turn_11 rfl k12_162 hin rfl rfl (Nat.le_of_ble_eq_true rfl) ?_
  refine r_if_ne 17 23 dX12_turn_14 rfl (by decide) (fun h14 => ?_) (fun h14 => absurd h14 (by decide))
  refine r_aload_n 24 dX12_turn_23 rfl rfl ?_
  refine r_callV (M := mX12_turn) (pc := 24) 27 dX12_turn_24 rfl k12_444 hni rfl rfl rfl (by decide) rfl lt95 (Nat.le_of_ble_eq_true rfl) ?_
  refine r_iload_n 28 dX12_turn_27 rfl rfl ?_
  refine r_i2l 29 dX12_turn_28 rfl ?_
  refine r_lconst 0 30 dX12_turn_29 rfl (by decide) ?_
  refine r_aload_n 31 dX12_turn_30 rfl rfl ?_
  refine r_getIV (_) 34 dX12_turn_31 rfl f12_365 rfl rfl lt95 (g2) ?_
  refine r_sipush (1200) 37 dX12_turn_34 rfl (by decide) ?_
  refine r_min 40 dX12_turn_37 rfl k12_196 (Nat.le_of_ble_eq_true rfl) ?_
  show Sm _ _ _ _ _ 40 _ [.int (if (1200 : Int32) < nI (nG (nightF (vMk L sl aw R c fr) m)).length then (1200 : Int32) else nI (nG (nightF (vMk L sl aw R c fr) m)).length), .long 0, .long x.toInt64] _ _
  rw [hmn]
  refine r_iconst (1) 41 dX12_turn_40 rfl (by decide) ?_
  refine r_isub 42 dX12_turn_41 rfl ?_
  refine r_i2l 43 dX12_turn_42 rfl ?_
  refine r_callS (M := mX12_turn) (pc := 43) 46 dX12_turn_43 rfl k12_162 hi2 rfl rfl (Nat.le_of_ble_eq_true rfl) ?_
  refine r_if_ne 49 55 dX12_turn_46 rfl (by decide) (fun h46 => absurd h46 (fun z => z rfl)) (fun h46 => ?_)
  refine r_aload_n 50 dX12_turn_49 rfl rfl ?_
  refine r_iconst (1) 51 dX12_turn_50 rfl (by decide) ?_
  refine r_callV (M := mX12_turn) (pc := 51) 54 dX12_turn_51 rfl k12_302 c_fail rfl rfl rfl (by decide) rfl lt95 (Nat.le_of_ble_eq_true rfl) ?_
  exact r_iret dX12_turn_54 rfl rfl (rfl)
