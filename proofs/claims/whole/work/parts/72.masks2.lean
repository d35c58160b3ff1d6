/-! The model: lies, turn, free -/
theorem aw_eq {V : NV} {S : NS} {p q : Nat} {aw : Int32} (h : vS V 3 = aw) : bI (awkF V (nA S) p q) = awV (nA S 2 p) (nI q) aw := by
  unfold awkF awV bI
  rw [h]
  by_cases h1 : nA S 2 p ≤ 0
  · rw [if_pos h1, if_neg (by rw [decide_eq_true_eq]; exact fun z => absurd z.1 (Int32.not_lt.mpr h1))]
  · rw [if_neg h1]
    by_cases h2 : aw ≤ nI q - nA S 2 p
    · rw [if_pos h2, if_neg (by rw [decide_eq_true_eq]; exact fun z => absurd z.2 (Int32.not_lt.mpr h2))]
    · rw [if_neg h2, if_pos (by rw [decide_eq_true_eq]; exact ⟨Int32.not_le.mp h1, Int32.not_le.mp h2⟩)]
theorem mvis_sI {E : HP} {V : NV} {L g : Nat} {v : Int32} (hg : g ∉ [1581, 1582, 1583, 1584, 1589]) (h : MVis E V L) : MVis (sI E g 95 v) V L := by
  have e : ∀ k ∈ [1581, 1582, 1583, 1584, 1589], gI (sI E g 95 v) k 95 = gI E k 95 := fun k hk => by
    rw [gI_sI, if_neg (fun z => hg (by rw [← z.1]; exact hk))]
  unfold MVis at *
  rw [e 1581 (by decide), e 1582 (by decide), e 1583 (by decide), e 1584 (by decide), e 1589 (by decide)]
  exact h
theorem mvis_free {E : HP} {sl : Nat → Nat → Int32} {aw : Int32} {R : List Int32} {c : Cfg} {L1 L : Nat} {fr v : Int32} (h : MVis E (vMk L1 sl aw R c fr) L) : MVis (sI E 1589 95 v) (vMk L1 sl aw R c v) L := by
  have e : ∀ k, k ≠ 1589 → gI (sI E 1589 95 v) k 95 = gI E k 95 := fun k hk => by
    rw [gI_sI, if_neg (fun z => hk z.1)]
  obtain ⟨v1, v2, v3, v4, v5, v6, v7, v8, v9, v10, v11⟩ := h
  refine ⟨(e _ (by decide)).trans v1, v2, v3, v4, v5, v6, ?_, ?_, (e _ (by decide)).trans v9, by rw [gI_sI, if_pos ⟨rfl, rfl⟩]; rfl, v11⟩
  · rw [e 1582 (by decide), e 1583 (by decide)]; exact v7
  · rw [e 1582 (by decide), e 1583 (by decide)]; exact v8
set_option maxRecDepth 20000 in
theorem m_lies {d L m s q : Nat} {sl : Nat → Nat → Int32} {aw : Int32} {R : List Int32} {c : Cfg} {fr : Int32} {E : HP} {w : Int32} (h : MD E L m sl aw R c fr) (hs : s < L) (hw : inB w 2) (hqm : q ≤ m) : ∃ E2, AQ E E2 0 ∧ Cl yX12_lies mX12_lies (d + 8) 0 0 [.ref 95, .int (nI s), .int (nI q), .int (w)] E 137 (.inl (some (.int (if w = 0 then byS (vMk L sl aw R c fr) (nightF (vMk L sl aw R c fr) q) 0 s else awV (byS (vMk L sl aw R c fr) (nightF (vMk L sl aw R c fr) q) 2 s) (nI q) aw))), E2, 137) := by
  obtain ⟨hM, hL, ⟨cok, csu⟩, hoc, h62, h63, h64, h65, hsy, hsl, ⟨m1, m6, hm⟩, -⟩ := id h
  have l7 : L ≤ 7 := cok.2.1
  have hM0 : MoOK (sI E 1538 95 0) := hM
  have hL0 : gA (sI E 1538 95 0) 98 0 = nI L := hL
  obtain ⟨E1, ⟨f1, hv1, hr1, s1, s2⟩, hse⟩ := m_set (d := d + 6) (md_0 (x := 0) h)
  have hM1 := mf_mo f1 hM0
  have hF1 : gI E1 1562 95 = vS (vMk L sl aw R c fr) 4 := (mf_gI f1 (by decide)).trans h62
  obtain ⟨_, ⟨E2, rfl, f2, hg⟩, hgo⟩ := c_X12_go (d := d + 2) (m := q) hM1 hv1 cok.2.2.2.2.2.2 (by omega)
  obtain ⟨hM2, hv2, g1, g2, g3, g4, g5, g6⟩ := id hg
  have hq : AQ E E2 0 := mq_of (mf_tr (mf_mono f1 (gs2 := gsS) (as2 := asS) (by decide) (by decide)) (mf_mono f2 (by decide) (by decide))) (by decide) (by decide) (by decide)
  obtain ⟨b1, b2, b3, b4⟩ := gr_by ⟨cok, csu⟩ hg hs
  obtain ⟨i0, hi0, he0⟩ := csu s hs
  obtain ⟨p1, p2, p3⟩ := plc_hit hi0 he0
  have hia := c_X12_isAwake (d := d + 7) (V := (vMk L sl aw R c fr)) (f := nA (nightF (vMk L sl aw R c fr) q)) (p := plcF (cO c) (nI s) L) ⟨hM2, hv2, g1, by omega⟩ g5 p1
  rw [show oV (vMk L sl aw R c fr) (plcF (cO c) (nI s) L) = s by show (cO c _).toNatClampNeg = s; rw [p2, nI_clamp (by omega)], aw_eq (aw := aw) rfl, show nA (nightF (vMk L sl aw R c fr) q) 2 (plcF (cO c) (nI s) L) = byS (vMk L sl aw R c fr) (nightF (vMk L sl aw R c fr) q) 2 s from rfl] at hia
  have hin := c_isInC (d := d + 7) (E := sI E 1538 95 0) (x := nI q) (y := nI m) (z := (nI m).toInt64) (z0 := 0) rfl (by decide)
  rw [b01_t (inC_of hqm (by omega))] at hin
  have his := c_isSl (d := d + 6) (E := sI E 1538 95 0) (x := nI s) hM0 hL0 l7
  rw [b01_t (inB_of hs (by omega))] at his
  have hm0 : gA (sI E 1538 95 0) 98 3 = nI m := hm
  refine ⟨E2, hq, ?_⟩
  refine Cl.of (by decide) rfl (fun q => by cases q) rfl rfl (Nat.le_of_ble_eq_true rfl) ?_
  show Sm _ _ _ _ _ 0 [some (.ref 95), some (.int (nI s)), some (.int (nI q)), some (.int (w))] [] _ _
  refine r_aload_n 1 dX12_lies_0 rfl rfl ?_
  refine r_iconst (0) 2 dX12_lies_1 rfl (by decide) ?_
  refine r_putI 5 dX12_lies_2 rfl f12_159 rfl lt95 ?_
  refine r_aload_n 6 dX12_lies_5 rfl rfl ?_
  refine r_iload_n 7 dX12_lies_6 rfl rfl ?_
  refine r_callV (M := mX12_lies) (pc := 7) 10 dX12_lies_7 rfl k12_420 his rfl rfl rfl (by decide) rfl lt95 (Nat.le_of_ble_eq_true rfl) ?_
  refine r_if_eq 13 22 dX12_lies_10 rfl (by decide) (fun h10 => absurd h10 (by decide)) (fun h10 => ?_)
  refine r_iload_n 14 dX12_lies_13 rfl rfl ?_
  refine r_if_lt 17 22 dX12_lies_14 rfl (by decide) (fun h14 => absurd h14 hw.1) (fun h14 => ?_)
  refine r_iload_n 18 dX12_lies_17 rfl rfl ?_
  refine r_iconst (1) 19 dX12_lies_18 rfl (by decide) ?_
  refine r_icmp_le 22 28 dX12_lies_19 rfl (by decide) (fun h19 => ?_) (fun h19 => absurd (le_of_in2 hw) h19)
  refine r_iload_n 29 dX12_lies_28 rfl rfl ?_
  refine r_i2l 30 dX12_lies_29 rfl ?_
  refine r_lconst 0 31 dX12_lies_30 rfl (by decide) ?_
  refine r_aload_n 32 dX12_lies_31 rfl rfl ?_
  refine r_getR 35 dX12_lies_32 rfl f12_38 rfl rfl lt95 (mo_3 hM0) ?_
  refine r_iconst (3) 36 dX12_lies_35 rfl (by decide) ?_
  refine r_ialdN (3) (nI m) 37 dX12_lies_36 rfl rfl (Nat.le_of_ble_eq_true rfl) (by decide) (Nat.le_of_ble_eq_true rfl) (Nat.le_of_ble_eq_true rfl) (hm0) ?_
  refine r_i2l 38 dX12_lies_37 rfl ?_
  refine r_callS (M := mX12_lies) (pc := 38) 41 dX12_lies_38 rfl k12_162 hin rfl rfl (Nat.le_of_ble_eq_true rfl) ?_
  refine r_if_ne 44 50 dX12_lies_41 rfl (by decide) (fun h41 => ?_) (fun h41 => absurd h41 (by decide))
  refine r_aload_n 51 dX12_lies_50 rfl rfl ?_
  refine r_callV (M := mX12_lies) (pc := 51) 54 dX12_lies_51 rfl k12_413 hse rfl rfl rfl (by decide) rfl lt95 (Nat.le_of_ble_eq_true rfl) ?_
  refine r_aload_n 55 dX12_lies_54 rfl rfl ?_
  refine r_aload_n 56 dX12_lies_55 rfl rfl ?_
  refine r_getIV (vS (vMk L sl aw R c fr) 4) 59 dX12_lies_56 rfl f12_315 rfl rfl lt95 (hF1) ?_
  refine r_iload_n 60 dX12_lies_59 rfl rfl ?_
  refine r_callV (M := mX12_lies) (pc := 60) 63 dX12_lies_60 rfl k12_416 hgo rfl rfl rfl (by decide) rfl lt95 (Nat.le_of_ble_eq_true rfl) ?_
  refine r_iload_n 64 dX12_lies_63 rfl rfl ?_
  refine r_if_ne 67 76 dX12_lies_64 rfl (by decide) (fun h64 => ?_) (fun h64 => ?_)
  · refine r_aload_n 77 dX12_lies_76 rfl rfl ?_
    refine r_iload_n 78 dX12_lies_77 rfl rfl ?_
    refine r_callV (M := mX12_lies) (pc := 78) 81 dX12_lies_78 rfl k12_376 hia rfl rfl rfl (by decide) rfl lt95 (Nat.le_of_ble_eq_true rfl) ?_
    refine r_if_eq 84 88 dX12_lies_81 rfl (by decide) (fun h81 => ?_) (fun h81 => ?_)
    · refine r_iconst (0) 89 dX12_lies_88 rfl (by decide) ?_
      exact r_iret dX12_lies_89 rfl rfl (by first | rw [if_pos h64] | rw [if_neg h64, h81] | rw [if_neg h64, (awV_01 _ _ _).resolve_left (show ¬ awV (byS (vMk L sl aw R c fr) (nightF (vMk L sl aw R c fr) q) 2 s) (nI q) aw = 0 from h81)])
    · refine r_iconst (1) 85 dX12_lies_84 rfl (by decide) ?_
      refine r_goto 89 dX12_lies_85 (by decide) ?_
      exact r_iret dX12_lies_89 rfl rfl (by first | rw [if_pos h64] | rw [if_neg h64, h81] | rw [if_neg h64, (awV_01 _ _ _).resolve_left (show ¬ awV (byS (vMk L sl aw R c fr) (nightF (vMk L sl aw R c fr) q) 2 s) (nI q) aw = 0 from h81)])
  · refine r_aload_n 68 dX12_lies_67 rfl rfl ?_
    refine r_getR 71 dX12_lies_68 rfl f12_96 rfl rfl lt95 (mo_36 hM2) ?_
    refine r_iload_n 72 dX12_lies_71 rfl rfl ?_
    refine r_ialdN (s) (_) 73 dX12_lies_72 rfl rfl (Nat.le_of_ble_eq_true rfl) (rfl) (by omega) (Nat.le_of_ble_eq_true rfl) (b1) ?_
    refine r_goto 89 dX12_lies_73 (by decide) ?_
    exact r_iret dX12_lies_89 rfl rfl (by first | rw [if_pos h64] | rw [if_neg h64, h81] | rw [if_neg h64, (awV_01 _ _ _).resolve_left (show ¬ awV (byS (vMk L sl aw R c fr) (nightF (vMk L sl aw R c fr) q) 2 s) (nI q) aw = 0 from h81)])
set_option maxRecDepth 20000 in
theorem m_lies1 {d L m : Nat} {sl : Nat → Nat → Int32} {aw : Int32} {R : List Int32} {c : Cfg} {fr : Int32} {E : HP} {x y w : Int32} (h : MD E L m sl aw R c fr) (hx : ¬ inB x (nI L)) : ∃ E2, AQ E E2 1 ∧ Cl yX12_lies mX12_lies (d + 8) 0 0 [.ref 95, .int (x), .int (y), .int (w)] E 137 (.inl (some (.int 0)), E2, 137) := by
  obtain ⟨hM, hL, ⟨cok, csu⟩, hoc, h62, h63, h64, h65, hsy, hsl, ⟨m1, m6, hm⟩, -⟩ := id h
  have l7 : L ≤ 7 := cok.2.1
  have hM0 : MoOK (sI E 1538 95 0) := hM
  have hL0 : gA (sI E 1538 95 0) 98 0 = nI L := hL
  have his := c_isSl (d := d + 6) (E := sI E 1538 95 0) (x := x) hM0 hL0 l7
  rw [b01_f hx] at his
  refine ⟨_, mq_fail (x := 0), ?_⟩
  refine Cl.of (by decide) rfl (fun q => by cases q) rfl rfl (Nat.le_of_ble_eq_true rfl) ?_
  show Sm _ _ _ _ _ 0 [some (.ref 95), some (.int (x)), some (.int (y)), some (.int (w))] [] _ _
  refine r_aload_n 1 dX12_lies_0 rfl rfl ?_
  refine r_iconst (0) 2 dX12_lies_1 rfl (by decide) ?_
  refine r_putI 5 dX12_lies_2 rfl f12_159 rfl lt95 ?_
  refine r_aload_n 6 dX12_lies_5 rfl rfl ?_
  refine r_iload_n 7 dX12_lies_6 rfl rfl ?_
  refine r_callV (M := mX12_lies) (pc := 7) 10 dX12_lies_7 rfl k12_420 his rfl rfl rfl (by decide) rfl lt95 (Nat.le_of_ble_eq_true rfl) ?_
  refine r_if_eq 13 22 dX12_lies_10 rfl (by decide) (fun h10 => ?_) (fun h10 => absurd rfl h10)
  refine r_aload_n 23 dX12_lies_22 rfl rfl ?_
  refine r_iconst (1) 24 dX12_lies_23 rfl (by decide) ?_
  refine r_callV (M := mX12_lies) (pc := 24) 27 dX12_lies_24 rfl k12_302 c_fail rfl rfl rfl (by decide) rfl lt95 (Nat.le_of_ble_eq_true rfl) ?_
  exact r_iret dX12_lies_27 rfl rfl (rfl)
set_option maxRecDepth 20000 in
theorem m_lies2 {d L m s : Nat} {sl : Nat → Nat → Int32} {aw : Int32} {R : List Int32} {c : Cfg} {fr : Int32} {E : HP} {y w : Int32} (h : MD E L m sl aw R c fr) (hs : s < L) (hw : ¬ inB w 2) : ∃ E2, AQ E E2 1 ∧ Cl yX12_lies mX12_lies (d + 8) 0 0 [.ref 95, .int (nI s), .int (y), .int (w)] E 137 (.inl (some (.int 0)), E2, 137) := by
  obtain ⟨hM, hL, ⟨cok, csu⟩, hoc, h62, h63, h64, h65, hsy, hsl, ⟨m1, m6, hm⟩, -⟩ := id h
  have l7 : L ≤ 7 := cok.2.1
  have hM0 : MoOK (sI E 1538 95 0) := hM
  have hL0 : gA (sI E 1538 95 0) 98 0 = nI L := hL
  have his := c_isSl (d := d + 6) (E := sI E 1538 95 0) (x := nI s) hM0 hL0 l7
  rw [b01_t (inB_of hs (by omega))] at his
  refine ⟨_, mq_fail (x := 0), ?_⟩
  refine Cl.of (by decide) rfl (fun q => by cases q) rfl rfl (Nat.le_of_ble_eq_true rfl) ?_
  show Sm _ _ _ _ _ 0 [some (.ref 95), some (.int (nI s)), some (.int (y)), some (.int (w))] [] _ _
  refine r_aload_n 1 dX12_lies_0 rfl rfl ?_
  refine r_iconst (0) 2 dX12_lies_1 rfl (by decide) ?_
  refine r_putI 5 dX12_lies_2 rfl f12_159 rfl lt95 ?_
  refine r_aload_n 6 dX12_lies_5 rfl rfl ?_
  refine r_iload_n 7 dX12_lies_6 rfl rfl ?_
  refine r_callV (M := mX12_lies) (pc := 7) 10 dX12_lies_7 rfl k12_420 his rfl rfl rfl (by decide) rfl lt95 (Nat.le_of_ble_eq_true rfl) ?_
  refine r_if_eq 13 22 dX12_lies_10 rfl (by decide) (fun h10 => absurd h10 (by decide)) (fun h10 => ?_)
  refine r_iload_n 14 dX12_lies_13 rfl rfl ?_
  refine r_if_lt 17 22 dX12_lies_14 rfl (by decide) (fun h14 => ?_) (fun h14 => ?_)
  · refine r_aload_n 23 dX12_lies_22 rfl rfl ?_
    refine r_iconst (1) 24 dX12_lies_23 rfl (by decide) ?_
    refine r_callV (M := mX12_lies) (pc := 24) 27 dX12_lies_24 rfl k12_302 c_fail rfl rfl rfl (by decide) rfl lt95 (Nat.le_of_ble_eq_true rfl) ?_
    exact r_iret dX12_lies_27 rfl rfl (rfl)
  · refine r_iload_n 18 dX12_lies_17 rfl rfl ?_
    refine r_iconst (1) 19 dX12_lies_18 rfl (by decide) ?_
    refine r_icmp_le 22 28 dX12_lies_19 rfl (by decide) (fun h19 => ?_) (fun h19 => ?_)
    · exact absurd (in2_of h14 h19) hw
    · refine r_aload_n 23 dX12_lies_22 rfl rfl ?_
      refine r_iconst (1) 24 dX12_lies_23 rfl (by decide) ?_
      refine r_callV (M := mX12_lies) (pc := 24) 27 dX12_lies_24 rfl k12_302 c_fail rfl rfl rfl (by decide) rfl lt95 (Nat.le_of_ble_eq_true rfl) ?_
      exact r_iret dX12_lies_27 rfl rfl (rfl)
set_option maxRecDepth 20000 in
theorem m_lies3 {d L m s : Nat} {sl : Nat → Nat → Int32} {aw : Int32} {R : List Int32} {c : Cfg} {fr : Int32} {E : HP} {y w : Int32} (h : MD E L m sl aw R c fr) (hs : s < L) (hw : inB w 2) (hy : ¬ inC y (nI m)) : ∃ E2, AQ E E2 2 ∧ Cl yX12_lies mX12_lies (d + 8) 0 0 [.ref 95, .int (nI s), .int (y), .int (w)] E 137 (.inl (some (.int 0)), E2, 137) := by
  obtain ⟨hM, hL, ⟨cok, csu⟩, hoc, h62, h63, h64, h65, hsy, hsl, ⟨m1, m6, hm⟩, -⟩ := id h
  have l7 : L ≤ 7 := cok.2.1
  have hM0 : MoOK (sI E 1538 95 0) := hM
  have hL0 : gA (sI E 1538 95 0) 98 0 = nI L := hL
  have his := c_isSl (d := d + 6) (E := sI E 1538 95 0) (x := nI s) hM0 hL0 l7
  rw [b01_t (inB_of hs (by omega))] at his
  have hin := c_isInC (d := d + 7) (E := sI E 1538 95 0) (x := y) (y := nI m) (z := (nI m).toInt64) (z0 := 0) rfl (by decide)
  rw [b01_f hy] at hin
  have hm0 : gA (sI E 1538 95 0) 98 3 = nI m := hm
  refine ⟨_, mq_fail (x := 0), ?_⟩
  refine Cl.of (by decide) rfl (fun q => by cases q) rfl rfl (Nat.le_of_ble_eq_true rfl) ?_
  show Sm _ _ _ _ _ 0 [some (.ref 95), some (.int (nI s)), some (.int (y)), some (.int (w))] [] _ _
  refine r_aload_n 1 dX12_lies_0 rfl rfl ?_
  refine r_iconst (0) 2 dX12_lies_1 rfl (by decide) ?_
  refine r_putI 5 dX12_lies_2 rfl f12_159 rfl lt95 ?_
  refine r_aload_n 6 dX12_lies_5 rfl rfl ?_
  refine r_iload_n 7 dX12_lies_6 rfl rfl ?_
  refine r_callV (M := mX12_lies) (pc := 7) 10 dX12_lies_7 rfl k12_420 his rfl rfl rfl (by decide) rfl lt95 (Nat.le_of_ble_eq_true rfl) ?_
  refine r_if_eq 13 22 dX12_lies_10 rfl (by decide) (fun h10 => absurd h10 (by decide)) (fun h10 => ?_)
  refine r_iload_n 14 dX12_lies_13 rfl rfl ?_
  refine r_if_lt 17 22 dX12_lies_14 rfl (by decide) (fun h14 => absurd h14 hw.1) (fun h14 => ?_)
  refine r_iload_n 18 dX12_lies_17 rfl rfl ?_
  refine r_iconst (1) 19 dX12_lies_18 rfl (by decide) ?_
  refine r_icmp_le 22 28 dX12_lies_19 rfl (by decide) (fun h19 => ?_) (fun h19 => absurd (le_of_in2 hw) h19)
  refine r_iload_n 29 dX12_lies_28 rfl rfl ?_
  refine r_i2l 30 dX12_lies_29 rfl ?_
  refine r_lconst 0 31 dX12_lies_30 rfl (by decide) ?_
  refine r_aload_n 32 dX12_lies_31 rfl rfl ?_
  refine r_getR 35 dX12_lies_32 rfl f12_38 rfl rfl lt95 (mo_3 hM0) ?_
  refine r_iconst (3) 36 dX12_lies_35 rfl (by decide) ?_
  refine r_ialdN (3) (nI m) 37 dX12_lies_36 rfl rfl (Nat.le_of_ble_eq_true rfl) (by decide) (Nat.le_of_ble_eq_true rfl) (Nat.le_of_ble_eq_true rfl) (hm0) ?_
  refine r_i2l 38 dX12_lies_37 rfl ?_
  refine r_callS (M := mX12_lies) (pc := 38) 41 dX12_lies_38 rfl k12_162 hin rfl rfl (Nat.le_of_ble_eq_true rfl) ?_
  refine r_if_ne 44 50 dX12_lies_41 rfl (by decide) (fun h41 => absurd h41 (fun z => z rfl)) (fun h41 => ?_)
  refine r_aload_n 45 dX12_lies_44 rfl rfl ?_
  refine r_iconst (2) 46 dX12_lies_45 rfl (by decide) ?_
  refine r_callV (M := mX12_lies) (pc := 46) 49 dX12_lies_46 rfl k12_302 c_fail rfl rfl rfl (by decide) rfl lt95 (Nat.le_of_ble_eq_true rfl) ?_
  exact r_iret dX12_lies_49 rfl rfl (rfl)
set_option maxRecDepth 20000 in
theorem m_free {d L m s : Nat} {sl : Nat → Nat → Int32} {aw : Int32} {R : List Int32} {c : Cfg} {fr : Int32} {E : HP} (h : MD E L m sl aw R c fr) (hs : s < L) : ∃ E2, AQ E E2 0 ∧ Cl yX12_free mX12_free (d + 8) 0 0 [.ref 95, .int (nI s)] E 137 (.inl (some (.int (byS (vMk L sl aw R c 1) (nightF (vMk L sl aw R c 1) m) 3 s))), E2, 137) := by
  obtain ⟨hM, hL, ⟨cok, csu⟩, hoc, h62, h63, h64, h65, hsy, hsl, ⟨m1, m6, hm⟩, -⟩ := id h
  have l7 : L ≤ 7 := cok.2.1
  have hM0 : MoOK (sI E 1538 95 0) := hM
  have hL0 : gA (sI E 1538 95 0) 98 0 = nI L := hL
  obtain ⟨E1, ⟨f1, hv1, hr1, s1, s2⟩, hse⟩ := m_set (d := d + 6) (md_0 (x := 0) h)
  have hM1 := mf_mo f1 hM0
  have hF1 : gI E1 1562 95 = vS (vMk L sl aw R c fr) 4 := (mf_gI f1 (by decide)).trans h62
  have hv2 := mvis_free (v := 1) hv1
  have hF2 : gI (sI E1 1589 95 1) 1562 95 = vS (vMk L sl aw R c 1) 4 := by rw [gI_sI, if_neg (by decide)]; exact hF1
  have hM2 : MoOK (sI E1 1589 95 1) := hM1
  obtain ⟨_, ⟨E2, rfl, f2, hg⟩, hgo⟩ := c_X12_go (d := d + 2) (m := m) hM2 hv2 cok.2.2.2.2.2.2 m6
  have hM3 := hg.1
  have hq : AQ E E2 0 := mq_of (mf_tr (mf_sI (gs := gsS) (as := asS) (by decide) (mf_mono f1 (by decide) (by decide))) (mf_mono f2 (by decide) (by decide))) (by decide) (by decide) (by decide)
  obtain ⟨b1, b2, b3, b4⟩ := gr_by ⟨cok, csu⟩ hg hs
  have his := c_isSl (d := d + 6) (E := sI E 1538 95 0) (x := nI s) hM0 hL0 l7
  rw [b01_t (inB_of hs (by omega))] at his
  have hm2 : gA (sI E1 1589 95 1) 98 3 = nI m := by show gA E1 98 3 = nI m; rw [mf_gA f1 (by decide)]; exact hm
  refine ⟨E2, hq, ?_⟩
  refine Cl.of (by decide) rfl (fun q => by cases q) rfl rfl (Nat.le_of_ble_eq_true rfl) ?_
  show Sm _ _ _ _ _ 0 [some (.ref 95), some (.int (nI s))] [] _ _
  refine r_aload_n 1 dX12_free_0 rfl rfl ?_
  refine r_iconst (0) 2 dX12_free_1 rfl (by decide) ?_
  refine r_putI 5 dX12_free_2 rfl f12_159 rfl lt95 ?_
  refine r_aload_n 6 dX12_free_5 rfl rfl ?_
  refine r_iload_n 7 dX12_free_6 rfl rfl ?_
  refine r_callV (M := mX12_free) (pc := 7) 10 dX12_free_7 rfl k12_420 his rfl rfl rfl (by decide) rfl lt95 (Nat.le_of_ble_eq_true rfl) ?_
  refine r_if_ne 13 19 dX12_free_10 rfl (by decide) (fun h10 => ?_) (fun h10 => absurd h10 (by decide))
  refine r_aload_n 20 dX12_free_19 rfl rfl ?_
  refine r_callV (M := mX12_free) (pc := 20) 23 dX12_free_20 rfl k12_413 hse rfl rfl rfl (by decide) rfl lt95 (Nat.le_of_ble_eq_true rfl) ?_
  refine r_aload_n 24 dX12_free_23 rfl rfl ?_
  refine r_iconst (1) 25 dX12_free_24 rfl (by decide) ?_
  refine r_putZ 28 dX12_free_25 rfl f12_356 rfl lt95 (by decide) ?_
  refine r_aload_n 29 dX12_free_28 rfl rfl ?_
  refine r_aload_n 30 dX12_free_29 rfl rfl ?_
  refine r_getIV (vS (vMk L sl aw R c 1) 4) 33 dX12_free_30 rfl f12_315 rfl rfl lt95 (hF2) ?_
  refine r_aload_n 34 dX12_free_33 rfl rfl ?_
  refine r_getR 37 dX12_free_34 rfl f12_38 rfl rfl lt95 (mo_3 hM2) ?_
  refine r_iconst (3) 38 dX12_free_37 rfl (by decide) ?_
  refine r_ialdN (3) (nI m) 39 dX12_free_38 rfl rfl (Nat.le_of_ble_eq_true rfl) (by decide) (Nat.le_of_ble_eq_true rfl) (Nat.le_of_ble_eq_true rfl) (hm2) ?_
  refine r_callV (M := mX12_free) (pc := 39) 42 dX12_free_39 rfl k12_416 hgo rfl rfl rfl (by decide) rfl lt95 (Nat.le_of_ble_eq_true rfl) ?_
  refine r_aload_n 43 dX12_free_42 rfl rfl ?_
  refine r_getR 46 dX12_free_43 rfl f12_105 rfl rfl lt95 (mo_39 hM3) ?_
  refine r_iload_n 47 dX12_free_46 rfl rfl ?_
  refine r_ialdN (s) (_) 48 dX12_free_47 rfl rfl (Nat.le_of_ble_eq_true rfl) (rfl) (by omega) (Nat.le_of_ble_eq_true rfl) (b3) ?_
  exact r_iret dX12_free_48 rfl rfl (rfl)
set_option maxRecDepth 20000 in
theorem m_freeX {d L m : Nat} {sl : Nat → Nat → Int32} {aw : Int32} {R : List Int32} {c : Cfg} {fr : Int32} {E : HP} {x : Int32} (h : MD E L m sl aw R c fr) (hx : ¬ inB x (nI L)) : ∃ E2, AQ E E2 1 ∧ Cl yX12_free mX12_free (d + 8) 0 0 [.ref 95, .int (x)] E 137 (.inl (some (.int 0)), E2, 137) := by
  obtain ⟨hM, hL, ⟨cok, csu⟩, hoc, h62, h63, h64, h65, hsy, hsl, ⟨m1, m6, hm⟩, -⟩ := id h
  have l7 : L ≤ 7 := cok.2.1
  have hM0 : MoOK (sI E 1538 95 0) := hM
  have hL0 : gA (sI E 1538 95 0) 98 0 = nI L := hL
  have his := c_isSl (d := d + 6) (E := sI E 1538 95 0) (x := x) hM0 hL0 l7
  rw [b01_f hx] at his
  refine ⟨_, mq_fail (x := 0), ?_⟩
  refine Cl.of (by decide) rfl (fun q => by cases q) rfl rfl (Nat.le_of_ble_eq_true rfl) ?_
  show Sm _ _ _ _ _ 0 [some (.ref 95), some (.int (x))] [] _ _
  refine r_aload_n 1 dX12_free_0 rfl rfl ?_
  refine r_iconst (0) 2 dX12_free_1 rfl (by decide) ?_
  refine r_putI 5 dX12_free_2 rfl f12_159 rfl lt95 ?_
  refine r_aload_n 6 dX12_free_5 rfl rfl ?_
  refine r_iload_n 7 dX12_free_6 rfl rfl ?_
  refine r_callV (M := mX12_free) (pc := 7) 10 dX12_free_7 rfl k12_420 his rfl rfl rfl (by decide) rfl lt95 (Nat.le_of_ble_eq_true rfl) ?_
  refine r_if_ne 13 19 dX12_free_10 rfl (by decide) (fun h10 => absurd h10 (fun z => z rfl)) (fun h10 => ?_)
  refine r_aload_n 14 dX12_free_13 rfl rfl ?_
  refine r_iconst (1) 15 dX12_free_14 rfl (by decide) ?_
  refine r_callV (M := mX12_free) (pc := 15) 18 dX12_free_15 rfl k12_302 c_fail rfl rfl rfl (by decide) rfl lt95 (Nat.le_of_ble_eq_true rfl) ?_
  exact r_iret dX12_free_18 rfl rfl (rfl)
