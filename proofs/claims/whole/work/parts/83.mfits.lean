/-! The model: fits; where every and year fail -/
set_option maxRecDepth 20000 in
theorem m_every1 {d L m : Nat} {sl : Nat → Nat → Int32} {aw : Int32} {R : List Int32} {c : Cfg} {fr : Int32} {E : HP} {x w : Int32} (h : MD E L m sl aw R c fr) (hx : ¬ inB x (nI L)) : ∃ E2, AQ E E2 1 ∧ Cl yX12_every mX12_every (d + 8) 0 0 [.ref 95, .int (x), .int (w)] E 137 (.inl (some (.int 0)), E2, 137) := by
  obtain ⟨hM, hL, ⟨cok, csu⟩, hoc, h62, h63, h64, h65, hsy, hsl, ⟨m1, m6, hm⟩, -⟩ := id h
  have l7 : L ≤ 7 := cok.2.1
  have hM0 : MoOK (sI E 1538 95 0) := hM
  have hL0 : gA (sI E 1538 95 0) 98 0 = nI L := hL
  have his := c_isSl (d := d + 6) (E := sI E 1538 95 0) (x := x) hM0 hL0 l7
  rw [b01_f hx] at his
  refine ⟨_, mq_fail (x := 0), ?_⟩
  refine Cl.of (by decide) rfl (fun q => by cases q) rfl rfl (Nat.le_of_ble_eq_true rfl) ?_
  show Sm _ _ _ _ _ 0 [some (.ref 95), some (.int (x)), some (.int (w)), none, none, none] [] _ _
  refine r_aload_n 1 dX12_every_0 rfl rfl ?_
  refine r_iconst (0) 2 dX12_every_1 rfl (by decide) ?_
  refine r_putI 5 dX12_every_2 rfl f12_159 rfl lt95 ?_
  refine r_aload_n 6 dX12_every_5 rfl rfl ?_
  refine r_iload_n 7 dX12_every_6 rfl rfl ?_
  refine r_callV (M := mX12_every) (pc := 7) 10 dX12_every_7 rfl k12_420 his rfl rfl rfl (by decide) rfl lt95 (Nat.le_of_ble_eq_true rfl) ?_
  refine r_if_eq 13 22 dX12_every_10 rfl (by decide) (fun h10 => ?_) (fun h10 => absurd rfl h10)
  refine r_aload_n 23 dX12_every_22 rfl rfl ?_
  refine r_iconst (1) 24 dX12_every_23 rfl (by decide) ?_
  refine r_callV (M := mX12_every) (pc := 24) 27 dX12_every_24 rfl k12_302 c_fail rfl rfl rfl (by decide) rfl lt95 (Nat.le_of_ble_eq_true rfl) ?_
  exact r_iret dX12_every_27 rfl rfl (rfl)
set_option maxRecDepth 20000 in
theorem m_every2 {d L m s : Nat} {sl : Nat → Nat → Int32} {aw : Int32} {R : List Int32} {c : Cfg} {fr : Int32} {E : HP} {w : Int32} (h : MD E L m sl aw R c fr) (hs : s < L) (hw : ¬ inB w 2) : ∃ E2, AQ E E2 1 ∧ Cl yX12_every mX12_every (d + 8) 0 0 [.ref 95, .int (nI s), .int (w)] E 137 (.inl (some (.int 0)), E2, 137) := by
  obtain ⟨hM, hL, ⟨cok, csu⟩, hoc, h62, h63, h64, h65, hsy, hsl, ⟨m1, m6, hm⟩, -⟩ := id h
  have l7 : L ≤ 7 := cok.2.1
  have hM0 : MoOK (sI E 1538 95 0) := hM
  have hL0 : gA (sI E 1538 95 0) 98 0 = nI L := hL
  have his := c_isSl (d := d + 6) (E := sI E 1538 95 0) (x := nI s) hM0 hL0 l7
  rw [b01_t (inB_of hs (by omega))] at his
  refine ⟨_, mq_fail (x := 0), ?_⟩
  refine Cl.of (by decide) rfl (fun q => by cases q) rfl rfl (Nat.le_of_ble_eq_true rfl) ?_
  show Sm _ _ _ _ _ 0 [some (.ref 95), some (.int (nI s)), some (.int (w)), none, none, none] [] _ _
  refine r_aload_n 1 dX12_every_0 rfl rfl ?_
  refine r_iconst (0) 2 dX12_every_1 rfl (by decide) ?_
  refine r_putI 5 dX12_every_2 rfl f12_159 rfl lt95 ?_
  refine r_aload_n 6 dX12_every_5 rfl rfl ?_
  refine r_iload_n 7 dX12_every_6 rfl rfl ?_
  refine r_callV (M := mX12_every) (pc := 7) 10 dX12_every_7 rfl k12_420 his rfl rfl rfl (by decide) rfl lt95 (Nat.le_of_ble_eq_true rfl) ?_
  refine r_if_eq 13 22 dX12_every_10 rfl (by decide) (fun h10 => absurd h10 (by decide)) (fun h10 => ?_)
  refine r_iload_n 14 dX12_every_13 rfl rfl ?_
  refine r_if_lt 17 22 dX12_every_14 rfl (by decide) (fun h14 => ?_) (fun h14 => ?_)
  · refine r_aload_n 23 dX12_every_22 rfl rfl ?_
    refine r_iconst (1) 24 dX12_every_23 rfl (by decide) ?_
    refine r_callV (M := mX12_every) (pc := 24) 27 dX12_every_24 rfl k12_302 c_fail rfl rfl rfl (by decide) rfl lt95 (Nat.le_of_ble_eq_true rfl) ?_
    exact r_iret dX12_every_27 rfl rfl (rfl)
  · refine r_iload_n 18 dX12_every_17 rfl rfl ?_
    refine r_iconst (1) 19 dX12_every_18 rfl (by decide) ?_
    refine r_icmp_le 22 28 dX12_every_19 rfl (by decide) (fun h19 => ?_) (fun h19 => ?_)
    · exact absurd (in2_of h14 h19) hw
    · refine r_aload_n 23 dX12_every_22 rfl rfl ?_
      refine r_iconst (1) 24 dX12_every_23 rfl (by decide) ?_
      refine r_callV (M := mX12_every) (pc := 24) 27 dX12_every_24 rfl k12_302 c_fail rfl rfl rfl (by decide) rfl lt95 (Nat.le_of_ble_eq_true rfl) ?_
      exact r_iret dX12_every_27 rfl rfl (rfl)
set_option maxRecDepth 20000 in
theorem m_every3 {d L m s : Nat} {sl : Nat → Nat → Int32} {aw : Int32} {R : List Int32} {c : Cfg} {fr : Int32} {E : HP} {w : Int32} (h : MD E L m sl aw R c fr) (hs : s < L) (hw : inB w 2) (h3 : sl 1 s = 3) : ∃ E2, AQ E E2 2 ∧ Cl yX12_every mX12_every (d + 8) 0 0 [.ref 95, .int (nI s), .int (w)] E 137 (.inl (some (.int 0)), E2, 137) := by
  obtain ⟨hM, hL, ⟨cok, csu⟩, hoc, h62, h63, h64, h65, hsy, hsl, ⟨m1, m6, hm⟩, -⟩ := id h
  have l7 : L ≤ 7 := cok.2.1
  have hM0 : MoOK (sI E 1538 95 0) := hM
  have hL0 : gA (sI E 1538 95 0) 98 0 = nI L := hL
  have his := c_isSl (d := d + 6) (E := sI E 1538 95 0) (x := nI s) hM0 hL0 l7
  rw [b01_t (inB_of hs (by omega))] at his
  have hkd : gA (sI E 1538 95 0) 99 s = sl 1 s := (hsl s hs).1
  refine ⟨_, mq_fail (x := 0), ?_⟩
  refine Cl.of (by decide) rfl (fun q => by cases q) rfl rfl (Nat.le_of_ble_eq_true rfl) ?_
  show Sm _ _ _ _ _ 0 [some (.ref 95), some (.int (nI s)), some (.int (w)), none, none, none] [] _ _
  refine r_aload_n 1 dX12_every_0 rfl rfl ?_
  refine r_iconst (0) 2 dX12_every_1 rfl (by decide) ?_
  refine r_putI 5 dX12_every_2 rfl f12_159 rfl lt95 ?_
  refine r_aload_n 6 dX12_every_5 rfl rfl ?_
  refine r_iload_n 7 dX12_every_6 rfl rfl ?_
  refine r_callV (M := mX12_every) (pc := 7) 10 dX12_every_7 rfl k12_420 his rfl rfl rfl (by decide) rfl lt95 (Nat.le_of_ble_eq_true rfl) ?_
  refine r_if_eq 13 22 dX12_every_10 rfl (by decide) (fun h10 => absurd h10 (by decide)) (fun h10 => ?_)
  refine r_iload_n 14 dX12_every_13 rfl rfl ?_
  refine r_if_lt 17 22 dX12_every_14 rfl (by decide) (fun h14 => absurd h14 hw.1) (fun h14 => ?_)
  refine r_iload_n 18 dX12_every_17 rfl rfl ?_
  refine r_iconst (1) 19 dX12_every_18 rfl (by decide) ?_
  refine r_icmp_le 22 28 dX12_every_19 rfl (by decide) (fun h19 => ?_) (fun h19 => absurd (le_of_in2 hw) h19)
  refine r_aload_n 29 dX12_every_28 rfl rfl ?_
  refine r_getR 32 dX12_every_29 rfl f12_42 rfl rfl lt95 (mo_4 hM0) ?_
  refine r_iload_n 33 dX12_every_32 rfl rfl ?_
  refine r_ialdN (s) (sl 1 s) 34 dX12_every_33 rfl rfl (Nat.le_of_ble_eq_true rfl) (rfl) (by omega) (Nat.le_of_ble_eq_true rfl) (hkd) ?_
  refine r_iconst (3) 35 dX12_every_34 rfl (by decide) ?_
  refine r_icmp_ne 38 44 dX12_every_35 rfl (by decide) (fun h35 => absurd h35 (fun z => z h3)) (fun h35 => ?_)
  refine r_aload_n 39 dX12_every_38 rfl rfl ?_
  refine r_iconst (2) 40 dX12_every_39 rfl (by decide) ?_
  refine r_callV (M := mX12_every) (pc := 40) 43 dX12_every_40 rfl k12_302 c_fail rfl rfl rfl (by decide) rfl lt95 (Nat.le_of_ble_eq_true rfl) ?_
  exact r_iret dX12_every_43 rfl rfl (rfl)
set_option maxRecDepth 20000 in
theorem m_year1 {d L m : Nat} {sl : Nat → Nat → Int32} {aw : Int32} {R : List Int32} {c : Cfg} {fr : Int32} {E : HP} {x n w : Int32} (h : MD E L m sl aw R c fr) (hw : ¬ inB w 3) : ∃ E2, AQ E E2 1 ∧ Cl yX12_year mX12_year (d + 8) 0 0 [.ref 95, .int (x), .int (n), .int (w)] E 137 (.inl (some (.int 0)), E2, 137) := by
  obtain ⟨hM, hL, ⟨cok, csu⟩, hoc, h62, h63, h64, h65, hsy, hsl, ⟨m1, m6, hm⟩, -⟩ := id h
  have l7 : L ≤ 7 := cok.2.1
  have hM0 : MoOK (sI E 1538 95 0) := hM
  have hL0 : gA (sI E 1538 95 0) 98 0 = nI L := hL
  have hin := c_isInC (d := d + 7) (E := sI E 1538 95 0) (x := w) (y := 2) (z := 2) (z0 := 0) (by decide) (by decide)
  rw [b01_f (show ¬ inC w 2 from fun z => hw ((inB_C (x := w) (l := 3) (by decide)).mp z))] at hin
  refine ⟨_, mq_fail (x := 0), ?_⟩
  refine Cl.of (by decide) rfl (fun q => by cases q) rfl rfl (Nat.le_of_ble_eq_true rfl) ?_
  show Sm _ _ _ _ _ 0 [some (.ref 95), some (.int (x)), some (.int (n)), some (.int (w)), none, none, none, none, none] [] _ _
  refine r_aload_n 1 dX12_year_0 rfl rfl ?_
  refine r_iconst (0) 2 dX12_year_1 rfl (by decide) ?_
  refine r_putI 5 dX12_year_2 rfl f12_159 rfl lt95 ?_
  refine r_iload_n 6 dX12_year_5 rfl rfl ?_
  refine r_i2l 7 dX12_year_6 rfl ?_
  refine r_lconst 0 8 dX12_year_7 rfl (by decide) ?_
  refine r_ldc2 2 11 dX12_year_8 rfl c12_492 ?_
  refine r_callS (M := mX12_year) (pc := 11) 14 dX12_year_11 rfl k12_162 hin rfl rfl (Nat.le_of_ble_eq_true rfl) ?_
  refine r_if_ne 17 23 dX12_year_14 rfl (by decide) (fun h14 => absurd h14 (fun z => z rfl)) (fun h14 => ?_)
  refine r_aload_n 18 dX12_year_17 rfl rfl ?_
  refine r_iconst (1) 19 dX12_year_18 rfl (by decide) ?_
  refine r_callV (M := mX12_year) (pc := 19) 22 dX12_year_19 rfl k12_302 c_fail rfl rfl rfl (by decide) rfl lt95 (Nat.le_of_ble_eq_true rfl) ?_
  exact r_iret dX12_year_22 rfl rfl (rfl)
set_option maxRecDepth 20000 in
theorem m_year2 {d L m : Nat} {sl : Nat → Nat → Int32} {aw : Int32} {R : List Int32} {c : Cfg} {fr : Int32} {E : HP} {x n w : Int32} (h : MD E L m sl aw R c fr) (hw : inB w 3) (hn : ¬ inC n 40) : ∃ E2, AQ E E2 2 ∧ Cl yX12_year mX12_year (d + 8) 0 0 [.ref 95, .int (x), .int (n), .int (w)] E 137 (.inl (some (.int 0)), E2, 137) := by
  obtain ⟨hM, hL, ⟨cok, csu⟩, hoc, h62, h63, h64, h65, hsy, hsl, ⟨m1, m6, hm⟩, -⟩ := id h
  have l7 : L ≤ 7 := cok.2.1
  have hM0 : MoOK (sI E 1538 95 0) := hM
  have hL0 : gA (sI E 1538 95 0) 98 0 = nI L := hL
  have hin := c_isInC (d := d + 7) (E := sI E 1538 95 0) (x := w) (y := 2) (z := 2) (z0 := 0) (by decide) (by decide)
  rw [b01_t (show inC w 2 from (inB_C (x := w) (l := 3) (by decide)).mpr hw)] at hin
  have hi2 := c_isInC (d := d + 7) (E := sI E 1538 95 0) (x := n) (y := 40) (z := 40) (z0 := 0) (by decide) (by decide)
  rw [b01_f hn] at hi2
  refine ⟨_, mq_fail (x := 0), ?_⟩
  refine Cl.of (by decide) rfl (fun q => by cases q) rfl rfl (Nat.le_of_ble_eq_true rfl) ?_
  show Sm _ _ _ _ _ 0 [some (.ref 95), some (.int (x)), some (.int (n)), some (.int (w)), none, none, none, none, none] [] _ _
  refine r_aload_n 1 dX12_year_0 rfl rfl ?_
  refine r_iconst (0) 2 dX12_year_1 rfl (by decide) ?_
  refine r_putI 5 dX12_year_2 rfl f12_159 rfl lt95 ?_
  refine r_iload_n 6 dX12_year_5 rfl rfl ?_
  refine r_i2l 7 dX12_year_6 rfl ?_
  refine r_lconst 0 8 dX12_year_7 rfl (by decide) ?_
  refine r_ldc2 2 11 dX12_year_8 rfl c12_492 ?_
  refine r_callS (M := mX12_year) (pc := 11) 14 dX12_year_11 rfl k12_162 hin rfl rfl (Nat.le_of_ble_eq_true rfl) ?_
  refine r_if_ne 17 23 dX12_year_14 rfl (by decide) (fun h14 => ?_) (fun h14 => absurd h14 (by decide))
  refine r_iload_n 24 dX12_year_23 rfl rfl ?_
  refine r_i2l 25 dX12_year_24 rfl ?_
  refine r_lconst 0 26 dX12_year_25 rfl (by decide) ?_
  refine r_ldc2 40 29 dX12_year_26 rfl c12_494 ?_
  refine r_callS (M := mX12_year) (pc := 29) 32 dX12_year_29 rfl k12_162 hi2 rfl rfl (Nat.le_of_ble_eq_true rfl) ?_
  refine r_if_ne 35 41 dX12_year_32 rfl (by decide) (fun h32 => absurd h32 (fun z => z rfl)) (fun h32 => ?_)
  refine r_aload_n 36 dX12_year_35 rfl rfl ?_
  refine r_iconst (2) 37 dX12_year_36 rfl (by decide) ?_
  refine r_callV (M := mX12_year) (pc := 37) 40 dX12_year_37 rfl k12_302 c_fail rfl rfl rfl (by decide) rfl lt95 (Nat.le_of_ble_eq_true rfl) ?_
  exact r_iret dX12_year_40 rfl rfl (rfl)
/-- what has been seen, in the model -/
def SeenM (E : HP) (L S : Nat) (sw sq : Nat → Nat) (sd : Nat → Int32) : Prop := gI E 1567 95 = nI S ∧ S ≤ 8 ∧ ∀ i, i < S → sw i < L ∧ sq i ≤ 600 ∧ gA E 127 i = nI (sw i) ∧ gA E 128 i = nI (sq i) ∧ gA E 129 i = sd i
theorem seen_mf {gs as : List Nat} {L S : Nat} {sw sq : Nat → Nat} {sd : Nat → Int32} {E E2 : HP} (h : MF gs as E E2) (hg : 1567 ∉ gs) (h1 : 127 ∉ as) (h2 : 128 ∉ as) (h3 : 129 ∉ as) (hs : SeenM E L S sw sq sd) : SeenM E2 L S sw sq sd := by
  unfold SeenM at *
  rw [mf_gI h hg, mf_gA h h1, mf_gA h h2, mf_gA h h3]
  exact hs
set_option maxRecDepth 20000 in
theorem m_seen {d L m S : Nat} {sl : Nat → Nat → Int32} {aw : Int32} {R : List Int32} {c : Cfg} {fr x : Int32} {E : HP} {sw sq : Nat → Nat} {sd : Nat → Int32} (hM : MoOK E) (hm : gA E 98 3 = nI m) (m6 : m ≤ 600) (l7 : L ≤ 7) (hs : SeenM E L S sw sq sd) (hv : S = 0 ∨ (MVis E (vMk L sl aw R c fr) L ∧ cful L c)) (hx : x = vS (vMk L sl aw R c fr) 4) : ∃ o, (∃ E2, o = (.inl (some (.int (b01 (fitV (vMk L sl aw R c fr) m sw sq sd S)))), E2, 137) ∧ MF gsG asN E E2) ∧ Cl yX12_isAsSeen mX12_isAsSeen (d + 6) 0 0 [.ref 95, .int x] E 137 o := by
  have hS8 := hs.2.1
  refine Cx.of (by decide) rfl (fun q => by cases q) rfl rfl (Nat.le_of_ble_eq_true rfl) ?_
  show Sx _ _ _ _ _ 0 [some (.ref 95), some (.int (x)), none] [] _ _
  have loop := sxUp (S := fun k9 E2 => Sx mX12_isAsSeen (d + 6) 0 0 (fun o => ∃ E2, o = (.inl (some (.int (b01 (fitV (vMk L sl aw R c fr) m sw sq sd S)))), E2, 137) ∧ MF gsG asN E E2) 2 [some (.ref 95), some (.int x), some (.int (nI k9))] [] E2 137) (Inv := fun k9 E2 => MF gsG asN E E2 ∧ (S = 0 ∨ MVis E2 (vMk L sl aw R c fr) L) ∧ fitV (vMk L sl aw R c fr) m sw sq sd k9) (a := 0) (l := S) (by omega) ?_ ?_
  refine Sx.up (fun _ kk => r_iconst (0) 1 dX12_isAsSeen_0 rfl (by decide) kk) ?_
  refine Sx.up (fun _ kk => r_istore_n 2 dX12_isAsSeen_1 rfl (by decide) rfl kk) ?_
  exact loop E ⟨mf_rfl, hv.imp id (fun z => z.1), fun i hi => absurd hi (Nat.not_lt_zero i)⟩
  · intro E2 ⟨f2, hv2, hf⟩
    have hM2 := mf_mo f2 hM
    have hS2 := (seen_mf f2 (by decide) (by decide) (by decide) (by decide) hs).1
    refine Sx.up (fun _ kk => r_iload_n 3 dX12_isAsSeen_2 rfl rfl kk) ?_
    refine Sx.up (fun _ kk => r_aload_n 4 dX12_isAsSeen_3 rfl rfl kk) ?_
    refine Sx.up (fun _ kk => r_getIV (nI S) 7 dX12_isAsSeen_4 rfl f12_327 rfl rfl lt95 (hS2) kk) ?_
    refine Sx.up (fun _ kk => r_icmp_ge 10 58 dX12_isAsSeen_7 rfl (by decide) (fun _ => kk) (fun h7 => absurd (nI_le (Nat.le_refl _) (by omega)) h7)) ?_
    refine Sx.up (fun _ kk => r_iconst (1) 59 dX12_isAsSeen_58 rfl (by decide) kk) ?_
    refine ⟨_, ?_, r_zret dX12_isAsSeen_59 rfl rfl (by decide) rfl⟩
    refine ⟨E2, ?_, f2⟩
    rw [b01_t hf]
  · intro k9 E2 hk0 hk9 ⟨f2, hv2, hf⟩ hq
    have hM2 := mf_mo f2 hM
    obtain ⟨hS2, hS8, hsn⟩ := seen_mf f2 (by decide) (by decide) (by decide) (by decide) hs
    obtain ⟨w1, w2, w3, w4, w5⟩ := hsn k9 hk9
    have hcf := (hv.resolve_left (by omega)).2
    have hv2 := hv2.resolve_left (by omega)
    have hm2 : gA E2 98 3 = nI m := by rw [mf_gA f2 (by decide)]; exact hm
    have hmin : (if nI m < nI (sq k9) then nI m else nI (sq k9)) = nI (min (sq k9) m) := by
      by_cases h9 : m < sq k9
      · rw [if_pos (nI_lt h9 (by omega)), Nat.min_eq_right (by omega)]
      · rw [if_neg (nI_nlt (by omega) (by omega)), Nat.min_eq_left (by omega)]
    obtain ⟨_, ⟨E3, rfl, f3, hg⟩, hgo⟩ := c_X12_go (d := d) (m := min (sq k9) m) (V := (vMk L sl aw R c fr)) hM2 hv2 hcf.1.2.2.2.2.2.2 (by omega)
    rw [← hx] at hgo
    have hM3 := hg.1
    have f03 := mf_tr f2 (mf_mono f3 (fun _ z => z) (by decide))
    obtain ⟨-, -, hsn3⟩ := seen_mf f03 (by decide) (by decide) (by decide) (by decide) hs
    obtain ⟨-, -, u3, u4, u5⟩ := hsn3 k9 hk9
    obtain ⟨b1, -⟩ := gr_by hcf hg w1
    refine Sx.up (fun _ kk => r_iload_n 3 dX12_isAsSeen_2 rfl rfl kk) ?_
    refine Sx.up (fun _ kk => r_aload_n 4 dX12_isAsSeen_3 rfl rfl kk) ?_
    refine Sx.up (fun _ kk => r_getIV (nI S) 7 dX12_isAsSeen_4 rfl f12_327 rfl rfl lt95 (hS2) kk) ?_
    refine Sx.up (fun _ kk => r_icmp_ge 10 58 dX12_isAsSeen_7 rfl (by decide) (fun h7 => absurd h7 (nI_ge hk9 (by omega))) (fun _ => kk)) ?_
    refine Sx.up (fun _ kk => r_aload_n 11 dX12_isAsSeen_10 rfl rfl kk) ?_
    refine Sx.up (fun _ kk => r_iload_n 12 dX12_isAsSeen_11 rfl rfl kk) ?_
    refine Sx.up (fun _ kk => r_aload_n 13 dX12_isAsSeen_12 rfl rfl kk) ?_
    refine Sx.up (fun _ kk => r_getR 16 dX12_isAsSeen_13 rfl f12_135 rfl rfl lt95 (mo_61 hM2) kk) ?_
    refine Sx.up (fun _ kk => r_iload_n 17 dX12_isAsSeen_16 rfl rfl kk) ?_
    refine Sx.up (fun _ kk => r_ialdN (k9) (_) 18 dX12_isAsSeen_17 rfl rfl (Nat.le_of_ble_eq_true rfl) (rfl) (by omega) (Nat.le_of_ble_eq_true rfl) (w4) kk) ?_
    refine Sx.up (fun _ kk => r_aload_n 19 dX12_isAsSeen_18 rfl rfl kk) ?_
    refine Sx.up (fun _ kk => r_getR 22 dX12_isAsSeen_19 rfl f12_38 rfl rfl lt95 (mo_3 hM2) kk) ?_
    refine Sx.up (fun _ kk => r_iconst (3) 23 dX12_isAsSeen_22 rfl (by decide) kk) ?_
    refine Sx.up (fun _ kk => r_ialdN (3) (nI m) 24 dX12_isAsSeen_23 rfl rfl (Nat.le_of_ble_eq_true rfl) (by decide) (Nat.le_of_ble_eq_true rfl) (Nat.le_of_ble_eq_true rfl) (hm2) kk) ?_
    refine Sx.up (fun _ kk => r_min 27 dX12_isAsSeen_24 rfl k12_196 (Nat.le_of_ble_eq_true rfl) kk) ?_
    rw [hmin]
    refine Sx.up (fun _ kk => r_callV (M := mX12_isAsSeen) (pc := 27) 30 dX12_isAsSeen_27 rfl k12_416 hgo rfl rfl rfl (by decide) rfl lt95 (Nat.le_of_ble_eq_true rfl) kk) ?_
    refine Sx.up (fun _ kk => r_aload_n 31 dX12_isAsSeen_30 rfl rfl kk) ?_
    refine Sx.up (fun _ kk => r_getR 34 dX12_isAsSeen_31 rfl f12_96 rfl rfl lt95 (mo_36 hM3) kk) ?_
    refine Sx.up (fun _ kk => r_aload_n 35 dX12_isAsSeen_34 rfl rfl kk) ?_
    refine Sx.up (fun _ kk => r_getR 38 dX12_isAsSeen_35 rfl f12_132 rfl rfl lt95 (mo_60 hM3) kk) ?_
    refine Sx.up (fun _ kk => r_iload_n 39 dX12_isAsSeen_38 rfl rfl kk) ?_
    refine Sx.up (fun _ kk => r_ialdN (k9) (_) 40 dX12_isAsSeen_39 rfl rfl (Nat.le_of_ble_eq_true rfl) (rfl) (by omega) (Nat.le_of_ble_eq_true rfl) (u3) kk) ?_
    refine Sx.up (fun _ kk => r_ialdN (sw k9) (_) 41 dX12_isAsSeen_40 rfl rfl (Nat.le_of_ble_eq_true rfl) (rfl) (by omega) (Nat.le_of_ble_eq_true rfl) (b1) kk) ?_
    refine Sx.up (fun _ kk => r_aload_n 42 dX12_isAsSeen_41 rfl rfl kk) ?_
    refine Sx.up (fun _ kk => r_getR 45 dX12_isAsSeen_42 rfl f12_138 rfl rfl lt95 (mo_62 hM3) kk) ?_
    refine Sx.up (fun _ kk => r_iload_n 46 dX12_isAsSeen_45 rfl rfl kk) ?_
    refine Sx.up (fun _ kk => r_ialdN (k9) (_) 47 dX12_isAsSeen_46 rfl rfl (Nat.le_of_ble_eq_true rfl) (rfl) (by omega) (Nat.le_of_ble_eq_true rfl) (u5) kk) ?_
    refine Sx.br (fun _ ka kb => r_icmp_eq 50 52 dX12_isAsSeen_47 rfl (by decide) ka kb) (by first | exact em1 | exact em2) (fun h47 => ?_) (fun h47 => ?_)
    · refine Sx.up (fun _ kk => r_iinc (1) 55 dX12_isAsSeen_52 rfl rfl (by decide) (by decide) rfl kk) ?_
      refine Sx.up (fun _ kk => r_goto 2 dX12_isAsSeen_55 (by decide) kk) ?_
      rw [nI_pp]
      refine hq E3 ⟨f03, Or.inr hg.2.1, fun i hi => ?_⟩
      rcases Nat.lt_or_ge i k9 with z | z
      · exact hf i z
      · rw [show i = k9 by omega]; exact h47
    · refine Sx.up (fun _ kk => r_iconst (0) 51 dX12_isAsSeen_50 rfl (by decide) kk) ?_
      refine ⟨_, ?_, r_zret dX12_isAsSeen_51 rfl rfl (by decide) rfl⟩
      refine ⟨E3, ?_, f03⟩
      rw [b01_f (fun z => h47 (z k9 hk9))]
theorem fit_form {fi : Nat → Prop} : ∀ k, k ≤ 122 → ((fitN fi k).1 = 0 ∧ (fitN fi k).2 = -1) ∨ (¬ (fitN fi k).1 = 0 ∧ ¬ (fitN fi k).2 = -1) := by
  intro k
  induction k with
  | zero => intro _; exact Or.inl ⟨rfl, rfl⟩
  | succ k ih =>
    intro hk
    by_cases h : fi k
    · refine Or.inr ?_
      rw [fit_y h]
      refine ⟨Nat.succ_ne_zero _, ?_⟩
      show ¬ (if (fitN fi k).1 = 0 then 100 * nI (k / 61) + nI (k % 61) else (fitN fi k).2) = -1
      by_cases h0 : (fitN fi k).1 = 0
      · rw [if_pos h0]
        have : ∀ k, k < 122 → ¬ 100 * nI (k / 61) + nI (k % 61) = -1 := by decide +kernel
        exact this k (by omega)
      · rw [if_neg h0]
        exact ((ih (by omega)).resolve_left (fun z => h0 z.1)).2
    · rw [fit_n h]; exact ih (by omega)
theorem saS_no {c : Cfg} : ¬ saS c = -1 := by
  unfold saS
  by_cases h : cS c = -1
  · rw [if_pos h]; decide
  · rw [if_neg h]; exact h
set_option maxRecDepth 20000 in
theorem m_fits {d L m S : Nat} {sl : Nat → Nat → Int32} {aw : Int32} {R : List Int32} {c : Cfg} {fr : Int32} {E : HP} {w : Int32} {sw sq : Nat → Nat} {sd : Nat → Int32} (h : MD E L m sl aw R c fr) (hw : inB w 2) (hs : SeenM E L S sw sq sd) (hsa : cS c = -1 ∨ ∃ s, s < L ∧ cS c = nI s) : ∃ o, (∃ E2, o = (.inl (some (.int (if w = 0 then nI (fitN (fun j => fitV (vMk L sl aw R (cFi c j) fr) m sw sq sd S) 122).1 else (fitN (fun j => fitV (vMk L sl aw R (cFi c j) fr) m sw sq sd S) 122).2))), E2, 137) ∧ AQ E E2 0) ∧ Cl yX12_fits mX12_fits (d + 9) 0 0 [.ref 95, .int w] E 137 o := by
  obtain ⟨hM, hL, ⟨cok, csu⟩, hoc, h62, h63, h64, h65, hsy, hsl, ⟨m1, m6, hm⟩, -⟩ := id h
  have l7 : L ≤ 7 := cok.2.1
  have hM0 : MoOK (sI E 1538 95 0) := hM
  have hL0 : gA (sI E 1538 95 0) 98 0 = nI L := hL
  obtain ⟨E1, ⟨f1, hv1, hr1, s1, s2⟩, hse⟩ := m_set (d := d + 7) (md_0 (x := 0) h)
  have hM1 := mf_mo f1 hM0
  have hS0 : S = 0 ∨ 0 < L := by
    rcases Nat.eq_zero_or_pos S with z | z
    · exact Or.inl z
    · exact Or.inr (by have := (hs.2.2 0 z).1; omega)
  refine Cx.of (by decide) rfl (fun q => by cases q) rfl rfl (Nat.le_of_ble_eq_true rfl) ?_
  show Sx _ _ _ _ _ 0 [some (.ref 95), some (.int (w)), none, none, none, none] [] _ _
  have loop2 : ∀ f, f < 2 → (∀ E2, (MF gsR asQ (sI E 1538 95 0) E2 ∧ gI E2 1581 95 = nI L ∧ (∀ i, i < L → gA E2 113 i = cO c i) ∧ (∀ i, i < L → gA E2 114 i = cU c i) ∧ gI E2 1584 95 = cB c ∧ gI E2 1589 95 = fr) → Sx mX12_fits (d + 9) 0 0 (fun o => ∃ E2, o = (.inl (some (.int (if w = 0 then nI (fitN (fun j => fitV (vMk L sl aw R (cFi c j) fr) m sw sq sd S) 122).1 else (fitN (fun j => fitV (vMk L sl aw R (cFi c j) fr) m sw sq sd S) 122).2))), E2, 137) ∧ AQ E E2 0) 128 [some (.ref 95), some (.int w), some (.int (nI (fitN (fun j => fitV (vMk L sl aw R (cFi c j) fr) m sw sq sd S) (61 * f + 61)).1)), some (.int (fitN (fun j => fitV (vMk L sl aw R (cFi c j) fr) m sw sq sd S) (61 * f + 61)).2), some (.int (nI f)), some (.int (nI 61))] [] E2 137) → ∀ E2, (MF gsR asQ (sI E 1538 95 0) E2 ∧ gI E2 1581 95 = nI L ∧ (∀ i, i < L → gA E2 113 i = cO c i) ∧ (∀ i, i < L → gA E2 114 i = cU c i) ∧ gI E2 1584 95 = cB c ∧ gI E2 1589 95 = fr) → Sx mX12_fits (d + 9) 0 0 (fun o => ∃ E2, o = (.inl (some (.int (if w = 0 then nI (fitN (fun j => fitV (vMk L sl aw R (cFi c j) fr) m sw sq sd S) 122).1 else (fitN (fun j => fitV (vMk L sl aw R (cFi c j) fr) m sw sq sd S) 122).2))), E2, 137) ∧ AQ E E2 0) 40 [some (.ref 95), some (.int w), some (.int (nI (fitN (fun j => fitV (vMk L sl aw R (cFi c j) fr) m sw sq sd S) (61 * f + 0)).1)), some (.int (fitN (fun j => fitV (vMk L sl aw R (cFi c j) fr) m sw sq sd S) (61 * f + 0)).2), some (.int (nI f)), some (.int (nI 0))] [] E2 137 := by
    intro f hf2 hout
    refine sxUp (S := fun k9 E2 => Sx mX12_fits (d + 9) 0 0 (fun o => ∃ E2, o = (.inl (some (.int (if w = 0 then nI (fitN (fun j => fitV (vMk L sl aw R (cFi c j) fr) m sw sq sd S) 122).1 else (fitN (fun j => fitV (vMk L sl aw R (cFi c j) fr) m sw sq sd S) 122).2))), E2, 137) ∧ AQ E E2 0) 40 [some (.ref 95), some (.int w), some (.int (nI (fitN (fun j => fitV (vMk L sl aw R (cFi c j) fr) m sw sq sd S) (61 * f + k9)).1)), some (.int (fitN (fun j => fitV (vMk L sl aw R (cFi c j) fr) m sw sq sd S) (61 * f + k9)).2), some (.int (nI f)), some (.int (nI k9))] [] E2 137) (Inv := fun k9 E2 => MF gsR asQ (sI E 1538 95 0) E2 ∧ gI E2 1581 95 = nI L ∧ (∀ i, i < L → gA E2 113 i = cO c i) ∧ (∀ i, i < L → gA E2 114 i = cU c i) ∧ gI E2 1584 95 = cB c ∧ gI E2 1589 95 = fr) (a := 0) (l := 61) (by omega) ?_ ?_
    · intro E2 hinv
      refine Sx.up (fun _ kk => r_iload 42 dX12_fits_40 rfl rfl kk) ?_
      refine Sx.up (fun _ kk => r_bipush (60) 44 dX12_fits_42 rfl (by decide) kk) ?_
      refine Sx.up (fun _ kk => r_icmp_gt 47 128 dX12_fits_44 rfl (by decide) (fun _ => kk) (fun h44 => absurd (nI_lt (a := 60) (by omega) (by omega)) h44)) ?_
      exact hout E2 hinv
    · intro k9 E2 hk0 hk9 ⟨f2, j1, j2, j3, j4, j5⟩ hq
      have hM2 := mf_mo f2 hM0
      obtain ⟨hd1, hd2⟩ := fit_ix f hf2 k9 hk9
      have w63 : gI E2 1563 95 = cS c := (mf_gI f2 (by decide)).trans h63
      have set : ∀ wv, wv = (if k9 = 0 ∨ L = 0 then -1 else saS c) → Sx mX12_fits (d + 9) 0 0 (fun o => ∃ E2, o = (.inl (some (.int (if w = 0 then nI (fitN (fun j => fitV (vMk L sl aw R (cFi c j) fr) m sw sq sd S) 122).1 else (fitN (fun j => fitV (vMk L sl aw R (cFi c j) fr) m sw sq sd S) 122).2))), E2, 137) ∧ AQ E E2 0) 80 [some (.ref 95), some (.int w), some (.int (nI (fitN (fun j => fitV (vMk L sl aw R (cFi c j) fr) m sw sq sd S) (61 * f + k9)).1)), some (.int (fitN (fun j => fitV (vMk L sl aw R (cFi c j) fr) m sw sq sd S) (61 * f + k9)).2), some (.int (nI f)), some (.int (nI k9))] [.int wv, .ref 95] E2 137 := by
        intro wv hwv
        have f3 : MF gsR asQ (sI E 1538 95 0) (sI (sI E2 1582 95 wv) 1583 95 (nI k9)) := mf_sI (by decide) (mf_sI (by decide) f2)
        have hM3 : MoOK (sI E2 1582 95 wv) := hM2
        have hM4 := mf_mo f3 hM0
        have i3 : ∀ g, g ≠ 1582 → g ≠ 1583 → gI (sI (sI E2 1582 95 wv) 1583 95 (nI k9)) g 95 = gI E2 g 95 := fun g h1 h2 => by rw [gI_sI, if_neg (fun z => h2 z.1), gI_sI, if_neg (fun z => h1 z.1)]
        have w2 : gI (sI (sI E2 1582 95 wv) 1583 95 (nI k9)) 1582 95 = wv := by rw [gI_sI, if_neg (by decide), gI_sI, if_pos ⟨rfl, rfl⟩]
        have w3 : gI (sI (sI E2 1582 95 wv) 1583 95 (nI k9)) 1583 95 = nI k9 := by rw [gI_sI, if_pos ⟨rfl, rfl⟩]
        have hv4 : S = 0 ∨ (MVis (sI (sI E2 1582 95 wv) 1583 95 (nI k9)) (vMk L sl aw R (cFi c (61 * f + k9)) fr) L ∧ cful L (cFi c (61 * f + k9))) := by
          refine hS0.imp id (fun h0 => ?_)
          have hfu := ful_fit (j := 61 * f + k9) ⟨cok, csu⟩ (by omega) h0 hsa
          have eE : cE (cFi c (61 * f + k9)) = nI k9 := by show nI ((61 * f + k9) % 61) = _; rw [hd2]
          have eS : cS (cFi c (61 * f + k9)) = (if nI k9 = 0 then -1 else saS c) := by show (if nI ((61 * f + k9) % 61) = 0 then -1 else saS c) = _; rw [hd2]
          refine ⟨m_vis h (mf_mono f3 (by decide) (by decide)) ((i3 _ (by decide) (by decide)).trans j1) hfu.1 j2 j3 (fun z => ?_) (fun z1 z2 => ?_) ((i3 _ (by decide) (by decide)).trans j4) ((i3 _ (by decide) (by decide)).trans j5), hfu⟩
          · rw [w2, w3] at z
            rw [eE]
            rcases z with z | z
            · rw [hwv] at z
              by_cases h9 : k9 = 0 ∨ L = 0
              · rw [show k9 = 0 by omega]; decide
              · rw [if_neg h9] at z; exact absurd z saS_no
            · exact z
          · rw [w2] at z1
            rw [w3] at z2 ⊢
            rw [w2, eE, eS]
            have hk : ¬ k9 = 0 := fun y => by rw [y] at z2; exact absurd z2 (by decide)
            have hkn : ¬ nI k9 = 0 := nI_ne0 (by omega) (by omega)
            rw [if_neg hkn, hwv, if_neg (by omega)]
            exact ⟨rfl, rfl⟩
        have hm4 : gA (sI (sI E2 1582 95 wv) 1583 95 (nI k9)) 98 3 = nI m := by rw [mf_gA0 f3 (by decide)]; exact hm
        obtain ⟨_, ⟨E5, rfl, f5⟩, hfi⟩ := m_seen (d := d + 2) (x := nI f) hM4 hm4 m6 l7 (seen_mf f3 (by decide) (by decide) (by decide) (by decide) (seen_mf (mf_sI (gs := [1538]) (as := []) (by decide) mf_rfl) (by decide) (by decide) (by decide) (by decide) hs)) hv4 (by show nI f = nI ((61 * f + k9) / 61); rw [hd1])
        have i5 : ∀ g, g ∉ gsG → g ≠ 1582 → g ≠ 1583 → gI E5 g 95 = gI E2 g 95 := fun g h0 h1 h2 => (mf_gI f5 h0).trans (i3 g h1 h2)
        have hgo := hq E5 ⟨mf_tr f3 (mf_mono f5 (by decide) (by decide)), (i5 _ (by decide) (by decide) (by decide)).trans j1, fun i hi => by rw [mf_gA f5 (by decide)]; exact j2 i hi, fun i hi => by rw [mf_gA f5 (by decide)]; exact j3 i hi, (i5 _ (by decide) (by decide) (by decide)).trans j4, (i5 _ (by decide) (by decide) (by decide)).trans j5⟩
        have hform := fit_form (fi := (fun j => fitV (vMk L sl aw R (cFi c j) fr) m sw sq sd S)) (61 * f + k9) (by omega)
        refine Sx.up (fun _ kk => r_putI 83 dX12_fits_80 rfl f12_344 rfl lt95 kk) ?_
        refine Sx.up (fun _ kk => r_aload_n 84 dX12_fits_83 rfl rfl kk) ?_
        refine Sx.up (fun _ kk => r_iload 86 dX12_fits_84 rfl rfl kk) ?_
        refine Sx.up (fun _ kk => r_putI 89 dX12_fits_86 rfl f12_347 rfl lt95 kk) ?_
        refine Sx.up (fun _ kk => r_aload_n 90 dX12_fits_89 rfl rfl kk) ?_
        refine Sx.up (fun _ kk => r_iload 92 dX12_fits_90 rfl rfl kk) ?_
        refine Sx.up (fun _ kk => r_callV (M := mX12_fits) (pc := 92) 95 dX12_fits_92 rfl k12_485 hfi rfl rfl rfl (by decide) rfl lt95 (Nat.le_of_ble_eq_true rfl) kk) ?_
        refine Sx.br (fun _ ka kb => r_if_ne 98 101 dX12_fits_95 rfl (by decide) ka kb) (by first | exact em1 | exact em2) (fun h95 => ?_) (fun h95 => ?_)
        · refine Sx.up (fun _ kk => r_iinc (1) 104 dX12_fits_101 rfl rfl (by decide) (by decide) rfl kk) ?_
          refine Sx.up (fun _ kk => r_iload_n 105 dX12_fits_104 rfl rfl kk) ?_
          refine Sx.up (fun _ kk => r_iconst (-1) 106 dX12_fits_105 rfl (by decide) kk) ?_
          refine Sx.br (fun _ ka kb => r_icmp_ne 109 120 dX12_fits_106 rfl (by decide) ka kb) (by first | exact em1 | exact em2) (fun h106 => ?_) (fun h106 => ?_)
          · refine Sx.up (fun _ kk => r_iload_n 121 dX12_fits_120 rfl rfl kk) ?_
            refine Sx.up (fun _ kk => r_istore_n 122 dX12_fits_121 rfl (by decide) rfl kk) ?_
            refine Sx.up (fun _ kk => r_iinc (1) 125 dX12_fits_122 rfl rfl (by decide) (by decide) rfl kk) ?_
            refine Sx.up (fun _ kk => r_goto 40 dX12_fits_125 (by decide) kk) ?_
            have hyes : ((fun j => fitV (vMk L sl aw R (cFi c j) fr) m sw sq sd S) (61 * f + k9)) := by
              apply Classical.byContradiction
              intro z
              exact h95 (b01_f z)
            rw [show 61 * f + (k9 + 1) = 61 * f + k9 + 1 from rfl, fit_y (fi := (fun j => fitV (vMk L sl aw R (cFi c j) fr) m sw sq sd S)) (k := 61 * f + k9) hyes, ← nI_pp k9] at hgo
            dsimp only at hgo
            rw [← nI_pp (fitN (fun j => fitV (vMk L sl aw R (cFi c j) fr) m sw sq sd S) (61 * f + k9)).1] at hgo
            rw [if_neg (fun z => h106 ((hform.resolve_right (fun y => y.1 z)).2))] at hgo
            exact Sx.less (by exact ⟨rfl, rfl, rfl, rfl, rfl, rfl, trivial⟩) hgo
          · refine Sx.up (fun _ kk => r_bipush (100) 111 dX12_fits_109 rfl (by decide) kk) ?_
            refine Sx.up (fun _ kk => r_iload 113 dX12_fits_111 rfl rfl kk) ?_
            refine Sx.up (fun _ kk => r_imul 114 dX12_fits_113 rfl kk) ?_
            refine Sx.up (fun _ kk => r_iload 116 dX12_fits_114 rfl rfl kk) ?_
            refine Sx.up (fun _ kk => r_iadd 117 dX12_fits_116 rfl kk) ?_
            refine Sx.up (fun _ kk => r_goto 121 dX12_fits_117 (by decide) kk) ?_
            refine Sx.up (fun _ kk => r_istore_n 122 dX12_fits_121 rfl (by decide) rfl kk) ?_
            refine Sx.up (fun _ kk => r_iinc (1) 125 dX12_fits_122 rfl rfl (by decide) (by decide) rfl kk) ?_
            refine Sx.up (fun _ kk => r_goto 40 dX12_fits_125 (by decide) kk) ?_
            have hyes : ((fun j => fitV (vMk L sl aw R (cFi c j) fr) m sw sq sd S) (61 * f + k9)) := by
              apply Classical.byContradiction
              intro z
              exact h95 (b01_f z)
            rw [show 61 * f + (k9 + 1) = 61 * f + k9 + 1 from rfl, fit_y (fi := (fun j => fitV (vMk L sl aw R (cFi c j) fr) m sw sq sd S)) (k := 61 * f + k9) hyes, ← nI_pp k9] at hgo
            dsimp only at hgo
            rw [← nI_pp (fitN (fun j => fitV (vMk L sl aw R (cFi c j) fr) m sw sq sd S) (61 * f + k9)).1] at hgo
            rw [if_pos ((hform.resolve_right (fun y => y.2 h106)).1), hd1, hd2] at hgo
            exact Sx.less (by exact ⟨rfl, rfl, rfl, rfl, rfl, rfl, trivial⟩) hgo
        · refine Sx.up (fun _ kk => r_goto 122 dX12_fits_98 (by decide) kk) ?_
          refine Sx.up (fun _ kk => r_iinc (1) 125 dX12_fits_122 rfl rfl (by decide) (by decide) rfl kk) ?_
          refine Sx.up (fun _ kk => r_goto 40 dX12_fits_125 (by decide) kk) ?_
          have hno : ¬ ((fun j => fitV (vMk L sl aw R (cFi c j) fr) m sw sq sd S) (61 * f + k9)) := fun z => by
            rw [show b01 (fitV _ m sw sq sd S) = b01 ((fun j => fitV (vMk L sl aw R (cFi c j) fr) m sw sq sd S) (61 * f + k9)) from rfl, b01_t z] at h95
            exact absurd h95 (by decide)
          rw [show 61 * f + (k9 + 1) = 61 * f + k9 + 1 from rfl, fit_n (fi := (fun j => fitV (vMk L sl aw R (cFi c j) fr) m sw sq sd S)) (k := 61 * f + k9) hno, ← nI_pp k9] at hgo
          exact Sx.less (by exact ⟨rfl, rfl, rfl, rfl, rfl, rfl, trivial⟩) hgo
      refine Sx.up (fun _ kk => r_iload 42 dX12_fits_40 rfl rfl kk) ?_
      refine Sx.up (fun _ kk => r_bipush (60) 44 dX12_fits_42 rfl (by decide) kk) ?_
      refine Sx.up (fun _ kk => r_icmp_gt 47 128 dX12_fits_44 rfl (by decide) (fun h44 => absurd h44 (nI_nlt (a := 60) (by omega) (by omega))) (fun _ => kk)) ?_
      refine Sx.up (fun _ kk => r_aload_n 48 dX12_fits_47 rfl rfl kk) ?_
      refine Sx.up (fun _ kk => r_iload 50 dX12_fits_48 rfl rfl kk) ?_
      refine Sx.br (fun _ ka kb => r_if_eq 53 60 dX12_fits_50 rfl (by decide) ka kb) (by first | exact em1 | exact em2) (fun h50 => ?_) (fun h50 => ?_)
      · refine Sx.up (fun _ kk => r_iconst (-1) 61 dX12_fits_60 rfl (by decide) kk) ?_
        refine Sx.up (fun _ kk => r_goto 80 dX12_fits_61 (by decide) kk) ?_
        exact set _ (by rw [if_pos (Or.inl (by have := (nI_eq (by omega) (by omega)).mp (show nI k9 = nI 0 from h50); omega))])
      · refine Sx.up (fun _ kk => r_aload_n 54 dX12_fits_53 rfl rfl kk) ?_
        refine Sx.up (fun _ kk => r_getIV (nI L) 57 dX12_fits_54 rfl f12_341 rfl rfl lt95 (j1) kk) ?_
        refine Sx.br (fun _ ka kb => r_if_ne 60 64 dX12_fits_57 rfl (by decide) ka kb) (by first | exact em1 | exact em2) (fun h57 => ?_) (fun h57 => ?_)
        · refine Sx.up (fun _ kk => r_aload_n 65 dX12_fits_64 rfl rfl kk) ?_
          refine Sx.up (fun _ kk => r_getIV (cS c) 68 dX12_fits_65 rfl f12_81 rfl rfl lt95 (w63) kk) ?_
          refine Sx.up (fun _ kk => r_iconst (-1) 69 dX12_fits_68 rfl (by decide) kk) ?_
          refine Sx.br (fun _ ka kb => r_icmp_ne 72 76 dX12_fits_69 rfl (by decide) ka kb) (by first | exact em1 | exact em2) (fun h69 => ?_) (fun h69 => ?_)
          · refine Sx.up (fun _ kk => r_aload_n 77 dX12_fits_76 rfl rfl kk) ?_
            refine Sx.up (fun _ kk => r_getIV (cS c) 80 dX12_fits_77 rfl f12_81 rfl rfl lt95 (w63) kk) ?_
            have hk : ¬ k9 = 0 := fun z => h50 (by rw [z]; rfl)
            have hL0 : ¬ L = 0 := fun z => h57 (by rw [z]; rfl)
            exact set _ (by rw [if_neg (by omega)]; unfold saS; first | rw [if_neg h69] | rw [if_pos h69])
          · refine Sx.up (fun _ kk => r_iconst (0) 73 dX12_fits_72 rfl (by decide) kk) ?_
            refine Sx.up (fun _ kk => r_goto 80 dX12_fits_73 (by decide) kk) ?_
            have hk : ¬ k9 = 0 := fun z => h50 (by rw [z]; rfl)
            have hL0 : ¬ L = 0 := fun z => h57 (by rw [z]; rfl)
            exact set _ (by rw [if_neg (by omega)]; unfold saS; first | rw [if_neg h69] | rw [if_pos h69])
        · refine Sx.up (fun _ kk => r_iconst (-1) 61 dX12_fits_60 rfl (by decide) kk) ?_
          refine Sx.up (fun _ kk => r_goto 80 dX12_fits_61 (by decide) kk) ?_
          have hL0 : L = 0 := (nI_eq (by omega) (by omega)).mp (show nI L = nI 0 from h57)
          exact set _ (by rw [if_pos (Or.inr hL0)])
  have loop1 := sxUp (S := fun f E2 => Sx mX12_fits (d + 9) 0 0 (fun o => ∃ E2, o = (.inl (some (.int (if w = 0 then nI (fitN (fun j => fitV (vMk L sl aw R (cFi c j) fr) m sw sq sd S) 122).1 else (fitN (fun j => fitV (vMk L sl aw R (cFi c j) fr) m sw sq sd S) 122).2))), E2, 137) ∧ AQ E E2 0) 31 [some (.ref 95), some (.int w), some (.int (nI (fitN (fun j => fitV (vMk L sl aw R (cFi c j) fr) m sw sq sd S) (61 * f)).1)), some (.int (fitN (fun j => fitV (vMk L sl aw R (cFi c j) fr) m sw sq sd S) (61 * f)).2), some (.int (nI f)), none] [] E2 137) (Inv := fun f E2 => MF gsR asQ (sI E 1538 95 0) E2 ∧ gI E2 1581 95 = nI L ∧ (∀ i, i < L → gA E2 113 i = cO c i) ∧ (∀ i, i < L → gA E2 114 i = cU c i) ∧ gI E2 1584 95 = cB c ∧ gI E2 1589 95 = fr) (a := 0) (l := 2) (by omega) ?_ ?_ E1 ⟨mf_mono f1 (by decide) (by decide), hv1.1, fun i hi => (hr1 i hi).1, fun i hi => (hr1 i hi).2, hv1.2.2.2.2.2.2.2.2.1, hv1.2.2.2.2.2.2.2.2.2.1⟩
  refine Sx.up (fun _ kk => r_aload_n 1 dX12_fits_0 rfl rfl kk) ?_
  refine Sx.up (fun _ kk => r_iconst (0) 2 dX12_fits_1 rfl (by decide) kk) ?_
  refine Sx.up (fun _ kk => r_putI 5 dX12_fits_2 rfl f12_159 rfl lt95 kk) ?_
  refine Sx.up (fun _ kk => r_iload_n 6 dX12_fits_5 rfl rfl kk) ?_
  refine Sx.up (fun _ kk => r_if_lt 9 14 dX12_fits_6 rfl (by decide) (fun h6 => absurd h6 hw.1) (fun _ => kk)) ?_
  refine Sx.up (fun _ kk => r_iload_n 10 dX12_fits_9 rfl rfl kk) ?_
  refine Sx.up (fun _ kk => r_iconst (1) 11 dX12_fits_10 rfl (by decide) kk) ?_
  refine Sx.up (fun _ kk => r_icmp_le 14 20 dX12_fits_11 rfl (by decide) (fun _ => kk) (fun h11 => absurd (le_of_in2 hw) h11)) ?_
  refine Sx.up (fun _ kk => r_aload_n 21 dX12_fits_20 rfl rfl kk) ?_
  refine Sx.up (fun _ kk => r_callV (M := mX12_fits) (pc := 21) 24 dX12_fits_21 rfl k12_413 hse rfl rfl rfl (by decide) rfl lt95 (Nat.le_of_ble_eq_true rfl) kk) ?_
  refine Sx.up (fun _ kk => r_iconst (0) 25 dX12_fits_24 rfl (by decide) kk) ?_
  refine Sx.up (fun _ kk => r_istore_n 26 dX12_fits_25 rfl (by decide) rfl kk) ?_
  refine Sx.up (fun _ kk => r_iconst (-1) 27 dX12_fits_26 rfl (by decide) kk) ?_
  refine Sx.up (fun _ kk => r_istore_n 28 dX12_fits_27 rfl (by decide) rfl kk) ?_
  refine Sx.up (fun _ kk => r_iconst (0) 29 dX12_fits_28 rfl (by decide) kk) ?_
  refine Sx.up (fun _ kk => r_istore 31 dX12_fits_29 rfl (by decide) rfl kk) ?_
  exact loop1
  · intro E2 ⟨f2, j1, j2, j3, j4, j5⟩
    have hq9 : AQ E E2 0 := mq_of f2 (by decide) (by decide) (by decide)
    refine Sx.up (fun _ kk => r_iload 33 dX12_fits_31 rfl rfl kk) ?_
    refine Sx.up (fun _ kk => r_iconst (2) 34 dX12_fits_33 rfl (by decide) kk) ?_
    refine Sx.up (fun _ kk => r_icmp_ge 37 134 dX12_fits_34 rfl (by decide) (fun _ => kk) (fun h34 => absurd (by decide) h34)) ?_
    refine Sx.up (fun _ kk => r_iload_n 135 dX12_fits_134 rfl rfl kk) ?_
    refine Sx.br (fun _ ka kb => r_if_ne 138 142 dX12_fits_135 rfl (by decide) ka kb) (by first | exact em1 | exact em2) (fun h135 => ?_) (fun h135 => ?_)
    · refine Sx.up (fun _ kk => r_iload_n 143 dX12_fits_142 rfl rfl kk) ?_
      refine ⟨_, ?_, r_iret dX12_fits_143 rfl rfl rfl⟩
      refine ⟨E2, ?_, hq9⟩
      first | rw [if_pos h135] | rw [if_neg h135]
    · refine Sx.up (fun _ kk => r_iload_n 139 dX12_fits_138 rfl rfl kk) ?_
      refine Sx.up (fun _ kk => r_goto 143 dX12_fits_139 (by decide) kk) ?_
      refine ⟨_, ?_, r_iret dX12_fits_143 rfl rfl rfl⟩
      refine ⟨E2, ?_, hq9⟩
      first | rw [if_pos h135] | rw [if_neg h135]
  · intro f E2 hk0 hf2 hinv hq
    refine Sx.up (fun _ kk => r_iload 33 dX12_fits_31 rfl rfl kk) ?_
    refine Sx.up (fun _ kk => r_iconst (2) 34 dX12_fits_33 rfl (by decide) kk) ?_
    refine Sx.up (fun _ kk => r_icmp_ge 37 134 dX12_fits_34 rfl (by decide) (fun h34 => absurd h34 (nI_ge (b := 2) hf2 (by omega))) (fun _ => kk)) ?_
    refine Sx.up (fun _ kk => r_iconst (0) 38 dX12_fits_37 rfl (by decide) kk) ?_
    refine Sx.up (fun _ kk => r_istore 40 dX12_fits_38 rfl (by decide) rfl kk) ?_
    refine Sx.less (ls := [some (.ref 95), some (.int w), some (.int (nI (fitN (fun j => fitV (vMk L sl aw R (cFi c j) fr) m sw sq sd S) (61 * f + 0)).1)), some (.int (fitN (fun j => fitV (vMk L sl aw R (cFi c j) fr) m sw sq sd S) (61 * f + 0)).2), some (.int (nI f)), some (.int (nI 0))]) ⟨rfl, rfl, rfl, rfl, rfl, rfl, trivial⟩ (loop2 f hf2 ?_ _ hinv)
    intro E3 hinv3
    refine Sx.up (fun _ kk => r_iinc (1) 131 dX12_fits_128 rfl rfl (by decide) (by decide) rfl kk) ?_
    refine Sx.up (fun _ kk => r_goto 31 dX12_fits_131 (by decide) kk) ?_
    rw [nI_pp]
    have hgo := hq E3 hinv3
    rw [show 61 * (f + 1) = 61 * f + 61 by omega] at hgo
    exact Sx.less (by exact ⟨rfl, rfl, rfl, rfl, rfl, trivial⟩) hgo
set_option maxRecDepth 20000 in
theorem m_fitsX {d L m : Nat} {sl : Nat → Nat → Int32} {aw : Int32} {R : List Int32} {c : Cfg} {fr : Int32} {E : HP} {w : Int32} (h : MD E L m sl aw R c fr) (hw : ¬ inB w 2) : ∃ E2, AQ E E2 1 ∧ Cl yX12_fits mX12_fits (d + 9) 0 0 [.ref 95, .int (w)] E 137 (.inl (some (.int 0)), E2, 137) := by
  obtain ⟨hM, hL, ⟨cok, csu⟩, hoc, h62, h63, h64, h65, hsy, hsl, ⟨m1, m6, hm⟩, -⟩ := id h
  have l7 : L ≤ 7 := cok.2.1
  have hM0 : MoOK (sI E 1538 95 0) := hM
  have hL0 : gA (sI E 1538 95 0) 98 0 = nI L := hL
  refine ⟨_, mq_fail (x := 0), ?_⟩
  refine Cl.of (by decide) rfl (fun q => by cases q) rfl rfl (Nat.le_of_ble_eq_true rfl) ?_
  show Sm _ _ _ _ _ 0 [some (.ref 95), some (.int (w)), none, none, none, none] [] _ _
  refine r_aload_n 1 dX12_fits_0 rfl rfl ?_
  refine r_iconst (0) 2 dX12_fits_1 rfl (by decide) ?_
  refine r_putI 5 dX12_fits_2 rfl f12_159 rfl lt95 ?_
  refine r_iload_n 6 dX12_fits_5 rfl rfl ?_
  refine r_if_lt 9 14 dX12_fits_6 rfl (by decide) (fun h6 => ?_) (fun h6 => ?_)
  · refine r_aload_n 15 dX12_fits_14 rfl rfl ?_
    refine r_iconst (1) 16 dX12_fits_15 rfl (by decide) ?_
    refine r_callV (M := mX12_fits) (pc := 16) 19 dX12_fits_16 rfl k12_302 c_fail rfl rfl rfl (by decide) rfl lt95 (Nat.le_of_ble_eq_true rfl) ?_
    exact r_iret dX12_fits_19 rfl rfl (rfl)
  · refine r_iload_n 10 dX12_fits_9 rfl rfl ?_
    refine r_iconst (1) 11 dX12_fits_10 rfl (by decide) ?_
    refine r_icmp_le 14 20 dX12_fits_11 rfl (by decide) (fun h11 => ?_) (fun h11 => ?_)
    · exact absurd (in2_of h6 h11) hw
    · refine r_aload_n 15 dX12_fits_14 rfl rfl ?_
      refine r_iconst (1) 16 dX12_fits_15 rfl (by decide) ?_
      refine r_callV (M := mX12_fits) (pc := 16) 19 dX12_fits_16 rfl k12_302 c_fail rfl rfl rfl (by decide) rfl lt95 (Nat.le_of_ble_eq_true rfl) ?_
      exact r_iret dX12_fits_19 rfl rfl (rfl)
