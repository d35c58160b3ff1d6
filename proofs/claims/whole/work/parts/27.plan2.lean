/-! Plan.settle, moveToEdge, leaveOut, drawOuts; State -/
/-- the references are as they were -/
def SR (E E2 : HP) : Prop := E2.2.1 = E.2.1 ∧ E2.2.2.2.1 = E.2.2.2.1
theorem sr_rfl {E : HP} : SR E E := ⟨rfl, rfl⟩
theorem sr_tr {E E2 E3 : HP} (h : SR E E2) (h2 : SR E2 E3) : SR E E3 := ⟨h2.1.trans h.1, h2.2.trans h.2⟩
theorem sr_sI {E E2 : HP} {g k : Nat} {v : Int32} (h : SR E E2) : SR E (sI E2 g k v) := h
theorem sr_sA {E E2 : HP} {g k : Nat} {v : Int32} (h : SR E E2) : SR E (sA E2 g k v) := h
theorem sr_put {E E2 : HP} {g m : Nat} {i v : Int32} (h : SR E E2) : SR E (rPut E2 g m i v) := by
  unfold rPut
  split
  · exact h
  · split
    · exact h
    · exact h
theorem sr_it {E E2 : HP} {f : Nat → HP → HP} (hf : ∀ i E3, SR E3 (f i E3)) (h : SR E E2) (k : Nat) : SR E (itF f k E2) := itF_keep (P := fun E3 => SR E E3) (fun i E3 q => sr_tr q (hf i E3)) k h
theorem sr_fill {E E2 : HP} {g k : Nat} {v : Int32} (h : SR E E2) : SR E (rFill g v k E2) := sr_it (fun _ _ => sr_sA sr_rfl) h k
theorem sr_up {E E2 : HP} {g k : Nat} (h : SR E E2) : SR E (rUp g k E2) := sr_it (fun _ _ => sr_sA sr_rfl) h k
theorem sr_copy {E E2 : HP} {g g2 l2 k : Nat} (h : SR E E2) : SR E (rCopy g g2 l2 k E2) := sr_it (fun _ _ => sr_sA sr_rfl) h k
theorem sr_gR {E E2 : HP} {g k r : Nat} (h : SR E E2) (h2 : gR E g k = some r) : gR E2 g k = some r := by
  unfold gR at *
  rw [h.1]; exact h2
theorem sr_gQ {E E2 : HP} {a i r : Nat} (h : SR E E2) (h2 : gQ E a i = some r) : gQ E2 a i = some r := by
  unfold gQ at *
  rw [h.2]; exact h2
theorem sr_row {E E2 : HP} {n h l : Nat} (q : SR E E2) (o : RowOK E n h l) : RowOK E2 n h l := ⟨o.1, sr_gR q o.2.1, o.2.2.1, o.2.2.2.1, o.2.2.2.2.1, o.2.2.2.2.2⟩
theorem sr_pile {E E2 : HP} {n h l : Nat} (q : SR E E2) (o : PileOK E n h l) : PileOK E2 n h l := ⟨o.1, sr_gR q o.2.1, sr_row q o.2.2.1, o.2.2.2⟩
theorem sr_rule {E E2 : HP} {n h : Nat} (q : SR E E2) (o : RuleOK E n h) : RuleOK E2 n h := ⟨o.1, sr_gR q o.2.1, sr_gR q o.2.2.1, sr_gR q o.2.2.2.1, sr_row q o.2.2.2.2.1, sr_row q o.2.2.2.2.2.1, sr_row q o.2.2.2.2.2.2.1, o.2.2.2.2.2.2.2⟩
theorem sr_plan {E E2 : HP} {n h : Nat} (q : SR E E2) (o : PlanOK E n h) : PlanOK E2 n h := ⟨o.1, sr_gR q o.2.1, sr_gR q o.2.2.1, sr_row q o.2.2.2.1, sr_row q o.2.2.2.2.1, o.2.2.2.2.2⟩
theorem sr_bed {E E2 : HP} {n h : Nat} (q : SR E E2) (o : BedOK E n h) : BedOK E2 n h := ⟨o.1, sr_gR q o.2.1, sr_gR q o.2.2.1, sr_gR q o.2.2.2.1, sr_gR q o.2.2.2.2.1, o.2.2.2.2.2.1, o.2.2.2.2.2.2.1, fun i hi => ⟨sr_gQ q (o.2.2.2.2.2.2.2.1 i hi).1, (o.2.2.2.2.2.2.2.1 i hi).2⟩, sr_row q o.2.2.2.2.2.2.2.2.1, sr_rule q o.2.2.2.2.2.2.2.2.2.1, o.2.2.2.2.2.2.2.2.2.2⟩
def rExch (h l : Nat) (i j : Int32) (E : HP) : HP := rPut (rPut E h l i (rAt E h l j)) h l j (rAt E h l i)
theorem sr_exch {E E2 : HP} {h l : Nat} {i j : Int32} (q : SR E E2) : SR E (rExch h l i j E2) := sr_put (sr_put q)
theorem gI_exch {E : HP} {h l g k : Nat} {i j : Int32} : gI (rExch h l i j E) g k = gI E g k := by unfold rExch; rw [gI_rPut, gI_rPut]
def plOuts (p b : Nat) : Nat → HP → HP := itF fun k E => rPut E (p + 3) 7 (nI k) (gI E 1029 (whoId b (nI k)))
theorem gI_outs {E : HP} {p b k g j : Nat} : gI (plOuts p b k E) g j = gI E g j := gI_itF (f := fun k E => rPut E (p + 3) 7 (nI k) (gI E 1029 (whoId b (nI k)))) (fun _ _ => gI_rPut) k E
theorem sr_outs {E E2 : HP} {p b k : Nat} (h : SR E E2) : SR E (plOuts p b k E2) := sr_it (fun _ _ => sr_put sr_rfl) h k
def plSet1 (p b l : Nat) (E : HP) : HP := sI (sI (plOuts p b l (rUp (p + 1) 7 E)) 514 p (gI (plOuts p b l (rUp (p + 1) 7 E)) 4 b)) 515 p 0
def plSet2 (p b l : Nat) (E : HP) : HP := sI (plSay (plSet1 p b l E) p (-1) 0) 518 p (gI (plSay (plSet1 p b l E) p (-1) 0) 9 b)
noncomputable def plSettle (p b l : Nat) (E : HP) : HP := sI (plSet2 p b l E) 519 p (freeV (plSet2 p b l E) b (-1) l)
theorem sr_say {E E2 : HP} {p : Nat} {s e : Int32} (h : SR E E2) : SR E (plSay E2 p s e) := h
theorem sr_set1 {E : HP} {p b l : Nat} : SR E (plSet1 p b l E) := sr_sI (sr_sI (sr_outs (sr_up sr_rfl)))
theorem sr_set2 {E : HP} {p b l : Nat} : SR E (plSet2 p b l E) := sr_sI (sr_say sr_set1)
theorem gI_set2 {E : HP} {p b l : Nat} : gI (plSet2 p b l E) 4 b = gI E 4 b := by
  simp [plSet2, plSay, plSet1, gI_sI, gI_outs, gI_rUp]
set_option maxRecDepth 20000 in
theorem c_X4_settle {d n p b l : Nat} {E : HP} (okp : PlanOK E n p) (ok : BedOK E n b) (hl : gI E 4 b = nI l) (hl7 : l ≤ 7) : Cl yX4_settle mX4_settle (d + 2) 0 0 [.ref p, .ref b] E n (.inl none, plSettle p b l E, n) := by
  obtain ⟨p1, p2, p3, p4, p5, p6⟩ := id okp
  refine Cl.of (by decide) rfl (fun q => by cases q) rfl rfl (Nat.le_of_ble_eq_true rfl) ?_
  show Sm _ _ _ _ _ 0 [some (.ref p), some (.ref b), none] [] _ _
  have loop := loopUpFrom (P := fun k9 => Sm mX4_settle (d + 2) 0 0 (.inl none, plSettle p b l E, n) 9 [some (.ref p), some (.ref b), some (.int (nI k9))] [] (plOuts p b k9 (rUp (p + 1) 7 E)) n) (a := 0) (l := l) (by omega) ?_ ?_
  refine r_aload_n 1 dX4_settle_0 rfl rfl ?_
  refine r_getR 4 dX4_settle_1 rfl f4_14 rfl (by first | with_reducible assumption | with_reducible exact ro_1 p4 | with_reducible exact ro_6 p4 | with_reducible exact ro_1 p5 | with_reducible exact ro_6 p5 | with_reducible exact bo_1 ok | with_reducible exact bo_n ok | exact (who_sh ok _).1 | exact (who_sh ok _).2 | exact sr_gR (by first | exact sr_outs (sr_up sr_rfl) | exact sr_up sr_rfl | exact sr_set1 | exact sr_set2) (by with_reducible assumption)) (by first | with_reducible assumption | with_reducible exact ro_1 p4 | with_reducible exact ro_6 p4 | with_reducible exact ro_1 p5 | with_reducible exact ro_6 p5 | with_reducible exact bo_1 ok | with_reducible exact bo_n ok | exact (who_sh ok _).1 | exact (who_sh ok _).2 | exact sr_gR (by first | exact sr_outs (sr_up sr_rfl) | exact sr_up sr_rfl | exact sr_set1 | exact sr_set2) (by with_reducible assumption)) (by first | with_reducible assumption | with_reducible exact ro_1 p4 | with_reducible exact ro_6 p4 | with_reducible exact ro_1 p5 | with_reducible exact ro_6 p5 | with_reducible exact bo_1 ok | with_reducible exact bo_n ok | exact (who_sh ok _).1 | exact (who_sh ok _).2 | exact sr_gR (by first | exact sr_outs (sr_up sr_rfl) | exact sr_up sr_rfl | exact sr_set1 | exact sr_set2) (by with_reducible assumption)) ?_
  refine r_callV (M := mX4_settle) (pc := 4) 7 dX4_settle_4 rfl k4_43 (c_X6_countUp p4) rfl rfl (by first | with_reducible assumption | with_reducible exact ro_1 p4 | with_reducible exact ro_6 p4 | with_reducible exact ro_1 p5 | with_reducible exact ro_6 p5 | with_reducible exact bo_1 ok | with_reducible exact bo_n ok | exact (who_sh ok _).1 | exact (who_sh ok _).2 | exact sr_gR (by first | exact sr_outs (sr_up sr_rfl) | exact sr_up sr_rfl | exact sr_set1 | exact sr_set2) (by with_reducible assumption)) (by decide) rfl (by first | with_reducible assumption | with_reducible exact ro_1 p4 | with_reducible exact ro_6 p4 | with_reducible exact ro_1 p5 | with_reducible exact ro_6 p5 | with_reducible exact bo_1 ok | with_reducible exact bo_n ok | exact (who_sh ok _).1 | exact (who_sh ok _).2 | exact sr_gR (by first | exact sr_outs (sr_up sr_rfl) | exact sr_up sr_rfl | exact sr_set1 | exact sr_set2) (by with_reducible assumption)) (Nat.le_of_ble_eq_true rfl) ?_
  refine r_iconst (0) 8 dX4_settle_7 rfl (by decide) ?_
  refine r_istore_n 9 dX4_settle_8 rfl (by decide) rfl ?_
  exact loop
  · refine r_iload_n 10 dX4_settle_9 rfl rfl ?_
    refine r_aload_n 11 dX4_settle_10 rfl rfl ?_
    refine r_getI 14 dX4_settle_11 rfl f4_46 rfl (by first | with_reducible assumption | with_reducible exact ro_1 p4 | with_reducible exact ro_6 p4 | with_reducible exact ro_1 p5 | with_reducible exact ro_6 p5 | with_reducible exact bo_1 ok | with_reducible exact bo_n ok | exact (who_sh ok _).1 | exact (who_sh ok _).2 | exact sr_gR (by first | exact sr_outs (sr_up sr_rfl) | exact sr_up sr_rfl | exact sr_set1 | exact sr_set2) (by with_reducible assumption)) (by first | with_reducible assumption | with_reducible exact ro_1 p4 | with_reducible exact ro_6 p4 | with_reducible exact ro_1 p5 | with_reducible exact ro_6 p5 | with_reducible exact bo_1 ok | with_reducible exact bo_n ok | exact (who_sh ok _).1 | exact (who_sh ok _).2 | exact sr_gR (by first | exact sr_outs (sr_up sr_rfl) | exact sr_up sr_rfl | exact sr_set1 | exact sr_set2) (by with_reducible assumption)) ?_
    refine r_icmp_ge 17 39 dX4_settle_14 rfl (by decide) (fun h14 => ?_) (fun h14 => absurd (by rw [gI_outs, gI_rUp, hl]; exact nI_le (Nat.le_refl l) (by omega)) h14)
    refine r_aload_n 40 dX4_settle_39 rfl rfl ?_
    refine r_aload_n 41 dX4_settle_40 rfl rfl ?_
    refine r_getI 44 dX4_settle_41 rfl f4_46 rfl (by first | with_reducible assumption | with_reducible exact ro_1 p4 | with_reducible exact ro_6 p4 | with_reducible exact ro_1 p5 | with_reducible exact ro_6 p5 | with_reducible exact bo_1 ok | with_reducible exact bo_n ok | exact (who_sh ok _).1 | exact (who_sh ok _).2 | exact sr_gR (by first | exact sr_outs (sr_up sr_rfl) | exact sr_up sr_rfl | exact sr_set1 | exact sr_set2) (by with_reducible assumption)) (by first | with_reducible assumption | with_reducible exact ro_1 p4 | with_reducible exact ro_6 p4 | with_reducible exact ro_1 p5 | with_reducible exact ro_6 p5 | with_reducible exact bo_1 ok | with_reducible exact bo_n ok | exact (who_sh ok _).1 | exact (who_sh ok _).2 | exact sr_gR (by first | exact sr_outs (sr_up sr_rfl) | exact sr_up sr_rfl | exact sr_set1 | exact sr_set2) (by with_reducible assumption)) ?_
    refine r_putI 47 dX4_settle_44 rfl f4_23 (by first | with_reducible assumption | with_reducible exact ro_1 p4 | with_reducible exact ro_6 p4 | with_reducible exact ro_1 p5 | with_reducible exact ro_6 p5 | with_reducible exact bo_1 ok | with_reducible exact bo_n ok | exact (who_sh ok _).1 | exact (who_sh ok _).2 | exact sr_gR (by first | exact sr_outs (sr_up sr_rfl) | exact sr_up sr_rfl | exact sr_set1 | exact sr_set2) (by with_reducible assumption)) (by first | with_reducible assumption | with_reducible exact ro_1 p4 | with_reducible exact ro_6 p4 | with_reducible exact ro_1 p5 | with_reducible exact ro_6 p5 | with_reducible exact bo_1 ok | with_reducible exact bo_n ok | exact (who_sh ok _).1 | exact (who_sh ok _).2 | exact sr_gR (by first | exact sr_outs (sr_up sr_rfl) | exact sr_up sr_rfl | exact sr_set1 | exact sr_set2) (by with_reducible assumption)) ?_
    refine r_aload_n 48 dX4_settle_47 rfl rfl ?_
    refine r_iconst (0) 49 dX4_settle_48 rfl (by decide) ?_
    refine r_putI 52 dX4_settle_49 rfl f4_27 (by first | with_reducible assumption | with_reducible exact ro_1 p4 | with_reducible exact ro_6 p4 | with_reducible exact ro_1 p5 | with_reducible exact ro_6 p5 | with_reducible exact bo_1 ok | with_reducible exact bo_n ok | exact (who_sh ok _).1 | exact (who_sh ok _).2 | exact sr_gR (by first | exact sr_outs (sr_up sr_rfl) | exact sr_up sr_rfl | exact sr_set1 | exact sr_set2) (by with_reducible assumption)) (by first | with_reducible assumption | with_reducible exact ro_1 p4 | with_reducible exact ro_6 p4 | with_reducible exact ro_1 p5 | with_reducible exact ro_6 p5 | with_reducible exact bo_1 ok | with_reducible exact bo_n ok | exact (who_sh ok _).1 | exact (who_sh ok _).2 | exact sr_gR (by first | exact sr_outs (sr_up sr_rfl) | exact sr_up sr_rfl | exact sr_set1 | exact sr_set2) (by with_reducible assumption)) ?_
    refine r_aload_n 53 dX4_settle_52 rfl rfl ?_
    refine r_iconst (-1) 54 dX4_settle_53 rfl (by decide) ?_
    refine r_iconst (0) 55 dX4_settle_54 rfl (by decide) ?_
    refine r_callV (M := mX4_settle) (pc := 55) 58 dX4_settle_55 rfl k4_64 (c_X4_letSay p1 p6) rfl rfl (by first | with_reducible assumption | with_reducible exact ro_1 p4 | with_reducible exact ro_6 p4 | with_reducible exact ro_1 p5 | with_reducible exact ro_6 p5 | with_reducible exact bo_1 ok | with_reducible exact bo_n ok | exact (who_sh ok _).1 | exact (who_sh ok _).2 | exact sr_gR (by first | exact sr_outs (sr_up sr_rfl) | exact sr_up sr_rfl | exact sr_set1 | exact sr_set2) (by with_reducible assumption)) (by decide) rfl (by first | with_reducible assumption | with_reducible exact ro_1 p4 | with_reducible exact ro_6 p4 | with_reducible exact ro_1 p5 | with_reducible exact ro_6 p5 | with_reducible exact bo_1 ok | with_reducible exact bo_n ok | exact (who_sh ok _).1 | exact (who_sh ok _).2 | exact sr_gR (by first | exact sr_outs (sr_up sr_rfl) | exact sr_up sr_rfl | exact sr_set1 | exact sr_set2) (by with_reducible assumption)) (Nat.le_of_ble_eq_true rfl) ?_
    refine r_aload_n 59 dX4_settle_58 rfl rfl ?_
    refine r_aload_n 60 dX4_settle_59 rfl rfl ?_
    refine r_getI 63 dX4_settle_60 rfl f4_67 rfl (by first | with_reducible assumption | with_reducible exact ro_1 p4 | with_reducible exact ro_6 p4 | with_reducible exact ro_1 p5 | with_reducible exact ro_6 p5 | with_reducible exact bo_1 ok | with_reducible exact bo_n ok | exact (who_sh ok _).1 | exact (who_sh ok _).2 | exact sr_gR (by first | exact sr_outs (sr_up sr_rfl) | exact sr_up sr_rfl | exact sr_set1 | exact sr_set2) (by with_reducible assumption)) (by first | with_reducible assumption | with_reducible exact ro_1 p4 | with_reducible exact ro_6 p4 | with_reducible exact ro_1 p5 | with_reducible exact ro_6 p5 | with_reducible exact bo_1 ok | with_reducible exact bo_n ok | exact (who_sh ok _).1 | exact (who_sh ok _).2 | exact sr_gR (by first | exact sr_outs (sr_up sr_rfl) | exact sr_up sr_rfl | exact sr_set1 | exact sr_set2) (by with_reducible assumption)) ?_
    refine r_putI 66 dX4_settle_63 rfl f4_36 (by first | with_reducible assumption | with_reducible exact ro_1 p4 | with_reducible exact ro_6 p4 | with_reducible exact ro_1 p5 | with_reducible exact ro_6 p5 | with_reducible exact bo_1 ok | with_reducible exact bo_n ok | exact (who_sh ok _).1 | exact (who_sh ok _).2 | exact sr_gR (by first | exact sr_outs (sr_up sr_rfl) | exact sr_up sr_rfl | exact sr_set1 | exact sr_set2) (by with_reducible assumption)) (by first | with_reducible assumption | with_reducible exact ro_1 p4 | with_reducible exact ro_6 p4 | with_reducible exact ro_1 p5 | with_reducible exact ro_6 p5 | with_reducible exact bo_1 ok | with_reducible exact bo_n ok | exact (who_sh ok _).1 | exact (who_sh ok _).2 | exact sr_gR (by first | exact sr_outs (sr_up sr_rfl) | exact sr_up sr_rfl | exact sr_set1 | exact sr_set2) (by with_reducible assumption)) ?_
    refine r_aload_n 67 dX4_settle_66 rfl rfl ?_
    refine r_aload_n 68 dX4_settle_67 rfl rfl ?_
    refine r_iconst (-1) 69 dX4_settle_68 rfl (by decide) ?_
    refine r_callV (M := mX4_settle) (pc := 69) 72 dX4_settle_69 rfl k4_68 (c_X0_isFreeWithout (l := l) (sr_bed (sr_set2 (p := p) (b := b) (l := l)) ok) (gI_set2.trans hl) hl7) rfl rfl (by first | with_reducible assumption | with_reducible exact ro_1 p4 | with_reducible exact ro_6 p4 | with_reducible exact ro_1 p5 | with_reducible exact ro_6 p5 | with_reducible exact bo_1 ok | with_reducible exact bo_n ok | exact (who_sh ok _).1 | exact (who_sh ok _).2 | exact sr_gR (by first | exact sr_outs (sr_up sr_rfl) | exact sr_up sr_rfl | exact sr_set1 | exact sr_set2) (by with_reducible assumption)) (by decide) rfl (by first | with_reducible assumption | with_reducible exact ro_1 p4 | with_reducible exact ro_6 p4 | with_reducible exact ro_1 p5 | with_reducible exact ro_6 p5 | with_reducible exact bo_1 ok | with_reducible exact bo_n ok | exact (who_sh ok _).1 | exact (who_sh ok _).2 | exact sr_gR (by first | exact sr_outs (sr_up sr_rfl) | exact sr_up sr_rfl | exact sr_set1 | exact sr_set2) (by with_reducible assumption)) (Nat.le_of_ble_eq_true rfl) ?_
    refine r_putZ 75 dX4_settle_72 rfl f4_39 (by first | with_reducible assumption | with_reducible exact ro_1 p4 | with_reducible exact ro_6 p4 | with_reducible exact ro_1 p5 | with_reducible exact ro_6 p5 | with_reducible exact bo_1 ok | with_reducible exact bo_n ok | exact (who_sh ok _).1 | exact (who_sh ok _).2 | exact sr_gR (by first | exact sr_outs (sr_up sr_rfl) | exact sr_up sr_rfl | exact sr_set1 | exact sr_set2) (by with_reducible assumption)) (by first | with_reducible assumption | with_reducible exact ro_1 p4 | with_reducible exact ro_6 p4 | with_reducible exact ro_1 p5 | with_reducible exact ro_6 p5 | with_reducible exact bo_1 ok | with_reducible exact bo_n ok | exact (who_sh ok _).1 | exact (who_sh ok _).2 | exact sr_gR (by first | exact sr_outs (sr_up sr_rfl) | exact sr_up sr_rfl | exact sr_set1 | exact sr_set2) (by with_reducible assumption)) (b01_01 _) ?_
    exact r_vret dX4_settle_75 rfl rfl (rfl)
  · intro k9 hk0 hk9 hq
    refine r_iload_n 10 dX4_settle_9 rfl rfl ?_
    refine r_aload_n 11 dX4_settle_10 rfl rfl ?_
    refine r_getI 14 dX4_settle_11 rfl f4_46 rfl (by first | with_reducible assumption | with_reducible exact ro_1 p4 | with_reducible exact ro_6 p4 | with_reducible exact ro_1 p5 | with_reducible exact ro_6 p5 | with_reducible exact bo_1 ok | with_reducible exact bo_n ok | exact (who_sh ok _).1 | exact (who_sh ok _).2 | exact sr_gR (by first | exact sr_outs (sr_up sr_rfl) | exact sr_up sr_rfl | exact sr_set1 | exact sr_set2) (by with_reducible assumption)) (by first | with_reducible assumption | with_reducible exact ro_1 p4 | with_reducible exact ro_6 p4 | with_reducible exact ro_1 p5 | with_reducible exact ro_6 p5 | with_reducible exact bo_1 ok | with_reducible exact bo_n ok | exact (who_sh ok _).1 | exact (who_sh ok _).2 | exact sr_gR (by first | exact sr_outs (sr_up sr_rfl) | exact sr_up sr_rfl | exact sr_set1 | exact sr_set2) (by with_reducible assumption)) ?_
    refine r_icmp_ge 17 39 dX4_settle_14 rfl (by decide) (fun h14 => absurd h14 (by rw [gI_outs, gI_rUp, hl]; exact nI_ge hk9 (by omega))) (fun h14 => ?_)
    refine r_aload_n 18 dX4_settle_17 rfl rfl ?_
    refine r_getR 21 dX4_settle_18 rfl f4_20 rfl (by first | with_reducible assumption | with_reducible exact ro_1 p4 | with_reducible exact ro_6 p4 | with_reducible exact ro_1 p5 | with_reducible exact ro_6 p5 | with_reducible exact bo_1 ok | with_reducible exact bo_n ok | exact (who_sh ok _).1 | exact (who_sh ok _).2 | exact sr_gR (by first | exact sr_outs (sr_up sr_rfl) | exact sr_up sr_rfl | exact sr_set1 | exact sr_set2) (by with_reducible assumption)) (by first | with_reducible assumption | with_reducible exact ro_1 p4 | with_reducible exact ro_6 p4 | with_reducible exact ro_1 p5 | with_reducible exact ro_6 p5 | with_reducible exact bo_1 ok | with_reducible exact bo_n ok | exact (who_sh ok _).1 | exact (who_sh ok _).2 | exact sr_gR (by first | exact sr_outs (sr_up sr_rfl) | exact sr_up sr_rfl | exact sr_set1 | exact sr_set2) (by with_reducible assumption)) (by first | with_reducible assumption | with_reducible exact ro_1 p4 | with_reducible exact ro_6 p4 | with_reducible exact ro_1 p5 | with_reducible exact ro_6 p5 | with_reducible exact bo_1 ok | with_reducible exact bo_n ok | exact (who_sh ok _).1 | exact (who_sh ok _).2 | exact sr_gR (by first | exact sr_outs (sr_up sr_rfl) | exact sr_up sr_rfl | exact sr_set1 | exact sr_set2) (by with_reducible assumption)) ?_
    refine r_iload_n 22 dX4_settle_21 rfl rfl ?_
    refine r_aload_n 23 dX4_settle_22 rfl rfl ?_
    refine r_iload_n 24 dX4_settle_23 rfl rfl ?_
    refine r_callV (M := mX4_settle) (pc := 24) 27 dX4_settle_24 rfl k4_51 (c_X0_who (sr_bed (sr_outs (sr_up sr_rfl)) ok)) rfl rfl (by first | with_reducible assumption | with_reducible exact ro_1 p4 | with_reducible exact ro_6 p4 | with_reducible exact ro_1 p5 | with_reducible exact ro_6 p5 | with_reducible exact bo_1 ok | with_reducible exact bo_n ok | exact (who_sh ok _).1 | exact (who_sh ok _).2 | exact sr_gR (by first | exact sr_outs (sr_up sr_rfl) | exact sr_up sr_rfl | exact sr_set1 | exact sr_set2) (by with_reducible assumption)) (by decide) rfl (by first | with_reducible assumption | with_reducible exact ro_1 p4 | with_reducible exact ro_6 p4 | with_reducible exact ro_1 p5 | with_reducible exact ro_6 p5 | with_reducible exact bo_1 ok | with_reducible exact bo_n ok | exact (who_sh ok _).1 | exact (who_sh ok _).2 | exact sr_gR (by first | exact sr_outs (sr_up sr_rfl) | exact sr_up sr_rfl | exact sr_set1 | exact sr_set2) (by with_reducible assumption)) (Nat.le_of_ble_eq_true rfl) ?_
    refine r_getI 30 dX4_settle_27 rfl f4_55 rfl (by first | with_reducible assumption | with_reducible exact ro_1 p4 | with_reducible exact ro_6 p4 | with_reducible exact ro_1 p5 | with_reducible exact ro_6 p5 | with_reducible exact bo_1 ok | with_reducible exact bo_n ok | exact (who_sh ok _).1 | exact (who_sh ok _).2 | exact sr_gR (by first | exact sr_outs (sr_up sr_rfl) | exact sr_up sr_rfl | exact sr_set1 | exact sr_set2) (by with_reducible assumption)) (by first | with_reducible assumption | with_reducible exact ro_1 p4 | with_reducible exact ro_6 p4 | with_reducible exact ro_1 p5 | with_reducible exact ro_6 p5 | with_reducible exact bo_1 ok | with_reducible exact bo_n ok | exact (who_sh ok _).1 | exact (who_sh ok _).2 | exact sr_gR (by first | exact sr_outs (sr_up sr_rfl) | exact sr_up sr_rfl | exact sr_set1 | exact sr_set2) (by with_reducible assumption)) ?_
    refine r_callV (M := mX4_settle) (pc := 30) 33 dX4_settle_30 rfl k4_60 (c_X6_put (sr_row (sr_outs (sr_up sr_rfl)) p5)) rfl rfl (by first | with_reducible assumption | with_reducible exact ro_1 p4 | with_reducible exact ro_6 p4 | with_reducible exact ro_1 p5 | with_reducible exact ro_6 p5 | with_reducible exact bo_1 ok | with_reducible exact bo_n ok | exact (who_sh ok _).1 | exact (who_sh ok _).2 | exact sr_gR (by first | exact sr_outs (sr_up sr_rfl) | exact sr_up sr_rfl | exact sr_set1 | exact sr_set2) (by with_reducible assumption)) (by decide) rfl (by first | with_reducible assumption | with_reducible exact ro_1 p4 | with_reducible exact ro_6 p4 | with_reducible exact ro_1 p5 | with_reducible exact ro_6 p5 | with_reducible exact bo_1 ok | with_reducible exact bo_n ok | exact (who_sh ok _).1 | exact (who_sh ok _).2 | exact sr_gR (by first | exact sr_outs (sr_up sr_rfl) | exact sr_up sr_rfl | exact sr_set1 | exact sr_set2) (by with_reducible assumption)) (Nat.le_of_ble_eq_true rfl) ?_
    refine r_iinc (1) 36 dX4_settle_33 rfl rfl (by decide) (by decide) rfl ?_
    refine r_goto 9 dX4_settle_36 (by decide) ?_
    rw [nI_succ] at hq
    exact hq
def mvF (p k : Nat) : Nat → HP → HP := itF fun j E => rExch (p + 1) 7 (nI (k - j)) (nI (k - j) - 1) E
theorem sr_mv {E E2 : HP} {p k j : Nat} (h : SR E E2) : SR E (mvF p k j E2) := sr_it (fun _ _ => sr_exch sr_rfl) h j
theorem gI_mv {E : HP} {p k j g i : Nat} : gI (mvF p k j E) g i = gI E g i := gI_itF (f := fun j E => rExch (p + 1) 7 (nI (k - j)) (nI (k - j) - 1) E) (fun _ _ => gI_exch) j E
theorem nI_p1 (m : Nat) : nI (m + 1) + m1 = nI m := by rw [m1_eq, ← Int32.sub_eq_add_neg]; exact nI_pred m
set_option maxRecDepth 20000 in
theorem c_X4_moveToEdge {d n p l : Nat} {E : HP} (okp : PlanOK E n p) (hl : gI E 514 p = nI l) (hl7 : l ≤ 7) : Cl yX4_moveToEdge mX4_moveToEdge (d + 2) 0 0 [.ref p] E n (.inl none, mvF p (l - 1) (l - 1) E, n) := by
  obtain ⟨p1, p2, p3, p4, p5, p6⟩ := id okp
  refine Cl.of (by decide) rfl (fun q => by cases q) rfl rfl (Nat.le_of_ble_eq_true rfl) ?_
  show Sm _ _ _ _ _ 0 [some (.ref p), none] [] _ _
  have loop := loopDown (P := fun m9 => Sm mX4_moveToEdge (d + 2) 0 0 (.inl none, mvF p (l - 1) (l - 1) E, n) 7 [some (.ref p), some (.int (nI m9))] [] (mvF p (l - 1) (l - 1 - m9) E) n) (l - 1) ?_ ?_
  refine r_aload_n 1 dX4_moveToEdge_0 rfl rfl ?_
  refine r_getI 4 dX4_moveToEdge_1 rfl f4_23 rfl (by first | with_reducible assumption | with_reducible exact ro_1 p4 | with_reducible exact ro_6 p4 | exact sr_gR (sr_mv sr_rfl) (by with_reducible assumption)) (by first | with_reducible assumption | with_reducible exact ro_1 p4 | with_reducible exact ro_6 p4 | exact sr_gR (sr_mv sr_rfl) (by with_reducible assumption)) ?_
  refine r_iconst (1) 5 dX4_moveToEdge_4 rfl (by decide) ?_
  refine r_isub 6 dX4_moveToEdge_5 rfl ?_
  refine r_istore_n 7 dX4_moveToEdge_6 rfl (by decide) rfl ?_
  rcases Nat.eq_zero_or_pos l with z | z
  · subst z
    rw [hl]
    refine r_iload_n 8 dX4_moveToEdge_7 rfl rfl ?_
    refine r_if_le 11 28 dX4_moveToEdge_8 rfl (by decide) (fun h8 => ?_) (fun h8 => absurd (by decide) h8)
    exact r_vret dX4_moveToEdge_28 rfl rfl (rfl)
  · rw [show gI E 514 p - 1 = nI (l - 1) by rw [hl, show l = (l - 1) + 1 by omega, nI_pred]; rfl]
    rw [show l - 1 - (l - 1) = 0 by omega] at loop
    exact loop
  · refine r_iload_n 8 dX4_moveToEdge_7 rfl rfl ?_
    refine r_if_le 11 28 dX4_moveToEdge_8 rfl (by decide) (fun h8 => ?_) (fun h8 => absurd (by decide) h8)
    exact r_vret dX4_moveToEdge_28 rfl rfl (rfl)
  · intro m9 hm9 hq
    show Sm mX4_moveToEdge (d + 2) 0 0 (.inl none, mvF p (l - 1) (l - 1) E, n) 7 [some (.ref p), some (.int (nI (m9 + 1)))] [] (mvF p (l - 1) (l - 1 - (m9 + 1)) E) n
    refine r_iload_n 8 dX4_moveToEdge_7 rfl rfl ?_
    refine r_if_le 11 28 dX4_moveToEdge_8 rfl (by decide) (fun h8 => absurd h8 (nI_nle (by omega) (by omega))) (fun h8 => ?_)
    refine r_aload_n 12 dX4_moveToEdge_11 rfl rfl ?_
    refine r_getR 15 dX4_moveToEdge_12 rfl f4_14 rfl (by first | with_reducible assumption | with_reducible exact ro_1 p4 | with_reducible exact ro_6 p4 | exact sr_gR (sr_mv sr_rfl) (by with_reducible assumption)) (by first | with_reducible assumption | with_reducible exact ro_1 p4 | with_reducible exact ro_6 p4 | exact sr_gR (sr_mv sr_rfl) (by with_reducible assumption)) (by first | with_reducible assumption | with_reducible exact ro_1 p4 | with_reducible exact ro_6 p4 | exact sr_gR (sr_mv sr_rfl) (by with_reducible assumption)) ?_
    refine r_iload_n 16 dX4_moveToEdge_15 rfl rfl ?_
    refine r_iload_n 17 dX4_moveToEdge_16 rfl rfl ?_
    refine r_iconst (1) 18 dX4_moveToEdge_17 rfl (by decide) ?_
    refine r_isub 19 dX4_moveToEdge_18 rfl ?_
    refine r_callV (M := mX4_moveToEdge) (pc := 19) 22 dX4_moveToEdge_19 rfl k4_80 (c_X6_exchange (sr_row (sr_mv sr_rfl) p4)) rfl rfl (by first | with_reducible assumption | with_reducible exact ro_1 p4 | with_reducible exact ro_6 p4 | exact sr_gR (sr_mv sr_rfl) (by with_reducible assumption)) (by decide) rfl (by first | with_reducible assumption | with_reducible exact ro_1 p4 | with_reducible exact ro_6 p4 | exact sr_gR (sr_mv sr_rfl) (by with_reducible assumption)) (Nat.le_of_ble_eq_true rfl) ?_
    refine r_iinc (m1) 25 dX4_moveToEdge_22 rfl rfl (m1_of) (by decide) rfl ?_
    refine r_goto 7 dX4_moveToEdge_25 (by decide) ?_
    rw [nI_p1]
    have hE : mvF p (l - 1) (l - 1 - m9) E = mvF p (l - 1) (l - 1 - (m9 + 1) + 1) E := by rw [show l - 1 - (m9 + 1) + 1 = l - 1 - m9 by omega]
    have ho : l - 1 - (l - 1 - (m9 + 1)) = m9 + 1 := by omega
    rw [hE] at hq
    simp only [mvF, itF, ho] at hq
    exact hq
