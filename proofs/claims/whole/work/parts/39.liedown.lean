/-! What frames carry over; Night.lieDown -/
theorem row_fr {P : Nat → Prop} {E E2 : HP} {n h l : Nat} (q : Fr P E E2) (hP : ¬ P h) (o : RowOK E n h l) : RowOK E2 n h l := ⟨o.1, (fr_gR q hP _).trans o.2.1, o.2.2.1, o.2.2.2.1, o.2.2.2.2.1, o.2.2.2.2.2⟩
theorem pile_fr {P : Nat → Prop} {E E2 : HP} {n h l : Nat} (q : Fr P E E2) (h0 : ¬ P h) (h1 : ¬ P (h + 1)) (o : PileOK E n h l) : PileOK E2 n h l := ⟨o.1, (fr_gR q h0 _).trans o.2.1, row_fr q h1 o.2.2.1, o.2.2.2⟩
theorem rule_fr {P : Nat → Prop} {E E2 : HP} {n h : Nat} (q : Fr P E E2) (h0 : ¬ P h) (h1 : ¬ P (h + 1)) (h3 : ¬ P (h + 3)) (h5 : ¬ P (h + 5)) (o : RuleOK E n h) : RuleOK E2 n h := ⟨o.1, (fr_gR q h0 _).trans o.2.1, (fr_gR q h0 _).trans o.2.2.1, (fr_gR q h0 _).trans o.2.2.2.1, row_fr q h1 o.2.2.2.2.1, row_fr q h3 o.2.2.2.2.2.1, row_fr q h5 o.2.2.2.2.2.2.1, o.2.2.2.2.2.2.2⟩
theorem plan_fr {P : Nat → Prop} {E E2 : HP} {n h : Nat} (q : Fr P E E2) (h0 : ¬ P h) (h1 : ¬ P (h + 1)) (h3 : ¬ P (h + 3)) (o : PlanOK E n h) : PlanOK E2 n h := ⟨o.1, (fr_gR q h0 _).trans o.2.1, (fr_gR q h0 _).trans o.2.2.1, row_fr q h1 o.2.2.2.1, row_fr q h3 o.2.2.2.2.1, o.2.2.2.2.2⟩
theorem bed_fr {P : Nat → Prop} {E E2 : HP} {n b : Nat} (q : Fr P E E2) (h0 : ¬ P b) (h2 : ¬ P (b + 2)) (h3 : ¬ P (b + 3)) (h5 : ¬ P (b + 5)) (h6 : ¬ P (b + 5 + 1)) (h8 : ¬ P (b + 5 + 3)) (h10 : ¬ P (b + 5 + 5)) (o : BedOK E n b) : BedOK E2 n b := ⟨o.1, (fr_gR q h0 _).trans o.2.1, (fr_gR q h0 _).trans o.2.2.1, (fr_gR q h0 _).trans o.2.2.2.1, (fr_gR q h0 _).trans o.2.2.2.2.1, o.2.2.2.2.2.1, o.2.2.2.2.2.2.1, fun i hi => ⟨by rw [fr_gQ q h2]; exact (o.2.2.2.2.2.2.2.1 i hi).1, (o.2.2.2.2.2.2.2.1 i hi).2⟩, row_fr q h3 o.2.2.2.2.2.2.2.2.1, rule_fr q h5 h6 h8 h10 o.2.2.2.2.2.2.2.2.2.1, o.2.2.2.2.2.2.2.2.2.2⟩
/-- the night and those who lie in it -/
def PN (k : Nat) : Prop := k = 80 ∨ (88 ≤ k ∧ k ≤ 94)
theorem pn_no {k : Nat} (h : k < 80 ∨ (80 < k ∧ k < 88) ∨ 94 < k) : ¬ PN k := by unfold PN; omega
theorem night_fr {E E2 : HP} {b p : Nat} (q : Fr PN E E2) (h : ∀ g, gR E2 g 80 = gR E g 80) (o : NightOK E b p) : NightOK E2 b p := by
  obtain ⟨n1, n2, n3, n4, n5, n6, n7, n8, n9, n10, n11, n12, n13, n14⟩ := o
  exact ⟨(h _).trans n1, (h _).trans n2, (h _).trans n3, (h _).trans n4, (h _).trans n5, (h _).trans n6, fun i hi => by rw [fr_gQ q (pn_no (by omega))]; exact n7 i hi, row_fr q (pn_no (by omega)) n8, row_fr q (pn_no (by omega)) n9, bed_fr q (pn_no (by omega)) (pn_no (by omega)) (pn_no (by omega)) (pn_no (by omega)) (pn_no (by omega)) (pn_no (by omega)) (pn_no (by omega)) n10, plan_fr q (pn_no (by omega)) (pn_no (by omega)) (pn_no (by omega)) n11, n12, n13, (fr_gR q (pn_no (by omega)) _).trans n14⟩
theorem nvis_fr {E E2 : HP} {b p : Nat} {V : NV} (hb : b = 3 ∨ b = 22) (hp : p = 46 ∨ p = 75) (q : Fr PN E E2) (o : NVis E b p V) : NVis E2 b p V := by
  have gp : ∀ g, gI E2 g p = gI E g p := fun g => fr_gI q (pn_no (by omega)) g
  have gb : ∀ g k, k < 46 → gI E2 g k = gI E g k := fun g k hk => fr_gI q (pn_no (by omega)) g
  have gw : ∀ g s, gI E2 g (whoId b s) = gI E g (whoId b s) := fun g s => gb g _ (by have := whoId_r hb s; omega)
  have a1 : gA E2 (p + 1 + 1) = gA E (p + 1 + 1) := fr_gA q (pn_no (by omega))
  have a3 : gA E2 (p + 3 + 1) = gA E (p + 3 + 1) := fr_gA q (pn_no (by omega))
  have ar : gA E2 (b + 5 + 2) = gA E (b + 5 + 2) := fr_gA q (pn_no (by omega))
  obtain ⟨o1, o2, o3, o4, o5, o6, o7, o8, o9, o10, o11⟩ := o
  refine ⟨by rw [gp]; exact o1, o2, fun i hi => ?_, by rw [gp]; exact o4, by rw [gp]; exact o5, by rw [gp]; exact o6, by rw [gb _ b (by omega)]; exact o7, by rw [gp]; exact o8, ?_, ?_, by rw [fr_gI q (pn_no (by omega))]; exact o11⟩
  · obtain ⟨c1, c2, c3, c4, c5, c6⟩ := o3 i hi
    unfold wI at *
    refine ⟨by unfold ordAt at *; rw [rAt_eq a1]; exact c1, by rw [gw]; exact c2, by rw [gw]; exact c3, by rw [gw]; exact c4, by rw [gw]; exact c5, by rw [rAt_eq a3]; exact c6⟩
  · exact ⟨by rw [gb _ (b + 5) (by omega)]; exact o9.1, o9.2.1, fun i hi => by rw [ar]; exact o9.2.2.1 i hi, o9.2.2.2⟩
  · intro h
    obtain ⟨c1, c2⟩ := o10 h
    refine ⟨?_, c2⟩
    have eo : ∀ k, ordAt E2 p k = ordAt E p k := fun k => rAt_eq a1
    unfold PV at *
    rw [gp]
    simp only [eo]
    exact c1
/-- one who has lain down -/
def LD (E : HP) (b : Nat) (V : NV) (i : Nat) : Prop := (gR E 128 (88 + i) = some (wI b V i) ∧ gI E 129 (88 + i) = vA V 0 i ∧ gI E 130 (88 + i) = nI i ∧ gI E 131 (88 + i) = vA V 5 i) ∧ (∀ k, k < 5 → gI E (132 + k) (88 + i) = nA (startF V) k i)
def Z80 (E E2 : HP) : Prop := (∀ g, gR E2 g 80 = gR E g 80) ∧ gI E2 263 80 = 0 ∧ gI E2 264 80 = 0 ∧ gI E2 265 80 = 0 ∧ gI E2 266 80 = 0 ∧ gI E2 267 80 = 0 ∧ gI E2 260 80 = gI E 260 80
set_option maxRecDepth 20000 in
theorem c_X2_lieDown {d b p : Nat} {V : NV} {E : HP} (okn : NightOK E b p) (ov : NVis E b p V) : ∃ o, (∃ E2, o = (.inl none, E2, 137) ∧ Fr PN E E2 ∧ (∀ g, gR E2 g 80 = gR E g 80) ∧ gI E2 260 80 = gI E 260 80 ∧ NC E2 b p V 0 ∧ NR E2 V (startF V)) ∧ Cl yX2_lieDown mX2_lieDown (d + 1) 0 0 [.ref 80] E 137 o := by
  obtain ⟨v1, v2, v3, v4, v5, v6, v7, v8, v9, v10, v11⟩ := id ov
  obtain ⟨n1, n2, n3, n4, n5, n6, n7, n8, n9, n10, n11, n12, n13, n14⟩ := id okn
  obtain ⟨p1, p2, p3, p4, p5, p6⟩ := id n11
  refine Cx.of (by decide) rfl (fun q => by cases q) rfl rfl (Nat.le_of_ble_eq_true rfl) ?_
  show Sx _ _ _ _ _ 0 [some (.ref 80), none, none] [] _ _
  have loop := sxUp (S := fun k9 E1 => Sx mX2_lieDown (d + 1) 0 0 (fun o => ∃ E2, o = (.inl none, E2, 137) ∧ Fr PN E E2 ∧ (∀ g, gR E2 g 80 = gR E g 80) ∧ gI E2 260 80 = gI E 260 80 ∧ NC E2 b p V 0 ∧ NR E2 V (startF V)) 27 [some (.ref 80), some (.int (nI k9)), none] [] E1 137) (Inv := fun k9 E1 => Fr PN E E1 ∧ Z80 E E1 ∧ (∀ i, i < k9 → LD E1 b V i)) (a := 0) (l := vL V) (by omega) ?_ ?_
  refine Sx.up (fun _ kk => r_aload_n 1 dX2_lieDown_0 rfl rfl kk) ?_
  refine Sx.up (fun _ kk => r_iconst (0) 2 dX2_lieDown_1 rfl (by decide) kk) ?_
  refine Sx.up (fun _ kk => r_putI 5 dX2_lieDown_2 rfl f2_33 (by first | with_reducible assumption | exact Nat.le_of_ble_eq_true rfl | with_reducible exact bo_1 n10 | with_reducible exact bo_n n10 | with_reducible exact ro_1 p4 | with_reducible exact ro_6 p4 | with_reducible exact ro_1 p5 | with_reducible exact ro_6 p5 | with_reducible exact ro_1 n8 | with_reducible exact ro_6 n8 | with_reducible exact ro_1 n9 | with_reducible exact ro_6 n9 | rfl) (by first | with_reducible assumption | exact Nat.le_of_ble_eq_true rfl | with_reducible exact bo_1 n10 | with_reducible exact bo_n n10 | with_reducible exact ro_1 p4 | with_reducible exact ro_6 p4 | with_reducible exact ro_1 p5 | with_reducible exact ro_6 p5 | with_reducible exact ro_1 n8 | with_reducible exact ro_6 n8 | with_reducible exact ro_1 n9 | with_reducible exact ro_6 n9 | rfl) kk) ?_
  refine Sx.up (fun _ kk => r_aload_n 6 dX2_lieDown_5 rfl rfl kk) ?_
  refine Sx.up (fun _ kk => r_iconst (0) 7 dX2_lieDown_6 rfl (by decide) kk) ?_
  refine Sx.up (fun _ kk => r_putI 10 dX2_lieDown_7 rfl f2_36 (by first | with_reducible assumption | exact Nat.le_of_ble_eq_true rfl | with_reducible exact bo_1 n10 | with_reducible exact bo_n n10 | with_reducible exact ro_1 p4 | with_reducible exact ro_6 p4 | with_reducible exact ro_1 p5 | with_reducible exact ro_6 p5 | with_reducible exact ro_1 n8 | with_reducible exact ro_6 n8 | with_reducible exact ro_1 n9 | with_reducible exact ro_6 n9 | rfl) (by first | with_reducible assumption | exact Nat.le_of_ble_eq_true rfl | with_reducible exact bo_1 n10 | with_reducible exact bo_n n10 | with_reducible exact ro_1 p4 | with_reducible exact ro_6 p4 | with_reducible exact ro_1 p5 | with_reducible exact ro_6 p5 | with_reducible exact ro_1 n8 | with_reducible exact ro_6 n8 | with_reducible exact ro_1 n9 | with_reducible exact ro_6 n9 | rfl) kk) ?_
  refine Sx.up (fun _ kk => r_aload_n 11 dX2_lieDown_10 rfl rfl kk) ?_
  refine Sx.up (fun _ kk => r_iconst (0) 12 dX2_lieDown_11 rfl (by decide) kk) ?_
  refine Sx.up (fun _ kk => r_putI 15 dX2_lieDown_12 rfl f2_39 (by first | with_reducible assumption | exact Nat.le_of_ble_eq_true rfl | with_reducible exact bo_1 n10 | with_reducible exact bo_n n10 | with_reducible exact ro_1 p4 | with_reducible exact ro_6 p4 | with_reducible exact ro_1 p5 | with_reducible exact ro_6 p5 | with_reducible exact ro_1 n8 | with_reducible exact ro_6 n8 | with_reducible exact ro_1 n9 | with_reducible exact ro_6 n9 | rfl) (by first | with_reducible assumption | exact Nat.le_of_ble_eq_true rfl | with_reducible exact bo_1 n10 | with_reducible exact bo_n n10 | with_reducible exact ro_1 p4 | with_reducible exact ro_6 p4 | with_reducible exact ro_1 p5 | with_reducible exact ro_6 p5 | with_reducible exact ro_1 n8 | with_reducible exact ro_6 n8 | with_reducible exact ro_1 n9 | with_reducible exact ro_6 n9 | rfl) kk) ?_
  refine Sx.up (fun _ kk => r_aload_n 16 dX2_lieDown_15 rfl rfl kk) ?_
  refine Sx.up (fun _ kk => r_iconst (0) 17 dX2_lieDown_16 rfl (by decide) kk) ?_
  refine Sx.up (fun _ kk => r_putI 20 dX2_lieDown_17 rfl f2_42 (by first | with_reducible assumption | exact Nat.le_of_ble_eq_true rfl | with_reducible exact bo_1 n10 | with_reducible exact bo_n n10 | with_reducible exact ro_1 p4 | with_reducible exact ro_6 p4 | with_reducible exact ro_1 p5 | with_reducible exact ro_6 p5 | with_reducible exact ro_1 n8 | with_reducible exact ro_6 n8 | with_reducible exact ro_1 n9 | with_reducible exact ro_6 n9 | rfl) (by first | with_reducible assumption | exact Nat.le_of_ble_eq_true rfl | with_reducible exact bo_1 n10 | with_reducible exact bo_n n10 | with_reducible exact ro_1 p4 | with_reducible exact ro_6 p4 | with_reducible exact ro_1 p5 | with_reducible exact ro_6 p5 | with_reducible exact ro_1 n8 | with_reducible exact ro_6 n8 | with_reducible exact ro_1 n9 | with_reducible exact ro_6 n9 | rfl) kk) ?_
  refine Sx.up (fun _ kk => r_aload_n 21 dX2_lieDown_20 rfl rfl kk) ?_
  refine Sx.up (fun _ kk => r_iconst (0) 22 dX2_lieDown_21 rfl (by decide) kk) ?_
  refine Sx.up (fun _ kk => r_putI 25 dX2_lieDown_22 rfl f2_45 (by first | with_reducible assumption | exact Nat.le_of_ble_eq_true rfl | with_reducible exact bo_1 n10 | with_reducible exact bo_n n10 | with_reducible exact ro_1 p4 | with_reducible exact ro_6 p4 | with_reducible exact ro_1 p5 | with_reducible exact ro_6 p5 | with_reducible exact ro_1 n8 | with_reducible exact ro_6 n8 | with_reducible exact ro_1 n9 | with_reducible exact ro_6 n9 | rfl) (by first | with_reducible assumption | exact Nat.le_of_ble_eq_true rfl | with_reducible exact bo_1 n10 | with_reducible exact bo_n n10 | with_reducible exact ro_1 p4 | with_reducible exact ro_6 p4 | with_reducible exact ro_1 p5 | with_reducible exact ro_6 p5 | with_reducible exact ro_1 n8 | with_reducible exact ro_6 n8 | with_reducible exact ro_1 n9 | with_reducible exact ro_6 n9 | rfl) kk) ?_
  refine Sx.up (fun _ kk => r_iconst (0) 26 dX2_lieDown_25 rfl (by decide) kk) ?_
  refine Sx.up (fun _ kk => r_istore_n 27 dX2_lieDown_26 rfl (by decide) rfl kk) ?_
  refine loop _ ⟨fr_sI (Or.inl rfl) (fr_sI (Or.inl rfl) (fr_sI (Or.inl rfl) (fr_sI (Or.inl rfl) (fr_sI (Or.inl rfl) fr_rfl)))), ⟨fun _ => rfl, by first | rfl | simp [gI_sI], by first | rfl | simp [gI_sI], by first | rfl | simp [gI_sI], by first | rfl | simp [gI_sI], by first | rfl | simp [gI_sI], by first | rfl | simp [gI_sI]⟩, fun i hi => absurd hi (by omega)⟩
  · intro E1 ⟨hF, hZ, hL⟩
    have okn1 := night_fr hF hZ.1 okn
    have ov1 := nvis_fr n12 n13 hF ov
    have m6 := okn1.2.2.2.2.2.1
    have w1 := ov1.1
    refine Sx.up (fun _ kk => r_iload_n 28 dX2_lieDown_27 rfl rfl kk) ?_
    refine Sx.up (fun _ kk => r_aload_n 29 dX2_lieDown_28 rfl rfl kk) ?_
    refine Sx.up (fun _ kk => r_getR 32 dX2_lieDown_29 rfl f2_52 rfl (by first | with_reducible assumption | exact Nat.le_of_ble_eq_true rfl | with_reducible exact bo_1 m10 | with_reducible exact bo_n m10 | with_reducible exact ro_1 c4 | with_reducible exact ro_6 c4 | with_reducible exact ro_1 c5 | with_reducible exact ro_6 c5 | rfl | omega) (by first | with_reducible assumption | exact Nat.le_of_ble_eq_true rfl | with_reducible exact bo_1 m10 | with_reducible exact bo_n m10 | with_reducible exact ro_1 c4 | with_reducible exact ro_6 c4 | with_reducible exact ro_1 c5 | with_reducible exact ro_6 c5 | rfl | omega) (by first | with_reducible assumption | exact Nat.le_of_ble_eq_true rfl | with_reducible exact bo_1 m10 | with_reducible exact bo_n m10 | with_reducible exact ro_1 c4 | with_reducible exact ro_6 c4 | with_reducible exact ro_1 c5 | with_reducible exact ro_6 c5 | rfl | omega) kk) ?_
    refine Sx.up (fun _ kk => r_getI 35 dX2_lieDown_32 rfl f2_86 rfl (by first | with_reducible assumption | exact Nat.le_of_ble_eq_true rfl | with_reducible exact bo_1 m10 | with_reducible exact bo_n m10 | with_reducible exact ro_1 c4 | with_reducible exact ro_6 c4 | with_reducible exact ro_1 c5 | with_reducible exact ro_6 c5 | rfl | omega) (by first | with_reducible assumption | exact Nat.le_of_ble_eq_true rfl | with_reducible exact bo_1 m10 | with_reducible exact bo_n m10 | with_reducible exact ro_1 c4 | with_reducible exact ro_6 c4 | with_reducible exact ro_1 c5 | with_reducible exact ro_6 c5 | rfl | omega) kk) ?_
    refine Sx.up (fun _ kk => r_icmp_ge 38 92 dX2_lieDown_35 rfl (by decide) (fun _ => kk) (fun h35 => absurd (by rw [w1]; exact nI_le (Nat.le_refl _) (by omega)) h35)) ?_
    refine ⟨_, ?_, r_vret dX2_lieDown_92 rfl rfl rfl⟩
    refine ⟨_, rfl, hF, hZ.1, hZ.2.2.2.2.2.2, ⟨okn1, ov1, hZ.2.1, by omega, fun i hi => (hL i hi).1⟩, hZ.2.2.1, hZ.2.2.2.1, hZ.2.2.2.2.1, hZ.2.2.2.2.2.1, fun i hi => (hL i hi).2, fun i x _ _ h => ?_⟩
    have h9 : ([] : List (Int32 × Int32 × Int32 × Int32))[i]? = some x := h
    simp at h9
  · intro k9 E1 hk0 hk9 ⟨hF, hZ, hL⟩ hq
    have okn1 := night_fr hF hZ.1 okn
    have ov1 := nvis_fr n12 n13 hF ov
    obtain ⟨m1', m2, m3, m4, m5, m6, m7, m8, m9, m10, m11, m12, m13, m14⟩ := id okn1
    obtain ⟨c1, c2, c3, c4, c5, c6⟩ := id m11
    have w1 := ov1.1
    have hli := c_X2_lierIn (d := d) (x := nI k9) okn1 w1 v2
    rw [liId_nI hk9 v2] at hli
    have hsl := sh_li (show k9 < 7 by omega)
    have h88 : 88 + k9 < 137 := by omega
    have hord : rAt E1 (p + 1) 7 (nI k9) = vA V 0 k9 := (ov1.2.2.1 k9 hk9).1
    have hwi : whoId b (vA V 0 k9) = wI b V k9 := rfl
    have hout : rAt E1 (p + 3) 7 (vA V 0 k9) = vA V 5 k9 := (ov1.2.2.1 k9 hk9).2.2.2.2.2
    have hfi : gI E1 515 p = vS V 4 := ov1.2.2.2.2.2.2.2.1
    have hat := c_X6_at (d := d) (i := nI k9) c4
    rw [hord] at hat
    have hat2 := c_X6_at (d := d) (i := vA V 0 k9) c5
    rw [hout] at hat2
    have hld := c_X1_lieDown (d := d) (n := 137) (h := 88 + k9) (w := wI b V k9) (a := vA V 0 k9) (b := nI k9) (c := vA V 5 k9) (e := gI E1 515 p) (E := E1) hsl h88
    have hwho := c_X0_who (d := d) (s := vA V 0 k9) m10
    rw [hwi] at hwho
    refine Sx.up (fun _ kk => r_iload_n 28 dX2_lieDown_27 rfl rfl kk) ?_
    refine Sx.up (fun _ kk => r_aload_n 29 dX2_lieDown_28 rfl rfl kk) ?_
    refine Sx.up (fun _ kk => r_getR 32 dX2_lieDown_29 rfl f2_52 rfl (by first | with_reducible assumption | exact Nat.le_of_ble_eq_true rfl | with_reducible exact bo_1 m10 | with_reducible exact bo_n m10 | with_reducible exact ro_1 c4 | with_reducible exact ro_6 c4 | with_reducible exact ro_1 c5 | with_reducible exact ro_6 c5 | rfl | omega) (by first | with_reducible assumption | exact Nat.le_of_ble_eq_true rfl | with_reducible exact bo_1 m10 | with_reducible exact bo_n m10 | with_reducible exact ro_1 c4 | with_reducible exact ro_6 c4 | with_reducible exact ro_1 c5 | with_reducible exact ro_6 c5 | rfl | omega) (by first | with_reducible assumption | exact Nat.le_of_ble_eq_true rfl | with_reducible exact bo_1 m10 | with_reducible exact bo_n m10 | with_reducible exact ro_1 c4 | with_reducible exact ro_6 c4 | with_reducible exact ro_1 c5 | with_reducible exact ro_6 c5 | rfl | omega) kk) ?_
    refine Sx.up (fun _ kk => r_getI 35 dX2_lieDown_32 rfl f2_86 rfl (by first | with_reducible assumption | exact Nat.le_of_ble_eq_true rfl | with_reducible exact bo_1 m10 | with_reducible exact bo_n m10 | with_reducible exact ro_1 c4 | with_reducible exact ro_6 c4 | with_reducible exact ro_1 c5 | with_reducible exact ro_6 c5 | rfl | omega) (by first | with_reducible assumption | exact Nat.le_of_ble_eq_true rfl | with_reducible exact bo_1 m10 | with_reducible exact bo_n m10 | with_reducible exact ro_1 c4 | with_reducible exact ro_6 c4 | with_reducible exact ro_1 c5 | with_reducible exact ro_6 c5 | rfl | omega) kk) ?_
    refine Sx.up (fun _ kk => r_icmp_ge 38 92 dX2_lieDown_35 rfl (by decide) (fun h35 => absurd h35 (by rw [w1]; exact nI_ge hk9 (by omega))) (fun _ => kk)) ?_
    refine Sx.up (fun _ kk => r_aload_n 39 dX2_lieDown_38 rfl rfl kk) ?_
    refine Sx.up (fun _ kk => r_getR 42 dX2_lieDown_39 rfl f2_52 rfl (by first | with_reducible assumption | exact Nat.le_of_ble_eq_true rfl | with_reducible exact bo_1 m10 | with_reducible exact bo_n m10 | with_reducible exact ro_1 c4 | with_reducible exact ro_6 c4 | with_reducible exact ro_1 c5 | with_reducible exact ro_6 c5 | rfl | omega) (by first | with_reducible assumption | exact Nat.le_of_ble_eq_true rfl | with_reducible exact bo_1 m10 | with_reducible exact bo_n m10 | with_reducible exact ro_1 c4 | with_reducible exact ro_6 c4 | with_reducible exact ro_1 c5 | with_reducible exact ro_6 c5 | rfl | omega) (by first | with_reducible assumption | exact Nat.le_of_ble_eq_true rfl | with_reducible exact bo_1 m10 | with_reducible exact bo_n m10 | with_reducible exact ro_1 c4 | with_reducible exact ro_6 c4 | with_reducible exact ro_1 c5 | with_reducible exact ro_6 c5 | rfl | omega) kk) ?_
    refine Sx.up (fun _ kk => r_getR 45 dX2_lieDown_42 rfl f2_91 rfl (by first | with_reducible assumption | exact Nat.le_of_ble_eq_true rfl | with_reducible exact bo_1 m10 | with_reducible exact bo_n m10 | with_reducible exact ro_1 c4 | with_reducible exact ro_6 c4 | with_reducible exact ro_1 c5 | with_reducible exact ro_6 c5 | rfl | omega) (by first | with_reducible assumption | exact Nat.le_of_ble_eq_true rfl | with_reducible exact bo_1 m10 | with_reducible exact bo_n m10 | with_reducible exact ro_1 c4 | with_reducible exact ro_6 c4 | with_reducible exact ro_1 c5 | with_reducible exact ro_6 c5 | rfl | omega) (by first | with_reducible assumption | exact Nat.le_of_ble_eq_true rfl | with_reducible exact bo_1 m10 | with_reducible exact bo_n m10 | with_reducible exact ro_1 c4 | with_reducible exact ro_6 c4 | with_reducible exact ro_1 c5 | with_reducible exact ro_6 c5 | rfl | omega) kk) ?_
    refine Sx.up (fun _ kk => r_iload_n 46 dX2_lieDown_45 rfl rfl kk) ?_
    refine Sx.up (fun _ kk => r_callV (M := mX2_lieDown) (pc := 46) 49 dX2_lieDown_46 rfl k2_94 hat rfl rfl (by first | with_reducible assumption | exact Nat.le_of_ble_eq_true rfl | with_reducible exact bo_1 m10 | with_reducible exact bo_n m10 | with_reducible exact ro_1 c4 | with_reducible exact ro_6 c4 | with_reducible exact ro_1 c5 | with_reducible exact ro_6 c5 | rfl | omega) (by decide) rfl (by first | with_reducible assumption | exact Nat.le_of_ble_eq_true rfl | with_reducible exact bo_1 m10 | with_reducible exact bo_n m10 | with_reducible exact ro_1 c4 | with_reducible exact ro_6 c4 | with_reducible exact ro_1 c5 | with_reducible exact ro_6 c5 | rfl | omega) (Nat.le_of_ble_eq_true rfl) kk) ?_
    refine Sx.up (fun _ kk => r_istore_n 50 dX2_lieDown_49 rfl (by decide) rfl kk) ?_
    refine Sx.up (fun _ kk => r_aload_n 51 dX2_lieDown_50 rfl rfl kk) ?_
    refine Sx.up (fun _ kk => r_iload_n 52 dX2_lieDown_51 rfl rfl kk) ?_
    refine Sx.up (fun _ kk => r_callV (M := mX2_lieDown) (pc := 52) 55 dX2_lieDown_52 rfl k2_98 hli rfl rfl (by first | with_reducible assumption | exact Nat.le_of_ble_eq_true rfl | with_reducible exact bo_1 m10 | with_reducible exact bo_n m10 | with_reducible exact ro_1 c4 | with_reducible exact ro_6 c4 | with_reducible exact ro_1 c5 | with_reducible exact ro_6 c5 | rfl | omega) (by decide) rfl (by first | with_reducible assumption | exact Nat.le_of_ble_eq_true rfl | with_reducible exact bo_1 m10 | with_reducible exact bo_n m10 | with_reducible exact ro_1 c4 | with_reducible exact ro_6 c4 | with_reducible exact ro_1 c5 | with_reducible exact ro_6 c5 | rfl | omega) (Nat.le_of_ble_eq_true rfl) kk) ?_
    refine Sx.up (fun _ kk => r_aload_n 56 dX2_lieDown_55 rfl rfl kk) ?_
    refine Sx.up (fun _ kk => r_getR 59 dX2_lieDown_56 rfl f2_48 rfl (by first | with_reducible assumption | exact Nat.le_of_ble_eq_true rfl | with_reducible exact bo_1 m10 | with_reducible exact bo_n m10 | with_reducible exact ro_1 c4 | with_reducible exact ro_6 c4 | with_reducible exact ro_1 c5 | with_reducible exact ro_6 c5 | rfl | omega) (by first | with_reducible assumption | exact Nat.le_of_ble_eq_true rfl | with_reducible exact bo_1 m10 | with_reducible exact bo_n m10 | with_reducible exact ro_1 c4 | with_reducible exact ro_6 c4 | with_reducible exact ro_1 c5 | with_reducible exact ro_6 c5 | rfl | omega) (by first | with_reducible assumption | exact Nat.le_of_ble_eq_true rfl | with_reducible exact bo_1 m10 | with_reducible exact bo_n m10 | with_reducible exact ro_1 c4 | with_reducible exact ro_6 c4 | with_reducible exact ro_1 c5 | with_reducible exact ro_6 c5 | rfl | omega) kk) ?_
    refine Sx.up (fun _ kk => r_iload_n 60 dX2_lieDown_59 rfl rfl kk) ?_
    refine Sx.up (fun _ kk => r_callV (M := mX2_lieDown) (pc := 60) 63 dX2_lieDown_60 rfl k2_102 hwho rfl rfl (by first | with_reducible assumption | exact Nat.le_of_ble_eq_true rfl | with_reducible exact bo_1 m10 | with_reducible exact bo_n m10 | with_reducible exact ro_1 c4 | with_reducible exact ro_6 c4 | with_reducible exact ro_1 c5 | with_reducible exact ro_6 c5 | rfl | omega) (by decide) rfl (by first | with_reducible assumption | exact Nat.le_of_ble_eq_true rfl | with_reducible exact bo_1 m10 | with_reducible exact bo_n m10 | with_reducible exact ro_1 c4 | with_reducible exact ro_6 c4 | with_reducible exact ro_1 c5 | with_reducible exact ro_6 c5 | rfl | omega) (Nat.le_of_ble_eq_true rfl) kk) ?_
    refine Sx.up (fun _ kk => r_iload_n 64 dX2_lieDown_63 rfl rfl kk) ?_
    refine Sx.up (fun _ kk => r_iload_n 65 dX2_lieDown_64 rfl rfl kk) ?_
    refine Sx.up (fun _ kk => r_aload_n 66 dX2_lieDown_65 rfl rfl kk) ?_
    refine Sx.up (fun _ kk => r_getR 69 dX2_lieDown_66 rfl f2_52 rfl (by first | with_reducible assumption | exact Nat.le_of_ble_eq_true rfl | with_reducible exact bo_1 m10 | with_reducible exact bo_n m10 | with_reducible exact ro_1 c4 | with_reducible exact ro_6 c4 | with_reducible exact ro_1 c5 | with_reducible exact ro_6 c5 | rfl | omega) (by first | with_reducible assumption | exact Nat.le_of_ble_eq_true rfl | with_reducible exact bo_1 m10 | with_reducible exact bo_n m10 | with_reducible exact ro_1 c4 | with_reducible exact ro_6 c4 | with_reducible exact ro_1 c5 | with_reducible exact ro_6 c5 | rfl | omega) (by first | with_reducible assumption | exact Nat.le_of_ble_eq_true rfl | with_reducible exact bo_1 m10 | with_reducible exact bo_n m10 | with_reducible exact ro_1 c4 | with_reducible exact ro_6 c4 | with_reducible exact ro_1 c5 | with_reducible exact ro_6 c5 | rfl | omega) kk) ?_
    refine Sx.up (fun _ kk => r_getR 72 dX2_lieDown_69 rfl f2_107 rfl (by first | with_reducible assumption | exact Nat.le_of_ble_eq_true rfl | with_reducible exact bo_1 m10 | with_reducible exact bo_n m10 | with_reducible exact ro_1 c4 | with_reducible exact ro_6 c4 | with_reducible exact ro_1 c5 | with_reducible exact ro_6 c5 | rfl | omega) (by first | with_reducible assumption | exact Nat.le_of_ble_eq_true rfl | with_reducible exact bo_1 m10 | with_reducible exact bo_n m10 | with_reducible exact ro_1 c4 | with_reducible exact ro_6 c4 | with_reducible exact ro_1 c5 | with_reducible exact ro_6 c5 | rfl | omega) (by first | with_reducible assumption | exact Nat.le_of_ble_eq_true rfl | with_reducible exact bo_1 m10 | with_reducible exact bo_n m10 | with_reducible exact ro_1 c4 | with_reducible exact ro_6 c4 | with_reducible exact ro_1 c5 | with_reducible exact ro_6 c5 | rfl | omega) kk) ?_
    refine Sx.up (fun _ kk => r_iload_n 73 dX2_lieDown_72 rfl rfl kk) ?_
    refine Sx.up (fun _ kk => r_callV (M := mX2_lieDown) (pc := 73) 76 dX2_lieDown_73 rfl k2_94 hat2 rfl rfl (by first | with_reducible assumption | exact Nat.le_of_ble_eq_true rfl | with_reducible exact bo_1 m10 | with_reducible exact bo_n m10 | with_reducible exact ro_1 c4 | with_reducible exact ro_6 c4 | with_reducible exact ro_1 c5 | with_reducible exact ro_6 c5 | rfl | omega) (by decide) rfl (by first | with_reducible assumption | exact Nat.le_of_ble_eq_true rfl | with_reducible exact bo_1 m10 | with_reducible exact bo_n m10 | with_reducible exact ro_1 c4 | with_reducible exact ro_6 c4 | with_reducible exact ro_1 c5 | with_reducible exact ro_6 c5 | rfl | omega) (Nat.le_of_ble_eq_true rfl) kk) ?_
    refine Sx.up (fun _ kk => r_aload_n 77 dX2_lieDown_76 rfl rfl kk) ?_
    refine Sx.up (fun _ kk => r_getR 80 dX2_lieDown_77 rfl f2_52 rfl (by first | with_reducible assumption | exact Nat.le_of_ble_eq_true rfl | with_reducible exact bo_1 m10 | with_reducible exact bo_n m10 | with_reducible exact ro_1 c4 | with_reducible exact ro_6 c4 | with_reducible exact ro_1 c5 | with_reducible exact ro_6 c5 | rfl | omega) (by first | with_reducible assumption | exact Nat.le_of_ble_eq_true rfl | with_reducible exact bo_1 m10 | with_reducible exact bo_n m10 | with_reducible exact ro_1 c4 | with_reducible exact ro_6 c4 | with_reducible exact ro_1 c5 | with_reducible exact ro_6 c5 | rfl | omega) (by first | with_reducible assumption | exact Nat.le_of_ble_eq_true rfl | with_reducible exact bo_1 m10 | with_reducible exact bo_n m10 | with_reducible exact ro_1 c4 | with_reducible exact ro_6 c4 | with_reducible exact ro_1 c5 | with_reducible exact ro_6 c5 | rfl | omega) kk) ?_
    refine Sx.up (fun _ kk => r_getI 83 dX2_lieDown_80 rfl f2_110 rfl (by first | with_reducible assumption | exact Nat.le_of_ble_eq_true rfl | with_reducible exact bo_1 m10 | with_reducible exact bo_n m10 | with_reducible exact ro_1 c4 | with_reducible exact ro_6 c4 | with_reducible exact ro_1 c5 | with_reducible exact ro_6 c5 | rfl | omega) (by first | with_reducible assumption | exact Nat.le_of_ble_eq_true rfl | with_reducible exact bo_1 m10 | with_reducible exact bo_n m10 | with_reducible exact ro_1 c4 | with_reducible exact ro_6 c4 | with_reducible exact ro_1 c5 | with_reducible exact ro_6 c5 | rfl | omega) kk) ?_
    refine Sx.up (fun _ kk => r_callV (M := mX2_lieDown) (pc := 83) 86 dX2_lieDown_83 rfl k2_113 hld rfl rfl (by first | with_reducible assumption | exact Nat.le_of_ble_eq_true rfl | with_reducible exact bo_1 m10 | with_reducible exact bo_n m10 | with_reducible exact ro_1 c4 | with_reducible exact ro_6 c4 | with_reducible exact ro_1 c5 | with_reducible exact ro_6 c5 | rfl | omega) (by decide) rfl (by first | with_reducible assumption | exact Nat.le_of_ble_eq_true rfl | with_reducible exact bo_1 m10 | with_reducible exact bo_n m10 | with_reducible exact ro_1 c4 | with_reducible exact ro_6 c4 | with_reducible exact ro_1 c5 | with_reducible exact ro_6 c5 | rfl | omega) (Nat.le_of_ble_eq_true rfl) kk) ?_
    refine Sx.up (fun _ kk => r_iinc (1) 89 dX2_lieDown_86 rfl rfl (by decide) (by decide) rfl kk) ?_
    refine Sx.up (fun _ kk => r_goto 27 dX2_lieDown_89 (by decide) kk) ?_
    rw [nI_pp]
    refine Sx.less (ls := [some (.ref 80), some (.int (nI (k9 + 1))), none]) ⟨rfl, rfl, trivial⟩ (hq _ ⟨?_, ⟨fun g => ?_, ?_, ?_, ?_, ?_, ?_, ?_⟩, fun i hi => ?_⟩)
    · have hP : PN (88 + k9) := Or.inr (by omega)
      exact fr_sI hP (fr_sI hP (fr_sI hP (fr_sI hP (fr_sI hP (fr_sI hP (fr_sI hP (fr_sI hP (fr_sR hP hF))))))))
    · simp only [gR_sI, gR_sR]
      rw [if_neg (by omega)]
      exact hZ.1 g
    · have e1 : ¬ 80 = 88 + k9 := by omega
      simp only [gI_sI, gI_sR, e1, and_false, if_false]
      exact hZ.2.1
    · have e1 : ¬ 80 = 88 + k9 := by omega
      simp only [gI_sI, gI_sR, e1, and_false, if_false]
      exact hZ.2.2.1
    · have e1 : ¬ 80 = 88 + k9 := by omega
      simp only [gI_sI, gI_sR, e1, and_false, if_false]
      exact hZ.2.2.2.1
    · have e1 : ¬ 80 = 88 + k9 := by omega
      simp only [gI_sI, gI_sR, e1, and_false, if_false]
      exact hZ.2.2.2.2.1
    · have e1 : ¬ 80 = 88 + k9 := by omega
      simp only [gI_sI, gI_sR, e1, and_false, if_false]
      exact hZ.2.2.2.2.2.1
    · have e1 : ¬ 80 = 88 + k9 := by omega
      simp only [gI_sI, gI_sR, e1, and_false, if_false]
      exact hZ.2.2.2.2.2.2
    · by_cases hik : i = k9
      · subst hik
        refine ⟨⟨?_, ?_, ?_, ?_⟩, fun k hk => ?_⟩
        · simp [gI_sI, gR_sI, gI_sR, gR_sR]
        · simp [gI_sI, gR_sI, gI_sR, gR_sR]
        · simp [gI_sI, gR_sI, gI_sR, gR_sR]
        · simp [gI_sI, gR_sI, gI_sR, gR_sR]
        · match k, hk with
          | 0, _ => simpa [gI_sI, gI_sR, startF, nA] using hfi
          | 1, _ => simp [gI_sI, gI_sR, startF, nA]
          | 2, _ => simp [gI_sI, gI_sR, startF, nA]
          | 3, _ => simp [gI_sI, gI_sR, startF, nA]
          | 4, _ => simp [gI_sI, gI_sR, startF, nA]
      · have e1 : ¬ 88 + i = 88 + k9 := by omega
        have h9 := hL i (by omega)
        unfold LD at *
        simp only [gI_sI, gR_sI, gI_sR, gR_sR, e1, and_false, if_false]
        exact h9
