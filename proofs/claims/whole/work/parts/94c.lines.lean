/-! lines, further on -/
theorem rd_go {E0 E : HP} {T : TX} {b : Nat} {s : PS} (y1 : CRd E0 E T b s) : gI E 1284 42 = 0 ↔ ¬ goC T s = true := by
  cases s with
  | inl z =>
    obtain ⟨q, q1, q2, q3, q4⟩ := y1.2.2.2.2.2.2
    exact ⟨fun _ => (by show ¬ false = true; decide), fun _ => q4⟩
  | inr z =>
    have g4 := y1.2.2.2.2.1.2.2
    have kl := kd_le T z.1
    rw [g4]
    constructor
    · intro h q
      exact of_decide_eq_true q ((nI_eq (b := 0) (by omega) (by omega)).mp h)
    · intro q
      by_cases h : kdT T z.1 = 0
      · rw [h]; rfl
      · exact absurd (decide_eq_true h) q
def fndS : PS → Int32
  | .inl x => nI x.1
  | .inr _ => 0
theorem rd_fnd {E0 E : HP} {T : TX} {b : Nat} {s : PS} (y1 : CRd E0 E T b s) : gI E 642 41 = fndS s := by
  cases s with
  | inl z => exact y1.2.1
  | inr z => exact y1.2.1
def RdE (E E2 : HP) (b : Nat) : Prop := Fr (RdP b) E E2 ∧ (∀ g k, ¬ (g = 641 ∧ k = 41) → ¬ (g = 1280 ∧ k = 42) → gR E2 g k = gR E g k) ∧ gQ E2 = gQ E
set_option maxRecDepth 20000 in
set_option maxHeartbeats 16000000 in
theorem c_read {d b : Nat} {T : TX} {E : HP} (hT : TXok T) (hr : RowOK E 137 1 600) (ht : ∀ i, i < T.2 → gA E 2 i = T.1 i) (hb : b = 3 ∨ b = 22) (hbo : BedOK E 137 b) (h42 : gR E 640 41 = some 42) : ∃ o, (∃ E2, o = (.inl (some (.int (fndS (textS T)))), E2, 137) ∧ RdE E E2 b ∧ gR E2 641 41 = some b ∧ gR E2 1280 42 = some 1 ∧ CSt E2 T b (textS T)) ∧ Cl yX5_read mX5_read (d + 53) 0 0 [.ref 41, .ref 1, .int (nI T.2), .ref b] E 137 o := by
  have n6 := hT.1
  obtain ⟨E1, hE1⟩ : ∃ E1, sI (sI (sI (beAnew b (sR E 641 41 (some b))) 642 41 0) 643 41 (-1)) 644 41 0 = E1 := ⟨_, rfl⟩
  have hbe : BedOK (sR E 641 41 (some b)) 137 b := bed_fr (P := fun k => k = 41) (fr_sR rfl fr_rfl) (by show ¬ _ = _; omega) (by show ¬ _ = _; omega) (by show ¬ _ = _; omega) (by show ¬ _ = _; omega) (by show ¬ _ = _; omega) (by show ¬ _ = _; omega) (by show ¬ _ = _; omega) hbo
  have hfB : Fr (fun k => k = b ∨ k = b + 4 ∨ k = b + 5) (sR E 641 41 (some b)) (beAnew b (sR E 641 41 (some b))) := fr_sI (Or.inl rfl) (fr_sI (Or.inl rfl) (fr_sI (Or.inl rfl) (fr_sI (Or.inl rfl) (fr_sI (Or.inl rfl) (fr_sI (Or.inl rfl) (fr_sI (Or.inl rfl) (fr_sI (Or.inr (Or.inr rfl)) (fr_fill (Or.inr (Or.inl rfl)) fr_rfl))))))))
  have hsB : SR (sR E 641 41 (some b)) (beAnew b (sR E 641 41 (some b))) := sr_sI (sr_sI (sr_sI (sr_sI (sr_sI (sr_sI (sr_sI (sr_sI (sr_fill sr_rfl))))))))
  have hs1 : SR (sR E 641 41 (some b)) E1 := by subst hE1; exact sr_sI (sr_sI (sr_sI hsB))
  have hf1 : Fr (RdP b) E E1 := by
    subst hE1
    exact fr_sI (Or.inl rfl) (fr_sI (Or.inl rfl) (fr_sI (Or.inl rfl) (fr_tr (fr_sR (Or.inl rfl) fr_rfl) (fr_mono hfB (fun k z => Or.inr (Or.inr (by omega)))))))
  have r641 : gR E1 641 41 = some b := sr_gR hs1 (by rw [gR_sR, if_pos ⟨rfl, rfl⟩])
  have rR : ∀ g k, ¬ (g = 641 ∧ k = 41) → gR E1 g k = gR E g k := fun g k z => by
    unfold gR
    rw [hs1.1]
    show gR (sR E 641 41 (some b)) g k = _
    rw [gR_sR, if_neg z]; rfl
  have qQ : gQ E1 = gQ E := by
    funext k
    unfold gQ
    rw [hs1.2]; rfl
  have hr1 : RowOK E1 137 1 600 := ⟨hr.1, (rR _ _ (by omega)).trans hr.2.1, hr.2.2⟩
  have ht1 : ∀ i, i < T.2 → gA E1 2 i = T.1 i := fun i hi => by rw [fr_gA hf1 (by unfold RdP; omega)]; exact ht i hi
  have hbs : sh b = (0, 0) := bo_1 hbe
  have hbn : b < 137 := bo_n hbe
  have hbe1 : BedOK E1 137 b := sr_bed hs1 hbe
  obtain ⟨_, ⟨E4, rfl, hF4, hA4, hf4, hr4, hq4⟩, hst⟩ := tk_start (d := d + 46) hT hr1 ht1
  have k4 : ∀ g, gI E4 g 41 = gI E1 g 41 := fun g => fr_gI hf4 (by omega) g
  have kb : ∀ g, gI E4 g b = gI E1 g b := fun g => fr_gI hf4 (by omega) g
  have hbo4 : BedOK E4 137 b := bed_fr (P := fun k => k = 42) hf4 (by show ¬ _ = _; omega) (by show ¬ _ = _; omega) (by show ¬ _ = _; omega) (by show ¬ _ = _; omega) (by show ¬ _ = _; omega) (by show ¬ _ = _; omega) (by show ¬ _ = _; omega) hbe1
  have y0 : CRd E4 E4 T b (.inr (toB T 0, bd0)) := by
    refine ⟨⟨hT, hF4, (hr4 _ _ (by omega)).trans ((rR _ _ (by omega)).trans h42), (hr4 _ _ (by omega)).trans r641, hbo4, hb, fr_rfl, sr_rfl⟩, ?_, ?_, (runT_le (T := T) (k := 4) (i := 0)).2 (Nat.zero_le _), hA4, ?_, by decide, fun s hs => absurd hs (Nat.not_lt_zero s), fun s hs => ?_, fun i hi => ?_, ?_, ?_, by decide, ?_, by decide, fun i hi => absurd hi (Nat.not_lt_zero i)⟩
    · rw [k4]; subst hE1; rw [gI_sI, if_neg (by decide), gI_sI, if_neg (by decide), gI_sI, if_pos ⟨rfl, rfl⟩]
    · rw [k4]; subst hE1; rw [gI_sI, if_neg (by decide), gI_sI, if_pos ⟨rfl, rfl⟩]
    · rw [kb]; subst hE1; unfold beAnew; simp [gI_sI, show ¬ b = 41 by omega]; rfl
    · rw [fr_gA hf4 (by omega)]; subst hE1; show gA (rFill (b + 3) 0 7 _) (b + 3 + 1) s = 0; rw [fill_at, if_pos hs]
    · rw [kb]; subst hE1; unfold beAnew
      match i, hi with
      | 0, _ => simp [gI_sI, show ¬ b = 41 by omega]; rfl
      | 1, _ => simp [gI_sI, show ¬ b = 41 by omega]; rfl
      | 2, _ => simp [gI_sI, show ¬ b = 41 by omega]; rfl
      | 3, _ => simp [gI_sI, show ¬ b = 41 by omega]; rfl
      | 4, _ => simp [gI_sI, show ¬ b = 41 by omega]; rfl
    · rw [k4]; subst hE1; rw [gI_sI, if_pos ⟨rfl, rfl⟩]; rfl
    · rw [kb]; subst hE1; unfold beAnew; simp [gI_sI, show ¬ b = 41 by omega]; rfl
    · rw [fr_gI hf4 (by omega)]; subst hE1; unfold beAnew; simp [gI_sI, show ¬ b + 5 = 41 by omega]; rfl
  refine Cx.of (by decide) rfl (fun q => by cases q) rfl rfl (Nat.le_of_ble_eq_true rfl) ?_
  show Sx _ _ _ _ _ 0 [some (.ref 41), some (.ref 1), some (.int (nI T.2)), some (.ref b), none] [] _ _
  have loop := sxUp (σ := HP × PS) (S := fun k9 q => Sx mX5_read (d + 53) 0 0 (fun o => ∃ E2, o = (.inl (some (.int (fndS (loopS (goC T) (liS T) (T.2 - k9) q.2)))), E2, 137) ∧ CRd E4 E2 T b (loopS (goC T) (liS T) (T.2 - k9) q.2)) 39 [some (.ref 41), some (.ref 1), some (.int (nI T.2)), some (.ref b), some (.int (nI k9))] [] q.1 137) (Inv := fun k9 q => CRd E4 q.1 T b q.2 ∧ slk 0 q.2) (a := 0) (l := T.2) (Nat.zero_le _) ?_ ?_
  · refine Sx.up (fun _ kk => r_aload_n 1 dX5_read_0 rfl rfl kk) ?_
    refine Sx.up (fun _ kk => r_aload_n 2 dX5_read_1 rfl rfl kk) ?_
    refine Sx.up (fun _ kk => r_putR 5 dX5_read_2 rfl f5_35 rfl (Or.inl rfl) (by first | with_reducible assumption | with_reducible exact cr_bs hC | rfl) (by first | with_reducible assumption | with_reducible exact cr_bn hC | exact Nat.le_of_ble_eq_true rfl) kk) ?_
    refine Sx.up (fun _ kk => r_aload_n 6 dX5_read_5 rfl rfl kk) ?_
    refine Sx.up (fun _ kk => r_getR 9 dX5_read_6 rfl f5_35 rfl (by first | with_reducible assumption | with_reducible exact cr_bs hC | rfl) (by first | with_reducible assumption | with_reducible exact cr_bn hC | exact Nat.le_of_ble_eq_true rfl) (by rw [gR_sR, if_pos ⟨rfl, rfl⟩]) kk) ?_
    refine Sx.up (fun _ kk => r_callV (M := mX5_read) (pc := 9) 12 dX5_read_9 rfl k5_39 (c_X0_makeAnew (d := d + 51) hbe) rfl rfl (by first | with_reducible assumption | with_reducible exact cr_bs hC | rfl) (by decide) rfl (by first | with_reducible assumption | with_reducible exact cr_bn hC | exact Nat.le_of_ble_eq_true rfl) (Nat.le_of_ble_eq_true rfl) kk) ?_
    refine Sx.up (fun _ kk => r_aload_n 13 dX5_read_12 rfl rfl kk) ?_
    refine Sx.up (fun _ kk => r_iconst (0) 14 dX5_read_13 rfl (by decide) kk) ?_
    refine Sx.up (fun _ kk => r_putI 17 dX5_read_14 rfl f5_25 (by first | with_reducible assumption | with_reducible exact cr_bs hC | rfl) (by first | with_reducible assumption | with_reducible exact cr_bn hC | exact Nat.le_of_ble_eq_true rfl) kk) ?_
    refine Sx.up (fun _ kk => r_aload_n 18 dX5_read_17 rfl rfl kk) ?_
    refine Sx.up (fun _ kk => r_iconst (-1) 19 dX5_read_18 rfl (by decide) kk) ?_
    refine Sx.up (fun _ kk => r_putI 22 dX5_read_19 rfl f5_29 (by first | with_reducible assumption | with_reducible exact cr_bs hC | rfl) (by first | with_reducible assumption | with_reducible exact cr_bn hC | exact Nat.le_of_ble_eq_true rfl) kk) ?_
    refine Sx.up (fun _ kk => r_aload_n 23 dX5_read_22 rfl rfl kk) ?_
    refine Sx.up (fun _ kk => r_iconst (0) 24 dX5_read_23 rfl (by decide) kk) ?_
    refine Sx.up (fun _ kk => r_putI 27 dX5_read_24 rfl f5_32 (by first | with_reducible assumption | with_reducible exact cr_bs hC | rfl) (by first | with_reducible assumption | with_reducible exact cr_bn hC | exact Nat.le_of_ble_eq_true rfl) kk) ?_
    rw [hE1]
    refine Sx.up (fun _ kk => r_aload_n 28 dX5_read_27 rfl rfl kk) ?_
    refine Sx.up (fun _ kk => r_getR 31 dX5_read_28 rfl f5_19 rfl (by first | with_reducible assumption | with_reducible exact cr_bs hC | rfl) (by first | with_reducible assumption | with_reducible exact cr_bn hC | exact Nat.le_of_ble_eq_true rfl) (by first | exact rd_tok y1 | exact sr_gR hs1 (by rw [gR_sR, if_neg (by decide)]; exact h42) | (rw [gR_sI, gR_sI, gR_sI]; exact sr_gR hsB (by rw [gR_sR, if_neg (by decide)]; exact h42))) kk) ?_
    refine Sx.up (fun _ kk => r_aload_n 32 dX5_read_31 rfl rfl kk) ?_
    refine Sx.up (fun _ kk => r_iload_n 33 dX5_read_32 rfl rfl kk) ?_
    refine Sx.up (fun _ kk => r_callV (M := mX5_read) (pc := 33) 36 dX5_read_33 rfl k5_44 hst rfl rfl (by first | with_reducible assumption | with_reducible exact cr_bs hC | rfl) (by decide) rfl (by first | with_reducible assumption | with_reducible exact cr_bn hC | exact Nat.le_of_ble_eq_true rfl) (Nat.le_of_ble_eq_true rfl) kk) ?_
    refine Sx.up (fun _ kk => r_iconst (0) 37 dX5_read_36 rfl (by decide) kk) ?_
    refine Sx.up (fun _ kk => r_istore 39 dX5_read_37 rfl (by decide) rfl kk) ?_
    refine Sx.mono ?_ (loop (E4, _) ⟨y0, by show 0 + 0 ≤ toB T 0; omega⟩)
    rintro o ⟨E2, h1, h2⟩
    refine ⟨E2, h1, ⟨fr_tr hf1 (fr_tr (fr_mono hf4 (fun k z => Or.inr (Or.inl z))) h2.1.2.2.2.2.2.2.1), fun g k z1 z2 => ?_, ?_⟩, rd_into h2, (rd_F h2).1, h2.2⟩
    · have e := h2.1.2.2.2.2.2.2.2.1
      have e2 : gR E2 g k = gR E4 g k := by unfold gR; rw [e]
      exact e2.trans ((hr4 g k z2).trans (rR g k z1))
    · have e := h2.1.2.2.2.2.2.2.2.2
      have e2 : gQ E2 = gQ E4 := by funext j; unfold gQ; rw [e]
      exact e2.trans (hq4.trans qQ)
  · intro q ⟨y1, hs9⟩
    refine Sx.up (fun _ kk => r_iload 41 dX5_read_39 rfl rfl kk) ?_
    refine Sx.up (fun _ kk => r_iload_n 42 dX5_read_41 rfl rfl kk) ?_
    refine Sx.up (fun _ kk => r_icmp_ge 45 65 dX5_read_42 rfl (by decide) (fun _ => kk) (fun h42 => absurd (nI_le (Nat.le_refl _) (by omega)) h42)) ?_
    refine Sx.up (fun _ kk => r_aload_n 66 dX5_read_65 rfl rfl kk) ?_
    refine Sx.up (fun _ kk => r_getIV (fndS q.2) 69 dX5_read_66 rfl f5_25 rfl (by first | with_reducible assumption | with_reducible exact cr_bs hC | rfl) (by first | with_reducible assumption | with_reducible exact cr_bn hC | exact Nat.le_of_ble_eq_true rfl) (rd_fnd y1) kk) ?_
    refine ⟨_, ?_, r_iret dX5_read_69 rfl rfl rfl⟩
    refine ⟨q.1, ?_, ?_⟩
    rotate_left
    · rw [Nat.sub_self]; exact y1
    · rw [Nat.sub_self]; rfl
  · intro k9 q hk0 hk9 ⟨y1, hs9⟩ hq
    obtain ⟨E, s⟩ := q
    have y1 : CRd E4 E T b s := y1
    have hs9 : slk 0 s := hs9
    have hgo9 := rd_go y1
    obtain ⟨f9, hf9⟩ : ∃ f9, T.2 - k9 = f9 + 1 := ⟨T.2 - k9 - 1, by omega⟩
    have hy : goC T s = true → loopS (goC T) (liS T) (T.2 - k9) s = loopS (goC T) (liS T) (T.2 - (k9 + 1)) (liS T s) := fun z => by rw [hf9, show T.2 - (k9 + 1) = f9 by omega]; exact if_pos z
    have hn : ¬ goC T s = true → loopS (goC T) (liS T) (T.2 - k9) s = s := fun z => by rw [hf9]; exact if_neg z
    have hb := rd_b y1
    refine Sx.up (fun _ kk => r_iload 41 dX5_read_39 rfl rfl kk) ?_
    refine Sx.up (fun _ kk => r_iload_n 42 dX5_read_41 rfl rfl kk) ?_
    refine Sx.up (fun _ kk => r_icmp_ge 45 65 dX5_read_42 rfl (by decide) (fun h42 => absurd h42 (nI_ge hk9 (by omega))) (fun _ => kk)) ?_
    refine Sx.up (fun _ kk => r_aload_n 46 dX5_read_45 rfl rfl kk) ?_
    refine Sx.up (fun _ kk => r_getR 49 dX5_read_46 rfl f5_19 rfl (by first | with_reducible assumption | with_reducible exact cr_bs hC | rfl) (by first | with_reducible assumption | with_reducible exact cr_bn hC | exact Nat.le_of_ble_eq_true rfl) (rd_tok y1) kk) ?_
    refine Sx.up (fun _ kk => r_getI 52 dX5_read_49 rfl f5_48 rfl (by first | with_reducible assumption | with_reducible exact cr_bs hC | rfl) (by first | with_reducible assumption | with_reducible exact cr_bn hC | exact Nat.le_of_ble_eq_true rfl) kk) ?_
    refine Sx.br (fun _ ka kb => r_if_eq 55 65 dX5_read_52 rfl (by decide) ka kb) (by first | exact em1 | exact em2) (fun h52 => ?_) (fun h52 => ?_)
    · refine Sx.up (fun _ kk => r_aload_n 66 dX5_read_65 rfl rfl kk) ?_
      refine Sx.up (fun _ kk => r_getIV (fndS s) 69 dX5_read_66 rfl f5_25 rfl (by first | with_reducible assumption | with_reducible exact cr_bs hC | rfl) (by first | with_reducible assumption | with_reducible exact cr_bn hC | exact Nat.le_of_ble_eq_true rfl) (rd_fnd y1) kk) ?_
      refine ⟨_, ?_, r_iret dX5_read_69 rfl rfl rfl⟩
      refine ⟨E, ?_, ?_⟩
      rotate_left
      · rw [hn (hgo9.mp h52)]; exact y1
      · rw [hn (hgo9.mp h52)]
    · refine Sx.up (fun _ kk => r_aload_n 56 dX5_read_55 rfl rfl kk) ?_
      obtain ⟨_, ⟨E2, rfl, y2⟩, hcl2⟩ := rd_line (d := d) y1 hs9
      refine Sx.up (fun _ kk => r_callV (M := mX5_read) (pc := 56) 59 dX5_read_56 rfl k5_51 hcl2 rfl rfl (by first | with_reducible assumption | with_reducible exact cr_bs hC | rfl) (by decide) rfl (by first | with_reducible assumption | with_reducible exact cr_bn hC | exact Nat.le_of_ble_eq_true rfl) (Nat.le_of_ble_eq_true rfl) kk) ?_
      refine Sx.up (fun _ kk => r_iinc (1) 62 dX5_read_59 rfl rfl (by decide) (by decide) rfl kk) ?_
      refine Sx.up (fun _ kk => r_goto 39 dX5_read_62 (by decide) kk) ?_
      have hc : goC T s = true := Classical.byContradiction (fun z => h52 (hgo9.mpr z))
      rw [hy hc]
      have hg := hq (E2, liS T s) ⟨y2, slk_mo mo_li hs9⟩
      rw [nI_pp]
      exact hg
