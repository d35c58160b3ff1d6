/-! Night: goOver, firstTired, nextEvent -/
theorem lf_congr {E : HP} {l : Nat} {f g : Nat → Nat → Int32} (h : LF E l f) (e : ∀ i, i < l → ∀ k, k < 5 → f k i = g k i) : LF E l g := fun i hi k hk => (h i hi k hk).trans (e i hi k hk)
theorem awk_congr {V : NV} {f g : Nat → Nat → Int32} {p t : Nat} (e : f 2 p = g 2 p) : awkF V f p t = awkF V g p t := by unfold awkF; rw [e]
/-- of 80's numbers only the count of woken has changed; no array has -/
def W80 (E E2 : HP) (c : Nat) : Prop := gI E2 265 80 = gI E 265 80 + nI c ∧ (∀ g, g ≠ 265 → gI E2 g 80 = gI E g 80) ∧ gA E2 = gA E
theorem w80_rfl {E : HP} : W80 E E 0 := ⟨by rw [show nI 0 = 0 from rfl, Int32.add_zero], fun _ _ => rfl, rfl⟩
theorem w80_wake {E E1 E2 : HP} {c : Nat} (h : W80 E E1 c) (h1 : gI E2 265 80 = gI E1 265 80 + 1) (h2 : ∀ g, g ≠ 265 → gI E2 g 80 = gI E1 g 80) (h3 : gA E2 = gA E1) : W80 E E2 (c + 1) := ⟨by rw [h1, h.1, Int32.add_assoc, nI_pp], fun g hg => (h2 g hg).trans (h.2.1 g hg), h3.trans h.2.2⟩
/-- one more looked at: woken -/
theorem woken_yes {f : Nat → Nat → Int32} {w : Nat → Bool} {t k9 : Nat} (hw : w k9 = true) (k i : Nat) : wokenF (wokenF f (fun q => decide (q < k9) && w q) t) (fun q => decide (q = k9)) t k i = wokenF f (fun q => decide (q < k9 + 1) && w q) t k i := by
  unfold wokenF
  by_cases hi : i = k9
  · subst hi; simp [hw]
  · have e : (i < k9 + 1) = (i < k9) := propext (by omega)
    simp [hi, e]
theorem woken_no {f : Nat → Nat → Int32} {w : Nat → Bool} {t k9 : Nat} (hw : w k9 = false) (k i : Nat) : wokenF f (fun q => decide (q < k9) && w q) t k i = wokenF f (fun q => decide (q < k9 + 1) && w q) t k i := by
  unfold wokenF
  by_cases hi : i = k9
  · subst hi; simp [hw]
  · have e : (i < k9 + 1) = (i < k9) := propext (by omega)
    simp [e]
theorem woken_at {f : Nat → Nat → Int32} {w : Nat → Bool} {t k9 : Nat} (k : Nat) : wokenF f (fun q => decide (q < k9) && w q) t k k9 = f k k9 := by
  unfold wokenF
  simp
theorem cntF_s {w : Nat → Bool} {a k : Nat} (h : a ≤ k) : cntF w a (k + 1 - a) = cntF w a (k - a) + (if w k then 1 else 0) := by
  rw [show k + 1 - a = (k - a) + 1 by omega]
  show cntF w a (k - a) + (if w (a + (k - a)) then 1 else 0) = _
  rw [show a + (k - a) = k by omega]
set_option maxRecDepth 20000 in
theorem c_X2_goOver {d b p0 t p : Nat} {V : NV} {S : NS} {E : HP} (hc : NC E b p0 V t) (hf : LF E (vL V) (nA S)) (hk : p < vL V) : ∃ o, (∃ E2, o = (.inl none, E2, 137) ∧ NF b E E2 ∧ LF E2 (vL V) (nA (overF V S p t)) ∧ W80 E E2 (cntF (overW V S p t) (p + 1) (vL V - (p + 1)))) ∧ Cl yX2_goOver mX2_goOver (d + 2) 0 0 [.ref 80, .int (nI p)] E 137 o := by
  obtain ⟨okn, ov, ot, ot6, ol⟩ := id hc
  obtain ⟨v1, v2, v3, v4, v5, v6, v7, v8, v9, v10, v11⟩ := id ov
  obtain ⟨n1, n2, n3, n4, n5, n6, n7, n8, n9, n10, n11, n12, n13, n14⟩ := id okn
  obtain ⟨p1, p2, p3, p4, p5, p6⟩ := id n11
  refine Cx.of (by decide) rfl (fun q => by cases q) rfl rfl (Nat.le_of_ble_eq_true rfl) ?_
  show Sx _ _ _ _ _ 0 [some (.ref 80), some (.int (nI p)), none, none] [] _ _
  have loop := sxUp (S := fun k9 E1 => Sx mX2_goOver (d + 2) 0 0 (fun o => ∃ E2, o = (.inl none, E2, 137) ∧ NF b E E2 ∧ LF E2 (vL V) (nA (overF V S p t)) ∧ W80 E E2 (cntF (overW V S p t) (p + 1) (vL V - (p + 1)))) 4 [some (.ref 80), some (.int (nI p)), some (.int (nI k9)), none] [] E1 137) (Inv := fun k9 E1 => NF b E E1 ∧ LF E1 (vL V) (wokenF (nA S) (fun q => decide (q < k9) && overW V S p t q) t) ∧ W80 E E1 (cntF (overW V S p t) (p + 1) (k9 - (p + 1)))) (a := p + 1) (l := vL V) (by omega) ?_ ?_ E ⟨nf_rfl, lf_congr hf (fun i hi k hk => ?_), by rw [Nat.sub_self]; exact w80_rfl⟩
  refine Sx.up (fun _ kk => r_iload_n 1 dX2_goOver_0 rfl rfl kk) ?_
  refine Sx.up (fun _ kk => r_iconst (1) 2 dX2_goOver_1 rfl (by decide) kk) ?_
  refine Sx.up (fun _ kk => r_iadd 3 dX2_goOver_2 rfl kk) ?_
  refine Sx.up (fun _ kk => r_istore_n 4 dX2_goOver_3 rfl (by decide) rfl kk) ?_
  rw [nI_pp]
  exact loop
  · intro E1 ⟨hN, hL, hW⟩
    have v1b : gI E1 514 p0 = nI (vL V) := (nc_nf hN hc).2.1.1
    refine Sx.up (fun _ kk => r_iload_n 5 dX2_goOver_4 rfl rfl kk) ?_
    refine Sx.up (fun _ kk => r_aload_n 6 dX2_goOver_5 rfl rfl kk) ?_
    refine Sx.up (fun _ kk => r_getR 9 dX2_goOver_6 rfl f2_52 rfl (by first | with_reducible assumption | exact Nat.le_of_ble_eq_true rfl | with_reducible exact bo_1 n10 | with_reducible exact bo_n n10 | with_reducible exact ro_1 p4 | with_reducible exact ro_6 p4 | with_reducible exact ro_1 p5 | with_reducible exact ro_6 p5 | with_reducible exact ro_1 n8 | with_reducible exact ro_6 n8 | with_reducible exact ro_1 n9 | with_reducible exact ro_6 n9 | rfl | exact sr_gR hN.1 (by with_reducible assumption) | (rw [liId_nI hk9 v2]; exact sh_li (by omega)) | (rw [liId_nI hk9 v2]; omega)) (by first | with_reducible assumption | exact Nat.le_of_ble_eq_true rfl | with_reducible exact bo_1 n10 | with_reducible exact bo_n n10 | with_reducible exact ro_1 p4 | with_reducible exact ro_6 p4 | with_reducible exact ro_1 p5 | with_reducible exact ro_6 p5 | with_reducible exact ro_1 n8 | with_reducible exact ro_6 n8 | with_reducible exact ro_1 n9 | with_reducible exact ro_6 n9 | rfl | exact sr_gR hN.1 (by with_reducible assumption) | (rw [liId_nI hk9 v2]; exact sh_li (by omega)) | (rw [liId_nI hk9 v2]; omega)) (by first | with_reducible assumption | exact Nat.le_of_ble_eq_true rfl | with_reducible exact bo_1 n10 | with_reducible exact bo_n n10 | with_reducible exact ro_1 p4 | with_reducible exact ro_6 p4 | with_reducible exact ro_1 p5 | with_reducible exact ro_6 p5 | with_reducible exact ro_1 n8 | with_reducible exact ro_6 n8 | with_reducible exact ro_1 n9 | with_reducible exact ro_6 n9 | rfl | exact sr_gR hN.1 (by with_reducible assumption) | (rw [liId_nI hk9 v2]; exact sh_li (by omega)) | (rw [liId_nI hk9 v2]; omega)) kk) ?_
    refine Sx.up (fun _ kk => r_getI 12 dX2_goOver_9 rfl f2_86 rfl (by first | with_reducible assumption | exact Nat.le_of_ble_eq_true rfl | with_reducible exact bo_1 n10 | with_reducible exact bo_n n10 | with_reducible exact ro_1 p4 | with_reducible exact ro_6 p4 | with_reducible exact ro_1 p5 | with_reducible exact ro_6 p5 | with_reducible exact ro_1 n8 | with_reducible exact ro_6 n8 | with_reducible exact ro_1 n9 | with_reducible exact ro_6 n9 | rfl | exact sr_gR hN.1 (by with_reducible assumption) | (rw [liId_nI hk9 v2]; exact sh_li (by omega)) | (rw [liId_nI hk9 v2]; omega)) (by first | with_reducible assumption | exact Nat.le_of_ble_eq_true rfl | with_reducible exact bo_1 n10 | with_reducible exact bo_n n10 | with_reducible exact ro_1 p4 | with_reducible exact ro_6 p4 | with_reducible exact ro_1 p5 | with_reducible exact ro_6 p5 | with_reducible exact ro_1 n8 | with_reducible exact ro_6 n8 | with_reducible exact ro_1 n9 | with_reducible exact ro_6 n9 | rfl | exact sr_gR hN.1 (by with_reducible assumption) | (rw [liId_nI hk9 v2]; exact sh_li (by omega)) | (rw [liId_nI hk9 v2]; omega)) kk) ?_
    refine Sx.up (fun _ kk => r_icmp_ge 15 40 dX2_goOver_12 rfl (by decide) (fun _ => kk) (fun h12 => absurd (by rw [v1b]; exact nI_le (Nat.le_refl _) (by omega)) h12)) ?_
    refine ⟨_, ?_, r_vret dX2_goOver_40 rfl rfl rfl⟩
    refine ⟨_, rfl, hN, lf_congr hL (fun i hi k hk => ?_), hW⟩
    show wokenF (nA S) _ t k i = wokenF (nA S) (overW V S p t) t k i
    unfold wokenF
    simp [hi]
  · intro k9 E1 hk0 hk9 ⟨hN, hL, hW⟩ hq
    have hc1 := nc_nf hN hc
    have v1b : gI E1 514 p0 = nI (vL V) := hc1.2.1.1
    have okn1 := hc1.1
    have hov : (canF V k9 && !awkF V (wokenF (nA S) (fun q => decide (q < k9) && overW V S p t q) t) k9 t) = overW V S p t k9 := by
      rw [awk_congr (woken_at 2)]
      unfold overW
      rw [decide_eq_true (show p < k9 ∧ k9 < vL V from ⟨by omega, hk9⟩)]
      simp
    have hbw := c_X2_canBeWoken (d := d) hc1 hL hk9
    rw [hov, ← liId_nI hk9 v2] at hbw
    refine Sx.up (fun _ kk => r_iload_n 5 dX2_goOver_4 rfl rfl kk) ?_
    refine Sx.up (fun _ kk => r_aload_n 6 dX2_goOver_5 rfl rfl kk) ?_
    refine Sx.up (fun _ kk => r_getR 9 dX2_goOver_6 rfl f2_52 rfl (by first | with_reducible assumption | exact Nat.le_of_ble_eq_true rfl | with_reducible exact bo_1 n10 | with_reducible exact bo_n n10 | with_reducible exact ro_1 p4 | with_reducible exact ro_6 p4 | with_reducible exact ro_1 p5 | with_reducible exact ro_6 p5 | with_reducible exact ro_1 n8 | with_reducible exact ro_6 n8 | with_reducible exact ro_1 n9 | with_reducible exact ro_6 n9 | rfl | exact sr_gR hN.1 (by with_reducible assumption) | (rw [liId_nI hk9 v2]; exact sh_li (by omega)) | (rw [liId_nI hk9 v2]; omega)) (by first | with_reducible assumption | exact Nat.le_of_ble_eq_true rfl | with_reducible exact bo_1 n10 | with_reducible exact bo_n n10 | with_reducible exact ro_1 p4 | with_reducible exact ro_6 p4 | with_reducible exact ro_1 p5 | with_reducible exact ro_6 p5 | with_reducible exact ro_1 n8 | with_reducible exact ro_6 n8 | with_reducible exact ro_1 n9 | with_reducible exact ro_6 n9 | rfl | exact sr_gR hN.1 (by with_reducible assumption) | (rw [liId_nI hk9 v2]; exact sh_li (by omega)) | (rw [liId_nI hk9 v2]; omega)) (by first | with_reducible assumption | exact Nat.le_of_ble_eq_true rfl | with_reducible exact bo_1 n10 | with_reducible exact bo_n n10 | with_reducible exact ro_1 p4 | with_reducible exact ro_6 p4 | with_reducible exact ro_1 p5 | with_reducible exact ro_6 p5 | with_reducible exact ro_1 n8 | with_reducible exact ro_6 n8 | with_reducible exact ro_1 n9 | with_reducible exact ro_6 n9 | rfl | exact sr_gR hN.1 (by with_reducible assumption) | (rw [liId_nI hk9 v2]; exact sh_li (by omega)) | (rw [liId_nI hk9 v2]; omega)) kk) ?_
    refine Sx.up (fun _ kk => r_getI 12 dX2_goOver_9 rfl f2_86 rfl (by first | with_reducible assumption | exact Nat.le_of_ble_eq_true rfl | with_reducible exact bo_1 n10 | with_reducible exact bo_n n10 | with_reducible exact ro_1 p4 | with_reducible exact ro_6 p4 | with_reducible exact ro_1 p5 | with_reducible exact ro_6 p5 | with_reducible exact ro_1 n8 | with_reducible exact ro_6 n8 | with_reducible exact ro_1 n9 | with_reducible exact ro_6 n9 | rfl | exact sr_gR hN.1 (by with_reducible assumption) | (rw [liId_nI hk9 v2]; exact sh_li (by omega)) | (rw [liId_nI hk9 v2]; omega)) (by first | with_reducible assumption | exact Nat.le_of_ble_eq_true rfl | with_reducible exact bo_1 n10 | with_reducible exact bo_n n10 | with_reducible exact ro_1 p4 | with_reducible exact ro_6 p4 | with_reducible exact ro_1 p5 | with_reducible exact ro_6 p5 | with_reducible exact ro_1 n8 | with_reducible exact ro_6 n8 | with_reducible exact ro_1 n9 | with_reducible exact ro_6 n9 | rfl | exact sr_gR hN.1 (by with_reducible assumption) | (rw [liId_nI hk9 v2]; exact sh_li (by omega)) | (rw [liId_nI hk9 v2]; omega)) kk) ?_
    refine Sx.up (fun _ kk => r_icmp_ge 15 40 dX2_goOver_12 rfl (by decide) (fun h12 => absurd h12 (by rw [v1b]; exact nI_ge hk9 (by omega))) (fun _ => kk)) ?_
    refine Sx.up (fun _ kk => r_aload_n 16 dX2_goOver_15 rfl rfl kk) ?_
    refine Sx.up (fun _ kk => r_iload_n 17 dX2_goOver_16 rfl rfl kk) ?_
    refine Sx.up (fun _ kk => r_callV (M := mX2_goOver) (pc := 17) 20 dX2_goOver_17 rfl k2_98 (c_X2_lierIn okn1 v1b v2) rfl rfl (by first | with_reducible assumption | exact Nat.le_of_ble_eq_true rfl | with_reducible exact bo_1 n10 | with_reducible exact bo_n n10 | with_reducible exact ro_1 p4 | with_reducible exact ro_6 p4 | with_reducible exact ro_1 p5 | with_reducible exact ro_6 p5 | with_reducible exact ro_1 n8 | with_reducible exact ro_6 n8 | with_reducible exact ro_1 n9 | with_reducible exact ro_6 n9 | rfl | exact sr_gR hN.1 (by with_reducible assumption) | (rw [liId_nI hk9 v2]; exact sh_li (by omega)) | (rw [liId_nI hk9 v2]; omega)) (by decide) rfl (by first | with_reducible assumption | exact Nat.le_of_ble_eq_true rfl | with_reducible exact bo_1 n10 | with_reducible exact bo_n n10 | with_reducible exact ro_1 p4 | with_reducible exact ro_6 p4 | with_reducible exact ro_1 p5 | with_reducible exact ro_6 p5 | with_reducible exact ro_1 n8 | with_reducible exact ro_6 n8 | with_reducible exact ro_1 n9 | with_reducible exact ro_6 n9 | rfl | exact sr_gR hN.1 (by with_reducible assumption) | (rw [liId_nI hk9 v2]; exact sh_li (by omega)) | (rw [liId_nI hk9 v2]; omega)) (Nat.le_of_ble_eq_true rfl) kk) ?_
    refine Sx.up (fun _ kk => r_astore_n 21 dX2_goOver_20 rfl (by decide) rfl kk) ?_
    refine Sx.up (fun _ kk => r_aload_n 22 dX2_goOver_21 rfl rfl kk) ?_
    refine Sx.up (fun _ kk => r_aload_n 23 dX2_goOver_22 rfl rfl kk) ?_
    refine Sx.up (fun _ kk => r_callV (M := mX2_goOver) (pc := 23) 26 dX2_goOver_23 rfl k2_165 hbw rfl rfl (by first | with_reducible assumption | exact Nat.le_of_ble_eq_true rfl | with_reducible exact bo_1 n10 | with_reducible exact bo_n n10 | with_reducible exact ro_1 p4 | with_reducible exact ro_6 p4 | with_reducible exact ro_1 p5 | with_reducible exact ro_6 p5 | with_reducible exact ro_1 n8 | with_reducible exact ro_6 n8 | with_reducible exact ro_1 n9 | with_reducible exact ro_6 n9 | rfl | exact sr_gR hN.1 (by with_reducible assumption) | (rw [liId_nI hk9 v2]; exact sh_li (by omega)) | (rw [liId_nI hk9 v2]; omega)) (by decide) rfl (by first | with_reducible assumption | exact Nat.le_of_ble_eq_true rfl | with_reducible exact bo_1 n10 | with_reducible exact bo_n n10 | with_reducible exact ro_1 p4 | with_reducible exact ro_6 p4 | with_reducible exact ro_1 p5 | with_reducible exact ro_6 p5 | with_reducible exact ro_1 n8 | with_reducible exact ro_6 n8 | with_reducible exact ro_1 n9 | with_reducible exact ro_6 n9 | rfl | exact sr_gR hN.1 (by with_reducible assumption) | (rw [liId_nI hk9 v2]; exact sh_li (by omega)) | (rw [liId_nI hk9 v2]; omega)) (Nat.le_of_ble_eq_true rfl) kk) ?_
    refine Sx.br (fun _ ka kb => r_if_eq 29 34 dX2_goOver_26 rfl (by decide) ka kb) (by first | exact em1 | exact em2) (fun h26 => ?_) (fun h26 => ?_)
    · refine Sx.up (fun _ kk => r_iinc (1) 37 dX2_goOver_34 rfl rfl (by decide) (by decide) rfl kk) ?_
      refine Sx.up (fun _ kk => r_goto 4 dX2_goOver_37 (by decide) kk) ?_
      rw [nI_pp]
      refine Sx.less (ls := [some (.ref 80), some (.int (nI p)), some (.int (nI (k9 + 1))), none]) ⟨rfl, rfl, rfl, trivial⟩ (hq _ ⟨hN, lf_congr hL (fun i _ k _ => woken_no (b0 h26) k i), by rw [cntF_s (by omega), b0 h26]; exact hW⟩)
    · refine Sx.up (fun _ kk => r_aload_n 30 dX2_goOver_29 rfl rfl kk) ?_
      refine Sx.up (fun _ kk => r_aload_n 31 dX2_goOver_30 rfl rfl kk) ?_
      obtain ⟨_, ⟨E2, rfl, hN2, hL2, c1, c2, c3⟩, hcl⟩ := c_X2_wake (d := d + 1) hc1 hL hk9
      rw [← liId_nI hk9 v2] at hcl
      refine Sx.up (fun _ kk => r_callV (M := mX2_goOver) (pc := 31) 34 dX2_goOver_31 rfl k2_173 hcl rfl rfl (by first | with_reducible assumption | exact Nat.le_of_ble_eq_true rfl | with_reducible exact bo_1 n10 | with_reducible exact bo_n n10 | with_reducible exact ro_1 p4 | with_reducible exact ro_6 p4 | with_reducible exact ro_1 p5 | with_reducible exact ro_6 p5 | with_reducible exact ro_1 n8 | with_reducible exact ro_6 n8 | with_reducible exact ro_1 n9 | with_reducible exact ro_6 n9 | rfl | exact sr_gR hN.1 (by with_reducible assumption) | (rw [liId_nI hk9 v2]; exact sh_li (by omega)) | (rw [liId_nI hk9 v2]; omega)) (by decide) rfl (by first | with_reducible assumption | exact Nat.le_of_ble_eq_true rfl | with_reducible exact bo_1 n10 | with_reducible exact bo_n n10 | with_reducible exact ro_1 p4 | with_reducible exact ro_6 p4 | with_reducible exact ro_1 p5 | with_reducible exact ro_6 p5 | with_reducible exact ro_1 n8 | with_reducible exact ro_6 n8 | with_reducible exact ro_1 n9 | with_reducible exact ro_6 n9 | rfl | exact sr_gR hN.1 (by with_reducible assumption) | (rw [liId_nI hk9 v2]; exact sh_li (by omega)) | (rw [liId_nI hk9 v2]; omega)) (Nat.le_of_ble_eq_true rfl) kk) ?_
      refine Sx.up (fun _ kk => r_iinc (1) 37 dX2_goOver_34 rfl rfl (by decide) (by decide) rfl kk) ?_
      refine Sx.up (fun _ kk => r_goto 4 dX2_goOver_37 (by decide) kk) ?_
      rw [nI_pp]
      refine Sx.less (ls := [some (.ref 80), some (.int (nI p)), some (.int (nI (k9 + 1))), none]) ⟨rfl, rfl, rfl, trivial⟩ (hq _ ⟨nf_tr hN hN2, lf_congr hL2 (fun i _ k _ => woken_yes (b1 h26) k i), by rw [cntF_s (by omega), b1 h26]; exact w80_wake hW c1 c2 c3⟩)
  · show nA S k i = wokenF (nA S) (fun q => decide (q < p + 1) && overW V S p t q) t k i
    unfold wokenF overW
    by_cases h1 : i < p + 1
    · have h2 : ¬ p < i := by omega
      simp [h2]
    · simp [h1]
theorem tired_of {E : HP} {b p t k : Nat} {V : NV} {S : NS} (hc : NC E b p V t) (hf : LF E (vL V) (nA S)) (hk : k < vL V) : liIs E (88 + k) (wI b V k) (gI E 263 80) = bI (tiredF V S k t) := by
  have h5 := lf_get hf hk
  have h6 := hc.2.1.2.2.1 k hk
  unfold liIs liTired tiredF bI
  rw [hc.2.2.1, h6.2.1, h6.2.2.1, h6.2.2.2.1, h5.1, h5.2.1]
  by_cases h1 : vA V 1 k = 3
  · simp [h1]
  · rw [if_neg h1]
    by_cases h2 : nI t < nA S 1 k + (if nA S 0 k = 0 then vA V 2 k else vA V 3 k)
    · rw [if_pos h2, if_neg]
      simp only [decide_eq_true_eq]
      exact fun z => absurd z.2 (Int32.not_le.mpr h2)
    · rw [if_neg h2, if_pos]
      simp only [decide_eq_true_eq]
      exact ⟨h1, Int32.not_lt.mp h2⟩
def firstId (V : NV) (S : NS) (t a k : Nat) : Nat := match firstF V S t a k with
  | none => 86
  | some q => 88 + q
theorem firstId_s {V : NV} {S : NS} {t a k : Nat} : firstId V S t a (k + 1) = if tiredF V S a t = true then 88 + a else firstId V S t (a + 1) k := by
  unfold firstId
  conv => lhs; unfold firstF
  by_cases h : tiredF V S a t = true <;> simp [h]
set_option maxRecDepth 20000 in
theorem c_X2_firstTired {d b p t a e : Nat} {V : NV} {S : NS} {E : HP} (hc : NC E b p V t) (hf : LF E (vL V) (nA S)) (hae : a ≤ e) (hel : e ≤ vL V) : Cl yX2_firstTired mX2_firstTired (d + 2) 0 0 [.ref 80, .int (nI a), .int (nI e)] E 137 (.inl (some (.ref (firstId V S t a (e - a)))), E, 137) := by
  obtain ⟨okn, ov, ot, ot6, ol⟩ := id hc
  obtain ⟨v1, v2, v3, v4, v5, v6, v7, v8, v9, v10, v11⟩ := id ov
  obtain ⟨n1, n2, n3, n4, n5, n6, n7, n8, n9, n10, n11, n12, n13, n14⟩ := id okn
  obtain ⟨p1, p2, p3, p4, p5, p6⟩ := id n11
  refine Cl.of (by decide) rfl (fun q => by cases q) rfl rfl (Nat.le_of_ble_eq_true rfl) ?_
  show Sm _ _ _ _ _ 0 [some (.ref 80), some (.int (nI a)), some (.int (nI e)), none, none] [] _ _
  have loop := loopUpFrom (P := fun k9 => firstId V S t a (e - a) = firstId V S t k9 (e - k9) → Sm mX2_firstTired (d + 2) 0 0 (.inl (some (.ref (firstId V S t a (e - a)))), E, 137) 2 [some (.ref 80), some (.int (nI a)), some (.int (nI e)), some (.int (nI k9)), none] [] E 137) (a := a) (l := e) hae ?_ ?_
  refine r_iload_n 1 dX2_firstTired_0 rfl rfl ?_
  refine r_istore_n 2 dX2_firstTired_1 rfl (by decide) rfl ?_
  exact loop rfl
  · intro hP
    refine r_iload_n 3 dX2_firstTired_2 rfl rfl ?_
    refine r_iload_n 4 dX2_firstTired_3 rfl rfl ?_
    refine r_icmp_ge 7 35 dX2_firstTired_4 rfl (by decide) (fun h4 => ?_) (fun h4 => absurd (nI_le (Nat.le_refl _) (by omega)) h4)
    refine r_aload_n 36 dX2_firstTired_35 rfl rfl ?_
    refine r_getR 39 dX2_firstTired_36 rfl f2_62 rfl (by first | with_reducible assumption | exact Nat.le_of_ble_eq_true rfl | with_reducible exact bo_1 n10 | with_reducible exact bo_n n10 | with_reducible exact ro_1 p4 | with_reducible exact ro_6 p4 | with_reducible exact ro_1 p5 | with_reducible exact ro_6 p5 | with_reducible exact ro_1 n8 | with_reducible exact ro_6 n8 | with_reducible exact ro_1 n9 | with_reducible exact ro_6 n9 | rfl) (by first | with_reducible assumption | exact Nat.le_of_ble_eq_true rfl | with_reducible exact bo_1 n10 | with_reducible exact bo_n n10 | with_reducible exact ro_1 p4 | with_reducible exact ro_6 p4 | with_reducible exact ro_1 p5 | with_reducible exact ro_6 p5 | with_reducible exact ro_1 n8 | with_reducible exact ro_6 n8 | with_reducible exact ro_1 n9 | with_reducible exact ro_6 n9 | rfl) (by first | with_reducible assumption | exact Nat.le_of_ble_eq_true rfl | with_reducible exact bo_1 n10 | with_reducible exact bo_n n10 | with_reducible exact ro_1 p4 | with_reducible exact ro_6 p4 | with_reducible exact ro_1 p5 | with_reducible exact ro_6 p5 | with_reducible exact ro_1 n8 | with_reducible exact ro_6 n8 | with_reducible exact ro_1 n9 | with_reducible exact ro_6 n9 | rfl) ?_
    exact r_aret dX2_firstTired_39 rfl rfl (by rw [hP, Nat.sub_self]; rfl)
  · intro k9 hk0 hk9 hq hP
    have hkl : k9 < vL V := by omega
    have hf9 : firstId V S t a (e - a) = if tiredF V S k9 t = true then 88 + k9 else firstId V S t (k9 + 1) (e - (k9 + 1)) := by rw [hP, show e - k9 = (e - (k9 + 1)) + 1 by omega, firstId_s]
    have hw : sh (wI b V k9) = (8, 0) ∧ wI b V k9 < 137 := who_sh n10 (vA V 0 k9)
    have hit := c_X1_isTired (d := d) (m := gI E 263 80) (sh_li (show k9 < 7 by omega)) (by omega) (ol k9 hkl).1 hw.1 hw.2
    rw [tired_of hc hf hkl] at hit
    have hsl := sh_li (show k9 < 7 by omega)
    have h88 : 88 + k9 < 137 := by omega
    have hli := c_X2_lierIn (d := d + 1) (x := nI k9) okn v1 v2
    rw [liId_nI hkl v2] at hli
    refine r_iload_n 3 dX2_firstTired_2 rfl rfl ?_
    refine r_iload_n 4 dX2_firstTired_3 rfl rfl ?_
    refine r_icmp_ge 7 35 dX2_firstTired_4 rfl (by decide) (fun h4 => absurd h4 (nI_ge hk9 (by omega))) (fun h4 => ?_)
    refine r_aload_n 8 dX2_firstTired_7 rfl rfl ?_
    refine r_iload_n 9 dX2_firstTired_8 rfl rfl ?_
    refine r_callV (M := mX2_firstTired) (pc := 9) 12 dX2_firstTired_9 rfl k2_98 hli rfl rfl (by first | with_reducible assumption | exact Nat.le_of_ble_eq_true rfl | with_reducible exact bo_1 n10 | with_reducible exact bo_n n10 | with_reducible exact ro_1 p4 | with_reducible exact ro_6 p4 | with_reducible exact ro_1 p5 | with_reducible exact ro_6 p5 | with_reducible exact ro_1 n8 | with_reducible exact ro_6 n8 | with_reducible exact ro_1 n9 | with_reducible exact ro_6 n9 | rfl | (rw [liId_nI hkl v2]; exact sh_li (by omega)) | (rw [liId_nI hkl v2]; omega)) (by decide) rfl (by first | with_reducible assumption | exact Nat.le_of_ble_eq_true rfl | with_reducible exact bo_1 n10 | with_reducible exact bo_n n10 | with_reducible exact ro_1 p4 | with_reducible exact ro_6 p4 | with_reducible exact ro_1 p5 | with_reducible exact ro_6 p5 | with_reducible exact ro_1 n8 | with_reducible exact ro_6 n8 | with_reducible exact ro_1 n9 | with_reducible exact ro_6 n9 | rfl | (rw [liId_nI hkl v2]; exact sh_li (by omega)) | (rw [liId_nI hkl v2]; omega)) (Nat.le_of_ble_eq_true rfl) ?_
    refine r_astore 14 dX2_firstTired_12 rfl (by decide) rfl ?_
    refine r_aload 16 dX2_firstTired_14 rfl rfl ?_
    refine r_aload_n 17 dX2_firstTired_16 rfl rfl ?_
    refine r_getI 20 dX2_firstTired_17 rfl f2_33 rfl (by first | with_reducible assumption | exact Nat.le_of_ble_eq_true rfl | with_reducible exact bo_1 n10 | with_reducible exact bo_n n10 | with_reducible exact ro_1 p4 | with_reducible exact ro_6 p4 | with_reducible exact ro_1 p5 | with_reducible exact ro_6 p5 | with_reducible exact ro_1 n8 | with_reducible exact ro_6 n8 | with_reducible exact ro_1 n9 | with_reducible exact ro_6 n9 | rfl | (rw [liId_nI hkl v2]; exact sh_li (by omega)) | (rw [liId_nI hkl v2]; omega)) (by first | with_reducible assumption | exact Nat.le_of_ble_eq_true rfl | with_reducible exact bo_1 n10 | with_reducible exact bo_n n10 | with_reducible exact ro_1 p4 | with_reducible exact ro_6 p4 | with_reducible exact ro_1 p5 | with_reducible exact ro_6 p5 | with_reducible exact ro_1 n8 | with_reducible exact ro_6 n8 | with_reducible exact ro_1 n9 | with_reducible exact ro_6 n9 | rfl | (rw [liId_nI hkl v2]; exact sh_li (by omega)) | (rw [liId_nI hkl v2]; omega)) ?_
    refine r_callV (M := mX2_firstTired) (pc := 20) 23 dX2_firstTired_20 rfl k2_159 hit rfl rfl (by first | with_reducible assumption | exact Nat.le_of_ble_eq_true rfl | with_reducible exact bo_1 n10 | with_reducible exact bo_n n10 | with_reducible exact ro_1 p4 | with_reducible exact ro_6 p4 | with_reducible exact ro_1 p5 | with_reducible exact ro_6 p5 | with_reducible exact ro_1 n8 | with_reducible exact ro_6 n8 | with_reducible exact ro_1 n9 | with_reducible exact ro_6 n9 | rfl | (rw [liId_nI hkl v2]; exact sh_li (by omega)) | (rw [liId_nI hkl v2]; omega)) (by decide) rfl (by first | with_reducible assumption | exact Nat.le_of_ble_eq_true rfl | with_reducible exact bo_1 n10 | with_reducible exact bo_n n10 | with_reducible exact ro_1 p4 | with_reducible exact ro_6 p4 | with_reducible exact ro_1 p5 | with_reducible exact ro_6 p5 | with_reducible exact ro_1 n8 | with_reducible exact ro_6 n8 | with_reducible exact ro_1 n9 | with_reducible exact ro_6 n9 | rfl | (rw [liId_nI hkl v2]; exact sh_li (by omega)) | (rw [liId_nI hkl v2]; omega)) (Nat.le_of_ble_eq_true rfl) ?_
    refine r_if_eq 26 29 dX2_firstTired_23 rfl (by decide) (fun h23 => ?_) (fun h23 => ?_)
    · refine r_iinc (1) 32 dX2_firstTired_29 rfl rfl (by decide) (by decide) rfl ?_
      refine r_goto 2 dX2_firstTired_32 (by decide) ?_
      rw [nI_pp]
      refine Sm.less (ls := [some (.ref 80), some (.int (nI a)), some (.int (nI e)), some (.int (nI (k9 + 1))), none]) ⟨rfl, rfl, rfl, rfl, trivial⟩ (hq ?_)
      rw [hf9, if_neg (by rw [b0 h23]; decide)]
    · refine r_aload 28 dX2_firstTired_26 rfl rfl ?_
      exact r_aret dX2_firstTired_28 rfl rfl (by rw [hf9, if_pos (b1 h23)])
/-- v is no later than the next minute in which something may be: of the word, of those at the places below k -/
def NE (V : NV) (S : NS) (t k : Nat) (v : Int32) : Prop := (0 < vS V 0 → v ≤ nI t - (nI t - nI t / vS V 0 * vS V 0) + vS V 0) ∧ (∀ i, i < k → (¬ vA V 1 i = 3 → v ≤ nA S 1 i + (if nA S 0 i = 0 then vA V 2 i else vA V 3 i)) ∧ (nI t < vA V 5 i → v ≤ vA V 5 i))
theorem minF_l {x y : Int32} : minF x y ≤ x := by
  unfold minF
  split
  · rename_i h; exact Int32.le_of_lt h
  · exact Int32.le_refl _
theorem minF_r {x y : Int32} : minF x y ≤ y := by
  unfold minF
  split
  · exact Int32.le_refl _
  · rename_i h; exact Int32.not_lt.mp h
theorem ne_le {V : NV} {S : NS} {t k : Nat} {v w : Int32} (h : NE V S t k v) (hw : w ≤ v) : NE V S t k w := ⟨fun z => Int32.le_trans hw (h.1 z), fun i hi => ⟨fun z => Int32.le_trans hw ((h.2 i hi).1 z), fun z => Int32.le_trans hw ((h.2 i hi).2 z)⟩⟩
theorem ne_s {V : NV} {S : NS} {t k : Nat} {v : Int32} (h : NE V S t k v) (h1 : ¬ vA V 1 k = 3 → v ≤ nA S 1 k + (if nA S 0 k = 0 then vA V 2 k else vA V 3 k)) (h2 : nI t < vA V 5 k → v ≤ vA V 5 k) : NE V S t (k + 1) v := ⟨h.1, fun i hi => by
  rcases Nat.lt_or_ge i k with q | q
  · exact h.2 i q
  · rw [show i = k by omega]; exact ⟨h1, h2⟩⟩
set_option maxRecDepth 20000 in
theorem c_X2_nextEvent {d b p t : Nat} {V : NV} {S : NS} {E : HP} (hc : NC E b p V t) (hf : LF E (vL V) (nA S)) : ∃ o, (∃ v, o = (.inl (some (.int v)), E, 137) ∧ NE V S t (vL V) v) ∧ Cl yX2_nextEvent mX2_nextEvent (d + 1) 0 0 [.ref 80] E 137 o := by
  obtain ⟨okn, ov, ot, ot6, ol⟩ := id hc
  obtain ⟨v1, v2, v3, v4, v5, v6, v7, v8, v9, v10, v11⟩ := id ov
  obtain ⟨n1, n2, n3, n4, n5, n6, n7, n8, n9, n10, n11, n12, n13, n14⟩ := id okn
  obtain ⟨p1, p2, p3, p4, p5, p6⟩ := id n11
  refine Cx.of (by decide) rfl (fun q => by cases q) rfl rfl (Nat.le_of_ble_eq_true rfl) ?_
  show Sx _ _ _ _ _ 0 [some (.ref 80), none, none, none] [] _ _
  have loop := sxUp (S := fun k9 v => Sx mX2_nextEvent (d + 1) 0 0 (fun o => ∃ v, o = (.inl (some (.int v)), E, 137) ∧ NE V S t (vL V) v) 46 [some (.ref 80), some (.int v), some (.int (nI k9)), none] [] E 137) (Inv := fun k9 v => NE V S t k9 v) (a := 0) (l := vL V) (by omega) ?_ ?_
  refine Sx.up (fun _ kk => r_sipush (601) 3 dX2_nextEvent_0 rfl (by decide) kk) ?_
  refine Sx.up (fun _ kk => r_istore_n 4 dX2_nextEvent_3 rfl (by decide) rfl kk) ?_
  refine Sx.up (fun _ kk => r_aload_n 5 dX2_nextEvent_4 rfl rfl kk) ?_
  refine Sx.up (fun _ kk => r_getR 8 dX2_nextEvent_5 rfl f2_52 rfl (by first | with_reducible assumption | exact Nat.le_of_ble_eq_true rfl | with_reducible exact bo_1 n10 | with_reducible exact bo_n n10 | with_reducible exact ro_1 p4 | with_reducible exact ro_6 p4 | with_reducible exact ro_1 p5 | with_reducible exact ro_6 p5 | with_reducible exact ro_1 n8 | with_reducible exact ro_6 n8 | with_reducible exact ro_1 n9 | with_reducible exact ro_6 n9 | rfl) (by first | with_reducible assumption | exact Nat.le_of_ble_eq_true rfl | with_reducible exact bo_1 n10 | with_reducible exact bo_n n10 | with_reducible exact ro_1 p4 | with_reducible exact ro_6 p4 | with_reducible exact ro_1 p5 | with_reducible exact ro_6 p5 | with_reducible exact ro_1 n8 | with_reducible exact ro_6 n8 | with_reducible exact ro_1 n9 | with_reducible exact ro_6 n9 | rfl) (by first | with_reducible assumption | exact Nat.le_of_ble_eq_true rfl | with_reducible exact bo_1 n10 | with_reducible exact bo_n n10 | with_reducible exact ro_1 p4 | with_reducible exact ro_6 p4 | with_reducible exact ro_1 p5 | with_reducible exact ro_6 p5 | with_reducible exact ro_1 n8 | with_reducible exact ro_6 n8 | with_reducible exact ro_1 n9 | with_reducible exact ro_6 n9 | rfl) kk) ?_
  refine Sx.up (fun _ kk => r_getI 11 dX2_nextEvent_8 rfl f2_119 rfl (by first | with_reducible assumption | exact Nat.le_of_ble_eq_true rfl | with_reducible exact bo_1 n10 | with_reducible exact bo_n n10 | with_reducible exact ro_1 p4 | with_reducible exact ro_6 p4 | with_reducible exact ro_1 p5 | with_reducible exact ro_6 p5 | with_reducible exact ro_1 n8 | with_reducible exact ro_6 n8 | with_reducible exact ro_1 n9 | with_reducible exact ro_6 n9 | rfl) (by first | with_reducible assumption | exact Nat.le_of_ble_eq_true rfl | with_reducible exact bo_1 n10 | with_reducible exact bo_n n10 | with_reducible exact ro_1 p4 | with_reducible exact ro_6 p4 | with_reducible exact ro_1 p5 | with_reducible exact ro_6 p5 | with_reducible exact ro_1 n8 | with_reducible exact ro_6 n8 | with_reducible exact ro_1 n9 | with_reducible exact ro_6 n9 | rfl) kk) ?_
  refine Sx.br (fun _ ka kb => r_if_le 14 44 dX2_nextEvent_11 rfl (by decide) ka kb) (by first | exact em1 | exact em2) (fun h11 => ?_) (fun h11 => ?_)
  · refine Sx.up (fun _ kk => r_iconst (0) 45 dX2_nextEvent_44 rfl (by decide) kk) ?_
    refine Sx.up (fun _ kk => r_istore_n 46 dX2_nextEvent_45 rfl (by decide) rfl kk) ?_
    refine loop _ ⟨?_, fun i hi => absurd hi (by omega)⟩
    exact fun z => absurd h11 (by rw [v4]; exact Int32.not_le.mpr z)
  · refine Sx.up (fun _ kk => r_iload_n 15 dX2_nextEvent_14 rfl rfl kk) ?_
    refine Sx.up (fun _ kk => r_aload_n 16 dX2_nextEvent_15 rfl rfl kk) ?_
    refine Sx.up (fun _ kk => r_getI 19 dX2_nextEvent_16 rfl f2_33 rfl (by first | with_reducible assumption | exact Nat.le_of_ble_eq_true rfl | with_reducible exact bo_1 n10 | with_reducible exact bo_n n10 | with_reducible exact ro_1 p4 | with_reducible exact ro_6 p4 | with_reducible exact ro_1 p5 | with_reducible exact ro_6 p5 | with_reducible exact ro_1 n8 | with_reducible exact ro_6 n8 | with_reducible exact ro_1 n9 | with_reducible exact ro_6 n9 | rfl) (by first | with_reducible assumption | exact Nat.le_of_ble_eq_true rfl | with_reducible exact bo_1 n10 | with_reducible exact bo_n n10 | with_reducible exact ro_1 p4 | with_reducible exact ro_6 p4 | with_reducible exact ro_1 p5 | with_reducible exact ro_6 p5 | with_reducible exact ro_1 n8 | with_reducible exact ro_6 n8 | with_reducible exact ro_1 n9 | with_reducible exact ro_6 n9 | rfl) kk) ?_
    refine Sx.up (fun _ kk => r_aload_n 20 dX2_nextEvent_19 rfl rfl kk) ?_
    refine Sx.up (fun _ kk => r_getI 23 dX2_nextEvent_20 rfl f2_33 rfl (by first | with_reducible assumption | exact Nat.le_of_ble_eq_true rfl | with_reducible exact bo_1 n10 | with_reducible exact bo_n n10 | with_reducible exact ro_1 p4 | with_reducible exact ro_6 p4 | with_reducible exact ro_1 p5 | with_reducible exact ro_6 p5 | with_reducible exact ro_1 n8 | with_reducible exact ro_6 n8 | with_reducible exact ro_1 n9 | with_reducible exact ro_6 n9 | rfl) (by first | with_reducible assumption | exact Nat.le_of_ble_eq_true rfl | with_reducible exact bo_1 n10 | with_reducible exact bo_n n10 | with_reducible exact ro_1 p4 | with_reducible exact ro_6 p4 | with_reducible exact ro_1 p5 | with_reducible exact ro_6 p5 | with_reducible exact ro_1 n8 | with_reducible exact ro_6 n8 | with_reducible exact ro_1 n9 | with_reducible exact ro_6 n9 | rfl) kk) ?_
    refine Sx.up (fun _ kk => r_aload_n 24 dX2_nextEvent_23 rfl rfl kk) ?_
    refine Sx.up (fun _ kk => r_getR 27 dX2_nextEvent_24 rfl f2_52 rfl (by first | with_reducible assumption | exact Nat.le_of_ble_eq_true rfl | with_reducible exact bo_1 n10 | with_reducible exact bo_n n10 | with_reducible exact ro_1 p4 | with_reducible exact ro_6 p4 | with_reducible exact ro_1 p5 | with_reducible exact ro_6 p5 | with_reducible exact ro_1 n8 | with_reducible exact ro_6 n8 | with_reducible exact ro_1 n9 | with_reducible exact ro_6 n9 | rfl) (by first | with_reducible assumption | exact Nat.le_of_ble_eq_true rfl | with_reducible exact bo_1 n10 | with_reducible exact bo_n n10 | with_reducible exact ro_1 p4 | with_reducible exact ro_6 p4 | with_reducible exact ro_1 p5 | with_reducible exact ro_6 p5 | with_reducible exact ro_1 n8 | with_reducible exact ro_6 n8 | with_reducible exact ro_1 n9 | with_reducible exact ro_6 n9 | rfl) (by first | with_reducible assumption | exact Nat.le_of_ble_eq_true rfl | with_reducible exact bo_1 n10 | with_reducible exact bo_n n10 | with_reducible exact ro_1 p4 | with_reducible exact ro_6 p4 | with_reducible exact ro_1 p5 | with_reducible exact ro_6 p5 | with_reducible exact ro_1 n8 | with_reducible exact ro_6 n8 | with_reducible exact ro_1 n9 | with_reducible exact ro_6 n9 | rfl) kk) ?_
    refine Sx.up (fun _ kk => r_getI 30 dX2_nextEvent_27 rfl f2_119 rfl (by first | with_reducible assumption | exact Nat.le_of_ble_eq_true rfl | with_reducible exact bo_1 n10 | with_reducible exact bo_n n10 | with_reducible exact ro_1 p4 | with_reducible exact ro_6 p4 | with_reducible exact ro_1 p5 | with_reducible exact ro_6 p5 | with_reducible exact ro_1 n8 | with_reducible exact ro_6 n8 | with_reducible exact ro_1 n9 | with_reducible exact ro_6 n9 | rfl) (by first | with_reducible assumption | exact Nat.le_of_ble_eq_true rfl | with_reducible exact bo_1 n10 | with_reducible exact bo_n n10 | with_reducible exact ro_1 p4 | with_reducible exact ro_6 p4 | with_reducible exact ro_1 p5 | with_reducible exact ro_6 p5 | with_reducible exact ro_1 n8 | with_reducible exact ro_6 n8 | with_reducible exact ro_1 n9 | with_reducible exact ro_6 n9 | rfl) kk) ?_
    refine Sx.up (fun _ kk => r_irem 31 dX2_nextEvent_30 rfl (by intro z; rw [z] at h11; exact h11 (by decide)) kk) ?_
    refine Sx.up (fun _ kk => r_isub 32 dX2_nextEvent_31 rfl kk) ?_
    refine Sx.up (fun _ kk => r_aload_n 33 dX2_nextEvent_32 rfl rfl kk) ?_
    refine Sx.up (fun _ kk => r_getR 36 dX2_nextEvent_33 rfl f2_52 rfl (by first | with_reducible assumption | exact Nat.le_of_ble_eq_true rfl | with_reducible exact bo_1 n10 | with_reducible exact bo_n n10 | with_reducible exact ro_1 p4 | with_reducible exact ro_6 p4 | with_reducible exact ro_1 p5 | with_reducible exact ro_6 p5 | with_reducible exact ro_1 n8 | with_reducible exact ro_6 n8 | with_reducible exact ro_1 n9 | with_reducible exact ro_6 n9 | rfl) (by first | with_reducible assumption | exact Nat.le_of_ble_eq_true rfl | with_reducible exact bo_1 n10 | with_reducible exact bo_n n10 | with_reducible exact ro_1 p4 | with_reducible exact ro_6 p4 | with_reducible exact ro_1 p5 | with_reducible exact ro_6 p5 | with_reducible exact ro_1 n8 | with_reducible exact ro_6 n8 | with_reducible exact ro_1 n9 | with_reducible exact ro_6 n9 | rfl) (by first | with_reducible assumption | exact Nat.le_of_ble_eq_true rfl | with_reducible exact bo_1 n10 | with_reducible exact bo_n n10 | with_reducible exact ro_1 p4 | with_reducible exact ro_6 p4 | with_reducible exact ro_1 p5 | with_reducible exact ro_6 p5 | with_reducible exact ro_1 n8 | with_reducible exact ro_6 n8 | with_reducible exact ro_1 n9 | with_reducible exact ro_6 n9 | rfl) kk) ?_
    refine Sx.up (fun _ kk => r_getI 39 dX2_nextEvent_36 rfl f2_119 rfl (by first | with_reducible assumption | exact Nat.le_of_ble_eq_true rfl | with_reducible exact bo_1 n10 | with_reducible exact bo_n n10 | with_reducible exact ro_1 p4 | with_reducible exact ro_6 p4 | with_reducible exact ro_1 p5 | with_reducible exact ro_6 p5 | with_reducible exact ro_1 n8 | with_reducible exact ro_6 n8 | with_reducible exact ro_1 n9 | with_reducible exact ro_6 n9 | rfl) (by first | with_reducible assumption | exact Nat.le_of_ble_eq_true rfl | with_reducible exact bo_1 n10 | with_reducible exact bo_n n10 | with_reducible exact ro_1 p4 | with_reducible exact ro_6 p4 | with_reducible exact ro_1 p5 | with_reducible exact ro_6 p5 | with_reducible exact ro_1 n8 | with_reducible exact ro_6 n8 | with_reducible exact ro_1 n9 | with_reducible exact ro_6 n9 | rfl) kk) ?_
    refine Sx.up (fun _ kk => r_iadd 40 dX2_nextEvent_39 rfl kk) ?_
    refine Sx.up (fun _ kk => r_min 43 dX2_nextEvent_40 rfl k2_122 (Nat.le_of_ble_eq_true rfl) kk) ?_
    refine Sx.up (fun _ kk => r_istore_n 44 dX2_nextEvent_43 rfl (by decide) rfl kk) ?_
    refine Sx.up (fun _ kk => r_iconst (0) 45 dX2_nextEvent_44 rfl (by decide) kk) ?_
    refine Sx.up (fun _ kk => r_istore_n 46 dX2_nextEvent_45 rfl (by decide) rfl kk) ?_
    refine loop _ ⟨?_, fun i hi => absurd hi (by omega)⟩
    intro _; rw [ot, v4]; exact minF_r
  · intro v hv
    refine Sx.up (fun _ kk => r_iload_n 47 dX2_nextEvent_46 rfl rfl kk) ?_
    refine Sx.up (fun _ kk => r_aload_n 48 dX2_nextEvent_47 rfl rfl kk) ?_
    refine Sx.up (fun _ kk => r_getR 51 dX2_nextEvent_48 rfl f2_52 rfl (by first | with_reducible assumption | exact Nat.le_of_ble_eq_true rfl | with_reducible exact bo_1 n10 | with_reducible exact bo_n n10 | with_reducible exact ro_1 p4 | with_reducible exact ro_6 p4 | with_reducible exact ro_1 p5 | with_reducible exact ro_6 p5 | with_reducible exact ro_1 n8 | with_reducible exact ro_6 n8 | with_reducible exact ro_1 n9 | with_reducible exact ro_6 n9 | rfl) (by first | with_reducible assumption | exact Nat.le_of_ble_eq_true rfl | with_reducible exact bo_1 n10 | with_reducible exact bo_n n10 | with_reducible exact ro_1 p4 | with_reducible exact ro_6 p4 | with_reducible exact ro_1 p5 | with_reducible exact ro_6 p5 | with_reducible exact ro_1 n8 | with_reducible exact ro_6 n8 | with_reducible exact ro_1 n9 | with_reducible exact ro_6 n9 | rfl) (by first | with_reducible assumption | exact Nat.le_of_ble_eq_true rfl | with_reducible exact bo_1 n10 | with_reducible exact bo_n n10 | with_reducible exact ro_1 p4 | with_reducible exact ro_6 p4 | with_reducible exact ro_1 p5 | with_reducible exact ro_6 p5 | with_reducible exact ro_1 n8 | with_reducible exact ro_6 n8 | with_reducible exact ro_1 n9 | with_reducible exact ro_6 n9 | rfl) kk) ?_
    refine Sx.up (fun _ kk => r_getI 54 dX2_nextEvent_51 rfl f2_86 rfl (by first | with_reducible assumption | exact Nat.le_of_ble_eq_true rfl | with_reducible exact bo_1 n10 | with_reducible exact bo_n n10 | with_reducible exact ro_1 p4 | with_reducible exact ro_6 p4 | with_reducible exact ro_1 p5 | with_reducible exact ro_6 p5 | with_reducible exact ro_1 n8 | with_reducible exact ro_6 n8 | with_reducible exact ro_1 n9 | with_reducible exact ro_6 n9 | rfl) (by first | with_reducible assumption | exact Nat.le_of_ble_eq_true rfl | with_reducible exact bo_1 n10 | with_reducible exact bo_n n10 | with_reducible exact ro_1 p4 | with_reducible exact ro_6 p4 | with_reducible exact ro_1 p5 | with_reducible exact ro_6 p5 | with_reducible exact ro_1 n8 | with_reducible exact ro_6 n8 | with_reducible exact ro_1 n9 | with_reducible exact ro_6 n9 | rfl) kk) ?_
    refine Sx.up (fun _ kk => r_icmp_ge 57 109 dX2_nextEvent_54 rfl (by decide) (fun _ => kk) (fun h54 => absurd (by rw [v1]; exact nI_le (Nat.le_refl _) (by omega)) h54)) ?_
    refine Sx.up (fun _ kk => r_iload_n 110 dX2_nextEvent_109 rfl rfl kk) ?_
    refine ⟨_, ?_, r_iret dX2_nextEvent_110 rfl rfl rfl⟩
    exact ⟨_, rfl, hv⟩
  · intro k9 v hk0 hk9 hv hq
    have hw : sh (wI b V k9) = (8, 0) ∧ wI b V k9 < 137 := who_sh n10 (vA V 0 k9)
    have hsl := sh_li (show k9 < 7 by omega)
    have hgr := (ol k9 hk9).1
    have h88 : 88 + k9 < 137 := by omega
    have hkd := (v3 k9 hk9).2.1
    have hta := c_X1_tiredAt (d := d) hsl h88 hgr hw.1 hw.2
    have h5 := lf_get hf hk9
    have hte : liTired E (88 + k9) (wI b V k9) = nA S 1 k9 + (if nA S 0 k9 = 0 then vA V 2 k9 else vA V 3 k9) := by
      unfold liTired
      rw [h5.1, h5.2.1, (v3 k9 hk9).2.2.1, (v3 k9 hk9).2.2.2.1]
    rw [hte] at hta
    have hli := c_X2_lierIn (d := d) (x := nI k9) okn v1 v2
    rw [liId_nI hk9 v2] at hli
    obtain ⟨hw1, hw2⟩ := hw
    refine Sx.up (fun _ kk => r_iload_n 47 dX2_nextEvent_46 rfl rfl kk) ?_
    refine Sx.up (fun _ kk => r_aload_n 48 dX2_nextEvent_47 rfl rfl kk) ?_
    refine Sx.up (fun _ kk => r_getR 51 dX2_nextEvent_48 rfl f2_52 rfl (by first | with_reducible assumption | exact Nat.le_of_ble_eq_true rfl | with_reducible exact bo_1 n10 | with_reducible exact bo_n n10 | with_reducible exact ro_1 p4 | with_reducible exact ro_6 p4 | with_reducible exact ro_1 p5 | with_reducible exact ro_6 p5 | with_reducible exact ro_1 n8 | with_reducible exact ro_6 n8 | with_reducible exact ro_1 n9 | with_reducible exact ro_6 n9 | rfl) (by first | with_reducible assumption | exact Nat.le_of_ble_eq_true rfl | with_reducible exact bo_1 n10 | with_reducible exact bo_n n10 | with_reducible exact ro_1 p4 | with_reducible exact ro_6 p4 | with_reducible exact ro_1 p5 | with_reducible exact ro_6 p5 | with_reducible exact ro_1 n8 | with_reducible exact ro_6 n8 | with_reducible exact ro_1 n9 | with_reducible exact ro_6 n9 | rfl) (by first | with_reducible assumption | exact Nat.le_of_ble_eq_true rfl | with_reducible exact bo_1 n10 | with_reducible exact bo_n n10 | with_reducible exact ro_1 p4 | with_reducible exact ro_6 p4 | with_reducible exact ro_1 p5 | with_reducible exact ro_6 p5 | with_reducible exact ro_1 n8 | with_reducible exact ro_6 n8 | with_reducible exact ro_1 n9 | with_reducible exact ro_6 n9 | rfl) kk) ?_
    refine Sx.up (fun _ kk => r_getI 54 dX2_nextEvent_51 rfl f2_86 rfl (by first | with_reducible assumption | exact Nat.le_of_ble_eq_true rfl | with_reducible exact bo_1 n10 | with_reducible exact bo_n n10 | with_reducible exact ro_1 p4 | with_reducible exact ro_6 p4 | with_reducible exact ro_1 p5 | with_reducible exact ro_6 p5 | with_reducible exact ro_1 n8 | with_reducible exact ro_6 n8 | with_reducible exact ro_1 n9 | with_reducible exact ro_6 n9 | rfl) (by first | with_reducible assumption | exact Nat.le_of_ble_eq_true rfl | with_reducible exact bo_1 n10 | with_reducible exact bo_n n10 | with_reducible exact ro_1 p4 | with_reducible exact ro_6 p4 | with_reducible exact ro_1 p5 | with_reducible exact ro_6 p5 | with_reducible exact ro_1 n8 | with_reducible exact ro_6 n8 | with_reducible exact ro_1 n9 | with_reducible exact ro_6 n9 | rfl) kk) ?_
    refine Sx.up (fun _ kk => r_icmp_ge 57 109 dX2_nextEvent_54 rfl (by decide) (fun h54 => absurd h54 (by rw [v1]; exact nI_ge hk9 (by omega))) (fun _ => kk)) ?_
    refine Sx.up (fun _ kk => r_aload_n 58 dX2_nextEvent_57 rfl rfl kk) ?_
    refine Sx.up (fun _ kk => r_iload_n 59 dX2_nextEvent_58 rfl rfl kk) ?_
    refine Sx.up (fun _ kk => r_callV (M := mX2_nextEvent) (pc := 59) 62 dX2_nextEvent_59 rfl k2_98 hli rfl rfl (by first | with_reducible assumption | exact Nat.le_of_ble_eq_true rfl | with_reducible exact bo_1 n10 | with_reducible exact bo_n n10 | with_reducible exact ro_1 p4 | with_reducible exact ro_6 p4 | with_reducible exact ro_1 p5 | with_reducible exact ro_6 p5 | with_reducible exact ro_1 n8 | with_reducible exact ro_6 n8 | with_reducible exact ro_1 n9 | with_reducible exact ro_6 n9 | rfl) (by decide) rfl (by first | with_reducible assumption | exact Nat.le_of_ble_eq_true rfl | with_reducible exact bo_1 n10 | with_reducible exact bo_n n10 | with_reducible exact ro_1 p4 | with_reducible exact ro_6 p4 | with_reducible exact ro_1 p5 | with_reducible exact ro_6 p5 | with_reducible exact ro_1 n8 | with_reducible exact ro_6 n8 | with_reducible exact ro_1 n9 | with_reducible exact ro_6 n9 | rfl) (Nat.le_of_ble_eq_true rfl) kk) ?_
    refine Sx.up (fun _ kk => r_astore_n 63 dX2_nextEvent_62 rfl (by decide) rfl kk) ?_
    refine Sx.up (fun _ kk => r_aload_n 64 dX2_nextEvent_63 rfl rfl kk) ?_
    refine Sx.up (fun _ kk => r_getR 67 dX2_nextEvent_64 rfl f2_66 rfl (by first | with_reducible assumption | exact Nat.le_of_ble_eq_true rfl | with_reducible exact bo_1 n10 | with_reducible exact bo_n n10 | with_reducible exact ro_1 p4 | with_reducible exact ro_6 p4 | with_reducible exact ro_1 p5 | with_reducible exact ro_6 p5 | with_reducible exact ro_1 n8 | with_reducible exact ro_6 n8 | with_reducible exact ro_1 n9 | with_reducible exact ro_6 n9 | rfl) (by first | with_reducible assumption | exact Nat.le_of_ble_eq_true rfl | with_reducible exact bo_1 n10 | with_reducible exact bo_n n10 | with_reducible exact ro_1 p4 | with_reducible exact ro_6 p4 | with_reducible exact ro_1 p5 | with_reducible exact ro_6 p5 | with_reducible exact ro_1 n8 | with_reducible exact ro_6 n8 | with_reducible exact ro_1 n9 | with_reducible exact ro_6 n9 | rfl) (by first | with_reducible assumption | exact Nat.le_of_ble_eq_true rfl | with_reducible exact bo_1 n10 | with_reducible exact bo_n n10 | with_reducible exact ro_1 p4 | with_reducible exact ro_6 p4 | with_reducible exact ro_1 p5 | with_reducible exact ro_6 p5 | with_reducible exact ro_1 n8 | with_reducible exact ro_6 n8 | with_reducible exact ro_1 n9 | with_reducible exact ro_6 n9 | rfl) kk) ?_
    refine Sx.up (fun _ kk => r_getI 70 dX2_nextEvent_67 rfl f2_125 rfl (by first | with_reducible assumption | exact Nat.le_of_ble_eq_true rfl | with_reducible exact bo_1 n10 | with_reducible exact bo_n n10 | with_reducible exact ro_1 p4 | with_reducible exact ro_6 p4 | with_reducible exact ro_1 p5 | with_reducible exact ro_6 p5 | with_reducible exact ro_1 n8 | with_reducible exact ro_6 n8 | with_reducible exact ro_1 n9 | with_reducible exact ro_6 n9 | rfl) (by first | with_reducible assumption | exact Nat.le_of_ble_eq_true rfl | with_reducible exact bo_1 n10 | with_reducible exact bo_n n10 | with_reducible exact ro_1 p4 | with_reducible exact ro_6 p4 | with_reducible exact ro_1 p5 | with_reducible exact ro_6 p5 | with_reducible exact ro_1 n8 | with_reducible exact ro_6 n8 | with_reducible exact ro_1 n9 | with_reducible exact ro_6 n9 | rfl) kk) ?_
    refine Sx.up (fun _ kk => r_iconst (3) 71 dX2_nextEvent_70 rfl (by decide) kk) ?_
    refine Sx.br (fun _ ka kb => r_icmp_eq 74 83 dX2_nextEvent_71 rfl (by decide) ka kb) (by first | exact em1 | exact em2) (fun h71 => ?_) (fun h71 => ?_)
    · refine Sx.up (fun _ kk => r_aload_n 84 dX2_nextEvent_83 rfl rfl kk) ?_
      refine Sx.up (fun _ kk => r_getI 87 dX2_nextEvent_84 rfl f2_131 rfl (by first | with_reducible assumption | exact Nat.le_of_ble_eq_true rfl | with_reducible exact bo_1 n10 | with_reducible exact bo_n n10 | with_reducible exact ro_1 p4 | with_reducible exact ro_6 p4 | with_reducible exact ro_1 p5 | with_reducible exact ro_6 p5 | with_reducible exact ro_1 n8 | with_reducible exact ro_6 n8 | with_reducible exact ro_1 n9 | with_reducible exact ro_6 n9 | rfl) (by first | with_reducible assumption | exact Nat.le_of_ble_eq_true rfl | with_reducible exact bo_1 n10 | with_reducible exact bo_n n10 | with_reducible exact ro_1 p4 | with_reducible exact ro_6 p4 | with_reducible exact ro_1 p5 | with_reducible exact ro_6 p5 | with_reducible exact ro_1 n8 | with_reducible exact ro_6 n8 | with_reducible exact ro_1 n9 | with_reducible exact ro_6 n9 | rfl) kk) ?_
      refine Sx.up (fun _ kk => r_aload_n 88 dX2_nextEvent_87 rfl rfl kk) ?_
      refine Sx.up (fun _ kk => r_getI 91 dX2_nextEvent_88 rfl f2_33 rfl (by first | with_reducible assumption | exact Nat.le_of_ble_eq_true rfl | with_reducible exact bo_1 n10 | with_reducible exact bo_n n10 | with_reducible exact ro_1 p4 | with_reducible exact ro_6 p4 | with_reducible exact ro_1 p5 | with_reducible exact ro_6 p5 | with_reducible exact ro_1 n8 | with_reducible exact ro_6 n8 | with_reducible exact ro_1 n9 | with_reducible exact ro_6 n9 | rfl) (by first | with_reducible assumption | exact Nat.le_of_ble_eq_true rfl | with_reducible exact bo_1 n10 | with_reducible exact bo_n n10 | with_reducible exact ro_1 p4 | with_reducible exact ro_6 p4 | with_reducible exact ro_1 p5 | with_reducible exact ro_6 p5 | with_reducible exact ro_1 n8 | with_reducible exact ro_6 n8 | with_reducible exact ro_1 n9 | with_reducible exact ro_6 n9 | rfl) kk) ?_
      refine Sx.br (fun _ ka kb => r_icmp_le 94 103 dX2_nextEvent_91 rfl (by decide) ka kb) (by first | exact em1 | exact em2) (fun h91 => ?_) (fun h91 => ?_)
      · refine Sx.up (fun _ kk => r_iinc (1) 106 dX2_nextEvent_103 rfl rfl (by decide) (by decide) rfl kk) ?_
        refine Sx.up (fun _ kk => r_goto 46 dX2_nextEvent_106 (by decide) kk) ?_
        try rw [(ol k9 hk9).2.2.2]
        rw [nI_pp]
        refine Sx.less (ls := [some (.ref 80), some (.int (v)), some (.int (nI (k9 + 1))), none]) ⟨rfl, rfl, rfl, trivial⟩ (hq _ (ne_s (ne_le hv (Int32.le_refl _)) (fun z => absurd (hkd.symm.trans h71) z) (fun z => absurd h91 (by rw [(ol k9 hk9).2.2.2, ot]; exact Int32.not_le.mpr z))))
      · refine Sx.up (fun _ kk => r_iload_n 95 dX2_nextEvent_94 rfl rfl kk) ?_
        refine Sx.up (fun _ kk => r_aload_n 96 dX2_nextEvent_95 rfl rfl kk) ?_
        refine Sx.up (fun _ kk => r_getI 99 dX2_nextEvent_96 rfl f2_131 rfl (by first | with_reducible assumption | exact Nat.le_of_ble_eq_true rfl | with_reducible exact bo_1 n10 | with_reducible exact bo_n n10 | with_reducible exact ro_1 p4 | with_reducible exact ro_6 p4 | with_reducible exact ro_1 p5 | with_reducible exact ro_6 p5 | with_reducible exact ro_1 n8 | with_reducible exact ro_6 n8 | with_reducible exact ro_1 n9 | with_reducible exact ro_6 n9 | rfl) (by first | with_reducible assumption | exact Nat.le_of_ble_eq_true rfl | with_reducible exact bo_1 n10 | with_reducible exact bo_n n10 | with_reducible exact ro_1 p4 | with_reducible exact ro_6 p4 | with_reducible exact ro_1 p5 | with_reducible exact ro_6 p5 | with_reducible exact ro_1 n8 | with_reducible exact ro_6 n8 | with_reducible exact ro_1 n9 | with_reducible exact ro_6 n9 | rfl) kk) ?_
        refine Sx.up (fun _ kk => r_min 102 dX2_nextEvent_99 rfl k2_122 (Nat.le_of_ble_eq_true rfl) kk) ?_
        refine Sx.up (fun _ kk => r_istore_n 103 dX2_nextEvent_102 rfl (by decide) rfl kk) ?_
        refine Sx.up (fun _ kk => r_iinc (1) 106 dX2_nextEvent_103 rfl rfl (by decide) (by decide) rfl kk) ?_
        refine Sx.up (fun _ kk => r_goto 46 dX2_nextEvent_106 (by decide) kk) ?_
        try rw [(ol k9 hk9).2.2.2]
        rw [nI_pp]
        refine Sx.less (ls := [some (.ref 80), some (.int (minF v (vA V 5 k9))), some (.int (nI (k9 + 1))), none]) ⟨rfl, rfl, rfl, trivial⟩ (hq _ (ne_s (ne_le hv (minF_l)) (fun z => absurd (hkd.symm.trans h71) z) (fun _ => minF_r)))
    · refine Sx.up (fun _ kk => r_iload_n 75 dX2_nextEvent_74 rfl rfl kk) ?_
      refine Sx.up (fun _ kk => r_aload_n 76 dX2_nextEvent_75 rfl rfl kk) ?_
      refine Sx.up (fun _ kk => r_callV (M := mX2_nextEvent) (pc := 76) 79 dX2_nextEvent_76 rfl k2_128 hta rfl rfl (by first | with_reducible assumption | exact Nat.le_of_ble_eq_true rfl | with_reducible exact bo_1 n10 | with_reducible exact bo_n n10 | with_reducible exact ro_1 p4 | with_reducible exact ro_6 p4 | with_reducible exact ro_1 p5 | with_reducible exact ro_6 p5 | with_reducible exact ro_1 n8 | with_reducible exact ro_6 n8 | with_reducible exact ro_1 n9 | with_reducible exact ro_6 n9 | rfl) (by decide) rfl (by first | with_reducible assumption | exact Nat.le_of_ble_eq_true rfl | with_reducible exact bo_1 n10 | with_reducible exact bo_n n10 | with_reducible exact ro_1 p4 | with_reducible exact ro_6 p4 | with_reducible exact ro_1 p5 | with_reducible exact ro_6 p5 | with_reducible exact ro_1 n8 | with_reducible exact ro_6 n8 | with_reducible exact ro_1 n9 | with_reducible exact ro_6 n9 | rfl) (Nat.le_of_ble_eq_true rfl) kk) ?_
      refine Sx.up (fun _ kk => r_min 82 dX2_nextEvent_79 rfl k2_122 (Nat.le_of_ble_eq_true rfl) kk) ?_
      refine Sx.up (fun _ kk => r_istore_n 83 dX2_nextEvent_82 rfl (by decide) rfl kk) ?_
      refine Sx.up (fun _ kk => r_aload_n 84 dX2_nextEvent_83 rfl rfl kk) ?_
      refine Sx.up (fun _ kk => r_getI 87 dX2_nextEvent_84 rfl f2_131 rfl (by first | with_reducible assumption | exact Nat.le_of_ble_eq_true rfl | with_reducible exact bo_1 n10 | with_reducible exact bo_n n10 | with_reducible exact ro_1 p4 | with_reducible exact ro_6 p4 | with_reducible exact ro_1 p5 | with_reducible exact ro_6 p5 | with_reducible exact ro_1 n8 | with_reducible exact ro_6 n8 | with_reducible exact ro_1 n9 | with_reducible exact ro_6 n9 | rfl) (by first | with_reducible assumption | exact Nat.le_of_ble_eq_true rfl | with_reducible exact bo_1 n10 | with_reducible exact bo_n n10 | with_reducible exact ro_1 p4 | with_reducible exact ro_6 p4 | with_reducible exact ro_1 p5 | with_reducible exact ro_6 p5 | with_reducible exact ro_1 n8 | with_reducible exact ro_6 n8 | with_reducible exact ro_1 n9 | with_reducible exact ro_6 n9 | rfl) kk) ?_
      refine Sx.up (fun _ kk => r_aload_n 88 dX2_nextEvent_87 rfl rfl kk) ?_
      refine Sx.up (fun _ kk => r_getI 91 dX2_nextEvent_88 rfl f2_33 rfl (by first | with_reducible assumption | exact Nat.le_of_ble_eq_true rfl | with_reducible exact bo_1 n10 | with_reducible exact bo_n n10 | with_reducible exact ro_1 p4 | with_reducible exact ro_6 p4 | with_reducible exact ro_1 p5 | with_reducible exact ro_6 p5 | with_reducible exact ro_1 n8 | with_reducible exact ro_6 n8 | with_reducible exact ro_1 n9 | with_reducible exact ro_6 n9 | rfl) (by first | with_reducible assumption | exact Nat.le_of_ble_eq_true rfl | with_reducible exact bo_1 n10 | with_reducible exact bo_n n10 | with_reducible exact ro_1 p4 | with_reducible exact ro_6 p4 | with_reducible exact ro_1 p5 | with_reducible exact ro_6 p5 | with_reducible exact ro_1 n8 | with_reducible exact ro_6 n8 | with_reducible exact ro_1 n9 | with_reducible exact ro_6 n9 | rfl) kk) ?_
      refine Sx.br (fun _ ka kb => r_icmp_le 94 103 dX2_nextEvent_91 rfl (by decide) ka kb) (by first | exact em1 | exact em2) (fun h91 => ?_) (fun h91 => ?_)
      · refine Sx.up (fun _ kk => r_iinc (1) 106 dX2_nextEvent_103 rfl rfl (by decide) (by decide) rfl kk) ?_
        refine Sx.up (fun _ kk => r_goto 46 dX2_nextEvent_106 (by decide) kk) ?_
        try rw [(ol k9 hk9).2.2.2]
        rw [nI_pp]
        refine Sx.less (ls := [some (.ref 80), some (.int (minF v (nA S 1 k9 + (if nA S 0 k9 = 0 then vA V 2 k9 else vA V 3 k9)))), some (.int (nI (k9 + 1))), none]) ⟨rfl, rfl, rfl, trivial⟩ (hq _ (ne_s (ne_le hv (minF_l)) (fun _ => minF_r) (fun z => absurd h91 (by rw [(ol k9 hk9).2.2.2, ot]; exact Int32.not_le.mpr z))))
      · refine Sx.up (fun _ kk => r_iload_n 95 dX2_nextEvent_94 rfl rfl kk) ?_
        refine Sx.up (fun _ kk => r_aload_n 96 dX2_nextEvent_95 rfl rfl kk) ?_
        refine Sx.up (fun _ kk => r_getI 99 dX2_nextEvent_96 rfl f2_131 rfl (by first | with_reducible assumption | exact Nat.le_of_ble_eq_true rfl | with_reducible exact bo_1 n10 | with_reducible exact bo_n n10 | with_reducible exact ro_1 p4 | with_reducible exact ro_6 p4 | with_reducible exact ro_1 p5 | with_reducible exact ro_6 p5 | with_reducible exact ro_1 n8 | with_reducible exact ro_6 n8 | with_reducible exact ro_1 n9 | with_reducible exact ro_6 n9 | rfl) (by first | with_reducible assumption | exact Nat.le_of_ble_eq_true rfl | with_reducible exact bo_1 n10 | with_reducible exact bo_n n10 | with_reducible exact ro_1 p4 | with_reducible exact ro_6 p4 | with_reducible exact ro_1 p5 | with_reducible exact ro_6 p5 | with_reducible exact ro_1 n8 | with_reducible exact ro_6 n8 | with_reducible exact ro_1 n9 | with_reducible exact ro_6 n9 | rfl) kk) ?_
        refine Sx.up (fun _ kk => r_min 102 dX2_nextEvent_99 rfl k2_122 (Nat.le_of_ble_eq_true rfl) kk) ?_
        refine Sx.up (fun _ kk => r_istore_n 103 dX2_nextEvent_102 rfl (by decide) rfl kk) ?_
        refine Sx.up (fun _ kk => r_iinc (1) 106 dX2_nextEvent_103 rfl rfl (by decide) (by decide) rfl kk) ?_
        refine Sx.up (fun _ kk => r_goto 46 dX2_nextEvent_106 (by decide) kk) ?_
        try rw [(ol k9 hk9).2.2.2]
        rw [nI_pp]
        refine Sx.less (ls := [some (.ref 80), some (.int (minF (minF v (nA S 1 k9 + (if nA S 0 k9 = 0 then vA V 2 k9 else vA V 3 k9))) (vA V 5 k9))), some (.int (nI (k9 + 1))), none]) ⟨rfl, rfl, rfl, trivial⟩ (hq _ (ne_s (ne_le hv (Int32.le_trans minF_l minF_l)) (fun _ => Int32.le_trans minF_l minF_r) (fun _ => minF_r)))
