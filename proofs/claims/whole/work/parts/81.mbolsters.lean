/-! The model: outs, bolsters -/
set_option maxRecDepth 20000 in
theorem c_deaf {d s : Nat} {E : HP} {kd : Int32} (hM : MoOK E) (hs : s < 14) (hk : gA E 99 s = kd) : Cl yX12_isDeaf mX12_isDeaf d 0 0 [.ref 95, .int (nI s)] E 137 (.inl (some (.int (bI (decide (kd = 1 ∨ kd = 3))))), E, 137) := by
  refine Cl.of (by decide) rfl (fun q => by cases q) rfl rfl (Nat.le_of_ble_eq_true rfl) ?_
  show Sm _ _ _ _ _ 0 [some (.ref 95), some (.int (nI s))] [] _ _
  refine r_aload_n 1 dX12_isDeaf_0 rfl rfl ?_
  refine r_getR 4 dX12_isDeaf_1 rfl f12_42 rfl rfl lt95 (mo_4 hM) ?_
  refine r_iload_n 5 dX12_isDeaf_4 rfl rfl ?_
  refine r_ialdN (s) (kd) 6 dX12_isDeaf_5 rfl rfl (Nat.le_of_ble_eq_true rfl) (rfl) (by omega) (Nat.le_of_ble_eq_true rfl) (hk) ?_
  refine r_iconst (1) 7 dX12_isDeaf_6 rfl (by decide) ?_
  refine r_icmp_eq 10 20 dX12_isDeaf_7 rfl (by decide) (fun h7 => ?_) (fun h7 => ?_)
  · refine r_iconst (1) 21 dX12_isDeaf_20 rfl (by decide) ?_
    refine r_goto 25 dX12_isDeaf_21 (by decide) ?_
    exact r_zret dX12_isDeaf_25 rfl rfl (by decide) (by first | exact out_eq (bI_t (decide_eq_true (Or.inl h7))) | exact out_eq (bI_t (decide_eq_true (Or.inr h17))) | exact out_eq (bI_f (fun z => (of_decide_eq_true z).elim h7 h17)) | exact out_eq (bI_t (decide_eq_true (Or.inl h7))).symm | exact out_eq (bI_t (decide_eq_true (Or.inr h17))).symm | exact out_eq (bI_f (fun z => (of_decide_eq_true z).elim h7 h17)).symm)
  · refine r_aload_n 11 dX12_isDeaf_10 rfl rfl ?_
    refine r_getR 14 dX12_isDeaf_11 rfl f12_42 rfl rfl lt95 (mo_4 hM) ?_
    refine r_iload_n 15 dX12_isDeaf_14 rfl rfl ?_
    refine r_ialdN (s) (kd) 16 dX12_isDeaf_15 rfl rfl (Nat.le_of_ble_eq_true rfl) (rfl) (by omega) (Nat.le_of_ble_eq_true rfl) (hk) ?_
    refine r_iconst (3) 17 dX12_isDeaf_16 rfl (by decide) ?_
    refine r_icmp_ne 20 24 dX12_isDeaf_17 rfl (by decide) (fun h17 => ?_) (fun h17 => ?_)
    · refine r_iconst (0) 25 dX12_isDeaf_24 rfl (by decide) ?_
      exact r_zret dX12_isDeaf_25 rfl rfl (by decide) (by first | exact out_eq (bI_t (decide_eq_true (Or.inl h7))) | exact out_eq (bI_t (decide_eq_true (Or.inr h17))) | exact out_eq (bI_f (fun z => (of_decide_eq_true z).elim h7 h17)) | exact out_eq (bI_t (decide_eq_true (Or.inl h7))).symm | exact out_eq (bI_t (decide_eq_true (Or.inr h17))).symm | exact out_eq (bI_f (fun z => (of_decide_eq_true z).elim h7 h17)).symm)
    · refine r_iconst (1) 21 dX12_isDeaf_20 rfl (by decide) ?_
      refine r_goto 25 dX12_isDeaf_21 (by decide) ?_
      exact r_zret dX12_isDeaf_25 rfl rfl (by decide) (by first | exact out_eq (bI_t (decide_eq_true (Or.inl h7))) | exact out_eq (bI_t (decide_eq_true (Or.inr h17))) | exact out_eq (bI_f (fun z => (of_decide_eq_true z).elim h7 h17)) | exact out_eq (bI_t (decide_eq_true (Or.inl h7))).symm | exact out_eq (bI_t (decide_eq_true (Or.inr h17))).symm | exact out_eq (bI_f (fun z => (of_decide_eq_true z).elim h7 h17)).symm)
set_option maxRecDepth 20000 in
theorem c_tenths {d L : Nat} {E : HP} {sl : Nat → Nat → Int32} {ord : Nat → Int32} (hM : MoOK E) (hl : gI E 1581 95 = nI L) (h7 : L ≤ 7) (hr : ∀ i, i < L → gA E 113 i = ord i ∧ ∃ s, s < 7 ∧ ord i = nI s ∧ gA E 104 s = sl 7 s ∧ gA E 99 s = sl 1 s) : Cl yX12_tenthsNow mX12_tenthsNow (d + 1) 0 0 [.ref 95] E 137 (.inl (some (.int (twO sl ord L))), E, 137) := by
  refine Cl.of (by decide) rfl (fun q => by cases q) rfl rfl (Nat.le_of_ble_eq_true rfl) ?_
  show Sm _ _ _ _ _ 0 [some (.ref 95), none, none, none] [] _ _
  have loop := loopDown (P := fun m9 => Sm mX12_tenthsNow (d + 1) 0 0 (.inl (some (.int (twO sl ord L))), E, 137) 11 [some (.ref 95), some (.int (twF sl ord L (L - m9)).1), some (.int (twF sl ord L (L - m9)).2), some (.int (dn m9))] [] E 137) L ?_ ?_
  refine r_iconst (0) 1 dX12_tenthsNow_0 rfl (by decide) ?_
  refine r_istore_n 2 dX12_tenthsNow_1 rfl (by decide) rfl ?_
  refine r_iconst (0) 3 dX12_tenthsNow_2 rfl (by decide) ?_
  refine r_istore_n 4 dX12_tenthsNow_3 rfl (by decide) rfl ?_
  refine r_aload_n 5 dX12_tenthsNow_4 rfl rfl ?_
  refine r_getIV (nI L) 8 dX12_tenthsNow_5 rfl f12_341 rfl rfl lt95 (hl) ?_
  refine r_iconst (1) 9 dX12_tenthsNow_8 rfl (by decide) ?_
  refine r_isub 10 dX12_tenthsNow_9 rfl ?_
  refine r_istore_n 11 dX12_tenthsNow_10 rfl (by decide) rfl ?_
  rw [show L - L = 0 by omega] at loop
  exact loop
  · show Sm _ _ _ _ _ 11 _ _ _ _
    refine r_iload_n 12 dX12_tenthsNow_11 rfl rfl ?_
    refine r_if_lt 15 58 dX12_tenthsNow_12 rfl (by decide) (fun h12 => ?_) (fun h12 => absurd dn_0 h12)
    refine r_iload_n 59 dX12_tenthsNow_58 rfl rfl ?_
    exact r_iret dX12_tenthsNow_59 rfl rfl (rfl)
  · intro m9 hm9 hq
    show Sm mX12_tenthsNow (d + 1) 0 0 (.inl (some (.int (twO sl ord L))), E, 137) 11 [some (.ref 95), some (.int (twF sl ord L (L - (m9 + 1))).1), some (.int (twF sl ord L (L - (m9 + 1))).2), some (.int (dn (m9 + 1)))] [] E 137
    rw [dn_s]
    obtain ⟨ho, s, hs, e, e7, e1⟩ := hr m9 hm9
    have hdf := c_deaf (d := d) hM (show s < 14 by omega) e1
    have hE : twF sl ord L (L - m9) = twF sl ord L (L - (m9 + 1) + 1) := by rw [show L - (m9 + 1) + 1 = L - m9 by omega]
    have hT : twF sl ord L (L - (m9 + 1) + 1) = ((twF sl ord L (L - (m9 + 1))).1 + sl 7 s * (twF sl ord L (L - (m9 + 1))).2, (twF sl ord L (L - (m9 + 1))).2 + (if canS2 sl s = true then 1 else 0)) := by
      show (_ + sl 7 (ord (L - 1 - (L - (m9 + 1)))).toNatClampNeg * _, _ + (if canS2 sl (ord (L - 1 - (L - (m9 + 1)))).toNatClampNeg = true then 1 else 0)) = _
      rw [show L - 1 - (L - (m9 + 1)) = m9 by omega, e, nI_clamp (by omega)]
    have hcs : canS2 sl s = true ↔ ¬ (sl 1 s = 1 ∨ sl 1 s = 3) := by
      unfold canS2
      rw [decide_eq_true_eq]
      exact ⟨fun z y => y.elim z.1 z.2, fun z => ⟨fun y => z (Or.inl y), fun y => z (Or.inr y)⟩⟩
    rw [hE, hT] at hq
    refine r_iload_n 12 dX12_tenthsNow_11 rfl rfl ?_
    refine r_if_lt 15 58 dX12_tenthsNow_12 rfl (by decide) (fun h12 => absurd h12 (nI_pos (by omega))) (fun h12 => ?_)
    refine r_iload_n 16 dX12_tenthsNow_15 rfl rfl ?_
    refine r_aload_n 17 dX12_tenthsNow_16 rfl rfl ?_
    refine r_getR 20 dX12_tenthsNow_17 rfl f12_56 rfl rfl lt95 (mo_9 hM) ?_
    refine r_aload_n 21 dX12_tenthsNow_20 rfl rfl ?_
    refine r_getR 24 dX12_tenthsNow_21 rfl f12_90 rfl rfl lt95 (mo_34 hM) ?_
    refine r_iload_n 25 dX12_tenthsNow_24 rfl rfl ?_
    refine r_ialdN (m9) (nI s) 26 dX12_tenthsNow_25 rfl rfl (Nat.le_of_ble_eq_true rfl) (rfl) (by omega) (Nat.le_of_ble_eq_true rfl) (ho.trans e) ?_
    refine r_ialdN (s) (sl 7 s) 27 dX12_tenthsNow_26 rfl rfl (Nat.le_of_ble_eq_true rfl) (rfl) (by omega) (Nat.le_of_ble_eq_true rfl) (e7) ?_
    refine r_iload_n 28 dX12_tenthsNow_27 rfl rfl ?_
    refine r_imul 29 dX12_tenthsNow_28 rfl ?_
    refine r_iadd 30 dX12_tenthsNow_29 rfl ?_
    refine r_istore_n 31 dX12_tenthsNow_30 rfl (by decide) rfl ?_
    refine r_iload_n 32 dX12_tenthsNow_31 rfl rfl ?_
    refine r_aload_n 33 dX12_tenthsNow_32 rfl rfl ?_
    refine r_aload_n 34 dX12_tenthsNow_33 rfl rfl ?_
    refine r_getR 37 dX12_tenthsNow_34 rfl f12_90 rfl rfl lt95 (mo_34 hM) ?_
    refine r_iload_n 38 dX12_tenthsNow_37 rfl rfl ?_
    refine r_ialdN (m9) (nI s) 39 dX12_tenthsNow_38 rfl rfl (Nat.le_of_ble_eq_true rfl) (rfl) (by omega) (Nat.le_of_ble_eq_true rfl) (ho.trans e) ?_
    refine r_callV (M := mX12_tenthsNow) (pc := 39) 42 dX12_tenthsNow_39 rfl k12_373 hdf rfl rfl rfl (by decide) rfl lt95 (Nat.le_of_ble_eq_true rfl) ?_
    refine r_if_eq 45 49 dX12_tenthsNow_42 rfl (by decide) (fun h42 => ?_) (fun h42 => ?_)
    · refine r_iconst (1) 50 dX12_tenthsNow_49 rfl (by decide) ?_
      refine r_iadd 51 dX12_tenthsNow_50 rfl ?_
      refine r_istore_n 52 dX12_tenthsNow_51 rfl (by decide) rfl ?_
      refine r_iinc (m1) 55 dX12_tenthsNow_52 rfl rfl (m1_of) (by decide) rfl ?_
      refine r_goto 11 dX12_tenthsNow_55 (by decide) ?_
      have hc : canS2 sl s = true := hcs.mpr (fun z => by rw [bI_t (decide_eq_true z)] at h42; exact absurd h42 (by decide))
      rw [if_pos hc] at hq
      rw [dn_b]
      exact Sm.less (by exact ⟨rfl, rfl, rfl, rfl, trivial⟩) hq
    · refine r_iconst (0) 46 dX12_tenthsNow_45 rfl (by decide) ?_
      refine r_goto 50 dX12_tenthsNow_46 (by decide) ?_
      refine r_iadd 51 dX12_tenthsNow_50 rfl ?_
      refine r_istore_n 52 dX12_tenthsNow_51 rfl (by decide) rfl ?_
      refine r_iinc (m1) 55 dX12_tenthsNow_52 rfl rfl (m1_of) (by decide) rfl ?_
      refine r_goto 11 dX12_tenthsNow_55 (by decide) ?_
      have hc : ¬ canS2 sl s = true := fun z => h42 (bI_f (fun y => hcs.mp z (of_decide_eq_true y)))
      rw [if_neg hc] at hq
      rw [dn_b]
      exact Sm.less (by exact ⟨rfl, rfl, rfl, rfl, trivial⟩) hq
def euF (x y : Int32) : Nat → Int32 × Int32
  | 0 => (x, y)
  | k + 1 => ((euF x y k).2, (euF x y k).1 - (euF x y k).1 / (euF x y k).2 * (euF x y k).2)
set_option maxRecDepth 20000 in
theorem c_common {d n : Nat} {E : HP} {x y : Int32} (hn : (euF x y n).2 = 0) (hk : ∀ k, k < n → ¬ (euF x y k).2 = 0) : Cl yX12_common mX12_common d 0 0 [.int x, .int y] E 137 (.inl (some (.int (euF x y n).1)), E, 137) := by
  refine Cl.of (by decide) rfl (fun q => by cases q) rfl rfl (Nat.le_of_ble_eq_true rfl) ?_
  show Sm _ _ _ _ _ 0 [some (.int (x)), some (.int (y)), none, none, none] [] _ _
  have loop := loopUp (P := fun k9 => Sm mX12_common d 0 0 (.inl (some (.int (euF x y n).1)), E, 137) 4 [some (.int x), some (.int y), some (.int (euF x y k9).1), some (.int (euF x y k9).2), none] [] E 137) (l := n) ?_ ?_
  refine r_iload_n 1 dX12_common_0 rfl rfl ?_
  refine r_istore_n 2 dX12_common_1 rfl (by decide) rfl ?_
  refine r_iload_n 3 dX12_common_2 rfl rfl ?_
  refine r_istore_n 4 dX12_common_3 rfl (by decide) rfl ?_
  exact loop
  · show Sm _ _ _ _ _ 4 _ _ _ _
    refine r_iload_n 5 dX12_common_4 rfl rfl ?_
    refine r_if_eq 8 21 dX12_common_5 rfl (by decide) (fun h5 => ?_) (fun h5 => absurd hn h5)
    refine r_iload_n 22 dX12_common_21 rfl rfl ?_
    exact r_iret dX12_common_22 rfl rfl (rfl)
  · intro k9 hk9 hq
    show Sm _ _ _ _ _ 4 _ _ _ _
    refine r_iload_n 5 dX12_common_4 rfl rfl ?_
    refine r_if_eq 8 21 dX12_common_5 rfl (by decide) (fun h5 => absurd h5 (hk k9 hk9)) (fun h5 => ?_)
    refine r_iload_n 9 dX12_common_8 rfl rfl ?_
    refine r_iload_n 10 dX12_common_9 rfl rfl ?_
    refine r_irem 11 dX12_common_10 rfl (hk k9 hk9) ?_
    refine r_istore 13 dX12_common_11 rfl (by decide) rfl ?_
    refine r_iload_n 14 dX12_common_13 rfl rfl ?_
    refine r_istore_n 15 dX12_common_14 rfl (by decide) rfl ?_
    refine r_iload 17 dX12_common_15 rfl rfl ?_
    refine r_istore_n 18 dX12_common_17 rfl (by decide) rfl ?_
    refine r_goto 4 dX12_common_18 (by decide) ?_
    exact Sm.less (by exact ⟨rfl, rfl, rfl, rfl, trivial⟩) hq
theorem eu_chk : ∀ u, u < 500 → ((List.range 9).any (fun n => decide ((euF 10 (nI u) n).2 = 0) && (List.range n).all (fun k => !decide ((euF 10 (nI u) k).2 = 0)) && !decide ((euF 10 (nI u) n).1 = 0) && decide (gcU (nI u) = (nI u / (euF 10 (nI u) n).1, 10 / (euF 10 (nI u) n).1)))) = true := by decide +kernel
theorem eu_ok {u : Nat} (h : u < 500) : ∃ n, (euF 10 (nI u) n).2 = 0 ∧ (∀ k, k < n → ¬ (euF 10 (nI u) k).2 = 0) ∧ ¬ (euF 10 (nI u) n).1 = 0 ∧ gcU (nI u) = (nI u / (euF 10 (nI u) n).1, 10 / (euF 10 (nI u) n).1) := by
  have := eu_chk u h
  rw [List.any_eq_true] at this
  obtain ⟨n, -, hn⟩ := this
  rw [Bool.and_eq_true, Bool.and_eq_true, Bool.and_eq_true, List.all_eq_true] at hn
  obtain ⟨⟨⟨a, b⟩, c⟩, e⟩ := hn
  refine ⟨n, of_decide_eq_true a, fun k hk => ?_, ?_, of_decide_eq_true e⟩
  · have := b k (List.mem_range.mpr hk)
    simpa using this
  · simpa using c
theorem mul_nI : ∀ t, t < 11 → ∀ f, f < 8 → nI t * nI f = nI (t * f) := by decide +kernel
theorem add_nI (a b : Nat) : nI a + nI b = nI (a + b) := (Int32.ofNat_add a b).symm
/-- who goes out over others wakes so many at most -/
theorem tw_le {sl : Nat → Nat → Int32} {ord : Nat → Int32} {L : Nat} (h7 : L ≤ 7) (h : ∀ i, i < L → ∃ a, a ≤ 10 ∧ sl 7 (ord i).toNatClampNeg = nI a) : ∃ u, u < 500 ∧ twO sl ord L = nI u := by
  have key : ∀ j, j ≤ L → ∃ u f, u ≤ 70 * j ∧ f ≤ j ∧ twF sl ord L j = (nI u, nI f) := by
    intro j
    induction j with
    | zero => intro _; exact ⟨0, 0, by omega, by omega, rfl⟩
    | succ j ih =>
      intro hj
      obtain ⟨u, f, hu, hf, e⟩ := ih (by omega)
      obtain ⟨a, ha, ea⟩ := h (L - 1 - j) (by omega)
      have hm : a * f ≤ 10 * 7 := Nat.mul_le_mul ha (by omega)
      refine ⟨u + a * f, f + (if canS2 sl (ord (L - 1 - j)).toNatClampNeg = true then 1 else 0), by omega, by split <;> omega, ?_⟩
      show ((twF sl ord L j).1 + sl 7 (ord (L - 1 - j)).toNatClampNeg * (twF sl ord L j).2, (twF sl ord L j).2 + (if canS2 sl (ord (L - 1 - j)).toNatClampNeg = true then 1 else 0)) = _
      rw [e, ea, mul_nI a (by omega) f (by omega), add_nI]
      by_cases hc : canS2 sl (ord (L - 1 - j)).toNatClampNeg = true
      · rw [if_pos hc, if_pos hc]
        show (_, nI f + nI 1) = _
        rw [add_nI]
      · rw [if_neg hc, if_neg hc]
        show (_, nI f + nI 0) = _
        rw [add_nI]
  obtain ⟨u, f, hu, hf, e⟩ := key L (Nat.le_refl L)
  exact ⟨u, by omega, by unfold twO; rw [e]⟩
set_option maxRecDepth 20000 in
theorem m_outs {d L m : Nat} {sl : Nat → Nat → Int32} {aw : Int32} {R : List Int32} {c : Cfg} {fr : Int32} {E : HP} {w : Int32} (h : MD E L m sl aw R c fr) (hw : inB w 2) (ht : ∀ s, s < L → ∃ a, a ≤ 10 ∧ sl 7 s = nI a) : ∃ E2, AQ E E2 0 ∧ Cl yX12_outs mX12_outs (d + 8) 0 0 [.ref 95, .int (w)] E 137 (.inl (some (.int (if w = 0 then (gcU (twO sl (cO c) L)).1 else (gcU (twO sl (cO c) L)).2))), E2, 137) := by
  obtain ⟨hM, hL, ⟨cok, csu⟩, hoc, h62, h63, h64, h65, hsy, hsl, ⟨m1, m6, hm⟩, -⟩ := id h
  have l7 : L ≤ 7 := cok.2.1
  have hM0 : MoOK (sI E 1538 95 0) := hM
  have hL0 : gA (sI E 1538 95 0) 98 0 = nI L := hL
  obtain ⟨E1, ⟨f1, hv1, hr1, s1, s2⟩, hse⟩ := m_set (d := d + 6) (md_0 (x := 0) h)
  have hM1 := mf_mo f1 hM0
  have htn := c_tenths (d := d + 6) (sl := sl) (ord := cO c) hM1 hv1.1 l7 (fun i hi => by
    obtain ⟨s, hs, e⟩ := cok.2.2.1 i hi
    refine ⟨(hr1 i hi).1, s, by omega, e, ?_, ?_⟩
    · rw [mf_gA f1 (by decide)]; exact (hsl s hs).2.2.2.2.2.1
    · rw [mf_gA f1 (by decide)]; exact (hsl s hs).1)
  obtain ⟨u, hu, eu⟩ := tw_le (sl := sl) (ord := cO c) l7 (fun i hi => by
    obtain ⟨s, hs, e⟩ := cok.2.2.1 i hi
    rw [e, nI_clamp (by omega)]
    exact ht s hs)
  rw [show vL (vMk L sl aw R c fr) = L from rfl] at htn
  rw [eu] at htn ⊢
  obtain ⟨n, g1, g2, g3, g4⟩ := eu_ok hu
  have hco := c_common (d := d + 7) (E := E1) g1 g2
  have hq : AQ E E1 0 := mq_of f1 (by decide) (by decide) (by decide)
  refine ⟨E1, hq, ?_⟩
  rw [g4]
  refine Cl.of (by decide) rfl (fun q => by cases q) rfl rfl (Nat.le_of_ble_eq_true rfl) ?_
  show Sm _ _ _ _ _ 0 [some (.ref 95), some (.int (w)), none, none] [] _ _
  refine r_aload_n 1 dX12_outs_0 rfl rfl ?_
  refine r_iconst (0) 2 dX12_outs_1 rfl (by decide) ?_
  refine r_putI 5 dX12_outs_2 rfl f12_159 rfl lt95 ?_
  refine r_iload_n 6 dX12_outs_5 rfl rfl ?_
  refine r_if_lt 9 14 dX12_outs_6 rfl (by decide) (fun h6 => absurd h6 hw.1) (fun h6 => ?_)
  refine r_iload_n 10 dX12_outs_9 rfl rfl ?_
  refine r_iconst (1) 11 dX12_outs_10 rfl (by decide) ?_
  refine r_icmp_le 14 20 dX12_outs_11 rfl (by decide) (fun h11 => ?_) (fun h11 => absurd (le_of_in2 hw) h11)
  refine r_aload_n 21 dX12_outs_20 rfl rfl ?_
  refine r_callV (M := mX12_outs) (pc := 21) 24 dX12_outs_21 rfl k12_413 hse rfl rfl rfl (by decide) rfl lt95 (Nat.le_of_ble_eq_true rfl) ?_
  refine r_aload_n 25 dX12_outs_24 rfl rfl ?_
  refine r_callV (M := mX12_outs) (pc := 25) 28 dX12_outs_25 rfl k12_453 htn rfl rfl rfl (by decide) rfl lt95 (Nat.le_of_ble_eq_true rfl) ?_
  refine r_istore_n 29 dX12_outs_28 rfl (by decide) rfl ?_
  refine r_bipush (10) 31 dX12_outs_29 rfl (by decide) ?_
  refine r_iload_n 32 dX12_outs_31 rfl rfl ?_
  refine r_callS (M := mX12_outs) (pc := 32) 35 dX12_outs_32 rfl k12_478 hco rfl rfl (Nat.le_of_ble_eq_true rfl) ?_
  refine r_istore_n 36 dX12_outs_35 rfl (by decide) rfl ?_
  refine r_iload_n 37 dX12_outs_36 rfl rfl ?_
  refine r_if_ne 40 46 dX12_outs_37 rfl (by decide) (fun h37 => ?_) (fun h37 => ?_)
  · refine r_bipush (10) 48 dX12_outs_46 rfl (by decide) ?_
    refine r_iload_n 49 dX12_outs_48 rfl rfl ?_
    refine r_idiv 50 dX12_outs_49 rfl (g3) ?_
    exact r_iret dX12_outs_50 rfl rfl (by first | rw [if_pos h37] | rw [if_neg h37])
  · refine r_iload_n 41 dX12_outs_40 rfl rfl ?_
    refine r_iload_n 42 dX12_outs_41 rfl rfl ?_
    refine r_idiv 43 dX12_outs_42 rfl (g3) ?_
    refine r_goto 50 dX12_outs_43 (by decide) ?_
    exact r_iret dX12_outs_50 rfl rfl (by first | rw [if_pos h37] | rw [if_neg h37])
set_option maxRecDepth 20000 in
theorem m_outsX {d L m : Nat} {sl : Nat → Nat → Int32} {aw : Int32} {R : List Int32} {c : Cfg} {fr : Int32} {E : HP} {w : Int32} (h : MD E L m sl aw R c fr) (hw : ¬ inB w 2) : ∃ E2, AQ E E2 1 ∧ Cl yX12_outs mX12_outs (d + 8) 0 0 [.ref 95, .int (w)] E 137 (.inl (some (.int 0)), E2, 137) := by
  obtain ⟨hM, hL, ⟨cok, csu⟩, hoc, h62, h63, h64, h65, hsy, hsl, ⟨m1, m6, hm⟩, -⟩ := id h
  have l7 : L ≤ 7 := cok.2.1
  have hM0 : MoOK (sI E 1538 95 0) := hM
  have hL0 : gA (sI E 1538 95 0) 98 0 = nI L := hL
  refine ⟨_, mq_fail (x := 0), ?_⟩
  refine Cl.of (by decide) rfl (fun q => by cases q) rfl rfl (Nat.le_of_ble_eq_true rfl) ?_
  show Sm _ _ _ _ _ 0 [some (.ref 95), some (.int (w)), none, none] [] _ _
  refine r_aload_n 1 dX12_outs_0 rfl rfl ?_
  refine r_iconst (0) 2 dX12_outs_1 rfl (by decide) ?_
  refine r_putI 5 dX12_outs_2 rfl f12_159 rfl lt95 ?_
  refine r_iload_n 6 dX12_outs_5 rfl rfl ?_
  refine r_if_lt 9 14 dX12_outs_6 rfl (by decide) (fun h6 => ?_) (fun h6 => ?_)
  · refine r_aload_n 15 dX12_outs_14 rfl rfl ?_
    refine r_iconst (1) 16 dX12_outs_15 rfl (by decide) ?_
    refine r_callV (M := mX12_outs) (pc := 16) 19 dX12_outs_16 rfl k12_302 c_fail rfl rfl rfl (by decide) rfl lt95 (Nat.le_of_ble_eq_true rfl) ?_
    exact r_iret dX12_outs_19 rfl rfl (rfl)
  · refine r_iload_n 10 dX12_outs_9 rfl rfl ?_
    refine r_iconst (1) 11 dX12_outs_10 rfl (by decide) ?_
    refine r_icmp_le 14 20 dX12_outs_11 rfl (by decide) (fun h11 => ?_) (fun h11 => ?_)
    · exact absurd (in2_of h6 h11) hw
    · refine r_aload_n 15 dX12_outs_14 rfl rfl ?_
      refine r_iconst (1) 16 dX12_outs_15 rfl (by decide) ?_
      refine r_callV (M := mX12_outs) (pc := 16) 19 dX12_outs_16 rfl k12_302 c_fail rfl rfl rfl (by decide) rfl lt95 (Nat.le_of_ble_eq_true rfl) ?_
      exact r_iret dX12_outs_19 rfl rfl (rfl)
def biF (x : Int32) : Nat → Int32
  | 0 => x
  | k + 1 => biF x k &&& (biF x k - 1)
set_option maxRecDepth 20000 in
theorem c_bitsN {d n : Nat} {E : HP} {x : Int32} (hn : biF x n = 0) (hk : ∀ k, k < n → ¬ biF x k = 0) : Cl yX12_bitsOf mX12_bitsOf d 0 0 [.int x] E 137 (.inl (some (.int (nI n))), E, 137) := by
  refine Cl.of (by decide) rfl (fun q => by cases q) rfl rfl (Nat.le_of_ble_eq_true rfl) ?_
  show Sm _ _ _ _ _ 0 [some (.int (x)), none, none] [] _ _
  have loop := loopUp (P := fun k9 => Sm mX12_bitsOf d 0 0 (.inl (some (.int (nI n))), E, 137) 4 [some (.int x), some (.int (nI k9)), some (.int (biF x k9))] [] E 137) (l := n) ?_ ?_
  refine r_iconst (0) 1 dX12_bitsOf_0 rfl (by decide) ?_
  refine r_istore_n 2 dX12_bitsOf_1 rfl (by decide) rfl ?_
  refine r_iload_n 3 dX12_bitsOf_2 rfl rfl ?_
  refine r_istore_n 4 dX12_bitsOf_3 rfl (by decide) rfl ?_
  exact loop
  · show Sm _ _ _ _ _ 4 _ _ _ _
    refine r_iload_n 5 dX12_bitsOf_4 rfl rfl ?_
    refine r_if_eq 8 20 dX12_bitsOf_5 rfl (by decide) (fun h5 => ?_) (fun h5 => absurd hn h5)
    refine r_iload_n 21 dX12_bitsOf_20 rfl rfl ?_
    exact r_iret dX12_bitsOf_21 rfl rfl (rfl)
  · intro k9 hk9 hq
    show Sm _ _ _ _ _ 4 _ _ _ _
    refine r_iload_n 5 dX12_bitsOf_4 rfl rfl ?_
    refine r_if_eq 8 20 dX12_bitsOf_5 rfl (by decide) (fun h5 => absurd h5 (hk k9 hk9)) (fun h5 => ?_)
    refine r_iinc (1) 11 dX12_bitsOf_8 rfl rfl (by decide) (by decide) rfl ?_
    refine r_iload_n 12 dX12_bitsOf_11 rfl rfl ?_
    refine r_iload_n 13 dX12_bitsOf_12 rfl rfl ?_
    refine r_iconst (1) 14 dX12_bitsOf_13 rfl (by decide) ?_
    refine r_isub 15 dX12_bitsOf_14 rfl ?_
    refine r_iand 16 dX12_bitsOf_15 rfl ?_
    refine r_istore_n 17 dX12_bitsOf_16 rfl (by decide) rfl ?_
    refine r_goto 4 dX12_bitsOf_17 (by decide) ?_
    rw [nI_pp]
    exact hq
theorem bi_chk : ∀ k, k < 64 → ((List.range 9).any (fun n => decide (biF (nI (2 * k)) n = 0) && (List.range n).all (fun j => !decide (biF (nI (2 * k)) j = 0)) && decide (bcF (nI (2 * k)) = nI n))) = true := by decide +kernel
theorem c_bits {d k : Nat} {E : HP} (h : k < 64) : Cl yX12_bitsOf mX12_bitsOf d 0 0 [.int (nI (2 * k))] E 137 (.inl (some (.int (bcF (nI (2 * k))))), E, 137) := by
  have := bi_chk k h
  rw [List.any_eq_true] at this
  obtain ⟨n, -, hn⟩ := this
  rw [Bool.and_eq_true, Bool.and_eq_true, List.all_eq_true] at hn
  obtain ⟨⟨a, b⟩, e⟩ := hn
  rw [of_decide_eq_true e]
  refine c_bitsN (of_decide_eq_true a) (fun j hj => ?_)
  have := b j (List.mem_range.mpr hj)
  simpa using this
theorem bol_form {w : Nat → Int32} {z : Int32} : ∀ k, (bolF w z k).1 = -1 ∨ ∃ j, j < k ∧ (bolF w z k).1 = nI (2 * j) := by
  intro k
  induction k with
  | zero => exact Or.inl rfl
  | succ k ih =>
    by_cases h : (bolF w z k).1 = -1 ∨ w k < (bolF w z k).2 ∨ (w k = (bolF w z k).2 ∧ bcF (nI (2 * k)) < bcF (bolF w z k).1)
    · rw [bol_y h]; exact Or.inr ⟨k, by omega, rfl⟩
    · rw [bol_n h]; exact ih.imp id (fun ⟨j, hj, e⟩ => ⟨j, by omega, e⟩)
theorem lt_nn {a b : Int32} (h : ¬ b < a) (h2 : ¬ a = b) : a < b := by
  rcases Int32.lt_or_eq_of_le (Int32.not_lt.mp h) with z | z
  · exact z
  · exact absurd z h2
set_option maxRecDepth 20000 in
theorem m_bolsters {d L m : Nat} {sl : Nat → Nat → Int32} {aw : Int32} {R : List Int32} {c : Cfg} {fr : Int32} {E : HP} {w : Int32} (h : MD E L m sl aw R c fr) (hw : inB w 2) : ∃ o, (∃ E2, o = (.inl (some (.int (if w = 0 then (bolF (fun e => nS (nightF (vMk L sl aw R (cBol c (nI (2 * e))) fr) m) 2) 0 (2 ^ (L - 1))).1 else (bolF (fun e => nS (nightF (vMk L sl aw R (cBol c (nI (2 * e))) fr) m) 2) 0 (2 ^ (L - 1))).2))), E2, 137) ∧ AQ E E2 0) ∧ Cl yX12_bolsters mX12_bolsters (d + 8) 0 0 [.ref 95, .int w] E 137 o := by
  obtain ⟨hM, hL, ⟨cok, csu⟩, hoc, h62, h63, h64, h65, hsy, hsl, ⟨m1, m6, hm⟩, -⟩ := id h
  have l7 : L ≤ 7 := cok.2.1
  have hM0 : MoOK (sI E 1538 95 0) := hM
  have hL0 : gA (sI E 1538 95 0) 98 0 = nI L := hL
  obtain ⟨E1, ⟨f1, hv1, hr1, s1, s2⟩, hse⟩ := m_set (d := d + 6) (md_0 (x := 0) h)
  have hM1 := mf_mo f1 hM0
  obtain ⟨hpw, hp64⟩ := pow_nI (L - 1) (by omega)
  have hmx : (if (0 : Int32) < nI L - 1 then nI L - 1 else 0) = nI (L - 1) := by
    rcases Nat.eq_zero_or_pos L with z | z
    · rw [z]; rfl
    · rw [show nI L - 1 = nI (L - 1) by rw [show L = L - 1 + 1 by omega, nI_pred]; rfl]
      by_cases h1 : 0 < L - 1
      · rw [if_pos (show (0 : Int32) < nI (L - 1) from nI_lt (a := 0) h1 (by omega))]
      · rw [if_neg (show ¬ (0 : Int32) < nI (L - 1) from nI_nlt (a := 0) (b := L - 1) (by omega) (by omega)), show L - 1 = 0 by omega]; rfl
  refine Cx.of (by decide) rfl (fun q => by cases q) rfl rfl (Nat.le_of_ble_eq_true rfl) ?_
  show Sx _ _ _ _ _ 0 [some (.ref 95), some (.int (w)), none, none, none, none] [] _ _
  have loop := sxUp (S := fun k9 E2 => Sx mX12_bolsters (d + 8) 0 0 (fun o => ∃ E2, o = (.inl (some (.int (if w = 0 then (bolF (fun e => nS (nightF (vMk L sl aw R (cBol c (nI (2 * e))) fr) m) 2) 0 (2 ^ (L - 1))).1 else (bolF (fun e => nS (nightF (vMk L sl aw R (cBol c (nI (2 * e))) fr) m) 2) 0 (2 ^ (L - 1))).2))), E2, 137) ∧ AQ E E2 0) 31 [some (.ref 95), some (.int w), some (.int (bolF (fun e => nS (nightF (vMk L sl aw R (cBol c (nI (2 * e))) fr) m) 2) 0 k9).1), some (.int (bolF (fun e => nS (nightF (vMk L sl aw R (cBol c (nI (2 * e))) fr) m) 2) 0 k9).2), some (.int (nI k9)), none] [] E2 137) (Inv := fun k9 E2 => MF gsR asQ (sI E 1538 95 0) E2 ∧ gI E2 1581 95 = nI L ∧ (∀ i, i < L → gA E2 113 i = cO c i) ∧ (∀ i, i < L → gA E2 114 i = cU c i) ∧ gI E2 1582 95 = cS c ∧ gI E2 1583 95 = (if cS c = -1 then 0 else cE c) ∧ gI E2 1589 95 = fr) (a := 0) (l := 2 ^ (L - 1)) (Nat.zero_le _) ?_ ?_ E1 ⟨mf_mono f1 (by decide) (by decide), hv1.1, fun i hi => (hr1 i hi).1, fun i hi => (hr1 i hi).2, s1, s2, hv1.2.2.2.2.2.2.2.2.2.1⟩
  refine Sx.up (fun _ kk => r_aload_n 1 dX12_bolsters_0 rfl rfl kk) ?_
  refine Sx.up (fun _ kk => r_iconst (0) 2 dX12_bolsters_1 rfl (by decide) kk) ?_
  refine Sx.up (fun _ kk => r_putI 5 dX12_bolsters_2 rfl f12_159 rfl lt95 kk) ?_
  refine Sx.up (fun _ kk => r_iload_n 6 dX12_bolsters_5 rfl rfl kk) ?_
  refine Sx.up (fun _ kk => r_if_lt 9 14 dX12_bolsters_6 rfl (by decide) (fun h6 => absurd h6 hw.1) (fun _ => kk)) ?_
  refine Sx.up (fun _ kk => r_iload_n 10 dX12_bolsters_9 rfl rfl kk) ?_
  refine Sx.up (fun _ kk => r_iconst (1) 11 dX12_bolsters_10 rfl (by decide) kk) ?_
  refine Sx.up (fun _ kk => r_icmp_le 14 20 dX12_bolsters_11 rfl (by decide) (fun _ => kk) (fun h11 => absurd (le_of_in2 hw) h11)) ?_
  refine Sx.up (fun _ kk => r_aload_n 21 dX12_bolsters_20 rfl rfl kk) ?_
  refine Sx.up (fun _ kk => r_callV (M := mX12_bolsters) (pc := 21) 24 dX12_bolsters_21 rfl k12_413 hse rfl rfl rfl (by decide) rfl lt95 (Nat.le_of_ble_eq_true rfl) kk) ?_
  refine Sx.up (fun _ kk => r_iconst (-1) 25 dX12_bolsters_24 rfl (by decide) kk) ?_
  refine Sx.up (fun _ kk => r_istore_n 26 dX12_bolsters_25 rfl (by decide) rfl kk) ?_
  refine Sx.up (fun _ kk => r_iconst (0) 27 dX12_bolsters_26 rfl (by decide) kk) ?_
  refine Sx.up (fun _ kk => r_istore_n 28 dX12_bolsters_27 rfl (by decide) rfl kk) ?_
  refine Sx.up (fun _ kk => r_iconst (0) 29 dX12_bolsters_28 rfl (by decide) kk) ?_
  refine Sx.up (fun _ kk => r_istore 31 dX12_bolsters_29 rfl (by decide) rfl kk) ?_
  exact loop
  · intro E2 ⟨f2, j1, j2, j3, j4, j5, j6⟩
    have hM2 := mf_mo f2 hM0
    have hq9 : AQ E E2 0 := mq_of f2 (by decide) (by decide) (by decide)
    refine Sx.up (fun _ kk => r_iload 33 dX12_bolsters_31 rfl rfl kk) ?_
    refine Sx.up (fun _ kk => r_iconst (1) 34 dX12_bolsters_33 rfl (by decide) kk) ?_
    refine Sx.up (fun _ kk => r_iconst (0) 35 dX12_bolsters_34 rfl (by decide) kk) ?_
    refine Sx.up (fun _ kk => r_aload_n 36 dX12_bolsters_35 rfl rfl kk) ?_
    refine Sx.up (fun _ kk => r_getIV (nI L) 39 dX12_bolsters_36 rfl f12_341 rfl rfl lt95 (j1) kk) ?_
    refine Sx.up (fun _ kk => r_iconst (1) 40 dX12_bolsters_39 rfl (by decide) kk) ?_
    refine Sx.up (fun _ kk => r_isub 41 dX12_bolsters_40 rfl kk) ?_
    refine Sx.up (fun _ kk => r_max 44 dX12_bolsters_41 rfl k12_391 (Nat.le_of_ble_eq_true rfl) kk) ?_
    refine Sx.up (fun _ kk => r_ishl 45 dX12_bolsters_44 rfl kk) ?_
    rw [hmx, hpw]
    refine Sx.up (fun _ kk => r_icmp_ge 48 124 dX12_bolsters_45 rfl (by decide) (fun _ => kk) (fun h45 => absurd (nI_le (Nat.le_refl _) (by omega)) h45)) ?_
    refine Sx.up (fun _ kk => r_iload_n 125 dX12_bolsters_124 rfl rfl kk) ?_
    refine Sx.br (fun _ ka kb => r_if_ne 128 132 dX12_bolsters_125 rfl (by decide) ka kb) (by first | exact em1 | exact em2) (fun h125 => ?_) (fun h125 => ?_)
    · refine Sx.up (fun _ kk => r_iload_n 133 dX12_bolsters_132 rfl rfl kk) ?_
      refine ⟨_, ?_, r_iret dX12_bolsters_133 rfl rfl rfl⟩
      refine ⟨E2, ?_, hq9⟩
      first | rw [if_pos h125] | rw [if_neg h125]
    · refine Sx.up (fun _ kk => r_iload_n 129 dX12_bolsters_128 rfl rfl kk) ?_
      refine Sx.up (fun _ kk => r_goto 133 dX12_bolsters_129 (by decide) kk) ?_
      refine ⟨_, ?_, r_iret dX12_bolsters_133 rfl rfl rfl⟩
      refine ⟨E2, ?_, hq9⟩
      first | rw [if_pos h125] | rw [if_neg h125]
  · intro k9 E2 hk0 hk9 ⟨f2, j1, j2, j3, j4, j5, j6⟩ hq
    have hM2 := mf_mo f2 hM0
    obtain ⟨-, hdb⟩ := dbl_nI k9 (by omega)
    have f3 : MF gsR asQ (sI E 1538 95 0) (sI E2 1584 95 (nI (2 * k9))) := mf_sI (by decide) f2
    have i3 : ∀ g, g ≠ 1584 → gI (sI E2 1584 95 (nI (2 * k9))) g 95 = gI E2 g 95 := fun g hg => by rw [gI_sI, if_neg (fun z => hg z.1)]
    have hM3 := mf_mo f3 hM0
    have hv3 : MVis (sI E2 1584 95 (nI (2 * k9))) (vMk L sl aw R (cBol c (nI (2 * k9))) fr) L := by
      refine m_vis h (mf_mono f3 (by decide) (by decide)) ((i3 _ (by decide)).trans j1) (c2 := cBol c (nI (2 * k9))) cok j2 j3 (fun z => ?_) (fun z1 z2 => ?_) (by rw [gI_sI, if_pos ⟨rfl, rfl⟩]; rfl) ((i3 _ (by decide)).trans j6)
      · rw [i3 1582 (by decide), i3 1583 (by decide), j4, j5] at z
        intro y
        have y' : 0 < cE c := y
        rcases z with z | z
        · exact hsy y' z
        · rw [if_neg (hsy y')] at z
          exact z y'
      · rw [i3 1582 (by decide), j4] at z1
        rw [i3 1582 (by decide), i3 1583 (by decide), j4, j5, if_neg z1]
        exact ⟨rfl, rfl⟩
    have hF3 : gI (sI E2 1584 95 (nI (2 * k9))) 1562 95 = vS (vMk L sl aw R (cBol c (nI (2 * k9))) fr) 4 := (mf_gI f3 (by decide)).trans h62
    have hm3 : gA (sI E2 1584 95 (nI (2 * k9))) 98 3 = nI m := by rw [mf_gA0 f3 (by decide)]; exact hm
    obtain ⟨_, ⟨E4, rfl, f4, hg⟩, hgo⟩ := c_X12_go (d := d + 2) (m := m) hM3 hv3 cok.2.2.2.2.2.2 m6
    obtain ⟨hM4, hv4, u1, u2, u3, u4, u5, u6⟩ := id hg
    have haw := c_X12_allWoken (d := d + 7) hM4 (by rw [mf_gA f4 (by decide), mf_gA0 f3 (by decide)]; exact hL) l7
    rw [u4] at haw
    have f04 : MF gsR asQ (sI E 1538 95 0) E4 := mf_tr f3 (mf_mono f4 (by decide) (by decide))
    have i4 : ∀ g, g ∉ gsG → g ≠ 1584 → gI E4 g 95 = gI E2 g 95 := fun g hg h9 => (mf_gI f4 hg).trans (i3 g h9)
    have hgo2 := hq E4 ⟨f04, (i4 _ (by decide) (by decide)).trans j1, fun i hi => by rw [mf_gA f4 (by decide)]; exact j2 i hi, fun i hi => by rw [mf_gA f4 (by decide)]; exact j3 i hi, (i4 _ (by decide) (by decide)).trans j4, (i4 _ (by decide) (by decide)).trans j5, (i4 _ (by decide) (by decide)).trans j6⟩
    have hbk := c_bits (d := d + 7) (E := E4) (k := k9) (by omega)
    have hbb : ¬ (bolF (fun e => nS (nightF (vMk L sl aw R (cBol c (nI (2 * e))) fr) m) 2) 0 k9).1 = -1 → Cl yX12_bitsOf mX12_bitsOf (d + 7) 0 0 [.int (bolF (fun e => nS (nightF (vMk L sl aw R (cBol c (nI (2 * e))) fr) m) 2) 0 k9).1] E4 137 (.inl (some (.int (bcF (bolF (fun e => nS (nightF (vMk L sl aw R (cBol c (nI (2 * e))) fr) m) 2) 0 k9).1))), E4, 137) := fun z => by
      obtain ⟨j, hj, e⟩ := (bol_form k9).resolve_left z
      rw [e]
      exact c_bits (by omega)
    rw [← nI_pp] at hgo2
    refine Sx.up (fun _ kk => r_iload 33 dX12_bolsters_31 rfl rfl kk) ?_
    refine Sx.up (fun _ kk => r_iconst (1) 34 dX12_bolsters_33 rfl (by decide) kk) ?_
    refine Sx.up (fun _ kk => r_iconst (0) 35 dX12_bolsters_34 rfl (by decide) kk) ?_
    refine Sx.up (fun _ kk => r_aload_n 36 dX12_bolsters_35 rfl rfl kk) ?_
    refine Sx.up (fun _ kk => r_getIV (nI L) 39 dX12_bolsters_36 rfl f12_341 rfl rfl lt95 (j1) kk) ?_
    refine Sx.up (fun _ kk => r_iconst (1) 40 dX12_bolsters_39 rfl (by decide) kk) ?_
    refine Sx.up (fun _ kk => r_isub 41 dX12_bolsters_40 rfl kk) ?_
    refine Sx.up (fun _ kk => r_max 44 dX12_bolsters_41 rfl k12_391 (Nat.le_of_ble_eq_true rfl) kk) ?_
    refine Sx.up (fun _ kk => r_ishl 45 dX12_bolsters_44 rfl kk) ?_
    rw [hmx, hpw]
    refine Sx.up (fun _ kk => r_icmp_ge 48 124 dX12_bolsters_45 rfl (by decide) (fun h45 => absurd h45 (nI_ge hk9 (by omega))) (fun _ => kk)) ?_
    refine Sx.up (fun _ kk => r_aload_n 49 dX12_bolsters_48 rfl rfl kk) ?_
    refine Sx.up (fun _ kk => r_iconst (2) 50 dX12_bolsters_49 rfl (by decide) kk) ?_
    refine Sx.up (fun _ kk => r_iload 52 dX12_bolsters_50 rfl rfl kk) ?_
    refine Sx.up (fun _ kk => r_imul 53 dX12_bolsters_52 rfl kk) ?_
    rw [hdb]
    refine Sx.up (fun _ kk => r_putI 56 dX12_bolsters_53 rfl f12_350 rfl lt95 kk) ?_
    refine Sx.up (fun _ kk => r_aload_n 57 dX12_bolsters_56 rfl rfl kk) ?_
    refine Sx.up (fun _ kk => r_aload_n 58 dX12_bolsters_57 rfl rfl kk) ?_
    refine Sx.up (fun _ kk => r_getIV (vS (vMk L sl aw R (cBol c (nI (2 * k9))) fr) 4) 61 dX12_bolsters_58 rfl f12_315 rfl rfl lt95 (hF3) kk) ?_
    refine Sx.up (fun _ kk => r_aload_n 62 dX12_bolsters_61 rfl rfl kk) ?_
    refine Sx.up (fun _ kk => r_getR 65 dX12_bolsters_62 rfl f12_38 rfl rfl lt95 (mo_3 hM3) kk) ?_
    refine Sx.up (fun _ kk => r_iconst (3) 66 dX12_bolsters_65 rfl (by decide) kk) ?_
    refine Sx.up (fun _ kk => r_ialdN (3) (nI m) 67 dX12_bolsters_66 rfl rfl (Nat.le_of_ble_eq_true rfl) (by decide) (Nat.le_of_ble_eq_true rfl) (Nat.le_of_ble_eq_true rfl) (hm3) kk) ?_
    refine Sx.up (fun _ kk => r_callV (M := mX12_bolsters) (pc := 67) 70 dX12_bolsters_67 rfl k12_416 hgo rfl rfl rfl (by decide) rfl lt95 (Nat.le_of_ble_eq_true rfl) kk) ?_
    refine Sx.up (fun _ kk => r_aload_n 71 dX12_bolsters_70 rfl rfl kk) ?_
    refine Sx.up (fun _ kk => r_callV (M := mX12_bolsters) (pc := 71) 74 dX12_bolsters_71 rfl k12_447 haw rfl rfl rfl (by decide) rfl lt95 (Nat.le_of_ble_eq_true rfl) kk) ?_
    refine Sx.up (fun _ kk => r_istore 76 dX12_bolsters_74 rfl (by decide) rfl kk) ?_
    refine Sx.up (fun _ kk => r_iload_n 77 dX12_bolsters_76 rfl rfl kk) ?_
    refine Sx.up (fun _ kk => r_iconst (-1) 78 dX12_bolsters_77 rfl (by decide) kk) ?_
    refine Sx.br (fun _ ka kb => r_icmp_eq 81 110 dX12_bolsters_78 rfl (by decide) ka kb) (by first | exact em1 | exact em2) (fun h78 => ?_) (fun h78 => ?_)
    · refine Sx.up (fun _ kk => r_iconst (2) 111 dX12_bolsters_110 rfl (by decide) kk) ?_
      refine Sx.up (fun _ kk => r_iload 113 dX12_bolsters_111 rfl rfl kk) ?_
      refine Sx.up (fun _ kk => r_imul 114 dX12_bolsters_113 rfl kk) ?_
      refine Sx.up (fun _ kk => r_istore_n 115 dX12_bolsters_114 rfl (by decide) rfl kk) ?_
      refine Sx.up (fun _ kk => r_iload 117 dX12_bolsters_115 rfl rfl kk) ?_
      refine Sx.up (fun _ kk => r_istore_n 118 dX12_bolsters_117 rfl (by decide) rfl kk) ?_
      refine Sx.up (fun _ kk => r_iinc (1) 121 dX12_bolsters_118 rfl rfl (by decide) (by decide) rfl kk) ?_
      refine Sx.up (fun _ kk => r_goto 31 dX12_bolsters_121 (by decide) kk) ?_
      rw [bol_y (Or.inl h78)] at hgo2
      rw [hdb]
      exact Sx.less (by exact ⟨rfl, rfl, rfl, rfl, rfl, trivial⟩) hgo2
    · refine Sx.up (fun _ kk => r_iload 83 dX12_bolsters_81 rfl rfl kk) ?_
      refine Sx.up (fun _ kk => r_iload_n 84 dX12_bolsters_83 rfl rfl kk) ?_
      refine Sx.br (fun _ ka kb => r_icmp_gt 87 118 dX12_bolsters_84 rfl (by decide) ka kb) (by first | exact em1 | exact em2) (fun h84 => ?_) (fun h84 => ?_)
      · refine Sx.up (fun _ kk => r_iinc (1) 121 dX12_bolsters_118 rfl rfl (by decide) (by decide) rfl kk) ?_
        refine Sx.up (fun _ kk => r_goto 31 dX12_bolsters_121 (by decide) kk) ?_
        rw [bol_n (fun z => z.elim h78 (fun z => z.elim (fun y => absurd (Int32.lt_trans y h84) Int32.lt_irrefl) (fun y => absurd h84 (by rw [y.1]; exact Int32.lt_irrefl))))] at hgo2
        exact Sx.less (by exact ⟨rfl, rfl, rfl, rfl, rfl, trivial⟩) hgo2
      · refine Sx.up (fun _ kk => r_iload 89 dX12_bolsters_87 rfl rfl kk) ?_
        refine Sx.up (fun _ kk => r_iload_n 90 dX12_bolsters_89 rfl rfl kk) ?_
        refine Sx.br (fun _ ka kb => r_icmp_ne 93 110 dX12_bolsters_90 rfl (by decide) ka kb) (by first | exact em1 | exact em2) (fun h90 => ?_) (fun h90 => ?_)
        · refine Sx.up (fun _ kk => r_iconst (2) 111 dX12_bolsters_110 rfl (by decide) kk) ?_
          refine Sx.up (fun _ kk => r_iload 113 dX12_bolsters_111 rfl rfl kk) ?_
          refine Sx.up (fun _ kk => r_imul 114 dX12_bolsters_113 rfl kk) ?_
          refine Sx.up (fun _ kk => r_istore_n 115 dX12_bolsters_114 rfl (by decide) rfl kk) ?_
          refine Sx.up (fun _ kk => r_iload 117 dX12_bolsters_115 rfl rfl kk) ?_
          refine Sx.up (fun _ kk => r_istore_n 118 dX12_bolsters_117 rfl (by decide) rfl kk) ?_
          refine Sx.up (fun _ kk => r_iinc (1) 121 dX12_bolsters_118 rfl rfl (by decide) (by decide) rfl kk) ?_
          refine Sx.up (fun _ kk => r_goto 31 dX12_bolsters_121 (by decide) kk) ?_
          rw [bol_y (Or.inr (Or.inl (lt_nn h84 h90)))] at hgo2
          rw [hdb]
          exact Sx.less (by exact ⟨rfl, rfl, rfl, rfl, rfl, trivial⟩) hgo2
        · refine Sx.up (fun _ kk => r_iconst (2) 94 dX12_bolsters_93 rfl (by decide) kk) ?_
          refine Sx.up (fun _ kk => r_iload 96 dX12_bolsters_94 rfl rfl kk) ?_
          refine Sx.up (fun _ kk => r_imul 97 dX12_bolsters_96 rfl kk) ?_
          rw [hdb]
          refine Sx.up (fun _ kk => r_callS (M := mX12_bolsters) (pc := 97) 100 dX12_bolsters_97 rfl k12_475 hbk rfl rfl (Nat.le_of_ble_eq_true rfl) kk) ?_
          refine Sx.up (fun _ kk => r_iload_n 101 dX12_bolsters_100 rfl rfl kk) ?_
          refine Sx.up (fun _ kk => r_callS (M := mX12_bolsters) (pc := 101) 104 dX12_bolsters_101 rfl k12_475 (hbb h78) rfl rfl (Nat.le_of_ble_eq_true rfl) kk) ?_
          refine Sx.br (fun _ ka kb => r_icmp_lt 107 110 dX12_bolsters_104 rfl (by decide) ka kb) (by first | exact em1 | exact em2) (fun h104 => ?_) (fun h104 => ?_)
          · refine Sx.up (fun _ kk => r_iconst (2) 111 dX12_bolsters_110 rfl (by decide) kk) ?_
            refine Sx.up (fun _ kk => r_iload 113 dX12_bolsters_111 rfl rfl kk) ?_
            refine Sx.up (fun _ kk => r_imul 114 dX12_bolsters_113 rfl kk) ?_
            refine Sx.up (fun _ kk => r_istore_n 115 dX12_bolsters_114 rfl (by decide) rfl kk) ?_
            refine Sx.up (fun _ kk => r_iload 117 dX12_bolsters_115 rfl rfl kk) ?_
            refine Sx.up (fun _ kk => r_istore_n 118 dX12_bolsters_117 rfl (by decide) rfl kk) ?_
            refine Sx.up (fun _ kk => r_iinc (1) 121 dX12_bolsters_118 rfl rfl (by decide) (by decide) rfl kk) ?_
            refine Sx.up (fun _ kk => r_goto 31 dX12_bolsters_121 (by decide) kk) ?_
            rw [bol_y (Or.inr (Or.inr ⟨h90, h104⟩))] at hgo2
            rw [hdb]
            exact Sx.less (by exact ⟨rfl, rfl, rfl, rfl, rfl, trivial⟩) hgo2
          · refine Sx.up (fun _ kk => r_goto 118 dX12_bolsters_107 (by decide) kk) ?_
            refine Sx.up (fun _ kk => r_iinc (1) 121 dX12_bolsters_118 rfl rfl (by decide) (by decide) rfl kk) ?_
            refine Sx.up (fun _ kk => r_goto 31 dX12_bolsters_121 (by decide) kk) ?_
            rw [bol_n (fun z => z.elim h78 (fun z => z.elim (fun y => absurd y (by rw [h90]; exact Int32.lt_irrefl)) (fun y => h104 y.2)))] at hgo2
            exact Sx.less (by exact ⟨rfl, rfl, rfl, rfl, rfl, trivial⟩) hgo2
set_option maxRecDepth 20000 in
theorem m_bolstersX {d L m : Nat} {sl : Nat → Nat → Int32} {aw : Int32} {R : List Int32} {c : Cfg} {fr : Int32} {E : HP} {w : Int32} (h : MD E L m sl aw R c fr) (hw : ¬ inB w 2) : ∃ E2, AQ E E2 1 ∧ Cl yX12_bolsters mX12_bolsters (d + 8) 0 0 [.ref 95, .int (w)] E 137 (.inl (some (.int 0)), E2, 137) := by
  obtain ⟨hM, hL, ⟨cok, csu⟩, hoc, h62, h63, h64, h65, hsy, hsl, ⟨m1, m6, hm⟩, -⟩ := id h
  have l7 : L ≤ 7 := cok.2.1
  have hM0 : MoOK (sI E 1538 95 0) := hM
  have hL0 : gA (sI E 1538 95 0) 98 0 = nI L := hL
  refine ⟨_, mq_fail (x := 0), ?_⟩
  refine Cl.of (by decide) rfl (fun q => by cases q) rfl rfl (Nat.le_of_ble_eq_true rfl) ?_
  show Sm _ _ _ _ _ 0 [some (.ref 95), some (.int (w)), none, none, none, none] [] _ _
  refine r_aload_n 1 dX12_bolsters_0 rfl rfl ?_
  refine r_iconst (0) 2 dX12_bolsters_1 rfl (by decide) ?_
  refine r_putI 5 dX12_bolsters_2 rfl f12_159 rfl lt95 ?_
  refine r_iload_n 6 dX12_bolsters_5 rfl rfl ?_
  refine r_if_lt 9 14 dX12_bolsters_6 rfl (by decide) (fun h6 => ?_) (fun h6 => ?_)
  · refine r_aload_n 15 dX12_bolsters_14 rfl rfl ?_
    refine r_iconst (1) 16 dX12_bolsters_15 rfl (by decide) ?_
    refine r_callV (M := mX12_bolsters) (pc := 16) 19 dX12_bolsters_16 rfl k12_302 c_fail rfl rfl rfl (by decide) rfl lt95 (Nat.le_of_ble_eq_true rfl) ?_
    exact r_iret dX12_bolsters_19 rfl rfl (rfl)
  · refine r_iload_n 10 dX12_bolsters_9 rfl rfl ?_
    refine r_iconst (1) 11 dX12_bolsters_10 rfl (by decide) ?_
    refine r_icmp_le 14 20 dX12_bolsters_11 rfl (by decide) (fun h11 => ?_) (fun h11 => ?_)
    · exact absurd (in2_of h6 h11) hw
    · refine r_aload_n 15 dX12_bolsters_14 rfl rfl ?_
      refine r_iconst (1) 16 dX12_bolsters_15 rfl (by decide) ?_
      refine r_callV (M := mX12_bolsters) (pc := 16) 19 dX12_bolsters_16 rfl k12_302 c_fail rfl rfl rfl (by decide) rfl lt95 (Nat.le_of_ble_eq_true rfl) ?_
      exact r_iret dX12_bolsters_19 rfl rfl (rfl)
