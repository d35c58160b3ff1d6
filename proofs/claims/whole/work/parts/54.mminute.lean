/-! The model: minuteNow -/
theorem grp_to {V : NV} {t a : Nat} {S : NS} : ∀ m, (∀ j, a < j → j ≤ a + m → splitF V j = false) → groupF V t S (a + m) = groupF V t S a := by
  intro m
  induction m with
  | zero => intro _; rfl
  | succ m ih =>
    intro h
    have h1 := h (a + m + 1) (by omega) (by omega)
    show groupF V t S (a + m + 1) = _
    conv => lhs; unfold groupF
    rw [if_neg (by rw [h1]; decide)]
    exact ih (fun j a1 a2 => h j a1 (by omega))
theorem grp_uniq {V : NV} {a e e2 : Nat} (h1 : a < e) (h2 : splitF V e = true) (h3 : ∀ j, a < j → j < e → splitF V j = false) (k1 : a < e2) (k2 : splitF V e2 = true) (k3 : ∀ j, a < j → j < e2 → splitF V j = false) : e2 = e := by
  rcases Nat.lt_trichotomy e e2 with z | z | z
  · rw [k3 e h1 z] at h2; cases h2
  · exact z.symm
  · rw [h3 e2 k1 z] at k2; cases k2
theorem grp_none {V : NV} {t a e : Nat} {S : NS} (h1 : a < e) (h2 : splitF V e = true) (h3 : ∀ j, a < j → j < e → splitF V j = false) (ha : (groupF V t S a).2 = a) (hf : firstF V (groupF V t S a).1 t a (e - a) = none) : groupF V t S e = ((groupF V t S a).1, e) := by
  obtain ⟨m, rfl⟩ : ∃ m, e = a + m + 1 := ⟨e - a - 1, by omega⟩
  have h4 := grp_to (V := V) (t := t) (S := S) m (fun j b1 b2 => h3 j b1 (by omega))
  rw [group_no h2 (by rw [h4, ha]; exact hf), h4]
theorem grp_some {V : NV} {t a e q : Nat} {S : NS} (h1 : a < e) (h2 : splitF V e = true) (h3 : ∀ j, a < j → j < e → splitF V j = false) (ha : (groupF V t S a).2 = a) (hf : firstF V (groupF V t S a).1 t a (e - a) = some q) : groupF V t S e = (turnF V (groupF V t S a).1 a e q 0 t, e) := by
  obtain ⟨m, rfl⟩ : ∃ m, e = a + m + 1 := ⟨e - a - 1, by omega⟩
  have h4 := grp_to (V := V) (t := t) (S := S) m (fun j b1 b2 => h3 j b1 (by omega))
  rw [group_yes h2 (by rw [h4, ha]; exact hf), h4, ha]
theorem first_s {V : NV} {S : NS} {t a k : Nat} : firstF V S t a (k + 1) = if tiredF V S a t = true then some a else firstF V S t (a + 1) k := by
  conv => lhs; unfold firstF
set_option maxRecDepth 20000 in
theorem c_X12_minuteNow {d L t : Nat} {V : NV} {S : NS} {E : HP} (hc : MC E V L t) (hr : MR E V S L) (h0 : 0 < t) (hlen : (nG S).length < 80000) : ∃ o, (∃ E2, o = (.inl none, E2, 137) ∧ MF gsN asN E E2 ∧ MR E2 V (minuteF V t S) L) ∧ Cl yX12_minuteNow mX12_minuteNow (d + 4) 0 0 [.ref 95] E 137 o := by
  obtain ⟨hM, hv, hmi, ht6⟩ := id hc
  obtain ⟨v1, v2, v3, v4, v5, v6, v7, v8, v9, v10, v11, v12, v13, v14, v15, v16⟩ := id hv
  refine Cx.of (by decide) rfl (fun q => by cases q) rfl rfl (Nat.le_of_ble_eq_true rfl) ?_
  show Sx _ _ _ _ _ 0 [some (.ref 95), none, none, none] [] _ _
  have over : ∀ p S9 E0, p < vL V → MF gsN asN E E0 → MR E0 V S9 L → (∀ E2, MF gsN asN E E2 → MR E2 V (overF V S9 p t) L → ∀ x2 x3, Sx mX12_minuteNow (d + 4) 0 0 (fun o => ∃ E2, o = (.inl none, E2, 137) ∧ MF gsN asN E E2 ∧ MR E2 V (minuteF V t S) L) 194 [some (.ref 95), some (.int (nI p)), x2, x3] [] E2 137) → ∀ x2 x3, Sx mX12_minuteNow (d + 4) 0 0 (fun o => ∃ E2, o = (.inl none, E2, 137) ∧ MF gsN asN E E2 ∧ MR E2 V (minuteF V t S) L) 140 [some (.ref 95), some (.int (nI p)), x2, x3] [] E0 137 := by
    intro p S9 E0 hp hN0 hR0 hgo x2 x3
    obtain ⟨q1, q2, q3, q4, q5, q6⟩ := id hR0
    refine Sx.less (ls := [some (.ref 95), some (.int (nI p)), none, none]) ⟨rfl, rfl, trivial⟩ ?_
    have loop := sxUp (S := fun k9 E1 => Sx mX12_minuteNow (d + 4) 0 0 (fun o => ∃ E2, o = (.inl none, E2, 137) ∧ MF gsN asN E E2 ∧ MR E2 V (minuteF V t S) L) 144 [some (.ref 95), some (.int (nI p)), some (.int (nI k9)), none] [] E1 137) (Inv := fun k9 E1 => MF [] [117, 118] E0 E1 ∧ MLF E1 V (wokenF (nA S9) (fun i => decide (i < k9) && overW V S9 p t i) t) ∧ sumM (gA E1 118) L = nS S9 2 + nI (cntF (overW V S9 p t) (p + 1) (k9 - (p + 1)))) (a := p + 1) (l := vL V) (by omega) ?_ ?_ E0 ⟨mf_rfl, mlf_congr q5 (fun k i => ?_), by rw [q4, Nat.sub_self]; show _ = _ + nI 0; rw [nI_0, Int32.add_zero]⟩
    refine Sx.up (fun _ kk => r_iload_n 141 dX12_minuteNow_140 rfl rfl kk) ?_
    refine Sx.up (fun _ kk => r_iconst (1) 142 dX12_minuteNow_141 rfl (by decide) kk) ?_
    refine Sx.up (fun _ kk => r_iadd 143 dX12_minuteNow_142 rfl kk) ?_
    refine Sx.up (fun _ kk => r_istore_n 144 dX12_minuteNow_143 rfl (by decide) rfl kk) ?_
    rw [nI_pp]
    exact loop
    · intro E1 ⟨hN, hL, hS⟩
      have hN1 : MF gsN asN E E1 := mf_tr hN0 (mf_mono hN (by decide) (by decide))
      have hc1 := mc_mf hN1 hc
      have hM1 := hc1.1
      have v1b := hc1.2.1.1
      refine Sx.up (fun _ kk => r_iload_n 145 dX12_minuteNow_144 rfl rfl kk) ?_
      refine Sx.up (fun _ kk => r_aload_n 146 dX12_minuteNow_145 rfl rfl kk) ?_
      refine Sx.up (fun _ kk => r_getIV (nI (vL V)) 149 dX12_minuteNow_146 rfl f12_341 rfl rfl lt95 (v1b) kk) ?_
      refine Sx.up (fun _ kk => r_icmp_ge 152 194 dX12_minuteNow_149 rfl (by decide) (fun _ => kk) (fun h149 => absurd (nI_le (Nat.le_refl _) (by omega)) h149)) ?_
      refine hgo E1 hN1 ⟨(mf_gI hN (by decide)).trans q1, (mf_gI hN (by decide)).trans q2, (mf_gI hN (by decide)).trans q3, hS, mlf_congr hL (fun k i => ?_), fun i x z1 z2 => by rw [mf_gA hN (by decide), mf_gA hN (by decide), mf_gA hN (by decide), mf_gA hN (by decide)]; exact q6 i x z1 z2⟩ _ _
      show wokenF (nA S9) _ t k i = wokenF (nA S9) (overW V S9 p t) t k i
      unfold wokenF
      by_cases hi : i < vL V
      · simp [hi]
      · have : overW V S9 p t i = false := by unfold overW; simp [hi]
        simp [this]
    · intro k9 E1 hk0 hk9 ⟨hN, hL, hS⟩ hq
      have hN1 : MF gsN asN E E1 := mf_tr hN0 (mf_mono hN (by decide) (by decide))
      have hc1 := mc_mf hN1 hc
      have hM1 := hc1.1
      have v1b := hc1.2.1.1
      have hov := (v5 k9 hk9).2.1
      have hro : gA E1 113 k9 = nI (oV V k9) := (hc1.2.1.2.2.2.2.1 k9 hk9).2.2.1
      have hdf := c_X12_isDeaf (d := d + 3) hc1 hk9
      have haw := c_X12_isAwake (d := d + 3) hc1 hL hk9
      rw [awk_congr (woken_at 2)] at haw
      have hwc := c_X12_wake (d := d + 3) (k := oV V k9) hc1.1 hc1.2.2.1 (by omega)
      have hwo : overW V S9 p t k9 = (canF V k9 && !awkF V (nA S9) k9 t) := by
        unfold overW
        rw [decide_eq_true (p := p < k9 ∧ k9 < vL V) ⟨by omega, hk9⟩]
        simp
      have hno : overW V S9 p t k9 = false → Sx mX12_minuteNow (d + 4) 0 0 (fun o => ∃ E2, o = (.inl none, E2, 137) ∧ MF gsN asN E E2 ∧ MR E2 V (minuteF V t S) L) 144 [some (.ref 95), some (.int (nI p)), some (.int (nI (k9 + 1))), none] [] E1 137 := fun hz => hq E1 ⟨hN, mlf_congr hL (fun k i => woken_no hz k i), by rw [cntF_s hk0, hz]; exact hS⟩
      refine Sx.up (fun _ kk => r_iload_n 145 dX12_minuteNow_144 rfl rfl kk) ?_
      refine Sx.up (fun _ kk => r_aload_n 146 dX12_minuteNow_145 rfl rfl kk) ?_
      refine Sx.up (fun _ kk => r_getIV (nI (vL V)) 149 dX12_minuteNow_146 rfl f12_341 rfl rfl lt95 (v1b) kk) ?_
      refine Sx.up (fun _ kk => r_icmp_ge 152 194 dX12_minuteNow_149 rfl (by decide) (fun h149 => absurd h149 (nI_ge hk9 (by omega))) (fun _ => kk)) ?_
      refine Sx.up (fun _ kk => r_aload_n 153 dX12_minuteNow_152 rfl rfl kk) ?_
      refine Sx.up (fun _ kk => r_aload_n 154 dX12_minuteNow_153 rfl rfl kk) ?_
      refine Sx.up (fun _ kk => r_getR 157 dX12_minuteNow_154 rfl f12_90 rfl rfl lt95 (mo_34 hM1) kk) ?_
      refine Sx.up (fun _ kk => r_iload_n 158 dX12_minuteNow_157 rfl rfl kk) ?_
      refine Sx.up (fun _ kk => r_ialdN (k9) (nI (oV V k9)) 159 dX12_minuteNow_158 rfl rfl (Nat.le_of_ble_eq_true rfl) (rfl) (by omega) (Nat.le_of_ble_eq_true rfl) (hro) kk) ?_
      refine Sx.up (fun _ kk => r_callV (M := mX12_minuteNow) (pc := 159) 162 dX12_minuteNow_159 rfl k12_373 hdf rfl rfl rfl (by decide) rfl lt95 (Nat.le_of_ble_eq_true rfl) kk) ?_
      refine Sx.br (fun _ ka kb => r_if_ne 165 188 dX12_minuteNow_162 rfl (by decide) ka kb) (by first | exact em1 | exact em2) (fun h162 => ?_) (fun h162 => ?_)
      · refine Sx.up (fun _ kk => r_iinc (1) 191 dX12_minuteNow_188 rfl rfl (by decide) (by decide) rfl kk) ?_
        refine Sx.up (fun _ kk => r_goto 144 dX12_minuteNow_191 (by decide) kk) ?_
        rw [nI_pp]; exact hno (by rw [hwo, not_b1 h162]; simp)
      · refine Sx.up (fun _ kk => r_aload_n 166 dX12_minuteNow_165 rfl rfl kk) ?_
        refine Sx.up (fun _ kk => r_aload_n 167 dX12_minuteNow_166 rfl rfl kk) ?_
        refine Sx.up (fun _ kk => r_getR 170 dX12_minuteNow_167 rfl f12_90 rfl rfl lt95 (mo_34 hM1) kk) ?_
        refine Sx.up (fun _ kk => r_iload_n 171 dX12_minuteNow_170 rfl rfl kk) ?_
        refine Sx.up (fun _ kk => r_ialdN (k9) (nI (oV V k9)) 172 dX12_minuteNow_171 rfl rfl (Nat.le_of_ble_eq_true rfl) (rfl) (by omega) (Nat.le_of_ble_eq_true rfl) (hro) kk) ?_
        refine Sx.up (fun _ kk => r_callV (M := mX12_minuteNow) (pc := 172) 175 dX12_minuteNow_172 rfl k12_376 haw rfl rfl rfl (by decide) rfl lt95 (Nat.le_of_ble_eq_true rfl) kk) ?_
        refine Sx.br (fun _ ka kb => r_if_ne 178 188 dX12_minuteNow_175 rfl (by decide) ka kb) (by first | exact em1 | exact em2) (fun h175 => ?_) (fun h175 => ?_)
        · refine Sx.up (fun _ kk => r_iinc (1) 191 dX12_minuteNow_188 rfl rfl (by decide) (by decide) rfl kk) ?_
          refine Sx.up (fun _ kk => r_goto 144 dX12_minuteNow_191 (by decide) kk) ?_
          rw [nI_pp]; exact hno (by rw [hwo, b1 h175]; simp)
        · refine Sx.up (fun _ kk => r_aload_n 179 dX12_minuteNow_178 rfl rfl kk) ?_
          refine Sx.up (fun _ kk => r_aload_n 180 dX12_minuteNow_179 rfl rfl kk) ?_
          refine Sx.up (fun _ kk => r_getR 183 dX12_minuteNow_180 rfl f12_90 rfl rfl lt95 (mo_34 hM1) kk) ?_
          refine Sx.up (fun _ kk => r_iload_n 184 dX12_minuteNow_183 rfl rfl kk) ?_
          refine Sx.up (fun _ kk => r_ialdN (k9) (nI (oV V k9)) 185 dX12_minuteNow_184 rfl rfl (Nat.le_of_ble_eq_true rfl) (rfl) (by omega) (Nat.le_of_ble_eq_true rfl) (hro) kk) ?_
          refine Sx.up (fun _ kk => r_callV (M := mX12_minuteNow) (pc := 185) 188 dX12_minuteNow_185 rfl k12_382 hwc rfl rfl rfl (by decide) rfl lt95 (Nat.le_of_ble_eq_true rfl) kk) ?_
          refine Sx.up (fun _ kk => r_iinc (1) 191 dX12_minuteNow_188 rfl rfl (by decide) (by decide) rfl kk) ?_
          refine Sx.up (fun _ kk => r_goto 144 dX12_minuteNow_191 (by decide) kk) ?_
          have hz : overW V S9 p t k9 = true := by rw [hwo, not_b0 h162, b0 h175]; rfl
          rw [nI_pp]
          exact hq _ ⟨mf_wake (by decide) (by decide) hN, mlf_congr (mlf_wake v6 hL hk9 ht6 h0) (fun k i => woken_yes hz k i), by rw [sum_wake hov, hS, cntF_s hk0, hz, Int32.add_assoc, nI_pp]; rfl⟩
    · show nA S9 k i = wokenF (nA S9) (fun q => decide (q < p + 1) && overW V S9 p t q) t k i
      unfold wokenF overW
      by_cases h1 : i < p + 1
      · have h2 : ¬ p < i := by omega
        simp [h2]
      · simp [h1]
  have loop2 : ∀ E1, MF gsN asN E E1 → MR E1 V (groupF V t (if wordF V t then turnF V S 0 (vL V) (vW V) 1 t else S) (vL V)).1 L → ∀ x1 x2 x3, Sx mX12_minuteNow (d + 4) 0 0 (fun o => ∃ E2, o = (.inl none, E2, 137) ∧ MF gsN asN E E2 ∧ MR E2 V (minuteF V t S) L) 109 [some (.ref 95), x1, x2, x3] [] E1 137 := by
    intro E0 hN0 hR0 x1 x2 x3
    refine Sx.less (ls := [some (.ref 95), none, none, none]) ⟨rfl, trivial⟩ ?_
    have loop := sxUp (S := fun k9 E1 => Sx mX12_minuteNow (d + 4) 0 0 (fun o => ∃ E2, o = (.inl none, E2, 137) ∧ MF gsN asN E E2 ∧ MR E2 V (minuteF V t S) L) 111 [some (.ref 95), some (.int (nI k9)), none, none] [] E1 137) (Inv := fun k9 E1 => MF gsN asN E E1 ∧ MR E1 V (goneF V t (groupF V t (if wordF V t then turnF V S 0 (vL V) (vW V) 1 t else S) (vL V)).1 k9) L) (a := 0) (l := vL V) (by omega) ?_ ?_ E0 ⟨hN0, hR0⟩
    refine Sx.up (fun _ kk => r_iconst (0) 110 dX12_minuteNow_109 rfl (by decide) kk) ?_
    refine Sx.up (fun _ kk => r_istore_n 111 dX12_minuteNow_110 rfl (by decide) rfl kk) ?_
    exact loop
    · intro E1 ⟨hN, hR⟩
      have hc1 := mc_mf hN hc
      have hM1 := hc1.1
      have v1b := hc1.2.1.1
      refine Sx.up (fun _ kk => r_iload_n 112 dX12_minuteNow_111 rfl rfl kk) ?_
      refine Sx.up (fun _ kk => r_aload_n 113 dX12_minuteNow_112 rfl rfl kk) ?_
      refine Sx.up (fun _ kk => r_getIV (nI (vL V)) 116 dX12_minuteNow_113 rfl f12_341 rfl rfl lt95 (v1b) kk) ?_
      refine Sx.up (fun _ kk => r_icmp_ge 119 200 dX12_minuteNow_116 rfl (by decide) (fun _ => kk) (fun h116 => absurd (nI_le (Nat.le_refl _) (by omega)) h116)) ?_
      refine ⟨_, ?_, r_vret dX12_minuteNow_200 rfl rfl rfl⟩
      exact ⟨_, rfl, hN, hR⟩
    · intro k9 E1 hk0 hk9 ⟨hN, hR⟩ hq
      have hc1 := mc_mf hN hc
      have hM1 := hc1.1
      have hmi1 := hc1.2.2.1
      have v1b := hc1.2.1.1
      obtain ⟨i1, i2, i3, i4, i5, i6, i7, i8, i9, i10⟩ := id (hc1.2.1.2.2.2.2.1 k9 hk9)
      refine Sx.up (fun _ kk => r_iload_n 112 dX12_minuteNow_111 rfl rfl kk) ?_
      refine Sx.up (fun _ kk => r_aload_n 113 dX12_minuteNow_112 rfl rfl kk) ?_
      refine Sx.up (fun _ kk => r_getIV (nI (vL V)) 116 dX12_minuteNow_113 rfl f12_341 rfl rfl lt95 (v1b) kk) ?_
      refine Sx.up (fun _ kk => r_icmp_ge 119 200 dX12_minuteNow_116 rfl (by decide) (fun h116 => absurd h116 (nI_ge hk9 (by omega))) (fun _ => kk)) ?_
      refine Sx.up (fun _ kk => r_aload_n 120 dX12_minuteNow_119 rfl rfl kk) ?_
      refine Sx.up (fun _ kk => r_getR 123 dX12_minuteNow_120 rfl f12_93 rfl rfl lt95 (mo_35 hM1) kk) ?_
      refine Sx.up (fun _ kk => r_aload_n 124 dX12_minuteNow_123 rfl rfl kk) ?_
      refine Sx.up (fun _ kk => r_getR 127 dX12_minuteNow_124 rfl f12_90 rfl rfl lt95 (mo_34 hM1) kk) ?_
      refine Sx.up (fun _ kk => r_iload_n 128 dX12_minuteNow_127 rfl rfl kk) ?_
      refine Sx.up (fun _ kk => r_ialdN (k9) (nI (oV V k9)) 129 dX12_minuteNow_128 rfl rfl (Nat.le_of_ble_eq_true rfl) (rfl) (by omega) (Nat.le_of_ble_eq_true rfl) (i3) kk) ?_
      refine Sx.up (fun _ kk => r_ialdN (oV V k9) (vA V 5 k9) 130 dX12_minuteNow_129 rfl rfl (Nat.le_of_ble_eq_true rfl) (rfl) (by omega) (Nat.le_of_ble_eq_true rfl) (i8) kk) ?_
      refine Sx.up (fun _ kk => r_aload_n 131 dX12_minuteNow_130 rfl rfl kk) ?_
      refine Sx.up (fun _ kk => r_getIV (nI t) 134 dX12_minuteNow_131 rfl f12_359 rfl rfl lt95 (hmi1) kk) ?_
      refine Sx.br (fun _ ka kb => r_icmp_eq 137 140 dX12_minuteNow_134 rfl (by decide) ka kb) (by first | exact em1 | exact em2) (fun h134 => ?_) (fun h134 => ?_)
      · refine over k9 (goneF V t (groupF V t (if wordF V t then turnF V S 0 (vL V) (vW V) 1 t else S) (vL V)).1 k9) E1 hk9 hN hR (fun E2 hN2 hR2 x2 x3 => ?_) _ _
        refine Sx.less (ls := [some (.ref 95), some (.int (nI k9)), none, none]) ⟨rfl, rfl, trivial⟩ ?_
        refine Sx.up (fun _ kk => r_iinc (1) 197 dX12_minuteNow_194 rfl rfl (by decide) (by decide) rfl kk) ?_
        refine Sx.up (fun _ kk => r_goto 111 dX12_minuteNow_197 (by decide) kk) ?_
        rw [nI_pp]
        refine Sx.less (ls := [some (.ref 95), some (.int (nI (k9 + 1))), none, none]) ⟨rfl, rfl, trivial⟩ (hq E2 ⟨hN2, ?_⟩)
        rw [show goneF V t (groupF V t (if wordF V t then turnF V S 0 (vL V) (vW V) 1 t else S) (vL V)).1 (k9 + 1) = overF V (goneF V t (groupF V t (if wordF V t then turnF V S 0 (vL V) (vW V) 1 t else S) (vL V)).1 k9) k9 t by conv => lhs; unfold goneF; rw [if_pos h134]]
        exact hR2
      · refine Sx.up (fun _ kk => r_goto 194 dX12_minuteNow_137 (by decide) kk) ?_
        refine Sx.up (fun _ kk => r_iinc (1) 197 dX12_minuteNow_194 rfl rfl (by decide) (by decide) rfl kk) ?_
        refine Sx.up (fun _ kk => r_goto 111 dX12_minuteNow_197 (by decide) kk) ?_
        rw [nI_pp]; exact hq _ ⟨hN, by rw [show goneF V t (groupF V t (if wordF V t then turnF V S 0 (vL V) (vW V) 1 t else S) (vL V)).1 (k9 + 1) = goneF V t (groupF V t (if wordF V t then turnF V S 0 (vL V) (vW V) 1 t else S) (vL V)).1 k9 by conv => lhs; unfold goneF; rw [if_neg h134]]; exact hR⟩
  have loop1 : ∀ E1, MF gsN asN E E1 → MR E1 V (if wordF V t then turnF V S 0 (vL V) (vW V) 1 t else S) L → (nG (if wordF V t then turnF V S 0 (vL V) (vW V) 1 t else S)).length < 85000 → ∀ x1 x2 x3, Sx mX12_minuteNow (d + 4) 0 0 (fun o => ∃ E2, o = (.inl none, E2, 137) ∧ MF gsN asN E E2 ∧ MR E2 V (minuteF V t S) L) 45 [some (.ref 95), x1, x2, x3] [] E1 137 := by
    intro E0 hN0 hR0 hl0 x1 x2 x3
    refine Sx.less (ls := [some (.ref 95), none, none, none]) ⟨rfl, trivial⟩ ?_
    have loop : ∀ m a E1, vL V - a ≤ m → a ≤ vL V → (groupF V t (if wordF V t then turnF V S 0 (vL V) (vW V) 1 t else S) a).2 = a → MF gsN asN E E1 → MR E1 V (groupF V t (if wordF V t then turnF V S 0 (vL V) (vW V) 1 t else S) a).1 L → Sx mX12_minuteNow (d + 4) 0 0 (fun o => ∃ E2, o = (.inl none, E2, 137) ∧ MF gsN asN E E2 ∧ MR E2 V (minuteF V t S) L) 47 [some (.ref 95), some (.int (nI a)), none, none] [] E1 137 := by
      intro m
      induction m with
      | zero =>
        intro a E1 hm ha h2 hN hR
        have hal : a = vL V := by omega
        subst hal
        have hc1 := mc_mf hN hc
        have hM1 := hc1.1
        have v1b := hc1.2.1.1
        refine Sx.up (fun _ kk => r_iload_n 48 dX12_minuteNow_47 rfl rfl kk) ?_
        refine Sx.up (fun _ kk => r_aload_n 49 dX12_minuteNow_48 rfl rfl kk) ?_
        refine Sx.up (fun _ kk => r_getIV (nI (vL V)) 52 dX12_minuteNow_49 rfl f12_341 rfl rfl lt95 (v1b) kk) ?_
        refine Sx.up (fun _ kk => r_icmp_ge 55 109 dX12_minuteNow_52 rfl (by decide) (fun _ => kk) (fun h52 => absurd (nI_le (Nat.le_refl _) (by omega)) h52)) ?_
        exact loop2 E1 hN hR _ _ _
      | succ m ih =>
        intro a E1 hm ha h2 hN hR
        have hc1 := mc_mf hN hc
        have hM1 := hc1.1
        have v1b := hc1.2.1.1
        by_cases hal : a = vL V
        · subst hal
          refine Sx.up (fun _ kk => r_iload_n 48 dX12_minuteNow_47 rfl rfl kk) ?_
          refine Sx.up (fun _ kk => r_aload_n 49 dX12_minuteNow_48 rfl rfl kk) ?_
          refine Sx.up (fun _ kk => r_getIV (nI (vL V)) 52 dX12_minuteNow_49 rfl f12_341 rfl rfl lt95 (v1b) kk) ?_
          refine Sx.up (fun _ kk => r_icmp_ge 55 109 dX12_minuteNow_52 rfl (by decide) (fun _ => kk) (fun h52 => absurd (nI_le (Nat.le_refl _) (by omega)) h52)) ?_
          exact loop2 E1 hN hR _ _ _
        obtain ⟨_, ⟨e, rfl, e1, e2, e3, e4⟩, hge⟩ := c_X12_groupEnd (d := d + 3) hc1 (show a < vL V by omega)
        have hgl := group_len (V := V) (t := t) (S := (if wordF V t then turnF V S 0 (vL V) (vW V) 1 t else S)) a
        have next : ∀ E2, MF gsN asN E E2 → MR E2 V (groupF V t (if wordF V t then turnF V S 0 (vL V) (vW V) 1 t else S) e).1 L → (groupF V t (if wordF V t then turnF V S 0 (vL V) (vW V) 1 t else S) e).2 = e → ∀ x2 x3, Sx mX12_minuteNow (d + 4) 0 0 (fun o => ∃ E2, o = (.inl none, E2, 137) ∧ MF gsN asN E E2 ∧ MR E2 V (minuteF V t S) L) 100 [some (.ref 95), some (.int (nI a)), x2, x3] [] E2 137 := by
          intro E2 hN2 hR2 hG2 x2 x3
          have hc2 := mc_mf hN2 hc
          obtain ⟨_, ⟨e', rfl, f1, f2, f3, f4⟩, hge2⟩ := c_X12_groupEnd (d := d + 3) hc2 (show a < vL V by omega)
          have hee := grp_uniq e1 e3 e4 f1 f3 f4
          subst hee
          refine Sx.less (ls := [some (.ref 95), some (.int (nI a)), none, none]) ⟨rfl, rfl, trivial⟩ ?_
          refine Sx.up (fun _ kk => r_aload_n 101 dX12_minuteNow_100 rfl rfl kk) ?_
          refine Sx.up (fun _ kk => r_iload_n 102 dX12_minuteNow_101 rfl rfl kk) ?_
          refine Sx.up (fun _ kk => r_callV (M := mX12_minuteNow) (pc := 102) 105 dX12_minuteNow_102 rfl k12_401 hge2 rfl rfl rfl (by decide) rfl lt95 (Nat.le_of_ble_eq_true rfl) kk) ?_
          refine Sx.up (fun _ kk => r_istore_n 106 dX12_minuteNow_105 rfl (by decide) rfl kk) ?_
          refine Sx.up (fun _ kk => r_goto 47 dX12_minuteNow_106 (by decide) kk) ?_
          refine Sx.less (ls := [some (.ref 95), some (.int (nI e')), none, none]) ⟨rfl, rfl, trivial⟩ (ih e' E2 (by omega) f2 hG2 hN2 hR2)
        obtain ⟨S9, hS9⟩ : ∃ S9, (groupF V t (if wordF V t then turnF V S 0 (vL V) (vW V) 1 t else S) a).1 = S9 := ⟨_, rfl⟩
        rw [hS9] at hR hgl
        have inner := sxUp (σ := Unit) (S := fun k9 _ => Sx mX12_minuteNow (d + 4) 0 0 (fun o => ∃ E2, o = (.inl none, E2, 137) ∧ MF gsN asN E E2 ∧ MR E2 V (minuteF V t S) L) 63 [some (.ref 95), some (.int (nI a)), some (.int (nI e)), some (.int (nI k9))] [] E1 137) (Inv := fun k9 _ => firstF V S9 t a (e - a) = firstF V S9 t k9 (e - k9)) (a := a) (l := e) (by omega) ?_ ?_ () rfl
        refine Sx.up (fun _ kk => r_iload_n 48 dX12_minuteNow_47 rfl rfl kk) ?_
        refine Sx.up (fun _ kk => r_aload_n 49 dX12_minuteNow_48 rfl rfl kk) ?_
        refine Sx.up (fun _ kk => r_getIV (nI (vL V)) 52 dX12_minuteNow_49 rfl f12_341 rfl rfl lt95 (v1b) kk) ?_
        refine Sx.up (fun _ kk => r_icmp_ge 55 109 dX12_minuteNow_52 rfl (by decide) (fun h52 => absurd h52 (nI_ge (by omega) (by omega))) (fun _ => kk)) ?_
        refine Sx.up (fun _ kk => r_aload_n 56 dX12_minuteNow_55 rfl rfl kk) ?_
        refine Sx.up (fun _ kk => r_iload_n 57 dX12_minuteNow_56 rfl rfl kk) ?_
        refine Sx.up (fun _ kk => r_callV (M := mX12_minuteNow) (pc := 57) 60 dX12_minuteNow_57 rfl k12_401 hge rfl rfl rfl (by decide) rfl lt95 (Nat.le_of_ble_eq_true rfl) kk) ?_
        refine Sx.up (fun _ kk => r_istore_n 61 dX12_minuteNow_60 rfl (by decide) rfl kk) ?_
        refine Sx.up (fun _ kk => r_iload_n 62 dX12_minuteNow_61 rfl rfl kk) ?_
        refine Sx.up (fun _ kk => r_istore_n 63 dX12_minuteNow_62 rfl (by decide) rfl kk) ?_
        exact inner
        · intro _ hi
          rw [Nat.sub_self] at hi
          have hg := grp_none e1 e3 e4 h2 (by rw [hS9]; exact hi)
          refine Sx.up (fun _ kk => r_iload_n 64 dX12_minuteNow_63 rfl rfl kk) ?_
          refine Sx.up (fun _ kk => r_iload_n 65 dX12_minuteNow_64 rfl rfl kk) ?_
          refine Sx.up (fun _ kk => r_icmp_ge 68 87 dX12_minuteNow_65 rfl (by decide) (fun _ => kk) (fun h65 => absurd (nI_le (Nat.le_refl _) (by omega)) h65)) ?_
          refine Sx.up (fun _ kk => r_iload_n 88 dX12_minuteNow_87 rfl rfl kk) ?_
          refine Sx.up (fun _ kk => r_iload_n 89 dX12_minuteNow_88 rfl rfl kk) ?_
          refine Sx.up (fun _ kk => r_icmp_ge 92 100 dX12_minuteNow_89 rfl (by decide) (fun _ => kk) (fun h89 => absurd (nI_le (Nat.le_refl _) (by omega)) h89)) ?_
          exact next E1 hN (by rw [hg, hS9]; exact hR) (by rw [hg]) _ _
        · intro k9 _ hk0 hk9 hi hq
          rw [show e - k9 = e - (k9 + 1) + 1 by omega, first_s] at hi
          have hkl : k9 < vL V := by omega
          have hhe := c_X12_hasEnough (d := d + 3) hc1 hR.2.2.2.2.1 hkl
          have hro : gA E1 113 k9 = nI (oV V k9) := (hc1.2.1.2.2.2.2.1 k9 hkl).2.2.1
          refine Sx.up (fun _ kk => r_iload_n 64 dX12_minuteNow_63 rfl rfl kk) ?_
          refine Sx.up (fun _ kk => r_iload_n 65 dX12_minuteNow_64 rfl rfl kk) ?_
          refine Sx.up (fun _ kk => r_icmp_ge 68 87 dX12_minuteNow_65 rfl (by decide) (fun h65 => absurd h65 (nI_ge hk9 (by omega))) (fun _ => kk)) ?_
          refine Sx.up (fun _ kk => r_aload_n 69 dX12_minuteNow_68 rfl rfl kk) ?_
          refine Sx.up (fun _ kk => r_aload_n 70 dX12_minuteNow_69 rfl rfl kk) ?_
          refine Sx.up (fun _ kk => r_getR 73 dX12_minuteNow_70 rfl f12_90 rfl rfl lt95 (mo_34 hM1) kk) ?_
          refine Sx.up (fun _ kk => r_iload_n 74 dX12_minuteNow_73 rfl rfl kk) ?_
          refine Sx.up (fun _ kk => r_ialdN (k9) (nI (oV V k9)) 75 dX12_minuteNow_74 rfl rfl (Nat.le_of_ble_eq_true rfl) (rfl) (by omega) (Nat.le_of_ble_eq_true rfl) (hro) kk) ?_
          refine Sx.up (fun _ kk => r_callV (M := mX12_minuteNow) (pc := 75) 78 dX12_minuteNow_75 rfl k12_404 hhe rfl rfl rfl (by decide) rfl lt95 (Nat.le_of_ble_eq_true rfl) kk) ?_
          refine Sx.br (fun _ ka kb => r_if_ne 81 87 dX12_minuteNow_78 rfl (by decide) ka kb) (by first | exact em1 | exact em2) (fun h78 => ?_) (fun h78 => ?_)
          · rw [if_pos (b1 h78)] at hi
            have hg := grp_some e1 e3 e4 h2 (by rw [hS9]; exact hi)
            obtain ⟨_, ⟨E2, rfl, hN2, hR2⟩, hta⟩ := c_X12_turnAll (d := d) (a := a) (e := e) (q := k9) (w := 0) hc1 hR h0 (by omega) e2 hkl (Or.inl rfl) (by omega)
            refine Sx.up (fun _ kk => r_iload_n 88 dX12_minuteNow_87 rfl rfl kk) ?_
            refine Sx.up (fun _ kk => r_iload_n 89 dX12_minuteNow_88 rfl rfl kk) ?_
            refine Sx.up (fun _ kk => r_icmp_ge 92 100 dX12_minuteNow_89 rfl (by decide) (fun h89 => absurd h89 (nI_ge hk9 (by omega))) (fun _ => kk)) ?_
            refine Sx.up (fun _ kk => r_aload_n 93 dX12_minuteNow_92 rfl rfl kk) ?_
            refine Sx.up (fun _ kk => r_iload_n 94 dX12_minuteNow_93 rfl rfl kk) ?_
            refine Sx.up (fun _ kk => r_iload_n 95 dX12_minuteNow_94 rfl rfl kk) ?_
            refine Sx.up (fun _ kk => r_iload_n 96 dX12_minuteNow_95 rfl rfl kk) ?_
            refine Sx.up (fun _ kk => r_iconst (0) 97 dX12_minuteNow_96 rfl (by decide) kk) ?_
            refine Sx.up (fun _ kk => r_callV (M := mX12_minuteNow) (pc := 97) 100 dX12_minuteNow_97 rfl k12_397 hta rfl rfl rfl (by decide) rfl lt95 (Nat.le_of_ble_eq_true rfl) kk) ?_
            exact next E2 (mf_tr hN hN2) (by rw [hg, hS9]; exact hR2) (by rw [hg]) _ _
          · refine Sx.up (fun _ kk => r_iinc (1) 84 dX12_minuteNow_81 rfl rfl (by decide) (by decide) rfl kk) ?_
            refine Sx.up (fun _ kk => r_goto 63 dX12_minuteNow_84 (by decide) kk) ?_
            rw [nI_pp]
            exact hq () (by rw [hi, if_neg (by rw [b0 h78]; decide)])
    refine Sx.up (fun _ kk => r_iconst (0) 46 dX12_minuteNow_45 rfl (by decide) kk) ?_
    refine Sx.up (fun _ kk => r_istore_n 47 dX12_minuteNow_46 rfl (by decide) rfl kk) ?_
    exact loop (vL V) 0 E0 (by omega) (by omega) rfl hN0 hR0
  have hM1 := hM
  have v1b := v1
  have hmi1 := hmi
  refine Sx.up (fun _ kk => r_aload_n 1 dX12_minuteNow_0 rfl rfl kk) ?_
  refine Sx.up (fun _ kk => r_getI 4 dX12_minuteNow_1 rfl f12_344 rfl rfl lt95 kk) ?_
  refine Sx.up (fun _ kk => r_iconst (-1) 5 dX12_minuteNow_4 rfl (by decide) kk) ?_
  refine Sx.br (fun _ ka kb => r_icmp_eq 8 45 dX12_minuteNow_5 rfl (by decide) ka kb) (by first | exact em1 | exact em2) (fun h5 => ?_) (fun h5 => ?_)
  · exact loop1 E mf_rfl (by rw [if_neg (fun z => (by unfold wordF at z; rw [decide_eq_true_eq] at z; exact v7 (Or.inl h5) z.1))]; exact hr) (by rw [if_neg (fun z => (by unfold wordF at z; rw [decide_eq_true_eq] at z; exact v7 (Or.inl h5) z.1))]; omega) _ _ _
  · refine Sx.up (fun _ kk => r_aload_n 9 dX12_minuteNow_8 rfl rfl kk) ?_
    refine Sx.up (fun _ kk => r_getI 12 dX12_minuteNow_9 rfl f12_347 rfl rfl lt95 kk) ?_
    refine Sx.br (fun _ ka kb => r_if_le 15 45 dX12_minuteNow_12 rfl (by decide) ka kb) (by first | exact em1 | exact em2) (fun h12 => ?_) (fun h12 => ?_)
    · exact loop1 E mf_rfl (by rw [if_neg (fun z => (by unfold wordF at z; rw [decide_eq_true_eq] at z; exact v7 (Or.inr (Int32.not_lt.mpr h12)) z.1))]; exact hr) (by rw [if_neg (fun z => (by unfold wordF at z; rw [decide_eq_true_eq] at z; exact v7 (Or.inr (Int32.not_lt.mpr h12)) z.1))]; omega) _ _ _
    · refine Sx.up (fun _ kk => r_aload_n 16 dX12_minuteNow_15 rfl rfl kk) ?_
      refine Sx.up (fun _ kk => r_getIV (nI t) 19 dX12_minuteNow_16 rfl f12_359 rfl rfl lt95 (hmi1) kk) ?_
      refine Sx.up (fun _ kk => r_aload_n 20 dX12_minuteNow_19 rfl rfl kk) ?_
      refine Sx.up (fun _ kk => r_getI 23 dX12_minuteNow_20 rfl f12_347 rfl rfl lt95 kk) ?_
      refine Sx.up (fun _ kk => r_irem 24 dX12_minuteNow_23 rfl (fun z => h12 (by rw [z]; decide)) kk) ?_
      refine Sx.br (fun _ ka kb => r_if_ne 27 45 dX12_minuteNow_24 rfl (by decide) ka kb) (by first | exact em1 | exact em2) (fun h24 => ?_) (fun h24 => ?_)
      · exact loop1 E mf_rfl (by rw [if_neg (fun z => (by unfold wordF at z; rw [decide_eq_true_eq] at z; exact h24 (by rw [← (v8 h5 (Int32.not_le.mp h12)).1]; exact z.2)))]; exact hr) (by rw [if_neg (fun z => (by unfold wordF at z; rw [decide_eq_true_eq] at z; exact h24 (by rw [← (v8 h5 (Int32.not_le.mp h12)).1]; exact z.2)))]; omega) _ _ _
      · obtain ⟨w1, w2, w3⟩ := v8 h5 (Int32.not_le.mp h12)
        have hwt : wordF V t = true := by
          unfold wordF
          rw [decide_eq_true_eq, w1]
          exact ⟨Int32.not_le.mp h12, h24⟩
        have hpo := c_X12_placeOf (d := d + 3) hc w3
        rw [← w2] at hpo
        obtain ⟨_, ⟨E2, rfl, hN2, hR2⟩, hcl⟩ := c_X12_turnAll (d := d) (a := 0) (e := vL V) (w := 1) hc hr h0 (by omega) (Nat.le_refl _) w3 (Or.inr rfl) (by omega)
        refine Sx.up (fun _ kk => r_aload_n 28 dX12_minuteNow_27 rfl rfl kk) ?_
        refine Sx.up (fun _ kk => r_iconst (0) 29 dX12_minuteNow_28 rfl (by decide) kk) ?_
        refine Sx.up (fun _ kk => r_aload_n 30 dX12_minuteNow_29 rfl rfl kk) ?_
        refine Sx.up (fun _ kk => r_getIV (nI (vL V)) 33 dX12_minuteNow_30 rfl f12_341 rfl rfl lt95 (v1b) kk) ?_
        refine Sx.up (fun _ kk => r_aload_n 34 dX12_minuteNow_33 rfl rfl kk) ?_
        refine Sx.up (fun _ kk => r_aload_n 35 dX12_minuteNow_34 rfl rfl kk) ?_
        refine Sx.up (fun _ kk => r_getI 38 dX12_minuteNow_35 rfl f12_344 rfl rfl lt95 kk) ?_
        refine Sx.up (fun _ kk => r_callV (M := mX12_minuteNow) (pc := 38) 41 dX12_minuteNow_38 rfl k12_394 hpo rfl rfl rfl (by decide) rfl lt95 (Nat.le_of_ble_eq_true rfl) kk) ?_
        refine Sx.up (fun _ kk => r_iconst (1) 42 dX12_minuteNow_41 rfl (by decide) kk) ?_
        refine Sx.up (fun _ kk => r_callV (M := mX12_minuteNow) (pc := 42) 45 dX12_minuteNow_42 rfl k12_397 hcl rfl rfl rfl (by decide) rfl lt95 (Nat.le_of_ble_eq_true rfl) kk) ?_
        exact loop1 E2 hN2 (by rw [if_pos hwt]; exact hR2) (by rw [if_pos hwt, turn_len]; omega) _ _ _
