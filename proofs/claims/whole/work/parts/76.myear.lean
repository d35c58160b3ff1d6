/-! The model: year -/
abbrev gsR : List Nat := [1581, 1582, 1583, 1584, 1585, 1586, 1587, 1588, 1589, 1592, 1593, 1599]
theorem m_vis {E0 E : HP} {L L1 m : Nat} {sl : Nat → Nat → Int32} {aw : Int32} {R : List Int32} {c c2 : Cfg} {fr fr2 : Int32} (h : MD E0 L m sl aw R c fr) (f : MF gsQ asQ (sI E0 1538 95 0) E) (hmany : gI E 1581 95 = nI L1) (hcg : cokN L1 L c2) (hrow : ∀ i, i < L1 → gA E 113 i = cO c2 i) (hgo : ∀ s, s < L → gA E 114 s = cU c2 s) (hw1 : (gI E 1582 95 = -1 ∨ ¬ 0 < gI E 1583 95) → ¬ 0 < cE c2) (hw2 : ¬ gI E 1582 95 = -1 → 0 < gI E 1583 95 → cE c2 = gI E 1583 95 ∧ gI E 1582 95 = cS c2) (hb : gI E 1584 95 = cB c2) (hfr : gI E 1589 95 = fr2) : MVis E (vMk L1 sl aw R c2 fr2) L := by
  obtain ⟨hM, hL, ⟨cok, csu⟩, hoc, h62, h63, h64, h65, hsy, hsl, hmm, haw, ha6, hR, hR6, hRs, hR1, hfr0⟩ := h
  refine mvis_mk hmany hcg (by rw [mf_gA0 f (by decide)]; exact hL) hrow hgo (fun q hq => ?_) hw1 hw2 hb hfr (by rw [mf_gA0 f (by decide)]; exact haw) ha6 (by rw [mf_gA0 f (by decide)]; exact hR) hR6 (fun i hi => by rw [mf_gA0 f (a := 106) (by decide)]; exact hRs i hi) hR1
  obtain ⟨a1, a2, a3, a4, a5, a6, a7, a8⟩ := hsl q hq
  rw [mf_gA0 f (a := 99) (by decide), mf_gA0 f (a := 100) (by decide), mf_gA0 f (a := 101) (by decide)]
  exact ⟨a1, a2, a3, a4, a7, a8⟩
theorem bv_bits (x : BitVec 32) (n m : Nat) (h : n + m ≤ 32) (mask : BitVec 32) (hmask : ∀ i, m ≤ i → mask.getLsbD i = false) : (x.sshiftRight n) &&& mask = (x >>> n) &&& mask := by
  apply BitVec.eq_of_getLsbD_eq
  intro i hi
  rw [BitVec.getLsbD_and, BitVec.getLsbD_and]
  by_cases him : m ≤ i
  · rw [hmask i him, Bool.and_false, Bool.and_false]
  · rw [BitVec.getLsbD_sshiftRight, BitVec.getLsbD_ushiftRight]
    simp [show ¬ 32 ≤ i by omega, show n + i < 32 by omega]
def usr (x k : Int32) : Int32 := (x.toUInt32 >>> (k.toUInt32 &&& Int32.toUInt32 31)).toInt32
theorem i_bits (x s t mask : Int32) (n m : Nat) (hs : s.toBitVec.smod 32 = BitVec.ofNat 32 n) (hn : n < 32) (ht : t.toBitVec &&& 31#32 = BitVec.ofNat 32 n) (h : n + m ≤ 32) (hmask : ∀ i, m ≤ i → mask.toBitVec.getLsbD i = false) : (x >>> s) &&& mask = usr x t &&& mask := by
  apply Int32.toBitVec_inj.mp
  rw [Int32.toBitVec_and, Int32.toBitVec_and, Int32.toBitVec_shiftRight, hs]
  have h1 : (usr x t).toBitVec = x.toBitVec >>> n := by
    unfold usr
    show ((x.toUInt32 >>> (t.toUInt32 &&& Int32.toUInt32 31)).toBitVec) = _
    rw [UInt32.toBitVec_shiftRight]
    show x.toBitVec >>> ((t.toBitVec &&& 31#32) % 32) = _
    rw [ht]
    apply BitVec.eq_of_toNat_eq
    rw [BitVec.toNat_ushiftRight]
    simp [BitVec.toNat_ushiftRight, BitVec.toNat_umod]
    rw [Nat.mod_eq_of_lt hn]
  rw [h1, ← bv_bits x.toBitVec n m h mask.toBitVec hmask]
  congr 1
  apply BitVec.eq_of_toInt_eq
  rw [BitVec.sshiftRight']
  simp
  rw [Nat.mod_eq_of_lt (show n < 4294967296 by omega)]
theorem mask_hi {mask : Int32} {m : Nat} (h : ∀ i, i < 32 → m ≤ i → mask.toBitVec.getLsbD i = false) : ∀ i, m ≤ i → mask.toBitVec.getLsbD i = false := fun i hi => by
  rcases Nat.lt_or_ge i 32 with z | z
  · exact h i z hi
  · exact BitVec.getLsbD_of_ge _ _ z
theorem byte_bits (x s t : Int32) (n : Nat) (hs : s.toBitVec.smod 32 = BitVec.ofNat 32 n) (hn : n < 25) (ht : t.toBitVec &&& 31#32 = BitVec.ofNat 32 n) : (x >>> s) &&& 255 = usr x t &&& 255 := i_bits x s t 255 n 8 hs (by omega) ht (by omega) (mask_hi (by decide))
theorem draw_bits (x : Int32) : (x >>> ((16 : Int32) &&& 31)) &&& 32767 = ((x.toUInt32 >>> ((16 : Int32).toUInt32 &&& Int32.toUInt32 31)).toInt32 &&& 32767) := i_bits x ((16 : Int32) &&& 31) 16 32767 16 15 (by decide) (by decide) (by decide) (by decide) (mask_hi (by decide))
set_option maxRecDepth 20000 in
theorem c_drawOf {d k : Nat} {E : HP} (h0 : 0 < k) (hk : k < 100000) : Cl yX12_drawOf mX12_drawOf d 0 0 [.ref 95, .int (nI k)] E 137 (.inl (some (.int (drawV (seedV (gI E 1599 95)) (nI k)))), sI E 1599 95 (seedV (gI E 1599 95)), 137) := by
  refine Cl.of (by decide) rfl (fun q => by cases q) rfl rfl (Nat.le_of_ble_eq_true rfl) ?_
  show Sm _ _ _ _ _ 0 [some (.ref 95), some (.int (nI k))] [] _ _
  refine r_aload_n 1 dX12_drawOf_0 rfl rfl ?_
  refine r_aload_n 2 dX12_drawOf_1 rfl rfl ?_
  refine r_getI 5 dX12_drawOf_2 rfl f12_488 rfl rfl lt95 ?_
  refine r_ldcw 1103515245 8 dX12_drawOf_5 rfl c12_491 ?_
  refine r_imul 9 dX12_drawOf_8 rfl ?_
  refine r_sipush (12345) 12 dX12_drawOf_9 rfl (by decide) ?_
  refine r_iadd 13 dX12_drawOf_12 rfl ?_
  refine r_putI 16 dX12_drawOf_13 rfl f12_488 rfl lt95 ?_
  refine r_aload_n 17 dX12_drawOf_16 rfl rfl ?_
  refine r_getIV (seedV (gI E 1599 95)) 20 dX12_drawOf_17 rfl f12_488 rfl rfl lt95 (rfl) ?_
  refine r_bipush (16) 22 dX12_drawOf_20 rfl (by decide) ?_
  refine r_ishr 23 dX12_drawOf_22 rfl ?_
  refine r_sipush (32767) 26 dX12_drawOf_23 rfl (by decide) ?_
  refine r_iand 27 dX12_drawOf_26 rfl ?_
  rw [draw_bits]
  refine r_iload_n 28 dX12_drawOf_27 rfl rfl ?_
  refine r_irem 29 dX12_drawOf_28 rfl (nI_ne0 h0 (by omega)) ?_
  exact r_iret dX12_drawOf_29 rfl rfl (by unfold drawV; rw [if_pos (show (0 : Int32) < nI k from nI_lt (a := 0) h0 (by omega))]; rfl)
theorem yeS_dog {sl : Nat → Nat → Int32} {mi s : Int32} {L : Nat} {u : Nat → Int32} {j : Nat} (hd : sl 1 j = 3) : ∀ k, (yeS sl mi s L u k).2 j = u j := by
  intro k
  induction k with
  | zero => rfl
  | succ k ih =>
    show drU sl mi (yeS sl mi s L u k).1 L (yeS sl mi s L u k).2 j = u j
    unfold drU
    split
    · unfold drOne
      rw [if_pos hd]
      exact ih
    · exact ih
set_option maxRecDepth 20000 in
theorem m_year {d L m n : Nat} {sl : Nat → Nat → Int32} {aw : Int32} {R : List Int32} {c : Cfg} {fr : Int32} {E : HP} {x w : Int32} (h : MD E L m sl aw R c fr) (hw : inB w 3) (hn : n ≤ 40) (hdog : ∀ s, s < L → sl 1 s = 3 → cU c s = 0) : ∃ o, (∃ E9, o = (.inl (some (.int (if w = 0 then (yeA (fun k => nS (nightF (vMk L sl aw R (cOut c (yeS sl (nI m) x L (cU c) (k + 1)).2) fr) m) 2) n).1 else if w = 1 then (yeA (fun k => nS (nightF (vMk L sl aw R (cOut c (yeS sl (nI m) x L (cU c) (k + 1)).2) fr) m) 2) n).2.1 else (yeA (fun k => nS (nightF (vMk L sl aw R (cOut c (yeS sl (nI m) x L (cU c) (k + 1)).2) fr) m) 2) n).2.2))), E9, 137) ∧ AQ E E9 0) ∧ Cl yX12_year mX12_year (d + 8) 0 0 [.ref 95, .int x, .int (nI n), .int w] E 137 o := by
  obtain ⟨hM, hL, ⟨cok, csu⟩, hoc, h62, h63, h64, h65, hsy, hsl, ⟨m1, m6, hm⟩, -⟩ := id h
  have l7 : L ≤ 7 := cok.2.1
  have hM0 : MoOK (sI E 1538 95 0) := hM
  have hL0 : gA (sI E 1538 95 0) 98 0 = nI L := hL
  obtain ⟨E1, ⟨f1, hv1, hr1, s1, s2⟩, hse⟩ := m_set (d := d + 6) (md_0 (x := 0) h)
  have hM1 := mf_mo f1 hM0
  have hin := c_isInC (d := d + 7) (E := sI E 1538 95 0) (x := w) (y := 2) (z := 2) (z0 := 0) (by decide) (by decide)
  rw [b01_t (show inC w 2 from (inB_C (x := w) (l := 3) (by decide)).mpr hw)] at hin
  have hi2 := c_isInC (d := d + 7) (E := sI E 1538 95 0) (x := nI n) (y := 40) (z := 40) (z0 := 0) (by decide) (by decide)
  rw [b01_t (show inC (nI n) 40 from inC_of (L := 40) hn (by decide))] at hi2
  refine Cx.of (by decide) rfl (fun q => by cases q) rfl rfl (Nat.le_of_ble_eq_true rfl) ?_
  show Sx _ _ _ _ _ 0 [some (.ref 95), some (.int (x)), some (.int (nI n)), some (.int (w)), none, none, none, none, none] [] _ _
  have loop := sxUp (S := fun k9 E2 => Sx mX12_year (d + 8) 0 0 (fun o => ∃ E9, o = (.inl (some (.int (if w = 0 then (yeA (fun k => nS (nightF (vMk L sl aw R (cOut c (yeS sl (nI m) x L (cU c) (k + 1)).2) fr) m) 2) n).1 else if w = 1 then (yeA (fun k => nS (nightF (vMk L sl aw R (cOut c (yeS sl (nI m) x L (cU c) (k + 1)).2) fr) m) 2) n).2.1 else (yeA (fun k => nS (nightF (vMk L sl aw R (cOut c (yeS sl (nI m) x L (cU c) (k + 1)).2) fr) m) 2) n).2.2))), E9, 137) ∧ AQ E E9 0) 62 [some (.ref 95), some (.int x), some (.int (nI n)), some (.int w), some (.int (yeA (fun k => nS (nightF (vMk L sl aw R (cOut c (yeS sl (nI m) x L (cU c) (k + 1)).2) fr) m) 2) k9).1), some (.int (yeA (fun k => nS (nightF (vMk L sl aw R (cOut c (yeS sl (nI m) x L (cU c) (k + 1)).2) fr) m) 2) k9).2.1), some (.int (yeA (fun k => nS (nightF (vMk L sl aw R (cOut c (yeS sl (nI m) x L (cU c) (k + 1)).2) fr) m) 2) k9).2.2), some (.int (nI k9)), none] [] E2 137) (Inv := fun k9 E2 => MF gsR asQ (sI E 1538 95 0) E2 ∧ gI E2 1581 95 = nI L ∧ (∀ i, i < L → gA E2 113 i = cO c i) ∧ gI E2 1582 95 = cS c ∧ gI E2 1583 95 = (if cS c = -1 then 0 else cE c) ∧ gI E2 1584 95 = cB c ∧ gI E2 1589 95 = fr ∧ gI E2 1599 95 = (yeS sl (nI m) x L (cU c) k9).1) (a := 0) (l := n) (by omega) ?_ ?_ (sI E1 1599 95 x) ⟨mf_sI (by decide) (mf_mono f1 (by decide) (by decide)), hv1.1, fun i hi => (hr1 i hi).1, s1, s2, hv1.2.2.2.2.2.2.2.2.1, hv1.2.2.2.2.2.2.2.2.2.1, by rw [gI_sI, if_pos ⟨rfl, rfl⟩]; rfl⟩
  refine Sx.up (fun _ kk => r_aload_n 1 dX12_year_0 rfl rfl kk) ?_
  refine Sx.up (fun _ kk => r_iconst (0) 2 dX12_year_1 rfl (by decide) kk) ?_
  refine Sx.up (fun _ kk => r_putI 5 dX12_year_2 rfl f12_159 rfl lt95 kk) ?_
  refine Sx.up (fun _ kk => r_iload_n 6 dX12_year_5 rfl rfl kk) ?_
  refine Sx.up (fun _ kk => r_i2l 7 dX12_year_6 rfl kk) ?_
  refine Sx.up (fun _ kk => r_lconst 0 8 dX12_year_7 rfl (by decide) kk) ?_
  refine Sx.up (fun _ kk => r_ldc2 2 11 dX12_year_8 rfl c12_492 kk) ?_
  refine Sx.up (fun _ kk => r_callS (M := mX12_year) (pc := 11) 14 dX12_year_11 rfl k12_162 hin rfl rfl (Nat.le_of_ble_eq_true rfl) kk) ?_
  refine Sx.up (fun _ kk => r_if_ne 17 23 dX12_year_14 rfl (by decide) (fun _ => kk) (fun h14 => absurd h14 (by decide))) ?_
  refine Sx.up (fun _ kk => r_iload_n 24 dX12_year_23 rfl rfl kk) ?_
  refine Sx.up (fun _ kk => r_i2l 25 dX12_year_24 rfl kk) ?_
  refine Sx.up (fun _ kk => r_lconst 0 26 dX12_year_25 rfl (by decide) kk) ?_
  refine Sx.up (fun _ kk => r_ldc2 40 29 dX12_year_26 rfl c12_494 kk) ?_
  refine Sx.up (fun _ kk => r_callS (M := mX12_year) (pc := 29) 32 dX12_year_29 rfl k12_162 hi2 rfl rfl (Nat.le_of_ble_eq_true rfl) kk) ?_
  refine Sx.up (fun _ kk => r_if_ne 35 41 dX12_year_32 rfl (by decide) (fun _ => kk) (fun h32 => absurd h32 (by decide))) ?_
  refine Sx.up (fun _ kk => r_aload_n 42 dX12_year_41 rfl rfl kk) ?_
  refine Sx.up (fun _ kk => r_callV (M := mX12_year) (pc := 42) 45 dX12_year_42 rfl k12_413 hse rfl rfl rfl (by decide) rfl lt95 (Nat.le_of_ble_eq_true rfl) kk) ?_
  refine Sx.up (fun _ kk => r_aload_n 46 dX12_year_45 rfl rfl kk) ?_
  refine Sx.up (fun _ kk => r_iload_n 47 dX12_year_46 rfl rfl kk) ?_
  refine Sx.up (fun _ kk => r_putI 50 dX12_year_47 rfl f12_488 rfl lt95 kk) ?_
  refine Sx.up (fun _ kk => r_iconst (0) 51 dX12_year_50 rfl (by decide) kk) ?_
  refine Sx.up (fun _ kk => r_istore 53 dX12_year_51 rfl (by decide) rfl kk) ?_
  refine Sx.up (fun _ kk => r_iconst (0) 54 dX12_year_53 rfl (by decide) kk) ?_
  refine Sx.up (fun _ kk => r_istore 56 dX12_year_54 rfl (by decide) rfl kk) ?_
  refine Sx.up (fun _ kk => r_iconst (0) 57 dX12_year_56 rfl (by decide) kk) ?_
  refine Sx.up (fun _ kk => r_istore 59 dX12_year_57 rfl (by decide) rfl kk) ?_
  refine Sx.up (fun _ kk => r_iconst (0) 60 dX12_year_59 rfl (by decide) kk) ?_
  refine Sx.up (fun _ kk => r_istore 62 dX12_year_60 rfl (by decide) rfl kk) ?_
  exact loop
  · intro E2 ⟨f2, j1, j2, j3, j4, j5, j6, j7⟩
    have hq9 : AQ E E2 0 := mq_of f2 (by decide) (by decide) (by decide)
    refine Sx.up (fun _ kk => r_iload 64 dX12_year_62 rfl rfl kk) ?_
    refine Sx.up (fun _ kk => r_iload_n 65 dX12_year_64 rfl rfl kk) ?_
    refine Sx.up (fun _ kk => r_icmp_ge 68 193 dX12_year_65 rfl (by decide) (fun _ => kk) (fun h65 => absurd (nI_le (Nat.le_refl _) (by omega)) h65)) ?_
    refine Sx.up (fun _ kk => r_iload_n 194 dX12_year_193 rfl rfl kk) ?_
    refine Sx.br (fun _ ka kb => r_if_ne 197 202 dX12_year_194 rfl (by decide) ka kb) (by first | exact em1 | exact em2) (fun h194 => ?_) (fun h194 => ?_)
    · refine Sx.up (fun _ kk => r_iload_n 203 dX12_year_202 rfl rfl kk) ?_
      refine Sx.up (fun _ kk => r_iconst (1) 204 dX12_year_203 rfl (by decide) kk) ?_
      refine Sx.br (fun _ ka kb => r_icmp_ne 207 212 dX12_year_204 rfl (by decide) ka kb) (by first | exact em1 | exact em2) (fun h204 => ?_) (fun h204 => ?_)
      · refine Sx.up (fun _ kk => r_iload 214 dX12_year_212 rfl rfl kk) ?_
        refine ⟨_, ?_, r_iret dX12_year_214 rfl rfl rfl⟩
        refine ⟨E2, ?_, hq9⟩
        first | rw [if_pos h194] | rw [if_neg h194, if_pos h204] | rw [if_neg h194, if_neg h204]
      · refine Sx.up (fun _ kk => r_iload 209 dX12_year_207 rfl rfl kk) ?_
        refine Sx.up (fun _ kk => r_goto 214 dX12_year_209 (by decide) kk) ?_
        refine ⟨_, ?_, r_iret dX12_year_214 rfl rfl rfl⟩
        refine ⟨E2, ?_, hq9⟩
        first | rw [if_pos h194] | rw [if_neg h194, if_pos h204] | rw [if_neg h194, if_neg h204]
    · refine Sx.up (fun _ kk => r_iload 199 dX12_year_197 rfl rfl kk) ?_
      refine Sx.up (fun _ kk => r_goto 214 dX12_year_199 (by decide) kk) ?_
      refine ⟨_, ?_, r_iret dX12_year_214 rfl rfl rfl⟩
      refine ⟨E2, ?_, hq9⟩
      first | rw [if_pos h194] | rw [if_neg h194, if_pos h204] | rw [if_neg h194, if_neg h204]
  · intro k9 E2 hk0 hk9 ⟨f2, j1, j2, j3, j4, j5, j6, j7⟩ hq
    have hM2 := mf_mo f2 hM0
    obtain ⟨S0, hS0⟩ : ∃ S0, (yeS sl (nI m) x L (cU c) k9).1 = S0 := ⟨_, rfl⟩
    obtain ⟨U0, hU0⟩ : ∃ U0, (yeS sl (nI m) x L (cU c) k9).2 = U0 := ⟨_, rfl⟩
    have hy1 : (yeS sl (nI m) x L (cU c) (k9 + 1)).1 = drSeed (sl 1) (sl 7) (nI m) S0 L := by rw [← hS0]; rfl
    have hy2 : (yeS sl (nI m) x L (cU c) (k9 + 1)).2 = drU sl (nI m) S0 L U0 := by rw [← hS0, ← hU0]; rfl
    have hUd : ∀ j, j < L → sl 1 j = 3 → U0 j = 0 := fun j hj hd => by rw [← hU0, yeS_dog hd]; exact hdog j hj hd
    rw [hS0] at j7
    have g2 : ∀ a, a ∉ asQ → gA E2 a = gA E a := fun a ha => mf_gA0 f2 ha
    have inner := sxUp (S := fun q E3 => Sx mX12_year (d + 8) 0 0 (fun o => ∃ E9, o = (.inl (some (.int (if w = 0 then (yeA (fun k => nS (nightF (vMk L sl aw R (cOut c (yeS sl (nI m) x L (cU c) (k + 1)).2) fr) m) 2) n).1 else if w = 1 then (yeA (fun k => nS (nightF (vMk L sl aw R (cOut c (yeS sl (nI m) x L (cU c) (k + 1)).2) fr) m) 2) n).2.1 else (yeA (fun k => nS (nightF (vMk L sl aw R (cOut c (yeS sl (nI m) x L (cU c) (k + 1)).2) fr) m) 2) n).2.2))), E9, 137) ∧ AQ E E9 0) 71 [some (.ref 95), some (.int x), some (.int (nI n)), some (.int w), some (.int (yeA (fun k => nS (nightF (vMk L sl aw R (cOut c (yeS sl (nI m) x L (cU c) (k + 1)).2) fr) m) 2) k9).1), some (.int (yeA (fun k => nS (nightF (vMk L sl aw R (cOut c (yeS sl (nI m) x L (cU c) (k + 1)).2) fr) m) 2) k9).2.1), some (.int (yeA (fun k => nS (nightF (vMk L sl aw R (cOut c (yeS sl (nI m) x L (cU c) (k + 1)).2) fr) m) 2) k9).2.2), some (.int (nI k9)), some (.int (nI q))] [] E3 137) (Inv := fun q E3 => MF [1599] [114] E2 E3 ∧ gI E3 1599 95 = drSeed (sl 1) (sl 7) (nI m) S0 q ∧ (∀ j, j < q → gA E3 114 j = drU sl (nI m) S0 L U0 j)) (a := 0) (l := L) (by omega) ?_ ?_ E2 ⟨mf_rfl, j7, fun j hj => absurd hj (Nat.not_lt_zero j)⟩
    refine Sx.up (fun _ kk => r_iload 64 dX12_year_62 rfl rfl kk) ?_
    refine Sx.up (fun _ kk => r_iload_n 65 dX12_year_64 rfl rfl kk) ?_
    refine Sx.up (fun _ kk => r_icmp_ge 68 193 dX12_year_65 rfl (by decide) (fun h65 => absurd h65 (nI_ge hk9 (by omega))) (fun _ => kk)) ?_
    refine Sx.up (fun _ kk => r_iconst (0) 69 dX12_year_68 rfl (by decide) kk) ?_
    refine Sx.up (fun _ kk => r_istore 71 dX12_year_69 rfl (by decide) rfl kk) ?_
    exact inner
    · intro E3 ⟨f3, q1, q2⟩
      have f03 : MF gsR asQ (sI E 1538 95 0) E3 := mf_tr f2 (mf_mono f3 (by decide) (by decide))
      have hM3 := mf_mo f03 hM0
      have i3 : ∀ g, g ≠ 1599 → gI E3 g 95 = gI E2 g 95 := fun g hg => mf_gI f3 (by simp [hg])
      have hv3 : MVis E3 (vMk L sl aw R (cOut c (yeS sl (nI m) x L (cU c) (k9 + 1)).2) fr) L := by
        refine m_vis h (mf_mono f03 (by decide) (by decide)) ((i3 _ (by decide)).trans j1) cok (fun i hi => by rw [mf_gA f3 (by decide)]; exact j2 i hi) (fun s hs => by rw [q2 s hs, hy2]; rfl) (fun z => ?_) (fun z1 z2 => ?_) ((i3 _ (by decide)).trans j5) ((i3 _ (by decide)).trans j6)
        · rw [i3 1582 (by decide), i3 1583 (by decide), j3, j4] at z
          intro y
          have y' : 0 < cE c := y
          rcases z with z | z
          · exact hsy y' z
          · rw [if_neg (hsy y')] at z
            exact z y'
        · rw [i3 1582 (by decide), j3] at z1
          rw [i3 1582 (by decide), i3 1583 (by decide), j3, j4, if_neg z1]
          exact ⟨rfl, rfl⟩
      have hF3 : gI E3 1562 95 = vS (vMk L sl aw R (cOut c (yeS sl (nI m) x L (cU c) (k9 + 1)).2) fr) 4 := (mf_gI f03 (by decide)).trans h62
      have hm3 : gA E3 98 3 = nI m := by rw [mf_gA0 f03 (by decide)]; exact hm
      obtain ⟨_, ⟨E4, rfl, f4, hg⟩, hgo⟩ := c_X12_go (d := d + 2) (m := m) hM3 hv3 cok.2.2.2.2.2.2 m6
      obtain ⟨hM4, hv4, u1, u2, u3, u4, u5, u6⟩ := id hg
      have haw := c_X12_allWoken (d := d + 7) hM4 (by rw [mf_gA f4 (by decide), mf_gA0 f03 (by decide)]; exact hL) l7
      rw [u4] at haw
      have f04 : MF gsR asQ (sI E 1538 95 0) E4 := mf_tr f03 (mf_mono f4 (by decide) (by decide))
      have i4 : ∀ g, g ∉ gsG → g ≠ 1599 → gI E4 g 95 = gI E2 g 95 := fun g hg h9 => (mf_gI f4 hg).trans (i3 g h9)
      have hgo2 := hq E4 ⟨f04, (i4 _ (by decide) (by decide)).trans j1, fun i hi => by rw [mf_gA f4 (by decide), mf_gA f3 (by decide)]; exact j2 i hi, (i4 _ (by decide) (by decide)).trans j3, (i4 _ (by decide) (by decide)).trans j4, (i4 _ (by decide) (by decide)).trans j5, (i4 _ (by decide) (by decide)).trans j6, by rw [mf_gI f4 (by decide), q1, hy1]⟩
      have hA : (yeA (fun k => nS (nightF (vMk L sl aw R (cOut c (yeS sl (nI m) x L (cU c) (k + 1)).2) fr) m) 2) (k9 + 1)) = ((yeA (fun k => nS (nightF (vMk L sl aw R (cOut c (yeS sl (nI m) x L (cU c) (k + 1)).2) fr) m) 2) k9).1 + nS (nightF (vMk L sl aw R (cOut c (yeS sl (nI m) x L (cU c) (k9 + 1)).2) fr) m) 2, maxF (yeA (fun k => nS (nightF (vMk L sl aw R (cOut c (yeS sl (nI m) x L (cU c) (k + 1)).2) fr) m) 2) k9).2.1 (nS (nightF (vMk L sl aw R (cOut c (yeS sl (nI m) x L (cU c) (k9 + 1)).2) fr) m) 2), (yeA (fun k => nS (nightF (vMk L sl aw R (cOut c (yeS sl (nI m) x L (cU c) (k + 1)).2) fr) m) 2) k9).2.2 + (if nS (nightF (vMk L sl aw R (cOut c (yeS sl (nI m) x L (cU c) (k9 + 1)).2) fr) m) 2 = 0 then 1 else 0)) := rfl
      refine Sx.up (fun _ kk => r_iload 73 dX12_year_71 rfl rfl kk) ?_
      refine Sx.up (fun _ kk => r_aload_n 74 dX12_year_73 rfl rfl kk) ?_
      refine Sx.up (fun _ kk => r_getIV (nI L) 77 dX12_year_74 rfl f12_341 rfl rfl lt95 ((i3 _ (by decide)).trans j1) kk) ?_
      refine Sx.up (fun _ kk => r_icmp_ge 80 136 dX12_year_77 rfl (by decide) (fun _ => kk) (fun h77 => absurd (nI_le (Nat.le_refl _) (by omega)) h77)) ?_
      refine Sx.up (fun _ kk => r_aload_n 137 dX12_year_136 rfl rfl kk) ?_
      refine Sx.up (fun _ kk => r_aload_n 138 dX12_year_137 rfl rfl kk) ?_
      refine Sx.up (fun _ kk => r_getIV (vS (vMk L sl aw R (cOut c (yeS sl (nI m) x L (cU c) (k9 + 1)).2) fr) 4) 141 dX12_year_138 rfl f12_315 rfl rfl lt95 (hF3) kk) ?_
      refine Sx.up (fun _ kk => r_aload_n 142 dX12_year_141 rfl rfl kk) ?_
      refine Sx.up (fun _ kk => r_getR 145 dX12_year_142 rfl f12_38 rfl rfl lt95 (mo_3 hM3) kk) ?_
      refine Sx.up (fun _ kk => r_iconst (3) 146 dX12_year_145 rfl (by decide) kk) ?_
      refine Sx.up (fun _ kk => r_ialdN (3) (nI m) 147 dX12_year_146 rfl rfl (Nat.le_of_ble_eq_true rfl) (by decide) (Nat.le_of_ble_eq_true rfl) (Nat.le_of_ble_eq_true rfl) (hm3) kk) ?_
      refine Sx.up (fun _ kk => r_callV (M := mX12_year) (pc := 147) 150 dX12_year_147 rfl k12_416 hgo rfl rfl rfl (by decide) rfl lt95 (Nat.le_of_ble_eq_true rfl) kk) ?_
      refine Sx.up (fun _ kk => r_aload_n 151 dX12_year_150 rfl rfl kk) ?_
      refine Sx.up (fun _ kk => r_callV (M := mX12_year) (pc := 151) 154 dX12_year_151 rfl k12_447 haw rfl rfl rfl (by decide) rfl lt95 (Nat.le_of_ble_eq_true rfl) kk) ?_
      refine Sx.up (fun _ kk => r_istore 156 dX12_year_154 rfl (by decide) rfl kk) ?_
      refine Sx.up (fun _ kk => r_iload 158 dX12_year_156 rfl rfl kk) ?_
      refine Sx.up (fun _ kk => r_iload 160 dX12_year_158 rfl rfl kk) ?_
      refine Sx.up (fun _ kk => r_iadd 161 dX12_year_160 rfl kk) ?_
      refine Sx.up (fun _ kk => r_istore 163 dX12_year_161 rfl (by decide) rfl kk) ?_
      refine Sx.up (fun _ kk => r_iload 165 dX12_year_163 rfl rfl kk) ?_
      refine Sx.up (fun _ kk => r_iload 167 dX12_year_165 rfl rfl kk) ?_
      refine Sx.up (fun _ kk => r_max 170 dX12_year_167 rfl k12_391 (Nat.le_of_ble_eq_true rfl) kk) ?_
      refine Sx.up (fun _ kk => r_istore 172 dX12_year_170 rfl (by decide) rfl kk) ?_
      refine Sx.up (fun _ kk => r_iload 174 dX12_year_172 rfl rfl kk) ?_
      refine Sx.up (fun _ kk => r_iload 176 dX12_year_174 rfl rfl kk) ?_
      refine Sx.br (fun _ ka kb => r_if_ne 179 183 dX12_year_176 rfl (by decide) ka kb) (by first | exact em1 | exact em2) (fun h176 => ?_) (fun h176 => ?_)
      · refine Sx.up (fun _ kk => r_iconst (0) 184 dX12_year_183 rfl (by decide) kk) ?_
        refine Sx.up (fun _ kk => r_iadd 185 dX12_year_184 rfl kk) ?_
        refine Sx.up (fun _ kk => r_istore 187 dX12_year_185 rfl (by decide) rfl kk) ?_
        refine Sx.up (fun _ kk => r_iinc (1) 190 dX12_year_187 rfl rfl (by decide) (by decide) rfl kk) ?_
        refine Sx.up (fun _ kk => r_goto 62 dX12_year_190 (by decide) kk) ?_
        rw [hA, if_neg h176] at hgo2
        rw [nI_pp]
        exact Sx.less (by exact ⟨rfl, rfl, rfl, rfl, rfl, rfl, rfl, rfl, trivial⟩) hgo2
      · refine Sx.up (fun _ kk => r_iconst (1) 180 dX12_year_179 rfl (by decide) kk) ?_
        refine Sx.up (fun _ kk => r_goto 184 dX12_year_180 (by decide) kk) ?_
        refine Sx.up (fun _ kk => r_iadd 185 dX12_year_184 rfl kk) ?_
        refine Sx.up (fun _ kk => r_istore 187 dX12_year_185 rfl (by decide) rfl kk) ?_
        refine Sx.up (fun _ kk => r_iinc (1) 190 dX12_year_187 rfl rfl (by decide) (by decide) rfl kk) ?_
        refine Sx.up (fun _ kk => r_goto 62 dX12_year_190 (by decide) kk) ?_
        rw [hA, if_pos h176] at hgo2
        rw [nI_pp]
        exact Sx.less (by exact ⟨rfl, rfl, rfl, rfl, rfl, rfl, rfl, rfl, trivial⟩) hgo2
    · intro q E3 hq0 hqL ⟨f3, q1, q2⟩ hgo
      have f03 : MF gsR asQ (sI E 1538 95 0) E3 := mf_tr f2 (mf_mono f3 (by decide) (by decide))
      have hM3 := mf_mo f03 hM0
      have hkd : gA E3 99 q = sl 1 q := by rw [mf_gA0 f03 (by decide)]; exact (hsl q hqL).1
      have htn : gA E3 104 q = sl 7 q := by rw [mf_gA0 f03 (by decide)]; exact (hsl q hqL).2.2.2.2.2.1
      have hm3 : gA E3 98 3 = nI m := by rw [mf_gA0 f03 (by decide)]; exact hm
      have hmany : gI E3 1581 95 = nI L := (mf_gI f3 (by decide)).trans j1
      have hstep : drSeed (sl 1) (sl 7) (nI m) S0 (q + 1) = (drOne (sl 1 q) (sl 7 q) (nI m) (drSeed (sl 1) (sl 7) (nI m) S0 q)).1 := rfl
      have hval : drU sl (nI m) S0 L U0 q = (drOne (sl 1 q) (sl 7 q) (nI m) (drSeed (sl 1) (sl 7) (nI m) S0 q)).2.getD (U0 q) := if_pos hqL
      obtain ⟨D, hD⟩ : ∃ D, drSeed (sl 1) (sl 7) (nI m) S0 q = D := ⟨_, rfl⟩
      rw [hD] at q1 hstep hval
      have hd1 := c_drawOf (d := d + 7) (k := 10) (E := E3) (by decide) (by decide)
      rw [q1] at hd1
      have hd2 := c_drawOf (d := d + 7) (k := m) (E := sI E3 1599 95 (seedV D)) (by omega) (by omega)
      rw [show gI (sI E3 1599 95 (seedV D)) 1599 95 = seedV D by rw [gI_sI, if_pos ⟨rfl, rfl⟩]] at hd2
      have done : ∀ E9 v, MF [1599] [114] E3 E9 → gI E9 1599 95 = (drOne (sl 1 q) (sl 7 q) (nI m) D).1 → v = (drOne (sl 1 q) (sl 7 q) (nI m) D).2.getD (U0 q) → gA E9 114 = gA E3 114 → Sx mX12_year (d + 8) 0 0 (fun o => ∃ E9, o = (.inl (some (.int (if w = 0 then (yeA (fun k => nS (nightF (vMk L sl aw R (cOut c (yeS sl (nI m) x L (cU c) (k + 1)).2) fr) m) 2) n).1 else if w = 1 then (yeA (fun k => nS (nightF (vMk L sl aw R (cOut c (yeS sl (nI m) x L (cU c) (k + 1)).2) fr) m) 2) n).2.1 else (yeA (fun k => nS (nightF (vMk L sl aw R (cOut c (yeS sl (nI m) x L (cU c) (k + 1)).2) fr) m) 2) n).2.2))), E9, 137) ∧ AQ E E9 0) 129 [some (.ref 95), some (.int x), some (.int (nI n)), some (.int w), some (.int (yeA (fun k => nS (nightF (vMk L sl aw R (cOut c (yeS sl (nI m) x L (cU c) (k + 1)).2) fr) m) 2) k9).1), some (.int (yeA (fun k => nS (nightF (vMk L sl aw R (cOut c (yeS sl (nI m) x L (cU c) (k + 1)).2) fr) m) 2) k9).2.1), some (.int (yeA (fun k => nS (nightF (vMk L sl aw R (cOut c (yeS sl (nI m) x L (cU c) (k + 1)).2) fr) m) 2) k9).2.2), some (.int (nI k9)), some (.int (nI q))] [.int v, .int (nI q), .ref 114] E9 137 := by
        intro E9 v f9 r1 r2 r3
        have hgo3 := hgo (sA E9 114 q v) ⟨mf_sA (by decide) (mf_tr f3 f9), by rw [hstep]; exact r1, fun j hj => ?_⟩
        refine Sx.up (fun _ kk => r_iastN (q) 130 dX12_year_129 rfl rfl (Nat.le_of_ble_eq_true rfl) (rfl) (by omega) (Nat.le_of_ble_eq_true rfl) kk) ?_
        refine Sx.up (fun _ kk => r_iinc (1) 133 dX12_year_130 rfl rfl (by decide) (by decide) rfl kk) ?_
        refine Sx.up (fun _ kk => r_goto 71 dX12_year_133 (by decide) kk) ?_
        rw [nI_pp]
        exact hgo3
        · rw [gA_sA]
          by_cases hjq : j = q
          · subst hjq
            rw [if_pos ⟨rfl, rfl⟩, hval, r2]
          · rw [if_neg (fun z => hjq z.2), r3]
            exact q2 j (by omega)
      have hM4 : MoOK (sI E3 1599 95 (seedV D)) := hM3
      refine Sx.up (fun _ kk => r_iload 73 dX12_year_71 rfl rfl kk) ?_
      refine Sx.up (fun _ kk => r_aload_n 74 dX12_year_73 rfl rfl kk) ?_
      refine Sx.up (fun _ kk => r_getIV (nI L) 77 dX12_year_74 rfl f12_341 rfl rfl lt95 (hmany) kk) ?_
      refine Sx.up (fun _ kk => r_icmp_ge 80 136 dX12_year_77 rfl (by decide) (fun h77 => absurd h77 (nI_ge hqL (by omega))) (fun _ => kk)) ?_
      refine Sx.up (fun _ kk => r_aload_n 81 dX12_year_80 rfl rfl kk) ?_
      refine Sx.up (fun _ kk => r_getR 84 dX12_year_81 rfl f12_93 rfl rfl lt95 (mo_35 hM3) kk) ?_
      refine Sx.up (fun _ kk => r_iload 86 dX12_year_84 rfl rfl kk) ?_
      refine Sx.up (fun _ kk => r_aload_n 87 dX12_year_86 rfl rfl kk) ?_
      refine Sx.up (fun _ kk => r_getR 90 dX12_year_87 rfl f12_42 rfl rfl lt95 (mo_4 hM3) kk) ?_
      refine Sx.up (fun _ kk => r_iload 92 dX12_year_90 rfl rfl kk) ?_
      refine Sx.up (fun _ kk => r_ialdN (q) (sl 1 q) 93 dX12_year_92 rfl rfl (Nat.le_of_ble_eq_true rfl) (rfl) (by omega) (Nat.le_of_ble_eq_true rfl) (hkd) kk) ?_
      refine Sx.up (fun _ kk => r_iconst (3) 94 dX12_year_93 rfl (by decide) kk) ?_
      refine Sx.br (fun _ ka kb => r_icmp_eq 97 113 dX12_year_94 rfl (by decide) ka kb) (by first | exact em1 | exact em2) (fun h94 => ?_) (fun h94 => ?_)
      · refine Sx.up (fun _ kk => r_iconst (0) 114 dX12_year_113 rfl (by decide) kk) ?_
        refine Sx.up (fun _ kk => r_goto 129 dX12_year_114 (by decide) kk) ?_
        refine done E3 _ mf_rfl ?_ ?_ rfl
        · rw [q1]; unfold drOne; rw [if_pos h94]
        · unfold drOne; rw [if_pos h94]; exact (hUd q hqL h94).symm
      · refine Sx.up (fun _ kk => r_aload_n 98 dX12_year_97 rfl rfl kk) ?_
        refine Sx.up (fun _ kk => r_bipush (10) 100 dX12_year_98 rfl (by decide) kk) ?_
        refine Sx.up (fun _ kk => r_callV (M := mX12_year) (pc := 100) 103 dX12_year_100 rfl k12_496 hd1 rfl rfl rfl (by decide) rfl lt95 (Nat.le_of_ble_eq_true rfl) kk) ?_
        refine Sx.up (fun _ kk => r_aload_n 104 dX12_year_103 rfl rfl kk) ?_
        refine Sx.up (fun _ kk => r_getR 107 dX12_year_104 rfl f12_56 rfl rfl lt95 (mo_9 hM3) kk) ?_
        refine Sx.up (fun _ kk => r_iload 109 dX12_year_107 rfl rfl kk) ?_
        refine Sx.up (fun _ kk => r_ialdN (q) (sl 7 q) 110 dX12_year_109 rfl rfl (Nat.le_of_ble_eq_true rfl) (rfl) (by omega) (Nat.le_of_ble_eq_true rfl) (htn) kk) ?_
        refine Sx.br (fun _ ka kb => r_icmp_lt 113 117 dX12_year_110 rfl (by decide) ka kb) (by first | exact em1 | exact em2) (fun h110 => ?_) (fun h110 => ?_)
        · refine Sx.up (fun _ kk => r_iconst (1) 118 dX12_year_117 rfl (by decide) kk) ?_
          refine Sx.up (fun _ kk => r_aload_n 119 dX12_year_118 rfl rfl kk) ?_
          refine Sx.up (fun _ kk => r_aload_n 120 dX12_year_119 rfl rfl kk) ?_
          refine Sx.up (fun _ kk => r_getR 123 dX12_year_120 rfl f12_38 rfl rfl lt95 (mo_3 hM3) kk) ?_
          refine Sx.up (fun _ kk => r_iconst (3) 124 dX12_year_123 rfl (by decide) kk) ?_
          refine Sx.up (fun _ kk => r_ialdN (3) (nI m) 125 dX12_year_124 rfl rfl (Nat.le_of_ble_eq_true rfl) (by decide) (Nat.le_of_ble_eq_true rfl) (Nat.le_of_ble_eq_true rfl) (hm3) kk) ?_
          refine Sx.up (fun _ kk => r_callV (M := mX12_year) (pc := 125) 128 dX12_year_125 rfl k12_496 hd2 rfl rfl rfl (by decide) rfl lt95 (Nat.le_of_ble_eq_true rfl) kk) ?_
          refine Sx.up (fun _ kk => r_iadd 129 dX12_year_128 rfl kk) ?_
          refine done (sI (sI E3 1599 95 (seedV D)) 1599 95 (seedV (seedV D))) _ (mf_sI (by decide) (mf_sI (by decide) mf_rfl)) ?_ ?_ rfl
          · rw [gI_sI, if_pos ⟨rfl, rfl⟩]; unfold drOne; rw [if_neg h94, if_pos (show drawV (seedV D) 10 < sl 7 q from h110)]
          · unfold drOne; rw [if_neg h94, if_pos (show drawV (seedV D) 10 < sl 7 q from h110)]; rfl
        · refine Sx.up (fun _ kk => r_iconst (0) 114 dX12_year_113 rfl (by decide) kk) ?_
          refine Sx.up (fun _ kk => r_goto 129 dX12_year_114 (by decide) kk) ?_
          refine done (sI E3 1599 95 (seedV D)) _ (mf_sI (by decide) mf_rfl) ?_ ?_ rfl
          · rw [gI_sI, if_pos ⟨rfl, rfl⟩]; unfold drOne; rw [if_neg h94, if_neg (show ¬ drawV (seedV D) 10 < sl 7 q from h110)]
          · unfold drOne; rw [if_neg h94, if_neg (show ¬ drawV (seedV D) 10 < sl 7 q from h110)]; rfl
