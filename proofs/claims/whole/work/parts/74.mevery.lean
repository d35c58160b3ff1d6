/-! The model: every -/
theorem mvis_say {E0 E : HP} {sl : Nat → Nat → Int32} {aw : Int32} {R : List Int32} {c : Cfg} {L : Nat} {fr : Int32} {s e : Nat} (h : ∃ c0, MVis E0 (vMk L sl aw R c0 fr) L ∧ cO c0 = cO c ∧ cU c0 = cU c ∧ cB c0 = cB c) (hE : MF [1582, 1583] [] E0 E) (hc : cful L c) (hs : s < L) (hw : gI E 1582 95 = nI s) (hev : gI E 1583 95 = nI e) : MVis E (vMk L sl aw R (cSay c (nI s) (nI e)) fr) L := by
  obtain ⟨c0, h, e1, e2, e3⟩ := h
  obtain ⟨v1, v2, v3, v4, v5, v6, v7, v8, v9, v10, v11⟩ := h
  have w9 : gI E0 1584 95 = cB c0 := v9
  have w10 : gI E0 1589 95 = fr := v10
  have w11 : gA E0 98 4 = aw ∧ (∃ a, a ≤ 60 ∧ aw = nI a) ∧ gA E0 98 7 = nI R.length ∧ R.length ≤ 600 ∧ (∀ i, i < R.length → gA E0 106 i = mS (R.getD i 0)) ∧ rule1 R := v11
  have hA : vA (vMk L sl aw R c0 fr) = vA (vMk L sl aw R (cSay c (nI s) (nI e)) fr) := by
    funext k p
    show (if k = 0 then cO c0 p else if k = 5 then cU c0 (cO c0 p).toNatClampNeg else sl k (cO c0 p).toNatClampNeg) = (if k = 0 then cO c p else if k = 5 then cU c (cO c p).toNatClampNeg else sl k (cO c p).toNatClampNeg)
    rw [e1, e2]
  have hO : oV (vMk L sl aw R c0 fr) = oV (vMk L sl aw R (cSay c (nI s) (nI e)) fr) := by
    funext p
    unfold oV
    rw [hA]
  have w1 : gI E0 1581 95 = nI L := v1
  have w5 : ∀ p, p < L → vA (vMk L sl aw R c0 fr) 0 p = nI (oV (vMk L sl aw R c0 fr) p) ∧ oV (vMk L sl aw R c0 fr) p < L ∧ gA E0 113 p = nI (oV (vMk L sl aw R c0 fr) p) ∧ gA E0 99 (oV (vMk L sl aw R c0 fr) p) = vA (vMk L sl aw R c0 fr) 1 p ∧ gA E0 100 (2 * oV (vMk L sl aw R c0 fr) p) = vA (vMk L sl aw R c0 fr) 2 p ∧ gA E0 100 (2 * oV (vMk L sl aw R c0 fr) p + 1) = vA (vMk L sl aw R c0 fr) 3 p ∧ gA E0 101 (oV (vMk L sl aw R c0 fr) p) = vA (vMk L sl aw R c0 fr) 4 p ∧ gA E0 114 (oV (vMk L sl aw R c0 fr) p) = vA (vMk L sl aw R c0 fr) 5 p ∧ (∃ a, a ≤ 240 ∧ vA (vMk L sl aw R c0 fr) 2 p = nI a) ∧ (∃ a, a ≤ 240 ∧ vA (vMk L sl aw R c0 fr) 3 p = nI a) := v5
  have w6 : ∀ p q, p < L → q < L → oV (vMk L sl aw R c0 fr) p = oV (vMk L sl aw R c0 fr) q → p = q := v6
  rw [hA, hO] at w5
  rw [hO] at w6
  have g : ∀ k, k ∉ [1582, 1583] → gI E k 95 = gI E0 k 95 := fun k hk => mf_gI hE hk
  have a : ∀ k, gA E k = gA E0 k := fun k => mf_gA hE (by intro z; cases z)
  have hs1 : ¬ nI s = -1 := fun z => absurd (show nI s < 0 by rw [z]; decide) (nI_pos (by have := hc.1.2.1; omega))
  refine ⟨(g _ (by decide)).trans w1, Nat.le_refl L, v3, by rw [a]; exact v4, ?_, w6, ?_, ?_, show gI E 1584 95 = cB c from (g 1584 (by decide)).trans (w9.trans e3), show gI E 1589 95 = fr from (g 1589 (by decide)).trans w10, ?_⟩
  · rw [a 113, a 99, a 100, a 101, a 114]; exact w5
  · rw [hw, hev]
    intro z
    rcases z with z | z
    · exact absurd z hs1
    · exact z
  · rw [hw, hev]
    intro _ z2
    obtain ⟨i, hi, e1⟩ := hc.2 s hs
    have hne : ¬ nI e = 0 := fun z => by rw [z] at z2; exact absurd z2 (by decide)
    have hS : cS (cSay c (nI s) (nI e)) = nI s := if_neg hne
    obtain ⟨p1, p2, p3⟩ := plc_hit hi e1
    have h7 := hc.1.2.1
    refine ⟨rfl, ?_, ?_⟩
    · show nI s = nI (cO c (plcF (cO c) (cS (cSay c (nI s) (nI e))) L)).toNatClampNeg
      rw [hS, p2, nI_clamp (by omega)]
    · show plcF (cO c) (cS (cSay c (nI s) (nI e))) L < L
      rw [hS]; exact p1
  · show gA E 98 4 = aw ∧ (∃ a, a ≤ 60 ∧ aw = nI a) ∧ gA E 98 7 = nI R.length ∧ R.length ≤ 600 ∧ (∀ i, i < R.length → gA E 106 i = mS (R.getD i 0)) ∧ rule1 R
    rw [a 98, a 106]; exact w11
theorem ful_say {c : Cfg} {L s e : Nat} (h : cful L c) (hs : s < L) (he : e ≤ 240) : cful L (cSay c (nI s) (nI e)) := by
  obtain ⟨⟨k1, k2, k3, k4, k5, k6, k7⟩, hsu⟩ := h
  refine ⟨⟨k1, k2, k3, k4, ⟨e, he, rfl⟩, fun z => ?_, k7⟩, hsu⟩
  obtain ⟨i, hi, e1⟩ := hsu s hs
  refine ⟨i, hi, ?_⟩
  show cO c i = if nI e = 0 then -1 else nI s
  rw [if_neg (fun y => by rw [show cE (cSay c (nI s) (nI e)) = nI e from rfl, y] at z; exact absurd z (by decide))]
  exact e1
/-- the same best, as the model finds it -/
def besM (w : Nat → Int32) : Nat → Int32 × Int32
  | 0 => (-1, 0)
  | k + 1 => if (besM w k).1 = -1 ∨ w k < (besM w k).2 then (nI k, w k) else besM w k
theorem bes_eq {w : Nat → Int32} : ∀ k, besM w (k + 1) = bestF w (k + 1) := by
  intro k
  induction k with
  | zero => rfl
  | succ k ih =>
    show (if (besM w (k + 1)).1 = -1 ∨ w (k + 1) < (besM w (k + 1)).2 then (nI (k + 1), w (k + 1)) else besM w (k + 1)) = (if (bestF w (k + 1)).1 = -1 ∨ w (k + 1) < (bestF w (k + 1)).2 then (nI (k + 1), w (k + 1)) else bestF w (k + 1))
    rw [ih]
set_option maxRecDepth 20000 in
theorem m_every {d L m s : Nat} {sl : Nat → Nat → Int32} {aw : Int32} {R : List Int32} {c : Cfg} {fr : Int32} {E : HP} {w : Int32} (h : MD E L m sl aw R c fr) (hs : s < L) (hw : inB w 2) (h3 : ¬ sl 1 s = 3) : ∃ o, (∃ E2, o = (.inl (some (.int (if w = 0 then (besM (fun e => nS (nightF (vMk L sl aw R (cSay c (nI s) (nI e)) fr) m) 2) 241).1 else (besM (fun e => nS (nightF (vMk L sl aw R (cSay c (nI s) (nI e)) fr) m) 2) 241).2))), E2, 137) ∧ AQ E E2 0) ∧ Cl yX12_every mX12_every (d + 8) 0 0 [.ref 95, .int (nI s), .int w] E 137 o := by
  obtain ⟨hM, hL, ⟨cok, csu⟩, hoc, h62, h63, h64, h65, hsy, hsl, ⟨m1, m6, hm⟩, -⟩ := id h
  have l7 : L ≤ 7 := cok.2.1
  have hM0 : MoOK (sI E 1538 95 0) := hM
  have hL0 : gA (sI E 1538 95 0) 98 0 = nI L := hL
  obtain ⟨E1, ⟨f1, hv1, hr1, s1, s2⟩, hse⟩ := m_set (d := d + 6) (md_0 (x := 0) h)
  have hM1 := mf_mo f1 hM0
  have hF1 : gI E1 1562 95 = vS (vMk L sl aw R c fr) 4 := (mf_gI f1 (by decide)).trans h62
  have his := c_isSl (d := d + 6) (E := sI E 1538 95 0) (x := nI s) hM0 hL0 l7
  rw [b01_t (inB_of hs (by omega))] at his
  have hkd : gA (sI E 1538 95 0) 99 s = sl 1 s := (hsl s hs).1
  refine Cx.of (by decide) rfl (fun q => by cases q) rfl rfl (Nat.le_of_ble_eq_true rfl) ?_
  show Sx _ _ _ _ _ 0 [some (.ref 95), some (.int (nI s)), some (.int w), none, none, none] [] _ _
  have loop := sxUp (S := fun k9 E2 => Sx mX12_every (d + 8) 0 0 (fun o => ∃ E2, o = (.inl (some (.int (if w = 0 then (besM (fun e => nS (nightF (vMk L sl aw R (cSay c (nI s) (nI e)) fr) m) 2) 241).1 else (besM (fun e => nS (nightF (vMk L sl aw R (cSay c (nI s) (nI e)) fr) m) 2) 241).2))), E2, 137) ∧ AQ E E2 0) 63 [some (.ref 95), some (.int (nI s)), some (.int w), some (.int (besM (fun e => nS (nightF (vMk L sl aw R (cSay c (nI s) (nI e)) fr) m) 2) k9).1), some (.int (besM (fun e => nS (nightF (vMk L sl aw R (cSay c (nI s) (nI e)) fr) m) 2) k9).2), none] [] E2 137) (Inv := fun k9 E2 => MF gsS asS (sI E 1538 95 0) E2 ∧ gI E2 1582 95 = nI s ∧ gI E2 1583 95 = nI k9 ∧ MVis E2 (vMk L sl aw R (cSay c (nI s) (nI k9)) fr) L) (a := 0) (l := 241) (by omega) ?_ ?_
  refine Sx.up (fun _ kk => r_aload_n 1 dX12_every_0 rfl rfl kk) ?_
  refine Sx.up (fun _ kk => r_iconst (0) 2 dX12_every_1 rfl (by decide) kk) ?_
  refine Sx.up (fun _ kk => r_putI 5 dX12_every_2 rfl f12_159 rfl lt95 kk) ?_
  refine Sx.up (fun _ kk => r_aload_n 6 dX12_every_5 rfl rfl kk) ?_
  refine Sx.up (fun _ kk => r_iload_n 7 dX12_every_6 rfl rfl kk) ?_
  refine Sx.up (fun _ kk => r_callV (M := mX12_every) (pc := 7) 10 dX12_every_7 rfl k12_420 his rfl rfl rfl (by decide) rfl lt95 (Nat.le_of_ble_eq_true rfl) kk) ?_
  refine Sx.up (fun _ kk => r_if_eq 13 22 dX12_every_10 rfl (by decide) (fun h10 => absurd h10 (by decide)) (fun _ => kk)) ?_
  refine Sx.up (fun _ kk => r_iload_n 14 dX12_every_13 rfl rfl kk) ?_
  refine Sx.up (fun _ kk => r_if_lt 17 22 dX12_every_14 rfl (by decide) (fun h14 => absurd h14 hw.1) (fun _ => kk)) ?_
  refine Sx.up (fun _ kk => r_iload_n 18 dX12_every_17 rfl rfl kk) ?_
  refine Sx.up (fun _ kk => r_iconst (1) 19 dX12_every_18 rfl (by decide) kk) ?_
  refine Sx.up (fun _ kk => r_icmp_le 22 28 dX12_every_19 rfl (by decide) (fun _ => kk) (fun h19 => absurd (le_of_in2 hw) h19)) ?_
  refine Sx.up (fun _ kk => r_aload_n 29 dX12_every_28 rfl rfl kk) ?_
  refine Sx.up (fun _ kk => r_getR 32 dX12_every_29 rfl f12_42 rfl rfl lt95 (mo_4 hM0) kk) ?_
  refine Sx.up (fun _ kk => r_iload_n 33 dX12_every_32 rfl rfl kk) ?_
  refine Sx.up (fun _ kk => r_ialdN (s) (sl 1 s) 34 dX12_every_33 rfl rfl (Nat.le_of_ble_eq_true rfl) (rfl) (by omega) (Nat.le_of_ble_eq_true rfl) (hkd) kk) ?_
  refine Sx.up (fun _ kk => r_iconst (3) 35 dX12_every_34 rfl (by decide) kk) ?_
  refine Sx.up (fun _ kk => r_icmp_ne 38 44 dX12_every_35 rfl (by decide) (fun _ => kk) (fun h35 => absurd h35 h3)) ?_
  refine Sx.up (fun _ kk => r_aload_n 45 dX12_every_44 rfl rfl kk) ?_
  refine Sx.up (fun _ kk => r_callV (M := mX12_every) (pc := 45) 48 dX12_every_45 rfl k12_413 hse rfl rfl rfl (by decide) rfl lt95 (Nat.le_of_ble_eq_true rfl) kk) ?_
  refine Sx.up (fun _ kk => r_aload_n 49 dX12_every_48 rfl rfl kk) ?_
  refine Sx.up (fun _ kk => r_iload_n 50 dX12_every_49 rfl rfl kk) ?_
  refine Sx.up (fun _ kk => r_putI 53 dX12_every_50 rfl f12_344 rfl lt95 kk) ?_
  refine Sx.up (fun _ kk => r_iconst (-1) 54 dX12_every_53 rfl (by decide) kk) ?_
  refine Sx.up (fun _ kk => r_istore_n 55 dX12_every_54 rfl (by decide) rfl kk) ?_
  refine Sx.up (fun _ kk => r_iconst (0) 56 dX12_every_55 rfl (by decide) kk) ?_
  refine Sx.up (fun _ kk => r_istore 58 dX12_every_56 rfl (by decide) rfl kk) ?_
  refine Sx.up (fun _ kk => r_aload_n 59 dX12_every_58 rfl rfl kk) ?_
  refine Sx.up (fun _ kk => r_iconst (0) 60 dX12_every_59 rfl (by decide) kk) ?_
  refine Sx.up (fun _ kk => r_putI 63 dX12_every_60 rfl f12_347 rfl lt95 kk) ?_
  refine Sx.less (ls := [some (.ref 95), some (.int (nI s)), some (.int w), some (.int (-1)), some (.int 0), none]) ⟨rfl, rfl, rfl, rfl, rfl, trivial⟩ (loop _ ⟨mf_sI (by decide) (mf_sI (by decide) (mf_mono f1 (by decide) (by decide))), ?_, ?_, mvis_say ⟨c, hv1, rfl, rfl, rfl⟩ (mf_sI (by decide) (mf_sI (by decide) mf_rfl)) ⟨cok, csu⟩ hs (by rw [gI_sI, if_neg (by decide), gI_sI, if_pos ⟨rfl, rfl⟩]) (by rw [gI_sI, if_pos ⟨rfl, rfl⟩]; rfl)⟩)
  · rw [gI_sI, if_neg (by decide), gI_sI, if_pos ⟨rfl, rfl⟩]
  · rw [gI_sI, if_pos ⟨rfl, rfl⟩]; rfl
  · intro E2 ⟨f2, g1, g2, g3⟩
    have hM2 := mf_mo f2 hM0
    refine Sx.up (fun _ kk => r_aload_n 64 dX12_every_63 rfl rfl kk) ?_
    refine Sx.up (fun _ kk => r_getIV (nI 241) 67 dX12_every_64 rfl f12_347 rfl rfl lt95 (g2) kk) ?_
    refine Sx.up (fun _ kk => r_sipush (240) 70 dX12_every_67 rfl (by decide) kk) ?_
    refine Sx.up (fun _ kk => r_icmp_gt 73 130 dX12_every_70 rfl (by decide) (fun _ => kk) (fun h70 => absurd (nI_lt (a := 240) (by omega) (by omega)) h70)) ?_
    refine Sx.up (fun _ kk => r_iload_n 131 dX12_every_130 rfl rfl kk) ?_
    refine Sx.br (fun _ ka kb => r_if_ne 134 138 dX12_every_131 rfl (by decide) ka kb) (by first | exact em1 | exact em2) (fun h131 => ?_) (fun h131 => ?_)
    · refine Sx.up (fun _ kk => r_iload 140 dX12_every_138 rfl rfl kk) ?_
      refine ⟨_, ?_, r_iret dX12_every_140 rfl rfl rfl⟩
      refine ⟨E2, ?_, mq_of f2 (by decide) (by decide) (by decide)⟩
      first | rw [if_pos h131] | rw [if_neg h131]
    · refine Sx.up (fun _ kk => r_iload_n 135 dX12_every_134 rfl rfl kk) ?_
      refine Sx.up (fun _ kk => r_goto 140 dX12_every_135 (by decide) kk) ?_
      refine ⟨_, ?_, r_iret dX12_every_140 rfl rfl rfl⟩
      refine ⟨E2, ?_, mq_of f2 (by decide) (by decide) (by decide)⟩
      first | rw [if_pos h131] | rw [if_neg h131]
  · intro k9 E2 hk0 hk9 ⟨f2, g1, g2, g3⟩ hq
    have hM2 := mf_mo f2 hM0
    have hv2 := g3
    have hF2 : gI E2 1562 95 = vS (vMk L sl aw R (cSay c (nI s) (nI k9)) fr) 4 := (mf_gI f2 (by decide)).trans h62
    have hm2 : gA E2 98 3 = nI m := by rw [mf_gA f2 (by decide)]; exact hm
    obtain ⟨_, ⟨E3, rfl, f3, hg⟩, hgo⟩ := c_X12_go (d := d + 2) (m := m) hM2 hv2 cok.2.2.2.2.2.2 m6
    obtain ⟨hM3, hv3, q1, q2, q3, q4, q5, q6⟩ := id hg
    have haw := c_X12_allWoken (d := d + 7) hM3 (by rw [mf_gA f3 (by decide)]; rw [mf_gA f2 (by decide)]; exact hL0) l7
    rw [q4] at haw
    have e1 : gI E3 1582 95 = nI s := (mf_gI f3 (by decide)).trans g1
    have e2 : gI E3 1583 95 = nI k9 := (mf_gI f3 (by decide)).trans g2
    have hgo2 := hq (sI E3 1583 95 (nI (k9 + 1))) ⟨mf_sI (by decide) (mf_tr f2 (mf_mono f3 (by decide) (by decide))), by rw [gI_sI, if_neg (by decide)]; exact e1, by rw [gI_sI, if_pos ⟨rfl, rfl⟩], mvis_say ⟨_, hv3, rfl, rfl, rfl⟩ (mf_sI (by decide) mf_rfl) ⟨cok, csu⟩ hs (by rw [gI_sI, if_neg (by decide)]; exact e1) (by rw [gI_sI, if_pos ⟨rfl, rfl⟩])⟩
    have hy : ((besM (fun e => nS (nightF (vMk L sl aw R (cSay c (nI s) (nI e)) fr) m) 2) k9).1 = -1 ∨ nS (nightF (vMk L sl aw R (cSay c (nI s) (nI k9)) fr) m) 2 < (besM (fun e => nS (nightF (vMk L sl aw R (cSay c (nI s) (nI e)) fr) m) 2) k9).2) → besM (fun e => nS (nightF (vMk L sl aw R (cSay c (nI s) (nI e)) fr) m) 2) (k9 + 1) = (nI k9, nS (nightF (vMk L sl aw R (cSay c (nI s) (nI k9)) fr) m) 2) := fun z => if_pos z
    have hn : ¬ ((besM (fun e => nS (nightF (vMk L sl aw R (cSay c (nI s) (nI e)) fr) m) 2) k9).1 = -1 ∨ nS (nightF (vMk L sl aw R (cSay c (nI s) (nI k9)) fr) m) 2 < (besM (fun e => nS (nightF (vMk L sl aw R (cSay c (nI s) (nI e)) fr) m) 2) k9).2) → besM (fun e => nS (nightF (vMk L sl aw R (cSay c (nI s) (nI e)) fr) m) 2) (k9 + 1) = besM (fun e => nS (nightF (vMk L sl aw R (cSay c (nI s) (nI e)) fr) m) 2) k9 := fun z => if_neg z
    refine Sx.up (fun _ kk => r_aload_n 64 dX12_every_63 rfl rfl kk) ?_
    refine Sx.up (fun _ kk => r_getIV (nI k9) 67 dX12_every_64 rfl f12_347 rfl rfl lt95 (g2) kk) ?_
    refine Sx.up (fun _ kk => r_sipush (240) 70 dX12_every_67 rfl (by decide) kk) ?_
    refine Sx.up (fun _ kk => r_icmp_gt 73 130 dX12_every_70 rfl (by decide) (fun h70 => absurd h70 (nI_nlt (a := 240) (by omega) (by omega))) (fun _ => kk)) ?_
    refine Sx.up (fun _ kk => r_aload_n 74 dX12_every_73 rfl rfl kk) ?_
    refine Sx.up (fun _ kk => r_aload_n 75 dX12_every_74 rfl rfl kk) ?_
    refine Sx.up (fun _ kk => r_getIV (vS (vMk L sl aw R (cSay c (nI s) (nI k9)) fr) 4) 78 dX12_every_75 rfl f12_315 rfl rfl lt95 (hF2) kk) ?_
    refine Sx.up (fun _ kk => r_aload_n 79 dX12_every_78 rfl rfl kk) ?_
    refine Sx.up (fun _ kk => r_getR 82 dX12_every_79 rfl f12_38 rfl rfl lt95 (mo_3 hM2) kk) ?_
    refine Sx.up (fun _ kk => r_iconst (3) 83 dX12_every_82 rfl (by decide) kk) ?_
    refine Sx.up (fun _ kk => r_ialdN (3) (nI m) 84 dX12_every_83 rfl rfl (Nat.le_of_ble_eq_true rfl) (by decide) (Nat.le_of_ble_eq_true rfl) (Nat.le_of_ble_eq_true rfl) (hm2) kk) ?_
    refine Sx.up (fun _ kk => r_callV (M := mX12_every) (pc := 84) 87 dX12_every_84 rfl k12_416 hgo rfl rfl rfl (by decide) rfl lt95 (Nat.le_of_ble_eq_true rfl) kk) ?_
    refine Sx.up (fun _ kk => r_aload_n 88 dX12_every_87 rfl rfl kk) ?_
    refine Sx.up (fun _ kk => r_callV (M := mX12_every) (pc := 88) 91 dX12_every_88 rfl k12_447 haw rfl rfl rfl (by decide) rfl lt95 (Nat.le_of_ble_eq_true rfl) kk) ?_
    refine Sx.up (fun _ kk => r_istore 93 dX12_every_91 rfl (by decide) rfl kk) ?_
    refine Sx.up (fun _ kk => r_iload_n 94 dX12_every_93 rfl rfl kk) ?_
    refine Sx.up (fun _ kk => r_iconst (-1) 95 dX12_every_94 rfl (by decide) kk) ?_
    refine Sx.br (fun _ ka kb => r_icmp_eq 98 108 dX12_every_95 rfl (by decide) ka kb) (by first | exact em1 | exact em2) (fun h95 => ?_) (fun h95 => ?_)
    · refine Sx.up (fun _ kk => r_aload_n 109 dX12_every_108 rfl rfl kk) ?_
      refine Sx.up (fun _ kk => r_getIV (nI k9) 112 dX12_every_109 rfl f12_347 rfl rfl lt95 (e2) kk) ?_
      refine Sx.up (fun _ kk => r_istore_n 113 dX12_every_112 rfl (by decide) rfl kk) ?_
      refine Sx.up (fun _ kk => r_iload 115 dX12_every_113 rfl rfl kk) ?_
      refine Sx.up (fun _ kk => r_istore 117 dX12_every_115 rfl (by decide) rfl kk) ?_
      refine Sx.up (fun _ kk => r_aload_n 118 dX12_every_117 rfl rfl kk) ?_
      refine Sx.up (fun _ kk => r_dup 119 dX12_every_118 rfl rfl kk) ?_
      refine Sx.up (fun _ kk => r_getIV (nI k9) 122 dX12_every_119 rfl f12_347 rfl rfl lt95 (e2) kk) ?_
      refine Sx.up (fun _ kk => r_iconst (1) 123 dX12_every_122 rfl (by decide) kk) ?_
      skip
      refine Sx.up (fun _ kk => r_iadd 124 dX12_every_123 rfl kk) ?_
      refine Sx.up (fun _ kk => r_putI 127 dX12_every_124 rfl f12_347 rfl lt95 kk) ?_
      refine Sx.up (fun _ kk => r_goto 63 dX12_every_127 (by decide) kk) ?_
      rw [nI_pp]
      rw [hy (Or.inl h95)] at hgo2
      exact Sx.less (by exact ⟨rfl, rfl, rfl, rfl, rfl, trivial⟩) hgo2
    · refine Sx.up (fun _ kk => r_iload 100 dX12_every_98 rfl rfl kk) ?_
      refine Sx.up (fun _ kk => r_iload 102 dX12_every_100 rfl rfl kk) ?_
      refine Sx.br (fun _ ka kb => r_icmp_lt 105 108 dX12_every_102 rfl (by decide) ka kb) (by first | exact em1 | exact em2) (fun h102 => ?_) (fun h102 => ?_)
      · refine Sx.up (fun _ kk => r_aload_n 109 dX12_every_108 rfl rfl kk) ?_
        refine Sx.up (fun _ kk => r_getIV (nI k9) 112 dX12_every_109 rfl f12_347 rfl rfl lt95 (e2) kk) ?_
        refine Sx.up (fun _ kk => r_istore_n 113 dX12_every_112 rfl (by decide) rfl kk) ?_
        refine Sx.up (fun _ kk => r_iload 115 dX12_every_113 rfl rfl kk) ?_
        refine Sx.up (fun _ kk => r_istore 117 dX12_every_115 rfl (by decide) rfl kk) ?_
        refine Sx.up (fun _ kk => r_aload_n 118 dX12_every_117 rfl rfl kk) ?_
        refine Sx.up (fun _ kk => r_dup 119 dX12_every_118 rfl rfl kk) ?_
        refine Sx.up (fun _ kk => r_getIV (nI k9) 122 dX12_every_119 rfl f12_347 rfl rfl lt95 (e2) kk) ?_
        refine Sx.up (fun _ kk => r_iconst (1) 123 dX12_every_122 rfl (by decide) kk) ?_
        skip
        refine Sx.up (fun _ kk => r_iadd 124 dX12_every_123 rfl kk) ?_
        refine Sx.up (fun _ kk => r_putI 127 dX12_every_124 rfl f12_347 rfl lt95 kk) ?_
        refine Sx.up (fun _ kk => r_goto 63 dX12_every_127 (by decide) kk) ?_
        rw [nI_pp]
        rw [hy (Or.inr h102)] at hgo2
        exact Sx.less (by exact ⟨rfl, rfl, rfl, rfl, rfl, trivial⟩) hgo2
      · refine Sx.up (fun _ kk => r_goto 117 dX12_every_105 (by decide) kk) ?_
        refine Sx.up (fun _ kk => r_aload_n 118 dX12_every_117 rfl rfl kk) ?_
        refine Sx.up (fun _ kk => r_dup 119 dX12_every_118 rfl rfl kk) ?_
        refine Sx.up (fun _ kk => r_getIV (nI k9) 122 dX12_every_119 rfl f12_347 rfl rfl lt95 (e2) kk) ?_
        refine Sx.up (fun _ kk => r_iconst (1) 123 dX12_every_122 rfl (by decide) kk) ?_
        skip
        refine Sx.up (fun _ kk => r_iadd 124 dX12_every_123 rfl kk) ?_
        refine Sx.up (fun _ kk => r_putI 127 dX12_every_124 rfl f12_347 rfl lt95 kk) ?_
        refine Sx.up (fun _ kk => r_goto 63 dX12_every_127 (by decide) kk) ?_
        rw [nI_pp]
        rw [hn (fun z => z.elim h95 h102)] at hgo2
        exact Sx.less (by exact ⟨rfl, rfl, rfl, rfl, rfl, trivial⟩) hgo2
