/-! What is seen; undone; the image; the tape -/
/-- how it stands behind what is seen: S2 of it -/
theorem no_seen {E E3 : HP} {b L m k S t S2 : Nat} {R : List Int32} (h : RelN E b L m R k S t) (f : FrN b E E3) (i1 : ∀ g q, ¬ (g = 386 ∧ q = 54) → 45 < q → q < 60 → gI E3 g q = gI E g q) (a1 : ∀ q, q ≠ 54 → q ≠ 56 → 45 < q → q < 60 → gA E3 q = gA E q) (j1 : ∀ g, g ≠ 1538 → g ≠ 1567 → gI E3 g 95 = gI E g 95) (a2 : ∀ q, 97 < q → q ≠ 127 → q ≠ 128 → q ≠ 129 → gA E3 q = gA E q) (c1 : gI E3 386 54 = nI S2) (c2 : gI E3 1567 95 = nI S2) (hs : SnR L S2 (gA E3 56) (gA E3 127) (gA E3 128) (gA E3 129)) : NoR E3 L (slC E b) k S2 := by
  obtain ⟨n1, n2, n3, ⟨n4, n5, n6⟩, ⟨n7, n8, n9⟩, ⟨s1, s2, s3, s4⟩⟩ := id h.2.1
  have hpc : pcF E3 46 = pcF E 46 := pc_cg (a1 _ (by decide) (by decide) (by decide) (by decide)) (a1 _ (by decide) (by decide) (by decide) (by decide)) (fun g => i1 g 46 (by omega) (by decide) (by decide))
  have hpk : pkF E3 = pkF E := pk_cg (a2 _ (by decide) (by decide) (by decide) (by decide)) (a2 _ (by decide) (by decide) (by decide) (by decide)) (fun g hg => j1 g (by intro z; rw [z] at hg; exact absurd hg (by decide)) (by intro z; rw [z] at hg; exact absurd hg (by decide)))
  unfold NoR
  rw [hpc, hpk, i1 514 46 (by decide) (by decide) (by decide), i1 519 46 (by decide) (by decide) (by decide), i1 386 51 (by decide) (by decide) (by decide), i1 384 51 (by decide) (by decide) (by decide), i1 384 54 (by decide) (by decide) (by decide), j1 1566 (by decide) (by decide), a2 98 (by decide) (by decide) (by decide) (by decide), a1 53 (by decide) (by decide) (by decide) (by decide), a2 110 (by decide) (by decide) (by decide) (by decide), a1 58 (by decide) (by decide) (by decide) (by decide), a2 107 (by decide) (by decide) (by decide) (by decide)]
  exact ⟨n1, n2, n3, ⟨n4, n5, n6⟩, ⟨c1, n8, c2⟩, s1, s2, hs, s4⟩
theorem frn_sL {b a i : Nat} {E : HP} {x : Int64} (hc : CR E b) (hM : MoOK E) (hQ : QS E) : FrN b E (sL E a i x) := ⟨cr_sr ⟨rfl, rfl⟩ hc, hM, hQ, fun _ => rfl, rfl, fun _ _ => ⟨fun _ => rfl, rfl⟩, fun _ _ => rfl, fun _ _ _ => rfl⟩
set_option maxHeartbeats 16000000 in
theorem o_see {E : HP} {b L m k S t : Nat} {R : List Int32} {x w v : Int32} (h : RelN E b L m R k S t) (hk : KpR E L) : OpT false yX11_see mX11_see yX12_see mX12_see [.int x, .int w, .int v] E := by
  have ci := (ci_of h).1
  obtain ⟨l7, m1, m6⟩ := l7_of h
  obtain ⟨hC, hM, hQ⟩ := rel_td h
  obtain ⟨n1, n2, n3, ⟨n4, n5, n6⟩, ⟨n7, n8, n9⟩, ⟨s1, s2, s3, s4⟩⟩ := id h.2.1
  have hL : gA E 98 0 = nI L := h.1.2.1.2
  have k40 : k ≤ 40 := s2.1
  have ac : piSz E 137 51 120 k 40 := ⟨cr_pile51 hC, n4, n5, rfl, k40, by decide, by decide⟩
  obtain ⟨co, cu, c14, c15, c16, c17⟩ := pc_at l7 n3
  obtain ⟨mo, mu⟩ := pk_at (E := E)
  have hkd : ∀ s, s < L → gA E 99 s = slC E b 1 s := fun s hs => (h.1.2.2.2.2.2 s hs).1
  have S8 : S ≤ 8 := s3.1
  have as : piSz E 137 54 24 S 8 := ⟨cr_pile54 hC, n7, n8, rfl, S8, by decide, by decide⟩
  by_cases hx : inB x (nI L)
  rotate_left
  · exact op_nse h hk (x_see1 (d := 52) (s := 0) ci hx) qf_rfl fun Ex hMD hR _ => m_see1 (d := 52) (rel_td hR).2.1 hR.1.2.1.2 l7 hx
  obtain ⟨s, hs, rfl⟩ := inB_nI hx (by omega)
  by_cases hz : ¬ S < 8 ∨ ¬ inC w 600 ∨ ¬ (v = 0 ∨ v = 1) ∨ slC E b 1 s = 3
  · have hcl := x_see2 (d := 52) ci as hs hz
    have hMr : MoOK (stRefuse 45 2 E) := fun q hq => sr_gR (sr_stRefuse sr_rfl) (hM q hq)
    have fr : Fr (fun q => q = 58) E (stRefuse 45 2 E) := fr_put (h := 57) rfl fr_rfl
    have hm := fun ex : Int64 => m_see2 (d := 52) (E := sL (stRefuse 45 2 E) 136 0 ex) hMr (show gI (stRefuse 45 2 E) 1567 95 = nI S by rw [fr_gI fr (by decide)]; exact n9) S8 (show gA (stRefuse 45 2 E) 98 0 = nI L by rw [fr_gA fr (by decide)]; exact hL) l7 hs (show gA (stRefuse 45 2 E) 99 s = slC E b 1 s by rw [fr_gA fr (by decide)]; exact hkd s hs) hz
    refine Or.inl ⟨_, _, 0, 0, by decide, by decide, hcl, _, hm _, ?_, ?_, ref_rel2 h hk (w := 2) (by decide) rfl rfl⟩
    · rw [gI_sA, gI_sI, if_pos ⟨rfl, rfl⟩]
    · rw [gL_sA, gL_sI, gL_sL, if_pos ⟨rfl, rfl⟩]
  have hS : S < 8 := Classical.byContradiction fun z => hz (Or.inl z)
  have hw : inC w 600 := Classical.byContradiction fun z => hz (Or.inr (Or.inl z))
  have hv : v = 0 ∨ v = 1 := Classical.byContradiction fun z => hz (Or.inr (Or.inr (Or.inl z)))
  have h3 : ¬ slC E b 1 s = 3 := fun z => hz (Or.inr (Or.inr (Or.inr z)))
  obtain ⟨e, he, rfl⟩ := inC_nI (l := 600) hw (by decide)
  have hcl := c_X11_see (d := 52) ci as hS hs he hv h3
  have had := fun j hj => add_at (h := 54) (most := 8) (a := nI s) (b := nI e) (c := v) (j := j) n7 S8 (by decide) (by decide) hj
  obtain ⟨EC, hEC⟩ : ∃ EC, piAdd 54 24 S 8 (nI s) (nI e) v E = EC := ⟨_, rfl⟩
  have had : ∀ j, j < 24 → gA EC 56 j = adF (gA E 56) S 8 (nI s) (nI e) v j ∧ gI EC 386 54 = nI (S + 1) := fun j hj => by
    have q := had j hj
    rw [if_neg (show ¬ S = 8 by omega)] at q
    rw [← hEC]; exact q
  rw [hEC, (had 0 (by decide)).2] at hcl
  have fA : Fr (fun q => q = 54 ∨ q = 56) E EC := by rw [← hEC]; exact fr_add (P := fun q => q = 54 ∨ q = 56) (Or.inl rfl) (Or.inr rfl) fr_rfl
  have sA9 : SR E EC := by rw [← hEC]; exact sr_add sr_rfl
  have gi : ∀ g q, ¬ (g = 386 ∧ q = 54) → gI EC g q = gI E g q := fun g q z => by rw [← hEC]; exact gI_piAdd z
  have hMC : MoOK (sL EC 136 0 (nI (S + 1)).toInt64) := fun q hq => sr_gR sA9 (hM q hq)
  obtain ⟨EM, mf, m0, m7, mo, hm⟩ := m_see (d := 52) (kd := slC E b 1 s) hMC (show gI EC 1567 95 = nI S by rw [gi _ _ (by decide)]; exact n9) hS (show gA EC 98 0 = nI L by rw [fr_gA fA (by decide)]; exact hL) l7 hs he hv (show gA EC 99 s = slC E b 1 s by rw [fr_gA fA (by decide)]; exact hkd s hs) h3
  have f1 : FrN b E EC := frn_cls hC hM hQ (fr_mono fA (fun q z => by unfold PNow; omega)) sA9
  have f2 := frn_sL (a := 136) (i := 0) (x := (nI (S + 1)).toInt64) f1.1 f1.2.1 f1.2.2.1
  have f3 : FrN b (sL EC 136 0 (nI (S + 1)).toInt64) EM := frn_mf f2.1 f2.2.1 f2.2.2.1 (mf_mono mf (by decide) (by decide))
  refine Or.inl ⟨_, EC, 0, 0, by decide, by decide, hcl, EM, hm, m0, ?_, rel_now h hk (frn_tr f1 (frn_tr f2 f3)) (k2 := k) (S2 := S + 1) (no_seen h (frn_tr f1 (frn_tr f2 f3)) (fun g q z _ _ => (mf_gI2 mf (by omega)).trans (gi g q z)) (fun q z5 z _ _ => (mf_gA mf (fun y => by simp at y; omega)).trans (fr_gA fA (by omega))) (fun g z1 z2 => (mf_gI mf (fun y => by simp at y; omega)).trans (gi g 95 (by omega))) (fun q _ z1 z2 z3 => (mf_gA mf (fun y => by simp at y; omega)).trans (fr_gA fA (by omega))) ((mf_gI2 mf (by decide)).trans (had 0 (by decide)).2) m7 ⟨by omega, fun i hi => ?_⟩)⟩
  · rw [mf_gL mf, gL_sL, if_pos ⟨rfl, rfl⟩]
  · have e56 : ∀ j, j < 24 → gA EM 56 j = if j = 3 * S + 2 then v else if j = 3 * S + 1 then nI e else if j = 3 * S then nI s else gA E 56 j := fun j hj => by
      rw [mf_gA mf (by decide)]
      show gA EC 56 j = _
      rw [(had j hj).1]
      unfold adF
      rw [if_neg (by omega)]
    have e127 : gA (sL EC 136 0 (nI (S + 1)).toInt64) 127 = gA E 127 := fr_gA fA (by decide)
    have e128 : gA (sL EC 136 0 (nI (S + 1)).toInt64) 128 = gA E 128 := fr_gA fA (by decide)
    have e129 : gA (sL EC 136 0 (nI (S + 1)).toInt64) 129 = gA E 129 := fr_gA fA (by decide)
    obtain ⟨o1, o2, o3⟩ := mo i
    rw [o1, o2, o3, e127, e128, e129, e56 _ (by omega), e56 _ (by omega), e56 _ (by omega)]
    by_cases z : i = S
    · subst z
      rw [if_pos rfl, if_pos rfl, if_pos rfl, if_neg (by omega), if_neg (by omega), if_pos rfl, if_neg (by omega), if_pos rfl, if_pos rfl]
      exact ⟨⟨s, hs, rfl, rfl⟩, ⟨e, he, rfl, rfl⟩, rfl⟩
    · rw [if_neg z, if_neg z, if_neg z, if_neg (by omega), if_neg (by omega), if_neg (by omega), if_neg (by omega), if_neg (by omega), if_neg (by omega), if_neg (by omega), if_neg (by omega), if_neg (by omega)]
      exact s3.2 i (by omega)
theorem snr_le {L S S2 : Nat} {cs mw mq md : Nat → Int32} (h : SnR L S cs mw mq md) (h2 : S2 ≤ S) : SnR L S2 cs mw mq md := ⟨Nat.le_trans h2 h.1, fun i hi => h.2 i (by omega)⟩
set_option maxHeartbeats 16000000 in
theorem o_forget {E : HP} {b L m k S t : Nat} {R : List Int32} (h : RelN E b L m R k S t) (hk : KpR E L) : OpP yX11_forget mX11_forget yX12_forget mX12_forget [] E := by
  have ci := (ci_of h).1
  obtain ⟨l7, m1, m6⟩ := l7_of h
  obtain ⟨hC, hM, hQ⟩ := rel_td h
  obtain ⟨n1, n2, n3, ⟨n4, n5, n6⟩, ⟨n7, n8, n9⟩, ⟨s1, s2, s3, s4⟩⟩ := id h.2.1
  have hL : gA E 98 0 = nI L := h.1.2.1.2
  have k40 : k ≤ 40 := s2.1
  have ac : piSz E 137 51 120 k 40 := ⟨cr_pile51 hC, n4, n5, rfl, k40, by decide, by decide⟩
  obtain ⟨co, cu, c14, c15, c16, c17⟩ := pc_at l7 n3
  obtain ⟨mo, mu⟩ := pk_at (E := E)
  have S8 : S ≤ 8 := s3.1
  cases S with
  | zero =>
    have hcl := c_X11_forget0 (d := 52) ci n7
    have hm := m_forget0 (d := 52) hM n9
    have a3 : AQ E (sI E 1538 95 0) 0 := ⟨mf_sI (by decide) mf_rfl, by rw [gI_sI, if_pos ⟨rfl, rfl⟩]⟩
    exact ⟨_, E, 0, 0, by decide, by decide, hcl, _, hm, b, L, m, R, k, 0, t, rel_aq h a3, kp_aq hk a3⟩
  | succ S =>
    have hne : ¬ gI E 386 54 = 0 := by rw [n7]; exact nI_ne0 (by omega) (by omega)
    have hcl := c_X11_forget (d := 52) ci hne
    have hE : piLast E 54 = sI E 386 54 (nI S) := by
      unfold piLast
      rw [n7, if_neg (show ¬ nI (S + 1) ≤ 0 from fun z => absurd (nI_lt (a := 0) (b := S + 1) (by omega) (by omega)) (Int32.not_lt.mpr z)), nI_pred]
    rw [hE] at hcl
    have e9 : gI (sI E 386 54 (nI S)) 386 54 = nI S := by rw [gI_sI, if_pos ⟨rfl, rfl⟩]
    rw [e9] at hcl
    have hm := m_forget (d := 52) (E := sI E 386 54 (nI S)) (k := S) hM (by rw [gI_sI, if_neg (by decide)]; exact n9) (by omega)
    have fA : Fr (fun q => q = 54) E (sI E 386 54 (nI S)) := fr_sI rfl fr_rfl
    have f1 : FrN b E (sI E 386 54 (nI S)) := frn_cls hC hM hQ (fr_mono fA (fun q z => by unfold PNow; omega)) (sr_sI sr_rfl)
    have mf : MF [1538, 1567] [] (sI E 386 54 (nI S)) (sI (sI (sI E 386 54 (nI S)) 1538 95 0) 1567 95 (nI S)) := mf_sI (by decide) (mf_sI (by decide) mf_rfl)
    have f3 : FrN b (sI E 386 54 (nI S)) _ := frn_mf f1.1 f1.2.1 f1.2.2.1 (mf_mono mf (by decide) (by decide))
    have gi : ∀ g q, ¬ (g = 386 ∧ q = 54) → gI (sI E 386 54 (nI S)) g q = gI E g q := fun g q z => by rw [gI_sI, if_neg z]
    refine ⟨_, _, 0, 0, by decide, by decide, hcl, _, hm, rel_now h hk (frn_tr f1 f3) (k2 := k) (S2 := S) (no_seen h (frn_tr f1 f3) (fun g q z _ _ => (mf_gI2 mf (by omega)).trans (gi g q z)) (fun _ _ _ _ _ => rfl) (fun g z1 z2 => (mf_gI mf (fun y => by simp at y; omega)).trans (gi g 95 (by omega))) (fun _ _ _ _ _ => rfl) ((mf_gI2 mf (by decide)).trans e9) (by rw [gI_sI, if_pos ⟨rfl, rfl⟩]) (snr_le s3 (by omega)))⟩
set_option maxHeartbeats 16000000 in
theorem back_v {E : HP} {L : Nat} {v w : Nat → Int32} {a o t : Int32} (ho : RowOK E 137 47 7) (co : ∀ i, i < 7 → 0 < L → gA E 48 i = v i) (h7 : L ≤ 7) (cu : ∀ i, i < L → gA E 50 i = v (7 + i)) (c14 : gI E 515 46 = v 14) (c15 : gI E 516 46 = v 15) (c16 : gI E 517 46 = v 16) (c17 : gI E 518 46 = v 17) (hu : UndoR a o t v w) : Fr (fun q => q = 46 ∨ q = 48 ∨ q = 50) E (stBack 45 a o t E) ∧ gI (stBack 45 a o t E) 514 46 = gI E 514 46 ∧ gI (stBack 45 a o t E) 519 46 = gI E 519 46 ∧ ∀ j, Ix L j → pcF (stBack 45 a o t E) 46 j = w j := by
  rcases hu with ⟨h0, i, j, hi, hj, rfl, rfl, hw⟩ | ⟨h0, hw⟩ | ⟨h0, hw⟩ | ⟨h0, p, p1, p6, rfl, hw⟩ | ⟨h0, s, hs, rfl, hw⟩
  · subst h0
    have hb : stBack 45 0 (nI i) (nI j) E = rExch 47 7 (nI i) (nI j) E := if_pos rfl
    rw [hb]
    have fX : Fr (fun q => q = 48) E (rExch 47 7 (nI i) (nI j) E) := fr_exch (P := fun q => q = 48) (h := 47) rfl fr_rfl
    refine ⟨fr_mono fX (fun q z => Or.inr (Or.inl z)), fr_gI fX (by decide) _, fr_gI fX (by decide) _, pc_mk (fun q hq hl0 => ?_) (fun q hq => ?_) ?_ ?_ ?_ ?_⟩
    · have e := exch_at (E := E) (h := 47) (l := 7) (i := i) (j := j) (m := q) (by omega) (by omega) (by decide)
      rw [show (47 : Nat) + 1 = 48 from rfl] at e
      show gA (rExch 47 7 (nI i) (nI j) E) 48 q = _
      rw [e, co i (by omega) hl0, co j (by omega) hl0, co q hq hl0, hw q (by omega)]
    · show gA (rExch 47 7 (nI i) (nI j) E) 50 q = _
      rw [fr_gA fX (by decide), cu q hq, hw (7 + q) (by omega), if_neg (by omega), if_neg (by omega)]
    · rw [fr_gI fX (by decide), c14, hw 14 (by decide), if_neg (by omega), if_neg (by omega)]
    · rw [fr_gI fX (by decide), c15, hw 15 (by decide), if_neg (by omega), if_neg (by omega)]
    · rw [fr_gI fX (by decide), c16, hw 16 (by decide), if_neg (by omega), if_neg (by omega)]
    · rw [fr_gI fX (by decide), c17, hw 17 (by decide), if_neg (by omega), if_neg (by omega)]
  · subst h0
    have hb : stBack 45 1 o t E = sI E 515 46 o := by unfold stBack; rw [if_neg (by decide), if_pos rfl]
    rw [hb]
    refine ⟨fr_sI (Or.inl rfl) fr_rfl, by rw [gI_sI, if_neg (by decide)], by rw [gI_sI, if_neg (by decide)], pc_mk (fun q hq hl0 => ?_) (fun q hq => ?_) ?_ ?_ ?_ ?_⟩
    · rw [gA_sI, hw q (by omega), if_neg (by omega)]; exact co q hq hl0
    · rw [gA_sI, hw (7 + q) (by omega), if_neg (by omega)]; exact cu q hq
    · rw [gI_sI, if_pos ⟨rfl, rfl⟩, hw 14 (by decide), if_pos rfl]
    · rw [gI_sI, if_neg (by decide), c15, hw 15 (by decide), if_neg (by decide)]
    · rw [gI_sI, if_neg (by decide), c16, hw 16 (by decide), if_neg (by decide)]
    · rw [gI_sI, if_neg (by decide), c17, hw 17 (by decide), if_neg (by decide)]
  · subst h0
    have hb : stBack 45 2 o t E = plSay E 46 o t := by unfold stBack; rw [if_neg (by decide), if_neg (by decide), if_pos rfl]
    rw [hb]
    have g5 : ∀ g, g ≠ 516 → g ≠ 517 → gI (plSay E 46 o t) g 46 = gI E g 46 := fun g z1 z2 => by
      unfold plSay
      rw [gI_sI, if_neg (fun z => z2 z.1), gI_sI, if_neg (fun z => z1 z.1)]
    refine ⟨fr_sI (Or.inl rfl) (fr_sI (Or.inl rfl) fr_rfl), g5 _ (by decide) (by decide), g5 _ (by decide) (by decide), pc_mk (fun q hq hl0 => ?_) (fun q hq => ?_) ?_ ?_ ?_ ?_⟩
    · show gA E 48 q = _
      rw [hw q (by omega), if_neg (by omega), if_neg (by omega)]; exact co q hq hl0
    · show gA E 50 q = _
      rw [hw (7 + q) (by omega), if_neg (by omega), if_neg (by omega)]; exact cu q hq
    · rw [g5 _ (by decide) (by decide), c14, hw 14 (by decide), if_neg (by decide), if_neg (by decide)]
    · unfold plSay
      rw [gI_sI, if_neg (by decide), gI_sI, if_pos ⟨rfl, rfl⟩, hw 15 (by decide), if_pos rfl]
    · unfold plSay
      rw [gI_sI, if_pos ⟨rfl, rfl⟩, hw 16 (by decide), if_neg (by decide), if_pos rfl]
    · rw [g5 _ (by decide) (by decide), c17, hw 17 (by decide), if_neg (by decide), if_neg (by decide)]
  · subst h0
    have hb : stBack 45 3 (nI p) t E = sI E 518 46 (gI E 518 46 ^^^ (1 <<< (nI p &&& 31))) := by unfold stBack; rw [if_neg (by decide), if_neg (by decide), if_neg (by decide), if_pos rfl]
    rw [hb]
    refine ⟨fr_sI (Or.inl rfl) fr_rfl, by rw [gI_sI, if_neg (by decide)], by rw [gI_sI, if_neg (by decide)], pc_mk (fun q hq hl0 => ?_) (fun q hq => ?_) ?_ ?_ ?_ ?_⟩
    · rw [gA_sI, hw q (by omega), if_neg (by omega)]; exact co q hq hl0
    · rw [gA_sI, hw (7 + q) (by omega), if_neg (by omega)]; exact cu q hq
    · rw [gI_sI, if_neg (by decide), c14, hw 14 (by decide), if_neg (by decide)]
    · rw [gI_sI, if_neg (by decide), c15, hw 15 (by decide), if_neg (by decide)]
    · rw [gI_sI, if_neg (by decide), c16, hw 16 (by decide), if_neg (by decide)]
    · rw [gI_sI, if_pos ⟨rfl, rfl⟩, c17, hw 17 (by decide), if_pos rfl]
  · subst h0
    have hb : stBack 45 4 (nI s) t E = sA E 50 s t := by
      unfold stBack
      rw [if_neg (by decide), if_neg (by decide), if_neg (by decide), if_neg (by decide), rPut_nI hs (by decide)]
    rw [hb]
    refine ⟨fr_sA (Or.inr (Or.inr rfl)) fr_rfl, rfl, rfl, pc_mk (fun q hq hl0 => ?_) (fun q hq => ?_) ?_ ?_ ?_ ?_⟩
    · show gA (sA E 50 s t) 48 q = _
      rw [gA_sA, if_neg (fun z => absurd z.1 (by decide)), hw q (by omega), if_neg (by omega)]; exact co q hq hl0
    · show gA (sA E 50 s t) 50 q = _
      rw [gA_sA, hw (7 + q) (by omega)]
      by_cases z : q = s
      · rw [if_pos ⟨rfl, z⟩, if_pos (by omega)]
      · rw [if_neg (fun y => z y.2), if_neg (by omega)]; exact cu q hq
    · rw [gI_sA, c14, hw 14 (by decide), if_neg (by omega)]
    · rw [gI_sA, c15, hw 15 (by decide), if_neg (by omega)]
    · rw [gI_sA, c16, hw 16 (by decide), if_neg (by omega)]
    · rw [gI_sA, c17, hw 17 (by decide), if_neg (by omega)]
set_option maxHeartbeats 16000000 in
theorem o_undo {E : HP} {b L m k S t : Nat} {R : List Int32} (h : RelN E b L m R k S t) (hk : KpR E L) : OpP yX11_undo mX11_undo yX12_undo mX12_undo [] E := by
  have ci := (ci_of h).1
  obtain ⟨l7, m1, m6⟩ := l7_of h
  obtain ⟨hC, hM, hQ⟩ := rel_td h
  obtain ⟨n1, n2, n3, ⟨n4, n5, n6⟩, ⟨n7, n8, n9⟩, ⟨s1, s2, s3, s4⟩⟩ := id h.2.1
  have hL : gA E 98 0 = nI L := h.1.2.1.2
  have k40 : k ≤ 40 := s2.1
  have ac : piSz E 137 51 120 k 40 := ⟨cr_pile51 hC, n4, n5, rfl, k40, by decide, by decide⟩
  obtain ⟨co, cu, c14, c15, c16, c17⟩ := pc_at l7 n3
  obtain ⟨mo, mu⟩ := pk_at (E := E)
  cases k with
  | zero =>
    have hcl := c_X11_undo0 (d := 52) ci n4
    have hm := m_undo0 (d := 52) hM n6
    have a3 : AQ E (sI E 1538 95 0) 0 := ⟨mf_sI (by decide) mf_rfl, by rw [gI_sI, if_pos ⟨rfl, rfl⟩]⟩
    exact ⟨_, E, 0, 0, by decide, by decide, hcl, _, hm, b, L, m, R, 0, S, t, rel_aq h a3, kp_aq hk a3⟩
  | succ k1 =>
    obtain ⟨-, P, p1, p2⟩ := id s2
    obtain ⟨p3, p4, p5⟩ := p2 k1 (by omega)
    have hu : UndoR (gA E 53 (3 * k1)) (gA E 53 (3 * k1 + 1)) (gA E 53 (3 * k1 + 2)) (pkF E) (P k1) := undo_cg p5 (fun q hq => (p1 q hq).symm) (fun _ _ => rfl)
    have hne : ¬ gI E 386 51 = 0 := by rw [n4]; exact nI_ne0 (by omega) (by omega)
    have hcl := c_X11_undo (d := 52) ci hne
    have ent : ∀ j, j < 3 → piAt E 51 120 (gI E 386 51 - 1) (nI j) = gA E 53 (3 * k1 + j) := fun j hj => by
      unfold piAt
      rw [n4, nI_pred, nI_mul3, add_nI, rAt_nI (by omega) (by decide), Nat.mul_comm]
    obtain ⟨EB, hEB⟩ : ∃ EB, stBack 45 (gA E 53 (3 * k1)) (gA E 53 (3 * k1 + 1)) (gA E 53 (3 * k1 + 2)) E = EB := ⟨_, rfl⟩
    have hst : stUndo 45 E = piLast EB 51 := by
      refine st_undo ?_
      have e0 := ent 0 (by decide)
      have e1 := ent 1 (by decide)
      have e2 := ent 2 (by decide)
      rw [show nI 0 = 0 from rfl] at e0
      rw [show nI 1 = 1 from rfl] at e1
      rw [show nI 2 = 2 from rfl] at e2
      show stBack 45 (piAt E 51 120 (gI E 386 51 - 1) 0) (piAt E 51 120 (gI E 386 51 - 1) 1) (piAt E 51 120 (gI E 386 51 - 1) 2) E = EB
      rw [e0, e1, e2]
      exact hEB
    have hbk := back_v (cr_row47 hC) co l7 cu c14 c15 c16 c17 hu
    rw [hEB] at hbk
    obtain ⟨b1, b2, b3, b4⟩ := hbk
    have sB : SR E EB := by rw [← hEB]; exact sr_back sr_rfl
    have hE : piLast EB 51 = sI EB 386 51 (nI k1) := by
      unfold piLast
      rw [fr_gI b1 (by omega), n4, if_neg (show ¬ nI (k1 + 1) ≤ 0 from fun z => absurd (nI_lt (a := 0) (b := k1 + 1) (by omega) (by omega)) (Int32.not_lt.mpr z)), nI_pred]
    rw [hst, hE] at hcl
    have e9 : gI (sI EB 386 51 (nI k1)) 386 51 = nI k1 := by rw [gI_sI, if_pos ⟨rfl, rfl⟩]
    rw [e9] at hcl
    obtain ⟨EC, hEC⟩ : ∃ EC, sI EB 386 51 (nI k1) = EC := ⟨_, rfl⟩
    rw [hEC] at hcl e9
    have fC : Fr (fun q => q = 46 ∨ q = 48 ∨ q = 50 ∨ q = 51) E EC := by rw [← hEC]; exact fr_sI (Or.inr (Or.inr (Or.inr rfl))) (fr_mono b1 (fun q z => by omega))
    have sC : SR E EC := by rw [← hEC]; exact sr_sI sB
    have gi : ∀ g q, ¬ (g = 386 ∧ q = 51) → gI EC g q = gI EB g q := fun g q z => by rw [← hEC, gI_sI, if_neg z]
    have hMC : MoOK EC := fun q hq => sr_gR sC (hM q hq)
    obtain ⟨EM, ⟨mf, m0, mo, u14, u15, u16, u17⟩, mk, hm⟩ := m_undo (d := 52) hMC (show gI EC 1566 95 = nI (k1 + 1) by rw [fr_gI fC (by omega)]; exact n6) (by omega)
    have g110 : gA EC 110 = gA E 110 := fr_gA fC (by omega)
    rw [g110] at mo u14 u15 u16 u17
    have hpk : ∀ j, j < 18 → pkF EM j = P k1 j := pk_mk (fun q hq => by rw [(mo q hq).1]; exact p4 q (by omega)) (fun q hq => by rw [(mo q hq).2, show 18 * k1 + 7 + q = 18 * k1 + (7 + q) by omega]; exact p4 (7 + q) (by omega)) (by rw [u14]; exact p4 14 (by decide)) (by rw [u15]; exact p4 15 (by decide)) (by rw [u16]; exact p4 16 (by decide)) (by rw [u17]; exact p4 17 (by decide))
    have f1 : FrN b E EC := frn_cls hC hM hQ (fr_mono fC (fun q z => by unfold PNow; omega)) sC
    have f3 : FrN b EC EM := frn_mf f1.1 f1.2.1 f1.2.2.1 (mf_mono mf (by decide) (by decide))
    have ff := frn_tr f1 f3
    have ia : ∀ g q, q ≠ 95 → gI EM g q = gI EC g q := fun g q z => mf_gI2 mf z
    have aa : ∀ q, q ≠ 103 → q ≠ 109 → gA EM q = gA EC q := fun q z1 z2 => mf_gA mf (fun y => by simp at y; omega)
    refine ⟨_, EC, 0, 0, by decide, by decide, hcl, EM, hm, rel_now h hk ff (k2 := k1) (S2 := S) ?_⟩
    have hpc : ∀ j, Ix L j → pcF EM 46 j = P k1 j := fun j hj => by
      rw [pc_cg (E := EC) (E2 := EM) (p := 46) (aa _ (by decide) (by decide)) (aa _ (by decide) (by decide)) (fun g => ia g 46 (by decide)), pc_cg (E := EB) (E2 := EC) (p := 46) (by rw [← hEC]; rfl) (by rw [← hEC]; rfl) (fun g => gi g 46 (by omega))]
      exact b4 j hj
    have e98 : gA EM 98 = gA E 98 := ff.2.2.2.2.2.2.2 98 (by decide) (by decide)
    refine ⟨((ia _ _ (by decide)).trans (gi _ _ (by decide))).trans (b2.trans n1), ?_, fun j hj => (hpc j hj).trans (hpk j hj.1).symm, ⟨(ia _ _ (by decide)).trans e9, ((ia _ _ (by decide)).trans (gi _ _ (by decide))).trans ((fr_gI b1 (by omega) _).trans n5), mk⟩, ⟨((ia _ _ (by decide)).trans (fr_gI fC (by omega) _)).trans n7, ((ia _ _ (by decide)).trans (fr_gI fC (by omega) _)).trans n8, ((mf_gI mf (by decide)).trans (fr_gI fC (by omega) _)).trans n9⟩, okp_cg l7 p3 hpk, ?_, ?_, ?_⟩
    · rw [(ia 519 46 (by decide)).trans (gi _ _ (by decide)), b3, e98]; exact n2
    · refine acr_cg (ca := gA E 53) (ma := gA E 110) (v := P k1) ⟨by omega, P, fun _ _ => rfl, fun i hi => p2 i (by omega)⟩ (fun i _ => by rw [aa 53 (by decide) (by decide), fr_gA fC (by omega)]) (fun i _ => by rw [aa 110 (by decide) (by decide), g110]) hpk
    · rw [aa 56 (by decide) (by decide), aa 127 (by decide) (by decide), aa 128 (by decide) (by decide), aa 129 (by decide) (by decide), fr_gA fC (by omega), fr_gA fC (by omega), fr_gA fC (by omega), fr_gA fC (by omega)]; exact s3
    · rw [aa 58 (by decide) (by decide), aa 107 (by decide) (by decide), fr_gA fC (by omega), fr_gA fC (by omega)]; exact s4
