/-! bed of both -/
def OpB (as : List Value) (E : HP) : Prop :=
  (∃ v E2 bc2 bs2, bc2 ≤ 1 ∧ bs2 ≤ 6 ∧ Cl yX11_bed mX11_bed 60 bc2 bs2 (.ref 0 :: as) E 137 (.inl (some (.int v)), E2, 137) ∧ ∃ E3, Cl yX12_bed mX12_bed 60 0 0 (.ref 95 :: as) (sL E2 136 0 v.toInt64) 137 (.inl (some (.int v)), E3, 137) ∧ gI E3 1538 95 = 0 ∧ gL E3 136 0 = v.toInt64 ∧ Rel E3)
  ∨ (∃ E2, Cl yX11_bed mX11_bed 60 1 6 (.ref 0 :: as) E 137 (.inr iaeN, E2, 137) ∧ ∃ w E3, Cl yX12_bed mX12_bed 60 0 0 (.ref 95 :: as) E2 137 (.inl (some (.int w)), E3, 137) ∧ gI E3 1538 95 = 1 ∧ Rel E3)
set_option maxHeartbeats 16000000 in
theorem o_bedF {E E2 EC EM : HP} {b L m k S t f p : Nat} {R : List Int32} {ex : Int64} {T : TX} (h : RelN E b L m R k S t) (hk : KpR E L) (r : RdE (sI E 1409 0 0) E2 (25 - b)) (c2 : CR E2 b) (hst : CSt E2 T (25 - b) (.inl (f, p))) (hEC : stRefuse 45 0 (sI E2 1410 0 (gI E2 643 41)) = EC) (mb : MBx (sL EC 136 0 ex) EM f p) : gI EM 1538 95 = 0 ∧ gL EM 136 0 = ex ∧ Rel EM := by
  obtain ⟨hC, hM, hQ⟩ := rel_td h
  obtain ⟨l7, m1, m6⟩ := l7_of h
  obtain ⟨n1, n2, n3, ⟨n4, n5, n6⟩, ⟨n7, n8, n9⟩, ⟨s1, s2, s3, s4⟩⟩ := id h.2.1
  have hb := hC.1
  obtain ⟨r1, r2, r3⟩ := r
  obtain ⟨q1, q2, q3, q4, q5, -⟩ := hst
  obtain ⟨mf, mh, z0, z1, z2, z3⟩ := mb
  have hd : EC = sA (sI E2 1410 0 (nI p)) 58 0 (gA E2 58 0 + 1) := by
    rw [← hEC, q4]
    unfold stRefuse
    rw [show (0 : Int32) = nI 0 from rfl, rPut_nI (by decide) (by decide), rAt_nI (by decide) (by decide)]
    rfl
  have no : ∀ q, q ≠ 41 → q ≠ 42 → ¬ (25 - b ≤ q ∧ q ≤ 25 - b + 18) → ¬ RdP (25 - b) q := fun q a c d => by unfold RdP; omega
  have iC : ∀ g q, ¬ RdP (25 - b) q → ¬ (g = 1409 ∧ q = 0) → ¬ (g = 1410 ∧ q = 0) → gI EC g q = gI E g q := fun g q a c d => by
    rw [hd, gI_sA, gI_sI, if_neg d, fr_gI r1 a, gI_sI, if_neg c]
  have aC : ∀ q, ¬ RdP (25 - b) q → q ≠ 58 → gA EC q = gA E q := fun q a c => by
    funext j
    rw [hd, gA_sA, if_neg (fun y => c y.1), gA_sI, fr_gA r1 a]
    rfl
  have gR2 : ∀ g q, ¬ (g = 641 ∧ q = 41) → ¬ (g = 1280 ∧ q = 42) → gR EC g q = gR E g q := fun g q a c => by
    rw [hd]
    exact r2 g q a c
  have gQ2 : gQ EC = gQ E := by
    rw [hd]
    exact r3
  have hCC : CR EC b := by
    rw [hd]
    exact cr_sr (sr_sA (sr_sI sr_rfl)) c2
  have hMC : MoOK EC := fun q hq => (gR2 _ _ (by omega) (by omega)).trans (hM q hq)
  have hQC : QS EC := ⟨fun i hi => by rw [gQ2]; exact hQ.1 i hi, fun i hi => by rw [gQ2]; exact hQ.2 i hi⟩
  have gL9 : gL EM 136 0 = ex := by rw [mf_gL mf, gL_sL, if_pos ⟨rfl, rfl⟩]
  have iM : ∀ g q, q ≠ 95 → ¬ RdP (25 - b) q → ¬ (g = 1409 ∧ q = 0) → ¬ (g = 1410 ∧ q = 0) → gI EM g q = gI E g q := fun g q x a c d => (mf_gI2 mf x).trans (iC g q a c d)
  have nr95 : ¬ RdP (25 - b) 95 := no 95 (by omega) (by omega) (by omega)
  have i95 : ∀ g, g ∉ [1538, 1550, 1551, 1552, 1553, 1554, 1555, 1556, 1557, 1558, 1559] → gI EM g 95 = gI E g 95 := fun g a => (mf_gI mf a).trans (iC g 95 nr95 (by omega) (by omega))
  have aM : ∀ q, q ∉ 107 :: asP → ¬ RdP (25 - b) q → q ≠ 58 → gA EM q = gA E q := fun q a c d => (mf_gA mf a).trans (aC q c d)
  have aH : ∀ q ∈ halfL, ∀ i, i < q.2 → gA EM q.1 i = gA E q.1 i := fun q hq i hi => by
    have hlo : ∀ q ∈ halfL, 97 < q.1 := by decide
    have := hlo q hq
    refine (mh q hq i hi).trans (congrFun (aC q.1 (no _ (by omega) (by omega) (by omega)) (by omega)) i)
  have n0 : ¬ RdP (25 - b) 0 := no 0 (by omega) (by omega) (by omega)
  have nb : ∀ q, (b ≤ q ∧ q ≤ b + 18) → ¬ RdP (25 - b) q := fun q z => no q (by omega) (by omega) (by omega)
  have nh : ∀ q, 42 < q → ¬ RdP (25 - b) q := fun q z => no q (by omega) (by omega) (by omega)
  have hsl : slC EM b = slC E b := by
    funext j s
    unfold slC
    by_cases z : s < 7
    · rw [if_pos z, if_pos z, iM _ _ (by omega) (nb _ (by omega)) (by omega) (by omega)]
    · rw [if_neg z, if_neg z]
  have tdh : ∀ q ∈ tdL, q ∈ halfL := by decide
  have hTd : TdC b E EM := ⟨cr_mf mf (cr_sr ⟨rfl, rfl⟩ hCC), mf_mo mf hMC, qs_mf mf hQC, hsl, fun g hg => iM g b (by omega) (nb _ (by omega)) (by omega) (by omega), iM _ _ (by omega) (nb _ (by omega)) (by omega) (by omega), iM _ _ (by decide) (nh _ (by decide)) (by decide) (by decide), aM _ (by simp; omega) (nb _ (by omega)) (by omega), aM _ (by simp; omega) (nb _ (by omega)) (by omega), fun q hq i hi => aH q (tdh q hq) i hi⟩
  have hpc : ∀ p, p = 46 ∨ p = 60 → pcF EM p = pcF E p := fun p hp => pc_cg (aM _ (by simp; omega) (nh _ (by omega)) (by omega)) (aM _ (by simp; omega) (nh _ (by omega)) (by omega)) (fun g => iM g p (by omega) (nh _ (by omega)) (by omega) (by omega))
  have hpk : pkF EM = pkF E := pk_cp (fun i hi => congrFun (aM 109 (by decide) (nh _ (by decide)) (by decide)) i) (aH (103, 7) (by decide)) (fun g hg => i95 g (by simp at hg ⊢; omega))
  have e98 : ∀ i, i < 8 → gA EM 98 i = gA E 98 i := aH (98, 8) (by decide)
  refine ⟨z0, gL9, b, L, m, R, k, S, 0, ⟨td_cg h.1 hTd, ?_, ?_, ?_, ?_⟩, ?_⟩
  · rw [hsl]
    unfold NoR
    rw [hpc 46 (Or.inl rfl), hpk, iM 514 46 (by decide) (nh _ (by decide)) (by decide) (by decide), iM 519 46 (by decide) (nh _ (by decide)) (by decide) (by decide), iM 386 51 (by decide) (nh _ (by decide)) (by decide) (by decide), iM 384 51 (by decide) (nh _ (by decide)) (by decide) (by decide), iM 386 54 (by decide) (nh _ (by decide)) (by decide) (by decide), iM 384 54 (by decide) (nh _ (by decide)) (by decide) (by decide), i95 1566 (by decide), i95 1567 (by decide), e98 1 (by decide), e98 2 (by decide), aM 53 (by decide) (nh _ (by decide)) (by decide), aM 110 (by decide) (nh _ (by decide)) (by decide), aM 56 (by decide) (nh _ (by decide)) (by decide), aM 127 (by decide) (nh _ (by decide)) (by decide), aM 128 (by decide) (nh _ (by decide)) (by decide), aM 129 (by decide) (nh _ (by decide)) (by decide)]
    refine ⟨n1, n2, n3, ⟨n4, n5, n6⟩, ⟨n7, n8, n9⟩, s1, s2, s3, fun i hi => ?_⟩
    have e107 : ∀ j, gA EC 107 j = gA E 107 j := fun j => congrFun (aC 107 (nh _ (by decide)) (by decide)) j
    have e58 : ∀ j, gA EM 58 j = if j = 0 then gA E 58 0 + 1 else gA E 58 j := fun j => by
      rw [mf_gA mf (by decide)]
      show gA EC 58 j = _
      rw [hd, gA_sA, gA_sI, fr_gA r1 (nh 58 (by decide)), gA_sI]
      by_cases y : j = 0
      · rw [if_pos ⟨rfl, y⟩, if_pos y]
      · rw [if_neg (fun w => y w.2), if_neg y]
    have e7 : gA EM 107 i = if i = 0 then gA E 107 0 + 1 else gA E 107 i := by
      rw [z3 i]
      show (if i = 0 then gA EC 107 0 + 1 else gA EC 107 i) = _
      rw [e107, e107]
    rw [e58, e7, s4 0 (by decide), s4 i hi]
  · rw [hsl]
    have h3 := h.2.2.1
    unfold ThR at *
    rw [hpc 60 (Or.inr rfl), iM 1416 0 (by decide) n0 (by decide) (by decide), i95 1600 (by decide), i95 1601 (by decide), i95 1602 (by decide), iM 514 60 (by decide) (nh _ (by decide)) (by decide) (by decide), iM 519 60 (by decide) (nh _ (by decide)) (by decide) (by decide), iM 386 65 (by decide) (nh _ (by decide)) (by decide) (by decide), iM 386 68 (by decide) (nh _ (by decide)) (by decide) (by decide), e98 1 (by decide), e98 2 (by decide), aM 67 (by decide) (nh _ (by decide)) (by decide), aM 70 (by decide) (nh _ (by decide)) (by decide), aM 72 (by decide) (nh _ (by decide)) (by decide), aM 130 (by decide) (nh _ (by decide)) (by decide), aM 131 (by decide) (nh _ (by decide)) (by decide), aM 132 (by decide) (nh _ (by decide)) (by decide), aM 133 (by decide) (nh _ (by decide)) (by decide), aM 134 (by decide) (nh _ (by decide)) (by decide), aM 135 (by decide) (nh _ (by decide)) (by decide)]
    exact h3
  · refine ⟨by decide, ?_, z1, fun i hi => absurd hi (Nat.not_lt_zero i)⟩
    rw [mf_gI2 mf (by decide)]
    show gI EC 1409 0 = _
    rw [hd, gI_sA, gI_sI, if_neg (by decide), fr_gI r1 n0, gI_sI, if_pos ⟨rfl, rfl⟩] <;> rfl
  · rw [z2, mf_gI2 mf (by decide)]
    show gI EC 1410 0 = _
    rw [hd, gI_sA, gI_sI, if_pos ⟨rfl, rfl⟩]
  · unfold KpR at *
    rw [iM 1418 0 (by decide) n0 (by decide) (by decide), i95 1594 (by decide), aM 74 (by decide) (nh _ (by decide)) (by decide), aM 124 (by decide) (nh _ (by decide)) (by decide)]
    exact hk
set_option maxHeartbeats 16000000 in
theorem o_bedO {E E2 EC EM : HP} {b L m k S t a : Nat} {B : BD} {R : List Int32} {ex : Int64} {T : TX} (h : RelN E b L m R k S t) (r : RdE (sI E 1409 0 0) E2 (25 - b)) (c5 : CR EC (25 - b)) (hst : CSt E2 T (25 - b) (.inr (a, B))) (hx : textS T = .inr (a, B)) (hEC : bedH b (25 - b) (bC B) E2 = EC) (mb : MBo (sL EC 136 0 ex) EM B) : gI EM 1538 95 = 0 ∧ gL EM 136 0 = ex ∧ Rel EM := by
  obtain ⟨hC, hM, hQ⟩ := rel_td h
  obtain ⟨n1, n2, n3, ⟨n4, n5, n6⟩, ⟨n7, n8, n9⟩, ⟨s1, s2, s3, s4⟩⟩ := id h.2.1
  have hb := hC.1
  have hb2 : 25 - b = 3 ∨ 25 - b = 22 := by omega
  obtain ⟨b2, hb3⟩ : ∃ b2, 25 - b = b2 := ⟨_, rfl⟩
  rw [hb3] at r c5 hst hEC hb2
  obtain ⟨r1, r2, r3⟩ := r
  obtain ⟨q1, q2, -, -, o1, o2, o3, o4, o5, o6, o7, o8, o9, o10, o11⟩ := hst
  obtain ⟨mf, y0, y1, y2, y3, y4, y5, y6, y7, y8, y9, y10, y11, w0, w1, w2, w3, w4, w5⟩ := mb
  obtain ⟨-, lr, -, ⟨m9, lm1, lm6, lm⟩, l0, l1, l3, ls⟩ := lv_text hx
  have dg := dg_text hx
  obtain ⟨l, hl⟩ : ∃ l, bC B = l := ⟨_, rfl⟩
  rw [hl] at o1 o2 o3 hEC w0 w5 ls
  have hl2 : B.1 = l := hl
  obtain ⟨E4, h4⟩ : ∃ E4, sR (sR (sI E2 1410 0 (gI E2 643 41)) 1411 0 (some b2)) 1412 0 (some b) = E4 := ⟨_, rfl⟩
  have i4 : ∀ g q, ¬ (g = 1410 ∧ q = 0) → gI E4 g q = gI E2 g q := fun g q z => by rw [← h4, gI_sR, gI_sR, gI_sI, if_neg z]
  have a4 : ∀ q, gA E4 q = gA E2 q := fun q => by rw [← h4]; rfl
  obtain ⟨f5, s5, t48, t50, t514, t515, t516, t517, t518, t519, t386, t3862⟩ := set_at (E := E4) hb2 o2
  obtain ⟨E5, h5⟩ : ∃ E5, stSettle 45 b2 l E4 = E5 := ⟨_, rfl⟩
  rw [h5] at f5 s5 t48 t50 t514 t515 t516 t517 t518 t519 t386 t3862
  have hd : EC = sI (sI E5 1416 0 0) 1418 0 (-1) := by
    rw [← hEC]
    unfold bedH
    rw [h4, h5]
  have iC : ∀ g q, q ≠ 0 → gI EC g q = gI E5 g q := fun g q z => by rw [hd, gI_sI, if_neg (fun y => z y.2), gI_sI, if_neg (fun y => z y.2)]
  have aC : ∀ q, gA EC q = gA E5 q := fun q => by rw [hd]; rfl
  -- as the reader left it
  have i5 : ∀ g q, q ≠ 0 → q < 46 → gI EC g q = gI E2 g q := fun g q z1 z2 => by rw [iC g q z1, fr_gI f5 (by omega), i4 _ _ (by omega)]
  have a5 : ∀ q, q ≠ 48 → q ≠ 50 → (q < 46 ∨ 54 < q ∨ q = 53) → gA EC q = gA E2 q := fun q z1 z2 z3 => by rw [aC q, fr_gA f5 (by omega), a4]
  have no : ∀ q, 42 < q → ¬ RdP b2 q := fun q z => by unfold RdP; omega
  have n0 : ¬ RdP b2 0 := by unfold RdP; omega
  have i6 : ∀ g q, 54 < q → gI EC g q = gI E g q := fun g q z => by rw [iC g q (by omega), fr_gI f5 (by omega), i4 _ _ (by omega), fr_gI r1 (no q (by omega)), gI_sI, if_neg (by omega)]
  have a6 : ∀ q, 54 < q → gA EC q = gA E q := fun q z => by rw [a5 q (by omega) (by omega) (by omega), fr_gA r1 (no q (by omega))]; rfl
  have hgQ : gQ EC = gQ E := by
    have e : gQ EC = gQ E4 := by
      rw [hd]
      exact s5.2
    rw [e, ← h4]
    exact r3
  have hMC : MoOK EC := fun q hq => by
    have hq2 : q.2 = q.2 := rfl
    have e : gR EC q.1 95 = gR E4 q.1 95 := by
      rw [hd]
      show gR E5 q.1 95 = gR E4 q.1 95
      unfold gR
      rw [s5.1]
    rw [e, ← h4, gR_sR, if_neg (by omega), gR_sR, if_neg (by omega)]
    exact (r2 q.1 95 (by omega) (by omega)).trans (hM q hq)
  have hQC : QS EC := ⟨fun i hi => by rw [hgQ]; exact hQ.1 i hi, fun i hi => by rw [hgQ]; exact hQ.2 i hi⟩
  have gL9 : gL EM 136 0 = ex := by rw [mf_gL mf, gL_sL, if_pos ⟨rfl, rfl⟩]
  have iM : ∀ g q, q ≠ 95 → gI EM g q = gI EC g q := fun g q z => (mf_gI2 mf z).trans (gI_sL EC _ _ _ _ _)
  have aM : ∀ q, q ∉ 109 :: asP → gA EM q = gA EC q := fun q z => (mf_gA mf z).trans (gA_sL EC _ _ _ _)
  have hsl : ∀ j s, 1 ≤ j → j ≤ 7 → s < l → slC EM b2 j s = bL B j s := fun j s j1 j7 hs => by
    rw [slC_lt (by omega), iM _ _ (by omega), i5 _ _ (by omega) (by omega)]
    exact o3 s hs j j1 j7
  have hcr : CR EM b2 := cr_mf mf (cr_sr ⟨rfl, rfl⟩ c5)
  have x5 : gI EM 5 b2 = bX B 0 := by rw [iM _ _ (by omega), i5 _ _ (by omega) (by omega)]; exact o5 0 (by decide)
  have x6 : gI EM 6 b2 = bX B 1 := by rw [iM _ _ (by omega), i5 _ _ (by omega) (by omega)]; exact o5 1 (by decide)
  have x7 : gI EM 7 b2 = bX B 2 := by rw [iM _ _ (by omega), i5 _ _ (by omega) (by omega)]; exact o5 2 (by decide)
  have x8 : gI EM 8 b2 = bX B 3 := by rw [iM _ _ (by omega), i5 _ _ (by omega) (by omega)]; exact o5 3 (by decide)
  have x9 : gI E2 9 b2 = bX B 4 := o5 4 (by decide)
  have x10 : gI EM 10 b2 = nI (bN B) := by rw [iM _ _ (by omega), i5 _ _ (by omega) (by omega)]; exact o7
  have v1 : gA EM 98 1 = bX B 0 := w1 0 (by decide)
  have v2 : gA EM 98 2 = bX B 1 := w1 1 (by decide)
  have v3 : gA EM 98 3 = bX B 2 := w1 2 (by decide)
  have v4 : gA EM 98 4 = bX B 3 := w1 3 (by decide)
  refine ⟨y0, gL9, b2, l, m9, bR B, 0, 0, 0, ⟨⟨⟨hcr, mf_mo mf hMC, qs_mf mf hQC, o2, ⟨?_, o10, fun i hi => ?_, lr⟩, ?_⟩, ⟨?_, w0⟩, ⟨lm1, lm6, x7.trans lm, v3.trans lm⟩, ⟨x5.trans v1.symm, x6.trans v2.symm, x10.trans w2.symm, x8.trans v4.symm, by rw [x8]; exact l3⟩, ⟨w3, w4⟩, fun s hs => ?_⟩, ?_, ?_, ?_, ?_⟩, ?_⟩
  · rw [iM _ _ (by omega), i5 _ _ (by omega) (by omega)]; exact o9
  · show gA EM (b2 + 7) i = _
    rw [aM _ (by simp; omega), a5 _ (by omega) (by omega) (by omega)]
    exact o11 i hi
  · rw [iM _ _ (by decide), i6 _ _ (by decide)]; exact h.1.1.2.2.2.2.2
  · rw [iM _ _ (by omega), i5 _ _ (by omega) (by omega)]; exact o1
  · obtain ⟨g1, g2, g3, g4, g5, g6, g7, g8⟩ := w5 s hs
    obtain ⟨k1, k2, k3, k4, k5, k6, k7⟩ := ls s hs
    rw [hsl 1 s (by decide) (by decide) hs, hsl 2 s (by decide) (by decide) hs, hsl 3 s (by decide) (by decide) hs, hsl 4 s (by decide) (by decide) hs, hsl 5 s (by decide) (by decide) hs, hsl 7 s (by decide) (by decide) hs]
    refine ⟨g1, g2, g3, g4, g5, g7, ?_, k2, k3, k7⟩
    rw [g8, aM _ (by simp; omega), a5 _ (by omega) (by omega) (by omega)]
    exact o4 s (by omega)
  · refine now_0 hb2 o2 ?_ ?_ (fun i hi => ?_) (fun i hi => ⟨?_, ?_, ?_⟩) ?_ ?_ ?_ ?_ y3 y4 y5 y6 ?_ ?_ y8 ?_ ?_ y9 (fun i hi => ?_)
    · rw [iM _ _ (by decide), iC _ _ (by decide), t514, i4 _ _ (by omega)]; exact o1
    · rw [iM _ _ (by decide), iC _ _ (by decide), t519, free_all (wd := gA EM 98 1) (ro := gA EM 98 2) hb2 o2 (by rw [i4 _ _ (by omega), v1]; exact o5 0 (by decide)) (by rw [i4 _ _ (by omega), v2]; exact o5 1 (by decide))]
      unfold freW
      rw [wid_sm, wid_sm, sm_cg (f := fun i => slC E4 b2 5 (nI i).toNatClampNeg) (g := fun i => slC EM b2 5 (nI i).toNatClampNeg) l (fun i hi => ?_)]
      rw [nI_clamp (by omega), hsl 5 i (by decide) (by decide) hi, slC_lt (by omega), i4 _ _ (by omega)]
      exact o3 i hi 5 (by decide) (by decide)
    · rw [aM _ (by decide), aC]; exact t48 i hi
    · rw [aM 50 (by decide), aC, t50 i hi, i4 _ _ (by omega), (w5 i hi).2.2.2.2.2.1]
      exact o3 i hi 6 (by decide) (by decide)
    · rw [(w5 i hi).2.2.2.2.2.1]; exact (ls i hi).2.2.2.2.2.1
    · rw [hsl 1 i (by decide) (by decide) hi, (w5 i hi).2.2.2.2.2.1]
      exact dg i (by rw [hl2]; exact hi)
    · rw [iM _ _ (by decide), iC _ _ (by decide)]; exact t515
    · rw [iM _ _ (by decide), iC _ _ (by decide)]; exact t516
    · rw [iM _ _ (by decide), iC _ _ (by decide)]; exact t517
    · rw [iM _ _ (by decide), iC _ _ (by decide), t518, i4 _ _ (by omega), y7]; exact x9
    · rw [iM _ _ (by decide), iC _ _ (by decide)]; exact t386
    · rw [iM _ _ (by decide), iC _ _ (by decide), ← n5]
      have e : gI E5 384 51 = gI E4 384 51 := by
        rw [← h5]
        unfold stSettle
        rw [gI_sI, if_neg (by decide), gI_sI, if_neg (by decide)]
        unfold plSettle
        rw [gI_sI, if_neg (by decide)]
        unfold plSet2 plSay plSet1
        rw [gI_sI, if_neg (by decide), gI_sI, if_neg (by decide), gI_sI, if_neg (by decide), gI_sI, if_neg (by decide), gI_sI, if_neg (by decide), gI_outs]
        exact fr_gI (P := fun k => k = 48) (fr_up (P := fun k => k = 48) (g := 47) rfl fr_rfl) (by decide) _
      rw [e, i4 _ _ (by decide), fr_gI r1 (no 51 (by decide)), gI_sI, if_neg (by decide)]
    · rw [iM _ _ (by decide), iC _ _ (by decide)]; exact t3862
    · rw [iM _ _ (by decide), iC _ _ (by decide), ← n8]
      have e : gI E5 384 54 = gI E4 384 54 := by
        rw [← h5]
        unfold stSettle
        rw [gI_sI, if_neg (by decide), gI_sI, if_neg (by decide)]
        unfold plSettle
        rw [gI_sI, if_neg (by decide)]
        unfold plSet2 plSay plSet1
        rw [gI_sI, if_neg (by decide), gI_sI, if_neg (by decide), gI_sI, if_neg (by decide), gI_sI, if_neg (by decide), gI_sI, if_neg (by decide), gI_outs]
        exact fr_gI (P := fun k => k = 48) (fr_up (P := fun k => k = 48) (g := 47) rfl fr_rfl) (by decide) _
      rw [e, i4 _ _ (by decide), fr_gI r1 (no 54 (by decide)), gI_sI, if_neg (by decide)]
    · rw [aM 58 (by decide), aM 107 (by decide), a6 58 (by decide), a6 107 (by decide)]; exact s4 i hi
  · refine Or.inl ⟨?_, y11⟩
    rw [iM _ _ (by decide), hd, gI_sI, if_neg (by decide), gI_sI, if_pos ⟨rfl, rfl⟩]
  · refine ⟨by decide, ?_, y1, fun i hi => absurd hi (Nat.not_lt_zero i)⟩
    rw [iM _ _ (by decide), hd, gI_sI, if_neg (by decide), gI_sI, if_neg (by decide), fr_gI f5 (by decide), i4 _ _ (by decide), fr_gI r1 n0, gI_sI, if_pos ⟨rfl, rfl⟩] <;> rfl
  · rw [y2, iM _ _ (by decide), hd, gI_sI, if_neg (by decide), gI_sI, if_neg (by decide), fr_gI f5 (by decide), ← h4, gI_sR, gI_sR, gI_sI, if_pos ⟨rfl, rfl⟩]
    exact q2
  · refine Or.inl ⟨?_, y10⟩
    rw [iM _ _ (by decide), hd, gI_sI, if_pos ⟨rfl, rfl⟩]
set_option maxHeartbeats 16000000 in
theorem o_bed {E : HP} {b L m k S t : Nat} {R : List Int32} {x : Int32} (h : RelN E b L m R k S t) (hk : KpR E L) : OpB [.int x] E := by
  have ci := (ci_of h).1
  obtain ⟨hC, hM, hQ⟩ := rel_td h
  obtain ⟨t6, t1, t2, t3⟩ := h.2.2.2.1
  by_cases hx : inC x (nI t)
  rotate_left
  · have hcl := x_bed (d := 0) ci t1 hx
    obtain ⟨E3, a3, hm⟩ := m_bedX (d := 0) hM t2 hx
    exact Or.inr ⟨E, hcl, 0, E3, hm, a3.2, b, L, m, R, k, S, t, rel_aq h a3, kp_aq hk a3⟩
  obtain ⟨n, hn, rfl⟩ := inC_nI hx (by omega)
  have hT : TXok ((fun i => gA E 2 i, n) : TX) := ⟨by show n ≤ 600; omega, fun i hi => by
    have hi : i < n := hi
    obtain ⟨-, j, hj, e⟩ := t3 i (by omega)
    exact ⟨j, by omega, e⟩⟩
  have hmo : ∀ EC : HP, ∀ ex : Int64, MoOK EC → QS EC → gI EC 1550 95 = nI t → (∀ i, i < t → gA EC 108 i = gA E 2 i) → ∃ o, ((∃ E2 f p, o = (.inl (some (.int (nI f))), E2, 137) ∧ textS ((fun i => gA E 2 i, n) : TX) = .inl (f, p) ∧ 1 ≤ f ∧ f ≤ 5 ∧ MBx (sL EC 136 0 ex) E2 f p) ∨ (∃ E2 a B, o = (.inl (some (.int 0)), E2, 137) ∧ textS ((fun i => gA E 2 i, n) : TX) = .inr (a, B) ∧ MBo (sL EC 136 0 ex) E2 B)) ∧ Cl yX12_bed mX12_bed 60 0 0 [.ref 95, .int (nI n)] (sL EC 136 0 ex) 137 o := fun EC ex g1 g2 g3 g4 => m_bed (d := 0) (E := sL EC 136 0 ex) (T := ((fun i => gA E 2 i, n) : TX)) g1 g2 g3 t6 hn rfl (fun i hi => g4 i (by have hi : i < n := hi; omega)) hT
  have nr95 : ∀ q, 94 < q → ¬ RdP (25 - b) q := fun q z => by have := hC.1; unfold RdP; omega
  cases hz : textS ((fun i => gA E 2 i, n) : TX) with
  | inl q =>
    obtain ⟨f, p⟩ := q
    obtain ⟨_, ⟨E2, rfl, r, c2, hst⟩, hcl⟩ := c_bedX (d := 0) ci t1 t6 hn hT hz
    obtain ⟨EC, hEC⟩ : ∃ EC, stRefuse 45 0 (sI E2 1410 0 (gI E2 643 41)) = EC := ⟨_, rfl⟩
    rw [hEC] at hcl
    have fC : Fr (fun q => q = 0 ∨ q = 58) E2 EC := by rw [← hEC]; exact fr_put (h := 57) (Or.inr rfl) (fr_sI (Or.inl rfl) fr_rfl)
    have sC : SR E2 EC := by rw [← hEC]; exact sr_stRefuse (sr_sI sr_rfl)
    obtain ⟨_, hor, hm⟩ := hmo EC (nI f).toInt64 (fun q hq => sr_gR sC ((r.2.1 q.1 95 (by omega) (by omega)).trans (hM q hq))) ⟨fun i hi => sr_gQ sC (by rw [r.2.2]; exact hQ.1 i hi), fun i hi => sr_gQ sC (by rw [r.2.2]; exact hQ.2 i hi)⟩ (by rw [fr_gI fC (by decide), fr_gI r.1 (nr95 95 (by decide))]; exact t2) (fun i hi => by rw [fr_gA fC (by decide), fr_gA r.1 (nr95 108 (by decide))]; exact (t3 i hi).1)
    rcases hor with ⟨EM, f9, p9, rfl, e9, -, -, mb⟩ | ⟨EM, a9, B9, -, e9, -⟩
    · rw [hz] at e9
      have e9 := Sum.inl.inj e9
      cases e9
      have fin := o_bedF (ex := (nI f).toInt64) h hk r c2 hst hEC mb
      exact Or.inl ⟨_, EC, 0, 0, by decide, by decide, hcl, EM, hm, fin⟩
    · rw [hz] at e9; cases e9
  | inr q =>
    obtain ⟨a, B⟩ := q
    obtain ⟨_, ⟨E2, rfl, r, c2, c5, hst⟩, hcl⟩ := c_bed (d := 0) ci t1 t6 hn hT hz
    obtain ⟨EC, hEC⟩ : ∃ EC, bedH b (25 - b) (bC B) E2 = EC := ⟨_, rfl⟩
    rw [hEC] at hcl c5
    have l7 : bC B ≤ 7 := by
      obtain ⟨-, -, -, -, -, z, -⟩ := id hst
      exact z
    have hb2 : 25 - b = 3 ∨ 25 - b = 22 := by have := hC.1; omega
    obtain ⟨E4, h4⟩ : ∃ E4, sR (sR (sI E2 1410 0 (gI E2 643 41)) 1411 0 (some (25 - b))) 1412 0 (some b) = E4 := ⟨_, rfl⟩
    obtain ⟨f5, s5, -⟩ := set_at (E := E4) hb2 l7
    have hd : EC = sI (sI (stSettle 45 (25 - b) (bC B) E4) 1416 0 0) 1418 0 (-1) := by
      rw [← hEC]
      unfold bedH
      rw [h4]
    have fC : ∀ q, 94 < q → (∀ g, gI EC g q = gI E2 g q) ∧ gA EC q = gA E2 q := fun q z => by
      refine ⟨fun g => ?_, ?_⟩
      · rw [hd, gI_sI, if_neg (by omega), gI_sI, if_neg (by omega), fr_gI f5 (by omega), ← h4, gI_sR, gI_sR, gI_sI, if_neg (by omega)]
      · rw [hd]
        show gA (stSettle 45 (25 - b) (bC B) E4) q = _
        rw [fr_gA f5 (by omega), ← h4]; rfl
    have gRC : ∀ g, gR EC g 95 = gR E2 g 95 := fun g => by
      rw [hd]
      show gR (stSettle 45 (25 - b) (bC B) E4) g 95 = _
      have e : gR (stSettle 45 (25 - b) (bC B) E4) g 95 = gR E4 g 95 := by unfold gR; rw [s5.1]
      rw [e, ← h4, gR_sR, if_neg (by omega), gR_sR, if_neg (by omega)]
      rfl
    have gQC : gQ EC = gQ E2 := by
      rw [hd]
      show gQ (stSettle 45 (25 - b) (bC B) E4) = _
      have e : gQ (stSettle 45 (25 - b) (bC B) E4) = gQ E4 := s5.2
      rw [e, ← h4]; rfl
    obtain ⟨_, hor, hm⟩ := hmo EC (0 : Int32).toInt64 (fun q hq => (gRC q.1).trans ((r.2.1 q.1 95 (by omega) (by omega)).trans (hM q hq))) ⟨fun i hi => by rw [gQC, r.2.2]; exact hQ.1 i hi, fun i hi => by rw [gQC, r.2.2]; exact hQ.2 i hi⟩ (by rw [(fC 95 (by decide)).1, fr_gI r.1 (nr95 95 (by decide))]; exact t2) (fun i hi => by rw [(fC 108 (by decide)).2, fr_gA r.1 (nr95 108 (by decide))]; exact (t3 i hi).1)
    rcases hor with ⟨EM, f9, p9, -, e9, -⟩ | ⟨EM, a9, B9, rfl, e9, mb⟩
    · rw [hz] at e9; cases e9
    · rw [hz] at e9
      have e9 := Sum.inr.inj e9
      cases e9
      have fin := o_bedO (ex := (0 : Int32).toInt64) h r c5 hst hz hEC mb
      exact Or.inl ⟨_, EC, 0, 0, by decide, by decide, hcl, EM, hm, fin⟩
