/-! The ACTS: frames, piles, the chain of what was -/
abbrev gsNw : List Nat := [1538, 1562, 1563, 1564, 1565, 1566, 1567]
abbrev asNw : List Nat := [103, 107, 109, 110, 127, 128, 129]
/-- what an ACT leaves -/
def FrN (b : Nat) (E E2 : HP) : Prop := CR E2 b ∧ MoOK E2 ∧ QS E2 ∧ (∀ g, gI E2 g 0 = gI E g 0) ∧ gA E2 74 = gA E 74 ∧ (∀ k, ((0 < k ∧ k < 46) ∨ (59 ≤ k ∧ k < 74) ∨ k = 87) → (∀ g, gI E2 g k = gI E g k) ∧ gA E2 k = gA E k) ∧ (∀ g, g ∉ gsNw → gI E2 g 95 = gI E g 95) ∧ ∀ a, 97 < a → a ∉ asNw → gA E2 a = gA E a
theorem frn_tr {b : Nat} {E E2 E3 : HP} (h : FrN b E E2) (h2 : FrN b E2 E3) : FrN b E E3 := ⟨h2.1, h2.2.1, h2.2.2.1, fun g => (h2.2.2.2.1 g).trans (h.2.2.2.1 g), h2.2.2.2.2.1.trans h.2.2.2.2.1, fun k z => ⟨fun g => ((h2.2.2.2.2.2.1 k z).1 g).trans ((h.2.2.2.2.2.1 k z).1 g), ((h2.2.2.2.2.2.1 k z).2).trans (h.2.2.2.2.2.1 k z).2⟩, fun g z => (h2.2.2.2.2.2.2.1 g z).trans (h.2.2.2.2.2.2.1 g z), fun a z1 z2 => (h2.2.2.2.2.2.2.2 a z1 z2).trans (h.2.2.2.2.2.2.2 a z1 z2)⟩
def PNow (k : Nat) : Prop := 46 ≤ k ∧ k ≤ 58
theorem frn_cls {b : Nat} {E E2 : HP} (hc : CR E b) (hM : MoOK E) (hQ : QS E) (f : Fr PNow E E2) (s : SR E E2) : FrN b E E2 := ⟨cr_sr s hc, fun q hq => sr_gR s (hM q hq), ⟨fun i hi => sr_gQ s (hQ.1 i hi), fun i hi => sr_gQ s (hQ.2 i hi)⟩, fun g => fr_gI f (by unfold PNow; omega) g, fr_gA f (by unfold PNow; omega), fun k z => ⟨fun g => fr_gI f (by unfold PNow; omega) g, fr_gA f (by unfold PNow; omega)⟩, fun g _ => fr_gI f (by unfold PNow; omega) g, fun a ha _ => fr_gA f (by unfold PNow; omega)⟩
theorem frn_mf {b : Nat} {E E2 : HP} (hc : CR E b) (hM : MoOK E) (hQ : QS E) (h : MF gsNw asNw E E2) : FrN b E E2 := by
  have hlo : ∀ a, a ∈ asNw → 97 < a := by decide
  refine ⟨cr_mf h hc, mf_mo h hM, qs_mf h hQ, fun g => mf_gI2 h (by decide), mf_gA h (by decide), fun k z => ⟨fun g => mf_gI2 h (by omega), mf_gA h (fun y => by have := hlo k y; omega)⟩, fun g hg => mf_gI h hg, fun a _ ha => mf_gA h ha⟩
theorem frn_sl {b : Nat} {E E2 : HP} (f : FrN b E E2) : slC E2 b = slC E b := by
  have hb := f.1.1
  funext j s
  unfold slC
  by_cases h : s < 7
  · rw [if_pos h, if_pos h, (f.2.2.2.2.2.1 _ (by omega)).1]
  · rw [if_neg h, if_neg h]
theorem td_lN : ∀ q ∈ tdL, 97 < q.1 ∧ q.1 ∉ asNw := by decide
theorem frn_td {b : Nat} {E E2 : HP} (f : FrN b E E2) : TdC b E E2 := by
  have hsl := frn_sl f
  obtain ⟨f1, f2, f3, f4, f5, f6, f7, f8⟩ := f
  have hb := f1.1
  exact ⟨f1, f2, f3, hsl, fun g _ => (f6 b (by omega)).1 g, (f6 _ (by omega)).1 _, (f6 87 (by omega)).1 _, (f6 _ (by omega)).2, (f6 _ (by omega)).2, fun q hq i _ => congrFun (f8 q.1 (td_lN q hq).1 (td_lN q hq).2) i⟩
/-- all but how it stands now goes over -/
theorem rel_now {E E2 : HP} {b L m k S t k2 S2 : Nat} {R : List Int32} (h : RelN E b L m R k S t) (hk : KpR E L) (f : FrN b E E2) (hN : NoR E2 L (slC E b) k2 S2) : Rel E2 := by
  have htd := frn_td f
  have hsl := frn_sl f
  obtain ⟨f1, f2, f3, f4, f5, f6, f7, f8⟩ := f
  have fi : ∀ k, ((0 < k ∧ k < 46) ∨ (59 ≤ k ∧ k < 74) ∨ k = 87) → ∀ g, gI E2 g k = gI E g k := fun k z => (f6 k z).1
  have fa : ∀ k, ((0 < k ∧ k < 46) ∨ (59 ≤ k ∧ k < 74) ∨ k = 87) → gA E2 k = gA E k := fun k z => (f6 k z).2
  have hpc : pcF E2 60 = pcF E 60 := pc_cg (fa _ (by omega)) (fa _ (by omega)) (fi 60 (by omega))
  obtain ⟨h1, -, h3, h4, h5⟩ := h
  refine ⟨b, L, m, R, k2, S2, t, ⟨td_cg h1 htd, by rw [hsl]; exact hN, ?_, ?_, ?_⟩, ?_⟩
  · unfold ThR at *
    rw [hsl, hpc, f4 1416, f7 1600 (by decide), f7 1601 (by decide), f7 1602 (by decide), fi 60 (by omega), fi 60 (by omega), fi 65 (by omega), fi 68 (by omega), f8 98 (by decide) (by decide), fa 67 (by omega), fa 70 (by omega), fa 72 (by omega), f8 130 (by decide) (by decide), f8 131 (by decide) (by decide), f8 132 (by decide) (by decide), f8 133 (by decide) (by decide), f8 134 (by decide) (by decide), f8 135 (by decide) (by decide)]
    exact h3
  · unfold TpR at *
    rw [f4 1409, f7 1550 (by decide), fa 2 (by omega), f8 108 (by decide) (by decide)]
    exact h4
  · rw [f4 1410, f7 1559 (by decide)]
    exact h5
  · unfold KpR at *
    rw [f4 1418, f7 1594 (by decide), f5, f8 124 (by decide) (by decide)]
    exact hk
/-! piles -/
theorem fr_add {P : Nat → Prop} {E E2 : HP} {h l k most : Nat} {a b c : Int32} (h1 : P h) (h2 : P (h + 2)) (q : Fr P E E2) : Fr P E (piAdd h l k most a b c E2) := by
  have h3 : ∀ E3, Fr P E E3 → Fr P E (piPut3 E3 h l a b c) := fun E3 z => fr_put (h := h + 1) h2 (fr_put (h := h + 1) h2 (fr_put (h := h + 1) h2 z))
  unfold piAdd
  split
  · exact fr_sI h1 (h3 _ q)
  · refine fr_sI h1 (h3 _ ?_)
    exact fr_sI h1 (fr_it (f := fun k E => piDrop1 h l E (3 + k)) (fun i E3 => fr_put (h := h + 1) h2 fr_rfl) q _)
set_option maxHeartbeats 16000000 in
theorem drop_at {h l j : Nat} {E : HP} (hl : l < 100000) : ∀ n, n + 3 ≤ l → gA (piDropL h l n E) (h + 2) j = if j < n then gA E (h + 2) (j + 3) else gA E (h + 2) j := by
  intro n
  induction n with
  | zero => intro _; rw [if_neg (by omega)]; rfl
  | succ n ih =>
    intro hn
    have e0 := ih (by omega)
    show gA (piDrop1 h l (piDropL h l n E) (3 + n)) (h + 2) j = _
    have e1 : nI (3 + n) - 3 = nI n := by
      have := nI_dif (x := 3 + n) (y := 3) (by omega)
      rw [show 3 + n - 3 = n by omega] at this
      exact this
    unfold piDrop1
    rw [e1, rPut_nI (by omega) hl, rAt_nI (by omega) hl, gA_sA]
    have e2 : gA (piDropL h l n E) (h + 1 + 1) (3 + n) = gA E (h + 2) (3 + n) := by
      have : ∀ i, n ≤ i → gA (piDropL h l n E) (h + 2) i = gA E (h + 2) i := fun i hi => by
        have : ∀ m, m ≤ n → gA (piDropL h l m E) (h + 2) i = gA E (h + 2) i := by
          intro m
          induction m with
          | zero => intro _; rfl
          | succ m ihm =>
            intro hm
            show gA (piDrop1 h l (piDropL h l m E) (3 + m)) (h + 2) i = _
            have e3 : nI (3 + m) - 3 = nI m := by
              have := nI_dif (x := 3 + m) (y := 3) (by omega)
              rw [show 3 + m - 3 = m by omega] at this
              exact this
            unfold piDrop1
            rw [e3, rPut_nI (by omega) hl, gA_sA, if_neg (fun z => by omega)]
            exact ihm (by omega)
        exact this n (Nat.le_refl _)
      exact this (3 + n) (by omega)
    rw [e2]
    by_cases z : j = n
    · rw [if_pos ⟨rfl, z⟩, if_pos (by omega), z, Nat.add_comm 3 n]
    · rw [if_neg (fun y => z y.2), e0]
      by_cases y : j < n
      · rw [if_pos y, if_pos (by omega)]
      · rw [if_neg y, if_neg (by omega)]
theorem put3_at {h l n j : Nat} {E : HP} {a b c : Int32} (hk : gI E 386 h = nI n) (hl : 3 * n + 3 ≤ l) (hl2 : l < 100000) : gA (piPut3 E h l a b c) (h + 2) j = if j = 3 * n + 2 then c else if j = 3 * n + 1 then b else if j = 3 * n then a else gA E (h + 2) j := by
  have m3 : nI n * 3 = nI (3 * n) := by rw [nI_mul3, Nat.mul_comm]
  unfold piPut3
  rw [hk, m3, show nI (3 * n) + 1 = nI (3 * n + 1) from nI_pp _, show nI (3 * n) + 2 = nI (3 * n + 2) from add_nI _ 2, rPut_nI (by omega) hl2, rPut_nI (by omega) hl2, rPut_nI (by omega) hl2, gA_sA, gA_sA, gA_sA]
  by_cases e1 : j = 3 * n + 2
  · rw [if_pos ⟨rfl, e1⟩, if_pos e1]
  · rw [if_neg (fun z => e1 z.2), if_neg e1]
    by_cases e2 : j = 3 * n + 1
    · rw [if_pos ⟨rfl, e2⟩, if_pos e2]
    · rw [if_neg (fun z => e2 z.2), if_neg e2]
      by_cases e3 : j = 3 * n
      · rw [if_pos ⟨rfl, e3⟩, if_pos e3]
      · rw [if_neg (fun z => e3 z.2), if_neg e3]
theorem gI_put3 {h l g q : Nat} {E : HP} {a b c : Int32} : gI (piPut3 E h l a b c) g q = gI E g q := by
  unfold piPut3
  rw [gI_rPut, gI_rPut, gI_rPut]
/-- a pile of at most 40: one more entry; of 40 the oldest goes -/
def adF (ca : Nat → Int32) (k most : Nat) (a b c : Int32) (j : Nat) : Int32 := if k = most then (if j = 3 * most - 1 then c else if j = 3 * most - 2 then b else if j = 3 * most - 3 then a else ca (j + 3)) else (if j = 3 * k + 2 then c else if j = 3 * k + 1 then b else if j = 3 * k then a else ca j)
theorem add_at {h k most j : Nat} {E : HP} {a b c : Int32} (hk : gI E 386 h = nI k) (h1 : k ≤ most) (h2 : 1 ≤ most) (h3 : most ≤ 40) (hj : j < 3 * most) : gA (piAdd h (3 * most) k most a b c E) (h + 2) j = adF (gA E (h + 2)) k most a b c j ∧ gI (piAdd h (3 * most) k most a b c E) 386 h = nI (if k = most then most else k + 1) := by
  unfold piAdd adF
  by_cases e : k = most
  · subst e
    rw [if_neg (Nat.lt_irrefl _), if_pos rfl, if_pos rfl]
    obtain ⟨m9, hm9⟩ : ∃ m9, k = m9 + 1 := ⟨k - 1, by omega⟩
    have hs : gI (piDrop h (3 * k) k E) 386 h = nI m9 := by
      unfold piDrop
      rw [gI_sI, if_pos ⟨rfl, rfl⟩, hk, hm9, nI_pred]
    refine ⟨?_, ?_⟩
    · show gA (piPut3 (piDrop h (3 * k) k E) h (3 * k) a b c) (h + 2) j = _
      rw [put3_at hs (by omega) (by omega), show 3 * k - 1 = 3 * m9 + 2 by omega, show 3 * k - 2 = 3 * m9 + 1 by omega, show 3 * k - 3 = 3 * m9 by omega]
      by_cases c1 : j = 3 * m9 + 2
      · rw [if_pos c1, if_pos c1]
      rw [if_neg c1, if_neg c1]
      by_cases c2 : j = 3 * m9 + 1
      · rw [if_pos c2, if_pos c2]
      rw [if_neg c2, if_neg c2]
      by_cases c3 : j = 3 * m9
      · rw [if_pos c3, if_pos c3]
      rw [if_neg c3, if_neg c3]
      show gA (piDropL h (3 * k) (k * 3 - 3) E) (h + 2) j = _
      rw [drop_at (by omega) _ (by omega), if_pos (by omega)]
    · rw [gI_sI, if_pos ⟨rfl, rfl⟩, hs, nI_pp, hm9]
  · rw [if_pos (by omega), if_neg e, if_neg e]
    refine ⟨?_, ?_⟩
    · show gA (piPut3 E h (3 * most) a b c) (h + 2) j = _
      rw [put3_at hk (by omega) (by omega)]
    · rw [gI_sI, if_pos ⟨rfl, rfl⟩, hk, nI_pp]
theorem undo_cg {a o t : Int32} {v v2 w w2 : Nat → Int32} (h : UndoR a o t v w) (e1 : ∀ q, q < 18 → v2 q = v q) (e2 : ∀ q, q < 18 → w2 q = w q) : UndoR a o t v2 w2 := by
  rcases h with ⟨h0, i, j, hi, hj, ho, ht, hw⟩ | ⟨h0, hw⟩ | ⟨h0, hw⟩ | ⟨h0, p, p1, p6, ho, hw⟩ | ⟨h0, s, hs, ho, hw⟩
  · exact Or.inl ⟨h0, i, j, hi, hj, ho, ht, fun q hq => by rw [e2 q hq, e1 i (by omega), e1 j (by omega), e1 q hq]; exact hw q hq⟩
  · exact Or.inr (Or.inl ⟨h0, fun q hq => by rw [e2 q hq, e1 q hq]; exact hw q hq⟩)
  · exact Or.inr (Or.inr (Or.inl ⟨h0, fun q hq => by rw [e2 q hq, e1 q hq]; exact hw q hq⟩))
  · exact Or.inr (Or.inr (Or.inr (Or.inl ⟨h0, p, p1, p6, ho, fun q hq => by rw [e2 q hq, e1 q hq, e1 17 (by decide)]; exact hw q hq⟩)))
  · exact Or.inr (Or.inr (Or.inr (Or.inr ⟨h0, s, hs, ho, fun q hq => by rw [e2 q hq, e1 q hq]; exact hw q hq⟩)))
set_option maxHeartbeats 16000000 in
/-- one ACT more -/
theorem acr_add {L k : Nat} {sl : Nat → Nat → Int32} {ca ca2 ma ma2 v v2 : Nat → Int32} {a o t : Int32} (h7 : L ≤ 7) (h : AcR L sl k ca ma v) (hv : OKp L sl v) (hu : UndoR a o t v2 v) (h1 : ∀ j, j < 120 → ca2 j = adF ca k 40 a o t j) (h2 : ∀ i, ma2 i = if k = 40 then (if 702 ≤ i ∧ i < 720 then v (i - 702) else if i < 702 then ma (i + 18) else ma i) else (if 18 * k ≤ i ∧ i < 18 * k + 18 then v (i - 18 * k) else ma i)) : AcR L sl (keN k) ca2 ma2 v2 := by
  obtain ⟨k4, P, p1, p2⟩ := h
  unfold keN
  by_cases e : k = 40
  · subst e
    rw [if_pos rfl]
    have g : ∀ j, adF ca 40 40 a o t j = if j = 119 then t else if j = 118 then o else if j = 117 then a else ca (j + 3) := fun j => by
      unfold adF
      rw [if_pos rfl]
    refine ⟨Nat.le_refl _, fun i => if i < 40 then P (i + 1) else v2, fun j _ => ?_, fun i hi => ?_⟩
    · show (if 40 < 40 then P (40 + 1) else v2) j = v2 j
      rw [if_neg (by decide)]
    show OKp L sl (if i < 40 then P (i + 1) else v2) ∧ (∀ j, j < 18 → ma2 (18 * i + j) = (if i < 40 then P (i + 1) else v2) j) ∧ UndoR (ca2 (3 * i)) (ca2 (3 * i + 1)) (ca2 (3 * i + 2)) (if i + 1 < 40 then P (i + 1 + 1) else v2) (if i < 40 then P (i + 1) else v2)
    rw [if_pos hi]
    by_cases z : i = 39
    · subst z
      refine ⟨okp_cg h7 hv p1, fun j hj => ?_, ?_⟩
      · rw [h2, if_pos rfl, if_pos ⟨by omega, by omega⟩, show 18 * 39 + j - 702 = j by omega]
        exact (p1 j hj).symm
      · have e0 : ca2 (3 * 39) = a := by rw [h1 _ (by decide), g, if_neg (by decide), if_neg (by decide), if_pos (by decide)]
        have e1 : ca2 (3 * 39 + 1) = o := by rw [h1 _ (by decide), g, if_neg (by decide), if_pos (by decide)]
        have e2 : ca2 (3 * 39 + 2) = t := by rw [h1 _ (by decide), g, if_pos (by decide)]
        rw [e0, e1, e2, if_neg (by decide)]
        exact undo_cg hu (fun _ _ => rfl) p1
    · obtain ⟨q1, q2, q3⟩ := p2 (i + 1) (by omega)
      refine ⟨q1, fun j hj => ?_, ?_⟩
      · rw [h2, if_pos rfl, if_neg (by omega), if_pos (by omega), show 18 * i + j + 18 = 18 * (i + 1) + j by omega]
        exact q2 j hj
      · have e0 : ca2 (3 * i) = ca (3 * (i + 1)) := by rw [h1 _ (by omega), g, if_neg (by omega), if_neg (by omega), if_neg (by omega), show 3 * i + 3 = 3 * (i + 1) by omega]
        have e1 : ca2 (3 * i + 1) = ca (3 * (i + 1) + 1) := by rw [h1 _ (by omega), g, if_neg (by omega), if_neg (by omega), if_neg (by omega), show 3 * i + 1 + 3 = 3 * (i + 1) + 1 by omega]
        have e2 : ca2 (3 * i + 2) = ca (3 * (i + 1) + 2) := by rw [h1 _ (by omega), g, if_neg (by omega), if_neg (by omega), if_neg (by omega), show 3 * i + 2 + 3 = 3 * (i + 1) + 2 by omega]
        rw [e0, e1, e2, if_pos (by omega)]
        exact q3
  · rw [if_neg e]
    have g : ∀ j, adF ca k 40 a o t j = if j = 3 * k + 2 then t else if j = 3 * k + 1 then o else if j = 3 * k then a else ca j := fun j => by
      unfold adF
      rw [if_neg e]
    refine ⟨by omega, fun i => if i < k + 1 then P i else v2, fun j _ => ?_, fun i hi => ?_⟩
    · show (if k + 1 < k + 1 then P (k + 1) else v2) j = v2 j
      rw [if_neg (by omega)]
    show OKp L sl (if i < k + 1 then P i else v2) ∧ (∀ j, j < 18 → ma2 (18 * i + j) = (if i < k + 1 then P i else v2) j) ∧ UndoR (ca2 (3 * i)) (ca2 (3 * i + 1)) (ca2 (3 * i + 2)) (if i + 1 < k + 1 then P (i + 1) else v2) (if i < k + 1 then P i else v2)
    rw [if_pos hi]
    by_cases z : i = k
    · subst z
      refine ⟨okp_cg h7 hv p1, fun j hj => ?_, ?_⟩
      · rw [h2, if_neg e, if_pos ⟨by omega, by omega⟩, show 18 * i + j - 18 * i = j by omega]
        exact (p1 j hj).symm
      · have e0 : ca2 (3 * i) = a := by rw [h1 _ (by omega), g, if_neg (by omega), if_neg (by omega), if_pos rfl]
        have e1 : ca2 (3 * i + 1) = o := by rw [h1 _ (by omega), g, if_neg (by omega), if_pos rfl]
        have e2 : ca2 (3 * i + 2) = t := by rw [h1 _ (by omega), g, if_pos rfl]
        rw [e0, e1, e2, if_neg (by omega)]
        exact undo_cg hu (fun _ _ => rfl) p1
    · obtain ⟨q1, q2, q3⟩ := p2 i (by omega)
      refine ⟨q1, fun j hj => ?_, ?_⟩
      · rw [h2, if_neg e, if_neg (by omega)]
        exact q2 j hj
      · have e0 : ca2 (3 * i) = ca (3 * i) := by rw [h1 _ (by omega), g, if_neg (by omega), if_neg (by omega), if_neg (by omega)]
        have e1 : ca2 (3 * i + 1) = ca (3 * i + 1) := by rw [h1 _ (by omega), g, if_neg (by omega), if_neg (by omega), if_neg (by omega)]
        have e2 : ca2 (3 * i + 2) = ca (3 * i + 2) := by rw [h1 _ (by omega), g, if_neg (by omega), if_neg (by omega), if_neg (by omega)]
        rw [e0, e1, e2, if_pos (by omega)]
        exact q3
