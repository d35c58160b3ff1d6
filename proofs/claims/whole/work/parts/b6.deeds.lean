/-! The ACTS of both -/
/-- how it stands behind an ACT: a new plan v2, one entry more -/
theorem no_act {E E3 : HP} {b L m k S t : Nat} {R : List Int32} {v2 : Nat → Int32} {a9 o9 t9 : Int32} (h : RelN E b L m R k S t) (f : FrN b E E3) (h7 : L ≤ 7) (hu : UndoR a9 o9 t9 v2 (pkF E)) (hv2 : OKp L (slC E b) v2) (hp : ∀ j, Ix L j → pcF E3 46 j = v2 j) (hm : ∀ j, j < 18 → pkF E3 j = v2 j) (hca : ∀ j, j < 120 → gA E3 53 j = adF (gA E 53) k 40 a9 o9 t9 j) (hk1 : gI E3 386 51 = nI (keN k)) (hk2 : gI E3 1566 95 = nI (keN k)) (hma : ∀ i, gA E3 110 i = keF E k i) (g1 : gI E3 514 46 = gI E 514 46) (g2 : gI E3 519 46 = gI E 519 46) (g3 : gI E3 384 51 = gI E 384 51) (g4 : gI E3 386 54 = gI E 386 54) (g5 : gI E3 384 54 = gI E 384 54) (g6 : gI E3 1567 95 = gI E 1567 95) (a1 : gA E3 56 = gA E 56) (a2 : gA E3 127 = gA E 127) (a3 : gA E3 128 = gA E 128) (a4 : gA E3 129 = gA E 129) (a5 : gA E3 58 = gA E 58) (a6 : gA E3 107 = gA E 107) : NoR E3 L (slC E b) (keN k) S := by
  obtain ⟨-, ⟨n1, n2, n3, ⟨n4, n5, n6⟩, ⟨n7, n8, n9⟩, ⟨s1, s2, s3, s4⟩⟩, -⟩ := h
  have e98 : gA E3 98 = gA E 98 := f.2.2.2.2.2.2.2 98 (by decide) (by decide)
  refine ⟨g1.trans n1, ?_, fun j hj => (hp j hj).trans (hm j hj.1).symm, ⟨hk1, g3.trans n5, hk2⟩, ⟨g4.trans n7, g5.trans n8, g6.trans n9⟩, okp_cg h7 hv2 hm, ?_, ?_, ?_⟩
  · rw [g2, e98]; exact n2
  · have q := acr_add h7 s2 s1 hu (ca2 := gA E3 53) (ma2 := gA E3 110) hca (fun i => by rw [hma i]; rfl)
    exact acr_cg q (fun _ _ => rfl) (fun _ _ => rfl) hm
  · rw [a1, a2, a3, a4]; exact s3
  · rw [a5, a6]; exact s4
theorem okp_swap {L i j : Nat} {sl : Nat → Nat → Int32} {v v2 : Nat → Int32} (h7 : L ≤ 7) (h : OKp L sl v) (hi : i < L) (hj : j < L) (hij : ¬ i = j) (e : ∀ q, q < 18 → v2 q = if q = j then v i else if q = i then v j else v q) : OKp L sl v2 := by
  obtain ⟨h1, h2, h3, h4, h5, h6, h8, h9⟩ := h
  have sw : ∀ q, q < L → ∃ r, r < L ∧ v2 q = v r ∧ ((q = j ∧ r = i) ∨ (q = i ∧ r = j) ∨ (¬ q = j ∧ ¬ q = i ∧ r = q)) := fun q hq => by
    rw [e q (by omega)]
    by_cases z : q = j
    · rw [if_pos z]; exact ⟨i, hi, rfl, Or.inl ⟨z, rfl⟩⟩
    · rw [if_neg z]
      by_cases y : q = i
      · rw [if_pos y]; exact ⟨j, hj, rfl, Or.inr (Or.inl ⟨y, rfl⟩)⟩
      · rw [if_neg y]; exact ⟨q, hq, rfl, Or.inr (Or.inr ⟨z, y, rfl⟩)⟩
  have hi14 : ∀ q, 7 ≤ q → q < 18 → v2 q = v q := fun q z y => by rw [e q y, if_neg (by omega), if_neg (by omega)]
  refine ⟨fun q hq => ?_, fun q r hq hr z => ?_, fun s hs => ?_, by rw [hi14 14 (by decide) (by decide)]; exact h4, by rw [hi14 16 (by decide) (by decide)]; exact h5, by rw [hi14 15 (by decide) (by decide)]; exact h6, by rw [hi14 15 (by decide) (by decide), hi14 16 (by decide) (by decide)]; exact h8, fun s hs => by rw [hi14 (7 + s) (by omega) (by omega)]; exact h9 s hs⟩
  · obtain ⟨r, hr, z, -⟩ := sw q hq
    rw [z]; exact h1 r hr
  · obtain ⟨q2, hq2, z1, c1⟩ := sw q hq
    obtain ⟨r2, hr2, z2, c2⟩ := sw r hr
    have := h2 q2 r2 hq2 hr2 (by rw [← z1, ← z2]; exact z)
    omega
  · obtain ⟨q, hq, z⟩ := h3 s hs
    by_cases y : q = j
    · refine ⟨i, hi, ?_⟩
      rw [e i (by omega), if_neg hij, if_pos rfl, ← y]; exact z
    · by_cases y2 : q = i
      · refine ⟨j, hj, ?_⟩
        rw [e j (by omega), if_pos rfl, ← y2]; exact z
      · refine ⟨q, hq, ?_⟩
        rw [e q (by omega), if_neg y, if_neg y2]; exact z
set_option maxHeartbeats 16000000 in
/-- a refusal told: STATUS w one more on both sides -/
theorem ref_rel {E E2 E3 : HP} {b L m k S t w : Nat} {R : List Int32} (h : RelN E b L m R k S t) (hk : KpR E L) (hw : w < 3) (h2 : E2 = stRefuse 45 (nI w) E) (h3 : E3 = sA (sI E2 1538 95 0) 107 w (gA E2 107 w + 1)) : Rel E3 := by
  have ci := (ci_of h).1
  obtain ⟨l7, m1, m6⟩ := l7_of h
  obtain ⟨hC, hM, hQ⟩ := rel_td h
  obtain ⟨n1, n2, n3, ⟨n4, n5, n6⟩, ⟨n7, n8, n9⟩, ⟨s1, s2, s3, s4⟩⟩ := id h.2.1
  have e2 : E2 = sA E 58 w (gA E 58 w + 1) := by
    rw [h2]
    unfold stRefuse
    rw [rPut_nI hw (by decide), rAt_nI hw (by decide)]
  have f2 : FrN b E E2 := by rw [e2]; exact frn_cls hC hM hQ (fr_sA (by unfold PNow; decide) fr_rfl) (sr_sA sr_rfl)
  have f3 : FrN b E2 E3 := by rw [h3]; exact frn_mf f2.1 f2.2.1 f2.2.2.1 (mf_sA (by decide) (mf_sI (by decide) mf_rfl))
  refine rel_now h hk (frn_tr f2 f3) (k2 := k) (S2 := S) ?_
  have i : ∀ g q, ¬ (g = 1538 ∧ q = 95) → gI E3 g q = gI E g q := fun g q z => by rw [h3, gI_sA, gI_sI, if_neg z, e2, gI_sA]
  have a : ∀ q, q ≠ 58 → q ≠ 107 → gA E3 q = gA E q := fun q z1 z2 => by
    funext j
    rw [h3, gA_sA, if_neg (fun y => z2 y.1), gA_sI, e2, gA_sA, if_neg (fun y => z1 y.1)]
  have hpc : pcF E3 46 = pcF E 46 := pc_cg (a _ (by decide) (by decide)) (a _ (by decide) (by decide)) (fun g => i g 46 (by omega))
  have hpk : pkF E3 = pkF E := pk_cg (a _ (by decide) (by decide)) (a _ (by decide) (by decide)) (fun g hg => i g 95 (by intro z; rw [z.1] at hg; exact absurd hg (by decide)))
  unfold NoR
  rw [hpc, hpk, i _ _ (by decide), i _ _ (by decide), i _ _ (by decide), i _ _ (by decide), i _ _ (by decide), i _ _ (by decide), i _ _ (by decide), i _ _ (by decide), a 98 (by decide) (by decide), a 53 (by decide) (by decide), a 110 (by decide) (by decide), a 56 (by decide) (by decide), a 127 (by decide) (by decide), a 128 (by decide) (by decide), a 129 (by decide) (by decide)]
  refine ⟨n1, n2, n3, ⟨n4, n5, n6⟩, ⟨n7, n8, n9⟩, s1, s2, s3, fun j hj => ?_⟩
  have c1 : gA E3 58 j = if j = w then gA E 58 w + 1 else gA E 58 j := by
    rw [h3, gA_sA, if_neg (fun y => absurd y.1 (by decide)), gA_sI, e2, gA_sA]
    simp only [true_and]
  have c2 : gA E3 107 j = if j = w then gA E 107 w + 1 else gA E 107 j := by
    have e107 : gA E2 107 = gA E 107 := by
      funext q
      rw [e2, gA_sA, if_neg (fun y => absurd y.1 (by decide))]
    rw [h3, gA_sA, gA_sI, e107]
    simp only [true_and]
  rw [c1, c2, s4 j hj, s4 w hw]
theorem ke_K {E EC : HP} {k : Nat} (h1 : pkF EC = pkF E) (h2 : gA EC 110 = gA E 110) : keF EC k = keF E k := by
  funext i
  unfold keF
  rw [h1, h2]
set_option maxHeartbeats 16000000 in
/-- class heap EC, then the model's heap EM: what is common to all ACTS -/
theorem act_fin {E EC EM : HP} {b L m k S t : Nat} {R : List Int32} {v2 : Nat → Int32} {a9 o9 t9 : Int32} {gs as : List Nat} (h : RelN E b L m R k S t) (hk : KpR E L)
    (hC1 : Fr (fun q => q = 46 ∨ q = 48 ∨ q = 50 ∨ q = 51 ∨ q = 53) E EC) (sC : SR E EC) (hc1 : gI EC 514 46 = gI E 514 46) (hc2 : gI EC 519 46 = gI E 519 46) (hc3 : gI EC 384 51 = gI E 384 51) (hca : ∀ j, j < 120 → gA EC 53 j = adF (gA E 53) k 40 a9 o9 t9 j) (hcs : gI EC 386 51 = nI (keN k)) (hpc : ∀ j, Ix L j → pcF EC 46 j = v2 j)
    (ex : Int64) (kd : KD gs as (sL EC 136 0 ex) EM k) (hgs : gs.all (fun g => [1562, 1563, 1564, 1565].contains g) = true) (has : as.all (fun a => [103, 109].contains a) = true) (hpk : ∀ j, j < 18 → pkF EM j = v2 j) (hu : UndoR a9 o9 t9 v2 (pkF E)) (hv2 : OKp L (slC E b) v2) : gI EM 1538 95 = 0 ∧ gL EM 136 0 = ex ∧ Rel EM := by
  obtain ⟨hC, hM, hQ⟩ := rel_td h
  have l7 := (l7_of h).1
  obtain ⟨km, k0, k1, k2⟩ := kd
  have gsq : ∀ g, g ∈ gs → g = 1562 ∨ g = 1563 ∨ g = 1564 ∨ g = 1565 := fun g hg => by
    have z := List.contains_iff_mem.mp (List.all_eq_true.mp hgs g hg)
    simpa using z
  have asq : ∀ a, a ∈ as → a = 103 ∨ a = 109 := fun a ha => by
    have z := List.contains_iff_mem.mp (List.all_eq_true.mp has a ha)
    simpa using z
  have hF : MF gsNw asNw (sL EC 136 0 ex) EM := mf_mono km (fun g hg => by
    rcases List.mem_cons.mp hg with z | z
    · rw [z]; decide
    rcases List.mem_cons.mp z with z | z
    · rw [z]; decide
    rcases gsq g z with y | y | y | y <;> rw [y] <;> decide) (fun a ha => by
    rcases List.mem_cons.mp ha with z | z
    · rw [z]; decide
    rcases asq a z with y | y <;> rw [y] <;> decide)
  have km1 : ∀ g, g ∉ [1538, 1566, 1562, 1563, 1564, 1565] → gI EM g 95 = gI EC g 95 := fun g hg => (show gI EM g 95 = gI (sL EC 136 0 ex) g 95 from mf_gI km (fun z => hg (by
    rcases List.mem_cons.mp z with z | z
    · rw [z]; decide
    rcases List.mem_cons.mp z with z | z
    · rw [z]; decide
    rcases gsq g z with y | y | y | y <;> rw [y] <;> decide)))
  have km2 : ∀ g k, k ≠ 95 → gI EM g k = gI EC g k := fun g k z => (show gI EM g k = gI (sL EC 136 0 ex) g k from mf_gI2 km z)
  have km3 : ∀ a, a ∉ [110, 103, 109] → gA EM a = gA EC a := fun a ha => (show gA EM a = gA (sL EC 136 0 ex) a from mf_gA km (fun z => ha (by
    rcases List.mem_cons.mp z with z | z
    · rw [z]; decide
    rcases asq a z with y | y <;> rw [y] <;> decide)))
  have f1 : FrN b E EC := frn_cls hC hM hQ (fr_mono hC1 (fun q z => by unfold PNow; omega)) sC
  have f2 : FrN b EC (sL EC 136 0 ex) := ⟨cr_sr ⟨rfl, rfl⟩ f1.1, f1.2.1, f1.2.2.1, fun _ => rfl, rfl, fun _ _ => ⟨fun _ => rfl, rfl⟩, fun _ _ => rfl, fun _ _ _ => rfl⟩
  have f3 : FrN b (sL EC 136 0 ex) EM := frn_mf f2.1 f2.2.1 f2.2.2.1 hF
  have ff := frn_tr f1 (frn_tr f2 f3)
  have ci : ∀ q, ¬ (q = 46 ∨ q = 48 ∨ q = 50 ∨ q = 51 ∨ q = 53) → ∀ g, gI EC g q = gI E g q := fun q z g => fr_gI hC1 z g
  have ca : ∀ q, ¬ (q = 46 ∨ q = 48 ∨ q = 50 ∨ q = 51 ∨ q = 53) → gA EC q = gA E q := fun q z => fr_gA hC1 z
  have hpkC : pkF (sL EC 136 0 ex) = pkF E := pk_cg (ca 109 (by omega)) (ca 103 (by omega)) (fun g _ => ci 95 (by omega) g)
  have hke : keF (sL EC 136 0 ex) k = keF E k := ke_K hpkC (ca 110 (by omega))
  refine ⟨k0, ?_, rel_now h hk ff (k2 := keN k) (S2 := S) (no_act h ff l7 hu hv2 (fun j hj => ?_) hpk (fun j hj => by rw [km3 53 (by decide)]; exact hca j hj) ((km2 _ _ (by decide)).trans hcs) k1 (fun i => by rw [k2 i, hke]) ((km2 _ _ (by decide)).trans hc1) ((km2 _ _ (by decide)).trans hc2) ((km2 _ _ (by decide)).trans hc3) ((km2 _ _ (by decide)).trans (ci 54 (by omega) _)) ((km2 _ _ (by decide)).trans (ci 54 (by omega) _)) ((km1 1567 (by decide)).trans (ci 95 (by omega) _)) ((km3 56 (by decide)).trans (ca 56 (by omega))) ((km3 127 (by decide)).trans (ca 127 (by omega))) ((km3 128 (by decide)).trans (ca 128 (by omega))) ((km3 129 (by decide)).trans (ca 129 (by omega))) ((km3 58 (by decide)).trans (ca 58 (by omega))) ((km3 107 (by decide)).trans (ca 107 (by omega))))⟩
  · rw [mf_gL km, gL_sL, if_pos ⟨rfl, rfl⟩]
  · have e : pcF EM 46 = pcF EC 46 := pc_cg (km3 48 (by decide)) (km3 50 (by decide)) (fun g => km2 g 46 (by decide))
    rw [e]; exact hpc j hj
theorem add_ids {E : HP} {k : Nat} {a o t : Int32} : Fr (fun q => q = 51 ∨ q = 53) E (piAdd 51 120 k 40 a o t E) := fr_add (P := fun q => q = 51 ∨ q = 53) (Or.inl rfl) (Or.inr rfl) fr_rfl
theorem pc_at {E : HP} {L : Nat} {v : Nat → Int32} (h7 : L ≤ 7) (h : ∀ j, Ix L j → pcF E 46 j = v j) : (∀ i, i < 7 → 0 < L → gA E 48 i = v i) ∧ (∀ i, i < L → gA E 50 i = v (7 + i)) ∧ gI E 515 46 = v 14 ∧ gI E 516 46 = v 15 ∧ gI E 517 46 = v 16 ∧ gI E 518 46 = v 17 := by
  refine ⟨fun i hi hl0 => ?_, fun i hi => ?_, h 14 ⟨by decide, by omega, by omega⟩, h 15 ⟨by decide, by omega, by omega⟩, h 16 ⟨by decide, by omega, by omega⟩, h 17 ⟨by decide, by omega, by omega⟩⟩
  · have e := h i ⟨by omega, by omega, fun _ => hl0⟩
    unfold pcF at e
    rw [if_pos hi] at e
    exact e
  · have e := h (7 + i) ⟨by omega, by omega, by omega⟩
    unfold pcF at e
    rw [if_neg (by omega), if_pos (by omega), show 7 + i - 7 = i by omega] at e
    exact e
theorem pc_mk {E : HP} {L p : Nat} {v : Nat → Int32} (h1 : ∀ i, i < 7 → 0 < L → gA E (p + 2) i = v i) (h2 : ∀ i, i < L → gA E (p + 4) i = v (7 + i)) (h3 : gI E 515 p = v 14) (h4 : gI E 516 p = v 15) (h5 : gI E 517 p = v 16) (h6 : gI E 518 p = v 17) : ∀ j, Ix L j → pcF E p j = v j := by
  rintro j ⟨hj, hj2, hj3⟩
  unfold pcF
  by_cases a : j < 7
  · rw [if_pos a]; exact h1 j a (hj3 a)
  rw [if_neg a]
  by_cases c : j < 14
  · rw [if_pos c, h2 (j - 7) (by omega), show 7 + (j - 7) = j by omega]
  rw [if_neg c]
  by_cases e : j = 14
  · rw [if_pos e, h3, e]
  rw [if_neg e]
  by_cases e2 : j = 15
  · rw [if_pos e2, h4, e2]
  rw [if_neg e2]
  by_cases e3 : j = 16
  · rw [if_pos e3, h5, e3]
  rw [if_neg e3, h6, show j = 17 by omega]
theorem pk_at {E : HP} : (∀ i, i < 7 → gA E 109 i = pkF E i) ∧ (∀ i, i < 7 → gA E 103 i = pkF E (7 + i)) := by
  refine ⟨fun i hi => ?_, fun i hi => ?_⟩
  · unfold pkF
    rw [if_pos hi]
  · unfold pkF
    rw [if_neg (by omega), if_pos (by omega), show 7 + i - 7 = i by omega]
theorem pk_mk {E : HP} {v : Nat → Int32} (h1 : ∀ i, i < 7 → gA E 109 i = v i) (h2 : ∀ i, i < 7 → gA E 103 i = v (7 + i)) (h3 : gI E 1562 95 = v 14) (h4 : gI E 1563 95 = v 15) (h5 : gI E 1564 95 = v 16) (h6 : gI E 1565 95 = v 17) : ∀ j, j < 18 → pkF E j = v j := by
  intro j hj
  unfold pkF
  by_cases a : j < 7
  · rw [if_pos a]; exact h1 j a
  rw [if_neg a]
  by_cases c : j < 14
  · rw [if_pos c, h2 (j - 7) (by omega), show 7 + (j - 7) = j by omega]
  rw [if_neg c]
  by_cases e : j = 14
  · rw [if_pos e, h3, e]
  rw [if_neg e]
  by_cases e2 : j = 15
  · rw [if_pos e2, h4, e2]
  rw [if_neg e2]
  by_cases e3 : j = 16
  · rw [if_pos e3, h5, e3]
  rw [if_neg e3, h6, show j = 17 by omega]
theorem sL_same {E : HP} {a i : Nat} : sL E a i (gL E a i) = E := by
  unfold sL
  have e : (fun x j => if x = a ∧ j = i then gL E a i else E.2.2.2.2 x j) = E.2.2.2.2 := by
    funext x j
    by_cases h : x = a ∧ j = i
    · rw [if_pos h, h.1, h.2]; rfl
    · rw [if_neg h]
  rw [e]
theorem nI_is0 {e : Nat} (he : e < 2 ^ 31) : nI e = 0 ↔ e = 0 := ⟨fun z => (nI_eq he (by decide)).mp z, fun z => by rw [z]; rfl⟩
/-- what an ACT's class side gives: the heap EC behind it -/
def ActC (L : Nat) (E EC : HP) (k : Nat) (a o t : Int32) (v2 : Nat → Int32) : Prop := Fr (fun q => q = 46 ∨ q = 48 ∨ q = 50 ∨ q = 51 ∨ q = 53) E EC ∧ SR E EC ∧ gI EC 514 46 = gI E 514 46 ∧ gI EC 519 46 = gI E 519 46 ∧ gI EC 384 51 = gI E 384 51 ∧ (∀ j, j < 120 → gA EC 53 j = adF (gA E 53) k 40 a o t j) ∧ gI EC 386 51 = nI (keN k) ∧ ∀ j, Ix L j → pcF EC 46 j = v2 j
theorem act_p {E EC : HP} {b L m k S t : Nat} {R : List Int32} {y yM : MethodName} {M MM : MI} {args : List Value} {v : Int32} {gs as : List Nat} {v2 : Nat → Int32} {a o t9 : Int32} (h : RelN E b L m R k S t) (hk : KpR E L) (hcl : Cl y M 60 0 0 (.ref 0 :: args) E 137 (.inl (some (.int v)), EC, 137)) (hc : ActC L E EC k a o t9 v2) (hgs : gs.all (fun g => [1562, 1563, 1564, 1565].contains g) = true) (has : as.all (fun a => [103, 109].contains a) = true) (hu : UndoR a o t9 v2 (pkF E)) (hv2 : OKp L (slC E b) v2) (hm : ∀ ex, ∃ EM, KD gs as (sL EC 136 0 ex) EM k ∧ (∀ j, j < 18 → pkF EM j = v2 j) ∧ Cl yM MM 60 0 0 (.ref 95 :: args) (sL EC 136 0 ex) 137 (.inl (some (.int v)), EM, 137)) : OpP y M yM MM args E ∧ OpT false y M yM MM args E := by
  obtain ⟨c1, c2, c3, c4, c5, c6, c7, c8⟩ := hc
  refine ⟨?_, ?_⟩
  · obtain ⟨EM, kd, hp, hmc⟩ := hm (gL EC 136 0)
    have fin := act_fin h hk c1 c2 c3 c4 c5 c6 c7 c8 _ kd hgs has hp hu hv2
    rw [sL_same] at hmc
    exact ⟨_, EC, 0, 0, by decide, by decide, hcl, EM, hmc, fin.2.2⟩
  · obtain ⟨EM, kd, hp, hmc⟩ := hm v.toInt64
    have fin := act_fin h hk c1 c2 c3 c4 c5 c6 c7 c8 _ kd hgs has hp hu hv2
    exact Or.inl ⟨v, EC, 0, 0, by decide, by decide, hcl, EM, hmc, fin.1, fin.2.1, fin.2.2⟩
/-- a pile entry laid on what the plan has become -/
theorem act_c {E EX : HP} {L k : Nat} {a o t : Int32} {v2 : Nat → Int32} (fX : Fr (fun q => q = 46 ∨ q = 48 ∨ q = 50) E EX) (sX : SR E EX) (x1 : gI EX 514 46 = gI E 514 46) (x2 : gI EX 519 46 = gI E 519 46) (hk : gI E 386 51 = nI k) (k40 : k ≤ 40) (hp : ∀ j, Ix L j → pcF EX 46 j = v2 j) : ActC L E (piAdd 51 120 k 40 a o t EX) k a o t v2 := by
  have kX : gI EX 386 51 = nI k := (fr_gI fX (by omega) _).trans hk
  have had := fun j hj => add_at (h := 51) (most := 40) (a := a) (b := o) (c := t) (j := j) kX k40 (by decide) (by decide) hj
  have fA : Fr (fun q => q = 51 ∨ q = 53) EX (piAdd 51 120 k 40 a o t EX) := add_ids
  have gi : ∀ g q, ¬ (g = 386 ∧ q = 51) → gI (piAdd 51 120 k 40 a o t EX) g q = gI EX g q := fun g q z => gI_piAdd z
  refine ⟨fr_tr (fr_mono fX (fun q z => by omega)) (fr_mono fA (fun q z => by omega)), sr_add sX, (gi _ _ (by decide)).trans x1, (gi _ _ (by decide)).trans x2, (gi _ _ (by decide)).trans (fr_gI fX (by omega) _), fun j hj => ?_, (had 0 (by decide)).2, fun j hj => ?_⟩
  · rw [← fr_gA fX (show ¬ (53 = 46 ∨ 53 = 48 ∨ 53 = 50) by omega)]
    exact (had j hj).1
  · rw [pc_cg (E := EX) (p := 46) (fr_gA fA (by omega)) (fr_gA fA (by omega)) (fun g => gi g 46 (by omega))]
    exact hp j hj
/-- the same, where the plan is changed behind the entry -/
theorem act_c2 {E EA EC : HP} {L k : Nat} {a o t : Int32} {v2 : Nat → Int32} (hA : piAdd 51 120 k 40 a o t E = EA) (fX : Fr (fun q => q = 46 ∨ q = 48 ∨ q = 50) EA EC) (sX : SR EA EC) (x1 : gI EC 514 46 = gI EA 514 46) (x2 : gI EC 519 46 = gI EA 519 46) (hk : gI E 386 51 = nI k) (k40 : k ≤ 40) (hp : ∀ j, Ix L j → pcF EC 46 j = v2 j) : ActC L E EC k a o t v2 := by
  subst hA
  have had := fun j hj => add_at (h := 51) (most := 40) (a := a) (b := o) (c := t) (j := j) hk k40 (by decide) (by decide) hj
  have fA : Fr (fun q => q = 51 ∨ q = 53) E (piAdd 51 120 k 40 a o t E) := add_ids
  have gi : ∀ g q, ¬ (g = 386 ∧ q = 51) → gI (piAdd 51 120 k 40 a o t E) g q = gI E g q := fun g q z => gI_piAdd z
  refine ⟨fr_tr (fr_mono fA (fun q z => by omega)) (fr_mono fX (fun q z => by omega)), sr_tr (sr_add sr_rfl) sX, x1.trans (gi _ _ (by decide)), x2.trans (gi _ _ (by decide)), (fr_gI fX (by omega) _).trans (gi _ _ (by decide)), fun j hj => ?_, (fr_gI fX (by omega) _).trans (had 0 (by decide)).2, hp⟩
  rw [fr_gA fX (show ¬ (53 = 46 ∨ 53 = 48 ∨ 53 = 50) by omega)]
  exact (had j hj).1
/-- the model's side of a heap EC behind the class' ACT -/
theorem act_m {E EC : HP} {b L m k S t : Nat} {R : List Int32} {a o t9 : Int32} {v2 : Nat → Int32} (h : RelN E b L m R k S t) (hc : ActC L E EC k a o t9 v2) (ex : Int64) : MoOK (sL EC 136 0 ex) ∧ gI (sL EC 136 0 ex) 1566 95 = nI k ∧ gA (sL EC 136 0 ex) 98 0 = nI L ∧ (∀ q, 94 < q → (∀ g, gI (sL EC 136 0 ex) g q = gI E g q) ∧ gA (sL EC 136 0 ex) q = gA E q) := by
  obtain ⟨hC, hM, hQ⟩ := rel_td h
  have ff : ∀ q, 94 < q → (∀ g, gI (sL EC 136 0 ex) g q = gI E g q) ∧ gA (sL EC 136 0 ex) q = gA E q := fun q z => ⟨fun g => fr_gI hc.1 (by omega) g, fr_gA hc.1 (by omega)⟩
  refine ⟨fun q hq => sr_gR hc.2.1 (hM q hq), ((ff 95 (by omega)).1 _).trans h.2.1.2.2.2.1.2.2, ?_, ff⟩
  rw [(ff 98 (by omega)).2]
  exact h.1.2.1.2
set_option maxHeartbeats 16000000 in
theorem o_swap {E : HP} {b L m k S t : Nat} {R : List Int32} {x w q : Int32} (h : RelN E b L m R k S t) (hk : KpR E L) : OpP yX11_swap mX11_swap yX12_swap mX12_swap [.int x, .int w] E := by
  have ci := (ci_of h).1
  obtain ⟨l7, m1, m6⟩ := l7_of h
  obtain ⟨hC, hM, hQ⟩ := rel_td h
  obtain ⟨n1, n2, n3, ⟨n4, n5, n6⟩, ⟨n7, n8, n9⟩, ⟨s1, s2, s3, s4⟩⟩ := id h.2.1
  have hL : gA E 98 0 = nI L := h.1.2.1.2
  have k40 : k ≤ 40 := s2.1
  have ac : piSz E 137 51 120 k 40 := ⟨cr_pile51 hC, n4, n5, rfl, k40, by decide, by decide⟩
  obtain ⟨co, cu, c14, c15, c16, c17⟩ := pc_at l7 n3
  obtain ⟨mo, mu⟩ := pk_at (E := E)
  by_cases hx : inB x (nI L) ∧ inB w (nI L) ∧ ¬ x = w
  rotate_left
  · have hcl := x_swap (d := 52) ci hx
    have hm := m_swapX (d := 52) (E := stRefuse 45 1 E) (x := x) (y := w) (fun q hq => sr_gR (sr_stRefuse sr_rfl) (hM q hq)) (by rw [show gA (stRefuse 45 1 E) 98 = gA E 98 from fr_gA (P := fun q => q = 58) (fr_put (h := 57) rfl fr_rfl) (by decide)]; exact hL) l7 hx
    exact ⟨_, _, 0, 0, by decide, by decide, hcl, _, hm, ref_rel h hk (w := 1) (by decide) rfl rfl⟩
  obtain ⟨h1, h2, h3⟩ := hx
  obtain ⟨i, hi, rfl⟩ := inB_nI h1 (by omega)
  obtain ⟨j, hj, rfl⟩ := inB_nI h2 (by omega)
  have hij : ¬ i = j := fun z => h3 (by rw [z])
  have hcl := c_X11_swap (d := 52) ci ac hi hj hij
  obtain ⟨v2, hv2⟩ : ∃ v2 : Nat → Int32, v2 = fun q => if q = j then pkF E i else if q = i then pkF E j else pkF E q := ⟨_, rfl⟩
  have hv : ∀ q, v2 q = if q = j then pkF E i else if q = i then pkF E j else pkF E q := fun q => by rw [hv2]
  have hc : ActC L E (piAdd 51 120 k 40 0 (nI i) (nI j) (rExch 47 7 (nI i) (nI j) E)) k 0 (nI i) (nI j) v2 := by
    have fX : Fr (fun q => q = 48) E (rExch 47 7 (nI i) (nI j) E) := fr_exch (P := fun q => q = 48) (h := 47) rfl fr_rfl
    refine act_c (fr_mono fX (fun q z => Or.inr (Or.inl z))) (sr_exch sr_rfl) (fr_gI fX (by decide) _) (fr_gI fX (by decide) _) n4 k40 (pc_mk (fun q hq hl0 => ?_) (fun q hq => ?_) ?_ ?_ ?_ ?_)
    · have e := exch_at (E := E) (h := 47) (l := 7) (i := i) (j := j) (m := q) (by omega) (by omega) (by decide)
      rw [show (47 : Nat) + 1 = 48 from rfl] at e
      show gA (rExch 47 7 (nI i) (nI j) E) 48 q = _
      rw [e, co i (by omega) hl0, co j (by omega) hl0, co q hq hl0, hv]
    · show gA (rExch 47 7 (nI i) (nI j) E) 50 q = _
      rw [fr_gA fX (by decide), cu q hq, hv, if_neg (by omega), if_neg (by omega)]
    · rw [fr_gI fX (by decide), c14, hv, if_neg (by omega), if_neg (by omega)]
    · rw [fr_gI fX (by decide), c15, hv, if_neg (by omega), if_neg (by omega)]
    · rw [fr_gI fX (by decide), c16, hv, if_neg (by omega), if_neg (by omega)]
    · rw [fr_gI fX (by decide), c17, hv, if_neg (by omega), if_neg (by omega)]
  refine (act_p (gs := []) (as := [109]) h hk hcl hc (by decide) (by decide) (Or.inl ⟨rfl, i, j, by omega, by omega, rfl, rfl, fun q hq => ?_⟩) (okp_swap l7 s1 hi hj hij (fun q _ => hv q)) (fun ex => ?_)).1
  · rw [hv i, hv j, hv q, if_neg hij, if_pos rfl, if_pos rfl]
    by_cases z : q = j
    · rw [if_pos z, z]
    · rw [if_neg z]
      by_cases y : q = i
      · rw [if_pos y, y]
      · rw [if_neg y, if_neg z, if_neg y]
  · obtain ⟨a1, a2, a3, ff⟩ := act_m h hc ex
    obtain ⟨EM, kd, ho, hm⟩ := m_swap (d := 52) a1 a2 k40 a3 l7 hi hj hij
    refine ⟨EM, kd, pk_mk (fun q hq => ?_) (fun q hq => ?_) ?_ ?_ ?_ ?_, hm⟩
    · rw [ho q, (ff 109 (by omega)).2, mo i (by omega), mo j (by omega), mo q hq, hv]
    · rw [mf_gA kd.1 (by decide), (ff 103 (by omega)).2, mu q hq, hv, if_neg (by omega), if_neg (by omega)]
    · rw [mf_gI kd.1 (by decide), (ff 95 (by omega)).1, hv, if_neg (by omega), if_neg (by omega)]; rfl
    · rw [mf_gI kd.1 (by decide), (ff 95 (by omega)).1, hv, if_neg (by omega), if_neg (by omega)]; rfl
    · rw [mf_gI kd.1 (by decide), (ff 95 (by omega)).1, hv, if_neg (by omega), if_neg (by omega)]; rfl
    · rw [mf_gI kd.1 (by decide), (ff 95 (by omega)).1, hv, if_neg (by omega), if_neg (by omega)]; rfl
set_option maxHeartbeats 16000000 in
theorem o_side {E : HP} {b L m k S t : Nat} {R : List Int32} {x w q : Int32} (h : RelN E b L m R k S t) (hk : KpR E L) : OpP yX11_side mX11_side yX12_side mX12_side [.int x] E := by
  have ci := (ci_of h).1
  obtain ⟨l7, m1, m6⟩ := l7_of h
  obtain ⟨hC, hM, hQ⟩ := rel_td h
  obtain ⟨n1, n2, n3, ⟨n4, n5, n6⟩, ⟨n7, n8, n9⟩, ⟨s1, s2, s3, s4⟩⟩ := id h.2.1
  have hL : gA E 98 0 = nI L := h.1.2.1.2
  have k40 : k ≤ 40 := s2.1
  have ac : piSz E 137 51 120 k 40 := ⟨cr_pile51 hC, n4, n5, rfl, k40, by decide, by decide⟩
  obtain ⟨co, cu, c14, c15, c16, c17⟩ := pc_at l7 n3
  obtain ⟨mo, mu⟩ := pk_at (E := E)
  by_cases hx : x = 0 ∨ x = 1
  rotate_left
  · have hcl := x_side (d := 52) ci hx
    have hMr : MoOK (stRefuse 45 1 E) := fun q hq => sr_gR (sr_stRefuse sr_rfl) (hM q hq)
    have e98 : gA (stRefuse 45 1 E) 98 = gA E 98 := fr_gA (P := fun q => q = 58) (fr_put (h := 57) rfl fr_rfl) (by decide)
    have e99 : gA (stRefuse 45 1 E) 99 = gA E 99 := fr_gA (P := fun q => q = 58) (fr_put (h := 57) rfl fr_rfl) (by decide)
    have i95 : ∀ g, gI (stRefuse 45 1 E) g 95 = gI E g 95 := fun g => fr_gI (P := fun q => q = 58) (fr_put (h := 57) rfl fr_rfl) (by decide) g
    have hm := m_sideX (d := 52) (E := stRefuse 45 1 E) hMr hx
    exact ⟨_, _, 0, 0, by decide, by decide, hcl, _, hm, ref_rel h hk (w := 1) (by decide) rfl rfl⟩
  have hcl := c_X11_side (d := 52) ci ac hx
  obtain ⟨v2, hv2⟩ : ∃ v2 : Nat → Int32, v2 = fun q => if q = 14 then x else pkF E q := ⟨_, rfl⟩
  have hv : ∀ q, v2 q = if q = 14 then x else pkF E q := fun q => by rw [hv2]
  obtain ⟨EA, hEA⟩ : ∃ EA, piAdd 51 120 k 40 1 (gI E 515 46) 0 E = EA := ⟨_, rfl⟩
  have fA : Fr (fun q => q = 51 ∨ q = 53) E EA := by rw [← hEA]; exact add_ids
  have gi : ∀ g q, ¬ (g = 386 ∧ q = 51) → gI EA g q = gI E g q := fun g q z => by rw [← hEA]; exact gI_piAdd z
  have ga : ∀ q, q ≠ 51 → q ≠ 53 → gA EA q = gA E q := fun q z1 z2 => fr_gA fA (by omega)
  rw [hEA] at hcl
  have hc : ActC L E (sI EA 515 46 x) k 1 (gI E 515 46) 0 v2 := by
    refine act_c2 hEA (fr_sI (Or.inl rfl) fr_rfl) (sr_sI sr_rfl) (by rw [gI_sI, if_neg (by decide)]) (by rw [gI_sI, if_neg (by decide)]) n4 k40 (pc_mk (fun q hq hl0 => ?_) (fun q hq => ?_) ?_ ?_ ?_ ?_)
    · rw [gA_sI, ga (46 + 2) (by decide) (by decide), hv, if_neg (by omega)]; exact co q hq hl0
    · rw [gA_sI, ga (46 + 4) (by decide) (by decide), hv, if_neg (by omega)]; exact cu q hq
    · rw [gI_sI, if_pos ⟨rfl, rfl⟩, hv, if_pos rfl]
    · rw [gI_sI, if_neg (by decide), gi _ _ (by decide), c15, hv, if_neg (by decide)]
    · rw [gI_sI, if_neg (by decide), gi _ _ (by decide), c16, hv, if_neg (by decide)]
    · rw [gI_sI, if_neg (by decide), gi _ _ (by decide), c17, hv, if_neg (by decide)]
  have hok : OKp L (slC E b) v2 := by
    obtain ⟨q1, q2, q3, q4, q5, q6, q8, q9⟩ := s1
    have e : ∀ q, q ≠ 14 → v2 q = pkF E q := fun q z => by rw [hv, if_neg z]
    exact ⟨fun i hi => by rw [e i (by omega)]; exact q1 i hi, fun i j hi hj z => q2 i j hi hj (by rw [← e i (by omega), ← e j (by omega)]; exact z), fun s hs => (by obtain ⟨i, hi, z⟩ := q3 s hs; exact ⟨i, hi, by rw [e i (by omega)]; exact z⟩), by rw [hv, if_pos rfl]; exact hx, by rw [e 16 (by decide)]; exact q5, by rw [e 15 (by decide)]; exact q6, by rw [e 15 (by decide), e 16 (by decide)]; exact q8, fun s hs => by rw [e (7 + s) (by omega)]; exact q9 s hs⟩
  have hca : gI E 515 46 = gI E 1562 95 := c14
  refine (act_p (gs := [1562]) (as := []) h hk hcl hc (by decide) (by decide) (Or.inr (Or.inl ⟨rfl, fun q hq => ?_⟩)) hok (fun ex => ?_)).1
  · rw [hv]
    by_cases z : q = 14
    · rw [if_pos z, z, c14]
    · rw [if_neg z, if_neg z]
  · obtain ⟨a1, a2, a3, ff⟩ := act_m h hc ex
    obtain ⟨EM, kd, ho, hm⟩ := m_side (d := 52) a1 a2 k40 hx
    refine ⟨EM, kd, pk_mk (fun q hq => ?_) (fun q hq => ?_) ?_ ?_ ?_ ?_, by rw [hca, ← (ff 95 (by omega)).1 1562]; exact hm⟩
    · rw [mf_gA kd.1 (by decide), (ff 109 (by omega)).2, mo q hq, hv, if_neg (by omega)]
    · rw [mf_gA kd.1 (by decide), (ff 103 (by omega)).2, mu q hq, hv, if_neg (by omega)]
    · rw [ho, hv, if_pos rfl]
    · rw [mf_gI kd.1 (by decide), (ff 95 (by omega)).1, hv, if_neg (by decide)]; rfl
    · rw [mf_gI kd.1 (by decide), (ff 95 (by omega)).1, hv, if_neg (by decide)]; rfl
    · rw [mf_gI kd.1 (by decide), (ff 95 (by omega)).1, hv, if_neg (by decide)]; rfl
theorem ref_rel2 {E E2 E3 : HP} {b L m k S t w : Nat} {R : List Int32} {ex : Int64} (h : RelN E b L m R k S t) (hk : KpR E L) (hw : w < 3) (h2 : E2 = stRefuse 45 (nI w) E) (h3 : E3 = sA (sI (sL E2 136 0 ex) 1538 95 0) 107 w (gA (sL E2 136 0 ex) 107 w + 1)) : Rel E3 := by
  have f := frk_sL (a := 136) (i := 0) (x := ex) (rel_td h).1 (rel_td h).2.1 (rel_td h).2.2
  refine ref_rel (rel_K h f) (kp_sL hk) hw (E2 := sL E2 136 0 ex) ?_ h3
  rw [h2]
  unfold stRefuse
  rw [rPut_nI hw (by decide), rPut_nI hw (by decide), rAt_nI hw (by decide), rAt_nI hw (by decide)]
  rfl
set_option maxHeartbeats 16000000 in
theorem o_word {E : HP} {b L m k S t : Nat} {R : List Int32} {x w q : Int32} (h : RelN E b L m R k S t) (hk : KpR E L) : OpT false yX11_word mX11_word yX12_word mX12_word [.int x, .int w] E := by
  have ci := (ci_of h).1
  obtain ⟨l7, m1, m6⟩ := l7_of h
  obtain ⟨hC, hM, hQ⟩ := rel_td h
  obtain ⟨n1, n2, n3, ⟨n4, n5, n6⟩, ⟨n7, n8, n9⟩, ⟨s1, s2, s3, s4⟩⟩ := id h.2.1
  have hL : gA E 98 0 = nI L := h.1.2.1.2
  have k40 : k ≤ 40 := s2.1
  have ac : piSz E 137 51 120 k 40 := ⟨cr_pile51 hC, n4, n5, rfl, k40, by decide, by decide⟩
  obtain ⟨co, cu, c14, c15, c16, c17⟩ := pc_at l7 n3
  obtain ⟨mo, mu⟩ := pk_at (E := E)
  have hkd : ∀ s, s < L → gA E 99 s = slC E b 1 s := fun s hs => (h.1.2.2.2.2.2 s hs).1
  by_cases hx : inB x (nI L)
  rotate_left
  · exact op_nse h hk (x_word1 (d := 52) (s := 0) ci hx) qf_rfl fun Ex hMD hR _ => m_word1 (d := 52) (rel_td hR).2.1 hR.1.2.1.2 l7 hx
  obtain ⟨s, hs, rfl⟩ := inB_nI hx (by omega)
  by_cases hz : ¬ inC w 240 ∨ slC E b 1 s = 3
  · have hcl := x_word2 (d := 52) ci hs hz
    have hMr : MoOK (stRefuse 45 1 E) := fun q hq => sr_gR (sr_stRefuse sr_rfl) (hM q hq)
    have e98 : gA (stRefuse 45 1 E) 98 = gA E 98 := fr_gA (P := fun q => q = 58) (fr_put (h := 57) rfl fr_rfl) (by decide)
    have e99 : gA (stRefuse 45 1 E) 99 = gA E 99 := fr_gA (P := fun q => q = 58) (fr_put (h := 57) rfl fr_rfl) (by decide)
    have i95 : ∀ g, gI (stRefuse 45 1 E) g 95 = gI E g 95 := fun g => fr_gI (P := fun q => q = 58) (fr_put (h := 57) rfl fr_rfl) (by decide) g
    have hm := fun ex : Int64 => m_word2 (d := 52) (E := sL (stRefuse 45 1 E) 136 0 ex) hMr (by show gA (stRefuse 45 1 E) 98 0 = _; rw [e98]; exact hL) l7 hs (show gA (stRefuse 45 1 E) 99 s = slC E b 1 s by rw [e99]; exact hkd s hs) hz
    refine Or.inl ⟨_, _, 0, 0, by decide, by decide, hcl, _, hm _, ?_, ?_, ref_rel2 h hk (w := 1) (by decide) rfl rfl⟩
    · rw [gI_sA, gI_sI, if_pos ⟨rfl, rfl⟩]
    · rw [gL_sA, gL_sI, gL_sL, if_pos ⟨rfl, rfl⟩]
  have hw : inC w 240 := Classical.byContradiction fun z => hz (Or.inl z)
  have h3 : ¬ slC E b 1 s = 3 := fun z => hz (Or.inr z)
  obtain ⟨e, he, rfl⟩ := inC_nI (l := 240) hw (by decide)
  have hcl := c_X11_word (d := 52) ci ac hs he h3
  obtain ⟨v2, hv2⟩ : ∃ v2 : Nat → Int32, v2 = fun q => if q = 15 then (if e = 0 then -1 else nI s) else if q = 16 then nI e else pkF E q := ⟨_, rfl⟩
  have hv : ∀ q, v2 q = if q = 15 then (if e = 0 then -1 else nI s) else if q = 16 then nI e else pkF E q := fun q => by rw [hv2]
  have e0 : (if nI e = 0 then (-1 : Int32) else nI s) = (if e = 0 then -1 else nI s) := by
    by_cases z : e = 0
    · rw [if_pos z, if_pos ((nI_is0 (by omega)).mpr z)]
    · rw [if_neg z, if_neg (fun y => z ((nI_is0 (by omega)).mp y))]
  obtain ⟨EA, hEA⟩ : ∃ EA, piAdd 51 120 k 40 2 (gI E 516 46) (gI E 517 46) E = EA := ⟨_, rfl⟩
  have fA : Fr (fun q => q = 51 ∨ q = 53) E EA := by rw [← hEA]; exact add_ids
  have gi : ∀ g q, ¬ (g = 386 ∧ q = 51) → gI EA g q = gI E g q := fun g q z => by rw [← hEA]; exact gI_piAdd z
  have ga : ∀ q, q ≠ 51 → q ≠ 53 → gA EA q = gA E q := fun q z1 z2 => fr_gA fA (by omega)
  rw [hEA] at hcl
  have hc : ActC L E (plSay EA 46 (nI s) (nI e)) k 2 (gI E 516 46) (gI E 517 46) v2 := by
    have g5 : ∀ g, g ≠ 516 → g ≠ 517 → gI (plSay EA 46 (nI s) (nI e)) g 46 = gI EA g 46 := fun g z1 z2 => by
      unfold plSay
      rw [gI_sI, if_neg (fun z => z2 z.1), gI_sI, if_neg (fun z => z1 z.1)]
    refine act_c2 hEA (fr_sI (Or.inl rfl) (fr_sI (Or.inl rfl) fr_rfl)) (sr_sI (sr_sI sr_rfl)) (g5 _ (by decide) (by decide)) (g5 _ (by decide) (by decide)) n4 k40 (pc_mk (fun q hq hl0 => ?_) (fun q hq => ?_) ?_ ?_ ?_ ?_)
    · show gA EA 48 q = _
      rw [ga 48 (by decide) (by decide), hv, if_neg (by omega), if_neg (by omega)]; exact co q hq hl0
    · show gA EA 50 q = _
      rw [ga 50 (by decide) (by decide), hv, if_neg (by omega), if_neg (by omega)]; exact cu q hq
    · rw [g5 _ (by decide) (by decide), gi _ _ (by decide), c14, hv, if_neg (by decide), if_neg (by decide)]
    · unfold plSay
      rw [gI_sI, if_neg (by decide), gI_sI, if_pos ⟨rfl, rfl⟩, hv, if_pos rfl]; exact e0
    · unfold plSay
      rw [gI_sI, if_pos ⟨rfl, rfl⟩, hv, if_neg (by decide), if_pos rfl]
    · rw [g5 _ (by decide) (by decide), gi _ _ (by decide), c17, hv, if_neg (by decide), if_neg (by decide)]
  have hok : OKp L (slC E b) v2 := by
    obtain ⟨q1, q2, q3, q4, q5, q6, q8, q9⟩ := s1
    have e1 : ∀ q, q ≠ 15 → q ≠ 16 → v2 q = pkF E q := fun q z y => by rw [hv, if_neg z, if_neg y]
    have e15 : v2 15 = if e = 0 then -1 else nI s := by rw [hv, if_pos rfl]
    have e16 : v2 16 = nI e := by rw [hv, if_neg (by decide), if_pos rfl]
    refine ⟨fun i hi => by rw [e1 i (by omega) (by omega)]; exact q1 i hi, fun i j hi hj z => q2 i j hi hj (by rw [← e1 i (by omega) (by omega), ← e1 j (by omega) (by omega)]; exact z), fun s hs => (by obtain ⟨i, hi, z⟩ := q3 s hs; exact ⟨i, hi, by rw [e1 i (by omega) (by omega)]; exact z⟩), by rw [e1 14 (by decide) (by decide)]; exact q4, by rw [e16]; exact ⟨e, he, rfl⟩, ?_, ?_, fun s hs => by rw [e1 (7 + s) (by omega) (by omega)]; exact q9 s hs⟩
    · rw [e15]
      by_cases z : e = 0
      · rw [if_pos z]; exact Or.inl rfl
      · rw [if_neg z]; exact Or.inr ⟨s, hs, rfl⟩
    · rw [e15, e16, nI_is0 (by omega)]
      by_cases z : e = 0
      · rw [if_pos z]; exact ⟨fun _ => rfl, fun _ => z⟩
      · rw [if_neg z]; exact ⟨fun y => absurd y z, fun y => absurd y (nI_no1 (by omega))⟩
  have hca : gI E 517 46 = gI E 1564 95 := c16
  refine (act_p (gs := [1563, 1564]) (as := []) h hk hcl hc (by decide) (by decide) (Or.inr (Or.inr (Or.inl ⟨rfl, fun q hq => ?_⟩))) hok (fun ex => ?_)).2
  · obtain ⟨q1, q2, q3, q4, q5, q6, q8, q9⟩ := s1
    by_cases z : q = 15
    · rw [if_pos z, z, c15, c16]
      by_cases y : pkF E 16 = 0
      · rw [if_pos y]; exact q8.mp y
      · rw [if_neg y]
    · rw [if_neg z]
      by_cases y : q = 16
      · rw [if_pos y, y, c16]
      · rw [if_neg y, hv, if_neg z, if_neg y]
  · obtain ⟨a1, a2, a3, ff⟩ := act_m h hc ex
    obtain ⟨EM, kd, ho, ho2, hm⟩ := m_word (d := 52) (kd := slC E b 1 s) a1 a2 k40 a3 l7 hs he (by rw [(ff 99 (by omega)).2]; exact hkd s hs) h3
    refine ⟨EM, kd, pk_mk (fun q hq => ?_) (fun q hq => ?_) ?_ ?_ ?_ ?_, by rw [hca, ← (ff 95 (by omega)).1 1564]; exact hm⟩
    · rw [mf_gA kd.1 (by decide), (ff 109 (by omega)).2, mo q hq, hv, if_neg (by omega), if_neg (by omega)]
    · rw [mf_gA kd.1 (by decide), (ff 103 (by omega)).2, mu q hq, hv, if_neg (by omega), if_neg (by omega)]
    · rw [mf_gI kd.1 (by decide), (ff 95 (by omega)).1, hv, if_neg (by decide), if_neg (by decide)]; rfl
    · rw [ho, hv, if_pos rfl]
    · rw [ho2, hv, if_neg (by decide), if_pos rfl]
    · rw [mf_gI kd.1 (by decide), (ff 95 (by omega)).1, hv, if_neg (by decide), if_neg (by decide)]; rfl
theorem xor_xor (a c : Int32) : a ^^^ c ^^^ c = a := by
  rw [Int32.xor_assoc, Int32.xor_self, Int32.xor_zero]
set_option maxHeartbeats 16000000 in
theorem o_bolster {E : HP} {b L m k S t : Nat} {R : List Int32} {x w q : Int32} (h : RelN E b L m R k S t) (hk : KpR E L) (h01 : w = 0 ∨ w = 1) : OpP yX11_bolster mX11_bolster yX12_bolster mX12_bolster [.int x, .int w] E := by
  have ci := (ci_of h).1
  obtain ⟨l7, m1, m6⟩ := l7_of h
  obtain ⟨hC, hM, hQ⟩ := rel_td h
  obtain ⟨n1, n2, n3, ⟨n4, n5, n6⟩, ⟨n7, n8, n9⟩, ⟨s1, s2, s3, s4⟩⟩ := id h.2.1
  have hL : gA E 98 0 = nI L := h.1.2.1.2
  have k40 : k ≤ 40 := s2.1
  have ac : piSz E 137 51 120 k 40 := ⟨cr_pile51 hC, n4, n5, rfl, k40, by decide, by decide⟩
  obtain ⟨co, cu, c14, c15, c16, c17⟩ := pc_at l7 n3
  obtain ⟨mo, mu⟩ := pk_at (E := E)
  have hbo : ∀ y, bolM E y = bolV E 46 y := fun y => by
    unfold bolM bolV
    rw [c17]; rfl
  by_cases hx : x < 1 ∨ 6 < x ∨ bolV E 46 x = w
  · have hcl := x_bolster (d := 52) ci hx
    have hMr : MoOK (stRefuse 45 1 E) := fun q hq => sr_gR (sr_stRefuse sr_rfl) (hM q hq)
    have e98 : gA (stRefuse 45 1 E) 98 = gA E 98 := fr_gA (P := fun q => q = 58) (fr_put (h := 57) rfl fr_rfl) (by decide)
    have e99 : gA (stRefuse 45 1 E) 99 = gA E 99 := fr_gA (P := fun q => q = 58) (fr_put (h := 57) rfl fr_rfl) (by decide)
    have i95 : ∀ g, gI (stRefuse 45 1 E) g 95 = gI E g 95 := fun g => fr_gI (P := fun q => q = 58) (fr_put (h := 57) rfl fr_rfl) (by decide) g
    have hm := m_bolsterX (d := 52) (E := stRefuse 45 1 E) (x := x) hMr h01 (by
      have e : bolM (stRefuse 45 1 E) x = bolM E x := by unfold bolM; rw [i95]
      rw [e, hbo]; exact hx)
    exact ⟨_, _, 0, 0, by decide, by decide, hcl, _, hm, ref_rel h hk (w := 1) (by decide) rfl rfl⟩
  have hx1 : ¬ x < 1 := fun z => hx (Or.inl z)
  have hx6 : ¬ 6 < x := fun z => hx (Or.inr (Or.inl z))
  have hxw : ¬ bolV E 46 x = w := fun z => hx (Or.inr (Or.inr z))
  obtain ⟨p, hp6, rfl⟩ := inC_nI (l := 6) ⟨fun z => hx1 (Int32.lt_trans z (by decide)), Int32.not_lt.mp hx6⟩ (by decide)
  have hp1 : 1 ≤ p := by
    rcases Nat.eq_zero_or_pos p with z | z
    · exact absurd (show nI p < 1 by rw [z]; decide) hx1
    · exact z
  have hcl := c_X11_bolster (d := 52) ci ac hp1 hp6 hxw
  obtain ⟨v2, hv2⟩ : ∃ v2 : Nat → Int32, v2 = fun q => if q = 17 then pkF E 17 ^^^ (1 <<< (nI p &&& 31)) else pkF E q := ⟨_, rfl⟩
  have hv : ∀ q, v2 q = if q = 17 then pkF E 17 ^^^ (1 <<< (nI p &&& 31)) else pkF E q := fun q => by rw [hv2]
  obtain ⟨EA, hEA⟩ : ∃ EA, piAdd 51 120 k 40 3 (nI p) 0 E = EA := ⟨_, rfl⟩
  have fA : Fr (fun q => q = 51 ∨ q = 53) E EA := by rw [← hEA]; exact add_ids
  have gi : ∀ g q, ¬ (g = 386 ∧ q = 51) → gI EA g q = gI E g q := fun g q z => by rw [← hEA]; exact gI_piAdd z
  have ga : ∀ q, q ≠ 51 → q ≠ 53 → gA EA q = gA E q := fun q z1 z2 => fr_gA fA (by omega)
  rw [hEA] at hcl
  have hc : ActC L E (sI EA 518 46 (gI EA 518 46 ^^^ (1 <<< (nI p &&& 31)))) k 3 (nI p) 0 v2 := by
    refine act_c2 hEA (fr_sI (Or.inl rfl) fr_rfl) (sr_sI sr_rfl) (by rw [gI_sI, if_neg (by decide)]) (by rw [gI_sI, if_neg (by decide)]) n4 k40 (pc_mk (fun q hq hl0 => ?_) (fun q hq => ?_) ?_ ?_ ?_ ?_)
    · rw [gA_sI, ga (46 + 2) (by decide) (by decide), hv, if_neg (by omega)]; exact co q hq hl0
    · rw [gA_sI, ga (46 + 4) (by decide) (by decide), hv, if_neg (by omega)]; exact cu q hq
    · rw [gI_sI, if_neg (by decide), gi _ _ (by decide), c14, hv, if_neg (by decide)]
    · rw [gI_sI, if_neg (by decide), gi _ _ (by decide), c15, hv, if_neg (by decide)]
    · rw [gI_sI, if_neg (by decide), gi _ _ (by decide), c16, hv, if_neg (by decide)]
    · rw [gI_sI, if_pos ⟨rfl, rfl⟩, gi _ _ (by decide), c17, hv, if_pos rfl]
  have hok : OKp L (slC E b) v2 := by
    obtain ⟨q1, q2, q3, q4, q5, q6, q8, q9⟩ := s1
    have e : ∀ q, q ≠ 17 → v2 q = pkF E q := fun q z => by rw [hv, if_neg z]
    exact ⟨fun i hi => by rw [e i (by omega)]; exact q1 i hi, fun i j hi hj z => q2 i j hi hj (by rw [← e i (by omega), ← e j (by omega)]; exact z), fun s hs => (by obtain ⟨i, hi, z⟩ := q3 s hs; exact ⟨i, hi, by rw [e i (by omega)]; exact z⟩), by rw [e 14 (by decide)]; exact q4, by rw [e 16 (by decide)]; exact q5, by rw [e 15 (by decide)]; exact q6, by rw [e 15 (by decide), e 16 (by decide)]; exact q8, fun s hs => by rw [e (7 + s) (by omega)]; exact q9 s hs⟩
  refine (act_p (gs := [1565]) (as := []) h hk hcl hc (by decide) (by decide) (Or.inr (Or.inr (Or.inr (Or.inl ⟨rfl, p, hp1, hp6, rfl, fun q hq => ?_⟩)))) hok (fun ex => ?_)).1
  · by_cases z : q = 17
    · rw [if_pos z, z, hv, if_pos rfl, xor_xor]
    · rw [if_neg z, hv, if_neg z]
  · obtain ⟨a1, a2, a3, ff⟩ := act_m h hc ex
    have hbx : ¬ bolM (sL (sI EA 518 46 (gI EA 518 46 ^^^ (1 <<< (nI p &&& 31)))) 136 0 ex) (nI p) = w := by
      have e : bolM (sL (sI EA 518 46 (gI EA 518 46 ^^^ (1 <<< (nI p &&& 31)))) 136 0 ex) (nI p) = bolM E (nI p) := by unfold bolM; rw [(ff 95 (by omega)).1]
      rw [e, hbo]; exact hxw
    obtain ⟨EM, kd, ho, hm⟩ := m_bolster (d := 52) a1 a2 k40 hp1 hp6 h01 hbx
    refine ⟨EM, kd, pk_mk (fun q hq => ?_) (fun q hq => ?_) ?_ ?_ ?_ ?_, hm⟩
    · rw [mf_gA kd.1 (by decide), (ff 109 (by omega)).2, mo q hq, hv, if_neg (by omega)]
    · rw [mf_gA kd.1 (by decide), (ff 103 (by omega)).2, mu q hq, hv, if_neg (by omega)]
    · rw [mf_gI kd.1 (by decide), (ff 95 (by omega)).1, hv, if_neg (by decide)]; rfl
    · rw [mf_gI kd.1 (by decide), (ff 95 (by omega)).1, hv, if_neg (by decide)]; rfl
    · rw [mf_gI kd.1 (by decide), (ff 95 (by omega)).1, hv, if_neg (by decide)]; rfl
    · rw [ho, (ff 95 (by omega)).1, hv, if_pos rfl]; rfl
set_option maxHeartbeats 16000000 in
theorem o_out {E : HP} {b L m k S t : Nat} {R : List Int32} {x w q : Int32} (h : RelN E b L m R k S t) (hk : KpR E L) : OpT false yX11_out mX11_out yX12_out mX12_out [.int x, .int w] E := by
  have ci := (ci_of h).1
  obtain ⟨l7, m1, m6⟩ := l7_of h
  obtain ⟨hC, hM, hQ⟩ := rel_td h
  obtain ⟨n1, n2, n3, ⟨n4, n5, n6⟩, ⟨n7, n8, n9⟩, ⟨s1, s2, s3, s4⟩⟩ := id h.2.1
  have hL : gA E 98 0 = nI L := h.1.2.1.2
  have k40 : k ≤ 40 := s2.1
  have ac : piSz E 137 51 120 k 40 := ⟨cr_pile51 hC, n4, n5, rfl, k40, by decide, by decide⟩
  obtain ⟨co, cu, c14, c15, c16, c17⟩ := pc_at l7 n3
  obtain ⟨mo, mu⟩ := pk_at (E := E)
  have hkd : ∀ s, s < L → gA E 99 s = slC E b 1 s := fun s hs => (h.1.2.2.2.2.2 s hs).1
  by_cases hx : inB x (nI L)
  rotate_left
  · exact op_nse h hk (x_out1 (d := 52) (s := 0) ci hx) qf_rfl fun Ex hMD hR _ => m_out1 (d := 52) (rel_td hR).2.1 hR.1.2.1.2 l7 hx
  obtain ⟨s, hs, rfl⟩ := inB_nI hx (by omega)
  by_cases hz : ¬ inC w 600 ∨ slC E b 1 s = 3
  · have hcl := x_out2 (d := 52) ci hs hz
    have hMr : MoOK (stRefuse 45 1 E) := fun q hq => sr_gR (sr_stRefuse sr_rfl) (hM q hq)
    have e98 : gA (stRefuse 45 1 E) 98 = gA E 98 := fr_gA (P := fun q => q = 58) (fr_put (h := 57) rfl fr_rfl) (by decide)
    have e99 : gA (stRefuse 45 1 E) 99 = gA E 99 := fr_gA (P := fun q => q = 58) (fr_put (h := 57) rfl fr_rfl) (by decide)
    have i95 : ∀ g, gI (stRefuse 45 1 E) g 95 = gI E g 95 := fun g => fr_gI (P := fun q => q = 58) (fr_put (h := 57) rfl fr_rfl) (by decide) g
    have hm := fun ex : Int64 => m_out2 (d := 52) (E := sL (stRefuse 45 1 E) 136 0 ex) hMr (by show gA (stRefuse 45 1 E) 98 0 = _; rw [e98]; exact hL) l7 hs (show gA (stRefuse 45 1 E) 99 s = slC E b 1 s by rw [e99]; exact hkd s hs) hz
    refine Or.inl ⟨_, _, 0, 0, by decide, by decide, hcl, _, hm _, ?_, ?_, ref_rel2 h hk (w := 1) (by decide) rfl rfl⟩
    · rw [gI_sA, gI_sI, if_pos ⟨rfl, rfl⟩]
    · rw [gL_sA, gL_sI, gL_sL, if_pos ⟨rfl, rfl⟩]
  have hw : inC w 600 := Classical.byContradiction fun z => hz (Or.inl z)
  have h3 : ¬ slC E b 1 s = 3 := fun z => hz (Or.inr z)
  obtain ⟨e, he, rfl⟩ := inC_nI (l := 600) hw (by decide)
  have hcl := c_X11_out (d := 52) ci ac hs he h3
  obtain ⟨v2, hv2⟩ : ∃ v2 : Nat → Int32, v2 = fun q => if q = 7 + s then nI e else pkF E q := ⟨_, rfl⟩
  have hv : ∀ q, v2 q = if q = 7 + s then nI e else pkF E q := fun q => by rw [hv2]
  obtain ⟨EA, hEA⟩ : ∃ EA, piAdd 51 120 k 40 4 (nI s) (gA E 50 s) E = EA := ⟨_, rfl⟩
  have fA : Fr (fun q => q = 51 ∨ q = 53) E EA := by rw [← hEA]; exact add_ids
  have gi : ∀ g q, ¬ (g = 386 ∧ q = 51) → gI EA g q = gI E g q := fun g q z => by rw [← hEA]; exact gI_piAdd z
  have ga : ∀ q, q ≠ 51 → q ≠ 53 → gA EA q = gA E q := fun q z1 z2 => fr_gA fA (by omega)
  rw [hEA] at hcl
  have hc : ActC L E (sA EA 50 s (nI e)) k 4 (nI s) (gA E 50 s) v2 := by
    refine act_c2 hEA (fr_sA (Or.inr (Or.inr rfl)) fr_rfl) (sr_sA sr_rfl) rfl rfl n4 k40 (pc_mk (fun q hq hl0 => ?_) (fun q hq => ?_) ?_ ?_ ?_ ?_)
    · show gA (sA EA 50 s (nI e)) 48 q = _
      rw [gA_sA, if_neg (fun z => absurd z.1 (by decide)), ga 48 (by decide) (by decide), hv, if_neg (by omega)]; exact co q hq hl0
    · show gA (sA EA 50 s (nI e)) 50 q = _
      rw [gA_sA, hv]
      by_cases z : q = s
      · rw [if_pos ⟨rfl, z⟩, if_pos (by omega)]
      · rw [if_neg (fun y => z y.2), if_neg (by omega), ga 50 (by decide) (by decide)]; exact cu q hq
    · rw [gI_sA, gi _ _ (by decide), c14, hv, if_neg (by omega)]
    · rw [gI_sA, gi _ _ (by decide), c15, hv, if_neg (by omega)]
    · rw [gI_sA, gi _ _ (by decide), c16, hv, if_neg (by omega)]
    · rw [gI_sA, gi _ _ (by decide), c17, hv, if_neg (by omega)]
  have hok : OKp L (slC E b) v2 := by
    obtain ⟨q1, q2, q3, q4, q5, q6, q8, q9⟩ := s1
    have e1 : ∀ q, q ≠ 7 + s → v2 q = pkF E q := fun q z => by rw [hv, if_neg z]
    refine ⟨fun i hi => by rw [e1 i (by omega)]; exact q1 i hi, fun i j hi hj z => q2 i j hi hj (by rw [← e1 i (by omega), ← e1 j (by omega)]; exact z), fun s hs => (by obtain ⟨i, hi, z⟩ := q3 s hs; exact ⟨i, hi, by rw [e1 i (by omega)]; exact z⟩), by rw [e1 14 (by omega)]; exact q4, by rw [e1 16 (by omega)]; exact q5, by rw [e1 15 (by omega)]; exact q6, by rw [e1 15 (by omega), e1 16 (by omega)]; exact q8, fun r hr => ?_⟩
    by_cases z : r = s
    · rw [hv, if_pos (by omega), z]
      exact ⟨⟨e, he, rfl⟩, fun y => absurd y h3⟩
    · rw [e1 (7 + r) (by omega)]; exact q9 r hr
  have hca : gA E 50 s = gA E 103 s := (cu s (by omega)).trans (mu s (by omega)).symm
  refine (act_p (gs := []) (as := [103]) h hk hcl hc (by decide) (by decide) (Or.inr (Or.inr (Or.inr (Or.inr ⟨rfl, s, by omega, rfl, fun q hq => ?_⟩)))) hok (fun ex => ?_)).2
  · by_cases z : q = 7 + s
    · rw [if_pos z, z, cu s (by omega)]
    · rw [if_neg z, hv, if_neg z]
  · obtain ⟨a1, a2, a3, ff⟩ := act_m h hc ex
    obtain ⟨EM, kd, ho, hm⟩ := m_out (d := 52) (kd := slC E b 1 s) a1 a2 k40 a3 l7 hs he (by rw [(ff 99 (by omega)).2]; exact hkd s hs) h3
    refine ⟨EM, kd, pk_mk (fun q hq => ?_) (fun q hq => ?_) ?_ ?_ ?_ ?_, by rw [hca, ← (ff 103 (by omega)).2]; exact hm⟩
    · rw [mf_gA kd.1 (by decide), (ff 109 (by omega)).2, mo q hq, hv, if_neg (by omega)]
    · rw [ho q, hv, (ff 103 (by omega)).2]
      by_cases z : q = s
      · rw [if_pos z, if_pos (by omega)]
      · rw [if_neg z, if_neg (by omega)]; exact mu q hq
    · rw [mf_gI kd.1 (by decide), (ff 95 (by omega)).1, hv, if_neg (by omega)]; rfl
    · rw [mf_gI kd.1 (by decide), (ff 95 (by omega)).1, hv, if_neg (by omega)]; rfl
    · rw [mf_gI kd.1 (by decide), (ff 95 (by omega)).1, hv, if_neg (by omega)]; rfl
    · rw [mf_gI kd.1 (by decide), (ff 95 (by omega)).1, hv, if_neg (by omega)]; rfl
