/-! The class and the model hold the same: what that says -/
def pcF (E : HP) (p j : Nat) : Int32 := if j < 7 then gA E (p + 2) j else if j < 14 then gA E (p + 4) (j - 7) else if j = 14 then gI E 515 p else if j = 15 then gI E 516 p else if j = 16 then gI E 517 p else gI E 518 p
/-- a plan of L sleepers: who lies where, 7 on who must out, 14 first, 15 who says the word, 16 every, 17 bolsters -/
def OKp (L : Nat) (sl : Nat → Nat → Int32) (v : Nat → Int32) : Prop := (∀ i, i < L → ∃ s, s < L ∧ v i = nI s) ∧ (∀ i j, i < L → j < L → v i = v j → i = j) ∧ (∀ s, s < L → ∃ i, i < L ∧ v i = nI s) ∧ (v 14 = 0 ∨ v 14 = 1) ∧ okv (v 16) 240 ∧ (v 15 = -1 ∨ ∃ s, s < L ∧ v 15 = nI s) ∧ (v 16 = 0 ↔ v 15 = -1) ∧ ∀ s, s < L → okv (v (7 + s)) 600 ∧ (sl 1 s = 3 → v (7 + s) = 0)
/-- an ACT (k, o, t) undone: v becomes w -/
def UndoR (k o t : Int32) (v w : Nat → Int32) : Prop := (k = 0 ∧ ∃ i j, i < 7 ∧ j < 7 ∧ o = nI i ∧ t = nI j ∧ ∀ q, q < 18 → w q = if q = j then v i else if q = i then v j else v q) ∨ (k = 1 ∧ ∀ q, q < 18 → w q = if q = 14 then o else v q) ∨ (k = 2 ∧ ∀ q, q < 18 → w q = if q = 15 then (if t = 0 then -1 else o) else if q = 16 then t else v q) ∨ (k = 3 ∧ ∃ p, 1 ≤ p ∧ p ≤ 6 ∧ o = nI p ∧ ∀ q, q < 18 → w q = if q = 17 then v 17 ^^^ (1 <<< (nI p &&& 31)) else v q) ∨ (k = 4 ∧ ∃ s, s < 7 ∧ o = nI s ∧ ∀ q, q < 18 → w q = if q = 7 + s then t else v q)
def AcR (L : Nat) (sl : Nat → Nat → Int32) (k : Nat) (ca ma v : Nat → Int32) : Prop := k ≤ 40 ∧ ∃ P : Nat → Nat → Int32, (∀ j, j < 18 → P k j = v j) ∧ ∀ i, i < k → OKp L sl (P i) ∧ (∀ j, j < 18 → ma (18 * i + j) = P i j) ∧ UndoR (ca (3 * i)) (ca (3 * i + 1)) (ca (3 * i + 2)) (P (i + 1)) (P i)
def SnR (L S : Nat) (cs mw mq md : Nat → Int32) : Prop := S ≤ 8 ∧ ∀ i, i < S → (∃ s, s < L ∧ cs (3 * i) = nI s ∧ mw i = nI s) ∧ (∃ q, q ≤ 600 ∧ cs (3 * i + 1) = nI q ∧ mq i = nI q) ∧ cs (3 * i + 2) = md i
def StR (L : Nat) (sl : Nat → Nat → Int32) (v : Nat → Int32) (k : Nat) (ca ma : Nat → Int32) (S : Nat) (cs mw mq md ct mt : Nat → Int32) : Prop := OKp L sl v ∧ AcR L sl k ca ma v ∧ SnR L S cs mw mq md ∧ ∀ i, i < 3 → ct i = mt i
theorem okp_cg {L : Nat} {sl : Nat → Nat → Int32} {v v2 : Nat → Int32} (h7 : L ≤ 7) (h : OKp L sl v) (e : ∀ j, j < 18 → v2 j = v j) : OKp L sl v2 := by
  obtain ⟨h1, h2, h3, h4, h5, h6, h8, h9⟩ := h
  refine ⟨fun i hi => by rw [e i (by omega)]; exact h1 i hi, fun i j hi hj z => h2 i j hi hj (by rw [← e i (by omega), ← e j (by omega)]; exact z), fun s hs => ?_, by rw [e 14 (by decide)]; exact h4, by rw [e 16 (by decide)]; exact h5, by rw [e 15 (by decide)]; exact h6, by rw [e 15 (by decide), e 16 (by decide)]; exact h8, fun s hs => by rw [e (7 + s) (by omega)]; exact h9 s hs⟩
  obtain ⟨i, hi, z⟩ := h3 s hs
  exact ⟨i, hi, by rw [e i (by omega)]; exact z⟩
theorem okp_sl {L : Nat} {sl sl2 : Nat → Nat → Int32} {v : Nat → Int32} (h : OKp L sl v) (e : sl2 = sl) : OKp L sl2 v := by rw [e]; exact h
theorem acr_cg {L k : Nat} {sl : Nat → Nat → Int32} {ca ca2 ma ma2 v v2 : Nat → Int32} (h : AcR L sl k ca ma v) (e1 : ∀ i, i < 120 → ca2 i = ca i) (e2 : ∀ i, i < 720 → ma2 i = ma i) (e3 : ∀ j, j < 18 → v2 j = v j) : AcR L sl k ca2 ma2 v2 := by
  obtain ⟨h1, P, h2, h3⟩ := h
  refine ⟨h1, P, fun j hj => (h2 j hj).trans (e3 j hj).symm, fun i hi => ?_⟩
  obtain ⟨a1, a2, a3⟩ := h3 i hi
  exact ⟨a1, fun j hj => (e2 _ (by omega)).trans (a2 j hj), by rw [e1 _ (by omega), e1 _ (by omega), e1 _ (by omega)]; exact a3⟩
theorem snr_cg {L S : Nat} {cs cs2 mw mw2 mq mq2 md md2 : Nat → Int32} (h : SnR L S cs mw mq md) (e1 : ∀ i, i < 24 → cs2 i = cs i) (e2 : ∀ i, i < 8 → mw2 i = mw i ∧ mq2 i = mq i ∧ md2 i = md i) : SnR L S cs2 mw2 mq2 md2 := by
  obtain ⟨h1, h2⟩ := h
  refine ⟨h1, fun i hi => ?_⟩
  obtain ⟨f1, f2, f3⟩ := e2 i (by omega)
  rw [e1 _ (by omega), e1 _ (by omega), e1 _ (by omega), f1, f2, f3]
  exact h2 i hi
theorem str_cg {L : Nat} {sl : Nat → Nat → Int32} {k S : Nat} {v v2 ca ca2 ma ma2 cs cs2 mw mw2 mq mq2 md md2 ct ct2 mt mt2 : Nat → Int32} (h7 : L ≤ 7) (h : StR L sl v k ca ma S cs mw mq md ct mt) (e0 : ∀ j, j < 18 → v2 j = v j) (e1 : ∀ i, i < 120 → ca2 i = ca i) (e2 : ∀ i, i < 720 → ma2 i = ma i) (e3 : ∀ i, i < 24 → cs2 i = cs i) (e4 : ∀ i, i < 8 → mw2 i = mw i ∧ mq2 i = mq i ∧ md2 i = md i) (e5 : ∀ i, i < 3 → ct2 i = ct i ∧ mt2 i = mt i) : StR L sl v2 k ca2 ma2 S cs2 mw2 mq2 md2 ct2 mt2 := ⟨okp_cg h7 h.1 e0, acr_cg h.2.1 e1 e2 e0, snr_cg h.2.2.1 e3 e4, fun i hi => by rw [(e5 i hi).1, (e5 i hi).2]; exact h.2.2.2 i hi⟩
/-- what the text told -/
def TdR (E : HP) (b L m : Nat) (R : List Int32) : Prop := (CR E b ∧ MoOK E ∧ QS E ∧ L ≤ 7 ∧ RuleIs E (b + 5) R ∧ gI E 1024 87 = 0) ∧ (gI E 4 b = nI L ∧ gA E 98 0 = nI L) ∧ (1 ≤ m ∧ m ≤ 600 ∧ gI E 7 b = nI m ∧ gA E 98 3 = nI m) ∧ (gI E 5 b = gA E 98 1 ∧ gI E 6 b = gA E 98 2 ∧ gI E 10 b = gA E 98 6 ∧ gI E 8 b = gA E 98 4 ∧ okv (gI E 8 b) 60) ∧ (gA E 98 7 = nI R.length ∧ ∀ i, i < R.length → gA E 106 i = mS (R.getD i 0)) ∧ ∀ s, s < L → gA E 99 s = slC E b 1 s ∧ gA E 100 (2 * s) = slC E b 2 s ∧ gA E 100 (2 * s + 1) = slC E b 3 s ∧ gA E 101 s = slC E b 4 s ∧ gA E 102 s = slC E b 5 s ∧ gA E 104 s = slC E b 7 s ∧ gA E (b + 4) s = gA E 105 s ∧ okv (slC E b 2 s) 240 ∧ okv (slC E b 3 s) 240 ∧ okv (slC E b 7 s) 10
/-- the entries of a plan that say something, of L sleepers -/
def Ix (L j : Nat) : Prop := j < 18 ∧ (j < 7 + L ∨ 14 ≤ j) ∧ (j < 7 → 0 < L)
/-- how it stands now -/
def NoR (E : HP) (L : Nat) (sl : Nat → Nat → Int32) (k S : Nat) : Prop := gI E 514 46 = nI L ∧ gI E 519 46 = freW (gA E 98 1) (gA E 98 2) (sl 5) nI L ∧ (∀ j, Ix L j → pcF E 46 j = pkF E j) ∧ (gI E 386 51 = nI k ∧ gI E 384 51 = nI 40 ∧ gI E 1566 95 = nI k) ∧ (gI E 386 54 = nI S ∧ gI E 384 54 = nI 8 ∧ gI E 1567 95 = nI S) ∧ StR L sl (pkF E) k (gA E 53) (gA E 110) S (gA E 56) (gA E 127) (gA E 128) (gA E 129) (gA E 58) (gA E 107)
/-- the image -/
def ThR (E : HP) (L : Nat) (sl : Nat → Nat → Int32) : Prop := (gI E 1416 0 = 0 ∧ gI E 1600 95 = 0) ∨ (gI E 1416 0 = 1 ∧ gI E 1600 95 = 1 ∧ ∃ k S, gI E 514 60 = nI L ∧ gI E 519 60 = freW (gA E 98 1) (gA E 98 2) (sl 5) nI L ∧ (∀ j, Ix L j → pcF E 60 j = gA E 130 j) ∧ (gI E 386 65 = nI k ∧ gI E 1601 95 = nI k) ∧ (gI E 386 68 = nI S ∧ gI E 1602 95 = nI S) ∧ StR L sl (gA E 130) k (gA E 67) (gA E 131) S (gA E 70) (gA E 132) (gA E 133) (gA E 134) (gA E 72) (gA E 135))
def TpR (E : HP) (t : Nat) : Prop := t ≤ 600 ∧ gI E 1409 0 = nI t ∧ gI E 1550 95 = nI t ∧ ∀ i, i < t → gA E 108 i = gA E 2 i ∧ okv (gA E 2 i) 255
def KpR (E : HP) (L : Nat) : Prop := (gI E 1418 0 = -1 ∧ gI E 1594 95 = 0) ∨ (gI E 1418 0 = nI L ∧ gI E 1594 95 = 1 ∧ ∃ l : List Nat, ∀ i, i < L → gA E 74 i = nI (gN l i) ∧ gA E 124 i = nI (gN l i))
def RelN (E : HP) (b L m : Nat) (R : List Int32) (k S t : Nat) : Prop := TdR E b L m R ∧ NoR E L (slC E b) k S ∧ ThR E L (slC E b) ∧ TpR E t ∧ gI E 1410 0 = gI E 1559 95
def Rel (E : HP) : Prop := ∃ b L m R k S t, RelN E b L m R k S t ∧ KpR E L
/-! frames -/
def tdL : List (Nat × Nat) := [(98, 8), (99, 7), (100, 14), (101, 7), (102, 7), (104, 7), (105, 7), (106, 600)]
def TdC (b : Nat) (E E2 : HP) : Prop := CR E2 b ∧ MoOK E2 ∧ QS E2 ∧ slC E2 b = slC E b ∧ (∀ g, g < 11 → gI E2 g b = gI E g b) ∧ gI E2 897 (b + 5) = gI E 897 (b + 5) ∧ gI E2 1024 87 = gI E 1024 87 ∧ gA E2 (b + 4) = gA E (b + 4) ∧ gA E2 (b + 7) = gA E (b + 7) ∧ ∀ q ∈ tdL, ∀ i, i < q.2 → gA E2 q.1 i = gA E q.1 i
theorem td_cg {E E2 : HP} {b L m : Nat} {R : List Int32} (h : TdR E b L m R) (c : TdC b E E2) : TdR E2 b L m R := by
  obtain ⟨c1, c2, c3, c4, c5, c6, c7, c8, c9, ca⟩ := c
  obtain ⟨⟨-, -, -, h7, hR, h87⟩, ⟨k1, k2⟩, ⟨m1, m6, k3, k4⟩, ⟨w1, w2, w3, w4, w5⟩, ⟨r1, r2⟩, hs⟩ := h
  have g98 : ∀ i, i < 8 → gA E2 98 i = gA E 98 i := ca (98, 8) (by decide)
  have g99 : ∀ i, i < 7 → gA E2 99 i = gA E 99 i := ca (99, 7) (by decide)
  have g100 : ∀ i, i < 14 → gA E2 100 i = gA E 100 i := ca (100, 14) (by decide)
  have g101 : ∀ i, i < 7 → gA E2 101 i = gA E 101 i := ca (101, 7) (by decide)
  have g102 : ∀ i, i < 7 → gA E2 102 i = gA E 102 i := ca (102, 7) (by decide)
  have g104 : ∀ i, i < 7 → gA E2 104 i = gA E 104 i := ca (104, 7) (by decide)
  have g105 : ∀ i, i < 7 → gA E2 105 i = gA E 105 i := ca (105, 7) (by decide)
  have g106 : ∀ i, i < 600 → gA E2 106 i = gA E 106 i := ca (106, 600) (by decide)
  have hl := hR.2.1
  refine ⟨⟨c1, c2, c3, h7, ⟨c6.trans hR.1, hR.2.1, fun i hi => ?_, hR.2.2.2⟩, c7.trans h87⟩, ⟨(c5 4 (by decide)).trans k1, (g98 0 (by decide)).trans k2⟩, ⟨m1, m6, (c5 7 (by decide)).trans k3, (g98 3 (by decide)).trans k4⟩, ?_, ⟨(g98 7 (by decide)).trans r1, fun i hi => (g106 i (by omega)).trans (r2 i hi)⟩, fun s hl => ?_⟩
  · show gA E2 (b + 7) i = _
    rw [c9]; exact hR.2.2.1 i hi
  · rw [c5 5 (by decide), c5 6 (by decide), c5 8 (by decide), c5 10 (by decide), g98 1 (by decide), g98 2 (by decide), g98 4 (by decide), g98 6 (by decide)]
    exact ⟨w1, w2, w3, w4, w5⟩
  · rw [g99 s (by omega), g100 (2 * s) (by omega), g100 (2 * s + 1) (by omega), g101 s (by omega), g102 s (by omega), g104 s (by omega), g105 s (by omega), c4, c8]
    exact hs s hl
theorem pc_cg {E E2 : HP} {p : Nat} (h1 : gA E2 (p + 2) = gA E (p + 2)) (h2 : gA E2 (p + 4) = gA E (p + 4)) (h3 : ∀ g, gI E2 g p = gI E g p) : pcF E2 p = pcF E p := by
  funext j
  unfold pcF
  rw [h1, h2, h3, h3, h3, h3]
theorem pk_cp {E E2 : HP} (h1 : ∀ i, i < 7 → gA E2 109 i = gA E 109 i) (h2 : ∀ i, i < 7 → gA E2 103 i = gA E 103 i) (h3 : ∀ g ∈ [1562, 1563, 1564, 1565], gI E2 g 95 = gI E g 95) : pkF E2 = pkF E := by
  funext j
  unfold pkF
  rw [h3 1562 (by decide), h3 1563 (by decide), h3 1564 (by decide), h3 1565 (by decide)]
  by_cases a : j < 7
  · rw [if_pos a, if_pos a]; exact h1 j a
  · rw [if_neg a, if_neg a]
    by_cases c : j < 14
    · rw [if_pos c, if_pos c]; exact h2 (j - 7) (by omega)
    · rw [if_neg c, if_neg c]
theorem pk_cg {E E2 : HP} (h1 : gA E2 109 = gA E 109) (h2 : gA E2 103 = gA E 103) (h3 : ∀ g ∈ [1562, 1563, 1564, 1565], gI E2 g 95 = gI E g 95) : pkF E2 = pkF E := by
  funext j
  unfold pkF
  rw [h1, h2, h3 1562 (by decide), h3 1563 (by decide), h3 1564 (by decide), h3 1565 (by decide)]
theorem td_lo : ∀ q ∈ tdL, 97 < q.1 ∧ q.1 ∉ 124 :: asQ := by decide
/-- the things that a question leaves -/
def FrK (b : Nat) (E E2 : HP) : Prop := CR E2 b ∧ MoOK E2 ∧ QS E2 ∧ (∀ g, g ≠ 1418 → gI E2 g 0 = gI E g 0) ∧ (∀ k, ((0 < k ∧ k < 74 ∧ k ≠ b + 9 ∧ k ≠ b + 11) ∨ k = 87) → (∀ g, gI E2 g k = gI E g k) ∧ gA E2 k = gA E k) ∧ (∀ g, g ∉ 1594 :: gsQ → gI E2 g 95 = gI E g 95) ∧ ∀ a, 97 < a → a ∉ 124 :: asQ → gA E2 a = gA E a
theorem rel_K {E E2 : HP} {b L m k S t : Nat} {R : List Int32} (h : RelN E b L m R k S t) (f : FrK b E E2) : RelN E2 b L m R k S t := by
  obtain ⟨f1, f2, f3, f4, f5, f6, f7⟩ := f
  have hb := f1.1
  have fi : ∀ k, ((0 < k ∧ k < 74 ∧ k ≠ b + 9 ∧ k ≠ b + 11) ∨ k = 87) → ∀ g, gI E2 g k = gI E g k := fun k z => (f5 k z).1
  have fa : ∀ k, ((0 < k ∧ k < 74 ∧ k ≠ b + 9 ∧ k ≠ b + 11) ∨ k = 87) → gA E2 k = gA E k := fun k z => (f5 k z).2
  have hsl : slC E2 b = slC E b := by
    funext j s
    unfold slC
    by_cases h : s < 7
    · rw [if_pos h, if_pos h, fi _ (by omega)]
    · rw [if_neg h, if_neg h]
  have htd : TdC b E E2 := ⟨f1, f2, f3, hsl, fun g _ => fi b (by omega) g, fi _ (by omega) _, fi 87 (by omega) _, fa _ (by omega), fa _ (by omega), fun q hq i _ => congrFun (f7 q.1 (td_lo q hq).1 (td_lo q hq).2) i⟩
  have hpc : ∀ p, p = 46 ∨ p = 60 → pcF E2 p = pcF E p := fun p hp => pc_cg (fa _ (by omega)) (fa _ (by omega)) (fi p (by omega))
  have hpk : pkF E2 = pkF E := pk_cg (f7 _ (by decide) (by decide)) (f7 _ (by decide) (by decide)) (fun g hg => f6 g (by simp at hg ⊢; omega))
  obtain ⟨h1, h2, h3, h4, h5⟩ := h
  refine ⟨td_cg h1 htd, ?_, ?_, ?_, ?_⟩
  · unfold NoR at *
    rw [hsl, hpc 46 (Or.inl rfl), hpk, fi 46 (by omega), fi 46 (by omega), fi 51 (by omega), fi 51 (by omega), fi 54 (by omega), fi 54 (by omega), f6 1566 (by decide), f6 1567 (by decide), f7 98 (by decide) (by decide), fa 53 (by omega), f7 110 (by decide) (by decide), fa 56 (by omega), f7 127 (by decide) (by decide), f7 128 (by decide) (by decide), f7 129 (by decide) (by decide), fa 58 (by omega), f7 107 (by decide) (by decide)]
    exact h2
  · unfold ThR at *
    rw [hsl, hpc 60 (Or.inr rfl), f4 1416 (by decide), f6 1600 (by decide), f6 1601 (by decide), f6 1602 (by decide), fi 60 (by omega), fi 60 (by omega), fi 65 (by omega), fi 68 (by omega), f7 98 (by decide) (by decide), fa 67 (by omega), fa 70 (by omega), fa 72 (by omega), f7 130 (by decide) (by decide), f7 131 (by decide) (by decide), f7 132 (by decide) (by decide), f7 133 (by decide) (by decide), f7 134 (by decide) (by decide), f7 135 (by decide) (by decide)]
    exact h3
  · unfold TpR at *
    rw [f4 1409 (by decide), f6 1550 (by decide), fa 2 (by omega), f7 108 (by decide) (by decide)]
    exact h4
  · rw [f4 1410 (by decide), f6 1559 (by decide)]
    exact h5
theorem mo_kr {E E2 : HP} (h : KR E E2) (o : MoOK E) : MoOK E2 := fun q hq => (h.1 _ _ (by omega) (by omega) (by omega) (by omega) (by decide)).trans (o q hq)
theorem frk_qo {b : Nat} {E E2 : HP} (hc : CR E b) (hM : MoOK E) (hQ : QS E) (h : QO b E E2) : FrK b E E2 := by
  have hb := hc.1
  have no : ∀ k, ((0 < k ∧ k < 74 ∧ k ≠ b + 9 ∧ k ≠ b + 11) ∨ k = 87 ∨ 94 < k) → ¬ Qo b k := fun k z => qo_no hb (by omega)
  refine ⟨cr_kr h.2.1 hc, mo_kr h.2.1 hM, ⟨fun i hi => by rw [fr_gQ h.1 (no 96 (by omega))]; exact hQ.1 i hi, fun i hi => by rw [fr_gQ h.1 (no 97 (by omega))]; exact hQ.2 i hi⟩, fun g hg => h.2.2 g hg, fun k z => ⟨fun g => fr_gI h.1 (no k (by omega)) g, fr_gA h.1 (no k (by omega))⟩, fun g _ => fr_gI h.1 (no 95 (by omega)) g, fun a ha _ => fr_gA h.1 (no a (by omega))⟩
theorem frk_qf {b : Nat} {E E2 : HP} (hc : CR E b) (hM : MoOK E) (hQ : QS E) (h : QF b E E2) : FrK b E E2 := frk_qo hc hM hQ (qo_of hc.1 h)
theorem cr_mf {gs as : List Nat} {E E2 : HP} {b : Nat} (h : MF gs as E E2) (c : CR E b) : CR E2 b := cr_sr (show SR E E2 from ⟨h.2.1, by rw [h.2.2.2]⟩) c
theorem qs_mf {gs as : List Nat} {E E2 : HP} (h : MF gs as E E2) (hQ : QS E) : QS E2 := ⟨fun i hi => by rw [mf_gQ h]; exact hQ.1 i hi, fun i hi => by rw [mf_gQ h]; exact hQ.2 i hi⟩
theorem frk_mf {b : Nat} {E E2 : HP} (hc : CR E b) (hM : MoOK E) (hQ : QS E) (h : MF (1594 :: gsQ) (124 :: asQ) E E2) : FrK b E E2 := by
  have hlo : ∀ a, a ∈ 124 :: asQ → 97 < a := by decide
  refine ⟨cr_mf h hc, mf_mo h hM, qs_mf h hQ, fun g _ => mf_gI2 h (by decide), fun k z => ⟨fun g => mf_gI2 h (by omega), mf_gA h (fun y => by have := hlo k y; have hb := hc.1; omega)⟩, fun g hg => mf_gI h hg, fun a _ ha => mf_gA h ha⟩
theorem rel_td {E : HP} {b L m k S t : Nat} {R : List Int32} (h : RelN E b L m R k S t) : CR E b ∧ MoOK E ∧ QS E := ⟨h.1.1.1, h.1.1.2.1, h.1.1.2.2.1⟩
theorem rel_qo {E E2 : HP} {b L m k S t : Nat} {R : List Int32} (h : RelN E b L m R k S t) (f : QO b E E2) : RelN E2 b L m R k S t := rel_K h (frk_qo (rel_td h).1 (rel_td h).2.1 (rel_td h).2.2 f)
theorem rel_qf {E E2 : HP} {b L m k S t : Nat} {R : List Int32} (h : RelN E b L m R k S t) (f : QF b E E2) : RelN E2 b L m R k S t := rel_K h (frk_qf (rel_td h).1 (rel_td h).2.1 (rel_td h).2.2 f)
theorem rel_mf {E E2 : HP} {b L m k S t : Nat} {R : List Int32} (h : RelN E b L m R k S t) (f : MF (1594 :: gsQ) (124 :: asQ) E E2) : RelN E2 b L m R k S t := rel_K h (frk_mf (rel_td h).1 (rel_td h).2.1 (rel_td h).2.2 f)
theorem rel_aq {E E2 : HP} {b L m k S t : Nat} {R : List Int32} {x : Int32} (h : RelN E b L m R k S t) (f : AQ E E2 x) : RelN E2 b L m R k S t := rel_mf h (mf_mono f.1 (fun g hg => List.mem_cons_of_mem _ hg) (fun a ha => List.mem_cons_of_mem _ ha))
theorem kp_qf {E E2 : HP} {b L : Nat} (hb : b = 3 ∨ b = 22) (h : KpR E L) (f : QF b E E2) : KpR E2 L := by
  unfold KpR at *
  rw [fr_gI f.1 (qq_no hb (by omega)), fr_gI f.1 (qq_no hb (by omega)), fr_gA f.1 (k := 74) (qq_no hb (by omega)), fr_gA f.1 (k := 124) (qq_no hb (by omega))]
  exact h
theorem kp_aq {E E2 : HP} {L : Nat} {x : Int32} (h : KpR E L) (f : AQ E E2 x) : KpR E2 L := by
  unfold KpR at *
  rw [mf_gI2 f.1 (by decide), mf_gI f.1 (by decide), mf_gA f.1 (by decide), mf_gA f.1 (by decide)]
  exact h
/-! what the contracts ask -/
theorem ful_v {L : Nat} {sl : Nat → Nat → Int32} {v : Nat → Int32} {c : Cfg} (h7 : L ≤ 7) (h : OKp L sl v) (e0 : ∀ i, i < L → cO c i = v i) (e1 : cF c = v 14) (e2 : cS c = v 15) (e3 : cE c = v 16) : cful L c := by
  obtain ⟨h1, h2, h3, h4, ⟨e, he, h5⟩, h6, h8, -⟩ := h
  have sur : ∀ s, s < L → ∃ i, i < L ∧ cO c i = nI s := fun s hs => by
    obtain ⟨i, hi, z⟩ := h3 s hs
    exact ⟨i, hi, (e0 i hi).trans z⟩
  refine ⟨⟨Nat.le_refl _, h7, fun i hi => by rw [e0 i hi]; exact h1 i hi, fun i j hi hj z => h2 i j hi hj (by rw [← e0 i hi, ← e0 j hj]; exact z), ⟨e, he, e3.trans h5⟩, fun z => ?_, by rw [e1]; exact h4⟩, sur⟩
  rcases h6 with y | ⟨s, hs, y⟩
  · rw [e3, h8.mpr y] at z
    exact absurd z (by decide)
  · rw [e2, y]; exact sur s hs
theorem ci_of {E : HP} {b L m k S t : Nat} {R : List Int32} (h : RelN E b L m R k S t) : CI E b L m R ∧ cful L (cfgP E 46) := by
  obtain ⟨⟨⟨hC, hM, hQ, h7, hR, h87⟩, ⟨h4, h98⟩, ⟨m1, m6, hm, -⟩, -⟩, ⟨n1, n2, n3, n4, n5, n6⟩, -⟩ := h
  have hc : cful L (cfgP E 46) := ful_v h7 n6.1 (fun i hi => by rw [← n3 i ⟨by omega, by omega⟩]; show gA E 48 i = pcF E 46 i; unfold pcF; rw [if_pos (by omega)]) (by rw [← n3 14 ⟨by decide, by omega⟩]; rfl) (by rw [← n3 15 ⟨by decide, by omega⟩]; rfl) (by rw [← n3 16 ⟨by decide, by omega⟩]; rfl)
  refine ⟨⟨hC, h4, n1, hc.1, hc.2, hR, h87, ⟨m1, m6, hm⟩, ?_⟩, hc⟩
  rw [n2]
  unfold freW
  split
  · exact Or.inl rfl
  · exact Or.inr rfl
theorem md_of {E : HP} {b L m k S t : Nat} {R : List Int32} (h : RelN E b L m R k S t) : MD E L m (slC E b) (gI E 8 b) R (cfgP E 46) (gI E 519 46) := by
  have hcf := (ci_of h).2
  obtain ⟨⟨⟨hC, hM, hQ, h7, hR, h87⟩, ⟨h4, h98⟩, ⟨m1, m6, hm, hm2⟩, ⟨w1, w2, w3, w4, w5⟩, ⟨r1, r2⟩, hs⟩, ⟨n1, n2, n3, n4, n5, n6⟩, -⟩ := h
  have p : ∀ j, Ix L j → pkF E j = pcF E 46 j := fun j hj => (n3 j hj).symm
  have p14 : gI E 1562 95 = gI E 515 46 := p 14 ⟨by decide, by omega, by omega⟩
  have p15 : gI E 1563 95 = gI E 516 46 := p 15 ⟨by decide, by omega, by omega⟩
  have p16 : gI E 1564 95 = gI E 517 46 := p 16 ⟨by decide, by omega, by omega⟩
  have p17 : gI E 1565 95 = gI E 518 46 := p 17 ⟨by decide, by omega, by omega⟩
  refine ⟨hM, h98, hcf, fun i hi => ⟨?_, ?_⟩, p14, p15, p16, p17, fun z y => ?_, fun s hl => ?_, ⟨m1, m6, hm2⟩, w4.symm, ?_, r1, hR.2.1, r2, hR.2.2.2, ?_⟩
  · have e := p i ⟨by omega, by omega, by omega⟩
    unfold pkF pcF at e
    rw [if_pos (by omega), if_pos (by omega)] at e
    exact e
  · have e := p (7 + i) ⟨by omega, by omega, by omega⟩
    unfold pkF pcF at e
    rw [if_neg (by omega), if_pos (by omega), if_neg (by omega), if_pos (by omega), show 7 + i - 7 = i by omega] at e
    exact e
  · have z : 0 < gI E 517 46 := z
    have y : gI E 516 46 = -1 := y
    obtain ⟨-, -, -, -, -, -, o8, -⟩ := n6.1
    have e := o8.mpr (p15.trans y)
    have e : gI E 1564 95 = 0 := e
    rw [← p16, e] at z
    exact absurd z (by decide)
  · obtain ⟨a1, a2, a3, a4, a5, a6, -, a8, a9, -⟩ := hs s hl
    exact ⟨a1, a2, a3, a4, a5, a6, a8, a9⟩
  · obtain ⟨a, ha, e⟩ := w5
    exact ⟨a, ha, e⟩
  · rw [n2]
    exact (fre_perm h7 hcf.1.2.2.1 hcf.1.2.2.2.1 hcf.2).symm
theorem seen_c {E : HP} {L k S : Nat} {sl : Nat → Nat → Int32} (h7 : L ≤ 7) (h : NoR E L sl k S) : SeenC E L S (fun i => (gA E 127 i).toNatClampNeg) (fun i => (gA E 128 i).toNatClampNeg) (gA E 129) := by
  obtain ⟨-, -, -, -, ⟨s1, -, -⟩, -, -, ⟨s8, hs⟩, -⟩ := h
  refine ⟨s1, s8, fun i hi => ?_⟩
  obtain ⟨⟨s, hs1, e1, e2⟩, ⟨q, hq, e3, e4⟩, e5⟩ := hs i hi
  have a1 : (gA E 127 i).toNatClampNeg = s := by rw [e2, nI_clamp (by omega)]
  have a2 : (gA E 128 i).toNatClampNeg = q := by rw [e4, nI_clamp (by omega)]
  refine ⟨?_, ?_, ?_, ?_, e5⟩
  · show (gA E 127 i).toNatClampNeg < L
    rw [a1]; exact hs1
  · show (gA E 128 i).toNatClampNeg ≤ 600
    rw [a2]; exact hq
  · show _ = nI (gA E 127 i).toNatClampNeg
    rw [a1]; exact e1
  · show _ = nI (gA E 128 i).toNatClampNeg
    rw [a2]; exact e3
theorem seen_m {E : HP} {L k S : Nat} {sl : Nat → Nat → Int32} (h7 : L ≤ 7) (h : NoR E L sl k S) : SeenM E L S (fun i => (gA E 127 i).toNatClampNeg) (fun i => (gA E 128 i).toNatClampNeg) (gA E 129) := by
  obtain ⟨-, -, -, -, ⟨-, -, s1⟩, -, -, ⟨s8, hs⟩, -⟩ := h
  refine ⟨s1, s8, fun i hi => ?_⟩
  obtain ⟨⟨s, hs1, e1, e2⟩, ⟨q, hq, e3, e4⟩, e5⟩ := hs i hi
  have a1 : (gA E 127 i).toNatClampNeg = s := by rw [e2, nI_clamp (by omega)]
  have a2 : (gA E 128 i).toNatClampNeg = q := by rw [e4, nI_clamp (by omega)]
  refine ⟨?_, ?_, ?_, ?_, rfl⟩
  · show (gA E 127 i).toNatClampNeg < L
    rw [a1]; exact hs1
  · show (gA E 128 i).toNatClampNeg ≤ 600
    rw [a2]; exact hq
  · show _ = nI (gA E 127 i).toNatClampNeg
    rw [a1]; exact e2
  · show _ = nI (gA E 128 i).toNatClampNeg
    rw [a2]; exact e4
