/-! The model: what it holds; isIn, isSleeper, fail, nightNow, worst -/
/-- the widths of those who lie in the first k places, and the room beside -/
def widW (ro : Int32) (w : Nat → Int32) (ord : Nat → Int32) : Nat → Int32
  | 0 => ro
  | k + 1 => widW ro w ord k + w (ord k).toNatClampNeg
def freW (wd ro : Int32) (w : Nat → Int32) (ord : Nat → Int32) (L : Nat) : Int32 := if wd < widW ro w ord L then 0 else 1
theorem wid_eq {E : HP} {ro : Int32} {w ord : Nat → Int32} (hro : gA E 98 2 = ro) : ∀ k, (∀ i, i < k → gA E 113 i = ord i ∧ gA E 102 (ord i).toNatClampNeg = w (ord i).toNatClampNeg) → widM E k = widW ro w ord k := by
  intro k
  induction k with
  | zero => intro _; exact hro
  | succ k ih =>
    intro h
    show widM E k + gA E 102 (gA E 113 k).toNatClampNeg = widW ro w ord k + w (ord k).toNatClampNeg
    rw [ih (fun i hi => h i (by omega)), (h k (by omega)).1, (h k (by omega)).2]
set_option maxRecDepth 20000 in
theorem c_isIn {d : Nat} {E : HP} {x a b : Int64}  : Cl yX12_isIn mX12_isIn d 0 0 [.long x, .long a, .long b] E 137 (.inl (some (.int (bI (decide (a ≤ x ∧ x ≤ b))))), E, 137) := by
  refine Cl.of (by decide) rfl (fun q => by cases q) rfl rfl (Nat.le_of_ble_eq_true rfl) ?_
  show Sm _ _ _ _ _ 0 [some (.long x), none, some (.long a), none, some (.long b), none] [] _ _
  refine r_lload_n 1 dX12_isIn_0 rfl rfl ?_
  refine r_lload_n 2 dX12_isIn_1 rfl rfl ?_
  refine r_lcmp 3 dX12_isIn_2 rfl ?_
  refine r_if_lt 6 17 dX12_isIn_3 rfl (by decide) (fun h3 => ?_) (fun h3 => ?_)
  · refine r_iconst (0) 18 dX12_isIn_17 rfl (by decide) ?_
    exact r_zret dX12_isIn_18 rfl rfl (by decide) (by first | exact out_eq (bI_f (fun z => absurd ((lg_cmp_lt _ _).mp h3) (Int64.not_lt.mpr (of_decide_eq_true z).1))) | exact out_eq (bI_f (fun z => absurd ((lg_cmp_gt _ _).mp h10) (Int64.not_lt.mpr (of_decide_eq_true z).2))) | exact out_eq (bI_t (decide_eq_true ⟨Int64.not_lt.mp (fun y => h3 ((lg_cmp_lt _ _).mpr y)), Int64.not_lt.mp (fun y => h10 ((lg_cmp_gt _ _).mpr y))⟩)))
  · refine r_lload_n 7 dX12_isIn_6 rfl rfl ?_
    refine r_lload 9 dX12_isIn_7 rfl rfl ?_
    refine r_lcmp 10 dX12_isIn_9 rfl ?_
    refine r_if_gt 13 17 dX12_isIn_10 rfl (by decide) (fun h10 => ?_) (fun h10 => ?_)
    · refine r_iconst (0) 18 dX12_isIn_17 rfl (by decide) ?_
      exact r_zret dX12_isIn_18 rfl rfl (by decide) (by first | exact out_eq (bI_f (fun z => absurd ((lg_cmp_lt _ _).mp h3) (Int64.not_lt.mpr (of_decide_eq_true z).1))) | exact out_eq (bI_f (fun z => absurd ((lg_cmp_gt _ _).mp h10) (Int64.not_lt.mpr (of_decide_eq_true z).2))) | exact out_eq (bI_t (decide_eq_true ⟨Int64.not_lt.mp (fun y => h3 ((lg_cmp_lt _ _).mpr y)), Int64.not_lt.mp (fun y => h10 ((lg_cmp_gt _ _).mpr y))⟩)))
    · refine r_iconst (1) 14 dX12_isIn_13 rfl (by decide) ?_
      refine r_goto 18 dX12_isIn_14 (by decide) ?_
      exact r_zret dX12_isIn_18 rfl rfl (by decide) (by first | exact out_eq (bI_f (fun z => absurd ((lg_cmp_lt _ _).mp h3) (Int64.not_lt.mpr (of_decide_eq_true z).1))) | exact out_eq (bI_f (fun z => absurd ((lg_cmp_gt _ _).mp h10) (Int64.not_lt.mpr (of_decide_eq_true z).2))) | exact out_eq (bI_t (decide_eq_true ⟨Int64.not_lt.mp (fun y => h3 ((lg_cmp_lt _ _).mpr y)), Int64.not_lt.mp (fun y => h10 ((lg_cmp_gt _ _).mpr y))⟩)))
theorem bI_b01 {p : Prop} {q : Bool} (h : q = true ↔ p) : bI q = b01 p := by
  by_cases hp : p
  · rw [b01_t hp, bI_t (h.mpr hp)]
  · rw [b01_f hp, bI_f (fun z => hp (h.mp z))]
theorem c_isInC {d : Nat} {E : HP} {x y : Int32} {z z0 : Int64} (hz : z = y.toInt64) (h0 : z0 = (0 : Int32).toInt64) : Cl yX12_isIn mX12_isIn d 0 0 [.long x.toInt64, .long z0, .long z] E 137 (.inl (some (.int (b01 (inC x y)))), E, 137) := by
  have h := c_isIn (d := d) (E := E) (x := x.toInt64) (a := z0) (b := z)
  rw [bI_b01 (p := inC x y) (by rw [decide_eq_true_eq, hz, h0, Int32.toInt64_le, Int32.toInt64_le]; exact ⟨fun q => ⟨Int32.not_lt.mpr q.1, q.2⟩, fun q => ⟨Int32.not_lt.mp q.1, q.2⟩⟩)] at h
  exact h
theorem inB_C {x : Int32} {l : Nat} (hl : l < 100000) : inC x (nI l - 1) ↔ inB x (nI l) := by
  cases l with
  | zero =>
    constructor
    · intro h
      exact absurd (Int32.le_trans (Int32.not_lt.mp h.1) h.2) (by decide)
    · intro h
      exact absurd h.2 (fun z => h.1 z)
  | succ l =>
    rw [nI_pred]
    constructor
    · intro h
      obtain ⟨s, hs, e⟩ := inC_nI h (by omega)
      rw [e]; exact inB_of (by omega) hl
    · intro h
      obtain ⟨s, hs, e⟩ := inB_nI h hl
      rw [e]; exact inC_of (by omega) (by omega)
theorem b01_congr {p q : Prop} (h : p ↔ q) : b01 p = b01 q := by rw [propext h]
set_option maxRecDepth 20000 in
theorem c_isSl {d L : Nat} {E : HP} {x : Int32} (hM : MoOK E) (hL : gA E 98 0 = nI L) (h7 : L ≤ 7) : Cl yX12_isSleeper mX12_isSleeper (d + 1) 0 0 [.ref 95, .int x] E 137 (.inl (some (.int (b01 (inB x (nI L))))), E, 137) := by
  have hin := c_isInC (d := d) (E := E) (x := x) (y := nI L - 1) (z := (nI L - 1).toInt64) (z0 := 0) rfl (by decide)
  rw [b01_congr (inB_C (by omega))] at hin
  refine Cl.of (by decide) rfl (fun q => by cases q) rfl rfl (Nat.le_of_ble_eq_true rfl) ?_
  show Sm _ _ _ _ _ 0 [some (.ref 95), some (.int (x))] [] _ _
  refine r_iload_n 1 dX12_isSleeper_0 rfl rfl ?_
  refine r_i2l 2 dX12_isSleeper_1 rfl ?_
  refine r_lconst 0 3 dX12_isSleeper_2 rfl (by decide) ?_
  refine r_aload_n 4 dX12_isSleeper_3 rfl rfl ?_
  refine r_getR 7 dX12_isSleeper_4 rfl f12_38 rfl rfl lt95 (mo_3 hM) ?_
  refine r_iconst (0) 8 dX12_isSleeper_7 rfl (by decide) ?_
  refine r_ialdN (0) (nI L) 9 dX12_isSleeper_8 rfl rfl (Nat.le_of_ble_eq_true rfl) (by decide) (Nat.le_of_ble_eq_true rfl) (Nat.le_of_ble_eq_true rfl) (hL) ?_
  refine r_iconst (1) 10 dX12_isSleeper_9 rfl (by decide) ?_
  refine r_isub 11 dX12_isSleeper_10 rfl ?_
  refine r_i2l 12 dX12_isSleeper_11 rfl ?_
  refine r_callS (M := mX12_isSleeper) (pc := 12) 15 dX12_isSleeper_12 rfl k12_162 hin rfl rfl (Nat.le_of_ble_eq_true rfl) ?_
  exact r_zret dX12_isSleeper_15 rfl rfl (b01_01 _) (rfl)
set_option maxRecDepth 20000 in
theorem c_fail {d : Nat} {E : HP} {k : Int32}  : Cl yX12_fail mX12_fail d 0 0 [.ref 95, .int k] E 137 (.inl (some (.int 0)), sI E 1538 95 k, 137) := by
  refine Cl.of (by decide) rfl (fun q => by cases q) rfl rfl (Nat.le_of_ble_eq_true rfl) ?_
  show Sm _ _ _ _ _ 0 [some (.ref 95), some (.int (k))] [] _ _
  refine r_aload_n 1 dX12_fail_0 rfl rfl ?_
  refine r_iload_n 2 dX12_fail_1 rfl rfl ?_
  refine r_putI 5 dX12_fail_2 rfl f12_159 rfl lt95 ?_
  refine r_iconst (0) 6 dX12_fail_5 rfl (by decide) ?_
  exact r_iret dX12_fail_6 rfl rfl (rfl)
/-- what the model holds, by values -/
def MD (E : HP) (L m : Nat) (sl : Nat → Nat → Int32) (aw : Int32) (R : List Int32) (c : Cfg) (fr : Int32) : Prop := MoOK E ∧ gA E 98 0 = nI L ∧ cful L c ∧ (∀ i, i < L → gA E 109 i = cO c i ∧ gA E 103 i = cU c i) ∧ gI E 1562 95 = cF c ∧ gI E 1563 95 = cS c ∧ gI E 1564 95 = cE c ∧ gI E 1565 95 = cB c ∧ (0 < cE c → ¬ cS c = -1) ∧
  (∀ s, s < L → gA E 99 s = sl 1 s ∧ gA E 100 (2 * s) = sl 2 s ∧ gA E 100 (2 * s + 1) = sl 3 s ∧ gA E 101 s = sl 4 s ∧ gA E 102 s = sl 5 s ∧ gA E 104 s = sl 7 s ∧ (∃ a, a ≤ 240 ∧ sl 2 s = nI a) ∧ (∃ a, a ≤ 240 ∧ sl 3 s = nI a)) ∧
  (1 ≤ m ∧ m ≤ 600 ∧ gA E 98 3 = nI m) ∧ gA E 98 4 = aw ∧ (∃ a, a ≤ 60 ∧ aw = nI a) ∧ gA E 98 7 = nI R.length ∧ R.length ≤ 600 ∧ (∀ i, i < R.length → gA E 106 i = mS (R.getD i 0)) ∧ rule1 R ∧ fr = freW (gA E 98 1) (gA E 98 2) (sl 5) (cO c) L
/-- numbers and arrays that a question to the model changes -/
abbrev gsQ : List Nat := [1538, 1581, 1582, 1583, 1584, 1585, 1586, 1587, 1588, 1589, 1592, 1593, 1599]
abbrev asQ : List Nat := [111, 112, 113, 114, 115, 116, 117, 118, 119, 120, 121, 122, 123, 125, 126]
theorem md_mf {E E2 : HP} {L m : Nat} {sl : Nat → Nat → Int32} {aw : Int32} {R : List Int32} {c : Cfg} {fr : Int32} (h : MF gsQ asQ E E2) (o : MD E L m sl aw R c fr) : MD E2 L m sl aw R c fr := by
  unfold MD at *
  rw [mf_gI h (g := 1562) (by decide), mf_gI h (g := 1563) (by decide), mf_gI h (g := 1564) (by decide), mf_gI h (g := 1565) (by decide), mf_gA h (a := 98) (by decide), mf_gA h (a := 99) (by decide), mf_gA h (a := 100) (by decide), mf_gA h (a := 101) (by decide), mf_gA h (a := 102) (by decide), mf_gA h (a := 103) (by decide), mf_gA h (a := 104) (by decide), mf_gA h (a := 106) (by decide), mf_gA h (a := 109) (by decide)]
  exact ⟨mf_mo h o.1, o.2⟩
/-- behind set: all is laid out -/
theorem m_set {d L m : Nat} {sl : Nat → Nat → Int32} {aw : Int32} {R : List Int32} {c : Cfg} {fr : Int32} {E : HP} (h : MD E L m sl aw R c fr) : ∃ E2, (MF [1581, 1582, 1583, 1584, 1589] [113, 114] E E2 ∧ MVis E2 (vMk L sl aw R c fr) L ∧ (∀ i, i < L → gA E2 113 i = cO c i ∧ gA E2 114 i = cU c i) ∧ gI E2 1582 95 = cS c ∧ gI E2 1583 95 = (if cS c = -1 then 0 else cE c)) ∧ Cl yX12_set mX12_set (d + 1) 0 0 [.ref 95] E 137 (.inl none, E2, 137) := by
  obtain ⟨hM, hL, ⟨cok, csu⟩, hoc, h62, h63, h64, h65, hsy, hsl, ⟨m1, m6, hm⟩, haw, ha6, hR, hR6, hRs, hR1, hfr⟩ := id h
  have h7 : L ≤ 7 := cok.2.1
  obtain ⟨_, ⟨E2, rfl, f, s1, s2, s3, s4, s5, s6⟩, hcl⟩ := c_X12_set (d := d) hM hL h7 (fun p hp => by obtain ⟨s, hs, e⟩ := cok.2.2.1 p hp; exact ⟨s, by omega, (hoc p hp).1.trans e⟩)
  have g98 : gA E2 98 = gA E 98 := mf_gA f (by decide)
  have hrow : ∀ i, i < L → gA E2 113 i = cO c i := fun i hi => (s6 i hi).1.trans (hoc i hi).1
  have hgo : ∀ i, i < L → gA E2 114 i = cU c i := fun i hi => (s6 i hi).2.trans (hoc i hi).2
  rw [h63] at s2 s3
  rw [h64] at s3
  refine ⟨E2, ⟨f, ?_, fun i hi => ⟨hrow i hi, hgo i hi⟩, s2, s3⟩, hcl⟩
  refine mvis_mk s1 cok (by rw [g98]; exact hL) hrow hgo (fun s hs => ?_) (fun z => ?_) (fun z1 z2 => ?_) (s4.trans h65) ?_ (by rw [g98]; exact haw) ha6 (by rw [g98]; exact hR) hR6 (fun i hi => by rw [mf_gA f (by decide)]; exact hRs i hi) hR1
  · obtain ⟨a1, a2, a3, a4, a5, a6, a7, a8⟩ := hsl s hs
    rw [mf_gA f (a := 99) (by decide), mf_gA f (a := 100) (by decide), mf_gA f (a := 101) (by decide)]
    exact ⟨a1, a2, a3, a4, a7, a8⟩
  · intro y
    rw [s2, s3] at z
    rcases z with z | z
    · exact hsy y z
    · rw [if_neg (hsy y)] at z
      exact z y
  · rw [s2] at z1
    rw [s3, if_neg z1]
    exact ⟨rfl, s2⟩
  · rw [s5, hfr]
    unfold freM freW
    rw [g98, wid_eq (E := E2) (ro := gA E 98 2) (w := sl 5) (ord := cO c) (by rw [g98]) L (fun i hi => ⟨hrow i hi, ?_⟩)]
    obtain ⟨s, hs, e⟩ := cok.2.2.1 i hi
    rw [e, nI_clamp (by omega), mf_gA f (by decide)]
    exact (hsl s hs).2.2.2.2.1
abbrev gsS : List Nat := [1581, 1582, 1583, 1584, 1585, 1586, 1587, 1588, 1589]
abbrev asS : List Nat := [111, 112, 113, 114, 115, 116, 117, 118, 119, 120, 121, 122, 123]
set_option maxRecDepth 20000 in
theorem m_night {d L m : Nat} {sl : Nat → Nat → Int32} {aw : Int32} {R : List Int32} {c : Cfg} {fr : Int32} {E : HP} (h : MD E L m sl aw R c fr) : ∃ E2, (MF gsS asS E E2 ∧ GR E2 (vMk L sl aw R c fr) m L) ∧ Cl yX12_nightNow mX12_nightNow (d + 6) 0 0 [.ref 95] E 137 (.inl none, E2, 137) := by
  obtain ⟨E1, ⟨f1, hv, -⟩, hse⟩ := m_set (d := d + 4) h
  obtain ⟨hM, hL, ⟨cok, csu⟩, hoc, h62, h63, h64, h65, hsy, hsl, ⟨m1, m6, hm⟩, haw, ha6, hR, hR6, hRs, hR1, hfr⟩ := id h
  have hM1 := mf_mo f1 hM
  obtain ⟨_, ⟨E2, rfl, f2, hg⟩, hgo⟩ := c_X12_go (d := d) (m := m) hM1 hv cok.2.2.2.2.2.2 m6
  have hF1 : gI E1 1562 95 = vS (vMk L sl aw R c fr) 4 := (mf_gI f1 (by decide)).trans h62
  have hm1 : gA E1 98 3 = nI m := by rw [mf_gA f1 (by decide)]; exact hm
  refine ⟨E2, ⟨mf_tr (mf_mono f1 (by decide) (by decide)) (mf_mono f2 (by decide) (by decide)), hg⟩, ?_⟩
  refine Cl.of (by decide) rfl (fun q => by cases q) rfl rfl (Nat.le_of_ble_eq_true rfl) ?_
  show Sm _ _ _ _ _ 0 [some (.ref 95)] [] _ _
  refine r_aload_n 1 dX12_nightNow_0 rfl rfl ?_
  refine r_callV (M := mX12_nightNow) (pc := 1) 4 dX12_nightNow_1 rfl k12_413 hse rfl rfl rfl (by decide) rfl lt95 (Nat.le_of_ble_eq_true rfl) ?_
  refine r_aload_n 5 dX12_nightNow_4 rfl rfl ?_
  refine r_aload_n 6 dX12_nightNow_5 rfl rfl ?_
  refine r_getIV (vS (vMk L sl aw R c fr) 4) 9 dX12_nightNow_6 rfl f12_315 rfl rfl lt95 (hF1) ?_
  refine r_aload_n 10 dX12_nightNow_9 rfl rfl ?_
  refine r_getR 13 dX12_nightNow_10 rfl f12_38 rfl rfl lt95 (mo_3 hM1) ?_
  refine r_iconst (3) 14 dX12_nightNow_13 rfl (by decide) ?_
  refine r_ialdN (3) (nI m) 15 dX12_nightNow_14 rfl rfl (Nat.le_of_ble_eq_true rfl) (by decide) (Nat.le_of_ble_eq_true rfl) (Nat.le_of_ble_eq_true rfl) (hm1) ?_
  refine r_callV (M := mX12_nightNow) (pc := 15) 18 dX12_nightNow_15 rfl k12_416 hgo rfl rfl rfl (by decide) rfl lt95 (Nat.le_of_ble_eq_true rfl) ?_
  exact r_vret dX12_nightNow_18 rfl rfl (rfl)
