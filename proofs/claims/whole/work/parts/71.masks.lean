/-! The model: questions of one night -/
/-- what a question to the model leaves: its code, and it holds what it held -/
def AQ (E E2 : HP) (k : Int32) : Prop := MF gsQ asQ E E2 ∧ gI E2 1538 95 = k
theorem mq_of {E E2 : HP} {gs as : List Nat} (h : MF gs as (sI E 1538 95 0) E2) (hg : ∀ g ∈ gs, g ∈ gsQ) (ha : ∀ a ∈ as, a ∈ asQ) (h0 : 1538 ∉ gs) : AQ E E2 0 := ⟨mf_tr (mf_sI (by decide) mf_rfl) (mf_mono h hg ha), by rw [mf_gI h h0, gI_sI, if_pos ⟨rfl, rfl⟩]⟩
theorem mq_fail {E : HP} {x k : Int32} : AQ E (sI (sI E 1538 95 x) 1538 95 k) k := ⟨mf_sI (by decide) (mf_sI (by decide) mf_rfl), by rw [gI_sI, if_pos ⟨rfl, rfl⟩]⟩
theorem mq_fail2 {E E2 : HP} {k : Int32} (h : AQ E E2 0) : AQ E (sI E2 1538 95 k) k := ⟨mf_sI (by decide) h.1, by rw [gI_sI, if_pos ⟨rfl, rfl⟩]⟩
theorem md_0 {E : HP} {L m : Nat} {sl : Nat → Nat → Int32} {aw : Int32} {R : List Int32} {c : Cfg} {fr x : Int32} (h : MD E L m sl aw R c fr) : MD (sI E 1538 95 x) L m sl aw R c fr := md_mf (mf_sI (by decide) mf_rfl) h
/-- the worst off, as the model finds it -/
def worM (f : Nat → Int32) : Nat → Int32
  | 0 => -1
  | k + 1 => if worM f k = -1 ∨ f (worM f k).toNatClampNeg < f k then nI k else worM f k
theorem le_of_in2 {w : Int32} (h : inB w 2) : w ≤ 1 := by
  obtain ⟨j, hj, e⟩ := inB_nI (l := 2) h (by decide)
  rw [e]; exact nI_le (b := 1) (by omega) (by omega)
theorem in2_of {w : Int32} (h1 : ¬ w < 0) (h2 : w ≤ 1) : inB w 2 := ⟨h1, Int32.lt_of_le_of_lt h2 (by decide)⟩
/-- by sleepers, what the model's rows say behind a night -/
theorem gr_by {E : HP} {L s : Nat} {sl : Nat → Nat → Int32} {aw : Int32} {R : List Int32} {c : Cfg} {fr : Int32} {q : Nat} (hc : cful L c) (h : GR E (vMk L sl aw R c fr) q L) (hs : s < L) : gA E 115 s = byS (vMk L sl aw R c fr) (nightF (vMk L sl aw R c fr) q) 0 s ∧ wkM (gA E 117 s) (byS (vMk L sl aw R c fr) (nightF (vMk L sl aw R c fr) q) 2 s) ∧ gA E 118 s = byS (vMk L sl aw R c fr) (nightF (vMk L sl aw R c fr) q) 3 s ∧ gA E 119 s = byS (vMk L sl aw R c fr) (nightF (vMk L sl aw R c fr) q) 4 s := by
  obtain ⟨i, hi, e⟩ := hc.2 s hs
  obtain ⟨p1, p2, p3⟩ := plc_hit hi e
  have h7 := hc.1.2.1
  have ho : oV (vMk L sl aw R c fr) (plcF (cO c) (nI s) L) = s := by
    show (cO c _).toNatClampNeg = s
    rw [p2, nI_clamp (by omega)]
  have hl := h.2.2.2.2.2.2.1 (plcF (cO c) (nI s) L) p1
  rw [ho] at hl
  exact ⟨hl.1, hl.2.2.2.2.1, hl.2.2.2.2.2.1, hl.2.2.2.2.2.2⟩
set_option maxRecDepth 20000 in
theorem c_X12_worst {d L : Nat} {E : HP} (hM : MoOK E) (hL : gA E 98 0 = nI L) (h7 : L ≤ 7) : Cl yX12_worst mX12_worst d 0 0 [.ref 95] E 137 (.inl (some (.int (worM (gA E 118) L))), E, 137) := by
  have hw : ∀ k, k ≤ 7 → worM (gA E 118) k = -1 ∨ ∃ j, j < 7 ∧ worM (gA E 118) k = nI j := by
    intro k
    induction k with
    | zero => intro _; exact Or.inl rfl
    | succ k ih =>
      intro hk
      unfold worM
      split
      · exact Or.inr ⟨k, by omega, rfl⟩
      · exact ih (by omega)
  refine Cl.of (by decide) rfl (fun q => by cases q) rfl rfl (Nat.le_of_ble_eq_true rfl) ?_
  show Sm _ _ _ _ _ 0 [some (.ref 95), none, none] [] _ _
  have loop := loopUp (P := fun k9 => Sm mX12_worst d 0 0 (.inl (some (.int (worM (gA E 118) L))), E, 137) 4 [some (.ref 95), some (.int (worM (gA E 118) k9)), some (.int (nI k9))] [] E 137) (l := L) ?_ ?_
  refine r_iconst (-1) 1 dX12_worst_0 rfl (by decide) ?_
  refine r_istore_n 2 dX12_worst_1 rfl (by decide) rfl ?_
  refine r_iconst (0) 3 dX12_worst_2 rfl (by decide) ?_
  refine r_istore_n 4 dX12_worst_3 rfl (by decide) rfl ?_
  exact loop
  · show Sm _ _ _ _ _ 4 _ _ _ _
    refine r_iload_n 5 dX12_worst_4 rfl rfl ?_
    refine r_aload_n 6 dX12_worst_5 rfl rfl ?_
    refine r_getR 9 dX12_worst_6 rfl f12_38 rfl rfl lt95 (mo_3 hM) ?_
    refine r_iconst (0) 10 dX12_worst_9 rfl (by decide) ?_
    refine r_ialdN (0) (nI L) 11 dX12_worst_10 rfl rfl (Nat.le_of_ble_eq_true rfl) (by decide) (Nat.le_of_ble_eq_true rfl) (Nat.le_of_ble_eq_true rfl) (hL) ?_
    refine r_icmp_ge 14 42 dX12_worst_11 rfl (by decide) (fun h11 => ?_) (fun h11 => absurd (nI_le (Nat.le_refl _) (by omega)) h11)
    refine r_iload_n 43 dX12_worst_42 rfl rfl ?_
    exact r_iret dX12_worst_43 rfl rfl (rfl)
  · intro k9 hk9 hq
    show Sm _ _ _ _ _ 4 _ _ _ _
    have hy : (worM (gA E 118) k9 = -1 ∨ gA E 118 (worM (gA E 118) k9).toNatClampNeg < gA E 118 k9) → worM (gA E 118) (k9 + 1) = nI k9 := fun z => if_pos z
    have hn : ¬ (worM (gA E 118) k9 = -1 ∨ gA E 118 (worM (gA E 118) k9).toNatClampNeg < gA E 118 k9) → worM (gA E 118) (k9 + 1) = worM (gA E 118) k9 := fun z => if_neg z
    by_cases h1 : worM (gA E 118) k9 = -1
    · refine r_iload_n 5 dX12_worst_4 rfl rfl ?_
      refine r_aload_n 6 dX12_worst_5 rfl rfl ?_
      refine r_getR 9 dX12_worst_6 rfl f12_38 rfl rfl lt95 (mo_3 hM) ?_
      refine r_iconst (0) 10 dX12_worst_9 rfl (by decide) ?_
      refine r_ialdN (0) (nI L) 11 dX12_worst_10 rfl rfl (Nat.le_of_ble_eq_true rfl) (by decide) (Nat.le_of_ble_eq_true rfl) (Nat.le_of_ble_eq_true rfl) (hL) ?_
      refine r_icmp_ge 14 42 dX12_worst_11 rfl (by decide) (fun h11 => absurd h11 (nI_ge hk9 (by omega))) (fun h11 => ?_)
      refine r_iload_n 15 dX12_worst_14 rfl rfl ?_
      refine r_iconst (-1) 16 dX12_worst_15 rfl (by decide) ?_
      refine r_icmp_eq 19 34 dX12_worst_16 rfl (by decide) (fun h16 => ?_) (fun h16 => absurd h1 h16)
      refine r_iload_n 35 dX12_worst_34 rfl rfl ?_
      refine r_istore_n 36 dX12_worst_35 rfl (by decide) rfl ?_
      refine r_iinc (1) 39 dX12_worst_36 rfl rfl (by decide) (by decide) rfl ?_
      refine r_goto 4 dX12_worst_39 (by decide) ?_
      rw [hy (Or.inl h1)] at hq
      rw [nI_pp]
      exact hq
    · obtain ⟨j, hj, hje⟩ := (hw k9 (by omega)).resolve_left h1
      have hjc : (worM (gA E 118) k9).toNatClampNeg = j := by rw [hje, nI_clamp (by omega)]
      rw [hjc] at hy hn
      refine r_iload_n 5 dX12_worst_4 rfl rfl ?_
      refine r_aload_n 6 dX12_worst_5 rfl rfl ?_
      refine r_getR 9 dX12_worst_6 rfl f12_38 rfl rfl lt95 (mo_3 hM) ?_
      refine r_iconst (0) 10 dX12_worst_9 rfl (by decide) ?_
      refine r_ialdN (0) (nI L) 11 dX12_worst_10 rfl rfl (Nat.le_of_ble_eq_true rfl) (by decide) (Nat.le_of_ble_eq_true rfl) (Nat.le_of_ble_eq_true rfl) (hL) ?_
      refine r_icmp_ge 14 42 dX12_worst_11 rfl (by decide) (fun h11 => absurd h11 (nI_ge hk9 (by omega))) (fun h11 => ?_)
      refine r_iload_n 15 dX12_worst_14 rfl rfl ?_
      refine r_iconst (-1) 16 dX12_worst_15 rfl (by decide) ?_
      refine r_icmp_eq 19 34 dX12_worst_16 rfl (by decide) (fun h16 => absurd h16 h1) (fun h16 => ?_)
      refine r_aload_n 20 dX12_worst_19 rfl rfl ?_
      refine r_getR 23 dX12_worst_20 rfl f12_105 rfl rfl lt95 (mo_39 hM) ?_
      refine r_iload_n 24 dX12_worst_23 rfl rfl ?_
      refine r_ialdN (k9) (_) 25 dX12_worst_24 rfl rfl (Nat.le_of_ble_eq_true rfl) (rfl) (by omega) (Nat.le_of_ble_eq_true rfl) (rfl) ?_
      refine r_aload_n 26 dX12_worst_25 rfl rfl ?_
      refine r_getR 29 dX12_worst_26 rfl f12_105 rfl rfl lt95 (mo_39 hM) ?_
      refine r_iload_n 30 dX12_worst_29 rfl rfl ?_
      refine r_ialdN (j) (_) 31 dX12_worst_30 rfl rfl (Nat.le_of_ble_eq_true rfl) (hje) (by omega) (Nat.le_of_ble_eq_true rfl) (rfl) ?_
      refine r_icmp_le 34 36 dX12_worst_31 rfl (by decide) (fun h31 => ?_) (fun h31 => ?_)
      · refine r_iinc (1) 39 dX12_worst_36 rfl rfl (by decide) (by decide) rfl ?_
        refine r_goto 4 dX12_worst_39 (by decide) ?_
        rw [hn (fun z => z.elim h1 (Int32.not_lt.mpr h31))] at hq
        rw [nI_pp]
        exact hq
      · refine r_iload_n 35 dX12_worst_34 rfl rfl ?_
        refine r_istore_n 36 dX12_worst_35 rfl (by decide) rfl ?_
        refine r_iinc (1) 39 dX12_worst_36 rfl rfl (by decide) (by decide) rfl ?_
        refine r_goto 4 dX12_worst_39 (by decide) ?_
        rw [hy (Or.inr (Int32.not_le.mp h31))] at hq
        rw [nI_pp]
        exact hq
theorem worM_congr {f g : Nat → Int32} : ∀ k, (∀ i, i < k → f i = g i) → k ≤ 7 → worM f k = worM g k ∧ (worM g k = -1 ∨ ∃ j, j < k ∧ worM g k = nI j) := by
  intro k
  induction k with
  | zero => intro _ _; exact ⟨rfl, Or.inl rfl⟩
  | succ k ih =>
    intro h h7
    obtain ⟨a1, a2⟩ := ih (fun i hi => h i (by omega)) (by omega)
    have e : (worM f k = -1 ∨ f (worM f k).toNatClampNeg < f k) = (worM g k = -1 ∨ g (worM g k).toNatClampNeg < g k) := by
      rw [a1, h k (by omega)]
      rcases a2 with z | ⟨j, hj, z⟩
      · simp [z]
      · rw [z, nI_clamp (by omega), h j (by omega)]
    by_cases hc : (worM g k = -1 ∨ g (worM g k).toNatClampNeg < g k)
    · have hf : (worM f k = -1 ∨ f (worM f k).toNatClampNeg < f k) := by rw [e]; exact hc
      exact ⟨(if_pos hf).trans (if_pos hc).symm, Or.inr ⟨k, by omega, if_pos hc⟩⟩
    · have hf : ¬ (worM f k = -1 ∨ f (worM f k).toNatClampNeg < f k) := by rw [e]; exact hc
      have hg : worM g (k + 1) = worM g k := if_neg hc
      exact ⟨((if_neg hf).trans a1).trans hg.symm, by rw [hg]; exact a2.imp id (fun ⟨j, hj, z⟩ => ⟨j, by omega, z⟩)⟩
set_option maxRecDepth 20000 in
theorem m_nightQ {d L m : Nat} {sl : Nat → Nat → Int32} {aw : Int32} {R : List Int32} {c : Cfg} {fr : Int32} {E : HP} {x : Int32} (h : MD E L m sl aw R c fr) (hx : inB x 4) : ∃ E2, AQ E E2 0 ∧ Cl yX12_night mX12_night (d + 8) 0 0 [.ref 95, .int (x)] E 137 (.inl (some (.int (if x = 0 then nI (nG (nightF (vMk L sl aw R c fr) m)).length else if x = 1 then nS (nightF (vMk L sl aw R c fr) m) 2 else if x = 2 then quF (vMk L sl aw R c fr) m else worM (byS (vMk L sl aw R c fr) (nightF (vMk L sl aw R c fr) m) 3) L))), E2, 137) := by
  obtain ⟨E2, ⟨f2, hg⟩, hni⟩ := m_night (d := d + 1) (md_0 (x := 0) h)
  obtain ⟨hM, hL, ⟨cok, csu⟩, hoc, h62, h63, h64, h65, hsy, hsl, ⟨m1, m6, hm⟩, -⟩ := id h
  obtain ⟨hM2, hv2, g1, g2, g3, g4, g5, g6⟩ := id hg
  have l7 : L ≤ 7 := cok.2.1
  have g98 : gA E2 98 = gA E 98 := (mf_gA f2 (a := 98) (by decide) : gA E2 98 = gA (sI E 1538 95 0) 98)
  have hq := mq_of f2 (by decide) (by decide) (by decide)
  have hin := c_isInC (d := d + 7) (E := sI E 1538 95 0) (x := x) (y := 3) (z := 3) (z0 := 0) (by decide) (by decide)
  have hx3 : inC x 3 := by
    have := (inB_C (x := x) (l := 4) (by decide)).mpr hx
    exact this
  rw [b01_t hx3] at hin
  have haw := c_X12_allWoken (d := d + 7) hM2 (by rw [g98]; exact hL) l7
  rw [g4] at haw
  have hwo := c_X12_worst (d := d + 7) hM2 (by rw [g98]; exact hL) l7
  rw [(worM_congr (f := gA E2 118) (g := byS (vMk L sl aw R c fr) (nightF (vMk L sl aw R c fr) m) 3) L (fun i hi => (gr_by (s := i) (q := m) ⟨cok, csu⟩ hg hi).2.2.1) l7).1] at hwo
  refine ⟨E2, hq, ?_⟩
  refine Cl.of (by decide) rfl (fun q => by cases q) rfl rfl (Nat.le_of_ble_eq_true rfl) ?_
  show Sm _ _ _ _ _ 0 [some (.ref 95), some (.int (x))] [] _ _
  refine r_aload_n 1 dX12_night_0 rfl rfl ?_
  refine r_iconst (0) 2 dX12_night_1 rfl (by decide) ?_
  refine r_putI 5 dX12_night_2 rfl f12_159 rfl lt95 ?_
  refine r_iload_n 6 dX12_night_5 rfl rfl ?_
  refine r_i2l 7 dX12_night_6 rfl ?_
  refine r_lconst 0 8 dX12_night_7 rfl (by decide) ?_
  refine r_ldc2 3 11 dX12_night_8 rfl c12_442 ?_
  refine r_callS (M := mX12_night) (pc := 11) 14 dX12_night_11 rfl k12_162 hin rfl rfl (Nat.le_of_ble_eq_true rfl) ?_
  refine r_if_ne 17 23 dX12_night_14 rfl (by decide) (fun h14 => ?_) (fun h14 => absurd h14 (by decide))
  refine r_aload_n 24 dX12_night_23 rfl rfl ?_
  refine r_callV (M := mX12_night) (pc := 24) 27 dX12_night_24 rfl k12_444 hni rfl rfl rfl (by decide) rfl lt95 (Nat.le_of_ble_eq_true rfl) ?_
  refine r_iload_n 28 dX12_night_27 rfl rfl ?_
  refine r_if_ne 31 38 dX12_night_28 rfl (by decide) (fun h28 => ?_) (fun h28 => ?_)
  · refine r_iload_n 39 dX12_night_38 rfl rfl ?_
    refine r_iconst (1) 40 dX12_night_39 rfl (by decide) ?_
    refine r_icmp_ne 43 50 dX12_night_40 rfl (by decide) (fun h40 => ?_) (fun h40 => ?_)
    · refine r_iload_n 51 dX12_night_50 rfl rfl ?_
      refine r_iconst (2) 52 dX12_night_51 rfl (by decide) ?_
      refine r_icmp_ne 55 62 dX12_night_52 rfl (by decide) (fun h52 => ?_) (fun h52 => ?_)
      · refine r_aload_n 63 dX12_night_62 rfl rfl ?_
        refine r_callV (M := mX12_night) (pc := 63) 66 dX12_night_63 rfl k12_450 hwo rfl rfl rfl (by decide) rfl lt95 (Nat.le_of_ble_eq_true rfl) ?_
        exact r_iret dX12_night_66 rfl rfl (by first | rw [if_pos h28] | rw [if_neg h28, if_pos h40] | rw [if_neg h28, if_neg h40, if_pos h52] | rw [if_neg h28, if_neg h40, if_neg h52])
      · refine r_aload_n 56 dX12_night_55 rfl rfl ?_
        refine r_getIV (_) 59 dX12_night_56 rfl f12_385 rfl rfl lt95 (g3) ?_
        refine r_goto 66 dX12_night_59 (by decide) ?_
        exact r_iret dX12_night_66 rfl rfl (by first | rw [if_pos h28] | rw [if_neg h28, if_pos h40] | rw [if_neg h28, if_neg h40, if_pos h52] | rw [if_neg h28, if_neg h40, if_neg h52])
    · refine r_aload_n 44 dX12_night_43 rfl rfl ?_
      refine r_callV (M := mX12_night) (pc := 44) 47 dX12_night_44 rfl k12_447 haw rfl rfl rfl (by decide) rfl lt95 (Nat.le_of_ble_eq_true rfl) ?_
      refine r_goto 66 dX12_night_47 (by decide) ?_
      exact r_iret dX12_night_66 rfl rfl (by first | rw [if_pos h28] | rw [if_neg h28, if_pos h40] | rw [if_neg h28, if_neg h40, if_pos h52] | rw [if_neg h28, if_neg h40, if_neg h52])
  · refine r_aload_n 32 dX12_night_31 rfl rfl ?_
    refine r_getIV (_) 35 dX12_night_32 rfl f12_365 rfl rfl lt95 (g2) ?_
    refine r_goto 66 dX12_night_35 (by decide) ?_
    exact r_iret dX12_night_66 rfl rfl (by first | rw [if_pos h28] | rw [if_neg h28, if_pos h40] | rw [if_neg h28, if_neg h40, if_pos h52] | rw [if_neg h28, if_neg h40, if_neg h52])
set_option maxRecDepth 20000 in
theorem m_nightX {d L m : Nat} {sl : Nat → Nat → Int32} {aw : Int32} {R : List Int32} {c : Cfg} {fr : Int32} {E : HP} {x : Int32} (h : MD E L m sl aw R c fr) (hx : ¬ inB x 4) : ∃ E2, AQ E E2 1 ∧ Cl yX12_night mX12_night (d + 8) 0 0 [.ref 95, .int (x)] E 137 (.inl (some (.int 0)), E2, 137) := by
  obtain ⟨hM, hL, ⟨cok, csu⟩, hoc, h62, h63, h64, h65, hsy, hsl, ⟨m1, m6, hm⟩, -⟩ := id h
  have l7 : L ≤ 7 := cok.2.1
  have hM0 : MoOK (sI E 1538 95 0) := hM
  have hL0 : gA (sI E 1538 95 0) 98 0 = nI L := hL
  have hin := c_isInC (d := d + 7) (E := sI E 1538 95 0) (x := x) (y := 3) (z := 3) (z0 := 0) (by decide) (by decide)
  rw [b01_f (show ¬ inC x 3 from fun z => hx ((inB_C (x := x) (l := 4) (by decide)).mp z))] at hin
  refine ⟨_, mq_fail (x := 0), ?_⟩
  refine Cl.of (by decide) rfl (fun q => by cases q) rfl rfl (Nat.le_of_ble_eq_true rfl) ?_
  show Sm _ _ _ _ _ 0 [some (.ref 95), some (.int (x))] [] _ _
  refine r_aload_n 1 dX12_night_0 rfl rfl ?_
  refine r_iconst (0) 2 dX12_night_1 rfl (by decide) ?_
  refine r_putI 5 dX12_night_2 rfl f12_159 rfl lt95 ?_
  refine r_iload_n 6 dX12_night_5 rfl rfl ?_
  refine r_i2l 7 dX12_night_6 rfl ?_
  refine r_lconst 0 8 dX12_night_7 rfl (by decide) ?_
  refine r_ldc2 3 11 dX12_night_8 rfl c12_442 ?_
  refine r_callS (M := mX12_night) (pc := 11) 14 dX12_night_11 rfl k12_162 hin rfl rfl (Nat.le_of_ble_eq_true rfl) ?_
  refine r_if_ne 17 23 dX12_night_14 rfl (by decide) (fun h14 => absurd h14 (fun z => z rfl)) (fun h14 => ?_)
  refine r_aload_n 18 dX12_night_17 rfl rfl ?_
  refine r_iconst (1) 19 dX12_night_18 rfl (by decide) ?_
  refine r_callV (M := mX12_night) (pc := 19) 22 dX12_night_19 rfl k12_302 c_fail rfl rfl rfl (by decide) rfl lt95 (Nat.le_of_ble_eq_true rfl) ?_
  exact r_iret dX12_night_22 rfl rfl (rfl)
set_option maxRecDepth 20000 in
theorem m_woken {d L m s : Nat} {sl : Nat → Nat → Int32} {aw : Int32} {R : List Int32} {c : Cfg} {fr : Int32} {E : HP} {w : Int32} (h : MD E L m sl aw R c fr) (hs : s < L) (hw : inB w 2) : ∃ E2, AQ E E2 0 ∧ Cl yX12_woken mX12_woken (d + 8) 0 0 [.ref 95, .int (nI s), .int (w)] E 137 (.inl (some (.int (byS (vMk L sl aw R c fr) (nightF (vMk L sl aw R c fr) m) (if w = 0 then 3 else 4) s))), E2, 137) := by
  obtain ⟨E2, ⟨f2, hg⟩, hni⟩ := m_night (d := d + 1) (md_0 (x := 0) h)
  obtain ⟨hM, hL, ⟨cok, csu⟩, hoc, h62, h63, h64, h65, hsy, hsl, ⟨m1, m6, hm⟩, -⟩ := id h
  obtain ⟨hM2, hv2, g1, g2, g3, g4, g5, g6⟩ := id hg
  have l7 : L ≤ 7 := cok.2.1
  have g98 : gA E2 98 = gA E 98 := (mf_gA f2 (a := 98) (by decide) : gA E2 98 = gA (sI E 1538 95 0) 98)
  have hq := mq_of f2 (by decide) (by decide) (by decide)
  have hM0 : MoOK (sI E 1538 95 0) := hM
  have hL0 : gA (sI E 1538 95 0) 98 0 = nI L := hL
  have his := c_isSl (d := d + 6) (E := sI E 1538 95 0) (x := nI s) hM0 hL0 l7
  rw [b01_t (inB_of hs (by omega))] at his
  obtain ⟨b1, b2, b3, b4⟩ := gr_by ⟨cok, csu⟩ hg hs
  refine ⟨E2, hq, ?_⟩
  refine Cl.of (by decide) rfl (fun q => by cases q) rfl rfl (Nat.le_of_ble_eq_true rfl) ?_
  show Sm _ _ _ _ _ 0 [some (.ref 95), some (.int (nI s)), some (.int (w))] [] _ _
  refine r_aload_n 1 dX12_woken_0 rfl rfl ?_
  refine r_iconst (0) 2 dX12_woken_1 rfl (by decide) ?_
  refine r_putI 5 dX12_woken_2 rfl f12_159 rfl lt95 ?_
  refine r_aload_n 6 dX12_woken_5 rfl rfl ?_
  refine r_iload_n 7 dX12_woken_6 rfl rfl ?_
  refine r_callV (M := mX12_woken) (pc := 7) 10 dX12_woken_7 rfl k12_420 his rfl rfl rfl (by decide) rfl lt95 (Nat.le_of_ble_eq_true rfl) ?_
  refine r_if_eq 13 22 dX12_woken_10 rfl (by decide) (fun h10 => absurd h10 (by decide)) (fun h10 => ?_)
  refine r_iload_n 14 dX12_woken_13 rfl rfl ?_
  refine r_if_lt 17 22 dX12_woken_14 rfl (by decide) (fun h14 => absurd h14 hw.1) (fun h14 => ?_)
  refine r_iload_n 18 dX12_woken_17 rfl rfl ?_
  refine r_iconst (1) 19 dX12_woken_18 rfl (by decide) ?_
  refine r_icmp_le 22 28 dX12_woken_19 rfl (by decide) (fun h19 => ?_) (fun h19 => absurd (le_of_in2 hw) h19)
  refine r_aload_n 29 dX12_woken_28 rfl rfl ?_
  refine r_callV (M := mX12_woken) (pc := 29) 32 dX12_woken_29 rfl k12_444 hni rfl rfl rfl (by decide) rfl lt95 (Nat.le_of_ble_eq_true rfl) ?_
  refine r_iload_n 33 dX12_woken_32 rfl rfl ?_
  refine r_if_ne 36 45 dX12_woken_33 rfl (by decide) (fun h33 => ?_) (fun h33 => ?_)
  · refine r_aload_n 46 dX12_woken_45 rfl rfl ?_
    refine r_getR 49 dX12_woken_46 rfl f12_108 rfl rfl lt95 (mo_40 hM2) ?_
    refine r_iload_n 50 dX12_woken_49 rfl rfl ?_
    refine r_ialdN (s) (_) 51 dX12_woken_50 rfl rfl (Nat.le_of_ble_eq_true rfl) (rfl) (by omega) (Nat.le_of_ble_eq_true rfl) (b4) ?_
    exact r_iret dX12_woken_51 rfl rfl (by first | rw [if_pos h33] | rw [if_neg h33])
  · refine r_aload_n 37 dX12_woken_36 rfl rfl ?_
    refine r_getR 40 dX12_woken_37 rfl f12_105 rfl rfl lt95 (mo_39 hM2) ?_
    refine r_iload_n 41 dX12_woken_40 rfl rfl ?_
    refine r_ialdN (s) (_) 42 dX12_woken_41 rfl rfl (Nat.le_of_ble_eq_true rfl) (rfl) (by omega) (Nat.le_of_ble_eq_true rfl) (b3) ?_
    refine r_goto 51 dX12_woken_42 (by decide) ?_
    exact r_iret dX12_woken_51 rfl rfl (by first | rw [if_pos h33] | rw [if_neg h33])
set_option maxRecDepth 20000 in
theorem m_woken1 {d L m : Nat} {sl : Nat → Nat → Int32} {aw : Int32} {R : List Int32} {c : Cfg} {fr : Int32} {E : HP} {x y w : Int32} (h : MD E L m sl aw R c fr) (hx : ¬ inB x (nI L)) : ∃ E2, AQ E E2 1 ∧ Cl yX12_woken mX12_woken (d + 8) 0 0 [.ref 95, .int (x), .int (w)] E 137 (.inl (some (.int 0)), E2, 137) := by
  obtain ⟨hM, hL, ⟨cok, csu⟩, hoc, h62, h63, h64, h65, hsy, hsl, ⟨m1, m6, hm⟩, -⟩ := id h
  have l7 : L ≤ 7 := cok.2.1
  have hM0 : MoOK (sI E 1538 95 0) := hM
  have hL0 : gA (sI E 1538 95 0) 98 0 = nI L := hL
  have his := c_isSl (d := d + 6) (E := sI E 1538 95 0) (x := x) hM0 hL0 l7
  rw [b01_f hx] at his
  refine ⟨_, mq_fail (x := 0), ?_⟩
  refine Cl.of (by decide) rfl (fun q => by cases q) rfl rfl (Nat.le_of_ble_eq_true rfl) ?_
  show Sm _ _ _ _ _ 0 [some (.ref 95), some (.int (x)), some (.int (w))] [] _ _
  refine r_aload_n 1 dX12_woken_0 rfl rfl ?_
  refine r_iconst (0) 2 dX12_woken_1 rfl (by decide) ?_
  refine r_putI 5 dX12_woken_2 rfl f12_159 rfl lt95 ?_
  refine r_aload_n 6 dX12_woken_5 rfl rfl ?_
  refine r_iload_n 7 dX12_woken_6 rfl rfl ?_
  refine r_callV (M := mX12_woken) (pc := 7) 10 dX12_woken_7 rfl k12_420 his rfl rfl rfl (by decide) rfl lt95 (Nat.le_of_ble_eq_true rfl) ?_
  refine r_if_eq 13 22 dX12_woken_10 rfl (by decide) (fun h10 => ?_) (fun h10 => absurd rfl h10)
  refine r_aload_n 23 dX12_woken_22 rfl rfl ?_
  refine r_iconst (1) 24 dX12_woken_23 rfl (by decide) ?_
  refine r_callV (M := mX12_woken) (pc := 24) 27 dX12_woken_24 rfl k12_302 c_fail rfl rfl rfl (by decide) rfl lt95 (Nat.le_of_ble_eq_true rfl) ?_
  exact r_iret dX12_woken_27 rfl rfl (rfl)
set_option maxRecDepth 20000 in
theorem m_woken2 {d L m s : Nat} {sl : Nat → Nat → Int32} {aw : Int32} {R : List Int32} {c : Cfg} {fr : Int32} {E : HP} {y w : Int32} (h : MD E L m sl aw R c fr) (hs : s < L) (hw : ¬ inB w 2) : ∃ E2, AQ E E2 1 ∧ Cl yX12_woken mX12_woken (d + 8) 0 0 [.ref 95, .int (nI s), .int (w)] E 137 (.inl (some (.int 0)), E2, 137) := by
  obtain ⟨hM, hL, ⟨cok, csu⟩, hoc, h62, h63, h64, h65, hsy, hsl, ⟨m1, m6, hm⟩, -⟩ := id h
  have l7 : L ≤ 7 := cok.2.1
  have hM0 : MoOK (sI E 1538 95 0) := hM
  have hL0 : gA (sI E 1538 95 0) 98 0 = nI L := hL
  have his := c_isSl (d := d + 6) (E := sI E 1538 95 0) (x := nI s) hM0 hL0 l7
  rw [b01_t (inB_of hs (by omega))] at his
  refine ⟨_, mq_fail (x := 0), ?_⟩
  refine Cl.of (by decide) rfl (fun q => by cases q) rfl rfl (Nat.le_of_ble_eq_true rfl) ?_
  show Sm _ _ _ _ _ 0 [some (.ref 95), some (.int (nI s)), some (.int (w))] [] _ _
  refine r_aload_n 1 dX12_woken_0 rfl rfl ?_
  refine r_iconst (0) 2 dX12_woken_1 rfl (by decide) ?_
  refine r_putI 5 dX12_woken_2 rfl f12_159 rfl lt95 ?_
  refine r_aload_n 6 dX12_woken_5 rfl rfl ?_
  refine r_iload_n 7 dX12_woken_6 rfl rfl ?_
  refine r_callV (M := mX12_woken) (pc := 7) 10 dX12_woken_7 rfl k12_420 his rfl rfl rfl (by decide) rfl lt95 (Nat.le_of_ble_eq_true rfl) ?_
  refine r_if_eq 13 22 dX12_woken_10 rfl (by decide) (fun h10 => absurd h10 (by decide)) (fun h10 => ?_)
  refine r_iload_n 14 dX12_woken_13 rfl rfl ?_
  refine r_if_lt 17 22 dX12_woken_14 rfl (by decide) (fun h14 => ?_) (fun h14 => ?_)
  · refine r_aload_n 23 dX12_woken_22 rfl rfl ?_
    refine r_iconst (1) 24 dX12_woken_23 rfl (by decide) ?_
    refine r_callV (M := mX12_woken) (pc := 24) 27 dX12_woken_24 rfl k12_302 c_fail rfl rfl rfl (by decide) rfl lt95 (Nat.le_of_ble_eq_true rfl) ?_
    exact r_iret dX12_woken_27 rfl rfl (rfl)
  · refine r_iload_n 18 dX12_woken_17 rfl rfl ?_
    refine r_iconst (1) 19 dX12_woken_18 rfl (by decide) ?_
    refine r_icmp_le 22 28 dX12_woken_19 rfl (by decide) (fun h19 => ?_) (fun h19 => ?_)
    · exact absurd (in2_of h14 h19) hw
    · refine r_aload_n 23 dX12_woken_22 rfl rfl ?_
      refine r_iconst (1) 24 dX12_woken_23 rfl (by decide) ?_
      refine r_callV (M := mX12_woken) (pc := 24) 27 dX12_woken_24 rfl k12_302 c_fail rfl rfl rfl (by decide) rfl lt95 (Nat.le_of_ble_eq_true rfl) ?_
      exact r_iret dX12_woken_27 rfl rfl (rfl)
