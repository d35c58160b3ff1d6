/-! The model: orders, order, edge, kept -/
abbrev gsO : List Nat := [1585, 1586, 1587, 1588, 1592, 1593]
abbrev asO : List Nat := [111, 112, 113, 115, 116, 117, 118, 119, 120, 121, 122, 123, 125]
/-- behind one more row: how many, the best, whose it is -/
def stepO (val : List Nat → Int32) (q : Nat × Int32 × List Nat) (l : List Nat) : Nat × Int32 × List Nat := (q.1 + 1, if q.1 = 0 ∨ val l < q.2.1 then (val l, l) else (q.2.1, q.2.2))
def foldO (val : List Nat → Int32) (q : Nat × Int32 × List Nat) (P : List (List Nat)) : Nat × Int32 × List Nat := P.foldl (stepO val) q
theorem fold_n {val : List Nat → Int32} : ∀ (P : List (List Nat)) q, (foldO val q P).1 = q.1 + P.length := by
  intro P
  induction P with
  | nil => intro q; rfl
  | cons a r ih =>
    intro q
    show (foldO val (stepO val q a) r).1 = _
    rw [ih, List.length_cons]
    show q.1 + 1 + r.length = _
    omega
theorem fold_app {val : List Nat → Int32} {q : Nat × Int32 × List Nat} {P Q : List (List Nat)} : foldO val q (P ++ Q) = foldO val (foldO val q P) Q := List.foldl_append
def alO (ne : Nat → Int32) (so : Nat) : List Nat → Nat → Bool := fun pre s => if so < 2 then alN ne pre s else true
/-- the rows that lie by a question's rule, those from M behind pre -/
def dfsI (L : Nat) (al : List Nat → Nat → Bool) (n M : Nat) (pre : List Nat) (s : Nat) : List (List Nat) := if M.testBit s && al pre s then dfsP L al n (clrN M s) (pre ++ [s]) else []
theorem dfs_s {L : Nat} {al : List Nat → Nat → Bool} {n M : Nat} {pre : List Nat} : dfsP L al (n + 1) M pre = (List.range L).flatMap (dfsI L al n M pre) := rfl
theorem fm_succ {α : Type} {f : Nat → List α} {k : Nat} : (List.range (k + 1)).flatMap f = (List.range k).flatMap f ++ f k := by
  rw [List.range_succ, List.flatMap_append, List.flatMap_singleton]
theorem fm_le {α : Type} {f : Nat → List α} : ∀ j k, ((List.range k).flatMap f).length ≤ ((List.range (k + j)).flatMap f).length := by
  intro j
  induction j with
  | zero => intro k; exact Nat.le_refl _
  | succ j ih =>
    intro k
    have := ih k
    rw [show k + (j + 1) = k + j + 1 from rfl, fm_succ, List.length_append]
    omega
/-- what stands in the model behind some rows -/
def OI (E1 E : HP) (L : Nat) (q : Nat × Int32 × List Nat) : Prop := MF gsO asO E1 E ∧ gI E 1592 95 = nI q.1 ∧ (¬ q.1 = 0 → gI E 1593 95 = q.2.1 ∧ ∀ i, i < L → gA E 125 i = nI (gN q.2.2 i))
/-- the ground of all rows: what set has laid out -/
def OG (E E1 : HP) (L : Nat) (c : Cfg) (fr : Int32) : Prop := MF gsQ asQ (sI E 1538 95 0) E1 ∧ gI E1 1581 95 = nI L ∧ (∀ i, i < L → gA E1 114 i = cU c i) ∧ gI E1 1582 95 = cS c ∧ gI E1 1583 95 = (if cS c = -1 then 0 else cE c) ∧ gI E1 1584 95 = cB c ∧ gI E1 1589 95 = fr ∧ gI E1 1538 95 = 0
def valO (L m : Nat) (sl : Nat → Nat → Int32) (aw : Int32) (R : List Int32) (c : Cfg) (fr : Int32) (so : Nat) (l : List Nat) : Int32 := if so = 0 then 0 else if so = 1 then nS (nightF (vMk L sl aw R (cOrd c l) fr) m) 2 else twO sl (fun i => nI (gN l i)) L
theorem og_vis {E E1 E2 : HP} {L m : Nat} {sl : Nat → Nat → Int32} {aw : Int32} {R : List Int32} {c : Cfg} {fr : Int32} {pre : List Nat} (h : MD E L m sl aw R c fr) (g : OG E E1 L c fr) (f : MF gsO asO E1 E2) (hp : PermOK L pre) (hrow : ∀ i, i < L → gA E2 113 i = nI (gN pre i)) : MVis E2 (vMk L sl aw R (cOrd c pre) fr) L := by
  obtain ⟨g0, g1, g2, g3, g4, g5, g6, g7⟩ := g
  obtain ⟨hM, hL, hful, hoc, h62, h63, h64, h65, hsy, -⟩ := id h
  have i2 : ∀ k, k ∉ gsO → gI E2 k 95 = gI E1 k 95 := fun k hk => mf_gI f hk
  refine m_vis h (mf_tr g0 (mf_mono f (by decide) (by decide))) ((i2 _ (by decide)).trans g1) (c2 := cOrd c pre) (ful_ord hful hp).1 hrow (fun s hs => by rw [mf_gA f (by decide)]; exact g2 s hs) (fun z => ?_) (fun z1 z2 => ?_) ((i2 _ (by decide)).trans g5) ((i2 _ (by decide)).trans g6)
  · rw [i2 1582 (by decide), i2 1583 (by decide), g3, g4] at z
    intro y
    have y' : 0 < cE c := y
    rcases z with z | z
    · exact hsy y' z
    · rw [if_neg (hsy y')] at z
      exact z y'
  · rw [i2 1582 (by decide), g3] at z1
    rw [i2 1582 (by decide), i2 1583 (by decide), g3, g4, if_neg z1]
    exact ⟨rfl, rfl⟩
set_option maxRecDepth 20000 in
theorem m_val1 {d L m : Nat} {sl : Nat → Nat → Int32} {aw : Int32} {R : List Int32} {c : Cfg} {fr : Int32} {E E1 E2 : HP} {pre : List Nat} (h : MD E L m sl aw R c fr) (g : OG E E1 L c fr) (f : MF gsO asO E1 E2) (hp : PermOK L pre) (hrow : ∀ i, i < L → gA E2 113 i = nI (gN pre i)) : ∃ E3, MF [1585, 1586, 1587, 1588] asN E2 E3 ∧ Cl yX12_valueOf mX12_valueOf (d + 6) 0 0 [.ref 95, .int 1] E2 137 (.inl (some (.int (nS (nightF (vMk L sl aw R (cOrd c pre) fr) m) 2))), E3, 137) := by
  obtain ⟨hM, hL, ⟨cok, csu⟩, hoc, h62, h63, h64, h65, hsy, hsl, ⟨m1, m6, hm⟩, -⟩ := id h
  have l7 : L ≤ 7 := cok.2.1
  have f2 : MF gsQ asQ (sI E 1538 95 0) E2 := mf_tr g.1 (mf_mono f (by decide) (by decide))
  have hM0 : MoOK (sI E 1538 95 0) := hM
  have hM2 := mf_mo f2 hM0
  have hv2 := og_vis h g f hp hrow
  have hF2 : gI E2 1562 95 = vS (vMk L sl aw R (cOrd c pre) fr) 4 := (mf_gI f2 (by decide)).trans h62
  have hm2 : gA E2 98 3 = nI m := by rw [mf_gA0 f2 (by decide)]; exact hm
  obtain ⟨_, ⟨E3, rfl, f3, hg⟩, hgo⟩ := c_X12_go (d := d) (m := m) hM2 hv2 cok.2.2.2.2.2.2 m6
  have haw := c_X12_allWoken (d := d + 5) hg.1 (by rw [mf_gA f3 (by decide), mf_gA0 f2 (by decide)]; exact hL) l7
  rw [hg.2.2.2.2.2.1] at haw
  refine ⟨E3, f3, ?_⟩
  refine Cl.of (by decide) rfl (fun q => by cases q) rfl rfl (Nat.le_of_ble_eq_true rfl) ?_
  show Sm _ _ _ _ _ 0 [some (.ref 95), some (.int (1))] [] _ _
  refine r_iload_n 1 dX12_valueOf_0 rfl rfl ?_
  refine r_iconst (2) 2 dX12_valueOf_1 rfl (by decide) ?_
  refine r_icmp_ne 5 10 dX12_valueOf_2 rfl (by decide) (fun h2 => ?_) (fun h2 => absurd h2 (by decide))
  refine r_aload_n 11 dX12_valueOf_10 rfl rfl ?_
  refine r_aload_n 12 dX12_valueOf_11 rfl rfl ?_
  refine r_getIV (vS (vMk L sl aw R (cOrd c pre) fr) 4) 15 dX12_valueOf_12 rfl f12_315 rfl rfl lt95 (hF2) ?_
  refine r_aload_n 16 dX12_valueOf_15 rfl rfl ?_
  refine r_getR 19 dX12_valueOf_16 rfl f12_38 rfl rfl lt95 (mo_3 hM2) ?_
  refine r_iconst (3) 20 dX12_valueOf_19 rfl (by decide) ?_
  refine r_ialdN (3) (nI m) 21 dX12_valueOf_20 rfl rfl (Nat.le_of_ble_eq_true rfl) (by decide) (Nat.le_of_ble_eq_true rfl) (Nat.le_of_ble_eq_true rfl) (hm2) ?_
  refine r_callV (M := mX12_valueOf) (pc := 21) 24 dX12_valueOf_21 rfl k12_416 hgo rfl rfl rfl (by decide) rfl lt95 (Nat.le_of_ble_eq_true rfl) ?_
  refine r_aload_n 25 dX12_valueOf_24 rfl rfl ?_
  refine r_callV (M := mX12_valueOf) (pc := 25) 28 dX12_valueOf_25 rfl k12_447 haw rfl rfl rfl (by decide) rfl lt95 (Nat.le_of_ble_eq_true rfl) ?_
  exact r_iret dX12_valueOf_28 rfl rfl (rfl)
set_option maxRecDepth 20000 in
theorem m_val2 {d L m : Nat} {sl : Nat → Nat → Int32} {aw : Int32} {R : List Int32} {c : Cfg} {fr : Int32} {E E1 E2 : HP} {pre : List Nat} (h : MD E L m sl aw R c fr) (g : OG E E1 L c fr) (f : MF gsO asO E1 E2) (hp : PermOK L pre) (hrow : ∀ i, i < L → gA E2 113 i = nI (gN pre i)) : Cl yX12_valueOf mX12_valueOf (d + 6) 0 0 [.ref 95, .int 2] E2 137 (.inl (some (.int (twO sl (fun i => nI (gN pre i)) L))), E2, 137) := by
  obtain ⟨hM, hL, ⟨cok, csu⟩, hoc, h62, h63, h64, h65, hsy, hsl, ⟨m1, m6, hm⟩, -⟩ := id h
  have l7 : L ≤ 7 := cok.2.1
  have f2 : MF gsQ asQ (sI E 1538 95 0) E2 := mf_tr g.1 (mf_mono f (by decide) (by decide))
  have hM0 : MoOK (sI E 1538 95 0) := hM
  have hM2 := mf_mo f2 hM0
  have htn := c_tenths (d := d + 4) (sl := sl) (ord := fun i => nI (gN pre i)) hM2 ((mf_gI f (by decide)).trans g.2.1) l7 (fun i hi => by
    have hs := hp.2.1 i hi
    refine ⟨hrow i hi, gN pre i, by omega, rfl, ?_, ?_⟩
    · rw [mf_gA0 f2 (by decide)]; exact (hsl _ hs).2.2.2.2.2.1
    · rw [mf_gA0 f2 (by decide)]; exact (hsl _ hs).1)
  refine Cl.of (by decide) rfl (fun q => by cases q) rfl rfl (Nat.le_of_ble_eq_true rfl) ?_
  show Sm _ _ _ _ _ 0 [some (.ref 95), some (.int (2))] [] _ _
  refine r_iload_n 1 dX12_valueOf_0 rfl rfl ?_
  refine r_iconst (2) 2 dX12_valueOf_1 rfl (by decide) ?_
  refine r_icmp_ne 5 10 dX12_valueOf_2 rfl (by decide) (fun h2 => absurd h2 (fun z => z rfl)) (fun h2 => ?_)
  refine r_aload_n 6 dX12_valueOf_5 rfl rfl ?_
  refine r_callV (M := mX12_valueOf) (pc := 6) 9 dX12_valueOf_6 rfl k12_453 htn rfl rfl rfl (by decide) rfl lt95 (Nat.le_of_ble_eq_true rfl) ?_
  exact r_iret dX12_valueOf_9 rfl rfl (rfl)
set_option maxRecDepth 20000 in
theorem m_orderOn {d L m so : Nat} {sl : Nat → Nat → Int32} {aw : Int32} {R : List Int32} {c : Cfg} {fr : Int32} {E E1 : HP} (h : MD E L m sl aw R c fr) (hL6 : L < 7) (hso : so ≤ 2) (g : OG E E1 L c fr) : ∀ n p M pre E2 q, p + n = L → pre.length = p → M < 64 → (∀ l ∈ dfsP L (alO (gA E 105) so) n M pre, PermOK L l) → q.1 + (dfsP L (alO (gA E 105) so) n M pre).length ≤ 800 → OI E1 E2 L q → (∀ i, i < p → gA E2 113 i = nI (gN pre i)) → (∀ i, i < p → gN pre i < L) → ∃ o, (∃ E3, o = (.inl none, E3, 137) ∧ OI E1 E3 L (foldO (valO L m sl aw R c fr so) q (dfsP L (alO (gA E 105) so) n M pre)) ∧ (∀ i, i < p → gA E3 113 i = nI (gN pre i))) ∧ Cl yX12_orderOn mX12_orderOn (d + n + 7) 0 0 [.ref 95, .int (nI p), .int (nI M), .int (nI so)] E2 137 o := by
  obtain ⟨hM, hL, ⟨cok, csu⟩, hoc, h62, h63, h64, h65, hsy, hsl, ⟨m1, m6, hm⟩, -⟩ := id h
  have l7 : L ≤ 7 := cok.2.1
  have hM0 : MoOK (sI E 1538 95 0) := hM
  have hM1 := mf_mo g.1 hM0
  intro n
  induction n with
  | zero =>
    intro p M pre E2 q hpn hpl hM64 hperm hlen hoi hrow hpre
    have hpL : p = L := by omega
    subst hpL
    have hpo : PermOK p pre := hperm pre (List.mem_singleton.mpr rfl)
    obtain ⟨f2, o1, o2⟩ := id hoi
    have hM2 := mf_mo f2 hM1
    have hlen : q.1 + 1 ≤ 800 := hlen
    have hmany : gI E2 1581 95 = nI p := (mf_gI f2 (by decide)).trans g.2.1
    refine Cx.of (by decide) rfl (fun q => by cases q) rfl rfl (Nat.le_of_ble_eq_true rfl) ?_
    show Sx _ _ _ _ _ 0 [some (.ref 95), some (.int (nI p)), some (.int (nI M)), some (.int (nI so)), none, none] [] _ _
    have hfold : foldO (valO p m sl aw R c fr so) q (dfsP p (alO (gA E 105) so) 0 M pre) = stepO (valO p m sl aw R c fr so) q pre := rfl
    rw [hfold]
    have tail : ∀ E3, MF gsO asO E1 E3 → gI E3 1592 95 = nI (q.1 + 1) → (¬ q.1 = 0 → gI E3 1593 95 = q.2.1 ∧ ∀ i, i < p → gA E3 125 i = nI (gN q.2.2 i)) → (∀ i, i < p → gA E3 113 i = nI (gN pre i)) → Sx mX12_orderOn (d + 0 + 7) 0 0 (fun o => ∃ E3, o = (.inl none, E3, 137) ∧ OI E1 E3 p (stepO (valO p m sl aw R c fr so) q pre) ∧ (∀ i, i < p → gA E3 113 i = nI (gN pre i))) 33 [some (.ref 95), some (.int (nI p)), some (.int (nI M)), some (.int (nI so)), some (.int (valO p m sl aw R c fr so pre)), none] [] E3 137 := by
      intro E3 f3 a1 a2 a3
      have hM3 := mf_mo f3 hM1
      have hmany3 : gI E3 1581 95 = nI p := (mf_gI f3 (by decide)).trans g.2.1
      have upd : (q.1 = 0 ∨ (valO p m sl aw R c fr so pre) < q.2.1) → ∀ x5 : Option Value, Sx mX12_orderOn (d + 0 + 7) 0 0 (fun o => ∃ E3, o = (.inl none, E3, 137) ∧ OI E1 E3 p (stepO (valO p m sl aw R c fr so) q pre) ∧ (∀ i, i < p → gA E3 113 i = nI (gN pre i))) 51 [some (.ref 95), some (.int (nI p)), some (.int (nI M)), some (.int (nI so)), some (.int (valO p m sl aw R c fr so pre)), x5] [] E3 137 := by
        intro hu x5
        have hst : stepO (valO p m sl aw R c fr so) q pre = (q.1 + 1, (valO p m sl aw R c fr so pre), pre) := by
          show (_, if q.1 = 0 ∨ (valO p m sl aw R c fr so pre) < q.2.1 then _ else _) = _
          rw [if_pos hu]
        rw [hst]
        refine Sx.less (ls := [some (.ref 95), some (.int (nI p)), some (.int (nI M)), some (.int (nI so)), some (.int (valO p m sl aw R c fr so pre)), none]) (by exact ⟨rfl, rfl, rfl, rfl, rfl, trivial⟩) ?_
        have loop := sxUp (S := fun k9 E4 => Sx mX12_orderOn (d + 0 + 7) 0 0 (fun o => ∃ E3, o = (.inl none, E3, 137) ∧ OI E1 E3 p (q.1 + 1, (valO p m sl aw R c fr so pre), pre) ∧ (∀ i, i < p → gA E3 113 i = nI (gN pre i))) 60 [some (.ref 95), some (.int (nI p)), some (.int (nI M)), some (.int (nI so)), some (.int (valO p m sl aw R c fr so pre)), some (.int (nI k9))] [] E4 137) (Inv := fun k9 E4 => MF gsO asO E1 E4 ∧ gI E4 1592 95 = nI (q.1 + 1) ∧ gI E4 1593 95 = (valO p m sl aw R c fr so pre) ∧ (∀ i, i < k9 → gA E4 125 i = nI (gN pre i)) ∧ (∀ i, i < p → gA E4 113 i = nI (gN pre i))) (a := 0) (l := p) (by omega) ?_ ?_
        refine Sx.up (fun _ kk => r_aload_n 52 dX12_orderOn_51 rfl rfl kk) ?_
        refine Sx.up (fun _ kk => r_iload 54 dX12_orderOn_52 rfl rfl kk) ?_
        refine Sx.up (fun _ kk => r_putI 57 dX12_orderOn_54 rfl f12_462 rfl lt95 kk) ?_
        refine Sx.up (fun _ kk => r_iconst (0) 58 dX12_orderOn_57 rfl (by decide) kk) ?_
        refine Sx.up (fun _ kk => r_istore 60 dX12_orderOn_58 rfl (by decide) rfl kk) ?_
        exact loop _ ⟨mf_sI (by decide) f3, by rw [gI_sI, if_neg (by decide)]; exact a1, by rw [gI_sI, if_pos ⟨rfl, rfl⟩], fun i hi => absurd hi (Nat.not_lt_zero i), a3⟩
        · intro E4 ⟨f4, b1, b2, b3, b4⟩
          have hM4 := mf_mo f4 hM1
          have hmany4 : gI E4 1581 95 = nI p := (mf_gI f4 (by decide)).trans g.2.1
          refine Sx.up (fun _ kk => r_iload 62 dX12_orderOn_60 rfl rfl kk) ?_
          refine Sx.up (fun _ kk => r_aload_n 63 dX12_orderOn_62 rfl rfl kk) ?_
          refine Sx.up (fun _ kk => r_getIV (nI p) 66 dX12_orderOn_63 rfl f12_341 rfl rfl lt95 (hmany4) kk) ?_
          refine Sx.up (fun _ kk => r_icmp_ge 69 89 dX12_orderOn_66 rfl (by decide) (fun _ => kk) (fun h66 => absurd (nI_le (Nat.le_refl _) (by omega)) h66)) ?_
          refine ⟨_, ?_, r_vret dX12_orderOn_89 rfl rfl rfl⟩
          exact ⟨E4, rfl, ⟨f4, b1, fun _ => ⟨b2, b3⟩⟩, b4⟩
        · intro k9 E4 hk0 hk9 ⟨f4, b1, b2, b3, b4⟩ hq
          have hM4 := mf_mo f4 hM1
          have hmany4 : gI E4 1581 95 = nI p := (mf_gI f4 (by decide)).trans g.2.1
          refine Sx.up (fun _ kk => r_iload 62 dX12_orderOn_60 rfl rfl kk) ?_
          refine Sx.up (fun _ kk => r_aload_n 63 dX12_orderOn_62 rfl rfl kk) ?_
          refine Sx.up (fun _ kk => r_getIV (nI p) 66 dX12_orderOn_63 rfl f12_341 rfl rfl lt95 (hmany4) kk) ?_
          refine Sx.up (fun _ kk => r_icmp_ge 69 89 dX12_orderOn_66 rfl (by decide) (fun h66 => absurd h66 (nI_ge hk9 (by omega))) (fun _ => kk)) ?_
          refine Sx.up (fun _ kk => r_aload_n 70 dX12_orderOn_69 rfl rfl kk) ?_
          refine Sx.up (fun _ kk => r_getR 73 dX12_orderOn_70 rfl f12_126 rfl rfl lt95 (mo_55 hM4) kk) ?_
          refine Sx.up (fun _ kk => r_iload 75 dX12_orderOn_73 rfl rfl kk) ?_
          refine Sx.up (fun _ kk => r_aload_n 76 dX12_orderOn_75 rfl rfl kk) ?_
          refine Sx.up (fun _ kk => r_getR 79 dX12_orderOn_76 rfl f12_90 rfl rfl lt95 (mo_34 hM4) kk) ?_
          refine Sx.up (fun _ kk => r_iload 81 dX12_orderOn_79 rfl rfl kk) ?_
          refine Sx.up (fun _ kk => r_ialdN (k9) (_) 82 dX12_orderOn_81 rfl rfl (Nat.le_of_ble_eq_true rfl) (rfl) (by omega) (Nat.le_of_ble_eq_true rfl) (b4 k9 hk9) kk) ?_
          refine Sx.up (fun _ kk => r_iastN (k9) 83 dX12_orderOn_82 rfl rfl (Nat.le_of_ble_eq_true rfl) (rfl) (by omega) (Nat.le_of_ble_eq_true rfl) kk) ?_
          refine Sx.up (fun _ kk => r_iinc (1) 86 dX12_orderOn_83 rfl rfl (by decide) (by decide) rfl kk) ?_
          refine Sx.up (fun _ kk => r_goto 60 dX12_orderOn_86 (by decide) kk) ?_
          rw [nI_pp]
          refine hq _ ⟨mf_sA (by decide) f4, b1, b2, fun i hi => ?_, b4⟩
          rw [gA_sA]
          by_cases hik : i = k9
          · rw [if_pos ⟨rfl, hik⟩, hik]
          · rw [if_neg (fun z => hik z.2)]; exact b3 i (by omega)
      have non : ¬ (q.1 = 0 ∨ (valO p m sl aw R c fr so pre) < q.2.1) → stepO (valO p m sl aw R c fr so) q pre = (q.1 + 1, q.2.1, q.2.2) := by
        intro hu
        show (_, if q.1 = 0 ∨ (valO p m sl aw R c fr so pre) < q.2.1 then _ else _) = _
        rw [if_neg hu]
      rcases Nat.eq_zero_or_pos q.1 with z | z
      · refine Sx.up (fun _ kk => r_aload_n 34 dX12_orderOn_33 rfl rfl kk) ?_
        refine Sx.up (fun _ kk => r_getIV (nI (q.1 + 1)) 37 dX12_orderOn_34 rfl f12_456 rfl rfl lt95 (a1) kk) ?_
        refine Sx.up (fun _ kk => r_iconst (1) 38 dX12_orderOn_37 rfl (by decide) kk) ?_
        refine Sx.up (fun _ kk => r_icmp_le 41 51 dX12_orderOn_38 rfl (by decide) (fun _ => kk) (fun h38 => absurd (nI_le (b := 1) (by omega) (by omega)) h38)) ?_
        exact upd (Or.inl z) _
      · obtain ⟨a21, a22⟩ := a2 (by omega)
        refine Sx.up (fun _ kk => r_aload_n 34 dX12_orderOn_33 rfl rfl kk) ?_
        refine Sx.up (fun _ kk => r_getIV (nI (q.1 + 1)) 37 dX12_orderOn_34 rfl f12_456 rfl rfl lt95 (a1) kk) ?_
        refine Sx.up (fun _ kk => r_iconst (1) 38 dX12_orderOn_37 rfl (by decide) kk) ?_
        refine Sx.up (fun _ kk => r_icmp_le 41 51 dX12_orderOn_38 rfl (by decide) (fun h38 => absurd h38 (nI_ge (a := 1) (by omega) (by omega))) (fun _ => kk)) ?_
        refine Sx.up (fun _ kk => r_iload 43 dX12_orderOn_41 rfl rfl kk) ?_
        refine Sx.up (fun _ kk => r_aload_n 44 dX12_orderOn_43 rfl rfl kk) ?_
        refine Sx.up (fun _ kk => r_getIV (q.2.1) 47 dX12_orderOn_44 rfl f12_462 rfl rfl lt95 (a21) kk) ?_
        refine Sx.br (fun _ ka kb => r_icmp_lt 50 51 dX12_orderOn_47 rfl (by decide) ka kb) (by first | exact em1 | exact em2) (fun h47 => ?_) (fun h47 => ?_)
        · exact upd (Or.inr h47) _
        · refine ⟨_, ?_, r_vret dX12_orderOn_50 rfl rfl rfl⟩
          refine ⟨E3, rfl, ?_, a3⟩
          rw [non (fun y => y.elim (by omega) h47)]
          exact ⟨f3, a1, fun _ => ⟨a21, a22⟩⟩
    have f9 : MF gsO asO E1 (sI E2 1592 95 (nI (q.1 + 1))) := mf_sI (by decide) f2
    have i9 : ∀ k, k ≠ 1592 → gI (sI E2 1592 95 (nI (q.1 + 1))) k 95 = gI E2 k 95 := fun k hk => by rw [gI_sI, if_neg (fun z => hk z.1)]
    have a19 : gI (sI E2 1592 95 (nI (q.1 + 1))) 1592 95 = nI (q.1 + 1) := by rw [gI_sI, if_pos ⟨rfl, rfl⟩]
    have a29 : ¬ q.1 = 0 → gI (sI E2 1592 95 (nI (q.1 + 1))) 1593 95 = q.2.1 ∧ ∀ i, i < p → gA (sI E2 1592 95 (nI (q.1 + 1))) 125 i = nI (gN q.2.2 i) := fun z => ⟨(i9 _ (by decide)).trans (o2 z).1, (o2 z).2⟩
    have hso3 : so = 0 ∨ so = 1 ∨ so = 2 := by omega
    rcases hso3 with hs | hs | hs
    · refine Sx.up (fun _ kk => r_iload_n 1 dX12_orderOn_0 rfl rfl kk) ?_
      refine Sx.up (fun _ kk => r_aload_n 2 dX12_orderOn_1 rfl rfl kk) ?_
      refine Sx.up (fun _ kk => r_getIV (nI p) 5 dX12_orderOn_2 rfl f12_341 rfl rfl lt95 (hmany) kk) ?_
      refine Sx.up (fun _ kk => r_icmp_ne 8 90 dX12_orderOn_5 rfl (by decide) (fun h5 => absurd h5 (fun z => z rfl)) (fun _ => kk)) ?_
      refine Sx.up (fun _ kk => r_aload_n 9 dX12_orderOn_8 rfl rfl kk) ?_
      refine Sx.up (fun _ kk => r_dup 10 dX12_orderOn_9 rfl rfl kk) ?_
      refine Sx.up (fun _ kk => r_getIV (nI q.1) 13 dX12_orderOn_10 rfl f12_456 rfl rfl lt95 (o1) kk) ?_
      refine Sx.up (fun _ kk => r_iconst (1) 14 dX12_orderOn_13 rfl (by decide) kk) ?_
      refine Sx.up (fun _ kk => r_iadd 15 dX12_orderOn_14 rfl kk) ?_
      rw [nI_pp]
      refine Sx.up (fun _ kk => r_putI 18 dX12_orderOn_15 rfl f12_456 rfl lt95 kk) ?_
      refine Sx.up (fun _ kk => r_iload_n 19 dX12_orderOn_18 rfl rfl kk) ?_
      refine Sx.up (fun _ kk => r_if_ne 22 26 dX12_orderOn_19 rfl (by decide) (fun h19 => absurd h19 (fun z => z (by rw [hs]; rfl))) (fun _ => kk)) ?_
      refine Sx.up (fun _ kk => r_iconst (0) 23 dX12_orderOn_22 rfl (by decide) kk) ?_
      refine Sx.up (fun _ kk => r_goto 31 dX12_orderOn_23 (by decide) kk) ?_
      refine Sx.up (fun _ kk => r_istore 33 dX12_orderOn_31 rfl (by decide) rfl kk) ?_
      have hv : (valO p m sl aw R c fr so pre) = 0 := by unfold valO; rw [if_pos hs]
      have ht := tail _ f9 a19 a29 hrow
      rw [hv] at ht
      exact ht
    · obtain ⟨E3, f3, hvo⟩ := m_val1 (d := d) h g f9 hpo hrow
      refine Sx.up (fun _ kk => r_iload_n 1 dX12_orderOn_0 rfl rfl kk) ?_
      refine Sx.up (fun _ kk => r_aload_n 2 dX12_orderOn_1 rfl rfl kk) ?_
      refine Sx.up (fun _ kk => r_getIV (nI p) 5 dX12_orderOn_2 rfl f12_341 rfl rfl lt95 (hmany) kk) ?_
      refine Sx.up (fun _ kk => r_icmp_ne 8 90 dX12_orderOn_5 rfl (by decide) (fun h5 => absurd h5 (fun z => z rfl)) (fun _ => kk)) ?_
      refine Sx.up (fun _ kk => r_aload_n 9 dX12_orderOn_8 rfl rfl kk) ?_
      refine Sx.up (fun _ kk => r_dup 10 dX12_orderOn_9 rfl rfl kk) ?_
      refine Sx.up (fun _ kk => r_getIV (nI q.1) 13 dX12_orderOn_10 rfl f12_456 rfl rfl lt95 (o1) kk) ?_
      refine Sx.up (fun _ kk => r_iconst (1) 14 dX12_orderOn_13 rfl (by decide) kk) ?_
      refine Sx.up (fun _ kk => r_iadd 15 dX12_orderOn_14 rfl kk) ?_
      rw [nI_pp]
      refine Sx.up (fun _ kk => r_putI 18 dX12_orderOn_15 rfl f12_456 rfl lt95 kk) ?_
      refine Sx.up (fun _ kk => r_iload_n 19 dX12_orderOn_18 rfl rfl kk) ?_
      refine Sx.up (fun _ kk => r_if_ne 22 26 dX12_orderOn_19 rfl (by decide) (fun _ => kk) (fun h19 => absurd h19 (fun z => absurd ((nI_eq (by omega) (by omega)).mp (show nI so = nI 0 from z)) (by omega)))) ?_
      refine Sx.up (fun _ kk => r_aload_n 27 dX12_orderOn_26 rfl rfl kk) ?_
      refine Sx.up (fun _ kk => r_iload_n 28 dX12_orderOn_27 rfl rfl kk) ?_
      rw [show nI so = 1 by rw [hs]; rfl]
      refine Sx.up (fun _ kk => r_callV (M := mX12_orderOn) (pc := 28) 31 dX12_orderOn_28 rfl k12_459 hvo rfl rfl rfl (by decide) rfl lt95 (Nat.le_of_ble_eq_true rfl) kk) ?_
      refine Sx.up (fun _ kk => r_istore 33 dX12_orderOn_31 rfl (by decide) rfl kk) ?_
      have hv : (valO p m sl aw R c fr so pre) = nS (nightF (vMk p sl aw R (cOrd c pre) fr) m) 2 := by unfold valO; rw [if_neg (by omega), if_pos hs]
      have ht := tail E3 (mf_tr f9 (mf_mono f3 (by decide) (by decide))) ((mf_gI f3 (by decide)).trans a19) (fun z => ⟨(mf_gI f3 (by decide)).trans (a29 z).1, fun i hi => by rw [mf_gA f3 (by decide)]; exact (a29 z).2 i hi⟩) (fun i hi => by rw [mf_gA f3 (by decide)]; exact hrow i hi)
      rw [hv, show nI so = 1 by rw [hs]; rfl] at ht
      exact ht
    · have hvo := m_val2 (d := d) h g f9 hpo hrow
      refine Sx.up (fun _ kk => r_iload_n 1 dX12_orderOn_0 rfl rfl kk) ?_
      refine Sx.up (fun _ kk => r_aload_n 2 dX12_orderOn_1 rfl rfl kk) ?_
      refine Sx.up (fun _ kk => r_getIV (nI p) 5 dX12_orderOn_2 rfl f12_341 rfl rfl lt95 (hmany) kk) ?_
      refine Sx.up (fun _ kk => r_icmp_ne 8 90 dX12_orderOn_5 rfl (by decide) (fun h5 => absurd h5 (fun z => z rfl)) (fun _ => kk)) ?_
      refine Sx.up (fun _ kk => r_aload_n 9 dX12_orderOn_8 rfl rfl kk) ?_
      refine Sx.up (fun _ kk => r_dup 10 dX12_orderOn_9 rfl rfl kk) ?_
      refine Sx.up (fun _ kk => r_getIV (nI q.1) 13 dX12_orderOn_10 rfl f12_456 rfl rfl lt95 (o1) kk) ?_
      refine Sx.up (fun _ kk => r_iconst (1) 14 dX12_orderOn_13 rfl (by decide) kk) ?_
      refine Sx.up (fun _ kk => r_iadd 15 dX12_orderOn_14 rfl kk) ?_
      rw [nI_pp]
      refine Sx.up (fun _ kk => r_putI 18 dX12_orderOn_15 rfl f12_456 rfl lt95 kk) ?_
      refine Sx.up (fun _ kk => r_iload_n 19 dX12_orderOn_18 rfl rfl kk) ?_
      refine Sx.up (fun _ kk => r_if_ne 22 26 dX12_orderOn_19 rfl (by decide) (fun _ => kk) (fun h19 => absurd h19 (fun z => absurd ((nI_eq (by omega) (by omega)).mp (show nI so = nI 0 from z)) (by omega)))) ?_
      refine Sx.up (fun _ kk => r_aload_n 27 dX12_orderOn_26 rfl rfl kk) ?_
      refine Sx.up (fun _ kk => r_iload_n 28 dX12_orderOn_27 rfl rfl kk) ?_
      rw [show nI so = 2 by rw [hs]; rfl]
      refine Sx.up (fun _ kk => r_callV (M := mX12_orderOn) (pc := 28) 31 dX12_orderOn_28 rfl k12_459 hvo rfl rfl rfl (by decide) rfl lt95 (Nat.le_of_ble_eq_true rfl) kk) ?_
      refine Sx.up (fun _ kk => r_istore 33 dX12_orderOn_31 rfl (by decide) rfl kk) ?_
      have hv : (valO p m sl aw R c fr so pre) = twO sl (fun i => nI (gN pre i)) p := by unfold valO; rw [if_neg (by omega), if_neg (by omega)]
      have ht := tail _ f9 a19 a29 hrow
      rw [hv, show nI so = 2 by rw [hs]; rfl] at ht
      exact ht
  | succ n ih =>
    intro p M pre E2 q hpn hpl hM64 hperm hlen hoi hrow hpre
    have hpL : p < L := by omega
    refine Cx.of (by decide) rfl (fun q => by cases q) rfl rfl (Nat.le_of_ble_eq_true rfl) ?_
    show Sx _ _ _ _ _ 0 [some (.ref 95), some (.int (nI p)), some (.int (nI M)), some (.int (nI so)), none, none] [] _ _
    have hM2 := mf_mo hoi.1 hM1
    have hmany2 : gI E2 1581 95 = nI L := (mf_gI hoi.1 (by decide)).trans g.2.1
    have hsub : ∀ k, k < L → ∀ l ∈ dfsI L (alO (gA E 105) so) n M pre k, l ∈ dfsP L (alO (gA E 105) so) (n + 1) M pre := fun k hk l hl => List.mem_flatMap.mpr ⟨k, List.mem_range.mpr hk, hl⟩
    have hlk : ∀ k, k ≤ L → ((List.range k).flatMap (dfsI L (alO (gA E 105) so) n M pre)).length ≤ (dfsP L (alO (gA E 105) so) (n + 1) M pre).length := by
      intro k hk
      have hm9 := fm_le (f := dfsI L (alO (gA E 105) so) n M pre) (L - k) k
      rw [show k + (L - k) = L by omega] at hm9
      rw [dfs_s]
      exact hm9
    have loop := sxUp (S := fun k9 E3 => Sx mX12_orderOn (d + (n + 1) + 7) 0 0 (fun o => ∃ E3, o = (.inl none, E3, 137) ∧ OI E1 E3 L (foldO (valO L m sl aw R c fr so) q (dfsP L (alO (gA E 105) so) (n + 1) M pre)) ∧ (∀ i, i < p → gA E3 113 i = nI (gN pre i))) 93 [some (.ref 95), some (.int (nI p)), some (.int (nI M)), some (.int (nI so)), some (.int (nI k9)), none] [] E3 137) (Inv := fun k9 E3 => OI E1 E3 L (foldO (valO L m sl aw R c fr so) q ((List.range k9).flatMap (dfsI L (alO (gA E 105) so) n M pre))) ∧ (∀ i, i < p → gA E3 113 i = nI (gN pre i))) (a := 0) (l := L) (by omega) ?_ ?_
    refine Sx.up (fun _ kk => r_iload_n 1 dX12_orderOn_0 rfl rfl kk) ?_
    refine Sx.up (fun _ kk => r_aload_n 2 dX12_orderOn_1 rfl rfl kk) ?_
    refine Sx.up (fun _ kk => r_getIV (nI L) 5 dX12_orderOn_2 rfl f12_341 rfl rfl lt95 (hmany2) kk) ?_
    refine Sx.up (fun _ kk => r_icmp_ne 8 90 dX12_orderOn_5 rfl (by decide) (fun _ => kk) (fun h5 => absurd h5 (fun z => absurd ((nI_eq (by omega) (by omega)).mp z) (by omega)))) ?_
    refine Sx.up (fun _ kk => r_iconst (0) 91 dX12_orderOn_90 rfl (by decide) kk) ?_
    refine Sx.up (fun _ kk => r_istore 93 dX12_orderOn_91 rfl (by decide) rfl kk) ?_
    exact loop E2 ⟨hoi, hrow⟩
    · intro E3 ⟨hoi3, hrow3⟩
      have hM3 := mf_mo hoi3.1 hM1
      have hL3 : gA E3 98 0 = nI L := by rw [mf_gA hoi3.1 (by decide), mf_gA0 g.1 (by decide)]; exact hL
      refine Sx.up (fun _ kk => r_iload 95 dX12_orderOn_93 rfl rfl kk) ?_
      refine Sx.up (fun _ kk => r_aload_n 96 dX12_orderOn_95 rfl rfl kk) ?_
      refine Sx.up (fun _ kk => r_getR 99 dX12_orderOn_96 rfl f12_38 rfl rfl lt95 (mo_3 hM3) kk) ?_
      refine Sx.up (fun _ kk => r_iconst (0) 100 dX12_orderOn_99 rfl (by decide) kk) ?_
      refine Sx.up (fun _ kk => r_ialdN (0) (nI L) 101 dX12_orderOn_100 rfl rfl (Nat.le_of_ble_eq_true rfl) (by decide) (Nat.le_of_ble_eq_true rfl) (Nat.le_of_ble_eq_true rfl) (hL3) kk) ?_
      refine Sx.up (fun _ kk => r_icmp_ge 104 177 dX12_orderOn_101 rfl (by decide) (fun _ => kk) (fun h101 => absurd (nI_le (Nat.le_refl _) (by omega)) h101)) ?_
      refine ⟨_, ?_, r_vret dX12_orderOn_177 rfl rfl rfl⟩
      exact ⟨E3, rfl, hoi3, hrow3⟩
    · intro k9 E3 hk0 hk9 ⟨hoi3, hrow3⟩ hq
      have hM3 := mf_mo hoi3.1 hM1
      have hL3 : gA E3 98 0 = nI L := by rw [mf_gA hoi3.1 (by decide), mf_gA0 g.1 (by decide)]; exact hL
      have h105 : gA E3 105 = gA E 105 := by rw [mf_gA hoi3.1 (by decide), mf_gA0 g.1 (by decide)]
      have hbit := mask_bit M hM64 k9 (by omega)
      rw [fm_succ, fold_app] at hq
      have skip : dfsI L (alO (gA E 105) so) n M pre k9 = [] → Sx mX12_orderOn (d + (n + 1) + 7) 0 0 (fun o => ∃ E3, o = (.inl none, E3, 137) ∧ OI E1 E3 L (foldO (valO L m sl aw R c fr so) q (dfsP L (alO (gA E 105) so) (n + 1) M pre)) ∧ (∀ i, i < p → gA E3 113 i = nI (gN pre i))) 171 [some (.ref 95), some (.int (nI p)), some (.int (nI M)), some (.int (nI so)), some (.int (nI k9)), none] [] E3 137 := by
        intro he
        rw [he] at hq
        have hgo := hq E3 ⟨hoi3, hrow3⟩
        refine Sx.up (fun _ kk => r_iinc (1) 174 dX12_orderOn_171 rfl rfl (by decide) (by decide) rfl kk) ?_
        refine Sx.up (fun _ kk => r_goto 93 dX12_orderOn_174 (by decide) kk) ?_
        rw [nI_pp]
        exact hgo
      have place : M.testBit k9 = true → (alO (gA E 105) so) pre k9 = true → Sx mX12_orderOn (d + (n + 1) + 7) 0 0 (fun o => ∃ E3, o = (.inl none, E3, 137) ∧ OI E1 E3 L (foldO (valO L m sl aw R c fr so) q (dfsP L (alO (gA E 105) so) (n + 1) M pre)) ∧ (∀ i, i < p → gA E3 113 i = nI (gN pre i))) 147 [some (.ref 95), some (.int (nI p)), some (.int (nI M)), some (.int (nI so)), some (.int (nI k9)), none] [] E3 137 := by
        intro hb ha
        have he : dfsI L (alO (gA E 105) so) n M pre k9 = dfsP L (alO (gA E 105) so) n (clrN M k9) (pre ++ [k9]) := by
          unfold dfsI
          rw [if_pos (by rw [hb, ha]; rfl)]
        obtain ⟨hclr, hc64⟩ := mask_clr M hM64 k9 (by omega) hb
        have hlk9 := hlk (k9 + 1) (by omega)
        rw [fm_succ, List.length_append, he] at hlk9
        rw [he] at hq
        obtain ⟨_, ⟨E4, rfl, o4, r4⟩, hrec⟩ := ih (p + 1) (clrN M k9) (pre ++ [k9]) (sA E3 113 p (nI k9)) (foldO (valO L m sl aw R c fr so) q ((List.range k9).flatMap (dfsI L (alO (gA E 105) so) n M pre))) (by omega) (by rw [List.length_append, hpl]; rfl) hc64 (fun l hl => hperm l (hsub k9 hk9 l (by rw [he]; exact hl))) (by rw [fold_n]; omega) ⟨mf_sA (by decide) hoi3.1, hoi3.2.1, hoi3.2.2⟩ (fun i hi => by
          rw [gA_sA]
          by_cases hip : i = p
          · rw [if_pos ⟨rfl, hip⟩, hip, ← hpl, gN_end]
          · rw [if_neg (fun z => hip z.2), gN_app (by omega)]
            exact hrow3 i (by omega)) (fun i hi => by
          by_cases hip : i = p
          · rw [hip, ← hpl, gN_end]; exact hk9
          · rw [gN_app (by omega)]; exact hpre i (by omega))
        have hgo := hq E4 ⟨o4, fun i hi => by rw [r4 i (by omega), gN_app (by omega)]⟩
        refine Sx.up (fun _ kk => r_aload_n 148 dX12_orderOn_147 rfl rfl kk) ?_
        refine Sx.up (fun _ kk => r_getR 151 dX12_orderOn_148 rfl f12_90 rfl rfl lt95 (mo_34 hM3) kk) ?_
        refine Sx.up (fun _ kk => r_iload_n 152 dX12_orderOn_151 rfl rfl kk) ?_
        refine Sx.up (fun _ kk => r_iload 154 dX12_orderOn_152 rfl rfl kk) ?_
        refine Sx.up (fun _ kk => r_iastN (p) 155 dX12_orderOn_154 rfl rfl (Nat.le_of_ble_eq_true rfl) (rfl) (by omega) (Nat.le_of_ble_eq_true rfl) kk) ?_
        refine Sx.up (fun _ kk => r_aload_n 156 dX12_orderOn_155 rfl rfl kk) ?_
        refine Sx.up (fun _ kk => r_iload_n 157 dX12_orderOn_156 rfl rfl kk) ?_
        refine Sx.up (fun _ kk => r_iconst (1) 158 dX12_orderOn_157 rfl (by decide) kk) ?_
        refine Sx.up (fun _ kk => r_iadd 159 dX12_orderOn_158 rfl kk) ?_
        refine Sx.up (fun _ kk => r_iload_n 160 dX12_orderOn_159 rfl rfl kk) ?_
        refine Sx.up (fun _ kk => r_iconst (1) 161 dX12_orderOn_160 rfl (by decide) kk) ?_
        refine Sx.up (fun _ kk => r_iload 163 dX12_orderOn_161 rfl rfl kk) ?_
        refine Sx.up (fun _ kk => r_ishl 164 dX12_orderOn_163 rfl kk) ?_
        refine Sx.up (fun _ kk => r_iconst (-1) 165 dX12_orderOn_164 rfl (by decide) kk) ?_
        refine Sx.up (fun _ kk => r_ixor 166 dX12_orderOn_165 rfl kk) ?_
        refine Sx.up (fun _ kk => r_iand 167 dX12_orderOn_166 rfl kk) ?_
        refine Sx.up (fun _ kk => r_iload_n 168 dX12_orderOn_167 rfl rfl kk) ?_
        rw [nI_pp, hclr]
        refine Sx.up (fun _ kk => r_callV (M := mX12_orderOn) (pc := 168) 171 dX12_orderOn_168 rfl k12_465 hrec rfl rfl rfl (by decide) rfl lt95 (Nat.le_of_ble_eq_true rfl) kk) ?_
        refine Sx.up (fun _ kk => r_iinc (1) 174 dX12_orderOn_171 rfl rfl (by decide) (by decide) rfl kk) ?_
        refine Sx.up (fun _ kk => r_goto 93 dX12_orderOn_174 (by decide) kk) ?_
        rw [nI_pp]
        exact hgo
      by_cases hb : M.testBit k9 = true
      · have hbn : ¬ (nI M >>> (nI k9 &&& 31)) &&& 1 = 0 := fun z => by rw [hbit.mp z] at hb; cases hb
        by_cases h2 : so = 2
        · have ha : (alO (gA E 105) so) pre k9 = true := by unfold alO; rw [if_neg (by omega)]
          refine Sx.up (fun _ kk => r_iload 95 dX12_orderOn_93 rfl rfl kk) ?_
          refine Sx.up (fun _ kk => r_aload_n 96 dX12_orderOn_95 rfl rfl kk) ?_
          refine Sx.up (fun _ kk => r_getR 99 dX12_orderOn_96 rfl f12_38 rfl rfl lt95 (mo_3 hM3) kk) ?_
          refine Sx.up (fun _ kk => r_iconst (0) 100 dX12_orderOn_99 rfl (by decide) kk) ?_
          refine Sx.up (fun _ kk => r_ialdN (0) (nI L) 101 dX12_orderOn_100 rfl rfl (Nat.le_of_ble_eq_true rfl) (by decide) (Nat.le_of_ble_eq_true rfl) (Nat.le_of_ble_eq_true rfl) (hL3) kk) ?_
          refine Sx.up (fun _ kk => r_icmp_ge 104 177 dX12_orderOn_101 rfl (by decide) (fun h101 => absurd h101 (nI_ge hk9 (by omega))) (fun _ => kk)) ?_
          refine Sx.up (fun _ kk => r_iload_n 105 dX12_orderOn_104 rfl rfl kk) ?_
          refine Sx.up (fun _ kk => r_iload 107 dX12_orderOn_105 rfl rfl kk) ?_
          refine Sx.up (fun _ kk => r_ishr 108 dX12_orderOn_107 rfl kk) ?_
          refine Sx.up (fun _ kk => r_iconst (1) 109 dX12_orderOn_108 rfl (by decide) kk) ?_
          refine Sx.up (fun _ kk => r_iand 110 dX12_orderOn_109 rfl kk) ?_
          refine Sx.up (fun _ kk => r_if_eq 113 171 dX12_orderOn_110 rfl (by decide) (fun h110 => absurd h110 hbn) (fun _ => kk)) ?_
          refine Sx.up (fun _ kk => r_iload_n 114 dX12_orderOn_113 rfl rfl kk) ?_
          refine Sx.up (fun _ kk => r_iconst (2) 115 dX12_orderOn_114 rfl (by decide) kk) ?_
          refine Sx.up (fun _ kk => r_icmp_ge 118 147 dX12_orderOn_115 rfl (by decide) (fun _ => kk) (fun h115 => absurd (by rw [h2]; decide) h115)) ?_
          exact place hb ha
        · have hso1 : nI so < nI 2 := nI_lt (by omega) (by omega)
          rcases Nat.eq_zero_or_pos p with hp0 | hp0
          · have ha : (alO (gA E 105) so) pre k9 = true := by unfold alO; rw [if_pos (by omega)]; unfold alN; rw [decide_eq_true (show pre.length = 0 by omega)]; rfl
            refine Sx.up (fun _ kk => r_iload 95 dX12_orderOn_93 rfl rfl kk) ?_
            refine Sx.up (fun _ kk => r_aload_n 96 dX12_orderOn_95 rfl rfl kk) ?_
            refine Sx.up (fun _ kk => r_getR 99 dX12_orderOn_96 rfl f12_38 rfl rfl lt95 (mo_3 hM3) kk) ?_
            refine Sx.up (fun _ kk => r_iconst (0) 100 dX12_orderOn_99 rfl (by decide) kk) ?_
            refine Sx.up (fun _ kk => r_ialdN (0) (nI L) 101 dX12_orderOn_100 rfl rfl (Nat.le_of_ble_eq_true rfl) (by decide) (Nat.le_of_ble_eq_true rfl) (Nat.le_of_ble_eq_true rfl) (hL3) kk) ?_
            refine Sx.up (fun _ kk => r_icmp_ge 104 177 dX12_orderOn_101 rfl (by decide) (fun h101 => absurd h101 (nI_ge hk9 (by omega))) (fun _ => kk)) ?_
            refine Sx.up (fun _ kk => r_iload_n 105 dX12_orderOn_104 rfl rfl kk) ?_
            refine Sx.up (fun _ kk => r_iload 107 dX12_orderOn_105 rfl rfl kk) ?_
            refine Sx.up (fun _ kk => r_ishr 108 dX12_orderOn_107 rfl kk) ?_
            refine Sx.up (fun _ kk => r_iconst (1) 109 dX12_orderOn_108 rfl (by decide) kk) ?_
            refine Sx.up (fun _ kk => r_iand 110 dX12_orderOn_109 rfl kk) ?_
            refine Sx.up (fun _ kk => r_if_eq 113 171 dX12_orderOn_110 rfl (by decide) (fun h110 => absurd h110 hbn) (fun _ => kk)) ?_
            refine Sx.up (fun _ kk => r_iload_n 114 dX12_orderOn_113 rfl rfl kk) ?_
            refine Sx.up (fun _ kk => r_iconst (2) 115 dX12_orderOn_114 rfl (by decide) kk) ?_
            refine Sx.up (fun _ kk => r_icmp_ge 118 147 dX12_orderOn_115 rfl (by decide) (fun h115 => absurd h115 (Int32.not_le.mpr hso1)) (fun _ => kk)) ?_
            refine Sx.up (fun _ kk => r_iload_n 119 dX12_orderOn_118 rfl rfl kk) ?_
            refine Sx.up (fun _ kk => r_if_le 122 147 dX12_orderOn_119 rfl (by decide) (fun _ => kk) (fun h119 => absurd (by rw [hp0]; decide) h119)) ?_
            exact place hb ha
          · have hpm : nI p - 1 = nI (p - 1) := by rw [show p = p - 1 + 1 by omega, nI_pred]; rfl
            have hr : gA E3 113 (p - 1) = nI (gN pre (p - 1)) := hrow3 _ (by omega)
            have hg7 : gN pre (p - 1) < 14 := by have := hpre (p - 1) (by omega); omega
            have hal : (alO (gA E 105) so) pre k9 = !neV (gA E 105) (gN pre (p - 1)) k9 := by unfold alO; rw [if_pos (by omega)]; unfold alN; rw [decide_eq_false (show ¬ pre.length = 0 by omega), hpl]; rfl
            have hne : gA E3 105 (gN pre (p - 1)) = gA E 105 (gN pre (p - 1)) := by rw [h105]
            by_cases hv : (gA E 105 (gN pre (p - 1)) >>> (nI k9 &&& 31)) &&& 1 = 1
            · refine Sx.up (fun _ kk => r_iload 95 dX12_orderOn_93 rfl rfl kk) ?_
              refine Sx.up (fun _ kk => r_aload_n 96 dX12_orderOn_95 rfl rfl kk) ?_
              refine Sx.up (fun _ kk => r_getR 99 dX12_orderOn_96 rfl f12_38 rfl rfl lt95 (mo_3 hM3) kk) ?_
              refine Sx.up (fun _ kk => r_iconst (0) 100 dX12_orderOn_99 rfl (by decide) kk) ?_
              refine Sx.up (fun _ kk => r_ialdN (0) (nI L) 101 dX12_orderOn_100 rfl rfl (Nat.le_of_ble_eq_true rfl) (by decide) (Nat.le_of_ble_eq_true rfl) (Nat.le_of_ble_eq_true rfl) (hL3) kk) ?_
              refine Sx.up (fun _ kk => r_icmp_ge 104 177 dX12_orderOn_101 rfl (by decide) (fun h101 => absurd h101 (nI_ge hk9 (by omega))) (fun _ => kk)) ?_
              refine Sx.up (fun _ kk => r_iload_n 105 dX12_orderOn_104 rfl rfl kk) ?_
              refine Sx.up (fun _ kk => r_iload 107 dX12_orderOn_105 rfl rfl kk) ?_
              refine Sx.up (fun _ kk => r_ishr 108 dX12_orderOn_107 rfl kk) ?_
              refine Sx.up (fun _ kk => r_iconst (1) 109 dX12_orderOn_108 rfl (by decide) kk) ?_
              refine Sx.up (fun _ kk => r_iand 110 dX12_orderOn_109 rfl kk) ?_
              refine Sx.up (fun _ kk => r_if_eq 113 171 dX12_orderOn_110 rfl (by decide) (fun h110 => absurd h110 hbn) (fun _ => kk)) ?_
              refine Sx.up (fun _ kk => r_iload_n 114 dX12_orderOn_113 rfl rfl kk) ?_
              refine Sx.up (fun _ kk => r_iconst (2) 115 dX12_orderOn_114 rfl (by decide) kk) ?_
              refine Sx.up (fun _ kk => r_icmp_ge 118 147 dX12_orderOn_115 rfl (by decide) (fun h115 => absurd h115 (Int32.not_le.mpr hso1)) (fun _ => kk)) ?_
              refine Sx.up (fun _ kk => r_iload_n 119 dX12_orderOn_118 rfl rfl kk) ?_
              refine Sx.up (fun _ kk => r_if_le 122 147 dX12_orderOn_119 rfl (by decide) (fun h119 => absurd h119 (fun z => absurd (Int32.lt_of_lt_of_le (nI_lt (a := 0) hp0 (by omega)) z) Int32.lt_irrefl)) (fun _ => kk)) ?_
              refine Sx.up (fun _ kk => r_aload_n 123 dX12_orderOn_122 rfl rfl kk) ?_
              refine Sx.up (fun _ kk => r_getR 126 dX12_orderOn_123 rfl f12_59 rfl rfl lt95 (mo_10 hM3) kk) ?_
              refine Sx.up (fun _ kk => r_aload_n 127 dX12_orderOn_126 rfl rfl kk) ?_
              refine Sx.up (fun _ kk => r_getR 130 dX12_orderOn_127 rfl f12_90 rfl rfl lt95 (mo_34 hM3) kk) ?_
              refine Sx.up (fun _ kk => r_iload_n 131 dX12_orderOn_130 rfl rfl kk) ?_
              refine Sx.up (fun _ kk => r_iconst (1) 132 dX12_orderOn_131 rfl (by decide) kk) ?_
              refine Sx.up (fun _ kk => r_isub 133 dX12_orderOn_132 rfl kk) ?_
              refine Sx.up (fun _ kk => r_ialdN (p - 1) (_) 134 dX12_orderOn_133 rfl rfl (Nat.le_of_ble_eq_true rfl) (hpm) (by omega) (Nat.le_of_ble_eq_true rfl) (hr) kk) ?_
              refine Sx.up (fun _ kk => r_ialdN (gN pre (p - 1)) (_) 135 dX12_orderOn_134 rfl rfl (Nat.le_of_ble_eq_true rfl) (rfl) (hg7) (Nat.le_of_ble_eq_true rfl) (hne) kk) ?_
              refine Sx.up (fun _ kk => r_iload 137 dX12_orderOn_135 rfl rfl kk) ?_
              refine Sx.up (fun _ kk => r_ishr 138 dX12_orderOn_137 rfl kk) ?_
              refine Sx.up (fun _ kk => r_iconst (1) 139 dX12_orderOn_138 rfl (by decide) kk) ?_
              refine Sx.up (fun _ kk => r_iand 140 dX12_orderOn_139 rfl kk) ?_
              refine Sx.up (fun _ kk => r_iconst (1) 141 dX12_orderOn_140 rfl (by decide) kk) ?_
              refine Sx.up (fun _ kk => r_icmp_ne 144 147 dX12_orderOn_141 rfl (by decide) (fun h141 => absurd h141 (fun z => z hv)) (fun _ => kk)) ?_
              refine Sx.up (fun _ kk => r_goto 171 dX12_orderOn_144 (by decide) kk) ?_
              exact skip (by unfold dfsI; rw [hal]; unfold neV; rw [decide_eq_true hv]; simp)
            · refine Sx.up (fun _ kk => r_iload 95 dX12_orderOn_93 rfl rfl kk) ?_
              refine Sx.up (fun _ kk => r_aload_n 96 dX12_orderOn_95 rfl rfl kk) ?_
              refine Sx.up (fun _ kk => r_getR 99 dX12_orderOn_96 rfl f12_38 rfl rfl lt95 (mo_3 hM3) kk) ?_
              refine Sx.up (fun _ kk => r_iconst (0) 100 dX12_orderOn_99 rfl (by decide) kk) ?_
              refine Sx.up (fun _ kk => r_ialdN (0) (nI L) 101 dX12_orderOn_100 rfl rfl (Nat.le_of_ble_eq_true rfl) (by decide) (Nat.le_of_ble_eq_true rfl) (Nat.le_of_ble_eq_true rfl) (hL3) kk) ?_
              refine Sx.up (fun _ kk => r_icmp_ge 104 177 dX12_orderOn_101 rfl (by decide) (fun h101 => absurd h101 (nI_ge hk9 (by omega))) (fun _ => kk)) ?_
              refine Sx.up (fun _ kk => r_iload_n 105 dX12_orderOn_104 rfl rfl kk) ?_
              refine Sx.up (fun _ kk => r_iload 107 dX12_orderOn_105 rfl rfl kk) ?_
              refine Sx.up (fun _ kk => r_ishr 108 dX12_orderOn_107 rfl kk) ?_
              refine Sx.up (fun _ kk => r_iconst (1) 109 dX12_orderOn_108 rfl (by decide) kk) ?_
              refine Sx.up (fun _ kk => r_iand 110 dX12_orderOn_109 rfl kk) ?_
              refine Sx.up (fun _ kk => r_if_eq 113 171 dX12_orderOn_110 rfl (by decide) (fun h110 => absurd h110 hbn) (fun _ => kk)) ?_
              refine Sx.up (fun _ kk => r_iload_n 114 dX12_orderOn_113 rfl rfl kk) ?_
              refine Sx.up (fun _ kk => r_iconst (2) 115 dX12_orderOn_114 rfl (by decide) kk) ?_
              refine Sx.up (fun _ kk => r_icmp_ge 118 147 dX12_orderOn_115 rfl (by decide) (fun h115 => absurd h115 (Int32.not_le.mpr hso1)) (fun _ => kk)) ?_
              refine Sx.up (fun _ kk => r_iload_n 119 dX12_orderOn_118 rfl rfl kk) ?_
              refine Sx.up (fun _ kk => r_if_le 122 147 dX12_orderOn_119 rfl (by decide) (fun h119 => absurd h119 (fun z => absurd (Int32.lt_of_lt_of_le (nI_lt (a := 0) hp0 (by omega)) z) Int32.lt_irrefl)) (fun _ => kk)) ?_
              refine Sx.up (fun _ kk => r_aload_n 123 dX12_orderOn_122 rfl rfl kk) ?_
              refine Sx.up (fun _ kk => r_getR 126 dX12_orderOn_123 rfl f12_59 rfl rfl lt95 (mo_10 hM3) kk) ?_
              refine Sx.up (fun _ kk => r_aload_n 127 dX12_orderOn_126 rfl rfl kk) ?_
              refine Sx.up (fun _ kk => r_getR 130 dX12_orderOn_127 rfl f12_90 rfl rfl lt95 (mo_34 hM3) kk) ?_
              refine Sx.up (fun _ kk => r_iload_n 131 dX12_orderOn_130 rfl rfl kk) ?_
              refine Sx.up (fun _ kk => r_iconst (1) 132 dX12_orderOn_131 rfl (by decide) kk) ?_
              refine Sx.up (fun _ kk => r_isub 133 dX12_orderOn_132 rfl kk) ?_
              refine Sx.up (fun _ kk => r_ialdN (p - 1) (_) 134 dX12_orderOn_133 rfl rfl (Nat.le_of_ble_eq_true rfl) (hpm) (by omega) (Nat.le_of_ble_eq_true rfl) (hr) kk) ?_
              refine Sx.up (fun _ kk => r_ialdN (gN pre (p - 1)) (_) 135 dX12_orderOn_134 rfl rfl (Nat.le_of_ble_eq_true rfl) (rfl) (hg7) (Nat.le_of_ble_eq_true rfl) (hne) kk) ?_
              refine Sx.up (fun _ kk => r_iload 137 dX12_orderOn_135 rfl rfl kk) ?_
              refine Sx.up (fun _ kk => r_ishr 138 dX12_orderOn_137 rfl kk) ?_
              refine Sx.up (fun _ kk => r_iconst (1) 139 dX12_orderOn_138 rfl (by decide) kk) ?_
              refine Sx.up (fun _ kk => r_iand 140 dX12_orderOn_139 rfl kk) ?_
              refine Sx.up (fun _ kk => r_iconst (1) 141 dX12_orderOn_140 rfl (by decide) kk) ?_
              refine Sx.up (fun _ kk => r_icmp_ne 144 147 dX12_orderOn_141 rfl (by decide) (fun _ => kk) (fun h141 => absurd h141 hv)) ?_
              exact place hb (by rw [hal]; unfold neV; rw [decide_eq_false hv]; rfl)
      · refine Sx.up (fun _ kk => r_iload 95 dX12_orderOn_93 rfl rfl kk) ?_
        refine Sx.up (fun _ kk => r_aload_n 96 dX12_orderOn_95 rfl rfl kk) ?_
        refine Sx.up (fun _ kk => r_getR 99 dX12_orderOn_96 rfl f12_38 rfl rfl lt95 (mo_3 hM3) kk) ?_
        refine Sx.up (fun _ kk => r_iconst (0) 100 dX12_orderOn_99 rfl (by decide) kk) ?_
        refine Sx.up (fun _ kk => r_ialdN (0) (nI L) 101 dX12_orderOn_100 rfl rfl (Nat.le_of_ble_eq_true rfl) (by decide) (Nat.le_of_ble_eq_true rfl) (Nat.le_of_ble_eq_true rfl) (hL3) kk) ?_
        refine Sx.up (fun _ kk => r_icmp_ge 104 177 dX12_orderOn_101 rfl (by decide) (fun h101 => absurd h101 (nI_ge hk9 (by omega))) (fun _ => kk)) ?_
        refine Sx.up (fun _ kk => r_iload_n 105 dX12_orderOn_104 rfl rfl kk) ?_
        refine Sx.up (fun _ kk => r_iload 107 dX12_orderOn_105 rfl rfl kk) ?_
        refine Sx.up (fun _ kk => r_ishr 108 dX12_orderOn_107 rfl kk) ?_
        refine Sx.up (fun _ kk => r_iconst (1) 109 dX12_orderOn_108 rfl (by decide) kk) ?_
        refine Sx.up (fun _ kk => r_iand 110 dX12_orderOn_109 rfl kk) ?_
        refine Sx.up (fun _ kk => r_if_eq 113 171 dX12_orderOn_110 rfl (by decide) (fun _ => kk) (fun h110 => absurd (hbit.mpr (by simpa using hb)) h110)) ?_
        exact skip (by unfold dfsI; rw [if_neg (by simp [hb])])
/-- all rows of a question -/
def rowsO (L : Nat) (ne : Nat → Int32) (so : Nat) : List (List Nat) := (permL L).filter (fun l => if so < 2 then okN ne 0 l else true)
theorem dfs_rows {L : Nat} {ne : Nat → Int32} {so : Nat} : dfsP L (alO ne so) L (2 ^ L - 1) [] = rowsO L ne so := by
  unfold rowsO
  by_cases h : so < 2
  · have e : alO ne so = alN ne := by funext pre s; unfold alO; rw [if_pos h]
    rw [e, dfs_perm]
    congr 1
    funext l
    rw [if_pos h]
  · have e : alO ne so = (fun _ _ => true) := by funext pre s; unfold alO; rw [if_neg h]
    rw [e]
    symm
    show (permL L).filter _ = permL L
    rw [List.filter_eq_self]
    intro l _
    rw [if_neg h]
theorem rows_len {L : Nat} {ne : Nat → Int32} {so : Nat} (h : L < 7) : (rowsO L ne so).length ≤ 720 := Nat.le_trans (List.length_filter_le _ _) (perm_len h)
theorem rows_ok {L : Nat} {ne : Nat → Int32} {so : Nat} (h : L < 7) : ∀ l ∈ rowsO L ne so, PermOK L l := fun l hl => perm_ok h l ((List.mem_filter.mp hl).1)
set_option maxRecDepth 20000 in
theorem m_tell {d L m so : Nat} {sl : Nat → Nat → Int32} {aw : Int32} {R : List Int32} {c : Cfg} {fr : Int32} {E : HP} {x : Int32} (h : MD E L m sl aw R c fr) (hL6 : L < 7) (hso : so ≤ 2) (hx : x = nI so) : ∃ E3, (∃ E1, OG E E1 L c fr ∧ OI E1 E3 L (foldO (valO L m sl aw R c fr so) (0, 0, []) (rowsO L (gA E 105) so))) ∧ Cl yX12_tellOrders mX12_tellOrders (d + 14) 0 0 [.ref 95, .int x] (sI E 1538 95 0) 137 (.inl none, E3, 137) := by
  obtain ⟨hM, hL, ⟨cok, csu⟩, hoc, h62, h63, h64, h65, hsy, hsl, ⟨m1, m6, hm⟩, -⟩ := id h
  have l7 : L ≤ 7 := cok.2.1
  have hM0 : MoOK (sI E 1538 95 0) := hM
  have hL0 : gA (sI E 1538 95 0) 98 0 = nI L := hL
  obtain ⟨E1, ⟨f1, hv1, hr1, s1, s2⟩, hse⟩ := m_set (d := d + 12) (md_0 (x := 0) h)
  have hM1 := mf_mo f1 hM0
  obtain ⟨hma, hm64⟩ := mask_all L hL6
  have g : OG E E1 L c fr := ⟨mf_mono f1 (by decide) (by decide), hv1.1, fun i hi => (hr1 i hi).2, s1, s2, hv1.2.2.2.2.2.2.2.2.1, hv1.2.2.2.2.2.2.2.2.2.1, by rw [mf_gI f1 (by decide), gI_sI, if_pos ⟨rfl, rfl⟩]⟩
  obtain ⟨_, ⟨E3, rfl, o3, -⟩, hor⟩ := m_orderOn (d := d + (6 - L)) h hL6 hso g L 0 (2 ^ L - 1) [] (sI E1 1592 95 0) (0, 0, []) (by omega) rfl hm64 (by rw [dfs_rows]; exact rows_ok hL6) (by rw [dfs_rows]; have := rows_len (ne := gA E 105) (so := so) hL6; show 0 + _ ≤ 800; omega) ⟨mf_sI (by decide) mf_rfl, by rw [gI_sI, if_pos ⟨rfl, rfl⟩]; rfl, fun z => absurd rfl z⟩ (fun i hi => absurd hi (Nat.not_lt_zero i)) (fun i hi => absurd hi (Nat.not_lt_zero i))
  rw [dfs_rows] at o3
  rw [show d + (6 - L) + L + 7 = d + 13 by omega] at hor
  have hmany : gI (sI E1 1592 95 0) 1581 95 = nI L := by rw [gI_sI, if_neg (by decide)]; exact hv1.1
  refine ⟨E3, ⟨E1, g, o3⟩, ?_⟩
  subst hx
  refine Cl.of (by decide) rfl (fun q => by cases q) rfl rfl (Nat.le_of_ble_eq_true rfl) ?_
  show Sm _ _ _ _ _ 0 [some (.ref 95), some (.int (nI so))] [] _ _
  refine r_aload_n 1 dX12_tellOrders_0 rfl rfl ?_
  refine r_callV (M := mX12_tellOrders) (pc := 1) 4 dX12_tellOrders_1 rfl k12_413 hse rfl rfl rfl (by decide) rfl lt95 (Nat.le_of_ble_eq_true rfl) ?_
  refine r_aload_n 5 dX12_tellOrders_4 rfl rfl ?_
  refine r_iconst (0) 6 dX12_tellOrders_5 rfl (by decide) ?_
  refine r_putI 9 dX12_tellOrders_6 rfl f12_456 rfl lt95 ?_
  refine r_aload_n 10 dX12_tellOrders_9 rfl rfl ?_
  refine r_iconst (0) 11 dX12_tellOrders_10 rfl (by decide) ?_
  refine r_iconst (1) 12 dX12_tellOrders_11 rfl (by decide) ?_
  refine r_aload_n 13 dX12_tellOrders_12 rfl rfl ?_
  refine r_getIV (nI L) 16 dX12_tellOrders_13 rfl f12_341 rfl rfl lt95 (hmany) ?_
  refine r_ishl 17 dX12_tellOrders_16 rfl ?_
  refine r_iconst (1) 18 dX12_tellOrders_17 rfl (by decide) ?_
  refine r_isub 19 dX12_tellOrders_18 rfl ?_
  refine r_iload_n 20 dX12_tellOrders_19 rfl rfl ?_
  rw [hma]
  refine r_callV (M := mX12_tellOrders) (pc := 20) 23 dX12_tellOrders_20 rfl k12_465 hor rfl rfl rfl (by decide) rfl lt95 (Nat.le_of_ble_eq_true rfl) ?_
  exact r_vret dX12_tellOrders_23 rfl rfl (rfl)
set_option maxRecDepth 20000 in
theorem m_orders {d L m : Nat} {sl : Nat → Nat → Int32} {aw : Int32} {R : List Int32} {c : Cfg} {fr : Int32} {E : HP} (h : MD E L m sl aw R c fr) (hL6 : L < 7) : ∃ E3, AQ E E3 0 ∧ Cl yX12_orders mX12_orders (d + 15) 0 0 [.ref 95] E 137 (.inl (some (.int (nI (rowsO L (gA E 105) 0).length))), E3, 137) := by
  obtain ⟨hM, hL, ⟨cok, csu⟩, hoc, h62, h63, h64, h65, hsy, hsl, ⟨m1, m6, hm⟩, -⟩ := id h
  have l7 : L ≤ 7 := cok.2.1
  have hM0 : MoOK (sI E 1538 95 0) := hM
  have hL0 : gA (sI E 1538 95 0) 98 0 = nI L := hL
  obtain ⟨E3, ⟨E1, g, o3⟩, hte⟩ := m_tell (d := d) (so := 0) h hL6 (by decide) rfl
  obtain ⟨f3, q1, q2⟩ := id o3
  have hM1 : MoOK E1 := mf_mo g.1 hM0
  have hM3 := mf_mo f3 hM1
  have hq : AQ E E3 0 := ⟨mf_tr (mf_sI (by decide) mf_rfl) (mf_mono (mf_tr g.1 (mf_mono f3 (by decide) (by decide))) (by decide) (by decide)), (mf_gI f3 (by decide)).trans g.2.2.2.2.2.2.2⟩
  rw [fold_n] at q1
  have q1 : gI E3 1592 95 = nI (rowsO L (gA E 105) 0).length := by rw [q1]; congr 1; exact Nat.zero_add _
  refine ⟨E3, hq, ?_⟩
  refine Cl.of (by decide) rfl (fun q => by cases q) rfl rfl (Nat.le_of_ble_eq_true rfl) ?_
  show Sm _ _ _ _ _ 0 [some (.ref 95)] [] _ _
  refine r_aload_n 1 dX12_orders_0 rfl rfl ?_
  refine r_iconst (0) 2 dX12_orders_1 rfl (by decide) ?_
  refine r_putI 5 dX12_orders_2 rfl f12_159 rfl lt95 ?_
  refine r_aload_n 6 dX12_orders_5 rfl rfl ?_
  refine r_getR 9 dX12_orders_6 rfl f12_38 rfl rfl lt95 (mo_3 hM0) ?_
  refine r_iconst (0) 10 dX12_orders_9 rfl (by decide) ?_
  refine r_ialdN (0) (nI L) 11 dX12_orders_10 rfl rfl (Nat.le_of_ble_eq_true rfl) (by decide) (Nat.le_of_ble_eq_true rfl) (Nat.le_of_ble_eq_true rfl) (hL0) ?_
  refine r_bipush (6) 13 dX12_orders_11 rfl (by decide) ?_
  refine r_icmp_le 16 19 dX12_orders_13 rfl (by decide) (fun h13 => ?_) (fun h13 => absurd (nI_le (b := 6) (by omega) (by omega)) h13)
  refine r_aload_n 20 dX12_orders_19 rfl rfl ?_
  refine r_iconst (0) 21 dX12_orders_20 rfl (by decide) ?_
  refine r_callV (M := mX12_orders) (pc := 21) 24 dX12_orders_21 rfl k12_469 hte rfl rfl rfl (by decide) rfl lt95 (Nat.le_of_ble_eq_true rfl) ?_
  refine r_aload_n 25 dX12_orders_24 rfl rfl ?_
  refine r_getIV (_) 28 dX12_orders_25 rfl f12_456 rfl rfl lt95 (q1) ?_
  exact r_iret dX12_orders_28 rfl rfl (rfl)
/-- behind order and edge: what is kept -/
def KO (E E2 : HP) (L : Nat) (l : List Nat) : Prop := MF (1594 :: gsQ) (124 :: asQ) E E2 ∧ gI E2 1538 95 = 0 ∧ gI E2 1594 95 = 1 ∧ ∀ i, i < L → gA E2 124 i = nI (gN l i)
set_option maxRecDepth 20000 in
theorem c_keepBest {d L : Nat} {E : HP} {l : List Nat} (hM : MoOK E) (hl : gI E 1581 95 = nI L) (h7 : L ≤ 7) (hb : ∀ i, i < L → gA E 125 i = nI (gN l i)) : ∃ o, (∃ E2, o = (.inl none, E2, 137) ∧ MF [1594] [124] E E2 ∧ gI E2 1594 95 = 1 ∧ ∀ i, i < L → gA E2 124 i = nI (gN l i)) ∧ Cl yX12_keepBest mX12_keepBest d 0 0 [.ref 95] E 137 o := by
  refine Cx.of (by decide) rfl (fun q => by cases q) rfl rfl (Nat.le_of_ble_eq_true rfl) ?_
  show Sx _ _ _ _ _ 0 [some (.ref 95), none] [] _ _
  have loop := sxUp (S := fun k9 E2 => Sx mX12_keepBest d 0 0 (fun o => ∃ E2, o = (.inl none, E2, 137) ∧ MF [1594] [124] E E2 ∧ gI E2 1594 95 = 1 ∧ ∀ i, i < L → gA E2 124 i = nI (gN l i)) 7 [some (.ref 95), some (.int (nI k9))] [] E2 137) (Inv := fun k9 E2 => MF [1594] [124] E E2 ∧ gI E2 1594 95 = 1 ∧ ∀ i, i < k9 → gA E2 124 i = nI (gN l i)) (a := 0) (l := L) (by omega) ?_ ?_
  refine Sx.up (fun _ kk => r_aload_n 1 dX12_keepBest_0 rfl rfl kk) ?_
  refine Sx.up (fun _ kk => r_iconst (1) 2 dX12_keepBest_1 rfl (by decide) kk) ?_
  refine Sx.up (fun _ kk => r_putZ 5 dX12_keepBest_2 rfl f12_330 rfl lt95 (by decide) kk) ?_
  refine Sx.up (fun _ kk => r_iconst (0) 6 dX12_keepBest_5 rfl (by decide) kk) ?_
  refine Sx.up (fun _ kk => r_istore_n 7 dX12_keepBest_6 rfl (by decide) rfl kk) ?_
  exact loop _ ⟨mf_sI (by decide) mf_rfl, by rw [gI_sI, if_pos ⟨rfl, rfl⟩], fun i hi => absurd hi (Nat.not_lt_zero i)⟩
  · intro E2 ⟨f2, b1, b2⟩
    have hM2 := mf_mo f2 hM
    have hl2 : gI E2 1581 95 = nI L := (mf_gI f2 (by decide)).trans hl
    refine Sx.up (fun _ kk => r_iload_n 8 dX12_keepBest_7 rfl rfl kk) ?_
    refine Sx.up (fun _ kk => r_aload_n 9 dX12_keepBest_8 rfl rfl kk) ?_
    refine Sx.up (fun _ kk => r_getIV (nI L) 12 dX12_keepBest_9 rfl f12_341 rfl rfl lt95 (hl2) kk) ?_
    refine Sx.up (fun _ kk => r_icmp_ge 15 33 dX12_keepBest_12 rfl (by decide) (fun _ => kk) (fun h12 => absurd (nI_le (Nat.le_refl _) (by omega)) h12)) ?_
    refine ⟨_, ?_, r_vret dX12_keepBest_33 rfl rfl rfl⟩
    exact ⟨E2, rfl, f2, b1, b2⟩
  · intro k9 E2 hk0 hk9 ⟨f2, b1, b2⟩ hq
    have hM2 := mf_mo f2 hM
    have hl2 : gI E2 1581 95 = nI L := (mf_gI f2 (by decide)).trans hl
    have hb2 : gA E2 125 k9 = nI (gN l k9) := by rw [mf_gA f2 (by decide)]; exact hb k9 hk9
    refine Sx.up (fun _ kk => r_iload_n 8 dX12_keepBest_7 rfl rfl kk) ?_
    refine Sx.up (fun _ kk => r_aload_n 9 dX12_keepBest_8 rfl rfl kk) ?_
    refine Sx.up (fun _ kk => r_getIV (nI L) 12 dX12_keepBest_9 rfl f12_341 rfl rfl lt95 (hl2) kk) ?_
    refine Sx.up (fun _ kk => r_icmp_ge 15 33 dX12_keepBest_12 rfl (by decide) (fun h12 => absurd h12 (nI_ge hk9 (by omega))) (fun _ => kk)) ?_
    refine Sx.up (fun _ kk => r_aload_n 16 dX12_keepBest_15 rfl rfl kk) ?_
    refine Sx.up (fun _ kk => r_getR 19 dX12_keepBest_16 rfl f12_123 rfl rfl lt95 (mo_54 hM2) kk) ?_
    refine Sx.up (fun _ kk => r_iload_n 20 dX12_keepBest_19 rfl rfl kk) ?_
    refine Sx.up (fun _ kk => r_aload_n 21 dX12_keepBest_20 rfl rfl kk) ?_
    refine Sx.up (fun _ kk => r_getR 24 dX12_keepBest_21 rfl f12_126 rfl rfl lt95 (mo_55 hM2) kk) ?_
    refine Sx.up (fun _ kk => r_iload_n 25 dX12_keepBest_24 rfl rfl kk) ?_
    refine Sx.up (fun _ kk => r_ialdN (k9) (_) 26 dX12_keepBest_25 rfl rfl (Nat.le_of_ble_eq_true rfl) (rfl) (by omega) (Nat.le_of_ble_eq_true rfl) (hb2) kk) ?_
    refine Sx.up (fun _ kk => r_iastN (k9) 27 dX12_keepBest_26 rfl rfl (Nat.le_of_ble_eq_true rfl) (rfl) (by omega) (Nat.le_of_ble_eq_true rfl) kk) ?_
    refine Sx.up (fun _ kk => r_iinc (1) 30 dX12_keepBest_27 rfl rfl (by decide) (by decide) rfl kk) ?_
    refine Sx.up (fun _ kk => r_goto 7 dX12_keepBest_30 (by decide) kk) ?_
    rw [nI_pp]
    refine hq _ ⟨mf_sA (by decide) f2, b1, fun i hi => ?_⟩
    rw [gA_sA]
    by_cases hik : i = k9
    · rw [if_pos ⟨rfl, hik⟩, hik]
    · rw [if_neg (fun z => hik z.2)]; exact b2 i (by omega)
set_option maxRecDepth 20000 in
theorem m_order {d L m : Nat} {sl : Nat → Nat → Int32} {aw : Int32} {R : List Int32} {c : Cfg} {fr : Int32} {E : HP} (h : MD E L m sl aw R c fr) (hL6 : L < 7) (hz : ¬ rowsO L (gA E 105) 1 = []) : ∃ E3, KO E E3 L (foldO (valO L m sl aw R c fr 1) (0, 0, []) (rowsO L (gA E 105) 1)).2.2 ∧ Cl yX12_order mX12_order (d + 15) 0 0 [.ref 95] E 137 (.inl (some (.int (foldO (valO L m sl aw R c fr 1) (0, 0, []) (rowsO L (gA E 105) 1)).2.1)), E3, 137) := by
  obtain ⟨hM, hL, ⟨cok, csu⟩, hoc, h62, h63, h64, h65, hsy, hsl, ⟨m1, m6, hm⟩, -⟩ := id h
  have l7 : L ≤ 7 := cok.2.1
  have hM0 : MoOK (sI E 1538 95 0) := hM
  have hL0 : gA (sI E 1538 95 0) 98 0 = nI L := hL
  obtain ⟨E3, ⟨E1, g, o3⟩, hte⟩ := m_tell (d := d) (so := 1) h hL6 (by decide) rfl
  obtain ⟨f3, q1, q2⟩ := id o3
  have hM1 : MoOK E1 := mf_mo g.1 hM0
  have hM3 := mf_mo f3 hM1
  have hq : AQ E E3 0 := ⟨mf_tr (mf_sI (by decide) mf_rfl) (mf_mono (mf_tr g.1 (mf_mono f3 (by decide) (by decide))) (by decide) (by decide)), (mf_gI f3 (by decide)).trans g.2.2.2.2.2.2.2⟩
  have hne : ¬ (foldO (valO L m sl aw R c fr 1) (0, 0, []) (rowsO L (gA E 105) 1)).1 = 0 := by
    rw [fold_n]
    intro z
    exact hz (List.length_eq_zero_iff.mp (by have z : 0 + (rowsO L (gA E 105) 1).length = 0 := z; omega))
  have hm3 : gI E3 1581 95 = nI L := (mf_gI f3 (by decide)).trans g.2.1
  obtain ⟨q21, q22⟩ := q2 hne
  obtain ⟨_, ⟨E4, rfl, f4, b1, b2⟩, hkb⟩ := c_keepBest (d := d + 14) hM3 hm3 l7 q22
  have hM4 := mf_mo f4 hM3
  have hv4 : gI E4 1593 95 = (foldO (valO L m sl aw R c fr 1) (0, 0, []) (rowsO L (gA E 105) 1)).2.1 := (mf_gI f4 (by decide)).trans q21
  refine ⟨E4, ⟨mf_tr (mf_mono hq.1 (by decide) (by decide)) (mf_mono f4 (by decide) (by decide)), (mf_gI f4 (by decide)).trans hq.2, b1, b2⟩, ?_⟩
  refine Cl.of (by decide) rfl (fun q => by cases q) rfl rfl (Nat.le_of_ble_eq_true rfl) ?_
  show Sm _ _ _ _ _ 0 [some (.ref 95)] [] _ _
  refine r_aload_n 1 dX12_order_0 rfl rfl ?_
  refine r_iconst (0) 2 dX12_order_1 rfl (by decide) ?_
  refine r_putI 5 dX12_order_2 rfl f12_159 rfl lt95 ?_
  refine r_aload_n 6 dX12_order_5 rfl rfl ?_
  refine r_getR 9 dX12_order_6 rfl f12_38 rfl rfl lt95 (mo_3 hM0) ?_
  refine r_iconst (0) 10 dX12_order_9 rfl (by decide) ?_
  refine r_ialdN (0) (nI L) 11 dX12_order_10 rfl rfl (Nat.le_of_ble_eq_true rfl) (by decide) (Nat.le_of_ble_eq_true rfl) (Nat.le_of_ble_eq_true rfl) (hL0) ?_
  refine r_bipush (6) 13 dX12_order_11 rfl (by decide) ?_
  refine r_icmp_le 16 19 dX12_order_13 rfl (by decide) (fun h13 => ?_) (fun h13 => absurd (nI_le (b := 6) (by omega) (by omega)) h13)
  refine r_aload_n 20 dX12_order_19 rfl rfl ?_
  refine r_iconst (1) 21 dX12_order_20 rfl (by decide) ?_
  refine r_callV (M := mX12_order) (pc := 21) 24 dX12_order_21 rfl k12_469 hte rfl rfl rfl (by decide) rfl lt95 (Nat.le_of_ble_eq_true rfl) ?_
  refine r_aload_n 25 dX12_order_24 rfl rfl ?_
  refine r_getIV (_) 28 dX12_order_25 rfl f12_456 rfl rfl lt95 (q1) ?_
  refine r_if_ne 31 33 dX12_order_28 rfl (by decide) (fun h28 => ?_) (fun h28 => absurd h28 (fun z => hne ((nI_eq (by rw [fold_n]; have := rows_len (ne := gA E 105) (so := 1) hL6; show 0 + _ < _; omega) (by omega)).mp (show nI (foldO (valO L m sl aw R c fr 1) (0, 0, []) (rowsO L (gA E 105) 1)).1 = nI 0 from z))))
  refine r_aload_n 34 dX12_order_33 rfl rfl ?_
  refine r_callV (M := mX12_order) (pc := 34) 37 dX12_order_34 rfl k12_472 hkb rfl rfl rfl (by decide) rfl lt95 (Nat.le_of_ble_eq_true rfl) ?_
  refine r_aload_n 38 dX12_order_37 rfl rfl ?_
  refine r_getIV (_) 41 dX12_order_38 rfl f12_462 rfl rfl lt95 (hv4) ?_
  exact r_iret dX12_order_41 rfl rfl (rfl)
set_option maxRecDepth 20000 in
theorem m_orderN {d L m : Nat} {sl : Nat → Nat → Int32} {aw : Int32} {R : List Int32} {c : Cfg} {fr : Int32} {E : HP} (h : MD E L m sl aw R c fr) (hL6 : L < 7) (hz : rowsO L (gA E 105) 1 = []) : ∃ E3, AQ E E3 0 ∧ Cl yX12_order mX12_order (d + 15) 0 0 [.ref 95] E 137 (.inl (some (.int (-1))), E3, 137) := by
  obtain ⟨hM, hL, ⟨cok, csu⟩, hoc, h62, h63, h64, h65, hsy, hsl, ⟨m1, m6, hm⟩, -⟩ := id h
  have l7 : L ≤ 7 := cok.2.1
  have hM0 : MoOK (sI E 1538 95 0) := hM
  have hL0 : gA (sI E 1538 95 0) 98 0 = nI L := hL
  obtain ⟨E3, ⟨E1, g, o3⟩, hte⟩ := m_tell (d := d) (so := 1) h hL6 (by decide) rfl
  obtain ⟨f3, q1, q2⟩ := id o3
  have hM1 : MoOK E1 := mf_mo g.1 hM0
  have hM3 := mf_mo f3 hM1
  have hq : AQ E E3 0 := ⟨mf_tr (mf_sI (by decide) mf_rfl) (mf_mono (mf_tr g.1 (mf_mono f3 (by decide) (by decide))) (by decide) (by decide)), (mf_gI f3 (by decide)).trans g.2.2.2.2.2.2.2⟩
  rw [hz] at q1
  refine ⟨E3, hq, ?_⟩
  refine Cl.of (by decide) rfl (fun q => by cases q) rfl rfl (Nat.le_of_ble_eq_true rfl) ?_
  show Sm _ _ _ _ _ 0 [some (.ref 95)] [] _ _
  refine r_aload_n 1 dX12_order_0 rfl rfl ?_
  refine r_iconst (0) 2 dX12_order_1 rfl (by decide) ?_
  refine r_putI 5 dX12_order_2 rfl f12_159 rfl lt95 ?_
  refine r_aload_n 6 dX12_order_5 rfl rfl ?_
  refine r_getR 9 dX12_order_6 rfl f12_38 rfl rfl lt95 (mo_3 hM0) ?_
  refine r_iconst (0) 10 dX12_order_9 rfl (by decide) ?_
  refine r_ialdN (0) (nI L) 11 dX12_order_10 rfl rfl (Nat.le_of_ble_eq_true rfl) (by decide) (Nat.le_of_ble_eq_true rfl) (Nat.le_of_ble_eq_true rfl) (hL0) ?_
  refine r_bipush (6) 13 dX12_order_11 rfl (by decide) ?_
  refine r_icmp_le 16 19 dX12_order_13 rfl (by decide) (fun h13 => ?_) (fun h13 => absurd (nI_le (b := 6) (by omega) (by omega)) h13)
  refine r_aload_n 20 dX12_order_19 rfl rfl ?_
  refine r_iconst (1) 21 dX12_order_20 rfl (by decide) ?_
  refine r_callV (M := mX12_order) (pc := 21) 24 dX12_order_21 rfl k12_469 hte rfl rfl rfl (by decide) rfl lt95 (Nat.le_of_ble_eq_true rfl) ?_
  refine r_aload_n 25 dX12_order_24 rfl rfl ?_
  refine r_getIV (nI 0) 28 dX12_order_25 rfl f12_456 rfl rfl lt95 (q1) ?_
  refine r_if_ne 31 33 dX12_order_28 rfl (by decide) (fun h28 => absurd h28 (fun z => z rfl)) (fun h28 => ?_)
  refine r_iconst (-1) 32 dX12_order_31 rfl (by decide) ?_
  exact r_iret dX12_order_32 rfl rfl (rfl)
set_option maxRecDepth 20000 in
theorem m_edge {d L m : Nat} {sl : Nat → Nat → Int32} {aw : Int32} {R : List Int32} {c : Cfg} {fr : Int32} {E : HP} (h : MD E L m sl aw R c fr) (hL6 : L < 7) : ∃ E3, KO E E3 L (foldO (valO L m sl aw R c fr 2) (0, 0, []) (rowsO L (gA E 105) 2)).2.2 ∧ Cl yX12_edge mX12_edge (d + 15) 0 0 [.ref 95] E 137 (.inl (some (.int (foldO (valO L m sl aw R c fr 2) (0, 0, []) (rowsO L (gA E 105) 2)).2.1)), E3, 137) := by
  obtain ⟨hM, hL, ⟨cok, csu⟩, hoc, h62, h63, h64, h65, hsy, hsl, ⟨m1, m6, hm⟩, -⟩ := id h
  have l7 : L ≤ 7 := cok.2.1
  have hM0 : MoOK (sI E 1538 95 0) := hM
  have hL0 : gA (sI E 1538 95 0) 98 0 = nI L := hL
  obtain ⟨E3, ⟨E1, g, o3⟩, hte⟩ := m_tell (d := d) (so := 2) h hL6 (by decide) rfl
  obtain ⟨f3, q1, q2⟩ := id o3
  have hM1 : MoOK E1 := mf_mo g.1 hM0
  have hM3 := mf_mo f3 hM1
  have hq : AQ E E3 0 := ⟨mf_tr (mf_sI (by decide) mf_rfl) (mf_mono (mf_tr g.1 (mf_mono f3 (by decide) (by decide))) (by decide) (by decide)), (mf_gI f3 (by decide)).trans g.2.2.2.2.2.2.2⟩
  have hz : ¬ rowsO L (gA E 105) 2 = [] := by
    intro z
    have hp := perm_pos hL6
    have e : rowsO L (gA E 105) 2 = permL L := by
      unfold rowsO
      rw [List.filter_eq_self]
      intro l _
      rfl
    rw [e] at z
    rw [z] at hp
    exact absurd hp (Nat.lt_irrefl 0)
  have hne : ¬ (foldO (valO L m sl aw R c fr 2) (0, 0, []) (rowsO L (gA E 105) 2)).1 = 0 := by
    rw [fold_n]
    intro z
    exact hz (List.length_eq_zero_iff.mp (by have z : 0 + (rowsO L (gA E 105) 2).length = 0 := z; omega))
  have hm3 : gI E3 1581 95 = nI L := (mf_gI f3 (by decide)).trans g.2.1
  obtain ⟨q21, q22⟩ := q2 hne
  obtain ⟨_, ⟨E4, rfl, f4, b1, b2⟩, hkb⟩ := c_keepBest (d := d + 14) hM3 hm3 l7 q22
  have hM4 := mf_mo f4 hM3
  have hv4 : gI E4 1593 95 = (foldO (valO L m sl aw R c fr 2) (0, 0, []) (rowsO L (gA E 105) 2)).2.1 := (mf_gI f4 (by decide)).trans q21
  refine ⟨E4, ⟨mf_tr (mf_mono hq.1 (by decide) (by decide)) (mf_mono f4 (by decide) (by decide)), (mf_gI f4 (by decide)).trans hq.2, b1, b2⟩, ?_⟩
  refine Cl.of (by decide) rfl (fun q => by cases q) rfl rfl (Nat.le_of_ble_eq_true rfl) ?_
  show Sm _ _ _ _ _ 0 [some (.ref 95)] [] _ _
  refine r_aload_n 1 dX12_edge_0 rfl rfl ?_
  refine r_iconst (0) 2 dX12_edge_1 rfl (by decide) ?_
  refine r_putI 5 dX12_edge_2 rfl f12_159 rfl lt95 ?_
  refine r_aload_n 6 dX12_edge_5 rfl rfl ?_
  refine r_getR 9 dX12_edge_6 rfl f12_38 rfl rfl lt95 (mo_3 hM0) ?_
  refine r_iconst (0) 10 dX12_edge_9 rfl (by decide) ?_
  refine r_ialdN (0) (nI L) 11 dX12_edge_10 rfl rfl (Nat.le_of_ble_eq_true rfl) (by decide) (Nat.le_of_ble_eq_true rfl) (Nat.le_of_ble_eq_true rfl) (hL0) ?_
  refine r_bipush (6) 13 dX12_edge_11 rfl (by decide) ?_
  refine r_icmp_le 16 19 dX12_edge_13 rfl (by decide) (fun h13 => ?_) (fun h13 => absurd (nI_le (b := 6) (by omega) (by omega)) h13)
  refine r_aload_n 20 dX12_edge_19 rfl rfl ?_
  refine r_iconst (2) 21 dX12_edge_20 rfl (by decide) ?_
  refine r_callV (M := mX12_edge) (pc := 21) 24 dX12_edge_21 rfl k12_469 hte rfl rfl rfl (by decide) rfl lt95 (Nat.le_of_ble_eq_true rfl) ?_
  refine r_aload_n 25 dX12_edge_24 rfl rfl ?_
  refine r_callV (M := mX12_edge) (pc := 25) 28 dX12_edge_25 rfl k12_472 hkb rfl rfl rfl (by decide) rfl lt95 (Nat.le_of_ble_eq_true rfl) ?_
  refine r_aload_n 29 dX12_edge_28 rfl rfl ?_
  refine r_getIV (_) 32 dX12_edge_29 rfl f12_462 rfl rfl lt95 (hv4) ?_
  exact r_iret dX12_edge_32 rfl rfl (rfl)
set_option maxRecDepth 20000 in
theorem m_ordersX {d m : Nat} {sl : Nat → Nat → Int32} {aw : Int32} {R : List Int32} {c : Cfg} {fr : Int32} {E : HP} (h : MD E 7 m sl aw R c fr) : ∃ E2, AQ E E2 0 ∧ Cl yX12_orders mX12_orders (d + 15) 0 0 [.ref 95] E 137 (.inl (some (.int (-2))), E2, 137) := by
  have hM0 : MoOK (sI E 1538 95 0) := h.1
  have hL0 : gA (sI E 1538 95 0) 98 0 = nI 7 := h.2.1
  refine ⟨sI E 1538 95 0, ⟨mf_sI (by decide) mf_rfl, by rw [gI_sI, if_pos ⟨rfl, rfl⟩]⟩, ?_⟩
  refine Cl.of (by decide) rfl (fun q => by cases q) rfl rfl (Nat.le_of_ble_eq_true rfl) ?_
  show Sm _ _ _ _ _ 0 [some (.ref 95)] [] _ _
  refine r_aload_n 1 dX12_orders_0 rfl rfl ?_
  refine r_iconst (0) 2 dX12_orders_1 rfl (by decide) ?_
  refine r_putI 5 dX12_orders_2 rfl f12_159 rfl lt95 ?_
  refine r_aload_n 6 dX12_orders_5 rfl rfl ?_
  refine r_getR 9 dX12_orders_6 rfl f12_38 rfl rfl lt95 (mo_3 hM0) ?_
  refine r_iconst (0) 10 dX12_orders_9 rfl (by decide) ?_
  refine r_ialdN (0) (nI 7) 11 dX12_orders_10 rfl rfl (Nat.le_of_ble_eq_true rfl) (by decide) (Nat.le_of_ble_eq_true rfl) (Nat.le_of_ble_eq_true rfl) (hL0) ?_
  refine r_bipush (6) 13 dX12_orders_11 rfl (by decide) ?_
  refine r_icmp_le 16 19 dX12_orders_13 rfl (by decide) (fun h13 => absurd h13 (by decide)) (fun h13 => ?_)
  refine r_bipush (-2) 18 dX12_orders_16 rfl (by decide) ?_
  exact r_iret dX12_orders_18 rfl rfl (rfl)
set_option maxRecDepth 20000 in
theorem m_orderX {d m : Nat} {sl : Nat → Nat → Int32} {aw : Int32} {R : List Int32} {c : Cfg} {fr : Int32} {E : HP} (h : MD E 7 m sl aw R c fr) : ∃ E2, AQ E E2 0 ∧ Cl yX12_order mX12_order (d + 15) 0 0 [.ref 95] E 137 (.inl (some (.int (-2))), E2, 137) := by
  have hM0 : MoOK (sI E 1538 95 0) := h.1
  have hL0 : gA (sI E 1538 95 0) 98 0 = nI 7 := h.2.1
  refine ⟨sI E 1538 95 0, ⟨mf_sI (by decide) mf_rfl, by rw [gI_sI, if_pos ⟨rfl, rfl⟩]⟩, ?_⟩
  refine Cl.of (by decide) rfl (fun q => by cases q) rfl rfl (Nat.le_of_ble_eq_true rfl) ?_
  show Sm _ _ _ _ _ 0 [some (.ref 95)] [] _ _
  refine r_aload_n 1 dX12_order_0 rfl rfl ?_
  refine r_iconst (0) 2 dX12_order_1 rfl (by decide) ?_
  refine r_putI 5 dX12_order_2 rfl f12_159 rfl lt95 ?_
  refine r_aload_n 6 dX12_order_5 rfl rfl ?_
  refine r_getR 9 dX12_order_6 rfl f12_38 rfl rfl lt95 (mo_3 hM0) ?_
  refine r_iconst (0) 10 dX12_order_9 rfl (by decide) ?_
  refine r_ialdN (0) (nI 7) 11 dX12_order_10 rfl rfl (Nat.le_of_ble_eq_true rfl) (by decide) (Nat.le_of_ble_eq_true rfl) (Nat.le_of_ble_eq_true rfl) (hL0) ?_
  refine r_bipush (6) 13 dX12_order_11 rfl (by decide) ?_
  refine r_icmp_le 16 19 dX12_order_13 rfl (by decide) (fun h13 => absurd h13 (by decide)) (fun h13 => ?_)
  refine r_bipush (-2) 18 dX12_order_16 rfl (by decide) ?_
  exact r_iret dX12_order_18 rfl rfl (rfl)
set_option maxRecDepth 20000 in
theorem m_edgeX {d m : Nat} {sl : Nat → Nat → Int32} {aw : Int32} {R : List Int32} {c : Cfg} {fr : Int32} {E : HP} (h : MD E 7 m sl aw R c fr) : ∃ E2, AQ E E2 0 ∧ Cl yX12_edge mX12_edge (d + 15) 0 0 [.ref 95] E 137 (.inl (some (.int (-2))), E2, 137) := by
  have hM0 : MoOK (sI E 1538 95 0) := h.1
  have hL0 : gA (sI E 1538 95 0) 98 0 = nI 7 := h.2.1
  refine ⟨sI E 1538 95 0, ⟨mf_sI (by decide) mf_rfl, by rw [gI_sI, if_pos ⟨rfl, rfl⟩]⟩, ?_⟩
  refine Cl.of (by decide) rfl (fun q => by cases q) rfl rfl (Nat.le_of_ble_eq_true rfl) ?_
  show Sm _ _ _ _ _ 0 [some (.ref 95)] [] _ _
  refine r_aload_n 1 dX12_edge_0 rfl rfl ?_
  refine r_iconst (0) 2 dX12_edge_1 rfl (by decide) ?_
  refine r_putI 5 dX12_edge_2 rfl f12_159 rfl lt95 ?_
  refine r_aload_n 6 dX12_edge_5 rfl rfl ?_
  refine r_getR 9 dX12_edge_6 rfl f12_38 rfl rfl lt95 (mo_3 hM0) ?_
  refine r_iconst (0) 10 dX12_edge_9 rfl (by decide) ?_
  refine r_ialdN (0) (nI 7) 11 dX12_edge_10 rfl rfl (Nat.le_of_ble_eq_true rfl) (by decide) (Nat.le_of_ble_eq_true rfl) (Nat.le_of_ble_eq_true rfl) (hL0) ?_
  refine r_bipush (6) 13 dX12_edge_11 rfl (by decide) ?_
  refine r_icmp_le 16 19 dX12_edge_13 rfl (by decide) (fun h13 => absurd h13 (by decide)) (fun h13 => ?_)
  refine r_bipush (-2) 18 dX12_edge_16 rfl (by decide) ?_
  exact r_iret dX12_edge_18 rfl rfl (rfl)
set_option maxRecDepth 20000 in
theorem m_kept {d L m s : Nat} {sl : Nat → Nat → Int32} {aw : Int32} {R : List Int32} {c : Cfg} {fr : Int32} {E : HP} {l : List Nat} (h : MD E L m sl aw R c fr) (hs : s < L) (hk : gI E 1594 95 = 1) (hl : gA E 124 s = nI (gN l s)) : ∃ E2, AQ E E2 0 ∧ Cl yX12_kept mX12_kept (d + 8) 0 0 [.ref 95, .int (nI s)] E 137 (.inl (some (.int (nI (gN l s)))), E2, 137) := by
  obtain ⟨hM, hL, ⟨cok, csu⟩, hoc, h62, h63, h64, h65, hsy, hsl, ⟨m1, m6, hm⟩, -⟩ := id h
  have l7 : L ≤ 7 := cok.2.1
  have hM0 : MoOK (sI E 1538 95 0) := hM
  have hL0 : gA (sI E 1538 95 0) 98 0 = nI L := hL
  have his := c_isSl (d := d + 6) (E := sI E 1538 95 0) (x := nI s) hM0 hL0 l7
  rw [b01_t (inB_of hs (by omega))] at his
  have hk0 : gI (sI E 1538 95 0) 1594 95 = 1 := by rw [gI_sI, if_neg (by decide)]; exact hk
  have hl0 : gA (sI E 1538 95 0) 124 s = nI (gN l s) := hl
  refine ⟨sI E 1538 95 0, ⟨mf_sI (by decide) mf_rfl, by rw [gI_sI, if_pos ⟨rfl, rfl⟩]⟩, ?_⟩
  refine Cl.of (by decide) rfl (fun q => by cases q) rfl rfl (Nat.le_of_ble_eq_true rfl) ?_
  show Sm _ _ _ _ _ 0 [some (.ref 95), some (.int (nI s))] [] _ _
  refine r_aload_n 1 dX12_kept_0 rfl rfl ?_
  refine r_iconst (0) 2 dX12_kept_1 rfl (by decide) ?_
  refine r_putI 5 dX12_kept_2 rfl f12_159 rfl lt95 ?_
  refine r_aload_n 6 dX12_kept_5 rfl rfl ?_
  refine r_getIV (1) 9 dX12_kept_6 rfl f12_330 rfl rfl lt95 (hk0) ?_
  refine r_if_eq 12 29 dX12_kept_9 rfl (by decide) (fun h9 => absurd h9 (by decide)) (fun h9 => ?_)
  refine r_aload_n 13 dX12_kept_12 rfl rfl ?_
  refine r_iload_n 14 dX12_kept_13 rfl rfl ?_
  refine r_callV (M := mX12_kept) (pc := 14) 17 dX12_kept_14 rfl k12_420 his rfl rfl rfl (by decide) rfl lt95 (Nat.le_of_ble_eq_true rfl) ?_
  refine r_if_eq 20 29 dX12_kept_17 rfl (by decide) (fun h17 => absurd h17 (by decide)) (fun h17 => ?_)
  refine r_aload_n 21 dX12_kept_20 rfl rfl ?_
  refine r_getR 24 dX12_kept_21 rfl f12_123 rfl rfl lt95 (mo_54 hM0) ?_
  refine r_iload_n 25 dX12_kept_24 rfl rfl ?_
  refine r_ialdN (s) (_) 26 dX12_kept_25 rfl rfl (Nat.le_of_ble_eq_true rfl) (rfl) (by omega) (Nat.le_of_ble_eq_true rfl) (hl0) ?_
  refine r_goto 34 dX12_kept_26 (by decide) ?_
  exact r_iret dX12_kept_34 rfl rfl (rfl)
set_option maxRecDepth 20000 in
theorem m_keptX1 {d L m : Nat} {sl : Nat → Nat → Int32} {aw : Int32} {R : List Int32} {c : Cfg} {fr : Int32} {E : HP} {x : Int32} (h : MD E L m sl aw R c fr) (hx : ¬ inB x (nI L)) : ∃ E2, AQ E E2 1 ∧ Cl yX12_kept mX12_kept (d + 8) 0 0 [.ref 95, .int (x)] E 137 (.inl (some (.int 0)), E2, 137) := by
  obtain ⟨hM, hL, ⟨cok, csu⟩, hoc, h62, h63, h64, h65, hsy, hsl, ⟨m1, m6, hm⟩, -⟩ := id h
  have l7 : L ≤ 7 := cok.2.1
  have hM0 : MoOK (sI E 1538 95 0) := hM
  have hL0 : gA (sI E 1538 95 0) 98 0 = nI L := hL
  have his := c_isSl (d := d + 6) (E := sI E 1538 95 0) (x := x) hM0 hL0 l7
  rw [b01_f hx] at his
  refine ⟨_, mq_fail (x := 0), ?_⟩
  refine Cl.of (by decide) rfl (fun q => by cases q) rfl rfl (Nat.le_of_ble_eq_true rfl) ?_
  show Sm _ _ _ _ _ 0 [some (.ref 95), some (.int (x))] [] _ _
  refine r_aload_n 1 dX12_kept_0 rfl rfl ?_
  refine r_iconst (0) 2 dX12_kept_1 rfl (by decide) ?_
  refine r_putI 5 dX12_kept_2 rfl f12_159 rfl lt95 ?_
  refine r_aload_n 6 dX12_kept_5 rfl rfl ?_
  refine r_getI 9 dX12_kept_6 rfl f12_330 rfl rfl lt95 ?_
  refine r_if_eq 12 29 dX12_kept_9 rfl (by decide) (fun h9 => ?_) (fun h9 => ?_)
  · refine r_aload_n 30 dX12_kept_29 rfl rfl ?_
    refine r_iconst (1) 31 dX12_kept_30 rfl (by decide) ?_
    refine r_callV (M := mX12_kept) (pc := 31) 34 dX12_kept_31 rfl k12_302 c_fail rfl rfl rfl (by decide) rfl lt95 (Nat.le_of_ble_eq_true rfl) ?_
    exact r_iret dX12_kept_34 rfl rfl (rfl)
  · refine r_aload_n 13 dX12_kept_12 rfl rfl ?_
    refine r_iload_n 14 dX12_kept_13 rfl rfl ?_
    refine r_callV (M := mX12_kept) (pc := 14) 17 dX12_kept_14 rfl k12_420 his rfl rfl rfl (by decide) rfl lt95 (Nat.le_of_ble_eq_true rfl) ?_
    refine r_if_eq 20 29 dX12_kept_17 rfl (by decide) (fun h17 => ?_) (fun h17 => absurd rfl h17)
    refine r_aload_n 30 dX12_kept_29 rfl rfl ?_
    refine r_iconst (1) 31 dX12_kept_30 rfl (by decide) ?_
    refine r_callV (M := mX12_kept) (pc := 31) 34 dX12_kept_31 rfl k12_302 c_fail rfl rfl rfl (by decide) rfl lt95 (Nat.le_of_ble_eq_true rfl) ?_
    exact r_iret dX12_kept_34 rfl rfl (rfl)
set_option maxRecDepth 20000 in
theorem m_keptX2 {d L m : Nat} {sl : Nat → Nat → Int32} {aw : Int32} {R : List Int32} {c : Cfg} {fr : Int32} {E : HP} {x : Int32} (h : MD E L m sl aw R c fr) (hk : gI E 1594 95 = 0) : ∃ E2, AQ E E2 1 ∧ Cl yX12_kept mX12_kept (d + 8) 0 0 [.ref 95, .int (x)] E 137 (.inl (some (.int 0)), E2, 137) := by
  obtain ⟨hM, hL, ⟨cok, csu⟩, hoc, h62, h63, h64, h65, hsy, hsl, ⟨m1, m6, hm⟩, -⟩ := id h
  have l7 : L ≤ 7 := cok.2.1
  have hM0 : MoOK (sI E 1538 95 0) := hM
  have hL0 : gA (sI E 1538 95 0) 98 0 = nI L := hL
  have hk0 : gI (sI E 1538 95 0) 1594 95 = 0 := by rw [gI_sI, if_neg (by decide)]; exact hk
  refine ⟨_, mq_fail (x := 0), ?_⟩
  refine Cl.of (by decide) rfl (fun q => by cases q) rfl rfl (Nat.le_of_ble_eq_true rfl) ?_
  show Sm _ _ _ _ _ 0 [some (.ref 95), some (.int (x))] [] _ _
  refine r_aload_n 1 dX12_kept_0 rfl rfl ?_
  refine r_iconst (0) 2 dX12_kept_1 rfl (by decide) ?_
  refine r_putI 5 dX12_kept_2 rfl f12_159 rfl lt95 ?_
  refine r_aload_n 6 dX12_kept_5 rfl rfl ?_
  refine r_getIV (0) 9 dX12_kept_6 rfl f12_330 rfl rfl lt95 (hk0) ?_
  refine r_if_eq 12 29 dX12_kept_9 rfl (by decide) (fun h9 => ?_) (fun h9 => absurd rfl h9)
  refine r_aload_n 30 dX12_kept_29 rfl rfl ?_
  refine r_iconst (1) 31 dX12_kept_30 rfl (by decide) ?_
  refine r_callV (M := mX12_kept) (pc := 31) 34 dX12_kept_31 rfl k12_302 c_fail rfl rfl rfl (by decide) rfl lt95 (Nat.le_of_ble_eq_true rfl) ?_
  exact r_iret dX12_kept_34 rfl rfl (rfl)
