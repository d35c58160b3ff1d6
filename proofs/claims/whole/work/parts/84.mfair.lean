/-! The model: fair -/
/-- sums of the first k fair nights -/
def faM (L m : Nat) (sl : Nat → Nat → Int32) (aw : Int32) (R : List Int32) (c : Cfg) (fr : Int32) : Nat → Nat → Int32
  | 0 => fun _ => 0
  | k + 1 => fun s => if plcF (cO (cRots L c k)) (nI s) L < L then faM L m sl aw R c fr k s + byS (vMk L sl aw R (cRots L c k) fr) (nightF (vMk L sl aw R (cRots L c k) fr) m) 3 s else faM L m sl aw R c fr k s
/-- how far apart, as the model reckons -/
def apaM (cw : Nat → Bool) (f : Nat → Int32) : Nat → Int32 × Int32
  | 0 => (-1, -1)
  | k + 1 => if cw k = true then (maxF (apaM cw f k).1 (f k), if (apaM cw f k).2 = -1 then f k else minF (apaM cw f k).2 (f k)) else apaM cw f k
theorem fam_s {L m k s : Nat} {sl : Nat → Nat → Int32} {aw : Int32} {R : List Int32} {c : Cfg} {fr : Int32} (h : cful L c) (hs : s < L) : faM L m sl aw R c fr (k + 1) s = faM L m sl aw R c fr k s + byS (vMk L sl aw R (cRots L c k) fr) (nightF (vMk L sl aw R (cRots L c k) fr) m) 3 s := by
  obtain ⟨i, hi, e⟩ := (ful_rots h k).2 s hs
  exact if_pos (plc_hit hi e).1
theorem rot_same {L : Nat} {c : Cfg} : ∀ k, cU (cRots L c k) = cU c ∧ cF (cRots L c k) = cF c ∧ cS (cRots L c k) = cS c ∧ cE (cRots L c k) = cE c ∧ cB (cRots L c k) = cB c := by
  intro k
  induction k with
  | zero => exact ⟨rfl, rfl, rfl, rfl, rfl⟩
  | succ k ih => exact ih
theorem in_m1 {y : Int32} {L : Nat} (h7 : L ≤ 7) (h1 : ¬ y = -1) (h : (-1 : Int64) ≤ y.toInt64 ∧ y.toInt64 ≤ (nI L - 1).toInt64) : inB y (nI L) := by
  obtain ⟨a, b⟩ := h
  rw [show (-1 : Int64) = (-1 : Int32).toInt64 by decide, Int32.toInt64_le] at a
  rw [Int32.toInt64_le] at b
  refine (inB_C (by omega)).mp ⟨fun z => ?_, b⟩
  have h2 : (-1 : Int32) < y := by
    rcases Int32.lt_or_eq_of_le a with q | q
    · exact q
    · exact absurd q.symm h1
  have h3 := Int32.lt_iff_toInt_lt.mp h2
  have h4 := Int32.lt_iff_toInt_lt.mp z
  rw [show (-1 : Int32).toInt = -1 by decide] at h3
  rw [show (0 : Int32).toInt = 0 by decide] at h4
  omega
set_option maxRecDepth 20000 in
theorem m_fair {d L m n s : Nat} {sl : Nat → Nat → Int32} {aw : Int32} {R : List Int32} {c : Cfg} {fr : Int32} {E : HP} (h : MD E L m sl aw R c fr) (hn : n ≤ 30) (hs : s < L) : ∃ o, (∃ E2, o = (.inl (some (.int ((faM L m sl aw R c fr n) s))), E2, 137) ∧ AQ E E2 0) ∧ Cl yX12_fair mX12_fair (d + 8) 0 0 [.ref 95, .int (nI n), .int (nI s)] E 137 o := by
  obtain ⟨hM, hL, ⟨cok, csu⟩, hoc, h62, h63, h64, h65, hsy, hsl, ⟨m1, m6, hm⟩, -⟩ := id h
  have l7 : L ≤ 7 := cok.2.1
  have hM0 : MoOK (sI E 1538 95 0) := hM
  have hL0 : gA (sI E 1538 95 0) 98 0 = nI L := hL
  obtain ⟨E1, ⟨f1, hv1, hr1, s1, s2⟩, hse⟩ := m_set (d := d + 6) (md_0 (x := 0) h)
  have hM1 := mf_mo f1 hM0
  have hin := c_isIn (d := d + 7) (E := sI E 1538 95 0) (x := (nI s).toInt64) (a := -1) (b := (nI L - 1).toInt64)
  rw [bI_t (decide_eq_true ⟨by rw [show (-1 : Int64) = (-1 : Int32).toInt64 by decide, Int32.toInt64_le]; exact Int32.le_of_lt (Int32.lt_of_lt_of_le (show (-1 : Int32) < 0 by decide) (Int32.not_lt.mp (nI_pos (by omega)))), by rw [Int32.toInt64_le]; rw [show nI L - 1 = nI (L - 1) by rw [show L = L - 1 + 1 by omega, nI_pred]; rfl]; exact nI_le (by omega) (by omega)⟩)] at hin
  clear m1
  have hi2 := c_isInC (d := d + 7) (E := sI E 1538 95 0) (x := nI n) (y := 30) (z := 30) (z0 := 0) (by decide) (by decide)
  rw [b01_t (show inC (nI n) 30 from inC_of (L := 30) hn (by decide))] at hi2
  refine Cx.of (by decide) rfl (fun q => by cases q) rfl rfl (Nat.le_of_ble_eq_true rfl) ?_
  show Sx _ _ _ _ _ 0 [some (.ref 95), some (.int (nI n)), some (.int ((nI s))), none, none, none] [] _ _
  have loop : ∀ E2 (x4 x5 : Option Value), (MF gsR asQ (sI E 1538 95 0) E2 ∧ gI E2 1581 95 = nI L ∧ (∀ i, i < L → gA E2 113 i = cO (cRots L c 0) i) ∧ (∀ i, i < L → gA E2 114 i = cU c i) ∧ gI E2 1582 95 = cS c ∧ gI E2 1583 95 = (if cS c = -1 then 0 else cE c) ∧ gI E2 1584 95 = cB c ∧ gI E2 1589 95 = fr ∧ (∀ s, s < L → gA E2 126 s = (faM L m sl aw R c fr 0) s)) → Sx mX12_fair (d + 8) 0 0 (fun o => ∃ E2, o = (.inl (some (.int ((faM L m sl aw R c fr n) s))), E2, 137) ∧ AQ E E2 0) 76 [some (.ref 95), some (.int (nI n)), some (.int (nI s)), some (.int (nI 0)), none, none] [] E2 137 := by
    intro E2 x4 x5 hinv
    have lp := sxUp (σ := HP × Option Value × Option Value) (S := fun k9 q => Sx mX12_fair (d + 8) 0 0 (fun o => ∃ E2, o = (.inl (some (.int ((faM L m sl aw R c fr n) s))), E2, 137) ∧ AQ E E2 0) 76 [some (.ref 95), some (.int (nI n)), some (.int (nI s)), some (.int (nI k9)), none, none] [] q.1 137) (Inv := fun k9 q => MF gsR asQ (sI E 1538 95 0) q.1 ∧ gI q.1 1581 95 = nI L ∧ (∀ i, i < L → gA q.1 113 i = cO (cRots L c k9) i) ∧ (∀ i, i < L → gA q.1 114 i = cU c i) ∧ gI q.1 1582 95 = cS c ∧ gI q.1 1583 95 = (if cS c = -1 then 0 else cE c) ∧ gI q.1 1584 95 = cB c ∧ gI q.1 1589 95 = fr ∧ (∀ s, s < L → gA q.1 126 s = (faM L m sl aw R c fr k9) s)) (a := 0) (l := n) (by omega) ?_ ?_ (E2, x4, x5) hinv
    · exact lp
    · intro ⟨E2, x4, x5⟩ ⟨f2, j1, j2, j3, j4, j5, j6, j7, j8⟩
      have hM2 := mf_mo f2 hM0
      have hq9 : AQ E E2 0 := mq_of f2 (by decide) (by decide) (by decide)
      have hs2 : gA E2 126 s = (faM L m sl aw R c fr n) s := j8 s hs
      refine Sx.up (fun _ kk => r_iload_n 77 dX12_fair_76 rfl rfl kk) ?_
      refine Sx.up (fun _ kk => r_iload_n 78 dX12_fair_77 rfl rfl kk) ?_
      refine Sx.up (fun _ kk => r_icmp_ge 81 210 dX12_fair_78 rfl (by decide) (fun _ => kk) (fun h78 => absurd (nI_le (Nat.le_refl _) (by omega)) h78)) ?_
      refine Sx.up (fun _ kk => r_iload_n 211 dX12_fair_210 rfl rfl kk) ?_
      refine Sx.up (fun _ kk => r_iconst (-1) 212 dX12_fair_211 rfl (by decide) kk) ?_
      refine Sx.up (fun _ kk => r_icmp_eq 215 222 dX12_fair_212 rfl (by decide) (fun h212 => absurd h212 (fun z => absurd (show nI s < 0 by rw [z]; decide) (nI_pos (by omega)))) (fun _ => kk)) ?_
      refine Sx.up (fun _ kk => r_aload_n 216 dX12_fair_215 rfl rfl kk) ?_
      refine Sx.up (fun _ kk => r_getR 219 dX12_fair_216 rfl f12_129 rfl rfl lt95 (mo_59 hM2) kk) ?_
      refine Sx.up (fun _ kk => r_iload_n 220 dX12_fair_219 rfl rfl kk) ?_
      refine Sx.up (fun _ kk => r_ialdN (s) (_) 221 dX12_fair_220 rfl rfl (Nat.le_of_ble_eq_true rfl) (rfl) (by omega) (Nat.le_of_ble_eq_true rfl) (hs2) kk) ?_
      refine ⟨_, ?_, r_iret dX12_fair_221 rfl rfl rfl⟩
      refine ⟨E2, ?_, hq9⟩
      rfl
    · intro k9 ⟨E2, x4, x5⟩ hk0 hk9 ⟨f2, j1, j2, j3, j4, j5, j6, j7, j8⟩ hq
      have hM2 := mf_mo f2 hM0
      have hfu := ful_rots (c := c) ⟨cok, csu⟩ k9
      obtain ⟨rU, rF, rS, rE, rB⟩ := rot_same (L := L) (c := c) k9
      have hv2 : MVis E2 (vMk L sl aw R (cRots L c k9) fr) L := by
        refine m_vis h (mf_mono f2 (by decide) (by decide)) j1 hfu.1 j2 (fun s hs => by rw [rU]; exact j3 s hs) (fun z => ?_) (fun z1 z2 => ?_) (by rw [rB]; exact j6) j7
        · rw [j4, j5] at z
          rw [rE]
          intro y
          rcases z with z | z
          · exact hsy y z
          · rw [if_neg (hsy y)] at z
            exact z y
        · rw [j4] at z1
          rw [j5, if_neg z1, j4, rE, rS]
          exact ⟨rfl, rfl⟩
      have hF2 : gI E2 1562 95 = vS (vMk L sl aw R (cRots L c k9) fr) 4 := by
        show _ = cF (cRots L c k9)
        rw [rF]; exact (mf_gI f2 (by decide)).trans h62
      have hm2 : gA E2 98 3 = nI m := by rw [mf_gA0 f2 (by decide)]; exact hm
      obtain ⟨_, ⟨E4, rfl, f4, hg⟩, hgo⟩ := c_X12_go (d := d + 2) (m := m) hM2 hv2 hfu.1.2.2.2.2.2.2 m6
      have hM4 := hg.1
      have f04 : MF gsR asQ (sI E 1538 95 0) E4 := mf_tr f2 (mf_mono f4 (by decide) (by decide))
      have i4 : ∀ g, g ∉ gsG → gI E4 g 95 = gI E2 g 95 := fun g hg => mf_gI f4 hg
      have hby : ∀ s, s < L → gA E4 118 s = byS (vMk L sl aw R (cRots L c k9) fr) (nightF (vMk L sl aw R (cRots L c k9) fr) m) 3 s := fun s hs => (gr_by hfu hg hs).2.2.1
      have fin : ∀ E6 (x4 x5 : Option Value), MF [] [113, 126] E4 E6 → (∀ j, j < L → gA E6 113 j = cO (cRots L c (k9 + 1)) j) → (∀ j, j < L → gA E6 126 j = (faM L m sl aw R c fr (k9 + 1)) j) → Sx mX12_fair (d + 8) 0 0 (fun o => ∃ E2, o = (.inl (some (.int ((faM L m sl aw R c fr n) s))), E2, 137) ∧ AQ E E2 0) 204 [some (.ref 95), some (.int (nI n)), some (.int (nI s)), some (.int (nI k9)), none, none] [] E6 137 := by
        intro E6 x4 x5 f6 r1 r2
        have hgo2 := hq (E6, x4, x5) ⟨mf_tr f04 (mf_mono f6 (by decide) (by decide)), (mf_gI f6 (by decide)).trans ((i4 _ (by decide)).trans j1), r1, fun i hi => by rw [mf_gA f6 (by decide), mf_gA f4 (by decide)]; exact j3 i hi, (mf_gI f6 (by decide)).trans ((i4 _ (by decide)).trans j4), (mf_gI f6 (by decide)).trans ((i4 _ (by decide)).trans j5), (mf_gI f6 (by decide)).trans ((i4 _ (by decide)).trans j6), (mf_gI f6 (by decide)).trans ((i4 _ (by decide)).trans j7), r2⟩
        refine Sx.up (fun _ kk => r_iinc (1) 207 dX12_fair_204 rfl rfl (by decide) (by decide) rfl kk) ?_
        refine Sx.up (fun _ kk => r_goto 76 dX12_fair_207 (by decide) kk) ?_
        rw [nI_pp]
        exact hgo2
      have rot : ∀ E5 (x5 : Option Value), MF [] [113, 126] E4 E5 → (∀ j, j < L → gA E5 113 j = cO (cRots L c k9) j) → (∀ j, j < L → gA E5 126 j = (faM L m sl aw R c fr (k9 + 1)) j) → Sx mX12_fair (d + 8) 0 0 (fun o => ∃ E2, o = (.inl (some (.int ((faM L m sl aw R c fr n) s))), E2, 137) ∧ AQ E E2 0) 130 [some (.ref 95), some (.int (nI n)), some (.int (nI s)), some (.int (nI k9)), some (.int (nI L)), none] [] E5 137 := by
        intro E5 x5 f5 r1 r2
        have hM5 := mf_mo f5 hM4
        have m5 : gI E5 1581 95 = nI L := (mf_gI f5 (by decide)).trans ((i4 _ (by decide)).trans j1)
        by_cases hL0 : L = 0
        · refine Sx.up (fun _ kk => r_aload_n 131 dX12_fair_130 rfl rfl kk) ?_
          refine Sx.up (fun _ kk => r_getIV (0) 134 dX12_fair_131 rfl f12_341 rfl rfl lt95 (by rw [m5, hL0]; rfl) kk) ?_
          refine Sx.up (fun _ kk => r_if_ne 137 141 dX12_fair_134 rfl (by decide) (fun h134 => absurd h134 (fun z => z rfl)) (fun _ => kk)) ?_
          refine Sx.up (fun _ kk => r_iconst (-1) 138 dX12_fair_137 rfl (by decide) kk) ?_
          refine Sx.up (fun _ kk => r_goto 152 dX12_fair_138 (by decide) kk) ?_
          refine Sx.up (fun _ kk => r_istore 154 dX12_fair_152 rfl (by decide) rfl kk) ?_
          refine Sx.up (fun _ kk => r_aload_n 155 dX12_fair_154 rfl rfl kk) ?_
          refine Sx.up (fun _ kk => r_getIV (0) 158 dX12_fair_155 rfl f12_341 rfl rfl lt95 (by rw [m5, hL0]; rfl) kk) ?_
          refine Sx.up (fun _ kk => r_iconst (1) 159 dX12_fair_158 rfl (by decide) kk) ?_
          refine Sx.up (fun _ kk => r_isub 160 dX12_fair_159 rfl kk) ?_
          refine Sx.up (fun _ kk => r_istore 162 dX12_fair_160 rfl (by decide) rfl kk) ?_
          refine Sx.up (fun _ kk => r_iload 164 dX12_fair_162 rfl rfl kk) ?_
          refine Sx.up (fun _ kk => r_if_le 167 189 dX12_fair_164 rfl (by decide) (fun _ => kk) (fun h164 => absurd (by decide) h164)) ?_
          refine Sx.up (fun _ kk => r_aload_n 190 dX12_fair_189 rfl rfl kk) ?_
          refine Sx.up (fun _ kk => r_getIV (0) 193 dX12_fair_190 rfl f12_341 rfl rfl lt95 (by rw [m5, hL0]; rfl) kk) ?_
          refine Sx.up (fun _ kk => r_if_le 196 204 dX12_fair_193 rfl (by decide) (fun _ => kk) (fun h193 => absurd (by decide) h193)) ?_
          exact Sx.less (ls := [some (.ref 95), some (.int (nI n)), some (.int (nI s)), some (.int (nI k9)), none, none]) (by exact ⟨rfl, rfl, rfl, rfl, trivial⟩) (fin E5 none none f5 (fun j hj => absurd hj (by omega)) r2)
        · have hlast : gA E5 113 (L - 1) = cO (cRots L c k9) (L - 1) := r1 _ (by omega)
          have e1 : nI L - 1 = nI (L - 1) := by rw [show L = L - 1 + 1 by omega, nI_pred]; rfl
          have dn9 := sxDn (S := fun k E6 => Sx mX12_fair (d + 8) 0 0 (fun o => ∃ E2, o = (.inl (some (.int ((faM L m sl aw R c fr n) s))), E2, 137) ∧ AQ E E2 0) 162 [some (.ref 95), some (.int (nI n)), some (.int (nI s)), some (.int (nI k9)), some (.int (cO (cRots L c k9) (L - 1))), some (.int (nI k))] [] E6 137) (Inv := fun k E6 => k < L ∧ MF [] [113, 126] E4 E6 ∧ (∀ j, j < L → gA E6 113 j = if j ≤ k then cO (cRots L c k9) j else cO (cRots L c k9) (j - 1)) ∧ (∀ j, j < L → gA E6 126 j = (faM L m sl aw R c fr (k9 + 1)) j)) ?_ ?_ (L - 1) E5 ⟨by omega, f5, fun j hj => by rw [if_pos (by omega)]; exact r1 j hj, r2⟩
          refine Sx.up (fun _ kk => r_aload_n 131 dX12_fair_130 rfl rfl kk) ?_
          refine Sx.up (fun _ kk => r_getIV (nI L) 134 dX12_fair_131 rfl f12_341 rfl rfl lt95 (m5) kk) ?_
          refine Sx.up (fun _ kk => r_if_ne 137 141 dX12_fair_134 rfl (by decide) (fun _ => kk) (fun h134 => absurd h134 (nI_ne0 (by omega) (by omega)))) ?_
          refine Sx.up (fun _ kk => r_aload_n 142 dX12_fair_141 rfl rfl kk) ?_
          refine Sx.up (fun _ kk => r_getR 145 dX12_fair_142 rfl f12_90 rfl rfl lt95 (mo_34 hM5) kk) ?_
          refine Sx.up (fun _ kk => r_aload_n 146 dX12_fair_145 rfl rfl kk) ?_
          refine Sx.up (fun _ kk => r_getIV (nI L) 149 dX12_fair_146 rfl f12_341 rfl rfl lt95 (m5) kk) ?_
          refine Sx.up (fun _ kk => r_iconst (1) 150 dX12_fair_149 rfl (by decide) kk) ?_
          refine Sx.up (fun _ kk => r_isub 151 dX12_fair_150 rfl kk) ?_
          refine Sx.up (fun _ kk => r_ialdN (L - 1) (_) 152 dX12_fair_151 rfl rfl (Nat.le_of_ble_eq_true rfl) (e1) (by omega) (Nat.le_of_ble_eq_true rfl) (hlast) kk) ?_
          refine Sx.up (fun _ kk => r_istore 154 dX12_fair_152 rfl (by decide) rfl kk) ?_
          refine Sx.up (fun _ kk => r_aload_n 155 dX12_fair_154 rfl rfl kk) ?_
          refine Sx.up (fun _ kk => r_getIV (nI L) 158 dX12_fair_155 rfl f12_341 rfl rfl lt95 (m5) kk) ?_
          refine Sx.up (fun _ kk => r_iconst (1) 159 dX12_fair_158 rfl (by decide) kk) ?_
          refine Sx.up (fun _ kk => r_isub 160 dX12_fair_159 rfl kk) ?_
          rw [e1]
          refine Sx.up (fun _ kk => r_istore 162 dX12_fair_160 rfl (by decide) rfl kk) ?_
          exact dn9
          · intro E6 ⟨hk0L, f6, b1, b2⟩
            have hM6 := mf_mo f6 hM4
            have m6b : gI E6 1581 95 = nI L := (mf_gI f6 (by decide)).trans ((i4 _ (by decide)).trans j1)
            refine Sx.up (fun _ kk => r_iload 164 dX12_fair_162 rfl rfl kk) ?_
            refine Sx.up (fun _ kk => r_if_le 167 189 dX12_fair_164 rfl (by decide) (fun _ => kk) (fun h164 => absurd (by decide) h164)) ?_
            refine Sx.up (fun _ kk => r_aload_n 190 dX12_fair_189 rfl rfl kk) ?_
            refine Sx.up (fun _ kk => r_getIV (nI L) 193 dX12_fair_190 rfl f12_341 rfl rfl lt95 (m6b) kk) ?_
            refine Sx.up (fun _ kk => r_if_le 196 204 dX12_fair_193 rfl (by decide) (fun h193 => absurd h193 (fun z => absurd (Int32.lt_of_lt_of_le (nI_lt (a := 0) (show 0 < L by omega) (by omega)) z) Int32.lt_irrefl)) (fun _ => kk)) ?_
            refine Sx.up (fun _ kk => r_aload_n 197 dX12_fair_196 rfl rfl kk) ?_
            refine Sx.up (fun _ kk => r_getR 200 dX12_fair_197 rfl f12_90 rfl rfl lt95 (mo_34 hM6) kk) ?_
            refine Sx.up (fun _ kk => r_iconst (0) 201 dX12_fair_200 rfl (by decide) kk) ?_
            refine Sx.up (fun _ kk => r_iload 203 dX12_fair_201 rfl rfl kk) ?_
            refine Sx.up (fun _ kk => r_iastN (0) 204 dX12_fair_203 rfl rfl (Nat.le_of_ble_eq_true rfl) (by decide) (Nat.le_of_ble_eq_true rfl) (Nat.le_of_ble_eq_true rfl) kk) ?_
            refine Sx.less (ls := [some (.ref 95), some (.int (nI n)), some (.int (nI s)), some (.int (nI k9)), none, none]) (by exact ⟨rfl, rfl, rfl, rfl, trivial⟩) (fin (sA E6 113 0 (cO (cRots L c k9) (L - 1))) none none (mf_sA (by decide) f6) (fun j hj => ?_) (fun j hj => b2 j hj))
            rw [gA_sA]
            show _ = (if j = 0 then cO (cRots L c k9) (L - 1) else if j < L then cO (cRots L c k9) (j - 1) else cO (cRots L c k9) j)
            by_cases hj0 : j = 0
            · rw [if_pos ⟨rfl, hj0⟩, if_pos hj0]
            · rw [if_neg (fun z => hj0 z.2), b1 j hj, if_neg (by omega), if_neg hj0, if_pos hj]
          · intro k E6 ⟨hkL, f6, b1, b2⟩ hq6
            have hM6 := mf_mo f6 hM4
            have hb : gA E6 113 k = cO (cRots L c k9) k := by rw [b1 k (by omega), if_pos (by omega)]
            refine Sx.up (fun _ kk => r_iload 164 dX12_fair_162 rfl rfl kk) ?_
            refine Sx.up (fun _ kk => r_if_le 167 189 dX12_fair_164 rfl (by decide) (fun h164 => absurd h164 (fun z => absurd (Int32.lt_of_lt_of_le (nI_lt (a := 0) (show 0 < k + 1 by omega) (by omega)) z) Int32.lt_irrefl)) (fun _ => kk)) ?_
            refine Sx.up (fun _ kk => r_aload_n 168 dX12_fair_167 rfl rfl kk) ?_
            refine Sx.up (fun _ kk => r_getR 171 dX12_fair_168 rfl f12_90 rfl rfl lt95 (mo_34 hM6) kk) ?_
            refine Sx.up (fun _ kk => r_iload 173 dX12_fair_171 rfl rfl kk) ?_
            refine Sx.up (fun _ kk => r_aload_n 174 dX12_fair_173 rfl rfl kk) ?_
            refine Sx.up (fun _ kk => r_getR 177 dX12_fair_174 rfl f12_90 rfl rfl lt95 (mo_34 hM6) kk) ?_
            refine Sx.up (fun _ kk => r_iload 179 dX12_fair_177 rfl rfl kk) ?_
            refine Sx.up (fun _ kk => r_iconst (1) 180 dX12_fair_179 rfl (by decide) kk) ?_
            refine Sx.up (fun _ kk => r_isub 181 dX12_fair_180 rfl kk) ?_
            refine Sx.up (fun _ kk => r_ialdN (k) (_) 182 dX12_fair_181 rfl rfl (Nat.le_of_ble_eq_true rfl) (nI_pred _) (by omega) (Nat.le_of_ble_eq_true rfl) (hb) kk) ?_
            refine Sx.up (fun _ kk => r_iastN (k + 1) 183 dX12_fair_182 rfl rfl (Nat.le_of_ble_eq_true rfl) (rfl) (by omega) (Nat.le_of_ble_eq_true rfl) kk) ?_
            refine Sx.up (fun _ kk => r_iinc (m1) 186 dX12_fair_183 rfl rfl (m1_of) (by decide) rfl kk) ?_
            refine Sx.up (fun _ kk => r_goto 162 dX12_fair_186 (by decide) kk) ?_
            rw [nI_p1]
            refine hq6 _ ⟨by omega, mf_sA (by decide) f6, fun j hj => ?_, b2⟩
            rw [gA_sA]
            by_cases hjk : j = k + 1
            · rw [if_pos ⟨rfl, hjk⟩, if_neg (by omega), hjk]; rfl
            · rw [if_neg (fun z => hjk z.2), b1 j hj]
              by_cases h9 : j ≤ k
              · rw [if_pos (by omega), if_pos h9]
              · rw [if_neg (by omega), if_neg h9]
      have sums := sxUp (S := fun k E5 => Sx mX12_fair (d + 8) 0 0 (fun o => ∃ E2, o = (.inl (some (.int ((faM L m sl aw R c fr n) s))), E2, 137) ∧ AQ E E2 0) 98 [some (.ref 95), some (.int (nI n)), some (.int (nI s)), some (.int (nI k9)), some (.int (nI k)), none] [] E5 137) (Inv := fun k E5 => MF [] [113, 126] E4 E5 ∧ (∀ j, j < L → gA E5 113 j = cO (cRots L c k9) j) ∧ (∀ j, j < L → gA E5 126 j = if j < k then (faM L m sl aw R c fr (k9 + 1)) j else (faM L m sl aw R c fr k9) j)) (a := 0) (l := L) (by omega) ?_ ?_ E4 ⟨mf_rfl, fun j hj => by rw [mf_gA f4 (by decide)]; exact j2 j hj, fun j hj => by rw [if_neg (Nat.not_lt_zero j), mf_gA f4 (by decide)]; exact j8 j hj⟩
      refine Sx.up (fun _ kk => r_iload_n 77 dX12_fair_76 rfl rfl kk) ?_
      refine Sx.up (fun _ kk => r_iload_n 78 dX12_fair_77 rfl rfl kk) ?_
      refine Sx.up (fun _ kk => r_icmp_ge 81 210 dX12_fair_78 rfl (by decide) (fun h78 => absurd h78 (nI_ge hk9 (by omega))) (fun _ => kk)) ?_
      refine Sx.up (fun _ kk => r_aload_n 82 dX12_fair_81 rfl rfl kk) ?_
      refine Sx.up (fun _ kk => r_aload_n 83 dX12_fair_82 rfl rfl kk) ?_
      refine Sx.up (fun _ kk => r_getIV (vS (vMk L sl aw R (cRots L c k9) fr) 4) 86 dX12_fair_83 rfl f12_315 rfl rfl lt95 (hF2) kk) ?_
      refine Sx.up (fun _ kk => r_aload_n 87 dX12_fair_86 rfl rfl kk) ?_
      refine Sx.up (fun _ kk => r_getR 90 dX12_fair_87 rfl f12_38 rfl rfl lt95 (mo_3 hM2) kk) ?_
      refine Sx.up (fun _ kk => r_iconst (3) 91 dX12_fair_90 rfl (by decide) kk) ?_
      refine Sx.up (fun _ kk => r_ialdN (3) (nI m) 92 dX12_fair_91 rfl rfl (Nat.le_of_ble_eq_true rfl) (by decide) (Nat.le_of_ble_eq_true rfl) (Nat.le_of_ble_eq_true rfl) (hm2) kk) ?_
      refine Sx.up (fun _ kk => r_callV (M := mX12_fair) (pc := 92) 95 dX12_fair_92 rfl k12_416 hgo rfl rfl rfl (by decide) rfl lt95 (Nat.le_of_ble_eq_true rfl) kk) ?_
      refine Sx.up (fun _ kk => r_iconst (0) 96 dX12_fair_95 rfl (by decide) kk) ?_
      refine Sx.up (fun _ kk => r_istore 98 dX12_fair_96 rfl (by decide) rfl kk) ?_
      exact Sx.less (by exact ⟨rfl, rfl, rfl, rfl, rfl, trivial⟩) sums
      · intro E5 ⟨f5, r1, r2⟩
        have hM5 := mf_mo f5 hM4
        have m5 : gI E5 1581 95 = nI L := (mf_gI f5 (by decide)).trans ((i4 _ (by decide)).trans j1)
        refine Sx.up (fun _ kk => r_iload 100 dX12_fair_98 rfl rfl kk) ?_
        refine Sx.up (fun _ kk => r_aload_n 101 dX12_fair_100 rfl rfl kk) ?_
        refine Sx.up (fun _ kk => r_getIV (nI L) 104 dX12_fair_101 rfl f12_341 rfl rfl lt95 (m5) kk) ?_
        refine Sx.up (fun _ kk => r_icmp_ge 107 130 dX12_fair_104 rfl (by decide) (fun _ => kk) (fun h104 => absurd (nI_le (Nat.le_refl _) (by omega)) h104)) ?_
        exact Sx.less (ls := [some (.ref 95), some (.int (nI n)), some (.int (nI s)), some (.int (nI k9)), some (.int (nI L)), none]) (by exact ⟨rfl, rfl, rfl, rfl, rfl, trivial⟩) (rot E5 none f5 r1 (fun j hj => by rw [r2 j hj, if_pos hj]))
      · intro k E5 hk1 hkL ⟨f5, r1, r2⟩ hq5
        have hM5 := mf_mo f5 hM4
        have m5 : gI E5 1581 95 = nI L := (mf_gI f5 (by decide)).trans ((i4 _ (by decide)).trans j1)
        have hold : gA E5 126 k = (faM L m sl aw R c fr k9) k := by rw [r2 k hkL, if_neg (Nat.lt_irrefl k)]
        have hnew : gA E5 118 k = byS (vMk L sl aw R (cRots L c k9) fr) (nightF (vMk L sl aw R (cRots L c k9) fr) m) 3 k := by rw [mf_gA f5 (by decide)]; exact hby k hkL
        refine Sx.up (fun _ kk => r_iload 100 dX12_fair_98 rfl rfl kk) ?_
        refine Sx.up (fun _ kk => r_aload_n 101 dX12_fair_100 rfl rfl kk) ?_
        refine Sx.up (fun _ kk => r_getIV (nI L) 104 dX12_fair_101 rfl f12_341 rfl rfl lt95 (m5) kk) ?_
        refine Sx.up (fun _ kk => r_icmp_ge 107 130 dX12_fair_104 rfl (by decide) (fun h104 => absurd h104 (nI_ge hkL (by omega))) (fun _ => kk)) ?_
        refine Sx.up (fun _ kk => r_aload_n 108 dX12_fair_107 rfl rfl kk) ?_
        refine Sx.up (fun _ kk => r_getR 111 dX12_fair_108 rfl f12_129 rfl rfl lt95 (mo_59 hM5) kk) ?_
        refine Sx.up (fun _ kk => r_iload 113 dX12_fair_111 rfl rfl kk) ?_
        refine Sx.up (fun _ kk => r_dup2 114 dX12_fair_113 rfl rfl rfl kk) ?_
        refine Sx.up (fun _ kk => r_ialdN (k) (_) 115 dX12_fair_114 rfl rfl (Nat.le_of_ble_eq_true rfl) (rfl) (by omega) (Nat.le_of_ble_eq_true rfl) (hold) kk) ?_
        refine Sx.up (fun _ kk => r_aload_n 116 dX12_fair_115 rfl rfl kk) ?_
        refine Sx.up (fun _ kk => r_getR 119 dX12_fair_116 rfl f12_105 rfl rfl lt95 (mo_39 hM5) kk) ?_
        refine Sx.up (fun _ kk => r_iload 121 dX12_fair_119 rfl rfl kk) ?_
        refine Sx.up (fun _ kk => r_ialdN (k) (_) 122 dX12_fair_121 rfl rfl (Nat.le_of_ble_eq_true rfl) (rfl) (by omega) (Nat.le_of_ble_eq_true rfl) (hnew) kk) ?_
        refine Sx.up (fun _ kk => r_iadd 123 dX12_fair_122 rfl kk) ?_
        refine Sx.up (fun _ kk => r_iastN (k) 124 dX12_fair_123 rfl rfl (Nat.le_of_ble_eq_true rfl) (rfl) (by omega) (Nat.le_of_ble_eq_true rfl) kk) ?_
        refine Sx.up (fun _ kk => r_iinc (1) 127 dX12_fair_124 rfl rfl (by decide) (by decide) rfl kk) ?_
        refine Sx.up (fun _ kk => r_goto 98 dX12_fair_127 (by decide) kk) ?_
        rw [nI_pp]
        refine hq5 _ ⟨mf_sA (by decide) f5, r1, fun j hj => ?_⟩
        rw [gA_sA]
        by_cases hjk : j = k
        · rw [if_pos ⟨rfl, hjk⟩, if_pos (by omega), hjk, fam_s ⟨cok, csu⟩ hkL]
        · rw [if_neg (fun z => hjk z.2), r2 j hj]
          by_cases h9 : j < k
          · rw [if_pos h9, if_pos (by omega)]
          · rw [if_neg h9, if_neg (by omega)]
  have zer := sxUp (S := fun k E2 => Sx mX12_fair (d + 8) 0 0 (fun o => ∃ E2, o = (.inl (some (.int ((faM L m sl aw R c fr n) s))), E2, 137) ∧ AQ E E2 0) 55 [some (.ref 95), some (.int (nI n)), some (.int (nI s)), some (.int (nI k)), none, none] [] E2 137) (Inv := fun k E2 => MF [] [126] E1 E2 ∧ ∀ j, j < k → gA E2 126 j = 0) (a := 0) (l := 7) (by omega) ?_ ?_ E1 ⟨mf_rfl, fun j hj => absurd hj (Nat.not_lt_zero j)⟩
  refine Sx.up (fun _ kk => r_aload_n 1 dX12_fair_0 rfl rfl kk) ?_
  refine Sx.up (fun _ kk => r_iconst (0) 2 dX12_fair_1 rfl (by decide) kk) ?_
  refine Sx.up (fun _ kk => r_putI 5 dX12_fair_2 rfl f12_159 rfl lt95 kk) ?_
  refine Sx.up (fun _ kk => r_iload_n 6 dX12_fair_5 rfl rfl kk) ?_
  refine Sx.up (fun _ kk => r_i2l 7 dX12_fair_6 rfl kk) ?_
  refine Sx.up (fun _ kk => r_ldc2 (-1) 10 dX12_fair_7 rfl c12_481 kk) ?_
  refine Sx.up (fun _ kk => r_aload_n 11 dX12_fair_10 rfl rfl kk) ?_
  refine Sx.up (fun _ kk => r_getR 14 dX12_fair_11 rfl f12_38 rfl rfl lt95 (mo_3 hM0) kk) ?_
  refine Sx.up (fun _ kk => r_iconst (0) 15 dX12_fair_14 rfl (by decide) kk) ?_
  refine Sx.up (fun _ kk => r_ialdN (0) (nI L) 16 dX12_fair_15 rfl rfl (Nat.le_of_ble_eq_true rfl) (by decide) (Nat.le_of_ble_eq_true rfl) (Nat.le_of_ble_eq_true rfl) (hL0) kk) ?_
  refine Sx.up (fun _ kk => r_iconst (1) 17 dX12_fair_16 rfl (by decide) kk) ?_
  refine Sx.up (fun _ kk => r_isub 18 dX12_fair_17 rfl kk) ?_
  refine Sx.up (fun _ kk => r_i2l 19 dX12_fair_18 rfl kk) ?_
  refine Sx.up (fun _ kk => r_callS (M := mX12_fair) (pc := 19) 22 dX12_fair_19 rfl k12_162 hin rfl rfl (Nat.le_of_ble_eq_true rfl) kk) ?_
  refine Sx.up (fun _ kk => r_if_ne 25 31 dX12_fair_22 rfl (by decide) (fun _ => kk) (fun h22 => absurd h22 (by decide))) ?_
  refine Sx.up (fun _ kk => r_iload_n 32 dX12_fair_31 rfl rfl kk) ?_
  refine Sx.up (fun _ kk => r_i2l 33 dX12_fair_32 rfl kk) ?_
  refine Sx.up (fun _ kk => r_lconst 0 34 dX12_fair_33 rfl (by decide) kk) ?_
  refine Sx.up (fun _ kk => r_ldc2 30 37 dX12_fair_34 rfl c12_483 kk) ?_
  refine Sx.up (fun _ kk => r_callS (M := mX12_fair) (pc := 37) 40 dX12_fair_37 rfl k12_162 hi2 rfl rfl (Nat.le_of_ble_eq_true rfl) kk) ?_
  refine Sx.up (fun _ kk => r_if_ne 43 49 dX12_fair_40 rfl (by decide) (fun _ => kk) (fun h40 => absurd h40 (by decide))) ?_
  refine Sx.up (fun _ kk => r_aload_n 50 dX12_fair_49 rfl rfl kk) ?_
  refine Sx.up (fun _ kk => r_callV (M := mX12_fair) (pc := 50) 53 dX12_fair_50 rfl k12_413 hse rfl rfl rfl (by decide) rfl lt95 (Nat.le_of_ble_eq_true rfl) kk) ?_
  refine Sx.up (fun _ kk => r_iconst (0) 54 dX12_fair_53 rfl (by decide) kk) ?_
  refine Sx.up (fun _ kk => r_istore_n 55 dX12_fair_54 rfl (by decide) rfl kk) ?_
  exact zer
  · intro E2 ⟨f2, b1⟩
    refine Sx.up (fun _ kk => r_iload_n 56 dX12_fair_55 rfl rfl kk) ?_
    refine Sx.up (fun _ kk => r_bipush (7) 58 dX12_fair_56 rfl (by decide) kk) ?_
    refine Sx.up (fun _ kk => r_icmp_ge 61 74 dX12_fair_58 rfl (by decide) (fun _ => kk) (fun h58 => absurd (by decide) h58)) ?_
    refine Sx.up (fun _ kk => r_iconst (0) 75 dX12_fair_74 rfl (by decide) kk) ?_
    refine Sx.up (fun _ kk => r_istore_n 76 dX12_fair_75 rfl (by decide) rfl kk) ?_
    exact loop E2 none none ⟨mf_tr (mf_mono f1 (by decide) (by decide)) (mf_mono f2 (by decide) (by decide)), (mf_gI f2 (by decide)).trans hv1.1, fun i hi => by rw [mf_gA f2 (by decide)]; exact (hr1 i hi).1, fun i hi => by rw [mf_gA f2 (by decide)]; exact (hr1 i hi).2, (mf_gI f2 (by decide)).trans s1, (mf_gI f2 (by decide)).trans s2, (mf_gI f2 (by decide)).trans hv1.2.2.2.2.2.2.2.2.1, (mf_gI f2 (by decide)).trans hv1.2.2.2.2.2.2.2.2.2.1, fun s hs => b1 s (by omega)⟩
  · intro k E2 hk0 hk7 ⟨f2, b1⟩ hq
    have hM2 := mf_mo f2 hM1
    refine Sx.up (fun _ kk => r_iload_n 56 dX12_fair_55 rfl rfl kk) ?_
    refine Sx.up (fun _ kk => r_bipush (7) 58 dX12_fair_56 rfl (by decide) kk) ?_
    refine Sx.up (fun _ kk => r_icmp_ge 61 74 dX12_fair_58 rfl (by decide) (fun h58 => absurd h58 (nI_ge (b := 7) hk7 (by omega))) (fun _ => kk)) ?_
    refine Sx.up (fun _ kk => r_aload_n 62 dX12_fair_61 rfl rfl kk) ?_
    refine Sx.up (fun _ kk => r_getR 65 dX12_fair_62 rfl f12_129 rfl rfl lt95 (mo_59 hM2) kk) ?_
    refine Sx.up (fun _ kk => r_iload_n 66 dX12_fair_65 rfl rfl kk) ?_
    refine Sx.up (fun _ kk => r_iconst (0) 67 dX12_fair_66 rfl (by decide) kk) ?_
    refine Sx.up (fun _ kk => r_iastN (k) 68 dX12_fair_67 rfl rfl (Nat.le_of_ble_eq_true rfl) (rfl) (by omega) (Nat.le_of_ble_eq_true rfl) kk) ?_
    refine Sx.up (fun _ kk => r_iinc (1) 71 dX12_fair_68 rfl rfl (by decide) (by decide) rfl kk) ?_
    refine Sx.up (fun _ kk => r_goto 55 dX12_fair_71 (by decide) kk) ?_
    rw [nI_pp]
    refine hq _ ⟨mf_sA (by decide) f2, fun j hj => ?_⟩
    rw [gA_sA]
    by_cases hjk : j = k
    · rw [if_pos ⟨rfl, hjk⟩]
    · rw [if_neg (fun z => hjk z.2)]; exact b1 j (by omega)
set_option maxRecDepth 20000 in
theorem m_fairA {d L m n s : Nat} {sl : Nat → Nat → Int32} {aw : Int32} {R : List Int32} {c : Cfg} {fr : Int32} {E : HP} (h : MD E L m sl aw R c fr) (hn : n ≤ 30) : ∃ o, (∃ E2, o = (.inl (some (.int ((apaM (canS2 sl) (faM L m sl aw R c fr n) L).1 - (apaM (canS2 sl) (faM L m sl aw R c fr n) L).2))), E2, 137) ∧ AQ E E2 0) ∧ Cl yX12_fair mX12_fair (d + 8) 0 0 [.ref 95, .int (nI n), .int (-1)] E 137 o := by
  obtain ⟨hM, hL, ⟨cok, csu⟩, hoc, h62, h63, h64, h65, hsy, hsl, ⟨m1, m6, hm⟩, -⟩ := id h
  have l7 : L ≤ 7 := cok.2.1
  have hM0 : MoOK (sI E 1538 95 0) := hM
  have hL0 : gA (sI E 1538 95 0) 98 0 = nI L := hL
  obtain ⟨E1, ⟨f1, hv1, hr1, s1, s2⟩, hse⟩ := m_set (d := d + 6) (md_0 (x := 0) h)
  have hM1 := mf_mo f1 hM0
  have hin := c_isIn (d := d + 7) (E := sI E 1538 95 0) (x := ((-1 : Int32)).toInt64) (a := -1) (b := (nI L - 1).toInt64)
  have hdn : (-1 : Int32) ≤ nI L - 1 := by
    rcases Nat.eq_zero_or_pos L with z | z
    · rw [z]; decide
    · rw [show nI L - 1 = nI (L - 1) by rw [show L = L - 1 + 1 by omega, nI_pred]; rfl]; exact Int32.le_of_lt (Int32.lt_of_lt_of_le (show (-1 : Int32) < 0 by decide) (Int32.not_lt.mp (nI_pos (by omega))))
  rw [bI_t (decide_eq_true ⟨by decide, by rw [Int32.toInt64_le]; exact hdn⟩)] at hin
  clear m1
  have hi2 := c_isInC (d := d + 7) (E := sI E 1538 95 0) (x := nI n) (y := 30) (z := 30) (z0 := 0) (by decide) (by decide)
  rw [b01_t (show inC (nI n) 30 from inC_of (L := 30) hn (by decide))] at hi2
  refine Cx.of (by decide) rfl (fun q => by cases q) rfl rfl (Nat.le_of_ble_eq_true rfl) ?_
  show Sx _ _ _ _ _ 0 [some (.ref 95), some (.int (nI n)), some (.int ((-1))), none, none, none] [] _ _
  have loop : ∀ E2 (x4 x5 : Option Value), (MF gsR asQ (sI E 1538 95 0) E2 ∧ gI E2 1581 95 = nI L ∧ (∀ i, i < L → gA E2 113 i = cO (cRots L c 0) i) ∧ (∀ i, i < L → gA E2 114 i = cU c i) ∧ gI E2 1582 95 = cS c ∧ gI E2 1583 95 = (if cS c = -1 then 0 else cE c) ∧ gI E2 1584 95 = cB c ∧ gI E2 1589 95 = fr ∧ (∀ s, s < L → gA E2 126 s = (faM L m sl aw R c fr 0) s)) → Sx mX12_fair (d + 8) 0 0 (fun o => ∃ E2, o = (.inl (some (.int ((apaM (canS2 sl) (faM L m sl aw R c fr n) L).1 - (apaM (canS2 sl) (faM L m sl aw R c fr n) L).2))), E2, 137) ∧ AQ E E2 0) 76 [some (.ref 95), some (.int (nI n)), some (.int (-1)), some (.int (nI 0)), none, none] [] E2 137 := by
    intro E2 x4 x5 hinv
    have lp := sxUp (σ := HP × Option Value × Option Value) (S := fun k9 q => Sx mX12_fair (d + 8) 0 0 (fun o => ∃ E2, o = (.inl (some (.int ((apaM (canS2 sl) (faM L m sl aw R c fr n) L).1 - (apaM (canS2 sl) (faM L m sl aw R c fr n) L).2))), E2, 137) ∧ AQ E E2 0) 76 [some (.ref 95), some (.int (nI n)), some (.int (-1)), some (.int (nI k9)), none, none] [] q.1 137) (Inv := fun k9 q => MF gsR asQ (sI E 1538 95 0) q.1 ∧ gI q.1 1581 95 = nI L ∧ (∀ i, i < L → gA q.1 113 i = cO (cRots L c k9) i) ∧ (∀ i, i < L → gA q.1 114 i = cU c i) ∧ gI q.1 1582 95 = cS c ∧ gI q.1 1583 95 = (if cS c = -1 then 0 else cE c) ∧ gI q.1 1584 95 = cB c ∧ gI q.1 1589 95 = fr ∧ (∀ s, s < L → gA q.1 126 s = (faM L m sl aw R c fr k9) s)) (a := 0) (l := n) (by omega) ?_ ?_ (E2, x4, x5) hinv
    · exact lp
    · intro ⟨E2, x4, x5⟩ ⟨f2, j1, j2, j3, j4, j5, j6, j7, j8⟩
      have hM2 := mf_mo f2 hM0
      have hq9 : AQ E E2 0 := mq_of f2 (by decide) (by decide) (by decide)
      have ap := sxUp (S := fun k q => Sx mX12_fair (d + 8) 0 0 (fun o => ∃ E2, o = (.inl (some (.int ((apaM (canS2 sl) (faM L m sl aw R c fr n) L).1 - (apaM (canS2 sl) (faM L m sl aw R c fr n) L).2))), E2, 137) ∧ AQ E E2 0) 230 [some (.ref 95), some (.int (nI n)), some (.int (-1)), some (.int (apaM (canS2 sl) (faM L m sl aw R c fr n) k).1), some (.int (apaM (canS2 sl) (faM L m sl aw R c fr n) k).2), some (.int (nI k))] [] E2 137) (Inv := fun k (q : Unit) => True) (a := 0) (l := L) (by omega) ?_ ?_ () trivial
      refine Sx.up (fun _ kk => r_iload_n 77 dX12_fair_76 rfl rfl kk) ?_
      refine Sx.up (fun _ kk => r_iload_n 78 dX12_fair_77 rfl rfl kk) ?_
      refine Sx.up (fun _ kk => r_icmp_ge 81 210 dX12_fair_78 rfl (by decide) (fun _ => kk) (fun h78 => absurd (nI_le (Nat.le_refl _) (by omega)) h78)) ?_
      refine Sx.up (fun _ kk => r_iload_n 211 dX12_fair_210 rfl rfl kk) ?_
      refine Sx.up (fun _ kk => r_iconst (-1) 212 dX12_fair_211 rfl (by decide) kk) ?_
      refine Sx.up (fun _ kk => r_icmp_eq 215 222 dX12_fair_212 rfl (by decide) (fun _ => kk) (fun h212 => absurd rfl h212)) ?_
      refine Sx.up (fun _ kk => r_iconst (-1) 223 dX12_fair_222 rfl (by decide) kk) ?_
      refine Sx.up (fun _ kk => r_istore_n 224 dX12_fair_223 rfl (by decide) rfl kk) ?_
      refine Sx.up (fun _ kk => r_iconst (-1) 225 dX12_fair_224 rfl (by decide) kk) ?_
      refine Sx.up (fun _ kk => r_istore 227 dX12_fair_225 rfl (by decide) rfl kk) ?_
      refine Sx.up (fun _ kk => r_iconst (0) 228 dX12_fair_227 rfl (by decide) kk) ?_
      refine Sx.up (fun _ kk => r_istore 230 dX12_fair_228 rfl (by decide) rfl kk) ?_
      exact ap
      · intro _ _
        refine Sx.up (fun _ kk => r_iload 232 dX12_fair_230 rfl rfl kk) ?_
        refine Sx.up (fun _ kk => r_aload_n 233 dX12_fair_232 rfl rfl kk) ?_
        refine Sx.up (fun _ kk => r_getIV (nI L) 236 dX12_fair_233 rfl f12_341 rfl rfl lt95 (j1) kk) ?_
        refine Sx.up (fun _ kk => r_icmp_ge 239 299 dX12_fair_236 rfl (by decide) (fun _ => kk) (fun h236 => absurd (nI_le (Nat.le_refl _) (by omega)) h236)) ?_
        refine Sx.up (fun _ kk => r_iload_n 300 dX12_fair_299 rfl rfl kk) ?_
        refine Sx.up (fun _ kk => r_iload 302 dX12_fair_300 rfl rfl kk) ?_
        refine Sx.up (fun _ kk => r_isub 303 dX12_fair_302 rfl kk) ?_
        refine ⟨_, ?_, r_iret dX12_fair_303 rfl rfl rfl⟩
        refine ⟨E2, ?_, hq9⟩
        rfl
      · intro k _ hk1 hkL _ hq5
        have hgo := hq5 () trivial
        have hs2 : gA E2 126 k = (faM L m sl aw R c fr n) k := j8 k hkL
        have hkd : gA E2 99 k = sl 1 k := by rw [mf_gA0 f2 (by decide)]; exact (hsl k hkL).1
        have hdf := c_deaf (d := d + 7) hM2 (show k < 14 by omega) hkd
        obtain ⟨x, hx⟩ : ∃ x, (faM L m sl aw R c fr n) k = x := ⟨_, rfl⟩
        rw [hx] at hs2
        have hy : canS2 sl k = true → apaM (canS2 sl) (faM L m sl aw R c fr n) (k + 1) = (maxF (apaM (canS2 sl) (faM L m sl aw R c fr n) k).1 x, if (apaM (canS2 sl) (faM L m sl aw R c fr n) k).2 = -1 then x else minF (apaM (canS2 sl) (faM L m sl aw R c fr n) k).2 x) := fun z => by rw [← hx]; exact if_pos z
        have hn : ¬ canS2 sl k = true → apaM (canS2 sl) (faM L m sl aw R c fr n) (k + 1) = apaM (canS2 sl) (faM L m sl aw R c fr n) k := fun z => if_neg z
        have hcs : canS2 sl k = true ↔ ¬ (sl 1 k = 1 ∨ sl 1 k = 3) := by
          unfold canS2
          rw [decide_eq_true_eq]
          exact ⟨fun z y => y.elim z.1 z.2, fun z => ⟨fun y => z (Or.inl y), fun y => z (Or.inr y)⟩⟩
        refine Sx.up (fun _ kk => r_iload 232 dX12_fair_230 rfl rfl kk) ?_
        refine Sx.up (fun _ kk => r_aload_n 233 dX12_fair_232 rfl rfl kk) ?_
        refine Sx.up (fun _ kk => r_getIV (nI L) 236 dX12_fair_233 rfl f12_341 rfl rfl lt95 (j1) kk) ?_
        refine Sx.up (fun _ kk => r_icmp_ge 239 299 dX12_fair_236 rfl (by decide) (fun h236 => absurd h236 (nI_ge hkL (by omega))) (fun _ => kk)) ?_
        refine Sx.up (fun _ kk => r_aload_n 240 dX12_fair_239 rfl rfl kk) ?_
        refine Sx.up (fun _ kk => r_iload 242 dX12_fair_240 rfl rfl kk) ?_
        refine Sx.up (fun _ kk => r_callV (M := mX12_fair) (pc := 242) 245 dX12_fair_242 rfl k12_373 hdf rfl rfl rfl (by decide) rfl lt95 (Nat.le_of_ble_eq_true rfl) kk) ?_
        refine Sx.br (fun _ ka kb => r_if_eq 248 251 dX12_fair_245 rfl (by decide) ka kb) (by first | exact em1 | exact em2) (fun h245 => ?_) (fun h245 => ?_)
        · refine Sx.up (fun _ kk => r_iload_n 252 dX12_fair_251 rfl rfl kk) ?_
          refine Sx.up (fun _ kk => r_aload_n 253 dX12_fair_252 rfl rfl kk) ?_
          refine Sx.up (fun _ kk => r_getR 256 dX12_fair_253 rfl f12_129 rfl rfl lt95 (mo_59 hM2) kk) ?_
          refine Sx.up (fun _ kk => r_iload 258 dX12_fair_256 rfl rfl kk) ?_
          refine Sx.up (fun _ kk => r_ialdN (k) (_) 259 dX12_fair_258 rfl rfl (Nat.le_of_ble_eq_true rfl) (rfl) (by omega) (Nat.le_of_ble_eq_true rfl) (hs2) kk) ?_
          refine Sx.up (fun _ kk => r_max 262 dX12_fair_259 rfl k12_391 (Nat.le_of_ble_eq_true rfl) kk) ?_
          refine Sx.up (fun _ kk => r_istore_n 263 dX12_fair_262 rfl (by decide) rfl kk) ?_
          refine Sx.up (fun _ kk => r_iload 265 dX12_fair_263 rfl rfl kk) ?_
          refine Sx.up (fun _ kk => r_iconst (-1) 266 dX12_fair_265 rfl (by decide) kk) ?_
          refine Sx.br (fun _ ka kb => r_icmp_ne 269 279 dX12_fair_266 rfl (by decide) ka kb) (by first | exact em1 | exact em2) (fun h266 => ?_) (fun h266 => ?_)
          · refine Sx.up (fun _ kk => r_iload 281 dX12_fair_279 rfl rfl kk) ?_
            refine Sx.up (fun _ kk => r_aload_n 282 dX12_fair_281 rfl rfl kk) ?_
            refine Sx.up (fun _ kk => r_getR 285 dX12_fair_282 rfl f12_129 rfl rfl lt95 (mo_59 hM2) kk) ?_
            refine Sx.up (fun _ kk => r_iload 287 dX12_fair_285 rfl rfl kk) ?_
            refine Sx.up (fun _ kk => r_ialdN (k) (_) 288 dX12_fair_287 rfl rfl (Nat.le_of_ble_eq_true rfl) (rfl) (by omega) (Nat.le_of_ble_eq_true rfl) (hs2) kk) ?_
            refine Sx.up (fun _ kk => r_min 291 dX12_fair_288 rfl k12_196 (Nat.le_of_ble_eq_true rfl) kk) ?_
            refine Sx.up (fun _ kk => r_istore 293 dX12_fair_291 rfl (by decide) rfl kk) ?_
            refine Sx.up (fun _ kk => r_iinc (1) 296 dX12_fair_293 rfl rfl (by decide) (by decide) rfl kk) ?_
            refine Sx.up (fun _ kk => r_goto 230 dX12_fair_296 (by decide) kk) ?_
            have hc : canS2 sl k = true := hcs.mpr (fun z => by rw [bI_t (decide_eq_true z)] at h245; exact absurd h245 (by decide))
            rw [nI_pp]
            rw [hy hc] at hgo
            rw [if_neg h266] at hgo
            exact Sx.less (by exact ⟨rfl, rfl, rfl, rfl, rfl, rfl, trivial⟩) hgo
          · refine Sx.up (fun _ kk => r_aload_n 270 dX12_fair_269 rfl rfl kk) ?_
            refine Sx.up (fun _ kk => r_getR 273 dX12_fair_270 rfl f12_129 rfl rfl lt95 (mo_59 hM2) kk) ?_
            refine Sx.up (fun _ kk => r_iload 275 dX12_fair_273 rfl rfl kk) ?_
            refine Sx.up (fun _ kk => r_ialdN (k) (_) 276 dX12_fair_275 rfl rfl (Nat.le_of_ble_eq_true rfl) (rfl) (by omega) (Nat.le_of_ble_eq_true rfl) (hs2) kk) ?_
            refine Sx.up (fun _ kk => r_goto 291 dX12_fair_276 (by decide) kk) ?_
            refine Sx.up (fun _ kk => r_istore 293 dX12_fair_291 rfl (by decide) rfl kk) ?_
            refine Sx.up (fun _ kk => r_iinc (1) 296 dX12_fair_293 rfl rfl (by decide) (by decide) rfl kk) ?_
            refine Sx.up (fun _ kk => r_goto 230 dX12_fair_296 (by decide) kk) ?_
            have hc : canS2 sl k = true := hcs.mpr (fun z => by rw [bI_t (decide_eq_true z)] at h245; exact absurd h245 (by decide))
            rw [nI_pp]
            rw [hy hc] at hgo
            rw [if_pos h266] at hgo
            exact Sx.less (by exact ⟨rfl, rfl, rfl, rfl, rfl, rfl, trivial⟩) hgo
        · refine Sx.up (fun _ kk => r_goto 293 dX12_fair_248 (by decide) kk) ?_
          refine Sx.up (fun _ kk => r_iinc (1) 296 dX12_fair_293 rfl rfl (by decide) (by decide) rfl kk) ?_
          refine Sx.up (fun _ kk => r_goto 230 dX12_fair_296 (by decide) kk) ?_
          have hc : ¬ canS2 sl k = true := fun z => h245 (bI_f (fun y => hcs.mp z (of_decide_eq_true y)))
          rw [nI_pp]
          rw [hn hc] at hgo
          exact Sx.less (by exact ⟨rfl, rfl, rfl, rfl, rfl, rfl, trivial⟩) hgo
    · intro k9 ⟨E2, x4, x5⟩ hk0 hk9 ⟨f2, j1, j2, j3, j4, j5, j6, j7, j8⟩ hq
      have hM2 := mf_mo f2 hM0
      have hfu := ful_rots (c := c) ⟨cok, csu⟩ k9
      obtain ⟨rU, rF, rS, rE, rB⟩ := rot_same (L := L) (c := c) k9
      have hv2 : MVis E2 (vMk L sl aw R (cRots L c k9) fr) L := by
        refine m_vis h (mf_mono f2 (by decide) (by decide)) j1 hfu.1 j2 (fun s hs => by rw [rU]; exact j3 s hs) (fun z => ?_) (fun z1 z2 => ?_) (by rw [rB]; exact j6) j7
        · rw [j4, j5] at z
          rw [rE]
          intro y
          rcases z with z | z
          · exact hsy y z
          · rw [if_neg (hsy y)] at z
            exact z y
        · rw [j4] at z1
          rw [j5, if_neg z1, j4, rE, rS]
          exact ⟨rfl, rfl⟩
      have hF2 : gI E2 1562 95 = vS (vMk L sl aw R (cRots L c k9) fr) 4 := by
        show _ = cF (cRots L c k9)
        rw [rF]; exact (mf_gI f2 (by decide)).trans h62
      have hm2 : gA E2 98 3 = nI m := by rw [mf_gA0 f2 (by decide)]; exact hm
      obtain ⟨_, ⟨E4, rfl, f4, hg⟩, hgo⟩ := c_X12_go (d := d + 2) (m := m) hM2 hv2 hfu.1.2.2.2.2.2.2 m6
      have hM4 := hg.1
      have f04 : MF gsR asQ (sI E 1538 95 0) E4 := mf_tr f2 (mf_mono f4 (by decide) (by decide))
      have i4 : ∀ g, g ∉ gsG → gI E4 g 95 = gI E2 g 95 := fun g hg => mf_gI f4 hg
      have hby : ∀ s, s < L → gA E4 118 s = byS (vMk L sl aw R (cRots L c k9) fr) (nightF (vMk L sl aw R (cRots L c k9) fr) m) 3 s := fun s hs => (gr_by hfu hg hs).2.2.1
      have fin : ∀ E6 (x4 x5 : Option Value), MF [] [113, 126] E4 E6 → (∀ j, j < L → gA E6 113 j = cO (cRots L c (k9 + 1)) j) → (∀ j, j < L → gA E6 126 j = (faM L m sl aw R c fr (k9 + 1)) j) → Sx mX12_fair (d + 8) 0 0 (fun o => ∃ E2, o = (.inl (some (.int ((apaM (canS2 sl) (faM L m sl aw R c fr n) L).1 - (apaM (canS2 sl) (faM L m sl aw R c fr n) L).2))), E2, 137) ∧ AQ E E2 0) 204 [some (.ref 95), some (.int (nI n)), some (.int (-1)), some (.int (nI k9)), none, none] [] E6 137 := by
        intro E6 x4 x5 f6 r1 r2
        have hgo2 := hq (E6, x4, x5) ⟨mf_tr f04 (mf_mono f6 (by decide) (by decide)), (mf_gI f6 (by decide)).trans ((i4 _ (by decide)).trans j1), r1, fun i hi => by rw [mf_gA f6 (by decide), mf_gA f4 (by decide)]; exact j3 i hi, (mf_gI f6 (by decide)).trans ((i4 _ (by decide)).trans j4), (mf_gI f6 (by decide)).trans ((i4 _ (by decide)).trans j5), (mf_gI f6 (by decide)).trans ((i4 _ (by decide)).trans j6), (mf_gI f6 (by decide)).trans ((i4 _ (by decide)).trans j7), r2⟩
        refine Sx.up (fun _ kk => r_iinc (1) 207 dX12_fair_204 rfl rfl (by decide) (by decide) rfl kk) ?_
        refine Sx.up (fun _ kk => r_goto 76 dX12_fair_207 (by decide) kk) ?_
        rw [nI_pp]
        exact hgo2
      have rot : ∀ E5 (x5 : Option Value), MF [] [113, 126] E4 E5 → (∀ j, j < L → gA E5 113 j = cO (cRots L c k9) j) → (∀ j, j < L → gA E5 126 j = (faM L m sl aw R c fr (k9 + 1)) j) → Sx mX12_fair (d + 8) 0 0 (fun o => ∃ E2, o = (.inl (some (.int ((apaM (canS2 sl) (faM L m sl aw R c fr n) L).1 - (apaM (canS2 sl) (faM L m sl aw R c fr n) L).2))), E2, 137) ∧ AQ E E2 0) 130 [some (.ref 95), some (.int (nI n)), some (.int (-1)), some (.int (nI k9)), some (.int (nI L)), none] [] E5 137 := by
        intro E5 x5 f5 r1 r2
        have hM5 := mf_mo f5 hM4
        have m5 : gI E5 1581 95 = nI L := (mf_gI f5 (by decide)).trans ((i4 _ (by decide)).trans j1)
        by_cases hL0 : L = 0
        · refine Sx.up (fun _ kk => r_aload_n 131 dX12_fair_130 rfl rfl kk) ?_
          refine Sx.up (fun _ kk => r_getIV (0) 134 dX12_fair_131 rfl f12_341 rfl rfl lt95 (by rw [m5, hL0]; rfl) kk) ?_
          refine Sx.up (fun _ kk => r_if_ne 137 141 dX12_fair_134 rfl (by decide) (fun h134 => absurd h134 (fun z => z rfl)) (fun _ => kk)) ?_
          refine Sx.up (fun _ kk => r_iconst (-1) 138 dX12_fair_137 rfl (by decide) kk) ?_
          refine Sx.up (fun _ kk => r_goto 152 dX12_fair_138 (by decide) kk) ?_
          refine Sx.up (fun _ kk => r_istore 154 dX12_fair_152 rfl (by decide) rfl kk) ?_
          refine Sx.up (fun _ kk => r_aload_n 155 dX12_fair_154 rfl rfl kk) ?_
          refine Sx.up (fun _ kk => r_getIV (0) 158 dX12_fair_155 rfl f12_341 rfl rfl lt95 (by rw [m5, hL0]; rfl) kk) ?_
          refine Sx.up (fun _ kk => r_iconst (1) 159 dX12_fair_158 rfl (by decide) kk) ?_
          refine Sx.up (fun _ kk => r_isub 160 dX12_fair_159 rfl kk) ?_
          refine Sx.up (fun _ kk => r_istore 162 dX12_fair_160 rfl (by decide) rfl kk) ?_
          refine Sx.up (fun _ kk => r_iload 164 dX12_fair_162 rfl rfl kk) ?_
          refine Sx.up (fun _ kk => r_if_le 167 189 dX12_fair_164 rfl (by decide) (fun _ => kk) (fun h164 => absurd (by decide) h164)) ?_
          refine Sx.up (fun _ kk => r_aload_n 190 dX12_fair_189 rfl rfl kk) ?_
          refine Sx.up (fun _ kk => r_getIV (0) 193 dX12_fair_190 rfl f12_341 rfl rfl lt95 (by rw [m5, hL0]; rfl) kk) ?_
          refine Sx.up (fun _ kk => r_if_le 196 204 dX12_fair_193 rfl (by decide) (fun _ => kk) (fun h193 => absurd (by decide) h193)) ?_
          exact Sx.less (ls := [some (.ref 95), some (.int (nI n)), some (.int (-1)), some (.int (nI k9)), none, none]) (by exact ⟨rfl, rfl, rfl, rfl, trivial⟩) (fin E5 none none f5 (fun j hj => absurd hj (by omega)) r2)
        · have hlast : gA E5 113 (L - 1) = cO (cRots L c k9) (L - 1) := r1 _ (by omega)
          have e1 : nI L - 1 = nI (L - 1) := by rw [show L = L - 1 + 1 by omega, nI_pred]; rfl
          have dn9 := sxDn (S := fun k E6 => Sx mX12_fair (d + 8) 0 0 (fun o => ∃ E2, o = (.inl (some (.int ((apaM (canS2 sl) (faM L m sl aw R c fr n) L).1 - (apaM (canS2 sl) (faM L m sl aw R c fr n) L).2))), E2, 137) ∧ AQ E E2 0) 162 [some (.ref 95), some (.int (nI n)), some (.int (-1)), some (.int (nI k9)), some (.int (cO (cRots L c k9) (L - 1))), some (.int (nI k))] [] E6 137) (Inv := fun k E6 => k < L ∧ MF [] [113, 126] E4 E6 ∧ (∀ j, j < L → gA E6 113 j = if j ≤ k then cO (cRots L c k9) j else cO (cRots L c k9) (j - 1)) ∧ (∀ j, j < L → gA E6 126 j = (faM L m sl aw R c fr (k9 + 1)) j)) ?_ ?_ (L - 1) E5 ⟨by omega, f5, fun j hj => by rw [if_pos (by omega)]; exact r1 j hj, r2⟩
          refine Sx.up (fun _ kk => r_aload_n 131 dX12_fair_130 rfl rfl kk) ?_
          refine Sx.up (fun _ kk => r_getIV (nI L) 134 dX12_fair_131 rfl f12_341 rfl rfl lt95 (m5) kk) ?_
          refine Sx.up (fun _ kk => r_if_ne 137 141 dX12_fair_134 rfl (by decide) (fun _ => kk) (fun h134 => absurd h134 (nI_ne0 (by omega) (by omega)))) ?_
          refine Sx.up (fun _ kk => r_aload_n 142 dX12_fair_141 rfl rfl kk) ?_
          refine Sx.up (fun _ kk => r_getR 145 dX12_fair_142 rfl f12_90 rfl rfl lt95 (mo_34 hM5) kk) ?_
          refine Sx.up (fun _ kk => r_aload_n 146 dX12_fair_145 rfl rfl kk) ?_
          refine Sx.up (fun _ kk => r_getIV (nI L) 149 dX12_fair_146 rfl f12_341 rfl rfl lt95 (m5) kk) ?_
          refine Sx.up (fun _ kk => r_iconst (1) 150 dX12_fair_149 rfl (by decide) kk) ?_
          refine Sx.up (fun _ kk => r_isub 151 dX12_fair_150 rfl kk) ?_
          refine Sx.up (fun _ kk => r_ialdN (L - 1) (_) 152 dX12_fair_151 rfl rfl (Nat.le_of_ble_eq_true rfl) (e1) (by omega) (Nat.le_of_ble_eq_true rfl) (hlast) kk) ?_
          refine Sx.up (fun _ kk => r_istore 154 dX12_fair_152 rfl (by decide) rfl kk) ?_
          refine Sx.up (fun _ kk => r_aload_n 155 dX12_fair_154 rfl rfl kk) ?_
          refine Sx.up (fun _ kk => r_getIV (nI L) 158 dX12_fair_155 rfl f12_341 rfl rfl lt95 (m5) kk) ?_
          refine Sx.up (fun _ kk => r_iconst (1) 159 dX12_fair_158 rfl (by decide) kk) ?_
          refine Sx.up (fun _ kk => r_isub 160 dX12_fair_159 rfl kk) ?_
          rw [e1]
          refine Sx.up (fun _ kk => r_istore 162 dX12_fair_160 rfl (by decide) rfl kk) ?_
          exact dn9
          · intro E6 ⟨hk0L, f6, b1, b2⟩
            have hM6 := mf_mo f6 hM4
            have m6b : gI E6 1581 95 = nI L := (mf_gI f6 (by decide)).trans ((i4 _ (by decide)).trans j1)
            refine Sx.up (fun _ kk => r_iload 164 dX12_fair_162 rfl rfl kk) ?_
            refine Sx.up (fun _ kk => r_if_le 167 189 dX12_fair_164 rfl (by decide) (fun _ => kk) (fun h164 => absurd (by decide) h164)) ?_
            refine Sx.up (fun _ kk => r_aload_n 190 dX12_fair_189 rfl rfl kk) ?_
            refine Sx.up (fun _ kk => r_getIV (nI L) 193 dX12_fair_190 rfl f12_341 rfl rfl lt95 (m6b) kk) ?_
            refine Sx.up (fun _ kk => r_if_le 196 204 dX12_fair_193 rfl (by decide) (fun h193 => absurd h193 (fun z => absurd (Int32.lt_of_lt_of_le (nI_lt (a := 0) (show 0 < L by omega) (by omega)) z) Int32.lt_irrefl)) (fun _ => kk)) ?_
            refine Sx.up (fun _ kk => r_aload_n 197 dX12_fair_196 rfl rfl kk) ?_
            refine Sx.up (fun _ kk => r_getR 200 dX12_fair_197 rfl f12_90 rfl rfl lt95 (mo_34 hM6) kk) ?_
            refine Sx.up (fun _ kk => r_iconst (0) 201 dX12_fair_200 rfl (by decide) kk) ?_
            refine Sx.up (fun _ kk => r_iload 203 dX12_fair_201 rfl rfl kk) ?_
            refine Sx.up (fun _ kk => r_iastN (0) 204 dX12_fair_203 rfl rfl (Nat.le_of_ble_eq_true rfl) (by decide) (Nat.le_of_ble_eq_true rfl) (Nat.le_of_ble_eq_true rfl) kk) ?_
            refine Sx.less (ls := [some (.ref 95), some (.int (nI n)), some (.int (-1)), some (.int (nI k9)), none, none]) (by exact ⟨rfl, rfl, rfl, rfl, trivial⟩) (fin (sA E6 113 0 (cO (cRots L c k9) (L - 1))) none none (mf_sA (by decide) f6) (fun j hj => ?_) (fun j hj => b2 j hj))
            rw [gA_sA]
            show _ = (if j = 0 then cO (cRots L c k9) (L - 1) else if j < L then cO (cRots L c k9) (j - 1) else cO (cRots L c k9) j)
            by_cases hj0 : j = 0
            · rw [if_pos ⟨rfl, hj0⟩, if_pos hj0]
            · rw [if_neg (fun z => hj0 z.2), b1 j hj, if_neg (by omega), if_neg hj0, if_pos hj]
          · intro k E6 ⟨hkL, f6, b1, b2⟩ hq6
            have hM6 := mf_mo f6 hM4
            have hb : gA E6 113 k = cO (cRots L c k9) k := by rw [b1 k (by omega), if_pos (by omega)]
            refine Sx.up (fun _ kk => r_iload 164 dX12_fair_162 rfl rfl kk) ?_
            refine Sx.up (fun _ kk => r_if_le 167 189 dX12_fair_164 rfl (by decide) (fun h164 => absurd h164 (fun z => absurd (Int32.lt_of_lt_of_le (nI_lt (a := 0) (show 0 < k + 1 by omega) (by omega)) z) Int32.lt_irrefl)) (fun _ => kk)) ?_
            refine Sx.up (fun _ kk => r_aload_n 168 dX12_fair_167 rfl rfl kk) ?_
            refine Sx.up (fun _ kk => r_getR 171 dX12_fair_168 rfl f12_90 rfl rfl lt95 (mo_34 hM6) kk) ?_
            refine Sx.up (fun _ kk => r_iload 173 dX12_fair_171 rfl rfl kk) ?_
            refine Sx.up (fun _ kk => r_aload_n 174 dX12_fair_173 rfl rfl kk) ?_
            refine Sx.up (fun _ kk => r_getR 177 dX12_fair_174 rfl f12_90 rfl rfl lt95 (mo_34 hM6) kk) ?_
            refine Sx.up (fun _ kk => r_iload 179 dX12_fair_177 rfl rfl kk) ?_
            refine Sx.up (fun _ kk => r_iconst (1) 180 dX12_fair_179 rfl (by decide) kk) ?_
            refine Sx.up (fun _ kk => r_isub 181 dX12_fair_180 rfl kk) ?_
            refine Sx.up (fun _ kk => r_ialdN (k) (_) 182 dX12_fair_181 rfl rfl (Nat.le_of_ble_eq_true rfl) (nI_pred _) (by omega) (Nat.le_of_ble_eq_true rfl) (hb) kk) ?_
            refine Sx.up (fun _ kk => r_iastN (k + 1) 183 dX12_fair_182 rfl rfl (Nat.le_of_ble_eq_true rfl) (rfl) (by omega) (Nat.le_of_ble_eq_true rfl) kk) ?_
            refine Sx.up (fun _ kk => r_iinc (m1) 186 dX12_fair_183 rfl rfl (m1_of) (by decide) rfl kk) ?_
            refine Sx.up (fun _ kk => r_goto 162 dX12_fair_186 (by decide) kk) ?_
            rw [nI_p1]
            refine hq6 _ ⟨by omega, mf_sA (by decide) f6, fun j hj => ?_, b2⟩
            rw [gA_sA]
            by_cases hjk : j = k + 1
            · rw [if_pos ⟨rfl, hjk⟩, if_neg (by omega), hjk]; rfl
            · rw [if_neg (fun z => hjk z.2), b1 j hj]
              by_cases h9 : j ≤ k
              · rw [if_pos (by omega), if_pos h9]
              · rw [if_neg (by omega), if_neg h9]
      have sums := sxUp (S := fun k E5 => Sx mX12_fair (d + 8) 0 0 (fun o => ∃ E2, o = (.inl (some (.int ((apaM (canS2 sl) (faM L m sl aw R c fr n) L).1 - (apaM (canS2 sl) (faM L m sl aw R c fr n) L).2))), E2, 137) ∧ AQ E E2 0) 98 [some (.ref 95), some (.int (nI n)), some (.int (-1)), some (.int (nI k9)), some (.int (nI k)), none] [] E5 137) (Inv := fun k E5 => MF [] [113, 126] E4 E5 ∧ (∀ j, j < L → gA E5 113 j = cO (cRots L c k9) j) ∧ (∀ j, j < L → gA E5 126 j = if j < k then (faM L m sl aw R c fr (k9 + 1)) j else (faM L m sl aw R c fr k9) j)) (a := 0) (l := L) (by omega) ?_ ?_ E4 ⟨mf_rfl, fun j hj => by rw [mf_gA f4 (by decide)]; exact j2 j hj, fun j hj => by rw [if_neg (Nat.not_lt_zero j), mf_gA f4 (by decide)]; exact j8 j hj⟩
      refine Sx.up (fun _ kk => r_iload_n 77 dX12_fair_76 rfl rfl kk) ?_
      refine Sx.up (fun _ kk => r_iload_n 78 dX12_fair_77 rfl rfl kk) ?_
      refine Sx.up (fun _ kk => r_icmp_ge 81 210 dX12_fair_78 rfl (by decide) (fun h78 => absurd h78 (nI_ge hk9 (by omega))) (fun _ => kk)) ?_
      refine Sx.up (fun _ kk => r_aload_n 82 dX12_fair_81 rfl rfl kk) ?_
      refine Sx.up (fun _ kk => r_aload_n 83 dX12_fair_82 rfl rfl kk) ?_
      refine Sx.up (fun _ kk => r_getIV (vS (vMk L sl aw R (cRots L c k9) fr) 4) 86 dX12_fair_83 rfl f12_315 rfl rfl lt95 (hF2) kk) ?_
      refine Sx.up (fun _ kk => r_aload_n 87 dX12_fair_86 rfl rfl kk) ?_
      refine Sx.up (fun _ kk => r_getR 90 dX12_fair_87 rfl f12_38 rfl rfl lt95 (mo_3 hM2) kk) ?_
      refine Sx.up (fun _ kk => r_iconst (3) 91 dX12_fair_90 rfl (by decide) kk) ?_
      refine Sx.up (fun _ kk => r_ialdN (3) (nI m) 92 dX12_fair_91 rfl rfl (Nat.le_of_ble_eq_true rfl) (by decide) (Nat.le_of_ble_eq_true rfl) (Nat.le_of_ble_eq_true rfl) (hm2) kk) ?_
      refine Sx.up (fun _ kk => r_callV (M := mX12_fair) (pc := 92) 95 dX12_fair_92 rfl k12_416 hgo rfl rfl rfl (by decide) rfl lt95 (Nat.le_of_ble_eq_true rfl) kk) ?_
      refine Sx.up (fun _ kk => r_iconst (0) 96 dX12_fair_95 rfl (by decide) kk) ?_
      refine Sx.up (fun _ kk => r_istore 98 dX12_fair_96 rfl (by decide) rfl kk) ?_
      exact Sx.less (by exact ⟨rfl, rfl, rfl, rfl, rfl, trivial⟩) sums
      · intro E5 ⟨f5, r1, r2⟩
        have hM5 := mf_mo f5 hM4
        have m5 : gI E5 1581 95 = nI L := (mf_gI f5 (by decide)).trans ((i4 _ (by decide)).trans j1)
        refine Sx.up (fun _ kk => r_iload 100 dX12_fair_98 rfl rfl kk) ?_
        refine Sx.up (fun _ kk => r_aload_n 101 dX12_fair_100 rfl rfl kk) ?_
        refine Sx.up (fun _ kk => r_getIV (nI L) 104 dX12_fair_101 rfl f12_341 rfl rfl lt95 (m5) kk) ?_
        refine Sx.up (fun _ kk => r_icmp_ge 107 130 dX12_fair_104 rfl (by decide) (fun _ => kk) (fun h104 => absurd (nI_le (Nat.le_refl _) (by omega)) h104)) ?_
        exact Sx.less (ls := [some (.ref 95), some (.int (nI n)), some (.int (-1)), some (.int (nI k9)), some (.int (nI L)), none]) (by exact ⟨rfl, rfl, rfl, rfl, rfl, trivial⟩) (rot E5 none f5 r1 (fun j hj => by rw [r2 j hj, if_pos hj]))
      · intro k E5 hk1 hkL ⟨f5, r1, r2⟩ hq5
        have hM5 := mf_mo f5 hM4
        have m5 : gI E5 1581 95 = nI L := (mf_gI f5 (by decide)).trans ((i4 _ (by decide)).trans j1)
        have hold : gA E5 126 k = (faM L m sl aw R c fr k9) k := by rw [r2 k hkL, if_neg (Nat.lt_irrefl k)]
        have hnew : gA E5 118 k = byS (vMk L sl aw R (cRots L c k9) fr) (nightF (vMk L sl aw R (cRots L c k9) fr) m) 3 k := by rw [mf_gA f5 (by decide)]; exact hby k hkL
        refine Sx.up (fun _ kk => r_iload 100 dX12_fair_98 rfl rfl kk) ?_
        refine Sx.up (fun _ kk => r_aload_n 101 dX12_fair_100 rfl rfl kk) ?_
        refine Sx.up (fun _ kk => r_getIV (nI L) 104 dX12_fair_101 rfl f12_341 rfl rfl lt95 (m5) kk) ?_
        refine Sx.up (fun _ kk => r_icmp_ge 107 130 dX12_fair_104 rfl (by decide) (fun h104 => absurd h104 (nI_ge hkL (by omega))) (fun _ => kk)) ?_
        refine Sx.up (fun _ kk => r_aload_n 108 dX12_fair_107 rfl rfl kk) ?_
        refine Sx.up (fun _ kk => r_getR 111 dX12_fair_108 rfl f12_129 rfl rfl lt95 (mo_59 hM5) kk) ?_
        refine Sx.up (fun _ kk => r_iload 113 dX12_fair_111 rfl rfl kk) ?_
        refine Sx.up (fun _ kk => r_dup2 114 dX12_fair_113 rfl rfl rfl kk) ?_
        refine Sx.up (fun _ kk => r_ialdN (k) (_) 115 dX12_fair_114 rfl rfl (Nat.le_of_ble_eq_true rfl) (rfl) (by omega) (Nat.le_of_ble_eq_true rfl) (hold) kk) ?_
        refine Sx.up (fun _ kk => r_aload_n 116 dX12_fair_115 rfl rfl kk) ?_
        refine Sx.up (fun _ kk => r_getR 119 dX12_fair_116 rfl f12_105 rfl rfl lt95 (mo_39 hM5) kk) ?_
        refine Sx.up (fun _ kk => r_iload 121 dX12_fair_119 rfl rfl kk) ?_
        refine Sx.up (fun _ kk => r_ialdN (k) (_) 122 dX12_fair_121 rfl rfl (Nat.le_of_ble_eq_true rfl) (rfl) (by omega) (Nat.le_of_ble_eq_true rfl) (hnew) kk) ?_
        refine Sx.up (fun _ kk => r_iadd 123 dX12_fair_122 rfl kk) ?_
        refine Sx.up (fun _ kk => r_iastN (k) 124 dX12_fair_123 rfl rfl (Nat.le_of_ble_eq_true rfl) (rfl) (by omega) (Nat.le_of_ble_eq_true rfl) kk) ?_
        refine Sx.up (fun _ kk => r_iinc (1) 127 dX12_fair_124 rfl rfl (by decide) (by decide) rfl kk) ?_
        refine Sx.up (fun _ kk => r_goto 98 dX12_fair_127 (by decide) kk) ?_
        rw [nI_pp]
        refine hq5 _ ⟨mf_sA (by decide) f5, r1, fun j hj => ?_⟩
        rw [gA_sA]
        by_cases hjk : j = k
        · rw [if_pos ⟨rfl, hjk⟩, if_pos (by omega), hjk, fam_s ⟨cok, csu⟩ hkL]
        · rw [if_neg (fun z => hjk z.2), r2 j hj]
          by_cases h9 : j < k
          · rw [if_pos h9, if_pos (by omega)]
          · rw [if_neg h9, if_neg (by omega)]
  have zer := sxUp (S := fun k E2 => Sx mX12_fair (d + 8) 0 0 (fun o => ∃ E2, o = (.inl (some (.int ((apaM (canS2 sl) (faM L m sl aw R c fr n) L).1 - (apaM (canS2 sl) (faM L m sl aw R c fr n) L).2))), E2, 137) ∧ AQ E E2 0) 55 [some (.ref 95), some (.int (nI n)), some (.int (-1)), some (.int (nI k)), none, none] [] E2 137) (Inv := fun k E2 => MF [] [126] E1 E2 ∧ ∀ j, j < k → gA E2 126 j = 0) (a := 0) (l := 7) (by omega) ?_ ?_ E1 ⟨mf_rfl, fun j hj => absurd hj (Nat.not_lt_zero j)⟩
  refine Sx.up (fun _ kk => r_aload_n 1 dX12_fair_0 rfl rfl kk) ?_
  refine Sx.up (fun _ kk => r_iconst (0) 2 dX12_fair_1 rfl (by decide) kk) ?_
  refine Sx.up (fun _ kk => r_putI 5 dX12_fair_2 rfl f12_159 rfl lt95 kk) ?_
  refine Sx.up (fun _ kk => r_iload_n 6 dX12_fair_5 rfl rfl kk) ?_
  refine Sx.up (fun _ kk => r_i2l 7 dX12_fair_6 rfl kk) ?_
  refine Sx.up (fun _ kk => r_ldc2 (-1) 10 dX12_fair_7 rfl c12_481 kk) ?_
  refine Sx.up (fun _ kk => r_aload_n 11 dX12_fair_10 rfl rfl kk) ?_
  refine Sx.up (fun _ kk => r_getR 14 dX12_fair_11 rfl f12_38 rfl rfl lt95 (mo_3 hM0) kk) ?_
  refine Sx.up (fun _ kk => r_iconst (0) 15 dX12_fair_14 rfl (by decide) kk) ?_
  refine Sx.up (fun _ kk => r_ialdN (0) (nI L) 16 dX12_fair_15 rfl rfl (Nat.le_of_ble_eq_true rfl) (by decide) (Nat.le_of_ble_eq_true rfl) (Nat.le_of_ble_eq_true rfl) (hL0) kk) ?_
  refine Sx.up (fun _ kk => r_iconst (1) 17 dX12_fair_16 rfl (by decide) kk) ?_
  refine Sx.up (fun _ kk => r_isub 18 dX12_fair_17 rfl kk) ?_
  refine Sx.up (fun _ kk => r_i2l 19 dX12_fair_18 rfl kk) ?_
  refine Sx.up (fun _ kk => r_callS (M := mX12_fair) (pc := 19) 22 dX12_fair_19 rfl k12_162 hin rfl rfl (Nat.le_of_ble_eq_true rfl) kk) ?_
  refine Sx.up (fun _ kk => r_if_ne 25 31 dX12_fair_22 rfl (by decide) (fun _ => kk) (fun h22 => absurd h22 (by decide))) ?_
  refine Sx.up (fun _ kk => r_iload_n 32 dX12_fair_31 rfl rfl kk) ?_
  refine Sx.up (fun _ kk => r_i2l 33 dX12_fair_32 rfl kk) ?_
  refine Sx.up (fun _ kk => r_lconst 0 34 dX12_fair_33 rfl (by decide) kk) ?_
  refine Sx.up (fun _ kk => r_ldc2 30 37 dX12_fair_34 rfl c12_483 kk) ?_
  refine Sx.up (fun _ kk => r_callS (M := mX12_fair) (pc := 37) 40 dX12_fair_37 rfl k12_162 hi2 rfl rfl (Nat.le_of_ble_eq_true rfl) kk) ?_
  refine Sx.up (fun _ kk => r_if_ne 43 49 dX12_fair_40 rfl (by decide) (fun _ => kk) (fun h40 => absurd h40 (by decide))) ?_
  refine Sx.up (fun _ kk => r_aload_n 50 dX12_fair_49 rfl rfl kk) ?_
  refine Sx.up (fun _ kk => r_callV (M := mX12_fair) (pc := 50) 53 dX12_fair_50 rfl k12_413 hse rfl rfl rfl (by decide) rfl lt95 (Nat.le_of_ble_eq_true rfl) kk) ?_
  refine Sx.up (fun _ kk => r_iconst (0) 54 dX12_fair_53 rfl (by decide) kk) ?_
  refine Sx.up (fun _ kk => r_istore_n 55 dX12_fair_54 rfl (by decide) rfl kk) ?_
  exact zer
  · intro E2 ⟨f2, b1⟩
    refine Sx.up (fun _ kk => r_iload_n 56 dX12_fair_55 rfl rfl kk) ?_
    refine Sx.up (fun _ kk => r_bipush (7) 58 dX12_fair_56 rfl (by decide) kk) ?_
    refine Sx.up (fun _ kk => r_icmp_ge 61 74 dX12_fair_58 rfl (by decide) (fun _ => kk) (fun h58 => absurd (by decide) h58)) ?_
    refine Sx.up (fun _ kk => r_iconst (0) 75 dX12_fair_74 rfl (by decide) kk) ?_
    refine Sx.up (fun _ kk => r_istore_n 76 dX12_fair_75 rfl (by decide) rfl kk) ?_
    exact loop E2 none none ⟨mf_tr (mf_mono f1 (by decide) (by decide)) (mf_mono f2 (by decide) (by decide)), (mf_gI f2 (by decide)).trans hv1.1, fun i hi => by rw [mf_gA f2 (by decide)]; exact (hr1 i hi).1, fun i hi => by rw [mf_gA f2 (by decide)]; exact (hr1 i hi).2, (mf_gI f2 (by decide)).trans s1, (mf_gI f2 (by decide)).trans s2, (mf_gI f2 (by decide)).trans hv1.2.2.2.2.2.2.2.2.1, (mf_gI f2 (by decide)).trans hv1.2.2.2.2.2.2.2.2.2.1, fun s hs => b1 s (by omega)⟩
  · intro k E2 hk0 hk7 ⟨f2, b1⟩ hq
    have hM2 := mf_mo f2 hM1
    refine Sx.up (fun _ kk => r_iload_n 56 dX12_fair_55 rfl rfl kk) ?_
    refine Sx.up (fun _ kk => r_bipush (7) 58 dX12_fair_56 rfl (by decide) kk) ?_
    refine Sx.up (fun _ kk => r_icmp_ge 61 74 dX12_fair_58 rfl (by decide) (fun h58 => absurd h58 (nI_ge (b := 7) hk7 (by omega))) (fun _ => kk)) ?_
    refine Sx.up (fun _ kk => r_aload_n 62 dX12_fair_61 rfl rfl kk) ?_
    refine Sx.up (fun _ kk => r_getR 65 dX12_fair_62 rfl f12_129 rfl rfl lt95 (mo_59 hM2) kk) ?_
    refine Sx.up (fun _ kk => r_iload_n 66 dX12_fair_65 rfl rfl kk) ?_
    refine Sx.up (fun _ kk => r_iconst (0) 67 dX12_fair_66 rfl (by decide) kk) ?_
    refine Sx.up (fun _ kk => r_iastN (k) 68 dX12_fair_67 rfl rfl (Nat.le_of_ble_eq_true rfl) (rfl) (by omega) (Nat.le_of_ble_eq_true rfl) kk) ?_
    refine Sx.up (fun _ kk => r_iinc (1) 71 dX12_fair_68 rfl rfl (by decide) (by decide) rfl kk) ?_
    refine Sx.up (fun _ kk => r_goto 55 dX12_fair_71 (by decide) kk) ?_
    rw [nI_pp]
    refine hq _ ⟨mf_sA (by decide) f2, fun j hj => ?_⟩
    rw [gA_sA]
    by_cases hjk : j = k
    · rw [if_pos ⟨rfl, hjk⟩]
    · rw [if_neg (fun z => hjk z.2)]; exact b1 j (by omega)
set_option maxRecDepth 20000 in
theorem m_fair1 {d L m : Nat} {sl : Nat → Nat → Int32} {aw : Int32} {R : List Int32} {c : Cfg} {fr : Int32} {E : HP} {x y : Int32} (h : MD E L m sl aw R c fr) (h1 : ¬ y = -1) (hy : ¬ inB y (nI L)) : ∃ E2, AQ E E2 1 ∧ Cl yX12_fair mX12_fair (d + 8) 0 0 [.ref 95, .int (x), .int (y)] E 137 (.inl (some (.int 0)), E2, 137) := by
  obtain ⟨hM, hL, ⟨cok, csu⟩, hoc, h62, h63, h64, h65, hsy, hsl, ⟨m1, m6, hm⟩, -⟩ := id h
  have l7 : L ≤ 7 := cok.2.1
  have hM0 : MoOK (sI E 1538 95 0) := hM
  have hL0 : gA (sI E 1538 95 0) 98 0 = nI L := hL
  have hin := c_isIn (d := d + 7) (E := sI E 1538 95 0) (x := (y).toInt64) (a := -1) (b := (nI L - 1).toInt64)
  rw [bI_f (fun z => hy (in_m1 l7 h1 (of_decide_eq_true z)))] at hin
  refine ⟨_, mq_fail (x := 0), ?_⟩
  refine Cl.of (by decide) rfl (fun q => by cases q) rfl rfl (Nat.le_of_ble_eq_true rfl) ?_
  show Sm _ _ _ _ _ 0 [some (.ref 95), some (.int (x)), some (.int (y)), none, none, none] [] _ _
  refine r_aload_n 1 dX12_fair_0 rfl rfl ?_
  refine r_iconst (0) 2 dX12_fair_1 rfl (by decide) ?_
  refine r_putI 5 dX12_fair_2 rfl f12_159 rfl lt95 ?_
  refine r_iload_n 6 dX12_fair_5 rfl rfl ?_
  refine r_i2l 7 dX12_fair_6 rfl ?_
  refine r_ldc2 (-1) 10 dX12_fair_7 rfl c12_481 ?_
  refine r_aload_n 11 dX12_fair_10 rfl rfl ?_
  refine r_getR 14 dX12_fair_11 rfl f12_38 rfl rfl lt95 (mo_3 hM0) ?_
  refine r_iconst (0) 15 dX12_fair_14 rfl (by decide) ?_
  refine r_ialdN (0) (nI L) 16 dX12_fair_15 rfl rfl (Nat.le_of_ble_eq_true rfl) (by decide) (Nat.le_of_ble_eq_true rfl) (Nat.le_of_ble_eq_true rfl) (hL0) ?_
  refine r_iconst (1) 17 dX12_fair_16 rfl (by decide) ?_
  refine r_isub 18 dX12_fair_17 rfl ?_
  refine r_i2l 19 dX12_fair_18 rfl ?_
  refine r_callS (M := mX12_fair) (pc := 19) 22 dX12_fair_19 rfl k12_162 hin rfl rfl (Nat.le_of_ble_eq_true rfl) ?_
  refine r_if_ne 25 31 dX12_fair_22 rfl (by decide) (fun h22 => absurd h22 (fun z => z rfl)) (fun h22 => ?_)
  refine r_aload_n 26 dX12_fair_25 rfl rfl ?_
  refine r_iconst (1) 27 dX12_fair_26 rfl (by decide) ?_
  refine r_callV (M := mX12_fair) (pc := 27) 30 dX12_fair_27 rfl k12_302 c_fail rfl rfl rfl (by decide) rfl lt95 (Nat.le_of_ble_eq_true rfl) ?_
  exact r_iret dX12_fair_30 rfl rfl (rfl)
set_option maxRecDepth 20000 in
theorem m_fair2 {d L m s : Nat} {sl : Nat → Nat → Int32} {aw : Int32} {R : List Int32} {c : Cfg} {fr : Int32} {E : HP} {x : Int32} (h : MD E L m sl aw R c fr) (hs : s < L) (hx : ¬ inC x 30) : ∃ E2, AQ E E2 2 ∧ Cl yX12_fair mX12_fair (d + 8) 0 0 [.ref 95, .int (x), .int (nI s)] E 137 (.inl (some (.int 0)), E2, 137) := by
  obtain ⟨hM, hL, ⟨cok, csu⟩, hoc, h62, h63, h64, h65, hsy, hsl, ⟨m1, m6, hm⟩, -⟩ := id h
  have l7 : L ≤ 7 := cok.2.1
  have hM0 : MoOK (sI E 1538 95 0) := hM
  have hL0 : gA (sI E 1538 95 0) 98 0 = nI L := hL
  have hin := c_isIn (d := d + 7) (E := sI E 1538 95 0) (x := (nI s).toInt64) (a := -1) (b := (nI L - 1).toInt64)
  rw [bI_t (decide_eq_true ⟨by rw [show (-1 : Int64) = (-1 : Int32).toInt64 by decide, Int32.toInt64_le]; exact Int32.le_of_lt (Int32.lt_of_lt_of_le (show (-1 : Int32) < 0 by decide) (Int32.not_lt.mp (nI_pos (by omega)))), by rw [Int32.toInt64_le]; rw [show nI L - 1 = nI (L - 1) by rw [show L = L - 1 + 1 by omega, nI_pred]; rfl]; exact nI_le (by omega) (by omega)⟩)] at hin
  have hi2 := c_isInC (d := d + 7) (E := sI E 1538 95 0) (x := x) (y := 30) (z := 30) (z0 := 0) (by decide) (by decide)
  rw [b01_f hx] at hi2
  refine ⟨_, mq_fail (x := 0), ?_⟩
  refine Cl.of (by decide) rfl (fun q => by cases q) rfl rfl (Nat.le_of_ble_eq_true rfl) ?_
  show Sm _ _ _ _ _ 0 [some (.ref 95), some (.int (x)), some (.int (nI s)), none, none, none] [] _ _
  refine r_aload_n 1 dX12_fair_0 rfl rfl ?_
  refine r_iconst (0) 2 dX12_fair_1 rfl (by decide) ?_
  refine r_putI 5 dX12_fair_2 rfl f12_159 rfl lt95 ?_
  refine r_iload_n 6 dX12_fair_5 rfl rfl ?_
  refine r_i2l 7 dX12_fair_6 rfl ?_
  refine r_ldc2 (-1) 10 dX12_fair_7 rfl c12_481 ?_
  refine r_aload_n 11 dX12_fair_10 rfl rfl ?_
  refine r_getR 14 dX12_fair_11 rfl f12_38 rfl rfl lt95 (mo_3 hM0) ?_
  refine r_iconst (0) 15 dX12_fair_14 rfl (by decide) ?_
  refine r_ialdN (0) (nI L) 16 dX12_fair_15 rfl rfl (Nat.le_of_ble_eq_true rfl) (by decide) (Nat.le_of_ble_eq_true rfl) (Nat.le_of_ble_eq_true rfl) (hL0) ?_
  refine r_iconst (1) 17 dX12_fair_16 rfl (by decide) ?_
  refine r_isub 18 dX12_fair_17 rfl ?_
  refine r_i2l 19 dX12_fair_18 rfl ?_
  refine r_callS (M := mX12_fair) (pc := 19) 22 dX12_fair_19 rfl k12_162 hin rfl rfl (Nat.le_of_ble_eq_true rfl) ?_
  refine r_if_ne 25 31 dX12_fair_22 rfl (by decide) (fun h22 => ?_) (fun h22 => absurd h22 (by decide))
  refine r_iload_n 32 dX12_fair_31 rfl rfl ?_
  refine r_i2l 33 dX12_fair_32 rfl ?_
  refine r_lconst 0 34 dX12_fair_33 rfl (by decide) ?_
  refine r_ldc2 30 37 dX12_fair_34 rfl c12_483 ?_
  refine r_callS (M := mX12_fair) (pc := 37) 40 dX12_fair_37 rfl k12_162 hi2 rfl rfl (Nat.le_of_ble_eq_true rfl) ?_
  refine r_if_ne 43 49 dX12_fair_40 rfl (by decide) (fun h40 => absurd h40 (fun z => z rfl)) (fun h40 => ?_)
  refine r_aload_n 44 dX12_fair_43 rfl rfl ?_
  refine r_iconst (2) 45 dX12_fair_44 rfl (by decide) ?_
  refine r_callV (M := mX12_fair) (pc := 45) 48 dX12_fair_45 rfl k12_302 c_fail rfl rfl rfl (by decide) rfl lt95 (Nat.le_of_ble_eq_true rfl) ?_
  exact r_iret dX12_fair_48 rfl rfl (rfl)
set_option maxRecDepth 20000 in
theorem m_fair3 {d L m : Nat} {sl : Nat → Nat → Int32} {aw : Int32} {R : List Int32} {c : Cfg} {fr : Int32} {E : HP} {x : Int32} (h : MD E L m sl aw R c fr) (hx : ¬ inC x 30) : ∃ E2, AQ E E2 2 ∧ Cl yX12_fair mX12_fair (d + 8) 0 0 [.ref 95, .int (x), .int (-1)] E 137 (.inl (some (.int 0)), E2, 137) := by
  obtain ⟨hM, hL, ⟨cok, csu⟩, hoc, h62, h63, h64, h65, hsy, hsl, ⟨m1, m6, hm⟩, -⟩ := id h
  have l7 : L ≤ 7 := cok.2.1
  have hM0 : MoOK (sI E 1538 95 0) := hM
  have hL0 : gA (sI E 1538 95 0) 98 0 = nI L := hL
  have hin := c_isIn (d := d + 7) (E := sI E 1538 95 0) (x := ((-1 : Int32)).toInt64) (a := -1) (b := (nI L - 1).toInt64)
  have hdn : (-1 : Int32) ≤ nI L - 1 := by
    rcases Nat.eq_zero_or_pos L with z | z
    · rw [z]; decide
    · rw [show nI L - 1 = nI (L - 1) by rw [show L = L - 1 + 1 by omega, nI_pred]; rfl]; exact Int32.le_of_lt (Int32.lt_of_lt_of_le (show (-1 : Int32) < 0 by decide) (Int32.not_lt.mp (nI_pos (by omega))))
  rw [bI_t (decide_eq_true ⟨by decide, by rw [Int32.toInt64_le]; exact hdn⟩)] at hin
  have hi2 := c_isInC (d := d + 7) (E := sI E 1538 95 0) (x := x) (y := 30) (z := 30) (z0 := 0) (by decide) (by decide)
  rw [b01_f hx] at hi2
  refine ⟨_, mq_fail (x := 0), ?_⟩
  refine Cl.of (by decide) rfl (fun q => by cases q) rfl rfl (Nat.le_of_ble_eq_true rfl) ?_
  show Sm _ _ _ _ _ 0 [some (.ref 95), some (.int (x)), some (.int (-1)), none, none, none] [] _ _
  refine r_aload_n 1 dX12_fair_0 rfl rfl ?_
  refine r_iconst (0) 2 dX12_fair_1 rfl (by decide) ?_
  refine r_putI 5 dX12_fair_2 rfl f12_159 rfl lt95 ?_
  refine r_iload_n 6 dX12_fair_5 rfl rfl ?_
  refine r_i2l 7 dX12_fair_6 rfl ?_
  refine r_ldc2 (-1) 10 dX12_fair_7 rfl c12_481 ?_
  refine r_aload_n 11 dX12_fair_10 rfl rfl ?_
  refine r_getR 14 dX12_fair_11 rfl f12_38 rfl rfl lt95 (mo_3 hM0) ?_
  refine r_iconst (0) 15 dX12_fair_14 rfl (by decide) ?_
  refine r_ialdN (0) (nI L) 16 dX12_fair_15 rfl rfl (Nat.le_of_ble_eq_true rfl) (by decide) (Nat.le_of_ble_eq_true rfl) (Nat.le_of_ble_eq_true rfl) (hL0) ?_
  refine r_iconst (1) 17 dX12_fair_16 rfl (by decide) ?_
  refine r_isub 18 dX12_fair_17 rfl ?_
  refine r_i2l 19 dX12_fair_18 rfl ?_
  refine r_callS (M := mX12_fair) (pc := 19) 22 dX12_fair_19 rfl k12_162 hin rfl rfl (Nat.le_of_ble_eq_true rfl) ?_
  refine r_if_ne 25 31 dX12_fair_22 rfl (by decide) (fun h22 => ?_) (fun h22 => absurd h22 (by decide))
  refine r_iload_n 32 dX12_fair_31 rfl rfl ?_
  refine r_i2l 33 dX12_fair_32 rfl ?_
  refine r_lconst 0 34 dX12_fair_33 rfl (by decide) ?_
  refine r_ldc2 30 37 dX12_fair_34 rfl c12_483 ?_
  refine r_callS (M := mX12_fair) (pc := 37) 40 dX12_fair_37 rfl k12_162 hi2 rfl rfl (Nat.le_of_ble_eq_true rfl) ?_
  refine r_if_ne 43 49 dX12_fair_40 rfl (by decide) (fun h40 => absurd h40 (fun z => z rfl)) (fun h40 => ?_)
  refine r_aload_n 44 dX12_fair_43 rfl rfl ?_
  refine r_iconst (2) 45 dX12_fair_44 rfl (by decide) ?_
  refine r_callV (M := mX12_fair) (pc := 45) 48 dX12_fair_45 rfl k12_302 c_fail rfl rfl rfl (by decide) rfl lt95 (Nat.le_of_ble_eq_true rfl) ?_
  exact r_iret dX12_fair_48 rfl rfl (rfl)
