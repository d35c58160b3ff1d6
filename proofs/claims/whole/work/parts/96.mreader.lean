/-! The model's reader: small methods -/
/-- what is told so far, in the model's second halves -/
def BdM (E : HP) (B : BD) : Prop := gA E 98 8 = nI (bC B) ∧ bC B ≤ 7 ∧ (∀ s, s < bC B → gA E 99 (7 + s) = bL B 1 s ∧ gA E 100 (2 * (7 + s)) = bL B 2 s ∧ gA E 100 (2 * (7 + s) + 1) = bL B 3 s ∧ gA E 101 (7 + s) = bL B 4 s ∧ gA E 102 (7 + s) = bL B 5 s ∧ gA E 103 (7 + s) = bL B 6 s ∧ gA E 104 (7 + s) = bL B 7 s ∧ gA E 105 (7 + s) = bE B s) ∧ (∀ s, bC B ≤ s → s < 7 → bE B s = 0) ∧ (∀ i, i < 5 → gA E 98 (9 + i) = bX B i) ∧ gA E 98 14 = nI (bN B) ∧ bN B ≤ 6 ∧ gA E 98 15 = nI (bR B).length ∧ (bR B).length ≤ 600 ∧ ∀ i, i < (bR B).length → gA E 106 (600 + i) = mS ((bR B).getD i 0)
def MSt (E : HP) (T : TX) : PS → Prop
  | .inl (k, p) => gI E 1557 95 = nI k ∧ 1 ≤ k ∧ k ≤ 5 ∧ gI E 1558 95 = nI p
  | .inr (a, B) => gI E 1557 95 = 0 ∧ a ≤ T.2 ∧ TmA E T a ∧ BdM E B
abbrev gsP : List Nat := [1551, 1553, 1554, 1555, 1556, 1557, 1558]
abbrev asP : List Nat := [98, 99, 100, 101, 102, 103, 104, 105, 106]
def halfL : List (Nat × Nat) := [(98, 8), (99, 7), (100, 14), (101, 7), (102, 7), (103, 7), (104, 7), (105, 7), (106, 600)]
/-- the first halves stand fast -/
def HF (E0 E : HP) : Prop := MF gsP asP E0 E ∧ ∀ q ∈ halfL, ∀ i, i < q.2 → gA E q.1 i = gA E0 q.1 i
def CMd (E0 E : HP) (T : TX) (s : PS) : Prop := (TXok T ∧ TmF E T ∧ HF E0 E) ∧ MSt E T s
theorem md_T {E0 E : HP} {T : TX} {s : PS} (h : CMd E0 E T s) : TXok T := h.1.1
theorem md_F {E0 E : HP} {T : TX} {s : PS} (h : CMd E0 E T s) : TmF E T := h.1.2.1
theorem md_M {E0 E : HP} {T : TX} {s : PS} (h : CMd E0 E T s) : MoOK E := h.1.2.1.1
theorem hf_mf {E0 E E2 : HP} {gs : List Nat} (h : HF E0 E) (f : MF gs [] E E2) (hg : ∀ g ∈ gs, g ∈ gsP) : HF E0 E2 := by
  have e : ∀ a, gA E2 a = gA E a := fun a => f.2.2.1 a List.not_mem_nil
  refine ⟨⟨fun g k q => (f.1 g k (fun z => q ⟨z.1, hg g z.2⟩)).trans (h.1.1 g k q), f.2.1.trans h.1.2.1, fun a q => (e a).trans (h.1.2.2.1 a q), f.2.2.2.trans h.1.2.2.2⟩, fun q hq i hi => ?_⟩
  rw [e]
  exact h.2 q hq i hi
theorem half_ck : ∀ p ∈ halfL, ∀ q ∈ halfL, q.1 ∈ asP ∧ (q.1 = p.1 → q.2 = p.2) := by decide
/-- a second half written -/
theorem hf_sA {E0 E : HP} {a i m : Nat} {v : Int32} (h : HF E0 E) (ha : (a, m) ∈ halfL) (hi : m ≤ i) : HF E0 (sA E a i v) := by
  refine ⟨mf_sA (half_ck (a, m) ha (a, m) ha).1 h.1, fun q hq j hj => ?_⟩
  rw [gA_sA, if_neg (fun z => by have := (half_ck (a, m) ha q hq).2 z.1; have e : q.2 = m := this; omega)]
  exact h.2 q hq j hj
theorem bdm_mf {E E2 : HP} {B : BD} {gs as : List Nat} (f : MF gs as E E2) (ha : ∀ a ∈ asP, a ∉ as) (o : BdM E B) : BdM E2 B := by
  unfold BdM at *
  rw [mf_gA f (ha 98 (by decide)), mf_gA f (ha 99 (by decide)), mf_gA f (ha 100 (by decide)), mf_gA f (ha 101 (by decide)), mf_gA f (ha 102 (by decide)), mf_gA f (ha 103 (by decide)), mf_gA f (ha 104 (by decide)), mf_gA f (ha 105 (by decide)), mf_gA f (ha 106 (by decide))]
  exact o
def lwS (s : PS) : Prop := ∃ q, s = .inr q
theorem md_lv {E0 E : HP} {T : TX} {s : PS} (h : CMd E0 E T s) (z : gI E 1557 95 = 0) : lwS s := by
  cases s with
  | inl x => exact absurd z (by rw [h.2.1]; exact nI_ne0 (by have := h.2.2.1; omega) (by have := h.2.2.2.1; omega))
  | inr q => exact ⟨q, rfl⟩
theorem md_dd {E0 E : HP} {T : TX} {s : PS} (h : CMd E0 E T s) (z : ¬ gI E 1557 95 = 0) : ∃ x, s = .inl x := by
  cases s with
  | inl x => exact ⟨x, rfl⟩
  | inr q => exact absurd h.2.1 z
theorem md_0b {E0 E : HP} {T : TX} {s : PS} (h : CMd E0 E T s) (hl : lwS s) : gI E 1557 95 = 0 := by
  obtain ⟨q, rfl⟩ := hl
  exact h.2.1
theorem md_1b {E0 E : HP} {T : TX} {x : Nat × Nat} (h : CMd E0 E T (.inl x)) : ¬ gI E 1557 95 = 0 := fun z => by
  obtain ⟨q, e⟩ := md_lv h z
  cases e
theorem md_k {E0 E : HP} {T : TX} {a : Nat} {B : BD} (h : CMd E0 E T (.inr (a, B))) {k : Nat} (hk : k ≤ 3) : gI E 1553 95 = nI k ↔ kdT T a = k := by
  have g3 := h.2.2.2.1.2.2.2.1
  have kl := kd_le T a
  rw [g3, nI_eq (by unfold tkM; split <;> omega) (by omega)]
  unfold tkM
  split <;> omega
/-- a number taken, but not stepped on -/
def nuS (T : TX) (lo hi : Nat) (s : PS) : PS := if kiS T 2 s = true then (if nwS T lo hi s = true then s else fltS 2 s) else fltS 1 s
theorem adv_nu {T : TX} {lo hi : Nat} (s : PS) : advS T (nuS T lo hi s) = tkS T lo hi s := by
  unfold nuS tkS
  by_cases h1 : kiS T 2 s = true
  · rw [if_pos h1, if_pos h1]
    by_cases h2 : nwS T lo hi s = true
    · rw [if_pos h2, if_pos h2]
    · rw [if_neg h2, if_neg h2, adv_flt]
  · rw [if_neg h1, if_neg h1, adv_flt]
/-- a SLEEPER taken, but not stepped on -/
def snS (T : TX) (s : PS) : PS := match tkS T 0 9999 (unS T s) with
  | .inl x => .inl x
  | .inr _ => s
theorem adv_sn {T : TX} (s : PS) : advS T (snS T s) = tkS T 0 9999 (unS T s) := by
  unfold snS
  cases h : tkS T 0 9999 (unS T s) with
  | inl x => rfl
  | inr q =>
    obtain ⟨a0, e0, e1, -⟩ := tk_live (a := q.1) (B := q.2) h
    obtain ⟨e2, -⟩ := un_live e0
    rw [e2]
    show Sum.inr (nxT T a0, q.2) = _
    rw [← e1]
set_option maxRecDepth 20000 in
theorem md_advM {d : Nat} {E0 E : HP} {T : TX} {s : PS} (y1 : CMd E0 E T s) (hl : lwS s) : ∃ o, (∃ E2, o = (.inl none, E2, 137) ∧ CMd E0 E2 T (advS T s) ∧ MF gsP [] E E2) ∧ Cl yX12_stepOn mX12_stepOn (d + 1) 0 0 [.ref 95] E 137 o := by
  obtain ⟨⟨a, B⟩, rfl⟩ := hl
  obtain ⟨c1, c2, c3, c4⟩ := id y1.2
  obtain ⟨_, ⟨E2, rfl, hm, hA⟩, hcl⟩ := c_stepOn (d := d) (md_T y1) (md_F y1) c3.1 (toE_le.2.1 c2)
  exact ⟨_, ⟨E2, rfl, ⟨⟨md_T y1, tmf_mf hm (by decide) (by decide) (md_F y1), hf_mf y1.1.2.2 hm (by decide)⟩, (mf_gI hm (by decide)).trans c1, nxT_le.2.1 c2, hA, bdm_mf hm (by decide) c4⟩, mf_mono hm (by decide) (by decide)⟩, hcl⟩
theorem md_adv {d : Nat} {E0 E : HP} {T : TX} {s : PS} (y1 : CMd E0 E T s) (hl : lwS s) : ∃ o, (∃ E2, o = (.inl none, E2, 137) ∧ CMd E0 E2 T (advS T s)) ∧ Cl yX12_stepOn mX12_stepOn (d + 1) 0 0 [.ref 95] E 137 o := by
  obtain ⟨o, ⟨E2, h1, h2, -⟩, h3⟩ := md_advM (d := d) y1 hl
  exact ⟨o, ⟨E2, h1, h2⟩, h3⟩
set_option maxRecDepth 20000 in
theorem md_wrongM {d : Nat} {E0 E : HP} {T : TX} {s : PS} {k : Int32} {k9 : Nat} (y1 : CMd E0 E T s) (hk : k = nI k9) (h1 : 1 ≤ k9) (h5 : k9 ≤ 5) : ∃ o, (∃ E2, o = (.inl none, E2, 137) ∧ CMd E0 E2 T (fltS k9 s) ∧ MF gsP [] E E2) ∧ Cl yX12_wrong mX12_wrong (d) 0 0 [.ref 95, .int k] E 137 o := by
  subst hk
  refine Cx.of (by decide) rfl (fun q => by cases q) rfl rfl (Nat.le_of_ble_eq_true rfl) ?_
  show Sx _ _ _ _ _ 0 [some (.ref 95), some (.int (nI k9))] [] _ _
  cases s with
  | inl x =>
    have hb := md_1b y1
    refine Sx.up (fun _ kk => r_aload_n 1 dX12_wrong_0 rfl rfl kk) ?_
    refine Sx.up (fun _ kk => r_getI 4 dX12_wrong_1 rfl f12_208 rfl rfl lt95 kk) ?_
    refine Sx.up (fun _ kk => r_if_eq 7 8 dX12_wrong_4 rfl (by decide) (fun h4 => absurd h4 hb) (fun _ => kk)) ?_
    refine ⟨_, ?_, r_vret dX12_wrong_7 rfl rfl rfl⟩
    exact ⟨_, rfl, y1, mf_rfl⟩
  | inr x =>
    obtain ⟨a, B⟩ := x
    obtain ⟨c1, c2, c3, c4⟩ := id y1.2
    have hm : MF [1557, 1558] [] E (sI (sI E 1557 95 (nI k9)) 1558 95 (nI a)) := mf_sI (by decide) (mf_sI (by decide) mf_rfl)
    refine Sx.up (fun _ kk => r_aload_n 1 dX12_wrong_0 rfl rfl kk) ?_
    refine Sx.up (fun _ kk => r_getIV (0) 4 dX12_wrong_1 rfl f12_208 rfl rfl lt95 (c1) kk) ?_
    refine Sx.up (fun _ kk => r_if_eq 7 8 dX12_wrong_4 rfl (by decide) (fun _ => kk) (fun h4 => absurd rfl h4)) ?_
    refine Sx.up (fun _ kk => r_aload_n 9 dX12_wrong_8 rfl rfl kk) ?_
    refine Sx.up (fun _ kk => r_iload_n 10 dX12_wrong_9 rfl rfl kk) ?_
    refine Sx.up (fun _ kk => r_putI 13 dX12_wrong_10 rfl f12_208 rfl lt95 kk) ?_
    refine Sx.up (fun _ kk => r_aload_n 14 dX12_wrong_13 rfl rfl kk) ?_
    refine Sx.up (fun _ kk => r_aload_n 15 dX12_wrong_14 rfl rfl kk) ?_
    refine Sx.up (fun _ kk => r_getIV (nI a) 18 dX12_wrong_15 rfl f12_179 rfl rfl lt95 (c3.2.1) kk) ?_
    refine Sx.up (fun _ kk => r_putI 21 dX12_wrong_18 rfl f12_211 rfl lt95 kk) ?_
    refine ⟨_, ?_, r_vret dX12_wrong_21 rfl rfl rfl⟩
    exact ⟨_, rfl, ⟨⟨md_T y1, tmf_mf hm (by decide) (by decide) (md_F y1), hf_mf y1.1.2.2 hm (by decide)⟩, by rw [gI_sI, if_neg (by decide), gI_sI, if_pos ⟨rfl, rfl⟩], h1, h5, by rw [gI_sI, if_pos ⟨rfl, rfl⟩]⟩, mf_mono hm (by decide) (by decide)⟩
theorem md_wrong {d : Nat} {E0 E : HP} {T : TX} {s : PS} {k : Int32} {k9 : Nat} (y1 : CMd E0 E T s) (hk : k = nI k9) (h1 : 1 ≤ k9) (h5 : k9 ≤ 5) : ∃ o, (∃ E2, o = (.inl none, E2, 137) ∧ CMd E0 E2 T (fltS k9 s)) ∧ Cl yX12_wrong mX12_wrong (d) 0 0 [.ref 95, .int k] E 137 o := by
  obtain ⟨o, ⟨E2, h1, h2, -⟩, h3⟩ := md_wrongM (d := d) y1 hk h1 h5
  exact ⟨o, ⟨E2, h1, h2⟩, h3⟩
set_option maxHeartbeats 16000000 in
set_option maxRecDepth 20000 in
theorem md_is {d i : Nat} {q : String × Nat × String × List Int32} {E0 E : HP} {T : TX} {s : PS} (y1 : CMd E0 E T s) (hq : stL[i]? = some q) : Cl yX12_is mX12_is (d + 4) 0 0 [.ref 95, .ref (1000 + i)] E 137 (.inl (some (.int (bI (wdS T q.2.2.2 s)))), E, 137) := by
  have hl9 := st_len hq
  have hsl := c_slen (d := d + 2) (n := 137) (E := E) hq
  refine Cl.of (by decide) rfl (fun q => by cases q) rfl rfl (Nat.le_of_ble_eq_true rfl) ?_
  show Sm _ _ _ _ _ 0 [some (.ref 95), some (.ref (1000 + i)), none, none] [] _ _
  cases s with
  | inl x =>
    have hb := md_1b y1
    refine r_aload_n 1 dX12_is_0 rfl rfl ?_
    refine r_getI 4 dX12_is_1 rfl f12_208 rfl rfl lt95 ?_
    refine r_if_ne 7 35 dX12_is_4 rfl (by decide) (fun h4 => ?_) (fun h4 => absurd h4 hb)
    refine r_iconst (0) 36 dX12_is_35 rfl (by decide) ?_
    refine r_istore_n 37 dX12_is_36 rfl (by decide) rfl ?_
    refine r_iconst (0) 38 dX12_is_37 rfl (by decide) ?_
    refine r_istore_n 39 dX12_is_38 rfl (by decide) rfl ?_
    refine r_iload_n 40 dX12_is_39 rfl rfl ?_
    refine r_if_eq 43 82 dX12_is_40 rfl (by decide) (fun h40 => ?_) (fun h40 => absurd rfl h40)
    refine r_iload_n 83 dX12_is_82 rfl rfl ?_
    exact r_zret dX12_is_83 rfl rfl (by decide) (rfl)
  | inr x =>
    obtain ⟨a, B⟩ := x
    obtain ⟨c1, c2, c3, c4⟩ := id y1.2
    obtain ⟨g1, g5, g6, g3, g4⟩ := id c3
    have hk1 := md_k y1 (k := 1) (by decide)
    have te := toE_le (T := T) (a := a)
    have n6 := (md_T y1).1
    have hdf : nI (toE T a) - nI a = nI (lenT T a) := nI_dif te.1
    have hle : lenT T a ≤ 600 := by unfold lenT; have := te.2.1 c2; omega
    have no : ¬ (kdT T a = 1 ∧ lenT T a = q.2.2.2.length) → ¬ isW T a q.2.2.2 = true := fun z y => z (by unfold isW at y; rw [Bool.and_eq_true, decide_eq_true_eq] at y; exact y.1)
    have go : ∀ v, (v = 0 → ¬ isW T a q.2.2.2 = true) → ∀ k, v = 0 → Sm mX12_is (d + 4) 0 0 (.inl (some (.int (bI (isW T a q.2.2.2)))), E, 137) 39 [some (.ref 95), some (.ref (1000 + i)), some (.int v), k] [] E 137 := by
      intro v hv k h0
      subst h0
      refine r_iload_n 40 dX12_is_39 rfl rfl ?_
      refine r_if_eq 43 82 dX12_is_40 rfl (by decide) (fun h40 => ?_) (fun h40 => absurd rfl h40)
      refine r_iload_n 83 dX12_is_82 rfl rfl ?_
      exact r_zret dX12_is_83 rfl rfl (by decide) (out_eq (bI_f (hv rfl)))
    by_cases hk : kdT T a = 1
    · by_cases hl : lenT T a = q.2.2.2.length
      · have loop := loopUp (P := fun k9 => (∀ j, j < k9 → T.1 (a + j) = q.2.2.2.getD j 0) → Sm mX12_is (d + 4) 0 0 (.inl (some (.int (bI (isW T a q.2.2.2)))), E, 137) 39 [some (.ref 95), some (.ref (1000 + i)), some (.int 1), some (.int (nI k9))] [] E 137) (l := q.2.2.2.length) ?_ ?_
        · refine r_aload_n 1 dX12_is_0 rfl rfl ?_
          refine r_getIV (0) 4 dX12_is_1 rfl f12_208 rfl rfl lt95 (c1) ?_
          refine r_if_ne 7 35 dX12_is_4 rfl (by decide) (fun h4 => absurd h4 (fun z => z rfl)) (fun h4 => ?_)
          refine r_aload_n 8 dX12_is_7 rfl rfl ?_
          refine r_getI 11 dX12_is_8 rfl f12_182 rfl rfl lt95 ?_
          refine r_iconst (1) 12 dX12_is_11 rfl (by decide) ?_
          refine r_icmp_ne 15 35 dX12_is_12 rfl (by decide) (fun h12 => absurd h12 (fun z => z (hk1.mpr hk))) (fun h12 => ?_)
          refine r_aload_n 16 dX12_is_15 rfl rfl ?_
          refine r_callVS (M := mX12_is) (pc := 16) 19 dX12_is_16 rfl k12_214 hsl rfl rfl hq rfl (Nat.le_of_ble_eq_true rfl) ?_
          refine r_aload_n 20 dX12_is_19 rfl rfl ?_
          refine r_getIV (nI (toE T a)) 23 dX12_is_20 rfl f12_205 rfl rfl lt95 (g6) ?_
          refine r_aload_n 24 dX12_is_23 rfl rfl ?_
          refine r_getIV (nI a) 27 dX12_is_24 rfl f12_179 rfl rfl lt95 (g5) ?_
          refine r_isub 28 dX12_is_27 rfl ?_
          rw [hdf]
          refine r_icmp_ne 31 35 dX12_is_28 rfl (by decide) (fun h28 => absurd h28 (fun z => z (by rw [hl]))) (fun h28 => ?_)
          refine r_iconst (1) 32 dX12_is_31 rfl (by decide) ?_
          refine r_goto 36 dX12_is_32 (by decide) ?_
          refine r_istore_n 37 dX12_is_36 rfl (by decide) rfl ?_
          refine r_iconst (0) 38 dX12_is_37 rfl (by decide) ?_
          refine r_istore_n 39 dX12_is_38 rfl (by decide) rfl ?_
          exact loop (fun j hj => absurd hj (Nat.not_lt_zero j))
        · intro hall
          show Sm _ _ _ _ _ 39 _ _ _ _
          refine r_iload_n 40 dX12_is_39 rfl rfl ?_
          refine r_if_eq 43 82 dX12_is_40 rfl (by decide) (fun h40 => absurd h40 (by decide)) (fun h40 => ?_)
          refine r_iload_n 44 dX12_is_43 rfl rfl ?_
          refine r_aload_n 45 dX12_is_44 rfl rfl ?_
          refine r_callVS (M := mX12_is) (pc := 45) 48 dX12_is_45 rfl k12_214 hsl rfl rfl hq rfl (Nat.le_of_ble_eq_true rfl) ?_
          refine r_icmp_ge 51 82 dX12_is_48 rfl (by decide) (fun h48 => ?_) (fun h48 => absurd (nI_le (Nat.le_refl _) (by omega)) h48)
          refine r_iload_n 83 dX12_is_82 rfl rfl ?_
          exact r_zret dX12_is_83 rfl rfl (by decide) (out_eq (bI_t (by unfold isW; rw [Bool.and_eq_true, decide_eq_true_eq, List.all_eq_true]; exact ⟨⟨hk, hl⟩, fun j hj => decide_eq_true (hall j (List.mem_range.mp hj))⟩)))
        · intro k9 hk9 hgo hall
          show Sm _ _ _ _ _ 39 _ _ _ _
          have hch := c_chr (d := d) (n := 137) (E := E) (k := k9) hq hk9
          have ht2 := te.2.1 c2
          have hT1 : gA E 108 (a + k9) = T.1 (a + k9) := (md_F y1).2.2.2 (a + k9) (by unfold lenT at hl; omega)
          have fin : ∀ x8, ¬ T.1 (a + k9) = q.2.2.2.getD k9 0 → Sm mX12_is (d + 4) 0 0 (.inl (some (.int (bI (isW T a q.2.2.2)))), E, 137) 39 [some (.ref 95), some (.ref (1000 + i)), some (.int 0), x8] [] E 137 := fun x8 z => go 0 (fun _ y => z (by unfold isW at y; rw [Bool.and_eq_true, List.all_eq_true] at y; exact of_decide_eq_true (y.2 k9 (List.mem_range.mpr hk9)))) _ rfl
          refine r_iload_n 40 dX12_is_39 rfl rfl ?_
          refine r_if_eq 43 82 dX12_is_40 rfl (by decide) (fun h40 => absurd h40 (by decide)) (fun h40 => ?_)
          refine r_iload_n 44 dX12_is_43 rfl rfl ?_
          refine r_aload_n 45 dX12_is_44 rfl rfl ?_
          refine r_callVS (M := mX12_is) (pc := 45) 48 dX12_is_45 rfl k12_214 hsl rfl rfl hq rfl (Nat.le_of_ble_eq_true rfl) ?_
          refine r_icmp_ge 51 82 dX12_is_48 rfl (by decide) (fun h48 => absurd h48 (nI_ge hk9 (by omega))) (fun h48 => ?_)
          refine r_aload_n 52 dX12_is_51 rfl rfl ?_
          refine r_iload_n 53 dX12_is_52 rfl rfl ?_
          refine r_callVS (M := mX12_is) (pc := 53) 56 dX12_is_53 rfl k12_218 hch rfl rfl hq rfl (Nat.le_of_ble_eq_true rfl) ?_
          refine r_aload_n 57 dX12_is_56 rfl rfl ?_
          refine r_getR 60 dX12_is_57 rfl f12_68 rfl rfl lt95 (mo_13 (md_M y1)) ?_
          refine r_aload_n 61 dX12_is_60 rfl rfl ?_
          refine r_getIV (nI a) 64 dX12_is_61 rfl f12_179 rfl rfl lt95 (g5) ?_
          refine r_iload_n 65 dX12_is_64 rfl rfl ?_
          refine r_iadd 66 dX12_is_65 rfl ?_
          refine r_ialdN (a + k9) (T.1 (a + k9)) 67 dX12_is_66 rfl rfl (Nat.le_of_ble_eq_true rfl) (nI_add a k9) (by unfold lenT at hl; omega) (Nat.le_of_ble_eq_true rfl) (hT1) ?_
          refine r_icmp_ne 70 74 dX12_is_67 rfl (by decide) (fun h67 => ?_) (fun h67 => ?_)
          · refine r_iconst (0) 75 dX12_is_74 rfl (by decide) ?_
            refine r_istore_n 76 dX12_is_75 rfl (by decide) rfl ?_
            refine r_iinc (1) 79 dX12_is_76 rfl rfl (by decide) (by decide) rfl ?_
            refine r_goto 39 dX12_is_79 (by decide) ?_
            first
            | exact fin _ (fun z => h67 z.symm)
            | (rw [nI_pp]; refine hgo (fun j hj => ?_); rcases Nat.lt_or_ge j k9 with z | z; exact hall j z; rw [show j = k9 by omega]; exact h67.symm)
          · refine r_iconst (1) 71 dX12_is_70 rfl (by decide) ?_
            refine r_goto 75 dX12_is_71 (by decide) ?_
            refine r_istore_n 76 dX12_is_75 rfl (by decide) rfl ?_
            refine r_iinc (1) 79 dX12_is_76 rfl rfl (by decide) (by decide) rfl ?_
            refine r_goto 39 dX12_is_79 (by decide) ?_
            first
            | exact fin _ (fun z => h67 z.symm)
            | (rw [nI_pp]; refine hgo (fun j hj => ?_); rcases Nat.lt_or_ge j k9 with z | z; exact hall j z; rw [show j = k9 by omega]; exact h67.symm)
      · refine r_aload_n 1 dX12_is_0 rfl rfl ?_
        refine r_getIV (0) 4 dX12_is_1 rfl f12_208 rfl rfl lt95 (c1) ?_
        refine r_if_ne 7 35 dX12_is_4 rfl (by decide) (fun h4 => absurd h4 (fun z => z rfl)) (fun h4 => ?_)
        refine r_aload_n 8 dX12_is_7 rfl rfl ?_
        refine r_getI 11 dX12_is_8 rfl f12_182 rfl rfl lt95 ?_
        refine r_iconst (1) 12 dX12_is_11 rfl (by decide) ?_
        refine r_icmp_ne 15 35 dX12_is_12 rfl (by decide) (fun h12 => absurd h12 (fun z => z (hk1.mpr hk))) (fun h12 => ?_)
        refine r_aload_n 16 dX12_is_15 rfl rfl ?_
        refine r_callVS (M := mX12_is) (pc := 16) 19 dX12_is_16 rfl k12_214 hsl rfl rfl hq rfl (Nat.le_of_ble_eq_true rfl) ?_
        refine r_aload_n 20 dX12_is_19 rfl rfl ?_
        refine r_getIV (nI (toE T a)) 23 dX12_is_20 rfl f12_205 rfl rfl lt95 (g6) ?_
        refine r_aload_n 24 dX12_is_23 rfl rfl ?_
        refine r_getIV (nI a) 27 dX12_is_24 rfl f12_179 rfl rfl lt95 (g5) ?_
        refine r_isub 28 dX12_is_27 rfl ?_
        rw [hdf]
        refine r_icmp_ne 31 35 dX12_is_28 rfl (by decide) (fun h28 => ?_) (fun h28 => absurd h28 (fun z => hl ((nI_eq (by omega) (by omega)).mp z).symm))
        refine r_iconst (0) 36 dX12_is_35 rfl (by decide) ?_
        refine r_istore_n 37 dX12_is_36 rfl (by decide) rfl ?_
        refine r_iconst (0) 38 dX12_is_37 rfl (by decide) ?_
        refine r_istore_n 39 dX12_is_38 rfl (by decide) rfl ?_
        exact go 0 (fun _ => no (fun z => hl z.2)) _ rfl
    · refine r_aload_n 1 dX12_is_0 rfl rfl ?_
      refine r_getIV (0) 4 dX12_is_1 rfl f12_208 rfl rfl lt95 (c1) ?_
      refine r_if_ne 7 35 dX12_is_4 rfl (by decide) (fun h4 => absurd h4 (fun z => z rfl)) (fun h4 => ?_)
      refine r_aload_n 8 dX12_is_7 rfl rfl ?_
      refine r_getI 11 dX12_is_8 rfl f12_182 rfl rfl lt95 ?_
      refine r_iconst (1) 12 dX12_is_11 rfl (by decide) ?_
      refine r_icmp_ne 15 35 dX12_is_12 rfl (by decide) (fun h12 => ?_) (fun h12 => absurd h12 (fun z => hk (hk1.mp z)))
      refine r_iconst (0) 36 dX12_is_35 rfl (by decide) ?_
      refine r_istore_n 37 dX12_is_36 rfl (by decide) rfl ?_
      refine r_iconst (0) 38 dX12_is_37 rfl (by decide) ?_
      refine r_istore_n 39 dX12_is_38 rfl (by decide) rfl ?_
      exact go 0 (fun _ => no (fun z => hk z.1)) _ rfl
def whF (T : TX) (s : PS) : List (List Int32) → Nat → Int32
  | [], _ => -1
  | w :: r, k => if wdS T w s = true then nI k else whF T s r (k + 1)
def w_kinds : List (List Int32) := [w_sleeper, w_child, w_snorer]
def w_values : List (List Int32) := [w_light, w_off, w_turns, w_hour, w_snore, w_edge, w_woken]
set_option maxHeartbeats 16000000 in
set_option maxRecDepth 20000 in
theorem md_whichK {d : Nat} {E0 E : HP} {T : TX} {s : PS} (y1 : CMd E0 E T s) : Cl yX12_which mX12_which (d + 5) 0 0 [.ref 95, .ref 96] E 137 (.inl (some (.int (whF T s w_kinds 0))), E, 137) := by
  have hQ := (md_F y1).2.1.1
  refine Cl.of (by decide) rfl (fun q => by cases q) rfl rfl (Nat.le_of_ble_eq_true rfl) ?_
  show Sm _ _ _ _ _ 0 [some (.ref 95), some (.ref 96), none] [] _ _
  refine r_iconst (0) 1 dX12_which_0 rfl (by decide) ?_
  refine r_istore_n 2 dX12_which_1 rfl (by decide) rfl ?_
  skip
  show Sm _ _ _ _ _ 2 [some (.ref 95), some (.ref 96), some (.int (nI 0))] [] _ _
  by_cases n0 : wdS T w_sleeper s = true
  · refine r_iload_n 3 dX12_which_2 rfl rfl ?_
    refine r_aload_n 4 dX12_which_3 rfl rfl ?_
    refine r_alenQ _ 5 dX12_which_4 rfl (show sh 96 = (104, 3) from rfl) (by decide) (by decide) (Nat.le_of_ble_eq_true rfl) rfl ?_
    refine r_icmp_ge 8 26 dX12_which_5 rfl (by decide) (fun h5 => absurd h5 (nI_ge (a := 0) (b := 3) (by decide) (by decide))) (fun h5 => ?_)
    refine r_aload_n 9 dX12_which_8 rfl rfl ?_
    refine r_aload_n 10 dX12_which_9 rfl rfl ?_
    refine r_iload_n 11 dX12_which_10 rfl rfl ?_
    refine r_aald 12 dX12_which_11 rfl (by first | with_reducible assumption | rfl | decide) (by decide) (by decide) (by first | with_reducible assumption | rfl | decide) (vp_in_nI (show 0 < 3 by decide) (by decide)) (by rw [nI_clamp (by decide)]; exact hQ 0 (by decide)) ?_
    refine r_callV (M := mX12_which) (pc := 12) 15 dX12_which_12 rfl k12_222 (md_is (d := d) (i := 21) (q := ("SpoonRowModel", 11, "sleeper", w_sleeper)) y1 rfl) rfl rfl rfl (by decide) rfl lt95 (Nat.le_of_ble_eq_true rfl) ?_
    refine r_if_eq 18 20 dX12_which_15 rfl (by decide) (fun h15 => absurd h15 (by rw [bI_t n0]; decide)) (fun h15 => ?_)
    refine r_iload_n 19 dX12_which_18 rfl rfl ?_
    exact r_iret dX12_which_19 rfl rfl (out_eq (by unfold w_kinds; unfold whF; rw [if_pos n0]))
  refine r_iload_n 3 dX12_which_2 rfl rfl ?_
  refine r_aload_n 4 dX12_which_3 rfl rfl ?_
  refine r_alenQ _ 5 dX12_which_4 rfl (show sh 96 = (104, 3) from rfl) (by decide) (by decide) (Nat.le_of_ble_eq_true rfl) rfl ?_
  refine r_icmp_ge 8 26 dX12_which_5 rfl (by decide) (fun h5 => absurd h5 (nI_ge (a := 0) (b := 3) (by decide) (by decide))) (fun h5 => ?_)
  refine r_aload_n 9 dX12_which_8 rfl rfl ?_
  refine r_aload_n 10 dX12_which_9 rfl rfl ?_
  refine r_iload_n 11 dX12_which_10 rfl rfl ?_
  refine r_aald 12 dX12_which_11 rfl (by first | with_reducible assumption | rfl | decide) (by decide) (by decide) (by first | with_reducible assumption | rfl | decide) (vp_in_nI (show 0 < 3 by decide) (by decide)) (by rw [nI_clamp (by decide)]; exact hQ 0 (by decide)) ?_
  refine r_callV (M := mX12_which) (pc := 12) 15 dX12_which_12 rfl k12_222 (md_is (d := d) (i := 21) (q := ("SpoonRowModel", 11, "sleeper", w_sleeper)) y1 rfl) rfl rfl rfl (by decide) rfl lt95 (Nat.le_of_ble_eq_true rfl) ?_
  refine r_if_eq 18 20 dX12_which_15 rfl (by decide) (fun h15 => ?_) (fun h15 => absurd (bI_f n0) h15)
  refine r_iinc (1) 23 dX12_which_20 rfl rfl (by decide) (by decide) rfl ?_
  refine r_goto 2 dX12_which_23 (by decide) ?_
  rw [nI_pp]
  show Sm _ _ _ _ _ 2 [some (.ref 95), some (.ref 96), some (.int (nI 1))] [] _ _
  by_cases n1 : wdS T w_child s = true
  · refine r_iload_n 3 dX12_which_2 rfl rfl ?_
    refine r_aload_n 4 dX12_which_3 rfl rfl ?_
    refine r_alenQ _ 5 dX12_which_4 rfl (show sh 96 = (104, 3) from rfl) (by decide) (by decide) (Nat.le_of_ble_eq_true rfl) rfl ?_
    refine r_icmp_ge 8 26 dX12_which_5 rfl (by decide) (fun h5 => absurd h5 (nI_ge (a := 1) (b := 3) (by decide) (by decide))) (fun h5 => ?_)
    refine r_aload_n 9 dX12_which_8 rfl rfl ?_
    refine r_aload_n 10 dX12_which_9 rfl rfl ?_
    refine r_iload_n 11 dX12_which_10 rfl rfl ?_
    refine r_aald 12 dX12_which_11 rfl (by first | with_reducible assumption | rfl | decide) (by decide) (by decide) (by first | with_reducible assumption | rfl | decide) (vp_in_nI (show 1 < 3 by decide) (by decide)) (by rw [nI_clamp (by decide)]; exact hQ 1 (by decide)) ?_
    refine r_callV (M := mX12_which) (pc := 12) 15 dX12_which_12 rfl k12_222 (md_is (d := d) (i := 22) (q := ("SpoonRowModel", 13, "child", w_child)) y1 rfl) rfl rfl rfl (by decide) rfl lt95 (Nat.le_of_ble_eq_true rfl) ?_
    refine r_if_eq 18 20 dX12_which_15 rfl (by decide) (fun h15 => absurd h15 (by rw [bI_t n1]; decide)) (fun h15 => ?_)
    refine r_iload_n 19 dX12_which_18 rfl rfl ?_
    exact r_iret dX12_which_19 rfl rfl (out_eq (by unfold w_kinds; unfold whF; rw [if_neg n0]; unfold whF; rw [if_pos n1]))
  refine r_iload_n 3 dX12_which_2 rfl rfl ?_
  refine r_aload_n 4 dX12_which_3 rfl rfl ?_
  refine r_alenQ _ 5 dX12_which_4 rfl (show sh 96 = (104, 3) from rfl) (by decide) (by decide) (Nat.le_of_ble_eq_true rfl) rfl ?_
  refine r_icmp_ge 8 26 dX12_which_5 rfl (by decide) (fun h5 => absurd h5 (nI_ge (a := 1) (b := 3) (by decide) (by decide))) (fun h5 => ?_)
  refine r_aload_n 9 dX12_which_8 rfl rfl ?_
  refine r_aload_n 10 dX12_which_9 rfl rfl ?_
  refine r_iload_n 11 dX12_which_10 rfl rfl ?_
  refine r_aald 12 dX12_which_11 rfl (by first | with_reducible assumption | rfl | decide) (by decide) (by decide) (by first | with_reducible assumption | rfl | decide) (vp_in_nI (show 1 < 3 by decide) (by decide)) (by rw [nI_clamp (by decide)]; exact hQ 1 (by decide)) ?_
  refine r_callV (M := mX12_which) (pc := 12) 15 dX12_which_12 rfl k12_222 (md_is (d := d) (i := 22) (q := ("SpoonRowModel", 13, "child", w_child)) y1 rfl) rfl rfl rfl (by decide) rfl lt95 (Nat.le_of_ble_eq_true rfl) ?_
  refine r_if_eq 18 20 dX12_which_15 rfl (by decide) (fun h15 => ?_) (fun h15 => absurd (bI_f n1) h15)
  refine r_iinc (1) 23 dX12_which_20 rfl rfl (by decide) (by decide) rfl ?_
  refine r_goto 2 dX12_which_23 (by decide) ?_
  rw [nI_pp]
  show Sm _ _ _ _ _ 2 [some (.ref 95), some (.ref 96), some (.int (nI 2))] [] _ _
  by_cases n2 : wdS T w_snorer s = true
  · refine r_iload_n 3 dX12_which_2 rfl rfl ?_
    refine r_aload_n 4 dX12_which_3 rfl rfl ?_
    refine r_alenQ _ 5 dX12_which_4 rfl (show sh 96 = (104, 3) from rfl) (by decide) (by decide) (Nat.le_of_ble_eq_true rfl) rfl ?_
    refine r_icmp_ge 8 26 dX12_which_5 rfl (by decide) (fun h5 => absurd h5 (nI_ge (a := 2) (b := 3) (by decide) (by decide))) (fun h5 => ?_)
    refine r_aload_n 9 dX12_which_8 rfl rfl ?_
    refine r_aload_n 10 dX12_which_9 rfl rfl ?_
    refine r_iload_n 11 dX12_which_10 rfl rfl ?_
    refine r_aald 12 dX12_which_11 rfl (by first | with_reducible assumption | rfl | decide) (by decide) (by decide) (by first | with_reducible assumption | rfl | decide) (vp_in_nI (show 2 < 3 by decide) (by decide)) (by rw [nI_clamp (by decide)]; exact hQ 2 (by decide)) ?_
    refine r_callV (M := mX12_which) (pc := 12) 15 dX12_which_12 rfl k12_222 (md_is (d := d) (i := 23) (q := ("SpoonRowModel", 15, "snorer", w_snorer)) y1 rfl) rfl rfl rfl (by decide) rfl lt95 (Nat.le_of_ble_eq_true rfl) ?_
    refine r_if_eq 18 20 dX12_which_15 rfl (by decide) (fun h15 => absurd h15 (by rw [bI_t n2]; decide)) (fun h15 => ?_)
    refine r_iload_n 19 dX12_which_18 rfl rfl ?_
    exact r_iret dX12_which_19 rfl rfl (out_eq (by unfold w_kinds; unfold whF; rw [if_neg n0]; unfold whF; rw [if_neg n1]; unfold whF; rw [if_pos n2]))
  refine r_iload_n 3 dX12_which_2 rfl rfl ?_
  refine r_aload_n 4 dX12_which_3 rfl rfl ?_
  refine r_alenQ _ 5 dX12_which_4 rfl (show sh 96 = (104, 3) from rfl) (by decide) (by decide) (Nat.le_of_ble_eq_true rfl) rfl ?_
  refine r_icmp_ge 8 26 dX12_which_5 rfl (by decide) (fun h5 => absurd h5 (nI_ge (a := 2) (b := 3) (by decide) (by decide))) (fun h5 => ?_)
  refine r_aload_n 9 dX12_which_8 rfl rfl ?_
  refine r_aload_n 10 dX12_which_9 rfl rfl ?_
  refine r_iload_n 11 dX12_which_10 rfl rfl ?_
  refine r_aald 12 dX12_which_11 rfl (by first | with_reducible assumption | rfl | decide) (by decide) (by decide) (by first | with_reducible assumption | rfl | decide) (vp_in_nI (show 2 < 3 by decide) (by decide)) (by rw [nI_clamp (by decide)]; exact hQ 2 (by decide)) ?_
  refine r_callV (M := mX12_which) (pc := 12) 15 dX12_which_12 rfl k12_222 (md_is (d := d) (i := 23) (q := ("SpoonRowModel", 15, "snorer", w_snorer)) y1 rfl) rfl rfl rfl (by decide) rfl lt95 (Nat.le_of_ble_eq_true rfl) ?_
  refine r_if_eq 18 20 dX12_which_15 rfl (by decide) (fun h15 => ?_) (fun h15 => absurd (bI_f n2) h15)
  refine r_iinc (1) 23 dX12_which_20 rfl rfl (by decide) (by decide) rfl ?_
  refine r_goto 2 dX12_which_23 (by decide) ?_
  rw [nI_pp]
  show Sm _ _ _ _ _ 2 [some (.ref 95), some (.ref 96), some (.int (nI 3))] [] _ _
  refine r_iload_n 3 dX12_which_2 rfl rfl ?_
  refine r_aload_n 4 dX12_which_3 rfl rfl ?_
  refine r_alenQ _ 5 dX12_which_4 rfl (show sh 96 = (104, 3) from rfl) (by decide) (by decide) (Nat.le_of_ble_eq_true rfl) rfl ?_
  refine r_icmp_ge 8 26 dX12_which_5 rfl (by decide) (fun h5 => ?_) (fun h5 => absurd (nI_le (a := 3) (b := 3) (by decide) (by decide)) h5)
  refine r_iconst (-1) 27 dX12_which_26 rfl (by decide) ?_
  exact r_iret dX12_which_27 rfl rfl (out_eq (by unfold w_kinds; unfold whF; rw [if_neg n0]; unfold whF; rw [if_neg n1]; unfold whF; rw [if_neg n2]; rfl))
set_option maxHeartbeats 16000000 in
set_option maxRecDepth 20000 in
theorem md_whichV {d : Nat} {E0 E : HP} {T : TX} {s : PS} (y1 : CMd E0 E T s) : Cl yX12_which mX12_which (d + 5) 0 0 [.ref 95, .ref 97] E 137 (.inl (some (.int (whF T s w_values 0))), E, 137) := by
  have hQ := (md_F y1).2.1.2
  refine Cl.of (by decide) rfl (fun q => by cases q) rfl rfl (Nat.le_of_ble_eq_true rfl) ?_
  show Sm _ _ _ _ _ 0 [some (.ref 95), some (.ref 97), none] [] _ _
  refine r_iconst (0) 1 dX12_which_0 rfl (by decide) ?_
  refine r_istore_n 2 dX12_which_1 rfl (by decide) rfl ?_
  skip
  show Sm _ _ _ _ _ 2 [some (.ref 95), some (.ref 97), some (.int (nI 0))] [] _ _
  by_cases n0 : wdS T w_light s = true
  · refine r_iload_n 3 dX12_which_2 rfl rfl ?_
    refine r_aload_n 4 dX12_which_3 rfl rfl ?_
    refine r_alenQ _ 5 dX12_which_4 rfl (show sh 97 = (104, 7) from rfl) (by decide) (by decide) (Nat.le_of_ble_eq_true rfl) rfl ?_
    refine r_icmp_ge 8 26 dX12_which_5 rfl (by decide) (fun h5 => absurd h5 (nI_ge (a := 0) (b := 7) (by decide) (by decide))) (fun h5 => ?_)
    refine r_aload_n 9 dX12_which_8 rfl rfl ?_
    refine r_aload_n 10 dX12_which_9 rfl rfl ?_
    refine r_iload_n 11 dX12_which_10 rfl rfl ?_
    refine r_aald 12 dX12_which_11 rfl (by first | with_reducible assumption | rfl | decide) (by decide) (by decide) (by first | with_reducible assumption | rfl | decide) (vp_in_nI (show 0 < 7 by decide) (by decide)) (by rw [nI_clamp (by decide)]; exact hQ 0 (by decide)) ?_
    refine r_callV (M := mX12_which) (pc := 12) 15 dX12_which_12 rfl k12_222 (md_is (d := d) (i := 24) (q := ("SpoonRowModel", 21, "light", w_light)) y1 rfl) rfl rfl rfl (by decide) rfl lt95 (Nat.le_of_ble_eq_true rfl) ?_
    refine r_if_eq 18 20 dX12_which_15 rfl (by decide) (fun h15 => absurd h15 (by rw [bI_t n0]; decide)) (fun h15 => ?_)
    refine r_iload_n 19 dX12_which_18 rfl rfl ?_
    exact r_iret dX12_which_19 rfl rfl (out_eq (by unfold w_values; unfold whF; rw [if_pos n0]))
  refine r_iload_n 3 dX12_which_2 rfl rfl ?_
  refine r_aload_n 4 dX12_which_3 rfl rfl ?_
  refine r_alenQ _ 5 dX12_which_4 rfl (show sh 97 = (104, 7) from rfl) (by decide) (by decide) (Nat.le_of_ble_eq_true rfl) rfl ?_
  refine r_icmp_ge 8 26 dX12_which_5 rfl (by decide) (fun h5 => absurd h5 (nI_ge (a := 0) (b := 7) (by decide) (by decide))) (fun h5 => ?_)
  refine r_aload_n 9 dX12_which_8 rfl rfl ?_
  refine r_aload_n 10 dX12_which_9 rfl rfl ?_
  refine r_iload_n 11 dX12_which_10 rfl rfl ?_
  refine r_aald 12 dX12_which_11 rfl (by first | with_reducible assumption | rfl | decide) (by decide) (by decide) (by first | with_reducible assumption | rfl | decide) (vp_in_nI (show 0 < 7 by decide) (by decide)) (by rw [nI_clamp (by decide)]; exact hQ 0 (by decide)) ?_
  refine r_callV (M := mX12_which) (pc := 12) 15 dX12_which_12 rfl k12_222 (md_is (d := d) (i := 24) (q := ("SpoonRowModel", 21, "light", w_light)) y1 rfl) rfl rfl rfl (by decide) rfl lt95 (Nat.le_of_ble_eq_true rfl) ?_
  refine r_if_eq 18 20 dX12_which_15 rfl (by decide) (fun h15 => ?_) (fun h15 => absurd (bI_f n0) h15)
  refine r_iinc (1) 23 dX12_which_20 rfl rfl (by decide) (by decide) rfl ?_
  refine r_goto 2 dX12_which_23 (by decide) ?_
  rw [nI_pp]
  show Sm _ _ _ _ _ 2 [some (.ref 95), some (.ref 97), some (.int (nI 1))] [] _ _
  by_cases n1 : wdS T w_off s = true
  · refine r_iload_n 3 dX12_which_2 rfl rfl ?_
    refine r_aload_n 4 dX12_which_3 rfl rfl ?_
    refine r_alenQ _ 5 dX12_which_4 rfl (show sh 97 = (104, 7) from rfl) (by decide) (by decide) (Nat.le_of_ble_eq_true rfl) rfl ?_
    refine r_icmp_ge 8 26 dX12_which_5 rfl (by decide) (fun h5 => absurd h5 (nI_ge (a := 1) (b := 7) (by decide) (by decide))) (fun h5 => ?_)
    refine r_aload_n 9 dX12_which_8 rfl rfl ?_
    refine r_aload_n 10 dX12_which_9 rfl rfl ?_
    refine r_iload_n 11 dX12_which_10 rfl rfl ?_
    refine r_aald 12 dX12_which_11 rfl (by first | with_reducible assumption | rfl | decide) (by decide) (by decide) (by first | with_reducible assumption | rfl | decide) (vp_in_nI (show 1 < 7 by decide) (by decide)) (by rw [nI_clamp (by decide)]; exact hQ 1 (by decide)) ?_
    refine r_callV (M := mX12_which) (pc := 12) 15 dX12_which_12 rfl k12_222 (md_is (d := d) (i := 25) (q := ("SpoonRowModel", 23, "off", w_off)) y1 rfl) rfl rfl rfl (by decide) rfl lt95 (Nat.le_of_ble_eq_true rfl) ?_
    refine r_if_eq 18 20 dX12_which_15 rfl (by decide) (fun h15 => absurd h15 (by rw [bI_t n1]; decide)) (fun h15 => ?_)
    refine r_iload_n 19 dX12_which_18 rfl rfl ?_
    exact r_iret dX12_which_19 rfl rfl (out_eq (by unfold w_values; unfold whF; rw [if_neg n0]; unfold whF; rw [if_pos n1]))
  refine r_iload_n 3 dX12_which_2 rfl rfl ?_
  refine r_aload_n 4 dX12_which_3 rfl rfl ?_
  refine r_alenQ _ 5 dX12_which_4 rfl (show sh 97 = (104, 7) from rfl) (by decide) (by decide) (Nat.le_of_ble_eq_true rfl) rfl ?_
  refine r_icmp_ge 8 26 dX12_which_5 rfl (by decide) (fun h5 => absurd h5 (nI_ge (a := 1) (b := 7) (by decide) (by decide))) (fun h5 => ?_)
  refine r_aload_n 9 dX12_which_8 rfl rfl ?_
  refine r_aload_n 10 dX12_which_9 rfl rfl ?_
  refine r_iload_n 11 dX12_which_10 rfl rfl ?_
  refine r_aald 12 dX12_which_11 rfl (by first | with_reducible assumption | rfl | decide) (by decide) (by decide) (by first | with_reducible assumption | rfl | decide) (vp_in_nI (show 1 < 7 by decide) (by decide)) (by rw [nI_clamp (by decide)]; exact hQ 1 (by decide)) ?_
  refine r_callV (M := mX12_which) (pc := 12) 15 dX12_which_12 rfl k12_222 (md_is (d := d) (i := 25) (q := ("SpoonRowModel", 23, "off", w_off)) y1 rfl) rfl rfl rfl (by decide) rfl lt95 (Nat.le_of_ble_eq_true rfl) ?_
  refine r_if_eq 18 20 dX12_which_15 rfl (by decide) (fun h15 => ?_) (fun h15 => absurd (bI_f n1) h15)
  refine r_iinc (1) 23 dX12_which_20 rfl rfl (by decide) (by decide) rfl ?_
  refine r_goto 2 dX12_which_23 (by decide) ?_
  rw [nI_pp]
  show Sm _ _ _ _ _ 2 [some (.ref 95), some (.ref 97), some (.int (nI 2))] [] _ _
  by_cases n2 : wdS T w_turns s = true
  · refine r_iload_n 3 dX12_which_2 rfl rfl ?_
    refine r_aload_n 4 dX12_which_3 rfl rfl ?_
    refine r_alenQ _ 5 dX12_which_4 rfl (show sh 97 = (104, 7) from rfl) (by decide) (by decide) (Nat.le_of_ble_eq_true rfl) rfl ?_
    refine r_icmp_ge 8 26 dX12_which_5 rfl (by decide) (fun h5 => absurd h5 (nI_ge (a := 2) (b := 7) (by decide) (by decide))) (fun h5 => ?_)
    refine r_aload_n 9 dX12_which_8 rfl rfl ?_
    refine r_aload_n 10 dX12_which_9 rfl rfl ?_
    refine r_iload_n 11 dX12_which_10 rfl rfl ?_
    refine r_aald 12 dX12_which_11 rfl (by first | with_reducible assumption | rfl | decide) (by decide) (by decide) (by first | with_reducible assumption | rfl | decide) (vp_in_nI (show 2 < 7 by decide) (by decide)) (by rw [nI_clamp (by decide)]; exact hQ 2 (by decide)) ?_
    refine r_callV (M := mX12_which) (pc := 12) 15 dX12_which_12 rfl k12_222 (md_is (d := d) (i := 26) (q := ("SpoonRowModel", 25, "turns", w_turns)) y1 rfl) rfl rfl rfl (by decide) rfl lt95 (Nat.le_of_ble_eq_true rfl) ?_
    refine r_if_eq 18 20 dX12_which_15 rfl (by decide) (fun h15 => absurd h15 (by rw [bI_t n2]; decide)) (fun h15 => ?_)
    refine r_iload_n 19 dX12_which_18 rfl rfl ?_
    exact r_iret dX12_which_19 rfl rfl (out_eq (by unfold w_values; unfold whF; rw [if_neg n0]; unfold whF; rw [if_neg n1]; unfold whF; rw [if_pos n2]))
  refine r_iload_n 3 dX12_which_2 rfl rfl ?_
  refine r_aload_n 4 dX12_which_3 rfl rfl ?_
  refine r_alenQ _ 5 dX12_which_4 rfl (show sh 97 = (104, 7) from rfl) (by decide) (by decide) (Nat.le_of_ble_eq_true rfl) rfl ?_
  refine r_icmp_ge 8 26 dX12_which_5 rfl (by decide) (fun h5 => absurd h5 (nI_ge (a := 2) (b := 7) (by decide) (by decide))) (fun h5 => ?_)
  refine r_aload_n 9 dX12_which_8 rfl rfl ?_
  refine r_aload_n 10 dX12_which_9 rfl rfl ?_
  refine r_iload_n 11 dX12_which_10 rfl rfl ?_
  refine r_aald 12 dX12_which_11 rfl (by first | with_reducible assumption | rfl | decide) (by decide) (by decide) (by first | with_reducible assumption | rfl | decide) (vp_in_nI (show 2 < 7 by decide) (by decide)) (by rw [nI_clamp (by decide)]; exact hQ 2 (by decide)) ?_
  refine r_callV (M := mX12_which) (pc := 12) 15 dX12_which_12 rfl k12_222 (md_is (d := d) (i := 26) (q := ("SpoonRowModel", 25, "turns", w_turns)) y1 rfl) rfl rfl rfl (by decide) rfl lt95 (Nat.le_of_ble_eq_true rfl) ?_
  refine r_if_eq 18 20 dX12_which_15 rfl (by decide) (fun h15 => ?_) (fun h15 => absurd (bI_f n2) h15)
  refine r_iinc (1) 23 dX12_which_20 rfl rfl (by decide) (by decide) rfl ?_
  refine r_goto 2 dX12_which_23 (by decide) ?_
  rw [nI_pp]
  show Sm _ _ _ _ _ 2 [some (.ref 95), some (.ref 97), some (.int (nI 3))] [] _ _
  by_cases n3 : wdS T w_hour s = true
  · refine r_iload_n 3 dX12_which_2 rfl rfl ?_
    refine r_aload_n 4 dX12_which_3 rfl rfl ?_
    refine r_alenQ _ 5 dX12_which_4 rfl (show sh 97 = (104, 7) from rfl) (by decide) (by decide) (Nat.le_of_ble_eq_true rfl) rfl ?_
    refine r_icmp_ge 8 26 dX12_which_5 rfl (by decide) (fun h5 => absurd h5 (nI_ge (a := 3) (b := 7) (by decide) (by decide))) (fun h5 => ?_)
    refine r_aload_n 9 dX12_which_8 rfl rfl ?_
    refine r_aload_n 10 dX12_which_9 rfl rfl ?_
    refine r_iload_n 11 dX12_which_10 rfl rfl ?_
    refine r_aald 12 dX12_which_11 rfl (by first | with_reducible assumption | rfl | decide) (by decide) (by decide) (by first | with_reducible assumption | rfl | decide) (vp_in_nI (show 3 < 7 by decide) (by decide)) (by rw [nI_clamp (by decide)]; exact hQ 3 (by decide)) ?_
    refine r_callV (M := mX12_which) (pc := 12) 15 dX12_which_12 rfl k12_222 (md_is (d := d) (i := 27) (q := ("SpoonRowModel", 27, "hour", w_hour)) y1 rfl) rfl rfl rfl (by decide) rfl lt95 (Nat.le_of_ble_eq_true rfl) ?_
    refine r_if_eq 18 20 dX12_which_15 rfl (by decide) (fun h15 => absurd h15 (by rw [bI_t n3]; decide)) (fun h15 => ?_)
    refine r_iload_n 19 dX12_which_18 rfl rfl ?_
    exact r_iret dX12_which_19 rfl rfl (out_eq (by unfold w_values; unfold whF; rw [if_neg n0]; unfold whF; rw [if_neg n1]; unfold whF; rw [if_neg n2]; unfold whF; rw [if_pos n3]))
  refine r_iload_n 3 dX12_which_2 rfl rfl ?_
  refine r_aload_n 4 dX12_which_3 rfl rfl ?_
  refine r_alenQ _ 5 dX12_which_4 rfl (show sh 97 = (104, 7) from rfl) (by decide) (by decide) (Nat.le_of_ble_eq_true rfl) rfl ?_
  refine r_icmp_ge 8 26 dX12_which_5 rfl (by decide) (fun h5 => absurd h5 (nI_ge (a := 3) (b := 7) (by decide) (by decide))) (fun h5 => ?_)
  refine r_aload_n 9 dX12_which_8 rfl rfl ?_
  refine r_aload_n 10 dX12_which_9 rfl rfl ?_
  refine r_iload_n 11 dX12_which_10 rfl rfl ?_
  refine r_aald 12 dX12_which_11 rfl (by first | with_reducible assumption | rfl | decide) (by decide) (by decide) (by first | with_reducible assumption | rfl | decide) (vp_in_nI (show 3 < 7 by decide) (by decide)) (by rw [nI_clamp (by decide)]; exact hQ 3 (by decide)) ?_
  refine r_callV (M := mX12_which) (pc := 12) 15 dX12_which_12 rfl k12_222 (md_is (d := d) (i := 27) (q := ("SpoonRowModel", 27, "hour", w_hour)) y1 rfl) rfl rfl rfl (by decide) rfl lt95 (Nat.le_of_ble_eq_true rfl) ?_
  refine r_if_eq 18 20 dX12_which_15 rfl (by decide) (fun h15 => ?_) (fun h15 => absurd (bI_f n3) h15)
  refine r_iinc (1) 23 dX12_which_20 rfl rfl (by decide) (by decide) rfl ?_
  refine r_goto 2 dX12_which_23 (by decide) ?_
  rw [nI_pp]
  show Sm _ _ _ _ _ 2 [some (.ref 95), some (.ref 97), some (.int (nI 4))] [] _ _
  by_cases n4 : wdS T w_snore s = true
  · refine r_iload_n 3 dX12_which_2 rfl rfl ?_
    refine r_aload_n 4 dX12_which_3 rfl rfl ?_
    refine r_alenQ _ 5 dX12_which_4 rfl (show sh 97 = (104, 7) from rfl) (by decide) (by decide) (Nat.le_of_ble_eq_true rfl) rfl ?_
    refine r_icmp_ge 8 26 dX12_which_5 rfl (by decide) (fun h5 => absurd h5 (nI_ge (a := 4) (b := 7) (by decide) (by decide))) (fun h5 => ?_)
    refine r_aload_n 9 dX12_which_8 rfl rfl ?_
    refine r_aload_n 10 dX12_which_9 rfl rfl ?_
    refine r_iload_n 11 dX12_which_10 rfl rfl ?_
    refine r_aald 12 dX12_which_11 rfl (by first | with_reducible assumption | rfl | decide) (by decide) (by decide) (by first | with_reducible assumption | rfl | decide) (vp_in_nI (show 4 < 7 by decide) (by decide)) (by rw [nI_clamp (by decide)]; exact hQ 4 (by decide)) ?_
    refine r_callV (M := mX12_which) (pc := 12) 15 dX12_which_12 rfl k12_222 (md_is (d := d) (i := 28) (q := ("SpoonRowModel", 29, "snore", w_snore)) y1 rfl) rfl rfl rfl (by decide) rfl lt95 (Nat.le_of_ble_eq_true rfl) ?_
    refine r_if_eq 18 20 dX12_which_15 rfl (by decide) (fun h15 => absurd h15 (by rw [bI_t n4]; decide)) (fun h15 => ?_)
    refine r_iload_n 19 dX12_which_18 rfl rfl ?_
    exact r_iret dX12_which_19 rfl rfl (out_eq (by unfold w_values; unfold whF; rw [if_neg n0]; unfold whF; rw [if_neg n1]; unfold whF; rw [if_neg n2]; unfold whF; rw [if_neg n3]; unfold whF; rw [if_pos n4]))
  refine r_iload_n 3 dX12_which_2 rfl rfl ?_
  refine r_aload_n 4 dX12_which_3 rfl rfl ?_
  refine r_alenQ _ 5 dX12_which_4 rfl (show sh 97 = (104, 7) from rfl) (by decide) (by decide) (Nat.le_of_ble_eq_true rfl) rfl ?_
  refine r_icmp_ge 8 26 dX12_which_5 rfl (by decide) (fun h5 => absurd h5 (nI_ge (a := 4) (b := 7) (by decide) (by decide))) (fun h5 => ?_)
  refine r_aload_n 9 dX12_which_8 rfl rfl ?_
  refine r_aload_n 10 dX12_which_9 rfl rfl ?_
  refine r_iload_n 11 dX12_which_10 rfl rfl ?_
  refine r_aald 12 dX12_which_11 rfl (by first | with_reducible assumption | rfl | decide) (by decide) (by decide) (by first | with_reducible assumption | rfl | decide) (vp_in_nI (show 4 < 7 by decide) (by decide)) (by rw [nI_clamp (by decide)]; exact hQ 4 (by decide)) ?_
  refine r_callV (M := mX12_which) (pc := 12) 15 dX12_which_12 rfl k12_222 (md_is (d := d) (i := 28) (q := ("SpoonRowModel", 29, "snore", w_snore)) y1 rfl) rfl rfl rfl (by decide) rfl lt95 (Nat.le_of_ble_eq_true rfl) ?_
  refine r_if_eq 18 20 dX12_which_15 rfl (by decide) (fun h15 => ?_) (fun h15 => absurd (bI_f n4) h15)
  refine r_iinc (1) 23 dX12_which_20 rfl rfl (by decide) (by decide) rfl ?_
  refine r_goto 2 dX12_which_23 (by decide) ?_
  rw [nI_pp]
  show Sm _ _ _ _ _ 2 [some (.ref 95), some (.ref 97), some (.int (nI 5))] [] _ _
  by_cases n5 : wdS T w_edge s = true
  · refine r_iload_n 3 dX12_which_2 rfl rfl ?_
    refine r_aload_n 4 dX12_which_3 rfl rfl ?_
    refine r_alenQ _ 5 dX12_which_4 rfl (show sh 97 = (104, 7) from rfl) (by decide) (by decide) (Nat.le_of_ble_eq_true rfl) rfl ?_
    refine r_icmp_ge 8 26 dX12_which_5 rfl (by decide) (fun h5 => absurd h5 (nI_ge (a := 5) (b := 7) (by decide) (by decide))) (fun h5 => ?_)
    refine r_aload_n 9 dX12_which_8 rfl rfl ?_
    refine r_aload_n 10 dX12_which_9 rfl rfl ?_
    refine r_iload_n 11 dX12_which_10 rfl rfl ?_
    refine r_aald 12 dX12_which_11 rfl (by first | with_reducible assumption | rfl | decide) (by decide) (by decide) (by first | with_reducible assumption | rfl | decide) (vp_in_nI (show 5 < 7 by decide) (by decide)) (by rw [nI_clamp (by decide)]; exact hQ 5 (by decide)) ?_
    refine r_callV (M := mX12_which) (pc := 12) 15 dX12_which_12 rfl k12_222 (md_is (d := d) (i := 29) (q := ("SpoonRowModel", 31, "edge", w_edge)) y1 rfl) rfl rfl rfl (by decide) rfl lt95 (Nat.le_of_ble_eq_true rfl) ?_
    refine r_if_eq 18 20 dX12_which_15 rfl (by decide) (fun h15 => absurd h15 (by rw [bI_t n5]; decide)) (fun h15 => ?_)
    refine r_iload_n 19 dX12_which_18 rfl rfl ?_
    exact r_iret dX12_which_19 rfl rfl (out_eq (by unfold w_values; unfold whF; rw [if_neg n0]; unfold whF; rw [if_neg n1]; unfold whF; rw [if_neg n2]; unfold whF; rw [if_neg n3]; unfold whF; rw [if_neg n4]; unfold whF; rw [if_pos n5]))
  refine r_iload_n 3 dX12_which_2 rfl rfl ?_
  refine r_aload_n 4 dX12_which_3 rfl rfl ?_
  refine r_alenQ _ 5 dX12_which_4 rfl (show sh 97 = (104, 7) from rfl) (by decide) (by decide) (Nat.le_of_ble_eq_true rfl) rfl ?_
  refine r_icmp_ge 8 26 dX12_which_5 rfl (by decide) (fun h5 => absurd h5 (nI_ge (a := 5) (b := 7) (by decide) (by decide))) (fun h5 => ?_)
  refine r_aload_n 9 dX12_which_8 rfl rfl ?_
  refine r_aload_n 10 dX12_which_9 rfl rfl ?_
  refine r_iload_n 11 dX12_which_10 rfl rfl ?_
  refine r_aald 12 dX12_which_11 rfl (by first | with_reducible assumption | rfl | decide) (by decide) (by decide) (by first | with_reducible assumption | rfl | decide) (vp_in_nI (show 5 < 7 by decide) (by decide)) (by rw [nI_clamp (by decide)]; exact hQ 5 (by decide)) ?_
  refine r_callV (M := mX12_which) (pc := 12) 15 dX12_which_12 rfl k12_222 (md_is (d := d) (i := 29) (q := ("SpoonRowModel", 31, "edge", w_edge)) y1 rfl) rfl rfl rfl (by decide) rfl lt95 (Nat.le_of_ble_eq_true rfl) ?_
  refine r_if_eq 18 20 dX12_which_15 rfl (by decide) (fun h15 => ?_) (fun h15 => absurd (bI_f n5) h15)
  refine r_iinc (1) 23 dX12_which_20 rfl rfl (by decide) (by decide) rfl ?_
  refine r_goto 2 dX12_which_23 (by decide) ?_
  rw [nI_pp]
  show Sm _ _ _ _ _ 2 [some (.ref 95), some (.ref 97), some (.int (nI 6))] [] _ _
  by_cases n6 : wdS T w_woken s = true
  · refine r_iload_n 3 dX12_which_2 rfl rfl ?_
    refine r_aload_n 4 dX12_which_3 rfl rfl ?_
    refine r_alenQ _ 5 dX12_which_4 rfl (show sh 97 = (104, 7) from rfl) (by decide) (by decide) (Nat.le_of_ble_eq_true rfl) rfl ?_
    refine r_icmp_ge 8 26 dX12_which_5 rfl (by decide) (fun h5 => absurd h5 (nI_ge (a := 6) (b := 7) (by decide) (by decide))) (fun h5 => ?_)
    refine r_aload_n 9 dX12_which_8 rfl rfl ?_
    refine r_aload_n 10 dX12_which_9 rfl rfl ?_
    refine r_iload_n 11 dX12_which_10 rfl rfl ?_
    refine r_aald 12 dX12_which_11 rfl (by first | with_reducible assumption | rfl | decide) (by decide) (by decide) (by first | with_reducible assumption | rfl | decide) (vp_in_nI (show 6 < 7 by decide) (by decide)) (by rw [nI_clamp (by decide)]; exact hQ 6 (by decide)) ?_
    refine r_callV (M := mX12_which) (pc := 12) 15 dX12_which_12 rfl k12_222 (md_is (d := d) (i := 30) (q := ("SpoonRowModel", 33, "woken", w_woken)) y1 rfl) rfl rfl rfl (by decide) rfl lt95 (Nat.le_of_ble_eq_true rfl) ?_
    refine r_if_eq 18 20 dX12_which_15 rfl (by decide) (fun h15 => absurd h15 (by rw [bI_t n6]; decide)) (fun h15 => ?_)
    refine r_iload_n 19 dX12_which_18 rfl rfl ?_
    exact r_iret dX12_which_19 rfl rfl (out_eq (by unfold w_values; unfold whF; rw [if_neg n0]; unfold whF; rw [if_neg n1]; unfold whF; rw [if_neg n2]; unfold whF; rw [if_neg n3]; unfold whF; rw [if_neg n4]; unfold whF; rw [if_neg n5]; unfold whF; rw [if_pos n6]))
  refine r_iload_n 3 dX12_which_2 rfl rfl ?_
  refine r_aload_n 4 dX12_which_3 rfl rfl ?_
  refine r_alenQ _ 5 dX12_which_4 rfl (show sh 97 = (104, 7) from rfl) (by decide) (by decide) (Nat.le_of_ble_eq_true rfl) rfl ?_
  refine r_icmp_ge 8 26 dX12_which_5 rfl (by decide) (fun h5 => absurd h5 (nI_ge (a := 6) (b := 7) (by decide) (by decide))) (fun h5 => ?_)
  refine r_aload_n 9 dX12_which_8 rfl rfl ?_
  refine r_aload_n 10 dX12_which_9 rfl rfl ?_
  refine r_iload_n 11 dX12_which_10 rfl rfl ?_
  refine r_aald 12 dX12_which_11 rfl (by first | with_reducible assumption | rfl | decide) (by decide) (by decide) (by first | with_reducible assumption | rfl | decide) (vp_in_nI (show 6 < 7 by decide) (by decide)) (by rw [nI_clamp (by decide)]; exact hQ 6 (by decide)) ?_
  refine r_callV (M := mX12_which) (pc := 12) 15 dX12_which_12 rfl k12_222 (md_is (d := d) (i := 30) (q := ("SpoonRowModel", 33, "woken", w_woken)) y1 rfl) rfl rfl rfl (by decide) rfl lt95 (Nat.le_of_ble_eq_true rfl) ?_
  refine r_if_eq 18 20 dX12_which_15 rfl (by decide) (fun h15 => ?_) (fun h15 => absurd (bI_f n6) h15)
  refine r_iinc (1) 23 dX12_which_20 rfl rfl (by decide) (by decide) rfl ?_
  refine r_goto 2 dX12_which_23 (by decide) ?_
  rw [nI_pp]
  show Sm _ _ _ _ _ 2 [some (.ref 95), some (.ref 97), some (.int (nI 7))] [] _ _
  refine r_iload_n 3 dX12_which_2 rfl rfl ?_
  refine r_aload_n 4 dX12_which_3 rfl rfl ?_
  refine r_alenQ _ 5 dX12_which_4 rfl (show sh 97 = (104, 7) from rfl) (by decide) (by decide) (Nat.le_of_ble_eq_true rfl) rfl ?_
  refine r_icmp_ge 8 26 dX12_which_5 rfl (by decide) (fun h5 => ?_) (fun h5 => absurd (nI_le (a := 7) (b := 7) (by decide) (by decide)) h5)
  refine r_iconst (-1) 27 dX12_which_26 rfl (by decide) ?_
  exact r_iret dX12_which_27 rfl rfl (out_eq (by unfold w_values; unfold whF; rw [if_neg n0]; unfold whF; rw [if_neg n1]; unfold whF; rw [if_neg n2]; unfold whF; rw [if_neg n3]; unfold whF; rw [if_neg n4]; unfold whF; rw [if_neg n5]; unfold whF; rw [if_neg n6]; rfl))
