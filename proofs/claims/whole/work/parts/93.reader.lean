/-! The reader: what it holds; small methods -/
/-- what is told so far, in the bed b -/
def BdC (E : HP) (b : Nat) (B : BD) : Prop := gI E 4 b = nI (bC B) ∧ bC B ≤ 7 ∧ (∀ s, s < bC B → ∀ k, 1 ≤ k → k ≤ 7 → gI E (1023 + k) (b + 12 + s) = bL B k s) ∧ (∀ s, s < 7 → gA E (b + 4) s = bE B s) ∧ (∀ i, i < 5 → gI E (5 + i) b = bX B i) ∧ gI E 644 41 = bX B 5 ∧ gI E 10 b = nI (bN B) ∧ bN B ≤ 6 ∧ gI E 897 (b + 5) = nI (bR B).length ∧ (bR B).length ≤ 600 ∧ ∀ i, i < (bR B).length → gA E (b + 7) i = (bR B).getD i 0
def CSt (E : HP) (T : TX) (b : Nat) : PS → Prop
  | .inl (k, p) => gI E 642 41 = nI k ∧ 1 ≤ k ∧ k ≤ 5 ∧ gI E 643 41 = nI p ∧ p ≤ T.2 ∧ TkD E T
  | .inr (a, B) => gI E 642 41 = 0 ∧ gI E 643 41 = -1 ∧ a ≤ T.2 ∧ TkA E T a ∧ BdC E b B
def RdP (b k : Nat) : Prop := k = 41 ∨ k = 42 ∨ (b ≤ k ∧ k ≤ b + 18)
def CRd (E0 E : HP) (T : TX) (b : Nat) (s : PS) : Prop := (TXok T ∧ TkF E T ∧ gR E 640 41 = some 42 ∧ gR E 641 41 = some b ∧ BedOK E 137 b ∧ (b = 3 ∨ b = 22) ∧ Fr (RdP b) E0 E ∧ SR E0 E) ∧ CSt E T b s
theorem rd_T {E0 E : HP} {T : TX} {b : Nat} {s : PS} (h : CRd E0 E T b s) : TXok T := h.1.1
theorem rd_F {E0 E : HP} {T : TX} {b : Nat} {s : PS} (h : CRd E0 E T b s) : TkF E T := h.1.2.1
theorem rd_tok {E0 E : HP} {T : TX} {b : Nat} {s : PS} (h : CRd E0 E T b s) : gR E 640 41 = some 42 := h.1.2.2.1
theorem rd_into {E0 E : HP} {T : TX} {b : Nat} {s : PS} (h : CRd E0 E T b s) : gR E 641 41 = some b := h.1.2.2.2.1
theorem rd_bed {E0 E : HP} {T : TX} {b : Nat} {s : PS} (h : CRd E0 E T b s) : BedOK E 137 b := h.1.2.2.2.2.1
theorem rd_b {E0 E : HP} {T : TX} {b : Nat} {s : PS} (h : CRd E0 E T b s) : b = 3 ∨ b = 22 := h.1.2.2.2.2.2.1
theorem rd_rule {E0 E : HP} {T : TX} {b : Nat} {s : PS} (h : CRd E0 E T b s) : gR E 3 b = some (b + 5) := (rd_bed h).2.2.2.2.1
/-- a step within the reader's things keeps what stands fast -/
theorem rd_step {E0 E E2 : HP} {T : TX} {b : Nat} {s s2 : PS} (h : CRd E0 E T b s) (f : Fr (RdP b) E E2) (r : SR E E2) (hF : TkF E2 T) (hs : CSt E2 T b s2) : CRd E0 E2 T b s2 := ⟨⟨h.1.1, hF, sr_gR r h.1.2.2.1, sr_gR r h.1.2.2.2.1, sr_bed r h.1.2.2.2.2.1, h.1.2.2.2.2.2.1, fr_tr h.1.2.2.2.2.2.2.1 f, sr_tr h.1.2.2.2.2.2.2.2 r⟩, hs⟩
theorem rdp_tok {b : Nat} {E E2 : HP} (h : TkM E E2) : Fr (RdP b) E E2 := fr_mono h.1 (fun _ z => Or.inr (Or.inl z))
theorem bdc_tok {E E2 : HP} {b : Nat} {B : BD} (hb : b = 3 ∨ b = 22) (h : TkM E E2) (o : BdC E b B) : BdC E2 b B := by
  have i : ∀ g k, k ≠ 42 → gI E2 g k = gI E g k := fun g k hk => fr_gI h.1 hk g
  have a : ∀ k, k ≠ 42 → gA E2 k = gA E k := fun k hk => fr_gA h.1 hk
  obtain ⟨o1, o2, o3, o4, o5, o6, o7, o8, o9, o10, o11⟩ := o
  exact ⟨(i _ _ (by omega)).trans o1, o2, fun s hs k k1 k7 => (i _ _ (by omega)).trans (o3 s hs k k1 k7), fun s hs => by rw [a _ (by omega)]; exact o4 s hs, fun j hj => (i _ _ (by omega)).trans (o5 j hj), (i _ _ (by omega)).trans o6, (i _ _ (by omega)).trans o7, o8, (i _ _ (by omega)).trans o9, o10, fun j hj => by rw [a _ (by omega)]; exact o11 j hj⟩
theorem bz {q : Bool} (h : bI q = 0) : ¬ q = true := fun z => by rw [bI_t z] at h; exact absurd h (by decide)
theorem bnz {q : Bool} (h : ¬ bI q = 0) : q = true := by
  cases q with
  | false => exact absurd rfl h
  | true => rfl
theorem adv_flt {T : TX} {k : Nat} (s : PS) : advS T (fltS k s) = fltS k s := by cases s <;> rfl
theorem ru_flt {x : Int32} {k : Nat} (s : PS) : ruS x (fltS k s) = fltS k s := by cases s <;> rfl
set_option maxRecDepth 20000 in
theorem rd_adv {d : Nat} {E0 E : HP} {T : TX} {b : Nat} {s : PS} (y1 : CRd E0 E T b s) : ∃ o, (∃ E2, o = (.inl none, E2, 137) ∧ CRd E0 E2 T b (advS T s)) ∧ Cl yX10_advance mX10_advance (d + 5) 0 0 [.ref 42] E 137 o := by
  have hb := rd_b y1
  cases s with
  | inl x =>
    obtain ⟨k, p⟩ := x
    obtain ⟨c1, c2, c3, c4, c5, ⟨q, q1, q2, q3, q4⟩⟩ := id y1.2
    obtain ⟨_, ⟨E2, rfl, hA, hm⟩, hcl⟩ := tk_adv (d := d) (rd_T y1) (rd_F y1) q3 (Nat.le_refl _)
    exact ⟨_, ⟨E2, rfl, rd_step y1 (rdp_tok hm) hm.2.1 (tkf_m hm (rd_F y1)) ⟨(fr_gI hm.1 (by decide) _).trans c1, c2, c3, (fr_gI hm.1 (by decide) _).trans c4, c5, tka_end hA⟩⟩, hcl⟩
  | inr x =>
    obtain ⟨a, B⟩ := x
    obtain ⟨c1, c2, c3, c4, c5⟩ := id y1.2
    obtain ⟨_, ⟨E2, rfl, hA, hm⟩, hcl⟩ := tk_adv (d := d) (rd_T y1) (rd_F y1) c4.2.1 (toE_le.2.1 c3)
    exact ⟨_, ⟨E2, rfl, rd_step y1 (rdp_tok hm) hm.2.1 (tkf_m hm (rd_F y1)) ⟨(fr_gI hm.1 (by decide) _).trans c1, (fr_gI hm.1 (by decide) _).trans c2, nxT_le.2.1 c3, hA, bdc_tok hb hm c5⟩⟩, hcl⟩
set_option maxRecDepth 20000 in
theorem rd_refuse {d : Nat} {E0 E : HP} {T : TX} {b : Nat} {s : PS} {k : Int32} {k9 : Nat} (y1 : CRd E0 E T b s) (hk : k = nI k9) (h1 : 1 ≤ k9) (h5 : k9 ≤ 5) : ∃ o, (∃ E2, o = (.inl none, E2, 137) ∧ CRd E0 E2 T b (fltS k9 s)) ∧ Cl yX5_refuse mX5_refuse (d + 1) 0 0 [.ref 41, .int k] E 137 o := by
  have hb := rd_b y1
  have hbs : sh b = (0, 0) := bo_1 (rd_bed y1)
  have hbn : b < 137 := by omega
  have hb5 : sh (b + 5) = (7, 0) := (rd_bed y1).2.2.2.2.2.2.2.2.2.1.1
  have hb5n : b + 5 < 137 := by omega
  subst hk
  refine Cx.of (by decide) rfl (fun q => by cases q) rfl rfl (Nat.le_of_ble_eq_true rfl) ?_
  show Sx _ _ _ _ _ 0 [some (.ref 41), some (.int (k))] [] _ _
  cases s with
  | inl x =>
    obtain ⟨k, p⟩ := x
    obtain ⟨c1, c2, c3, c4, c5, ⟨q, q1, q2, q3, q4⟩⟩ := id y1.2
    obtain ⟨hD, hm⟩ := tkd_stop (E := E) q1 q2
    refine Sx.up (fun _ kk => r_aload_n 1 dX5_refuse_0 rfl rfl kk) ?_
    refine Sx.up (fun _ kk => r_getIV (nI k) 4 dX5_refuse_1 rfl f5_25 rfl (by first | with_reducible assumption | with_reducible exact cr_bs hC | rfl) (by first | with_reducible assumption | with_reducible exact cr_bn hC | exact Nat.le_of_ble_eq_true rfl) (c1) kk) ?_
    refine Sx.up (fun _ kk => r_if_ne 7 23 dX5_refuse_4 rfl (by decide) (fun _ => kk) (fun h4 => absurd h4 (nI_ne0 (by omega) (by omega)))) ?_
    refine Sx.up (fun _ kk => r_aload_n 24 dX5_refuse_23 rfl rfl kk) ?_
    refine Sx.up (fun _ kk => r_getR 27 dX5_refuse_24 rfl f5_19 rfl (by first | with_reducible assumption | with_reducible exact cr_bs hC | rfl) (by first | with_reducible assumption | with_reducible exact cr_bn hC | exact Nat.le_of_ble_eq_true rfl) (rd_tok y1) kk) ?_
    refine Sx.up (fun _ kk => r_callV 30 dX5_refuse_27 rfl k5_57 (tk_stop (rd_F y1)) rfl rfl (by first | with_reducible assumption | with_reducible exact cr_bs hC | rfl) (by decide) rfl (by first | with_reducible assumption | with_reducible exact cr_bn hC | exact Nat.le_of_ble_eq_true rfl) (Nat.le_of_ble_eq_true rfl) kk) ?_
    refine ⟨_, ?_, r_vret dX5_refuse_30 rfl rfl rfl⟩
    exact ⟨_, rfl, rd_step y1 (rdp_tok hm) hm.2.1 (tkf_m hm (rd_F y1)) ⟨c1, c2, c3, c4, c5, hD⟩⟩
  | inr x =>
    obtain ⟨a, B⟩ := x
    obtain ⟨c1, c2, c3, c4, c5⟩ := id y1.2
    obtain ⟨E1, hE1⟩ : ∃ E1, sI (sI E 642 41 (nI k9)) 643 41 (nI a) = E1 := ⟨_, rfl⟩
    have hF1 : Fr (RdP b) E E1 := by subst hE1; exact fr_sI (Or.inl rfl) (fr_sI (Or.inl rfl) fr_rfl)
    have hS1 : SR E E1 := by subst hE1; exact sr_rfl
    have hT1 : TkF E1 T := by subst hE1; exact rd_F y1
    have ha1 : gI E1 1282 42 = nI a := by subst hE1; exact c4.1
    have ht1 : gR E1 640 41 = some 42 := sr_gR hS1 (rd_tok y1)
    have hf1 : gI E1 642 41 = nI k9 := by subst hE1; rw [gI_sI, if_neg (by decide), gI_sI, if_pos ⟨rfl, rfl⟩]
    have hf2 : gI E1 643 41 = nI a := by subst hE1; rw [gI_sI, if_pos ⟨rfl, rfl⟩]
    obtain ⟨hD, hm⟩ := tkd_stop (E := E1) (T := T) c3 ha1
    refine Sx.up (fun _ kk => r_aload_n 1 dX5_refuse_0 rfl rfl kk) ?_
    refine Sx.up (fun _ kk => r_getIV (0) 4 dX5_refuse_1 rfl f5_25 rfl (by first | with_reducible assumption | with_reducible exact cr_bs hC | rfl) (by first | with_reducible assumption | with_reducible exact cr_bn hC | exact Nat.le_of_ble_eq_true rfl) (c1) kk) ?_
    refine Sx.up (fun _ kk => r_if_ne 7 23 dX5_refuse_4 rfl (by decide) (fun h4 => absurd h4 (fun z => z rfl)) (fun _ => kk)) ?_
    refine Sx.up (fun _ kk => r_aload_n 8 dX5_refuse_7 rfl rfl kk) ?_
    refine Sx.up (fun _ kk => r_iload_n 9 dX5_refuse_8 rfl rfl kk) ?_
    refine Sx.up (fun _ kk => r_putI 12 dX5_refuse_9 rfl f5_25 (by first | with_reducible assumption | with_reducible exact cr_bs hC | rfl) (by first | with_reducible assumption | with_reducible exact cr_bn hC | exact Nat.le_of_ble_eq_true rfl) kk) ?_
    refine Sx.up (fun _ kk => r_aload_n 13 dX5_refuse_12 rfl rfl kk) ?_
    refine Sx.up (fun _ kk => r_aload_n 14 dX5_refuse_13 rfl rfl kk) ?_
    refine Sx.up (fun _ kk => r_getR 17 dX5_refuse_14 rfl f5_19 rfl (by first | with_reducible assumption | with_reducible exact cr_bs hC | rfl) (by first | with_reducible assumption | with_reducible exact cr_bn hC | exact Nat.le_of_ble_eq_true rfl) (by first | exact rd_tok y1 | exact ht1) kk) ?_
    refine Sx.up (fun _ kk => r_getIV (nI a) 20 dX5_refuse_17 rfl f5_54 rfl (by first | with_reducible assumption | with_reducible exact cr_bs hC | rfl) (by first | with_reducible assumption | with_reducible exact cr_bn hC | exact Nat.le_of_ble_eq_true rfl) (c4.1) kk) ?_
    refine Sx.up (fun _ kk => r_putI 23 dX5_refuse_20 rfl f5_29 (by first | with_reducible assumption | with_reducible exact cr_bs hC | rfl) (by first | with_reducible assumption | with_reducible exact cr_bn hC | exact Nat.le_of_ble_eq_true rfl) kk) ?_
    rw [hE1]
    refine Sx.up (fun _ kk => r_aload_n 24 dX5_refuse_23 rfl rfl kk) ?_
    refine Sx.up (fun _ kk => r_getR 27 dX5_refuse_24 rfl f5_19 rfl (by first | with_reducible assumption | with_reducible exact cr_bs hC | rfl) (by first | with_reducible assumption | with_reducible exact cr_bn hC | exact Nat.le_of_ble_eq_true rfl) (by first | exact rd_tok y1 | exact ht1) kk) ?_
    refine Sx.up (fun _ kk => r_callV 30 dX5_refuse_27 rfl k5_57 (tk_stop hT1) rfl rfl (by first | with_reducible assumption | with_reducible exact cr_bs hC | rfl) (by decide) rfl (by first | with_reducible assumption | with_reducible exact cr_bn hC | exact Nat.le_of_ble_eq_true rfl) (Nat.le_of_ble_eq_true rfl) kk) ?_
    refine ⟨_, ?_, r_vret dX5_refuse_30 rfl rfl rfl⟩
    exact ⟨_, rfl, rd_step y1 (fr_tr hF1 (rdp_tok hm)) (sr_tr hS1 hm.2.1) (tkf_m hm hT1) ⟨hf1, h1, h5, hf2, c3, hD⟩⟩
set_option maxRecDepth 20000 in
theorem rd_word {d i : Nat} {q : String × Nat × String × List Int32} {E0 E : HP} {T : TX} {b : Nat} {s : PS} (y1 : CRd E0 E T b s) (hq : stL[i]? = some q) : Cl yX10_isWord mX10_isWord (d + 4) 0 0 [.ref 42, .ref (1000 + i)] E 137 (.inl (some (.int (bI (wdS T q.2.2.2 s)))), E, 137) := by
  cases s with
  | inl x => exact c_isWordD (q := q) (rd_T y1) (rd_F y1) y1.2.2.2.2.2.2
  | inr x => exact c_isWordL (rd_T y1) (rd_F y1) y1.2.2.2.2.1 hq
set_option maxRecDepth 20000 in
theorem rd_sign {d : Nat} {c : Int32} {E0 E : HP} {T : TX} {b : Nat} {s : PS} (y1 : CRd E0 E T b s) : Cl yX10_isSign mX10_isSign (d + 1) 0 0 [.ref 42, .int c] E 137 (.inl (some (.int (bI (sgS T c s)))), E, 137) := by
  cases s with
  | inl x => exact c_isSignD (rd_T y1) (rd_F y1) y1.2.2.2.2.2.2
  | inr x => exact c_isSignL (rd_T y1) (rd_F y1) y1.2.2.2.2.1
theorem b01_bI {p : Prop} [Decidable p] {q : Prop} (h : q ↔ p) : b01 q = bI (decide p) := by
  by_cases hp : p
  · rw [b01_t (h.mpr hp), bI_t (decide_eq_true hp)]
  · rw [b01_f (fun z => hp (h.mp z)), bI_f (fun z => hp (of_decide_eq_true z))]
theorem nlt_le {x y : Nat} (hx : x < 100000) (hy : y < 100000) : ¬ nI x < nI y ↔ y ≤ x := by
  constructor
  · intro h
    rcases Nat.lt_or_ge x y with z | z
    · exact absurd (nI_lt z (by omega)) h
    · exact z
  · intro h
    exact nI_nlt h (by omega)
set_option maxRecDepth 20000 in
theorem rd_numw {d lo hi : Nat} {x z : Int32} {E0 E : HP} {T : TX} {b : Nat} {s : PS} (y1 : CRd E0 E T b s) (hx : x = nI lo) (hz : z = nI hi) (h1 : lo < 100000) (h2 : hi < 100000) : Cl yX10_isNumberWithin mX10_isNumberWithin (d + 2) 0 0 [.ref 42, .int x, .int z] E 137 (.inl (some (.int (bI (nwS T lo hi s)))), E, 137) := by
  subst hx
  subst hz
  cases s with
  | inl x => exact c_isNumD (rd_T y1) (rd_F y1) y1.2.2.2.2.2.2
  | inr x =>
    have h9 := c_isNumL (d := d) (lo := nI lo) (hi := nI hi) (rd_T y1) (rd_F y1) y1.2.2.2.2.1 y1.2.2.2.1
    rw [b01_bI (p := kdT T x.1 = 2 ∧ lo ≤ numT T x.1 ∧ numT T x.1 ≤ hi) ?_] at h9
    · exact h9
    · constructor
      · rintro ⟨e1, e2, e3⟩
        have hl := num_lt e1
        exact ⟨e1, (nlt_le (by omega) h1).mp e2, (nlt_le h2 (by omega)).mp e3⟩
      · rintro ⟨e1, e2, e3⟩
        have hl := num_lt e1
        exact ⟨e1, (nlt_le (by omega) h1).mpr e2, (nlt_le h2 (by omega)).mpr e3⟩
set_option maxRecDepth 20000 in
theorem rd_num {d : Nat} {E0 E : HP} {T : TX} {b : Nat} {s : PS} (y1 : CRd E0 E T b s) : ∃ v, (kiS T 2 s = true → v = nI (vaS T s)) ∧ Cl yX10_number mX10_number (d + 1) 0 0 [.ref 42] E 137 (.inl (some (.int v)), E, 137) := by
  cases s with
  | inl x =>
    obtain ⟨q, q1, q2, q3, q4⟩ := y1.2.2.2.2.2.2
    exact ⟨_, fun z => absurd z (by show ¬ false = true; decide), c_number (rd_T y1) (rd_F y1) q2 q3 q1 (Nat.le_refl _)⟩
  | inr x =>
    obtain ⟨c1, c2, c3, c4, c5⟩ := id y1.2
    exact ⟨_, fun z => numV_N (of_decide_eq_true z), c_number (rd_T y1) (rd_F y1) c4.1 c4.2.1 toE_le.1 (toE_le.2.1 c3)⟩
set_option maxRecDepth 20000 in
theorem rd_kind {k : Nat} {E0 E : HP} {T : TX} {b : Nat} {s : PS} (y1 : CRd E0 E T b s) (hk : 1 ≤ k) (hk9 : k < 100) : (gI E 1284 42 = nI k ↔ kiS T k s = true) := by
  cases s with
  | inl x =>
    obtain ⟨q, q1, q2, q3, q4⟩ := y1.2.2.2.2.2.2
    rw [q4]
    exact ⟨fun z => absurd z.symm (nI_ne0 hk (by omega)), fun z => absurd z (by show ¬ false = true; decide)⟩
  | inr x =>
    obtain ⟨c1, c2, c3, c4, c5⟩ := id y1.2
    have kl := kd_le T x.1
    rw [c4.2.2, nI_eq (by omega) (by omega)]
    exact ⟨fun z => decide_eq_true z, fun z => of_decide_eq_true z⟩
theorem ru_get {E : HP} {h k : Nat} {x : Int32} (hk : gI E 897 h = nI k) (h6 : k < 600) : ruAdd E h x = sI (sA E (h + 2) k x) 897 h (nI (k + 1)) := by
  unfold ruAdd
  rw [hk, rPut_nI h6 (by omega), nI_pp]
theorem rd_rput {E0 E : HP} {T : TX} {b : Nat} {s : PS} {x : Int32} (y1 : CRd E0 E T b s) (hs : slk 1 s) : CRd E0 (ruAdd E (b + 5) x) T b (ruS x s) := by
  have hb := rd_b y1
  have hf : Fr (RdP b) E (ruAdd E (b + 5) x) := fr_sI (Or.inr (Or.inr (by omega))) (fr_put (Or.inr (Or.inr (by omega))) fr_rfl)
  have hr : SR E (ruAdd E (b + 5) x) := sr_sI (sr_put sr_rfl)
  have ht : Fr (fun k => b ≤ k ∧ k ≤ b + 18) E (ruAdd E (b + 5) x) := fr_sI (by omega) (fr_put (by omega) fr_rfl)
  have i42 : ∀ g, gI (ruAdd E (b + 5) x) g 42 = gI E g 42 := fun g => fr_gI ht (by omega) g
  have i41 : ∀ g, gI (ruAdd E (b + 5) x) g 41 = gI E g 41 := fun g => fr_gI ht (by omega) g
  have hF : TkF (ruAdd E (b + 5) x) T := ⟨sr_gR hr (rd_F y1).1, sr_row hr (rd_F y1).2.1, (i42 _).trans (rd_F y1).2.2.1, fun i hi => by rw [fr_gA ht (by omega)]; exact (rd_F y1).2.2.2 i hi⟩
  refine rd_step y1 hf hr hF ?_
  cases s with
  | inl z =>
    obtain ⟨k, p⟩ := z
    obtain ⟨c1, c2, c3, c4, c5, ⟨q, q1, q2, q3, q4⟩⟩ := id y1.2
    exact ⟨(i41 _).trans c1, c2, c3, (i41 _).trans c4, c5, q, q1, (i42 _).trans q2, (i42 _).trans q3, (i42 _).trans q4⟩
  | inr z =>
    obtain ⟨a, B⟩ := z
    obtain ⟨c1, c2, c3, c4, o1, o2, o3, o4, o5, o6, o7, o8, o9, o10, o11⟩ := id y1.2
    have hs : (bR B).length + 1 ≤ a := hs
    have n6 := (rd_T y1).1
    have e := ru_get (x := x) o9 (by omega)
    have eI : ∀ g k, ¬ (g = 897 ∧ k = b + 5) → gI (ruAdd E (b + 5) x) g k = gI E g k := fun g k z => by rw [e, gI_sI, if_neg z]; rfl
    have eA : ∀ k, k ≠ b + 7 → gA (ruAdd E (b + 5) x) k = gA E k := fun k z => by
      rw [e]
      funext j
      show gA (sA E (b + 5 + 2) (bR B).length x) k j = _
      rw [gA_sA, if_neg (fun y => z (by omega))]
    refine ⟨(i41 _).trans c1, (i41 _).trans c2, c3, ⟨(i42 _).trans c4.1, (i42 _).trans c4.2.1, (i42 _).trans c4.2.2⟩, (eI _ _ (by omega)).trans o1, o2, fun s hs k k1 k7 => (eI _ _ (by omega)).trans (o3 s hs k k1 k7), fun s hs => by rw [eA _ (by omega)]; exact o4 s hs, fun i hi => (eI _ _ (by omega)).trans (o5 i hi), (i41 _).trans o6, (eI _ _ (by omega)).trans o7, o8, ?_, ?_, fun i hi => ?_⟩
    · rw [addR_R, List.length_append, e, gI_sI, if_pos ⟨rfl, rfl⟩]; rfl
    · rw [addR_R, List.length_append]; show (bR B).length + 1 ≤ 600; omega
    · rw [addR_R, List.length_append] at hi
      have hi : i < (bR B).length + 1 := hi
      rw [addR_R, e]
      show gA (sA E (b + 5 + 2) (bR B).length x) (b + 7) i = _
      rw [gA_sA, List.getD_eq_getElem?_getD]
      by_cases hl : i = (bR B).length
      · rw [if_pos ⟨by omega, hl⟩, hl, List.getElem?_append_right (Nat.le_refl _), Nat.sub_self]; rfl
      · rw [if_neg (fun y => hl y.2), List.getElem?_append_left (by omega), ← List.getD_eq_getElem?_getD]
        exact o11 i (by omega)
theorem rd_radd {d : Nat} {E0 E : HP} {T : TX} {b : Nat} {s : PS} {x : Int32} (y1 : CRd E0 E T b s) (hs : slk 1 s) : ∃ o, (∃ E2, o = (.inl none, E2, 137) ∧ CRd E0 E2 T b (ruS x s)) ∧ Cl yX7_add mX7_add (d + 1) 0 0 [.ref (b + 5), .int x] E 137 o := ⟨_, ⟨_, rfl, rd_rput y1 hs⟩, c_X7_add (rd_bed y1).2.2.2.2.2.2.2.2.2.1⟩
set_option maxRecDepth 20000 in
theorem rd_takeSign {d : Nat} {E0 E : HP} {T : TX} {b : Nat} {s : PS} {c : Int32} (y1 : CRd E0 E T b s)  : ∃ o, (∃ E2, o = (.inl none, E2, 137) ∧ CRd E0 E2 T b (sgnS T c s)) ∧ Cl yX5_takeSign mX5_takeSign (d + 6) 0 0 [.ref 41, .int c] E 137 o := by
  have hb := rd_b y1
  have hbs : sh b = (0, 0) := bo_1 (rd_bed y1)
  have hbn : b < 137 := by omega
  have hb5 : sh (b + 5) = (7, 0) := (rd_bed y1).2.2.2.2.2.2.2.2.2.1.1
  have hb5n : b + 5 < 137 := by omega
  refine Cx.of (by decide) rfl (fun q => by cases q) rfl rfl (Nat.le_of_ble_eq_true rfl) ?_
  show Sx _ _ _ _ _ 0 [some (.ref 41), some (.int (c))] [] _ _
  refine Sx.up (fun _ kk => r_aload_n 1 dX5_takeSign_0 rfl rfl kk) ?_
  refine Sx.up (fun _ kk => r_getR 4 dX5_takeSign_1 rfl f5_19 rfl (by first | with_reducible assumption | with_reducible exact cr_bs hC | rfl) (by first | with_reducible assumption | with_reducible exact cr_bn hC | exact Nat.le_of_ble_eq_true rfl) (rd_tok y1) kk) ?_
  refine Sx.up (fun _ kk => r_iload_n 5 dX5_takeSign_4 rfl rfl kk) ?_
  refine Sx.up (fun _ kk => r_callV 8 dX5_takeSign_5 rfl k5_141 (rd_sign y1) rfl rfl (by first | with_reducible assumption | with_reducible exact cr_bs hC | rfl) (by decide) rfl (by first | with_reducible assumption | with_reducible exact cr_bn hC | exact Nat.le_of_ble_eq_true rfl) (Nat.le_of_ble_eq_true rfl) kk) ?_
  refine Sx.br (fun _ ka kb => r_if_ne 11 16 dX5_takeSign_8 rfl (by decide) ka kb) (by first | exact em1 | exact em2) (fun h8 => ?_) (fun h8 => ?_)
  · refine Sx.up (fun _ kk => r_aload_n 17 dX5_takeSign_16 rfl rfl kk) ?_
    refine Sx.up (fun _ kk => r_getR 20 dX5_takeSign_17 rfl f5_19 rfl (by first | with_reducible assumption | with_reducible exact cr_bs hC | rfl) (by first | with_reducible assumption | with_reducible exact cr_bn hC | exact Nat.le_of_ble_eq_true rfl) (rd_tok y1) kk) ?_
    obtain ⟨_, ⟨E2, rfl, y2⟩, hcl2⟩ := rd_adv (d := d) y1
    refine Sx.up (fun _ kk => r_callV 23 dX5_takeSign_20 rfl k5_131 hcl2 rfl rfl (by first | with_reducible assumption | with_reducible exact cr_bs hC | rfl) (by decide) rfl (by first | with_reducible assumption | with_reducible exact cr_bn hC | exact Nat.le_of_ble_eq_true rfl) (Nat.le_of_ble_eq_true rfl) kk) ?_
    refine ⟨_, ?_, r_vret dX5_takeSign_23 rfl rfl rfl⟩
    refine ⟨_, rfl, ?_⟩
    first | (unfold sgnS; rw [if_pos (bnz h8)]; exact y2) | (unfold sgnS; rw [if_neg (bz h8), ← adv_flt]; exact y2)
  · refine Sx.up (fun _ kk => r_aload_n 12 dX5_takeSign_11 rfl rfl kk) ?_
    refine Sx.up (fun _ kk => r_iconst (1) 13 dX5_takeSign_12 rfl (by decide) kk) ?_
    obtain ⟨_, ⟨E3, rfl, y3⟩, hcl3⟩ := rd_refuse (d := d + 4) y1 (k := 1) (k9 := 1) rfl (by decide) (by decide)
    refine Sx.up (fun _ kk => r_callV 16 dX5_takeSign_13 rfl k5_128 hcl3 rfl rfl (by first | with_reducible assumption | with_reducible exact cr_bs hC | rfl) (by decide) rfl (by first | with_reducible assumption | with_reducible exact cr_bn hC | exact Nat.le_of_ble_eq_true rfl) (Nat.le_of_ble_eq_true rfl) kk) ?_
    refine Sx.up (fun _ kk => r_aload_n 17 dX5_takeSign_16 rfl rfl kk) ?_
    refine Sx.up (fun _ kk => r_getR 20 dX5_takeSign_17 rfl f5_19 rfl (by first | with_reducible assumption | with_reducible exact cr_bs hC | rfl) (by first | with_reducible assumption | with_reducible exact cr_bn hC | exact Nat.le_of_ble_eq_true rfl) (rd_tok y3) kk) ?_
    obtain ⟨_, ⟨E4, rfl, y4⟩, hcl4⟩ := rd_adv (d := d) y3
    refine Sx.up (fun _ kk => r_callV 23 dX5_takeSign_20 rfl k5_131 hcl4 rfl rfl (by first | with_reducible assumption | with_reducible exact cr_bs hC | rfl) (by decide) rfl (by first | with_reducible assumption | with_reducible exact cr_bn hC | exact Nat.le_of_ble_eq_true rfl) (Nat.le_of_ble_eq_true rfl) kk) ?_
    refine ⟨_, ?_, r_vret dX5_takeSign_23 rfl rfl rfl⟩
    refine ⟨_, rfl, ?_⟩
    first | (unfold sgnS; rw [if_pos (bnz h8)]; exact y4) | (unfold sgnS; rw [if_neg (bz h8), ← adv_flt]; exact y4)
set_option maxRecDepth 20000 in
theorem rd_take {d lo hi : Nat} {x z : Int32} {E0 E : HP} {T : TX} {b : Nat} {s : PS} (y1 : CRd E0 E T b s) (hx : x = nI lo) (hz : z = nI hi) (h1 : lo < 100000) (h2 : hi < 100000) : ∃ o, (∃ E2 v, o = (.inl (some (.int v)), E2, 137) ∧ CRd E0 E2 T b (tkS T lo hi s) ∧ (∀ a B, tkS T lo hi s = .inr (a, B) → v = nI (vaS T s))) ∧ Cl yX5_takeNumber mX5_takeNumber (d + 6) 0 0 [.ref 41, .int x, .int z] E 137 o := by
  have hb := rd_b y1
  have hbs : sh b = (0, 0) := bo_1 (rd_bed y1)
  have hbn : b < 137 := by omega
  have hb5 : sh (b + 5) = (7, 0) := (rd_bed y1).2.2.2.2.2.2.2.2.2.1.1
  have hb5n : b + 5 < 137 := by omega
  have hki := rd_kind (k := 2) y1 (by decide) (by decide)
  refine Cx.of (by decide) rfl (fun q => by cases q) rfl rfl (Nat.le_of_ble_eq_true rfl) ?_
  show Sx _ _ _ _ _ 0 [some (.ref 41), some (.int (x)), some (.int (z)), none] [] _ _
  refine Sx.up (fun _ kk => r_aload_n 1 dX5_takeNumber_0 rfl rfl kk) ?_
  refine Sx.up (fun _ kk => r_getR 4 dX5_takeNumber_1 rfl f5_19 rfl (by first | with_reducible assumption | with_reducible exact cr_bs hC | rfl) (by first | with_reducible assumption | with_reducible exact cr_bn hC | exact Nat.le_of_ble_eq_true rfl) (rd_tok y1) kk) ?_
  refine Sx.up (fun _ kk => r_getI 7 dX5_takeNumber_4 rfl f5_48 rfl (by first | with_reducible assumption | with_reducible exact cr_bs hC | rfl) (by first | with_reducible assumption | with_reducible exact cr_bn hC | exact Nat.le_of_ble_eq_true rfl) kk) ?_
  refine Sx.up (fun _ kk => r_iconst (2) 8 dX5_takeNumber_7 rfl (by decide) kk) ?_
  refine Sx.br (fun _ ka kb => r_icmp_eq 11 19 dX5_takeNumber_8 rfl (by decide) ka kb) (by first | exact em1 | exact em2) (fun h8 => ?_) (fun h8 => ?_)
  · refine Sx.up (fun _ kk => r_aload_n 20 dX5_takeNumber_19 rfl rfl kk) ?_
    refine Sx.up (fun _ kk => r_getR 23 dX5_takeNumber_20 rfl f5_19 rfl (by first | with_reducible assumption | with_reducible exact cr_bs hC | rfl) (by first | with_reducible assumption | with_reducible exact cr_bn hC | exact Nat.le_of_ble_eq_true rfl) (rd_tok y1) kk) ?_
    refine Sx.up (fun _ kk => r_iload_n 24 dX5_takeNumber_23 rfl rfl kk) ?_
    refine Sx.up (fun _ kk => r_iload_n 25 dX5_takeNumber_24 rfl rfl kk) ?_
    refine Sx.up (fun _ kk => r_callV 28 dX5_takeNumber_25 rfl k5_134 (rd_numw y1 hx hz h1 h2) rfl rfl (by first | with_reducible assumption | with_reducible exact cr_bs hC | rfl) (by decide) rfl (by first | with_reducible assumption | with_reducible exact cr_bn hC | exact Nat.le_of_ble_eq_true rfl) (Nat.le_of_ble_eq_true rfl) kk) ?_
    refine Sx.br (fun _ ka kb => r_if_ne 31 36 dX5_takeNumber_28 rfl (by decide) ka kb) (by first | exact em1 | exact em2) (fun h28 => ?_) (fun h28 => ?_)
    · refine Sx.up (fun _ kk => r_aload_n 37 dX5_takeNumber_36 rfl rfl kk) ?_
      refine Sx.up (fun _ kk => r_getR 40 dX5_takeNumber_37 rfl f5_19 rfl (by first | with_reducible assumption | with_reducible exact cr_bs hC | rfl) (by first | with_reducible assumption | with_reducible exact cr_bn hC | exact Nat.le_of_ble_eq_true rfl) (rd_tok y1) kk) ?_
      obtain ⟨v, hv, hnu⟩ := rd_num (d := d + 4) y1
      refine Sx.up (fun _ kk => r_callV 43 dX5_takeNumber_40 rfl k5_138 hnu rfl rfl (by first | with_reducible assumption | with_reducible exact cr_bs hC | rfl) (by decide) rfl (by first | with_reducible assumption | with_reducible exact cr_bn hC | exact Nat.le_of_ble_eq_true rfl) (Nat.le_of_ble_eq_true rfl) kk) ?_
      refine Sx.up (fun _ kk => r_istore_n 44 dX5_takeNumber_43 rfl (by decide) rfl kk) ?_
      refine Sx.up (fun _ kk => r_aload_n 45 dX5_takeNumber_44 rfl rfl kk) ?_
      refine Sx.up (fun _ kk => r_getR 48 dX5_takeNumber_45 rfl f5_19 rfl (by first | with_reducible assumption | with_reducible exact cr_bs hC | rfl) (by first | with_reducible assumption | with_reducible exact cr_bn hC | exact Nat.le_of_ble_eq_true rfl) (rd_tok y1) kk) ?_
      obtain ⟨_, ⟨E2, rfl, y2⟩, hcl2⟩ := rd_adv (d := d) y1
      refine Sx.up (fun _ kk => r_callV 51 dX5_takeNumber_48 rfl k5_131 hcl2 rfl rfl (by first | with_reducible assumption | with_reducible exact cr_bs hC | rfl) (by decide) rfl (by first | with_reducible assumption | with_reducible exact cr_bn hC | exact Nat.le_of_ble_eq_true rfl) (Nat.le_of_ble_eq_true rfl) kk) ?_
      refine Sx.up (fun _ kk => r_iload_n 52 dX5_takeNumber_51 rfl rfl kk) ?_
      refine ⟨_, ?_, r_iret dX5_takeNumber_52 rfl rfl rfl⟩
      refine ⟨_, _, rfl, ?_, fun a B e => ?_⟩
      · unfold tkS
        first | (rw [if_pos (hki.mp h8), if_pos (bnz h28)]; exact y2) | (rw [if_pos (hki.mp h8), if_neg (bz h28), ← adv_flt]; exact y2) | (rw [if_neg (fun z => h8 (hki.mpr z)), ← adv_flt]; exact y2)
      · unfold tkS at e
        first | exact hv (hki.mp h8) | (rw [if_pos (hki.mp h8), if_neg (bz h28)] at e; cases s <;> cases e) | (rw [if_neg (fun z => h8 (hki.mpr z))] at e; cases s <;> cases e)
    · refine Sx.up (fun _ kk => r_aload_n 32 dX5_takeNumber_31 rfl rfl kk) ?_
      refine Sx.up (fun _ kk => r_iconst (2) 33 dX5_takeNumber_32 rfl (by decide) kk) ?_
      obtain ⟨_, ⟨E3, rfl, y3⟩, hcl3⟩ := rd_refuse (d := d + 4) y1 (k := 2) (k9 := 2) rfl (by decide) (by decide)
      refine Sx.up (fun _ kk => r_callV 36 dX5_takeNumber_33 rfl k5_128 hcl3 rfl rfl (by first | with_reducible assumption | with_reducible exact cr_bs hC | rfl) (by decide) rfl (by first | with_reducible assumption | with_reducible exact cr_bn hC | exact Nat.le_of_ble_eq_true rfl) (Nat.le_of_ble_eq_true rfl) kk) ?_
      refine Sx.up (fun _ kk => r_aload_n 37 dX5_takeNumber_36 rfl rfl kk) ?_
      refine Sx.up (fun _ kk => r_getR 40 dX5_takeNumber_37 rfl f5_19 rfl (by first | with_reducible assumption | with_reducible exact cr_bs hC | rfl) (by first | with_reducible assumption | with_reducible exact cr_bn hC | exact Nat.le_of_ble_eq_true rfl) (rd_tok y3) kk) ?_
      obtain ⟨v, hv, hnu⟩ := rd_num (d := d + 4) y3
      refine Sx.up (fun _ kk => r_callV 43 dX5_takeNumber_40 rfl k5_138 hnu rfl rfl (by first | with_reducible assumption | with_reducible exact cr_bs hC | rfl) (by decide) rfl (by first | with_reducible assumption | with_reducible exact cr_bn hC | exact Nat.le_of_ble_eq_true rfl) (Nat.le_of_ble_eq_true rfl) kk) ?_
      refine Sx.up (fun _ kk => r_istore_n 44 dX5_takeNumber_43 rfl (by decide) rfl kk) ?_
      refine Sx.up (fun _ kk => r_aload_n 45 dX5_takeNumber_44 rfl rfl kk) ?_
      refine Sx.up (fun _ kk => r_getR 48 dX5_takeNumber_45 rfl f5_19 rfl (by first | with_reducible assumption | with_reducible exact cr_bs hC | rfl) (by first | with_reducible assumption | with_reducible exact cr_bn hC | exact Nat.le_of_ble_eq_true rfl) (rd_tok y3) kk) ?_
      obtain ⟨_, ⟨E4, rfl, y4⟩, hcl4⟩ := rd_adv (d := d) y3
      refine Sx.up (fun _ kk => r_callV 51 dX5_takeNumber_48 rfl k5_131 hcl4 rfl rfl (by first | with_reducible assumption | with_reducible exact cr_bs hC | rfl) (by decide) rfl (by first | with_reducible assumption | with_reducible exact cr_bn hC | exact Nat.le_of_ble_eq_true rfl) (Nat.le_of_ble_eq_true rfl) kk) ?_
      refine Sx.up (fun _ kk => r_iload_n 52 dX5_takeNumber_51 rfl rfl kk) ?_
      refine ⟨_, ?_, r_iret dX5_takeNumber_52 rfl rfl rfl⟩
      refine ⟨_, _, rfl, ?_, fun a B e => ?_⟩
      · unfold tkS
        first | (rw [if_pos (hki.mp h8), if_pos (bnz h28)]; exact y4) | (rw [if_pos (hki.mp h8), if_neg (bz h28), ← adv_flt]; exact y4) | (rw [if_neg (fun z => h8 (hki.mpr z)), ← adv_flt]; exact y4)
      · unfold tkS at e
        first | exact hv (hki.mp h8) | (rw [if_pos (hki.mp h8), if_neg (bz h28)] at e; cases s <;> cases e) | (rw [if_neg (fun z => h8 (hki.mpr z))] at e; cases s <;> cases e)
  · refine Sx.up (fun _ kk => r_aload_n 12 dX5_takeNumber_11 rfl rfl kk) ?_
    refine Sx.up (fun _ kk => r_iconst (1) 13 dX5_takeNumber_12 rfl (by decide) kk) ?_
    obtain ⟨_, ⟨E5, rfl, y5⟩, hcl5⟩ := rd_refuse (d := d + 4) y1 (k := 1) (k9 := 1) rfl (by decide) (by decide)
    refine Sx.up (fun _ kk => r_callV 16 dX5_takeNumber_13 rfl k5_128 hcl5 rfl rfl (by first | with_reducible assumption | with_reducible exact cr_bs hC | rfl) (by decide) rfl (by first | with_reducible assumption | with_reducible exact cr_bn hC | exact Nat.le_of_ble_eq_true rfl) (Nat.le_of_ble_eq_true rfl) kk) ?_
    refine Sx.up (fun _ kk => r_goto 36 dX5_takeNumber_16 (by decide) kk) ?_
    refine Sx.up (fun _ kk => r_aload_n 37 dX5_takeNumber_36 rfl rfl kk) ?_
    refine Sx.up (fun _ kk => r_getR 40 dX5_takeNumber_37 rfl f5_19 rfl (by first | with_reducible assumption | with_reducible exact cr_bs hC | rfl) (by first | with_reducible assumption | with_reducible exact cr_bn hC | exact Nat.le_of_ble_eq_true rfl) (rd_tok y5) kk) ?_
    obtain ⟨v, hv, hnu⟩ := rd_num (d := d + 4) y5
    refine Sx.up (fun _ kk => r_callV 43 dX5_takeNumber_40 rfl k5_138 hnu rfl rfl (by first | with_reducible assumption | with_reducible exact cr_bs hC | rfl) (by decide) rfl (by first | with_reducible assumption | with_reducible exact cr_bn hC | exact Nat.le_of_ble_eq_true rfl) (Nat.le_of_ble_eq_true rfl) kk) ?_
    refine Sx.up (fun _ kk => r_istore_n 44 dX5_takeNumber_43 rfl (by decide) rfl kk) ?_
    refine Sx.up (fun _ kk => r_aload_n 45 dX5_takeNumber_44 rfl rfl kk) ?_
    refine Sx.up (fun _ kk => r_getR 48 dX5_takeNumber_45 rfl f5_19 rfl (by first | with_reducible assumption | with_reducible exact cr_bs hC | rfl) (by first | with_reducible assumption | with_reducible exact cr_bn hC | exact Nat.le_of_ble_eq_true rfl) (rd_tok y5) kk) ?_
    obtain ⟨_, ⟨E6, rfl, y6⟩, hcl6⟩ := rd_adv (d := d) y5
    refine Sx.up (fun _ kk => r_callV 51 dX5_takeNumber_48 rfl k5_131 hcl6 rfl rfl (by first | with_reducible assumption | with_reducible exact cr_bs hC | rfl) (by decide) rfl (by first | with_reducible assumption | with_reducible exact cr_bn hC | exact Nat.le_of_ble_eq_true rfl) (Nat.le_of_ble_eq_true rfl) kk) ?_
    refine Sx.up (fun _ kk => r_iload_n 52 dX5_takeNumber_51 rfl rfl kk) ?_
    refine ⟨_, ?_, r_iret dX5_takeNumber_52 rfl rfl rfl⟩
    refine ⟨_, _, rfl, ?_, fun a B e => ?_⟩
    · unfold tkS
      first | (rw [if_pos (hki.mp h8), if_pos (bnz h28)]; exact y6) | (rw [if_pos (hki.mp h8), if_neg (bz h28), ← adv_flt]; exact y6) | (rw [if_neg (fun z => h8 (hki.mpr z)), ← adv_flt]; exact y6)
    · unfold tkS at e
      first | exact hv (hki.mp h8) | (rw [if_pos (hki.mp h8), if_neg (bz h28)] at e; cases s <;> cases e) | (rw [if_neg (fun z => h8 (hki.mpr z))] at e; cases s <;> cases e)
set_option maxRecDepth 20000 in
theorem rd_value {d : Nat} {E0 E : HP} {T : TX} {b : Nat} {s : PS} (y1 : CRd E0 E T b s) : Cl yX5_valueOfWord mX5_valueOfWord (d + 5) 0 0 [.ref 41] E 137 (.inl (some (.int (vlS T s))), E, 137) := by
  have hb := rd_b y1
  have hbs : sh b = (0, 0) := bo_1 (rd_bed y1)
  have hbn : b < 137 := by omega
  have hb5 : sh (b + 5) = (7, 0) := (rd_bed y1).2.2.2.2.2.2.2.2.2.1.1
  have hb5n : b + 5 < 137 := by omega
  refine Cl.of (by decide) rfl (fun q => by cases q) rfl rfl (Nat.le_of_ble_eq_true rfl) ?_
  show Sm _ _ _ _ _ 0 [some (.ref 41)] [] _ _
  refine r_aload_n 1 dX5_valueOfWord_0 rfl rfl ?_
  refine r_getR 4 dX5_valueOfWord_1 rfl f5_19 rfl (by first | with_reducible assumption | with_reducible exact cr_bs hC | rfl) (by first | with_reducible assumption | with_reducible exact cr_bn hC | exact Nat.le_of_ble_eq_true rfl) (rd_tok y1) ?_
  refine r_ldcS (i := 9) 6 dX5_valueOfWord_4 rfl rfl ?_
  refine r_callV 9 dX5_valueOfWord_6 rfl k5_72 (rd_word (i := 9) (q := ("SpoonRow$Reader", 226, "light", w_light)) y1 rfl) rfl rfl (by first | with_reducible assumption | with_reducible exact cr_bs hC | rfl) (by decide) rfl (by first | with_reducible assumption | with_reducible exact cr_bn hC | exact Nat.le_of_ble_eq_true rfl) (Nat.le_of_ble_eq_true rfl) ?_
  refine r_if_eq 12 14 dX5_valueOfWord_9 rfl (by decide) (fun h9 => ?_) (fun h9 => ?_)
  · refine r_aload_n 15 dX5_valueOfWord_14 rfl rfl ?_
    refine r_getR 18 dX5_valueOfWord_15 rfl f5_19 rfl (by first | with_reducible assumption | with_reducible exact cr_bs hC | rfl) (by first | with_reducible assumption | with_reducible exact cr_bn hC | exact Nat.le_of_ble_eq_true rfl) (rd_tok y1) ?_
    refine r_ldcS (i := 10) 20 dX5_valueOfWord_18 rfl rfl ?_
    refine r_callV 23 dX5_valueOfWord_20 rfl k5_72 (rd_word (i := 10) (q := ("SpoonRow$Reader", 228, "off", w_off)) y1 rfl) rfl rfl (by first | with_reducible assumption | with_reducible exact cr_bs hC | rfl) (by decide) rfl (by first | with_reducible assumption | with_reducible exact cr_bn hC | exact Nat.le_of_ble_eq_true rfl) (Nat.le_of_ble_eq_true rfl) ?_
    refine r_if_eq 26 29 dX5_valueOfWord_23 rfl (by decide) (fun h23 => ?_) (fun h23 => ?_)
    · refine r_aload_n 30 dX5_valueOfWord_29 rfl rfl ?_
      refine r_getR 33 dX5_valueOfWord_30 rfl f5_19 rfl (by first | with_reducible assumption | with_reducible exact cr_bs hC | rfl) (by first | with_reducible assumption | with_reducible exact cr_bn hC | exact Nat.le_of_ble_eq_true rfl) (rd_tok y1) ?_
      refine r_ldcS (i := 11) 35 dX5_valueOfWord_33 rfl rfl ?_
      refine r_callV 38 dX5_valueOfWord_35 rfl k5_72 (rd_word (i := 11) (q := ("SpoonRow$Reader", 230, "turns", w_turns)) y1 rfl) rfl rfl (by first | with_reducible assumption | with_reducible exact cr_bs hC | rfl) (by decide) rfl (by first | with_reducible assumption | with_reducible exact cr_bn hC | exact Nat.le_of_ble_eq_true rfl) (Nat.le_of_ble_eq_true rfl) ?_
      refine r_if_eq 41 44 dX5_valueOfWord_38 rfl (by decide) (fun h38 => ?_) (fun h38 => ?_)
      · refine r_aload_n 45 dX5_valueOfWord_44 rfl rfl ?_
        refine r_getR 48 dX5_valueOfWord_45 rfl f5_19 rfl (by first | with_reducible assumption | with_reducible exact cr_bs hC | rfl) (by first | with_reducible assumption | with_reducible exact cr_bn hC | exact Nat.le_of_ble_eq_true rfl) (rd_tok y1) ?_
        refine r_ldcS (i := 12) 50 dX5_valueOfWord_48 rfl rfl ?_
        refine r_callV 53 dX5_valueOfWord_50 rfl k5_72 (rd_word (i := 12) (q := ("SpoonRow$Reader", 232, "hour", w_hour)) y1 rfl) rfl rfl (by first | with_reducible assumption | with_reducible exact cr_bs hC | rfl) (by decide) rfl (by first | with_reducible assumption | with_reducible exact cr_bn hC | exact Nat.le_of_ble_eq_true rfl) (Nat.le_of_ble_eq_true rfl) ?_
        refine r_if_eq 56 59 dX5_valueOfWord_53 rfl (by decide) (fun h53 => ?_) (fun h53 => ?_)
        · refine r_aload_n 60 dX5_valueOfWord_59 rfl rfl ?_
          refine r_getR 63 dX5_valueOfWord_60 rfl f5_19 rfl (by first | with_reducible assumption | with_reducible exact cr_bs hC | rfl) (by first | with_reducible assumption | with_reducible exact cr_bn hC | exact Nat.le_of_ble_eq_true rfl) (rd_tok y1) ?_
          refine r_ldcS (i := 13) 65 dX5_valueOfWord_63 rfl rfl ?_
          refine r_callV 68 dX5_valueOfWord_65 rfl k5_72 (rd_word (i := 13) (q := ("SpoonRow$Reader", 234, "snore", w_snore)) y1 rfl) rfl rfl (by first | with_reducible assumption | with_reducible exact cr_bs hC | rfl) (by decide) rfl (by first | with_reducible assumption | with_reducible exact cr_bn hC | exact Nat.le_of_ble_eq_true rfl) (Nat.le_of_ble_eq_true rfl) ?_
          refine r_if_eq 71 74 dX5_valueOfWord_68 rfl (by decide) (fun h68 => ?_) (fun h68 => ?_)
          · refine r_aload_n 75 dX5_valueOfWord_74 rfl rfl ?_
            refine r_getR 78 dX5_valueOfWord_75 rfl f5_19 rfl (by first | with_reducible assumption | with_reducible exact cr_bs hC | rfl) (by first | with_reducible assumption | with_reducible exact cr_bn hC | exact Nat.le_of_ble_eq_true rfl) (rd_tok y1) ?_
            refine r_ldcS (i := 14) 80 dX5_valueOfWord_78 rfl rfl ?_
            refine r_callV 83 dX5_valueOfWord_80 rfl k5_72 (rd_word (i := 14) (q := ("SpoonRow$Reader", 236, "edge", w_edge)) y1 rfl) rfl rfl (by first | with_reducible assumption | with_reducible exact cr_bs hC | rfl) (by decide) rfl (by first | with_reducible assumption | with_reducible exact cr_bn hC | exact Nat.le_of_ble_eq_true rfl) (Nat.le_of_ble_eq_true rfl) ?_
            refine r_if_eq 86 89 dX5_valueOfWord_83 rfl (by decide) (fun h83 => ?_) (fun h83 => ?_)
            · refine r_aload_n 90 dX5_valueOfWord_89 rfl rfl ?_
              refine r_getR 93 dX5_valueOfWord_90 rfl f5_19 rfl (by first | with_reducible assumption | with_reducible exact cr_bs hC | rfl) (by first | with_reducible assumption | with_reducible exact cr_bn hC | exact Nat.le_of_ble_eq_true rfl) (rd_tok y1) ?_
              refine r_ldcS (i := 15) 95 dX5_valueOfWord_93 rfl rfl ?_
              refine r_callV 98 dX5_valueOfWord_95 rfl k5_72 (rd_word (i := 15) (q := ("SpoonRow$Reader", 238, "woken", w_woken)) y1 rfl) rfl rfl (by first | with_reducible assumption | with_reducible exact cr_bs hC | rfl) (by decide) rfl (by first | with_reducible assumption | with_reducible exact cr_bn hC | exact Nat.le_of_ble_eq_true rfl) (Nat.le_of_ble_eq_true rfl) ?_
              refine r_if_eq 101 106 dX5_valueOfWord_98 rfl (by decide) (fun h98 => ?_) (fun h98 => ?_)
              · refine r_iconst (0) 107 dX5_valueOfWord_106 rfl (by decide) ?_
                exact r_iret dX5_valueOfWord_107 rfl rfl (out_eq (by unfold vlS; first | rw [if_neg (bz h9), if_neg (bz h23), if_neg (bz h38), if_neg (bz h53), if_neg (bz h68), if_neg (bz h83), if_pos (bnz h98)] | rw [if_neg (bz h9), if_neg (bz h23), if_neg (bz h38), if_neg (bz h53), if_neg (bz h68), if_neg (bz h83), if_neg (bz h98)]))
              · refine r_bipush (-7) 103 dX5_valueOfWord_101 rfl (by decide) ?_
                refine r_goto 107 dX5_valueOfWord_103 (by decide) ?_
                exact r_iret dX5_valueOfWord_107 rfl rfl (out_eq (by unfold vlS; first | rw [if_neg (bz h9), if_neg (bz h23), if_neg (bz h38), if_neg (bz h53), if_neg (bz h68), if_neg (bz h83), if_pos (bnz h98)] | rw [if_neg (bz h9), if_neg (bz h23), if_neg (bz h38), if_neg (bz h53), if_neg (bz h68), if_neg (bz h83), if_neg (bz h98)]))
            · refine r_bipush (-6) 88 dX5_valueOfWord_86 rfl (by decide) ?_
              exact r_iret dX5_valueOfWord_88 rfl rfl (out_eq (by unfold vlS; rw [if_neg (bz h9), if_neg (bz h23), if_neg (bz h38), if_neg (bz h53), if_neg (bz h68), if_pos (bnz h83)]))
          · refine r_bipush (-5) 73 dX5_valueOfWord_71 rfl (by decide) ?_
            exact r_iret dX5_valueOfWord_73 rfl rfl (out_eq (by unfold vlS; rw [if_neg (bz h9), if_neg (bz h23), if_neg (bz h38), if_neg (bz h53), if_pos (bnz h68)]))
        · refine r_bipush (-4) 58 dX5_valueOfWord_56 rfl (by decide) ?_
          exact r_iret dX5_valueOfWord_58 rfl rfl (out_eq (by unfold vlS; rw [if_neg (bz h9), if_neg (bz h23), if_neg (bz h38), if_pos (bnz h53)]))
      · refine r_bipush (-3) 43 dX5_valueOfWord_41 rfl (by decide) ?_
        exact r_iret dX5_valueOfWord_43 rfl rfl (out_eq (by unfold vlS; rw [if_neg (bz h9), if_neg (bz h23), if_pos (bnz h38)]))
    · refine r_bipush (-2) 28 dX5_valueOfWord_26 rfl (by decide) ?_
      exact r_iret dX5_valueOfWord_28 rfl rfl (out_eq (by unfold vlS; rw [if_neg (bz h9), if_pos (bnz h23)]))
  · refine r_iconst (-1) 13 dX5_valueOfWord_12 rfl (by decide) ?_
    exact r_iret dX5_valueOfWord_13 rfl rfl (out_eq (by unfold vlS; rw [if_pos (bnz h9)]))
theorem slk_flt {j k : Nat} (s : PS) : slk j (fltS k s) := by cases s <;> trivial
theorem slk_adv0 {T : TX} {j : Nat} {s : PS} (hs : slk j s) : slk j (advS T s) := by
  cases s with
  | inl x => trivial
  | inr q =>
    have hs : (bR q.2).length + j ≤ q.1 := hs
    have hn := (nxT_le (T := T) (a := q.1)).1
    show (bR q.2).length + j ≤ nxT T q.1
    omega
theorem slk_tk {T : TX} {j lo hi : Nat} {s : PS} (hs : slk j s) : slk j (tkS T lo hi s) := by
  unfold tkS
  split
  · split
    · exact slk_adv0 hs
    · exact slk_flt s
  · exact slk_flt s
set_option maxRecDepth 20000 in
theorem rd_readValue {d : Nat} {E0 E : HP} {T : TX} {b : Nat} {s : PS}  (y1 : CRd E0 E T b s) (hs : slk 1 s) : ∃ o, (∃ E2, o = (.inl none, E2, 137) ∧ CRd E0 E2 T b (valS T s)) ∧ Cl yX5_readValue mX5_readValue (d + 8) 0 0 [.ref 41] E 137 o := by
  have hb := rd_b y1
  have hbs : sh b = (0, 0) := bo_1 (rd_bed y1)
  have hbn : b < 137 := by omega
  have hb5 : sh (b + 5) = (7, 0) := (rd_bed y1).2.2.2.2.2.2.2.2.2.1.1
  have hb5n : b + 5 < 137 := by omega
  refine Cx.of (by decide) rfl (fun q => by cases q) rfl rfl (Nat.le_of_ble_eq_true rfl) ?_
  show Sx _ _ _ _ _ 0 [some (.ref 41), none] [] _ _
  refine Sx.up (fun _ kk => r_aload_n 1 dX5_readValue_0 rfl rfl kk) ?_
  refine Sx.up (fun _ kk => r_callV 4 dX5_readValue_1 rfl k5_223 (rd_value (d := d + 2) y1) rfl rfl (by first | with_reducible assumption | with_reducible exact cr_bs hC | rfl) (by decide) rfl (by first | with_reducible assumption | with_reducible exact cr_bn hC | exact Nat.le_of_ble_eq_true rfl) (Nat.le_of_ble_eq_true rfl) kk) ?_
  refine Sx.up (fun _ kk => r_istore_n 5 dX5_readValue_4 rfl (by decide) rfl kk) ?_
  refine Sx.up (fun _ kk => r_iload_n 6 dX5_readValue_5 rfl rfl kk) ?_
  refine Sx.br (fun _ ka kb => r_if_ne 9 14 dX5_readValue_6 rfl (by decide) ka kb) (by first | exact em1 | exact em2) (fun h6 => ?_) (fun h6 => ?_)
  · refine Sx.up (fun _ kk => r_aload_n 15 dX5_readValue_14 rfl rfl kk) ?_
    refine Sx.up (fun _ kk => r_getR 18 dX5_readValue_15 rfl f5_35 rfl (by first | with_reducible assumption | with_reducible exact cr_bs hC | rfl) (by first | with_reducible assumption | with_reducible exact cr_bn hC | exact Nat.le_of_ble_eq_true rfl) (rd_into y1) kk) ?_
    refine Sx.up (fun _ kk => r_getR 21 dX5_readValue_18 rfl f5_192 rfl (by first | with_reducible assumption | with_reducible exact cr_bs hC | rfl) (by first | with_reducible assumption | with_reducible exact cr_bn hC | exact Nat.le_of_ble_eq_true rfl) (rd_rule y1) kk) ?_
    refine Sx.up (fun _ kk => r_iload_n 22 dX5_readValue_21 rfl rfl kk) ?_
    obtain ⟨_, ⟨E2, rfl, y2⟩, hcl2⟩ := rd_radd (d := d + 6) y1 (by first | exact hs | exact slk_flt s)
    refine Sx.up (fun _ kk => r_callV 25 dX5_readValue_22 rfl k5_198 hcl2 rfl rfl (by first | with_reducible assumption | with_reducible exact cr_bs hC | rfl) (by decide) rfl (by first | with_reducible assumption | with_reducible exact cr_bn hC | exact Nat.le_of_ble_eq_true rfl) (Nat.le_of_ble_eq_true rfl) kk) ?_
    refine Sx.up (fun _ kk => r_aload_n 26 dX5_readValue_25 rfl rfl kk) ?_
    refine Sx.up (fun _ kk => r_getR 29 dX5_readValue_26 rfl f5_19 rfl (by first | with_reducible assumption | with_reducible exact cr_bs hC | rfl) (by first | with_reducible assumption | with_reducible exact cr_bn hC | exact Nat.le_of_ble_eq_true rfl) (rd_tok y2) kk) ?_
    obtain ⟨_, ⟨E3, rfl, y3⟩, hcl3⟩ := rd_adv (d := d + 2) y2
    refine Sx.up (fun _ kk => r_callV 32 dX5_readValue_29 rfl k5_131 hcl3 rfl rfl (by first | with_reducible assumption | with_reducible exact cr_bs hC | rfl) (by decide) rfl (by first | with_reducible assumption | with_reducible exact cr_bn hC | exact Nat.le_of_ble_eq_true rfl) (Nat.le_of_ble_eq_true rfl) kk) ?_
    refine ⟨_, ?_, r_vret dX5_readValue_32 rfl rfl rfl⟩
    refine ⟨_, rfl, ?_⟩
    unfold valS
    first | (rw [if_neg h6]; exact y3) | (rw [if_pos h6, ← ru_flt (x := vlS T s), ← adv_flt]; exact y3) | (rw [if_pos h6, ← adv_flt, ← ru_flt (x := vlS T s), adv_flt]; exact y3)
  · refine Sx.up (fun _ kk => r_aload_n 10 dX5_readValue_9 rfl rfl kk) ?_
    refine Sx.up (fun _ kk => r_iconst (3) 11 dX5_readValue_10 rfl (by decide) kk) ?_
    obtain ⟨_, ⟨E4, rfl, y4⟩, hcl4⟩ := rd_refuse (d := d + 6) y1 (k := 3) (k9 := 3) rfl (by decide) (by decide)
    refine Sx.up (fun _ kk => r_callV 14 dX5_readValue_11 rfl k5_128 hcl4 rfl rfl (by first | with_reducible assumption | with_reducible exact cr_bs hC | rfl) (by decide) rfl (by first | with_reducible assumption | with_reducible exact cr_bn hC | exact Nat.le_of_ble_eq_true rfl) (Nat.le_of_ble_eq_true rfl) kk) ?_
    refine Sx.up (fun _ kk => r_aload_n 15 dX5_readValue_14 rfl rfl kk) ?_
    refine Sx.up (fun _ kk => r_getR 18 dX5_readValue_15 rfl f5_35 rfl (by first | with_reducible assumption | with_reducible exact cr_bs hC | rfl) (by first | with_reducible assumption | with_reducible exact cr_bn hC | exact Nat.le_of_ble_eq_true rfl) (rd_into y4) kk) ?_
    refine Sx.up (fun _ kk => r_getR 21 dX5_readValue_18 rfl f5_192 rfl (by first | with_reducible assumption | with_reducible exact cr_bs hC | rfl) (by first | with_reducible assumption | with_reducible exact cr_bn hC | exact Nat.le_of_ble_eq_true rfl) (rd_rule y4) kk) ?_
    refine Sx.up (fun _ kk => r_iload_n 22 dX5_readValue_21 rfl rfl kk) ?_
    obtain ⟨_, ⟨E5, rfl, y5⟩, hcl5⟩ := rd_radd (d := d + 6) y4 (by first | exact hs | exact slk_flt s)
    refine Sx.up (fun _ kk => r_callV 25 dX5_readValue_22 rfl k5_198 hcl5 rfl rfl (by first | with_reducible assumption | with_reducible exact cr_bs hC | rfl) (by decide) rfl (by first | with_reducible assumption | with_reducible exact cr_bn hC | exact Nat.le_of_ble_eq_true rfl) (Nat.le_of_ble_eq_true rfl) kk) ?_
    refine Sx.up (fun _ kk => r_aload_n 26 dX5_readValue_25 rfl rfl kk) ?_
    refine Sx.up (fun _ kk => r_getR 29 dX5_readValue_26 rfl f5_19 rfl (by first | with_reducible assumption | with_reducible exact cr_bs hC | rfl) (by first | with_reducible assumption | with_reducible exact cr_bn hC | exact Nat.le_of_ble_eq_true rfl) (rd_tok y5) kk) ?_
    obtain ⟨_, ⟨E6, rfl, y6⟩, hcl6⟩ := rd_adv (d := d + 2) y5
    refine Sx.up (fun _ kk => r_callV 32 dX5_readValue_29 rfl k5_131 hcl6 rfl rfl (by first | with_reducible assumption | with_reducible exact cr_bs hC | rfl) (by decide) rfl (by first | with_reducible assumption | with_reducible exact cr_bn hC | exact Nat.le_of_ble_eq_true rfl) (Nat.le_of_ble_eq_true rfl) kk) ?_
    refine ⟨_, ?_, r_vret dX5_readValue_32 rfl rfl rfl⟩
    refine ⟨_, rfl, ?_⟩
    unfold valS
    first | (rw [if_neg h6]; exact y6) | (rw [if_pos h6, ← ru_flt (x := vlS T s), ← adv_flt]; exact y6) | (rw [if_pos h6, ← adv_flt, ← ru_flt (x := vlS T s), adv_flt]; exact y6)
set_option maxRecDepth 20000 in
theorem rd_part {d e l : Nat} {E0 E : HP} {T : TX} {b : Nat} {s : PS} {w : Int32} (y1 : CRd E0 E T b s) (hs : slk 1 s) (hw : w = nI (6 - (l + 1))) (hl : l + 1 ≤ 6) (hex : ∀ {E : HP} {s : PS} {w : Int32}, CRd E0 E T b s → slk 1 s → w = nI (6 - l) → ∃ o, (∃ E2, o = (.inl none, E2, 137) ∧ CRd E0 E2 T b (exprS T l s)) ∧ Cl yX5_readExpr mX5_readExpr (d + e + 8) 0 0 [.ref 41, .int w] E 137 o) : ∃ o, (∃ E2, o = (.inl none, E2, 137) ∧ CRd E0 E2 T b (partS T (exprS T l) s)) ∧ Cl yX5_readPart mX5_readPart (d + e + 8 + 1) 0 0 [.ref 41, .int w] E 137 o := by
  have hb := rd_b y1
  have hbs : sh b = (0, 0) := bo_1 (rd_bed y1)
  have hbn : b < 137 := by omega
  have hb5 : sh (b + 5) = (7, 0) := (rd_bed y1).2.2.2.2.2.2.2.2.2.1.1
  have hb5n : b + 5 < 137 := by omega
  have hki := rd_kind (k := 1) y1 (by decide) (by decide)
  refine Cx.of (by decide) rfl (fun q => by cases q) rfl rfl (Nat.le_of_ble_eq_true rfl) ?_
  show Sx _ _ _ _ _ 0 [some (.ref 41), some (.int (w))] [] _ _
  refine Sx.up (fun _ kk => r_aload_n 1 dX5_readPart_0 rfl rfl kk) ?_
  refine Sx.up (fun _ kk => r_getR 4 dX5_readPart_1 rfl f5_19 rfl (by first | with_reducible assumption | with_reducible exact cr_bs hC | rfl) (by first | with_reducible assumption | with_reducible exact cr_bn hC | exact Nat.le_of_ble_eq_true rfl) (rd_tok y1) kk) ?_
  refine Sx.up (fun _ kk => r_bipush (40) 6 dX5_readPart_4 rfl (by decide) kk) ?_
  refine Sx.up (fun _ kk => r_callV 9 dX5_readPart_6 rfl k5_141 (rd_sign (d := d + e + 7) y1) rfl rfl (by first | with_reducible assumption | with_reducible exact cr_bs hC | rfl) (by decide) rfl (by first | with_reducible assumption | with_reducible exact cr_bn hC | exact Nat.le_of_ble_eq_true rfl) (Nat.le_of_ble_eq_true rfl) kk) ?_
  refine Sx.br (fun _ ka kb => r_if_eq 12 35 dX5_readPart_9 rfl (by decide) ka kb) (by first | exact em1 | exact em2) (fun h9 => ?_) (fun h9 => ?_)
  · refine Sx.up (fun _ kk => r_aload_n 36 dX5_readPart_35 rfl rfl kk) ?_
    refine Sx.up (fun _ kk => r_getR 39 dX5_readPart_36 rfl f5_19 rfl (by first | with_reducible assumption | with_reducible exact cr_bs hC | rfl) (by first | with_reducible assumption | with_reducible exact cr_bn hC | exact Nat.le_of_ble_eq_true rfl) (rd_tok y1) kk) ?_
    refine Sx.up (fun _ kk => r_getI 42 dX5_readPart_39 rfl f5_48 rfl (by first | with_reducible assumption | with_reducible exact cr_bs hC | rfl) (by first | with_reducible assumption | with_reducible exact cr_bn hC | exact Nat.le_of_ble_eq_true rfl) kk) ?_
    refine Sx.up (fun _ kk => r_iconst (1) 43 dX5_readPart_42 rfl (by decide) kk) ?_
    refine Sx.br (fun _ ka kb => r_icmp_ne 46 53 dX5_readPart_43 rfl (by decide) ka kb) (by first | exact em1 | exact em2) (fun h43 => ?_) (fun h43 => ?_)
    · refine Sx.up (fun _ kk => r_aload_n 54 dX5_readPart_53 rfl rfl kk) ?_
      refine Sx.up (fun _ kk => r_getR 57 dX5_readPart_54 rfl f5_35 rfl (by first | with_reducible assumption | with_reducible exact cr_bs hC | rfl) (by first | with_reducible assumption | with_reducible exact cr_bn hC | exact Nat.le_of_ble_eq_true rfl) (rd_into y1) kk) ?_
      refine Sx.up (fun _ kk => r_getR 60 dX5_readPart_57 rfl f5_192 rfl (by first | with_reducible assumption | with_reducible exact cr_bs hC | rfl) (by first | with_reducible assumption | with_reducible exact cr_bn hC | exact Nat.le_of_ble_eq_true rfl) (rd_rule y1) kk) ?_
      refine Sx.up (fun _ kk => r_aload_n 61 dX5_readPart_60 rfl rfl kk) ?_
      refine Sx.up (fun _ kk => r_iconst (0) 62 dX5_readPart_61 rfl (by decide) kk) ?_
      refine Sx.up (fun _ kk => r_sipush (9999) 65 dX5_readPart_62 rfl (by decide) kk) ?_
      obtain ⟨_, ⟨E2, v2, rfl, y2, hv2⟩, hcl2⟩ := rd_take (d := d + e + 2) (lo := 0) (hi := 9999) y1 rfl rfl (by decide) (by decide)
      refine Sx.up (fun _ kk => r_callV 68 dX5_readPart_65 rfl k5_109 hcl2 rfl rfl (by first | with_reducible assumption | with_reducible exact cr_bs hC | rfl) (by decide) rfl (by first | with_reducible assumption | with_reducible exact cr_bn hC | exact Nat.le_of_ble_eq_true rfl) (Nat.le_of_ble_eq_true rfl) kk) ?_
      have hru : ∃ o, (∃ E9, o = (.inl none, E9, 137) ∧ CRd E0 E9 T b (ruS (nI (vaS T s)) (tkS T 0 9999 s))) ∧ Cl yX7_add mX7_add (d + e + 8) 0 0 [.ref (b + 5), .int v2] E2 137 o := by
        obtain ⟨o9, ⟨E9, ho9, hc9⟩, hcl9⟩ := rd_radd (d := d + e + 7) (x := v2) y2 (slk_tk hs)
        refine ⟨o9, ⟨E9, ho9, ?_⟩, hcl9⟩
        cases hz : tkS T 0 9999 s with
        | inl z => rw [hz] at hc9; exact hc9
        | inr z => rw [hz] at hc9; rw [← hv2 z.1 z.2 hz]; exact hc9
      obtain ⟨_, ⟨E9, rfl, y9⟩, hcl9⟩ := hru
      refine Sx.up (fun _ kk => r_callV 71 dX5_readPart_68 rfl k5_198 hcl9 rfl rfl (by first | with_reducible assumption | with_reducible exact cr_bs hC | rfl) (by decide) rfl (by first | with_reducible assumption | with_reducible exact cr_bn hC | exact Nat.le_of_ble_eq_true rfl) (Nat.le_of_ble_eq_true rfl) kk) ?_
      refine ⟨_, ?_, r_vret dX5_readPart_71 rfl rfl rfl⟩
      refine ⟨_, rfl, ?_⟩
      unfold partS
      first | (rw [if_pos (bnz h9)]; exact y2) | (rw [if_neg (bz h9), if_pos (hki.mp h43)]; exact y2) | (rw [if_neg (bz h9), if_neg (fun z => h43 (hki.mpr z))]; exact y9)
    · refine Sx.up (fun _ kk => r_aload_n 47 dX5_readPart_46 rfl rfl kk) ?_
      obtain ⟨_, ⟨E3, rfl, y3⟩, hcl3⟩ := rd_readValue (d := d + e) y1 hs
      refine Sx.up (fun _ kk => r_callV 50 dX5_readPart_47 rfl k5_220 hcl3 rfl rfl (by first | with_reducible assumption | with_reducible exact cr_bs hC | rfl) (by decide) rfl (by first | with_reducible assumption | with_reducible exact cr_bn hC | exact Nat.le_of_ble_eq_true rfl) (Nat.le_of_ble_eq_true rfl) kk) ?_
      refine Sx.up (fun _ kk => r_goto 71 dX5_readPart_50 (by decide) kk) ?_
      refine ⟨_, ?_, r_vret dX5_readPart_71 rfl rfl rfl⟩
      refine ⟨_, rfl, ?_⟩
      unfold partS
      first | (rw [if_pos (bnz h9)]; exact y3) | (rw [if_neg (bz h9), if_pos (hki.mp h43)]; exact y3) | (rw [if_neg (bz h9), if_neg (fun z => h43 (hki.mpr z))]; exact y9)
  · refine Sx.up (fun _ kk => r_aload_n 13 dX5_readPart_12 rfl rfl kk) ?_
    refine Sx.up (fun _ kk => r_getR 16 dX5_readPart_13 rfl f5_19 rfl (by first | with_reducible assumption | with_reducible exact cr_bs hC | rfl) (by first | with_reducible assumption | with_reducible exact cr_bn hC | exact Nat.le_of_ble_eq_true rfl) (rd_tok y1) kk) ?_
    obtain ⟨_, ⟨E4, rfl, y4⟩, hcl4⟩ := rd_adv (d := d + e + 3) y1
    refine Sx.up (fun _ kk => r_callV 19 dX5_readPart_16 rfl k5_131 hcl4 rfl rfl (by first | with_reducible assumption | with_reducible exact cr_bs hC | rfl) (by decide) rfl (by first | with_reducible assumption | with_reducible exact cr_bn hC | exact Nat.le_of_ble_eq_true rfl) (Nat.le_of_ble_eq_true rfl) kk) ?_
    refine Sx.up (fun _ kk => r_aload_n 20 dX5_readPart_19 rfl rfl kk) ?_
    refine Sx.up (fun _ kk => r_iload_n 21 dX5_readPart_20 rfl rfl kk) ?_
    refine Sx.up (fun _ kk => r_iconst (1) 22 dX5_readPart_21 rfl (by decide) kk) ?_
    rw [show w + 1 = nI (6 - l) by rw [hw, nI_pp]; congr 1; omega]
    refine Sx.up (fun _ kk => r_iadd 23 dX5_readPart_22 rfl kk) ?_
    obtain ⟨_, ⟨E5, rfl, y5⟩, hcl5⟩ := hex y4 (slk_adv0 hs) rfl
    refine Sx.up (fun _ kk => r_callV 26 dX5_readPart_23 rfl k5_89 hcl5 rfl rfl (by first | with_reducible assumption | with_reducible exact cr_bs hC | rfl) (by decide) rfl (by first | with_reducible assumption | with_reducible exact cr_bn hC | exact Nat.le_of_ble_eq_true rfl) (Nat.le_of_ble_eq_true rfl) kk) ?_
    refine Sx.up (fun _ kk => r_aload_n 27 dX5_readPart_26 rfl rfl kk) ?_
    refine Sx.up (fun _ kk => r_bipush (41) 29 dX5_readPart_27 rfl (by decide) kk) ?_
    obtain ⟨_, ⟨E6, rfl, y6⟩, hcl6⟩ := rd_takeSign (d := d + e + 2) (c := 41) y5
    refine Sx.up (fun _ kk => r_callV 32 dX5_readPart_29 rfl k5_95 hcl6 rfl rfl (by first | with_reducible assumption | with_reducible exact cr_bs hC | rfl) (by decide) rfl (by first | with_reducible assumption | with_reducible exact cr_bn hC | exact Nat.le_of_ble_eq_true rfl) (Nat.le_of_ble_eq_true rfl) kk) ?_
    refine Sx.up (fun _ kk => r_goto 71 dX5_readPart_32 (by decide) kk) ?_
    refine ⟨_, ?_, r_vret dX5_readPart_71 rfl rfl rfl⟩
    refine ⟨_, rfl, ?_⟩
    unfold partS
    first | (rw [if_pos (bnz h9)]; exact y6) | (rw [if_neg (bz h9), if_pos (hki.mp h43)]; exact y6) | (rw [if_neg (bz h9), if_neg (fun z => h43 (hki.mpr z))]; exact y9)
set_option maxRecDepth 20000 in
theorem rd_prod {d e l : Nat} {E0 E : HP} {T : TX} {b : Nat} {s : PS} {w : Int32} (y1 : CRd E0 E T b s) (hs : slk 1 s) (hw : w = nI (6 - (l + 1))) (hl : l + 1 ≤ 6) (hex : ∀ {E : HP} {s : PS} {w : Int32}, CRd E0 E T b s → slk 1 s → w = nI (6 - l) → ∃ o, (∃ E2, o = (.inl none, E2, 137) ∧ CRd E0 E2 T b (exprS T l s)) ∧ Cl yX5_readExpr mX5_readExpr (d + e + 8) 0 0 [.ref 41, .int w] E 137 o) : ∃ o, (∃ E2, o = (.inl none, E2, 137) ∧ CRd E0 E2 T b (prodS T (exprS T l) s)) ∧ Cl yX5_readProduct mX5_readProduct (d + e + 8 + 2) 0 0 [.ref 41, .int w] E 137 o := by
  have hb := rd_b y1
  have hbs : sh b = (0, 0) := bo_1 (rd_bed y1)
  have hbn : b < 137 := by omega
  have hb5 : sh (b + 5) = (7, 0) := (rd_bed y1).2.2.2.2.2.2.2.2.2.1.1
  have hb5n : b + 5 < 137 := by omega
  have hs0 : slk 1 (partS T (exprS T l) s) := slk_ext (ex_part l s) hs
  refine Cx.of (by decide) rfl (fun q => by cases q) rfl rfl (Nat.le_of_ble_eq_true rfl) ?_
  show Sx _ _ _ _ _ 0 [some (.ref 41), some (.int (w)), none, none] [] _ _
  have loop := sxUp (σ := HP × PS) (S := fun k9 q => Sx mX5_readProduct (d + e + 8 + 2) 0 0 (fun o => ∃ E2, o = (.inl none, E2, 137) ∧ CRd E0 E2 T b (loopS (prodC T) (prodB T (exprS T l)) (600 - k9) q.2)) 7 [some (.ref 41), some (.int w), some (.int (nI k9)), none] [] q.1 137) (Inv := fun k9 q => CRd E0 q.1 T b q.2 ∧ slk 1 q.2) (a := 0) (l := 600) (by omega) ?_ ?_
  refine Sx.up (fun _ kk => r_aload_n 1 dX5_readProduct_0 rfl rfl kk) ?_
  refine Sx.up (fun _ kk => r_iload_n 2 dX5_readProduct_1 rfl rfl kk) ?_
  obtain ⟨_, ⟨E2, rfl, y2⟩, hcl2⟩ := rd_part y1 hs hw hl hex
  refine Sx.up (fun _ kk => r_callV 5 dX5_readProduct_2 rfl k5_217 hcl2 rfl rfl (by first | with_reducible assumption | with_reducible exact cr_bs hC | rfl) (by decide) rfl (by first | with_reducible assumption | with_reducible exact cr_bn hC | exact Nat.le_of_ble_eq_true rfl) (Nat.le_of_ble_eq_true rfl) kk) ?_
  refine Sx.up (fun _ kk => r_iconst (0) 6 dX5_readProduct_5 rfl (by decide) kk) ?_
  refine Sx.up (fun _ kk => r_istore_n 7 dX5_readProduct_6 rfl (by decide) rfl kk) ?_
  exact Sx.less (by exact ⟨rfl, rfl, rfl, trivial⟩) (loop (E2, _) ⟨y2, hs0⟩)
  · intro q ⟨y1, hs1⟩
    refine Sx.up (fun _ kk => r_iload_n 8 dX5_readProduct_7 rfl rfl kk) ?_
    refine Sx.up (fun _ kk => r_sipush (600) 11 dX5_readProduct_8 rfl (by decide) kk) ?_
    refine Sx.up (fun _ kk => r_icmp_ge 14 87 dX5_readProduct_11 rfl (by decide) (fun _ => kk) (fun h11 => absurd (by decide) h11)) ?_
    refine ⟨_, ?_, r_vret dX5_readProduct_87 rfl rfl rfl⟩
    exact ⟨_, rfl, y1⟩
  · intro k9 q hk0 hk9 ⟨y1, hs1⟩ hq
    obtain ⟨E, s⟩ := q
    have y1 : CRd E0 E T b s := y1
    have hs1 : slk 1 s := hs1
    obtain ⟨f9, hf9⟩ : ∃ f9, 600 - k9 = f9 + 1 := ⟨600 - k9 - 1, by omega⟩
    have hy : (prodC T) s = true → loopS (prodC T) (prodB T (exprS T l)) (600 - k9) s = loopS (prodC T) (prodB T (exprS T l)) (600 - (k9 + 1)) (prodB T (exprS T l) s) := fun z => by rw [hf9, show 600 - (k9 + 1) = f9 by omega]; exact if_pos z
    have hn : ¬ (prodC T) s = true → loopS (prodC T) (prodB T (exprS T l)) (600 - k9) s = s := fun z => by rw [hf9]; exact if_neg z
    refine Sx.up (fun _ kk => r_iload_n 8 dX5_readProduct_7 rfl rfl kk) ?_
    refine Sx.up (fun _ kk => r_sipush (600) 11 dX5_readProduct_8 rfl (by decide) kk) ?_
    refine Sx.up (fun _ kk => r_icmp_ge 14 87 dX5_readProduct_11 rfl (by decide) (fun h11 => absurd h11 (nI_ge (b := 600) hk9 (by omega))) (fun _ => kk)) ?_
    refine Sx.up (fun _ kk => r_aload_n 15 dX5_readProduct_14 rfl rfl kk) ?_
    refine Sx.up (fun _ kk => r_getR 18 dX5_readProduct_15 rfl f5_19 rfl (by first | with_reducible assumption | with_reducible exact cr_bs hC | rfl) (by first | with_reducible assumption | with_reducible exact cr_bn hC | exact Nat.le_of_ble_eq_true rfl) (rd_tok y1) kk) ?_
    refine Sx.up (fun _ kk => r_bipush (42) 20 dX5_readProduct_18 rfl (by decide) kk) ?_
    refine Sx.up (fun _ kk => r_callV 23 dX5_readProduct_20 rfl k5_141 (rd_sign (d := d + e + 8 + 0) y1) rfl rfl (by first | with_reducible assumption | with_reducible exact cr_bs hC | rfl) (by decide) rfl (by first | with_reducible assumption | with_reducible exact cr_bn hC | exact Nat.le_of_ble_eq_true rfl) (Nat.le_of_ble_eq_true rfl) kk) ?_
    refine Sx.br (fun _ ka kb => r_if_ne 26 38 dX5_readProduct_23 rfl (by decide) ka kb) (by first | exact em1 | exact em2) (fun h23 => ?_) (fun h23 => ?_)
    · refine Sx.up (fun _ kk => r_aload_n 39 dX5_readProduct_38 rfl rfl kk) ?_
      refine Sx.up (fun _ kk => r_getR 42 dX5_readProduct_39 rfl f5_19 rfl (by first | with_reducible assumption | with_reducible exact cr_bs hC | rfl) (by first | with_reducible assumption | with_reducible exact cr_bn hC | exact Nat.le_of_ble_eq_true rfl) (rd_tok y1) kk) ?_
      refine Sx.up (fun _ kk => r_bipush (42) 44 dX5_readProduct_42 rfl (by decide) kk) ?_
      refine Sx.up (fun _ kk => r_callV 47 dX5_readProduct_44 rfl k5_141 (rd_sign (d := d + e + 8 + 0) y1) rfl rfl (by first | with_reducible assumption | with_reducible exact cr_bs hC | rfl) (by decide) rfl (by first | with_reducible assumption | with_reducible exact cr_bn hC | exact Nat.le_of_ble_eq_true rfl) (Nat.le_of_ble_eq_true rfl) kk) ?_
      refine Sx.br (fun _ ka kb => r_if_eq 50 55 dX5_readProduct_47 rfl (by decide) ka kb) (by first | exact em1 | exact em2) (fun h47 => ?_) (fun h47 => ?_)
      · have hc : prodC T s = true := by unfold prodC; rw [Bool.or_eq_true]; exact (by first | exact Or.inl (bnz h23) | exact Or.inr (bnz h35))
        have hop : (if sgS T 42 s = true then (-15 : Int32) else -16) = -16 := if_neg (bz h47)
        refine Sx.up (fun _ kk => r_bipush (-16) 57 dX5_readProduct_55 rfl (by decide) kk) ?_
        refine Sx.up (fun _ kk => r_istore_n 58 dX5_readProduct_57 rfl (by decide) rfl kk) ?_
        refine Sx.up (fun _ kk => r_aload_n 59 dX5_readProduct_58 rfl rfl kk) ?_
        refine Sx.up (fun _ kk => r_getR 62 dX5_readProduct_59 rfl f5_19 rfl (by first | with_reducible assumption | with_reducible exact cr_bs hC | rfl) (by first | with_reducible assumption | with_reducible exact cr_bn hC | exact Nat.le_of_ble_eq_true rfl) (rd_tok y1) kk) ?_
        obtain ⟨_, ⟨E2, rfl, y2⟩, hcl2⟩ := rd_adv (d := d + e + 4) y1
        refine Sx.up (fun _ kk => r_callV 65 dX5_readProduct_62 rfl k5_131 hcl2 rfl rfl (by first | with_reducible assumption | with_reducible exact cr_bs hC | rfl) (by decide) rfl (by first | with_reducible assumption | with_reducible exact cr_bn hC | exact Nat.le_of_ble_eq_true rfl) (Nat.le_of_ble_eq_true rfl) kk) ?_
        refine Sx.up (fun _ kk => r_aload_n 66 dX5_readProduct_65 rfl rfl kk) ?_
        refine Sx.up (fun _ kk => r_iload_n 67 dX5_readProduct_66 rfl rfl kk) ?_
        obtain ⟨_, ⟨E3, rfl, y3⟩, hcl3⟩ := rd_part y2 (slk_mono (by decide) (slk_adv (liv_or hc) hs1)) hw hl hex
        refine Sx.up (fun _ kk => r_callV 70 dX5_readProduct_67 rfl k5_217 hcl3 rfl rfl (by first | with_reducible assumption | with_reducible exact cr_bs hC | rfl) (by decide) rfl (by first | with_reducible assumption | with_reducible exact cr_bn hC | exact Nat.le_of_ble_eq_true rfl) (Nat.le_of_ble_eq_true rfl) kk) ?_
        refine Sx.up (fun _ kk => r_aload_n 71 dX5_readProduct_70 rfl rfl kk) ?_
        refine Sx.up (fun _ kk => r_getR 74 dX5_readProduct_71 rfl f5_35 rfl (by first | with_reducible assumption | with_reducible exact cr_bs hC | rfl) (by first | with_reducible assumption | with_reducible exact cr_bn hC | exact Nat.le_of_ble_eq_true rfl) (rd_into y3) kk) ?_
        refine Sx.up (fun _ kk => r_getR 77 dX5_readProduct_74 rfl f5_192 rfl (by first | with_reducible assumption | with_reducible exact cr_bs hC | rfl) (by first | with_reducible assumption | with_reducible exact cr_bn hC | exact Nat.le_of_ble_eq_true rfl) (rd_rule y3) kk) ?_
        refine Sx.up (fun _ kk => r_iload_n 78 dX5_readProduct_77 rfl rfl kk) ?_
        obtain ⟨_, ⟨E4, rfl, y4⟩, hcl4⟩ := rd_radd (d := d + e + 8) y3 (slk_mono (by decide) (slk_ext (ex_part l _) (slk_adv (liv_or hc) hs1)))
        refine Sx.up (fun _ kk => r_callV 81 dX5_readProduct_78 rfl k5_198 hcl4 rfl rfl (by first | with_reducible assumption | with_reducible exact cr_bs hC | rfl) (by decide) rfl (by first | with_reducible assumption | with_reducible exact cr_bn hC | exact Nat.le_of_ble_eq_true rfl) (Nat.le_of_ble_eq_true rfl) kk) ?_
        refine Sx.up (fun _ kk => r_iinc (1) 84 dX5_readProduct_81 rfl rfl (by decide) (by decide) rfl kk) ?_
        refine Sx.up (fun _ kk => r_goto 7 dX5_readProduct_84 (by decide) kk) ?_
        rw [hy hc]
        have hgo := hq (_, prodB T (exprS T l) s) ⟨by unfold prodB; rw [hop]; exact y4, by unfold prodB; exact slk_ru (slk_ext (ex_part l _) (slk_adv (liv_or hc) hs1))⟩
        rw [nI_pp]
        exact Sx.less (by exact ⟨rfl, rfl, rfl, trivial⟩) hgo
      · have hc : prodC T s = true := by unfold prodC; rw [Bool.or_eq_true]; exact (by first | exact Or.inl (bnz h23) | exact Or.inr (bnz h35))
        have hop : (if sgS T 42 s = true then (-15 : Int32) else -16) = -15 := if_pos (bnz h47)
        refine Sx.up (fun _ kk => r_bipush (-15) 52 dX5_readProduct_50 rfl (by decide) kk) ?_
        refine Sx.up (fun _ kk => r_goto 57 dX5_readProduct_52 (by decide) kk) ?_
        refine Sx.up (fun _ kk => r_istore_n 58 dX5_readProduct_57 rfl (by decide) rfl kk) ?_
        refine Sx.up (fun _ kk => r_aload_n 59 dX5_readProduct_58 rfl rfl kk) ?_
        refine Sx.up (fun _ kk => r_getR 62 dX5_readProduct_59 rfl f5_19 rfl (by first | with_reducible assumption | with_reducible exact cr_bs hC | rfl) (by first | with_reducible assumption | with_reducible exact cr_bn hC | exact Nat.le_of_ble_eq_true rfl) (rd_tok y1) kk) ?_
        obtain ⟨_, ⟨E5, rfl, y5⟩, hcl5⟩ := rd_adv (d := d + e + 4) y1
        refine Sx.up (fun _ kk => r_callV 65 dX5_readProduct_62 rfl k5_131 hcl5 rfl rfl (by first | with_reducible assumption | with_reducible exact cr_bs hC | rfl) (by decide) rfl (by first | with_reducible assumption | with_reducible exact cr_bn hC | exact Nat.le_of_ble_eq_true rfl) (Nat.le_of_ble_eq_true rfl) kk) ?_
        refine Sx.up (fun _ kk => r_aload_n 66 dX5_readProduct_65 rfl rfl kk) ?_
        refine Sx.up (fun _ kk => r_iload_n 67 dX5_readProduct_66 rfl rfl kk) ?_
        obtain ⟨_, ⟨E6, rfl, y6⟩, hcl6⟩ := rd_part y5 (slk_mono (by decide) (slk_adv (liv_or hc) hs1)) hw hl hex
        refine Sx.up (fun _ kk => r_callV 70 dX5_readProduct_67 rfl k5_217 hcl6 rfl rfl (by first | with_reducible assumption | with_reducible exact cr_bs hC | rfl) (by decide) rfl (by first | with_reducible assumption | with_reducible exact cr_bn hC | exact Nat.le_of_ble_eq_true rfl) (Nat.le_of_ble_eq_true rfl) kk) ?_
        refine Sx.up (fun _ kk => r_aload_n 71 dX5_readProduct_70 rfl rfl kk) ?_
        refine Sx.up (fun _ kk => r_getR 74 dX5_readProduct_71 rfl f5_35 rfl (by first | with_reducible assumption | with_reducible exact cr_bs hC | rfl) (by first | with_reducible assumption | with_reducible exact cr_bn hC | exact Nat.le_of_ble_eq_true rfl) (rd_into y6) kk) ?_
        refine Sx.up (fun _ kk => r_getR 77 dX5_readProduct_74 rfl f5_192 rfl (by first | with_reducible assumption | with_reducible exact cr_bs hC | rfl) (by first | with_reducible assumption | with_reducible exact cr_bn hC | exact Nat.le_of_ble_eq_true rfl) (rd_rule y6) kk) ?_
        refine Sx.up (fun _ kk => r_iload_n 78 dX5_readProduct_77 rfl rfl kk) ?_
        obtain ⟨_, ⟨E7, rfl, y7⟩, hcl7⟩ := rd_radd (d := d + e + 8) y6 (slk_mono (by decide) (slk_ext (ex_part l _) (slk_adv (liv_or hc) hs1)))
        refine Sx.up (fun _ kk => r_callV 81 dX5_readProduct_78 rfl k5_198 hcl7 rfl rfl (by first | with_reducible assumption | with_reducible exact cr_bs hC | rfl) (by decide) rfl (by first | with_reducible assumption | with_reducible exact cr_bn hC | exact Nat.le_of_ble_eq_true rfl) (Nat.le_of_ble_eq_true rfl) kk) ?_
        refine Sx.up (fun _ kk => r_iinc (1) 84 dX5_readProduct_81 rfl rfl (by decide) (by decide) rfl kk) ?_
        refine Sx.up (fun _ kk => r_goto 7 dX5_readProduct_84 (by decide) kk) ?_
        rw [hy hc]
        have hgo := hq (_, prodB T (exprS T l) s) ⟨by unfold prodB; rw [hop]; exact y7, by unfold prodB; exact slk_ru (slk_ext (ex_part l _) (slk_adv (liv_or hc) hs1))⟩
        rw [nI_pp]
        exact Sx.less (by exact ⟨rfl, rfl, rfl, trivial⟩) hgo
    · refine Sx.up (fun _ kk => r_aload_n 27 dX5_readProduct_26 rfl rfl kk) ?_
      refine Sx.up (fun _ kk => r_getR 30 dX5_readProduct_27 rfl f5_19 rfl (by first | with_reducible assumption | with_reducible exact cr_bs hC | rfl) (by first | with_reducible assumption | with_reducible exact cr_bn hC | exact Nat.le_of_ble_eq_true rfl) (rd_tok y1) kk) ?_
      refine Sx.up (fun _ kk => r_bipush (47) 32 dX5_readProduct_30 rfl (by decide) kk) ?_
      refine Sx.up (fun _ kk => r_callV 35 dX5_readProduct_32 rfl k5_141 (rd_sign (d := d + e + 8 + 0) y1) rfl rfl (by first | with_reducible assumption | with_reducible exact cr_bs hC | rfl) (by decide) rfl (by first | with_reducible assumption | with_reducible exact cr_bn hC | exact Nat.le_of_ble_eq_true rfl) (Nat.le_of_ble_eq_true rfl) kk) ?_
      refine Sx.br (fun _ ka kb => r_if_eq 38 87 dX5_readProduct_35 rfl (by decide) ka kb) (by first | exact em1 | exact em2) (fun h35 => ?_) (fun h35 => ?_)
      · refine ⟨_, ?_, r_vret dX5_readProduct_87 rfl rfl rfl⟩
        exact ⟨_, rfl, by rw [hn (fun z => by unfold prodC at z; rw [Bool.or_eq_true] at z; exact z.elim (bz h23) (bz h35))]; exact y1⟩
      · refine Sx.up (fun _ kk => r_aload_n 39 dX5_readProduct_38 rfl rfl kk) ?_
        refine Sx.up (fun _ kk => r_getR 42 dX5_readProduct_39 rfl f5_19 rfl (by first | with_reducible assumption | with_reducible exact cr_bs hC | rfl) (by first | with_reducible assumption | with_reducible exact cr_bn hC | exact Nat.le_of_ble_eq_true rfl) (rd_tok y1) kk) ?_
        refine Sx.up (fun _ kk => r_bipush (42) 44 dX5_readProduct_42 rfl (by decide) kk) ?_
        refine Sx.up (fun _ kk => r_callV 47 dX5_readProduct_44 rfl k5_141 (rd_sign (d := d + e + 8 + 0) y1) rfl rfl (by first | with_reducible assumption | with_reducible exact cr_bs hC | rfl) (by decide) rfl (by first | with_reducible assumption | with_reducible exact cr_bn hC | exact Nat.le_of_ble_eq_true rfl) (Nat.le_of_ble_eq_true rfl) kk) ?_
        refine Sx.br (fun _ ka kb => r_if_eq 50 55 dX5_readProduct_47 rfl (by decide) ka kb) (by first | exact em1 | exact em2) (fun h47 => ?_) (fun h47 => ?_)
        · have hc : prodC T s = true := by unfold prodC; rw [Bool.or_eq_true]; exact (by first | exact Or.inl (bnz h23) | exact Or.inr (bnz h35))
          have hop : (if sgS T 42 s = true then (-15 : Int32) else -16) = -16 := if_neg (bz h47)
          refine Sx.up (fun _ kk => r_bipush (-16) 57 dX5_readProduct_55 rfl (by decide) kk) ?_
          refine Sx.up (fun _ kk => r_istore_n 58 dX5_readProduct_57 rfl (by decide) rfl kk) ?_
          refine Sx.up (fun _ kk => r_aload_n 59 dX5_readProduct_58 rfl rfl kk) ?_
          refine Sx.up (fun _ kk => r_getR 62 dX5_readProduct_59 rfl f5_19 rfl (by first | with_reducible assumption | with_reducible exact cr_bs hC | rfl) (by first | with_reducible assumption | with_reducible exact cr_bn hC | exact Nat.le_of_ble_eq_true rfl) (rd_tok y1) kk) ?_
          obtain ⟨_, ⟨E8, rfl, y8⟩, hcl8⟩ := rd_adv (d := d + e + 4) y1
          refine Sx.up (fun _ kk => r_callV 65 dX5_readProduct_62 rfl k5_131 hcl8 rfl rfl (by first | with_reducible assumption | with_reducible exact cr_bs hC | rfl) (by decide) rfl (by first | with_reducible assumption | with_reducible exact cr_bn hC | exact Nat.le_of_ble_eq_true rfl) (Nat.le_of_ble_eq_true rfl) kk) ?_
          refine Sx.up (fun _ kk => r_aload_n 66 dX5_readProduct_65 rfl rfl kk) ?_
          refine Sx.up (fun _ kk => r_iload_n 67 dX5_readProduct_66 rfl rfl kk) ?_
          obtain ⟨_, ⟨E9, rfl, y9⟩, hcl9⟩ := rd_part y8 (slk_mono (by decide) (slk_adv (liv_or hc) hs1)) hw hl hex
          refine Sx.up (fun _ kk => r_callV 70 dX5_readProduct_67 rfl k5_217 hcl9 rfl rfl (by first | with_reducible assumption | with_reducible exact cr_bs hC | rfl) (by decide) rfl (by first | with_reducible assumption | with_reducible exact cr_bn hC | exact Nat.le_of_ble_eq_true rfl) (Nat.le_of_ble_eq_true rfl) kk) ?_
          refine Sx.up (fun _ kk => r_aload_n 71 dX5_readProduct_70 rfl rfl kk) ?_
          refine Sx.up (fun _ kk => r_getR 74 dX5_readProduct_71 rfl f5_35 rfl (by first | with_reducible assumption | with_reducible exact cr_bs hC | rfl) (by first | with_reducible assumption | with_reducible exact cr_bn hC | exact Nat.le_of_ble_eq_true rfl) (rd_into y9) kk) ?_
          refine Sx.up (fun _ kk => r_getR 77 dX5_readProduct_74 rfl f5_192 rfl (by first | with_reducible assumption | with_reducible exact cr_bs hC | rfl) (by first | with_reducible assumption | with_reducible exact cr_bn hC | exact Nat.le_of_ble_eq_true rfl) (rd_rule y9) kk) ?_
          refine Sx.up (fun _ kk => r_iload_n 78 dX5_readProduct_77 rfl rfl kk) ?_
          obtain ⟨_, ⟨E10, rfl, y10⟩, hcl10⟩ := rd_radd (d := d + e + 8) y9 (slk_mono (by decide) (slk_ext (ex_part l _) (slk_adv (liv_or hc) hs1)))
          refine Sx.up (fun _ kk => r_callV 81 dX5_readProduct_78 rfl k5_198 hcl10 rfl rfl (by first | with_reducible assumption | with_reducible exact cr_bs hC | rfl) (by decide) rfl (by first | with_reducible assumption | with_reducible exact cr_bn hC | exact Nat.le_of_ble_eq_true rfl) (Nat.le_of_ble_eq_true rfl) kk) ?_
          refine Sx.up (fun _ kk => r_iinc (1) 84 dX5_readProduct_81 rfl rfl (by decide) (by decide) rfl kk) ?_
          refine Sx.up (fun _ kk => r_goto 7 dX5_readProduct_84 (by decide) kk) ?_
          rw [hy hc]
          have hgo := hq (_, prodB T (exprS T l) s) ⟨by unfold prodB; rw [hop]; exact y10, by unfold prodB; exact slk_ru (slk_ext (ex_part l _) (slk_adv (liv_or hc) hs1))⟩
          rw [nI_pp]
          exact Sx.less (by exact ⟨rfl, rfl, rfl, trivial⟩) hgo
        · have hc : prodC T s = true := by unfold prodC; rw [Bool.or_eq_true]; exact (by first | exact Or.inl (bnz h23) | exact Or.inr (bnz h35))
          have hop : (if sgS T 42 s = true then (-15 : Int32) else -16) = -15 := if_pos (bnz h47)
          refine Sx.up (fun _ kk => r_bipush (-15) 52 dX5_readProduct_50 rfl (by decide) kk) ?_
          refine Sx.up (fun _ kk => r_goto 57 dX5_readProduct_52 (by decide) kk) ?_
          refine Sx.up (fun _ kk => r_istore_n 58 dX5_readProduct_57 rfl (by decide) rfl kk) ?_
          refine Sx.up (fun _ kk => r_aload_n 59 dX5_readProduct_58 rfl rfl kk) ?_
          refine Sx.up (fun _ kk => r_getR 62 dX5_readProduct_59 rfl f5_19 rfl (by first | with_reducible assumption | with_reducible exact cr_bs hC | rfl) (by first | with_reducible assumption | with_reducible exact cr_bn hC | exact Nat.le_of_ble_eq_true rfl) (rd_tok y1) kk) ?_
          obtain ⟨_, ⟨E11, rfl, y11⟩, hcl11⟩ := rd_adv (d := d + e + 4) y1
          refine Sx.up (fun _ kk => r_callV 65 dX5_readProduct_62 rfl k5_131 hcl11 rfl rfl (by first | with_reducible assumption | with_reducible exact cr_bs hC | rfl) (by decide) rfl (by first | with_reducible assumption | with_reducible exact cr_bn hC | exact Nat.le_of_ble_eq_true rfl) (Nat.le_of_ble_eq_true rfl) kk) ?_
          refine Sx.up (fun _ kk => r_aload_n 66 dX5_readProduct_65 rfl rfl kk) ?_
          refine Sx.up (fun _ kk => r_iload_n 67 dX5_readProduct_66 rfl rfl kk) ?_
          obtain ⟨_, ⟨E12, rfl, y12⟩, hcl12⟩ := rd_part y11 (slk_mono (by decide) (slk_adv (liv_or hc) hs1)) hw hl hex
          refine Sx.up (fun _ kk => r_callV 70 dX5_readProduct_67 rfl k5_217 hcl12 rfl rfl (by first | with_reducible assumption | with_reducible exact cr_bs hC | rfl) (by decide) rfl (by first | with_reducible assumption | with_reducible exact cr_bn hC | exact Nat.le_of_ble_eq_true rfl) (Nat.le_of_ble_eq_true rfl) kk) ?_
          refine Sx.up (fun _ kk => r_aload_n 71 dX5_readProduct_70 rfl rfl kk) ?_
          refine Sx.up (fun _ kk => r_getR 74 dX5_readProduct_71 rfl f5_35 rfl (by first | with_reducible assumption | with_reducible exact cr_bs hC | rfl) (by first | with_reducible assumption | with_reducible exact cr_bn hC | exact Nat.le_of_ble_eq_true rfl) (rd_into y12) kk) ?_
          refine Sx.up (fun _ kk => r_getR 77 dX5_readProduct_74 rfl f5_192 rfl (by first | with_reducible assumption | with_reducible exact cr_bs hC | rfl) (by first | with_reducible assumption | with_reducible exact cr_bn hC | exact Nat.le_of_ble_eq_true rfl) (rd_rule y12) kk) ?_
          refine Sx.up (fun _ kk => r_iload_n 78 dX5_readProduct_77 rfl rfl kk) ?_
          obtain ⟨_, ⟨E13, rfl, y13⟩, hcl13⟩ := rd_radd (d := d + e + 8) y12 (slk_mono (by decide) (slk_ext (ex_part l _) (slk_adv (liv_or hc) hs1)))
          refine Sx.up (fun _ kk => r_callV 81 dX5_readProduct_78 rfl k5_198 hcl13 rfl rfl (by first | with_reducible assumption | with_reducible exact cr_bs hC | rfl) (by decide) rfl (by first | with_reducible assumption | with_reducible exact cr_bn hC | exact Nat.le_of_ble_eq_true rfl) (Nat.le_of_ble_eq_true rfl) kk) ?_
          refine Sx.up (fun _ kk => r_iinc (1) 84 dX5_readProduct_81 rfl rfl (by decide) (by decide) rfl kk) ?_
          refine Sx.up (fun _ kk => r_goto 7 dX5_readProduct_84 (by decide) kk) ?_
          rw [hy hc]
          have hgo := hq (_, prodB T (exprS T l) s) ⟨by unfold prodB; rw [hop]; exact y13, by unfold prodB; exact slk_ru (slk_ext (ex_part l _) (slk_adv (liv_or hc) hs1))⟩
          rw [nI_pp]
          exact Sx.less (by exact ⟨rfl, rfl, rfl, trivial⟩) hgo
set_option maxRecDepth 20000 in
theorem rd_sum {d e l : Nat} {E0 E : HP} {T : TX} {b : Nat} {s : PS} {w : Int32} (y1 : CRd E0 E T b s) (hs : slk 1 s) (hw : w = nI (6 - (l + 1))) (hl : l + 1 ≤ 6) (hex : ∀ {E : HP} {s : PS} {w : Int32}, CRd E0 E T b s → slk 1 s → w = nI (6 - l) → ∃ o, (∃ E2, o = (.inl none, E2, 137) ∧ CRd E0 E2 T b (exprS T l s)) ∧ Cl yX5_readExpr mX5_readExpr (d + e + 8) 0 0 [.ref 41, .int w] E 137 o) : ∃ o, (∃ E2, o = (.inl none, E2, 137) ∧ CRd E0 E2 T b (sumS T (exprS T l) s)) ∧ Cl yX5_readSum mX5_readSum (d + e + 8 + 3) 0 0 [.ref 41, .int w] E 137 o := by
  have hb := rd_b y1
  have hbs : sh b = (0, 0) := bo_1 (rd_bed y1)
  have hbn : b < 137 := by omega
  have hb5 : sh (b + 5) = (7, 0) := (rd_bed y1).2.2.2.2.2.2.2.2.2.1.1
  have hb5n : b + 5 < 137 := by omega
  have hs0 : slk 1 (prodS T (exprS T l) s) := slk_ext (ex_prod l s) hs
  refine Cx.of (by decide) rfl (fun q => by cases q) rfl rfl (Nat.le_of_ble_eq_true rfl) ?_
  show Sx _ _ _ _ _ 0 [some (.ref 41), some (.int (w)), none, none] [] _ _
  have loop := sxUp (σ := HP × PS) (S := fun k9 q => Sx mX5_readSum (d + e + 8 + 3) 0 0 (fun o => ∃ E2, o = (.inl none, E2, 137) ∧ CRd E0 E2 T b (loopS (sumC T) (sumB T (exprS T l)) (600 - k9) q.2)) 7 [some (.ref 41), some (.int w), some (.int (nI k9)), none] [] q.1 137) (Inv := fun k9 q => CRd E0 q.1 T b q.2 ∧ slk 1 q.2) (a := 0) (l := 600) (by omega) ?_ ?_
  refine Sx.up (fun _ kk => r_aload_n 1 dX5_readSum_0 rfl rfl kk) ?_
  refine Sx.up (fun _ kk => r_iload_n 2 dX5_readSum_1 rfl rfl kk) ?_
  obtain ⟨_, ⟨E2, rfl, y2⟩, hcl2⟩ := rd_prod y1 hs hw hl hex
  refine Sx.up (fun _ kk => r_callV 5 dX5_readSum_2 rfl k5_214 hcl2 rfl rfl (by first | with_reducible assumption | with_reducible exact cr_bs hC | rfl) (by decide) rfl (by first | with_reducible assumption | with_reducible exact cr_bn hC | exact Nat.le_of_ble_eq_true rfl) (Nat.le_of_ble_eq_true rfl) kk) ?_
  refine Sx.up (fun _ kk => r_iconst (0) 6 dX5_readSum_5 rfl (by decide) kk) ?_
  refine Sx.up (fun _ kk => r_istore_n 7 dX5_readSum_6 rfl (by decide) rfl kk) ?_
  exact Sx.less (by exact ⟨rfl, rfl, rfl, trivial⟩) (loop (E2, _) ⟨y2, hs0⟩)
  · intro q ⟨y1, hs1⟩
    refine Sx.up (fun _ kk => r_iload_n 8 dX5_readSum_7 rfl rfl kk) ?_
    refine Sx.up (fun _ kk => r_sipush (600) 11 dX5_readSum_8 rfl (by decide) kk) ?_
    refine Sx.up (fun _ kk => r_icmp_ge 14 87 dX5_readSum_11 rfl (by decide) (fun _ => kk) (fun h11 => absurd (by decide) h11)) ?_
    refine ⟨_, ?_, r_vret dX5_readSum_87 rfl rfl rfl⟩
    exact ⟨_, rfl, y1⟩
  · intro k9 q hk0 hk9 ⟨y1, hs1⟩ hq
    obtain ⟨E, s⟩ := q
    have y1 : CRd E0 E T b s := y1
    have hs1 : slk 1 s := hs1
    obtain ⟨f9, hf9⟩ : ∃ f9, 600 - k9 = f9 + 1 := ⟨600 - k9 - 1, by omega⟩
    have hy : (sumC T) s = true → loopS (sumC T) (sumB T (exprS T l)) (600 - k9) s = loopS (sumC T) (sumB T (exprS T l)) (600 - (k9 + 1)) (sumB T (exprS T l) s) := fun z => by rw [hf9, show 600 - (k9 + 1) = f9 by omega]; exact if_pos z
    have hn : ¬ (sumC T) s = true → loopS (sumC T) (sumB T (exprS T l)) (600 - k9) s = s := fun z => by rw [hf9]; exact if_neg z
    refine Sx.up (fun _ kk => r_iload_n 8 dX5_readSum_7 rfl rfl kk) ?_
    refine Sx.up (fun _ kk => r_sipush (600) 11 dX5_readSum_8 rfl (by decide) kk) ?_
    refine Sx.up (fun _ kk => r_icmp_ge 14 87 dX5_readSum_11 rfl (by decide) (fun h11 => absurd h11 (nI_ge (b := 600) hk9 (by omega))) (fun _ => kk)) ?_
    refine Sx.up (fun _ kk => r_aload_n 15 dX5_readSum_14 rfl rfl kk) ?_
    refine Sx.up (fun _ kk => r_getR 18 dX5_readSum_15 rfl f5_19 rfl (by first | with_reducible assumption | with_reducible exact cr_bs hC | rfl) (by first | with_reducible assumption | with_reducible exact cr_bn hC | exact Nat.le_of_ble_eq_true rfl) (rd_tok y1) kk) ?_
    refine Sx.up (fun _ kk => r_bipush (43) 20 dX5_readSum_18 rfl (by decide) kk) ?_
    refine Sx.up (fun _ kk => r_callV 23 dX5_readSum_20 rfl k5_141 (rd_sign (d := d + e + 8 + 1) y1) rfl rfl (by first | with_reducible assumption | with_reducible exact cr_bs hC | rfl) (by decide) rfl (by first | with_reducible assumption | with_reducible exact cr_bn hC | exact Nat.le_of_ble_eq_true rfl) (Nat.le_of_ble_eq_true rfl) kk) ?_
    refine Sx.br (fun _ ka kb => r_if_ne 26 38 dX5_readSum_23 rfl (by decide) ka kb) (by first | exact em1 | exact em2) (fun h23 => ?_) (fun h23 => ?_)
    · refine Sx.up (fun _ kk => r_aload_n 39 dX5_readSum_38 rfl rfl kk) ?_
      refine Sx.up (fun _ kk => r_getR 42 dX5_readSum_39 rfl f5_19 rfl (by first | with_reducible assumption | with_reducible exact cr_bs hC | rfl) (by first | with_reducible assumption | with_reducible exact cr_bn hC | exact Nat.le_of_ble_eq_true rfl) (rd_tok y1) kk) ?_
      refine Sx.up (fun _ kk => r_bipush (43) 44 dX5_readSum_42 rfl (by decide) kk) ?_
      refine Sx.up (fun _ kk => r_callV 47 dX5_readSum_44 rfl k5_141 (rd_sign (d := d + e + 8 + 1) y1) rfl rfl (by first | with_reducible assumption | with_reducible exact cr_bs hC | rfl) (by decide) rfl (by first | with_reducible assumption | with_reducible exact cr_bn hC | exact Nat.le_of_ble_eq_true rfl) (Nat.le_of_ble_eq_true rfl) kk) ?_
      refine Sx.br (fun _ ka kb => r_if_eq 50 55 dX5_readSum_47 rfl (by decide) ka kb) (by first | exact em1 | exact em2) (fun h47 => ?_) (fun h47 => ?_)
      · have hc : sumC T s = true := by unfold sumC; rw [Bool.or_eq_true]; exact (by first | exact Or.inl (bnz h23) | exact Or.inr (bnz h35))
        have hop : (if sgS T 43 s = true then (-13 : Int32) else -14) = -14 := if_neg (bz h47)
        refine Sx.up (fun _ kk => r_bipush (-14) 57 dX5_readSum_55 rfl (by decide) kk) ?_
        refine Sx.up (fun _ kk => r_istore_n 58 dX5_readSum_57 rfl (by decide) rfl kk) ?_
        refine Sx.up (fun _ kk => r_aload_n 59 dX5_readSum_58 rfl rfl kk) ?_
        refine Sx.up (fun _ kk => r_getR 62 dX5_readSum_59 rfl f5_19 rfl (by first | with_reducible assumption | with_reducible exact cr_bs hC | rfl) (by first | with_reducible assumption | with_reducible exact cr_bn hC | exact Nat.le_of_ble_eq_true rfl) (rd_tok y1) kk) ?_
        obtain ⟨_, ⟨E2, rfl, y2⟩, hcl2⟩ := rd_adv (d := d + e + 5) y1
        refine Sx.up (fun _ kk => r_callV 65 dX5_readSum_62 rfl k5_131 hcl2 rfl rfl (by first | with_reducible assumption | with_reducible exact cr_bs hC | rfl) (by decide) rfl (by first | with_reducible assumption | with_reducible exact cr_bn hC | exact Nat.le_of_ble_eq_true rfl) (Nat.le_of_ble_eq_true rfl) kk) ?_
        refine Sx.up (fun _ kk => r_aload_n 66 dX5_readSum_65 rfl rfl kk) ?_
        refine Sx.up (fun _ kk => r_iload_n 67 dX5_readSum_66 rfl rfl kk) ?_
        obtain ⟨_, ⟨E3, rfl, y3⟩, hcl3⟩ := rd_prod y2 (slk_mono (by decide) (slk_adv (liv_or hc) hs1)) hw hl hex
        refine Sx.up (fun _ kk => r_callV 70 dX5_readSum_67 rfl k5_214 hcl3 rfl rfl (by first | with_reducible assumption | with_reducible exact cr_bs hC | rfl) (by decide) rfl (by first | with_reducible assumption | with_reducible exact cr_bn hC | exact Nat.le_of_ble_eq_true rfl) (Nat.le_of_ble_eq_true rfl) kk) ?_
        refine Sx.up (fun _ kk => r_aload_n 71 dX5_readSum_70 rfl rfl kk) ?_
        refine Sx.up (fun _ kk => r_getR 74 dX5_readSum_71 rfl f5_35 rfl (by first | with_reducible assumption | with_reducible exact cr_bs hC | rfl) (by first | with_reducible assumption | with_reducible exact cr_bn hC | exact Nat.le_of_ble_eq_true rfl) (rd_into y3) kk) ?_
        refine Sx.up (fun _ kk => r_getR 77 dX5_readSum_74 rfl f5_192 rfl (by first | with_reducible assumption | with_reducible exact cr_bs hC | rfl) (by first | with_reducible assumption | with_reducible exact cr_bn hC | exact Nat.le_of_ble_eq_true rfl) (rd_rule y3) kk) ?_
        refine Sx.up (fun _ kk => r_iload_n 78 dX5_readSum_77 rfl rfl kk) ?_
        obtain ⟨_, ⟨E4, rfl, y4⟩, hcl4⟩ := rd_radd (d := d + e + 9) y3 (slk_mono (by decide) (slk_ext (ex_prod l _) (slk_adv (liv_or hc) hs1)))
        refine Sx.up (fun _ kk => r_callV 81 dX5_readSum_78 rfl k5_198 hcl4 rfl rfl (by first | with_reducible assumption | with_reducible exact cr_bs hC | rfl) (by decide) rfl (by first | with_reducible assumption | with_reducible exact cr_bn hC | exact Nat.le_of_ble_eq_true rfl) (Nat.le_of_ble_eq_true rfl) kk) ?_
        refine Sx.up (fun _ kk => r_iinc (1) 84 dX5_readSum_81 rfl rfl (by decide) (by decide) rfl kk) ?_
        refine Sx.up (fun _ kk => r_goto 7 dX5_readSum_84 (by decide) kk) ?_
        rw [hy hc]
        have hgo := hq (_, sumB T (exprS T l) s) ⟨by unfold sumB; rw [hop]; exact y4, by unfold sumB; exact slk_ru (slk_ext (ex_prod l _) (slk_adv (liv_or hc) hs1))⟩
        rw [nI_pp]
        exact Sx.less (by exact ⟨rfl, rfl, rfl, trivial⟩) hgo
      · have hc : sumC T s = true := by unfold sumC; rw [Bool.or_eq_true]; exact (by first | exact Or.inl (bnz h23) | exact Or.inr (bnz h35))
        have hop : (if sgS T 43 s = true then (-13 : Int32) else -14) = -13 := if_pos (bnz h47)
        refine Sx.up (fun _ kk => r_bipush (-13) 52 dX5_readSum_50 rfl (by decide) kk) ?_
        refine Sx.up (fun _ kk => r_goto 57 dX5_readSum_52 (by decide) kk) ?_
        refine Sx.up (fun _ kk => r_istore_n 58 dX5_readSum_57 rfl (by decide) rfl kk) ?_
        refine Sx.up (fun _ kk => r_aload_n 59 dX5_readSum_58 rfl rfl kk) ?_
        refine Sx.up (fun _ kk => r_getR 62 dX5_readSum_59 rfl f5_19 rfl (by first | with_reducible assumption | with_reducible exact cr_bs hC | rfl) (by first | with_reducible assumption | with_reducible exact cr_bn hC | exact Nat.le_of_ble_eq_true rfl) (rd_tok y1) kk) ?_
        obtain ⟨_, ⟨E5, rfl, y5⟩, hcl5⟩ := rd_adv (d := d + e + 5) y1
        refine Sx.up (fun _ kk => r_callV 65 dX5_readSum_62 rfl k5_131 hcl5 rfl rfl (by first | with_reducible assumption | with_reducible exact cr_bs hC | rfl) (by decide) rfl (by first | with_reducible assumption | with_reducible exact cr_bn hC | exact Nat.le_of_ble_eq_true rfl) (Nat.le_of_ble_eq_true rfl) kk) ?_
        refine Sx.up (fun _ kk => r_aload_n 66 dX5_readSum_65 rfl rfl kk) ?_
        refine Sx.up (fun _ kk => r_iload_n 67 dX5_readSum_66 rfl rfl kk) ?_
        obtain ⟨_, ⟨E6, rfl, y6⟩, hcl6⟩ := rd_prod y5 (slk_mono (by decide) (slk_adv (liv_or hc) hs1)) hw hl hex
        refine Sx.up (fun _ kk => r_callV 70 dX5_readSum_67 rfl k5_214 hcl6 rfl rfl (by first | with_reducible assumption | with_reducible exact cr_bs hC | rfl) (by decide) rfl (by first | with_reducible assumption | with_reducible exact cr_bn hC | exact Nat.le_of_ble_eq_true rfl) (Nat.le_of_ble_eq_true rfl) kk) ?_
        refine Sx.up (fun _ kk => r_aload_n 71 dX5_readSum_70 rfl rfl kk) ?_
        refine Sx.up (fun _ kk => r_getR 74 dX5_readSum_71 rfl f5_35 rfl (by first | with_reducible assumption | with_reducible exact cr_bs hC | rfl) (by first | with_reducible assumption | with_reducible exact cr_bn hC | exact Nat.le_of_ble_eq_true rfl) (rd_into y6) kk) ?_
        refine Sx.up (fun _ kk => r_getR 77 dX5_readSum_74 rfl f5_192 rfl (by first | with_reducible assumption | with_reducible exact cr_bs hC | rfl) (by first | with_reducible assumption | with_reducible exact cr_bn hC | exact Nat.le_of_ble_eq_true rfl) (rd_rule y6) kk) ?_
        refine Sx.up (fun _ kk => r_iload_n 78 dX5_readSum_77 rfl rfl kk) ?_
        obtain ⟨_, ⟨E7, rfl, y7⟩, hcl7⟩ := rd_radd (d := d + e + 9) y6 (slk_mono (by decide) (slk_ext (ex_prod l _) (slk_adv (liv_or hc) hs1)))
        refine Sx.up (fun _ kk => r_callV 81 dX5_readSum_78 rfl k5_198 hcl7 rfl rfl (by first | with_reducible assumption | with_reducible exact cr_bs hC | rfl) (by decide) rfl (by first | with_reducible assumption | with_reducible exact cr_bn hC | exact Nat.le_of_ble_eq_true rfl) (Nat.le_of_ble_eq_true rfl) kk) ?_
        refine Sx.up (fun _ kk => r_iinc (1) 84 dX5_readSum_81 rfl rfl (by decide) (by decide) rfl kk) ?_
        refine Sx.up (fun _ kk => r_goto 7 dX5_readSum_84 (by decide) kk) ?_
        rw [hy hc]
        have hgo := hq (_, sumB T (exprS T l) s) ⟨by unfold sumB; rw [hop]; exact y7, by unfold sumB; exact slk_ru (slk_ext (ex_prod l _) (slk_adv (liv_or hc) hs1))⟩
        rw [nI_pp]
        exact Sx.less (by exact ⟨rfl, rfl, rfl, trivial⟩) hgo
    · refine Sx.up (fun _ kk => r_aload_n 27 dX5_readSum_26 rfl rfl kk) ?_
      refine Sx.up (fun _ kk => r_getR 30 dX5_readSum_27 rfl f5_19 rfl (by first | with_reducible assumption | with_reducible exact cr_bs hC | rfl) (by first | with_reducible assumption | with_reducible exact cr_bn hC | exact Nat.le_of_ble_eq_true rfl) (rd_tok y1) kk) ?_
      refine Sx.up (fun _ kk => r_bipush (45) 32 dX5_readSum_30 rfl (by decide) kk) ?_
      refine Sx.up (fun _ kk => r_callV 35 dX5_readSum_32 rfl k5_141 (rd_sign (d := d + e + 8 + 1) y1) rfl rfl (by first | with_reducible assumption | with_reducible exact cr_bs hC | rfl) (by decide) rfl (by first | with_reducible assumption | with_reducible exact cr_bn hC | exact Nat.le_of_ble_eq_true rfl) (Nat.le_of_ble_eq_true rfl) kk) ?_
      refine Sx.br (fun _ ka kb => r_if_eq 38 87 dX5_readSum_35 rfl (by decide) ka kb) (by first | exact em1 | exact em2) (fun h35 => ?_) (fun h35 => ?_)
      · refine ⟨_, ?_, r_vret dX5_readSum_87 rfl rfl rfl⟩
        exact ⟨_, rfl, by rw [hn (fun z => by unfold sumC at z; rw [Bool.or_eq_true] at z; exact z.elim (bz h23) (bz h35))]; exact y1⟩
      · refine Sx.up (fun _ kk => r_aload_n 39 dX5_readSum_38 rfl rfl kk) ?_
        refine Sx.up (fun _ kk => r_getR 42 dX5_readSum_39 rfl f5_19 rfl (by first | with_reducible assumption | with_reducible exact cr_bs hC | rfl) (by first | with_reducible assumption | with_reducible exact cr_bn hC | exact Nat.le_of_ble_eq_true rfl) (rd_tok y1) kk) ?_
        refine Sx.up (fun _ kk => r_bipush (43) 44 dX5_readSum_42 rfl (by decide) kk) ?_
        refine Sx.up (fun _ kk => r_callV 47 dX5_readSum_44 rfl k5_141 (rd_sign (d := d + e + 8 + 1) y1) rfl rfl (by first | with_reducible assumption | with_reducible exact cr_bs hC | rfl) (by decide) rfl (by first | with_reducible assumption | with_reducible exact cr_bn hC | exact Nat.le_of_ble_eq_true rfl) (Nat.le_of_ble_eq_true rfl) kk) ?_
        refine Sx.br (fun _ ka kb => r_if_eq 50 55 dX5_readSum_47 rfl (by decide) ka kb) (by first | exact em1 | exact em2) (fun h47 => ?_) (fun h47 => ?_)
        · have hc : sumC T s = true := by unfold sumC; rw [Bool.or_eq_true]; exact (by first | exact Or.inl (bnz h23) | exact Or.inr (bnz h35))
          have hop : (if sgS T 43 s = true then (-13 : Int32) else -14) = -14 := if_neg (bz h47)
          refine Sx.up (fun _ kk => r_bipush (-14) 57 dX5_readSum_55 rfl (by decide) kk) ?_
          refine Sx.up (fun _ kk => r_istore_n 58 dX5_readSum_57 rfl (by decide) rfl kk) ?_
          refine Sx.up (fun _ kk => r_aload_n 59 dX5_readSum_58 rfl rfl kk) ?_
          refine Sx.up (fun _ kk => r_getR 62 dX5_readSum_59 rfl f5_19 rfl (by first | with_reducible assumption | with_reducible exact cr_bs hC | rfl) (by first | with_reducible assumption | with_reducible exact cr_bn hC | exact Nat.le_of_ble_eq_true rfl) (rd_tok y1) kk) ?_
          obtain ⟨_, ⟨E8, rfl, y8⟩, hcl8⟩ := rd_adv (d := d + e + 5) y1
          refine Sx.up (fun _ kk => r_callV 65 dX5_readSum_62 rfl k5_131 hcl8 rfl rfl (by first | with_reducible assumption | with_reducible exact cr_bs hC | rfl) (by decide) rfl (by first | with_reducible assumption | with_reducible exact cr_bn hC | exact Nat.le_of_ble_eq_true rfl) (Nat.le_of_ble_eq_true rfl) kk) ?_
          refine Sx.up (fun _ kk => r_aload_n 66 dX5_readSum_65 rfl rfl kk) ?_
          refine Sx.up (fun _ kk => r_iload_n 67 dX5_readSum_66 rfl rfl kk) ?_
          obtain ⟨_, ⟨E9, rfl, y9⟩, hcl9⟩ := rd_prod y8 (slk_mono (by decide) (slk_adv (liv_or hc) hs1)) hw hl hex
          refine Sx.up (fun _ kk => r_callV 70 dX5_readSum_67 rfl k5_214 hcl9 rfl rfl (by first | with_reducible assumption | with_reducible exact cr_bs hC | rfl) (by decide) rfl (by first | with_reducible assumption | with_reducible exact cr_bn hC | exact Nat.le_of_ble_eq_true rfl) (Nat.le_of_ble_eq_true rfl) kk) ?_
          refine Sx.up (fun _ kk => r_aload_n 71 dX5_readSum_70 rfl rfl kk) ?_
          refine Sx.up (fun _ kk => r_getR 74 dX5_readSum_71 rfl f5_35 rfl (by first | with_reducible assumption | with_reducible exact cr_bs hC | rfl) (by first | with_reducible assumption | with_reducible exact cr_bn hC | exact Nat.le_of_ble_eq_true rfl) (rd_into y9) kk) ?_
          refine Sx.up (fun _ kk => r_getR 77 dX5_readSum_74 rfl f5_192 rfl (by first | with_reducible assumption | with_reducible exact cr_bs hC | rfl) (by first | with_reducible assumption | with_reducible exact cr_bn hC | exact Nat.le_of_ble_eq_true rfl) (rd_rule y9) kk) ?_
          refine Sx.up (fun _ kk => r_iload_n 78 dX5_readSum_77 rfl rfl kk) ?_
          obtain ⟨_, ⟨E10, rfl, y10⟩, hcl10⟩ := rd_radd (d := d + e + 9) y9 (slk_mono (by decide) (slk_ext (ex_prod l _) (slk_adv (liv_or hc) hs1)))
          refine Sx.up (fun _ kk => r_callV 81 dX5_readSum_78 rfl k5_198 hcl10 rfl rfl (by first | with_reducible assumption | with_reducible exact cr_bs hC | rfl) (by decide) rfl (by first | with_reducible assumption | with_reducible exact cr_bn hC | exact Nat.le_of_ble_eq_true rfl) (Nat.le_of_ble_eq_true rfl) kk) ?_
          refine Sx.up (fun _ kk => r_iinc (1) 84 dX5_readSum_81 rfl rfl (by decide) (by decide) rfl kk) ?_
          refine Sx.up (fun _ kk => r_goto 7 dX5_readSum_84 (by decide) kk) ?_
          rw [hy hc]
          have hgo := hq (_, sumB T (exprS T l) s) ⟨by unfold sumB; rw [hop]; exact y10, by unfold sumB; exact slk_ru (slk_ext (ex_prod l _) (slk_adv (liv_or hc) hs1))⟩
          rw [nI_pp]
          exact Sx.less (by exact ⟨rfl, rfl, rfl, trivial⟩) hgo
        · have hc : sumC T s = true := by unfold sumC; rw [Bool.or_eq_true]; exact (by first | exact Or.inl (bnz h23) | exact Or.inr (bnz h35))
          have hop : (if sgS T 43 s = true then (-13 : Int32) else -14) = -13 := if_pos (bnz h47)
          refine Sx.up (fun _ kk => r_bipush (-13) 52 dX5_readSum_50 rfl (by decide) kk) ?_
          refine Sx.up (fun _ kk => r_goto 57 dX5_readSum_52 (by decide) kk) ?_
          refine Sx.up (fun _ kk => r_istore_n 58 dX5_readSum_57 rfl (by decide) rfl kk) ?_
          refine Sx.up (fun _ kk => r_aload_n 59 dX5_readSum_58 rfl rfl kk) ?_
          refine Sx.up (fun _ kk => r_getR 62 dX5_readSum_59 rfl f5_19 rfl (by first | with_reducible assumption | with_reducible exact cr_bs hC | rfl) (by first | with_reducible assumption | with_reducible exact cr_bn hC | exact Nat.le_of_ble_eq_true rfl) (rd_tok y1) kk) ?_
          obtain ⟨_, ⟨E11, rfl, y11⟩, hcl11⟩ := rd_adv (d := d + e + 5) y1
          refine Sx.up (fun _ kk => r_callV 65 dX5_readSum_62 rfl k5_131 hcl11 rfl rfl (by first | with_reducible assumption | with_reducible exact cr_bs hC | rfl) (by decide) rfl (by first | with_reducible assumption | with_reducible exact cr_bn hC | exact Nat.le_of_ble_eq_true rfl) (Nat.le_of_ble_eq_true rfl) kk) ?_
          refine Sx.up (fun _ kk => r_aload_n 66 dX5_readSum_65 rfl rfl kk) ?_
          refine Sx.up (fun _ kk => r_iload_n 67 dX5_readSum_66 rfl rfl kk) ?_
          obtain ⟨_, ⟨E12, rfl, y12⟩, hcl12⟩ := rd_prod y11 (slk_mono (by decide) (slk_adv (liv_or hc) hs1)) hw hl hex
          refine Sx.up (fun _ kk => r_callV 70 dX5_readSum_67 rfl k5_214 hcl12 rfl rfl (by first | with_reducible assumption | with_reducible exact cr_bs hC | rfl) (by decide) rfl (by first | with_reducible assumption | with_reducible exact cr_bn hC | exact Nat.le_of_ble_eq_true rfl) (Nat.le_of_ble_eq_true rfl) kk) ?_
          refine Sx.up (fun _ kk => r_aload_n 71 dX5_readSum_70 rfl rfl kk) ?_
          refine Sx.up (fun _ kk => r_getR 74 dX5_readSum_71 rfl f5_35 rfl (by first | with_reducible assumption | with_reducible exact cr_bs hC | rfl) (by first | with_reducible assumption | with_reducible exact cr_bn hC | exact Nat.le_of_ble_eq_true rfl) (rd_into y12) kk) ?_
          refine Sx.up (fun _ kk => r_getR 77 dX5_readSum_74 rfl f5_192 rfl (by first | with_reducible assumption | with_reducible exact cr_bs hC | rfl) (by first | with_reducible assumption | with_reducible exact cr_bn hC | exact Nat.le_of_ble_eq_true rfl) (rd_rule y12) kk) ?_
          refine Sx.up (fun _ kk => r_iload_n 78 dX5_readSum_77 rfl rfl kk) ?_
          obtain ⟨_, ⟨E13, rfl, y13⟩, hcl13⟩ := rd_radd (d := d + e + 9) y12 (slk_mono (by decide) (slk_ext (ex_prod l _) (slk_adv (liv_or hc) hs1)))
          refine Sx.up (fun _ kk => r_callV 81 dX5_readSum_78 rfl k5_198 hcl13 rfl rfl (by first | with_reducible assumption | with_reducible exact cr_bs hC | rfl) (by decide) rfl (by first | with_reducible assumption | with_reducible exact cr_bn hC | exact Nat.le_of_ble_eq_true rfl) (Nat.le_of_ble_eq_true rfl) kk) ?_
          refine Sx.up (fun _ kk => r_iinc (1) 84 dX5_readSum_81 rfl rfl (by decide) (by decide) rfl kk) ?_
          refine Sx.up (fun _ kk => r_goto 7 dX5_readSum_84 (by decide) kk) ?_
          rw [hy hc]
          have hgo := hq (_, sumB T (exprS T l) s) ⟨by unfold sumB; rw [hop]; exact y13, by unfold sumB; exact slk_ru (slk_ext (ex_prod l _) (slk_adv (liv_or hc) hs1))⟩
          rw [nI_pp]
          exact Sx.less (by exact ⟨rfl, rfl, rfl, trivial⟩) hgo
set_option maxRecDepth 20000 in
theorem rd_test {d e l : Nat} {E0 E : HP} {T : TX} {b : Nat} {s : PS} {w : Int32} (y1 : CRd E0 E T b s) (hs : slk 1 s) (hw : w = nI (6 - (l + 1))) (hl : l + 1 ≤ 6) (hex : ∀ {E : HP} {s : PS} {w : Int32}, CRd E0 E T b s → slk 1 s → w = nI (6 - l) → ∃ o, (∃ E2, o = (.inl none, E2, 137) ∧ CRd E0 E2 T b (exprS T l s)) ∧ Cl yX5_readExpr mX5_readExpr (d + e + 8) 0 0 [.ref 41, .int w] E 137 o) : ∃ o, (∃ E2, o = (.inl none, E2, 137) ∧ CRd E0 E2 T b (testS T (exprS T l) s)) ∧ Cl yX5_readTest mX5_readTest (d + e + 8 + 4) 0 0 [.ref 41, .int w] E 137 o := by
  have hb := rd_b y1
  have hbs : sh b = (0, 0) := bo_1 (rd_bed y1)
  have hbn : b < 137 := by omega
  have hb5 : sh (b + 5) = (7, 0) := (rd_bed y1).2.2.2.2.2.2.2.2.2.1.1
  have hb5n : b + 5 < 137 := by omega
  have hs0 : slk 1 (sumS T (exprS T l) s) := slk_ext (ex_sum l s) hs
  refine Cx.of (by decide) rfl (fun q => by cases q) rfl rfl (Nat.le_of_ble_eq_true rfl) ?_
  show Sx _ _ _ _ _ 0 [some (.ref 41), some (.int (w)), none] [] _ _
  refine Sx.up (fun _ kk => r_aload_n 1 dX5_readTest_0 rfl rfl kk) ?_
  refine Sx.up (fun _ kk => r_iload_n 2 dX5_readTest_1 rfl rfl kk) ?_
  obtain ⟨_, ⟨E2, rfl, y2⟩, hcl2⟩ := rd_sum y1 hs hw hl hex
  refine Sx.up (fun _ kk => r_callV 5 dX5_readTest_2 rfl k5_211 hcl2 rfl rfl (by first | with_reducible assumption | with_reducible exact cr_bs hC | rfl) (by decide) rfl (by first | with_reducible assumption | with_reducible exact cr_bn hC | exact Nat.le_of_ble_eq_true rfl) (Nat.le_of_ble_eq_true rfl) kk) ?_
  refine Sx.up (fun _ kk => r_aload_n 6 dX5_readTest_5 rfl rfl kk) ?_
  refine Sx.up (fun _ kk => r_getR 9 dX5_readTest_6 rfl f5_19 rfl (by first | with_reducible assumption | with_reducible exact cr_bs hC | rfl) (by first | with_reducible assumption | with_reducible exact cr_bn hC | exact Nat.le_of_ble_eq_true rfl) (rd_tok y2) kk) ?_
  refine Sx.up (fun _ kk => r_bipush (60) 11 dX5_readTest_9 rfl (by decide) kk) ?_
  refine Sx.up (fun _ kk => r_callV 14 dX5_readTest_11 rfl k5_141 (rd_sign (d := d + e + 10) y2) rfl rfl (by first | with_reducible assumption | with_reducible exact cr_bs hC | rfl) (by decide) rfl (by first | with_reducible assumption | with_reducible exact cr_bn hC | exact Nat.le_of_ble_eq_true rfl) (Nat.le_of_ble_eq_true rfl) kk) ?_
  refine Sx.br (fun _ ka kb => r_if_ne 17 29 dX5_readTest_14 rfl (by decide) ka kb) (by first | exact em1 | exact em2) (fun h14 => ?_) (fun h14 => ?_)
  · refine Sx.up (fun _ kk => r_aload_n 30 dX5_readTest_29 rfl rfl kk) ?_
    refine Sx.up (fun _ kk => r_getR 33 dX5_readTest_30 rfl f5_19 rfl (by first | with_reducible assumption | with_reducible exact cr_bs hC | rfl) (by first | with_reducible assumption | with_reducible exact cr_bn hC | exact Nat.le_of_ble_eq_true rfl) (rd_tok y2) kk) ?_
    refine Sx.up (fun _ kk => r_bipush (60) 35 dX5_readTest_33 rfl (by decide) kk) ?_
    refine Sx.up (fun _ kk => r_callV 38 dX5_readTest_35 rfl k5_141 (rd_sign (d := d + e + 10) y2) rfl rfl (by first | with_reducible assumption | with_reducible exact cr_bs hC | rfl) (by decide) rfl (by first | with_reducible assumption | with_reducible exact cr_bn hC | exact Nat.le_of_ble_eq_true rfl) (Nat.le_of_ble_eq_true rfl) kk) ?_
    refine Sx.br (fun _ ka kb => r_if_eq 41 46 dX5_readTest_38 rfl (by decide) ka kb) (by first | exact em1 | exact em2) (fun h38 => ?_) (fun h38 => ?_)
    · have hc : testC T (sumS T (exprS T l) s) = true := by unfold testC; rw [Bool.or_eq_true]; first | exact Or.inl (bnz h14) | exact Or.inr (bnz h26)
      have hop : (if sgS T 60 (sumS T (exprS T l) s) = true then (-11 : Int32) else -12) = -12 := if_neg (bz h38)
      refine Sx.up (fun _ kk => r_bipush (-12) 48 dX5_readTest_46 rfl (by decide) kk) ?_
      refine Sx.up (fun _ kk => r_istore_n 49 dX5_readTest_48 rfl (by decide) rfl kk) ?_
      refine Sx.up (fun _ kk => r_aload_n 50 dX5_readTest_49 rfl rfl kk) ?_
      refine Sx.up (fun _ kk => r_getR 53 dX5_readTest_50 rfl f5_19 rfl (by first | with_reducible assumption | with_reducible exact cr_bs hC | rfl) (by first | with_reducible assumption | with_reducible exact cr_bn hC | exact Nat.le_of_ble_eq_true rfl) (rd_tok y2) kk) ?_
      obtain ⟨_, ⟨E3, rfl, y3⟩, hcl3⟩ := rd_adv (d := d + e + 6) y2
      refine Sx.up (fun _ kk => r_callV 56 dX5_readTest_53 rfl k5_131 hcl3 rfl rfl (by first | with_reducible assumption | with_reducible exact cr_bs hC | rfl) (by decide) rfl (by first | with_reducible assumption | with_reducible exact cr_bn hC | exact Nat.le_of_ble_eq_true rfl) (Nat.le_of_ble_eq_true rfl) kk) ?_
      refine Sx.up (fun _ kk => r_aload_n 57 dX5_readTest_56 rfl rfl kk) ?_
      refine Sx.up (fun _ kk => r_iload_n 58 dX5_readTest_57 rfl rfl kk) ?_
      obtain ⟨_, ⟨E4, rfl, y4⟩, hcl4⟩ := rd_sum y3 (slk_mono (by decide) (slk_adv (liv_or hc) hs0)) hw hl hex
      refine Sx.up (fun _ kk => r_callV 61 dX5_readTest_58 rfl k5_211 hcl4 rfl rfl (by first | with_reducible assumption | with_reducible exact cr_bs hC | rfl) (by decide) rfl (by first | with_reducible assumption | with_reducible exact cr_bn hC | exact Nat.le_of_ble_eq_true rfl) (Nat.le_of_ble_eq_true rfl) kk) ?_
      refine Sx.up (fun _ kk => r_aload_n 62 dX5_readTest_61 rfl rfl kk) ?_
      refine Sx.up (fun _ kk => r_getR 65 dX5_readTest_62 rfl f5_35 rfl (by first | with_reducible assumption | with_reducible exact cr_bs hC | rfl) (by first | with_reducible assumption | with_reducible exact cr_bn hC | exact Nat.le_of_ble_eq_true rfl) (rd_into y4) kk) ?_
      refine Sx.up (fun _ kk => r_getR 68 dX5_readTest_65 rfl f5_192 rfl (by first | with_reducible assumption | with_reducible exact cr_bs hC | rfl) (by first | with_reducible assumption | with_reducible exact cr_bn hC | exact Nat.le_of_ble_eq_true rfl) (rd_rule y4) kk) ?_
      refine Sx.up (fun _ kk => r_iload_n 69 dX5_readTest_68 rfl rfl kk) ?_
      obtain ⟨_, ⟨E5, rfl, y5⟩, hcl5⟩ := rd_radd (d := d + e + 10) y4 (slk_mono (by decide) (slk_ext (ex_sum l _) (slk_adv (liv_or hc) hs0)))
      refine Sx.up (fun _ kk => r_callV 72 dX5_readTest_69 rfl k5_198 hcl5 rfl rfl (by first | with_reducible assumption | with_reducible exact cr_bs hC | rfl) (by decide) rfl (by first | with_reducible assumption | with_reducible exact cr_bn hC | exact Nat.le_of_ble_eq_true rfl) (Nat.le_of_ble_eq_true rfl) kk) ?_
      refine ⟨_, ?_, r_vret dX5_readTest_72 rfl rfl rfl⟩
      refine ⟨_, rfl, ?_⟩
      unfold testS
      first | (rw [if_pos hc]; unfold testB; rw [hop]; exact y5) | (rw [if_neg (fun z => by unfold testC at z; rw [Bool.or_eq_true] at z; exact z.elim (bz h14) (bz h26))]; exact y5)
    · have hc : testC T (sumS T (exprS T l) s) = true := by unfold testC; rw [Bool.or_eq_true]; first | exact Or.inl (bnz h14) | exact Or.inr (bnz h26)
      have hop : (if sgS T 60 (sumS T (exprS T l) s) = true then (-11 : Int32) else -12) = -11 := if_pos (bnz h38)
      refine Sx.up (fun _ kk => r_bipush (-11) 43 dX5_readTest_41 rfl (by decide) kk) ?_
      refine Sx.up (fun _ kk => r_goto 48 dX5_readTest_43 (by decide) kk) ?_
      refine Sx.up (fun _ kk => r_istore_n 49 dX5_readTest_48 rfl (by decide) rfl kk) ?_
      refine Sx.up (fun _ kk => r_aload_n 50 dX5_readTest_49 rfl rfl kk) ?_
      refine Sx.up (fun _ kk => r_getR 53 dX5_readTest_50 rfl f5_19 rfl (by first | with_reducible assumption | with_reducible exact cr_bs hC | rfl) (by first | with_reducible assumption | with_reducible exact cr_bn hC | exact Nat.le_of_ble_eq_true rfl) (rd_tok y2) kk) ?_
      obtain ⟨_, ⟨E6, rfl, y6⟩, hcl6⟩ := rd_adv (d := d + e + 6) y2
      refine Sx.up (fun _ kk => r_callV 56 dX5_readTest_53 rfl k5_131 hcl6 rfl rfl (by first | with_reducible assumption | with_reducible exact cr_bs hC | rfl) (by decide) rfl (by first | with_reducible assumption | with_reducible exact cr_bn hC | exact Nat.le_of_ble_eq_true rfl) (Nat.le_of_ble_eq_true rfl) kk) ?_
      refine Sx.up (fun _ kk => r_aload_n 57 dX5_readTest_56 rfl rfl kk) ?_
      refine Sx.up (fun _ kk => r_iload_n 58 dX5_readTest_57 rfl rfl kk) ?_
      obtain ⟨_, ⟨E7, rfl, y7⟩, hcl7⟩ := rd_sum y6 (slk_mono (by decide) (slk_adv (liv_or hc) hs0)) hw hl hex
      refine Sx.up (fun _ kk => r_callV 61 dX5_readTest_58 rfl k5_211 hcl7 rfl rfl (by first | with_reducible assumption | with_reducible exact cr_bs hC | rfl) (by decide) rfl (by first | with_reducible assumption | with_reducible exact cr_bn hC | exact Nat.le_of_ble_eq_true rfl) (Nat.le_of_ble_eq_true rfl) kk) ?_
      refine Sx.up (fun _ kk => r_aload_n 62 dX5_readTest_61 rfl rfl kk) ?_
      refine Sx.up (fun _ kk => r_getR 65 dX5_readTest_62 rfl f5_35 rfl (by first | with_reducible assumption | with_reducible exact cr_bs hC | rfl) (by first | with_reducible assumption | with_reducible exact cr_bn hC | exact Nat.le_of_ble_eq_true rfl) (rd_into y7) kk) ?_
      refine Sx.up (fun _ kk => r_getR 68 dX5_readTest_65 rfl f5_192 rfl (by first | with_reducible assumption | with_reducible exact cr_bs hC | rfl) (by first | with_reducible assumption | with_reducible exact cr_bn hC | exact Nat.le_of_ble_eq_true rfl) (rd_rule y7) kk) ?_
      refine Sx.up (fun _ kk => r_iload_n 69 dX5_readTest_68 rfl rfl kk) ?_
      obtain ⟨_, ⟨E8, rfl, y8⟩, hcl8⟩ := rd_radd (d := d + e + 10) y7 (slk_mono (by decide) (slk_ext (ex_sum l _) (slk_adv (liv_or hc) hs0)))
      refine Sx.up (fun _ kk => r_callV 72 dX5_readTest_69 rfl k5_198 hcl8 rfl rfl (by first | with_reducible assumption | with_reducible exact cr_bs hC | rfl) (by decide) rfl (by first | with_reducible assumption | with_reducible exact cr_bn hC | exact Nat.le_of_ble_eq_true rfl) (Nat.le_of_ble_eq_true rfl) kk) ?_
      refine ⟨_, ?_, r_vret dX5_readTest_72 rfl rfl rfl⟩
      refine ⟨_, rfl, ?_⟩
      unfold testS
      first | (rw [if_pos hc]; unfold testB; rw [hop]; exact y8) | (rw [if_neg (fun z => by unfold testC at z; rw [Bool.or_eq_true] at z; exact z.elim (bz h14) (bz h26))]; exact y8)
  · refine Sx.up (fun _ kk => r_aload_n 18 dX5_readTest_17 rfl rfl kk) ?_
    refine Sx.up (fun _ kk => r_getR 21 dX5_readTest_18 rfl f5_19 rfl (by first | with_reducible assumption | with_reducible exact cr_bs hC | rfl) (by first | with_reducible assumption | with_reducible exact cr_bn hC | exact Nat.le_of_ble_eq_true rfl) (rd_tok y2) kk) ?_
    refine Sx.up (fun _ kk => r_bipush (61) 23 dX5_readTest_21 rfl (by decide) kk) ?_
    refine Sx.up (fun _ kk => r_callV 26 dX5_readTest_23 rfl k5_141 (rd_sign (d := d + e + 10) y2) rfl rfl (by first | with_reducible assumption | with_reducible exact cr_bs hC | rfl) (by decide) rfl (by first | with_reducible assumption | with_reducible exact cr_bn hC | exact Nat.le_of_ble_eq_true rfl) (Nat.le_of_ble_eq_true rfl) kk) ?_
    refine Sx.br (fun _ ka kb => r_if_eq 29 72 dX5_readTest_26 rfl (by decide) ka kb) (by first | exact em1 | exact em2) (fun h26 => ?_) (fun h26 => ?_)
    · refine ⟨_, ?_, r_vret dX5_readTest_72 rfl rfl rfl⟩
      refine ⟨_, rfl, ?_⟩
      unfold testS
      first | (rw [if_pos hc]; unfold testB; rw [hop]; exact y2) | (rw [if_neg (fun z => by unfold testC at z; rw [Bool.or_eq_true] at z; exact z.elim (bz h14) (bz h26))]; exact y2)
    · refine Sx.up (fun _ kk => r_aload_n 30 dX5_readTest_29 rfl rfl kk) ?_
      refine Sx.up (fun _ kk => r_getR 33 dX5_readTest_30 rfl f5_19 rfl (by first | with_reducible assumption | with_reducible exact cr_bs hC | rfl) (by first | with_reducible assumption | with_reducible exact cr_bn hC | exact Nat.le_of_ble_eq_true rfl) (rd_tok y2) kk) ?_
      refine Sx.up (fun _ kk => r_bipush (60) 35 dX5_readTest_33 rfl (by decide) kk) ?_
      refine Sx.up (fun _ kk => r_callV 38 dX5_readTest_35 rfl k5_141 (rd_sign (d := d + e + 10) y2) rfl rfl (by first | with_reducible assumption | with_reducible exact cr_bs hC | rfl) (by decide) rfl (by first | with_reducible assumption | with_reducible exact cr_bn hC | exact Nat.le_of_ble_eq_true rfl) (Nat.le_of_ble_eq_true rfl) kk) ?_
      refine Sx.br (fun _ ka kb => r_if_eq 41 46 dX5_readTest_38 rfl (by decide) ka kb) (by first | exact em1 | exact em2) (fun h38 => ?_) (fun h38 => ?_)
      · have hc : testC T (sumS T (exprS T l) s) = true := by unfold testC; rw [Bool.or_eq_true]; first | exact Or.inl (bnz h14) | exact Or.inr (bnz h26)
        have hop : (if sgS T 60 (sumS T (exprS T l) s) = true then (-11 : Int32) else -12) = -12 := if_neg (bz h38)
        refine Sx.up (fun _ kk => r_bipush (-12) 48 dX5_readTest_46 rfl (by decide) kk) ?_
        refine Sx.up (fun _ kk => r_istore_n 49 dX5_readTest_48 rfl (by decide) rfl kk) ?_
        refine Sx.up (fun _ kk => r_aload_n 50 dX5_readTest_49 rfl rfl kk) ?_
        refine Sx.up (fun _ kk => r_getR 53 dX5_readTest_50 rfl f5_19 rfl (by first | with_reducible assumption | with_reducible exact cr_bs hC | rfl) (by first | with_reducible assumption | with_reducible exact cr_bn hC | exact Nat.le_of_ble_eq_true rfl) (rd_tok y2) kk) ?_
        obtain ⟨_, ⟨E9, rfl, y9⟩, hcl9⟩ := rd_adv (d := d + e + 6) y2
        refine Sx.up (fun _ kk => r_callV 56 dX5_readTest_53 rfl k5_131 hcl9 rfl rfl (by first | with_reducible assumption | with_reducible exact cr_bs hC | rfl) (by decide) rfl (by first | with_reducible assumption | with_reducible exact cr_bn hC | exact Nat.le_of_ble_eq_true rfl) (Nat.le_of_ble_eq_true rfl) kk) ?_
        refine Sx.up (fun _ kk => r_aload_n 57 dX5_readTest_56 rfl rfl kk) ?_
        refine Sx.up (fun _ kk => r_iload_n 58 dX5_readTest_57 rfl rfl kk) ?_
        obtain ⟨_, ⟨E10, rfl, y10⟩, hcl10⟩ := rd_sum y9 (slk_mono (by decide) (slk_adv (liv_or hc) hs0)) hw hl hex
        refine Sx.up (fun _ kk => r_callV 61 dX5_readTest_58 rfl k5_211 hcl10 rfl rfl (by first | with_reducible assumption | with_reducible exact cr_bs hC | rfl) (by decide) rfl (by first | with_reducible assumption | with_reducible exact cr_bn hC | exact Nat.le_of_ble_eq_true rfl) (Nat.le_of_ble_eq_true rfl) kk) ?_
        refine Sx.up (fun _ kk => r_aload_n 62 dX5_readTest_61 rfl rfl kk) ?_
        refine Sx.up (fun _ kk => r_getR 65 dX5_readTest_62 rfl f5_35 rfl (by first | with_reducible assumption | with_reducible exact cr_bs hC | rfl) (by first | with_reducible assumption | with_reducible exact cr_bn hC | exact Nat.le_of_ble_eq_true rfl) (rd_into y10) kk) ?_
        refine Sx.up (fun _ kk => r_getR 68 dX5_readTest_65 rfl f5_192 rfl (by first | with_reducible assumption | with_reducible exact cr_bs hC | rfl) (by first | with_reducible assumption | with_reducible exact cr_bn hC | exact Nat.le_of_ble_eq_true rfl) (rd_rule y10) kk) ?_
        refine Sx.up (fun _ kk => r_iload_n 69 dX5_readTest_68 rfl rfl kk) ?_
        obtain ⟨_, ⟨E11, rfl, y11⟩, hcl11⟩ := rd_radd (d := d + e + 10) y10 (slk_mono (by decide) (slk_ext (ex_sum l _) (slk_adv (liv_or hc) hs0)))
        refine Sx.up (fun _ kk => r_callV 72 dX5_readTest_69 rfl k5_198 hcl11 rfl rfl (by first | with_reducible assumption | with_reducible exact cr_bs hC | rfl) (by decide) rfl (by first | with_reducible assumption | with_reducible exact cr_bn hC | exact Nat.le_of_ble_eq_true rfl) (Nat.le_of_ble_eq_true rfl) kk) ?_
        refine ⟨_, ?_, r_vret dX5_readTest_72 rfl rfl rfl⟩
        refine ⟨_, rfl, ?_⟩
        unfold testS
        first | (rw [if_pos hc]; unfold testB; rw [hop]; exact y11) | (rw [if_neg (fun z => by unfold testC at z; rw [Bool.or_eq_true] at z; exact z.elim (bz h14) (bz h26))]; exact y11)
      · have hc : testC T (sumS T (exprS T l) s) = true := by unfold testC; rw [Bool.or_eq_true]; first | exact Or.inl (bnz h14) | exact Or.inr (bnz h26)
        have hop : (if sgS T 60 (sumS T (exprS T l) s) = true then (-11 : Int32) else -12) = -11 := if_pos (bnz h38)
        refine Sx.up (fun _ kk => r_bipush (-11) 43 dX5_readTest_41 rfl (by decide) kk) ?_
        refine Sx.up (fun _ kk => r_goto 48 dX5_readTest_43 (by decide) kk) ?_
        refine Sx.up (fun _ kk => r_istore_n 49 dX5_readTest_48 rfl (by decide) rfl kk) ?_
        refine Sx.up (fun _ kk => r_aload_n 50 dX5_readTest_49 rfl rfl kk) ?_
        refine Sx.up (fun _ kk => r_getR 53 dX5_readTest_50 rfl f5_19 rfl (by first | with_reducible assumption | with_reducible exact cr_bs hC | rfl) (by first | with_reducible assumption | with_reducible exact cr_bn hC | exact Nat.le_of_ble_eq_true rfl) (rd_tok y2) kk) ?_
        obtain ⟨_, ⟨E12, rfl, y12⟩, hcl12⟩ := rd_adv (d := d + e + 6) y2
        refine Sx.up (fun _ kk => r_callV 56 dX5_readTest_53 rfl k5_131 hcl12 rfl rfl (by first | with_reducible assumption | with_reducible exact cr_bs hC | rfl) (by decide) rfl (by first | with_reducible assumption | with_reducible exact cr_bn hC | exact Nat.le_of_ble_eq_true rfl) (Nat.le_of_ble_eq_true rfl) kk) ?_
        refine Sx.up (fun _ kk => r_aload_n 57 dX5_readTest_56 rfl rfl kk) ?_
        refine Sx.up (fun _ kk => r_iload_n 58 dX5_readTest_57 rfl rfl kk) ?_
        obtain ⟨_, ⟨E13, rfl, y13⟩, hcl13⟩ := rd_sum y12 (slk_mono (by decide) (slk_adv (liv_or hc) hs0)) hw hl hex
        refine Sx.up (fun _ kk => r_callV 61 dX5_readTest_58 rfl k5_211 hcl13 rfl rfl (by first | with_reducible assumption | with_reducible exact cr_bs hC | rfl) (by decide) rfl (by first | with_reducible assumption | with_reducible exact cr_bn hC | exact Nat.le_of_ble_eq_true rfl) (Nat.le_of_ble_eq_true rfl) kk) ?_
        refine Sx.up (fun _ kk => r_aload_n 62 dX5_readTest_61 rfl rfl kk) ?_
        refine Sx.up (fun _ kk => r_getR 65 dX5_readTest_62 rfl f5_35 rfl (by first | with_reducible assumption | with_reducible exact cr_bs hC | rfl) (by first | with_reducible assumption | with_reducible exact cr_bn hC | exact Nat.le_of_ble_eq_true rfl) (rd_into y13) kk) ?_
        refine Sx.up (fun _ kk => r_getR 68 dX5_readTest_65 rfl f5_192 rfl (by first | with_reducible assumption | with_reducible exact cr_bs hC | rfl) (by first | with_reducible assumption | with_reducible exact cr_bn hC | exact Nat.le_of_ble_eq_true rfl) (rd_rule y13) kk) ?_
        refine Sx.up (fun _ kk => r_iload_n 69 dX5_readTest_68 rfl rfl kk) ?_
        obtain ⟨_, ⟨E14, rfl, y14⟩, hcl14⟩ := rd_radd (d := d + e + 10) y13 (slk_mono (by decide) (slk_ext (ex_sum l _) (slk_adv (liv_or hc) hs0)))
        refine Sx.up (fun _ kk => r_callV 72 dX5_readTest_69 rfl k5_198 hcl14 rfl rfl (by first | with_reducible assumption | with_reducible exact cr_bs hC | rfl) (by decide) rfl (by first | with_reducible assumption | with_reducible exact cr_bn hC | exact Nat.le_of_ble_eq_true rfl) (Nat.le_of_ble_eq_true rfl) kk) ?_
        refine ⟨_, ?_, r_vret dX5_readTest_72 rfl rfl rfl⟩
        refine ⟨_, rfl, ?_⟩
        unfold testS
        first | (rw [if_pos hc]; unfold testB; rw [hop]; exact y14) | (rw [if_neg (fun z => by unfold testC at z; rw [Bool.or_eq_true] at z; exact z.elim (bz h14) (bz h26))]; exact y14)
theorem slk_not {T : TX} {j : Nat} {s : PS} (hs : slk j s) : slk (j + (notN T 6 s).1) (notN T 6 s).2 ∧ (notN T 6 s).1 ≤ 6 := by
  cases s with
  | inl x => exact ⟨trivial, Nat.zero_le _⟩
  | inr q =>
    obtain ⟨a, B⟩ := q
    obtain ⟨a2, h1, h2, h3⟩ := not_n (T := T) 6 a B
    have hs : (bR B).length + j ≤ a := hs
    rw [h1]
    refine ⟨?_, h3⟩
    show (bR B).length + (j + _) ≤ a2
    omega
theorem not_y {T : TX} {k : Nat} {s : PS} (h : wdS T w_not s = true) : notN T (k + 1) s = ((notN T k (advS T s)).1 + 1, (notN T k (advS T s)).2) := if_pos h
theorem not_0 {T : TX} {k : Nat} {s : PS} (h : ¬ wdS T w_not s = true) : notN T k s = (0, s) := by
  cases k with
  | zero => rfl
  | succ k => exact if_neg h
theorem slk_notM {T : TX} {j : Nat} {s : PS} (hs : slk j s) : slk j (notM T s) := by
  unfold notM
  split
  · exact slk_flt s
  · exact hs
theorem cat_1 {a b c : Nat} (h : a = b) : nI a = nI b := by rw [h]
set_option maxRecDepth 20000 in
theorem rd_not {d e l : Nat} {E0 E : HP} {T : TX} {b : Nat} {s : PS} {w : Int32} (y1 : CRd E0 E T b s) (hs : slk 1 s) (hw : w = nI (6 - (l + 1))) (hl : l + 1 ≤ 6) (hex : ∀ {E : HP} {s : PS} {w : Int32}, CRd E0 E T b s → slk 1 s → w = nI (6 - l) → ∃ o, (∃ E2, o = (.inl none, E2, 137) ∧ CRd E0 E2 T b (exprS T l s)) ∧ Cl yX5_readExpr mX5_readExpr (d + e + 8) 0 0 [.ref 41, .int w] E 137 o) : ∃ o, (∃ E2, o = (.inl none, E2, 137) ∧ CRd E0 E2 T b (notS T (exprS T l) s)) ∧ Cl yX5_readNot mX5_readNot (d + e + 8 + 5) 0 0 [.ref 41, .int w] E 137 o := by
  have hb := rd_b y1
  have hbs : sh b = (0, 0) := bo_1 (rd_bed y1)
  have hbn : b < 137 := by omega
  have hb5 : sh (b + 5) = (7, 0) := (rd_bed y1).2.2.2.2.2.2.2.2.2.1.1
  have hb5n : b + 5 < 137 := by omega
  obtain ⟨hn1, hn6⟩ := slk_not (T := T) hs
  obtain ⟨c, hc⟩ : ∃ c, (notN T 6 s).1 = c := ⟨_, rfl⟩
  obtain ⟨s1, hs1⟩ : ∃ s1, (notN T 6 s).2 = s1 := ⟨_, rfl⟩
  rw [hc, hs1] at hn1
  rw [hc] at hn6
  have hres : notS T (exprS T l) s = repS (-10) c (testS T (exprS T l) (notM T s1)) := by unfold notS; rw [hc, hs1]
  rw [hres]
  refine Cx.of (by decide) rfl (fun q => by cases q) rfl rfl (Nat.le_of_ble_eq_true rfl) ?_
  show Sx _ _ _ _ _ 0 [some (.ref 41), some (.int (w)), none, none] [] _ _
  have k33 : ∀ E, CRd E0 E T b s1 → Sx mX5_readNot (d + e + 8 + 5) 0 0 (fun o => ∃ E2, o = (.inl none, E2, 137) ∧ CRd E0 E2 T b (repS (-10) c (testS T (exprS T l) (notM T s1)))) 33 [some (.ref 41), some (.int w), some (.int (nI c)), none] [] E 137 := by
    intro E y1
    have hst : slk (1 + c) (testS T (exprS T l) (notM T s1)) := slk_ext (ex_test l _) (slk_notM hn1)
    have loop := sxUp (σ := HP × PS) (S := fun k9 q => Sx mX5_readNot (d + e + 8 + 5) 0 0 (fun o => ∃ E2, o = (.inl none, E2, 137) ∧ CRd E0 E2 T b (repS (-10) (c - k9) q.2)) 57 [some (.ref 41), some (.int w), some (.int (nI c)), some (.int (nI k9))] [] q.1 137) (Inv := fun k9 q => CRd E0 q.1 T b q.2 ∧ slk (1 + (c - k9)) q.2) (a := 0) (l := c) (by omega) ?_ ?_
    · refine Sx.up (fun _ kk => r_aload_n 34 dX5_readNot_33 rfl rfl kk) ?_
      refine Sx.up (fun _ kk => r_getR 37 dX5_readNot_34 rfl f5_19 rfl (by first | with_reducible assumption | with_reducible exact cr_bs hC | rfl) (by first | with_reducible assumption | with_reducible exact cr_bn hC | exact Nat.le_of_ble_eq_true rfl) (rd_tok y1) kk) ?_
      refine Sx.up (fun _ kk => r_ldcS (i := 8) 39 dX5_readNot_37 rfl rfl kk) ?_
      refine Sx.up (fun _ kk => r_callV 42 dX5_readNot_39 rfl k5_72 (rd_word (i := 8) (q := ("SpoonRow$Reader", 206, "not", w_not)) y1 rfl) rfl rfl (by first | with_reducible assumption | with_reducible exact cr_bs hC | rfl) (by decide) rfl (by first | with_reducible assumption | with_reducible exact cr_bn hC | exact Nat.le_of_ble_eq_true rfl) (Nat.le_of_ble_eq_true rfl) kk) ?_
      refine Sx.br (fun _ ka kb => r_if_eq 45 50 dX5_readNot_42 rfl (by decide) ka kb) (by first | exact em1 | exact em2) (fun h42 => ?_) (fun h42 => ?_)
      · have y9 : CRd E0 E T b (notM T s1) := by unfold notM; first | (rw [if_pos (bnz h42)]; exact y1) | (rw [if_neg (bz h42)]; exact y1)
        refine Sx.up (fun _ kk => r_aload_n 51 dX5_readNot_50 rfl rfl kk) ?_
        refine Sx.up (fun _ kk => r_iload_n 52 dX5_readNot_51 rfl rfl kk) ?_
        obtain ⟨_, ⟨E2, rfl, y2⟩, hcl2⟩ := rd_test y9 (slk_mono (by omega) (slk_notM hn1)) hw hl hex
        refine Sx.up (fun _ kk => r_callV 55 dX5_readNot_52 rfl k5_208 hcl2 rfl rfl (by first | with_reducible assumption | with_reducible exact cr_bs hC | rfl) (by decide) rfl (by first | with_reducible assumption | with_reducible exact cr_bn hC | exact Nat.le_of_ble_eq_true rfl) (Nat.le_of_ble_eq_true rfl) kk) ?_
        refine Sx.up (fun _ kk => r_iconst (0) 56 dX5_readNot_55 rfl (by decide) kk) ?_
        refine Sx.up (fun _ kk => r_istore_n 57 dX5_readNot_56 rfl (by decide) rfl kk) ?_
        exact loop (E2, _) ⟨y2, hst⟩
      · refine Sx.up (fun _ kk => r_aload_n 46 dX5_readNot_45 rfl rfl kk) ?_
        refine Sx.up (fun _ kk => r_iconst (2) 47 dX5_readNot_46 rfl (by decide) kk) ?_
        obtain ⟨_, ⟨E3, rfl, y3⟩, hcl3⟩ := rd_refuse (d := d + e + 11) y1 (k := 2) (k9 := 2) rfl (by decide) (by decide)
        refine Sx.up (fun _ kk => r_callV 50 dX5_readNot_47 rfl k5_128 hcl3 rfl rfl (by first | with_reducible assumption | with_reducible exact cr_bs hC | rfl) (by decide) rfl (by first | with_reducible assumption | with_reducible exact cr_bn hC | exact Nat.le_of_ble_eq_true rfl) (Nat.le_of_ble_eq_true rfl) kk) ?_
        have y9 : CRd E0 E3 T b (notM T s1) := by unfold notM; first | (rw [if_pos (bnz h42)]; exact y3) | (rw [if_neg (bz h42)]; exact y3)
        refine Sx.up (fun _ kk => r_aload_n 51 dX5_readNot_50 rfl rfl kk) ?_
        refine Sx.up (fun _ kk => r_iload_n 52 dX5_readNot_51 rfl rfl kk) ?_
        obtain ⟨_, ⟨E4, rfl, y4⟩, hcl4⟩ := rd_test y9 (slk_mono (by omega) (slk_notM hn1)) hw hl hex
        refine Sx.up (fun _ kk => r_callV 55 dX5_readNot_52 rfl k5_208 hcl4 rfl rfl (by first | with_reducible assumption | with_reducible exact cr_bs hC | rfl) (by decide) rfl (by first | with_reducible assumption | with_reducible exact cr_bn hC | exact Nat.le_of_ble_eq_true rfl) (Nat.le_of_ble_eq_true rfl) kk) ?_
        refine Sx.up (fun _ kk => r_iconst (0) 56 dX5_readNot_55 rfl (by decide) kk) ?_
        refine Sx.up (fun _ kk => r_istore_n 57 dX5_readNot_56 rfl (by decide) rfl kk) ?_
        exact loop (E4, _) ⟨y4, hst⟩
    · intro q ⟨y1, hs9⟩
      refine Sx.up (fun _ kk => r_iload_n 58 dX5_readNot_57 rfl rfl kk) ?_
      refine Sx.up (fun _ kk => r_iload_n 59 dX5_readNot_58 rfl rfl kk) ?_
      refine Sx.up (fun _ kk => r_icmp_ge 62 80 dX5_readNot_59 rfl (by decide) (fun _ => kk) (fun h59 => absurd (nI_le (Nat.le_refl _) (by omega)) h59)) ?_
      refine ⟨_, ?_, r_vret dX5_readNot_80 rfl rfl rfl⟩
      exact ⟨_, rfl, by rw [Nat.sub_self]; exact y1⟩
    · intro k9 q hk0 hk9 ⟨y1, hs9⟩ hq
      obtain ⟨E, s⟩ := q
      have y1 : CRd E0 E T b s := y1
      have hs9 : slk (1 + (c - k9)) s := hs9
      have hy : repS (-10) (c - k9) s = repS (-10) (c - (k9 + 1)) (ruS (-10) s) := by rw [show c - k9 = c - (k9 + 1) + 1 by omega]; rfl
      refine Sx.up (fun _ kk => r_iload_n 58 dX5_readNot_57 rfl rfl kk) ?_
      refine Sx.up (fun _ kk => r_iload_n 59 dX5_readNot_58 rfl rfl kk) ?_
      refine Sx.up (fun _ kk => r_icmp_ge 62 80 dX5_readNot_59 rfl (by decide) (fun h59 => absurd h59 (nI_ge hk9 (by omega))) (fun _ => kk)) ?_
      refine Sx.up (fun _ kk => r_aload_n 63 dX5_readNot_62 rfl rfl kk) ?_
      refine Sx.up (fun _ kk => r_getR 66 dX5_readNot_63 rfl f5_35 rfl (by first | with_reducible assumption | with_reducible exact cr_bs hC | rfl) (by first | with_reducible assumption | with_reducible exact cr_bn hC | exact Nat.le_of_ble_eq_true rfl) (rd_into y1) kk) ?_
      refine Sx.up (fun _ kk => r_getR 69 dX5_readNot_66 rfl f5_192 rfl (by first | with_reducible assumption | with_reducible exact cr_bs hC | rfl) (by first | with_reducible assumption | with_reducible exact cr_bn hC | exact Nat.le_of_ble_eq_true rfl) (rd_rule y1) kk) ?_
      refine Sx.up (fun _ kk => r_bipush (-10) 71 dX5_readNot_69 rfl (by decide) kk) ?_
      obtain ⟨_, ⟨E2, rfl, y2⟩, hcl2⟩ := rd_radd (d := d + e + 11) y1 (slk_mono (by omega) hs9)
      refine Sx.up (fun _ kk => r_callV 74 dX5_readNot_71 rfl k5_198 hcl2 rfl rfl (by first | with_reducible assumption | with_reducible exact cr_bs hC | rfl) (by decide) rfl (by first | with_reducible assumption | with_reducible exact cr_bn hC | exact Nat.le_of_ble_eq_true rfl) (Nat.le_of_ble_eq_true rfl) kk) ?_
      refine Sx.up (fun _ kk => r_iinc (1) 77 dX5_readNot_74 rfl rfl (by decide) (by decide) rfl kk) ?_
      refine Sx.up (fun _ kk => r_goto 57 dX5_readNot_77 (by decide) kk) ?_
      rw [hy]
      have hgo := hq (E2, _) ⟨y2, slk_ru (by rw [show 1 + (c - (k9 + 1)) + 1 = 1 + (c - k9) by omega]; exact hs9)⟩
      rw [nI_pp]
      exact hgo
  have loop := sxUp (σ := HP × PS) (S := fun k9 q => Sx mX5_readNot (d + e + 8 + 5) 0 0 (fun o => ∃ E2, o = (.inl none, E2, 137) ∧ CRd E0 E2 T b (repS (-10) c (testS T (exprS T l) (notM T s1)))) 2 [some (.ref 41), some (.int w), some (.int (nI k9)), none] [] q.1 137) (Inv := fun k9 q => CRd E0 q.1 T b q.2 ∧ k9 + (notN T (6 - k9) q.2).1 = c ∧ (notN T (6 - k9) q.2).2 = s1) (a := 0) (l := 6) (by omega) ?_ ?_
  · refine Sx.up (fun _ kk => r_iconst (0) 1 dX5_readNot_0 rfl (by decide) kk) ?_
    refine Sx.up (fun _ kk => r_istore_n 2 dX5_readNot_1 rfl (by decide) rfl kk) ?_
    exact loop (E, s) ⟨y1, by rw [← hc]; show 0 + _ = _; rw [Nat.zero_add], hs1⟩
  · intro q ⟨y1, e1, e2⟩
    have e1 : c = 6 := e1.symm
    have e2 : q.2 = s1 := e2
    refine Sx.up (fun _ kk => r_iload_n 3 dX5_readNot_2 rfl rfl kk) ?_
    refine Sx.up (fun _ kk => r_bipush (6) 5 dX5_readNot_3 rfl (by decide) kk) ?_
    refine Sx.up (fun _ kk => r_icmp_ge 8 33 dX5_readNot_5 rfl (by decide) (fun _ => kk) (fun h5 => absurd (by decide) h5)) ?_
    rw [show nI 6 = nI c by rw [e1]]
    exact k33 q.1 (by rw [← e2]; exact y1)
  · intro k9 q hk0 hk9 ⟨y1, e1, e2⟩ hq
    obtain ⟨E, s⟩ := q
    have y1 : CRd E0 E T b s := y1
    have e1 : k9 + (notN T (6 - k9) s).1 = c := e1
    have e2 : (notN T (6 - k9) s).2 = s1 := e2
    refine Sx.up (fun _ kk => r_iload_n 3 dX5_readNot_2 rfl rfl kk) ?_
    refine Sx.up (fun _ kk => r_bipush (6) 5 dX5_readNot_3 rfl (by decide) kk) ?_
    refine Sx.up (fun _ kk => r_icmp_ge 8 33 dX5_readNot_5 rfl (by decide) (fun h5 => absurd h5 (nI_ge (b := 6) hk9 (by omega))) (fun _ => kk)) ?_
    refine Sx.up (fun _ kk => r_aload_n 9 dX5_readNot_8 rfl rfl kk) ?_
    refine Sx.up (fun _ kk => r_getR 12 dX5_readNot_9 rfl f5_19 rfl (by first | with_reducible assumption | with_reducible exact cr_bs hC | rfl) (by first | with_reducible assumption | with_reducible exact cr_bn hC | exact Nat.le_of_ble_eq_true rfl) (rd_tok y1) kk) ?_
    refine Sx.up (fun _ kk => r_ldcS (i := 8) 14 dX5_readNot_12 rfl rfl kk) ?_
    refine Sx.up (fun _ kk => r_callV 17 dX5_readNot_14 rfl k5_72 (rd_word (i := 8) (q := ("SpoonRow$Reader", 206, "not", w_not)) y1 rfl) rfl rfl (by first | with_reducible assumption | with_reducible exact cr_bs hC | rfl) (by decide) rfl (by first | with_reducible assumption | with_reducible exact cr_bn hC | exact Nat.le_of_ble_eq_true rfl) (Nat.le_of_ble_eq_true rfl) kk) ?_
    refine Sx.br (fun _ ka kb => r_if_eq 20 33 dX5_readNot_17 rfl (by decide) ka kb) (by first | exact em1 | exact em2) (fun h17 => ?_) (fun h17 => ?_)
    · have e3 := not_0 (T := T) (k := 6 - k9) (bz h17)
      rw [e3] at e1 e2
      have e1 : k9 = c := e1
      have e2 : s = s1 := e2
      rw [e1]
      exact k33 E (by rw [← e2]; exact y1)
    · refine Sx.up (fun _ kk => r_aload_n 21 dX5_readNot_20 rfl rfl kk) ?_
      refine Sx.up (fun _ kk => r_getR 24 dX5_readNot_21 rfl f5_19 rfl (by first | with_reducible assumption | with_reducible exact cr_bs hC | rfl) (by first | with_reducible assumption | with_reducible exact cr_bn hC | exact Nat.le_of_ble_eq_true rfl) (rd_tok y1) kk) ?_
      obtain ⟨_, ⟨E2, rfl, y2⟩, hcl2⟩ := rd_adv (d := d + e + 7) y1
      refine Sx.up (fun _ kk => r_callV 27 dX5_readNot_24 rfl k5_131 hcl2 rfl rfl (by first | with_reducible assumption | with_reducible exact cr_bs hC | rfl) (by decide) rfl (by first | with_reducible assumption | with_reducible exact cr_bn hC | exact Nat.le_of_ble_eq_true rfl) (Nat.le_of_ble_eq_true rfl) kk) ?_
      refine Sx.up (fun _ kk => r_iinc (1) 30 dX5_readNot_27 rfl rfl (by decide) (by decide) rfl kk) ?_
      refine Sx.up (fun _ kk => r_goto 2 dX5_readNot_30 (by decide) kk) ?_
      have e3 := not_y (T := T) (k := 6 - (k9 + 1)) (bnz h17)
      rw [show 6 - (k9 + 1) + 1 = 6 - k9 by omega] at e3
      rw [e3] at e1 e2
      have e1 : k9 + ((notN T (6 - (k9 + 1)) (advS T s)).1 + 1) = c := e1
      have hgo := hq (E2, _) ⟨y2, by show k9 + 1 + (notN T (6 - (k9 + 1)) (advS T s)).1 = c; omega, e2⟩
      rw [nI_pp]
      exact hgo
set_option maxRecDepth 20000 in
theorem rd_and {d e l : Nat} {E0 E : HP} {T : TX} {b : Nat} {s : PS} {w : Int32} (y1 : CRd E0 E T b s) (hs : slk 1 s) (hw : w = nI (6 - (l + 1))) (hl : l + 1 ≤ 6) (hex : ∀ {E : HP} {s : PS} {w : Int32}, CRd E0 E T b s → slk 1 s → w = nI (6 - l) → ∃ o, (∃ E2, o = (.inl none, E2, 137) ∧ CRd E0 E2 T b (exprS T l s)) ∧ Cl yX5_readExpr mX5_readExpr (d + e + 8) 0 0 [.ref 41, .int w] E 137 o) : ∃ o, (∃ E2, o = (.inl none, E2, 137) ∧ CRd E0 E2 T b (andS T (exprS T l) s)) ∧ Cl yX5_readAnd mX5_readAnd (d + e + 8 + 6) 0 0 [.ref 41, .int w] E 137 o := by
  have hb := rd_b y1
  have hbs : sh b = (0, 0) := bo_1 (rd_bed y1)
  have hbn : b < 137 := by omega
  have hb5 : sh (b + 5) = (7, 0) := (rd_bed y1).2.2.2.2.2.2.2.2.2.1.1
  have hb5n : b + 5 < 137 := by omega
  have hs0 : slk 1 (notS T (exprS T l) s) := slk_ext (ex_not l s) hs
  refine Cx.of (by decide) rfl (fun q => by cases q) rfl rfl (Nat.le_of_ble_eq_true rfl) ?_
  show Sx _ _ _ _ _ 0 [some (.ref 41), some (.int (w)), none] [] _ _
  have loop := sxUp (σ := HP × PS) (S := fun k9 q => Sx mX5_readAnd (d + e + 8 + 6) 0 0 (fun o => ∃ E2, o = (.inl none, E2, 137) ∧ CRd E0 E2 T b (loopS (wdS T w_and) (andB T (exprS T l)) (600 - k9) q.2)) 7 [some (.ref 41), some (.int w), some (.int (nI k9))] [] q.1 137) (Inv := fun k9 q => CRd E0 q.1 T b q.2 ∧ slk 1 q.2) (a := 0) (l := 600) (by omega) ?_ ?_
  · refine Sx.up (fun _ kk => r_aload_n 1 dX5_readAnd_0 rfl rfl kk) ?_
    refine Sx.up (fun _ kk => r_iload_n 2 dX5_readAnd_1 rfl rfl kk) ?_
    obtain ⟨_, ⟨E2, rfl, y2⟩, hcl2⟩ := rd_not y1 hs hw hl hex
    refine Sx.up (fun _ kk => r_callV 5 dX5_readAnd_2 rfl k5_201 hcl2 rfl rfl (by first | with_reducible assumption | with_reducible exact cr_bs hC | rfl) (by decide) rfl (by first | with_reducible assumption | with_reducible exact cr_bn hC | exact Nat.le_of_ble_eq_true rfl) (Nat.le_of_ble_eq_true rfl) kk) ?_
    refine Sx.up (fun _ kk => r_iconst (0) 6 dX5_readAnd_5 rfl (by decide) kk) ?_
    refine Sx.up (fun _ kk => r_istore_n 7 dX5_readAnd_6 rfl (by decide) rfl kk) ?_
    exact loop (E2, _) ⟨y2, hs0⟩
  · intro q ⟨y1, hs1⟩
    refine Sx.up (fun _ kk => r_iload_n 8 dX5_readAnd_7 rfl rfl kk) ?_
    refine Sx.up (fun _ kk => r_sipush (600) 11 dX5_readAnd_8 rfl (by decide) kk) ?_
    refine Sx.up (fun _ kk => r_icmp_ge 14 56 dX5_readAnd_11 rfl (by decide) (fun _ => kk) (fun h11 => absurd (by decide) h11)) ?_
    refine ⟨_, ?_, r_vret dX5_readAnd_56 rfl rfl rfl⟩
    exact ⟨_, rfl, y1⟩
  · intro k9 q hk0 hk9 ⟨y1, hs1⟩ hq
    obtain ⟨E, s⟩ := q
    have y1 : CRd E0 E T b s := y1
    have hs1 : slk 1 s := hs1
    obtain ⟨f9, hf9⟩ : ∃ f9, 600 - k9 = f9 + 1 := ⟨600 - k9 - 1, by omega⟩
    have hy : wdS T w_and s = true → loopS (wdS T w_and) (andB T (exprS T l)) (600 - k9) s = loopS (wdS T w_and) (andB T (exprS T l)) (600 - (k9 + 1)) (andB T (exprS T l) s) := fun z => by rw [hf9, show 600 - (k9 + 1) = f9 by omega]; exact if_pos z
    have hn : ¬ wdS T w_and s = true → loopS (wdS T w_and) (andB T (exprS T l)) (600 - k9) s = s := fun z => by rw [hf9]; exact if_neg z
    refine Sx.up (fun _ kk => r_iload_n 8 dX5_readAnd_7 rfl rfl kk) ?_
    refine Sx.up (fun _ kk => r_sipush (600) 11 dX5_readAnd_8 rfl (by decide) kk) ?_
    refine Sx.up (fun _ kk => r_icmp_ge 14 56 dX5_readAnd_11 rfl (by decide) (fun h11 => absurd h11 (nI_ge (b := 600) hk9 (by omega))) (fun _ => kk)) ?_
    refine Sx.up (fun _ kk => r_aload_n 15 dX5_readAnd_14 rfl rfl kk) ?_
    refine Sx.up (fun _ kk => r_getR 18 dX5_readAnd_15 rfl f5_19 rfl (by first | with_reducible assumption | with_reducible exact cr_bs hC | rfl) (by first | with_reducible assumption | with_reducible exact cr_bn hC | exact Nat.le_of_ble_eq_true rfl) (rd_tok y1) kk) ?_
    refine Sx.up (fun _ kk => r_ldcS (i := 16) 20 dX5_readAnd_18 rfl rfl kk) ?_
    refine Sx.up (fun _ kk => r_callV 23 dX5_readAnd_20 rfl k5_72 (rd_word (i := 16) (q := ("SpoonRow$Reader", 204, "and", w_and)) y1 rfl) rfl rfl (by first | with_reducible assumption | with_reducible exact cr_bs hC | rfl) (by decide) rfl (by first | with_reducible assumption | with_reducible exact cr_bn hC | exact Nat.le_of_ble_eq_true rfl) (Nat.le_of_ble_eq_true rfl) kk) ?_
    refine Sx.br (fun _ ka kb => r_if_eq 26 56 dX5_readAnd_23 rfl (by decide) ka kb) (by first | exact em1 | exact em2) (fun h23 => ?_) (fun h23 => ?_)
    · refine ⟨_, ?_, r_vret dX5_readAnd_56 rfl rfl rfl⟩
      exact ⟨_, rfl, by rw [hn (bz h23)]; exact y1⟩
    · refine Sx.up (fun _ kk => r_aload_n 27 dX5_readAnd_26 rfl rfl kk) ?_
      refine Sx.up (fun _ kk => r_getR 30 dX5_readAnd_27 rfl f5_19 rfl (by first | with_reducible assumption | with_reducible exact cr_bs hC | rfl) (by first | with_reducible assumption | with_reducible exact cr_bn hC | exact Nat.le_of_ble_eq_true rfl) (rd_tok y1) kk) ?_
      have hc : wdS T w_and s = true := bnz h23
      obtain ⟨_, ⟨E2, rfl, y2⟩, hcl2⟩ := rd_adv (d := d + e + 8) y1
      refine Sx.up (fun _ kk => r_callV 33 dX5_readAnd_30 rfl k5_131 hcl2 rfl rfl (by first | with_reducible assumption | with_reducible exact cr_bs hC | rfl) (by decide) rfl (by first | with_reducible assumption | with_reducible exact cr_bn hC | exact Nat.le_of_ble_eq_true rfl) (Nat.le_of_ble_eq_true rfl) kk) ?_
      refine Sx.up (fun _ kk => r_aload_n 34 dX5_readAnd_33 rfl rfl kk) ?_
      refine Sx.up (fun _ kk => r_iload_n 35 dX5_readAnd_34 rfl rfl kk) ?_
      obtain ⟨_, ⟨E3, rfl, y3⟩, hcl3⟩ := rd_not y2 (slk_mono (by decide) (slk_adv (liv_wd hc) hs1)) hw hl hex
      refine Sx.up (fun _ kk => r_callV 38 dX5_readAnd_35 rfl k5_201 hcl3 rfl rfl (by first | with_reducible assumption | with_reducible exact cr_bs hC | rfl) (by decide) rfl (by first | with_reducible assumption | with_reducible exact cr_bn hC | exact Nat.le_of_ble_eq_true rfl) (Nat.le_of_ble_eq_true rfl) kk) ?_
      refine Sx.up (fun _ kk => r_aload_n 39 dX5_readAnd_38 rfl rfl kk) ?_
      refine Sx.up (fun _ kk => r_getR 42 dX5_readAnd_39 rfl f5_35 rfl (by first | with_reducible assumption | with_reducible exact cr_bs hC | rfl) (by first | with_reducible assumption | with_reducible exact cr_bn hC | exact Nat.le_of_ble_eq_true rfl) (rd_into y3) kk) ?_
      refine Sx.up (fun _ kk => r_getR 45 dX5_readAnd_42 rfl f5_192 rfl (by first | with_reducible assumption | with_reducible exact cr_bs hC | rfl) (by first | with_reducible assumption | with_reducible exact cr_bn hC | exact Nat.le_of_ble_eq_true rfl) (rd_rule y3) kk) ?_
      refine Sx.up (fun _ kk => r_bipush (-9) 47 dX5_readAnd_45 rfl (by decide) kk) ?_
      obtain ⟨_, ⟨E4, rfl, y4⟩, hcl4⟩ := rd_radd (d := d + e + 12) y3 (slk_mono (by decide) (slk_ext (ex_not l _) (slk_adv (liv_wd hc) hs1)))
      refine Sx.up (fun _ kk => r_callV 50 dX5_readAnd_47 rfl k5_198 hcl4 rfl rfl (by first | with_reducible assumption | with_reducible exact cr_bs hC | rfl) (by decide) rfl (by first | with_reducible assumption | with_reducible exact cr_bn hC | exact Nat.le_of_ble_eq_true rfl) (Nat.le_of_ble_eq_true rfl) kk) ?_
      refine Sx.up (fun _ kk => r_iinc (1) 53 dX5_readAnd_50 rfl rfl (by decide) (by decide) rfl kk) ?_
      refine Sx.up (fun _ kk => r_goto 7 dX5_readAnd_53 (by decide) kk) ?_
      rw [hy hc]
      have hgo := hq (E4, andB T (exprS T l) s) ⟨y4, slk_ru (slk_ext (ex_not l _) (slk_adv (liv_wd hc) hs1))⟩
      rw [nI_pp]
      exact hgo
set_option maxRecDepth 20000 in
theorem rd_or {d e l : Nat} {E0 E : HP} {T : TX} {b : Nat} {s : PS} {w : Int32} (y1 : CRd E0 E T b s) (hs : slk 1 s) (hw : w = nI (6 - (l + 1))) (hl : l + 1 ≤ 6) (hex : ∀ {E : HP} {s : PS} {w : Int32}, CRd E0 E T b s → slk 1 s → w = nI (6 - l) → ∃ o, (∃ E2, o = (.inl none, E2, 137) ∧ CRd E0 E2 T b (exprS T l s)) ∧ Cl yX5_readExpr mX5_readExpr (d + e + 8) 0 0 [.ref 41, .int w] E 137 o) : ∃ o, (∃ E2, o = (.inl none, E2, 137) ∧ CRd E0 E2 T b (orS T (exprS T l) s)) ∧ Cl yX5_readExpr mX5_readExpr (d + e + 8 + 7) 0 0 [.ref 41, .int w] E 137 o := by
  have hb := rd_b y1
  have hbs : sh b = (0, 0) := bo_1 (rd_bed y1)
  have hbn : b < 137 := by omega
  have hb5 : sh (b + 5) = (7, 0) := (rd_bed y1).2.2.2.2.2.2.2.2.2.1.1
  have hb5n : b + 5 < 137 := by omega
  have hs0 : slk 1 (andS T (exprS T l) s) := slk_ext (ex_and l s) hs
  refine Cx.of (by decide) rfl (fun q => by cases q) rfl rfl (Nat.le_of_ble_eq_true rfl) ?_
  show Sx _ _ _ _ _ 0 [some (.ref 41), some (.int (w)), none] [] _ _
  have loop := sxUp (σ := HP × PS) (S := fun k9 q => Sx mX5_readExpr (d + e + 8 + 7) 0 0 (fun o => ∃ E2, o = (.inl none, E2, 137) ∧ CRd E0 E2 T b (loopS (wdS T w_or) (orB T (exprS T l)) (600 - k9) q.2)) 30 [some (.ref 41), some (.int w), some (.int (nI k9))] [] q.1 137) (Inv := fun k9 q => CRd E0 q.1 T b q.2 ∧ slk 1 q.2) (a := 0) (l := 600) (by omega) ?_ ?_
  · refine Sx.up (fun _ kk => r_iload_n 1 dX5_readExpr_0 rfl rfl kk) ?_
    refine Sx.up (fun _ kk => r_bipush (6) 3 dX5_readExpr_1 rfl (by decide) kk) ?_
    refine Sx.up (fun _ kk => r_icmp_lt 6 23 dX5_readExpr_3 rfl (by decide) (fun _ => kk) (fun h3 => absurd (by rw [hw]; exact nI_lt (b := 6) (by omega) (by omega)) h3)) ?_
    refine Sx.up (fun _ kk => r_aload_n 24 dX5_readExpr_23 rfl rfl kk) ?_
    refine Sx.up (fun _ kk => r_iload_n 25 dX5_readExpr_24 rfl rfl kk) ?_
    obtain ⟨_, ⟨E2, rfl, y2⟩, hcl2⟩ := rd_and y1 hs hw hl hex
    refine Sx.up (fun _ kk => r_callV 28 dX5_readExpr_25 rfl k5_187 hcl2 rfl rfl (by first | with_reducible assumption | with_reducible exact cr_bs hC | rfl) (by decide) rfl (by first | with_reducible assumption | with_reducible exact cr_bn hC | exact Nat.le_of_ble_eq_true rfl) (Nat.le_of_ble_eq_true rfl) kk) ?_
    refine Sx.up (fun _ kk => r_iconst (0) 29 dX5_readExpr_28 rfl (by decide) kk) ?_
    refine Sx.up (fun _ kk => r_istore_n 30 dX5_readExpr_29 rfl (by decide) rfl kk) ?_
    exact loop (E2, _) ⟨y2, hs0⟩
  · intro q ⟨y1, hs1⟩
    refine Sx.up (fun _ kk => r_iload_n 31 dX5_readExpr_30 rfl rfl kk) ?_
    refine Sx.up (fun _ kk => r_sipush (600) 34 dX5_readExpr_31 rfl (by decide) kk) ?_
    refine Sx.up (fun _ kk => r_icmp_ge 37 79 dX5_readExpr_34 rfl (by decide) (fun _ => kk) (fun h34 => absurd (by decide) h34)) ?_
    refine ⟨_, ?_, r_vret dX5_readExpr_79 rfl rfl rfl⟩
    exact ⟨_, rfl, y1⟩
  · intro k9 q hk0 hk9 ⟨y1, hs1⟩ hq
    obtain ⟨E, s⟩ := q
    have y1 : CRd E0 E T b s := y1
    have hs1 : slk 1 s := hs1
    obtain ⟨f9, hf9⟩ : ∃ f9, 600 - k9 = f9 + 1 := ⟨600 - k9 - 1, by omega⟩
    have hy : wdS T w_or s = true → loopS (wdS T w_or) (orB T (exprS T l)) (600 - k9) s = loopS (wdS T w_or) (orB T (exprS T l)) (600 - (k9 + 1)) (orB T (exprS T l) s) := fun z => by rw [hf9, show 600 - (k9 + 1) = f9 by omega]; exact if_pos z
    have hn : ¬ wdS T w_or s = true → loopS (wdS T w_or) (orB T (exprS T l)) (600 - k9) s = s := fun z => by rw [hf9]; exact if_neg z
    refine Sx.up (fun _ kk => r_iload_n 31 dX5_readExpr_30 rfl rfl kk) ?_
    refine Sx.up (fun _ kk => r_sipush (600) 34 dX5_readExpr_31 rfl (by decide) kk) ?_
    refine Sx.up (fun _ kk => r_icmp_ge 37 79 dX5_readExpr_34 rfl (by decide) (fun h34 => absurd h34 (nI_ge (b := 600) hk9 (by omega))) (fun _ => kk)) ?_
    refine Sx.up (fun _ kk => r_aload_n 38 dX5_readExpr_37 rfl rfl kk) ?_
    refine Sx.up (fun _ kk => r_getR 41 dX5_readExpr_38 rfl f5_19 rfl (by first | with_reducible assumption | with_reducible exact cr_bs hC | rfl) (by first | with_reducible assumption | with_reducible exact cr_bn hC | exact Nat.le_of_ble_eq_true rfl) (rd_tok y1) kk) ?_
    refine Sx.up (fun _ kk => r_ldcS (i := 17) 43 dX5_readExpr_41 rfl rfl kk) ?_
    refine Sx.up (fun _ kk => r_callV 46 dX5_readExpr_43 rfl k5_72 (rd_word (i := 17) (q := ("SpoonRow$Reader", 190, "or", w_or)) y1 rfl) rfl rfl (by first | with_reducible assumption | with_reducible exact cr_bs hC | rfl) (by decide) rfl (by first | with_reducible assumption | with_reducible exact cr_bn hC | exact Nat.le_of_ble_eq_true rfl) (Nat.le_of_ble_eq_true rfl) kk) ?_
    refine Sx.br (fun _ ka kb => r_if_eq 49 79 dX5_readExpr_46 rfl (by decide) ka kb) (by first | exact em1 | exact em2) (fun h46 => ?_) (fun h46 => ?_)
    · refine ⟨_, ?_, r_vret dX5_readExpr_79 rfl rfl rfl⟩
      exact ⟨_, rfl, by rw [hn (bz h46)]; exact y1⟩
    · refine Sx.up (fun _ kk => r_aload_n 50 dX5_readExpr_49 rfl rfl kk) ?_
      refine Sx.up (fun _ kk => r_getR 53 dX5_readExpr_50 rfl f5_19 rfl (by first | with_reducible assumption | with_reducible exact cr_bs hC | rfl) (by first | with_reducible assumption | with_reducible exact cr_bn hC | exact Nat.le_of_ble_eq_true rfl) (rd_tok y1) kk) ?_
      have hc : wdS T w_or s = true := bnz h46
      obtain ⟨_, ⟨E2, rfl, y2⟩, hcl2⟩ := rd_adv (d := d + e + 9) y1
      refine Sx.up (fun _ kk => r_callV 56 dX5_readExpr_53 rfl k5_131 hcl2 rfl rfl (by first | with_reducible assumption | with_reducible exact cr_bs hC | rfl) (by decide) rfl (by first | with_reducible assumption | with_reducible exact cr_bn hC | exact Nat.le_of_ble_eq_true rfl) (Nat.le_of_ble_eq_true rfl) kk) ?_
      refine Sx.up (fun _ kk => r_aload_n 57 dX5_readExpr_56 rfl rfl kk) ?_
      refine Sx.up (fun _ kk => r_iload_n 58 dX5_readExpr_57 rfl rfl kk) ?_
      obtain ⟨_, ⟨E3, rfl, y3⟩, hcl3⟩ := rd_and y2 (slk_mono (by decide) (slk_adv (liv_wd hc) hs1)) hw hl hex
      refine Sx.up (fun _ kk => r_callV 61 dX5_readExpr_58 rfl k5_187 hcl3 rfl rfl (by first | with_reducible assumption | with_reducible exact cr_bs hC | rfl) (by decide) rfl (by first | with_reducible assumption | with_reducible exact cr_bn hC | exact Nat.le_of_ble_eq_true rfl) (Nat.le_of_ble_eq_true rfl) kk) ?_
      refine Sx.up (fun _ kk => r_aload_n 62 dX5_readExpr_61 rfl rfl kk) ?_
      refine Sx.up (fun _ kk => r_getR 65 dX5_readExpr_62 rfl f5_35 rfl (by first | with_reducible assumption | with_reducible exact cr_bs hC | rfl) (by first | with_reducible assumption | with_reducible exact cr_bn hC | exact Nat.le_of_ble_eq_true rfl) (rd_into y3) kk) ?_
      refine Sx.up (fun _ kk => r_getR 68 dX5_readExpr_65 rfl f5_192 rfl (by first | with_reducible assumption | with_reducible exact cr_bs hC | rfl) (by first | with_reducible assumption | with_reducible exact cr_bn hC | exact Nat.le_of_ble_eq_true rfl) (rd_rule y3) kk) ?_
      refine Sx.up (fun _ kk => r_bipush (-8) 70 dX5_readExpr_68 rfl (by decide) kk) ?_
      obtain ⟨_, ⟨E4, rfl, y4⟩, hcl4⟩ := rd_radd (d := d + e + 13) y3 (slk_mono (by decide) (slk_ext (ex_and l _) (slk_adv (liv_wd hc) hs1)))
      refine Sx.up (fun _ kk => r_callV 73 dX5_readExpr_70 rfl k5_198 hcl4 rfl rfl (by first | with_reducible assumption | with_reducible exact cr_bs hC | rfl) (by decide) rfl (by first | with_reducible assumption | with_reducible exact cr_bn hC | exact Nat.le_of_ble_eq_true rfl) (Nat.le_of_ble_eq_true rfl) kk) ?_
      refine Sx.up (fun _ kk => r_iinc (1) 76 dX5_readExpr_73 rfl rfl (by decide) (by decide) rfl kk) ?_
      refine Sx.up (fun _ kk => r_goto 30 dX5_readExpr_76 (by decide) kk) ?_
      rw [hy hc]
      have hgo := hq (E4, orB T (exprS T l) s) ⟨y4, slk_ru (slk_ext (ex_and l _) (slk_adv (liv_wd hc) hs1))⟩
      rw [nI_pp]
      exact hgo
set_option maxRecDepth 20000 in
theorem rd_may {d : Nat} {E0 E : HP} {T : TX} {b : Nat} {s : PS} (y1 : CRd E0 E T b s) : Cl yX5_canBeginPart mX5_canBeginPart (d + 2) 0 0 [.ref 41] E 137 (.inl (some (.int (bI (mayS T s)))), E, 137) := by
  have hb := rd_b y1
  have hbs : sh b = (0, 0) := bo_1 (rd_bed y1)
  have hbn : b < 137 := by omega
  have hb5 : sh (b + 5) = (7, 0) := (rd_bed y1).2.2.2.2.2.2.2.2.2.1.1
  have hb5n : b + 5 < 137 := by omega
  have hk2 := rd_kind (k := 2) y1 (by decide) (by decide)
  have hk1 := rd_kind (k := 1) y1 (by decide) (by decide)
  refine Cl.of (by decide) rfl (fun q => by cases q) rfl rfl (Nat.le_of_ble_eq_true rfl) ?_
  show Sm _ _ _ _ _ 0 [some (.ref 41)] [] _ _
  refine r_aload_n 1 dX5_canBeginPart_0 rfl rfl ?_
  refine r_getR 4 dX5_canBeginPart_1 rfl f5_19 rfl (by first | with_reducible assumption | with_reducible exact cr_bs hC | rfl) (by first | with_reducible assumption | with_reducible exact cr_bn hC | exact Nat.le_of_ble_eq_true rfl) (rd_tok y1) ?_
  refine r_getI 7 dX5_canBeginPart_4 rfl f5_48 rfl (by first | with_reducible assumption | with_reducible exact cr_bs hC | rfl) (by first | with_reducible assumption | with_reducible exact cr_bn hC | exact Nat.le_of_ble_eq_true rfl) ?_
  refine r_iconst (2) 8 dX5_canBeginPart_7 rfl (by decide) ?_
  refine r_icmp_eq 11 34 dX5_canBeginPart_8 rfl (by decide) (fun h8 => ?_) (fun h8 => ?_)
  · refine r_iconst (1) 35 dX5_canBeginPart_34 rfl (by decide) ?_
    refine r_goto 39 dX5_canBeginPart_35 (by decide) ?_
    exact r_zret dX5_canBeginPart_39 rfl rfl (by decide) (out_eq (by first | exact bI_t (by unfold mayS; rw [hk2.mp h8]; rfl) | exact bI_t (by unfold mayS; rw [hk1.mp h19, Bool.or_true]; rfl) | exact bI_t (by unfold mayS; rw [bnz h31, Bool.or_true]) | exact bI_f (fun z => by unfold mayS at z; rw [Bool.or_eq_true, Bool.or_eq_true] at z; exact z.elim (fun z => z.elim (fun z => h8 (hk2.mpr z)) (fun z => h19 (hk1.mpr z))) (bz h31))))
  · refine r_aload_n 12 dX5_canBeginPart_11 rfl rfl ?_
    refine r_getR 15 dX5_canBeginPart_12 rfl f5_19 rfl (by first | with_reducible assumption | with_reducible exact cr_bs hC | rfl) (by first | with_reducible assumption | with_reducible exact cr_bn hC | exact Nat.le_of_ble_eq_true rfl) (rd_tok y1) ?_
    refine r_getI 18 dX5_canBeginPart_15 rfl f5_48 rfl (by first | with_reducible assumption | with_reducible exact cr_bs hC | rfl) (by first | with_reducible assumption | with_reducible exact cr_bn hC | exact Nat.le_of_ble_eq_true rfl) ?_
    refine r_iconst (1) 19 dX5_canBeginPart_18 rfl (by decide) ?_
    refine r_icmp_eq 22 34 dX5_canBeginPart_19 rfl (by decide) (fun h19 => ?_) (fun h19 => ?_)
    · refine r_iconst (1) 35 dX5_canBeginPart_34 rfl (by decide) ?_
      refine r_goto 39 dX5_canBeginPart_35 (by decide) ?_
      exact r_zret dX5_canBeginPart_39 rfl rfl (by decide) (out_eq (by first | exact bI_t (by unfold mayS; rw [hk2.mp h8]; rfl) | exact bI_t (by unfold mayS; rw [hk1.mp h19, Bool.or_true]; rfl) | exact bI_t (by unfold mayS; rw [bnz h31, Bool.or_true]) | exact bI_f (fun z => by unfold mayS at z; rw [Bool.or_eq_true, Bool.or_eq_true] at z; exact z.elim (fun z => z.elim (fun z => h8 (hk2.mpr z)) (fun z => h19 (hk1.mpr z))) (bz h31))))
    · refine r_aload_n 23 dX5_canBeginPart_22 rfl rfl ?_
      refine r_getR 26 dX5_canBeginPart_23 rfl f5_19 rfl (by first | with_reducible assumption | with_reducible exact cr_bs hC | rfl) (by first | with_reducible assumption | with_reducible exact cr_bn hC | exact Nat.le_of_ble_eq_true rfl) (rd_tok y1) ?_
      refine r_bipush (40) 28 dX5_canBeginPart_26 rfl (by decide) ?_
      refine r_callV 31 dX5_canBeginPart_28 rfl k5_141 (rd_sign (d := d) y1) rfl rfl (by first | with_reducible assumption | with_reducible exact cr_bs hC | rfl) (by decide) rfl (by first | with_reducible assumption | with_reducible exact cr_bn hC | exact Nat.le_of_ble_eq_true rfl) (Nat.le_of_ble_eq_true rfl) ?_
      refine r_if_eq 34 38 dX5_canBeginPart_31 rfl (by decide) (fun h31 => ?_) (fun h31 => ?_)
      · refine r_iconst (0) 39 dX5_canBeginPart_38 rfl (by decide) ?_
        exact r_zret dX5_canBeginPart_39 rfl rfl (by decide) (out_eq (by first | exact bI_t (by unfold mayS; rw [hk2.mp h8]; rfl) | exact bI_t (by unfold mayS; rw [hk1.mp h19, Bool.or_true]; rfl) | exact bI_t (by unfold mayS; rw [bnz h31, Bool.or_true]) | exact bI_f (fun z => by unfold mayS at z; rw [Bool.or_eq_true, Bool.or_eq_true] at z; exact z.elim (fun z => z.elim (fun z => h8 (hk2.mpr z)) (fun z => h19 (hk1.mpr z))) (bz h31))))
      · refine r_iconst (1) 35 dX5_canBeginPart_34 rfl (by decide) ?_
        refine r_goto 39 dX5_canBeginPart_35 (by decide) ?_
        exact r_zret dX5_canBeginPart_39 rfl rfl (by decide) (out_eq (by first | exact bI_t (by unfold mayS; rw [hk2.mp h8]; rfl) | exact bI_t (by unfold mayS; rw [hk1.mp h19, Bool.or_true]; rfl) | exact bI_t (by unfold mayS; rw [bnz h31, Bool.or_true]) | exact bI_f (fun z => by unfold mayS at z; rw [Bool.or_eq_true, Bool.or_eq_true] at z; exact z.elim (fun z => z.elim (fun z => h8 (hk2.mpr z)) (fun z => h19 (hk1.mpr z))) (bz h31))))
set_option maxRecDepth 20000 in
theorem rd_expr0 {d : Nat} {E0 E : HP} {T : TX} {b : Nat} {s : PS} {w : Int32} (y1 : CRd E0 E T b s) (hw : w = nI 6) : ∃ o, (∃ E2, o = (.inl none, E2, 137) ∧ CRd E0 E2 T b (exprS T 0 s)) ∧ Cl yX5_readExpr mX5_readExpr (d + 8) 0 0 [.ref 41, .int w] E 137 o := by
  have hb := rd_b y1
  have hbs : sh b = (0, 0) := bo_1 (rd_bed y1)
  have hbn : b < 137 := by omega
  have hb5 : sh (b + 5) = (7, 0) := (rd_bed y1).2.2.2.2.2.2.2.2.2.1.1
  have hb5n : b + 5 < 137 := by omega
  refine Cx.of (by decide) rfl (fun q => by cases q) rfl rfl (Nat.le_of_ble_eq_true rfl) ?_
  show Sx _ _ _ _ _ 0 [some (.ref 41), some (.int (w)), none] [] _ _
  refine Sx.up (fun _ kk => r_iload_n 1 dX5_readExpr_0 rfl rfl kk) ?_
  refine Sx.up (fun _ kk => r_bipush (6) 3 dX5_readExpr_1 rfl (by decide) kk) ?_
  refine Sx.up (fun _ kk => r_icmp_lt 6 23 dX5_readExpr_3 rfl (by decide) (fun h3 => absurd h3 (by rw [hw]; exact nI_nlt (Nat.le_refl 6) (by omega))) (fun _ => kk)) ?_
  refine Sx.up (fun _ kk => r_aload_n 7 dX5_readExpr_6 rfl rfl kk) ?_
  refine Sx.up (fun _ kk => r_aload_n 8 dX5_readExpr_7 rfl rfl kk) ?_
  refine Sx.up (fun _ kk => r_callV 11 dX5_readExpr_8 rfl k5_183 (rd_may (d := d + 5) y1) rfl rfl (by first | with_reducible assumption | with_reducible exact cr_bs hC | rfl) (by decide) rfl (by first | with_reducible assumption | with_reducible exact cr_bn hC | exact Nat.le_of_ble_eq_true rfl) (Nat.le_of_ble_eq_true rfl) kk) ?_
  refine Sx.br (fun _ ka kb => r_if_eq 14 18 dX5_readExpr_11 rfl (by decide) ka kb) (by first | exact em1 | exact em2) (fun h11 => ?_) (fun h11 => ?_)
  · refine Sx.up (fun _ kk => r_iconst (1) 19 dX5_readExpr_18 rfl (by decide) kk) ?_
    obtain ⟨_, ⟨E2, rfl, y2⟩, hcl2⟩ := rd_refuse (d := d + 6) (k9 := if mayS T s = true then 2 else 1) y1 (by first | (rw [if_pos (bnz h11)]; rfl) | (rw [if_neg (bz h11)]; rfl)) (by split <;> decide) (by split <;> decide)
    refine Sx.up (fun _ kk => r_callV 22 dX5_readExpr_19 rfl k5_128 hcl2 rfl rfl (by first | with_reducible assumption | with_reducible exact cr_bs hC | rfl) (by decide) rfl (by first | with_reducible assumption | with_reducible exact cr_bn hC | exact Nat.le_of_ble_eq_true rfl) (Nat.le_of_ble_eq_true rfl) kk) ?_
    refine ⟨_, ?_, r_vret dX5_readExpr_22 rfl rfl rfl⟩
    exact ⟨_, rfl, y2⟩
  · refine Sx.up (fun _ kk => r_iconst (2) 15 dX5_readExpr_14 rfl (by decide) kk) ?_
    refine Sx.up (fun _ kk => r_goto 19 dX5_readExpr_15 (by decide) kk) ?_
    obtain ⟨_, ⟨E3, rfl, y3⟩, hcl3⟩ := rd_refuse (d := d + 6) (k9 := if mayS T s = true then 2 else 1) y1 (by first | (rw [if_pos (bnz h11)]; rfl) | (rw [if_neg (bz h11)]; rfl)) (by split <;> decide) (by split <;> decide)
    refine Sx.up (fun _ kk => r_callV 22 dX5_readExpr_19 rfl k5_128 hcl3 rfl rfl (by first | with_reducible assumption | with_reducible exact cr_bs hC | rfl) (by decide) rfl (by first | with_reducible assumption | with_reducible exact cr_bn hC | exact Nat.le_of_ble_eq_true rfl) (Nat.le_of_ble_eq_true rfl) kk) ?_
    refine ⟨_, ?_, r_vret dX5_readExpr_22 rfl rfl rfl⟩
    exact ⟨_, rfl, y3⟩
theorem rd_expr {d : Nat} {E0 : HP} {T : TX} {b : Nat} : ∀ l, l ≤ 6 → ∀ {E : HP} {s : PS} {w : Int32}, CRd E0 E T b s → slk 1 s → w = nI (6 - l) → ∃ o, (∃ E2, o = (.inl none, E2, 137) ∧ CRd E0 E2 T b (exprS T l s)) ∧ Cl yX5_readExpr mX5_readExpr (d + 7 * l + 8) 0 0 [.ref 41, .int w] E 137 o := by
  intro l
  induction l with
  | zero => intro _ E s w y1 _ hw; exact rd_expr0 (d := d) y1 hw
  | succ l ih =>
    intro hl E s w y1 hs hw
    rw [show d + 7 * (l + 1) + 8 = d + 7 * l + 8 + 7 by omega]
    exact rd_or y1 hs hw hl (fun y1 hs hw => ih (by omega) y1 hs hw)
