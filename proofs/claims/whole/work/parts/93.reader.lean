/-! The reader: what it holds; small methods -/
/-- what is told so far, in the bed b -/
def BdC (E : HP) (b : Nat) (B : BD) : Prop := gI E 4 b = nI (bC B) ∧ bC B ≤ 7 ∧ (∀ s, s < bC B → ∀ k, 1 ≤ k → k ≤ 7 → gI E (1023 + k) (b + 12 + s) = bL B k s) ∧ (∀ s, s < 7 → gA E (b + 4) s = bE B s) ∧ (∀ i, i < 5 → gI E (5 + i) b = bX B i) ∧ gI E 644 41 = bX B 5 ∧ gI E 10 b = nI (bN B) ∧ bN B ≤ 6 ∧ gI E 897 (b + 5) = nI (bR B).length ∧ (bR B).length ≤ 600 ∧ ∀ i, i < (bR B).length → gA E (b + 7) i = (bR B).getD i 0
def CSt (E : HP) (T : TX) (b : Nat) : PS → Prop
  | .inl (k, p) => gI E 642 41 = nI k ∧ 1 ≤ k ∧ k ≤ 5 ∧ gI E 643 41 = nI p ∧ p ≤ T.2 ∧ TkD E T
  | .inr (a, B) => gI E 642 41 = 0 ∧ gI E 643 41 = -1 ∧ a ≤ T.2 ∧ TkA E T a ∧ BdC E b B
def RdP (b k : Nat) : Prop := k = 41 ∨ k = 42 ∨ (b ≤ k ∧ k ≤ b + 18)
def CRd (E0 E : HP) (T : TX) (b : Nat) (s : PS) : Prop := (TXok T ∧ TkF E T ∧ gR E 640 41 = some 42 ∧ gR E 641 41 = some b ∧ BedOK E 137 b ∧ (b = 3 ∨ b = 22) ∧ Fr (RdP b) E0 E ∧ SR E0 E) ∧ CSt E T b s
theorem rd_T {E0 E : HP} {T : TX} {b : Nat} {s : PS} (h : CRd E0 E T b s) : TXok T := h.1.1
theorem rd_F {E0 E : HP} {T : TX} {b : Nat} {s : PS} (h : CRd E0 E T b s) : TkF E T := h.1.2.1
theorem rd_tok {E0 E : HP} {T : TX} {b : Nat} {s : PS} (h : CRd E0 E T b s) : gR E 640 41 = some 42 := h.1.2.2.1
theorem rd_into {E0 E : HP} {T : TX} {b : Nat} {s : PS} (h : CRd E0 E T b s) : gR E 641 41 = some b := h.1.2.2.2.1
theorem rd_bed {E0 E : HP} {T : TX} {b : Nat} {s : PS} (h : CRd E0 E T b s) : BedOK E 137 b := h.1.2.2.2.2.1
theorem rd_b {E0 E : HP} {T : TX} {b : Nat} {s : PS} (h : CRd E0 E T b s) : b = 3 ∨ b = 22 := h.1.2.2.2.2.2.1
theorem rd_rule {E0 E : HP} {T : TX} {b : Nat} {s : PS} (h : CRd E0 E T b s) : gR E 3 b = some (b + 5) := (rd_bed h).2.2.2.2.1
/-- a step within the reader's things keeps what stands fast -/
theorem rd_step {E0 E E2 : HP} {T : TX} {b : Nat} {s s2 : PS} (h : CRd E0 E T b s) (f : Fr (RdP b) E E2) (r : SR E E2) (hF : TkF E2 T) (hs : CSt E2 T b s2) : CRd E0 E2 T b s2 := ⟨⟨h.1.1, hF, sr_gR r h.1.2.2.1, sr_gR r h.1.2.2.2.1, sr_bed r h.1.2.2.2.2.1, h.1.2.2.2.2.2.1, fr_tr h.1.2.2.2.2.2.2.1 f, sr_tr h.1.2.2.2.2.2.2.2 r⟩, hs⟩
theorem rdp_tok {b : Nat} {E E2 : HP} (h : TkM E E2) : Fr (RdP b) E E2 := fr_mono h.1 (fun _ z => Or.inr (Or.inl z))
theorem bdc_tok {E E2 : HP} {b : Nat} {B : BD} (hb : b = 3 ∨ b = 22) (h : TkM E E2) (o : BdC E b B) : BdC E2 b B := by
  have i : ∀ g k, k ≠ 42 → gI E2 g k = gI E g k := fun g k hk => fr_gI h.1 hk g
  have a : ∀ k, k ≠ 42 → gA E2 k = gA E k := fun k hk => fr_gA h.1 hk
  obtain ⟨o1, o2, o3, o4, o5, o6, o7, o8, o9, o10, o11⟩ := o
  exact ⟨(i _ _ (by omega)).trans o1, o2, fun s hs k k1 k7 => (i _ _ (by omega)).trans (o3 s hs k k1 k7), fun s hs => by rw [a _ (by omega)]; exact o4 s hs, fun j hj => (i _ _ (by omega)).trans (o5 j hj), (i _ _ (by omega)).trans o6, (i _ _ (by omega)).trans o7, o8, (i _ _ (by omega)).trans o9, o10, fun j hj => by rw [a _ (by omega)]; exact o11 j hj⟩
theorem bz {q : Bool} (h : bI q = 0) : ¬ q = true := fun z => by rw [bI_t z] at h; exact absurd h (by decide)
theorem bnz {q : Bool} (h : ¬ bI q = 0) : q = true := by
  cases q with
  | false => exact absurd rfl h
  | true => rfl
theorem adv_flt {T : TX} {k : Nat} (s : PS) : advS T (fltS k s) = fltS k s := by cases s <;> rfl
theorem ru_flt {x : Int32} {k : Nat} (s : PS) : ruS x (fltS k s) = fltS k s := by cases s <;> rfl
set_option maxRecDepth 20000 in
theorem rd_adv {d : Nat} {E0 E : HP} {T : TX} {b : Nat} {s : PS} (y1 : CRd E0 E T b s) : ∃ o, (∃ E2, o = (.inl none, E2, 137) ∧ CRd E0 E2 T b (advS T s)) ∧ Cl yX10_advance mX10_advance (d + 5) 0 0 [.ref 42] E 137 o := by
  have hb := rd_b y1
  cases s with
  | inl x =>
    obtain ⟨k, p⟩ := x
    obtain ⟨c1, c2, c3, c4, c5, ⟨q, q1, q2, q3, q4⟩⟩ := id y1.2
    obtain ⟨_, ⟨E2, rfl, hA, hm⟩, hcl⟩ := tk_adv (d := d) (rd_T y1) (rd_F y1) q3 (Nat.le_refl _)
    exact ⟨_, ⟨E2, rfl, rd_step y1 (rdp_tok hm) hm.2.1 (tkf_m hm (rd_F y1)) ⟨(fr_gI hm.1 (by decide) _).trans c1, c2, c3, (fr_gI hm.1 (by decide) _).trans c4, c5, tka_end hA⟩⟩, hcl⟩
  | inr x =>
    obtain ⟨a, B⟩ := x
    obtain ⟨c1, c2, c3, c4, c5⟩ := id y1.2
    obtain ⟨_, ⟨E2, rfl, hA, hm⟩, hcl⟩ := tk_adv (d := d) (rd_T y1) (rd_F y1) c4.2.1 (toE_le.2.1 c3)
    exact ⟨_, ⟨E2, rfl, rd_step y1 (rdp_tok hm) hm.2.1 (tkf_m hm (rd_F y1)) ⟨(fr_gI hm.1 (by decide) _).trans c1, (fr_gI hm.1 (by decide) _).trans c2, nxT_le.2.1 c3, hA, bdc_tok hb hm c5⟩⟩, hcl⟩
set_option maxRecDepth 20000 in
theorem rd_refuse {d : Nat} {E0 E : HP} {T : TX} {b : Nat} {s : PS} {k : Int32} {k9 : Nat} (y1 : CRd E0 E T b s) (hk : k = nI k9) (h1 : 1 ≤ k9) (h5 : k9 ≤ 5) : ∃ o, (∃ E2, o = (.inl none, E2, 137) ∧ CRd E0 E2 T b (fltS k9 s)) ∧ Cl yX5_refuse mX5_refuse (d + 1) 0 0 [.ref 41, .int k] E 137 o := by
  have hb := rd_b y1
  have hbs : sh b = (0, 0) := bo_1 (rd_bed y1)
  have hbn : b < 137 := by omega
  have hb5 : sh (b + 5) = (7, 0) := (rd_bed y1).2.2.2.2.2.2.2.2.2.1.1
  have hb5n : b + 5 < 137 := by omega
  subst hk
  refine Cx.of (by decide) rfl (fun q => by cases q) rfl rfl (Nat.le_of_ble_eq_true rfl) ?_
  show Sx _ _ _ _ _ 0 [some (.ref 41), some (.int (nI k9))] [] _ _
  cases s with
  | inl x =>
    obtain ⟨k, p⟩ := x
    obtain ⟨c1, c2, c3, c4, c5, ⟨q, q1, q2, q3, q4⟩⟩ := id y1.2
    obtain ⟨hD, hm⟩ := tkd_stop (E := E) q1 q2
    refine Sx.up (fun _ kk => r_aload_n 1 dX5_refuse_0 rfl rfl kk) ?_
    refine Sx.up (fun _ kk => r_getIV (nI k) 4 dX5_refuse_1 rfl f5_25 rfl (by first | with_reducible assumption | with_reducible exact cr_bs hC | rfl) (by first | with_reducible assumption | with_reducible exact cr_bn hC | exact Nat.le_of_ble_eq_true rfl) (c1) kk) ?_
    refine Sx.up (fun _ kk => r_if_ne 7 23 dX5_refuse_4 rfl (by decide) (fun _ => kk) (fun h4 => absurd h4 (nI_ne0 (by omega) (by omega)))) ?_
    refine Sx.up (fun _ kk => r_aload_n 24 dX5_refuse_23 rfl rfl kk) ?_
    refine Sx.up (fun _ kk => r_getR 27 dX5_refuse_24 rfl f5_19 rfl (by first | with_reducible assumption | with_reducible exact cr_bs hC | rfl) (by first | with_reducible assumption | with_reducible exact cr_bn hC | exact Nat.le_of_ble_eq_true rfl) (rd_tok y1) kk) ?_
    refine Sx.up (fun _ kk => r_callV (M := mX5_refuse) (pc := 27) 30 dX5_refuse_27 rfl k5_57 (tk_stop (rd_F y1)) rfl rfl (by first | with_reducible assumption | with_reducible exact cr_bs hC | rfl) (by decide) rfl (by first | with_reducible assumption | with_reducible exact cr_bn hC | exact Nat.le_of_ble_eq_true rfl) (Nat.le_of_ble_eq_true rfl) kk) ?_
    refine ⟨_, ?_, r_vret dX5_refuse_30 rfl rfl rfl⟩
    exact ⟨_, rfl, rd_step y1 (rdp_tok hm) hm.2.1 (tkf_m hm (rd_F y1)) ⟨c1, c2, c3, c4, c5, hD⟩⟩
  | inr x =>
    obtain ⟨a, B⟩ := x
    obtain ⟨c1, c2, c3, c4, c5⟩ := id y1.2
    obtain ⟨E1, hE1⟩ : ∃ E1, sI (sI E 642 41 (nI k9)) 643 41 (nI a) = E1 := ⟨_, rfl⟩
    have hF1 : Fr (RdP b) E E1 := by subst hE1; exact fr_sI (Or.inl rfl) (fr_sI (Or.inl rfl) fr_rfl)
    have hS1 : SR E E1 := by subst hE1; exact sr_rfl
    have hT1 : TkF E1 T := by subst hE1; exact (show TkF E T from rd_F y1)
    have ha1 : gI E1 1282 42 = nI a := by subst hE1; exact c4.1
    have ht1 : gR E1 640 41 = some 42 := sr_gR hS1 (rd_tok y1)
    have hf1 : gI E1 642 41 = nI k9 := by subst hE1; rw [gI_sI, if_neg (by decide), gI_sI, if_pos ⟨rfl, rfl⟩]
    have hf2 : gI E1 643 41 = nI a := by subst hE1; rw [gI_sI, if_pos ⟨rfl, rfl⟩]
    obtain ⟨hD, hm⟩ := tkd_stop (E := E1) (T := T) c3 ha1
    refine Sx.up (fun _ kk => r_aload_n 1 dX5_refuse_0 rfl rfl kk) ?_
    refine Sx.up (fun _ kk => r_getIV (0) 4 dX5_refuse_1 rfl f5_25 rfl (by first | with_reducible assumption | with_reducible exact cr_bs hC | rfl) (by first | with_reducible assumption | with_reducible exact cr_bn hC | exact Nat.le_of_ble_eq_true rfl) (c1) kk) ?_
    refine Sx.up (fun _ kk => r_if_ne 7 23 dX5_refuse_4 rfl (by decide) (fun h4 => absurd h4 (fun z => z rfl)) (fun _ => kk)) ?_
    refine Sx.up (fun _ kk => r_aload_n 8 dX5_refuse_7 rfl rfl kk) ?_
    refine Sx.up (fun _ kk => r_iload_n 9 dX5_refuse_8 rfl rfl kk) ?_
    refine Sx.up (fun _ kk => r_putI 12 dX5_refuse_9 rfl f5_25 (by first | with_reducible assumption | with_reducible exact cr_bs hC | rfl) (by first | with_reducible assumption | with_reducible exact cr_bn hC | exact Nat.le_of_ble_eq_true rfl) kk) ?_
    refine Sx.up (fun _ kk => r_aload_n 13 dX5_refuse_12 rfl rfl kk) ?_
    refine Sx.up (fun _ kk => r_aload_n 14 dX5_refuse_13 rfl rfl kk) ?_
    refine Sx.up (fun _ kk => r_getR 17 dX5_refuse_14 rfl f5_19 rfl (by first | with_reducible assumption | with_reducible exact cr_bs hC | rfl) (by first | with_reducible assumption | with_reducible exact cr_bn hC | exact Nat.le_of_ble_eq_true rfl) (by first | exact (show gR E 640 41 = some 42 from rd_tok y1) | exact ht1) kk) ?_
    refine Sx.up (fun _ kk => r_getIV (nI a) 20 dX5_refuse_17 rfl f5_54 rfl (by first | with_reducible assumption | with_reducible exact cr_bs hC | rfl) (by first | with_reducible assumption | with_reducible exact cr_bn hC | exact Nat.le_of_ble_eq_true rfl) (c4.1) kk) ?_
    refine Sx.up (fun _ kk => r_putI 23 dX5_refuse_20 rfl f5_29 (by first | with_reducible assumption | with_reducible exact cr_bs hC | rfl) (by first | with_reducible assumption | with_reducible exact cr_bn hC | exact Nat.le_of_ble_eq_true rfl) kk) ?_
    rw [hE1]
    refine Sx.up (fun _ kk => r_aload_n 24 dX5_refuse_23 rfl rfl kk) ?_
    refine Sx.up (fun _ kk => r_getR 27 dX5_refuse_24 rfl f5_19 rfl (by first | with_reducible assumption | with_reducible exact cr_bs hC | rfl) (by first | with_reducible assumption | with_reducible exact cr_bn hC | exact Nat.le_of_ble_eq_true rfl) (by first | exact (show gR E 640 41 = some 42 from rd_tok y1) | exact ht1) kk) ?_
    refine Sx.up (fun _ kk => r_callV (M := mX5_refuse) (pc := 27) 30 dX5_refuse_27 rfl k5_57 (tk_stop hT1) rfl rfl (by first | with_reducible assumption | with_reducible exact cr_bs hC | rfl) (by decide) rfl (by first | with_reducible assumption | with_reducible exact cr_bn hC | exact Nat.le_of_ble_eq_true rfl) (Nat.le_of_ble_eq_true rfl) kk) ?_
    refine ⟨_, ?_, r_vret dX5_refuse_30 rfl rfl rfl⟩
    exact ⟨_, rfl, rd_step y1 (fr_tr hF1 (rdp_tok hm)) (sr_tr hS1 hm.2.1) (tkf_m hm hT1) ⟨hf1, h1, h5, hf2, c3, hD⟩⟩
set_option maxRecDepth 20000 in
theorem rd_word {d i : Nat} {q : String × Nat × String × List Int32} {E0 E : HP} {T : TX} {b : Nat} {s : PS} (y1 : CRd E0 E T b s) (hq : stL[i]? = some q) : Cl yX10_isWord mX10_isWord (d + 4) 0 0 [.ref 42, .ref (1000 + i)] E 137 (.inl (some (.int (bI (wdS T q.2.2.2 s)))), E, 137) := by
  cases s with
  | inl x => exact c_isWordD (q := q) (rd_T y1) (rd_F y1) y1.2.2.2.2.2.2
  | inr x => exact c_isWordL (rd_T y1) (rd_F y1) y1.2.2.2.2.1 hq
set_option maxRecDepth 20000 in
theorem rd_sign {d : Nat} {c : Int32} {E0 E : HP} {T : TX} {b : Nat} {s : PS} (y1 : CRd E0 E T b s) : Cl yX10_isSign mX10_isSign (d + 1) 0 0 [.ref 42, .int c] E 137 (.inl (some (.int (bI (sgS T c s)))), E, 137) := by
  cases s with
  | inl x => exact c_isSignD (rd_T y1) (rd_F y1) y1.2.2.2.2.2.2
  | inr x => exact c_isSignL (rd_T y1) (rd_F y1) y1.2.2.2.2.1
theorem b01_bI {p : Prop} [Decidable p] {q : Prop} (h : q ↔ p) : b01 q = bI (decide p) := by
  by_cases hp : p
  · rw [b01_t (h.mpr hp), bI_t (decide_eq_true hp)]
  · rw [b01_f (fun z => hp (h.mp z)), bI_f (fun z => hp (of_decide_eq_true z))]
theorem nlt_le {x y : Nat} (hx : x < 100000) (hy : y < 100000) : ¬ nI x < nI y ↔ y ≤ x := by
  constructor
  · intro h
    rcases Nat.lt_or_ge x y with z | z
    · exact absurd (nI_lt z (by omega)) h
    · exact z
  · intro h
    exact nI_nlt h (by omega)
set_option maxRecDepth 20000 in
theorem rd_numw {d lo hi : Nat} {x z : Int32} {E0 E : HP} {T : TX} {b : Nat} {s : PS} (y1 : CRd E0 E T b s) (hx : x = nI lo) (hz : z = nI hi) (h1 : lo < 100000) (h2 : hi < 100000) : Cl yX10_isNumberWithin mX10_isNumberWithin (d + 2) 0 0 [.ref 42, .int x, .int z] E 137 (.inl (some (.int (bI (nwS T lo hi s)))), E, 137) := by
  subst hx
  subst hz
  cases s with
  | inl x => exact c_isNumD (rd_T y1) (rd_F y1) y1.2.2.2.2.2.2
  | inr x =>
    have h9 := c_isNumL (d := d) (lo := nI lo) (hi := nI hi) (rd_T y1) (rd_F y1) y1.2.2.2.2.1 y1.2.2.2.1
    rw [b01_bI (p := kdT T x.1 = 2 ∧ lo ≤ numT T x.1 ∧ numT T x.1 ≤ hi) ?_] at h9
    · exact h9
    · constructor
      · rintro ⟨e1, e2, e3⟩
        have hl := num_lt e1
        exact ⟨e1, (nlt_le (by omega) h1).mp e2, (nlt_le h2 (by omega)).mp e3⟩
      · rintro ⟨e1, e2, e3⟩
        have hl := num_lt e1
        exact ⟨e1, (nlt_le (by omega) h1).mpr e2, (nlt_le h2 (by omega)).mpr e3⟩
set_option maxRecDepth 20000 in
theorem rd_num {d : Nat} {E0 E : HP} {T : TX} {b : Nat} {s : PS} (y1 : CRd E0 E T b s) : ∃ v, (kiS T 2 s = true → v = nI (vaS T s)) ∧ Cl yX10_number mX10_number (d + 1) 0 0 [.ref 42] E 137 (.inl (some (.int v)), E, 137) := by
  cases s with
  | inl x =>
    obtain ⟨q, q1, q2, q3, q4⟩ := y1.2.2.2.2.2.2
    exact ⟨_, fun z => absurd z (by show ¬ false = true; decide), c_number (rd_T y1) (rd_F y1) q2 q3 q1 (Nat.le_refl _)⟩
  | inr x =>
    obtain ⟨c1, c2, c3, c4, c5⟩ := id y1.2
    exact ⟨_, fun z => numV_N (of_decide_eq_true z), c_number (rd_T y1) (rd_F y1) c4.1 c4.2.1 toE_le.1 (toE_le.2.1 c3)⟩
set_option maxRecDepth 20000 in
theorem rd_kind {k : Nat} {E0 E : HP} {T : TX} {b : Nat} {s : PS} (y1 : CRd E0 E T b s) (hk : 1 ≤ k) (hk9 : k < 100) : (gI E 1284 42 = nI k ↔ kiS T k s = true) := by
  cases s with
  | inl x =>
    obtain ⟨q, q1, q2, q3, q4⟩ := y1.2.2.2.2.2.2
    rw [q4]
    exact ⟨fun z => absurd z.symm (nI_ne0 hk (by omega)), fun z => absurd z (by show ¬ false = true; decide)⟩
  | inr x =>
    obtain ⟨c1, c2, c3, c4, c5⟩ := id y1.2
    have kl := kd_le T x.1
    rw [c4.2.2, nI_eq (by omega) (by omega)]
    exact ⟨fun z => decide_eq_true z, fun z => of_decide_eq_true z⟩
theorem ru_get {E : HP} {h k : Nat} {x : Int32} (hk : gI E 897 h = nI k) (h6 : k < 600) : ruAdd E h x = sI (sA E (h + 2) k x) 897 h (nI (k + 1)) := by
  unfold ruAdd
  rw [hk, rPut_nI h6 (by omega), nI_pp]
theorem rd_rput {E0 E : HP} {T : TX} {b : Nat} {s : PS} {x : Int32} (y1 : CRd E0 E T b s) (hs : slk 1 s) : CRd E0 (ruAdd E (b + 5) x) T b (ruS x s) := by
  have hb := rd_b y1
  have hf : Fr (RdP b) E (ruAdd E (b + 5) x) := fr_sI (Or.inr (Or.inr (by omega))) (fr_put (Or.inr (Or.inr (by omega))) fr_rfl)
  have hr : SR E (ruAdd E (b + 5) x) := sr_sI (sr_put sr_rfl)
  have ht : Fr (fun k => b ≤ k ∧ k ≤ b + 18) E (ruAdd E (b + 5) x) := fr_sI (by omega) (fr_put (by omega) fr_rfl)
  have i42 : ∀ g, gI (ruAdd E (b + 5) x) g 42 = gI E g 42 := fun g => fr_gI ht (by omega) g
  have i41 : ∀ g, gI (ruAdd E (b + 5) x) g 41 = gI E g 41 := fun g => fr_gI ht (by omega) g
  have hF : TkF (ruAdd E (b + 5) x) T := ⟨sr_gR hr (rd_F y1).1, sr_row hr (rd_F y1).2.1, (i42 _).trans (rd_F y1).2.2.1, fun i hi => by rw [fr_gA ht (by omega)]; exact (rd_F y1).2.2.2 i hi⟩
  refine rd_step y1 hf hr hF ?_
  cases s with
  | inl z =>
    obtain ⟨k, p⟩ := z
    obtain ⟨c1, c2, c3, c4, c5, ⟨q, q1, q2, q3, q4⟩⟩ := id y1.2
    exact ⟨(i41 _).trans c1, c2, c3, (i41 _).trans c4, c5, q, q1, (i42 _).trans q2, (i42 _).trans q3, (i42 _).trans q4⟩
  | inr z =>
    obtain ⟨a, B⟩ := z
    obtain ⟨c1, c2, c3, c4, o1, o2, o3, o4, o5, o6, o7, o8, o9, o10, o11⟩ := id y1.2
    have hs : (bR B).length + 1 ≤ a := hs
    have n6 := (rd_T y1).1
    have e := ru_get (x := x) o9 (by omega)
    have eI : ∀ g k, ¬ (g = 897 ∧ k = b + 5) → gI (ruAdd E (b + 5) x) g k = gI E g k := fun g k z => by rw [e, gI_sI, if_neg z]; rfl
    have eA : ∀ k, k ≠ b + 7 → gA (ruAdd E (b + 5) x) k = gA E k := fun k z => by
      rw [e]
      funext j
      show gA (sA E (b + 5 + 2) (bR B).length x) k j = _
      rw [gA_sA, if_neg (fun y => z (by omega))]
    refine ⟨(i41 _).trans c1, (i41 _).trans c2, c3, ⟨(i42 _).trans c4.1, (i42 _).trans c4.2.1, (i42 _).trans c4.2.2⟩, (eI _ _ (by omega)).trans o1, o2, fun s hs k k1 k7 => (eI _ _ (by omega)).trans (o3 s hs k k1 k7), fun s hs => by rw [eA _ (by omega)]; exact o4 s hs, fun i hi => (eI _ _ (by omega)).trans (o5 i hi), (i41 _).trans o6, (eI _ _ (by omega)).trans o7, o8, ?_, ?_, fun i hi => ?_⟩
    · rw [addR_R, List.length_append, e, gI_sI, if_pos ⟨rfl, rfl⟩]; rfl
    · rw [addR_R, List.length_append]; show (bR B).length + 1 ≤ 600; omega
    · rw [addR_R, List.length_append] at hi
      have hi : i < (bR B).length + 1 := hi
      rw [addR_R, e]
      show gA (sA E (b + 5 + 2) (bR B).length x) (b + 7) i = _
      rw [gA_sA, List.getD_eq_getElem?_getD]
      by_cases hl : i = (bR B).length
      · rw [if_pos ⟨by omega, hl⟩, hl, List.getElem?_append_right (Nat.le_refl _), Nat.sub_self]; rfl
      · rw [if_neg (fun y => hl y.2), List.getElem?_append_left (by omega), ← List.getD_eq_getElem?_getD]
        exact o11 i (by omega)
theorem rd_radd {d : Nat} {E0 E : HP} {T : TX} {b : Nat} {s : PS} {x : Int32} (y1 : CRd E0 E T b s) (hs : slk 1 s) : ∃ o, (∃ E2, o = (.inl none, E2, 137) ∧ CRd E0 E2 T b (ruS x s)) ∧ Cl yX7_add mX7_add (d + 1) 0 0 [.ref (b + 5), .int x] E 137 o := ⟨_, ⟨_, rfl, rd_rput y1 hs⟩, c_X7_add (rd_bed y1).2.2.2.2.2.2.2.2.2.1⟩
set_option maxRecDepth 20000 in
theorem rd_takeSign {d : Nat} {E0 E : HP} {T : TX} {b : Nat} {s : PS} {c : Int32} (y1 : CRd E0 E T b s)  : ∃ o, (∃ E2, o = (.inl none, E2, 137) ∧ CRd E0 E2 T b (sgnS T c s)) ∧ Cl yX5_takeSign mX5_takeSign (d + 6) 0 0 [.ref 41, .int c] E 137 o := by
  have hb := rd_b y1
  have hbs : sh b = (0, 0) := bo_1 (rd_bed y1)
  have hbn : b < 137 := by omega
  have hb5 : sh (b + 5) = (7, 0) := (rd_bed y1).2.2.2.2.2.2.2.2.2.1.1
  have hb5n : b + 5 < 137 := by omega
  refine Cx.of (by decide) rfl (fun q => by cases q) rfl rfl (Nat.le_of_ble_eq_true rfl) ?_
  show Sx _ _ _ _ _ 0 [some (.ref 41), some (.int (c))] [] _ _
  refine Sx.up (fun _ kk => r_aload_n 1 dX5_takeSign_0 rfl rfl kk) ?_
  refine Sx.up (fun _ kk => r_getR 4 dX5_takeSign_1 rfl f5_19 rfl (by first | with_reducible assumption | with_reducible exact cr_bs hC | rfl) (by first | with_reducible assumption | with_reducible exact cr_bn hC | exact Nat.le_of_ble_eq_true rfl) (rd_tok y1) kk) ?_
  refine Sx.up (fun _ kk => r_iload_n 5 dX5_takeSign_4 rfl rfl kk) ?_
  refine Sx.up (fun _ kk => r_callV (M := mX5_takeSign) (pc := 5) 8 dX5_takeSign_5 rfl k5_141 (rd_sign y1) rfl rfl (by first | with_reducible assumption | with_reducible exact cr_bs hC | rfl) (by decide) rfl (by first | with_reducible assumption | with_reducible exact cr_bn hC | exact Nat.le_of_ble_eq_true rfl) (Nat.le_of_ble_eq_true rfl) kk) ?_
  refine Sx.br (fun _ ka kb => r_if_ne 11 16 dX5_takeSign_8 rfl (by decide) ka kb) (by first | exact em1 | exact em2) (fun h8 => ?_) (fun h8 => ?_)
  · refine Sx.up (fun _ kk => r_aload_n 17 dX5_takeSign_16 rfl rfl kk) ?_
    refine Sx.up (fun _ kk => r_getR 20 dX5_takeSign_17 rfl f5_19 rfl (by first | with_reducible assumption | with_reducible exact cr_bs hC | rfl) (by first | with_reducible assumption | with_reducible exact cr_bn hC | exact Nat.le_of_ble_eq_true rfl) (rd_tok y1) kk) ?_
    obtain ⟨_, ⟨E2, rfl, y2⟩, hcl2⟩ := rd_adv (d := d) y1
    refine Sx.up (fun _ kk => r_callV (M := mX5_takeSign) (pc := 20) 23 dX5_takeSign_20 rfl k5_131 hcl2 rfl rfl (by first | with_reducible assumption | with_reducible exact cr_bs hC | rfl) (by decide) rfl (by first | with_reducible assumption | with_reducible exact cr_bn hC | exact Nat.le_of_ble_eq_true rfl) (Nat.le_of_ble_eq_true rfl) kk) ?_
    refine ⟨_, ?_, r_vret dX5_takeSign_23 rfl rfl rfl⟩
    refine ⟨_, rfl, ?_⟩
    first | (unfold sgnS; rw [if_pos (bnz h8)]; exact y2) | (unfold sgnS; rw [if_neg (bz h8), ← adv_flt]; exact y2)
  · refine Sx.up (fun _ kk => r_aload_n 12 dX5_takeSign_11 rfl rfl kk) ?_
    refine Sx.up (fun _ kk => r_iconst (1) 13 dX5_takeSign_12 rfl (by decide) kk) ?_
    obtain ⟨_, ⟨E3, rfl, y3⟩, hcl3⟩ := rd_refuse (d := d + 4) y1 (k := 1) (k9 := 1) rfl (by decide) (by decide)
    refine Sx.up (fun _ kk => r_callV (M := mX5_takeSign) (pc := 13) 16 dX5_takeSign_13 rfl k5_128 hcl3 rfl rfl (by first | with_reducible assumption | with_reducible exact cr_bs hC | rfl) (by decide) rfl (by first | with_reducible assumption | with_reducible exact cr_bn hC | exact Nat.le_of_ble_eq_true rfl) (Nat.le_of_ble_eq_true rfl) kk) ?_
    refine Sx.up (fun _ kk => r_aload_n 17 dX5_takeSign_16 rfl rfl kk) ?_
    refine Sx.up (fun _ kk => r_getR 20 dX5_takeSign_17 rfl f5_19 rfl (by first | with_reducible assumption | with_reducible exact cr_bs hC | rfl) (by first | with_reducible assumption | with_reducible exact cr_bn hC | exact Nat.le_of_ble_eq_true rfl) (rd_tok y3) kk) ?_
    obtain ⟨_, ⟨E4, rfl, y4⟩, hcl4⟩ := rd_adv (d := d) y3
    refine Sx.up (fun _ kk => r_callV (M := mX5_takeSign) (pc := 20) 23 dX5_takeSign_20 rfl k5_131 hcl4 rfl rfl (by first | with_reducible assumption | with_reducible exact cr_bs hC | rfl) (by decide) rfl (by first | with_reducible assumption | with_reducible exact cr_bn hC | exact Nat.le_of_ble_eq_true rfl) (Nat.le_of_ble_eq_true rfl) kk) ?_
    refine ⟨_, ?_, r_vret dX5_takeSign_23 rfl rfl rfl⟩
    refine ⟨_, rfl, ?_⟩
    first | (unfold sgnS; rw [if_pos (bnz h8)]; exact y4) | (unfold sgnS; rw [if_neg (bz h8), ← adv_flt]; exact y4)
set_option maxRecDepth 20000 in
theorem rd_take {d lo hi : Nat} {x z : Int32} {E0 E : HP} {T : TX} {b : Nat} {s : PS} (y1 : CRd E0 E T b s) (hx : x = nI lo) (hz : z = nI hi) (h1 : lo < 100000) (h2 : hi < 100000) : ∃ o, (∃ E2 v, o = (.inl (some (.int v)), E2, 137) ∧ CRd E0 E2 T b (tkS T lo hi s) ∧ (∀ a B, tkS T lo hi s = .inr (a, B) → v = nI (vaS T s))) ∧ Cl yX5_takeNumber mX5_takeNumber (d + 6) 0 0 [.ref 41, .int x, .int z] E 137 o := by
  have hb := rd_b y1
  have hbs : sh b = (0, 0) := bo_1 (rd_bed y1)
  have hbn : b < 137 := by omega
  have hb5 : sh (b + 5) = (7, 0) := (rd_bed y1).2.2.2.2.2.2.2.2.2.1.1
  have hb5n : b + 5 < 137 := by omega
  have hki := rd_kind (k := 2) y1 (by decide) (by decide)
  refine Cx.of (by decide) rfl (fun q => by cases q) rfl rfl (Nat.le_of_ble_eq_true rfl) ?_
  show Sx _ _ _ _ _ 0 [some (.ref 41), some (.int (x)), some (.int (z)), none] [] _ _
  refine Sx.up (fun _ kk => r_aload_n 1 dX5_takeNumber_0 rfl rfl kk) ?_
  refine Sx.up (fun _ kk => r_getR 4 dX5_takeNumber_1 rfl f5_19 rfl (by first | with_reducible assumption | with_reducible exact cr_bs hC | rfl) (by first | with_reducible assumption | with_reducible exact cr_bn hC | exact Nat.le_of_ble_eq_true rfl) (rd_tok y1) kk) ?_
  refine Sx.up (fun _ kk => r_getI 7 dX5_takeNumber_4 rfl f5_48 rfl (by first | with_reducible assumption | with_reducible exact cr_bs hC | rfl) (by first | with_reducible assumption | with_reducible exact cr_bn hC | exact Nat.le_of_ble_eq_true rfl) kk) ?_
  refine Sx.up (fun _ kk => r_iconst (2) 8 dX5_takeNumber_7 rfl (by decide) kk) ?_
  refine Sx.br (fun _ ka kb => r_icmp_eq 11 19 dX5_takeNumber_8 rfl (by decide) ka kb) (by first | exact em1 | exact em2) (fun h8 => ?_) (fun h8 => ?_)
  · refine Sx.up (fun _ kk => r_aload_n 20 dX5_takeNumber_19 rfl rfl kk) ?_
    refine Sx.up (fun _ kk => r_getR 23 dX5_takeNumber_20 rfl f5_19 rfl (by first | with_reducible assumption | with_reducible exact cr_bs hC | rfl) (by first | with_reducible assumption | with_reducible exact cr_bn hC | exact Nat.le_of_ble_eq_true rfl) (rd_tok y1) kk) ?_
    refine Sx.up (fun _ kk => r_iload_n 24 dX5_takeNumber_23 rfl rfl kk) ?_
    refine Sx.up (fun _ kk => r_iload_n 25 dX5_takeNumber_24 rfl rfl kk) ?_
    refine Sx.up (fun _ kk => r_callV (M := mX5_takeNumber) (pc := 25) 28 dX5_takeNumber_25 rfl k5_134 (rd_numw y1 hx hz h1 h2) rfl rfl (by first | with_reducible assumption | with_reducible exact cr_bs hC | rfl) (by decide) rfl (by first | with_reducible assumption | with_reducible exact cr_bn hC | exact Nat.le_of_ble_eq_true rfl) (Nat.le_of_ble_eq_true rfl) kk) ?_
    refine Sx.br (fun _ ka kb => r_if_ne 31 36 dX5_takeNumber_28 rfl (by decide) ka kb) (by first | exact em1 | exact em2) (fun h28 => ?_) (fun h28 => ?_)
    · refine Sx.up (fun _ kk => r_aload_n 37 dX5_takeNumber_36 rfl rfl kk) ?_
      refine Sx.up (fun _ kk => r_getR 40 dX5_takeNumber_37 rfl f5_19 rfl (by first | with_reducible assumption | with_reducible exact cr_bs hC | rfl) (by first | with_reducible assumption | with_reducible exact cr_bn hC | exact Nat.le_of_ble_eq_true rfl) (rd_tok y1) kk) ?_
      obtain ⟨v, hv, hnu⟩ := rd_num (d := d + 4) y1
      refine Sx.up (fun _ kk => r_callV (M := mX5_takeNumber) (pc := 40) 43 dX5_takeNumber_40 rfl k5_138 hnu rfl rfl (by first | with_reducible assumption | with_reducible exact cr_bs hC | rfl) (by decide) rfl (by first | with_reducible assumption | with_reducible exact cr_bn hC | exact Nat.le_of_ble_eq_true rfl) (Nat.le_of_ble_eq_true rfl) kk) ?_
      refine Sx.up (fun _ kk => r_istore_n 44 dX5_takeNumber_43 rfl (by decide) rfl kk) ?_
      refine Sx.up (fun _ kk => r_aload_n 45 dX5_takeNumber_44 rfl rfl kk) ?_
      refine Sx.up (fun _ kk => r_getR 48 dX5_takeNumber_45 rfl f5_19 rfl (by first | with_reducible assumption | with_reducible exact cr_bs hC | rfl) (by first | with_reducible assumption | with_reducible exact cr_bn hC | exact Nat.le_of_ble_eq_true rfl) (rd_tok y1) kk) ?_
      obtain ⟨_, ⟨E2, rfl, y2⟩, hcl2⟩ := rd_adv (d := d) y1
      refine Sx.up (fun _ kk => r_callV (M := mX5_takeNumber) (pc := 48) 51 dX5_takeNumber_48 rfl k5_131 hcl2 rfl rfl (by first | with_reducible assumption | with_reducible exact cr_bs hC | rfl) (by decide) rfl (by first | with_reducible assumption | with_reducible exact cr_bn hC | exact Nat.le_of_ble_eq_true rfl) (Nat.le_of_ble_eq_true rfl) kk) ?_
      refine Sx.up (fun _ kk => r_iload_n 52 dX5_takeNumber_51 rfl rfl kk) ?_
      refine ⟨_, ?_, r_iret dX5_takeNumber_52 rfl rfl rfl⟩
      refine ⟨_, _, rfl, ?_, fun a B e => ?_⟩
      · unfold tkS
        first | (rw [if_pos (hki.mp h8), if_pos (bnz h28)]; exact y2) | (rw [if_pos (hki.mp h8), if_neg (bz h28), ← adv_flt]; exact y2) | (rw [if_neg (fun z => h8 (hki.mpr z)), ← adv_flt]; exact y2)
      · unfold tkS at e
        first | exact hv (hki.mp h8) | (rw [if_pos (hki.mp h8), if_neg (bz h28)] at e; cases s <;> cases e) | (rw [if_neg (fun z => h8 (hki.mpr z))] at e; cases s <;> cases e)
    · refine Sx.up (fun _ kk => r_aload_n 32 dX5_takeNumber_31 rfl rfl kk) ?_
      refine Sx.up (fun _ kk => r_iconst (2) 33 dX5_takeNumber_32 rfl (by decide) kk) ?_
      obtain ⟨_, ⟨E3, rfl, y3⟩, hcl3⟩ := rd_refuse (d := d + 4) y1 (k := 2) (k9 := 2) rfl (by decide) (by decide)
      refine Sx.up (fun _ kk => r_callV (M := mX5_takeNumber) (pc := 33) 36 dX5_takeNumber_33 rfl k5_128 hcl3 rfl rfl (by first | with_reducible assumption | with_reducible exact cr_bs hC | rfl) (by decide) rfl (by first | with_reducible assumption | with_reducible exact cr_bn hC | exact Nat.le_of_ble_eq_true rfl) (Nat.le_of_ble_eq_true rfl) kk) ?_
      refine Sx.up (fun _ kk => r_aload_n 37 dX5_takeNumber_36 rfl rfl kk) ?_
      refine Sx.up (fun _ kk => r_getR 40 dX5_takeNumber_37 rfl f5_19 rfl (by first | with_reducible assumption | with_reducible exact cr_bs hC | rfl) (by first | with_reducible assumption | with_reducible exact cr_bn hC | exact Nat.le_of_ble_eq_true rfl) (rd_tok y3) kk) ?_
      obtain ⟨v, hv, hnu⟩ := rd_num (d := d + 4) y3
      refine Sx.up (fun _ kk => r_callV (M := mX5_takeNumber) (pc := 40) 43 dX5_takeNumber_40 rfl k5_138 hnu rfl rfl (by first | with_reducible assumption | with_reducible exact cr_bs hC | rfl) (by decide) rfl (by first | with_reducible assumption | with_reducible exact cr_bn hC | exact Nat.le_of_ble_eq_true rfl) (Nat.le_of_ble_eq_true rfl) kk) ?_
      refine Sx.up (fun _ kk => r_istore_n 44 dX5_takeNumber_43 rfl (by decide) rfl kk) ?_
      refine Sx.up (fun _ kk => r_aload_n 45 dX5_takeNumber_44 rfl rfl kk) ?_
      refine Sx.up (fun _ kk => r_getR 48 dX5_takeNumber_45 rfl f5_19 rfl (by first | with_reducible assumption | with_reducible exact cr_bs hC | rfl) (by first | with_reducible assumption | with_reducible exact cr_bn hC | exact Nat.le_of_ble_eq_true rfl) (rd_tok y3) kk) ?_
      obtain ⟨_, ⟨E4, rfl, y4⟩, hcl4⟩ := rd_adv (d := d) y3
      refine Sx.up (fun _ kk => r_callV (M := mX5_takeNumber) (pc := 48) 51 dX5_takeNumber_48 rfl k5_131 hcl4 rfl rfl (by first | with_reducible assumption | with_reducible exact cr_bs hC | rfl) (by decide) rfl (by first | with_reducible assumption | with_reducible exact cr_bn hC | exact Nat.le_of_ble_eq_true rfl) (Nat.le_of_ble_eq_true rfl) kk) ?_
      refine Sx.up (fun _ kk => r_iload_n 52 dX5_takeNumber_51 rfl rfl kk) ?_
      refine ⟨_, ?_, r_iret dX5_takeNumber_52 rfl rfl rfl⟩
      refine ⟨_, _, rfl, ?_, fun a B e => ?_⟩
      · unfold tkS
        first | (rw [if_pos (hki.mp h8), if_pos (bnz h28)]; exact y4) | (rw [if_pos (hki.mp h8), if_neg (bz h28), ← adv_flt]; exact y4) | (rw [if_neg (fun z => h8 (hki.mpr z)), ← adv_flt]; exact y4)
      · unfold tkS at e
        first | exact hv (hki.mp h8) | (rw [if_pos (hki.mp h8), if_neg (bz h28)] at e; cases s <;> cases e) | (rw [if_neg (fun z => h8 (hki.mpr z))] at e; cases s <;> cases e)
  · refine Sx.up (fun _ kk => r_aload_n 12 dX5_takeNumber_11 rfl rfl kk) ?_
    refine Sx.up (fun _ kk => r_iconst (1) 13 dX5_takeNumber_12 rfl (by decide) kk) ?_
    obtain ⟨_, ⟨E5, rfl, y5⟩, hcl5⟩ := rd_refuse (d := d + 4) y1 (k := 1) (k9 := 1) rfl (by decide) (by decide)
    refine Sx.up (fun _ kk => r_callV (M := mX5_takeNumber) (pc := 13) 16 dX5_takeNumber_13 rfl k5_128 hcl5 rfl rfl (by first | with_reducible assumption | with_reducible exact cr_bs hC | rfl) (by decide) rfl (by first | with_reducible assumption | with_reducible exact cr_bn hC | exact Nat.le_of_ble_eq_true rfl) (Nat.le_of_ble_eq_true rfl) kk) ?_
    refine Sx.up (fun _ kk => r_goto 36 dX5_takeNumber_16 (by decide) kk) ?_
    refine Sx.up (fun _ kk => r_aload_n 37 dX5_takeNumber_36 rfl rfl kk) ?_
    refine Sx.up (fun _ kk => r_getR 40 dX5_takeNumber_37 rfl f5_19 rfl (by first | with_reducible assumption | with_reducible exact cr_bs hC | rfl) (by first | with_reducible assumption | with_reducible exact cr_bn hC | exact Nat.le_of_ble_eq_true rfl) (rd_tok y5) kk) ?_
    obtain ⟨v, hv, hnu⟩ := rd_num (d := d + 4) y5
    refine Sx.up (fun _ kk => r_callV (M := mX5_takeNumber) (pc := 40) 43 dX5_takeNumber_40 rfl k5_138 hnu rfl rfl (by first | with_reducible assumption | with_reducible exact cr_bs hC | rfl) (by decide) rfl (by first | with_reducible assumption | with_reducible exact cr_bn hC | exact Nat.le_of_ble_eq_true rfl) (Nat.le_of_ble_eq_true rfl) kk) ?_
    refine Sx.up (fun _ kk => r_istore_n 44 dX5_takeNumber_43 rfl (by decide) rfl kk) ?_
    refine Sx.up (fun _ kk => r_aload_n 45 dX5_takeNumber_44 rfl rfl kk) ?_
    refine Sx.up (fun _ kk => r_getR 48 dX5_takeNumber_45 rfl f5_19 rfl (by first | with_reducible assumption | with_reducible exact cr_bs hC | rfl) (by first | with_reducible assumption | with_reducible exact cr_bn hC | exact Nat.le_of_ble_eq_true rfl) (rd_tok y5) kk) ?_
    obtain ⟨_, ⟨E6, rfl, y6⟩, hcl6⟩ := rd_adv (d := d) y5
    refine Sx.up (fun _ kk => r_callV (M := mX5_takeNumber) (pc := 48) 51 dX5_takeNumber_48 rfl k5_131 hcl6 rfl rfl (by first | with_reducible assumption | with_reducible exact cr_bs hC | rfl) (by decide) rfl (by first | with_reducible assumption | with_reducible exact cr_bn hC | exact Nat.le_of_ble_eq_true rfl) (Nat.le_of_ble_eq_true rfl) kk) ?_
    refine Sx.up (fun _ kk => r_iload_n 52 dX5_takeNumber_51 rfl rfl kk) ?_
    refine ⟨_, ?_, r_iret dX5_takeNumber_52 rfl rfl rfl⟩
    refine ⟨_, _, rfl, ?_, fun a B e => ?_⟩
    · unfold tkS
      first | (rw [if_pos (hki.mp h8), if_pos (bnz h28)]; exact y6) | (rw [if_pos (hki.mp h8), if_neg (bz h28), ← adv_flt]; exact y6) | (rw [if_neg (fun z => h8 (hki.mpr z)), ← adv_flt]; exact y6)
    · unfold tkS at e
      first | exact hv (hki.mp h8) | (rw [if_pos (hki.mp h8), if_neg (bz h28)] at e; cases s <;> cases e) | (rw [if_neg (fun z => h8 (hki.mpr z))] at e; cases s <;> cases e)
set_option maxRecDepth 20000 in
theorem rd_value {d : Nat} {E0 E : HP} {T : TX} {b : Nat} {s : PS} (y1 : CRd E0 E T b s) : Cl yX5_valueOfWord mX5_valueOfWord (d + 5) 0 0 [.ref 41] E 137 (.inl (some (.int (vlS T s))), E, 137) := by
  have hb := rd_b y1
  have hbs : sh b = (0, 0) := bo_1 (rd_bed y1)
  have hbn : b < 137 := by omega
  have hb5 : sh (b + 5) = (7, 0) := (rd_bed y1).2.2.2.2.2.2.2.2.2.1.1
  have hb5n : b + 5 < 137 := by omega
  refine Cl.of (by decide) rfl (fun q => by cases q) rfl rfl (Nat.le_of_ble_eq_true rfl) ?_
  show Sm _ _ _ _ _ 0 [some (.ref 41)] [] _ _
  refine r_aload_n 1 dX5_valueOfWord_0 rfl rfl ?_
  refine r_getR 4 dX5_valueOfWord_1 rfl f5_19 rfl (by first | with_reducible assumption | with_reducible exact cr_bs hC | rfl) (by first | with_reducible assumption | with_reducible exact cr_bn hC | exact Nat.le_of_ble_eq_true rfl) (rd_tok y1) ?_
  refine r_ldcS (i := 9) 6 dX5_valueOfWord_4 rfl rfl ?_
  refine r_callV (M := mX5_valueOfWord) (pc := 6) 9 dX5_valueOfWord_6 rfl k5_72 (rd_word (i := 9) (q := ("SpoonRow$Reader", 226, "light", w_light)) y1 rfl) rfl rfl (by first | with_reducible assumption | with_reducible exact cr_bs hC | rfl) (by decide) rfl (by first | with_reducible assumption | with_reducible exact cr_bn hC | exact Nat.le_of_ble_eq_true rfl) (Nat.le_of_ble_eq_true rfl) ?_
  refine r_if_eq 12 14 dX5_valueOfWord_9 rfl (by decide) (fun h9 => ?_) (fun h9 => ?_)
  · refine r_aload_n 15 dX5_valueOfWord_14 rfl rfl ?_
    refine r_getR 18 dX5_valueOfWord_15 rfl f5_19 rfl (by first | with_reducible assumption | with_reducible exact cr_bs hC | rfl) (by first | with_reducible assumption | with_reducible exact cr_bn hC | exact Nat.le_of_ble_eq_true rfl) (rd_tok y1) ?_
    refine r_ldcS (i := 10) 20 dX5_valueOfWord_18 rfl rfl ?_
    refine r_callV (M := mX5_valueOfWord) (pc := 20) 23 dX5_valueOfWord_20 rfl k5_72 (rd_word (i := 10) (q := ("SpoonRow$Reader", 228, "off", w_off)) y1 rfl) rfl rfl (by first | with_reducible assumption | with_reducible exact cr_bs hC | rfl) (by decide) rfl (by first | with_reducible assumption | with_reducible exact cr_bn hC | exact Nat.le_of_ble_eq_true rfl) (Nat.le_of_ble_eq_true rfl) ?_
    refine r_if_eq 26 29 dX5_valueOfWord_23 rfl (by decide) (fun h23 => ?_) (fun h23 => ?_)
    · refine r_aload_n 30 dX5_valueOfWord_29 rfl rfl ?_
      refine r_getR 33 dX5_valueOfWord_30 rfl f5_19 rfl (by first | with_reducible assumption | with_reducible exact cr_bs hC | rfl) (by first | with_reducible assumption | with_reducible exact cr_bn hC | exact Nat.le_of_ble_eq_true rfl) (rd_tok y1) ?_
      refine r_ldcS (i := 11) 35 dX5_valueOfWord_33 rfl rfl ?_
      refine r_callV (M := mX5_valueOfWord) (pc := 35) 38 dX5_valueOfWord_35 rfl k5_72 (rd_word (i := 11) (q := ("SpoonRow$Reader", 230, "turns", w_turns)) y1 rfl) rfl rfl (by first | with_reducible assumption | with_reducible exact cr_bs hC | rfl) (by decide) rfl (by first | with_reducible assumption | with_reducible exact cr_bn hC | exact Nat.le_of_ble_eq_true rfl) (Nat.le_of_ble_eq_true rfl) ?_
      refine r_if_eq 41 44 dX5_valueOfWord_38 rfl (by decide) (fun h38 => ?_) (fun h38 => ?_)
      · refine r_aload_n 45 dX5_valueOfWord_44 rfl rfl ?_
        refine r_getR 48 dX5_valueOfWord_45 rfl f5_19 rfl (by first | with_reducible assumption | with_reducible exact cr_bs hC | rfl) (by first | with_reducible assumption | with_reducible exact cr_bn hC | exact Nat.le_of_ble_eq_true rfl) (rd_tok y1) ?_
        refine r_ldcS (i := 12) 50 dX5_valueOfWord_48 rfl rfl ?_
        refine r_callV (M := mX5_valueOfWord) (pc := 50) 53 dX5_valueOfWord_50 rfl k5_72 (rd_word (i := 12) (q := ("SpoonRow$Reader", 232, "hour", w_hour)) y1 rfl) rfl rfl (by first | with_reducible assumption | with_reducible exact cr_bs hC | rfl) (by decide) rfl (by first | with_reducible assumption | with_reducible exact cr_bn hC | exact Nat.le_of_ble_eq_true rfl) (Nat.le_of_ble_eq_true rfl) ?_
        refine r_if_eq 56 59 dX5_valueOfWord_53 rfl (by decide) (fun h53 => ?_) (fun h53 => ?_)
        · refine r_aload_n 60 dX5_valueOfWord_59 rfl rfl ?_
          refine r_getR 63 dX5_valueOfWord_60 rfl f5_19 rfl (by first | with_reducible assumption | with_reducible exact cr_bs hC | rfl) (by first | with_reducible assumption | with_reducible exact cr_bn hC | exact Nat.le_of_ble_eq_true rfl) (rd_tok y1) ?_
          refine r_ldcS (i := 13) 65 dX5_valueOfWord_63 rfl rfl ?_
          refine r_callV (M := mX5_valueOfWord) (pc := 65) 68 dX5_valueOfWord_65 rfl k5_72 (rd_word (i := 13) (q := ("SpoonRow$Reader", 234, "snore", w_snore)) y1 rfl) rfl rfl (by first | with_reducible assumption | with_reducible exact cr_bs hC | rfl) (by decide) rfl (by first | with_reducible assumption | with_reducible exact cr_bn hC | exact Nat.le_of_ble_eq_true rfl) (Nat.le_of_ble_eq_true rfl) ?_
          refine r_if_eq 71 74 dX5_valueOfWord_68 rfl (by decide) (fun h68 => ?_) (fun h68 => ?_)
          · refine r_aload_n 75 dX5_valueOfWord_74 rfl rfl ?_
            refine r_getR 78 dX5_valueOfWord_75 rfl f5_19 rfl (by first | with_reducible assumption | with_reducible exact cr_bs hC | rfl) (by first | with_reducible assumption | with_reducible exact cr_bn hC | exact Nat.le_of_ble_eq_true rfl) (rd_tok y1) ?_
            refine r_ldcS (i := 14) 80 dX5_valueOfWord_78 rfl rfl ?_
            refine r_callV (M := mX5_valueOfWord) (pc := 80) 83 dX5_valueOfWord_80 rfl k5_72 (rd_word (i := 14) (q := ("SpoonRow$Reader", 236, "edge", w_edge)) y1 rfl) rfl rfl (by first | with_reducible assumption | with_reducible exact cr_bs hC | rfl) (by decide) rfl (by first | with_reducible assumption | with_reducible exact cr_bn hC | exact Nat.le_of_ble_eq_true rfl) (Nat.le_of_ble_eq_true rfl) ?_
            refine r_if_eq 86 89 dX5_valueOfWord_83 rfl (by decide) (fun h83 => ?_) (fun h83 => ?_)
            · refine r_aload_n 90 dX5_valueOfWord_89 rfl rfl ?_
              refine r_getR 93 dX5_valueOfWord_90 rfl f5_19 rfl (by first | with_reducible assumption | with_reducible exact cr_bs hC | rfl) (by first | with_reducible assumption | with_reducible exact cr_bn hC | exact Nat.le_of_ble_eq_true rfl) (rd_tok y1) ?_
              refine r_ldcS (i := 15) 95 dX5_valueOfWord_93 rfl rfl ?_
              refine r_callV (M := mX5_valueOfWord) (pc := 95) 98 dX5_valueOfWord_95 rfl k5_72 (rd_word (i := 15) (q := ("SpoonRow$Reader", 238, "woken", w_woken)) y1 rfl) rfl rfl (by first | with_reducible assumption | with_reducible exact cr_bs hC | rfl) (by decide) rfl (by first | with_reducible assumption | with_reducible exact cr_bn hC | exact Nat.le_of_ble_eq_true rfl) (Nat.le_of_ble_eq_true rfl) ?_
              refine r_if_eq 101 106 dX5_valueOfWord_98 rfl (by decide) (fun h98 => ?_) (fun h98 => ?_)
              · refine r_iconst (0) 107 dX5_valueOfWord_106 rfl (by decide) ?_
                exact r_iret dX5_valueOfWord_107 rfl rfl (out_eq (by unfold vlS; first | rw [if_neg (bz h9), if_neg (bz h23), if_neg (bz h38), if_neg (bz h53), if_neg (bz h68), if_neg (bz h83), if_pos (bnz h98)] | rw [if_neg (bz h9), if_neg (bz h23), if_neg (bz h38), if_neg (bz h53), if_neg (bz h68), if_neg (bz h83), if_neg (bz h98)]))
              · refine r_bipush (-7) 103 dX5_valueOfWord_101 rfl (by decide) ?_
                refine r_goto 107 dX5_valueOfWord_103 (by decide) ?_
                exact r_iret dX5_valueOfWord_107 rfl rfl (out_eq (by unfold vlS; first | rw [if_neg (bz h9), if_neg (bz h23), if_neg (bz h38), if_neg (bz h53), if_neg (bz h68), if_neg (bz h83), if_pos (bnz h98)] | rw [if_neg (bz h9), if_neg (bz h23), if_neg (bz h38), if_neg (bz h53), if_neg (bz h68), if_neg (bz h83), if_neg (bz h98)]))
            · refine r_bipush (-6) 88 dX5_valueOfWord_86 rfl (by decide) ?_
              exact r_iret dX5_valueOfWord_88 rfl rfl (out_eq (by unfold vlS; rw [if_neg (bz h9), if_neg (bz h23), if_neg (bz h38), if_neg (bz h53), if_neg (bz h68), if_pos (bnz h83)]))
          · refine r_bipush (-5) 73 dX5_valueOfWord_71 rfl (by decide) ?_
            exact r_iret dX5_valueOfWord_73 rfl rfl (out_eq (by unfold vlS; rw [if_neg (bz h9), if_neg (bz h23), if_neg (bz h38), if_neg (bz h53), if_pos (bnz h68)]))
        · refine r_bipush (-4) 58 dX5_valueOfWord_56 rfl (by decide) ?_
          exact r_iret dX5_valueOfWord_58 rfl rfl (out_eq (by unfold vlS; rw [if_neg (bz h9), if_neg (bz h23), if_neg (bz h38), if_pos (bnz h53)]))
      · refine r_bipush (-3) 43 dX5_valueOfWord_41 rfl (by decide) ?_
        exact r_iret dX5_valueOfWord_43 rfl rfl (out_eq (by unfold vlS; rw [if_neg (bz h9), if_neg (bz h23), if_pos (bnz h38)]))
    · refine r_bipush (-2) 28 dX5_valueOfWord_26 rfl (by decide) ?_
      exact r_iret dX5_valueOfWord_28 rfl rfl (out_eq (by unfold vlS; rw [if_neg (bz h9), if_pos (bnz h23)]))
  · refine r_iconst (-1) 13 dX5_valueOfWord_12 rfl (by decide) ?_
    exact r_iret dX5_valueOfWord_13 rfl rfl (out_eq (by unfold vlS; rw [if_pos (bnz h9)]))
theorem slk_flt {j k : Nat} (s : PS) : slk j (fltS k s) := by cases s <;> trivial
theorem slk_adv0 {T : TX} {j : Nat} {s : PS} (hs : slk j s) : slk j (advS T s) := by
  cases s with
  | inl x => trivial
  | inr q =>
    have hs : (bR q.2).length + j ≤ q.1 := hs
    have hn := (nxT_le (T := T) (a := q.1)).1
    show (bR q.2).length + j ≤ nxT T q.1
    omega
theorem slk_tk {T : TX} {j lo hi : Nat} {s : PS} (hs : slk j s) : slk j (tkS T lo hi s) := by
  unfold tkS
  split
  · split
    · exact slk_adv0 hs
    · exact slk_flt s
  · exact slk_flt s
set_option maxRecDepth 20000 in
theorem rd_readValue {d : Nat} {E0 E : HP} {T : TX} {b : Nat} {s : PS}  (y1 : CRd E0 E T b s) (hs : slk 1 s) : ∃ o, (∃ E2, o = (.inl none, E2, 137) ∧ CRd E0 E2 T b (valS T s)) ∧ Cl yX5_readValue mX5_readValue (d + 8) 0 0 [.ref 41] E 137 o := by
  have hb := rd_b y1
  have hbs : sh b = (0, 0) := bo_1 (rd_bed y1)
  have hbn : b < 137 := by omega
  have hb5 : sh (b + 5) = (7, 0) := (rd_bed y1).2.2.2.2.2.2.2.2.2.1.1
  have hb5n : b + 5 < 137 := by omega
  refine Cx.of (by decide) rfl (fun q => by cases q) rfl rfl (Nat.le_of_ble_eq_true rfl) ?_
  show Sx _ _ _ _ _ 0 [some (.ref 41), none] [] _ _
  refine Sx.up (fun _ kk => r_aload_n 1 dX5_readValue_0 rfl rfl kk) ?_
  refine Sx.up (fun _ kk => r_callV (M := mX5_readValue) (pc := 1) 4 dX5_readValue_1 rfl k5_223 (rd_value (d := d + 2) y1) rfl rfl (by first | with_reducible assumption | with_reducible exact cr_bs hC | rfl) (by decide) rfl (by first | with_reducible assumption | with_reducible exact cr_bn hC | exact Nat.le_of_ble_eq_true rfl) (Nat.le_of_ble_eq_true rfl) kk) ?_
  refine Sx.up (fun _ kk => r_istore_n 5 dX5_readValue_4 rfl (by decide) rfl kk) ?_
  refine Sx.up (fun _ kk => r_iload_n 6 dX5_readValue_5 rfl rfl kk) ?_
  refine Sx.br (fun _ ka kb => r_if_ne 9 14 dX5_readValue_6 rfl (by decide) ka kb) (by first | exact em1 | exact em2) (fun h6 => ?_) (fun h6 => ?_)
  · refine Sx.up (fun _ kk => r_aload_n 15 dX5_readValue_14 rfl rfl kk) ?_
    refine Sx.up (fun _ kk => r_getR 18 dX5_readValue_15 rfl f5_35 rfl (by first | with_reducible assumption | with_reducible exact cr_bs hC | rfl) (by first | with_reducible assumption | with_reducible exact cr_bn hC | exact Nat.le_of_ble_eq_true rfl) (rd_into y1) kk) ?_
    refine Sx.up (fun _ kk => r_getR 21 dX5_readValue_18 rfl f5_192 rfl (by first | with_reducible assumption | with_reducible exact cr_bs hC | rfl) (by first | with_reducible assumption | with_reducible exact cr_bn hC | exact Nat.le_of_ble_eq_true rfl) (rd_rule y1) kk) ?_
    refine Sx.up (fun _ kk => r_iload_n 22 dX5_readValue_21 rfl rfl kk) ?_
    obtain ⟨_, ⟨E2, rfl, y2⟩, hcl2⟩ := rd_radd (d := d + 6) y1 (by first | exact hs | exact slk_flt s)
    refine Sx.up (fun _ kk => r_callV (M := mX5_readValue) (pc := 22) 25 dX5_readValue_22 rfl k5_198 hcl2 rfl rfl (by first | with_reducible assumption | with_reducible exact cr_bs hC | rfl) (by decide) rfl (by first | with_reducible assumption | with_reducible exact cr_bn hC | exact Nat.le_of_ble_eq_true rfl) (Nat.le_of_ble_eq_true rfl) kk) ?_
    refine Sx.up (fun _ kk => r_aload_n 26 dX5_readValue_25 rfl rfl kk) ?_
    refine Sx.up (fun _ kk => r_getR 29 dX5_readValue_26 rfl f5_19 rfl (by first | with_reducible assumption | with_reducible exact cr_bs hC | rfl) (by first | with_reducible assumption | with_reducible exact cr_bn hC | exact Nat.le_of_ble_eq_true rfl) (rd_tok y2) kk) ?_
    obtain ⟨_, ⟨E3, rfl, y3⟩, hcl3⟩ := rd_adv (d := d + 2) y2
    refine Sx.up (fun _ kk => r_callV (M := mX5_readValue) (pc := 29) 32 dX5_readValue_29 rfl k5_131 hcl3 rfl rfl (by first | with_reducible assumption | with_reducible exact cr_bs hC | rfl) (by decide) rfl (by first | with_reducible assumption | with_reducible exact cr_bn hC | exact Nat.le_of_ble_eq_true rfl) (Nat.le_of_ble_eq_true rfl) kk) ?_
    refine ⟨_, ?_, r_vret dX5_readValue_32 rfl rfl rfl⟩
    refine ⟨_, rfl, ?_⟩
    unfold valS
    first | (rw [if_neg h6]; exact y3) | (rw [if_pos h6]; have yz := y3; rw [ru_flt, adv_flt] at yz; exact yz) | (rw [if_pos h6, ← adv_flt, ← ru_flt (x := vlS T s), adv_flt]; exact y3)
  · refine Sx.up (fun _ kk => r_aload_n 10 dX5_readValue_9 rfl rfl kk) ?_
    refine Sx.up (fun _ kk => r_iconst (3) 11 dX5_readValue_10 rfl (by decide) kk) ?_
    obtain ⟨_, ⟨E4, rfl, y4⟩, hcl4⟩ := rd_refuse (d := d + 6) y1 (k := 3) (k9 := 3) rfl (by decide) (by decide)
    refine Sx.up (fun _ kk => r_callV (M := mX5_readValue) (pc := 11) 14 dX5_readValue_11 rfl k5_128 hcl4 rfl rfl (by first | with_reducible assumption | with_reducible exact cr_bs hC | rfl) (by decide) rfl (by first | with_reducible assumption | with_reducible exact cr_bn hC | exact Nat.le_of_ble_eq_true rfl) (Nat.le_of_ble_eq_true rfl) kk) ?_
    refine Sx.up (fun _ kk => r_aload_n 15 dX5_readValue_14 rfl rfl kk) ?_
    refine Sx.up (fun _ kk => r_getR 18 dX5_readValue_15 rfl f5_35 rfl (by first | with_reducible assumption | with_reducible exact cr_bs hC | rfl) (by first | with_reducible assumption | with_reducible exact cr_bn hC | exact Nat.le_of_ble_eq_true rfl) (rd_into y4) kk) ?_
    refine Sx.up (fun _ kk => r_getR 21 dX5_readValue_18 rfl f5_192 rfl (by first | with_reducible assumption | with_reducible exact cr_bs hC | rfl) (by first | with_reducible assumption | with_reducible exact cr_bn hC | exact Nat.le_of_ble_eq_true rfl) (rd_rule y4) kk) ?_
    refine Sx.up (fun _ kk => r_iload_n 22 dX5_readValue_21 rfl rfl kk) ?_
    obtain ⟨_, ⟨E5, rfl, y5⟩, hcl5⟩ := rd_radd (d := d + 6) y4 (by first | exact hs | exact slk_flt s)
    refine Sx.up (fun _ kk => r_callV (M := mX5_readValue) (pc := 22) 25 dX5_readValue_22 rfl k5_198 hcl5 rfl rfl (by first | with_reducible assumption | with_reducible exact cr_bs hC | rfl) (by decide) rfl (by first | with_reducible assumption | with_reducible exact cr_bn hC | exact Nat.le_of_ble_eq_true rfl) (Nat.le_of_ble_eq_true rfl) kk) ?_
    refine Sx.up (fun _ kk => r_aload_n 26 dX5_readValue_25 rfl rfl kk) ?_
    refine Sx.up (fun _ kk => r_getR 29 dX5_readValue_26 rfl f5_19 rfl (by first | with_reducible assumption | with_reducible exact cr_bs hC | rfl) (by first | with_reducible assumption | with_reducible exact cr_bn hC | exact Nat.le_of_ble_eq_true rfl) (rd_tok y5) kk) ?_
    obtain ⟨_, ⟨E6, rfl, y6⟩, hcl6⟩ := rd_adv (d := d + 2) y5
    refine Sx.up (fun _ kk => r_callV (M := mX5_readValue) (pc := 29) 32 dX5_readValue_29 rfl k5_131 hcl6 rfl rfl (by first | with_reducible assumption | with_reducible exact cr_bs hC | rfl) (by decide) rfl (by first | with_reducible assumption | with_reducible exact cr_bn hC | exact Nat.le_of_ble_eq_true rfl) (Nat.le_of_ble_eq_true rfl) kk) ?_
    refine ⟨_, ?_, r_vret dX5_readValue_32 rfl rfl rfl⟩
    refine ⟨_, rfl, ?_⟩
    unfold valS
    first | (rw [if_neg h6]; exact y6) | (rw [if_pos h6]; have yz := y6; rw [ru_flt, adv_flt] at yz; exact yz) | (rw [if_pos h6, ← adv_flt, ← ru_flt (x := vlS T s), adv_flt]; exact y6)
