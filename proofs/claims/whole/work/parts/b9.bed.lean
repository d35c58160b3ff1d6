/-! A text told to both -/
/-- who is told does not change from s to s2 -/
def Sb (s s2 : PS) : Prop := ∀ a2 B2, s2 = .inr (a2, B2) → ∃ a B, s = .inr (a, B) ∧ B2.1 = B.1 ∧ B2.2.1 = B.2.1
theorem sb_tr {s s2 s3 : PS} (h : Sb s s2) (h2 : Sb s2 s3) : Sb s s3 := fun a3 B3 e => by
  obtain ⟨a2, B2, e2, p1, p2⟩ := h2 a3 B3 e
  obtain ⟨a, B, e1, q1, q2⟩ := h a2 B2 e2
  exact ⟨a, B, e1, p1.trans q1, p2.trans q2⟩
theorem sb_rfl {s : PS} : Sb s s := fun a B e => ⟨a, B, e, rfl, rfl⟩
theorem sb_flt {k : Nat} {s : PS} : Sb s (fltS k s) := fun a2 B2 e => by
  cases s with
  | inl x => exact absurd (show (.inl x : PS) = .inr (a2, B2) from e) (fun z => by cases z)
  | inr q =>
    obtain ⟨a0, B0⟩ := q
    exact absurd (show (.inl (k, a0) : PS) = .inr (a2, B2) from e) (fun z => by cases z)
theorem sb_adv {T : TX} {s : PS} : Sb s (advS T s) := fun a2 B2 e => by
  obtain ⟨a0, e0⟩ := adv_live e
  exact ⟨a0, B2, e0, rfl, rfl⟩
theorem sb_tk {T : TX} {lo hi : Nat} {s : PS} : Sb s (tkS T lo hi s) := fun a2 B2 e => by
  obtain ⟨a0, e0, -⟩ := tk_live e
  exact ⟨a0, B2, e0, rfl, rfl⟩
theorem sb_sgn {T : TX} {c : Int32} {s : PS} : Sb s (sgnS T c s) := by
  unfold sgnS
  split
  · exact sb_adv
  · exact sb_flt
theorem sb_new {T : TX} {s : PS} : Sb s (newS T s) := fun a2 B2 e => by
  obtain ⟨a0, e0, -⟩ := new_inr e
  exact ⟨a0, B2, e0, rfl, rfl⟩
theorem sb_on {T : TX} {l : Int32} {s : PS} : Sb s (onS T l s) := fun a2 B2 e => by
  obtain ⟨a0, B0, e0, -, e1⟩ := on_inr e
  exact ⟨a0, B0, e0, by rw [e1]; rfl, by rw [e1]; rfl⟩
theorem sb_sc {i : Nat} {v : Int32} {s : PS} : Sb s (scS i v s) := fun a2 B2 e => by
  obtain ⟨B0, e0, e1⟩ := sc_inr e
  exact ⟨a2, B0, e0, by rw [e1]; rfl, by rw [e1]; rfl⟩
theorem sb_or {v : Int32} {s : PS} : Sb s (orX v s) := fun a2 B2 e => by
  cases s with
  | inl x => exact absurd (show (.inl x : PS) = .inr (a2, B2) from e) (fun z => by cases z)
  | inr q =>
    obtain ⟨a0, B0⟩ := q
    have h4 : (.inr (a0, setX B0 4 (bX B0 4 ||| v)) : PS) = .inr (a2, B2) := e
    cases h4
    exact ⟨_, B0, rfl, rfl, rfl⟩
theorem sb_bd {T : TX} {s : PS} : Sb s (boD T s) := by
  unfold boD
  split
  · exact sb_flt
  · exact sb_rfl
theorem sb_nf {s : PS} : Sb s (neF s) := fun a2 B2 e => ⟨a2, B2, (nf_live e).2, rfl, rfl⟩
theorem sb_un {T : TX} {s : PS} : Sb s (unS T s) := fun a2 B2 e => ⟨a2, B2, (un_live e).1, rfl, rfl⟩
theorem sb_ag {T : TX} {v : Nat} {s : PS} : Sb s (agS T v s) := fun a2 B2 e => ⟨a2, B2, (ag_live e).1, rfl, rfl⟩
theorem sb_nv {x y : Nat} {s : PS} : Sb s (nvS x y s) := fun a2 B2 e => by
  cases s with
  | inl z => exact absurd (show (.inl z : PS) = .inr (a2, B2) from e) (fun z => by cases z)
  | inr q =>
    obtain ⟨a0, B0⟩ := q
    have h4 := Sum.inr.inj e
    cases h4
    exact ⟨_, B0, rfl, rfl, rfl⟩
theorem sb_ext {k : Nat} {s s2 : PS} (q : Ext k s s2) : Sb s s2 := fun a2 B2 e => by
  rcases q with ⟨y, z⟩ | ⟨a0, B0, a3, X, e1, e2, -⟩
  · rw [z] at e; cases e
  · rw [e2] at e
    have e := Sum.inr.inj e
    cases e
    exact ⟨_, _, e1, rfl, rfl⟩
/-- a dog must not out -/
def DgB (B : BD) : Prop := ∀ q, q < B.1 → B.2.1 1 q = 3 → B.2.1 6 q = 0
def DgS (s : PS) : Prop := ∀ a B, s = .inr (a, B) → DgB B
theorem dg_sb {s s2 : PS} (h : Sb s s2) (hs : DgS s) : DgS s2 := fun a2 B2 e => by
  obtain ⟨a, B, e1, p1, p2⟩ := h a2 B2 e
  have := hs a B e1
  unfold DgB at *
  rw [p1, p2]; exact this
theorem dg_sl {f : Nat → Int32} {s : PS} (hs : DgS s) (hf : f 1 = 3 → f 6 = 0) : DgS (slS f s) := fun a B e => by
  obtain ⟨B0, e0, e1⟩ := sl_inr e
  have h0 := hs a B0 e0
  rw [e1]
  intro q hq
  have hq : q < B0.1 + 1 := hq
  show (if q = B0.1 then f 1 else B0.2.1 1 q) = 3 → (if q = B0.1 then f 6 else B0.2.1 6 q) = 0
  by_cases z : q = B0.1
  · rw [if_pos z, if_pos z]; exact hf
  · rw [if_neg z, if_neg z]; exact h0 q (by omega)
theorem dg_pe {T : TX} {k : Int32} {s : PS} (hk : ¬ k = 3) (h : DgS s) : DgS (peS T k s) := dg_sl (dg_sb (sb_tr sb_new (sb_tr sb_tk (sb_tr sb_tk (sb_tr sb_tk (sb_tr sb_tk (sb_tr sb_tk sb_tk)))))) h) (fun z => absurd z hk)
theorem dg_line {T : TX} {s : PS} (h : DgS s) : DgS (lineS T s) := by
  unfold lineS
  split
  · exact dg_pe (by decide) h
  split
  · exact dg_pe (by decide) h
  split
  · exact dg_pe (by decide) h
  split
  · exact dg_sl (dg_sb (sb_tr sb_new sb_tk) h) (fun _ => rfl)
  split
  · exact dg_sb (sb_tr sb_adv (sb_tr sb_bd (sb_tr sb_tk sb_or))) h
  split
  · exact dg_sb (sb_tr sb_nf (sb_tr sb_adv (sb_tr sb_un (sb_tr sb_tk (sb_tr sb_un (sb_tr sb_ag (sb_tr sb_tk sb_nv))))))) h
  split
  · exact dg_sb (sb_tr sb_on (sb_ext (expr_ext 6 _))) h
  split
  · exact dg_sb (sb_tr sb_on (sb_tr sb_tk (sb_tr sb_sc (sb_tr sb_tk sb_sc)))) h
  split
  · exact dg_sb (sb_tr sb_on (sb_tr sb_tk sb_sc)) h
  split
  · exact dg_sb (sb_tr sb_on (sb_tr sb_tk sb_sc)) h
  · exact dg_sb sb_flt h
theorem dg_loop {T : TX} : ∀ f s, DgS s → DgS (loopS (goC T) (liS T) f s) := by
  intro f
  induction f with
  | zero => intro s h; exact h
  | succ f ih =>
    intro s h
    show DgS (if goC T s = true then loopS (goC T) (liS T) f (liS T s) else s)
    split
    · exact ih _ (dg_sb sb_sgn (dg_line h))
    · exact h
theorem dg_text {T : TX} {a : Nat} {B : BD} (e : textS T = .inr (a, B)) : DgB B := dg_loop T.2 (.inr (toB T 0, bd0)) (fun a B z => by
  have z := Sum.inr.inj z
  cases z
  intro q hq
  exact absurd hq (Nat.not_lt_zero q)) a B e
/-! the plan laid anew -/
theorem outs_at {E : HP} {b : Nat} (hb : b = 3 ∨ b = 22) : ∀ n, n ≤ 7 → ∀ i, gA (plOuts 46 b n E) 50 i = if i < n then gI E 1029 (b + 12 + i) else gA E 50 i := by
  intro n
  induction n with
  | zero => intro _ i; rw [if_neg (by omega)]; rfl
  | succ n ih =>
    intro hn i
    show gA (rPut (plOuts 46 b n E) 49 7 (nI n) (gI (plOuts 46 b n E) 1029 (whoId b (nI n)))) 50 i = _
    rw [rPut_nI (by omega) (by decide), gI_outs, whoId_nI (by omega), gA_sA]
    by_cases z : i = n
    · rw [if_pos ⟨rfl, z⟩, if_pos (by omega), z]
    · rw [if_neg (fun y => z y.2), ih (by omega) i]
      by_cases y : i < n
      · rw [if_pos y, if_pos (by omega)]
      · rw [if_neg y, if_neg (by omega)]
theorem need_cg {E E2 : HP} {b : Nat} {x : Int32} (hb : b = 3 ∨ b = 22) (h : ∀ g k, k < 46 → gI E2 g k = gI E g k) : ∀ k, k ≤ 7 → needV E2 b x k = needV E b x k := by
  intro k
  induction k with
  | zero => intro _; exact h _ _ (by omega)
  | succ k ih =>
    intro hk
    show needV E2 b x k + (if nI k = x then 0 else gI E2 1028 (whoId b (nI k))) = needV E b x k + (if nI k = x then 0 else gI E 1028 (whoId b (nI k)))
    rw [ih (by omega), whoId_nI (by omega), h _ _ (by omega)]
set_option maxHeartbeats 16000000 in
theorem set_at {E : HP} {b l : Nat} (hb : b = 3 ∨ b = 22) (h7 : l ≤ 7) : Fr (fun k => k = 46 ∨ k = 48 ∨ k = 50 ∨ k = 51 ∨ k = 54) E (stSettle 45 b l E) ∧ SR E (stSettle 45 b l E) ∧ (∀ i, i < 7 → gA (stSettle 45 b l E) 48 i = nI i) ∧ (∀ i, i < l → gA (stSettle 45 b l E) 50 i = gI E 1029 (b + 12 + i)) ∧ gI (stSettle 45 b l E) 514 46 = gI E 4 b ∧ gI (stSettle 45 b l E) 515 46 = 0 ∧ gI (stSettle 45 b l E) 516 46 = -1 ∧ gI (stSettle 45 b l E) 517 46 = 0 ∧ gI (stSettle 45 b l E) 518 46 = gI E 9 b ∧ gI (stSettle 45 b l E) 519 46 = freeV E b (-1) l ∧ gI (stSettle 45 b l E) 386 51 = 0 ∧ gI (stSettle 45 b l E) 386 54 = 0 := by
  obtain ⟨e1, h1⟩ : ∃ e1, rUp 47 7 E = e1 := ⟨_, rfl⟩
  obtain ⟨e2, h2⟩ : ∃ e2, plOuts 46 b l e1 = e2 := ⟨_, rfl⟩
  obtain ⟨e3, h3⟩ : ∃ e3, plSet2 46 b l E = e3 := ⟨_, rfl⟩
  have f1 : Fr (fun k => k = 48) E e1 := by rw [← h1]; exact fr_up (P := fun k => k = 48) rfl fr_rfl
  have i2 : ∀ g k, gI e2 g k = gI e1 g k := fun g k => by rw [← h2, gI_outs]
  have f2 : Fr (fun k => k = 50) e1 e2 := by
    rw [← h2]
    exact fr_it (f := fun k E => rPut E 49 7 (nI k) (gI E 1029 (whoId b (nI k)))) (fun i E3 => fr_put (P := fun k => k = 50) (h := 49) rfl fr_rfl) fr_rfl l
  have d3 : e3 = sI (sI (sI (sI (sI e2 514 46 (gI e2 4 b)) 515 46 0) 516 46 (-1)) 517 46 0) 518 46 (gI (sI (sI (sI (sI e2 514 46 (gI e2 4 b)) 515 46 0) 516 46 (-1)) 517 46 0) 9 b) := by
    rw [← h3, ← h2, ← h1]
    unfold plSet2 plSay plSet1
    rw [if_pos rfl] <;> rfl
  have f3 : Fr (fun k => k = 46) e2 e3 := by rw [d3]; exact fr_sI rfl (fr_sI rfl (fr_sI rfl (fr_sI rfl (fr_sI rfl fr_rfl))))
  have lo : ∀ g k, k < 46 → gI e3 g k = gI E g k := fun g k hk => by rw [fr_gI f3 (by omega), i2, fr_gI f1 (by omega)]
  have hf : freeV e3 b (-1) l = freeV E b (-1) l := by
    unfold freeV
    rw [lo 5 b (by omega), need_cg hb lo l h7]
  have hd : stSettle 45 b l E = sI (sI (sI e3 519 46 (freeV E b (-1) l)) 386 51 0) 386 54 0 := by
    unfold stSettle plSettle
    show sI (sI (sI (plSet2 46 b l E) 519 46 (freeV (plSet2 46 b l E) b (-1) l)) 386 51 0) 386 54 0 = _
    rw [h3, hf]
  have ge : ∀ g, gI e2 g b = gI E g b := fun g => by rw [i2, fr_gI f1 (by omega)]
  have hb46 : ∀ g : Nat, ¬ (g = g ∧ b = 46) := fun g z => by omega
  refine ⟨?_, sr_stSettle, fun i hi => ?_, fun i hi => ?_, ?_, ?_, ?_, ?_, ?_, ?_, ?_, ?_⟩
  · rw [hd]
    exact fr_sI (by omega) (fr_sI (by omega) (fr_sI (by omega) (fr_tr (fr_mono f1 (fun k z => by omega)) (fr_tr (fr_mono f2 (fun k z => by omega)) (fr_mono f3 (fun k z => by omega))))))
  · rw [hd]
    show gA e3 48 i = _
    rw [fr_gA f3 (by decide), fr_gA f2 (by decide), ← h1]
    have e := up_at (E := E) (h := 47) (k := 7) (m := i)
    rw [if_pos hi] at e
    exact e
  · rw [hd]
    show gA e3 50 i = _
    rw [fr_gA f3 (by decide), ← h2, outs_at hb l h7 i, if_pos hi, fr_gI f1 (by omega)]
  · rw [hd, gI_sI, if_neg (by decide), gI_sI, if_neg (by decide), gI_sI, if_neg (by decide), d3, gI_sI, if_neg (by decide), gI_sI, if_neg (by decide), gI_sI, if_neg (by decide), gI_sI, if_neg (by decide), gI_sI, if_pos ⟨rfl, rfl⟩, ge]
  · rw [hd, gI_sI, if_neg (by decide), gI_sI, if_neg (by decide), gI_sI, if_neg (by decide), d3, gI_sI, if_neg (by decide), gI_sI, if_neg (by decide), gI_sI, if_neg (by decide), gI_sI, if_pos ⟨rfl, rfl⟩]
  · rw [hd, gI_sI, if_neg (by decide), gI_sI, if_neg (by decide), gI_sI, if_neg (by decide), d3, gI_sI, if_neg (by decide), gI_sI, if_neg (by decide), gI_sI, if_pos ⟨rfl, rfl⟩]
  · rw [hd, gI_sI, if_neg (by decide), gI_sI, if_neg (by decide), gI_sI, if_neg (by decide), d3, gI_sI, if_neg (by decide), gI_sI, if_pos ⟨rfl, rfl⟩]
  · rw [hd, gI_sI, if_neg (by decide), gI_sI, if_neg (by decide), gI_sI, if_neg (by decide), d3, gI_sI, if_pos ⟨rfl, rfl⟩, gI_sI, if_neg (fun z => by omega), gI_sI, if_neg (fun z => by omega), gI_sI, if_neg (fun z => by omega), gI_sI, if_neg (fun z => by omega), ge]
  · rw [hd, gI_sI, if_neg (by decide), gI_sI, if_neg (by decide), gI_sI, if_pos ⟨rfl, rfl⟩]
  · rw [hd, gI_sI, if_neg (by decide), gI_sI, if_pos ⟨rfl, rfl⟩]
  · rw [hd, gI_sI, if_pos ⟨rfl, rfl⟩]
/-- a plan just laid -/
theorem now_0 {E : HP} {b l : Nat} (hb : b = 3 ∨ b = 22) (h7 : l ≤ 7) (hl : gI E 514 46 = nI l) (h19 : gI E 519 46 = freW (gA E 98 1) (gA E 98 2) (slC E b 5) nI l) (ho : ∀ i, i < 7 → gA E 48 i = nI i) (hu : ∀ i, i < l → gA E 50 i = gA E 103 i ∧ okv (gA E 103 i) 600 ∧ (slC E b 1 i = 3 → gA E 103 i = 0)) (h15 : gI E 515 46 = 0) (h16 : gI E 516 46 = -1) (h17 : gI E 517 46 = 0) (h18 : gI E 518 46 = gI E 1565 95) (m9 : ∀ i, i < 7 → gA E 109 i = nI i) (m2 : gI E 1562 95 = 0) (m3 : gI E 1563 95 = -1) (m4 : gI E 1564 95 = 0) (a1 : gI E 386 51 = 0) (a2 : gI E 384 51 = nI 40) (a3 : gI E 1566 95 = 0) (c1 : gI E 386 54 = 0) (c2 : gI E 384 54 = nI 8) (c3 : gI E 1567 95 = 0) (hst : ∀ i, i < 3 → gA E 58 i = gA E 107 i) : NoR E l (slC E b) 0 0 := by
  obtain ⟨mo, mu⟩ := pk_at (E := E)
  have v14 : pkF E 14 = 0 := m2
  have v15 : pkF E 15 = -1 := m3
  have v16 : pkF E 16 = 0 := m4
  refine ⟨hl, h19, pc_mk (fun i hi _ => (ho i hi).trans ((m9 i hi).symm.trans (mo i hi))) (fun i hi => (hu i hi).1.trans (mu i (by omega))) (h15.trans v14.symm) (h16.trans v15.symm) (h17.trans v16.symm) h18, ⟨a1, a2, a3⟩, ⟨c1, c2, c3⟩, ⟨fun i hi => ⟨i, hi, by rw [← mo i (by omega)]; exact m9 i (by omega)⟩, fun i j hi hj z => ?_, fun s hs => ⟨s, hs, by rw [← mo s (by omega)]; exact m9 s (by omega)⟩, Or.inl v14, ⟨0, by decide, v16⟩, Or.inl v15, ⟨fun _ => v15, fun _ => v16⟩, fun s hs => ?_⟩, ⟨by decide, fun _ => pkF E, fun _ _ => rfl, fun i hi => absurd hi (Nat.not_lt_zero i)⟩, ⟨by decide, fun i hi => absurd hi (Nat.not_lt_zero i)⟩, hst⟩
  · rw [← mo i (by omega), ← mo j (by omega), m9 i (by omega), m9 j (by omega)] at z
    exact (nI_eq (by omega) (by omega)).mp z
  · rw [← mu s (by omega)]
    exact (hu s hs).2
