/-! The reader: lines, a text -/
/-- from s to s2 the place goes on, and the rule grows no faster -/
def Mo (s s2 : PS) : Prop := (∃ x, s2 = .inl x) ∨ ∃ a B a2 B2, s = .inr (a, B) ∧ s2 = .inr (a2, B2) ∧ a ≤ a2 ∧ (bR B2).length + a ≤ (bR B).length + a2
theorem mo_tr {s s2 s3 : PS} (h : Mo s s2) (h2 : Mo s2 s3) : Mo s s3 := by
  rcases h2 with z | ⟨a, B, a2, B2, e1, e2, e3, e4⟩
  · exact Or.inl z
  · rcases h with ⟨x, z⟩ | ⟨c, D, c2, D2, f1, f2, f3, f4⟩
    · rw [z] at e1; cases e1
    · rw [f2] at e1
      have e1' := Sum.inr.inj e1
      cases e1'
      exact Or.inr ⟨c, D, a2, B2, f1, e2, by omega, by omega⟩
theorem mo_ext {h : Nat} {s s2 : PS} (q : Ext h s s2) : Mo s s2 := by
  rcases q with z | ⟨a, B, a2, X, e1, e2, e3, e4⟩
  · exact Or.inl z
  · exact Or.inr ⟨a, B, a2, _, e1, e2, by omega, by rw [addR_R, List.length_append]; omega⟩
theorem mo_at {a a2 : Nat} {B B2 : BD} (h : a ≤ a2) (hR : bR B2 = bR B) : Mo (.inr (a, B)) (.inr (a2, B2)) := Or.inr ⟨a, B, a2, B2, rfl, rfl, h, by rw [hR]; omega⟩
theorem mo_inl {s : PS} {x : Nat × Nat} : Mo s (.inl x) := Or.inl ⟨x, rfl⟩
theorem mo_flt {s : PS} {k : Nat} : Mo s (fltS k s) := by cases s <;> exact mo_inl
theorem mo_adv {T : TX} {s : PS} : Mo s (advS T s) := by
  cases s with
  | inl x => exact mo_inl
  | inr q => exact mo_at (nxT_le (T := T) (a := q.1)).1 rfl
theorem mo_sgn {T : TX} {c : Int32} {s : PS} : Mo s (sgnS T c s) := by
  unfold sgnS
  split
  · exact mo_adv
  · exact mo_flt
theorem mo_tk {T : TX} {lo hi : Nat} {s : PS} : Mo s (tkS T lo hi s) := by
  unfold tkS
  split
  · split
    · exact mo_adv
    · exact mo_flt
  · exact mo_flt
theorem mo_new {T : TX} {s : PS} : Mo s (newS T s) := by
  cases s with
  | inl x => exact mo_inl
  | inr q =>
    show Mo _ (if 7 ≤ bC q.2 then .inl (2, q.1) else .inr (nxT T q.1, q.2))
    split
    · exact mo_inl
    · exact mo_adv (T := T) (s := .inr q)
theorem mo_sl {f : Nat → Int32} {s : PS} : Mo s (slS f s) := by
  cases s with
  | inl x => exact mo_inl
  | inr q => exact mo_at (Nat.le_refl _) rfl
theorem mo_sc {i : Nat} {v : Int32} {s : PS} : Mo s (scS i v s) := by
  cases s with
  | inl x => exact mo_inl
  | inr q => exact mo_at (Nat.le_refl _) rfl
theorem mo_on {T : TX} {l : Int32} {s : PS} : Mo s (onS T l s) := by
  cases s with
  | inl x => exact mo_inl
  | inr q =>
    show Mo _ (if bX q.2 5 &&& l = 0 then .inr (nxT T q.1, setX q.2 5 (bX q.2 5 ||| l)) else .inl (5, q.1))
    split
    · exact mo_at (nxT_le (T := T) (a := q.1)).1 rfl
    · exact mo_inl
theorem mo_or {v : Int32} {s : PS} : Mo s (orX v s) := by
  cases s with
  | inl x => exact mo_inl
  | inr q => exact mo_at (Nat.le_refl _) rfl
theorem mo_nf {s : PS} : Mo s (neF s) := by
  cases s with
  | inl x => exact mo_inl
  | inr q =>
    show Mo _ (if 6 ≤ bN q.2 then .inl (2, q.1) else .inr (q.1, q.2))
    split
    · exact mo_inl
    · exact mo_at (Nat.le_refl _) rfl
theorem mo_un {T : TX} {s : PS} : Mo s (unS T s) := by
  cases s with
  | inl x => exact mo_inl
  | inr q =>
    show Mo _ (if inN T q.1 (bC q.2) 9999 = true then .inl (3, q.1) else .inr (q.1, q.2))
    split
    · exact mo_inl
    · exact mo_at (Nat.le_refl _) rfl
theorem mo_ag {T : TX} {v : Nat} {s : PS} : Mo s (agS T v s) := by
  cases s with
  | inl x => exact mo_inl
  | inr q =>
    show Mo _ (if kdT T q.1 = 2 ∧ numT T q.1 < bC q.2 ∧ (numT T q.1 = v ∨ (bE q.2 v >>> (nI (numT T q.1) &&& 31)) &&& 1 = 1) then .inl (4, q.1) else .inr (q.1, q.2))
    split
    · exact mo_inl
    · exact mo_at (Nat.le_refl _) rfl
theorem mo_nv {x y : Nat} {s : PS} : Mo s (nvS x y s) := by
  cases s with
  | inl x => exact mo_inl
  | inr q => exact mo_at (Nat.le_refl _) rfl
theorem mo_bd {T : TX} {s : PS} : Mo s (boD T s) := by
  unfold boD
  split
  · exact mo_flt
  · cases s with
    | inl x => exact mo_inl
    | inr q => exact mo_at (Nat.le_refl _) rfl
theorem mo_line {T : TX} {s : PS} : Mo s (lineS T s) := by
  have h1 : ∀ k, Mo s (peS T k s) := fun k => mo_tr mo_new (mo_tr mo_tk (mo_tr mo_tk (mo_tr mo_tk (mo_tr mo_tk (mo_tr mo_tk (mo_tr mo_tk mo_sl))))))
  unfold lineS
  split
  · exact h1 _
  · split
    · exact h1 _
    · split
      · exact h1 _
      · split
        · exact mo_tr mo_new (mo_tr mo_tk mo_sl)
        · split
          · exact mo_tr mo_adv (mo_tr mo_bd (mo_tr mo_tk mo_or))
          · split
            · exact mo_tr mo_nf (mo_tr mo_adv (mo_tr mo_un (mo_tr mo_tk (mo_tr mo_un (mo_tr mo_ag (mo_tr mo_tk mo_nv))))))
            · split
              · exact mo_tr mo_on (mo_ext (expr_ext 6 _))
              · split
                · exact mo_tr mo_on (mo_tr mo_tk (mo_tr mo_sc (mo_tr mo_tk mo_sc)))
                · split
                  · exact mo_tr mo_on (mo_tr mo_tk mo_sc)
                  · split
                    · exact mo_tr mo_on (mo_tr mo_tk mo_sc)
                    · exact mo_flt
theorem mo_li {T : TX} {s : PS} : Mo s (liS T s) := mo_tr mo_line mo_sgn
theorem slk_mo {j : Nat} {s s2 : PS} (q : Mo s s2) (hs : slk j s) : slk j s2 := by
  rcases q with ⟨x, e⟩ | ⟨a, B, a2, B2, e1, e2, e3, e4⟩
  · rw [e]; trivial
  · rw [e1] at hs
    rw [e2]
    have hs : (bR B).length + j ≤ a := hs
    show (bR B2).length + j ≤ a2
    omega
theorem aft_mo {m : Nat} {s s2 : PS} (q : Mo s s2) (hs : aft m s) : aft m s2 := by
  rcases q with ⟨x, e⟩ | ⟨a, B, a2, B2, e1, e2, e3, e4⟩
  · rw [e]; trivial
  · rw [e1] at hs
    rw [e2]
    have hs : m ≤ a := hs
    show m ≤ a2
    omega
theorem tk_live {T : TX} {lo hi a : Nat} {B : BD} {s : PS} (h : tkS T lo hi s = .inr (a, B)) : ∃ a0, s = .inr (a0, B) ∧ a = nxT T a0 ∧ kdT T a0 = 2 ∧ lo ≤ numT T a0 ∧ numT T a0 ≤ hi := by
  cases s with
  | inl x => cases h
  | inr q =>
    unfold tkS at h
    by_cases h1 : kiS T 2 (.inr q) = true
    · rw [if_pos h1] at h
      by_cases h2 : nwS T lo hi (.inr q) = true
      · rw [if_pos h2] at h
        have h := Sum.inr.inj h
        cases h
        exact ⟨q.1, rfl, rfl, in_num h2⟩
      · rw [if_neg h2] at h; cases h
    · rw [if_neg h1] at h; cases h
theorem new_live {T : TX} {a : Nat} {B : BD} {s : PS} (h : newS T s = .inr (a, B)) : bC B < 7 := by
  cases s with
  | inl x => cases h
  | inr q =>
    have h : (if 7 ≤ bC q.2 then .inl (2, q.1) else .inr (nxT T q.1, q.2)) = (.inr (a, B) : PS) := h
    by_cases h1 : 7 ≤ bC q.2
    · rw [if_pos h1] at h; cases h
    · rw [if_neg h1] at h
      have h := Sum.inr.inj h
      cases h
      omega
theorem sc_eq {i : Nat} {v u : Int32} {t : PS} (h : ∀ a B, t = .inr (a, B) → v = u) : scS i v t = scS i u t := by
  cases t with
  | inl x => rfl
  | inr q => rw [h q.1 q.2 rfl]
theorem rd_scal {E0 E : HP} {T : TX} {b : Nat} {s : PS} {i : Nat} {v : Int32} (y1 : CRd E0 E T b s) (hi : i < 5) : CRd E0 (sI E (5 + i) b v) T b (scS i v s) := by
  have hb := rd_b y1
  have hF := rd_F y1
  have i2 : ∀ g k, ¬ (g = 5 + i ∧ k = b) → gI (sI E (5 + i) b v) g k = gI E g k := fun g k z => by rw [gI_sI, if_neg z]
  refine rd_step y1 (fr_sI (Or.inr (Or.inr (by omega))) fr_rfl) sr_rfl ⟨hF.1, hF.2.1, (i2 _ _ (by omega)).trans hF.2.2.1, hF.2.2.2⟩ ?_
  cases s with
  | inl z =>
    obtain ⟨c1, c2, c3, c4, c5, ⟨q, q1, q2, q3, q4⟩⟩ := id y1.2
    exact ⟨(i2 _ _ (by omega)).trans c1, c2, c3, (i2 _ _ (by omega)).trans c4, c5, q, q1, (i2 _ _ (by omega)).trans q2, (i2 _ _ (by omega)).trans q3, (i2 _ _ (by omega)).trans q4⟩
  | inr z =>
    obtain ⟨c1, c2, c3, c4, o1, o2, o3, o4, o5, o6, o7, o8, o9, o10, o11⟩ := id y1.2
    refine ⟨(i2 _ _ (by omega)).trans c1, (i2 _ _ (by omega)).trans c2, c3, ⟨(i2 _ _ (by omega)).trans c4.1, (i2 _ _ (by omega)).trans c4.2.1, (i2 _ _ (by omega)).trans c4.2.2⟩, (i2 _ _ (by omega)).trans o1, o2, fun s hs k k1 k7 => (i2 _ _ (by omega)).trans (o3 s hs k k1 k7), o4, fun j hj => ?_, ?_, (i2 _ _ (by omega)).trans o7, o8, (i2 _ _ (by omega)).trans o9, o10, o11⟩
    · show _ = (if j = i then v else bX z.2 j)
      by_cases e : j = i
      · rw [if_pos e, gI_sI, if_pos ⟨by omega, rfl⟩]
      · rw [if_neg e, i2 _ _ (by omega)]; exact o5 j hj
    · show _ = (if 5 = i then v else bX z.2 5)
      rw [if_neg (by omega), i2 _ _ (by omega)]; exact o6
theorem rd_once {E0 E : HP} {T : TX} {b : Nat} {s : PS} {v : Int32} (y1 : CRd E0 E T b s) : CRd E0 (sI E 644 41 v) T b (scS 5 v s) := by
  have hb := rd_b y1
  have hF := rd_F y1
  have i2 : ∀ g k, ¬ (g = 644 ∧ k = 41) → gI (sI E 644 41 v) g k = gI E g k := fun g k z => by rw [gI_sI, if_neg z]
  refine rd_step y1 (fr_sI (Or.inl rfl) fr_rfl) sr_rfl ⟨hF.1, hF.2.1, (i2 _ _ (by omega)).trans hF.2.2.1, hF.2.2.2⟩ ?_
  cases s with
  | inl z =>
    obtain ⟨c1, c2, c3, c4, c5, ⟨q, q1, q2, q3, q4⟩⟩ := id y1.2
    exact ⟨(i2 _ _ (by omega)).trans c1, c2, c3, (i2 _ _ (by omega)).trans c4, c5, q, q1, (i2 _ _ (by omega)).trans q2, (i2 _ _ (by omega)).trans q3, (i2 _ _ (by omega)).trans q4⟩
  | inr z =>
    obtain ⟨c1, c2, c3, c4, o1, o2, o3, o4, o5, o6, o7, o8, o9, o10, o11⟩ := id y1.2
    refine ⟨(i2 _ _ (by omega)).trans c1, (i2 _ _ (by omega)).trans c2, c3, ⟨(i2 _ _ (by omega)).trans c4.1, (i2 _ _ (by omega)).trans c4.2.1, (i2 _ _ (by omega)).trans c4.2.2⟩, (i2 _ _ (by omega)).trans o1, o2, fun s hs k k1 k7 => (i2 _ _ (by omega)).trans (o3 s hs k k1 k7), o4, fun j hj => ?_, ?_, (i2 _ _ (by omega)).trans o7, o8, (i2 _ _ (by omega)).trans o9, o10, o11⟩
    · show _ = (if j = 5 then v else bX z.2 j)
      rw [if_neg (by omega), i2 _ _ (by omega)]; exact o5 j hj
    · show _ = (if 5 = 5 then v else bX z.2 5)
      rw [if_pos rfl, gI_sI, if_pos ⟨rfl, rfl⟩]
theorem rd_tell {E0 E E2 : HP} {T : TX} {b w : Nat} {s : PS} {x f : Nat → Int32} (y1 : CRd E0 E T b s) (hw : w = whoId b (gI E 4 b)) (fr : Fr (fun k => k = w ∨ k = b) E E2) (sr : SR E E2) (h4 : gI E2 4 b = gI E 4 b + 1) (h9 : ∀ g, g ≠ 4 → gI E2 g b = gI E g b) (hx : ∀ k, 1 ≤ k → k ≤ 7 → gI E2 (1023 + k) w = x k) (hv : ∀ a B, s = .inr (a, B) → bC B < 7 ∧ ∀ k, 1 ≤ k → k ≤ 7 → x k = f k) : CRd E0 E2 T b (slS f s) := by
  have hb := rd_b y1
  have hF := rd_F y1
  have hr := whoId_r hb (gI E 4 b)
  rw [← hw] at hr
  have i2 : ∀ g k, k ≠ w → k ≠ b → gI E2 g k = gI E g k := fun g k z1 z2 => fr_gI fr (by omega) g
  have a2 : ∀ k, k ≠ w → k ≠ b → gA E2 k = gA E k := fun k z1 z2 => fr_gA fr (by omega)
  refine rd_step y1 (fr_mono fr (fun k z => Or.inr (Or.inr (by omega)))) sr ⟨sr_gR sr hF.1, sr_row sr hF.2.1, (i2 _ _ (by omega) (by omega)).trans hF.2.2.1, fun i hi => by rw [a2 _ (by omega) (by omega)]; exact hF.2.2.2 i hi⟩ ?_
  cases s with
  | inl z =>
    obtain ⟨c1, c2, c3, c4, c5, ⟨q, q1, q2, q3, q4⟩⟩ := id y1.2
    exact ⟨(i2 _ _ (by omega) (by omega)).trans c1, c2, c3, (i2 _ _ (by omega) (by omega)).trans c4, c5, q, q1, (i2 _ _ (by omega) (by omega)).trans q2, (i2 _ _ (by omega) (by omega)).trans q3, (i2 _ _ (by omega) (by omega)).trans q4⟩
  | inr z =>
    obtain ⟨a, B⟩ := z
    obtain ⟨c1, c2, c3, c4, o1, o2, o3, o4, o5, o6, o7, o8, o9, o10, o11⟩ := id y1.2
    obtain ⟨hc7, hxf⟩ := hv a B rfl
    have ew : w = b + 12 + bC B := by rw [hw, o1, whoId_nI hc7]
    refine ⟨(i2 _ _ (by omega) (by omega)).trans c1, (i2 _ _ (by omega) (by omega)).trans c2, c3, ⟨(i2 _ _ (by omega) (by omega)).trans c4.1, (i2 _ _ (by omega) (by omega)).trans c4.2.1, (i2 _ _ (by omega) (by omega)).trans c4.2.2⟩, ?_, ?_, fun s hs k k1 k7 => ?_, fun s hs => by rw [a2 _ (by omega) (by omega)]; exact o4 s hs, fun j hj => (h9 _ (by omega)).trans (o5 j hj), (i2 _ _ (by omega) (by omega)).trans o6, (h9 _ (by omega)).trans o7, o8, (i2 _ _ (by omega) (by omega)).trans o9, o10, fun j hj => by rw [a2 _ (by omega) (by omega)]; exact o11 j hj⟩
    · rw [h4, o1, nI_pp]; rfl
    · show bC B + 1 ≤ 7; omega
    · have hs : s < bC B + 1 := hs
      show _ = (if s = bC B then f k else bL B k s)
      by_cases e : s = bC B
      · rw [if_pos e, e, ← ew, hx k k1 k7]; exact hxf k k1 k7
      · rw [if_neg e, i2 _ _ (by omega) (by omega)]; exact o3 s (by omega) k k1 k7
theorem new_y {E0 E : HP} {T : TX} {b : Nat} {s : PS} (y1 : CRd E0 E T b s) (h : gI E 4 b < 7) : newS T s = advS T s := by
  cases s with
  | inl z => rfl
  | inr z =>
    have o1 : gI E 4 b = nI (bC z.2) := y1.2.2.2.2.2.1
    have o2 : bC z.2 ≤ 7 := y1.2.2.2.2.2.2.1
    rw [o1] at h
    exact if_neg (fun q => absurd h (nI_nlt (b := 7) q (by omega)))
theorem new_n {E0 E : HP} {T : TX} {b : Nat} {s : PS} (y1 : CRd E0 E T b s) (h : ¬ gI E 4 b < 7) : newS T s = advS T (fltS 2 s) := by
  cases s with
  | inl z => rfl
  | inr z =>
    have o1 : gI E 4 b = nI (bC z.2) := y1.2.2.2.2.2.1
    rw [o1] at h
    exact if_pos (Nat.le_of_not_lt (fun q => h (nI_lt (b := 7) q (by omega))))
theorem on_y {E0 E : HP} {T : TX} {b : Nat} {s : PS} {l : Int32} (y1 : CRd E0 E T b s) (h : gI E 644 41 &&& l = 0) : onS T l s = advS T (scS 5 (gI E 644 41 ||| l) s) := by
  cases s with
  | inl z => rfl
  | inr z =>
    have o1 : gI E 644 41 = bX z.2 5 := y1.2.2.2.2.2.2.2.2.2.2.1
    rw [o1] at h ⊢
    exact if_pos h
theorem on_n {E0 E : HP} {T : TX} {b : Nat} {s : PS} {l v : Int32} (y1 : CRd E0 E T b s) (h : ¬ gI E 644 41 &&& l = 0) : onS T l s = advS T (scS 5 v (fltS 5 s)) := by
  cases s with
  | inl z => rfl
  | inr z =>
    have o1 : gI E 644 41 = bX z.2 5 := y1.2.2.2.2.2.2.2.2.2.2.1
    rw [o1] at h
    exact if_neg h
def unC (T : TX) : PS → Bool
  | .inl _ => false
  | .inr (a, B) => inN T a (bC B) 9999
theorem un_if {T : TX} (s : PS) : unS T s = if unC T s = true then fltS 3 s else s := by
  cases s with
  | inl z => rfl
  | inr z => rfl
def tdC (T : TX) : PS → Bool
  | .inl _ => false
  | .inr (a, B) => decide (kdT T a = 2 ∧ numT T a < bC B)
set_option maxRecDepth 20000 in
theorem rd_unw {d : Nat} {x z : Int32} {E0 E : HP} {T : TX} {b : Nat} {s : PS} (y1 : CRd E0 E T b s) (hx : x = gI E 4 b) (hz : z = 9999) : Cl yX10_isNumberWithin mX10_isNumberWithin (d + 2) 0 0 [.ref 42, .int x, .int z] E 137 (.inl (some (.int (bI (unC T s)))), E, 137) := by
  subst hx
  subst hz
  cases s with
  | inl x => exact c_isNumD (rd_T y1) (rd_F y1) y1.2.2.2.2.2.2
  | inr x =>
    have o1 : gI E 4 b = nI (bC x.2) := y1.2.2.2.2.2.1
    have o2 : bC x.2 ≤ 7 := y1.2.2.2.2.2.2.1
    rw [o1]
    exact rd_numw (lo := bC x.2) (hi := 9999) y1 rfl rfl (by omega) (by decide)
set_option maxRecDepth 20000 in
theorem rd_tdw {d : Nat} {x z : Int32} {E0 E : HP} {T : TX} {b : Nat} {s : PS} (y1 : CRd E0 E T b s) (hx : x = 0) (hz : z = gI E 4 b - 1) : Cl yX10_isNumberWithin mX10_isNumberWithin (d + 2) 0 0 [.ref 42, .int x, .int z] E 137 (.inl (some (.int (bI (tdC T s)))), E, 137) := by
  subst hx
  subst hz
  cases s with
  | inl x => exact c_isNumD (rd_T y1) (rd_F y1) y1.2.2.2.2.2.2
  | inr x =>
    have o1 : gI E 4 b = nI (bC x.2) := y1.2.2.2.2.2.1
    have o2 : bC x.2 ≤ 7 := y1.2.2.2.2.2.2.1
    have h9 := c_isNumL (d := d) (lo := 0) (hi := gI E 4 b - 1) (rd_T y1) (rd_F y1) y1.2.2.2.2.1 y1.2.2.2.1
    rw [b01_bI (p := kdT T x.1 = 2 ∧ numT T x.1 < bC x.2) ?_] at h9
    · exact h9
    · rw [o1]
      constructor
      · rintro ⟨e1, e2, e3⟩
        have hl := num_lt e1
        refine ⟨e1, ?_⟩
        cases hc : bC x.2 with
        | zero => rw [hc] at e3; exact absurd (Int32.lt_of_lt_of_le (show nI 0 - 1 < 0 by decide) (Int32.not_lt.mp (nI_pos (n := numT T x.1) (by omega)))) e3
        | succ c => rw [hc, nI_pred] at e3; have := (nlt_le (by omega) (by omega)).mp e3; omega
      · rintro ⟨e1, e2⟩
        have hl := num_lt e1
        refine ⟨e1, nI_pos (by omega), ?_⟩
        cases hc : bC x.2 with
        | zero => omega
        | succ c => rw [nI_pred]; exact (nlt_le (by omega) (by omega)).mpr (by omega)
set_option maxRecDepth 20000 in
theorem rd_new {d : Nat} {E0 E : HP} {T : TX} {b : Nat} {s : PS}  (y1 : CRd E0 E T b s)  : ∃ o, (∃ E2, o = (.inl none, E2, 137) ∧ CRd E0 E2 T b (newS T s)) ∧ Cl yX5_takeNewSleeper mX5_takeNewSleeper (d + 6) 0 0 [.ref 41] E 137 o := by
  have hb := rd_b y1
  have hbs : sh b = (0, 0) := bo_1 (rd_bed y1)
  have hbn : b < 137 := by omega
  have hb5 : sh (b + 5) = (7, 0) := (rd_bed y1).2.2.2.2.2.2.2.2.2.1.1
  have hb5n : b + 5 < 137 := by omega
  refine Cx.of (by decide) rfl (fun q => by cases q) rfl rfl (Nat.le_of_ble_eq_true rfl) ?_
  show Sx _ _ _ _ _ 0 [some (.ref 41)] [] _ _
  refine Sx.up (fun _ kk => r_aload_n 1 dX5_takeNewSleeper_0 rfl rfl kk) ?_
  refine Sx.up (fun _ kk => r_getR 4 dX5_takeNewSleeper_1 rfl f5_35 rfl (by first | with_reducible assumption | with_reducible exact cr_bs hC | rfl) (by first | with_reducible assumption | with_reducible exact cr_bn hC | exact Nat.le_of_ble_eq_true rfl) (rd_into y1) kk) ?_
  refine Sx.up (fun _ kk => r_getI 7 dX5_takeNewSleeper_4 rfl f5_145 rfl (by first | with_reducible assumption | with_reducible exact cr_bs hC | rfl) (by first | with_reducible assumption | with_reducible exact cr_bn hC | exact Nat.le_of_ble_eq_true rfl) kk) ?_
  refine Sx.up (fun _ kk => r_bipush (7) 9 dX5_takeNewSleeper_7 rfl (by decide) kk) ?_
  refine Sx.br (fun _ ka kb => r_icmp_lt 12 17 dX5_takeNewSleeper_9 rfl (by decide) ka kb) (by first | exact em1 | exact em2) (fun h9 => ?_) (fun h9 => ?_)
  · refine Sx.up (fun _ kk => r_aload_n 18 dX5_takeNewSleeper_17 rfl rfl kk) ?_
    refine Sx.up (fun _ kk => r_getR 21 dX5_takeNewSleeper_18 rfl f5_19 rfl (by first | with_reducible assumption | with_reducible exact cr_bs hC | rfl) (by first | with_reducible assumption | with_reducible exact cr_bn hC | exact Nat.le_of_ble_eq_true rfl) (rd_tok y1) kk) ?_
    obtain ⟨_, ⟨E2, rfl, y2⟩, hcl2⟩ := rd_adv (d := d) y1
    refine Sx.up (fun _ kk => r_callV 24 dX5_takeNewSleeper_21 rfl k5_131 hcl2 rfl rfl (by first | with_reducible assumption | with_reducible exact cr_bs hC | rfl) (by decide) rfl (by first | with_reducible assumption | with_reducible exact cr_bn hC | exact Nat.le_of_ble_eq_true rfl) (Nat.le_of_ble_eq_true rfl) kk) ?_
    refine ⟨_, ?_, r_vret dX5_takeNewSleeper_24 rfl rfl rfl⟩
    refine ⟨_, rfl, ?_⟩
    first | (rw [new_y y1 h9]; exact y2) | (rw [new_n y1 h9]; exact y2)
  · refine Sx.up (fun _ kk => r_aload_n 13 dX5_takeNewSleeper_12 rfl rfl kk) ?_
    refine Sx.up (fun _ kk => r_iconst (2) 14 dX5_takeNewSleeper_13 rfl (by decide) kk) ?_
    obtain ⟨_, ⟨E3, rfl, y3⟩, hcl3⟩ := rd_refuse (d := d + 4) y1 (k := 2) (k9 := 2) rfl (by decide) (by decide)
    refine Sx.up (fun _ kk => r_callV 17 dX5_takeNewSleeper_14 rfl k5_128 hcl3 rfl rfl (by first | with_reducible assumption | with_reducible exact cr_bs hC | rfl) (by decide) rfl (by first | with_reducible assumption | with_reducible exact cr_bn hC | exact Nat.le_of_ble_eq_true rfl) (Nat.le_of_ble_eq_true rfl) kk) ?_
    refine Sx.up (fun _ kk => r_aload_n 18 dX5_takeNewSleeper_17 rfl rfl kk) ?_
    refine Sx.up (fun _ kk => r_getR 21 dX5_takeNewSleeper_18 rfl f5_19 rfl (by first | with_reducible assumption | with_reducible exact cr_bs hC | rfl) (by first | with_reducible assumption | with_reducible exact cr_bn hC | exact Nat.le_of_ble_eq_true rfl) (rd_tok y3) kk) ?_
    obtain ⟨_, ⟨E4, rfl, y4⟩, hcl4⟩ := rd_adv (d := d) y3
    refine Sx.up (fun _ kk => r_callV 24 dX5_takeNewSleeper_21 rfl k5_131 hcl4 rfl rfl (by first | with_reducible assumption | with_reducible exact cr_bs hC | rfl) (by decide) rfl (by first | with_reducible assumption | with_reducible exact cr_bn hC | exact Nat.le_of_ble_eq_true rfl) (Nat.le_of_ble_eq_true rfl) kk) ?_
    refine ⟨_, ?_, r_vret dX5_takeNewSleeper_24 rfl rfl rfl⟩
    refine ⟨_, rfl, ?_⟩
    first | (rw [new_y y1 h9]; exact y4) | (rw [new_n y1 h9]; exact y4)
set_option maxRecDepth 20000 in
theorem rd_onceS {d : Nat} {E0 E : HP} {T : TX} {b : Nat} {s : PS} {l : Int32} (y1 : CRd E0 E T b s)  : ∃ o, (∃ E2, o = (.inl none, E2, 137) ∧ CRd E0 E2 T b (onS T l s)) ∧ Cl yX5_takeOnce mX5_takeOnce (d + 6) 0 0 [.ref 41, .int l] E 137 o := by
  have hb := rd_b y1
  have hbs : sh b = (0, 0) := bo_1 (rd_bed y1)
  have hbn : b < 137 := by omega
  have hb5 : sh (b + 5) = (7, 0) := (rd_bed y1).2.2.2.2.2.2.2.2.2.1.1
  have hb5n : b + 5 < 137 := by omega
  refine Cx.of (by decide) rfl (fun q => by cases q) rfl rfl (Nat.le_of_ble_eq_true rfl) ?_
  show Sx _ _ _ _ _ 0 [some (.ref 41), some (.int (l))] [] _ _
  refine Sx.up (fun _ kk => r_aload_n 1 dX5_takeOnce_0 rfl rfl kk) ?_
  refine Sx.up (fun _ kk => r_getI 4 dX5_takeOnce_1 rfl f5_32 rfl (by first | with_reducible assumption | with_reducible exact cr_bs hC | rfl) (by first | with_reducible assumption | with_reducible exact cr_bn hC | exact Nat.le_of_ble_eq_true rfl) kk) ?_
  refine Sx.up (fun _ kk => r_iload_n 5 dX5_takeOnce_4 rfl rfl kk) ?_
  refine Sx.up (fun _ kk => r_iand 6 dX5_takeOnce_5 rfl kk) ?_
  refine Sx.br (fun _ ka kb => r_if_eq 9 14 dX5_takeOnce_6 rfl (by decide) ka kb) (by first | exact em1 | exact em2) (fun h6 => ?_) (fun h6 => ?_)
  · refine Sx.up (fun _ kk => r_aload_n 15 dX5_takeOnce_14 rfl rfl kk) ?_
    refine Sx.up (fun _ kk => r_dup 16 dX5_takeOnce_15 rfl rfl kk) ?_
    refine Sx.up (fun _ kk => r_getI 19 dX5_takeOnce_16 rfl f5_32 rfl (by first | with_reducible assumption | with_reducible exact cr_bs hC | rfl) (by first | with_reducible assumption | with_reducible exact cr_bn hC | exact Nat.le_of_ble_eq_true rfl) kk) ?_
    refine Sx.up (fun _ kk => r_iload_n 20 dX5_takeOnce_19 rfl rfl kk) ?_
    refine Sx.up (fun _ kk => r_ior 21 dX5_takeOnce_20 rfl kk) ?_
    refine Sx.up (fun _ kk => r_putI 24 dX5_takeOnce_21 rfl f5_32 (by first | with_reducible assumption | with_reducible exact cr_bs hC | rfl) (by first | with_reducible assumption | with_reducible exact cr_bn hC | exact Nat.le_of_ble_eq_true rfl) kk) ?_
    have yo := rd_once (v := gI E 644 41 ||| l) y1
    refine Sx.up (fun _ kk => r_aload_n 25 dX5_takeOnce_24 rfl rfl kk) ?_
    refine Sx.up (fun _ kk => r_getR 28 dX5_takeOnce_25 rfl f5_19 rfl (by first | with_reducible assumption | with_reducible exact cr_bs hC | rfl) (by first | with_reducible assumption | with_reducible exact cr_bn hC | exact Nat.le_of_ble_eq_true rfl) (rd_tok yo) kk) ?_
    obtain ⟨_, ⟨E2, rfl, y2⟩, hcl2⟩ := rd_adv (d := d) yo
    refine Sx.up (fun _ kk => r_callV 31 dX5_takeOnce_28 rfl k5_131 hcl2 rfl rfl (by first | with_reducible assumption | with_reducible exact cr_bs hC | rfl) (by decide) rfl (by first | with_reducible assumption | with_reducible exact cr_bn hC | exact Nat.le_of_ble_eq_true rfl) (Nat.le_of_ble_eq_true rfl) kk) ?_
    refine ⟨_, ?_, r_vret dX5_takeOnce_31 rfl rfl rfl⟩
    refine ⟨_, rfl, ?_⟩
    first | (rw [on_y y1 h6]; exact y2) | (rw [on_n (v := gI E2 644 41 ||| l) y1 h6]; exact y2)
  · refine Sx.up (fun _ kk => r_aload_n 10 dX5_takeOnce_9 rfl rfl kk) ?_
    refine Sx.up (fun _ kk => r_iconst (5) 11 dX5_takeOnce_10 rfl (by decide) kk) ?_
    obtain ⟨_, ⟨E3, rfl, y3⟩, hcl3⟩ := rd_refuse (d := d + 4) y1 (k := 5) (k9 := 5) rfl (by decide) (by decide)
    refine Sx.up (fun _ kk => r_callV 14 dX5_takeOnce_11 rfl k5_128 hcl3 rfl rfl (by first | with_reducible assumption | with_reducible exact cr_bs hC | rfl) (by decide) rfl (by first | with_reducible assumption | with_reducible exact cr_bn hC | exact Nat.le_of_ble_eq_true rfl) (Nat.le_of_ble_eq_true rfl) kk) ?_
    refine Sx.up (fun _ kk => r_aload_n 15 dX5_takeOnce_14 rfl rfl kk) ?_
    refine Sx.up (fun _ kk => r_dup 16 dX5_takeOnce_15 rfl rfl kk) ?_
    refine Sx.up (fun _ kk => r_getI 19 dX5_takeOnce_16 rfl f5_32 rfl (by first | with_reducible assumption | with_reducible exact cr_bs hC | rfl) (by first | with_reducible assumption | with_reducible exact cr_bn hC | exact Nat.le_of_ble_eq_true rfl) kk) ?_
    refine Sx.up (fun _ kk => r_iload_n 20 dX5_takeOnce_19 rfl rfl kk) ?_
    refine Sx.up (fun _ kk => r_ior 21 dX5_takeOnce_20 rfl kk) ?_
    refine Sx.up (fun _ kk => r_putI 24 dX5_takeOnce_21 rfl f5_32 (by first | with_reducible assumption | with_reducible exact cr_bs hC | rfl) (by first | with_reducible assumption | with_reducible exact cr_bn hC | exact Nat.le_of_ble_eq_true rfl) kk) ?_
    have yo := rd_once (v := gI E3 644 41 ||| l) y3
    refine Sx.up (fun _ kk => r_aload_n 25 dX5_takeOnce_24 rfl rfl kk) ?_
    refine Sx.up (fun _ kk => r_getR 28 dX5_takeOnce_25 rfl f5_19 rfl (by first | with_reducible assumption | with_reducible exact cr_bs hC | rfl) (by first | with_reducible assumption | with_reducible exact cr_bn hC | exact Nat.le_of_ble_eq_true rfl) (rd_tok yo) kk) ?_
    obtain ⟨_, ⟨E4, rfl, y4⟩, hcl4⟩ := rd_adv (d := d) yo
    refine Sx.up (fun _ kk => r_callV 31 dX5_takeOnce_28 rfl k5_131 hcl4 rfl rfl (by first | with_reducible assumption | with_reducible exact cr_bs hC | rfl) (by decide) rfl (by first | with_reducible assumption | with_reducible exact cr_bn hC | exact Nat.le_of_ble_eq_true rfl) (Nat.le_of_ble_eq_true rfl) kk) ?_
    refine ⟨_, ?_, r_vret dX5_takeOnce_31 rfl rfl rfl⟩
    refine ⟨_, rfl, ?_⟩
    first | (rw [on_y y1 h6]; exact y4) | (rw [on_n (v := gI E2 644 41 ||| l) y1 h6]; exact y4)
set_option maxRecDepth 20000 in
theorem rd_un {d : Nat} {E0 E : HP} {T : TX} {b : Nat} {s : PS}  (y1 : CRd E0 E T b s)  : ∃ o, (∃ E2, o = (.inl none, E2, 137) ∧ CRd E0 E2 T b (unS T s)) ∧ Cl yX5_refuseUntold mX5_refuseUntold (d + 6) 0 0 [.ref 41] E 137 o := by
  have hb := rd_b y1
  have hbs : sh b = (0, 0) := bo_1 (rd_bed y1)
  have hbn : b < 137 := by omega
  have hb5 : sh (b + 5) = (7, 0) := (rd_bed y1).2.2.2.2.2.2.2.2.2.1.1
  have hb5n : b + 5 < 137 := by omega
  refine Cx.of (by decide) rfl (fun q => by cases q) rfl rfl (Nat.le_of_ble_eq_true rfl) ?_
  show Sx _ _ _ _ _ 0 [some (.ref 41)] [] _ _
  refine Sx.up (fun _ kk => r_aload_n 1 dX5_refuseUntold_0 rfl rfl kk) ?_
  refine Sx.up (fun _ kk => r_getR 4 dX5_refuseUntold_1 rfl f5_19 rfl (by first | with_reducible assumption | with_reducible exact cr_bs hC | rfl) (by first | with_reducible assumption | with_reducible exact cr_bn hC | exact Nat.le_of_ble_eq_true rfl) (rd_tok y1) kk) ?_
  refine Sx.up (fun _ kk => r_aload_n 5 dX5_refuseUntold_4 rfl rfl kk) ?_
  refine Sx.up (fun _ kk => r_getR 8 dX5_refuseUntold_5 rfl f5_35 rfl (by first | with_reducible assumption | with_reducible exact cr_bs hC | rfl) (by first | with_reducible assumption | with_reducible exact cr_bn hC | exact Nat.le_of_ble_eq_true rfl) (rd_into y1) kk) ?_
  refine Sx.up (fun _ kk => r_getI 11 dX5_refuseUntold_8 rfl f5_145 rfl (by first | with_reducible assumption | with_reducible exact cr_bs hC | rfl) (by first | with_reducible assumption | with_reducible exact cr_bn hC | exact Nat.le_of_ble_eq_true rfl) kk) ?_
  refine Sx.up (fun _ kk => r_sipush (9999) 14 dX5_refuseUntold_11 rfl (by decide) kk) ?_
  refine Sx.up (fun _ kk => r_callV 17 dX5_refuseUntold_14 rfl k5_134 (rd_unw (d := d + 3) y1 rfl rfl) rfl rfl (by first | with_reducible assumption | with_reducible exact cr_bs hC | rfl) (by decide) rfl (by first | with_reducible assumption | with_reducible exact cr_bn hC | exact Nat.le_of_ble_eq_true rfl) (Nat.le_of_ble_eq_true rfl) kk) ?_
  refine Sx.br (fun _ ka kb => r_if_eq 20 25 dX5_refuseUntold_17 rfl (by decide) ka kb) (by first | exact em1 | exact em2) (fun h17 => ?_) (fun h17 => ?_)
  · refine ⟨_, ?_, r_vret dX5_refuseUntold_25 rfl rfl rfl⟩
    refine ⟨_, rfl, ?_⟩
    rw [un_if]
    first | (rw [if_pos (bnz h17)]; exact y1) | (rw [if_neg (bz h17)]; exact y1)
  · refine Sx.up (fun _ kk => r_aload_n 21 dX5_refuseUntold_20 rfl rfl kk) ?_
    refine Sx.up (fun _ kk => r_iconst (3) 22 dX5_refuseUntold_21 rfl (by decide) kk) ?_
    obtain ⟨_, ⟨E2, rfl, y2⟩, hcl2⟩ := rd_refuse (d := d + 4) y1 (k := 3) (k9 := 3) rfl (by decide) (by decide)
    refine Sx.up (fun _ kk => r_callV 25 dX5_refuseUntold_22 rfl k5_128 hcl2 rfl rfl (by first | with_reducible assumption | with_reducible exact cr_bs hC | rfl) (by decide) rfl (by first | with_reducible assumption | with_reducible exact cr_bn hC | exact Nat.le_of_ble_eq_true rfl) (Nat.le_of_ble_eq_true rfl) kk) ?_
    refine ⟨_, ?_, r_vret dX5_refuseUntold_25 rfl rfl rfl⟩
    refine ⟨_, rfl, ?_⟩
    rw [un_if]
    first | (rw [if_pos (bnz h17)]; exact y2) | (rw [if_neg (bz h17)]; exact y2)
set_option maxRecDepth 20000 in
theorem rd_dog {d : Nat} {E0 E : HP} {T : TX} {b : Nat} {s : PS}  (y1 : CRd E0 E T b s)  : ∃ o, (∃ E2, o = (.inl none, E2, 137) ∧ CRd E0 E2 T b (dgS T s)) ∧ Cl yX5_readDog mX5_readDog (d + 7) 0 0 [.ref 41] E 137 o := by
  have hb := rd_b y1
  have hbs : sh b = (0, 0) := bo_1 (rd_bed y1)
  have hbn : b < 137 := by omega
  have hb5 : sh (b + 5) = (7, 0) := (rd_bed y1).2.2.2.2.2.2.2.2.2.1.1
  have hb5n : b + 5 < 137 := by omega
  refine Cx.of (by decide) rfl (fun q => by cases q) rfl rfl (Nat.le_of_ble_eq_true rfl) ?_
  show Sx _ _ _ _ _ 0 [some (.ref 41), none] [] _ _
  refine Sx.up (fun _ kk => r_aload_n 1 dX5_readDog_0 rfl rfl kk) ?_
  obtain ⟨_, ⟨E2, rfl, y2⟩, hcl2⟩ := rd_new (d := d) y1
  refine Sx.up (fun _ kk => r_callV 4 dX5_readDog_1 rfl k5_148 hcl2 rfl rfl (by first | with_reducible assumption | with_reducible exact cr_bs hC | rfl) (by decide) rfl (by first | with_reducible assumption | with_reducible exact cr_bn hC | exact Nat.le_of_ble_eq_true rfl) (Nat.le_of_ble_eq_true rfl) kk) ?_
  refine Sx.up (fun _ kk => r_aload_n 5 dX5_readDog_4 rfl rfl kk) ?_
  refine Sx.up (fun _ kk => r_iconst (1) 6 dX5_readDog_5 rfl (by decide) kk) ?_
  refine Sx.up (fun _ kk => r_bipush (9) 8 dX5_readDog_6 rfl (by decide) kk) ?_
  obtain ⟨_, ⟨E3, v3, rfl, y3, hv3⟩, hcl3⟩ := rd_take (d := d) (lo := 1) (hi := 9) y2 rfl rfl (by decide) (by decide)
  refine Sx.up (fun _ kk => r_callV 11 dX5_readDog_8 rfl k5_109 hcl3 rfl rfl (by first | with_reducible assumption | with_reducible exact cr_bs hC | rfl) (by decide) rfl (by first | with_reducible assumption | with_reducible exact cr_bn hC | exact Nat.le_of_ble_eq_true rfl) (Nat.le_of_ble_eq_true rfl) kk) ?_
  refine Sx.up (fun _ kk => r_istore_n 12 dX5_readDog_11 rfl (by decide) rfl kk) ?_
  refine Sx.up (fun _ kk => r_aload_n 13 dX5_readDog_12 rfl rfl kk) ?_
  refine Sx.up (fun _ kk => r_getR 16 dX5_readDog_13 rfl f5_35 rfl (by first | with_reducible assumption | with_reducible exact cr_bs hC | rfl) (by first | with_reducible assumption | with_reducible exact cr_bn hC | exact Nat.le_of_ble_eq_true rfl) (rd_into y3) kk) ?_
  refine Sx.up (fun _ kk => r_aload_n 17 dX5_readDog_16 rfl rfl kk) ?_
  refine Sx.up (fun _ kk => r_getR 20 dX5_readDog_17 rfl f5_35 rfl (by first | with_reducible assumption | with_reducible exact cr_bs hC | rfl) (by first | with_reducible assumption | with_reducible exact cr_bn hC | exact Nat.le_of_ble_eq_true rfl) (rd_into y3) kk) ?_
  refine Sx.up (fun _ kk => r_getI 23 dX5_readDog_20 rfl f5_145 rfl (by first | with_reducible assumption | with_reducible exact cr_bs hC | rfl) (by first | with_reducible assumption | with_reducible exact cr_bn hC | exact Nat.le_of_ble_eq_true rfl) kk) ?_
  obtain ⟨w8, w137⟩ := who_sh (rd_bed y3) (gI E3 4 b)
  obtain ⟨w, hw⟩ : ∃ w, whoId b (gI E3 4 b) = w := ⟨_, rfl⟩
  rw [hw] at w8 w137
  have hwc := c_X0_who (d := d + 6) (s := gI E3 4 b) (rd_bed y3)
  rw [hw] at hwc
  refine Sx.up (fun _ kk => r_callV 26 dX5_readDog_23 rfl k5_151 hwc rfl rfl (by first | with_reducible assumption | with_reducible exact cr_bs hC | rfl) (by decide) rfl (by first | with_reducible assumption | with_reducible exact cr_bn hC | exact Nat.le_of_ble_eq_true rfl) (Nat.le_of_ble_eq_true rfl) kk) ?_
  refine Sx.up (fun _ kk => r_iconst (3) 27 dX5_readDog_26 rfl (by decide) kk) ?_
  refine Sx.up (fun _ kk => r_iload_n 28 dX5_readDog_27 rfl rfl kk) ?_
  refine Sx.up (fun _ kk => r_callV 31 dX5_readDog_28 rfl k5_155 (c_X8_tell (d := d + 5) w8 w137) rfl rfl (by first | with_reducible assumption | with_reducible exact cr_bs hC | rfl) (by decide) rfl (by first | with_reducible assumption | with_reducible exact cr_bn hC | exact Nat.le_of_ble_eq_true rfl) (Nat.le_of_ble_eq_true rfl) kk) ?_
  refine Sx.up (fun _ kk => r_aload_n 32 dX5_readDog_31 rfl rfl kk) ?_
  refine Sx.up (fun _ kk => r_getR 35 dX5_readDog_32 rfl f5_35 rfl (by first | with_reducible assumption | with_reducible exact cr_bs hC | rfl) (by first | with_reducible assumption | with_reducible exact cr_bn hC | exact Nat.le_of_ble_eq_true rfl) (rd_into y3) kk) ?_
  refine Sx.up (fun _ kk => r_dup 36 dX5_readDog_35 rfl rfl kk) ?_
  refine Sx.up (fun _ kk => r_getI 39 dX5_readDog_36 rfl f5_145 rfl (by first | with_reducible assumption | with_reducible exact cr_bs hC | rfl) (by first | with_reducible assumption | with_reducible exact cr_bn hC | exact Nat.le_of_ble_eq_true rfl) kk) ?_
  refine Sx.up (fun _ kk => r_iconst (1) 40 dX5_readDog_39 rfl (by decide) kk) ?_
  refine Sx.up (fun _ kk => r_iadd 41 dX5_readDog_40 rfl kk) ?_
  refine Sx.up (fun _ kk => r_putI 44 dX5_readDog_41 rfl f5_145 (by first | with_reducible assumption | with_reducible exact cr_bs hC | rfl) (by first | with_reducible assumption | with_reducible exact cr_bn hC | exact Nat.le_of_ble_eq_true rfl) kk) ?_
  refine ⟨_, ?_, r_vret dX5_readDog_44 rfl rfl rfl⟩
  refine ⟨_, rfl, ?_⟩
  have hr := whoId_r hb (gI E3 4 b)
  rw [hw] at hr
  refine rd_tell (w := w) (x := kd7 3 0 0 0 v3 0 0) y3 hw.symm ?_ sr_rfl ?_ (fun g hg => ?_) (fun k k1 k7 => ?_) (fun a B hs => ?_)
  · exact fr_sI (Or.inr rfl) (fr_sI (Or.inl rfl) (fr_sI (Or.inl rfl) (fr_sI (Or.inl rfl) (fr_sI (Or.inl rfl) (fr_sI (Or.inl rfl) (fr_sI (Or.inl rfl) (fr_sI (Or.inl rfl) fr_rfl)))))))
  · simp [gI_sI]
  · simp [gI_sI, hg, show ¬ b = w by omega]
  · match k, k1, k7 with
    | 1, _, _ => simp [gI_sI, kd7]
    | 2, _, _ => simp [gI_sI, kd7]
    | 3, _, _ => simp [gI_sI, kd7]
    | 4, _, _ => simp [gI_sI, kd7]
    | 5, _, _ => simp [gI_sI, kd7]
    | 6, _, _ => simp [gI_sI, kd7]
    | 7, _, _ => simp [gI_sI, kd7]
  · obtain ⟨a0, e0, -⟩ := tk_live hs
    exact ⟨new_live e0, fun k _ _ => by rw [hv3 a B hs]⟩
set_option maxRecDepth 20000 in
theorem rd_pers {d : Nat} {E0 E : HP} {T : TX} {b : Nat} {s : PS} {kd : Int32} (y1 : CRd E0 E T b s)  : ∃ o, (∃ E2, o = (.inl none, E2, 137) ∧ CRd E0 E2 T b (peS T kd s)) ∧ Cl yX5_readPerson mX5_readPerson (d + 7) 0 0 [.ref 41, .int kd] E 137 o := by
  have hb := rd_b y1
  have hbs : sh b = (0, 0) := bo_1 (rd_bed y1)
  have hbn : b < 137 := by omega
  have hb5 : sh (b + 5) = (7, 0) := (rd_bed y1).2.2.2.2.2.2.2.2.2.1.1
  have hb5n : b + 5 < 137 := by omega
  refine Cx.of (by decide) rfl (fun q => by cases q) rfl rfl (Nat.le_of_ble_eq_true rfl) ?_
  show Sx _ _ _ _ _ 0 [some (.ref 41), some (.int (kd)), none, none, none, none, none, none, none] [] _ _
  refine Sx.up (fun _ kk => r_aload_n 1 dX5_readPerson_0 rfl rfl kk) ?_
  obtain ⟨_, ⟨E2, rfl, y2⟩, hcl2⟩ := rd_new (d := d) y1
  refine Sx.up (fun _ kk => r_callV 4 dX5_readPerson_1 rfl k5_148 hcl2 rfl rfl (by first | with_reducible assumption | with_reducible exact cr_bs hC | rfl) (by decide) rfl (by first | with_reducible assumption | with_reducible exact cr_bn hC | exact Nat.le_of_ble_eq_true rfl) (Nat.le_of_ble_eq_true rfl) kk) ?_
  refine Sx.up (fun _ kk => r_aload_n 5 dX5_readPerson_4 rfl rfl kk) ?_
  refine Sx.up (fun _ kk => r_iconst (1) 6 dX5_readPerson_5 rfl (by decide) kk) ?_
  refine Sx.up (fun _ kk => r_sipush (240) 9 dX5_readPerson_6 rfl (by decide) kk) ?_
  obtain ⟨_, ⟨E3, v3, rfl, y3, hv3⟩, hcl3⟩ := rd_take (d := d) (lo := 1) (hi := 240) y2 rfl rfl (by decide) (by decide)
  refine Sx.up (fun _ kk => r_callV 12 dX5_readPerson_9 rfl k5_109 hcl3 rfl rfl (by first | with_reducible assumption | with_reducible exact cr_bs hC | rfl) (by decide) rfl (by first | with_reducible assumption | with_reducible exact cr_bn hC | exact Nat.le_of_ble_eq_true rfl) (Nat.le_of_ble_eq_true rfl) kk) ?_
  refine Sx.up (fun _ kk => r_istore_n 13 dX5_readPerson_12 rfl (by decide) rfl kk) ?_
  refine Sx.up (fun _ kk => r_aload_n 14 dX5_readPerson_13 rfl rfl kk) ?_
  refine Sx.up (fun _ kk => r_iconst (1) 15 dX5_readPerson_14 rfl (by decide) kk) ?_
  refine Sx.up (fun _ kk => r_sipush (240) 18 dX5_readPerson_15 rfl (by decide) kk) ?_
  obtain ⟨_, ⟨E4, v4, rfl, y4, hv4⟩, hcl4⟩ := rd_take (d := d) (lo := 1) (hi := 240) y3 rfl rfl (by decide) (by decide)
  refine Sx.up (fun _ kk => r_callV 21 dX5_readPerson_18 rfl k5_109 hcl4 rfl rfl (by first | with_reducible assumption | with_reducible exact cr_bs hC | rfl) (by decide) rfl (by first | with_reducible assumption | with_reducible exact cr_bn hC | exact Nat.le_of_ble_eq_true rfl) (Nat.le_of_ble_eq_true rfl) kk) ?_
  refine Sx.up (fun _ kk => r_istore_n 22 dX5_readPerson_21 rfl (by decide) rfl kk) ?_
  refine Sx.up (fun _ kk => r_aload_n 23 dX5_readPerson_22 rfl rfl kk) ?_
  refine Sx.up (fun _ kk => r_iconst (0) 24 dX5_readPerson_23 rfl (by decide) kk) ?_
  refine Sx.up (fun _ kk => r_bipush (9) 26 dX5_readPerson_24 rfl (by decide) kk) ?_
  obtain ⟨_, ⟨E5, v5, rfl, y5, hv5⟩, hcl5⟩ := rd_take (d := d) (lo := 0) (hi := 9) y4 rfl rfl (by decide) (by decide)
  refine Sx.up (fun _ kk => r_callV 29 dX5_readPerson_26 rfl k5_109 hcl5 rfl rfl (by first | with_reducible assumption | with_reducible exact cr_bs hC | rfl) (by decide) rfl (by first | with_reducible assumption | with_reducible exact cr_bn hC | exact Nat.le_of_ble_eq_true rfl) (Nat.le_of_ble_eq_true rfl) kk) ?_
  refine Sx.up (fun _ kk => r_istore 31 dX5_readPerson_29 rfl (by decide) rfl kk) ?_
  refine Sx.up (fun _ kk => r_aload_n 32 dX5_readPerson_31 rfl rfl kk) ?_
  refine Sx.up (fun _ kk => r_iconst (1) 33 dX5_readPerson_32 rfl (by decide) kk) ?_
  refine Sx.up (fun _ kk => r_bipush (9) 35 dX5_readPerson_33 rfl (by decide) kk) ?_
  obtain ⟨_, ⟨E6, v6, rfl, y6, hv6⟩, hcl6⟩ := rd_take (d := d) (lo := 1) (hi := 9) y5 rfl rfl (by decide) (by decide)
  refine Sx.up (fun _ kk => r_callV 38 dX5_readPerson_35 rfl k5_109 hcl6 rfl rfl (by first | with_reducible assumption | with_reducible exact cr_bs hC | rfl) (by decide) rfl (by first | with_reducible assumption | with_reducible exact cr_bn hC | exact Nat.le_of_ble_eq_true rfl) (Nat.le_of_ble_eq_true rfl) kk) ?_
  refine Sx.up (fun _ kk => r_istore 40 dX5_readPerson_38 rfl (by decide) rfl kk) ?_
  refine Sx.up (fun _ kk => r_aload_n 41 dX5_readPerson_40 rfl rfl kk) ?_
  refine Sx.up (fun _ kk => r_iconst (0) 42 dX5_readPerson_41 rfl (by decide) kk) ?_
  refine Sx.up (fun _ kk => r_sipush (600) 45 dX5_readPerson_42 rfl (by decide) kk) ?_
  obtain ⟨_, ⟨E7, v7, rfl, y7, hv7⟩, hcl7⟩ := rd_take (d := d) (lo := 0) (hi := 600) y6 rfl rfl (by decide) (by decide)
  refine Sx.up (fun _ kk => r_callV 48 dX5_readPerson_45 rfl k5_109 hcl7 rfl rfl (by first | with_reducible assumption | with_reducible exact cr_bs hC | rfl) (by decide) rfl (by first | with_reducible assumption | with_reducible exact cr_bn hC | exact Nat.le_of_ble_eq_true rfl) (Nat.le_of_ble_eq_true rfl) kk) ?_
  refine Sx.up (fun _ kk => r_istore 50 dX5_readPerson_48 rfl (by decide) rfl kk) ?_
  refine Sx.up (fun _ kk => r_aload_n 51 dX5_readPerson_50 rfl rfl kk) ?_
  refine Sx.up (fun _ kk => r_iconst (0) 52 dX5_readPerson_51 rfl (by decide) kk) ?_
  refine Sx.up (fun _ kk => r_bipush (10) 54 dX5_readPerson_52 rfl (by decide) kk) ?_
  obtain ⟨_, ⟨E8, v8, rfl, y8, hv8⟩, hcl8⟩ := rd_take (d := d) (lo := 0) (hi := 10) y7 rfl rfl (by decide) (by decide)
  refine Sx.up (fun _ kk => r_callV 57 dX5_readPerson_54 rfl k5_109 hcl8 rfl rfl (by first | with_reducible assumption | with_reducible exact cr_bs hC | rfl) (by decide) rfl (by first | with_reducible assumption | with_reducible exact cr_bn hC | exact Nat.le_of_ble_eq_true rfl) (Nat.le_of_ble_eq_true rfl) kk) ?_
  refine Sx.up (fun _ kk => r_istore 59 dX5_readPerson_57 rfl (by decide) rfl kk) ?_
  refine Sx.up (fun _ kk => r_aload_n 60 dX5_readPerson_59 rfl rfl kk) ?_
  refine Sx.up (fun _ kk => r_getR 63 dX5_readPerson_60 rfl f5_35 rfl (by first | with_reducible assumption | with_reducible exact cr_bs hC | rfl) (by first | with_reducible assumption | with_reducible exact cr_bn hC | exact Nat.le_of_ble_eq_true rfl) (rd_into y8) kk) ?_
  refine Sx.up (fun _ kk => r_aload_n 64 dX5_readPerson_63 rfl rfl kk) ?_
  refine Sx.up (fun _ kk => r_getR 67 dX5_readPerson_64 rfl f5_35 rfl (by first | with_reducible assumption | with_reducible exact cr_bs hC | rfl) (by first | with_reducible assumption | with_reducible exact cr_bn hC | exact Nat.le_of_ble_eq_true rfl) (rd_into y8) kk) ?_
  refine Sx.up (fun _ kk => r_getI 70 dX5_readPerson_67 rfl f5_145 rfl (by first | with_reducible assumption | with_reducible exact cr_bs hC | rfl) (by first | with_reducible assumption | with_reducible exact cr_bn hC | exact Nat.le_of_ble_eq_true rfl) kk) ?_
  obtain ⟨w8, w137⟩ := who_sh (rd_bed y8) (gI E8 4 b)
  obtain ⟨w, hw⟩ : ∃ w, whoId b (gI E8 4 b) = w := ⟨_, rfl⟩
  rw [hw] at w8 w137
  have hwc := c_X0_who (d := d + 6) (s := gI E8 4 b) (rd_bed y8)
  rw [hw] at hwc
  refine Sx.up (fun _ kk => r_callV 73 dX5_readPerson_70 rfl k5_151 hwc rfl rfl (by first | with_reducible assumption | with_reducible exact cr_bs hC | rfl) (by decide) rfl (by first | with_reducible assumption | with_reducible exact cr_bn hC | exact Nat.le_of_ble_eq_true rfl) (Nat.le_of_ble_eq_true rfl) kk) ?_
  refine Sx.up (fun _ kk => r_astore 75 dX5_readPerson_73 rfl (by decide) rfl kk) ?_
  refine Sx.up (fun _ kk => r_aload 77 dX5_readPerson_75 rfl rfl kk) ?_
  refine Sx.up (fun _ kk => r_iload_n 78 dX5_readPerson_77 rfl rfl kk) ?_
  refine Sx.up (fun _ kk => r_iload 80 dX5_readPerson_78 rfl rfl kk) ?_
  refine Sx.up (fun _ kk => r_callV 83 dX5_readPerson_80 rfl k5_155 (c_X8_tell (d := d + 5) w8 w137) rfl rfl (by first | with_reducible assumption | with_reducible exact cr_bs hC | rfl) (by decide) rfl (by first | with_reducible assumption | with_reducible exact cr_bn hC | exact Nat.le_of_ble_eq_true rfl) (Nat.le_of_ble_eq_true rfl) kk) ?_
  refine Sx.up (fun _ kk => r_aload 85 dX5_readPerson_83 rfl rfl kk) ?_
  refine Sx.up (fun _ kk => r_iload_n 86 dX5_readPerson_85 rfl rfl kk) ?_
  refine Sx.up (fun _ kk => r_iload_n 87 dX5_readPerson_86 rfl rfl kk) ?_
  refine Sx.up (fun _ kk => r_iload 89 dX5_readPerson_87 rfl rfl kk) ?_
  refine Sx.up (fun _ kk => r_callV 92 dX5_readPerson_89 rfl k5_161 (c_X8_tellSides (d := d + 6) w8 w137) rfl rfl (by first | with_reducible assumption | with_reducible exact cr_bs hC | rfl) (by decide) rfl (by first | with_reducible assumption | with_reducible exact cr_bn hC | exact Nat.le_of_ble_eq_true rfl) (Nat.le_of_ble_eq_true rfl) kk) ?_
  refine Sx.up (fun _ kk => r_aload 94 dX5_readPerson_92 rfl rfl kk) ?_
  refine Sx.up (fun _ kk => r_iload 96 dX5_readPerson_94 rfl rfl kk) ?_
  refine Sx.up (fun _ kk => r_iload 98 dX5_readPerson_96 rfl rfl kk) ?_
  refine Sx.up (fun _ kk => r_callV 101 dX5_readPerson_98 rfl k5_165 (c_X8_tellOut (d := d + 6) w8 w137) rfl rfl (by first | with_reducible assumption | with_reducible exact cr_bs hC | rfl) (by decide) rfl (by first | with_reducible assumption | with_reducible exact cr_bn hC | exact Nat.le_of_ble_eq_true rfl) (Nat.le_of_ble_eq_true rfl) kk) ?_
  refine Sx.up (fun _ kk => r_aload_n 102 dX5_readPerson_101 rfl rfl kk) ?_
  refine Sx.up (fun _ kk => r_getR 105 dX5_readPerson_102 rfl f5_35 rfl (by first | with_reducible assumption | with_reducible exact cr_bs hC | rfl) (by first | with_reducible assumption | with_reducible exact cr_bn hC | exact Nat.le_of_ble_eq_true rfl) (rd_into y8) kk) ?_
  refine Sx.up (fun _ kk => r_dup 106 dX5_readPerson_105 rfl rfl kk) ?_
  refine Sx.up (fun _ kk => r_getI 109 dX5_readPerson_106 rfl f5_145 rfl (by first | with_reducible assumption | with_reducible exact cr_bs hC | rfl) (by first | with_reducible assumption | with_reducible exact cr_bn hC | exact Nat.le_of_ble_eq_true rfl) kk) ?_
  refine Sx.up (fun _ kk => r_iconst (1) 110 dX5_readPerson_109 rfl (by decide) kk) ?_
  refine Sx.up (fun _ kk => r_iadd 111 dX5_readPerson_110 rfl kk) ?_
  refine Sx.up (fun _ kk => r_putI 114 dX5_readPerson_111 rfl f5_145 (by first | with_reducible assumption | with_reducible exact cr_bs hC | rfl) (by first | with_reducible assumption | with_reducible exact cr_bn hC | exact Nat.le_of_ble_eq_true rfl) kk) ?_
  refine ⟨_, ?_, r_vret dX5_readPerson_114 rfl rfl rfl⟩
  refine ⟨_, rfl, ?_⟩
  have hr := whoId_r hb (gI E8 4 b)
  rw [hw] at hr
  refine rd_tell (w := w) (x := kd7 kd v3 v4 v5 v6 v7 v8) y8 hw.symm ?_ sr_rfl ?_ (fun g hg => ?_) (fun k k1 k7 => ?_) (fun a B hs => ?_)
  · exact fr_sI (Or.inr rfl) (fr_sI (Or.inl rfl) (fr_sI (Or.inl rfl) (fr_sI (Or.inl rfl) (fr_sI (Or.inl rfl) (fr_sI (Or.inl rfl) (fr_sI (Or.inl rfl) (fr_sI (Or.inl rfl) (fr_sI (Or.inl rfl) (fr_sI (Or.inl rfl) (fr_sI (Or.inl rfl) (fr_sI (Or.inl rfl) (fr_sI (Or.inl rfl) (fr_rfl)))))))))))))
  · simp [gI_sI]
  · simp [gI_sI, hg, show ¬ b = w by omega]
  · match k, k1, k7 with
    | 1, _, _ => simp [gI_sI, kd7]
    | 2, _, _ => simp [gI_sI, kd7]
    | 3, _, _ => simp [gI_sI, kd7]
    | 4, _, _ => simp [gI_sI, kd7]
    | 5, _, _ => simp [gI_sI, kd7]
    | 6, _, _ => simp [gI_sI, kd7]
    | 7, _, _ => simp [gI_sI, kd7]
  · obtain ⟨a6, e6, -⟩ := tk_live hs
    obtain ⟨a5, e5, -⟩ := tk_live e6
    obtain ⟨a4, e4, -⟩ := tk_live e5
    obtain ⟨a3, e3, -⟩ := tk_live e4
    obtain ⟨a2, e2, -⟩ := tk_live e3
    obtain ⟨a1, e1, -⟩ := tk_live e2
    exact ⟨new_live e1, fun k _ _ => by rw [hv8 a B hs, hv7 _ _ e6, hv6 _ _ e5, hv5 _ _ e4, hv4 _ _ e3, hv3 _ _ e2]⟩
set_option maxRecDepth 20000 in
theorem rd_set {d : Nat} {E0 E : HP} {T : TX} {b : Nat} {s : PS}  (y1 : CRd E0 E T b s)  : ∃ o, (∃ E2, o = (.inl none, E2, 137) ∧ CRd E0 E2 T b (if wdS T w_bed s = true then bdS T s else if wdS T w_night s = true then niS T s else if wdS T w_awake s = true then awS T s else fltS 1 s)) ∧ Cl yX5_readSetting mX5_readSetting (d + 7) 0 0 [.ref 41] E 137 o := by
  have hb := rd_b y1
  have hbs : sh b = (0, 0) := bo_1 (rd_bed y1)
  have hbn : b < 137 := by omega
  have hb5 : sh (b + 5) = (7, 0) := (rd_bed y1).2.2.2.2.2.2.2.2.2.1.1
  have hb5n : b + 5 < 137 := by omega
  refine Cx.of (by decide) rfl (fun q => by cases q) rfl rfl (Nat.le_of_ble_eq_true rfl) ?_
  show Sx _ _ _ _ _ 0 [some (.ref 41)] [] _ _
  refine Sx.up (fun _ kk => r_aload_n 1 dX5_readSetting_0 rfl rfl kk) ?_
  refine Sx.up (fun _ kk => r_getR 4 dX5_readSetting_1 rfl f5_19 rfl (by first | with_reducible assumption | with_reducible exact cr_bs hC | rfl) (by first | with_reducible assumption | with_reducible exact cr_bn hC | exact Nat.le_of_ble_eq_true rfl) (rd_tok y1) kk) ?_
  refine Sx.up (fun _ kk => r_ldcS (i := 18) 6 dX5_readSetting_4 rfl rfl kk) ?_
  refine Sx.up (fun _ kk => r_callV 9 dX5_readSetting_6 rfl k5_72 (rd_word (i := 18) (q := ("SpoonRow$Reader", 107, "bed", w_bed)) y1 rfl) rfl rfl (by first | with_reducible assumption | with_reducible exact cr_bs hC | rfl) (by decide) rfl (by first | with_reducible assumption | with_reducible exact cr_bn hC | exact Nat.le_of_ble_eq_true rfl) (Nat.le_of_ble_eq_true rfl) kk) ?_
  refine Sx.br (fun _ ka kb => r_if_eq 12 48 dX5_readSetting_9 rfl (by decide) ka kb) (by first | exact em1 | exact em2) (fun h9 => ?_) (fun h9 => ?_)
  · refine Sx.up (fun _ kk => r_aload_n 49 dX5_readSetting_48 rfl rfl kk) ?_
    refine Sx.up (fun _ kk => r_getR 52 dX5_readSetting_49 rfl f5_19 rfl (by first | with_reducible assumption | with_reducible exact cr_bs hC | rfl) (by first | with_reducible assumption | with_reducible exact cr_bn hC | exact Nat.le_of_ble_eq_true rfl) (rd_tok y1) kk) ?_
    refine Sx.up (fun _ kk => r_ldcS (i := 19) 54 dX5_readSetting_52 rfl rfl kk) ?_
    refine Sx.up (fun _ kk => r_callV 57 dX5_readSetting_54 rfl k5_72 (rd_word (i := 19) (q := ("SpoonRow$Reader", 119, "night", w_night)) y1 rfl) rfl rfl (by first | with_reducible assumption | with_reducible exact cr_bs hC | rfl) (by decide) rfl (by first | with_reducible assumption | with_reducible exact cr_bn hC | exact Nat.le_of_ble_eq_true rfl) (Nat.le_of_ble_eq_true rfl) kk) ?_
    refine Sx.br (fun _ ka kb => r_if_eq 60 83 dX5_readSetting_57 rfl (by decide) ka kb) (by first | exact em1 | exact em2) (fun h57 => ?_) (fun h57 => ?_)
    · refine Sx.up (fun _ kk => r_aload_n 84 dX5_readSetting_83 rfl rfl kk) ?_
      refine Sx.up (fun _ kk => r_getR 87 dX5_readSetting_84 rfl f5_19 rfl (by first | with_reducible assumption | with_reducible exact cr_bs hC | rfl) (by first | with_reducible assumption | with_reducible exact cr_bn hC | exact Nat.le_of_ble_eq_true rfl) (rd_tok y1) kk) ?_
      refine Sx.up (fun _ kk => r_ldcS (i := 20) 89 dX5_readSetting_87 rfl rfl kk) ?_
      refine Sx.up (fun _ kk => r_callV 92 dX5_readSetting_89 rfl k5_72 (rd_word (i := 20) (q := ("SpoonRow$Reader", 124, "awake", w_awake)) y1 rfl) rfl rfl (by first | with_reducible assumption | with_reducible exact cr_bs hC | rfl) (by decide) rfl (by first | with_reducible assumption | with_reducible exact cr_bn hC | exact Nat.le_of_ble_eq_true rfl) (Nat.le_of_ble_eq_true rfl) kk) ?_
      refine Sx.br (fun _ ka kb => r_if_eq 95 117 dX5_readSetting_92 rfl (by decide) ka kb) (by first | exact em1 | exact em2) (fun h92 => ?_) (fun h92 => ?_)
      · refine Sx.up (fun _ kk => r_aload_n 118 dX5_readSetting_117 rfl rfl kk) ?_
        refine Sx.up (fun _ kk => r_iconst (1) 119 dX5_readSetting_118 rfl (by decide) kk) ?_
        obtain ⟨_, ⟨E2, rfl, y2⟩, hcl2⟩ := rd_refuse (d := d + 5) y1 (k := 1) (k9 := 1) rfl (by decide) (by decide)
        refine Sx.up (fun _ kk => r_callV 122 dX5_readSetting_119 rfl k5_128 hcl2 rfl rfl (by first | with_reducible assumption | with_reducible exact cr_bs hC | rfl) (by decide) rfl (by first | with_reducible assumption | with_reducible exact cr_bn hC | exact Nat.le_of_ble_eq_true rfl) (Nat.le_of_ble_eq_true rfl) kk) ?_
        refine ⟨_, ?_, r_vret dX5_readSetting_122 rfl rfl rfl⟩
        refine ⟨_, rfl, ?_⟩
        first
        | (rw [if_pos (bnz h9)]; have yf := rd_scal (i := 1) (v := v2) y2 (by decide); rw [sc_eq hv2] at yf; exact yf)
        | (rw [if_neg (bz h9), if_pos (bnz h57)]; have yf := rd_scal (i := 2) (v := v2) y2 (by decide); rw [sc_eq hv2] at yf; exact yf)
        | (rw [if_neg (bz h9), if_neg (bz h57), if_pos (bnz h92)]; have yf := rd_scal (i := 3) (v := v2) y2 (by decide); rw [sc_eq hv2] at yf; exact yf)
        | (rw [if_neg (bz h9), if_neg (bz h57), if_neg (bz h92)]; exact y2)
      · refine Sx.up (fun _ kk => r_aload_n 96 dX5_readSetting_95 rfl rfl kk) ?_
        refine Sx.up (fun _ kk => r_iconst (4) 97 dX5_readSetting_96 rfl (by decide) kk) ?_
        obtain ⟨_, ⟨E3, rfl, y3⟩, hcl3⟩ := rd_onceS (d := d) (l := 4) y1
        refine Sx.up (fun _ kk => r_callV 100 dX5_readSetting_97 rfl k5_86 hcl3 rfl rfl (by first | with_reducible assumption | with_reducible exact cr_bs hC | rfl) (by decide) rfl (by first | with_reducible assumption | with_reducible exact cr_bn hC | exact Nat.le_of_ble_eq_true rfl) (Nat.le_of_ble_eq_true rfl) kk) ?_
        refine Sx.up (fun _ kk => r_aload_n 101 dX5_readSetting_100 rfl rfl kk) ?_
        refine Sx.up (fun _ kk => r_getR 104 dX5_readSetting_101 rfl f5_35 rfl (by first | with_reducible assumption | with_reducible exact cr_bs hC | rfl) (by first | with_reducible assumption | with_reducible exact cr_bn hC | exact Nat.le_of_ble_eq_true rfl) (rd_into y3) kk) ?_
        refine Sx.up (fun _ kk => r_aload_n 105 dX5_readSetting_104 rfl rfl kk) ?_
        refine Sx.up (fun _ kk => r_iconst (0) 106 dX5_readSetting_105 rfl (by decide) kk) ?_
        refine Sx.up (fun _ kk => r_bipush (60) 108 dX5_readSetting_106 rfl (by decide) kk) ?_
        obtain ⟨_, ⟨E4, v4, rfl, y4, hv4⟩, hcl4⟩ := rd_take (d := d) (lo := 0) (hi := 60) y3 rfl rfl (by decide) (by decide)
        refine Sx.up (fun _ kk => r_callV 111 dX5_readSetting_108 rfl k5_109 hcl4 rfl rfl (by first | with_reducible assumption | with_reducible exact cr_bs hC | rfl) (by decide) rfl (by first | with_reducible assumption | with_reducible exact cr_bn hC | exact Nat.le_of_ble_eq_true rfl) (Nat.le_of_ble_eq_true rfl) kk) ?_
        refine Sx.up (fun _ kk => r_putI 114 dX5_readSetting_111 rfl f5_126 (by first | with_reducible assumption | with_reducible exact cr_bs hC | rfl) (by first | with_reducible assumption | with_reducible exact cr_bn hC | exact Nat.le_of_ble_eq_true rfl) kk) ?_
        refine Sx.up (fun _ kk => r_goto 122 dX5_readSetting_114 (by decide) kk) ?_
        refine ⟨_, ?_, r_vret dX5_readSetting_122 rfl rfl rfl⟩
        refine ⟨_, rfl, ?_⟩
        first
        | (rw [if_pos (bnz h9)]; have yf := rd_scal (i := 1) (v := v4) y4 (by decide); rw [sc_eq hv4] at yf; exact yf)
        | (rw [if_neg (bz h9), if_pos (bnz h57)]; have yf := rd_scal (i := 2) (v := v4) y4 (by decide); rw [sc_eq hv4] at yf; exact yf)
        | (rw [if_neg (bz h9), if_neg (bz h57), if_pos (bnz h92)]; have yf := rd_scal (i := 3) (v := v4) y4 (by decide); rw [sc_eq hv4] at yf; exact yf)
        | (rw [if_neg (bz h9), if_neg (bz h57), if_neg (bz h92)]; exact y4)
    · refine Sx.up (fun _ kk => r_aload_n 61 dX5_readSetting_60 rfl rfl kk) ?_
      refine Sx.up (fun _ kk => r_iconst (2) 62 dX5_readSetting_61 rfl (by decide) kk) ?_
      obtain ⟨_, ⟨E5, rfl, y5⟩, hcl5⟩ := rd_onceS (d := d) (l := 2) y1
      refine Sx.up (fun _ kk => r_callV 65 dX5_readSetting_62 rfl k5_86 hcl5 rfl rfl (by first | with_reducible assumption | with_reducible exact cr_bs hC | rfl) (by decide) rfl (by first | with_reducible assumption | with_reducible exact cr_bn hC | exact Nat.le_of_ble_eq_true rfl) (Nat.le_of_ble_eq_true rfl) kk) ?_
      refine Sx.up (fun _ kk => r_aload_n 66 dX5_readSetting_65 rfl rfl kk) ?_
      refine Sx.up (fun _ kk => r_getR 69 dX5_readSetting_66 rfl f5_35 rfl (by first | with_reducible assumption | with_reducible exact cr_bs hC | rfl) (by first | with_reducible assumption | with_reducible exact cr_bn hC | exact Nat.le_of_ble_eq_true rfl) (rd_into y5) kk) ?_
      refine Sx.up (fun _ kk => r_aload_n 70 dX5_readSetting_69 rfl rfl kk) ?_
      refine Sx.up (fun _ kk => r_iconst (1) 71 dX5_readSetting_70 rfl (by decide) kk) ?_
      refine Sx.up (fun _ kk => r_sipush (600) 74 dX5_readSetting_71 rfl (by decide) kk) ?_
      obtain ⟨_, ⟨E6, v6, rfl, y6, hv6⟩, hcl6⟩ := rd_take (d := d) (lo := 1) (hi := 600) y5 rfl rfl (by decide) (by decide)
      refine Sx.up (fun _ kk => r_callV 77 dX5_readSetting_74 rfl k5_109 hcl6 rfl rfl (by first | with_reducible assumption | with_reducible exact cr_bs hC | rfl) (by decide) rfl (by first | with_reducible assumption | with_reducible exact cr_bn hC | exact Nat.le_of_ble_eq_true rfl) (Nat.le_of_ble_eq_true rfl) kk) ?_
      refine Sx.up (fun _ kk => r_putI 80 dX5_readSetting_77 rfl f5_121 (by first | with_reducible assumption | with_reducible exact cr_bs hC | rfl) (by first | with_reducible assumption | with_reducible exact cr_bn hC | exact Nat.le_of_ble_eq_true rfl) kk) ?_
      refine Sx.up (fun _ kk => r_goto 122 dX5_readSetting_80 (by decide) kk) ?_
      refine ⟨_, ?_, r_vret dX5_readSetting_122 rfl rfl rfl⟩
      refine ⟨_, rfl, ?_⟩
      first
      | (rw [if_pos (bnz h9)]; have yf := rd_scal (i := 1) (v := v6) y6 (by decide); rw [sc_eq hv6] at yf; exact yf)
      | (rw [if_neg (bz h9), if_pos (bnz h57)]; have yf := rd_scal (i := 2) (v := v6) y6 (by decide); rw [sc_eq hv6] at yf; exact yf)
      | (rw [if_neg (bz h9), if_neg (bz h57), if_pos (bnz h92)]; have yf := rd_scal (i := 3) (v := v6) y6 (by decide); rw [sc_eq hv6] at yf; exact yf)
      | (rw [if_neg (bz h9), if_neg (bz h57), if_neg (bz h92)]; exact y6)
  · refine Sx.up (fun _ kk => r_aload_n 13 dX5_readSetting_12 rfl rfl kk) ?_
    refine Sx.up (fun _ kk => r_iconst (1) 14 dX5_readSetting_13 rfl (by decide) kk) ?_
    obtain ⟨_, ⟨E7, rfl, y7⟩, hcl7⟩ := rd_onceS (d := d) (l := 1) y1
    refine Sx.up (fun _ kk => r_callV 17 dX5_readSetting_14 rfl k5_86 hcl7 rfl rfl (by first | with_reducible assumption | with_reducible exact cr_bs hC | rfl) (by decide) rfl (by first | with_reducible assumption | with_reducible exact cr_bn hC | exact Nat.le_of_ble_eq_true rfl) (Nat.le_of_ble_eq_true rfl) kk) ?_
    refine Sx.up (fun _ kk => r_aload_n 18 dX5_readSetting_17 rfl rfl kk) ?_
    refine Sx.up (fun _ kk => r_getR 21 dX5_readSetting_18 rfl f5_35 rfl (by first | with_reducible assumption | with_reducible exact cr_bs hC | rfl) (by first | with_reducible assumption | with_reducible exact cr_bn hC | exact Nat.le_of_ble_eq_true rfl) (rd_into y7) kk) ?_
    refine Sx.up (fun _ kk => r_aload_n 22 dX5_readSetting_21 rfl rfl kk) ?_
    refine Sx.up (fun _ kk => r_iconst (1) 23 dX5_readSetting_22 rfl (by decide) kk) ?_
    refine Sx.up (fun _ kk => r_bipush (99) 25 dX5_readSetting_23 rfl (by decide) kk) ?_
    obtain ⟨_, ⟨E8, v8, rfl, y8, hv8⟩, hcl8⟩ := rd_take (d := d) (lo := 1) (hi := 99) y7 rfl rfl (by decide) (by decide)
    refine Sx.up (fun _ kk => r_callV 28 dX5_readSetting_25 rfl k5_109 hcl8 rfl rfl (by first | with_reducible assumption | with_reducible exact cr_bs hC | rfl) (by decide) rfl (by first | with_reducible assumption | with_reducible exact cr_bn hC | exact Nat.le_of_ble_eq_true rfl) (Nat.le_of_ble_eq_true rfl) kk) ?_
    refine Sx.up (fun _ kk => r_putI 31 dX5_readSetting_28 rfl f5_113 (by first | with_reducible assumption | with_reducible exact cr_bs hC | rfl) (by first | with_reducible assumption | with_reducible exact cr_bn hC | exact Nat.le_of_ble_eq_true rfl) kk) ?_
    have ys := rd_scal (i := 0) (v := v8) y8 (by decide)
    rw [sc_eq hv8] at ys
    refine Sx.up (fun _ kk => r_aload_n 32 dX5_readSetting_31 rfl rfl kk) ?_
    refine Sx.up (fun _ kk => r_getR 35 dX5_readSetting_32 rfl f5_35 rfl (by first | with_reducible assumption | with_reducible exact cr_bs hC | rfl) (by first | with_reducible assumption | with_reducible exact cr_bn hC | exact Nat.le_of_ble_eq_true rfl) (rd_into ys) kk) ?_
    refine Sx.up (fun _ kk => r_aload_n 36 dX5_readSetting_35 rfl rfl kk) ?_
    refine Sx.up (fun _ kk => r_iconst (0) 37 dX5_readSetting_36 rfl (by decide) kk) ?_
    refine Sx.up (fun _ kk => r_bipush (9) 39 dX5_readSetting_37 rfl (by decide) kk) ?_
    obtain ⟨_, ⟨E9, v9, rfl, y9, hv9⟩, hcl9⟩ := rd_take (d := d) (lo := 0) (hi := 9) ys rfl rfl (by decide) (by decide)
    refine Sx.up (fun _ kk => r_callV 42 dX5_readSetting_39 rfl k5_109 hcl9 rfl rfl (by first | with_reducible assumption | with_reducible exact cr_bs hC | rfl) (by decide) rfl (by first | with_reducible assumption | with_reducible exact cr_bn hC | exact Nat.le_of_ble_eq_true rfl) (Nat.le_of_ble_eq_true rfl) kk) ?_
    refine Sx.up (fun _ kk => r_putI 45 dX5_readSetting_42 rfl f5_116 (by first | with_reducible assumption | with_reducible exact cr_bs hC | rfl) (by first | with_reducible assumption | with_reducible exact cr_bn hC | exact Nat.le_of_ble_eq_true rfl) kk) ?_
    refine Sx.up (fun _ kk => r_goto 122 dX5_readSetting_45 (by decide) kk) ?_
    refine ⟨_, ?_, r_vret dX5_readSetting_122 rfl rfl rfl⟩
    refine ⟨_, rfl, ?_⟩
    first
    | (rw [if_pos (bnz h9)]; have yf := rd_scal (i := 1) (v := v9) y9 (by decide); rw [sc_eq hv9] at yf; exact yf)
    | (rw [if_neg (bz h9), if_pos (bnz h57)]; have yf := rd_scal (i := 2) (v := v9) y9 (by decide); rw [sc_eq hv9] at yf; exact yf)
    | (rw [if_neg (bz h9), if_neg (bz h57), if_pos (bnz h92)]; have yf := rd_scal (i := 3) (v := v9) y9 (by decide); rw [sc_eq hv9] at yf; exact yf)
    | (rw [if_neg (bz h9), if_neg (bz h57), if_neg (bz h92)]; exact y9)
theorem bo_if {E0 E : HP} {T : TX} {b : Nat} {s : PS} {v : Int32} (y1 : CRd E0 E T b s) (hv : kiS T 2 s = true → v = nI (vaS T s)) (h : nwS T 1 6 s = true) : boC T s = true ↔ (gI E 9 b >>> (v &&& 31)) &&& 1 = 1 := by
  cases s with
  | inl z => exact absurd h (by show ¬ false = true; decide)
  | inr z =>
    have o5 : gI E 9 b = bX z.2 4 := y1.2.2.2.2.2.2.2.2.2.1 4 (by decide)
    have hk : kdT T z.1 = 2 := (in_num h).1
    have e : v = nI (numT T z.1) := hv (decide_eq_true hk)
    have h' : inN T z.1 1 6 = true := h
    show (inN T z.1 1 6 && decide ((bX z.2 4 >>> (nI (numT T z.1) &&& 31)) &&& 1 = 1)) = true ↔ _
    rw [h', Bool.true_and, decide_eq_true_eq, o5, e]
theorem bo_no {T : TX} {s : PS} (h : ¬ nwS T 1 6 s = true) : ¬ boC T s = true := by
  cases s with
  | inl z => exact fun q => absurd q (by show ¬ false = true; decide)
  | inr z =>
    intro q
    have q : (inN T z.1 1 6 && decide ((bX z.2 4 >>> (nI (numT T z.1) &&& 31)) &&& 1 = 1)) = true := q
    rw [Bool.and_eq_true] at q
    exact h q.1
theorem rd_or9 {E0 E E2 : HP} {T : TX} {b lo hi : Nat} {s : PS} {x v : Int32} (y1 : CRd E0 E T b s) (y2 : CRd E0 E2 T b (tkS T lo hi s)) (hx : x = gI E 9 b) (hv : ∀ a B, tkS T lo hi s = .inr (a, B) → v = nI (vaS T s)) : CRd E0 (sI E2 9 b (x ||| (1 <<< (v &&& 31)))) T b (orX (1 <<< (nI (vaS T s) &&& 31)) (tkS T lo hi s)) := by
  have ys := rd_scal (i := 4) (v := x ||| (1 <<< (v &&& 31))) y2 (by decide)
  cases ht : tkS T lo hi s with
  | inl z => rw [ht] at ys; exact ys
  | inr z =>
    rw [ht] at ys
    have e := hv z.1 z.2 ht
    obtain ⟨a0, e0, -⟩ := tk_live ht
    subst e0
    have o5 : gI E 9 b = bX z.2 4 := y1.2.2.2.2.2.2.2.2.2.1 4 (by decide)
    rw [hx, o5, e] at ys
    rw [hx, o5, e]
    exact ys
set_option maxRecDepth 20000 in
theorem rd_bol {d : Nat} {E0 E : HP} {T : TX} {b : Nat} {s : PS}  (y1 : CRd E0 E T b s)  : ∃ o, (∃ E2, o = (.inl none, E2, 137) ∧ CRd E0 E2 T b (boS T s)) ∧ Cl yX5_readBolster mX5_readBolster (d + 7) 0 0 [.ref 41] E 137 o := by
  have hb := rd_b y1
  have hbs : sh b = (0, 0) := bo_1 (rd_bed y1)
  have hbn : b < 137 := by omega
  have hb5 : sh (b + 5) = (7, 0) := (rd_bed y1).2.2.2.2.2.2.2.2.2.1.1
  have hb5n : b + 5 < 137 := by omega
  refine Cx.of (by decide) rfl (fun q => by cases q) rfl rfl (Nat.le_of_ble_eq_true rfl) ?_
  show Sx _ _ _ _ _ 0 [some (.ref 41), none] [] _ _
  refine Sx.up (fun _ kk => r_aload_n 1 dX5_readBolster_0 rfl rfl kk) ?_
  refine Sx.up (fun _ kk => r_getR 4 dX5_readBolster_1 rfl f5_19 rfl (by first | with_reducible assumption | with_reducible exact cr_bs hC | rfl) (by first | with_reducible assumption | with_reducible exact cr_bn hC | exact Nat.le_of_ble_eq_true rfl) (rd_tok y1) kk) ?_
  obtain ⟨_, ⟨E2, rfl, y2⟩, hcl2⟩ := rd_adv (d := d + 1) y1
  refine Sx.up (fun _ kk => r_callV 7 dX5_readBolster_4 rfl k5_131 hcl2 rfl rfl (by first | with_reducible assumption | with_reducible exact cr_bs hC | rfl) (by decide) rfl (by first | with_reducible assumption | with_reducible exact cr_bn hC | exact Nat.le_of_ble_eq_true rfl) (Nat.le_of_ble_eq_true rfl) kk) ?_
  refine Sx.up (fun _ kk => r_aload_n 8 dX5_readBolster_7 rfl rfl kk) ?_
  refine Sx.up (fun _ kk => r_getR 11 dX5_readBolster_8 rfl f5_19 rfl (by first | with_reducible assumption | with_reducible exact cr_bs hC | rfl) (by first | with_reducible assumption | with_reducible exact cr_bn hC | exact Nat.le_of_ble_eq_true rfl) (rd_tok y2) kk) ?_
  refine Sx.up (fun _ kk => r_iconst (1) 12 dX5_readBolster_11 rfl (by decide) kk) ?_
  refine Sx.up (fun _ kk => r_bipush (6) 14 dX5_readBolster_12 rfl (by decide) kk) ?_
  refine Sx.up (fun _ kk => r_callV 17 dX5_readBolster_14 rfl k5_134 (rd_numw (d := d + 4) (lo := 1) (hi := 6) y2 rfl rfl (by decide) (by decide)) rfl rfl (by first | with_reducible assumption | with_reducible exact cr_bs hC | rfl) (by decide) rfl (by first | with_reducible assumption | with_reducible exact cr_bn hC | exact Nat.le_of_ble_eq_true rfl) (Nat.le_of_ble_eq_true rfl) kk) ?_
  refine Sx.up (fun _ kk => r_istore_n 18 dX5_readBolster_17 rfl (by decide) rfl kk) ?_
  refine Sx.up (fun _ kk => r_iload_n 19 dX5_readBolster_18 rfl rfl kk) ?_
  refine Sx.br (fun _ ka kb => r_if_eq 22 48 dX5_readBolster_19 rfl (by decide) ka kb) (by first | exact em1 | exact em2) (fun h19 => ?_) (fun h19 => ?_)
  · have yb : CRd E0 E2 T b (boD T (advS T s)) := by
      unfold boD
      first
      | (rw [if_pos ((bo_if y2 hv (bnz h19)).mpr h40)]; exact y2)
      | (rw [if_neg (fun z => h40 ((bo_if y2 hv (bnz h19)).mp z))]; exact y2)
      | (rw [if_neg (bo_no (bz h19))]; exact y2)
    refine Sx.up (fun _ kk => r_aload_n 49 dX5_readBolster_48 rfl rfl kk) ?_
    refine Sx.up (fun _ kk => r_getR 52 dX5_readBolster_49 rfl f5_35 rfl (by first | with_reducible assumption | with_reducible exact cr_bs hC | rfl) (by first | with_reducible assumption | with_reducible exact cr_bn hC | exact Nat.le_of_ble_eq_true rfl) (rd_into yb) kk) ?_
    refine Sx.up (fun _ kk => r_dup 53 dX5_readBolster_52 rfl rfl kk) ?_
    refine Sx.up (fun _ kk => r_getI 56 dX5_readBolster_53 rfl f5_168 rfl (by first | with_reducible assumption | with_reducible exact cr_bs hC | rfl) (by first | with_reducible assumption | with_reducible exact cr_bn hC | exact Nat.le_of_ble_eq_true rfl) kk) ?_
    refine Sx.up (fun _ kk => r_iconst (1) 57 dX5_readBolster_56 rfl (by decide) kk) ?_
    refine Sx.up (fun _ kk => r_aload_n 58 dX5_readBolster_57 rfl rfl kk) ?_
    refine Sx.up (fun _ kk => r_iconst (1) 59 dX5_readBolster_58 rfl (by decide) kk) ?_
    refine Sx.up (fun _ kk => r_bipush (6) 61 dX5_readBolster_59 rfl (by decide) kk) ?_
    obtain ⟨_, ⟨E3, v3, rfl, y3, hv3⟩, hcl3⟩ := rd_take (d := d) (lo := 1) (hi := 6) yb rfl rfl (by decide) (by decide)
    refine Sx.up (fun _ kk => r_callV 64 dX5_readBolster_61 rfl k5_109 hcl3 rfl rfl (by first | with_reducible assumption | with_reducible exact cr_bs hC | rfl) (by decide) rfl (by first | with_reducible assumption | with_reducible exact cr_bn hC | exact Nat.le_of_ble_eq_true rfl) (Nat.le_of_ble_eq_true rfl) kk) ?_
    refine Sx.up (fun _ kk => r_ishl 65 dX5_readBolster_64 rfl kk) ?_
    refine Sx.up (fun _ kk => r_ior 66 dX5_readBolster_65 rfl kk) ?_
    refine Sx.up (fun _ kk => r_putI 69 dX5_readBolster_66 rfl f5_168 (by first | with_reducible assumption | with_reducible exact cr_bs hC | rfl) (by first | with_reducible assumption | with_reducible exact cr_bn hC | exact Nat.le_of_ble_eq_true rfl) kk) ?_
    refine ⟨_, ?_, r_vret dX5_readBolster_69 rfl rfl rfl⟩
    exact ⟨_, rfl, rd_or9 yb y3 rfl hv3⟩
  · refine Sx.up (fun _ kk => r_aload_n 23 dX5_readBolster_22 rfl rfl kk) ?_
    refine Sx.up (fun _ kk => r_getR 26 dX5_readBolster_23 rfl f5_35 rfl (by first | with_reducible assumption | with_reducible exact cr_bs hC | rfl) (by first | with_reducible assumption | with_reducible exact cr_bn hC | exact Nat.le_of_ble_eq_true rfl) (rd_into y2) kk) ?_
    refine Sx.up (fun _ kk => r_getI 29 dX5_readBolster_26 rfl f5_168 rfl (by first | with_reducible assumption | with_reducible exact cr_bs hC | rfl) (by first | with_reducible assumption | with_reducible exact cr_bn hC | exact Nat.le_of_ble_eq_true rfl) kk) ?_
    refine Sx.up (fun _ kk => r_aload_n 30 dX5_readBolster_29 rfl rfl kk) ?_
    refine Sx.up (fun _ kk => r_getR 33 dX5_readBolster_30 rfl f5_19 rfl (by first | with_reducible assumption | with_reducible exact cr_bs hC | rfl) (by first | with_reducible assumption | with_reducible exact cr_bn hC | exact Nat.le_of_ble_eq_true rfl) (rd_tok y2) kk) ?_
    obtain ⟨v, hv, hnu⟩ := rd_num (d := d + 5) y2
    refine Sx.up (fun _ kk => r_callV 36 dX5_readBolster_33 rfl k5_138 hnu rfl rfl (by first | with_reducible assumption | with_reducible exact cr_bs hC | rfl) (by decide) rfl (by first | with_reducible assumption | with_reducible exact cr_bn hC | exact Nat.le_of_ble_eq_true rfl) (Nat.le_of_ble_eq_true rfl) kk) ?_
    refine Sx.up (fun _ kk => r_ishr 37 dX5_readBolster_36 rfl kk) ?_
    refine Sx.up (fun _ kk => r_iconst (1) 38 dX5_readBolster_37 rfl (by decide) kk) ?_
    refine Sx.up (fun _ kk => r_iand 39 dX5_readBolster_38 rfl kk) ?_
    refine Sx.up (fun _ kk => r_iconst (1) 40 dX5_readBolster_39 rfl (by decide) kk) ?_
    refine Sx.br (fun _ ka kb => r_icmp_ne 43 48 dX5_readBolster_40 rfl (by decide) ka kb) (by first | exact em1 | exact em2) (fun h40 => ?_) (fun h40 => ?_)
    · have yb : CRd E0 E2 T b (boD T (advS T s)) := by
        unfold boD
        first
        | (rw [if_pos ((bo_if y2 hv (bnz h19)).mpr h40)]; exact y2)
        | (rw [if_neg (fun z => h40 ((bo_if y2 hv (bnz h19)).mp z))]; exact y2)
        | (rw [if_neg (bo_no (bz h19))]; exact y2)
      refine Sx.up (fun _ kk => r_aload_n 49 dX5_readBolster_48 rfl rfl kk) ?_
      refine Sx.up (fun _ kk => r_getR 52 dX5_readBolster_49 rfl f5_35 rfl (by first | with_reducible assumption | with_reducible exact cr_bs hC | rfl) (by first | with_reducible assumption | with_reducible exact cr_bn hC | exact Nat.le_of_ble_eq_true rfl) (rd_into yb) kk) ?_
      refine Sx.up (fun _ kk => r_dup 53 dX5_readBolster_52 rfl rfl kk) ?_
      refine Sx.up (fun _ kk => r_getI 56 dX5_readBolster_53 rfl f5_168 rfl (by first | with_reducible assumption | with_reducible exact cr_bs hC | rfl) (by first | with_reducible assumption | with_reducible exact cr_bn hC | exact Nat.le_of_ble_eq_true rfl) kk) ?_
      refine Sx.up (fun _ kk => r_iconst (1) 57 dX5_readBolster_56 rfl (by decide) kk) ?_
      refine Sx.up (fun _ kk => r_aload_n 58 dX5_readBolster_57 rfl rfl kk) ?_
      refine Sx.up (fun _ kk => r_iconst (1) 59 dX5_readBolster_58 rfl (by decide) kk) ?_
      refine Sx.up (fun _ kk => r_bipush (6) 61 dX5_readBolster_59 rfl (by decide) kk) ?_
      obtain ⟨_, ⟨E4, v4, rfl, y4, hv4⟩, hcl4⟩ := rd_take (d := d) (lo := 1) (hi := 6) yb rfl rfl (by decide) (by decide)
      refine Sx.up (fun _ kk => r_callV 64 dX5_readBolster_61 rfl k5_109 hcl4 rfl rfl (by first | with_reducible assumption | with_reducible exact cr_bs hC | rfl) (by decide) rfl (by first | with_reducible assumption | with_reducible exact cr_bn hC | exact Nat.le_of_ble_eq_true rfl) (Nat.le_of_ble_eq_true rfl) kk) ?_
      refine Sx.up (fun _ kk => r_ishl 65 dX5_readBolster_64 rfl kk) ?_
      refine Sx.up (fun _ kk => r_ior 66 dX5_readBolster_65 rfl kk) ?_
      refine Sx.up (fun _ kk => r_putI 69 dX5_readBolster_66 rfl f5_168 (by first | with_reducible assumption | with_reducible exact cr_bs hC | rfl) (by first | with_reducible assumption | with_reducible exact cr_bn hC | exact Nat.le_of_ble_eq_true rfl) kk) ?_
      refine ⟨_, ?_, r_vret dX5_readBolster_69 rfl rfl rfl⟩
      exact ⟨_, rfl, rd_or9 yb y4 rfl hv4⟩
    · refine Sx.up (fun _ kk => r_aload_n 44 dX5_readBolster_43 rfl rfl kk) ?_
      refine Sx.up (fun _ kk => r_iconst (5) 45 dX5_readBolster_44 rfl (by decide) kk) ?_
      obtain ⟨_, ⟨E5, rfl, y5⟩, hcl5⟩ := rd_refuse (d := d + 5) y2 (k := 5) (k9 := 5) rfl (by decide) (by decide)
      refine Sx.up (fun _ kk => r_callV 48 dX5_readBolster_45 rfl k5_128 hcl5 rfl rfl (by first | with_reducible assumption | with_reducible exact cr_bs hC | rfl) (by decide) rfl (by first | with_reducible assumption | with_reducible exact cr_bn hC | exact Nat.le_of_ble_eq_true rfl) (Nat.le_of_ble_eq_true rfl) kk) ?_
      have yb : CRd E0 E5 T b (boD T (advS T s)) := by
        unfold boD
        first
        | (rw [if_pos ((bo_if y2 hv (bnz h19)).mpr h40)]; exact y5)
        | (rw [if_neg (fun z => h40 ((bo_if y2 hv (bnz h19)).mp z))]; exact y5)
        | (rw [if_neg (bo_no (bz h19))]; exact y5)
      refine Sx.up (fun _ kk => r_aload_n 49 dX5_readBolster_48 rfl rfl kk) ?_
      refine Sx.up (fun _ kk => r_getR 52 dX5_readBolster_49 rfl f5_35 rfl (by first | with_reducible assumption | with_reducible exact cr_bs hC | rfl) (by first | with_reducible assumption | with_reducible exact cr_bn hC | exact Nat.le_of_ble_eq_true rfl) (rd_into yb) kk) ?_
      refine Sx.up (fun _ kk => r_dup 53 dX5_readBolster_52 rfl rfl kk) ?_
      refine Sx.up (fun _ kk => r_getI 56 dX5_readBolster_53 rfl f5_168 rfl (by first | with_reducible assumption | with_reducible exact cr_bs hC | rfl) (by first | with_reducible assumption | with_reducible exact cr_bn hC | exact Nat.le_of_ble_eq_true rfl) kk) ?_
      refine Sx.up (fun _ kk => r_iconst (1) 57 dX5_readBolster_56 rfl (by decide) kk) ?_
      refine Sx.up (fun _ kk => r_aload_n 58 dX5_readBolster_57 rfl rfl kk) ?_
      refine Sx.up (fun _ kk => r_iconst (1) 59 dX5_readBolster_58 rfl (by decide) kk) ?_
      refine Sx.up (fun _ kk => r_bipush (6) 61 dX5_readBolster_59 rfl (by decide) kk) ?_
      obtain ⟨_, ⟨E6, v6, rfl, y6, hv6⟩, hcl6⟩ := rd_take (d := d) (lo := 1) (hi := 6) yb rfl rfl (by decide) (by decide)
      refine Sx.up (fun _ kk => r_callV 64 dX5_readBolster_61 rfl k5_109 hcl6 rfl rfl (by first | with_reducible assumption | with_reducible exact cr_bs hC | rfl) (by decide) rfl (by first | with_reducible assumption | with_reducible exact cr_bn hC | exact Nat.le_of_ble_eq_true rfl) (Nat.le_of_ble_eq_true rfl) kk) ?_
      refine Sx.up (fun _ kk => r_ishl 65 dX5_readBolster_64 rfl kk) ?_
      refine Sx.up (fun _ kk => r_ior 66 dX5_readBolster_65 rfl kk) ?_
      refine Sx.up (fun _ kk => r_putI 69 dX5_readBolster_66 rfl f5_168 (by first | with_reducible assumption | with_reducible exact cr_bs hC | rfl) (by first | with_reducible assumption | with_reducible exact cr_bn hC | exact Nat.le_of_ble_eq_true rfl) kk) ?_
      refine ⟨_, ?_, r_vret dX5_readBolster_69 rfl rfl rfl⟩
      exact ⟨_, rfl, rd_or9 yb y6 rfl hv6⟩
theorem nf_y {E0 E : HP} {T : TX} {b : Nat} {s : PS} (y1 : CRd E0 E T b s) (h : gI E 10 b < 6) : neF s = s := by
  cases s with
  | inl z => rfl
  | inr z =>
    have o7 : gI E 10 b = nI (bN z.2) := y1.2.2.2.2.2.2.2.2.2.2.2.1
    have o8 : bN z.2 ≤ 6 := y1.2.2.2.2.2.2.2.2.2.2.2.2.1
    rw [o7] at h
    exact if_neg (fun q => absurd h (nI_nlt (b := 6) q (by omega)))
theorem nf_n {E0 E : HP} {T : TX} {b : Nat} {s : PS} (y1 : CRd E0 E T b s) (h : ¬ gI E 10 b < 6) : neF s = fltS 2 s := by
  cases s with
  | inl z => rfl
  | inr z =>
    have o7 : gI E 10 b = nI (bN z.2) := y1.2.2.2.2.2.2.2.2.2.2.2.1
    rw [o7] at h
    exact if_pos (Nat.le_of_not_lt (fun q => h (nI_lt (b := 6) q (by omega))))
theorem nf_live {s : PS} {a : Nat} {B : BD} (h : neF s = .inr (a, B)) : bN B < 6 ∧ s = .inr (a, B) := by
  cases s with
  | inl z => cases h
  | inr z =>
    have h : (if 6 ≤ bN z.2 then .inl (2, z.1) else .inr (z.1, z.2)) = (.inr (a, B) : PS) := h
    by_cases q : 6 ≤ bN z.2
    · rw [if_pos q] at h; cases h
    · rw [if_neg q] at h
      have h := Sum.inr.inj h
      cases h
      exact ⟨by omega, rfl⟩
theorem adv_live {T : TX} {s : PS} {a : Nat} {B : BD} (h : advS T s = .inr (a, B)) : ∃ a0, s = .inr (a0, B) := by
  cases s with
  | inl z => cases h
  | inr z =>
    have h := Sum.inr.inj (show (.inr (nxT T z.1, z.2) : PS) = .inr (a, B) from h)
    cases h
    exact ⟨_, rfl⟩
theorem un_live {T : TX} {s : PS} {a : Nat} {B : BD} (h : unS T s = .inr (a, B)) : s = .inr (a, B) ∧ ¬ inN T a (bC B) 9999 = true := by
  cases s with
  | inl z => cases h
  | inr z =>
    have h : (if inN T z.1 (bC z.2) 9999 = true then .inl (3, z.1) else .inr (z.1, z.2)) = (.inr (a, B) : PS) := h
    by_cases q : inN T z.1 (bC z.2) 9999 = true
    · rw [if_pos q] at h; cases h
    · rw [if_neg q] at h
      have h := Sum.inr.inj h
      cases h
      exact ⟨rfl, q⟩
theorem un_lt {T : TX} {a c : Nat} (h : ¬ inN T a c 9999 = true) (hk : kdT T a = 2) (h9 : numT T a ≤ 9999) : numT T a < c := by
  rcases Nat.lt_or_ge (numT T a) c with z | z
  · exact z
  · exact absurd (decide_eq_true (p := kdT T a = 2 ∧ c ≤ numT T a ∧ numT T a ≤ 9999) ⟨hk, z, h9⟩) h
/-- the SLEEPER that was taken behind un: told ahead -/
theorem one_live {T : TX} {s : PS} {a : Nat} {B : BD} (h : tkS T 0 9999 (unS T s) = .inr (a, B)) : vaS T (unS T s) < bC B := by
  obtain ⟨a0, e0, -, hk, -, h9⟩ := tk_live h
  obtain ⟨e1, e2⟩ := un_live e0
  rw [e0]
  exact un_lt e2 hk h9
/-- whether the second SLEEPER of a NEVER is refused -/
def agC (T : TX) (v : Nat) : PS → Bool
  | .inl _ => false
  | .inr (a, B) => decide (kdT T a = 2 ∧ numT T a < bC B ∧ (numT T a = v ∨ (bE B v >>> (nI (numT T a) &&& 31)) &&& 1 = 1))
theorem ag_if {T : TX} {v : Nat} (s : PS) : agS T v s = if agC T v s = true then fltS 4 s else s := by
  cases s with
  | inl z => rfl
  | inr z =>
    show (if kdT T z.1 = 2 ∧ numT T z.1 < bC z.2 ∧ (numT T z.1 = v ∨ (bE z.2 v >>> (nI (numT T z.1) &&& 31)) &&& 1 = 1) then (.inl (4, z.1) : PS) else .inr z) = _
    by_cases q : kdT T z.1 = 2 ∧ numT T z.1 < bC z.2 ∧ (numT T z.1 = v ∨ (bE z.2 v >>> (nI (numT T z.1) &&& 31)) &&& 1 = 1)
    · rw [if_pos q, if_pos (show agC T v (.inr z) = true from decide_eq_true q)]; rfl
    · rw [if_neg q, if_neg (fun y => q (of_decide_eq_true (show agC T v (.inr z) = true from y)))]
theorem ag_td {T : TX} {v : Nat} {s : PS} (h : ¬ tdC T s = true) : ¬ agC T v s = true := by
  cases s with
  | inl z => exact fun q => absurd q (by show ¬ false = true; decide)
  | inr z =>
    intro q
    have q := of_decide_eq_true (show decide (kdT T z.1 = 2 ∧ numT T z.1 < bC z.2 ∧ (numT T z.1 = v ∨ (bE z.2 v >>> (nI (numT T z.1) &&& 31)) &&& 1 = 1)) = true from q)
    exact h (decide_eq_true (p := kdT T z.1 = 2 ∧ numT T z.1 < bC z.2) ⟨q.1, q.2.1⟩)
theorem td_ki {T : TX} {s : PS} (h : tdC T s = true) : kiS T 2 s = true := by
  cases s with
  | inl z => exact absurd h (by show ¬ false = true; decide)
  | inr z => exact decide_eq_true (of_decide_eq_true (show decide (kdT T z.1 = 2 ∧ numT T z.1 < bC z.2) = true from h)).1
theorem ag_1 {T : TX} {v : Nat} {s : PS} (h : tdC T s = true) (e : vaS T s = v) : agC T v s = true := by
  cases s with
  | inl z => exact absurd h (by show ¬ false = true; decide)
  | inr z =>
    have h := of_decide_eq_true (show decide (kdT T z.1 = 2 ∧ numT T z.1 < bC z.2) = true from h)
    exact decide_eq_true (p := kdT T z.1 = 2 ∧ numT T z.1 < bC z.2 ∧ (numT T z.1 = v ∨ (bE z.2 v >>> (nI (numT T z.1) &&& 31)) &&& 1 = 1)) ⟨h.1, h.2, Or.inl e⟩
theorem ag_2 {E0 E : HP} {T : TX} {b v : Nat} {s : PS} (y1 : CRd E0 E T b s) (h : tdC T s = true) (e : ¬ vaS T s = v) (hv : ∀ a B, s = .inr (a, B) → v < bC B) : agC T v s = true ↔ ¬ nevV E b (nI v) (nI (vaS T s)) = 0 := by
  cases s with
  | inl z => exact absurd h (by show ¬ false = true; decide)
  | inr z =>
    have h := of_decide_eq_true (show decide (kdT T z.1 = 2 ∧ numT T z.1 < bC z.2) = true from h)
    have o2 : bC z.2 ≤ 7 := y1.2.2.2.2.2.2.1
    have hv7 := hv z.1 z.2 rfl
    have o4 : gA E (b + 4) v = bE z.2 v := y1.2.2.2.2.2.2.2.2.1 v (by omega)
    have e : ¬ numT T z.1 = v := e
    unfold nevV
    rw [rAt_nI (by omega) (by omega)]
    show _ ↔ ¬ (if (gA E (b + 4) v >>> (nI (numT T z.1) &&& 31)) &&& 1 = 1 then (1 : Int32) else 0) = 0
    rw [o4]
    constructor
    · intro q
      have q := of_decide_eq_true (show decide (kdT T z.1 = 2 ∧ numT T z.1 < bC z.2 ∧ (numT T z.1 = v ∨ (bE z.2 v >>> (nI (numT T z.1) &&& 31)) &&& 1 = 1)) = true from q)
      rw [if_pos (q.2.2.resolve_left e)]
      decide
    · intro q
      by_cases y : (bE z.2 v >>> (nI (numT T z.1) &&& 31)) &&& 1 = 1
      · exact decide_eq_true (p := kdT T z.1 = 2 ∧ numT T z.1 < bC z.2 ∧ (numT T z.1 = v ∨ (bE z.2 v >>> (nI (numT T z.1) &&& 31)) &&& 1 = 1)) ⟨h.1, h.2, Or.inr y⟩
      · rw [if_neg y] at q; exact absurd rfl q
theorem ag_live {T : TX} {v a : Nat} {B : BD} {s : PS} (h : agS T v s = .inr (a, B)) : s = .inr (a, B) ∧ ¬ (kdT T a = 2 ∧ numT T a < bC B ∧ numT T a = v) := by
  cases s with
  | inl z => cases h
  | inr z =>
    have h : (if kdT T z.1 = 2 ∧ numT T z.1 < bC z.2 ∧ (numT T z.1 = v ∨ (bE z.2 v >>> (nI (numT T z.1) &&& 31)) &&& 1 = 1) then .inl (4, z.1) else .inr (z.1, z.2)) = (.inr (a, B) : PS) := h
    by_cases q : kdT T z.1 = 2 ∧ numT T z.1 < bC z.2 ∧ (numT T z.1 = v ∨ (bE z.2 v >>> (nI (numT T z.1) &&& 31)) &&& 1 = 1)
    · rw [if_pos q] at h; cases h
    · rw [if_neg q] at h
      have h := Sum.inr.inj h
      cases h
      exact ⟨rfl, fun y => q ⟨y.1, y.2.1, Or.inl y.2.2⟩⟩
theorem gA_put {E : HP} {h l k j m : Nat} {v : Int32} (hk : k < l) (hl : l < 100000) : gA (rPut E h l (nI k) v) j m = if j = h + 1 ∧ m = k then v else gA E j m := by
  rw [rPut_nI hk hl, gA_sA]
theorem rd_nev {E0 E : HP} {T : TX} {b x y : Nat} {s : PS} {v w : Int32} (y1 : CRd E0 E T b s) (hv : ∀ a B, s = .inr (a, B) → v = nI x ∧ w = nI y ∧ x < bC B ∧ y < bC B ∧ bN B < 6) : CRd E0 (beNever b v w E) T b (nvS x y s) := by
  have hb := rd_b y1
  have hF := rd_F y1
  have fr : Fr (fun k => k = b ∨ k = b + 4) E (beNever b v w E) := fr_sI (Or.inl rfl) (fr_put (Or.inr rfl) (fr_put (Or.inr rfl) fr_rfl))
  have sr : SR E (beNever b v w E) := sr_sI (sr_put (sr_put sr_rfl))
  have i2 : ∀ g k, ¬ (g = 10 ∧ k = b) → gI (beNever b v w E) g k = gI E g k := fun g k z => by
    unfold beNever
    rw [gI_sI, if_neg z, gI_rPut, gI_rPut]
  have a2 : ∀ k, k ≠ b → k ≠ b + 4 → gA (beNever b v w E) k = gA E k := fun k z1 z2 => fr_gA fr (by omega)
  refine rd_step y1 (fr_mono fr (fun k z => Or.inr (Or.inr (by omega)))) sr ⟨sr_gR sr hF.1, sr_row sr hF.2.1, (i2 _ _ (by omega)).trans hF.2.2.1, fun i hi => by rw [a2 _ (by omega) (by omega)]; exact hF.2.2.2 i hi⟩ ?_
  cases s with
  | inl z =>
    obtain ⟨c1, c2, c3, c4, c5, ⟨q, q1, q2, q3, q4⟩⟩ := id y1.2
    exact ⟨(i2 _ _ (by omega)).trans c1, c2, c3, (i2 _ _ (by omega)).trans c4, c5, q, q1, (i2 _ _ (by omega)).trans q2, (i2 _ _ (by omega)).trans q3, (i2 _ _ (by omega)).trans q4⟩
  | inr z =>
    obtain ⟨a, B⟩ := z
    obtain ⟨c1, c2, c3, c4, o1, o2, o3, o4, o5, o6, o7, o8, o9, o10, o11⟩ := id y1.2
    obtain ⟨rfl, rfl, hx, hy, hn⟩ := hv a B rfl
    refine ⟨(i2 _ _ (by omega)).trans c1, (i2 _ _ (by omega)).trans c2, c3, ⟨(i2 _ _ (by omega)).trans c4.1, (i2 _ _ (by omega)).trans c4.2.1, (i2 _ _ (by omega)).trans c4.2.2⟩, (i2 _ _ (by omega)).trans o1, o2, fun s hs k k1 k7 => (i2 _ _ (by omega)).trans (o3 s hs k k1 k7), fun s hs => ?_, fun j hj => (i2 _ _ (by omega)).trans (o5 j hj), (i2 _ _ (by omega)).trans o6, ?_, ?_, (i2 _ _ (by omega)).trans o9, o10, fun j hj => by rw [a2 _ (by omega) (by omega)]; exact o11 j hj⟩
    · show _ = (if s = y then (if y = x then bE B x ||| (1 <<< (nI y &&& 31)) else bE B y) ||| (1 <<< (nI x &&& 31)) else if s = x then bE B x ||| (1 <<< (nI y &&& 31)) else bE B s)
      unfold beNever
      show gA (rPut _ (b + 3) 7 (nI y) _) (b + 4) s = _
      rw [gA_put (by omega) (by decide), rAt_nI (by omega) (by decide), rAt_nI (by omega) (by decide), gA_put (by omega) (by decide), gA_put (by omega) (by decide)]
      show (if b + 4 = b + 3 + 1 ∧ s = y then (if b + 3 + 1 = b + 3 + 1 ∧ y = x then gA E (b + 4) x ||| _ else gA E (b + 4) y) ||| _ else if b + 4 = b + 3 + 1 ∧ s = x then gA E (b + 4) x ||| _ else gA E (b + 4) s) = _
      rw [o4 s hs, o4 x (by omega), o4 y (by omega)]
      simp only [true_and]
    · unfold beNever
      rw [gI_sI, if_pos ⟨rfl, rfl⟩, o7, nI_pp]; rfl
    · show bN B + 1 ≤ 6; omega
set_option maxRecDepth 20000 in
theorem rd_never {d : Nat} {E0 E : HP} {T : TX} {b : Nat} {s : PS}  (y1 : CRd E0 E T b s)  : ∃ o, (∃ E2, o = (.inl none, E2, 137) ∧ CRd E0 E2 T b (neS T s)) ∧ Cl yX5_readNever mX5_readNever (d + 7) 0 0 [.ref 41] E 137 o := by
  have hb := rd_b y1
  have hbs : sh b = (0, 0) := bo_1 (rd_bed y1)
  have hbn : b < 137 := by omega
  have hb5 : sh (b + 5) = (7, 0) := (rd_bed y1).2.2.2.2.2.2.2.2.2.1.1
  have hb5n : b + 5 < 137 := by omega
  refine Cx.of (by decide) rfl (fun q => by cases q) rfl rfl (Nat.le_of_ble_eq_true rfl) ?_
  show Sx _ _ _ _ _ 0 [some (.ref 41), none, none] [] _ _
  refine Sx.up (fun _ kk => r_aload_n 1 dX5_readNever_0 rfl rfl kk) ?_
  refine Sx.up (fun _ kk => r_getR 4 dX5_readNever_1 rfl f5_35 rfl (by first | with_reducible assumption | with_reducible exact cr_bs hC | rfl) (by first | with_reducible assumption | with_reducible exact cr_bn hC | exact Nat.le_of_ble_eq_true rfl) (rd_into y1) kk) ?_
  refine Sx.up (fun _ kk => r_getI 7 dX5_readNever_4 rfl f5_171 rfl (by first | with_reducible assumption | with_reducible exact cr_bs hC | rfl) (by first | with_reducible assumption | with_reducible exact cr_bn hC | exact Nat.le_of_ble_eq_true rfl) kk) ?_
  refine Sx.up (fun _ kk => r_bipush (6) 9 dX5_readNever_7 rfl (by decide) kk) ?_
  refine Sx.br (fun _ ka kb => r_icmp_lt 12 17 dX5_readNever_9 rfl (by decide) ka kb) (by first | exact em1 | exact em2) (fun h9 => ?_) (fun h9 => ?_)
  · have yf : CRd E0 E1 T b (neF s) := by
      first
      | (rw [nf_y y1 h9]; exact y1)
      | (rw [nf_n y1 h9]; exact y1)
    refine Sx.up (fun _ kk => r_aload_n 18 dX5_readNever_17 rfl rfl kk) ?_
    refine Sx.up (fun _ kk => r_getR 21 dX5_readNever_18 rfl f5_19 rfl (by first | with_reducible assumption | with_reducible exact cr_bs hC | rfl) (by first | with_reducible assumption | with_reducible exact cr_bn hC | exact Nat.le_of_ble_eq_true rfl) (rd_tok yf) kk) ?_
    obtain ⟨_, ⟨E2, rfl, y2⟩, hcl2⟩ := rd_adv (d := d + 1) yf
    refine Sx.up (fun _ kk => r_callV 24 dX5_readNever_21 rfl k5_131 hcl2 rfl rfl (by first | with_reducible assumption | with_reducible exact cr_bs hC | rfl) (by decide) rfl (by first | with_reducible assumption | with_reducible exact cr_bn hC | exact Nat.le_of_ble_eq_true rfl) (Nat.le_of_ble_eq_true rfl) kk) ?_
    refine Sx.up (fun _ kk => r_aload_n 25 dX5_readNever_24 rfl rfl kk) ?_
    obtain ⟨_, ⟨E3, rfl, y3⟩, hcl3⟩ := rd_un (d := d) y2
    refine Sx.up (fun _ kk => r_callV 28 dX5_readNever_25 rfl k5_174 hcl3 rfl rfl (by first | with_reducible assumption | with_reducible exact cr_bs hC | rfl) (by decide) rfl (by first | with_reducible assumption | with_reducible exact cr_bn hC | exact Nat.le_of_ble_eq_true rfl) (Nat.le_of_ble_eq_true rfl) kk) ?_
    refine Sx.up (fun _ kk => r_aload_n 29 dX5_readNever_28 rfl rfl kk) ?_
    refine Sx.up (fun _ kk => r_iconst (0) 30 dX5_readNever_29 rfl (by decide) kk) ?_
    refine Sx.up (fun _ kk => r_sipush (9999) 33 dX5_readNever_30 rfl (by decide) kk) ?_
    obtain ⟨sa, hsa⟩ : ∃ sa, unS T (advS T (neF s)) = sa := ⟨_, rfl⟩
    have yk := y3
    rw [hsa] at yk
    obtain ⟨_, ⟨E4, v4, rfl, y4, hone4⟩, hcl4⟩ := rd_take (d := d) (lo := 0) (hi := 9999) yk rfl rfl (by decide) (by decide)
    refine Sx.up (fun _ kk => r_callV 36 dX5_readNever_33 rfl k5_109 hcl4 rfl rfl (by first | with_reducible assumption | with_reducible exact cr_bs hC | rfl) (by decide) rfl (by first | with_reducible assumption | with_reducible exact cr_bn hC | exact Nat.le_of_ble_eq_true rfl) (Nat.le_of_ble_eq_true rfl) kk) ?_
    refine Sx.up (fun _ kk => r_istore_n 37 dX5_readNever_36 rfl (by decide) rfl kk) ?_
    refine Sx.up (fun _ kk => r_aload_n 38 dX5_readNever_37 rfl rfl kk) ?_
    obtain ⟨_, ⟨E5, rfl, y5⟩, hcl5⟩ := rd_un (d := d) y4
    refine Sx.up (fun _ kk => r_callV 41 dX5_readNever_38 rfl k5_174 hcl5 rfl rfl (by first | with_reducible assumption | with_reducible exact cr_bs hC | rfl) (by decide) rfl (by first | with_reducible assumption | with_reducible exact cr_bn hC | exact Nat.le_of_ble_eq_true rfl) (Nat.le_of_ble_eq_true rfl) kk) ?_
    obtain ⟨sb, hsb⟩ : ∃ sb, unS T (tkS T 0 9999 sa) = sb := ⟨_, rfl⟩
    have yb := y5
    rw [hsb] at yb
    have hone : ∀ a B, sb = .inr (a, B) → vaS T sa < bC B := by
      intro a B z
      rw [← hsb] at z
      have := one_live (T := T) (s := advS T (neF s)) (by rw [hsa]; exact (un_live z).1)
      rw [hsa] at this
      exact this
    refine Sx.up (fun _ kk => r_aload_n 42 dX5_readNever_41 rfl rfl kk) ?_
    refine Sx.up (fun _ kk => r_getR 45 dX5_readNever_42 rfl f5_19 rfl (by first | with_reducible assumption | with_reducible exact cr_bs hC | rfl) (by first | with_reducible assumption | with_reducible exact cr_bn hC | exact Nat.le_of_ble_eq_true rfl) (rd_tok yb) kk) ?_
    refine Sx.up (fun _ kk => r_iconst (0) 46 dX5_readNever_45 rfl (by decide) kk) ?_
    refine Sx.up (fun _ kk => r_aload_n 47 dX5_readNever_46 rfl rfl kk) ?_
    refine Sx.up (fun _ kk => r_getR 50 dX5_readNever_47 rfl f5_35 rfl (by first | with_reducible assumption | with_reducible exact cr_bs hC | rfl) (by first | with_reducible assumption | with_reducible exact cr_bn hC | exact Nat.le_of_ble_eq_true rfl) (rd_into yb) kk) ?_
    refine Sx.up (fun _ kk => r_getI 53 dX5_readNever_50 rfl f5_145 rfl (by first | with_reducible assumption | with_reducible exact cr_bs hC | rfl) (by first | with_reducible assumption | with_reducible exact cr_bn hC | exact Nat.le_of_ble_eq_true rfl) kk) ?_
    refine Sx.up (fun _ kk => r_iconst (1) 54 dX5_readNever_53 rfl (by decide) kk) ?_
    refine Sx.up (fun _ kk => r_isub 55 dX5_readNever_54 rfl kk) ?_
    refine Sx.up (fun _ kk => r_callV 58 dX5_readNever_55 rfl k5_134 (rd_tdw (d := d + 4) yb rfl rfl) rfl rfl (by first | with_reducible assumption | with_reducible exact cr_bs hC | rfl) (by decide) rfl (by first | with_reducible assumption | with_reducible exact cr_bn hC | exact Nat.le_of_ble_eq_true rfl) (Nat.le_of_ble_eq_true rfl) kk) ?_
    refine Sx.up (fun _ kk => r_istore_n 59 dX5_readNever_58 rfl (by decide) rfl kk) ?_
    refine Sx.up (fun _ kk => r_iload_n 60 dX5_readNever_59 rfl rfl kk) ?_
    refine Sx.br (fun _ ka kb => r_if_eq 63 97 dX5_readNever_60 rfl (by decide) ka kb) (by first | exact em1 | exact em2) (fun h60 => ?_) (fun h60 => ?_)
    · have ya : CRd E0 E5 T b (agS T (vaS T sa) sb) := by
        rw [ag_if]
        first
        | (rw [if_pos (ag_1 (bnz h60) ((e9 _ hva).mp (by rw [← hv9, ← ev]; exact h71)))]; exact yb)
        | (rw [if_pos ((ag_2 yb (bnz h60) e71 hone).mpr h89)]; exact yb)
        | (rw [if_neg (fun z => (ag_2 yb (bnz h60) e71 hone).mp z h89)]; exact yb)
        | (rw [if_neg (ag_td (bz h60))]; exact yb)
      refine Sx.up (fun _ kk => r_aload_n 98 dX5_readNever_97 rfl rfl kk) ?_
      refine Sx.up (fun _ kk => r_getR 101 dX5_readNever_98 rfl f5_35 rfl (by first | with_reducible assumption | with_reducible exact cr_bs hC | rfl) (by first | with_reducible assumption | with_reducible exact cr_bn hC | exact Nat.le_of_ble_eq_true rfl) (rd_into ya) kk) ?_
      refine Sx.up (fun _ kk => r_iload_n 102 dX5_readNever_101 rfl rfl kk) ?_
      refine Sx.up (fun _ kk => r_aload_n 103 dX5_readNever_102 rfl rfl kk) ?_
      refine Sx.up (fun _ kk => r_iconst (0) 104 dX5_readNever_103 rfl (by decide) kk) ?_
      refine Sx.up (fun _ kk => r_sipush (9999) 107 dX5_readNever_104 rfl (by decide) kk) ?_
      obtain ⟨_, ⟨E6, v6, rfl, y6, hv6⟩, hcl6⟩ := rd_take (d := d) (lo := 0) (hi := 9999) ya rfl rfl (by decide) (by decide)
      refine Sx.up (fun _ kk => r_callV 110 dX5_readNever_107 rfl k5_109 hcl6 rfl rfl (by first | with_reducible assumption | with_reducible exact cr_bs hC | rfl) (by decide) rfl (by first | with_reducible assumption | with_reducible exact cr_bn hC | exact Nat.le_of_ble_eq_true rfl) (Nat.le_of_ble_eq_true rfl) kk) ?_
      refine Sx.up (fun _ kk => r_callV 113 dX5_readNever_110 rfl k5_180 (c_X0_addNever (d := d + 5) (rd_bed y6)) rfl rfl (by first | with_reducible assumption | with_reducible exact cr_bs hC | rfl) (by decide) rfl (by first | with_reducible assumption | with_reducible exact cr_bn hC | exact Nat.le_of_ble_eq_true rfl) (Nat.le_of_ble_eq_true rfl) kk) ?_
      refine ⟨_, ?_, r_vret dX5_readNever_113 rfl rfl rfl⟩
      refine ⟨_, rfl, ?_⟩
      have hfin := rd_nev (x := vaS T sa) (y := vaS T (agS T (vaS T sa) sb)) (v := v4) (w := v6) y6 ?_
      · unfold neS
        rw [hsa, hsb]
        exact hfin
      · intro a B z
        have ew := hv6 a B z
        obtain ⟨a0, z0, -, k0, -, n0⟩ := tk_live z
        obtain ⟨z1, -⟩ := ag_live z0
        have hx9 := hone a0 B z1
        rw [← hsb] at z1
        obtain ⟨z2, z3⟩ := un_live z1
        have hy9 : vaS T (agS T (vaS T sa) sb) < bC B := by rw [z0]; exact un_lt z3 k0 n0
        obtain ⟨a1, z4, -⟩ := tk_live z2
        rw [← hsa] at z4
        obtain ⟨a2, z5⟩ := adv_live (un_live z4).1
        exact ⟨hone4 a0 B z2, ew, hx9, hy9, (nf_live z5).1⟩
    · have ev : v4 = nI (vaS T sa) := by
        have hl : ∃ a B, sb = .inr (a, B) := by
          have z := td_ki (bnz h60)
          cases hz : sb with
          | inl q => rw [hz] at z; exact absurd z (by show ¬ false = true; decide)
          | inr q => exact ⟨q.1, q.2, rfl⟩
        obtain ⟨a, B, z⟩ := hl
        rw [← hsb] at z
        exact hone4 a B (un_live z).1
      have e9 : ∀ x : Nat, x ≤ 10000 → (nI x = nI (vaS T sa) ↔ x = vaS T sa) := fun x hx => by
        obtain ⟨a, B, z⟩ : ∃ a B, sb = .inr (a, B) := by
          have z := td_ki (bnz h60)
          cases hz : sb with
          | inl q => rw [hz] at z; exact absurd z (by show ¬ false = true; decide)
          | inr q => exact ⟨q.1, q.2, rfl⟩
        have h7 := hone a B z
        have hc7 : bC B ≤ 7 := by rw [z] at yb; exact yb.2.2.2.2.2.2.1
        exact nI_eq (by omega) (by omega)
      have hva : vaS T sb ≤ 10000 := by
        have z := td_ki (bnz h60)
        cases hz : sb with
        | inl q => exact Nat.zero_le _
        | inr q => rw [hz] at z; exact num_lt (of_decide_eq_true z)
      refine Sx.up (fun _ kk => r_aload_n 64 dX5_readNever_63 rfl rfl kk) ?_
      refine Sx.up (fun _ kk => r_getR 67 dX5_readNever_64 rfl f5_19 rfl (by first | with_reducible assumption | with_reducible exact cr_bs hC | rfl) (by first | with_reducible assumption | with_reducible exact cr_bn hC | exact Nat.le_of_ble_eq_true rfl) (rd_tok yb) kk) ?_
      obtain ⟨v9, hv9, hnu⟩ := rd_num (d := d + 5) yb
      have hv9 := hv9 (td_ki (bnz h60))
      refine Sx.up (fun _ kk => r_callV 70 dX5_readNever_67 rfl k5_138 hnu rfl rfl (by first | with_reducible assumption | with_reducible exact cr_bs hC | rfl) (by decide) rfl (by first | with_reducible assumption | with_reducible exact cr_bn hC | exact Nat.le_of_ble_eq_true rfl) (Nat.le_of_ble_eq_true rfl) kk) ?_
      refine Sx.up (fun _ kk => r_iload_n 71 dX5_readNever_70 rfl rfl kk) ?_
      refine Sx.br (fun _ ka kb => r_icmp_eq 74 92 dX5_readNever_71 rfl (by decide) ka kb) (by first | exact em1 | exact em2) (fun h71 => ?_) (fun h71 => ?_)
      · refine Sx.up (fun _ kk => r_aload_n 93 dX5_readNever_92 rfl rfl kk) ?_
        refine Sx.up (fun _ kk => r_iconst (4) 94 dX5_readNever_93 rfl (by decide) kk) ?_
        obtain ⟨_, ⟨E7, rfl, y7⟩, hcl7⟩ := rd_refuse (d := d + 5) yb (k := 4) (k9 := 4) rfl (by decide) (by decide)
        refine Sx.up (fun _ kk => r_callV 97 dX5_readNever_94 rfl k5_128 hcl7 rfl rfl (by first | with_reducible assumption | with_reducible exact cr_bs hC | rfl) (by decide) rfl (by first | with_reducible assumption | with_reducible exact cr_bn hC | exact Nat.le_of_ble_eq_true rfl) (Nat.le_of_ble_eq_true rfl) kk) ?_
        have ya : CRd E0 E7 T b (agS T (vaS T sa) sb) := by
          rw [ag_if]
          first
          | (rw [if_pos (ag_1 (bnz h60) ((e9 _ hva).mp (by rw [← hv9, ← ev]; exact h71)))]; exact y7)
          | (rw [if_pos ((ag_2 yb (bnz h60) e71 hone).mpr h89)]; exact y7)
          | (rw [if_neg (fun z => (ag_2 yb (bnz h60) e71 hone).mp z h89)]; exact y7)
          | (rw [if_neg (ag_td (bz h60))]; exact y7)
        refine Sx.up (fun _ kk => r_aload_n 98 dX5_readNever_97 rfl rfl kk) ?_
        refine Sx.up (fun _ kk => r_getR 101 dX5_readNever_98 rfl f5_35 rfl (by first | with_reducible assumption | with_reducible exact cr_bs hC | rfl) (by first | with_reducible assumption | with_reducible exact cr_bn hC | exact Nat.le_of_ble_eq_true rfl) (rd_into ya) kk) ?_
        refine Sx.up (fun _ kk => r_iload_n 102 dX5_readNever_101 rfl rfl kk) ?_
        refine Sx.up (fun _ kk => r_aload_n 103 dX5_readNever_102 rfl rfl kk) ?_
        refine Sx.up (fun _ kk => r_iconst (0) 104 dX5_readNever_103 rfl (by decide) kk) ?_
        refine Sx.up (fun _ kk => r_sipush (9999) 107 dX5_readNever_104 rfl (by decide) kk) ?_
        obtain ⟨_, ⟨E8, v8, rfl, y8, hv8⟩, hcl8⟩ := rd_take (d := d) (lo := 0) (hi := 9999) ya rfl rfl (by decide) (by decide)
        refine Sx.up (fun _ kk => r_callV 110 dX5_readNever_107 rfl k5_109 hcl8 rfl rfl (by first | with_reducible assumption | with_reducible exact cr_bs hC | rfl) (by decide) rfl (by first | with_reducible assumption | with_reducible exact cr_bn hC | exact Nat.le_of_ble_eq_true rfl) (Nat.le_of_ble_eq_true rfl) kk) ?_
        refine Sx.up (fun _ kk => r_callV 113 dX5_readNever_110 rfl k5_180 (c_X0_addNever (d := d + 5) (rd_bed y8)) rfl rfl (by first | with_reducible assumption | with_reducible exact cr_bs hC | rfl) (by decide) rfl (by first | with_reducible assumption | with_reducible exact cr_bn hC | exact Nat.le_of_ble_eq_true rfl) (Nat.le_of_ble_eq_true rfl) kk) ?_
        refine ⟨_, ?_, r_vret dX5_readNever_113 rfl rfl rfl⟩
        refine ⟨_, rfl, ?_⟩
        have hfin := rd_nev (x := vaS T sa) (y := vaS T (agS T (vaS T sa) sb)) (v := v4) (w := v8) y8 ?_
        · unfold neS
          rw [hsa, hsb]
          exact hfin
        · intro a B z
          have ew := hv8 a B z
          obtain ⟨a0, z0, -, k0, -, n0⟩ := tk_live z
          obtain ⟨z1, -⟩ := ag_live z0
          have hx9 := hone a0 B z1
          rw [← hsb] at z1
          obtain ⟨z2, z3⟩ := un_live z1
          have hy9 : vaS T (agS T (vaS T sa) sb) < bC B := by rw [z0]; exact un_lt z3 k0 n0
          obtain ⟨a1, z4, -⟩ := tk_live z2
          rw [← hsa] at z4
          obtain ⟨a2, z5⟩ := adv_live (un_live z4).1
          exact ⟨hone4 a0 B z2, ew, hx9, hy9, (nf_live z5).1⟩
      · refine Sx.up (fun _ kk => r_aload_n 75 dX5_readNever_74 rfl rfl kk) ?_
        refine Sx.up (fun _ kk => r_getR 78 dX5_readNever_75 rfl f5_35 rfl (by first | with_reducible assumption | with_reducible exact cr_bs hC | rfl) (by first | with_reducible assumption | with_reducible exact cr_bn hC | exact Nat.le_of_ble_eq_true rfl) (rd_into yb) kk) ?_
        refine Sx.up (fun _ kk => r_iload_n 79 dX5_readNever_78 rfl rfl kk) ?_
        refine Sx.up (fun _ kk => r_aload_n 80 dX5_readNever_79 rfl rfl kk) ?_
        refine Sx.up (fun _ kk => r_getR 83 dX5_readNever_80 rfl f5_19 rfl (by first | with_reducible assumption | with_reducible exact cr_bs hC | rfl) (by first | with_reducible assumption | with_reducible exact cr_bn hC | exact Nat.le_of_ble_eq_true rfl) (rd_tok yb) kk) ?_
        have e71 : ¬ vaS T sb = vaS T sa := fun z => h71 (by rw [hv9, ev, z])
        refine Sx.up (fun _ kk => r_callV 86 dX5_readNever_83 rfl k5_138 hnu rfl rfl (by first | with_reducible assumption | with_reducible exact cr_bs hC | rfl) (by decide) rfl (by first | with_reducible assumption | with_reducible exact cr_bn hC | exact Nat.le_of_ble_eq_true rfl) (Nat.le_of_ble_eq_true rfl) kk) ?_
        have hnv := c_X0_isNever (d := d + 5) (x := v4) (y := v9) (rd_bed yb)
        rw [ev, hv9] at hnv
        refine Sx.up (fun _ kk => r_callV 89 dX5_readNever_86 rfl k5_177 (by rw [ev, hv9]; exact hnv) rfl rfl (by first | with_reducible assumption | with_reducible exact cr_bs hC | rfl) (by decide) rfl (by first | with_reducible assumption | with_reducible exact cr_bn hC | exact Nat.le_of_ble_eq_true rfl) (Nat.le_of_ble_eq_true rfl) kk) ?_
        refine Sx.br (fun _ ka kb => r_if_eq 92 97 dX5_readNever_89 rfl (by decide) ka kb) (by first | exact em1 | exact em2) (fun h89 => ?_) (fun h89 => ?_)
        · have ya : CRd E0 E8 T b (agS T (vaS T sa) sb) := by
            rw [ag_if]
            first
            | (rw [if_pos (ag_1 (bnz h60) ((e9 _ hva).mp (by rw [← hv9, ← ev]; exact h71)))]; exact yb)
            | (rw [if_pos ((ag_2 yb (bnz h60) e71 hone).mpr h89)]; exact yb)
            | (rw [if_neg (fun z => (ag_2 yb (bnz h60) e71 hone).mp z h89)]; exact yb)
            | (rw [if_neg (ag_td (bz h60))]; exact yb)
          refine Sx.up (fun _ kk => r_aload_n 98 dX5_readNever_97 rfl rfl kk) ?_
          refine Sx.up (fun _ kk => r_getR 101 dX5_readNever_98 rfl f5_35 rfl (by first | with_reducible assumption | with_reducible exact cr_bs hC | rfl) (by first | with_reducible assumption | with_reducible exact cr_bn hC | exact Nat.le_of_ble_eq_true rfl) (rd_into ya) kk) ?_
          refine Sx.up (fun _ kk => r_iload_n 102 dX5_readNever_101 rfl rfl kk) ?_
          refine Sx.up (fun _ kk => r_aload_n 103 dX5_readNever_102 rfl rfl kk) ?_
          refine Sx.up (fun _ kk => r_iconst (0) 104 dX5_readNever_103 rfl (by decide) kk) ?_
          refine Sx.up (fun _ kk => r_sipush (9999) 107 dX5_readNever_104 rfl (by decide) kk) ?_
          obtain ⟨_, ⟨E9, v9, rfl, y9, hv9⟩, hcl9⟩ := rd_take (d := d) (lo := 0) (hi := 9999) ya rfl rfl (by decide) (by decide)
          refine Sx.up (fun _ kk => r_callV 110 dX5_readNever_107 rfl k5_109 hcl9 rfl rfl (by first | with_reducible assumption | with_reducible exact cr_bs hC | rfl) (by decide) rfl (by first | with_reducible assumption | with_reducible exact cr_bn hC | exact Nat.le_of_ble_eq_true rfl) (Nat.le_of_ble_eq_true rfl) kk) ?_
          refine Sx.up (fun _ kk => r_callV 113 dX5_readNever_110 rfl k5_180 (c_X0_addNever (d := d + 5) (rd_bed y9)) rfl rfl (by first | with_reducible assumption | with_reducible exact cr_bs hC | rfl) (by decide) rfl (by first | with_reducible assumption | with_reducible exact cr_bn hC | exact Nat.le_of_ble_eq_true rfl) (Nat.le_of_ble_eq_true rfl) kk) ?_
          refine ⟨_, ?_, r_vret dX5_readNever_113 rfl rfl rfl⟩
          refine ⟨_, rfl, ?_⟩
          have hfin := rd_nev (x := vaS T sa) (y := vaS T (agS T (vaS T sa) sb)) (v := v4) (w := v9) y9 ?_
          · unfold neS
            rw [hsa, hsb]
            exact hfin
          · intro a B z
            have ew := hv9 a B z
            obtain ⟨a0, z0, -, k0, -, n0⟩ := tk_live z
            obtain ⟨z1, -⟩ := ag_live z0
            have hx9 := hone a0 B z1
            rw [← hsb] at z1
            obtain ⟨z2, z3⟩ := un_live z1
            have hy9 : vaS T (agS T (vaS T sa) sb) < bC B := by rw [z0]; exact un_lt z3 k0 n0
            obtain ⟨a1, z4, -⟩ := tk_live z2
            rw [← hsa] at z4
            obtain ⟨a2, z5⟩ := adv_live (un_live z4).1
            exact ⟨hone4 a0 B z2, ew, hx9, hy9, (nf_live z5).1⟩
        · refine Sx.up (fun _ kk => r_aload_n 93 dX5_readNever_92 rfl rfl kk) ?_
          refine Sx.up (fun _ kk => r_iconst (4) 94 dX5_readNever_93 rfl (by decide) kk) ?_
          obtain ⟨_, ⟨E10, rfl, y10⟩, hcl10⟩ := rd_refuse (d := d + 5) yb (k := 4) (k9 := 4) rfl (by decide) (by decide)
          refine Sx.up (fun _ kk => r_callV 97 dX5_readNever_94 rfl k5_128 hcl10 rfl rfl (by first | with_reducible assumption | with_reducible exact cr_bs hC | rfl) (by decide) rfl (by first | with_reducible assumption | with_reducible exact cr_bn hC | exact Nat.le_of_ble_eq_true rfl) (Nat.le_of_ble_eq_true rfl) kk) ?_
          have ya : CRd E0 E10 T b (agS T (vaS T sa) sb) := by
            rw [ag_if]
            first
            | (rw [if_pos (ag_1 (bnz h60) ((e9 _ hva).mp (by rw [← hv9, ← ev]; exact h71)))]; exact y10)
            | (rw [if_pos ((ag_2 yb (bnz h60) e71 hone).mpr h89)]; exact y10)
            | (rw [if_neg (fun z => (ag_2 yb (bnz h60) e71 hone).mp z h89)]; exact y10)
            | (rw [if_neg (ag_td (bz h60))]; exact y10)
          refine Sx.up (fun _ kk => r_aload_n 98 dX5_readNever_97 rfl rfl kk) ?_
          refine Sx.up (fun _ kk => r_getR 101 dX5_readNever_98 rfl f5_35 rfl (by first | with_reducible assumption | with_reducible exact cr_bs hC | rfl) (by first | with_reducible assumption | with_reducible exact cr_bn hC | exact Nat.le_of_ble_eq_true rfl) (rd_into ya) kk) ?_
          refine Sx.up (fun _ kk => r_iload_n 102 dX5_readNever_101 rfl rfl kk) ?_
          refine Sx.up (fun _ kk => r_aload_n 103 dX5_readNever_102 rfl rfl kk) ?_
          refine Sx.up (fun _ kk => r_iconst (0) 104 dX5_readNever_103 rfl (by decide) kk) ?_
          refine Sx.up (fun _ kk => r_sipush (9999) 107 dX5_readNever_104 rfl (by decide) kk) ?_
          obtain ⟨_, ⟨E11, v11, rfl, y11, hv11⟩, hcl11⟩ := rd_take (d := d) (lo := 0) (hi := 9999) ya rfl rfl (by decide) (by decide)
          refine Sx.up (fun _ kk => r_callV 110 dX5_readNever_107 rfl k5_109 hcl11 rfl rfl (by first | with_reducible assumption | with_reducible exact cr_bs hC | rfl) (by decide) rfl (by first | with_reducible assumption | with_reducible exact cr_bn hC | exact Nat.le_of_ble_eq_true rfl) (Nat.le_of_ble_eq_true rfl) kk) ?_
          refine Sx.up (fun _ kk => r_callV 113 dX5_readNever_110 rfl k5_180 (c_X0_addNever (d := d + 5) (rd_bed y11)) rfl rfl (by first | with_reducible assumption | with_reducible exact cr_bs hC | rfl) (by decide) rfl (by first | with_reducible assumption | with_reducible exact cr_bn hC | exact Nat.le_of_ble_eq_true rfl) (Nat.le_of_ble_eq_true rfl) kk) ?_
          refine ⟨_, ?_, r_vret dX5_readNever_113 rfl rfl rfl⟩
          refine ⟨_, rfl, ?_⟩
          have hfin := rd_nev (x := vaS T sa) (y := vaS T (agS T (vaS T sa) sb)) (v := v4) (w := v11) y11 ?_
          · unfold neS
            rw [hsa, hsb]
            exact hfin
          · intro a B z
            have ew := hv11 a B z
            obtain ⟨a0, z0, -, k0, -, n0⟩ := tk_live z
            obtain ⟨z1, -⟩ := ag_live z0
            have hx9 := hone a0 B z1
            rw [← hsb] at z1
            obtain ⟨z2, z3⟩ := un_live z1
            have hy9 : vaS T (agS T (vaS T sa) sb) < bC B := by rw [z0]; exact un_lt z3 k0 n0
            obtain ⟨a1, z4, -⟩ := tk_live z2
            rw [← hsa] at z4
            obtain ⟨a2, z5⟩ := adv_live (un_live z4).1
            exact ⟨hone4 a0 B z2, ew, hx9, hy9, (nf_live z5).1⟩
  · refine Sx.up (fun _ kk => r_aload_n 13 dX5_readNever_12 rfl rfl kk) ?_
    refine Sx.up (fun _ kk => r_iconst (2) 14 dX5_readNever_13 rfl (by decide) kk) ?_
    obtain ⟨_, ⟨E12, rfl, y12⟩, hcl12⟩ := rd_refuse (d := d + 5) y1 (k := 2) (k9 := 2) rfl (by decide) (by decide)
    refine Sx.up (fun _ kk => r_callV 17 dX5_readNever_14 rfl k5_128 hcl12 rfl rfl (by first | with_reducible assumption | with_reducible exact cr_bs hC | rfl) (by decide) rfl (by first | with_reducible assumption | with_reducible exact cr_bn hC | exact Nat.le_of_ble_eq_true rfl) (Nat.le_of_ble_eq_true rfl) kk) ?_
    have yf : CRd E0 E12 T b (neF s) := by
      first
      | (rw [nf_y y1 h9]; exact y12)
      | (rw [nf_n y1 h9]; exact y12)
    refine Sx.up (fun _ kk => r_aload_n 18 dX5_readNever_17 rfl rfl kk) ?_
    refine Sx.up (fun _ kk => r_getR 21 dX5_readNever_18 rfl f5_19 rfl (by first | with_reducible assumption | with_reducible exact cr_bs hC | rfl) (by first | with_reducible assumption | with_reducible exact cr_bn hC | exact Nat.le_of_ble_eq_true rfl) (rd_tok yf) kk) ?_
    obtain ⟨_, ⟨E13, rfl, y13⟩, hcl13⟩ := rd_adv (d := d + 1) yf
    refine Sx.up (fun _ kk => r_callV 24 dX5_readNever_21 rfl k5_131 hcl13 rfl rfl (by first | with_reducible assumption | with_reducible exact cr_bs hC | rfl) (by decide) rfl (by first | with_reducible assumption | with_reducible exact cr_bn hC | exact Nat.le_of_ble_eq_true rfl) (Nat.le_of_ble_eq_true rfl) kk) ?_
    refine Sx.up (fun _ kk => r_aload_n 25 dX5_readNever_24 rfl rfl kk) ?_
    obtain ⟨_, ⟨E14, rfl, y14⟩, hcl14⟩ := rd_un (d := d) y13
    refine Sx.up (fun _ kk => r_callV 28 dX5_readNever_25 rfl k5_174 hcl14 rfl rfl (by first | with_reducible assumption | with_reducible exact cr_bs hC | rfl) (by decide) rfl (by first | with_reducible assumption | with_reducible exact cr_bn hC | exact Nat.le_of_ble_eq_true rfl) (Nat.le_of_ble_eq_true rfl) kk) ?_
    refine Sx.up (fun _ kk => r_aload_n 29 dX5_readNever_28 rfl rfl kk) ?_
    refine Sx.up (fun _ kk => r_iconst (0) 30 dX5_readNever_29 rfl (by decide) kk) ?_
    refine Sx.up (fun _ kk => r_sipush (9999) 33 dX5_readNever_30 rfl (by decide) kk) ?_
    obtain ⟨sa, hsa⟩ : ∃ sa, unS T (advS T (neF s)) = sa := ⟨_, rfl⟩
    have yk := y14
    rw [hsa] at yk
    obtain ⟨_, ⟨E15, v15, rfl, y15, hone15⟩, hcl15⟩ := rd_take (d := d) (lo := 0) (hi := 9999) yk rfl rfl (by decide) (by decide)
    refine Sx.up (fun _ kk => r_callV 36 dX5_readNever_33 rfl k5_109 hcl15 rfl rfl (by first | with_reducible assumption | with_reducible exact cr_bs hC | rfl) (by decide) rfl (by first | with_reducible assumption | with_reducible exact cr_bn hC | exact Nat.le_of_ble_eq_true rfl) (Nat.le_of_ble_eq_true rfl) kk) ?_
    refine Sx.up (fun _ kk => r_istore_n 37 dX5_readNever_36 rfl (by decide) rfl kk) ?_
    refine Sx.up (fun _ kk => r_aload_n 38 dX5_readNever_37 rfl rfl kk) ?_
    obtain ⟨_, ⟨E16, rfl, y16⟩, hcl16⟩ := rd_un (d := d) y15
    refine Sx.up (fun _ kk => r_callV 41 dX5_readNever_38 rfl k5_174 hcl16 rfl rfl (by first | with_reducible assumption | with_reducible exact cr_bs hC | rfl) (by decide) rfl (by first | with_reducible assumption | with_reducible exact cr_bn hC | exact Nat.le_of_ble_eq_true rfl) (Nat.le_of_ble_eq_true rfl) kk) ?_
    obtain ⟨sb, hsb⟩ : ∃ sb, unS T (tkS T 0 9999 sa) = sb := ⟨_, rfl⟩
    have yb := y16
    rw [hsb] at yb
    have hone : ∀ a B, sb = .inr (a, B) → vaS T sa < bC B := by
      intro a B z
      rw [← hsb] at z
      have := one_live (T := T) (s := advS T (neF s)) (by rw [hsa]; exact (un_live z).1)
      rw [hsa] at this
      exact this
    refine Sx.up (fun _ kk => r_aload_n 42 dX5_readNever_41 rfl rfl kk) ?_
    refine Sx.up (fun _ kk => r_getR 45 dX5_readNever_42 rfl f5_19 rfl (by first | with_reducible assumption | with_reducible exact cr_bs hC | rfl) (by first | with_reducible assumption | with_reducible exact cr_bn hC | exact Nat.le_of_ble_eq_true rfl) (rd_tok yb) kk) ?_
    refine Sx.up (fun _ kk => r_iconst (0) 46 dX5_readNever_45 rfl (by decide) kk) ?_
    refine Sx.up (fun _ kk => r_aload_n 47 dX5_readNever_46 rfl rfl kk) ?_
    refine Sx.up (fun _ kk => r_getR 50 dX5_readNever_47 rfl f5_35 rfl (by first | with_reducible assumption | with_reducible exact cr_bs hC | rfl) (by first | with_reducible assumption | with_reducible exact cr_bn hC | exact Nat.le_of_ble_eq_true rfl) (rd_into yb) kk) ?_
    refine Sx.up (fun _ kk => r_getI 53 dX5_readNever_50 rfl f5_145 rfl (by first | with_reducible assumption | with_reducible exact cr_bs hC | rfl) (by first | with_reducible assumption | with_reducible exact cr_bn hC | exact Nat.le_of_ble_eq_true rfl) kk) ?_
    refine Sx.up (fun _ kk => r_iconst (1) 54 dX5_readNever_53 rfl (by decide) kk) ?_
    refine Sx.up (fun _ kk => r_isub 55 dX5_readNever_54 rfl kk) ?_
    refine Sx.up (fun _ kk => r_callV 58 dX5_readNever_55 rfl k5_134 (rd_tdw (d := d + 4) yb rfl rfl) rfl rfl (by first | with_reducible assumption | with_reducible exact cr_bs hC | rfl) (by decide) rfl (by first | with_reducible assumption | with_reducible exact cr_bn hC | exact Nat.le_of_ble_eq_true rfl) (Nat.le_of_ble_eq_true rfl) kk) ?_
    refine Sx.up (fun _ kk => r_istore_n 59 dX5_readNever_58 rfl (by decide) rfl kk) ?_
    refine Sx.up (fun _ kk => r_iload_n 60 dX5_readNever_59 rfl rfl kk) ?_
    refine Sx.br (fun _ ka kb => r_if_eq 63 97 dX5_readNever_60 rfl (by decide) ka kb) (by first | exact em1 | exact em2) (fun h60 => ?_) (fun h60 => ?_)
    · have ya : CRd E0 E16 T b (agS T (vaS T sa) sb) := by
        rw [ag_if]
        first
        | (rw [if_pos (ag_1 (bnz h60) ((e9 _ hva).mp (by rw [← hv9, ← ev]; exact h71)))]; exact yb)
        | (rw [if_pos ((ag_2 yb (bnz h60) e71 hone).mpr h89)]; exact yb)
        | (rw [if_neg (fun z => (ag_2 yb (bnz h60) e71 hone).mp z h89)]; exact yb)
        | (rw [if_neg (ag_td (bz h60))]; exact yb)
      refine Sx.up (fun _ kk => r_aload_n 98 dX5_readNever_97 rfl rfl kk) ?_
      refine Sx.up (fun _ kk => r_getR 101 dX5_readNever_98 rfl f5_35 rfl (by first | with_reducible assumption | with_reducible exact cr_bs hC | rfl) (by first | with_reducible assumption | with_reducible exact cr_bn hC | exact Nat.le_of_ble_eq_true rfl) (rd_into ya) kk) ?_
      refine Sx.up (fun _ kk => r_iload_n 102 dX5_readNever_101 rfl rfl kk) ?_
      refine Sx.up (fun _ kk => r_aload_n 103 dX5_readNever_102 rfl rfl kk) ?_
      refine Sx.up (fun _ kk => r_iconst (0) 104 dX5_readNever_103 rfl (by decide) kk) ?_
      refine Sx.up (fun _ kk => r_sipush (9999) 107 dX5_readNever_104 rfl (by decide) kk) ?_
      obtain ⟨_, ⟨E17, v17, rfl, y17, hv17⟩, hcl17⟩ := rd_take (d := d) (lo := 0) (hi := 9999) ya rfl rfl (by decide) (by decide)
      refine Sx.up (fun _ kk => r_callV 110 dX5_readNever_107 rfl k5_109 hcl17 rfl rfl (by first | with_reducible assumption | with_reducible exact cr_bs hC | rfl) (by decide) rfl (by first | with_reducible assumption | with_reducible exact cr_bn hC | exact Nat.le_of_ble_eq_true rfl) (Nat.le_of_ble_eq_true rfl) kk) ?_
      refine Sx.up (fun _ kk => r_callV 113 dX5_readNever_110 rfl k5_180 (c_X0_addNever (d := d + 5) (rd_bed y17)) rfl rfl (by first | with_reducible assumption | with_reducible exact cr_bs hC | rfl) (by decide) rfl (by first | with_reducible assumption | with_reducible exact cr_bn hC | exact Nat.le_of_ble_eq_true rfl) (Nat.le_of_ble_eq_true rfl) kk) ?_
      refine ⟨_, ?_, r_vret dX5_readNever_113 rfl rfl rfl⟩
      refine ⟨_, rfl, ?_⟩
      have hfin := rd_nev (x := vaS T sa) (y := vaS T (agS T (vaS T sa) sb)) (v := v15) (w := v17) y17 ?_
      · unfold neS
        rw [hsa, hsb]
        exact hfin
      · intro a B z
        have ew := hv17 a B z
        obtain ⟨a0, z0, -, k0, -, n0⟩ := tk_live z
        obtain ⟨z1, -⟩ := ag_live z0
        have hx9 := hone a0 B z1
        rw [← hsb] at z1
        obtain ⟨z2, z3⟩ := un_live z1
        have hy9 : vaS T (agS T (vaS T sa) sb) < bC B := by rw [z0]; exact un_lt z3 k0 n0
        obtain ⟨a1, z4, -⟩ := tk_live z2
        rw [← hsa] at z4
        obtain ⟨a2, z5⟩ := adv_live (un_live z4).1
        exact ⟨hone15 a0 B z2, ew, hx9, hy9, (nf_live z5).1⟩
    · have ev : v15 = nI (vaS T sa) := by
        have hl : ∃ a B, sb = .inr (a, B) := by
          have z := td_ki (bnz h60)
          cases hz : sb with
          | inl q => rw [hz] at z; exact absurd z (by show ¬ false = true; decide)
          | inr q => exact ⟨q.1, q.2, rfl⟩
        obtain ⟨a, B, z⟩ := hl
        rw [← hsb] at z
        exact hone15 a B (un_live z).1
      have e9 : ∀ x : Nat, x ≤ 10000 → (nI x = nI (vaS T sa) ↔ x = vaS T sa) := fun x hx => by
        obtain ⟨a, B, z⟩ : ∃ a B, sb = .inr (a, B) := by
          have z := td_ki (bnz h60)
          cases hz : sb with
          | inl q => rw [hz] at z; exact absurd z (by show ¬ false = true; decide)
          | inr q => exact ⟨q.1, q.2, rfl⟩
        have h7 := hone a B z
        have hc7 : bC B ≤ 7 := by rw [z] at yb; exact yb.2.2.2.2.2.2.1
        exact nI_eq (by omega) (by omega)
      have hva : vaS T sb ≤ 10000 := by
        have z := td_ki (bnz h60)
        cases hz : sb with
        | inl q => exact Nat.zero_le _
        | inr q => rw [hz] at z; exact num_lt (of_decide_eq_true z)
      refine Sx.up (fun _ kk => r_aload_n 64 dX5_readNever_63 rfl rfl kk) ?_
      refine Sx.up (fun _ kk => r_getR 67 dX5_readNever_64 rfl f5_19 rfl (by first | with_reducible assumption | with_reducible exact cr_bs hC | rfl) (by first | with_reducible assumption | with_reducible exact cr_bn hC | exact Nat.le_of_ble_eq_true rfl) (rd_tok yb) kk) ?_
      obtain ⟨v9, hv9, hnu⟩ := rd_num (d := d + 5) yb
      have hv9 := hv9 (td_ki (bnz h60))
      refine Sx.up (fun _ kk => r_callV 70 dX5_readNever_67 rfl k5_138 hnu rfl rfl (by first | with_reducible assumption | with_reducible exact cr_bs hC | rfl) (by decide) rfl (by first | with_reducible assumption | with_reducible exact cr_bn hC | exact Nat.le_of_ble_eq_true rfl) (Nat.le_of_ble_eq_true rfl) kk) ?_
      refine Sx.up (fun _ kk => r_iload_n 71 dX5_readNever_70 rfl rfl kk) ?_
      refine Sx.br (fun _ ka kb => r_icmp_eq 74 92 dX5_readNever_71 rfl (by decide) ka kb) (by first | exact em1 | exact em2) (fun h71 => ?_) (fun h71 => ?_)
      · refine Sx.up (fun _ kk => r_aload_n 93 dX5_readNever_92 rfl rfl kk) ?_
        refine Sx.up (fun _ kk => r_iconst (4) 94 dX5_readNever_93 rfl (by decide) kk) ?_
        obtain ⟨_, ⟨E18, rfl, y18⟩, hcl18⟩ := rd_refuse (d := d + 5) yb (k := 4) (k9 := 4) rfl (by decide) (by decide)
        refine Sx.up (fun _ kk => r_callV 97 dX5_readNever_94 rfl k5_128 hcl18 rfl rfl (by first | with_reducible assumption | with_reducible exact cr_bs hC | rfl) (by decide) rfl (by first | with_reducible assumption | with_reducible exact cr_bn hC | exact Nat.le_of_ble_eq_true rfl) (Nat.le_of_ble_eq_true rfl) kk) ?_
        have ya : CRd E0 E18 T b (agS T (vaS T sa) sb) := by
          rw [ag_if]
          first
          | (rw [if_pos (ag_1 (bnz h60) ((e9 _ hva).mp (by rw [← hv9, ← ev]; exact h71)))]; exact y18)
          | (rw [if_pos ((ag_2 yb (bnz h60) e71 hone).mpr h89)]; exact y18)
          | (rw [if_neg (fun z => (ag_2 yb (bnz h60) e71 hone).mp z h89)]; exact y18)
          | (rw [if_neg (ag_td (bz h60))]; exact y18)
        refine Sx.up (fun _ kk => r_aload_n 98 dX5_readNever_97 rfl rfl kk) ?_
        refine Sx.up (fun _ kk => r_getR 101 dX5_readNever_98 rfl f5_35 rfl (by first | with_reducible assumption | with_reducible exact cr_bs hC | rfl) (by first | with_reducible assumption | with_reducible exact cr_bn hC | exact Nat.le_of_ble_eq_true rfl) (rd_into ya) kk) ?_
        refine Sx.up (fun _ kk => r_iload_n 102 dX5_readNever_101 rfl rfl kk) ?_
        refine Sx.up (fun _ kk => r_aload_n 103 dX5_readNever_102 rfl rfl kk) ?_
        refine Sx.up (fun _ kk => r_iconst (0) 104 dX5_readNever_103 rfl (by decide) kk) ?_
        refine Sx.up (fun _ kk => r_sipush (9999) 107 dX5_readNever_104 rfl (by decide) kk) ?_
        obtain ⟨_, ⟨E19, v19, rfl, y19, hv19⟩, hcl19⟩ := rd_take (d := d) (lo := 0) (hi := 9999) ya rfl rfl (by decide) (by decide)
        refine Sx.up (fun _ kk => r_callV 110 dX5_readNever_107 rfl k5_109 hcl19 rfl rfl (by first | with_reducible assumption | with_reducible exact cr_bs hC | rfl) (by decide) rfl (by first | with_reducible assumption | with_reducible exact cr_bn hC | exact Nat.le_of_ble_eq_true rfl) (Nat.le_of_ble_eq_true rfl) kk) ?_
        refine Sx.up (fun _ kk => r_callV 113 dX5_readNever_110 rfl k5_180 (c_X0_addNever (d := d + 5) (rd_bed y19)) rfl rfl (by first | with_reducible assumption | with_reducible exact cr_bs hC | rfl) (by decide) rfl (by first | with_reducible assumption | with_reducible exact cr_bn hC | exact Nat.le_of_ble_eq_true rfl) (Nat.le_of_ble_eq_true rfl) kk) ?_
        refine ⟨_, ?_, r_vret dX5_readNever_113 rfl rfl rfl⟩
        refine ⟨_, rfl, ?_⟩
        have hfin := rd_nev (x := vaS T sa) (y := vaS T (agS T (vaS T sa) sb)) (v := v15) (w := v19) y19 ?_
        · unfold neS
          rw [hsa, hsb]
          exact hfin
        · intro a B z
          have ew := hv19 a B z
          obtain ⟨a0, z0, -, k0, -, n0⟩ := tk_live z
          obtain ⟨z1, -⟩ := ag_live z0
          have hx9 := hone a0 B z1
          rw [← hsb] at z1
          obtain ⟨z2, z3⟩ := un_live z1
          have hy9 : vaS T (agS T (vaS T sa) sb) < bC B := by rw [z0]; exact un_lt z3 k0 n0
          obtain ⟨a1, z4, -⟩ := tk_live z2
          rw [← hsa] at z4
          obtain ⟨a2, z5⟩ := adv_live (un_live z4).1
          exact ⟨hone15 a0 B z2, ew, hx9, hy9, (nf_live z5).1⟩
      · refine Sx.up (fun _ kk => r_aload_n 75 dX5_readNever_74 rfl rfl kk) ?_
        refine Sx.up (fun _ kk => r_getR 78 dX5_readNever_75 rfl f5_35 rfl (by first | with_reducible assumption | with_reducible exact cr_bs hC | rfl) (by first | with_reducible assumption | with_reducible exact cr_bn hC | exact Nat.le_of_ble_eq_true rfl) (rd_into yb) kk) ?_
        refine Sx.up (fun _ kk => r_iload_n 79 dX5_readNever_78 rfl rfl kk) ?_
        refine Sx.up (fun _ kk => r_aload_n 80 dX5_readNever_79 rfl rfl kk) ?_
        refine Sx.up (fun _ kk => r_getR 83 dX5_readNever_80 rfl f5_19 rfl (by first | with_reducible assumption | with_reducible exact cr_bs hC | rfl) (by first | with_reducible assumption | with_reducible exact cr_bn hC | exact Nat.le_of_ble_eq_true rfl) (rd_tok yb) kk) ?_
        have e71 : ¬ vaS T sb = vaS T sa := fun z => h71 (by rw [hv9, ev, z])
        refine Sx.up (fun _ kk => r_callV 86 dX5_readNever_83 rfl k5_138 hnu rfl rfl (by first | with_reducible assumption | with_reducible exact cr_bs hC | rfl) (by decide) rfl (by first | with_reducible assumption | with_reducible exact cr_bn hC | exact Nat.le_of_ble_eq_true rfl) (Nat.le_of_ble_eq_true rfl) kk) ?_
        have hnv := c_X0_isNever (d := d + 5) (x := v15) (y := v9) (rd_bed yb)
        rw [ev, hv9] at hnv
        refine Sx.up (fun _ kk => r_callV 89 dX5_readNever_86 rfl k5_177 (by rw [ev, hv9]; exact hnv) rfl rfl (by first | with_reducible assumption | with_reducible exact cr_bs hC | rfl) (by decide) rfl (by first | with_reducible assumption | with_reducible exact cr_bn hC | exact Nat.le_of_ble_eq_true rfl) (Nat.le_of_ble_eq_true rfl) kk) ?_
        refine Sx.br (fun _ ka kb => r_if_eq 92 97 dX5_readNever_89 rfl (by decide) ka kb) (by first | exact em1 | exact em2) (fun h89 => ?_) (fun h89 => ?_)
        · have ya : CRd E0 E19 T b (agS T (vaS T sa) sb) := by
            rw [ag_if]
            first
            | (rw [if_pos (ag_1 (bnz h60) ((e9 _ hva).mp (by rw [← hv9, ← ev]; exact h71)))]; exact yb)
            | (rw [if_pos ((ag_2 yb (bnz h60) e71 hone).mpr h89)]; exact yb)
            | (rw [if_neg (fun z => (ag_2 yb (bnz h60) e71 hone).mp z h89)]; exact yb)
            | (rw [if_neg (ag_td (bz h60))]; exact yb)
          refine Sx.up (fun _ kk => r_aload_n 98 dX5_readNever_97 rfl rfl kk) ?_
          refine Sx.up (fun _ kk => r_getR 101 dX5_readNever_98 rfl f5_35 rfl (by first | with_reducible assumption | with_reducible exact cr_bs hC | rfl) (by first | with_reducible assumption | with_reducible exact cr_bn hC | exact Nat.le_of_ble_eq_true rfl) (rd_into ya) kk) ?_
          refine Sx.up (fun _ kk => r_iload_n 102 dX5_readNever_101 rfl rfl kk) ?_
          refine Sx.up (fun _ kk => r_aload_n 103 dX5_readNever_102 rfl rfl kk) ?_
          refine Sx.up (fun _ kk => r_iconst (0) 104 dX5_readNever_103 rfl (by decide) kk) ?_
          refine Sx.up (fun _ kk => r_sipush (9999) 107 dX5_readNever_104 rfl (by decide) kk) ?_
          obtain ⟨_, ⟨E20, v20, rfl, y20, hv20⟩, hcl20⟩ := rd_take (d := d) (lo := 0) (hi := 9999) ya rfl rfl (by decide) (by decide)
          refine Sx.up (fun _ kk => r_callV 110 dX5_readNever_107 rfl k5_109 hcl20 rfl rfl (by first | with_reducible assumption | with_reducible exact cr_bs hC | rfl) (by decide) rfl (by first | with_reducible assumption | with_reducible exact cr_bn hC | exact Nat.le_of_ble_eq_true rfl) (Nat.le_of_ble_eq_true rfl) kk) ?_
          refine Sx.up (fun _ kk => r_callV 113 dX5_readNever_110 rfl k5_180 (c_X0_addNever (d := d + 5) (rd_bed y20)) rfl rfl (by first | with_reducible assumption | with_reducible exact cr_bs hC | rfl) (by decide) rfl (by first | with_reducible assumption | with_reducible exact cr_bn hC | exact Nat.le_of_ble_eq_true rfl) (Nat.le_of_ble_eq_true rfl) kk) ?_
          refine ⟨_, ?_, r_vret dX5_readNever_113 rfl rfl rfl⟩
          refine ⟨_, rfl, ?_⟩
          have hfin := rd_nev (x := vaS T sa) (y := vaS T (agS T (vaS T sa) sb)) (v := v15) (w := v20) y20 ?_
          · unfold neS
            rw [hsa, hsb]
            exact hfin
          · intro a B z
            have ew := hv20 a B z
            obtain ⟨a0, z0, -, k0, -, n0⟩ := tk_live z
            obtain ⟨z1, -⟩ := ag_live z0
            have hx9 := hone a0 B z1
            rw [← hsb] at z1
            obtain ⟨z2, z3⟩ := un_live z1
            have hy9 : vaS T (agS T (vaS T sa) sb) < bC B := by rw [z0]; exact un_lt z3 k0 n0
            obtain ⟨a1, z4, -⟩ := tk_live z2
            rw [← hsa] at z4
            obtain ⟨a2, z5⟩ := adv_live (un_live z4).1
            exact ⟨hone15 a0 B z2, ew, hx9, hy9, (nf_live z5).1⟩
        · refine Sx.up (fun _ kk => r_aload_n 93 dX5_readNever_92 rfl rfl kk) ?_
          refine Sx.up (fun _ kk => r_iconst (4) 94 dX5_readNever_93 rfl (by decide) kk) ?_
          obtain ⟨_, ⟨E21, rfl, y21⟩, hcl21⟩ := rd_refuse (d := d + 5) yb (k := 4) (k9 := 4) rfl (by decide) (by decide)
          refine Sx.up (fun _ kk => r_callV 97 dX5_readNever_94 rfl k5_128 hcl21 rfl rfl (by first | with_reducible assumption | with_reducible exact cr_bs hC | rfl) (by decide) rfl (by first | with_reducible assumption | with_reducible exact cr_bn hC | exact Nat.le_of_ble_eq_true rfl) (Nat.le_of_ble_eq_true rfl) kk) ?_
          have ya : CRd E0 E21 T b (agS T (vaS T sa) sb) := by
            rw [ag_if]
            first
            | (rw [if_pos (ag_1 (bnz h60) ((e9 _ hva).mp (by rw [← hv9, ← ev]; exact h71)))]; exact y21)
            | (rw [if_pos ((ag_2 yb (bnz h60) e71 hone).mpr h89)]; exact y21)
            | (rw [if_neg (fun z => (ag_2 yb (bnz h60) e71 hone).mp z h89)]; exact y21)
            | (rw [if_neg (ag_td (bz h60))]; exact y21)
          refine Sx.up (fun _ kk => r_aload_n 98 dX5_readNever_97 rfl rfl kk) ?_
          refine Sx.up (fun _ kk => r_getR 101 dX5_readNever_98 rfl f5_35 rfl (by first | with_reducible assumption | with_reducible exact cr_bs hC | rfl) (by first | with_reducible assumption | with_reducible exact cr_bn hC | exact Nat.le_of_ble_eq_true rfl) (rd_into ya) kk) ?_
          refine Sx.up (fun _ kk => r_iload_n 102 dX5_readNever_101 rfl rfl kk) ?_
          refine Sx.up (fun _ kk => r_aload_n 103 dX5_readNever_102 rfl rfl kk) ?_
          refine Sx.up (fun _ kk => r_iconst (0) 104 dX5_readNever_103 rfl (by decide) kk) ?_
          refine Sx.up (fun _ kk => r_sipush (9999) 107 dX5_readNever_104 rfl (by decide) kk) ?_
          obtain ⟨_, ⟨E22, v22, rfl, y22, hv22⟩, hcl22⟩ := rd_take (d := d) (lo := 0) (hi := 9999) ya rfl rfl (by decide) (by decide)
          refine Sx.up (fun _ kk => r_callV 110 dX5_readNever_107 rfl k5_109 hcl22 rfl rfl (by first | with_reducible assumption | with_reducible exact cr_bs hC | rfl) (by decide) rfl (by first | with_reducible assumption | with_reducible exact cr_bn hC | exact Nat.le_of_ble_eq_true rfl) (Nat.le_of_ble_eq_true rfl) kk) ?_
          refine Sx.up (fun _ kk => r_callV 113 dX5_readNever_110 rfl k5_180 (c_X0_addNever (d := d + 5) (rd_bed y22)) rfl rfl (by first | with_reducible assumption | with_reducible exact cr_bs hC | rfl) (by decide) rfl (by first | with_reducible assumption | with_reducible exact cr_bn hC | exact Nat.le_of_ble_eq_true rfl) (Nat.le_of_ble_eq_true rfl) kk) ?_
          refine ⟨_, ?_, r_vret dX5_readNever_113 rfl rfl rfl⟩
          refine ⟨_, rfl, ?_⟩
          have hfin := rd_nev (x := vaS T sa) (y := vaS T (agS T (vaS T sa) sb)) (v := v15) (w := v22) y22 ?_
          · unfold neS
            rw [hsa, hsb]
            exact hfin
          · intro a B z
            have ew := hv22 a B z
            obtain ⟨a0, z0, -, k0, -, n0⟩ := tk_live z
            obtain ⟨z1, -⟩ := ag_live z0
            have hx9 := hone a0 B z1
            rw [← hsb] at z1
            obtain ⟨z2, z3⟩ := un_live z1
            have hy9 : vaS T (agS T (vaS T sa) sb) < bC B := by rw [z0]; exact un_lt z3 k0 n0
            obtain ⟨a1, z4, -⟩ := tk_live z2
            rw [← hsa] at z4
            obtain ⟨a2, z5⟩ := adv_live (un_live z4).1
            exact ⟨hone15 a0 B z2, ew, hx9, hy9, (nf_live z5).1⟩
def kwV (T : TX) (s : PS) : Int32 := if wdS T w_sleeper s = true then 0 else if wdS T w_child s = true then 1 else if wdS T w_snorer s = true then 2 else if wdS T w_dog s = true then 3 else -1
set_option maxRecDepth 20000 in
theorem rd_kw {d : Nat} {E0 E : HP} {T : TX} {b : Nat} {s : PS} (y1 : CRd E0 E T b s) : Cl yX5_kindOfWord mX5_kindOfWord (d + 5) 0 0 [.ref 41] E 137 (.inl (some (.int (kwV T s))), E, 137) := by
  have hb := rd_b y1
  have hbs : sh b = (0, 0) := bo_1 (rd_bed y1)
  have hbn : b < 137 := by omega
  have hb5 : sh (b + 5) = (7, 0) := (rd_bed y1).2.2.2.2.2.2.2.2.2.1.1
  have hb5n : b + 5 < 137 := by omega
  refine Cl.of (by decide) rfl (fun q => by cases q) rfl rfl (Nat.le_of_ble_eq_true rfl) ?_
  show Sm _ _ _ _ _ 0 [some (.ref 41)] [] _ _
  refine r_aload_n 1 dX5_kindOfWord_0 rfl rfl ?_
  refine r_getR 4 dX5_kindOfWord_1 rfl f5_19 rfl (by first | with_reducible assumption | with_reducible exact cr_bs hC | rfl) (by first | with_reducible assumption | with_reducible exact cr_bn hC | exact Nat.le_of_ble_eq_true rfl) (rd_tok y1) ?_
  refine r_ldcS (i := 1) 6 dX5_kindOfWord_4 rfl rfl ?_
  refine r_callV 9 dX5_kindOfWord_6 rfl k5_72 (rd_word (i := 1) (q := ("SpoonRow$Reader", 99, "sleeper", w_sleeper)) y1 rfl) rfl rfl (by first | with_reducible assumption | with_reducible exact cr_bs hC | rfl) (by decide) rfl (by first | with_reducible assumption | with_reducible exact cr_bn hC | exact Nat.le_of_ble_eq_true rfl) (Nat.le_of_ble_eq_true rfl) ?_
  refine r_if_eq 12 14 dX5_kindOfWord_9 rfl (by decide) (fun h9 => ?_) (fun h9 => ?_)
  · refine r_aload_n 15 dX5_kindOfWord_14 rfl rfl ?_
    refine r_getR 18 dX5_kindOfWord_15 rfl f5_19 rfl (by first | with_reducible assumption | with_reducible exact cr_bs hC | rfl) (by first | with_reducible assumption | with_reducible exact cr_bn hC | exact Nat.le_of_ble_eq_true rfl) (rd_tok y1) ?_
    refine r_ldcS (i := 2) 20 dX5_kindOfWord_18 rfl rfl ?_
    refine r_callV 23 dX5_kindOfWord_20 rfl k5_72 (rd_word (i := 2) (q := ("SpoonRow$Reader", 101, "child", w_child)) y1 rfl) rfl rfl (by first | with_reducible assumption | with_reducible exact cr_bs hC | rfl) (by decide) rfl (by first | with_reducible assumption | with_reducible exact cr_bn hC | exact Nat.le_of_ble_eq_true rfl) (Nat.le_of_ble_eq_true rfl) ?_
    refine r_if_eq 26 28 dX5_kindOfWord_23 rfl (by decide) (fun h23 => ?_) (fun h23 => ?_)
    · refine r_aload_n 29 dX5_kindOfWord_28 rfl rfl ?_
      refine r_getR 32 dX5_kindOfWord_29 rfl f5_19 rfl (by first | with_reducible assumption | with_reducible exact cr_bs hC | rfl) (by first | with_reducible assumption | with_reducible exact cr_bn hC | exact Nat.le_of_ble_eq_true rfl) (rd_tok y1) ?_
      refine r_ldcS (i := 3) 34 dX5_kindOfWord_32 rfl rfl ?_
      refine r_callV 37 dX5_kindOfWord_34 rfl k5_72 (rd_word (i := 3) (q := ("SpoonRow$Reader", 103, "snorer", w_snorer)) y1 rfl) rfl rfl (by first | with_reducible assumption | with_reducible exact cr_bs hC | rfl) (by decide) rfl (by first | with_reducible assumption | with_reducible exact cr_bn hC | exact Nat.le_of_ble_eq_true rfl) (Nat.le_of_ble_eq_true rfl) ?_
      refine r_if_eq 40 42 dX5_kindOfWord_37 rfl (by decide) (fun h37 => ?_) (fun h37 => ?_)
      · refine r_aload_n 43 dX5_kindOfWord_42 rfl rfl ?_
        refine r_getR 46 dX5_kindOfWord_43 rfl f5_19 rfl (by first | with_reducible assumption | with_reducible exact cr_bs hC | rfl) (by first | with_reducible assumption | with_reducible exact cr_bn hC | exact Nat.le_of_ble_eq_true rfl) (rd_tok y1) ?_
        refine r_ldcS (i := 4) 48 dX5_kindOfWord_46 rfl rfl ?_
        refine r_callV 51 dX5_kindOfWord_48 rfl k5_72 (rd_word (i := 4) (q := ("SpoonRow$Reader", 105, "dog", w_dog)) y1 rfl) rfl rfl (by first | with_reducible assumption | with_reducible exact cr_bs hC | rfl) (by decide) rfl (by first | with_reducible assumption | with_reducible exact cr_bn hC | exact Nat.le_of_ble_eq_true rfl) (Nat.le_of_ble_eq_true rfl) ?_
        refine r_if_eq 54 58 dX5_kindOfWord_51 rfl (by decide) (fun h51 => ?_) (fun h51 => ?_)
        · refine r_iconst (-1) 59 dX5_kindOfWord_58 rfl (by decide) ?_
          exact r_iret dX5_kindOfWord_59 rfl rfl (out_eq (by unfold kwV; first | rw [if_neg (bz h9), if_neg (bz h23), if_neg (bz h37), if_pos (bnz h51)] | rw [if_neg (bz h9), if_neg (bz h23), if_neg (bz h37), if_neg (bz h51)]))
        · refine r_iconst (3) 55 dX5_kindOfWord_54 rfl (by decide) ?_
          refine r_goto 59 dX5_kindOfWord_55 (by decide) ?_
          exact r_iret dX5_kindOfWord_59 rfl rfl (out_eq (by unfold kwV; first | rw [if_neg (bz h9), if_neg (bz h23), if_neg (bz h37), if_pos (bnz h51)] | rw [if_neg (bz h9), if_neg (bz h23), if_neg (bz h37), if_neg (bz h51)]))
      · refine r_iconst (2) 41 dX5_kindOfWord_40 rfl (by decide) ?_
        exact r_iret dX5_kindOfWord_41 rfl rfl (out_eq (by unfold kwV; rw [if_neg (bz h9), if_neg (bz h23), if_pos (bnz h37)]))
    · refine r_iconst (1) 27 dX5_kindOfWord_26 rfl (by decide) ?_
      exact r_iret dX5_kindOfWord_27 rfl rfl (out_eq (by unfold kwV; rw [if_neg (bz h9), if_pos (bnz h23)]))
  · refine r_iconst (0) 13 dX5_kindOfWord_12 rfl (by decide) ?_
    exact r_iret dX5_kindOfWord_13 rfl rfl (out_eq (by unfold kwV; rw [if_pos (bnz h9)]))
theorem rd_expr6 {d : Nat} {E0 E : HP} {T : TX} {b : Nat} {s : PS} (y1 : CRd E0 E T b s) (hs : slk 1 s) : ∃ o, (∃ E2, o = (.inl none, E2, 137) ∧ CRd E0 E2 T b (exprS T 6 s)) ∧ Cl yX5_readExpr mX5_readExpr (d + 50) 0 0 [.ref 41, .int 0] E 137 o := by
  have h := rd_expr (d := d) 6 (by decide) y1 hs (w := 0) rfl
  rw [show d + 7 * 6 + 8 = d + 50 by omega] at h
  exact h
theorem kw_3 {T : TX} {s : PS} : kwV T s = 3 → ∃ X, lineS T s = X ∧ X = dgS T s := fun h => by
  refine ⟨_, rfl, ?_⟩
  unfold kwV at h
  unfold lineS
  by_cases h1 : wdS T w_sleeper s = true
  · rw [if_pos h1] at h; exact absurd h (by decide)
  rw [if_neg h1] at h ⊢
  by_cases h2 : wdS T w_child s = true
  · rw [if_pos h2] at h; exact absurd h (by decide)
  rw [if_neg h2] at h ⊢
  by_cases h3 : wdS T w_snorer s = true
  · rw [if_pos h3] at h; exact absurd h (by decide)
  rw [if_neg h3] at h ⊢
  by_cases h4 : wdS T w_dog s = true
  · rw [if_pos h4]
  rw [if_neg h4] at h; exact absurd h (by decide)
theorem kw_p {T : TX} {s : PS} : ¬ kwV T s = 3 → ¬ kwV T s = -1 → lineS T s = peS T (kwV T s) s := fun h h9 => by
  unfold kwV at h h9 ⊢
  unfold lineS
  by_cases h1 : wdS T w_sleeper s = true
  · rw [if_pos h1, if_pos h1]
  rw [if_neg h1] at h h9 ⊢
  rw [if_neg h1]
  by_cases h2 : wdS T w_child s = true
  · rw [if_pos h2, if_pos h2]
  rw [if_neg h2] at h h9 ⊢
  rw [if_neg h2]
  by_cases h3 : wdS T w_snorer s = true
  · rw [if_pos h3, if_pos h3]
  rw [if_neg h3] at h h9 ⊢
  rw [if_neg h3]
  by_cases h4 : wdS T w_dog s = true
  · rw [if_pos h4] at h; exact absurd rfl h
  rw [if_neg h4] at h9; exact absurd rfl h9
theorem kw_n {T : TX} {s : PS} : kwV T s = -1 → lineS T s = (if wdS T w_bolster s = true then boS T s else if wdS T w_never s = true then neS T s else if wdS T w_wakes s = true then exprS T 6 (onS T 8 s) else if wdS T w_bed s = true then bdS T s else if wdS T w_night s = true then niS T s else if wdS T w_awake s = true then awS T s else fltS 1 s) := fun h => by
  unfold kwV at h
  unfold lineS
  by_cases h1 : wdS T w_sleeper s = true
  · rw [if_pos h1] at h; exact absurd h (by decide)
  rw [if_neg h1] at h ⊢
  by_cases h2 : wdS T w_child s = true
  · rw [if_pos h2] at h; exact absurd h (by decide)
  rw [if_neg h2] at h ⊢
  by_cases h3 : wdS T w_snorer s = true
  · rw [if_pos h3] at h; exact absurd h (by decide)
  rw [if_neg h3] at h ⊢
  by_cases h4 : wdS T w_dog s = true
  · rw [if_pos h4] at h; exact absurd h (by decide)
  rw [if_neg h4]
theorem slk_on8 {T : TX} {s : PS} (h : wdS T w_wakes s = true) (h0 : slk 0 s) : slk 1 (onS T 8 s) := by
  cases s with
  | inl z => trivial
  | inr z =>
    have hn := (nxT_le (T := T) (a := z.1)).2.2 (by rw [isW_kd (T := T) (a := z.1) (w := w_wakes) h]; decide)
    have h0 : (bR z.2).length + 0 ≤ z.1 := h0
    show slk 1 (if bX z.2 5 &&& 8 = 0 then .inr (nxT T z.1, setX z.2 5 (bX z.2 5 ||| 8)) else .inl (5, z.1))
    split
    · show (bR z.2).length + 1 ≤ nxT T z.1; omega
    · trivial
set_option maxRecDepth 20000 in
theorem rd_line {d : Nat} {E0 E : HP} {T : TX} {b : Nat} {s : PS}  (y1 : CRd E0 E T b s) (h0 : slk 0 s) : ∃ o, (∃ E2, o = (.inl none, E2, 137) ∧ CRd E0 E2 T b (liS T s)) ∧ Cl yX5_readLine mX5_readLine (d + 52) 0 0 [.ref 41] E 137 o := by
  have hb := rd_b y1
  have hbs : sh b = (0, 0) := bo_1 (rd_bed y1)
  have hbn : b < 137 := by omega
  have hb5 : sh (b + 5) = (7, 0) := (rd_bed y1).2.2.2.2.2.2.2.2.2.1.1
  have hb5n : b + 5 < 137 := by omega
  obtain ⟨kw, hkw⟩ : ∃ kw, kwV T s = kw := ⟨_, rfl⟩
  have hkc := rd_kw (d := d + 46) y1
  rw [hkw] at hkc
  have k98 : ∀ E, CRd E0 E T b (lineS T s) → Sx mX5_readLine (d + 52) 0 0 (fun o => ∃ E2, o = (.inl none, E2, 137) ∧ CRd E0 E2 T b (liS T s)) 98 [some (.ref 41), some (.int kw)] [] E 137 := by
    intro E y1
    refine Sx.up (fun _ kk => r_aload_n 99 dX5_readLine_98 rfl rfl kk) ?_
    refine Sx.up (fun _ kk => r_bipush (59) 101 dX5_readLine_99 rfl (by decide) kk) ?_
    obtain ⟨_, ⟨E2, rfl, y2⟩, hcl2⟩ := rd_takeSign (d := d + 45) (c := 59) y1
    refine Sx.up (fun _ kk => r_callV 104 dX5_readLine_101 rfl k5_95 hcl2 rfl rfl (by first | with_reducible assumption | with_reducible exact cr_bs hC | rfl) (by decide) rfl (by first | with_reducible assumption | with_reducible exact cr_bn hC | exact Nat.le_of_ble_eq_true rfl) (Nat.le_of_ble_eq_true rfl) kk) ?_
    refine ⟨_, ?_, r_vret dX5_readLine_104 rfl rfl rfl⟩
    exact ⟨_, rfl, y2⟩
  refine Cx.of (by decide) rfl (fun q => by cases q) rfl rfl (Nat.le_of_ble_eq_true rfl) ?_
  show Sx _ _ _ _ _ 0 [some (.ref 41), none] [] _ _
  refine Sx.up (fun _ kk => r_aload_n 1 dX5_readLine_0 rfl rfl kk) ?_
  refine Sx.up (fun _ kk => r_callV 4 dX5_readLine_1 rfl k5_60 hkc rfl rfl (by first | with_reducible assumption | with_reducible exact cr_bs hC | rfl) (by decide) rfl (by first | with_reducible assumption | with_reducible exact cr_bn hC | exact Nat.le_of_ble_eq_true rfl) (Nat.le_of_ble_eq_true rfl) kk) ?_
  refine Sx.up (fun _ kk => r_istore_n 5 dX5_readLine_4 rfl (by decide) rfl kk) ?_
  refine Sx.up (fun _ kk => r_iload_n 6 dX5_readLine_5 rfl rfl kk) ?_
  refine Sx.up (fun _ kk => r_iconst (3) 7 dX5_readLine_6 rfl (by decide) kk) ?_
  refine Sx.br (fun _ ka kb => r_icmp_ne 10 17 dX5_readLine_7 rfl (by decide) ka kb) (by first | exact em1 | exact em2) (fun h7 => ?_) (fun h7 => ?_)
  · refine Sx.up (fun _ kk => r_iload_n 18 dX5_readLine_17 rfl rfl kk) ?_
    refine Sx.up (fun _ kk => r_iconst (-1) 19 dX5_readLine_18 rfl (by decide) kk) ?_
    refine Sx.br (fun _ ka kb => r_icmp_eq 22 30 dX5_readLine_19 rfl (by decide) ka kb) (by first | exact em1 | exact em2) (fun h19 => ?_) (fun h19 => ?_)
    · refine Sx.up (fun _ kk => r_aload_n 31 dX5_readLine_30 rfl rfl kk) ?_
      refine Sx.up (fun _ kk => r_getR 34 dX5_readLine_31 rfl f5_19 rfl (by first | with_reducible assumption | with_reducible exact cr_bs hC | rfl) (by first | with_reducible assumption | with_reducible exact cr_bn hC | exact Nat.le_of_ble_eq_true rfl) (rd_tok y1) kk) ?_
      refine Sx.up (fun _ kk => r_ldcS (i := 5) 36 dX5_readLine_34 rfl rfl kk) ?_
      refine Sx.up (fun _ kk => r_callV 39 dX5_readLine_36 rfl k5_72 (rd_word (i := 5) (q := ("SpoonRow$Reader", 70, "bolster", w_bolster)) y1 rfl) rfl rfl (by first | with_reducible assumption | with_reducible exact cr_bs hC | rfl) (by decide) rfl (by first | with_reducible assumption | with_reducible exact cr_bn hC | exact Nat.le_of_ble_eq_true rfl) (Nat.le_of_ble_eq_true rfl) kk) ?_
      refine Sx.br (fun _ ka kb => r_if_eq 42 49 dX5_readLine_39 rfl (by decide) ka kb) (by first | exact em1 | exact em2) (fun h39 => ?_) (fun h39 => ?_)
      · refine Sx.up (fun _ kk => r_aload_n 50 dX5_readLine_49 rfl rfl kk) ?_
        refine Sx.up (fun _ kk => r_getR 53 dX5_readLine_50 rfl f5_19 rfl (by first | with_reducible assumption | with_reducible exact cr_bs hC | rfl) (by first | with_reducible assumption | with_reducible exact cr_bn hC | exact Nat.le_of_ble_eq_true rfl) (rd_tok y1) kk) ?_
        refine Sx.up (fun _ kk => r_ldcS (i := 6) 55 dX5_readLine_53 rfl rfl kk) ?_
        refine Sx.up (fun _ kk => r_callV 58 dX5_readLine_55 rfl k5_72 (rd_word (i := 6) (q := ("SpoonRow$Reader", 79, "never", w_never)) y1 rfl) rfl rfl (by first | with_reducible assumption | with_reducible exact cr_bs hC | rfl) (by decide) rfl (by first | with_reducible assumption | with_reducible exact cr_bn hC | exact Nat.le_of_ble_eq_true rfl) (Nat.le_of_ble_eq_true rfl) kk) ?_
        refine Sx.br (fun _ ka kb => r_if_eq 61 68 dX5_readLine_58 rfl (by decide) ka kb) (by first | exact em1 | exact em2) (fun h58 => ?_) (fun h58 => ?_)
        · refine Sx.up (fun _ kk => r_aload_n 69 dX5_readLine_68 rfl rfl kk) ?_
          refine Sx.up (fun _ kk => r_getR 72 dX5_readLine_69 rfl f5_19 rfl (by first | with_reducible assumption | with_reducible exact cr_bs hC | rfl) (by first | with_reducible assumption | with_reducible exact cr_bn hC | exact Nat.le_of_ble_eq_true rfl) (rd_tok y1) kk) ?_
          refine Sx.up (fun _ kk => r_ldcS (i := 7) 74 dX5_readLine_72 rfl rfl kk) ?_
          refine Sx.up (fun _ kk => r_callV 77 dX5_readLine_74 rfl k5_72 (rd_word (i := 7) (q := ("SpoonRow$Reader", 84, "wakes", w_wakes)) y1 rfl) rfl rfl (by first | with_reducible assumption | with_reducible exact cr_bs hC | rfl) (by decide) rfl (by first | with_reducible assumption | with_reducible exact cr_bn hC | exact Nat.le_of_ble_eq_true rfl) (Nat.le_of_ble_eq_true rfl) kk) ?_
          refine Sx.br (fun _ ka kb => r_if_eq 80 94 dX5_readLine_77 rfl (by decide) ka kb) (by first | exact em1 | exact em2) (fun h77 => ?_) (fun h77 => ?_)
          · refine Sx.up (fun _ kk => r_aload_n 95 dX5_readLine_94 rfl rfl kk) ?_
            obtain ⟨_, ⟨E2, rfl, y2⟩, hcl2⟩ := rd_set (d := d + 44) y1
            refine Sx.up (fun _ kk => r_callV 98 dX5_readLine_95 rfl k5_92 hcl2 rfl rfl (by first | with_reducible assumption | with_reducible exact cr_bs hC | rfl) (by decide) rfl (by first | with_reducible assumption | with_reducible exact cr_bn hC | exact Nat.le_of_ble_eq_true rfl) (Nat.le_of_ble_eq_true rfl) kk) ?_
            refine k98 E2 ?_
            first
            | (obtain ⟨X, hX, hX2⟩ := kw_3 (hkw.trans h7); rw [hX, hX2]; exact y2)
            | (rw [kw_p (fun z => h7 (hkw.symm.trans z)) (fun z => h19 (hkw.symm.trans z)), hkw]; exact y2)
            | (rw [kw_n (hkw.trans h19), if_pos (bnz h39)]; exact y2)
            | (rw [kw_n (hkw.trans h19), if_neg (bz h39), if_pos (bnz h58)]; exact y2)
            | (rw [kw_n (hkw.trans h19), if_neg (bz h39), if_neg (bz h58), if_pos (bnz h77)]; exact y2)
            | (rw [kw_n (hkw.trans h19), if_neg (bz h39), if_neg (bz h58), if_neg (bz h77)]; exact y2)
          · refine Sx.up (fun _ kk => r_aload_n 81 dX5_readLine_80 rfl rfl kk) ?_
            refine Sx.up (fun _ kk => r_bipush (8) 83 dX5_readLine_81 rfl (by decide) kk) ?_
            obtain ⟨_, ⟨E3, rfl, y3⟩, hcl3⟩ := rd_onceS (d := d + 45) (l := 8) y1
            refine Sx.up (fun _ kk => r_callV 86 dX5_readLine_83 rfl k5_86 hcl3 rfl rfl (by first | with_reducible assumption | with_reducible exact cr_bs hC | rfl) (by decide) rfl (by first | with_reducible assumption | with_reducible exact cr_bn hC | exact Nat.le_of_ble_eq_true rfl) (Nat.le_of_ble_eq_true rfl) kk) ?_
            refine Sx.up (fun _ kk => r_aload_n 87 dX5_readLine_86 rfl rfl kk) ?_
            refine Sx.up (fun _ kk => r_iconst (0) 88 dX5_readLine_87 rfl (by decide) kk) ?_
            obtain ⟨_, ⟨E4, rfl, y4⟩, hcl4⟩ := rd_expr6 (d := d + 1) y3 (slk_on8 (bnz h77) h0)
            refine Sx.up (fun _ kk => r_callV 91 dX5_readLine_88 rfl k5_89 hcl4 rfl rfl (by first | with_reducible assumption | with_reducible exact cr_bs hC | rfl) (by decide) rfl (by first | with_reducible assumption | with_reducible exact cr_bn hC | exact Nat.le_of_ble_eq_true rfl) (Nat.le_of_ble_eq_true rfl) kk) ?_
            refine Sx.up (fun _ kk => r_goto 98 dX5_readLine_91 (by decide) kk) ?_
            refine k98 E4 ?_
            first
            | (obtain ⟨X, hX, hX2⟩ := kw_3 (hkw.trans h7); rw [hX, hX2]; exact y4)
            | (rw [kw_p (fun z => h7 (hkw.symm.trans z)) (fun z => h19 (hkw.symm.trans z)), hkw]; exact y4)
            | (rw [kw_n (hkw.trans h19), if_pos (bnz h39)]; exact y4)
            | (rw [kw_n (hkw.trans h19), if_neg (bz h39), if_pos (bnz h58)]; exact y4)
            | (rw [kw_n (hkw.trans h19), if_neg (bz h39), if_neg (bz h58), if_pos (bnz h77)]; exact y4)
            | (rw [kw_n (hkw.trans h19), if_neg (bz h39), if_neg (bz h58), if_neg (bz h77)]; exact y4)
        · refine Sx.up (fun _ kk => r_aload_n 62 dX5_readLine_61 rfl rfl kk) ?_
          obtain ⟨_, ⟨E5, rfl, y5⟩, hcl5⟩ := rd_never (d := d + 44) y1
          refine Sx.up (fun _ kk => r_callV 65 dX5_readLine_62 rfl k5_81 hcl5 rfl rfl (by first | with_reducible assumption | with_reducible exact cr_bs hC | rfl) (by decide) rfl (by first | with_reducible assumption | with_reducible exact cr_bn hC | exact Nat.le_of_ble_eq_true rfl) (Nat.le_of_ble_eq_true rfl) kk) ?_
          refine Sx.up (fun _ kk => r_goto 98 dX5_readLine_65 (by decide) kk) ?_
          refine k98 E5 ?_
          first
          | (obtain ⟨X, hX, hX2⟩ := kw_3 (hkw.trans h7); rw [hX, hX2]; exact y5)
          | (rw [kw_p (fun z => h7 (hkw.symm.trans z)) (fun z => h19 (hkw.symm.trans z)), hkw]; exact y5)
          | (rw [kw_n (hkw.trans h19), if_pos (bnz h39)]; exact y5)
          | (rw [kw_n (hkw.trans h19), if_neg (bz h39), if_pos (bnz h58)]; exact y5)
          | (rw [kw_n (hkw.trans h19), if_neg (bz h39), if_neg (bz h58), if_pos (bnz h77)]; exact y5)
          | (rw [kw_n (hkw.trans h19), if_neg (bz h39), if_neg (bz h58), if_neg (bz h77)]; exact y5)
      · refine Sx.up (fun _ kk => r_aload_n 43 dX5_readLine_42 rfl rfl kk) ?_
        obtain ⟨_, ⟨E6, rfl, y6⟩, hcl6⟩ := rd_bol (d := d + 44) y1
        refine Sx.up (fun _ kk => r_callV 46 dX5_readLine_43 rfl k5_76 hcl6 rfl rfl (by first | with_reducible assumption | with_reducible exact cr_bs hC | rfl) (by decide) rfl (by first | with_reducible assumption | with_reducible exact cr_bn hC | exact Nat.le_of_ble_eq_true rfl) (Nat.le_of_ble_eq_true rfl) kk) ?_
        refine Sx.up (fun _ kk => r_goto 98 dX5_readLine_46 (by decide) kk) ?_
        refine k98 E6 ?_
        first
        | (obtain ⟨X, hX, hX2⟩ := kw_3 (hkw.trans h7); rw [hX, hX2]; exact y6)
        | (rw [kw_p (fun z => h7 (hkw.symm.trans z)) (fun z => h19 (hkw.symm.trans z)), hkw]; exact y6)
        | (rw [kw_n (hkw.trans h19), if_pos (bnz h39)]; exact y6)
        | (rw [kw_n (hkw.trans h19), if_neg (bz h39), if_pos (bnz h58)]; exact y6)
        | (rw [kw_n (hkw.trans h19), if_neg (bz h39), if_neg (bz h58), if_pos (bnz h77)]; exact y6)
        | (rw [kw_n (hkw.trans h19), if_neg (bz h39), if_neg (bz h58), if_neg (bz h77)]; exact y6)
    · refine Sx.up (fun _ kk => r_aload_n 23 dX5_readLine_22 rfl rfl kk) ?_
      refine Sx.up (fun _ kk => r_iload_n 24 dX5_readLine_23 rfl rfl kk) ?_
      obtain ⟨_, ⟨E7, rfl, y7⟩, hcl7⟩ := rd_pers (d := d + 44) y1
      refine Sx.up (fun _ kk => r_callV 27 dX5_readLine_24 rfl k5_67 hcl7 rfl rfl (by first | with_reducible assumption | with_reducible exact cr_bs hC | rfl) (by decide) rfl (by first | with_reducible assumption | with_reducible exact cr_bn hC | exact Nat.le_of_ble_eq_true rfl) (Nat.le_of_ble_eq_true rfl) kk) ?_
      refine Sx.up (fun _ kk => r_goto 98 dX5_readLine_27 (by decide) kk) ?_
      refine k98 E7 ?_
      first
      | (obtain ⟨X, hX, hX2⟩ := kw_3 (hkw.trans h7); rw [hX, hX2]; exact y7)
      | (rw [kw_p (fun z => h7 (hkw.symm.trans z)) (fun z => h19 (hkw.symm.trans z)), hkw]; exact y7)
      | (rw [kw_n (hkw.trans h19), if_pos (bnz h39)]; exact y7)
      | (rw [kw_n (hkw.trans h19), if_neg (bz h39), if_pos (bnz h58)]; exact y7)
      | (rw [kw_n (hkw.trans h19), if_neg (bz h39), if_neg (bz h58), if_pos (bnz h77)]; exact y7)
      | (rw [kw_n (hkw.trans h19), if_neg (bz h39), if_neg (bz h58), if_neg (bz h77)]; exact y7)
  · refine Sx.up (fun _ kk => r_aload_n 11 dX5_readLine_10 rfl rfl kk) ?_
    obtain ⟨_, ⟨E8, rfl, y8⟩, hcl8⟩ := rd_dog (d := d + 44) y1
    refine Sx.up (fun _ kk => r_callV 14 dX5_readLine_11 rfl k5_64 hcl8 rfl rfl (by first | with_reducible assumption | with_reducible exact cr_bs hC | rfl) (by decide) rfl (by first | with_reducible assumption | with_reducible exact cr_bn hC | exact Nat.le_of_ble_eq_true rfl) (Nat.le_of_ble_eq_true rfl) kk) ?_
    refine Sx.up (fun _ kk => r_goto 98 dX5_readLine_14 (by decide) kk) ?_
    refine k98 E8 ?_
    first
    | (obtain ⟨X, hX, hX2⟩ := kw_3 (hkw.trans h7); rw [hX, hX2]; exact y8)
    | (rw [kw_p (fun z => h7 (hkw.symm.trans z)) (fun z => h19 (hkw.symm.trans z)), hkw]; exact y8)
    | (rw [kw_n (hkw.trans h19), if_pos (bnz h39)]; exact y8)
    | (rw [kw_n (hkw.trans h19), if_neg (bz h39), if_pos (bnz h58)]; exact y8)
    | (rw [kw_n (hkw.trans h19), if_neg (bz h39), if_neg (bz h58), if_pos (bnz h77)]; exact y8)
    | (rw [kw_n (hkw.trans h19), if_neg (bz h39), if_neg (bz h58), if_neg (bz h77)]; exact y8)
theorem rd_go {E0 E : HP} {T : TX} {b : Nat} {s : PS} (y1 : CRd E0 E T b s) : gI E 1284 42 = 0 ↔ ¬ goC T s = true := by
  cases s with
  | inl z =>
    obtain ⟨q, q1, q2, q3, q4⟩ := y1.2.2.2.2.2.2
    exact ⟨fun _ => (by show ¬ false = true; decide), fun _ => q4⟩
  | inr z =>
    have g4 := y1.2.2.2.2.1.2.2
    have kl := kd_le T z.1
    rw [g4]
    constructor
    · intro h q
      exact of_decide_eq_true q ((nI_eq (b := 0) (by omega) (by omega)).mp h)
    · intro q
      by_cases h : kdT T z.1 = 0
      · rw [h]; rfl
      · exact absurd (decide_eq_true h) q
def fndS : PS → Int32
  | .inl x => nI x.1
  | .inr _ => 0
theorem rd_fnd {E0 E : HP} {T : TX} {b : Nat} {s : PS} (y1 : CRd E0 E T b s) : gI E 642 41 = fndS s := by
  cases s with
  | inl z => exact y1.2.1
  | inr z => exact y1.2.1
def RdE (E E2 : HP) (b : Nat) : Prop := Fr (RdP b) E E2 ∧ (∀ g k, ¬ (g = 641 ∧ k = 41) → ¬ (g = 1280 ∧ k = 42) → gR E2 g k = gR E g k) ∧ gQ E2 = gQ E
set_option maxRecDepth 20000 in
theorem c_read {d b : Nat} {T : TX} {E : HP} (hT : TXok T) (hr : RowOK E 137 1 600) (ht : ∀ i, i < T.2 → gA E 2 i = T.1 i) (hb : b = 3 ∨ b = 22) (hbo : BedOK E 137 b) (h42 : gR E 640 41 = some 42) : ∃ o, (∃ E2, o = (.inl (some (.int (fndS (textS T)))), E2, 137) ∧ RdE E E2 b ∧ gR E2 641 41 = some b ∧ gR E2 1280 42 = some 1 ∧ CSt E2 T b (textS T)) ∧ Cl yX5_read mX5_read (d + 53) 0 0 [.ref 41, .ref 1, .int (nI T.2), .ref b] E 137 o := by
  have n6 := hT.1
  obtain ⟨E1, hE1⟩ : ∃ E1, sI (sI (sI (beAnew b (sR E 641 41 (some b))) 642 41 0) 643 41 (-1)) 644 41 0 = E1 := ⟨_, rfl⟩
  have hbe : BedOK (sR E 641 41 (some b)) 137 b := bed_fr (P := fun k => k = 41) (fr_sR rfl fr_rfl) (by show ¬ _ = _; omega) (by show ¬ _ = _; omega) (by show ¬ _ = _; omega) (by show ¬ _ = _; omega) (by show ¬ _ = _; omega) (by show ¬ _ = _; omega) (by show ¬ _ = _; omega) hbo
  have hfB : Fr (fun k => k = b ∨ k = b + 4 ∨ k = b + 5) (sR E 641 41 (some b)) (beAnew b (sR E 641 41 (some b))) := fr_sI (Or.inl rfl) (fr_sI (Or.inl rfl) (fr_sI (Or.inl rfl) (fr_sI (Or.inl rfl) (fr_sI (Or.inl rfl) (fr_sI (Or.inl rfl) (fr_sI (Or.inl rfl) (fr_sI (Or.inr (Or.inr rfl)) (fr_fill (Or.inr (Or.inl rfl)) fr_rfl))))))))
  have hsB : SR (sR E 641 41 (some b)) (beAnew b (sR E 641 41 (some b))) := sr_sI (sr_sI (sr_sI (sr_sI (sr_sI (sr_sI (sr_sI (sr_sI (sr_fill sr_rfl))))))))
  have hs1 : SR (sR E 641 41 (some b)) E1 := by subst hE1; exact sr_sI (sr_sI (sr_sI hsB))
  have hf1 : Fr (RdP b) E E1 := by
    subst hE1
    exact fr_sI (Or.inl rfl) (fr_sI (Or.inl rfl) (fr_sI (Or.inl rfl) (fr_tr (fr_sR (Or.inl rfl) fr_rfl) (fr_mono hfB (fun k z => Or.inr (Or.inr (by omega)))))))
  have r641 : gR E1 641 41 = some b := sr_gR hs1 (by rw [gR_sR, if_pos ⟨rfl, rfl⟩])
  have rR : ∀ g k, ¬ (g = 641 ∧ k = 41) → gR E1 g k = gR E g k := fun g k z => by
    unfold gR
    rw [hs1.1]
    show gR (sR E 641 41 (some b)) g k = _
    rw [gR_sR, if_neg z]; rfl
  have qQ : gQ E1 = gQ E := by
    funext k
    unfold gQ
    rw [hs1.2]; rfl
  have hr1 : RowOK E1 137 1 600 := ⟨hr.1, (rR _ _ (by omega)).trans hr.2.1, hr.2.2⟩
  have ht1 : ∀ i, i < T.2 → gA E1 2 i = T.1 i := fun i hi => by rw [fr_gA hf1 (by unfold RdP; omega)]; exact ht i hi
  have hbe1 : BedOK E1 137 b := sr_bed hs1 hbe
  obtain ⟨_, ⟨E4, rfl, hF4, hA4, hf4, hr4, hq4⟩, hst⟩ := tk_start (d := d + 46) hT hr1 ht1
  have k4 : ∀ g, gI E4 g 41 = gI E1 g 41 := fun g => fr_gI hf4 (by omega) g
  have kb : ∀ g, gI E4 g b = gI E1 g b := fun g => fr_gI hf4 (by omega) g
  have hbo4 : BedOK E4 137 b := bed_fr (P := fun k => k = 42) hf4 (by show ¬ _ = _; omega) (by show ¬ _ = _; omega) (by show ¬ _ = _; omega) (by show ¬ _ = _; omega) (by show ¬ _ = _; omega) (by show ¬ _ = _; omega) (by show ¬ _ = _; omega) hbe1
  have y0 : CRd E4 E4 T b (.inr (toB T 0, bd0)) := by
    refine ⟨⟨hT, hF4, (hr4 _ _ (by omega)).trans ((rR _ _ (by omega)).trans h42), (hr4 _ _ (by omega)).trans r641, hbo4, hb, fr_rfl, sr_rfl⟩, ?_, ?_, (runT_le (T := T) (k := 4) (i := 0)).2 (Nat.zero_le _), hA4, ?_, by decide, fun s hs => absurd hs (Nat.not_lt_zero s), fun s hs => ?_, fun i hi => ?_, ?_, ?_, by decide, ?_, by decide, fun i hi => absurd hi (Nat.not_lt_zero i)⟩
    · rw [k4]; subst hE1; rw [gI_sI, if_neg (by decide), gI_sI, if_neg (by decide), gI_sI, if_pos ⟨rfl, rfl⟩]
    · rw [k4]; subst hE1; rw [gI_sI, if_neg (by decide), gI_sI, if_pos ⟨rfl, rfl⟩]
    · rw [kb]; subst hE1; unfold beAnew; simp [gI_sI, show ¬ b = 41 by omega]; rfl
    · rw [fr_gA hf4 (by omega)]; subst hE1; show gA (rFill (b + 3) 0 7 _) (b + 3 + 1) s = 0; rw [fill_at, if_pos hs]
    · rw [kb]; subst hE1; unfold beAnew
      match i, hi with
      | 0, _ => simp [gI_sI, show ¬ b = 41 by omega]; rfl
      | 1, _ => simp [gI_sI, show ¬ b = 41 by omega]; rfl
      | 2, _ => simp [gI_sI, show ¬ b = 41 by omega]; rfl
      | 3, _ => simp [gI_sI, show ¬ b = 41 by omega]; rfl
      | 4, _ => simp [gI_sI, show ¬ b = 41 by omega]; rfl
    · rw [k4]; subst hE1; rw [gI_sI, if_pos ⟨rfl, rfl⟩]; rfl
    · rw [kb]; subst hE1; unfold beAnew; simp [gI_sI, show ¬ b = 41 by omega]; rfl
    · rw [fr_gI hf4 (by omega)]; subst hE1; unfold beAnew; simp [gI_sI, show ¬ b + 5 = 41 by omega]; rfl
  refine Cx.of (by decide) rfl (fun q => by cases q) rfl rfl (Nat.le_of_ble_eq_true rfl) ?_
  show Sx _ _ _ _ _ 0 [some (.ref 41), some (.ref 1), some (.int (nI T.2)), some (.ref b), none] [] _ _
  have loop := sxUp (σ := HP × PS) (S := fun k9 q => Sx mX5_read (d + 53) 0 0 (fun o => ∃ E2, o = (.inl (some (.int (fndS (loopS (goC T) (liS T) (T.2 - k9) q.2)))), E2, 137) ∧ CRd E4 E2 T b (loopS (goC T) (liS T) (T.2 - k9) q.2)) 39 [some (.ref 41), some (.ref 1), some (.int (nI T.2)), some (.ref b), some (.int (nI k9))] [] q.1 137) (Inv := fun k9 q => CRd E4 q.1 T b q.2 ∧ slk 0 q.2) (a := 0) (l := T.2) (Nat.zero_le _) ?_ ?_
  · refine Sx.up (fun _ kk => r_aload_n 1 dX5_read_0 rfl rfl kk) ?_
    refine Sx.up (fun _ kk => r_aload_n 2 dX5_read_1 rfl rfl kk) ?_
    refine Sx.up (fun _ kk => r_putR 5 dX5_read_2 rfl f5_35 rfl (Or.inl rfl) (by first | with_reducible assumption | with_reducible exact cr_bs hC | rfl) (by first | with_reducible assumption | with_reducible exact cr_bn hC | exact Nat.le_of_ble_eq_true rfl) kk) ?_
    refine Sx.up (fun _ kk => r_aload_n 6 dX5_read_5 rfl rfl kk) ?_
    refine Sx.up (fun _ kk => r_getR 9 dX5_read_6 rfl f5_35 rfl (by first | with_reducible assumption | with_reducible exact cr_bs hC | rfl) (by first | with_reducible assumption | with_reducible exact cr_bn hC | exact Nat.le_of_ble_eq_true rfl) (by rw [gR_sR, if_pos ⟨rfl, rfl⟩]) kk) ?_
    refine Sx.up (fun _ kk => r_callV 12 dX5_read_9 rfl k5_39 (c_X0_makeAnew (d := d + 51) hbe) rfl rfl (by first | with_reducible assumption | with_reducible exact cr_bs hC | rfl) (by decide) rfl (by first | with_reducible assumption | with_reducible exact cr_bn hC | exact Nat.le_of_ble_eq_true rfl) (Nat.le_of_ble_eq_true rfl) kk) ?_
    refine Sx.up (fun _ kk => r_aload_n 13 dX5_read_12 rfl rfl kk) ?_
    refine Sx.up (fun _ kk => r_iconst (0) 14 dX5_read_13 rfl (by decide) kk) ?_
    refine Sx.up (fun _ kk => r_putI 17 dX5_read_14 rfl f5_25 (by first | with_reducible assumption | with_reducible exact cr_bs hC | rfl) (by first | with_reducible assumption | with_reducible exact cr_bn hC | exact Nat.le_of_ble_eq_true rfl) kk) ?_
    refine Sx.up (fun _ kk => r_aload_n 18 dX5_read_17 rfl rfl kk) ?_
    refine Sx.up (fun _ kk => r_iconst (-1) 19 dX5_read_18 rfl (by decide) kk) ?_
    refine Sx.up (fun _ kk => r_putI 22 dX5_read_19 rfl f5_29 (by first | with_reducible assumption | with_reducible exact cr_bs hC | rfl) (by first | with_reducible assumption | with_reducible exact cr_bn hC | exact Nat.le_of_ble_eq_true rfl) kk) ?_
    refine Sx.up (fun _ kk => r_aload_n 23 dX5_read_22 rfl rfl kk) ?_
    refine Sx.up (fun _ kk => r_iconst (0) 24 dX5_read_23 rfl (by decide) kk) ?_
    refine Sx.up (fun _ kk => r_putI 27 dX5_read_24 rfl f5_32 (by first | with_reducible assumption | with_reducible exact cr_bs hC | rfl) (by first | with_reducible assumption | with_reducible exact cr_bn hC | exact Nat.le_of_ble_eq_true rfl) kk) ?_
    rw [hE1]
    refine Sx.up (fun _ kk => r_aload_n 28 dX5_read_27 rfl rfl kk) ?_
    refine Sx.up (fun _ kk => r_getR 31 dX5_read_28 rfl f5_19 rfl (by first | with_reducible assumption | with_reducible exact cr_bs hC | rfl) (by first | with_reducible assumption | with_reducible exact cr_bn hC | exact Nat.le_of_ble_eq_true rfl) (by first | exact rd_tok y1 | (rw [gR_sI, gR_sI, gR_sI]; exact sr_gR hsB (by rw [gR_sR, if_neg (by decide)]; exact h42))) kk) ?_
    refine Sx.up (fun _ kk => r_aload_n 32 dX5_read_31 rfl rfl kk) ?_
    refine Sx.up (fun _ kk => r_iload_n 33 dX5_read_32 rfl rfl kk) ?_
    refine Sx.up (fun _ kk => r_callV 36 dX5_read_33 rfl k5_44 hst rfl rfl (by first | with_reducible assumption | with_reducible exact cr_bs hC | rfl) (by decide) rfl (by first | with_reducible assumption | with_reducible exact cr_bn hC | exact Nat.le_of_ble_eq_true rfl) (Nat.le_of_ble_eq_true rfl) kk) ?_
    refine Sx.up (fun _ kk => r_iconst (0) 37 dX5_read_36 rfl (by decide) kk) ?_
    refine Sx.up (fun _ kk => r_istore 39 dX5_read_37 rfl (by decide) rfl kk) ?_
    refine Sx.mono ?_ (loop (E4, _) ⟨y0, by show 0 + 0 ≤ toB T 0; omega⟩)
    rintro o ⟨E2, h1, h2⟩
    refine ⟨E2, h1, ⟨fr_tr hf1 (fr_tr (fr_mono hf4 (fun k z => Or.inr (Or.inl z))) h2.1.2.2.2.2.2.2.1), fun g k z1 z2 => ?_, ?_⟩, rd_into h2, (rd_F h2).1, h2.2⟩
    · have e := h2.1.2.2.2.2.2.2.2.1
      have e2 : gR E2 g k = gR E4 g k := by unfold gR; rw [e]
      exact e2.trans ((hr4 g k z2).trans (rR g k z1))
    · have e := h2.1.2.2.2.2.2.2.2.2
      have e2 : gQ E2 = gQ E4 := by funext j; unfold gQ; rw [e]
      exact e2.trans (hq4.trans qQ)
  · intro q ⟨y1, hs9⟩
    refine Sx.up (fun _ kk => r_iload 41 dX5_read_39 rfl rfl kk) ?_
    refine Sx.up (fun _ kk => r_iload_n 42 dX5_read_41 rfl rfl kk) ?_
    refine Sx.up (fun _ kk => r_icmp_ge 45 65 dX5_read_42 rfl (by decide) (fun _ => kk) (fun h42 => absurd (nI_le (Nat.le_refl _) (by omega)) h42)) ?_
    refine Sx.up (fun _ kk => r_aload_n 66 dX5_read_65 rfl rfl kk) ?_
    refine Sx.up (fun _ kk => r_getIV (fndS q.2) 69 dX5_read_66 rfl f5_25 rfl (by first | with_reducible assumption | with_reducible exact cr_bs hC | rfl) (by first | with_reducible assumption | with_reducible exact cr_bn hC | exact Nat.le_of_ble_eq_true rfl) (rd_fnd y1) kk) ?_
    refine ⟨_, ?_, r_iret dX5_read_69 rfl rfl rfl⟩
    refine ⟨_, ?_, ?_⟩
    rotate_left
    · rw [Nat.sub_self]; exact y1
    · rw [Nat.sub_self]; rfl
  · intro k9 q hk0 hk9 ⟨y1, hs9⟩ hq
    obtain ⟨E, s⟩ := q
    have y1 : CRd E4 E T b s := y1
    have hs9 : slk 0 s := hs9
    have hgo9 := rd_go y1
    obtain ⟨f9, hf9⟩ : ∃ f9, T.2 - k9 = f9 + 1 := ⟨T.2 - k9 - 1, by omega⟩
    have hy : goC T s = true → loopS (goC T) (liS T) (T.2 - k9) s = loopS (goC T) (liS T) (T.2 - (k9 + 1)) (liS T s) := fun z => by rw [hf9, show T.2 - (k9 + 1) = f9 by omega]; exact if_pos z
    have hn : ¬ goC T s = true → loopS (goC T) (liS T) (T.2 - k9) s = s := fun z => by rw [hf9]; exact if_neg z
    have hb := rd_b y1
    refine Sx.up (fun _ kk => r_iload 41 dX5_read_39 rfl rfl kk) ?_
    refine Sx.up (fun _ kk => r_iload_n 42 dX5_read_41 rfl rfl kk) ?_
    refine Sx.up (fun _ kk => r_icmp_ge 45 65 dX5_read_42 rfl (by decide) (fun h42 => absurd h42 (nI_ge hk9 (by omega))) (fun _ => kk)) ?_
    refine Sx.up (fun _ kk => r_aload_n 46 dX5_read_45 rfl rfl kk) ?_
    refine Sx.up (fun _ kk => r_getR 49 dX5_read_46 rfl f5_19 rfl (by first | with_reducible assumption | with_reducible exact cr_bs hC | rfl) (by first | with_reducible assumption | with_reducible exact cr_bn hC | exact Nat.le_of_ble_eq_true rfl) (rd_tok y1) kk) ?_
    refine Sx.up (fun _ kk => r_getI 52 dX5_read_49 rfl f5_48 rfl (by first | with_reducible assumption | with_reducible exact cr_bs hC | rfl) (by first | with_reducible assumption | with_reducible exact cr_bn hC | exact Nat.le_of_ble_eq_true rfl) kk) ?_
    refine Sx.br (fun _ ka kb => r_if_eq 55 65 dX5_read_52 rfl (by decide) ka kb) (by first | exact em1 | exact em2) (fun h52 => ?_) (fun h52 => ?_)
    · refine Sx.up (fun _ kk => r_aload_n 66 dX5_read_65 rfl rfl kk) ?_
      refine Sx.up (fun _ kk => r_getIV (fndS s) 69 dX5_read_66 rfl f5_25 rfl (by first | with_reducible assumption | with_reducible exact cr_bs hC | rfl) (by first | with_reducible assumption | with_reducible exact cr_bn hC | exact Nat.le_of_ble_eq_true rfl) (rd_fnd y1) kk) ?_
      refine ⟨_, ?_, r_iret dX5_read_69 rfl rfl rfl⟩
      refine ⟨_, ?_, ?_⟩
      rotate_left
      · rw [hn (hgo9.mp h52)]; exact y1
      · rw [hn (hgo9.mp h52)]
    · refine Sx.up (fun _ kk => r_aload_n 56 dX5_read_55 rfl rfl kk) ?_
      obtain ⟨_, ⟨E2, rfl, y2⟩, hcl2⟩ := rd_line (d := d) y1 hs9
      refine Sx.up (fun _ kk => r_callV 59 dX5_read_56 rfl k5_51 hcl2 rfl rfl (by first | with_reducible assumption | with_reducible exact cr_bs hC | rfl) (by decide) rfl (by first | with_reducible assumption | with_reducible exact cr_bn hC | exact Nat.le_of_ble_eq_true rfl) (Nat.le_of_ble_eq_true rfl) kk) ?_
      refine Sx.up (fun _ kk => r_iinc (1) 62 dX5_read_59 rfl rfl (by decide) (by decide) rfl kk) ?_
      refine Sx.up (fun _ kk => r_goto 39 dX5_read_62 (by decide) kk) ?_
      have hc : goC T s = true := Classical.byContradiction (fun z => h52 (hgo9.mpr z))
      rw [hy hc]
      have hg := hq (E2, liS T s) ⟨y2, slk_mo mo_li hs9⟩
      rw [nI_pp]
      exact hg
