/-! The reader: lines, a text -/
/-- from s to s2 the place goes on, and the rule grows no faster -/
def Mo (s s2 : PS) : Prop := (∃ x, s2 = .inl x) ∨ ∃ a B a2 B2, s = .inr (a, B) ∧ s2 = .inr (a2, B2) ∧ a ≤ a2 ∧ (bR B2).length + a ≤ (bR B).length + a2
theorem mo_tr {s s2 s3 : PS} (h : Mo s s2) (h2 : Mo s2 s3) : Mo s s3 := by
  rcases h2 with z | ⟨a, B, a2, B2, e1, e2, e3, e4⟩
  · exact Or.inl z
  · rcases h with ⟨x, z⟩ | ⟨c, D, c2, D2, f1, f2, f3, f4⟩
    · rw [z] at e1; cases e1
    · rw [f2] at e1
      have e1' := Sum.inr.inj e1
      cases e1'
      exact Or.inr ⟨c, D, a2, B2, f1, e2, by omega, by omega⟩
theorem mo_ext {h : Nat} {s s2 : PS} (q : Ext h s s2) : Mo s s2 := by
  rcases q with z | ⟨a, B, a2, X, e1, e2, e3, e4⟩
  · exact Or.inl z
  · exact Or.inr ⟨a, B, a2, _, e1, e2, by omega, by rw [addR_R, List.length_append]; omega⟩
theorem mo_at {a a2 : Nat} {B B2 : BD} (h : a ≤ a2) (hR : bR B2 = bR B) : Mo (.inr (a, B)) (.inr (a2, B2)) := Or.inr ⟨a, B, a2, B2, rfl, rfl, h, by rw [hR]; omega⟩
theorem mo_inl {s : PS} {x : Nat × Nat} : Mo s (.inl x) := Or.inl ⟨x, rfl⟩
theorem mo_flt {s : PS} {k : Nat} : Mo s (fltS k s) := by cases s <;> exact mo_inl
theorem mo_adv {T : TX} {s : PS} : Mo s (advS T s) := by
  cases s with
  | inl x => exact mo_inl
  | inr q => exact mo_at (nxT_le (T := T) (a := q.1)).1 rfl
theorem mo_sgn {T : TX} {c : Int32} {s : PS} : Mo s (sgnS T c s) := by
  unfold sgnS
  split
  · exact mo_adv
  · exact mo_flt
theorem mo_tk {T : TX} {lo hi : Nat} {s : PS} : Mo s (tkS T lo hi s) := by
  unfold tkS
  split
  · split
    · exact mo_adv
    · exact mo_flt
  · exact mo_flt
theorem mo_new {T : TX} {s : PS} : Mo s (newS T s) := by
  cases s with
  | inl x => exact mo_inl
  | inr q =>
    show Mo _ (if 7 ≤ bC q.2 then .inl (2, q.1) else .inr (nxT T q.1, q.2))
    split
    · exact mo_inl
    · exact mo_adv (T := T) (s := .inr q)
theorem mo_sl {f : Nat → Int32} {s : PS} : Mo s (slS f s) := by
  cases s with
  | inl x => exact mo_inl
  | inr q => exact mo_at (Nat.le_refl _) rfl
theorem mo_sc {i : Nat} {v : Int32} {s : PS} : Mo s (scS i v s) := by
  cases s with
  | inl x => exact mo_inl
  | inr q => exact mo_at (Nat.le_refl _) rfl
theorem mo_on {T : TX} {l : Int32} {s : PS} : Mo s (onS T l s) := by
  cases s with
  | inl x => exact mo_inl
  | inr q =>
    show Mo _ (if bX q.2 5 &&& l = 0 then .inr (nxT T q.1, setX q.2 5 (bX q.2 5 ||| l)) else .inl (5, q.1))
    split
    · exact mo_at (nxT_le (T := T) (a := q.1)).1 rfl
    · exact mo_inl
theorem mo_or {v : Int32} {s : PS} : Mo s (orX v s) := by
  cases s with
  | inl x => exact mo_inl
  | inr q => exact mo_at (Nat.le_refl _) rfl
theorem mo_nf {s : PS} : Mo s (neF s) := by
  cases s with
  | inl x => exact mo_inl
  | inr q =>
    show Mo _ (if 6 ≤ bN q.2 then .inl (2, q.1) else .inr (q.1, q.2))
    split
    · exact mo_inl
    · exact mo_at (Nat.le_refl _) rfl
theorem mo_un {T : TX} {s : PS} : Mo s (unS T s) := by
  cases s with
  | inl x => exact mo_inl
  | inr q =>
    show Mo _ (if inN T q.1 (bC q.2) 9999 = true then .inl (3, q.1) else .inr (q.1, q.2))
    split
    · exact mo_inl
    · exact mo_at (Nat.le_refl _) rfl
theorem mo_ag {T : TX} {v : Nat} {s : PS} : Mo s (agS T v s) := by
  cases s with
  | inl x => exact mo_inl
  | inr q =>
    show Mo _ (if kdT T q.1 = 2 ∧ numT T q.1 < bC q.2 ∧ (numT T q.1 = v ∨ (bE q.2 v >>> (nI (numT T q.1) &&& 31)) &&& 1 = 1) then .inl (4, q.1) else .inr (q.1, q.2))
    split
    · exact mo_inl
    · exact mo_at (Nat.le_refl _) rfl
theorem mo_nv {x y : Nat} {s : PS} : Mo s (nvS x y s) := by
  cases s with
  | inl x => exact mo_inl
  | inr q => exact mo_at (Nat.le_refl _) rfl
theorem mo_bd {T : TX} {s : PS} : Mo s (boD T s) := by
  unfold boD
  split
  · exact mo_flt
  · cases s with
    | inl x => exact mo_inl
    | inr q => exact mo_at (Nat.le_refl _) rfl
theorem mo_line {T : TX} {s : PS} : Mo s (lineS T s) := by
  have h1 : ∀ k, Mo s (peS T k s) := fun k => mo_tr mo_new (mo_tr mo_tk (mo_tr mo_tk (mo_tr mo_tk (mo_tr mo_tk (mo_tr mo_tk (mo_tr mo_tk mo_sl))))))
  unfold lineS
  split
  · exact h1 _
  · split
    · exact h1 _
    · split
      · exact h1 _
      · split
        · exact mo_tr mo_new (mo_tr mo_tk mo_sl)
        · split
          · exact mo_tr mo_adv (mo_tr mo_bd (mo_tr mo_tk mo_or))
          · split
            · exact mo_tr mo_nf (mo_tr mo_adv (mo_tr mo_un (mo_tr mo_tk (mo_tr mo_un (mo_tr mo_ag (mo_tr mo_tk mo_nv))))))
            · split
              · exact mo_tr mo_on (mo_ext (expr_ext 6 _))
              · split
                · exact mo_tr mo_on (mo_tr mo_tk (mo_tr mo_sc (mo_tr mo_tk mo_sc)))
                · split
                  · exact mo_tr mo_on (mo_tr mo_tk mo_sc)
                  · split
                    · exact mo_tr mo_on (mo_tr mo_tk mo_sc)
                    · exact mo_flt
theorem mo_li {T : TX} {s : PS} : Mo s (liS T s) := mo_tr mo_line mo_sgn
theorem slk_mo {j : Nat} {s s2 : PS} (q : Mo s s2) (hs : slk j s) : slk j s2 := by
  rcases q with ⟨x, e⟩ | ⟨a, B, a2, B2, e1, e2, e3, e4⟩
  · rw [e]; trivial
  · rw [e1] at hs
    rw [e2]
    have hs : (bR B).length + j ≤ a := hs
    show (bR B2).length + j ≤ a2
    omega
theorem aft_mo {m : Nat} {s s2 : PS} (q : Mo s s2) (hs : aft m s) : aft m s2 := by
  rcases q with ⟨x, e⟩ | ⟨a, B, a2, B2, e1, e2, e3, e4⟩
  · rw [e]; trivial
  · rw [e1] at hs
    rw [e2]
    have hs : m ≤ a := hs
    show m ≤ a2
    omega
theorem tk_live {T : TX} {lo hi a : Nat} {B : BD} {s : PS} (h : tkS T lo hi s = .inr (a, B)) : ∃ a0, s = .inr (a0, B) ∧ a = nxT T a0 ∧ kdT T a0 = 2 ∧ lo ≤ numT T a0 ∧ numT T a0 ≤ hi := by
  cases s with
  | inl x => cases h
  | inr q =>
    unfold tkS at h
    by_cases h1 : kiS T 2 (.inr q) = true
    · rw [if_pos h1] at h
      by_cases h2 : nwS T lo hi (.inr q) = true
      · rw [if_pos h2] at h
        have h := Sum.inr.inj h
        cases h
        exact ⟨q.1, rfl, rfl, in_num h2⟩
      · rw [if_neg h2] at h; cases h
    · rw [if_neg h1] at h; cases h
theorem new_live {T : TX} {a : Nat} {B : BD} {s : PS} (h : newS T s = .inr (a, B)) : bC B < 7 := by
  cases s with
  | inl x => cases h
  | inr q =>
    have h : (if 7 ≤ bC q.2 then .inl (2, q.1) else .inr (nxT T q.1, q.2)) = (.inr (a, B) : PS) := h
    by_cases h1 : 7 ≤ bC q.2
    · rw [if_pos h1] at h; cases h
    · rw [if_neg h1] at h
      have h := Sum.inr.inj h
      cases h
      omega
theorem scs_eq {i : Nat} {v u : Int32} {t : PS} (h : ∀ a B, t = .inr (a, B) → v = u) : scS i v t = scS i u t := by
  cases t with
  | inl x => rfl
  | inr q => rw [h q.1 q.2 rfl]
theorem rd_scal {E0 E : HP} {T : TX} {b : Nat} {s : PS} {i : Nat} {v : Int32} (y1 : CRd E0 E T b s) (hi : i < 5) : CRd E0 (sI E (5 + i) b v) T b (scS i v s) := by
  have hb := rd_b y1
  have hF := rd_F y1
  have i2 : ∀ g k, ¬ (g = 5 + i ∧ k = b) → gI (sI E (5 + i) b v) g k = gI E g k := fun g k z => by rw [gI_sI, if_neg z]
  refine rd_step y1 (fr_sI (Or.inr (Or.inr (by omega))) fr_rfl) sr_rfl ⟨hF.1, hF.2.1, (i2 _ _ (by omega)).trans hF.2.2.1, hF.2.2.2⟩ ?_
  cases s with
  | inl z =>
    obtain ⟨c1, c2, c3, c4, c5, ⟨q, q1, q2, q3, q4⟩⟩ := id y1.2
    exact ⟨(i2 _ _ (by omega)).trans c1, c2, c3, (i2 _ _ (by omega)).trans c4, c5, q, q1, (i2 _ _ (by omega)).trans q2, (i2 _ _ (by omega)).trans q3, (i2 _ _ (by omega)).trans q4⟩
  | inr z =>
    obtain ⟨c1, c2, c3, c4, o1, o2, o3, o4, o5, o6, o7, o8, o9, o10, o11⟩ := id y1.2
    refine ⟨(i2 _ _ (by omega)).trans c1, (i2 _ _ (by omega)).trans c2, c3, ⟨(i2 _ _ (by omega)).trans c4.1, (i2 _ _ (by omega)).trans c4.2.1, (i2 _ _ (by omega)).trans c4.2.2⟩, (i2 _ _ (by omega)).trans o1, o2, fun s hs k k1 k7 => (i2 _ _ (by omega)).trans (o3 s hs k k1 k7), o4, fun j hj => ?_, ?_, (i2 _ _ (by omega)).trans o7, o8, (i2 _ _ (by omega)).trans o9, o10, o11⟩
    · show _ = (if j = i then v else bX z.2 j)
      by_cases e : j = i
      · rw [if_pos e, gI_sI, if_pos ⟨by omega, rfl⟩]
      · rw [if_neg e, i2 _ _ (by omega)]; exact o5 j hj
    · show _ = (if 5 = i then v else bX z.2 5)
      rw [if_neg (by omega), i2 _ _ (by omega)]; exact o6
theorem rd_once {E0 E : HP} {T : TX} {b : Nat} {s : PS} {v : Int32} (y1 : CRd E0 E T b s) : CRd E0 (sI E 644 41 v) T b (scS 5 v s) := by
  have hb := rd_b y1
  have hF := rd_F y1
  have i2 : ∀ g k, ¬ (g = 644 ∧ k = 41) → gI (sI E 644 41 v) g k = gI E g k := fun g k z => by rw [gI_sI, if_neg z]
  refine rd_step y1 (fr_sI (Or.inl rfl) fr_rfl) sr_rfl ⟨hF.1, hF.2.1, (i2 _ _ (by omega)).trans hF.2.2.1, hF.2.2.2⟩ ?_
  cases s with
  | inl z =>
    obtain ⟨c1, c2, c3, c4, c5, ⟨q, q1, q2, q3, q4⟩⟩ := id y1.2
    exact ⟨(i2 _ _ (by omega)).trans c1, c2, c3, (i2 _ _ (by omega)).trans c4, c5, q, q1, (i2 _ _ (by omega)).trans q2, (i2 _ _ (by omega)).trans q3, (i2 _ _ (by omega)).trans q4⟩
  | inr z =>
    obtain ⟨c1, c2, c3, c4, o1, o2, o3, o4, o5, o6, o7, o8, o9, o10, o11⟩ := id y1.2
    refine ⟨(i2 _ _ (by omega)).trans c1, (i2 _ _ (by omega)).trans c2, c3, ⟨(i2 _ _ (by omega)).trans c4.1, (i2 _ _ (by omega)).trans c4.2.1, (i2 _ _ (by omega)).trans c4.2.2⟩, (i2 _ _ (by omega)).trans o1, o2, fun s hs k k1 k7 => (i2 _ _ (by omega)).trans (o3 s hs k k1 k7), o4, fun j hj => ?_, ?_, (i2 _ _ (by omega)).trans o7, o8, (i2 _ _ (by omega)).trans o9, o10, o11⟩
    · show _ = (if j = 5 then v else bX z.2 j)
      rw [if_neg (by omega), i2 _ _ (by omega)]; exact o5 j hj
    · show _ = (if 5 = 5 then v else bX z.2 5)
      rw [if_pos rfl, gI_sI, if_pos ⟨rfl, rfl⟩]
theorem rd_tell {E0 E E2 : HP} {T : TX} {b w : Nat} {s : PS} {x f : Nat → Int32} (y1 : CRd E0 E T b s) (hw : w = whoId b (gI E 4 b)) (fr : Fr (fun k => k = w ∨ k = b) E E2) (sr : SR E E2) (h4 : gI E2 4 b = gI E 4 b + 1) (h9 : ∀ g, g ≠ 4 → gI E2 g b = gI E g b) (hx : ∀ k, 1 ≤ k → k ≤ 7 → gI E2 (1023 + k) w = x k) (hv : ∀ a B, s = .inr (a, B) → bC B < 7 ∧ ∀ k, 1 ≤ k → k ≤ 7 → x k = f k) : CRd E0 E2 T b (slS f s) := by
  have hb := rd_b y1
  have hF := rd_F y1
  have hr := whoId_r hb (gI E 4 b)
  rw [← hw] at hr
  have i2 : ∀ g k, k ≠ w → k ≠ b → gI E2 g k = gI E g k := fun g k z1 z2 => fr_gI fr (by omega) g
  have a2 : ∀ k, k ≠ w → k ≠ b → gA E2 k = gA E k := fun k z1 z2 => fr_gA fr (by omega)
  refine rd_step y1 (fr_mono fr (fun k z => Or.inr (Or.inr (by omega)))) sr ⟨sr_gR sr hF.1, sr_row sr hF.2.1, (i2 _ _ (by omega) (by omega)).trans hF.2.2.1, fun i hi => by rw [a2 _ (by omega) (by omega)]; exact hF.2.2.2 i hi⟩ ?_
  cases s with
  | inl z =>
    obtain ⟨c1, c2, c3, c4, c5, ⟨q, q1, q2, q3, q4⟩⟩ := id y1.2
    exact ⟨(i2 _ _ (by omega) (by omega)).trans c1, c2, c3, (i2 _ _ (by omega) (by omega)).trans c4, c5, q, q1, (i2 _ _ (by omega) (by omega)).trans q2, (i2 _ _ (by omega) (by omega)).trans q3, (i2 _ _ (by omega) (by omega)).trans q4⟩
  | inr z =>
    obtain ⟨a, B⟩ := z
    obtain ⟨c1, c2, c3, c4, o1, o2, o3, o4, o5, o6, o7, o8, o9, o10, o11⟩ := id y1.2
    obtain ⟨hc7, hxf⟩ := hv a B rfl
    have ew : w = b + 12 + bC B := by rw [hw, o1, whoId_nI hc7]
    refine ⟨(i2 _ _ (by omega) (by omega)).trans c1, (i2 _ _ (by omega) (by omega)).trans c2, c3, ⟨(i2 _ _ (by omega) (by omega)).trans c4.1, (i2 _ _ (by omega) (by omega)).trans c4.2.1, (i2 _ _ (by omega) (by omega)).trans c4.2.2⟩, ?_, ?_, fun s hs k k1 k7 => ?_, fun s hs => by rw [a2 _ (by omega) (by omega)]; exact o4 s hs, fun j hj => (h9 _ (by omega)).trans (o5 j hj), (i2 _ _ (by omega) (by omega)).trans o6, (h9 _ (by omega)).trans o7, o8, (i2 _ _ (by omega) (by omega)).trans o9, o10, fun j hj => by rw [a2 _ (by omega) (by omega)]; exact o11 j hj⟩
    · rw [h4, o1, nI_pp]; rfl
    · show bC B + 1 ≤ 7; omega
    · have hs : s < bC B + 1 := hs
      show _ = (if s = bC B then f k else bL B k s)
      by_cases e : s = bC B
      · rw [if_pos e, e, ← ew, hx k k1 k7]; exact hxf k k1 k7
      · rw [if_neg e, i2 _ _ (by omega) (by omega)]; exact o3 s (by omega) k k1 k7
theorem new_y {E0 E : HP} {T : TX} {b : Nat} {s : PS} (y1 : CRd E0 E T b s) (h : gI E 4 b < 7) : newS T s = advS T s := by
  cases s with
  | inl z => rfl
  | inr z =>
    have o1 : gI E 4 b = nI (bC z.2) := y1.2.2.2.2.2.1
    have o2 : bC z.2 ≤ 7 := y1.2.2.2.2.2.2.1
    rw [o1] at h
    exact if_neg (fun q => absurd h (nI_nlt (b := 7) q (by omega)))
theorem new_n {E0 E : HP} {T : TX} {b : Nat} {s : PS} (y1 : CRd E0 E T b s) (h : ¬ gI E 4 b < 7) : newS T s = advS T (fltS 2 s) := by
  cases s with
  | inl z => rfl
  | inr z =>
    have o1 : gI E 4 b = nI (bC z.2) := y1.2.2.2.2.2.1
    rw [o1] at h
    exact if_pos (Nat.le_of_not_lt (fun q => h (nI_lt (b := 7) q (by omega))))
theorem on_y {E0 E : HP} {T : TX} {b : Nat} {s : PS} {l : Int32} (y1 : CRd E0 E T b s) (h : gI E 644 41 &&& l = 0) : onS T l s = advS T (scS 5 (gI E 644 41 ||| l) s) := by
  cases s with
  | inl z => rfl
  | inr z =>
    have o1 : gI E 644 41 = bX z.2 5 := y1.2.2.2.2.2.2.2.2.2.2.1
    rw [o1] at h ⊢
    exact if_pos h
theorem on_n {E0 E : HP} {T : TX} {b : Nat} {s : PS} {l v : Int32} (y1 : CRd E0 E T b s) (h : ¬ gI E 644 41 &&& l = 0) : onS T l s = advS T (scS 5 v (fltS 5 s)) := by
  cases s with
  | inl z => rfl
  | inr z =>
    have o1 : gI E 644 41 = bX z.2 5 := y1.2.2.2.2.2.2.2.2.2.2.1
    rw [o1] at h
    exact if_neg h
def unC (T : TX) : PS → Bool
  | .inl _ => false
  | .inr (a, B) => inN T a (bC B) 9999
theorem un_if {T : TX} (s : PS) : unS T s = if unC T s = true then fltS 3 s else s := by
  cases s with
  | inl z => rfl
  | inr z => rfl
def tdC (T : TX) : PS → Bool
  | .inl _ => false
  | .inr (a, B) => decide (kdT T a = 2 ∧ numT T a < bC B)
set_option maxRecDepth 20000 in
theorem rd_unw {d : Nat} {x z : Int32} {E0 E : HP} {T : TX} {b : Nat} {s : PS} (y1 : CRd E0 E T b s) (hx : x = gI E 4 b) (hz : z = 9999) : Cl yX10_isNumberWithin mX10_isNumberWithin (d + 2) 0 0 [.ref 42, .int x, .int z] E 137 (.inl (some (.int (bI (unC T s)))), E, 137) := by
  subst hx
  subst hz
  cases s with
  | inl x => exact c_isNumD (rd_T y1) (rd_F y1) y1.2.2.2.2.2.2
  | inr x =>
    have o1 : gI E 4 b = nI (bC x.2) := y1.2.2.2.2.2.1
    have o2 : bC x.2 ≤ 7 := y1.2.2.2.2.2.2.1
    rw [o1]
    exact rd_numw (lo := bC x.2) (hi := 9999) y1 rfl rfl (by omega) (by decide)
set_option maxRecDepth 20000 in
theorem rd_tdw {d : Nat} {x z : Int32} {E0 E : HP} {T : TX} {b : Nat} {s : PS} (y1 : CRd E0 E T b s) (hx : x = 0) (hz : z = gI E 4 b - 1) : Cl yX10_isNumberWithin mX10_isNumberWithin (d + 2) 0 0 [.ref 42, .int x, .int z] E 137 (.inl (some (.int (bI (tdC T s)))), E, 137) := by
  subst hx
  subst hz
  cases s with
  | inl x => exact c_isNumD (rd_T y1) (rd_F y1) y1.2.2.2.2.2.2
  | inr x =>
    have o1 : gI E 4 b = nI (bC x.2) := y1.2.2.2.2.2.1
    have o2 : bC x.2 ≤ 7 := y1.2.2.2.2.2.2.1
    have h9 := c_isNumL (d := d) (lo := 0) (hi := gI E 4 b - 1) (rd_T y1) (rd_F y1) y1.2.2.2.2.1 y1.2.2.2.1
    rw [b01_bI (p := kdT T x.1 = 2 ∧ numT T x.1 < bC x.2) ?_] at h9
    · exact h9
    · rw [o1]
      constructor
      · rintro ⟨e1, e2, e3⟩
        have hl := num_lt e1
        refine ⟨e1, ?_⟩
        cases hc : bC x.2 with
        | zero => rw [hc] at e3; exact absurd (Int32.lt_of_lt_of_le (show nI 0 - 1 < 0 by decide) (Int32.not_lt.mp (nI_pos (n := numT T x.1) (by omega)))) e3
        | succ c => rw [hc, nI_pred] at e3; have := (nlt_le (by omega) (by omega)).mp e3; omega
      · rintro ⟨e1, e2⟩
        have hl := num_lt e1
        refine ⟨e1, nI_pos (by omega), ?_⟩
        cases hc : bC x.2 with
        | zero => omega
        | succ c => rw [nI_pred]; exact (nlt_le (by omega) (by omega)).mpr (by omega)
set_option maxRecDepth 20000 in
theorem rd_new {d : Nat} {E0 E : HP} {T : TX} {b : Nat} {s : PS}  (y1 : CRd E0 E T b s)  : ∃ o, (∃ E2, o = (.inl none, E2, 137) ∧ CRd E0 E2 T b (newS T s)) ∧ Cl yX5_takeNewSleeper mX5_takeNewSleeper (d + 6) 0 0 [.ref 41] E 137 o := by
  have hb := rd_b y1
  have hbs : sh b = (0, 0) := bo_1 (rd_bed y1)
  have hbn : b < 137 := by omega
  have hb5 : sh (b + 5) = (7, 0) := (rd_bed y1).2.2.2.2.2.2.2.2.2.1.1
  have hb5n : b + 5 < 137 := by omega
  refine Cx.of (by decide) rfl (fun q => by cases q) rfl rfl (Nat.le_of_ble_eq_true rfl) ?_
  show Sx _ _ _ _ _ 0 [some (.ref 41)] [] _ _
  refine Sx.up (fun _ kk => r_aload_n 1 dX5_takeNewSleeper_0 rfl rfl kk) ?_
  refine Sx.up (fun _ kk => r_getR 4 dX5_takeNewSleeper_1 rfl f5_35 rfl (by first | with_reducible assumption | with_reducible exact cr_bs hC | rfl) (by first | with_reducible assumption | with_reducible exact cr_bn hC | exact Nat.le_of_ble_eq_true rfl) (rd_into y1) kk) ?_
  refine Sx.up (fun _ kk => r_getI 7 dX5_takeNewSleeper_4 rfl f5_145 rfl (by first | with_reducible assumption | with_reducible exact cr_bs hC | rfl) (by first | with_reducible assumption | with_reducible exact cr_bn hC | exact Nat.le_of_ble_eq_true rfl) kk) ?_
  refine Sx.up (fun _ kk => r_bipush (7) 9 dX5_takeNewSleeper_7 rfl (by decide) kk) ?_
  refine Sx.br (fun _ ka kb => r_icmp_lt 12 17 dX5_takeNewSleeper_9 rfl (by decide) ka kb) (by first | exact em1 | exact em2) (fun h9 => ?_) (fun h9 => ?_)
  · refine Sx.up (fun _ kk => r_aload_n 18 dX5_takeNewSleeper_17 rfl rfl kk) ?_
    refine Sx.up (fun _ kk => r_getR 21 dX5_takeNewSleeper_18 rfl f5_19 rfl (by first | with_reducible assumption | with_reducible exact cr_bs hC | rfl) (by first | with_reducible assumption | with_reducible exact cr_bn hC | exact Nat.le_of_ble_eq_true rfl) (rd_tok y1) kk) ?_
    obtain ⟨_, ⟨E2, rfl, y2⟩, hcl2⟩ := rd_adv (d := d) y1
    refine Sx.up (fun _ kk => r_callV (M := mX5_takeNewSleeper) (pc := 21) 24 dX5_takeNewSleeper_21 rfl k5_131 hcl2 rfl rfl (by first | with_reducible assumption | with_reducible exact cr_bs hC | rfl) (by decide) rfl (by first | with_reducible assumption | with_reducible exact cr_bn hC | exact Nat.le_of_ble_eq_true rfl) (Nat.le_of_ble_eq_true rfl) kk) ?_
    refine ⟨_, ?_, r_vret dX5_takeNewSleeper_24 rfl rfl rfl⟩
    refine ⟨_, rfl, ?_⟩
    first | (rw [new_y y1 h9]; exact y2) | (rw [new_n y1 h9]; exact y2)
  · refine Sx.up (fun _ kk => r_aload_n 13 dX5_takeNewSleeper_12 rfl rfl kk) ?_
    refine Sx.up (fun _ kk => r_iconst (2) 14 dX5_takeNewSleeper_13 rfl (by decide) kk) ?_
    obtain ⟨_, ⟨E3, rfl, y3⟩, hcl3⟩ := rd_refuse (d := d + 4) y1 (k := 2) (k9 := 2) rfl (by decide) (by decide)
    refine Sx.up (fun _ kk => r_callV (M := mX5_takeNewSleeper) (pc := 14) 17 dX5_takeNewSleeper_14 rfl k5_128 hcl3 rfl rfl (by first | with_reducible assumption | with_reducible exact cr_bs hC | rfl) (by decide) rfl (by first | with_reducible assumption | with_reducible exact cr_bn hC | exact Nat.le_of_ble_eq_true rfl) (Nat.le_of_ble_eq_true rfl) kk) ?_
    refine Sx.up (fun _ kk => r_aload_n 18 dX5_takeNewSleeper_17 rfl rfl kk) ?_
    refine Sx.up (fun _ kk => r_getR 21 dX5_takeNewSleeper_18 rfl f5_19 rfl (by first | with_reducible assumption | with_reducible exact cr_bs hC | rfl) (by first | with_reducible assumption | with_reducible exact cr_bn hC | exact Nat.le_of_ble_eq_true rfl) (rd_tok y3) kk) ?_
    obtain ⟨_, ⟨E4, rfl, y4⟩, hcl4⟩ := rd_adv (d := d) y3
    refine Sx.up (fun _ kk => r_callV (M := mX5_takeNewSleeper) (pc := 21) 24 dX5_takeNewSleeper_21 rfl k5_131 hcl4 rfl rfl (by first | with_reducible assumption | with_reducible exact cr_bs hC | rfl) (by decide) rfl (by first | with_reducible assumption | with_reducible exact cr_bn hC | exact Nat.le_of_ble_eq_true rfl) (Nat.le_of_ble_eq_true rfl) kk) ?_
    refine ⟨_, ?_, r_vret dX5_takeNewSleeper_24 rfl rfl rfl⟩
    refine ⟨_, rfl, ?_⟩
    first | (rw [new_y y1 h9]; exact y4) | (rw [new_n y1 h9]; exact y4)
set_option maxRecDepth 20000 in
theorem rd_onceS {d : Nat} {E0 E : HP} {T : TX} {b : Nat} {s : PS} {l : Int32} (y1 : CRd E0 E T b s)  : ∃ o, (∃ E2, o = (.inl none, E2, 137) ∧ CRd E0 E2 T b (onS T l s)) ∧ Cl yX5_takeOnce mX5_takeOnce (d + 6) 0 0 [.ref 41, .int l] E 137 o := by
  have hb := rd_b y1
  have hbs : sh b = (0, 0) := bo_1 (rd_bed y1)
  have hbn : b < 137 := by omega
  have hb5 : sh (b + 5) = (7, 0) := (rd_bed y1).2.2.2.2.2.2.2.2.2.1.1
  have hb5n : b + 5 < 137 := by omega
  refine Cx.of (by decide) rfl (fun q => by cases q) rfl rfl (Nat.le_of_ble_eq_true rfl) ?_
  show Sx _ _ _ _ _ 0 [some (.ref 41), some (.int (l))] [] _ _
  refine Sx.up (fun _ kk => r_aload_n 1 dX5_takeOnce_0 rfl rfl kk) ?_
  refine Sx.up (fun _ kk => r_getI 4 dX5_takeOnce_1 rfl f5_32 rfl (by first | with_reducible assumption | with_reducible exact cr_bs hC | rfl) (by first | with_reducible assumption | with_reducible exact cr_bn hC | exact Nat.le_of_ble_eq_true rfl) kk) ?_
  refine Sx.up (fun _ kk => r_iload_n 5 dX5_takeOnce_4 rfl rfl kk) ?_
  refine Sx.up (fun _ kk => r_iand 6 dX5_takeOnce_5 rfl kk) ?_
  refine Sx.br (fun _ ka kb => r_if_eq 9 14 dX5_takeOnce_6 rfl (by decide) ka kb) (by first | exact em1 | exact em2) (fun h6 => ?_) (fun h6 => ?_)
  · refine Sx.up (fun _ kk => r_aload_n 15 dX5_takeOnce_14 rfl rfl kk) ?_
    refine Sx.up (fun _ kk => r_dup 16 dX5_takeOnce_15 rfl rfl kk) ?_
    refine Sx.up (fun _ kk => r_getI 19 dX5_takeOnce_16 rfl f5_32 rfl (by first | with_reducible assumption | with_reducible exact cr_bs hC | rfl) (by first | with_reducible assumption | with_reducible exact cr_bn hC | exact Nat.le_of_ble_eq_true rfl) kk) ?_
    refine Sx.up (fun _ kk => r_iload_n 20 dX5_takeOnce_19 rfl rfl kk) ?_
    refine Sx.up (fun _ kk => r_ior 21 dX5_takeOnce_20 rfl kk) ?_
    refine Sx.up (fun _ kk => r_putI 24 dX5_takeOnce_21 rfl f5_32 (by first | with_reducible assumption | with_reducible exact cr_bs hC | rfl) (by first | with_reducible assumption | with_reducible exact cr_bn hC | exact Nat.le_of_ble_eq_true rfl) kk) ?_
    have yo := rd_once (v := gI E 644 41 ||| l) y1
    refine Sx.up (fun _ kk => r_aload_n 25 dX5_takeOnce_24 rfl rfl kk) ?_
    refine Sx.up (fun _ kk => r_getR 28 dX5_takeOnce_25 rfl f5_19 rfl (by first | with_reducible assumption | with_reducible exact cr_bs hC | rfl) (by first | with_reducible assumption | with_reducible exact cr_bn hC | exact Nat.le_of_ble_eq_true rfl) (rd_tok yo) kk) ?_
    obtain ⟨_, ⟨E2, rfl, y2⟩, hcl2⟩ := rd_adv (d := d) yo
    refine Sx.up (fun _ kk => r_callV (M := mX5_takeOnce) (pc := 28) 31 dX5_takeOnce_28 rfl k5_131 hcl2 rfl rfl (by first | with_reducible assumption | with_reducible exact cr_bs hC | rfl) (by decide) rfl (by first | with_reducible assumption | with_reducible exact cr_bn hC | exact Nat.le_of_ble_eq_true rfl) (Nat.le_of_ble_eq_true rfl) kk) ?_
    refine ⟨_, ?_, r_vret dX5_takeOnce_31 rfl rfl rfl⟩
    refine ⟨_, rfl, ?_⟩
    first | (rw [on_y y1 h6]; exact y2) | (rw [on_n y1 h6]; exact y2)
  · refine Sx.up (fun _ kk => r_aload_n 10 dX5_takeOnce_9 rfl rfl kk) ?_
    refine Sx.up (fun _ kk => r_iconst (5) 11 dX5_takeOnce_10 rfl (by decide) kk) ?_
    obtain ⟨_, ⟨E3, rfl, y3⟩, hcl3⟩ := rd_refuse (d := d + 4) y1 (k := 5) (k9 := 5) rfl (by decide) (by decide)
    refine Sx.up (fun _ kk => r_callV (M := mX5_takeOnce) (pc := 11) 14 dX5_takeOnce_11 rfl k5_128 hcl3 rfl rfl (by first | with_reducible assumption | with_reducible exact cr_bs hC | rfl) (by decide) rfl (by first | with_reducible assumption | with_reducible exact cr_bn hC | exact Nat.le_of_ble_eq_true rfl) (Nat.le_of_ble_eq_true rfl) kk) ?_
    refine Sx.up (fun _ kk => r_aload_n 15 dX5_takeOnce_14 rfl rfl kk) ?_
    refine Sx.up (fun _ kk => r_dup 16 dX5_takeOnce_15 rfl rfl kk) ?_
    refine Sx.up (fun _ kk => r_getI 19 dX5_takeOnce_16 rfl f5_32 rfl (by first | with_reducible assumption | with_reducible exact cr_bs hC | rfl) (by first | with_reducible assumption | with_reducible exact cr_bn hC | exact Nat.le_of_ble_eq_true rfl) kk) ?_
    refine Sx.up (fun _ kk => r_iload_n 20 dX5_takeOnce_19 rfl rfl kk) ?_
    refine Sx.up (fun _ kk => r_ior 21 dX5_takeOnce_20 rfl kk) ?_
    refine Sx.up (fun _ kk => r_putI 24 dX5_takeOnce_21 rfl f5_32 (by first | with_reducible assumption | with_reducible exact cr_bs hC | rfl) (by first | with_reducible assumption | with_reducible exact cr_bn hC | exact Nat.le_of_ble_eq_true rfl) kk) ?_
    have yo := rd_once (v := gI E3 644 41 ||| l) y3
    refine Sx.up (fun _ kk => r_aload_n 25 dX5_takeOnce_24 rfl rfl kk) ?_
    refine Sx.up (fun _ kk => r_getR 28 dX5_takeOnce_25 rfl f5_19 rfl (by first | with_reducible assumption | with_reducible exact cr_bs hC | rfl) (by first | with_reducible assumption | with_reducible exact cr_bn hC | exact Nat.le_of_ble_eq_true rfl) (rd_tok yo) kk) ?_
    obtain ⟨_, ⟨E4, rfl, y4⟩, hcl4⟩ := rd_adv (d := d) yo
    refine Sx.up (fun _ kk => r_callV (M := mX5_takeOnce) (pc := 28) 31 dX5_takeOnce_28 rfl k5_131 hcl4 rfl rfl (by first | with_reducible assumption | with_reducible exact cr_bs hC | rfl) (by decide) rfl (by first | with_reducible assumption | with_reducible exact cr_bn hC | exact Nat.le_of_ble_eq_true rfl) (Nat.le_of_ble_eq_true rfl) kk) ?_
    refine ⟨_, ?_, r_vret dX5_takeOnce_31 rfl rfl rfl⟩
    refine ⟨_, rfl, ?_⟩
    first | (rw [on_y y1 h6]; exact y4) | (rw [on_n y1 h6]; exact y4)
set_option maxRecDepth 20000 in
theorem rd_un {d : Nat} {E0 E : HP} {T : TX} {b : Nat} {s : PS}  (y1 : CRd E0 E T b s)  : ∃ o, (∃ E2, o = (.inl none, E2, 137) ∧ CRd E0 E2 T b (unS T s)) ∧ Cl yX5_refuseUntold mX5_refuseUntold (d + 6) 0 0 [.ref 41] E 137 o := by
  have hb := rd_b y1
  have hbs : sh b = (0, 0) := bo_1 (rd_bed y1)
  have hbn : b < 137 := by omega
  have hb5 : sh (b + 5) = (7, 0) := (rd_bed y1).2.2.2.2.2.2.2.2.2.1.1
  have hb5n : b + 5 < 137 := by omega
  refine Cx.of (by decide) rfl (fun q => by cases q) rfl rfl (Nat.le_of_ble_eq_true rfl) ?_
  show Sx _ _ _ _ _ 0 [some (.ref 41)] [] _ _
  refine Sx.up (fun _ kk => r_aload_n 1 dX5_refuseUntold_0 rfl rfl kk) ?_
  refine Sx.up (fun _ kk => r_getR 4 dX5_refuseUntold_1 rfl f5_19 rfl (by first | with_reducible assumption | with_reducible exact cr_bs hC | rfl) (by first | with_reducible assumption | with_reducible exact cr_bn hC | exact Nat.le_of_ble_eq_true rfl) (rd_tok y1) kk) ?_
  refine Sx.up (fun _ kk => r_aload_n 5 dX5_refuseUntold_4 rfl rfl kk) ?_
  refine Sx.up (fun _ kk => r_getR 8 dX5_refuseUntold_5 rfl f5_35 rfl (by first | with_reducible assumption | with_reducible exact cr_bs hC | rfl) (by first | with_reducible assumption | with_reducible exact cr_bn hC | exact Nat.le_of_ble_eq_true rfl) (rd_into y1) kk) ?_
  refine Sx.up (fun _ kk => r_getI 11 dX5_refuseUntold_8 rfl f5_145 rfl (by first | with_reducible assumption | with_reducible exact cr_bs hC | rfl) (by first | with_reducible assumption | with_reducible exact cr_bn hC | exact Nat.le_of_ble_eq_true rfl) kk) ?_
  refine Sx.up (fun _ kk => r_sipush (9999) 14 dX5_refuseUntold_11 rfl (by decide) kk) ?_
  refine Sx.up (fun _ kk => r_callV (M := mX5_refuseUntold) (pc := 14) 17 dX5_refuseUntold_14 rfl k5_134 (rd_unw (d := d + 3) y1 rfl rfl) rfl rfl (by first | with_reducible assumption | with_reducible exact cr_bs hC | rfl) (by decide) rfl (by first | with_reducible assumption | with_reducible exact cr_bn hC | exact Nat.le_of_ble_eq_true rfl) (Nat.le_of_ble_eq_true rfl) kk) ?_
  refine Sx.br (fun _ ka kb => r_if_eq 20 25 dX5_refuseUntold_17 rfl (by decide) ka kb) (by first | exact em1 | exact em2) (fun h17 => ?_) (fun h17 => ?_)
  · refine ⟨_, ?_, r_vret dX5_refuseUntold_25 rfl rfl rfl⟩
    refine ⟨_, rfl, ?_⟩
    rw [un_if]
    first | (rw [if_pos (bnz h17)]; exact y1) | (rw [if_neg (bz h17)]; exact y1)
  · refine Sx.up (fun _ kk => r_aload_n 21 dX5_refuseUntold_20 rfl rfl kk) ?_
    refine Sx.up (fun _ kk => r_iconst (3) 22 dX5_refuseUntold_21 rfl (by decide) kk) ?_
    obtain ⟨_, ⟨E2, rfl, y2⟩, hcl2⟩ := rd_refuse (d := d + 4) y1 (k := 3) (k9 := 3) rfl (by decide) (by decide)
    refine Sx.up (fun _ kk => r_callV (M := mX5_refuseUntold) (pc := 22) 25 dX5_refuseUntold_22 rfl k5_128 hcl2 rfl rfl (by first | with_reducible assumption | with_reducible exact cr_bs hC | rfl) (by decide) rfl (by first | with_reducible assumption | with_reducible exact cr_bn hC | exact Nat.le_of_ble_eq_true rfl) (Nat.le_of_ble_eq_true rfl) kk) ?_
    refine ⟨_, ?_, r_vret dX5_refuseUntold_25 rfl rfl rfl⟩
    refine ⟨_, rfl, ?_⟩
    rw [un_if]
    first | (rw [if_pos (bnz h17)]; exact y2) | (rw [if_neg (bz h17)]; exact y2)
set_option maxRecDepth 20000 in
theorem rd_dog {d : Nat} {E0 E : HP} {T : TX} {b : Nat} {s : PS}  (y1 : CRd E0 E T b s)  : ∃ o, (∃ E2, o = (.inl none, E2, 137) ∧ CRd E0 E2 T b (dgS T s)) ∧ Cl yX5_readDog mX5_readDog (d + 7) 0 0 [.ref 41] E 137 o := by
  have hb := rd_b y1
  have hbs : sh b = (0, 0) := bo_1 (rd_bed y1)
  have hbn : b < 137 := by omega
  have hb5 : sh (b + 5) = (7, 0) := (rd_bed y1).2.2.2.2.2.2.2.2.2.1.1
  have hb5n : b + 5 < 137 := by omega
  refine Cx.of (by decide) rfl (fun q => by cases q) rfl rfl (Nat.le_of_ble_eq_true rfl) ?_
  show Sx _ _ _ _ _ 0 [some (.ref 41), none] [] _ _
  refine Sx.up (fun _ kk => r_aload_n 1 dX5_readDog_0 rfl rfl kk) ?_
  obtain ⟨_, ⟨E2, rfl, y2⟩, hcl2⟩ := rd_new (d := d) y1
  refine Sx.up (fun _ kk => r_callV (M := mX5_readDog) (pc := 1) 4 dX5_readDog_1 rfl k5_148 hcl2 rfl rfl (by first | with_reducible assumption | with_reducible exact cr_bs hC | rfl) (by decide) rfl (by first | with_reducible assumption | with_reducible exact cr_bn hC | exact Nat.le_of_ble_eq_true rfl) (Nat.le_of_ble_eq_true rfl) kk) ?_
  refine Sx.up (fun _ kk => r_aload_n 5 dX5_readDog_4 rfl rfl kk) ?_
  refine Sx.up (fun _ kk => r_iconst (1) 6 dX5_readDog_5 rfl (by decide) kk) ?_
  refine Sx.up (fun _ kk => r_bipush (9) 8 dX5_readDog_6 rfl (by decide) kk) ?_
  obtain ⟨_, ⟨E3, v3, rfl, y3, hv3⟩, hcl3⟩ := rd_take (d := d) (lo := 1) (hi := 9) y2 rfl rfl (by decide) (by decide)
  refine Sx.up (fun _ kk => r_callV (M := mX5_readDog) (pc := 8) 11 dX5_readDog_8 rfl k5_109 hcl3 rfl rfl (by first | with_reducible assumption | with_reducible exact cr_bs hC | rfl) (by decide) rfl (by first | with_reducible assumption | with_reducible exact cr_bn hC | exact Nat.le_of_ble_eq_true rfl) (Nat.le_of_ble_eq_true rfl) kk) ?_
  refine Sx.up (fun _ kk => r_istore_n 12 dX5_readDog_11 rfl (by decide) rfl kk) ?_
  refine Sx.up (fun _ kk => r_aload_n 13 dX5_readDog_12 rfl rfl kk) ?_
  refine Sx.up (fun _ kk => r_getR 16 dX5_readDog_13 rfl f5_35 rfl (by first | with_reducible assumption | with_reducible exact cr_bs hC | rfl) (by first | with_reducible assumption | with_reducible exact cr_bn hC | exact Nat.le_of_ble_eq_true rfl) (rd_into y3) kk) ?_
  refine Sx.up (fun _ kk => r_aload_n 17 dX5_readDog_16 rfl rfl kk) ?_
  refine Sx.up (fun _ kk => r_getR 20 dX5_readDog_17 rfl f5_35 rfl (by first | with_reducible assumption | with_reducible exact cr_bs hC | rfl) (by first | with_reducible assumption | with_reducible exact cr_bn hC | exact Nat.le_of_ble_eq_true rfl) (rd_into y3) kk) ?_
  refine Sx.up (fun _ kk => r_getI 23 dX5_readDog_20 rfl f5_145 rfl (by first | with_reducible assumption | with_reducible exact cr_bs hC | rfl) (by first | with_reducible assumption | with_reducible exact cr_bn hC | exact Nat.le_of_ble_eq_true rfl) kk) ?_
  obtain ⟨w8, w137⟩ := who_sh (rd_bed y3) (gI E3 4 b)
  obtain ⟨w, hw⟩ : ∃ w, whoId b (gI E3 4 b) = w := ⟨_, rfl⟩
  rw [hw] at w8 w137
  have hwc := c_X0_who (d := d + 6) (s := gI E3 4 b) (rd_bed y3)
  rw [hw] at hwc
  refine Sx.up (fun _ kk => r_callV (M := mX5_readDog) (pc := 23) 26 dX5_readDog_23 rfl k5_151 hwc rfl rfl (by first | with_reducible assumption | with_reducible exact cr_bs hC | rfl) (by decide) rfl (by first | with_reducible assumption | with_reducible exact cr_bn hC | exact Nat.le_of_ble_eq_true rfl) (Nat.le_of_ble_eq_true rfl) kk) ?_
  refine Sx.up (fun _ kk => r_iconst (3) 27 dX5_readDog_26 rfl (by decide) kk) ?_
  refine Sx.up (fun _ kk => r_iload_n 28 dX5_readDog_27 rfl rfl kk) ?_
  refine Sx.up (fun _ kk => r_callV (M := mX5_readDog) (pc := 28) 31 dX5_readDog_28 rfl k5_155 (c_X8_tell (d := d + 5) w8 w137) rfl rfl (by first | with_reducible assumption | with_reducible exact cr_bs hC | rfl) (by decide) rfl (by first | with_reducible assumption | with_reducible exact cr_bn hC | exact Nat.le_of_ble_eq_true rfl) (Nat.le_of_ble_eq_true rfl) kk) ?_
  refine Sx.up (fun _ kk => r_aload_n 32 dX5_readDog_31 rfl rfl kk) ?_
  refine Sx.up (fun _ kk => r_getR 35 dX5_readDog_32 rfl f5_35 rfl (by first | with_reducible assumption | with_reducible exact cr_bs hC | rfl) (by first | with_reducible assumption | with_reducible exact cr_bn hC | exact Nat.le_of_ble_eq_true rfl) ((show gR E3 641 41 = some b from rd_into y3)) kk) ?_
  refine Sx.up (fun _ kk => r_dup 36 dX5_readDog_35 rfl rfl kk) ?_
  refine Sx.up (fun _ kk => r_getI 39 dX5_readDog_36 rfl f5_145 rfl (by first | with_reducible assumption | with_reducible exact cr_bs hC | rfl) (by first | with_reducible assumption | with_reducible exact cr_bn hC | exact Nat.le_of_ble_eq_true rfl) kk) ?_
  refine Sx.up (fun _ kk => r_iconst (1) 40 dX5_readDog_39 rfl (by decide) kk) ?_
  refine Sx.up (fun _ kk => r_iadd 41 dX5_readDog_40 rfl kk) ?_
  refine Sx.up (fun _ kk => r_putI 44 dX5_readDog_41 rfl f5_145 (by first | with_reducible assumption | with_reducible exact cr_bs hC | rfl) (by first | with_reducible assumption | with_reducible exact cr_bn hC | exact Nat.le_of_ble_eq_true rfl) kk) ?_
  refine ⟨_, ?_, r_vret dX5_readDog_44 rfl rfl rfl⟩
  refine ⟨_, rfl, ?_⟩
  have hr := whoId_r hb (gI E3 4 b)
  rw [hw] at hr
  refine rd_tell (w := w) (x := kd7 3 0 0 0 v3 0 0) y3 hw.symm ?_ sr_rfl ?_ (fun g hg => ?_) (fun k k1 k7 => ?_) (fun a B hs => ?_)
  · exact fr_sI (Or.inr rfl) (fr_sI (Or.inl rfl) (fr_sI (Or.inl rfl) (fr_sI (Or.inl rfl) (fr_sI (Or.inl rfl) (fr_sI (Or.inl rfl) (fr_sI (Or.inl rfl) (fr_sI (Or.inl rfl) fr_rfl)))))))
  · simp [gI_sI]
  · simp [gI_sI, hg, show ¬ b = w by omega]
  · match k, k1, k7 with
    | 1, _, _ => simp [gI_sI, kd7]
    | 2, _, _ => simp [gI_sI, kd7]
    | 3, _, _ => simp [gI_sI, kd7]
    | 4, _, _ => simp [gI_sI, kd7]
    | 5, _, _ => simp [gI_sI, kd7]
    | 6, _, _ => simp [gI_sI, kd7]
    | 7, _, _ => simp [gI_sI, kd7]
  · obtain ⟨a0, e0, -⟩ := tk_live hs
    exact ⟨new_live e0, fun k _ _ => by rw [hv3 a B hs]⟩
set_option maxRecDepth 20000 in
theorem rd_pers {d : Nat} {E0 E : HP} {T : TX} {b : Nat} {s : PS} {kd : Int32} (y1 : CRd E0 E T b s)  : ∃ o, (∃ E2, o = (.inl none, E2, 137) ∧ CRd E0 E2 T b (peS T kd s)) ∧ Cl yX5_readPerson mX5_readPerson (d + 7) 0 0 [.ref 41, .int kd] E 137 o := by
  have hb := rd_b y1
  have hbs : sh b = (0, 0) := bo_1 (rd_bed y1)
  have hbn : b < 137 := by omega
  have hb5 : sh (b + 5) = (7, 0) := (rd_bed y1).2.2.2.2.2.2.2.2.2.1.1
  have hb5n : b + 5 < 137 := by omega
  refine Cx.of (by decide) rfl (fun q => by cases q) rfl rfl (Nat.le_of_ble_eq_true rfl) ?_
  show Sx _ _ _ _ _ 0 [some (.ref 41), some (.int (kd)), none, none, none, none, none, none, none] [] _ _
  refine Sx.up (fun _ kk => r_aload_n 1 dX5_readPerson_0 rfl rfl kk) ?_
  obtain ⟨_, ⟨E2, rfl, y2⟩, hcl2⟩ := rd_new (d := d) y1
  refine Sx.up (fun _ kk => r_callV (M := mX5_readPerson) (pc := 1) 4 dX5_readPerson_1 rfl k5_148 hcl2 rfl rfl (by first | with_reducible assumption | with_reducible exact cr_bs hC | rfl) (by decide) rfl (by first | with_reducible assumption | with_reducible exact cr_bn hC | exact Nat.le_of_ble_eq_true rfl) (Nat.le_of_ble_eq_true rfl) kk) ?_
  refine Sx.up (fun _ kk => r_aload_n 5 dX5_readPerson_4 rfl rfl kk) ?_
  refine Sx.up (fun _ kk => r_iconst (1) 6 dX5_readPerson_5 rfl (by decide) kk) ?_
  refine Sx.up (fun _ kk => r_sipush (240) 9 dX5_readPerson_6 rfl (by decide) kk) ?_
  obtain ⟨_, ⟨E3, v3, rfl, y3, hv3⟩, hcl3⟩ := rd_take (d := d) (lo := 1) (hi := 240) y2 rfl rfl (by decide) (by decide)
  refine Sx.up (fun _ kk => r_callV (M := mX5_readPerson) (pc := 9) 12 dX5_readPerson_9 rfl k5_109 hcl3 rfl rfl (by first | with_reducible assumption | with_reducible exact cr_bs hC | rfl) (by decide) rfl (by first | with_reducible assumption | with_reducible exact cr_bn hC | exact Nat.le_of_ble_eq_true rfl) (Nat.le_of_ble_eq_true rfl) kk) ?_
  refine Sx.up (fun _ kk => r_istore_n 13 dX5_readPerson_12 rfl (by decide) rfl kk) ?_
  refine Sx.up (fun _ kk => r_aload_n 14 dX5_readPerson_13 rfl rfl kk) ?_
  refine Sx.up (fun _ kk => r_iconst (1) 15 dX5_readPerson_14 rfl (by decide) kk) ?_
  refine Sx.up (fun _ kk => r_sipush (240) 18 dX5_readPerson_15 rfl (by decide) kk) ?_
  obtain ⟨_, ⟨E4, v4, rfl, y4, hv4⟩, hcl4⟩ := rd_take (d := d) (lo := 1) (hi := 240) y3 rfl rfl (by decide) (by decide)
  refine Sx.up (fun _ kk => r_callV (M := mX5_readPerson) (pc := 18) 21 dX5_readPerson_18 rfl k5_109 hcl4 rfl rfl (by first | with_reducible assumption | with_reducible exact cr_bs hC | rfl) (by decide) rfl (by first | with_reducible assumption | with_reducible exact cr_bn hC | exact Nat.le_of_ble_eq_true rfl) (Nat.le_of_ble_eq_true rfl) kk) ?_
  refine Sx.up (fun _ kk => r_istore_n 22 dX5_readPerson_21 rfl (by decide) rfl kk) ?_
  refine Sx.up (fun _ kk => r_aload_n 23 dX5_readPerson_22 rfl rfl kk) ?_
  refine Sx.up (fun _ kk => r_iconst (0) 24 dX5_readPerson_23 rfl (by decide) kk) ?_
  refine Sx.up (fun _ kk => r_bipush (9) 26 dX5_readPerson_24 rfl (by decide) kk) ?_
  obtain ⟨_, ⟨E5, v5, rfl, y5, hv5⟩, hcl5⟩ := rd_take (d := d) (lo := 0) (hi := 9) y4 rfl rfl (by decide) (by decide)
  refine Sx.up (fun _ kk => r_callV (M := mX5_readPerson) (pc := 26) 29 dX5_readPerson_26 rfl k5_109 hcl5 rfl rfl (by first | with_reducible assumption | with_reducible exact cr_bs hC | rfl) (by decide) rfl (by first | with_reducible assumption | with_reducible exact cr_bn hC | exact Nat.le_of_ble_eq_true rfl) (Nat.le_of_ble_eq_true rfl) kk) ?_
  refine Sx.up (fun _ kk => r_istore 31 dX5_readPerson_29 rfl (by decide) rfl kk) ?_
  refine Sx.up (fun _ kk => r_aload_n 32 dX5_readPerson_31 rfl rfl kk) ?_
  refine Sx.up (fun _ kk => r_iconst (1) 33 dX5_readPerson_32 rfl (by decide) kk) ?_
  refine Sx.up (fun _ kk => r_bipush (9) 35 dX5_readPerson_33 rfl (by decide) kk) ?_
  obtain ⟨_, ⟨E6, v6, rfl, y6, hv6⟩, hcl6⟩ := rd_take (d := d) (lo := 1) (hi := 9) y5 rfl rfl (by decide) (by decide)
  refine Sx.up (fun _ kk => r_callV (M := mX5_readPerson) (pc := 35) 38 dX5_readPerson_35 rfl k5_109 hcl6 rfl rfl (by first | with_reducible assumption | with_reducible exact cr_bs hC | rfl) (by decide) rfl (by first | with_reducible assumption | with_reducible exact cr_bn hC | exact Nat.le_of_ble_eq_true rfl) (Nat.le_of_ble_eq_true rfl) kk) ?_
  refine Sx.up (fun _ kk => r_istore 40 dX5_readPerson_38 rfl (by decide) rfl kk) ?_
  refine Sx.up (fun _ kk => r_aload_n 41 dX5_readPerson_40 rfl rfl kk) ?_
  refine Sx.up (fun _ kk => r_iconst (0) 42 dX5_readPerson_41 rfl (by decide) kk) ?_
  refine Sx.up (fun _ kk => r_sipush (600) 45 dX5_readPerson_42 rfl (by decide) kk) ?_
  obtain ⟨_, ⟨E7, v7, rfl, y7, hv7⟩, hcl7⟩ := rd_take (d := d) (lo := 0) (hi := 600) y6 rfl rfl (by decide) (by decide)
  refine Sx.up (fun _ kk => r_callV (M := mX5_readPerson) (pc := 45) 48 dX5_readPerson_45 rfl k5_109 hcl7 rfl rfl (by first | with_reducible assumption | with_reducible exact cr_bs hC | rfl) (by decide) rfl (by first | with_reducible assumption | with_reducible exact cr_bn hC | exact Nat.le_of_ble_eq_true rfl) (Nat.le_of_ble_eq_true rfl) kk) ?_
  refine Sx.up (fun _ kk => r_istore 50 dX5_readPerson_48 rfl (by decide) rfl kk) ?_
  refine Sx.up (fun _ kk => r_aload_n 51 dX5_readPerson_50 rfl rfl kk) ?_
  refine Sx.up (fun _ kk => r_iconst (0) 52 dX5_readPerson_51 rfl (by decide) kk) ?_
  refine Sx.up (fun _ kk => r_bipush (10) 54 dX5_readPerson_52 rfl (by decide) kk) ?_
  obtain ⟨_, ⟨E8, v8, rfl, y8, hv8⟩, hcl8⟩ := rd_take (d := d) (lo := 0) (hi := 10) y7 rfl rfl (by decide) (by decide)
  refine Sx.up (fun _ kk => r_callV (M := mX5_readPerson) (pc := 54) 57 dX5_readPerson_54 rfl k5_109 hcl8 rfl rfl (by first | with_reducible assumption | with_reducible exact cr_bs hC | rfl) (by decide) rfl (by first | with_reducible assumption | with_reducible exact cr_bn hC | exact Nat.le_of_ble_eq_true rfl) (Nat.le_of_ble_eq_true rfl) kk) ?_
  refine Sx.up (fun _ kk => r_istore 59 dX5_readPerson_57 rfl (by decide) rfl kk) ?_
  refine Sx.up (fun _ kk => r_aload_n 60 dX5_readPerson_59 rfl rfl kk) ?_
  refine Sx.up (fun _ kk => r_getR 63 dX5_readPerson_60 rfl f5_35 rfl (by first | with_reducible assumption | with_reducible exact cr_bs hC | rfl) (by first | with_reducible assumption | with_reducible exact cr_bn hC | exact Nat.le_of_ble_eq_true rfl) (rd_into y8) kk) ?_
  refine Sx.up (fun _ kk => r_aload_n 64 dX5_readPerson_63 rfl rfl kk) ?_
  refine Sx.up (fun _ kk => r_getR 67 dX5_readPerson_64 rfl f5_35 rfl (by first | with_reducible assumption | with_reducible exact cr_bs hC | rfl) (by first | with_reducible assumption | with_reducible exact cr_bn hC | exact Nat.le_of_ble_eq_true rfl) (rd_into y8) kk) ?_
  refine Sx.up (fun _ kk => r_getI 70 dX5_readPerson_67 rfl f5_145 rfl (by first | with_reducible assumption | with_reducible exact cr_bs hC | rfl) (by first | with_reducible assumption | with_reducible exact cr_bn hC | exact Nat.le_of_ble_eq_true rfl) kk) ?_
  obtain ⟨w8, w137⟩ := who_sh (rd_bed y8) (gI E8 4 b)
  obtain ⟨w, hw⟩ : ∃ w, whoId b (gI E8 4 b) = w := ⟨_, rfl⟩
  rw [hw] at w8 w137
  have hwc := c_X0_who (d := d + 6) (s := gI E8 4 b) (rd_bed y8)
  rw [hw] at hwc
  refine Sx.up (fun _ kk => r_callV (M := mX5_readPerson) (pc := 70) 73 dX5_readPerson_70 rfl k5_151 hwc rfl rfl (by first | with_reducible assumption | with_reducible exact cr_bs hC | rfl) (by decide) rfl (by first | with_reducible assumption | with_reducible exact cr_bn hC | exact Nat.le_of_ble_eq_true rfl) (Nat.le_of_ble_eq_true rfl) kk) ?_
  refine Sx.up (fun _ kk => r_astore 75 dX5_readPerson_73 rfl (by decide) rfl kk) ?_
  refine Sx.up (fun _ kk => r_aload 77 dX5_readPerson_75 rfl rfl kk) ?_
  refine Sx.up (fun _ kk => r_iload_n 78 dX5_readPerson_77 rfl rfl kk) ?_
  refine Sx.up (fun _ kk => r_iload 80 dX5_readPerson_78 rfl rfl kk) ?_
  refine Sx.up (fun _ kk => r_callV (M := mX5_readPerson) (pc := 80) 83 dX5_readPerson_80 rfl k5_155 (c_X8_tell (d := d + 5) w8 w137) rfl rfl (by first | with_reducible assumption | with_reducible exact cr_bs hC | rfl) (by decide) rfl (by first | with_reducible assumption | with_reducible exact cr_bn hC | exact Nat.le_of_ble_eq_true rfl) (Nat.le_of_ble_eq_true rfl) kk) ?_
  refine Sx.up (fun _ kk => r_aload 85 dX5_readPerson_83 rfl rfl kk) ?_
  refine Sx.up (fun _ kk => r_iload_n 86 dX5_readPerson_85 rfl rfl kk) ?_
  refine Sx.up (fun _ kk => r_iload_n 87 dX5_readPerson_86 rfl rfl kk) ?_
  refine Sx.up (fun _ kk => r_iload 89 dX5_readPerson_87 rfl rfl kk) ?_
  refine Sx.up (fun _ kk => r_callV (M := mX5_readPerson) (pc := 89) 92 dX5_readPerson_89 rfl k5_161 (c_X8_tellSides (d := d + 6) w8 w137) rfl rfl (by first | with_reducible assumption | with_reducible exact cr_bs hC | rfl) (by decide) rfl (by first | with_reducible assumption | with_reducible exact cr_bn hC | exact Nat.le_of_ble_eq_true rfl) (Nat.le_of_ble_eq_true rfl) kk) ?_
  refine Sx.up (fun _ kk => r_aload 94 dX5_readPerson_92 rfl rfl kk) ?_
  refine Sx.up (fun _ kk => r_iload 96 dX5_readPerson_94 rfl rfl kk) ?_
  refine Sx.up (fun _ kk => r_iload 98 dX5_readPerson_96 rfl rfl kk) ?_
  refine Sx.up (fun _ kk => r_callV (M := mX5_readPerson) (pc := 98) 101 dX5_readPerson_98 rfl k5_165 (c_X8_tellOut (d := d + 6) w8 w137) rfl rfl (by first | with_reducible assumption | with_reducible exact cr_bs hC | rfl) (by decide) rfl (by first | with_reducible assumption | with_reducible exact cr_bn hC | exact Nat.le_of_ble_eq_true rfl) (Nat.le_of_ble_eq_true rfl) kk) ?_
  refine Sx.up (fun _ kk => r_aload_n 102 dX5_readPerson_101 rfl rfl kk) ?_
  refine Sx.up (fun _ kk => r_getR 105 dX5_readPerson_102 rfl f5_35 rfl (by first | with_reducible assumption | with_reducible exact cr_bs hC | rfl) (by first | with_reducible assumption | with_reducible exact cr_bn hC | exact Nat.le_of_ble_eq_true rfl) ((show gR E8 641 41 = some b from rd_into y8)) kk) ?_
  refine Sx.up (fun _ kk => r_dup 106 dX5_readPerson_105 rfl rfl kk) ?_
  refine Sx.up (fun _ kk => r_getI 109 dX5_readPerson_106 rfl f5_145 rfl (by first | with_reducible assumption | with_reducible exact cr_bs hC | rfl) (by first | with_reducible assumption | with_reducible exact cr_bn hC | exact Nat.le_of_ble_eq_true rfl) kk) ?_
  refine Sx.up (fun _ kk => r_iconst (1) 110 dX5_readPerson_109 rfl (by decide) kk) ?_
  refine Sx.up (fun _ kk => r_iadd 111 dX5_readPerson_110 rfl kk) ?_
  refine Sx.up (fun _ kk => r_putI 114 dX5_readPerson_111 rfl f5_145 (by first | with_reducible assumption | with_reducible exact cr_bs hC | rfl) (by first | with_reducible assumption | with_reducible exact cr_bn hC | exact Nat.le_of_ble_eq_true rfl) kk) ?_
  refine ⟨_, ?_, r_vret dX5_readPerson_114 rfl rfl rfl⟩
  refine ⟨_, rfl, ?_⟩
  have hr := whoId_r hb (gI E8 4 b)
  rw [hw] at hr
  refine rd_tell (w := w) (x := kd7 kd v3 v4 v5 v6 v7 v8) y8 hw.symm ?_ sr_rfl ?_ (fun g hg => ?_) (fun k k1 k7 => ?_) (fun a B hs => ?_)
  · exact fr_sI (Or.inr rfl) (fr_sI (Or.inl rfl) (fr_sI (Or.inl rfl) (fr_sI (Or.inl rfl) (fr_sI (Or.inl rfl) (fr_sI (Or.inl rfl) (fr_sI (Or.inl rfl) (fr_sI (Or.inl rfl) (fr_sI (Or.inl rfl) (fr_sI (Or.inl rfl) (fr_sI (Or.inl rfl) (fr_sI (Or.inl rfl) (fr_sI (Or.inl rfl) (fr_rfl)))))))))))))
  · simp [gI_sI]
  · simp [gI_sI, hg, show ¬ b = w by omega]
  · match k, k1, k7 with
    | 1, _, _ => simp [gI_sI, kd7]
    | 2, _, _ => simp [gI_sI, kd7]
    | 3, _, _ => simp [gI_sI, kd7]
    | 4, _, _ => simp [gI_sI, kd7]
    | 5, _, _ => simp [gI_sI, kd7]
    | 6, _, _ => simp [gI_sI, kd7]
    | 7, _, _ => simp [gI_sI, kd7]
  · obtain ⟨a6, e6, -⟩ := tk_live hs
    obtain ⟨a5, e5, -⟩ := tk_live e6
    obtain ⟨a4, e4, -⟩ := tk_live e5
    obtain ⟨a3, e3, -⟩ := tk_live e4
    obtain ⟨a2, e2, -⟩ := tk_live e3
    obtain ⟨a1, e1, -⟩ := tk_live e2
    exact ⟨new_live e1, fun k _ _ => by rw [hv8 a B hs, hv7 _ _ e6, hv6 _ _ e5, hv5 _ _ e4, hv4 _ _ e3, hv3 _ _ e2]⟩
