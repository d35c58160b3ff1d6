/-! Pile: dropOldest, add, copy; Rule: joined, holds -/
def piSz (E : HP) (n h l k most : Nat) : Prop := PileOK E n h l ∧ gI E 386 h = nI k ∧ gI E 384 h = nI most ∧ l = 3 * most ∧ k ≤ most ∧ 1 ≤ most ∧ most ≤ 40
def piAdd (h l k most : Nat) (a b c : Int32) (E : HP) : HP := if k < most then sI (piPut3 E h l a b c) 386 h (gI E 386 h + 1) else sI (piPut3 (piDrop h l k E) h l a b c) 386 h (gI (piDrop h l k E) 386 h + 1)
def piCopy (h l h2 l2 : Nat) (E : HP) : HP := sI (rCopy (h + 1) (h2 + 1) l2 l E) 386 h (gI (rCopy (h + 1) (h2 + 1) l2 l E) 386 h2)
theorem po_copy {E : HP} {n h l g g2 l2 k : Nat} (o : PileOK E n h l) : PileOK (rCopy g g2 l2 k E) n h l := itF_keep (f := fun k E => sA E (g + 1) k (rAt E g2 l2 (nI k))) (P := fun E => PileOK E n h l) (fun _ _ q => q) k o
theorem nI_mul3 (k : Nat) : nI k * 3 = nI (k * 3) := by
  have := pk_mul k 3
  exact this
theorem gI_piPut3 {E : HP} {h l g j : Nat} {a b c : Int32} : gI (piPut3 E h l a b c) g j = gI E g j := by unfold piPut3; rw [gI_rPut, gI_rPut, gI_rPut]
set_option maxRecDepth 20000 in
theorem c_X3_dropOldest {d n h l k most : Nat} {E : HP} (ok : piSz E n h l k most) : Cl yX3_dropOldest mX3_dropOldest (d + 1) 0 0 [.ref h] E n (.inl none, piDrop h l k E, n) := by
  obtain ⟨ok, z1, z2, z3, z4, z5, z6⟩ := ok
  obtain ⟨o1, o2, o3, o4⟩ := id ok
  refine Cl.of (by decide) rfl (fun q => by cases q) rfl rfl (Nat.le_of_ble_eq_true rfl) ?_
  show Sm _ _ _ _ _ 0 [some (.ref h), none] [] _ _
  have hz : ∀ j, gI (piDropL h l j E) 386 h * 3 = nI (k * 3) := fun j => by rw [gI_piDropL, z1, nI_mul3]
  have loop := loopUp (P := fun k9 => Sm mX3_dropOldest (d + 1) 0 0 (.inl none, piDrop h l k E, n) 2 [some (.ref h), some (.int (nI (3 + k9)))] [] (piDropL h l k9 E) n) (l := k * 3 - 3) ?_ ?_
  refine r_iconst (3) 1 dX3_dropOldest_0 rfl (by decide) ?_
  refine r_istore_n 2 dX3_dropOldest_1 rfl (by decide) rfl ?_
  exact loop
  · refine r_iload_n 3 dX3_dropOldest_2 rfl rfl ?_
    refine r_aload_n 4 dX3_dropOldest_3 rfl rfl ?_
    refine r_getI 7 dX3_dropOldest_4 rfl f3_7 rfl (by first | assumption | exact (po_dropL ok).2.1 | exact (po_dropL ok).2.2.1 | exact ro_put o3 | exact ro_1 o3 | exact ro_6 o3 | decide) (by first | assumption | exact (po_dropL ok).2.1 | exact (po_dropL ok).2.2.1 | exact ro_put o3 | exact ro_1 o3 | exact ro_6 o3 | decide) ?_
    refine r_iconst (3) 8 dX3_dropOldest_7 rfl (by decide) ?_
    refine r_imul 9 dX3_dropOldest_8 rfl ?_
    refine r_icmp_ge 12 36 dX3_dropOldest_9 rfl (by decide) (fun h9 => ?_) (fun h9 => absurd (by rw [hz]; exact nI_le (by omega) (by omega)) h9)
    refine r_aload_n 37 dX3_dropOldest_36 rfl rfl ?_
    refine r_dup 38 dX3_dropOldest_37 rfl rfl ?_
    refine r_getI 41 dX3_dropOldest_38 rfl f3_7 rfl (by first | assumption | exact (po_dropL ok).2.1 | exact (po_dropL ok).2.2.1 | exact ro_put o3 | exact ro_1 o3 | exact ro_6 o3 | decide) (by first | assumption | exact (po_dropL ok).2.1 | exact (po_dropL ok).2.2.1 | exact ro_put o3 | exact ro_1 o3 | exact ro_6 o3 | decide) ?_
    refine r_iconst (1) 42 dX3_dropOldest_41 rfl (by decide) ?_
    refine r_isub 43 dX3_dropOldest_42 rfl ?_
    refine r_putI 46 dX3_dropOldest_43 rfl f3_7 (by first | assumption | exact (po_dropL ok).2.1 | exact (po_dropL ok).2.2.1 | exact ro_put o3 | exact ro_1 o3 | exact ro_6 o3 | decide) (by first | assumption | exact (po_dropL ok).2.1 | exact (po_dropL ok).2.2.1 | exact ro_put o3 | exact ro_1 o3 | exact ro_6 o3 | decide) ?_
    exact r_vret dX3_dropOldest_46 rfl rfl (by simp only [piDrop, gI_piDropL])
  · intro k9 hk hq
    show Sm mX3_dropOldest (d + 1) 0 0 (.inl none, piDrop h l k E, n) 2 [some (.ref h), some (.int (nI (3 + k9)))] [] (piDropL h l k9 E) n
    refine r_iload_n 3 dX3_dropOldest_2 rfl rfl ?_
    refine r_aload_n 4 dX3_dropOldest_3 rfl rfl ?_
    refine r_getI 7 dX3_dropOldest_4 rfl f3_7 rfl (by first | assumption | exact (po_dropL ok).2.1 | exact (po_dropL ok).2.2.1 | exact ro_put o3 | exact ro_1 o3 | exact ro_6 o3 | decide) (by first | assumption | exact (po_dropL ok).2.1 | exact (po_dropL ok).2.2.1 | exact ro_put o3 | exact ro_1 o3 | exact ro_6 o3 | decide) ?_
    refine r_iconst (3) 8 dX3_dropOldest_7 rfl (by decide) ?_
    refine r_imul 9 dX3_dropOldest_8 rfl ?_
    refine r_icmp_ge 12 36 dX3_dropOldest_9 rfl (by decide) (fun h9 => absurd h9 (by rw [hz]; exact nI_ge (by omega) (by omega))) (fun h9 => ?_)
    refine r_aload_n 13 dX3_dropOldest_12 rfl rfl ?_
    refine r_getR 16 dX3_dropOldest_13 rfl f3_21 rfl (by first | assumption | exact (po_dropL ok).2.1 | exact (po_dropL ok).2.2.1 | exact ro_put o3 | exact ro_1 o3 | exact ro_6 o3 | decide) (by first | assumption | exact (po_dropL ok).2.1 | exact (po_dropL ok).2.2.1 | exact ro_put o3 | exact ro_1 o3 | exact ro_6 o3 | decide) (by first | assumption | exact (po_dropL ok).2.1 | exact (po_dropL ok).2.2.1 | exact ro_put o3 | exact ro_1 o3 | exact ro_6 o3 | decide) ?_
    refine r_iload_n 17 dX3_dropOldest_16 rfl rfl ?_
    refine r_iconst (3) 18 dX3_dropOldest_17 rfl (by decide) ?_
    refine r_isub 19 dX3_dropOldest_18 rfl ?_
    refine r_aload_n 20 dX3_dropOldest_19 rfl rfl ?_
    refine r_getR 23 dX3_dropOldest_20 rfl f3_21 rfl (by first | assumption | exact (po_dropL ok).2.1 | exact (po_dropL ok).2.2.1 | exact ro_put o3 | exact ro_1 o3 | exact ro_6 o3 | decide) (by first | assumption | exact (po_dropL ok).2.1 | exact (po_dropL ok).2.2.1 | exact ro_put o3 | exact ro_1 o3 | exact ro_6 o3 | decide) (by first | assumption | exact (po_dropL ok).2.1 | exact (po_dropL ok).2.2.1 | exact ro_put o3 | exact ro_1 o3 | exact ro_6 o3 | decide) ?_
    refine r_iload_n 24 dX3_dropOldest_23 rfl rfl ?_
    refine r_callV (M := mX3_dropOldest) (pc := 24) 27 dX3_dropOldest_24 rfl k3_32 (c_X6_at (po_dropL ok).2.2.1) rfl rfl (by first | assumption | exact (po_dropL ok).2.1 | exact (po_dropL ok).2.2.1 | exact ro_put o3 | exact ro_1 o3 | exact ro_6 o3 | decide) (by decide) rfl (by first | assumption | exact (po_dropL ok).2.1 | exact (po_dropL ok).2.2.1 | exact ro_put o3 | exact ro_1 o3 | exact ro_6 o3 | decide) (Nat.le_of_ble_eq_true rfl) ?_
    refine r_callV (M := mX3_dropOldest) (pc := 27) 30 dX3_dropOldest_27 rfl k3_28 (c_X6_put (po_dropL ok).2.2.1) rfl rfl (by first | assumption | exact (po_dropL ok).2.1 | exact (po_dropL ok).2.2.1 | exact ro_put o3 | exact ro_1 o3 | exact ro_6 o3 | decide) (by decide) rfl (by first | assumption | exact (po_dropL ok).2.1 | exact (po_dropL ok).2.2.1 | exact ro_put o3 | exact ro_1 o3 | exact ro_6 o3 | decide) (Nat.le_of_ble_eq_true rfl) ?_
    refine r_iinc (1) 33 dX3_dropOldest_30 rfl rfl (by decide) (by decide) rfl ?_
    refine r_goto 2 dX3_dropOldest_33 (by decide) ?_
    rw [show 3 + (k9 + 1) = (3 + k9) + 1 by omega, nI_succ] at hq
    exact hq
theorem gR_piDrop {E : HP} {h l k g j : Nat} : gR (piDrop h l k E) g j = gR E g j := by
  show gR (piDropL h l (k * 3 - 3) E) g j = _
  exact itF_keep (f := fun k E => piDrop1 h l E (3 + k)) (P := fun E2 => gR E2 g j = gR E g j) (fun i E2 q => gR_rPut.trans q) _ rfl
theorem po_piDrop {E : HP} {n h l k g l2 : Nat} (o : PileOK E n h l) : PileOK (piDrop g l2 k E) n h l := po_sI (po_dropL o)
set_option maxRecDepth 20000 in
theorem c_X3_add {d n h l k most : Nat} {E : HP} {a b c : Int32} (ok : piSz E n h l k most) : Cl yX3_add mX3_add (d + 2) 0 0 [.ref h, .int a, .int b, .int c] E n (.inl none, piAdd h l k most a b c E, n) := by
  obtain ⟨ok, z1, z2, z3, z4, z5, z6⟩ := ok
  obtain ⟨o1, o2, o3, o4⟩ := id ok
  have q : PileOK (piDrop h l k E) n h l := po_piDrop ok
  obtain ⟨q1, q2, q3, q4⟩ := id q
  refine Cl.of (by decide) rfl (fun q => by cases q) rfl rfl (Nat.le_of_ble_eq_true rfl) ?_
  show Sm _ _ _ _ _ 0 [some (.ref h), some (.int a), some (.int b), some (.int c)] [] _ _
  rcases Nat.lt_or_ge k most with hkm | hkm
  · refine r_aload_n 1 dX3_add_0 rfl rfl ?_
    refine r_getI 4 dX3_add_1 rfl f3_7 rfl (by first | with_reducible assumption | (simp only [gR_sI, gR_sA, gR_sR, gR_rPut, gR_piDrop, false_and, and_false, and_true, true_and, if_false, if_true, reduceIte]; with_reducible assumption) | with_reducible exact ro_1 o3 | with_reducible exact ro_6 o3) (by first | with_reducible assumption | (simp only [gR_sI, gR_sA, gR_sR, gR_rPut, gR_piDrop, false_and, and_false, and_true, true_and, if_false, if_true, reduceIte]; with_reducible assumption) | with_reducible exact ro_1 o3 | with_reducible exact ro_6 o3) ?_
    refine r_aload_n 5 dX3_add_4 rfl rfl ?_
    refine r_getI 8 dX3_add_5 rfl f3_13 rfl (by first | with_reducible assumption | (simp only [gR_sI, gR_sA, gR_sR, gR_rPut, gR_piDrop, false_and, and_false, and_true, true_and, if_false, if_true, reduceIte]; with_reducible assumption) | with_reducible exact ro_1 o3 | with_reducible exact ro_6 o3) (by first | with_reducible assumption | (simp only [gR_sI, gR_sA, gR_sR, gR_rPut, gR_piDrop, false_and, and_false, and_true, true_and, if_false, if_true, reduceIte]; with_reducible assumption) | with_reducible exact ro_1 o3 | with_reducible exact ro_6 o3) ?_
    refine r_icmp_lt 11 15 dX3_add_8 rfl (by decide) (fun h8 => ?_) (fun h8 => absurd (by rw [z1, z2]; exact nI_lt hkm (by omega)) h8)
    refine r_aload_n 16 dX3_add_15 rfl rfl ?_
    refine r_getR 19 dX3_add_16 rfl f3_21 rfl (by first | with_reducible assumption | (simp only [gR_sI, gR_sA, gR_sR, gR_rPut, gR_piDrop, false_and, and_false, and_true, true_and, if_false, if_true, reduceIte]; with_reducible assumption) | with_reducible exact ro_1 o3 | with_reducible exact ro_6 o3) (by first | with_reducible assumption | (simp only [gR_sI, gR_sA, gR_sR, gR_rPut, gR_piDrop, false_and, and_false, and_true, true_and, if_false, if_true, reduceIte]; with_reducible assumption) | with_reducible exact ro_1 o3 | with_reducible exact ro_6 o3) (by first | with_reducible assumption | (simp only [gR_sI, gR_sA, gR_sR, gR_rPut, gR_piDrop, false_and, and_false, and_true, true_and, if_false, if_true, reduceIte]; with_reducible assumption) | with_reducible exact ro_1 o3 | with_reducible exact ro_6 o3) ?_
    refine r_aload_n 20 dX3_add_19 rfl rfl ?_
    refine r_getI 23 dX3_add_20 rfl f3_7 rfl (by first | with_reducible assumption | (simp only [gR_sI, gR_sA, gR_sR, gR_rPut, gR_piDrop, false_and, and_false, and_true, true_and, if_false, if_true, reduceIte]; with_reducible assumption) | with_reducible exact ro_1 o3 | with_reducible exact ro_6 o3) (by first | with_reducible assumption | (simp only [gR_sI, gR_sA, gR_sR, gR_rPut, gR_piDrop, false_and, and_false, and_true, true_and, if_false, if_true, reduceIte]; with_reducible assumption) | with_reducible exact ro_1 o3 | with_reducible exact ro_6 o3) ?_
    refine r_iconst (3) 24 dX3_add_23 rfl (by decide) ?_
    refine r_imul 25 dX3_add_24 rfl ?_
    refine r_iload_n 26 dX3_add_25 rfl rfl ?_
    refine r_callV (M := mX3_add) (pc := 26) 29 dX3_add_26 rfl k3_28 (c_X6_put o3) rfl rfl (by first | with_reducible assumption | (simp only [gR_sI, gR_sA, gR_sR, gR_rPut, gR_piDrop, false_and, and_false, and_true, true_and, if_false, if_true, reduceIte]; with_reducible assumption) | with_reducible exact ro_1 o3 | with_reducible exact ro_6 o3) (by decide) rfl (by first | with_reducible assumption | (simp only [gR_sI, gR_sA, gR_sR, gR_rPut, gR_piDrop, false_and, and_false, and_true, true_and, if_false, if_true, reduceIte]; with_reducible assumption) | with_reducible exact ro_1 o3 | with_reducible exact ro_6 o3) (Nat.le_of_ble_eq_true rfl) ?_
    refine r_aload_n 30 dX3_add_29 rfl rfl ?_
    refine r_getR 33 dX3_add_30 rfl f3_21 rfl (by first | with_reducible assumption | (simp only [gR_sI, gR_sA, gR_sR, gR_rPut, gR_piDrop, false_and, and_false, and_true, true_and, if_false, if_true, reduceIte]; with_reducible assumption) | with_reducible exact ro_1 o3 | with_reducible exact ro_6 o3) (by first | with_reducible assumption | (simp only [gR_sI, gR_sA, gR_sR, gR_rPut, gR_piDrop, false_and, and_false, and_true, true_and, if_false, if_true, reduceIte]; with_reducible assumption) | with_reducible exact ro_1 o3 | with_reducible exact ro_6 o3) (by first | with_reducible assumption | (simp only [gR_sI, gR_sA, gR_sR, gR_rPut, gR_piDrop, false_and, and_false, and_true, true_and, if_false, if_true, reduceIte]; with_reducible assumption) | with_reducible exact ro_1 o3 | with_reducible exact ro_6 o3) ?_
    refine r_aload_n 34 dX3_add_33 rfl rfl ?_
    refine r_getI 37 dX3_add_34 rfl f3_7 rfl (by first | with_reducible assumption | (simp only [gR_sI, gR_sA, gR_sR, gR_rPut, gR_piDrop, false_and, and_false, and_true, true_and, if_false, if_true, reduceIte]; with_reducible assumption) | with_reducible exact ro_1 o3 | with_reducible exact ro_6 o3) (by first | with_reducible assumption | (simp only [gR_sI, gR_sA, gR_sR, gR_rPut, gR_piDrop, false_and, and_false, and_true, true_and, if_false, if_true, reduceIte]; with_reducible assumption) | with_reducible exact ro_1 o3 | with_reducible exact ro_6 o3) ?_
    refine r_iconst (3) 38 dX3_add_37 rfl (by decide) ?_
    refine r_imul 39 dX3_add_38 rfl ?_
    refine r_iconst (1) 40 dX3_add_39 rfl (by decide) ?_
    refine r_iadd 41 dX3_add_40 rfl ?_
    refine r_iload_n 42 dX3_add_41 rfl rfl ?_
    refine r_callV (M := mX3_add) (pc := 42) 45 dX3_add_42 rfl k3_28 (c_X6_put (ro_put o3)) rfl rfl (by first | with_reducible assumption | (simp only [gR_sI, gR_sA, gR_sR, gR_rPut, gR_piDrop, false_and, and_false, and_true, true_and, if_false, if_true, reduceIte]; with_reducible assumption) | with_reducible exact ro_1 o3 | with_reducible exact ro_6 o3) (by decide) rfl (by first | with_reducible assumption | (simp only [gR_sI, gR_sA, gR_sR, gR_rPut, gR_piDrop, false_and, and_false, and_true, true_and, if_false, if_true, reduceIte]; with_reducible assumption) | with_reducible exact ro_1 o3 | with_reducible exact ro_6 o3) (Nat.le_of_ble_eq_true rfl) ?_
    refine r_aload_n 46 dX3_add_45 rfl rfl ?_
    refine r_getR 49 dX3_add_46 rfl f3_21 rfl (by first | with_reducible assumption | (simp only [gR_sI, gR_sA, gR_sR, gR_rPut, gR_piDrop, false_and, and_false, and_true, true_and, if_false, if_true, reduceIte]; with_reducible assumption) | with_reducible exact ro_1 o3 | with_reducible exact ro_6 o3) (by first | with_reducible assumption | (simp only [gR_sI, gR_sA, gR_sR, gR_rPut, gR_piDrop, false_and, and_false, and_true, true_and, if_false, if_true, reduceIte]; with_reducible assumption) | with_reducible exact ro_1 o3 | with_reducible exact ro_6 o3) (by first | with_reducible assumption | (simp only [gR_sI, gR_sA, gR_sR, gR_rPut, gR_piDrop, false_and, and_false, and_true, true_and, if_false, if_true, reduceIte]; with_reducible assumption) | with_reducible exact ro_1 o3 | with_reducible exact ro_6 o3) ?_
    refine r_aload_n 50 dX3_add_49 rfl rfl ?_
    refine r_getI 53 dX3_add_50 rfl f3_7 rfl (by first | with_reducible assumption | (simp only [gR_sI, gR_sA, gR_sR, gR_rPut, gR_piDrop, false_and, and_false, and_true, true_and, if_false, if_true, reduceIte]; with_reducible assumption) | with_reducible exact ro_1 o3 | with_reducible exact ro_6 o3) (by first | with_reducible assumption | (simp only [gR_sI, gR_sA, gR_sR, gR_rPut, gR_piDrop, false_and, and_false, and_true, true_and, if_false, if_true, reduceIte]; with_reducible assumption) | with_reducible exact ro_1 o3 | with_reducible exact ro_6 o3) ?_
    refine r_iconst (3) 54 dX3_add_53 rfl (by decide) ?_
    refine r_imul 55 dX3_add_54 rfl ?_
    refine r_iconst (2) 56 dX3_add_55 rfl (by decide) ?_
    refine r_iadd 57 dX3_add_56 rfl ?_
    refine r_iload_n 58 dX3_add_57 rfl rfl ?_
    refine r_callV (M := mX3_add) (pc := 58) 61 dX3_add_58 rfl k3_28 (c_X6_put (ro_put (ro_put o3))) rfl rfl (by first | with_reducible assumption | (simp only [gR_sI, gR_sA, gR_sR, gR_rPut, gR_piDrop, false_and, and_false, and_true, true_and, if_false, if_true, reduceIte]; with_reducible assumption) | with_reducible exact ro_1 o3 | with_reducible exact ro_6 o3) (by decide) rfl (by first | with_reducible assumption | (simp only [gR_sI, gR_sA, gR_sR, gR_rPut, gR_piDrop, false_and, and_false, and_true, true_and, if_false, if_true, reduceIte]; with_reducible assumption) | with_reducible exact ro_1 o3 | with_reducible exact ro_6 o3) (Nat.le_of_ble_eq_true rfl) ?_
    refine r_aload_n 62 dX3_add_61 rfl rfl ?_
    refine r_dup 63 dX3_add_62 rfl rfl ?_
    refine r_getI 66 dX3_add_63 rfl f3_7 rfl (by first | with_reducible assumption | (simp only [gR_sI, gR_sA, gR_sR, gR_rPut, gR_piDrop, false_and, and_false, and_true, true_and, if_false, if_true, reduceIte]; with_reducible assumption) | with_reducible exact ro_1 o3 | with_reducible exact ro_6 o3) (by first | with_reducible assumption | (simp only [gR_sI, gR_sA, gR_sR, gR_rPut, gR_piDrop, false_and, and_false, and_true, true_and, if_false, if_true, reduceIte]; with_reducible assumption) | with_reducible exact ro_1 o3 | with_reducible exact ro_6 o3) ?_
    refine r_iconst (1) 67 dX3_add_66 rfl (by decide) ?_
    refine r_iadd 68 dX3_add_67 rfl ?_
    refine r_putI 71 dX3_add_68 rfl f3_7 (by first | with_reducible assumption | (simp only [gR_sI, gR_sA, gR_sR, gR_rPut, gR_piDrop, false_and, and_false, and_true, true_and, if_false, if_true, reduceIte]; with_reducible assumption) | with_reducible exact ro_1 o3 | with_reducible exact ro_6 o3) (by first | with_reducible assumption | (simp only [gR_sI, gR_sA, gR_sR, gR_rPut, gR_piDrop, false_and, and_false, and_true, true_and, if_false, if_true, reduceIte]; with_reducible assumption) | with_reducible exact ro_1 o3 | with_reducible exact ro_6 o3) ?_
    exact r_vret dX3_add_71 rfl rfl (by simp only [piAdd, piPut3, gI_rPut, hkm, if_true, if_false])
  · refine r_aload_n 1 dX3_add_0 rfl rfl ?_
    refine r_getI 4 dX3_add_1 rfl f3_7 rfl (by first | with_reducible assumption | (simp only [gR_sI, gR_sA, gR_sR, gR_rPut, gR_piDrop, false_and, and_false, and_true, true_and, if_false, if_true, reduceIte]; with_reducible assumption) | with_reducible exact ro_1 o3 | with_reducible exact ro_6 o3) (by first | with_reducible assumption | (simp only [gR_sI, gR_sA, gR_sR, gR_rPut, gR_piDrop, false_and, and_false, and_true, true_and, if_false, if_true, reduceIte]; with_reducible assumption) | with_reducible exact ro_1 o3 | with_reducible exact ro_6 o3) ?_
    refine r_aload_n 5 dX3_add_4 rfl rfl ?_
    refine r_getI 8 dX3_add_5 rfl f3_13 rfl (by first | with_reducible assumption | (simp only [gR_sI, gR_sA, gR_sR, gR_rPut, gR_piDrop, false_and, and_false, and_true, true_and, if_false, if_true, reduceIte]; with_reducible assumption) | with_reducible exact ro_1 o3 | with_reducible exact ro_6 o3) (by first | with_reducible assumption | (simp only [gR_sI, gR_sA, gR_sR, gR_rPut, gR_piDrop, false_and, and_false, and_true, true_and, if_false, if_true, reduceIte]; with_reducible assumption) | with_reducible exact ro_1 o3 | with_reducible exact ro_6 o3) ?_
    refine r_icmp_lt 11 15 dX3_add_8 rfl (by decide) (fun h8 => absurd h8 (by rw [z1, z2]; exact nI_nlt hkm (by omega))) (fun h8 => ?_)
    refine r_aload_n 12 dX3_add_11 rfl rfl ?_
    refine r_callV (M := mX3_add) (pc := 12) 15 dX3_add_12 rfl k3_25 (c_X3_dropOldest (most := most) ⟨ok, z1, z2, z3, z4, z5, z6⟩) rfl rfl (by first | with_reducible assumption | (simp only [gR_sI, gR_sA, gR_sR, gR_rPut, gR_piDrop, false_and, and_false, and_true, true_and, if_false, if_true, reduceIte]; with_reducible assumption) | with_reducible exact ro_1 o3 | with_reducible exact ro_6 o3) (by decide) rfl (by first | with_reducible assumption | (simp only [gR_sI, gR_sA, gR_sR, gR_rPut, gR_piDrop, false_and, and_false, and_true, true_and, if_false, if_true, reduceIte]; with_reducible assumption) | with_reducible exact ro_1 o3 | with_reducible exact ro_6 o3) (Nat.le_of_ble_eq_true rfl) ?_
    refine r_aload_n 16 dX3_add_15 rfl rfl ?_
    refine r_getR 19 dX3_add_16 rfl f3_21 rfl (by first | with_reducible assumption | (simp only [gR_sI, gR_sA, gR_sR, gR_rPut, gR_piDrop, false_and, and_false, and_true, true_and, if_false, if_true, reduceIte]; with_reducible assumption) | with_reducible exact ro_1 o3 | with_reducible exact ro_6 o3) (by first | with_reducible assumption | (simp only [gR_sI, gR_sA, gR_sR, gR_rPut, gR_piDrop, false_and, and_false, and_true, true_and, if_false, if_true, reduceIte]; with_reducible assumption) | with_reducible exact ro_1 o3 | with_reducible exact ro_6 o3) (by first | with_reducible assumption | (simp only [gR_sI, gR_sA, gR_sR, gR_rPut, gR_piDrop, false_and, and_false, and_true, true_and, if_false, if_true, reduceIte]; with_reducible assumption) | with_reducible exact ro_1 o3 | with_reducible exact ro_6 o3) ?_
    refine r_aload_n 20 dX3_add_19 rfl rfl ?_
    refine r_getI 23 dX3_add_20 rfl f3_7 rfl (by first | with_reducible assumption | (simp only [gR_sI, gR_sA, gR_sR, gR_rPut, gR_piDrop, false_and, and_false, and_true, true_and, if_false, if_true, reduceIte]; with_reducible assumption) | with_reducible exact ro_1 o3 | with_reducible exact ro_6 o3) (by first | with_reducible assumption | (simp only [gR_sI, gR_sA, gR_sR, gR_rPut, gR_piDrop, false_and, and_false, and_true, true_and, if_false, if_true, reduceIte]; with_reducible assumption) | with_reducible exact ro_1 o3 | with_reducible exact ro_6 o3) ?_
    refine r_iconst (3) 24 dX3_add_23 rfl (by decide) ?_
    refine r_imul 25 dX3_add_24 rfl ?_
    refine r_iload_n 26 dX3_add_25 rfl rfl ?_
    refine r_callV (M := mX3_add) (pc := 26) 29 dX3_add_26 rfl k3_28 (c_X6_put q3) rfl rfl (by first | with_reducible assumption | (simp only [gR_sI, gR_sA, gR_sR, gR_rPut, gR_piDrop, false_and, and_false, and_true, true_and, if_false, if_true, reduceIte]; with_reducible assumption) | with_reducible exact ro_1 o3 | with_reducible exact ro_6 o3) (by decide) rfl (by first | with_reducible assumption | (simp only [gR_sI, gR_sA, gR_sR, gR_rPut, gR_piDrop, false_and, and_false, and_true, true_and, if_false, if_true, reduceIte]; with_reducible assumption) | with_reducible exact ro_1 o3 | with_reducible exact ro_6 o3) (Nat.le_of_ble_eq_true rfl) ?_
    refine r_aload_n 30 dX3_add_29 rfl rfl ?_
    refine r_getR 33 dX3_add_30 rfl f3_21 rfl (by first | with_reducible assumption | (simp only [gR_sI, gR_sA, gR_sR, gR_rPut, gR_piDrop, false_and, and_false, and_true, true_and, if_false, if_true, reduceIte]; with_reducible assumption) | with_reducible exact ro_1 o3 | with_reducible exact ro_6 o3) (by first | with_reducible assumption | (simp only [gR_sI, gR_sA, gR_sR, gR_rPut, gR_piDrop, false_and, and_false, and_true, true_and, if_false, if_true, reduceIte]; with_reducible assumption) | with_reducible exact ro_1 o3 | with_reducible exact ro_6 o3) (by first | with_reducible assumption | (simp only [gR_sI, gR_sA, gR_sR, gR_rPut, gR_piDrop, false_and, and_false, and_true, true_and, if_false, if_true, reduceIte]; with_reducible assumption) | with_reducible exact ro_1 o3 | with_reducible exact ro_6 o3) ?_
    refine r_aload_n 34 dX3_add_33 rfl rfl ?_
    refine r_getI 37 dX3_add_34 rfl f3_7 rfl (by first | with_reducible assumption | (simp only [gR_sI, gR_sA, gR_sR, gR_rPut, gR_piDrop, false_and, and_false, and_true, true_and, if_false, if_true, reduceIte]; with_reducible assumption) | with_reducible exact ro_1 o3 | with_reducible exact ro_6 o3) (by first | with_reducible assumption | (simp only [gR_sI, gR_sA, gR_sR, gR_rPut, gR_piDrop, false_and, and_false, and_true, true_and, if_false, if_true, reduceIte]; with_reducible assumption) | with_reducible exact ro_1 o3 | with_reducible exact ro_6 o3) ?_
    refine r_iconst (3) 38 dX3_add_37 rfl (by decide) ?_
    refine r_imul 39 dX3_add_38 rfl ?_
    refine r_iconst (1) 40 dX3_add_39 rfl (by decide) ?_
    refine r_iadd 41 dX3_add_40 rfl ?_
    refine r_iload_n 42 dX3_add_41 rfl rfl ?_
    refine r_callV (M := mX3_add) (pc := 42) 45 dX3_add_42 rfl k3_28 (c_X6_put (ro_put q3)) rfl rfl (by first | with_reducible assumption | (simp only [gR_sI, gR_sA, gR_sR, gR_rPut, gR_piDrop, false_and, and_false, and_true, true_and, if_false, if_true, reduceIte]; with_reducible assumption) | with_reducible exact ro_1 o3 | with_reducible exact ro_6 o3) (by decide) rfl (by first | with_reducible assumption | (simp only [gR_sI, gR_sA, gR_sR, gR_rPut, gR_piDrop, false_and, and_false, and_true, true_and, if_false, if_true, reduceIte]; with_reducible assumption) | with_reducible exact ro_1 o3 | with_reducible exact ro_6 o3) (Nat.le_of_ble_eq_true rfl) ?_
    refine r_aload_n 46 dX3_add_45 rfl rfl ?_
    refine r_getR 49 dX3_add_46 rfl f3_21 rfl (by first | with_reducible assumption | (simp only [gR_sI, gR_sA, gR_sR, gR_rPut, gR_piDrop, false_and, and_false, and_true, true_and, if_false, if_true, reduceIte]; with_reducible assumption) | with_reducible exact ro_1 o3 | with_reducible exact ro_6 o3) (by first | with_reducible assumption | (simp only [gR_sI, gR_sA, gR_sR, gR_rPut, gR_piDrop, false_and, and_false, and_true, true_and, if_false, if_true, reduceIte]; with_reducible assumption) | with_reducible exact ro_1 o3 | with_reducible exact ro_6 o3) (by first | with_reducible assumption | (simp only [gR_sI, gR_sA, gR_sR, gR_rPut, gR_piDrop, false_and, and_false, and_true, true_and, if_false, if_true, reduceIte]; with_reducible assumption) | with_reducible exact ro_1 o3 | with_reducible exact ro_6 o3) ?_
    refine r_aload_n 50 dX3_add_49 rfl rfl ?_
    refine r_getI 53 dX3_add_50 rfl f3_7 rfl (by first | with_reducible assumption | (simp only [gR_sI, gR_sA, gR_sR, gR_rPut, gR_piDrop, false_and, and_false, and_true, true_and, if_false, if_true, reduceIte]; with_reducible assumption) | with_reducible exact ro_1 o3 | with_reducible exact ro_6 o3) (by first | with_reducible assumption | (simp only [gR_sI, gR_sA, gR_sR, gR_rPut, gR_piDrop, false_and, and_false, and_true, true_and, if_false, if_true, reduceIte]; with_reducible assumption) | with_reducible exact ro_1 o3 | with_reducible exact ro_6 o3) ?_
    refine r_iconst (3) 54 dX3_add_53 rfl (by decide) ?_
    refine r_imul 55 dX3_add_54 rfl ?_
    refine r_iconst (2) 56 dX3_add_55 rfl (by decide) ?_
    refine r_iadd 57 dX3_add_56 rfl ?_
    refine r_iload_n 58 dX3_add_57 rfl rfl ?_
    refine r_callV (M := mX3_add) (pc := 58) 61 dX3_add_58 rfl k3_28 (c_X6_put (ro_put (ro_put q3))) rfl rfl (by first | with_reducible assumption | (simp only [gR_sI, gR_sA, gR_sR, gR_rPut, gR_piDrop, false_and, and_false, and_true, true_and, if_false, if_true, reduceIte]; with_reducible assumption) | with_reducible exact ro_1 o3 | with_reducible exact ro_6 o3) (by decide) rfl (by first | with_reducible assumption | (simp only [gR_sI, gR_sA, gR_sR, gR_rPut, gR_piDrop, false_and, and_false, and_true, true_and, if_false, if_true, reduceIte]; with_reducible assumption) | with_reducible exact ro_1 o3 | with_reducible exact ro_6 o3) (Nat.le_of_ble_eq_true rfl) ?_
    refine r_aload_n 62 dX3_add_61 rfl rfl ?_
    refine r_dup 63 dX3_add_62 rfl rfl ?_
    refine r_getI 66 dX3_add_63 rfl f3_7 rfl (by first | with_reducible assumption | (simp only [gR_sI, gR_sA, gR_sR, gR_rPut, gR_piDrop, false_and, and_false, and_true, true_and, if_false, if_true, reduceIte]; with_reducible assumption) | with_reducible exact ro_1 o3 | with_reducible exact ro_6 o3) (by first | with_reducible assumption | (simp only [gR_sI, gR_sA, gR_sR, gR_rPut, gR_piDrop, false_and, and_false, and_true, true_and, if_false, if_true, reduceIte]; with_reducible assumption) | with_reducible exact ro_1 o3 | with_reducible exact ro_6 o3) ?_
    refine r_iconst (1) 67 dX3_add_66 rfl (by decide) ?_
    refine r_iadd 68 dX3_add_67 rfl ?_
    refine r_putI 71 dX3_add_68 rfl f3_7 (by first | with_reducible assumption | (simp only [gR_sI, gR_sA, gR_sR, gR_rPut, gR_piDrop, false_and, and_false, and_true, true_and, if_false, if_true, reduceIte]; with_reducible assumption) | with_reducible exact ro_1 o3 | with_reducible exact ro_6 o3) (by first | with_reducible assumption | (simp only [gR_sI, gR_sA, gR_sR, gR_rPut, gR_piDrop, false_and, and_false, and_true, true_and, if_false, if_true, reduceIte]; with_reducible assumption) | with_reducible exact ro_1 o3 | with_reducible exact ro_6 o3) ?_
    exact r_vret dX3_add_71 rfl rfl (by simp only [piAdd, piPut3, gI_rPut, Nat.not_lt.mpr hkm, if_true, if_false])
set_option maxRecDepth 20000 in
theorem c_X3_copy {d n h l h2 l2 : Nat} {E : HP} (ok : PileOK E n h l) (ok2 : PileOK E n h2 l2) : Cl yX3_copy mX3_copy (d + 2) 0 0 [.ref h, .ref h2] E n (.inl none, piCopy h l h2 l2 E, n) := by
  obtain ⟨o1, o2, o3, o4⟩ := id ok
  obtain ⟨p1, p2, p3, p4⟩ := id ok2
  refine Cl.of (by decide) rfl (fun q => by cases q) rfl rfl (Nat.le_of_ble_eq_true rfl) ?_
  show Sm _ _ _ _ _ 0 [some (.ref h), some (.ref h2)] [] _ _
  refine r_aload_n 1 dX3_copy_0 rfl rfl ?_
  refine r_getR 4 dX3_copy_1 rfl f3_21 rfl (by first | assumption | exact ro_1 o3 | exact ro_6 o3 | exact p1 | exact p4) (by first | assumption | exact ro_1 o3 | exact ro_6 o3 | exact p1 | exact p4) (by first | assumption | exact ro_1 o3 | exact ro_6 o3 | exact p1 | exact p4) ?_
  refine r_aload_n 5 dX3_copy_4 rfl rfl ?_
  refine r_getR 8 dX3_copy_5 rfl f3_21 rfl (by first | assumption | exact ro_1 o3 | exact ro_6 o3 | exact p1 | exact p4) (by first | assumption | exact ro_1 o3 | exact ro_6 o3 | exact p1 | exact p4) (by first | assumption | exact ro_1 o3 | exact ro_6 o3 | exact p1 | exact p4) ?_
  refine r_callV (M := mX3_copy) (pc := 8) 11 dX3_copy_8 rfl k3_36 (c_X6_copy o3 p3) rfl rfl (by first | assumption | exact ro_1 o3 | exact ro_6 o3 | exact p1 | exact p4) (by decide) rfl (by first | assumption | exact ro_1 o3 | exact ro_6 o3 | exact p1 | exact p4) (Nat.le_of_ble_eq_true rfl) ?_
  refine r_aload_n 12 dX3_copy_11 rfl rfl ?_
  refine r_aload_n 13 dX3_copy_12 rfl rfl ?_
  refine r_getI 16 dX3_copy_13 rfl f3_7 rfl (by first | assumption | exact ro_1 o3 | exact ro_6 o3 | exact p1 | exact p4) (by first | assumption | exact ro_1 o3 | exact ro_6 o3 | exact p1 | exact p4) ?_
  refine r_putI 19 dX3_copy_16 rfl f3_7 (by first | assumption | exact ro_1 o3 | exact ro_6 o3 | exact p1 | exact p4) (by first | assumption | exact ro_1 o3 | exact ro_6 o3 | exact p1 | exact p4) ?_
  exact r_vret dX3_copy_19 rfl rfl (rfl)
def joinedV (s a b : Int32) : Int32 := if s = -8 then (if a = 0 ∧ b = 0 then 0 else 1) else if s = -9 then (if a = 0 ∨ b = 0 then 0 else 1) else if s = -11 then (if a < b then 1 else 0) else if s = -12 then (if a = b then 1 else 0) else if s = -13 then a + b else if s = -14 then a - b else if s = -15 then a * b else (if b = 0 then 0 else a / b)
