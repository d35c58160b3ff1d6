/-! Row: fill, countUp, copy -/
theorem loopUp {P : Nat → Prop} {l : Nat} (he : P l) (hs : ∀ k, k < l → P (k + 1) → P k) : P 0 := by
  have : ∀ m k, k + m = l → P k := by
    intro m
    induction m with
    | zero => intro k hk; rw [show k = l by omega]; exact he
    | succ m ih => intro k hk; exact hs k (by omega) (ih (k + 1) (by omega))
  exact this l 0 (by omega)
/-- a loop's heap: step k, from 0 on -/
def itF (f : Nat → HP → HP) : Nat → HP → HP
  | 0, E => E
  | k + 1, E => f k (itF f k E)
theorem itF_keep {P : HP → Prop} {f : Nat → HP → HP} (h : ∀ k E, P E → P (f k E)) : ∀ (k : Nat) {E : HP}, P E → P (itF f k E) := by
  intro k
  induction k with
  | zero => intro E h0; exact h0
  | succ k ih => intro E h0; exact h k _ (ih h0)
def rFill (h : Nat) (v : Int32) : Nat → HP → HP := itF fun k E => sA E (h + 1) k v
def rUp (h : Nat) : Nat → HP → HP := itF fun k E => sA E (h + 1) k (nI k)
def rCopy (h h2 l2 : Nat) : Nat → HP → HP := itF fun k E => sA E (h + 1) k (rAt E h2 l2 (nI k))
theorem ro_fill {E : HP} {n h l g k : Nat} {v : Int32} (o : RowOK E n h l) : RowOK (rFill g v k E) n h l := itF_keep (f := fun k E => sA E (g + 1) k v) (P := fun E => RowOK E n h l) (fun _ _ q => q) k o
theorem ro_up {E : HP} {n h l g k : Nat} (o : RowOK E n h l) : RowOK (rUp g k E) n h l := itF_keep (f := fun k E => sA E (g + 1) k (nI k)) (P := fun E => RowOK E n h l) (fun _ _ q => q) k o
theorem ro_copy {E : HP} {n h l g g2 l2 k : Nat} (o : RowOK E n h l) : RowOK (rCopy g g2 l2 k E) n h l := itF_keep (f := fun k E => sA E (g + 1) k (rAt E g2 l2 (nI k))) (P := fun E => RowOK E n h l) (fun _ _ q => q) k o
set_option maxRecDepth 20000 in
theorem c_X6_fill {d n h l : Nat} {E : HP} {v : Int32} (ok : RowOK E n h l) : Cl yX6_fill mX6_fill (d) 0 0 [.ref h, .int v] E n (.inl none, rFill h v l E, n) := by
  obtain ⟨o1, o2, o3, o4, o5, o6⟩ := id ok
  refine Cl.of (by decide) rfl (fun q => by cases q) rfl rfl (Nat.le_of_ble_eq_true rfl) ?_
  show Sm _ _ _ _ _ 0 [some (.ref h), some (.int v), none] [] _ _
  have loop := loopUp (P := fun k => Sm mX6_fill (d) 0 0 (.inl none, rFill h v l E, n) 2 [some (.ref h), some (.int v), some (.int (nI k))] [] (rFill h v k E) n) (l := l) ?_ ?_
  refine r_iconst (0) 1 dX6_fill_0 rfl (by decide) ?_
  refine r_istore_n 2 dX6_fill_1 rfl (by decide) rfl ?_
  exact loop
  · refine r_iload_n 3 dX6_fill_2 rfl rfl ?_
    refine r_aload_n 4 dX6_fill_3 rfl rfl ?_
    refine r_getR 7 dX6_fill_4 rfl f6_7 rfl (by first | assumption | exact (ro_fill ok).2.1) (by first | assumption | exact (ro_fill ok).2.1) (by first | assumption | exact (ro_fill ok).2.1) ?_
    refine r_alenI _ 8 dX6_fill_7 rfl (by first | assumption | exact (ro_fill ok).2.1) (by first | assumption | exact (ro_fill ok).2.1) rfl ?_
    refine r_icmp_ge 11 24 dX6_fill_8 rfl (by decide) (fun h8 => ?_) (fun h8 => absurd (nI_le (Nat.le_refl l) (by omega)) h8)
    exact r_vret dX6_fill_24 rfl rfl (rfl)
  · intro k hk hq
    show Sm mX6_fill (d) 0 0 (.inl none, rFill h v l E, n) 2 [some (.ref h), some (.int v), some (.int (nI k))] [] (rFill h v k E) n
    refine r_iload_n 3 dX6_fill_2 rfl rfl ?_
    refine r_aload_n 4 dX6_fill_3 rfl rfl ?_
    refine r_getR 7 dX6_fill_4 rfl f6_7 rfl (by first | assumption | exact (ro_fill ok).2.1) (by first | assumption | exact (ro_fill ok).2.1) (by first | assumption | exact (ro_fill ok).2.1) ?_
    refine r_alenI _ 8 dX6_fill_7 rfl (by first | assumption | exact (ro_fill ok).2.1) (by first | assumption | exact (ro_fill ok).2.1) rfl ?_
    refine r_icmp_ge 11 24 dX6_fill_8 rfl (by decide) (fun h8 => absurd h8 (nI_ge hk (by omega))) (fun h8 => ?_)
    refine r_aload_n 12 dX6_fill_11 rfl rfl ?_
    refine r_getR 15 dX6_fill_12 rfl f6_7 rfl (by first | assumption | exact (ro_fill ok).2.1) (by first | assumption | exact (ro_fill ok).2.1) (by first | assumption | exact (ro_fill ok).2.1) ?_
    refine r_iload_n 16 dX6_fill_15 rfl rfl ?_
    refine r_iload_n 17 dX6_fill_16 rfl rfl ?_
    refine r_iast 18 dX6_fill_17 rfl (by first | assumption | exact (ro_fill ok).2.1) (by first | assumption | exact (ro_fill ok).2.1) (by exact vp_in_nI hk (by omega)) ?_
    refine r_iinc (1) 21 dX6_fill_18 rfl rfl (by decide) (by decide) rfl ?_
    refine r_goto 2 dX6_fill_21 (by decide) ?_
    rw [nI_succ] at hq
    rw [nI_clamp (show k < 2 ^ 31 by omega)]
    exact hq
set_option maxRecDepth 20000 in
theorem c_X6_countUp {d n h l : Nat} {E : HP} (ok : RowOK E n h l) : Cl yX6_countUp mX6_countUp (d) 0 0 [.ref h] E n (.inl none, rUp h l E, n) := by
  obtain ⟨o1, o2, o3, o4, o5, o6⟩ := id ok
  refine Cl.of (by decide) rfl (fun q => by cases q) rfl rfl (Nat.le_of_ble_eq_true rfl) ?_
  show Sm _ _ _ _ _ 0 [some (.ref h), none] [] _ _
  have loop := loopUp (P := fun k => Sm mX6_countUp (d) 0 0 (.inl none, rUp h l E, n) 2 [some (.ref h), some (.int (nI k))] [] (rUp h k E) n) (l := l) ?_ ?_
  refine r_iconst (0) 1 dX6_countUp_0 rfl (by decide) ?_
  refine r_istore_n 2 dX6_countUp_1 rfl (by decide) rfl ?_
  exact loop
  · refine r_iload_n 3 dX6_countUp_2 rfl rfl ?_
    refine r_aload_n 4 dX6_countUp_3 rfl rfl ?_
    refine r_getR 7 dX6_countUp_4 rfl f6_7 rfl (by first | assumption | exact (ro_up ok).2.1) (by first | assumption | exact (ro_up ok).2.1) (by first | assumption | exact (ro_up ok).2.1) ?_
    refine r_alenI _ 8 dX6_countUp_7 rfl (by first | assumption | exact (ro_up ok).2.1) (by first | assumption | exact (ro_up ok).2.1) rfl ?_
    refine r_icmp_ge 11 24 dX6_countUp_8 rfl (by decide) (fun h8 => ?_) (fun h8 => absurd (nI_le (Nat.le_refl l) (by omega)) h8)
    exact r_vret dX6_countUp_24 rfl rfl (rfl)
  · intro k hk hq
    show Sm mX6_countUp (d) 0 0 (.inl none, rUp h l E, n) 2 [some (.ref h), some (.int (nI k))] [] (rUp h k E) n
    refine r_iload_n 3 dX6_countUp_2 rfl rfl ?_
    refine r_aload_n 4 dX6_countUp_3 rfl rfl ?_
    refine r_getR 7 dX6_countUp_4 rfl f6_7 rfl (by first | assumption | exact (ro_up ok).2.1) (by first | assumption | exact (ro_up ok).2.1) (by first | assumption | exact (ro_up ok).2.1) ?_
    refine r_alenI _ 8 dX6_countUp_7 rfl (by first | assumption | exact (ro_up ok).2.1) (by first | assumption | exact (ro_up ok).2.1) rfl ?_
    refine r_icmp_ge 11 24 dX6_countUp_8 rfl (by decide) (fun h8 => absurd h8 (nI_ge hk (by omega))) (fun h8 => ?_)
    refine r_aload_n 12 dX6_countUp_11 rfl rfl ?_
    refine r_getR 15 dX6_countUp_12 rfl f6_7 rfl (by first | assumption | exact (ro_up ok).2.1) (by first | assumption | exact (ro_up ok).2.1) (by first | assumption | exact (ro_up ok).2.1) ?_
    refine r_iload_n 16 dX6_countUp_15 rfl rfl ?_
    refine r_iload_n 17 dX6_countUp_16 rfl rfl ?_
    refine r_iast 18 dX6_countUp_17 rfl (by first | assumption | exact (ro_up ok).2.1) (by first | assumption | exact (ro_up ok).2.1) (by exact vp_in_nI hk (by omega)) ?_
    refine r_iinc (1) 21 dX6_countUp_18 rfl rfl (by decide) (by decide) rfl ?_
    refine r_goto 2 dX6_countUp_21 (by decide) ?_
    rw [nI_succ] at hq
    rw [nI_clamp (show k < 2 ^ 31 by omega)]
    exact hq
set_option maxRecDepth 20000 in
theorem c_X6_copy {d n h l h2 l2 : Nat} {E : HP} (ok : RowOK E n h l) (ok2 : RowOK E n h2 l2) : Cl yX6_copy mX6_copy (d + 1) 0 0 [.ref h, .ref h2] E n (.inl none, rCopy h h2 l2 l E, n) := by
  obtain ⟨o1, o2, o3, o4, o5, o6⟩ := id ok
  refine Cl.of (by decide) rfl (fun q => by cases q) rfl rfl (Nat.le_of_ble_eq_true rfl) ?_
  show Sm _ _ _ _ _ 0 [some (.ref h), some (.ref h2), none] [] _ _
  have loop := loopUp (P := fun k => Sm mX6_copy (d + 1) 0 0 (.inl none, rCopy h h2 l2 l E, n) 2 [some (.ref h), some (.ref h2), some (.int (nI k))] [] (rCopy h h2 l2 k E) n) (l := l) ?_ ?_
  refine r_iconst (0) 1 dX6_copy_0 rfl (by decide) ?_
  refine r_istore_n 2 dX6_copy_1 rfl (by decide) rfl ?_
  exact loop
  · refine r_iload_n 3 dX6_copy_2 rfl rfl ?_
    refine r_aload_n 4 dX6_copy_3 rfl rfl ?_
    refine r_getR 7 dX6_copy_4 rfl f6_7 rfl (by first | assumption | exact (ro_copy ok).2.1 | exact ro_copy ok2 | exact ok2.1 | exact ok2.2.2.2.2.2) (by first | assumption | exact (ro_copy ok).2.1 | exact ro_copy ok2 | exact ok2.1 | exact ok2.2.2.2.2.2) (by first | assumption | exact (ro_copy ok).2.1 | exact ro_copy ok2 | exact ok2.1 | exact ok2.2.2.2.2.2) ?_
    refine r_alenI _ 8 dX6_copy_7 rfl (by first | assumption | exact (ro_copy ok).2.1 | exact ro_copy ok2 | exact ok2.1 | exact ok2.2.2.2.2.2) (by first | assumption | exact (ro_copy ok).2.1 | exact ro_copy ok2 | exact ok2.1 | exact ok2.2.2.2.2.2) rfl ?_
    refine r_icmp_ge 11 28 dX6_copy_8 rfl (by decide) (fun h8 => ?_) (fun h8 => absurd (nI_le (Nat.le_refl l) (by omega)) h8)
    exact r_vret dX6_copy_28 rfl rfl (rfl)
  · intro k hk hq
    show Sm mX6_copy (d + 1) 0 0 (.inl none, rCopy h h2 l2 l E, n) 2 [some (.ref h), some (.ref h2), some (.int (nI k))] [] (rCopy h h2 l2 k E) n
    refine r_iload_n 3 dX6_copy_2 rfl rfl ?_
    refine r_aload_n 4 dX6_copy_3 rfl rfl ?_
    refine r_getR 7 dX6_copy_4 rfl f6_7 rfl (by first | assumption | exact (ro_copy ok).2.1 | exact ro_copy ok2 | exact ok2.1 | exact ok2.2.2.2.2.2) (by first | assumption | exact (ro_copy ok).2.1 | exact ro_copy ok2 | exact ok2.1 | exact ok2.2.2.2.2.2) (by first | assumption | exact (ro_copy ok).2.1 | exact ro_copy ok2 | exact ok2.1 | exact ok2.2.2.2.2.2) ?_
    refine r_alenI _ 8 dX6_copy_7 rfl (by first | assumption | exact (ro_copy ok).2.1 | exact ro_copy ok2 | exact ok2.1 | exact ok2.2.2.2.2.2) (by first | assumption | exact (ro_copy ok).2.1 | exact ro_copy ok2 | exact ok2.1 | exact ok2.2.2.2.2.2) rfl ?_
    refine r_icmp_ge 11 28 dX6_copy_8 rfl (by decide) (fun h8 => absurd h8 (nI_ge hk (by omega))) (fun h8 => ?_)
    refine r_aload_n 12 dX6_copy_11 rfl rfl ?_
    refine r_getR 15 dX6_copy_12 rfl f6_7 rfl (by first | assumption | exact (ro_copy ok).2.1 | exact ro_copy ok2 | exact ok2.1 | exact ok2.2.2.2.2.2) (by first | assumption | exact (ro_copy ok).2.1 | exact ro_copy ok2 | exact ok2.1 | exact ok2.2.2.2.2.2) (by first | assumption | exact (ro_copy ok).2.1 | exact ro_copy ok2 | exact ok2.1 | exact ok2.2.2.2.2.2) ?_
    refine r_iload_n 16 dX6_copy_15 rfl rfl ?_
    refine r_aload_n 17 dX6_copy_16 rfl rfl ?_
    refine r_iload_n 18 dX6_copy_17 rfl rfl ?_
    refine r_callV (M := mX6_copy) (pc := 18) 21 dX6_copy_18 rfl k6_13 (c_X6_at (by first | assumption | exact (ro_copy ok).2.1 | exact ro_copy ok2 | exact ok2.1 | exact ok2.2.2.2.2.2)) rfl rfl (by first | assumption | exact (ro_copy ok).2.1 | exact ro_copy ok2 | exact ok2.1 | exact ok2.2.2.2.2.2) (by decide) rfl (by first | assumption | exact (ro_copy ok).2.1 | exact ro_copy ok2 | exact ok2.1 | exact ok2.2.2.2.2.2) (Nat.le_of_ble_eq_true rfl) ?_
    refine r_iast 22 dX6_copy_21 rfl (by first | assumption | exact (ro_copy ok).2.1 | exact ro_copy ok2 | exact ok2.1 | exact ok2.2.2.2.2.2) (by first | assumption | exact (ro_copy ok).2.1 | exact ro_copy ok2 | exact ok2.1 | exact ok2.2.2.2.2.2) (by exact vp_in_nI hk (by omega)) ?_
    refine r_iinc (1) 25 dX6_copy_22 rfl rfl (by decide) (by decide) rfl ?_
    refine r_goto 2 dX6_copy_25 (by decide) ?_
    rw [nI_succ] at hq
    rw [nI_clamp (show k < 2 ^ 31 by omega)]
    exact hq
