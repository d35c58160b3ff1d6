/-! Row: a row of numbers that looks at an index before it uses it -/
def RowOK (E : HP) (n h l : Nat) : Prop := sh h = (6, 0) ∧ gR E 768 h = some (h + 1) ∧ sh (h + 1) = (100, l) ∧ h + 1 < n ∧ l < 100000 ∧ h < n
theorem ro_1 {E : HP} {n h l : Nat} (o : RowOK E n h l) : sh h = (6, 0) := o.1
theorem ro_2 {E : HP} {n h l : Nat} (o : RowOK E n h l) : gR E 768 h = some (h + 1) := o.2.1
theorem ro_6 {E : HP} {n h l : Nat} (o : RowOK E n h l) : h < n := o.2.2.2.2.2
theorem vp_of {i : Int32} {l : Nat} (h1 : ¬ i < 0) (h2 : ¬ Int32.ofNat l ≤ i) (hl : l < 100000) : vp_in i l := by
  obtain ⟨k, hk, rfl⟩ := nI_of h1
  refine vp_in_nI ?_ (by omega)
  rcases Nat.lt_or_ge k l with q | q
  · exact q
  · exact absurd (nI_le q hk) h2
/-- what at answers, what put leaves -/
def rAt (E : HP) (h l : Nat) (i : Int32) : Int32 := if i < 0 then 0 else if Int32.ofNat l ≤ i then 0 else gA E (h + 1) i.toNatClampNeg
def rPut (E : HP) (h l : Nat) (i v : Int32) : HP := if i < 0 then E else if Int32.ofNat l ≤ i then E else sA E (h + 1) i.toNatClampNeg v
theorem nI_lit (l : Nat) : Int32.ofNat l = nI l := rfl
theorem rAt_nI {E : HP} {h l k : Nat} (hk : k < l) (hl : l < 100000) : rAt E h l (nI k) = gA E (h + 1) k := by
  unfold rAt
  rw [if_neg (nI_pos (by omega)), if_neg (by rw [nI_lit]; exact nI_ge hk (by omega)), nI_clamp (by omega)]
theorem rPut_nI {E : HP} {h l k : Nat} {v : Int32} (hk : k < l) (hl : l < 100000) : rPut E h l (nI k) v = sA E (h + 1) k v := by
  unfold rPut
  rw [if_neg (nI_pos (by omega)), if_neg (by rw [nI_lit]; exact nI_ge hk (by omega)), nI_clamp (by omega)]
theorem ro_sA {E : HP} {n h l a i : Nat} {v : Int32} (o : RowOK E n h l) : RowOK (sA E a i v) n h l := o
theorem ro_put {E : HP} {n h l g m : Nat} {i v : Int32} (o : RowOK E n h l) : RowOK (rPut E g m i v) n h l := by
  unfold rPut
  split
  · exact o
  · split
    · exact o
    · exact o
set_option maxRecDepth 20000 in
theorem c_X6_at {d n h l : Nat} {E : HP} {i : Int32} (ok : RowOK E n h l) : Cl yX6_at mX6_at (d) 0 0 [.ref h, .int i] E n (.inl (some (.int (rAt E h l i))), E, n) := by
  obtain ⟨o1, o2, o3, o4, o5, o6⟩ := ok
  refine Cl.of (by decide) rfl (fun q => by cases q) rfl rfl (Nat.le_of_ble_eq_true rfl) ?_
  show Sm _ _ _ _ _ 0 [some (.ref h), some (.int i)] [] _ _
  refine r_iload_n 1 dX6_at_0 rfl rfl ?_
  refine r_if_lt 4 22 dX6_at_1 rfl (by decide) (fun h1 => ?_) (fun h1 => ?_)
  · refine r_iconst (0) 23 dX6_at_22 rfl (by decide) ?_
    exact r_iret dX6_at_23 rfl rfl (by simp only [rAt, *, if_true, if_false])
  · refine r_iload_n 5 dX6_at_4 rfl rfl ?_
    refine r_aload_n 6 dX6_at_5 rfl rfl ?_
    refine r_getR 9 dX6_at_6 rfl f6_7 rfl (by first | with_reducible assumption | decide | omega) (by first | with_reducible assumption | decide | omega) (by first | with_reducible assumption | decide | omega) ?_
    refine r_alenI _ 10 dX6_at_9 rfl (by first | with_reducible assumption | decide | omega) (by first | with_reducible assumption | decide | omega) rfl ?_
    refine r_icmp_ge 13 22 dX6_at_10 rfl (by decide) (fun h10 => ?_) (fun h10 => ?_)
    · refine r_iconst (0) 23 dX6_at_22 rfl (by decide) ?_
      exact r_iret dX6_at_23 rfl rfl (by simp only [rAt, *, if_true, if_false])
    · refine r_aload_n 14 dX6_at_13 rfl rfl ?_
      refine r_getR 17 dX6_at_14 rfl f6_7 rfl (by first | with_reducible assumption | decide | omega) (by first | with_reducible assumption | decide | omega) (by first | with_reducible assumption | decide | omega) ?_
      refine r_iload_n 18 dX6_at_17 rfl rfl ?_
      refine r_iald 19 dX6_at_18 rfl (by first | with_reducible assumption | decide | omega) (by first | with_reducible assumption | decide | omega) (vp_of h1 h10 o5) ?_
      refine r_goto 23 dX6_at_19 (by decide) ?_
      exact r_iret dX6_at_23 rfl rfl (by simp only [rAt, *, if_true, if_false])
set_option maxRecDepth 20000 in
theorem c_X6_put {d n h l : Nat} {E : HP} {i v : Int32} (ok : RowOK E n h l) : Cl yX6_put mX6_put (d) 0 0 [.ref h, .int i, .int v] E n (.inl none, rPut E h l i v, n) := by
  obtain ⟨o1, o2, o3, o4, o5, o6⟩ := ok
  refine Cl.of (by decide) rfl (fun q => by cases q) rfl rfl (Nat.le_of_ble_eq_true rfl) ?_
  show Sm _ _ _ _ _ 0 [some (.ref h), some (.int i), some (.int v)] [] _ _
  refine r_iload_n 1 dX6_put_0 rfl rfl ?_
  refine r_if_lt 4 20 dX6_put_1 rfl (by decide) (fun h1 => ?_) (fun h1 => ?_)
  · exact r_vret dX6_put_20 rfl rfl (by simp only [rPut, *, if_true, if_false])
  · refine r_iload_n 5 dX6_put_4 rfl rfl ?_
    refine r_aload_n 6 dX6_put_5 rfl rfl ?_
    refine r_getR 9 dX6_put_6 rfl f6_7 rfl (by first | with_reducible assumption | decide | omega) (by first | with_reducible assumption | decide | omega) (by first | with_reducible assumption | decide | omega) ?_
    refine r_alenI _ 10 dX6_put_9 rfl (by first | with_reducible assumption | decide | omega) (by first | with_reducible assumption | decide | omega) rfl ?_
    refine r_icmp_ge 13 20 dX6_put_10 rfl (by decide) (fun h10 => ?_) (fun h10 => ?_)
    · exact r_vret dX6_put_20 rfl rfl (by simp only [rPut, *, if_true, if_false])
    · refine r_aload_n 14 dX6_put_13 rfl rfl ?_
      refine r_getR 17 dX6_put_14 rfl f6_7 rfl (by first | with_reducible assumption | decide | omega) (by first | with_reducible assumption | decide | omega) (by first | with_reducible assumption | decide | omega) ?_
      refine r_iload_n 18 dX6_put_17 rfl rfl ?_
      refine r_iload_n 19 dX6_put_18 rfl rfl ?_
      refine r_iast 20 dX6_put_19 rfl (by first | with_reducible assumption | decide | omega) (by first | with_reducible assumption | decide | omega) (vp_of h1 h10 o5) ?_
      exact r_vret dX6_put_20 rfl rfl (by simp only [rPut, *, if_true, if_false])
set_option maxRecDepth 20000 in
theorem c_X6_add {d n h l : Nat} {E : HP} {i v : Int32} (ok : RowOK E n h l) : Cl yX6_add mX6_add (d + 1) 0 0 [.ref h, .int i, .int v] E n (.inl none, rPut E h l i (rAt E h l i + v), n) := by
  obtain ⟨o1, o2, o3, o4, o5, o6⟩ := id ok
  refine Cl.of (by decide) rfl (fun q => by cases q) rfl rfl (Nat.le_of_ble_eq_true rfl) ?_
  show Sm _ _ _ _ _ 0 [some (.ref h), some (.int i), some (.int v)] [] _ _
  refine r_aload_n 1 dX6_add_0 rfl rfl ?_
  refine r_iload_n 2 dX6_add_1 rfl rfl ?_
  refine r_aload_n 3 dX6_add_2 rfl rfl ?_
  refine r_iload_n 4 dX6_add_3 rfl rfl ?_
  refine r_callV (M := mX6_add) (pc := 4) 7 dX6_add_4 rfl k6_13 (c_X6_at (by first | assumption | exact o1 | exact o6 | exact ro_put ‹_›)) rfl rfl (by first | assumption | exact o1 | exact o6 | exact ro_put ‹_›) (by decide) rfl (by first | assumption | exact o1 | exact o6 | exact ro_put ‹_›) (Nat.le_of_ble_eq_true rfl) ?_
  refine r_iload_n 8 dX6_add_7 rfl rfl ?_
  refine r_iadd 9 dX6_add_8 rfl ?_
  refine r_callV (M := mX6_add) (pc := 9) 12 dX6_add_9 rfl k6_17 (c_X6_put (by first | assumption | exact o1 | exact o6 | exact ro_put ‹_›)) rfl rfl (by first | assumption | exact o1 | exact o6 | exact ro_put ‹_›) (by decide) rfl (by first | assumption | exact o1 | exact o6 | exact ro_put ‹_›) (Nat.le_of_ble_eq_true rfl) ?_
  exact r_vret dX6_add_12 rfl rfl (rfl)
set_option maxRecDepth 20000 in
theorem c_X6_exchange {d n h l : Nat} {E : HP} {i j : Int32} (ok : RowOK E n h l) : Cl yX6_exchange mX6_exchange (d + 1) 0 0 [.ref h, .int i, .int j] E n (.inl none, rPut (rPut E h l i (rAt E h l j)) h l j (rAt E h l i), n) := by
  obtain ⟨o1, o2, o3, o4, o5, o6⟩ := id ok
  refine Cl.of (by decide) rfl (fun q => by cases q) rfl rfl (Nat.le_of_ble_eq_true rfl) ?_
  show Sm _ _ _ _ _ 0 [some (.ref h), some (.int i), some (.int j), none] [] _ _
  refine r_aload_n 1 dX6_exchange_0 rfl rfl ?_
  refine r_iload_n 2 dX6_exchange_1 rfl rfl ?_
  refine r_callV (M := mX6_exchange) (pc := 2) 5 dX6_exchange_2 rfl k6_13 (c_X6_at (by first | assumption | exact o1 | exact o6 | exact ro_put ‹_›)) rfl rfl (by first | assumption | exact o1 | exact o6 | exact ro_put ‹_›) (by decide) rfl (by first | assumption | exact o1 | exact o6 | exact ro_put ‹_›) (Nat.le_of_ble_eq_true rfl) ?_
  refine r_istore_n 6 dX6_exchange_5 rfl (by decide) rfl ?_
  refine r_aload_n 7 dX6_exchange_6 rfl rfl ?_
  refine r_iload_n 8 dX6_exchange_7 rfl rfl ?_
  refine r_aload_n 9 dX6_exchange_8 rfl rfl ?_
  refine r_iload_n 10 dX6_exchange_9 rfl rfl ?_
  refine r_callV (M := mX6_exchange) (pc := 10) 13 dX6_exchange_10 rfl k6_13 (c_X6_at (by first | assumption | exact o1 | exact o6 | exact ro_put ‹_›)) rfl rfl (by first | assumption | exact o1 | exact o6 | exact ro_put ‹_›) (by decide) rfl (by first | assumption | exact o1 | exact o6 | exact ro_put ‹_›) (Nat.le_of_ble_eq_true rfl) ?_
  refine r_callV (M := mX6_exchange) (pc := 13) 16 dX6_exchange_13 rfl k6_17 (c_X6_put (by first | assumption | exact o1 | exact o6 | exact ro_put ‹_›)) rfl rfl (by first | assumption | exact o1 | exact o6 | exact ro_put ‹_›) (by decide) rfl (by first | assumption | exact o1 | exact o6 | exact ro_put ‹_›) (Nat.le_of_ble_eq_true rfl) ?_
  refine r_aload_n 17 dX6_exchange_16 rfl rfl ?_
  refine r_iload_n 18 dX6_exchange_17 rfl rfl ?_
  refine r_iload_n 19 dX6_exchange_18 rfl rfl ?_
  refine r_callV (M := mX6_exchange) (pc := 19) 22 dX6_exchange_19 rfl k6_17 (c_X6_put (by first | assumption | exact o1 | exact o6 | exact ro_put ‹_›)) rfl rfl (by first | assumption | exact o1 | exact o6 | exact ro_put ‹_›) (by decide) rfl (by first | assumption | exact o1 | exact o6 | exact ro_put ‹_›) (Nat.le_of_ble_eq_true rfl) ?_
  exact r_vret dX6_exchange_22 rfl rfl (rfl)
