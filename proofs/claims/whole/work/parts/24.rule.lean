/-! Rule: joined, holds -/
/-- -1, by a name (x + -1 inside a pair sends the unifier astray) -/
noncomputable def m1 : Int32 := Classical.choose (⟨-1, rfl⟩ : ∃ x : Int32, x = -1)
theorem m1_eq : m1 = -1 := Classical.choose_spec (⟨-1, rfl⟩ : ∃ x : Int32, x = -1)
theorem m1_of : Int32.ofInt (-1) = m1 := by rw [m1_eq]; decide
set_option maxRecDepth 20000 in
theorem c_X7_joined {d n : Nat} {E : HP} {s a b : Int32} : Cl yX7_joined mX7_joined d 0 0 [.int s, .int a, .int b] E n (.inl (some (.int (joinedV s a b))), E, n) := by
  refine Cl.of (by decide) rfl (fun q => by cases q) rfl rfl (Nat.le_of_ble_eq_true rfl) ?_
  show Sm _ _ _ _ _ 0 [some (.int s), some (.int a), some (.int b)] [] _ _
  by_cases e0 : s = (-15)
  · subst e0
    refine r_iload_n 1 dX7_joined_0 rfl rfl ?_
    refine r_tableIn 106 dX7_joined_1 (by decide) (by decide) rfl (by decide) ?_
    refine r_iload_n 107 dX7_joined_106 rfl rfl ?_
    refine r_iload_n 108 dX7_joined_107 rfl rfl ?_
    refine r_imul 109 dX7_joined_108 rfl ?_
    exact r_iret dX7_joined_109 rfl rfl (by simp [joinedV, *])
  by_cases e1 : s = (-14)
  · subst e1
    refine r_iload_n 1 dX7_joined_0 rfl rfl ?_
    refine r_tableIn 102 dX7_joined_1 (by decide) (by decide) rfl (by decide) ?_
    refine r_iload_n 103 dX7_joined_102 rfl rfl ?_
    refine r_iload_n 104 dX7_joined_103 rfl rfl ?_
    refine r_isub 105 dX7_joined_104 rfl ?_
    exact r_iret dX7_joined_105 rfl rfl (by simp [joinedV, *])
  by_cases e2 : s = (-13)
  · subst e2
    refine r_iload_n 1 dX7_joined_0 rfl rfl ?_
    refine r_tableIn 98 dX7_joined_1 (by decide) (by decide) rfl (by decide) ?_
    refine r_iload_n 99 dX7_joined_98 rfl rfl ?_
    refine r_iload_n 100 dX7_joined_99 rfl rfl ?_
    refine r_iadd 101 dX7_joined_100 rfl ?_
    exact r_iret dX7_joined_101 rfl rfl (by simp [joinedV, *])
  by_cases e3 : s = (-12)
  · subst e3
    refine r_iload_n 1 dX7_joined_0 rfl rfl ?_
    refine r_tableIn 87 dX7_joined_1 (by decide) (by decide) rfl (by decide) ?_
    refine r_iload_n 88 dX7_joined_87 rfl rfl ?_
    refine r_iload_n 89 dX7_joined_88 rfl rfl ?_
    refine r_icmp_ne 92 96 dX7_joined_89 rfl (by decide) (fun h89 => ?_) (fun h89 => ?_)
    · refine r_iconst (0) 97 dX7_joined_96 rfl (by decide) ?_
      exact r_iret dX7_joined_97 rfl rfl (by simp [joinedV, *])
    · refine r_iconst (1) 93 dX7_joined_92 rfl (by decide) ?_
      refine r_goto 97 dX7_joined_93 (by decide) ?_
      exact r_iret dX7_joined_97 rfl rfl (by simp [joinedV, *])
  by_cases e4 : s = (-11)
  · subst e4
    refine r_iload_n 1 dX7_joined_0 rfl rfl ?_
    refine r_tableIn 76 dX7_joined_1 (by decide) (by decide) rfl (by decide) ?_
    refine r_iload_n 77 dX7_joined_76 rfl rfl ?_
    refine r_iload_n 78 dX7_joined_77 rfl rfl ?_
    refine r_icmp_ge 81 85 dX7_joined_78 rfl (by decide) (fun h78 => ?_) (fun h78 => ?_)
    · refine r_iconst (0) 86 dX7_joined_85 rfl (by decide) ?_
      exact r_iret dX7_joined_86 rfl rfl (by simp [joinedV, *])
    · refine r_iconst (1) 82 dX7_joined_81 rfl (by decide) ?_
      refine r_goto 86 dX7_joined_82 (by decide) ?_
      exact r_iret dX7_joined_86 rfl rfl (by simp [joinedV, *])
  by_cases e5 : s = (-10)
  · subst e5
    refine r_iload_n 1 dX7_joined_0 rfl rfl ?_
    refine r_tableIn 110 dX7_joined_1 (by decide) (by decide) rfl (by decide) ?_
    refine r_iload_n 111 dX7_joined_110 rfl rfl ?_
    refine r_if_ne 114 118 dX7_joined_111 rfl (by decide) (fun h111 => ?_) (fun h111 => ?_)
    · refine r_iload_n 119 dX7_joined_118 rfl rfl ?_
      refine r_iload_n 120 dX7_joined_119 rfl rfl ?_
      refine r_idiv 121 dX7_joined_120 rfl (by first | with_reducible assumption | decide | omega) ?_
      exact r_iret dX7_joined_121 rfl rfl (by simp [joinedV, *])
    · refine r_iconst (0) 115 dX7_joined_114 rfl (by decide) ?_
      refine r_goto 121 dX7_joined_115 (by decide) ?_
      exact r_iret dX7_joined_121 rfl rfl (by simp [joinedV, *])
  by_cases e6 : s = (-9)
  · subst e6
    refine r_iload_n 1 dX7_joined_0 rfl rfl ?_
    refine r_tableIn 62 dX7_joined_1 (by decide) (by decide) rfl (by decide) ?_
    refine r_iload_n 63 dX7_joined_62 rfl rfl ?_
    refine r_if_eq 66 74 dX7_joined_63 rfl (by decide) (fun h63 => ?_) (fun h63 => ?_)
    · refine r_iconst (0) 75 dX7_joined_74 rfl (by decide) ?_
      exact r_iret dX7_joined_75 rfl rfl (by simp [joinedV, *])
    · refine r_iload_n 67 dX7_joined_66 rfl rfl ?_
      refine r_if_eq 70 74 dX7_joined_67 rfl (by decide) (fun h67 => ?_) (fun h67 => ?_)
      · refine r_iconst (0) 75 dX7_joined_74 rfl (by decide) ?_
        exact r_iret dX7_joined_75 rfl rfl (by simp [joinedV, *])
      · refine r_iconst (1) 71 dX7_joined_70 rfl (by decide) ?_
        refine r_goto 75 dX7_joined_71 (by decide) ?_
        exact r_iret dX7_joined_75 rfl rfl (by simp [joinedV, *])
  by_cases e7 : s = (-8)
  · subst e7
    refine r_iload_n 1 dX7_joined_0 rfl rfl ?_
    refine r_tableIn 48 dX7_joined_1 (by decide) (by decide) rfl (by decide) ?_
    refine r_iload_n 49 dX7_joined_48 rfl rfl ?_
    refine r_if_ne 52 56 dX7_joined_49 rfl (by decide) (fun h49 => ?_) (fun h49 => ?_)
    · refine r_iconst (1) 57 dX7_joined_56 rfl (by decide) ?_
      refine r_goto 61 dX7_joined_57 (by decide) ?_
      exact r_iret dX7_joined_61 rfl rfl (by simp [joinedV, *])
    · refine r_iload_n 53 dX7_joined_52 rfl rfl ?_
      refine r_if_eq 56 60 dX7_joined_53 rfl (by decide) (fun h53 => ?_) (fun h53 => ?_)
      · refine r_iconst (0) 61 dX7_joined_60 rfl (by decide) ?_
        exact r_iret dX7_joined_61 rfl rfl (by simp [joinedV, *])
      · refine r_iconst (1) 57 dX7_joined_56 rfl (by decide) ?_
        refine r_goto 61 dX7_joined_57 (by decide) ?_
        exact r_iret dX7_joined_61 rfl rfl (by simp [joinedV, *])
  have ho : s.toInt < (-15) ∨ (-8) < s.toInt := by
    have q0 := lv_neT e0 (a := -15) (by decide)
    have q1 := lv_neT e1 (a := -14) (by decide)
    have q2 := lv_neT e2 (a := -13) (by decide)
    have q3 := lv_neT e3 (a := -12) (by decide)
    have q4 := lv_neT e4 (a := -11) (by decide)
    have q5 := lv_neT e5 (a := -10) (by decide)
    have q6 := lv_neT e6 (a := -9) (by decide)
    have q7 := lv_neT e7 (a := -8) (by decide)
    omega
  refine r_iload_n 1 dX7_joined_0 rfl rfl ?_
  refine r_tableOut 110 dX7_joined_1 (ho) (by decide) ?_
  refine r_iload_n 111 dX7_joined_110 rfl rfl ?_
  refine r_if_ne 114 118 dX7_joined_111 rfl (by decide) (fun h111 => ?_) (fun h111 => ?_)
  · refine r_iload_n 119 dX7_joined_118 rfl rfl ?_
    refine r_iload_n 120 dX7_joined_119 rfl rfl ?_
    refine r_idiv 121 dX7_joined_120 rfl (by first | with_reducible assumption | decide | omega) ?_
    exact r_iret dX7_joined_121 rfl rfl (by simp [joinedV, *])
  · refine r_iconst (0) 115 dX7_joined_114 rfl (by decide) ?_
    refine r_goto 121 dX7_joined_115 (by decide) ?_
    exact r_iret dX7_joined_121 rfl rfl (by simp [joinedV, *])
/-- one step of the rule's reckoning: the heap, and the top -/
noncomputable def ruStep (h : Nat) (q : HP × Int32) (i : Nat) : HP × Int32 :=
  if rAt q.1 (h + 1) 600 (nI i) < 0 then
    if rAt q.1 (h + 1) 600 (nI i) < -7 then
      if rAt q.1 (h + 1) 600 (nI i) = -10 then (rPut q.1 (h + 5) 40 q.2 (if rAt q.1 (h + 5) 40 q.2 = 0 then 1 else 0), q.2)
      else (rPut q.1 (h + 5) 40 (q.2 + m1) (joinedV (rAt q.1 (h + 1) 600 (nI i)) (rAt q.1 (h + 5) 40 (q.2 + m1)) (rAt q.1 (h + 5) 40 (q.2 + m1 + 1))), q.2 + m1)
    else (rPut q.1 (h + 5) 40 (q.2 + 1) (rAt q.1 (h + 3) 7 (-1 - rAt q.1 (h + 1) 600 (nI i))), q.2 + 1)
  else (rPut q.1 (h + 5) 40 (q.2 + 1) (rAt q.1 (h + 1) 600 (nI i)), q.2 + 1)
noncomputable def ruIt (h : Nat) (E : HP) : Nat → HP × Int32
  | 0 => (E, -1)
  | k + 1 => ruStep h (ruIt h E k) k
theorem ruStep_inv {P : HP → Prop} (hp : ∀ E h l i v, P E → P (rPut E h l i v)) {h : Nat} {q : HP × Int32} {i : Nat} (h0 : P q.1) : P (ruStep h q i).1 := by
  unfold ruStep
  by_cases h1 : rAt q.1 (h + 1) 600 (nI i) < 0
  · rw [if_pos h1]
    by_cases h2 : rAt q.1 (h + 1) 600 (nI i) < -7
    · rw [if_pos h2]
      by_cases h3 : rAt q.1 (h + 1) 600 (nI i) = -10
      · rw [if_pos h3]; exact hp _ _ _ _ _ h0
      · rw [if_neg h3]; exact hp _ _ _ _ _ h0
    · rw [if_neg h2]; exact hp _ _ _ _ _ h0
  · rw [if_neg h1]; exact hp _ _ _ _ _ h0
theorem ruIt_inv {P : HP → Prop} (hp : ∀ E h l i v, P E → P (rPut E h l i v)) {h : Nat} {E : HP} (h0 : P E) : ∀ k, P (ruIt h E k).1 := by
  intro k
  induction k with
  | zero => exact h0
  | succ k ih => exact ruStep_inv hp ih
theorem ru_it {E : HP} {n h g : Nat} (o : RuleOK E n h) (k : Nat) : RuleOK (ruIt g E k).1 n h := ruIt_inv (P := fun E => RuleOK E n h) (fun _ _ _ _ _ q => ru_put q) o k
theorem gI_it {E : HP} {h g j : Nat} (k : Nat) : gI (ruIt h E k).1 g j = gI E g j := ruIt_inv (P := fun E2 => gI E2 g j = gI E g j) (fun _ _ _ _ _ q => gI_rPut.trans q) rfl k
theorem gR_it {E : HP} {h g j : Nat} (k : Nat) : gR (ruIt h E k).1 g j = gR E g j := ruIt_inv (P := fun E2 => gR E2 g j = gR E g j) (fun _ _ _ _ _ q => gR_rPut.trans q) rfl k
noncomputable def ruVal (h k : Nat) (E : HP) : Int32 := if rAt (ruIt h E k).1 (h + 5) 40 (ruIt h E k).2 = 0 then 0 else 1
set_option maxRecDepth 20000 in
theorem c_X7_holds {d n h k : Nat} {E : HP} (ok : RuleOK E n h) (hk : gI E 897 h = nI k) (hk6 : k ≤ 600) : Cl yX7_holds mX7_holds (d + 1) 0 0 [.ref h] E n (.inl (some (.int (ruVal h k E))), (ruIt h E k).1, n) := by
  obtain ⟨o1, o2, o3, o4, o5, o6, o7, o8⟩ := id ok
  refine Cl.of (by decide) rfl (fun q => by cases q) rfl rfl (Nat.le_of_ble_eq_true rfl) ?_
  show Sm _ _ _ _ _ 0 [some (.ref h), none, none, none] [] _ _
  have loop := loopUp (P := fun k9 => Sm mX7_holds (d + 1) 0 0 (.inl (some (.int (ruVal h k E))), (ruIt h E k).1, n) 4 [some (.ref h), some (.int (ruIt h E k9).2), some (.int (nI k9)), none] [] (ruIt h E k9).1 n) (l := k) ?_ ?_
  refine r_iconst (-1) 1 dX7_holds_0 rfl (by decide) ?_
  refine r_istore_n 2 dX7_holds_1 rfl (by decide) rfl ?_
  refine r_iconst (0) 3 dX7_holds_2 rfl (by decide) ?_
  refine r_istore_n 4 dX7_holds_3 rfl (by decide) rfl ?_
  exact loop
  · refine r_iload_n 5 dX7_holds_4 rfl rfl ?_
    refine r_aload_n 6 dX7_holds_5 rfl rfl ?_
    refine r_getI 9 dX7_holds_6 rfl f7_20 rfl (by first | with_reducible assumption | (simp only [gR_it, gR_rPut]; with_reducible assumption) | with_reducible exact ro_1 o5 | with_reducible exact ro_1 o6 | with_reducible exact ro_1 o7 | with_reducible exact ro_6 o5 | with_reducible exact ro_6 o6 | with_reducible exact ro_6 o7) (by first | with_reducible assumption | (simp only [gR_it, gR_rPut]; with_reducible assumption) | with_reducible exact ro_1 o5 | with_reducible exact ro_1 o6 | with_reducible exact ro_1 o7 | with_reducible exact ro_6 o5 | with_reducible exact ro_6 o6 | with_reducible exact ro_6 o7) ?_
    refine r_icmp_ge 12 142 dX7_holds_9 rfl (by decide) (fun h9 => ?_) (fun h9 => absurd (by rw [gI_it, hk]; exact nI_le (Nat.le_refl k) (by omega)) h9)
    refine r_aload_n 143 dX7_holds_142 rfl rfl ?_
    refine r_getR 146 dX7_holds_143 rfl f7_27 rfl (by first | with_reducible assumption | (simp only [gR_it, gR_rPut]; with_reducible assumption) | with_reducible exact ro_1 o5 | with_reducible exact ro_1 o6 | with_reducible exact ro_1 o7 | with_reducible exact ro_6 o5 | with_reducible exact ro_6 o6 | with_reducible exact ro_6 o7) (by first | with_reducible assumption | (simp only [gR_it, gR_rPut]; with_reducible assumption) | with_reducible exact ro_1 o5 | with_reducible exact ro_1 o6 | with_reducible exact ro_1 o7 | with_reducible exact ro_6 o5 | with_reducible exact ro_6 o6 | with_reducible exact ro_6 o7) (by first | with_reducible assumption | (simp only [gR_it, gR_rPut]; with_reducible assumption) | with_reducible exact ro_1 o5 | with_reducible exact ro_1 o6 | with_reducible exact ro_1 o7 | with_reducible exact ro_6 o5 | with_reducible exact ro_6 o6 | with_reducible exact ro_6 o7) ?_
    refine r_iload_n 147 dX7_holds_146 rfl rfl ?_
    refine r_callV (M := mX7_holds) (pc := 147) 150 dX7_holds_147 rfl k7_34 (c_X6_at (ru_it ok k).2.2.2.2.2.2.1) rfl rfl (by first | with_reducible assumption | (simp only [gR_it, gR_rPut]; with_reducible assumption) | with_reducible exact ro_1 o5 | with_reducible exact ro_1 o6 | with_reducible exact ro_1 o7 | with_reducible exact ro_6 o5 | with_reducible exact ro_6 o6 | with_reducible exact ro_6 o7) (by decide) rfl (by first | with_reducible assumption | (simp only [gR_it, gR_rPut]; with_reducible assumption) | with_reducible exact ro_1 o5 | with_reducible exact ro_1 o6 | with_reducible exact ro_1 o7 | with_reducible exact ro_6 o5 | with_reducible exact ro_6 o6 | with_reducible exact ro_6 o7) (Nat.le_of_ble_eq_true rfl) ?_
    refine r_if_eq 153 157 dX7_holds_150 rfl (by decide) (fun h150 => ?_) (fun h150 => ?_)
    · refine r_iconst (0) 158 dX7_holds_157 rfl (by decide) ?_
      exact r_zret dX7_holds_158 rfl rfl (by decide) (by simp only [ruVal, *, if_true, if_false])
    · refine r_iconst (1) 154 dX7_holds_153 rfl (by decide) ?_
      refine r_goto 158 dX7_holds_154 (by decide) ?_
      exact r_zret dX7_holds_158 rfl rfl (by decide) (by simp only [ruVal, *, if_true, if_false])
  · intro k9 hk9 hq
    show Sm mX7_holds (d + 1) 0 0 (.inl (some (.int (ruVal h k E))), (ruIt h E k).1, n) 4 [some (.ref h), some (.int (ruIt h E k9).2), some (.int (nI k9)), none] [] (ruIt h E k9).1 n
    refine r_iload_n 5 dX7_holds_4 rfl rfl ?_
    refine r_aload_n 6 dX7_holds_5 rfl rfl ?_
    refine r_getI 9 dX7_holds_6 rfl f7_20 rfl (by first | with_reducible assumption | (simp only [gR_it, gR_rPut]; with_reducible assumption) | with_reducible exact ro_1 o5 | with_reducible exact ro_1 o6 | with_reducible exact ro_1 o7 | with_reducible exact ro_6 o5 | with_reducible exact ro_6 o6 | with_reducible exact ro_6 o7) (by first | with_reducible assumption | (simp only [gR_it, gR_rPut]; with_reducible assumption) | with_reducible exact ro_1 o5 | with_reducible exact ro_1 o6 | with_reducible exact ro_1 o7 | with_reducible exact ro_6 o5 | with_reducible exact ro_6 o6 | with_reducible exact ro_6 o7) ?_
    refine r_icmp_ge 12 142 dX7_holds_9 rfl (by decide) (fun h9 => absurd h9 (by rw [gI_it, hk]; exact nI_ge hk9 (by omega))) (fun h9 => ?_)
    refine r_aload_n 13 dX7_holds_12 rfl rfl ?_
    refine r_getR 16 dX7_holds_13 rfl f7_14 rfl (by first | with_reducible assumption | (simp only [gR_it, gR_rPut]; with_reducible assumption) | with_reducible exact ro_1 o5 | with_reducible exact ro_1 o6 | with_reducible exact ro_1 o7 | with_reducible exact ro_6 o5 | with_reducible exact ro_6 o6 | with_reducible exact ro_6 o7) (by first | with_reducible assumption | (simp only [gR_it, gR_rPut]; with_reducible assumption) | with_reducible exact ro_1 o5 | with_reducible exact ro_1 o6 | with_reducible exact ro_1 o7 | with_reducible exact ro_6 o5 | with_reducible exact ro_6 o6 | with_reducible exact ro_6 o7) (by first | with_reducible assumption | (simp only [gR_it, gR_rPut]; with_reducible assumption) | with_reducible exact ro_1 o5 | with_reducible exact ro_1 o6 | with_reducible exact ro_1 o7 | with_reducible exact ro_6 o5 | with_reducible exact ro_6 o6 | with_reducible exact ro_6 o7) ?_
    refine r_iload_n 17 dX7_holds_16 rfl rfl ?_
    refine r_callV (M := mX7_holds) (pc := 17) 20 dX7_holds_17 rfl k7_34 (c_X6_at (ru_it ok k9).2.2.2.2.1) rfl rfl (by first | with_reducible assumption | (simp only [gR_it, gR_rPut]; with_reducible assumption) | with_reducible exact ro_1 o5 | with_reducible exact ro_1 o6 | with_reducible exact ro_1 o7 | with_reducible exact ro_6 o5 | with_reducible exact ro_6 o6 | with_reducible exact ro_6 o7) (by decide) rfl (by first | with_reducible assumption | (simp only [gR_it, gR_rPut]; with_reducible assumption) | with_reducible exact ro_1 o5 | with_reducible exact ro_1 o6 | with_reducible exact ro_1 o7 | with_reducible exact ro_6 o5 | with_reducible exact ro_6 o6 | with_reducible exact ro_6 o7) (Nat.le_of_ble_eq_true rfl) ?_
    refine r_istore_n 21 dX7_holds_20 rfl (by decide) rfl ?_
    refine r_iload_n 22 dX7_holds_21 rfl rfl ?_
    refine r_if_lt 25 40 dX7_holds_22 rfl (by decide) (fun h22 => ?_) (fun h22 => ?_)
    · refine r_iload_n 41 dX7_holds_40 rfl rfl ?_
      refine r_bipush (-7) 43 dX7_holds_41 rfl (by decide) ?_
      refine r_icmp_lt 46 70 dX7_holds_43 rfl (by decide) (fun h43 => ?_) (fun h43 => ?_)
      · refine r_iload_n 71 dX7_holds_70 rfl rfl ?_
        refine r_bipush (-10) 73 dX7_holds_71 rfl (by decide) ?_
        refine r_icmp_ne 76 103 dX7_holds_73 rfl (by decide) (fun h73 => ?_) (fun h73 => ?_)
        · refine r_iinc (m1) 106 dX7_holds_103 rfl rfl (m1_of) (by decide) rfl ?_
          refine r_aload_n 107 dX7_holds_106 rfl rfl ?_
          refine r_getR 110 dX7_holds_107 rfl f7_27 rfl (by first | with_reducible assumption | (simp only [gR_it, gR_rPut]; with_reducible assumption) | with_reducible exact ro_1 o5 | with_reducible exact ro_1 o6 | with_reducible exact ro_1 o7 | with_reducible exact ro_6 o5 | with_reducible exact ro_6 o6 | with_reducible exact ro_6 o7) (by first | with_reducible assumption | (simp only [gR_it, gR_rPut]; with_reducible assumption) | with_reducible exact ro_1 o5 | with_reducible exact ro_1 o6 | with_reducible exact ro_1 o7 | with_reducible exact ro_6 o5 | with_reducible exact ro_6 o6 | with_reducible exact ro_6 o7) (by first | with_reducible assumption | (simp only [gR_it, gR_rPut]; with_reducible assumption) | with_reducible exact ro_1 o5 | with_reducible exact ro_1 o6 | with_reducible exact ro_1 o7 | with_reducible exact ro_6 o5 | with_reducible exact ro_6 o6 | with_reducible exact ro_6 o7) ?_
          refine r_iload_n 111 dX7_holds_110 rfl rfl ?_
          refine r_iload_n 112 dX7_holds_111 rfl rfl ?_
          refine r_aload_n 113 dX7_holds_112 rfl rfl ?_
          refine r_getR 116 dX7_holds_113 rfl f7_27 rfl (by first | with_reducible assumption | (simp only [gR_it, gR_rPut]; with_reducible assumption) | with_reducible exact ro_1 o5 | with_reducible exact ro_1 o6 | with_reducible exact ro_1 o7 | with_reducible exact ro_6 o5 | with_reducible exact ro_6 o6 | with_reducible exact ro_6 o7) (by first | with_reducible assumption | (simp only [gR_it, gR_rPut]; with_reducible assumption) | with_reducible exact ro_1 o5 | with_reducible exact ro_1 o6 | with_reducible exact ro_1 o7 | with_reducible exact ro_6 o5 | with_reducible exact ro_6 o6 | with_reducible exact ro_6 o7) (by first | with_reducible assumption | (simp only [gR_it, gR_rPut]; with_reducible assumption) | with_reducible exact ro_1 o5 | with_reducible exact ro_1 o6 | with_reducible exact ro_1 o7 | with_reducible exact ro_6 o5 | with_reducible exact ro_6 o6 | with_reducible exact ro_6 o7) ?_
          refine r_iload_n 117 dX7_holds_116 rfl rfl ?_
          refine r_callV (M := mX7_holds) (pc := 117) 120 dX7_holds_117 rfl k7_34 (c_X6_at (ru_it ok k9).2.2.2.2.2.2.1) rfl rfl (by first | with_reducible assumption | (simp only [gR_it, gR_rPut]; with_reducible assumption) | with_reducible exact ro_1 o5 | with_reducible exact ro_1 o6 | with_reducible exact ro_1 o7 | with_reducible exact ro_6 o5 | with_reducible exact ro_6 o6 | with_reducible exact ro_6 o7) (by decide) rfl (by first | with_reducible assumption | (simp only [gR_it, gR_rPut]; with_reducible assumption) | with_reducible exact ro_1 o5 | with_reducible exact ro_1 o6 | with_reducible exact ro_1 o7 | with_reducible exact ro_6 o5 | with_reducible exact ro_6 o6 | with_reducible exact ro_6 o7) (Nat.le_of_ble_eq_true rfl) ?_
          refine r_aload_n 121 dX7_holds_120 rfl rfl ?_
          refine r_getR 124 dX7_holds_121 rfl f7_27 rfl (by first | with_reducible assumption | (simp only [gR_it, gR_rPut]; with_reducible assumption) | with_reducible exact ro_1 o5 | with_reducible exact ro_1 o6 | with_reducible exact ro_1 o7 | with_reducible exact ro_6 o5 | with_reducible exact ro_6 o6 | with_reducible exact ro_6 o7) (by first | with_reducible assumption | (simp only [gR_it, gR_rPut]; with_reducible assumption) | with_reducible exact ro_1 o5 | with_reducible exact ro_1 o6 | with_reducible exact ro_1 o7 | with_reducible exact ro_6 o5 | with_reducible exact ro_6 o6 | with_reducible exact ro_6 o7) (by first | with_reducible assumption | (simp only [gR_it, gR_rPut]; with_reducible assumption) | with_reducible exact ro_1 o5 | with_reducible exact ro_1 o6 | with_reducible exact ro_1 o7 | with_reducible exact ro_6 o5 | with_reducible exact ro_6 o6 | with_reducible exact ro_6 o7) ?_
          refine r_iload_n 125 dX7_holds_124 rfl rfl ?_
          refine r_iconst (1) 126 dX7_holds_125 rfl (by decide) ?_
          refine r_iadd 127 dX7_holds_126 rfl ?_
          refine r_callV (M := mX7_holds) (pc := 127) 130 dX7_holds_127 rfl k7_34 (c_X6_at (ru_it ok k9).2.2.2.2.2.2.1) rfl rfl (by first | with_reducible assumption | (simp only [gR_it, gR_rPut]; with_reducible assumption) | with_reducible exact ro_1 o5 | with_reducible exact ro_1 o6 | with_reducible exact ro_1 o7 | with_reducible exact ro_6 o5 | with_reducible exact ro_6 o6 | with_reducible exact ro_6 o7) (by decide) rfl (by first | with_reducible assumption | (simp only [gR_it, gR_rPut]; with_reducible assumption) | with_reducible exact ro_1 o5 | with_reducible exact ro_1 o6 | with_reducible exact ro_1 o7 | with_reducible exact ro_6 o5 | with_reducible exact ro_6 o6 | with_reducible exact ro_6 o7) (Nat.le_of_ble_eq_true rfl) ?_
          refine r_callS (M := mX7_holds) (pc := 130) 133 dX7_holds_130 rfl k7_38 c_X7_joined rfl rfl (Nat.le_of_ble_eq_true rfl) ?_
          refine r_callV (M := mX7_holds) (pc := 133) 136 dX7_holds_133 rfl k7_30 (c_X6_put (ru_it ok k9).2.2.2.2.2.2.1) rfl rfl (by first | with_reducible assumption | (simp only [gR_it, gR_rPut]; with_reducible assumption) | with_reducible exact ro_1 o5 | with_reducible exact ro_1 o6 | with_reducible exact ro_1 o7 | with_reducible exact ro_6 o5 | with_reducible exact ro_6 o6 | with_reducible exact ro_6 o7) (by decide) rfl (by first | with_reducible assumption | (simp only [gR_it, gR_rPut]; with_reducible assumption) | with_reducible exact ro_1 o5 | with_reducible exact ro_1 o6 | with_reducible exact ro_1 o7 | with_reducible exact ro_6 o5 | with_reducible exact ro_6 o6 | with_reducible exact ro_6 o7) (Nat.le_of_ble_eq_true rfl) ?_
          refine r_iinc (1) 139 dX7_holds_136 rfl rfl (by decide) (by decide) rfl ?_
          refine r_goto 4 dX7_holds_139 (by decide) ?_
          rw [nI_succ] at hq
          have hE : ruIt h E (k9 + 1) = ruStep h (ruIt h E k9) k9 := rfl
          simp only [ruStep, *, if_true, if_false] at hE
          rw [hE] at hq
          exact Sm.less (by exact ⟨rfl, rfl, rfl, trivial⟩) hq
        · refine r_aload_n 77 dX7_holds_76 rfl rfl ?_
          refine r_getR 80 dX7_holds_77 rfl f7_27 rfl (by first | with_reducible assumption | (simp only [gR_it, gR_rPut]; with_reducible assumption) | with_reducible exact ro_1 o5 | with_reducible exact ro_1 o6 | with_reducible exact ro_1 o7 | with_reducible exact ro_6 o5 | with_reducible exact ro_6 o6 | with_reducible exact ro_6 o7) (by first | with_reducible assumption | (simp only [gR_it, gR_rPut]; with_reducible assumption) | with_reducible exact ro_1 o5 | with_reducible exact ro_1 o6 | with_reducible exact ro_1 o7 | with_reducible exact ro_6 o5 | with_reducible exact ro_6 o6 | with_reducible exact ro_6 o7) (by first | with_reducible assumption | (simp only [gR_it, gR_rPut]; with_reducible assumption) | with_reducible exact ro_1 o5 | with_reducible exact ro_1 o6 | with_reducible exact ro_1 o7 | with_reducible exact ro_6 o5 | with_reducible exact ro_6 o6 | with_reducible exact ro_6 o7) ?_
          refine r_iload_n 81 dX7_holds_80 rfl rfl ?_
          refine r_aload_n 82 dX7_holds_81 rfl rfl ?_
          refine r_getR 85 dX7_holds_82 rfl f7_27 rfl (by first | with_reducible assumption | (simp only [gR_it, gR_rPut]; with_reducible assumption) | with_reducible exact ro_1 o5 | with_reducible exact ro_1 o6 | with_reducible exact ro_1 o7 | with_reducible exact ro_6 o5 | with_reducible exact ro_6 o6 | with_reducible exact ro_6 o7) (by first | with_reducible assumption | (simp only [gR_it, gR_rPut]; with_reducible assumption) | with_reducible exact ro_1 o5 | with_reducible exact ro_1 o6 | with_reducible exact ro_1 o7 | with_reducible exact ro_6 o5 | with_reducible exact ro_6 o6 | with_reducible exact ro_6 o7) (by first | with_reducible assumption | (simp only [gR_it, gR_rPut]; with_reducible assumption) | with_reducible exact ro_1 o5 | with_reducible exact ro_1 o6 | with_reducible exact ro_1 o7 | with_reducible exact ro_6 o5 | with_reducible exact ro_6 o6 | with_reducible exact ro_6 o7) ?_
          refine r_iload_n 86 dX7_holds_85 rfl rfl ?_
          refine r_callV (M := mX7_holds) (pc := 86) 89 dX7_holds_86 rfl k7_34 (c_X6_at (ru_it ok k9).2.2.2.2.2.2.1) rfl rfl (by first | with_reducible assumption | (simp only [gR_it, gR_rPut]; with_reducible assumption) | with_reducible exact ro_1 o5 | with_reducible exact ro_1 o6 | with_reducible exact ro_1 o7 | with_reducible exact ro_6 o5 | with_reducible exact ro_6 o6 | with_reducible exact ro_6 o7) (by decide) rfl (by first | with_reducible assumption | (simp only [gR_it, gR_rPut]; with_reducible assumption) | with_reducible exact ro_1 o5 | with_reducible exact ro_1 o6 | with_reducible exact ro_1 o7 | with_reducible exact ro_6 o5 | with_reducible exact ro_6 o6 | with_reducible exact ro_6 o7) (Nat.le_of_ble_eq_true rfl) ?_
          refine r_if_ne 92 96 dX7_holds_89 rfl (by decide) (fun h89 => ?_) (fun h89 => ?_)
          · refine r_iconst (0) 97 dX7_holds_96 rfl (by decide) ?_
            refine r_callV (M := mX7_holds) (pc := 97) 100 dX7_holds_97 rfl k7_30 (c_X6_put (ru_it ok k9).2.2.2.2.2.2.1) rfl rfl (by first | with_reducible assumption | (simp only [gR_it, gR_rPut]; with_reducible assumption) | with_reducible exact ro_1 o5 | with_reducible exact ro_1 o6 | with_reducible exact ro_1 o7 | with_reducible exact ro_6 o5 | with_reducible exact ro_6 o6 | with_reducible exact ro_6 o7) (by decide) rfl (by first | with_reducible assumption | (simp only [gR_it, gR_rPut]; with_reducible assumption) | with_reducible exact ro_1 o5 | with_reducible exact ro_1 o6 | with_reducible exact ro_1 o7 | with_reducible exact ro_6 o5 | with_reducible exact ro_6 o6 | with_reducible exact ro_6 o7) (Nat.le_of_ble_eq_true rfl) ?_
            refine r_goto 136 dX7_holds_100 (by decide) ?_
            refine r_iinc (1) 139 dX7_holds_136 rfl rfl (by decide) (by decide) rfl ?_
            refine r_goto 4 dX7_holds_139 (by decide) ?_
            rw [nI_succ] at hq
            have hE : ruIt h E (k9 + 1) = ruStep h (ruIt h E k9) k9 := rfl
            simp only [ruStep, *, if_true, if_false] at hE
            rw [hE] at hq
            exact Sm.less (by exact ⟨rfl, rfl, rfl, trivial⟩) hq
          · refine r_iconst (1) 93 dX7_holds_92 rfl (by decide) ?_
            refine r_goto 97 dX7_holds_93 (by decide) ?_
            refine r_callV (M := mX7_holds) (pc := 97) 100 dX7_holds_97 rfl k7_30 (c_X6_put (ru_it ok k9).2.2.2.2.2.2.1) rfl rfl (by first | with_reducible assumption | (simp only [gR_it, gR_rPut]; with_reducible assumption) | with_reducible exact ro_1 o5 | with_reducible exact ro_1 o6 | with_reducible exact ro_1 o7 | with_reducible exact ro_6 o5 | with_reducible exact ro_6 o6 | with_reducible exact ro_6 o7) (by decide) rfl (by first | with_reducible assumption | (simp only [gR_it, gR_rPut]; with_reducible assumption) | with_reducible exact ro_1 o5 | with_reducible exact ro_1 o6 | with_reducible exact ro_1 o7 | with_reducible exact ro_6 o5 | with_reducible exact ro_6 o6 | with_reducible exact ro_6 o7) (Nat.le_of_ble_eq_true rfl) ?_
            refine r_goto 136 dX7_holds_100 (by decide) ?_
            refine r_iinc (1) 139 dX7_holds_136 rfl rfl (by decide) (by decide) rfl ?_
            refine r_goto 4 dX7_holds_139 (by decide) ?_
            rw [nI_succ] at hq
            have hE : ruIt h E (k9 + 1) = ruStep h (ruIt h E k9) k9 := rfl
            simp only [ruStep, *, if_true, if_false] at hE
            rw [hE] at hq
            exact Sm.less (by exact ⟨rfl, rfl, rfl, trivial⟩) hq
      · refine r_iinc (1) 49 dX7_holds_46 rfl rfl (by decide) (by decide) rfl ?_
        refine r_aload_n 50 dX7_holds_49 rfl rfl ?_
        refine r_getR 53 dX7_holds_50 rfl f7_27 rfl (by first | with_reducible assumption | (simp only [gR_it, gR_rPut]; with_reducible assumption) | with_reducible exact ro_1 o5 | with_reducible exact ro_1 o6 | with_reducible exact ro_1 o7 | with_reducible exact ro_6 o5 | with_reducible exact ro_6 o6 | with_reducible exact ro_6 o7) (by first | with_reducible assumption | (simp only [gR_it, gR_rPut]; with_reducible assumption) | with_reducible exact ro_1 o5 | with_reducible exact ro_1 o6 | with_reducible exact ro_1 o7 | with_reducible exact ro_6 o5 | with_reducible exact ro_6 o6 | with_reducible exact ro_6 o7) (by first | with_reducible assumption | (simp only [gR_it, gR_rPut]; with_reducible assumption) | with_reducible exact ro_1 o5 | with_reducible exact ro_1 o6 | with_reducible exact ro_1 o7 | with_reducible exact ro_6 o5 | with_reducible exact ro_6 o6 | with_reducible exact ro_6 o7) ?_
        refine r_iload_n 54 dX7_holds_53 rfl rfl ?_
        refine r_aload_n 55 dX7_holds_54 rfl rfl ?_
        refine r_getR 58 dX7_holds_55 rfl f7_24 rfl (by first | with_reducible assumption | (simp only [gR_it, gR_rPut]; with_reducible assumption) | with_reducible exact ro_1 o5 | with_reducible exact ro_1 o6 | with_reducible exact ro_1 o7 | with_reducible exact ro_6 o5 | with_reducible exact ro_6 o6 | with_reducible exact ro_6 o7) (by first | with_reducible assumption | (simp only [gR_it, gR_rPut]; with_reducible assumption) | with_reducible exact ro_1 o5 | with_reducible exact ro_1 o6 | with_reducible exact ro_1 o7 | with_reducible exact ro_6 o5 | with_reducible exact ro_6 o6 | with_reducible exact ro_6 o7) (by first | with_reducible assumption | (simp only [gR_it, gR_rPut]; with_reducible assumption) | with_reducible exact ro_1 o5 | with_reducible exact ro_1 o6 | with_reducible exact ro_1 o7 | with_reducible exact ro_6 o5 | with_reducible exact ro_6 o6 | with_reducible exact ro_6 o7) ?_
        refine r_iconst (-1) 59 dX7_holds_58 rfl (by decide) ?_
        refine r_iload_n 60 dX7_holds_59 rfl rfl ?_
        refine r_isub 61 dX7_holds_60 rfl ?_
        refine r_callV (M := mX7_holds) (pc := 61) 64 dX7_holds_61 rfl k7_34 (c_X6_at (ru_it ok k9).2.2.2.2.2.1) rfl rfl (by first | with_reducible assumption | (simp only [gR_it, gR_rPut]; with_reducible assumption) | with_reducible exact ro_1 o5 | with_reducible exact ro_1 o6 | with_reducible exact ro_1 o7 | with_reducible exact ro_6 o5 | with_reducible exact ro_6 o6 | with_reducible exact ro_6 o7) (by decide) rfl (by first | with_reducible assumption | (simp only [gR_it, gR_rPut]; with_reducible assumption) | with_reducible exact ro_1 o5 | with_reducible exact ro_1 o6 | with_reducible exact ro_1 o7 | with_reducible exact ro_6 o5 | with_reducible exact ro_6 o6 | with_reducible exact ro_6 o7) (Nat.le_of_ble_eq_true rfl) ?_
        refine r_callV (M := mX7_holds) (pc := 64) 67 dX7_holds_64 rfl k7_30 (c_X6_put (ru_it ok k9).2.2.2.2.2.2.1) rfl rfl (by first | with_reducible assumption | (simp only [gR_it, gR_rPut]; with_reducible assumption) | with_reducible exact ro_1 o5 | with_reducible exact ro_1 o6 | with_reducible exact ro_1 o7 | with_reducible exact ro_6 o5 | with_reducible exact ro_6 o6 | with_reducible exact ro_6 o7) (by decide) rfl (by first | with_reducible assumption | (simp only [gR_it, gR_rPut]; with_reducible assumption) | with_reducible exact ro_1 o5 | with_reducible exact ro_1 o6 | with_reducible exact ro_1 o7 | with_reducible exact ro_6 o5 | with_reducible exact ro_6 o6 | with_reducible exact ro_6 o7) (Nat.le_of_ble_eq_true rfl) ?_
        refine r_goto 136 dX7_holds_67 (by decide) ?_
        refine r_iinc (1) 139 dX7_holds_136 rfl rfl (by decide) (by decide) rfl ?_
        refine r_goto 4 dX7_holds_139 (by decide) ?_
        rw [nI_succ] at hq
        have hE : ruIt h E (k9 + 1) = ruStep h (ruIt h E k9) k9 := rfl
        simp only [ruStep, *, if_true, if_false] at hE
        rw [hE] at hq
        exact Sm.less (by exact ⟨rfl, rfl, rfl, trivial⟩) hq
    · refine r_iinc (1) 28 dX7_holds_25 rfl rfl (by decide) (by decide) rfl ?_
      refine r_aload_n 29 dX7_holds_28 rfl rfl ?_
      refine r_getR 32 dX7_holds_29 rfl f7_27 rfl (by first | with_reducible assumption | (simp only [gR_it, gR_rPut]; with_reducible assumption) | with_reducible exact ro_1 o5 | with_reducible exact ro_1 o6 | with_reducible exact ro_1 o7 | with_reducible exact ro_6 o5 | with_reducible exact ro_6 o6 | with_reducible exact ro_6 o7) (by first | with_reducible assumption | (simp only [gR_it, gR_rPut]; with_reducible assumption) | with_reducible exact ro_1 o5 | with_reducible exact ro_1 o6 | with_reducible exact ro_1 o7 | with_reducible exact ro_6 o5 | with_reducible exact ro_6 o6 | with_reducible exact ro_6 o7) (by first | with_reducible assumption | (simp only [gR_it, gR_rPut]; with_reducible assumption) | with_reducible exact ro_1 o5 | with_reducible exact ro_1 o6 | with_reducible exact ro_1 o7 | with_reducible exact ro_6 o5 | with_reducible exact ro_6 o6 | with_reducible exact ro_6 o7) ?_
      refine r_iload_n 33 dX7_holds_32 rfl rfl ?_
      refine r_iload_n 34 dX7_holds_33 rfl rfl ?_
      refine r_callV (M := mX7_holds) (pc := 34) 37 dX7_holds_34 rfl k7_30 (c_X6_put (ru_it ok k9).2.2.2.2.2.2.1) rfl rfl (by first | with_reducible assumption | (simp only [gR_it, gR_rPut]; with_reducible assumption) | with_reducible exact ro_1 o5 | with_reducible exact ro_1 o6 | with_reducible exact ro_1 o7 | with_reducible exact ro_6 o5 | with_reducible exact ro_6 o6 | with_reducible exact ro_6 o7) (by decide) rfl (by first | with_reducible assumption | (simp only [gR_it, gR_rPut]; with_reducible assumption) | with_reducible exact ro_1 o5 | with_reducible exact ro_1 o6 | with_reducible exact ro_1 o7 | with_reducible exact ro_6 o5 | with_reducible exact ro_6 o6 | with_reducible exact ro_6 o7) (Nat.le_of_ble_eq_true rfl) ?_
      refine r_goto 136 dX7_holds_37 (by decide) ?_
      refine r_iinc (1) 139 dX7_holds_136 rfl rfl (by decide) (by decide) rfl ?_
      refine r_goto 4 dX7_holds_139 (by decide) ?_
      rw [nI_succ] at hq
      have hE : ruIt h E (k9 + 1) = ruStep h (ruIt h E k9) k9 := rfl
      simp only [ruStep, *, if_true, if_false] at hE
      rw [hE] at hq
      exact Sm.less (by exact ⟨rfl, rfl, rfl, trivial⟩) hq
