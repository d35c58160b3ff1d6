/-! The model's layer: its rows, what it changes; rules with plain numbers -/
theorem lt95 : 95 < 137 := by decide
section R50
variable {M : MI} {d bc bs n pc : Nat} {out : OUT} {ls : List (Option Value)} {st : List Value} {E : HP}
theorem r_getIV {idx ci k g h l9 : Nat} {ty : FieldType} {fin : Bool} (v : Int32) (pc2 : Nat) (hd : decode M.2.1 pc = .ok (.getfield idx, 3)) (hp : pc + 3 = pc2) (fl : FP M.1 idx ci k g ty fin) (ht : isRf ty = false) (hs : sh h = (ci, l9)) (hn : h < n) (hv : gI E g h = v)
    (kk : Sm M d bc bs out pc2 ls (.int v :: st) E n) : Sm M d bc bs out pc ls (.ref h :: st) E n := by
  subst hv
  exact r_getI pc2 hd hp fl ht hs hn kk
theorem r_ialdN {a l9 : Nat} {i : Int32} (k : Nat) (v : Int32) (pc2 : Nat) (hd : decode M.2.1 pc = .ok (.iaload, 1)) (hp : pc + 1 = pc2) (hs : sh a = (100, l9)) (hn : a < n) (hi : i = nI k) (hk : k < l9) (hl : l9 < 2 ^ 31) (hv : gA E a k = v) (kk : Sm M d bc bs out pc2 ls (.int v :: st) E n) : Sm M d bc bs out pc ls (.int i :: .ref a :: st) E n := by
  subst hi; subst hv
  refine r_iald pc2 hd hp hs hn (vp_in_nI hk hl) ?_
  rw [nI_clamp (by omega)]
  exact kk
theorem r_iastN {a l9 : Nat} {i x : Int32} (k : Nat) (pc2 : Nat) (hd : decode M.2.1 pc = .ok (.iastore, 1)) (hp : pc + 1 = pc2) (hs : sh a = (100, l9)) (hn : a < n) (hi : i = nI k) (hk : k < l9) (hl : l9 < 2 ^ 31) (kk : Sm M d bc bs out pc2 ls st (sA E a k x) n) : Sm M d bc bs out pc ls (.int x :: .int i :: .ref a :: st) E n := by
  subst hi
  refine r_iast pc2 hd hp hs hn (vp_in_nI hk hl) ?_
  rw [nI_clamp (by omega)]
  exact kk
/-- the top of the stack by another word -/
theorem r_top {x y : Int32} (h : x = y) (kk : Sm M d bc bs out pc ls (.int y :: st) E n) : Sm M d bc bs out pc ls (.int x :: st) E n := by
  subst h; exact kk
end R50
def moL : List (Nat × Nat) := [(1536, 96), (1537, 97), (1539, 98), (1540, 99), (1541, 100), (1542, 101), (1543, 102), (1544, 103), (1545, 104), (1546, 105), (1547, 106), (1548, 107), (1549, 108), (1560, 109), (1561, 110), (1568, 111), (1569, 112), (1570, 113), (1571, 114), (1572, 115), (1573, 116), (1574, 117), (1575, 118), (1576, 119), (1577, 120), (1578, 121), (1579, 122), (1580, 123), (1590, 124), (1591, 125), (1595, 126), (1596, 127), (1597, 128), (1598, 129), (1603, 130), (1604, 131), (1605, 132), (1606, 133), (1607, 134), (1608, 135)]
/-- the model's rows -/
def MoOK (E : HP) : Prop := ∀ q ∈ moL, gR E q.1 95 = some q.2
theorem mo_0 {E : HP} (h : MoOK E) : gR E 1536 95 = some 96 := h (1536, 96) (by decide)
theorem mo_1 {E : HP} (h : MoOK E) : gR E 1537 95 = some 97 := h (1537, 97) (by decide)
theorem mo_3 {E : HP} (h : MoOK E) : gR E 1539 95 = some 98 := h (1539, 98) (by decide)
theorem mo_4 {E : HP} (h : MoOK E) : gR E 1540 95 = some 99 := h (1540, 99) (by decide)
theorem mo_5 {E : HP} (h : MoOK E) : gR E 1541 95 = some 100 := h (1541, 100) (by decide)
theorem mo_6 {E : HP} (h : MoOK E) : gR E 1542 95 = some 101 := h (1542, 101) (by decide)
theorem mo_7 {E : HP} (h : MoOK E) : gR E 1543 95 = some 102 := h (1543, 102) (by decide)
theorem mo_8 {E : HP} (h : MoOK E) : gR E 1544 95 = some 103 := h (1544, 103) (by decide)
theorem mo_9 {E : HP} (h : MoOK E) : gR E 1545 95 = some 104 := h (1545, 104) (by decide)
theorem mo_10 {E : HP} (h : MoOK E) : gR E 1546 95 = some 105 := h (1546, 105) (by decide)
theorem mo_11 {E : HP} (h : MoOK E) : gR E 1547 95 = some 106 := h (1547, 106) (by decide)
theorem mo_12 {E : HP} (h : MoOK E) : gR E 1548 95 = some 107 := h (1548, 107) (by decide)
theorem mo_13 {E : HP} (h : MoOK E) : gR E 1549 95 = some 108 := h (1549, 108) (by decide)
theorem mo_24 {E : HP} (h : MoOK E) : gR E 1560 95 = some 109 := h (1560, 109) (by decide)
theorem mo_25 {E : HP} (h : MoOK E) : gR E 1561 95 = some 110 := h (1561, 110) (by decide)
theorem mo_32 {E : HP} (h : MoOK E) : gR E 1568 95 = some 111 := h (1568, 111) (by decide)
theorem mo_33 {E : HP} (h : MoOK E) : gR E 1569 95 = some 112 := h (1569, 112) (by decide)
theorem mo_34 {E : HP} (h : MoOK E) : gR E 1570 95 = some 113 := h (1570, 113) (by decide)
theorem mo_35 {E : HP} (h : MoOK E) : gR E 1571 95 = some 114 := h (1571, 114) (by decide)
theorem mo_36 {E : HP} (h : MoOK E) : gR E 1572 95 = some 115 := h (1572, 115) (by decide)
theorem mo_37 {E : HP} (h : MoOK E) : gR E 1573 95 = some 116 := h (1573, 116) (by decide)
theorem mo_38 {E : HP} (h : MoOK E) : gR E 1574 95 = some 117 := h (1574, 117) (by decide)
theorem mo_39 {E : HP} (h : MoOK E) : gR E 1575 95 = some 118 := h (1575, 118) (by decide)
theorem mo_40 {E : HP} (h : MoOK E) : gR E 1576 95 = some 119 := h (1576, 119) (by decide)
theorem mo_41 {E : HP} (h : MoOK E) : gR E 1577 95 = some 120 := h (1577, 120) (by decide)
theorem mo_42 {E : HP} (h : MoOK E) : gR E 1578 95 = some 121 := h (1578, 121) (by decide)
theorem mo_43 {E : HP} (h : MoOK E) : gR E 1579 95 = some 122 := h (1579, 122) (by decide)
theorem mo_44 {E : HP} (h : MoOK E) : gR E 1580 95 = some 123 := h (1580, 123) (by decide)
theorem mo_54 {E : HP} (h : MoOK E) : gR E 1590 95 = some 124 := h (1590, 124) (by decide)
theorem mo_55 {E : HP} (h : MoOK E) : gR E 1591 95 = some 125 := h (1591, 125) (by decide)
theorem mo_59 {E : HP} (h : MoOK E) : gR E 1595 95 = some 126 := h (1595, 126) (by decide)
theorem mo_60 {E : HP} (h : MoOK E) : gR E 1596 95 = some 127 := h (1596, 127) (by decide)
theorem mo_61 {E : HP} (h : MoOK E) : gR E 1597 95 = some 128 := h (1597, 128) (by decide)
theorem mo_62 {E : HP} (h : MoOK E) : gR E 1598 95 = some 129 := h (1598, 129) (by decide)
theorem mo_67 {E : HP} (h : MoOK E) : gR E 1603 95 = some 130 := h (1603, 130) (by decide)
theorem mo_68 {E : HP} (h : MoOK E) : gR E 1604 95 = some 131 := h (1604, 131) (by decide)
theorem mo_69 {E : HP} (h : MoOK E) : gR E 1605 95 = some 132 := h (1605, 132) (by decide)
theorem mo_70 {E : HP} (h : MoOK E) : gR E 1606 95 = some 133 := h (1606, 133) (by decide)
theorem mo_71 {E : HP} (h : MoOK E) : gR E 1607 95 = some 134 := h (1607, 134) (by decide)
theorem mo_72 {E : HP} (h : MoOK E) : gR E 1608 95 = some 135 := h (1608, 135) (by decide)
/-- numbers of the model and arrays that may have changed; all else is as it was -/
def MF (gs as : List Nat) (E E2 : HP) : Prop := (∀ g k, ¬ (k = 95 ∧ g ∈ gs) → gI E2 g k = gI E g k) ∧ E2.2.1 = E.2.1 ∧ (∀ a, a ∉ as → gA E2 a = gA E a) ∧ E2.2.2.2 = E.2.2.2
theorem mf_rfl {gs as : List Nat} {E : HP} : MF gs as E E := ⟨fun _ _ _ => rfl, rfl, fun _ _ => rfl, rfl⟩
theorem mf_tr {gs as : List Nat} {E E2 E3 : HP} (h : MF gs as E E2) (h2 : MF gs as E2 E3) : MF gs as E E3 := ⟨fun g k q => (h2.1 g k q).trans (h.1 g k q), h2.2.1.trans h.2.1, fun a q => (h2.2.2.1 a q).trans (h.2.2.1 a q), h2.2.2.2.trans h.2.2.2⟩
theorem mf_mono {gs as gs2 as2 : List Nat} {E E2 : HP} (h : MF gs as E E2) (h1 : ∀ g ∈ gs, g ∈ gs2) (h2 : ∀ a ∈ as, a ∈ as2) : MF gs2 as2 E E2 := ⟨fun g k q => h.1 g k (fun z => q ⟨z.1, h1 g z.2⟩), h.2.1, fun a q => h.2.2.1 a (fun z => q (h2 a z)), h.2.2.2⟩
theorem mf_sI {gs as : List Nat} {E E2 : HP} {g : Nat} {v : Int32} (hg : g ∈ gs) (h : MF gs as E E2) : MF gs as E (sI E2 g 95 v) := by
  refine mf_tr h ⟨fun g2 k q => ?_, rfl, fun _ _ => rfl, rfl⟩
  rw [gI_sI, if_neg fun z => q ⟨z.2, by rw [z.1]; exact hg⟩]
theorem mf_sA {gs as : List Nat} {E E2 : HP} {a i : Nat} {v : Int32} (ha : a ∈ as) (h : MF gs as E E2) : MF gs as E (sA E2 a i v) := by
  refine mf_tr h ⟨fun _ _ _ => rfl, rfl, fun a2 q => ?_, rfl⟩
  funext j
  rw [gA_sA, if_neg fun z => q (by rw [z.1]; exact ha)]
theorem mf_gI {gs as : List Nat} {E E2 : HP} {g : Nat} (h : MF gs as E E2) (hg : g ∉ gs) : gI E2 g 95 = gI E g 95 := h.1 g 95 fun z => hg z.2
theorem mf_gI2 {gs as : List Nat} {E E2 : HP} {g k : Nat} (h : MF gs as E E2) (hk : k ≠ 95) : gI E2 g k = gI E g k := h.1 g k fun z => hk z.1
theorem mf_gA {gs as : List Nat} {E E2 : HP} {a : Nat} (h : MF gs as E E2) (ha : a ∉ as) : gA E2 a = gA E a := h.2.2.1 a ha
theorem mf_gR {gs as : List Nat} {E E2 : HP} (h : MF gs as E E2) (g k : Nat) : gR E2 g k = gR E g k := by unfold gR; rw [h.2.1]
theorem mf_gQ {gs as : List Nat} {E E2 : HP} (h : MF gs as E E2) (k : Nat) : gQ E2 k = gQ E k := by unfold gQ; rw [h.2.2.2]
theorem mf_gL {gs as : List Nat} {E E2 : HP} (h : MF gs as E E2) (k : Nat) : gL E2 k = gL E k := by unfold gL; rw [h.2.2.2]
theorem mf_mo {gs as : List Nat} {E E2 : HP} (h : MF gs as E E2) (o : MoOK E) : MoOK E2 := fun q hq => (mf_gR h _ _).trans (o q hq)
/-- what a night goes by, in the model -/
def oV (V : NV) (p : Nat) : Nat := (vA V 0 p).toNatClampNeg
/-- the model's sign for a step of the rule -/
def mS (s : Int32) : Int32 := if s < -7 then (if s = -8 then -27 else if s = -9 then -26 else if s = -10 then -28 else if s = -11 then -24 else if s = -12 then -25 else if s = -13 then -20 else if s = -14 then -21 else if s = -15 then -22 else -23) else s
def reckV (s a b : Int32) : Int32 := if s = -20 then a + b else if s = -21 then a - b else if s = -22 then a * b else if s = -23 then (if b = 0 then 0 else a / b) else if s = -24 then (if a < b then 1 else 0) else if s = -25 then (if a = b then 1 else 0) else if s = -26 then (if a = 0 ∨ b = 0 then 0 else 1) else (if a = 0 ∧ b = 0 then 0 else 1)
theorem mS_op {s : Int32} (h : s < -7) (h10 : ¬ s = -10) : mS s ≤ -20 ∧ ¬ mS s = -28 ∧ ∀ a b, reckV (mS s) a b = joinedV s a b := by
  unfold mS joinedV
  rw [if_pos h]
  by_cases h8 : s = -8
  · subst h8; exact ⟨by decide, by decide, fun a b => by simp [reckV]⟩
  by_cases h9 : s = -9
  · subst h9; exact ⟨by decide, by decide, fun a b => by simp [reckV]⟩
  by_cases h11 : s = -11
  · subst h11; exact ⟨by decide, by decide, fun a b => by simp [reckV]⟩
  by_cases h12 : s = -12
  · subst h12; exact ⟨by decide, by decide, fun a b => by simp [reckV]⟩
  by_cases h13 : s = -13
  · subst h13; exact ⟨by decide, by decide, fun a b => by simp [reckV]⟩
  by_cases h14 : s = -14
  · subst h14; exact ⟨by decide, by decide, fun a b => by simp [reckV]⟩
  by_cases h15 : s = -15
  · subst h15; exact ⟨by decide, by decide, fun a b => by simp [reckV]⟩
  simp only [h8, h9, h10, h11, h12, h13, h14, h15, if_false]
  exact ⟨by decide, by decide, fun a b => by simp [reckV]⟩
theorem mS_10 : mS (-10) = -28 := by decide
theorem mS_val {s : Int32} (h : ¬ s < -7) : mS s = s := by unfold mS; rw [if_neg h]
theorem gt20 {s : Int32} (h : ¬ s < -7) : (-20 : Int32) < s := by
  have h1 := Int32.not_lt.mp h
  exact Int32.lt_of_lt_of_le (show (-20 : Int32) < -7 by decide) h1
set_option maxRecDepth 20000 in
theorem c_X12_reckon {d n : Nat} {E : HP} {s a b : Int32} : Cl yX12_reckon mX12_reckon d 0 0 [.int s, .int a, .int b] E n (.inl (some (.int (reckV s a b))), E, n) := by
  refine Cl.of (by decide) rfl (fun q => by cases q) rfl rfl (Nat.le_of_ble_eq_true rfl) ?_
  show Sm _ _ _ _ _ 0 [some (.int s), some (.int a), some (.int b)] [] _ _
  by_cases e0 : s = (-20)
  · subst e0
    refine r_iload_n 1 dX12_reckon_0 rfl rfl ?_
    refine r_tableIn 44 dX12_reckon_1 (by decide) (by decide) rfl (by decide) ?_
    refine r_iload_n 45 dX12_reckon_44 rfl rfl ?_
    refine r_iload_n 46 dX12_reckon_45 rfl rfl ?_
    refine r_iadd 47 dX12_reckon_46 rfl ?_
    exact r_iret dX12_reckon_47 rfl rfl (by simp [reckV, *])
  by_cases e1 : s = (-21)
  · subst e1
    refine r_iload_n 1 dX12_reckon_0 rfl rfl ?_
    refine r_tableIn 48 dX12_reckon_1 (by decide) (by decide) rfl (by decide) ?_
    refine r_iload_n 49 dX12_reckon_48 rfl rfl ?_
    refine r_iload_n 50 dX12_reckon_49 rfl rfl ?_
    refine r_isub 51 dX12_reckon_50 rfl ?_
    exact r_iret dX12_reckon_51 rfl rfl (by simp [reckV, *])
  by_cases e2 : s = (-22)
  · subst e2
    refine r_iload_n 1 dX12_reckon_0 rfl rfl ?_
    refine r_tableIn 52 dX12_reckon_1 (by decide) (by decide) rfl (by decide) ?_
    refine r_iload_n 53 dX12_reckon_52 rfl rfl ?_
    refine r_iload_n 54 dX12_reckon_53 rfl rfl ?_
    refine r_imul 55 dX12_reckon_54 rfl ?_
    exact r_iret dX12_reckon_55 rfl rfl (by simp [reckV, *])
  by_cases e3 : s = (-23)
  · subst e3
    refine r_iload_n 1 dX12_reckon_0 rfl rfl ?_
    refine r_tableIn 56 dX12_reckon_1 (by decide) (by decide) rfl (by decide) ?_
    refine r_iload_n 57 dX12_reckon_56 rfl rfl ?_
    refine r_if_ne 60 64 dX12_reckon_57 rfl (by decide) (fun h57 => ?_) (fun h57 => ?_)
    · refine r_iload_n 65 dX12_reckon_64 rfl rfl ?_
      refine r_iload_n 66 dX12_reckon_65 rfl rfl ?_
      refine r_idiv 67 dX12_reckon_66 rfl (by first | with_reducible assumption | decide | omega) ?_
      exact r_iret dX12_reckon_67 rfl rfl (by simp [reckV, *])
    · refine r_iconst (0) 61 dX12_reckon_60 rfl (by decide) ?_
      refine r_goto 67 dX12_reckon_61 (by decide) ?_
      exact r_iret dX12_reckon_67 rfl rfl (by simp [reckV, *])
  by_cases e4 : s = (-24)
  · subst e4
    refine r_iload_n 1 dX12_reckon_0 rfl rfl ?_
    refine r_tableIn 68 dX12_reckon_1 (by decide) (by decide) rfl (by decide) ?_
    refine r_iload_n 69 dX12_reckon_68 rfl rfl ?_
    refine r_iload_n 70 dX12_reckon_69 rfl rfl ?_
    refine r_icmp_ge 73 77 dX12_reckon_70 rfl (by decide) (fun h70 => ?_) (fun h70 => ?_)
    · refine r_iconst (0) 78 dX12_reckon_77 rfl (by decide) ?_
      exact r_iret dX12_reckon_78 rfl rfl (by simp [reckV, *])
    · refine r_iconst (1) 74 dX12_reckon_73 rfl (by decide) ?_
      refine r_goto 78 dX12_reckon_74 (by decide) ?_
      exact r_iret dX12_reckon_78 rfl rfl (by simp [reckV, *])
  by_cases e5 : s = (-25)
  · subst e5
    refine r_iload_n 1 dX12_reckon_0 rfl rfl ?_
    refine r_tableIn 79 dX12_reckon_1 (by decide) (by decide) rfl (by decide) ?_
    refine r_iload_n 80 dX12_reckon_79 rfl rfl ?_
    refine r_iload_n 81 dX12_reckon_80 rfl rfl ?_
    refine r_icmp_ne 84 88 dX12_reckon_81 rfl (by decide) (fun h81 => ?_) (fun h81 => ?_)
    · refine r_iconst (0) 89 dX12_reckon_88 rfl (by decide) ?_
      exact r_iret dX12_reckon_89 rfl rfl (by simp [reckV, *])
    · refine r_iconst (1) 85 dX12_reckon_84 rfl (by decide) ?_
      refine r_goto 89 dX12_reckon_85 (by decide) ?_
      exact r_iret dX12_reckon_89 rfl rfl (by simp [reckV, *])
  by_cases e6 : s = (-26)
  · subst e6
    refine r_iload_n 1 dX12_reckon_0 rfl rfl ?_
    refine r_tableIn 90 dX12_reckon_1 (by decide) (by decide) rfl (by decide) ?_
    refine r_iload_n 91 dX12_reckon_90 rfl rfl ?_
    refine r_if_eq 94 102 dX12_reckon_91 rfl (by decide) (fun h91 => ?_) (fun h91 => ?_)
    · refine r_iconst (0) 103 dX12_reckon_102 rfl (by decide) ?_
      exact r_iret dX12_reckon_103 rfl rfl (by simp [reckV, *])
    · refine r_iload_n 95 dX12_reckon_94 rfl rfl ?_
      refine r_if_eq 98 102 dX12_reckon_95 rfl (by decide) (fun h95 => ?_) (fun h95 => ?_)
      · refine r_iconst (0) 103 dX12_reckon_102 rfl (by decide) ?_
        exact r_iret dX12_reckon_103 rfl rfl (by simp [reckV, *])
      · refine r_iconst (1) 99 dX12_reckon_98 rfl (by decide) ?_
        refine r_goto 103 dX12_reckon_99 (by decide) ?_
        exact r_iret dX12_reckon_103 rfl rfl (by simp [reckV, *])
  have ho : s.toInt < (-26) ∨ (-20) < s.toInt := by
    have q0 := lv_neT e0 (a := -20) (by decide)
    have q1 := lv_neT e1 (a := -21) (by decide)
    have q2 := lv_neT e2 (a := -22) (by decide)
    have q3 := lv_neT e3 (a := -23) (by decide)
    have q4 := lv_neT e4 (a := -24) (by decide)
    have q5 := lv_neT e5 (a := -25) (by decide)
    have q6 := lv_neT e6 (a := -26) (by decide)
    omega
  refine r_iload_n 1 dX12_reckon_0 rfl rfl ?_
  refine r_tableOut 104 dX12_reckon_1 (ho) (by decide) ?_
  refine r_iload_n 105 dX12_reckon_104 rfl rfl ?_
  refine r_if_ne 108 112 dX12_reckon_105 rfl (by decide) (fun h105 => ?_) (fun h105 => ?_)
  · refine r_iconst (1) 113 dX12_reckon_112 rfl (by decide) ?_
    refine r_goto 117 dX12_reckon_113 (by decide) ?_
    exact r_iret dX12_reckon_117 rfl rfl (by simp [reckV, *])
  · refine r_iload_n 109 dX12_reckon_108 rfl rfl ?_
    refine r_if_eq 112 116 dX12_reckon_109 rfl (by decide) (fun h109 => ?_) (fun h109 => ?_)
    · refine r_iconst (0) 117 dX12_reckon_116 rfl (by decide) ?_
      exact r_iret dX12_reckon_117 rfl rfl (by simp [reckV, *])
    · refine r_iconst (1) 113 dX12_reckon_112 rfl (by decide) ?_
      refine r_goto 117 dX12_reckon_113 (by decide) ?_
      exact r_iret dX12_reckon_117 rfl rfl (by simp [reckV, *])
