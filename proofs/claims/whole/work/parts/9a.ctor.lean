/-! The constructors -/
def hRow (h n : Nat) (E : HP) : HP := sR (zp E n) 768 h (some n)
def hSl (h : Nat) (E : HP) : HP := sI (sI (sI (sI (sI (sI (sI E 1024 h 0) 1025 h 0) 1026 h 0) 1027 h 0) 1028 h 0) 1029 h 0) 1030 h 0
def hLi (h w : Nat) (E : HP) : HP := sR (sI (sI (sI (sI (sI (sI (sI (sI E 129 h (-1)) 130 h (0)) 131 h (0)) 132 h (0)) 133 h (0)) 134 h (0)) 135 h (0)) 136 h (0)) 128 h (some w)
theorem gR_hRow {h n g k : Nat} {E : HP} : gR (hRow h n E) g k = if g = 768 ∧ k = h then some n else if k = n then none else gR E g k := rfl
theorem gQ_hRow {h n a j : Nat} {E : HP} : gQ (hRow h n E) a j = if a = n then none else gQ E a j := rfl
theorem gR_hSl {h g k : Nat} {E : HP} : gR (hSl h E) g k = gR E g k := rfl
theorem gQ_hSl {h a : Nat} {E : HP} : gQ (hSl h E) a = gQ E a := rfl
theorem gR_hLi {h w g k : Nat} {E : HP} : gR (hLi h w E) g k = if g = 128 ∧ k = h then some w else gR E g k := rfl
theorem gQ_hLi {h w a : Nat} {E : HP} : gQ (hLi h w E) a = gQ E a := rfl
set_option maxRecDepth 20000 in
theorem c_newSl {d n h : Nat} {E : HP} (hs : sh h = (8, 0)) (hn : h < n) : Cl yX8_init mX8_init d 0 0 [.ref h] E n (.inl none, hSl h E, n) := by
  refine Cl.of (by decide) rfl (fun _ => rfl) rfl rfl (Nat.le_of_ble_eq_true rfl) ?_
  show Sm _ _ _ _ _ 0 [some (.ref h)] [] _ _
  refine r_aload_n 1 dX8_init_0 rfl rfl ?_
  refine r_objInit 4 dX8_init_1 rfl k8_3 w_oi w_oc (Nat.le_of_ble_eq_true rfl) ?_
  refine r_aload_n 5 dX8_init_4 rfl rfl ?_
  refine r_iconst (0) 6 dX8_init_5 rfl (by decide) ?_
  refine r_putI 9 dX8_init_6 rfl f8_9 hs hn ?_
  refine r_aload_n 10 dX8_init_9 rfl rfl ?_
  refine r_iconst (0) 11 dX8_init_10 rfl (by decide) ?_
  refine r_putI 14 dX8_init_11 rfl f8_15 hs hn ?_
  refine r_aload_n 15 dX8_init_14 rfl rfl ?_
  refine r_iconst (0) 16 dX8_init_15 rfl (by decide) ?_
  refine r_putI 19 dX8_init_16 rfl f8_18 hs hn ?_
  refine r_aload_n 20 dX8_init_19 rfl rfl ?_
  refine r_iconst (0) 21 dX8_init_20 rfl (by decide) ?_
  refine r_putI 24 dX8_init_21 rfl f8_21 hs hn ?_
  refine r_aload_n 25 dX8_init_24 rfl rfl ?_
  refine r_iconst (0) 26 dX8_init_25 rfl (by decide) ?_
  refine r_putI 29 dX8_init_26 rfl f8_24 hs hn ?_
  refine r_aload_n 30 dX8_init_29 rfl rfl ?_
  refine r_iconst (0) 31 dX8_init_30 rfl (by decide) ?_
  refine r_putI 34 dX8_init_31 rfl f8_27 hs hn ?_
  refine r_aload_n 35 dX8_init_34 rfl rfl ?_
  refine r_iconst (0) 36 dX8_init_35 rfl (by decide) ?_
  refine r_putI 39 dX8_init_36 rfl f8_30 hs hn ?_
  exact r_vret dX8_init_39 rfl rfl rfl
set_option maxHeartbeats 16000000 in
set_option maxRecDepth 20000 in
theorem c_newLi {d n h w : Nat} {E : HP} (hs : sh h = (1, 0)) (hn : h < n) : Cl yX1_init mX1_init d 0 0 [.ref h, .ref w] E n (.inl none, hLi h w E, n) := by
  refine Cl.of (by decide) rfl (fun _ => rfl) rfl rfl (Nat.le_of_ble_eq_true rfl) ?_
  show Sm _ _ _ _ _ 0 [some (.ref h), some (.ref w)] [] _ _
  refine r_aload_n 1 dX1_init_0 rfl rfl ?_
  refine r_objInit 4 dX1_init_1 rfl k1_3 w_oi w_oc (Nat.le_of_ble_eq_true rfl) ?_
  refine r_aload_n 5 dX1_init_4 rfl rfl ?_
  refine r_iconst (-1) 6 dX1_init_5 rfl (by decide) ?_
  refine r_putI 9 dX1_init_6 rfl f1_9 hs hn ?_
  refine r_aload_n 10 dX1_init_9 rfl rfl ?_
  refine r_iconst (0) 11 dX1_init_10 rfl (by decide) ?_
  refine r_putI 14 dX1_init_11 rfl f1_15 hs hn ?_
  refine r_aload_n 15 dX1_init_14 rfl rfl ?_
  refine r_iconst (0) 16 dX1_init_15 rfl (by decide) ?_
  refine r_putI 19 dX1_init_16 rfl f1_18 hs hn ?_
  refine r_aload_n 20 dX1_init_19 rfl rfl ?_
  refine r_iconst (0) 21 dX1_init_20 rfl (by decide) ?_
  refine r_putI 24 dX1_init_21 rfl f1_21 hs hn ?_
  refine r_aload_n 25 dX1_init_24 rfl rfl ?_
  refine r_iconst (0) 26 dX1_init_25 rfl (by decide) ?_
  refine r_putI 29 dX1_init_26 rfl f1_24 hs hn ?_
  refine r_aload_n 30 dX1_init_29 rfl rfl ?_
  refine r_iconst (0) 31 dX1_init_30 rfl (by decide) ?_
  refine r_putI 34 dX1_init_31 rfl f1_27 hs hn ?_
  refine r_aload_n 35 dX1_init_34 rfl rfl ?_
  refine r_iconst (0) 36 dX1_init_35 rfl (by decide) ?_
  refine r_putI 39 dX1_init_36 rfl f1_30 hs hn ?_
  refine r_aload_n 40 dX1_init_39 rfl rfl ?_
  refine r_iconst (0) 41 dX1_init_40 rfl (by decide) ?_
  refine r_putI 44 dX1_init_41 rfl f1_33 hs hn ?_
  refine r_aload_n 45 dX1_init_44 rfl rfl ?_
  refine r_aload_n 46 dX1_init_45 rfl rfl ?_
  refine r_putR 49 dX1_init_46 rfl f1_36 rfl (Or.inl rfl) hs hn ?_
  exact r_vret dX1_init_49 rfl rfl rfl
set_option maxRecDepth 20000 in
theorem c_newRow {d n h l : Nat} {x : Int32} {E : HP} (hs : sh h = (6, 0)) (hn : h < n) (ha : sh n = (100, l)) (hx0 : 0 ≤ x) (hx : x.toNatClampNeg = l) (hl : l ≤ 100000) : Cl yX6_init mX6_init d 1 l [.ref h, .int x] E n (.inl none, hRow h n E, n + 1) := by
  refine Cl.of (by decide) rfl (fun _ => rfl) rfl rfl (Nat.le_of_ble_eq_true rfl) ?_
  show Sm _ _ _ _ _ 0 [some (.ref h), some (.int x)] [] _ _
  refine r_aload_n 1 dX6_init_0 rfl rfl ?_
  refine r_objInit 4 dX6_init_1 rfl k6_1 w_oi w_oc (Nat.le_of_ble_eq_true rfl) ?_
  refine r_aload_n 5 dX6_init_4 rfl rfl ?_
  refine r_iload_n 6 dX6_init_5 rfl rfl ?_
  refine r_if_ge 9 13 dX6_init_6 rfl (by decide) (fun _ => ?_) (fun z => absurd hx0 z)
  refine r_iload_n 14 dX6_init_13 rfl rfl ?_
  have hz : Sm mX6_init d (0 + 1) (0 + l) (.inl none, hRow h n E, n + 1) 14 [some (.ref h), some (.int x)] [.int x, .ref h] E n := by
    refine r_newI (bc := 0) (bs := 0) 16 dX6_init_14 rfl ha (Int32.not_lt.mpr hx0) hx hl w_ac_int ?_
    refine r_putR 19 dX6_init_16 rfl f6_7 rfl (Or.inr ⟨rfl, rfl, ff6_7⟩) hs (Nat.lt_succ_of_lt hn) ?_
    exact r_vret dX6_init_19 rfl rfl rfl
  rw [Nat.zero_add, Nat.zero_add] at hz
  exact hz
def h7_8 (E : HP) : HP := (sR (hRow 13 14 (zp (sR (hRow 11 12 (zp (sI (sR (hRow 9 10 (zp E 9)) 896 8 (some 9)) 897 8 (0)) 11)) 898 8 (some 11)) 13)) 899 8 (some 13))
set_option maxRecDepth 20000 in
set_option maxHeartbeats 16000000 in
theorem c_new7_8 {d : Nat} {E : HP} : Cl yX7_init mX7_init (d + 1) 6 650 [.ref 8] E 9 (.inl none, h7_8 E, 15) := by
  refine Cl.of (by decide) rfl (fun _ => rfl) rfl rfl (Nat.le_of_ble_eq_true rfl) ?_
  show Sm _ _ _ _ _ 0 [some (.ref 8)] [] _ _
  refine r_aload_n 1 dX7_init_0 rfl rfl ?_
  refine r_objInit 4 dX7_init_1 rfl k7_3 w_oi w_oc (Nat.le_of_ble_eq_true rfl) ?_
  refine r_aload_n 5 dX7_init_4 rfl rfl ?_
  refine r_new (bc := 5) (bs := 649) 8 dX7_init_5 rfl n7_9 rfl ?_
  refine r_dup 9 dX7_init_8 rfl rfl ?_
  refine r_sipush (600) 12 dX7_init_9 rfl (by decide) ?_
  refine r_callI (M := mX7_init) (pc := 12) (bc := 4) (bs := 49) 15 dX7_init_12 rfl k7_11 (c_newRow (d := d + 0) (n := 10) (h := 9) (l := 600) (x := 600) rfl (by decide) rfl (by decide) (by decide) (by decide)) rfl rfl (Nat.le_of_ble_eq_true rfl) ?_
  refine r_putR 18 dX7_init_15 rfl f7_14 rfl (Or.inr ⟨rfl, rfl, ff7_14⟩) rfl (by decide) ?_
  refine r_aload_n 19 dX7_init_18 rfl rfl ?_
  refine r_iconst (0) 20 dX7_init_19 rfl (by decide) ?_
  refine r_putI 23 dX7_init_20 rfl f7_20 rfl (by decide) ?_
  refine r_aload_n 24 dX7_init_23 rfl rfl ?_
  refine r_new (bc := 3) (bs := 48) 27 dX7_init_24 rfl n7_9 rfl ?_
  refine r_dup 28 dX7_init_27 rfl rfl ?_
  refine r_bipush (7) 30 dX7_init_28 rfl (by decide) ?_
  refine r_callI (M := mX7_init) (pc := 30) (bc := 2) (bs := 41) 33 dX7_init_30 rfl k7_11 (c_newRow (d := d + 0) (n := 12) (h := 11) (l := 7) (x := 7) rfl (by decide) rfl (by decide) (by decide) (by decide)) rfl rfl (Nat.le_of_ble_eq_true rfl) ?_
  refine r_putR 36 dX7_init_33 rfl f7_24 rfl (Or.inr ⟨rfl, rfl, ff7_24⟩) rfl (by decide) ?_
  refine r_aload_n 37 dX7_init_36 rfl rfl ?_
  refine r_new (bc := 1) (bs := 40) 40 dX7_init_37 rfl n7_9 rfl ?_
  refine r_dup 41 dX7_init_40 rfl rfl ?_
  refine r_bipush (40) 43 dX7_init_41 rfl (by decide) ?_
  refine r_callI (M := mX7_init) (pc := 43) (bc := 0) (bs := 0) 46 dX7_init_43 rfl k7_11 (c_newRow (d := d + 0) (n := 14) (h := 13) (l := 40) (x := 40) rfl (by decide) rfl (by decide) (by decide) (by decide)) rfl rfl (Nat.le_of_ble_eq_true rfl) ?_
  refine r_putR 49 dX7_init_46 rfl f7_27 rfl (Or.inr ⟨rfl, rfl, ff7_27⟩) rfl (by decide) ?_
  exact r_vret dX7_init_49 rfl rfl rfl
