/-! The constructors -/
def hRow (h n : Nat) (E : HP) : HP := sR (zp E n) 768 h (some n)
def hSl (h : Nat) (E : HP) : HP := sI (sI (sI (sI (sI (sI (sI E 1024 h 0) 1025 h 0) 1026 h 0) 1027 h 0) 1028 h 0) 1029 h 0) 1030 h 0
def hLi (h w : Nat) (E : HP) : HP := sR (sI (sI (sI (sI (sI (sI (sI (sI E 129 h (-1)) 130 h (0)) 131 h (0)) 132 h (0)) 133 h (0)) 134 h (0)) 135 h (0)) 136 h (0)) 128 h (some w)
theorem gR_hRow {h n g k : Nat} {E : HP} : gR (hRow h n E) g k = if g = 768 ∧ k = h then some n else if k = n then none else gR E g k := rfl
theorem gQ_hRow {h n a j : Nat} {E : HP} : gQ (hRow h n E) a j = if a = n then none else gQ E a j := rfl
theorem gR_hSl {h g k : Nat} {E : HP} : gR (hSl h E) g k = gR E g k := rfl
theorem gQ_hSl {h a : Nat} {E : HP} : gQ (hSl h E) a = gQ E a := rfl
theorem gR_hLi {h w g k : Nat} {E : HP} : gR (hLi h w E) g k = if g = 128 ∧ k = h then some w else gR E g k := rfl
theorem gQ_hLi {h w a : Nat} {E : HP} : gQ (hLi h w E) a = gQ E a := rfl
set_option maxRecDepth 20000 in
theorem c_newSl {d n h : Nat} {E : HP} (hs : sh h = (8, 0)) (hn : h < n) : Cl yX8_init mX8_init d 0 0 [.ref h] E n (.inl none, hSl h E, n) := by
  refine Cl.of (by decide) rfl (fun _ => rfl) rfl rfl (Nat.le_of_ble_eq_true rfl) ?_
  show Sm _ _ _ _ _ 0 [some (.ref h)] [] _ _
  refine r_aload_n 1 dX8_init_0 rfl rfl ?_
  refine r_objInit 4 dX8_init_1 rfl k8_3 w_oi w_oc (Nat.le_of_ble_eq_true rfl) ?_
  refine r_aload_n 5 dX8_init_4 rfl rfl ?_
  refine r_iconst (0) 6 dX8_init_5 rfl (by decide) ?_
  refine r_putI 9 dX8_init_6 rfl f8_9 hs hn ?_
  refine r_aload_n 10 dX8_init_9 rfl rfl ?_
  refine r_iconst (0) 11 dX8_init_10 rfl (by decide) ?_
  refine r_putI 14 dX8_init_11 rfl f8_15 hs hn ?_
  refine r_aload_n 15 dX8_init_14 rfl rfl ?_
  refine r_iconst (0) 16 dX8_init_15 rfl (by decide) ?_
  refine r_putI 19 dX8_init_16 rfl f8_18 hs hn ?_
  refine r_aload_n 20 dX8_init_19 rfl rfl ?_
  refine r_iconst (0) 21 dX8_init_20 rfl (by decide) ?_
  refine r_putI 24 dX8_init_21 rfl f8_21 hs hn ?_
  refine r_aload_n 25 dX8_init_24 rfl rfl ?_
  refine r_iconst (0) 26 dX8_init_25 rfl (by decide) ?_
  refine r_putI 29 dX8_init_26 rfl f8_24 hs hn ?_
  refine r_aload_n 30 dX8_init_29 rfl rfl ?_
  refine r_iconst (0) 31 dX8_init_30 rfl (by decide) ?_
  refine r_putI 34 dX8_init_31 rfl f8_27 hs hn ?_
  refine r_aload_n 35 dX8_init_34 rfl rfl ?_
  refine r_iconst (0) 36 dX8_init_35 rfl (by decide) ?_
  refine r_putI 39 dX8_init_36 rfl f8_30 hs hn ?_
  exact r_vret dX8_init_39 rfl rfl rfl
set_option maxHeartbeats 16000000 in
set_option maxRecDepth 20000 in
theorem c_newLi {d n h w : Nat} {E : HP} (hs : sh h = (1, 0)) (hn : h < n) : Cl yX1_init mX1_init d 0 0 [.ref h, .ref w] E n (.inl none, hLi h w E, n) := by
  refine Cl.of (by decide) rfl (fun _ => rfl) rfl rfl (Nat.le_of_ble_eq_true rfl) ?_
  show Sm _ _ _ _ _ 0 [some (.ref h), some (.ref w)] [] _ _
  refine r_aload_n 1 dX1_init_0 rfl rfl ?_
  refine r_objInit 4 dX1_init_1 rfl k1_3 w_oi w_oc (Nat.le_of_ble_eq_true rfl) ?_
  refine r_aload_n 5 dX1_init_4 rfl rfl ?_
  refine r_iconst (-1) 6 dX1_init_5 rfl (by decide) ?_
  refine r_putI 9 dX1_init_6 rfl f1_9 hs hn ?_
  refine r_aload_n 10 dX1_init_9 rfl rfl ?_
  refine r_iconst (0) 11 dX1_init_10 rfl (by decide) ?_
  refine r_putI 14 dX1_init_11 rfl f1_15 hs hn ?_
  refine r_aload_n 15 dX1_init_14 rfl rfl ?_
  refine r_iconst (0) 16 dX1_init_15 rfl (by decide) ?_
  refine r_putI 19 dX1_init_16 rfl f1_18 hs hn ?_
  refine r_aload_n 20 dX1_init_19 rfl rfl ?_
  refine r_iconst (0) 21 dX1_init_20 rfl (by decide) ?_
  refine r_putI 24 dX1_init_21 rfl f1_21 hs hn ?_
  refine r_aload_n 25 dX1_init_24 rfl rfl ?_
  refine r_iconst (0) 26 dX1_init_25 rfl (by decide) ?_
  refine r_putI 29 dX1_init_26 rfl f1_24 hs hn ?_
  refine r_aload_n 30 dX1_init_29 rfl rfl ?_
  refine r_iconst (0) 31 dX1_init_30 rfl (by decide) ?_
  refine r_putI 34 dX1_init_31 rfl f1_27 hs hn ?_
  refine r_aload_n 35 dX1_init_34 rfl rfl ?_
  refine r_iconst (0) 36 dX1_init_35 rfl (by decide) ?_
  refine r_putI 39 dX1_init_36 rfl f1_30 hs hn ?_
  refine r_aload_n 40 dX1_init_39 rfl rfl ?_
  refine r_iconst (0) 41 dX1_init_40 rfl (by decide) ?_
  refine r_putI 44 dX1_init_41 rfl f1_33 hs hn ?_
  refine r_aload_n 45 dX1_init_44 rfl rfl ?_
  refine r_aload_n 46 dX1_init_45 rfl rfl ?_
  refine r_putR 49 dX1_init_46 rfl f1_36 rfl (Or.inl rfl) hs hn ?_
  exact r_vret dX1_init_49 rfl rfl rfl
set_option maxRecDepth 20000 in
theorem c_newRow {d n h l : Nat} {x : Int32} {E : HP} (hs : sh h = (6, 0)) (hn : h < n) (ha : sh n = (100, l)) (hx0 : 0 ≤ x) (hx : x.toNatClampNeg = l) (hl : l ≤ 100000) : Cl yX6_init mX6_init d 1 l [.ref h, .int x] E n (.inl none, hRow h n E, n + 1) := by
  refine Cl.of (by decide) rfl (fun _ => rfl) rfl rfl (Nat.le_of_ble_eq_true rfl) ?_
  show Sm _ _ _ _ _ 0 [some (.ref h), some (.int x)] [] _ _
  refine r_aload_n 1 dX6_init_0 rfl rfl ?_
  refine r_objInit 4 dX6_init_1 rfl k6_1 w_oi w_oc (Nat.le_of_ble_eq_true rfl) ?_
  refine r_aload_n 5 dX6_init_4 rfl rfl ?_
  refine r_iload_n 6 dX6_init_5 rfl rfl ?_
  refine r_if_ge 9 13 dX6_init_6 rfl (by decide) (fun _ => ?_) (fun z => absurd hx0 z)
  refine r_iload_n 14 dX6_init_13 rfl rfl ?_
  have hz : Sm mX6_init d (0 + 1) (0 + l) (.inl none, hRow h n E, n + 1) 14 [some (.ref h), some (.int x)] [.int x, .ref h] E n := by
    refine r_newI (bc := 0) (bs := 0) 16 dX6_init_14 rfl ha (Int32.not_lt.mpr hx0) hx hl w_ac_int ?_
    refine r_putR 19 dX6_init_16 rfl f6_7 rfl (Or.inr ⟨rfl, rfl, ff6_7⟩) hs (Nat.lt_succ_of_lt hn) ?_
    exact r_vret dX6_init_19 rfl rfl rfl
  rw [Nat.zero_add, Nat.zero_add] at hz
  exact hz
def h7_8 (E : HP) : HP := (sR (hRow 13 14 (zp (sR (hRow 11 12 (zp (sI (sR (hRow 9 10 (zp E 9)) 896 8 (some 9)) 897 8 (0)) 11)) 898 8 (some 11)) 13)) 899 8 (some 13))
set_option maxRecDepth 20000 in
set_option maxHeartbeats 16000000 in
theorem c_new7_8 {d : Nat} {E : HP} : Cl yX7_init mX7_init (d + 1) 6 650 [.ref 8] E 9 (.inl none, h7_8 E, 15) := by
  refine Cl.of (by decide) rfl (fun _ => rfl) rfl rfl (Nat.le_of_ble_eq_true rfl) ?_
  show Sm _ _ _ _ _ 0 [some (.ref 8)] [] _ _
  refine r_aload_n 1 dX7_init_0 rfl rfl ?_
  refine r_objInit 4 dX7_init_1 rfl k7_3 w_oi w_oc (Nat.le_of_ble_eq_true rfl) ?_
  refine r_aload_n 5 dX7_init_4 rfl rfl ?_
  refine r_new (bc := 5) (bs := 649) 8 dX7_init_5 rfl n7_9 rfl ?_
  refine r_dup 9 dX7_init_8 rfl rfl ?_
  refine r_sipush (600) 12 dX7_init_9 rfl (by decide) ?_
  refine r_callI (bc := 4) (bs := 49) 15 dX7_init_12 rfl k7_11 (c_newRow (d := d + 0) (n := 10) (h := 9) (l := 600) (x := 600) rfl (by decide) rfl (by decide) (by decide) (by decide)) rfl rfl (Nat.le_of_ble_eq_true rfl) ?_
  refine r_putR 18 dX7_init_15 rfl f7_14 rfl (Or.inr ⟨rfl, rfl, ff7_14⟩) rfl (by decide) ?_
  refine r_aload_n 19 dX7_init_18 rfl rfl ?_
  refine r_iconst (0) 20 dX7_init_19 rfl (by decide) ?_
  refine r_putI 23 dX7_init_20 rfl f7_20 rfl (by decide) ?_
  refine r_aload_n 24 dX7_init_23 rfl rfl ?_
  refine r_new (bc := 3) (bs := 48) 27 dX7_init_24 rfl n7_9 rfl ?_
  refine r_dup 28 dX7_init_27 rfl rfl ?_
  refine r_bipush (7) 30 dX7_init_28 rfl (by decide) ?_
  refine r_callI (bc := 2) (bs := 41) 33 dX7_init_30 rfl k7_11 (c_newRow (d := d + 0) (n := 12) (h := 11) (l := 7) (x := 7) rfl (by decide) rfl (by decide) (by decide) (by decide)) rfl rfl (Nat.le_of_ble_eq_true rfl) ?_
  refine r_putR 36 dX7_init_33 rfl f7_24 rfl (Or.inr ⟨rfl, rfl, ff7_24⟩) rfl (by decide) ?_
  refine r_aload_n 37 dX7_init_36 rfl rfl ?_
  refine r_new (bc := 1) (bs := 40) 40 dX7_init_37 rfl n7_9 rfl ?_
  refine r_dup 41 dX7_init_40 rfl rfl ?_
  refine r_bipush (40) 43 dX7_init_41 rfl (by decide) ?_
  refine r_callI (bc := 0) (bs := 0) 46 dX7_init_43 rfl k7_11 (c_newRow (d := d + 0) (n := 14) (h := 13) (l := 40) (x := 40) rfl (by decide) rfl (by decide) (by decide) (by decide)) rfl rfl (Nat.le_of_ble_eq_true rfl) ?_
  refine r_putR 49 dX7_init_46 rfl f7_27 rfl (Or.inr ⟨rfl, rfl, ff7_27⟩) rfl (by decide) ?_
  exact r_vret dX7_init_49 rfl rfl rfl
def h0_3 (E : HP) : HP := (beAnew 3 (sQ (hSl 21 (zp (sQ (hSl 20 (zp (sQ (hSl 19 (zp (sQ (hSl 18 (zp (sQ (hSl 17 (zp (sQ (hSl 16 (zp (sQ (hSl 15 (zp (sR (h7_8 (zp (sR (hRow 6 7 (zp (sR (zp (sR (hSl 4 (zp E 4)) 0 3 (some 4)) 5) 1 3 (some 5)) 6)) 2 3 (some 6)) 8)) 3 3 (some 8)) 15)) 5 0 (some 15)) 16)) 5 1 (some 16)) 17)) 5 2 (some 17)) 18)) 5 3 (some 18)) 19)) 5 4 (some 19)) 20)) 5 5 (some 20)) 21)) 5 6 (some 21)))
set_option maxRecDepth 20000 in
set_option maxHeartbeats 16000000 in
theorem c_new0_3 {d : Nat} {E : HP} : Cl yX0_init mX0_init (d + 2) 18 725 [.ref 3] E 4 (.inl none, h0_3 E, 22) := by
  refine Cl.of (by decide) rfl (fun _ => rfl) rfl rfl (Nat.le_of_ble_eq_true rfl) ?_
  show Sm _ _ _ _ _ 0 [some (.ref 3), none] [] _ _
  refine r_aload_n 1 dX0_init_0 rfl rfl ?_
  refine r_objInit 4 dX0_init_1 rfl k0_3 w_oi w_oc (Nat.le_of_ble_eq_true rfl) ?_
  refine r_aload_n 5 dX0_init_4 rfl rfl ?_
  refine r_new (bc := 17) (bs := 718) 8 dX0_init_5 rfl n0_9 rfl ?_
  refine r_dup 9 dX0_init_8 rfl rfl ?_
  refine r_callI (bc := 17) (bs := 718) 12 dX0_init_9 rfl k0_11 (c_newSl (d := d + 1) (n := 5) (h := 4) rfl (by decide)) rfl rfl (Nat.le_of_ble_eq_true rfl) ?_
  refine r_putR 15 dX0_init_12 rfl f0_12 rfl (Or.inr ⟨rfl, rfl, ff0_12⟩) rfl (by decide) ?_
  refine r_aload_n 16 dX0_init_15 rfl rfl ?_
  refine r_bipush (7) 18 dX0_init_16 rfl (by decide) ?_
  refine r_newQ (bc := 16) (bs := 711) 21 dX0_init_18 rfl rfl (by decide) (by decide) (by decide) (by decide) (by decide) nl0_9 ?_
  refine r_putR 24 dX0_init_21 rfl f0_18 rfl (Or.inr ⟨rfl, rfl, ff0_18⟩) rfl (by decide) ?_
  refine r_aload_n 25 dX0_init_24 rfl rfl ?_
  refine r_new (bc := 15) (bs := 710) 28 dX0_init_25 rfl n0_22 rfl ?_
  refine r_dup 29 dX0_init_28 rfl rfl ?_
  refine r_bipush (7) 31 dX0_init_29 rfl (by decide) ?_
  refine r_callI (bc := 14) (bs := 703) 34 dX0_init_31 rfl k0_24 (c_newRow (d := d + 1) (n := 7) (h := 6) (l := 7) (x := 7) rfl (by decide) rfl (by decide) (by decide) (by decide)) rfl rfl (Nat.le_of_ble_eq_true rfl) ?_
  refine r_putR 37 dX0_init_34 rfl f0_27 rfl (Or.inr ⟨rfl, rfl, ff0_27⟩) rfl (by decide) ?_
  refine r_aload_n 38 dX0_init_37 rfl rfl ?_
  refine r_new (bc := 13) (bs := 699) 41 dX0_init_38 rfl n0_31 rfl ?_
  refine r_dup 42 dX0_init_41 rfl rfl ?_
  refine r_callI (bc := 7) (bs := 49) 45 dX0_init_42 rfl k0_33 (c_new7_8 (d := d)) rfl rfl (Nat.le_of_ble_eq_true rfl) ?_
  refine r_putR 48 dX0_init_45 rfl f0_34 rfl (Or.inr ⟨rfl, rfl, ff0_34⟩) rfl (by decide) ?_
  refine r_iconst (0) 49 dX0_init_48 rfl (by decide) ?_
  refine r_istore_n 50 dX0_init_49 rfl (by decide) rfl ?_
  refine r_iload_n 51 dX0_init_50 rfl rfl ?_
  refine r_aload_n 52 dX0_init_51 rfl rfl ?_
  refine r_getR 55 dX0_init_52 rfl f0_18 rfl rfl (by decide) (show gR _ 1 3 = some 5 by simp [gR_sI, gR_sR, gR_sQ, gR_sA, gR_zp, gQ_sI, gQ_sR, gQ_sQ, gQ_sA, gQ_zp, gR_hRow, gQ_hRow, gR_hSl, gQ_hSl, gR_hLi, gQ_hLi, h7_8]) ?_
  refine r_alenQ 7 56 dX0_init_55 rfl rfl (by decide) (by decide) (by decide) rfl ?_
  refine r_icmp_ge 59 78 dX0_init_56 rfl (by decide) (fun z => absurd z (show ¬ (7 : Int32) ≤ 0 by decide)) (fun _ => ?_)
  refine r_aload_n 60 dX0_init_59 rfl rfl ?_
  refine r_getR 63 dX0_init_60 rfl f0_18 rfl rfl (by decide) (show gR _ 1 3 = some 5 by simp [gR_sI, gR_sR, gR_sQ, gR_sA, gR_zp, gQ_sI, gQ_sR, gQ_sQ, gQ_sA, gQ_zp, gR_hRow, gQ_hRow, gR_hSl, gQ_hSl, gR_hLi, gQ_hLi, h7_8]) ?_
  refine r_iload_n 64 dX0_init_63 rfl rfl ?_
  refine r_new (bc := 6) (bs := 42) 67 dX0_init_64 rfl n0_9 rfl ?_
  refine r_dup 68 dX0_init_67 rfl rfl ?_
  refine r_callI (bc := 6) (bs := 42) 71 dX0_init_68 rfl k0_11 (c_newSl (d := d + 1) (n := 16) (h := 15) rfl (by decide)) rfl rfl (Nat.le_of_ble_eq_true rfl) ?_
  refine r_aast 72 dX0_init_71 rfl rfl (by decide) (by decide) (by decide) (by decide) rfl (by decide) (by decide) rfl ?_
  rw [show (0 : Int32).toNatClampNeg = 0 by decide]
  refine r_iinc (1) 75 dX0_init_72 rfl rfl (by decide) (by decide) rfl ?_
  rw [show (0 : Int32) + 1 = 1 by decide]
  refine r_goto 50 dX0_init_75 (by decide) ?_
  refine r_iload_n 51 dX0_init_50 rfl rfl ?_
  refine r_aload_n 52 dX0_init_51 rfl rfl ?_
  refine r_getR 55 dX0_init_52 rfl f0_18 rfl rfl (by decide) (show gR _ 1 3 = some 5 by simp [gR_sI, gR_sR, gR_sQ, gR_sA, gR_zp, gQ_sI, gQ_sR, gQ_sQ, gQ_sA, gQ_zp, gR_hRow, gQ_hRow, gR_hSl, gQ_hSl, gR_hLi, gQ_hLi, h7_8]) ?_
  refine r_alenQ 7 56 dX0_init_55 rfl rfl (by decide) (by decide) (by decide) rfl ?_
  refine r_icmp_ge 59 78 dX0_init_56 rfl (by decide) (fun z => absurd z (show ¬ (7 : Int32) ≤ 1 by decide)) (fun _ => ?_)
  refine r_aload_n 60 dX0_init_59 rfl rfl ?_
  refine r_getR 63 dX0_init_60 rfl f0_18 rfl rfl (by decide) (show gR _ 1 3 = some 5 by simp [gR_sI, gR_sR, gR_sQ, gR_sA, gR_zp, gQ_sI, gQ_sR, gQ_sQ, gQ_sA, gQ_zp, gR_hRow, gQ_hRow, gR_hSl, gQ_hSl, gR_hLi, gQ_hLi, h7_8]) ?_
  refine r_iload_n 64 dX0_init_63 rfl rfl ?_
  refine r_new (bc := 5) (bs := 35) 67 dX0_init_64 rfl n0_9 rfl ?_
  refine r_dup 68 dX0_init_67 rfl rfl ?_
  refine r_callI (bc := 5) (bs := 35) 71 dX0_init_68 rfl k0_11 (c_newSl (d := d + 1) (n := 17) (h := 16) rfl (by decide)) rfl rfl (Nat.le_of_ble_eq_true rfl) ?_
  refine r_aast 72 dX0_init_71 rfl rfl (by decide) (by decide) (by decide) (by decide) rfl (by decide) (by decide) rfl ?_
  rw [show (1 : Int32).toNatClampNeg = 1 by decide]
  refine r_iinc (1) 75 dX0_init_72 rfl rfl (by decide) (by decide) rfl ?_
  rw [show (1 : Int32) + 1 = 2 by decide]
  refine r_goto 50 dX0_init_75 (by decide) ?_
  refine r_iload_n 51 dX0_init_50 rfl rfl ?_
  refine r_aload_n 52 dX0_init_51 rfl rfl ?_
  refine r_getR 55 dX0_init_52 rfl f0_18 rfl rfl (by decide) (show gR _ 1 3 = some 5 by simp [gR_sI, gR_sR, gR_sQ, gR_sA, gR_zp, gQ_sI, gQ_sR, gQ_sQ, gQ_sA, gQ_zp, gR_hRow, gQ_hRow, gR_hSl, gQ_hSl, gR_hLi, gQ_hLi, h7_8]) ?_
  refine r_alenQ 7 56 dX0_init_55 rfl rfl (by decide) (by decide) (by decide) rfl ?_
  refine r_icmp_ge 59 78 dX0_init_56 rfl (by decide) (fun z => absurd z (show ¬ (7 : Int32) ≤ 2 by decide)) (fun _ => ?_)
  refine r_aload_n 60 dX0_init_59 rfl rfl ?_
  refine r_getR 63 dX0_init_60 rfl f0_18 rfl rfl (by decide) (show gR _ 1 3 = some 5 by simp [gR_sI, gR_sR, gR_sQ, gR_sA, gR_zp, gQ_sI, gQ_sR, gQ_sQ, gQ_sA, gQ_zp, gR_hRow, gQ_hRow, gR_hSl, gQ_hSl, gR_hLi, gQ_hLi, h7_8]) ?_
  refine r_iload_n 64 dX0_init_63 rfl rfl ?_
  refine r_new (bc := 4) (bs := 28) 67 dX0_init_64 rfl n0_9 rfl ?_
  refine r_dup 68 dX0_init_67 rfl rfl ?_
  refine r_callI (bc := 4) (bs := 28) 71 dX0_init_68 rfl k0_11 (c_newSl (d := d + 1) (n := 18) (h := 17) rfl (by decide)) rfl rfl (Nat.le_of_ble_eq_true rfl) ?_
  refine r_aast 72 dX0_init_71 rfl rfl (by decide) (by decide) (by decide) (by decide) rfl (by decide) (by decide) rfl ?_
  rw [show (2 : Int32).toNatClampNeg = 2 by decide]
  refine r_iinc (1) 75 dX0_init_72 rfl rfl (by decide) (by decide) rfl ?_
  rw [show (2 : Int32) + 1 = 3 by decide]
  refine r_goto 50 dX0_init_75 (by decide) ?_
  refine r_iload_n 51 dX0_init_50 rfl rfl ?_
  refine r_aload_n 52 dX0_init_51 rfl rfl ?_
  refine r_getR 55 dX0_init_52 rfl f0_18 rfl rfl (by decide) (show gR _ 1 3 = some 5 by simp [gR_sI, gR_sR, gR_sQ, gR_sA, gR_zp, gQ_sI, gQ_sR, gQ_sQ, gQ_sA, gQ_zp, gR_hRow, gQ_hRow, gR_hSl, gQ_hSl, gR_hLi, gQ_hLi, h7_8]) ?_
  refine r_alenQ 7 56 dX0_init_55 rfl rfl (by decide) (by decide) (by decide) rfl ?_
  refine r_icmp_ge 59 78 dX0_init_56 rfl (by decide) (fun z => absurd z (show ¬ (7 : Int32) ≤ 3 by decide)) (fun _ => ?_)
  refine r_aload_n 60 dX0_init_59 rfl rfl ?_
  refine r_getR 63 dX0_init_60 rfl f0_18 rfl rfl (by decide) (show gR _ 1 3 = some 5 by simp [gR_sI, gR_sR, gR_sQ, gR_sA, gR_zp, gQ_sI, gQ_sR, gQ_sQ, gQ_sA, gQ_zp, gR_hRow, gQ_hRow, gR_hSl, gQ_hSl, gR_hLi, gQ_hLi, h7_8]) ?_
  refine r_iload_n 64 dX0_init_63 rfl rfl ?_
  refine r_new (bc := 3) (bs := 21) 67 dX0_init_64 rfl n0_9 rfl ?_
  refine r_dup 68 dX0_init_67 rfl rfl ?_
  refine r_callI (bc := 3) (bs := 21) 71 dX0_init_68 rfl k0_11 (c_newSl (d := d + 1) (n := 19) (h := 18) rfl (by decide)) rfl rfl (Nat.le_of_ble_eq_true rfl) ?_
  refine r_aast 72 dX0_init_71 rfl rfl (by decide) (by decide) (by decide) (by decide) rfl (by decide) (by decide) rfl ?_
  rw [show (3 : Int32).toNatClampNeg = 3 by decide]
  refine r_iinc (1) 75 dX0_init_72 rfl rfl (by decide) (by decide) rfl ?_
  rw [show (3 : Int32) + 1 = 4 by decide]
  refine r_goto 50 dX0_init_75 (by decide) ?_
  refine r_iload_n 51 dX0_init_50 rfl rfl ?_
  refine r_aload_n 52 dX0_init_51 rfl rfl ?_
  refine r_getR 55 dX0_init_52 rfl f0_18 rfl rfl (by decide) (show gR _ 1 3 = some 5 by simp [gR_sI, gR_sR, gR_sQ, gR_sA, gR_zp, gQ_sI, gQ_sR, gQ_sQ, gQ_sA, gQ_zp, gR_hRow, gQ_hRow, gR_hSl, gQ_hSl, gR_hLi, gQ_hLi, h7_8]) ?_
  refine r_alenQ 7 56 dX0_init_55 rfl rfl (by decide) (by decide) (by decide) rfl ?_
  refine r_icmp_ge 59 78 dX0_init_56 rfl (by decide) (fun z => absurd z (show ¬ (7 : Int32) ≤ 4 by decide)) (fun _ => ?_)
  refine r_aload_n 60 dX0_init_59 rfl rfl ?_
  refine r_getR 63 dX0_init_60 rfl f0_18 rfl rfl (by decide) (show gR _ 1 3 = some 5 by simp [gR_sI, gR_sR, gR_sQ, gR_sA, gR_zp, gQ_sI, gQ_sR, gQ_sQ, gQ_sA, gQ_zp, gR_hRow, gQ_hRow, gR_hSl, gQ_hSl, gR_hLi, gQ_hLi, h7_8]) ?_
  refine r_iload_n 64 dX0_init_63 rfl rfl ?_
  refine r_new (bc := 2) (bs := 14) 67 dX0_init_64 rfl n0_9 rfl ?_
  refine r_dup 68 dX0_init_67 rfl rfl ?_
  refine r_callI (bc := 2) (bs := 14) 71 dX0_init_68 rfl k0_11 (c_newSl (d := d + 1) (n := 20) (h := 19) rfl (by decide)) rfl rfl (Nat.le_of_ble_eq_true rfl) ?_
  refine r_aast 72 dX0_init_71 rfl rfl (by decide) (by decide) (by decide) (by decide) rfl (by decide) (by decide) rfl ?_
  rw [show (4 : Int32).toNatClampNeg = 4 by decide]
  refine r_iinc (1) 75 dX0_init_72 rfl rfl (by decide) (by decide) rfl ?_
  rw [show (4 : Int32) + 1 = 5 by decide]
  refine r_goto 50 dX0_init_75 (by decide) ?_
  refine r_iload_n 51 dX0_init_50 rfl rfl ?_
  refine r_aload_n 52 dX0_init_51 rfl rfl ?_
  refine r_getR 55 dX0_init_52 rfl f0_18 rfl rfl (by decide) (show gR _ 1 3 = some 5 by simp [gR_sI, gR_sR, gR_sQ, gR_sA, gR_zp, gQ_sI, gQ_sR, gQ_sQ, gQ_sA, gQ_zp, gR_hRow, gQ_hRow, gR_hSl, gQ_hSl, gR_hLi, gQ_hLi, h7_8]) ?_
  refine r_alenQ 7 56 dX0_init_55 rfl rfl (by decide) (by decide) (by decide) rfl ?_
  refine r_icmp_ge 59 78 dX0_init_56 rfl (by decide) (fun z => absurd z (show ¬ (7 : Int32) ≤ 5 by decide)) (fun _ => ?_)
  refine r_aload_n 60 dX0_init_59 rfl rfl ?_
  refine r_getR 63 dX0_init_60 rfl f0_18 rfl rfl (by decide) (show gR _ 1 3 = some 5 by simp [gR_sI, gR_sR, gR_sQ, gR_sA, gR_zp, gQ_sI, gQ_sR, gQ_sQ, gQ_sA, gQ_zp, gR_hRow, gQ_hRow, gR_hSl, gQ_hSl, gR_hLi, gQ_hLi, h7_8]) ?_
  refine r_iload_n 64 dX0_init_63 rfl rfl ?_
  refine r_new (bc := 1) (bs := 7) 67 dX0_init_64 rfl n0_9 rfl ?_
  refine r_dup 68 dX0_init_67 rfl rfl ?_
  refine r_callI (bc := 1) (bs := 7) 71 dX0_init_68 rfl k0_11 (c_newSl (d := d + 1) (n := 21) (h := 20) rfl (by decide)) rfl rfl (Nat.le_of_ble_eq_true rfl) ?_
  refine r_aast 72 dX0_init_71 rfl rfl (by decide) (by decide) (by decide) (by decide) rfl (by decide) (by decide) rfl ?_
  rw [show (5 : Int32).toNatClampNeg = 5 by decide]
  refine r_iinc (1) 75 dX0_init_72 rfl rfl (by decide) (by decide) rfl ?_
  rw [show (5 : Int32) + 1 = 6 by decide]
  refine r_goto 50 dX0_init_75 (by decide) ?_
  refine r_iload_n 51 dX0_init_50 rfl rfl ?_
  refine r_aload_n 52 dX0_init_51 rfl rfl ?_
  refine r_getR 55 dX0_init_52 rfl f0_18 rfl rfl (by decide) (show gR _ 1 3 = some 5 by simp [gR_sI, gR_sR, gR_sQ, gR_sA, gR_zp, gQ_sI, gQ_sR, gQ_sQ, gQ_sA, gQ_zp, gR_hRow, gQ_hRow, gR_hSl, gQ_hSl, gR_hLi, gQ_hLi, h7_8]) ?_
  refine r_alenQ 7 56 dX0_init_55 rfl rfl (by decide) (by decide) (by decide) rfl ?_
  refine r_icmp_ge 59 78 dX0_init_56 rfl (by decide) (fun z => absurd z (show ¬ (7 : Int32) ≤ 6 by decide)) (fun _ => ?_)
  refine r_aload_n 60 dX0_init_59 rfl rfl ?_
  refine r_getR 63 dX0_init_60 rfl f0_18 rfl rfl (by decide) (show gR _ 1 3 = some 5 by simp [gR_sI, gR_sR, gR_sQ, gR_sA, gR_zp, gQ_sI, gQ_sR, gQ_sQ, gQ_sA, gQ_zp, gR_hRow, gQ_hRow, gR_hSl, gQ_hSl, gR_hLi, gQ_hLi, h7_8]) ?_
  refine r_iload_n 64 dX0_init_63 rfl rfl ?_
  refine r_new (bc := 0) (bs := 0) 67 dX0_init_64 rfl n0_9 rfl ?_
  refine r_dup 68 dX0_init_67 rfl rfl ?_
  refine r_callI (bc := 0) (bs := 0) 71 dX0_init_68 rfl k0_11 (c_newSl (d := d + 1) (n := 22) (h := 21) rfl (by decide)) rfl rfl (Nat.le_of_ble_eq_true rfl) ?_
  refine r_aast 72 dX0_init_71 rfl rfl (by decide) (by decide) (by decide) (by decide) rfl (by decide) (by decide) rfl ?_
  rw [show (6 : Int32).toNatClampNeg = 6 by decide]
  refine r_iinc (1) 75 dX0_init_72 rfl rfl (by decide) (by decide) rfl ?_
  rw [show (6 : Int32) + 1 = 7 by decide]
  refine r_goto 50 dX0_init_75 (by decide) ?_
  refine r_iload_n 51 dX0_init_50 rfl rfl ?_
  refine r_aload_n 52 dX0_init_51 rfl rfl ?_
  refine r_getR 55 dX0_init_52 rfl f0_18 rfl rfl (by decide) (show gR _ 1 3 = some 5 by simp [gR_sI, gR_sR, gR_sQ, gR_sA, gR_zp, gQ_sI, gQ_sR, gQ_sQ, gQ_sA, gQ_zp, gR_hRow, gQ_hRow, gR_hSl, gQ_hSl, gR_hLi, gQ_hLi, h7_8]) ?_
  refine r_alenQ 7 56 dX0_init_55 rfl rfl (by decide) (by decide) (by decide) rfl ?_
  refine r_icmp_ge 59 78 dX0_init_56 rfl (by decide) (fun _ => ?_) (fun z => absurd (show (7 : Int32) ≤ 7 by decide) z)
  refine r_aload_n 79 dX0_init_78 rfl rfl ?_
  have hbo : BedOK (sQ (hSl 21 (zp (sQ (hSl 20 (zp (sQ (hSl 19 (zp (sQ (hSl 18 (zp (sQ (hSl 17 (zp (sQ (hSl 16 (zp (sQ (hSl 15 (zp (sR (h7_8 (zp (sR (hRow 6 7 (zp (sR (zp (sR (hSl 4 (zp E 4)) 0 3 (some 4)) 5) 1 3 (some 5)) 6)) 2 3 (some 6)) 8)) 3 3 (some 8)) 15)) 5 0 (some 15)) 16)) 5 1 (some 16)) 17)) 5 2 (some 17)) 18)) 5 3 (some 18)) 19)) 5 4 (some 19)) 20)) 5 5 (some 20)) 21)) 5 6 (some 21)) 22 3 := ⟨rfl, by simp [gR_sI, gR_sR, gR_sQ, gR_sA, gR_zp, gQ_sI, gQ_sR, gQ_sQ, gQ_sA, gQ_zp, gR_hRow, gQ_hRow, gR_hSl, gQ_hSl, gR_hLi, gQ_hLi, h7_8], by simp [gR_sI, gR_sR, gR_sQ, gR_sA, gR_zp, gQ_sI, gQ_sR, gQ_sQ, gQ_sA, gQ_zp, gR_hRow, gQ_hRow, gR_hSl, gQ_hSl, gR_hLi, gQ_hLi, h7_8], by simp [gR_sI, gR_sR, gR_sQ, gR_sA, gR_zp, gQ_sI, gQ_sR, gQ_sQ, gQ_sA, gQ_zp, gR_hRow, gQ_hRow, gR_hSl, gQ_hSl, gR_hLi, gQ_hLi, h7_8], by simp [gR_sI, gR_sR, gR_sQ, gR_sA, gR_zp, gQ_sI, gQ_sR, gQ_sQ, gQ_sA, gQ_zp, gR_hRow, gQ_hRow, gR_hSl, gQ_hSl, gR_hLi, gQ_hLi, h7_8], rfl, rfl, fun i hi => (by have hi7 : i = 0 ∨ i = 1 ∨ i = 2 ∨ i = 3 ∨ i = 4 ∨ i = 5 ∨ i = 6 := by omega
      rcases hi7 with z | z | z | z | z | z | z <;> subst z <;> exact ⟨by simp [gR_sI, gR_sR, gR_sQ, gR_sA, gR_zp, gQ_sI, gQ_sR, gQ_sQ, gQ_sA, gQ_zp, gR_hRow, gQ_hRow, gR_hSl, gQ_hSl, gR_hLi, gQ_hLi, h7_8], rfl⟩), ⟨rfl, by simp [gR_sI, gR_sR, gR_sQ, gR_sA, gR_zp, gQ_sI, gQ_sR, gQ_sQ, gQ_sA, gQ_zp, gR_hRow, gQ_hRow, gR_hSl, gQ_hSl, gR_hLi, gQ_hLi, h7_8], rfl, by decide, by decide, by decide⟩, ⟨rfl, by simp [gR_sI, gR_sR, gR_sQ, gR_sA, gR_zp, gQ_sI, gQ_sR, gQ_sQ, gQ_sA, gQ_zp, gR_hRow, gQ_hRow, gR_hSl, gQ_hSl, gR_hLi, gQ_hLi, h7_8], by simp [gR_sI, gR_sR, gR_sQ, gR_sA, gR_zp, gQ_sI, gQ_sR, gQ_sQ, gQ_sA, gQ_zp, gR_hRow, gQ_hRow, gR_hSl, gQ_hSl, gR_hLi, gQ_hLi, h7_8], by simp [gR_sI, gR_sR, gR_sQ, gR_sA, gR_zp, gQ_sI, gQ_sR, gQ_sQ, gQ_sA, gQ_zp, gR_hRow, gQ_hRow, gR_hSl, gQ_hSl, gR_hLi, gQ_hLi, h7_8], ⟨rfl, by simp [gR_sI, gR_sR, gR_sQ, gR_sA, gR_zp, gQ_sI, gQ_sR, gQ_sQ, gQ_sA, gQ_zp, gR_hRow, gQ_hRow, gR_hSl, gQ_hSl, gR_hLi, gQ_hLi, h7_8], rfl, by decide, by decide, by decide⟩, ⟨rfl, by simp [gR_sI, gR_sR, gR_sQ, gR_sA, gR_zp, gQ_sI, gQ_sR, gQ_sQ, gQ_sA, gQ_zp, gR_hRow, gQ_hRow, gR_hSl, gQ_hSl, gR_hLi, gQ_hLi, h7_8], rfl, by decide, by decide, by decide⟩, ⟨rfl, by simp [gR_sI, gR_sR, gR_sQ, gR_sA, gR_zp, gQ_sI, gQ_sR, gQ_sQ, gQ_sA, gQ_zp, gR_hRow, gQ_hRow, gR_hSl, gQ_hSl, gR_hLi, gQ_hLi, h7_8], rfl, by decide, by decide, by decide⟩, by decide⟩, by decide⟩
  refine r_callV 82 dX0_init_79 rfl k0_38 (c_X0_makeAnew (d := d) hbo) rfl rfl rfl (by decide) rfl (by decide) (Nat.le_of_ble_eq_true rfl) ?_
  exact r_vret dX0_init_82 rfl rfl rfl
def h7_27 (E : HP) : HP := (sR (hRow 32 33 (zp (sR (hRow 30 31 (zp (sI (sR (hRow 28 29 (zp E 28)) 896 27 (some 28)) 897 27 (0)) 30)) 898 27 (some 30)) 32)) 899 27 (some 32))
set_option maxRecDepth 20000 in
set_option maxHeartbeats 16000000 in
theorem c_new7_27 {d : Nat} {E : HP} : Cl yX7_init mX7_init (d + 1) 6 650 [.ref 27] E 28 (.inl none, h7_27 E, 34) := by
  refine Cl.of (by decide) rfl (fun _ => rfl) rfl rfl (Nat.le_of_ble_eq_true rfl) ?_
  show Sm _ _ _ _ _ 0 [some (.ref 27)] [] _ _
  refine r_aload_n 1 dX7_init_0 rfl rfl ?_
  refine r_objInit 4 dX7_init_1 rfl k7_3 w_oi w_oc (Nat.le_of_ble_eq_true rfl) ?_
  refine r_aload_n 5 dX7_init_4 rfl rfl ?_
  refine r_new (bc := 5) (bs := 649) 8 dX7_init_5 rfl n7_9 rfl ?_
  refine r_dup 9 dX7_init_8 rfl rfl ?_
  refine r_sipush (600) 12 dX7_init_9 rfl (by decide) ?_
  refine r_callI (bc := 4) (bs := 49) 15 dX7_init_12 rfl k7_11 (c_newRow (d := d + 0) (n := 29) (h := 28) (l := 600) (x := 600) rfl (by decide) rfl (by decide) (by decide) (by decide)) rfl rfl (Nat.le_of_ble_eq_true rfl) ?_
  refine r_putR 18 dX7_init_15 rfl f7_14 rfl (Or.inr ⟨rfl, rfl, ff7_14⟩) rfl (by decide) ?_
  refine r_aload_n 19 dX7_init_18 rfl rfl ?_
  refine r_iconst (0) 20 dX7_init_19 rfl (by decide) ?_
  refine r_putI 23 dX7_init_20 rfl f7_20 rfl (by decide) ?_
  refine r_aload_n 24 dX7_init_23 rfl rfl ?_
  refine r_new (bc := 3) (bs := 48) 27 dX7_init_24 rfl n7_9 rfl ?_
  refine r_dup 28 dX7_init_27 rfl rfl ?_
  refine r_bipush (7) 30 dX7_init_28 rfl (by decide) ?_
  refine r_callI (bc := 2) (bs := 41) 33 dX7_init_30 rfl k7_11 (c_newRow (d := d + 0) (n := 31) (h := 30) (l := 7) (x := 7) rfl (by decide) rfl (by decide) (by decide) (by decide)) rfl rfl (Nat.le_of_ble_eq_true rfl) ?_
  refine r_putR 36 dX7_init_33 rfl f7_24 rfl (Or.inr ⟨rfl, rfl, ff7_24⟩) rfl (by decide) ?_
  refine r_aload_n 37 dX7_init_36 rfl rfl ?_
  refine r_new (bc := 1) (bs := 40) 40 dX7_init_37 rfl n7_9 rfl ?_
  refine r_dup 41 dX7_init_40 rfl rfl ?_
  refine r_bipush (40) 43 dX7_init_41 rfl (by decide) ?_
  refine r_callI (bc := 0) (bs := 0) 46 dX7_init_43 rfl k7_11 (c_newRow (d := d + 0) (n := 33) (h := 32) (l := 40) (x := 40) rfl (by decide) rfl (by decide) (by decide) (by decide)) rfl rfl (Nat.le_of_ble_eq_true rfl) ?_
  refine r_putR 49 dX7_init_46 rfl f7_27 rfl (Or.inr ⟨rfl, rfl, ff7_27⟩) rfl (by decide) ?_
  exact r_vret dX7_init_49 rfl rfl rfl
def h0_22 (E : HP) : HP := (beAnew 22 (sQ (hSl 40 (zp (sQ (hSl 39 (zp (sQ (hSl 38 (zp (sQ (hSl 37 (zp (sQ (hSl 36 (zp (sQ (hSl 35 (zp (sQ (hSl 34 (zp (sR (h7_27 (zp (sR (hRow 25 26 (zp (sR (zp (sR (hSl 23 (zp E 23)) 0 22 (some 23)) 24) 1 22 (some 24)) 25)) 2 22 (some 25)) 27)) 3 22 (some 27)) 34)) 24 0 (some 34)) 35)) 24 1 (some 35)) 36)) 24 2 (some 36)) 37)) 24 3 (some 37)) 38)) 24 4 (some 38)) 39)) 24 5 (some 39)) 40)) 24 6 (some 40)))
set_option maxRecDepth 20000 in
set_option maxHeartbeats 16000000 in
theorem c_new0_22 {d : Nat} {E : HP} : Cl yX0_init mX0_init (d + 2) 18 725 [.ref 22] E 23 (.inl none, h0_22 E, 41) := by
  refine Cl.of (by decide) rfl (fun _ => rfl) rfl rfl (Nat.le_of_ble_eq_true rfl) ?_
  show Sm _ _ _ _ _ 0 [some (.ref 22), none] [] _ _
  refine r_aload_n 1 dX0_init_0 rfl rfl ?_
  refine r_objInit 4 dX0_init_1 rfl k0_3 w_oi w_oc (Nat.le_of_ble_eq_true rfl) ?_
  refine r_aload_n 5 dX0_init_4 rfl rfl ?_
  refine r_new (bc := 17) (bs := 718) 8 dX0_init_5 rfl n0_9 rfl ?_
  refine r_dup 9 dX0_init_8 rfl rfl ?_
  refine r_callI (bc := 17) (bs := 718) 12 dX0_init_9 rfl k0_11 (c_newSl (d := d + 1) (n := 24) (h := 23) rfl (by decide)) rfl rfl (Nat.le_of_ble_eq_true rfl) ?_
  refine r_putR 15 dX0_init_12 rfl f0_12 rfl (Or.inr ⟨rfl, rfl, ff0_12⟩) rfl (by decide) ?_
  refine r_aload_n 16 dX0_init_15 rfl rfl ?_
  refine r_bipush (7) 18 dX0_init_16 rfl (by decide) ?_
  refine r_newQ (bc := 16) (bs := 711) 21 dX0_init_18 rfl rfl (by decide) (by decide) (by decide) (by decide) (by decide) nl0_9 ?_
  refine r_putR 24 dX0_init_21 rfl f0_18 rfl (Or.inr ⟨rfl, rfl, ff0_18⟩) rfl (by decide) ?_
  refine r_aload_n 25 dX0_init_24 rfl rfl ?_
  refine r_new (bc := 15) (bs := 710) 28 dX0_init_25 rfl n0_22 rfl ?_
  refine r_dup 29 dX0_init_28 rfl rfl ?_
  refine r_bipush (7) 31 dX0_init_29 rfl (by decide) ?_
  refine r_callI (bc := 14) (bs := 703) 34 dX0_init_31 rfl k0_24 (c_newRow (d := d + 1) (n := 26) (h := 25) (l := 7) (x := 7) rfl (by decide) rfl (by decide) (by decide) (by decide)) rfl rfl (Nat.le_of_ble_eq_true rfl) ?_
  refine r_putR 37 dX0_init_34 rfl f0_27 rfl (Or.inr ⟨rfl, rfl, ff0_27⟩) rfl (by decide) ?_
  refine r_aload_n 38 dX0_init_37 rfl rfl ?_
  refine r_new (bc := 13) (bs := 699) 41 dX0_init_38 rfl n0_31 rfl ?_
  refine r_dup 42 dX0_init_41 rfl rfl ?_
  refine r_callI (bc := 7) (bs := 49) 45 dX0_init_42 rfl k0_33 (c_new7_27 (d := d)) rfl rfl (Nat.le_of_ble_eq_true rfl) ?_
  refine r_putR 48 dX0_init_45 rfl f0_34 rfl (Or.inr ⟨rfl, rfl, ff0_34⟩) rfl (by decide) ?_
  refine r_iconst (0) 49 dX0_init_48 rfl (by decide) ?_
  refine r_istore_n 50 dX0_init_49 rfl (by decide) rfl ?_
  refine r_iload_n 51 dX0_init_50 rfl rfl ?_
  refine r_aload_n 52 dX0_init_51 rfl rfl ?_
  refine r_getR 55 dX0_init_52 rfl f0_18 rfl rfl (by decide) (show gR _ 1 22 = some 24 by simp [gR_sI, gR_sR, gR_sQ, gR_sA, gR_zp, gQ_sI, gQ_sR, gQ_sQ, gQ_sA, gQ_zp, gR_hRow, gQ_hRow, gR_hSl, gQ_hSl, gR_hLi, gQ_hLi, h7_8, h0_3, h7_27]) ?_
  refine r_alenQ 7 56 dX0_init_55 rfl rfl (by decide) (by decide) (by decide) rfl ?_
  refine r_icmp_ge 59 78 dX0_init_56 rfl (by decide) (fun z => absurd z (show ¬ (7 : Int32) ≤ 0 by decide)) (fun _ => ?_)
  refine r_aload_n 60 dX0_init_59 rfl rfl ?_
  refine r_getR 63 dX0_init_60 rfl f0_18 rfl rfl (by decide) (show gR _ 1 22 = some 24 by simp [gR_sI, gR_sR, gR_sQ, gR_sA, gR_zp, gQ_sI, gQ_sR, gQ_sQ, gQ_sA, gQ_zp, gR_hRow, gQ_hRow, gR_hSl, gQ_hSl, gR_hLi, gQ_hLi, h7_8, h0_3, h7_27]) ?_
  refine r_iload_n 64 dX0_init_63 rfl rfl ?_
  refine r_new (bc := 6) (bs := 42) 67 dX0_init_64 rfl n0_9 rfl ?_
  refine r_dup 68 dX0_init_67 rfl rfl ?_
  refine r_callI (bc := 6) (bs := 42) 71 dX0_init_68 rfl k0_11 (c_newSl (d := d + 1) (n := 35) (h := 34) rfl (by decide)) rfl rfl (Nat.le_of_ble_eq_true rfl) ?_
  refine r_aast 72 dX0_init_71 rfl rfl (by decide) (by decide) (by decide) (by decide) rfl (by decide) (by decide) rfl ?_
  rw [show (0 : Int32).toNatClampNeg = 0 by decide]
  refine r_iinc (1) 75 dX0_init_72 rfl rfl (by decide) (by decide) rfl ?_
  rw [show (0 : Int32) + 1 = 1 by decide]
  refine r_goto 50 dX0_init_75 (by decide) ?_
  refine r_iload_n 51 dX0_init_50 rfl rfl ?_
  refine r_aload_n 52 dX0_init_51 rfl rfl ?_
  refine r_getR 55 dX0_init_52 rfl f0_18 rfl rfl (by decide) (show gR _ 1 22 = some 24 by simp [gR_sI, gR_sR, gR_sQ, gR_sA, gR_zp, gQ_sI, gQ_sR, gQ_sQ, gQ_sA, gQ_zp, gR_hRow, gQ_hRow, gR_hSl, gQ_hSl, gR_hLi, gQ_hLi, h7_8, h0_3, h7_27]) ?_
  refine r_alenQ 7 56 dX0_init_55 rfl rfl (by decide) (by decide) (by decide) rfl ?_
  refine r_icmp_ge 59 78 dX0_init_56 rfl (by decide) (fun z => absurd z (show ¬ (7 : Int32) ≤ 1 by decide)) (fun _ => ?_)
  refine r_aload_n 60 dX0_init_59 rfl rfl ?_
  refine r_getR 63 dX0_init_60 rfl f0_18 rfl rfl (by decide) (show gR _ 1 22 = some 24 by simp [gR_sI, gR_sR, gR_sQ, gR_sA, gR_zp, gQ_sI, gQ_sR, gQ_sQ, gQ_sA, gQ_zp, gR_hRow, gQ_hRow, gR_hSl, gQ_hSl, gR_hLi, gQ_hLi, h7_8, h0_3, h7_27]) ?_
  refine r_iload_n 64 dX0_init_63 rfl rfl ?_
  refine r_new (bc := 5) (bs := 35) 67 dX0_init_64 rfl n0_9 rfl ?_
  refine r_dup 68 dX0_init_67 rfl rfl ?_
  refine r_callI (bc := 5) (bs := 35) 71 dX0_init_68 rfl k0_11 (c_newSl (d := d + 1) (n := 36) (h := 35) rfl (by decide)) rfl rfl (Nat.le_of_ble_eq_true rfl) ?_
  refine r_aast 72 dX0_init_71 rfl rfl (by decide) (by decide) (by decide) (by decide) rfl (by decide) (by decide) rfl ?_
  rw [show (1 : Int32).toNatClampNeg = 1 by decide]
  refine r_iinc (1) 75 dX0_init_72 rfl rfl (by decide) (by decide) rfl ?_
  rw [show (1 : Int32) + 1 = 2 by decide]
  refine r_goto 50 dX0_init_75 (by decide) ?_
  refine r_iload_n 51 dX0_init_50 rfl rfl ?_
  refine r_aload_n 52 dX0_init_51 rfl rfl ?_
  refine r_getR 55 dX0_init_52 rfl f0_18 rfl rfl (by decide) (show gR _ 1 22 = some 24 by simp [gR_sI, gR_sR, gR_sQ, gR_sA, gR_zp, gQ_sI, gQ_sR, gQ_sQ, gQ_sA, gQ_zp, gR_hRow, gQ_hRow, gR_hSl, gQ_hSl, gR_hLi, gQ_hLi, h7_8, h0_3, h7_27]) ?_
  refine r_alenQ 7 56 dX0_init_55 rfl rfl (by decide) (by decide) (by decide) rfl ?_
  refine r_icmp_ge 59 78 dX0_init_56 rfl (by decide) (fun z => absurd z (show ¬ (7 : Int32) ≤ 2 by decide)) (fun _ => ?_)
  refine r_aload_n 60 dX0_init_59 rfl rfl ?_
  refine r_getR 63 dX0_init_60 rfl f0_18 rfl rfl (by decide) (show gR _ 1 22 = some 24 by simp [gR_sI, gR_sR, gR_sQ, gR_sA, gR_zp, gQ_sI, gQ_sR, gQ_sQ, gQ_sA, gQ_zp, gR_hRow, gQ_hRow, gR_hSl, gQ_hSl, gR_hLi, gQ_hLi, h7_8, h0_3, h7_27]) ?_
  refine r_iload_n 64 dX0_init_63 rfl rfl ?_
  refine r_new (bc := 4) (bs := 28) 67 dX0_init_64 rfl n0_9 rfl ?_
  refine r_dup 68 dX0_init_67 rfl rfl ?_
  refine r_callI (bc := 4) (bs := 28) 71 dX0_init_68 rfl k0_11 (c_newSl (d := d + 1) (n := 37) (h := 36) rfl (by decide)) rfl rfl (Nat.le_of_ble_eq_true rfl) ?_
  refine r_aast 72 dX0_init_71 rfl rfl (by decide) (by decide) (by decide) (by decide) rfl (by decide) (by decide) rfl ?_
  rw [show (2 : Int32).toNatClampNeg = 2 by decide]
  refine r_iinc (1) 75 dX0_init_72 rfl rfl (by decide) (by decide) rfl ?_
  rw [show (2 : Int32) + 1 = 3 by decide]
  refine r_goto 50 dX0_init_75 (by decide) ?_
  refine r_iload_n 51 dX0_init_50 rfl rfl ?_
  refine r_aload_n 52 dX0_init_51 rfl rfl ?_
  refine r_getR 55 dX0_init_52 rfl f0_18 rfl rfl (by decide) (show gR _ 1 22 = some 24 by simp [gR_sI, gR_sR, gR_sQ, gR_sA, gR_zp, gQ_sI, gQ_sR, gQ_sQ, gQ_sA, gQ_zp, gR_hRow, gQ_hRow, gR_hSl, gQ_hSl, gR_hLi, gQ_hLi, h7_8, h0_3, h7_27]) ?_
  refine r_alenQ 7 56 dX0_init_55 rfl rfl (by decide) (by decide) (by decide) rfl ?_
  refine r_icmp_ge 59 78 dX0_init_56 rfl (by decide) (fun z => absurd z (show ¬ (7 : Int32) ≤ 3 by decide)) (fun _ => ?_)
  refine r_aload_n 60 dX0_init_59 rfl rfl ?_
  refine r_getR 63 dX0_init_60 rfl f0_18 rfl rfl (by decide) (show gR _ 1 22 = some 24 by simp [gR_sI, gR_sR, gR_sQ, gR_sA, gR_zp, gQ_sI, gQ_sR, gQ_sQ, gQ_sA, gQ_zp, gR_hRow, gQ_hRow, gR_hSl, gQ_hSl, gR_hLi, gQ_hLi, h7_8, h0_3, h7_27]) ?_
  refine r_iload_n 64 dX0_init_63 rfl rfl ?_
  refine r_new (bc := 3) (bs := 21) 67 dX0_init_64 rfl n0_9 rfl ?_
  refine r_dup 68 dX0_init_67 rfl rfl ?_
  refine r_callI (bc := 3) (bs := 21) 71 dX0_init_68 rfl k0_11 (c_newSl (d := d + 1) (n := 38) (h := 37) rfl (by decide)) rfl rfl (Nat.le_of_ble_eq_true rfl) ?_
  refine r_aast 72 dX0_init_71 rfl rfl (by decide) (by decide) (by decide) (by decide) rfl (by decide) (by decide) rfl ?_
  rw [show (3 : Int32).toNatClampNeg = 3 by decide]
  refine r_iinc (1) 75 dX0_init_72 rfl rfl (by decide) (by decide) rfl ?_
  rw [show (3 : Int32) + 1 = 4 by decide]
  refine r_goto 50 dX0_init_75 (by decide) ?_
  refine r_iload_n 51 dX0_init_50 rfl rfl ?_
  refine r_aload_n 52 dX0_init_51 rfl rfl ?_
  refine r_getR 55 dX0_init_52 rfl f0_18 rfl rfl (by decide) (show gR _ 1 22 = some 24 by simp [gR_sI, gR_sR, gR_sQ, gR_sA, gR_zp, gQ_sI, gQ_sR, gQ_sQ, gQ_sA, gQ_zp, gR_hRow, gQ_hRow, gR_hSl, gQ_hSl, gR_hLi, gQ_hLi, h7_8, h0_3, h7_27]) ?_
  refine r_alenQ 7 56 dX0_init_55 rfl rfl (by decide) (by decide) (by decide) rfl ?_
  refine r_icmp_ge 59 78 dX0_init_56 rfl (by decide) (fun z => absurd z (show ¬ (7 : Int32) ≤ 4 by decide)) (fun _ => ?_)
  refine r_aload_n 60 dX0_init_59 rfl rfl ?_
  refine r_getR 63 dX0_init_60 rfl f0_18 rfl rfl (by decide) (show gR _ 1 22 = some 24 by simp [gR_sI, gR_sR, gR_sQ, gR_sA, gR_zp, gQ_sI, gQ_sR, gQ_sQ, gQ_sA, gQ_zp, gR_hRow, gQ_hRow, gR_hSl, gQ_hSl, gR_hLi, gQ_hLi, h7_8, h0_3, h7_27]) ?_
  refine r_iload_n 64 dX0_init_63 rfl rfl ?_
  refine r_new (bc := 2) (bs := 14) 67 dX0_init_64 rfl n0_9 rfl ?_
  refine r_dup 68 dX0_init_67 rfl rfl ?_
  refine r_callI (bc := 2) (bs := 14) 71 dX0_init_68 rfl k0_11 (c_newSl (d := d + 1) (n := 39) (h := 38) rfl (by decide)) rfl rfl (Nat.le_of_ble_eq_true rfl) ?_
  refine r_aast 72 dX0_init_71 rfl rfl (by decide) (by decide) (by decide) (by decide) rfl (by decide) (by decide) rfl ?_
  rw [show (4 : Int32).toNatClampNeg = 4 by decide]
  refine r_iinc (1) 75 dX0_init_72 rfl rfl (by decide) (by decide) rfl ?_
  rw [show (4 : Int32) + 1 = 5 by decide]
  refine r_goto 50 dX0_init_75 (by decide) ?_
  refine r_iload_n 51 dX0_init_50 rfl rfl ?_
  refine r_aload_n 52 dX0_init_51 rfl rfl ?_
  refine r_getR 55 dX0_init_52 rfl f0_18 rfl rfl (by decide) (show gR _ 1 22 = some 24 by simp [gR_sI, gR_sR, gR_sQ, gR_sA, gR_zp, gQ_sI, gQ_sR, gQ_sQ, gQ_sA, gQ_zp, gR_hRow, gQ_hRow, gR_hSl, gQ_hSl, gR_hLi, gQ_hLi, h7_8, h0_3, h7_27]) ?_
  refine r_alenQ 7 56 dX0_init_55 rfl rfl (by decide) (by decide) (by decide) rfl ?_
  refine r_icmp_ge 59 78 dX0_init_56 rfl (by decide) (fun z => absurd z (show ¬ (7 : Int32) ≤ 5 by decide)) (fun _ => ?_)
  refine r_aload_n 60 dX0_init_59 rfl rfl ?_
  refine r_getR 63 dX0_init_60 rfl f0_18 rfl rfl (by decide) (show gR _ 1 22 = some 24 by simp [gR_sI, gR_sR, gR_sQ, gR_sA, gR_zp, gQ_sI, gQ_sR, gQ_sQ, gQ_sA, gQ_zp, gR_hRow, gQ_hRow, gR_hSl, gQ_hSl, gR_hLi, gQ_hLi, h7_8, h0_3, h7_27]) ?_
  refine r_iload_n 64 dX0_init_63 rfl rfl ?_
  refine r_new (bc := 1) (bs := 7) 67 dX0_init_64 rfl n0_9 rfl ?_
  refine r_dup 68 dX0_init_67 rfl rfl ?_
  refine r_callI (bc := 1) (bs := 7) 71 dX0_init_68 rfl k0_11 (c_newSl (d := d + 1) (n := 40) (h := 39) rfl (by decide)) rfl rfl (Nat.le_of_ble_eq_true rfl) ?_
  refine r_aast 72 dX0_init_71 rfl rfl (by decide) (by decide) (by decide) (by decide) rfl (by decide) (by decide) rfl ?_
  rw [show (5 : Int32).toNatClampNeg = 5 by decide]
  refine r_iinc (1) 75 dX0_init_72 rfl rfl (by decide) (by decide) rfl ?_
  rw [show (5 : Int32) + 1 = 6 by decide]
  refine r_goto 50 dX0_init_75 (by decide) ?_
  refine r_iload_n 51 dX0_init_50 rfl rfl ?_
  refine r_aload_n 52 dX0_init_51 rfl rfl ?_
  refine r_getR 55 dX0_init_52 rfl f0_18 rfl rfl (by decide) (show gR _ 1 22 = some 24 by simp [gR_sI, gR_sR, gR_sQ, gR_sA, gR_zp, gQ_sI, gQ_sR, gQ_sQ, gQ_sA, gQ_zp, gR_hRow, gQ_hRow, gR_hSl, gQ_hSl, gR_hLi, gQ_hLi, h7_8, h0_3, h7_27]) ?_
  refine r_alenQ 7 56 dX0_init_55 rfl rfl (by decide) (by decide) (by decide) rfl ?_
  refine r_icmp_ge 59 78 dX0_init_56 rfl (by decide) (fun z => absurd z (show ¬ (7 : Int32) ≤ 6 by decide)) (fun _ => ?_)
  refine r_aload_n 60 dX0_init_59 rfl rfl ?_
  refine r_getR 63 dX0_init_60 rfl f0_18 rfl rfl (by decide) (show gR _ 1 22 = some 24 by simp [gR_sI, gR_sR, gR_sQ, gR_sA, gR_zp, gQ_sI, gQ_sR, gQ_sQ, gQ_sA, gQ_zp, gR_hRow, gQ_hRow, gR_hSl, gQ_hSl, gR_hLi, gQ_hLi, h7_8, h0_3, h7_27]) ?_
  refine r_iload_n 64 dX0_init_63 rfl rfl ?_
  refine r_new (bc := 0) (bs := 0) 67 dX0_init_64 rfl n0_9 rfl ?_
  refine r_dup 68 dX0_init_67 rfl rfl ?_
  refine r_callI (bc := 0) (bs := 0) 71 dX0_init_68 rfl k0_11 (c_newSl (d := d + 1) (n := 41) (h := 40) rfl (by decide)) rfl rfl (Nat.le_of_ble_eq_true rfl) ?_
  refine r_aast 72 dX0_init_71 rfl rfl (by decide) (by decide) (by decide) (by decide) rfl (by decide) (by decide) rfl ?_
  rw [show (6 : Int32).toNatClampNeg = 6 by decide]
  refine r_iinc (1) 75 dX0_init_72 rfl rfl (by decide) (by decide) rfl ?_
  rw [show (6 : Int32) + 1 = 7 by decide]
  refine r_goto 50 dX0_init_75 (by decide) ?_
  refine r_iload_n 51 dX0_init_50 rfl rfl ?_
  refine r_aload_n 52 dX0_init_51 rfl rfl ?_
  refine r_getR 55 dX0_init_52 rfl f0_18 rfl rfl (by decide) (show gR _ 1 22 = some 24 by simp [gR_sI, gR_sR, gR_sQ, gR_sA, gR_zp, gQ_sI, gQ_sR, gQ_sQ, gQ_sA, gQ_zp, gR_hRow, gQ_hRow, gR_hSl, gQ_hSl, gR_hLi, gQ_hLi, h7_8, h0_3, h7_27]) ?_
  refine r_alenQ 7 56 dX0_init_55 rfl rfl (by decide) (by decide) (by decide) rfl ?_
  refine r_icmp_ge 59 78 dX0_init_56 rfl (by decide) (fun _ => ?_) (fun z => absurd (show (7 : Int32) ≤ 7 by decide) z)
  refine r_aload_n 79 dX0_init_78 rfl rfl ?_
  have hbo : BedOK (sQ (hSl 40 (zp (sQ (hSl 39 (zp (sQ (hSl 38 (zp (sQ (hSl 37 (zp (sQ (hSl 36 (zp (sQ (hSl 35 (zp (sQ (hSl 34 (zp (sR (h7_27 (zp (sR (hRow 25 26 (zp (sR (zp (sR (hSl 23 (zp E 23)) 0 22 (some 23)) 24) 1 22 (some 24)) 25)) 2 22 (some 25)) 27)) 3 22 (some 27)) 34)) 24 0 (some 34)) 35)) 24 1 (some 35)) 36)) 24 2 (some 36)) 37)) 24 3 (some 37)) 38)) 24 4 (some 38)) 39)) 24 5 (some 39)) 40)) 24 6 (some 40)) 41 22 := ⟨rfl, by simp [gR_sI, gR_sR, gR_sQ, gR_sA, gR_zp, gQ_sI, gQ_sR, gQ_sQ, gQ_sA, gQ_zp, gR_hRow, gQ_hRow, gR_hSl, gQ_hSl, gR_hLi, gQ_hLi, h7_8, h0_3, h7_27], by simp [gR_sI, gR_sR, gR_sQ, gR_sA, gR_zp, gQ_sI, gQ_sR, gQ_sQ, gQ_sA, gQ_zp, gR_hRow, gQ_hRow, gR_hSl, gQ_hSl, gR_hLi, gQ_hLi, h7_8, h0_3, h7_27], by simp [gR_sI, gR_sR, gR_sQ, gR_sA, gR_zp, gQ_sI, gQ_sR, gQ_sQ, gQ_sA, gQ_zp, gR_hRow, gQ_hRow, gR_hSl, gQ_hSl, gR_hLi, gQ_hLi, h7_8, h0_3, h7_27], by simp [gR_sI, gR_sR, gR_sQ, gR_sA, gR_zp, gQ_sI, gQ_sR, gQ_sQ, gQ_sA, gQ_zp, gR_hRow, gQ_hRow, gR_hSl, gQ_hSl, gR_hLi, gQ_hLi, h7_8, h0_3, h7_27], rfl, rfl, fun i hi => (by have hi7 : i = 0 ∨ i = 1 ∨ i = 2 ∨ i = 3 ∨ i = 4 ∨ i = 5 ∨ i = 6 := by omega
      rcases hi7 with z | z | z | z | z | z | z <;> subst z <;> exact ⟨by simp [gR_sI, gR_sR, gR_sQ, gR_sA, gR_zp, gQ_sI, gQ_sR, gQ_sQ, gQ_sA, gQ_zp, gR_hRow, gQ_hRow, gR_hSl, gQ_hSl, gR_hLi, gQ_hLi, h7_8, h0_3, h7_27], rfl⟩), ⟨rfl, by simp [gR_sI, gR_sR, gR_sQ, gR_sA, gR_zp, gQ_sI, gQ_sR, gQ_sQ, gQ_sA, gQ_zp, gR_hRow, gQ_hRow, gR_hSl, gQ_hSl, gR_hLi, gQ_hLi, h7_8, h0_3, h7_27], rfl, by decide, by decide, by decide⟩, ⟨rfl, by simp [gR_sI, gR_sR, gR_sQ, gR_sA, gR_zp, gQ_sI, gQ_sR, gQ_sQ, gQ_sA, gQ_zp, gR_hRow, gQ_hRow, gR_hSl, gQ_hSl, gR_hLi, gQ_hLi, h7_8, h0_3, h7_27], by simp [gR_sI, gR_sR, gR_sQ, gR_sA, gR_zp, gQ_sI, gQ_sR, gQ_sQ, gQ_sA, gQ_zp, gR_hRow, gQ_hRow, gR_hSl, gQ_hSl, gR_hLi, gQ_hLi, h7_8, h0_3, h7_27], by simp [gR_sI, gR_sR, gR_sQ, gR_sA, gR_zp, gQ_sI, gQ_sR, gQ_sQ, gQ_sA, gQ_zp, gR_hRow, gQ_hRow, gR_hSl, gQ_hSl, gR_hLi, gQ_hLi, h7_8, h0_3, h7_27], ⟨rfl, by simp [gR_sI, gR_sR, gR_sQ, gR_sA, gR_zp, gQ_sI, gQ_sR, gQ_sQ, gQ_sA, gQ_zp, gR_hRow, gQ_hRow, gR_hSl, gQ_hSl, gR_hLi, gQ_hLi, h7_8, h0_3, h7_27], rfl, by decide, by decide, by decide⟩, ⟨rfl, by simp [gR_sI, gR_sR, gR_sQ, gR_sA, gR_zp, gQ_sI, gQ_sR, gQ_sQ, gQ_sA, gQ_zp, gR_hRow, gQ_hRow, gR_hSl, gQ_hSl, gR_hLi, gQ_hLi, h7_8, h0_3, h7_27], rfl, by decide, by decide, by decide⟩, ⟨rfl, by simp [gR_sI, gR_sR, gR_sQ, gR_sA, gR_zp, gQ_sI, gQ_sR, gQ_sQ, gQ_sA, gQ_zp, gR_hRow, gQ_hRow, gR_hSl, gQ_hSl, gR_hLi, gQ_hLi, h7_8, h0_3, h7_27], rfl, by decide, by decide, by decide⟩, by decide⟩, by decide⟩
  refine r_callV 82 dX0_init_79 rfl k0_38 (c_X0_makeAnew (d := d) hbo) rfl rfl rfl (by decide) rfl (by decide) (Nat.le_of_ble_eq_true rfl) ?_
  exact r_vret dX0_init_82 rfl rfl rfl
