/-! ctor, further on -/
def h10_42 (E : HP) : HP := (sR (sI (sI (sI (sI E 1281 42 (0)) 1282 42 (0)) 1283 42 (0)) 1284 42 (0)) 1280 42 (some 43))
set_option maxRecDepth 20000 in
set_option maxHeartbeats 16000000 in
theorem c_new10_42 {d : Nat} {E : HP} : Cl yX10_init mX10_init (d + 0) 0 0 [.ref 42, .ref 43] E 45 (.inl none, h10_42 E, 45) := by
  refine Cl.of (by decide) rfl (fun _ => rfl) rfl rfl (Nat.le_of_ble_eq_true rfl) ?_
  show Sm _ _ _ _ _ 0 [some (.ref 42), some (.ref 43)] [] _ _
  refine r_aload_n 1 dX10_init_0 rfl rfl ?_
  refine r_objInit 4 dX10_init_1 rfl k10_1 w_oi w_oc (Nat.le_of_ble_eq_true rfl) ?_
  refine r_aload_n 5 dX10_init_4 rfl rfl ?_
  refine r_iconst (0) 6 dX10_init_5 rfl (by decide) ?_
  refine r_putI 9 dX10_init_6 rfl f10_7 rfl (by decide) ?_
  refine r_aload_n 10 dX10_init_9 rfl rfl ?_
  refine r_iconst (0) 11 dX10_init_10 rfl (by decide) ?_
  refine r_putI 14 dX10_init_11 rfl f10_13 rfl (by decide) ?_
  refine r_aload_n 15 dX10_init_14 rfl rfl ?_
  refine r_iconst (0) 16 dX10_init_15 rfl (by decide) ?_
  refine r_putI 19 dX10_init_16 rfl f10_16 rfl (by decide) ?_
  refine r_aload_n 20 dX10_init_19 rfl rfl ?_
  refine r_iconst (0) 21 dX10_init_20 rfl (by decide) ?_
  refine r_putI 24 dX10_init_21 rfl f10_19 rfl (by decide) ?_
  refine r_aload_n 25 dX10_init_24 rfl rfl ?_
  refine r_aload_n 26 dX10_init_25 rfl rfl ?_
  refine r_putR 29 dX10_init_26 rfl f10_22 rfl (Or.inl rfl) rfl (by decide) ?_
  exact r_vret dX10_init_29 rfl rfl rfl
def h5_41 (E : HP) : HP := (sR (sI (sI (sI (sR (h10_42 (hRow 43 44 (zp (zp E 42) 43))) 640 41 (some 42)) 642 41 (0)) 643 41 (-1)) 644 41 (0)) 641 41 (some 22))
set_option maxRecDepth 20000 in
set_option maxHeartbeats 16000000 in
theorem c_new5_41 {d : Nat} {E : HP} : Cl yX5_init mX5_init (d + 1) 3 6 [.ref 41, .ref 22] E 42 (.inl none, h5_41 E, 45) := by
  refine Cl.of (by decide) rfl (fun _ => rfl) rfl rfl (Nat.le_of_ble_eq_true rfl) ?_
  show Sm _ _ _ _ _ 0 [some (.ref 41), some (.ref 22)] [] _ _
  refine r_aload_n 1 dX5_init_0 rfl rfl ?_
  refine r_objInit 4 dX5_init_1 rfl k5_3 w_oi w_oc (Nat.le_of_ble_eq_true rfl) ?_
  refine r_aload_n 5 dX5_init_4 rfl rfl ?_
  refine r_new (bc := 2) (bs := 1) 8 dX5_init_5 rfl n5_9 rfl ?_
  refine r_dup 9 dX5_init_8 rfl rfl ?_
  refine r_new (bc := 1) (bs := 0) 12 dX5_init_9 rfl n5_11 rfl ?_
  refine r_dup 13 dX5_init_12 rfl rfl ?_
  refine r_iconst (0) 14 dX5_init_13 rfl (by decide) ?_
  refine r_callI (M := mX5_init) (pc := 14) (bc := 0) (bs := 0) 17 dX5_init_14 rfl k5_13 (c_newRow (d := d + 0) (n := 44) (h := 43) (l := 0) (x := 0) rfl (by decide) rfl (by decide) (by decide) (by decide)) rfl rfl (Nat.le_of_ble_eq_true rfl) ?_
  refine r_callI (M := mX5_init) (pc := 17) (bc := 0) (bs := 0) 20 dX5_init_17 rfl k5_16 (c_new10_42 (d := d + 0)) rfl rfl (Nat.le_of_ble_eq_true rfl) ?_
  refine r_putR 23 dX5_init_20 rfl f5_19 rfl (Or.inr ⟨rfl, rfl, ff5_19⟩) rfl (by decide) ?_
  refine r_aload_n 24 dX5_init_23 rfl rfl ?_
  refine r_iconst (0) 25 dX5_init_24 rfl (by decide) ?_
  refine r_putI 28 dX5_init_25 rfl f5_25 rfl (by decide) ?_
  refine r_aload_n 29 dX5_init_28 rfl rfl ?_
  refine r_iconst (-1) 30 dX5_init_29 rfl (by decide) ?_
  refine r_putI 33 dX5_init_30 rfl f5_29 rfl (by decide) ?_
  refine r_aload_n 34 dX5_init_33 rfl rfl ?_
  refine r_iconst (0) 35 dX5_init_34 rfl (by decide) ?_
  refine r_putI 38 dX5_init_35 rfl f5_32 rfl (by decide) ?_
  refine r_aload_n 39 dX5_init_38 rfl rfl ?_
  refine r_aload_n 40 dX5_init_39 rfl rfl ?_
  refine r_putR 43 dX5_init_40 rfl f5_35 rfl (Or.inl rfl) rfl (by decide) ?_
  exact r_vret dX5_init_43 rfl rfl rfl
def h4_46 (E : HP) : HP := (sI (sI (sI (sI (sI (sI (sR (hRow 49 50 (zp (sR (hRow 47 48 (zp E 47)) 512 46 (some 47)) 49)) 513 46 (some 49)) 514 46 (0)) 515 46 (0)) 516 46 (-1)) 517 46 (0)) 518 46 (0)) 519 46 (0))
set_option maxRecDepth 20000 in
set_option maxHeartbeats 16000000 in
theorem c_new4_46 {d : Nat} {E : HP} : Cl yX4_init mX4_init (d + 1) 4 16 [.ref 46] E 47 (.inl none, h4_46 E, 51) := by
  refine Cl.of (by decide) rfl (fun _ => rfl) rfl rfl (Nat.le_of_ble_eq_true rfl) ?_
  show Sm _ _ _ _ _ 0 [some (.ref 46)] [] _ _
  refine r_aload_n 1 dX4_init_0 rfl rfl ?_
  refine r_objInit 4 dX4_init_1 rfl k4_3 w_oi w_oc (Nat.le_of_ble_eq_true rfl) ?_
  refine r_aload_n 5 dX4_init_4 rfl rfl ?_
  refine r_new (bc := 3) (bs := 15) 8 dX4_init_5 rfl n4_9 rfl ?_
  refine r_dup 9 dX4_init_8 rfl rfl ?_
  refine r_bipush (7) 11 dX4_init_9 rfl (by decide) ?_
  refine r_callI (M := mX4_init) (pc := 11) (bc := 2) (bs := 8) 14 dX4_init_11 rfl k4_11 (c_newRow (d := d + 0) (n := 48) (h := 47) (l := 7) (x := 7) rfl (by decide) rfl (by decide) (by decide) (by decide)) rfl rfl (Nat.le_of_ble_eq_true rfl) ?_
  refine r_putR 17 dX4_init_14 rfl f4_14 rfl (Or.inr ⟨rfl, rfl, ff4_14⟩) rfl (by decide) ?_
  refine r_aload_n 18 dX4_init_17 rfl rfl ?_
  refine r_new (bc := 1) (bs := 7) 21 dX4_init_18 rfl n4_9 rfl ?_
  refine r_dup 22 dX4_init_21 rfl rfl ?_
  refine r_bipush (7) 24 dX4_init_22 rfl (by decide) ?_
  refine r_callI (M := mX4_init) (pc := 24) (bc := 0) (bs := 0) 27 dX4_init_24 rfl k4_11 (c_newRow (d := d + 0) (n := 50) (h := 49) (l := 7) (x := 7) rfl (by decide) rfl (by decide) (by decide) (by decide)) rfl rfl (Nat.le_of_ble_eq_true rfl) ?_
  refine r_putR 30 dX4_init_27 rfl f4_20 rfl (Or.inr ⟨rfl, rfl, ff4_20⟩) rfl (by decide) ?_
  refine r_aload_n 31 dX4_init_30 rfl rfl ?_
  refine r_iconst (0) 32 dX4_init_31 rfl (by decide) ?_
  refine r_putI 35 dX4_init_32 rfl f4_23 rfl (by decide) ?_
  refine r_aload_n 36 dX4_init_35 rfl rfl ?_
  refine r_iconst (0) 37 dX4_init_36 rfl (by decide) ?_
  refine r_putI 40 dX4_init_37 rfl f4_27 rfl (by decide) ?_
  refine r_aload_n 41 dX4_init_40 rfl rfl ?_
  refine r_iconst (-1) 42 dX4_init_41 rfl (by decide) ?_
  refine r_putI 45 dX4_init_42 rfl f4_30 rfl (by decide) ?_
  refine r_aload_n 46 dX4_init_45 rfl rfl ?_
  refine r_iconst (0) 47 dX4_init_46 rfl (by decide) ?_
  refine r_putI 50 dX4_init_47 rfl f4_33 rfl (by decide) ?_
  refine r_aload_n 51 dX4_init_50 rfl rfl ?_
  refine r_iconst (0) 52 dX4_init_51 rfl (by decide) ?_
  refine r_putI 55 dX4_init_52 rfl f4_36 rfl (by decide) ?_
  refine r_aload_n 56 dX4_init_55 rfl rfl ?_
  refine r_iconst (0) 57 dX4_init_56 rfl (by decide) ?_
  refine r_putZ 60 dX4_init_57 rfl f4_39 rfl (by decide) (by decide) ?_
  exact r_vret dX4_init_60 rfl rfl rfl
def h3_51 (E : HP) : HP := (sR (hRow 52 53 (zp (sI (sI E 386 51 (0)) 384 51 (40)) 52)) 385 51 (some 52))
set_option maxRecDepth 20000 in
set_option maxHeartbeats 16000000 in
theorem c_new3_51 {d : Nat} {E : HP} : Cl yX3_init mX3_init (d + 1) 2 121 [.ref 51, .int 40] E 52 (.inl none, h3_51 E, 54) := by
  refine Cl.of (by decide) rfl (fun _ => rfl) rfl rfl (Nat.le_of_ble_eq_true rfl) ?_
  show Sm _ _ _ _ _ 0 [some (.ref 51), some (.int 40)] [] _ _
  refine r_aload_n 1 dX3_init_0 rfl rfl ?_
  refine r_objInit 4 dX3_init_1 rfl k3_1 w_oi w_oc (Nat.le_of_ble_eq_true rfl) ?_
  refine r_aload_n 5 dX3_init_4 rfl rfl ?_
  refine r_iconst (0) 6 dX3_init_5 rfl (by decide) ?_
  refine r_putI 9 dX3_init_6 rfl f3_7 rfl (by decide) ?_
  refine r_aload_n 10 dX3_init_9 rfl rfl ?_
  refine r_iload_n 11 dX3_init_10 rfl rfl ?_
  refine r_putIF 14 dX3_init_11 rfl f3_13 ⟨rfl, ff3_13⟩ rfl (by decide) ?_
  refine r_aload_n 15 dX3_init_14 rfl rfl ?_
  refine r_new (bc := 1) (bs := 120) 18 dX3_init_15 rfl n3_16 rfl ?_
  refine r_dup 19 dX3_init_18 rfl rfl ?_
  refine r_iload_n 20 dX3_init_19 rfl rfl ?_
  refine r_iconst (3) 21 dX3_init_20 rfl (by decide) ?_
  refine r_imul 22 dX3_init_21 rfl ?_
  rw [show (40 : Int32) * 3 = 120 by decide]
  refine r_callI (M := mX3_init) (pc := 22) (bc := 0) (bs := 0) 25 dX3_init_22 rfl k3_18 (c_newRow (d := d + 0) (n := 53) (h := 52) (l := 120) (x := 120) rfl (by decide) rfl (by decide) (by decide) (by decide)) rfl rfl (Nat.le_of_ble_eq_true rfl) ?_
  refine r_putR 28 dX3_init_25 rfl f3_21 rfl (Or.inr ⟨rfl, rfl, ff3_21⟩) rfl (by decide) ?_
  exact r_vret dX3_init_28 rfl rfl rfl
def h3_54 (E : HP) : HP := (sR (hRow 55 56 (zp (sI (sI E 386 54 (0)) 384 54 (8)) 55)) 385 54 (some 55))
set_option maxRecDepth 20000 in
set_option maxHeartbeats 16000000 in
theorem c_new3_54 {d : Nat} {E : HP} : Cl yX3_init mX3_init (d + 1) 2 25 [.ref 54, .int 8] E 55 (.inl none, h3_54 E, 57) := by
  refine Cl.of (by decide) rfl (fun _ => rfl) rfl rfl (Nat.le_of_ble_eq_true rfl) ?_
  show Sm _ _ _ _ _ 0 [some (.ref 54), some (.int 8)] [] _ _
  refine r_aload_n 1 dX3_init_0 rfl rfl ?_
  refine r_objInit 4 dX3_init_1 rfl k3_1 w_oi w_oc (Nat.le_of_ble_eq_true rfl) ?_
  refine r_aload_n 5 dX3_init_4 rfl rfl ?_
  refine r_iconst (0) 6 dX3_init_5 rfl (by decide) ?_
  refine r_putI 9 dX3_init_6 rfl f3_7 rfl (by decide) ?_
  refine r_aload_n 10 dX3_init_9 rfl rfl ?_
  refine r_iload_n 11 dX3_init_10 rfl rfl ?_
  refine r_putIF 14 dX3_init_11 rfl f3_13 ⟨rfl, ff3_13⟩ rfl (by decide) ?_
  refine r_aload_n 15 dX3_init_14 rfl rfl ?_
  refine r_new (bc := 1) (bs := 24) 18 dX3_init_15 rfl n3_16 rfl ?_
  refine r_dup 19 dX3_init_18 rfl rfl ?_
  refine r_iload_n 20 dX3_init_19 rfl rfl ?_
  refine r_iconst (3) 21 dX3_init_20 rfl (by decide) ?_
  refine r_imul 22 dX3_init_21 rfl ?_
  rw [show (8 : Int32) * 3 = 24 by decide]
  refine r_callI (M := mX3_init) (pc := 22) (bc := 0) (bs := 0) 25 dX3_init_22 rfl k3_18 (c_newRow (d := d + 0) (n := 56) (h := 55) (l := 24) (x := 24) rfl (by decide) rfl (by decide) (by decide) (by decide)) rfl rfl (Nat.le_of_ble_eq_true rfl) ?_
  refine r_putR 28 dX3_init_25 rfl f3_21 rfl (Or.inr ⟨rfl, rfl, ff3_21⟩) rfl (by decide) ?_
  exact r_vret dX3_init_28 rfl rfl rfl
def h9_45 (E : HP) : HP := (sR (hRow 57 58 (zp (sR (h3_54 (zp (sR (h3_51 (zp (sR (h4_46 (zp E 46)) 1152 45 (some 46)) 51)) 1153 45 (some 51)) 54)) 1154 45 (some 54)) 57)) 1155 45 (some 57))
set_option maxRecDepth 20000 in
set_option maxHeartbeats 16000000 in
theorem c_new9_45 {d : Nat} {E : HP} : Cl yX9_init mX9_init (d + 2) 13 180 [.ref 45] E 46 (.inl none, h9_45 E, 59) := by
  refine Cl.of (by decide) rfl (fun _ => rfl) rfl rfl (Nat.le_of_ble_eq_true rfl) ?_
  show Sm _ _ _ _ _ 0 [some (.ref 45)] [] _ _
  refine r_aload_n 1 dX9_init_0 rfl rfl ?_
  refine r_objInit 4 dX9_init_1 rfl k9_3 w_oi w_oc (Nat.le_of_ble_eq_true rfl) ?_
  refine r_aload_n 5 dX9_init_4 rfl rfl ?_
  refine r_new (bc := 12) (bs := 172) 8 dX9_init_5 rfl n9_9 rfl ?_
  refine r_dup 9 dX9_init_8 rfl rfl ?_
  refine r_callI (M := mX9_init) (pc := 9) (bc := 8) (bs := 156) 12 dX9_init_9 rfl k9_11 (c_new4_46 (d := d)) rfl rfl (Nat.le_of_ble_eq_true rfl) ?_
  refine r_putR 15 dX9_init_12 rfl f9_12 rfl (Or.inr ⟨rfl, rfl, ff9_12⟩) rfl (by decide) ?_
  refine r_aload_n 16 dX9_init_15 rfl rfl ?_
  refine r_new (bc := 7) (bs := 153) 19 dX9_init_16 rfl n9_18 rfl ?_
  refine r_dup 20 dX9_init_19 rfl rfl ?_
  refine r_bipush (40) 22 dX9_init_20 rfl (by decide) ?_
  refine r_callI (M := mX9_init) (pc := 22) (bc := 5) (bs := 32) 25 dX9_init_22 rfl k9_20 (c_new3_51 (d := d)) rfl rfl (Nat.le_of_ble_eq_true rfl) ?_
  refine r_putR 28 dX9_init_25 rfl f9_23 rfl (Or.inr ⟨rfl, rfl, ff9_23⟩) rfl (by decide) ?_
  refine r_aload_n 29 dX9_init_28 rfl rfl ?_
  refine r_new (bc := 4) (bs := 29) 32 dX9_init_29 rfl n9_18 rfl ?_
  refine r_dup 33 dX9_init_32 rfl rfl ?_
  refine r_bipush (8) 35 dX9_init_33 rfl (by decide) ?_
  refine r_callI (M := mX9_init) (pc := 35) (bc := 2) (bs := 4) 38 dX9_init_35 rfl k9_20 (c_new3_54 (d := d)) rfl rfl (Nat.le_of_ble_eq_true rfl) ?_
  refine r_putR 41 dX9_init_38 rfl f9_27 rfl (Or.inr ⟨rfl, rfl, ff9_27⟩) rfl (by decide) ?_
  refine r_aload_n 42 dX9_init_41 rfl rfl ?_
  refine r_new (bc := 1) (bs := 3) 45 dX9_init_42 rfl n9_30 rfl ?_
  refine r_dup 46 dX9_init_45 rfl rfl ?_
  refine r_iconst (3) 47 dX9_init_46 rfl (by decide) ?_
  refine r_callI (M := mX9_init) (pc := 47) (bc := 0) (bs := 0) 50 dX9_init_47 rfl k9_32 (c_newRow (d := d + 1) (n := 58) (h := 57) (l := 3) (x := 3) rfl (by decide) rfl (by decide) (by decide) (by decide)) rfl rfl (Nat.le_of_ble_eq_true rfl) ?_
  refine r_putR 53 dX9_init_50 rfl f9_33 rfl (Or.inr ⟨rfl, rfl, ff9_33⟩) rfl (by decide) ?_
  exact r_vret dX9_init_53 rfl rfl rfl
def h4_60 (E : HP) : HP := (sI (sI (sI (sI (sI (sI (sR (hRow 63 64 (zp (sR (hRow 61 62 (zp E 61)) 512 60 (some 61)) 63)) 513 60 (some 63)) 514 60 (0)) 515 60 (0)) 516 60 (-1)) 517 60 (0)) 518 60 (0)) 519 60 (0))
set_option maxRecDepth 20000 in
set_option maxHeartbeats 16000000 in
theorem c_new4_60 {d : Nat} {E : HP} : Cl yX4_init mX4_init (d + 1) 4 16 [.ref 60] E 61 (.inl none, h4_60 E, 65) := by
  refine Cl.of (by decide) rfl (fun _ => rfl) rfl rfl (Nat.le_of_ble_eq_true rfl) ?_
  show Sm _ _ _ _ _ 0 [some (.ref 60)] [] _ _
  refine r_aload_n 1 dX4_init_0 rfl rfl ?_
  refine r_objInit 4 dX4_init_1 rfl k4_3 w_oi w_oc (Nat.le_of_ble_eq_true rfl) ?_
  refine r_aload_n 5 dX4_init_4 rfl rfl ?_
  refine r_new (bc := 3) (bs := 15) 8 dX4_init_5 rfl n4_9 rfl ?_
  refine r_dup 9 dX4_init_8 rfl rfl ?_
  refine r_bipush (7) 11 dX4_init_9 rfl (by decide) ?_
  refine r_callI (M := mX4_init) (pc := 11) (bc := 2) (bs := 8) 14 dX4_init_11 rfl k4_11 (c_newRow (d := d + 0) (n := 62) (h := 61) (l := 7) (x := 7) rfl (by decide) rfl (by decide) (by decide) (by decide)) rfl rfl (Nat.le_of_ble_eq_true rfl) ?_
  refine r_putR 17 dX4_init_14 rfl f4_14 rfl (Or.inr ⟨rfl, rfl, ff4_14⟩) rfl (by decide) ?_
  refine r_aload_n 18 dX4_init_17 rfl rfl ?_
  refine r_new (bc := 1) (bs := 7) 21 dX4_init_18 rfl n4_9 rfl ?_
  refine r_dup 22 dX4_init_21 rfl rfl ?_
  refine r_bipush (7) 24 dX4_init_22 rfl (by decide) ?_
  refine r_callI (M := mX4_init) (pc := 24) (bc := 0) (bs := 0) 27 dX4_init_24 rfl k4_11 (c_newRow (d := d + 0) (n := 64) (h := 63) (l := 7) (x := 7) rfl (by decide) rfl (by decide) (by decide) (by decide)) rfl rfl (Nat.le_of_ble_eq_true rfl) ?_
  refine r_putR 30 dX4_init_27 rfl f4_20 rfl (Or.inr ⟨rfl, rfl, ff4_20⟩) rfl (by decide) ?_
  refine r_aload_n 31 dX4_init_30 rfl rfl ?_
  refine r_iconst (0) 32 dX4_init_31 rfl (by decide) ?_
  refine r_putI 35 dX4_init_32 rfl f4_23 rfl (by decide) ?_
  refine r_aload_n 36 dX4_init_35 rfl rfl ?_
  refine r_iconst (0) 37 dX4_init_36 rfl (by decide) ?_
  refine r_putI 40 dX4_init_37 rfl f4_27 rfl (by decide) ?_
  refine r_aload_n 41 dX4_init_40 rfl rfl ?_
  refine r_iconst (-1) 42 dX4_init_41 rfl (by decide) ?_
  refine r_putI 45 dX4_init_42 rfl f4_30 rfl (by decide) ?_
  refine r_aload_n 46 dX4_init_45 rfl rfl ?_
  refine r_iconst (0) 47 dX4_init_46 rfl (by decide) ?_
  refine r_putI 50 dX4_init_47 rfl f4_33 rfl (by decide) ?_
  refine r_aload_n 51 dX4_init_50 rfl rfl ?_
  refine r_iconst (0) 52 dX4_init_51 rfl (by decide) ?_
  refine r_putI 55 dX4_init_52 rfl f4_36 rfl (by decide) ?_
  refine r_aload_n 56 dX4_init_55 rfl rfl ?_
  refine r_iconst (0) 57 dX4_init_56 rfl (by decide) ?_
  refine r_putZ 60 dX4_init_57 rfl f4_39 rfl (by decide) (by decide) ?_
  exact r_vret dX4_init_60 rfl rfl rfl
def h3_65 (E : HP) : HP := (sR (hRow 66 67 (zp (sI (sI E 386 65 (0)) 384 65 (40)) 66)) 385 65 (some 66))
set_option maxRecDepth 20000 in
set_option maxHeartbeats 16000000 in
theorem c_new3_65 {d : Nat} {E : HP} : Cl yX3_init mX3_init (d + 1) 2 121 [.ref 65, .int 40] E 66 (.inl none, h3_65 E, 68) := by
  refine Cl.of (by decide) rfl (fun _ => rfl) rfl rfl (Nat.le_of_ble_eq_true rfl) ?_
  show Sm _ _ _ _ _ 0 [some (.ref 65), some (.int 40)] [] _ _
  refine r_aload_n 1 dX3_init_0 rfl rfl ?_
  refine r_objInit 4 dX3_init_1 rfl k3_1 w_oi w_oc (Nat.le_of_ble_eq_true rfl) ?_
  refine r_aload_n 5 dX3_init_4 rfl rfl ?_
  refine r_iconst (0) 6 dX3_init_5 rfl (by decide) ?_
  refine r_putI 9 dX3_init_6 rfl f3_7 rfl (by decide) ?_
  refine r_aload_n 10 dX3_init_9 rfl rfl ?_
  refine r_iload_n 11 dX3_init_10 rfl rfl ?_
  refine r_putIF 14 dX3_init_11 rfl f3_13 ⟨rfl, ff3_13⟩ rfl (by decide) ?_
  refine r_aload_n 15 dX3_init_14 rfl rfl ?_
  refine r_new (bc := 1) (bs := 120) 18 dX3_init_15 rfl n3_16 rfl ?_
  refine r_dup 19 dX3_init_18 rfl rfl ?_
  refine r_iload_n 20 dX3_init_19 rfl rfl ?_
  refine r_iconst (3) 21 dX3_init_20 rfl (by decide) ?_
  refine r_imul 22 dX3_init_21 rfl ?_
  rw [show (40 : Int32) * 3 = 120 by decide]
  refine r_callI (M := mX3_init) (pc := 22) (bc := 0) (bs := 0) 25 dX3_init_22 rfl k3_18 (c_newRow (d := d + 0) (n := 67) (h := 66) (l := 120) (x := 120) rfl (by decide) rfl (by decide) (by decide) (by decide)) rfl rfl (Nat.le_of_ble_eq_true rfl) ?_
  refine r_putR 28 dX3_init_25 rfl f3_21 rfl (Or.inr ⟨rfl, rfl, ff3_21⟩) rfl (by decide) ?_
  exact r_vret dX3_init_28 rfl rfl rfl
def h3_68 (E : HP) : HP := (sR (hRow 69 70 (zp (sI (sI E 386 68 (0)) 384 68 (8)) 69)) 385 68 (some 69))
set_option maxRecDepth 20000 in
set_option maxHeartbeats 16000000 in
theorem c_new3_68 {d : Nat} {E : HP} : Cl yX3_init mX3_init (d + 1) 2 25 [.ref 68, .int 8] E 69 (.inl none, h3_68 E, 71) := by
  refine Cl.of (by decide) rfl (fun _ => rfl) rfl rfl (Nat.le_of_ble_eq_true rfl) ?_
  show Sm _ _ _ _ _ 0 [some (.ref 68), some (.int 8)] [] _ _
  refine r_aload_n 1 dX3_init_0 rfl rfl ?_
  refine r_objInit 4 dX3_init_1 rfl k3_1 w_oi w_oc (Nat.le_of_ble_eq_true rfl) ?_
  refine r_aload_n 5 dX3_init_4 rfl rfl ?_
  refine r_iconst (0) 6 dX3_init_5 rfl (by decide) ?_
  refine r_putI 9 dX3_init_6 rfl f3_7 rfl (by decide) ?_
  refine r_aload_n 10 dX3_init_9 rfl rfl ?_
  refine r_iload_n 11 dX3_init_10 rfl rfl ?_
  refine r_putIF 14 dX3_init_11 rfl f3_13 ⟨rfl, ff3_13⟩ rfl (by decide) ?_
  refine r_aload_n 15 dX3_init_14 rfl rfl ?_
  refine r_new (bc := 1) (bs := 24) 18 dX3_init_15 rfl n3_16 rfl ?_
  refine r_dup 19 dX3_init_18 rfl rfl ?_
  refine r_iload_n 20 dX3_init_19 rfl rfl ?_
  refine r_iconst (3) 21 dX3_init_20 rfl (by decide) ?_
  refine r_imul 22 dX3_init_21 rfl ?_
  rw [show (8 : Int32) * 3 = 24 by decide]
  refine r_callI (M := mX3_init) (pc := 22) (bc := 0) (bs := 0) 25 dX3_init_22 rfl k3_18 (c_newRow (d := d + 0) (n := 70) (h := 69) (l := 24) (x := 24) rfl (by decide) rfl (by decide) (by decide) (by decide)) rfl rfl (Nat.le_of_ble_eq_true rfl) ?_
  refine r_putR 28 dX3_init_25 rfl f3_21 rfl (Or.inr ⟨rfl, rfl, ff3_21⟩) rfl (by decide) ?_
  exact r_vret dX3_init_28 rfl rfl rfl
def h9_59 (E : HP) : HP := (sR (hRow 71 72 (zp (sR (h3_68 (zp (sR (h3_65 (zp (sR (h4_60 (zp E 60)) 1152 59 (some 60)) 65)) 1153 59 (some 65)) 68)) 1154 59 (some 68)) 71)) 1155 59 (some 71))
set_option maxRecDepth 20000 in
set_option maxHeartbeats 16000000 in
theorem c_new9_59 {d : Nat} {E : HP} : Cl yX9_init mX9_init (d + 2) 13 180 [.ref 59] E 60 (.inl none, h9_59 E, 73) := by
  refine Cl.of (by decide) rfl (fun _ => rfl) rfl rfl (Nat.le_of_ble_eq_true rfl) ?_
  show Sm _ _ _ _ _ 0 [some (.ref 59)] [] _ _
  refine r_aload_n 1 dX9_init_0 rfl rfl ?_
  refine r_objInit 4 dX9_init_1 rfl k9_3 w_oi w_oc (Nat.le_of_ble_eq_true rfl) ?_
  refine r_aload_n 5 dX9_init_4 rfl rfl ?_
  refine r_new (bc := 12) (bs := 172) 8 dX9_init_5 rfl n9_9 rfl ?_
  refine r_dup 9 dX9_init_8 rfl rfl ?_
  refine r_callI (M := mX9_init) (pc := 9) (bc := 8) (bs := 156) 12 dX9_init_9 rfl k9_11 (c_new4_60 (d := d)) rfl rfl (Nat.le_of_ble_eq_true rfl) ?_
  refine r_putR 15 dX9_init_12 rfl f9_12 rfl (Or.inr ⟨rfl, rfl, ff9_12⟩) rfl (by decide) ?_
  refine r_aload_n 16 dX9_init_15 rfl rfl ?_
  refine r_new (bc := 7) (bs := 153) 19 dX9_init_16 rfl n9_18 rfl ?_
  refine r_dup 20 dX9_init_19 rfl rfl ?_
  refine r_bipush (40) 22 dX9_init_20 rfl (by decide) ?_
  refine r_callI (M := mX9_init) (pc := 22) (bc := 5) (bs := 32) 25 dX9_init_22 rfl k9_20 (c_new3_65 (d := d)) rfl rfl (Nat.le_of_ble_eq_true rfl) ?_
  refine r_putR 28 dX9_init_25 rfl f9_23 rfl (Or.inr ⟨rfl, rfl, ff9_23⟩) rfl (by decide) ?_
  refine r_aload_n 29 dX9_init_28 rfl rfl ?_
  refine r_new (bc := 4) (bs := 29) 32 dX9_init_29 rfl n9_18 rfl ?_
  refine r_dup 33 dX9_init_32 rfl rfl ?_
  refine r_bipush (8) 35 dX9_init_33 rfl (by decide) ?_
  refine r_callI (M := mX9_init) (pc := 35) (bc := 2) (bs := 4) 38 dX9_init_35 rfl k9_20 (c_new3_68 (d := d)) rfl rfl (Nat.le_of_ble_eq_true rfl) ?_
  refine r_putR 41 dX9_init_38 rfl f9_27 rfl (Or.inr ⟨rfl, rfl, ff9_27⟩) rfl (by decide) ?_
  refine r_aload_n 42 dX9_init_41 rfl rfl ?_
  refine r_new (bc := 1) (bs := 3) 45 dX9_init_42 rfl n9_30 rfl ?_
  refine r_dup 46 dX9_init_45 rfl rfl ?_
  refine r_iconst (3) 47 dX9_init_46 rfl (by decide) ?_
  refine r_callI (M := mX9_init) (pc := 47) (bc := 0) (bs := 0) 50 dX9_init_47 rfl k9_32 (c_newRow (d := d + 1) (n := 72) (h := 71) (l := 3) (x := 3) rfl (by decide) rfl (by decide) (by decide) (by decide)) rfl rfl (Nat.le_of_ble_eq_true rfl) ?_
  refine r_putR 53 dX9_init_50 rfl f9_33 rfl (Or.inr ⟨rfl, rfl, ff9_33⟩) rfl (by decide) ?_
  exact r_vret dX9_init_53 rfl rfl rfl
def h4_75 (E : HP) : HP := (sI (sI (sI (sI (sI (sI (sR (hRow 78 79 (zp (sR (hRow 76 77 (zp E 76)) 512 75 (some 76)) 78)) 513 75 (some 78)) 514 75 (0)) 515 75 (0)) 516 75 (-1)) 517 75 (0)) 518 75 (0)) 519 75 (0))
set_option maxRecDepth 20000 in
set_option maxHeartbeats 16000000 in
theorem c_new4_75 {d : Nat} {E : HP} : Cl yX4_init mX4_init (d + 1) 4 16 [.ref 75] E 76 (.inl none, h4_75 E, 80) := by
  refine Cl.of (by decide) rfl (fun _ => rfl) rfl rfl (Nat.le_of_ble_eq_true rfl) ?_
  show Sm _ _ _ _ _ 0 [some (.ref 75)] [] _ _
  refine r_aload_n 1 dX4_init_0 rfl rfl ?_
  refine r_objInit 4 dX4_init_1 rfl k4_3 w_oi w_oc (Nat.le_of_ble_eq_true rfl) ?_
  refine r_aload_n 5 dX4_init_4 rfl rfl ?_
  refine r_new (bc := 3) (bs := 15) 8 dX4_init_5 rfl n4_9 rfl ?_
  refine r_dup 9 dX4_init_8 rfl rfl ?_
  refine r_bipush (7) 11 dX4_init_9 rfl (by decide) ?_
  refine r_callI (M := mX4_init) (pc := 11) (bc := 2) (bs := 8) 14 dX4_init_11 rfl k4_11 (c_newRow (d := d + 0) (n := 77) (h := 76) (l := 7) (x := 7) rfl (by decide) rfl (by decide) (by decide) (by decide)) rfl rfl (Nat.le_of_ble_eq_true rfl) ?_
  refine r_putR 17 dX4_init_14 rfl f4_14 rfl (Or.inr ⟨rfl, rfl, ff4_14⟩) rfl (by decide) ?_
  refine r_aload_n 18 dX4_init_17 rfl rfl ?_
  refine r_new (bc := 1) (bs := 7) 21 dX4_init_18 rfl n4_9 rfl ?_
  refine r_dup 22 dX4_init_21 rfl rfl ?_
  refine r_bipush (7) 24 dX4_init_22 rfl (by decide) ?_
  refine r_callI (M := mX4_init) (pc := 24) (bc := 0) (bs := 0) 27 dX4_init_24 rfl k4_11 (c_newRow (d := d + 0) (n := 79) (h := 78) (l := 7) (x := 7) rfl (by decide) rfl (by decide) (by decide) (by decide)) rfl rfl (Nat.le_of_ble_eq_true rfl) ?_
  refine r_putR 30 dX4_init_27 rfl f4_20 rfl (Or.inr ⟨rfl, rfl, ff4_20⟩) rfl (by decide) ?_
  refine r_aload_n 31 dX4_init_30 rfl rfl ?_
  refine r_iconst (0) 32 dX4_init_31 rfl (by decide) ?_
  refine r_putI 35 dX4_init_32 rfl f4_23 rfl (by decide) ?_
  refine r_aload_n 36 dX4_init_35 rfl rfl ?_
  refine r_iconst (0) 37 dX4_init_36 rfl (by decide) ?_
  refine r_putI 40 dX4_init_37 rfl f4_27 rfl (by decide) ?_
  refine r_aload_n 41 dX4_init_40 rfl rfl ?_
  refine r_iconst (-1) 42 dX4_init_41 rfl (by decide) ?_
  refine r_putI 45 dX4_init_42 rfl f4_30 rfl (by decide) ?_
  refine r_aload_n 46 dX4_init_45 rfl rfl ?_
  refine r_iconst (0) 47 dX4_init_46 rfl (by decide) ?_
  refine r_putI 50 dX4_init_47 rfl f4_33 rfl (by decide) ?_
  refine r_aload_n 51 dX4_init_50 rfl rfl ?_
  refine r_iconst (0) 52 dX4_init_51 rfl (by decide) ?_
  refine r_putI 55 dX4_init_52 rfl f4_36 rfl (by decide) ?_
  refine r_aload_n 56 dX4_init_55 rfl rfl ?_
  refine r_iconst (0) 57 dX4_init_56 rfl (by decide) ?_
  refine r_putZ 60 dX4_init_57 rfl f4_39 rfl (by decide) (by decide) ?_
  exact r_vret dX4_init_60 rfl rfl rfl
