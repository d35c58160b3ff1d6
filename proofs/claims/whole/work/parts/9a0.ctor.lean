/-! ctor, further on -/
def h0_3 (E : HP) : HP := (beAnew 3 (sQ (hSl 21 (zp (sQ (hSl 20 (zp (sQ (hSl 19 (zp (sQ (hSl 18 (zp (sQ (hSl 17 (zp (sQ (hSl 16 (zp (sQ (hSl 15 (zp (sR (h7_8 (zp (sR (hRow 6 7 (zp (sR (zp (sR (hSl 4 (zp E 4)) 0 3 (some 4)) 5) 1 3 (some 5)) 6)) 2 3 (some 6)) 8)) 3 3 (some 8)) 15)) 5 0 (some 15)) 16)) 5 1 (some 16)) 17)) 5 2 (some 17)) 18)) 5 3 (some 18)) 19)) 5 4 (some 19)) 20)) 5 5 (some 20)) 21)) 5 6 (some 21)))
set_option maxRecDepth 20000 in
set_option maxHeartbeats 16000000 in
theorem c_new0_3 {d : Nat} {E : HP} : Cl yX0_init mX0_init (d + 2) 18 725 [.ref 3] E 4 (.inl none, h0_3 E, 22) := by
  refine Cl.of (by decide) rfl (fun _ => rfl) rfl rfl (Nat.le_of_ble_eq_true rfl) ?_
  show Sm _ _ _ _ _ 0 [some (.ref 3), none] [] _ _
  refine r_aload_n 1 dX0_init_0 rfl rfl ?_
  refine r_objInit 4 dX0_init_1 rfl k0_3 w_oi w_oc (Nat.le_of_ble_eq_true rfl) ?_
  refine r_aload_n 5 dX0_init_4 rfl rfl ?_
  refine r_new (bc := 17) (bs := 718) 8 dX0_init_5 rfl n0_9 rfl ?_
  refine r_dup 9 dX0_init_8 rfl rfl ?_
  refine r_callI (M := mX0_init) (pc := 9) (bc := 17) (bs := 718) 12 dX0_init_9 rfl k0_11 (c_newSl (d := d + 1) (n := 5) (h := 4) rfl (by decide)) rfl rfl (Nat.le_of_ble_eq_true rfl) ?_
  refine r_putR 15 dX0_init_12 rfl f0_12 rfl (Or.inr ⟨rfl, rfl, ff0_12⟩) rfl (by decide) ?_
  refine r_aload_n 16 dX0_init_15 rfl rfl ?_
  refine r_bipush (7) 18 dX0_init_16 rfl (by decide) ?_
  refine r_newQ (bc := 16) (bs := 711) 21 dX0_init_18 rfl rfl (by decide) (by decide) (by decide) (by decide) (by decide) nl0_9 ?_
  refine r_putR 24 dX0_init_21 rfl f0_18 rfl (Or.inr ⟨rfl, rfl, ff0_18⟩) rfl (by decide) ?_
  refine r_aload_n 25 dX0_init_24 rfl rfl ?_
  refine r_new (bc := 15) (bs := 710) 28 dX0_init_25 rfl n0_22 rfl ?_
  refine r_dup 29 dX0_init_28 rfl rfl ?_
  refine r_bipush (7) 31 dX0_init_29 rfl (by decide) ?_
  refine r_callI (M := mX0_init) (pc := 31) (bc := 14) (bs := 703) 34 dX0_init_31 rfl k0_24 (c_newRow (d := d + 1) (n := 7) (h := 6) (l := 7) (x := 7) rfl (by decide) rfl (by decide) (by decide) (by decide)) rfl rfl (Nat.le_of_ble_eq_true rfl) ?_
  refine r_putR 37 dX0_init_34 rfl f0_27 rfl (Or.inr ⟨rfl, rfl, ff0_27⟩) rfl (by decide) ?_
  refine r_aload_n 38 dX0_init_37 rfl rfl ?_
  refine r_new (bc := 13) (bs := 699) 41 dX0_init_38 rfl n0_31 rfl ?_
  refine r_dup 42 dX0_init_41 rfl rfl ?_
  refine r_callI (M := mX0_init) (pc := 42) (bc := 7) (bs := 49) 45 dX0_init_42 rfl k0_33 (c_new7_8 (d := d)) rfl rfl (Nat.le_of_ble_eq_true rfl) ?_
  refine r_putR 48 dX0_init_45 rfl f0_34 rfl (Or.inr ⟨rfl, rfl, ff0_34⟩) rfl (by decide) ?_
  refine r_iconst (0) 49 dX0_init_48 rfl (by decide) ?_
  refine r_istore_n 50 dX0_init_49 rfl (by decide) rfl ?_
  refine r_iload_n 51 dX0_init_50 rfl rfl ?_
  refine r_aload_n 52 dX0_init_51 rfl rfl ?_
  refine r_getR 55 dX0_init_52 rfl f0_18 rfl rfl (by decide) (show gR _ 1 3 = some 5 by simp [gR_sI, gR_sR, gR_sQ, gR_sA, gR_zp, gQ_sI, gQ_sR, gQ_sQ, gQ_sA, gQ_zp, gR_hRow, gQ_hRow, gR_hSl, gQ_hSl, gR_hLi, gQ_hLi, h7_8]) ?_
  refine r_alenQ 7 56 dX0_init_55 rfl rfl (by decide) (by decide) (by decide) rfl ?_
  refine r_icmp_ge 59 78 dX0_init_56 rfl (by decide) (fun z => absurd z (show ¬ (7 : Int32) ≤ 0 by decide)) (fun _ => ?_)
  refine r_aload_n 60 dX0_init_59 rfl rfl ?_
  refine r_getR 63 dX0_init_60 rfl f0_18 rfl rfl (by decide) (show gR _ 1 3 = some 5 by simp [gR_sI, gR_sR, gR_sQ, gR_sA, gR_zp, gQ_sI, gQ_sR, gQ_sQ, gQ_sA, gQ_zp, gR_hRow, gQ_hRow, gR_hSl, gQ_hSl, gR_hLi, gQ_hLi, h7_8]) ?_
  refine r_iload_n 64 dX0_init_63 rfl rfl ?_
  refine r_new (bc := 6) (bs := 42) 67 dX0_init_64 rfl n0_9 rfl ?_
  refine r_dup 68 dX0_init_67 rfl rfl ?_
  refine r_callI (M := mX0_init) (pc := 68) (bc := 6) (bs := 42) 71 dX0_init_68 rfl k0_11 (c_newSl (d := d + 1) (n := 16) (h := 15) rfl (by decide)) rfl rfl (Nat.le_of_ble_eq_true rfl) ?_
  refine r_aast 72 dX0_init_71 rfl rfl (by decide) (by decide) (by decide) (by unfold vp_in; decide) rfl (by decide) (by decide) rfl ?_
  rw [show (0 : Int32).toNatClampNeg = 0 by decide]
  refine r_iinc (1) 75 dX0_init_72 rfl rfl (by decide) (by decide) rfl ?_
  rw [show (0 : Int32) + 1 = 1 by decide]
  refine r_goto 50 dX0_init_75 (by decide) ?_
  refine r_iload_n 51 dX0_init_50 rfl rfl ?_
  refine r_aload_n 52 dX0_init_51 rfl rfl ?_
  refine r_getR 55 dX0_init_52 rfl f0_18 rfl rfl (by decide) (show gR _ 1 3 = some 5 by simp [gR_sI, gR_sR, gR_sQ, gR_sA, gR_zp, gQ_sI, gQ_sR, gQ_sQ, gQ_sA, gQ_zp, gR_hRow, gQ_hRow, gR_hSl, gQ_hSl, gR_hLi, gQ_hLi, h7_8]) ?_
  refine r_alenQ 7 56 dX0_init_55 rfl rfl (by decide) (by decide) (by decide) rfl ?_
  refine r_icmp_ge 59 78 dX0_init_56 rfl (by decide) (fun z => absurd z (show ¬ (7 : Int32) ≤ 1 by decide)) (fun _ => ?_)
  refine r_aload_n 60 dX0_init_59 rfl rfl ?_
  refine r_getR 63 dX0_init_60 rfl f0_18 rfl rfl (by decide) (show gR _ 1 3 = some 5 by simp [gR_sI, gR_sR, gR_sQ, gR_sA, gR_zp, gQ_sI, gQ_sR, gQ_sQ, gQ_sA, gQ_zp, gR_hRow, gQ_hRow, gR_hSl, gQ_hSl, gR_hLi, gQ_hLi, h7_8]) ?_
  refine r_iload_n 64 dX0_init_63 rfl rfl ?_
  refine r_new (bc := 5) (bs := 35) 67 dX0_init_64 rfl n0_9 rfl ?_
  refine r_dup 68 dX0_init_67 rfl rfl ?_
  refine r_callI (M := mX0_init) (pc := 68) (bc := 5) (bs := 35) 71 dX0_init_68 rfl k0_11 (c_newSl (d := d + 1) (n := 17) (h := 16) rfl (by decide)) rfl rfl (Nat.le_of_ble_eq_true rfl) ?_
  refine r_aast 72 dX0_init_71 rfl rfl (by decide) (by decide) (by decide) (by unfold vp_in; decide) rfl (by decide) (by decide) rfl ?_
  rw [show (1 : Int32).toNatClampNeg = 1 by decide]
  refine r_iinc (1) 75 dX0_init_72 rfl rfl (by decide) (by decide) rfl ?_
  rw [show (1 : Int32) + 1 = 2 by decide]
  refine r_goto 50 dX0_init_75 (by decide) ?_
  refine r_iload_n 51 dX0_init_50 rfl rfl ?_
  refine r_aload_n 52 dX0_init_51 rfl rfl ?_
  refine r_getR 55 dX0_init_52 rfl f0_18 rfl rfl (by decide) (show gR _ 1 3 = some 5 by simp [gR_sI, gR_sR, gR_sQ, gR_sA, gR_zp, gQ_sI, gQ_sR, gQ_sQ, gQ_sA, gQ_zp, gR_hRow, gQ_hRow, gR_hSl, gQ_hSl, gR_hLi, gQ_hLi, h7_8]) ?_
  refine r_alenQ 7 56 dX0_init_55 rfl rfl (by decide) (by decide) (by decide) rfl ?_
  refine r_icmp_ge 59 78 dX0_init_56 rfl (by decide) (fun z => absurd z (show ¬ (7 : Int32) ≤ 2 by decide)) (fun _ => ?_)
  refine r_aload_n 60 dX0_init_59 rfl rfl ?_
  refine r_getR 63 dX0_init_60 rfl f0_18 rfl rfl (by decide) (show gR _ 1 3 = some 5 by simp [gR_sI, gR_sR, gR_sQ, gR_sA, gR_zp, gQ_sI, gQ_sR, gQ_sQ, gQ_sA, gQ_zp, gR_hRow, gQ_hRow, gR_hSl, gQ_hSl, gR_hLi, gQ_hLi, h7_8]) ?_
  refine r_iload_n 64 dX0_init_63 rfl rfl ?_
  refine r_new (bc := 4) (bs := 28) 67 dX0_init_64 rfl n0_9 rfl ?_
  refine r_dup 68 dX0_init_67 rfl rfl ?_
  refine r_callI (M := mX0_init) (pc := 68) (bc := 4) (bs := 28) 71 dX0_init_68 rfl k0_11 (c_newSl (d := d + 1) (n := 18) (h := 17) rfl (by decide)) rfl rfl (Nat.le_of_ble_eq_true rfl) ?_
  refine r_aast 72 dX0_init_71 rfl rfl (by decide) (by decide) (by decide) (by unfold vp_in; decide) rfl (by decide) (by decide) rfl ?_
  rw [show (2 : Int32).toNatClampNeg = 2 by decide]
  refine r_iinc (1) 75 dX0_init_72 rfl rfl (by decide) (by decide) rfl ?_
  rw [show (2 : Int32) + 1 = 3 by decide]
  refine r_goto 50 dX0_init_75 (by decide) ?_
  refine r_iload_n 51 dX0_init_50 rfl rfl ?_
  refine r_aload_n 52 dX0_init_51 rfl rfl ?_
  refine r_getR 55 dX0_init_52 rfl f0_18 rfl rfl (by decide) (show gR _ 1 3 = some 5 by simp [gR_sI, gR_sR, gR_sQ, gR_sA, gR_zp, gQ_sI, gQ_sR, gQ_sQ, gQ_sA, gQ_zp, gR_hRow, gQ_hRow, gR_hSl, gQ_hSl, gR_hLi, gQ_hLi, h7_8]) ?_
  refine r_alenQ 7 56 dX0_init_55 rfl rfl (by decide) (by decide) (by decide) rfl ?_
  refine r_icmp_ge 59 78 dX0_init_56 rfl (by decide) (fun z => absurd z (show ¬ (7 : Int32) ≤ 3 by decide)) (fun _ => ?_)
  refine r_aload_n 60 dX0_init_59 rfl rfl ?_
  refine r_getR 63 dX0_init_60 rfl f0_18 rfl rfl (by decide) (show gR _ 1 3 = some 5 by simp [gR_sI, gR_sR, gR_sQ, gR_sA, gR_zp, gQ_sI, gQ_sR, gQ_sQ, gQ_sA, gQ_zp, gR_hRow, gQ_hRow, gR_hSl, gQ_hSl, gR_hLi, gQ_hLi, h7_8]) ?_
  refine r_iload_n 64 dX0_init_63 rfl rfl ?_
  refine r_new (bc := 3) (bs := 21) 67 dX0_init_64 rfl n0_9 rfl ?_
  refine r_dup 68 dX0_init_67 rfl rfl ?_
  refine r_callI (M := mX0_init) (pc := 68) (bc := 3) (bs := 21) 71 dX0_init_68 rfl k0_11 (c_newSl (d := d + 1) (n := 19) (h := 18) rfl (by decide)) rfl rfl (Nat.le_of_ble_eq_true rfl) ?_
  refine r_aast 72 dX0_init_71 rfl rfl (by decide) (by decide) (by decide) (by unfold vp_in; decide) rfl (by decide) (by decide) rfl ?_
  rw [show (3 : Int32).toNatClampNeg = 3 by decide]
  refine r_iinc (1) 75 dX0_init_72 rfl rfl (by decide) (by decide) rfl ?_
  rw [show (3 : Int32) + 1 = 4 by decide]
  refine r_goto 50 dX0_init_75 (by decide) ?_
  refine r_iload_n 51 dX0_init_50 rfl rfl ?_
  refine r_aload_n 52 dX0_init_51 rfl rfl ?_
  refine r_getR 55 dX0_init_52 rfl f0_18 rfl rfl (by decide) (show gR _ 1 3 = some 5 by simp [gR_sI, gR_sR, gR_sQ, gR_sA, gR_zp, gQ_sI, gQ_sR, gQ_sQ, gQ_sA, gQ_zp, gR_hRow, gQ_hRow, gR_hSl, gQ_hSl, gR_hLi, gQ_hLi, h7_8]) ?_
  refine r_alenQ 7 56 dX0_init_55 rfl rfl (by decide) (by decide) (by decide) rfl ?_
  refine r_icmp_ge 59 78 dX0_init_56 rfl (by decide) (fun z => absurd z (show ¬ (7 : Int32) ≤ 4 by decide)) (fun _ => ?_)
  refine r_aload_n 60 dX0_init_59 rfl rfl ?_
  refine r_getR 63 dX0_init_60 rfl f0_18 rfl rfl (by decide) (show gR _ 1 3 = some 5 by simp [gR_sI, gR_sR, gR_sQ, gR_sA, gR_zp, gQ_sI, gQ_sR, gQ_sQ, gQ_sA, gQ_zp, gR_hRow, gQ_hRow, gR_hSl, gQ_hSl, gR_hLi, gQ_hLi, h7_8]) ?_
  refine r_iload_n 64 dX0_init_63 rfl rfl ?_
  refine r_new (bc := 2) (bs := 14) 67 dX0_init_64 rfl n0_9 rfl ?_
  refine r_dup 68 dX0_init_67 rfl rfl ?_
  refine r_callI (M := mX0_init) (pc := 68) (bc := 2) (bs := 14) 71 dX0_init_68 rfl k0_11 (c_newSl (d := d + 1) (n := 20) (h := 19) rfl (by decide)) rfl rfl (Nat.le_of_ble_eq_true rfl) ?_
  refine r_aast 72 dX0_init_71 rfl rfl (by decide) (by decide) (by decide) (by unfold vp_in; decide) rfl (by decide) (by decide) rfl ?_
  rw [show (4 : Int32).toNatClampNeg = 4 by decide]
  refine r_iinc (1) 75 dX0_init_72 rfl rfl (by decide) (by decide) rfl ?_
  rw [show (4 : Int32) + 1 = 5 by decide]
  refine r_goto 50 dX0_init_75 (by decide) ?_
  refine r_iload_n 51 dX0_init_50 rfl rfl ?_
  refine r_aload_n 52 dX0_init_51 rfl rfl ?_
  refine r_getR 55 dX0_init_52 rfl f0_18 rfl rfl (by decide) (show gR _ 1 3 = some 5 by simp [gR_sI, gR_sR, gR_sQ, gR_sA, gR_zp, gQ_sI, gQ_sR, gQ_sQ, gQ_sA, gQ_zp, gR_hRow, gQ_hRow, gR_hSl, gQ_hSl, gR_hLi, gQ_hLi, h7_8]) ?_
  refine r_alenQ 7 56 dX0_init_55 rfl rfl (by decide) (by decide) (by decide) rfl ?_
  refine r_icmp_ge 59 78 dX0_init_56 rfl (by decide) (fun z => absurd z (show ¬ (7 : Int32) ≤ 5 by decide)) (fun _ => ?_)
  refine r_aload_n 60 dX0_init_59 rfl rfl ?_
  refine r_getR 63 dX0_init_60 rfl f0_18 rfl rfl (by decide) (show gR _ 1 3 = some 5 by simp [gR_sI, gR_sR, gR_sQ, gR_sA, gR_zp, gQ_sI, gQ_sR, gQ_sQ, gQ_sA, gQ_zp, gR_hRow, gQ_hRow, gR_hSl, gQ_hSl, gR_hLi, gQ_hLi, h7_8]) ?_
  refine r_iload_n 64 dX0_init_63 rfl rfl ?_
  refine r_new (bc := 1) (bs := 7) 67 dX0_init_64 rfl n0_9 rfl ?_
  refine r_dup 68 dX0_init_67 rfl rfl ?_
  refine r_callI (M := mX0_init) (pc := 68) (bc := 1) (bs := 7) 71 dX0_init_68 rfl k0_11 (c_newSl (d := d + 1) (n := 21) (h := 20) rfl (by decide)) rfl rfl (Nat.le_of_ble_eq_true rfl) ?_
  refine r_aast 72 dX0_init_71 rfl rfl (by decide) (by decide) (by decide) (by unfold vp_in; decide) rfl (by decide) (by decide) rfl ?_
  rw [show (5 : Int32).toNatClampNeg = 5 by decide]
  refine r_iinc (1) 75 dX0_init_72 rfl rfl (by decide) (by decide) rfl ?_
  rw [show (5 : Int32) + 1 = 6 by decide]
  refine r_goto 50 dX0_init_75 (by decide) ?_
  refine r_iload_n 51 dX0_init_50 rfl rfl ?_
  refine r_aload_n 52 dX0_init_51 rfl rfl ?_
  refine r_getR 55 dX0_init_52 rfl f0_18 rfl rfl (by decide) (show gR _ 1 3 = some 5 by simp [gR_sI, gR_sR, gR_sQ, gR_sA, gR_zp, gQ_sI, gQ_sR, gQ_sQ, gQ_sA, gQ_zp, gR_hRow, gQ_hRow, gR_hSl, gQ_hSl, gR_hLi, gQ_hLi, h7_8]) ?_
  refine r_alenQ 7 56 dX0_init_55 rfl rfl (by decide) (by decide) (by decide) rfl ?_
  refine r_icmp_ge 59 78 dX0_init_56 rfl (by decide) (fun z => absurd z (show ¬ (7 : Int32) ≤ 6 by decide)) (fun _ => ?_)
  refine r_aload_n 60 dX0_init_59 rfl rfl ?_
  refine r_getR 63 dX0_init_60 rfl f0_18 rfl rfl (by decide) (show gR _ 1 3 = some 5 by simp [gR_sI, gR_sR, gR_sQ, gR_sA, gR_zp, gQ_sI, gQ_sR, gQ_sQ, gQ_sA, gQ_zp, gR_hRow, gQ_hRow, gR_hSl, gQ_hSl, gR_hLi, gQ_hLi, h7_8]) ?_
  refine r_iload_n 64 dX0_init_63 rfl rfl ?_
  refine r_new (bc := 0) (bs := 0) 67 dX0_init_64 rfl n0_9 rfl ?_
  refine r_dup 68 dX0_init_67 rfl rfl ?_
  refine r_callI (M := mX0_init) (pc := 68) (bc := 0) (bs := 0) 71 dX0_init_68 rfl k0_11 (c_newSl (d := d + 1) (n := 22) (h := 21) rfl (by decide)) rfl rfl (Nat.le_of_ble_eq_true rfl) ?_
  refine r_aast 72 dX0_init_71 rfl rfl (by decide) (by decide) (by decide) (by unfold vp_in; decide) rfl (by decide) (by decide) rfl ?_
  rw [show (6 : Int32).toNatClampNeg = 6 by decide]
  refine r_iinc (1) 75 dX0_init_72 rfl rfl (by decide) (by decide) rfl ?_
  rw [show (6 : Int32) + 1 = 7 by decide]
  refine r_goto 50 dX0_init_75 (by decide) ?_
  refine r_iload_n 51 dX0_init_50 rfl rfl ?_
  refine r_aload_n 52 dX0_init_51 rfl rfl ?_
  refine r_getR 55 dX0_init_52 rfl f0_18 rfl rfl (by decide) (show gR _ 1 3 = some 5 by simp [gR_sI, gR_sR, gR_sQ, gR_sA, gR_zp, gQ_sI, gQ_sR, gQ_sQ, gQ_sA, gQ_zp, gR_hRow, gQ_hRow, gR_hSl, gQ_hSl, gR_hLi, gQ_hLi, h7_8]) ?_
  refine r_alenQ 7 56 dX0_init_55 rfl rfl (by decide) (by decide) (by decide) rfl ?_
  refine r_icmp_ge 59 78 dX0_init_56 rfl (by decide) (fun _ => ?_) (fun z => absurd (show (7 : Int32) ≤ 7 by decide) z)
  refine r_aload_n 79 dX0_init_78 rfl rfl ?_
  have hq7 : ∀ i, i < 7 → gQ (sQ (hSl 21 (zp (sQ (hSl 20 (zp (sQ (hSl 19 (zp (sQ (hSl 18 (zp (sQ (hSl 17 (zp (sQ (hSl 16 (zp (sQ (hSl 15 (zp (sR (h7_8 (zp (sR (hRow 6 7 (zp (sR (zp (sR (hSl 4 (zp E 4)) 0 3 (some 4)) 5) 1 3 (some 5)) 6)) 2 3 (some 6)) 8)) 3 3 (some 8)) 15)) 5 0 (some 15)) 16)) 5 1 (some 16)) 17)) 5 2 (some 17)) 18)) 5 3 (some 18)) 19)) 5 4 (some 19)) 20)) 5 5 (some 20)) 21)) 5 6 (some 21)) (3 + 2) i = some (3 + 12 + i) ∧ sh (3 + 12 + i) = (8, 0) := by
    intro i hi
    have hi7 : i = 0 ∨ i = 1 ∨ i = 2 ∨ i = 3 ∨ i = 4 ∨ i = 5 ∨ i = 6 := by omega
    rcases hi7 with z | z | z | z | z | z | z <;> subst z <;> exact ⟨by simp [gR_sI, gR_sR, gR_sQ, gR_sA, gR_zp, gQ_sI, gQ_sR, gQ_sQ, gQ_sA, gQ_zp, gR_hRow, gQ_hRow, gR_hSl, gQ_hSl, gR_hLi, gQ_hLi, h7_8], rfl⟩
  have hbo : BedOK (sQ (hSl 21 (zp (sQ (hSl 20 (zp (sQ (hSl 19 (zp (sQ (hSl 18 (zp (sQ (hSl 17 (zp (sQ (hSl 16 (zp (sQ (hSl 15 (zp (sR (h7_8 (zp (sR (hRow 6 7 (zp (sR (zp (sR (hSl 4 (zp E 4)) 0 3 (some 4)) 5) 1 3 (some 5)) 6)) 2 3 (some 6)) 8)) 3 3 (some 8)) 15)) 5 0 (some 15)) 16)) 5 1 (some 16)) 17)) 5 2 (some 17)) 18)) 5 3 (some 18)) 19)) 5 4 (some 19)) 20)) 5 5 (some 20)) 21)) 5 6 (some 21)) 22 3 := ⟨rfl, by simp [gR_sI, gR_sR, gR_sQ, gR_sA, gR_zp, gQ_sI, gQ_sR, gQ_sQ, gQ_sA, gQ_zp, gR_hRow, gQ_hRow, gR_hSl, gQ_hSl, gR_hLi, gQ_hLi, h7_8], by simp [gR_sI, gR_sR, gR_sQ, gR_sA, gR_zp, gQ_sI, gQ_sR, gQ_sQ, gQ_sA, gQ_zp, gR_hRow, gQ_hRow, gR_hSl, gQ_hSl, gR_hLi, gQ_hLi, h7_8], by simp [gR_sI, gR_sR, gR_sQ, gR_sA, gR_zp, gQ_sI, gQ_sR, gQ_sQ, gQ_sA, gQ_zp, gR_hRow, gQ_hRow, gR_hSl, gQ_hSl, gR_hLi, gQ_hLi, h7_8], by simp [gR_sI, gR_sR, gR_sQ, gR_sA, gR_zp, gQ_sI, gQ_sR, gQ_sQ, gQ_sA, gQ_zp, gR_hRow, gQ_hRow, gR_hSl, gQ_hSl, gR_hLi, gQ_hLi, h7_8], rfl, rfl, hq7, ⟨rfl, by simp [gR_sI, gR_sR, gR_sQ, gR_sA, gR_zp, gQ_sI, gQ_sR, gQ_sQ, gQ_sA, gQ_zp, gR_hRow, gQ_hRow, gR_hSl, gQ_hSl, gR_hLi, gQ_hLi, h7_8], rfl, by decide, by decide, by decide⟩, ⟨rfl, by simp [gR_sI, gR_sR, gR_sQ, gR_sA, gR_zp, gQ_sI, gQ_sR, gQ_sQ, gQ_sA, gQ_zp, gR_hRow, gQ_hRow, gR_hSl, gQ_hSl, gR_hLi, gQ_hLi, h7_8], by simp [gR_sI, gR_sR, gR_sQ, gR_sA, gR_zp, gQ_sI, gQ_sR, gQ_sQ, gQ_sA, gQ_zp, gR_hRow, gQ_hRow, gR_hSl, gQ_hSl, gR_hLi, gQ_hLi, h7_8], by simp [gR_sI, gR_sR, gR_sQ, gR_sA, gR_zp, gQ_sI, gQ_sR, gQ_sQ, gQ_sA, gQ_zp, gR_hRow, gQ_hRow, gR_hSl, gQ_hSl, gR_hLi, gQ_hLi, h7_8], ⟨rfl, by simp [gR_sI, gR_sR, gR_sQ, gR_sA, gR_zp, gQ_sI, gQ_sR, gQ_sQ, gQ_sA, gQ_zp, gR_hRow, gQ_hRow, gR_hSl, gQ_hSl, gR_hLi, gQ_hLi, h7_8], rfl, by decide, by decide, by decide⟩, ⟨rfl, by simp [gR_sI, gR_sR, gR_sQ, gR_sA, gR_zp, gQ_sI, gQ_sR, gQ_sQ, gQ_sA, gQ_zp, gR_hRow, gQ_hRow, gR_hSl, gQ_hSl, gR_hLi, gQ_hLi, h7_8], rfl, by decide, by decide, by decide⟩, ⟨rfl, by simp [gR_sI, gR_sR, gR_sQ, gR_sA, gR_zp, gQ_sI, gQ_sR, gQ_sQ, gQ_sA, gQ_zp, gR_hRow, gQ_hRow, gR_hSl, gQ_hSl, gR_hLi, gQ_hLi, h7_8], rfl, by decide, by decide, by decide⟩, by decide⟩, by decide⟩
  refine r_callV (M := mX0_init) (pc := 79) 82 dX0_init_79 rfl k0_38 (c_X0_makeAnew (d := d) hbo) rfl rfl rfl (by decide) rfl (by decide) (Nat.le_of_ble_eq_true rfl) ?_
  exact r_vret dX0_init_82 rfl rfl rfl
def h7_27 (E : HP) : HP := (sR (hRow 32 33 (zp (sR (hRow 30 31 (zp (sI (sR (hRow 28 29 (zp E 28)) 896 27 (some 28)) 897 27 (0)) 30)) 898 27 (some 30)) 32)) 899 27 (some 32))
set_option maxRecDepth 20000 in
set_option maxHeartbeats 16000000 in
theorem c_new7_27 {d : Nat} {E : HP} : Cl yX7_init mX7_init (d + 1) 6 650 [.ref 27] E 28 (.inl none, h7_27 E, 34) := by
  refine Cl.of (by decide) rfl (fun _ => rfl) rfl rfl (Nat.le_of_ble_eq_true rfl) ?_
  show Sm _ _ _ _ _ 0 [some (.ref 27)] [] _ _
  refine r_aload_n 1 dX7_init_0 rfl rfl ?_
  refine r_objInit 4 dX7_init_1 rfl k7_3 w_oi w_oc (Nat.le_of_ble_eq_true rfl) ?_
  refine r_aload_n 5 dX7_init_4 rfl rfl ?_
  refine r_new (bc := 5) (bs := 649) 8 dX7_init_5 rfl n7_9 rfl ?_
  refine r_dup 9 dX7_init_8 rfl rfl ?_
  refine r_sipush (600) 12 dX7_init_9 rfl (by decide) ?_
  refine r_callI (M := mX7_init) (pc := 12) (bc := 4) (bs := 49) 15 dX7_init_12 rfl k7_11 (c_newRow (d := d + 0) (n := 29) (h := 28) (l := 600) (x := 600) rfl (by decide) rfl (by decide) (by decide) (by decide)) rfl rfl (Nat.le_of_ble_eq_true rfl) ?_
  refine r_putR 18 dX7_init_15 rfl f7_14 rfl (Or.inr ⟨rfl, rfl, ff7_14⟩) rfl (by decide) ?_
  refine r_aload_n 19 dX7_init_18 rfl rfl ?_
  refine r_iconst (0) 20 dX7_init_19 rfl (by decide) ?_
  refine r_putI 23 dX7_init_20 rfl f7_20 rfl (by decide) ?_
  refine r_aload_n 24 dX7_init_23 rfl rfl ?_
  refine r_new (bc := 3) (bs := 48) 27 dX7_init_24 rfl n7_9 rfl ?_
  refine r_dup 28 dX7_init_27 rfl rfl ?_
  refine r_bipush (7) 30 dX7_init_28 rfl (by decide) ?_
  refine r_callI (M := mX7_init) (pc := 30) (bc := 2) (bs := 41) 33 dX7_init_30 rfl k7_11 (c_newRow (d := d + 0) (n := 31) (h := 30) (l := 7) (x := 7) rfl (by decide) rfl (by decide) (by decide) (by decide)) rfl rfl (Nat.le_of_ble_eq_true rfl) ?_
  refine r_putR 36 dX7_init_33 rfl f7_24 rfl (Or.inr ⟨rfl, rfl, ff7_24⟩) rfl (by decide) ?_
  refine r_aload_n 37 dX7_init_36 rfl rfl ?_
  refine r_new (bc := 1) (bs := 40) 40 dX7_init_37 rfl n7_9 rfl ?_
  refine r_dup 41 dX7_init_40 rfl rfl ?_
  refine r_bipush (40) 43 dX7_init_41 rfl (by decide) ?_
  refine r_callI (M := mX7_init) (pc := 43) (bc := 0) (bs := 0) 46 dX7_init_43 rfl k7_11 (c_newRow (d := d + 0) (n := 33) (h := 32) (l := 40) (x := 40) rfl (by decide) rfl (by decide) (by decide) (by decide)) rfl rfl (Nat.le_of_ble_eq_true rfl) ?_
  refine r_putR 49 dX7_init_46 rfl f7_27 rfl (Or.inr ⟨rfl, rfl, ff7_27⟩) rfl (by decide) ?_
  exact r_vret dX7_init_49 rfl rfl rfl
