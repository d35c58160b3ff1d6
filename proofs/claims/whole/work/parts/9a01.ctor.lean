/-! ctor, further on -/
def h0_22 (E : HP) : HP := (beAnew 22 (sQ (hSl 40 (zp (sQ (hSl 39 (zp (sQ (hSl 38 (zp (sQ (hSl 37 (zp (sQ (hSl 36 (zp (sQ (hSl 35 (zp (sQ (hSl 34 (zp (sR (h7_27 (zp (sR (hRow 25 26 (zp (sR (zp (sR (hSl 23 (zp E 23)) 0 22 (some 23)) 24) 1 22 (some 24)) 25)) 2 22 (some 25)) 27)) 3 22 (some 27)) 34)) 24 0 (some 34)) 35)) 24 1 (some 35)) 36)) 24 2 (some 36)) 37)) 24 3 (some 37)) 38)) 24 4 (some 38)) 39)) 24 5 (some 39)) 40)) 24 6 (some 40)))
set_option maxRecDepth 20000 in
set_option maxHeartbeats 16000000 in
theorem c_new0_22 {d : Nat} {E : HP} : Cl yX0_init mX0_init (d + 2) 18 725 [.ref 22] E 23 (.inl none, h0_22 E, 41) := by
  refine Cl.of (by decide) rfl (fun _ => rfl) rfl rfl (Nat.le_of_ble_eq_true rfl) ?_
  show Sm _ _ _ _ _ 0 [some (.ref 22), none] [] _ _
  refine r_aload_n 1 dX0_init_0 rfl rfl ?_
  refine r_objInit 4 dX0_init_1 rfl k0_3 w_oi w_oc (Nat.le_of_ble_eq_true rfl) ?_
  refine r_aload_n 5 dX0_init_4 rfl rfl ?_
  refine r_new (bc := 17) (bs := 718) 8 dX0_init_5 rfl n0_9 rfl ?_
  refine r_dup 9 dX0_init_8 rfl rfl ?_
  refine r_callI (M := mX0_init) (pc := 9) (bc := 17) (bs := 718) 12 dX0_init_9 rfl k0_11 (c_newSl (d := d + 1) (n := 24) (h := 23) rfl (by decide)) rfl rfl (Nat.le_of_ble_eq_true rfl) ?_
  refine r_putR 15 dX0_init_12 rfl f0_12 rfl (Or.inr ⟨rfl, rfl, ff0_12⟩) rfl (by decide) ?_
  refine r_aload_n 16 dX0_init_15 rfl rfl ?_
  refine r_bipush (7) 18 dX0_init_16 rfl (by decide) ?_
  refine r_newQ (bc := 16) (bs := 711) 21 dX0_init_18 rfl rfl (by decide) (by decide) (by decide) (by decide) (by decide) nl0_9 ?_
  refine r_putR 24 dX0_init_21 rfl f0_18 rfl (Or.inr ⟨rfl, rfl, ff0_18⟩) rfl (by decide) ?_
  refine r_aload_n 25 dX0_init_24 rfl rfl ?_
  refine r_new (bc := 15) (bs := 710) 28 dX0_init_25 rfl n0_22 rfl ?_
  refine r_dup 29 dX0_init_28 rfl rfl ?_
  refine r_bipush (7) 31 dX0_init_29 rfl (by decide) ?_
  refine r_callI (M := mX0_init) (pc := 31) (bc := 14) (bs := 703) 34 dX0_init_31 rfl k0_24 (c_newRow (d := d + 1) (n := 26) (h := 25) (l := 7) (x := 7) rfl (by decide) rfl (by decide) (by decide) (by decide)) rfl rfl (Nat.le_of_ble_eq_true rfl) ?_
  refine r_putR 37 dX0_init_34 rfl f0_27 rfl (Or.inr ⟨rfl, rfl, ff0_27⟩) rfl (by decide) ?_
  refine r_aload_n 38 dX0_init_37 rfl rfl ?_
  refine r_new (bc := 13) (bs := 699) 41 dX0_init_38 rfl n0_31 rfl ?_
  refine r_dup 42 dX0_init_41 rfl rfl ?_
  refine r_callI (M := mX0_init) (pc := 42) (bc := 7) (bs := 49) 45 dX0_init_42 rfl k0_33 (c_new7_27 (d := d)) rfl rfl (Nat.le_of_ble_eq_true rfl) ?_
  refine r_putR 48 dX0_init_45 rfl f0_34 rfl (Or.inr ⟨rfl, rfl, ff0_34⟩) rfl (by decide) ?_
  refine r_iconst (0) 49 dX0_init_48 rfl (by decide) ?_
  refine r_istore_n 50 dX0_init_49 rfl (by decide) rfl ?_
  refine r_iload_n 51 dX0_init_50 rfl rfl ?_
  refine r_aload_n 52 dX0_init_51 rfl rfl ?_
  refine r_getR 55 dX0_init_52 rfl f0_18 rfl rfl (by decide) (show gR _ 1 22 = some 24 by simp [gR_sI, gR_sR, gR_sQ, gR_sA, gR_zp, gQ_sI, gQ_sR, gQ_sQ, gQ_sA, gQ_zp, gR_hRow, gQ_hRow, gR_hSl, gQ_hSl, gR_hLi, gQ_hLi, h7_8, h0_3, h7_27]) ?_
  refine r_alenQ 7 56 dX0_init_55 rfl rfl (by decide) (by decide) (by decide) rfl ?_
  refine r_icmp_ge 59 78 dX0_init_56 rfl (by decide) (fun z => absurd z (show ¬ (7 : Int32) ≤ 0 by decide)) (fun _ => ?_)
  refine r_aload_n 60 dX0_init_59 rfl rfl ?_
  refine r_getR 63 dX0_init_60 rfl f0_18 rfl rfl (by decide) (show gR _ 1 22 = some 24 by simp [gR_sI, gR_sR, gR_sQ, gR_sA, gR_zp, gQ_sI, gQ_sR, gQ_sQ, gQ_sA, gQ_zp, gR_hRow, gQ_hRow, gR_hSl, gQ_hSl, gR_hLi, gQ_hLi, h7_8, h0_3, h7_27]) ?_
  refine r_iload_n 64 dX0_init_63 rfl rfl ?_
  refine r_new (bc := 6) (bs := 42) 67 dX0_init_64 rfl n0_9 rfl ?_
  refine r_dup 68 dX0_init_67 rfl rfl ?_
  refine r_callI (M := mX0_init) (pc := 68) (bc := 6) (bs := 42) 71 dX0_init_68 rfl k0_11 (c_newSl (d := d + 1) (n := 35) (h := 34) rfl (by decide)) rfl rfl (Nat.le_of_ble_eq_true rfl) ?_
  refine r_aast 72 dX0_init_71 rfl rfl (by decide) (by decide) (by decide) (by unfold vp_in; decide) rfl (by decide) (by decide) rfl ?_
  rw [show (0 : Int32).toNatClampNeg = 0 by decide]
  refine r_iinc (1) 75 dX0_init_72 rfl rfl (by decide) (by decide) rfl ?_
  rw [show (0 : Int32) + 1 = 1 by decide]
  refine r_goto 50 dX0_init_75 (by decide) ?_
  refine r_iload_n 51 dX0_init_50 rfl rfl ?_
  refine r_aload_n 52 dX0_init_51 rfl rfl ?_
  refine r_getR 55 dX0_init_52 rfl f0_18 rfl rfl (by decide) (show gR _ 1 22 = some 24 by simp [gR_sI, gR_sR, gR_sQ, gR_sA, gR_zp, gQ_sI, gQ_sR, gQ_sQ, gQ_sA, gQ_zp, gR_hRow, gQ_hRow, gR_hSl, gQ_hSl, gR_hLi, gQ_hLi, h7_8, h0_3, h7_27]) ?_
  refine r_alenQ 7 56 dX0_init_55 rfl rfl (by decide) (by decide) (by decide) rfl ?_
  refine r_icmp_ge 59 78 dX0_init_56 rfl (by decide) (fun z => absurd z (show ¬ (7 : Int32) ≤ 1 by decide)) (fun _ => ?_)
  refine r_aload_n 60 dX0_init_59 rfl rfl ?_
  refine r_getR 63 dX0_init_60 rfl f0_18 rfl rfl (by decide) (show gR _ 1 22 = some 24 by simp [gR_sI, gR_sR, gR_sQ, gR_sA, gR_zp, gQ_sI, gQ_sR, gQ_sQ, gQ_sA, gQ_zp, gR_hRow, gQ_hRow, gR_hSl, gQ_hSl, gR_hLi, gQ_hLi, h7_8, h0_3, h7_27]) ?_
  refine r_iload_n 64 dX0_init_63 rfl rfl ?_
  refine r_new (bc := 5) (bs := 35) 67 dX0_init_64 rfl n0_9 rfl ?_
  refine r_dup 68 dX0_init_67 rfl rfl ?_
  refine r_callI (M := mX0_init) (pc := 68) (bc := 5) (bs := 35) 71 dX0_init_68 rfl k0_11 (c_newSl (d := d + 1) (n := 36) (h := 35) rfl (by decide)) rfl rfl (Nat.le_of_ble_eq_true rfl) ?_
  refine r_aast 72 dX0_init_71 rfl rfl (by decide) (by decide) (by decide) (by unfold vp_in; decide) rfl (by decide) (by decide) rfl ?_
  rw [show (1 : Int32).toNatClampNeg = 1 by decide]
  refine r_iinc (1) 75 dX0_init_72 rfl rfl (by decide) (by decide) rfl ?_
  rw [show (1 : Int32) + 1 = 2 by decide]
  refine r_goto 50 dX0_init_75 (by decide) ?_
  refine r_iload_n 51 dX0_init_50 rfl rfl ?_
  refine r_aload_n 52 dX0_init_51 rfl rfl ?_
  refine r_getR 55 dX0_init_52 rfl f0_18 rfl rfl (by decide) (show gR _ 1 22 = some 24 by simp [gR_sI, gR_sR, gR_sQ, gR_sA, gR_zp, gQ_sI, gQ_sR, gQ_sQ, gQ_sA, gQ_zp, gR_hRow, gQ_hRow, gR_hSl, gQ_hSl, gR_hLi, gQ_hLi, h7_8, h0_3, h7_27]) ?_
  refine r_alenQ 7 56 dX0_init_55 rfl rfl (by decide) (by decide) (by decide) rfl ?_
  refine r_icmp_ge 59 78 dX0_init_56 rfl (by decide) (fun z => absurd z (show ¬ (7 : Int32) ≤ 2 by decide)) (fun _ => ?_)
  refine r_aload_n 60 dX0_init_59 rfl rfl ?_
  refine r_getR 63 dX0_init_60 rfl f0_18 rfl rfl (by decide) (show gR _ 1 22 = some 24 by simp [gR_sI, gR_sR, gR_sQ, gR_sA, gR_zp, gQ_sI, gQ_sR, gQ_sQ, gQ_sA, gQ_zp, gR_hRow, gQ_hRow, gR_hSl, gQ_hSl, gR_hLi, gQ_hLi, h7_8, h0_3, h7_27]) ?_
  refine r_iload_n 64 dX0_init_63 rfl rfl ?_
  refine r_new (bc := 4) (bs := 28) 67 dX0_init_64 rfl n0_9 rfl ?_
  refine r_dup 68 dX0_init_67 rfl rfl ?_
  refine r_callI (M := mX0_init) (pc := 68) (bc := 4) (bs := 28) 71 dX0_init_68 rfl k0_11 (c_newSl (d := d + 1) (n := 37) (h := 36) rfl (by decide)) rfl rfl (Nat.le_of_ble_eq_true rfl) ?_
  refine r_aast 72 dX0_init_71 rfl rfl (by decide) (by decide) (by decide) (by unfold vp_in; decide) rfl (by decide) (by decide) rfl ?_
  rw [show (2 : Int32).toNatClampNeg = 2 by decide]
  refine r_iinc (1) 75 dX0_init_72 rfl rfl (by decide) (by decide) rfl ?_
  rw [show (2 : Int32) + 1 = 3 by decide]
  refine r_goto 50 dX0_init_75 (by decide) ?_
  refine r_iload_n 51 dX0_init_50 rfl rfl ?_
  refine r_aload_n 52 dX0_init_51 rfl rfl ?_
  refine r_getR 55 dX0_init_52 rfl f0_18 rfl rfl (by decide) (show gR _ 1 22 = some 24 by simp [gR_sI, gR_sR, gR_sQ, gR_sA, gR_zp, gQ_sI, gQ_sR, gQ_sQ, gQ_sA, gQ_zp, gR_hRow, gQ_hRow, gR_hSl, gQ_hSl, gR_hLi, gQ_hLi, h7_8, h0_3, h7_27]) ?_
  refine r_alenQ 7 56 dX0_init_55 rfl rfl (by decide) (by decide) (by decide) rfl ?_
  refine r_icmp_ge 59 78 dX0_init_56 rfl (by decide) (fun z => absurd z (show ¬ (7 : Int32) ≤ 3 by decide)) (fun _ => ?_)
  refine r_aload_n 60 dX0_init_59 rfl rfl ?_
  refine r_getR 63 dX0_init_60 rfl f0_18 rfl rfl (by decide) (show gR _ 1 22 = some 24 by simp [gR_sI, gR_sR, gR_sQ, gR_sA, gR_zp, gQ_sI, gQ_sR, gQ_sQ, gQ_sA, gQ_zp, gR_hRow, gQ_hRow, gR_hSl, gQ_hSl, gR_hLi, gQ_hLi, h7_8, h0_3, h7_27]) ?_
  refine r_iload_n 64 dX0_init_63 rfl rfl ?_
  refine r_new (bc := 3) (bs := 21) 67 dX0_init_64 rfl n0_9 rfl ?_
  refine r_dup 68 dX0_init_67 rfl rfl ?_
  refine r_callI (M := mX0_init) (pc := 68) (bc := 3) (bs := 21) 71 dX0_init_68 rfl k0_11 (c_newSl (d := d + 1) (n := 38) (h := 37) rfl (by decide)) rfl rfl (Nat.le_of_ble_eq_true rfl) ?_
  refine r_aast 72 dX0_init_71 rfl rfl (by decide) (by decide) (by decide) (by unfold vp_in; decide) rfl (by decide) (by decide) rfl ?_
  rw [show (3 : Int32).toNatClampNeg = 3 by decide]
  refine r_iinc (1) 75 dX0_init_72 rfl rfl (by decide) (by decide) rfl ?_
  rw [show (3 : Int32) + 1 = 4 by decide]
  refine r_goto 50 dX0_init_75 (by decide) ?_
  refine r_iload_n 51 dX0_init_50 rfl rfl ?_
  refine r_aload_n 52 dX0_init_51 rfl rfl ?_
  refine r_getR 55 dX0_init_52 rfl f0_18 rfl rfl (by decide) (show gR _ 1 22 = some 24 by simp [gR_sI, gR_sR, gR_sQ, gR_sA, gR_zp, gQ_sI, gQ_sR, gQ_sQ, gQ_sA, gQ_zp, gR_hRow, gQ_hRow, gR_hSl, gQ_hSl, gR_hLi, gQ_hLi, h7_8, h0_3, h7_27]) ?_
  refine r_alenQ 7 56 dX0_init_55 rfl rfl (by decide) (by decide) (by decide) rfl ?_
  refine r_icmp_ge 59 78 dX0_init_56 rfl (by decide) (fun z => absurd z (show ¬ (7 : Int32) ≤ 4 by decide)) (fun _ => ?_)
  refine r_aload_n 60 dX0_init_59 rfl rfl ?_
  refine r_getR 63 dX0_init_60 rfl f0_18 rfl rfl (by decide) (show gR _ 1 22 = some 24 by simp [gR_sI, gR_sR, gR_sQ, gR_sA, gR_zp, gQ_sI, gQ_sR, gQ_sQ, gQ_sA, gQ_zp, gR_hRow, gQ_hRow, gR_hSl, gQ_hSl, gR_hLi, gQ_hLi, h7_8, h0_3, h7_27]) ?_
  refine r_iload_n 64 dX0_init_63 rfl rfl ?_
  refine r_new (bc := 2) (bs := 14) 67 dX0_init_64 rfl n0_9 rfl ?_
  refine r_dup 68 dX0_init_67 rfl rfl ?_
  refine r_callI (M := mX0_init) (pc := 68) (bc := 2) (bs := 14) 71 dX0_init_68 rfl k0_11 (c_newSl (d := d + 1) (n := 39) (h := 38) rfl (by decide)) rfl rfl (Nat.le_of_ble_eq_true rfl) ?_
  refine r_aast 72 dX0_init_71 rfl rfl (by decide) (by decide) (by decide) (by unfold vp_in; decide) rfl (by decide) (by decide) rfl ?_
  rw [show (4 : Int32).toNatClampNeg = 4 by decide]
  refine r_iinc (1) 75 dX0_init_72 rfl rfl (by decide) (by decide) rfl ?_
  rw [show (4 : Int32) + 1 = 5 by decide]
  refine r_goto 50 dX0_init_75 (by decide) ?_
  refine r_iload_n 51 dX0_init_50 rfl rfl ?_
  refine r_aload_n 52 dX0_init_51 rfl rfl ?_
  refine r_getR 55 dX0_init_52 rfl f0_18 rfl rfl (by decide) (show gR _ 1 22 = some 24 by simp [gR_sI, gR_sR, gR_sQ, gR_sA, gR_zp, gQ_sI, gQ_sR, gQ_sQ, gQ_sA, gQ_zp, gR_hRow, gQ_hRow, gR_hSl, gQ_hSl, gR_hLi, gQ_hLi, h7_8, h0_3, h7_27]) ?_
  refine r_alenQ 7 56 dX0_init_55 rfl rfl (by decide) (by decide) (by decide) rfl ?_
  refine r_icmp_ge 59 78 dX0_init_56 rfl (by decide) (fun z => absurd z (show ¬ (7 : Int32) ≤ 5 by decide)) (fun _ => ?_)
  refine r_aload_n 60 dX0_init_59 rfl rfl ?_
  refine r_getR 63 dX0_init_60 rfl f0_18 rfl rfl (by decide) (show gR _ 1 22 = some 24 by simp [gR_sI, gR_sR, gR_sQ, gR_sA, gR_zp, gQ_sI, gQ_sR, gQ_sQ, gQ_sA, gQ_zp, gR_hRow, gQ_hRow, gR_hSl, gQ_hSl, gR_hLi, gQ_hLi, h7_8, h0_3, h7_27]) ?_
  refine r_iload_n 64 dX0_init_63 rfl rfl ?_
  refine r_new (bc := 1) (bs := 7) 67 dX0_init_64 rfl n0_9 rfl ?_
  refine r_dup 68 dX0_init_67 rfl rfl ?_
  refine r_callI (M := mX0_init) (pc := 68) (bc := 1) (bs := 7) 71 dX0_init_68 rfl k0_11 (c_newSl (d := d + 1) (n := 40) (h := 39) rfl (by decide)) rfl rfl (Nat.le_of_ble_eq_true rfl) ?_
  refine r_aast 72 dX0_init_71 rfl rfl (by decide) (by decide) (by decide) (by unfold vp_in; decide) rfl (by decide) (by decide) rfl ?_
  rw [show (5 : Int32).toNatClampNeg = 5 by decide]
  refine r_iinc (1) 75 dX0_init_72 rfl rfl (by decide) (by decide) rfl ?_
  rw [show (5 : Int32) + 1 = 6 by decide]
  refine r_goto 50 dX0_init_75 (by decide) ?_
  refine r_iload_n 51 dX0_init_50 rfl rfl ?_
  refine r_aload_n 52 dX0_init_51 rfl rfl ?_
  refine r_getR 55 dX0_init_52 rfl f0_18 rfl rfl (by decide) (show gR _ 1 22 = some 24 by simp [gR_sI, gR_sR, gR_sQ, gR_sA, gR_zp, gQ_sI, gQ_sR, gQ_sQ, gQ_sA, gQ_zp, gR_hRow, gQ_hRow, gR_hSl, gQ_hSl, gR_hLi, gQ_hLi, h7_8, h0_3, h7_27]) ?_
  refine r_alenQ 7 56 dX0_init_55 rfl rfl (by decide) (by decide) (by decide) rfl ?_
  refine r_icmp_ge 59 78 dX0_init_56 rfl (by decide) (fun z => absurd z (show ¬ (7 : Int32) ≤ 6 by decide)) (fun _ => ?_)
  refine r_aload_n 60 dX0_init_59 rfl rfl ?_
  refine r_getR 63 dX0_init_60 rfl f0_18 rfl rfl (by decide) (show gR _ 1 22 = some 24 by simp [gR_sI, gR_sR, gR_sQ, gR_sA, gR_zp, gQ_sI, gQ_sR, gQ_sQ, gQ_sA, gQ_zp, gR_hRow, gQ_hRow, gR_hSl, gQ_hSl, gR_hLi, gQ_hLi, h7_8, h0_3, h7_27]) ?_
  refine r_iload_n 64 dX0_init_63 rfl rfl ?_
  refine r_new (bc := 0) (bs := 0) 67 dX0_init_64 rfl n0_9 rfl ?_
  refine r_dup 68 dX0_init_67 rfl rfl ?_
  refine r_callI (M := mX0_init) (pc := 68) (bc := 0) (bs := 0) 71 dX0_init_68 rfl k0_11 (c_newSl (d := d + 1) (n := 41) (h := 40) rfl (by decide)) rfl rfl (Nat.le_of_ble_eq_true rfl) ?_
  refine r_aast 72 dX0_init_71 rfl rfl (by decide) (by decide) (by decide) (by unfold vp_in; decide) rfl (by decide) (by decide) rfl ?_
  rw [show (6 : Int32).toNatClampNeg = 6 by decide]
  refine r_iinc (1) 75 dX0_init_72 rfl rfl (by decide) (by decide) rfl ?_
  rw [show (6 : Int32) + 1 = 7 by decide]
  refine r_goto 50 dX0_init_75 (by decide) ?_
  refine r_iload_n 51 dX0_init_50 rfl rfl ?_
  refine r_aload_n 52 dX0_init_51 rfl rfl ?_
  refine r_getR 55 dX0_init_52 rfl f0_18 rfl rfl (by decide) (show gR _ 1 22 = some 24 by simp [gR_sI, gR_sR, gR_sQ, gR_sA, gR_zp, gQ_sI, gQ_sR, gQ_sQ, gQ_sA, gQ_zp, gR_hRow, gQ_hRow, gR_hSl, gQ_hSl, gR_hLi, gQ_hLi, h7_8, h0_3, h7_27]) ?_
  refine r_alenQ 7 56 dX0_init_55 rfl rfl (by decide) (by decide) (by decide) rfl ?_
  refine r_icmp_ge 59 78 dX0_init_56 rfl (by decide) (fun _ => ?_) (fun z => absurd (show (7 : Int32) ≤ 7 by decide) z)
  refine r_aload_n 79 dX0_init_78 rfl rfl ?_
  have hq7 : ∀ i, i < 7 → gQ (sQ (hSl 40 (zp (sQ (hSl 39 (zp (sQ (hSl 38 (zp (sQ (hSl 37 (zp (sQ (hSl 36 (zp (sQ (hSl 35 (zp (sQ (hSl 34 (zp (sR (h7_27 (zp (sR (hRow 25 26 (zp (sR (zp (sR (hSl 23 (zp E 23)) 0 22 (some 23)) 24) 1 22 (some 24)) 25)) 2 22 (some 25)) 27)) 3 22 (some 27)) 34)) 24 0 (some 34)) 35)) 24 1 (some 35)) 36)) 24 2 (some 36)) 37)) 24 3 (some 37)) 38)) 24 4 (some 38)) 39)) 24 5 (some 39)) 40)) 24 6 (some 40)) (22 + 2) i = some (22 + 12 + i) ∧ sh (22 + 12 + i) = (8, 0) := by
    intro i hi
    have hi7 : i = 0 ∨ i = 1 ∨ i = 2 ∨ i = 3 ∨ i = 4 ∨ i = 5 ∨ i = 6 := by omega
    rcases hi7 with z | z | z | z | z | z | z <;> subst z <;> exact ⟨by simp [gR_sI, gR_sR, gR_sQ, gR_sA, gR_zp, gQ_sI, gQ_sR, gQ_sQ, gQ_sA, gQ_zp, gR_hRow, gQ_hRow, gR_hSl, gQ_hSl, gR_hLi, gQ_hLi, h7_8, h0_3, h7_27], rfl⟩
  have hbo : BedOK (sQ (hSl 40 (zp (sQ (hSl 39 (zp (sQ (hSl 38 (zp (sQ (hSl 37 (zp (sQ (hSl 36 (zp (sQ (hSl 35 (zp (sQ (hSl 34 (zp (sR (h7_27 (zp (sR (hRow 25 26 (zp (sR (zp (sR (hSl 23 (zp E 23)) 0 22 (some 23)) 24) 1 22 (some 24)) 25)) 2 22 (some 25)) 27)) 3 22 (some 27)) 34)) 24 0 (some 34)) 35)) 24 1 (some 35)) 36)) 24 2 (some 36)) 37)) 24 3 (some 37)) 38)) 24 4 (some 38)) 39)) 24 5 (some 39)) 40)) 24 6 (some 40)) 41 22 := ⟨rfl, by simp [gR_sI, gR_sR, gR_sQ, gR_sA, gR_zp, gQ_sI, gQ_sR, gQ_sQ, gQ_sA, gQ_zp, gR_hRow, gQ_hRow, gR_hSl, gQ_hSl, gR_hLi, gQ_hLi, h7_8, h0_3, h7_27], by simp [gR_sI, gR_sR, gR_sQ, gR_sA, gR_zp, gQ_sI, gQ_sR, gQ_sQ, gQ_sA, gQ_zp, gR_hRow, gQ_hRow, gR_hSl, gQ_hSl, gR_hLi, gQ_hLi, h7_8, h0_3, h7_27], by simp [gR_sI, gR_sR, gR_sQ, gR_sA, gR_zp, gQ_sI, gQ_sR, gQ_sQ, gQ_sA, gQ_zp, gR_hRow, gQ_hRow, gR_hSl, gQ_hSl, gR_hLi, gQ_hLi, h7_8, h0_3, h7_27], by simp [gR_sI, gR_sR, gR_sQ, gR_sA, gR_zp, gQ_sI, gQ_sR, gQ_sQ, gQ_sA, gQ_zp, gR_hRow, gQ_hRow, gR_hSl, gQ_hSl, gR_hLi, gQ_hLi, h7_8, h0_3, h7_27], rfl, rfl, hq7, ⟨rfl, by simp [gR_sI, gR_sR, gR_sQ, gR_sA, gR_zp, gQ_sI, gQ_sR, gQ_sQ, gQ_sA, gQ_zp, gR_hRow, gQ_hRow, gR_hSl, gQ_hSl, gR_hLi, gQ_hLi, h7_8, h0_3, h7_27], rfl, by decide, by decide, by decide⟩, ⟨rfl, by simp [gR_sI, gR_sR, gR_sQ, gR_sA, gR_zp, gQ_sI, gQ_sR, gQ_sQ, gQ_sA, gQ_zp, gR_hRow, gQ_hRow, gR_hSl, gQ_hSl, gR_hLi, gQ_hLi, h7_8, h0_3, h7_27], by simp [gR_sI, gR_sR, gR_sQ, gR_sA, gR_zp, gQ_sI, gQ_sR, gQ_sQ, gQ_sA, gQ_zp, gR_hRow, gQ_hRow, gR_hSl, gQ_hSl, gR_hLi, gQ_hLi, h7_8, h0_3, h7_27], by simp [gR_sI, gR_sR, gR_sQ, gR_sA, gR_zp, gQ_sI, gQ_sR, gQ_sQ, gQ_sA, gQ_zp, gR_hRow, gQ_hRow, gR_hSl, gQ_hSl, gR_hLi, gQ_hLi, h7_8, h0_3, h7_27], ⟨rfl, by simp [gR_sI, gR_sR, gR_sQ, gR_sA, gR_zp, gQ_sI, gQ_sR, gQ_sQ, gQ_sA, gQ_zp, gR_hRow, gQ_hRow, gR_hSl, gQ_hSl, gR_hLi, gQ_hLi, h7_8, h0_3, h7_27], rfl, by decide, by decide, by decide⟩, ⟨rfl, by simp [gR_sI, gR_sR, gR_sQ, gR_sA, gR_zp, gQ_sI, gQ_sR, gQ_sQ, gQ_sA, gQ_zp, gR_hRow, gQ_hRow, gR_hSl, gQ_hSl, gR_hLi, gQ_hLi, h7_8, h0_3, h7_27], rfl, by decide, by decide, by decide⟩, ⟨rfl, by simp [gR_sI, gR_sR, gR_sQ, gR_sA, gR_zp, gQ_sI, gQ_sR, gQ_sQ, gQ_sA, gQ_zp, gR_hRow, gQ_hRow, gR_hSl, gQ_hSl, gR_hLi, gQ_hLi, h7_8, h0_3, h7_27], rfl, by decide, by decide, by decide⟩, by decide⟩, by decide⟩
  refine r_callV (M := mX0_init) (pc := 79) 82 dX0_init_79 rfl k0_38 (c_X0_makeAnew (d := d) hbo) rfl rfl rfl (by decide) rfl (by decide) (Nat.le_of_ble_eq_true rfl) ?_
  exact r_vret dX0_init_82 rfl rfl rfl
