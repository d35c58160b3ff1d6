/-! ctor, further on -/
theorem sr_beAnew {b : Nat} {E : HP} : SR E (beAnew b E) := sr_sI (sr_sI (sr_sI (sr_sI (sr_sI (sr_sI (sr_sI (sr_sI (sr_fill sr_rfl))))))))
theorem gR_beAnew {b g k : Nat} {E : HP} : gR (beAnew b E) g k = gR E g k := by
  have h := (sr_beAnew (b := b) (E := E)).1
  unfold gR
  rw [h]
theorem gQ_beAnew {b a : Nat} {E : HP} : gQ (beAnew b E) a = gQ E a := by
  have h := (sr_beAnew (b := b) (E := E)).2
  unfold gQ
  rw [h]
def h2_80 (E : HP) : HP := (sQ (hLi 94 87 (zp (sQ (hLi 93 87 (zp (sQ (hLi 92 87 (zp (sQ (hLi 91 87 (zp (sQ (hLi 90 87 (zp (sQ (hLi 89 87 (zp (sQ (hLi 88 87 (zp (sR (hLi 86 87 (hSl 87 (zp (zp (sR (sR (sI (sI (sI (sI (sI (sI (sR (hRow 84 85 (zp (sR (hRow 82 83 (zp (sR (zp E 81) 257 80 (some 81)) 82)) 258 80 (some 82)) 84)) 259 80 (some 84)) 260 80 (0)) 263 80 (0)) 264 80 (0)) 265 80 (0)) 266 80 (0)) 267 80 (0)) 261 80 (some 3)) 262 80 (some 75)) 86) 87))) 256 80 (some 86)) 88)) 81 0 (some 88)) 89)) 81 1 (some 89)) 90)) 81 2 (some 90)) 91)) 81 3 (some 91)) 92)) 81 4 (some 92)) 93)) 81 5 (some 93)) 94)) 81 6 (some 94))
set_option maxRecDepth 20000 in
set_option maxHeartbeats 16000000 in
theorem c_new2_80 {d : Nat} {E : HP} : Cl yX2_init mX2_init (d + 1) 14 99 [.ref 80, .ref 3, .ref 75] E 81 (.inl none, h2_80 E, 95) := by
  refine Cl.of (by decide) rfl (fun _ => rfl) rfl rfl (Nat.le_of_ble_eq_true rfl) ?_
  show Sm _ _ _ _ _ 0 [some (.ref 80), some (.ref 3), some (.ref 75), none] [] _ _
  refine r_aload_n 1 dX2_init_0 rfl rfl ?_
  refine r_objInit 4 dX2_init_1 rfl k2_3 w_oi w_oc (Nat.le_of_ble_eq_true rfl) ?_
  refine r_aload_n 5 dX2_init_4 rfl rfl ?_
  refine r_bipush (7) 7 dX2_init_5 rfl (by decide) ?_
  refine r_newQ (bc := 13) (bs := 92) 10 dX2_init_7 rfl rfl (by decide) (by decide) (by decide) (by decide) (by decide) nl2_9 ?_
  refine r_putR 13 dX2_init_10 rfl f2_11 rfl (Or.inr ⟨rfl, rfl, ff2_11⟩) rfl (by decide) ?_
  refine r_aload_n 14 dX2_init_13 rfl rfl ?_
  refine r_new (bc := 12) (bs := 91) 17 dX2_init_14 rfl n2_17 rfl ?_
  refine r_dup 18 dX2_init_17 rfl rfl ?_
  refine r_bipush (7) 20 dX2_init_18 rfl (by decide) ?_
  refine r_callI (M := mX2_init) (pc := 20) (bc := 11) (bs := 84) 23 dX2_init_20 rfl k2_19 (c_newRow (d := d + 0) (n := 83) (h := 82) (l := 7) (x := 7) rfl (by decide) rfl (by decide) (by decide) (by decide)) rfl rfl (Nat.le_of_ble_eq_true rfl) ?_
  refine r_putR 26 dX2_init_23 rfl f2_22 rfl (Or.inr ⟨rfl, rfl, ff2_22⟩) rfl (by decide) ?_
  refine r_aload_n 27 dX2_init_26 rfl rfl ?_
  refine r_new (bc := 10) (bs := 83) 30 dX2_init_27 rfl n2_17 rfl ?_
  refine r_dup 31 dX2_init_30 rfl rfl ?_
  refine r_iconst (4) 32 dX2_init_31 rfl (by decide) ?_
  refine r_callI (M := mX2_init) (pc := 32) (bc := 9) (bs := 79) 35 dX2_init_32 rfl k2_19 (c_newRow (d := d + 0) (n := 85) (h := 84) (l := 4) (x := 4) rfl (by decide) rfl (by decide) (by decide) (by decide)) rfl rfl (Nat.le_of_ble_eq_true rfl) ?_
  refine r_putR 38 dX2_init_35 rfl f2_26 rfl (Or.inr ⟨rfl, rfl, ff2_26⟩) rfl (by decide) ?_
  refine r_aload_n 39 dX2_init_38 rfl rfl ?_
  refine r_iconst (0) 40 dX2_init_39 rfl (by decide) ?_
  refine r_putI 43 dX2_init_40 rfl f2_29 rfl (by decide) ?_
  refine r_aload_n 44 dX2_init_43 rfl rfl ?_
  refine r_iconst (0) 45 dX2_init_44 rfl (by decide) ?_
  refine r_putI 48 dX2_init_45 rfl f2_33 rfl (by decide) ?_
  refine r_aload_n 49 dX2_init_48 rfl rfl ?_
  refine r_iconst (0) 50 dX2_init_49 rfl (by decide) ?_
  refine r_putI 53 dX2_init_50 rfl f2_36 rfl (by decide) ?_
  refine r_aload_n 54 dX2_init_53 rfl rfl ?_
  refine r_iconst (0) 55 dX2_init_54 rfl (by decide) ?_
  refine r_putI 58 dX2_init_55 rfl f2_39 rfl (by decide) ?_
  refine r_aload_n 59 dX2_init_58 rfl rfl ?_
  refine r_iconst (0) 60 dX2_init_59 rfl (by decide) ?_
  refine r_putI 63 dX2_init_60 rfl f2_42 rfl (by decide) ?_
  refine r_aload_n 64 dX2_init_63 rfl rfl ?_
  refine r_iconst (0) 65 dX2_init_64 rfl (by decide) ?_
  refine r_putI 68 dX2_init_65 rfl f2_45 rfl (by decide) ?_
  refine r_aload_n 69 dX2_init_68 rfl rfl ?_
  refine r_aload_n 70 dX2_init_69 rfl rfl ?_
  refine r_putR 73 dX2_init_70 rfl f2_48 rfl (Or.inl rfl) rfl (by decide) ?_
  refine r_aload_n 74 dX2_init_73 rfl rfl ?_
  refine r_aload_n 75 dX2_init_74 rfl rfl ?_
  refine r_putR 78 dX2_init_75 rfl f2_52 rfl (Or.inl rfl) rfl (by decide) ?_
  refine r_aload_n 79 dX2_init_78 rfl rfl ?_
  refine r_new (bc := 8) (bs := 70) 82 dX2_init_79 rfl n2_9 rfl ?_
  refine r_dup 83 dX2_init_82 rfl rfl ?_
  refine r_new (bc := 7) (bs := 63) 86 dX2_init_83 rfl n2_56 rfl ?_
  refine r_dup 87 dX2_init_86 rfl rfl ?_
  refine r_callI (M := mX2_init) (pc := 87) (bc := 7) (bs := 63) 90 dX2_init_87 rfl k2_58 (c_newSl (d := d + 0) (n := 88) (h := 87) rfl (by decide)) rfl rfl (Nat.le_of_ble_eq_true rfl) ?_
  refine r_callI (M := mX2_init) (pc := 90) (bc := 7) (bs := 63) 93 dX2_init_90 rfl k2_59 (c_newLi (d := d + 0) (n := 88) (h := 86) (w := 87) rfl (by decide)) rfl rfl (Nat.le_of_ble_eq_true rfl) ?_
  refine r_putR 96 dX2_init_93 rfl f2_62 rfl (Or.inr ⟨rfl, rfl, ff2_62⟩) rfl (by decide) ?_
  refine r_iconst (0) 97 dX2_init_96 rfl (by decide) ?_
  refine r_istore_n 98 dX2_init_97 rfl (by decide) rfl ?_
  refine r_iload_n 99 dX2_init_98 rfl rfl ?_
  refine r_aload_n 100 dX2_init_99 rfl rfl ?_
  refine r_getR 103 dX2_init_100 rfl f2_11 rfl rfl (by decide) (show gR _ 257 80 = some 81 by simp [gR_sI, gR_sR, gR_sQ, gR_sA, gR_zp, gQ_sI, gQ_sR, gQ_sQ, gQ_sA, gQ_zp, gR_hRow, gQ_hRow, gR_hSl, gQ_hSl, gR_hLi, gQ_hLi, gR_beAnew, gQ_beAnew, h7_8, h0_3, h7_27, h0_22, h10_42, h5_41, h4_46, h3_51, h3_54, h9_45, h4_60, h3_65, h3_68, h9_59, h4_75]) ?_
  refine r_alenQ 7 104 dX2_init_103 rfl rfl (by decide) (by decide) (by decide) rfl ?_
  refine r_icmp_ge 107 133 dX2_init_104 rfl (by decide) (fun z => absurd z (show ¬ (7 : Int32) ≤ 0 by decide)) (fun _ => ?_)
  refine r_aload_n 108 dX2_init_107 rfl rfl ?_
  refine r_getR 111 dX2_init_108 rfl f2_11 rfl rfl (by decide) (show gR _ 257 80 = some 81 by simp [gR_sI, gR_sR, gR_sQ, gR_sA, gR_zp, gQ_sI, gQ_sR, gQ_sQ, gQ_sA, gQ_zp, gR_hRow, gQ_hRow, gR_hSl, gQ_hSl, gR_hLi, gQ_hLi, gR_beAnew, gQ_beAnew, h7_8, h0_3, h7_27, h0_22, h10_42, h5_41, h4_46, h3_51, h3_54, h9_45, h4_60, h3_65, h3_68, h9_59, h4_75]) ?_
  refine r_iload_n 112 dX2_init_111 rfl rfl ?_
  refine r_new (bc := 6) (bs := 54) 115 dX2_init_112 rfl n2_9 rfl ?_
  refine r_dup 116 dX2_init_115 rfl rfl ?_
  refine r_aload_n 117 dX2_init_116 rfl rfl ?_
  refine r_getR 120 dX2_init_117 rfl f2_62 rfl rfl (by decide) (show gR _ 256 80 = some 86 by simp [gR_sI, gR_sR, gR_sQ, gR_sA, gR_zp, gQ_sI, gQ_sR, gQ_sQ, gQ_sA, gQ_zp, gR_hRow, gQ_hRow, gR_hSl, gQ_hSl, gR_hLi, gQ_hLi, gR_beAnew, gQ_beAnew, h7_8, h0_3, h7_27, h0_22, h10_42, h5_41, h4_46, h3_51, h3_54, h9_45, h4_60, h3_65, h3_68, h9_59, h4_75]) ?_
  refine r_getR 123 dX2_init_120 rfl f2_66 rfl rfl (by decide) (show gR _ 128 86 = some 87 by simp [gR_sI, gR_sR, gR_sQ, gR_sA, gR_zp, gQ_sI, gQ_sR, gQ_sQ, gQ_sA, gQ_zp, gR_hRow, gQ_hRow, gR_hSl, gQ_hSl, gR_hLi, gQ_hLi, gR_beAnew, gQ_beAnew, h7_8, h0_3, h7_27, h0_22, h10_42, h5_41, h4_46, h3_51, h3_54, h9_45, h4_60, h3_65, h3_68, h9_59, h4_75]) ?_
  refine r_callI (M := mX2_init) (pc := 123) (bc := 6) (bs := 54) 126 dX2_init_123 rfl k2_59 (c_newLi (d := d + 0) (n := 89) (h := 88) (w := 87) rfl (by decide)) rfl rfl (Nat.le_of_ble_eq_true rfl) ?_
  refine r_aast 127 dX2_init_126 rfl rfl (by decide) (by decide) (by decide) (by unfold vp_in; decide) rfl (by decide) (by decide) rfl ?_
  rw [show (0 : Int32).toNatClampNeg = 0 by decide]
  refine r_iinc (1) 130 dX2_init_127 rfl rfl (by decide) (by decide) rfl ?_
  rw [show (0 : Int32) + 1 = 1 by decide]
  refine r_goto 98 dX2_init_130 (by decide) ?_
  refine r_iload_n 99 dX2_init_98 rfl rfl ?_
  refine r_aload_n 100 dX2_init_99 rfl rfl ?_
  refine r_getR 103 dX2_init_100 rfl f2_11 rfl rfl (by decide) (show gR _ 257 80 = some 81 by simp [gR_sI, gR_sR, gR_sQ, gR_sA, gR_zp, gQ_sI, gQ_sR, gQ_sQ, gQ_sA, gQ_zp, gR_hRow, gQ_hRow, gR_hSl, gQ_hSl, gR_hLi, gQ_hLi, gR_beAnew, gQ_beAnew, h7_8, h0_3, h7_27, h0_22, h10_42, h5_41, h4_46, h3_51, h3_54, h9_45, h4_60, h3_65, h3_68, h9_59, h4_75]) ?_
  refine r_alenQ 7 104 dX2_init_103 rfl rfl (by decide) (by decide) (by decide) rfl ?_
  refine r_icmp_ge 107 133 dX2_init_104 rfl (by decide) (fun z => absurd z (show ¬ (7 : Int32) ≤ 1 by decide)) (fun _ => ?_)
  refine r_aload_n 108 dX2_init_107 rfl rfl ?_
  refine r_getR 111 dX2_init_108 rfl f2_11 rfl rfl (by decide) (show gR _ 257 80 = some 81 by simp [gR_sI, gR_sR, gR_sQ, gR_sA, gR_zp, gQ_sI, gQ_sR, gQ_sQ, gQ_sA, gQ_zp, gR_hRow, gQ_hRow, gR_hSl, gQ_hSl, gR_hLi, gQ_hLi, gR_beAnew, gQ_beAnew, h7_8, h0_3, h7_27, h0_22, h10_42, h5_41, h4_46, h3_51, h3_54, h9_45, h4_60, h3_65, h3_68, h9_59, h4_75]) ?_
  refine r_iload_n 112 dX2_init_111 rfl rfl ?_
  refine r_new (bc := 5) (bs := 45) 115 dX2_init_112 rfl n2_9 rfl ?_
  refine r_dup 116 dX2_init_115 rfl rfl ?_
  refine r_aload_n 117 dX2_init_116 rfl rfl ?_
  refine r_getR 120 dX2_init_117 rfl f2_62 rfl rfl (by decide) (show gR _ 256 80 = some 86 by simp [gR_sI, gR_sR, gR_sQ, gR_sA, gR_zp, gQ_sI, gQ_sR, gQ_sQ, gQ_sA, gQ_zp, gR_hRow, gQ_hRow, gR_hSl, gQ_hSl, gR_hLi, gQ_hLi, gR_beAnew, gQ_beAnew, h7_8, h0_3, h7_27, h0_22, h10_42, h5_41, h4_46, h3_51, h3_54, h9_45, h4_60, h3_65, h3_68, h9_59, h4_75]) ?_
  refine r_getR 123 dX2_init_120 rfl f2_66 rfl rfl (by decide) (show gR _ 128 86 = some 87 by simp [gR_sI, gR_sR, gR_sQ, gR_sA, gR_zp, gQ_sI, gQ_sR, gQ_sQ, gQ_sA, gQ_zp, gR_hRow, gQ_hRow, gR_hSl, gQ_hSl, gR_hLi, gQ_hLi, gR_beAnew, gQ_beAnew, h7_8, h0_3, h7_27, h0_22, h10_42, h5_41, h4_46, h3_51, h3_54, h9_45, h4_60, h3_65, h3_68, h9_59, h4_75]) ?_
  refine r_callI (M := mX2_init) (pc := 123) (bc := 5) (bs := 45) 126 dX2_init_123 rfl k2_59 (c_newLi (d := d + 0) (n := 90) (h := 89) (w := 87) rfl (by decide)) rfl rfl (Nat.le_of_ble_eq_true rfl) ?_
  refine r_aast 127 dX2_init_126 rfl rfl (by decide) (by decide) (by decide) (by unfold vp_in; decide) rfl (by decide) (by decide) rfl ?_
  rw [show (1 : Int32).toNatClampNeg = 1 by decide]
  refine r_iinc (1) 130 dX2_init_127 rfl rfl (by decide) (by decide) rfl ?_
  rw [show (1 : Int32) + 1 = 2 by decide]
  refine r_goto 98 dX2_init_130 (by decide) ?_
  refine r_iload_n 99 dX2_init_98 rfl rfl ?_
  refine r_aload_n 100 dX2_init_99 rfl rfl ?_
  refine r_getR 103 dX2_init_100 rfl f2_11 rfl rfl (by decide) (show gR _ 257 80 = some 81 by simp [gR_sI, gR_sR, gR_sQ, gR_sA, gR_zp, gQ_sI, gQ_sR, gQ_sQ, gQ_sA, gQ_zp, gR_hRow, gQ_hRow, gR_hSl, gQ_hSl, gR_hLi, gQ_hLi, gR_beAnew, gQ_beAnew, h7_8, h0_3, h7_27, h0_22, h10_42, h5_41, h4_46, h3_51, h3_54, h9_45, h4_60, h3_65, h3_68, h9_59, h4_75]) ?_
  refine r_alenQ 7 104 dX2_init_103 rfl rfl (by decide) (by decide) (by decide) rfl ?_
  refine r_icmp_ge 107 133 dX2_init_104 rfl (by decide) (fun z => absurd z (show ¬ (7 : Int32) ≤ 2 by decide)) (fun _ => ?_)
  refine r_aload_n 108 dX2_init_107 rfl rfl ?_
  refine r_getR 111 dX2_init_108 rfl f2_11 rfl rfl (by decide) (show gR _ 257 80 = some 81 by simp [gR_sI, gR_sR, gR_sQ, gR_sA, gR_zp, gQ_sI, gQ_sR, gQ_sQ, gQ_sA, gQ_zp, gR_hRow, gQ_hRow, gR_hSl, gQ_hSl, gR_hLi, gQ_hLi, gR_beAnew, gQ_beAnew, h7_8, h0_3, h7_27, h0_22, h10_42, h5_41, h4_46, h3_51, h3_54, h9_45, h4_60, h3_65, h3_68, h9_59, h4_75]) ?_
  refine r_iload_n 112 dX2_init_111 rfl rfl ?_
  refine r_new (bc := 4) (bs := 36) 115 dX2_init_112 rfl n2_9 rfl ?_
  refine r_dup 116 dX2_init_115 rfl rfl ?_
  refine r_aload_n 117 dX2_init_116 rfl rfl ?_
  refine r_getR 120 dX2_init_117 rfl f2_62 rfl rfl (by decide) (show gR _ 256 80 = some 86 by simp [gR_sI, gR_sR, gR_sQ, gR_sA, gR_zp, gQ_sI, gQ_sR, gQ_sQ, gQ_sA, gQ_zp, gR_hRow, gQ_hRow, gR_hSl, gQ_hSl, gR_hLi, gQ_hLi, gR_beAnew, gQ_beAnew, h7_8, h0_3, h7_27, h0_22, h10_42, h5_41, h4_46, h3_51, h3_54, h9_45, h4_60, h3_65, h3_68, h9_59, h4_75]) ?_
  refine r_getR 123 dX2_init_120 rfl f2_66 rfl rfl (by decide) (show gR _ 128 86 = some 87 by simp [gR_sI, gR_sR, gR_sQ, gR_sA, gR_zp, gQ_sI, gQ_sR, gQ_sQ, gQ_sA, gQ_zp, gR_hRow, gQ_hRow, gR_hSl, gQ_hSl, gR_hLi, gQ_hLi, gR_beAnew, gQ_beAnew, h7_8, h0_3, h7_27, h0_22, h10_42, h5_41, h4_46, h3_51, h3_54, h9_45, h4_60, h3_65, h3_68, h9_59, h4_75]) ?_
  refine r_callI (M := mX2_init) (pc := 123) (bc := 4) (bs := 36) 126 dX2_init_123 rfl k2_59 (c_newLi (d := d + 0) (n := 91) (h := 90) (w := 87) rfl (by decide)) rfl rfl (Nat.le_of_ble_eq_true rfl) ?_
  refine r_aast 127 dX2_init_126 rfl rfl (by decide) (by decide) (by decide) (by unfold vp_in; decide) rfl (by decide) (by decide) rfl ?_
  rw [show (2 : Int32).toNatClampNeg = 2 by decide]
  refine r_iinc (1) 130 dX2_init_127 rfl rfl (by decide) (by decide) rfl ?_
  rw [show (2 : Int32) + 1 = 3 by decide]
  refine r_goto 98 dX2_init_130 (by decide) ?_
  refine r_iload_n 99 dX2_init_98 rfl rfl ?_
  refine r_aload_n 100 dX2_init_99 rfl rfl ?_
  refine r_getR 103 dX2_init_100 rfl f2_11 rfl rfl (by decide) (show gR _ 257 80 = some 81 by simp [gR_sI, gR_sR, gR_sQ, gR_sA, gR_zp, gQ_sI, gQ_sR, gQ_sQ, gQ_sA, gQ_zp, gR_hRow, gQ_hRow, gR_hSl, gQ_hSl, gR_hLi, gQ_hLi, gR_beAnew, gQ_beAnew, h7_8, h0_3, h7_27, h0_22, h10_42, h5_41, h4_46, h3_51, h3_54, h9_45, h4_60, h3_65, h3_68, h9_59, h4_75]) ?_
  refine r_alenQ 7 104 dX2_init_103 rfl rfl (by decide) (by decide) (by decide) rfl ?_
  refine r_icmp_ge 107 133 dX2_init_104 rfl (by decide) (fun z => absurd z (show ¬ (7 : Int32) ≤ 3 by decide)) (fun _ => ?_)
  refine r_aload_n 108 dX2_init_107 rfl rfl ?_
  refine r_getR 111 dX2_init_108 rfl f2_11 rfl rfl (by decide) (show gR _ 257 80 = some 81 by simp [gR_sI, gR_sR, gR_sQ, gR_sA, gR_zp, gQ_sI, gQ_sR, gQ_sQ, gQ_sA, gQ_zp, gR_hRow, gQ_hRow, gR_hSl, gQ_hSl, gR_hLi, gQ_hLi, gR_beAnew, gQ_beAnew, h7_8, h0_3, h7_27, h0_22, h10_42, h5_41, h4_46, h3_51, h3_54, h9_45, h4_60, h3_65, h3_68, h9_59, h4_75]) ?_
  refine r_iload_n 112 dX2_init_111 rfl rfl ?_
  refine r_new (bc := 3) (bs := 27) 115 dX2_init_112 rfl n2_9 rfl ?_
  refine r_dup 116 dX2_init_115 rfl rfl ?_
  refine r_aload_n 117 dX2_init_116 rfl rfl ?_
  refine r_getR 120 dX2_init_117 rfl f2_62 rfl rfl (by decide) (show gR _ 256 80 = some 86 by simp [gR_sI, gR_sR, gR_sQ, gR_sA, gR_zp, gQ_sI, gQ_sR, gQ_sQ, gQ_sA, gQ_zp, gR_hRow, gQ_hRow, gR_hSl, gQ_hSl, gR_hLi, gQ_hLi, gR_beAnew, gQ_beAnew, h7_8, h0_3, h7_27, h0_22, h10_42, h5_41, h4_46, h3_51, h3_54, h9_45, h4_60, h3_65, h3_68, h9_59, h4_75]) ?_
  refine r_getR 123 dX2_init_120 rfl f2_66 rfl rfl (by decide) (show gR _ 128 86 = some 87 by simp [gR_sI, gR_sR, gR_sQ, gR_sA, gR_zp, gQ_sI, gQ_sR, gQ_sQ, gQ_sA, gQ_zp, gR_hRow, gQ_hRow, gR_hSl, gQ_hSl, gR_hLi, gQ_hLi, gR_beAnew, gQ_beAnew, h7_8, h0_3, h7_27, h0_22, h10_42, h5_41, h4_46, h3_51, h3_54, h9_45, h4_60, h3_65, h3_68, h9_59, h4_75]) ?_
  refine r_callI (M := mX2_init) (pc := 123) (bc := 3) (bs := 27) 126 dX2_init_123 rfl k2_59 (c_newLi (d := d + 0) (n := 92) (h := 91) (w := 87) rfl (by decide)) rfl rfl (Nat.le_of_ble_eq_true rfl) ?_
  refine r_aast 127 dX2_init_126 rfl rfl (by decide) (by decide) (by decide) (by unfold vp_in; decide) rfl (by decide) (by decide) rfl ?_
  rw [show (3 : Int32).toNatClampNeg = 3 by decide]
  refine r_iinc (1) 130 dX2_init_127 rfl rfl (by decide) (by decide) rfl ?_
  rw [show (3 : Int32) + 1 = 4 by decide]
  refine r_goto 98 dX2_init_130 (by decide) ?_
  refine r_iload_n 99 dX2_init_98 rfl rfl ?_
  refine r_aload_n 100 dX2_init_99 rfl rfl ?_
  refine r_getR 103 dX2_init_100 rfl f2_11 rfl rfl (by decide) (show gR _ 257 80 = some 81 by simp [gR_sI, gR_sR, gR_sQ, gR_sA, gR_zp, gQ_sI, gQ_sR, gQ_sQ, gQ_sA, gQ_zp, gR_hRow, gQ_hRow, gR_hSl, gQ_hSl, gR_hLi, gQ_hLi, gR_beAnew, gQ_beAnew, h7_8, h0_3, h7_27, h0_22, h10_42, h5_41, h4_46, h3_51, h3_54, h9_45, h4_60, h3_65, h3_68, h9_59, h4_75]) ?_
  refine r_alenQ 7 104 dX2_init_103 rfl rfl (by decide) (by decide) (by decide) rfl ?_
  refine r_icmp_ge 107 133 dX2_init_104 rfl (by decide) (fun z => absurd z (show ¬ (7 : Int32) ≤ 4 by decide)) (fun _ => ?_)
  refine r_aload_n 108 dX2_init_107 rfl rfl ?_
  refine r_getR 111 dX2_init_108 rfl f2_11 rfl rfl (by decide) (show gR _ 257 80 = some 81 by simp [gR_sI, gR_sR, gR_sQ, gR_sA, gR_zp, gQ_sI, gQ_sR, gQ_sQ, gQ_sA, gQ_zp, gR_hRow, gQ_hRow, gR_hSl, gQ_hSl, gR_hLi, gQ_hLi, gR_beAnew, gQ_beAnew, h7_8, h0_3, h7_27, h0_22, h10_42, h5_41, h4_46, h3_51, h3_54, h9_45, h4_60, h3_65, h3_68, h9_59, h4_75]) ?_
  refine r_iload_n 112 dX2_init_111 rfl rfl ?_
  refine r_new (bc := 2) (bs := 18) 115 dX2_init_112 rfl n2_9 rfl ?_
  refine r_dup 116 dX2_init_115 rfl rfl ?_
  refine r_aload_n 117 dX2_init_116 rfl rfl ?_
  refine r_getR 120 dX2_init_117 rfl f2_62 rfl rfl (by decide) (show gR _ 256 80 = some 86 by simp [gR_sI, gR_sR, gR_sQ, gR_sA, gR_zp, gQ_sI, gQ_sR, gQ_sQ, gQ_sA, gQ_zp, gR_hRow, gQ_hRow, gR_hSl, gQ_hSl, gR_hLi, gQ_hLi, gR_beAnew, gQ_beAnew, h7_8, h0_3, h7_27, h0_22, h10_42, h5_41, h4_46, h3_51, h3_54, h9_45, h4_60, h3_65, h3_68, h9_59, h4_75]) ?_
  refine r_getR 123 dX2_init_120 rfl f2_66 rfl rfl (by decide) (show gR _ 128 86 = some 87 by simp [gR_sI, gR_sR, gR_sQ, gR_sA, gR_zp, gQ_sI, gQ_sR, gQ_sQ, gQ_sA, gQ_zp, gR_hRow, gQ_hRow, gR_hSl, gQ_hSl, gR_hLi, gQ_hLi, gR_beAnew, gQ_beAnew, h7_8, h0_3, h7_27, h0_22, h10_42, h5_41, h4_46, h3_51, h3_54, h9_45, h4_60, h3_65, h3_68, h9_59, h4_75]) ?_
  refine r_callI (M := mX2_init) (pc := 123) (bc := 2) (bs := 18) 126 dX2_init_123 rfl k2_59 (c_newLi (d := d + 0) (n := 93) (h := 92) (w := 87) rfl (by decide)) rfl rfl (Nat.le_of_ble_eq_true rfl) ?_
  refine r_aast 127 dX2_init_126 rfl rfl (by decide) (by decide) (by decide) (by unfold vp_in; decide) rfl (by decide) (by decide) rfl ?_
  rw [show (4 : Int32).toNatClampNeg = 4 by decide]
  refine r_iinc (1) 130 dX2_init_127 rfl rfl (by decide) (by decide) rfl ?_
  rw [show (4 : Int32) + 1 = 5 by decide]
  refine r_goto 98 dX2_init_130 (by decide) ?_
  refine r_iload_n 99 dX2_init_98 rfl rfl ?_
  refine r_aload_n 100 dX2_init_99 rfl rfl ?_
  refine r_getR 103 dX2_init_100 rfl f2_11 rfl rfl (by decide) (show gR _ 257 80 = some 81 by simp [gR_sI, gR_sR, gR_sQ, gR_sA, gR_zp, gQ_sI, gQ_sR, gQ_sQ, gQ_sA, gQ_zp, gR_hRow, gQ_hRow, gR_hSl, gQ_hSl, gR_hLi, gQ_hLi, gR_beAnew, gQ_beAnew, h7_8, h0_3, h7_27, h0_22, h10_42, h5_41, h4_46, h3_51, h3_54, h9_45, h4_60, h3_65, h3_68, h9_59, h4_75]) ?_
  refine r_alenQ 7 104 dX2_init_103 rfl rfl (by decide) (by decide) (by decide) rfl ?_
  refine r_icmp_ge 107 133 dX2_init_104 rfl (by decide) (fun z => absurd z (show ¬ (7 : Int32) ≤ 5 by decide)) (fun _ => ?_)
  refine r_aload_n 108 dX2_init_107 rfl rfl ?_
  refine r_getR 111 dX2_init_108 rfl f2_11 rfl rfl (by decide) (show gR _ 257 80 = some 81 by simp [gR_sI, gR_sR, gR_sQ, gR_sA, gR_zp, gQ_sI, gQ_sR, gQ_sQ, gQ_sA, gQ_zp, gR_hRow, gQ_hRow, gR_hSl, gQ_hSl, gR_hLi, gQ_hLi, gR_beAnew, gQ_beAnew, h7_8, h0_3, h7_27, h0_22, h10_42, h5_41, h4_46, h3_51, h3_54, h9_45, h4_60, h3_65, h3_68, h9_59, h4_75]) ?_
  refine r_iload_n 112 dX2_init_111 rfl rfl ?_
  refine r_new (bc := 1) (bs := 9) 115 dX2_init_112 rfl n2_9 rfl ?_
  refine r_dup 116 dX2_init_115 rfl rfl ?_
  refine r_aload_n 117 dX2_init_116 rfl rfl ?_
  refine r_getR 120 dX2_init_117 rfl f2_62 rfl rfl (by decide) (show gR _ 256 80 = some 86 by simp [gR_sI, gR_sR, gR_sQ, gR_sA, gR_zp, gQ_sI, gQ_sR, gQ_sQ, gQ_sA, gQ_zp, gR_hRow, gQ_hRow, gR_hSl, gQ_hSl, gR_hLi, gQ_hLi, gR_beAnew, gQ_beAnew, h7_8, h0_3, h7_27, h0_22, h10_42, h5_41, h4_46, h3_51, h3_54, h9_45, h4_60, h3_65, h3_68, h9_59, h4_75]) ?_
  refine r_getR 123 dX2_init_120 rfl f2_66 rfl rfl (by decide) (show gR _ 128 86 = some 87 by simp [gR_sI, gR_sR, gR_sQ, gR_sA, gR_zp, gQ_sI, gQ_sR, gQ_sQ, gQ_sA, gQ_zp, gR_hRow, gQ_hRow, gR_hSl, gQ_hSl, gR_hLi, gQ_hLi, gR_beAnew, gQ_beAnew, h7_8, h0_3, h7_27, h0_22, h10_42, h5_41, h4_46, h3_51, h3_54, h9_45, h4_60, h3_65, h3_68, h9_59, h4_75]) ?_
  refine r_callI (M := mX2_init) (pc := 123) (bc := 1) (bs := 9) 126 dX2_init_123 rfl k2_59 (c_newLi (d := d + 0) (n := 94) (h := 93) (w := 87) rfl (by decide)) rfl rfl (Nat.le_of_ble_eq_true rfl) ?_
  refine r_aast 127 dX2_init_126 rfl rfl (by decide) (by decide) (by decide) (by unfold vp_in; decide) rfl (by decide) (by decide) rfl ?_
  rw [show (5 : Int32).toNatClampNeg = 5 by decide]
  refine r_iinc (1) 130 dX2_init_127 rfl rfl (by decide) (by decide) rfl ?_
  rw [show (5 : Int32) + 1 = 6 by decide]
  refine r_goto 98 dX2_init_130 (by decide) ?_
  refine r_iload_n 99 dX2_init_98 rfl rfl ?_
  refine r_aload_n 100 dX2_init_99 rfl rfl ?_
  refine r_getR 103 dX2_init_100 rfl f2_11 rfl rfl (by decide) (show gR _ 257 80 = some 81 by simp [gR_sI, gR_sR, gR_sQ, gR_sA, gR_zp, gQ_sI, gQ_sR, gQ_sQ, gQ_sA, gQ_zp, gR_hRow, gQ_hRow, gR_hSl, gQ_hSl, gR_hLi, gQ_hLi, gR_beAnew, gQ_beAnew, h7_8, h0_3, h7_27, h0_22, h10_42, h5_41, h4_46, h3_51, h3_54, h9_45, h4_60, h3_65, h3_68, h9_59, h4_75]) ?_
  refine r_alenQ 7 104 dX2_init_103 rfl rfl (by decide) (by decide) (by decide) rfl ?_
  refine r_icmp_ge 107 133 dX2_init_104 rfl (by decide) (fun z => absurd z (show ¬ (7 : Int32) ≤ 6 by decide)) (fun _ => ?_)
  refine r_aload_n 108 dX2_init_107 rfl rfl ?_
  refine r_getR 111 dX2_init_108 rfl f2_11 rfl rfl (by decide) (show gR _ 257 80 = some 81 by simp [gR_sI, gR_sR, gR_sQ, gR_sA, gR_zp, gQ_sI, gQ_sR, gQ_sQ, gQ_sA, gQ_zp, gR_hRow, gQ_hRow, gR_hSl, gQ_hSl, gR_hLi, gQ_hLi, gR_beAnew, gQ_beAnew, h7_8, h0_3, h7_27, h0_22, h10_42, h5_41, h4_46, h3_51, h3_54, h9_45, h4_60, h3_65, h3_68, h9_59, h4_75]) ?_
  refine r_iload_n 112 dX2_init_111 rfl rfl ?_
  refine r_new (bc := 0) (bs := 0) 115 dX2_init_112 rfl n2_9 rfl ?_
  refine r_dup 116 dX2_init_115 rfl rfl ?_
  refine r_aload_n 117 dX2_init_116 rfl rfl ?_
  refine r_getR 120 dX2_init_117 rfl f2_62 rfl rfl (by decide) (show gR _ 256 80 = some 86 by simp [gR_sI, gR_sR, gR_sQ, gR_sA, gR_zp, gQ_sI, gQ_sR, gQ_sQ, gQ_sA, gQ_zp, gR_hRow, gQ_hRow, gR_hSl, gQ_hSl, gR_hLi, gQ_hLi, gR_beAnew, gQ_beAnew, h7_8, h0_3, h7_27, h0_22, h10_42, h5_41, h4_46, h3_51, h3_54, h9_45, h4_60, h3_65, h3_68, h9_59, h4_75]) ?_
  refine r_getR 123 dX2_init_120 rfl f2_66 rfl rfl (by decide) (show gR _ 128 86 = some 87 by simp [gR_sI, gR_sR, gR_sQ, gR_sA, gR_zp, gQ_sI, gQ_sR, gQ_sQ, gQ_sA, gQ_zp, gR_hRow, gQ_hRow, gR_hSl, gQ_hSl, gR_hLi, gQ_hLi, gR_beAnew, gQ_beAnew, h7_8, h0_3, h7_27, h0_22, h10_42, h5_41, h4_46, h3_51, h3_54, h9_45, h4_60, h3_65, h3_68, h9_59, h4_75]) ?_
  refine r_callI (M := mX2_init) (pc := 123) (bc := 0) (bs := 0) 126 dX2_init_123 rfl k2_59 (c_newLi (d := d + 0) (n := 95) (h := 94) (w := 87) rfl (by decide)) rfl rfl (Nat.le_of_ble_eq_true rfl) ?_
  refine r_aast 127 dX2_init_126 rfl rfl (by decide) (by decide) (by decide) (by unfold vp_in; decide) rfl (by decide) (by decide) rfl ?_
  rw [show (6 : Int32).toNatClampNeg = 6 by decide]
  refine r_iinc (1) 130 dX2_init_127 rfl rfl (by decide) (by decide) rfl ?_
  rw [show (6 : Int32) + 1 = 7 by decide]
  refine r_goto 98 dX2_init_130 (by decide) ?_
  refine r_iload_n 99 dX2_init_98 rfl rfl ?_
  refine r_aload_n 100 dX2_init_99 rfl rfl ?_
  refine r_getR 103 dX2_init_100 rfl f2_11 rfl rfl (by decide) (show gR _ 257 80 = some 81 by simp [gR_sI, gR_sR, gR_sQ, gR_sA, gR_zp, gQ_sI, gQ_sR, gQ_sQ, gQ_sA, gQ_zp, gR_hRow, gQ_hRow, gR_hSl, gQ_hSl, gR_hLi, gQ_hLi, gR_beAnew, gQ_beAnew, h7_8, h0_3, h7_27, h0_22, h10_42, h5_41, h4_46, h3_51, h3_54, h9_45, h4_60, h3_65, h3_68, h9_59, h4_75]) ?_
  refine r_alenQ 7 104 dX2_init_103 rfl rfl (by decide) (by decide) (by decide) rfl ?_
  refine r_icmp_ge 107 133 dX2_init_104 rfl (by decide) (fun _ => ?_) (fun z => absurd (show (7 : Int32) ≤ 7 by decide) z)
  exact r_vret dX2_init_133 rfl rfl rfl
def hK0 (E : HP) : HP := (sR (h2_80 (zp (sR (h4_75 (zp (sI (sR (hRow 73 74 (zp (sI (sR (h9_59 (zp (sR (h9_45 (zp (sR (h5_41 (zp (sR (h0_22 (zp (sR (h0_3 (zp (sI (sI (sR (hRow 1 2 (zp E 1)) 1408 0 (some 1)) 1409 0 (0)) 1410 0 (-1)) 3)) 1411 0 (some 3)) 22)) 1412 0 (some 22)) 41)) 1413 0 (some 41)) 45)) 1414 0 (some 45)) 59)) 1415 0 (some 59)) 1416 0 (0)) 73)) 1417 0 (some 73)) 1418 0 (-1)) 75)) 1419 0 (some 75)) 80)) 1420 0 (some 80))
set_option maxRecDepth 20000 in
set_option maxHeartbeats 16000000 in
theorem c_newK {d : Nat} {E : HP} (hs : StateOK (hK0 E) 95 45) (hb : BedOK (hK0 E) 95 3) (hl : gI (hK0 E) 4 3 = nI 0) : Cl yX11_init mX11_init (d + 4) 94 2595 [.ref 0] E 1 (.inl none, stSettle 45 3 0 (hK0 E), 95) := by
  have hse := c_X9_settle (d := d) hs hb hl (by decide)
  refine Cl.of (by decide) rfl (fun _ => rfl) rfl rfl (Nat.le_of_ble_eq_true rfl) ?_
  show Sm _ _ _ _ _ 0 [some (.ref 0)] [] _ _
  refine r_aload_n 1 dX11_init_0 rfl rfl ?_
  refine r_objInit 4 dX11_init_1 rfl k11_1 w_oi w_oc (Nat.le_of_ble_eq_true rfl) ?_
  refine r_aload_n 5 dX11_init_4 rfl rfl ?_
  refine r_new (bc := 93) (bs := 2594) 8 dX11_init_5 rfl n11_7 rfl ?_
  refine r_dup 9 dX11_init_8 rfl rfl ?_
  refine r_sipush (600) 12 dX11_init_9 rfl (by decide) ?_
  refine r_callI (M := mX11_init) (pc := 12) (bc := 92) (bs := 1994) 15 dX11_init_12 rfl k11_11 (c_newRow (d := d + 3) (n := 2) (h := 1) (l := 600) (x := 600) rfl (by decide) rfl (by decide) (by decide) (by decide)) rfl rfl (Nat.le_of_ble_eq_true rfl) ?_
  refine r_putR 18 dX11_init_15 rfl f11_14 rfl (Or.inr ⟨rfl, rfl, ff11_14⟩) rfl (by decide) ?_
  refine r_aload_n 19 dX11_init_18 rfl rfl ?_
  refine r_iconst (0) 20 dX11_init_19 rfl (by decide) ?_
  refine r_putI 23 dX11_init_20 rfl f11_18 rfl (by decide) ?_
  refine r_aload_n 24 dX11_init_23 rfl rfl ?_
  refine r_iconst (-1) 25 dX11_init_24 rfl (by decide) ?_
  refine r_putI 28 dX11_init_25 rfl f11_22 rfl (by decide) ?_
  refine r_aload_n 29 dX11_init_28 rfl rfl ?_
  refine r_new (bc := 91) (bs := 1983) 32 dX11_init_29 rfl n11_25 rfl ?_
  refine r_dup 33 dX11_init_32 rfl rfl ?_
  refine r_callI (M := mX11_init) (pc := 33) (bc := 73) (bs := 1258) 36 dX11_init_33 rfl k11_27 (c_new0_3 (d := d + 1)) rfl rfl (Nat.le_of_ble_eq_true rfl) ?_
  refine r_putR 39 dX11_init_36 rfl f11_28 rfl (Or.inl rfl) rfl (by decide) ?_
  refine r_aload_n 40 dX11_init_39 rfl rfl ?_
  refine r_new (bc := 72) (bs := 1247) 43 dX11_init_40 rfl n11_25 rfl ?_
  refine r_dup 44 dX11_init_43 rfl rfl ?_
  refine r_callI (M := mX11_init) (pc := 44) (bc := 54) (bs := 522) 47 dX11_init_44 rfl k11_27 (c_new0_22 (d := d + 1)) rfl rfl (Nat.le_of_ble_eq_true rfl) ?_
  refine r_putR 50 dX11_init_47 rfl f11_32 rfl (Or.inl rfl) rfl (by decide) ?_
  refine r_aload_n 51 dX11_init_50 rfl rfl ?_
  refine r_new (bc := 53) (bs := 517) 54 dX11_init_51 rfl n11_35 rfl ?_
  refine r_dup 55 dX11_init_54 rfl rfl ?_
  refine r_aload_n 56 dX11_init_55 rfl rfl ?_
  refine r_getR 59 dX11_init_56 rfl f11_32 rfl rfl (by decide) (show gR _ 1412 0 = some 22 by simp [gR_sI, gR_sR, gR_sQ, gR_sA, gR_zp, gQ_sI, gQ_sR, gQ_sQ, gQ_sA, gQ_zp, gR_hRow, gQ_hRow, gR_hSl, gQ_hSl, gR_hLi, gQ_hLi, gR_beAnew, gQ_beAnew, h7_8, h0_3, h7_27, h0_22, h10_42, h5_41, h4_46, h3_51, h3_54, h9_45, h4_60, h3_65, h3_68, h9_59, h4_75, h2_80]) ?_
  refine r_callI (M := mX11_init) (pc := 59) (bc := 50) (bs := 511) 62 dX11_init_59 rfl k11_37 (c_new5_41 (d := d + 2)) rfl rfl (Nat.le_of_ble_eq_true rfl) ?_
  refine r_putR 65 dX11_init_62 rfl f11_40 rfl (Or.inr ⟨rfl, rfl, ff11_40⟩) rfl (by decide) ?_
  refine r_aload_n 66 dX11_init_65 rfl rfl ?_
  refine r_new (bc := 49) (bs := 507) 69 dX11_init_66 rfl n11_44 rfl ?_
  refine r_dup 70 dX11_init_69 rfl rfl ?_
  refine r_callI (M := mX11_init) (pc := 70) (bc := 36) (bs := 327) 73 dX11_init_70 rfl k11_46 (c_new9_45 (d := d + 1)) rfl rfl (Nat.le_of_ble_eq_true rfl) ?_
  refine r_putR 76 dX11_init_73 rfl f11_47 rfl (Or.inr ⟨rfl, rfl, ff11_47⟩) rfl (by decide) ?_
  refine r_aload_n 77 dX11_init_76 rfl rfl ?_
  refine r_new (bc := 35) (bs := 323) 80 dX11_init_77 rfl n11_44 rfl ?_
  refine r_dup 81 dX11_init_80 rfl rfl ?_
  refine r_callI (M := mX11_init) (pc := 81) (bc := 22) (bs := 143) 84 dX11_init_81 rfl k11_46 (c_new9_59 (d := d + 1)) rfl rfl (Nat.le_of_ble_eq_true rfl) ?_
  refine r_putR 87 dX11_init_84 rfl f11_51 rfl (Or.inr ⟨rfl, rfl, ff11_51⟩) rfl (by decide) ?_
  refine r_aload_n 88 dX11_init_87 rfl rfl ?_
  refine r_iconst (0) 89 dX11_init_88 rfl (by decide) ?_
  refine r_putZ 92 dX11_init_89 rfl f11_54 rfl (by decide) (by decide) ?_
  refine r_aload_n 93 dX11_init_92 rfl rfl ?_
  refine r_new (bc := 21) (bs := 142) 96 dX11_init_93 rfl n11_7 rfl ?_
  refine r_dup 97 dX11_init_96 rfl rfl ?_
  refine r_bipush (7) 99 dX11_init_97 rfl (by decide) ?_
  refine r_callI (M := mX11_init) (pc := 99) (bc := 20) (bs := 135) 102 dX11_init_99 rfl k11_11 (c_newRow (d := d + 3) (n := 74) (h := 73) (l := 7) (x := 7) rfl (by decide) rfl (by decide) (by decide) (by decide)) rfl rfl (Nat.le_of_ble_eq_true rfl) ?_
  refine r_putR 105 dX11_init_102 rfl f11_58 rfl (Or.inr ⟨rfl, rfl, ff11_58⟩) rfl (by decide) ?_
  refine r_aload_n 106 dX11_init_105 rfl rfl ?_
  refine r_iconst (-1) 107 dX11_init_106 rfl (by decide) ?_
  refine r_putI 110 dX11_init_107 rfl f11_61 rfl (by decide) ?_
  refine r_aload_n 111 dX11_init_110 rfl rfl ?_
  refine r_new (bc := 19) (bs := 127) 114 dX11_init_111 rfl n11_64 rfl ?_
  refine r_dup 115 dX11_init_114 rfl rfl ?_
  refine r_callI (M := mX11_init) (pc := 115) (bc := 15) (bs := 111) 118 dX11_init_115 rfl k11_66 (c_new4_75 (d := d + 2)) rfl rfl (Nat.le_of_ble_eq_true rfl) ?_
  refine r_putR 121 dX11_init_118 rfl f11_67 rfl (Or.inr ⟨rfl, rfl, ff11_67⟩) rfl (by decide) ?_
  refine r_aload_n 122 dX11_init_121 rfl rfl ?_
  refine r_new (bc := 14) (bs := 99) 125 dX11_init_122 rfl n11_71 rfl ?_
  refine r_dup 126 dX11_init_125 rfl rfl ?_
  refine r_aload_n 127 dX11_init_126 rfl rfl ?_
  refine r_getR 130 dX11_init_127 rfl f11_28 rfl rfl (by decide) (show gR _ 1411 0 = some 3 by simp [gR_sI, gR_sR, gR_sQ, gR_sA, gR_zp, gQ_sI, gQ_sR, gQ_sQ, gQ_sA, gQ_zp, gR_hRow, gQ_hRow, gR_hSl, gQ_hSl, gR_hLi, gQ_hLi, gR_beAnew, gQ_beAnew, h7_8, h0_3, h7_27, h0_22, h10_42, h5_41, h4_46, h3_51, h3_54, h9_45, h4_60, h3_65, h3_68, h9_59, h4_75, h2_80]) ?_
  refine r_aload_n 131 dX11_init_130 rfl rfl ?_
  refine r_getR 134 dX11_init_131 rfl f11_67 rfl rfl (by decide) (show gR _ 1419 0 = some 75 by simp [gR_sI, gR_sR, gR_sQ, gR_sA, gR_zp, gQ_sI, gQ_sR, gQ_sQ, gQ_sA, gQ_zp, gR_hRow, gQ_hRow, gR_hSl, gQ_hSl, gR_hLi, gQ_hLi, gR_beAnew, gQ_beAnew, h7_8, h0_3, h7_27, h0_22, h10_42, h5_41, h4_46, h3_51, h3_54, h9_45, h4_60, h3_65, h3_68, h9_59, h4_75, h2_80]) ?_
  refine r_callI (M := mX11_init) (pc := 134) (bc := 0) (bs := 0) 137 dX11_init_134 rfl k11_73 (c_new2_80 (d := d + 2)) rfl rfl (Nat.le_of_ble_eq_true rfl) ?_
  refine r_putR 140 dX11_init_137 rfl f11_76 rfl (Or.inr ⟨rfl, rfl, ff11_76⟩) rfl (by decide) ?_
  refine r_aload_n 141 dX11_init_140 rfl rfl ?_
  refine r_getR 144 dX11_init_141 rfl f11_47 rfl rfl (by decide) (show gR _ 1414 0 = some 45 by simp [gR_sI, gR_sR, gR_sQ, gR_sA, gR_zp, gQ_sI, gQ_sR, gQ_sQ, gQ_sA, gQ_zp, gR_hRow, gQ_hRow, gR_hSl, gQ_hSl, gR_hLi, gQ_hLi, gR_beAnew, gQ_beAnew, h7_8, h0_3, h7_27, h0_22, h10_42, h5_41, h4_46, h3_51, h3_54, h9_45, h4_60, h3_65, h3_68, h9_59, h4_75, h2_80]) ?_
  refine r_aload_n 145 dX11_init_144 rfl rfl ?_
  refine r_getR 148 dX11_init_145 rfl f11_28 rfl rfl (by decide) (show gR _ 1411 0 = some 3 by simp [gR_sI, gR_sR, gR_sQ, gR_sA, gR_zp, gQ_sI, gQ_sR, gQ_sQ, gQ_sA, gQ_zp, gR_hRow, gQ_hRow, gR_hSl, gQ_hSl, gR_hLi, gQ_hLi, gR_beAnew, gQ_beAnew, h7_8, h0_3, h7_27, h0_22, h10_42, h5_41, h4_46, h3_51, h3_54, h9_45, h4_60, h3_65, h3_68, h9_59, h4_75, h2_80]) ?_
  refine r_callV (M := mX11_init) (pc := 148) 151 dX11_init_148 rfl k11_80 hse rfl rfl rfl (by decide) rfl (by decide) (Nat.le_of_ble_eq_true rfl) ?_
  exact r_vret dX11_init_151 rfl rfl rfl
theorem r_aastS {M : MI} {d bc bs n pc : Nat} {out : OUT} {ls : List (Option Value)} {st : List Value} {E : HP} {a l9 i9 : Nat} {i : Int32} {q : String × Nat × String × List Int32} (pc2 : Nat) (hd : decode M.2.1 pc = .ok (.aastore, 1)) (hp : pc + 1 = pc2) (hs : sh a = (104, l9)) (hn : a < n) (hi : vp_in i l9) (hq : stL[i9]? = some q) (kk : Sm M d bc bs out pc2 ls st (sQ E a i.toNatClampNeg (some (1000 + i9))) n) : Sm M d bc bs out pc ls (.ref (1000 + i9) :: .int i :: .ref a :: st) E n := by
  subst hp
  intro G p l e s m args below meth c R H locs cells slots lsA Q C F hS hW hl h1 h2
  have hK := C.2.2.2.2.2.2.2.2.2.1.2.1
  obtain ⟨-, hO, -⟩ := kk_S C i9 q hq
  obtain ⟨cell, g1, g2, g3, -⟩ := va_O.kept hO hS.2.1
  rw [List.map_cons, tr_hi (by omega)]
  refine w_aast (cv := 0) C.1 C.2.1 hK hW.1 (wl_Dn hW) hS a 4 (by rw [wl_get hn, ent_qa hs (by decide)]) rfl g1 g2 g3 (va_asg _ _) hi hd fun H1 locs1 hP1 hS1 hz => ?_
  have hP2 := hP1
  rw [show G.2.1 (1000 + i9) = ad G (1000 + i9) from (ad_hi (by omega)).symm] at hP2
  rw [wl_sQ hs (by decide)] at hP2
  exact kk G p l e s m args below meth c R H1 locs1 cells slots lsA Q C F hS1 (WL_up hW hP2 hz) hl h1 h2
def hM0 (E : HP) : HP := (sR (zp (sR (zp (sR (zp (sR (zp (sR (zp (sR (zp (sR (zp (sR (zp (sR (zp (sR (zp (sR (zp (sR (zp (sR (zp (sR (zp (sR (zp (sR (zp (sR (zp (sR (zp (sR (zp (sR (zp (sR (zp (sR (zp (sR (zp (sR (zp (sR (zp (sI (sR (zp (sR (zp (sI (sR (zp (sR (zp (sR (zp (sR (zp (sR (zp (sR (zp (sR (zp (sR (zp (sR (zp (sR (zp (sR (sA (sA (sA (sA (sA (sA (sA (sA (sA (sA (sA (sA (sA (sA (sA (sA (zp (sR (sQ (sQ (sQ (sQ (sQ (sQ (sQ (zp (sR (sQ (sQ (sQ (zp E 96) 96 0 (some 1021)) 96 1 (some 1022)) 96 2 (some 1023)) 1536 95 (some 96)) 97) 97 0 (some 1024)) 97 1 (some 1025)) 97 2 (some 1026)) 97 3 (some 1027)) 97 4 (some 1028)) 97 5 (some 1029)) 97 6 (some 1030)) 1537 95 (some 97)) 98) 98 0 (0)) 98 1 (20)) 98 2 (3)) 98 3 (480)) 98 4 (15)) 98 5 (0)) 98 6 (0)) 98 7 (0)) 98 8 (0)) 98 9 (20)) 98 10 (3)) 98 11 (480)) 98 12 (15)) 98 13 (0)) 98 14 (0)) 98 15 (0)) 1539 95 (some 98)) 99) 1540 95 (some 99)) 100) 1541 95 (some 100)) 101) 1542 95 (some 101)) 102) 1543 95 (some 102)) 103) 1544 95 (some 103)) 104) 1545 95 (some 104)) 105) 1546 95 (some 105)) 106) 1547 95 (some 106)) 107) 1548 95 (some 107)) 108) 1549 95 (some 108)) 1559 95 (-1)) 109) 1560 95 (some 109)) 110) 1561 95 (some 110)) 1563 95 (-1)) 111) 1568 95 (some 111)) 112) 1569 95 (some 112)) 113) 1570 95 (some 113)) 114) 1571 95 (some 114)) 115) 1572 95 (some 115)) 116) 1573 95 (some 116)) 117) 1574 95 (some 117)) 118) 1575 95 (some 118)) 119) 1576 95 (some 119)) 120) 1577 95 (some 120)) 121) 1578 95 (some 121)) 122) 1579 95 (some 122)) 123) 1580 95 (some 123)) 124) 1590 95 (some 124)) 125) 1591 95 (some 125)) 126) 1595 95 (some 126)) 127) 1596 95 (some 127)) 128) 1597 95 (some 128)) 129) 1598 95 (some 129)) 130) 1603 95 (some 130)) 131) 1604 95 (some 131)) 132) 1605 95 (some 132)) 133) 1606 95 (some 133)) 134) 1607 95 (some 134)) 135) 1608 95 (some 135))
set_option maxRecDepth 20000 in
set_option maxHeartbeats 16000000 in
theorem c_newM {d : Nat} {E : HP} : Cl yX12_init mX12_init d 40 8398 [.ref 95] E 96 (.inl none, hM0 E, 136) := by
  refine Cl.of (by decide) rfl (fun _ => rfl) rfl rfl (Nat.le_of_ble_eq_true rfl) ?_
  show Sm _ _ _ _ _ 0 [some (.ref 95)] [] _ _
  refine r_aload_n 1 dX12_init_0 rfl rfl ?_
  refine r_objInit 4 dX12_init_1 rfl k12_3 w_oi w_oc (Nat.le_of_ble_eq_true rfl) ?_
  refine r_aload_n 5 dX12_init_4 rfl rfl ?_
  refine r_iconst (3) 6 dX12_init_5 rfl (by decide) ?_
  refine r_newQ (l9 := 3) (bc := 39) (bs := 8395) 9 dX12_init_6 rfl rfl (by decide) (by decide) (by decide) (by decide) (by decide) nl12_9 ?_
  refine r_dup 10 dX12_init_9 rfl rfl ?_
  refine r_iconst (0) 11 dX12_init_10 rfl (by decide) ?_
  refine r_ldcS (i := 21) 13 dX12_init_11 rfl rfl ?_
  refine r_aastS (i9 := 21) 14 dX12_init_13 rfl rfl (by decide) (by unfold vp_in; decide) rfl ?_
  rw [show (0 : Int32).toNatClampNeg = 0 by decide]
  refine r_dup 15 dX12_init_14 rfl rfl ?_
  refine r_iconst (1) 16 dX12_init_15 rfl (by decide) ?_
  refine r_ldcS (i := 22) 18 dX12_init_16 rfl rfl ?_
  refine r_aastS (i9 := 22) 19 dX12_init_18 rfl rfl (by decide) (by unfold vp_in; decide) rfl ?_
  rw [show (1 : Int32).toNatClampNeg = 1 by decide]
  refine r_dup 20 dX12_init_19 rfl rfl ?_
  refine r_iconst (2) 21 dX12_init_20 rfl (by decide) ?_
  refine r_ldcS (i := 23) 23 dX12_init_21 rfl rfl ?_
  refine r_aastS (i9 := 23) 24 dX12_init_23 rfl rfl (by decide) (by unfold vp_in; decide) rfl ?_
  rw [show (2 : Int32).toNatClampNeg = 2 by decide]
  refine r_putR 27 dX12_init_24 rfl f12_17 rfl (Or.inr ⟨rfl, rfl, ff12_17⟩) rfl (by decide) ?_
  refine r_aload_n 28 dX12_init_27 rfl rfl ?_
  refine r_bipush (7) 30 dX12_init_28 rfl (by decide) ?_
  refine r_newQ (l9 := 7) (bc := 38) (bs := 8388) 33 dX12_init_30 rfl rfl (by decide) (by decide) (by decide) (by decide) (by decide) nl12_9 ?_
  refine r_dup 34 dX12_init_33 rfl rfl ?_
  refine r_iconst (0) 35 dX12_init_34 rfl (by decide) ?_
  refine r_ldcS (i := 24) 37 dX12_init_35 rfl rfl ?_
  refine r_aastS (i9 := 24) 38 dX12_init_37 rfl rfl (by decide) (by unfold vp_in; decide) rfl ?_
  rw [show (0 : Int32).toNatClampNeg = 0 by decide]
  refine r_dup 39 dX12_init_38 rfl rfl ?_
  refine r_iconst (1) 40 dX12_init_39 rfl (by decide) ?_
  refine r_ldcS (i := 25) 42 dX12_init_40 rfl rfl ?_
  refine r_aastS (i9 := 25) 43 dX12_init_42 rfl rfl (by decide) (by unfold vp_in; decide) rfl ?_
  rw [show (1 : Int32).toNatClampNeg = 1 by decide]
  refine r_dup 44 dX12_init_43 rfl rfl ?_
  refine r_iconst (2) 45 dX12_init_44 rfl (by decide) ?_
  refine r_ldcS (i := 26) 47 dX12_init_45 rfl rfl ?_
  refine r_aastS (i9 := 26) 48 dX12_init_47 rfl rfl (by decide) (by unfold vp_in; decide) rfl ?_
  rw [show (2 : Int32).toNatClampNeg = 2 by decide]
  refine r_dup 49 dX12_init_48 rfl rfl ?_
  refine r_iconst (3) 50 dX12_init_49 rfl (by decide) ?_
  refine r_ldcS (i := 27) 52 dX12_init_50 rfl rfl ?_
  refine r_aastS (i9 := 27) 53 dX12_init_52 rfl rfl (by decide) (by unfold vp_in; decide) rfl ?_
  rw [show (3 : Int32).toNatClampNeg = 3 by decide]
  refine r_dup 54 dX12_init_53 rfl rfl ?_
  refine r_iconst (4) 55 dX12_init_54 rfl (by decide) ?_
  refine r_ldcS (i := 28) 57 dX12_init_55 rfl rfl ?_
  refine r_aastS (i9 := 28) 58 dX12_init_57 rfl rfl (by decide) (by unfold vp_in; decide) rfl ?_
  rw [show (4 : Int32).toNatClampNeg = 4 by decide]
  refine r_dup 59 dX12_init_58 rfl rfl ?_
  refine r_iconst (5) 60 dX12_init_59 rfl (by decide) ?_
  refine r_ldcS (i := 29) 62 dX12_init_60 rfl rfl ?_
  refine r_aastS (i9 := 29) 63 dX12_init_62 rfl rfl (by decide) (by unfold vp_in; decide) rfl ?_
  rw [show (5 : Int32).toNatClampNeg = 5 by decide]
  refine r_dup 64 dX12_init_63 rfl rfl ?_
  refine r_bipush (6) 66 dX12_init_64 rfl (by decide) ?_
  refine r_ldcS (i := 30) 68 dX12_init_66 rfl rfl ?_
  refine r_aastS (i9 := 30) 69 dX12_init_68 rfl rfl (by decide) (by unfold vp_in; decide) rfl ?_
  rw [show (6 : Int32).toNatClampNeg = 6 by decide]
  refine r_putR 72 dX12_init_69 rfl f12_35 rfl (Or.inr ⟨rfl, rfl, ff12_35⟩) rfl (by decide) ?_
  refine r_aload_n 73 dX12_init_72 rfl rfl ?_
  refine r_bipush (16) 75 dX12_init_73 rfl (by decide) ?_
  refine r_newI (l9 := 16) (bc := 37) (bs := 8372) 77 dX12_init_75 rfl rfl (by decide) (by decide) (by decide) w_ac_int ?_
  refine r_dup 78 dX12_init_77 rfl rfl ?_
  refine r_iconst (0) 79 dX12_init_78 rfl (by decide) ?_
  refine r_iconst (0) 80 dX12_init_79 rfl (by decide) ?_
  refine r_iast 81 dX12_init_80 rfl rfl (by decide) (by unfold vp_in; decide) ?_
  rw [show (0 : Int32).toNatClampNeg = 0 by decide]
  refine r_dup 82 dX12_init_81 rfl rfl ?_
  refine r_iconst (1) 83 dX12_init_82 rfl (by decide) ?_
  refine r_bipush (20) 85 dX12_init_83 rfl (by decide) ?_
  refine r_iast 86 dX12_init_85 rfl rfl (by decide) (by unfold vp_in; decide) ?_
  rw [show (1 : Int32).toNatClampNeg = 1 by decide]
  refine r_dup 87 dX12_init_86 rfl rfl ?_
  refine r_iconst (2) 88 dX12_init_87 rfl (by decide) ?_
  refine r_iconst (3) 89 dX12_init_88 rfl (by decide) ?_
  refine r_iast 90 dX12_init_89 rfl rfl (by decide) (by unfold vp_in; decide) ?_
  rw [show (2 : Int32).toNatClampNeg = 2 by decide]
  refine r_dup 91 dX12_init_90 rfl rfl ?_
  refine r_iconst (3) 92 dX12_init_91 rfl (by decide) ?_
  refine r_sipush (480) 95 dX12_init_92 rfl (by decide) ?_
  refine r_iast 96 dX12_init_95 rfl rfl (by decide) (by unfold vp_in; decide) ?_
  rw [show (3 : Int32).toNatClampNeg = 3 by decide]
  refine r_dup 97 dX12_init_96 rfl rfl ?_
  refine r_iconst (4) 98 dX12_init_97 rfl (by decide) ?_
  refine r_bipush (15) 100 dX12_init_98 rfl (by decide) ?_
  refine r_iast 101 dX12_init_100 rfl rfl (by decide) (by unfold vp_in; decide) ?_
  rw [show (4 : Int32).toNatClampNeg = 4 by decide]
  refine r_dup 102 dX12_init_101 rfl rfl ?_
  refine r_iconst (5) 103 dX12_init_102 rfl (by decide) ?_
  refine r_iconst (0) 104 dX12_init_103 rfl (by decide) ?_
  refine r_iast 105 dX12_init_104 rfl rfl (by decide) (by unfold vp_in; decide) ?_
  rw [show (5 : Int32).toNatClampNeg = 5 by decide]
  refine r_dup 106 dX12_init_105 rfl rfl ?_
  refine r_bipush (6) 108 dX12_init_106 rfl (by decide) ?_
  refine r_iconst (0) 109 dX12_init_108 rfl (by decide) ?_
  refine r_iast 110 dX12_init_109 rfl rfl (by decide) (by unfold vp_in; decide) ?_
  rw [show (6 : Int32).toNatClampNeg = 6 by decide]
  refine r_dup 111 dX12_init_110 rfl rfl ?_
  refine r_bipush (7) 113 dX12_init_111 rfl (by decide) ?_
  refine r_iconst (0) 114 dX12_init_113 rfl (by decide) ?_
  refine r_iast 115 dX12_init_114 rfl rfl (by decide) (by unfold vp_in; decide) ?_
  rw [show (7 : Int32).toNatClampNeg = 7 by decide]
  refine r_dup 116 dX12_init_115 rfl rfl ?_
  refine r_bipush (8) 118 dX12_init_116 rfl (by decide) ?_
  refine r_iconst (0) 119 dX12_init_118 rfl (by decide) ?_
  refine r_iast 120 dX12_init_119 rfl rfl (by decide) (by unfold vp_in; decide) ?_
  rw [show (8 : Int32).toNatClampNeg = 8 by decide]
  refine r_dup 121 dX12_init_120 rfl rfl ?_
  refine r_bipush (9) 123 dX12_init_121 rfl (by decide) ?_
  refine r_bipush (20) 125 dX12_init_123 rfl (by decide) ?_
  refine r_iast 126 dX12_init_125 rfl rfl (by decide) (by unfold vp_in; decide) ?_
  rw [show (9 : Int32).toNatClampNeg = 9 by decide]
  refine r_dup 127 dX12_init_126 rfl rfl ?_
  refine r_bipush (10) 129 dX12_init_127 rfl (by decide) ?_
  refine r_iconst (3) 130 dX12_init_129 rfl (by decide) ?_
  refine r_iast 131 dX12_init_130 rfl rfl (by decide) (by unfold vp_in; decide) ?_
  rw [show (10 : Int32).toNatClampNeg = 10 by decide]
  refine r_dup 132 dX12_init_131 rfl rfl ?_
  refine r_bipush (11) 134 dX12_init_132 rfl (by decide) ?_
  refine r_sipush (480) 137 dX12_init_134 rfl (by decide) ?_
  refine r_iast 138 dX12_init_137 rfl rfl (by decide) (by unfold vp_in; decide) ?_
  rw [show (11 : Int32).toNatClampNeg = 11 by decide]
  refine r_dup 139 dX12_init_138 rfl rfl ?_
  refine r_bipush (12) 141 dX12_init_139 rfl (by decide) ?_
  refine r_bipush (15) 143 dX12_init_141 rfl (by decide) ?_
  refine r_iast 144 dX12_init_143 rfl rfl (by decide) (by unfold vp_in; decide) ?_
  rw [show (12 : Int32).toNatClampNeg = 12 by decide]
  refine r_dup 145 dX12_init_144 rfl rfl ?_
  refine r_bipush (13) 147 dX12_init_145 rfl (by decide) ?_
  refine r_iconst (0) 148 dX12_init_147 rfl (by decide) ?_
  refine r_iast 149 dX12_init_148 rfl rfl (by decide) (by unfold vp_in; decide) ?_
  rw [show (13 : Int32).toNatClampNeg = 13 by decide]
  refine r_dup 150 dX12_init_149 rfl rfl ?_
  refine r_bipush (14) 152 dX12_init_150 rfl (by decide) ?_
  refine r_iconst (0) 153 dX12_init_152 rfl (by decide) ?_
  refine r_iast 154 dX12_init_153 rfl rfl (by decide) (by unfold vp_in; decide) ?_
  rw [show (14 : Int32).toNatClampNeg = 14 by decide]
  refine r_dup 155 dX12_init_154 rfl rfl ?_
  refine r_bipush (15) 157 dX12_init_155 rfl (by decide) ?_
  refine r_iconst (0) 158 dX12_init_157 rfl (by decide) ?_
  refine r_iast 159 dX12_init_158 rfl rfl (by decide) (by unfold vp_in; decide) ?_
  rw [show (15 : Int32).toNatClampNeg = 15 by decide]
  refine r_putR 162 dX12_init_159 rfl f12_38 rfl (Or.inr ⟨rfl, rfl, ff12_38⟩) rfl (by decide) ?_
  refine r_aload_n 163 dX12_init_162 rfl rfl ?_
  refine r_bipush (14) 165 dX12_init_163 rfl (by decide) ?_
  refine r_newI (l9 := 14) (bc := 36) (bs := 8358) 167 dX12_init_165 rfl rfl (by decide) (by decide) (by decide) w_ac_int ?_
  refine r_putR 170 dX12_init_167 rfl f12_42 rfl (Or.inr ⟨rfl, rfl, ff12_42⟩) rfl (by decide) ?_
  refine r_aload_n 171 dX12_init_170 rfl rfl ?_
  refine r_bipush (28) 173 dX12_init_171 rfl (by decide) ?_
  refine r_newI (l9 := 28) (bc := 35) (bs := 8330) 175 dX12_init_173 rfl rfl (by decide) (by decide) (by decide) w_ac_int ?_
  refine r_putR 178 dX12_init_175 rfl f12_45 rfl (Or.inr ⟨rfl, rfl, ff12_45⟩) rfl (by decide) ?_
  refine r_aload_n 179 dX12_init_178 rfl rfl ?_
  refine r_bipush (14) 181 dX12_init_179 rfl (by decide) ?_
  refine r_newI (l9 := 14) (bc := 34) (bs := 8316) 183 dX12_init_181 rfl rfl (by decide) (by decide) (by decide) w_ac_int ?_
  refine r_putR 186 dX12_init_183 rfl f12_48 rfl (Or.inr ⟨rfl, rfl, ff12_48⟩) rfl (by decide) ?_
  refine r_aload_n 187 dX12_init_186 rfl rfl ?_
  refine r_bipush (14) 189 dX12_init_187 rfl (by decide) ?_
  refine r_newI (l9 := 14) (bc := 33) (bs := 8302) 191 dX12_init_189 rfl rfl (by decide) (by decide) (by decide) w_ac_int ?_
  refine r_putR 194 dX12_init_191 rfl f12_50 rfl (Or.inr ⟨rfl, rfl, ff12_50⟩) rfl (by decide) ?_
  refine r_aload_n 195 dX12_init_194 rfl rfl ?_
  refine r_bipush (14) 197 dX12_init_195 rfl (by decide) ?_
  refine r_newI (l9 := 14) (bc := 32) (bs := 8288) 199 dX12_init_197 rfl rfl (by decide) (by decide) (by decide) w_ac_int ?_
  refine r_putR 202 dX12_init_199 rfl f12_53 rfl (Or.inr ⟨rfl, rfl, ff12_53⟩) rfl (by decide) ?_
  refine r_aload_n 203 dX12_init_202 rfl rfl ?_
  refine r_bipush (14) 205 dX12_init_203 rfl (by decide) ?_
  refine r_newI (l9 := 14) (bc := 31) (bs := 8274) 207 dX12_init_205 rfl rfl (by decide) (by decide) (by decide) w_ac_int ?_
  refine r_putR 210 dX12_init_207 rfl f12_56 rfl (Or.inr ⟨rfl, rfl, ff12_56⟩) rfl (by decide) ?_
  refine r_aload_n 211 dX12_init_210 rfl rfl ?_
  refine r_bipush (14) 213 dX12_init_211 rfl (by decide) ?_
  refine r_newI (l9 := 14) (bc := 30) (bs := 8260) 215 dX12_init_213 rfl rfl (by decide) (by decide) (by decide) w_ac_int ?_
  refine r_putR 218 dX12_init_215 rfl f12_59 rfl (Or.inr ⟨rfl, rfl, ff12_59⟩) rfl (by decide) ?_
  refine r_aload_n 219 dX12_init_218 rfl rfl ?_
  refine r_sipush (1200) 222 dX12_init_219 rfl (by decide) ?_
  refine r_newI (l9 := 1200) (bc := 29) (bs := 7060) 224 dX12_init_222 rfl rfl (by decide) (by decide) (by decide) w_ac_int ?_
  refine r_putR 227 dX12_init_224 rfl f12_62 rfl (Or.inr ⟨rfl, rfl, ff12_62⟩) rfl (by decide) ?_
  refine r_aload_n 228 dX12_init_227 rfl rfl ?_
  refine r_iconst (3) 229 dX12_init_228 rfl (by decide) ?_
  refine r_newI (l9 := 3) (bc := 28) (bs := 7057) 231 dX12_init_229 rfl rfl (by decide) (by decide) (by decide) w_ac_int ?_
  refine r_putR 234 dX12_init_231 rfl f12_65 rfl (Or.inr ⟨rfl, rfl, ff12_65⟩) rfl (by decide) ?_
  refine r_aload_n 235 dX12_init_234 rfl rfl ?_
  refine r_sipush (600) 238 dX12_init_235 rfl (by decide) ?_
  refine r_newI (l9 := 600) (bc := 27) (bs := 6457) 240 dX12_init_238 rfl rfl (by decide) (by decide) (by decide) w_ac_int ?_
  refine r_putR 243 dX12_init_240 rfl f12_68 rfl (Or.inr ⟨rfl, rfl, ff12_68⟩) rfl (by decide) ?_
  refine r_aload_n 244 dX12_init_243 rfl rfl ?_
  refine r_iconst (-1) 245 dX12_init_244 rfl (by decide) ?_
  refine r_putI 248 dX12_init_245 rfl f12_71 rfl (by decide) ?_
  refine r_aload_n 249 dX12_init_248 rfl rfl ?_
  refine r_bipush (7) 251 dX12_init_249 rfl (by decide) ?_
  refine r_newI (l9 := 7) (bc := 26) (bs := 6450) 253 dX12_init_251 rfl rfl (by decide) (by decide) (by decide) w_ac_int ?_
  refine r_putR 256 dX12_init_253 rfl f12_75 rfl (Or.inr ⟨rfl, rfl, ff12_75⟩) rfl (by decide) ?_
  refine r_aload_n 257 dX12_init_256 rfl rfl ?_
  refine r_sipush (720) 260 dX12_init_257 rfl (by decide) ?_
  refine r_newI (l9 := 720) (bc := 25) (bs := 5730) 262 dX12_init_260 rfl rfl (by decide) (by decide) (by decide) w_ac_int ?_
  refine r_putR 265 dX12_init_262 rfl f12_78 rfl (Or.inr ⟨rfl, rfl, ff12_78⟩) rfl (by decide) ?_
  refine r_aload_n 266 dX12_init_265 rfl rfl ?_
  refine r_iconst (-1) 267 dX12_init_266 rfl (by decide) ?_
  refine r_putI 270 dX12_init_267 rfl f12_81 rfl (by decide) ?_
  refine r_aload_n 271 dX12_init_270 rfl rfl ?_
  refine r_bipush (7) 273 dX12_init_271 rfl (by decide) ?_
  refine r_newI (l9 := 7) (bc := 24) (bs := 5723) 275 dX12_init_273 rfl rfl (by decide) (by decide) (by decide) w_ac_int ?_
  refine r_putR 278 dX12_init_275 rfl f12_84 rfl (Or.inr ⟨rfl, rfl, ff12_84⟩) rfl (by decide) ?_
  refine r_aload_n 279 dX12_init_278 rfl rfl ?_
  refine r_bipush (64) 281 dX12_init_279 rfl (by decide) ?_
  refine r_newI (l9 := 64) (bc := 23) (bs := 5659) 283 dX12_init_281 rfl rfl (by decide) (by decide) (by decide) w_ac_int ?_
  refine r_putR 286 dX12_init_283 rfl f12_87 rfl (Or.inr ⟨rfl, rfl, ff12_87⟩) rfl (by decide) ?_
  refine r_aload_n 287 dX12_init_286 rfl rfl ?_
  refine r_bipush (7) 289 dX12_init_287 rfl (by decide) ?_
  refine r_newI (l9 := 7) (bc := 22) (bs := 5652) 291 dX12_init_289 rfl rfl (by decide) (by decide) (by decide) w_ac_int ?_
  refine r_putR 294 dX12_init_291 rfl f12_90 rfl (Or.inr ⟨rfl, rfl, ff12_90⟩) rfl (by decide) ?_
  refine r_aload_n 295 dX12_init_294 rfl rfl ?_
  refine r_bipush (7) 297 dX12_init_295 rfl (by decide) ?_
  refine r_newI (l9 := 7) (bc := 21) (bs := 5645) 299 dX12_init_297 rfl rfl (by decide) (by decide) (by decide) w_ac_int ?_
  refine r_putR 302 dX12_init_299 rfl f12_93 rfl (Or.inr ⟨rfl, rfl, ff12_93⟩) rfl (by decide) ?_
  refine r_aload_n 303 dX12_init_302 rfl rfl ?_
  refine r_bipush (7) 305 dX12_init_303 rfl (by decide) ?_
  refine r_newI (l9 := 7) (bc := 20) (bs := 5638) 307 dX12_init_305 rfl rfl (by decide) (by decide) (by decide) w_ac_int ?_
  refine r_putR 310 dX12_init_307 rfl f12_96 rfl (Or.inr ⟨rfl, rfl, ff12_96⟩) rfl (by decide) ?_
  refine r_aload_n 311 dX12_init_310 rfl rfl ?_
  refine r_bipush (7) 313 dX12_init_311 rfl (by decide) ?_
  refine r_newI (l9 := 7) (bc := 19) (bs := 5631) 315 dX12_init_313 rfl rfl (by decide) (by decide) (by decide) w_ac_int ?_
  refine r_putR 318 dX12_init_315 rfl f12_99 rfl (Or.inr ⟨rfl, rfl, ff12_99⟩) rfl (by decide) ?_
  refine r_aload_n 319 dX12_init_318 rfl rfl ?_
  refine r_bipush (7) 321 dX12_init_319 rfl (by decide) ?_
  refine r_newI (l9 := 7) (bc := 18) (bs := 5624) 323 dX12_init_321 rfl rfl (by decide) (by decide) (by decide) w_ac_int ?_
  refine r_putR 326 dX12_init_323 rfl f12_102 rfl (Or.inr ⟨rfl, rfl, ff12_102⟩) rfl (by decide) ?_
  refine r_aload_n 327 dX12_init_326 rfl rfl ?_
  refine r_bipush (7) 329 dX12_init_327 rfl (by decide) ?_
  refine r_newI (l9 := 7) (bc := 17) (bs := 5617) 331 dX12_init_329 rfl rfl (by decide) (by decide) (by decide) w_ac_int ?_
  refine r_putR 334 dX12_init_331 rfl f12_105 rfl (Or.inr ⟨rfl, rfl, ff12_105⟩) rfl (by decide) ?_
  refine r_aload_n 335 dX12_init_334 rfl rfl ?_
  refine r_bipush (7) 337 dX12_init_335 rfl (by decide) ?_
  refine r_newI (l9 := 7) (bc := 16) (bs := 5610) 339 dX12_init_337 rfl rfl (by decide) (by decide) (by decide) w_ac_int ?_
  refine r_putR 342 dX12_init_339 rfl f12_108 rfl (Or.inr ⟨rfl, rfl, ff12_108⟩) rfl (by decide) ?_
  refine r_aload_n 343 dX12_init_342 rfl rfl ?_
  refine r_sipush (1200) 346 dX12_init_343 rfl (by decide) ?_
  refine r_newI (l9 := 1200) (bc := 15) (bs := 4410) 348 dX12_init_346 rfl rfl (by decide) (by decide) (by decide) w_ac_int ?_
  refine r_putR 351 dX12_init_348 rfl f12_111 rfl (Or.inr ⟨rfl, rfl, ff12_111⟩) rfl (by decide) ?_
  refine r_aload_n 352 dX12_init_351 rfl rfl ?_
  refine r_sipush (1200) 355 dX12_init_352 rfl (by decide) ?_
  refine r_newI (l9 := 1200) (bc := 14) (bs := 3210) 357 dX12_init_355 rfl rfl (by decide) (by decide) (by decide) w_ac_int ?_
  refine r_putR 360 dX12_init_357 rfl f12_114 rfl (Or.inr ⟨rfl, rfl, ff12_114⟩) rfl (by decide) ?_
  refine r_aload_n 361 dX12_init_360 rfl rfl ?_
  refine r_sipush (1200) 364 dX12_init_361 rfl (by decide) ?_
  refine r_newI (l9 := 1200) (bc := 13) (bs := 2010) 366 dX12_init_364 rfl rfl (by decide) (by decide) (by decide) w_ac_int ?_
  refine r_putR 369 dX12_init_366 rfl f12_117 rfl (Or.inr ⟨rfl, rfl, ff12_117⟩) rfl (by decide) ?_
  refine r_aload_n 370 dX12_init_369 rfl rfl ?_
  refine r_sipush (1200) 373 dX12_init_370 rfl (by decide) ?_
  refine r_newI (l9 := 1200) (bc := 12) (bs := 810) 375 dX12_init_373 rfl rfl (by decide) (by decide) (by decide) w_ac_int ?_
  refine r_putR 378 dX12_init_375 rfl f12_120 rfl (Or.inr ⟨rfl, rfl, ff12_120⟩) rfl (by decide) ?_
  refine r_aload_n 379 dX12_init_378 rfl rfl ?_
  refine r_bipush (7) 381 dX12_init_379 rfl (by decide) ?_
  refine r_newI (l9 := 7) (bc := 11) (bs := 803) 383 dX12_init_381 rfl rfl (by decide) (by decide) (by decide) w_ac_int ?_
  refine r_putR 386 dX12_init_383 rfl f12_123 rfl (Or.inr ⟨rfl, rfl, ff12_123⟩) rfl (by decide) ?_
  refine r_aload_n 387 dX12_init_386 rfl rfl ?_
  refine r_bipush (7) 389 dX12_init_387 rfl (by decide) ?_
  refine r_newI (l9 := 7) (bc := 10) (bs := 796) 391 dX12_init_389 rfl rfl (by decide) (by decide) (by decide) w_ac_int ?_
  refine r_putR 394 dX12_init_391 rfl f12_126 rfl (Or.inr ⟨rfl, rfl, ff12_126⟩) rfl (by decide) ?_
  refine r_aload_n 395 dX12_init_394 rfl rfl ?_
  refine r_bipush (7) 397 dX12_init_395 rfl (by decide) ?_
  refine r_newI (l9 := 7) (bc := 9) (bs := 789) 399 dX12_init_397 rfl rfl (by decide) (by decide) (by decide) w_ac_int ?_
  refine r_putR 402 dX12_init_399 rfl f12_129 rfl (Or.inr ⟨rfl, rfl, ff12_129⟩) rfl (by decide) ?_
  refine r_aload_n 403 dX12_init_402 rfl rfl ?_
  refine r_bipush (8) 405 dX12_init_403 rfl (by decide) ?_
  refine r_newI (l9 := 8) (bc := 8) (bs := 781) 407 dX12_init_405 rfl rfl (by decide) (by decide) (by decide) w_ac_int ?_
  refine r_putR 410 dX12_init_407 rfl f12_132 rfl (Or.inr ⟨rfl, rfl, ff12_132⟩) rfl (by decide) ?_
  refine r_aload_n 411 dX12_init_410 rfl rfl ?_
  refine r_bipush (8) 413 dX12_init_411 rfl (by decide) ?_
  refine r_newI (l9 := 8) (bc := 7) (bs := 773) 415 dX12_init_413 rfl rfl (by decide) (by decide) (by decide) w_ac_int ?_
  refine r_putR 418 dX12_init_415 rfl f12_135 rfl (Or.inr ⟨rfl, rfl, ff12_135⟩) rfl (by decide) ?_
  refine r_aload_n 419 dX12_init_418 rfl rfl ?_
  refine r_bipush (8) 421 dX12_init_419 rfl (by decide) ?_
  refine r_newI (l9 := 8) (bc := 6) (bs := 765) 423 dX12_init_421 rfl rfl (by decide) (by decide) (by decide) w_ac_int ?_
  refine r_putR 426 dX12_init_423 rfl f12_138 rfl (Or.inr ⟨rfl, rfl, ff12_138⟩) rfl (by decide) ?_
  refine r_aload_n 427 dX12_init_426 rfl rfl ?_
  refine r_bipush (18) 429 dX12_init_427 rfl (by decide) ?_
  refine r_newI (l9 := 18) (bc := 5) (bs := 747) 431 dX12_init_429 rfl rfl (by decide) (by decide) (by decide) w_ac_int ?_
  refine r_putR 434 dX12_init_431 rfl f12_141 rfl (Or.inr ⟨rfl, rfl, ff12_141⟩) rfl (by decide) ?_
  refine r_aload_n 435 dX12_init_434 rfl rfl ?_
  refine r_sipush (720) 438 dX12_init_435 rfl (by decide) ?_
  refine r_newI (l9 := 720) (bc := 4) (bs := 27) 440 dX12_init_438 rfl rfl (by decide) (by decide) (by decide) w_ac_int ?_
  refine r_putR 443 dX12_init_440 rfl f12_144 rfl (Or.inr ⟨rfl, rfl, ff12_144⟩) rfl (by decide) ?_
  refine r_aload_n 444 dX12_init_443 rfl rfl ?_
  refine r_bipush (8) 446 dX12_init_444 rfl (by decide) ?_
  refine r_newI (l9 := 8) (bc := 3) (bs := 19) 448 dX12_init_446 rfl rfl (by decide) (by decide) (by decide) w_ac_int ?_
  refine r_putR 451 dX12_init_448 rfl f12_147 rfl (Or.inr ⟨rfl, rfl, ff12_147⟩) rfl (by decide) ?_
  refine r_aload_n 452 dX12_init_451 rfl rfl ?_
  refine r_bipush (8) 454 dX12_init_452 rfl (by decide) ?_
  refine r_newI (l9 := 8) (bc := 2) (bs := 11) 456 dX12_init_454 rfl rfl (by decide) (by decide) (by decide) w_ac_int ?_
  refine r_putR 459 dX12_init_456 rfl f12_150 rfl (Or.inr ⟨rfl, rfl, ff12_150⟩) rfl (by decide) ?_
  refine r_aload_n 460 dX12_init_459 rfl rfl ?_
  refine r_bipush (8) 462 dX12_init_460 rfl (by decide) ?_
  refine r_newI (l9 := 8) (bc := 1) (bs := 3) 464 dX12_init_462 rfl rfl (by decide) (by decide) (by decide) w_ac_int ?_
  refine r_putR 467 dX12_init_464 rfl f12_153 rfl (Or.inr ⟨rfl, rfl, ff12_153⟩) rfl (by decide) ?_
  refine r_aload_n 468 dX12_init_467 rfl rfl ?_
  refine r_iconst (3) 469 dX12_init_468 rfl (by decide) ?_
  refine r_newI (l9 := 3) (bc := 0) (bs := 0) 471 dX12_init_469 rfl rfl (by decide) (by decide) (by decide) w_ac_int ?_
  refine r_putR 474 dX12_init_471 rfl f12_156 rfl (Or.inr ⟨rfl, rfl, ff12_156⟩) rfl (by decide) ?_
  exact r_vret dX12_init_474 rfl rfl rfl
