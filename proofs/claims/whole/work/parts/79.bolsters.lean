/-! Integer.bitCount; the class: outs, bolsters -/
theorem dJ6_bitCount_0f7a4_0 : decode cJ6_bitCount_0f7a4 0 = .ok (.iload_n 0, 1) := by decide +kernel
theorem dJ6_bitCount_0f7a4_1 : decode cJ6_bitCount_0f7a4 1 = .ok (.iload_n 0, 1) := by decide +kernel
theorem dJ6_bitCount_0f7a4_2 : decode cJ6_bitCount_0f7a4 2 = .ok (.iconst 1, 1) := by decide +kernel
theorem dJ6_bitCount_0f7a4_3 : decode cJ6_bitCount_0f7a4 3 = .ok (.iushr, 1) := by decide +kernel
theorem dJ6_bitCount_0f7a4_4 : decode cJ6_bitCount_0f7a4 4 = .ok (.ldc_w 265, 3) := by decide +kernel
theorem dJ6_bitCount_0f7a4_7 : decode cJ6_bitCount_0f7a4 7 = .ok (.iand, 1) := by decide +kernel
theorem dJ6_bitCount_0f7a4_8 : decode cJ6_bitCount_0f7a4 8 = .ok (.isub, 1) := by decide +kernel
theorem dJ6_bitCount_0f7a4_9 : decode cJ6_bitCount_0f7a4 9 = .ok (.istore_n 0, 1) := by decide +kernel
theorem dJ6_bitCount_0f7a4_10 : decode cJ6_bitCount_0f7a4 10 = .ok (.iload_n 0, 1) := by decide +kernel
theorem dJ6_bitCount_0f7a4_11 : decode cJ6_bitCount_0f7a4 11 = .ok (.ldc_w 266, 3) := by decide +kernel
theorem dJ6_bitCount_0f7a4_14 : decode cJ6_bitCount_0f7a4 14 = .ok (.iand, 1) := by decide +kernel
theorem dJ6_bitCount_0f7a4_15 : decode cJ6_bitCount_0f7a4 15 = .ok (.iload_n 0, 1) := by decide +kernel
theorem dJ6_bitCount_0f7a4_16 : decode cJ6_bitCount_0f7a4 16 = .ok (.iconst 2, 1) := by decide +kernel
theorem dJ6_bitCount_0f7a4_17 : decode cJ6_bitCount_0f7a4 17 = .ok (.iushr, 1) := by decide +kernel
theorem dJ6_bitCount_0f7a4_18 : decode cJ6_bitCount_0f7a4 18 = .ok (.ldc_w 266, 3) := by decide +kernel
theorem dJ6_bitCount_0f7a4_21 : decode cJ6_bitCount_0f7a4 21 = .ok (.iand, 1) := by decide +kernel
theorem dJ6_bitCount_0f7a4_22 : decode cJ6_bitCount_0f7a4 22 = .ok (.iadd, 1) := by decide +kernel
theorem dJ6_bitCount_0f7a4_23 : decode cJ6_bitCount_0f7a4 23 = .ok (.istore_n 0, 1) := by decide +kernel
theorem dJ6_bitCount_0f7a4_24 : decode cJ6_bitCount_0f7a4 24 = .ok (.iload_n 0, 1) := by decide +kernel
theorem dJ6_bitCount_0f7a4_25 : decode cJ6_bitCount_0f7a4 25 = .ok (.iload_n 0, 1) := by decide +kernel
theorem dJ6_bitCount_0f7a4_26 : decode cJ6_bitCount_0f7a4 26 = .ok (.iconst 4, 1) := by decide +kernel
theorem dJ6_bitCount_0f7a4_27 : decode cJ6_bitCount_0f7a4 27 = .ok (.iushr, 1) := by decide +kernel
theorem dJ6_bitCount_0f7a4_28 : decode cJ6_bitCount_0f7a4 28 = .ok (.iadd, 1) := by decide +kernel
theorem dJ6_bitCount_0f7a4_29 : decode cJ6_bitCount_0f7a4 29 = .ok (.ldc_w 267, 3) := by decide +kernel
theorem dJ6_bitCount_0f7a4_32 : decode cJ6_bitCount_0f7a4 32 = .ok (.iand, 1) := by decide +kernel
theorem dJ6_bitCount_0f7a4_33 : decode cJ6_bitCount_0f7a4 33 = .ok (.istore_n 0, 1) := by decide +kernel
theorem dJ6_bitCount_0f7a4_34 : decode cJ6_bitCount_0f7a4 34 = .ok (.iload_n 0, 1) := by decide +kernel
theorem dJ6_bitCount_0f7a4_35 : decode cJ6_bitCount_0f7a4 35 = .ok (.iload_n 0, 1) := by decide +kernel
theorem dJ6_bitCount_0f7a4_36 : decode cJ6_bitCount_0f7a4 36 = .ok (.bipush 8, 2) := by decide +kernel
theorem dJ6_bitCount_0f7a4_38 : decode cJ6_bitCount_0f7a4 38 = .ok (.iushr, 1) := by decide +kernel
theorem dJ6_bitCount_0f7a4_39 : decode cJ6_bitCount_0f7a4 39 = .ok (.iadd, 1) := by decide +kernel
theorem dJ6_bitCount_0f7a4_40 : decode cJ6_bitCount_0f7a4 40 = .ok (.istore_n 0, 1) := by decide +kernel
theorem dJ6_bitCount_0f7a4_41 : decode cJ6_bitCount_0f7a4 41 = .ok (.iload_n 0, 1) := by decide +kernel
theorem dJ6_bitCount_0f7a4_42 : decode cJ6_bitCount_0f7a4 42 = .ok (.iload_n 0, 1) := by decide +kernel
theorem dJ6_bitCount_0f7a4_43 : decode cJ6_bitCount_0f7a4 43 = .ok (.bipush 16, 2) := by decide +kernel
theorem dJ6_bitCount_0f7a4_45 : decode cJ6_bitCount_0f7a4 45 = .ok (.iushr, 1) := by decide +kernel
theorem dJ6_bitCount_0f7a4_46 : decode cJ6_bitCount_0f7a4 46 = .ok (.iadd, 1) := by decide +kernel
theorem dJ6_bitCount_0f7a4_47 : decode cJ6_bitCount_0f7a4 47 = .ok (.istore_n 0, 1) := by decide +kernel
theorem dJ6_bitCount_0f7a4_48 : decode cJ6_bitCount_0f7a4 48 = .ok (.iload_n 0, 1) := by decide +kernel
theorem dJ6_bitCount_0f7a4_49 : decode cJ6_bitCount_0f7a4 49 = .ok (.bipush 63, 2) := by decide +kernel
theorem dJ6_bitCount_0f7a4_51 : decode cJ6_bitCount_0f7a4 51 = .ok (.iand, 1) := by decide +kernel
theorem dJ6_bitCount_0f7a4_52 : decode cJ6_bitCount_0f7a4 52 = .ok (.ireturn, 1) := by decide +kernel
theorem k11_299 : LSt 11 299 1 yJ6_bitCount_0f7a4 mJ6_bitCount_0f7a4 := ⟨tb_of 1350 (by decide +kernel) (by decide +kernel), t_J6_bitCount_0f7a4⟩
def bc1 (x : Int32) : Int32 := x - (usr x 1 &&& 1431655765)
def bc2 (x : Int32) : Int32 := (x &&& 858993459) + (usr x 2 &&& 858993459)
def bc3 (x : Int32) : Int32 := (x + usr x 4) &&& 252645135
def bc4 (x : Int32) : Int32 := x + usr x 8
def bc5 (x : Int32) : Int32 := (x + usr x 16) &&& 63
/-- how many bits are set, as the JDK counts them -/
def bcF (x : Int32) : Int32 := bc5 (bc4 (bc3 (bc2 (bc1 x))))
set_option maxRecDepth 20000 in
theorem c_bc {d n : Nat} {E : HP} {x : Int32}  : Cl yJ6_bitCount_0f7a4 mJ6_bitCount_0f7a4 d 0 0 [.int x] E n (.inl (some (.int (bcF x))), E, n) := by
  refine Cl.of (by decide) rfl (fun q => by cases q) rfl rfl (Nat.le_of_ble_eq_true rfl) ?_
  show Sm _ _ _ _ _ 0 [some (.int (x))] [] _ _
  refine r_iload_n 1 dJ6_bitCount_0f7a4_0 rfl rfl ?_
  refine r_iload_n 2 dJ6_bitCount_0f7a4_1 rfl rfl ?_
  refine r_iconst (1) 3 dJ6_bitCount_0f7a4_2 rfl (by decide) ?_
  refine r_iushr 4 dJ6_bitCount_0f7a4_3 rfl ?_
  refine r_ldcw 1431655765 7 dJ6_bitCount_0f7a4_4 rfl c14_265 ?_
  refine r_iand 8 dJ6_bitCount_0f7a4_7 rfl ?_
  refine r_isub 9 dJ6_bitCount_0f7a4_8 rfl ?_
  refine r_istore_n 10 dJ6_bitCount_0f7a4_9 rfl (by decide) rfl ?_
  refine r_iload_n 11 dJ6_bitCount_0f7a4_10 rfl rfl ?_
  refine r_ldcw 858993459 14 dJ6_bitCount_0f7a4_11 rfl c14_266 ?_
  refine r_iand 15 dJ6_bitCount_0f7a4_14 rfl ?_
  refine r_iload_n 16 dJ6_bitCount_0f7a4_15 rfl rfl ?_
  refine r_iconst (2) 17 dJ6_bitCount_0f7a4_16 rfl (by decide) ?_
  refine r_iushr 18 dJ6_bitCount_0f7a4_17 rfl ?_
  refine r_ldcw 858993459 21 dJ6_bitCount_0f7a4_18 rfl c14_266 ?_
  refine r_iand 22 dJ6_bitCount_0f7a4_21 rfl ?_
  refine r_iadd 23 dJ6_bitCount_0f7a4_22 rfl ?_
  refine r_istore_n 24 dJ6_bitCount_0f7a4_23 rfl (by decide) rfl ?_
  refine r_iload_n 25 dJ6_bitCount_0f7a4_24 rfl rfl ?_
  refine r_iload_n 26 dJ6_bitCount_0f7a4_25 rfl rfl ?_
  refine r_iconst (4) 27 dJ6_bitCount_0f7a4_26 rfl (by decide) ?_
  refine r_iushr 28 dJ6_bitCount_0f7a4_27 rfl ?_
  refine r_iadd 29 dJ6_bitCount_0f7a4_28 rfl ?_
  refine r_ldcw 252645135 32 dJ6_bitCount_0f7a4_29 rfl c14_267 ?_
  refine r_iand 33 dJ6_bitCount_0f7a4_32 rfl ?_
  refine r_istore_n 34 dJ6_bitCount_0f7a4_33 rfl (by decide) rfl ?_
  refine r_iload_n 35 dJ6_bitCount_0f7a4_34 rfl rfl ?_
  refine r_iload_n 36 dJ6_bitCount_0f7a4_35 rfl rfl ?_
  refine r_bipush (8) 38 dJ6_bitCount_0f7a4_36 rfl (by decide) ?_
  refine r_iushr 39 dJ6_bitCount_0f7a4_38 rfl ?_
  refine r_iadd 40 dJ6_bitCount_0f7a4_39 rfl ?_
  refine r_istore_n 41 dJ6_bitCount_0f7a4_40 rfl (by decide) rfl ?_
  refine r_iload_n 42 dJ6_bitCount_0f7a4_41 rfl rfl ?_
  refine r_iload_n 43 dJ6_bitCount_0f7a4_42 rfl rfl ?_
  refine r_bipush (16) 45 dJ6_bitCount_0f7a4_43 rfl (by decide) ?_
  refine r_iushr 46 dJ6_bitCount_0f7a4_45 rfl ?_
  refine r_iadd 47 dJ6_bitCount_0f7a4_46 rfl ?_
  refine r_istore_n 48 dJ6_bitCount_0f7a4_47 rfl (by decide) rfl ?_
  refine r_iload_n 49 dJ6_bitCount_0f7a4_48 rfl rfl ?_
  refine r_bipush (63) 51 dJ6_bitCount_0f7a4_49 rfl (by decide) ?_
  refine r_iand 52 dJ6_bitCount_0f7a4_51 rfl ?_
  exact r_iret dJ6_bitCount_0f7a4_52 rfl rfl (rfl)
def gcU (x : Int32) : Int32 × Int32 := if x - x / 2 * 2 = 0 then (if x / 2 - x / 2 / 5 * 5 = 0 then (x / 2 / 5, 10 / 2 / 5) else (x / 2, 10 / 2)) else (if x - x / 5 * 5 = 0 then (x / 5, 10 / 5) else (x, 10))
theorem gc_tt {x : Int32} (h : x - x / 2 * 2 = 0) (h2 : x / 2 - x / 2 / 5 * 5 = 0) : gcU x = (x / 2 / 5, 10 / 2 / 5) := by unfold gcU; rw [if_pos h, if_pos h2]
theorem gc_tf {x : Int32} (h : x - x / 2 * 2 = 0) (h2 : ¬ x / 2 - x / 2 / 5 * 5 = 0) : gcU x = (x / 2, 10 / 2) := by unfold gcU; rw [if_pos h, if_neg h2]
theorem gc_ft {x : Int32} (h : ¬ x - x / 2 * 2 = 0) (h2 : x - x / 5 * 5 = 0) : gcU x = (x / 5, 10 / 5) := by unfold gcU; rw [if_neg h, if_pos h2]
theorem gc_ff {x : Int32} (h : ¬ x - x / 2 * 2 = 0) (h2 : ¬ x - x / 5 * 5 = 0) : gcU x = (x, 10) := by unfold gcU; rw [if_neg h, if_neg h2]
set_option maxRecDepth 20000 in
theorem c_X11_outs {d b L m : Nat} {R : List Int32} {E : HP} {w : Int32} (hci : CI E b L m R) (hw : inB w 2) : Cl yX11_outs mX11_outs (d + 8) 0 0 [.ref 0, .int w] E 137 (.inl (some (.int (if w = 0 then (gcU (twO (slC E b) (cO (cfgP E 46)) L)).1 else (gcU (twO (slC E b) (cO (cfgP E 46)) L)).2))), E, 137) := by
  obtain ⟨hC, cL, c51, cok, csu, crl, c87, ⟨m1, m6, cmi⟩, cfr⟩ := id hci
  have hb := hC.1
  have l7 : L ≤ 7 := cok.2.1
  have htw := c_X0_tenthsWoken (d := d + 6) (cr_bed hC) (cr_plan46 hC) c51 l7
  rw [tw_eq (sl := slC E b) (ord := cO (cfgP E 46)) (fun i hi => by
    obtain ⟨s, hs, e⟩ := cok.2.2.1 i hi
    refine ⟨?_, s, by omega, e, (slC_lt (E := E) (b := b) (k := 7) (s := s) (by omega)).symm, (slC_lt (E := E) (b := b) (k := 1) (s := s) (by omega)).symm⟩
    unfold ordAt
    rw [rAt_nI (by omega) (by omega)]
    rfl)] at htw
  obtain ⟨u, hu⟩ : ∃ u, (twO (slC E b) (cO (cfgP E 46)) L) = u := ⟨_, rfl⟩
  rw [hu] at htw ⊢
  refine Cl.of (by decide) rfl (fun q => by cases q) rfl rfl (Nat.le_of_ble_eq_true rfl) ?_
  show Sm _ _ _ _ _ 0 [some (.ref 0), some (.int (w)), none, none] [] _ _
  refine r_aload_n 1 dX11_outs_0 rfl rfl ?_
  refine r_iload_n 2 dX11_outs_1 rfl rfl ?_
  refine r_iconst (2) 3 dX11_outs_2 rfl (by decide) ?_
  refine r_callV (M := mX11_outs) (pc := 3) 6 dX11_outs_3 rfl k11_192 (c_X11_checkNumber hw) rfl rfl (by first | with_reducible assumption | with_reducible exact cr_bs hC | rfl) (by decide) rfl (by first | with_reducible assumption | with_reducible exact cr_bn hC | exact Nat.le_of_ble_eq_true rfl) (Nat.le_of_ble_eq_true rfl) ?_
  refine r_aload_n 7 dX11_outs_6 rfl rfl ?_
  refine r_getR 10 dX11_outs_7 rfl f11_28 rfl (by first | with_reducible assumption | with_reducible exact cr_bs hC | rfl) (by first | with_reducible assumption | with_reducible exact cr_bn hC | exact Nat.le_of_ble_eq_true rfl) (cr_told hC) ?_
  refine r_aload_n 11 dX11_outs_10 rfl rfl ?_
  refine r_getR 14 dX11_outs_11 rfl f11_47 rfl (by first | with_reducible assumption | with_reducible exact cr_bs hC | rfl) (by first | with_reducible assumption | with_reducible exact cr_bn hC | exact Nat.le_of_ble_eq_true rfl) (cr_1414_0 hC) ?_
  refine r_getR 17 dX11_outs_14 rfl f11_116 rfl (by first | with_reducible assumption | with_reducible exact cr_bs hC | rfl) (by first | with_reducible assumption | with_reducible exact cr_bn hC | exact Nat.le_of_ble_eq_true rfl) (cr_1152_45 hC) ?_
  refine r_callV (M := mX11_outs) (pc := 17) 20 dX11_outs_17 rfl k11_304 htw rfl rfl (by first | with_reducible assumption | with_reducible exact cr_bs hC | rfl) (by decide) rfl (by first | with_reducible assumption | with_reducible exact cr_bn hC | exact Nat.le_of_ble_eq_true rfl) (Nat.le_of_ble_eq_true rfl) ?_
  refine r_istore_n 21 dX11_outs_20 rfl (by decide) rfl ?_
  refine r_bipush (10) 23 dX11_outs_21 rfl (by decide) ?_
  refine r_istore_n 24 dX11_outs_23 rfl (by decide) rfl ?_
  refine r_iload_n 25 dX11_outs_24 rfl rfl ?_
  refine r_iconst (2) 26 dX11_outs_25 rfl (by decide) ?_
  refine r_irem 27 dX11_outs_26 rfl (by first | with_reducible assumption | rfl | decide | omega) ?_
  refine r_if_ne 30 38 dX11_outs_27 rfl (by decide) (fun h27 => ?_) (fun h27 => ?_)
  · refine r_iload_n 39 dX11_outs_38 rfl rfl ?_
    refine r_iconst (5) 40 dX11_outs_39 rfl (by decide) ?_
    refine r_irem 41 dX11_outs_40 rfl (by first | with_reducible assumption | rfl | decide | omega) ?_
    refine r_if_ne 44 52 dX11_outs_41 rfl (by decide) (fun h41 => ?_) (fun h41 => ?_)
    · refine r_iload_n 53 dX11_outs_52 rfl rfl ?_
      refine r_if_ne 56 60 dX11_outs_53 rfl (by decide) (fun h53 => ?_) (fun h53 => ?_)
      · refine r_iload_n 61 dX11_outs_60 rfl rfl ?_
        exact r_iret dX11_outs_61 rfl rfl (by first | rw [if_pos h53, gc_tt h27 h41] | rw [if_neg h53, gc_tt h27 h41] | rw [if_pos h53, gc_tf h27 h41] | rw [if_neg h53, gc_tf h27 h41] | rw [if_pos h53, gc_ft h27 h41] | rw [if_neg h53, gc_ft h27 h41] | rw [if_pos h53, gc_ff h27 h41] | rw [if_neg h53, gc_ff h27 h41])
      · refine r_iload_n 57 dX11_outs_56 rfl rfl ?_
        refine r_goto 61 dX11_outs_57 (by decide) ?_
        exact r_iret dX11_outs_61 rfl rfl (by first | rw [if_pos h53, gc_tt h27 h41] | rw [if_neg h53, gc_tt h27 h41] | rw [if_pos h53, gc_tf h27 h41] | rw [if_neg h53, gc_tf h27 h41] | rw [if_pos h53, gc_ft h27 h41] | rw [if_neg h53, gc_ft h27 h41] | rw [if_pos h53, gc_ff h27 h41] | rw [if_neg h53, gc_ff h27 h41])
    · refine r_iload_n 45 dX11_outs_44 rfl rfl ?_
      refine r_iconst (5) 46 dX11_outs_45 rfl (by decide) ?_
      refine r_idiv 47 dX11_outs_46 rfl (by first | with_reducible assumption | rfl | decide | omega) ?_
      refine r_istore_n 48 dX11_outs_47 rfl (by decide) rfl ?_
      refine r_iload_n 49 dX11_outs_48 rfl rfl ?_
      refine r_iconst (5) 50 dX11_outs_49 rfl (by decide) ?_
      refine r_idiv 51 dX11_outs_50 rfl (by first | with_reducible assumption | rfl | decide | omega) ?_
      refine r_istore_n 52 dX11_outs_51 rfl (by decide) rfl ?_
      refine r_iload_n 53 dX11_outs_52 rfl rfl ?_
      refine r_if_ne 56 60 dX11_outs_53 rfl (by decide) (fun h53 => ?_) (fun h53 => ?_)
      · refine r_iload_n 61 dX11_outs_60 rfl rfl ?_
        exact r_iret dX11_outs_61 rfl rfl (by first | rw [if_pos h53, gc_tt h27 h41] | rw [if_neg h53, gc_tt h27 h41] | rw [if_pos h53, gc_tf h27 h41] | rw [if_neg h53, gc_tf h27 h41] | rw [if_pos h53, gc_ft h27 h41] | rw [if_neg h53, gc_ft h27 h41] | rw [if_pos h53, gc_ff h27 h41] | rw [if_neg h53, gc_ff h27 h41])
      · refine r_iload_n 57 dX11_outs_56 rfl rfl ?_
        refine r_goto 61 dX11_outs_57 (by decide) ?_
        exact r_iret dX11_outs_61 rfl rfl (by first | rw [if_pos h53, gc_tt h27 h41] | rw [if_neg h53, gc_tt h27 h41] | rw [if_pos h53, gc_tf h27 h41] | rw [if_neg h53, gc_tf h27 h41] | rw [if_pos h53, gc_ft h27 h41] | rw [if_neg h53, gc_ft h27 h41] | rw [if_pos h53, gc_ff h27 h41] | rw [if_neg h53, gc_ff h27 h41])
  · refine r_iload_n 31 dX11_outs_30 rfl rfl ?_
    refine r_iconst (2) 32 dX11_outs_31 rfl (by decide) ?_
    refine r_idiv 33 dX11_outs_32 rfl (by first | with_reducible assumption | rfl | decide | omega) ?_
    refine r_istore_n 34 dX11_outs_33 rfl (by decide) rfl ?_
    refine r_iload_n 35 dX11_outs_34 rfl rfl ?_
    refine r_iconst (2) 36 dX11_outs_35 rfl (by decide) ?_
    refine r_idiv 37 dX11_outs_36 rfl (by first | with_reducible assumption | rfl | decide | omega) ?_
    refine r_istore_n 38 dX11_outs_37 rfl (by decide) rfl ?_
    refine r_iload_n 39 dX11_outs_38 rfl rfl ?_
    refine r_iconst (5) 40 dX11_outs_39 rfl (by decide) ?_
    refine r_irem 41 dX11_outs_40 rfl (by first | with_reducible assumption | rfl | decide | omega) ?_
    refine r_if_ne 44 52 dX11_outs_41 rfl (by decide) (fun h41 => ?_) (fun h41 => ?_)
    · refine r_iload_n 53 dX11_outs_52 rfl rfl ?_
      refine r_if_ne 56 60 dX11_outs_53 rfl (by decide) (fun h53 => ?_) (fun h53 => ?_)
      · refine r_iload_n 61 dX11_outs_60 rfl rfl ?_
        exact r_iret dX11_outs_61 rfl rfl (by first | rw [if_pos h53, gc_tt h27 h41] | rw [if_neg h53, gc_tt h27 h41] | rw [if_pos h53, gc_tf h27 h41] | rw [if_neg h53, gc_tf h27 h41] | rw [if_pos h53, gc_ft h27 h41] | rw [if_neg h53, gc_ft h27 h41] | rw [if_pos h53, gc_ff h27 h41] | rw [if_neg h53, gc_ff h27 h41])
      · refine r_iload_n 57 dX11_outs_56 rfl rfl ?_
        refine r_goto 61 dX11_outs_57 (by decide) ?_
        exact r_iret dX11_outs_61 rfl rfl (by first | rw [if_pos h53, gc_tt h27 h41] | rw [if_neg h53, gc_tt h27 h41] | rw [if_pos h53, gc_tf h27 h41] | rw [if_neg h53, gc_tf h27 h41] | rw [if_pos h53, gc_ft h27 h41] | rw [if_neg h53, gc_ft h27 h41] | rw [if_pos h53, gc_ff h27 h41] | rw [if_neg h53, gc_ff h27 h41])
    · refine r_iload_n 45 dX11_outs_44 rfl rfl ?_
      refine r_iconst (5) 46 dX11_outs_45 rfl (by decide) ?_
      refine r_idiv 47 dX11_outs_46 rfl (by first | with_reducible assumption | rfl | decide | omega) ?_
      refine r_istore_n 48 dX11_outs_47 rfl (by decide) rfl ?_
      refine r_iload_n 49 dX11_outs_48 rfl rfl ?_
      refine r_iconst (5) 50 dX11_outs_49 rfl (by decide) ?_
      refine r_idiv 51 dX11_outs_50 rfl (by first | with_reducible assumption | rfl | decide | omega) ?_
      refine r_istore_n 52 dX11_outs_51 rfl (by decide) rfl ?_
      refine r_iload_n 53 dX11_outs_52 rfl rfl ?_
      refine r_if_ne 56 60 dX11_outs_53 rfl (by decide) (fun h53 => ?_) (fun h53 => ?_)
      · refine r_iload_n 61 dX11_outs_60 rfl rfl ?_
        exact r_iret dX11_outs_61 rfl rfl (by first | rw [if_pos h53, gc_tt h27 h41] | rw [if_neg h53, gc_tt h27 h41] | rw [if_pos h53, gc_tf h27 h41] | rw [if_neg h53, gc_tf h27 h41] | rw [if_pos h53, gc_ft h27 h41] | rw [if_neg h53, gc_ft h27 h41] | rw [if_pos h53, gc_ff h27 h41] | rw [if_neg h53, gc_ff h27 h41])
      · refine r_iload_n 57 dX11_outs_56 rfl rfl ?_
        refine r_goto 61 dX11_outs_57 (by decide) ?_
        exact r_iret dX11_outs_61 rfl rfl (by first | rw [if_pos h53, gc_tt h27 h41] | rw [if_neg h53, gc_tt h27 h41] | rw [if_pos h53, gc_tf h27 h41] | rw [if_neg h53, gc_tf h27 h41] | rw [if_pos h53, gc_ft h27 h41] | rw [if_neg h53, gc_ft h27 h41] | rw [if_pos h53, gc_ff h27 h41] | rw [if_neg h53, gc_ff h27 h41])
set_option maxRecDepth 20000 in
theorem x_outs {d b L m : Nat} {R : List Int32} {E : HP} {w : Int32} (hci : CI E b L m R) (h : ¬ inB w 2) : Cl yX11_outs mX11_outs (d + 8) 1 6 [.ref 0, .int (w)] E 137 (.inr nseN, E, 137) := by
  have hC := hci.1
  have cL := hci.2.1
  have l7 : L ≤ 7 := hci.2.2.2.1.2.1
  refine Cl.of (by decide) rfl (fun q => by cases q) rfl rfl (Nat.le_of_ble_eq_true rfl) ?_
  show Sm _ _ _ _ _ 0 [some (.ref 0), some (.int (w)), none, none] [] _ _
  refine r_aload_n 1 dX11_outs_0 rfl rfl ?_
  refine r_iload_n 2 dX11_outs_1 rfl rfl ?_
  refine r_iconst (2) 3 dX11_outs_2 rfl (by decide) ?_
  exact r_callVX (M := mX11_outs) (pc := 3) dX11_outs_3 k11_192 (x_checkNumber h) rfl rfl (by first | with_reducible assumption | with_reducible exact cr_bs hC | rfl) (by decide) rfl (by first | with_reducible assumption | with_reducible exact cr_bn hC | exact Nat.le_of_ble_eq_true rfl) (Nat.le_of_ble_eq_true rfl) rfl rfl (rfl)
def cBol (c : Cfg) (v : Int32) : Cfg := (cO c, cU c, cF c, cS c, cE c, v)
/-- the set of bolsters by which the least comes; of like ones the one with fewer -/
def bolF (w : Nat → Int32) (z : Int32) : Nat → Int32 × Int32
  | 0 => (-1, z)
  | k + 1 => if (bolF w z k).1 = -1 ∨ w k < (bolF w z k).2 ∨ (w k = (bolF w z k).2 ∧ bcF (nI (2 * k)) < bcF (bolF w z k).1) then (nI (2 * k), w k) else bolF w z k
theorem bol_y {w : Nat → Int32} {z : Int32} {k : Nat} (h : (bolF w z k).1 = -1 ∨ w k < (bolF w z k).2 ∨ (w k = (bolF w z k).2 ∧ bcF (nI (2 * k)) < bcF (bolF w z k).1)) : bolF w z (k + 1) = (nI (2 * k), w k) := if_pos h
theorem bol_n {w : Nat → Int32} {z : Int32} {k : Nat} (h : ¬ ((bolF w z k).1 = -1 ∨ w k < (bolF w z k).2 ∨ (w k = (bolF w z k).2 ∧ bcF (nI (2 * k)) < bcF (bolF w z k).1))) : bolF w z (k + 1) = bolF w z k := if_neg h
theorem bol_z {w : Nat → Int32} {z z2 : Int32} : ∀ k, bolF w z (k + 1) = bolF w z2 (k + 1) := by
  intro k
  induction k with
  | zero => exact (bol_y (Or.inl rfl)).trans (bol_y (Or.inl rfl)).symm
  | succ k ih =>
    show (if (bolF w z (k + 1)).1 = -1 ∨ w (k + 1) < (bolF w z (k + 1)).2 ∨ (w (k + 1) = (bolF w z (k + 1)).2 ∧ bcF (nI (2 * (k + 1))) < bcF (bolF w z (k + 1)).1) then (nI (2 * (k + 1)), w (k + 1)) else bolF w z (k + 1)) = (if (bolF w z2 (k + 1)).1 = -1 ∨ w (k + 1) < (bolF w z2 (k + 1)).2 ∨ (w (k + 1) = (bolF w z2 (k + 1)).2 ∧ bcF (nI (2 * (k + 1))) < bcF (bolF w z2 (k + 1)).1) then (nI (2 * (k + 1)), w (k + 1)) else bolF w z2 (k + 1))
    rw [ih]
theorem pow_nI : ∀ i, i < 7 → (1 <<< (nI i &&& 31)) = nI (2 ^ i) ∧ 2 ^ i ≤ 64 := by decide +kernel
theorem dbl_nI : ∀ k, k < 64 → nI k <<< ((1 : Int32) &&& 31) = nI (2 * k) ∧ 2 * nI k = nI (2 * k) := by decide +kernel
def vBol (E : HP) (b L : Nat) (R : List Int32) (k : Nat) : NV := vMk L (slC E b) (gI E 8 b) R (cBol (cfgP E 46) (nI (2 * k))) (gI E 519 46)
set_option maxHeartbeats 10000000 in
set_option maxRecDepth 20000 in
theorem c_X11_bolsters {d b L m : Nat} {R : List Int32} {E : HP} {w : Int32} (hci : CI E b L m R) (hw : inB w 2) : ∃ o, (∃ E2, o = (.inl (some (.int (if w = 0 then (bolF (fun e => nS (nightF (vBol E b L R e) m) 2) (-1) (2 ^ (L - 1))).1 else (bolF (fun e => nS (nightF (vBol E b L R e) m) 2) (-1) (2 ^ (L - 1))).2))), E2, 137) ∧ QF b E E2) ∧ Cl yX11_bolsters mX11_bolsters (d + 8) 1 6 [.ref 0, .int w] E 137 o := by
  obtain ⟨hC, cL, c51, cok, csu, crl, c87, ⟨m1, m6, cmi⟩, cfr⟩ := id hci
  obtain ⟨E1, t1, hcp⟩ := c_copy (d := d + 5) hci
  have hC1 := cr_kr t1.1.2 hC
  have l7 := cok.2.1
  have hb := hC.1
  obtain ⟨hpw, hp64⟩ := pow_nI (L - 1) (by omega)
  refine Cx.of (by decide) rfl (fun q => by cases q) rfl rfl (Nat.le_of_ble_eq_true rfl) ?_
  show Sx _ _ _ _ _ 0 [some (.ref 0), some (.int w), none, none, none, none, none, none] [] _ _
  have loop := sxUp (S := fun k9 E2 => Sx mX11_bolsters (d + 8) 1 6 (fun o => ∃ E2, o = (.inl (some (.int (if w = 0 then (bolF (fun e => nS (nightF (vBol E b L R e) m) 2) (-1) (2 ^ (L - 1))).1 else (bolF (fun e => nS (nightF (vBol E b L R e) m) 2) (-1) (2 ^ (L - 1))).2))), E2, 137) ∧ QF b E E2) 53 [some (.ref 0), some (.int w), some (.int (nI (L - 1))), some (.int (bolF (fun e => nS (nightF (vBol E b L R e) m) 2) (-1) k9).1), some (.int (bolF (fun e => nS (nightF (vBol E b L R e) m) 2) (-1) k9).2), some (.int (nI k9)), none, none] [] E2 137) (Inv := fun k9 E2 => ∃ c, TR E E2 b L c (gI E 519 46) ∧ ∀ v, cBol c v = cBol (cfgP E 46) v) (a := 0) (l := 2 ^ (L - 1)) (Nat.zero_le _) ?_ ?_
  by_cases hL1 : 1 < L
  · refine Sx.up (fun _ kk => r_aload_n 1 dX11_bolsters_0 rfl rfl kk) ?_
    refine Sx.up (fun _ kk => r_iload_n 2 dX11_bolsters_1 rfl rfl kk) ?_
    refine Sx.up (fun _ kk => r_iconst (2) 3 dX11_bolsters_2 rfl (by decide) kk) ?_
    refine Sx.up (fun _ kk => r_callV (M := mX11_bolsters) (pc := 3) 6 dX11_bolsters_3 rfl k11_192 (c_X11_checkNumber hw) rfl rfl (by first | with_reducible assumption | with_reducible exact cr_bs hC | rfl) (by decide) rfl (by first | with_reducible assumption | with_reducible exact cr_bn hC | exact Nat.le_of_ble_eq_true rfl) (Nat.le_of_ble_eq_true rfl) kk) ?_
    refine Sx.up (fun _ kk => r_aload_n 7 dX11_bolsters_6 rfl rfl kk) ?_
    refine Sx.up (fun _ kk => r_getR 10 dX11_bolsters_7 rfl f11_28 rfl (by first | with_reducible assumption | with_reducible exact cr_bs hC | rfl) (by first | with_reducible assumption | with_reducible exact cr_bn hC | exact Nat.le_of_ble_eq_true rfl) (cr_told hC) kk) ?_
    refine Sx.up (fun _ kk => r_getIV (nI L) 13 dX11_bolsters_10 rfl f11_101 rfl (by first | with_reducible assumption | with_reducible exact cr_bs hC | rfl) (by first | with_reducible assumption | with_reducible exact cr_bn hC | exact Nat.le_of_ble_eq_true rfl) (cL) kk) ?_
    refine Sx.up (fun _ kk => r_iconst (1) 14 dX11_bolsters_13 rfl (by decide) kk) ?_
    refine Sx.up (fun _ kk => r_icmp_le 17 29 dX11_bolsters_14 rfl (by decide) (fun h14 => absurd h14 (nI_ge (a := 1) hL1 (by omega))) (fun _ => kk)) ?_
    refine Sx.up (fun _ kk => r_aload_n 18 dX11_bolsters_17 rfl rfl kk) ?_
    refine Sx.up (fun _ kk => r_getR 21 dX11_bolsters_18 rfl f11_28 rfl (by first | with_reducible assumption | with_reducible exact cr_bs hC | rfl) (by first | with_reducible assumption | with_reducible exact cr_bn hC | exact Nat.le_of_ble_eq_true rfl) (cr_told hC) kk) ?_
    refine Sx.up (fun _ kk => r_getIV (nI L) 24 dX11_bolsters_21 rfl f11_101 rfl (by first | with_reducible assumption | with_reducible exact cr_bs hC | rfl) (by first | with_reducible assumption | with_reducible exact cr_bn hC | exact Nat.le_of_ble_eq_true rfl) (cL) kk) ?_
    refine Sx.up (fun _ kk => r_iconst (1) 25 dX11_bolsters_24 rfl (by decide) kk) ?_
    refine Sx.up (fun _ kk => r_isub 26 dX11_bolsters_25 rfl kk) ?_
    refine Sx.up (fun _ kk => r_goto 30 dX11_bolsters_26 (by decide) kk) ?_
    refine Sx.up (fun _ kk => r_istore_n 31 dX11_bolsters_30 rfl (by decide) rfl kk) ?_
    refine Sx.up (fun _ kk => r_iconst (-1) 32 dX11_bolsters_31 rfl (by decide) kk) ?_
    refine Sx.up (fun _ kk => r_istore_n 33 dX11_bolsters_32 rfl (by decide) rfl kk) ?_
    refine Sx.up (fun _ kk => r_iconst (-1) 34 dX11_bolsters_33 rfl (by decide) kk) ?_
    refine Sx.up (fun _ kk => r_istore 36 dX11_bolsters_34 rfl (by decide) rfl kk) ?_
    refine Sx.up (fun _ kk => r_aload_n 37 dX11_bolsters_36 rfl rfl kk) ?_
    refine Sx.up (fun _ kk => r_getR 40 dX11_bolsters_37 rfl f11_67 rfl (by first | with_reducible assumption | with_reducible exact cr_bs hC | rfl) (by first | with_reducible assumption | with_reducible exact cr_bn hC | exact Nat.le_of_ble_eq_true rfl) (cr_1419_0 hC) kk) ?_
    refine Sx.up (fun _ kk => r_aload_n 41 dX11_bolsters_40 rfl rfl kk) ?_
    refine Sx.up (fun _ kk => r_getR 44 dX11_bolsters_41 rfl f11_47 rfl (by first | with_reducible assumption | with_reducible exact cr_bs hC | rfl) (by first | with_reducible assumption | with_reducible exact cr_bn hC | exact Nat.le_of_ble_eq_true rfl) (cr_1414_0 hC) kk) ?_
    refine Sx.up (fun _ kk => r_getR 47 dX11_bolsters_44 rfl f11_116 rfl (by first | with_reducible assumption | with_reducible exact cr_bs hC | rfl) (by first | with_reducible assumption | with_reducible exact cr_bn hC | exact Nat.le_of_ble_eq_true rfl) (cr_1152_45 hC) kk) ?_
    refine Sx.up (fun _ kk => r_callV (M := mX11_bolsters) (pc := 47) 50 dX11_bolsters_47 rfl k11_272 hcp rfl rfl (by first | with_reducible assumption | with_reducible exact cr_bs hC | rfl) (by decide) rfl (by first | with_reducible assumption | with_reducible exact cr_bn hC | exact Nat.le_of_ble_eq_true rfl) (Nat.le_of_ble_eq_true rfl) kk) ?_
    refine Sx.up (fun _ kk => r_iconst (0) 51 dX11_bolsters_50 rfl (by decide) kk) ?_
    refine Sx.up (fun _ kk => r_istore 53 dX11_bolsters_51 rfl (by decide) rfl kk) ?_
    exact Sx.less (ls := [some (.ref 0), some (.int w), some (.int (nI (L - 1))), some (.int (-1)), some (.int (-1)), some (.int (nI 0)), none, none]) (by rw [show nI L - 1 = nI (L - 1) by rw [show L = L - 1 + 1 by omega, nI_pred]; rfl]; exact ⟨rfl, rfl, rfl, rfl, rfl, rfl, trivial⟩) (loop E1 ⟨_, t1, fun _ => rfl⟩)
  · refine Sx.up (fun _ kk => r_aload_n 1 dX11_bolsters_0 rfl rfl kk) ?_
    refine Sx.up (fun _ kk => r_iload_n 2 dX11_bolsters_1 rfl rfl kk) ?_
    refine Sx.up (fun _ kk => r_iconst (2) 3 dX11_bolsters_2 rfl (by decide) kk) ?_
    refine Sx.up (fun _ kk => r_callV (M := mX11_bolsters) (pc := 3) 6 dX11_bolsters_3 rfl k11_192 (c_X11_checkNumber hw) rfl rfl (by first | with_reducible assumption | with_reducible exact cr_bs hC | rfl) (by decide) rfl (by first | with_reducible assumption | with_reducible exact cr_bn hC | exact Nat.le_of_ble_eq_true rfl) (Nat.le_of_ble_eq_true rfl) kk) ?_
    refine Sx.up (fun _ kk => r_aload_n 7 dX11_bolsters_6 rfl rfl kk) ?_
    refine Sx.up (fun _ kk => r_getR 10 dX11_bolsters_7 rfl f11_28 rfl (by first | with_reducible assumption | with_reducible exact cr_bs hC | rfl) (by first | with_reducible assumption | with_reducible exact cr_bn hC | exact Nat.le_of_ble_eq_true rfl) (cr_told hC) kk) ?_
    refine Sx.up (fun _ kk => r_getIV (nI L) 13 dX11_bolsters_10 rfl f11_101 rfl (by first | with_reducible assumption | with_reducible exact cr_bs hC | rfl) (by first | with_reducible assumption | with_reducible exact cr_bn hC | exact Nat.le_of_ble_eq_true rfl) (cL) kk) ?_
    refine Sx.up (fun _ kk => r_iconst (1) 14 dX11_bolsters_13 rfl (by decide) kk) ?_
    refine Sx.up (fun _ kk => r_icmp_le 17 29 dX11_bolsters_14 rfl (by decide) (fun _ => kk) (fun h14 => absurd (nI_le (b := 1) (by omega) (by omega)) h14)) ?_
    refine Sx.up (fun _ kk => r_iconst (0) 30 dX11_bolsters_29 rfl (by decide) kk) ?_
    refine Sx.up (fun _ kk => r_istore_n 31 dX11_bolsters_30 rfl (by decide) rfl kk) ?_
    refine Sx.up (fun _ kk => r_iconst (-1) 32 dX11_bolsters_31 rfl (by decide) kk) ?_
    refine Sx.up (fun _ kk => r_istore_n 33 dX11_bolsters_32 rfl (by decide) rfl kk) ?_
    refine Sx.up (fun _ kk => r_iconst (-1) 34 dX11_bolsters_33 rfl (by decide) kk) ?_
    refine Sx.up (fun _ kk => r_istore 36 dX11_bolsters_34 rfl (by decide) rfl kk) ?_
    refine Sx.up (fun _ kk => r_aload_n 37 dX11_bolsters_36 rfl rfl kk) ?_
    refine Sx.up (fun _ kk => r_getR 40 dX11_bolsters_37 rfl f11_67 rfl (by first | with_reducible assumption | with_reducible exact cr_bs hC | rfl) (by first | with_reducible assumption | with_reducible exact cr_bn hC | exact Nat.le_of_ble_eq_true rfl) (cr_1419_0 hC) kk) ?_
    refine Sx.up (fun _ kk => r_aload_n 41 dX11_bolsters_40 rfl rfl kk) ?_
    refine Sx.up (fun _ kk => r_getR 44 dX11_bolsters_41 rfl f11_47 rfl (by first | with_reducible assumption | with_reducible exact cr_bs hC | rfl) (by first | with_reducible assumption | with_reducible exact cr_bn hC | exact Nat.le_of_ble_eq_true rfl) (cr_1414_0 hC) kk) ?_
    refine Sx.up (fun _ kk => r_getR 47 dX11_bolsters_44 rfl f11_116 rfl (by first | with_reducible assumption | with_reducible exact cr_bs hC | rfl) (by first | with_reducible assumption | with_reducible exact cr_bn hC | exact Nat.le_of_ble_eq_true rfl) (cr_1152_45 hC) kk) ?_
    refine Sx.up (fun _ kk => r_callV (M := mX11_bolsters) (pc := 47) 50 dX11_bolsters_47 rfl k11_272 hcp rfl rfl (by first | with_reducible assumption | with_reducible exact cr_bs hC | rfl) (by decide) rfl (by first | with_reducible assumption | with_reducible exact cr_bn hC | exact Nat.le_of_ble_eq_true rfl) (Nat.le_of_ble_eq_true rfl) kk) ?_
    refine Sx.up (fun _ kk => r_iconst (0) 51 dX11_bolsters_50 rfl (by decide) kk) ?_
    refine Sx.up (fun _ kk => r_istore 53 dX11_bolsters_51 rfl (by decide) rfl kk) ?_
    exact Sx.less (ls := [some (.ref 0), some (.int w), some (.int (nI (L - 1))), some (.int (-1)), some (.int (-1)), some (.int (nI 0)), none, none]) (by rw [show L - 1 = 0 by omega]; exact ⟨rfl, rfl, rfl, rfl, rfl, rfl, trivial⟩) (loop E1 ⟨_, t1, fun _ => rfl⟩)
  · intro E2 ⟨c, t2, hce⟩
    refine Sx.up (fun _ kk => r_iload 55 dX11_bolsters_53 rfl rfl kk) ?_
    refine Sx.up (fun _ kk => r_iconst (1) 56 dX11_bolsters_55 rfl (by decide) kk) ?_
    refine Sx.up (fun _ kk => r_iload_n 57 dX11_bolsters_56 rfl rfl kk) ?_
    refine Sx.up (fun _ kk => r_ishl 58 dX11_bolsters_57 rfl kk) ?_
    rw [hpw]
    refine Sx.up (fun _ kk => r_icmp_ge 61 138 dX11_bolsters_58 rfl (by decide) (fun _ => kk) (fun h58 => absurd (nI_le (Nat.le_refl _) (by omega)) h58)) ?_
    refine Sx.up (fun _ kk => r_iload_n 139 dX11_bolsters_138 rfl rfl kk) ?_
    refine Sx.br (fun _ ka kb => r_if_ne 142 146 dX11_bolsters_139 rfl (by decide) ka kb) (by first | exact em1 | exact em2) (fun h139 => ?_) (fun h139 => ?_)
    · refine Sx.up (fun _ kk => r_iload 148 dX11_bolsters_146 rfl rfl kk) ?_
      refine ⟨_, ?_, r_iret dX11_bolsters_148 rfl rfl rfl⟩
      refine ⟨E2, ?_, t2.1⟩
      first | rw [if_pos h139] | rw [if_neg h139]
    · refine Sx.up (fun _ kk => r_iload_n 143 dX11_bolsters_142 rfl rfl kk) ?_
      refine Sx.up (fun _ kk => r_goto 148 dX11_bolsters_143 (by decide) kk) ?_
      refine ⟨_, ?_, r_iret dX11_bolsters_148 rfl rfl rfl⟩
      refine ⟨E2, ?_, t2.1⟩
      first | rw [if_pos h139] | rw [if_neg h139]
  · intro k9 E2 hk0 hk9 ⟨c, t2, hce⟩ hq
    obtain ⟨hsh, -⟩ := dbl_nI k9 (by omega)
    have t3 : TR E (sI E2 518 75 (nI (2 * k9))) b L (cBol c (nI (2 * k9))) (gI E 519 46) := tr_bol t2
    rw [hce] at t3
    have hC2 := cr_kr t2.1.2 hC
    have hC3 := cr_kr t3.1.2 hC
    have ok9 : cokN L L (cBol (cfgP E 46) (nI (2 * k9))) := cok
    have ov : NVis _ b 75 (vBol E b L R k9) := tr_nvis t3 hci ok9
    have cmi2 : gI (sI E2 518 75 (nI (2 * k9))) 7 b = nI m := (fr_gI t3.1.1 (qq_no hb (by omega)) _).trans cmi
    obtain ⟨E3, ⟨f1, f2, f3, f4⟩, hcl⟩ := c_X11_passTrial (d := d + 1) hC3 ov ok9.2.2.2.2.1 m6 cmi2
    have t4 := tr_pass hb t3 f1 f2
    have hgo := hq E3 ⟨_, t4, fun _ => rfl⟩
    rw [← nI_pp] at hgo
    refine Sx.up (fun _ kk => r_iload 55 dX11_bolsters_53 rfl rfl kk) ?_
    refine Sx.up (fun _ kk => r_iconst (1) 56 dX11_bolsters_55 rfl (by decide) kk) ?_
    refine Sx.up (fun _ kk => r_iload_n 57 dX11_bolsters_56 rfl rfl kk) ?_
    refine Sx.up (fun _ kk => r_ishl 58 dX11_bolsters_57 rfl kk) ?_
    rw [hpw]
    refine Sx.up (fun _ kk => r_icmp_ge 61 138 dX11_bolsters_58 rfl (by decide) (fun h58 => absurd h58 (nI_ge hk9 (by omega))) (fun _ => kk)) ?_
    refine Sx.up (fun _ kk => r_aload_n 62 dX11_bolsters_61 rfl rfl kk) ?_
    refine Sx.up (fun _ kk => r_getR 65 dX11_bolsters_62 rfl f11_67 rfl (by first | with_reducible assumption | with_reducible exact cr_bs hC2 | rfl) (by first | with_reducible assumption | with_reducible exact cr_bn hC2 | exact Nat.le_of_ble_eq_true rfl) (cr_1419_0 hC2) kk) ?_
    refine Sx.up (fun _ kk => r_iload 67 dX11_bolsters_65 rfl rfl kk) ?_
    refine Sx.up (fun _ kk => r_iconst (1) 68 dX11_bolsters_67 rfl (by decide) kk) ?_
    refine Sx.up (fun _ kk => r_ishl 69 dX11_bolsters_68 rfl kk) ?_
    rw [hsh]
    refine Sx.up (fun _ kk => r_putI 72 dX11_bolsters_69 rfl f11_119 (by first | with_reducible assumption | with_reducible exact cr_bs hC2 | rfl) (by first | with_reducible assumption | with_reducible exact cr_bn hC2 | exact Nat.le_of_ble_eq_true rfl) kk) ?_
    refine Sx.up (fun _ kk => r_aload_n 73 dX11_bolsters_72 rfl rfl kk) ?_
    refine Sx.up (fun _ kk => r_callV (M := mX11_bolsters) (pc := 73) 76 dX11_bolsters_73 rfl k11_287 hcl rfl rfl (by first | with_reducible assumption | with_reducible exact cr_bs hC2 | rfl) (by decide) rfl (by first | with_reducible assumption | with_reducible exact cr_bn hC2 | exact Nat.le_of_ble_eq_true rfl) (Nat.le_of_ble_eq_true rfl) kk) ?_
    refine Sx.up (fun _ kk => r_istore 78 dX11_bolsters_76 rfl (by decide) rfl kk) ?_
    refine Sx.up (fun _ kk => r_iload 80 dX11_bolsters_78 rfl rfl kk) ?_
    refine Sx.up (fun _ kk => r_iload 82 dX11_bolsters_80 rfl rfl kk) ?_
    refine Sx.br (fun _ ka kb => r_icmp_ne 85 103 dX11_bolsters_82 rfl (by decide) ka kb) (by first | exact em1 | exact em2) (fun h82 => ?_) (fun h82 => ?_)
    · refine Sx.up (fun _ kk => r_iconst (0) 104 dX11_bolsters_103 rfl (by decide) kk) ?_
      refine Sx.up (fun _ kk => r_istore 106 dX11_bolsters_104 rfl (by decide) rfl kk) ?_
      refine Sx.up (fun _ kk => r_iload_n 107 dX11_bolsters_106 rfl rfl kk) ?_
      refine Sx.up (fun _ kk => r_iconst (-1) 108 dX11_bolsters_107 rfl (by decide) kk) ?_
      refine Sx.br (fun _ ka kb => r_icmp_eq 111 123 dX11_bolsters_108 rfl (by decide) ka kb) (by first | exact em1 | exact em2) (fun h108 => ?_) (fun h108 => ?_)
      · refine Sx.up (fun _ kk => r_iload 125 dX11_bolsters_123 rfl rfl kk) ?_
        refine Sx.up (fun _ kk => r_iconst (1) 126 dX11_bolsters_125 rfl (by decide) kk) ?_
        refine Sx.up (fun _ kk => r_ishl 127 dX11_bolsters_126 rfl kk) ?_
        refine Sx.up (fun _ kk => r_istore_n 128 dX11_bolsters_127 rfl (by decide) rfl kk) ?_
        refine Sx.up (fun _ kk => r_iload 130 dX11_bolsters_128 rfl rfl kk) ?_
        refine Sx.up (fun _ kk => r_istore 132 dX11_bolsters_130 rfl (by decide) rfl kk) ?_
        refine Sx.up (fun _ kk => r_iinc (1) 135 dX11_bolsters_132 rfl rfl (by decide) (by decide) rfl kk) ?_
        refine Sx.up (fun _ kk => r_goto 53 dX11_bolsters_135 (by decide) kk) ?_
        rw [bol_y (Or.inl h108)] at hgo
        try rw [hsh]
        exact Sx.less (by exact ⟨rfl, rfl, rfl, rfl, rfl, rfl, trivial⟩) hgo
      · refine Sx.up (fun _ kk => r_iload 113 dX11_bolsters_111 rfl rfl kk) ?_
        refine Sx.up (fun _ kk => r_iload 115 dX11_bolsters_113 rfl rfl kk) ?_
        refine Sx.br (fun _ ka kb => r_icmp_lt 118 123 dX11_bolsters_115 rfl (by decide) ka kb) (by first | exact em1 | exact em2) (fun h115 => ?_) (fun h115 => ?_)
        · refine Sx.up (fun _ kk => r_iload 125 dX11_bolsters_123 rfl rfl kk) ?_
          refine Sx.up (fun _ kk => r_iconst (1) 126 dX11_bolsters_125 rfl (by decide) kk) ?_
          refine Sx.up (fun _ kk => r_ishl 127 dX11_bolsters_126 rfl kk) ?_
          refine Sx.up (fun _ kk => r_istore_n 128 dX11_bolsters_127 rfl (by decide) rfl kk) ?_
          refine Sx.up (fun _ kk => r_iload 130 dX11_bolsters_128 rfl rfl kk) ?_
          refine Sx.up (fun _ kk => r_istore 132 dX11_bolsters_130 rfl (by decide) rfl kk) ?_
          refine Sx.up (fun _ kk => r_iinc (1) 135 dX11_bolsters_132 rfl rfl (by decide) (by decide) rfl kk) ?_
          refine Sx.up (fun _ kk => r_goto 53 dX11_bolsters_135 (by decide) kk) ?_
          rw [bol_y (w := fun e => nS (nightF (vBol E b L R e) m) 2) (z := -1) (k := k9) (Or.inr (Or.inl h115))] at hgo
          try rw [hsh]
          exact Sx.less (by exact ⟨rfl, rfl, rfl, rfl, rfl, rfl, trivial⟩) hgo
        · refine Sx.up (fun _ kk => r_iload 120 dX11_bolsters_118 rfl rfl kk) ?_
          refine Sx.br (fun _ ka kb => r_if_eq 123 132 dX11_bolsters_120 rfl (by decide) ka kb) (by first | exact em1 | exact em2) (fun h120 => ?_) (fun h120 => ?_)
          · refine Sx.up (fun _ kk => r_iinc (1) 135 dX11_bolsters_132 rfl rfl (by decide) (by decide) rfl kk) ?_
            refine Sx.up (fun _ kk => r_goto 53 dX11_bolsters_135 (by decide) kk) ?_
            rw [bol_n (fun z => z.elim h108 (fun z => z.elim h115 (fun z => h82 z.1)))] at hgo
            exact Sx.less (by exact ⟨rfl, rfl, rfl, rfl, rfl, rfl, trivial⟩) hgo
          · refine Sx.up (fun _ kk => r_iload 125 dX11_bolsters_123 rfl rfl kk) ?_
            refine Sx.up (fun _ kk => r_iconst (1) 126 dX11_bolsters_125 rfl (by decide) kk) ?_
            refine Sx.up (fun _ kk => r_ishl 127 dX11_bolsters_126 rfl kk) ?_
            refine Sx.up (fun _ kk => r_istore_n 128 dX11_bolsters_127 rfl (by decide) rfl kk) ?_
            refine Sx.up (fun _ kk => r_iload 130 dX11_bolsters_128 rfl rfl kk) ?_
            refine Sx.up (fun _ kk => r_istore 132 dX11_bolsters_130 rfl (by decide) rfl kk) ?_
            refine Sx.up (fun _ kk => r_iinc (1) 135 dX11_bolsters_132 rfl rfl (by decide) (by decide) rfl kk) ?_
            refine Sx.up (fun _ kk => r_goto 53 dX11_bolsters_135 (by decide) kk) ?_
            exact absurd rfl h120
    · refine Sx.up (fun _ kk => r_iload 87 dX11_bolsters_85 rfl rfl kk) ?_
      refine Sx.up (fun _ kk => r_iconst (1) 88 dX11_bolsters_87 rfl (by decide) kk) ?_
      refine Sx.up (fun _ kk => r_ishl 89 dX11_bolsters_88 rfl kk) ?_
      rw [hsh]
      refine Sx.up (fun _ kk => r_callS (M := mX11_bolsters) (pc := 89) 92 dX11_bolsters_89 rfl k11_299 c_bc rfl rfl (Nat.le_of_ble_eq_true rfl) kk) ?_
      refine Sx.up (fun _ kk => r_iload_n 93 dX11_bolsters_92 rfl rfl kk) ?_
      refine Sx.up (fun _ kk => r_callS (M := mX11_bolsters) (pc := 93) 96 dX11_bolsters_93 rfl k11_299 c_bc rfl rfl (Nat.le_of_ble_eq_true rfl) kk) ?_
      refine Sx.br (fun _ ka kb => r_icmp_ge 99 103 dX11_bolsters_96 rfl (by decide) ka kb) (by first | exact em1 | exact em2) (fun h96 => ?_) (fun h96 => ?_)
      · refine Sx.up (fun _ kk => r_iconst (0) 104 dX11_bolsters_103 rfl (by decide) kk) ?_
        refine Sx.up (fun _ kk => r_istore 106 dX11_bolsters_104 rfl (by decide) rfl kk) ?_
        refine Sx.up (fun _ kk => r_iload_n 107 dX11_bolsters_106 rfl rfl kk) ?_
        refine Sx.up (fun _ kk => r_iconst (-1) 108 dX11_bolsters_107 rfl (by decide) kk) ?_
        refine Sx.br (fun _ ka kb => r_icmp_eq 111 123 dX11_bolsters_108 rfl (by decide) ka kb) (by first | exact em1 | exact em2) (fun h108 => ?_) (fun h108 => ?_)
        · refine Sx.up (fun _ kk => r_iload 125 dX11_bolsters_123 rfl rfl kk) ?_
          refine Sx.up (fun _ kk => r_iconst (1) 126 dX11_bolsters_125 rfl (by decide) kk) ?_
          refine Sx.up (fun _ kk => r_ishl 127 dX11_bolsters_126 rfl kk) ?_
          refine Sx.up (fun _ kk => r_istore_n 128 dX11_bolsters_127 rfl (by decide) rfl kk) ?_
          refine Sx.up (fun _ kk => r_iload 130 dX11_bolsters_128 rfl rfl kk) ?_
          refine Sx.up (fun _ kk => r_istore 132 dX11_bolsters_130 rfl (by decide) rfl kk) ?_
          refine Sx.up (fun _ kk => r_iinc (1) 135 dX11_bolsters_132 rfl rfl (by decide) (by decide) rfl kk) ?_
          refine Sx.up (fun _ kk => r_goto 53 dX11_bolsters_135 (by decide) kk) ?_
          rw [bol_y (Or.inl h108)] at hgo
          try rw [hsh]
          exact Sx.less (by exact ⟨rfl, rfl, rfl, rfl, rfl, rfl, trivial⟩) hgo
        · refine Sx.up (fun _ kk => r_iload 113 dX11_bolsters_111 rfl rfl kk) ?_
          refine Sx.up (fun _ kk => r_iload 115 dX11_bolsters_113 rfl rfl kk) ?_
          refine Sx.br (fun _ ka kb => r_icmp_lt 118 123 dX11_bolsters_115 rfl (by decide) ka kb) (by first | exact em1 | exact em2) (fun h115 => ?_) (fun h115 => ?_)
          · refine Sx.up (fun _ kk => r_iload 125 dX11_bolsters_123 rfl rfl kk) ?_
            refine Sx.up (fun _ kk => r_iconst (1) 126 dX11_bolsters_125 rfl (by decide) kk) ?_
            refine Sx.up (fun _ kk => r_ishl 127 dX11_bolsters_126 rfl kk) ?_
            refine Sx.up (fun _ kk => r_istore_n 128 dX11_bolsters_127 rfl (by decide) rfl kk) ?_
            refine Sx.up (fun _ kk => r_iload 130 dX11_bolsters_128 rfl rfl kk) ?_
            refine Sx.up (fun _ kk => r_istore 132 dX11_bolsters_130 rfl (by decide) rfl kk) ?_
            refine Sx.up (fun _ kk => r_iinc (1) 135 dX11_bolsters_132 rfl rfl (by decide) (by decide) rfl kk) ?_
            refine Sx.up (fun _ kk => r_goto 53 dX11_bolsters_135 (by decide) kk) ?_
            rw [bol_y (w := fun e => nS (nightF (vBol E b L R e) m) 2) (z := -1) (k := k9) (Or.inr (Or.inl h115))] at hgo
            try rw [hsh]
            exact Sx.less (by exact ⟨rfl, rfl, rfl, rfl, rfl, rfl, trivial⟩) hgo
          · refine Sx.up (fun _ kk => r_iload 120 dX11_bolsters_118 rfl rfl kk) ?_
            refine Sx.br (fun _ ka kb => r_if_eq 123 132 dX11_bolsters_120 rfl (by decide) ka kb) (by first | exact em1 | exact em2) (fun h120 => ?_) (fun h120 => ?_)
            · refine Sx.up (fun _ kk => r_iinc (1) 135 dX11_bolsters_132 rfl rfl (by decide) (by decide) rfl kk) ?_
              refine Sx.up (fun _ kk => r_goto 53 dX11_bolsters_135 (by decide) kk) ?_
              rw [bol_n (fun z => z.elim h108 (fun z => z.elim h115 (fun z => Int32.not_lt.mpr h96 z.2)))] at hgo
              exact Sx.less (by exact ⟨rfl, rfl, rfl, rfl, rfl, rfl, trivial⟩) hgo
            · refine Sx.up (fun _ kk => r_iload 125 dX11_bolsters_123 rfl rfl kk) ?_
              refine Sx.up (fun _ kk => r_iconst (1) 126 dX11_bolsters_125 rfl (by decide) kk) ?_
              refine Sx.up (fun _ kk => r_ishl 127 dX11_bolsters_126 rfl kk) ?_
              refine Sx.up (fun _ kk => r_istore_n 128 dX11_bolsters_127 rfl (by decide) rfl kk) ?_
              refine Sx.up (fun _ kk => r_iload 130 dX11_bolsters_128 rfl rfl kk) ?_
              refine Sx.up (fun _ kk => r_istore 132 dX11_bolsters_130 rfl (by decide) rfl kk) ?_
              refine Sx.up (fun _ kk => r_iinc (1) 135 dX11_bolsters_132 rfl rfl (by decide) (by decide) rfl kk) ?_
              refine Sx.up (fun _ kk => r_goto 53 dX11_bolsters_135 (by decide) kk) ?_
              exact absurd rfl h120
      · refine Sx.up (fun _ kk => r_iconst (1) 100 dX11_bolsters_99 rfl (by decide) kk) ?_
        refine Sx.up (fun _ kk => r_goto 104 dX11_bolsters_100 (by decide) kk) ?_
        refine Sx.up (fun _ kk => r_istore 106 dX11_bolsters_104 rfl (by decide) rfl kk) ?_
        refine Sx.up (fun _ kk => r_iload_n 107 dX11_bolsters_106 rfl rfl kk) ?_
        refine Sx.up (fun _ kk => r_iconst (-1) 108 dX11_bolsters_107 rfl (by decide) kk) ?_
        refine Sx.br (fun _ ka kb => r_icmp_eq 111 123 dX11_bolsters_108 rfl (by decide) ka kb) (by first | exact em1 | exact em2) (fun h108 => ?_) (fun h108 => ?_)
        · refine Sx.up (fun _ kk => r_iload 125 dX11_bolsters_123 rfl rfl kk) ?_
          refine Sx.up (fun _ kk => r_iconst (1) 126 dX11_bolsters_125 rfl (by decide) kk) ?_
          refine Sx.up (fun _ kk => r_ishl 127 dX11_bolsters_126 rfl kk) ?_
          refine Sx.up (fun _ kk => r_istore_n 128 dX11_bolsters_127 rfl (by decide) rfl kk) ?_
          refine Sx.up (fun _ kk => r_iload 130 dX11_bolsters_128 rfl rfl kk) ?_
          refine Sx.up (fun _ kk => r_istore 132 dX11_bolsters_130 rfl (by decide) rfl kk) ?_
          refine Sx.up (fun _ kk => r_iinc (1) 135 dX11_bolsters_132 rfl rfl (by decide) (by decide) rfl kk) ?_
          refine Sx.up (fun _ kk => r_goto 53 dX11_bolsters_135 (by decide) kk) ?_
          rw [bol_y (Or.inl h108)] at hgo
          try rw [hsh]
          exact Sx.less (by exact ⟨rfl, rfl, rfl, rfl, rfl, rfl, trivial⟩) hgo
        · refine Sx.up (fun _ kk => r_iload 113 dX11_bolsters_111 rfl rfl kk) ?_
          refine Sx.up (fun _ kk => r_iload 115 dX11_bolsters_113 rfl rfl kk) ?_
          refine Sx.br (fun _ ka kb => r_icmp_lt 118 123 dX11_bolsters_115 rfl (by decide) ka kb) (by first | exact em1 | exact em2) (fun h115 => ?_) (fun h115 => ?_)
          · refine Sx.up (fun _ kk => r_iload 125 dX11_bolsters_123 rfl rfl kk) ?_
            refine Sx.up (fun _ kk => r_iconst (1) 126 dX11_bolsters_125 rfl (by decide) kk) ?_
            refine Sx.up (fun _ kk => r_ishl 127 dX11_bolsters_126 rfl kk) ?_
            refine Sx.up (fun _ kk => r_istore_n 128 dX11_bolsters_127 rfl (by decide) rfl kk) ?_
            refine Sx.up (fun _ kk => r_iload 130 dX11_bolsters_128 rfl rfl kk) ?_
            refine Sx.up (fun _ kk => r_istore 132 dX11_bolsters_130 rfl (by decide) rfl kk) ?_
            refine Sx.up (fun _ kk => r_iinc (1) 135 dX11_bolsters_132 rfl rfl (by decide) (by decide) rfl kk) ?_
            refine Sx.up (fun _ kk => r_goto 53 dX11_bolsters_135 (by decide) kk) ?_
            rw [bol_y (w := fun e => nS (nightF (vBol E b L R e) m) 2) (z := -1) (k := k9) (Or.inr (Or.inl h115))] at hgo
            try rw [hsh]
            exact Sx.less (by exact ⟨rfl, rfl, rfl, rfl, rfl, rfl, trivial⟩) hgo
          · refine Sx.up (fun _ kk => r_iload 120 dX11_bolsters_118 rfl rfl kk) ?_
            refine Sx.br (fun _ ka kb => r_if_eq 123 132 dX11_bolsters_120 rfl (by decide) ka kb) (by first | exact em1 | exact em2) (fun h120 => ?_) (fun h120 => ?_)
            · refine Sx.up (fun _ kk => r_iinc (1) 135 dX11_bolsters_132 rfl rfl (by decide) (by decide) rfl kk) ?_
              refine Sx.up (fun _ kk => r_goto 53 dX11_bolsters_135 (by decide) kk) ?_
              exact absurd h120 (by decide)
            · refine Sx.up (fun _ kk => r_iload 125 dX11_bolsters_123 rfl rfl kk) ?_
              refine Sx.up (fun _ kk => r_iconst (1) 126 dX11_bolsters_125 rfl (by decide) kk) ?_
              refine Sx.up (fun _ kk => r_ishl 127 dX11_bolsters_126 rfl kk) ?_
              refine Sx.up (fun _ kk => r_istore_n 128 dX11_bolsters_127 rfl (by decide) rfl kk) ?_
              refine Sx.up (fun _ kk => r_iload 130 dX11_bolsters_128 rfl rfl kk) ?_
              refine Sx.up (fun _ kk => r_istore 132 dX11_bolsters_130 rfl (by decide) rfl kk) ?_
              refine Sx.up (fun _ kk => r_iinc (1) 135 dX11_bolsters_132 rfl rfl (by decide) (by decide) rfl kk) ?_
              refine Sx.up (fun _ kk => r_goto 53 dX11_bolsters_135 (by decide) kk) ?_
              rw [bol_y (Or.inr (Or.inr ⟨h82, Int32.not_le.mp h96⟩))] at hgo
              try rw [hsh]
              exact Sx.less (by exact ⟨rfl, rfl, rfl, rfl, rfl, rfl, trivial⟩) hgo
set_option maxRecDepth 20000 in
theorem x_bolsters {d b L m : Nat} {R : List Int32} {E : HP} {w : Int32} (hci : CI E b L m R) (h : ¬ inB w 2) : Cl yX11_bolsters mX11_bolsters (d + 8) 1 6 [.ref 0, .int (w)] E 137 (.inr nseN, E, 137) := by
  have hC := hci.1
  have cL := hci.2.1
  have l7 : L ≤ 7 := hci.2.2.2.1.2.1
  refine Cl.of (by decide) rfl (fun q => by cases q) rfl rfl (Nat.le_of_ble_eq_true rfl) ?_
  show Sm _ _ _ _ _ 0 [some (.ref 0), some (.int (w)), none, none, none, none, none, none] [] _ _
  refine r_aload_n 1 dX11_bolsters_0 rfl rfl ?_
  refine r_iload_n 2 dX11_bolsters_1 rfl rfl ?_
  refine r_iconst (2) 3 dX11_bolsters_2 rfl (by decide) ?_
  exact r_callVX (M := mX11_bolsters) (pc := 3) dX11_bolsters_3 k11_192 (x_checkNumber h) rfl rfl (by first | with_reducible assumption | with_reducible exact cr_bs hC | rfl) (by decide) rfl (by first | with_reducible assumption | with_reducible exact cr_bn hC | exact Nat.le_of_ble_eq_true rfl) (Nat.le_of_ble_eq_true rfl) rfl rfl (rfl)
