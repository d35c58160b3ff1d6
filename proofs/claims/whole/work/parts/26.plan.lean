/-! Plan; Bed.tenthsWoken -/
/-- one below nI m: where a loop that counts down stands -/
def dn (m : Nat) : Int32 := nI m - 1
theorem dn_s (m : Nat) : dn (m + 1) = nI m := nI_pred m
theorem dn_0 : dn 0 < 0 := by decide
theorem dn_p {m : Nat} (h : m < 100000) : ¬ dn (m + 1) < 0 := by rw [dn_s]; exact nI_pos (by omega)
theorem dn_m1 (m : Nat) : dn (m + 1) + m1 = dn m := by
  rw [dn_s, m1_eq]
  unfold dn
  rw [Int32.sub_eq_add_neg]
theorem dn_b (m : Nat) : nI m + m1 = dn m := by rw [← dn_s, dn_m1]
theorem loopDown {P : Nat → Prop} (l : Nat) (h0 : P 0) (hs : ∀ m, m < l → P m → P (m + 1)) : P l := by
  have : ∀ m, m ≤ l → P m := by
    intro m
    induction m with
    | zero => intro _; exact h0
    | succ m ih => intro h; exact hs m (by omega) (ih (by omega))
  exact this l (Nat.le_refl l)
def twV (E : HP) (b p l : Nat) : Nat → Int32 × Int32
  | 0 => (0, 0)
  | j + 1 => ((twV E b p l j).1 + gI E 1030 (whoId b (ordAt E p (l - 1 - j))) * (twV E b p l j).2, (twV E b p l j).2 + (if slCan (gI E 1024 (whoId b (ordAt E p (l - 1 - j)))) = 0 then 0 else 1))
set_option maxRecDepth 20000 in
theorem c_X0_tenthsWoken {d n b p l : Nat} {E : HP} (ok : BedOK E n b) (okp : PlanOK E n p) (hl : gI E 514 p = nI l) (hl7 : l ≤ 7) : Cl yX0_tenthsWoken mX0_tenthsWoken (d + 1) 0 0 [.ref b, .ref p] E n (.inl (some (.int (twV E b p l l).1)), E, n) := by
  obtain ⟨o1, o2, o3, o4, o5, o6, o7, o8, o9, o10, o11⟩ := id ok
  have hbn : b < n := bo_n ok
  have hbn1 : b + 1 < n := bo_n1 ok
  have hbn2 : b + 2 < n := bo_n2 ok
  have r1 := ro_1 o9
  have r6 := ro_6 o9
  have u1 := uo_1 o10
  have u8 := uo_n o10
  obtain ⟨p1, p2, p3, p4, p5, p6⟩ := id okp
  refine Cl.of (by decide) rfl (fun q => by cases q) rfl rfl (Nat.le_of_ble_eq_true rfl) ?_
  show Sm _ _ _ _ _ 0 [some (.ref b), some (.ref p), none, none, none, none] [] _ _
  have loop := loopDown (P := fun m9 => Sm mX0_tenthsWoken (d + 1) 0 0 (.inl (some (.int (twV E b p l l).1)), E, n) 12 [some (.ref b), some (.ref p), some (.int (twV E b p l (l - m9)).1), some (.int (twV E b p l (l - m9)).2), some (.int (dn m9)), none] [] E n) (l) ?_ ?_
  refine r_iconst (0) 1 dX0_tenthsWoken_0 rfl (by decide) ?_
  refine r_istore_n 2 dX0_tenthsWoken_1 rfl (by decide) rfl ?_
  refine r_iconst (0) 3 dX0_tenthsWoken_2 rfl (by decide) ?_
  refine r_istore_n 4 dX0_tenthsWoken_3 rfl (by decide) rfl ?_
  refine r_aload_n 5 dX0_tenthsWoken_4 rfl rfl ?_
  refine r_getI 8 dX0_tenthsWoken_5 rfl f0_77 rfl (by first | with_reducible assumption | (simp only [gR_sI, gR_rPut]; with_reducible assumption) | with_reducible exact ro_1 p4 | with_reducible exact ro_6 p4 | exact (who_sh ok _).1 | exact (who_sh ok _).2) (by first | with_reducible assumption | (simp only [gR_sI, gR_rPut]; with_reducible assumption) | with_reducible exact ro_1 p4 | with_reducible exact ro_6 p4 | exact (who_sh ok _).1 | exact (who_sh ok _).2) ?_
  refine r_iconst (1) 9 dX0_tenthsWoken_8 rfl (by decide) ?_
  refine r_isub 10 dX0_tenthsWoken_9 rfl ?_
  refine r_istore 12 dX0_tenthsWoken_10 rfl (by decide) rfl ?_
  have e0 : gI E 514 p - 1 = dn l := by rw [hl]; rfl
  rw [e0]
  rw [show l - l = 0 by omega] at loop
  exact loop
  · refine r_iload 14 dX0_tenthsWoken_12 rfl rfl ?_
    refine r_if_lt 17 64 dX0_tenthsWoken_14 rfl (by decide) (fun h14 => ?_) (fun h14 => absurd dn_0 h14)
    refine r_iload_n 65 dX0_tenthsWoken_64 rfl rfl ?_
    exact r_iret dX0_tenthsWoken_65 rfl rfl (rfl)
  · intro m9 hm9 hq
    show Sm mX0_tenthsWoken (d + 1) 0 0 (.inl (some (.int (twV E b p l l).1)), E, n) 12 [some (.ref b), some (.ref p), some (.int (twV E b p l (l - (m9 + 1))).1), some (.int (twV E b p l (l - (m9 + 1))).2), some (.int (dn (m9 + 1))), none] [] E n
    rw [dn_s]
    refine r_iload 14 dX0_tenthsWoken_12 rfl rfl ?_
    refine r_if_lt 17 64 dX0_tenthsWoken_14 rfl (by decide) (fun h14 => absurd h14 (nI_pos (by omega))) (fun h14 => ?_)
    refine r_aload_n 18 dX0_tenthsWoken_17 rfl rfl ?_
    refine r_aload_n 19 dX0_tenthsWoken_18 rfl rfl ?_
    refine r_getR 22 dX0_tenthsWoken_19 rfl f0_82 rfl (by first | with_reducible assumption | (simp only [gR_sI, gR_rPut]; with_reducible assumption) | with_reducible exact ro_1 p4 | with_reducible exact ro_6 p4 | exact (who_sh ok _).1 | exact (who_sh ok _).2) (by first | with_reducible assumption | (simp only [gR_sI, gR_rPut]; with_reducible assumption) | with_reducible exact ro_1 p4 | with_reducible exact ro_6 p4 | exact (who_sh ok _).1 | exact (who_sh ok _).2) (by first | with_reducible assumption | (simp only [gR_sI, gR_rPut]; with_reducible assumption) | with_reducible exact ro_1 p4 | with_reducible exact ro_6 p4 | exact (who_sh ok _).1 | exact (who_sh ok _).2) ?_
    refine r_iload 24 dX0_tenthsWoken_22 rfl rfl ?_
    refine r_callV (M := mX0_tenthsWoken) (pc := 24) 27 dX0_tenthsWoken_24 rfl k0_69 (c_X6_at p4) rfl rfl (by first | with_reducible assumption | (simp only [gR_sI, gR_rPut]; with_reducible assumption) | with_reducible exact ro_1 p4 | with_reducible exact ro_6 p4 | exact (who_sh ok _).1 | exact (who_sh ok _).2) (by decide) rfl (by first | with_reducible assumption | (simp only [gR_sI, gR_rPut]; with_reducible assumption) | with_reducible exact ro_1 p4 | with_reducible exact ro_6 p4 | exact (who_sh ok _).1 | exact (who_sh ok _).2) (Nat.le_of_ble_eq_true rfl) ?_
    refine r_callV (M := mX0_tenthsWoken) (pc := 27) 30 dX0_tenthsWoken_27 rfl k0_89 (c_X0_who ok) rfl rfl (by first | with_reducible assumption | (simp only [gR_sI, gR_rPut]; with_reducible assumption) | with_reducible exact ro_1 p4 | with_reducible exact ro_6 p4 | exact (who_sh ok _).1 | exact (who_sh ok _).2) (by decide) rfl (by first | with_reducible assumption | (simp only [gR_sI, gR_rPut]; with_reducible assumption) | with_reducible exact ro_1 p4 | with_reducible exact ro_6 p4 | exact (who_sh ok _).1 | exact (who_sh ok _).2) (Nat.le_of_ble_eq_true rfl) ?_
    refine r_astore 32 dX0_tenthsWoken_30 rfl (by decide) rfl ?_
    refine r_iload_n 33 dX0_tenthsWoken_32 rfl rfl ?_
    refine r_aload 35 dX0_tenthsWoken_33 rfl rfl ?_
    refine r_getI 38 dX0_tenthsWoken_35 rfl f0_96 rfl (by first | with_reducible assumption | (simp only [gR_sI, gR_rPut]; with_reducible assumption) | with_reducible exact ro_1 p4 | with_reducible exact ro_6 p4 | exact (who_sh ok _).1 | exact (who_sh ok _).2) (by first | with_reducible assumption | (simp only [gR_sI, gR_rPut]; with_reducible assumption) | with_reducible exact ro_1 p4 | with_reducible exact ro_6 p4 | exact (who_sh ok _).1 | exact (who_sh ok _).2) ?_
    refine r_iload_n 39 dX0_tenthsWoken_38 rfl rfl ?_
    refine r_imul 40 dX0_tenthsWoken_39 rfl ?_
    refine r_iadd 41 dX0_tenthsWoken_40 rfl ?_
    refine r_istore_n 42 dX0_tenthsWoken_41 rfl (by decide) rfl ?_
    refine r_iload_n 43 dX0_tenthsWoken_42 rfl rfl ?_
    refine r_aload 45 dX0_tenthsWoken_43 rfl rfl ?_
    refine r_callV (M := mX0_tenthsWoken) (pc := 45) 48 dX0_tenthsWoken_45 rfl k0_99 (c_X8_canWake (who_sh ok _).1 (who_sh ok _).2) rfl rfl (by first | with_reducible assumption | (simp only [gR_sI, gR_rPut]; with_reducible assumption) | with_reducible exact ro_1 p4 | with_reducible exact ro_6 p4 | exact (who_sh ok _).1 | exact (who_sh ok _).2) (by decide) rfl (by first | with_reducible assumption | (simp only [gR_sI, gR_rPut]; with_reducible assumption) | with_reducible exact ro_1 p4 | with_reducible exact ro_6 p4 | exact (who_sh ok _).1 | exact (who_sh ok _).2) (Nat.le_of_ble_eq_true rfl) ?_
    refine r_if_eq 51 55 dX0_tenthsWoken_48 rfl (by decide) (fun h48 => ?_) (fun h48 => ?_)
    · refine r_iconst (0) 56 dX0_tenthsWoken_55 rfl (by decide) ?_
      refine r_iadd 57 dX0_tenthsWoken_56 rfl ?_
      refine r_istore_n 58 dX0_tenthsWoken_57 rfl (by decide) rfl ?_
      refine r_iinc (m1) 61 dX0_tenthsWoken_58 rfl rfl (m1_of) (by decide) rfl ?_
      refine r_goto 12 dX0_tenthsWoken_61 (by decide) ?_
      rw [dn_b]
      have hE : twV E b p l (l - m9) = twV E b p l (l - (m9 + 1) + 1) := by rw [show l - (m9 + 1) + 1 = l - m9 by omega]
      have ho : ordAt E p (l - 1 - (l - (m9 + 1))) = rAt E (p + 1) 7 (nI m9) := by rw [show l - 1 - (l - (m9 + 1)) = m9 by omega]; rfl
      rw [hE] at hq
      simp only [twV, ho] at hq
      first | rw [if_pos h48] at hq | rw [if_neg h48] at hq
      exact Sm.less (by exact ⟨rfl, rfl, rfl, rfl, rfl, trivial⟩) hq
    · refine r_iconst (1) 52 dX0_tenthsWoken_51 rfl (by decide) ?_
      refine r_goto 56 dX0_tenthsWoken_52 (by decide) ?_
      refine r_iadd 57 dX0_tenthsWoken_56 rfl ?_
      refine r_istore_n 58 dX0_tenthsWoken_57 rfl (by decide) rfl ?_
      refine r_iinc (m1) 61 dX0_tenthsWoken_58 rfl rfl (m1_of) (by decide) rfl ?_
      refine r_goto 12 dX0_tenthsWoken_61 (by decide) ?_
      rw [dn_b]
      have hE : twV E b p l (l - m9) = twV E b p l (l - (m9 + 1) + 1) := by rw [show l - (m9 + 1) + 1 = l - m9 by omega]
      have ho : ordAt E p (l - 1 - (l - (m9 + 1))) = rAt E (p + 1) 7 (nI m9) := by rw [show l - 1 - (l - (m9 + 1)) = m9 by omega]; rfl
      rw [hE] at hq
      simp only [twV, ho] at hq
      first | rw [if_pos h48] at hq | rw [if_neg h48] at hq
      exact Sm.less (by exact ⟨rfl, rfl, rfl, rfl, rfl, trivial⟩) hq
def plSay (E : HP) (p : Nat) (s e : Int32) : HP := sI (sI E 516 p (if e = 0 then -1 else s)) 517 p e
set_option maxRecDepth 20000 in
theorem c_X4_letSay {d n p : Nat} {E : HP} {s e : Int32} (p1 : sh p = (4, 0)) (p6 : p < n) : Cl yX4_letSay mX4_letSay (d) 0 0 [.ref p, .int s, .int e] E n (.inl none, plSay E p s e, n) := by
  refine Cl.of (by decide) rfl (fun q => by cases q) rfl rfl (Nat.le_of_ble_eq_true rfl) ?_
  show Sm _ _ _ _ _ 0 [some (.ref p), some (.int s), some (.int e)] [] _ _
  refine r_aload_n 1 dX4_letSay_0 rfl rfl ?_
  refine r_iload_n 2 dX4_letSay_1 rfl rfl ?_
  refine r_if_ne 5 9 dX4_letSay_2 rfl (by decide) (fun h2 => ?_) (fun h2 => ?_)
  · refine r_iload_n 10 dX4_letSay_9 rfl rfl ?_
    refine r_putI 13 dX4_letSay_10 rfl f4_30 (by first | with_reducible assumption | (simp only [gR_sI, gR_rPut]; with_reducible assumption) | with_reducible exact ro_1 p4 | with_reducible exact ro_6 p4 | with_reducible exact ro_1 p5 | with_reducible exact ro_6 p5) (by first | with_reducible assumption | (simp only [gR_sI, gR_rPut]; with_reducible assumption) | with_reducible exact ro_1 p4 | with_reducible exact ro_6 p4 | with_reducible exact ro_1 p5 | with_reducible exact ro_6 p5) ?_
    refine r_aload_n 14 dX4_letSay_13 rfl rfl ?_
    refine r_iload_n 15 dX4_letSay_14 rfl rfl ?_
    refine r_putI 18 dX4_letSay_15 rfl f4_33 (by first | with_reducible assumption | (simp only [gR_sI, gR_rPut]; with_reducible assumption) | with_reducible exact ro_1 p4 | with_reducible exact ro_6 p4 | with_reducible exact ro_1 p5 | with_reducible exact ro_6 p5) (by first | with_reducible assumption | (simp only [gR_sI, gR_rPut]; with_reducible assumption) | with_reducible exact ro_1 p4 | with_reducible exact ro_6 p4 | with_reducible exact ro_1 p5 | with_reducible exact ro_6 p5) ?_
    exact r_vret dX4_letSay_18 rfl rfl (by simp only [plSay, *, if_true, if_false])
  · refine r_iconst (-1) 6 dX4_letSay_5 rfl (by decide) ?_
    refine r_goto 10 dX4_letSay_6 (by decide) ?_
    refine r_putI 13 dX4_letSay_10 rfl f4_30 (by first | with_reducible assumption | (simp only [gR_sI, gR_rPut]; with_reducible assumption) | with_reducible exact ro_1 p4 | with_reducible exact ro_6 p4 | with_reducible exact ro_1 p5 | with_reducible exact ro_6 p5) (by first | with_reducible assumption | (simp only [gR_sI, gR_rPut]; with_reducible assumption) | with_reducible exact ro_1 p4 | with_reducible exact ro_6 p4 | with_reducible exact ro_1 p5 | with_reducible exact ro_6 p5) ?_
    refine r_aload_n 14 dX4_letSay_13 rfl rfl ?_
    refine r_iload_n 15 dX4_letSay_14 rfl rfl ?_
    refine r_putI 18 dX4_letSay_15 rfl f4_33 (by first | with_reducible assumption | (simp only [gR_sI, gR_rPut]; with_reducible assumption) | with_reducible exact ro_1 p4 | with_reducible exact ro_6 p4 | with_reducible exact ro_1 p5 | with_reducible exact ro_6 p5) (by first | with_reducible assumption | (simp only [gR_sI, gR_rPut]; with_reducible assumption) | with_reducible exact ro_1 p4 | with_reducible exact ro_6 p4 | with_reducible exact ro_1 p5 | with_reducible exact ro_6 p5) ?_
    exact r_vret dX4_letSay_18 rfl rfl (by simp only [plSay, *, if_true, if_false])
def bolV (E : HP) (p : Nat) (k : Int32) : Int32 := if (gI E 518 p >>> (k &&& 31)) &&& 1 = 1 then 1 else 0
set_option maxRecDepth 20000 in
theorem c_X4_isBolsterAhead {d n p : Nat} {E : HP} {k : Int32} (p1 : sh p = (4, 0)) (p6 : p < n) : Cl yX4_isBolsterAhead mX4_isBolsterAhead (d) 0 0 [.ref p, .int k] E n (.inl (some (.int (bolV E p k))), E, n) := by
  refine Cl.of (by decide) rfl (fun q => by cases q) rfl rfl (Nat.le_of_ble_eq_true rfl) ?_
  show Sm _ _ _ _ _ 0 [some (.ref p), some (.int k)] [] _ _
  refine r_aload_n 1 dX4_isBolsterAhead_0 rfl rfl ?_
  refine r_getI 4 dX4_isBolsterAhead_1 rfl f4_36 rfl (by first | with_reducible assumption | (simp only [gR_sI, gR_rPut]; with_reducible assumption) | with_reducible exact ro_1 p4 | with_reducible exact ro_6 p4 | with_reducible exact ro_1 p5 | with_reducible exact ro_6 p5) (by first | with_reducible assumption | (simp only [gR_sI, gR_rPut]; with_reducible assumption) | with_reducible exact ro_1 p4 | with_reducible exact ro_6 p4 | with_reducible exact ro_1 p5 | with_reducible exact ro_6 p5) ?_
  refine r_iload_n 5 dX4_isBolsterAhead_4 rfl rfl ?_
  refine r_ishr 6 dX4_isBolsterAhead_5 rfl ?_
  refine r_iconst (1) 7 dX4_isBolsterAhead_6 rfl (by decide) ?_
  refine r_iand 8 dX4_isBolsterAhead_7 rfl ?_
  refine r_iconst (1) 9 dX4_isBolsterAhead_8 rfl (by decide) ?_
  refine r_icmp_ne 12 16 dX4_isBolsterAhead_9 rfl (by decide) (fun h9 => ?_) (fun h9 => ?_)
  · refine r_iconst (0) 17 dX4_isBolsterAhead_16 rfl (by decide) ?_
    exact r_zret dX4_isBolsterAhead_17 rfl rfl (by decide) (by simp only [bolV, *, if_true, if_false])
  · refine r_iconst (1) 13 dX4_isBolsterAhead_12 rfl (by decide) ?_
    refine r_goto 17 dX4_isBolsterAhead_13 (by decide) ?_
    exact r_zret dX4_isBolsterAhead_17 rfl rfl (by decide) (by simp only [bolV, *, if_true, if_false])
set_option maxRecDepth 20000 in
theorem c_X4_changeBolster {d n p : Nat} {E : HP} {k : Int32} (p1 : sh p = (4, 0)) (p6 : p < n) : Cl yX4_changeBolster mX4_changeBolster (d) 0 0 [.ref p, .int k] E n (.inl none, sI E 518 p (gI E 518 p ^^^ (1 <<< (k &&& 31))), n) := by
  refine Cl.of (by decide) rfl (fun q => by cases q) rfl rfl (Nat.le_of_ble_eq_true rfl) ?_
  show Sm _ _ _ _ _ 0 [some (.ref p), some (.int k)] [] _ _
  refine r_aload_n 1 dX4_changeBolster_0 rfl rfl ?_
  refine r_dup 2 dX4_changeBolster_1 rfl rfl ?_
  refine r_getI 5 dX4_changeBolster_2 rfl f4_36 rfl (by first | with_reducible assumption | (simp only [gR_sI, gR_rPut]; with_reducible assumption) | with_reducible exact ro_1 p4 | with_reducible exact ro_6 p4 | with_reducible exact ro_1 p5 | with_reducible exact ro_6 p5) (by first | with_reducible assumption | (simp only [gR_sI, gR_rPut]; with_reducible assumption) | with_reducible exact ro_1 p4 | with_reducible exact ro_6 p4 | with_reducible exact ro_1 p5 | with_reducible exact ro_6 p5) ?_
  refine r_iconst (1) 6 dX4_changeBolster_5 rfl (by decide) ?_
  refine r_iload_n 7 dX4_changeBolster_6 rfl rfl ?_
  refine r_ishl 8 dX4_changeBolster_7 rfl ?_
  refine r_ixor 9 dX4_changeBolster_8 rfl ?_
  refine r_putI 12 dX4_changeBolster_9 rfl f4_36 (by first | with_reducible assumption | (simp only [gR_sI, gR_rPut]; with_reducible assumption) | with_reducible exact ro_1 p4 | with_reducible exact ro_6 p4 | with_reducible exact ro_1 p5 | with_reducible exact ro_6 p5) (by first | with_reducible assumption | (simp only [gR_sI, gR_rPut]; with_reducible assumption) | with_reducible exact ro_1 p4 | with_reducible exact ro_6 p4 | with_reducible exact ro_1 p5 | with_reducible exact ro_6 p5) ?_
  exact r_vret dX4_changeBolster_12 rfl rfl (rfl)
def seedV (s : Int32) : Int32 := s * 1103515245 + 12345
set_option maxRecDepth 20000 in
theorem c_X4_nextSeed {d n : Nat} {E : HP} {s : Int32}  : Cl yX4_nextSeed mX4_nextSeed (d) 0 0 [.int s] E n (.inl (some (.int (seedV s))), E, n) := by
  refine Cl.of (by decide) rfl (fun q => by cases q) rfl rfl (Nat.le_of_ble_eq_true rfl) ?_
  show Sm _ _ _ _ _ 0 [some (.int s)] [] _ _
  refine r_iload_n 1 dX4_nextSeed_0 rfl rfl ?_
  refine r_ldc 1103515245 3 dX4_nextSeed_1 rfl c4_102 ?_
  refine r_imul 4 dX4_nextSeed_3 rfl ?_
  refine r_sipush (12345) 7 dX4_nextSeed_4 rfl (by decide) ?_
  refine r_iadd 8 dX4_nextSeed_7 rfl ?_
  exact r_iret dX4_nextSeed_8 rfl rfl (rfl)
def drawV (s k : Int32) : Int32 := if 0 < k then ((s.toUInt32 >>> ((16 : Int32).toUInt32 &&& Int32.toUInt32 31)).toInt32 &&& 32767) - ((s.toUInt32 >>> ((16 : Int32).toUInt32 &&& Int32.toUInt32 31)).toInt32 &&& 32767) / k * k else 0
set_option maxRecDepth 20000 in
theorem c_X4_draw {d n : Nat} {E : HP} {s k : Int32}  : Cl yX4_draw mX4_draw (d) 0 0 [.int s, .int k] E n (.inl (some (.int (drawV s k))), E, n) := by
  refine Cl.of (by decide) rfl (fun q => by cases q) rfl rfl (Nat.le_of_ble_eq_true rfl) ?_
  show Sm _ _ _ _ _ 0 [some (.int s), some (.int k)] [] _ _
  refine r_iload_n 1 dX4_draw_0 rfl rfl ?_
  refine r_if_gt 4 8 dX4_draw_1 rfl (by decide) (fun h1 => ?_) (fun h1 => ?_)
  · refine r_iload_n 9 dX4_draw_8 rfl rfl ?_
    refine r_bipush (16) 11 dX4_draw_9 rfl (by decide) ?_
    refine r_iushr 12 dX4_draw_11 rfl ?_
    refine r_sipush (32767) 15 dX4_draw_12 rfl (by decide) ?_
    refine r_iand 16 dX4_draw_15 rfl ?_
    refine r_iload_n 17 dX4_draw_16 rfl rfl ?_
    refine r_irem 18 dX4_draw_17 rfl (by intro z; rw [z] at h1; exact absurd h1 (by decide)) ?_
    exact r_iret dX4_draw_18 rfl rfl (by simp [drawV, *])
  · refine r_iconst (0) 5 dX4_draw_4 rfl (by decide) ?_
    refine r_goto 18 dX4_draw_5 (by decide) ?_
    exact r_iret dX4_draw_18 rfl rfl (by simp [drawV, *])
def PV (E : HP) (p l : Nat) (s v : Int32) : Prop := (∃ k, k < l ∧ ordAt E p k = s ∧ (∀ j, j < k → ¬ ordAt E p j = s) ∧ v = nI k) ∨ ((∀ j, j < l → ¬ ordAt E p j = s) ∧ v = -1)
theorem pv_hit {E : HP} {p l k : Nat} {s v : Int32} (h : PV E p l s v) (h1 : ordAt E p k = s) (hk : k < l) (h2 : ∀ j, j < k → ¬ ordAt E p j = s) : v = nI k := by
  rcases h with ⟨i, hi, e1, e2, e3⟩ | ⟨e1, -⟩
  · rcases Nat.lt_or_ge i k with q | q
    · exact absurd e1 (h2 i q)
    · rcases Nat.lt_or_ge k i with z | z
      · exact absurd h1 (e2 k z)
      · rw [e3, show i = k by omega]
  · exact absurd h1 (e1 k hk)
theorem pv_miss {E : HP} {p l : Nat} {s v : Int32} (h : PV E p l s v) (h2 : ∀ j, j < l → ¬ ordAt E p j = s) : v = -1 := by
  rcases h with ⟨i, hi, e1, e2, e3⟩ | ⟨e1, e2⟩
  · exact absurd e1 (h2 i hi)
  · exact e2
set_option maxRecDepth 20000 in
theorem c_X4_placeOf {d n p l : Nat} {E : HP} {s v : Int32} (okp : PlanOK E n p) (hl : gI E 514 p = nI l) (hl7 : l ≤ 7) (hv : PV E p l s v) : Cl yX4_placeOf mX4_placeOf (d + 1) 0 0 [.ref p, .int s] E n (.inl (some (.int v)), E, n) := by
  obtain ⟨p1, p2, p3, p4, p5, p6⟩ := id okp
  refine Cl.of (by decide) rfl (fun q => by cases q) rfl rfl (Nat.le_of_ble_eq_true rfl) ?_
  show Sm _ _ _ _ _ 0 [some (.ref p), some (.int s), none] [] _ _
  have loop := loopUpFrom (P := fun k9 => (∀ j, j < k9 → ¬ ordAt E p j = s) → Sm mX4_placeOf (d + 1) 0 0 (.inl (some (.int v)), E, n) 2 [some (.ref p), some (.int s), some (.int (nI k9))] [] E n) (a := 0) (l := l) (by omega) ?_ ?_
  refine r_iconst (0) 1 dX4_placeOf_0 rfl (by decide) ?_
  refine r_istore_n 2 dX4_placeOf_1 rfl (by decide) rfl ?_
  exact loop (fun j hj => by omega)
  · intro hP9
    refine r_iload_n 3 dX4_placeOf_2 rfl rfl ?_
    refine r_aload_n 4 dX4_placeOf_3 rfl rfl ?_
    refine r_getI 7 dX4_placeOf_4 rfl f4_23 rfl (by first | with_reducible assumption | (simp only [gR_sI, gR_rPut]; with_reducible assumption) | with_reducible exact ro_1 p4 | with_reducible exact ro_6 p4 | with_reducible exact ro_1 p5 | with_reducible exact ro_6 p5) (by first | with_reducible assumption | (simp only [gR_sI, gR_rPut]; with_reducible assumption) | with_reducible exact ro_1 p4 | with_reducible exact ro_6 p4 | with_reducible exact ro_1 p5 | with_reducible exact ro_6 p5) ?_
    refine r_icmp_ge 10 30 dX4_placeOf_7 rfl (by decide) (fun h7 => ?_) (fun h7 => absurd (by rw [hl]; exact nI_le (Nat.le_refl l) (by omega)) h7)
    refine r_iconst (-1) 31 dX4_placeOf_30 rfl (by decide) ?_
    exact r_iret dX4_placeOf_31 rfl rfl (by rw [pv_miss hv hP9])
  · intro k9 hk0 hk9 hq hP9
    refine r_iload_n 3 dX4_placeOf_2 rfl rfl ?_
    refine r_aload_n 4 dX4_placeOf_3 rfl rfl ?_
    refine r_getI 7 dX4_placeOf_4 rfl f4_23 rfl (by first | with_reducible assumption | (simp only [gR_sI, gR_rPut]; with_reducible assumption) | with_reducible exact ro_1 p4 | with_reducible exact ro_6 p4 | with_reducible exact ro_1 p5 | with_reducible exact ro_6 p5) (by first | with_reducible assumption | (simp only [gR_sI, gR_rPut]; with_reducible assumption) | with_reducible exact ro_1 p4 | with_reducible exact ro_6 p4 | with_reducible exact ro_1 p5 | with_reducible exact ro_6 p5) ?_
    refine r_icmp_ge 10 30 dX4_placeOf_7 rfl (by decide) (fun h7 => absurd h7 (by rw [hl]; exact nI_ge hk9 (by omega))) (fun h7 => ?_)
    refine r_aload_n 11 dX4_placeOf_10 rfl rfl ?_
    refine r_getR 14 dX4_placeOf_11 rfl f4_14 rfl (by first | with_reducible assumption | (simp only [gR_sI, gR_rPut]; with_reducible assumption) | with_reducible exact ro_1 p4 | with_reducible exact ro_6 p4 | with_reducible exact ro_1 p5 | with_reducible exact ro_6 p5) (by first | with_reducible assumption | (simp only [gR_sI, gR_rPut]; with_reducible assumption) | with_reducible exact ro_1 p4 | with_reducible exact ro_6 p4 | with_reducible exact ro_1 p5 | with_reducible exact ro_6 p5) (by first | with_reducible assumption | (simp only [gR_sI, gR_rPut]; with_reducible assumption) | with_reducible exact ro_1 p4 | with_reducible exact ro_6 p4 | with_reducible exact ro_1 p5 | with_reducible exact ro_6 p5) ?_
    refine r_iload_n 15 dX4_placeOf_14 rfl rfl ?_
    refine r_callV (M := mX4_placeOf) (pc := 15) 18 dX4_placeOf_15 rfl k4_76 (c_X6_at p4) rfl rfl (by first | with_reducible assumption | (simp only [gR_sI, gR_rPut]; with_reducible assumption) | with_reducible exact ro_1 p4 | with_reducible exact ro_6 p4 | with_reducible exact ro_1 p5 | with_reducible exact ro_6 p5) (by decide) rfl (by first | with_reducible assumption | (simp only [gR_sI, gR_rPut]; with_reducible assumption) | with_reducible exact ro_1 p4 | with_reducible exact ro_6 p4 | with_reducible exact ro_1 p5 | with_reducible exact ro_6 p5) (Nat.le_of_ble_eq_true rfl) ?_
    refine r_iload_n 19 dX4_placeOf_18 rfl rfl ?_
    refine r_icmp_ne 22 24 dX4_placeOf_19 rfl (by decide) (fun h19 => ?_) (fun h19 => ?_)
    · refine r_iinc (1) 27 dX4_placeOf_24 rfl rfl (by decide) (by decide) rfl ?_
      refine r_goto 2 dX4_placeOf_27 (by decide) ?_
      rw [nI_succ] at hq
      exact hq (fun j hj => by
        rcases Nat.lt_or_ge j k9 with z | z
        · exact hP9 j z
        · rw [show j = k9 by omega]; exact h19)
    · refine r_iload_n 23 dX4_placeOf_22 rfl rfl ?_
      exact r_iret dX4_placeOf_23 rfl rfl (by rw [pv_hit hv (h19) hk9 hP9])
def plCopy (p p2 : Nat) (E : HP) : HP := sI (sI (sI (sI (sI (sI (rCopy (p + 3) (p2 + 3) 7 7 (rCopy (p + 1) (p2 + 1) 7 7 E)) 514 p (gI E 514 p2)) 515 p (gI E 515 p2)) 516 p (gI E 516 p2)) 517 p (gI E 517 p2)) 518 p (gI E 518 p2)) 519 p (gI E 519 p2)
theorem gI_rCopy {E : HP} {h h2 l2 k g j : Nat} : gI (rCopy h h2 l2 k E) g j = gI E g j := gI_itF (f := fun k E => sA E (h + 1) k (rAt E h2 l2 (nI k))) (fun _ _ => rfl) k E
theorem gR_rCopy {E : HP} {h h2 l2 k g j : Nat} : gR (rCopy h h2 l2 k E) g j = gR E g j := itF_keep (f := fun k E => sA E (h + 1) k (rAt E h2 l2 (nI k))) (P := fun E2 => gR E2 g j = gR E g j) (fun i E2 q => q) k rfl
theorem gI_rUp {E : HP} {h k g j : Nat} : gI (rUp h k E) g j = gI E g j := gI_itF (f := fun k E => sA E (h + 1) k (nI k)) (fun _ _ => rfl) k E
theorem gR_rUp {E : HP} {h k g j : Nat} : gR (rUp h k E) g j = gR E g j := itF_keep (f := fun k E => sA E (h + 1) k (nI k)) (P := fun E2 => gR E2 g j = gR E g j) (fun i E2 q => q) k rfl
theorem gI_rFill {E : HP} {h k g j : Nat} {v : Int32} : gI (rFill h v k E) g j = gI E g j := gI_itF (f := fun k E => sA E (h + 1) k v) (fun _ _ => rfl) k E
theorem gR_rFill {E : HP} {h k g j : Nat} {v : Int32} : gR (rFill h v k E) g j = gR E g j := itF_keep (f := fun k E => sA E (h + 1) k v) (P := fun E2 => gR E2 g j = gR E g j) (fun i E2 q => q) k rfl
theorem plo_copy {E : HP} {n b g g2 l2 k : Nat} (o : PlanOK E n b) : PlanOK (rCopy g g2 l2 k E) n b := itF_keep (f := fun k E => sA E (g + 1) k (rAt E g2 l2 (nI k))) (P := fun E => PlanOK E n b) (fun _ _ q => q) k o
theorem plo_up {E : HP} {n b g k : Nat} (o : PlanOK E n b) : PlanOK (rUp g k E) n b := itF_keep (f := fun k E => sA E (g + 1) k (nI k)) (P := fun E => PlanOK E n b) (fun _ _ q => q) k o
theorem bo_up {E : HP} {n b g k : Nat} (o : BedOK E n b) : BedOK (rUp g k E) n b := itF_keep (f := fun k E => sA E (g + 1) k (nI k)) (P := fun E => BedOK E n b) (fun _ _ q => q) k o
theorem bo_copy {E : HP} {n b g g2 l2 k : Nat} (o : BedOK E n b) : BedOK (rCopy g g2 l2 k E) n b := itF_keep (f := fun k E => sA E (g + 1) k (rAt E g2 l2 (nI k))) (P := fun E => BedOK E n b) (fun _ _ q => q) k o
set_option maxRecDepth 20000 in
theorem c_X4_copy {d n p q : Nat} {E : HP} (okp : PlanOK E n p) (okq : PlanOK E n q) (hz : gI E 519 q = 0 ∨ gI E 519 q = 1) : Cl yX4_copy mX4_copy (d + 2) 0 0 [.ref p, .ref q] E n (.inl none, plCopy p q E, n) := by
  obtain ⟨p1, p2, p3, p4, p5, p6⟩ := id okp
  obtain ⟨q1, q2, q3, q4, q5, q6⟩ := id okq
  refine Cl.of (by decide) rfl (fun q => by cases q) rfl rfl (Nat.le_of_ble_eq_true rfl) ?_
  show Sm _ _ _ _ _ 0 [some (.ref p), some (.ref q)] [] _ _
  refine r_aload_n 1 dX4_copy_0 rfl rfl ?_
  refine r_getR 4 dX4_copy_1 rfl f4_14 rfl (by first | with_reducible assumption | (simp only [gR_sI, gR_rCopy]; with_reducible assumption) | with_reducible exact ro_1 p4 | with_reducible exact ro_6 p4 | with_reducible exact ro_1 p5 | with_reducible exact ro_6 p5) (by first | with_reducible assumption | (simp only [gR_sI, gR_rCopy]; with_reducible assumption) | with_reducible exact ro_1 p4 | with_reducible exact ro_6 p4 | with_reducible exact ro_1 p5 | with_reducible exact ro_6 p5) (by first | with_reducible assumption | (simp only [gR_sI, gR_rCopy]; with_reducible assumption) | with_reducible exact ro_1 p4 | with_reducible exact ro_6 p4 | with_reducible exact ro_1 p5 | with_reducible exact ro_6 p5) ?_
  refine r_aload_n 5 dX4_copy_4 rfl rfl ?_
  refine r_getR 8 dX4_copy_5 rfl f4_14 rfl (by first | with_reducible assumption | (simp only [gR_sI, gR_rCopy]; with_reducible assumption) | with_reducible exact ro_1 p4 | with_reducible exact ro_6 p4 | with_reducible exact ro_1 p5 | with_reducible exact ro_6 p5) (by first | with_reducible assumption | (simp only [gR_sI, gR_rCopy]; with_reducible assumption) | with_reducible exact ro_1 p4 | with_reducible exact ro_6 p4 | with_reducible exact ro_1 p5 | with_reducible exact ro_6 p5) (by first | with_reducible assumption | (simp only [gR_sI, gR_rCopy]; with_reducible assumption) | with_reducible exact ro_1 p4 | with_reducible exact ro_6 p4 | with_reducible exact ro_1 p5 | with_reducible exact ro_6 p5) ?_
  refine r_callV (M := mX4_copy) (pc := 8) 11 dX4_copy_8 rfl k4_72 (c_X6_copy p4 q4) rfl rfl (by first | with_reducible assumption | (simp only [gR_sI, gR_rCopy]; with_reducible assumption) | with_reducible exact ro_1 p4 | with_reducible exact ro_6 p4 | with_reducible exact ro_1 p5 | with_reducible exact ro_6 p5) (by decide) rfl (by first | with_reducible assumption | (simp only [gR_sI, gR_rCopy]; with_reducible assumption) | with_reducible exact ro_1 p4 | with_reducible exact ro_6 p4 | with_reducible exact ro_1 p5 | with_reducible exact ro_6 p5) (Nat.le_of_ble_eq_true rfl) ?_
  refine r_aload_n 12 dX4_copy_11 rfl rfl ?_
  refine r_getR 15 dX4_copy_12 rfl f4_20 rfl (by first | with_reducible assumption | (simp only [gR_sI, gR_rCopy]; with_reducible assumption) | with_reducible exact ro_1 p4 | with_reducible exact ro_6 p4 | with_reducible exact ro_1 p5 | with_reducible exact ro_6 p5) (by first | with_reducible assumption | (simp only [gR_sI, gR_rCopy]; with_reducible assumption) | with_reducible exact ro_1 p4 | with_reducible exact ro_6 p4 | with_reducible exact ro_1 p5 | with_reducible exact ro_6 p5) (by first | with_reducible assumption | (simp only [gR_sI, gR_rCopy]; with_reducible assumption) | with_reducible exact ro_1 p4 | with_reducible exact ro_6 p4 | with_reducible exact ro_1 p5 | with_reducible exact ro_6 p5) ?_
  refine r_aload_n 16 dX4_copy_15 rfl rfl ?_
  refine r_getR 19 dX4_copy_16 rfl f4_20 rfl (by first | with_reducible assumption | (simp only [gR_sI, gR_rCopy]; with_reducible assumption) | with_reducible exact ro_1 p4 | with_reducible exact ro_6 p4 | with_reducible exact ro_1 p5 | with_reducible exact ro_6 p5) (by first | with_reducible assumption | (simp only [gR_sI, gR_rCopy]; with_reducible assumption) | with_reducible exact ro_1 p4 | with_reducible exact ro_6 p4 | with_reducible exact ro_1 p5 | with_reducible exact ro_6 p5) (by first | with_reducible assumption | (simp only [gR_sI, gR_rCopy]; with_reducible assumption) | with_reducible exact ro_1 p4 | with_reducible exact ro_6 p4 | with_reducible exact ro_1 p5 | with_reducible exact ro_6 p5) ?_
  refine r_callV (M := mX4_copy) (pc := 19) 22 dX4_copy_19 rfl k4_72 (c_X6_copy (ro_copy p5) (ro_copy q5)) rfl rfl (by first | with_reducible assumption | (simp only [gR_sI, gR_rCopy]; with_reducible assumption) | with_reducible exact ro_1 p4 | with_reducible exact ro_6 p4 | with_reducible exact ro_1 p5 | with_reducible exact ro_6 p5) (by decide) rfl (by first | with_reducible assumption | (simp only [gR_sI, gR_rCopy]; with_reducible assumption) | with_reducible exact ro_1 p4 | with_reducible exact ro_6 p4 | with_reducible exact ro_1 p5 | with_reducible exact ro_6 p5) (Nat.le_of_ble_eq_true rfl) ?_
  refine r_aload_n 23 dX4_copy_22 rfl rfl ?_
  refine r_aload_n 24 dX4_copy_23 rfl rfl ?_
  refine r_getI 27 dX4_copy_24 rfl f4_23 rfl (by first | with_reducible assumption | (simp only [gR_sI, gR_rCopy]; with_reducible assumption) | with_reducible exact ro_1 p4 | with_reducible exact ro_6 p4 | with_reducible exact ro_1 p5 | with_reducible exact ro_6 p5) (by first | with_reducible assumption | (simp only [gR_sI, gR_rCopy]; with_reducible assumption) | with_reducible exact ro_1 p4 | with_reducible exact ro_6 p4 | with_reducible exact ro_1 p5 | with_reducible exact ro_6 p5) ?_
  refine r_putI 30 dX4_copy_27 rfl f4_23 (by first | with_reducible assumption | (simp only [gR_sI, gR_rCopy]; with_reducible assumption) | with_reducible exact ro_1 p4 | with_reducible exact ro_6 p4 | with_reducible exact ro_1 p5 | with_reducible exact ro_6 p5) (by first | with_reducible assumption | (simp only [gR_sI, gR_rCopy]; with_reducible assumption) | with_reducible exact ro_1 p4 | with_reducible exact ro_6 p4 | with_reducible exact ro_1 p5 | with_reducible exact ro_6 p5) ?_
  refine r_aload_n 31 dX4_copy_30 rfl rfl ?_
  refine r_aload_n 32 dX4_copy_31 rfl rfl ?_
  refine r_getI 35 dX4_copy_32 rfl f4_27 rfl (by first | with_reducible assumption | (simp only [gR_sI, gR_rCopy]; with_reducible assumption) | with_reducible exact ro_1 p4 | with_reducible exact ro_6 p4 | with_reducible exact ro_1 p5 | with_reducible exact ro_6 p5) (by first | with_reducible assumption | (simp only [gR_sI, gR_rCopy]; with_reducible assumption) | with_reducible exact ro_1 p4 | with_reducible exact ro_6 p4 | with_reducible exact ro_1 p5 | with_reducible exact ro_6 p5) ?_
  refine r_putI 38 dX4_copy_35 rfl f4_27 (by first | with_reducible assumption | (simp only [gR_sI, gR_rCopy]; with_reducible assumption) | with_reducible exact ro_1 p4 | with_reducible exact ro_6 p4 | with_reducible exact ro_1 p5 | with_reducible exact ro_6 p5) (by first | with_reducible assumption | (simp only [gR_sI, gR_rCopy]; with_reducible assumption) | with_reducible exact ro_1 p4 | with_reducible exact ro_6 p4 | with_reducible exact ro_1 p5 | with_reducible exact ro_6 p5) ?_
  refine r_aload_n 39 dX4_copy_38 rfl rfl ?_
  refine r_aload_n 40 dX4_copy_39 rfl rfl ?_
  refine r_getI 43 dX4_copy_40 rfl f4_30 rfl (by first | with_reducible assumption | (simp only [gR_sI, gR_rCopy]; with_reducible assumption) | with_reducible exact ro_1 p4 | with_reducible exact ro_6 p4 | with_reducible exact ro_1 p5 | with_reducible exact ro_6 p5) (by first | with_reducible assumption | (simp only [gR_sI, gR_rCopy]; with_reducible assumption) | with_reducible exact ro_1 p4 | with_reducible exact ro_6 p4 | with_reducible exact ro_1 p5 | with_reducible exact ro_6 p5) ?_
  refine r_putI 46 dX4_copy_43 rfl f4_30 (by first | with_reducible assumption | (simp only [gR_sI, gR_rCopy]; with_reducible assumption) | with_reducible exact ro_1 p4 | with_reducible exact ro_6 p4 | with_reducible exact ro_1 p5 | with_reducible exact ro_6 p5) (by first | with_reducible assumption | (simp only [gR_sI, gR_rCopy]; with_reducible assumption) | with_reducible exact ro_1 p4 | with_reducible exact ro_6 p4 | with_reducible exact ro_1 p5 | with_reducible exact ro_6 p5) ?_
  refine r_aload_n 47 dX4_copy_46 rfl rfl ?_
  refine r_aload_n 48 dX4_copy_47 rfl rfl ?_
  refine r_getI 51 dX4_copy_48 rfl f4_33 rfl (by first | with_reducible assumption | (simp only [gR_sI, gR_rCopy]; with_reducible assumption) | with_reducible exact ro_1 p4 | with_reducible exact ro_6 p4 | with_reducible exact ro_1 p5 | with_reducible exact ro_6 p5) (by first | with_reducible assumption | (simp only [gR_sI, gR_rCopy]; with_reducible assumption) | with_reducible exact ro_1 p4 | with_reducible exact ro_6 p4 | with_reducible exact ro_1 p5 | with_reducible exact ro_6 p5) ?_
  refine r_putI 54 dX4_copy_51 rfl f4_33 (by first | with_reducible assumption | (simp only [gR_sI, gR_rCopy]; with_reducible assumption) | with_reducible exact ro_1 p4 | with_reducible exact ro_6 p4 | with_reducible exact ro_1 p5 | with_reducible exact ro_6 p5) (by first | with_reducible assumption | (simp only [gR_sI, gR_rCopy]; with_reducible assumption) | with_reducible exact ro_1 p4 | with_reducible exact ro_6 p4 | with_reducible exact ro_1 p5 | with_reducible exact ro_6 p5) ?_
  refine r_aload_n 55 dX4_copy_54 rfl rfl ?_
  refine r_aload_n 56 dX4_copy_55 rfl rfl ?_
  refine r_getI 59 dX4_copy_56 rfl f4_36 rfl (by first | with_reducible assumption | (simp only [gR_sI, gR_rCopy]; with_reducible assumption) | with_reducible exact ro_1 p4 | with_reducible exact ro_6 p4 | with_reducible exact ro_1 p5 | with_reducible exact ro_6 p5) (by first | with_reducible assumption | (simp only [gR_sI, gR_rCopy]; with_reducible assumption) | with_reducible exact ro_1 p4 | with_reducible exact ro_6 p4 | with_reducible exact ro_1 p5 | with_reducible exact ro_6 p5) ?_
  refine r_putI 62 dX4_copy_59 rfl f4_36 (by first | with_reducible assumption | (simp only [gR_sI, gR_rCopy]; with_reducible assumption) | with_reducible exact ro_1 p4 | with_reducible exact ro_6 p4 | with_reducible exact ro_1 p5 | with_reducible exact ro_6 p5) (by first | with_reducible assumption | (simp only [gR_sI, gR_rCopy]; with_reducible assumption) | with_reducible exact ro_1 p4 | with_reducible exact ro_6 p4 | with_reducible exact ro_1 p5 | with_reducible exact ro_6 p5) ?_
  refine r_aload_n 63 dX4_copy_62 rfl rfl ?_
  refine r_aload_n 64 dX4_copy_63 rfl rfl ?_
  refine r_getI 67 dX4_copy_64 rfl f4_39 rfl (by first | with_reducible assumption | (simp only [gR_sI, gR_rCopy]; with_reducible assumption) | with_reducible exact ro_1 p4 | with_reducible exact ro_6 p4 | with_reducible exact ro_1 p5 | with_reducible exact ro_6 p5) (by first | with_reducible assumption | (simp only [gR_sI, gR_rCopy]; with_reducible assumption) | with_reducible exact ro_1 p4 | with_reducible exact ro_6 p4 | with_reducible exact ro_1 p5 | with_reducible exact ro_6 p5) ?_
  refine r_putZ 70 dX4_copy_67 rfl f4_39 (by first | with_reducible assumption | (simp only [gR_sI, gR_rCopy]; with_reducible assumption) | with_reducible exact ro_1 p4 | with_reducible exact ro_6 p4 | with_reducible exact ro_1 p5 | with_reducible exact ro_6 p5) (by first | with_reducible assumption | (simp only [gR_sI, gR_rCopy]; with_reducible assumption) | with_reducible exact ro_1 p4 | with_reducible exact ro_6 p4 | with_reducible exact ro_1 p5 | with_reducible exact ro_6 p5) (by simp only [gI_sI, gI_rCopy, false_and, if_false, Nat.reduceEqDiff]; exact hz) ?_
  exact r_vret dX4_copy_70 rfl rfl (by simp only [plCopy, gI_sI, gI_rCopy, false_and, if_false, Nat.reduceEqDiff])
