/-! Bed, and the small methods of Plan -/
noncomputable def b01 (p : Prop) : Int32 := @ite Int32 p (Classical.propDecidable p) 1 0
theorem b01_t {p : Prop} (h : p) : b01 p = 1 := by unfold b01; rw [if_pos h]
theorem b01_f {p : Prop} (h : ¬ p) : b01 p = 0 := by unfold b01; rw [if_neg h]
theorem b01_01 (p : Prop) : b01 p = 0 ∨ b01 p = 1 := by
  by_cases h : p
  · exact Or.inr (b01_t h)
  · exact Or.inl (b01_f h)
def PlanOK (E : HP) (n p : Nat) : Prop := sh p = (4, 0) ∧ gR E 512 p = some (p + 1) ∧ gR E 513 p = some (p + 3) ∧ RowOK E n (p + 1) 7 ∧ RowOK E n (p + 3) 7 ∧ p < n
def BedOK (E : HP) (n b : Nat) : Prop := sh b = (0, 0) ∧ gR E 0 b = some (b + 1) ∧ gR E 1 b = some (b + 2) ∧ gR E 2 b = some (b + 3) ∧ gR E 3 b = some (b + 5) ∧ sh (b + 1) = (8, 0) ∧ sh (b + 2) = (102, 7) ∧ (∀ i, i < 7 → gQ E (b + 2) i = some (b + 12 + i) ∧ sh (b + 12 + i) = (8, 0)) ∧ RowOK E n (b + 3) 7 ∧ RuleOK E n (b + 5) ∧ b + 18 < n
theorem bo_1 {E : HP} {n b : Nat} (o : BedOK E n b) : sh b = (0, 0) := o.1
theorem bo_n {E : HP} {n b : Nat} (o : BedOK E n b) : b < n := by have := o.2.2.2.2.2.2.2.2.2.2; omega
theorem bo_n1 {E : HP} {n b : Nat} (o : BedOK E n b) : b + 1 < n := by have := o.2.2.2.2.2.2.2.2.2.2; omega
theorem bo_n2 {E : HP} {n b : Nat} (o : BedOK E n b) : b + 2 < n := by have := o.2.2.2.2.2.2.2.2.2.2; omega
theorem uo_1 {E : HP} {n h : Nat} (o : RuleOK E n h) : sh h = (7, 0) := o.1
theorem uo_n {E : HP} {n h : Nat} (o : RuleOK E n h) : h < n := o.2.2.2.2.2.2.2
theorem pl_1 {E : HP} {n p : Nat} (o : PlanOK E n p) : sh p = (4, 0) := o.1
theorem pl_n {E : HP} {n p : Nat} (o : PlanOK E n p) : p < n := o.2.2.2.2.2
/-- facts that a write of ints leaves alone, in any order -/
theorem bo_put {E : HP} {n b g m : Nat} {i v : Int32} (o : BedOK E n b) : BedOK (rPut E g m i v) n b := by
  unfold rPut
  split
  · exact o
  · split
    · exact o
    · exact o
theorem bo_sI {E : HP} {n b g k : Nat} {v : Int32} (o : BedOK E n b) : BedOK (sI E g k v) n b := o
theorem bo_sA {E : HP} {n b g k : Nat} {v : Int32} (o : BedOK E n b) : BedOK (sA E g k v) n b := o
theorem bo_fill {E : HP} {n b g k : Nat} {v : Int32} (o : BedOK E n b) : BedOK (rFill g v k E) n b := itF_keep (f := fun k E => sA E (g + 1) k v) (P := fun E => BedOK E n b) (fun _ _ q => q) k o
theorem plo_put {E : HP} {n b g m : Nat} {i v : Int32} (o : PlanOK E n b) : PlanOK (rPut E g m i v) n b := by
  unfold rPut
  split
  · exact o
  · split
    · exact o
    · exact o
def whoId (b : Nat) (s : Int32) : Nat := if s < 0 then b + 1 else if Int32.ofNat 7 ≤ s then b + 1 else b + 12 + s.toNatClampNeg
theorem whoId_nI {b k : Nat} (hk : k < 7) : whoId b (nI k) = b + 12 + k := by
  unfold whoId
  rw [if_neg (nI_pos (by omega)), if_neg (by rw [nI_lit]; exact nI_ge hk (by omega)), nI_clamp (by omega)]
theorem who_sh {E : HP} {n b : Nat} (o : BedOK E n b) (s : Int32) : sh (whoId b s) = (8, 0) ∧ whoId b s < n := by
  have hn := o.2.2.2.2.2.2.2.2.2.2
  unfold whoId
  split
  · exact ⟨o.2.2.2.2.2.1, by omega⟩
  · split
    · exact ⟨o.2.2.2.2.2.1, by omega⟩
    · rename_i h1 h2
      obtain ⟨k, hk, rfl⟩ := vp_in_of (vp_of h1 h2 (by omega)) (by omega)
      rw [nI_clamp (by omega)]
      exact ⟨(o.2.2.2.2.2.2.2.1 k hk).2, by omega⟩
def nevV (E : HP) (b : Nat) (x y : Int32) : Int32 := if (rAt E (b + 3) 7 x >>> (y &&& 31)) &&& 1 = 1 then 1 else 0
theorem nevV_01 (E : HP) (b : Nat) (x y : Int32) : nevV E b x y = 0 ∨ nevV E b x y = 1 := by unfold nevV; split; exact Or.inr rfl; exact Or.inl rfl
def beAnew (b : Nat) (E : HP) : HP := sI (sI (sI (sI (sI (sI (sI (sI (rFill (b + 3) 0 7 E) 897 (b + 5) 0) 4 b 0) 5 b 20) 6 b 3) 7 b 480) 8 b 15) 9 b 0) 10 b 0
def beNever (b : Nat) (x y : Int32) (E : HP) : HP := sI (rPut (rPut E (b + 3) 7 x (rAt E (b + 3) 7 x ||| (1 <<< (y &&& 31)))) (b + 3) 7 y (rAt (rPut E (b + 3) 7 x (rAt E (b + 3) 7 x ||| (1 <<< (y &&& 31)))) (b + 3) 7 y ||| (1 <<< (x &&& 31)))) 10 b (gI E 10 b + 1)
set_option maxRecDepth 20000 in
theorem c_X0_who {d n b : Nat} {E : HP} {s : Int32} (ok : BedOK E n b) : Cl yX0_who mX0_who (d) 0 0 [.ref b, .int s] E n (.inl (some (.ref (whoId b s))), E, n) := by
  obtain ⟨o1, o2, o3, o4, o5, o6, o7, o8, o9, o10, o11⟩ := id ok
  have hbn : b < n := bo_n ok
  have hbn1 : b + 1 < n := bo_n1 ok
  have hbn2 : b + 2 < n := bo_n2 ok
  have r1 := ro_1 o9
  have r6 := ro_6 o9
  have u1 := uo_1 o10
  have u8 := uo_n o10
  have q8 : ∀ h1 : ¬ s < 0, ∀ h10 : ¬ Int32.ofNat 7 ≤ s, gQ E (b + 2) s.toNatClampNeg = some (b + 12 + s.toNatClampNeg) := fun h1 h10 => by
    obtain ⟨k, hk, rfl⟩ := vp_in_of (vp_of h1 h10 (by omega)) (by omega)
    rw [nI_clamp (by omega)]
    exact (o8 k hk).1
  refine Cl.of (by decide) rfl (fun q => by cases q) rfl rfl (Nat.le_of_ble_eq_true rfl) ?_
  show Sm _ _ _ _ _ 0 [some (.ref b), some (.int s)] [] _ _
  refine r_iload_n 1 dX0_who_0 rfl rfl ?_
  refine r_if_lt 4 22 dX0_who_1 rfl (by decide) (fun h1 => ?_) (fun h1 => ?_)
  · refine r_aload_n 23 dX0_who_22 rfl rfl ?_
    refine r_getR 26 dX0_who_23 rfl f0_12 rfl (by first | with_reducible assumption | (simp only [gR_sI, gR_rPut]; with_reducible assumption)) (by first | with_reducible assumption | (simp only [gR_sI, gR_rPut]; with_reducible assumption)) (by first | with_reducible assumption | (simp only [gR_sI, gR_rPut]; with_reducible assumption)) ?_
    exact r_aret dX0_who_26 rfl rfl (by simp only [whoId, *, if_true, if_false])
  · refine r_iload_n 5 dX0_who_4 rfl rfl ?_
    refine r_aload_n 6 dX0_who_5 rfl rfl ?_
    refine r_getR 9 dX0_who_6 rfl f0_18 rfl (by first | with_reducible assumption | (simp only [gR_sI, gR_rPut]; with_reducible assumption)) (by first | with_reducible assumption | (simp only [gR_sI, gR_rPut]; with_reducible assumption)) (by first | with_reducible assumption | (simp only [gR_sI, gR_rPut]; with_reducible assumption)) ?_
    refine r_alenQ _ 10 dX0_who_9 rfl o7 (by decide) (by decide) hbn2 rfl ?_
    refine r_icmp_ge 13 22 dX0_who_10 rfl (by decide) (fun h10 => ?_) (fun h10 => ?_)
    · refine r_aload_n 23 dX0_who_22 rfl rfl ?_
      refine r_getR 26 dX0_who_23 rfl f0_12 rfl (by first | with_reducible assumption | (simp only [gR_sI, gR_rPut]; with_reducible assumption)) (by first | with_reducible assumption | (simp only [gR_sI, gR_rPut]; with_reducible assumption)) (by first | with_reducible assumption | (simp only [gR_sI, gR_rPut]; with_reducible assumption)) ?_
      exact r_aret dX0_who_26 rfl rfl (by simp only [whoId, *, if_true, if_false])
    · refine r_aload_n 14 dX0_who_13 rfl rfl ?_
      refine r_getR 17 dX0_who_14 rfl f0_18 rfl (by first | with_reducible assumption | (simp only [gR_sI, gR_rPut]; with_reducible assumption)) (by first | with_reducible assumption | (simp only [gR_sI, gR_rPut]; with_reducible assumption)) (by first | with_reducible assumption | (simp only [gR_sI, gR_rPut]; with_reducible assumption)) ?_
      refine r_iload_n 18 dX0_who_17 rfl rfl ?_
      refine r_aald 19 dX0_who_18 rfl (by first | with_reducible assumption | (simp only [gR_sI, gR_rPut]; with_reducible assumption)) (by decide) (by decide) (by first | with_reducible assumption | (simp only [gR_sI, gR_rPut]; with_reducible assumption)) (vp_of h1 h10 (by decide)) (q8 h1 h10) ?_
      refine r_ifnonnull 27 dX0_who_19 (by decide) ?_
      refine r_aload_n 28 dX0_who_27 rfl rfl ?_
      refine r_getR 31 dX0_who_28 rfl f0_18 rfl (by first | with_reducible assumption | (simp only [gR_sI, gR_rPut]; with_reducible assumption)) (by first | with_reducible assumption | (simp only [gR_sI, gR_rPut]; with_reducible assumption)) (by first | with_reducible assumption | (simp only [gR_sI, gR_rPut]; with_reducible assumption)) ?_
      refine r_iload_n 32 dX0_who_31 rfl rfl ?_
      refine r_aald 33 dX0_who_32 rfl (by first | with_reducible assumption | (simp only [gR_sI, gR_rPut]; with_reducible assumption)) (by decide) (by decide) (by first | with_reducible assumption | (simp only [gR_sI, gR_rPut]; with_reducible assumption)) (vp_of h1 h10 (by decide)) (q8 h1 h10) ?_
      exact r_aret dX0_who_33 rfl rfl (by simp only [whoId, *, if_true, if_false])
set_option maxRecDepth 20000 in
theorem c_X0_makeAnew {d n b : Nat} {E : HP} (ok : BedOK E n b) : Cl yX0_makeAnew mX0_makeAnew (d + 1) 0 0 [.ref b] E n (.inl none, beAnew b E, n) := by
  obtain ⟨o1, o2, o3, o4, o5, o6, o7, o8, o9, o10, o11⟩ := id ok
  have hbn : b < n := bo_n ok
  have hbn1 : b + 1 < n := bo_n1 ok
  have hbn2 : b + 2 < n := bo_n2 ok
  have r1 := ro_1 o9
  have r6 := ro_6 o9
  have u1 := uo_1 o10
  have u8 := uo_n o10
  refine Cl.of (by decide) rfl (fun q => by cases q) rfl rfl (Nat.le_of_ble_eq_true rfl) ?_
  show Sm _ _ _ _ _ 0 [some (.ref b)] [] _ _
  refine r_aload_n 1 dX0_makeAnew_0 rfl rfl ?_
  refine r_getR 4 dX0_makeAnew_1 rfl f0_27 rfl (by first | with_reducible assumption | exact (bo_fill ok).2.2.2.2.1) (by first | with_reducible assumption | exact (bo_fill ok).2.2.2.2.1) (by first | with_reducible assumption | exact (bo_fill ok).2.2.2.2.1) ?_
  refine r_iconst (0) 5 dX0_makeAnew_4 rfl (by decide) ?_
  refine r_callV (M := mX0_makeAnew) (pc := 5) 8 dX0_makeAnew_5 rfl k0_41 (c_X6_fill o9) rfl rfl (by first | with_reducible assumption | exact (bo_fill ok).2.2.2.2.1) (by decide) rfl (by first | with_reducible assumption | exact (bo_fill ok).2.2.2.2.1) (Nat.le_of_ble_eq_true rfl) ?_
  refine r_aload_n 9 dX0_makeAnew_8 rfl rfl ?_
  refine r_getR 12 dX0_makeAnew_9 rfl f0_34 rfl (by first | with_reducible assumption | exact (bo_fill ok).2.2.2.2.1) (by first | with_reducible assumption | exact (bo_fill ok).2.2.2.2.1) (by first | with_reducible assumption | exact (bo_fill ok).2.2.2.2.1) ?_
  refine r_callV (M := mX0_makeAnew) (pc := 12) 15 dX0_makeAnew_12 rfl k0_44 (c_X7_clear u1 u8) rfl rfl (by first | with_reducible assumption | exact (bo_fill ok).2.2.2.2.1) (by decide) rfl (by first | with_reducible assumption | exact (bo_fill ok).2.2.2.2.1) (Nat.le_of_ble_eq_true rfl) ?_
  refine r_aload_n 16 dX0_makeAnew_15 rfl rfl ?_
  refine r_iconst (0) 17 dX0_makeAnew_16 rfl (by decide) ?_
  refine r_putI 20 dX0_makeAnew_17 rfl f0_47 (by first | with_reducible assumption | exact (bo_fill ok).2.2.2.2.1) (by first | with_reducible assumption | exact (bo_fill ok).2.2.2.2.1) ?_
  refine r_aload_n 21 dX0_makeAnew_20 rfl rfl ?_
  refine r_bipush (20) 23 dX0_makeAnew_21 rfl (by decide) ?_
  refine r_putI 26 dX0_makeAnew_23 rfl f0_51 (by first | with_reducible assumption | exact (bo_fill ok).2.2.2.2.1) (by first | with_reducible assumption | exact (bo_fill ok).2.2.2.2.1) ?_
  refine r_aload_n 27 dX0_makeAnew_26 rfl rfl ?_
  refine r_iconst (3) 28 dX0_makeAnew_27 rfl (by decide) ?_
  refine r_putI 31 dX0_makeAnew_28 rfl f0_54 (by first | with_reducible assumption | exact (bo_fill ok).2.2.2.2.1) (by first | with_reducible assumption | exact (bo_fill ok).2.2.2.2.1) ?_
  refine r_aload_n 32 dX0_makeAnew_31 rfl rfl ?_
  refine r_sipush (480) 35 dX0_makeAnew_32 rfl (by decide) ?_
  refine r_putI 38 dX0_makeAnew_35 rfl f0_57 (by first | with_reducible assumption | exact (bo_fill ok).2.2.2.2.1) (by first | with_reducible assumption | exact (bo_fill ok).2.2.2.2.1) ?_
  refine r_aload_n 39 dX0_makeAnew_38 rfl rfl ?_
  refine r_bipush (15) 41 dX0_makeAnew_39 rfl (by decide) ?_
  refine r_putI 44 dX0_makeAnew_41 rfl f0_60 (by first | with_reducible assumption | exact (bo_fill ok).2.2.2.2.1) (by first | with_reducible assumption | exact (bo_fill ok).2.2.2.2.1) ?_
  refine r_aload_n 45 dX0_makeAnew_44 rfl rfl ?_
  refine r_iconst (0) 46 dX0_makeAnew_45 rfl (by decide) ?_
  refine r_putI 49 dX0_makeAnew_46 rfl f0_63 (by first | with_reducible assumption | exact (bo_fill ok).2.2.2.2.1) (by first | with_reducible assumption | exact (bo_fill ok).2.2.2.2.1) ?_
  refine r_aload_n 50 dX0_makeAnew_49 rfl rfl ?_
  refine r_iconst (0) 51 dX0_makeAnew_50 rfl (by decide) ?_
  refine r_putI 54 dX0_makeAnew_51 rfl f0_66 (by first | with_reducible assumption | exact (bo_fill ok).2.2.2.2.1) (by first | with_reducible assumption | exact (bo_fill ok).2.2.2.2.1) ?_
  exact r_vret dX0_makeAnew_54 rfl rfl (rfl)
set_option maxRecDepth 20000 in
theorem c_X0_isNever {d n b : Nat} {E : HP} {x y : Int32} (ok : BedOK E n b) : Cl yX0_isNever mX0_isNever (d + 1) 0 0 [.ref b, .int x, .int y] E n (.inl (some (.int (nevV E b x y))), E, n) := by
  obtain ⟨o1, o2, o3, o4, o5, o6, o7, o8, o9, o10, o11⟩ := id ok
  have hbn : b < n := bo_n ok
  have hbn1 : b + 1 < n := bo_n1 ok
  have hbn2 : b + 2 < n := bo_n2 ok
  have r1 := ro_1 o9
  have r6 := ro_6 o9
  have u1 := uo_1 o10
  have u8 := uo_n o10
  refine Cl.of (by decide) rfl (fun q => by cases q) rfl rfl (Nat.le_of_ble_eq_true rfl) ?_
  show Sm _ _ _ _ _ 0 [some (.ref b), some (.int x), some (.int y)] [] _ _
  refine r_aload_n 1 dX0_isNever_0 rfl rfl ?_
  refine r_getR 4 dX0_isNever_1 rfl f0_27 rfl (by first | with_reducible assumption | (simp only [gR_sI, gR_rPut]; with_reducible assumption)) (by first | with_reducible assumption | (simp only [gR_sI, gR_rPut]; with_reducible assumption)) (by first | with_reducible assumption | (simp only [gR_sI, gR_rPut]; with_reducible assumption)) ?_
  refine r_iload_n 5 dX0_isNever_4 rfl rfl ?_
  refine r_callV (M := mX0_isNever) (pc := 5) 8 dX0_isNever_5 rfl k0_69 (c_X6_at o9) rfl rfl (by first | with_reducible assumption | (simp only [gR_sI, gR_rPut]; with_reducible assumption)) (by decide) rfl (by first | with_reducible assumption | (simp only [gR_sI, gR_rPut]; with_reducible assumption)) (Nat.le_of_ble_eq_true rfl) ?_
  refine r_iload_n 9 dX0_isNever_8 rfl rfl ?_
  refine r_ishr 10 dX0_isNever_9 rfl ?_
  refine r_iconst (1) 11 dX0_isNever_10 rfl (by decide) ?_
  refine r_iand 12 dX0_isNever_11 rfl ?_
  refine r_iconst (1) 13 dX0_isNever_12 rfl (by decide) ?_
  refine r_icmp_ne 16 20 dX0_isNever_13 rfl (by decide) (fun h13 => ?_) (fun h13 => ?_)
  · refine r_iconst (0) 21 dX0_isNever_20 rfl (by decide) ?_
    exact r_zret dX0_isNever_21 rfl rfl (by decide) (by simp only [nevV, *, if_true, if_false])
  · refine r_iconst (1) 17 dX0_isNever_16 rfl (by decide) ?_
    refine r_goto 21 dX0_isNever_17 (by decide) ?_
    exact r_zret dX0_isNever_21 rfl rfl (by decide) (by simp only [nevV, *, if_true, if_false])
set_option maxRecDepth 20000 in
theorem c_X0_addNever {d n b : Nat} {E : HP} {x y : Int32} (ok : BedOK E n b) : Cl yX0_addNever mX0_addNever (d + 1) 0 0 [.ref b, .int x, .int y] E n (.inl none, beNever b x y E, n) := by
  obtain ⟨o1, o2, o3, o4, o5, o6, o7, o8, o9, o10, o11⟩ := id ok
  have hbn : b < n := bo_n ok
  have hbn1 : b + 1 < n := bo_n1 ok
  have hbn2 : b + 2 < n := bo_n2 ok
  have r1 := ro_1 o9
  have r6 := ro_6 o9
  have u1 := uo_1 o10
  have u8 := uo_n o10
  refine Cl.of (by decide) rfl (fun q => by cases q) rfl rfl (Nat.le_of_ble_eq_true rfl) ?_
  show Sm _ _ _ _ _ 0 [some (.ref b), some (.int x), some (.int y)] [] _ _
  refine r_aload_n 1 dX0_addNever_0 rfl rfl ?_
  refine r_getR 4 dX0_addNever_1 rfl f0_27 rfl (by first | with_reducible assumption | (simp only [gR_sI, gR_rPut]; with_reducible assumption)) (by first | with_reducible assumption | (simp only [gR_sI, gR_rPut]; with_reducible assumption)) (by first | with_reducible assumption | (simp only [gR_sI, gR_rPut]; with_reducible assumption)) ?_
  refine r_iload_n 5 dX0_addNever_4 rfl rfl ?_
  refine r_aload_n 6 dX0_addNever_5 rfl rfl ?_
  refine r_getR 9 dX0_addNever_6 rfl f0_27 rfl (by first | with_reducible assumption | (simp only [gR_sI, gR_rPut]; with_reducible assumption)) (by first | with_reducible assumption | (simp only [gR_sI, gR_rPut]; with_reducible assumption)) (by first | with_reducible assumption | (simp only [gR_sI, gR_rPut]; with_reducible assumption)) ?_
  refine r_iload_n 10 dX0_addNever_9 rfl rfl ?_
  refine r_callV (M := mX0_addNever) (pc := 10) 13 dX0_addNever_10 rfl k0_69 (c_X6_at o9) rfl rfl (by first | with_reducible assumption | (simp only [gR_sI, gR_rPut]; with_reducible assumption)) (by decide) rfl (by first | with_reducible assumption | (simp only [gR_sI, gR_rPut]; with_reducible assumption)) (Nat.le_of_ble_eq_true rfl) ?_
  refine r_iconst (1) 14 dX0_addNever_13 rfl (by decide) ?_
  refine r_iload_n 15 dX0_addNever_14 rfl rfl ?_
  refine r_ishl 16 dX0_addNever_15 rfl ?_
  refine r_ior 17 dX0_addNever_16 rfl ?_
  refine r_callV (M := mX0_addNever) (pc := 17) 20 dX0_addNever_17 rfl k0_73 (c_X6_put o9) rfl rfl (by first | with_reducible assumption | (simp only [gR_sI, gR_rPut]; with_reducible assumption)) (by decide) rfl (by first | with_reducible assumption | (simp only [gR_sI, gR_rPut]; with_reducible assumption)) (Nat.le_of_ble_eq_true rfl) ?_
  refine r_aload_n 21 dX0_addNever_20 rfl rfl ?_
  refine r_getR 24 dX0_addNever_21 rfl f0_27 rfl (by first | with_reducible assumption | (simp only [gR_sI, gR_rPut]; with_reducible assumption)) (by first | with_reducible assumption | (simp only [gR_sI, gR_rPut]; with_reducible assumption)) (by first | with_reducible assumption | (simp only [gR_sI, gR_rPut]; with_reducible assumption)) ?_
  refine r_iload_n 25 dX0_addNever_24 rfl rfl ?_
  refine r_aload_n 26 dX0_addNever_25 rfl rfl ?_
  refine r_getR 29 dX0_addNever_26 rfl f0_27 rfl (by first | with_reducible assumption | (simp only [gR_sI, gR_rPut]; with_reducible assumption)) (by first | with_reducible assumption | (simp only [gR_sI, gR_rPut]; with_reducible assumption)) (by first | with_reducible assumption | (simp only [gR_sI, gR_rPut]; with_reducible assumption)) ?_
  refine r_iload_n 30 dX0_addNever_29 rfl rfl ?_
  refine r_callV (M := mX0_addNever) (pc := 30) 33 dX0_addNever_30 rfl k0_69 (c_X6_at (ro_put o9)) rfl rfl (by first | with_reducible assumption | (simp only [gR_sI, gR_rPut]; with_reducible assumption)) (by decide) rfl (by first | with_reducible assumption | (simp only [gR_sI, gR_rPut]; with_reducible assumption)) (Nat.le_of_ble_eq_true rfl) ?_
  refine r_iconst (1) 34 dX0_addNever_33 rfl (by decide) ?_
  refine r_iload_n 35 dX0_addNever_34 rfl rfl ?_
  refine r_ishl 36 dX0_addNever_35 rfl ?_
  refine r_ior 37 dX0_addNever_36 rfl ?_
  refine r_callV (M := mX0_addNever) (pc := 37) 40 dX0_addNever_37 rfl k0_73 (c_X6_put (ro_put o9)) rfl rfl (by first | with_reducible assumption | (simp only [gR_sI, gR_rPut]; with_reducible assumption)) (by decide) rfl (by first | with_reducible assumption | (simp only [gR_sI, gR_rPut]; with_reducible assumption)) (Nat.le_of_ble_eq_true rfl) ?_
  refine r_aload_n 41 dX0_addNever_40 rfl rfl ?_
  refine r_dup 42 dX0_addNever_41 rfl rfl ?_
  refine r_getI 45 dX0_addNever_42 rfl f0_66 rfl (by first | with_reducible assumption | (simp only [gR_sI, gR_rPut]; with_reducible assumption)) (by first | with_reducible assumption | (simp only [gR_sI, gR_rPut]; with_reducible assumption)) ?_
  refine r_iconst (1) 46 dX0_addNever_45 rfl (by decide) ?_
  refine r_iadd 47 dX0_addNever_46 rfl ?_
  refine r_putI 50 dX0_addNever_47 rfl f0_66 (by first | with_reducible assumption | (simp only [gR_sI, gR_rPut]; with_reducible assumption)) (by first | with_reducible assumption | (simp only [gR_sI, gR_rPut]; with_reducible assumption)) ?_
  exact r_vret dX0_addNever_50 rfl rfl (by simp only [gI_rPut]; rfl)
/-- the row's entry at a place -/
def ordAt (E : HP) (p k : Nat) : Int32 := rAt E (p + 1) 7 (nI k)
noncomputable def alwV (E : HP) (b p l : Nat) : Int32 := b01 (∀ k, 1 ≤ k → k < l → nevV E b (rAt E (p + 1) 7 (nI k - 1)) (ordAt E p k) = 0)
/-- how wide all are, and the room, without one -/
def needV (E : HP) (b : Nat) (x : Int32) : Nat → Int32
  | 0 => gI E 6 b
  | k + 1 => needV E b x k + (if nI k = x then 0 else gI E 1028 (whoId b (nI k)))
noncomputable def freeV (E : HP) (b : Nat) (x : Int32) (k : Nat) : Int32 := b01 (¬ gI E 5 b < needV E b x k)
theorem loopUpFrom {P : Nat → Prop} {l a : Nat} (ha : a ≤ l) (he : P l) (hs : ∀ k, a ≤ k → k < l → P (k + 1) → P k) : P a := by
  have : ∀ m k, a ≤ k → k + m = l → P k := by
    intro m
    induction m with
    | zero => intro k _ hk; rw [show k = l by omega]; exact he
    | succ m ih => intro k h1 hk; exact hs k h1 (by omega) (ih (k + 1) (by omega) (by omega))
  exact this (l - a) a (Nat.le_refl a) (by omega)
set_option maxRecDepth 20000 in
theorem c_X0_isFreeWithout {d n b l : Nat} {E : HP} {x : Int32} (ok : BedOK E n b) (hl : gI E 4 b = nI l) (hl7 : l ≤ 7) : Cl yX0_isFreeWithout mX0_isFreeWithout (d + 1) 0 0 [.ref b, .int x] E n (.inl (some (.int (freeV E b x l))), E, n) := by
  obtain ⟨o1, o2, o3, o4, o5, o6, o7, o8, o9, o10, o11⟩ := id ok
  have hbn : b < n := bo_n ok
  have hbn1 : b + 1 < n := bo_n1 ok
  have hbn2 : b + 2 < n := bo_n2 ok
  have r1 := ro_1 o9
  have r6 := ro_6 o9
  have u1 := uo_1 o10
  have u8 := uo_n o10
  refine Cl.of (by decide) rfl (fun q => by cases q) rfl rfl (Nat.le_of_ble_eq_true rfl) ?_
  show Sm _ _ _ _ _ 0 [some (.ref b), some (.int x), none, none] [] _ _
  have loop := loopUpFrom (P := fun k9 => Sm mX0_isFreeWithout (d + 1) 0 0 (.inl (some (.int (freeV E b x l))), E, n) 7 [some (.ref b), some (.int x), some (.int (needV E b x k9)), some (.int (nI k9))] [] E n) (a := 0) (l := l) (by omega) ?_ ?_
  refine r_aload_n 1 dX0_isFreeWithout_0 rfl rfl ?_
  refine r_getI 4 dX0_isFreeWithout_1 rfl f0_54 rfl (by first | with_reducible assumption | (simp only [gR_sI, gR_rPut]; with_reducible assumption) | exact (who_sh ok _).1 | exact (who_sh ok _).2) (by first | with_reducible assumption | (simp only [gR_sI, gR_rPut]; with_reducible assumption) | exact (who_sh ok _).1 | exact (who_sh ok _).2) ?_
  refine r_istore_n 5 dX0_isFreeWithout_4 rfl (by decide) rfl ?_
  refine r_iconst (0) 6 dX0_isFreeWithout_5 rfl (by decide) ?_
  refine r_istore_n 7 dX0_isFreeWithout_6 rfl (by decide) rfl ?_
  exact loop
  · refine r_iload_n 8 dX0_isFreeWithout_7 rfl rfl ?_
    refine r_aload_n 9 dX0_isFreeWithout_8 rfl rfl ?_
    refine r_getI 12 dX0_isFreeWithout_9 rfl f0_47 rfl (by first | with_reducible assumption | (simp only [gR_sI, gR_rPut]; with_reducible assumption) | exact (who_sh ok _).1 | exact (who_sh ok _).2) (by first | with_reducible assumption | (simp only [gR_sI, gR_rPut]; with_reducible assumption) | exact (who_sh ok _).1 | exact (who_sh ok _).2) ?_
    refine r_icmp_ge 15 41 dX0_isFreeWithout_12 rfl (by decide) (fun h12 => ?_) (fun h12 => absurd (by rw [hl]; exact nI_le (Nat.le_refl l) (by omega)) h12)
    refine r_aload_n 42 dX0_isFreeWithout_41 rfl rfl ?_
    refine r_getI 45 dX0_isFreeWithout_42 rfl f0_51 rfl (by first | with_reducible assumption | (simp only [gR_sI, gR_rPut]; with_reducible assumption) | exact (who_sh ok _).1 | exact (who_sh ok _).2) (by first | with_reducible assumption | (simp only [gR_sI, gR_rPut]; with_reducible assumption) | exact (who_sh ok _).1 | exact (who_sh ok _).2) ?_
    refine r_iload_n 46 dX0_isFreeWithout_45 rfl rfl ?_
    refine r_icmp_lt 49 53 dX0_isFreeWithout_46 rfl (by decide) (fun h46 => ?_) (fun h46 => ?_)
    · refine r_iconst (0) 54 dX0_isFreeWithout_53 rfl (by decide) ?_
      exact r_zret dX0_isFreeWithout_54 rfl rfl (by decide) (by first | (rw [show freeV E b x l = 1 from b01_t h46]) | (rw [show freeV E b x l = 0 from b01_f (fun z => z h46)]))
    · refine r_iconst (1) 50 dX0_isFreeWithout_49 rfl (by decide) ?_
      refine r_goto 54 dX0_isFreeWithout_50 (by decide) ?_
      exact r_zret dX0_isFreeWithout_54 rfl rfl (by decide) (by first | (rw [show freeV E b x l = 1 from b01_t h46]) | (rw [show freeV E b x l = 0 from b01_f (fun z => z h46)]))
  · intro k9 hk0 hk9 hq
    refine r_iload_n 8 dX0_isFreeWithout_7 rfl rfl ?_
    refine r_aload_n 9 dX0_isFreeWithout_8 rfl rfl ?_
    refine r_getI 12 dX0_isFreeWithout_9 rfl f0_47 rfl (by first | with_reducible assumption | (simp only [gR_sI, gR_rPut]; with_reducible assumption) | exact (who_sh ok _).1 | exact (who_sh ok _).2) (by first | with_reducible assumption | (simp only [gR_sI, gR_rPut]; with_reducible assumption) | exact (who_sh ok _).1 | exact (who_sh ok _).2) ?_
    refine r_icmp_ge 15 41 dX0_isFreeWithout_12 rfl (by decide) (fun h12 => absurd h12 (by rw [hl]; exact nI_ge hk9 (by omega))) (fun h12 => ?_)
    refine r_iload_n 16 dX0_isFreeWithout_15 rfl rfl ?_
    refine r_iload_n 17 dX0_isFreeWithout_16 rfl rfl ?_
    refine r_iload_n 18 dX0_isFreeWithout_17 rfl rfl ?_
    refine r_icmp_ne 21 25 dX0_isFreeWithout_18 rfl (by decide) (fun h18 => ?_) (fun h18 => ?_)
    · refine r_aload_n 26 dX0_isFreeWithout_25 rfl rfl ?_
      refine r_iload_n 27 dX0_isFreeWithout_26 rfl rfl ?_
      refine r_callV (M := mX0_isFreeWithout) (pc := 27) 30 dX0_isFreeWithout_27 rfl k0_89 (c_X0_who ok) rfl rfl (by first | with_reducible assumption | (simp only [gR_sI, gR_rPut]; with_reducible assumption) | exact (who_sh ok _).1 | exact (who_sh ok _).2) (by decide) rfl (by first | with_reducible assumption | (simp only [gR_sI, gR_rPut]; with_reducible assumption) | exact (who_sh ok _).1 | exact (who_sh ok _).2) (Nat.le_of_ble_eq_true rfl) ?_
      refine r_getI 33 dX0_isFreeWithout_30 rfl f0_93 rfl (by first | with_reducible assumption | (simp only [gR_sI, gR_rPut]; with_reducible assumption) | exact (who_sh ok _).1 | exact (who_sh ok _).2) (by first | with_reducible assumption | (simp only [gR_sI, gR_rPut]; with_reducible assumption) | exact (who_sh ok _).1 | exact (who_sh ok _).2) ?_
      refine r_iadd 34 dX0_isFreeWithout_33 rfl ?_
      refine r_istore_n 35 dX0_isFreeWithout_34 rfl (by decide) rfl ?_
      refine r_iinc (1) 38 dX0_isFreeWithout_35 rfl rfl (by decide) (by decide) rfl ?_
      refine r_goto 7 dX0_isFreeWithout_38 (by decide) ?_
      rw [nI_succ] at hq
      have hE : needV E b x (k9 + 1) = needV E b x k9 + (if nI k9 = x then 0 else gI E 1028 (whoId b (nI k9))) := rfl
      first | rw [if_pos h18] at hE | rw [if_neg h18] at hE
      rw [hE] at hq
      exact hq
    · refine r_iconst (0) 22 dX0_isFreeWithout_21 rfl (by decide) ?_
      refine r_goto 33 dX0_isFreeWithout_22 (by decide) ?_
      refine r_iadd 34 dX0_isFreeWithout_33 rfl ?_
      refine r_istore_n 35 dX0_isFreeWithout_34 rfl (by decide) rfl ?_
      refine r_iinc (1) 38 dX0_isFreeWithout_35 rfl rfl (by decide) (by decide) rfl ?_
      refine r_goto 7 dX0_isFreeWithout_38 (by decide) ?_
      rw [nI_succ] at hq
      have hE : needV E b x (k9 + 1) = needV E b x k9 + (if nI k9 = x then 0 else gI E 1028 (whoId b (nI k9))) := rfl
      first | rw [if_pos h18] at hE | rw [if_neg h18] at hE
      rw [hE] at hq
      exact hq
set_option maxRecDepth 20000 in
theorem c_X0_allows {d n b p l : Nat} {E : HP} (ok : BedOK E n b) (okp : PlanOK E n p) (hl : gI E 514 p = nI l) (hl7 : l ≤ 7) : Cl yX0_allows mX0_allows (d + 2) 0 0 [.ref b, .ref p] E n (.inl (some (.int (alwV E b p (if l = 0 then 1 else l)))), E, n) := by
  obtain ⟨o1, o2, o3, o4, o5, o6, o7, o8, o9, o10, o11⟩ := id ok
  have hbn : b < n := bo_n ok
  have hbn1 : b + 1 < n := bo_n1 ok
  have hbn2 : b + 2 < n := bo_n2 ok
  have r1 := ro_1 o9
  have r6 := ro_6 o9
  have u1 := uo_1 o10
  have u8 := uo_n o10
  obtain ⟨p1, p2, p3, p4, p5, p6⟩ := id okp
  have hl1 : 1 ≤ (if l = 0 then 1 else l) := by split <;> omega
  have hll : ¬ (if l = 0 then 1 else l) < l := by split <;> omega
  have hlk : ∀ k, 1 ≤ k → k < (if l = 0 then 1 else l) → k < l := fun k h1 h2 => by split at h2 <;> omega
  refine Cl.of (by decide) rfl (fun q => by cases q) rfl rfl (Nat.le_of_ble_eq_true rfl) ?_
  show Sm _ _ _ _ _ 0 [some (.ref b), some (.ref p), none] [] _ _
  have loop := loopUpFrom (P := fun k9 => (∀ k, 1 ≤ k → k < k9 → nevV E b (rAt E (p + 1) 7 (nI k - 1)) (ordAt E p k) = 0) → Sm mX0_allows (d + 2) 0 0 (.inl (some (.int (alwV E b p (if l = 0 then 1 else l)))), E, n) 2 [some (.ref b), some (.ref p), some (.int (nI k9))] [] E n) (a := 1) (l := (if l = 0 then 1 else l)) (by omega) ?_ ?_
  refine r_iconst (1) 1 dX0_allows_0 rfl (by decide) ?_
  refine r_istore_n 2 dX0_allows_1 rfl (by decide) rfl ?_
  exact loop (fun k h1 h2 => by omega)
  · intro hP9
    refine r_iload_n 3 dX0_allows_2 rfl rfl ?_
    refine r_aload_n 4 dX0_allows_3 rfl rfl ?_
    refine r_getI 7 dX0_allows_4 rfl f0_77 rfl (by first | with_reducible assumption | (simp only [gR_sI, gR_rPut]; with_reducible assumption) | with_reducible exact ro_1 p4 | with_reducible exact ro_6 p4) (by first | with_reducible assumption | (simp only [gR_sI, gR_rPut]; with_reducible assumption) | with_reducible exact ro_1 p4 | with_reducible exact ro_6 p4) ?_
    refine r_icmp_ge 10 43 dX0_allows_7 rfl (by decide) (fun h7 => ?_) (fun h7 => absurd (by rw [hl]; exact nI_le (by omega) (by split <;> omega)) h7)
    refine r_iconst (1) 44 dX0_allows_43 rfl (by decide) ?_
    exact r_zret dX0_allows_44 rfl rfl (by decide) (by rw [show alwV E b p (if l = 0 then 1 else l) = 1 from b01_t hP9])
  · intro k9 hk0 hk9 hq hP9
    refine r_iload_n 3 dX0_allows_2 rfl rfl ?_
    refine r_aload_n 4 dX0_allows_3 rfl rfl ?_
    refine r_getI 7 dX0_allows_4 rfl f0_77 rfl (by first | with_reducible assumption | (simp only [gR_sI, gR_rPut]; with_reducible assumption) | with_reducible exact ro_1 p4 | with_reducible exact ro_6 p4) (by first | with_reducible assumption | (simp only [gR_sI, gR_rPut]; with_reducible assumption) | with_reducible exact ro_1 p4 | with_reducible exact ro_6 p4) ?_
    refine r_icmp_ge 10 43 dX0_allows_7 rfl (by decide) (fun h7 => absurd h7 (by rw [hl]; exact nI_ge (hlk _ hk0 hk9) (by omega))) (fun h7 => ?_)
    refine r_aload_n 11 dX0_allows_10 rfl rfl ?_
    refine r_aload_n 12 dX0_allows_11 rfl rfl ?_
    refine r_getR 15 dX0_allows_12 rfl f0_82 rfl (by first | with_reducible assumption | (simp only [gR_sI, gR_rPut]; with_reducible assumption) | with_reducible exact ro_1 p4 | with_reducible exact ro_6 p4) (by first | with_reducible assumption | (simp only [gR_sI, gR_rPut]; with_reducible assumption) | with_reducible exact ro_1 p4 | with_reducible exact ro_6 p4) (by first | with_reducible assumption | (simp only [gR_sI, gR_rPut]; with_reducible assumption) | with_reducible exact ro_1 p4 | with_reducible exact ro_6 p4) ?_
    refine r_iload_n 16 dX0_allows_15 rfl rfl ?_
    refine r_iconst (1) 17 dX0_allows_16 rfl (by decide) ?_
    refine r_isub 18 dX0_allows_17 rfl ?_
    refine r_callV (M := mX0_allows) (pc := 18) 21 dX0_allows_18 rfl k0_69 (c_X6_at p4) rfl rfl (by first | with_reducible assumption | (simp only [gR_sI, gR_rPut]; with_reducible assumption) | with_reducible exact ro_1 p4 | with_reducible exact ro_6 p4) (by decide) rfl (by first | with_reducible assumption | (simp only [gR_sI, gR_rPut]; with_reducible assumption) | with_reducible exact ro_1 p4 | with_reducible exact ro_6 p4) (Nat.le_of_ble_eq_true rfl) ?_
    refine r_aload_n 22 dX0_allows_21 rfl rfl ?_
    refine r_getR 25 dX0_allows_22 rfl f0_82 rfl (by first | with_reducible assumption | (simp only [gR_sI, gR_rPut]; with_reducible assumption) | with_reducible exact ro_1 p4 | with_reducible exact ro_6 p4) (by first | with_reducible assumption | (simp only [gR_sI, gR_rPut]; with_reducible assumption) | with_reducible exact ro_1 p4 | with_reducible exact ro_6 p4) (by first | with_reducible assumption | (simp only [gR_sI, gR_rPut]; with_reducible assumption) | with_reducible exact ro_1 p4 | with_reducible exact ro_6 p4) ?_
    refine r_iload_n 26 dX0_allows_25 rfl rfl ?_
    refine r_callV (M := mX0_allows) (pc := 26) 29 dX0_allows_26 rfl k0_69 (c_X6_at p4) rfl rfl (by first | with_reducible assumption | (simp only [gR_sI, gR_rPut]; with_reducible assumption) | with_reducible exact ro_1 p4 | with_reducible exact ro_6 p4) (by decide) rfl (by first | with_reducible assumption | (simp only [gR_sI, gR_rPut]; with_reducible assumption) | with_reducible exact ro_1 p4 | with_reducible exact ro_6 p4) (Nat.le_of_ble_eq_true rfl) ?_
    refine r_callV (M := mX0_allows) (pc := 29) 32 dX0_allows_29 rfl k0_85 (c_X0_isNever ok) rfl rfl (by first | with_reducible assumption | (simp only [gR_sI, gR_rPut]; with_reducible assumption) | with_reducible exact ro_1 p4 | with_reducible exact ro_6 p4) (by decide) rfl (by first | with_reducible assumption | (simp only [gR_sI, gR_rPut]; with_reducible assumption) | with_reducible exact ro_1 p4 | with_reducible exact ro_6 p4) (Nat.le_of_ble_eq_true rfl) ?_
    refine r_if_eq 35 37 dX0_allows_32 rfl (by decide) (fun h32 => ?_) (fun h32 => ?_)
    · refine r_iinc (1) 40 dX0_allows_37 rfl rfl (by decide) (by decide) rfl ?_
      refine r_goto 2 dX0_allows_40 (by decide) ?_
      rw [nI_succ] at hq
      exact hq (fun k h1 h2 => by
        rcases Nat.lt_or_ge k k9 with z | z
        · exact hP9 k h1 z
        · rw [show k = k9 by omega]; exact h32)
    · refine r_iconst (0) 36 dX0_allows_35 rfl (by decide) ?_
      exact r_zret dX0_allows_36 rfl rfl (by decide) (by rw [show alwV E b p (if l = 0 then 1 else l) = 0 from b01_f (fun z => h32 (z k9 hk0 hk9))])
