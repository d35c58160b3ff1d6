/-! Night.turnAll -/
theorem wak_congr {V : NV} {f g : Nat → Nat → Int32} {n p q t : Nat} (e : f 3 p = g 3 p) : wakF V f n p q t = wakF V g n p q t := by
  unfold wakF
  have h : ∀ k, valF V f n p q t k = valF V g n p q t k := fun k => by
    match k with
    | 0 => rfl | 1 => rfl | 2 => rfl | 3 => rfl | 4 => rfl | 5 => rfl
    | 6 => exact e
    | k + 7 => rfl
  rw [show valF V f n p q t = valF V g n p q t from funext h]
theorem flip_23 {V : NV} {f : Nat → Nat → Int32} {a e t k p : Nat} (hk : 2 ≤ k) : flipF V f a e t k p = f k p := by
  unfold flipF
  rw [if_neg (show ¬ k = 0 by omega), if_neg (show ¬ k = 1 by omega)]
  split <;> rfl
/-- one more turned over -/
theorem flip_s {V : NV} {f : Nat → Nat → Int32} {a k9 t k i : Nat} (h : a ≤ k9) : flipF V f a (k9 + 1) t k i = if i = k9 ∧ ¬ vA V 1 k9 = 3 then (if k = 0 then 1 - f 0 i else if k = 1 then nI t else f k i) else flipF V f a k9 t k i := by
  unfold flipF
  by_cases hi : i = k9
  · subst hi
    by_cases h3 : vA V 1 i = 3
    · simp [h3]
    · simp [h3, h]
  · have e : (i < k9 + 1) = (i < k9) := propext (by omega)
    simp [hi, e]
theorem flip_0 {V : NV} {f : Nat → Nat → Int32} {a t k i : Nat} : flipF V f a a t k i = f k i := by
  unfold flipF
  rw [if_neg (by omega)]
theorem flip_at {V : NV} {f : Nat → Nat → Int32} {a t k k9 : Nat} : flipF V f a k9 t k k9 = f k k9 := by
  unfold flipF
  rw [if_neg (by omega)]
/-- 80's numbers and the arrays are as they were -/
def K80 (E E2 : HP) : Prop := (∀ g, gI E2 g 80 = gI E g 80) ∧ gA E2 = gA E
/-- 80's numbers but the count of woken are; so is the turn looked at -/
def J80 (E E2 : HP) (c : Nat) : Prop := gI E2 265 80 = gI E 265 80 + nI c ∧ (∀ g, g ≠ 265 → gI E2 g 80 = gI E g 80) ∧ gA E2 85 = gA E 85
def wB (V : NV) (S : NS) (a e q t k9 : Nat) : Nat → Bool := fun i => decide (i < k9) && wokeF V S a e q t i
set_option maxRecDepth 20000 in
theorem c_X2_turnAll {d b p t a e q : Nat} {V : NV} {S : NS} {E : HP} {w : Int32} (hc : NC E b p V t) (hr : NR E V S) (hae : a ≤ e) (hel : e ≤ vL V) (hq : q < vL V) (hw : w = 0 ∨ w = 1) (hlen : (nG S).length < 90000) : ∃ o, (∃ E2, o = (.inl none, E2, 137) ∧ NF b E E2 ∧ NR E2 V (turnF V S a e q w t)) ∧ Cl yX2_turnAll mX2_turnAll (d + 3) 0 0 [.ref 80, .int (nI a), .int (nI e), .ref (88 + q), .int w] E 137 o := by
  obtain ⟨okn, ov, ot, ot6, ol⟩ := id hc
  obtain ⟨v1, v2, v3, v4, v5, v6, v7, v8, v9, v10, v11⟩ := id ov
  obtain ⟨n1, n2, n3, n4, n5, n6, n7, n8, n9, n10, n11, n12, n13, n14⟩ := id okn
  obtain ⟨p1, p2, p3, p4, p5, p6⟩ := id n11
  obtain ⟨r1, r2, r3, r4, r5, r6⟩ := id hr
  have hq1 := sh_li (show q < 7 by omega)
  have hq2 : 88 + q < 137 := by omega
  have hqn : gI E 129 (88 + q) = vA V 0 q := (ol q hq).2.1
  refine Cx.of (by decide) rfl (fun q => by cases q) rfl rfl (Nat.le_of_ble_eq_true rfl) ?_
  show Sx _ _ _ _ _ 0 [some (.ref 80), some (.int (nI a)), some (.int (nI e)), some (.ref (88 + q)), some (.int w), none, none, none] [] _ _
  have fin2 : ∀ E3 x6 x7, NF b E E3 → LF E3 (vL V) (begF (wokenF (flipF V (nA S) a e t) (wokeF V S a e q t) t) q) → (∀ g, g ≠ 265 → gI E3 g 80 = gI E g 80) → gI E3 265 80 = gI E 265 80 + nI (cntF (wokeF V S a e q t) a (e - a)) → (∀ i x, gI E 260 80 = nI i → i < 100000 → (nG S ++ [(nI t, vA V 0 q, nI (cntF (wokeF V S a e q t) a (e - a)), w)])[i]? = some x → gA E3 85 0 = x.1 ∧ gA E3 85 1 = x.2.1 ∧ gA E3 85 2 = x.2.2.1 ∧ gA E3 85 3 = x.2.2.2) → Sx mX2_turnAll (d + 3) 0 0 (fun o => ∃ E2, o = (.inl none, E2, 137) ∧ NF b E E2 ∧ NR E2 V (turnF V S a e q w t)) 126 [some (.ref 80), some (.int (nI a)), some (.int (nI e)), some (.ref (88 + q)), some (.int w), some (.int (gI E 265 80)), x6, x7] [] E3 137 := by
    intro E3 x6 x7 hN hL h80 h265 hWT
    refine Sx.up (fun _ kk => r_aload_n 127 dX2_turnAll_126 rfl rfl kk) ?_
    refine Sx.up (fun _ kk => r_dup 128 dX2_turnAll_127 rfl rfl kk) ?_
    refine Sx.up (fun _ kk => r_getI 131 dX2_turnAll_128 rfl f2_36 rfl (by first | with_reducible assumption | exact Nat.le_of_ble_eq_true rfl | with_reducible exact bo_1 n10 | with_reducible exact bo_n n10 | with_reducible exact ro_1 p4 | with_reducible exact ro_6 p4 | with_reducible exact ro_1 p5 | with_reducible exact ro_6 p5 | with_reducible exact ro_1 n8 | with_reducible exact ro_6 n8 | with_reducible exact ro_1 n9 | with_reducible exact ro_6 n9 | rfl | (exact sr_gR hN.1 (by with_reducible assumption)) | omega) (by first | with_reducible assumption | exact Nat.le_of_ble_eq_true rfl | with_reducible exact bo_1 n10 | with_reducible exact bo_n n10 | with_reducible exact ro_1 p4 | with_reducible exact ro_6 p4 | with_reducible exact ro_1 p5 | with_reducible exact ro_6 p5 | with_reducible exact ro_1 n8 | with_reducible exact ro_6 n8 | with_reducible exact ro_1 n9 | with_reducible exact ro_6 n9 | rfl | (exact sr_gR hN.1 (by with_reducible assumption)) | omega) kk) ?_
    refine Sx.up (fun _ kk => r_iconst (1) 132 dX2_turnAll_131 rfl (by decide) kk) ?_
    refine Sx.up (fun _ kk => r_iadd 133 dX2_turnAll_132 rfl kk) ?_
    refine Sx.up (fun _ kk => r_putI 136 dX2_turnAll_133 rfl f2_36 (by first | with_reducible assumption | exact Nat.le_of_ble_eq_true rfl | with_reducible exact bo_1 n10 | with_reducible exact bo_n n10 | with_reducible exact ro_1 p4 | with_reducible exact ro_6 p4 | with_reducible exact ro_1 p5 | with_reducible exact ro_6 p5 | with_reducible exact ro_1 n8 | with_reducible exact ro_6 n8 | with_reducible exact ro_1 n9 | with_reducible exact ro_6 n9 | rfl | (exact sr_gR hN.1 (by with_reducible assumption)) | omega) (by first | with_reducible assumption | exact Nat.le_of_ble_eq_true rfl | with_reducible exact bo_1 n10 | with_reducible exact bo_n n10 | with_reducible exact ro_1 p4 | with_reducible exact ro_6 p4 | with_reducible exact ro_1 p5 | with_reducible exact ro_6 p5 | with_reducible exact ro_1 n8 | with_reducible exact ro_6 n8 | with_reducible exact ro_1 n9 | with_reducible exact ro_6 n9 | rfl | (exact sr_gR hN.1 (by with_reducible assumption)) | omega) kk) ?_
    refine Sx.up (fun _ kk => r_aload_n 137 dX2_turnAll_136 rfl rfl kk) ?_
    refine Sx.up (fun _ kk => r_aload_n 138 dX2_turnAll_137 rfl rfl kk) ?_
    refine Sx.up (fun _ kk => r_getI 141 dX2_turnAll_138 rfl f2_42 rfl (by first | with_reducible assumption | exact Nat.le_of_ble_eq_true rfl | with_reducible exact bo_1 n10 | with_reducible exact bo_n n10 | with_reducible exact ro_1 p4 | with_reducible exact ro_6 p4 | with_reducible exact ro_1 p5 | with_reducible exact ro_6 p5 | with_reducible exact ro_1 n8 | with_reducible exact ro_6 n8 | with_reducible exact ro_1 n9 | with_reducible exact ro_6 n9 | rfl | (exact sr_gR hN.1 (by with_reducible assumption)) | omega) (by first | with_reducible assumption | exact Nat.le_of_ble_eq_true rfl | with_reducible exact bo_1 n10 | with_reducible exact bo_n n10 | with_reducible exact ro_1 p4 | with_reducible exact ro_6 p4 | with_reducible exact ro_1 p5 | with_reducible exact ro_6 p5 | with_reducible exact ro_1 n8 | with_reducible exact ro_6 n8 | with_reducible exact ro_1 n9 | with_reducible exact ro_6 n9 | rfl | (exact sr_gR hN.1 (by with_reducible assumption)) | omega) kk) ?_
    refine Sx.up (fun _ kk => r_aload_n 142 dX2_turnAll_141 rfl rfl kk) ?_
    refine Sx.up (fun _ kk => r_getI 145 dX2_turnAll_142 rfl f2_33 rfl (by first | with_reducible assumption | exact Nat.le_of_ble_eq_true rfl | with_reducible exact bo_1 n10 | with_reducible exact bo_n n10 | with_reducible exact ro_1 p4 | with_reducible exact ro_6 p4 | with_reducible exact ro_1 p5 | with_reducible exact ro_6 p5 | with_reducible exact ro_1 n8 | with_reducible exact ro_6 n8 | with_reducible exact ro_1 n9 | with_reducible exact ro_6 n9 | rfl | (exact sr_gR hN.1 (by with_reducible assumption)) | omega) (by first | with_reducible assumption | exact Nat.le_of_ble_eq_true rfl | with_reducible exact bo_1 n10 | with_reducible exact bo_n n10 | with_reducible exact ro_1 p4 | with_reducible exact ro_6 p4 | with_reducible exact ro_1 p5 | with_reducible exact ro_6 p5 | with_reducible exact ro_1 n8 | with_reducible exact ro_6 n8 | with_reducible exact ro_1 n9 | with_reducible exact ro_6 n9 | rfl | (exact sr_gR hN.1 (by with_reducible assumption)) | omega) kk) ?_
    refine Sx.up (fun _ kk => r_aload_n 146 dX2_turnAll_145 rfl rfl kk) ?_
    refine Sx.up (fun _ kk => r_getI 149 dX2_turnAll_146 rfl f2_45 rfl (by first | with_reducible assumption | exact Nat.le_of_ble_eq_true rfl | with_reducible exact bo_1 n10 | with_reducible exact bo_n n10 | with_reducible exact ro_1 p4 | with_reducible exact ro_6 p4 | with_reducible exact ro_1 p5 | with_reducible exact ro_6 p5 | with_reducible exact ro_1 n8 | with_reducible exact ro_6 n8 | with_reducible exact ro_1 n9 | with_reducible exact ro_6 n9 | rfl | (exact sr_gR hN.1 (by with_reducible assumption)) | omega) (by first | with_reducible assumption | exact Nat.le_of_ble_eq_true rfl | with_reducible exact bo_1 n10 | with_reducible exact bo_n n10 | with_reducible exact ro_1 p4 | with_reducible exact ro_6 p4 | with_reducible exact ro_1 p5 | with_reducible exact ro_6 p5 | with_reducible exact ro_1 n8 | with_reducible exact ro_6 n8 | with_reducible exact ro_1 n9 | with_reducible exact ro_6 n9 | rfl | (exact sr_gR hN.1 (by with_reducible assumption)) | omega) kk) ?_
    refine Sx.up (fun _ kk => r_isub 150 dX2_turnAll_149 rfl kk) ?_
    refine Sx.up (fun _ kk => r_iconst (1) 151 dX2_turnAll_150 rfl (by decide) kk) ?_
    refine Sx.up (fun _ kk => r_isub 152 dX2_turnAll_151 rfl kk) ?_
    refine Sx.up (fun _ kk => r_max 155 dX2_turnAll_152 rfl k2_80 (Nat.le_of_ble_eq_true rfl) kk) ?_
    refine Sx.up (fun _ kk => r_putI 158 dX2_turnAll_155 rfl f2_42 (by first | with_reducible assumption | exact Nat.le_of_ble_eq_true rfl | with_reducible exact bo_1 n10 | with_reducible exact bo_n n10 | with_reducible exact ro_1 p4 | with_reducible exact ro_6 p4 | with_reducible exact ro_1 p5 | with_reducible exact ro_6 p5 | with_reducible exact ro_1 n8 | with_reducible exact ro_6 n8 | with_reducible exact ro_1 n9 | with_reducible exact ro_6 n9 | rfl | (exact sr_gR hN.1 (by with_reducible assumption)) | omega) (by first | with_reducible assumption | exact Nat.le_of_ble_eq_true rfl | with_reducible exact bo_1 n10 | with_reducible exact bo_n n10 | with_reducible exact ro_1 p4 | with_reducible exact ro_6 p4 | with_reducible exact ro_1 p5 | with_reducible exact ro_6 p5 | with_reducible exact ro_1 n8 | with_reducible exact ro_6 n8 | with_reducible exact ro_1 n9 | with_reducible exact ro_6 n9 | rfl | (exact sr_gR hN.1 (by with_reducible assumption)) | omega) kk) ?_
    refine Sx.up (fun _ kk => r_aload_n 159 dX2_turnAll_158 rfl rfl kk) ?_
    refine Sx.up (fun _ kk => r_aload_n 160 dX2_turnAll_159 rfl rfl kk) ?_
    refine Sx.up (fun _ kk => r_getI 163 dX2_turnAll_160 rfl f2_33 rfl (by first | with_reducible assumption | exact Nat.le_of_ble_eq_true rfl | with_reducible exact bo_1 n10 | with_reducible exact bo_n n10 | with_reducible exact ro_1 p4 | with_reducible exact ro_6 p4 | with_reducible exact ro_1 p5 | with_reducible exact ro_6 p5 | with_reducible exact ro_1 n8 | with_reducible exact ro_6 n8 | with_reducible exact ro_1 n9 | with_reducible exact ro_6 n9 | rfl | (exact sr_gR hN.1 (by with_reducible assumption)) | omega) (by first | with_reducible assumption | exact Nat.le_of_ble_eq_true rfl | with_reducible exact bo_1 n10 | with_reducible exact bo_n n10 | with_reducible exact ro_1 p4 | with_reducible exact ro_6 p4 | with_reducible exact ro_1 p5 | with_reducible exact ro_6 p5 | with_reducible exact ro_1 n8 | with_reducible exact ro_6 n8 | with_reducible exact ro_1 n9 | with_reducible exact ro_6 n9 | rfl | (exact sr_gR hN.1 (by with_reducible assumption)) | omega) kk) ?_
    refine Sx.up (fun _ kk => r_putI 166 dX2_turnAll_163 rfl f2_45 (by first | with_reducible assumption | exact Nat.le_of_ble_eq_true rfl | with_reducible exact bo_1 n10 | with_reducible exact bo_n n10 | with_reducible exact ro_1 p4 | with_reducible exact ro_6 p4 | with_reducible exact ro_1 p5 | with_reducible exact ro_6 p5 | with_reducible exact ro_1 n8 | with_reducible exact ro_6 n8 | with_reducible exact ro_1 n9 | with_reducible exact ro_6 n9 | rfl | (exact sr_gR hN.1 (by with_reducible assumption)) | omega) (by first | with_reducible assumption | exact Nat.le_of_ble_eq_true rfl | with_reducible exact bo_1 n10 | with_reducible exact bo_n n10 | with_reducible exact ro_1 p4 | with_reducible exact ro_6 p4 | with_reducible exact ro_1 p5 | with_reducible exact ro_6 p5 | with_reducible exact ro_1 n8 | with_reducible exact ro_6 n8 | with_reducible exact ro_1 n9 | with_reducible exact ro_6 n9 | rfl | (exact sr_gR hN.1 (by with_reducible assumption)) | omega) kk) ?_
    refine ⟨_, ?_, r_vret dX2_turnAll_166 rfl rfl rfl⟩
    refine ⟨_, rfl, nf_sI (by omega) (nf_sI (by omega) (nf_sI (by omega) hN)), ?_, ?_, ?_, ?_, fun i hi k hk => ?_, fun i x g1 g2 g3 => ?_⟩
    · simp only [gI_sI, Nat.reduceEqDiff, false_and, and_false, if_false, true_and, and_true, and_self, if_true, reduceIte]
      rw [h80 264 (by decide), r1, nI_pp]
      show _ = nI (nG S ++ [_]).length
      rw [List.length_append]
      rfl
    · simp only [gI_sI, Nat.reduceEqDiff, false_and, and_false, if_false, true_and, and_true, and_self, if_true, reduceIte]
      rw [h265, r2]
      rfl
    · simp only [gI_sI, Nat.reduceEqDiff, false_and, and_false, if_false, true_and, and_true, and_self, if_true, reduceIte]
      rw [h80 266 (by decide), h80 263 (by decide), h80 267 (by decide), r3, r4, ot]
      rfl
    · simp only [gI_sI, Nat.reduceEqDiff, false_and, and_false, if_false, true_and, and_true, and_self, if_true, reduceIte]
      rw [h80 263 (by decide), ot]
      rfl
    · have e1 : ¬ 88 + i = 80 := by omega
      simp only [gI_sI, e1, and_false, if_false]
      exact hL i hi k hk
    · simp only [gI_sI, Nat.reduceEqDiff, false_and, if_false] at g1
      rw [h80 260 (by decide)] at g1
      exact hWT i x g1 g2 g3
  have fin : ∀ E1 x6 x7, NF b E E1 → LF E1 (vL V) (wokenF (flipF V (nA S) a e t) (wokeF V S a e q t) t) → J80 E E1 (cntF (wokeF V S a e q t) a (e - a)) → Sx mX2_turnAll (d + 3) 0 0 (fun o => ∃ E2, o = (.inl none, E2, 137) ∧ NF b E E2 ∧ NR E2 V (turnF V S a e q w t)) 88 [some (.ref 80), some (.int (nI a)), some (.int (nI e)), some (.ref (88 + q)), some (.int w), some (.int (gI E 265 80)), x6, x7] [] E1 137 := by
    intro E1 x6 x7 hN hL hJ
    have hc1 := nc_nf hN hc
    have okn1 := hc1.1
    have hN2 : NF b E (sI E1 136 (88 + q) (gI E1 136 (88 + q) + 1)) := nf_sI (by omega) hN
    have hL2 : LF (sI E1 136 (88 + q) (gI E1 136 (88 + q) + 1)) (vL V) (begF (wokenF (flipF V (nA S) a e t) (wokeF V S a e q t) t) q) := fun i hi k hk => by
      have h5 := lf_get hL hi
      simp only [gI_sI]
      unfold begF
      by_cases hk4 : k = 4 ∧ i = q
      · obtain ⟨e1, e2⟩ := hk4
        subst e1; subst e2
        rw [if_pos ⟨rfl, rfl⟩, if_pos ⟨rfl, rfl⟩, h5.2.2.2.2]
      · rw [if_neg (by omega), if_neg hk4]
        exact hL i hi k hk
    have h80 : ∀ g, g ≠ 265 → gI (sI E1 136 (88 + q) (gI E1 136 (88 + q) + 1)) g 80 = gI E g 80 := fun g hg => by
      simp only [gI_sI]
      rw [if_neg (by omega)]
      exact hJ.2.1 g hg
    have h265 : gI (sI E1 136 (88 + q) (gI E1 136 (88 + q) + 1)) 265 80 = gI E 265 80 + nI (cntF (wokeF V S a e q t) a (e - a)) := by
      simp only [gI_sI]
      rw [if_neg (by omega)]
      exact hJ.1
    have hnum : gI (sI E1 136 (88 + q) (gI E1 136 (88 + q) + 1)) 129 (88 + q) = vA V 0 q := by
      simp only [gI_sI]
      rw [if_neg (by omega)]
      exact (hc1.2.2.2.2 q hq).2.1
    have hinj : ∀ i, i < 100000 → nI (nG S).length = nI i → i = (nG S).length := fun i hi z => by
      have := congrArg Int32.toInt z
      rw [nI_toInt (by omega), nI_toInt (by omega)] at this
      omega
    refine Sx.up (fun _ kk => r_aload_n 89 dX2_turnAll_88 rfl rfl kk) ?_
    refine Sx.up (fun _ kk => r_dup 90 dX2_turnAll_89 rfl rfl kk) ?_
    refine Sx.up (fun _ kk => r_getI 93 dX2_turnAll_90 rfl f2_177 rfl (by first | with_reducible assumption | exact Nat.le_of_ble_eq_true rfl | with_reducible exact bo_1 n10 | with_reducible exact bo_n n10 | with_reducible exact ro_1 p4 | with_reducible exact ro_6 p4 | with_reducible exact ro_1 p5 | with_reducible exact ro_6 p5 | with_reducible exact ro_1 n8 | with_reducible exact ro_6 n8 | with_reducible exact ro_1 n9 | with_reducible exact ro_6 n9 | rfl | (exact sr_gR hN.1 (by with_reducible assumption)) | omega) (by first | with_reducible assumption | exact Nat.le_of_ble_eq_true rfl | with_reducible exact bo_1 n10 | with_reducible exact bo_n n10 | with_reducible exact ro_1 p4 | with_reducible exact ro_6 p4 | with_reducible exact ro_1 p5 | with_reducible exact ro_6 p5 | with_reducible exact ro_1 n8 | with_reducible exact ro_6 n8 | with_reducible exact ro_1 n9 | with_reducible exact ro_6 n9 | rfl | (exact sr_gR hN.1 (by with_reducible assumption)) | omega) kk) ?_
    refine Sx.up (fun _ kk => r_iconst (1) 94 dX2_turnAll_93 rfl (by decide) kk) ?_
    refine Sx.up (fun _ kk => r_iadd 95 dX2_turnAll_94 rfl kk) ?_
    refine Sx.up (fun _ kk => r_putI 98 dX2_turnAll_95 rfl f2_177 (by first | with_reducible assumption | exact Nat.le_of_ble_eq_true rfl | with_reducible exact bo_1 n10 | with_reducible exact bo_n n10 | with_reducible exact ro_1 p4 | with_reducible exact ro_6 p4 | with_reducible exact ro_1 p5 | with_reducible exact ro_6 p5 | with_reducible exact ro_1 n8 | with_reducible exact ro_6 n8 | with_reducible exact ro_1 n9 | with_reducible exact ro_6 n9 | rfl | (exact sr_gR hN.1 (by with_reducible assumption)) | omega) (by first | with_reducible assumption | exact Nat.le_of_ble_eq_true rfl | with_reducible exact bo_1 n10 | with_reducible exact bo_n n10 | with_reducible exact ro_1 p4 | with_reducible exact ro_6 p4 | with_reducible exact ro_1 p5 | with_reducible exact ro_6 p5 | with_reducible exact ro_1 n8 | with_reducible exact ro_6 n8 | with_reducible exact ro_1 n9 | with_reducible exact ro_6 n9 | rfl | (exact sr_gR hN.1 (by with_reducible assumption)) | omega) kk) ?_
    refine Sx.up (fun _ kk => r_aload_n 99 dX2_turnAll_98 rfl rfl kk) ?_
    refine Sx.up (fun _ kk => r_getI 102 dX2_turnAll_99 rfl f2_36 rfl (by first | with_reducible assumption | exact Nat.le_of_ble_eq_true rfl | with_reducible exact bo_1 n10 | with_reducible exact bo_n n10 | with_reducible exact ro_1 p4 | with_reducible exact ro_6 p4 | with_reducible exact ro_1 p5 | with_reducible exact ro_6 p5 | with_reducible exact ro_1 n8 | with_reducible exact ro_6 n8 | with_reducible exact ro_1 n9 | with_reducible exact ro_6 n9 | rfl | (exact sr_gR hN.1 (by with_reducible assumption)) | omega) (by first | with_reducible assumption | exact Nat.le_of_ble_eq_true rfl | with_reducible exact bo_1 n10 | with_reducible exact bo_n n10 | with_reducible exact ro_1 p4 | with_reducible exact ro_6 p4 | with_reducible exact ro_1 p5 | with_reducible exact ro_6 p5 | with_reducible exact ro_1 n8 | with_reducible exact ro_6 n8 | with_reducible exact ro_1 n9 | with_reducible exact ro_6 n9 | rfl | (exact sr_gR hN.1 (by with_reducible assumption)) | omega) kk) ?_
    refine Sx.up (fun _ kk => r_aload_n 103 dX2_turnAll_102 rfl rfl kk) ?_
    refine Sx.up (fun _ kk => r_getI 106 dX2_turnAll_103 rfl f2_29 rfl (by first | with_reducible assumption | exact Nat.le_of_ble_eq_true rfl | with_reducible exact bo_1 n10 | with_reducible exact bo_n n10 | with_reducible exact ro_1 p4 | with_reducible exact ro_6 p4 | with_reducible exact ro_1 p5 | with_reducible exact ro_6 p5 | with_reducible exact ro_1 n8 | with_reducible exact ro_6 n8 | with_reducible exact ro_1 n9 | with_reducible exact ro_6 n9 | rfl | (exact sr_gR hN.1 (by with_reducible assumption)) | omega) (by first | with_reducible assumption | exact Nat.le_of_ble_eq_true rfl | with_reducible exact bo_1 n10 | with_reducible exact bo_n n10 | with_reducible exact ro_1 p4 | with_reducible exact ro_6 p4 | with_reducible exact ro_1 p5 | with_reducible exact ro_6 p5 | with_reducible exact ro_1 n8 | with_reducible exact ro_6 n8 | with_reducible exact ro_1 n9 | with_reducible exact ro_6 n9 | rfl | (exact sr_gR hN.1 (by with_reducible assumption)) | omega) kk) ?_
    refine Sx.br (fun _ ka kb => r_icmp_ne 109 126 dX2_turnAll_106 rfl (by decide) ka kb) (by first | exact em1 | exact em2) (fun h106 => ?_) (fun h106 => ?_)
    · refine fin2 _ x6 x7 hN2 hL2 h80 h265 (fun i x g1 g2 g3 => ?_)
      rw [h80 264 (by decide), h80 260 (by decide), r1] at h106
      have hil : i < (nG S).length := by
        rcases Nat.lt_or_ge i (nG S).length with z | z
        · exact z
        · have : i < (nG S ++ [(nI t, vA V 0 q, nI (cntF (wokeF V S a e q t) a (e - a)), w)]).length := (List.getElem?_eq_some_iff.mp g3).1
          rw [List.length_append] at this
          exact absurd (by rw [g1, show i = (nG S).length by simp at this; omega]) h106
      rw [List.getElem?_append_left hil] at g3
      have := r6 i x g1 g2 g3
      show gA E1 85 0 = _ ∧ _
      rw [show gA (sI E1 136 (88 + q) (gI E1 136 (88 + q) + 1)) 85 = gA E1 85 from rfl, hJ.2.2]
      exact this
    · refine Sx.up (fun _ kk => r_aload_n 110 dX2_turnAll_109 rfl rfl kk) ?_
      refine Sx.up (fun _ kk => r_aload_n 111 dX2_turnAll_110 rfl rfl kk) ?_
      refine Sx.up (fun _ kk => r_getI 114 dX2_turnAll_111 rfl f2_180 rfl (by first | with_reducible assumption | exact Nat.le_of_ble_eq_true rfl | with_reducible exact bo_1 n10 | with_reducible exact bo_n n10 | with_reducible exact ro_1 p4 | with_reducible exact ro_6 p4 | with_reducible exact ro_1 p5 | with_reducible exact ro_6 p5 | with_reducible exact ro_1 n8 | with_reducible exact ro_6 n8 | with_reducible exact ro_1 n9 | with_reducible exact ro_6 n9 | rfl | (exact sr_gR hN.1 (by with_reducible assumption)) | omega) (by first | with_reducible assumption | exact Nat.le_of_ble_eq_true rfl | with_reducible exact bo_1 n10 | with_reducible exact bo_n n10 | with_reducible exact ro_1 p4 | with_reducible exact ro_6 p4 | with_reducible exact ro_1 p5 | with_reducible exact ro_6 p5 | with_reducible exact ro_1 n8 | with_reducible exact ro_6 n8 | with_reducible exact ro_1 n9 | with_reducible exact ro_6 n9 | rfl | (exact sr_gR hN.1 (by with_reducible assumption)) | omega) kk) ?_
      refine Sx.up (fun _ kk => r_aload_n 115 dX2_turnAll_114 rfl rfl kk) ?_
      refine Sx.up (fun _ kk => r_getI 118 dX2_turnAll_115 rfl f2_39 rfl (by first | with_reducible assumption | exact Nat.le_of_ble_eq_true rfl | with_reducible exact bo_1 n10 | with_reducible exact bo_n n10 | with_reducible exact ro_1 p4 | with_reducible exact ro_6 p4 | with_reducible exact ro_1 p5 | with_reducible exact ro_6 p5 | with_reducible exact ro_1 n8 | with_reducible exact ro_6 n8 | with_reducible exact ro_1 n9 | with_reducible exact ro_6 n9 | rfl | (exact sr_gR hN.1 (by with_reducible assumption)) | omega) (by first | with_reducible assumption | exact Nat.le_of_ble_eq_true rfl | with_reducible exact bo_1 n10 | with_reducible exact bo_n n10 | with_reducible exact ro_1 p4 | with_reducible exact ro_6 p4 | with_reducible exact ro_1 p5 | with_reducible exact ro_6 p5 | with_reducible exact ro_1 n8 | with_reducible exact ro_6 n8 | with_reducible exact ro_1 n9 | with_reducible exact ro_6 n9 | rfl | (exact sr_gR hN.1 (by with_reducible assumption)) | omega) kk) ?_
      refine Sx.up (fun _ kk => r_iload 120 dX2_turnAll_118 rfl rfl kk) ?_
      refine Sx.up (fun _ kk => r_isub 121 dX2_turnAll_120 rfl kk) ?_
      refine Sx.up (fun _ kk => r_iload 123 dX2_turnAll_121 rfl rfl kk) ?_
      obtain ⟨_, ⟨E3, rfl, hN3, hI3, g0, g1, g2, g3⟩, hcl⟩ := c_X2_noteTurn (d := d + 1) (E := sI E1 136 (88 + q) (gI E1 136 (88 + q) + 1)) (x := gI (sI E1 136 (88 + q) (gI E1 136 (88 + q) + 1)) 129 (88 + q)) (y := gI (sI E1 136 (88 + q) (gI E1 136 (88 + q) + 1)) 265 80 - gI E 265 80) (sr_night hN2.1 okn) hw
      refine Sx.up (fun _ kk => r_callV (M := mX2_turnAll) (pc := 123) 126 dX2_turnAll_123 rfl k2_183 hcl rfl rfl (by first | with_reducible assumption | exact Nat.le_of_ble_eq_true rfl | with_reducible exact bo_1 n10 | with_reducible exact bo_n n10 | with_reducible exact ro_1 p4 | with_reducible exact ro_6 p4 | with_reducible exact ro_1 p5 | with_reducible exact ro_6 p5 | with_reducible exact ro_1 n8 | with_reducible exact ro_6 n8 | with_reducible exact ro_1 n9 | with_reducible exact ro_6 n9 | rfl | (exact sr_gR hN.1 (by with_reducible assumption)) | omega) (by decide) rfl (by first | with_reducible assumption | exact Nat.le_of_ble_eq_true rfl | with_reducible exact bo_1 n10 | with_reducible exact bo_n n10 | with_reducible exact ro_1 p4 | with_reducible exact ro_6 p4 | with_reducible exact ro_1 p5 | with_reducible exact ro_6 p5 | with_reducible exact ro_1 n8 | with_reducible exact ro_6 n8 | with_reducible exact ro_1 n9 | with_reducible exact ro_6 n9 | rfl | (exact sr_gR hN.1 (by with_reducible assumption)) | omega) (Nat.le_of_ble_eq_true rfl) kk) ?_
      refine fin2 _ x6 x7 (nf_tr hN2 hN3) (fun i hi k hk => (hI3 _ _).trans (hL2 i hi k hk)) (fun g hg => (hI3 _ _).trans (h80 g hg)) ((hI3 _ _).trans h265) (fun i x a1 a2 a3 => ?_)
      rw [h80 264 (by decide), h80 260 (by decide), r1] at h106
      have hi : i = (nG S).length := hinj i a2 (h106.trans a1)
      subst hi
      rw [List.getElem?_append_right (Nat.le_refl _), Nat.sub_self] at a3
      cases a3
      refine ⟨by rw [g0, h80 263 (by decide), ot], by rw [g1, hnum], ?_, g3⟩
      rw [g2, h265, Int32.add_comm, Int32.add_sub_cancel]
  have loop2 : ∀ E1, NF b E E1 → LF E1 (vL V) (flipF V (nA S) a e t) → K80 E E1 → ∀ x7, Sx mX2_turnAll (d + 3) 0 0 (fun o => ∃ E2, o = (.inl none, E2, 137) ∧ NF b E E2 ∧ NR E2 V (turnF V S a e q w t)) 37 [some (.ref 80), some (.int (nI a)), some (.int (nI e)), some (.ref (88 + q)), some (.int w), some (.int (gI E 265 80)), some (.int (nI a)), x7] [] E1 137 := by
    intro E0 hN0 hL0 hK0 x7
    refine Sx.less (ls := [some (.ref 80), some (.int (nI a)), some (.int (nI e)), some (.ref (88 + q)), some (.int w), some (.int (gI E 265 80)), some (.int (nI a)), none]) ⟨rfl, rfl, rfl, rfl, rfl, rfl, rfl, trivial⟩ ?_
    refine sxUp (S := fun k9 E1 => Sx mX2_turnAll (d + 3) 0 0 (fun o => ∃ E2, o = (.inl none, E2, 137) ∧ NF b E E2 ∧ NR E2 V (turnF V S a e q w t)) 37 [some (.ref 80), some (.int (nI a)), some (.int (nI e)), some (.ref (88 + q)), some (.int w), some (.int (gI E 265 80)), some (.int (nI k9)), none] [] E1 137) (Inv := fun k9 E1 => NF b E E1 ∧ LF E1 (vL V) (wokenF (flipF V (nA S) a e t) (wB V S a e q t k9) t) ∧ J80 E E1 (cntF (wokeF V S a e q t) a (k9 - a))) (a := a) (l := e) hae ?_ ?_ E0 ⟨hN0, lf_congr hL0 (fun i _ k _ => ?_), ⟨by rw [Nat.sub_self]; show _ = _ + nI 0; rw [hK0.1, show nI 0 = 0 from rfl, Int32.add_zero], fun g _ => hK0.1 g, by rw [hK0.2]⟩⟩
    · intro E1 ⟨hN, hL, hJ⟩
      refine Sx.up (fun _ kk => r_iload 39 dX2_turnAll_37 rfl rfl kk) ?_
      refine Sx.up (fun _ kk => r_iload_n 40 dX2_turnAll_39 rfl rfl kk) ?_
      refine Sx.up (fun _ kk => r_icmp_ge 43 88 dX2_turnAll_40 rfl (by decide) (fun _ => kk) (fun h40 => absurd (nI_le (Nat.le_refl _) (by omega)) h40)) ?_
      refine fin E1 _ _ hN (lf_congr hL (fun i _ k _ => ?_)) hJ
      unfold wokenF wB
      by_cases hi : i < e
      · simp [hi]
      · have : wokeF V S a e q t i = false := by unfold wokeF; simp [hi]
        simp [this]
    · intro k9 E1 hk0 hk9 ⟨hN, hL, hJ⟩ hgo
      have hkl : k9 < vL V := by omega
      have hc1 := nc_nf hN hc
      have okn1 := hc1.1
      have hsl := sh_li (show k9 < 7 by omega)
      have h88 : 88 + k9 < 137 := by omega
      have hli := c_X2_lierIn (d := d + 2) (x := nI k9) okn1 hc1.2.1.1 v2
      rw [liId_nI hkl v2] at hli
      have hbw := c_X2_canBeWoken (d := d + 1) hc1 hL hkl
      have hat : ∀ k, 2 ≤ k → wokenF (flipF V (nA S) a e t) (wB V S a e q t k9) t k k9 = nA S k k9 := fun k hk => by
        show wokenF _ (fun i => decide (i < k9) && wokeF V S a e q t i) t k k9 = _
        rw [woken_at, flip_23 hk]
      rw [awk_congr (hat 2 (by omega))] at hbw
      obtain ⟨_, ⟨Ew, rfl, hNw, hIw, hAw⟩, hwk⟩ := c_X2_wakes (d := d) (g := (nG S).length) hc1 hL ((hJ.2.1 264 (by decide)).trans r1) hkl hq
      rw [wak_congr (hat 3 (by omega))] at hwk
      have hNw2 := nf_tr hN hNw
      have hLw : LF Ew (vL V) (wokenF (flipF V (nA S) a e t) (wB V S a e q t k9) t) := fun i hi k hk => (hIw _ _).trans (hL i hi k hk)
      have hJw : J80 E Ew (cntF (wokeF V S a e q t) a (k9 - a)) := ⟨(hIw _ _).trans hJ.1, fun g hg => (hIw _ _).trans (hJ.2.1 g hg), (hAw 85 (by omega) (by omega)).trans hJ.2.2⟩
      have hno : wokeF V S a e q t k9 = false → ∀ E2, NF b E E2 → LF E2 (vL V) (wokenF (flipF V (nA S) a e t) (wB V S a e q t k9) t) → J80 E E2 (cntF (wokeF V S a e q t) a (k9 - a)) → ∀ x7, Sx mX2_turnAll (d + 3) 0 0 (fun o => ∃ E2, o = (.inl none, E2, 137) ∧ NF b E E2 ∧ NR E2 V (turnF V S a e q w t)) 37 [some (.ref 80), some (.int (nI a)), some (.int (nI e)), some (.ref (88 + q)), some (.int w), some (.int (gI E 265 80)), some (.int (nI (k9 + 1))), x7] [] E2 137 := by
        intro hz E2 a1 a2 a3 x7
        refine Sx.less (ls := [some (.ref 80), some (.int (nI a)), some (.int (nI e)), some (.ref (88 + q)), some (.int w), some (.int (gI E 265 80)), some (.int (nI (k9 + 1))), none]) ⟨rfl, rfl, rfl, rfl, rfl, rfl, rfl, trivial⟩ (hgo _ ⟨a1, lf_congr a2 (fun i _ k _ => woken_no hz k i), ?_⟩)
        rw [cntF_s hk0, hz]
        exact a3
      have hwo : wokeF V S a e q t k9 = (decide (¬ k9 = q) && canF V k9 && !awkF V (nA S) k9 t && wakF V (nA S) (nG S).length k9 q t) := by
        unfold wokeF
        have h1 : (a ≤ k9 ∧ k9 < e ∧ ¬ k9 = q) = (¬ k9 = q) := propext ⟨fun z => z.2.2, fun z => ⟨hk0, hk9, z⟩⟩
        simp only [h1]
      refine Sx.up (fun _ kk => r_iload 39 dX2_turnAll_37 rfl rfl kk) ?_
      refine Sx.up (fun _ kk => r_iload_n 40 dX2_turnAll_39 rfl rfl kk) ?_
      refine Sx.up (fun _ kk => r_icmp_ge 43 88 dX2_turnAll_40 rfl (by decide) (fun h40 => absurd h40 (nI_ge hk9 (by omega))) (fun _ => kk)) ?_
      refine Sx.up (fun _ kk => r_aload_n 44 dX2_turnAll_43 rfl rfl kk) ?_
      refine Sx.up (fun _ kk => r_iload 46 dX2_turnAll_44 rfl rfl kk) ?_
      refine Sx.up (fun _ kk => r_callV (M := mX2_turnAll) (pc := 46) 49 dX2_turnAll_46 rfl k2_98 hli rfl rfl (by first | with_reducible assumption | exact Nat.le_of_ble_eq_true rfl | with_reducible exact bo_1 n10 | with_reducible exact bo_n n10 | with_reducible exact ro_1 p4 | with_reducible exact ro_6 p4 | with_reducible exact ro_1 p5 | with_reducible exact ro_6 p5 | with_reducible exact ro_1 n8 | with_reducible exact ro_6 n8 | with_reducible exact ro_1 n9 | with_reducible exact ro_6 n9 | rfl | (exact sr_gR hN.1 (by with_reducible assumption)) | omega) (by decide) rfl (by first | with_reducible assumption | exact Nat.le_of_ble_eq_true rfl | with_reducible exact bo_1 n10 | with_reducible exact bo_n n10 | with_reducible exact ro_1 p4 | with_reducible exact ro_6 p4 | with_reducible exact ro_1 p5 | with_reducible exact ro_6 p5 | with_reducible exact ro_1 n8 | with_reducible exact ro_6 n8 | with_reducible exact ro_1 n9 | with_reducible exact ro_6 n9 | rfl | (exact sr_gR hN.1 (by with_reducible assumption)) | omega) (Nat.le_of_ble_eq_true rfl) kk) ?_
      refine Sx.up (fun _ kk => r_astore 51 dX2_turnAll_49 rfl (by decide) rfl kk) ?_
      refine Sx.up (fun _ kk => r_aload 53 dX2_turnAll_51 rfl rfl kk) ?_
      refine Sx.up (fun _ kk => r_aload_n 54 dX2_turnAll_53 rfl rfl kk) ?_
      refine Sx.br (fun _ ka kb => r_acmp_eq 57 82 dX2_turnAll_54 rfl (by decide) (by first | with_reducible assumption | exact Nat.le_of_ble_eq_true rfl | with_reducible exact bo_1 n10 | with_reducible exact bo_n n10 | with_reducible exact ro_1 p4 | with_reducible exact ro_6 p4 | with_reducible exact ro_1 p5 | with_reducible exact ro_6 p5 | with_reducible exact ro_1 n8 | with_reducible exact ro_6 n8 | with_reducible exact ro_1 n9 | with_reducible exact ro_6 n9 | rfl | (exact sr_gR hN.1 (by with_reducible assumption)) | omega) (by first | with_reducible assumption | exact Nat.le_of_ble_eq_true rfl | with_reducible exact bo_1 n10 | with_reducible exact bo_n n10 | with_reducible exact ro_1 p4 | with_reducible exact ro_6 p4 | with_reducible exact ro_1 p5 | with_reducible exact ro_6 p5 | with_reducible exact ro_1 n8 | with_reducible exact ro_6 n8 | with_reducible exact ro_1 n9 | with_reducible exact ro_6 n9 | rfl | (exact sr_gR hN.1 (by with_reducible assumption)) | omega) ka kb) (by first | exact em1 | exact em2) (fun h54 => ?_) (fun h54 => ?_)
      · refine Sx.up (fun _ kk => r_iinc (1) 85 dX2_turnAll_82 rfl rfl (by decide) (by decide) rfl kk) ?_
        refine Sx.up (fun _ kk => r_goto 37 dX2_turnAll_85 (by decide) kk) ?_
        rw [nI_pp]; exact hno (by rw [hwo, decide_eq_false (p := ¬ k9 = q) (fun z => z (by omega))]; rfl) _ hN hL hJ _
      · refine Sx.up (fun _ kk => r_aload_n 58 dX2_turnAll_57 rfl rfl kk) ?_
        refine Sx.up (fun _ kk => r_aload 60 dX2_turnAll_58 rfl rfl kk) ?_
        refine Sx.up (fun _ kk => r_callV (M := mX2_turnAll) (pc := 60) 63 dX2_turnAll_60 rfl k2_165 hbw rfl rfl (by first | with_reducible assumption | exact Nat.le_of_ble_eq_true rfl | with_reducible exact bo_1 n10 | with_reducible exact bo_n n10 | with_reducible exact ro_1 p4 | with_reducible exact ro_6 p4 | with_reducible exact ro_1 p5 | with_reducible exact ro_6 p5 | with_reducible exact ro_1 n8 | with_reducible exact ro_6 n8 | with_reducible exact ro_1 n9 | with_reducible exact ro_6 n9 | rfl | (exact sr_gR hN.1 (by with_reducible assumption)) | omega) (by decide) rfl (by first | with_reducible assumption | exact Nat.le_of_ble_eq_true rfl | with_reducible exact bo_1 n10 | with_reducible exact bo_n n10 | with_reducible exact ro_1 p4 | with_reducible exact ro_6 p4 | with_reducible exact ro_1 p5 | with_reducible exact ro_6 p5 | with_reducible exact ro_1 n8 | with_reducible exact ro_6 n8 | with_reducible exact ro_1 n9 | with_reducible exact ro_6 n9 | rfl | (exact sr_gR hN.1 (by with_reducible assumption)) | omega) (Nat.le_of_ble_eq_true rfl) kk) ?_
        refine Sx.br (fun _ ka kb => r_if_eq 66 82 dX2_turnAll_63 rfl (by decide) ka kb) (by first | exact em1 | exact em2) (fun h63 => ?_) (fun h63 => ?_)
        · refine Sx.up (fun _ kk => r_iinc (1) 85 dX2_turnAll_82 rfl rfl (by decide) (by decide) rfl kk) ?_
          refine Sx.up (fun _ kk => r_goto 37 dX2_turnAll_85 (by decide) kk) ?_
          rw [nI_pp]; exact hno (by rw [hwo, Bool.and_assoc (decide (¬ k9 = q)), b0 h63]; simp) _ hN hL hJ _
        · refine Sx.up (fun _ kk => r_aload_n 67 dX2_turnAll_66 rfl rfl kk) ?_
          refine Sx.up (fun _ kk => r_aload 69 dX2_turnAll_67 rfl rfl kk) ?_
          refine Sx.up (fun _ kk => r_aload_n 70 dX2_turnAll_69 rfl rfl kk) ?_
          refine Sx.up (fun _ kk => r_callV (M := mX2_turnAll) (pc := 70) 73 dX2_turnAll_70 rfl k2_169 hwk rfl rfl (by first | with_reducible assumption | exact Nat.le_of_ble_eq_true rfl | with_reducible exact bo_1 n10 | with_reducible exact bo_n n10 | with_reducible exact ro_1 p4 | with_reducible exact ro_6 p4 | with_reducible exact ro_1 p5 | with_reducible exact ro_6 p5 | with_reducible exact ro_1 n8 | with_reducible exact ro_6 n8 | with_reducible exact ro_1 n9 | with_reducible exact ro_6 n9 | rfl | (exact sr_gR hN.1 (by with_reducible assumption)) | omega) (by decide) rfl (by first | with_reducible assumption | exact Nat.le_of_ble_eq_true rfl | with_reducible exact bo_1 n10 | with_reducible exact bo_n n10 | with_reducible exact ro_1 p4 | with_reducible exact ro_6 p4 | with_reducible exact ro_1 p5 | with_reducible exact ro_6 p5 | with_reducible exact ro_1 n8 | with_reducible exact ro_6 n8 | with_reducible exact ro_1 n9 | with_reducible exact ro_6 n9 | rfl | (exact sr_gR hN.1 (by with_reducible assumption)) | omega) (Nat.le_of_ble_eq_true rfl) kk) ?_
          refine Sx.br (fun _ ka kb => r_if_eq 76 82 dX2_turnAll_73 rfl (by decide) ka kb) (by first | exact em1 | exact em2) (fun h73 => ?_) (fun h73 => ?_)
          · refine Sx.up (fun _ kk => r_iinc (1) 85 dX2_turnAll_82 rfl rfl (by decide) (by decide) rfl kk) ?_
            refine Sx.up (fun _ kk => r_goto 37 dX2_turnAll_85 (by decide) kk) ?_
            rw [nI_pp]; exact hno (by rw [hwo, b0 h73]; simp) _ hNw2 hLw hJw _
          · refine Sx.up (fun _ kk => r_aload_n 77 dX2_turnAll_76 rfl rfl kk) ?_
            refine Sx.up (fun _ kk => r_aload 79 dX2_turnAll_77 rfl rfl kk) ?_
            obtain ⟨_, ⟨E2, rfl, hN2, hL2, c1, c2, c3⟩, hcl⟩ := c_X2_wake (d := d + 2) (nc_nf hNw2 hc) hLw hkl
            refine Sx.up (fun _ kk => r_callV (M := mX2_turnAll) (pc := 79) 82 dX2_turnAll_79 rfl k2_173 hcl rfl rfl (by first | with_reducible assumption | exact Nat.le_of_ble_eq_true rfl | with_reducible exact bo_1 n10 | with_reducible exact bo_n n10 | with_reducible exact ro_1 p4 | with_reducible exact ro_6 p4 | with_reducible exact ro_1 p5 | with_reducible exact ro_6 p5 | with_reducible exact ro_1 n8 | with_reducible exact ro_6 n8 | with_reducible exact ro_1 n9 | with_reducible exact ro_6 n9 | rfl | (exact sr_gR hN.1 (by with_reducible assumption)) | omega) (by decide) rfl (by first | with_reducible assumption | exact Nat.le_of_ble_eq_true rfl | with_reducible exact bo_1 n10 | with_reducible exact bo_n n10 | with_reducible exact ro_1 p4 | with_reducible exact ro_6 p4 | with_reducible exact ro_1 p5 | with_reducible exact ro_6 p5 | with_reducible exact ro_1 n8 | with_reducible exact ro_6 n8 | with_reducible exact ro_1 n9 | with_reducible exact ro_6 n9 | rfl | (exact sr_gR hN.1 (by with_reducible assumption)) | omega) (Nat.le_of_ble_eq_true rfl) kk) ?_
            refine Sx.up (fun _ kk => r_iinc (1) 85 dX2_turnAll_82 rfl rfl (by decide) (by decide) rfl kk) ?_
            refine Sx.up (fun _ kk => r_goto 37 dX2_turnAll_85 (by decide) kk) ?_
            have hz : wokeF V S a e q t k9 = true := by rw [hwo, Bool.and_assoc (decide (¬ k9 = q)), b1 h63, b1 h73, decide_eq_true (p := ¬ k9 = q) (fun z => h54 (by omega))]; rfl
            rw [nI_pp]
            refine Sx.less (ls := [some (.ref 80), some (.int (nI a)), some (.int (nI e)), some (.ref (88 + q)), some (.int w), some (.int (gI E 265 80)), some (.int (nI (k9 + 1))), none]) ⟨rfl, rfl, rfl, rfl, rfl, rfl, rfl, trivial⟩ (hgo _ ⟨nf_tr hNw2 hN2, lf_congr hL2 (fun i _ k _ => woken_yes hz k i), ?_⟩)
            rw [cntF_s hk0, hz]
            refine ⟨by rw [c1, hJw.1, Int32.add_assoc, nI_pp]; rfl, fun g hg => (c2 g hg).trans (hJw.2.1 g hg), by rw [c3]; exact hJw.2.2⟩
    · show flipF V (nA S) a e t k i = wokenF (flipF V (nA S) a e t) (wB V S a e q t a) t k i
      unfold wokenF wB
      by_cases hi : i < a
      · have : wokeF V S a e q t i = false := by unfold wokeF; simp [show ¬ a ≤ i by omega]
        simp [this]
      · simp [hi]
  have loop1 := sxUp (S := fun k9 E1 => Sx mX2_turnAll (d + 3) 0 0 (fun o => ∃ E2, o = (.inl none, E2, 137) ∧ NF b E E2 ∧ NR E2 V (turnF V S a e q w t)) 3 [some (.ref 80), some (.int (nI a)), some (.int (nI e)), some (.ref (88 + q)), some (.int w), some (.int (nI k9)), none, none] [] E1 137) (Inv := fun k9 E1 => NF b E E1 ∧ LF E1 (vL V) (flipF V (nA S) a k9 t) ∧ K80 E E1) (a := a) (l := e) hae ?_ ?_ E ⟨nf_rfl, lf_congr r5 (fun i _ k _ => flip_0.symm), fun _ => rfl, rfl⟩
  refine Sx.up (fun _ kk => r_iload_n 1 dX2_turnAll_0 rfl rfl kk) ?_
  refine Sx.up (fun _ kk => r_istore 3 dX2_turnAll_1 rfl (by decide) rfl kk) ?_
  exact loop1
  · intro E1 ⟨hN, hL, hK⟩
    refine Sx.up (fun _ kk => r_iload 5 dX2_turnAll_3 rfl rfl kk) ?_
    refine Sx.up (fun _ kk => r_iload_n 6 dX2_turnAll_5 rfl rfl kk) ?_
    refine Sx.up (fun _ kk => r_icmp_ge 9 28 dX2_turnAll_6 rfl (by decide) (fun _ => kk) (fun h6 => absurd (nI_le (Nat.le_refl _) (by omega)) h6)) ?_
    refine Sx.up (fun _ kk => r_aload_n 29 dX2_turnAll_28 rfl rfl kk) ?_
    refine Sx.up (fun _ kk => r_getI 32 dX2_turnAll_29 rfl f2_39 rfl (by first | with_reducible assumption | exact Nat.le_of_ble_eq_true rfl | with_reducible exact bo_1 n10 | with_reducible exact bo_n n10 | with_reducible exact ro_1 p4 | with_reducible exact ro_6 p4 | with_reducible exact ro_1 p5 | with_reducible exact ro_6 p5 | with_reducible exact ro_1 n8 | with_reducible exact ro_6 n8 | with_reducible exact ro_1 n9 | with_reducible exact ro_6 n9 | rfl | (exact sr_gR hN.1 (by with_reducible assumption)) | omega) (by first | with_reducible assumption | exact Nat.le_of_ble_eq_true rfl | with_reducible exact bo_1 n10 | with_reducible exact bo_n n10 | with_reducible exact ro_1 p4 | with_reducible exact ro_6 p4 | with_reducible exact ro_1 p5 | with_reducible exact ro_6 p5 | with_reducible exact ro_1 n8 | with_reducible exact ro_6 n8 | with_reducible exact ro_1 n9 | with_reducible exact ro_6 n9 | rfl | (exact sr_gR hN.1 (by with_reducible assumption)) | omega) kk) ?_
    refine Sx.up (fun _ kk => r_istore 34 dX2_turnAll_32 rfl (by decide) rfl kk) ?_
    refine Sx.up (fun _ kk => r_iload_n 35 dX2_turnAll_34 rfl rfl kk) ?_
    refine Sx.up (fun _ kk => r_istore 37 dX2_turnAll_35 rfl (by decide) rfl kk) ?_
    rw [hK.1]
    exact loop2 E1 hN hL hK _
  · intro k9 E1 hk0 hk9 ⟨hN, hL, hK⟩ hgo
    have hkl : k9 < vL V := by omega
    have hc1 := nc_nf hN hc
    have okn1 := hc1.1
    have hsl := sh_li (show k9 < 7 by omega)
    have h88 : 88 + k9 < 137 := by omega
    have hli := c_X2_lierIn (d := d + 2) (x := nI k9) okn1 hc1.2.1.1 v2
    rw [liId_nI hkl v2] at hli
    have hww : sh (wI b V k9) = (8, 0) ∧ wI b V k9 < 137 := who_sh n10 (vA V 0 k9)
    have hto := c_X1_turnOver (d := d + 2) (m := gI E1 263 80) hsl h88 (hc1.2.2.2.2 k9 hkl).1 hww.1 hww.2
    have hkd : gI E1 1024 (wI b V k9) = vA V 1 k9 := (hc1.2.1.2.2.1 k9 hkl).2.1
    refine Sx.up (fun _ kk => r_iload 5 dX2_turnAll_3 rfl rfl kk) ?_
    refine Sx.up (fun _ kk => r_iload_n 6 dX2_turnAll_5 rfl rfl kk) ?_
    refine Sx.up (fun _ kk => r_icmp_ge 9 28 dX2_turnAll_6 rfl (by decide) (fun h6 => absurd h6 (nI_ge hk9 (by omega))) (fun _ => kk)) ?_
    refine Sx.up (fun _ kk => r_aload_n 10 dX2_turnAll_9 rfl rfl kk) ?_
    refine Sx.up (fun _ kk => r_iload 12 dX2_turnAll_10 rfl rfl kk) ?_
    refine Sx.up (fun _ kk => r_callV (M := mX2_turnAll) (pc := 12) 15 dX2_turnAll_12 rfl k2_98 hli rfl rfl (by first | with_reducible assumption | exact Nat.le_of_ble_eq_true rfl | with_reducible exact bo_1 n10 | with_reducible exact bo_n n10 | with_reducible exact ro_1 p4 | with_reducible exact ro_6 p4 | with_reducible exact ro_1 p5 | with_reducible exact ro_6 p5 | with_reducible exact ro_1 n8 | with_reducible exact ro_6 n8 | with_reducible exact ro_1 n9 | with_reducible exact ro_6 n9 | rfl | (exact sr_gR hN.1 (by with_reducible assumption)) | omega) (by decide) rfl (by first | with_reducible assumption | exact Nat.le_of_ble_eq_true rfl | with_reducible exact bo_1 n10 | with_reducible exact bo_n n10 | with_reducible exact ro_1 p4 | with_reducible exact ro_6 p4 | with_reducible exact ro_1 p5 | with_reducible exact ro_6 p5 | with_reducible exact ro_1 n8 | with_reducible exact ro_6 n8 | with_reducible exact ro_1 n9 | with_reducible exact ro_6 n9 | rfl | (exact sr_gR hN.1 (by with_reducible assumption)) | omega) (Nat.le_of_ble_eq_true rfl) kk) ?_
    refine Sx.up (fun _ kk => r_aload_n 16 dX2_turnAll_15 rfl rfl kk) ?_
    refine Sx.up (fun _ kk => r_getI 19 dX2_turnAll_16 rfl f2_33 rfl (by first | with_reducible assumption | exact Nat.le_of_ble_eq_true rfl | with_reducible exact bo_1 n10 | with_reducible exact bo_n n10 | with_reducible exact ro_1 p4 | with_reducible exact ro_6 p4 | with_reducible exact ro_1 p5 | with_reducible exact ro_6 p5 | with_reducible exact ro_1 n8 | with_reducible exact ro_6 n8 | with_reducible exact ro_1 n9 | with_reducible exact ro_6 n9 | rfl | (exact sr_gR hN.1 (by with_reducible assumption)) | omega) (by first | with_reducible assumption | exact Nat.le_of_ble_eq_true rfl | with_reducible exact bo_1 n10 | with_reducible exact bo_n n10 | with_reducible exact ro_1 p4 | with_reducible exact ro_6 p4 | with_reducible exact ro_1 p5 | with_reducible exact ro_6 p5 | with_reducible exact ro_1 n8 | with_reducible exact ro_6 n8 | with_reducible exact ro_1 n9 | with_reducible exact ro_6 n9 | rfl | (exact sr_gR hN.1 (by with_reducible assumption)) | omega) kk) ?_
    refine Sx.up (fun _ kk => r_callV (M := mX2_turnAll) (pc := 19) 22 dX2_turnAll_19 rfl k2_162 hto rfl rfl (by first | with_reducible assumption | exact Nat.le_of_ble_eq_true rfl | with_reducible exact bo_1 n10 | with_reducible exact bo_n n10 | with_reducible exact ro_1 p4 | with_reducible exact ro_6 p4 | with_reducible exact ro_1 p5 | with_reducible exact ro_6 p5 | with_reducible exact ro_1 n8 | with_reducible exact ro_6 n8 | with_reducible exact ro_1 n9 | with_reducible exact ro_6 n9 | rfl | (exact sr_gR hN.1 (by with_reducible assumption)) | omega) (by decide) rfl (by first | with_reducible assumption | exact Nat.le_of_ble_eq_true rfl | with_reducible exact bo_1 n10 | with_reducible exact bo_n n10 | with_reducible exact ro_1 p4 | with_reducible exact ro_6 p4 | with_reducible exact ro_1 p5 | with_reducible exact ro_6 p5 | with_reducible exact ro_1 n8 | with_reducible exact ro_6 n8 | with_reducible exact ro_1 n9 | with_reducible exact ro_6 n9 | rfl | (exact sr_gR hN.1 (by with_reducible assumption)) | omega) (Nat.le_of_ble_eq_true rfl) kk) ?_
    refine Sx.up (fun _ kk => r_iinc (1) 25 dX2_turnAll_22 rfl rfl (by decide) (by decide) rfl kk) ?_
    refine Sx.up (fun _ kk => r_goto 3 dX2_turnAll_25 (by decide) kk) ?_
    rw [nI_pp]
    refine hgo _ ?_
    unfold liOver
    rw [hkd]
    by_cases h3 : vA V 1 k9 = 3
    · rw [if_pos h3]
      refine ⟨hN, lf_congr hL (fun i _ k _ => ?_), hK⟩
      rw [flip_s hk0, if_neg (fun z => z.2 h3)]
    · rw [if_neg h3]
      refine ⟨nf_sI (by omega) (nf_sI (by omega) hN), fun i hi k hk => ?_, fun g => ?_, hK.2⟩
      · have h5 := lf_get hL hi
        rw [flip_s hk0]
        simp only [gI_sI]
        by_cases hi9 : i = k9
        · subst hi9
          have e9 : (i = i ∧ ¬ vA V 1 i = 3) = True := by simp [h3]
          simp only [e9, if_true, hc1.2.2.1, h5.1, flip_at]
          match k, hk with
          | 0, _ => simp [h3]
          | 1, _ => simp [h3]
          | 2, _ => simpa [flip_23] using h5.2.2.1
          | 3, _ => simpa [flip_23] using h5.2.2.2.1
          | 4, _ => simpa [flip_23] using h5.2.2.2.2
        · have e1 : ¬ 88 + i = 88 + k9 := by omega
          have e9 : (i = k9 ∧ ¬ vA V 1 k9 = 3) = False := by simp [hi9]
          simp only [e9, e1, and_false, if_false]
          exact hL i hi k hk
      · have e1 : ¬ 80 = 88 + k9 := by omega
        simp only [gI_sI, e1, and_false, if_false]
        exact hK.1 g
