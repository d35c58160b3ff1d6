/-! The model: snorersBeside, wakes, placeOf, groupEnd -/
theorem snF_nI {V : NV} {k : Nat} (hk : k < vL V) (h7 : vL V ≤ 7) : snF V (nI k) = if vA V 1 k = 2 then 1 else 0 := by
  unfold snF
  rw [if_neg (nI_pos (by omega)), if_neg (nI_ge hk (by omega)), nI_clamp (by omega)]
theorem snF_lo {V : NV} : snF V (nI 0 - 1) = 0 := by
  unfold snF
  rw [if_pos (by decide)]
theorem snF_hi {V : NV} {k : Nat} (hk : vL V ≤ k) (h7 : k < 100) : snF V (nI k) = 0 := by
  unfold snF
  rw [if_neg (nI_pos (by omega)), if_pos (nI_le hk (by omega))]
theorem and1_ne {x : Int32} (h : ¬ x &&& 1 = 0) : x &&& 1 = 1 := by
  obtain ⟨j, hj, e⟩ := pk_andE x (m := 1) 1 (by decide)
  rw [e] at h ⊢
  match j, hj with
  | 0, _ => exact absurd rfl h
  | 1, _ => rfl
set_option maxRecDepth 20000 in
theorem c_X12_snorersBeside {d L t p : Nat} {V : NV} {E : HP} (hc : MC E V L t) (hp : p < vL V) : Cl yX12_snorersBeside mX12_snorersBeside (d) 0 0 [.ref 95, .int (nI p)] E 137 (.inl (some (.int (snF V (nI p - 1) + snF V (nI p + 1)))), E, 137) := by
  obtain ⟨hM, hv, hmi, ht6⟩ := id hc
  obtain ⟨v1, v2, v3, v4, v5, v6, v7, v8, v9, v10, v11, v12, v13, v14, v15, v16⟩ := id hv
  refine Cl.of (by decide) rfl (fun q => by cases q) rfl rfl (Nat.le_of_ble_eq_true rfl) ?_
  show Sm _ _ _ _ _ 0 [some (.ref 95), some (.int (nI p))] [] _ _
  cases p with
  | zero =>
    have hlo := snF_lo (V := V)
    by_cases q : 0 + 1 < vL V
    · have hhi : snF V (nI 0 + 1) = if vA V 1 (0 + 1) = 2 then 1 else 0 := by rw [nI_pp]; exact snF_nI q (by omega)
      refine r_iload_n 1 dX12_snorersBeside_0 rfl rfl ?_
      refine r_if_le 4 25 dX12_snorersBeside_1 rfl (by decide) (fun h1 => ?_) (fun h1 => absurd (nI_le (b := 0) (Nat.le_refl _) (by omega)) h1)
      refine r_iconst (0) 26 dX12_snorersBeside_25 rfl (by decide) ?_
      refine r_iload_n 27 dX12_snorersBeside_26 rfl rfl ?_
      refine r_iconst (1) 28 dX12_snorersBeside_27 rfl (by decide) ?_
      refine r_iadd 29 dX12_snorersBeside_28 rfl ?_
      refine r_aload_n 30 dX12_snorersBeside_29 rfl rfl ?_
      refine r_getIV (nI (vL V)) 33 dX12_snorersBeside_30 rfl f12_341 rfl rfl lt95 (v1) ?_
      refine r_icmp_ge 36 57 dX12_snorersBeside_33 rfl (by decide) (fun h33 => absurd h33 (by rw [nI_pp]; exact nI_ge (by omega) (by omega))) (fun h33 => ?_)
      refine r_aload_n 37 dX12_snorersBeside_36 rfl rfl ?_
      refine r_getR 40 dX12_snorersBeside_37 rfl f12_42 rfl rfl lt95 (mo_4 hM) ?_
      refine r_aload_n 41 dX12_snorersBeside_40 rfl rfl ?_
      refine r_getR 44 dX12_snorersBeside_41 rfl f12_90 rfl rfl lt95 (mo_34 hM) ?_
      refine r_iload_n 45 dX12_snorersBeside_44 rfl rfl ?_
      refine r_iconst (1) 46 dX12_snorersBeside_45 rfl (by decide) ?_
      refine r_iadd 47 dX12_snorersBeside_46 rfl ?_
      refine r_ialdN (0 + 1) (nI (oV V (0 + 1))) 48 dX12_snorersBeside_47 rfl rfl (Nat.le_of_ble_eq_true rfl) (nI_pp _) (by omega) (Nat.le_of_ble_eq_true rfl) ((v5 (0 + 1) (by omega)).2.2.1) ?_
      refine r_ialdN (oV V (0 + 1)) (vA V 1 (0 + 1)) 49 dX12_snorersBeside_48 rfl rfl (Nat.le_of_ble_eq_true rfl) (rfl) (by have := (v5 (0 + 1) (by omega)).2.1; omega) (Nat.le_of_ble_eq_true rfl) ((v5 (0 + 1) (by omega)).2.2.2.1) ?_
      refine r_iconst (2) 50 dX12_snorersBeside_49 rfl (by decide) ?_
      refine r_icmp_ne 53 57 dX12_snorersBeside_50 rfl (by decide) (fun h50 => ?_) (fun h50 => ?_)
      · refine r_iconst (0) 58 dX12_snorersBeside_57 rfl (by decide) ?_
        refine r_iadd 59 dX12_snorersBeside_58 rfl ?_
        exact r_iret dX12_snorersBeside_59 rfl rfl (out_eq (by rw [hlo, hhi]; simp [h50]))
      · refine r_iconst (1) 54 dX12_snorersBeside_53 rfl (by decide) ?_
        refine r_goto 58 dX12_snorersBeside_54 (by decide) ?_
        refine r_iadd 59 dX12_snorersBeside_58 rfl ?_
        exact r_iret dX12_snorersBeside_59 rfl rfl (out_eq (by rw [hlo, hhi]; simp [h50]))
    · have hhi : snF V (nI 0 + 1) = 0 := by rw [nI_pp]; exact snF_hi (by omega) (by omega)
      refine r_iload_n 1 dX12_snorersBeside_0 rfl rfl ?_
      refine r_if_le 4 25 dX12_snorersBeside_1 rfl (by decide) (fun h1 => ?_) (fun h1 => absurd (nI_le (b := 0) (Nat.le_refl _) (by omega)) h1)
      refine r_iconst (0) 26 dX12_snorersBeside_25 rfl (by decide) ?_
      refine r_iload_n 27 dX12_snorersBeside_26 rfl rfl ?_
      refine r_iconst (1) 28 dX12_snorersBeside_27 rfl (by decide) ?_
      refine r_iadd 29 dX12_snorersBeside_28 rfl ?_
      refine r_aload_n 30 dX12_snorersBeside_29 rfl rfl ?_
      refine r_getIV (nI (vL V)) 33 dX12_snorersBeside_30 rfl f12_341 rfl rfl lt95 (v1) ?_
      refine r_icmp_ge 36 57 dX12_snorersBeside_33 rfl (by decide) (fun h33 => ?_) (fun h33 => absurd (by rw [nI_pp]; exact nI_le (by omega) (by omega)) h33)
      refine r_iconst (0) 58 dX12_snorersBeside_57 rfl (by decide) ?_
      refine r_iadd 59 dX12_snorersBeside_58 rfl ?_
      exact r_iret dX12_snorersBeside_59 rfl rfl (out_eq (by rw [hlo, hhi]))
  | succ k =>
    have hlo : snF V (nI (k + 1) - 1) = if vA V 1 k = 2 then 1 else 0 := by rw [nI_pred]; exact snF_nI (show k < vL V by omega) (by omega)
    by_cases q : k + 1 + 1 < vL V
    · have hhi : snF V (nI (k + 1) + 1) = if vA V 1 (k + 1 + 1) = 2 then 1 else 0 := by rw [nI_pp]; exact snF_nI q (by omega)
      refine r_iload_n 1 dX12_snorersBeside_0 rfl rfl ?_
      refine r_if_le 4 25 dX12_snorersBeside_1 rfl (by decide) (fun h1 => absurd h1 (nI_nle (by omega) (by omega))) (fun h1 => ?_)
      refine r_aload_n 5 dX12_snorersBeside_4 rfl rfl ?_
      refine r_getR 8 dX12_snorersBeside_5 rfl f12_42 rfl rfl lt95 (mo_4 hM) ?_
      refine r_aload_n 9 dX12_snorersBeside_8 rfl rfl ?_
      refine r_getR 12 dX12_snorersBeside_9 rfl f12_90 rfl rfl lt95 (mo_34 hM) ?_
      refine r_iload_n 13 dX12_snorersBeside_12 rfl rfl ?_
      refine r_iconst (1) 14 dX12_snorersBeside_13 rfl (by decide) ?_
      refine r_isub 15 dX12_snorersBeside_14 rfl ?_
      refine r_ialdN (k) (nI (oV V k)) 16 dX12_snorersBeside_15 rfl rfl (Nat.le_of_ble_eq_true rfl) (nI_pred _) (by omega) (Nat.le_of_ble_eq_true rfl) ((v5 k (by omega)).2.2.1) ?_
      refine r_ialdN (oV V k) (vA V 1 k) 17 dX12_snorersBeside_16 rfl rfl (Nat.le_of_ble_eq_true rfl) (rfl) (by have := (v5 k (by omega)).2.1; omega) (Nat.le_of_ble_eq_true rfl) ((v5 k (by omega)).2.2.2.1) ?_
      refine r_iconst (2) 18 dX12_snorersBeside_17 rfl (by decide) ?_
      refine r_icmp_ne 21 25 dX12_snorersBeside_18 rfl (by decide) (fun h18 => ?_) (fun h18 => ?_)
      · refine r_iconst (0) 26 dX12_snorersBeside_25 rfl (by decide) ?_
        refine r_iload_n 27 dX12_snorersBeside_26 rfl rfl ?_
        refine r_iconst (1) 28 dX12_snorersBeside_27 rfl (by decide) ?_
        refine r_iadd 29 dX12_snorersBeside_28 rfl ?_
        refine r_aload_n 30 dX12_snorersBeside_29 rfl rfl ?_
        refine r_getIV (nI (vL V)) 33 dX12_snorersBeside_30 rfl f12_341 rfl rfl lt95 (v1) ?_
        refine r_icmp_ge 36 57 dX12_snorersBeside_33 rfl (by decide) (fun h33 => absurd h33 (by rw [nI_pp]; exact nI_ge (by omega) (by omega))) (fun h33 => ?_)
        refine r_aload_n 37 dX12_snorersBeside_36 rfl rfl ?_
        refine r_getR 40 dX12_snorersBeside_37 rfl f12_42 rfl rfl lt95 (mo_4 hM) ?_
        refine r_aload_n 41 dX12_snorersBeside_40 rfl rfl ?_
        refine r_getR 44 dX12_snorersBeside_41 rfl f12_90 rfl rfl lt95 (mo_34 hM) ?_
        refine r_iload_n 45 dX12_snorersBeside_44 rfl rfl ?_
        refine r_iconst (1) 46 dX12_snorersBeside_45 rfl (by decide) ?_
        refine r_iadd 47 dX12_snorersBeside_46 rfl ?_
        refine r_ialdN (k + 1 + 1) (nI (oV V (k + 1 + 1))) 48 dX12_snorersBeside_47 rfl rfl (Nat.le_of_ble_eq_true rfl) (nI_pp _) (by omega) (Nat.le_of_ble_eq_true rfl) ((v5 (k + 1 + 1) (by omega)).2.2.1) ?_
        refine r_ialdN (oV V (k + 1 + 1)) (vA V 1 (k + 1 + 1)) 49 dX12_snorersBeside_48 rfl rfl (Nat.le_of_ble_eq_true rfl) (rfl) (by have := (v5 (k + 1 + 1) (by omega)).2.1; omega) (Nat.le_of_ble_eq_true rfl) ((v5 (k + 1 + 1) (by omega)).2.2.2.1) ?_
        refine r_iconst (2) 50 dX12_snorersBeside_49 rfl (by decide) ?_
        refine r_icmp_ne 53 57 dX12_snorersBeside_50 rfl (by decide) (fun h50 => ?_) (fun h50 => ?_)
        · refine r_iconst (0) 58 dX12_snorersBeside_57 rfl (by decide) ?_
          refine r_iadd 59 dX12_snorersBeside_58 rfl ?_
          exact r_iret dX12_snorersBeside_59 rfl rfl (out_eq (by rw [hlo, hhi]; simp [h18, h50]))
        · refine r_iconst (1) 54 dX12_snorersBeside_53 rfl (by decide) ?_
          refine r_goto 58 dX12_snorersBeside_54 (by decide) ?_
          refine r_iadd 59 dX12_snorersBeside_58 rfl ?_
          exact r_iret dX12_snorersBeside_59 rfl rfl (out_eq (by rw [hlo, hhi]; simp [h18, h50]))
      · refine r_iconst (1) 22 dX12_snorersBeside_21 rfl (by decide) ?_
        refine r_goto 26 dX12_snorersBeside_22 (by decide) ?_
        refine r_iload_n 27 dX12_snorersBeside_26 rfl rfl ?_
        refine r_iconst (1) 28 dX12_snorersBeside_27 rfl (by decide) ?_
        refine r_iadd 29 dX12_snorersBeside_28 rfl ?_
        refine r_aload_n 30 dX12_snorersBeside_29 rfl rfl ?_
        refine r_getIV (nI (vL V)) 33 dX12_snorersBeside_30 rfl f12_341 rfl rfl lt95 (v1) ?_
        refine r_icmp_ge 36 57 dX12_snorersBeside_33 rfl (by decide) (fun h33 => absurd h33 (by rw [nI_pp]; exact nI_ge (by omega) (by omega))) (fun h33 => ?_)
        refine r_aload_n 37 dX12_snorersBeside_36 rfl rfl ?_
        refine r_getR 40 dX12_snorersBeside_37 rfl f12_42 rfl rfl lt95 (mo_4 hM) ?_
        refine r_aload_n 41 dX12_snorersBeside_40 rfl rfl ?_
        refine r_getR 44 dX12_snorersBeside_41 rfl f12_90 rfl rfl lt95 (mo_34 hM) ?_
        refine r_iload_n 45 dX12_snorersBeside_44 rfl rfl ?_
        refine r_iconst (1) 46 dX12_snorersBeside_45 rfl (by decide) ?_
        refine r_iadd 47 dX12_snorersBeside_46 rfl ?_
        refine r_ialdN (k + 1 + 1) (nI (oV V (k + 1 + 1))) 48 dX12_snorersBeside_47 rfl rfl (Nat.le_of_ble_eq_true rfl) (nI_pp _) (by omega) (Nat.le_of_ble_eq_true rfl) ((v5 (k + 1 + 1) (by omega)).2.2.1) ?_
        refine r_ialdN (oV V (k + 1 + 1)) (vA V 1 (k + 1 + 1)) 49 dX12_snorersBeside_48 rfl rfl (Nat.le_of_ble_eq_true rfl) (rfl) (by have := (v5 (k + 1 + 1) (by omega)).2.1; omega) (Nat.le_of_ble_eq_true rfl) ((v5 (k + 1 + 1) (by omega)).2.2.2.1) ?_
        refine r_iconst (2) 50 dX12_snorersBeside_49 rfl (by decide) ?_
        refine r_icmp_ne 53 57 dX12_snorersBeside_50 rfl (by decide) (fun h50 => ?_) (fun h50 => ?_)
        · refine r_iconst (0) 58 dX12_snorersBeside_57 rfl (by decide) ?_
          refine r_iadd 59 dX12_snorersBeside_58 rfl ?_
          exact r_iret dX12_snorersBeside_59 rfl rfl (out_eq (by rw [hlo, hhi]; simp [h18, h50]))
        · refine r_iconst (1) 54 dX12_snorersBeside_53 rfl (by decide) ?_
          refine r_goto 58 dX12_snorersBeside_54 (by decide) ?_
          refine r_iadd 59 dX12_snorersBeside_58 rfl ?_
          exact r_iret dX12_snorersBeside_59 rfl rfl (out_eq (by rw [hlo, hhi]; simp [h18, h50]))
    · have hhi : snF V (nI (k + 1) + 1) = 0 := by rw [nI_pp]; exact snF_hi (by omega) (by omega)
      refine r_iload_n 1 dX12_snorersBeside_0 rfl rfl ?_
      refine r_if_le 4 25 dX12_snorersBeside_1 rfl (by decide) (fun h1 => absurd h1 (nI_nle (by omega) (by omega))) (fun h1 => ?_)
      refine r_aload_n 5 dX12_snorersBeside_4 rfl rfl ?_
      refine r_getR 8 dX12_snorersBeside_5 rfl f12_42 rfl rfl lt95 (mo_4 hM) ?_
      refine r_aload_n 9 dX12_snorersBeside_8 rfl rfl ?_
      refine r_getR 12 dX12_snorersBeside_9 rfl f12_90 rfl rfl lt95 (mo_34 hM) ?_
      refine r_iload_n 13 dX12_snorersBeside_12 rfl rfl ?_
      refine r_iconst (1) 14 dX12_snorersBeside_13 rfl (by decide) ?_
      refine r_isub 15 dX12_snorersBeside_14 rfl ?_
      refine r_ialdN (k) (nI (oV V k)) 16 dX12_snorersBeside_15 rfl rfl (Nat.le_of_ble_eq_true rfl) (nI_pred _) (by omega) (Nat.le_of_ble_eq_true rfl) ((v5 k (by omega)).2.2.1) ?_
      refine r_ialdN (oV V k) (vA V 1 k) 17 dX12_snorersBeside_16 rfl rfl (Nat.le_of_ble_eq_true rfl) (rfl) (by have := (v5 k (by omega)).2.1; omega) (Nat.le_of_ble_eq_true rfl) ((v5 k (by omega)).2.2.2.1) ?_
      refine r_iconst (2) 18 dX12_snorersBeside_17 rfl (by decide) ?_
      refine r_icmp_ne 21 25 dX12_snorersBeside_18 rfl (by decide) (fun h18 => ?_) (fun h18 => ?_)
      · refine r_iconst (0) 26 dX12_snorersBeside_25 rfl (by decide) ?_
        refine r_iload_n 27 dX12_snorersBeside_26 rfl rfl ?_
        refine r_iconst (1) 28 dX12_snorersBeside_27 rfl (by decide) ?_
        refine r_iadd 29 dX12_snorersBeside_28 rfl ?_
        refine r_aload_n 30 dX12_snorersBeside_29 rfl rfl ?_
        refine r_getIV (nI (vL V)) 33 dX12_snorersBeside_30 rfl f12_341 rfl rfl lt95 (v1) ?_
        refine r_icmp_ge 36 57 dX12_snorersBeside_33 rfl (by decide) (fun h33 => ?_) (fun h33 => absurd (by rw [nI_pp]; exact nI_le (by omega) (by omega)) h33)
        refine r_iconst (0) 58 dX12_snorersBeside_57 rfl (by decide) ?_
        refine r_iadd 59 dX12_snorersBeside_58 rfl ?_
        exact r_iret dX12_snorersBeside_59 rfl rfl (out_eq (by rw [hlo, hhi]; simp [h18]))
      · refine r_iconst (1) 22 dX12_snorersBeside_21 rfl (by decide) ?_
        refine r_goto 26 dX12_snorersBeside_22 (by decide) ?_
        refine r_iload_n 27 dX12_snorersBeside_26 rfl rfl ?_
        refine r_iconst (1) 28 dX12_snorersBeside_27 rfl (by decide) ?_
        refine r_iadd 29 dX12_snorersBeside_28 rfl ?_
        refine r_aload_n 30 dX12_snorersBeside_29 rfl rfl ?_
        refine r_getIV (nI (vL V)) 33 dX12_snorersBeside_30 rfl f12_341 rfl rfl lt95 (v1) ?_
        refine r_icmp_ge 36 57 dX12_snorersBeside_33 rfl (by decide) (fun h33 => ?_) (fun h33 => absurd (by rw [nI_pp]; exact nI_le (by omega) (by omega)) h33)
        refine r_iconst (0) 58 dX12_snorersBeside_57 rfl (by decide) ?_
        refine r_iadd 59 dX12_snorersBeside_58 rfl ?_
        exact r_iret dX12_snorersBeside_59 rfl rfl (out_eq (by rw [hlo, hhi]; simp [h18]))
set_option maxRecDepth 20000 in
theorem c_X12_wakes {d L t k q g : Nat} {V : NV} {E : HP} {f : Nat → Nat → Int32} (hc : MC E V L t) (hf : MLF E V f) (hg : gI E 1585 95 = nI g) (hk : k < vL V) (hq : q < vL V) : ∃ o, (∃ E2, o = (.inl (some (.int (bI (wakF V f g k q t)))), E2, 137) ∧ MF [] [111, 112] E E2) ∧ Cl yX12_wakes mX12_wakes (d + 2) 0 0 [.ref 95, .int (nI k), .int (nI q)] E 137 o := by
  obtain ⟨hM, hv, hmi, ht6⟩ := id hc
  obtain ⟨v1, v2, v3, v4, v5, v6, v7, v8, v9, v10, v11, v12, v13, v14, v15, v16⟩ := id hv
  obtain ⟨i1, i2, i3, i4, i5, i6, i7, i8, i9, i10⟩ := id (v5 k hk)
  obtain ⟨j1, j2, j3, j4, j5, j6, j7⟩ := id (hf k hk)
  have hk7 : oV V k < 7 := by omega
  refine Cx.of (by decide) rfl (fun q => by cases q) rfl rfl (Nat.le_of_ble_eq_true rfl) ?_
  show Sx _ _ _ _ _ 0 [some (.ref 95), some (.int (nI k)), some (.int (nI q)), none, none] [] _ _
  by_cases hR : vR V = []
  · have h0 : gA E 98 7 = 0 := by rw [v13, hR]; rfl
    refine Sx.up (fun _ kk => r_aload_n 1 dX12_wakes_0 rfl rfl kk) ?_
    refine Sx.up (fun _ kk => r_getR 4 dX12_wakes_1 rfl f12_90 rfl rfl lt95 (mo_34 hM) kk) ?_
    refine Sx.up (fun _ kk => r_iload_n 5 dX12_wakes_4 rfl rfl kk) ?_
    refine Sx.up (fun _ kk => r_ialdN (k) (nI (oV V k)) 6 dX12_wakes_5 rfl rfl (Nat.le_of_ble_eq_true rfl) (rfl) (by omega) (Nat.le_of_ble_eq_true rfl) (i3) kk) ?_
    refine Sx.up (fun _ kk => r_istore_n 7 dX12_wakes_6 rfl (by decide) rfl kk) ?_
    refine Sx.up (fun _ kk => r_iload_n 8 dX12_wakes_7 rfl rfl kk) ?_
    refine Sx.up (fun _ kk => r_iload_n 9 dX12_wakes_8 rfl rfl kk) ?_
    refine Sx.up (fun _ kk => r_isub 10 dX12_wakes_9 rfl kk) ?_
    refine Sx.up (fun _ kk => r_abs 13 dX12_wakes_10 rfl k12_362 (Nat.le_of_ble_eq_true rfl) kk) ?_
    refine Sx.up (fun _ kk => r_istore 15 dX12_wakes_13 rfl (by decide) rfl kk) ?_
    refine Sx.up (fun _ kk => r_aload_n 16 dX12_wakes_15 rfl rfl kk) ?_
    refine Sx.up (fun _ kk => r_getR 19 dX12_wakes_16 rfl f12_38 rfl rfl lt95 (mo_3 hM) kk) ?_
    refine Sx.up (fun _ kk => r_bipush (7) 21 dX12_wakes_19 rfl (by decide) kk) ?_
    refine Sx.up (fun _ kk => r_ialdN (7) (0) 22 dX12_wakes_21 rfl rfl (Nat.le_of_ble_eq_true rfl) (by decide) (Nat.le_of_ble_eq_true rfl) (Nat.le_of_ble_eq_true rfl) (h0) kk) ?_
    refine Sx.up (fun _ kk => r_if_ne 25 42 dX12_wakes_22 rfl (by decide) (fun h22 => absurd h22 (fun z => z rfl)) (fun _ => kk)) ?_
    refine Sx.up (fun _ kk => r_iload 27 dX12_wakes_25 rfl rfl kk) ?_
    refine Sx.up (fun _ kk => r_aload_n 28 dX12_wakes_27 rfl rfl kk) ?_
    refine Sx.up (fun _ kk => r_getR 31 dX12_wakes_28 rfl f12_48 rfl rfl lt95 (mo_6 hM) kk) ?_
    refine Sx.up (fun _ kk => r_iload_n 32 dX12_wakes_31 rfl rfl kk) ?_
    refine Sx.up (fun _ kk => r_ialdN (oV V k) (vA V 4 k) 33 dX12_wakes_32 rfl rfl (Nat.le_of_ble_eq_true rfl) (rfl) (by omega) (Nat.le_of_ble_eq_true rfl) (i7) kk) ?_
    refine Sx.br (fun _ ka kb => r_icmp_gt 36 40 dX12_wakes_33 rfl (by decide) ka kb) (by first | exact em1 | exact em2) (fun h33 => ?_) (fun h33 => ?_)
    · refine Sx.up (fun _ kk => r_iconst (0) 41 dX12_wakes_40 rfl (by decide) kk) ?_
      refine ⟨_, ?_, r_zret dX12_wakes_41 rfl rfl (by decide) rfl⟩
      refine ⟨E, ?_, mf_rfl⟩
      first | exact out_eq (bI_f (fun z => by unfold wakF at z; rw [if_pos hR, decide_eq_true_eq] at z; exact absurd h33 (Int32.not_lt.mpr z))).symm | exact out_eq (bI_t (by unfold wakF; rw [if_pos hR, decide_eq_true_eq]; exact Int32.not_lt.mp h33)).symm
    · refine Sx.up (fun _ kk => r_iconst (1) 37 dX12_wakes_36 rfl (by decide) kk) ?_
      refine Sx.up (fun _ kk => r_goto 41 dX12_wakes_37 (by decide) kk) ?_
      refine ⟨_, ?_, r_zret dX12_wakes_41 rfl rfl (by decide) rfl⟩
      refine ⟨E, ?_, mf_rfl⟩
      first | exact out_eq (bI_f (fun z => by unfold wakF at z; rw [if_pos hR, decide_eq_true_eq] at z; exact absurd h33 (Int32.not_lt.mpr z))).symm | exact out_eq (bI_t (by unfold wakF; rw [if_pos hR, decide_eq_true_eq]; exact Int32.not_lt.mp h33)).symm
  · have h0 : ¬ gA E 98 7 = 0 := by
      rw [v13]
      refine nI_ne0 ?_ (by omega)
      exact List.length_pos_iff.mpr hR
    have hM4 : ∀ x0 x1 x2 x3, MC (sA (sA (sA (sA E 111 0 x0) 111 1 x1) 111 2 x2) 111 3 x3) V L t := fun _ _ _ _ => mc_mf (mf_sA (by decide) (mf_sA (by decide) (mf_sA (by decide) (mf_sA (by decide) mf_rfl)))) hc
    obtain ⟨x0, e0⟩ : ∃ x, vA V 4 k = x := ⟨_, rfl⟩
    obtain ⟨x1, e1⟩ : ∃ x, offF k q = x := ⟨_, rfl⟩
    obtain ⟨x3, e3⟩ : ∃ x, nI t / 60 = x := ⟨_, rfl⟩
    obtain ⟨x4, e4⟩ : ∃ x, snF V (nI k - 1) + snF V (nI k + 1) = x := ⟨_, rfl⟩
    obtain ⟨x5, e5⟩ : ∃ x, nI (vL V) - 1 - nI k = x := ⟨_, rfl⟩
    have hsn := c_X12_snorersBeside (d := d + 1) (hM4 x0 x1 (nI g) x3) hk
    rw [e4] at hsn
    have hF7 : MF [] [111, 112] E (sA (sA (sA (sA (sA (sA (sA E 111 0 x0) 111 1 x1) 111 2 (nI g)) 111 3 x3) 111 4 x4) 111 5 x5) 111 6 (f 3 k)) := mf_sA (by decide) (mf_sA (by decide) (mf_sA (by decide) (mf_sA (by decide) (mf_sA (by decide) (mf_sA (by decide) (mf_sA (by decide) mf_rfl))))))
    obtain ⟨_, ⟨E2, rfl, hF2⟩, hcl⟩ := c_X12_valueNow (d := d) (R := vR V) (mf_mo hF7 hM) ((by rw [mf_gA hF7 (by decide)]; exact v13)) v14 (fun i hi => by rw [mf_gA hF7 (by decide)]; exact v15 i hi) (v16.resolve_left hR)
    have hev := evalS_congr (f := gA (sA (sA (sA (sA (sA (sA (sA E 111 0 x0) 111 1 x1) 111 2 (nI g)) 111 3 x3) 111 4 x4) 111 5 x5) 111 6 (f 3 k)) 111) (g := valF V f g k q t) (fun j hj => by
      match j, hj with
      | 0, _ => simp [gA_sA, valF, e0]
      | 1, _ => simp [gA_sA, valF, e1]
      | 2, _ => simp [gA_sA, valF]
      | 3, _ => simp [gA_sA, valF, e3]
      | 4, _ => simp [gA_sA, valF, e4]
      | 5, _ => simp [gA_sA, valF, e5]
      | 6, _ => simp [gA_sA, valF]) (vR V) []
    rw [hev] at hcl
    refine Sx.up (fun _ kk => r_aload_n 1 dX12_wakes_0 rfl rfl kk) ?_
    refine Sx.up (fun _ kk => r_getR 4 dX12_wakes_1 rfl f12_90 rfl rfl lt95 (mo_34 hM) kk) ?_
    refine Sx.up (fun _ kk => r_iload_n 5 dX12_wakes_4 rfl rfl kk) ?_
    refine Sx.up (fun _ kk => r_ialdN (k) (nI (oV V k)) 6 dX12_wakes_5 rfl rfl (Nat.le_of_ble_eq_true rfl) (rfl) (by omega) (Nat.le_of_ble_eq_true rfl) (i3) kk) ?_
    refine Sx.up (fun _ kk => r_istore_n 7 dX12_wakes_6 rfl (by decide) rfl kk) ?_
    refine Sx.up (fun _ kk => r_iload_n 8 dX12_wakes_7 rfl rfl kk) ?_
    refine Sx.up (fun _ kk => r_iload_n 9 dX12_wakes_8 rfl rfl kk) ?_
    refine Sx.up (fun _ kk => r_isub 10 dX12_wakes_9 rfl kk) ?_
    refine Sx.up (fun _ kk => r_abs 13 dX12_wakes_10 rfl k12_362 (Nat.le_of_ble_eq_true rfl) kk) ?_
    show Sx _ _ _ _ _ 13 _ [.int (offF k q)] _ _
    rw [e1]
    refine Sx.up (fun _ kk => r_istore 15 dX12_wakes_13 rfl (by decide) rfl kk) ?_
    refine Sx.up (fun _ kk => r_aload_n 16 dX12_wakes_15 rfl rfl kk) ?_
    refine Sx.up (fun _ kk => r_getR 19 dX12_wakes_16 rfl f12_38 rfl rfl lt95 (mo_3 hM) kk) ?_
    refine Sx.up (fun _ kk => r_bipush (7) 21 dX12_wakes_19 rfl (by decide) kk) ?_
    refine Sx.up (fun _ kk => r_ialdN (7) (_) 22 dX12_wakes_21 rfl rfl (Nat.le_of_ble_eq_true rfl) (by decide) (Nat.le_of_ble_eq_true rfl) (Nat.le_of_ble_eq_true rfl) (rfl) kk) ?_
    refine Sx.up (fun _ kk => r_if_ne 25 42 dX12_wakes_22 rfl (by decide) (fun _ => kk) (fun h22 => absurd h22 h0)) ?_
    refine Sx.up (fun _ kk => r_aload_n 43 dX12_wakes_42 rfl rfl kk) ?_
    refine Sx.up (fun _ kk => r_getR 46 dX12_wakes_43 rfl f12_84 rfl rfl lt95 (mo_32 hM) kk) ?_
    refine Sx.up (fun _ kk => r_iconst (0) 47 dX12_wakes_46 rfl (by decide) kk) ?_
    refine Sx.up (fun _ kk => r_aload_n 48 dX12_wakes_47 rfl rfl kk) ?_
    refine Sx.up (fun _ kk => r_getR 51 dX12_wakes_48 rfl f12_48 rfl rfl lt95 (mo_6 hM) kk) ?_
    refine Sx.up (fun _ kk => r_iload_n 52 dX12_wakes_51 rfl rfl kk) ?_
    refine Sx.up (fun _ kk => r_ialdN (oV V k) (x0) 53 dX12_wakes_52 rfl rfl (Nat.le_of_ble_eq_true rfl) (rfl) (by omega) (Nat.le_of_ble_eq_true rfl) (i7.trans e0) kk) ?_
    refine Sx.up (fun _ kk => r_iastN (0) 54 dX12_wakes_53 rfl rfl (Nat.le_of_ble_eq_true rfl) (by decide) (Nat.le_of_ble_eq_true rfl) (Nat.le_of_ble_eq_true rfl) kk) ?_
    refine Sx.up (fun _ kk => r_aload_n 55 dX12_wakes_54 rfl rfl kk) ?_
    refine Sx.up (fun _ kk => r_getR 58 dX12_wakes_55 rfl f12_84 rfl rfl lt95 (mo_32 hM) kk) ?_
    refine Sx.up (fun _ kk => r_iconst (1) 59 dX12_wakes_58 rfl (by decide) kk) ?_
    refine Sx.up (fun _ kk => r_iload 61 dX12_wakes_59 rfl rfl kk) ?_
    refine Sx.up (fun _ kk => r_iastN (1) 62 dX12_wakes_61 rfl rfl (Nat.le_of_ble_eq_true rfl) (by decide) (Nat.le_of_ble_eq_true rfl) (Nat.le_of_ble_eq_true rfl) kk) ?_
    refine Sx.up (fun _ kk => r_aload_n 63 dX12_wakes_62 rfl rfl kk) ?_
    refine Sx.up (fun _ kk => r_getR 66 dX12_wakes_63 rfl f12_84 rfl rfl lt95 (mo_32 hM) kk) ?_
    refine Sx.up (fun _ kk => r_iconst (2) 67 dX12_wakes_66 rfl (by decide) kk) ?_
    refine Sx.up (fun _ kk => r_aload_n 68 dX12_wakes_67 rfl rfl kk) ?_
    refine Sx.up (fun _ kk => r_getIV (nI g) 71 dX12_wakes_68 rfl f12_365 rfl rfl lt95 (hg) kk) ?_
    refine Sx.up (fun _ kk => r_iastN (2) 72 dX12_wakes_71 rfl rfl (Nat.le_of_ble_eq_true rfl) (by decide) (Nat.le_of_ble_eq_true rfl) (Nat.le_of_ble_eq_true rfl) kk) ?_
    refine Sx.up (fun _ kk => r_aload_n 73 dX12_wakes_72 rfl rfl kk) ?_
    refine Sx.up (fun _ kk => r_getR 76 dX12_wakes_73 rfl f12_84 rfl rfl lt95 (mo_32 hM) kk) ?_
    refine Sx.up (fun _ kk => r_iconst (3) 77 dX12_wakes_76 rfl (by decide) kk) ?_
    refine Sx.up (fun _ kk => r_aload_n 78 dX12_wakes_77 rfl rfl kk) ?_
    refine Sx.up (fun _ kk => r_getIV (nI t) 81 dX12_wakes_78 rfl f12_359 rfl rfl lt95 (hmi) kk) ?_
    refine Sx.up (fun _ kk => r_bipush (60) 83 dX12_wakes_81 rfl (by decide) kk) ?_
    refine Sx.up (fun _ kk => r_idiv 84 dX12_wakes_83 rfl (by first | with_reducible assumption | rfl | decide | omega) kk) ?_
    rw [e3]
    refine Sx.up (fun _ kk => r_iastN (3) 85 dX12_wakes_84 rfl rfl (Nat.le_of_ble_eq_true rfl) (by decide) (Nat.le_of_ble_eq_true rfl) (Nat.le_of_ble_eq_true rfl) kk) ?_
    refine Sx.up (fun _ kk => r_aload_n 86 dX12_wakes_85 rfl rfl kk) ?_
    refine Sx.up (fun _ kk => r_getR 89 dX12_wakes_86 rfl f12_84 rfl rfl lt95 (mo_32 hM) kk) ?_
    refine Sx.up (fun _ kk => r_iconst (4) 90 dX12_wakes_89 rfl (by decide) kk) ?_
    refine Sx.up (fun _ kk => r_aload_n 91 dX12_wakes_90 rfl rfl kk) ?_
    refine Sx.up (fun _ kk => r_iload_n 92 dX12_wakes_91 rfl rfl kk) ?_
    refine Sx.up (fun _ kk => r_callV (M := mX12_wakes) (pc := 92) 95 dX12_wakes_92 rfl k12_367 hsn rfl rfl rfl (by decide) rfl lt95 (Nat.le_of_ble_eq_true rfl) kk) ?_
    refine Sx.up (fun _ kk => r_iastN (4) 96 dX12_wakes_95 rfl rfl (Nat.le_of_ble_eq_true rfl) (by decide) (Nat.le_of_ble_eq_true rfl) (Nat.le_of_ble_eq_true rfl) kk) ?_
    refine Sx.up (fun _ kk => r_aload_n 97 dX12_wakes_96 rfl rfl kk) ?_
    refine Sx.up (fun _ kk => r_getR 100 dX12_wakes_97 rfl f12_84 rfl rfl lt95 (mo_32 hM) kk) ?_
    refine Sx.up (fun _ kk => r_iconst (5) 101 dX12_wakes_100 rfl (by decide) kk) ?_
    refine Sx.up (fun _ kk => r_aload_n 102 dX12_wakes_101 rfl rfl kk) ?_
    refine Sx.up (fun _ kk => r_getIV (nI (vL V)) 105 dX12_wakes_102 rfl f12_341 rfl rfl lt95 (v1) kk) ?_
    refine Sx.up (fun _ kk => r_iconst (1) 106 dX12_wakes_105 rfl (by decide) kk) ?_
    refine Sx.up (fun _ kk => r_isub 107 dX12_wakes_106 rfl kk) ?_
    refine Sx.up (fun _ kk => r_iload_n 108 dX12_wakes_107 rfl rfl kk) ?_
    refine Sx.up (fun _ kk => r_isub 109 dX12_wakes_108 rfl kk) ?_
    rw [e5]
    refine Sx.up (fun _ kk => r_iastN (5) 110 dX12_wakes_109 rfl rfl (Nat.le_of_ble_eq_true rfl) (by decide) (Nat.le_of_ble_eq_true rfl) (Nat.le_of_ble_eq_true rfl) kk) ?_
    refine Sx.up (fun _ kk => r_aload_n 111 dX12_wakes_110 rfl rfl kk) ?_
    refine Sx.up (fun _ kk => r_getR 114 dX12_wakes_111 rfl f12_84 rfl rfl lt95 (mo_32 hM) kk) ?_
    refine Sx.up (fun _ kk => r_bipush (6) 116 dX12_wakes_114 rfl (by decide) kk) ?_
    refine Sx.up (fun _ kk => r_aload_n 117 dX12_wakes_116 rfl rfl kk) ?_
    refine Sx.up (fun _ kk => r_getR 120 dX12_wakes_117 rfl f12_105 rfl rfl lt95 (mo_39 hM) kk) ?_
    refine Sx.up (fun _ kk => r_iload_n 121 dX12_wakes_120 rfl rfl kk) ?_
    refine Sx.up (fun _ kk => r_ialdN (oV V k) (f 3 k) 122 dX12_wakes_121 rfl rfl (Nat.le_of_ble_eq_true rfl) (rfl) (hk7) (Nat.le_of_ble_eq_true rfl) (by first | exact j6 | (simp only [gA_sA, Nat.reduceEqDiff, false_and, if_false]; exact j6)) kk) ?_
    refine Sx.up (fun _ kk => r_iastN (6) 123 dX12_wakes_122 rfl rfl (Nat.le_of_ble_eq_true rfl) (by decide) (Nat.le_of_ble_eq_true rfl) (Nat.le_of_ble_eq_true rfl) kk) ?_
    refine Sx.up (fun _ kk => r_aload_n 124 dX12_wakes_123 rfl rfl kk) ?_
    refine Sx.up (fun _ kk => r_callV (M := mX12_wakes) (pc := 124) 127 dX12_wakes_124 rfl k12_370 hcl rfl rfl rfl (by decide) rfl lt95 (Nat.le_of_ble_eq_true rfl) kk) ?_
    refine Sx.br (fun _ ka kb => r_if_eq 130 134 dX12_wakes_127 rfl (by decide) ka kb) (by first | exact em1 | exact em2) (fun h127 => ?_) (fun h127 => ?_)
    · refine Sx.up (fun _ kk => r_iconst (0) 135 dX12_wakes_134 rfl (by decide) kk) ?_
      refine ⟨_, ?_, r_zret dX12_wakes_135 rfl rfl (by decide) rfl⟩
      refine ⟨E2, ?_, mf_tr hF7 (mf_mono hF2 (by decide) (by decide))⟩
      first | exact out_eq (bI_f (fun z => by unfold wakF at z; rw [if_neg hR, decide_eq_true_eq] at z; exact absurd h127 z)).symm | exact out_eq (bI_t (by unfold wakF; rw [if_neg hR, decide_eq_true_eq]; exact h127)).symm
    · refine Sx.up (fun _ kk => r_iconst (1) 131 dX12_wakes_130 rfl (by decide) kk) ?_
      refine Sx.up (fun _ kk => r_goto 135 dX12_wakes_131 (by decide) kk) ?_
      refine ⟨_, ?_, r_zret dX12_wakes_135 rfl rfl (by decide) rfl⟩
      refine ⟨E2, ?_, mf_tr hF7 (mf_mono hF2 (by decide) (by decide))⟩
      first | exact out_eq (bI_f (fun z => by unfold wakF at z; rw [if_neg hR, decide_eq_true_eq] at z; exact absurd h127 z)).symm | exact out_eq (bI_t (by unfold wakF; rw [if_neg hR, decide_eq_true_eq]; exact h127)).symm
set_option maxRecDepth 20000 in
theorem c_X12_placeOf {d L t p : Nat} {V : NV} {E : HP} (hc : MC E V L t) (hp : p < vL V) : Cl yX12_placeOf mX12_placeOf (d) 0 0 [.ref 95, .int (nI (oV V p))] E 137 (.inl (some (.int (nI p))), E, 137) := by
  obtain ⟨hM, hv, hmi, ht6⟩ := id hc
  obtain ⟨v1, v2, v3, v4, v5, v6, v7, v8, v9, v10, v11, v12, v13, v14, v15, v16⟩ := id hv
  refine Cl.of (by decide) rfl (fun q => by cases q) rfl rfl (Nat.le_of_ble_eq_true rfl) ?_
  show Sm _ _ _ _ _ 0 [some (.ref 95), some (.int (nI (oV V p))), none] [] _ _
  have loop := loopUp (P := fun k9 => Sm mX12_placeOf d 0 0 (.inl (some (.int (nI p))), E, 137) 2 [some (.ref 95), some (.int (nI (oV V p))), some (.int (nI k9))] [] E 137) (l := p) ?_ ?_
  refine r_iconst (0) 1 dX12_placeOf_0 rfl (by decide) ?_
  refine r_istore_n 2 dX12_placeOf_1 rfl (by decide) rfl ?_
  exact loop
  · show Sm _ _ _ _ _ 2 _ _ _ _
    refine r_iload_n 3 dX12_placeOf_2 rfl rfl ?_
    refine r_aload_n 4 dX12_placeOf_3 rfl rfl ?_
    refine r_getIV (nI (vL V)) 7 dX12_placeOf_4 rfl f12_341 rfl rfl lt95 (v1) ?_
    refine r_icmp_ge 10 26 dX12_placeOf_7 rfl (by decide) (fun h7 => absurd h7 (nI_ge hp (by omega))) (fun h7 => ?_)
    refine r_aload_n 11 dX12_placeOf_10 rfl rfl ?_
    refine r_getR 14 dX12_placeOf_11 rfl f12_90 rfl rfl lt95 (mo_34 hM) ?_
    refine r_iload_n 15 dX12_placeOf_14 rfl rfl ?_
    refine r_ialdN (p) (nI (oV V p)) 16 dX12_placeOf_15 rfl rfl (Nat.le_of_ble_eq_true rfl) (rfl) (by omega) (Nat.le_of_ble_eq_true rfl) ((v5 p hp).2.2.1) ?_
    refine r_iload_n 17 dX12_placeOf_16 rfl rfl ?_
    refine r_icmp_eq 20 26 dX12_placeOf_17 rfl (by decide) (fun h17 => ?_) (fun h17 => absurd rfl h17)
    refine r_iload_n 27 dX12_placeOf_26 rfl rfl ?_
    exact r_iret dX12_placeOf_27 rfl rfl (rfl)
  · intro k9 hk9 hq
    show Sm _ _ _ _ _ 2 _ _ _ _
    have hne : ¬ nI (oV V k9) = nI (oV V p) := fun z => by
      have h1 := (nI_eq (by have := (v5 k9 (by omega)).2.1; omega) (by have := (v5 p hp).2.1; omega)).mp z
      have := v6 k9 p (by omega) hp h1
      omega
    refine r_iload_n 3 dX12_placeOf_2 rfl rfl ?_
    refine r_aload_n 4 dX12_placeOf_3 rfl rfl ?_
    refine r_getIV (nI (vL V)) 7 dX12_placeOf_4 rfl f12_341 rfl rfl lt95 (v1) ?_
    refine r_icmp_ge 10 26 dX12_placeOf_7 rfl (by decide) (fun h7 => absurd h7 (nI_ge (show k9 < vL V by omega) (by omega))) (fun h7 => ?_)
    refine r_aload_n 11 dX12_placeOf_10 rfl rfl ?_
    refine r_getR 14 dX12_placeOf_11 rfl f12_90 rfl rfl lt95 (mo_34 hM) ?_
    refine r_iload_n 15 dX12_placeOf_14 rfl rfl ?_
    refine r_ialdN (k9) (nI (oV V k9)) 16 dX12_placeOf_15 rfl rfl (Nat.le_of_ble_eq_true rfl) (rfl) (by omega) (Nat.le_of_ble_eq_true rfl) ((v5 k9 (by omega)).2.2.1) ?_
    refine r_iload_n 17 dX12_placeOf_16 rfl rfl ?_
    refine r_icmp_eq 20 26 dX12_placeOf_17 rfl (by decide) (fun h17 => absurd h17 hne) (fun h17 => ?_)
    refine r_iinc (1) 23 dX12_placeOf_20 rfl rfl (by decide) (by decide) rfl ?_
    refine r_goto 2 dX12_placeOf_23 (by decide) ?_
    rw [nI_pp]
    exact hq
/-- the next place behind a at which a group ends -/
theorem split_end {V : NV} : splitF V (vL V) = true := by unfold splitF; simp
set_option maxRecDepth 20000 in
theorem c_X12_groupEnd {d L t a : Nat} {V : NV} {E : HP} (hc : MC E V L t) (ha : a < vL V) : ∃ o, (∃ e, o = (.inl (some (.int (nI e))), E, 137) ∧ a < e ∧ e ≤ vL V ∧ splitF V e = true ∧ (∀ j, a < j → j < e → splitF V j = false)) ∧ Cl yX12_groupEnd mX12_groupEnd (d) 0 0 [.ref 95, .int (nI a)] E 137 o := by
  obtain ⟨hM, hv, hmi, ht6⟩ := id hc
  obtain ⟨v1, v2, v3, v4, v5, v6, v7, v8, v9, v10, v11, v12, v13, v14, v15, v16⟩ := id hv
  refine Cx.of (by decide) rfl (fun q => by cases q) rfl rfl (Nat.le_of_ble_eq_true rfl) ?_
  show Sx _ _ _ _ _ 0 [some (.ref 95), some (.int (nI a)), none] [] _ _
  have loop := sxUp (σ := Unit) (S := fun k9 _ => Sx mX12_groupEnd d 0 0 (fun o => ∃ e, o = (.inl (some (.int (nI e))), E, 137) ∧ a < e ∧ e ≤ vL V ∧ splitF V e = true ∧ (∀ j, a < j → j < e → splitF V j = false)) 4 [some (.ref 95), some (.int (nI a)), some (.int (nI k9))] [] E 137) (Inv := fun k9 _ => ∀ j, a < j → j < k9 → splitF V j = false) (a := a + 1) (l := vL V) (by omega) ?_ ?_ ()
  refine Sx.up (fun _ kk => r_iload_n 1 dX12_groupEnd_0 rfl rfl kk) ?_
  refine Sx.up (fun _ kk => r_iconst (1) 2 dX12_groupEnd_1 rfl (by decide) kk) ?_
  refine Sx.up (fun _ kk => r_iadd 3 dX12_groupEnd_2 rfl kk) ?_
  refine Sx.up (fun _ kk => r_istore_n 4 dX12_groupEnd_3 rfl (by decide) rfl kk) ?_
  rw [nI_pp]
  exact loop (fun j h1 h2 => absurd h2 (by omega))
  · intro _ hi
    refine Sx.up (fun _ kk => r_iload_n 5 dX12_groupEnd_4 rfl rfl kk) ?_
    refine Sx.up (fun _ kk => r_aload_n 6 dX12_groupEnd_5 rfl rfl kk) ?_
    refine Sx.up (fun _ kk => r_getIV (nI (vL V)) 9 dX12_groupEnd_6 rfl f12_341 rfl rfl lt95 (v1) kk) ?_
    refine Sx.up (fun _ kk => r_icmp_ge 12 36 dX12_groupEnd_9 rfl (by decide) (fun _ => kk) (fun h9 => absurd (nI_le (Nat.le_refl _) (by omega)) h9)) ?_
    refine Sx.up (fun _ kk => r_iload_n 37 dX12_groupEnd_36 rfl rfl kk) ?_
    refine ⟨_, ?_, r_iret dX12_groupEnd_37 rfl rfl rfl⟩
    exact ⟨vL V, rfl, ha, Nat.le_refl _, split_end, hi⟩
  · intro k9 _ hk1 hk2 hi hq
    have hne : ¬ k9 = vL V := by omega
    refine Sx.up (fun _ kk => r_iload_n 5 dX12_groupEnd_4 rfl rfl kk) ?_
    refine Sx.up (fun _ kk => r_aload_n 6 dX12_groupEnd_5 rfl rfl kk) ?_
    refine Sx.up (fun _ kk => r_getIV (nI (vL V)) 9 dX12_groupEnd_6 rfl f12_341 rfl rfl lt95 (v1) kk) ?_
    refine Sx.up (fun _ kk => r_icmp_ge 12 36 dX12_groupEnd_9 rfl (by decide) (fun h9 => absurd h9 (nI_ge hk2 (by omega))) (fun _ => kk)) ?_
    refine Sx.up (fun _ kk => r_aload_n 13 dX12_groupEnd_12 rfl rfl kk) ?_
    refine Sx.up (fun _ kk => r_getIV (vS V 2) 16 dX12_groupEnd_13 rfl f12_356 rfl rfl lt95 (v10) kk) ?_
    refine Sx.br (fun _ ka kb => r_if_ne 19 36 dX12_groupEnd_16 rfl (by decide) ka kb) (by first | exact em1 | exact em2) (fun h16 => ?_) (fun h16 => ?_)
    · refine Sx.up (fun _ kk => r_iload_n 37 dX12_groupEnd_36 rfl rfl kk) ?_
      refine ⟨_, ?_, r_iret dX12_groupEnd_37 rfl rfl rfl⟩
      refine ⟨k9, rfl, by omega, by omega, ?_, hi⟩
      unfold splitF
      rw [decide_eq_true_eq]
      first | exact Or.inr (Or.inl h16) | exact Or.inr (Or.inr (and1_ne h27))
    · refine Sx.up (fun _ kk => r_aload_n 20 dX12_groupEnd_19 rfl rfl kk) ?_
      refine Sx.up (fun _ kk => r_getIV (vS V 1) 23 dX12_groupEnd_20 rfl f12_350 rfl rfl lt95 (v9) kk) ?_
      refine Sx.up (fun _ kk => r_iload_n 24 dX12_groupEnd_23 rfl rfl kk) ?_
      refine Sx.up (fun _ kk => r_ishr 25 dX12_groupEnd_24 rfl kk) ?_
      refine Sx.up (fun _ kk => r_iconst (1) 26 dX12_groupEnd_25 rfl (by decide) kk) ?_
      refine Sx.up (fun _ kk => r_iand 27 dX12_groupEnd_26 rfl kk) ?_
      refine Sx.br (fun _ ka kb => r_if_ne 30 36 dX12_groupEnd_27 rfl (by decide) ka kb) (by first | exact em1 | exact em2) (fun h27 => ?_) (fun h27 => ?_)
      · refine Sx.up (fun _ kk => r_iload_n 37 dX12_groupEnd_36 rfl rfl kk) ?_
        refine ⟨_, ?_, r_iret dX12_groupEnd_37 rfl rfl rfl⟩
        refine ⟨k9, rfl, by omega, by omega, ?_, hi⟩
        unfold splitF
        rw [decide_eq_true_eq]
        first | exact Or.inr (Or.inl h16) | exact Or.inr (Or.inr (and1_ne h27))
      · refine Sx.up (fun _ kk => r_iinc (1) 33 dX12_groupEnd_30 rfl rfl (by decide) (by decide) rfl kk) ?_
        refine Sx.up (fun _ kk => r_goto 4 dX12_groupEnd_33 (by decide) kk) ?_
        rw [nI_pp]
        refine hq () (fun j h1 h2 => ?_)
        rcases Nat.lt_or_ge j k9 with z | z
        · exact hi j h1 z
        · have hj : j = k9 := by omega
          subst hj
          unfold splitF
          refine decide_eq_false ?_
          rintro (z1 | z1 | z1)
          · exact hne z1
          · exact z1 h16
          · rw [h27] at z1; exact absurd z1 (by decide)
