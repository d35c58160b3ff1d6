/-! THE LAW: its loop -/
set_option maxRecDepth 20000 in
set_option maxHeartbeats 4000000 in
theorem law_step {L j bc bs : Nat} {xs : Nat → Int32} {Post : OUT → Prop} {E : HP} (hj : j + 5 < L) (hL : L ≤ 3072) (hR : Rel E) (kk : ∀ E3, Rel E3 → Sx (mL_law L xs) 62 bc bs Post 1690 [some (.ref 2000), some (.ref 0), some (.ref 95), some (.ref 136), some (.int (nI j)), none, none] [] E3 137) : Sx (mL_law L xs) 62 (bc + 1) (bs + 6) Post 33 [some (.ref 2000), some (.ref 0), some (.ref 95), some (.ref 136), some (.int (nI j)), none, none] [] E 137 := by
  obtain ⟨b, K, m, R, k, S, t, h, hk⟩ := id hR
  refine Sx.up (fun _ kk => r_aload_n 34 dL_law_33 rfl rfl kk) ?_
  refine Sx.up (fun _ kk => r_iload 36 dL_law_34 rfl rfl kk) ?_
  refine Sx.up (fun _ kk => r_sldN j (xs j) 37 dL_law_36 rfl rfl rfl (show j < L by omega) hL rfl kk) ?_
  refine Sx.up (fun _ kk => r_bipush (31) 39 dL_law_37 rfl (by decide) kk) ?_
  refine Sx.up (fun _ kk => r_iand 40 dL_law_39 rfl kk) ?_
  obtain ⟨c, hc, e⟩ := pk_andE (xs j) (m := 31) 5 (by decide)
  have hc : c < 32 := hc
  match c, hc, e with
  | 0, _, e =>
    rw [show xs j &&& 31 = (0 : Int32) from e]
    refine Sx.up (fun _ kk => r_tableIn 180 dL_law_40 (by decide) (by decide) rfl (by decide) kk) ?_
    exact s_feed hj hL (o_feed  h hk) kk
  | 1, _, e =>
    rw [show xs j &&& 31 = (1 : Int32) from e]
    refine Sx.up (fun _ kk => r_tableIn 253 dL_law_40 (by decide) (by decide) rfl (by decide) kk) ?_
    exact s_bed hj hL (l_bed (o_bed  h hk)) kk
  | 2, _, e =>
    rw [show xs j &&& 31 = (2 : Int32) from e]
    refine Sx.up (fun _ kk => r_tableIn 309 dL_law_40 (by decide) (by decide) rfl (by decide) kk) ?_
    exact s_fault hj hL (o_fault  h hk) kk
  | 3, _, e =>
    rw [show xs j &&& 31 = (3 : Int32) from e]
    refine Sx.up (fun _ kk => r_tableIn 322 dL_law_40 (by decide) (by decide) rfl (by decide) kk) ?_
    exact s_count hj hL (l_count (o_count (w := 0) (q := 0) h hk)) kk
  | 4, _, e =>
    rw [show xs j &&& 31 = (4 : Int32) from e]
    refine Sx.up (fun _ kk => r_tableIn 378 dL_law_40 (by decide) (by decide) rfl (by decide) kk) ?_
    exact s_sleeper hj hL (l_sleeper (o_sleeper (q := 0) h hk)) kk
  | 5, _, e =>
    rw [show xs j &&& 31 = (5 : Int32) from e]
    refine Sx.up (fun _ kk => r_tableIn 446 dL_law_40 (by decide) (by decide) rfl (by decide) kk) ?_
    exact s_swap hj hL (o_swap (q := 0) h hk) kk
  | 6, _, e =>
    rw [show xs j &&& 31 = (6 : Int32) from e]
    refine Sx.up (fun _ kk => r_tableIn 483 dL_law_40 (by decide) (by decide) rfl (by decide) kk) ?_
    exact s_side hj hL (o_side (w := 0) (q := 0) h hk) kk
  | 7, _, e =>
    rw [show xs j &&& 31 = (7 : Int32) from e]
    refine Sx.up (fun _ kk => r_tableIn 508 dL_law_40 (by decide) (by decide) rfl (by decide) kk) ?_
    exact s_word hj hL (l_word (o_word (q := 0) h hk)) kk
  | 8, _, e =>
    rw [show xs j &&& 31 = (8 : Int32) from e]
    refine Sx.up (fun _ kk => r_tableIn 576 dL_law_40 (by decide) (by decide) rfl (by decide) kk) ?_
    exact s_bolster hj hL (fun w hw => o_bolster (q := 0) h hk hw) kk
  | 9, _, e =>
    rw [show xs j &&& 31 = (9 : Int32) from e]
    refine Sx.up (fun _ kk => r_tableIn 629 dL_law_40 (by decide) (by decide) rfl (by decide) kk) ?_
    exact s_out hj hL (l_out (o_out (q := 0) h hk)) kk
  | 10, _, e =>
    rw [show xs j &&& 31 = (10 : Int32) from e]
    refine Sx.up (fun _ kk => r_tableIn 697 dL_law_40 (by decide) (by decide) rfl (by decide) kk) ?_
    exact s_undo hj hL (o_undo  h hk) kk
  | 11, _, e =>
    rw [show xs j &&& 31 = (11 : Int32) from e]
    refine Sx.up (fun _ kk => r_tableIn 710 dL_law_40 (by decide) (by decide) rfl (by decide) kk) ?_
    exact s_night hj hL (l_night (o_night (w := 0) (q := 0) h hk)) kk
  | 12, _, e =>
    rw [show xs j &&& 31 = (12 : Int32) from e]
    refine Sx.up (fun _ kk => r_tableIn 766 dL_law_40 (by decide) (by decide) rfl (by decide) kk) ?_
    exact s_woken hj hL (l_woken (o_woken (q := 0) h hk)) kk
  | 13, _, e =>
    rw [show xs j &&& 31 = (13 : Int32) from e]
    refine Sx.up (fun _ kk => r_tableIn 834 dL_law_40 (by decide) (by decide) rfl (by decide) kk) ?_
    exact s_lies hj hL (l_lies (o_lies  h hk)) kk
  | 14, _, e =>
    rw [show xs j &&& 31 = (14 : Int32) from e]
    refine Sx.up (fun _ kk => r_tableIn 914 dL_law_40 (by decide) (by decide) rfl (by decide) kk) ?_
    exact s_turn hj hL (l_turn (o_turn (q := 0) h hk)) kk
  | 15, _, e =>
    rw [show xs j &&& 31 = (15 : Int32) from e]
    refine Sx.up (fun _ kk => r_tableIn 982 dL_law_40 (by decide) (by decide) rfl (by decide) kk) ?_
    exact s_orders hj hL (o_orders  h hk) kk
  | 16, _, e =>
    rw [show xs j &&& 31 = (16 : Int32) from e]
    refine Sx.up (fun _ kk => r_tableIn 995 dL_law_40 (by decide) (by decide) rfl (by decide) kk) ?_
    exact s_order hj hL (o_order  h hk) kk
  | 17, _, e =>
    rw [show xs j &&& 31 = (17 : Int32) from e]
    refine Sx.up (fun _ kk => r_tableIn 1008 dL_law_40 (by decide) (by decide) rfl (by decide) kk) ?_
    exact s_kept hj hL (l_kept (o_kept (w := 0) (q := 0) h hk)) kk
  | 18, _, e =>
    rw [show xs j &&& 31 = (18 : Int32) from e]
    refine Sx.up (fun _ kk => r_tableIn 1064 dL_law_40 (by decide) (by decide) rfl (by decide) kk) ?_
    exact s_every hj hL (l_every (o_every (q := 0) h hk)) kk
  | 19, _, e =>
    rw [show xs j &&& 31 = (19 : Int32) from e]
    refine Sx.up (fun _ kk => r_tableIn 1132 dL_law_40 (by decide) (by decide) rfl (by decide) kk) ?_
    exact s_bolsters hj hL (l_bolsters (o_bolsters (x := 0) (q := 0) h hk)) kk
  | 20, _, e =>
    rw [show xs j &&& 31 = (20 : Int32) from e]
    refine Sx.up (fun _ kk => r_tableIn 1188 dL_law_40 (by decide) (by decide) rfl (by decide) kk) ?_
    exact s_free hj hL (l_free (o_free (w := 0) (q := 0) h hk)) kk
  | 21, _, e =>
    rw [show xs j &&& 31 = (21 : Int32) from e]
    refine Sx.up (fun _ kk => r_tableIn 1244 dL_law_40 (by decide) (by decide) rfl (by decide) kk) ?_
    exact s_outs hj hL (l_outs (o_outs (x := 0) (q := 0) h hk)) kk
  | 22, _, e =>
    rw [show xs j &&& 31 = (22 : Int32) from e]
    refine Sx.up (fun _ kk => r_tableIn 1300 dL_law_40 (by decide) (by decide) rfl (by decide) kk) ?_
    exact s_edge hj hL (o_edge  h hk) kk
  | 23, _, e =>
    rw [show xs j &&& 31 = (23 : Int32) from e]
    refine Sx.up (fun _ kk => r_tableIn 1313 dL_law_40 (by decide) (by decide) rfl (by decide) kk) ?_
    exact s_fair hj hL (l_fair (o_fair (w := 0) h hk)) kk
  | 24, _, e =>
    rw [show xs j &&& 31 = (24 : Int32) from e]
    refine Sx.up (fun _ kk => r_tableIn 1381 dL_law_40 (by decide) (by decide) rfl (by decide) kk) ?_
    exact s_see hj hL (l_see (o_see  h hk)) kk
  | 25, _, e =>
    rw [show xs j &&& 31 = (25 : Int32) from e]
    refine Sx.up (fun _ kk => r_tableIn 1461 dL_law_40 (by decide) (by decide) rfl (by decide) kk) ?_
    exact s_forget hj hL (o_forget  h hk) kk
  | 26, _, e =>
    rw [show xs j &&& 31 = (26 : Int32) from e]
    refine Sx.up (fun _ kk => r_tableIn 1474 dL_law_40 (by decide) (by decide) rfl (by decide) kk) ?_
    exact s_fits hj hL (l_fits (o_fits (x := 0) (q := 0) h hk)) kk
  | 27, _, e =>
    rw [show xs j &&& 31 = (27 : Int32) from e]
    refine Sx.up (fun _ kk => r_tableIn 1530 dL_law_40 (by decide) (by decide) rfl (by decide) kk) ?_
    exact s_without hj hL (l_without (o_without (w := 0) (q := 0) h hk)) kk
  | 28, _, e =>
    rw [show xs j &&& 31 = (28 : Int32) from e]
    refine Sx.up (fun _ kk => r_tableIn 1586 dL_law_40 (by decide) (by decide) rfl (by decide) kk) ?_
    exact s_year hj hL (l_year (o_year  h hk)) kk
  | 29, _, e =>
    rw [show xs j &&& 31 = (29 : Int32) from e]
    refine Sx.up (fun _ kk => r_tableIn 1666 dL_law_40 (by decide) (by decide) rfl (by decide) kk) ?_
    exact s_image hj hL (o_image  h hk) kk
  | 30, _, e =>
    rw [show xs j &&& 31 = (30 : Int32) from e]
    refine Sx.up (fun _ kk => r_tableIn 1677 dL_law_40 (by decide) (by decide) rfl (by decide) kk) ?_
    exact s_restore hj hL (o_restore  h hk) kk
  | 31, _, e =>
    rw [show xs j &&& 31 = (31 : Int32) from e]
    refine Sx.up (fun _ kk => r_tableOut 1690 dL_law_40 (Or.inr (by decide)) (by decide) kk) ?_
    exact Sx.wide (by omega) (by omega) (kk E hR)
  | n + 32, hc, _ => exact absurd hc (by omega)
theorem nI_sub6 {L j : Nat} (hL : L ≤ 3072) (hj : j ≤ 3072) : nI j ≤ nI L - 6 ↔ j + 6 ≤ L := by
  rcases Nat.lt_or_ge L 6 with q | q
  · have e : ¬ nI j ≤ nI L - 6 := by
      rw [Int32.le_iff_toInt_le, nI_toInt (by omega)]
      have e2 : (nI L - 6).toInt < 0 := by
        match L, q with
        | 0, _ => decide
        | 1, _ => decide
        | 2, _ => decide
        | 3, _ => decide
        | 4, _ => decide
        | 5, _ => decide
        | n + 6, q => exact absurd q (by omega)
      omega
    exact ⟨fun z => absurd z e, fun z => by omega⟩
  · rw [show (6 : Int32) = nI 6 from rfl, nI_dif q, Int32.le_iff_toInt_le, nI_toInt (by omega), nI_toInt (by omega)]
    omega
set_option maxRecDepth 20000 in
set_option maxHeartbeats 4000000 in
theorem law_loop {L : Nat} {xs : Nat → Int32} (hL : L ≤ 3072) {E : HP} (hR : Rel E) : Sx (mL_law L xs) 62 (L / 6) (6 * (L / 6)) (fun o => o.1 = .inl (some (.int 1))) 23 [some (.ref 2000), some (.ref 0), some (.ref 95), some (.ref 136), some (.int (nI 0)), none, none] [] E 137 := by
  have hm := Nat.div_add_mod L 6
  have hlt := Nat.mod_lt L (show 0 < 6 by decide)
  have go := sxUp (σ := HP) (S := fun k E => Sx (mL_law L xs) 62 (L / 6 - k) (6 * (L / 6 - k)) (fun o => o.1 = .inl (some (.int 1))) 23 [some (.ref 2000), some (.ref 0), some (.ref 95), some (.ref 136), some (.int (nI (6 * k))), none, none] [] E 137) (Inv := fun _ E => Rel E) (a := 0) (l := L / 6) (Nat.zero_le _)
    (fun E hR => by
      show Sx _ _ _ _ _ _ _ _ _ _
      have hz : ¬ nI (6 * (L / 6)) ≤ nI L - 6 := fun z => by
        have := (nI_sub6 hL (by omega)).mp z
        omega
      have hz : nI L - 6 < nI (6 * (L / 6)) := Int32.not_le.mp hz
      refine Sx.up (fun _ kk => r_iload 25 dL_law_23 rfl rfl kk) ?_
      refine Sx.up (fun _ kk => r_aload_n 26 dL_law_25 rfl rfl kk) ?_
      refine Sx.up (fun _ kk => r_slen 27 dL_law_26 rfl rfl kk) ?_
      refine Sx.up (fun _ kk => r_bipush (6) 29 dL_law_27 rfl (by decide) kk) ?_
      refine Sx.up (fun _ kk => r_isub 30 dL_law_29 rfl kk) ?_
      refine Sx.up (fun _ kk => r_icmp_gt 33 1696 dL_law_30 rfl (by decide) (fun _ => kk) (fun z => absurd hz z)) ?_
      refine Sx.up (fun _ kk => r_iconst (1) 1697 dL_law_1696 rfl (by decide) kk) ?_
      exact ⟨(.inl (some (.int 1)), E, 137), rfl, r_lawB dL_law_1697 rfl rfl rfl⟩)
    (fun k E _ hk hR hn => by
      show Sx _ _ _ _ _ _ _ _ _ _
      have hz : ¬ nI L - 6 < nI (6 * k) := Int32.not_lt.mpr ((nI_sub6 hL (by omega)).mpr (by omega))
      obtain ⟨q, hq⟩ : ∃ q, L / 6 - k = q + 1 := ⟨L / 6 - k - 1, by omega⟩
      rw [hq, show 6 * (q + 1) = 6 * q + 6 by omega]
      refine Sx.up (fun _ kk => r_iload 25 dL_law_23 rfl rfl kk) ?_
      refine Sx.up (fun _ kk => r_aload_n 26 dL_law_25 rfl rfl kk) ?_
      refine Sx.up (fun _ kk => r_slen 27 dL_law_26 rfl rfl kk) ?_
      refine Sx.up (fun _ kk => r_bipush (6) 29 dL_law_27 rfl (by decide) kk) ?_
      refine Sx.up (fun _ kk => r_isub 30 dL_law_29 rfl kk) ?_
      refine Sx.up (fun _ kk => r_icmp_gt 33 1696 dL_law_30 rfl (by decide) (fun z => absurd z hz) (fun _ => kk)) ?_
      refine law_step (by omega) hL hR fun E3 hR3 => ?_
      refine Sx.up (fun _ kk => r_iinc (6) 1693 dL_law_1690 rfl rfl (by decide) (Nat.le_of_ble_eq_true rfl) rfl kk) ?_
      refine Sx.up (fun _ kk => r_goto 23 dL_law_1693 (by decide) kk) ?_
      rw [nI_c6, show 6 * k + 6 = 6 * (k + 1) by omega]
      have hq2 : L / 6 - (k + 1) = q := by omega
      have hgo := hn E3 hR3
      rw [← hq2]
      exact hgo)
  exact go E hR
