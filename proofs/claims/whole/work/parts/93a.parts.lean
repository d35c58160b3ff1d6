/-! reader, further on -/
set_option maxHeartbeats 16000000 in
set_option maxRecDepth 20000 in
theorem rd_part {d e l : Nat} {E0 E : HP} {T : TX} {b : Nat} {s : PS} {w : Int32} (y1 : CRd E0 E T b s) (hs : slk 1 s) (hw : w = nI (6 - (l + 1))) (hl : l + 1 ≤ 6) (hex : ∀ {E : HP} {s : PS} {w : Int32}, CRd E0 E T b s → slk 1 s → w = nI (6 - l) → ∃ o, (∃ E2, o = (.inl none, E2, 137) ∧ CRd E0 E2 T b (exprS T l s)) ∧ Cl yX5_readExpr mX5_readExpr (d + e + 8) 0 0 [.ref 41, .int w] E 137 o) : ∃ o, (∃ E2, o = (.inl none, E2, 137) ∧ CRd E0 E2 T b (partS T (exprS T l) s)) ∧ Cl yX5_readPart mX5_readPart (d + e + 8 + 1) 0 0 [.ref 41, .int w] E 137 o := by
  have hb := rd_b y1
  have hbs : sh b = (0, 0) := bo_1 (rd_bed y1)
  have hbn : b < 137 := by omega
  have hb5 : sh (b + 5) = (7, 0) := (rd_bed y1).2.2.2.2.2.2.2.2.2.1.1
  have hb5n : b + 5 < 137 := by omega
  have hki := rd_kind (k := 1) y1 (by decide) (by decide)
  refine Cx.of (by decide) rfl (fun q => by cases q) rfl rfl (Nat.le_of_ble_eq_true rfl) ?_
  show Sx _ _ _ _ _ 0 [some (.ref 41), some (.int (w))] [] _ _
  refine Sx.up (fun _ kk => r_aload_n 1 dX5_readPart_0 rfl rfl kk) ?_
  refine Sx.up (fun _ kk => r_getR 4 dX5_readPart_1 rfl f5_19 rfl (by first | with_reducible assumption | with_reducible exact cr_bs hC | rfl) (by first | with_reducible assumption | with_reducible exact cr_bn hC | exact Nat.le_of_ble_eq_true rfl) (rd_tok y1) kk) ?_
  refine Sx.up (fun _ kk => r_bipush (40) 6 dX5_readPart_4 rfl (by decide) kk) ?_
  refine Sx.up (fun _ kk => r_callV (M := mX5_readPart) (pc := 6) 9 dX5_readPart_6 rfl k5_141 (rd_sign (d := d + e + 7) y1) rfl rfl (by first | with_reducible assumption | with_reducible exact cr_bs hC | rfl) (by decide) rfl (by first | with_reducible assumption | with_reducible exact cr_bn hC | exact Nat.le_of_ble_eq_true rfl) (Nat.le_of_ble_eq_true rfl) kk) ?_
  refine Sx.br (fun _ ka kb => r_if_eq 12 35 dX5_readPart_9 rfl (by decide) ka kb) (by first | exact em1 | exact em2) (fun h9 => ?_) (fun h9 => ?_)
  · refine Sx.up (fun _ kk => r_aload_n 36 dX5_readPart_35 rfl rfl kk) ?_
    refine Sx.up (fun _ kk => r_getR 39 dX5_readPart_36 rfl f5_19 rfl (by first | with_reducible assumption | with_reducible exact cr_bs hC | rfl) (by first | with_reducible assumption | with_reducible exact cr_bn hC | exact Nat.le_of_ble_eq_true rfl) (rd_tok y1) kk) ?_
    refine Sx.up (fun _ kk => r_getI 42 dX5_readPart_39 rfl f5_48 rfl (by first | with_reducible assumption | with_reducible exact cr_bs hC | rfl) (by first | with_reducible assumption | with_reducible exact cr_bn hC | exact Nat.le_of_ble_eq_true rfl) kk) ?_
    refine Sx.up (fun _ kk => r_iconst (1) 43 dX5_readPart_42 rfl (by decide) kk) ?_
    refine Sx.br (fun _ ka kb => r_icmp_ne 46 53 dX5_readPart_43 rfl (by decide) ka kb) (by first | exact em1 | exact em2) (fun h43 => ?_) (fun h43 => ?_)
    · refine Sx.up (fun _ kk => r_aload_n 54 dX5_readPart_53 rfl rfl kk) ?_
      refine Sx.up (fun _ kk => r_getR 57 dX5_readPart_54 rfl f5_35 rfl (by first | with_reducible assumption | with_reducible exact cr_bs hC | rfl) (by first | with_reducible assumption | with_reducible exact cr_bn hC | exact Nat.le_of_ble_eq_true rfl) (rd_into y1) kk) ?_
      refine Sx.up (fun _ kk => r_getR 60 dX5_readPart_57 rfl f5_192 rfl (by first | with_reducible assumption | with_reducible exact cr_bs hC | rfl) (by first | with_reducible assumption | with_reducible exact cr_bn hC | exact Nat.le_of_ble_eq_true rfl) (rd_rule y1) kk) ?_
      refine Sx.up (fun _ kk => r_aload_n 61 dX5_readPart_60 rfl rfl kk) ?_
      refine Sx.up (fun _ kk => r_iconst (0) 62 dX5_readPart_61 rfl (by decide) kk) ?_
      refine Sx.up (fun _ kk => r_sipush (9999) 65 dX5_readPart_62 rfl (by decide) kk) ?_
      obtain ⟨_, ⟨E2, v2, rfl, y2, hv2⟩, hcl2⟩ := rd_take (d := d + e + 2) (lo := 0) (hi := 9999) y1 rfl rfl (by decide) (by decide)
      refine Sx.up (fun _ kk => r_callV (M := mX5_readPart) (pc := 65) 68 dX5_readPart_65 rfl k5_109 hcl2 rfl rfl (by first | with_reducible assumption | with_reducible exact cr_bs hC | rfl) (by decide) rfl (by first | with_reducible assumption | with_reducible exact cr_bn hC | exact Nat.le_of_ble_eq_true rfl) (Nat.le_of_ble_eq_true rfl) kk) ?_
      have hru : ∃ o, (∃ E9, o = (.inl none, E9, 137) ∧ CRd E0 E9 T b (ruS (nI (vaS T s)) (tkS T 0 9999 s))) ∧ Cl yX7_add mX7_add (d + e + 8) 0 0 [.ref (b + 5), .int v2] E2 137 o := by
        obtain ⟨o9, ⟨E9, ho9, hc9⟩, hcl9⟩ := rd_radd (d := d + e + 7) (x := v2) y2 (slk_tk hs)
        refine ⟨o9, ⟨E9, ho9, ?_⟩, hcl9⟩
        cases hz : tkS T 0 9999 s with
        | inl z => rw [hz] at hc9; exact hc9
        | inr z => rw [hz] at hc9; rw [← hv2 z.1 z.2 hz]; exact hc9
      obtain ⟨_, ⟨E9, rfl, y9⟩, hcl9⟩ := hru
      refine Sx.up (fun _ kk => r_callV (M := mX5_readPart) (pc := 68) 71 dX5_readPart_68 rfl k5_198 hcl9 rfl rfl (by first | with_reducible assumption | with_reducible exact cr_bs hC | rfl) (by decide) rfl (by first | with_reducible assumption | with_reducible exact cr_bn hC | exact Nat.le_of_ble_eq_true rfl) (Nat.le_of_ble_eq_true rfl) kk) ?_
      refine ⟨_, ?_, r_vret dX5_readPart_71 rfl rfl rfl⟩
      refine ⟨_, rfl, ?_⟩
      unfold partS
      first | (rw [if_pos (bnz h9)]; exact y2) | (rw [if_neg (bz h9), if_pos (hki.mp h43)]; exact y2) | (rw [if_neg (bz h9), if_neg (fun z => h43 (hki.mpr z))]; exact y9)
    · refine Sx.up (fun _ kk => r_aload_n 47 dX5_readPart_46 rfl rfl kk) ?_
      obtain ⟨_, ⟨E3, rfl, y3⟩, hcl3⟩ := rd_readValue (d := d + e) y1 hs
      refine Sx.up (fun _ kk => r_callV (M := mX5_readPart) (pc := 47) 50 dX5_readPart_47 rfl k5_220 hcl3 rfl rfl (by first | with_reducible assumption | with_reducible exact cr_bs hC | rfl) (by decide) rfl (by first | with_reducible assumption | with_reducible exact cr_bn hC | exact Nat.le_of_ble_eq_true rfl) (Nat.le_of_ble_eq_true rfl) kk) ?_
      refine Sx.up (fun _ kk => r_goto 71 dX5_readPart_50 (by decide) kk) ?_
      refine ⟨_, ?_, r_vret dX5_readPart_71 rfl rfl rfl⟩
      refine ⟨_, rfl, ?_⟩
      unfold partS
      first | (rw [if_pos (bnz h9)]; exact y3) | (rw [if_neg (bz h9), if_pos (hki.mp h43)]; exact y3) | (rw [if_neg (bz h9), if_neg (fun z => h43 (hki.mpr z))]; exact y9)
  · refine Sx.up (fun _ kk => r_aload_n 13 dX5_readPart_12 rfl rfl kk) ?_
    refine Sx.up (fun _ kk => r_getR 16 dX5_readPart_13 rfl f5_19 rfl (by first | with_reducible assumption | with_reducible exact cr_bs hC | rfl) (by first | with_reducible assumption | with_reducible exact cr_bn hC | exact Nat.le_of_ble_eq_true rfl) (rd_tok y1) kk) ?_
    obtain ⟨_, ⟨E4, rfl, y4⟩, hcl4⟩ := rd_adv (d := d + e + 3) y1
    refine Sx.up (fun _ kk => r_callV (M := mX5_readPart) (pc := 16) 19 dX5_readPart_16 rfl k5_131 hcl4 rfl rfl (by first | with_reducible assumption | with_reducible exact cr_bs hC | rfl) (by decide) rfl (by first | with_reducible assumption | with_reducible exact cr_bn hC | exact Nat.le_of_ble_eq_true rfl) (Nat.le_of_ble_eq_true rfl) kk) ?_
    refine Sx.up (fun _ kk => r_aload_n 20 dX5_readPart_19 rfl rfl kk) ?_
    refine Sx.up (fun _ kk => r_iload_n 21 dX5_readPart_20 rfl rfl kk) ?_
    refine Sx.up (fun _ kk => r_iconst (1) 22 dX5_readPart_21 rfl (by decide) kk) ?_
    refine Sx.up (fun _ kk => r_iadd 23 dX5_readPart_22 rfl kk) ?_
    rw [show w + 1 = nI (6 - l) by rw [hw, nI_pp]; congr 1; omega]
    obtain ⟨_, ⟨E5, rfl, y5⟩, hcl5⟩ := hex y4 (slk_adv0 hs) rfl
    refine Sx.up (fun _ kk => r_callV (M := mX5_readPart) (pc := 23) 26 dX5_readPart_23 rfl k5_89 hcl5 rfl rfl (by first | with_reducible assumption | with_reducible exact cr_bs hC | rfl) (by decide) rfl (by first | with_reducible assumption | with_reducible exact cr_bn hC | exact Nat.le_of_ble_eq_true rfl) (Nat.le_of_ble_eq_true rfl) kk) ?_
    refine Sx.up (fun _ kk => r_aload_n 27 dX5_readPart_26 rfl rfl kk) ?_
    refine Sx.up (fun _ kk => r_bipush (41) 29 dX5_readPart_27 rfl (by decide) kk) ?_
    obtain ⟨_, ⟨E6, rfl, y6⟩, hcl6⟩ := rd_takeSign (d := d + e + 2) (c := 41) y5
    refine Sx.up (fun _ kk => r_callV (M := mX5_readPart) (pc := 29) 32 dX5_readPart_29 rfl k5_95 hcl6 rfl rfl (by first | with_reducible assumption | with_reducible exact cr_bs hC | rfl) (by decide) rfl (by first | with_reducible assumption | with_reducible exact cr_bn hC | exact Nat.le_of_ble_eq_true rfl) (Nat.le_of_ble_eq_true rfl) kk) ?_
    refine Sx.up (fun _ kk => r_goto 71 dX5_readPart_32 (by decide) kk) ?_
    refine ⟨_, ?_, r_vret dX5_readPart_71 rfl rfl rfl⟩
    refine ⟨_, rfl, ?_⟩
    unfold partS
    first | (rw [if_pos (bnz h9)]; exact y6) | (rw [if_neg (bz h9), if_pos (hki.mp h43)]; exact y6) | (rw [if_neg (bz h9), if_neg (fun z => h43 (hki.mpr z))]; exact y9)
set_option maxHeartbeats 16000000 in
set_option maxRecDepth 20000 in
theorem rd_prod {d e l : Nat} {E0 E : HP} {T : TX} {b : Nat} {s : PS} {w : Int32} (y1 : CRd E0 E T b s) (hs : slk 1 s) (hw : w = nI (6 - (l + 1))) (hl : l + 1 ≤ 6) (hex : ∀ {E : HP} {s : PS} {w : Int32}, CRd E0 E T b s → slk 1 s → w = nI (6 - l) → ∃ o, (∃ E2, o = (.inl none, E2, 137) ∧ CRd E0 E2 T b (exprS T l s)) ∧ Cl yX5_readExpr mX5_readExpr (d + e + 8) 0 0 [.ref 41, .int w] E 137 o) : ∃ o, (∃ E2, o = (.inl none, E2, 137) ∧ CRd E0 E2 T b (prodS T (exprS T l) s)) ∧ Cl yX5_readProduct mX5_readProduct (d + e + 8 + 2) 0 0 [.ref 41, .int w] E 137 o := by
  have hb := rd_b y1
  have hbs : sh b = (0, 0) := bo_1 (rd_bed y1)
  have hbn : b < 137 := by omega
  have hb5 : sh (b + 5) = (7, 0) := (rd_bed y1).2.2.2.2.2.2.2.2.2.1.1
  have hb5n : b + 5 < 137 := by omega
  have hs0 : slk 1 (partS T (exprS T l) s) := slk_ext (ex_part l s) hs
  refine Cx.of (by decide) rfl (fun q => by cases q) rfl rfl (Nat.le_of_ble_eq_true rfl) ?_
  show Sx _ _ _ _ _ 0 [some (.ref 41), some (.int (w)), none, none] [] _ _
  have loop := sxUp (σ := HP × PS) (S := fun k9 q => Sx mX5_readProduct (d + e + 8 + 2) 0 0 (fun o => ∃ E2, o = (.inl none, E2, 137) ∧ CRd E0 E2 T b (loopS (prodC T) (prodB T (exprS T l)) (600 - k9) q.2)) 7 [some (.ref 41), some (.int w), some (.int (nI k9)), none] [] q.1 137) (Inv := fun k9 q => CRd E0 q.1 T b q.2 ∧ slk 1 q.2) (a := 0) (l := 600) (by omega) ?_ ?_
  refine Sx.up (fun _ kk => r_aload_n 1 dX5_readProduct_0 rfl rfl kk) ?_
  refine Sx.up (fun _ kk => r_iload_n 2 dX5_readProduct_1 rfl rfl kk) ?_
  obtain ⟨_, ⟨E2, rfl, y2⟩, hcl2⟩ := rd_part y1 hs hw hl hex
  refine Sx.up (fun _ kk => r_callV (M := mX5_readProduct) (pc := 2) 5 dX5_readProduct_2 rfl k5_217 hcl2 rfl rfl (by first | with_reducible assumption | with_reducible exact cr_bs hC | rfl) (by decide) rfl (by first | with_reducible assumption | with_reducible exact cr_bn hC | exact Nat.le_of_ble_eq_true rfl) (Nat.le_of_ble_eq_true rfl) kk) ?_
  refine Sx.up (fun _ kk => r_iconst (0) 6 dX5_readProduct_5 rfl (by decide) kk) ?_
  refine Sx.up (fun _ kk => r_istore_n 7 dX5_readProduct_6 rfl (by decide) rfl kk) ?_
  exact Sx.less (by exact ⟨rfl, rfl, rfl, trivial⟩) (loop (E2, _) ⟨y2, hs0⟩)
  · intro q ⟨y1, hs1⟩
    refine Sx.up (fun _ kk => r_iload_n 8 dX5_readProduct_7 rfl rfl kk) ?_
    refine Sx.up (fun _ kk => r_sipush (600) 11 dX5_readProduct_8 rfl (by decide) kk) ?_
    refine Sx.up (fun _ kk => r_icmp_ge 14 87 dX5_readProduct_11 rfl (by decide) (fun _ => kk) (fun h11 => absurd (by decide) h11)) ?_
    refine ⟨_, ?_, r_vret dX5_readProduct_87 rfl rfl rfl⟩
    exact ⟨_, rfl, y1⟩
  · intro k9 q hk0 hk9 ⟨y1, hs1⟩ hq
    obtain ⟨E, s⟩ := q
    have y1 : CRd E0 E T b s := y1
    have hs1 : slk 1 s := hs1
    obtain ⟨f9, hf9⟩ : ∃ f9, 600 - k9 = f9 + 1 := ⟨600 - k9 - 1, by omega⟩
    have hy : (prodC T) s = true → loopS (prodC T) (prodB T (exprS T l)) (600 - k9) s = loopS (prodC T) (prodB T (exprS T l)) (600 - (k9 + 1)) (prodB T (exprS T l) s) := fun z => by rw [hf9, show 600 - (k9 + 1) = f9 by omega]; exact if_pos z
    have hn : ¬ (prodC T) s = true → loopS (prodC T) (prodB T (exprS T l)) (600 - k9) s = s := fun z => by rw [hf9]; exact if_neg z
    refine Sx.up (fun _ kk => r_iload_n 8 dX5_readProduct_7 rfl rfl kk) ?_
    refine Sx.up (fun _ kk => r_sipush (600) 11 dX5_readProduct_8 rfl (by decide) kk) ?_
    refine Sx.up (fun _ kk => r_icmp_ge 14 87 dX5_readProduct_11 rfl (by decide) (fun h11 => absurd h11 (nI_ge (b := 600) hk9 (by omega))) (fun _ => kk)) ?_
    refine Sx.up (fun _ kk => r_aload_n 15 dX5_readProduct_14 rfl rfl kk) ?_
    refine Sx.up (fun _ kk => r_getR 18 dX5_readProduct_15 rfl f5_19 rfl (by first | with_reducible assumption | with_reducible exact cr_bs hC | rfl) (by first | with_reducible assumption | with_reducible exact cr_bn hC | exact Nat.le_of_ble_eq_true rfl) (rd_tok y1) kk) ?_
    refine Sx.up (fun _ kk => r_bipush (42) 20 dX5_readProduct_18 rfl (by decide) kk) ?_
    refine Sx.up (fun _ kk => r_callV (M := mX5_readProduct) (pc := 20) 23 dX5_readProduct_20 rfl k5_141 (rd_sign (d := d + e + 8 + 0) y1) rfl rfl (by first | with_reducible assumption | with_reducible exact cr_bs hC | rfl) (by decide) rfl (by first | with_reducible assumption | with_reducible exact cr_bn hC | exact Nat.le_of_ble_eq_true rfl) (Nat.le_of_ble_eq_true rfl) kk) ?_
    refine Sx.br (fun _ ka kb => r_if_ne 26 38 dX5_readProduct_23 rfl (by decide) ka kb) (by first | exact em1 | exact em2) (fun h23 => ?_) (fun h23 => ?_)
    · refine Sx.up (fun _ kk => r_aload_n 39 dX5_readProduct_38 rfl rfl kk) ?_
      refine Sx.up (fun _ kk => r_getR 42 dX5_readProduct_39 rfl f5_19 rfl (by first | with_reducible assumption | with_reducible exact cr_bs hC | rfl) (by first | with_reducible assumption | with_reducible exact cr_bn hC | exact Nat.le_of_ble_eq_true rfl) (rd_tok y1) kk) ?_
      refine Sx.up (fun _ kk => r_bipush (42) 44 dX5_readProduct_42 rfl (by decide) kk) ?_
      refine Sx.up (fun _ kk => r_callV (M := mX5_readProduct) (pc := 44) 47 dX5_readProduct_44 rfl k5_141 (rd_sign (d := d + e + 8 + 0) y1) rfl rfl (by first | with_reducible assumption | with_reducible exact cr_bs hC | rfl) (by decide) rfl (by first | with_reducible assumption | with_reducible exact cr_bn hC | exact Nat.le_of_ble_eq_true rfl) (Nat.le_of_ble_eq_true rfl) kk) ?_
      refine Sx.br (fun _ ka kb => r_if_eq 50 55 dX5_readProduct_47 rfl (by decide) ka kb) (by first | exact em1 | exact em2) (fun h47 => ?_) (fun h47 => ?_)
      · have hc : prodC T s = true := by unfold prodC; rw [Bool.or_eq_true]; exact (by first | exact Or.inl (bnz h23) | exact Or.inr (bnz h35))
        have hop : (if sgS T 42 s = true then (-15 : Int32) else -16) = -16 := if_neg (bz h47)
        refine Sx.up (fun _ kk => r_bipush (-16) 57 dX5_readProduct_55 rfl (by decide) kk) ?_
        refine Sx.up (fun _ kk => r_istore_n 58 dX5_readProduct_57 rfl (by decide) rfl kk) ?_
        refine Sx.up (fun _ kk => r_aload_n 59 dX5_readProduct_58 rfl rfl kk) ?_
        refine Sx.up (fun _ kk => r_getR 62 dX5_readProduct_59 rfl f5_19 rfl (by first | with_reducible assumption | with_reducible exact cr_bs hC | rfl) (by first | with_reducible assumption | with_reducible exact cr_bn hC | exact Nat.le_of_ble_eq_true rfl) (rd_tok y1) kk) ?_
        obtain ⟨_, ⟨E2, rfl, y2⟩, hcl2⟩ := rd_adv (d := d + e + 4) y1
        refine Sx.up (fun _ kk => r_callV (M := mX5_readProduct) (pc := 62) 65 dX5_readProduct_62 rfl k5_131 hcl2 rfl rfl (by first | with_reducible assumption | with_reducible exact cr_bs hC | rfl) (by decide) rfl (by first | with_reducible assumption | with_reducible exact cr_bn hC | exact Nat.le_of_ble_eq_true rfl) (Nat.le_of_ble_eq_true rfl) kk) ?_
        refine Sx.up (fun _ kk => r_aload_n 66 dX5_readProduct_65 rfl rfl kk) ?_
        refine Sx.up (fun _ kk => r_iload_n 67 dX5_readProduct_66 rfl rfl kk) ?_
        obtain ⟨_, ⟨E3, rfl, y3⟩, hcl3⟩ := rd_part y2 (slk_mono (by decide) (slk_adv (liv_or hc) hs1)) hw hl hex
        refine Sx.up (fun _ kk => r_callV (M := mX5_readProduct) (pc := 67) 70 dX5_readProduct_67 rfl k5_217 hcl3 rfl rfl (by first | with_reducible assumption | with_reducible exact cr_bs hC | rfl) (by decide) rfl (by first | with_reducible assumption | with_reducible exact cr_bn hC | exact Nat.le_of_ble_eq_true rfl) (Nat.le_of_ble_eq_true rfl) kk) ?_
        refine Sx.up (fun _ kk => r_aload_n 71 dX5_readProduct_70 rfl rfl kk) ?_
        refine Sx.up (fun _ kk => r_getR 74 dX5_readProduct_71 rfl f5_35 rfl (by first | with_reducible assumption | with_reducible exact cr_bs hC | rfl) (by first | with_reducible assumption | with_reducible exact cr_bn hC | exact Nat.le_of_ble_eq_true rfl) (rd_into y3) kk) ?_
        refine Sx.up (fun _ kk => r_getR 77 dX5_readProduct_74 rfl f5_192 rfl (by first | with_reducible assumption | with_reducible exact cr_bs hC | rfl) (by first | with_reducible assumption | with_reducible exact cr_bn hC | exact Nat.le_of_ble_eq_true rfl) (rd_rule y3) kk) ?_
        refine Sx.up (fun _ kk => r_iload_n 78 dX5_readProduct_77 rfl rfl kk) ?_
        obtain ⟨_, ⟨E4, rfl, y4⟩, hcl4⟩ := rd_radd (d := d + e + 8) y3 (slk_mono (by decide) (slk_ext (ex_part l _) (slk_adv (liv_or hc) hs1)))
        refine Sx.up (fun _ kk => r_callV (M := mX5_readProduct) (pc := 78) 81 dX5_readProduct_78 rfl k5_198 hcl4 rfl rfl (by first | with_reducible assumption | with_reducible exact cr_bs hC | rfl) (by decide) rfl (by first | with_reducible assumption | with_reducible exact cr_bn hC | exact Nat.le_of_ble_eq_true rfl) (Nat.le_of_ble_eq_true rfl) kk) ?_
        refine Sx.up (fun _ kk => r_iinc (1) 84 dX5_readProduct_81 rfl rfl (by decide) (by decide) rfl kk) ?_
        refine Sx.up (fun _ kk => r_goto 7 dX5_readProduct_84 (by decide) kk) ?_
        rw [hy hc]
        have hgo := hq (_, prodB T (exprS T l) s) ⟨by unfold prodB; rw [hop]; exact y4, by unfold prodB; exact slk_ru (slk_ext (ex_part l _) (slk_adv (liv_or hc) hs1))⟩
        rw [nI_pp]
        exact Sx.less (by exact ⟨rfl, rfl, rfl, trivial⟩) hgo
      · have hc : prodC T s = true := by unfold prodC; rw [Bool.or_eq_true]; exact (by first | exact Or.inl (bnz h23) | exact Or.inr (bnz h35))
        have hop : (if sgS T 42 s = true then (-15 : Int32) else -16) = -15 := if_pos (bnz h47)
        refine Sx.up (fun _ kk => r_bipush (-15) 52 dX5_readProduct_50 rfl (by decide) kk) ?_
        refine Sx.up (fun _ kk => r_goto 57 dX5_readProduct_52 (by decide) kk) ?_
        refine Sx.up (fun _ kk => r_istore_n 58 dX5_readProduct_57 rfl (by decide) rfl kk) ?_
        refine Sx.up (fun _ kk => r_aload_n 59 dX5_readProduct_58 rfl rfl kk) ?_
        refine Sx.up (fun _ kk => r_getR 62 dX5_readProduct_59 rfl f5_19 rfl (by first | with_reducible assumption | with_reducible exact cr_bs hC | rfl) (by first | with_reducible assumption | with_reducible exact cr_bn hC | exact Nat.le_of_ble_eq_true rfl) (rd_tok y1) kk) ?_
        obtain ⟨_, ⟨E5, rfl, y5⟩, hcl5⟩ := rd_adv (d := d + e + 4) y1
        refine Sx.up (fun _ kk => r_callV (M := mX5_readProduct) (pc := 62) 65 dX5_readProduct_62 rfl k5_131 hcl5 rfl rfl (by first | with_reducible assumption | with_reducible exact cr_bs hC | rfl) (by decide) rfl (by first | with_reducible assumption | with_reducible exact cr_bn hC | exact Nat.le_of_ble_eq_true rfl) (Nat.le_of_ble_eq_true rfl) kk) ?_
        refine Sx.up (fun _ kk => r_aload_n 66 dX5_readProduct_65 rfl rfl kk) ?_
        refine Sx.up (fun _ kk => r_iload_n 67 dX5_readProduct_66 rfl rfl kk) ?_
        obtain ⟨_, ⟨E6, rfl, y6⟩, hcl6⟩ := rd_part y5 (slk_mono (by decide) (slk_adv (liv_or hc) hs1)) hw hl hex
        refine Sx.up (fun _ kk => r_callV (M := mX5_readProduct) (pc := 67) 70 dX5_readProduct_67 rfl k5_217 hcl6 rfl rfl (by first | with_reducible assumption | with_reducible exact cr_bs hC | rfl) (by decide) rfl (by first | with_reducible assumption | with_reducible exact cr_bn hC | exact Nat.le_of_ble_eq_true rfl) (Nat.le_of_ble_eq_true rfl) kk) ?_
        refine Sx.up (fun _ kk => r_aload_n 71 dX5_readProduct_70 rfl rfl kk) ?_
        refine Sx.up (fun _ kk => r_getR 74 dX5_readProduct_71 rfl f5_35 rfl (by first | with_reducible assumption | with_reducible exact cr_bs hC | rfl) (by first | with_reducible assumption | with_reducible exact cr_bn hC | exact Nat.le_of_ble_eq_true rfl) (rd_into y6) kk) ?_
        refine Sx.up (fun _ kk => r_getR 77 dX5_readProduct_74 rfl f5_192 rfl (by first | with_reducible assumption | with_reducible exact cr_bs hC | rfl) (by first | with_reducible assumption | with_reducible exact cr_bn hC | exact Nat.le_of_ble_eq_true rfl) (rd_rule y6) kk) ?_
        refine Sx.up (fun _ kk => r_iload_n 78 dX5_readProduct_77 rfl rfl kk) ?_
        obtain ⟨_, ⟨E7, rfl, y7⟩, hcl7⟩ := rd_radd (d := d + e + 8) y6 (slk_mono (by decide) (slk_ext (ex_part l _) (slk_adv (liv_or hc) hs1)))
        refine Sx.up (fun _ kk => r_callV (M := mX5_readProduct) (pc := 78) 81 dX5_readProduct_78 rfl k5_198 hcl7 rfl rfl (by first | with_reducible assumption | with_reducible exact cr_bs hC | rfl) (by decide) rfl (by first | with_reducible assumption | with_reducible exact cr_bn hC | exact Nat.le_of_ble_eq_true rfl) (Nat.le_of_ble_eq_true rfl) kk) ?_
        refine Sx.up (fun _ kk => r_iinc (1) 84 dX5_readProduct_81 rfl rfl (by decide) (by decide) rfl kk) ?_
        refine Sx.up (fun _ kk => r_goto 7 dX5_readProduct_84 (by decide) kk) ?_
        rw [hy hc]
        have hgo := hq (_, prodB T (exprS T l) s) ⟨by unfold prodB; rw [hop]; exact y7, by unfold prodB; exact slk_ru (slk_ext (ex_part l _) (slk_adv (liv_or hc) hs1))⟩
        rw [nI_pp]
        exact Sx.less (by exact ⟨rfl, rfl, rfl, trivial⟩) hgo
    · refine Sx.up (fun _ kk => r_aload_n 27 dX5_readProduct_26 rfl rfl kk) ?_
      refine Sx.up (fun _ kk => r_getR 30 dX5_readProduct_27 rfl f5_19 rfl (by first | with_reducible assumption | with_reducible exact cr_bs hC | rfl) (by first | with_reducible assumption | with_reducible exact cr_bn hC | exact Nat.le_of_ble_eq_true rfl) (rd_tok y1) kk) ?_
      refine Sx.up (fun _ kk => r_bipush (47) 32 dX5_readProduct_30 rfl (by decide) kk) ?_
      refine Sx.up (fun _ kk => r_callV (M := mX5_readProduct) (pc := 32) 35 dX5_readProduct_32 rfl k5_141 (rd_sign (d := d + e + 8 + 0) y1) rfl rfl (by first | with_reducible assumption | with_reducible exact cr_bs hC | rfl) (by decide) rfl (by first | with_reducible assumption | with_reducible exact cr_bn hC | exact Nat.le_of_ble_eq_true rfl) (Nat.le_of_ble_eq_true rfl) kk) ?_
      refine Sx.br (fun _ ka kb => r_if_eq 38 87 dX5_readProduct_35 rfl (by decide) ka kb) (by first | exact em1 | exact em2) (fun h35 => ?_) (fun h35 => ?_)
      · refine ⟨_, ?_, r_vret dX5_readProduct_87 rfl rfl rfl⟩
        exact ⟨_, rfl, by rw [hn (fun z => by unfold prodC at z; rw [Bool.or_eq_true] at z; exact z.elim (bz h23) (bz h35))]; exact y1⟩
      · refine Sx.up (fun _ kk => r_aload_n 39 dX5_readProduct_38 rfl rfl kk) ?_
        refine Sx.up (fun _ kk => r_getR 42 dX5_readProduct_39 rfl f5_19 rfl (by first | with_reducible assumption | with_reducible exact cr_bs hC | rfl) (by first | with_reducible assumption | with_reducible exact cr_bn hC | exact Nat.le_of_ble_eq_true rfl) (rd_tok y1) kk) ?_
        refine Sx.up (fun _ kk => r_bipush (42) 44 dX5_readProduct_42 rfl (by decide) kk) ?_
        refine Sx.up (fun _ kk => r_callV (M := mX5_readProduct) (pc := 44) 47 dX5_readProduct_44 rfl k5_141 (rd_sign (d := d + e + 8 + 0) y1) rfl rfl (by first | with_reducible assumption | with_reducible exact cr_bs hC | rfl) (by decide) rfl (by first | with_reducible assumption | with_reducible exact cr_bn hC | exact Nat.le_of_ble_eq_true rfl) (Nat.le_of_ble_eq_true rfl) kk) ?_
        refine Sx.br (fun _ ka kb => r_if_eq 50 55 dX5_readProduct_47 rfl (by decide) ka kb) (by first | exact em1 | exact em2) (fun h47 => ?_) (fun h47 => ?_)
        · have hc : prodC T s = true := by unfold prodC; rw [Bool.or_eq_true]; exact (by first | exact Or.inl (bnz h23) | exact Or.inr (bnz h35))
          have hop : (if sgS T 42 s = true then (-15 : Int32) else -16) = -16 := if_neg (bz h47)
          refine Sx.up (fun _ kk => r_bipush (-16) 57 dX5_readProduct_55 rfl (by decide) kk) ?_
          refine Sx.up (fun _ kk => r_istore_n 58 dX5_readProduct_57 rfl (by decide) rfl kk) ?_
          refine Sx.up (fun _ kk => r_aload_n 59 dX5_readProduct_58 rfl rfl kk) ?_
          refine Sx.up (fun _ kk => r_getR 62 dX5_readProduct_59 rfl f5_19 rfl (by first | with_reducible assumption | with_reducible exact cr_bs hC | rfl) (by first | with_reducible assumption | with_reducible exact cr_bn hC | exact Nat.le_of_ble_eq_true rfl) (rd_tok y1) kk) ?_
          obtain ⟨_, ⟨E8, rfl, y8⟩, hcl8⟩ := rd_adv (d := d + e + 4) y1
          refine Sx.up (fun _ kk => r_callV (M := mX5_readProduct) (pc := 62) 65 dX5_readProduct_62 rfl k5_131 hcl8 rfl rfl (by first | with_reducible assumption | with_reducible exact cr_bs hC | rfl) (by decide) rfl (by first | with_reducible assumption | with_reducible exact cr_bn hC | exact Nat.le_of_ble_eq_true rfl) (Nat.le_of_ble_eq_true rfl) kk) ?_
          refine Sx.up (fun _ kk => r_aload_n 66 dX5_readProduct_65 rfl rfl kk) ?_
          refine Sx.up (fun _ kk => r_iload_n 67 dX5_readProduct_66 rfl rfl kk) ?_
          obtain ⟨_, ⟨E9, rfl, y9⟩, hcl9⟩ := rd_part y8 (slk_mono (by decide) (slk_adv (liv_or hc) hs1)) hw hl hex
          refine Sx.up (fun _ kk => r_callV (M := mX5_readProduct) (pc := 67) 70 dX5_readProduct_67 rfl k5_217 hcl9 rfl rfl (by first | with_reducible assumption | with_reducible exact cr_bs hC | rfl) (by decide) rfl (by first | with_reducible assumption | with_reducible exact cr_bn hC | exact Nat.le_of_ble_eq_true rfl) (Nat.le_of_ble_eq_true rfl) kk) ?_
          refine Sx.up (fun _ kk => r_aload_n 71 dX5_readProduct_70 rfl rfl kk) ?_
          refine Sx.up (fun _ kk => r_getR 74 dX5_readProduct_71 rfl f5_35 rfl (by first | with_reducible assumption | with_reducible exact cr_bs hC | rfl) (by first | with_reducible assumption | with_reducible exact cr_bn hC | exact Nat.le_of_ble_eq_true rfl) (rd_into y9) kk) ?_
          refine Sx.up (fun _ kk => r_getR 77 dX5_readProduct_74 rfl f5_192 rfl (by first | with_reducible assumption | with_reducible exact cr_bs hC | rfl) (by first | with_reducible assumption | with_reducible exact cr_bn hC | exact Nat.le_of_ble_eq_true rfl) (rd_rule y9) kk) ?_
          refine Sx.up (fun _ kk => r_iload_n 78 dX5_readProduct_77 rfl rfl kk) ?_
          obtain ⟨_, ⟨E10, rfl, y10⟩, hcl10⟩ := rd_radd (d := d + e + 8) y9 (slk_mono (by decide) (slk_ext (ex_part l _) (slk_adv (liv_or hc) hs1)))
          refine Sx.up (fun _ kk => r_callV (M := mX5_readProduct) (pc := 78) 81 dX5_readProduct_78 rfl k5_198 hcl10 rfl rfl (by first | with_reducible assumption | with_reducible exact cr_bs hC | rfl) (by decide) rfl (by first | with_reducible assumption | with_reducible exact cr_bn hC | exact Nat.le_of_ble_eq_true rfl) (Nat.le_of_ble_eq_true rfl) kk) ?_
          refine Sx.up (fun _ kk => r_iinc (1) 84 dX5_readProduct_81 rfl rfl (by decide) (by decide) rfl kk) ?_
          refine Sx.up (fun _ kk => r_goto 7 dX5_readProduct_84 (by decide) kk) ?_
          rw [hy hc]
          have hgo := hq (_, prodB T (exprS T l) s) ⟨by unfold prodB; rw [hop]; exact y10, by unfold prodB; exact slk_ru (slk_ext (ex_part l _) (slk_adv (liv_or hc) hs1))⟩
          rw [nI_pp]
          exact Sx.less (by exact ⟨rfl, rfl, rfl, trivial⟩) hgo
        · have hc : prodC T s = true := by unfold prodC; rw [Bool.or_eq_true]; exact (by first | exact Or.inl (bnz h23) | exact Or.inr (bnz h35))
          have hop : (if sgS T 42 s = true then (-15 : Int32) else -16) = -15 := if_pos (bnz h47)
          refine Sx.up (fun _ kk => r_bipush (-15) 52 dX5_readProduct_50 rfl (by decide) kk) ?_
          refine Sx.up (fun _ kk => r_goto 57 dX5_readProduct_52 (by decide) kk) ?_
          refine Sx.up (fun _ kk => r_istore_n 58 dX5_readProduct_57 rfl (by decide) rfl kk) ?_
          refine Sx.up (fun _ kk => r_aload_n 59 dX5_readProduct_58 rfl rfl kk) ?_
          refine Sx.up (fun _ kk => r_getR 62 dX5_readProduct_59 rfl f5_19 rfl (by first | with_reducible assumption | with_reducible exact cr_bs hC | rfl) (by first | with_reducible assumption | with_reducible exact cr_bn hC | exact Nat.le_of_ble_eq_true rfl) (rd_tok y1) kk) ?_
          obtain ⟨_, ⟨E11, rfl, y11⟩, hcl11⟩ := rd_adv (d := d + e + 4) y1
          refine Sx.up (fun _ kk => r_callV (M := mX5_readProduct) (pc := 62) 65 dX5_readProduct_62 rfl k5_131 hcl11 rfl rfl (by first | with_reducible assumption | with_reducible exact cr_bs hC | rfl) (by decide) rfl (by first | with_reducible assumption | with_reducible exact cr_bn hC | exact Nat.le_of_ble_eq_true rfl) (Nat.le_of_ble_eq_true rfl) kk) ?_
          refine Sx.up (fun _ kk => r_aload_n 66 dX5_readProduct_65 rfl rfl kk) ?_
          refine Sx.up (fun _ kk => r_iload_n 67 dX5_readProduct_66 rfl rfl kk) ?_
          obtain ⟨_, ⟨E12, rfl, y12⟩, hcl12⟩ := rd_part y11 (slk_mono (by decide) (slk_adv (liv_or hc) hs1)) hw hl hex
          refine Sx.up (fun _ kk => r_callV (M := mX5_readProduct) (pc := 67) 70 dX5_readProduct_67 rfl k5_217 hcl12 rfl rfl (by first | with_reducible assumption | with_reducible exact cr_bs hC | rfl) (by decide) rfl (by first | with_reducible assumption | with_reducible exact cr_bn hC | exact Nat.le_of_ble_eq_true rfl) (Nat.le_of_ble_eq_true rfl) kk) ?_
          refine Sx.up (fun _ kk => r_aload_n 71 dX5_readProduct_70 rfl rfl kk) ?_
          refine Sx.up (fun _ kk => r_getR 74 dX5_readProduct_71 rfl f5_35 rfl (by first | with_reducible assumption | with_reducible exact cr_bs hC | rfl) (by first | with_reducible assumption | with_reducible exact cr_bn hC | exact Nat.le_of_ble_eq_true rfl) (rd_into y12) kk) ?_
          refine Sx.up (fun _ kk => r_getR 77 dX5_readProduct_74 rfl f5_192 rfl (by first | with_reducible assumption | with_reducible exact cr_bs hC | rfl) (by first | with_reducible assumption | with_reducible exact cr_bn hC | exact Nat.le_of_ble_eq_true rfl) (rd_rule y12) kk) ?_
          refine Sx.up (fun _ kk => r_iload_n 78 dX5_readProduct_77 rfl rfl kk) ?_
          obtain ⟨_, ⟨E13, rfl, y13⟩, hcl13⟩ := rd_radd (d := d + e + 8) y12 (slk_mono (by decide) (slk_ext (ex_part l _) (slk_adv (liv_or hc) hs1)))
          refine Sx.up (fun _ kk => r_callV (M := mX5_readProduct) (pc := 78) 81 dX5_readProduct_78 rfl k5_198 hcl13 rfl rfl (by first | with_reducible assumption | with_reducible exact cr_bs hC | rfl) (by decide) rfl (by first | with_reducible assumption | with_reducible exact cr_bn hC | exact Nat.le_of_ble_eq_true rfl) (Nat.le_of_ble_eq_true rfl) kk) ?_
          refine Sx.up (fun _ kk => r_iinc (1) 84 dX5_readProduct_81 rfl rfl (by decide) (by decide) rfl kk) ?_
          refine Sx.up (fun _ kk => r_goto 7 dX5_readProduct_84 (by decide) kk) ?_
          rw [hy hc]
          have hgo := hq (_, prodB T (exprS T l) s) ⟨by unfold prodB; rw [hop]; exact y13, by unfold prodB; exact slk_ru (slk_ext (ex_part l _) (slk_adv (liv_or hc) hs1))⟩
          rw [nI_pp]
          exact Sx.less (by exact ⟨rfl, rfl, rfl, trivial⟩) hgo
set_option maxHeartbeats 16000000 in
set_option maxRecDepth 20000 in
theorem rd_sum {d e l : Nat} {E0 E : HP} {T : TX} {b : Nat} {s : PS} {w : Int32} (y1 : CRd E0 E T b s) (hs : slk 1 s) (hw : w = nI (6 - (l + 1))) (hl : l + 1 ≤ 6) (hex : ∀ {E : HP} {s : PS} {w : Int32}, CRd E0 E T b s → slk 1 s → w = nI (6 - l) → ∃ o, (∃ E2, o = (.inl none, E2, 137) ∧ CRd E0 E2 T b (exprS T l s)) ∧ Cl yX5_readExpr mX5_readExpr (d + e + 8) 0 0 [.ref 41, .int w] E 137 o) : ∃ o, (∃ E2, o = (.inl none, E2, 137) ∧ CRd E0 E2 T b (sumS T (exprS T l) s)) ∧ Cl yX5_readSum mX5_readSum (d + e + 8 + 3) 0 0 [.ref 41, .int w] E 137 o := by
  have hb := rd_b y1
  have hbs : sh b = (0, 0) := bo_1 (rd_bed y1)
  have hbn : b < 137 := by omega
  have hb5 : sh (b + 5) = (7, 0) := (rd_bed y1).2.2.2.2.2.2.2.2.2.1.1
  have hb5n : b + 5 < 137 := by omega
  have hs0 : slk 1 (prodS T (exprS T l) s) := slk_ext (ex_prod l s) hs
  refine Cx.of (by decide) rfl (fun q => by cases q) rfl rfl (Nat.le_of_ble_eq_true rfl) ?_
  show Sx _ _ _ _ _ 0 [some (.ref 41), some (.int (w)), none, none] [] _ _
  have loop := sxUp (σ := HP × PS) (S := fun k9 q => Sx mX5_readSum (d + e + 8 + 3) 0 0 (fun o => ∃ E2, o = (.inl none, E2, 137) ∧ CRd E0 E2 T b (loopS (sumC T) (sumB T (exprS T l)) (600 - k9) q.2)) 7 [some (.ref 41), some (.int w), some (.int (nI k9)), none] [] q.1 137) (Inv := fun k9 q => CRd E0 q.1 T b q.2 ∧ slk 1 q.2) (a := 0) (l := 600) (by omega) ?_ ?_
  refine Sx.up (fun _ kk => r_aload_n 1 dX5_readSum_0 rfl rfl kk) ?_
  refine Sx.up (fun _ kk => r_iload_n 2 dX5_readSum_1 rfl rfl kk) ?_
  obtain ⟨_, ⟨E2, rfl, y2⟩, hcl2⟩ := rd_prod y1 hs hw hl hex
  refine Sx.up (fun _ kk => r_callV (M := mX5_readSum) (pc := 2) 5 dX5_readSum_2 rfl k5_214 hcl2 rfl rfl (by first | with_reducible assumption | with_reducible exact cr_bs hC | rfl) (by decide) rfl (by first | with_reducible assumption | with_reducible exact cr_bn hC | exact Nat.le_of_ble_eq_true rfl) (Nat.le_of_ble_eq_true rfl) kk) ?_
  refine Sx.up (fun _ kk => r_iconst (0) 6 dX5_readSum_5 rfl (by decide) kk) ?_
  refine Sx.up (fun _ kk => r_istore_n 7 dX5_readSum_6 rfl (by decide) rfl kk) ?_
  exact Sx.less (by exact ⟨rfl, rfl, rfl, trivial⟩) (loop (E2, _) ⟨y2, hs0⟩)
  · intro q ⟨y1, hs1⟩
    refine Sx.up (fun _ kk => r_iload_n 8 dX5_readSum_7 rfl rfl kk) ?_
    refine Sx.up (fun _ kk => r_sipush (600) 11 dX5_readSum_8 rfl (by decide) kk) ?_
    refine Sx.up (fun _ kk => r_icmp_ge 14 87 dX5_readSum_11 rfl (by decide) (fun _ => kk) (fun h11 => absurd (by decide) h11)) ?_
    refine ⟨_, ?_, r_vret dX5_readSum_87 rfl rfl rfl⟩
    exact ⟨_, rfl, y1⟩
  · intro k9 q hk0 hk9 ⟨y1, hs1⟩ hq
    obtain ⟨E, s⟩ := q
    have y1 : CRd E0 E T b s := y1
    have hs1 : slk 1 s := hs1
    obtain ⟨f9, hf9⟩ : ∃ f9, 600 - k9 = f9 + 1 := ⟨600 - k9 - 1, by omega⟩
    have hy : (sumC T) s = true → loopS (sumC T) (sumB T (exprS T l)) (600 - k9) s = loopS (sumC T) (sumB T (exprS T l)) (600 - (k9 + 1)) (sumB T (exprS T l) s) := fun z => by rw [hf9, show 600 - (k9 + 1) = f9 by omega]; exact if_pos z
    have hn : ¬ (sumC T) s = true → loopS (sumC T) (sumB T (exprS T l)) (600 - k9) s = s := fun z => by rw [hf9]; exact if_neg z
    refine Sx.up (fun _ kk => r_iload_n 8 dX5_readSum_7 rfl rfl kk) ?_
    refine Sx.up (fun _ kk => r_sipush (600) 11 dX5_readSum_8 rfl (by decide) kk) ?_
    refine Sx.up (fun _ kk => r_icmp_ge 14 87 dX5_readSum_11 rfl (by decide) (fun h11 => absurd h11 (nI_ge (b := 600) hk9 (by omega))) (fun _ => kk)) ?_
    refine Sx.up (fun _ kk => r_aload_n 15 dX5_readSum_14 rfl rfl kk) ?_
    refine Sx.up (fun _ kk => r_getR 18 dX5_readSum_15 rfl f5_19 rfl (by first | with_reducible assumption | with_reducible exact cr_bs hC | rfl) (by first | with_reducible assumption | with_reducible exact cr_bn hC | exact Nat.le_of_ble_eq_true rfl) (rd_tok y1) kk) ?_
    refine Sx.up (fun _ kk => r_bipush (43) 20 dX5_readSum_18 rfl (by decide) kk) ?_
    refine Sx.up (fun _ kk => r_callV (M := mX5_readSum) (pc := 20) 23 dX5_readSum_20 rfl k5_141 (rd_sign (d := d + e + 8 + 1) y1) rfl rfl (by first | with_reducible assumption | with_reducible exact cr_bs hC | rfl) (by decide) rfl (by first | with_reducible assumption | with_reducible exact cr_bn hC | exact Nat.le_of_ble_eq_true rfl) (Nat.le_of_ble_eq_true rfl) kk) ?_
    refine Sx.br (fun _ ka kb => r_if_ne 26 38 dX5_readSum_23 rfl (by decide) ka kb) (by first | exact em1 | exact em2) (fun h23 => ?_) (fun h23 => ?_)
    · refine Sx.up (fun _ kk => r_aload_n 39 dX5_readSum_38 rfl rfl kk) ?_
      refine Sx.up (fun _ kk => r_getR 42 dX5_readSum_39 rfl f5_19 rfl (by first | with_reducible assumption | with_reducible exact cr_bs hC | rfl) (by first | with_reducible assumption | with_reducible exact cr_bn hC | exact Nat.le_of_ble_eq_true rfl) (rd_tok y1) kk) ?_
      refine Sx.up (fun _ kk => r_bipush (43) 44 dX5_readSum_42 rfl (by decide) kk) ?_
      refine Sx.up (fun _ kk => r_callV (M := mX5_readSum) (pc := 44) 47 dX5_readSum_44 rfl k5_141 (rd_sign (d := d + e + 8 + 1) y1) rfl rfl (by first | with_reducible assumption | with_reducible exact cr_bs hC | rfl) (by decide) rfl (by first | with_reducible assumption | with_reducible exact cr_bn hC | exact Nat.le_of_ble_eq_true rfl) (Nat.le_of_ble_eq_true rfl) kk) ?_
      refine Sx.br (fun _ ka kb => r_if_eq 50 55 dX5_readSum_47 rfl (by decide) ka kb) (by first | exact em1 | exact em2) (fun h47 => ?_) (fun h47 => ?_)
      · have hc : sumC T s = true := by unfold sumC; rw [Bool.or_eq_true]; exact (by first | exact Or.inl (bnz h23) | exact Or.inr (bnz h35))
        have hop : (if sgS T 43 s = true then (-13 : Int32) else -14) = -14 := if_neg (bz h47)
        refine Sx.up (fun _ kk => r_bipush (-14) 57 dX5_readSum_55 rfl (by decide) kk) ?_
        refine Sx.up (fun _ kk => r_istore_n 58 dX5_readSum_57 rfl (by decide) rfl kk) ?_
        refine Sx.up (fun _ kk => r_aload_n 59 dX5_readSum_58 rfl rfl kk) ?_
        refine Sx.up (fun _ kk => r_getR 62 dX5_readSum_59 rfl f5_19 rfl (by first | with_reducible assumption | with_reducible exact cr_bs hC | rfl) (by first | with_reducible assumption | with_reducible exact cr_bn hC | exact Nat.le_of_ble_eq_true rfl) (rd_tok y1) kk) ?_
        obtain ⟨_, ⟨E2, rfl, y2⟩, hcl2⟩ := rd_adv (d := d + e + 5) y1
        refine Sx.up (fun _ kk => r_callV (M := mX5_readSum) (pc := 62) 65 dX5_readSum_62 rfl k5_131 hcl2 rfl rfl (by first | with_reducible assumption | with_reducible exact cr_bs hC | rfl) (by decide) rfl (by first | with_reducible assumption | with_reducible exact cr_bn hC | exact Nat.le_of_ble_eq_true rfl) (Nat.le_of_ble_eq_true rfl) kk) ?_
        refine Sx.up (fun _ kk => r_aload_n 66 dX5_readSum_65 rfl rfl kk) ?_
        refine Sx.up (fun _ kk => r_iload_n 67 dX5_readSum_66 rfl rfl kk) ?_
        obtain ⟨_, ⟨E3, rfl, y3⟩, hcl3⟩ := rd_prod y2 (slk_mono (by decide) (slk_adv (liv_or hc) hs1)) hw hl hex
        refine Sx.up (fun _ kk => r_callV (M := mX5_readSum) (pc := 67) 70 dX5_readSum_67 rfl k5_214 hcl3 rfl rfl (by first | with_reducible assumption | with_reducible exact cr_bs hC | rfl) (by decide) rfl (by first | with_reducible assumption | with_reducible exact cr_bn hC | exact Nat.le_of_ble_eq_true rfl) (Nat.le_of_ble_eq_true rfl) kk) ?_
        refine Sx.up (fun _ kk => r_aload_n 71 dX5_readSum_70 rfl rfl kk) ?_
        refine Sx.up (fun _ kk => r_getR 74 dX5_readSum_71 rfl f5_35 rfl (by first | with_reducible assumption | with_reducible exact cr_bs hC | rfl) (by first | with_reducible assumption | with_reducible exact cr_bn hC | exact Nat.le_of_ble_eq_true rfl) (rd_into y3) kk) ?_
        refine Sx.up (fun _ kk => r_getR 77 dX5_readSum_74 rfl f5_192 rfl (by first | with_reducible assumption | with_reducible exact cr_bs hC | rfl) (by first | with_reducible assumption | with_reducible exact cr_bn hC | exact Nat.le_of_ble_eq_true rfl) (rd_rule y3) kk) ?_
        refine Sx.up (fun _ kk => r_iload_n 78 dX5_readSum_77 rfl rfl kk) ?_
        obtain ⟨_, ⟨E4, rfl, y4⟩, hcl4⟩ := rd_radd (d := d + e + 9) y3 (slk_mono (by decide) (slk_ext (ex_prod l _) (slk_adv (liv_or hc) hs1)))
        refine Sx.up (fun _ kk => r_callV (M := mX5_readSum) (pc := 78) 81 dX5_readSum_78 rfl k5_198 hcl4 rfl rfl (by first | with_reducible assumption | with_reducible exact cr_bs hC | rfl) (by decide) rfl (by first | with_reducible assumption | with_reducible exact cr_bn hC | exact Nat.le_of_ble_eq_true rfl) (Nat.le_of_ble_eq_true rfl) kk) ?_
        refine Sx.up (fun _ kk => r_iinc (1) 84 dX5_readSum_81 rfl rfl (by decide) (by decide) rfl kk) ?_
        refine Sx.up (fun _ kk => r_goto 7 dX5_readSum_84 (by decide) kk) ?_
        rw [hy hc]
        have hgo := hq (_, sumB T (exprS T l) s) ⟨by unfold sumB; rw [hop]; exact y4, by unfold sumB; exact slk_ru (slk_ext (ex_prod l _) (slk_adv (liv_or hc) hs1))⟩
        rw [nI_pp]
        exact Sx.less (by exact ⟨rfl, rfl, rfl, trivial⟩) hgo
      · have hc : sumC T s = true := by unfold sumC; rw [Bool.or_eq_true]; exact (by first | exact Or.inl (bnz h23) | exact Or.inr (bnz h35))
        have hop : (if sgS T 43 s = true then (-13 : Int32) else -14) = -13 := if_pos (bnz h47)
        refine Sx.up (fun _ kk => r_bipush (-13) 52 dX5_readSum_50 rfl (by decide) kk) ?_
        refine Sx.up (fun _ kk => r_goto 57 dX5_readSum_52 (by decide) kk) ?_
        refine Sx.up (fun _ kk => r_istore_n 58 dX5_readSum_57 rfl (by decide) rfl kk) ?_
        refine Sx.up (fun _ kk => r_aload_n 59 dX5_readSum_58 rfl rfl kk) ?_
        refine Sx.up (fun _ kk => r_getR 62 dX5_readSum_59 rfl f5_19 rfl (by first | with_reducible assumption | with_reducible exact cr_bs hC | rfl) (by first | with_reducible assumption | with_reducible exact cr_bn hC | exact Nat.le_of_ble_eq_true rfl) (rd_tok y1) kk) ?_
        obtain ⟨_, ⟨E5, rfl, y5⟩, hcl5⟩ := rd_adv (d := d + e + 5) y1
        refine Sx.up (fun _ kk => r_callV (M := mX5_readSum) (pc := 62) 65 dX5_readSum_62 rfl k5_131 hcl5 rfl rfl (by first | with_reducible assumption | with_reducible exact cr_bs hC | rfl) (by decide) rfl (by first | with_reducible assumption | with_reducible exact cr_bn hC | exact Nat.le_of_ble_eq_true rfl) (Nat.le_of_ble_eq_true rfl) kk) ?_
        refine Sx.up (fun _ kk => r_aload_n 66 dX5_readSum_65 rfl rfl kk) ?_
        refine Sx.up (fun _ kk => r_iload_n 67 dX5_readSum_66 rfl rfl kk) ?_
        obtain ⟨_, ⟨E6, rfl, y6⟩, hcl6⟩ := rd_prod y5 (slk_mono (by decide) (slk_adv (liv_or hc) hs1)) hw hl hex
        refine Sx.up (fun _ kk => r_callV (M := mX5_readSum) (pc := 67) 70 dX5_readSum_67 rfl k5_214 hcl6 rfl rfl (by first | with_reducible assumption | with_reducible exact cr_bs hC | rfl) (by decide) rfl (by first | with_reducible assumption | with_reducible exact cr_bn hC | exact Nat.le_of_ble_eq_true rfl) (Nat.le_of_ble_eq_true rfl) kk) ?_
        refine Sx.up (fun _ kk => r_aload_n 71 dX5_readSum_70 rfl rfl kk) ?_
        refine Sx.up (fun _ kk => r_getR 74 dX5_readSum_71 rfl f5_35 rfl (by first | with_reducible assumption | with_reducible exact cr_bs hC | rfl) (by first | with_reducible assumption | with_reducible exact cr_bn hC | exact Nat.le_of_ble_eq_true rfl) (rd_into y6) kk) ?_
        refine Sx.up (fun _ kk => r_getR 77 dX5_readSum_74 rfl f5_192 rfl (by first | with_reducible assumption | with_reducible exact cr_bs hC | rfl) (by first | with_reducible assumption | with_reducible exact cr_bn hC | exact Nat.le_of_ble_eq_true rfl) (rd_rule y6) kk) ?_
        refine Sx.up (fun _ kk => r_iload_n 78 dX5_readSum_77 rfl rfl kk) ?_
        obtain ⟨_, ⟨E7, rfl, y7⟩, hcl7⟩ := rd_radd (d := d + e + 9) y6 (slk_mono (by decide) (slk_ext (ex_prod l _) (slk_adv (liv_or hc) hs1)))
        refine Sx.up (fun _ kk => r_callV (M := mX5_readSum) (pc := 78) 81 dX5_readSum_78 rfl k5_198 hcl7 rfl rfl (by first | with_reducible assumption | with_reducible exact cr_bs hC | rfl) (by decide) rfl (by first | with_reducible assumption | with_reducible exact cr_bn hC | exact Nat.le_of_ble_eq_true rfl) (Nat.le_of_ble_eq_true rfl) kk) ?_
        refine Sx.up (fun _ kk => r_iinc (1) 84 dX5_readSum_81 rfl rfl (by decide) (by decide) rfl kk) ?_
        refine Sx.up (fun _ kk => r_goto 7 dX5_readSum_84 (by decide) kk) ?_
        rw [hy hc]
        have hgo := hq (_, sumB T (exprS T l) s) ⟨by unfold sumB; rw [hop]; exact y7, by unfold sumB; exact slk_ru (slk_ext (ex_prod l _) (slk_adv (liv_or hc) hs1))⟩
        rw [nI_pp]
        exact Sx.less (by exact ⟨rfl, rfl, rfl, trivial⟩) hgo
    · refine Sx.up (fun _ kk => r_aload_n 27 dX5_readSum_26 rfl rfl kk) ?_
      refine Sx.up (fun _ kk => r_getR 30 dX5_readSum_27 rfl f5_19 rfl (by first | with_reducible assumption | with_reducible exact cr_bs hC | rfl) (by first | with_reducible assumption | with_reducible exact cr_bn hC | exact Nat.le_of_ble_eq_true rfl) (rd_tok y1) kk) ?_
      refine Sx.up (fun _ kk => r_bipush (45) 32 dX5_readSum_30 rfl (by decide) kk) ?_
      refine Sx.up (fun _ kk => r_callV (M := mX5_readSum) (pc := 32) 35 dX5_readSum_32 rfl k5_141 (rd_sign (d := d + e + 8 + 1) y1) rfl rfl (by first | with_reducible assumption | with_reducible exact cr_bs hC | rfl) (by decide) rfl (by first | with_reducible assumption | with_reducible exact cr_bn hC | exact Nat.le_of_ble_eq_true rfl) (Nat.le_of_ble_eq_true rfl) kk) ?_
      refine Sx.br (fun _ ka kb => r_if_eq 38 87 dX5_readSum_35 rfl (by decide) ka kb) (by first | exact em1 | exact em2) (fun h35 => ?_) (fun h35 => ?_)
      · refine ⟨_, ?_, r_vret dX5_readSum_87 rfl rfl rfl⟩
        exact ⟨_, rfl, by rw [hn (fun z => by unfold sumC at z; rw [Bool.or_eq_true] at z; exact z.elim (bz h23) (bz h35))]; exact y1⟩
      · refine Sx.up (fun _ kk => r_aload_n 39 dX5_readSum_38 rfl rfl kk) ?_
        refine Sx.up (fun _ kk => r_getR 42 dX5_readSum_39 rfl f5_19 rfl (by first | with_reducible assumption | with_reducible exact cr_bs hC | rfl) (by first | with_reducible assumption | with_reducible exact cr_bn hC | exact Nat.le_of_ble_eq_true rfl) (rd_tok y1) kk) ?_
        refine Sx.up (fun _ kk => r_bipush (43) 44 dX5_readSum_42 rfl (by decide) kk) ?_
        refine Sx.up (fun _ kk => r_callV (M := mX5_readSum) (pc := 44) 47 dX5_readSum_44 rfl k5_141 (rd_sign (d := d + e + 8 + 1) y1) rfl rfl (by first | with_reducible assumption | with_reducible exact cr_bs hC | rfl) (by decide) rfl (by first | with_reducible assumption | with_reducible exact cr_bn hC | exact Nat.le_of_ble_eq_true rfl) (Nat.le_of_ble_eq_true rfl) kk) ?_
        refine Sx.br (fun _ ka kb => r_if_eq 50 55 dX5_readSum_47 rfl (by decide) ka kb) (by first | exact em1 | exact em2) (fun h47 => ?_) (fun h47 => ?_)
        · have hc : sumC T s = true := by unfold sumC; rw [Bool.or_eq_true]; exact (by first | exact Or.inl (bnz h23) | exact Or.inr (bnz h35))
          have hop : (if sgS T 43 s = true then (-13 : Int32) else -14) = -14 := if_neg (bz h47)
          refine Sx.up (fun _ kk => r_bipush (-14) 57 dX5_readSum_55 rfl (by decide) kk) ?_
          refine Sx.up (fun _ kk => r_istore_n 58 dX5_readSum_57 rfl (by decide) rfl kk) ?_
          refine Sx.up (fun _ kk => r_aload_n 59 dX5_readSum_58 rfl rfl kk) ?_
          refine Sx.up (fun _ kk => r_getR 62 dX5_readSum_59 rfl f5_19 rfl (by first | with_reducible assumption | with_reducible exact cr_bs hC | rfl) (by first | with_reducible assumption | with_reducible exact cr_bn hC | exact Nat.le_of_ble_eq_true rfl) (rd_tok y1) kk) ?_
          obtain ⟨_, ⟨E8, rfl, y8⟩, hcl8⟩ := rd_adv (d := d + e + 5) y1
          refine Sx.up (fun _ kk => r_callV (M := mX5_readSum) (pc := 62) 65 dX5_readSum_62 rfl k5_131 hcl8 rfl rfl (by first | with_reducible assumption | with_reducible exact cr_bs hC | rfl) (by decide) rfl (by first | with_reducible assumption | with_reducible exact cr_bn hC | exact Nat.le_of_ble_eq_true rfl) (Nat.le_of_ble_eq_true rfl) kk) ?_
          refine Sx.up (fun _ kk => r_aload_n 66 dX5_readSum_65 rfl rfl kk) ?_
          refine Sx.up (fun _ kk => r_iload_n 67 dX5_readSum_66 rfl rfl kk) ?_
          obtain ⟨_, ⟨E9, rfl, y9⟩, hcl9⟩ := rd_prod y8 (slk_mono (by decide) (slk_adv (liv_or hc) hs1)) hw hl hex
          refine Sx.up (fun _ kk => r_callV (M := mX5_readSum) (pc := 67) 70 dX5_readSum_67 rfl k5_214 hcl9 rfl rfl (by first | with_reducible assumption | with_reducible exact cr_bs hC | rfl) (by decide) rfl (by first | with_reducible assumption | with_reducible exact cr_bn hC | exact Nat.le_of_ble_eq_true rfl) (Nat.le_of_ble_eq_true rfl) kk) ?_
          refine Sx.up (fun _ kk => r_aload_n 71 dX5_readSum_70 rfl rfl kk) ?_
          refine Sx.up (fun _ kk => r_getR 74 dX5_readSum_71 rfl f5_35 rfl (by first | with_reducible assumption | with_reducible exact cr_bs hC | rfl) (by first | with_reducible assumption | with_reducible exact cr_bn hC | exact Nat.le_of_ble_eq_true rfl) (rd_into y9) kk) ?_
          refine Sx.up (fun _ kk => r_getR 77 dX5_readSum_74 rfl f5_192 rfl (by first | with_reducible assumption | with_reducible exact cr_bs hC | rfl) (by first | with_reducible assumption | with_reducible exact cr_bn hC | exact Nat.le_of_ble_eq_true rfl) (rd_rule y9) kk) ?_
          refine Sx.up (fun _ kk => r_iload_n 78 dX5_readSum_77 rfl rfl kk) ?_
          obtain ⟨_, ⟨E10, rfl, y10⟩, hcl10⟩ := rd_radd (d := d + e + 9) y9 (slk_mono (by decide) (slk_ext (ex_prod l _) (slk_adv (liv_or hc) hs1)))
          refine Sx.up (fun _ kk => r_callV (M := mX5_readSum) (pc := 78) 81 dX5_readSum_78 rfl k5_198 hcl10 rfl rfl (by first | with_reducible assumption | with_reducible exact cr_bs hC | rfl) (by decide) rfl (by first | with_reducible assumption | with_reducible exact cr_bn hC | exact Nat.le_of_ble_eq_true rfl) (Nat.le_of_ble_eq_true rfl) kk) ?_
          refine Sx.up (fun _ kk => r_iinc (1) 84 dX5_readSum_81 rfl rfl (by decide) (by decide) rfl kk) ?_
          refine Sx.up (fun _ kk => r_goto 7 dX5_readSum_84 (by decide) kk) ?_
          rw [hy hc]
          have hgo := hq (_, sumB T (exprS T l) s) ⟨by unfold sumB; rw [hop]; exact y10, by unfold sumB; exact slk_ru (slk_ext (ex_prod l _) (slk_adv (liv_or hc) hs1))⟩
          rw [nI_pp]
          exact Sx.less (by exact ⟨rfl, rfl, rfl, trivial⟩) hgo
        · have hc : sumC T s = true := by unfold sumC; rw [Bool.or_eq_true]; exact (by first | exact Or.inl (bnz h23) | exact Or.inr (bnz h35))
          have hop : (if sgS T 43 s = true then (-13 : Int32) else -14) = -13 := if_pos (bnz h47)
          refine Sx.up (fun _ kk => r_bipush (-13) 52 dX5_readSum_50 rfl (by decide) kk) ?_
          refine Sx.up (fun _ kk => r_goto 57 dX5_readSum_52 (by decide) kk) ?_
          refine Sx.up (fun _ kk => r_istore_n 58 dX5_readSum_57 rfl (by decide) rfl kk) ?_
          refine Sx.up (fun _ kk => r_aload_n 59 dX5_readSum_58 rfl rfl kk) ?_
          refine Sx.up (fun _ kk => r_getR 62 dX5_readSum_59 rfl f5_19 rfl (by first | with_reducible assumption | with_reducible exact cr_bs hC | rfl) (by first | with_reducible assumption | with_reducible exact cr_bn hC | exact Nat.le_of_ble_eq_true rfl) (rd_tok y1) kk) ?_
          obtain ⟨_, ⟨E11, rfl, y11⟩, hcl11⟩ := rd_adv (d := d + e + 5) y1
          refine Sx.up (fun _ kk => r_callV (M := mX5_readSum) (pc := 62) 65 dX5_readSum_62 rfl k5_131 hcl11 rfl rfl (by first | with_reducible assumption | with_reducible exact cr_bs hC | rfl) (by decide) rfl (by first | with_reducible assumption | with_reducible exact cr_bn hC | exact Nat.le_of_ble_eq_true rfl) (Nat.le_of_ble_eq_true rfl) kk) ?_
          refine Sx.up (fun _ kk => r_aload_n 66 dX5_readSum_65 rfl rfl kk) ?_
          refine Sx.up (fun _ kk => r_iload_n 67 dX5_readSum_66 rfl rfl kk) ?_
          obtain ⟨_, ⟨E12, rfl, y12⟩, hcl12⟩ := rd_prod y11 (slk_mono (by decide) (slk_adv (liv_or hc) hs1)) hw hl hex
          refine Sx.up (fun _ kk => r_callV (M := mX5_readSum) (pc := 67) 70 dX5_readSum_67 rfl k5_214 hcl12 rfl rfl (by first | with_reducible assumption | with_reducible exact cr_bs hC | rfl) (by decide) rfl (by first | with_reducible assumption | with_reducible exact cr_bn hC | exact Nat.le_of_ble_eq_true rfl) (Nat.le_of_ble_eq_true rfl) kk) ?_
          refine Sx.up (fun _ kk => r_aload_n 71 dX5_readSum_70 rfl rfl kk) ?_
          refine Sx.up (fun _ kk => r_getR 74 dX5_readSum_71 rfl f5_35 rfl (by first | with_reducible assumption | with_reducible exact cr_bs hC | rfl) (by first | with_reducible assumption | with_reducible exact cr_bn hC | exact Nat.le_of_ble_eq_true rfl) (rd_into y12) kk) ?_
          refine Sx.up (fun _ kk => r_getR 77 dX5_readSum_74 rfl f5_192 rfl (by first | with_reducible assumption | with_reducible exact cr_bs hC | rfl) (by first | with_reducible assumption | with_reducible exact cr_bn hC | exact Nat.le_of_ble_eq_true rfl) (rd_rule y12) kk) ?_
          refine Sx.up (fun _ kk => r_iload_n 78 dX5_readSum_77 rfl rfl kk) ?_
          obtain ⟨_, ⟨E13, rfl, y13⟩, hcl13⟩ := rd_radd (d := d + e + 9) y12 (slk_mono (by decide) (slk_ext (ex_prod l _) (slk_adv (liv_or hc) hs1)))
          refine Sx.up (fun _ kk => r_callV (M := mX5_readSum) (pc := 78) 81 dX5_readSum_78 rfl k5_198 hcl13 rfl rfl (by first | with_reducible assumption | with_reducible exact cr_bs hC | rfl) (by decide) rfl (by first | with_reducible assumption | with_reducible exact cr_bn hC | exact Nat.le_of_ble_eq_true rfl) (Nat.le_of_ble_eq_true rfl) kk) ?_
          refine Sx.up (fun _ kk => r_iinc (1) 84 dX5_readSum_81 rfl rfl (by decide) (by decide) rfl kk) ?_
          refine Sx.up (fun _ kk => r_goto 7 dX5_readSum_84 (by decide) kk) ?_
          rw [hy hc]
          have hgo := hq (_, sumB T (exprS T l) s) ⟨by unfold sumB; rw [hop]; exact y13, by unfold sumB; exact slk_ru (slk_ext (ex_prod l _) (slk_adv (liv_or hc) hs1))⟩
          rw [nI_pp]
          exact Sx.less (by exact ⟨rfl, rfl, rfl, trivial⟩) hgo
set_option maxHeartbeats 16000000 in
set_option maxRecDepth 20000 in
theorem rd_test {d e l : Nat} {E0 E : HP} {T : TX} {b : Nat} {s : PS} {w : Int32} (y1 : CRd E0 E T b s) (hs : slk 1 s) (hw : w = nI (6 - (l + 1))) (hl : l + 1 ≤ 6) (hex : ∀ {E : HP} {s : PS} {w : Int32}, CRd E0 E T b s → slk 1 s → w = nI (6 - l) → ∃ o, (∃ E2, o = (.inl none, E2, 137) ∧ CRd E0 E2 T b (exprS T l s)) ∧ Cl yX5_readExpr mX5_readExpr (d + e + 8) 0 0 [.ref 41, .int w] E 137 o) : ∃ o, (∃ E2, o = (.inl none, E2, 137) ∧ CRd E0 E2 T b (testS T (exprS T l) s)) ∧ Cl yX5_readTest mX5_readTest (d + e + 8 + 4) 0 0 [.ref 41, .int w] E 137 o := by
  have hb := rd_b y1
  have hbs : sh b = (0, 0) := bo_1 (rd_bed y1)
  have hbn : b < 137 := by omega
  have hb5 : sh (b + 5) = (7, 0) := (rd_bed y1).2.2.2.2.2.2.2.2.2.1.1
  have hb5n : b + 5 < 137 := by omega
  have hs0 : slk 1 (sumS T (exprS T l) s) := slk_ext (ex_sum l s) hs
  refine Cx.of (by decide) rfl (fun q => by cases q) rfl rfl (Nat.le_of_ble_eq_true rfl) ?_
  show Sx _ _ _ _ _ 0 [some (.ref 41), some (.int (w)), none] [] _ _
  refine Sx.up (fun _ kk => r_aload_n 1 dX5_readTest_0 rfl rfl kk) ?_
  refine Sx.up (fun _ kk => r_iload_n 2 dX5_readTest_1 rfl rfl kk) ?_
  obtain ⟨_, ⟨E2, rfl, y2⟩, hcl2⟩ := rd_sum y1 hs hw hl hex
  refine Sx.up (fun _ kk => r_callV (M := mX5_readTest) (pc := 2) 5 dX5_readTest_2 rfl k5_211 hcl2 rfl rfl (by first | with_reducible assumption | with_reducible exact cr_bs hC | rfl) (by decide) rfl (by first | with_reducible assumption | with_reducible exact cr_bn hC | exact Nat.le_of_ble_eq_true rfl) (Nat.le_of_ble_eq_true rfl) kk) ?_
  refine Sx.up (fun _ kk => r_aload_n 6 dX5_readTest_5 rfl rfl kk) ?_
  refine Sx.up (fun _ kk => r_getR 9 dX5_readTest_6 rfl f5_19 rfl (by first | with_reducible assumption | with_reducible exact cr_bs hC | rfl) (by first | with_reducible assumption | with_reducible exact cr_bn hC | exact Nat.le_of_ble_eq_true rfl) (rd_tok y2) kk) ?_
  refine Sx.up (fun _ kk => r_bipush (60) 11 dX5_readTest_9 rfl (by decide) kk) ?_
  refine Sx.up (fun _ kk => r_callV (M := mX5_readTest) (pc := 11) 14 dX5_readTest_11 rfl k5_141 (rd_sign (d := d + e + 10) y2) rfl rfl (by first | with_reducible assumption | with_reducible exact cr_bs hC | rfl) (by decide) rfl (by first | with_reducible assumption | with_reducible exact cr_bn hC | exact Nat.le_of_ble_eq_true rfl) (Nat.le_of_ble_eq_true rfl) kk) ?_
  refine Sx.br (fun _ ka kb => r_if_ne 17 29 dX5_readTest_14 rfl (by decide) ka kb) (by first | exact em1 | exact em2) (fun h14 => ?_) (fun h14 => ?_)
  · refine Sx.up (fun _ kk => r_aload_n 30 dX5_readTest_29 rfl rfl kk) ?_
    refine Sx.up (fun _ kk => r_getR 33 dX5_readTest_30 rfl f5_19 rfl (by first | with_reducible assumption | with_reducible exact cr_bs hC | rfl) (by first | with_reducible assumption | with_reducible exact cr_bn hC | exact Nat.le_of_ble_eq_true rfl) (rd_tok y2) kk) ?_
    refine Sx.up (fun _ kk => r_bipush (60) 35 dX5_readTest_33 rfl (by decide) kk) ?_
    refine Sx.up (fun _ kk => r_callV (M := mX5_readTest) (pc := 35) 38 dX5_readTest_35 rfl k5_141 (rd_sign (d := d + e + 10) y2) rfl rfl (by first | with_reducible assumption | with_reducible exact cr_bs hC | rfl) (by decide) rfl (by first | with_reducible assumption | with_reducible exact cr_bn hC | exact Nat.le_of_ble_eq_true rfl) (Nat.le_of_ble_eq_true rfl) kk) ?_
    refine Sx.br (fun _ ka kb => r_if_eq 41 46 dX5_readTest_38 rfl (by decide) ka kb) (by first | exact em1 | exact em2) (fun h38 => ?_) (fun h38 => ?_)
    · have hc : testC T (sumS T (exprS T l) s) = true := by unfold testC; rw [Bool.or_eq_true]; first | exact Or.inl (bnz h14) | exact Or.inr (bnz h26)
      have hop : (if sgS T 60 (sumS T (exprS T l) s) = true then (-11 : Int32) else -12) = -12 := if_neg (bz h38)
      refine Sx.up (fun _ kk => r_bipush (-12) 48 dX5_readTest_46 rfl (by decide) kk) ?_
      refine Sx.up (fun _ kk => r_istore_n 49 dX5_readTest_48 rfl (by decide) rfl kk) ?_
      refine Sx.up (fun _ kk => r_aload_n 50 dX5_readTest_49 rfl rfl kk) ?_
      refine Sx.up (fun _ kk => r_getR 53 dX5_readTest_50 rfl f5_19 rfl (by first | with_reducible assumption | with_reducible exact cr_bs hC | rfl) (by first | with_reducible assumption | with_reducible exact cr_bn hC | exact Nat.le_of_ble_eq_true rfl) (rd_tok y2) kk) ?_
      obtain ⟨_, ⟨E3, rfl, y3⟩, hcl3⟩ := rd_adv (d := d + e + 6) y2
      refine Sx.up (fun _ kk => r_callV (M := mX5_readTest) (pc := 53) 56 dX5_readTest_53 rfl k5_131 hcl3 rfl rfl (by first | with_reducible assumption | with_reducible exact cr_bs hC | rfl) (by decide) rfl (by first | with_reducible assumption | with_reducible exact cr_bn hC | exact Nat.le_of_ble_eq_true rfl) (Nat.le_of_ble_eq_true rfl) kk) ?_
      refine Sx.up (fun _ kk => r_aload_n 57 dX5_readTest_56 rfl rfl kk) ?_
      refine Sx.up (fun _ kk => r_iload_n 58 dX5_readTest_57 rfl rfl kk) ?_
      obtain ⟨_, ⟨E4, rfl, y4⟩, hcl4⟩ := rd_sum y3 (slk_mono (by decide) (slk_adv (liv_or hc) hs0)) hw hl hex
      refine Sx.up (fun _ kk => r_callV (M := mX5_readTest) (pc := 58) 61 dX5_readTest_58 rfl k5_211 hcl4 rfl rfl (by first | with_reducible assumption | with_reducible exact cr_bs hC | rfl) (by decide) rfl (by first | with_reducible assumption | with_reducible exact cr_bn hC | exact Nat.le_of_ble_eq_true rfl) (Nat.le_of_ble_eq_true rfl) kk) ?_
      refine Sx.up (fun _ kk => r_aload_n 62 dX5_readTest_61 rfl rfl kk) ?_
      refine Sx.up (fun _ kk => r_getR 65 dX5_readTest_62 rfl f5_35 rfl (by first | with_reducible assumption | with_reducible exact cr_bs hC | rfl) (by first | with_reducible assumption | with_reducible exact cr_bn hC | exact Nat.le_of_ble_eq_true rfl) (rd_into y4) kk) ?_
      refine Sx.up (fun _ kk => r_getR 68 dX5_readTest_65 rfl f5_192 rfl (by first | with_reducible assumption | with_reducible exact cr_bs hC | rfl) (by first | with_reducible assumption | with_reducible exact cr_bn hC | exact Nat.le_of_ble_eq_true rfl) (rd_rule y4) kk) ?_
      refine Sx.up (fun _ kk => r_iload_n 69 dX5_readTest_68 rfl rfl kk) ?_
      obtain ⟨_, ⟨E5, rfl, y5⟩, hcl5⟩ := rd_radd (d := d + e + 10) y4 (slk_mono (by decide) (slk_ext (ex_sum l _) (slk_adv (liv_or hc) hs0)))
      refine Sx.up (fun _ kk => r_callV (M := mX5_readTest) (pc := 69) 72 dX5_readTest_69 rfl k5_198 hcl5 rfl rfl (by first | with_reducible assumption | with_reducible exact cr_bs hC | rfl) (by decide) rfl (by first | with_reducible assumption | with_reducible exact cr_bn hC | exact Nat.le_of_ble_eq_true rfl) (Nat.le_of_ble_eq_true rfl) kk) ?_
      refine ⟨_, ?_, r_vret dX5_readTest_72 rfl rfl rfl⟩
      refine ⟨_, rfl, ?_⟩
      unfold testS
      first | (rw [if_pos hc]; unfold testB; rw [hop]; exact y5) | (rw [if_neg (fun z => by unfold testC at z; rw [Bool.or_eq_true] at z; exact z.elim (bz h14) (bz h26))]; exact y5)
    · have hc : testC T (sumS T (exprS T l) s) = true := by unfold testC; rw [Bool.or_eq_true]; first | exact Or.inl (bnz h14) | exact Or.inr (bnz h26)
      have hop : (if sgS T 60 (sumS T (exprS T l) s) = true then (-11 : Int32) else -12) = -11 := if_pos (bnz h38)
      refine Sx.up (fun _ kk => r_bipush (-11) 43 dX5_readTest_41 rfl (by decide) kk) ?_
      refine Sx.up (fun _ kk => r_goto 48 dX5_readTest_43 (by decide) kk) ?_
      refine Sx.up (fun _ kk => r_istore_n 49 dX5_readTest_48 rfl (by decide) rfl kk) ?_
      refine Sx.up (fun _ kk => r_aload_n 50 dX5_readTest_49 rfl rfl kk) ?_
      refine Sx.up (fun _ kk => r_getR 53 dX5_readTest_50 rfl f5_19 rfl (by first | with_reducible assumption | with_reducible exact cr_bs hC | rfl) (by first | with_reducible assumption | with_reducible exact cr_bn hC | exact Nat.le_of_ble_eq_true rfl) (rd_tok y2) kk) ?_
      obtain ⟨_, ⟨E6, rfl, y6⟩, hcl6⟩ := rd_adv (d := d + e + 6) y2
      refine Sx.up (fun _ kk => r_callV (M := mX5_readTest) (pc := 53) 56 dX5_readTest_53 rfl k5_131 hcl6 rfl rfl (by first | with_reducible assumption | with_reducible exact cr_bs hC | rfl) (by decide) rfl (by first | with_reducible assumption | with_reducible exact cr_bn hC | exact Nat.le_of_ble_eq_true rfl) (Nat.le_of_ble_eq_true rfl) kk) ?_
      refine Sx.up (fun _ kk => r_aload_n 57 dX5_readTest_56 rfl rfl kk) ?_
      refine Sx.up (fun _ kk => r_iload_n 58 dX5_readTest_57 rfl rfl kk) ?_
      obtain ⟨_, ⟨E7, rfl, y7⟩, hcl7⟩ := rd_sum y6 (slk_mono (by decide) (slk_adv (liv_or hc) hs0)) hw hl hex
      refine Sx.up (fun _ kk => r_callV (M := mX5_readTest) (pc := 58) 61 dX5_readTest_58 rfl k5_211 hcl7 rfl rfl (by first | with_reducible assumption | with_reducible exact cr_bs hC | rfl) (by decide) rfl (by first | with_reducible assumption | with_reducible exact cr_bn hC | exact Nat.le_of_ble_eq_true rfl) (Nat.le_of_ble_eq_true rfl) kk) ?_
      refine Sx.up (fun _ kk => r_aload_n 62 dX5_readTest_61 rfl rfl kk) ?_
      refine Sx.up (fun _ kk => r_getR 65 dX5_readTest_62 rfl f5_35 rfl (by first | with_reducible assumption | with_reducible exact cr_bs hC | rfl) (by first | with_reducible assumption | with_reducible exact cr_bn hC | exact Nat.le_of_ble_eq_true rfl) (rd_into y7) kk) ?_
      refine Sx.up (fun _ kk => r_getR 68 dX5_readTest_65 rfl f5_192 rfl (by first | with_reducible assumption | with_reducible exact cr_bs hC | rfl) (by first | with_reducible assumption | with_reducible exact cr_bn hC | exact Nat.le_of_ble_eq_true rfl) (rd_rule y7) kk) ?_
      refine Sx.up (fun _ kk => r_iload_n 69 dX5_readTest_68 rfl rfl kk) ?_
      obtain ⟨_, ⟨E8, rfl, y8⟩, hcl8⟩ := rd_radd (d := d + e + 10) y7 (slk_mono (by decide) (slk_ext (ex_sum l _) (slk_adv (liv_or hc) hs0)))
      refine Sx.up (fun _ kk => r_callV (M := mX5_readTest) (pc := 69) 72 dX5_readTest_69 rfl k5_198 hcl8 rfl rfl (by first | with_reducible assumption | with_reducible exact cr_bs hC | rfl) (by decide) rfl (by first | with_reducible assumption | with_reducible exact cr_bn hC | exact Nat.le_of_ble_eq_true rfl) (Nat.le_of_ble_eq_true rfl) kk) ?_
      refine ⟨_, ?_, r_vret dX5_readTest_72 rfl rfl rfl⟩
      refine ⟨_, rfl, ?_⟩
      unfold testS
      first | (rw [if_pos hc]; unfold testB; rw [hop]; exact y8) | (rw [if_neg (fun z => by unfold testC at z; rw [Bool.or_eq_true] at z; exact z.elim (bz h14) (bz h26))]; exact y8)
  · refine Sx.up (fun _ kk => r_aload_n 18 dX5_readTest_17 rfl rfl kk) ?_
    refine Sx.up (fun _ kk => r_getR 21 dX5_readTest_18 rfl f5_19 rfl (by first | with_reducible assumption | with_reducible exact cr_bs hC | rfl) (by first | with_reducible assumption | with_reducible exact cr_bn hC | exact Nat.le_of_ble_eq_true rfl) (rd_tok y2) kk) ?_
    refine Sx.up (fun _ kk => r_bipush (61) 23 dX5_readTest_21 rfl (by decide) kk) ?_
    refine Sx.up (fun _ kk => r_callV (M := mX5_readTest) (pc := 23) 26 dX5_readTest_23 rfl k5_141 (rd_sign (d := d + e + 10) y2) rfl rfl (by first | with_reducible assumption | with_reducible exact cr_bs hC | rfl) (by decide) rfl (by first | with_reducible assumption | with_reducible exact cr_bn hC | exact Nat.le_of_ble_eq_true rfl) (Nat.le_of_ble_eq_true rfl) kk) ?_
    refine Sx.br (fun _ ka kb => r_if_eq 29 72 dX5_readTest_26 rfl (by decide) ka kb) (by first | exact em1 | exact em2) (fun h26 => ?_) (fun h26 => ?_)
    · refine ⟨_, ?_, r_vret dX5_readTest_72 rfl rfl rfl⟩
      refine ⟨_, rfl, ?_⟩
      unfold testS
      first | (rw [if_pos hc]; unfold testB; rw [hop]; exact y2) | (rw [if_neg (fun z => by unfold testC at z; rw [Bool.or_eq_true] at z; exact z.elim (bz h14) (bz h26))]; exact y2)
    · refine Sx.up (fun _ kk => r_aload_n 30 dX5_readTest_29 rfl rfl kk) ?_
      refine Sx.up (fun _ kk => r_getR 33 dX5_readTest_30 rfl f5_19 rfl (by first | with_reducible assumption | with_reducible exact cr_bs hC | rfl) (by first | with_reducible assumption | with_reducible exact cr_bn hC | exact Nat.le_of_ble_eq_true rfl) (rd_tok y2) kk) ?_
      refine Sx.up (fun _ kk => r_bipush (60) 35 dX5_readTest_33 rfl (by decide) kk) ?_
      refine Sx.up (fun _ kk => r_callV (M := mX5_readTest) (pc := 35) 38 dX5_readTest_35 rfl k5_141 (rd_sign (d := d + e + 10) y2) rfl rfl (by first | with_reducible assumption | with_reducible exact cr_bs hC | rfl) (by decide) rfl (by first | with_reducible assumption | with_reducible exact cr_bn hC | exact Nat.le_of_ble_eq_true rfl) (Nat.le_of_ble_eq_true rfl) kk) ?_
      refine Sx.br (fun _ ka kb => r_if_eq 41 46 dX5_readTest_38 rfl (by decide) ka kb) (by first | exact em1 | exact em2) (fun h38 => ?_) (fun h38 => ?_)
      · have hc : testC T (sumS T (exprS T l) s) = true := by unfold testC; rw [Bool.or_eq_true]; first | exact Or.inl (bnz h14) | exact Or.inr (bnz h26)
        have hop : (if sgS T 60 (sumS T (exprS T l) s) = true then (-11 : Int32) else -12) = -12 := if_neg (bz h38)
        refine Sx.up (fun _ kk => r_bipush (-12) 48 dX5_readTest_46 rfl (by decide) kk) ?_
        refine Sx.up (fun _ kk => r_istore_n 49 dX5_readTest_48 rfl (by decide) rfl kk) ?_
        refine Sx.up (fun _ kk => r_aload_n 50 dX5_readTest_49 rfl rfl kk) ?_
        refine Sx.up (fun _ kk => r_getR 53 dX5_readTest_50 rfl f5_19 rfl (by first | with_reducible assumption | with_reducible exact cr_bs hC | rfl) (by first | with_reducible assumption | with_reducible exact cr_bn hC | exact Nat.le_of_ble_eq_true rfl) (rd_tok y2) kk) ?_
        obtain ⟨_, ⟨E9, rfl, y9⟩, hcl9⟩ := rd_adv (d := d + e + 6) y2
        refine Sx.up (fun _ kk => r_callV (M := mX5_readTest) (pc := 53) 56 dX5_readTest_53 rfl k5_131 hcl9 rfl rfl (by first | with_reducible assumption | with_reducible exact cr_bs hC | rfl) (by decide) rfl (by first | with_reducible assumption | with_reducible exact cr_bn hC | exact Nat.le_of_ble_eq_true rfl) (Nat.le_of_ble_eq_true rfl) kk) ?_
        refine Sx.up (fun _ kk => r_aload_n 57 dX5_readTest_56 rfl rfl kk) ?_
        refine Sx.up (fun _ kk => r_iload_n 58 dX5_readTest_57 rfl rfl kk) ?_
        obtain ⟨_, ⟨E10, rfl, y10⟩, hcl10⟩ := rd_sum y9 (slk_mono (by decide) (slk_adv (liv_or hc) hs0)) hw hl hex
        refine Sx.up (fun _ kk => r_callV (M := mX5_readTest) (pc := 58) 61 dX5_readTest_58 rfl k5_211 hcl10 rfl rfl (by first | with_reducible assumption | with_reducible exact cr_bs hC | rfl) (by decide) rfl (by first | with_reducible assumption | with_reducible exact cr_bn hC | exact Nat.le_of_ble_eq_true rfl) (Nat.le_of_ble_eq_true rfl) kk) ?_
        refine Sx.up (fun _ kk => r_aload_n 62 dX5_readTest_61 rfl rfl kk) ?_
        refine Sx.up (fun _ kk => r_getR 65 dX5_readTest_62 rfl f5_35 rfl (by first | with_reducible assumption | with_reducible exact cr_bs hC | rfl) (by first | with_reducible assumption | with_reducible exact cr_bn hC | exact Nat.le_of_ble_eq_true rfl) (rd_into y10) kk) ?_
        refine Sx.up (fun _ kk => r_getR 68 dX5_readTest_65 rfl f5_192 rfl (by first | with_reducible assumption | with_reducible exact cr_bs hC | rfl) (by first | with_reducible assumption | with_reducible exact cr_bn hC | exact Nat.le_of_ble_eq_true rfl) (rd_rule y10) kk) ?_
        refine Sx.up (fun _ kk => r_iload_n 69 dX5_readTest_68 rfl rfl kk) ?_
        obtain ⟨_, ⟨E11, rfl, y11⟩, hcl11⟩ := rd_radd (d := d + e + 10) y10 (slk_mono (by decide) (slk_ext (ex_sum l _) (slk_adv (liv_or hc) hs0)))
        refine Sx.up (fun _ kk => r_callV (M := mX5_readTest) (pc := 69) 72 dX5_readTest_69 rfl k5_198 hcl11 rfl rfl (by first | with_reducible assumption | with_reducible exact cr_bs hC | rfl) (by decide) rfl (by first | with_reducible assumption | with_reducible exact cr_bn hC | exact Nat.le_of_ble_eq_true rfl) (Nat.le_of_ble_eq_true rfl) kk) ?_
        refine ⟨_, ?_, r_vret dX5_readTest_72 rfl rfl rfl⟩
        refine ⟨_, rfl, ?_⟩
        unfold testS
        first | (rw [if_pos hc]; unfold testB; rw [hop]; exact y11) | (rw [if_neg (fun z => by unfold testC at z; rw [Bool.or_eq_true] at z; exact z.elim (bz h14) (bz h26))]; exact y11)
      · have hc : testC T (sumS T (exprS T l) s) = true := by unfold testC; rw [Bool.or_eq_true]; first | exact Or.inl (bnz h14) | exact Or.inr (bnz h26)
        have hop : (if sgS T 60 (sumS T (exprS T l) s) = true then (-11 : Int32) else -12) = -11 := if_pos (bnz h38)
        refine Sx.up (fun _ kk => r_bipush (-11) 43 dX5_readTest_41 rfl (by decide) kk) ?_
        refine Sx.up (fun _ kk => r_goto 48 dX5_readTest_43 (by decide) kk) ?_
        refine Sx.up (fun _ kk => r_istore_n 49 dX5_readTest_48 rfl (by decide) rfl kk) ?_
        refine Sx.up (fun _ kk => r_aload_n 50 dX5_readTest_49 rfl rfl kk) ?_
        refine Sx.up (fun _ kk => r_getR 53 dX5_readTest_50 rfl f5_19 rfl (by first | with_reducible assumption | with_reducible exact cr_bs hC | rfl) (by first | with_reducible assumption | with_reducible exact cr_bn hC | exact Nat.le_of_ble_eq_true rfl) (rd_tok y2) kk) ?_
        obtain ⟨_, ⟨E12, rfl, y12⟩, hcl12⟩ := rd_adv (d := d + e + 6) y2
        refine Sx.up (fun _ kk => r_callV (M := mX5_readTest) (pc := 53) 56 dX5_readTest_53 rfl k5_131 hcl12 rfl rfl (by first | with_reducible assumption | with_reducible exact cr_bs hC | rfl) (by decide) rfl (by first | with_reducible assumption | with_reducible exact cr_bn hC | exact Nat.le_of_ble_eq_true rfl) (Nat.le_of_ble_eq_true rfl) kk) ?_
        refine Sx.up (fun _ kk => r_aload_n 57 dX5_readTest_56 rfl rfl kk) ?_
        refine Sx.up (fun _ kk => r_iload_n 58 dX5_readTest_57 rfl rfl kk) ?_
        obtain ⟨_, ⟨E13, rfl, y13⟩, hcl13⟩ := rd_sum y12 (slk_mono (by decide) (slk_adv (liv_or hc) hs0)) hw hl hex
        refine Sx.up (fun _ kk => r_callV (M := mX5_readTest) (pc := 58) 61 dX5_readTest_58 rfl k5_211 hcl13 rfl rfl (by first | with_reducible assumption | with_reducible exact cr_bs hC | rfl) (by decide) rfl (by first | with_reducible assumption | with_reducible exact cr_bn hC | exact Nat.le_of_ble_eq_true rfl) (Nat.le_of_ble_eq_true rfl) kk) ?_
        refine Sx.up (fun _ kk => r_aload_n 62 dX5_readTest_61 rfl rfl kk) ?_
        refine Sx.up (fun _ kk => r_getR 65 dX5_readTest_62 rfl f5_35 rfl (by first | with_reducible assumption | with_reducible exact cr_bs hC | rfl) (by first | with_reducible assumption | with_reducible exact cr_bn hC | exact Nat.le_of_ble_eq_true rfl) (rd_into y13) kk) ?_
        refine Sx.up (fun _ kk => r_getR 68 dX5_readTest_65 rfl f5_192 rfl (by first | with_reducible assumption | with_reducible exact cr_bs hC | rfl) (by first | with_reducible assumption | with_reducible exact cr_bn hC | exact Nat.le_of_ble_eq_true rfl) (rd_rule y13) kk) ?_
        refine Sx.up (fun _ kk => r_iload_n 69 dX5_readTest_68 rfl rfl kk) ?_
        obtain ⟨_, ⟨E14, rfl, y14⟩, hcl14⟩ := rd_radd (d := d + e + 10) y13 (slk_mono (by decide) (slk_ext (ex_sum l _) (slk_adv (liv_or hc) hs0)))
        refine Sx.up (fun _ kk => r_callV (M := mX5_readTest) (pc := 69) 72 dX5_readTest_69 rfl k5_198 hcl14 rfl rfl (by first | with_reducible assumption | with_reducible exact cr_bs hC | rfl) (by decide) rfl (by first | with_reducible assumption | with_reducible exact cr_bn hC | exact Nat.le_of_ble_eq_true rfl) (Nat.le_of_ble_eq_true rfl) kk) ?_
        refine ⟨_, ?_, r_vret dX5_readTest_72 rfl rfl rfl⟩
        refine ⟨_, rfl, ?_⟩
        unfold testS
        first | (rw [if_pos hc]; unfold testB; rw [hop]; exact y14) | (rw [if_neg (fun z => by unfold testC at z; rw [Bool.or_eq_true] at z; exact z.elim (bz h14) (bz h26))]; exact y14)
