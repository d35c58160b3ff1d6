/-! lines, further on -/
set_option maxRecDepth 20000 in
theorem rd_set {d : Nat} {E0 E : HP} {T : TX} {b : Nat} {s : PS}  (y1 : CRd E0 E T b s)  : ∃ o, (∃ E2, o = (.inl none, E2, 137) ∧ CRd E0 E2 T b (if wdS T w_bed s = true then bdS T s else if wdS T w_night s = true then niS T s else if wdS T w_awake s = true then awS T s else fltS 1 s)) ∧ Cl yX5_readSetting mX5_readSetting (d + 7) 0 0 [.ref 41] E 137 o := by
  have hb := rd_b y1
  have hbs : sh b = (0, 0) := bo_1 (rd_bed y1)
  have hbn : b < 137 := by omega
  have hb5 : sh (b + 5) = (7, 0) := (rd_bed y1).2.2.2.2.2.2.2.2.2.1.1
  have hb5n : b + 5 < 137 := by omega
  refine Cx.of (by decide) rfl (fun q => by cases q) rfl rfl (Nat.le_of_ble_eq_true rfl) ?_
  show Sx _ _ _ _ _ 0 [some (.ref 41)] [] _ _
  refine Sx.up (fun _ kk => r_aload_n 1 dX5_readSetting_0 rfl rfl kk) ?_
  refine Sx.up (fun _ kk => r_getR 4 dX5_readSetting_1 rfl f5_19 rfl (by first | with_reducible assumption | with_reducible exact cr_bs hC | rfl) (by first | with_reducible assumption | with_reducible exact cr_bn hC | exact Nat.le_of_ble_eq_true rfl) (rd_tok y1) kk) ?_
  refine Sx.up (fun _ kk => r_ldcS (i := 18) 6 dX5_readSetting_4 rfl rfl kk) ?_
  refine Sx.up (fun _ kk => r_callV (M := mX5_readSetting) (pc := 6) 9 dX5_readSetting_6 rfl k5_72 (rd_word (i := 18) (q := ("SpoonRow$Reader", 107, "bed", w_bed)) y1 rfl) rfl rfl (by first | with_reducible assumption | with_reducible exact cr_bs hC | rfl) (by decide) rfl (by first | with_reducible assumption | with_reducible exact cr_bn hC | exact Nat.le_of_ble_eq_true rfl) (Nat.le_of_ble_eq_true rfl) kk) ?_
  refine Sx.br (fun _ ka kb => r_if_eq 12 48 dX5_readSetting_9 rfl (by decide) ka kb) (by first | exact em1 | exact em2) (fun h9 => ?_) (fun h9 => ?_)
  · refine Sx.up (fun _ kk => r_aload_n 49 dX5_readSetting_48 rfl rfl kk) ?_
    refine Sx.up (fun _ kk => r_getR 52 dX5_readSetting_49 rfl f5_19 rfl (by first | with_reducible assumption | with_reducible exact cr_bs hC | rfl) (by first | with_reducible assumption | with_reducible exact cr_bn hC | exact Nat.le_of_ble_eq_true rfl) (rd_tok y1) kk) ?_
    refine Sx.up (fun _ kk => r_ldcS (i := 19) 54 dX5_readSetting_52 rfl rfl kk) ?_
    refine Sx.up (fun _ kk => r_callV (M := mX5_readSetting) (pc := 54) 57 dX5_readSetting_54 rfl k5_72 (rd_word (i := 19) (q := ("SpoonRow$Reader", 119, "night", w_night)) y1 rfl) rfl rfl (by first | with_reducible assumption | with_reducible exact cr_bs hC | rfl) (by decide) rfl (by first | with_reducible assumption | with_reducible exact cr_bn hC | exact Nat.le_of_ble_eq_true rfl) (Nat.le_of_ble_eq_true rfl) kk) ?_
    refine Sx.br (fun _ ka kb => r_if_eq 60 83 dX5_readSetting_57 rfl (by decide) ka kb) (by first | exact em1 | exact em2) (fun h57 => ?_) (fun h57 => ?_)
    · refine Sx.up (fun _ kk => r_aload_n 84 dX5_readSetting_83 rfl rfl kk) ?_
      refine Sx.up (fun _ kk => r_getR 87 dX5_readSetting_84 rfl f5_19 rfl (by first | with_reducible assumption | with_reducible exact cr_bs hC | rfl) (by first | with_reducible assumption | with_reducible exact cr_bn hC | exact Nat.le_of_ble_eq_true rfl) (rd_tok y1) kk) ?_
      refine Sx.up (fun _ kk => r_ldcS (i := 20) 89 dX5_readSetting_87 rfl rfl kk) ?_
      refine Sx.up (fun _ kk => r_callV (M := mX5_readSetting) (pc := 89) 92 dX5_readSetting_89 rfl k5_72 (rd_word (i := 20) (q := ("SpoonRow$Reader", 124, "awake", w_awake)) y1 rfl) rfl rfl (by first | with_reducible assumption | with_reducible exact cr_bs hC | rfl) (by decide) rfl (by first | with_reducible assumption | with_reducible exact cr_bn hC | exact Nat.le_of_ble_eq_true rfl) (Nat.le_of_ble_eq_true rfl) kk) ?_
      refine Sx.br (fun _ ka kb => r_if_eq 95 117 dX5_readSetting_92 rfl (by decide) ka kb) (by first | exact em1 | exact em2) (fun h92 => ?_) (fun h92 => ?_)
      · refine Sx.up (fun _ kk => r_aload_n 118 dX5_readSetting_117 rfl rfl kk) ?_
        refine Sx.up (fun _ kk => r_iconst (1) 119 dX5_readSetting_118 rfl (by decide) kk) ?_
        obtain ⟨_, ⟨E2, rfl, y2⟩, hcl2⟩ := rd_refuse (d := d + 5) y1 (k := 1) (k9 := 1) rfl (by decide) (by decide)
        refine Sx.up (fun _ kk => r_callV (M := mX5_readSetting) (pc := 119) 122 dX5_readSetting_119 rfl k5_128 hcl2 rfl rfl (by first | with_reducible assumption | with_reducible exact cr_bs hC | rfl) (by decide) rfl (by first | with_reducible assumption | with_reducible exact cr_bn hC | exact Nat.le_of_ble_eq_true rfl) (Nat.le_of_ble_eq_true rfl) kk) ?_
        refine ⟨_, ?_, r_vret dX5_readSetting_122 rfl rfl rfl⟩
        refine ⟨_, rfl, ?_⟩
        first
        | (rw [if_pos (bnz h9)]; have yf := rd_scal (i := 1) (v := v2) y2 (by decide); rw [scs_eq hv2] at yf; exact yf)
        | (rw [if_neg (bz h9), if_pos (bnz h57)]; have yf := rd_scal (i := 2) (v := v2) y2 (by decide); rw [scs_eq hv2] at yf; exact yf)
        | (rw [if_neg (bz h9), if_neg (bz h57), if_pos (bnz h92)]; have yf := rd_scal (i := 3) (v := v2) y2 (by decide); rw [scs_eq hv2] at yf; exact yf)
        | (rw [if_neg (bz h9), if_neg (bz h57), if_neg (bz h92)]; exact y2)
      · refine Sx.up (fun _ kk => r_aload_n 96 dX5_readSetting_95 rfl rfl kk) ?_
        refine Sx.up (fun _ kk => r_iconst (4) 97 dX5_readSetting_96 rfl (by decide) kk) ?_
        obtain ⟨_, ⟨E3, rfl, y3⟩, hcl3⟩ := rd_onceS (d := d) (l := 4) y1
        refine Sx.up (fun _ kk => r_callV (M := mX5_readSetting) (pc := 97) 100 dX5_readSetting_97 rfl k5_86 hcl3 rfl rfl (by first | with_reducible assumption | with_reducible exact cr_bs hC | rfl) (by decide) rfl (by first | with_reducible assumption | with_reducible exact cr_bn hC | exact Nat.le_of_ble_eq_true rfl) (Nat.le_of_ble_eq_true rfl) kk) ?_
        refine Sx.up (fun _ kk => r_aload_n 101 dX5_readSetting_100 rfl rfl kk) ?_
        refine Sx.up (fun _ kk => r_getR 104 dX5_readSetting_101 rfl f5_35 rfl (by first | with_reducible assumption | with_reducible exact cr_bs hC | rfl) (by first | with_reducible assumption | with_reducible exact cr_bn hC | exact Nat.le_of_ble_eq_true rfl) (rd_into y3) kk) ?_
        refine Sx.up (fun _ kk => r_aload_n 105 dX5_readSetting_104 rfl rfl kk) ?_
        refine Sx.up (fun _ kk => r_iconst (0) 106 dX5_readSetting_105 rfl (by decide) kk) ?_
        refine Sx.up (fun _ kk => r_bipush (60) 108 dX5_readSetting_106 rfl (by decide) kk) ?_
        obtain ⟨_, ⟨E4, v4, rfl, y4, hv4⟩, hcl4⟩ := rd_take (d := d) (lo := 0) (hi := 60) y3 rfl rfl (by decide) (by decide)
        refine Sx.up (fun _ kk => r_callV (M := mX5_readSetting) (pc := 108) 111 dX5_readSetting_108 rfl k5_109 hcl4 rfl rfl (by first | with_reducible assumption | with_reducible exact cr_bs hC | rfl) (by decide) rfl (by first | with_reducible assumption | with_reducible exact cr_bn hC | exact Nat.le_of_ble_eq_true rfl) (Nat.le_of_ble_eq_true rfl) kk) ?_
        refine Sx.up (fun _ kk => r_putI 114 dX5_readSetting_111 rfl f5_126 (by first | with_reducible assumption | with_reducible exact cr_bs hC | rfl) (by first | with_reducible assumption | with_reducible exact cr_bn hC | exact Nat.le_of_ble_eq_true rfl) kk) ?_
        refine Sx.up (fun _ kk => r_goto 122 dX5_readSetting_114 (by decide) kk) ?_
        refine ⟨_, ?_, r_vret dX5_readSetting_122 rfl rfl rfl⟩
        refine ⟨_, rfl, ?_⟩
        first
        | (rw [if_pos (bnz h9)]; have yf := rd_scal (i := 1) (v := v4) y4 (by decide); rw [scs_eq hv4] at yf; exact yf)
        | (rw [if_neg (bz h9), if_pos (bnz h57)]; have yf := rd_scal (i := 2) (v := v4) y4 (by decide); rw [scs_eq hv4] at yf; exact yf)
        | (rw [if_neg (bz h9), if_neg (bz h57), if_pos (bnz h92)]; have yf := rd_scal (i := 3) (v := v4) y4 (by decide); rw [scs_eq hv4] at yf; exact yf)
        | (rw [if_neg (bz h9), if_neg (bz h57), if_neg (bz h92)]; exact y4)
    · refine Sx.up (fun _ kk => r_aload_n 61 dX5_readSetting_60 rfl rfl kk) ?_
      refine Sx.up (fun _ kk => r_iconst (2) 62 dX5_readSetting_61 rfl (by decide) kk) ?_
      obtain ⟨_, ⟨E5, rfl, y5⟩, hcl5⟩ := rd_onceS (d := d) (l := 2) y1
      refine Sx.up (fun _ kk => r_callV (M := mX5_readSetting) (pc := 62) 65 dX5_readSetting_62 rfl k5_86 hcl5 rfl rfl (by first | with_reducible assumption | with_reducible exact cr_bs hC | rfl) (by decide) rfl (by first | with_reducible assumption | with_reducible exact cr_bn hC | exact Nat.le_of_ble_eq_true rfl) (Nat.le_of_ble_eq_true rfl) kk) ?_
      refine Sx.up (fun _ kk => r_aload_n 66 dX5_readSetting_65 rfl rfl kk) ?_
      refine Sx.up (fun _ kk => r_getR 69 dX5_readSetting_66 rfl f5_35 rfl (by first | with_reducible assumption | with_reducible exact cr_bs hC | rfl) (by first | with_reducible assumption | with_reducible exact cr_bn hC | exact Nat.le_of_ble_eq_true rfl) (rd_into y5) kk) ?_
      refine Sx.up (fun _ kk => r_aload_n 70 dX5_readSetting_69 rfl rfl kk) ?_
      refine Sx.up (fun _ kk => r_iconst (1) 71 dX5_readSetting_70 rfl (by decide) kk) ?_
      refine Sx.up (fun _ kk => r_sipush (600) 74 dX5_readSetting_71 rfl (by decide) kk) ?_
      obtain ⟨_, ⟨E6, v6, rfl, y6, hv6⟩, hcl6⟩ := rd_take (d := d) (lo := 1) (hi := 600) y5 rfl rfl (by decide) (by decide)
      refine Sx.up (fun _ kk => r_callV (M := mX5_readSetting) (pc := 74) 77 dX5_readSetting_74 rfl k5_109 hcl6 rfl rfl (by first | with_reducible assumption | with_reducible exact cr_bs hC | rfl) (by decide) rfl (by first | with_reducible assumption | with_reducible exact cr_bn hC | exact Nat.le_of_ble_eq_true rfl) (Nat.le_of_ble_eq_true rfl) kk) ?_
      refine Sx.up (fun _ kk => r_putI 80 dX5_readSetting_77 rfl f5_121 (by first | with_reducible assumption | with_reducible exact cr_bs hC | rfl) (by first | with_reducible assumption | with_reducible exact cr_bn hC | exact Nat.le_of_ble_eq_true rfl) kk) ?_
      refine Sx.up (fun _ kk => r_goto 122 dX5_readSetting_80 (by decide) kk) ?_
      refine ⟨_, ?_, r_vret dX5_readSetting_122 rfl rfl rfl⟩
      refine ⟨_, rfl, ?_⟩
      first
      | (rw [if_pos (bnz h9)]; have yf := rd_scal (i := 1) (v := v6) y6 (by decide); rw [scs_eq hv6] at yf; exact yf)
      | (rw [if_neg (bz h9), if_pos (bnz h57)]; have yf := rd_scal (i := 2) (v := v6) y6 (by decide); rw [scs_eq hv6] at yf; exact yf)
      | (rw [if_neg (bz h9), if_neg (bz h57), if_pos (bnz h92)]; have yf := rd_scal (i := 3) (v := v6) y6 (by decide); rw [scs_eq hv6] at yf; exact yf)
      | (rw [if_neg (bz h9), if_neg (bz h57), if_neg (bz h92)]; exact y6)
  · refine Sx.up (fun _ kk => r_aload_n 13 dX5_readSetting_12 rfl rfl kk) ?_
    refine Sx.up (fun _ kk => r_iconst (1) 14 dX5_readSetting_13 rfl (by decide) kk) ?_
    obtain ⟨_, ⟨E7, rfl, y7⟩, hcl7⟩ := rd_onceS (d := d) (l := 1) y1
    refine Sx.up (fun _ kk => r_callV (M := mX5_readSetting) (pc := 14) 17 dX5_readSetting_14 rfl k5_86 hcl7 rfl rfl (by first | with_reducible assumption | with_reducible exact cr_bs hC | rfl) (by decide) rfl (by first | with_reducible assumption | with_reducible exact cr_bn hC | exact Nat.le_of_ble_eq_true rfl) (Nat.le_of_ble_eq_true rfl) kk) ?_
    refine Sx.up (fun _ kk => r_aload_n 18 dX5_readSetting_17 rfl rfl kk) ?_
    refine Sx.up (fun _ kk => r_getR 21 dX5_readSetting_18 rfl f5_35 rfl (by first | with_reducible assumption | with_reducible exact cr_bs hC | rfl) (by first | with_reducible assumption | with_reducible exact cr_bn hC | exact Nat.le_of_ble_eq_true rfl) (rd_into y7) kk) ?_
    refine Sx.up (fun _ kk => r_aload_n 22 dX5_readSetting_21 rfl rfl kk) ?_
    refine Sx.up (fun _ kk => r_iconst (1) 23 dX5_readSetting_22 rfl (by decide) kk) ?_
    refine Sx.up (fun _ kk => r_bipush (99) 25 dX5_readSetting_23 rfl (by decide) kk) ?_
    obtain ⟨_, ⟨E8, v8, rfl, y8, hv8⟩, hcl8⟩ := rd_take (d := d) (lo := 1) (hi := 99) y7 rfl rfl (by decide) (by decide)
    refine Sx.up (fun _ kk => r_callV (M := mX5_readSetting) (pc := 25) 28 dX5_readSetting_25 rfl k5_109 hcl8 rfl rfl (by first | with_reducible assumption | with_reducible exact cr_bs hC | rfl) (by decide) rfl (by first | with_reducible assumption | with_reducible exact cr_bn hC | exact Nat.le_of_ble_eq_true rfl) (Nat.le_of_ble_eq_true rfl) kk) ?_
    refine Sx.up (fun _ kk => r_putI 31 dX5_readSetting_28 rfl f5_113 (by first | with_reducible assumption | with_reducible exact cr_bs hC | rfl) (by first | with_reducible assumption | with_reducible exact cr_bn hC | exact Nat.le_of_ble_eq_true rfl) kk) ?_
    have ys := rd_scal (i := 0) (v := v8) y8 (by decide)
    rw [scs_eq hv8] at ys
    refine Sx.up (fun _ kk => r_aload_n 32 dX5_readSetting_31 rfl rfl kk) ?_
    refine Sx.up (fun _ kk => r_getR 35 dX5_readSetting_32 rfl f5_35 rfl (by first | with_reducible assumption | with_reducible exact cr_bs hC | rfl) (by first | with_reducible assumption | with_reducible exact cr_bn hC | exact Nat.le_of_ble_eq_true rfl) (rd_into ys) kk) ?_
    refine Sx.up (fun _ kk => r_aload_n 36 dX5_readSetting_35 rfl rfl kk) ?_
    refine Sx.up (fun _ kk => r_iconst (0) 37 dX5_readSetting_36 rfl (by decide) kk) ?_
    refine Sx.up (fun _ kk => r_bipush (9) 39 dX5_readSetting_37 rfl (by decide) kk) ?_
    obtain ⟨_, ⟨E9, v9, rfl, y9, hv9⟩, hcl9⟩ := rd_take (d := d) (lo := 0) (hi := 9) ys rfl rfl (by decide) (by decide)
    refine Sx.up (fun _ kk => r_callV (M := mX5_readSetting) (pc := 39) 42 dX5_readSetting_39 rfl k5_109 hcl9 rfl rfl (by first | with_reducible assumption | with_reducible exact cr_bs hC | rfl) (by decide) rfl (by first | with_reducible assumption | with_reducible exact cr_bn hC | exact Nat.le_of_ble_eq_true rfl) (Nat.le_of_ble_eq_true rfl) kk) ?_
    refine Sx.up (fun _ kk => r_putI 45 dX5_readSetting_42 rfl f5_116 (by first | with_reducible assumption | with_reducible exact cr_bs hC | rfl) (by first | with_reducible assumption | with_reducible exact cr_bn hC | exact Nat.le_of_ble_eq_true rfl) kk) ?_
    refine Sx.up (fun _ kk => r_goto 122 dX5_readSetting_45 (by decide) kk) ?_
    refine ⟨_, ?_, r_vret dX5_readSetting_122 rfl rfl rfl⟩
    refine ⟨_, rfl, ?_⟩
    first
    | (rw [if_pos (bnz h9)]; have yf := rd_scal (i := 1) (v := v9) y9 (by decide); rw [scs_eq hv9] at yf; exact yf)
    | (rw [if_neg (bz h9), if_pos (bnz h57)]; have yf := rd_scal (i := 2) (v := v9) y9 (by decide); rw [scs_eq hv9] at yf; exact yf)
    | (rw [if_neg (bz h9), if_neg (bz h57), if_pos (bnz h92)]; have yf := rd_scal (i := 3) (v := v9) y9 (by decide); rw [scs_eq hv9] at yf; exact yf)
    | (rw [if_neg (bz h9), if_neg (bz h57), if_neg (bz h92)]; exact y9)
theorem bo_if {E0 E : HP} {T : TX} {b : Nat} {s : PS} {v : Int32} (y1 : CRd E0 E T b s) (hv : kiS T 2 s = true → v = nI (vaS T s)) (h : nwS T 1 6 s = true) : boC T s = true ↔ (gI E 9 b >>> (v &&& 31)) &&& 1 = 1 := by
  cases s with
  | inl z => exact absurd h (by show ¬ false = true; decide)
  | inr z =>
    have o5 : gI E 9 b = bX z.2 4 := y1.2.2.2.2.2.2.2.2.2.1 4 (by decide)
    have hk : kdT T z.1 = 2 := (in_num h).1
    have e : v = nI (numT T z.1) := hv (decide_eq_true hk)
    have h' : inN T z.1 1 6 = true := h
    show (inN T z.1 1 6 && decide ((bX z.2 4 >>> (nI (numT T z.1) &&& 31)) &&& 1 = 1)) = true ↔ _
    rw [h', Bool.true_and, decide_eq_true_eq, o5, e]
theorem bo_no {T : TX} {s : PS} (h : ¬ nwS T 1 6 s = true) : ¬ boC T s = true := by
  cases s with
  | inl z => exact fun q => absurd q (by show ¬ false = true; decide)
  | inr z =>
    intro q
    have q : (inN T z.1 1 6 && decide ((bX z.2 4 >>> (nI (numT T z.1) &&& 31)) &&& 1 = 1)) = true := q
    rw [Bool.and_eq_true] at q
    exact h q.1
theorem rd_or9 {E0 E E2 : HP} {T : TX} {b lo hi : Nat} {s : PS} {x v : Int32} (y1 : CRd E0 E T b s) (y2 : CRd E0 E2 T b (tkS T lo hi s)) (hx : x = gI E 9 b) (hv : ∀ a B, tkS T lo hi s = .inr (a, B) → v = nI (vaS T s)) : CRd E0 (sI E2 9 b (x ||| (1 <<< (v &&& 31)))) T b (orX (1 <<< (nI (vaS T s) &&& 31)) (tkS T lo hi s)) := by
  have ys := rd_scal (i := 4) (v := x ||| (1 <<< (v &&& 31))) y2 (by decide)
  cases ht : tkS T lo hi s with
  | inl z => rw [ht] at ys; exact ys
  | inr z =>
    rw [ht] at ys
    have e := hv z.1 z.2 ht
    obtain ⟨a0, e0, -⟩ := tk_live ht
    subst e0
    have o5 : gI E 9 b = bX z.2 4 := y1.2.2.2.2.2.2.2.2.2.1 4 (by decide)
    rw [hx, o5, e] at ys
    rw [hx, o5, e]
    exact ys
set_option maxRecDepth 20000 in
theorem rd_bol {d : Nat} {E0 E : HP} {T : TX} {b : Nat} {s : PS}  (y1 : CRd E0 E T b s)  : ∃ o, (∃ E2, o = (.inl none, E2, 137) ∧ CRd E0 E2 T b (boS T s)) ∧ Cl yX5_readBolster mX5_readBolster (d + 7) 0 0 [.ref 41] E 137 o := by
  have hb := rd_b y1
  have hbs : sh b = (0, 0) := bo_1 (rd_bed y1)
  have hbn : b < 137 := by omega
  have hb5 : sh (b + 5) = (7, 0) := (rd_bed y1).2.2.2.2.2.2.2.2.2.1.1
  have hb5n : b + 5 < 137 := by omega
  refine Cx.of (by decide) rfl (fun q => by cases q) rfl rfl (Nat.le_of_ble_eq_true rfl) ?_
  show Sx _ _ _ _ _ 0 [some (.ref 41), none] [] _ _
  refine Sx.up (fun _ kk => r_aload_n 1 dX5_readBolster_0 rfl rfl kk) ?_
  refine Sx.up (fun _ kk => r_getR 4 dX5_readBolster_1 rfl f5_19 rfl (by first | with_reducible assumption | with_reducible exact cr_bs hC | rfl) (by first | with_reducible assumption | with_reducible exact cr_bn hC | exact Nat.le_of_ble_eq_true rfl) (rd_tok y1) kk) ?_
  obtain ⟨_, ⟨E2, rfl, y2⟩, hcl2⟩ := rd_adv (d := d + 1) y1
  refine Sx.up (fun _ kk => r_callV (M := mX5_readBolster) (pc := 4) 7 dX5_readBolster_4 rfl k5_131 hcl2 rfl rfl (by first | with_reducible assumption | with_reducible exact cr_bs hC | rfl) (by decide) rfl (by first | with_reducible assumption | with_reducible exact cr_bn hC | exact Nat.le_of_ble_eq_true rfl) (Nat.le_of_ble_eq_true rfl) kk) ?_
  refine Sx.up (fun _ kk => r_aload_n 8 dX5_readBolster_7 rfl rfl kk) ?_
  refine Sx.up (fun _ kk => r_getR 11 dX5_readBolster_8 rfl f5_19 rfl (by first | with_reducible assumption | with_reducible exact cr_bs hC | rfl) (by first | with_reducible assumption | with_reducible exact cr_bn hC | exact Nat.le_of_ble_eq_true rfl) (rd_tok y2) kk) ?_
  refine Sx.up (fun _ kk => r_iconst (1) 12 dX5_readBolster_11 rfl (by decide) kk) ?_
  refine Sx.up (fun _ kk => r_bipush (6) 14 dX5_readBolster_12 rfl (by decide) kk) ?_
  refine Sx.up (fun _ kk => r_callV (M := mX5_readBolster) (pc := 14) 17 dX5_readBolster_14 rfl k5_134 (rd_numw (d := d + 4) (lo := 1) (hi := 6) y2 rfl rfl (by decide) (by decide)) rfl rfl (by first | with_reducible assumption | with_reducible exact cr_bs hC | rfl) (by decide) rfl (by first | with_reducible assumption | with_reducible exact cr_bn hC | exact Nat.le_of_ble_eq_true rfl) (Nat.le_of_ble_eq_true rfl) kk) ?_
  refine Sx.up (fun _ kk => r_istore_n 18 dX5_readBolster_17 rfl (by decide) rfl kk) ?_
  refine Sx.up (fun _ kk => r_iload_n 19 dX5_readBolster_18 rfl rfl kk) ?_
  refine Sx.br (fun _ ka kb => r_if_eq 22 48 dX5_readBolster_19 rfl (by decide) ka kb) (by first | exact em1 | exact em2) (fun h19 => ?_) (fun h19 => ?_)
  · have yb : CRd E0 E2 T b (boD T (advS T s)) := by
      unfold boD
      first
      | (rw [if_pos ((bo_if y2 hv (bnz h19)).mpr h40)]; exact y2)
      | (rw [if_neg (fun z => h40 ((bo_if y2 hv (bnz h19)).mp z))]; exact y2)
      | (rw [if_neg (bo_no (bz h19))]; exact y2)
    refine Sx.up (fun _ kk => r_aload_n 49 dX5_readBolster_48 rfl rfl kk) ?_
    refine Sx.up (fun _ kk => r_getR 52 dX5_readBolster_49 rfl f5_35 rfl (by first | with_reducible assumption | with_reducible exact cr_bs hC | rfl) (by first | with_reducible assumption | with_reducible exact cr_bn hC | exact Nat.le_of_ble_eq_true rfl) (rd_into yb) kk) ?_
    refine Sx.up (fun _ kk => r_dup 53 dX5_readBolster_52 rfl rfl kk) ?_
    refine Sx.up (fun _ kk => r_getI 56 dX5_readBolster_53 rfl f5_168 rfl (by first | with_reducible assumption | with_reducible exact cr_bs hC | rfl) (by first | with_reducible assumption | with_reducible exact cr_bn hC | exact Nat.le_of_ble_eq_true rfl) kk) ?_
    refine Sx.up (fun _ kk => r_iconst (1) 57 dX5_readBolster_56 rfl (by decide) kk) ?_
    refine Sx.up (fun _ kk => r_aload_n 58 dX5_readBolster_57 rfl rfl kk) ?_
    refine Sx.up (fun _ kk => r_iconst (1) 59 dX5_readBolster_58 rfl (by decide) kk) ?_
    refine Sx.up (fun _ kk => r_bipush (6) 61 dX5_readBolster_59 rfl (by decide) kk) ?_
    obtain ⟨_, ⟨E3, v3, rfl, y3, hv3⟩, hcl3⟩ := rd_take (d := d) (lo := 1) (hi := 6) yb rfl rfl (by decide) (by decide)
    refine Sx.up (fun _ kk => r_callV (M := mX5_readBolster) (pc := 61) 64 dX5_readBolster_61 rfl k5_109 hcl3 rfl rfl (by first | with_reducible assumption | with_reducible exact cr_bs hC | rfl) (by decide) rfl (by first | with_reducible assumption | with_reducible exact cr_bn hC | exact Nat.le_of_ble_eq_true rfl) (Nat.le_of_ble_eq_true rfl) kk) ?_
    refine Sx.up (fun _ kk => r_ishl 65 dX5_readBolster_64 rfl kk) ?_
    refine Sx.up (fun _ kk => r_ior 66 dX5_readBolster_65 rfl kk) ?_
    refine Sx.up (fun _ kk => r_putI 69 dX5_readBolster_66 rfl f5_168 (by first | with_reducible assumption | with_reducible exact cr_bs hC | rfl) (by first | with_reducible assumption | with_reducible exact cr_bn hC | exact Nat.le_of_ble_eq_true rfl) kk) ?_
    refine ⟨_, ?_, r_vret dX5_readBolster_69 rfl rfl rfl⟩
    exact ⟨_, rfl, rd_or9 yb y3 rfl hv3⟩
  · refine Sx.up (fun _ kk => r_aload_n 23 dX5_readBolster_22 rfl rfl kk) ?_
    refine Sx.up (fun _ kk => r_getR 26 dX5_readBolster_23 rfl f5_35 rfl (by first | with_reducible assumption | with_reducible exact cr_bs hC | rfl) (by first | with_reducible assumption | with_reducible exact cr_bn hC | exact Nat.le_of_ble_eq_true rfl) (rd_into y2) kk) ?_
    refine Sx.up (fun _ kk => r_getI 29 dX5_readBolster_26 rfl f5_168 rfl (by first | with_reducible assumption | with_reducible exact cr_bs hC | rfl) (by first | with_reducible assumption | with_reducible exact cr_bn hC | exact Nat.le_of_ble_eq_true rfl) kk) ?_
    refine Sx.up (fun _ kk => r_aload_n 30 dX5_readBolster_29 rfl rfl kk) ?_
    refine Sx.up (fun _ kk => r_getR 33 dX5_readBolster_30 rfl f5_19 rfl (by first | with_reducible assumption | with_reducible exact cr_bs hC | rfl) (by first | with_reducible assumption | with_reducible exact cr_bn hC | exact Nat.le_of_ble_eq_true rfl) (rd_tok y2) kk) ?_
    obtain ⟨v, hv, hnu⟩ := rd_num (d := d + 5) y2
    refine Sx.up (fun _ kk => r_callV (M := mX5_readBolster) (pc := 33) 36 dX5_readBolster_33 rfl k5_138 hnu rfl rfl (by first | with_reducible assumption | with_reducible exact cr_bs hC | rfl) (by decide) rfl (by first | with_reducible assumption | with_reducible exact cr_bn hC | exact Nat.le_of_ble_eq_true rfl) (Nat.le_of_ble_eq_true rfl) kk) ?_
    refine Sx.up (fun _ kk => r_ishr 37 dX5_readBolster_36 rfl kk) ?_
    refine Sx.up (fun _ kk => r_iconst (1) 38 dX5_readBolster_37 rfl (by decide) kk) ?_
    refine Sx.up (fun _ kk => r_iand 39 dX5_readBolster_38 rfl kk) ?_
    refine Sx.up (fun _ kk => r_iconst (1) 40 dX5_readBolster_39 rfl (by decide) kk) ?_
    refine Sx.br (fun _ ka kb => r_icmp_ne 43 48 dX5_readBolster_40 rfl (by decide) ka kb) (by first | exact em1 | exact em2) (fun h40 => ?_) (fun h40 => ?_)
    · have yb : CRd E0 E2 T b (boD T (advS T s)) := by
        unfold boD
        first
        | (rw [if_pos ((bo_if y2 hv (bnz h19)).mpr h40)]; exact y2)
        | (rw [if_neg (fun z => h40 ((bo_if y2 hv (bnz h19)).mp z))]; exact y2)
        | (rw [if_neg (bo_no (bz h19))]; exact y2)
      refine Sx.up (fun _ kk => r_aload_n 49 dX5_readBolster_48 rfl rfl kk) ?_
      refine Sx.up (fun _ kk => r_getR 52 dX5_readBolster_49 rfl f5_35 rfl (by first | with_reducible assumption | with_reducible exact cr_bs hC | rfl) (by first | with_reducible assumption | with_reducible exact cr_bn hC | exact Nat.le_of_ble_eq_true rfl) (rd_into yb) kk) ?_
      refine Sx.up (fun _ kk => r_dup 53 dX5_readBolster_52 rfl rfl kk) ?_
      refine Sx.up (fun _ kk => r_getI 56 dX5_readBolster_53 rfl f5_168 rfl (by first | with_reducible assumption | with_reducible exact cr_bs hC | rfl) (by first | with_reducible assumption | with_reducible exact cr_bn hC | exact Nat.le_of_ble_eq_true rfl) kk) ?_
      refine Sx.up (fun _ kk => r_iconst (1) 57 dX5_readBolster_56 rfl (by decide) kk) ?_
      refine Sx.up (fun _ kk => r_aload_n 58 dX5_readBolster_57 rfl rfl kk) ?_
      refine Sx.up (fun _ kk => r_iconst (1) 59 dX5_readBolster_58 rfl (by decide) kk) ?_
      refine Sx.up (fun _ kk => r_bipush (6) 61 dX5_readBolster_59 rfl (by decide) kk) ?_
      obtain ⟨_, ⟨E4, v4, rfl, y4, hv4⟩, hcl4⟩ := rd_take (d := d) (lo := 1) (hi := 6) yb rfl rfl (by decide) (by decide)
      refine Sx.up (fun _ kk => r_callV (M := mX5_readBolster) (pc := 61) 64 dX5_readBolster_61 rfl k5_109 hcl4 rfl rfl (by first | with_reducible assumption | with_reducible exact cr_bs hC | rfl) (by decide) rfl (by first | with_reducible assumption | with_reducible exact cr_bn hC | exact Nat.le_of_ble_eq_true rfl) (Nat.le_of_ble_eq_true rfl) kk) ?_
      refine Sx.up (fun _ kk => r_ishl 65 dX5_readBolster_64 rfl kk) ?_
      refine Sx.up (fun _ kk => r_ior 66 dX5_readBolster_65 rfl kk) ?_
      refine Sx.up (fun _ kk => r_putI 69 dX5_readBolster_66 rfl f5_168 (by first | with_reducible assumption | with_reducible exact cr_bs hC | rfl) (by first | with_reducible assumption | with_reducible exact cr_bn hC | exact Nat.le_of_ble_eq_true rfl) kk) ?_
      refine ⟨_, ?_, r_vret dX5_readBolster_69 rfl rfl rfl⟩
      exact ⟨_, rfl, rd_or9 yb y4 rfl hv4⟩
    · refine Sx.up (fun _ kk => r_aload_n 44 dX5_readBolster_43 rfl rfl kk) ?_
      refine Sx.up (fun _ kk => r_iconst (5) 45 dX5_readBolster_44 rfl (by decide) kk) ?_
      obtain ⟨_, ⟨E5, rfl, y5⟩, hcl5⟩ := rd_refuse (d := d + 5) y2 (k := 5) (k9 := 5) rfl (by decide) (by decide)
      refine Sx.up (fun _ kk => r_callV (M := mX5_readBolster) (pc := 45) 48 dX5_readBolster_45 rfl k5_128 hcl5 rfl rfl (by first | with_reducible assumption | with_reducible exact cr_bs hC | rfl) (by decide) rfl (by first | with_reducible assumption | with_reducible exact cr_bn hC | exact Nat.le_of_ble_eq_true rfl) (Nat.le_of_ble_eq_true rfl) kk) ?_
      have yb : CRd E0 E5 T b (boD T (advS T s)) := by
        unfold boD
        first
        | (rw [if_pos ((bo_if y2 hv (bnz h19)).mpr h40)]; exact y5)
        | (rw [if_neg (fun z => h40 ((bo_if y2 hv (bnz h19)).mp z))]; exact y5)
        | (rw [if_neg (bo_no (bz h19))]; exact y5)
      refine Sx.up (fun _ kk => r_aload_n 49 dX5_readBolster_48 rfl rfl kk) ?_
      refine Sx.up (fun _ kk => r_getR 52 dX5_readBolster_49 rfl f5_35 rfl (by first | with_reducible assumption | with_reducible exact cr_bs hC | rfl) (by first | with_reducible assumption | with_reducible exact cr_bn hC | exact Nat.le_of_ble_eq_true rfl) (rd_into yb) kk) ?_
      refine Sx.up (fun _ kk => r_dup 53 dX5_readBolster_52 rfl rfl kk) ?_
      refine Sx.up (fun _ kk => r_getI 56 dX5_readBolster_53 rfl f5_168 rfl (by first | with_reducible assumption | with_reducible exact cr_bs hC | rfl) (by first | with_reducible assumption | with_reducible exact cr_bn hC | exact Nat.le_of_ble_eq_true rfl) kk) ?_
      refine Sx.up (fun _ kk => r_iconst (1) 57 dX5_readBolster_56 rfl (by decide) kk) ?_
      refine Sx.up (fun _ kk => r_aload_n 58 dX5_readBolster_57 rfl rfl kk) ?_
      refine Sx.up (fun _ kk => r_iconst (1) 59 dX5_readBolster_58 rfl (by decide) kk) ?_
      refine Sx.up (fun _ kk => r_bipush (6) 61 dX5_readBolster_59 rfl (by decide) kk) ?_
      obtain ⟨_, ⟨E6, v6, rfl, y6, hv6⟩, hcl6⟩ := rd_take (d := d) (lo := 1) (hi := 6) yb rfl rfl (by decide) (by decide)
      refine Sx.up (fun _ kk => r_callV (M := mX5_readBolster) (pc := 61) 64 dX5_readBolster_61 rfl k5_109 hcl6 rfl rfl (by first | with_reducible assumption | with_reducible exact cr_bs hC | rfl) (by decide) rfl (by first | with_reducible assumption | with_reducible exact cr_bn hC | exact Nat.le_of_ble_eq_true rfl) (Nat.le_of_ble_eq_true rfl) kk) ?_
      refine Sx.up (fun _ kk => r_ishl 65 dX5_readBolster_64 rfl kk) ?_
      refine Sx.up (fun _ kk => r_ior 66 dX5_readBolster_65 rfl kk) ?_
      refine Sx.up (fun _ kk => r_putI 69 dX5_readBolster_66 rfl f5_168 (by first | with_reducible assumption | with_reducible exact cr_bs hC | rfl) (by first | with_reducible assumption | with_reducible exact cr_bn hC | exact Nat.le_of_ble_eq_true rfl) kk) ?_
      refine ⟨_, ?_, r_vret dX5_readBolster_69 rfl rfl rfl⟩
      exact ⟨_, rfl, rd_or9 yb y6 rfl hv6⟩
theorem nf_y {E0 E : HP} {T : TX} {b : Nat} {s : PS} (y1 : CRd E0 E T b s) (h : gI E 10 b < 6) : neF s = s := by
  cases s with
  | inl z => rfl
  | inr z =>
    have o7 : gI E 10 b = nI (bN z.2) := y1.2.2.2.2.2.2.2.2.2.2.2.1
    have o8 : bN z.2 ≤ 6 := y1.2.2.2.2.2.2.2.2.2.2.2.2.1
    rw [o7] at h
    exact if_neg (fun q => absurd h (nI_nlt (b := 6) q (by omega)))
theorem nf_n {E0 E : HP} {T : TX} {b : Nat} {s : PS} (y1 : CRd E0 E T b s) (h : ¬ gI E 10 b < 6) : neF s = fltS 2 s := by
  cases s with
  | inl z => rfl
  | inr z =>
    have o7 : gI E 10 b = nI (bN z.2) := y1.2.2.2.2.2.2.2.2.2.2.2.1
    rw [o7] at h
    exact if_pos (Nat.le_of_not_lt (fun q => h (nI_lt (b := 6) q (by omega))))
theorem nf_live {s : PS} {a : Nat} {B : BD} (h : neF s = .inr (a, B)) : bN B < 6 ∧ s = .inr (a, B) := by
  cases s with
  | inl z => cases h
  | inr z =>
    have h : (if 6 ≤ bN z.2 then .inl (2, z.1) else .inr (z.1, z.2)) = (.inr (a, B) : PS) := h
    by_cases q : 6 ≤ bN z.2
    · rw [if_pos q] at h; cases h
    · rw [if_neg q] at h
      have h := Sum.inr.inj h
      cases h
      exact ⟨by omega, rfl⟩
theorem adv_live {T : TX} {s : PS} {a : Nat} {B : BD} (h : advS T s = .inr (a, B)) : ∃ a0, s = .inr (a0, B) := by
  cases s with
  | inl z => cases h
  | inr z =>
    have h := Sum.inr.inj (show (.inr (nxT T z.1, z.2) : PS) = .inr (a, B) from h)
    cases h
    exact ⟨_, rfl⟩
theorem un_live {T : TX} {s : PS} {a : Nat} {B : BD} (h : unS T s = .inr (a, B)) : s = .inr (a, B) ∧ ¬ inN T a (bC B) 9999 = true := by
  cases s with
  | inl z => cases h
  | inr z =>
    have h : (if inN T z.1 (bC z.2) 9999 = true then .inl (3, z.1) else .inr (z.1, z.2)) = (.inr (a, B) : PS) := h
    by_cases q : inN T z.1 (bC z.2) 9999 = true
    · rw [if_pos q] at h; cases h
    · rw [if_neg q] at h
      have h := Sum.inr.inj h
      cases h
      exact ⟨rfl, q⟩
theorem un_lt {T : TX} {a c : Nat} (h : ¬ inN T a c 9999 = true) (hk : kdT T a = 2) (h9 : numT T a ≤ 9999) : numT T a < c := by
  rcases Nat.lt_or_ge (numT T a) c with z | z
  · exact z
  · exact absurd (decide_eq_true (p := kdT T a = 2 ∧ c ≤ numT T a ∧ numT T a ≤ 9999) ⟨hk, z, h9⟩) h
/-- the SLEEPER that was taken behind un: told ahead -/
theorem one_live {T : TX} {s : PS} {a : Nat} {B : BD} (h : tkS T 0 9999 (unS T s) = .inr (a, B)) : vaS T (unS T s) < bC B := by
  obtain ⟨a0, e0, -, hk, -, h9⟩ := tk_live h
  obtain ⟨e1, e2⟩ := un_live e0
  rw [e0]
  exact un_lt e2 hk h9
/-- whether the second SLEEPER of a NEVER is refused -/
def agC (T : TX) (v : Nat) : PS → Bool
  | .inl _ => false
  | .inr (a, B) => decide (kdT T a = 2 ∧ numT T a < bC B ∧ (numT T a = v ∨ (bE B v >>> (nI (numT T a) &&& 31)) &&& 1 = 1))
theorem ag_if {T : TX} {v : Nat} (s : PS) : agS T v s = if agC T v s = true then fltS 4 s else s := by
  cases s with
  | inl z => rfl
  | inr z =>
    show (if kdT T z.1 = 2 ∧ numT T z.1 < bC z.2 ∧ (numT T z.1 = v ∨ (bE z.2 v >>> (nI (numT T z.1) &&& 31)) &&& 1 = 1) then (.inl (4, z.1) : PS) else .inr z) = _
    by_cases q : kdT T z.1 = 2 ∧ numT T z.1 < bC z.2 ∧ (numT T z.1 = v ∨ (bE z.2 v >>> (nI (numT T z.1) &&& 31)) &&& 1 = 1)
    · rw [if_pos q, if_pos (show agC T v (.inr z) = true from decide_eq_true q)]; rfl
    · rw [if_neg q, if_neg (fun y => q (of_decide_eq_true (show agC T v (.inr z) = true from y)))]
theorem ag_td {T : TX} {v : Nat} {s : PS} (h : ¬ tdC T s = true) : ¬ agC T v s = true := by
  cases s with
  | inl z => exact fun q => absurd q (by show ¬ false = true; decide)
  | inr z =>
    intro q
    have q := of_decide_eq_true (show decide (kdT T z.1 = 2 ∧ numT T z.1 < bC z.2 ∧ (numT T z.1 = v ∨ (bE z.2 v >>> (nI (numT T z.1) &&& 31)) &&& 1 = 1)) = true from q)
    exact h (decide_eq_true (p := kdT T z.1 = 2 ∧ numT T z.1 < bC z.2) ⟨q.1, q.2.1⟩)
theorem td_ki {T : TX} {s : PS} (h : tdC T s = true) : kiS T 2 s = true := by
  cases s with
  | inl z => exact absurd h (by show ¬ false = true; decide)
  | inr z => exact decide_eq_true (of_decide_eq_true (show decide (kdT T z.1 = 2 ∧ numT T z.1 < bC z.2) = true from h)).1
theorem ag_1 {T : TX} {v : Nat} {s : PS} (h : tdC T s = true) (e : vaS T s = v) : agC T v s = true := by
  cases s with
  | inl z => exact absurd h (by show ¬ false = true; decide)
  | inr z =>
    have h := of_decide_eq_true (show decide (kdT T z.1 = 2 ∧ numT T z.1 < bC z.2) = true from h)
    exact decide_eq_true (p := kdT T z.1 = 2 ∧ numT T z.1 < bC z.2 ∧ (numT T z.1 = v ∨ (bE z.2 v >>> (nI (numT T z.1) &&& 31)) &&& 1 = 1)) ⟨h.1, h.2, Or.inl e⟩
theorem ag_2 {E0 E : HP} {T : TX} {b v : Nat} {s : PS} (y1 : CRd E0 E T b s) (h : tdC T s = true) (e : ¬ vaS T s = v) (hv : ∀ a B, s = .inr (a, B) → v < bC B) : agC T v s = true ↔ ¬ nevV E b (nI v) (nI (vaS T s)) = 0 := by
  cases s with
  | inl z => exact absurd h (by show ¬ false = true; decide)
  | inr z =>
    have h := of_decide_eq_true (show decide (kdT T z.1 = 2 ∧ numT T z.1 < bC z.2) = true from h)
    have o2 : bC z.2 ≤ 7 := y1.2.2.2.2.2.2.1
    have hv7 := hv z.1 z.2 rfl
    have o4 : gA E (b + 4) v = bE z.2 v := y1.2.2.2.2.2.2.2.2.1 v (by omega)
    have e : ¬ numT T z.1 = v := e
    unfold nevV
    rw [rAt_nI (by omega) (by omega)]
    show _ ↔ ¬ (if (gA E (b + 4) v >>> (nI (numT T z.1) &&& 31)) &&& 1 = 1 then (1 : Int32) else 0) = 0
    rw [o4]
    constructor
    · intro q
      have q := of_decide_eq_true (show decide (kdT T z.1 = 2 ∧ numT T z.1 < bC z.2 ∧ (numT T z.1 = v ∨ (bE z.2 v >>> (nI (numT T z.1) &&& 31)) &&& 1 = 1)) = true from q)
      rw [if_pos (q.2.2.resolve_left e)]
      decide
    · intro q
      by_cases y : (bE z.2 v >>> (nI (numT T z.1) &&& 31)) &&& 1 = 1
      · exact decide_eq_true (p := kdT T z.1 = 2 ∧ numT T z.1 < bC z.2 ∧ (numT T z.1 = v ∨ (bE z.2 v >>> (nI (numT T z.1) &&& 31)) &&& 1 = 1)) ⟨h.1, h.2, Or.inr y⟩
      · rw [if_neg y] at q; exact absurd rfl q
theorem ag_live {T : TX} {v a : Nat} {B : BD} {s : PS} (h : agS T v s = .inr (a, B)) : s = .inr (a, B) ∧ ¬ (kdT T a = 2 ∧ numT T a < bC B ∧ numT T a = v) := by
  cases s with
  | inl z => cases h
  | inr z =>
    have h : (if kdT T z.1 = 2 ∧ numT T z.1 < bC z.2 ∧ (numT T z.1 = v ∨ (bE z.2 v >>> (nI (numT T z.1) &&& 31)) &&& 1 = 1) then .inl (4, z.1) else .inr (z.1, z.2)) = (.inr (a, B) : PS) := h
    by_cases q : kdT T z.1 = 2 ∧ numT T z.1 < bC z.2 ∧ (numT T z.1 = v ∨ (bE z.2 v >>> (nI (numT T z.1) &&& 31)) &&& 1 = 1)
    · rw [if_pos q] at h; cases h
    · rw [if_neg q] at h
      have h := Sum.inr.inj h
      cases h
      exact ⟨rfl, fun y => q ⟨y.1, y.2.1, Or.inl y.2.2⟩⟩
theorem gA_put {E : HP} {h l k j m : Nat} {v : Int32} (hk : k < l) (hl : l < 100000) : gA (rPut E h l (nI k) v) j m = if j = h + 1 ∧ m = k then v else gA E j m := by
  rw [rPut_nI hk hl, gA_sA]
theorem rd_nev {E0 E : HP} {T : TX} {b x y : Nat} {s : PS} {v w : Int32} (y1 : CRd E0 E T b s) (hv : ∀ a B, s = .inr (a, B) → v = nI x ∧ w = nI y ∧ x < bC B ∧ y < bC B ∧ bN B < 6) : CRd E0 (beNever b v w E) T b (nvS x y s) := by
  have hb := rd_b y1
  have hF := rd_F y1
  have fr : Fr (fun k => k = b ∨ k = b + 4) E (beNever b v w E) := fr_sI (Or.inl rfl) (fr_put (Or.inr rfl) (fr_put (Or.inr rfl) fr_rfl))
  have sr : SR E (beNever b v w E) := sr_sI (sr_put (sr_put sr_rfl))
  have i2 : ∀ g k, ¬ (g = 10 ∧ k = b) → gI (beNever b v w E) g k = gI E g k := fun g k z => by
    unfold beNever
    rw [gI_sI, if_neg z, gI_rPut, gI_rPut]
  have a2 : ∀ k, k ≠ b → k ≠ b + 4 → gA (beNever b v w E) k = gA E k := fun k z1 z2 => fr_gA fr (by omega)
  refine rd_step y1 (fr_mono fr (fun k z => Or.inr (Or.inr (by omega)))) sr ⟨sr_gR sr hF.1, sr_row sr hF.2.1, (i2 _ _ (by omega)).trans hF.2.2.1, fun i hi => by rw [a2 _ (by omega) (by omega)]; exact hF.2.2.2 i hi⟩ ?_
  cases s with
  | inl z =>
    obtain ⟨c1, c2, c3, c4, c5, ⟨q, q1, q2, q3, q4⟩⟩ := id y1.2
    exact ⟨(i2 _ _ (by omega)).trans c1, c2, c3, (i2 _ _ (by omega)).trans c4, c5, q, q1, (i2 _ _ (by omega)).trans q2, (i2 _ _ (by omega)).trans q3, (i2 _ _ (by omega)).trans q4⟩
  | inr z =>
    obtain ⟨a, B⟩ := z
    obtain ⟨c1, c2, c3, c4, o1, o2, o3, o4, o5, o6, o7, o8, o9, o10, o11⟩ := id y1.2
    obtain ⟨rfl, rfl, hx, hy, hn⟩ := hv a B rfl
    refine ⟨(i2 _ _ (by omega)).trans c1, (i2 _ _ (by omega)).trans c2, c3, ⟨(i2 _ _ (by omega)).trans c4.1, (i2 _ _ (by omega)).trans c4.2.1, (i2 _ _ (by omega)).trans c4.2.2⟩, (i2 _ _ (by omega)).trans o1, o2, fun s hs k k1 k7 => (i2 _ _ (by omega)).trans (o3 s hs k k1 k7), fun s hs => ?_, fun j hj => (i2 _ _ (by omega)).trans (o5 j hj), (i2 _ _ (by omega)).trans o6, ?_, ?_, (i2 _ _ (by omega)).trans o9, o10, fun j hj => by rw [a2 _ (by omega) (by omega)]; exact o11 j hj⟩
    · show _ = (if s = y then (if y = x then bE B x ||| (1 <<< (nI y &&& 31)) else bE B y) ||| (1 <<< (nI x &&& 31)) else if s = x then bE B x ||| (1 <<< (nI y &&& 31)) else bE B s)
      unfold beNever
      show gA (rPut _ (b + 3) 7 (nI y) _) (b + 4) s = _
      rw [gA_put (by omega) (by decide), rAt_nI (by omega) (by decide), rAt_nI (by omega) (by decide), gA_put (by omega) (by decide), gA_put (by omega) (by decide)]
      show (if b + 4 = b + 3 + 1 ∧ s = y then (if b + 3 + 1 = b + 3 + 1 ∧ y = x then gA E (b + 4) x ||| _ else gA E (b + 4) y) ||| _ else if b + 4 = b + 3 + 1 ∧ s = x then gA E (b + 4) x ||| _ else gA E (b + 4) s) = _
      rw [o4 s hs, o4 x (by omega), o4 y (by omega)]
      simp only [true_and]
    · unfold beNever
      rw [gI_sI, if_pos ⟨rfl, rfl⟩, o7, nI_pp]; rfl
    · show bN B + 1 ≤ 6; omega
