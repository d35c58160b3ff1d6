/-! lines, further on -/
set_option maxRecDepth 20000 in
set_option maxHeartbeats 16000000 in
theorem rd_never {d : Nat} {E0 E : HP} {T : TX} {b : Nat} {s : PS}  (y1 : CRd E0 E T b s)  : ∃ o, (∃ E2, o = (.inl none, E2, 137) ∧ CRd E0 E2 T b (neS T s)) ∧ Cl yX5_readNever mX5_readNever (d + 7) 0 0 [.ref 41] E 137 o := by
  have hb := rd_b y1
  have hbs : sh b = (0, 0) := bo_1 (rd_bed y1)
  have hbn : b < 137 := by omega
  have hb5 : sh (b + 5) = (7, 0) := (rd_bed y1).2.2.2.2.2.2.2.2.2.1.1
  have hb5n : b + 5 < 137 := by omega
  refine Cx.of (by decide) rfl (fun q => by cases q) rfl rfl (Nat.le_of_ble_eq_true rfl) ?_
  show Sx _ _ _ _ _ 0 [some (.ref 41), none, none] [] _ _
  refine Sx.up (fun _ kk => r_aload_n 1 dX5_readNever_0 rfl rfl kk) ?_
  refine Sx.up (fun _ kk => r_getR 4 dX5_readNever_1 rfl f5_35 rfl (by first | with_reducible assumption | with_reducible exact cr_bs hC | rfl) (by first | with_reducible assumption | with_reducible exact cr_bn hC | exact Nat.le_of_ble_eq_true rfl) (rd_into y1) kk) ?_
  refine Sx.up (fun _ kk => r_getI 7 dX5_readNever_4 rfl f5_171 rfl (by first | with_reducible assumption | with_reducible exact cr_bs hC | rfl) (by first | with_reducible assumption | with_reducible exact cr_bn hC | exact Nat.le_of_ble_eq_true rfl) kk) ?_
  refine Sx.up (fun _ kk => r_bipush (6) 9 dX5_readNever_7 rfl (by decide) kk) ?_
  refine Sx.br (fun _ ka kb => r_icmp_lt 12 17 dX5_readNever_9 rfl (by decide) ka kb) (by first | exact em1 | exact em2) (fun h9 => ?_) (fun h9 => ?_)
  · have yf : CRd E0 E T b (neF s) := by
      first
      | (rw [nf_y y1 h9]; exact y1)
      | (rw [nf_n y1 h9]; exact y1)
    refine Sx.up (fun _ kk => r_aload_n 18 dX5_readNever_17 rfl rfl kk) ?_
    refine Sx.up (fun _ kk => r_getR 21 dX5_readNever_18 rfl f5_19 rfl (by first | with_reducible assumption | with_reducible exact cr_bs hC | rfl) (by first | with_reducible assumption | with_reducible exact cr_bn hC | exact Nat.le_of_ble_eq_true rfl) (rd_tok yf) kk) ?_
    obtain ⟨_, ⟨E2, rfl, y2⟩, hcl2⟩ := rd_adv (d := d + 1) yf
    refine Sx.up (fun _ kk => r_callV (M := mX5_readNever) (pc := 21) 24 dX5_readNever_21 rfl k5_131 hcl2 rfl rfl (by first | with_reducible assumption | with_reducible exact cr_bs hC | rfl) (by decide) rfl (by first | with_reducible assumption | with_reducible exact cr_bn hC | exact Nat.le_of_ble_eq_true rfl) (Nat.le_of_ble_eq_true rfl) kk) ?_
    refine Sx.up (fun _ kk => r_aload_n 25 dX5_readNever_24 rfl rfl kk) ?_
    obtain ⟨_, ⟨E3, rfl, y3⟩, hcl3⟩ := rd_un (d := d) y2
    refine Sx.up (fun _ kk => r_callV (M := mX5_readNever) (pc := 25) 28 dX5_readNever_25 rfl k5_174 hcl3 rfl rfl (by first | with_reducible assumption | with_reducible exact cr_bs hC | rfl) (by decide) rfl (by first | with_reducible assumption | with_reducible exact cr_bn hC | exact Nat.le_of_ble_eq_true rfl) (Nat.le_of_ble_eq_true rfl) kk) ?_
    refine Sx.up (fun _ kk => r_aload_n 29 dX5_readNever_28 rfl rfl kk) ?_
    refine Sx.up (fun _ kk => r_iconst (0) 30 dX5_readNever_29 rfl (by decide) kk) ?_
    refine Sx.up (fun _ kk => r_sipush (9999) 33 dX5_readNever_30 rfl (by decide) kk) ?_
    obtain ⟨sa, hsa⟩ : ∃ sa, unS T (advS T (neF s)) = sa := ⟨_, rfl⟩
    have yk := y3
    rw [hsa] at yk
    obtain ⟨_, ⟨E4, v4, rfl, y4, hone4⟩, hcl4⟩ := rd_take (d := d) (lo := 0) (hi := 9999) yk rfl rfl (by decide) (by decide)
    refine Sx.up (fun _ kk => r_callV (M := mX5_readNever) (pc := 33) 36 dX5_readNever_33 rfl k5_109 hcl4 rfl rfl (by first | with_reducible assumption | with_reducible exact cr_bs hC | rfl) (by decide) rfl (by first | with_reducible assumption | with_reducible exact cr_bn hC | exact Nat.le_of_ble_eq_true rfl) (Nat.le_of_ble_eq_true rfl) kk) ?_
    refine Sx.up (fun _ kk => r_istore_n 37 dX5_readNever_36 rfl (by decide) rfl kk) ?_
    refine Sx.up (fun _ kk => r_aload_n 38 dX5_readNever_37 rfl rfl kk) ?_
    obtain ⟨_, ⟨E5, rfl, y5⟩, hcl5⟩ := rd_un (d := d) y4
    refine Sx.up (fun _ kk => r_callV (M := mX5_readNever) (pc := 38) 41 dX5_readNever_38 rfl k5_174 hcl5 rfl rfl (by first | with_reducible assumption | with_reducible exact cr_bs hC | rfl) (by decide) rfl (by first | with_reducible assumption | with_reducible exact cr_bn hC | exact Nat.le_of_ble_eq_true rfl) (Nat.le_of_ble_eq_true rfl) kk) ?_
    obtain ⟨sb, hsb⟩ : ∃ sb, unS T (tkS T 0 9999 sa) = sb := ⟨_, rfl⟩
    have yb := y5
    rw [hsb] at yb
    have hone : ∀ a B, sb = .inr (a, B) → vaS T sa < bC B := by
      intro a B z
      rw [← hsb] at z
      have := one_live (T := T) (s := advS T (neF s)) (by rw [hsa]; exact (un_live z).1)
      rw [hsa] at this
      exact this
    refine Sx.up (fun _ kk => r_aload_n 42 dX5_readNever_41 rfl rfl kk) ?_
    refine Sx.up (fun _ kk => r_getR 45 dX5_readNever_42 rfl f5_19 rfl (by first | with_reducible assumption | with_reducible exact cr_bs hC | rfl) (by first | with_reducible assumption | with_reducible exact cr_bn hC | exact Nat.le_of_ble_eq_true rfl) (rd_tok yb) kk) ?_
    refine Sx.up (fun _ kk => r_iconst (0) 46 dX5_readNever_45 rfl (by decide) kk) ?_
    refine Sx.up (fun _ kk => r_aload_n 47 dX5_readNever_46 rfl rfl kk) ?_
    refine Sx.up (fun _ kk => r_getR 50 dX5_readNever_47 rfl f5_35 rfl (by first | with_reducible assumption | with_reducible exact cr_bs hC | rfl) (by first | with_reducible assumption | with_reducible exact cr_bn hC | exact Nat.le_of_ble_eq_true rfl) (rd_into yb) kk) ?_
    refine Sx.up (fun _ kk => r_getI 53 dX5_readNever_50 rfl f5_145 rfl (by first | with_reducible assumption | with_reducible exact cr_bs hC | rfl) (by first | with_reducible assumption | with_reducible exact cr_bn hC | exact Nat.le_of_ble_eq_true rfl) kk) ?_
    refine Sx.up (fun _ kk => r_iconst (1) 54 dX5_readNever_53 rfl (by decide) kk) ?_
    refine Sx.up (fun _ kk => r_isub 55 dX5_readNever_54 rfl kk) ?_
    refine Sx.up (fun _ kk => r_callV (M := mX5_readNever) (pc := 55) 58 dX5_readNever_55 rfl k5_134 (rd_tdw (d := d + 4) yb rfl rfl) rfl rfl (by first | with_reducible assumption | with_reducible exact cr_bs hC | rfl) (by decide) rfl (by first | with_reducible assumption | with_reducible exact cr_bn hC | exact Nat.le_of_ble_eq_true rfl) (Nat.le_of_ble_eq_true rfl) kk) ?_
    refine Sx.up (fun _ kk => r_istore_n 59 dX5_readNever_58 rfl (by decide) rfl kk) ?_
    refine Sx.up (fun _ kk => r_iload_n 60 dX5_readNever_59 rfl rfl kk) ?_
    refine Sx.br (fun _ ka kb => r_if_eq 63 97 dX5_readNever_60 rfl (by decide) ka kb) (by first | exact em1 | exact em2) (fun h60 => ?_) (fun h60 => ?_)
    · have ya : CRd E0 E5 T b (agS T (vaS T sa) sb) := by
        rw [ag_if]
        first
        | (rw [if_pos (ag_1 (bnz h60) ((e9 _ hva).mp (by rw [← hv9, ← ev]; exact h71)))]; exact yb)
        | (rw [if_pos ((ag_2 yb (bnz h60) e71 hone).mpr h89)]; exact yb)
        | (rw [if_neg (fun z => (ag_2 yb (bnz h60) e71 hone).mp z h89)]; exact yb)
        | (rw [if_neg (ag_td (bz h60))]; exact yb)
      refine Sx.up (fun _ kk => r_aload_n 98 dX5_readNever_97 rfl rfl kk) ?_
      refine Sx.up (fun _ kk => r_getR 101 dX5_readNever_98 rfl f5_35 rfl (by first | with_reducible assumption | with_reducible exact cr_bs hC | rfl) (by first | with_reducible assumption | with_reducible exact cr_bn hC | exact Nat.le_of_ble_eq_true rfl) (rd_into ya) kk) ?_
      refine Sx.up (fun _ kk => r_iload_n 102 dX5_readNever_101 rfl rfl kk) ?_
      refine Sx.up (fun _ kk => r_aload_n 103 dX5_readNever_102 rfl rfl kk) ?_
      refine Sx.up (fun _ kk => r_iconst (0) 104 dX5_readNever_103 rfl (by decide) kk) ?_
      refine Sx.up (fun _ kk => r_sipush (9999) 107 dX5_readNever_104 rfl (by decide) kk) ?_
      obtain ⟨_, ⟨E6, v6, rfl, y6, hv6⟩, hcl6⟩ := rd_take (d := d) (lo := 0) (hi := 9999) ya rfl rfl (by decide) (by decide)
      refine Sx.up (fun _ kk => r_callV (M := mX5_readNever) (pc := 107) 110 dX5_readNever_107 rfl k5_109 hcl6 rfl rfl (by first | with_reducible assumption | with_reducible exact cr_bs hC | rfl) (by decide) rfl (by first | with_reducible assumption | with_reducible exact cr_bn hC | exact Nat.le_of_ble_eq_true rfl) (Nat.le_of_ble_eq_true rfl) kk) ?_
      refine Sx.up (fun _ kk => r_callV (M := mX5_readNever) (pc := 110) 113 dX5_readNever_110 rfl k5_180 (c_X0_addNever (d := d + 5) (rd_bed y6)) rfl rfl (by first | with_reducible assumption | with_reducible exact cr_bs hC | rfl) (by decide) rfl (by first | with_reducible assumption | with_reducible exact cr_bn hC | exact Nat.le_of_ble_eq_true rfl) (Nat.le_of_ble_eq_true rfl) kk) ?_
      refine ⟨_, ?_, r_vret dX5_readNever_113 rfl rfl rfl⟩
      refine ⟨_, rfl, ?_⟩
      have hfin := rd_nev (x := vaS T sa) (y := vaS T (agS T (vaS T sa) sb)) (v := v4) (w := v6) y6 ?_
      · have he : neS T s = nvS (vaS T sa) (vaS T (agS T (vaS T sa) sb)) (tkS T 0 9999 (agS T (vaS T sa) sb)) := by
          subst hsb
          subst hsa
          rfl
        rw [he]
        exact hfin
      · intro a B z
        have ew := hv6 a B z
        obtain ⟨a0, z0, -, k0, -, n0⟩ := tk_live z
        obtain ⟨z1, -⟩ := ag_live z0
        have hx9 := hone a0 B z1
        rw [← hsb] at z1
        obtain ⟨z2, z3⟩ := un_live z1
        have hy9 : vaS T (agS T (vaS T sa) sb) < bC B := by rw [z0]; exact un_lt z3 k0 n0
        obtain ⟨a1, z4, -⟩ := tk_live z2
        rw [← hsa] at z4
        obtain ⟨a2, z5⟩ := adv_live (un_live z4).1
        exact ⟨hone4 a0 B z2, ew, hx9, hy9, (nf_live z5).1⟩
    · have ev : v4 = nI (vaS T sa) := by
        have hl : ∃ a B, sb = .inr (a, B) := by
          have z := td_ki (bnz h60)
          cases hz : sb with
          | inl q => rw [hz] at z; exact absurd z (by show ¬ false = true; decide)
          | inr q => exact ⟨q.1, q.2, rfl⟩
        obtain ⟨a, B, z⟩ := hl
        rw [← hsb] at z
        exact hone4 a B (un_live z).1
      have e9 : ∀ x : Nat, x ≤ 10000 → (nI x = nI (vaS T sa) ↔ x = vaS T sa) := fun x hx => by
        obtain ⟨a, B, z⟩ : ∃ a B, sb = .inr (a, B) := by
          have z := td_ki (bnz h60)
          cases hz : sb with
          | inl q => rw [hz] at z; exact absurd z (by show ¬ false = true; decide)
          | inr q => exact ⟨q.1, q.2, rfl⟩
        have h7 := hone a B z
        have hc7 : bC B ≤ 7 := by rw [z] at yb; exact yb.2.2.2.2.2.2.1
        exact nI_eq (by omega) (by omega)
      have hva : vaS T sb ≤ 10000 := by
        have z := td_ki (bnz h60)
        cases hz : sb with
        | inl q => exact Nat.zero_le _
        | inr q => rw [hz] at z; exact num_lt (of_decide_eq_true z)
      refine Sx.up (fun _ kk => r_aload_n 64 dX5_readNever_63 rfl rfl kk) ?_
      refine Sx.up (fun _ kk => r_getR 67 dX5_readNever_64 rfl f5_19 rfl (by first | with_reducible assumption | with_reducible exact cr_bs hC | rfl) (by first | with_reducible assumption | with_reducible exact cr_bn hC | exact Nat.le_of_ble_eq_true rfl) (rd_tok yb) kk) ?_
      obtain ⟨v9, hv9, hnu⟩ := rd_num (d := d + 5) yb
      have hv9 := hv9 (td_ki (bnz h60))
      refine Sx.up (fun _ kk => r_callV (M := mX5_readNever) (pc := 67) 70 dX5_readNever_67 rfl k5_138 hnu rfl rfl (by first | with_reducible assumption | with_reducible exact cr_bs hC | rfl) (by decide) rfl (by first | with_reducible assumption | with_reducible exact cr_bn hC | exact Nat.le_of_ble_eq_true rfl) (Nat.le_of_ble_eq_true rfl) kk) ?_
      refine Sx.up (fun _ kk => r_iload_n 71 dX5_readNever_70 rfl rfl kk) ?_
      refine Sx.br (fun _ ka kb => r_icmp_eq 74 92 dX5_readNever_71 rfl (by decide) ka kb) (by first | exact em1 | exact em2) (fun h71 => ?_) (fun h71 => ?_)
      · refine Sx.up (fun _ kk => r_aload_n 93 dX5_readNever_92 rfl rfl kk) ?_
        refine Sx.up (fun _ kk => r_iconst (4) 94 dX5_readNever_93 rfl (by decide) kk) ?_
        obtain ⟨_, ⟨E7, rfl, y7⟩, hcl7⟩ := rd_refuse (d := d + 5) yb (k := 4) (k9 := 4) rfl (by decide) (by decide)
        refine Sx.up (fun _ kk => r_callV (M := mX5_readNever) (pc := 94) 97 dX5_readNever_94 rfl k5_128 hcl7 rfl rfl (by first | with_reducible assumption | with_reducible exact cr_bs hC | rfl) (by decide) rfl (by first | with_reducible assumption | with_reducible exact cr_bn hC | exact Nat.le_of_ble_eq_true rfl) (Nat.le_of_ble_eq_true rfl) kk) ?_
        have ya : CRd E0 E7 T b (agS T (vaS T sa) sb) := by
          rw [ag_if]
          first
          | (rw [if_pos (ag_1 (bnz h60) ((e9 _ hva).mp (by rw [← hv9, ← ev]; exact h71)))]; exact y7)
          | (rw [if_pos ((ag_2 yb (bnz h60) e71 hone).mpr h89)]; exact y7)
          | (rw [if_neg (fun z => (ag_2 yb (bnz h60) e71 hone).mp z h89)]; exact y7)
          | (rw [if_neg (ag_td (bz h60))]; exact y7)
        refine Sx.up (fun _ kk => r_aload_n 98 dX5_readNever_97 rfl rfl kk) ?_
        refine Sx.up (fun _ kk => r_getR 101 dX5_readNever_98 rfl f5_35 rfl (by first | with_reducible assumption | with_reducible exact cr_bs hC | rfl) (by first | with_reducible assumption | with_reducible exact cr_bn hC | exact Nat.le_of_ble_eq_true rfl) (rd_into ya) kk) ?_
        refine Sx.up (fun _ kk => r_iload_n 102 dX5_readNever_101 rfl rfl kk) ?_
        refine Sx.up (fun _ kk => r_aload_n 103 dX5_readNever_102 rfl rfl kk) ?_
        refine Sx.up (fun _ kk => r_iconst (0) 104 dX5_readNever_103 rfl (by decide) kk) ?_
        refine Sx.up (fun _ kk => r_sipush (9999) 107 dX5_readNever_104 rfl (by decide) kk) ?_
        obtain ⟨_, ⟨E8, v8, rfl, y8, hv8⟩, hcl8⟩ := rd_take (d := d) (lo := 0) (hi := 9999) ya rfl rfl (by decide) (by decide)
        refine Sx.up (fun _ kk => r_callV (M := mX5_readNever) (pc := 107) 110 dX5_readNever_107 rfl k5_109 hcl8 rfl rfl (by first | with_reducible assumption | with_reducible exact cr_bs hC | rfl) (by decide) rfl (by first | with_reducible assumption | with_reducible exact cr_bn hC | exact Nat.le_of_ble_eq_true rfl) (Nat.le_of_ble_eq_true rfl) kk) ?_
        refine Sx.up (fun _ kk => r_callV (M := mX5_readNever) (pc := 110) 113 dX5_readNever_110 rfl k5_180 (c_X0_addNever (d := d + 5) (rd_bed y8)) rfl rfl (by first | with_reducible assumption | with_reducible exact cr_bs hC | rfl) (by decide) rfl (by first | with_reducible assumption | with_reducible exact cr_bn hC | exact Nat.le_of_ble_eq_true rfl) (Nat.le_of_ble_eq_true rfl) kk) ?_
        refine ⟨_, ?_, r_vret dX5_readNever_113 rfl rfl rfl⟩
        refine ⟨_, rfl, ?_⟩
        have hfin := rd_nev (x := vaS T sa) (y := vaS T (agS T (vaS T sa) sb)) (v := v4) (w := v8) y8 ?_
        · have he : neS T s = nvS (vaS T sa) (vaS T (agS T (vaS T sa) sb)) (tkS T 0 9999 (agS T (vaS T sa) sb)) := by
            subst hsb
            subst hsa
            rfl
          rw [he]
          exact hfin
        · intro a B z
          have ew := hv8 a B z
          obtain ⟨a0, z0, -, k0, -, n0⟩ := tk_live z
          obtain ⟨z1, -⟩ := ag_live z0
          have hx9 := hone a0 B z1
          rw [← hsb] at z1
          obtain ⟨z2, z3⟩ := un_live z1
          have hy9 : vaS T (agS T (vaS T sa) sb) < bC B := by rw [z0]; exact un_lt z3 k0 n0
          obtain ⟨a1, z4, -⟩ := tk_live z2
          rw [← hsa] at z4
          obtain ⟨a2, z5⟩ := adv_live (un_live z4).1
          exact ⟨hone4 a0 B z2, ew, hx9, hy9, (nf_live z5).1⟩
      · refine Sx.up (fun _ kk => r_aload_n 75 dX5_readNever_74 rfl rfl kk) ?_
        refine Sx.up (fun _ kk => r_getR 78 dX5_readNever_75 rfl f5_35 rfl (by first | with_reducible assumption | with_reducible exact cr_bs hC | rfl) (by first | with_reducible assumption | with_reducible exact cr_bn hC | exact Nat.le_of_ble_eq_true rfl) (rd_into yb) kk) ?_
        refine Sx.up (fun _ kk => r_iload_n 79 dX5_readNever_78 rfl rfl kk) ?_
        refine Sx.up (fun _ kk => r_aload_n 80 dX5_readNever_79 rfl rfl kk) ?_
        refine Sx.up (fun _ kk => r_getR 83 dX5_readNever_80 rfl f5_19 rfl (by first | with_reducible assumption | with_reducible exact cr_bs hC | rfl) (by first | with_reducible assumption | with_reducible exact cr_bn hC | exact Nat.le_of_ble_eq_true rfl) (rd_tok yb) kk) ?_
        have e71 : ¬ vaS T sb = vaS T sa := fun z => h71 (by rw [hv9, ev, z])
        refine Sx.up (fun _ kk => r_callV (M := mX5_readNever) (pc := 83) 86 dX5_readNever_83 rfl k5_138 hnu rfl rfl (by first | with_reducible assumption | with_reducible exact cr_bs hC | rfl) (by decide) rfl (by first | with_reducible assumption | with_reducible exact cr_bn hC | exact Nat.le_of_ble_eq_true rfl) (Nat.le_of_ble_eq_true rfl) kk) ?_
        have hnv := c_X0_isNever (d := d + 5) (x := v4) (y := v9) (rd_bed yb)
        rw [show nevV E5 b v4 v9 = nevV E5 b (nI (vaS T sa)) (nI (vaS T sb)) by rw [ev, hv9]] at hnv
        refine Sx.up (fun _ kk => r_callV (M := mX5_readNever) (pc := 86) 89 dX5_readNever_86 rfl k5_177 hnv rfl rfl (by first | with_reducible assumption | with_reducible exact cr_bs hC | rfl) (by decide) rfl (by first | with_reducible assumption | with_reducible exact cr_bn hC | exact Nat.le_of_ble_eq_true rfl) (Nat.le_of_ble_eq_true rfl) kk) ?_
        refine Sx.br (fun _ ka kb => r_if_eq 92 97 dX5_readNever_89 rfl (by decide) ka kb) (by first | exact em1 | exact em2) (fun h89 => ?_) (fun h89 => ?_)
        · have ya : CRd E0 E5 T b (agS T (vaS T sa) sb) := by
            rw [ag_if]
            first
            | (rw [if_pos (ag_1 (bnz h60) ((e9 _ hva).mp (by rw [← hv9, ← ev]; exact h71)))]; exact yb)
            | (rw [if_pos ((ag_2 yb (bnz h60) e71 hone).mpr h89)]; exact yb)
            | (rw [if_neg (fun z => (ag_2 yb (bnz h60) e71 hone).mp z h89)]; exact yb)
            | (rw [if_neg (ag_td (bz h60))]; exact yb)
          refine Sx.up (fun _ kk => r_aload_n 98 dX5_readNever_97 rfl rfl kk) ?_
          refine Sx.up (fun _ kk => r_getR 101 dX5_readNever_98 rfl f5_35 rfl (by first | with_reducible assumption | with_reducible exact cr_bs hC | rfl) (by first | with_reducible assumption | with_reducible exact cr_bn hC | exact Nat.le_of_ble_eq_true rfl) (rd_into ya) kk) ?_
          refine Sx.up (fun _ kk => r_iload_n 102 dX5_readNever_101 rfl rfl kk) ?_
          refine Sx.up (fun _ kk => r_aload_n 103 dX5_readNever_102 rfl rfl kk) ?_
          refine Sx.up (fun _ kk => r_iconst (0) 104 dX5_readNever_103 rfl (by decide) kk) ?_
          refine Sx.up (fun _ kk => r_sipush (9999) 107 dX5_readNever_104 rfl (by decide) kk) ?_
          obtain ⟨_, ⟨E9, v9, rfl, y9, hv9⟩, hcl9⟩ := rd_take (d := d) (lo := 0) (hi := 9999) ya rfl rfl (by decide) (by decide)
          refine Sx.up (fun _ kk => r_callV (M := mX5_readNever) (pc := 107) 110 dX5_readNever_107 rfl k5_109 hcl9 rfl rfl (by first | with_reducible assumption | with_reducible exact cr_bs hC | rfl) (by decide) rfl (by first | with_reducible assumption | with_reducible exact cr_bn hC | exact Nat.le_of_ble_eq_true rfl) (Nat.le_of_ble_eq_true rfl) kk) ?_
          refine Sx.up (fun _ kk => r_callV (M := mX5_readNever) (pc := 110) 113 dX5_readNever_110 rfl k5_180 (c_X0_addNever (d := d + 5) (rd_bed y9)) rfl rfl (by first | with_reducible assumption | with_reducible exact cr_bs hC | rfl) (by decide) rfl (by first | with_reducible assumption | with_reducible exact cr_bn hC | exact Nat.le_of_ble_eq_true rfl) (Nat.le_of_ble_eq_true rfl) kk) ?_
          refine ⟨_, ?_, r_vret dX5_readNever_113 rfl rfl rfl⟩
          refine ⟨_, rfl, ?_⟩
          have hfin := rd_nev (x := vaS T sa) (y := vaS T (agS T (vaS T sa) sb)) (v := v4) (w := v9) y9 ?_
          · have he : neS T s = nvS (vaS T sa) (vaS T (agS T (vaS T sa) sb)) (tkS T 0 9999 (agS T (vaS T sa) sb)) := by
              subst hsb
              subst hsa
              rfl
            rw [he]
            exact hfin
          · intro a B z
            have ew := hv9 a B z
            obtain ⟨a0, z0, -, k0, -, n0⟩ := tk_live z
            obtain ⟨z1, -⟩ := ag_live z0
            have hx9 := hone a0 B z1
            rw [← hsb] at z1
            obtain ⟨z2, z3⟩ := un_live z1
            have hy9 : vaS T (agS T (vaS T sa) sb) < bC B := by rw [z0]; exact un_lt z3 k0 n0
            obtain ⟨a1, z4, -⟩ := tk_live z2
            rw [← hsa] at z4
            obtain ⟨a2, z5⟩ := adv_live (un_live z4).1
            exact ⟨hone4 a0 B z2, ew, hx9, hy9, (nf_live z5).1⟩
        · refine Sx.up (fun _ kk => r_aload_n 93 dX5_readNever_92 rfl rfl kk) ?_
          refine Sx.up (fun _ kk => r_iconst (4) 94 dX5_readNever_93 rfl (by decide) kk) ?_
          obtain ⟨_, ⟨E10, rfl, y10⟩, hcl10⟩ := rd_refuse (d := d + 5) yb (k := 4) (k9 := 4) rfl (by decide) (by decide)
          refine Sx.up (fun _ kk => r_callV (M := mX5_readNever) (pc := 94) 97 dX5_readNever_94 rfl k5_128 hcl10 rfl rfl (by first | with_reducible assumption | with_reducible exact cr_bs hC | rfl) (by decide) rfl (by first | with_reducible assumption | with_reducible exact cr_bn hC | exact Nat.le_of_ble_eq_true rfl) (Nat.le_of_ble_eq_true rfl) kk) ?_
          have ya : CRd E0 E10 T b (agS T (vaS T sa) sb) := by
            rw [ag_if]
            first
            | (rw [if_pos (ag_1 (bnz h60) ((e9 _ hva).mp (by rw [← hv9, ← ev]; exact h71)))]; exact y10)
            | (rw [if_pos ((ag_2 yb (bnz h60) e71 hone).mpr h89)]; exact y10)
            | (rw [if_neg (fun z => (ag_2 yb (bnz h60) e71 hone).mp z h89)]; exact y10)
            | (rw [if_neg (ag_td (bz h60))]; exact y10)
          refine Sx.up (fun _ kk => r_aload_n 98 dX5_readNever_97 rfl rfl kk) ?_
          refine Sx.up (fun _ kk => r_getR 101 dX5_readNever_98 rfl f5_35 rfl (by first | with_reducible assumption | with_reducible exact cr_bs hC | rfl) (by first | with_reducible assumption | with_reducible exact cr_bn hC | exact Nat.le_of_ble_eq_true rfl) (rd_into ya) kk) ?_
          refine Sx.up (fun _ kk => r_iload_n 102 dX5_readNever_101 rfl rfl kk) ?_
          refine Sx.up (fun _ kk => r_aload_n 103 dX5_readNever_102 rfl rfl kk) ?_
          refine Sx.up (fun _ kk => r_iconst (0) 104 dX5_readNever_103 rfl (by decide) kk) ?_
          refine Sx.up (fun _ kk => r_sipush (9999) 107 dX5_readNever_104 rfl (by decide) kk) ?_
          obtain ⟨_, ⟨E11, v11, rfl, y11, hv11⟩, hcl11⟩ := rd_take (d := d) (lo := 0) (hi := 9999) ya rfl rfl (by decide) (by decide)
          refine Sx.up (fun _ kk => r_callV (M := mX5_readNever) (pc := 107) 110 dX5_readNever_107 rfl k5_109 hcl11 rfl rfl (by first | with_reducible assumption | with_reducible exact cr_bs hC | rfl) (by decide) rfl (by first | with_reducible assumption | with_reducible exact cr_bn hC | exact Nat.le_of_ble_eq_true rfl) (Nat.le_of_ble_eq_true rfl) kk) ?_
          refine Sx.up (fun _ kk => r_callV (M := mX5_readNever) (pc := 110) 113 dX5_readNever_110 rfl k5_180 (c_X0_addNever (d := d + 5) (rd_bed y11)) rfl rfl (by first | with_reducible assumption | with_reducible exact cr_bs hC | rfl) (by decide) rfl (by first | with_reducible assumption | with_reducible exact cr_bn hC | exact Nat.le_of_ble_eq_true rfl) (Nat.le_of_ble_eq_true rfl) kk) ?_
          refine ⟨_, ?_, r_vret dX5_readNever_113 rfl rfl rfl⟩
          refine ⟨_, rfl, ?_⟩
          have hfin := rd_nev (x := vaS T sa) (y := vaS T (agS T (vaS T sa) sb)) (v := v4) (w := v11) y11 ?_
          · have he : neS T s = nvS (vaS T sa) (vaS T (agS T (vaS T sa) sb)) (tkS T 0 9999 (agS T (vaS T sa) sb)) := by
              subst hsb
              subst hsa
              rfl
            rw [he]
            exact hfin
          · intro a B z
            have ew := hv11 a B z
            obtain ⟨a0, z0, -, k0, -, n0⟩ := tk_live z
            obtain ⟨z1, -⟩ := ag_live z0
            have hx9 := hone a0 B z1
            rw [← hsb] at z1
            obtain ⟨z2, z3⟩ := un_live z1
            have hy9 : vaS T (agS T (vaS T sa) sb) < bC B := by rw [z0]; exact un_lt z3 k0 n0
            obtain ⟨a1, z4, -⟩ := tk_live z2
            rw [← hsa] at z4
            obtain ⟨a2, z5⟩ := adv_live (un_live z4).1
            exact ⟨hone4 a0 B z2, ew, hx9, hy9, (nf_live z5).1⟩
  · refine Sx.up (fun _ kk => r_aload_n 13 dX5_readNever_12 rfl rfl kk) ?_
    refine Sx.up (fun _ kk => r_iconst (2) 14 dX5_readNever_13 rfl (by decide) kk) ?_
    obtain ⟨_, ⟨E12, rfl, y12⟩, hcl12⟩ := rd_refuse (d := d + 5) y1 (k := 2) (k9 := 2) rfl (by decide) (by decide)
    refine Sx.up (fun _ kk => r_callV (M := mX5_readNever) (pc := 14) 17 dX5_readNever_14 rfl k5_128 hcl12 rfl rfl (by first | with_reducible assumption | with_reducible exact cr_bs hC | rfl) (by decide) rfl (by first | with_reducible assumption | with_reducible exact cr_bn hC | exact Nat.le_of_ble_eq_true rfl) (Nat.le_of_ble_eq_true rfl) kk) ?_
    have yf : CRd E0 E12 T b (neF s) := by
      first
      | (rw [nf_y y1 h9]; exact y12)
      | (rw [nf_n y1 h9]; exact y12)
    refine Sx.up (fun _ kk => r_aload_n 18 dX5_readNever_17 rfl rfl kk) ?_
    refine Sx.up (fun _ kk => r_getR 21 dX5_readNever_18 rfl f5_19 rfl (by first | with_reducible assumption | with_reducible exact cr_bs hC | rfl) (by first | with_reducible assumption | with_reducible exact cr_bn hC | exact Nat.le_of_ble_eq_true rfl) (rd_tok yf) kk) ?_
    obtain ⟨_, ⟨E13, rfl, y13⟩, hcl13⟩ := rd_adv (d := d + 1) yf
    refine Sx.up (fun _ kk => r_callV (M := mX5_readNever) (pc := 21) 24 dX5_readNever_21 rfl k5_131 hcl13 rfl rfl (by first | with_reducible assumption | with_reducible exact cr_bs hC | rfl) (by decide) rfl (by first | with_reducible assumption | with_reducible exact cr_bn hC | exact Nat.le_of_ble_eq_true rfl) (Nat.le_of_ble_eq_true rfl) kk) ?_
    refine Sx.up (fun _ kk => r_aload_n 25 dX5_readNever_24 rfl rfl kk) ?_
    obtain ⟨_, ⟨E14, rfl, y14⟩, hcl14⟩ := rd_un (d := d) y13
    refine Sx.up (fun _ kk => r_callV (M := mX5_readNever) (pc := 25) 28 dX5_readNever_25 rfl k5_174 hcl14 rfl rfl (by first | with_reducible assumption | with_reducible exact cr_bs hC | rfl) (by decide) rfl (by first | with_reducible assumption | with_reducible exact cr_bn hC | exact Nat.le_of_ble_eq_true rfl) (Nat.le_of_ble_eq_true rfl) kk) ?_
    refine Sx.up (fun _ kk => r_aload_n 29 dX5_readNever_28 rfl rfl kk) ?_
    refine Sx.up (fun _ kk => r_iconst (0) 30 dX5_readNever_29 rfl (by decide) kk) ?_
    refine Sx.up (fun _ kk => r_sipush (9999) 33 dX5_readNever_30 rfl (by decide) kk) ?_
    obtain ⟨sa, hsa⟩ : ∃ sa, unS T (advS T (neF s)) = sa := ⟨_, rfl⟩
    have yk := y14
    rw [hsa] at yk
    obtain ⟨_, ⟨E15, v15, rfl, y15, hone15⟩, hcl15⟩ := rd_take (d := d) (lo := 0) (hi := 9999) yk rfl rfl (by decide) (by decide)
    refine Sx.up (fun _ kk => r_callV (M := mX5_readNever) (pc := 33) 36 dX5_readNever_33 rfl k5_109 hcl15 rfl rfl (by first | with_reducible assumption | with_reducible exact cr_bs hC | rfl) (by decide) rfl (by first | with_reducible assumption | with_reducible exact cr_bn hC | exact Nat.le_of_ble_eq_true rfl) (Nat.le_of_ble_eq_true rfl) kk) ?_
    refine Sx.up (fun _ kk => r_istore_n 37 dX5_readNever_36 rfl (by decide) rfl kk) ?_
    refine Sx.up (fun _ kk => r_aload_n 38 dX5_readNever_37 rfl rfl kk) ?_
    obtain ⟨_, ⟨E16, rfl, y16⟩, hcl16⟩ := rd_un (d := d) y15
    refine Sx.up (fun _ kk => r_callV (M := mX5_readNever) (pc := 38) 41 dX5_readNever_38 rfl k5_174 hcl16 rfl rfl (by first | with_reducible assumption | with_reducible exact cr_bs hC | rfl) (by decide) rfl (by first | with_reducible assumption | with_reducible exact cr_bn hC | exact Nat.le_of_ble_eq_true rfl) (Nat.le_of_ble_eq_true rfl) kk) ?_
    obtain ⟨sb, hsb⟩ : ∃ sb, unS T (tkS T 0 9999 sa) = sb := ⟨_, rfl⟩
    have yb := y16
    rw [hsb] at yb
    have hone : ∀ a B, sb = .inr (a, B) → vaS T sa < bC B := by
      intro a B z
      rw [← hsb] at z
      have := one_live (T := T) (s := advS T (neF s)) (by rw [hsa]; exact (un_live z).1)
      rw [hsa] at this
      exact this
    refine Sx.up (fun _ kk => r_aload_n 42 dX5_readNever_41 rfl rfl kk) ?_
    refine Sx.up (fun _ kk => r_getR 45 dX5_readNever_42 rfl f5_19 rfl (by first | with_reducible assumption | with_reducible exact cr_bs hC | rfl) (by first | with_reducible assumption | with_reducible exact cr_bn hC | exact Nat.le_of_ble_eq_true rfl) (rd_tok yb) kk) ?_
    refine Sx.up (fun _ kk => r_iconst (0) 46 dX5_readNever_45 rfl (by decide) kk) ?_
    refine Sx.up (fun _ kk => r_aload_n 47 dX5_readNever_46 rfl rfl kk) ?_
    refine Sx.up (fun _ kk => r_getR 50 dX5_readNever_47 rfl f5_35 rfl (by first | with_reducible assumption | with_reducible exact cr_bs hC | rfl) (by first | with_reducible assumption | with_reducible exact cr_bn hC | exact Nat.le_of_ble_eq_true rfl) (rd_into yb) kk) ?_
    refine Sx.up (fun _ kk => r_getI 53 dX5_readNever_50 rfl f5_145 rfl (by first | with_reducible assumption | with_reducible exact cr_bs hC | rfl) (by first | with_reducible assumption | with_reducible exact cr_bn hC | exact Nat.le_of_ble_eq_true rfl) kk) ?_
    refine Sx.up (fun _ kk => r_iconst (1) 54 dX5_readNever_53 rfl (by decide) kk) ?_
    refine Sx.up (fun _ kk => r_isub 55 dX5_readNever_54 rfl kk) ?_
    refine Sx.up (fun _ kk => r_callV (M := mX5_readNever) (pc := 55) 58 dX5_readNever_55 rfl k5_134 (rd_tdw (d := d + 4) yb rfl rfl) rfl rfl (by first | with_reducible assumption | with_reducible exact cr_bs hC | rfl) (by decide) rfl (by first | with_reducible assumption | with_reducible exact cr_bn hC | exact Nat.le_of_ble_eq_true rfl) (Nat.le_of_ble_eq_true rfl) kk) ?_
    refine Sx.up (fun _ kk => r_istore_n 59 dX5_readNever_58 rfl (by decide) rfl kk) ?_
    refine Sx.up (fun _ kk => r_iload_n 60 dX5_readNever_59 rfl rfl kk) ?_
    refine Sx.br (fun _ ka kb => r_if_eq 63 97 dX5_readNever_60 rfl (by decide) ka kb) (by first | exact em1 | exact em2) (fun h60 => ?_) (fun h60 => ?_)
    · have ya : CRd E0 E16 T b (agS T (vaS T sa) sb) := by
        rw [ag_if]
        first
        | (rw [if_pos (ag_1 (bnz h60) ((e9 _ hva).mp (by rw [← hv9, ← ev]; exact h71)))]; exact yb)
        | (rw [if_pos ((ag_2 yb (bnz h60) e71 hone).mpr h89)]; exact yb)
        | (rw [if_neg (fun z => (ag_2 yb (bnz h60) e71 hone).mp z h89)]; exact yb)
        | (rw [if_neg (ag_td (bz h60))]; exact yb)
      refine Sx.up (fun _ kk => r_aload_n 98 dX5_readNever_97 rfl rfl kk) ?_
      refine Sx.up (fun _ kk => r_getR 101 dX5_readNever_98 rfl f5_35 rfl (by first | with_reducible assumption | with_reducible exact cr_bs hC | rfl) (by first | with_reducible assumption | with_reducible exact cr_bn hC | exact Nat.le_of_ble_eq_true rfl) (rd_into ya) kk) ?_
      refine Sx.up (fun _ kk => r_iload_n 102 dX5_readNever_101 rfl rfl kk) ?_
      refine Sx.up (fun _ kk => r_aload_n 103 dX5_readNever_102 rfl rfl kk) ?_
      refine Sx.up (fun _ kk => r_iconst (0) 104 dX5_readNever_103 rfl (by decide) kk) ?_
      refine Sx.up (fun _ kk => r_sipush (9999) 107 dX5_readNever_104 rfl (by decide) kk) ?_
      obtain ⟨_, ⟨E17, v17, rfl, y17, hv17⟩, hcl17⟩ := rd_take (d := d) (lo := 0) (hi := 9999) ya rfl rfl (by decide) (by decide)
      refine Sx.up (fun _ kk => r_callV (M := mX5_readNever) (pc := 107) 110 dX5_readNever_107 rfl k5_109 hcl17 rfl rfl (by first | with_reducible assumption | with_reducible exact cr_bs hC | rfl) (by decide) rfl (by first | with_reducible assumption | with_reducible exact cr_bn hC | exact Nat.le_of_ble_eq_true rfl) (Nat.le_of_ble_eq_true rfl) kk) ?_
      refine Sx.up (fun _ kk => r_callV (M := mX5_readNever) (pc := 110) 113 dX5_readNever_110 rfl k5_180 (c_X0_addNever (d := d + 5) (rd_bed y17)) rfl rfl (by first | with_reducible assumption | with_reducible exact cr_bs hC | rfl) (by decide) rfl (by first | with_reducible assumption | with_reducible exact cr_bn hC | exact Nat.le_of_ble_eq_true rfl) (Nat.le_of_ble_eq_true rfl) kk) ?_
      refine ⟨_, ?_, r_vret dX5_readNever_113 rfl rfl rfl⟩
      refine ⟨_, rfl, ?_⟩
      have hfin := rd_nev (x := vaS T sa) (y := vaS T (agS T (vaS T sa) sb)) (v := v15) (w := v17) y17 ?_
      · have he : neS T s = nvS (vaS T sa) (vaS T (agS T (vaS T sa) sb)) (tkS T 0 9999 (agS T (vaS T sa) sb)) := by
          subst hsb
          subst hsa
          rfl
        rw [he]
        exact hfin
      · intro a B z
        have ew := hv17 a B z
        obtain ⟨a0, z0, -, k0, -, n0⟩ := tk_live z
        obtain ⟨z1, -⟩ := ag_live z0
        have hx9 := hone a0 B z1
        rw [← hsb] at z1
        obtain ⟨z2, z3⟩ := un_live z1
        have hy9 : vaS T (agS T (vaS T sa) sb) < bC B := by rw [z0]; exact un_lt z3 k0 n0
        obtain ⟨a1, z4, -⟩ := tk_live z2
        rw [← hsa] at z4
        obtain ⟨a2, z5⟩ := adv_live (un_live z4).1
        exact ⟨hone15 a0 B z2, ew, hx9, hy9, (nf_live z5).1⟩
    · have ev : v15 = nI (vaS T sa) := by
        have hl : ∃ a B, sb = .inr (a, B) := by
          have z := td_ki (bnz h60)
          cases hz : sb with
          | inl q => rw [hz] at z; exact absurd z (by show ¬ false = true; decide)
          | inr q => exact ⟨q.1, q.2, rfl⟩
        obtain ⟨a, B, z⟩ := hl
        rw [← hsb] at z
        exact hone15 a B (un_live z).1
      have e9 : ∀ x : Nat, x ≤ 10000 → (nI x = nI (vaS T sa) ↔ x = vaS T sa) := fun x hx => by
        obtain ⟨a, B, z⟩ : ∃ a B, sb = .inr (a, B) := by
          have z := td_ki (bnz h60)
          cases hz : sb with
          | inl q => rw [hz] at z; exact absurd z (by show ¬ false = true; decide)
          | inr q => exact ⟨q.1, q.2, rfl⟩
        have h7 := hone a B z
        have hc7 : bC B ≤ 7 := by rw [z] at yb; exact yb.2.2.2.2.2.2.1
        exact nI_eq (by omega) (by omega)
      have hva : vaS T sb ≤ 10000 := by
        have z := td_ki (bnz h60)
        cases hz : sb with
        | inl q => exact Nat.zero_le _
        | inr q => rw [hz] at z; exact num_lt (of_decide_eq_true z)
      refine Sx.up (fun _ kk => r_aload_n 64 dX5_readNever_63 rfl rfl kk) ?_
      refine Sx.up (fun _ kk => r_getR 67 dX5_readNever_64 rfl f5_19 rfl (by first | with_reducible assumption | with_reducible exact cr_bs hC | rfl) (by first | with_reducible assumption | with_reducible exact cr_bn hC | exact Nat.le_of_ble_eq_true rfl) (rd_tok yb) kk) ?_
      obtain ⟨v9, hv9, hnu⟩ := rd_num (d := d + 5) yb
      have hv9 := hv9 (td_ki (bnz h60))
      refine Sx.up (fun _ kk => r_callV (M := mX5_readNever) (pc := 67) 70 dX5_readNever_67 rfl k5_138 hnu rfl rfl (by first | with_reducible assumption | with_reducible exact cr_bs hC | rfl) (by decide) rfl (by first | with_reducible assumption | with_reducible exact cr_bn hC | exact Nat.le_of_ble_eq_true rfl) (Nat.le_of_ble_eq_true rfl) kk) ?_
      refine Sx.up (fun _ kk => r_iload_n 71 dX5_readNever_70 rfl rfl kk) ?_
      refine Sx.br (fun _ ka kb => r_icmp_eq 74 92 dX5_readNever_71 rfl (by decide) ka kb) (by first | exact em1 | exact em2) (fun h71 => ?_) (fun h71 => ?_)
      · refine Sx.up (fun _ kk => r_aload_n 93 dX5_readNever_92 rfl rfl kk) ?_
        refine Sx.up (fun _ kk => r_iconst (4) 94 dX5_readNever_93 rfl (by decide) kk) ?_
        obtain ⟨_, ⟨E18, rfl, y18⟩, hcl18⟩ := rd_refuse (d := d + 5) yb (k := 4) (k9 := 4) rfl (by decide) (by decide)
        refine Sx.up (fun _ kk => r_callV (M := mX5_readNever) (pc := 94) 97 dX5_readNever_94 rfl k5_128 hcl18 rfl rfl (by first | with_reducible assumption | with_reducible exact cr_bs hC | rfl) (by decide) rfl (by first | with_reducible assumption | with_reducible exact cr_bn hC | exact Nat.le_of_ble_eq_true rfl) (Nat.le_of_ble_eq_true rfl) kk) ?_
        have ya : CRd E0 E18 T b (agS T (vaS T sa) sb) := by
          rw [ag_if]
          first
          | (rw [if_pos (ag_1 (bnz h60) ((e9 _ hva).mp (by rw [← hv9, ← ev]; exact h71)))]; exact y18)
          | (rw [if_pos ((ag_2 yb (bnz h60) e71 hone).mpr h89)]; exact y18)
          | (rw [if_neg (fun z => (ag_2 yb (bnz h60) e71 hone).mp z h89)]; exact y18)
          | (rw [if_neg (ag_td (bz h60))]; exact y18)
        refine Sx.up (fun _ kk => r_aload_n 98 dX5_readNever_97 rfl rfl kk) ?_
        refine Sx.up (fun _ kk => r_getR 101 dX5_readNever_98 rfl f5_35 rfl (by first | with_reducible assumption | with_reducible exact cr_bs hC | rfl) (by first | with_reducible assumption | with_reducible exact cr_bn hC | exact Nat.le_of_ble_eq_true rfl) (rd_into ya) kk) ?_
        refine Sx.up (fun _ kk => r_iload_n 102 dX5_readNever_101 rfl rfl kk) ?_
        refine Sx.up (fun _ kk => r_aload_n 103 dX5_readNever_102 rfl rfl kk) ?_
        refine Sx.up (fun _ kk => r_iconst (0) 104 dX5_readNever_103 rfl (by decide) kk) ?_
        refine Sx.up (fun _ kk => r_sipush (9999) 107 dX5_readNever_104 rfl (by decide) kk) ?_
        obtain ⟨_, ⟨E19, v19, rfl, y19, hv19⟩, hcl19⟩ := rd_take (d := d) (lo := 0) (hi := 9999) ya rfl rfl (by decide) (by decide)
        refine Sx.up (fun _ kk => r_callV (M := mX5_readNever) (pc := 107) 110 dX5_readNever_107 rfl k5_109 hcl19 rfl rfl (by first | with_reducible assumption | with_reducible exact cr_bs hC | rfl) (by decide) rfl (by first | with_reducible assumption | with_reducible exact cr_bn hC | exact Nat.le_of_ble_eq_true rfl) (Nat.le_of_ble_eq_true rfl) kk) ?_
        refine Sx.up (fun _ kk => r_callV (M := mX5_readNever) (pc := 110) 113 dX5_readNever_110 rfl k5_180 (c_X0_addNever (d := d + 5) (rd_bed y19)) rfl rfl (by first | with_reducible assumption | with_reducible exact cr_bs hC | rfl) (by decide) rfl (by first | with_reducible assumption | with_reducible exact cr_bn hC | exact Nat.le_of_ble_eq_true rfl) (Nat.le_of_ble_eq_true rfl) kk) ?_
        refine ⟨_, ?_, r_vret dX5_readNever_113 rfl rfl rfl⟩
        refine ⟨_, rfl, ?_⟩
        have hfin := rd_nev (x := vaS T sa) (y := vaS T (agS T (vaS T sa) sb)) (v := v15) (w := v19) y19 ?_
        · have he : neS T s = nvS (vaS T sa) (vaS T (agS T (vaS T sa) sb)) (tkS T 0 9999 (agS T (vaS T sa) sb)) := by
            subst hsb
            subst hsa
            rfl
          rw [he]
          exact hfin
        · intro a B z
          have ew := hv19 a B z
          obtain ⟨a0, z0, -, k0, -, n0⟩ := tk_live z
          obtain ⟨z1, -⟩ := ag_live z0
          have hx9 := hone a0 B z1
          rw [← hsb] at z1
          obtain ⟨z2, z3⟩ := un_live z1
          have hy9 : vaS T (agS T (vaS T sa) sb) < bC B := by rw [z0]; exact un_lt z3 k0 n0
          obtain ⟨a1, z4, -⟩ := tk_live z2
          rw [← hsa] at z4
          obtain ⟨a2, z5⟩ := adv_live (un_live z4).1
          exact ⟨hone15 a0 B z2, ew, hx9, hy9, (nf_live z5).1⟩
      · refine Sx.up (fun _ kk => r_aload_n 75 dX5_readNever_74 rfl rfl kk) ?_
        refine Sx.up (fun _ kk => r_getR 78 dX5_readNever_75 rfl f5_35 rfl (by first | with_reducible assumption | with_reducible exact cr_bs hC | rfl) (by first | with_reducible assumption | with_reducible exact cr_bn hC | exact Nat.le_of_ble_eq_true rfl) (rd_into yb) kk) ?_
        refine Sx.up (fun _ kk => r_iload_n 79 dX5_readNever_78 rfl rfl kk) ?_
        refine Sx.up (fun _ kk => r_aload_n 80 dX5_readNever_79 rfl rfl kk) ?_
        refine Sx.up (fun _ kk => r_getR 83 dX5_readNever_80 rfl f5_19 rfl (by first | with_reducible assumption | with_reducible exact cr_bs hC | rfl) (by first | with_reducible assumption | with_reducible exact cr_bn hC | exact Nat.le_of_ble_eq_true rfl) (rd_tok yb) kk) ?_
        have e71 : ¬ vaS T sb = vaS T sa := fun z => h71 (by rw [hv9, ev, z])
        refine Sx.up (fun _ kk => r_callV (M := mX5_readNever) (pc := 83) 86 dX5_readNever_83 rfl k5_138 hnu rfl rfl (by first | with_reducible assumption | with_reducible exact cr_bs hC | rfl) (by decide) rfl (by first | with_reducible assumption | with_reducible exact cr_bn hC | exact Nat.le_of_ble_eq_true rfl) (Nat.le_of_ble_eq_true rfl) kk) ?_
        have hnv := c_X0_isNever (d := d + 5) (x := v15) (y := v9) (rd_bed yb)
        rw [show nevV E16 b v15 v9 = nevV E16 b (nI (vaS T sa)) (nI (vaS T sb)) by rw [ev, hv9]] at hnv
        refine Sx.up (fun _ kk => r_callV (M := mX5_readNever) (pc := 86) 89 dX5_readNever_86 rfl k5_177 hnv rfl rfl (by first | with_reducible assumption | with_reducible exact cr_bs hC | rfl) (by decide) rfl (by first | with_reducible assumption | with_reducible exact cr_bn hC | exact Nat.le_of_ble_eq_true rfl) (Nat.le_of_ble_eq_true rfl) kk) ?_
        refine Sx.br (fun _ ka kb => r_if_eq 92 97 dX5_readNever_89 rfl (by decide) ka kb) (by first | exact em1 | exact em2) (fun h89 => ?_) (fun h89 => ?_)
        · have ya : CRd E0 E16 T b (agS T (vaS T sa) sb) := by
            rw [ag_if]
            first
            | (rw [if_pos (ag_1 (bnz h60) ((e9 _ hva).mp (by rw [← hv9, ← ev]; exact h71)))]; exact yb)
            | (rw [if_pos ((ag_2 yb (bnz h60) e71 hone).mpr h89)]; exact yb)
            | (rw [if_neg (fun z => (ag_2 yb (bnz h60) e71 hone).mp z h89)]; exact yb)
            | (rw [if_neg (ag_td (bz h60))]; exact yb)
          refine Sx.up (fun _ kk => r_aload_n 98 dX5_readNever_97 rfl rfl kk) ?_
          refine Sx.up (fun _ kk => r_getR 101 dX5_readNever_98 rfl f5_35 rfl (by first | with_reducible assumption | with_reducible exact cr_bs hC | rfl) (by first | with_reducible assumption | with_reducible exact cr_bn hC | exact Nat.le_of_ble_eq_true rfl) (rd_into ya) kk) ?_
          refine Sx.up (fun _ kk => r_iload_n 102 dX5_readNever_101 rfl rfl kk) ?_
          refine Sx.up (fun _ kk => r_aload_n 103 dX5_readNever_102 rfl rfl kk) ?_
          refine Sx.up (fun _ kk => r_iconst (0) 104 dX5_readNever_103 rfl (by decide) kk) ?_
          refine Sx.up (fun _ kk => r_sipush (9999) 107 dX5_readNever_104 rfl (by decide) kk) ?_
          obtain ⟨_, ⟨E20, v20, rfl, y20, hv20⟩, hcl20⟩ := rd_take (d := d) (lo := 0) (hi := 9999) ya rfl rfl (by decide) (by decide)
          refine Sx.up (fun _ kk => r_callV (M := mX5_readNever) (pc := 107) 110 dX5_readNever_107 rfl k5_109 hcl20 rfl rfl (by first | with_reducible assumption | with_reducible exact cr_bs hC | rfl) (by decide) rfl (by first | with_reducible assumption | with_reducible exact cr_bn hC | exact Nat.le_of_ble_eq_true rfl) (Nat.le_of_ble_eq_true rfl) kk) ?_
          refine Sx.up (fun _ kk => r_callV (M := mX5_readNever) (pc := 110) 113 dX5_readNever_110 rfl k5_180 (c_X0_addNever (d := d + 5) (rd_bed y20)) rfl rfl (by first | with_reducible assumption | with_reducible exact cr_bs hC | rfl) (by decide) rfl (by first | with_reducible assumption | with_reducible exact cr_bn hC | exact Nat.le_of_ble_eq_true rfl) (Nat.le_of_ble_eq_true rfl) kk) ?_
          refine ⟨_, ?_, r_vret dX5_readNever_113 rfl rfl rfl⟩
          refine ⟨_, rfl, ?_⟩
          have hfin := rd_nev (x := vaS T sa) (y := vaS T (agS T (vaS T sa) sb)) (v := v15) (w := v20) y20 ?_
          · have he : neS T s = nvS (vaS T sa) (vaS T (agS T (vaS T sa) sb)) (tkS T 0 9999 (agS T (vaS T sa) sb)) := by
              subst hsb
              subst hsa
              rfl
            rw [he]
            exact hfin
          · intro a B z
            have ew := hv20 a B z
            obtain ⟨a0, z0, -, k0, -, n0⟩ := tk_live z
            obtain ⟨z1, -⟩ := ag_live z0
            have hx9 := hone a0 B z1
            rw [← hsb] at z1
            obtain ⟨z2, z3⟩ := un_live z1
            have hy9 : vaS T (agS T (vaS T sa) sb) < bC B := by rw [z0]; exact un_lt z3 k0 n0
            obtain ⟨a1, z4, -⟩ := tk_live z2
            rw [← hsa] at z4
            obtain ⟨a2, z5⟩ := adv_live (un_live z4).1
            exact ⟨hone15 a0 B z2, ew, hx9, hy9, (nf_live z5).1⟩
        · refine Sx.up (fun _ kk => r_aload_n 93 dX5_readNever_92 rfl rfl kk) ?_
          refine Sx.up (fun _ kk => r_iconst (4) 94 dX5_readNever_93 rfl (by decide) kk) ?_
          obtain ⟨_, ⟨E21, rfl, y21⟩, hcl21⟩ := rd_refuse (d := d + 5) yb (k := 4) (k9 := 4) rfl (by decide) (by decide)
          refine Sx.up (fun _ kk => r_callV (M := mX5_readNever) (pc := 94) 97 dX5_readNever_94 rfl k5_128 hcl21 rfl rfl (by first | with_reducible assumption | with_reducible exact cr_bs hC | rfl) (by decide) rfl (by first | with_reducible assumption | with_reducible exact cr_bn hC | exact Nat.le_of_ble_eq_true rfl) (Nat.le_of_ble_eq_true rfl) kk) ?_
          have ya : CRd E0 E21 T b (agS T (vaS T sa) sb) := by
            rw [ag_if]
            first
            | (rw [if_pos (ag_1 (bnz h60) ((e9 _ hva).mp (by rw [← hv9, ← ev]; exact h71)))]; exact y21)
            | (rw [if_pos ((ag_2 yb (bnz h60) e71 hone).mpr h89)]; exact y21)
            | (rw [if_neg (fun z => (ag_2 yb (bnz h60) e71 hone).mp z h89)]; exact y21)
            | (rw [if_neg (ag_td (bz h60))]; exact y21)
          refine Sx.up (fun _ kk => r_aload_n 98 dX5_readNever_97 rfl rfl kk) ?_
          refine Sx.up (fun _ kk => r_getR 101 dX5_readNever_98 rfl f5_35 rfl (by first | with_reducible assumption | with_reducible exact cr_bs hC | rfl) (by first | with_reducible assumption | with_reducible exact cr_bn hC | exact Nat.le_of_ble_eq_true rfl) (rd_into ya) kk) ?_
          refine Sx.up (fun _ kk => r_iload_n 102 dX5_readNever_101 rfl rfl kk) ?_
          refine Sx.up (fun _ kk => r_aload_n 103 dX5_readNever_102 rfl rfl kk) ?_
          refine Sx.up (fun _ kk => r_iconst (0) 104 dX5_readNever_103 rfl (by decide) kk) ?_
          refine Sx.up (fun _ kk => r_sipush (9999) 107 dX5_readNever_104 rfl (by decide) kk) ?_
          obtain ⟨_, ⟨E22, v22, rfl, y22, hv22⟩, hcl22⟩ := rd_take (d := d) (lo := 0) (hi := 9999) ya rfl rfl (by decide) (by decide)
          refine Sx.up (fun _ kk => r_callV (M := mX5_readNever) (pc := 107) 110 dX5_readNever_107 rfl k5_109 hcl22 rfl rfl (by first | with_reducible assumption | with_reducible exact cr_bs hC | rfl) (by decide) rfl (by first | with_reducible assumption | with_reducible exact cr_bn hC | exact Nat.le_of_ble_eq_true rfl) (Nat.le_of_ble_eq_true rfl) kk) ?_
          refine Sx.up (fun _ kk => r_callV (M := mX5_readNever) (pc := 110) 113 dX5_readNever_110 rfl k5_180 (c_X0_addNever (d := d + 5) (rd_bed y22)) rfl rfl (by first | with_reducible assumption | with_reducible exact cr_bs hC | rfl) (by decide) rfl (by first | with_reducible assumption | with_reducible exact cr_bn hC | exact Nat.le_of_ble_eq_true rfl) (Nat.le_of_ble_eq_true rfl) kk) ?_
          refine ⟨_, ?_, r_vret dX5_readNever_113 rfl rfl rfl⟩
          refine ⟨_, rfl, ?_⟩
          have hfin := rd_nev (x := vaS T sa) (y := vaS T (agS T (vaS T sa) sb)) (v := v15) (w := v22) y22 ?_
          · have he : neS T s = nvS (vaS T sa) (vaS T (agS T (vaS T sa) sb)) (tkS T 0 9999 (agS T (vaS T sa) sb)) := by
              subst hsb
              subst hsa
              rfl
            rw [he]
            exact hfin
          · intro a B z
            have ew := hv22 a B z
            obtain ⟨a0, z0, -, k0, -, n0⟩ := tk_live z
            obtain ⟨z1, -⟩ := ag_live z0
            have hx9 := hone a0 B z1
            rw [← hsb] at z1
            obtain ⟨z2, z3⟩ := un_live z1
            have hy9 : vaS T (agS T (vaS T sa) sb) < bC B := by rw [z0]; exact un_lt z3 k0 n0
            obtain ⟨a1, z4, -⟩ := tk_live z2
            rw [← hsa] at z4
            obtain ⟨a2, z5⟩ := adv_live (un_live z4).1
            exact ⟨hone15 a0 B z2, ew, hx9, hy9, (nf_live z5).1⟩
def kwV (T : TX) (s : PS) : Int32 := if wdS T w_sleeper s = true then 0 else if wdS T w_child s = true then 1 else if wdS T w_snorer s = true then 2 else if wdS T w_dog s = true then 3 else -1
set_option maxRecDepth 20000 in
set_option maxHeartbeats 16000000 in
theorem rd_kw {d : Nat} {E0 E : HP} {T : TX} {b : Nat} {s : PS} (y1 : CRd E0 E T b s) : Cl yX5_kindOfWord mX5_kindOfWord (d + 5) 0 0 [.ref 41] E 137 (.inl (some (.int (kwV T s))), E, 137) := by
  have hb := rd_b y1
  have hbs : sh b = (0, 0) := bo_1 (rd_bed y1)
  have hbn : b < 137 := by omega
  have hb5 : sh (b + 5) = (7, 0) := (rd_bed y1).2.2.2.2.2.2.2.2.2.1.1
  have hb5n : b + 5 < 137 := by omega
  refine Cl.of (by decide) rfl (fun q => by cases q) rfl rfl (Nat.le_of_ble_eq_true rfl) ?_
  show Sm _ _ _ _ _ 0 [some (.ref 41)] [] _ _
  refine r_aload_n 1 dX5_kindOfWord_0 rfl rfl ?_
  refine r_getR 4 dX5_kindOfWord_1 rfl f5_19 rfl (by first | with_reducible assumption | with_reducible exact cr_bs hC | rfl) (by first | with_reducible assumption | with_reducible exact cr_bn hC | exact Nat.le_of_ble_eq_true rfl) (rd_tok y1) ?_
  refine r_ldcS (i := 1) 6 dX5_kindOfWord_4 rfl rfl ?_
  refine r_callV (M := mX5_kindOfWord) (pc := 6) 9 dX5_kindOfWord_6 rfl k5_72 (rd_word (i := 1) (q := ("SpoonRow$Reader", 99, "sleeper", w_sleeper)) y1 rfl) rfl rfl (by first | with_reducible assumption | with_reducible exact cr_bs hC | rfl) (by decide) rfl (by first | with_reducible assumption | with_reducible exact cr_bn hC | exact Nat.le_of_ble_eq_true rfl) (Nat.le_of_ble_eq_true rfl) ?_
  refine r_if_eq 12 14 dX5_kindOfWord_9 rfl (by decide) (fun h9 => ?_) (fun h9 => ?_)
  · refine r_aload_n 15 dX5_kindOfWord_14 rfl rfl ?_
    refine r_getR 18 dX5_kindOfWord_15 rfl f5_19 rfl (by first | with_reducible assumption | with_reducible exact cr_bs hC | rfl) (by first | with_reducible assumption | with_reducible exact cr_bn hC | exact Nat.le_of_ble_eq_true rfl) (rd_tok y1) ?_
    refine r_ldcS (i := 2) 20 dX5_kindOfWord_18 rfl rfl ?_
    refine r_callV (M := mX5_kindOfWord) (pc := 20) 23 dX5_kindOfWord_20 rfl k5_72 (rd_word (i := 2) (q := ("SpoonRow$Reader", 101, "child", w_child)) y1 rfl) rfl rfl (by first | with_reducible assumption | with_reducible exact cr_bs hC | rfl) (by decide) rfl (by first | with_reducible assumption | with_reducible exact cr_bn hC | exact Nat.le_of_ble_eq_true rfl) (Nat.le_of_ble_eq_true rfl) ?_
    refine r_if_eq 26 28 dX5_kindOfWord_23 rfl (by decide) (fun h23 => ?_) (fun h23 => ?_)
    · refine r_aload_n 29 dX5_kindOfWord_28 rfl rfl ?_
      refine r_getR 32 dX5_kindOfWord_29 rfl f5_19 rfl (by first | with_reducible assumption | with_reducible exact cr_bs hC | rfl) (by first | with_reducible assumption | with_reducible exact cr_bn hC | exact Nat.le_of_ble_eq_true rfl) (rd_tok y1) ?_
      refine r_ldcS (i := 3) 34 dX5_kindOfWord_32 rfl rfl ?_
      refine r_callV (M := mX5_kindOfWord) (pc := 34) 37 dX5_kindOfWord_34 rfl k5_72 (rd_word (i := 3) (q := ("SpoonRow$Reader", 103, "snorer", w_snorer)) y1 rfl) rfl rfl (by first | with_reducible assumption | with_reducible exact cr_bs hC | rfl) (by decide) rfl (by first | with_reducible assumption | with_reducible exact cr_bn hC | exact Nat.le_of_ble_eq_true rfl) (Nat.le_of_ble_eq_true rfl) ?_
      refine r_if_eq 40 42 dX5_kindOfWord_37 rfl (by decide) (fun h37 => ?_) (fun h37 => ?_)
      · refine r_aload_n 43 dX5_kindOfWord_42 rfl rfl ?_
        refine r_getR 46 dX5_kindOfWord_43 rfl f5_19 rfl (by first | with_reducible assumption | with_reducible exact cr_bs hC | rfl) (by first | with_reducible assumption | with_reducible exact cr_bn hC | exact Nat.le_of_ble_eq_true rfl) (rd_tok y1) ?_
        refine r_ldcS (i := 4) 48 dX5_kindOfWord_46 rfl rfl ?_
        refine r_callV (M := mX5_kindOfWord) (pc := 48) 51 dX5_kindOfWord_48 rfl k5_72 (rd_word (i := 4) (q := ("SpoonRow$Reader", 105, "dog", w_dog)) y1 rfl) rfl rfl (by first | with_reducible assumption | with_reducible exact cr_bs hC | rfl) (by decide) rfl (by first | with_reducible assumption | with_reducible exact cr_bn hC | exact Nat.le_of_ble_eq_true rfl) (Nat.le_of_ble_eq_true rfl) ?_
        refine r_if_eq 54 58 dX5_kindOfWord_51 rfl (by decide) (fun h51 => ?_) (fun h51 => ?_)
        · refine r_iconst (-1) 59 dX5_kindOfWord_58 rfl (by decide) ?_
          exact r_iret dX5_kindOfWord_59 rfl rfl (out_eq (by unfold kwV; first | rw [if_neg (bz h9), if_neg (bz h23), if_neg (bz h37), if_pos (bnz h51)] | rw [if_neg (bz h9), if_neg (bz h23), if_neg (bz h37), if_neg (bz h51)]))
        · refine r_iconst (3) 55 dX5_kindOfWord_54 rfl (by decide) ?_
          refine r_goto 59 dX5_kindOfWord_55 (by decide) ?_
          exact r_iret dX5_kindOfWord_59 rfl rfl (out_eq (by unfold kwV; first | rw [if_neg (bz h9), if_neg (bz h23), if_neg (bz h37), if_pos (bnz h51)] | rw [if_neg (bz h9), if_neg (bz h23), if_neg (bz h37), if_neg (bz h51)]))
      · refine r_iconst (2) 41 dX5_kindOfWord_40 rfl (by decide) ?_
        exact r_iret dX5_kindOfWord_41 rfl rfl (out_eq (by unfold kwV; rw [if_neg (bz h9), if_neg (bz h23), if_pos (bnz h37)]))
    · refine r_iconst (1) 27 dX5_kindOfWord_26 rfl (by decide) ?_
      exact r_iret dX5_kindOfWord_27 rfl rfl (out_eq (by unfold kwV; rw [if_neg (bz h9), if_pos (bnz h23)]))
  · refine r_iconst (0) 13 dX5_kindOfWord_12 rfl (by decide) ?_
    exact r_iret dX5_kindOfWord_13 rfl rfl (out_eq (by unfold kwV; rw [if_pos (bnz h9)]))
theorem rd_expr6 {d : Nat} {E0 E : HP} {T : TX} {b : Nat} {s : PS} (y1 : CRd E0 E T b s) (hs : slk 1 s) : ∃ o, (∃ E2, o = (.inl none, E2, 137) ∧ CRd E0 E2 T b (exprS T 6 s)) ∧ Cl yX5_readExpr mX5_readExpr (d + 50) 0 0 [.ref 41, .int 0] E 137 o := by
  have h := rd_expr (d := d) 6 (by decide) y1 hs (w := 0) rfl
  rw [show d + 7 * 6 + 8 = d + 50 by omega] at h
  exact h
theorem kw_3 {T : TX} {s : PS} : kwV T s = 3 → ∃ X, lineS T s = X ∧ X = dgS T s := fun h => by
  refine ⟨_, rfl, ?_⟩
  unfold kwV at h
  unfold lineS
  by_cases h1 : wdS T w_sleeper s = true
  · rw [if_pos h1] at h; exact absurd h (by decide)
  rw [if_neg h1] at h ⊢
  by_cases h2 : wdS T w_child s = true
  · rw [if_pos h2] at h; exact absurd h (by decide)
  rw [if_neg h2] at h ⊢
  by_cases h3 : wdS T w_snorer s = true
  · rw [if_pos h3] at h; exact absurd h (by decide)
  rw [if_neg h3] at h ⊢
  by_cases h4 : wdS T w_dog s = true
  · rw [if_pos h4]
  rw [if_neg h4] at h; exact absurd h (by decide)
theorem kw_p {T : TX} {s : PS} : ¬ kwV T s = 3 → ¬ kwV T s = -1 → lineS T s = peS T (kwV T s) s := fun h h9 => by
  unfold kwV at h h9 ⊢
  unfold lineS
  by_cases h1 : wdS T w_sleeper s = true
  · rw [if_pos h1, if_pos h1]
  rw [if_neg h1] at h h9 ⊢
  rw [if_neg h1]
  by_cases h2 : wdS T w_child s = true
  · rw [if_pos h2, if_pos h2]
  rw [if_neg h2] at h h9 ⊢
  rw [if_neg h2]
  by_cases h3 : wdS T w_snorer s = true
  · rw [if_pos h3, if_pos h3]
  rw [if_neg h3] at h h9 ⊢
  rw [if_neg h3]
  by_cases h4 : wdS T w_dog s = true
  · rw [if_pos h4] at h; exact absurd rfl h
  rw [if_neg h4] at h9; exact absurd rfl h9
theorem kw_n {T : TX} {s : PS} : kwV T s = -1 → lineS T s = (if wdS T w_bolster s = true then boS T s else if wdS T w_never s = true then neS T s else if wdS T w_wakes s = true then exprS T 6 (onS T 8 s) else if wdS T w_bed s = true then bdS T s else if wdS T w_night s = true then niS T s else if wdS T w_awake s = true then awS T s else fltS 1 s) := fun h => by
  unfold kwV at h
  unfold lineS
  by_cases h1 : wdS T w_sleeper s = true
  · rw [if_pos h1] at h; exact absurd h (by decide)
  rw [if_neg h1] at h ⊢
  by_cases h2 : wdS T w_child s = true
  · rw [if_pos h2] at h; exact absurd h (by decide)
  rw [if_neg h2] at h ⊢
  by_cases h3 : wdS T w_snorer s = true
  · rw [if_pos h3] at h; exact absurd h (by decide)
  rw [if_neg h3] at h ⊢
  by_cases h4 : wdS T w_dog s = true
  · rw [if_pos h4] at h; exact absurd h (by decide)
  rw [if_neg h4]
theorem slk_on8 {T : TX} {s : PS} (h : wdS T w_wakes s = true) (h0 : slk 0 s) : slk 1 (onS T 8 s) := by
  cases s with
  | inl z => trivial
  | inr z =>
    have hn := (nxT_le (T := T) (a := z.1)).2.2 (by rw [isW_kd (T := T) (a := z.1) (w := w_wakes) h]; decide)
    have h0 : (bR z.2).length + 0 ≤ z.1 := h0
    show slk 1 (if bX z.2 5 &&& 8 = 0 then .inr (nxT T z.1, setX z.2 5 (bX z.2 5 ||| 8)) else .inl (5, z.1))
    split
    · show (bR z.2).length + 1 ≤ nxT T z.1; omega
    · trivial
set_option maxRecDepth 20000 in
set_option maxHeartbeats 16000000 in
theorem rd_line {d : Nat} {E0 E : HP} {T : TX} {b : Nat} {s : PS}  (y1 : CRd E0 E T b s) (h0 : slk 0 s) : ∃ o, (∃ E2, o = (.inl none, E2, 137) ∧ CRd E0 E2 T b (liS T s)) ∧ Cl yX5_readLine mX5_readLine (d + 52) 0 0 [.ref 41] E 137 o := by
  have hb := rd_b y1
  have hbs : sh b = (0, 0) := bo_1 (rd_bed y1)
  have hbn : b < 137 := by omega
  have hb5 : sh (b + 5) = (7, 0) := (rd_bed y1).2.2.2.2.2.2.2.2.2.1.1
  have hb5n : b + 5 < 137 := by omega
  obtain ⟨kw, hkw⟩ : ∃ kw, kwV T s = kw := ⟨_, rfl⟩
  have hkc := rd_kw (d := d + 46) y1
  rw [hkw] at hkc
  have k98 : ∀ E, CRd E0 E T b (lineS T s) → Sx mX5_readLine (d + 52) 0 0 (fun o => ∃ E2, o = (.inl none, E2, 137) ∧ CRd E0 E2 T b (liS T s)) 98 [some (.ref 41), some (.int kw)] [] E 137 := by
    intro E y1
    refine Sx.up (fun _ kk => r_aload_n 99 dX5_readLine_98 rfl rfl kk) ?_
    refine Sx.up (fun _ kk => r_bipush (59) 101 dX5_readLine_99 rfl (by decide) kk) ?_
    obtain ⟨_, ⟨E2, rfl, y2⟩, hcl2⟩ := rd_takeSign (d := d + 45) (c := 59) y1
    refine Sx.up (fun _ kk => r_callV (M := mX5_readLine) (pc := 101) 104 dX5_readLine_101 rfl k5_95 hcl2 rfl rfl (by first | with_reducible assumption | with_reducible exact cr_bs hC | rfl) (by decide) rfl (by first | with_reducible assumption | with_reducible exact cr_bn hC | exact Nat.le_of_ble_eq_true rfl) (Nat.le_of_ble_eq_true rfl) kk) ?_
    refine ⟨_, ?_, r_vret dX5_readLine_104 rfl rfl rfl⟩
    exact ⟨_, rfl, y2⟩
  refine Cx.of (by decide) rfl (fun q => by cases q) rfl rfl (Nat.le_of_ble_eq_true rfl) ?_
  show Sx _ _ _ _ _ 0 [some (.ref 41), none] [] _ _
  refine Sx.up (fun _ kk => r_aload_n 1 dX5_readLine_0 rfl rfl kk) ?_
  refine Sx.up (fun _ kk => r_callV (M := mX5_readLine) (pc := 1) 4 dX5_readLine_1 rfl k5_60 hkc rfl rfl (by first | with_reducible assumption | with_reducible exact cr_bs hC | rfl) (by decide) rfl (by first | with_reducible assumption | with_reducible exact cr_bn hC | exact Nat.le_of_ble_eq_true rfl) (Nat.le_of_ble_eq_true rfl) kk) ?_
  refine Sx.up (fun _ kk => r_istore_n 5 dX5_readLine_4 rfl (by decide) rfl kk) ?_
  refine Sx.up (fun _ kk => r_iload_n 6 dX5_readLine_5 rfl rfl kk) ?_
  refine Sx.up (fun _ kk => r_iconst (3) 7 dX5_readLine_6 rfl (by decide) kk) ?_
  refine Sx.br (fun _ ka kb => r_icmp_ne 10 17 dX5_readLine_7 rfl (by decide) ka kb) (by first | exact em1 | exact em2) (fun h7 => ?_) (fun h7 => ?_)
  · refine Sx.up (fun _ kk => r_iload_n 18 dX5_readLine_17 rfl rfl kk) ?_
    refine Sx.up (fun _ kk => r_iconst (-1) 19 dX5_readLine_18 rfl (by decide) kk) ?_
    refine Sx.br (fun _ ka kb => r_icmp_eq 22 30 dX5_readLine_19 rfl (by decide) ka kb) (by first | exact em1 | exact em2) (fun h19 => ?_) (fun h19 => ?_)
    · refine Sx.up (fun _ kk => r_aload_n 31 dX5_readLine_30 rfl rfl kk) ?_
      refine Sx.up (fun _ kk => r_getR 34 dX5_readLine_31 rfl f5_19 rfl (by first | with_reducible assumption | with_reducible exact cr_bs hC | rfl) (by first | with_reducible assumption | with_reducible exact cr_bn hC | exact Nat.le_of_ble_eq_true rfl) (rd_tok y1) kk) ?_
      refine Sx.up (fun _ kk => r_ldcS (i := 5) 36 dX5_readLine_34 rfl rfl kk) ?_
      refine Sx.up (fun _ kk => r_callV (M := mX5_readLine) (pc := 36) 39 dX5_readLine_36 rfl k5_72 (rd_word (i := 5) (q := ("SpoonRow$Reader", 70, "bolster", w_bolster)) y1 rfl) rfl rfl (by first | with_reducible assumption | with_reducible exact cr_bs hC | rfl) (by decide) rfl (by first | with_reducible assumption | with_reducible exact cr_bn hC | exact Nat.le_of_ble_eq_true rfl) (Nat.le_of_ble_eq_true rfl) kk) ?_
      refine Sx.br (fun _ ka kb => r_if_eq 42 49 dX5_readLine_39 rfl (by decide) ka kb) (by first | exact em1 | exact em2) (fun h39 => ?_) (fun h39 => ?_)
      · refine Sx.up (fun _ kk => r_aload_n 50 dX5_readLine_49 rfl rfl kk) ?_
        refine Sx.up (fun _ kk => r_getR 53 dX5_readLine_50 rfl f5_19 rfl (by first | with_reducible assumption | with_reducible exact cr_bs hC | rfl) (by first | with_reducible assumption | with_reducible exact cr_bn hC | exact Nat.le_of_ble_eq_true rfl) (rd_tok y1) kk) ?_
        refine Sx.up (fun _ kk => r_ldcS (i := 6) 55 dX5_readLine_53 rfl rfl kk) ?_
        refine Sx.up (fun _ kk => r_callV (M := mX5_readLine) (pc := 55) 58 dX5_readLine_55 rfl k5_72 (rd_word (i := 6) (q := ("SpoonRow$Reader", 79, "never", w_never)) y1 rfl) rfl rfl (by first | with_reducible assumption | with_reducible exact cr_bs hC | rfl) (by decide) rfl (by first | with_reducible assumption | with_reducible exact cr_bn hC | exact Nat.le_of_ble_eq_true rfl) (Nat.le_of_ble_eq_true rfl) kk) ?_
        refine Sx.br (fun _ ka kb => r_if_eq 61 68 dX5_readLine_58 rfl (by decide) ka kb) (by first | exact em1 | exact em2) (fun h58 => ?_) (fun h58 => ?_)
        · refine Sx.up (fun _ kk => r_aload_n 69 dX5_readLine_68 rfl rfl kk) ?_
          refine Sx.up (fun _ kk => r_getR 72 dX5_readLine_69 rfl f5_19 rfl (by first | with_reducible assumption | with_reducible exact cr_bs hC | rfl) (by first | with_reducible assumption | with_reducible exact cr_bn hC | exact Nat.le_of_ble_eq_true rfl) (rd_tok y1) kk) ?_
          refine Sx.up (fun _ kk => r_ldcS (i := 7) 74 dX5_readLine_72 rfl rfl kk) ?_
          refine Sx.up (fun _ kk => r_callV (M := mX5_readLine) (pc := 74) 77 dX5_readLine_74 rfl k5_72 (rd_word (i := 7) (q := ("SpoonRow$Reader", 84, "wakes", w_wakes)) y1 rfl) rfl rfl (by first | with_reducible assumption | with_reducible exact cr_bs hC | rfl) (by decide) rfl (by first | with_reducible assumption | with_reducible exact cr_bn hC | exact Nat.le_of_ble_eq_true rfl) (Nat.le_of_ble_eq_true rfl) kk) ?_
          refine Sx.br (fun _ ka kb => r_if_eq 80 94 dX5_readLine_77 rfl (by decide) ka kb) (by first | exact em1 | exact em2) (fun h77 => ?_) (fun h77 => ?_)
          · refine Sx.up (fun _ kk => r_aload_n 95 dX5_readLine_94 rfl rfl kk) ?_
            obtain ⟨_, ⟨E2, rfl, y2⟩, hcl2⟩ := rd_set (d := d + 44) y1
            refine Sx.up (fun _ kk => r_callV (M := mX5_readLine) (pc := 95) 98 dX5_readLine_95 rfl k5_92 hcl2 rfl rfl (by first | with_reducible assumption | with_reducible exact cr_bs hC | rfl) (by decide) rfl (by first | with_reducible assumption | with_reducible exact cr_bn hC | exact Nat.le_of_ble_eq_true rfl) (Nat.le_of_ble_eq_true rfl) kk) ?_
            refine k98 E2 ?_
            first
            | (obtain ⟨X, hX, hX2⟩ := kw_3 (hkw.trans h7); rw [hX, hX2]; exact y2)
            | (rw [kw_p (fun z => h7 (hkw.symm.trans z)) (fun z => h19 (hkw.symm.trans z)), hkw]; exact y2)
            | (rw [kw_n (hkw.trans h19), if_pos (bnz h39)]; exact y2)
            | (rw [kw_n (hkw.trans h19), if_neg (bz h39), if_pos (bnz h58)]; exact y2)
            | (rw [kw_n (hkw.trans h19), if_neg (bz h39), if_neg (bz h58), if_pos (bnz h77)]; exact y2)
            | (rw [kw_n (hkw.trans h19), if_neg (bz h39), if_neg (bz h58), if_neg (bz h77)]; exact y2)
          · refine Sx.up (fun _ kk => r_aload_n 81 dX5_readLine_80 rfl rfl kk) ?_
            refine Sx.up (fun _ kk => r_bipush (8) 83 dX5_readLine_81 rfl (by decide) kk) ?_
            obtain ⟨_, ⟨E3, rfl, y3⟩, hcl3⟩ := rd_onceS (d := d + 45) (l := 8) y1
            refine Sx.up (fun _ kk => r_callV (M := mX5_readLine) (pc := 83) 86 dX5_readLine_83 rfl k5_86 hcl3 rfl rfl (by first | with_reducible assumption | with_reducible exact cr_bs hC | rfl) (by decide) rfl (by first | with_reducible assumption | with_reducible exact cr_bn hC | exact Nat.le_of_ble_eq_true rfl) (Nat.le_of_ble_eq_true rfl) kk) ?_
            refine Sx.up (fun _ kk => r_aload_n 87 dX5_readLine_86 rfl rfl kk) ?_
            refine Sx.up (fun _ kk => r_iconst (0) 88 dX5_readLine_87 rfl (by decide) kk) ?_
            obtain ⟨_, ⟨E4, rfl, y4⟩, hcl4⟩ := rd_expr6 (d := d + 1) y3 (slk_on8 (bnz h77) h0)
            refine Sx.up (fun _ kk => r_callV (M := mX5_readLine) (pc := 88) 91 dX5_readLine_88 rfl k5_89 hcl4 rfl rfl (by first | with_reducible assumption | with_reducible exact cr_bs hC | rfl) (by decide) rfl (by first | with_reducible assumption | with_reducible exact cr_bn hC | exact Nat.le_of_ble_eq_true rfl) (Nat.le_of_ble_eq_true rfl) kk) ?_
            refine Sx.up (fun _ kk => r_goto 98 dX5_readLine_91 (by decide) kk) ?_
            refine k98 E4 ?_
            first
            | (obtain ⟨X, hX, hX2⟩ := kw_3 (hkw.trans h7); rw [hX, hX2]; exact y4)
            | (rw [kw_p (fun z => h7 (hkw.symm.trans z)) (fun z => h19 (hkw.symm.trans z)), hkw]; exact y4)
            | (rw [kw_n (hkw.trans h19), if_pos (bnz h39)]; exact y4)
            | (rw [kw_n (hkw.trans h19), if_neg (bz h39), if_pos (bnz h58)]; exact y4)
            | (rw [kw_n (hkw.trans h19), if_neg (bz h39), if_neg (bz h58), if_pos (bnz h77)]; exact y4)
            | (rw [kw_n (hkw.trans h19), if_neg (bz h39), if_neg (bz h58), if_neg (bz h77)]; exact y4)
        · refine Sx.up (fun _ kk => r_aload_n 62 dX5_readLine_61 rfl rfl kk) ?_
          obtain ⟨_, ⟨E5, rfl, y5⟩, hcl5⟩ := rd_never (d := d + 44) y1
          refine Sx.up (fun _ kk => r_callV (M := mX5_readLine) (pc := 62) 65 dX5_readLine_62 rfl k5_81 hcl5 rfl rfl (by first | with_reducible assumption | with_reducible exact cr_bs hC | rfl) (by decide) rfl (by first | with_reducible assumption | with_reducible exact cr_bn hC | exact Nat.le_of_ble_eq_true rfl) (Nat.le_of_ble_eq_true rfl) kk) ?_
          refine Sx.up (fun _ kk => r_goto 98 dX5_readLine_65 (by decide) kk) ?_
          refine k98 E5 ?_
          first
          | (obtain ⟨X, hX, hX2⟩ := kw_3 (hkw.trans h7); rw [hX, hX2]; exact y5)
          | (rw [kw_p (fun z => h7 (hkw.symm.trans z)) (fun z => h19 (hkw.symm.trans z)), hkw]; exact y5)
          | (rw [kw_n (hkw.trans h19), if_pos (bnz h39)]; exact y5)
          | (rw [kw_n (hkw.trans h19), if_neg (bz h39), if_pos (bnz h58)]; exact y5)
          | (rw [kw_n (hkw.trans h19), if_neg (bz h39), if_neg (bz h58), if_pos (bnz h77)]; exact y5)
          | (rw [kw_n (hkw.trans h19), if_neg (bz h39), if_neg (bz h58), if_neg (bz h77)]; exact y5)
      · refine Sx.up (fun _ kk => r_aload_n 43 dX5_readLine_42 rfl rfl kk) ?_
        obtain ⟨_, ⟨E6, rfl, y6⟩, hcl6⟩ := rd_bol (d := d + 44) y1
        refine Sx.up (fun _ kk => r_callV (M := mX5_readLine) (pc := 43) 46 dX5_readLine_43 rfl k5_76 hcl6 rfl rfl (by first | with_reducible assumption | with_reducible exact cr_bs hC | rfl) (by decide) rfl (by first | with_reducible assumption | with_reducible exact cr_bn hC | exact Nat.le_of_ble_eq_true rfl) (Nat.le_of_ble_eq_true rfl) kk) ?_
        refine Sx.up (fun _ kk => r_goto 98 dX5_readLine_46 (by decide) kk) ?_
        refine k98 E6 ?_
        first
        | (obtain ⟨X, hX, hX2⟩ := kw_3 (hkw.trans h7); rw [hX, hX2]; exact y6)
        | (rw [kw_p (fun z => h7 (hkw.symm.trans z)) (fun z => h19 (hkw.symm.trans z)), hkw]; exact y6)
        | (rw [kw_n (hkw.trans h19), if_pos (bnz h39)]; exact y6)
        | (rw [kw_n (hkw.trans h19), if_neg (bz h39), if_pos (bnz h58)]; exact y6)
        | (rw [kw_n (hkw.trans h19), if_neg (bz h39), if_neg (bz h58), if_pos (bnz h77)]; exact y6)
        | (rw [kw_n (hkw.trans h19), if_neg (bz h39), if_neg (bz h58), if_neg (bz h77)]; exact y6)
    · refine Sx.up (fun _ kk => r_aload_n 23 dX5_readLine_22 rfl rfl kk) ?_
      refine Sx.up (fun _ kk => r_iload_n 24 dX5_readLine_23 rfl rfl kk) ?_
      obtain ⟨_, ⟨E7, rfl, y7⟩, hcl7⟩ := rd_pers (d := d + 44) y1
      refine Sx.up (fun _ kk => r_callV (M := mX5_readLine) (pc := 24) 27 dX5_readLine_24 rfl k5_67 hcl7 rfl rfl (by first | with_reducible assumption | with_reducible exact cr_bs hC | rfl) (by decide) rfl (by first | with_reducible assumption | with_reducible exact cr_bn hC | exact Nat.le_of_ble_eq_true rfl) (Nat.le_of_ble_eq_true rfl) kk) ?_
      refine Sx.up (fun _ kk => r_goto 98 dX5_readLine_27 (by decide) kk) ?_
      refine k98 E7 ?_
      first
      | (obtain ⟨X, hX, hX2⟩ := kw_3 (hkw.trans h7); rw [hX, hX2]; exact y7)
      | (rw [kw_p (fun z => h7 (hkw.symm.trans z)) (fun z => h19 (hkw.symm.trans z)), hkw]; exact y7)
      | (rw [kw_n (hkw.trans h19), if_pos (bnz h39)]; exact y7)
      | (rw [kw_n (hkw.trans h19), if_neg (bz h39), if_pos (bnz h58)]; exact y7)
      | (rw [kw_n (hkw.trans h19), if_neg (bz h39), if_neg (bz h58), if_pos (bnz h77)]; exact y7)
      | (rw [kw_n (hkw.trans h19), if_neg (bz h39), if_neg (bz h58), if_neg (bz h77)]; exact y7)
  · refine Sx.up (fun _ kk => r_aload_n 11 dX5_readLine_10 rfl rfl kk) ?_
    obtain ⟨_, ⟨E8, rfl, y8⟩, hcl8⟩ := rd_dog (d := d + 44) y1
    refine Sx.up (fun _ kk => r_callV (M := mX5_readLine) (pc := 11) 14 dX5_readLine_11 rfl k5_64 hcl8 rfl rfl (by first | with_reducible assumption | with_reducible exact cr_bs hC | rfl) (by decide) rfl (by first | with_reducible assumption | with_reducible exact cr_bn hC | exact Nat.le_of_ble_eq_true rfl) (Nat.le_of_ble_eq_true rfl) kk) ?_
    refine Sx.up (fun _ kk => r_goto 98 dX5_readLine_14 (by decide) kk) ?_
    refine k98 E8 ?_
    first
    | (obtain ⟨X, hX, hX2⟩ := kw_3 (hkw.trans h7); rw [hX, hX2]; exact y8)
    | (rw [kw_p (fun z => h7 (hkw.symm.trans z)) (fun z => h19 (hkw.symm.trans z)), hkw]; exact y8)
    | (rw [kw_n (hkw.trans h19), if_pos (bnz h39)]; exact y8)
    | (rw [kw_n (hkw.trans h19), if_neg (bz h39), if_pos (bnz h58)]; exact y8)
    | (rw [kw_n (hkw.trans h19), if_neg (bz h39), if_neg (bz h58), if_pos (bnz h77)]; exact y8)
    | (rw [kw_n (hkw.trans h19), if_neg (bz h39), if_neg (bz h58), if_neg (bz h77)]; exact y8)
