/-! The tokens, as the program reads them -/
theorem nI_dif {x y : Nat} (h : y ≤ x) : nI x - nI y = nI (x - y) := by
  have e : nI x = nI (x - y) + nI y := by rw [nI_add, Nat.sub_add_cancel h]
  rw [e, Int32.add_sub_cancel]
def TXok (T : TX) : Prop := T.2 ≤ 600 ∧ ∀ i, i < T.2 → ∃ k, k < 256 ∧ T.1 i = nI k
/-- the text is in the tape, the tokens' reader looks at it -/
def TkF (E : HP) (T : TX) : Prop := gR E 1280 42 = some 1 ∧ RowOK E 137 1 600 ∧ gI E 1281 42 = nI T.2 ∧ ∀ i, i < T.2 → gA E 2 i = T.1 i
/-- the token that begins at a -/
def TkA (E : HP) (T : TX) (a : Nat) : Prop := gI E 1282 42 = nI a ∧ gI E 1283 42 = nI (toE T a) ∧ gI E 1284 42 = nI (kdT T a)
/-- the text seems to be at its end -/
def TkD (E : HP) (T : TX) : Prop := ∃ q, q ≤ T.2 ∧ gI E 1282 42 = nI q ∧ gI E 1283 42 = nI T.2 ∧ gI E 1284 42 = 0
def TkM (E E2 : HP) : Prop := Fr (fun k => k = 42) E E2 ∧ SR E E2 ∧ gI E2 1281 42 = gI E 1281 42
theorem tkm_rfl {E : HP} : TkM E E := ⟨fr_rfl, sr_rfl, rfl⟩
theorem tkm_tr {E E2 E3 : HP} (h : TkM E E2) (h2 : TkM E2 E3) : TkM E E3 := ⟨fr_tr h.1 h2.1, sr_tr h.2.1 h2.2.1, h2.2.2.trans h.2.2⟩
theorem tkm_sI {E E2 : HP} {g : Nat} {v : Int32} (hg : g ≠ 1281) (h : TkM E E2) : TkM E (sI E2 g 42 v) := ⟨fr_sI rfl h.1, sr_sI h.2.1, by rw [gI_sI, if_neg (fun z => hg z.1.symm)]; exact h.2.2⟩
theorem tkf_m {E E2 : HP} {T : TX} (h : TkM E E2) (o : TkF E T) : TkF E2 T := ⟨sr_gR h.2.1 o.1, sr_row h.2.1 o.2.1, h.2.2.trans o.2.2.1, fun i hi => by rw [fr_gA h.1 (by decide)]; exact o.2.2.2 i hi⟩
theorem cls_chk1 : ∀ k, k < 256 → (¬ nI k < 97 → ¬ 122 < nI k → clsT (nI k) = 1) ∧ ((nI k < 97 ∨ 122 < nI k) → ¬ nI k < 48 → ¬ 57 < nI k → clsT (nI k) = 2) := by decide +kernel
theorem cls_chk2a : ∀ k, k < 256 → (nI k < 97 ∨ 122 < nI k) → (nI k < 48 ∨ 57 < nI k) → (nI k = 32 ∨ nI k = 10) → clsT (nI k) = 4 := by decide +kernel
theorem cls_chk2b : ∀ k, k < 256 → ((nI k < 97 ∨ 122 < nI k) ∧ (nI k < 48 ∨ 57 < nI k) ∧ ¬ nI k = 32 ∧ ¬ nI k = 10 ∧ ixF (nI k).toInt8.toInt32 [59, 40, 41, 43, 45, 42, 47, 60, 61] 9 0 < 0) → clsT (nI k) = 5 := by decide +kernel
theorem cls_chk2c : ∀ k, k < 256 → ((nI k < 97 ∨ 122 < nI k) ∧ (nI k < 48 ∨ 57 < nI k) ∧ ¬ nI k = 32 ∧ ¬ nI k = 10 ∧ ¬ ixF (nI k).toInt8.toInt32 [59, 40, 41, 43, 45, 42, 47, 60, 61] 9 0 < 0) → clsT (nI k) = 3 := by decide +kernel
theorem cls_chk2 : ∀ k, k < 256 → (nI k < 97 ∨ 122 < nI k) → (nI k < 48 ∨ 57 < nI k) → ((nI k = 32 ∨ nI k = 10) → clsT (nI k) = 4) ∧ (¬ nI k = 32 → ¬ nI k = 10 → (((ixF (nI k).toInt8.toInt32 [59, 40, 41, 43, 45, 42, 47, 60, 61] 9 0 < 0) → clsT (nI k) = 5) ∧ ((¬ ixF (nI k).toInt8.toInt32 [59, 40, 41, 43, 45, 42, 47, 60, 61] 9 0 < 0) → clsT (nI k) = 3))) := fun k hk a b => ⟨cls_chk2a k hk a b, fun c d => ⟨fun e => cls_chk2b k hk ⟨a, b, c, d, e⟩, fun e => cls_chk2c k hk ⟨a, b, c, d, e⟩⟩⟩
theorem chr_chk : ∀ k, k < 256 → ((nI k).toUInt32 % 65536).toInt32 = nI k ∧ ¬ nI k < 0 ∧ ¬ 255 < nI k := by decide +kernel
theorem tk_at {E : HP} {T : TX} (hT : TXok T) (h : TkF E T) {i : Nat} (hi : i < T.2) : rAt E 1 600 (nI i) = T.1 i := by
  rw [rAt_nI (by have := hT.1; omega) (by omega)]
  exact h.2.2.2 i hi
set_option maxRecDepth 20000 in
theorem c_kindAt {d i : Nat} {T : TX} {E : HP} (hT : TXok T) (h : TkF E T) (hi : i < T.2) : Cl yX10_kindAt mX10_kindAt (d + 4) 0 0 [.ref 42, .int (nI i)] E 137 (.inl (some (.int (nI (clsT (T.1 i))))), E, 137) := by
  have hat := c_X6_at (d := d + 3) (i := nI i) h.2.1
  rw [tk_at hT h hi] at hat
  obtain ⟨k, hk, e⟩ := hT.2 i hi
  rw [e] at hat ⊢
  obtain ⟨a1, a2⟩ := cls_chk1 k hk
  have a3 := cls_chk2 k hk
  obtain ⟨b1, b2, b3⟩ := chr_chk k hk
  have hix := c_ix (d := d) (n := 137) (E := E) (i := 0) (c := nI k) (q := ("SpoonRow$Tokens", 37, ";()+-*/<=", [59, 40, 41, 43, 45, 42, 47, 60, 61])) rfl b2 b3 (by decide)
  refine Cl.of (by decide) rfl (fun q => by cases q) rfl rfl (Nat.le_of_ble_eq_true rfl) ?_
  show Sm _ _ _ _ _ 0 [some (.ref 42), some (.int (nI i)), none] [] _ _
  refine r_aload_n 1 dX10_kindAt_0 rfl rfl ?_
  refine r_getR 4 dX10_kindAt_1 rfl f10_22 rfl (by first | with_reducible assumption | with_reducible exact cr_bs hC | rfl) (by first | with_reducible assumption | with_reducible exact cr_bn hC | exact Nat.le_of_ble_eq_true rfl) (h.1) ?_
  refine r_iload_n 5 dX10_kindAt_4 rfl rfl ?_
  refine r_callV (M := mX10_kindAt) (pc := 5) 8 dX10_kindAt_5 rfl k10_33 hat rfl rfl (by first | with_reducible assumption | with_reducible exact cr_bs hC | rfl) (by decide) rfl (by first | with_reducible assumption | with_reducible exact cr_bn hC | exact Nat.le_of_ble_eq_true rfl) (Nat.le_of_ble_eq_true rfl) ?_
  refine r_istore_n 9 dX10_kindAt_8 rfl (by decide) rfl ?_
  refine r_iload_n 10 dX10_kindAt_9 rfl rfl ?_
  refine r_bipush (97) 12 dX10_kindAt_10 rfl (by decide) ?_
  refine r_icmp_lt 15 23 dX10_kindAt_12 rfl (by decide) (fun h12 => ?_) (fun h12 => ?_)
  · refine r_iload_n 24 dX10_kindAt_23 rfl rfl ?_
    refine r_bipush (48) 26 dX10_kindAt_24 rfl (by decide) ?_
    refine r_icmp_lt 29 37 dX10_kindAt_26 rfl (by decide) (fun h26 => ?_) (fun h26 => ?_)
    · refine r_iload_n 38 dX10_kindAt_37 rfl rfl ?_
      refine r_bipush (32) 40 dX10_kindAt_38 rfl (by decide) ?_
      refine r_icmp_eq 43 49 dX10_kindAt_40 rfl (by decide) (fun h40 => ?_) (fun h40 => ?_)
      · refine r_iconst (4) 50 dX10_kindAt_49 rfl (by decide) ?_
        exact r_iret dX10_kindAt_50 rfl rfl (out_eq (by rw [(a3 (by first | exact Or.inl h12 | exact Or.inr h18) (by first | exact Or.inl h26 | exact Or.inr h32)).1 (by first | exact Or.inl h40 | exact Or.inr h46)]; rfl))
      · refine r_iload_n 44 dX10_kindAt_43 rfl rfl ?_
        refine r_bipush (10) 46 dX10_kindAt_44 rfl (by decide) ?_
        refine r_icmp_ne 49 51 dX10_kindAt_46 rfl (by decide) (fun h46 => ?_) (fun h46 => ?_)
        · refine r_ldcS (i := 0) 53 dX10_kindAt_51 rfl rfl ?_
          refine r_iload_n 54 dX10_kindAt_53 rfl rfl ?_
          refine r_i2c 55 dX10_kindAt_54 rfl ?_
          rw [b1]
          refine r_callVS (M := mX10_kindAt) (pc := 55) 58 dX10_kindAt_55 rfl k10_39 hix rfl rfl (i := 0) rfl rfl (Nat.le_of_ble_eq_true rfl) ?_
          refine r_if_lt 61 65 dX10_kindAt_58 rfl (by decide) (fun h58 => ?_) (fun h58 => ?_)
          · refine r_iconst (5) 66 dX10_kindAt_65 rfl (by decide) ?_
            exact r_iret dX10_kindAt_66 rfl rfl (out_eq (by first | (rw [((a3 (by first | exact Or.inl h12 | exact Or.inr h18) (by first | exact Or.inl h26 | exact Or.inr h32)).2 h40 h46).1 h58]; rfl) | (rw [((a3 (by first | exact Or.inl h12 | exact Or.inr h18) (by first | exact Or.inl h26 | exact Or.inr h32)).2 h40 h46).2 h58]; rfl)))
          · refine r_iconst (3) 62 dX10_kindAt_61 rfl (by decide) ?_
            refine r_goto 66 dX10_kindAt_62 (by decide) ?_
            exact r_iret dX10_kindAt_66 rfl rfl (out_eq (by first | (rw [((a3 (by first | exact Or.inl h12 | exact Or.inr h18) (by first | exact Or.inl h26 | exact Or.inr h32)).2 h40 h46).1 h58]; rfl) | (rw [((a3 (by first | exact Or.inl h12 | exact Or.inr h18) (by first | exact Or.inl h26 | exact Or.inr h32)).2 h40 h46).2 h58]; rfl)))
        · refine r_iconst (4) 50 dX10_kindAt_49 rfl (by decide) ?_
          exact r_iret dX10_kindAt_50 rfl rfl (out_eq (by rw [(a3 (by first | exact Or.inl h12 | exact Or.inr h18) (by first | exact Or.inl h26 | exact Or.inr h32)).1 (by first | exact Or.inl h40 | exact Or.inr h46)]; rfl))
    · refine r_iload_n 30 dX10_kindAt_29 rfl rfl ?_
      refine r_bipush (57) 32 dX10_kindAt_30 rfl (by decide) ?_
      refine r_icmp_gt 35 37 dX10_kindAt_32 rfl (by decide) (fun h32 => ?_) (fun h32 => ?_)
      · refine r_iload_n 38 dX10_kindAt_37 rfl rfl ?_
        refine r_bipush (32) 40 dX10_kindAt_38 rfl (by decide) ?_
        refine r_icmp_eq 43 49 dX10_kindAt_40 rfl (by decide) (fun h40 => ?_) (fun h40 => ?_)
        · refine r_iconst (4) 50 dX10_kindAt_49 rfl (by decide) ?_
          exact r_iret dX10_kindAt_50 rfl rfl (out_eq (by rw [(a3 (by first | exact Or.inl h12 | exact Or.inr h18) (by first | exact Or.inl h26 | exact Or.inr h32)).1 (by first | exact Or.inl h40 | exact Or.inr h46)]; rfl))
        · refine r_iload_n 44 dX10_kindAt_43 rfl rfl ?_
          refine r_bipush (10) 46 dX10_kindAt_44 rfl (by decide) ?_
          refine r_icmp_ne 49 51 dX10_kindAt_46 rfl (by decide) (fun h46 => ?_) (fun h46 => ?_)
          · refine r_ldcS (i := 0) 53 dX10_kindAt_51 rfl rfl ?_
            refine r_iload_n 54 dX10_kindAt_53 rfl rfl ?_
            refine r_i2c 55 dX10_kindAt_54 rfl ?_
            rw [b1]
            refine r_callVS (M := mX10_kindAt) (pc := 55) 58 dX10_kindAt_55 rfl k10_39 hix rfl rfl (i := 0) rfl rfl (Nat.le_of_ble_eq_true rfl) ?_
            refine r_if_lt 61 65 dX10_kindAt_58 rfl (by decide) (fun h58 => ?_) (fun h58 => ?_)
            · refine r_iconst (5) 66 dX10_kindAt_65 rfl (by decide) ?_
              exact r_iret dX10_kindAt_66 rfl rfl (out_eq (by first | (rw [((a3 (by first | exact Or.inl h12 | exact Or.inr h18) (by first | exact Or.inl h26 | exact Or.inr h32)).2 h40 h46).1 h58]; rfl) | (rw [((a3 (by first | exact Or.inl h12 | exact Or.inr h18) (by first | exact Or.inl h26 | exact Or.inr h32)).2 h40 h46).2 h58]; rfl)))
            · refine r_iconst (3) 62 dX10_kindAt_61 rfl (by decide) ?_
              refine r_goto 66 dX10_kindAt_62 (by decide) ?_
              exact r_iret dX10_kindAt_66 rfl rfl (out_eq (by first | (rw [((a3 (by first | exact Or.inl h12 | exact Or.inr h18) (by first | exact Or.inl h26 | exact Or.inr h32)).2 h40 h46).1 h58]; rfl) | (rw [((a3 (by first | exact Or.inl h12 | exact Or.inr h18) (by first | exact Or.inl h26 | exact Or.inr h32)).2 h40 h46).2 h58]; rfl)))
          · refine r_iconst (4) 50 dX10_kindAt_49 rfl (by decide) ?_
            exact r_iret dX10_kindAt_50 rfl rfl (out_eq (by rw [(a3 (by first | exact Or.inl h12 | exact Or.inr h18) (by first | exact Or.inl h26 | exact Or.inr h32)).1 (by first | exact Or.inl h40 | exact Or.inr h46)]; rfl))
      · refine r_iconst (2) 36 dX10_kindAt_35 rfl (by decide) ?_
        exact r_iret dX10_kindAt_36 rfl rfl (out_eq (by rw [a2 (by first | exact Or.inl h12 | exact Or.inr h18) h26 h32]; rfl))
  · refine r_iload_n 16 dX10_kindAt_15 rfl rfl ?_
    refine r_bipush (122) 18 dX10_kindAt_16 rfl (by decide) ?_
    refine r_icmp_gt 21 23 dX10_kindAt_18 rfl (by decide) (fun h18 => ?_) (fun h18 => ?_)
    · refine r_iload_n 24 dX10_kindAt_23 rfl rfl ?_
      refine r_bipush (48) 26 dX10_kindAt_24 rfl (by decide) ?_
      refine r_icmp_lt 29 37 dX10_kindAt_26 rfl (by decide) (fun h26 => ?_) (fun h26 => ?_)
      · refine r_iload_n 38 dX10_kindAt_37 rfl rfl ?_
        refine r_bipush (32) 40 dX10_kindAt_38 rfl (by decide) ?_
        refine r_icmp_eq 43 49 dX10_kindAt_40 rfl (by decide) (fun h40 => ?_) (fun h40 => ?_)
        · refine r_iconst (4) 50 dX10_kindAt_49 rfl (by decide) ?_
          exact r_iret dX10_kindAt_50 rfl rfl (out_eq (by rw [(a3 (by first | exact Or.inl h12 | exact Or.inr h18) (by first | exact Or.inl h26 | exact Or.inr h32)).1 (by first | exact Or.inl h40 | exact Or.inr h46)]; rfl))
        · refine r_iload_n 44 dX10_kindAt_43 rfl rfl ?_
          refine r_bipush (10) 46 dX10_kindAt_44 rfl (by decide) ?_
          refine r_icmp_ne 49 51 dX10_kindAt_46 rfl (by decide) (fun h46 => ?_) (fun h46 => ?_)
          · refine r_ldcS (i := 0) 53 dX10_kindAt_51 rfl rfl ?_
            refine r_iload_n 54 dX10_kindAt_53 rfl rfl ?_
            refine r_i2c 55 dX10_kindAt_54 rfl ?_
            rw [b1]
            refine r_callVS (M := mX10_kindAt) (pc := 55) 58 dX10_kindAt_55 rfl k10_39 hix rfl rfl (i := 0) rfl rfl (Nat.le_of_ble_eq_true rfl) ?_
            refine r_if_lt 61 65 dX10_kindAt_58 rfl (by decide) (fun h58 => ?_) (fun h58 => ?_)
            · refine r_iconst (5) 66 dX10_kindAt_65 rfl (by decide) ?_
              exact r_iret dX10_kindAt_66 rfl rfl (out_eq (by first | (rw [((a3 (by first | exact Or.inl h12 | exact Or.inr h18) (by first | exact Or.inl h26 | exact Or.inr h32)).2 h40 h46).1 h58]; rfl) | (rw [((a3 (by first | exact Or.inl h12 | exact Or.inr h18) (by first | exact Or.inl h26 | exact Or.inr h32)).2 h40 h46).2 h58]; rfl)))
            · refine r_iconst (3) 62 dX10_kindAt_61 rfl (by decide) ?_
              refine r_goto 66 dX10_kindAt_62 (by decide) ?_
              exact r_iret dX10_kindAt_66 rfl rfl (out_eq (by first | (rw [((a3 (by first | exact Or.inl h12 | exact Or.inr h18) (by first | exact Or.inl h26 | exact Or.inr h32)).2 h40 h46).1 h58]; rfl) | (rw [((a3 (by first | exact Or.inl h12 | exact Or.inr h18) (by first | exact Or.inl h26 | exact Or.inr h32)).2 h40 h46).2 h58]; rfl)))
          · refine r_iconst (4) 50 dX10_kindAt_49 rfl (by decide) ?_
            exact r_iret dX10_kindAt_50 rfl rfl (out_eq (by rw [(a3 (by first | exact Or.inl h12 | exact Or.inr h18) (by first | exact Or.inl h26 | exact Or.inr h32)).1 (by first | exact Or.inl h40 | exact Or.inr h46)]; rfl))
      · refine r_iload_n 30 dX10_kindAt_29 rfl rfl ?_
        refine r_bipush (57) 32 dX10_kindAt_30 rfl (by decide) ?_
        refine r_icmp_gt 35 37 dX10_kindAt_32 rfl (by decide) (fun h32 => ?_) (fun h32 => ?_)
        · refine r_iload_n 38 dX10_kindAt_37 rfl rfl ?_
          refine r_bipush (32) 40 dX10_kindAt_38 rfl (by decide) ?_
          refine r_icmp_eq 43 49 dX10_kindAt_40 rfl (by decide) (fun h40 => ?_) (fun h40 => ?_)
          · refine r_iconst (4) 50 dX10_kindAt_49 rfl (by decide) ?_
            exact r_iret dX10_kindAt_50 rfl rfl (out_eq (by rw [(a3 (by first | exact Or.inl h12 | exact Or.inr h18) (by first | exact Or.inl h26 | exact Or.inr h32)).1 (by first | exact Or.inl h40 | exact Or.inr h46)]; rfl))
          · refine r_iload_n 44 dX10_kindAt_43 rfl rfl ?_
            refine r_bipush (10) 46 dX10_kindAt_44 rfl (by decide) ?_
            refine r_icmp_ne 49 51 dX10_kindAt_46 rfl (by decide) (fun h46 => ?_) (fun h46 => ?_)
            · refine r_ldcS (i := 0) 53 dX10_kindAt_51 rfl rfl ?_
              refine r_iload_n 54 dX10_kindAt_53 rfl rfl ?_
              refine r_i2c 55 dX10_kindAt_54 rfl ?_
              rw [b1]
              refine r_callVS (M := mX10_kindAt) (pc := 55) 58 dX10_kindAt_55 rfl k10_39 hix rfl rfl (i := 0) rfl rfl (Nat.le_of_ble_eq_true rfl) ?_
              refine r_if_lt 61 65 dX10_kindAt_58 rfl (by decide) (fun h58 => ?_) (fun h58 => ?_)
              · refine r_iconst (5) 66 dX10_kindAt_65 rfl (by decide) ?_
                exact r_iret dX10_kindAt_66 rfl rfl (out_eq (by first | (rw [((a3 (by first | exact Or.inl h12 | exact Or.inr h18) (by first | exact Or.inl h26 | exact Or.inr h32)).2 h40 h46).1 h58]; rfl) | (rw [((a3 (by first | exact Or.inl h12 | exact Or.inr h18) (by first | exact Or.inl h26 | exact Or.inr h32)).2 h40 h46).2 h58]; rfl)))
              · refine r_iconst (3) 62 dX10_kindAt_61 rfl (by decide) ?_
                refine r_goto 66 dX10_kindAt_62 (by decide) ?_
                exact r_iret dX10_kindAt_66 rfl rfl (out_eq (by first | (rw [((a3 (by first | exact Or.inl h12 | exact Or.inr h18) (by first | exact Or.inl h26 | exact Or.inr h32)).2 h40 h46).1 h58]; rfl) | (rw [((a3 (by first | exact Or.inl h12 | exact Or.inr h18) (by first | exact Or.inl h26 | exact Or.inr h32)).2 h40 h46).2 h58]; rfl)))
            · refine r_iconst (4) 50 dX10_kindAt_49 rfl (by decide) ?_
              exact r_iret dX10_kindAt_50 rfl rfl (out_eq (by rw [(a3 (by first | exact Or.inl h12 | exact Or.inr h18) (by first | exact Or.inl h26 | exact Or.inr h32)).1 (by first | exact Or.inl h40 | exact Or.inr h46)]; rfl))
        · refine r_iconst (2) 36 dX10_kindAt_35 rfl (by decide) ?_
          exact r_iret dX10_kindAt_36 rfl rfl (out_eq (by rw [a2 (by first | exact Or.inl h12 | exact Or.inr h18) h26 h32]; rfl))
    · refine r_iconst (1) 22 dX10_kindAt_21 rfl (by decide) ?_
      exact r_iret dX10_kindAt_22 rfl rfl (out_eq (by rw [a1 h12 h18]; rfl))
set_option maxRecDepth 20000 in
theorem tk_adv {d q : Nat} {T : TX} {E : HP} (hT : TXok T) (h : TkF E T) (hq : gI E 1283 42 = nI q) (hq2 : q ≤ T.2) : ∃ o, (∃ E2, o = (.inl none, E2, 137) ∧ TkA E2 T (toB T q) ∧ TkM E E2) ∧ Cl yX10_advance mX10_advance (d + 5) 0 0 [.ref 42] E 137 o := by
  have n6 := hT.1
  obtain ⟨a, ha⟩ : ∃ a, toB T q = a := ⟨_, rfl⟩
  rw [ha]
  have han : a ≤ T.2 := by rw [← ha]; exact (runT_le (T := T) (k := 4) (i := q)).2 hq2
  have hk4 : ¬ kdT T a = 4 := by rw [← ha]; exact toB_kd
  refine Cx.of (by decide) rfl (fun q => by cases q) rfl rfl (Nat.le_of_ble_eq_true rfl) ?_
  show Sx _ _ _ _ _ 0 [some (.ref 42)] [] _ _
  have k111 : ∀ f j E2, j + f = T.2 → TkM E E2 → gI E2 1282 42 = nI a → gI E2 1284 42 = nI (kdT T a) → gI E2 1283 42 = nI j → (kdT T a = 1 ∨ kdT T a = 2) → runT T (kdT T a) j = toE T a → Sx mX10_advance (d + 5) 0 0 (fun o => ∃ E2, o = (.inl none, E2, 137) ∧ TkA E2 T (a) ∧ TkM E E2) 111 [some (.ref 42)] [] E2 137 := by
    intro f
    induction f with
    | zero =>
      intro j E2 hj hm g2 g4 g3 hk hr
      have hF := tkf_m hm h
      have hlen := hF.2.2.1
      have hjn : j = T.2 := by omega
      have hje : toE T a = j := by rw [← hr]; exact runT_n (by omega)
      refine Sx.up (fun _ kk => r_aload_n 112 dX10_advance_111 rfl rfl kk) ?_
      refine Sx.up (fun _ kk => r_getIV (nI j) 115 dX10_advance_112 rfl f10_16 rfl (by first | with_reducible assumption | with_reducible exact cr_bs hC | rfl) (by first | with_reducible assumption | with_reducible exact cr_bn hC | exact Nat.le_of_ble_eq_true rfl) (g3) kk) ?_
      refine Sx.up (fun _ kk => r_aload_n 116 dX10_advance_115 rfl rfl kk) ?_
      refine Sx.up (fun _ kk => r_getIV (nI T.2) 119 dX10_advance_116 rfl f10_7 rfl (by first | with_reducible assumption | with_reducible exact cr_bs hC | rfl) (by first | with_reducible assumption | with_reducible exact cr_bn hC | exact Nat.le_of_ble_eq_true rfl) (hlen) kk) ?_
      refine Sx.up (fun _ kk => r_icmp_ge 122 150 dX10_advance_119 rfl (by decide) (fun _ => kk) (fun h119 => absurd (nI_le (by omega) (by omega)) h119)) ?_
      refine ⟨_, ?_, r_vret dX10_advance_150 rfl rfl rfl⟩
      refine ⟨E2, rfl, ⟨g2, ?_, g4⟩, hm⟩
      rw [hje]; exact g3
    | succ f ih =>
      intro j E2 hj hm g2 g4 g3 hk hr
      have hF := tkf_m hm h
      have hlen := hF.2.2.1
      have hka := c_kindAt (d := d) hT hF (show j < T.2 by omega)
      by_cases hc : clsT (T.1 j) = kdT T a
      · refine Sx.up (fun _ kk => r_aload_n 112 dX10_advance_111 rfl rfl kk) ?_
        refine Sx.up (fun _ kk => r_getIV (nI j) 115 dX10_advance_112 rfl f10_16 rfl (by first | with_reducible assumption | with_reducible exact cr_bs hC | rfl) (by first | with_reducible assumption | with_reducible exact cr_bn hC | exact Nat.le_of_ble_eq_true rfl) (g3) kk) ?_
        refine Sx.up (fun _ kk => r_aload_n 116 dX10_advance_115 rfl rfl kk) ?_
        refine Sx.up (fun _ kk => r_getIV (nI T.2) 119 dX10_advance_116 rfl f10_7 rfl (by first | with_reducible assumption | with_reducible exact cr_bs hC | rfl) (by first | with_reducible assumption | with_reducible exact cr_bn hC | exact Nat.le_of_ble_eq_true rfl) (hlen) kk) ?_
        refine Sx.up (fun _ kk => r_icmp_ge 122 150 dX10_advance_119 rfl (by decide) (fun h119 => absurd h119 (nI_ge (by omega) (by omega))) (fun _ => kk)) ?_
        refine Sx.up (fun _ kk => r_aload_n 123 dX10_advance_122 rfl rfl kk) ?_
        refine Sx.up (fun _ kk => r_aload_n 124 dX10_advance_123 rfl rfl kk) ?_
        refine Sx.up (fun _ kk => r_getIV (nI j) 127 dX10_advance_124 rfl f10_16 rfl (by first | with_reducible assumption | with_reducible exact cr_bs hC | rfl) (by first | with_reducible assumption | with_reducible exact cr_bn hC | exact Nat.le_of_ble_eq_true rfl) (g3) kk) ?_
        refine Sx.up (fun _ kk => r_callV (M := mX10_advance) (pc := 127) 130 dX10_advance_127 rfl k10_29 hka rfl rfl (by first | with_reducible assumption | with_reducible exact cr_bs hC | rfl) (by decide) rfl (by first | with_reducible assumption | with_reducible exact cr_bn hC | exact Nat.le_of_ble_eq_true rfl) (Nat.le_of_ble_eq_true rfl) kk) ?_
        refine Sx.up (fun _ kk => r_aload_n 131 dX10_advance_130 rfl rfl kk) ?_
        refine Sx.up (fun _ kk => r_getIV (nI (kdT T a)) 134 dX10_advance_131 rfl f10_19 rfl (by first | with_reducible assumption | with_reducible exact cr_bs hC | rfl) (by first | with_reducible assumption | with_reducible exact cr_bn hC | exact Nat.le_of_ble_eq_true rfl) (g4) kk) ?_
        refine Sx.up (fun _ kk => r_icmp_ne 137 150 dX10_advance_134 rfl (by decide) (fun h134 => absurd h134 (fun z => z (by rw [hc]))) (fun _ => kk)) ?_
        refine Sx.up (fun _ kk => r_aload_n 138 dX10_advance_137 rfl rfl kk) ?_
        refine Sx.up (fun _ kk => r_dup 139 dX10_advance_138 rfl rfl kk) ?_
        refine Sx.up (fun _ kk => r_getIV (nI j) 142 dX10_advance_139 rfl f10_16 rfl (by first | with_reducible assumption | with_reducible exact cr_bs hC | rfl) (by first | with_reducible assumption | with_reducible exact cr_bn hC | exact Nat.le_of_ble_eq_true rfl) (g3) kk) ?_
        refine Sx.up (fun _ kk => r_iconst (1) 143 dX10_advance_142 rfl (by decide) kk) ?_
        refine Sx.up (fun _ kk => r_iadd 144 dX10_advance_143 rfl kk) ?_
        refine Sx.up (fun _ kk => r_putI 147 dX10_advance_144 rfl f10_16 (by first | with_reducible assumption | with_reducible exact cr_bs hC | rfl) (by first | with_reducible assumption | with_reducible exact cr_bn hC | exact Nat.le_of_ble_eq_true rfl) kk) ?_
        refine Sx.up (fun _ kk => r_goto 111 dX10_advance_147 (by decide) kk) ?_
        refine ih (j + 1) _ (by omega) (tkm_sI (by decide) hm) g2 g4 ?_ hk ?_
        · rw [gI_sI, if_pos ⟨rfl, rfl⟩, nI_pp]
        · rw [← runT_y (by omega) hc]; exact hr
      · refine Sx.up (fun _ kk => r_aload_n 112 dX10_advance_111 rfl rfl kk) ?_
        refine Sx.up (fun _ kk => r_getIV (nI j) 115 dX10_advance_112 rfl f10_16 rfl (by first | with_reducible assumption | with_reducible exact cr_bs hC | rfl) (by first | with_reducible assumption | with_reducible exact cr_bn hC | exact Nat.le_of_ble_eq_true rfl) (g3) kk) ?_
        refine Sx.up (fun _ kk => r_aload_n 116 dX10_advance_115 rfl rfl kk) ?_
        refine Sx.up (fun _ kk => r_getIV (nI T.2) 119 dX10_advance_116 rfl f10_7 rfl (by first | with_reducible assumption | with_reducible exact cr_bs hC | rfl) (by first | with_reducible assumption | with_reducible exact cr_bn hC | exact Nat.le_of_ble_eq_true rfl) (hlen) kk) ?_
        refine Sx.up (fun _ kk => r_icmp_ge 122 150 dX10_advance_119 rfl (by decide) (fun h119 => absurd h119 (nI_ge (by omega) (by omega))) (fun _ => kk)) ?_
        refine Sx.up (fun _ kk => r_aload_n 123 dX10_advance_122 rfl rfl kk) ?_
        refine Sx.up (fun _ kk => r_aload_n 124 dX10_advance_123 rfl rfl kk) ?_
        refine Sx.up (fun _ kk => r_getIV (nI j) 127 dX10_advance_124 rfl f10_16 rfl (by first | with_reducible assumption | with_reducible exact cr_bs hC | rfl) (by first | with_reducible assumption | with_reducible exact cr_bn hC | exact Nat.le_of_ble_eq_true rfl) (g3) kk) ?_
        refine Sx.up (fun _ kk => r_callV (M := mX10_advance) (pc := 127) 130 dX10_advance_127 rfl k10_29 hka rfl rfl (by first | with_reducible assumption | with_reducible exact cr_bs hC | rfl) (by decide) rfl (by first | with_reducible assumption | with_reducible exact cr_bn hC | exact Nat.le_of_ble_eq_true rfl) (Nat.le_of_ble_eq_true rfl) kk) ?_
        refine Sx.up (fun _ kk => r_aload_n 131 dX10_advance_130 rfl rfl kk) ?_
        refine Sx.up (fun _ kk => r_getIV (nI (kdT T a)) 134 dX10_advance_131 rfl f10_19 rfl (by first | with_reducible assumption | with_reducible exact cr_bs hC | rfl) (by first | with_reducible assumption | with_reducible exact cr_bn hC | exact Nat.le_of_ble_eq_true rfl) (g4) kk) ?_
        refine Sx.up (fun _ kk => r_icmp_ne 137 150 dX10_advance_134 rfl (by decide) (fun _ => kk) (fun h134 => absurd h134 (fun z => hc ((nI_eq (by have := cls_pos (T.1 j); omega) (by omega)).mp z)))) ?_
        refine ⟨_, ?_, r_vret dX10_advance_150 rfl rfl rfl⟩
        refine ⟨E2, rfl, ⟨g2, ?_, g4⟩, hm⟩
        rw [← hr, runT_n (fun z => hc z.2)]; exact g3
  have k44 : ∀ E2, TkM E E2 → gI E2 1282 42 = nI a → Sx mX10_advance (d + 5) 0 0 (fun o => ∃ E2, o = (.inl none, E2, 137) ∧ TkA E2 T (a) ∧ TkM E E2) 44 [some (.ref 42)] [] E2 137 := by
    intro E2 hm g2
    have hF := tkf_m hm h
    have hlen := hF.2.2.1
    by_cases hl : a < T.2
    · have hka := c_kindAt (d := d) hT hF hl
      have hkd := kd_lt hl
      rw [← hkd] at hka
      have hc1 := cls_pos (T.1 a)
      rw [← hkd] at hc1
      have hte : ¬ (kdT T a = 1 ∨ kdT T a = 2) → toE T a = a + 1 := fun z => by unfold toE; rw [if_neg (by omega), if_neg z]
      have htr : (kdT T a = 1 ∨ kdT T a = 2) → runT T (kdT T a) (a + 1) = toE T a := fun z => by unfold toE; rw [if_neg (by omega), if_pos z]
      have hk9 : ∀ x, x < 100 → (nI (kdT T a) = nI x ↔ kdT T a = x) := fun x hx => nI_eq (by omega) (by omega)
      by_cases h1 : kdT T a = 1
      · refine Sx.up (fun _ kk => r_aload_n 45 dX10_advance_44 rfl rfl kk) ?_
        refine Sx.up (fun _ kk => r_aload_n 46 dX10_advance_45 rfl rfl kk) ?_
        refine Sx.up (fun _ kk => r_getIV (nI a) 49 dX10_advance_46 rfl f10_13 rfl (by first | with_reducible assumption | with_reducible exact cr_bs hC | rfl) (by first | with_reducible assumption | with_reducible exact cr_bn hC | exact Nat.le_of_ble_eq_true rfl) (g2) kk) ?_
        refine Sx.up (fun _ kk => r_aload_n 50 dX10_advance_49 rfl rfl kk) ?_
        refine Sx.up (fun _ kk => r_getIV (nI T.2) 53 dX10_advance_50 rfl f10_7 rfl (by first | with_reducible assumption | with_reducible exact cr_bs hC | rfl) (by first | with_reducible assumption | with_reducible exact cr_bn hC | exact Nat.le_of_ble_eq_true rfl) (hlen) kk) ?_
        refine Sx.up (fun _ kk => r_icmp_ge 56 67 dX10_advance_53 rfl (by decide) (fun h53 => absurd h53 (nI_ge hl (by omega))) (fun _ => kk)) ?_
        refine Sx.up (fun _ kk => r_aload_n 57 dX10_advance_56 rfl rfl kk) ?_
        refine Sx.up (fun _ kk => r_aload_n 58 dX10_advance_57 rfl rfl kk) ?_
        refine Sx.up (fun _ kk => r_getIV (nI a) 61 dX10_advance_58 rfl f10_13 rfl (by first | with_reducible assumption | with_reducible exact cr_bs hC | rfl) (by first | with_reducible assumption | with_reducible exact cr_bn hC | exact Nat.le_of_ble_eq_true rfl) (g2) kk) ?_
        refine Sx.up (fun _ kk => r_callV (M := mX10_advance) (pc := 61) 64 dX10_advance_61 rfl k10_29 hka rfl rfl (by first | with_reducible assumption | with_reducible exact cr_bs hC | rfl) (by decide) rfl (by first | with_reducible assumption | with_reducible exact cr_bn hC | exact Nat.le_of_ble_eq_true rfl) (Nat.le_of_ble_eq_true rfl) kk) ?_
        refine Sx.up (fun _ kk => r_goto 68 dX10_advance_64 (by decide) kk) ?_
        refine Sx.up (fun _ kk => r_putI 71 dX10_advance_68 rfl f10_19 (by first | with_reducible assumption | with_reducible exact cr_bs hC | rfl) (by first | with_reducible assumption | with_reducible exact cr_bn hC | exact Nat.le_of_ble_eq_true rfl) kk) ?_
        refine Sx.up (fun _ kk => r_aload_n 72 dX10_advance_71 rfl rfl kk) ?_
        refine Sx.up (fun _ kk => r_aload_n 73 dX10_advance_72 rfl rfl kk) ?_
        refine Sx.up (fun _ kk => r_getIV (nI (kdT T a)) 76 dX10_advance_73 rfl f10_19 rfl (by first | with_reducible assumption | with_reducible exact cr_bs hC | rfl) (by first | with_reducible assumption | with_reducible exact cr_bn hC | exact Nat.le_of_ble_eq_true rfl) (by first | (rw [gI_sI, if_pos ⟨rfl, rfl⟩]) | (rw [gI_sI, if_neg (by decide), gI_sI, if_pos ⟨rfl, rfl⟩])) kk) ?_
        refine Sx.up (fun _ kk => r_if_ne 79 86 dX10_advance_76 rfl (by decide) (fun _ => kk) (fun h76 => absurd h76 (nI_ne0 (by omega) (by omega)))) ?_
        refine Sx.up (fun _ kk => r_aload_n 87 dX10_advance_86 rfl rfl kk) ?_
        refine Sx.up (fun _ kk => r_getIV (nI a) 90 dX10_advance_87 rfl f10_13 rfl (by first | with_reducible assumption | with_reducible exact cr_bs hC | rfl) (by first | with_reducible assumption | with_reducible exact cr_bn hC | exact Nat.le_of_ble_eq_true rfl) (g2) kk) ?_
        refine Sx.up (fun _ kk => r_iconst (1) 91 dX10_advance_90 rfl (by decide) kk) ?_
        refine Sx.up (fun _ kk => r_iadd 92 dX10_advance_91 rfl kk) ?_
        refine Sx.up (fun _ kk => r_putI 95 dX10_advance_92 rfl f10_16 (by first | with_reducible assumption | with_reducible exact cr_bs hC | rfl) (by first | with_reducible assumption | with_reducible exact cr_bn hC | exact Nat.le_of_ble_eq_true rfl) kk) ?_
        refine Sx.up (fun _ kk => r_aload_n 96 dX10_advance_95 rfl rfl kk) ?_
        refine Sx.up (fun _ kk => r_getIV (nI (kdT T a)) 99 dX10_advance_96 rfl f10_19 rfl (by first | with_reducible assumption | with_reducible exact cr_bs hC | rfl) (by first | with_reducible assumption | with_reducible exact cr_bn hC | exact Nat.le_of_ble_eq_true rfl) (by first | (rw [gI_sI, if_pos ⟨rfl, rfl⟩]) | (rw [gI_sI, if_neg (by decide), gI_sI, if_pos ⟨rfl, rfl⟩])) kk) ?_
        refine Sx.up (fun _ kk => r_iconst (1) 100 dX10_advance_99 rfl (by decide) kk) ?_
        refine Sx.up (fun _ kk => r_icmp_eq 103 111 dX10_advance_100 rfl (by decide) (fun _ => kk) (fun h100 => absurd ((hk9 1 (by decide)).mpr h1) h100)) ?_
        refine k111 (T.2 - (a + 1)) (a + 1) _ (by omega) (tkm_sI (by decide) (tkm_sI (by decide) hm)) g2 ?_ ?_ (Or.inl h1) (htr (Or.inl h1))
        · rw [gI_sI, if_neg (by decide), gI_sI, if_pos ⟨rfl, rfl⟩]
        · rw [gI_sI, if_pos ⟨rfl, rfl⟩, nI_pp]
      by_cases h2 : kdT T a = 2
      · refine Sx.up (fun _ kk => r_aload_n 45 dX10_advance_44 rfl rfl kk) ?_
        refine Sx.up (fun _ kk => r_aload_n 46 dX10_advance_45 rfl rfl kk) ?_
        refine Sx.up (fun _ kk => r_getIV (nI a) 49 dX10_advance_46 rfl f10_13 rfl (by first | with_reducible assumption | with_reducible exact cr_bs hC | rfl) (by first | with_reducible assumption | with_reducible exact cr_bn hC | exact Nat.le_of_ble_eq_true rfl) (g2) kk) ?_
        refine Sx.up (fun _ kk => r_aload_n 50 dX10_advance_49 rfl rfl kk) ?_
        refine Sx.up (fun _ kk => r_getIV (nI T.2) 53 dX10_advance_50 rfl f10_7 rfl (by first | with_reducible assumption | with_reducible exact cr_bs hC | rfl) (by first | with_reducible assumption | with_reducible exact cr_bn hC | exact Nat.le_of_ble_eq_true rfl) (hlen) kk) ?_
        refine Sx.up (fun _ kk => r_icmp_ge 56 67 dX10_advance_53 rfl (by decide) (fun h53 => absurd h53 (nI_ge hl (by omega))) (fun _ => kk)) ?_
        refine Sx.up (fun _ kk => r_aload_n 57 dX10_advance_56 rfl rfl kk) ?_
        refine Sx.up (fun _ kk => r_aload_n 58 dX10_advance_57 rfl rfl kk) ?_
        refine Sx.up (fun _ kk => r_getIV (nI a) 61 dX10_advance_58 rfl f10_13 rfl (by first | with_reducible assumption | with_reducible exact cr_bs hC | rfl) (by first | with_reducible assumption | with_reducible exact cr_bn hC | exact Nat.le_of_ble_eq_true rfl) (g2) kk) ?_
        refine Sx.up (fun _ kk => r_callV (M := mX10_advance) (pc := 61) 64 dX10_advance_61 rfl k10_29 hka rfl rfl (by first | with_reducible assumption | with_reducible exact cr_bs hC | rfl) (by decide) rfl (by first | with_reducible assumption | with_reducible exact cr_bn hC | exact Nat.le_of_ble_eq_true rfl) (Nat.le_of_ble_eq_true rfl) kk) ?_
        refine Sx.up (fun _ kk => r_goto 68 dX10_advance_64 (by decide) kk) ?_
        refine Sx.up (fun _ kk => r_putI 71 dX10_advance_68 rfl f10_19 (by first | with_reducible assumption | with_reducible exact cr_bs hC | rfl) (by first | with_reducible assumption | with_reducible exact cr_bn hC | exact Nat.le_of_ble_eq_true rfl) kk) ?_
        refine Sx.up (fun _ kk => r_aload_n 72 dX10_advance_71 rfl rfl kk) ?_
        refine Sx.up (fun _ kk => r_aload_n 73 dX10_advance_72 rfl rfl kk) ?_
        refine Sx.up (fun _ kk => r_getIV (nI (kdT T a)) 76 dX10_advance_73 rfl f10_19 rfl (by first | with_reducible assumption | with_reducible exact cr_bs hC | rfl) (by first | with_reducible assumption | with_reducible exact cr_bn hC | exact Nat.le_of_ble_eq_true rfl) (by first | (rw [gI_sI, if_pos ⟨rfl, rfl⟩]) | (rw [gI_sI, if_neg (by decide), gI_sI, if_pos ⟨rfl, rfl⟩])) kk) ?_
        refine Sx.up (fun _ kk => r_if_ne 79 86 dX10_advance_76 rfl (by decide) (fun _ => kk) (fun h76 => absurd h76 (nI_ne0 (by omega) (by omega)))) ?_
        refine Sx.up (fun _ kk => r_aload_n 87 dX10_advance_86 rfl rfl kk) ?_
        refine Sx.up (fun _ kk => r_getIV (nI a) 90 dX10_advance_87 rfl f10_13 rfl (by first | with_reducible assumption | with_reducible exact cr_bs hC | rfl) (by first | with_reducible assumption | with_reducible exact cr_bn hC | exact Nat.le_of_ble_eq_true rfl) (g2) kk) ?_
        refine Sx.up (fun _ kk => r_iconst (1) 91 dX10_advance_90 rfl (by decide) kk) ?_
        refine Sx.up (fun _ kk => r_iadd 92 dX10_advance_91 rfl kk) ?_
        refine Sx.up (fun _ kk => r_putI 95 dX10_advance_92 rfl f10_16 (by first | with_reducible assumption | with_reducible exact cr_bs hC | rfl) (by first | with_reducible assumption | with_reducible exact cr_bn hC | exact Nat.le_of_ble_eq_true rfl) kk) ?_
        refine Sx.up (fun _ kk => r_aload_n 96 dX10_advance_95 rfl rfl kk) ?_
        refine Sx.up (fun _ kk => r_getIV (nI (kdT T a)) 99 dX10_advance_96 rfl f10_19 rfl (by first | with_reducible assumption | with_reducible exact cr_bs hC | rfl) (by first | with_reducible assumption | with_reducible exact cr_bn hC | exact Nat.le_of_ble_eq_true rfl) (by first | (rw [gI_sI, if_pos ⟨rfl, rfl⟩]) | (rw [gI_sI, if_neg (by decide), gI_sI, if_pos ⟨rfl, rfl⟩])) kk) ?_
        refine Sx.up (fun _ kk => r_iconst (1) 100 dX10_advance_99 rfl (by decide) kk) ?_
        refine Sx.up (fun _ kk => r_icmp_eq 103 111 dX10_advance_100 rfl (by decide) (fun h100 => absurd h100 (fun z => h1 ((hk9 1 (by decide)).mp z))) (fun _ => kk)) ?_
        refine Sx.up (fun _ kk => r_aload_n 104 dX10_advance_103 rfl rfl kk) ?_
        refine Sx.up (fun _ kk => r_getIV (nI (kdT T a)) 107 dX10_advance_104 rfl f10_19 rfl (by first | with_reducible assumption | with_reducible exact cr_bs hC | rfl) (by first | with_reducible assumption | with_reducible exact cr_bn hC | exact Nat.le_of_ble_eq_true rfl) (by first | (rw [gI_sI, if_pos ⟨rfl, rfl⟩]) | (rw [gI_sI, if_neg (by decide), gI_sI, if_pos ⟨rfl, rfl⟩])) kk) ?_
        refine Sx.up (fun _ kk => r_iconst (2) 108 dX10_advance_107 rfl (by decide) kk) ?_
        refine Sx.up (fun _ kk => r_icmp_ne 111 150 dX10_advance_108 rfl (by decide) (fun h108 => absurd h108 (fun z => z ((hk9 2 (by decide)).mpr h2))) (fun _ => kk)) ?_
        refine k111 (T.2 - (a + 1)) (a + 1) _ (by omega) (tkm_sI (by decide) (tkm_sI (by decide) hm)) g2 ?_ ?_ (Or.inr h2) (htr (Or.inr h2))
        · rw [gI_sI, if_neg (by decide), gI_sI, if_pos ⟨rfl, rfl⟩]
        · rw [gI_sI, if_pos ⟨rfl, rfl⟩, nI_pp]
      refine Sx.up (fun _ kk => r_aload_n 45 dX10_advance_44 rfl rfl kk) ?_
      refine Sx.up (fun _ kk => r_aload_n 46 dX10_advance_45 rfl rfl kk) ?_
      refine Sx.up (fun _ kk => r_getIV (nI a) 49 dX10_advance_46 rfl f10_13 rfl (by first | with_reducible assumption | with_reducible exact cr_bs hC | rfl) (by first | with_reducible assumption | with_reducible exact cr_bn hC | exact Nat.le_of_ble_eq_true rfl) (g2) kk) ?_
      refine Sx.up (fun _ kk => r_aload_n 50 dX10_advance_49 rfl rfl kk) ?_
      refine Sx.up (fun _ kk => r_getIV (nI T.2) 53 dX10_advance_50 rfl f10_7 rfl (by first | with_reducible assumption | with_reducible exact cr_bs hC | rfl) (by first | with_reducible assumption | with_reducible exact cr_bn hC | exact Nat.le_of_ble_eq_true rfl) (hlen) kk) ?_
      refine Sx.up (fun _ kk => r_icmp_ge 56 67 dX10_advance_53 rfl (by decide) (fun h53 => absurd h53 (nI_ge hl (by omega))) (fun _ => kk)) ?_
      refine Sx.up (fun _ kk => r_aload_n 57 dX10_advance_56 rfl rfl kk) ?_
      refine Sx.up (fun _ kk => r_aload_n 58 dX10_advance_57 rfl rfl kk) ?_
      refine Sx.up (fun _ kk => r_getIV (nI a) 61 dX10_advance_58 rfl f10_13 rfl (by first | with_reducible assumption | with_reducible exact cr_bs hC | rfl) (by first | with_reducible assumption | with_reducible exact cr_bn hC | exact Nat.le_of_ble_eq_true rfl) (g2) kk) ?_
      refine Sx.up (fun _ kk => r_callV (M := mX10_advance) (pc := 61) 64 dX10_advance_61 rfl k10_29 hka rfl rfl (by first | with_reducible assumption | with_reducible exact cr_bs hC | rfl) (by decide) rfl (by first | with_reducible assumption | with_reducible exact cr_bn hC | exact Nat.le_of_ble_eq_true rfl) (Nat.le_of_ble_eq_true rfl) kk) ?_
      refine Sx.up (fun _ kk => r_goto 68 dX10_advance_64 (by decide) kk) ?_
      refine Sx.up (fun _ kk => r_putI 71 dX10_advance_68 rfl f10_19 (by first | with_reducible assumption | with_reducible exact cr_bs hC | rfl) (by first | with_reducible assumption | with_reducible exact cr_bn hC | exact Nat.le_of_ble_eq_true rfl) kk) ?_
      refine Sx.up (fun _ kk => r_aload_n 72 dX10_advance_71 rfl rfl kk) ?_
      refine Sx.up (fun _ kk => r_aload_n 73 dX10_advance_72 rfl rfl kk) ?_
      refine Sx.up (fun _ kk => r_getIV (nI (kdT T a)) 76 dX10_advance_73 rfl f10_19 rfl (by first | with_reducible assumption | with_reducible exact cr_bs hC | rfl) (by first | with_reducible assumption | with_reducible exact cr_bn hC | exact Nat.le_of_ble_eq_true rfl) (by first | (rw [gI_sI, if_pos ⟨rfl, rfl⟩]) | (rw [gI_sI, if_neg (by decide), gI_sI, if_pos ⟨rfl, rfl⟩])) kk) ?_
      refine Sx.up (fun _ kk => r_if_ne 79 86 dX10_advance_76 rfl (by decide) (fun _ => kk) (fun h76 => absurd h76 (nI_ne0 (by omega) (by omega)))) ?_
      refine Sx.up (fun _ kk => r_aload_n 87 dX10_advance_86 rfl rfl kk) ?_
      refine Sx.up (fun _ kk => r_getIV (nI a) 90 dX10_advance_87 rfl f10_13 rfl (by first | with_reducible assumption | with_reducible exact cr_bs hC | rfl) (by first | with_reducible assumption | with_reducible exact cr_bn hC | exact Nat.le_of_ble_eq_true rfl) (g2) kk) ?_
      refine Sx.up (fun _ kk => r_iconst (1) 91 dX10_advance_90 rfl (by decide) kk) ?_
      refine Sx.up (fun _ kk => r_iadd 92 dX10_advance_91 rfl kk) ?_
      refine Sx.up (fun _ kk => r_putI 95 dX10_advance_92 rfl f10_16 (by first | with_reducible assumption | with_reducible exact cr_bs hC | rfl) (by first | with_reducible assumption | with_reducible exact cr_bn hC | exact Nat.le_of_ble_eq_true rfl) kk) ?_
      refine Sx.up (fun _ kk => r_aload_n 96 dX10_advance_95 rfl rfl kk) ?_
      refine Sx.up (fun _ kk => r_getIV (nI (kdT T a)) 99 dX10_advance_96 rfl f10_19 rfl (by first | with_reducible assumption | with_reducible exact cr_bs hC | rfl) (by first | with_reducible assumption | with_reducible exact cr_bn hC | exact Nat.le_of_ble_eq_true rfl) (by first | (rw [gI_sI, if_pos ⟨rfl, rfl⟩]) | (rw [gI_sI, if_neg (by decide), gI_sI, if_pos ⟨rfl, rfl⟩])) kk) ?_
      refine Sx.up (fun _ kk => r_iconst (1) 100 dX10_advance_99 rfl (by decide) kk) ?_
      refine Sx.up (fun _ kk => r_icmp_eq 103 111 dX10_advance_100 rfl (by decide) (fun h100 => absurd h100 (fun z => h1 ((hk9 1 (by decide)).mp z))) (fun _ => kk)) ?_
      refine Sx.up (fun _ kk => r_aload_n 104 dX10_advance_103 rfl rfl kk) ?_
      refine Sx.up (fun _ kk => r_getIV (nI (kdT T a)) 107 dX10_advance_104 rfl f10_19 rfl (by first | with_reducible assumption | with_reducible exact cr_bs hC | rfl) (by first | with_reducible assumption | with_reducible exact cr_bn hC | exact Nat.le_of_ble_eq_true rfl) (by first | (rw [gI_sI, if_pos ⟨rfl, rfl⟩]) | (rw [gI_sI, if_neg (by decide), gI_sI, if_pos ⟨rfl, rfl⟩])) kk) ?_
      refine Sx.up (fun _ kk => r_iconst (2) 108 dX10_advance_107 rfl (by decide) kk) ?_
      refine Sx.up (fun _ kk => r_icmp_ne 111 150 dX10_advance_108 rfl (by decide) (fun _ => kk) (fun h108 => absurd h108 (fun z => h2 ((hk9 2 (by decide)).mp z)))) ?_
      refine ⟨_, ?_, r_vret dX10_advance_150 rfl rfl rfl⟩
      refine ⟨_, rfl, ⟨g2, ?_, ?_⟩, tkm_sI (by decide) (tkm_sI (by decide) hm)⟩
      · rw [gI_sI, if_pos ⟨rfl, rfl⟩, nI_pp, hte (fun z => z.elim h1 h2)]
      · rw [gI_sI, if_neg (by decide), gI_sI, if_pos ⟨rfl, rfl⟩]
    · have hkd := kd_0 (T := T) hl
      have hte : toE T a = a := by unfold toE; rw [if_pos hkd]
      refine Sx.up (fun _ kk => r_aload_n 45 dX10_advance_44 rfl rfl kk) ?_
      refine Sx.up (fun _ kk => r_aload_n 46 dX10_advance_45 rfl rfl kk) ?_
      refine Sx.up (fun _ kk => r_getIV (nI a) 49 dX10_advance_46 rfl f10_13 rfl (by first | with_reducible assumption | with_reducible exact cr_bs hC | rfl) (by first | with_reducible assumption | with_reducible exact cr_bn hC | exact Nat.le_of_ble_eq_true rfl) (g2) kk) ?_
      refine Sx.up (fun _ kk => r_aload_n 50 dX10_advance_49 rfl rfl kk) ?_
      refine Sx.up (fun _ kk => r_getIV (nI T.2) 53 dX10_advance_50 rfl f10_7 rfl (by first | with_reducible assumption | with_reducible exact cr_bs hC | rfl) (by first | with_reducible assumption | with_reducible exact cr_bn hC | exact Nat.le_of_ble_eq_true rfl) (hlen) kk) ?_
      refine Sx.up (fun _ kk => r_icmp_ge 56 67 dX10_advance_53 rfl (by decide) (fun _ => kk) (fun h53 => absurd (nI_le (by omega) (by omega)) h53)) ?_
      refine Sx.up (fun _ kk => r_iconst (0) 68 dX10_advance_67 rfl (by decide) kk) ?_
      refine Sx.up (fun _ kk => r_putI 71 dX10_advance_68 rfl f10_19 (by first | with_reducible assumption | with_reducible exact cr_bs hC | rfl) (by first | with_reducible assumption | with_reducible exact cr_bn hC | exact Nat.le_of_ble_eq_true rfl) kk) ?_
      refine Sx.up (fun _ kk => r_aload_n 72 dX10_advance_71 rfl rfl kk) ?_
      refine Sx.up (fun _ kk => r_aload_n 73 dX10_advance_72 rfl rfl kk) ?_
      refine Sx.up (fun _ kk => r_getIV (0) 76 dX10_advance_73 rfl f10_19 rfl (by first | with_reducible assumption | with_reducible exact cr_bs hC | rfl) (by first | with_reducible assumption | with_reducible exact cr_bn hC | exact Nat.le_of_ble_eq_true rfl) (by first | (rw [gI_sI, if_pos ⟨rfl, rfl⟩]) | (rw [gI_sI, if_neg (by decide), gI_sI, if_pos ⟨rfl, rfl⟩])) kk) ?_
      refine Sx.up (fun _ kk => r_if_ne 79 86 dX10_advance_76 rfl (by decide) (fun h76 => absurd h76 (fun z => z rfl)) (fun _ => kk)) ?_
      refine Sx.up (fun _ kk => r_aload_n 80 dX10_advance_79 rfl rfl kk) ?_
      refine Sx.up (fun _ kk => r_getIV (nI a) 83 dX10_advance_80 rfl f10_13 rfl (by first | with_reducible assumption | with_reducible exact cr_bs hC | rfl) (by first | with_reducible assumption | with_reducible exact cr_bn hC | exact Nat.le_of_ble_eq_true rfl) (g2) kk) ?_
      refine Sx.up (fun _ kk => r_goto 92 dX10_advance_83 (by decide) kk) ?_
      refine Sx.up (fun _ kk => r_putI 95 dX10_advance_92 rfl f10_16 (by first | with_reducible assumption | with_reducible exact cr_bs hC | rfl) (by first | with_reducible assumption | with_reducible exact cr_bn hC | exact Nat.le_of_ble_eq_true rfl) kk) ?_
      refine Sx.up (fun _ kk => r_aload_n 96 dX10_advance_95 rfl rfl kk) ?_
      refine Sx.up (fun _ kk => r_getIV (0) 99 dX10_advance_96 rfl f10_19 rfl (by first | with_reducible assumption | with_reducible exact cr_bs hC | rfl) (by first | with_reducible assumption | with_reducible exact cr_bn hC | exact Nat.le_of_ble_eq_true rfl) (by first | (rw [gI_sI, if_pos ⟨rfl, rfl⟩]) | (rw [gI_sI, if_neg (by decide), gI_sI, if_pos ⟨rfl, rfl⟩])) kk) ?_
      refine Sx.up (fun _ kk => r_iconst (1) 100 dX10_advance_99 rfl (by decide) kk) ?_
      refine Sx.up (fun _ kk => r_icmp_eq 103 111 dX10_advance_100 rfl (by decide) (fun h100 => absurd h100 (by decide)) (fun _ => kk)) ?_
      refine Sx.up (fun _ kk => r_aload_n 104 dX10_advance_103 rfl rfl kk) ?_
      refine Sx.up (fun _ kk => r_getIV (0) 107 dX10_advance_104 rfl f10_19 rfl (by first | with_reducible assumption | with_reducible exact cr_bs hC | rfl) (by first | with_reducible assumption | with_reducible exact cr_bn hC | exact Nat.le_of_ble_eq_true rfl) (by first | (rw [gI_sI, if_pos ⟨rfl, rfl⟩]) | (rw [gI_sI, if_neg (by decide), gI_sI, if_pos ⟨rfl, rfl⟩])) kk) ?_
      refine Sx.up (fun _ kk => r_iconst (2) 108 dX10_advance_107 rfl (by decide) kk) ?_
      refine Sx.up (fun _ kk => r_icmp_ne 111 150 dX10_advance_108 rfl (by decide) (fun _ => kk) (fun h108 => absurd h108 (by decide))) ?_
      refine ⟨_, ?_, r_vret dX10_advance_150 rfl rfl rfl⟩
      refine ⟨_, rfl, ⟨g2, ?_, ?_⟩, tkm_sI (by decide) (tkm_sI (by decide) hm)⟩
      · rw [gI_sI, if_pos ⟨rfl, rfl⟩, hte]
      · rw [gI_sI, if_neg (by decide), gI_sI, if_pos ⟨rfl, rfl⟩, hkd]; rfl
  have k8 : ∀ f j E2, j + f = T.2 → TkM E E2 → gI E2 1282 42 = nI j → runT T 4 j = a → Sx mX10_advance (d + 5) 0 0 (fun o => ∃ E2, o = (.inl none, E2, 137) ∧ TkA E2 T (a) ∧ TkM E E2) 8 [some (.ref 42)] [] E2 137 := by
    intro f
    induction f with
    | zero =>
      intro j E2 hj hm g2 hr
      have hF := tkf_m hm h
      have hlen := hF.2.2.1
      have hja : j = a := by rw [← hr]; exact (runT_n (by omega)).symm
      refine Sx.up (fun _ kk => r_aload_n 9 dX10_advance_8 rfl rfl kk) ?_
      refine Sx.up (fun _ kk => r_getIV (nI j) 12 dX10_advance_9 rfl f10_13 rfl (by first | with_reducible assumption | with_reducible exact cr_bs hC | rfl) (by first | with_reducible assumption | with_reducible exact cr_bn hC | exact Nat.le_of_ble_eq_true rfl) (g2) kk) ?_
      refine Sx.up (fun _ kk => r_aload_n 13 dX10_advance_12 rfl rfl kk) ?_
      refine Sx.up (fun _ kk => r_getIV (nI T.2) 16 dX10_advance_13 rfl f10_7 rfl (by first | with_reducible assumption | with_reducible exact cr_bs hC | rfl) (by first | with_reducible assumption | with_reducible exact cr_bn hC | exact Nat.le_of_ble_eq_true rfl) (hlen) kk) ?_
      refine Sx.up (fun _ kk => r_icmp_ge 19 44 dX10_advance_16 rfl (by decide) (fun _ => kk) (fun h16 => absurd (nI_le (by omega) (by omega)) h16)) ?_
      exact k44 E2 hm (by rw [← hja]; exact g2)
    | succ f ih =>
      intro j E2 hj hm g2 hr
      have hF := tkf_m hm h
      have hlen := hF.2.2.1
      have hka := c_kindAt (d := d) hT hF (show j < T.2 by omega)
      have hc9 := cls_pos (T.1 j)
      by_cases hc : clsT (T.1 j) = 4
      · refine Sx.up (fun _ kk => r_aload_n 9 dX10_advance_8 rfl rfl kk) ?_
        refine Sx.up (fun _ kk => r_getIV (nI j) 12 dX10_advance_9 rfl f10_13 rfl (by first | with_reducible assumption | with_reducible exact cr_bs hC | rfl) (by first | with_reducible assumption | with_reducible exact cr_bn hC | exact Nat.le_of_ble_eq_true rfl) (g2) kk) ?_
        refine Sx.up (fun _ kk => r_aload_n 13 dX10_advance_12 rfl rfl kk) ?_
        refine Sx.up (fun _ kk => r_getIV (nI T.2) 16 dX10_advance_13 rfl f10_7 rfl (by first | with_reducible assumption | with_reducible exact cr_bs hC | rfl) (by first | with_reducible assumption | with_reducible exact cr_bn hC | exact Nat.le_of_ble_eq_true rfl) (hlen) kk) ?_
        refine Sx.up (fun _ kk => r_icmp_ge 19 44 dX10_advance_16 rfl (by decide) (fun h16 => absurd h16 (nI_ge (by omega) (by omega))) (fun _ => kk)) ?_
        refine Sx.up (fun _ kk => r_aload_n 20 dX10_advance_19 rfl rfl kk) ?_
        refine Sx.up (fun _ kk => r_aload_n 21 dX10_advance_20 rfl rfl kk) ?_
        refine Sx.up (fun _ kk => r_getIV (nI j) 24 dX10_advance_21 rfl f10_13 rfl (by first | with_reducible assumption | with_reducible exact cr_bs hC | rfl) (by first | with_reducible assumption | with_reducible exact cr_bn hC | exact Nat.le_of_ble_eq_true rfl) (g2) kk) ?_
        refine Sx.up (fun _ kk => r_callV (M := mX10_advance) (pc := 24) 27 dX10_advance_24 rfl k10_29 hka rfl rfl (by first | with_reducible assumption | with_reducible exact cr_bs hC | rfl) (by decide) rfl (by first | with_reducible assumption | with_reducible exact cr_bn hC | exact Nat.le_of_ble_eq_true rfl) (Nat.le_of_ble_eq_true rfl) kk) ?_
        refine Sx.up (fun _ kk => r_iconst (4) 28 dX10_advance_27 rfl (by decide) kk) ?_
        refine Sx.up (fun _ kk => r_icmp_ne 31 44 dX10_advance_28 rfl (by decide) (fun h28 => absurd h28 (fun z => z (by rw [hc]; rfl))) (fun _ => kk)) ?_
        refine Sx.up (fun _ kk => r_aload_n 32 dX10_advance_31 rfl rfl kk) ?_
        refine Sx.up (fun _ kk => r_dup 33 dX10_advance_32 rfl rfl kk) ?_
        refine Sx.up (fun _ kk => r_getIV (nI j) 36 dX10_advance_33 rfl f10_13 rfl (by first | with_reducible assumption | with_reducible exact cr_bs hC | rfl) (by first | with_reducible assumption | with_reducible exact cr_bn hC | exact Nat.le_of_ble_eq_true rfl) (g2) kk) ?_
        refine Sx.up (fun _ kk => r_iconst (1) 37 dX10_advance_36 rfl (by decide) kk) ?_
        refine Sx.up (fun _ kk => r_iadd 38 dX10_advance_37 rfl kk) ?_
        refine Sx.up (fun _ kk => r_putI 41 dX10_advance_38 rfl f10_13 (by first | with_reducible assumption | with_reducible exact cr_bs hC | rfl) (by first | with_reducible assumption | with_reducible exact cr_bn hC | exact Nat.le_of_ble_eq_true rfl) kk) ?_
        refine Sx.up (fun _ kk => r_goto 8 dX10_advance_41 (by decide) kk) ?_
        refine ih (j + 1) _ (by omega) (tkm_sI (by decide) hm) ?_ ?_
        · rw [gI_sI, if_pos ⟨rfl, rfl⟩, nI_pp]
        · rw [← runT_y (by omega) hc]; exact hr
      · refine Sx.up (fun _ kk => r_aload_n 9 dX10_advance_8 rfl rfl kk) ?_
        refine Sx.up (fun _ kk => r_getIV (nI j) 12 dX10_advance_9 rfl f10_13 rfl (by first | with_reducible assumption | with_reducible exact cr_bs hC | rfl) (by first | with_reducible assumption | with_reducible exact cr_bn hC | exact Nat.le_of_ble_eq_true rfl) (g2) kk) ?_
        refine Sx.up (fun _ kk => r_aload_n 13 dX10_advance_12 rfl rfl kk) ?_
        refine Sx.up (fun _ kk => r_getIV (nI T.2) 16 dX10_advance_13 rfl f10_7 rfl (by first | with_reducible assumption | with_reducible exact cr_bs hC | rfl) (by first | with_reducible assumption | with_reducible exact cr_bn hC | exact Nat.le_of_ble_eq_true rfl) (hlen) kk) ?_
        refine Sx.up (fun _ kk => r_icmp_ge 19 44 dX10_advance_16 rfl (by decide) (fun h16 => absurd h16 (nI_ge (by omega) (by omega))) (fun _ => kk)) ?_
        refine Sx.up (fun _ kk => r_aload_n 20 dX10_advance_19 rfl rfl kk) ?_
        refine Sx.up (fun _ kk => r_aload_n 21 dX10_advance_20 rfl rfl kk) ?_
        refine Sx.up (fun _ kk => r_getIV (nI j) 24 dX10_advance_21 rfl f10_13 rfl (by first | with_reducible assumption | with_reducible exact cr_bs hC | rfl) (by first | with_reducible assumption | with_reducible exact cr_bn hC | exact Nat.le_of_ble_eq_true rfl) (g2) kk) ?_
        refine Sx.up (fun _ kk => r_callV (M := mX10_advance) (pc := 24) 27 dX10_advance_24 rfl k10_29 hka rfl rfl (by first | with_reducible assumption | with_reducible exact cr_bs hC | rfl) (by decide) rfl (by first | with_reducible assumption | with_reducible exact cr_bn hC | exact Nat.le_of_ble_eq_true rfl) (Nat.le_of_ble_eq_true rfl) kk) ?_
        refine Sx.up (fun _ kk => r_iconst (4) 28 dX10_advance_27 rfl (by decide) kk) ?_
        refine Sx.up (fun _ kk => r_icmp_ne 31 44 dX10_advance_28 rfl (by decide) (fun _ => kk) (fun h28 => absurd h28 (fun z => hc ((nI_eq (b := 4) (by omega) (by omega)).mp z)))) ?_
        refine k44 E2 hm ?_
        rw [← hr, runT_n (fun z => hc z.2)]; exact g2
  refine Sx.up (fun _ kk => r_aload_n 1 dX10_advance_0 rfl rfl kk) ?_
  refine Sx.up (fun _ kk => r_aload_n 2 dX10_advance_1 rfl rfl kk) ?_
  refine Sx.up (fun _ kk => r_getIV (nI q) 5 dX10_advance_2 rfl f10_16 rfl (by first | with_reducible assumption | with_reducible exact cr_bs hC | rfl) (by first | with_reducible assumption | with_reducible exact cr_bn hC | exact Nat.le_of_ble_eq_true rfl) (hq) kk) ?_
  refine Sx.up (fun _ kk => r_putI 8 dX10_advance_5 rfl f10_13 (by first | with_reducible assumption | with_reducible exact cr_bs hC | rfl) (by first | with_reducible assumption | with_reducible exact cr_bn hC | exact Nat.le_of_ble_eq_true rfl) kk) ?_
  refine k8 (T.2 - q) q _ (by omega) (tkm_sI (by decide) tkm_rfl) ?_ ha
  rw [gI_sI, if_pos ⟨rfl, rfl⟩]
set_option maxRecDepth 20000 in
theorem tk_stop {d : Nat} {T : TX} {E : HP} (h : TkF E T) : Cl yX10_stop mX10_stop d 0 0 [.ref 42] E 137 (.inl none, sI (sI E 1283 42 (nI T.2)) 1284 42 0, 137) := by
  have hlen := h.2.2.1
  refine Cl.of (by decide) rfl (fun q => by cases q) rfl rfl (Nat.le_of_ble_eq_true rfl) ?_
  show Sm _ _ _ _ _ 0 [some (.ref 42)] [] _ _
  refine r_aload_n 1 dX10_stop_0 rfl rfl ?_
  refine r_aload_n 2 dX10_stop_1 rfl rfl ?_
  refine r_getIV (nI T.2) 5 dX10_stop_2 rfl f10_7 rfl (by first | with_reducible assumption | with_reducible exact cr_bs hC | rfl) (by first | with_reducible assumption | with_reducible exact cr_bn hC | exact Nat.le_of_ble_eq_true rfl) (hlen) ?_
  refine r_putI 8 dX10_stop_5 rfl f10_16 (by first | with_reducible assumption | with_reducible exact cr_bs hC | rfl) (by first | with_reducible assumption | with_reducible exact cr_bn hC | exact Nat.le_of_ble_eq_true rfl) ?_
  refine r_aload_n 9 dX10_stop_8 rfl rfl ?_
  refine r_iconst (0) 10 dX10_stop_9 rfl (by decide) ?_
  refine r_putI 13 dX10_stop_10 rfl f10_19 (by first | with_reducible assumption | with_reducible exact cr_bs hC | rfl) (by first | with_reducible assumption | with_reducible exact cr_bn hC | exact Nat.le_of_ble_eq_true rfl) ?_
  exact r_vret dX10_stop_13 rfl rfl (rfl)
theorem tkd_stop {E : HP} {T : TX} {q : Nat} (hq : q ≤ T.2) (h : gI E 1282 42 = nI q) : TkD (sI (sI E 1283 42 (nI T.2)) 1284 42 0) T ∧ TkM E (sI (sI E 1283 42 (nI T.2)) 1284 42 0) := ⟨⟨q, hq, h, by rw [gI_sI, if_neg (by decide), gI_sI, if_pos ⟨rfl, rfl⟩], by rw [gI_sI, if_pos ⟨rfl, rfl⟩]⟩, tkm_sI (by decide) (tkm_sI (by decide) tkm_rfl)⟩
theorem tka_end {E : HP} {T : TX} (h : TkA E T (toB T T.2)) : TkD E T := by
  have e : toB T T.2 = T.2 := runT_n (by omega)
  rw [e] at h
  have hk : kdT T T.2 = 0 := kd_0 (by omega)
  have ht : toE T T.2 = T.2 := by unfold toE; rw [if_pos hk]
  obtain ⟨h1, h2, h3⟩ := h
  rw [ht] at h2
  rw [hk] at h3
  exact ⟨T.2, Nat.le_refl _, h1, h2, h3⟩
/-- what number() reckons, digits or not -/
def numI (t : Nat → Int32) (a : Nat) : Nat → Int32
  | 0 => 0
  | k + 1 => 10 * numI t a k + t (a + k) - 48
def numV (t : Nat → Int32) (x y : Nat) : Int32 := if 4 < y - x then 10000 else numI t x (y - x)
theorem numI_N {t : Nat → Int32} {a : Nat} : ∀ k, (∀ j, j < k → 48 ≤ t (a + j) ∧ t (a + j) ≤ 57) → numI t a k = nI (numN t a k) := by
  intro k
  induction k with
  | zero => intro _; rfl
  | succ k ih =>
    intro h
    have e := ih (fun j hj => h j (by omega))
    obtain ⟨h1, h2⟩ := h k (by omega)
    show 10 * numI t a k + t (a + k) - 48 = nI (10 * numN t a k + dgT (t (a + k)))
    have hd : t (a + k) - 48 = nI (dgT (t (a + k))) := by
      unfold dgT
      have b1 := Int32.le_iff_toInt_le.mp h1
      have b2 := Int32.le_iff_toInt_le.mp h2
      have c1 : (48 : Int32).toInt = 48 := by decide
      have c2 : (57 : Int32).toInt = 57 := by decide
      rw [c1] at b1
      rw [c2] at b2
      have e9 : ¬ t (a + k) - 48 < 0 := by
        intro z
        have z2 := Int32.lt_iff_toInt_lt.mp z
        rw [Int32.toInt_sub, c1, Int.bmod_eq_of_le (by omega) (by omega)] at z2
        have c0 : (0 : Int32).toInt = 0 := by decide
        omega
      obtain ⟨j, hj, ej⟩ := nI_of e9
      rw [ej, nI_clamp hj]
    rw [e, Int32.sub_eq_add_neg, Int32.add_assoc, ← Int32.sub_eq_add_neg, hd, ← nI_add]
    congr 1
    show nI 10 * nI (numN t a k) = nI (10 * numN t a k)
    exact (Int32.ofNat_mul 10 (numN t a k)).symm
theorem numV_N {T : TX} {a : Nat} (h : kdT T a = 2) : numV T.1 a (toE T a) = nI (numT T a) := by
  unfold numV numT lenT
  by_cases hl : 4 < toE T a - a
  · rw [if_pos hl, if_pos hl]; rfl
  · rw [if_neg hl, if_neg hl]
    exact numI_N _ (num_dig h)
set_option maxRecDepth 20000 in
theorem c_number {d x y : Nat} {T : TX} {E : HP} (hT : TXok T) (h : TkF E T) (hx : gI E 1282 42 = nI x) (hy : gI E 1283 42 = nI y) (hxy : x ≤ y) (hyn : y ≤ T.2) : Cl yX10_number mX10_number (d + 1) 0 0 [.ref 42] E 137 (.inl (some (.int (numV T.1 x y))), E, 137) := by
  have n6 := hT.1
  have hdf : nI y - nI x = nI (y - x) := nI_dif hxy
  refine Cl.of (by decide) rfl (fun q => by cases q) rfl rfl (Nat.le_of_ble_eq_true rfl) ?_
  show Sm _ _ _ _ _ 0 [some (.ref 42), none, none] [] _ _
  by_cases hl : 4 < y - x
  · refine r_aload_n 1 dX10_number_0 rfl rfl ?_
    refine r_getIV (nI y) 4 dX10_number_1 rfl f10_16 rfl (by first | with_reducible assumption | with_reducible exact cr_bs hC | rfl) (by first | with_reducible assumption | with_reducible exact cr_bn hC | exact Nat.le_of_ble_eq_true rfl) (hy) ?_
    refine r_aload_n 5 dX10_number_4 rfl rfl ?_
    refine r_getIV (nI x) 8 dX10_number_5 rfl f10_13 rfl (by first | with_reducible assumption | with_reducible exact cr_bs hC | rfl) (by first | with_reducible assumption | with_reducible exact cr_bn hC | exact Nat.le_of_ble_eq_true rfl) (hx) ?_
    refine r_isub 9 dX10_number_8 rfl ?_
    rw [hdf]
    refine r_iconst (4) 10 dX10_number_9 rfl (by decide) ?_
    refine r_icmp_le 13 17 dX10_number_10 rfl (by decide) (fun h10 => absurd h10 (nI_ge (a := 4) hl (by omega))) (fun h10 => ?_)
    refine r_sipush (10000) 16 dX10_number_13 rfl (by decide) ?_
    exact r_iret dX10_number_16 rfl rfl (out_eq (if_pos hl))
  have loop := loopUp (P := fun k9 => Sm mX10_number (d + 1) 0 0 (.inl (some (.int (numV T.1 x y))), E, 137) 24 [some (.ref 42), some (.int (numI T.1 x k9)), some (.int (nI (x + k9)))] [] E 137) (l := y - x) ?_ ?_
  · refine r_aload_n 1 dX10_number_0 rfl rfl ?_
    refine r_getIV (nI y) 4 dX10_number_1 rfl f10_16 rfl (by first | with_reducible assumption | with_reducible exact cr_bs hC | rfl) (by first | with_reducible assumption | with_reducible exact cr_bn hC | exact Nat.le_of_ble_eq_true rfl) (hy) ?_
    refine r_aload_n 5 dX10_number_4 rfl rfl ?_
    refine r_getIV (nI x) 8 dX10_number_5 rfl f10_13 rfl (by first | with_reducible assumption | with_reducible exact cr_bs hC | rfl) (by first | with_reducible assumption | with_reducible exact cr_bn hC | exact Nat.le_of_ble_eq_true rfl) (hx) ?_
    refine r_isub 9 dX10_number_8 rfl ?_
    rw [hdf]
    refine r_iconst (4) 10 dX10_number_9 rfl (by decide) ?_
    refine r_icmp_le 13 17 dX10_number_10 rfl (by decide) (fun h10 => ?_) (fun h10 => absurd (nI_le (b := 4) (by omega) (by omega)) h10)
    refine r_iconst (0) 18 dX10_number_17 rfl (by decide) ?_
    refine r_istore_n 19 dX10_number_18 rfl (by decide) rfl ?_
    refine r_aload_n 20 dX10_number_19 rfl rfl ?_
    refine r_getIV (nI x) 23 dX10_number_20 rfl f10_13 rfl (by first | with_reducible assumption | with_reducible exact cr_bs hC | rfl) (by first | with_reducible assumption | with_reducible exact cr_bn hC | exact Nat.le_of_ble_eq_true rfl) (hx) ?_
    refine r_istore_n 24 dX10_number_23 rfl (by decide) rfl ?_
    exact loop
  · show Sm _ _ _ _ _ 24 _ _ _ _
    refine r_iload_n 25 dX10_number_24 rfl rfl ?_
    refine r_aload_n 26 dX10_number_25 rfl rfl ?_
    refine r_getIV (nI y) 29 dX10_number_26 rfl f10_16 rfl (by first | with_reducible assumption | with_reducible exact cr_bs hC | rfl) (by first | with_reducible assumption | with_reducible exact cr_bn hC | exact Nat.le_of_ble_eq_true rfl) (hy) ?_
    refine r_icmp_ge 32 55 dX10_number_29 rfl (by decide) (fun h29 => ?_) (fun h29 => absurd (nI_le (by omega) (by omega)) h29)
    refine r_iload_n 56 dX10_number_55 rfl rfl ?_
    exact r_iret dX10_number_56 rfl rfl (out_eq (if_neg hl))
  · intro k9 hk9 hq
    show Sm _ _ _ _ _ 24 _ _ _ _
    have hat := c_X6_at (d := d) (i := nI (x + k9)) h.2.1
    rw [tk_at hT h (by omega)] at hat
    refine r_iload_n 25 dX10_number_24 rfl rfl ?_
    refine r_aload_n 26 dX10_number_25 rfl rfl ?_
    refine r_getIV (nI y) 29 dX10_number_26 rfl f10_16 rfl (by first | with_reducible assumption | with_reducible exact cr_bs hC | rfl) (by first | with_reducible assumption | with_reducible exact cr_bn hC | exact Nat.le_of_ble_eq_true rfl) (hy) ?_
    refine r_icmp_ge 32 55 dX10_number_29 rfl (by decide) (fun h29 => absurd h29 (nI_ge (by omega) (by omega))) (fun h29 => ?_)
    refine r_bipush (10) 34 dX10_number_32 rfl (by decide) ?_
    refine r_iload_n 35 dX10_number_34 rfl rfl ?_
    refine r_imul 36 dX10_number_35 rfl ?_
    refine r_aload_n 37 dX10_number_36 rfl rfl ?_
    refine r_getR 40 dX10_number_37 rfl f10_22 rfl (by first | with_reducible assumption | with_reducible exact cr_bs hC | rfl) (by first | with_reducible assumption | with_reducible exact cr_bn hC | exact Nat.le_of_ble_eq_true rfl) (h.1) ?_
    refine r_iload_n 41 dX10_number_40 rfl rfl ?_
    refine r_callV (M := mX10_number) (pc := 41) 44 dX10_number_41 rfl k10_33 hat rfl rfl (by first | with_reducible assumption | with_reducible exact cr_bs hC | rfl) (by decide) rfl (by first | with_reducible assumption | with_reducible exact cr_bn hC | exact Nat.le_of_ble_eq_true rfl) (Nat.le_of_ble_eq_true rfl) ?_
    refine r_iadd 45 dX10_number_44 rfl ?_
    refine r_bipush (48) 47 dX10_number_45 rfl (by decide) ?_
    refine r_isub 48 dX10_number_47 rfl ?_
    refine r_istore_n 49 dX10_number_48 rfl (by decide) rfl ?_
    refine r_iinc (1) 52 dX10_number_49 rfl rfl (by decide) (by decide) rfl ?_
    refine r_goto 24 dX10_number_52 (by decide) ?_
    rw [nI_pp]
    exact hq
set_option maxRecDepth 20000 in
theorem c_isNumL {d a : Nat} {lo hi : Int32} {T : TX} {E : HP} (hT : TXok T) (h : TkF E T) (ha : TkA E T a) (han : a ≤ T.2) : Cl yX10_isNumberWithin mX10_isNumberWithin (d + 2) 0 0 [.ref 42, .int lo, .int hi] E 137 (.inl (some (.int (b01 (kdT T a = 2 ∧ ¬ nI (numT T a) < lo ∧ ¬ hi < nI (numT T a))))), E, 137) := by
  obtain ⟨g2, g3, g4⟩ := id ha
  have te := toE_le (T := T) (a := a)
  have kl := kd_le T a
  have hnu := c_number (d := d) hT h g2 g3 te.1 (te.2.1 han)
  refine Cl.of (by decide) rfl (fun q => by cases q) rfl rfl (Nat.le_of_ble_eq_true rfl) ?_
  show Sm _ _ _ _ _ 0 [some (.ref 42), some (.int (lo)), some (.int (hi))] [] _ _
  by_cases hk : kdT T a = 2
  · rw [numV_N hk] at hnu
    refine r_aload_n 1 dX10_isNumberWithin_0 rfl rfl ?_
    refine r_getIV (nI (kdT T a)) 4 dX10_isNumberWithin_1 rfl f10_19 rfl (by first | with_reducible assumption | with_reducible exact cr_bs hC | rfl) (by first | with_reducible assumption | with_reducible exact cr_bn hC | exact Nat.le_of_ble_eq_true rfl) (g4) ?_
    refine r_iconst (2) 5 dX10_isNumberWithin_4 rfl (by decide) ?_
    refine r_icmp_ne 8 28 dX10_isNumberWithin_5 rfl (by decide) (fun h5 => absurd h5 (fun z => z (by rw [hk]; rfl))) (fun h5 => ?_)
    refine r_aload_n 9 dX10_isNumberWithin_8 rfl rfl ?_
    refine r_callV (M := mX10_isNumberWithin) (pc := 9) 12 dX10_isNumberWithin_9 rfl k10_51 hnu rfl rfl (by first | with_reducible assumption | with_reducible exact cr_bs hC | rfl) (by decide) rfl (by first | with_reducible assumption | with_reducible exact cr_bn hC | exact Nat.le_of_ble_eq_true rfl) (Nat.le_of_ble_eq_true rfl) ?_
    refine r_iload_n 13 dX10_isNumberWithin_12 rfl rfl ?_
    refine r_icmp_lt 16 28 dX10_isNumberWithin_13 rfl (by decide) (fun h13 => ?_) (fun h13 => ?_)
    · refine r_iconst (0) 29 dX10_isNumberWithin_28 rfl (by decide) ?_
      exact r_zret dX10_isNumberWithin_29 rfl rfl (by decide) (out_eq (by first | exact b01_f (fun z => z.2.1 h13) | exact b01_f (fun z => z.2.2 h21) | exact b01_t ⟨hk, h13, h21⟩))
    · refine r_aload_n 17 dX10_isNumberWithin_16 rfl rfl ?_
      refine r_callV (M := mX10_isNumberWithin) (pc := 17) 20 dX10_isNumberWithin_17 rfl k10_51 hnu rfl rfl (by first | with_reducible assumption | with_reducible exact cr_bs hC | rfl) (by decide) rfl (by first | with_reducible assumption | with_reducible exact cr_bn hC | exact Nat.le_of_ble_eq_true rfl) (Nat.le_of_ble_eq_true rfl) ?_
      refine r_iload_n 21 dX10_isNumberWithin_20 rfl rfl ?_
      refine r_icmp_gt 24 28 dX10_isNumberWithin_21 rfl (by decide) (fun h21 => ?_) (fun h21 => ?_)
      · refine r_iconst (0) 29 dX10_isNumberWithin_28 rfl (by decide) ?_
        exact r_zret dX10_isNumberWithin_29 rfl rfl (by decide) (out_eq (by first | exact b01_f (fun z => z.2.1 h13) | exact b01_f (fun z => z.2.2 h21) | exact b01_t ⟨hk, h13, h21⟩))
      · refine r_iconst (1) 25 dX10_isNumberWithin_24 rfl (by decide) ?_
        refine r_goto 29 dX10_isNumberWithin_25 (by decide) ?_
        exact r_zret dX10_isNumberWithin_29 rfl rfl (by decide) (out_eq (by first | exact b01_f (fun z => z.2.1 h13) | exact b01_f (fun z => z.2.2 h21) | exact b01_t ⟨hk, h13, h21⟩))
  · refine r_aload_n 1 dX10_isNumberWithin_0 rfl rfl ?_
    refine r_getIV (nI (kdT T a)) 4 dX10_isNumberWithin_1 rfl f10_19 rfl (by first | with_reducible assumption | with_reducible exact cr_bs hC | rfl) (by first | with_reducible assumption | with_reducible exact cr_bn hC | exact Nat.le_of_ble_eq_true rfl) (g4) ?_
    refine r_iconst (2) 5 dX10_isNumberWithin_4 rfl (by decide) ?_
    refine r_icmp_ne 8 28 dX10_isNumberWithin_5 rfl (by decide) (fun h5 => ?_) (fun h5 => absurd h5 (fun z => hk ((nI_eq (b := 2) (by omega) (by omega)).mp z)))
    refine r_iconst (0) 29 dX10_isNumberWithin_28 rfl (by decide) ?_
    exact r_zret dX10_isNumberWithin_29 rfl rfl (by decide) (out_eq (b01_f (fun z => hk z.1)))
set_option maxRecDepth 20000 in
theorem c_isNumD {d : Nat} {lo hi : Int32} {T : TX} {E : HP} (hT : TXok T) (h : TkF E T) (hD : TkD E T) : Cl yX10_isNumberWithin mX10_isNumberWithin (d + 2) 0 0 [.ref 42, .int lo, .int hi] E 137 (.inl (some (.int (0))), E, 137) := by
  obtain ⟨q, -, -, -, g4⟩ := hD
  refine Cl.of (by decide) rfl (fun q => by cases q) rfl rfl (Nat.le_of_ble_eq_true rfl) ?_
  show Sm _ _ _ _ _ 0 [some (.ref 42), some (.int (lo)), some (.int (hi))] [] _ _
  refine r_aload_n 1 dX10_isNumberWithin_0 rfl rfl ?_
  refine r_getIV (0) 4 dX10_isNumberWithin_1 rfl f10_19 rfl (by first | with_reducible assumption | with_reducible exact cr_bs hC | rfl) (by first | with_reducible assumption | with_reducible exact cr_bn hC | exact Nat.le_of_ble_eq_true rfl) (g4) ?_
  refine r_iconst (2) 5 dX10_isNumberWithin_4 rfl (by decide) ?_
  refine r_icmp_ne 8 28 dX10_isNumberWithin_5 rfl (by decide) (fun h5 => ?_) (fun h5 => absurd h5 (by decide))
  refine r_iconst (0) 29 dX10_isNumberWithin_28 rfl (by decide) ?_
  exact r_zret dX10_isNumberWithin_29 rfl rfl (by decide) (rfl)
set_option maxRecDepth 20000 in
theorem c_isSignL {d a : Nat} {c : Int32} {T : TX} {E : HP} (hT : TXok T) (h : TkF E T) (ha : TkA E T a) : Cl yX10_isSign mX10_isSign (d + 1) 0 0 [.ref 42, .int c] E 137 (.inl (some (.int (bI (isS T a c)))), E, 137) := by
  obtain ⟨g2, g3, g4⟩ := id ha
  have kl := kd_le T a
  refine Cl.of (by decide) rfl (fun q => by cases q) rfl rfl (Nat.le_of_ble_eq_true rfl) ?_
  show Sm _ _ _ _ _ 0 [some (.ref 42), some (.int (c))] [] _ _
  by_cases hk : kdT T a = 3
  · have hat := c_X6_at (d := d) (i := nI a) h.2.1
    rw [tk_at hT h (kd_ne (by omega))] at hat
    refine r_aload_n 1 dX10_isSign_0 rfl rfl ?_
    refine r_getIV (nI (kdT T a)) 4 dX10_isSign_1 rfl f10_19 rfl (by first | with_reducible assumption | with_reducible exact cr_bs hC | rfl) (by first | with_reducible assumption | with_reducible exact cr_bn hC | exact Nat.le_of_ble_eq_true rfl) (g4) ?_
    refine r_iconst (3) 5 dX10_isSign_4 rfl (by decide) ?_
    refine r_icmp_ne 8 27 dX10_isSign_5 rfl (by decide) (fun h5 => absurd h5 (fun z => z (by rw [hk]; rfl))) (fun h5 => ?_)
    refine r_aload_n 9 dX10_isSign_8 rfl rfl ?_
    refine r_getR 12 dX10_isSign_9 rfl f10_22 rfl (by first | with_reducible assumption | with_reducible exact cr_bs hC | rfl) (by first | with_reducible assumption | with_reducible exact cr_bn hC | exact Nat.le_of_ble_eq_true rfl) (h.1) ?_
    refine r_aload_n 13 dX10_isSign_12 rfl rfl ?_
    refine r_getIV (nI a) 16 dX10_isSign_13 rfl f10_13 rfl (by first | with_reducible assumption | with_reducible exact cr_bs hC | rfl) (by first | with_reducible assumption | with_reducible exact cr_bn hC | exact Nat.le_of_ble_eq_true rfl) (g2) ?_
    refine r_callV (M := mX10_isSign) (pc := 16) 19 dX10_isSign_16 rfl k10_33 hat rfl rfl (by first | with_reducible assumption | with_reducible exact cr_bs hC | rfl) (by decide) rfl (by first | with_reducible assumption | with_reducible exact cr_bn hC | exact Nat.le_of_ble_eq_true rfl) (Nat.le_of_ble_eq_true rfl) ?_
    refine r_iload_n 20 dX10_isSign_19 rfl rfl ?_
    refine r_icmp_ne 23 27 dX10_isSign_20 rfl (by decide) (fun h20 => ?_) (fun h20 => ?_)
    · refine r_iconst (0) 28 dX10_isSign_27 rfl (by decide) ?_
      exact r_zret dX10_isSign_28 rfl rfl (by decide) (out_eq (by first | exact bI_f (fun z => h20 (of_decide_eq_true z).2) | exact bI_t (decide_eq_true ⟨hk, h20⟩)))
    · refine r_iconst (1) 24 dX10_isSign_23 rfl (by decide) ?_
      refine r_goto 28 dX10_isSign_24 (by decide) ?_
      exact r_zret dX10_isSign_28 rfl rfl (by decide) (out_eq (by first | exact bI_f (fun z => h20 (of_decide_eq_true z).2) | exact bI_t (decide_eq_true ⟨hk, h20⟩)))
  · refine r_aload_n 1 dX10_isSign_0 rfl rfl ?_
    refine r_getIV (nI (kdT T a)) 4 dX10_isSign_1 rfl f10_19 rfl (by first | with_reducible assumption | with_reducible exact cr_bs hC | rfl) (by first | with_reducible assumption | with_reducible exact cr_bn hC | exact Nat.le_of_ble_eq_true rfl) (g4) ?_
    refine r_iconst (3) 5 dX10_isSign_4 rfl (by decide) ?_
    refine r_icmp_ne 8 27 dX10_isSign_5 rfl (by decide) (fun h5 => ?_) (fun h5 => absurd h5 (fun z => hk ((nI_eq (b := 3) (by omega) (by omega)).mp z)))
    refine r_iconst (0) 28 dX10_isSign_27 rfl (by decide) ?_
    exact r_zret dX10_isSign_28 rfl rfl (by decide) (out_eq (bI_f (fun z => hk (of_decide_eq_true z).1)))
set_option maxRecDepth 20000 in
theorem c_isSignD {d : Nat} {c : Int32} {T : TX} {E : HP} (hT : TXok T) (h : TkF E T) (hD : TkD E T) : Cl yX10_isSign mX10_isSign (d + 1) 0 0 [.ref 42, .int c] E 137 (.inl (some (.int (0))), E, 137) := by
  obtain ⟨q, -, -, -, g4⟩ := hD
  refine Cl.of (by decide) rfl (fun q => by cases q) rfl rfl (Nat.le_of_ble_eq_true rfl) ?_
  show Sm _ _ _ _ _ 0 [some (.ref 42), some (.int (c))] [] _ _
  refine r_aload_n 1 dX10_isSign_0 rfl rfl ?_
  refine r_getIV (0) 4 dX10_isSign_1 rfl f10_19 rfl (by first | with_reducible assumption | with_reducible exact cr_bs hC | rfl) (by first | with_reducible assumption | with_reducible exact cr_bn hC | exact Nat.le_of_ble_eq_true rfl) (g4) ?_
  refine r_iconst (3) 5 dX10_isSign_4 rfl (by decide) ?_
  refine r_icmp_ne 8 27 dX10_isSign_5 rfl (by decide) (fun h5 => ?_) (fun h5 => absurd h5 (by decide))
  refine r_iconst (0) 28 dX10_isSign_27 rfl (by decide) ?_
  exact r_zret dX10_isSign_28 rfl rfl (by decide) (rfl)
set_option maxRecDepth 20000 in
theorem c_isWordD {d i : Nat} {q : String × Nat × String × List Int32} {T : TX} {E : HP} (hT : TXok T) (h : TkF E T) (hD : TkD E T) : Cl yX10_isWord mX10_isWord (d + 4) 0 0 [.ref 42, .ref (1000 + i)] E 137 (.inl (some (.int 0)), E, 137) := by
  obtain ⟨q9, -, -, -, g4⟩ := hD
  refine Cl.of (by decide) rfl (fun q => by cases q) rfl rfl (Nat.le_of_ble_eq_true rfl) ?_
  show Sm _ _ _ _ _ 0 [some (.ref 42), some (.ref (1000 + i)), none] [] _ _
  refine r_aload_n 1 dX10_isWord_0 rfl rfl ?_
  refine r_getIV (0) 4 dX10_isWord_1 rfl f10_19 rfl (by first | with_reducible assumption | with_reducible exact cr_bs hC | rfl) (by first | with_reducible assumption | with_reducible exact cr_bn hC | exact Nat.le_of_ble_eq_true rfl) (g4) ?_
  refine r_iconst (1) 5 dX10_isWord_4 rfl (by decide) ?_
  refine r_icmp_ne 8 24 dX10_isWord_5 rfl (by decide) (fun h5 => ?_) (fun h5 => absurd h5 (by decide))
  refine r_iconst (0) 25 dX10_isWord_24 rfl (by decide) ?_
  exact r_zret dX10_isWord_25 rfl rfl (by decide) (rfl)
set_option maxRecDepth 20000 in
theorem c_isWordL {d a i : Nat} {q : String × Nat × String × List Int32} {T : TX} {E : HP} (hT : TXok T) (h : TkF E T) (ha : TkA E T a) (hq : stL[i]? = some q) : Cl yX10_isWord mX10_isWord (d + 4) 0 0 [.ref 42, .ref (1000 + i)] E 137 (.inl (some (.int (bI (isW T a q.2.2.2)))), E, 137) := by
  obtain ⟨g2, g3, g4⟩ := id ha
  have kl := kd_le T a
  have n6 := hT.1
  have hl9 := st_len hq
  have hsl := c_slen (d := d + 2) (n := 137) (E := E) hq
  refine Cl.of (by decide) rfl (fun q => by cases q) rfl rfl (Nat.le_of_ble_eq_true rfl) ?_
  show Sm _ _ _ _ _ 0 [some (.ref 42), some (.ref (1000 + i)), none] [] _ _
  by_cases hk : kdT T a = 1
  · have te := toE_le (T := T) (a := a)
    have hal := kd_ne (T := T) (a := a) (by omega)
    have hte := te.2.1 (by omega)
    have hdf : nI (toE T a) - nI a = nI (lenT T a) := nI_dif te.1
    have hle : lenT T a ≤ 600 := by unfold lenT; omega
    by_cases hl : lenT T a = q.2.2.2.length
    · have loop := loopUp (P := fun k9 => (∀ j, j < k9 → T.1 (a + j) = q.2.2.2.getD j 0) → Sm mX10_isWord (d + 4) 0 0 (.inl (some (.int (bI (isW T a q.2.2.2)))), E, 137) 28 [some (.ref 42), some (.ref (1000 + i)), some (.int (nI k9))] [] E 137) (l := q.2.2.2.length) ?_ ?_
      · refine r_aload_n 1 dX10_isWord_0 rfl rfl ?_
        refine r_getIV (nI (kdT T a)) 4 dX10_isWord_1 rfl f10_19 rfl (by first | with_reducible assumption | with_reducible exact cr_bs hC | rfl) (by first | with_reducible assumption | with_reducible exact cr_bn hC | exact Nat.le_of_ble_eq_true rfl) (g4) ?_
        refine r_iconst (1) 5 dX10_isWord_4 rfl (by decide) ?_
        refine r_icmp_ne 8 24 dX10_isWord_5 rfl (by decide) (fun h5 => absurd h5 (fun z => z (by rw [hk]; rfl))) (fun h5 => ?_)
        refine r_aload_n 9 dX10_isWord_8 rfl rfl ?_
        refine r_getIV (nI (toE T a)) 12 dX10_isWord_9 rfl f10_16 rfl (by first | with_reducible assumption | with_reducible exact cr_bs hC | rfl) (by first | with_reducible assumption | with_reducible exact cr_bn hC | exact Nat.le_of_ble_eq_true rfl) (g3) ?_
        refine r_aload_n 13 dX10_isWord_12 rfl rfl ?_
        refine r_getIV (nI a) 16 dX10_isWord_13 rfl f10_13 rfl (by first | with_reducible assumption | with_reducible exact cr_bs hC | rfl) (by first | with_reducible assumption | with_reducible exact cr_bn hC | exact Nat.le_of_ble_eq_true rfl) (g2) ?_
        refine r_isub 17 dX10_isWord_16 rfl ?_
        refine r_aload_n 18 dX10_isWord_17 rfl rfl ?_
        rw [hdf]
        refine r_callVS (M := mX10_isWord) (pc := 18) 21 dX10_isWord_18 rfl k10_44 hsl rfl rfl hq rfl (Nat.le_of_ble_eq_true rfl) ?_
        refine r_icmp_eq 24 26 dX10_isWord_21 rfl (by decide) (fun h21 => ?_) (fun h21 => absurd (by rw [hl]) h21)
        refine r_iconst (0) 27 dX10_isWord_26 rfl (by decide) ?_
        refine r_istore_n 28 dX10_isWord_27 rfl (by decide) rfl ?_
        exact loop (fun j hj => absurd hj (Nat.not_lt_zero j))
      · intro hall
        show Sm _ _ _ _ _ 28 _ _ _ _
        refine r_iload_n 29 dX10_isWord_28 rfl rfl ?_
        refine r_aload_n 30 dX10_isWord_29 rfl rfl ?_
        refine r_callVS (M := mX10_isWord) (pc := 30) 33 dX10_isWord_30 rfl k10_44 hsl rfl rfl hq rfl (Nat.le_of_ble_eq_true rfl) ?_
        refine r_icmp_ge 36 65 dX10_isWord_33 rfl (by decide) (fun h33 => ?_) (fun h33 => absurd (nI_le (Nat.le_refl _) (by omega)) h33)
        refine r_iconst (1) 66 dX10_isWord_65 rfl (by decide) ?_
        exact r_zret dX10_isWord_66 rfl rfl (by decide) (out_eq (bI_t (by unfold isW; rw [Bool.and_eq_true, decide_eq_true_eq, List.all_eq_true]; exact ⟨⟨hk, hl⟩, fun j hj => decide_eq_true (hall j (List.mem_range.mp hj))⟩)))
      · intro k9 hk9 hgo hall
        show Sm _ _ _ _ _ 28 _ _ _ _
        have hat := c_X6_at (d := d + 3) (i := nI (a + k9)) h.2.1
        rw [tk_at hT h (by unfold lenT at hl; omega), ← nI_add] at hat
        have hch := c_chr (d := d) (n := 137) (E := E) (k := k9) hq hk9
        refine r_iload_n 29 dX10_isWord_28 rfl rfl ?_
        refine r_aload_n 30 dX10_isWord_29 rfl rfl ?_
        refine r_callVS (M := mX10_isWord) (pc := 30) 33 dX10_isWord_30 rfl k10_44 hsl rfl rfl hq rfl (Nat.le_of_ble_eq_true rfl) ?_
        refine r_icmp_ge 36 65 dX10_isWord_33 rfl (by decide) (fun h33 => absurd h33 (nI_ge hk9 (by omega))) (fun h33 => ?_)
        refine r_aload_n 37 dX10_isWord_36 rfl rfl ?_
        refine r_getR 40 dX10_isWord_37 rfl f10_22 rfl (by first | with_reducible assumption | with_reducible exact cr_bs hC | rfl) (by first | with_reducible assumption | with_reducible exact cr_bn hC | exact Nat.le_of_ble_eq_true rfl) (h.1) ?_
        refine r_aload_n 41 dX10_isWord_40 rfl rfl ?_
        refine r_getIV (nI a) 44 dX10_isWord_41 rfl f10_13 rfl (by first | with_reducible assumption | with_reducible exact cr_bs hC | rfl) (by first | with_reducible assumption | with_reducible exact cr_bn hC | exact Nat.le_of_ble_eq_true rfl) (g2) ?_
        refine r_iload_n 45 dX10_isWord_44 rfl rfl ?_
        refine r_iadd 46 dX10_isWord_45 rfl ?_
        refine r_callV (M := mX10_isWord) (pc := 46) 49 dX10_isWord_46 rfl k10_33 hat rfl rfl (by first | with_reducible assumption | with_reducible exact cr_bs hC | rfl) (by decide) rfl (by first | with_reducible assumption | with_reducible exact cr_bn hC | exact Nat.le_of_ble_eq_true rfl) (Nat.le_of_ble_eq_true rfl) ?_
        refine r_aload_n 50 dX10_isWord_49 rfl rfl ?_
        refine r_iload_n 51 dX10_isWord_50 rfl rfl ?_
        refine r_callVS (M := mX10_isWord) (pc := 51) 54 dX10_isWord_51 rfl k10_47 hch rfl rfl hq rfl (Nat.le_of_ble_eq_true rfl) ?_
        refine r_icmp_eq 57 59 dX10_isWord_54 rfl (by decide) (fun h54 => ?_) (fun h54 => ?_)
        · refine r_iinc (1) 62 dX10_isWord_59 rfl rfl (by decide) (by decide) rfl ?_
          refine r_goto 28 dX10_isWord_62 (by decide) ?_
          rw [nI_pp]
          refine hgo (fun j hj => ?_)
          rcases Nat.lt_or_ge j k9 with z | z
          · exact hall j z
          · rw [show j = k9 by omega]; exact h54
        · refine r_iconst (0) 58 dX10_isWord_57 rfl (by decide) ?_
          exact r_zret dX10_isWord_58 rfl rfl (by decide) (out_eq (bI_f (fun z => h54 (by unfold isW at z; rw [Bool.and_eq_true, List.all_eq_true] at z; exact of_decide_eq_true (z.2 k9 (List.mem_range.mpr hk9))))))
    · refine r_aload_n 1 dX10_isWord_0 rfl rfl ?_
      refine r_getIV (nI (kdT T a)) 4 dX10_isWord_1 rfl f10_19 rfl (by first | with_reducible assumption | with_reducible exact cr_bs hC | rfl) (by first | with_reducible assumption | with_reducible exact cr_bn hC | exact Nat.le_of_ble_eq_true rfl) (g4) ?_
      refine r_iconst (1) 5 dX10_isWord_4 rfl (by decide) ?_
      refine r_icmp_ne 8 24 dX10_isWord_5 rfl (by decide) (fun h5 => absurd h5 (fun z => z (by rw [hk]; rfl))) (fun h5 => ?_)
      refine r_aload_n 9 dX10_isWord_8 rfl rfl ?_
      refine r_getIV (nI (toE T a)) 12 dX10_isWord_9 rfl f10_16 rfl (by first | with_reducible assumption | with_reducible exact cr_bs hC | rfl) (by first | with_reducible assumption | with_reducible exact cr_bn hC | exact Nat.le_of_ble_eq_true rfl) (g3) ?_
      refine r_aload_n 13 dX10_isWord_12 rfl rfl ?_
      refine r_getIV (nI a) 16 dX10_isWord_13 rfl f10_13 rfl (by first | with_reducible assumption | with_reducible exact cr_bs hC | rfl) (by first | with_reducible assumption | with_reducible exact cr_bn hC | exact Nat.le_of_ble_eq_true rfl) (g2) ?_
      refine r_isub 17 dX10_isWord_16 rfl ?_
      refine r_aload_n 18 dX10_isWord_17 rfl rfl ?_
      rw [hdf]
      refine r_callVS (M := mX10_isWord) (pc := 18) 21 dX10_isWord_18 rfl k10_44 hsl rfl rfl hq rfl (Nat.le_of_ble_eq_true rfl) ?_
      refine r_icmp_eq 24 26 dX10_isWord_21 rfl (by decide) (fun h21 => absurd h21 (fun z => hl ((nI_eq (by omega) (by omega)).mp z))) (fun h21 => ?_)
      refine r_iconst (0) 25 dX10_isWord_24 rfl (by decide) ?_
      exact r_zret dX10_isWord_25 rfl rfl (by decide) (out_eq (bI_f (fun z => hl (by unfold isW at z; rw [Bool.and_eq_true, decide_eq_true_eq] at z; exact z.1.2))))
  · refine r_aload_n 1 dX10_isWord_0 rfl rfl ?_
    refine r_getIV (nI (kdT T a)) 4 dX10_isWord_1 rfl f10_19 rfl (by first | with_reducible assumption | with_reducible exact cr_bs hC | rfl) (by first | with_reducible assumption | with_reducible exact cr_bn hC | exact Nat.le_of_ble_eq_true rfl) (g4) ?_
    refine r_iconst (1) 5 dX10_isWord_4 rfl (by decide) ?_
    refine r_icmp_ne 8 24 dX10_isWord_5 rfl (by decide) (fun h5 => ?_) (fun h5 => absurd h5 (fun z => hk ((nI_eq (b := 1) (by omega) (by omega)).mp z)))
    refine r_iconst (0) 25 dX10_isWord_24 rfl (by decide) ?_
    exact r_zret dX10_isWord_25 rfl rfl (by decide) (out_eq (bI_f (fun z => hk (isW_kd z))))
set_option maxRecDepth 20000 in
theorem tk_start {d : Nat} {T : TX} {E : HP} (hT : TXok T) (hr : RowOK E 137 1 600) (ht : ∀ i, i < T.2 → gA E 2 i = T.1 i) : ∃ o, (∃ E2, o = (.inl none, E2, 137) ∧ TkF E2 T ∧ TkA E2 T (toB T 0) ∧ Fr (fun k => k = 42) E E2 ∧ (∀ g k, ¬ (g = 1280 ∧ k = 42) → gR E2 g k = gR E g k) ∧ gQ E2 = gQ E) ∧ Cl yX10_start mX10_start (d + 6) 0 0 [.ref 42, .ref 1, .int (nI T.2)] E 137 o := by
  obtain ⟨E1, hE1⟩ : ∃ E1, sI (sI (sR E 1280 42 (some 1)) 1281 42 (nI T.2)) 1283 42 0 = E1 := ⟨_, rfl⟩
  have hF : TkF E1 T := by
    subst hE1
    exact ⟨by rw [gR_sI, gR_sI, gR_sR, if_pos ⟨rfl, rfl⟩], ⟨hr.1, by rw [gR_sI, gR_sI, gR_sR, if_neg (by decide)]; exact hr.2.1, hr.2.2⟩, by rw [gI_sI, if_neg (by decide), gI_sI, if_pos ⟨rfl, rfl⟩], ht⟩
  have hb : gI E1 1283 42 = nI 0 := by subst hE1; rw [gI_sI, if_pos ⟨rfl, rfl⟩]; rfl
  have hf1 : Fr (fun k => k = 42) E E1 := by subst hE1; exact fr_sI rfl (fr_sI rfl (fr_sR rfl fr_rfl))
  have hr1 : ∀ g k, ¬ (g = 1280 ∧ k = 42) → gR E1 g k = gR E g k := by
    intro g k z
    subst hE1
    rw [gR_sI, gR_sI, gR_sR, if_neg z]
  have hq1 : gQ E1 = gQ E := by subst hE1; rfl
  obtain ⟨_, ⟨E2, rfl, hA, hm⟩, hcl⟩ := tk_adv (d := d) hT hF hb (Nat.zero_le _)
  refine ⟨_, ⟨E2, rfl, tkf_m hm hF, hA, fr_tr hf1 hm.1, fun g k z => ?_, ?_⟩, ?_⟩
  · have := hr1 g k z
    unfold gR at this ⊢
    rw [hm.2.1.1]
    exact this
  · rw [← hq1]
    unfold gQ
    rw [hm.2.1.2]
  refine Cl.of (by decide) rfl (fun q => by cases q) rfl rfl (Nat.le_of_ble_eq_true rfl) ?_
  show Sm _ _ _ _ _ 0 [some (.ref 42), some (.ref 1), some (.int (nI T.2))] [] _ _
  refine r_aload_n 1 dX10_start_0 rfl rfl ?_
  refine r_aload_n 2 dX10_start_1 rfl rfl ?_
  refine r_putR 5 dX10_start_2 rfl f10_22 rfl (Or.inl rfl) (by first | with_reducible assumption | with_reducible exact cr_bs hC | rfl) (by first | with_reducible assumption | with_reducible exact cr_bn hC | exact Nat.le_of_ble_eq_true rfl) ?_
  refine r_aload_n 6 dX10_start_5 rfl rfl ?_
  refine r_iload_n 7 dX10_start_6 rfl rfl ?_
  refine r_putI 10 dX10_start_7 rfl f10_7 (by first | with_reducible assumption | with_reducible exact cr_bs hC | rfl) (by first | with_reducible assumption | with_reducible exact cr_bn hC | exact Nat.le_of_ble_eq_true rfl) ?_
  refine r_aload_n 11 dX10_start_10 rfl rfl ?_
  refine r_iconst (0) 12 dX10_start_11 rfl (by decide) ?_
  refine r_putI 15 dX10_start_12 rfl f10_16 (by first | with_reducible assumption | with_reducible exact cr_bs hC | rfl) (by first | with_reducible assumption | with_reducible exact cr_bn hC | exact Nat.le_of_ble_eq_true rfl) ?_
  rw [hE1]
  refine r_aload_n 16 dX10_start_15 rfl rfl ?_
  refine r_callV (M := mX10_start) (pc := 16) 19 dX10_start_16 rfl k10_26 hcl rfl rfl (by first | with_reducible assumption | with_reducible exact cr_bs hC | rfl) (by decide) rfl (by first | with_reducible assumption | with_reducible exact cr_bn hC | exact Nat.le_of_ble_eq_true rfl) (Nat.le_of_ble_eq_true rfl) ?_
  exact r_vret dX10_start_19 rfl rfl (rfl)
