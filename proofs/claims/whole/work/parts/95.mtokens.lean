/-! The tokens, as the model reads them -/
theorem cls_1 (x : Int32) : clsT x = 1 ↔ 97 ≤ x ∧ x ≤ 122 := by
  unfold clsT
  by_cases h : 97 ≤ x ∧ x ≤ 122
  · rw [if_pos h]; exact ⟨fun _ => h, fun _ => rfl⟩
  · rw [if_neg h]
    refine ⟨fun z => ?_, fun z => absurd z h⟩
    split at z
    · omega
    · split at z
      · omega
      · split at z <;> omega
theorem cls_d (x : Int32) : clsT x = 2 ↔ 48 ≤ x ∧ x ≤ 57 := by
  unfold clsT
  by_cases h : 97 ≤ x ∧ x ≤ 122
  · rw [if_pos h]
    exact ⟨fun z => by omega, fun z => absurd (Int32.le_trans h.1 z.2) (by decide)⟩
  · rw [if_neg h]
    by_cases h2 : 48 ≤ x ∧ x ≤ 57
    · rw [if_pos h2]; exact ⟨fun _ => h2, fun _ => rfl⟩
    · rw [if_neg h2]
      refine ⟨fun z => ?_, fun z => absurd z h2⟩
      split at z
      · omega
      · split at z <;> omega
theorem cls_b (x : Int32) : clsT x = 4 ↔ x = 32 ∨ x = 10 := by
  constructor
  · intro h
    unfold clsT at h
    split at h
    · omega
    · split at h
      · omega
      · split at h
        · assumption
        · split at h <;> omega
  · rintro (h | h) <;> subst h <;> decide
theorem cls_s (x : Int32) : clsT x = 3 ↔ (x = 59 ∨ x = 40 ∨ x = 41 ∨ x = 43 ∨ x = 45 ∨ x = 42 ∨ x = 47 ∨ x = 60 ∨ x = 61) := by
  constructor
  · intro h
    unfold clsT at h
    split at h
    · omega
    · split at h
      · omega
      · split at h
        · omega
        · split at h
          · assumption
          · omega
  · rintro (h | h | h | h | h | h | h | h | h) <;> subst h <;> decide
/-- the model's rows of words -/
def QS (E : HP) : Prop := (∀ i, i < 3 → gQ E 96 i = some (1000 + (21 + i))) ∧ ∀ i, i < 7 → gQ E 97 i = some (1000 + (24 + i))
def TmF (E : HP) (T : TX) : Prop := MoOK E ∧ QS E ∧ gI E 1552 95 = nI T.2 ∧ ∀ i, i < T.2 → gA E 108 i = T.1 i
def tkM (k : Nat) : Nat := if k = 5 then 4 else k
def TmA (E : HP) (T : TX) (a : Nat) : Prop := gI E 1551 95 = nI (toE T a) ∧ gI E 1555 95 = nI a ∧ gI E 1556 95 = nI (toE T a) ∧ gI E 1553 95 = nI (tkM (kdT T a)) ∧ (kdT T a = 2 → lenT T a ≤ 4 → gI E 1554 95 = nI (numT T a))
abbrev gsT : List Nat := [1551, 1553, 1554, 1555, 1556]
theorem tmf_mf {gs as : List Nat} {E E2 : HP} {T : TX} (h : MF gs as E E2) (hg : 1552 ∉ gs) (ha : 108 ∉ as) (o : TmF E T) : TmF E2 T := ⟨mf_mo h o.1, ⟨fun i hi => by rw [mf_gQ h]; exact o.2.1.1 i hi, fun i hi => by rw [mf_gQ h]; exact o.2.1.2 i hi⟩, (mf_gI h hg).trans o.2.2.1, fun i hi => by rw [mf_gA h ha]; exact o.2.2.2 i hi⟩
/-- the byte at j, or none -/
def mbF (T : TX) (j : Nat) : Int32 := if j < T.2 then T.1 j else -1
def mnF (t : Nat → Int32) (a : Nat) : Nat → Int32
  | 0 => 0
  | k + 1 => if 10 * mnF t a k + t (a + k) - 48 < 100000 then 10 * mnF t a k + t (a + k) - 48 else 100000
theorem mn_N {t : Nat → Int32} {a : Nat} : ∀ k, k ≤ 4 → (∀ j, j < k → 48 ≤ t (a + j) ∧ t (a + j) ≤ 57) → mnF t a k = nI (numN t a k) := by
  intro k
  induction k with
  | zero => intro _ _; rfl
  | succ k ih =>
    intro hk h
    have e := ih (by omega) (fun j hj => h j (by omega))
    have e1 := numI_N k (fun j hj => h j (by omega))
    have e2 := numI_N (k + 1) h
    have h1 := (numN_lt (k + 1) h).1
    have h2 : 10 ^ (k + 1) ≤ 10 ^ 4 := Nat.pow_le_pow_right (by decide) hk
    have h3 : 10 ^ 4 = 10000 := by decide
    have e3 : 10 * mnF t a k + t (a + k) - 48 = nI (numN t a (k + 1)) := by
      rw [← e2, e, ← e1]; rfl
    show (if 10 * mnF t a k + t (a + k) - 48 < 100000 then 10 * mnF t a k + t (a + k) - 48 else 100000) = _
    rw [e3, if_pos (show nI (numN t a (k + 1)) < 100000 from nI_lt (b := 100000) (by omega) (by decide))]
set_option maxRecDepth 20000 in
theorem c_byteAt {d j : Nat} {T : TX} {E : HP} (hT : TXok T) (h : TmF E T) (hj : j ≤ 600) : Cl yX12_byteAt mX12_byteAt d 0 0 [.ref 95, .int (nI j)] E 137 (.inl (some (.int (mbF T j))), E, 137) := by
  have n6 := hT.1
  refine Cl.of (by decide) rfl (fun q => by cases q) rfl rfl (Nat.le_of_ble_eq_true rfl) ?_
  show Sm _ _ _ _ _ 0 [some (.ref 95), some (.int (nI j))] [] _ _
  by_cases hl : j < T.2
  · refine r_iload_n 1 dX12_byteAt_0 rfl rfl ?_
    refine r_aload_n 2 dX12_byteAt_1 rfl rfl ?_
    refine r_getIV (nI T.2) 5 dX12_byteAt_2 rfl f12_169 rfl rfl lt95 (h.2.2.1) ?_
    refine r_icmp_ge 8 17 dX12_byteAt_5 rfl (by decide) (fun h5 => absurd h5 (nI_ge hl (by omega))) (fun h5 => ?_)
    refine r_aload_n 9 dX12_byteAt_8 rfl rfl ?_
    refine r_getR 12 dX12_byteAt_9 rfl f12_68 rfl rfl lt95 (mo_13 h.1) ?_
    refine r_iload_n 13 dX12_byteAt_12 rfl rfl ?_
    refine r_ialdN (j) (T.1 j) 14 dX12_byteAt_13 rfl rfl (Nat.le_of_ble_eq_true rfl) (rfl) (by omega) (Nat.le_of_ble_eq_true rfl) (h.2.2.2 j hl) ?_
    refine r_goto 18 dX12_byteAt_14 (by decide) ?_
    exact r_iret dX12_byteAt_18 rfl rfl (out_eq (by unfold mbF; rw [if_pos hl]))
  · refine r_iload_n 1 dX12_byteAt_0 rfl rfl ?_
    refine r_aload_n 2 dX12_byteAt_1 rfl rfl ?_
    refine r_getIV (nI T.2) 5 dX12_byteAt_2 rfl f12_169 rfl rfl lt95 (h.2.2.1) ?_
    refine r_icmp_ge 8 17 dX12_byteAt_5 rfl (by decide) (fun h5 => ?_) (fun h5 => absurd (nI_le (by omega) (by omega)) h5)
    refine r_iconst (-1) 18 dX12_byteAt_17 rfl (by decide) ?_
    exact r_iret dX12_byteAt_18 rfl rfl (out_eq (by unfold mbF; rw [if_neg hl]))
set_option maxRecDepth 20000 in
theorem c_isLet {d : Nat} {c : Int32} {E : HP}  : Cl yX12_isLetter mX12_isLetter d 0 0 [.int c] E 137 (.inl (some (.int (b01 (clsT c = 1)))), E, 137) := by
  refine Cl.of (by decide) rfl (fun q => by cases q) rfl rfl (Nat.le_of_ble_eq_true rfl) ?_
  show Sm _ _ _ _ _ 0 [some (.int (c))] [] _ _
  refine r_iload_n 1 dX12_isLetter_0 rfl rfl ?_
  refine r_bipush (97) 3 dX12_isLetter_1 rfl (by decide) ?_
  refine r_icmp_lt 6 16 dX12_isLetter_3 rfl (by decide) (fun h3 => ?_) (fun h3 => ?_)
  · refine r_iconst (0) 17 dX12_isLetter_16 rfl (by decide) ?_
    exact r_zret dX12_isLetter_17 rfl rfl (by decide) (out_eq (by first | exact b01_f (fun z => absurd h3 (Int32.not_lt.mpr ((cls_1 c).mp z).1)) | exact b01_f (fun z => absurd h9 (Int32.not_lt.mpr ((cls_1 c).mp z).2)) | exact b01_t ((cls_1 c).mpr ⟨Int32.not_lt.mp h3, Int32.not_lt.mp h9⟩)))
  · refine r_iload_n 7 dX12_isLetter_6 rfl rfl ?_
    refine r_bipush (122) 9 dX12_isLetter_7 rfl (by decide) ?_
    refine r_icmp_gt 12 16 dX12_isLetter_9 rfl (by decide) (fun h9 => ?_) (fun h9 => ?_)
    · refine r_iconst (0) 17 dX12_isLetter_16 rfl (by decide) ?_
      exact r_zret dX12_isLetter_17 rfl rfl (by decide) (out_eq (by first | exact b01_f (fun z => absurd h3 (Int32.not_lt.mpr ((cls_1 c).mp z).1)) | exact b01_f (fun z => absurd h9 (Int32.not_lt.mpr ((cls_1 c).mp z).2)) | exact b01_t ((cls_1 c).mpr ⟨Int32.not_lt.mp h3, Int32.not_lt.mp h9⟩)))
    · refine r_iconst (1) 13 dX12_isLetter_12 rfl (by decide) ?_
      refine r_goto 17 dX12_isLetter_13 (by decide) ?_
      exact r_zret dX12_isLetter_17 rfl rfl (by decide) (out_eq (by first | exact b01_f (fun z => absurd h3 (Int32.not_lt.mpr ((cls_1 c).mp z).1)) | exact b01_f (fun z => absurd h9 (Int32.not_lt.mpr ((cls_1 c).mp z).2)) | exact b01_t ((cls_1 c).mpr ⟨Int32.not_lt.mp h3, Int32.not_lt.mp h9⟩)))
set_option maxRecDepth 20000 in
theorem c_isDig {d : Nat} {c : Int32} {E : HP}  : Cl yX12_isDigit mX12_isDigit d 0 0 [.int c] E 137 (.inl (some (.int (b01 (clsT c = 2)))), E, 137) := by
  refine Cl.of (by decide) rfl (fun q => by cases q) rfl rfl (Nat.le_of_ble_eq_true rfl) ?_
  show Sm _ _ _ _ _ 0 [some (.int (c))] [] _ _
  refine r_iload_n 1 dX12_isDigit_0 rfl rfl ?_
  refine r_bipush (48) 3 dX12_isDigit_1 rfl (by decide) ?_
  refine r_icmp_lt 6 16 dX12_isDigit_3 rfl (by decide) (fun h3 => ?_) (fun h3 => ?_)
  · refine r_iconst (0) 17 dX12_isDigit_16 rfl (by decide) ?_
    exact r_zret dX12_isDigit_17 rfl rfl (by decide) (out_eq (by first | exact b01_f (fun z => absurd h3 (Int32.not_lt.mpr ((cls_d c).mp z).1)) | exact b01_f (fun z => absurd h9 (Int32.not_lt.mpr ((cls_d c).mp z).2)) | exact b01_t ((cls_d c).mpr ⟨Int32.not_lt.mp h3, Int32.not_lt.mp h9⟩)))
  · refine r_iload_n 7 dX12_isDigit_6 rfl rfl ?_
    refine r_bipush (57) 9 dX12_isDigit_7 rfl (by decide) ?_
    refine r_icmp_gt 12 16 dX12_isDigit_9 rfl (by decide) (fun h9 => ?_) (fun h9 => ?_)
    · refine r_iconst (0) 17 dX12_isDigit_16 rfl (by decide) ?_
      exact r_zret dX12_isDigit_17 rfl rfl (by decide) (out_eq (by first | exact b01_f (fun z => absurd h3 (Int32.not_lt.mpr ((cls_d c).mp z).1)) | exact b01_f (fun z => absurd h9 (Int32.not_lt.mpr ((cls_d c).mp z).2)) | exact b01_t ((cls_d c).mpr ⟨Int32.not_lt.mp h3, Int32.not_lt.mp h9⟩)))
    · refine r_iconst (1) 13 dX12_isDigit_12 rfl (by decide) ?_
      refine r_goto 17 dX12_isDigit_13 (by decide) ?_
      exact r_zret dX12_isDigit_17 rfl rfl (by decide) (out_eq (by first | exact b01_f (fun z => absurd h3 (Int32.not_lt.mpr ((cls_d c).mp z).1)) | exact b01_f (fun z => absurd h9 (Int32.not_lt.mpr ((cls_d c).mp z).2)) | exact b01_t ((cls_d c).mpr ⟨Int32.not_lt.mp h3, Int32.not_lt.mp h9⟩)))
set_option maxHeartbeats 16000000 in
set_option maxRecDepth 20000 in
theorem c_isMk {d : Nat} {c : Int32} {E : HP}  : Cl yX12_isMark mX12_isMark d 0 0 [.int c] E 137 (.inl (some (.int (b01 (clsT c = 3)))), E, 137) := by
  refine Cl.of (by decide) rfl (fun q => by cases q) rfl rfl (Nat.le_of_ble_eq_true rfl) ?_
  show Sm _ _ _ _ _ 0 [some (.int (c))] [] _ _
  refine r_iload_n 1 dX12_isMark_0 rfl rfl ?_
  refine r_bipush (59) 3 dX12_isMark_1 rfl (by decide) ?_
  refine r_icmp_eq 6 54 dX12_isMark_3 rfl (by decide) (fun h3 => ?_) (fun h3 => ?_)
  · refine r_iconst (1) 55 dX12_isMark_54 rfl (by decide) ?_
    refine r_goto 59 dX12_isMark_55 (by decide) ?_
    exact r_zret dX12_isMark_59 rfl rfl (by decide) (out_eq (by first | exact b01_t ((cls_s c).mpr (Or.inl h3)) | exact b01_t ((cls_s c).mpr (Or.inr (Or.inl h9))) | exact b01_t ((cls_s c).mpr (Or.inr (Or.inr (Or.inl h15)))) | exact b01_t ((cls_s c).mpr (Or.inr (Or.inr (Or.inr (Or.inl h21))))) | exact b01_t ((cls_s c).mpr (Or.inr (Or.inr (Or.inr (Or.inr (Or.inl h27)))))) | exact b01_t ((cls_s c).mpr (Or.inr (Or.inr (Or.inr (Or.inr (Or.inr (Or.inl h33))))))) | exact b01_t ((cls_s c).mpr (Or.inr (Or.inr (Or.inr (Or.inr (Or.inr (Or.inr (Or.inl h39)))))))) | exact b01_t ((cls_s c).mpr (Or.inr (Or.inr (Or.inr (Or.inr (Or.inr (Or.inr (Or.inr (Or.inl h45))))))))) | exact b01_t ((cls_s c).mpr (Or.inr (Or.inr (Or.inr (Or.inr (Or.inr (Or.inr (Or.inr (Or.inr (h51)))))))))) | exact b01_f (fun z => by have := (cls_s c).mp z; simp [h3, h9, h15, h21, h27, h33, h39, h45, h51] at this)))
  · refine r_iload_n 7 dX12_isMark_6 rfl rfl ?_
    refine r_bipush (40) 9 dX12_isMark_7 rfl (by decide) ?_
    refine r_icmp_eq 12 54 dX12_isMark_9 rfl (by decide) (fun h9 => ?_) (fun h9 => ?_)
    · refine r_iconst (1) 55 dX12_isMark_54 rfl (by decide) ?_
      refine r_goto 59 dX12_isMark_55 (by decide) ?_
      exact r_zret dX12_isMark_59 rfl rfl (by decide) (out_eq (by first | exact b01_t ((cls_s c).mpr (Or.inl h3)) | exact b01_t ((cls_s c).mpr (Or.inr (Or.inl h9))) | exact b01_t ((cls_s c).mpr (Or.inr (Or.inr (Or.inl h15)))) | exact b01_t ((cls_s c).mpr (Or.inr (Or.inr (Or.inr (Or.inl h21))))) | exact b01_t ((cls_s c).mpr (Or.inr (Or.inr (Or.inr (Or.inr (Or.inl h27)))))) | exact b01_t ((cls_s c).mpr (Or.inr (Or.inr (Or.inr (Or.inr (Or.inr (Or.inl h33))))))) | exact b01_t ((cls_s c).mpr (Or.inr (Or.inr (Or.inr (Or.inr (Or.inr (Or.inr (Or.inl h39)))))))) | exact b01_t ((cls_s c).mpr (Or.inr (Or.inr (Or.inr (Or.inr (Or.inr (Or.inr (Or.inr (Or.inl h45))))))))) | exact b01_t ((cls_s c).mpr (Or.inr (Or.inr (Or.inr (Or.inr (Or.inr (Or.inr (Or.inr (Or.inr (h51)))))))))) | exact b01_f (fun z => by have := (cls_s c).mp z; simp [h3, h9, h15, h21, h27, h33, h39, h45, h51] at this)))
    · refine r_iload_n 13 dX12_isMark_12 rfl rfl ?_
      refine r_bipush (41) 15 dX12_isMark_13 rfl (by decide) ?_
      refine r_icmp_eq 18 54 dX12_isMark_15 rfl (by decide) (fun h15 => ?_) (fun h15 => ?_)
      · refine r_iconst (1) 55 dX12_isMark_54 rfl (by decide) ?_
        refine r_goto 59 dX12_isMark_55 (by decide) ?_
        exact r_zret dX12_isMark_59 rfl rfl (by decide) (out_eq (by first | exact b01_t ((cls_s c).mpr (Or.inl h3)) | exact b01_t ((cls_s c).mpr (Or.inr (Or.inl h9))) | exact b01_t ((cls_s c).mpr (Or.inr (Or.inr (Or.inl h15)))) | exact b01_t ((cls_s c).mpr (Or.inr (Or.inr (Or.inr (Or.inl h21))))) | exact b01_t ((cls_s c).mpr (Or.inr (Or.inr (Or.inr (Or.inr (Or.inl h27)))))) | exact b01_t ((cls_s c).mpr (Or.inr (Or.inr (Or.inr (Or.inr (Or.inr (Or.inl h33))))))) | exact b01_t ((cls_s c).mpr (Or.inr (Or.inr (Or.inr (Or.inr (Or.inr (Or.inr (Or.inl h39)))))))) | exact b01_t ((cls_s c).mpr (Or.inr (Or.inr (Or.inr (Or.inr (Or.inr (Or.inr (Or.inr (Or.inl h45))))))))) | exact b01_t ((cls_s c).mpr (Or.inr (Or.inr (Or.inr (Or.inr (Or.inr (Or.inr (Or.inr (Or.inr (h51)))))))))) | exact b01_f (fun z => by have := (cls_s c).mp z; simp [h3, h9, h15, h21, h27, h33, h39, h45, h51] at this)))
      · refine r_iload_n 19 dX12_isMark_18 rfl rfl ?_
        refine r_bipush (43) 21 dX12_isMark_19 rfl (by decide) ?_
        refine r_icmp_eq 24 54 dX12_isMark_21 rfl (by decide) (fun h21 => ?_) (fun h21 => ?_)
        · refine r_iconst (1) 55 dX12_isMark_54 rfl (by decide) ?_
          refine r_goto 59 dX12_isMark_55 (by decide) ?_
          exact r_zret dX12_isMark_59 rfl rfl (by decide) (out_eq (by first | exact b01_t ((cls_s c).mpr (Or.inl h3)) | exact b01_t ((cls_s c).mpr (Or.inr (Or.inl h9))) | exact b01_t ((cls_s c).mpr (Or.inr (Or.inr (Or.inl h15)))) | exact b01_t ((cls_s c).mpr (Or.inr (Or.inr (Or.inr (Or.inl h21))))) | exact b01_t ((cls_s c).mpr (Or.inr (Or.inr (Or.inr (Or.inr (Or.inl h27)))))) | exact b01_t ((cls_s c).mpr (Or.inr (Or.inr (Or.inr (Or.inr (Or.inr (Or.inl h33))))))) | exact b01_t ((cls_s c).mpr (Or.inr (Or.inr (Or.inr (Or.inr (Or.inr (Or.inr (Or.inl h39)))))))) | exact b01_t ((cls_s c).mpr (Or.inr (Or.inr (Or.inr (Or.inr (Or.inr (Or.inr (Or.inr (Or.inl h45))))))))) | exact b01_t ((cls_s c).mpr (Or.inr (Or.inr (Or.inr (Or.inr (Or.inr (Or.inr (Or.inr (Or.inr (h51)))))))))) | exact b01_f (fun z => by have := (cls_s c).mp z; simp [h3, h9, h15, h21, h27, h33, h39, h45, h51] at this)))
        · refine r_iload_n 25 dX12_isMark_24 rfl rfl ?_
          refine r_bipush (45) 27 dX12_isMark_25 rfl (by decide) ?_
          refine r_icmp_eq 30 54 dX12_isMark_27 rfl (by decide) (fun h27 => ?_) (fun h27 => ?_)
          · refine r_iconst (1) 55 dX12_isMark_54 rfl (by decide) ?_
            refine r_goto 59 dX12_isMark_55 (by decide) ?_
            exact r_zret dX12_isMark_59 rfl rfl (by decide) (out_eq (by first | exact b01_t ((cls_s c).mpr (Or.inl h3)) | exact b01_t ((cls_s c).mpr (Or.inr (Or.inl h9))) | exact b01_t ((cls_s c).mpr (Or.inr (Or.inr (Or.inl h15)))) | exact b01_t ((cls_s c).mpr (Or.inr (Or.inr (Or.inr (Or.inl h21))))) | exact b01_t ((cls_s c).mpr (Or.inr (Or.inr (Or.inr (Or.inr (Or.inl h27)))))) | exact b01_t ((cls_s c).mpr (Or.inr (Or.inr (Or.inr (Or.inr (Or.inr (Or.inl h33))))))) | exact b01_t ((cls_s c).mpr (Or.inr (Or.inr (Or.inr (Or.inr (Or.inr (Or.inr (Or.inl h39)))))))) | exact b01_t ((cls_s c).mpr (Or.inr (Or.inr (Or.inr (Or.inr (Or.inr (Or.inr (Or.inr (Or.inl h45))))))))) | exact b01_t ((cls_s c).mpr (Or.inr (Or.inr (Or.inr (Or.inr (Or.inr (Or.inr (Or.inr (Or.inr (h51)))))))))) | exact b01_f (fun z => by have := (cls_s c).mp z; simp [h3, h9, h15, h21, h27, h33, h39, h45, h51] at this)))
          · refine r_iload_n 31 dX12_isMark_30 rfl rfl ?_
            refine r_bipush (42) 33 dX12_isMark_31 rfl (by decide) ?_
            refine r_icmp_eq 36 54 dX12_isMark_33 rfl (by decide) (fun h33 => ?_) (fun h33 => ?_)
            · refine r_iconst (1) 55 dX12_isMark_54 rfl (by decide) ?_
              refine r_goto 59 dX12_isMark_55 (by decide) ?_
              exact r_zret dX12_isMark_59 rfl rfl (by decide) (out_eq (by first | exact b01_t ((cls_s c).mpr (Or.inl h3)) | exact b01_t ((cls_s c).mpr (Or.inr (Or.inl h9))) | exact b01_t ((cls_s c).mpr (Or.inr (Or.inr (Or.inl h15)))) | exact b01_t ((cls_s c).mpr (Or.inr (Or.inr (Or.inr (Or.inl h21))))) | exact b01_t ((cls_s c).mpr (Or.inr (Or.inr (Or.inr (Or.inr (Or.inl h27)))))) | exact b01_t ((cls_s c).mpr (Or.inr (Or.inr (Or.inr (Or.inr (Or.inr (Or.inl h33))))))) | exact b01_t ((cls_s c).mpr (Or.inr (Or.inr (Or.inr (Or.inr (Or.inr (Or.inr (Or.inl h39)))))))) | exact b01_t ((cls_s c).mpr (Or.inr (Or.inr (Or.inr (Or.inr (Or.inr (Or.inr (Or.inr (Or.inl h45))))))))) | exact b01_t ((cls_s c).mpr (Or.inr (Or.inr (Or.inr (Or.inr (Or.inr (Or.inr (Or.inr (Or.inr (h51)))))))))) | exact b01_f (fun z => by have := (cls_s c).mp z; simp [h3, h9, h15, h21, h27, h33, h39, h45, h51] at this)))
            · refine r_iload_n 37 dX12_isMark_36 rfl rfl ?_
              refine r_bipush (47) 39 dX12_isMark_37 rfl (by decide) ?_
              refine r_icmp_eq 42 54 dX12_isMark_39 rfl (by decide) (fun h39 => ?_) (fun h39 => ?_)
              · refine r_iconst (1) 55 dX12_isMark_54 rfl (by decide) ?_
                refine r_goto 59 dX12_isMark_55 (by decide) ?_
                exact r_zret dX12_isMark_59 rfl rfl (by decide) (out_eq (by first | exact b01_t ((cls_s c).mpr (Or.inl h3)) | exact b01_t ((cls_s c).mpr (Or.inr (Or.inl h9))) | exact b01_t ((cls_s c).mpr (Or.inr (Or.inr (Or.inl h15)))) | exact b01_t ((cls_s c).mpr (Or.inr (Or.inr (Or.inr (Or.inl h21))))) | exact b01_t ((cls_s c).mpr (Or.inr (Or.inr (Or.inr (Or.inr (Or.inl h27)))))) | exact b01_t ((cls_s c).mpr (Or.inr (Or.inr (Or.inr (Or.inr (Or.inr (Or.inl h33))))))) | exact b01_t ((cls_s c).mpr (Or.inr (Or.inr (Or.inr (Or.inr (Or.inr (Or.inr (Or.inl h39)))))))) | exact b01_t ((cls_s c).mpr (Or.inr (Or.inr (Or.inr (Or.inr (Or.inr (Or.inr (Or.inr (Or.inl h45))))))))) | exact b01_t ((cls_s c).mpr (Or.inr (Or.inr (Or.inr (Or.inr (Or.inr (Or.inr (Or.inr (Or.inr (h51)))))))))) | exact b01_f (fun z => by have := (cls_s c).mp z; simp [h3, h9, h15, h21, h27, h33, h39, h45, h51] at this)))
              · refine r_iload_n 43 dX12_isMark_42 rfl rfl ?_
                refine r_bipush (60) 45 dX12_isMark_43 rfl (by decide) ?_
                refine r_icmp_eq 48 54 dX12_isMark_45 rfl (by decide) (fun h45 => ?_) (fun h45 => ?_)
                · refine r_iconst (1) 55 dX12_isMark_54 rfl (by decide) ?_
                  refine r_goto 59 dX12_isMark_55 (by decide) ?_
                  exact r_zret dX12_isMark_59 rfl rfl (by decide) (out_eq (by first | exact b01_t ((cls_s c).mpr (Or.inl h3)) | exact b01_t ((cls_s c).mpr (Or.inr (Or.inl h9))) | exact b01_t ((cls_s c).mpr (Or.inr (Or.inr (Or.inl h15)))) | exact b01_t ((cls_s c).mpr (Or.inr (Or.inr (Or.inr (Or.inl h21))))) | exact b01_t ((cls_s c).mpr (Or.inr (Or.inr (Or.inr (Or.inr (Or.inl h27)))))) | exact b01_t ((cls_s c).mpr (Or.inr (Or.inr (Or.inr (Or.inr (Or.inr (Or.inl h33))))))) | exact b01_t ((cls_s c).mpr (Or.inr (Or.inr (Or.inr (Or.inr (Or.inr (Or.inr (Or.inl h39)))))))) | exact b01_t ((cls_s c).mpr (Or.inr (Or.inr (Or.inr (Or.inr (Or.inr (Or.inr (Or.inr (Or.inl h45))))))))) | exact b01_t ((cls_s c).mpr (Or.inr (Or.inr (Or.inr (Or.inr (Or.inr (Or.inr (Or.inr (Or.inr (h51)))))))))) | exact b01_f (fun z => by have := (cls_s c).mp z; simp [h3, h9, h15, h21, h27, h33, h39, h45, h51] at this)))
                · refine r_iload_n 49 dX12_isMark_48 rfl rfl ?_
                  refine r_bipush (61) 51 dX12_isMark_49 rfl (by decide) ?_
                  refine r_icmp_ne 54 58 dX12_isMark_51 rfl (by decide) (fun h51 => ?_) (fun h51 => ?_)
                  · refine r_iconst (0) 59 dX12_isMark_58 rfl (by decide) ?_
                    exact r_zret dX12_isMark_59 rfl rfl (by decide) (out_eq (by first | exact b01_t ((cls_s c).mpr (Or.inl h3)) | exact b01_t ((cls_s c).mpr (Or.inr (Or.inl h9))) | exact b01_t ((cls_s c).mpr (Or.inr (Or.inr (Or.inl h15)))) | exact b01_t ((cls_s c).mpr (Or.inr (Or.inr (Or.inr (Or.inl h21))))) | exact b01_t ((cls_s c).mpr (Or.inr (Or.inr (Or.inr (Or.inr (Or.inl h27)))))) | exact b01_t ((cls_s c).mpr (Or.inr (Or.inr (Or.inr (Or.inr (Or.inr (Or.inl h33))))))) | exact b01_t ((cls_s c).mpr (Or.inr (Or.inr (Or.inr (Or.inr (Or.inr (Or.inr (Or.inl h39)))))))) | exact b01_t ((cls_s c).mpr (Or.inr (Or.inr (Or.inr (Or.inr (Or.inr (Or.inr (Or.inr (Or.inl h45))))))))) | exact b01_t ((cls_s c).mpr (Or.inr (Or.inr (Or.inr (Or.inr (Or.inr (Or.inr (Or.inr (Or.inr (h51)))))))))) | exact b01_f (fun z => by have := (cls_s c).mp z; simp [h3, h9, h15, h21, h27, h33, h39, h45, h51] at this)))
                  · refine r_iconst (1) 55 dX12_isMark_54 rfl (by decide) ?_
                    refine r_goto 59 dX12_isMark_55 (by decide) ?_
                    exact r_zret dX12_isMark_59 rfl rfl (by decide) (out_eq (by first | exact b01_t ((cls_s c).mpr (Or.inl h3)) | exact b01_t ((cls_s c).mpr (Or.inr (Or.inl h9))) | exact b01_t ((cls_s c).mpr (Or.inr (Or.inr (Or.inl h15)))) | exact b01_t ((cls_s c).mpr (Or.inr (Or.inr (Or.inr (Or.inl h21))))) | exact b01_t ((cls_s c).mpr (Or.inr (Or.inr (Or.inr (Or.inr (Or.inl h27)))))) | exact b01_t ((cls_s c).mpr (Or.inr (Or.inr (Or.inr (Or.inr (Or.inr (Or.inl h33))))))) | exact b01_t ((cls_s c).mpr (Or.inr (Or.inr (Or.inr (Or.inr (Or.inr (Or.inr (Or.inl h39)))))))) | exact b01_t ((cls_s c).mpr (Or.inr (Or.inr (Or.inr (Or.inr (Or.inr (Or.inr (Or.inr (Or.inl h45))))))))) | exact b01_t ((cls_s c).mpr (Or.inr (Or.inr (Or.inr (Or.inr (Or.inr (Or.inr (Or.inr (Or.inr (h51)))))))))) | exact b01_f (fun z => by have := (cls_s c).mp z; simp [h3, h9, h15, h21, h27, h33, h39, h45, h51] at this)))
set_option maxHeartbeats 16000000 in
set_option maxRecDepth 20000 in
theorem c_stepOn {d q : Nat} {T : TX} {E : HP} (hT : TXok T) (h : TmF E T) (hq : gI E 1551 95 = nI q) (hq2 : q ≤ T.2) : ∃ o, (∃ E2, o = (.inl none, E2, 137) ∧ MF gsT [] E E2 ∧ TmA E2 T (toB T q)) ∧ Cl yX12_stepOn mX12_stepOn (d + 1) 0 0 [.ref 95] E 137 o := by
  have n6 := hT.1
  obtain ⟨a, ha⟩ : ∃ a, toB T q = a := ⟨_, rfl⟩
  rw [ha]
  have han : a ≤ T.2 := by rw [← ha]; exact (runT_le (T := T) (k := 4) (i := q)).2 hq2
  have hk4 : ¬ kdT T a = 4 := by rw [← ha]; exact toB_kd
  have hte := toE_le (T := T) (a := a)
  refine Cx.of (by decide) rfl (fun q => by cases q) rfl rfl (Nat.le_of_ble_eq_true rfl) ?_
  show Sx _ _ _ _ _ 0 [some (.ref 95), none] [] _ _
  have k212 : ∀ E2 v, MF gsT [] E E2 → gI E2 1551 95 = nI (toE T a) → gI E2 1555 95 = nI a → gI E2 1553 95 = nI (tkM (kdT T a)) → (kdT T a = 2 → lenT T a ≤ 4 → gI E2 1554 95 = nI (numT T a)) → Sx mX12_stepOn (d + 1) 0 0 (fun o => ∃ E2, o = (.inl none, E2, 137) ∧ MF gsT [] E E2 ∧ TmA E2 T a) 212 [some (.ref 95), v] [] E2 137 := by
    intro E2 v hm g1 g5 g3 g4
    refine Sx.up (fun _ kk => r_aload_n 213 dX12_stepOn_212 rfl rfl kk) ?_
    refine Sx.up (fun _ kk => r_aload_n 214 dX12_stepOn_213 rfl rfl kk) ?_
    refine Sx.up (fun _ kk => r_getIV (nI (toE T a)) 217 dX12_stepOn_214 rfl f12_172 rfl rfl lt95 (g1) kk) ?_
    refine Sx.up (fun _ kk => r_putI 220 dX12_stepOn_217 rfl f12_205 rfl lt95 kk) ?_
    refine ⟨_, ?_, r_vret dX12_stepOn_220 rfl rfl rfl⟩
    refine ⟨_, rfl, mf_sI (by decide) hm, g1, g5, ?_, g3, g4⟩
    rw [gI_sI, if_pos ⟨rfl, rfl⟩]
  have k76 : ∀ f j E2 v, j + f = T.2 → MF gsT [] E E2 → gI E2 1551 95 = nI j → gI E2 1555 95 = nI a → kdT T a = 1 → runT T 1 j = toE T a → Sx mX12_stepOn (d + 1) 0 0 (fun o => ∃ E2, o = (.inl none, E2, 137) ∧ MF gsT [] E E2 ∧ TmA E2 T a) 76 [some (.ref 95), v] [] E2 137 := by
    intro f
    induction f with
    | zero =>
      intro j E2 v hj hm g1 g5 hk hr
      have hF := tmf_mf hm (by decide) (by decide) h
      have hby := c_byteAt (d := d) (j := j) hT hF (by omega)
      have hmb : mbF T j = -1 := if_neg (by omega)
      have hje : toE T a = j := by rw [← hr]; exact runT_n (by omega)
      rw [hmb] at hby
      have hle := c_isLet (d := d) (c := -1) (E := E2)
      rw [b01_f (by decide)] at hle
      refine Sx.up (fun _ kk => r_aload_n 77 dX12_stepOn_76 rfl rfl kk) ?_
      refine Sx.up (fun _ kk => r_aload_n 78 dX12_stepOn_77 rfl rfl kk) ?_
      refine Sx.up (fun _ kk => r_getIV (nI j) 81 dX12_stepOn_78 rfl f12_172 rfl rfl lt95 (g1) kk) ?_
      refine Sx.up (fun _ kk => r_callV (M := mX12_stepOn) (pc := 81) 84 dX12_stepOn_81 rfl k12_175 hby rfl rfl rfl (by decide) rfl lt95 (Nat.le_of_ble_eq_true rfl) kk) ?_
      refine Sx.up (fun _ kk => r_callS (M := mX12_stepOn) (pc := 84) 87 dX12_stepOn_84 rfl k12_185 hle rfl rfl (Nat.le_of_ble_eq_true rfl) kk) ?_
      refine Sx.up (fun _ kk => r_if_eq 90 103 dX12_stepOn_87 rfl (by decide) (fun _ => kk) (fun h87 => absurd rfl h87)) ?_
      refine Sx.up (fun _ kk => r_aload_n 104 dX12_stepOn_103 rfl rfl kk) ?_
      refine Sx.up (fun _ kk => r_iconst (1) 105 dX12_stepOn_104 rfl (by decide) kk) ?_
      refine Sx.up (fun _ kk => r_putI 108 dX12_stepOn_105 rfl f12_182 rfl lt95 kk) ?_
      refine Sx.up (fun _ kk => r_goto 212 dX12_stepOn_108 (by decide) kk) ?_
      refine k212 _ _ (mf_sI (by decide) hm) (by rw [hje]; exact g1) g5 (by rw [gI_sI, if_pos ⟨rfl, rfl⟩, hk]; rfl) (fun z => by omega)
    | succ f ih =>
      intro j E2 v hj hm g1 g5 hk hr
      have hF := tmf_mf hm (by decide) (by decide) h
      have hby := c_byteAt (d := d) (j := j) hT hF (by omega)
      have hmb : mbF T j = T.1 j := if_pos (by omega)
      rw [hmb] at hby
      have hle := c_isLet (d := d) (c := T.1 j) (E := E2)
      by_cases hc : clsT (T.1 j) = 1
      · refine Sx.up (fun _ kk => r_aload_n 77 dX12_stepOn_76 rfl rfl kk) ?_
        refine Sx.up (fun _ kk => r_aload_n 78 dX12_stepOn_77 rfl rfl kk) ?_
        refine Sx.up (fun _ kk => r_getIV (nI j) 81 dX12_stepOn_78 rfl f12_172 rfl rfl lt95 (g1) kk) ?_
        refine Sx.up (fun _ kk => r_callV (M := mX12_stepOn) (pc := 81) 84 dX12_stepOn_81 rfl k12_175 hby rfl rfl rfl (by decide) rfl lt95 (Nat.le_of_ble_eq_true rfl) kk) ?_
        rw [b01_t hc] at hle
        refine Sx.up (fun _ kk => r_callS (M := mX12_stepOn) (pc := 84) 87 dX12_stepOn_84 rfl k12_185 hle rfl rfl (Nat.le_of_ble_eq_true rfl) kk) ?_
        refine Sx.up (fun _ kk => r_if_eq 90 103 dX12_stepOn_87 rfl (by decide) (fun h87 => absurd h87 (by decide)) (fun _ => kk)) ?_
        refine Sx.up (fun _ kk => r_aload_n 91 dX12_stepOn_90 rfl rfl kk) ?_
        refine Sx.up (fun _ kk => r_dup 92 dX12_stepOn_91 rfl rfl kk) ?_
        refine Sx.up (fun _ kk => r_getIV (nI j) 95 dX12_stepOn_92 rfl f12_172 rfl rfl lt95 (g1) kk) ?_
        refine Sx.up (fun _ kk => r_iconst (1) 96 dX12_stepOn_95 rfl (by decide) kk) ?_
        refine Sx.up (fun _ kk => r_iadd 97 dX12_stepOn_96 rfl kk) ?_
        refine Sx.up (fun _ kk => r_putI 100 dX12_stepOn_97 rfl f12_172 rfl lt95 kk) ?_
        refine Sx.up (fun _ kk => r_goto 76 dX12_stepOn_100 (by decide) kk) ?_
        refine ih (j + 1) _ _ (by omega) (mf_sI (by decide) hm) ?_ g5 hk ?_
        · rw [gI_sI, if_pos ⟨rfl, rfl⟩, nI_pp]
        · rw [← runT_y (by omega) hc]; exact hr
      · refine Sx.up (fun _ kk => r_aload_n 77 dX12_stepOn_76 rfl rfl kk) ?_
        refine Sx.up (fun _ kk => r_aload_n 78 dX12_stepOn_77 rfl rfl kk) ?_
        refine Sx.up (fun _ kk => r_getIV (nI j) 81 dX12_stepOn_78 rfl f12_172 rfl rfl lt95 (g1) kk) ?_
        refine Sx.up (fun _ kk => r_callV (M := mX12_stepOn) (pc := 81) 84 dX12_stepOn_81 rfl k12_175 hby rfl rfl rfl (by decide) rfl lt95 (Nat.le_of_ble_eq_true rfl) kk) ?_
        rw [b01_f hc] at hle
        have hje : toE T a = j := by rw [← hr]; exact runT_n (fun z => hc z.2)
        refine Sx.up (fun _ kk => r_callS (M := mX12_stepOn) (pc := 84) 87 dX12_stepOn_84 rfl k12_185 hle rfl rfl (Nat.le_of_ble_eq_true rfl) kk) ?_
        refine Sx.up (fun _ kk => r_if_eq 90 103 dX12_stepOn_87 rfl (by decide) (fun _ => kk) (fun h87 => absurd rfl h87)) ?_
        refine Sx.up (fun _ kk => r_aload_n 104 dX12_stepOn_103 rfl rfl kk) ?_
        refine Sx.up (fun _ kk => r_iconst (1) 105 dX12_stepOn_104 rfl (by decide) kk) ?_
        refine Sx.up (fun _ kk => r_putI 108 dX12_stepOn_105 rfl f12_182 rfl lt95 kk) ?_
        refine Sx.up (fun _ kk => r_goto 212 dX12_stepOn_108 (by decide) kk) ?_
        refine k212 _ _ (mf_sI (by decide) hm) (by rw [hje]; exact g1) g5 (by rw [gI_sI, if_pos ⟨rfl, rfl⟩, hk]; rfl) (fun z => by omega)
  have k123 : ∀ f j E2 v, j + f = T.2 → a ≤ j → MF gsT [] E E2 → gI E2 1551 95 = nI j → gI E2 1555 95 = nI a → gI E2 1554 95 = mnF T.1 a (j - a) → kdT T a = 2 → runT T 2 j = toE T a → Sx mX12_stepOn (d + 1) 0 0 (fun o => ∃ E2, o = (.inl none, E2, 137) ∧ MF gsT [] E E2 ∧ TmA E2 T a) 123 [some (.ref 95), v] [] E2 137 := by
    intro f
    induction f with
    | zero =>
      intro j E2 v hj haj hm g1 g5 g4 hk hr
      have hF := tmf_mf hm (by decide) (by decide) h
      have hby := c_byteAt (d := d) (j := j) hT hF (by omega)
      have hmb : mbF T j = -1 := if_neg (by omega)
      have hje : toE T a = j := by rw [← hr]; exact runT_n (by omega)
      rw [hmb] at hby
      have hle := c_isDig (d := d) (c := -1) (E := E2)
      rw [b01_f (by decide)] at hle
      refine Sx.up (fun _ kk => r_aload_n 124 dX12_stepOn_123 rfl rfl kk) ?_
      refine Sx.up (fun _ kk => r_aload_n 125 dX12_stepOn_124 rfl rfl kk) ?_
      refine Sx.up (fun _ kk => r_getIV (nI j) 128 dX12_stepOn_125 rfl f12_172 rfl rfl lt95 (g1) kk) ?_
      refine Sx.up (fun _ kk => r_callV (M := mX12_stepOn) (pc := 128) 131 dX12_stepOn_128 rfl k12_175 hby rfl rfl rfl (by decide) rfl lt95 (Nat.le_of_ble_eq_true rfl) kk) ?_
      refine Sx.up (fun _ kk => r_callS (M := mX12_stepOn) (pc := 131) 134 dX12_stepOn_131 rfl k12_189 hle rfl rfl (Nat.le_of_ble_eq_true rfl) kk) ?_
      refine Sx.up (fun _ kk => r_if_eq 137 178 dX12_stepOn_134 rfl (by decide) (fun _ => kk) (fun h134 => absurd rfl h134)) ?_
      refine Sx.up (fun _ kk => r_aload_n 179 dX12_stepOn_178 rfl rfl kk) ?_
      refine Sx.up (fun _ kk => r_iconst (2) 180 dX12_stepOn_179 rfl (by decide) kk) ?_
      refine Sx.up (fun _ kk => r_putI 183 dX12_stepOn_180 rfl f12_182 rfl lt95 kk) ?_
      refine Sx.up (fun _ kk => r_goto 212 dX12_stepOn_183 (by decide) kk) ?_
      refine k212 _ _ (mf_sI (by decide) hm) (by rw [hje]; exact g1) g5 (by rw [gI_sI, if_pos ⟨rfl, rfl⟩, hk]; rfl) (fun _ hl => by rw [gI_sI, if_neg (by decide), g4]; unfold numT; rw [if_neg (by omega)]; unfold lenT at hl ⊢; rw [hje] at hl ⊢; exact mn_N _ hl (fun i hi => num_dig hk i (by unfold lenT; rw [hje]; exact hi)))
    | succ f ih =>
      intro j E2 v hj haj hm g1 g5 g4 hk hr
      have hF := tmf_mf hm (by decide) (by decide) h
      have hby := c_byteAt (d := d) (j := j) hT hF (by omega)
      have hmb : mbF T j = T.1 j := if_pos (by omega)
      rw [hmb] at hby
      have hle := c_isDig (d := d) (c := T.1 j) (E := E2)
      by_cases hc : clsT (T.1 j) = 2
      · refine Sx.up (fun _ kk => r_aload_n 124 dX12_stepOn_123 rfl rfl kk) ?_
        refine Sx.up (fun _ kk => r_aload_n 125 dX12_stepOn_124 rfl rfl kk) ?_
        refine Sx.up (fun _ kk => r_getIV (nI j) 128 dX12_stepOn_125 rfl f12_172 rfl rfl lt95 (g1) kk) ?_
        refine Sx.up (fun _ kk => r_callV (M := mX12_stepOn) (pc := 128) 131 dX12_stepOn_128 rfl k12_175 hby rfl rfl rfl (by decide) rfl lt95 (Nat.le_of_ble_eq_true rfl) kk) ?_
        rw [b01_t hc] at hle
        refine Sx.up (fun _ kk => r_callS (M := mX12_stepOn) (pc := 131) 134 dX12_stepOn_131 rfl k12_189 hle rfl rfl (Nat.le_of_ble_eq_true rfl) kk) ?_
        refine Sx.up (fun _ kk => r_if_eq 137 178 dX12_stepOn_134 rfl (by decide) (fun h134 => absurd h134 (by decide)) (fun _ => kk)) ?_
        refine Sx.up (fun _ kk => r_aload_n 138 dX12_stepOn_137 rfl rfl kk) ?_
        refine Sx.up (fun _ kk => r_ldc 100000 140 dX12_stepOn_138 rfl c12_195 kk) ?_
        refine Sx.up (fun _ kk => r_bipush (10) 142 dX12_stepOn_140 rfl (by decide) kk) ?_
        refine Sx.up (fun _ kk => r_aload_n 143 dX12_stepOn_142 rfl rfl kk) ?_
        refine Sx.up (fun _ kk => r_getIV (mnF T.1 a (j - a)) 146 dX12_stepOn_143 rfl f12_192 rfl rfl lt95 (g4) kk) ?_
        refine Sx.up (fun _ kk => r_imul 147 dX12_stepOn_146 rfl kk) ?_
        refine Sx.up (fun _ kk => r_aload_n 148 dX12_stepOn_147 rfl rfl kk) ?_
        refine Sx.up (fun _ kk => r_aload_n 149 dX12_stepOn_148 rfl rfl kk) ?_
        refine Sx.up (fun _ kk => r_getIV (nI j) 152 dX12_stepOn_149 rfl f12_172 rfl rfl lt95 (g1) kk) ?_
        refine Sx.up (fun _ kk => r_callV (M := mX12_stepOn) (pc := 152) 155 dX12_stepOn_152 rfl k12_175 hby rfl rfl rfl (by decide) rfl lt95 (Nat.le_of_ble_eq_true rfl) kk) ?_
        refine Sx.up (fun _ kk => r_iadd 156 dX12_stepOn_155 rfl kk) ?_
        refine Sx.up (fun _ kk => r_bipush (48) 158 dX12_stepOn_156 rfl (by decide) kk) ?_
        refine Sx.up (fun _ kk => r_isub 159 dX12_stepOn_158 rfl kk) ?_
        refine Sx.up (fun _ kk => r_min 162 dX12_stepOn_159 rfl k12_196 (Nat.le_of_ble_eq_true rfl) kk) ?_
        refine Sx.up (fun _ kk => r_putI 165 dX12_stepOn_162 rfl f12_192 rfl lt95 kk) ?_
        refine Sx.up (fun _ kk => r_aload_n 166 dX12_stepOn_165 rfl rfl kk) ?_
        refine Sx.up (fun _ kk => r_dup 167 dX12_stepOn_166 rfl rfl kk) ?_
        refine Sx.up (fun _ kk => r_getIV (nI j) 170 dX12_stepOn_167 rfl f12_172 rfl rfl lt95 (g1) kk) ?_
        refine Sx.up (fun _ kk => r_iconst (1) 171 dX12_stepOn_170 rfl (by decide) kk) ?_
        refine Sx.up (fun _ kk => r_iadd 172 dX12_stepOn_171 rfl kk) ?_
        refine Sx.up (fun _ kk => r_putI 175 dX12_stepOn_172 rfl f12_172 rfl lt95 kk) ?_
        refine Sx.up (fun _ kk => r_goto 123 dX12_stepOn_175 (by decide) kk) ?_
        refine ih (j + 1) _ _ (by omega) (by omega) (mf_sI (by decide) (mf_sI (by decide) hm)) ?_ g5 ?_ hk ?_
        · rw [gI_sI, if_pos ⟨rfl, rfl⟩, nI_pp]
        · rw [gI_sI, if_neg (by decide), gI_sI, if_pos ⟨rfl, rfl⟩, show j + 1 - a = (j - a) + 1 by omega]
          show _ = (if 10 * mnF T.1 a (j - a) + T.1 (a + (j - a)) - 48 < 100000 then 10 * mnF T.1 a (j - a) + T.1 (a + (j - a)) - 48 else 100000)
          rw [show a + (j - a) = j by omega]
        · rw [← runT_y (by omega) hc]; exact hr
      · refine Sx.up (fun _ kk => r_aload_n 124 dX12_stepOn_123 rfl rfl kk) ?_
        refine Sx.up (fun _ kk => r_aload_n 125 dX12_stepOn_124 rfl rfl kk) ?_
        refine Sx.up (fun _ kk => r_getIV (nI j) 128 dX12_stepOn_125 rfl f12_172 rfl rfl lt95 (g1) kk) ?_
        refine Sx.up (fun _ kk => r_callV (M := mX12_stepOn) (pc := 128) 131 dX12_stepOn_128 rfl k12_175 hby rfl rfl rfl (by decide) rfl lt95 (Nat.le_of_ble_eq_true rfl) kk) ?_
        rw [b01_f hc] at hle
        have hje : toE T a = j := by rw [← hr]; exact runT_n (fun z => hc z.2)
        refine Sx.up (fun _ kk => r_callS (M := mX12_stepOn) (pc := 131) 134 dX12_stepOn_131 rfl k12_189 hle rfl rfl (Nat.le_of_ble_eq_true rfl) kk) ?_
        refine Sx.up (fun _ kk => r_if_eq 137 178 dX12_stepOn_134 rfl (by decide) (fun _ => kk) (fun h134 => absurd rfl h134)) ?_
        refine Sx.up (fun _ kk => r_aload_n 179 dX12_stepOn_178 rfl rfl kk) ?_
        refine Sx.up (fun _ kk => r_iconst (2) 180 dX12_stepOn_179 rfl (by decide) kk) ?_
        refine Sx.up (fun _ kk => r_putI 183 dX12_stepOn_180 rfl f12_182 rfl lt95 kk) ?_
        refine Sx.up (fun _ kk => r_goto 212 dX12_stepOn_183 (by decide) kk) ?_
        refine k212 _ _ (mf_sI (by decide) hm) (by rw [hje]; exact g1) g5 (by rw [gI_sI, if_pos ⟨rfl, rfl⟩, hk]; rfl) (fun _ hl => by rw [gI_sI, if_neg (by decide), g4]; unfold numT; rw [if_neg (by omega)]; unfold lenT at hl ⊢; rw [hje] at hl ⊢; exact mn_N _ hl (fun i hi => num_dig hk i (by unfold lenT; rw [hje]; exact hi)))
  have k39 : ∀ E2 v, MF gsT [] E E2 → gI E2 1551 95 = nI a → Sx mX12_stepOn (d + 1) 0 0 (fun o => ∃ E2, o = (.inl none, E2, 137) ∧ MF gsT [] E E2 ∧ TmA E2 T a) 39 [some (.ref 95), v] [] E2 137 := by
    intro E2 v hm0 g1
    have hF0 := tmf_mf hm0 (by decide) (by decide) h
    obtain ⟨E3, hE3⟩ : ∃ E3, sI E2 1555 95 (nI a) = E3 := ⟨_, rfl⟩
    have hm : MF gsT [] E E3 := by rw [← hE3]; exact mf_sI (by decide) hm0
    have hF : TmF E3 T := tmf_mf hm (by decide) (by decide) h
    have i1 : gI E3 1551 95 = nI a := by rw [← hE3]; exact g1
    have i5 : gI E3 1555 95 = nI a := by rw [← hE3, gI_sI, if_pos ⟨rfl, rfl⟩]
    have hby := c_byteAt (d := d) (j := a) hT hF (by omega)
    by_cases hl : a < T.2
    · have hkd := kd_lt hl
      have hmb : mbF T a = T.1 a := if_pos hl
      rw [hmb] at hby
      have hne : ¬ T.1 a = -1 := by
        obtain ⟨k, hk, e⟩ := hT.2 a hl
        rw [e]
        exact fun z => absurd (show nI k < 0 by rw [z]; decide) (nI_pos (by omega))
      have hle := c_isLet (d := d) (c := T.1 a) (E := E3)
      have hdi := c_isDig (d := d) (c := T.1 a) (E := E3)
      by_cases h1 : clsT (T.1 a) = 1
      · refine Sx.up (fun _ kk => r_aload_n 40 dX12_stepOn_39 rfl rfl kk) ?_
        refine Sx.up (fun _ kk => r_aload_n 41 dX12_stepOn_40 rfl rfl kk) ?_
        refine Sx.up (fun _ kk => r_getIV (nI a) 44 dX12_stepOn_41 rfl f12_172 rfl rfl lt95 (by first | exact i1 | exact g1) kk) ?_
        refine Sx.up (fun _ kk => r_putI 47 dX12_stepOn_44 rfl f12_179 rfl lt95 kk) ?_
        rw [hE3]
        refine Sx.up (fun _ kk => r_aload_n 48 dX12_stepOn_47 rfl rfl kk) ?_
        refine Sx.up (fun _ kk => r_aload_n 49 dX12_stepOn_48 rfl rfl kk) ?_
        refine Sx.up (fun _ kk => r_getIV (nI a) 52 dX12_stepOn_49 rfl f12_172 rfl rfl lt95 (by first | exact i1 | exact g1) kk) ?_
        refine Sx.up (fun _ kk => r_callV (M := mX12_stepOn) (pc := 52) 55 dX12_stepOn_52 rfl k12_175 hby rfl rfl rfl (by decide) rfl lt95 (Nat.le_of_ble_eq_true rfl) kk) ?_
        refine Sx.less (ls := [some (.ref 95), none]) (by exact ⟨rfl, trivial⟩) ?_
        refine Sx.up (fun _ kk => r_istore_n 56 dX12_stepOn_55 rfl (by decide) rfl kk) ?_
        refine Sx.up (fun _ kk => r_iload_n 57 dX12_stepOn_56 rfl rfl kk) ?_
        refine Sx.up (fun _ kk => r_iconst (-1) 58 dX12_stepOn_57 rfl (by decide) kk) ?_
        refine Sx.up (fun _ kk => r_icmp_ne 61 69 dX12_stepOn_58 rfl (by decide) (fun _ => kk) (fun h58 => absurd h58 hne)) ?_
        refine Sx.up (fun _ kk => r_iload_n 70 dX12_stepOn_69 rfl rfl kk) ?_
        refine Sx.up (fun _ kk => r_callS (M := mX12_stepOn) (pc := 70) 73 dX12_stepOn_70 rfl k12_185 hle rfl rfl (Nat.le_of_ble_eq_true rfl) kk) ?_
        rw [b01_t h1]
        refine Sx.up (fun _ kk => r_if_eq 76 111 dX12_stepOn_73 rfl (by decide) (fun h73 => absurd h73 (by decide)) (fun _ => kk)) ?_
        refine k76 (T.2 - a) a E3 _ (by omega) hm i1 i5 (hkd.trans h1) ?_
        unfold toE
        rw [hkd, h1, if_neg (by decide), if_pos (Or.inl rfl)]
        exact runT_y hl h1
      by_cases h2 : clsT (T.1 a) = 2
      · refine Sx.up (fun _ kk => r_aload_n 40 dX12_stepOn_39 rfl rfl kk) ?_
        refine Sx.up (fun _ kk => r_aload_n 41 dX12_stepOn_40 rfl rfl kk) ?_
        refine Sx.up (fun _ kk => r_getIV (nI a) 44 dX12_stepOn_41 rfl f12_172 rfl rfl lt95 (by first | exact i1 | exact g1) kk) ?_
        refine Sx.up (fun _ kk => r_putI 47 dX12_stepOn_44 rfl f12_179 rfl lt95 kk) ?_
        rw [hE3]
        refine Sx.up (fun _ kk => r_aload_n 48 dX12_stepOn_47 rfl rfl kk) ?_
        refine Sx.up (fun _ kk => r_aload_n 49 dX12_stepOn_48 rfl rfl kk) ?_
        refine Sx.up (fun _ kk => r_getIV (nI a) 52 dX12_stepOn_49 rfl f12_172 rfl rfl lt95 (by first | exact i1 | exact g1) kk) ?_
        refine Sx.up (fun _ kk => r_callV (M := mX12_stepOn) (pc := 52) 55 dX12_stepOn_52 rfl k12_175 hby rfl rfl rfl (by decide) rfl lt95 (Nat.le_of_ble_eq_true rfl) kk) ?_
        refine Sx.less (ls := [some (.ref 95), none]) (by exact ⟨rfl, trivial⟩) ?_
        refine Sx.up (fun _ kk => r_istore_n 56 dX12_stepOn_55 rfl (by decide) rfl kk) ?_
        refine Sx.up (fun _ kk => r_iload_n 57 dX12_stepOn_56 rfl rfl kk) ?_
        refine Sx.up (fun _ kk => r_iconst (-1) 58 dX12_stepOn_57 rfl (by decide) kk) ?_
        refine Sx.up (fun _ kk => r_icmp_ne 61 69 dX12_stepOn_58 rfl (by decide) (fun _ => kk) (fun h58 => absurd h58 hne)) ?_
        refine Sx.up (fun _ kk => r_iload_n 70 dX12_stepOn_69 rfl rfl kk) ?_
        refine Sx.up (fun _ kk => r_callS (M := mX12_stepOn) (pc := 70) 73 dX12_stepOn_70 rfl k12_185 hle rfl rfl (Nat.le_of_ble_eq_true rfl) kk) ?_
        rw [b01_f h1]
        refine Sx.up (fun _ kk => r_if_eq 76 111 dX12_stepOn_73 rfl (by decide) (fun _ => kk) (fun h73 => absurd rfl h73)) ?_
        refine Sx.up (fun _ kk => r_iload_n 112 dX12_stepOn_111 rfl rfl kk) ?_
        refine Sx.up (fun _ kk => r_callS (M := mX12_stepOn) (pc := 112) 115 dX12_stepOn_112 rfl k12_189 hdi rfl rfl (Nat.le_of_ble_eq_true rfl) kk) ?_
        rw [b01_t h2]
        refine Sx.up (fun _ kk => r_if_eq 118 186 dX12_stepOn_115 rfl (by decide) (fun h115 => absurd h115 (by decide)) (fun _ => kk)) ?_
        refine Sx.up (fun _ kk => r_aload_n 119 dX12_stepOn_118 rfl rfl kk) ?_
        refine Sx.up (fun _ kk => r_iconst (0) 120 dX12_stepOn_119 rfl (by decide) kk) ?_
        refine Sx.up (fun _ kk => r_putI 123 dX12_stepOn_120 rfl f12_192 rfl lt95 kk) ?_
        refine k123 (T.2 - a) a _ _ (by omega) (Nat.le_refl _) (mf_sI (by decide) hm) i1 i5 ?_ (hkd.trans h2) ?_
        · rw [gI_sI, if_pos ⟨rfl, rfl⟩, Nat.sub_self]; rfl
        · unfold toE
          rw [hkd, h2, if_neg (by decide), if_pos (Or.inr rfl)]
          exact runT_y hl h2
      have hte1 : toE T a = a + 1 := by unfold toE; rw [hkd, if_neg (by have := cls_pos (T.1 a); omega), if_neg (by omega)]
      have hmk := c_isMk (d := d) (c := T.1 a) (E := sI E3 1551 95 (nI a + 1))
      by_cases h3 : clsT (T.1 a) = 3
      · refine Sx.up (fun _ kk => r_aload_n 40 dX12_stepOn_39 rfl rfl kk) ?_
        refine Sx.up (fun _ kk => r_aload_n 41 dX12_stepOn_40 rfl rfl kk) ?_
        refine Sx.up (fun _ kk => r_getIV (nI a) 44 dX12_stepOn_41 rfl f12_172 rfl rfl lt95 (by first | exact i1 | exact g1) kk) ?_
        refine Sx.up (fun _ kk => r_putI 47 dX12_stepOn_44 rfl f12_179 rfl lt95 kk) ?_
        rw [hE3]
        refine Sx.up (fun _ kk => r_aload_n 48 dX12_stepOn_47 rfl rfl kk) ?_
        refine Sx.up (fun _ kk => r_aload_n 49 dX12_stepOn_48 rfl rfl kk) ?_
        refine Sx.up (fun _ kk => r_getIV (nI a) 52 dX12_stepOn_49 rfl f12_172 rfl rfl lt95 (by first | exact i1 | exact g1) kk) ?_
        refine Sx.up (fun _ kk => r_callV (M := mX12_stepOn) (pc := 52) 55 dX12_stepOn_52 rfl k12_175 hby rfl rfl rfl (by decide) rfl lt95 (Nat.le_of_ble_eq_true rfl) kk) ?_
        refine Sx.less (ls := [some (.ref 95), none]) (by exact ⟨rfl, trivial⟩) ?_
        refine Sx.up (fun _ kk => r_istore_n 56 dX12_stepOn_55 rfl (by decide) rfl kk) ?_
        refine Sx.up (fun _ kk => r_iload_n 57 dX12_stepOn_56 rfl rfl kk) ?_
        refine Sx.up (fun _ kk => r_iconst (-1) 58 dX12_stepOn_57 rfl (by decide) kk) ?_
        refine Sx.up (fun _ kk => r_icmp_ne 61 69 dX12_stepOn_58 rfl (by decide) (fun _ => kk) (fun h58 => absurd h58 hne)) ?_
        refine Sx.up (fun _ kk => r_iload_n 70 dX12_stepOn_69 rfl rfl kk) ?_
        refine Sx.up (fun _ kk => r_callS (M := mX12_stepOn) (pc := 70) 73 dX12_stepOn_70 rfl k12_185 hle rfl rfl (Nat.le_of_ble_eq_true rfl) kk) ?_
        rw [b01_f h1]
        refine Sx.up (fun _ kk => r_if_eq 76 111 dX12_stepOn_73 rfl (by decide) (fun _ => kk) (fun h73 => absurd rfl h73)) ?_
        refine Sx.up (fun _ kk => r_iload_n 112 dX12_stepOn_111 rfl rfl kk) ?_
        refine Sx.up (fun _ kk => r_callS (M := mX12_stepOn) (pc := 112) 115 dX12_stepOn_112 rfl k12_189 hdi rfl rfl (Nat.le_of_ble_eq_true rfl) kk) ?_
        rw [b01_f h2]
        refine Sx.up (fun _ kk => r_if_eq 118 186 dX12_stepOn_115 rfl (by decide) (fun _ => kk) (fun h115 => absurd rfl h115)) ?_
        refine Sx.up (fun _ kk => r_aload_n 187 dX12_stepOn_186 rfl rfl kk) ?_
        refine Sx.up (fun _ kk => r_dup 188 dX12_stepOn_187 rfl rfl kk) ?_
        refine Sx.up (fun _ kk => r_getIV (nI a) 191 dX12_stepOn_188 rfl f12_172 rfl rfl lt95 (by first | exact i1 | exact g1) kk) ?_
        refine Sx.up (fun _ kk => r_iconst (1) 192 dX12_stepOn_191 rfl (by decide) kk) ?_
        refine Sx.up (fun _ kk => r_iadd 193 dX12_stepOn_192 rfl kk) ?_
        refine Sx.up (fun _ kk => r_putI 196 dX12_stepOn_193 rfl f12_172 rfl lt95 kk) ?_
        refine Sx.up (fun _ kk => r_aload_n 197 dX12_stepOn_196 rfl rfl kk) ?_
        refine Sx.up (fun _ kk => r_iload_n 198 dX12_stepOn_197 rfl rfl kk) ?_
        refine Sx.up (fun _ kk => r_callS (M := mX12_stepOn) (pc := 198) 201 dX12_stepOn_198 rfl k12_202 hmk rfl rfl (Nat.le_of_ble_eq_true rfl) kk) ?_
        rw [b01_t h3]
        refine Sx.up (fun _ kk => r_if_eq 204 208 dX12_stepOn_201 rfl (by decide) (fun h201 => absurd h201 (by decide)) (fun _ => kk)) ?_
        refine Sx.up (fun _ kk => r_iconst (3) 205 dX12_stepOn_204 rfl (by decide) kk) ?_
        refine Sx.up (fun _ kk => r_goto 209 dX12_stepOn_205 (by decide) kk) ?_
        refine Sx.up (fun _ kk => r_putI 212 dX12_stepOn_209 rfl f12_182 rfl lt95 kk) ?_
        refine k212 _ _ (mf_sI (by decide) (mf_sI (by decide) hm)) ?_ i5 ?_ (fun z => absurd (hkd.symm.trans z) h2)
        · rw [gI_sI, if_neg (by decide), gI_sI, if_pos ⟨rfl, rfl⟩, nI_pp, hte1]
        · rw [gI_sI, if_pos ⟨rfl, rfl⟩, hkd]
          rw [h3]; rfl
      refine Sx.up (fun _ kk => r_aload_n 40 dX12_stepOn_39 rfl rfl kk) ?_
      refine Sx.up (fun _ kk => r_aload_n 41 dX12_stepOn_40 rfl rfl kk) ?_
      refine Sx.up (fun _ kk => r_getIV (nI a) 44 dX12_stepOn_41 rfl f12_172 rfl rfl lt95 (by first | exact i1 | exact g1) kk) ?_
      refine Sx.up (fun _ kk => r_putI 47 dX12_stepOn_44 rfl f12_179 rfl lt95 kk) ?_
      rw [hE3]
      refine Sx.up (fun _ kk => r_aload_n 48 dX12_stepOn_47 rfl rfl kk) ?_
      refine Sx.up (fun _ kk => r_aload_n 49 dX12_stepOn_48 rfl rfl kk) ?_
      refine Sx.up (fun _ kk => r_getIV (nI a) 52 dX12_stepOn_49 rfl f12_172 rfl rfl lt95 (by first | exact i1 | exact g1) kk) ?_
      refine Sx.up (fun _ kk => r_callV (M := mX12_stepOn) (pc := 52) 55 dX12_stepOn_52 rfl k12_175 hby rfl rfl rfl (by decide) rfl lt95 (Nat.le_of_ble_eq_true rfl) kk) ?_
      refine Sx.less (ls := [some (.ref 95), none]) (by exact ⟨rfl, trivial⟩) ?_
      refine Sx.up (fun _ kk => r_istore_n 56 dX12_stepOn_55 rfl (by decide) rfl kk) ?_
      refine Sx.up (fun _ kk => r_iload_n 57 dX12_stepOn_56 rfl rfl kk) ?_
      refine Sx.up (fun _ kk => r_iconst (-1) 58 dX12_stepOn_57 rfl (by decide) kk) ?_
      refine Sx.up (fun _ kk => r_icmp_ne 61 69 dX12_stepOn_58 rfl (by decide) (fun _ => kk) (fun h58 => absurd h58 hne)) ?_
      refine Sx.up (fun _ kk => r_iload_n 70 dX12_stepOn_69 rfl rfl kk) ?_
      refine Sx.up (fun _ kk => r_callS (M := mX12_stepOn) (pc := 70) 73 dX12_stepOn_70 rfl k12_185 hle rfl rfl (Nat.le_of_ble_eq_true rfl) kk) ?_
      rw [b01_f h1]
      refine Sx.up (fun _ kk => r_if_eq 76 111 dX12_stepOn_73 rfl (by decide) (fun _ => kk) (fun h73 => absurd rfl h73)) ?_
      refine Sx.up (fun _ kk => r_iload_n 112 dX12_stepOn_111 rfl rfl kk) ?_
      refine Sx.up (fun _ kk => r_callS (M := mX12_stepOn) (pc := 112) 115 dX12_stepOn_112 rfl k12_189 hdi rfl rfl (Nat.le_of_ble_eq_true rfl) kk) ?_
      rw [b01_f h2]
      refine Sx.up (fun _ kk => r_if_eq 118 186 dX12_stepOn_115 rfl (by decide) (fun _ => kk) (fun h115 => absurd rfl h115)) ?_
      refine Sx.up (fun _ kk => r_aload_n 187 dX12_stepOn_186 rfl rfl kk) ?_
      refine Sx.up (fun _ kk => r_dup 188 dX12_stepOn_187 rfl rfl kk) ?_
      refine Sx.up (fun _ kk => r_getIV (nI a) 191 dX12_stepOn_188 rfl f12_172 rfl rfl lt95 (by first | exact i1 | exact g1) kk) ?_
      refine Sx.up (fun _ kk => r_iconst (1) 192 dX12_stepOn_191 rfl (by decide) kk) ?_
      refine Sx.up (fun _ kk => r_iadd 193 dX12_stepOn_192 rfl kk) ?_
      refine Sx.up (fun _ kk => r_putI 196 dX12_stepOn_193 rfl f12_172 rfl lt95 kk) ?_
      refine Sx.up (fun _ kk => r_aload_n 197 dX12_stepOn_196 rfl rfl kk) ?_
      refine Sx.up (fun _ kk => r_iload_n 198 dX12_stepOn_197 rfl rfl kk) ?_
      refine Sx.up (fun _ kk => r_callS (M := mX12_stepOn) (pc := 198) 201 dX12_stepOn_198 rfl k12_202 hmk rfl rfl (Nat.le_of_ble_eq_true rfl) kk) ?_
      rw [b01_f h3]
      refine Sx.up (fun _ kk => r_if_eq 204 208 dX12_stepOn_201 rfl (by decide) (fun _ => kk) (fun h201 => absurd rfl h201)) ?_
      refine Sx.up (fun _ kk => r_iconst (4) 209 dX12_stepOn_208 rfl (by decide) kk) ?_
      refine Sx.up (fun _ kk => r_putI 212 dX12_stepOn_209 rfl f12_182 rfl lt95 kk) ?_
      refine k212 _ _ (mf_sI (by decide) (mf_sI (by decide) hm)) ?_ i5 ?_ (fun z => absurd (hkd.symm.trans z) h2)
      · rw [gI_sI, if_neg (by decide), gI_sI, if_pos ⟨rfl, rfl⟩, nI_pp, hte1]
      · rw [gI_sI, if_pos ⟨rfl, rfl⟩, hkd]
        have h5 : clsT (T.1 a) = 5 := by have := cls_pos (T.1 a); have h4 : ¬ clsT (T.1 a) = 4 := fun z => hk4 (hkd.trans z); omega
        rw [h5]; rfl
    · have hkd := kd_0 (T := T) hl
      have hmb : mbF T a = -1 := if_neg hl
      rw [hmb] at hby
      have hte1 : toE T a = a := by unfold toE; rw [if_pos hkd]
      refine Sx.up (fun _ kk => r_aload_n 40 dX12_stepOn_39 rfl rfl kk) ?_
      refine Sx.up (fun _ kk => r_aload_n 41 dX12_stepOn_40 rfl rfl kk) ?_
      refine Sx.up (fun _ kk => r_getIV (nI a) 44 dX12_stepOn_41 rfl f12_172 rfl rfl lt95 (by first | exact i1 | exact g1) kk) ?_
      refine Sx.up (fun _ kk => r_putI 47 dX12_stepOn_44 rfl f12_179 rfl lt95 kk) ?_
      rw [hE3]
      refine Sx.up (fun _ kk => r_aload_n 48 dX12_stepOn_47 rfl rfl kk) ?_
      refine Sx.up (fun _ kk => r_aload_n 49 dX12_stepOn_48 rfl rfl kk) ?_
      refine Sx.up (fun _ kk => r_getIV (nI a) 52 dX12_stepOn_49 rfl f12_172 rfl rfl lt95 (by first | exact i1 | exact g1) kk) ?_
      refine Sx.up (fun _ kk => r_callV (M := mX12_stepOn) (pc := 52) 55 dX12_stepOn_52 rfl k12_175 hby rfl rfl rfl (by decide) rfl lt95 (Nat.le_of_ble_eq_true rfl) kk) ?_
      refine Sx.less (ls := [some (.ref 95), none]) (by exact ⟨rfl, trivial⟩) ?_
      refine Sx.up (fun _ kk => r_istore_n 56 dX12_stepOn_55 rfl (by decide) rfl kk) ?_
      refine Sx.up (fun _ kk => r_iload_n 57 dX12_stepOn_56 rfl rfl kk) ?_
      refine Sx.up (fun _ kk => r_iconst (-1) 58 dX12_stepOn_57 rfl (by decide) kk) ?_
      refine Sx.up (fun _ kk => r_icmp_ne 61 69 dX12_stepOn_58 rfl (by decide) (fun h58 => absurd h58 (fun z => z rfl)) (fun _ => kk)) ?_
      refine Sx.up (fun _ kk => r_aload_n 62 dX12_stepOn_61 rfl rfl kk) ?_
      refine Sx.up (fun _ kk => r_iconst (0) 63 dX12_stepOn_62 rfl (by decide) kk) ?_
      refine Sx.up (fun _ kk => r_putI 66 dX12_stepOn_63 rfl f12_182 rfl lt95 kk) ?_
      refine Sx.up (fun _ kk => r_goto 212 dX12_stepOn_66 (by decide) kk) ?_
      refine k212 _ _ (mf_sI (by decide) hm) (by rw [hte1]; exact i1) i5 ?_ (fun z => by omega)
      rw [gI_sI, if_pos ⟨rfl, rfl⟩, hkd]; rfl
  have k0 : ∀ f j E2, j + f = T.2 → MF gsT [] E E2 → gI E2 1551 95 = nI j → runT T 4 j = a → Sx mX12_stepOn (d + 1) 0 0 (fun o => ∃ E2, o = (.inl none, E2, 137) ∧ MF gsT [] E E2 ∧ TmA E2 T a) 0 [some (.ref 95), none] [] E2 137 := by
    intro f
    induction f with
    | zero =>
      intro j E2 hj hm g1 hr
      have hF := tmf_mf hm (by decide) (by decide) h
      have hja : j = a := by rw [← hr]; exact (runT_n (by omega)).symm
      have hby := c_byteAt (d := d) (j := j) hT hF (by omega)
      have hmb : mbF T j = -1 := if_neg (by omega)
      rw [hmb] at hby
      refine Sx.up (fun _ kk => r_aload_n 1 dX12_stepOn_0 rfl rfl kk) ?_
      refine Sx.up (fun _ kk => r_aload_n 2 dX12_stepOn_1 rfl rfl kk) ?_
      refine Sx.up (fun _ kk => r_getIV (nI j) 5 dX12_stepOn_2 rfl f12_172 rfl rfl lt95 (g1) kk) ?_
      refine Sx.up (fun _ kk => r_callV (M := mX12_stepOn) (pc := 5) 8 dX12_stepOn_5 rfl k12_175 hby rfl rfl rfl (by decide) rfl lt95 (Nat.le_of_ble_eq_true rfl) kk) ?_
      refine Sx.up (fun _ kk => r_bipush (32) 10 dX12_stepOn_8 rfl (by decide) kk) ?_
      refine Sx.up (fun _ kk => r_icmp_eq 13 26 dX12_stepOn_10 rfl (by decide) (fun h10 => absurd h10 (by decide)) (fun _ => kk)) ?_
      refine Sx.up (fun _ kk => r_aload_n 14 dX12_stepOn_13 rfl rfl kk) ?_
      refine Sx.up (fun _ kk => r_aload_n 15 dX12_stepOn_14 rfl rfl kk) ?_
      refine Sx.up (fun _ kk => r_getIV (nI j) 18 dX12_stepOn_15 rfl f12_172 rfl rfl lt95 (g1) kk) ?_
      refine Sx.up (fun _ kk => r_callV (M := mX12_stepOn) (pc := 18) 21 dX12_stepOn_18 rfl k12_175 hby rfl rfl rfl (by decide) rfl lt95 (Nat.le_of_ble_eq_true rfl) kk) ?_
      refine Sx.up (fun _ kk => r_bipush (10) 23 dX12_stepOn_21 rfl (by decide) kk) ?_
      refine Sx.up (fun _ kk => r_icmp_ne 26 39 dX12_stepOn_23 rfl (by decide) (fun _ => kk) (fun h23 => absurd h23 (by decide))) ?_
      exact k39 E2 _ hm (by rw [← hja]; exact g1)
    | succ f ih =>
      intro j E2 hj hm g1 hr
      have hF := tmf_mf hm (by decide) (by decide) h
      have hby := c_byteAt (d := d) (j := j) hT hF (by omega)
      have hmb : mbF T j = T.1 j := if_pos (by omega)
      rw [hmb] at hby
      have next : clsT (T.1 j) = 4 → Sx mX12_stepOn (d + 1) 0 0 (fun o => ∃ E2, o = (.inl none, E2, 137) ∧ MF gsT [] E E2 ∧ TmA E2 T a) 0 [some (.ref 95), none] [] (sI E2 1551 95 (nI j + 1)) 137 := fun hc => by
        refine ih (j + 1) _ (by omega) (mf_sI (by decide) hm) ?_ ?_
        · rw [gI_sI, if_pos ⟨rfl, rfl⟩, nI_pp]
        · rw [← runT_y (by omega) hc]; exact hr
      refine Sx.up (fun _ kk => r_aload_n 1 dX12_stepOn_0 rfl rfl kk) ?_
      refine Sx.up (fun _ kk => r_aload_n 2 dX12_stepOn_1 rfl rfl kk) ?_
      refine Sx.up (fun _ kk => r_getIV (nI j) 5 dX12_stepOn_2 rfl f12_172 rfl rfl lt95 (g1) kk) ?_
      refine Sx.up (fun _ kk => r_callV (M := mX12_stepOn) (pc := 5) 8 dX12_stepOn_5 rfl k12_175 hby rfl rfl rfl (by decide) rfl lt95 (Nat.le_of_ble_eq_true rfl) kk) ?_
      refine Sx.up (fun _ kk => r_bipush (32) 10 dX12_stepOn_8 rfl (by decide) kk) ?_
      refine Sx.br (fun _ ka kb => r_icmp_eq 13 26 dX12_stepOn_10 rfl (by decide) ka kb) (by first | exact em1 | exact em2) (fun h10 => ?_) (fun h10 => ?_)
      · refine Sx.up (fun _ kk => r_aload_n 27 dX12_stepOn_26 rfl rfl kk) ?_
        refine Sx.up (fun _ kk => r_dup 28 dX12_stepOn_27 rfl rfl kk) ?_
        refine Sx.up (fun _ kk => r_getIV (nI j) 31 dX12_stepOn_28 rfl f12_172 rfl rfl lt95 (g1) kk) ?_
        refine Sx.up (fun _ kk => r_iconst (1) 32 dX12_stepOn_31 rfl (by decide) kk) ?_
        refine Sx.up (fun _ kk => r_iadd 33 dX12_stepOn_32 rfl kk) ?_
        refine Sx.up (fun _ kk => r_putI 36 dX12_stepOn_33 rfl f12_172 rfl lt95 kk) ?_
        refine Sx.up (fun _ kk => r_goto 0 dX12_stepOn_36 (by decide) kk) ?_
        exact next ((cls_b _).mpr (by first | exact Or.inl h10 | exact Or.inr h23))
      · refine Sx.up (fun _ kk => r_aload_n 14 dX12_stepOn_13 rfl rfl kk) ?_
        refine Sx.up (fun _ kk => r_aload_n 15 dX12_stepOn_14 rfl rfl kk) ?_
        refine Sx.up (fun _ kk => r_getIV (nI j) 18 dX12_stepOn_15 rfl f12_172 rfl rfl lt95 (g1) kk) ?_
        refine Sx.up (fun _ kk => r_callV (M := mX12_stepOn) (pc := 18) 21 dX12_stepOn_18 rfl k12_175 hby rfl rfl rfl (by decide) rfl lt95 (Nat.le_of_ble_eq_true rfl) kk) ?_
        refine Sx.up (fun _ kk => r_bipush (10) 23 dX12_stepOn_21 rfl (by decide) kk) ?_
        refine Sx.br (fun _ ka kb => r_icmp_ne 26 39 dX12_stepOn_23 rfl (by decide) ka kb) (by first | exact em1 | exact em2) (fun h23 => ?_) (fun h23 => ?_)
        · refine k39 E2 _ hm ?_
          rw [← hr, runT_n (fun z => ((cls_b _).mp z.2).elim h10 h23)]; exact g1
        · refine Sx.up (fun _ kk => r_aload_n 27 dX12_stepOn_26 rfl rfl kk) ?_
          refine Sx.up (fun _ kk => r_dup 28 dX12_stepOn_27 rfl rfl kk) ?_
          refine Sx.up (fun _ kk => r_getIV (nI j) 31 dX12_stepOn_28 rfl f12_172 rfl rfl lt95 (g1) kk) ?_
          refine Sx.up (fun _ kk => r_iconst (1) 32 dX12_stepOn_31 rfl (by decide) kk) ?_
          refine Sx.up (fun _ kk => r_iadd 33 dX12_stepOn_32 rfl kk) ?_
          refine Sx.up (fun _ kk => r_putI 36 dX12_stepOn_33 rfl f12_172 rfl lt95 kk) ?_
          refine Sx.up (fun _ kk => r_goto 0 dX12_stepOn_36 (by decide) kk) ?_
          exact next ((cls_b _).mpr (by first | exact Or.inl h10 | exact Or.inr h23))
  exact k0 (T.2 - q) q E (by omega) mf_rfl hq ha
