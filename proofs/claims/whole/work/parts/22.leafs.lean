/-! Sleeper, Lier, Pile, Rule -/
/-- less is known of the locals -/
def lsub : List (Option Value) → List (Option Value) → Prop
  | [], _ => True
  | none :: a, _ :: b => lsub a b
  | some v :: a, w :: b => w = some v ∧ lsub a b
  | _ :: _, [] => False
theorem lsub_get : ∀ {a b : List (Option Value)}, lsub a b → ∀ (i : Nat) (v : Value), a[i]? = some (some v) → b[i]? = some (some v) := by
  intro a
  induction a with
  | nil => intro b _ i v h; simp at h
  | cons x a ih =>
    intro b hs i v h
    cases b with
    | nil => cases x <;> exact hs.elim
    | cons y b =>
      cases x with
      | none =>
        cases i with
        | zero => cases h
        | succ i => exact ih (b := b) hs i v h
      | some w =>
        cases i with
        | zero => cases h; show some y = some (some _); rw [hs.1]
        | succ i => exact ih hs.2 i v h
theorem Sm.less {M : MI} {d bc bs n pc : Nat} {out : OUT} {ls ls2 : List (Option Value)} {st : List Value} {E : HP} (h : lsub ls ls2) (kk : Sm M d bc bs out pc ls st E n) : Sm M d bc bs out pc ls2 st E n := by
  intro G p l e s m args below meth c R H locs cells slots lsA Q C F hS hW hl h1 h2
  exact kk G p l e s m args below meth c R H locs cells slots lsA Q C F hS hW ⟨hl.1, hl.2.1, fun i v hv => hl.2.2 i v (lsub_get h i v hv)⟩ h1 h2
def slCan (k : Int32) : Int32 := if k = 1 then 0 else if k = 3 then 0 else 1
theorem slCan_01 (k : Int32) : slCan k = 0 ∨ slCan k = 1 := by unfold slCan; split; exact Or.inl rfl; split; exact Or.inl rfl; exact Or.inr rfl
def liTired (E : HP) (h w : Nat) : Int32 := gI E 133 h + if gI E 132 h = 0 then gI E 1025 w else gI E 1026 w
def liIs (E : HP) (h w : Nat) (m : Int32) : Int32 := if gI E 1024 w = 3 then 0 else if m < liTired E h w then 0 else 1
def liOver (E : HP) (h w : Nat) (m : Int32) : HP := if gI E 1024 w = 3 then E else sI (sI E 132 h (1 - gI E 132 h)) 133 h m
def liAwake (E : HP) (h : Nat) (m a : Int32) : Int32 := if gI E 134 h ≤ 0 then 0 else if a ≤ m - gI E 134 h then 0 else 1
set_option maxRecDepth 20000 in
theorem c_X8_tellSides {d n h : Nat} {E : HP} {a b c : Int32} (hs : sh h = (8, 0)) (hn : h < n) : Cl yX8_tellSides mX8_tellSides (d) 0 0 [.ref h, .int a, .int b, .int c] E n (.inl none, (sI (sI (sI E 1025 h a) 1026 h b) 1027 h c), n) := by
  refine Cl.of (by decide) rfl (fun q => by cases q) rfl rfl (Nat.le_of_ble_eq_true rfl) ?_
  show Sm _ _ _ _ _ 0 [some (.ref h), some (.int a), some (.int b), some (.int c)] [] _ _
  refine r_aload_n 1 dX8_tellSides_0 rfl rfl ?_
  refine r_iload_n 2 dX8_tellSides_1 rfl rfl ?_
  refine r_putI 5 dX8_tellSides_2 rfl f8_15 (by first | with_reducible assumption | decide | omega) (by first | with_reducible assumption | decide | omega) ?_
  refine r_aload_n 6 dX8_tellSides_5 rfl rfl ?_
  refine r_iload_n 7 dX8_tellSides_6 rfl rfl ?_
  refine r_putI 10 dX8_tellSides_7 rfl f8_18 (by first | with_reducible assumption | decide | omega) (by first | with_reducible assumption | decide | omega) ?_
  refine r_aload_n 11 dX8_tellSides_10 rfl rfl ?_
  refine r_iload_n 12 dX8_tellSides_11 rfl rfl ?_
  refine r_putI 15 dX8_tellSides_12 rfl f8_21 (by first | with_reducible assumption | decide | omega) (by first | with_reducible assumption | decide | omega) ?_
  exact r_vret dX8_tellSides_15 rfl rfl (rfl)
set_option maxRecDepth 20000 in
theorem c_X8_tellOut {d n h : Nat} {E : HP} {a b : Int32} (hs : sh h = (8, 0)) (hn : h < n) : Cl yX8_tellOut mX8_tellOut (d) 0 0 [.ref h, .int a, .int b] E n (.inl none, (sI (sI E 1029 h a) 1030 h b), n) := by
  refine Cl.of (by decide) rfl (fun q => by cases q) rfl rfl (Nat.le_of_ble_eq_true rfl) ?_
  show Sm _ _ _ _ _ 0 [some (.ref h), some (.int a), some (.int b)] [] _ _
  refine r_aload_n 1 dX8_tellOut_0 rfl rfl ?_
  refine r_iload_n 2 dX8_tellOut_1 rfl rfl ?_
  refine r_putI 5 dX8_tellOut_2 rfl f8_27 (by first | with_reducible assumption | decide | omega) (by first | with_reducible assumption | decide | omega) ?_
  refine r_aload_n 6 dX8_tellOut_5 rfl rfl ?_
  refine r_iload_n 7 dX8_tellOut_6 rfl rfl ?_
  refine r_putI 10 dX8_tellOut_7 rfl f8_30 (by first | with_reducible assumption | decide | omega) (by first | with_reducible assumption | decide | omega) ?_
  exact r_vret dX8_tellOut_10 rfl rfl (rfl)
set_option maxRecDepth 20000 in
theorem c_X8_tell {d n h : Nat} {E : HP} {a b : Int32} (hs : sh h = (8, 0)) (hn : h < n) : Cl yX8_tell mX8_tell (d + 1) 0 0 [.ref h, .int a, .int b] E n (.inl none, (sI (sI (sI (sI (sI (sI (sI E 1024 h a) 1028 h b) 1025 h 0) 1026 h 0) 1027 h 0) 1029 h 0) 1030 h 0), n) := by
  refine Cl.of (by decide) rfl (fun q => by cases q) rfl rfl (Nat.le_of_ble_eq_true rfl) ?_
  show Sm _ _ _ _ _ 0 [some (.ref h), some (.int a), some (.int b)] [] _ _
  refine r_aload_n 1 dX8_tell_0 rfl rfl ?_
  refine r_iload_n 2 dX8_tell_1 rfl rfl ?_
  refine r_putI 5 dX8_tell_2 rfl f8_9 (by first | with_reducible assumption | decide | omega) (by first | with_reducible assumption | decide | omega) ?_
  refine r_aload_n 6 dX8_tell_5 rfl rfl ?_
  refine r_iload_n 7 dX8_tell_6 rfl rfl ?_
  refine r_putI 10 dX8_tell_7 rfl f8_24 (by first | with_reducible assumption | decide | omega) (by first | with_reducible assumption | decide | omega) ?_
  refine r_aload_n 11 dX8_tell_10 rfl rfl ?_
  refine r_iconst (0) 12 dX8_tell_11 rfl (by decide) ?_
  refine r_iconst (0) 13 dX8_tell_12 rfl (by decide) ?_
  refine r_iconst (0) 14 dX8_tell_13 rfl (by decide) ?_
  refine r_callV (M := mX8_tell) (pc := 14) 17 dX8_tell_14 rfl k8_33 (c_X8_tellSides hs hn) rfl rfl (by first | with_reducible assumption | decide | omega) (by decide) rfl (by first | with_reducible assumption | decide | omega) (Nat.le_of_ble_eq_true rfl) ?_
  refine r_aload_n 18 dX8_tell_17 rfl rfl ?_
  refine r_iconst (0) 19 dX8_tell_18 rfl (by decide) ?_
  refine r_iconst (0) 20 dX8_tell_19 rfl (by decide) ?_
  refine r_callV (M := mX8_tell) (pc := 20) 23 dX8_tell_20 rfl k8_37 (c_X8_tellOut hs hn) rfl rfl (by first | with_reducible assumption | decide | omega) (by decide) rfl (by first | with_reducible assumption | decide | omega) (Nat.le_of_ble_eq_true rfl) ?_
  exact r_vret dX8_tell_23 rfl rfl (rfl)
set_option maxRecDepth 20000 in
theorem c_X8_canWake {d n h : Nat} {E : HP} (hs : sh h = (8, 0)) (hn : h < n) : Cl yX8_canWake mX8_canWake (d) 0 0 [.ref h] E n (.inl (some (.int (slCan (gI E 1024 h)))), E, n) := by
  refine Cl.of (by decide) rfl (fun q => by cases q) rfl rfl (Nat.le_of_ble_eq_true rfl) ?_
  show Sm _ _ _ _ _ 0 [some (.ref h)] [] _ _
  refine r_aload_n 1 dX8_canWake_0 rfl rfl ?_
  refine r_getI 4 dX8_canWake_1 rfl f8_9 rfl (by first | with_reducible assumption | decide | omega) (by first | with_reducible assumption | decide | omega) ?_
  refine r_iconst (1) 5 dX8_canWake_4 rfl (by decide) ?_
  refine r_icmp_eq 8 20 dX8_canWake_5 rfl (by decide) (fun h5 => ?_) (fun h5 => ?_)
  · refine r_iconst (0) 21 dX8_canWake_20 rfl (by decide) ?_
    exact r_zret dX8_canWake_21 rfl rfl (by decide) (by simp [slCan, *])
  · refine r_aload_n 9 dX8_canWake_8 rfl rfl ?_
    refine r_getI 12 dX8_canWake_9 rfl f8_9 rfl (by first | with_reducible assumption | decide | omega) (by first | with_reducible assumption | decide | omega) ?_
    refine r_iconst (3) 13 dX8_canWake_12 rfl (by decide) ?_
    refine r_icmp_eq 16 20 dX8_canWake_13 rfl (by decide) (fun h13 => ?_) (fun h13 => ?_)
    · refine r_iconst (0) 21 dX8_canWake_20 rfl (by decide) ?_
      exact r_zret dX8_canWake_21 rfl rfl (by decide) (by simp [slCan, *])
    · refine r_iconst (1) 17 dX8_canWake_16 rfl (by decide) ?_
      refine r_goto 21 dX8_canWake_17 (by decide) ?_
      exact r_zret dX8_canWake_21 rfl rfl (by decide) (by simp [slCan, *])
set_option maxRecDepth 20000 in
theorem c_X1_lieDown {d n h w : Nat} {E : HP} {a b c e : Int32} (hs : sh h = (1, 0)) (hn : h < n) : Cl yX1_lieDown mX1_lieDown (d) 0 0 [.ref h, .ref w, .int a, .int b, .int c, .int e] E n (.inl none, (sI (sI (sI (sI (sI (sI (sI (sI (sR E 128 h (some w)) 129 h a) 130 h b) 131 h c) 132 h e) 133 h 0) 134 h 0) 135 h 0) 136 h 0), n) := by
  refine Cl.of (by decide) rfl (fun q => by cases q) rfl rfl (Nat.le_of_ble_eq_true rfl) ?_
  show Sm _ _ _ _ _ 0 [some (.ref h), some (.ref w), some (.int a), some (.int b), some (.int c), some (.int e)] [] _ _
  refine r_aload_n 1 dX1_lieDown_0 rfl rfl ?_
  refine r_aload_n 2 dX1_lieDown_1 rfl rfl ?_
  refine r_putR 5 dX1_lieDown_2 rfl f1_36 rfl (Or.inl rfl) (by first | with_reducible assumption | decide | omega) (by first | with_reducible assumption | decide | omega) ?_
  refine r_aload_n 6 dX1_lieDown_5 rfl rfl ?_
  refine r_iload_n 7 dX1_lieDown_6 rfl rfl ?_
  refine r_putI 10 dX1_lieDown_7 rfl f1_9 (by first | with_reducible assumption | decide | omega) (by first | with_reducible assumption | decide | omega) ?_
  refine r_aload_n 11 dX1_lieDown_10 rfl rfl ?_
  refine r_iload_n 12 dX1_lieDown_11 rfl rfl ?_
  refine r_putI 15 dX1_lieDown_12 rfl f1_15 (by first | with_reducible assumption | decide | omega) (by first | with_reducible assumption | decide | omega) ?_
  refine r_aload_n 16 dX1_lieDown_15 rfl rfl ?_
  refine r_iload 18 dX1_lieDown_16 rfl rfl ?_
  refine r_putI 21 dX1_lieDown_18 rfl f1_18 (by first | with_reducible assumption | decide | omega) (by first | with_reducible assumption | decide | omega) ?_
  refine r_aload_n 22 dX1_lieDown_21 rfl rfl ?_
  refine r_iload 24 dX1_lieDown_22 rfl rfl ?_
  refine r_putI 27 dX1_lieDown_24 rfl f1_21 (by first | with_reducible assumption | decide | omega) (by first | with_reducible assumption | decide | omega) ?_
  refine r_aload_n 28 dX1_lieDown_27 rfl rfl ?_
  refine r_iconst (0) 29 dX1_lieDown_28 rfl (by decide) ?_
  refine r_putI 32 dX1_lieDown_29 rfl f1_24 (by first | with_reducible assumption | decide | omega) (by first | with_reducible assumption | decide | omega) ?_
  refine r_aload_n 33 dX1_lieDown_32 rfl rfl ?_
  refine r_iconst (0) 34 dX1_lieDown_33 rfl (by decide) ?_
  refine r_putI 37 dX1_lieDown_34 rfl f1_27 (by first | with_reducible assumption | decide | omega) (by first | with_reducible assumption | decide | omega) ?_
  refine r_aload_n 38 dX1_lieDown_37 rfl rfl ?_
  refine r_iconst (0) 39 dX1_lieDown_38 rfl (by decide) ?_
  refine r_putI 42 dX1_lieDown_39 rfl f1_30 (by first | with_reducible assumption | decide | omega) (by first | with_reducible assumption | decide | omega) ?_
  refine r_aload_n 43 dX1_lieDown_42 rfl rfl ?_
  refine r_iconst (0) 44 dX1_lieDown_43 rfl (by decide) ?_
  refine r_putI 47 dX1_lieDown_44 rfl f1_33 (by first | with_reducible assumption | decide | omega) (by first | with_reducible assumption | decide | omega) ?_
  exact r_vret dX1_lieDown_47 rfl rfl (rfl)
set_option maxRecDepth 20000 in
theorem c_X1_tiredAt {d n h w : Nat} {E : HP} (hs : sh h = (1, 0)) (hn : h < n) (hw : gR E 128 h = some w) (hsw : sh w = (8, 0)) (hwn : w < n) : Cl yX1_tiredAt mX1_tiredAt (d) 0 0 [.ref h] E n (.inl (some (.int (liTired E h w))), E, n) := by
  refine Cl.of (by decide) rfl (fun q => by cases q) rfl rfl (Nat.le_of_ble_eq_true rfl) ?_
  show Sm _ _ _ _ _ 0 [some (.ref h)] [] _ _
  refine r_aload_n 1 dX1_tiredAt_0 rfl rfl ?_
  refine r_getI 4 dX1_tiredAt_1 rfl f1_24 rfl (by first | with_reducible assumption | decide | omega) (by first | with_reducible assumption | decide | omega) ?_
  refine r_aload_n 5 dX1_tiredAt_4 rfl rfl ?_
  refine r_getI 8 dX1_tiredAt_5 rfl f1_21 rfl (by first | with_reducible assumption | decide | omega) (by first | with_reducible assumption | decide | omega) ?_
  refine r_if_ne 11 21 dX1_tiredAt_8 rfl (by decide) (fun h8 => ?_) (fun h8 => ?_)
  · refine r_aload_n 22 dX1_tiredAt_21 rfl rfl ?_
    refine r_getR 25 dX1_tiredAt_22 rfl f1_36 rfl (by first | with_reducible assumption | decide | omega) (by first | with_reducible assumption | decide | omega) (by first | with_reducible assumption | decide | omega) ?_
    refine r_getI 28 dX1_tiredAt_25 rfl f1_45 rfl (by first | with_reducible assumption | decide | omega) (by first | with_reducible assumption | decide | omega) ?_
    refine r_iadd 29 dX1_tiredAt_28 rfl ?_
    exact r_iret dX1_tiredAt_29 rfl rfl (by simp only [liTired, *, if_true, if_false])
  · refine r_aload_n 12 dX1_tiredAt_11 rfl rfl ?_
    refine r_getR 15 dX1_tiredAt_12 rfl f1_36 rfl (by first | with_reducible assumption | decide | omega) (by first | with_reducible assumption | decide | omega) (by first | with_reducible assumption | decide | omega) ?_
    refine r_getI 18 dX1_tiredAt_15 rfl f1_40 rfl (by first | with_reducible assumption | decide | omega) (by first | with_reducible assumption | decide | omega) ?_
    refine r_goto 28 dX1_tiredAt_18 (by decide) ?_
    refine r_iadd 29 dX1_tiredAt_28 rfl ?_
    exact r_iret dX1_tiredAt_29 rfl rfl (by simp only [liTired, *, if_true, if_false])
set_option maxRecDepth 20000 in
theorem c_X1_isTired {d n h w : Nat} {E : HP} {m : Int32} (hs : sh h = (1, 0)) (hn : h < n) (hw : gR E 128 h = some w) (hsw : sh w = (8, 0)) (hwn : w < n) : Cl yX1_isTired mX1_isTired (d + 1) 0 0 [.ref h, .int m] E n (.inl (some (.int (liIs E h w m))), E, n) := by
  refine Cl.of (by decide) rfl (fun q => by cases q) rfl rfl (Nat.le_of_ble_eq_true rfl) ?_
  show Sm _ _ _ _ _ 0 [some (.ref h), some (.int m)] [] _ _
  refine r_aload_n 1 dX1_isTired_0 rfl rfl ?_
  refine r_getR 4 dX1_isTired_1 rfl f1_36 rfl (by first | with_reducible assumption | decide | omega) (by first | with_reducible assumption | decide | omega) (by first | with_reducible assumption | decide | omega) ?_
  refine r_getI 7 dX1_isTired_4 rfl f1_48 rfl (by first | with_reducible assumption | decide | omega) (by first | with_reducible assumption | decide | omega) ?_
  refine r_iconst (3) 8 dX1_isTired_7 rfl (by decide) ?_
  refine r_icmp_eq 11 23 dX1_isTired_8 rfl (by decide) (fun h8 => ?_) (fun h8 => ?_)
  · refine r_iconst (0) 24 dX1_isTired_23 rfl (by decide) ?_
    exact r_zret dX1_isTired_24 rfl rfl (by decide) (by simp only [liIs, *, if_true, if_false])
  · refine r_iload_n 12 dX1_isTired_11 rfl rfl ?_
    refine r_aload_n 13 dX1_isTired_12 rfl rfl ?_
    refine r_callV (M := mX1_isTired) (pc := 13) 16 dX1_isTired_13 rfl k1_51 (c_X1_tiredAt hs hn hw hsw hwn) rfl rfl (by first | with_reducible assumption | decide | omega) (by decide) rfl (by first | with_reducible assumption | decide | omega) (Nat.le_of_ble_eq_true rfl) ?_
    refine r_icmp_lt 19 23 dX1_isTired_16 rfl (by decide) (fun h16 => ?_) (fun h16 => ?_)
    · refine r_iconst (0) 24 dX1_isTired_23 rfl (by decide) ?_
      exact r_zret dX1_isTired_24 rfl rfl (by decide) (by simp only [liIs, *, if_true, if_false])
    · refine r_iconst (1) 20 dX1_isTired_19 rfl (by decide) ?_
      refine r_goto 24 dX1_isTired_20 (by decide) ?_
      exact r_zret dX1_isTired_24 rfl rfl (by decide) (by simp only [liIs, *, if_true, if_false])
set_option maxRecDepth 20000 in
theorem c_X1_turnOver {d n h w : Nat} {E : HP} {m : Int32} (hs : sh h = (1, 0)) (hn : h < n) (hw : gR E 128 h = some w) (hsw : sh w = (8, 0)) (hwn : w < n) : Cl yX1_turnOver mX1_turnOver (d) 0 0 [.ref h, .int m] E n (.inl none, liOver E h w m, n) := by
  refine Cl.of (by decide) rfl (fun q => by cases q) rfl rfl (Nat.le_of_ble_eq_true rfl) ?_
  show Sm _ _ _ _ _ 0 [some (.ref h), some (.int m)] [] _ _
  refine r_aload_n 1 dX1_turnOver_0 rfl rfl ?_
  refine r_getR 4 dX1_turnOver_1 rfl f1_36 rfl (by first | with_reducible assumption | decide | omega) (by first | with_reducible assumption | decide | omega) (by first | with_reducible assumption | decide | omega) ?_
  refine r_getI 7 dX1_turnOver_4 rfl f1_48 rfl (by first | with_reducible assumption | decide | omega) (by first | with_reducible assumption | decide | omega) ?_
  refine r_iconst (3) 8 dX1_turnOver_7 rfl (by decide) ?_
  refine r_icmp_eq 11 26 dX1_turnOver_8 rfl (by decide) (fun h8 => ?_) (fun h8 => ?_)
  · exact r_vret dX1_turnOver_26 rfl rfl (by simp only [liOver, *, if_true, if_false] <;> rfl)
  · refine r_aload_n 12 dX1_turnOver_11 rfl rfl ?_
    refine r_iconst (1) 13 dX1_turnOver_12 rfl (by decide) ?_
    refine r_aload_n 14 dX1_turnOver_13 rfl rfl ?_
    refine r_getI 17 dX1_turnOver_14 rfl f1_21 rfl (by first | with_reducible assumption | decide | omega) (by first | with_reducible assumption | decide | omega) ?_
    refine r_isub 18 dX1_turnOver_17 rfl ?_
    refine r_putI 21 dX1_turnOver_18 rfl f1_21 (by first | with_reducible assumption | decide | omega) (by first | with_reducible assumption | decide | omega) ?_
    refine r_aload_n 22 dX1_turnOver_21 rfl rfl ?_
    refine r_iload_n 23 dX1_turnOver_22 rfl rfl ?_
    refine r_putI 26 dX1_turnOver_23 rfl f1_24 (by first | with_reducible assumption | decide | omega) (by first | with_reducible assumption | decide | omega) ?_
    exact r_vret dX1_turnOver_26 rfl rfl (by simp only [liOver, *, if_true, if_false] <;> rfl)
set_option maxRecDepth 20000 in
theorem c_X1_isAwake {d n h : Nat} {E : HP} {m a : Int32} (hs : sh h = (1, 0)) (hn : h < n) : Cl yX1_isAwake mX1_isAwake (d) 0 0 [.ref h, .int m, .int a] E n (.inl (some (.int (liAwake E h m a))), E, n) := by
  refine Cl.of (by decide) rfl (fun q => by cases q) rfl rfl (Nat.le_of_ble_eq_true rfl) ?_
  show Sm _ _ _ _ _ 0 [some (.ref h), some (.int m), some (.int a)] [] _ _
  refine r_aload_n 1 dX1_isAwake_0 rfl rfl ?_
  refine r_getI 4 dX1_isAwake_1 rfl f1_27 rfl (by first | with_reducible assumption | decide | omega) (by first | with_reducible assumption | decide | omega) ?_
  refine r_if_le 7 21 dX1_isAwake_4 rfl (by decide) (fun h4 => ?_) (fun h4 => ?_)
  · refine r_iconst (0) 22 dX1_isAwake_21 rfl (by decide) ?_
    exact r_zret dX1_isAwake_22 rfl rfl (by decide) (by simp only [liAwake, *, if_true, if_false])
  · refine r_iload_n 8 dX1_isAwake_7 rfl rfl ?_
    refine r_aload_n 9 dX1_isAwake_8 rfl rfl ?_
    refine r_getI 12 dX1_isAwake_9 rfl f1_27 rfl (by first | with_reducible assumption | decide | omega) (by first | with_reducible assumption | decide | omega) ?_
    refine r_isub 13 dX1_isAwake_12 rfl ?_
    refine r_iload_n 14 dX1_isAwake_13 rfl rfl ?_
    refine r_icmp_ge 17 21 dX1_isAwake_14 rfl (by decide) (fun h14 => ?_) (fun h14 => ?_)
    · refine r_iconst (0) 22 dX1_isAwake_21 rfl (by decide) ?_
      exact r_zret dX1_isAwake_22 rfl rfl (by decide) (by simp only [liAwake, *, if_true, if_false])
    · refine r_iconst (1) 18 dX1_isAwake_17 rfl (by decide) ?_
      refine r_goto 22 dX1_isAwake_18 (by decide) ?_
      exact r_zret dX1_isAwake_22 rfl rfl (by decide) (by simp only [liAwake, *, if_true, if_false])
def PileOK (E : HP) (n h l : Nat) : Prop := sh h = (3, 0) ∧ gR E 385 h = some (h + 1) ∧ RowOK E n (h + 1) l ∧ h < n
theorem po_put {E : HP} {n h l g m : Nat} {i v : Int32} (o : PileOK E n h l) : PileOK (rPut E g m i v) n h l := by
  unfold rPut
  split
  · exact o
  · split
    · exact o
    · exact o
def piAt (E : HP) (h l : Nat) (i j : Int32) : Int32 := rAt E (h + 1) l (i * 3 + j)
/-- one put of the numbers, then the next -/
def piDrop1 (h l : Nat) (E : HP) (i : Nat) : HP := rPut E (h + 1) l (nI i - 3) (rAt E (h + 1) l (nI i))
def piDropL (h l : Nat) : Nat → HP → HP := itF fun k E => piDrop1 h l E (3 + k)
def piDrop (h l : Nat) (k : Nat) (E : HP) : HP := sI (piDropL h l (k * 3 - 3) E) 386 h (gI E 386 h - 1)
def piPut3 (E : HP) (h l : Nat) (a b c : Int32) : HP := rPut (rPut (rPut E (h + 1) l (gI E 386 h * 3) a) (h + 1) l (gI E 386 h * 3 + 1) b) (h + 1) l (gI E 386 h * 3 + 2) c
theorem gI_rPut {E : HP} {h l g k : Nat} {i v : Int32} : gI (rPut E h l i v) g k = gI E g k := by
  unfold rPut
  split
  · rfl
  · split
    · rfl
    · rfl
theorem gR_rPut {E : HP} {h l g k : Nat} {i v : Int32} : gR (rPut E h l i v) g k = gR E g k := by
  unfold rPut
  split
  · rfl
  · split
    · rfl
    · rfl
theorem gI_itF {f : Nat → HP → HP} {g k : Nat} (h : ∀ i E, gI (f i E) g k = gI E g k) : ∀ (i : Nat) (E : HP), gI (itF f i E) g k = gI E g k := by
  intro i
  induction i with
  | zero => intro E; rfl
  | succ i ih => intro E; show gI (f i (itF f i E)) g k = _; rw [h, ih]
theorem gI_piDropL {E : HP} {h l k g j : Nat} : gI (piDropL h l k E) g j = gI E g j := gI_itF (fun _ _ => gI_rPut) k E
theorem po_dropL {E : HP} {n h l g m k : Nat} (o : PileOK E n h l) : PileOK (piDropL g m k E) n h l := itF_keep (f := fun k E => piDrop1 g m E (3 + k)) (P := fun E => PileOK E n h l) (fun _ _ q => po_put q) k o
theorem po_sI {E : HP} {n h l g k : Nat} {v : Int32} (o : PileOK E n h l) : PileOK (sI E g k v) n h l := o
set_option maxRecDepth 20000 in
theorem c_X3_clear {d n h : Nat} {E : HP} (o1 : sh h = (3, 0)) (o4 : h < n) : Cl yX3_clear mX3_clear (d) 0 0 [.ref h] E n (.inl none, sI E 386 h 0, n) := by
  refine Cl.of (by decide) rfl (fun q => by cases q) rfl rfl (Nat.le_of_ble_eq_true rfl) ?_
  show Sm _ _ _ _ _ 0 [some (.ref h)] [] _ _
  refine r_aload_n 1 dX3_clear_0 rfl rfl ?_
  refine r_iconst (0) 2 dX3_clear_1 rfl (by decide) ?_
  refine r_putI 5 dX3_clear_2 rfl f3_7 (by first | with_reducible assumption | decide | omega) (by first | with_reducible assumption | decide | omega) ?_
  exact r_vret dX3_clear_5 rfl rfl (rfl)
set_option maxRecDepth 20000 in
theorem c_X3_at {d n h l : Nat} {E : HP} {i j : Int32} (ok : PileOK E n h l) : Cl yX3_at mX3_at (d + 1) 0 0 [.ref h, .int i, .int j] E n (.inl (some (.int (piAt E h l i j))), E, n) := by
  obtain ⟨o1, o2, o3, o4⟩ := id ok
  refine Cl.of (by decide) rfl (fun q => by cases q) rfl rfl (Nat.le_of_ble_eq_true rfl) ?_
  show Sm _ _ _ _ _ 0 [some (.ref h), some (.int i), some (.int j)] [] _ _
  refine r_aload_n 1 dX3_at_0 rfl rfl ?_
  refine r_getR 4 dX3_at_1 rfl f3_21 rfl (by first | assumption | exact (po_put ok).2.1 | exact ro_put o3 | exact ro_put (ro_put o3) | exact ro_1 o3 | exact ro_6 o3 | decide) (by first | assumption | exact (po_put ok).2.1 | exact ro_put o3 | exact ro_put (ro_put o3) | exact ro_1 o3 | exact ro_6 o3 | decide) (by first | assumption | exact (po_put ok).2.1 | exact ro_put o3 | exact ro_put (ro_put o3) | exact ro_1 o3 | exact ro_6 o3 | decide) ?_
  refine r_iload_n 5 dX3_at_4 rfl rfl ?_
  refine r_iconst (3) 6 dX3_at_5 rfl (by decide) ?_
  refine r_imul 7 dX3_at_6 rfl ?_
  refine r_iload_n 8 dX3_at_7 rfl rfl ?_
  refine r_iadd 9 dX3_at_8 rfl ?_
  refine r_callV (M := mX3_at) (pc := 9) 12 dX3_at_9 rfl k3_32 (c_X6_at o3) rfl rfl (by first | assumption | exact (po_put ok).2.1 | exact ro_put o3 | exact ro_put (ro_put o3) | exact ro_1 o3 | exact ro_6 o3 | decide) (by decide) rfl (by first | assumption | exact (po_put ok).2.1 | exact ro_put o3 | exact ro_put (ro_put o3) | exact ro_1 o3 | exact ro_6 o3 | decide) (Nat.le_of_ble_eq_true rfl) ?_
  exact r_iret dX3_at_12 rfl rfl (rfl)
def piLast (E : HP) (h : Nat) : HP := if gI E 386 h ≤ 0 then E else sI E 386 h (gI E 386 h - 1)
set_option maxRecDepth 20000 in
theorem c_X3_dropLatest {d n h : Nat} {E : HP} (o1 : sh h = (3, 0)) (o4 : h < n) : Cl yX3_dropLatest mX3_dropLatest (d) 0 0 [.ref h] E n (.inl none, piLast E h, n) := by
  refine Cl.of (by decide) rfl (fun q => by cases q) rfl rfl (Nat.le_of_ble_eq_true rfl) ?_
  show Sm _ _ _ _ _ 0 [some (.ref h)] [] _ _
  refine r_aload_n 1 dX3_dropLatest_0 rfl rfl ?_
  refine r_getI 4 dX3_dropLatest_1 rfl f3_7 rfl (by first | with_reducible assumption | decide | omega) (by first | with_reducible assumption | decide | omega) ?_
  refine r_if_le 7 17 dX3_dropLatest_4 rfl (by decide) (fun h4 => ?_) (fun h4 => ?_)
  · exact r_vret dX3_dropLatest_17 rfl rfl (by simp only [piLast, *, if_true, if_false])
  · refine r_aload_n 8 dX3_dropLatest_7 rfl rfl ?_
    refine r_dup 9 dX3_dropLatest_8 rfl rfl ?_
    refine r_getI 12 dX3_dropLatest_9 rfl f3_7 rfl (by first | with_reducible assumption | decide | omega) (by first | with_reducible assumption | decide | omega) ?_
    refine r_iconst (1) 13 dX3_dropLatest_12 rfl (by decide) ?_
    refine r_isub 14 dX3_dropLatest_13 rfl ?_
    refine r_putI 17 dX3_dropLatest_14 rfl f3_7 (by first | with_reducible assumption | decide | omega) (by first | with_reducible assumption | decide | omega) ?_
    exact r_vret dX3_dropLatest_17 rfl rfl (by simp only [piLast, *, if_true, if_false])
def RuleOK (E : HP) (n h : Nat) : Prop := sh h = (7, 0) ∧ gR E 896 h = some (h + 1) ∧ gR E 898 h = some (h + 3) ∧ gR E 899 h = some (h + 5) ∧ RowOK E n (h + 1) 600 ∧ RowOK E n (h + 3) 7 ∧ RowOK E n (h + 5) 40 ∧ h < n
theorem ru_put {E : HP} {n h g m : Nat} {i v : Int32} (o : RuleOK E n h) : RuleOK (rPut E g m i v) n h := by
  unfold rPut
  split
  · exact o
  · split
    · exact o
    · exact o
def ruTold (E : HP) (h : Nat) : Int32 := if gI E 897 h ≤ 0 then 0 else 1
def ruAdd (E : HP) (h : Nat) (x : Int32) : HP := sI (rPut E (h + 1) 600 (gI E 897 h) x) 897 h (gI E 897 h + 1)
set_option maxRecDepth 20000 in
theorem c_X7_clear {d n h : Nat} {E : HP} (o1 : sh h = (7, 0)) (o8 : h < n) : Cl yX7_clear mX7_clear (d) 0 0 [.ref h] E n (.inl none, sI E 897 h 0, n) := by
  refine Cl.of (by decide) rfl (fun q => by cases q) rfl rfl (Nat.le_of_ble_eq_true rfl) ?_
  show Sm _ _ _ _ _ 0 [some (.ref h)] [] _ _
  refine r_aload_n 1 dX7_clear_0 rfl rfl ?_
  refine r_iconst (0) 2 dX7_clear_1 rfl (by decide) ?_
  refine r_putI 5 dX7_clear_2 rfl f7_20 (by first | with_reducible assumption | decide | omega) (by first | with_reducible assumption | decide | omega) ?_
  exact r_vret dX7_clear_5 rfl rfl (rfl)
set_option maxRecDepth 20000 in
theorem c_X7_isTold {d n h : Nat} {E : HP} (o1 : sh h = (7, 0)) (o8 : h < n) : Cl yX7_isTold mX7_isTold (d) 0 0 [.ref h] E n (.inl (some (.int (ruTold E h))), E, n) := by
  refine Cl.of (by decide) rfl (fun q => by cases q) rfl rfl (Nat.le_of_ble_eq_true rfl) ?_
  show Sm _ _ _ _ _ 0 [some (.ref h)] [] _ _
  refine r_aload_n 1 dX7_isTold_0 rfl rfl ?_
  refine r_getI 4 dX7_isTold_1 rfl f7_20 rfl (by first | with_reducible assumption | decide | omega) (by first | with_reducible assumption | decide | omega) ?_
  refine r_if_le 7 11 dX7_isTold_4 rfl (by decide) (fun h4 => ?_) (fun h4 => ?_)
  · refine r_iconst (0) 12 dX7_isTold_11 rfl (by decide) ?_
    exact r_zret dX7_isTold_12 rfl rfl (by decide) (by simp only [ruTold, *, if_true, if_false])
  · refine r_iconst (1) 8 dX7_isTold_7 rfl (by decide) ?_
    refine r_goto 12 dX7_isTold_8 (by decide) ?_
    exact r_zret dX7_isTold_12 rfl rfl (by decide) (by simp only [ruTold, *, if_true, if_false])
set_option maxRecDepth 20000 in
theorem c_X7_add {d n h : Nat} {E : HP} {x : Int32} (ok : RuleOK E n h) : Cl yX7_add mX7_add (d + 1) 0 0 [.ref h, .int x] E n (.inl none, ruAdd E h x, n) := by
  obtain ⟨o1, o2, o3, o4, o5, o6, o7, o8⟩ := id ok
  refine Cl.of (by decide) rfl (fun q => by cases q) rfl rfl (Nat.le_of_ble_eq_true rfl) ?_
  show Sm _ _ _ _ _ 0 [some (.ref h), some (.int x)] [] _ _
  refine r_aload_n 1 dX7_add_0 rfl rfl ?_
  refine r_getR 4 dX7_add_1 rfl f7_14 rfl (by first | assumption | exact (ru_put ok).2.1 | exact ro_1 o5 | exact ro_6 o5 | exact ro_1 o6 | exact ro_6 o6 | exact ro_1 o7 | exact ro_6 o7) (by first | assumption | exact (ru_put ok).2.1 | exact ro_1 o5 | exact ro_6 o5 | exact ro_1 o6 | exact ro_6 o6 | exact ro_1 o7 | exact ro_6 o7) (by first | assumption | exact (ru_put ok).2.1 | exact ro_1 o5 | exact ro_6 o5 | exact ro_1 o6 | exact ro_6 o6 | exact ro_1 o7 | exact ro_6 o7) ?_
  refine r_aload_n 5 dX7_add_4 rfl rfl ?_
  refine r_getI 8 dX7_add_5 rfl f7_20 rfl (by first | assumption | exact (ru_put ok).2.1 | exact ro_1 o5 | exact ro_6 o5 | exact ro_1 o6 | exact ro_6 o6 | exact ro_1 o7 | exact ro_6 o7) (by first | assumption | exact (ru_put ok).2.1 | exact ro_1 o5 | exact ro_6 o5 | exact ro_1 o6 | exact ro_6 o6 | exact ro_1 o7 | exact ro_6 o7) ?_
  refine r_iload_n 9 dX7_add_8 rfl rfl ?_
  refine r_callV (M := mX7_add) (pc := 9) 12 dX7_add_9 rfl k7_30 (c_X6_put o5) rfl rfl (by first | assumption | exact (ru_put ok).2.1 | exact ro_1 o5 | exact ro_6 o5 | exact ro_1 o6 | exact ro_6 o6 | exact ro_1 o7 | exact ro_6 o7) (by decide) rfl (by first | assumption | exact (ru_put ok).2.1 | exact ro_1 o5 | exact ro_6 o5 | exact ro_1 o6 | exact ro_6 o6 | exact ro_1 o7 | exact ro_6 o7) (Nat.le_of_ble_eq_true rfl) ?_
  refine r_aload_n 13 dX7_add_12 rfl rfl ?_
  refine r_dup 14 dX7_add_13 rfl rfl ?_
  refine r_getI 17 dX7_add_14 rfl f7_20 rfl (by first | assumption | exact (ru_put ok).2.1 | exact ro_1 o5 | exact ro_6 o5 | exact ro_1 o6 | exact ro_6 o6 | exact ro_1 o7 | exact ro_6 o7) (by first | assumption | exact (ru_put ok).2.1 | exact ro_1 o5 | exact ro_6 o5 | exact ro_1 o6 | exact ro_6 o6 | exact ro_1 o7 | exact ro_6 o7) ?_
  refine r_iconst (1) 18 dX7_add_17 rfl (by decide) ?_
  refine r_iadd 19 dX7_add_18 rfl ?_
  refine r_putI 22 dX7_add_19 rfl f7_20 (by first | assumption | exact (ru_put ok).2.1 | exact ro_1 o5 | exact ro_6 o5 | exact ro_1 o6 | exact ro_6 o6 | exact ro_1 o7 | exact ro_6 o7) (by first | assumption | exact (ru_put ok).2.1 | exact ro_1 o5 | exact ro_6 o5 | exact ro_1 o6 | exact ro_6 o6 | exact ro_1 o7 | exact ro_6 o7) ?_
  exact r_vret dX7_add_22 rfl rfl (by rw [gI_rPut]; rfl)
set_option maxRecDepth 20000 in
theorem c_X7_setValue {d n h : Nat} {E : HP} {v x : Int32} (ok : RuleOK E n h) : Cl yX7_setValue mX7_setValue (d + 1) 0 0 [.ref h, .int v, .int x] E n (.inl none, rPut E (h + 3) 7 (-1 - v) x, n) := by
  obtain ⟨o1, o2, o3, o4, o5, o6, o7, o8⟩ := id ok
  refine Cl.of (by decide) rfl (fun q => by cases q) rfl rfl (Nat.le_of_ble_eq_true rfl) ?_
  show Sm _ _ _ _ _ 0 [some (.ref h), some (.int v), some (.int x)] [] _ _
  refine r_aload_n 1 dX7_setValue_0 rfl rfl ?_
  refine r_getR 4 dX7_setValue_1 rfl f7_24 rfl (by first | assumption | exact (ru_put ok).2.1 | exact ro_1 o5 | exact ro_6 o5 | exact ro_1 o6 | exact ro_6 o6 | exact ro_1 o7 | exact ro_6 o7) (by first | assumption | exact (ru_put ok).2.1 | exact ro_1 o5 | exact ro_6 o5 | exact ro_1 o6 | exact ro_6 o6 | exact ro_1 o7 | exact ro_6 o7) (by first | assumption | exact (ru_put ok).2.1 | exact ro_1 o5 | exact ro_6 o5 | exact ro_1 o6 | exact ro_6 o6 | exact ro_1 o7 | exact ro_6 o7) ?_
  refine r_iconst (-1) 5 dX7_setValue_4 rfl (by decide) ?_
  refine r_iload_n 6 dX7_setValue_5 rfl rfl ?_
  refine r_isub 7 dX7_setValue_6 rfl ?_
  refine r_iload_n 8 dX7_setValue_7 rfl rfl ?_
  refine r_callV (M := mX7_setValue) (pc := 8) 11 dX7_setValue_8 rfl k7_30 (c_X6_put o6) rfl rfl (by first | assumption | exact (ru_put ok).2.1 | exact ro_1 o5 | exact ro_6 o5 | exact ro_1 o6 | exact ro_6 o6 | exact ro_1 o7 | exact ro_6 o7) (by decide) rfl (by first | assumption | exact (ru_put ok).2.1 | exact ro_1 o5 | exact ro_6 o5 | exact ro_1 o6 | exact ro_6 o6 | exact ro_1 o7 | exact ro_6 o7) (Nat.le_of_ble_eq_true rfl) ?_
  exact r_vret dX7_setValue_11 rfl rfl (rfl)
