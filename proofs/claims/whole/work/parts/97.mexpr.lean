/-! The model's reader: expressions -/
theorem part_inl {T : TX} {ex : PS → PS} (x : Nat × Nat) : partS T ex (.inl x) = .inl x := rfl
theorem loop_inl {c : PS → Bool} {f : PS → PS} {x : Nat × Nat} (h : c (.inl x) = false) : ∀ k, loopS c f k (.inl x) = .inl x := by
  intro k
  cases k with
  | zero => rfl
  | succ k =>
    show (if c (.inl x) = true then loopS c f k (f (.inl x)) else .inl x) = _
    rw [h]; rfl
theorem prod_inl {T : TX} {ex : PS → PS} (x : Nat × Nat) : prodS T ex (.inl x) = .inl x := by unfold prodS; rw [part_inl]; exact loop_inl rfl _
theorem sum_inl {T : TX} {ex : PS → PS} (x : Nat × Nat) : sumS T ex (.inl x) = .inl x := by unfold sumS; rw [prod_inl]; exact loop_inl rfl _
theorem test_inl {T : TX} {ex : PS → PS} (x : Nat × Nat) : testS T ex (.inl x) = .inl x := by unfold testS; rw [sum_inl]; rfl
theorem nots_inl {T : TX} {ex : PS → PS} (x : Nat × Nat) : notS T ex (.inl x) = .inl x := not_inl test_inl x
theorem and_inl {T : TX} {ex : PS → PS} (x : Nat × Nat) : andS T ex (.inl x) = .inl x := by unfold andS; rw [nots_inl]; exact loop_inl rfl _
theorem or_inl {T : TX} {ex : PS → PS} (x : Nat × Nat) : orS T ex (.inl x) = .inl x := by unfold orS; rw [and_inl]; exact loop_inl rfl _
theorem expr_inl {T : TX} (l : Nat) (x : Nat × Nat) : exprS T l (.inl x) = .inl x := by
  cases l with
  | zero => rfl
  | succ l => exact or_inl x
theorem flt_inl (k : Nat) (s : PS) : ∃ x, fltS k s = .inl x := by
  cases s with
  | inl x => exact ⟨x, rfl⟩
  | inr q => exact ⟨_, rfl⟩
theorem sgn_inl {T : TX} {c : Int32} (x : Nat × Nat) : sgnS T c (.inl x) = .inl x := rfl
theorem lv_liv {T : TX} {s : PS} (h : liv T s) : lvS s := by
  obtain ⟨a, B, e, -⟩ := h
  exact ⟨_, e⟩
theorem aft_sg {T : TX} {c : Int32} {s : PS} (hT : TXok T) (h : aft 600 s) : ¬ sgS T c s = true := fun z => by
  obtain ⟨a, B, rfl, hk⟩ := liv_sg z
  have h : 600 ≤ a := h
  have := kd_ne hk
  have := hT.1
  omega
theorem aft_wd {T : TX} {w : List Int32} {s : PS} (hT : TXok T) (h : aft 600 s) : ¬ wdS T w s = true := fun z => by
  obtain ⟨a, B, rfl, hk⟩ := liv_wd z
  have h : 600 ≤ a := h
  have := kd_ne hk
  have := hT.1
  omega
theorem aft_mono {m m2 : Nat} {s : PS} (h : m2 ≤ m) (q : aft m s) : aft m2 s := by
  cases s with
  | inl x => trivial
  | inr z => exact Nat.le_trans h q
theorem aft_0 (s : PS) : aft 0 s := by
  cases s with
  | inl x => trivial
  | inr z => exact Nat.zero_le _
theorem part_other {T : TX} {ex : PS → PS} {a : Nat} {B : BD} (hx : ∀ x, ex (.inl x) = .inl x) (h1 : ¬ kdT T a = 1) (h2 : ¬ kdT T a = 2) : partS T ex (.inr (a, B)) = sgnS T 41 (ex (sgnS T 40 (.inr (a, B)))) := by
  have k1 : ¬ kiS T 1 (.inr (a, B)) = true := fun z => h1 (of_decide_eq_true z)
  have k2 : ¬ kiS T 2 (.inr (a, B)) = true := fun z => h2 (of_decide_eq_true z)
  have e : sgnS T 40 (.inr (a, B)) = if sgS T 40 (.inr (a, B)) = true then advS T (.inr (a, B)) else .inl (1, a) := rfl
  rw [e]
  unfold partS
  by_cases c : sgS T 40 (.inr (a, B)) = true
  · rw [if_pos c, if_pos c]
  · rw [if_neg c, if_neg c, if_neg k1, hx]
    unfold tkS
    rw [if_neg k2]
    rfl
theorem part_num {T : TX} {ex : PS → PS} {a : Nat} {B : BD} (h2 : kdT T a = 2) : partS T ex (.inr (a, B)) = ruS (nI (vaS T (.inr (a, B)))) (tkS T 0 9999 (.inr (a, B))) := by
  unfold partS
  rw [if_neg (fun z => by have := isS_kd (T := T) (a := a) (c := 40) z; omega), if_neg (fun z => by have : kdT T a = 1 := of_decide_eq_true z; omega)]
theorem part_wd {T : TX} {ex : PS → PS} {a : Nat} {B : BD} (h1 : kdT T a = 1) : partS T ex (.inr (a, B)) = valS T (.inr (a, B)) := by
  unfold partS
  rw [if_neg (fun z => by have := isS_kd (T := T) (a := a) (c := 40) z; omega), if_pos (show kiS T 1 (.inr (a, B)) = true from decide_eq_true h1)]
theorem vl_wh {T : TX} {s : PS} : (whF T s w_values 0 = -1 ∧ vlS T s = 0) ∨ (¬ whF T s w_values 0 = -1 ∧ ¬ vlS T s = 0 ∧ -1 - whF T s w_values 0 = vlS T s) := by
  unfold w_values vlS
  by_cases h0 : wdS T w_light s = true
  · right; unfold whF; rw [if_pos h0, if_pos h0]; decide
  rw [if_neg h0]; unfold whF; rw [if_neg h0]
  by_cases h1 : wdS T w_off s = true
  · right; unfold whF; rw [if_pos h1, if_pos h1]; decide
  rw [if_neg h1]; unfold whF; rw [if_neg h1]
  by_cases h2 : wdS T w_turns s = true
  · right; unfold whF; rw [if_pos h2, if_pos h2]; decide
  rw [if_neg h2]; unfold whF; rw [if_neg h2]
  by_cases h3 : wdS T w_hour s = true
  · right; unfold whF; rw [if_pos h3, if_pos h3]; decide
  rw [if_neg h3]; unfold whF; rw [if_neg h3]
  by_cases h4 : wdS T w_snore s = true
  · right; unfold whF; rw [if_pos h4, if_pos h4]; decide
  rw [if_neg h4]; unfold whF; rw [if_neg h4]
  by_cases h5 : wdS T w_edge s = true
  · right; unfold whF; rw [if_pos h5, if_pos h5]; decide
  rw [if_neg h5]; unfold whF; rw [if_neg h5]
  by_cases h6 : wdS T w_woken s = true
  · right; unfold whF; rw [if_pos h6, if_pos h6]; decide
  rw [if_neg h6]; unfold whF; rw [if_neg h6]
  left
  exact ⟨rfl, rfl⟩
theorem mS_vl {T : TX} {s : PS} (h : ¬ vlS T s = 0) : mS (vlS T s) = vlS T s := mS_val ((vl_r T s).resolve_left h).2
theorem mS_nI {k : Nat} (h : k < 2 ^ 31) : mS (nI k) = nI k := mS_val (fun z => absurd (Int32.lt_trans z (by decide)) (nI_pos h))
theorem may_no {T : TX} {ex : PS → PS} {a : Nat} {B : BD} (hx : ∀ x, ex (.inl x) = .inl x) (h : ¬ mayS T (.inr (a, B)) = true) : orS T ex (.inr (a, B)) = .inl (1, a) := by
  unfold mayS at h
  rw [Bool.or_eq_true, Bool.or_eq_true] at h
  have h1 : ¬ kdT T a = 1 := fun z => h (Or.inl (Or.inr (decide_eq_true z)))
  have h2 : ¬ kdT T a = 2 := fun z => h (Or.inl (Or.inl (decide_eq_true z)))
  have h4 : ¬ sgS T 40 (.inr (a, B)) = true := fun z => h (Or.inr z)
  have e1 : partS T ex (.inr (a, B)) = .inl (1, a) := by
    rw [part_other hx h1 h2, show sgnS T 40 (.inr (a, B)) = .inl (1, a) from if_neg h4, hx]; rfl
  have e2 : prodS T ex (.inr (a, B)) = .inl (1, a) := by unfold prodS; rw [e1]; exact loop_inl rfl _
  have e3 : sumS T ex (.inr (a, B)) = .inl (1, a) := by unfold sumS; rw [e2]; exact loop_inl rfl _
  have e4 : testS T ex (.inr (a, B)) = .inl (1, a) := by unfold testS; rw [e3]; rfl
  have hw : ¬ wdS T w_not (.inr (a, B)) = true := fun z => h1 (isW_kd z)
  have e5 : notS T ex (.inr (a, B)) = .inl (1, a) := by
    unfold notS
    rw [not_0 hw]
    show repS (-10) 0 (testS T ex (notM T (.inr (a, B)))) = _
    unfold notM
    rw [if_neg hw, e4]; rfl
  have e6 : andS T ex (.inr (a, B)) = .inl (1, a) := by unfold andS; rw [e5]; exact loop_inl rfl _
  unfold orS
  rw [e6]
  exact loop_inl rfl _
theorem w_ldcwS {p : Program} {l : Launch} {e : Env} {R : Room} {s : State} {m : MethodId} {args : Array Value} {below : List Frame} {meth : Method} {c : Code} {H : Heap} {locs : List Loc} {cells slots pc : Nat} {Q : State → Prop} {ls : Array Slot} {rest : List Value} {cc : ByteArray} (hexec : p.tables.exec = Jvm.exec) (hb : c.code = cc) {own tx : String} {index q : Nat} (hown : s.vm.findClass own = some m.cls) (hZ : vk_R own index tx q s) (hdg : decode cc pc = .ok (.ldc_w index, 3)) (k : W p l e R s m args below meth c H locs cells slots Q (F0 m (pc + 3) ls (.ref q :: rest))) : W p l e R s m args below meth c H locs cells slots Q (F0 m pc ls rest) := by
  subst hb
  intro T hT X
  obtain ⟨t, a1, b1⟩ := k T hT X
  refine ⟨t, ?_, b1⟩
  obtain ⟨k9, cf, i, a', hk, hcf, hcp, -, hr, hev'⟩ := Cond.stringRef_spec hown hZ.1
  cases hZ.2.symm.trans hev'
  obtain ⟨k', hk', he⟩ := X.warmed.alike.2.2 _ _ hk
  have hr' : k'.resolved[index]? = some (some (.string q)) := by
    rcases X.warmed.entry hk hk' index with h | ⟨h, -⟩
    · rw [h]; exact hr
    · rw [hr] at h; cases h
  have hdg' : decode c.code (F0 m pc ls rest).pc = .ok (.ldc_w index, 3) := hdg
  jvm_step X.here [hexec, hdg', ldc_w.wp_string (e := e) (s := T) (f := F0 m pc ls rest) X.here.top hk' (by rw [he]; exact hcf) hcp hr']
  exact a1
theorem r_ldcwS {M : MI} {d bc bs n pc idx i : Nat} {out : OUT} {ls : List (Option Value)} {st : List Value} {E : HP} {tx : String} {by9 : List Int32} (pc2 : Nat) (hd : decode M.2.1 pc = .ok (.ldc_w idx, 3)) (hp : pc + 3 = pc2) (hq : stL[i]? = some (cn M.1, idx, tx, by9)) (kk : Sm M d bc bs out pc2 ls (.ref (1000 + i) :: st) E n) : Sm M d bc bs out pc ls st E n := by
  subst hp
  intro G p l e s m args below meth c R H locs cells slots lsA Q C F hS hW hl h1 h2
  obtain ⟨k1, -⟩ := kk_S C i _ hq
  refine w_ldcwS C.1 C.2.1 C.2.2.2.1 k1 hd ?_
  have := kk G p l e s m args below meth c R H locs cells slots lsA Q C F hS hW hl h1 h2
  rw [List.map_cons, tr_hi (by omega)] at this
  exact this
set_option maxRecDepth 20000 in
theorem md_partD {d : Nat} {E0 E : HP} {T : TX} {x : Nat × Nat} {w : Int32} (y1 : CMd E0 E T (.inl x)) : Cl yX12_readPart mX12_readPart (d) 0 0 [.ref 95, .int w] E 137 (.inl none, E, 137) := by
  have hb := md_1b y1
  refine Cl.of (by decide) rfl (fun q => by cases q) rfl rfl (Nat.le_of_ble_eq_true rfl) ?_
  show Sm _ _ _ _ _ 0 [some (.ref 95), some (.int (w)), none] [] _ _
  refine r_aload_n 1 dX12_readPart_0 rfl rfl ?_
  refine r_getI 4 dX12_readPart_1 rfl f12_208 rfl rfl lt95 ?_
  refine r_if_eq 7 8 dX12_readPart_4 rfl (by decide) (fun h4 => absurd h4 hb) (fun h4 => ?_)
  exact r_vret dX12_readPart_7 rfl rfl (rfl)
set_option maxRecDepth 20000 in
theorem md_prodD {d : Nat} {E0 E : HP} {T : TX} {x : Nat × Nat} {w : Int32} (y1 : CMd E0 E T (.inl x)) : Cl yX12_readProduct mX12_readProduct (d + 1) 0 0 [.ref 95, .int w] E 137 (.inl none, E, 137) := by
  have hb := md_1b y1
  refine Cl.of (by decide) rfl (fun q => by cases q) rfl rfl (Nat.le_of_ble_eq_true rfl) ?_
  show Sm _ _ _ _ _ 0 [some (.ref 95), some (.int (w)), none] [] _ _
  refine r_aload_n 1 dX12_readProduct_0 rfl rfl ?_
  refine r_iload_n 2 dX12_readProduct_1 rfl rfl ?_
  refine r_callV 5 dX12_readProduct_2 rfl k12_255 (md_partD y1) rfl rfl rfl (by decide) rfl lt95 (Nat.le_of_ble_eq_true rfl) ?_
  refine r_aload_n 6 dX12_readProduct_5 rfl rfl ?_
  refine r_bipush (42) 8 dX12_readProduct_6 rfl (by decide) ?_
  refine r_callV 11 dX12_readProduct_8 rfl k12_226 (md_isM y1) rfl rfl rfl (by decide) rfl lt95 (Nat.le_of_ble_eq_true rfl) ?_
  refine r_if_ne 14 23 dX12_readProduct_11 rfl (by decide) (fun h11 => absurd h11 (fun z => z rfl)) (fun h11 => ?_)
  refine r_aload_n 15 dX12_readProduct_14 rfl rfl ?_
  refine r_bipush (47) 17 dX12_readProduct_15 rfl (by decide) ?_
  refine r_callV 20 dX12_readProduct_17 rfl k12_226 (md_isM y1) rfl rfl rfl (by decide) rfl lt95 (Nat.le_of_ble_eq_true rfl) ?_
  refine r_if_eq 23 57 dX12_readProduct_20 rfl (by decide) (fun h20 => ?_) (fun h20 => absurd rfl h20)
  exact r_vret dX12_readProduct_57 rfl rfl (rfl)
set_option maxRecDepth 20000 in
theorem md_sumD {d : Nat} {E0 E : HP} {T : TX} {x : Nat × Nat} {w : Int32} (y1 : CMd E0 E T (.inl x)) : Cl yX12_readSum mX12_readSum (d + 2) 0 0 [.ref 95, .int w] E 137 (.inl none, E, 137) := by
  have hb := md_1b y1
  refine Cl.of (by decide) rfl (fun q => by cases q) rfl rfl (Nat.le_of_ble_eq_true rfl) ?_
  show Sm _ _ _ _ _ 0 [some (.ref 95), some (.int (w)), none] [] _ _
  refine r_aload_n 1 dX12_readSum_0 rfl rfl ?_
  refine r_iload_n 2 dX12_readSum_1 rfl rfl ?_
  refine r_callV 5 dX12_readSum_2 rfl k12_258 (md_prodD y1) rfl rfl rfl (by decide) rfl lt95 (Nat.le_of_ble_eq_true rfl) ?_
  refine r_aload_n 6 dX12_readSum_5 rfl rfl ?_
  refine r_bipush (43) 8 dX12_readSum_6 rfl (by decide) ?_
  refine r_callV 11 dX12_readSum_8 rfl k12_226 (md_isM y1) rfl rfl rfl (by decide) rfl lt95 (Nat.le_of_ble_eq_true rfl) ?_
  refine r_if_ne 14 23 dX12_readSum_11 rfl (by decide) (fun h11 => absurd h11 (fun z => z rfl)) (fun h11 => ?_)
  refine r_aload_n 15 dX12_readSum_14 rfl rfl ?_
  refine r_bipush (45) 17 dX12_readSum_15 rfl (by decide) ?_
  refine r_callV 20 dX12_readSum_17 rfl k12_226 (md_isM y1) rfl rfl rfl (by decide) rfl lt95 (Nat.le_of_ble_eq_true rfl) ?_
  refine r_if_eq 23 57 dX12_readSum_20 rfl (by decide) (fun h20 => ?_) (fun h20 => absurd rfl h20)
  exact r_vret dX12_readSum_57 rfl rfl (rfl)
set_option maxRecDepth 20000 in
theorem md_notD {d : Nat} {E0 E : HP} {T : TX} {x : Nat × Nat} {w : Int32} (y1 : CMd E0 E T (.inl x)) : Cl yX12_readNot mX12_readNot (d + 5) 0 0 [.ref 95, .int w] E 137 (.inl none, E, 137) := by
  have hb := md_1b y1
  refine Cl.of (by decide) rfl (fun q => by cases q) rfl rfl (Nat.le_of_ble_eq_true rfl) ?_
  show Sm _ _ _ _ _ 0 [some (.ref 95), some (.int (w)), none, none] [] _ _
  refine r_iconst (0) 1 dX12_readNot_0 rfl (by decide) ?_
  refine r_istore_n 2 dX12_readNot_1 rfl (by decide) rfl ?_
  refine r_aload_n 3 dX12_readNot_2 rfl rfl ?_
  refine r_ldcwS (i := 36) 6 dX12_readNot_3 rfl rfl ?_
  refine r_callV 9 dX12_readNot_6 rfl k12_222 (md_is (i := 36) (q := ("SpoonRowModel", 261, "not", w_not)) y1 rfl) rfl rfl rfl (by decide) rfl lt95 (Nat.le_of_ble_eq_true rfl) ?_
  refine r_if_eq 12 40 dX12_readNot_9 rfl (by decide) (fun h9 => ?_) (fun h9 => absurd rfl h9)
  refine r_aload_n 41 dX12_readNot_40 rfl rfl ?_
  refine r_iload_n 42 dX12_readNot_41 rfl rfl ?_
  refine r_callV 45 dX12_readNot_42 rfl k12_263 (md_sumD (d := d + 2) y1) rfl rfl rfl (by decide) rfl lt95 (Nat.le_of_ble_eq_true rfl) ?_
  refine r_aload_n 46 dX12_readNot_45 rfl rfl ?_
  refine r_bipush (60) 48 dX12_readNot_46 rfl (by decide) ?_
  refine r_callV 51 dX12_readNot_48 rfl k12_226 (md_isM y1) rfl rfl rfl (by decide) rfl lt95 (Nat.le_of_ble_eq_true rfl) ?_
  refine r_if_ne 54 63 dX12_readNot_51 rfl (by decide) (fun h51 => absurd h51 (fun z => z rfl)) (fun h51 => ?_)
  refine r_aload_n 55 dX12_readNot_54 rfl rfl ?_
  refine r_bipush (61) 57 dX12_readNot_55 rfl (by decide) ?_
  refine r_callV 60 dX12_readNot_57 rfl k12_226 (md_isM y1) rfl rfl rfl (by decide) rfl lt95 (Nat.le_of_ble_eq_true rfl) ?_
  refine r_if_eq 63 94 dX12_readNot_60 rfl (by decide) (fun h60 => ?_) (fun h60 => absurd rfl h60)
  refine r_iconst (0) 95 dX12_readNot_94 rfl (by decide) ?_
  refine r_istore_n 96 dX12_readNot_95 rfl (by decide) rfl ?_
  refine r_iload_n 97 dX12_readNot_96 rfl rfl ?_
  refine r_iload_n 98 dX12_readNot_97 rfl rfl ?_
  refine r_icmp_ge 101 113 dX12_readNot_98 rfl (by decide) (fun h98 => ?_) (fun h98 => absurd (by decide) h98)
  exact r_vret dX12_readNot_113 rfl rfl (rfl)
set_option maxRecDepth 20000 in
theorem md_andD {d : Nat} {E0 E : HP} {T : TX} {x : Nat × Nat} {w : Int32} (y1 : CMd E0 E T (.inl x)) : Cl yX12_readAnd mX12_readAnd (d + 6) 0 0 [.ref 95, .int w] E 137 (.inl none, E, 137) := by
  have hb := md_1b y1
  refine Cl.of (by decide) rfl (fun q => by cases q) rfl rfl (Nat.le_of_ble_eq_true rfl) ?_
  show Sm _ _ _ _ _ 0 [some (.ref 95), some (.int (w)), none] [] _ _
  refine r_aload_n 1 dX12_readAnd_0 rfl rfl ?_
  refine r_iload_n 2 dX12_readAnd_1 rfl rfl ?_
  refine r_callV 5 dX12_readAnd_2 rfl k12_266 (md_notD y1) rfl rfl rfl (by decide) rfl lt95 (Nat.le_of_ble_eq_true rfl) ?_
  refine r_aload_n 6 dX12_readAnd_5 rfl rfl ?_
  refine r_ldcwS (i := 37) 9 dX12_readAnd_6 rfl rfl ?_
  refine r_callV 12 dX12_readAnd_9 rfl k12_222 (md_is (d := d + 1) (i := 37) (q := ("SpoonRowModel", 269, "and", w_and)) y1 rfl) rfl rfl rfl (by decide) rfl lt95 (Nat.le_of_ble_eq_true rfl) ?_
  refine r_if_eq 15 33 dX12_readAnd_12 rfl (by decide) (fun h12 => ?_) (fun h12 => absurd rfl h12)
  exact r_vret dX12_readAnd_33 rfl rfl (rfl)
set_option maxRecDepth 20000 in
theorem md_part {d e l : Nat} {E0 E : HP} {T : TX} {s : PS} {w : Int32} (y1 : CMd E0 E T s) (hs : slk 1 s) (hw : w = nI (6 - (l + 1))) (hl : l + 1 ≤ 6) (hex : ∀ {E : HP} {s : PS} {w : Int32}, CMd E0 E T s → slk 1 s → w = nI (6 - l) → ∃ o, (∃ E2, o = (.inl none, E2, 137) ∧ CMd E0 E2 T (exprS T l s)) ∧ Cl yX12_readExpression mX12_readExpression (d + e + 8) 0 0 [.ref 95, .int w] E 137 o) : ∃ o, (∃ E2, o = (.inl none, E2, 137) ∧ CMd E0 E2 T (partS T (exprS T l) s)) ∧ Cl yX12_readPart mX12_readPart (d + e + 8 + 1) 0 0 [.ref 95, .int w] E 137 o := by
  refine Cx.of (by decide) rfl (fun q => by cases q) rfl rfl (Nat.le_of_ble_eq_true rfl) ?_
  show Sx _ _ _ _ _ 0 [some (.ref 95), some (.int (w)), none] [] _ _
  cases s with
  | inl x =>
    have hb := md_1b y1
    refine Sx.up (fun _ kk => r_aload_n 1 dX12_readPart_0 rfl rfl kk) ?_
    refine Sx.up (fun _ kk => r_getI 4 dX12_readPart_1 rfl f12_208 rfl rfl lt95 kk) ?_
    refine Sx.up (fun _ kk => r_if_eq 7 8 dX12_readPart_4 rfl (by decide) (fun h4 => absurd h4 hb) (fun _ => kk)) ?_
    refine ⟨_, ?_, r_vret dX12_readPart_7 rfl rfl rfl⟩
    exact ⟨_, rfl, y1⟩
  | inr x =>
    obtain ⟨a, B⟩ := x
    have hb := md_0b y1 ⟨_, rfl⟩
    have hk1 := md_k y1 (k := 1) (by decide)
    have hk2 := md_k y1 (k := 2) (by decide)
    by_cases k2 : kdT T a = 2
    · obtain ⟨_, ⟨E2, v, rfl, y2, hv⟩, hcl⟩ := md_rn (d := d + e + 6) y1 (lo := 0) (hi := 9999) rfl rfl (by decide) (by decide)
      have hn9 := num_lt k2
      obtain ⟨_, ⟨E3, rfl, y3⟩, hcl3⟩ := md_lay (d := d + e + 8) (v := v) (x := nI (vaS T (.inr (a, B)))) y2 (slk_tk hs) (fun q z => by rw [hv q.1 q.2 z]; exact (mS_nI (by show numT T a < _; omega)).symm)
      rw [← part_num (ex := exprS T l) k2] at y3
      refine Sx.up (fun _ kk => r_aload_n 1 dX12_readPart_0 rfl rfl kk) ?_
      refine Sx.up (fun _ kk => r_getI 4 dX12_readPart_1 rfl f12_208 rfl rfl lt95 kk) ?_
      refine Sx.up (fun _ kk => r_if_eq 7 8 dX12_readPart_4 rfl (by decide) (fun _ => kk) (fun h4 => absurd hb h4)) ?_
      refine Sx.up (fun _ kk => r_aload_n 9 dX12_readPart_8 rfl rfl kk) ?_
      refine Sx.up (fun _ kk => r_getI 12 dX12_readPart_9 rfl f12_182 rfl rfl lt95 kk) ?_
      refine Sx.up (fun _ kk => r_iconst (2) 13 dX12_readPart_12 rfl (by decide) kk) ?_
      refine Sx.up (fun _ kk => r_icmp_ne 16 29 dX12_readPart_13 rfl (by decide) (fun h13 => absurd h13 (fun z => z (hk2.mpr k2))) (fun _ => kk)) ?_
      refine Sx.up (fun _ kk => r_aload_n 17 dX12_readPart_16 rfl rfl kk) ?_
      refine Sx.up (fun _ kk => r_aload_n 18 dX12_readPart_17 rfl rfl kk) ?_
      refine Sx.up (fun _ kk => r_iconst (0) 19 dX12_readPart_18 rfl (by decide) kk) ?_
      refine Sx.up (fun _ kk => r_sipush (9999) 22 dX12_readPart_19 rfl (by decide) kk) ?_
      refine Sx.up (fun _ kk => r_callV 25 dX12_readPart_22 rfl k12_239 hcl rfl rfl rfl (by decide) rfl lt95 (Nat.le_of_ble_eq_true rfl) kk) ?_
      refine Sx.up (fun _ kk => r_callV 28 dX12_readPart_25 rfl k12_242 hcl3 rfl rfl rfl (by decide) rfl lt95 (Nat.le_of_ble_eq_true rfl) kk) ?_
      refine ⟨_, ?_, r_vret dX12_readPart_28 rfl rfl rfl⟩
      exact ⟨_, rfl, y3⟩
    by_cases k1 : kdT T a = 1
    · rw [part_wd k1]
      obtain ⟨wv, hwv⟩ : ∃ wv, whF T (.inr (a, B)) w_values 0 = wv := ⟨_, rfl⟩
      have hwh := md_whichV (d := d + e + 3) y1
      rw [hwv] at hwh
      have hvl := vl_wh (T := T) (s := .inr (a, B))
      rw [hwv] at hvl
      rcases hvl with ⟨n1, n2⟩ | ⟨n1, n2, n3⟩
      · refine Sx.up (fun _ kk => r_aload_n 1 dX12_readPart_0 rfl rfl kk) ?_
        refine Sx.up (fun _ kk => r_getI 4 dX12_readPart_1 rfl f12_208 rfl rfl lt95 kk) ?_
        refine Sx.up (fun _ kk => r_if_eq 7 8 dX12_readPart_4 rfl (by decide) (fun _ => kk) (fun h4 => absurd hb h4)) ?_
        refine Sx.up (fun _ kk => r_aload_n 9 dX12_readPart_8 rfl rfl kk) ?_
        refine Sx.up (fun _ kk => r_getI 12 dX12_readPart_9 rfl f12_182 rfl rfl lt95 kk) ?_
        refine Sx.up (fun _ kk => r_iconst (2) 13 dX12_readPart_12 rfl (by decide) kk) ?_
        refine Sx.up (fun _ kk => r_icmp_ne 16 29 dX12_readPart_13 rfl (by decide) (fun _ => kk) (fun h13 => absurd h13 (fun z => k2 (hk2.mp z)))) ?_
        refine Sx.up (fun _ kk => r_aload_n 30 dX12_readPart_29 rfl rfl kk) ?_
        refine Sx.up (fun _ kk => r_getI 33 dX12_readPart_30 rfl f12_182 rfl rfl lt95 kk) ?_
        refine Sx.up (fun _ kk => r_iconst (1) 34 dX12_readPart_33 rfl (by decide) kk) ?_
        refine Sx.up (fun _ kk => r_icmp_ne 37 75 dX12_readPart_34 rfl (by decide) (fun h34 => absurd h34 (fun z => z (hk1.mpr k1))) (fun _ => kk)) ?_
        refine Sx.up (fun _ kk => r_aload_n 38 dX12_readPart_37 rfl rfl kk) ?_
        refine Sx.up (fun _ kk => r_aload_n 39 dX12_readPart_38 rfl rfl kk) ?_
        refine Sx.up (fun _ kk => r_getR 42 dX12_readPart_39 rfl f12_35 rfl rfl lt95 (mo_1 (md_M y1)) kk) ?_
        refine Sx.up (fun _ kk => r_callV 45 dX12_readPart_42 rfl k12_245 hwh rfl rfl rfl (by decide) rfl lt95 (Nat.le_of_ble_eq_true rfl) kk) ?_
        refine Sx.up (fun _ kk => r_istore_n 46 dX12_readPart_45 rfl (by decide) rfl kk) ?_
        refine Sx.up (fun _ kk => r_iload_n 47 dX12_readPart_46 rfl rfl kk) ?_
        refine Sx.up (fun _ kk => r_iconst (-1) 48 dX12_readPart_47 rfl (by decide) kk) ?_
        refine Sx.up (fun _ kk => r_icmp_ne 51 56 dX12_readPart_48 rfl (by decide) (fun h48 => absurd h48 (fun z => z n1)) (fun _ => kk)) ?_
        refine Sx.up (fun _ kk => r_aload_n 52 dX12_readPart_51 rfl rfl kk) ?_
        refine Sx.up (fun _ kk => r_iconst (3) 53 dX12_readPart_52 rfl (by decide) kk) ?_
        obtain ⟨_, ⟨E2, rfl, y2⟩, hcl2⟩ := md_wrong (d := d + e + 8) y1 (k := 3) (k9 := 3) rfl (by decide) (by decide)
        refine Sx.up (fun _ kk => r_callV 56 dX12_readPart_53 rfl k12_229 hcl2 rfl rfl rfl (by decide) rfl lt95 (Nat.le_of_ble_eq_true rfl) kk) ?_
        refine Sx.up (fun _ kk => r_aload_n 57 dX12_readPart_56 rfl rfl kk) ?_
        refine Sx.up (fun _ kk => r_iconst (-1) 58 dX12_readPart_57 rfl (by decide) kk) ?_
        refine Sx.up (fun _ kk => r_iload_n 59 dX12_readPart_58 rfl rfl kk) ?_
        refine Sx.up (fun _ kk => r_isub 60 dX12_readPart_59 rfl kk) ?_
        obtain ⟨_, ⟨E3, rfl, y3⟩, hcl3⟩ := md_lay (d := d + e + 8) (x := 0) y2 trivial (fun q z => by cases z)
        refine Sx.up (fun _ kk => r_callV 63 dX12_readPart_60 rfl k12_242 hcl3 rfl rfl rfl (by decide) rfl lt95 (Nat.le_of_ble_eq_true rfl) kk) ?_
        refine Sx.up (fun _ kk => r_aload_n 64 dX12_readPart_63 rfl rfl kk) ?_
        refine Sx.up (fun _ kk => r_getI 67 dX12_readPart_64 rfl f12_208 rfl rfl lt95 kk) ?_
        refine Sx.up (fun _ kk => r_if_ne 70 74 dX12_readPart_67 rfl (by decide) (fun _ => kk) (fun h67 => absurd h67 (md_1b y3))) ?_
        refine ⟨_, ?_, r_vret dX12_readPart_74 rfl rfl rfl⟩
        exact ⟨_, rfl, by unfold valS; rw [if_pos n2]; exact y3⟩
      · refine Sx.up (fun _ kk => r_aload_n 1 dX12_readPart_0 rfl rfl kk) ?_
        refine Sx.up (fun _ kk => r_getI 4 dX12_readPart_1 rfl f12_208 rfl rfl lt95 kk) ?_
        refine Sx.up (fun _ kk => r_if_eq 7 8 dX12_readPart_4 rfl (by decide) (fun _ => kk) (fun h4 => absurd hb h4)) ?_
        refine Sx.up (fun _ kk => r_aload_n 9 dX12_readPart_8 rfl rfl kk) ?_
        refine Sx.up (fun _ kk => r_getI 12 dX12_readPart_9 rfl f12_182 rfl rfl lt95 kk) ?_
        refine Sx.up (fun _ kk => r_iconst (2) 13 dX12_readPart_12 rfl (by decide) kk) ?_
        refine Sx.up (fun _ kk => r_icmp_ne 16 29 dX12_readPart_13 rfl (by decide) (fun _ => kk) (fun h13 => absurd h13 (fun z => k2 (hk2.mp z)))) ?_
        refine Sx.up (fun _ kk => r_aload_n 30 dX12_readPart_29 rfl rfl kk) ?_
        refine Sx.up (fun _ kk => r_getI 33 dX12_readPart_30 rfl f12_182 rfl rfl lt95 kk) ?_
        refine Sx.up (fun _ kk => r_iconst (1) 34 dX12_readPart_33 rfl (by decide) kk) ?_
        refine Sx.up (fun _ kk => r_icmp_ne 37 75 dX12_readPart_34 rfl (by decide) (fun h34 => absurd h34 (fun z => z (hk1.mpr k1))) (fun _ => kk)) ?_
        refine Sx.up (fun _ kk => r_aload_n 38 dX12_readPart_37 rfl rfl kk) ?_
        refine Sx.up (fun _ kk => r_aload_n 39 dX12_readPart_38 rfl rfl kk) ?_
        refine Sx.up (fun _ kk => r_getR 42 dX12_readPart_39 rfl f12_35 rfl rfl lt95 (mo_1 (md_M y1)) kk) ?_
        refine Sx.up (fun _ kk => r_callV 45 dX12_readPart_42 rfl k12_245 hwh rfl rfl rfl (by decide) rfl lt95 (Nat.le_of_ble_eq_true rfl) kk) ?_
        refine Sx.up (fun _ kk => r_istore_n 46 dX12_readPart_45 rfl (by decide) rfl kk) ?_
        refine Sx.up (fun _ kk => r_iload_n 47 dX12_readPart_46 rfl rfl kk) ?_
        refine Sx.up (fun _ kk => r_iconst (-1) 48 dX12_readPart_47 rfl (by decide) kk) ?_
        refine Sx.up (fun _ kk => r_icmp_ne 51 56 dX12_readPart_48 rfl (by decide) (fun _ => kk) (fun h48 => absurd h48 n1)) ?_
        refine Sx.up (fun _ kk => r_aload_n 57 dX12_readPart_56 rfl rfl kk) ?_
        refine Sx.up (fun _ kk => r_iconst (-1) 58 dX12_readPart_57 rfl (by decide) kk) ?_
        refine Sx.up (fun _ kk => r_iload_n 59 dX12_readPart_58 rfl rfl kk) ?_
        refine Sx.up (fun _ kk => r_isub 60 dX12_readPart_59 rfl kk) ?_
        rw [n3]
        obtain ⟨_, ⟨E2, rfl, y2⟩, hcl2⟩ := md_lay (d := d + e + 8) (x := vlS T (.inr (a, B))) y1 hs (fun q z => (mS_vl n2).symm)
        refine Sx.up (fun _ kk => r_callV 63 dX12_readPart_60 rfl k12_242 hcl2 rfl rfl rfl (by decide) rfl lt95 (Nat.le_of_ble_eq_true rfl) kk) ?_
        refine Sx.up (fun _ kk => r_aload_n 64 dX12_readPart_63 rfl rfl kk) ?_
        refine Sx.up (fun _ kk => r_getI 67 dX12_readPart_64 rfl f12_208 rfl rfl lt95 kk) ?_
        refine Sx.up (fun _ kk => r_if_ne 70 74 dX12_readPart_67 rfl (by decide) (fun h67 => absurd h67 (fun z => z (md_0b y2 ⟨_, rfl⟩))) (fun _ => kk)) ?_
        refine Sx.up (fun _ kk => r_aload_n 71 dX12_readPart_70 rfl rfl kk) ?_
        obtain ⟨_, ⟨E3, rfl, y3⟩, hcl3⟩ := md_adv (d := d + e + 7) y2 ⟨_, rfl⟩
        refine Sx.up (fun _ kk => r_callV 74 dX12_readPart_71 rfl k12_233 hcl3 rfl rfl rfl (by decide) rfl lt95 (Nat.le_of_ble_eq_true rfl) kk) ?_
        refine ⟨_, ?_, r_vret dX12_readPart_74 rfl rfl rfl⟩
        exact ⟨_, rfl, by unfold valS; rw [if_neg n2]; exact y3⟩
    rw [part_other (expr_inl l) k1 k2]
    refine Sx.up (fun _ kk => r_aload_n 1 dX12_readPart_0 rfl rfl kk) ?_
    refine Sx.up (fun _ kk => r_getI 4 dX12_readPart_1 rfl f12_208 rfl rfl lt95 kk) ?_
    refine Sx.up (fun _ kk => r_if_eq 7 8 dX12_readPart_4 rfl (by decide) (fun _ => kk) (fun h4 => absurd hb h4)) ?_
    refine Sx.up (fun _ kk => r_aload_n 9 dX12_readPart_8 rfl rfl kk) ?_
    refine Sx.up (fun _ kk => r_getI 12 dX12_readPart_9 rfl f12_182 rfl rfl lt95 kk) ?_
    refine Sx.up (fun _ kk => r_iconst (2) 13 dX12_readPart_12 rfl (by decide) kk) ?_
    refine Sx.up (fun _ kk => r_icmp_ne 16 29 dX12_readPart_13 rfl (by decide) (fun _ => kk) (fun h13 => absurd h13 (fun z => k2 (hk2.mp z)))) ?_
    refine Sx.up (fun _ kk => r_aload_n 30 dX12_readPart_29 rfl rfl kk) ?_
    refine Sx.up (fun _ kk => r_getI 33 dX12_readPart_30 rfl f12_182 rfl rfl lt95 kk) ?_
    refine Sx.up (fun _ kk => r_iconst (1) 34 dX12_readPart_33 rfl (by decide) kk) ?_
    refine Sx.up (fun _ kk => r_icmp_ne 37 75 dX12_readPart_34 rfl (by decide) (fun _ => kk) (fun h34 => absurd h34 (fun z => k1 (hk1.mp z)))) ?_
    refine Sx.up (fun _ kk => r_aload_n 76 dX12_readPart_75 rfl rfl kk) ?_
    refine Sx.up (fun _ kk => r_bipush (40) 78 dX12_readPart_76 rfl (by decide) kk) ?_
    obtain ⟨_, ⟨E2, rfl, y2⟩, hcl2⟩ := md_mark (d := d + e + 6) (c := 40) y1
    refine Sx.up (fun _ kk => r_callV 81 dX12_readPart_78 rfl k12_249 hcl2 rfl rfl rfl (by decide) rfl lt95 (Nat.le_of_ble_eq_true rfl) kk) ?_
    refine Sx.up (fun _ kk => r_aload_n 82 dX12_readPart_81 rfl rfl kk) ?_
    refine Sx.up (fun _ kk => r_iload_n 83 dX12_readPart_82 rfl rfl kk) ?_
    refine Sx.up (fun _ kk => r_iconst (1) 84 dX12_readPart_83 rfl (by decide) kk) ?_
    rw [show w + 1 = nI (6 - l) by rw [hw, nI_pp]; congr 1; omega]
    refine Sx.up (fun _ kk => r_iadd 85 dX12_readPart_84 rfl kk) ?_
    obtain ⟨_, ⟨E3, rfl, y3⟩, hcl3⟩ := hex y2 (by unfold sgnS; split; exact slk_adv0 hs; exact slk_flt _) rfl
    refine Sx.up (fun _ kk => r_callV 88 dX12_readPart_85 rfl k12_252 hcl3 rfl rfl rfl (by decide) rfl lt95 (Nat.le_of_ble_eq_true rfl) kk) ?_
    refine Sx.up (fun _ kk => r_aload_n 89 dX12_readPart_88 rfl rfl kk) ?_
    refine Sx.up (fun _ kk => r_bipush (41) 91 dX12_readPart_89 rfl (by decide) kk) ?_
    obtain ⟨_, ⟨E4, rfl, y4⟩, hcl4⟩ := md_mark (d := d + e + 6) (c := 41) y3
    refine Sx.up (fun _ kk => r_callV 94 dX12_readPart_91 rfl k12_249 hcl4 rfl rfl rfl (by decide) rfl lt95 (Nat.le_of_ble_eq_true rfl) kk) ?_
    refine ⟨_, ?_, r_vret dX12_readPart_94 rfl rfl rfl⟩
    exact ⟨_, rfl, y4⟩
set_option maxRecDepth 20000 in
theorem md_prod {d e l : Nat} {E0 E : HP} {T : TX} {s : PS} {w : Int32} (y1 : CMd E0 E T s) (hs : slk 1 s) (hw : w = nI (6 - (l + 1))) (hl : l + 1 ≤ 6) (hex : ∀ {E : HP} {s : PS} {w : Int32}, CMd E0 E T s → slk 1 s → w = nI (6 - l) → ∃ o, (∃ E2, o = (.inl none, E2, 137) ∧ CMd E0 E2 T (exprS T l s)) ∧ Cl yX12_readExpression mX12_readExpression (d + e + 8) 0 0 [.ref 95, .int w] E 137 o) : ∃ o, (∃ E2, o = (.inl none, E2, 137) ∧ CMd E0 E2 T (prodS T (exprS T l) s)) ∧ Cl yX12_readProduct mX12_readProduct (d + e + 8 + 2) 0 0 [.ref 95, .int w] E 137 o := by
  have hs0 : slk 1 (partS T (exprS T l) s) := slk_ext (ex_part l s) hs
  have hTx := md_T y1
  refine Cx.of (by decide) rfl (fun q => by cases q) rfl rfl (Nat.le_of_ble_eq_true rfl) ?_
  show Sx _ _ _ _ _ 0 [some (.ref 95), some (.int (w)), none] [] _ _
  have loop : ∀ f, f ≤ 600 → ∀ E s x8, CMd E0 E T s → slk 1 s → aft (600 - f) s → Sx mX12_readProduct (d + e + 8 + 2) 0 0 (fun o => ∃ E2, o = (.inl none, E2, 137) ∧ CMd E0 E2 T (loopS (prodC T) (prodB T (exprS T l)) f s)) 5 [some (.ref 95), some (.int w), x8] [] E 137 := by
    intro f
    induction f with
    | zero =>
      intro _ E s x8 y1 hs1 ha
      have hn1 := aft_sg (T := T) (c := 42) hTx ha
      have hn2 := aft_sg (T := T) (c := 47) hTx ha
      refine Sx.up (fun _ kk => r_aload_n 6 dX12_readProduct_5 rfl rfl kk) ?_
      refine Sx.up (fun _ kk => r_bipush (42) 8 dX12_readProduct_6 rfl (by decide) kk) ?_
      refine Sx.up (fun _ kk => r_callV 11 dX12_readProduct_8 rfl k12_226 (md_isM (d := d + e + 9) y1) rfl rfl rfl (by decide) rfl lt95 (Nat.le_of_ble_eq_true rfl) kk) ?_
      refine Sx.up (fun _ kk => r_if_ne 14 23 dX12_readProduct_11 rfl (by decide) (fun h11 => absurd h11 (fun z => z (bI_f hn1))) (fun _ => kk)) ?_
      refine Sx.up (fun _ kk => r_aload_n 15 dX12_readProduct_14 rfl rfl kk) ?_
      refine Sx.up (fun _ kk => r_bipush (47) 17 dX12_readProduct_15 rfl (by decide) kk) ?_
      refine Sx.up (fun _ kk => r_callV 20 dX12_readProduct_17 rfl k12_226 (md_isM (d := d + e + 9) y1) rfl rfl rfl (by decide) rfl lt95 (Nat.le_of_ble_eq_true rfl) kk) ?_
      refine Sx.up (fun _ kk => r_if_eq 23 57 dX12_readProduct_20 rfl (by decide) (fun _ => kk) (fun h20 => absurd (bI_f hn2) h20)) ?_
      refine ⟨_, ?_, r_vret dX12_readProduct_57 rfl rfl rfl⟩
      exact ⟨_, rfl, y1⟩
    | succ f ih =>
      intro hf E s x8 y1 hs1 ha
      have hy : prodC T s = true → loopS (prodC T) (prodB T (exprS T l)) (f + 1) s = loopS (prodC T) (prodB T (exprS T l)) f (prodB T (exprS T l) s) := fun z => if_pos z
      have hn : ¬ prodC T s = true → loopS (prodC T) (prodB T (exprS T l)) (f + 1) s = s := fun z => if_neg z
      refine Sx.up (fun _ kk => r_aload_n 6 dX12_readProduct_5 rfl rfl kk) ?_
      refine Sx.up (fun _ kk => r_bipush (42) 8 dX12_readProduct_6 rfl (by decide) kk) ?_
      refine Sx.up (fun _ kk => r_callV 11 dX12_readProduct_8 rfl k12_226 (md_isM (d := d + e + 9) y1) rfl rfl rfl (by decide) rfl lt95 (Nat.le_of_ble_eq_true rfl) kk) ?_
      refine Sx.br (fun _ ka kb => r_if_ne 14 23 dX12_readProduct_11 rfl (by decide) ka kb) (by first | exact em1 | exact em2) (fun h11 => ?_) (fun h11 => ?_)
      · refine Sx.up (fun _ kk => r_aload_n 24 dX12_readProduct_23 rfl rfl kk) ?_
        refine Sx.up (fun _ kk => r_bipush (42) 26 dX12_readProduct_24 rfl (by decide) kk) ?_
        refine Sx.up (fun _ kk => r_callV 29 dX12_readProduct_26 rfl k12_226 (md_isM (d := d + e + 9) y1) rfl rfl rfl (by decide) rfl lt95 (Nat.le_of_ble_eq_true rfl) kk) ?_
        refine Sx.br (fun _ ka kb => r_if_eq 32 37 dX12_readProduct_29 rfl (by decide) ka kb) (by first | exact em1 | exact em2) (fun h29 => ?_) (fun h29 => ?_)
        · have hc : prodC T s = true := by unfold prodC; rw [Bool.or_eq_true]; first | exact Or.inl (bnz h11) | exact Or.inr (bnz h20)
          have hop : (if sgS T 42 s = true then (-15 : Int32) else -16) = -16 := if_neg (bz h29)
          have hmo : (-23 : Int32) = mS (-16) := by decide
          refine Sx.up (fun _ kk => r_bipush (-23) 39 dX12_readProduct_37 rfl (by decide) kk) ?_
          refine Sx.up (fun _ kk => r_istore_n 40 dX12_readProduct_39 rfl (by decide) rfl kk) ?_
          refine Sx.up (fun _ kk => r_aload_n 41 dX12_readProduct_40 rfl rfl kk) ?_
          obtain ⟨_, ⟨E2, rfl, y2⟩, hcl2⟩ := md_adv (d := d + e + 8) y1 (lv_liv (T := T) (liv_or hc))
          refine Sx.up (fun _ kk => r_callV 44 dX12_readProduct_41 rfl k12_233 hcl2 rfl rfl rfl (by decide) rfl lt95 (Nat.le_of_ble_eq_true rfl) kk) ?_
          refine Sx.up (fun _ kk => r_aload_n 45 dX12_readProduct_44 rfl rfl kk) ?_
          refine Sx.up (fun _ kk => r_iload_n 46 dX12_readProduct_45 rfl rfl kk) ?_
          obtain ⟨_, ⟨E3, rfl, y3⟩, hcl3⟩ := md_part y2 (slk_mono (by decide) (slk_adv (liv_or hc) hs1)) hw hl hex
          refine Sx.up (fun _ kk => r_callV 49 dX12_readProduct_46 rfl k12_255 hcl3 rfl rfl rfl (by decide) rfl lt95 (Nat.le_of_ble_eq_true rfl) kk) ?_
          refine Sx.up (fun _ kk => r_aload_n 50 dX12_readProduct_49 rfl rfl kk) ?_
          refine Sx.up (fun _ kk => r_iload_n 51 dX12_readProduct_50 rfl rfl kk) ?_
          obtain ⟨_, ⟨E4, rfl, y4⟩, hcl4⟩ := md_lay (d := d + e + 9) (x := if sgS T 42 s = true then -15 else -16) y3 (slk_mono (by decide) (slk_ext (ex_part l _) (slk_adv (liv_or hc) hs1))) (fun q z => by rw [hop]; exact hmo)
          refine Sx.up (fun _ kk => r_callV 54 dX12_readProduct_51 rfl k12_242 hcl4 rfl rfl rfl (by decide) rfl lt95 (Nat.le_of_ble_eq_true rfl) kk) ?_
          refine Sx.up (fun _ kk => r_goto 5 dX12_readProduct_54 (by decide) kk) ?_
          rw [hy hc]
          exact ih (by omega) _ _ _ y4 (slk_ru (slk_ext (ex_part l _) (slk_adv (liv_or hc) hs1))) (by have h9 : aft (600 - f) (prodB T (exprS T l) s) := aft_ru (aft_ext (ex_part l _) (aft_mono (by omega) (aft_adv (liv_or hc) ha))); exact h9)
        · have hc : prodC T s = true := by unfold prodC; rw [Bool.or_eq_true]; first | exact Or.inl (bnz h11) | exact Or.inr (bnz h20)
          have hop : (if sgS T 42 s = true then (-15 : Int32) else -16) = -15 := if_pos (bnz h29)
          have hmo : (-22 : Int32) = mS (-15) := by decide
          refine Sx.up (fun _ kk => r_bipush (-22) 34 dX12_readProduct_32 rfl (by decide) kk) ?_
          refine Sx.up (fun _ kk => r_goto 39 dX12_readProduct_34 (by decide) kk) ?_
          refine Sx.up (fun _ kk => r_istore_n 40 dX12_readProduct_39 rfl (by decide) rfl kk) ?_
          refine Sx.up (fun _ kk => r_aload_n 41 dX12_readProduct_40 rfl rfl kk) ?_
          obtain ⟨_, ⟨E5, rfl, y5⟩, hcl5⟩ := md_adv (d := d + e + 8) y1 (lv_liv (T := T) (liv_or hc))
          refine Sx.up (fun _ kk => r_callV 44 dX12_readProduct_41 rfl k12_233 hcl5 rfl rfl rfl (by decide) rfl lt95 (Nat.le_of_ble_eq_true rfl) kk) ?_
          refine Sx.up (fun _ kk => r_aload_n 45 dX12_readProduct_44 rfl rfl kk) ?_
          refine Sx.up (fun _ kk => r_iload_n 46 dX12_readProduct_45 rfl rfl kk) ?_
          obtain ⟨_, ⟨E6, rfl, y6⟩, hcl6⟩ := md_part y5 (slk_mono (by decide) (slk_adv (liv_or hc) hs1)) hw hl hex
          refine Sx.up (fun _ kk => r_callV 49 dX12_readProduct_46 rfl k12_255 hcl6 rfl rfl rfl (by decide) rfl lt95 (Nat.le_of_ble_eq_true rfl) kk) ?_
          refine Sx.up (fun _ kk => r_aload_n 50 dX12_readProduct_49 rfl rfl kk) ?_
          refine Sx.up (fun _ kk => r_iload_n 51 dX12_readProduct_50 rfl rfl kk) ?_
          obtain ⟨_, ⟨E7, rfl, y7⟩, hcl7⟩ := md_lay (d := d + e + 9) (x := if sgS T 42 s = true then -15 else -16) y6 (slk_mono (by decide) (slk_ext (ex_part l _) (slk_adv (liv_or hc) hs1))) (fun q z => by rw [hop]; exact hmo)
          refine Sx.up (fun _ kk => r_callV 54 dX12_readProduct_51 rfl k12_242 hcl7 rfl rfl rfl (by decide) rfl lt95 (Nat.le_of_ble_eq_true rfl) kk) ?_
          refine Sx.up (fun _ kk => r_goto 5 dX12_readProduct_54 (by decide) kk) ?_
          rw [hy hc]
          exact ih (by omega) _ _ _ y7 (slk_ru (slk_ext (ex_part l _) (slk_adv (liv_or hc) hs1))) (by have h9 : aft (600 - f) (prodB T (exprS T l) s) := aft_ru (aft_ext (ex_part l _) (aft_mono (by omega) (aft_adv (liv_or hc) ha))); exact h9)
      · refine Sx.up (fun _ kk => r_aload_n 15 dX12_readProduct_14 rfl rfl kk) ?_
        refine Sx.up (fun _ kk => r_bipush (47) 17 dX12_readProduct_15 rfl (by decide) kk) ?_
        refine Sx.up (fun _ kk => r_callV 20 dX12_readProduct_17 rfl k12_226 (md_isM (d := d + e + 9) y1) rfl rfl rfl (by decide) rfl lt95 (Nat.le_of_ble_eq_true rfl) kk) ?_
        refine Sx.br (fun _ ka kb => r_if_eq 23 57 dX12_readProduct_20 rfl (by decide) ka kb) (by first | exact em1 | exact em2) (fun h20 => ?_) (fun h20 => ?_)
        · refine ⟨_, ?_, r_vret dX12_readProduct_57 rfl rfl rfl⟩
          exact ⟨_, rfl, by rw [hn (fun z => by unfold prodC at z; rw [Bool.or_eq_true] at z; exact z.elim (bz h11) (bz h20))]; exact y1⟩
        · refine Sx.up (fun _ kk => r_aload_n 24 dX12_readProduct_23 rfl rfl kk) ?_
          refine Sx.up (fun _ kk => r_bipush (42) 26 dX12_readProduct_24 rfl (by decide) kk) ?_
          refine Sx.up (fun _ kk => r_callV 29 dX12_readProduct_26 rfl k12_226 (md_isM (d := d + e + 9) y1) rfl rfl rfl (by decide) rfl lt95 (Nat.le_of_ble_eq_true rfl) kk) ?_
          refine Sx.br (fun _ ka kb => r_if_eq 32 37 dX12_readProduct_29 rfl (by decide) ka kb) (by first | exact em1 | exact em2) (fun h29 => ?_) (fun h29 => ?_)
          · have hc : prodC T s = true := by unfold prodC; rw [Bool.or_eq_true]; first | exact Or.inl (bnz h11) | exact Or.inr (bnz h20)
            have hop : (if sgS T 42 s = true then (-15 : Int32) else -16) = -16 := if_neg (bz h29)
            have hmo : (-23 : Int32) = mS (-16) := by decide
            refine Sx.up (fun _ kk => r_bipush (-23) 39 dX12_readProduct_37 rfl (by decide) kk) ?_
            refine Sx.up (fun _ kk => r_istore_n 40 dX12_readProduct_39 rfl (by decide) rfl kk) ?_
            refine Sx.up (fun _ kk => r_aload_n 41 dX12_readProduct_40 rfl rfl kk) ?_
            obtain ⟨_, ⟨E8, rfl, y8⟩, hcl8⟩ := md_adv (d := d + e + 8) y1 (lv_liv (T := T) (liv_or hc))
            refine Sx.up (fun _ kk => r_callV 44 dX12_readProduct_41 rfl k12_233 hcl8 rfl rfl rfl (by decide) rfl lt95 (Nat.le_of_ble_eq_true rfl) kk) ?_
            refine Sx.up (fun _ kk => r_aload_n 45 dX12_readProduct_44 rfl rfl kk) ?_
            refine Sx.up (fun _ kk => r_iload_n 46 dX12_readProduct_45 rfl rfl kk) ?_
            obtain ⟨_, ⟨E9, rfl, y9⟩, hcl9⟩ := md_part y8 (slk_mono (by decide) (slk_adv (liv_or hc) hs1)) hw hl hex
            refine Sx.up (fun _ kk => r_callV 49 dX12_readProduct_46 rfl k12_255 hcl9 rfl rfl rfl (by decide) rfl lt95 (Nat.le_of_ble_eq_true rfl) kk) ?_
            refine Sx.up (fun _ kk => r_aload_n 50 dX12_readProduct_49 rfl rfl kk) ?_
            refine Sx.up (fun _ kk => r_iload_n 51 dX12_readProduct_50 rfl rfl kk) ?_
            obtain ⟨_, ⟨E10, rfl, y10⟩, hcl10⟩ := md_lay (d := d + e + 9) (x := if sgS T 42 s = true then -15 else -16) y9 (slk_mono (by decide) (slk_ext (ex_part l _) (slk_adv (liv_or hc) hs1))) (fun q z => by rw [hop]; exact hmo)
            refine Sx.up (fun _ kk => r_callV 54 dX12_readProduct_51 rfl k12_242 hcl10 rfl rfl rfl (by decide) rfl lt95 (Nat.le_of_ble_eq_true rfl) kk) ?_
            refine Sx.up (fun _ kk => r_goto 5 dX12_readProduct_54 (by decide) kk) ?_
            rw [hy hc]
            exact ih (by omega) _ _ _ y10 (slk_ru (slk_ext (ex_part l _) (slk_adv (liv_or hc) hs1))) (by have h9 : aft (600 - f) (prodB T (exprS T l) s) := aft_ru (aft_ext (ex_part l _) (aft_mono (by omega) (aft_adv (liv_or hc) ha))); exact h9)
          · have hc : prodC T s = true := by unfold prodC; rw [Bool.or_eq_true]; first | exact Or.inl (bnz h11) | exact Or.inr (bnz h20)
            have hop : (if sgS T 42 s = true then (-15 : Int32) else -16) = -15 := if_pos (bnz h29)
            have hmo : (-22 : Int32) = mS (-15) := by decide
            refine Sx.up (fun _ kk => r_bipush (-22) 34 dX12_readProduct_32 rfl (by decide) kk) ?_
            refine Sx.up (fun _ kk => r_goto 39 dX12_readProduct_34 (by decide) kk) ?_
            refine Sx.up (fun _ kk => r_istore_n 40 dX12_readProduct_39 rfl (by decide) rfl kk) ?_
            refine Sx.up (fun _ kk => r_aload_n 41 dX12_readProduct_40 rfl rfl kk) ?_
            obtain ⟨_, ⟨E11, rfl, y11⟩, hcl11⟩ := md_adv (d := d + e + 8) y1 (lv_liv (T := T) (liv_or hc))
            refine Sx.up (fun _ kk => r_callV 44 dX12_readProduct_41 rfl k12_233 hcl11 rfl rfl rfl (by decide) rfl lt95 (Nat.le_of_ble_eq_true rfl) kk) ?_
            refine Sx.up (fun _ kk => r_aload_n 45 dX12_readProduct_44 rfl rfl kk) ?_
            refine Sx.up (fun _ kk => r_iload_n 46 dX12_readProduct_45 rfl rfl kk) ?_
            obtain ⟨_, ⟨E12, rfl, y12⟩, hcl12⟩ := md_part y11 (slk_mono (by decide) (slk_adv (liv_or hc) hs1)) hw hl hex
            refine Sx.up (fun _ kk => r_callV 49 dX12_readProduct_46 rfl k12_255 hcl12 rfl rfl rfl (by decide) rfl lt95 (Nat.le_of_ble_eq_true rfl) kk) ?_
            refine Sx.up (fun _ kk => r_aload_n 50 dX12_readProduct_49 rfl rfl kk) ?_
            refine Sx.up (fun _ kk => r_iload_n 51 dX12_readProduct_50 rfl rfl kk) ?_
            obtain ⟨_, ⟨E13, rfl, y13⟩, hcl13⟩ := md_lay (d := d + e + 9) (x := if sgS T 42 s = true then -15 else -16) y12 (slk_mono (by decide) (slk_ext (ex_part l _) (slk_adv (liv_or hc) hs1))) (fun q z => by rw [hop]; exact hmo)
            refine Sx.up (fun _ kk => r_callV 54 dX12_readProduct_51 rfl k12_242 hcl13 rfl rfl rfl (by decide) rfl lt95 (Nat.le_of_ble_eq_true rfl) kk) ?_
            refine Sx.up (fun _ kk => r_goto 5 dX12_readProduct_54 (by decide) kk) ?_
            rw [hy hc]
            exact ih (by omega) _ _ _ y13 (slk_ru (slk_ext (ex_part l _) (slk_adv (liv_or hc) hs1))) (by have h9 : aft (600 - f) (prodB T (exprS T l) s) := aft_ru (aft_ext (ex_part l _) (aft_mono (by omega) (aft_adv (liv_or hc) ha))); exact h9)
  refine Sx.up (fun _ kk => r_aload_n 1 dX12_readProduct_0 rfl rfl kk) ?_
  refine Sx.up (fun _ kk => r_iload_n 2 dX12_readProduct_1 rfl rfl kk) ?_
  obtain ⟨_, ⟨E2, rfl, y2⟩, hcl2⟩ := md_part y1 hs hw hl hex
  refine Sx.up (fun _ kk => r_callV 5 dX12_readProduct_2 rfl k12_255 hcl2 rfl rfl rfl (by decide) rfl lt95 (Nat.le_of_ble_eq_true rfl) kk) ?_
  exact loop 600 (Nat.le_refl _) _ _ _ y2 hs0 (aft_0 _)
set_option maxRecDepth 20000 in
theorem md_sum {d e l : Nat} {E0 E : HP} {T : TX} {s : PS} {w : Int32} (y1 : CMd E0 E T s) (hs : slk 1 s) (hw : w = nI (6 - (l + 1))) (hl : l + 1 ≤ 6) (hex : ∀ {E : HP} {s : PS} {w : Int32}, CMd E0 E T s → slk 1 s → w = nI (6 - l) → ∃ o, (∃ E2, o = (.inl none, E2, 137) ∧ CMd E0 E2 T (exprS T l s)) ∧ Cl yX12_readExpression mX12_readExpression (d + e + 8) 0 0 [.ref 95, .int w] E 137 o) : ∃ o, (∃ E2, o = (.inl none, E2, 137) ∧ CMd E0 E2 T (sumS T (exprS T l) s)) ∧ Cl yX12_readSum mX12_readSum (d + e + 8 + 3) 0 0 [.ref 95, .int w] E 137 o := by
  have hs0 : slk 1 (prodS T (exprS T l) s) := slk_ext (ex_prod l s) hs
  have hTx := md_T y1
  refine Cx.of (by decide) rfl (fun q => by cases q) rfl rfl (Nat.le_of_ble_eq_true rfl) ?_
  show Sx _ _ _ _ _ 0 [some (.ref 95), some (.int (w)), none] [] _ _
  have loop : ∀ f, f ≤ 600 → ∀ E s x8, CMd E0 E T s → slk 1 s → aft (600 - f) s → Sx mX12_readSum (d + e + 8 + 3) 0 0 (fun o => ∃ E2, o = (.inl none, E2, 137) ∧ CMd E0 E2 T (loopS (sumC T) (sumB T (exprS T l)) f s)) 5 [some (.ref 95), some (.int w), x8] [] E 137 := by
    intro f
    induction f with
    | zero =>
      intro _ E s x8 y1 hs1 ha
      have hn1 := aft_sg (T := T) (c := 43) hTx ha
      have hn2 := aft_sg (T := T) (c := 45) hTx ha
      refine Sx.up (fun _ kk => r_aload_n 6 dX12_readSum_5 rfl rfl kk) ?_
      refine Sx.up (fun _ kk => r_bipush (43) 8 dX12_readSum_6 rfl (by decide) kk) ?_
      refine Sx.up (fun _ kk => r_callV 11 dX12_readSum_8 rfl k12_226 (md_isM (d := d + e + 10) y1) rfl rfl rfl (by decide) rfl lt95 (Nat.le_of_ble_eq_true rfl) kk) ?_
      refine Sx.up (fun _ kk => r_if_ne 14 23 dX12_readSum_11 rfl (by decide) (fun h11 => absurd h11 (fun z => z (bI_f hn1))) (fun _ => kk)) ?_
      refine Sx.up (fun _ kk => r_aload_n 15 dX12_readSum_14 rfl rfl kk) ?_
      refine Sx.up (fun _ kk => r_bipush (45) 17 dX12_readSum_15 rfl (by decide) kk) ?_
      refine Sx.up (fun _ kk => r_callV 20 dX12_readSum_17 rfl k12_226 (md_isM (d := d + e + 10) y1) rfl rfl rfl (by decide) rfl lt95 (Nat.le_of_ble_eq_true rfl) kk) ?_
      refine Sx.up (fun _ kk => r_if_eq 23 57 dX12_readSum_20 rfl (by decide) (fun _ => kk) (fun h20 => absurd (bI_f hn2) h20)) ?_
      refine ⟨_, ?_, r_vret dX12_readSum_57 rfl rfl rfl⟩
      exact ⟨_, rfl, y1⟩
    | succ f ih =>
      intro hf E s x8 y1 hs1 ha
      have hy : sumC T s = true → loopS (sumC T) (sumB T (exprS T l)) (f + 1) s = loopS (sumC T) (sumB T (exprS T l)) f (sumB T (exprS T l) s) := fun z => if_pos z
      have hn : ¬ sumC T s = true → loopS (sumC T) (sumB T (exprS T l)) (f + 1) s = s := fun z => if_neg z
      refine Sx.up (fun _ kk => r_aload_n 6 dX12_readSum_5 rfl rfl kk) ?_
      refine Sx.up (fun _ kk => r_bipush (43) 8 dX12_readSum_6 rfl (by decide) kk) ?_
      refine Sx.up (fun _ kk => r_callV 11 dX12_readSum_8 rfl k12_226 (md_isM (d := d + e + 10) y1) rfl rfl rfl (by decide) rfl lt95 (Nat.le_of_ble_eq_true rfl) kk) ?_
      refine Sx.br (fun _ ka kb => r_if_ne 14 23 dX12_readSum_11 rfl (by decide) ka kb) (by first | exact em1 | exact em2) (fun h11 => ?_) (fun h11 => ?_)
      · refine Sx.up (fun _ kk => r_aload_n 24 dX12_readSum_23 rfl rfl kk) ?_
        refine Sx.up (fun _ kk => r_bipush (43) 26 dX12_readSum_24 rfl (by decide) kk) ?_
        refine Sx.up (fun _ kk => r_callV 29 dX12_readSum_26 rfl k12_226 (md_isM (d := d + e + 10) y1) rfl rfl rfl (by decide) rfl lt95 (Nat.le_of_ble_eq_true rfl) kk) ?_
        refine Sx.br (fun _ ka kb => r_if_eq 32 37 dX12_readSum_29 rfl (by decide) ka kb) (by first | exact em1 | exact em2) (fun h29 => ?_) (fun h29 => ?_)
        · have hc : sumC T s = true := by unfold sumC; rw [Bool.or_eq_true]; first | exact Or.inl (bnz h11) | exact Or.inr (bnz h20)
          have hop : (if sgS T 43 s = true then (-13 : Int32) else -14) = -14 := if_neg (bz h29)
          have hmo : (-21 : Int32) = mS (-14) := by decide
          refine Sx.up (fun _ kk => r_bipush (-21) 39 dX12_readSum_37 rfl (by decide) kk) ?_
          refine Sx.up (fun _ kk => r_istore_n 40 dX12_readSum_39 rfl (by decide) rfl kk) ?_
          refine Sx.up (fun _ kk => r_aload_n 41 dX12_readSum_40 rfl rfl kk) ?_
          obtain ⟨_, ⟨E2, rfl, y2⟩, hcl2⟩ := md_adv (d := d + e + 9) y1 (lv_liv (T := T) (liv_or hc))
          refine Sx.up (fun _ kk => r_callV 44 dX12_readSum_41 rfl k12_233 hcl2 rfl rfl rfl (by decide) rfl lt95 (Nat.le_of_ble_eq_true rfl) kk) ?_
          refine Sx.up (fun _ kk => r_aload_n 45 dX12_readSum_44 rfl rfl kk) ?_
          refine Sx.up (fun _ kk => r_iload_n 46 dX12_readSum_45 rfl rfl kk) ?_
          obtain ⟨_, ⟨E3, rfl, y3⟩, hcl3⟩ := md_prod y2 (slk_mono (by decide) (slk_adv (liv_or hc) hs1)) hw hl hex
          refine Sx.up (fun _ kk => r_callV 49 dX12_readSum_46 rfl k12_258 hcl3 rfl rfl rfl (by decide) rfl lt95 (Nat.le_of_ble_eq_true rfl) kk) ?_
          refine Sx.up (fun _ kk => r_aload_n 50 dX12_readSum_49 rfl rfl kk) ?_
          refine Sx.up (fun _ kk => r_iload_n 51 dX12_readSum_50 rfl rfl kk) ?_
          obtain ⟨_, ⟨E4, rfl, y4⟩, hcl4⟩ := md_lay (d := d + e + 10) (x := if sgS T 43 s = true then -13 else -14) y3 (slk_mono (by decide) (slk_ext (ex_prod l _) (slk_adv (liv_or hc) hs1))) (fun q z => by rw [hop]; exact hmo)
          refine Sx.up (fun _ kk => r_callV 54 dX12_readSum_51 rfl k12_242 hcl4 rfl rfl rfl (by decide) rfl lt95 (Nat.le_of_ble_eq_true rfl) kk) ?_
          refine Sx.up (fun _ kk => r_goto 5 dX12_readSum_54 (by decide) kk) ?_
          rw [hy hc]
          exact ih (by omega) _ _ _ y4 (slk_ru (slk_ext (ex_prod l _) (slk_adv (liv_or hc) hs1))) (by have h9 : aft (600 - f) (sumB T (exprS T l) s) := aft_ru (aft_ext (ex_prod l _) (aft_mono (by omega) (aft_adv (liv_or hc) ha))); exact h9)
        · have hc : sumC T s = true := by unfold sumC; rw [Bool.or_eq_true]; first | exact Or.inl (bnz h11) | exact Or.inr (bnz h20)
          have hop : (if sgS T 43 s = true then (-13 : Int32) else -14) = -13 := if_pos (bnz h29)
          have hmo : (-20 : Int32) = mS (-13) := by decide
          refine Sx.up (fun _ kk => r_bipush (-20) 34 dX12_readSum_32 rfl (by decide) kk) ?_
          refine Sx.up (fun _ kk => r_goto 39 dX12_readSum_34 (by decide) kk) ?_
          refine Sx.up (fun _ kk => r_istore_n 40 dX12_readSum_39 rfl (by decide) rfl kk) ?_
          refine Sx.up (fun _ kk => r_aload_n 41 dX12_readSum_40 rfl rfl kk) ?_
          obtain ⟨_, ⟨E5, rfl, y5⟩, hcl5⟩ := md_adv (d := d + e + 9) y1 (lv_liv (T := T) (liv_or hc))
          refine Sx.up (fun _ kk => r_callV 44 dX12_readSum_41 rfl k12_233 hcl5 rfl rfl rfl (by decide) rfl lt95 (Nat.le_of_ble_eq_true rfl) kk) ?_
          refine Sx.up (fun _ kk => r_aload_n 45 dX12_readSum_44 rfl rfl kk) ?_
          refine Sx.up (fun _ kk => r_iload_n 46 dX12_readSum_45 rfl rfl kk) ?_
          obtain ⟨_, ⟨E6, rfl, y6⟩, hcl6⟩ := md_prod y5 (slk_mono (by decide) (slk_adv (liv_or hc) hs1)) hw hl hex
          refine Sx.up (fun _ kk => r_callV 49 dX12_readSum_46 rfl k12_258 hcl6 rfl rfl rfl (by decide) rfl lt95 (Nat.le_of_ble_eq_true rfl) kk) ?_
          refine Sx.up (fun _ kk => r_aload_n 50 dX12_readSum_49 rfl rfl kk) ?_
          refine Sx.up (fun _ kk => r_iload_n 51 dX12_readSum_50 rfl rfl kk) ?_
          obtain ⟨_, ⟨E7, rfl, y7⟩, hcl7⟩ := md_lay (d := d + e + 10) (x := if sgS T 43 s = true then -13 else -14) y6 (slk_mono (by decide) (slk_ext (ex_prod l _) (slk_adv (liv_or hc) hs1))) (fun q z => by rw [hop]; exact hmo)
          refine Sx.up (fun _ kk => r_callV 54 dX12_readSum_51 rfl k12_242 hcl7 rfl rfl rfl (by decide) rfl lt95 (Nat.le_of_ble_eq_true rfl) kk) ?_
          refine Sx.up (fun _ kk => r_goto 5 dX12_readSum_54 (by decide) kk) ?_
          rw [hy hc]
          exact ih (by omega) _ _ _ y7 (slk_ru (slk_ext (ex_prod l _) (slk_adv (liv_or hc) hs1))) (by have h9 : aft (600 - f) (sumB T (exprS T l) s) := aft_ru (aft_ext (ex_prod l _) (aft_mono (by omega) (aft_adv (liv_or hc) ha))); exact h9)
      · refine Sx.up (fun _ kk => r_aload_n 15 dX12_readSum_14 rfl rfl kk) ?_
        refine Sx.up (fun _ kk => r_bipush (45) 17 dX12_readSum_15 rfl (by decide) kk) ?_
        refine Sx.up (fun _ kk => r_callV 20 dX12_readSum_17 rfl k12_226 (md_isM (d := d + e + 10) y1) rfl rfl rfl (by decide) rfl lt95 (Nat.le_of_ble_eq_true rfl) kk) ?_
        refine Sx.br (fun _ ka kb => r_if_eq 23 57 dX12_readSum_20 rfl (by decide) ka kb) (by first | exact em1 | exact em2) (fun h20 => ?_) (fun h20 => ?_)
        · refine ⟨_, ?_, r_vret dX12_readSum_57 rfl rfl rfl⟩
          exact ⟨_, rfl, by rw [hn (fun z => by unfold sumC at z; rw [Bool.or_eq_true] at z; exact z.elim (bz h11) (bz h20))]; exact y1⟩
        · refine Sx.up (fun _ kk => r_aload_n 24 dX12_readSum_23 rfl rfl kk) ?_
          refine Sx.up (fun _ kk => r_bipush (43) 26 dX12_readSum_24 rfl (by decide) kk) ?_
          refine Sx.up (fun _ kk => r_callV 29 dX12_readSum_26 rfl k12_226 (md_isM (d := d + e + 10) y1) rfl rfl rfl (by decide) rfl lt95 (Nat.le_of_ble_eq_true rfl) kk) ?_
          refine Sx.br (fun _ ka kb => r_if_eq 32 37 dX12_readSum_29 rfl (by decide) ka kb) (by first | exact em1 | exact em2) (fun h29 => ?_) (fun h29 => ?_)
          · have hc : sumC T s = true := by unfold sumC; rw [Bool.or_eq_true]; first | exact Or.inl (bnz h11) | exact Or.inr (bnz h20)
            have hop : (if sgS T 43 s = true then (-13 : Int32) else -14) = -14 := if_neg (bz h29)
            have hmo : (-21 : Int32) = mS (-14) := by decide
            refine Sx.up (fun _ kk => r_bipush (-21) 39 dX12_readSum_37 rfl (by decide) kk) ?_
            refine Sx.up (fun _ kk => r_istore_n 40 dX12_readSum_39 rfl (by decide) rfl kk) ?_
            refine Sx.up (fun _ kk => r_aload_n 41 dX12_readSum_40 rfl rfl kk) ?_
            obtain ⟨_, ⟨E8, rfl, y8⟩, hcl8⟩ := md_adv (d := d + e + 9) y1 (lv_liv (T := T) (liv_or hc))
            refine Sx.up (fun _ kk => r_callV 44 dX12_readSum_41 rfl k12_233 hcl8 rfl rfl rfl (by decide) rfl lt95 (Nat.le_of_ble_eq_true rfl) kk) ?_
            refine Sx.up (fun _ kk => r_aload_n 45 dX12_readSum_44 rfl rfl kk) ?_
            refine Sx.up (fun _ kk => r_iload_n 46 dX12_readSum_45 rfl rfl kk) ?_
            obtain ⟨_, ⟨E9, rfl, y9⟩, hcl9⟩ := md_prod y8 (slk_mono (by decide) (slk_adv (liv_or hc) hs1)) hw hl hex
            refine Sx.up (fun _ kk => r_callV 49 dX12_readSum_46 rfl k12_258 hcl9 rfl rfl rfl (by decide) rfl lt95 (Nat.le_of_ble_eq_true rfl) kk) ?_
            refine Sx.up (fun _ kk => r_aload_n 50 dX12_readSum_49 rfl rfl kk) ?_
            refine Sx.up (fun _ kk => r_iload_n 51 dX12_readSum_50 rfl rfl kk) ?_
            obtain ⟨_, ⟨E10, rfl, y10⟩, hcl10⟩ := md_lay (d := d + e + 10) (x := if sgS T 43 s = true then -13 else -14) y9 (slk_mono (by decide) (slk_ext (ex_prod l _) (slk_adv (liv_or hc) hs1))) (fun q z => by rw [hop]; exact hmo)
            refine Sx.up (fun _ kk => r_callV 54 dX12_readSum_51 rfl k12_242 hcl10 rfl rfl rfl (by decide) rfl lt95 (Nat.le_of_ble_eq_true rfl) kk) ?_
            refine Sx.up (fun _ kk => r_goto 5 dX12_readSum_54 (by decide) kk) ?_
            rw [hy hc]
            exact ih (by omega) _ _ _ y10 (slk_ru (slk_ext (ex_prod l _) (slk_adv (liv_or hc) hs1))) (by have h9 : aft (600 - f) (sumB T (exprS T l) s) := aft_ru (aft_ext (ex_prod l _) (aft_mono (by omega) (aft_adv (liv_or hc) ha))); exact h9)
          · have hc : sumC T s = true := by unfold sumC; rw [Bool.or_eq_true]; first | exact Or.inl (bnz h11) | exact Or.inr (bnz h20)
            have hop : (if sgS T 43 s = true then (-13 : Int32) else -14) = -13 := if_pos (bnz h29)
            have hmo : (-20 : Int32) = mS (-13) := by decide
            refine Sx.up (fun _ kk => r_bipush (-20) 34 dX12_readSum_32 rfl (by decide) kk) ?_
            refine Sx.up (fun _ kk => r_goto 39 dX12_readSum_34 (by decide) kk) ?_
            refine Sx.up (fun _ kk => r_istore_n 40 dX12_readSum_39 rfl (by decide) rfl kk) ?_
            refine Sx.up (fun _ kk => r_aload_n 41 dX12_readSum_40 rfl rfl kk) ?_
            obtain ⟨_, ⟨E11, rfl, y11⟩, hcl11⟩ := md_adv (d := d + e + 9) y1 (lv_liv (T := T) (liv_or hc))
            refine Sx.up (fun _ kk => r_callV 44 dX12_readSum_41 rfl k12_233 hcl11 rfl rfl rfl (by decide) rfl lt95 (Nat.le_of_ble_eq_true rfl) kk) ?_
            refine Sx.up (fun _ kk => r_aload_n 45 dX12_readSum_44 rfl rfl kk) ?_
            refine Sx.up (fun _ kk => r_iload_n 46 dX12_readSum_45 rfl rfl kk) ?_
            obtain ⟨_, ⟨E12, rfl, y12⟩, hcl12⟩ := md_prod y11 (slk_mono (by decide) (slk_adv (liv_or hc) hs1)) hw hl hex
            refine Sx.up (fun _ kk => r_callV 49 dX12_readSum_46 rfl k12_258 hcl12 rfl rfl rfl (by decide) rfl lt95 (Nat.le_of_ble_eq_true rfl) kk) ?_
            refine Sx.up (fun _ kk => r_aload_n 50 dX12_readSum_49 rfl rfl kk) ?_
            refine Sx.up (fun _ kk => r_iload_n 51 dX12_readSum_50 rfl rfl kk) ?_
            obtain ⟨_, ⟨E13, rfl, y13⟩, hcl13⟩ := md_lay (d := d + e + 10) (x := if sgS T 43 s = true then -13 else -14) y12 (slk_mono (by decide) (slk_ext (ex_prod l _) (slk_adv (liv_or hc) hs1))) (fun q z => by rw [hop]; exact hmo)
            refine Sx.up (fun _ kk => r_callV 54 dX12_readSum_51 rfl k12_242 hcl13 rfl rfl rfl (by decide) rfl lt95 (Nat.le_of_ble_eq_true rfl) kk) ?_
            refine Sx.up (fun _ kk => r_goto 5 dX12_readSum_54 (by decide) kk) ?_
            rw [hy hc]
            exact ih (by omega) _ _ _ y13 (slk_ru (slk_ext (ex_prod l _) (slk_adv (liv_or hc) hs1))) (by have h9 : aft (600 - f) (sumB T (exprS T l) s) := aft_ru (aft_ext (ex_prod l _) (aft_mono (by omega) (aft_adv (liv_or hc) ha))); exact h9)
  refine Sx.up (fun _ kk => r_aload_n 1 dX12_readSum_0 rfl rfl kk) ?_
  refine Sx.up (fun _ kk => r_iload_n 2 dX12_readSum_1 rfl rfl kk) ?_
  obtain ⟨_, ⟨E2, rfl, y2⟩, hcl2⟩ := md_prod y1 hs hw hl hex
  refine Sx.up (fun _ kk => r_callV 5 dX12_readSum_2 rfl k12_258 hcl2 rfl rfl rfl (by decide) rfl lt95 (Nat.le_of_ble_eq_true rfl) kk) ?_
  exact loop 600 (Nat.le_refl _) _ _ _ y2 hs0 (aft_0 _)
set_option maxRecDepth 20000 in
theorem md_not {d e l : Nat} {E0 E : HP} {T : TX} {s : PS} {w : Int32} (y1 : CMd E0 E T s) (hs : slk 1 s) (hw : w = nI (6 - (l + 1))) (hl : l + 1 ≤ 6) (hex : ∀ {E : HP} {s : PS} {w : Int32}, CMd E0 E T s → slk 1 s → w = nI (6 - l) → ∃ o, (∃ E2, o = (.inl none, E2, 137) ∧ CMd E0 E2 T (exprS T l s)) ∧ Cl yX12_readExpression mX12_readExpression (d + e + 8) 0 0 [.ref 95, .int w] E 137 o) : ∃ o, (∃ E2, o = (.inl none, E2, 137) ∧ CMd E0 E2 T (notS T (exprS T l) s)) ∧ Cl yX12_readNot mX12_readNot (d + e + 8 + 4) 0 0 [.ref 95, .int w] E 137 o := by
  obtain ⟨hn1, hn6⟩ := slk_not (T := T) hs
  obtain ⟨c, hc⟩ : ∃ c, (notN T 6 s).1 = c := ⟨_, rfl⟩
  obtain ⟨s1, hs1⟩ : ∃ s1, (notN T 6 s).2 = s1 := ⟨_, rfl⟩
  rw [hc, hs1] at hn1
  rw [hc] at hn6
  have hres : notS T (exprS T l) s = repS (-10) c (testS T (exprS T l) (notM T s1)) := by unfold notS; rw [hc, hs1]
  rw [hres]
  refine Cx.of (by decide) rfl (fun q => by cases q) rfl rfl (Nat.le_of_ble_eq_true rfl) ?_
  show Sx _ _ _ _ _ 0 [some (.ref 95), some (.int (w)), none, none] [] _ _
  have k94 : ∀ E cnt t x8, CMd E0 E T (testS T (exprS T l) t) → slk (1 + cnt) (testS T (exprS T l) t) → repS (-10) cnt (testS T (exprS T l) t) = repS (-10) c (testS T (exprS T l) (notM T s1)) → cnt ≤ 7 → Sx mX12_readNot (d + e + 8 + 4) 0 0 (fun o => ∃ E2, o = (.inl none, E2, 137) ∧ CMd E0 E2 T (repS (-10) c (testS T (exprS T l) (notM T s1)))) 94 [some (.ref 95), some (.int w), some (.int (nI cnt)), x8] [] E 137 := by
    intro E cnt t x8 y1 hsl he h7
    have loop := sxUp (σ := HP × PS) (S := fun k9 q => Sx mX12_readNot (d + e + 8 + 4) 0 0 (fun o => ∃ E2, o = (.inl none, E2, 137) ∧ CMd E0 E2 T (repS (-10) (cnt - k9) q.2)) 96 [some (.ref 95), some (.int w), some (.int (nI cnt)), some (.int (nI k9))] [] q.1 137) (Inv := fun k9 q => CMd E0 q.1 T q.2 ∧ slk (1 + (cnt - k9)) q.2) (a := 0) (l := cnt) (Nat.zero_le _) ?_ ?_
    · refine Sx.up (fun _ kk => r_iconst (0) 95 dX12_readNot_94 rfl (by decide) kk) ?_
      refine Sx.up (fun _ kk => r_istore_n 96 dX12_readNot_95 rfl (by decide) rfl kk) ?_
      rw [← he]
      exact loop (E, _) ⟨y1, hsl⟩
    · intro q ⟨y1, hs9⟩
      refine Sx.up (fun _ kk => r_iload_n 97 dX12_readNot_96 rfl rfl kk) ?_
      refine Sx.up (fun _ kk => r_iload_n 98 dX12_readNot_97 rfl rfl kk) ?_
      refine Sx.up (fun _ kk => r_icmp_ge 101 113 dX12_readNot_98 rfl (by decide) (fun _ => kk) (fun h98 => absurd (nI_le (Nat.le_refl _) (by omega)) h98)) ?_
      refine ⟨_, ?_, r_vret dX12_readNot_113 rfl rfl rfl⟩
      exact ⟨_, rfl, by rw [Nat.sub_self]; exact y1⟩
    · intro k9 q hk0 hk9 ⟨y1, hs9⟩ hq
      obtain ⟨E, s⟩ := q
      have y1 : CMd E0 E T s := y1
      have hs9 : slk (1 + (cnt - k9)) s := hs9
      have hy : repS (-10) (cnt - k9) s = repS (-10) (cnt - (k9 + 1)) (ruS (-10) s) := by rw [show cnt - k9 = cnt - (k9 + 1) + 1 by omega]; rfl
      refine Sx.up (fun _ kk => r_iload_n 97 dX12_readNot_96 rfl rfl kk) ?_
      refine Sx.up (fun _ kk => r_iload_n 98 dX12_readNot_97 rfl rfl kk) ?_
      refine Sx.up (fun _ kk => r_icmp_ge 101 113 dX12_readNot_98 rfl (by decide) (fun h98 => absurd h98 (nI_ge hk9 (by omega))) (fun _ => kk)) ?_
      refine Sx.up (fun _ kk => r_aload_n 102 dX12_readNot_101 rfl rfl kk) ?_
      refine Sx.up (fun _ kk => r_bipush (-28) 104 dX12_readNot_102 rfl (by decide) kk) ?_
      obtain ⟨_, ⟨E2, rfl, y2⟩, hcl2⟩ := md_lay (d := d + e + 11) (x := -10) y1 (slk_mono (by omega) hs9) (fun q z => by decide)
      refine Sx.up (fun _ kk => r_callV 107 dX12_readNot_104 rfl k12_242 hcl2 rfl rfl rfl (by decide) rfl lt95 (Nat.le_of_ble_eq_true rfl) kk) ?_
      refine Sx.up (fun _ kk => r_iinc (1) 110 dX12_readNot_107 rfl rfl (by decide) (by decide) rfl kk) ?_
      refine Sx.up (fun _ kk => r_goto 96 dX12_readNot_110 (by decide) kk) ?_
      rw [hy]
      have hgo := hq (E2, _) ⟨y2, slk_ru (by rw [show 1 + (cnt - (k9 + 1)) + 1 = 1 + (cnt - k9) by omega]; exact hs9)⟩
      rw [nI_pp]
      exact hgo
  have k40 : ∀ E cnt t, CMd E0 E T t → slk (1 + cnt) t → repS (-10) cnt (testS T (exprS T l) t) = repS (-10) c (testS T (exprS T l) (notM T s1)) → cnt ≤ 7 → Sx mX12_readNot (d + e + 8 + 4) 0 0 (fun o => ∃ E2, o = (.inl none, E2, 137) ∧ CMd E0 E2 T (repS (-10) c (testS T (exprS T l) (notM T s1)))) 40 [some (.ref 95), some (.int w), some (.int (nI cnt)), none] [] E 137 := by
    intro E cnt t y1 hsl he h7
    have hsu : slk (1 + cnt) (sumS T (exprS T l) t) := slk_ext (ex_sum l t) hsl
    have hst : slk (1 + cnt) (testS T (exprS T l) t) := slk_ext (ex_test l t) hsl
    refine Sx.up (fun _ kk => r_aload_n 41 dX12_readNot_40 rfl rfl kk) ?_
    refine Sx.up (fun _ kk => r_iload_n 42 dX12_readNot_41 rfl rfl kk) ?_
    obtain ⟨_, ⟨E2, rfl, y2⟩, hcl2⟩ := md_sum y1 (slk_mono (by omega) hsl) hw hl hex
    refine Sx.up (fun _ kk => r_callV 45 dX12_readNot_42 rfl k12_263 hcl2 rfl rfl rfl (by decide) rfl lt95 (Nat.le_of_ble_eq_true rfl) kk) ?_
    refine Sx.up (fun _ kk => r_aload_n 46 dX12_readNot_45 rfl rfl kk) ?_
    refine Sx.up (fun _ kk => r_bipush (60) 48 dX12_readNot_46 rfl (by decide) kk) ?_
    refine Sx.up (fun _ kk => r_callV 51 dX12_readNot_48 rfl k12_226 (md_isM (d := d + e + 11) y2) rfl rfl rfl (by decide) rfl lt95 (Nat.le_of_ble_eq_true rfl) kk) ?_
    refine Sx.br (fun _ ka kb => r_if_ne 54 63 dX12_readNot_51 rfl (by decide) ka kb) (by first | exact em1 | exact em2) (fun h51 => ?_) (fun h51 => ?_)
    · refine Sx.up (fun _ kk => r_aload_n 64 dX12_readNot_63 rfl rfl kk) ?_
      refine Sx.up (fun _ kk => r_bipush (60) 66 dX12_readNot_64 rfl (by decide) kk) ?_
      refine Sx.up (fun _ kk => r_callV 69 dX12_readNot_66 rfl k12_226 (md_isM (d := d + e + 11) y2) rfl rfl rfl (by decide) rfl lt95 (Nat.le_of_ble_eq_true rfl) kk) ?_
      refine Sx.br (fun _ ka kb => r_if_eq 72 77 dX12_readNot_69 rfl (by decide) ka kb) (by first | exact em1 | exact em2) (fun h69 => ?_) (fun h69 => ?_)
      · have hc : testC T (sumS T (exprS T l) t) = true := by unfold testC; rw [Bool.or_eq_true]; first | exact Or.inl (bnz h51) | exact Or.inr (bnz h60)
        have hop : (if sgS T 60 (sumS T (exprS T l) t) = true then (-11 : Int32) else -12) = -12 := if_neg (bz h69)
        have hmo : (-25 : Int32) = mS (-12) := by decide
        have htest : testS T (exprS T l) t = testB T (exprS T l) (sumS T (exprS T l) t) := if_pos hc
        refine Sx.up (fun _ kk => r_bipush (-25) 79 dX12_readNot_77 rfl (by decide) kk) ?_
        refine Sx.up (fun _ kk => r_istore_n 80 dX12_readNot_79 rfl (by decide) rfl kk) ?_
        refine Sx.up (fun _ kk => r_aload_n 81 dX12_readNot_80 rfl rfl kk) ?_
        obtain ⟨_, ⟨E3, rfl, y3⟩, hcl3⟩ := md_adv (d := d + e + 10) y2 (lv_liv (T := T) (liv_or hc))
        refine Sx.up (fun _ kk => r_callV 84 dX12_readNot_81 rfl k12_233 hcl3 rfl rfl rfl (by decide) rfl lt95 (Nat.le_of_ble_eq_true rfl) kk) ?_
        refine Sx.up (fun _ kk => r_aload_n 85 dX12_readNot_84 rfl rfl kk) ?_
        refine Sx.up (fun _ kk => r_iload_n 86 dX12_readNot_85 rfl rfl kk) ?_
        obtain ⟨_, ⟨E4, rfl, y4⟩, hcl4⟩ := md_sum y3 (slk_mono (by omega) (slk_adv (liv_or hc) hsu)) hw hl hex
        refine Sx.up (fun _ kk => r_callV 89 dX12_readNot_86 rfl k12_263 hcl4 rfl rfl rfl (by decide) rfl lt95 (Nat.le_of_ble_eq_true rfl) kk) ?_
        refine Sx.up (fun _ kk => r_aload_n 90 dX12_readNot_89 rfl rfl kk) ?_
        refine Sx.up (fun _ kk => r_iload_n 91 dX12_readNot_90 rfl rfl kk) ?_
        obtain ⟨_, ⟨E5, rfl, y5⟩, hcl5⟩ := md_lay (d := d + e + 11) (x := if sgS T 60 (sumS T (exprS T l) t) = true then -11 else -12) y4 (slk_mono (by omega) (slk_ext (ex_sum l _) (slk_adv (liv_or hc) hsu))) (fun q z => by rw [hop]; exact hmo)
        refine Sx.up (fun _ kk => r_callV 94 dX12_readNot_91 rfl k12_242 hcl5 rfl rfl rfl (by decide) rfl lt95 (Nat.le_of_ble_eq_true rfl) kk) ?_
        refine k94 E5 cnt t _ ?_ hst he h7
        first
        | (rw [htest]; exact y5)
        | (rw [show testS T (exprS T l) t = sumS T (exprS T l) t from if_neg (fun z => by unfold testC at z; rw [Bool.or_eq_true] at z; exact z.elim (bz h51) (bz h60))]; exact y5)
      · have hc : testC T (sumS T (exprS T l) t) = true := by unfold testC; rw [Bool.or_eq_true]; first | exact Or.inl (bnz h51) | exact Or.inr (bnz h60)
        have hop : (if sgS T 60 (sumS T (exprS T l) t) = true then (-11 : Int32) else -12) = -11 := if_pos (bnz h69)
        have hmo : (-24 : Int32) = mS (-11) := by decide
        have htest : testS T (exprS T l) t = testB T (exprS T l) (sumS T (exprS T l) t) := if_pos hc
        refine Sx.up (fun _ kk => r_bipush (-24) 74 dX12_readNot_72 rfl (by decide) kk) ?_
        refine Sx.up (fun _ kk => r_goto 79 dX12_readNot_74 (by decide) kk) ?_
        refine Sx.up (fun _ kk => r_istore_n 80 dX12_readNot_79 rfl (by decide) rfl kk) ?_
        refine Sx.up (fun _ kk => r_aload_n 81 dX12_readNot_80 rfl rfl kk) ?_
        obtain ⟨_, ⟨E6, rfl, y6⟩, hcl6⟩ := md_adv (d := d + e + 10) y2 (lv_liv (T := T) (liv_or hc))
        refine Sx.up (fun _ kk => r_callV 84 dX12_readNot_81 rfl k12_233 hcl6 rfl rfl rfl (by decide) rfl lt95 (Nat.le_of_ble_eq_true rfl) kk) ?_
        refine Sx.up (fun _ kk => r_aload_n 85 dX12_readNot_84 rfl rfl kk) ?_
        refine Sx.up (fun _ kk => r_iload_n 86 dX12_readNot_85 rfl rfl kk) ?_
        obtain ⟨_, ⟨E7, rfl, y7⟩, hcl7⟩ := md_sum y6 (slk_mono (by omega) (slk_adv (liv_or hc) hsu)) hw hl hex
        refine Sx.up (fun _ kk => r_callV 89 dX12_readNot_86 rfl k12_263 hcl7 rfl rfl rfl (by decide) rfl lt95 (Nat.le_of_ble_eq_true rfl) kk) ?_
        refine Sx.up (fun _ kk => r_aload_n 90 dX12_readNot_89 rfl rfl kk) ?_
        refine Sx.up (fun _ kk => r_iload_n 91 dX12_readNot_90 rfl rfl kk) ?_
        obtain ⟨_, ⟨E8, rfl, y8⟩, hcl8⟩ := md_lay (d := d + e + 11) (x := if sgS T 60 (sumS T (exprS T l) t) = true then -11 else -12) y7 (slk_mono (by omega) (slk_ext (ex_sum l _) (slk_adv (liv_or hc) hsu))) (fun q z => by rw [hop]; exact hmo)
        refine Sx.up (fun _ kk => r_callV 94 dX12_readNot_91 rfl k12_242 hcl8 rfl rfl rfl (by decide) rfl lt95 (Nat.le_of_ble_eq_true rfl) kk) ?_
        refine k94 E8 cnt t _ ?_ hst he h7
        first
        | (rw [htest]; exact y8)
        | (rw [show testS T (exprS T l) t = sumS T (exprS T l) t from if_neg (fun z => by unfold testC at z; rw [Bool.or_eq_true] at z; exact z.elim (bz h51) (bz h60))]; exact y8)
    · refine Sx.up (fun _ kk => r_aload_n 55 dX12_readNot_54 rfl rfl kk) ?_
      refine Sx.up (fun _ kk => r_bipush (61) 57 dX12_readNot_55 rfl (by decide) kk) ?_
      refine Sx.up (fun _ kk => r_callV 60 dX12_readNot_57 rfl k12_226 (md_isM (d := d + e + 11) y2) rfl rfl rfl (by decide) rfl lt95 (Nat.le_of_ble_eq_true rfl) kk) ?_
      refine Sx.br (fun _ ka kb => r_if_eq 63 94 dX12_readNot_60 rfl (by decide) ka kb) (by first | exact em1 | exact em2) (fun h60 => ?_) (fun h60 => ?_)
      · refine k94 E2 cnt t _ ?_ hst he h7
        first
        | (rw [htest]; exact y2)
        | (rw [show testS T (exprS T l) t = sumS T (exprS T l) t from if_neg (fun z => by unfold testC at z; rw [Bool.or_eq_true] at z; exact z.elim (bz h51) (bz h60))]; exact y2)
      · refine Sx.up (fun _ kk => r_aload_n 64 dX12_readNot_63 rfl rfl kk) ?_
        refine Sx.up (fun _ kk => r_bipush (60) 66 dX12_readNot_64 rfl (by decide) kk) ?_
        refine Sx.up (fun _ kk => r_callV 69 dX12_readNot_66 rfl k12_226 (md_isM (d := d + e + 11) y2) rfl rfl rfl (by decide) rfl lt95 (Nat.le_of_ble_eq_true rfl) kk) ?_
        refine Sx.br (fun _ ka kb => r_if_eq 72 77 dX12_readNot_69 rfl (by decide) ka kb) (by first | exact em1 | exact em2) (fun h69 => ?_) (fun h69 => ?_)
        · have hc : testC T (sumS T (exprS T l) t) = true := by unfold testC; rw [Bool.or_eq_true]; first | exact Or.inl (bnz h51) | exact Or.inr (bnz h60)
          have hop : (if sgS T 60 (sumS T (exprS T l) t) = true then (-11 : Int32) else -12) = -12 := if_neg (bz h69)
          have hmo : (-25 : Int32) = mS (-12) := by decide
          have htest : testS T (exprS T l) t = testB T (exprS T l) (sumS T (exprS T l) t) := if_pos hc
          refine Sx.up (fun _ kk => r_bipush (-25) 79 dX12_readNot_77 rfl (by decide) kk) ?_
          refine Sx.up (fun _ kk => r_istore_n 80 dX12_readNot_79 rfl (by decide) rfl kk) ?_
          refine Sx.up (fun _ kk => r_aload_n 81 dX12_readNot_80 rfl rfl kk) ?_
          obtain ⟨_, ⟨E9, rfl, y9⟩, hcl9⟩ := md_adv (d := d + e + 10) y2 (lv_liv (T := T) (liv_or hc))
          refine Sx.up (fun _ kk => r_callV 84 dX12_readNot_81 rfl k12_233 hcl9 rfl rfl rfl (by decide) rfl lt95 (Nat.le_of_ble_eq_true rfl) kk) ?_
          refine Sx.up (fun _ kk => r_aload_n 85 dX12_readNot_84 rfl rfl kk) ?_
          refine Sx.up (fun _ kk => r_iload_n 86 dX12_readNot_85 rfl rfl kk) ?_
          obtain ⟨_, ⟨E10, rfl, y10⟩, hcl10⟩ := md_sum y9 (slk_mono (by omega) (slk_adv (liv_or hc) hsu)) hw hl hex
          refine Sx.up (fun _ kk => r_callV 89 dX12_readNot_86 rfl k12_263 hcl10 rfl rfl rfl (by decide) rfl lt95 (Nat.le_of_ble_eq_true rfl) kk) ?_
          refine Sx.up (fun _ kk => r_aload_n 90 dX12_readNot_89 rfl rfl kk) ?_
          refine Sx.up (fun _ kk => r_iload_n 91 dX12_readNot_90 rfl rfl kk) ?_
          obtain ⟨_, ⟨E11, rfl, y11⟩, hcl11⟩ := md_lay (d := d + e + 11) (x := if sgS T 60 (sumS T (exprS T l) t) = true then -11 else -12) y10 (slk_mono (by omega) (slk_ext (ex_sum l _) (slk_adv (liv_or hc) hsu))) (fun q z => by rw [hop]; exact hmo)
          refine Sx.up (fun _ kk => r_callV 94 dX12_readNot_91 rfl k12_242 hcl11 rfl rfl rfl (by decide) rfl lt95 (Nat.le_of_ble_eq_true rfl) kk) ?_
          refine k94 E11 cnt t _ ?_ hst he h7
          first
          | (rw [htest]; exact y11)
          | (rw [show testS T (exprS T l) t = sumS T (exprS T l) t from if_neg (fun z => by unfold testC at z; rw [Bool.or_eq_true] at z; exact z.elim (bz h51) (bz h60))]; exact y11)
        · have hc : testC T (sumS T (exprS T l) t) = true := by unfold testC; rw [Bool.or_eq_true]; first | exact Or.inl (bnz h51) | exact Or.inr (bnz h60)
          have hop : (if sgS T 60 (sumS T (exprS T l) t) = true then (-11 : Int32) else -12) = -11 := if_pos (bnz h69)
          have hmo : (-24 : Int32) = mS (-11) := by decide
          have htest : testS T (exprS T l) t = testB T (exprS T l) (sumS T (exprS T l) t) := if_pos hc
          refine Sx.up (fun _ kk => r_bipush (-24) 74 dX12_readNot_72 rfl (by decide) kk) ?_
          refine Sx.up (fun _ kk => r_goto 79 dX12_readNot_74 (by decide) kk) ?_
          refine Sx.up (fun _ kk => r_istore_n 80 dX12_readNot_79 rfl (by decide) rfl kk) ?_
          refine Sx.up (fun _ kk => r_aload_n 81 dX12_readNot_80 rfl rfl kk) ?_
          obtain ⟨_, ⟨E12, rfl, y12⟩, hcl12⟩ := md_adv (d := d + e + 10) y2 (lv_liv (T := T) (liv_or hc))
          refine Sx.up (fun _ kk => r_callV 84 dX12_readNot_81 rfl k12_233 hcl12 rfl rfl rfl (by decide) rfl lt95 (Nat.le_of_ble_eq_true rfl) kk) ?_
          refine Sx.up (fun _ kk => r_aload_n 85 dX12_readNot_84 rfl rfl kk) ?_
          refine Sx.up (fun _ kk => r_iload_n 86 dX12_readNot_85 rfl rfl kk) ?_
          obtain ⟨_, ⟨E13, rfl, y13⟩, hcl13⟩ := md_sum y12 (slk_mono (by omega) (slk_adv (liv_or hc) hsu)) hw hl hex
          refine Sx.up (fun _ kk => r_callV 89 dX12_readNot_86 rfl k12_263 hcl13 rfl rfl rfl (by decide) rfl lt95 (Nat.le_of_ble_eq_true rfl) kk) ?_
          refine Sx.up (fun _ kk => r_aload_n 90 dX12_readNot_89 rfl rfl kk) ?_
          refine Sx.up (fun _ kk => r_iload_n 91 dX12_readNot_90 rfl rfl kk) ?_
          obtain ⟨_, ⟨E14, rfl, y14⟩, hcl14⟩ := md_lay (d := d + e + 11) (x := if sgS T 60 (sumS T (exprS T l) t) = true then -11 else -12) y13 (slk_mono (by omega) (slk_ext (ex_sum l _) (slk_adv (liv_or hc) hsu))) (fun q z => by rw [hop]; exact hmo)
          refine Sx.up (fun _ kk => r_callV 94 dX12_readNot_91 rfl k12_242 hcl14 rfl rfl rfl (by decide) rfl lt95 (Nat.le_of_ble_eq_true rfl) kk) ?_
          refine k94 E14 cnt t _ ?_ hst he h7
          first
          | (rw [htest]; exact y14)
          | (rw [show testS T (exprS T l) t = sumS T (exprS T l) t from if_neg (fun z => by unfold testC at z; rw [Bool.or_eq_true] at z; exact z.elim (bz h51) (bz h60))]; exact y14)
  have loop := sxUp (σ := HP × PS) (S := fun k9 q => Sx mX12_readNot (d + e + 8 + 4) 0 0 (fun o => ∃ E2, o = (.inl none, E2, 137) ∧ CMd E0 E2 T (repS (-10) c (testS T (exprS T l) (notM T s1)))) 2 [some (.ref 95), some (.int w), some (.int (nI k9)), none] [] q.1 137) (Inv := fun k9 q => CMd E0 q.1 T q.2 ∧ k9 + (notN T (6 - k9) q.2).1 = c ∧ (notN T (6 - k9) q.2).2 = s1) (a := 0) (l := 6) (by omega) ?_ ?_
  · refine Sx.up (fun _ kk => r_iconst (0) 1 dX12_readNot_0 rfl (by decide) kk) ?_
    refine Sx.up (fun _ kk => r_istore_n 2 dX12_readNot_1 rfl (by decide) rfl kk) ?_
    exact loop (E, s) ⟨y1, by rw [← hc]; show 0 + _ = _; rw [Nat.zero_add], hs1⟩
  · intro q ⟨y1, e1, e2⟩
    obtain ⟨E, s⟩ := q
    have y1 : CMd E0 E T s := y1
    have e1 : c = 6 := e1.symm
    have e2 : s = s1 := e2
    subst e1
    subst e2
    by_cases hw9 : wdS T w_not s = true
    · have hm : notM T s = fltS 2 s := if_pos hw9
      obtain ⟨x9, hx9⟩ := flt_inl 2 s
      refine Sx.up (fun _ kk => r_aload_n 3 dX12_readNot_2 rfl rfl kk) ?_
      refine Sx.up (fun _ kk => r_ldcwS (i := 36) 6 dX12_readNot_3 rfl rfl kk) ?_
      refine Sx.up (fun _ kk => r_callV 9 dX12_readNot_6 rfl k12_222 (md_is (d := d + e + 7) (i := 36) (q := ("SpoonRowModel", 261, "not", w_not)) y1 rfl) rfl rfl rfl (by decide) rfl lt95 (Nat.le_of_ble_eq_true rfl) kk) ?_
      refine Sx.up (fun _ kk => r_if_eq 12 40 dX12_readNot_9 rfl (by decide) (fun h9 => absurd h9 (by rw [bI_t hw9]; decide)) (fun _ => kk)) ?_
      refine Sx.up (fun _ kk => r_iload_n 13 dX12_readNot_12 rfl rfl kk) ?_
      refine Sx.up (fun _ kk => r_bipush (6) 15 dX12_readNot_13 rfl (by decide) kk) ?_
      refine Sx.up (fun _ kk => r_icmp_ne 18 23 dX12_readNot_15 rfl (by decide) (fun h15 => absurd h15 (fun z => z rfl)) (fun _ => kk)) ?_
      refine Sx.up (fun _ kk => r_aload_n 19 dX12_readNot_18 rfl rfl kk) ?_
      refine Sx.up (fun _ kk => r_iconst (2) 20 dX12_readNot_19 rfl (by decide) kk) ?_
      obtain ⟨_, ⟨E2, rfl, y2⟩, hcl2⟩ := md_wrong (d := d + e + 11) y1 (k := 2) (k9 := 2) rfl (by decide) (by decide)
      refine Sx.up (fun _ kk => r_callV 23 dX12_readNot_20 rfl k12_229 hcl2 rfl rfl rfl (by decide) rfl lt95 (Nat.le_of_ble_eq_true rfl) kk) ?_
      refine Sx.up (fun _ kk => r_iinc (1) 26 dX12_readNot_23 rfl rfl (by decide) (by decide) rfl kk) ?_
      refine Sx.up (fun _ kk => r_aload_n 27 dX12_readNot_26 rfl rfl kk) ?_
      refine Sx.up (fun _ kk => r_getI 30 dX12_readNot_27 rfl f12_208 rfl rfl lt95 kk) ?_
      have y9 := y2
      rw [hx9] at y9
      refine Sx.up (fun _ kk => r_if_ne 33 2 dX12_readNot_30 rfl (by decide) (fun _ => kk) (fun h30 => absurd h30 (md_1b y9))) ?_
      skip
      refine Sx.up (fun _ kk => r_aload_n 3 dX12_readNot_2 rfl rfl kk) ?_
      refine Sx.up (fun _ kk => r_ldcwS (i := 36) 6 dX12_readNot_3 rfl rfl kk) ?_
      refine Sx.up (fun _ kk => r_callV 9 dX12_readNot_6 rfl k12_222 (md_is (d := d + e + 7) (i := 36) (q := ("SpoonRowModel", 261, "not", w_not)) y9 rfl) rfl rfl rfl (by decide) rfl lt95 (Nat.le_of_ble_eq_true rfl) kk) ?_
      refine Sx.up (fun _ kk => r_if_eq 12 40 dX12_readNot_9 rfl (by decide) (fun _ => kk) (fun h9 => absurd rfl h9)) ?_
      refine k40 _ 7 (.inl x9) y9 trivial ?_ (by decide)
      rw [hm, hx9, test_inl, rep_inl, rep_inl]
    · refine Sx.up (fun _ kk => r_aload_n 3 dX12_readNot_2 rfl rfl kk) ?_
      refine Sx.up (fun _ kk => r_ldcwS (i := 36) 6 dX12_readNot_3 rfl rfl kk) ?_
      refine Sx.up (fun _ kk => r_callV 9 dX12_readNot_6 rfl k12_222 (md_is (d := d + e + 7) (i := 36) (q := ("SpoonRowModel", 261, "not", w_not)) y1 rfl) rfl rfl rfl (by decide) rfl lt95 (Nat.le_of_ble_eq_true rfl) kk) ?_
      refine Sx.up (fun _ kk => r_if_eq 12 40 dX12_readNot_9 rfl (by decide) (fun _ => kk) (fun h9 => absurd (bI_f hw9) h9)) ?_
      refine k40 E 6 s y1 hn1 ?_ (by decide)
      rw [show notM T s = s from if_neg hw9]
  · intro k9 q hk0 hk9 ⟨y1, e1, e2⟩ hq
    obtain ⟨E, s⟩ := q
    have y1 : CMd E0 E T s := y1
    have e1 : k9 + (notN T (6 - k9) s).1 = c := e1
    have e2 : (notN T (6 - k9) s).2 = s1 := e2
    by_cases hw9 : wdS T w_not s = true
    · refine Sx.up (fun _ kk => r_aload_n 3 dX12_readNot_2 rfl rfl kk) ?_
      refine Sx.up (fun _ kk => r_ldcwS (i := 36) 6 dX12_readNot_3 rfl rfl kk) ?_
      refine Sx.up (fun _ kk => r_callV 9 dX12_readNot_6 rfl k12_222 (md_is (d := d + e + 7) (i := 36) (q := ("SpoonRowModel", 261, "not", w_not)) y1 rfl) rfl rfl rfl (by decide) rfl lt95 (Nat.le_of_ble_eq_true rfl) kk) ?_
      refine Sx.up (fun _ kk => r_if_eq 12 40 dX12_readNot_9 rfl (by decide) (fun h9 => absurd h9 (by rw [bI_t hw9]; decide)) (fun _ => kk)) ?_
      refine Sx.up (fun _ kk => r_iload_n 13 dX12_readNot_12 rfl rfl kk) ?_
      refine Sx.up (fun _ kk => r_bipush (6) 15 dX12_readNot_13 rfl (by decide) kk) ?_
      refine Sx.up (fun _ kk => r_icmp_ne 18 23 dX12_readNot_15 rfl (by decide) (fun _ => kk) (fun h15 => absurd h15 (fun z => by have := (nI_eq (b := 6) (by omega) (by omega)).mp z; omega))) ?_
      refine Sx.up (fun _ kk => r_iinc (1) 26 dX12_readNot_23 rfl rfl (by decide) (by decide) rfl kk) ?_
      refine Sx.up (fun _ kk => r_aload_n 27 dX12_readNot_26 rfl rfl kk) ?_
      refine Sx.up (fun _ kk => r_getI 30 dX12_readNot_27 rfl f12_208 rfl rfl lt95 kk) ?_
      refine Sx.up (fun _ kk => r_if_ne 33 2 dX12_readNot_30 rfl (by decide) (fun h30 => absurd h30 (fun z => z (md_0b y1 (lv_liv (liv_wd hw9))))) (fun _ => kk)) ?_
      refine Sx.up (fun _ kk => r_aload_n 34 dX12_readNot_33 rfl rfl kk) ?_
      obtain ⟨_, ⟨E2, rfl, y2⟩, hcl2⟩ := md_adv (d := d + e + 10) y1 (lv_liv (liv_wd hw9))
      refine Sx.up (fun _ kk => r_callV 37 dX12_readNot_34 rfl k12_233 hcl2 rfl rfl rfl (by decide) rfl lt95 (Nat.le_of_ble_eq_true rfl) kk) ?_
      refine Sx.up (fun _ kk => r_goto 2 dX12_readNot_37 (by decide) kk) ?_
      have e3 := not_y (T := T) (k := 6 - (k9 + 1)) hw9
      rw [show 6 - (k9 + 1) + 1 = 6 - k9 by omega] at e3
      rw [e3] at e1 e2
      have e1 : k9 + ((notN T (6 - (k9 + 1)) (advS T s)).1 + 1) = c := e1
      have hgo := hq (E2, _) ⟨y2, by show k9 + 1 + (notN T (6 - (k9 + 1)) (advS T s)).1 = c; omega, e2⟩
      rw [nI_pp]
      exact hgo
    · refine Sx.up (fun _ kk => r_aload_n 3 dX12_readNot_2 rfl rfl kk) ?_
      refine Sx.up (fun _ kk => r_ldcwS (i := 36) 6 dX12_readNot_3 rfl rfl kk) ?_
      refine Sx.up (fun _ kk => r_callV 9 dX12_readNot_6 rfl k12_222 (md_is (d := d + e + 7) (i := 36) (q := ("SpoonRowModel", 261, "not", w_not)) y1 rfl) rfl rfl rfl (by decide) rfl lt95 (Nat.le_of_ble_eq_true rfl) kk) ?_
      refine Sx.up (fun _ kk => r_if_eq 12 40 dX12_readNot_9 rfl (by decide) (fun _ => kk) (fun h9 => absurd (bI_f hw9) h9)) ?_
      have e3 := not_0 (T := T) (k := 6 - k9) hw9
      rw [e3] at e1 e2
      have e1 : k9 = c := e1
      have e2 : s = s1 := e2
      subst e1
      subst e2
      refine k40 E k9 s y1 hn1 ?_ (by omega)
      rw [show notM T s = s from if_neg hw9]
set_option maxRecDepth 20000 in
theorem md_and {d e l : Nat} {E0 E : HP} {T : TX} {s : PS} {w : Int32} (y1 : CMd E0 E T s) (hs : slk 1 s) (hw : w = nI (6 - (l + 1))) (hl : l + 1 ≤ 6) (hex : ∀ {E : HP} {s : PS} {w : Int32}, CMd E0 E T s → slk 1 s → w = nI (6 - l) → ∃ o, (∃ E2, o = (.inl none, E2, 137) ∧ CMd E0 E2 T (exprS T l s)) ∧ Cl yX12_readExpression mX12_readExpression (d + e + 8) 0 0 [.ref 95, .int w] E 137 o) : ∃ o, (∃ E2, o = (.inl none, E2, 137) ∧ CMd E0 E2 T (andS T (exprS T l) s)) ∧ Cl yX12_readAnd mX12_readAnd (d + e + 8 + 5) 0 0 [.ref 95, .int w] E 137 o := by
  have hs0 : slk 1 (notS T (exprS T l) s) := slk_ext (ex_not l s) hs
  have hTx := md_T y1
  refine Cx.of (by decide) rfl (fun q => by cases q) rfl rfl (Nat.le_of_ble_eq_true rfl) ?_
  show Sx _ _ _ _ _ 0 [some (.ref 95), some (.int (w)), none] [] _ _
  have loop : ∀ f, f ≤ 600 → ∀ E s x8, CMd E0 E T s → slk 1 s → aft (600 - f) s → Sx mX12_readAnd (d + e + 8 + 5) 0 0 (fun o => ∃ E2, o = (.inl none, E2, 137) ∧ CMd E0 E2 T (loopS (wdS T w_and) (andB T (exprS T l)) f s)) 5 [some (.ref 95), some (.int w), x8] [] E 137 := by
    intro f
    induction f with
    | zero =>
      intro _ E s x8 y1 hs1 ha
      have hn1 := aft_wd (T := T) (w := w_and) hTx ha
      refine Sx.up (fun _ kk => r_aload_n 6 dX12_readAnd_5 rfl rfl kk) ?_
      refine Sx.up (fun _ kk => r_ldcwS (i := 37) 9 dX12_readAnd_6 rfl rfl kk) ?_
      refine Sx.up (fun _ kk => r_callV 12 dX12_readAnd_9 rfl k12_222 (md_is (d := d + e + 8) (i := 37) (q := ("SpoonRowModel", 269, "and", w_and)) y1 rfl) rfl rfl rfl (by decide) rfl lt95 (Nat.le_of_ble_eq_true rfl) kk) ?_
      refine Sx.up (fun _ kk => r_if_eq 15 33 dX12_readAnd_12 rfl (by decide) (fun _ => kk) (fun h12 => absurd (bI_f hn1) h12)) ?_
      refine ⟨_, ?_, r_vret dX12_readAnd_33 rfl rfl rfl⟩
      exact ⟨_, rfl, y1⟩
    | succ f ih =>
      intro hf E s x8 y1 hs1 ha
      by_cases hc : wdS T w_and s = true
      · have hy : loopS (wdS T w_and) (andB T (exprS T l)) (f + 1) s = loopS (wdS T w_and) (andB T (exprS T l)) f (andB T (exprS T l) s) := if_pos hc
        rw [hy]
        refine Sx.up (fun _ kk => r_aload_n 6 dX12_readAnd_5 rfl rfl kk) ?_
        refine Sx.up (fun _ kk => r_ldcwS (i := 37) 9 dX12_readAnd_6 rfl rfl kk) ?_
        refine Sx.up (fun _ kk => r_callV 12 dX12_readAnd_9 rfl k12_222 (md_is (d := d + e + 8) (i := 37) (q := ("SpoonRowModel", 269, "and", w_and)) y1 rfl) rfl rfl rfl (by decide) rfl lt95 (Nat.le_of_ble_eq_true rfl) kk) ?_
        refine Sx.up (fun _ kk => r_if_eq 15 33 dX12_readAnd_12 rfl (by decide) (fun h12 => absurd h12 (by rw [bI_t hc]; decide)) (fun _ => kk)) ?_
        refine Sx.up (fun _ kk => r_aload_n 16 dX12_readAnd_15 rfl rfl kk) ?_
        obtain ⟨_, ⟨E2, rfl, y2⟩, hcl2⟩ := md_adv (d := d + e + 11) y1 (lv_liv (liv_wd hc))
        refine Sx.up (fun _ kk => r_callV 19 dX12_readAnd_16 rfl k12_233 hcl2 rfl rfl rfl (by decide) rfl lt95 (Nat.le_of_ble_eq_true rfl) kk) ?_
        refine Sx.up (fun _ kk => r_aload_n 20 dX12_readAnd_19 rfl rfl kk) ?_
        refine Sx.up (fun _ kk => r_iload_n 21 dX12_readAnd_20 rfl rfl kk) ?_
        obtain ⟨_, ⟨E3, rfl, y3⟩, hcl3⟩ := md_not y2 (slk_mono (by decide) (slk_adv (liv_wd hc) hs1)) hw hl hex
        refine Sx.up (fun _ kk => r_callV 24 dX12_readAnd_21 rfl k12_266 hcl3 rfl rfl rfl (by decide) rfl lt95 (Nat.le_of_ble_eq_true rfl) kk) ?_
        refine Sx.up (fun _ kk => r_aload_n 25 dX12_readAnd_24 rfl rfl kk) ?_
        refine Sx.up (fun _ kk => r_bipush (-26) 27 dX12_readAnd_25 rfl (by decide) kk) ?_
        obtain ⟨_, ⟨E4, rfl, y4⟩, hcl4⟩ := md_lay (d := d + e + 12) (x := -9) y3 (slk_mono (by decide) (slk_ext (ex_not l _) (slk_adv (liv_wd hc) hs1))) (fun q z => by decide)
        refine Sx.up (fun _ kk => r_callV 30 dX12_readAnd_27 rfl k12_242 hcl4 rfl rfl rfl (by decide) rfl lt95 (Nat.le_of_ble_eq_true rfl) kk) ?_
        refine Sx.up (fun _ kk => r_goto 5 dX12_readAnd_30 (by decide) kk) ?_
        exact ih (by omega) _ _ x8 y4 (slk_ru (slk_ext (ex_not l _) (slk_adv (liv_wd hc) hs1))) (by have h9 : aft (600 - f) (andB T (exprS T l) s) := aft_ru (aft_ext (ex_not l _) (aft_mono (by omega) (aft_adv (liv_wd hc) ha))); exact h9)
    · refine Sx.up (fun _ kk => r_aload_n 6 dX12_readAnd_5 rfl rfl kk) ?_
      refine Sx.up (fun _ kk => r_ldcwS (i := 37) 9 dX12_readAnd_6 rfl rfl kk) ?_
      refine Sx.up (fun _ kk => r_callV 12 dX12_readAnd_9 rfl k12_222 (md_is (d := d + e + 8) (i := 37) (q := ("SpoonRowModel", 269, "and", w_and)) y1 rfl) rfl rfl rfl (by decide) rfl lt95 (Nat.le_of_ble_eq_true rfl) kk) ?_
      refine Sx.up (fun _ kk => r_if_eq 15 33 dX12_readAnd_12 rfl (by decide) (fun _ => kk) (fun h12 => absurd (bI_f hc) h12)) ?_
      refine ⟨_, ?_, r_vret dX12_readAnd_33 rfl rfl rfl⟩
      exact ⟨_, rfl, by rw [show loopS (wdS T w_and) (andB T (exprS T l)) (f + 1) s = s from if_neg hc]; exact y1⟩
  refine Sx.up (fun _ kk => r_aload_n 1 dX12_readAnd_0 rfl rfl kk) ?_
  refine Sx.up (fun _ kk => r_iload_n 2 dX12_readAnd_1 rfl rfl kk) ?_
  obtain ⟨_, ⟨E2, rfl, y2⟩, hcl2⟩ := md_not y1 hs hw hl hex
  refine Sx.up (fun _ kk => r_callV 5 dX12_readAnd_2 rfl k12_266 hcl2 rfl rfl rfl (by decide) rfl lt95 (Nat.le_of_ble_eq_true rfl) kk) ?_
  exact loop 600 (Nat.le_refl _) _ _ _ y2 hs0 (aft_0 _)
set_option maxRecDepth 20000 in
theorem md_or {d e l : Nat} {E0 E : HP} {T : TX} {s : PS} {w : Int32} (y1 : CMd E0 E T s) (hs : slk 1 s) (hw : w = nI (6 - (l + 1))) (hl : l + 1 ≤ 6) (hex : ∀ {E : HP} {s : PS} {w : Int32}, CMd E0 E T s → slk 1 s → w = nI (6 - l) → ∃ o, (∃ E2, o = (.inl none, E2, 137) ∧ CMd E0 E2 T (exprS T l s)) ∧ Cl yX12_readExpression mX12_readExpression (d + e + 8) 0 0 [.ref 95, .int w] E 137 o) : ∃ o, (∃ E2, o = (.inl none, E2, 137) ∧ CMd E0 E2 T (exprS T (l + 1) s)) ∧ Cl yX12_readExpression mX12_readExpression (d + e + 8 + 6) 0 0 [.ref 95, .int w] E 137 o := by
  have hTx := md_T y1
  have hs0 : ∀ t, slk 1 t → slk 1 (andS T (exprS T l) t) := fun t ht => slk_ext (ex_and l t) ht
  refine Cx.of (by decide) rfl (fun q => by cases q) rfl rfl (Nat.le_of_ble_eq_true rfl) ?_
  show Sx _ _ _ _ _ 0 [some (.ref 95), some (.int (w)), none] [] _ _
  have loop : ∀ f, f ≤ 600 → ∀ E s x8, CMd E0 E T s → slk 1 s → aft (600 - f) s → Sx mX12_readExpression (d + e + 8 + 6) 0 0 (fun o => ∃ E2, o = (.inl none, E2, 137) ∧ CMd E0 E2 T (loopS (wdS T w_or) (orB T (exprS T l)) f s)) 67 [some (.ref 95), some (.int w), x8] [] E 137 := by
    intro f
    induction f with
    | zero =>
      intro _ E s x8 y1 hs1 ha
      have hn1 := aft_wd (T := T) (w := w_or) hTx ha
      refine Sx.up (fun _ kk => r_aload_n 68 dX12_readExpression_67 rfl rfl kk) ?_
      refine Sx.up (fun _ kk => r_ldcwS (i := 38) 71 dX12_readExpression_68 rfl rfl kk) ?_
      refine Sx.up (fun _ kk => r_callV 74 dX12_readExpression_71 rfl k12_222 (md_is (d := d + e + 9) (i := 38) (q := ("SpoonRowModel", 274, "or", w_or)) y1 rfl) rfl rfl rfl (by decide) rfl lt95 (Nat.le_of_ble_eq_true rfl) kk) ?_
      refine Sx.up (fun _ kk => r_if_eq 77 95 dX12_readExpression_74 rfl (by decide) (fun _ => kk) (fun h74 => absurd (bI_f hn1) h74)) ?_
      refine ⟨_, ?_, r_vret dX12_readExpression_95 rfl rfl rfl⟩
      exact ⟨_, rfl, y1⟩
    | succ f ih =>
      intro hf E s x8 y1 hs1 ha
      by_cases hc : wdS T w_or s = true
      · have hy : loopS (wdS T w_or) (orB T (exprS T l)) (f + 1) s = loopS (wdS T w_or) (orB T (exprS T l)) f (orB T (exprS T l) s) := if_pos hc
        rw [hy]
        refine Sx.up (fun _ kk => r_aload_n 68 dX12_readExpression_67 rfl rfl kk) ?_
        refine Sx.up (fun _ kk => r_ldcwS (i := 38) 71 dX12_readExpression_68 rfl rfl kk) ?_
        refine Sx.up (fun _ kk => r_callV 74 dX12_readExpression_71 rfl k12_222 (md_is (d := d + e + 9) (i := 38) (q := ("SpoonRowModel", 274, "or", w_or)) y1 rfl) rfl rfl rfl (by decide) rfl lt95 (Nat.le_of_ble_eq_true rfl) kk) ?_
        refine Sx.up (fun _ kk => r_if_eq 77 95 dX12_readExpression_74 rfl (by decide) (fun h74 => absurd h74 (by rw [bI_t hc]; decide)) (fun _ => kk)) ?_
        refine Sx.up (fun _ kk => r_aload_n 78 dX12_readExpression_77 rfl rfl kk) ?_
        obtain ⟨_, ⟨E2, rfl, y2⟩, hcl2⟩ := md_adv (d := d + e + 12) y1 (lv_liv (liv_wd hc))
        refine Sx.up (fun _ kk => r_callV 81 dX12_readExpression_78 rfl k12_233 hcl2 rfl rfl rfl (by decide) rfl lt95 (Nat.le_of_ble_eq_true rfl) kk) ?_
        refine Sx.up (fun _ kk => r_aload_n 82 dX12_readExpression_81 rfl rfl kk) ?_
        refine Sx.up (fun _ kk => r_iload_n 83 dX12_readExpression_82 rfl rfl kk) ?_
        obtain ⟨_, ⟨E3, rfl, y3⟩, hcl3⟩ := md_and y2 (slk_mono (by decide) (slk_adv (liv_wd hc) hs1)) hw hl hex
        refine Sx.up (fun _ kk => r_callV 86 dX12_readExpression_83 rfl k12_271 hcl3 rfl rfl rfl (by decide) rfl lt95 (Nat.le_of_ble_eq_true rfl) kk) ?_
        refine Sx.up (fun _ kk => r_aload_n 87 dX12_readExpression_86 rfl rfl kk) ?_
        refine Sx.up (fun _ kk => r_bipush (-27) 89 dX12_readExpression_87 rfl (by decide) kk) ?_
        obtain ⟨_, ⟨E4, rfl, y4⟩, hcl4⟩ := md_lay (d := d + e + 13) (x := -8) y3 (slk_mono (by decide) (slk_ext (ex_and l _) (slk_adv (liv_wd hc) hs1))) (fun q z => by decide)
        refine Sx.up (fun _ kk => r_callV 92 dX12_readExpression_89 rfl k12_242 hcl4 rfl rfl rfl (by decide) rfl lt95 (Nat.le_of_ble_eq_true rfl) kk) ?_
        refine Sx.up (fun _ kk => r_goto 67 dX12_readExpression_92 (by decide) kk) ?_
        exact ih (by omega) _ _ x8 y4 (slk_ru (slk_ext (ex_and l _) (slk_adv (liv_wd hc) hs1))) (by have h9 : aft (600 - f) (orB T (exprS T l) s) := aft_ru (aft_ext (ex_and l _) (aft_mono (by omega) (aft_adv (liv_wd hc) ha))); exact h9)
    · refine Sx.up (fun _ kk => r_aload_n 68 dX12_readExpression_67 rfl rfl kk) ?_
      refine Sx.up (fun _ kk => r_ldcwS (i := 38) 71 dX12_readExpression_68 rfl rfl kk) ?_
      refine Sx.up (fun _ kk => r_callV 74 dX12_readExpression_71 rfl k12_222 (md_is (d := d + e + 9) (i := 38) (q := ("SpoonRowModel", 274, "or", w_or)) y1 rfl) rfl rfl rfl (by decide) rfl lt95 (Nat.le_of_ble_eq_true rfl) kk) ?_
      refine Sx.up (fun _ kk => r_if_eq 77 95 dX12_readExpression_74 rfl (by decide) (fun _ => kk) (fun h74 => absurd (bI_f hc) h74)) ?_
      refine ⟨_, ?_, r_vret dX12_readExpression_95 rfl rfl rfl⟩
      exact ⟨_, rfl, by rw [show loopS (wdS T w_or) (orB T (exprS T l)) (f + 1) s = s from if_neg hc]; exact y1⟩
  have k62 : ∀ E t x8, CMd E0 E T t → slk 1 t → Sx mX12_readExpression (d + e + 8 + 6) 0 0 (fun o => ∃ E2, o = (.inl none, E2, 137) ∧ CMd E0 E2 T (orS T (exprS T l) t)) 62 [some (.ref 95), some (.int w), x8] [] E 137 := by
    intro E t x8 y1 hs1
    refine Sx.up (fun _ kk => r_aload_n 63 dX12_readExpression_62 rfl rfl kk) ?_
    refine Sx.up (fun _ kk => r_iload_n 64 dX12_readExpression_63 rfl rfl kk) ?_
    obtain ⟨_, ⟨E2, rfl, y2⟩, hcl2⟩ := md_and y1 hs1 hw hl hex
    refine Sx.up (fun _ kk => r_callV 67 dX12_readExpression_64 rfl k12_271 hcl2 rfl rfl rfl (by decide) rfl lt95 (Nat.le_of_ble_eq_true rfl) kk) ?_
    exact loop 600 (Nat.le_refl _) _ _ _ y2 (hs0 _ hs1) (aft_0 _)
  cases s with
  | inl x =>
    have hb := md_1b y1
    refine Sx.up (fun _ kk => r_aload_n 1 dX12_readExpression_0 rfl rfl kk) ?_
    refine Sx.up (fun _ kk => r_getI 4 dX12_readExpression_1 rfl f12_208 rfl rfl lt95 kk) ?_
    refine Sx.up (fun _ kk => r_if_eq 7 8 dX12_readExpression_4 rfl (by decide) (fun h4 => absurd h4 hb) (fun _ => kk)) ?_
    refine ⟨_, ?_, r_vret dX12_readExpression_7 rfl rfl rfl⟩
    exact ⟨_, rfl, by rw [expr_inl]; exact y1⟩
  | inr x =>
    obtain ⟨a, B⟩ := x
    have hb := md_0b y1 ⟨_, rfl⟩
    have hk1 := md_k y1 (k := 1) (by decide)
    have hk2 := md_k y1 (k := 2) (by decide)
    have k39 : ∀ v, v = bI (mayS T (.inr (a, B))) → Sx mX12_readExpression (d + e + 8 + 6) 0 0 (fun o => ∃ E2, o = (.inl none, E2, 137) ∧ CMd E0 E2 T (exprS T (l + 1) (.inr (a, B)))) 39 [some (.ref 95), some (.int w), some (.int v)] [] E 137 := by
      intro v hv
      by_cases hm : mayS T (.inr (a, B)) = true
      · rw [bI_t hm] at hv
        subst hv
        refine Sx.up (fun _ kk => r_iload_n 40 dX12_readExpression_39 rfl rfl kk) ?_
        refine Sx.up (fun _ kk => r_if_ne 43 51 dX12_readExpression_40 rfl (by decide) (fun _ => kk) (fun h40 => absurd h40 (by decide))) ?_
        refine Sx.up (fun _ kk => r_iload_n 52 dX12_readExpression_51 rfl rfl kk) ?_
        refine Sx.up (fun _ kk => r_bipush (6) 54 dX12_readExpression_52 rfl (by decide) kk) ?_
        refine Sx.up (fun _ kk => r_icmp_ne 57 62 dX12_readExpression_54 rfl (by decide) (fun _ => kk) (fun h54 => absurd h54 (fun z => by rw [hw] at z; have := (nI_eq (b := 6) (by omega) (by omega)).mp z; omega))) ?_
        exact k62 E _ _ y1 hs
      · rw [bI_f hm] at hv
        subst hv
        have hex9 : exprS T (l + 1) (.inr (a, B)) = orS T (exprS T l) (fltS 1 (.inr (a, B))) := by
          show orS T (exprS T l) (.inr (a, B)) = orS T (exprS T l) (.inl (1, a))
          rw [may_no (expr_inl l) hm, or_inl]
        rw [hex9]
        refine Sx.up (fun _ kk => r_iload_n 40 dX12_readExpression_39 rfl rfl kk) ?_
        refine Sx.up (fun _ kk => r_if_ne 43 51 dX12_readExpression_40 rfl (by decide) (fun h40 => absurd h40 (fun z => z rfl)) (fun _ => kk)) ?_
        refine Sx.up (fun _ kk => r_aload_n 44 dX12_readExpression_43 rfl rfl kk) ?_
        refine Sx.up (fun _ kk => r_iconst (1) 45 dX12_readExpression_44 rfl (by decide) kk) ?_
        obtain ⟨_, ⟨E2, rfl, y2⟩, hcl2⟩ := md_wrong (d := d + e + 13) y1 (k := 1) (k9 := 1) rfl (by decide) (by decide)
        refine Sx.up (fun _ kk => r_callV 48 dX12_readExpression_45 rfl k12_229 hcl2 rfl rfl rfl (by decide) rfl lt95 (Nat.le_of_ble_eq_true rfl) kk) ?_
        refine Sx.up (fun _ kk => r_goto 62 dX12_readExpression_48 (by decide) kk) ?_
        exact k62 E2 _ _ y2 trivial
    refine Sx.up (fun _ kk => r_aload_n 1 dX12_readExpression_0 rfl rfl kk) ?_
    refine Sx.up (fun _ kk => r_getI 4 dX12_readExpression_1 rfl f12_208 rfl rfl lt95 kk) ?_
    refine Sx.up (fun _ kk => r_if_eq 7 8 dX12_readExpression_4 rfl (by decide) (fun _ => kk) (fun h4 => absurd hb h4)) ?_
    refine Sx.up (fun _ kk => r_aload_n 9 dX12_readExpression_8 rfl rfl kk) ?_
    refine Sx.up (fun _ kk => r_getI 12 dX12_readExpression_9 rfl f12_182 rfl rfl lt95 kk) ?_
    refine Sx.up (fun _ kk => r_iconst (2) 13 dX12_readExpression_12 rfl (by decide) kk) ?_
    refine Sx.br (fun _ ka kb => r_icmp_eq 16 33 dX12_readExpression_13 rfl (by decide) ka kb) (by first | exact em1 | exact em2) (fun h13 => ?_) (fun h13 => ?_)
    · refine Sx.up (fun _ kk => r_iconst (1) 34 dX12_readExpression_33 rfl (by decide) kk) ?_
      refine Sx.up (fun _ kk => r_goto 38 dX12_readExpression_34 (by decide) kk) ?_
      refine Sx.up (fun _ kk => r_istore_n 39 dX12_readExpression_38 rfl (by decide) rfl kk) ?_
      exact k39 _ (by first | exact (bI_t (by unfold mayS; rw [show kiS T 2 (.inr (a, B)) = true from decide_eq_true (hk2.mp h13)]; rfl)).symm | exact (bI_t (by unfold mayS; rw [show kiS T 1 (.inr (a, B)) = true from decide_eq_true (hk1.mp h21), Bool.or_true]; rfl)).symm | exact (bI_t (by unfold mayS; rw [bnz h30, Bool.or_true])).symm | exact (bI_f (fun z => by unfold mayS at z; rw [Bool.or_eq_true, Bool.or_eq_true] at z; exact z.elim (fun z => z.elim (fun z => h13 (hk2.mpr (of_decide_eq_true z))) (fun z => h21 (hk1.mpr (of_decide_eq_true z)))) (bz h30))).symm)
    · refine Sx.up (fun _ kk => r_aload_n 17 dX12_readExpression_16 rfl rfl kk) ?_
      refine Sx.up (fun _ kk => r_getI 20 dX12_readExpression_17 rfl f12_182 rfl rfl lt95 kk) ?_
      refine Sx.up (fun _ kk => r_iconst (1) 21 dX12_readExpression_20 rfl (by decide) kk) ?_
      refine Sx.br (fun _ ka kb => r_icmp_eq 24 33 dX12_readExpression_21 rfl (by decide) ka kb) (by first | exact em1 | exact em2) (fun h21 => ?_) (fun h21 => ?_)
      · refine Sx.up (fun _ kk => r_iconst (1) 34 dX12_readExpression_33 rfl (by decide) kk) ?_
        refine Sx.up (fun _ kk => r_goto 38 dX12_readExpression_34 (by decide) kk) ?_
        refine Sx.up (fun _ kk => r_istore_n 39 dX12_readExpression_38 rfl (by decide) rfl kk) ?_
        exact k39 _ (by first | exact (bI_t (by unfold mayS; rw [show kiS T 2 (.inr (a, B)) = true from decide_eq_true (hk2.mp h13)]; rfl)).symm | exact (bI_t (by unfold mayS; rw [show kiS T 1 (.inr (a, B)) = true from decide_eq_true (hk1.mp h21), Bool.or_true]; rfl)).symm | exact (bI_t (by unfold mayS; rw [bnz h30, Bool.or_true])).symm | exact (bI_f (fun z => by unfold mayS at z; rw [Bool.or_eq_true, Bool.or_eq_true] at z; exact z.elim (fun z => z.elim (fun z => h13 (hk2.mpr (of_decide_eq_true z))) (fun z => h21 (hk1.mpr (of_decide_eq_true z)))) (bz h30))).symm)
      · refine Sx.up (fun _ kk => r_aload_n 25 dX12_readExpression_24 rfl rfl kk) ?_
        refine Sx.up (fun _ kk => r_bipush (40) 27 dX12_readExpression_25 rfl (by decide) kk) ?_
        refine Sx.up (fun _ kk => r_callV 30 dX12_readExpression_27 rfl k12_226 (md_isM (d := d + e + 13) y1) rfl rfl rfl (by decide) rfl lt95 (Nat.le_of_ble_eq_true rfl) kk) ?_
        refine Sx.br (fun _ ka kb => r_if_eq 33 37 dX12_readExpression_30 rfl (by decide) ka kb) (by first | exact em1 | exact em2) (fun h30 => ?_) (fun h30 => ?_)
        · refine Sx.up (fun _ kk => r_iconst (0) 38 dX12_readExpression_37 rfl (by decide) kk) ?_
          refine Sx.up (fun _ kk => r_istore_n 39 dX12_readExpression_38 rfl (by decide) rfl kk) ?_
          exact k39 _ (by first | exact (bI_t (by unfold mayS; rw [show kiS T 2 (.inr (a, B)) = true from decide_eq_true (hk2.mp h13)]; rfl)).symm | exact (bI_t (by unfold mayS; rw [show kiS T 1 (.inr (a, B)) = true from decide_eq_true (hk1.mp h21), Bool.or_true]; rfl)).symm | exact (bI_t (by unfold mayS; rw [bnz h30, Bool.or_true])).symm | exact (bI_f (fun z => by unfold mayS at z; rw [Bool.or_eq_true, Bool.or_eq_true] at z; exact z.elim (fun z => z.elim (fun z => h13 (hk2.mpr (of_decide_eq_true z))) (fun z => h21 (hk1.mpr (of_decide_eq_true z)))) (bz h30))).symm)
        · refine Sx.up (fun _ kk => r_iconst (1) 34 dX12_readExpression_33 rfl (by decide) kk) ?_
          refine Sx.up (fun _ kk => r_goto 38 dX12_readExpression_34 (by decide) kk) ?_
          refine Sx.up (fun _ kk => r_istore_n 39 dX12_readExpression_38 rfl (by decide) rfl kk) ?_
          exact k39 _ (by first | exact (bI_t (by unfold mayS; rw [show kiS T 2 (.inr (a, B)) = true from decide_eq_true (hk2.mp h13)]; rfl)).symm | exact (bI_t (by unfold mayS; rw [show kiS T 1 (.inr (a, B)) = true from decide_eq_true (hk1.mp h21), Bool.or_true]; rfl)).symm | exact (bI_t (by unfold mayS; rw [bnz h30, Bool.or_true])).symm | exact (bI_f (fun z => by unfold mayS at z; rw [Bool.or_eq_true, Bool.or_eq_true] at z; exact z.elim (fun z => z.elim (fun z => h13 (hk2.mpr (of_decide_eq_true z))) (fun z => h21 (hk1.mpr (of_decide_eq_true z)))) (bz h30))).symm)
set_option maxRecDepth 20000 in
theorem md_expr0 {d : Nat} {E0 E : HP} {T : TX} {s : PS} {w : Int32} (y1 : CMd E0 E T s) (hw : w = nI 6) : ∃ o, (∃ E2, o = (.inl none, E2, 137) ∧ CMd E0 E2 T (exprS T 0 s)) ∧ Cl yX12_readExpression mX12_readExpression (d + 8) 0 0 [.ref 95, .int w] E 137 o := by
  refine Cx.of (by decide) rfl (fun q => by cases q) rfl rfl (Nat.le_of_ble_eq_true rfl) ?_
  show Sx _ _ _ _ _ 0 [some (.ref 95), some (.int (w)), none] [] _ _
  have k62 : ∀ E x x8, CMd E0 E T (.inl x) → Sx mX12_readExpression (d + 8) 0 0 (fun o => ∃ E2, o = (.inl none, E2, 137) ∧ CMd E0 E2 T (.inl x)) 62 [some (.ref 95), some (.int w), x8] [] E 137 := by
    intro E x x8 y1
    refine Sx.up (fun _ kk => r_aload_n 63 dX12_readExpression_62 rfl rfl kk) ?_
    refine Sx.up (fun _ kk => r_iload_n 64 dX12_readExpression_63 rfl rfl kk) ?_
    refine Sx.up (fun _ kk => r_callV 67 dX12_readExpression_64 rfl k12_271 (md_andD (d := d + 1) y1) rfl rfl rfl (by decide) rfl lt95 (Nat.le_of_ble_eq_true rfl) kk) ?_
    refine Sx.up (fun _ kk => r_aload_n 68 dX12_readExpression_67 rfl rfl kk) ?_
    refine Sx.up (fun _ kk => r_ldcwS (i := 38) 71 dX12_readExpression_68 rfl rfl kk) ?_
    refine Sx.up (fun _ kk => r_callV 74 dX12_readExpression_71 rfl k12_222 (md_is (d := d + 3) (i := 38) (q := ("SpoonRowModel", 274, "or", w_or)) y1 rfl) rfl rfl rfl (by decide) rfl lt95 (Nat.le_of_ble_eq_true rfl) kk) ?_
    refine Sx.up (fun _ kk => r_if_eq 77 95 dX12_readExpression_74 rfl (by decide) (fun _ => kk) (fun h74 => absurd rfl h74)) ?_
    refine ⟨_, ?_, r_vret dX12_readExpression_95 rfl rfl rfl⟩
    exact ⟨_, rfl, y1⟩
  cases s with
  | inl x =>
    have hb := md_1b y1
    refine Sx.up (fun _ kk => r_aload_n 1 dX12_readExpression_0 rfl rfl kk) ?_
    refine Sx.up (fun _ kk => r_getI 4 dX12_readExpression_1 rfl f12_208 rfl rfl lt95 kk) ?_
    refine Sx.up (fun _ kk => r_if_eq 7 8 dX12_readExpression_4 rfl (by decide) (fun h4 => absurd h4 hb) (fun _ => kk)) ?_
    refine ⟨_, ?_, r_vret dX12_readExpression_7 rfl rfl rfl⟩
    exact ⟨_, rfl, y1⟩
  | inr x =>
    obtain ⟨a, B⟩ := x
    have hb := md_0b y1 ⟨_, rfl⟩
    have hk1 := md_k y1 (k := 1) (by decide)
    have hk2 := md_k y1 (k := 2) (by decide)
    have k39 : ∀ v, v = bI (mayS T (.inr (a, B))) → Sx mX12_readExpression (d + 8) 0 0 (fun o => ∃ E2, o = (.inl none, E2, 137) ∧ CMd E0 E2 T (exprS T 0 (.inr (a, B)))) 39 [some (.ref 95), some (.int w), some (.int v)] [] E 137 := by
      intro v hv
      by_cases hm : mayS T (.inr (a, B)) = true
      · rw [bI_t hm] at hv
        subst hv
        have hx : exprS T 0 (.inr (a, B)) = .inl (2, a) := by show fltS (if mayS T (.inr (a, B)) = true then 2 else 1) (.inr (a, B)) = _; rw [if_pos hm]; rfl
        rw [hx]
        refine Sx.up (fun _ kk => r_iload_n 40 dX12_readExpression_39 rfl rfl kk) ?_
        refine Sx.up (fun _ kk => r_if_ne 43 51 dX12_readExpression_40 rfl (by decide) (fun _ => kk) (fun h40 => absurd h40 (by decide))) ?_
        refine Sx.up (fun _ kk => r_iload_n 52 dX12_readExpression_51 rfl rfl kk) ?_
        refine Sx.up (fun _ kk => r_bipush (6) 54 dX12_readExpression_52 rfl (by decide) kk) ?_
        refine Sx.up (fun _ kk => r_icmp_ne 57 62 dX12_readExpression_54 rfl (by decide) (fun h54 => absurd h54 (fun z => z hw)) (fun _ => kk)) ?_
        refine Sx.up (fun _ kk => r_aload_n 58 dX12_readExpression_57 rfl rfl kk) ?_
        refine Sx.up (fun _ kk => r_iconst (2) 59 dX12_readExpression_58 rfl (by decide) kk) ?_
        obtain ⟨_, ⟨E2, rfl, y2⟩, hcl2⟩ := md_wrong (d := d + 7) y1 (k := 2) (k9 := 2) rfl (by decide) (by decide)
        refine Sx.up (fun _ kk => r_callV 62 dX12_readExpression_59 rfl k12_229 hcl2 rfl rfl rfl (by decide) rfl lt95 (Nat.le_of_ble_eq_true rfl) kk) ?_
        exact k62 E2 _ _ y2
      · rw [bI_f hm] at hv
        subst hv
        have hx : exprS T 0 (.inr (a, B)) = .inl (1, a) := by show fltS (if mayS T (.inr (a, B)) = true then 2 else 1) (.inr (a, B)) = _; rw [if_neg hm]; rfl
        rw [hx]
        refine Sx.up (fun _ kk => r_iload_n 40 dX12_readExpression_39 rfl rfl kk) ?_
        refine Sx.up (fun _ kk => r_if_ne 43 51 dX12_readExpression_40 rfl (by decide) (fun h40 => absurd h40 (fun z => z rfl)) (fun _ => kk)) ?_
        refine Sx.up (fun _ kk => r_aload_n 44 dX12_readExpression_43 rfl rfl kk) ?_
        refine Sx.up (fun _ kk => r_iconst (1) 45 dX12_readExpression_44 rfl (by decide) kk) ?_
        obtain ⟨_, ⟨E2, rfl, y2⟩, hcl2⟩ := md_wrong (d := d + 7) y1 (k := 1) (k9 := 1) rfl (by decide) (by decide)
        refine Sx.up (fun _ kk => r_callV 48 dX12_readExpression_45 rfl k12_229 hcl2 rfl rfl rfl (by decide) rfl lt95 (Nat.le_of_ble_eq_true rfl) kk) ?_
        refine Sx.up (fun _ kk => r_goto 62 dX12_readExpression_48 (by decide) kk) ?_
        exact k62 E2 _ _ y2
    refine Sx.up (fun _ kk => r_aload_n 1 dX12_readExpression_0 rfl rfl kk) ?_
    refine Sx.up (fun _ kk => r_getI 4 dX12_readExpression_1 rfl f12_208 rfl rfl lt95 kk) ?_
    refine Sx.up (fun _ kk => r_if_eq 7 8 dX12_readExpression_4 rfl (by decide) (fun _ => kk) (fun h4 => absurd hb h4)) ?_
    refine Sx.up (fun _ kk => r_aload_n 9 dX12_readExpression_8 rfl rfl kk) ?_
    refine Sx.up (fun _ kk => r_getI 12 dX12_readExpression_9 rfl f12_182 rfl rfl lt95 kk) ?_
    refine Sx.up (fun _ kk => r_iconst (2) 13 dX12_readExpression_12 rfl (by decide) kk) ?_
    refine Sx.br (fun _ ka kb => r_icmp_eq 16 33 dX12_readExpression_13 rfl (by decide) ka kb) (by first | exact em1 | exact em2) (fun h13 => ?_) (fun h13 => ?_)
    · refine Sx.up (fun _ kk => r_iconst (1) 34 dX12_readExpression_33 rfl (by decide) kk) ?_
      refine Sx.up (fun _ kk => r_goto 38 dX12_readExpression_34 (by decide) kk) ?_
      refine Sx.up (fun _ kk => r_istore_n 39 dX12_readExpression_38 rfl (by decide) rfl kk) ?_
      exact k39 _ (by first | exact (bI_t (by unfold mayS; rw [show kiS T 2 (.inr (a, B)) = true from decide_eq_true (hk2.mp h13)]; rfl)).symm | exact (bI_t (by unfold mayS; rw [show kiS T 1 (.inr (a, B)) = true from decide_eq_true (hk1.mp h21), Bool.or_true]; rfl)).symm | exact (bI_t (by unfold mayS; rw [bnz h30, Bool.or_true])).symm | exact (bI_f (fun z => by unfold mayS at z; rw [Bool.or_eq_true, Bool.or_eq_true] at z; exact z.elim (fun z => z.elim (fun z => h13 (hk2.mpr (of_decide_eq_true z))) (fun z => h21 (hk1.mpr (of_decide_eq_true z)))) (bz h30))).symm)
    · refine Sx.up (fun _ kk => r_aload_n 17 dX12_readExpression_16 rfl rfl kk) ?_
      refine Sx.up (fun _ kk => r_getI 20 dX12_readExpression_17 rfl f12_182 rfl rfl lt95 kk) ?_
      refine Sx.up (fun _ kk => r_iconst (1) 21 dX12_readExpression_20 rfl (by decide) kk) ?_
      refine Sx.br (fun _ ka kb => r_icmp_eq 24 33 dX12_readExpression_21 rfl (by decide) ka kb) (by first | exact em1 | exact em2) (fun h21 => ?_) (fun h21 => ?_)
      · refine Sx.up (fun _ kk => r_iconst (1) 34 dX12_readExpression_33 rfl (by decide) kk) ?_
        refine Sx.up (fun _ kk => r_goto 38 dX12_readExpression_34 (by decide) kk) ?_
        refine Sx.up (fun _ kk => r_istore_n 39 dX12_readExpression_38 rfl (by decide) rfl kk) ?_
        exact k39 _ (by first | exact (bI_t (by unfold mayS; rw [show kiS T 2 (.inr (a, B)) = true from decide_eq_true (hk2.mp h13)]; rfl)).symm | exact (bI_t (by unfold mayS; rw [show kiS T 1 (.inr (a, B)) = true from decide_eq_true (hk1.mp h21), Bool.or_true]; rfl)).symm | exact (bI_t (by unfold mayS; rw [bnz h30, Bool.or_true])).symm | exact (bI_f (fun z => by unfold mayS at z; rw [Bool.or_eq_true, Bool.or_eq_true] at z; exact z.elim (fun z => z.elim (fun z => h13 (hk2.mpr (of_decide_eq_true z))) (fun z => h21 (hk1.mpr (of_decide_eq_true z)))) (bz h30))).symm)
      · refine Sx.up (fun _ kk => r_aload_n 25 dX12_readExpression_24 rfl rfl kk) ?_
        refine Sx.up (fun _ kk => r_bipush (40) 27 dX12_readExpression_25 rfl (by decide) kk) ?_
        refine Sx.up (fun _ kk => r_callV 30 dX12_readExpression_27 rfl k12_226 (md_isM (d := d + 7) y1) rfl rfl rfl (by decide) rfl lt95 (Nat.le_of_ble_eq_true rfl) kk) ?_
        refine Sx.br (fun _ ka kb => r_if_eq 33 37 dX12_readExpression_30 rfl (by decide) ka kb) (by first | exact em1 | exact em2) (fun h30 => ?_) (fun h30 => ?_)
        · refine Sx.up (fun _ kk => r_iconst (0) 38 dX12_readExpression_37 rfl (by decide) kk) ?_
          refine Sx.up (fun _ kk => r_istore_n 39 dX12_readExpression_38 rfl (by decide) rfl kk) ?_
          exact k39 _ (by first | exact (bI_t (by unfold mayS; rw [show kiS T 2 (.inr (a, B)) = true from decide_eq_true (hk2.mp h13)]; rfl)).symm | exact (bI_t (by unfold mayS; rw [show kiS T 1 (.inr (a, B)) = true from decide_eq_true (hk1.mp h21), Bool.or_true]; rfl)).symm | exact (bI_t (by unfold mayS; rw [bnz h30, Bool.or_true])).symm | exact (bI_f (fun z => by unfold mayS at z; rw [Bool.or_eq_true, Bool.or_eq_true] at z; exact z.elim (fun z => z.elim (fun z => h13 (hk2.mpr (of_decide_eq_true z))) (fun z => h21 (hk1.mpr (of_decide_eq_true z)))) (bz h30))).symm)
        · refine Sx.up (fun _ kk => r_iconst (1) 34 dX12_readExpression_33 rfl (by decide) kk) ?_
          refine Sx.up (fun _ kk => r_goto 38 dX12_readExpression_34 (by decide) kk) ?_
          refine Sx.up (fun _ kk => r_istore_n 39 dX12_readExpression_38 rfl (by decide) rfl kk) ?_
          exact k39 _ (by first | exact (bI_t (by unfold mayS; rw [show kiS T 2 (.inr (a, B)) = true from decide_eq_true (hk2.mp h13)]; rfl)).symm | exact (bI_t (by unfold mayS; rw [show kiS T 1 (.inr (a, B)) = true from decide_eq_true (hk1.mp h21), Bool.or_true]; rfl)).symm | exact (bI_t (by unfold mayS; rw [bnz h30, Bool.or_true])).symm | exact (bI_f (fun z => by unfold mayS at z; rw [Bool.or_eq_true, Bool.or_eq_true] at z; exact z.elim (fun z => z.elim (fun z => h13 (hk2.mpr (of_decide_eq_true z))) (fun z => h21 (hk1.mpr (of_decide_eq_true z)))) (bz h30))).symm)
theorem md_expr {d : Nat} {E0 : HP} {T : TX} : ∀ l, l ≤ 6 → ∀ {E : HP} {s : PS} {w : Int32}, CMd E0 E T s → slk 1 s → w = nI (6 - l) → ∃ o, (∃ E2, o = (.inl none, E2, 137) ∧ CMd E0 E2 T (exprS T l s)) ∧ Cl yX12_readExpression mX12_readExpression (d + 6 * l + 8) 0 0 [.ref 95, .int w] E 137 o := by
  intro l
  induction l with
  | zero => intro _ E s w y1 _ hw; exact md_expr0 (d := d) y1 hw
  | succ l ih =>
    intro hl E s w y1 hs hw
    rw [show d + 6 * (l + 1) + 8 = d + 6 * l + 8 + 6 by omega]
    exact md_or y1 hs hw hl (fun y1 hs hw => ih (by omega) y1 hs hw)
theorem md_expr6 {d : Nat} {E0 E : HP} {T : TX} {s : PS} (y1 : CMd E0 E T s) (hs : slk 1 s) : ∃ o, (∃ E2, o = (.inl none, E2, 137) ∧ CMd E0 E2 T (exprS T 6 s)) ∧ Cl yX12_readExpression mX12_readExpression (d + 44) 0 0 [.ref 95, .int 0] E 137 o := by
  have h := md_expr (d := d) 6 (by decide) y1 hs (w := 0) rfl
  rw [show d + 6 * 6 + 8 = d + 44 by omega] at h
  exact h
