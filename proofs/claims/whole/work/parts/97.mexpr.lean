/-! The model's reader: expressions -/
theorem part_inl {T : TX} {ex : PS → PS} (x : Nat × Nat) : partS T ex (.inl x) = .inl x := rfl
theorem loop_inl {c : PS → Bool} {f : PS → PS} {x : Nat × Nat} (h : c (.inl x) = false) : ∀ k, loopS c f k (.inl x) = .inl x := by
  intro k
  cases k with
  | zero => rfl
  | succ k =>
    show (if c (.inl x) = true then loopS c f k (f (.inl x)) else .inl x) = _
    rw [h]; rfl
theorem prod_inl {T : TX} {ex : PS → PS} (x : Nat × Nat) : prodS T ex (.inl x) = .inl x := by unfold prodS; rw [part_inl]; exact loop_inl rfl _
theorem sum_inl {T : TX} {ex : PS → PS} (x : Nat × Nat) : sumS T ex (.inl x) = .inl x := by unfold sumS; rw [prod_inl]; exact loop_inl rfl _
theorem test_inl {T : TX} {ex : PS → PS} (x : Nat × Nat) : testS T ex (.inl x) = .inl x := by unfold testS; rw [sum_inl]; rfl
theorem nots_inl {T : TX} {ex : PS → PS} (x : Nat × Nat) : notS T ex (.inl x) = .inl x := not_inl test_inl x
theorem and_inl {T : TX} {ex : PS → PS} (x : Nat × Nat) : andS T ex (.inl x) = .inl x := by unfold andS; rw [nots_inl]; exact loop_inl rfl _
theorem or_inl {T : TX} {ex : PS → PS} (x : Nat × Nat) : orS T ex (.inl x) = .inl x := by unfold orS; rw [and_inl]; exact loop_inl rfl _
theorem expr_inl {T : TX} (l : Nat) (x : Nat × Nat) : exprS T l (.inl x) = .inl x := by
  cases l with
  | zero => rfl
  | succ l => exact or_inl x
theorem flt_inl (k : Nat) (s : PS) : ∃ x, fltS k s = .inl x := by
  cases s with
  | inl x => exact ⟨x, rfl⟩
  | inr q => exact ⟨_, rfl⟩
theorem sgn_inl {T : TX} {c : Int32} (x : Nat × Nat) : sgnS T c (.inl x) = .inl x := rfl
theorem lv_liv {T : TX} {s : PS} (h : liv T s) : lwS s := by
  obtain ⟨a, B, e, -⟩ := h
  exact ⟨_, e⟩
theorem aft_sg {T : TX} {c : Int32} {s : PS} (hT : TXok T) (h : aft 600 s) : ¬ sgS T c s = true := fun z => by
  obtain ⟨a, B, rfl, hk⟩ := liv_sg z
  have h : 600 ≤ a := h
  have := kd_ne hk
  have := hT.1
  omega
theorem aft_wd {T : TX} {w : List Int32} {s : PS} (hT : TXok T) (h : aft 600 s) : ¬ wdS T w s = true := fun z => by
  obtain ⟨a, B, rfl, hk⟩ := liv_wd z
  have h : 600 ≤ a := h
  have := kd_ne hk
  have := hT.1
  omega
theorem aft_mono {m m2 : Nat} {s : PS} (h : m2 ≤ m) (q : aft m s) : aft m2 s := by
  cases s with
  | inl x => trivial
  | inr z => exact Nat.le_trans h q
theorem aft_0 (s : PS) : aft 0 s := by
  cases s with
  | inl x => trivial
  | inr z => exact Nat.zero_le _
theorem part_other {T : TX} {ex : PS → PS} {a : Nat} {B : BD} (hx : ∀ x, ex (.inl x) = .inl x) (h1 : ¬ kdT T a = 1) (h2 : ¬ kdT T a = 2) : partS T ex (.inr (a, B)) = sgnS T 41 (ex (sgnS T 40 (.inr (a, B)))) := by
  have k1 : ¬ kiS T 1 (.inr (a, B)) = true := fun z => h1 (of_decide_eq_true z)
  have k2 : ¬ kiS T 2 (.inr (a, B)) = true := fun z => h2 (of_decide_eq_true z)
  have e : sgnS T 40 (.inr (a, B)) = if sgS T 40 (.inr (a, B)) = true then advS T (.inr (a, B)) else .inl (1, a) := rfl
  rw [e]
  unfold partS
  by_cases c : sgS T 40 (.inr (a, B)) = true
  · rw [if_pos c, if_pos c]
  · rw [if_neg c, if_neg c, if_neg k1, hx]
    unfold tkS
    rw [if_neg k2]
    rfl
theorem part_num {T : TX} {ex : PS → PS} {a : Nat} {B : BD} (h2 : kdT T a = 2) : partS T ex (.inr (a, B)) = ruS (nI (vaS T (.inr (a, B)))) (tkS T 0 9999 (.inr (a, B))) := by
  unfold partS
  rw [if_neg (fun z => by have := isS_kd (T := T) (a := a) (c := 40) z; omega), if_neg (fun z => by have : kdT T a = 1 := of_decide_eq_true z; omega)]
theorem part_wd {T : TX} {ex : PS → PS} {a : Nat} {B : BD} (h1 : kdT T a = 1) : partS T ex (.inr (a, B)) = valS T (.inr (a, B)) := by
  unfold partS
  rw [if_neg (fun z => by have := isS_kd (T := T) (a := a) (c := 40) z; omega), if_pos (show kiS T 1 (.inr (a, B)) = true from decide_eq_true h1)]
theorem vl_wh {T : TX} {s : PS} : (whF T s w_values 0 = -1 ∧ vlS T s = 0) ∨ (¬ whF T s w_values 0 = -1 ∧ ¬ vlS T s = 0 ∧ -1 - whF T s w_values 0 = vlS T s) := by
  unfold w_values vlS
  by_cases h0 : wdS T w_light s = true
  · right; unfold whF; rw [if_pos h0, if_pos h0]; decide
  rw [if_neg h0]; unfold whF; rw [if_neg h0]
  by_cases h1 : wdS T w_off s = true
  · right; unfold whF; rw [if_pos h1, if_pos h1]; decide
  rw [if_neg h1]; unfold whF; rw [if_neg h1]
  by_cases h2 : wdS T w_turns s = true
  · right; unfold whF; rw [if_pos h2, if_pos h2]; decide
  rw [if_neg h2]; unfold whF; rw [if_neg h2]
  by_cases h3 : wdS T w_hour s = true
  · right; unfold whF; rw [if_pos h3, if_pos h3]; decide
  rw [if_neg h3]; unfold whF; rw [if_neg h3]
  by_cases h4 : wdS T w_snore s = true
  · right; unfold whF; rw [if_pos h4, if_pos h4]; decide
  rw [if_neg h4]; unfold whF; rw [if_neg h4]
  by_cases h5 : wdS T w_edge s = true
  · right; unfold whF; rw [if_pos h5, if_pos h5]; decide
  rw [if_neg h5]; unfold whF; rw [if_neg h5]
  by_cases h6 : wdS T w_woken s = true
  · right; unfold whF; rw [if_pos h6, if_pos h6]; decide
  rw [if_neg h6]; unfold whF; rw [if_neg h6]
  left
  exact ⟨rfl, rfl⟩
theorem mS_vl {T : TX} {s : PS} (h : ¬ vlS T s = 0) : mS (vlS T s) = vlS T s := mS_val ((vl_r T s).resolve_left h).2
theorem mS_nI {k : Nat} (h : k < 2 ^ 31) : mS (nI k) = nI k := mS_val (fun z => absurd (Int32.lt_trans z (by decide)) (nI_pos h))
theorem may_no {T : TX} {ex : PS → PS} {a : Nat} {B : BD} (hx : ∀ x, ex (.inl x) = .inl x) (h : ¬ mayS T (.inr (a, B)) = true) : orS T ex (.inr (a, B)) = .inl (1, a) := by
  unfold mayS at h
  rw [Bool.or_eq_true, Bool.or_eq_true] at h
  have h1 : ¬ kdT T a = 1 := fun z => h (Or.inl (Or.inr (decide_eq_true z)))
  have h2 : ¬ kdT T a = 2 := fun z => h (Or.inl (Or.inl (decide_eq_true z)))
  have h4 : ¬ sgS T 40 (.inr (a, B)) = true := fun z => h (Or.inr z)
  have e1 : partS T ex (.inr (a, B)) = .inl (1, a) := by
    rw [part_other hx h1 h2, show sgnS T 40 (.inr (a, B)) = .inl (1, a) from if_neg h4, hx]; rfl
  have e2 : prodS T ex (.inr (a, B)) = .inl (1, a) := by unfold prodS; rw [e1]; exact loop_inl rfl _
  have e3 : sumS T ex (.inr (a, B)) = .inl (1, a) := by unfold sumS; rw [e2]; exact loop_inl rfl _
  have e4 : testS T ex (.inr (a, B)) = .inl (1, a) := by unfold testS; rw [e3]; rfl
  have hw : ¬ wdS T w_not (.inr (a, B)) = true := fun z => h1 (isW_kd z)
  have e5 : notS T ex (.inr (a, B)) = .inl (1, a) := by
    unfold notS
    rw [not_0 hw]
    show repS (-10) 0 (testS T ex (notM T (.inr (a, B)))) = _
    unfold notM
    rw [if_neg hw, e4]; rfl
  have e6 : andS T ex (.inr (a, B)) = .inl (1, a) := by unfold andS; rw [e5]; exact loop_inl rfl _
  unfold orS
  rw [e6]
  exact loop_inl rfl _
theorem w_ldcwS {p : Program} {l : Launch} {e : Env} {R : Room} {s : State} {m : MethodId} {args : Array Value} {below : List Frame} {meth : Method} {c : Code} {H : Heap} {locs : List Loc} {cells slots pc : Nat} {Q : State → Prop} {ls : Array Slot} {rest : List Value} {cc : ByteArray} (hexec : p.tables.exec = Jvm.exec) (hb : c.code = cc) {own tx : String} {index q : Nat} (hown : s.vm.findClass own = some m.cls) (hZ : vk_R own index tx q s) (hdg : decode cc pc = .ok (.ldc_w index, 3)) (k : W p l e R s m args below meth c H locs cells slots Q (F0 m (pc + 3) ls (.ref q :: rest))) : W p l e R s m args below meth c H locs cells slots Q (F0 m pc ls rest) := by
  subst hb
  intro T hT X
  obtain ⟨t, a1, b1⟩ := k T hT X
  refine ⟨t, ?_, b1⟩
  obtain ⟨k9, cf, i, a', hk, hcf, hcp, -, hr, hev'⟩ := Cond.stringRef_spec hown hZ.1
  cases hZ.2.symm.trans hev'
  obtain ⟨k', hk', he⟩ := X.warmed.alike.2.2 _ _ hk
  have hr' : k'.resolved[index]? = some (some (.string q)) := by
    rcases X.warmed.entry hk hk' index with h | ⟨h, -⟩
    · rw [h]; exact hr
    · rw [hr] at h; cases h
  have hdg' : decode c.code (F0 m pc ls rest).pc = .ok (.ldc_w index, 3) := hdg
  jvm_step X.here [hexec, hdg', ldc_w.wp_string (e := e) (s := T) (f := F0 m pc ls rest) X.here.top hk' (by rw [he]; exact hcf) hcp hr']
  exact a1
theorem r_ldcwS {M : MI} {d bc bs n pc idx i : Nat} {out : OUT} {ls : List (Option Value)} {st : List Value} {E : HP} {tx : String} {by9 : List Int32} (pc2 : Nat) (hd : decode M.2.1 pc = .ok (.ldc_w idx, 3)) (hp : pc + 3 = pc2) (hq : stL[i]? = some (cn M.1, idx, tx, by9)) (kk : Sm M d bc bs out pc2 ls (.ref (1000 + i) :: st) E n) : Sm M d bc bs out pc ls st E n := by
  subst hp
  intro G p l e s m args below meth c R H locs cells slots lsA Q C F hS hW hl h1 h2
  obtain ⟨k1, -⟩ := kk_S C i _ hq
  refine w_ldcwS C.1 C.2.1 C.2.2.2.1 k1 hd ?_
  have := kk G p l e s m args below meth c R H locs cells slots lsA Q C F hS hW hl h1 h2
  rw [List.map_cons, tr_hi (by omega)] at this
  exact this
set_option maxRecDepth 20000 in
theorem md_partD {d : Nat} {E0 E : HP} {T : TX} {x : Nat × Nat} {w : Int32} (y1 : CMd E0 E T (.inl x)) : Cl yX12_readPart mX12_readPart (d) 0 0 [.ref 95, .int w] E 137 (.inl none, E, 137) := by
  have hb := md_1b y1
  refine Cl.of (by decide) rfl (fun q => by cases q) rfl rfl (Nat.le_of_ble_eq_true rfl) ?_
  show Sm _ _ _ _ _ 0 [some (.ref 95), some (.int (w)), none] [] _ _
  refine r_aload_n 1 dX12_readPart_0 rfl rfl ?_
  refine r_getI 4 dX12_readPart_1 rfl f12_208 rfl rfl lt95 ?_
  refine r_if_eq 7 8 dX12_readPart_4 rfl (by decide) (fun h4 => absurd h4 hb) (fun h4 => ?_)
  exact r_vret dX12_readPart_7 rfl rfl (rfl)
set_option maxRecDepth 20000 in
theorem md_prodD {d : Nat} {E0 E : HP} {T : TX} {x : Nat × Nat} {w : Int32} (y1 : CMd E0 E T (.inl x)) : Cl yX12_readProduct mX12_readProduct (d + 1) 0 0 [.ref 95, .int w] E 137 (.inl none, E, 137) := by
  have hb := md_1b y1
  refine Cl.of (by decide) rfl (fun q => by cases q) rfl rfl (Nat.le_of_ble_eq_true rfl) ?_
  show Sm _ _ _ _ _ 0 [some (.ref 95), some (.int (w)), none] [] _ _
  refine r_aload_n 1 dX12_readProduct_0 rfl rfl ?_
  refine r_iload_n 2 dX12_readProduct_1 rfl rfl ?_
  refine r_callV (M := mX12_readProduct) (pc := 2) 5 dX12_readProduct_2 rfl k12_255 (md_partD y1) rfl rfl rfl (by decide) rfl lt95 (Nat.le_of_ble_eq_true rfl) ?_
  refine r_aload_n 6 dX12_readProduct_5 rfl rfl ?_
  refine r_bipush (42) 8 dX12_readProduct_6 rfl (by decide) ?_
  refine r_callV (M := mX12_readProduct) (pc := 8) 11 dX12_readProduct_8 rfl k12_226 (md_isM y1) rfl rfl rfl (by decide) rfl lt95 (Nat.le_of_ble_eq_true rfl) ?_
  refine r_if_ne 14 23 dX12_readProduct_11 rfl (by decide) (fun h11 => absurd h11 (fun z => z rfl)) (fun h11 => ?_)
  refine r_aload_n 15 dX12_readProduct_14 rfl rfl ?_
  refine r_bipush (47) 17 dX12_readProduct_15 rfl (by decide) ?_
  refine r_callV (M := mX12_readProduct) (pc := 17) 20 dX12_readProduct_17 rfl k12_226 (md_isM y1) rfl rfl rfl (by decide) rfl lt95 (Nat.le_of_ble_eq_true rfl) ?_
  refine r_if_eq 23 57 dX12_readProduct_20 rfl (by decide) (fun h20 => ?_) (fun h20 => absurd rfl h20)
  exact r_vret dX12_readProduct_57 rfl rfl (rfl)
set_option maxRecDepth 20000 in
theorem md_sumD {d : Nat} {E0 E : HP} {T : TX} {x : Nat × Nat} {w : Int32} (y1 : CMd E0 E T (.inl x)) : Cl yX12_readSum mX12_readSum (d + 2) 0 0 [.ref 95, .int w] E 137 (.inl none, E, 137) := by
  have hb := md_1b y1
  refine Cl.of (by decide) rfl (fun q => by cases q) rfl rfl (Nat.le_of_ble_eq_true rfl) ?_
  show Sm _ _ _ _ _ 0 [some (.ref 95), some (.int (w)), none] [] _ _
  refine r_aload_n 1 dX12_readSum_0 rfl rfl ?_
  refine r_iload_n 2 dX12_readSum_1 rfl rfl ?_
  refine r_callV (M := mX12_readSum) (pc := 2) 5 dX12_readSum_2 rfl k12_258 (md_prodD y1) rfl rfl rfl (by decide) rfl lt95 (Nat.le_of_ble_eq_true rfl) ?_
  refine r_aload_n 6 dX12_readSum_5 rfl rfl ?_
  refine r_bipush (43) 8 dX12_readSum_6 rfl (by decide) ?_
  refine r_callV (M := mX12_readSum) (pc := 8) 11 dX12_readSum_8 rfl k12_226 (md_isM y1) rfl rfl rfl (by decide) rfl lt95 (Nat.le_of_ble_eq_true rfl) ?_
  refine r_if_ne 14 23 dX12_readSum_11 rfl (by decide) (fun h11 => absurd h11 (fun z => z rfl)) (fun h11 => ?_)
  refine r_aload_n 15 dX12_readSum_14 rfl rfl ?_
  refine r_bipush (45) 17 dX12_readSum_15 rfl (by decide) ?_
  refine r_callV (M := mX12_readSum) (pc := 17) 20 dX12_readSum_17 rfl k12_226 (md_isM y1) rfl rfl rfl (by decide) rfl lt95 (Nat.le_of_ble_eq_true rfl) ?_
  refine r_if_eq 23 57 dX12_readSum_20 rfl (by decide) (fun h20 => ?_) (fun h20 => absurd rfl h20)
  exact r_vret dX12_readSum_57 rfl rfl (rfl)
set_option maxRecDepth 20000 in
theorem md_notD {d : Nat} {E0 E : HP} {T : TX} {x : Nat × Nat} {w : Int32} (y1 : CMd E0 E T (.inl x)) : Cl yX12_readNot mX12_readNot (d + 5) 0 0 [.ref 95, .int w] E 137 (.inl none, E, 137) := by
  have hb := md_1b y1
  refine Cl.of (by decide) rfl (fun q => by cases q) rfl rfl (Nat.le_of_ble_eq_true rfl) ?_
  show Sm _ _ _ _ _ 0 [some (.ref 95), some (.int (w)), none, none] [] _ _
  refine r_iconst (0) 1 dX12_readNot_0 rfl (by decide) ?_
  refine r_istore_n 2 dX12_readNot_1 rfl (by decide) rfl ?_
  refine r_aload_n 3 dX12_readNot_2 rfl rfl ?_
  refine r_ldcwS (i := 36) 6 dX12_readNot_3 rfl rfl ?_
  refine r_callV (M := mX12_readNot) (pc := 6) 9 dX12_readNot_6 rfl k12_222 (md_is (i := 36) (q := ("SpoonRowModel", 261, "not", w_not)) y1 rfl) rfl rfl rfl (by decide) rfl lt95 (Nat.le_of_ble_eq_true rfl) ?_
  refine r_if_eq 12 40 dX12_readNot_9 rfl (by decide) (fun h9 => ?_) (fun h9 => absurd rfl h9)
  refine r_aload_n 41 dX12_readNot_40 rfl rfl ?_
  refine r_iload_n 42 dX12_readNot_41 rfl rfl ?_
  refine r_callV (M := mX12_readNot) (pc := 42) 45 dX12_readNot_42 rfl k12_263 (md_sumD (d := d + 2) y1) rfl rfl rfl (by decide) rfl lt95 (Nat.le_of_ble_eq_true rfl) ?_
  refine r_aload_n 46 dX12_readNot_45 rfl rfl ?_
  refine r_bipush (60) 48 dX12_readNot_46 rfl (by decide) ?_
  refine r_callV (M := mX12_readNot) (pc := 48) 51 dX12_readNot_48 rfl k12_226 (md_isM y1) rfl rfl rfl (by decide) rfl lt95 (Nat.le_of_ble_eq_true rfl) ?_
  refine r_if_ne 54 63 dX12_readNot_51 rfl (by decide) (fun h51 => absurd h51 (fun z => z rfl)) (fun h51 => ?_)
  refine r_aload_n 55 dX12_readNot_54 rfl rfl ?_
  refine r_bipush (61) 57 dX12_readNot_55 rfl (by decide) ?_
  refine r_callV (M := mX12_readNot) (pc := 57) 60 dX12_readNot_57 rfl k12_226 (md_isM y1) rfl rfl rfl (by decide) rfl lt95 (Nat.le_of_ble_eq_true rfl) ?_
  refine r_if_eq 63 94 dX12_readNot_60 rfl (by decide) (fun h60 => ?_) (fun h60 => absurd rfl h60)
  refine r_iconst (0) 95 dX12_readNot_94 rfl (by decide) ?_
  refine r_istore_n 96 dX12_readNot_95 rfl (by decide) rfl ?_
  refine r_iload_n 97 dX12_readNot_96 rfl rfl ?_
  refine r_iload_n 98 dX12_readNot_97 rfl rfl ?_
  refine r_icmp_ge 101 113 dX12_readNot_98 rfl (by decide) (fun h98 => ?_) (fun h98 => absurd (by decide) h98)
  exact r_vret dX12_readNot_113 rfl rfl (rfl)
set_option maxRecDepth 20000 in
theorem md_andD {d : Nat} {E0 E : HP} {T : TX} {x : Nat × Nat} {w : Int32} (y1 : CMd E0 E T (.inl x)) : Cl yX12_readAnd mX12_readAnd (d + 6) 0 0 [.ref 95, .int w] E 137 (.inl none, E, 137) := by
  have hb := md_1b y1
  refine Cl.of (by decide) rfl (fun q => by cases q) rfl rfl (Nat.le_of_ble_eq_true rfl) ?_
  show Sm _ _ _ _ _ 0 [some (.ref 95), some (.int (w))] [] _ _
  refine r_aload_n 1 dX12_readAnd_0 rfl rfl ?_
  refine r_iload_n 2 dX12_readAnd_1 rfl rfl ?_
  refine r_callV (M := mX12_readAnd) (pc := 2) 5 dX12_readAnd_2 rfl k12_266 (md_notD y1) rfl rfl rfl (by decide) rfl lt95 (Nat.le_of_ble_eq_true rfl) ?_
  refine r_aload_n 6 dX12_readAnd_5 rfl rfl ?_
  refine r_ldcwS (i := 37) 9 dX12_readAnd_6 rfl rfl ?_
  refine r_callV (M := mX12_readAnd) (pc := 9) 12 dX12_readAnd_9 rfl k12_222 (md_is (d := d + 1) (i := 37) (q := ("SpoonRowModel", 269, "and", w_and)) y1 rfl) rfl rfl rfl (by decide) rfl lt95 (Nat.le_of_ble_eq_true rfl) ?_
  refine r_if_eq 15 33 dX12_readAnd_12 rfl (by decide) (fun h12 => ?_) (fun h12 => absurd rfl h12)
  exact r_vret dX12_readAnd_33 rfl rfl (rfl)
set_option maxHeartbeats 16000000 in
set_option maxRecDepth 20000 in
theorem md_part {d e l : Nat} {E0 E : HP} {T : TX} {s : PS} {w : Int32} (y1 : CMd E0 E T s) (hs : slk 1 s) (hw : w = nI (6 - (l + 1))) (hl : l + 1 ≤ 6) (hex : ∀ {E : HP} {s : PS} {w : Int32}, CMd E0 E T s → slk 1 s → w = nI (6 - l) → ∃ o, (∃ E2, o = (.inl none, E2, 137) ∧ CMd E0 E2 T (exprS T l s)) ∧ Cl yX12_readExpression mX12_readExpression (d + e + 8) 0 0 [.ref 95, .int w] E 137 o) : ∃ o, (∃ E2, o = (.inl none, E2, 137) ∧ CMd E0 E2 T (partS T (exprS T l) s)) ∧ Cl yX12_readPart mX12_readPart (d + e + 8 + 1) 0 0 [.ref 95, .int w] E 137 o := by
  refine Cx.of (by decide) rfl (fun q => by cases q) rfl rfl (Nat.le_of_ble_eq_true rfl) ?_
  show Sx _ _ _ _ _ 0 [some (.ref 95), some (.int (w)), none] [] _ _
  cases s with
  | inl x =>
    have hb := md_1b y1
    refine Sx.up (fun _ kk => r_aload_n 1 dX12_readPart_0 rfl rfl kk) ?_
    refine Sx.up (fun _ kk => r_getI 4 dX12_readPart_1 rfl f12_208 rfl rfl lt95 kk) ?_
    refine Sx.up (fun _ kk => r_if_eq 7 8 dX12_readPart_4 rfl (by decide) (fun h4 => absurd h4 hb) (fun _ => kk)) ?_
    refine ⟨_, ?_, r_vret dX12_readPart_7 rfl rfl rfl⟩
    exact ⟨_, rfl, y1⟩
  | inr x =>
    obtain ⟨a, B⟩ := x
    have hb := md_0b y1 ⟨_, rfl⟩
    have hk1 := md_k y1 (k := 1) (by decide)
    have hk2 := md_k y1 (k := 2) (by decide)
    by_cases k2 : kdT T a = 2
    · obtain ⟨_, ⟨E2, v, rfl, y2, hv⟩, hcl⟩ := md_rn (d := d + e + 6) y1 (lo := 0) (hi := 9999) rfl rfl (by decide) (by decide)
      have hn9 := num_lt k2
      obtain ⟨_, ⟨E3, rfl, y3⟩, hcl3⟩ := md_lay (d := d + e + 8) (v := v) (x := nI (vaS T (.inr (a, B)))) y2 (slk_tk hs) (fun q z => by rw [hv q.1 q.2 z]; exact (mS_nI (by show numT T a < _; omega)).symm)
      rw [← part_num (ex := exprS T l) k2] at y3
      refine Sx.up (fun _ kk => r_aload_n 1 dX12_readPart_0 rfl rfl kk) ?_
      refine Sx.up (fun _ kk => r_getI 4 dX12_readPart_1 rfl f12_208 rfl rfl lt95 kk) ?_
      refine Sx.up (fun _ kk => r_if_eq 7 8 dX12_readPart_4 rfl (by decide) (fun _ => kk) (fun h4 => absurd hb h4)) ?_
      refine Sx.up (fun _ kk => r_aload_n 9 dX12_readPart_8 rfl rfl kk) ?_
      refine Sx.up (fun _ kk => r_getI 12 dX12_readPart_9 rfl f12_182 rfl rfl lt95 kk) ?_
      refine Sx.up (fun _ kk => r_iconst (2) 13 dX12_readPart_12 rfl (by decide) kk) ?_
      refine Sx.up (fun _ kk => r_icmp_ne 16 29 dX12_readPart_13 rfl (by decide) (fun h13 => absurd h13 (fun z => z (hk2.mpr k2))) (fun _ => kk)) ?_
      refine Sx.up (fun _ kk => r_aload_n 17 dX12_readPart_16 rfl rfl kk) ?_
      refine Sx.up (fun _ kk => r_aload_n 18 dX12_readPart_17 rfl rfl kk) ?_
      refine Sx.up (fun _ kk => r_iconst (0) 19 dX12_readPart_18 rfl (by decide) kk) ?_
      refine Sx.up (fun _ kk => r_sipush (9999) 22 dX12_readPart_19 rfl (by decide) kk) ?_
      refine Sx.up (fun _ kk => r_callV (M := mX12_readPart) (pc := 22) 25 dX12_readPart_22 rfl k12_239 hcl rfl rfl rfl (by decide) rfl lt95 (Nat.le_of_ble_eq_true rfl) kk) ?_
      refine Sx.up (fun _ kk => r_callV (M := mX12_readPart) (pc := 25) 28 dX12_readPart_25 rfl k12_242 hcl3 rfl rfl rfl (by decide) rfl lt95 (Nat.le_of_ble_eq_true rfl) kk) ?_
      refine ⟨_, ?_, r_vret dX12_readPart_28 rfl rfl rfl⟩
      exact ⟨_, rfl, y3⟩
    by_cases k1 : kdT T a = 1
    · rw [part_wd k1]
      obtain ⟨wv, hwv⟩ : ∃ wv, whF T (.inr (a, B)) w_values 0 = wv := ⟨_, rfl⟩
      have hwh := md_whichV (d := d + e + 3) y1
      rw [hwv] at hwh
      have hvl := vl_wh (T := T) (s := .inr (a, B))
      rw [hwv] at hvl
      rcases hvl with ⟨n1, n2⟩ | ⟨n1, n2, n3⟩
      · refine Sx.up (fun _ kk => r_aload_n 1 dX12_readPart_0 rfl rfl kk) ?_
        refine Sx.up (fun _ kk => r_getI 4 dX12_readPart_1 rfl f12_208 rfl rfl lt95 kk) ?_
        refine Sx.up (fun _ kk => r_if_eq 7 8 dX12_readPart_4 rfl (by decide) (fun _ => kk) (fun h4 => absurd hb h4)) ?_
        refine Sx.up (fun _ kk => r_aload_n 9 dX12_readPart_8 rfl rfl kk) ?_
        refine Sx.up (fun _ kk => r_getI 12 dX12_readPart_9 rfl f12_182 rfl rfl lt95 kk) ?_
        refine Sx.up (fun _ kk => r_iconst (2) 13 dX12_readPart_12 rfl (by decide) kk) ?_
        refine Sx.up (fun _ kk => r_icmp_ne 16 29 dX12_readPart_13 rfl (by decide) (fun _ => kk) (fun h13 => absurd h13 (fun z => k2 (hk2.mp z)))) ?_
        refine Sx.up (fun _ kk => r_aload_n 30 dX12_readPart_29 rfl rfl kk) ?_
        refine Sx.up (fun _ kk => r_getI 33 dX12_readPart_30 rfl f12_182 rfl rfl lt95 kk) ?_
        refine Sx.up (fun _ kk => r_iconst (1) 34 dX12_readPart_33 rfl (by decide) kk) ?_
        refine Sx.up (fun _ kk => r_icmp_ne 37 75 dX12_readPart_34 rfl (by decide) (fun h34 => absurd h34 (fun z => z (hk1.mpr k1))) (fun _ => kk)) ?_
        refine Sx.up (fun _ kk => r_aload_n 38 dX12_readPart_37 rfl rfl kk) ?_
        refine Sx.up (fun _ kk => r_aload_n 39 dX12_readPart_38 rfl rfl kk) ?_
        refine Sx.up (fun _ kk => r_getR 42 dX12_readPart_39 rfl f12_35 rfl rfl lt95 (mo_1 (md_M y1)) kk) ?_
        refine Sx.up (fun _ kk => r_callV (M := mX12_readPart) (pc := 42) 45 dX12_readPart_42 rfl k12_245 hwh rfl rfl rfl (by decide) rfl lt95 (Nat.le_of_ble_eq_true rfl) kk) ?_
        refine Sx.up (fun _ kk => r_istore_n 46 dX12_readPart_45 rfl (by decide) rfl kk) ?_
        refine Sx.up (fun _ kk => r_iload_n 47 dX12_readPart_46 rfl rfl kk) ?_
        refine Sx.up (fun _ kk => r_iconst (-1) 48 dX12_readPart_47 rfl (by decide) kk) ?_
        refine Sx.up (fun _ kk => r_icmp_ne 51 56 dX12_readPart_48 rfl (by decide) (fun h48 => absurd h48 (fun z => z n1)) (fun _ => kk)) ?_
        refine Sx.up (fun _ kk => r_aload_n 52 dX12_readPart_51 rfl rfl kk) ?_
        refine Sx.up (fun _ kk => r_iconst (3) 53 dX12_readPart_52 rfl (by decide) kk) ?_
        obtain ⟨_, ⟨E2, rfl, y2⟩, hcl2⟩ := md_wrong (d := d + e + 8) y1 (k := 3) (k9 := 3) rfl (by decide) (by decide)
        refine Sx.up (fun _ kk => r_callV (M := mX12_readPart) (pc := 53) 56 dX12_readPart_53 rfl k12_229 hcl2 rfl rfl rfl (by decide) rfl lt95 (Nat.le_of_ble_eq_true rfl) kk) ?_
        refine Sx.up (fun _ kk => r_aload_n 57 dX12_readPart_56 rfl rfl kk) ?_
        refine Sx.up (fun _ kk => r_iconst (-1) 58 dX12_readPart_57 rfl (by decide) kk) ?_
        refine Sx.up (fun _ kk => r_iload_n 59 dX12_readPart_58 rfl rfl kk) ?_
        refine Sx.up (fun _ kk => r_isub 60 dX12_readPart_59 rfl kk) ?_
        obtain ⟨_, ⟨E3, rfl, y3⟩, hcl3⟩ := md_lay (d := d + e + 8) (x := 0) y2 trivial (fun q z => by cases z)
        refine Sx.up (fun _ kk => r_callV (M := mX12_readPart) (pc := 60) 63 dX12_readPart_60 rfl k12_242 hcl3 rfl rfl rfl (by decide) rfl lt95 (Nat.le_of_ble_eq_true rfl) kk) ?_
        refine Sx.up (fun _ kk => r_aload_n 64 dX12_readPart_63 rfl rfl kk) ?_
        refine Sx.up (fun _ kk => r_getI 67 dX12_readPart_64 rfl f12_208 rfl rfl lt95 kk) ?_
        refine Sx.up (fun _ kk => r_if_ne 70 74 dX12_readPart_67 rfl (by decide) (fun _ => kk) (fun h67 => absurd h67 (md_1b y3))) ?_
        refine ⟨_, ?_, r_vret dX12_readPart_74 rfl rfl rfl⟩
        exact ⟨_, rfl, by unfold valS; rw [if_pos n2]; exact y3⟩
      · refine Sx.up (fun _ kk => r_aload_n 1 dX12_readPart_0 rfl rfl kk) ?_
        refine Sx.up (fun _ kk => r_getI 4 dX12_readPart_1 rfl f12_208 rfl rfl lt95 kk) ?_
        refine Sx.up (fun _ kk => r_if_eq 7 8 dX12_readPart_4 rfl (by decide) (fun _ => kk) (fun h4 => absurd hb h4)) ?_
        refine Sx.up (fun _ kk => r_aload_n 9 dX12_readPart_8 rfl rfl kk) ?_
        refine Sx.up (fun _ kk => r_getI 12 dX12_readPart_9 rfl f12_182 rfl rfl lt95 kk) ?_
        refine Sx.up (fun _ kk => r_iconst (2) 13 dX12_readPart_12 rfl (by decide) kk) ?_
        refine Sx.up (fun _ kk => r_icmp_ne 16 29 dX12_readPart_13 rfl (by decide) (fun _ => kk) (fun h13 => absurd h13 (fun z => k2 (hk2.mp z)))) ?_
        refine Sx.up (fun _ kk => r_aload_n 30 dX12_readPart_29 rfl rfl kk) ?_
        refine Sx.up (fun _ kk => r_getI 33 dX12_readPart_30 rfl f12_182 rfl rfl lt95 kk) ?_
        refine Sx.up (fun _ kk => r_iconst (1) 34 dX12_readPart_33 rfl (by decide) kk) ?_
        refine Sx.up (fun _ kk => r_icmp_ne 37 75 dX12_readPart_34 rfl (by decide) (fun h34 => absurd h34 (fun z => z (hk1.mpr k1))) (fun _ => kk)) ?_
        refine Sx.up (fun _ kk => r_aload_n 38 dX12_readPart_37 rfl rfl kk) ?_
        refine Sx.up (fun _ kk => r_aload_n 39 dX12_readPart_38 rfl rfl kk) ?_
        refine Sx.up (fun _ kk => r_getR 42 dX12_readPart_39 rfl f12_35 rfl rfl lt95 (mo_1 (md_M y1)) kk) ?_
        refine Sx.up (fun _ kk => r_callV (M := mX12_readPart) (pc := 42) 45 dX12_readPart_42 rfl k12_245 hwh rfl rfl rfl (by decide) rfl lt95 (Nat.le_of_ble_eq_true rfl) kk) ?_
        refine Sx.up (fun _ kk => r_istore_n 46 dX12_readPart_45 rfl (by decide) rfl kk) ?_
        refine Sx.up (fun _ kk => r_iload_n 47 dX12_readPart_46 rfl rfl kk) ?_
        refine Sx.up (fun _ kk => r_iconst (-1) 48 dX12_readPart_47 rfl (by decide) kk) ?_
        refine Sx.up (fun _ kk => r_icmp_ne 51 56 dX12_readPart_48 rfl (by decide) (fun _ => kk) (fun h48 => absurd h48 n1)) ?_
        refine Sx.up (fun _ kk => r_aload_n 57 dX12_readPart_56 rfl rfl kk) ?_
        refine Sx.up (fun _ kk => r_iconst (-1) 58 dX12_readPart_57 rfl (by decide) kk) ?_
        refine Sx.up (fun _ kk => r_iload_n 59 dX12_readPart_58 rfl rfl kk) ?_
        refine Sx.up (fun _ kk => r_isub 60 dX12_readPart_59 rfl kk) ?_
        rw [n3]
        obtain ⟨_, ⟨E2, rfl, y2⟩, hcl2⟩ := md_lay (d := d + e + 8) (x := vlS T (.inr (a, B))) y1 hs (fun q z => (mS_vl n2).symm)
        refine Sx.up (fun _ kk => r_callV (M := mX12_readPart) (pc := 60) 63 dX12_readPart_60 rfl k12_242 hcl2 rfl rfl rfl (by decide) rfl lt95 (Nat.le_of_ble_eq_true rfl) kk) ?_
        refine Sx.up (fun _ kk => r_aload_n 64 dX12_readPart_63 rfl rfl kk) ?_
        refine Sx.up (fun _ kk => r_getI 67 dX12_readPart_64 rfl f12_208 rfl rfl lt95 kk) ?_
        refine Sx.up (fun _ kk => r_if_ne 70 74 dX12_readPart_67 rfl (by decide) (fun h67 => absurd h67 (fun z => z (md_0b y2 ⟨_, rfl⟩))) (fun _ => kk)) ?_
        refine Sx.up (fun _ kk => r_aload_n 71 dX12_readPart_70 rfl rfl kk) ?_
        obtain ⟨_, ⟨E3, rfl, y3⟩, hcl3⟩ := md_adv (d := d + e + 7) y2 ⟨_, rfl⟩
        refine Sx.up (fun _ kk => r_callV (M := mX12_readPart) (pc := 71) 74 dX12_readPart_71 rfl k12_233 hcl3 rfl rfl rfl (by decide) rfl lt95 (Nat.le_of_ble_eq_true rfl) kk) ?_
        refine ⟨_, ?_, r_vret dX12_readPart_74 rfl rfl rfl⟩
        exact ⟨_, rfl, by unfold valS; rw [if_neg n2]; exact y3⟩
    rw [part_other (expr_inl l) k1 k2]
    refine Sx.up (fun _ kk => r_aload_n 1 dX12_readPart_0 rfl rfl kk) ?_
    refine Sx.up (fun _ kk => r_getI 4 dX12_readPart_1 rfl f12_208 rfl rfl lt95 kk) ?_
    refine Sx.up (fun _ kk => r_if_eq 7 8 dX12_readPart_4 rfl (by decide) (fun _ => kk) (fun h4 => absurd hb h4)) ?_
    refine Sx.up (fun _ kk => r_aload_n 9 dX12_readPart_8 rfl rfl kk) ?_
    refine Sx.up (fun _ kk => r_getI 12 dX12_readPart_9 rfl f12_182 rfl rfl lt95 kk) ?_
    refine Sx.up (fun _ kk => r_iconst (2) 13 dX12_readPart_12 rfl (by decide) kk) ?_
    refine Sx.up (fun _ kk => r_icmp_ne 16 29 dX12_readPart_13 rfl (by decide) (fun _ => kk) (fun h13 => absurd h13 (fun z => k2 (hk2.mp z)))) ?_
    refine Sx.up (fun _ kk => r_aload_n 30 dX12_readPart_29 rfl rfl kk) ?_
    refine Sx.up (fun _ kk => r_getI 33 dX12_readPart_30 rfl f12_182 rfl rfl lt95 kk) ?_
    refine Sx.up (fun _ kk => r_iconst (1) 34 dX12_readPart_33 rfl (by decide) kk) ?_
    refine Sx.up (fun _ kk => r_icmp_ne 37 75 dX12_readPart_34 rfl (by decide) (fun _ => kk) (fun h34 => absurd h34 (fun z => k1 (hk1.mp z)))) ?_
    refine Sx.up (fun _ kk => r_aload_n 76 dX12_readPart_75 rfl rfl kk) ?_
    refine Sx.up (fun _ kk => r_bipush (40) 78 dX12_readPart_76 rfl (by decide) kk) ?_
    obtain ⟨_, ⟨E2, rfl, y2⟩, hcl2⟩ := md_mark (d := d + e + 6) (c := 40) y1
    refine Sx.up (fun _ kk => r_callV (M := mX12_readPart) (pc := 78) 81 dX12_readPart_78 rfl k12_249 hcl2 rfl rfl rfl (by decide) rfl lt95 (Nat.le_of_ble_eq_true rfl) kk) ?_
    refine Sx.up (fun _ kk => r_aload_n 82 dX12_readPart_81 rfl rfl kk) ?_
    refine Sx.up (fun _ kk => r_iload_n 83 dX12_readPart_82 rfl rfl kk) ?_
    refine Sx.up (fun _ kk => r_iconst (1) 84 dX12_readPart_83 rfl (by decide) kk) ?_
    refine Sx.up (fun _ kk => r_iadd 85 dX12_readPart_84 rfl kk) ?_
    rw [show w + 1 = nI (6 - l) by rw [hw, nI_pp]; congr 1; omega]
    obtain ⟨_, ⟨E3, rfl, y3⟩, hcl3⟩ := hex y2 (by unfold sgnS; split; exact slk_adv0 hs; exact slk_flt _) rfl
    refine Sx.up (fun _ kk => r_callV (M := mX12_readPart) (pc := 85) 88 dX12_readPart_85 rfl k12_252 hcl3 rfl rfl rfl (by decide) rfl lt95 (Nat.le_of_ble_eq_true rfl) kk) ?_
    refine Sx.up (fun _ kk => r_aload_n 89 dX12_readPart_88 rfl rfl kk) ?_
    refine Sx.up (fun _ kk => r_bipush (41) 91 dX12_readPart_89 rfl (by decide) kk) ?_
    obtain ⟨_, ⟨E4, rfl, y4⟩, hcl4⟩ := md_mark (d := d + e + 6) (c := 41) y3
    refine Sx.up (fun _ kk => r_callV (M := mX12_readPart) (pc := 91) 94 dX12_readPart_91 rfl k12_249 hcl4 rfl rfl rfl (by decide) rfl lt95 (Nat.le_of_ble_eq_true rfl) kk) ?_
    refine ⟨_, ?_, r_vret dX12_readPart_94 rfl rfl rfl⟩
    exact ⟨_, rfl, y4⟩
