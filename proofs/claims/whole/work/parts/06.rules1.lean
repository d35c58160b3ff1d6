/-! THE LAYER, 3: a rule an instruction: constants, locals, arithmetic, stack, branches. 'pc2' is the next place. -/
section R1
variable {M : MI} {d bc bs n pc pc2 tgt : Nat} {out : OUT} {ls ls2 : List (Option Value)} {st st2 : List Value} {E : HP}
theorem Sm.lift (kk : Sm M d bc bs out pc2 ls2 st2 E n) (h : ∀ {G : GG} {p : Program} {l : Launch} {e : Env} {s : State} {m : MethodId} {args : Array Value} {below : List Frame} {meth : Method} {c : Code} {R : Room} {H : Heap} {locs : List Loc} {cells slots : Nat} {Q : State → Prop} {lsA : Array Slot}, p.tables.exec = Jvm.exec → c.code = M.2.1 → lh G lsA M.2.2.1 ls → (∀ lsB, lh G lsB M.2.2.1 ls2 → W p l e R s m args below meth c H locs cells slots Q (F0 m pc2 lsB (st2.map (tr G)))) → W p l e R s m args below meth c H locs cells slots Q (F0 m pc lsA (st.map (tr G)))) : Sm M d bc bs out pc ls st E n := by
  intro G p l e s m args below meth c R H locs cells slots lsA Q C F hS hW hl h1 h2
  exact h C.1 C.2.1 hl (fun lsB hB => kk G p l e s m args below meth c R H locs cells slots lsB Q C F hS hW hB h1 h2)
theorem Sm.liftX {X : Prop} (kk : X → Sm M d bc bs out pc2 ls2 st2 E n) (h : ∀ {G : GG} {p : Program} {l : Launch} {e : Env} {s : State} {m : MethodId} {args : Array Value} {below : List Frame} {meth : Method} {c : Code} {R : Room} {H : Heap} {locs : List Loc} {cells slots : Nat} {Q : State → Prop} {lsA : Array Slot}, Cx G M d p l s m args meth c R → lh G lsA M.2.2.1 ls → (∀ lsB, lh G lsB M.2.2.1 ls2 → X → W p l e R s m args below meth c H locs cells slots Q (F0 m pc2 lsB (st2.map (tr G)))) → W p l e R s m args below meth c H locs cells slots Q (F0 m pc lsA (st.map (tr G)))) : Sm M d bc bs out pc ls st E n := by
  intro G p l e s m args below meth c R H locs cells slots lsA Q C F hS hW hl h1 h2
  exact h C hl (fun lsB hB x => kk x G p l e s m args below meth c R H locs cells slots lsB Q C F hS hW hB h1 h2)
/-- two ways -/
theorem Sm.lift2 {A B : Prop} {p1 p2 : Nat} (ka : A → Sm M d bc bs out p1 ls st2 E n) (kb : B → Sm M d bc bs out p2 ls st2 E n) (h : ∀ {G : GG} {p : Program} {l : Launch} {e : Env} {s : State} {m : MethodId} {args : Array Value} {below : List Frame} {meth : Method} {c : Code} {R : Room} {H : Heap} {locs : List Loc} {cells slots : Nat} {Q : State → Prop} {lsA : Array Slot}, p.tables.exec = Jvm.exec → c.code = M.2.1 → (A → W p l e R s m args below meth c H locs cells slots Q (F0 m p1 lsA (st2.map (tr G)))) → (B → W p l e R s m args below meth c H locs cells slots Q (F0 m p2 lsA (st2.map (tr G)))) → W p l e R s m args below meth c H locs cells slots Q (F0 m pc lsA (st.map (tr G)))) : Sm M d bc bs out pc ls st E n := by
  intro G p l e s m args below meth c R H locs cells slots lsA Q C F hS hW hl h1 h2
  exact h C.1 C.2.1 (fun a => ka a G p l e s m args below meth c R H locs cells slots lsA Q C F hS hW hl h1 h2) (fun b => kb b G p l e s m args below meth c R H locs cells slots lsA Q C F hS hW hl h1 h2)
theorem lh_get {G : GG} {lsA : Array Slot} {nL : Nat} {ls : List (Option Value)} (h : lh G lsA nL ls) {i : Nat} {v : Value} (hv : ls[i]? = some (some v)) : lsA[i]? = some (.val (tr G v)) := h.2.2 i v hv
/-- no long among the locals -/
def noL (ls : List (Option Value)) : Bool := ls.all fun o => match o with
  | some v => v.category == 1
  | none => true
def prs (G : GG) (ls : List (Option Value)) : List (Nat × Value) := ls.zipIdx.filterMap fun q => q.1.map fun v => (q.2, tr G v)
theorem prs_in {G : GG} {ls : List (Option Value)} {i : Nat} {v : Value} (h : ls[i]? = some (some v)) : (i, tr G v) ∈ prs G ls := by
  unfold prs
  refine List.mem_filterMap.mpr ⟨(some v, i), List.mem_zipIdx_iff_getElem?.mpr h, rfl⟩
theorem prs_of {G : GG} {ls : List (Option Value)} {q : Nat × Value} (h : q ∈ prs G ls) : ∃ v, ls[q.1]? = some (some v) ∧ q.2 = tr G v := by
  unfold prs at h
  obtain ⟨⟨o, i⟩, h1, h2⟩ := List.mem_filterMap.mp h
  cases o with
  | none => cases h2
  | some v => cases h2; exact ⟨v, List.mem_zipIdx_iff_getElem?.mp h1, rfl⟩
theorem lh_prs {G : GG} {lsA : Array Slot} {nL : Nat} {ls : List (Option Value)} (h : lh G lsA nL ls) : lv_has lsA nL (prs G ls) := by
  refine ⟨h.1, h.2.1, fun q hq => ?_⟩
  obtain ⟨v, h1, h2⟩ := prs_of hq
  rw [h2]
  exact h.2.2 _ _ h1
theorem lh_set {G : GG} {lsB : Array Slot} {nL i : Nat} {ls : List (Option Value)} {v : Value} (hno : noL ls = true) (h : lv_has lsB nL ((i, tr G v) :: (prs G ls).filter (fun q => !(q.1 == i) && !(q.1 + 1 == i && q.2.category == 2)))) : lh G lsB nL (ls.set i (some v)) := by
  refine ⟨h.1, h.2.1, fun j w hw => ?_⟩
  rw [List.getElem?_set] at hw
  by_cases hij : i = j
  · subst hij
    rw [if_pos rfl] at hw
    have hw2 : some (some v) = some (some w) := by
      by_cases hl : i < ls.length
      · rwa [if_pos hl] at hw
      · rw [if_neg hl] at hw; cases hw
    cases hw2
    exact h.2.2 (i, tr G v) List.mem_cons_self
  · rw [if_neg hij] at hw
    have h1 := prs_in (G := G) hw
    have h2 : w.category = 1 := by
      have := List.all_eq_true.mp hno (some w) (List.mem_of_getElem? hw)
      simpa using this
    refine h.2.2 (j, tr G w) (List.mem_cons_of_mem _ (List.mem_filter.mpr ⟨h1, ?_⟩))
    have e1 : (j == i) = false := by simpa using fun e => hij e.symm
    simp [e1, tr_cat, h2]
theorem r_iconst {i : Int} (v : Int32) (pc2 : Nat) (hd : decode M.2.1 pc = .ok (.iconst i, 1)) (hp : pc + 1 = pc2) (hv : Int32.ofInt i = v) (kk : Sm M d bc bs out pc2 ls (.int v :: st) E n) : Sm M d bc bs out pc ls st E n := by
  subst hp
  exact kk.lift fun hx hb hl k => lv_iconst hx hb hd hv (k _ hl)
theorem r_bipush {i : Int} (v : Int32) (pc2 : Nat) (hd : decode M.2.1 pc = .ok (.bipush i, 2)) (hp : pc + 2 = pc2) (hv : (Int8.ofInt i).toInt32 = v) (kk : Sm M d bc bs out pc2 ls (.int v :: st) E n) : Sm M d bc bs out pc ls st E n := by
  subst hp
  exact kk.lift fun hx hb hl k => lv_bipush hx hb hd hv (k _ hl)
theorem r_sipush {i : Int} (v : Int32) (pc2 : Nat) (hd : decode M.2.1 pc = .ok (.sipush i, 3)) (hp : pc + 3 = pc2) (hv : (Int16.ofInt i).toInt32 = v) (kk : Sm M d bc bs out pc2 ls (.int v :: st) E n) : Sm M d bc bs out pc ls st E n := by
  subst hp
  exact kk.lift fun hx hb hl k => lv_sipush hx hb hd hv (k _ hl)
theorem r_lconst {i : Fin 2} (v : Int64) (pc2 : Nat) (hd : decode M.2.1 pc = .ok (.lconst i, 1)) (hp : pc + 1 = pc2) (hv : Int64.ofNat (i : Nat) = v) (kk : Sm M d bc bs out pc2 ls (.long v :: st) E n) : Sm M d bc bs out pc ls st E n := by
  subst hp
  exact kk.lift fun hx hb hl k => lv_lconst hx hb hd hv (k _ hl)
theorem r_iload_n {i : Fin 4} {x : Int32} (pc2 : Nat) (hd : decode M.2.1 pc = .ok (.iload_n i, 1)) (hp : pc + 1 = pc2) (hv : ls[(i : Nat)]? = some (some (.int x))) (kk : Sm M d bc bs out pc2 ls (.int x :: st) E n) : Sm M d bc bs out pc ls st E n := by
  subst hp
  exact kk.lift fun hx hb hl k => lv_iload_n hx hb hd rfl (lh_get hl hv) (k _ hl)
theorem r_iload {i : Nat} {x : Int32} (pc2 : Nat) (hd : decode M.2.1 pc = .ok (.iload i, 2)) (hp : pc + 2 = pc2) (hv : ls[i]? = some (some (.int x))) (kk : Sm M d bc bs out pc2 ls (.int x :: st) E n) : Sm M d bc bs out pc ls st E n := by
  subst hp
  exact kk.lift fun hx hb hl k => lv_iload hx hb hd (lh_get hl hv) (k _ hl)
theorem r_lload_n {i : Fin 4} {x : Int64} (pc2 : Nat) (hd : decode M.2.1 pc = .ok (.lload_n i, 1)) (hp : pc + 1 = pc2) (hv : ls[(i : Nat)]? = some (some (.long x))) (kk : Sm M d bc bs out pc2 ls (.long x :: st) E n) : Sm M d bc bs out pc ls st E n := by
  subst hp
  exact kk.lift fun hx hb hl k => lv_lload_n hx hb hd rfl (lh_get hl hv) (k _ hl)
theorem r_lload {i : Nat} {x : Int64} (pc2 : Nat) (hd : decode M.2.1 pc = .ok (.lload i, 2)) (hp : pc + 2 = pc2) (hv : ls[i]? = some (some (.long x))) (kk : Sm M d bc bs out pc2 ls (.long x :: st) E n) : Sm M d bc bs out pc ls st E n := by
  subst hp
  exact kk.lift fun hx hb hl k => lv_lload hx hb hd (lh_get hl hv) (k _ hl)
theorem r_aload_n {i : Fin 4} {x : Nat} (pc2 : Nat) (hd : decode M.2.1 pc = .ok (.aload_n i, 1)) (hp : pc + 1 = pc2) (hv : ls[(i : Nat)]? = some (some (.ref x))) (kk : Sm M d bc bs out pc2 ls (.ref x :: st) E n) : Sm M d bc bs out pc ls st E n := by
  subst hp
  exact kk.lift fun hx hb hl k => lv_aload_n hx hb hd rfl (lh_get hl hv) (k _ hl)
theorem r_aload {i : Nat} {x : Nat} (pc2 : Nat) (hd : decode M.2.1 pc = .ok (.aload i, 2)) (hp : pc + 2 = pc2) (hv : ls[i]? = some (some (.ref x))) (kk : Sm M d bc bs out pc2 ls (.ref x :: st) E n) : Sm M d bc bs out pc ls st E n := by
  subst hp
  exact kk.lift fun hx hb hl k => lv_aload hx hb hd (lh_get hl hv) (k _ hl)
theorem r_istore_n {i : Fin 4} {x : Int32} (pc2 : Nat) (hd : decode M.2.1 pc = .ok (.istore_n i, 1)) (hp : pc + 1 = pc2) (hn : (i : Nat) < M.2.2.1) (hno : noL ls = true) (kk : Sm M d bc bs out pc2 (ls.set (i : Nat) (some (.int x))) st E n) : Sm M d bc bs out pc ls (.int x :: st) E n := by
  subst hp
  exact kk.lift fun hx hb hl k => lv_istore_n hx hb hd rfl (lh_prs hl) hn rfl (fun lsB hB => k lsB (lh_set hno hB))
theorem r_astore_n {i : Fin 4} {x : Nat} (pc2 : Nat) (hd : decode M.2.1 pc = .ok (.astore_n i, 1)) (hp : pc + 1 = pc2) (hn : (i : Nat) < M.2.2.1) (hno : noL ls = true) (kk : Sm M d bc bs out pc2 (ls.set (i : Nat) (some (.ref x))) st E n) : Sm M d bc bs out pc ls (.ref x :: st) E n := by
  subst hp
  exact kk.lift fun hx hb hl k => lv_astore_n hx hb hd rfl (lh_prs hl) hn rfl (fun lsB hB => k lsB (lh_set hno hB))
theorem r_istore {i : Nat} {x : Int32} (pc2 : Nat) (hd : decode M.2.1 pc = .ok (.istore i, 2)) (hp : pc + 2 = pc2) (hn : i < M.2.2.1) (hno : noL ls = true) (kk : Sm M d bc bs out pc2 (ls.set i (some (.int x))) st E n) : Sm M d bc bs out pc ls (.int x :: st) E n := by
  subst hp
  exact kk.lift fun hx hb hl k => lv_istore hx hb hd (lh_prs hl) hn rfl (fun lsB hB => k lsB (lh_set hno hB))
theorem r_astore {i : Nat} {x : Nat} (pc2 : Nat) (hd : decode M.2.1 pc = .ok (.astore i, 2)) (hp : pc + 2 = pc2) (hn : i < M.2.2.1) (hno : noL ls = true) (kk : Sm M d bc bs out pc2 (ls.set i (some (.ref x))) st E n) : Sm M d bc bs out pc ls (.ref x :: st) E n := by
  subst hp
  exact kk.lift fun hx hb hl k => lv_astore hx hb hd (lh_prs hl) hn rfl (fun lsB hB => k lsB (lh_set hno hB))
theorem r_iinc {i : Nat} {k : Int} {x : Int32} (v : Int32) (pc2 : Nat) (hd : decode M.2.1 pc = .ok (.iinc i k, 3)) (hp : pc + 3 = pc2) (hv : ls[i]? = some (some (.int x))) (he : Int32.ofInt k = v) (hn : i < M.2.2.1) (hno : noL ls = true) (kk : Sm M d bc bs out pc2 (ls.set i (some (.int (x + v)))) st E n) : Sm M d bc bs out pc ls st E n := by
  subst hp
  refine kk.lift fun {G p l e s m args below meth c R H locs cells slots Q lsA} hx hb hl k => ?_
  obtain ⟨j, hj⟩ := List.getElem?_of_mem (prs_in (G := G) hv)
  exact lv_iinc hx hb hd (lh_prs hl) hj (by rw [he]) hn rfl (fun lsB hB => k lsB (lh_set (v := .int (x + v)) hno hB))
theorem r_iadd {x y : Int32} (pc2 : Nat) (hd : decode M.2.1 pc = .ok (.iadd, 1)) (hp : pc + 1 = pc2) (kk : Sm M d bc bs out pc2 ls (.int (x + y) :: st) E n) : Sm M d bc bs out pc ls (.int y :: .int x :: st) E n := by
  subst hp
  exact kk.lift fun hx hb hl k => lv_iadd hx hb hd (k _ hl)
theorem r_isub {x y : Int32} (pc2 : Nat) (hd : decode M.2.1 pc = .ok (.isub, 1)) (hp : pc + 1 = pc2) (kk : Sm M d bc bs out pc2 ls (.int (x - y) :: st) E n) : Sm M d bc bs out pc ls (.int y :: .int x :: st) E n := by
  subst hp
  exact kk.lift fun hx hb hl k => lv_isub hx hb hd (k _ hl)
theorem r_imul {x y : Int32} (pc2 : Nat) (hd : decode M.2.1 pc = .ok (.imul, 1)) (hp : pc + 1 = pc2) (kk : Sm M d bc bs out pc2 ls (.int (x * y) :: st) E n) : Sm M d bc bs out pc ls (.int y :: .int x :: st) E n := by
  subst hp
  exact kk.lift fun hx hb hl k => lv_imul hx hb hd (k _ hl)
theorem r_iand {x y : Int32} (pc2 : Nat) (hd : decode M.2.1 pc = .ok (.iand, 1)) (hp : pc + 1 = pc2) (kk : Sm M d bc bs out pc2 ls (.int (x &&& y) :: st) E n) : Sm M d bc bs out pc ls (.int y :: .int x :: st) E n := by
  subst hp
  exact kk.lift fun hx hb hl k => lv_iand hx hb hd (k _ hl)
theorem r_ior {x y : Int32} (pc2 : Nat) (hd : decode M.2.1 pc = .ok (.ior, 1)) (hp : pc + 1 = pc2) (kk : Sm M d bc bs out pc2 ls (.int (x ||| y) :: st) E n) : Sm M d bc bs out pc ls (.int y :: .int x :: st) E n := by
  subst hp
  exact kk.lift fun hx hb hl k => lv_ior hx hb hd (k _ hl)
theorem r_ixor {x y : Int32} (pc2 : Nat) (hd : decode M.2.1 pc = .ok (.ixor, 1)) (hp : pc + 1 = pc2) (kk : Sm M d bc bs out pc2 ls (.int (x ^^^ y) :: st) E n) : Sm M d bc bs out pc ls (.int y :: .int x :: st) E n := by
  subst hp
  exact kk.lift fun hx hb hl k => lv_ixor hx hb hd (k _ hl)
theorem r_ishl {x y : Int32} (pc2 : Nat) (hd : decode M.2.1 pc = .ok (.ishl, 1)) (hp : pc + 1 = pc2) (kk : Sm M d bc bs out pc2 ls (.int (x <<< (y &&& 31)) :: st) E n) : Sm M d bc bs out pc ls (.int y :: .int x :: st) E n := by
  subst hp
  exact kk.lift fun hx hb hl k => lv_ishl hx hb hd (k _ hl)
theorem r_ishr {x y : Int32} (pc2 : Nat) (hd : decode M.2.1 pc = .ok (.ishr, 1)) (hp : pc + 1 = pc2) (kk : Sm M d bc bs out pc2 ls (.int (x >>> (y &&& 31)) :: st) E n) : Sm M d bc bs out pc ls (.int y :: .int x :: st) E n := by
  subst hp
  exact kk.lift fun hx hb hl k => lv_ishr hx hb hd (k _ hl)
theorem r_iushr {x y : Int32} (pc2 : Nat) (hd : decode M.2.1 pc = .ok (.iushr, 1)) (hp : pc + 1 = pc2) (kk : Sm M d bc bs out pc2 ls (.int ((x.toUInt32 >>> (y.toUInt32 &&& Int32.toUInt32 31)).toInt32) :: st) E n) : Sm M d bc bs out pc ls (.int y :: .int x :: st) E n := by
  subst hp
  exact kk.lift fun hx hb hl k => lv_iushr hx hb hd rfl (k _ hl)
theorem r_idiv {x y : Int32} (pc2 : Nat) (hd : decode M.2.1 pc = .ok (.idiv, 1)) (hp : pc + 1 = pc2) (hne : ¬ y = 0) (kk : Sm M d bc bs out pc2 ls (.int (x / y) :: st) E n) : Sm M d bc bs out pc ls (.int y :: .int x :: st) E n := by
  subst hp
  exact kk.lift fun hx hb hl k => lv_idiv hx hb hd hne (k _ hl)
theorem r_irem {x y : Int32} (pc2 : Nat) (hd : decode M.2.1 pc = .ok (.irem, 1)) (hp : pc + 1 = pc2) (hne : ¬ y = 0) (kk : Sm M d bc bs out pc2 ls (.int (x - x / y * y) :: st) E n) : Sm M d bc bs out pc ls (.int y :: .int x :: st) E n := by
  subst hp
  exact kk.lift fun hx hb hl k => lv_irem hx hb hd hne (k _ hl)
theorem r_i2l {x : Int32} (pc2 : Nat) (hd : decode M.2.1 pc = .ok (.i2l, 1)) (hp : pc + 1 = pc2) (kk : Sm M d bc bs out pc2 ls (.long x.toInt64 :: st) E n) : Sm M d bc bs out pc ls (.int x :: st) E n := by
  subst hp
  exact kk.lift fun hx hb hl k => lv_i2l hx hb hd rfl (k _ hl)
theorem r_i2c {x : Int32} (pc2 : Nat) (hd : decode M.2.1 pc = .ok (.i2c, 1)) (hp : pc + 1 = pc2) (kk : Sm M d bc bs out pc2 ls (.int ((x.toUInt32 % 65536).toInt32) :: st) E n) : Sm M d bc bs out pc ls (.int x :: st) E n := by
  subst hp
  exact kk.lift fun hx hb hl k => lv_i2c hx hb hd rfl (k _ hl)
theorem r_lcmp {x y : Int64} (pc2 : Nat) (hd : decode M.2.1 pc = .ok (.lcmp, 1)) (hp : pc + 1 = pc2) (kk : Sm M d bc bs out pc2 ls (.int (lg_cmp x y) :: st) E n) : Sm M d bc bs out pc ls (.long y :: .long x :: st) E n := by
  subst hp
  exact kk.lift fun hx hb hl k => W.lcmp hx hb hd (k _ hl)
theorem r_dup {v : Value} (pc2 : Nat) (hd : decode M.2.1 pc = .ok (.dup, 1)) (hp : pc + 1 = pc2) (hc : v.category = 1) (kk : Sm M d bc bs out pc2 ls (v :: v :: st) E n) : Sm M d bc bs out pc ls (v :: st) E n := by
  subst hp
  exact kk.lift fun hx hb hl k => lv_dup hx hb hd (by rw [tr_cat]; exact hc) (k _ hl)
theorem r_pop {v : Value} (pc2 : Nat) (hd : decode M.2.1 pc = .ok (.pop, 1)) (hp : pc + 1 = pc2) (hc : v.category = 1) (kk : Sm M d bc bs out pc2 ls st E n) : Sm M d bc bs out pc ls (v :: st) E n := by
  subst hp
  exact kk.lift fun hx hb hl k => lv_pop hx hb hd (by rw [tr_cat]; exact hc) (k _ hl)
theorem r_dup2 {v w : Value} (pc2 : Nat) (hd : decode M.2.1 pc = .ok (.dup2, 1)) (hp : pc + 1 = pc2) (hc : v.category = 1) (hc2 : w.category = 1) (kk : Sm M d bc bs out pc2 ls (v :: w :: v :: w :: st) E n) : Sm M d bc bs out pc ls (v :: w :: st) E n := by
  subst hp
  exact kk.lift fun hx hb hl k => lv_dup2_11 hx hb hd (by rw [tr_cat]; exact hc) (by rw [tr_cat]; exact hc2) (k _ hl)
theorem r_goto {off : Int} (tgt : Nat) (hd : decode M.2.1 pc = .ok (.goto off, 3)) (ht : (pc : Int) + off = (tgt : Int)) (kk : Sm M d bc bs out tgt ls st E n) : Sm M d bc bs out pc ls st E n := kk.lift fun hx hb hl k => lv_goto hx hb hd ht (k _ hl)
theorem r_ifnonnull {off : Int} {x : Nat} (tgt : Nat) (hd : decode M.2.1 pc = .ok (.ifnonnull off, 3)) (ht : (pc : Int) + off = (tgt : Int)) (kk : Sm M d bc bs out tgt ls st E n) : Sm M d bc bs out pc ls (.ref x :: st) E n := kk.lift fun hx hb hl k => lv_ifnonnull hx hb hd ht (k _ hl)
theorem r_if_eq {off : Int} {x : Int32} (pc2 tgt : Nat) (hd : decode M.2.1 pc = .ok (.ifCond .eq off, 3)) (hp : pc + 3 = pc2) (ht : (pc : Int) + off = (tgt : Int)) (kt : x = 0 → Sm M d bc bs out tgt ls st E n) (kf : ¬ x = 0 → Sm M d bc bs out pc2 ls st E n) : Sm M d bc bs out pc ls (.int x :: st) E n := by
  subst hp
  exact Sm.lift2 kt kf fun hx hb ka kb => lv_if_eq hx hb hd ht ka kb
theorem r_if_ne {off : Int} {x : Int32} (pc2 tgt : Nat) (hd : decode M.2.1 pc = .ok (.ifCond .ne off, 3)) (hp : pc + 3 = pc2) (ht : (pc : Int) + off = (tgt : Int)) (kt : ¬ x = 0 → Sm M d bc bs out tgt ls st E n) (kf : x = 0 → Sm M d bc bs out pc2 ls st E n) : Sm M d bc bs out pc ls (.int x :: st) E n := by
  subst hp
  exact Sm.lift2 kt kf fun hx hb ka kb => lv_if_ne hx hb hd ht ka kb
theorem r_if_lt {off : Int} {x : Int32} (pc2 tgt : Nat) (hd : decode M.2.1 pc = .ok (.ifCond .lt off, 3)) (hp : pc + 3 = pc2) (ht : (pc : Int) + off = (tgt : Int)) (kt : x < 0 → Sm M d bc bs out tgt ls st E n) (kf : ¬ x < 0 → Sm M d bc bs out pc2 ls st E n) : Sm M d bc bs out pc ls (.int x :: st) E n := by
  subst hp
  exact Sm.lift2 kt kf fun hx hb ka kb => lv_if_lt hx hb hd ht ka kb
theorem r_if_ge {off : Int} {x : Int32} (pc2 tgt : Nat) (hd : decode M.2.1 pc = .ok (.ifCond .ge off, 3)) (hp : pc + 3 = pc2) (ht : (pc : Int) + off = (tgt : Int)) (kt : 0 ≤ x → Sm M d bc bs out tgt ls st E n) (kf : ¬ 0 ≤ x → Sm M d bc bs out pc2 ls st E n) : Sm M d bc bs out pc ls (.int x :: st) E n := by
  subst hp
  exact Sm.lift2 kt kf fun hx hb ka kb => lv_if_ge hx hb hd ht ka kb
theorem r_if_gt {off : Int} {x : Int32} (pc2 tgt : Nat) (hd : decode M.2.1 pc = .ok (.ifCond .gt off, 3)) (hp : pc + 3 = pc2) (ht : (pc : Int) + off = (tgt : Int)) (kt : 0 < x → Sm M d bc bs out tgt ls st E n) (kf : ¬ 0 < x → Sm M d bc bs out pc2 ls st E n) : Sm M d bc bs out pc ls (.int x :: st) E n := by
  subst hp
  exact Sm.lift2 kt kf fun hx hb ka kb => lv_if_gt hx hb hd ht ka kb
theorem r_if_le {off : Int} {x : Int32} (pc2 tgt : Nat) (hd : decode M.2.1 pc = .ok (.ifCond .le off, 3)) (hp : pc + 3 = pc2) (ht : (pc : Int) + off = (tgt : Int)) (kt : x ≤ 0 → Sm M d bc bs out tgt ls st E n) (kf : ¬ x ≤ 0 → Sm M d bc bs out pc2 ls st E n) : Sm M d bc bs out pc ls (.int x :: st) E n := by
  subst hp
  exact Sm.lift2 kt kf fun hx hb ka kb => lv_if_le hx hb hd ht ka kb
theorem r_icmp_eq {off : Int} {x y : Int32} (pc2 tgt : Nat) (hd : decode M.2.1 pc = .ok (.if_icmp .eq off, 3)) (hp : pc + 3 = pc2) (ht : (pc : Int) + off = (tgt : Int)) (kt : x = y → Sm M d bc bs out tgt ls st E n) (kf : ¬ x = y → Sm M d bc bs out pc2 ls st E n) : Sm M d bc bs out pc ls (.int y :: .int x :: st) E n := by
  subst hp
  exact Sm.lift2 kt kf fun hx hb ka kb => lv_icmp_eq hx hb hd ht ka kb
theorem r_icmp_ne {off : Int} {x y : Int32} (pc2 tgt : Nat) (hd : decode M.2.1 pc = .ok (.if_icmp .ne off, 3)) (hp : pc + 3 = pc2) (ht : (pc : Int) + off = (tgt : Int)) (kt : ¬ x = y → Sm M d bc bs out tgt ls st E n) (kf : x = y → Sm M d bc bs out pc2 ls st E n) : Sm M d bc bs out pc ls (.int y :: .int x :: st) E n := by
  subst hp
  exact Sm.lift2 kt kf fun hx hb ka kb => lv_icmp_ne hx hb hd ht ka kb
theorem r_icmp_lt {off : Int} {x y : Int32} (pc2 tgt : Nat) (hd : decode M.2.1 pc = .ok (.if_icmp .lt off, 3)) (hp : pc + 3 = pc2) (ht : (pc : Int) + off = (tgt : Int)) (kt : x < y → Sm M d bc bs out tgt ls st E n) (kf : ¬ x < y → Sm M d bc bs out pc2 ls st E n) : Sm M d bc bs out pc ls (.int y :: .int x :: st) E n := by
  subst hp
  exact Sm.lift2 kt kf fun hx hb ka kb => lv_icmp_lt hx hb hd ht ka kb
theorem r_icmp_ge {off : Int} {x y : Int32} (pc2 tgt : Nat) (hd : decode M.2.1 pc = .ok (.if_icmp .ge off, 3)) (hp : pc + 3 = pc2) (ht : (pc : Int) + off = (tgt : Int)) (kt : y ≤ x → Sm M d bc bs out tgt ls st E n) (kf : ¬ y ≤ x → Sm M d bc bs out pc2 ls st E n) : Sm M d bc bs out pc ls (.int y :: .int x :: st) E n := by
  subst hp
  exact Sm.lift2 kt kf fun hx hb ka kb => lv_icmp_ge hx hb hd ht ka kb
theorem r_icmp_gt {off : Int} {x y : Int32} (pc2 tgt : Nat) (hd : decode M.2.1 pc = .ok (.if_icmp .gt off, 3)) (hp : pc + 3 = pc2) (ht : (pc : Int) + off = (tgt : Int)) (kt : y < x → Sm M d bc bs out tgt ls st E n) (kf : ¬ y < x → Sm M d bc bs out pc2 ls st E n) : Sm M d bc bs out pc ls (.int y :: .int x :: st) E n := by
  subst hp
  exact Sm.lift2 kt kf fun hx hb ka kb => lv_icmp_gt hx hb hd ht ka kb
theorem r_icmp_le {off : Int} {x y : Int32} (pc2 tgt : Nat) (hd : decode M.2.1 pc = .ok (.if_icmp .le off, 3)) (hp : pc + 3 = pc2) (ht : (pc : Int) + off = (tgt : Int)) (kt : x ≤ y → Sm M d bc bs out tgt ls st E n) (kf : ¬ x ≤ y → Sm M d bc bs out pc2 ls st E n) : Sm M d bc bs out pc ls (.int y :: .int x :: st) E n := by
  subst hp
  exact Sm.lift2 kt kf fun hx hb ka kb => lv_icmp_le hx hb hd ht ka kb
theorem ad_inj {G : GG} {x y : Nat} (hx : x < 1000) (hy : y < 1000) (h : some (ad G x) = some (ad G y)) : x = y := by
  have h2 := Option.some.inj h
  rw [ad_lo hx, ad_lo hy] at h2
  omega
theorem r_acmp_eq {off : Int} {x y : Nat} (pc2 tgt : Nat) (hd : decode M.2.1 pc = .ok (.if_acmp .eq off, 3)) (hp : pc + 3 = pc2) (ht : (pc : Int) + off = (tgt : Int)) (h1 : x < 1000) (h2 : y < 1000) (kt : x = y → Sm M d bc bs out tgt ls st E n) (kf : ¬ x = y → Sm M d bc bs out pc2 ls st E n) : Sm M d bc bs out pc ls (.ref y :: .ref x :: st) E n := by
  subst hp
  exact Sm.lift2 kt kf fun {G p l e s m args below meth c R H locs cells slots Q lsA} hx hb ka kb => lv_acmp_eq (rx := some (ad G x)) (ry := some (ad G y)) hx hb hd ht (fun q => ka (ad_inj h1 h2 q)) (fun q => kb (fun z => q (by rw [z])))
theorem r_acmp_ne {off : Int} {x y : Nat} (pc2 tgt : Nat) (hd : decode M.2.1 pc = .ok (.if_acmp .ne off, 3)) (hp : pc + 3 = pc2) (ht : (pc : Int) + off = (tgt : Int)) (h1 : x < 1000) (h2 : y < 1000) (kt : ¬ x = y → Sm M d bc bs out tgt ls st E n) (kf : x = y → Sm M d bc bs out pc2 ls st E n) : Sm M d bc bs out pc ls (.ref y :: .ref x :: st) E n := by
  subst hp
  exact Sm.lift2 kt kf fun {G p l e s m args below meth c R H locs cells slots Q lsA} hx hb ka kb => lv_acmp_ne (rx := some (ad G x)) (ry := some (ad G y)) hx hb hd ht (fun q => ka (fun z => q (by rw [z]))) (fun q => kb (ad_inj h1 h2 q))
theorem r_tableIn {dflt lo hi off : Int} {offs : Array Int} {len : Nat} {x : Int32} (tgt : Nat) (hd : decode M.2.1 pc = .ok (.tableswitch dflt lo hi offs, len)) (h1 : ¬ x.toInt < lo) (h2 : ¬ hi < x.toInt) (ho : offs[(x.toInt - lo).toNat]? = some off) (ht : (pc : Int) + off = (tgt : Int)) (kk : Sm M d bc bs out tgt ls st E n) : Sm M d bc bs out pc ls (.int x :: st) E n := kk.lift fun hx hb hl k => lv_tableIn hx hb hd h1 h2 ho ht (k _ hl)
theorem r_tableOut {dflt lo hi : Int} {offs : Array Int} {len : Nat} {x : Int32} (tgt : Nat) (hd : decode M.2.1 pc = .ok (.tableswitch dflt lo hi offs, len)) (h : x.toInt < lo ∨ hi < x.toInt) (ht : (pc : Int) + dflt = (tgt : Int)) (kk : Sm M d bc bs out tgt ls st E n) : Sm M d bc bs out pc ls (.int x :: st) E n := kk.lift fun hx hb hl k => lv_tableOut hx hb hd h ht (k _ hl)
theorem r_ldc {i : Nat} (v : Int32) (pc2 : Nat) (hd : decode M.2.1 pc = .ok (.ldc i, 2)) (hp : pc + 2 = pc2) (hc : Cond.constant (cn M.1) i v ∈ TB) (kk : Sm M d bc bs out pc2 ls (.int v :: st) E n) : Sm M d bc bs out pc ls st E n := by
  subst hp
  exact Sm.liftX (X := True) (fun _ => kk) fun C hl k => lv_ldc C.1 C.2.1 C.2.2.2.1 (C.2.2.2.2.1 _ hc) hd (k _ hl trivial)
theorem r_ldcw {i : Nat} (v : Int32) (pc2 : Nat) (hd : decode M.2.1 pc = .ok (.ldc_w i, 3)) (hp : pc + 3 = pc2) (hc : Cond.constant (cn M.1) i v ∈ TB) (kk : Sm M d bc bs out pc2 ls (.int v :: st) E n) : Sm M d bc bs out pc ls st E n := by
  subst hp
  exact Sm.liftX (X := True) (fun _ => kk) fun C hl k => lv_ldcw C.1 C.2.1 C.2.2.2.1 (C.2.2.2.2.1 _ hc) hd (k _ hl trivial)
theorem r_ldc2 {i : Nat} (v : Int64) (pc2 : Nat) (hd : decode M.2.1 pc = .ok (.ldc2_w i, 3)) (hp : pc + 3 = pc2) (hc : Cond.constantLong (cn M.1) i v ∈ TB) (kk : Sm M d bc bs out pc2 ls (.long v :: st) E n) : Sm M d bc bs out pc ls st E n := by
  subst hp
  exact Sm.liftX (X := True) (fun _ => kk) fun C hl k => lv_ldc2 C.1 C.2.1 C.2.2.2.1 (C.2.2.2.2.1 _ hc) hd (k _ hl trivial)
end R1
