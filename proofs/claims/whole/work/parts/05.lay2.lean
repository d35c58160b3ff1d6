/-! THE LAYER, 2: the shape of this run's heap; what every frame carries; the two judgements: Sm (from a place in a method to its end) and Cl (a call). -/
def shL : List (Nat × Nat) := [(11, 0), (6, 0), (100, 600), (0, 0), (8, 0), (102, 7), (6, 0), (100, 7), (7, 0), (6, 0), (100, 600), (6, 0), (100, 7), (6, 0), (100, 40), (8, 0), (8, 0), (8, 0), (8, 0), (8, 0), (8, 0), (8, 0), (0, 0), (8, 0), (102, 7), (6, 0), (100, 7), (7, 0), (6, 0), (100, 600), (6, 0), (100, 7), (6, 0), (100, 40), (8, 0), (8, 0), (8, 0), (8, 0), (8, 0), (8, 0), (8, 0), (5, 0), (10, 0), (6, 0), (100, 0), (9, 0), (4, 0), (6, 0), (100, 7), (6, 0), (100, 7), (3, 0), (6, 0), (100, 120), (3, 0), (6, 0), (100, 24), (6, 0), (100, 3), (9, 0), (4, 0), (6, 0), (100, 7), (6, 0), (100, 7), (3, 0), (6, 0), (100, 120), (3, 0), (6, 0), (100, 24), (6, 0), (100, 3), (6, 0), (100, 7), (4, 0), (6, 0), (100, 7), (6, 0), (100, 7), (2, 0), (103, 7), (6, 0), (100, 7), (6, 0), (100, 4), (1, 0), (8, 0), (1, 0), (1, 0), (1, 0), (1, 0), (1, 0), (1, 0), (1, 0), (12, 0), (104, 3), (104, 7), (100, 16), (100, 14), (100, 28), (100, 14), (100, 14), (100, 14), (100, 14), (100, 14), (100, 1200), (100, 3), (100, 600), (100, 7), (100, 720), (100, 7), (100, 64), (100, 7), (100, 7), (100, 7), (100, 7), (100, 7), (100, 7), (100, 7), (100, 1200), (100, 1200), (100, 1200), (100, 1200), (100, 7), (100, 7), (100, 7), (100, 8), (100, 8), (100, 8), (100, 18), (100, 720), (100, 8), (100, 8), (100, 8), (100, 3), (101, 1)]
def sh (k : Nat) : Nat × Nat := shL.getD k (999, 0)
abbrev NM : Nat := 137
theorem sh_lt {k c l : Nat} (h : sh k = (c, l)) (hc : c < 999) : k < NM := by
  rcases Nat.lt_or_ge k NM with q | q
  · exact q
  · unfold sh at h
    rw [List.getD_eq_getElem?_getD, List.getElem?_eq_none (show shL.length ≤ k from q)] at h
    cases h
    omega
def nfL : List (String × Nat × String × String × String × String) := [("SpoonRow$Lier", 48, "SpoonRow$Sleeper", "kind", "I", "SpoonRow"), ("SpoonRow$Night", 125, "SpoonRow$Sleeper", "kind", "I", "SpoonRow"), ("SpoonRow", 163, "SpoonRow$Sleeper", "kind", "I", "SpoonRow"), ("SpoonRow$Plan", 86, "SpoonRow$Sleeper", "kind", "I", "SpoonRow"), ("SpoonRow$Lier", 40, "SpoonRow$Sleeper", "left", "I", "SpoonRow"), ("SpoonRow", 168, "SpoonRow$Sleeper", "left", "I", "SpoonRow"), ("SpoonRow$Lier", 45, "SpoonRow$Sleeper", "right", "I", "SpoonRow"), ("SpoonRow", 171, "SpoonRow$Sleeper", "right", "I", "SpoonRow"), ("SpoonRow", 174, "SpoonRow$Sleeper", "light", "I", "SpoonRow"), ("SpoonRow$Night", 217, "SpoonRow$Sleeper", "light", "I", "SpoonRow"), ("SpoonRow$Bed", 93, "SpoonRow$Sleeper", "width", "I", "SpoonRow"), ("SpoonRow", 177, "SpoonRow$Sleeper", "width", "I", "SpoonRow"), ("SpoonRow$Plan", 55, "SpoonRow$Sleeper", "out", "I", "SpoonRow"), ("SpoonRow", 183, "SpoonRow$Sleeper", "tenths", "I", "SpoonRow"), ("SpoonRow$Bed", 96, "SpoonRow$Sleeper", "tenths", "I", "SpoonRow"), ("SpoonRow$Plan", 96, "SpoonRow$Sleeper", "tenths", "I", "SpoonRow"), ("SpoonRow", 189, "SpoonRow$Bed", "enemies", "LSpoonRow$Row;", "SpoonRow"), ("SpoonRow$Night", 208, "SpoonRow$Bed", "rule", "LSpoonRow$Rule;", "SpoonRow"), ("SpoonRow$Reader", 192, "SpoonRow$Bed", "rule", "LSpoonRow$Rule;", "SpoonRow"), ("SpoonRow$Plan", 46, "SpoonRow$Bed", "sleepers", "I", "SpoonRow"), ("SpoonRow", 101, "SpoonRow$Bed", "sleepers", "I", "SpoonRow"), ("SpoonRow$Reader", 145, "SpoonRow$Bed", "sleepers", "I", "SpoonRow"), ("SpoonRow$Reader", 113, "SpoonRow$Bed", "wide", "I", "SpoonRow"), ("SpoonRow", 104, "SpoonRow$Bed", "wide", "I", "SpoonRow"), ("SpoonRow$Reader", 116, "SpoonRow$Bed", "room", "I", "SpoonRow"), ("SpoonRow", 107, "SpoonRow$Bed", "room", "I", "SpoonRow"), ("SpoonRow$Reader", 121, "SpoonRow$Bed", "minutes", "I", "SpoonRow"), ("SpoonRow", 110, "SpoonRow$Bed", "minutes", "I", "SpoonRow"), ("SpoonRow$Plan", 99, "SpoonRow$Bed", "minutes", "I", "SpoonRow"), ("SpoonRow$Reader", 126, "SpoonRow$Bed", "awake", "I", "SpoonRow"), ("SpoonRow", 113, "SpoonRow$Bed", "awake", "I", "SpoonRow"), ("SpoonRow$Night", 195, "SpoonRow$Bed", "awake", "I", "SpoonRow"), ("SpoonRow$Plan", 67, "SpoonRow$Bed", "bolsters", "I", "SpoonRow"), ("SpoonRow$Reader", 168, "SpoonRow$Bed", "bolsters", "I", "SpoonRow"), ("SpoonRow", 122, "SpoonRow$Bed", "nevers", "I", "SpoonRow"), ("SpoonRow$Reader", 171, "SpoonRow$Bed", "nevers", "I", "SpoonRow"), ("SpoonRow$Reader", 54, "SpoonRow$Tokens", "at", "I", "SpoonRow"), ("SpoonRow$Reader", 48, "SpoonRow$Tokens", "kind", "I", "SpoonRow"), ("SpoonRow", 97, "SpoonRow$Reader", "faultAt", "I", "SpoonRow"), ("SpoonRow$Night", 91, "SpoonRow$Plan", "order", "LSpoonRow$Row;", "SpoonRow"), ("SpoonRow$State", 66, "SpoonRow$Plan", "order", "LSpoonRow$Row;", "SpoonRow"), ("SpoonRow$Bed", 82, "SpoonRow$Plan", "order", "LSpoonRow$Row;", "SpoonRow"), ("SpoonRow", 202, "SpoonRow$Plan", "order", "LSpoonRow$Row;", "SpoonRow"), ("SpoonRow$Night", 107, "SpoonRow$Plan", "outs", "LSpoonRow$Row;", "SpoonRow"), ("SpoonRow$State", 81, "SpoonRow$Plan", "outs", "LSpoonRow$Row;", "SpoonRow"), ("SpoonRow", 180, "SpoonRow$Plan", "outs", "LSpoonRow$Row;", "SpoonRow"), ("SpoonRow$Night", 86, "SpoonRow$Plan", "lying", "I", "SpoonRow"), ("SpoonRow$Bed", 77, "SpoonRow$Plan", "lying", "I", "SpoonRow"), ("SpoonRow", 296, "SpoonRow$Plan", "lying", "I", "SpoonRow"), ("SpoonRow$Night", 110, "SpoonRow$Plan", "first", "I", "SpoonRow"), ("SpoonRow$State", 72, "SpoonRow$Plan", "first", "I", "SpoonRow"), ("SpoonRow", 125, "SpoonRow$Plan", "first", "I", "SpoonRow"), ("SpoonRow", 128, "SpoonRow$Plan", "sayer", "I", "SpoonRow"), ("SpoonRow$Night", 134, "SpoonRow$Plan", "sayer", "I", "SpoonRow"), ("SpoonRow$Night", 119, "SpoonRow$Plan", "every", "I", "SpoonRow"), ("SpoonRow", 131, "SpoonRow$Plan", "every", "I", "SpoonRow"), ("SpoonRow", 119, "SpoonRow$Plan", "bolsters", "I", "SpoonRow"), ("SpoonRow", 134, "SpoonRow$Plan", "isFree", "Z", "SpoonRow"), ("SpoonRow$Night", 144, "SpoonRow$Plan", "isFree", "Z", "SpoonRow"), ("SpoonRow$State", 58, "SpoonRow$Pile", "size", "I", "SpoonRow"), ("SpoonRow", 141, "SpoonRow$Pile", "size", "I", "SpoonRow"), ("SpoonRow", 116, "SpoonRow$State", "plan", "LSpoonRow$Plan;", "SpoonRow"), ("SpoonRow", 137, "SpoonRow$State", "acts", "LSpoonRow$Pile;", "SpoonRow"), ("SpoonRow", 146, "SpoonRow$State", "seen", "LSpoonRow$Pile;", "SpoonRow"), ("SpoonRow", 149, "SpoonRow$State", "refused", "LSpoonRow$Row;", "SpoonRow"), ("SpoonRow$Night", 66, "SpoonRow$Lier", "who", "LSpoonRow$Sleeper;", "SpoonRow"), ("SpoonRow$Night", 180, "SpoonRow$Lier", "number", "I", "SpoonRow"), ("SpoonRow$Night", 202, "SpoonRow$Lier", "place", "I", "SpoonRow"), ("SpoonRow$Night", 131, "SpoonRow$Lier", "out", "I", "SpoonRow"), ("SpoonRow", 259, "SpoonRow$Lier", "side", "I", "SpoonRow"), ("SpoonRow$Night", 232, "SpoonRow$Lier", "wokenAt", "I", "SpoonRow"), ("SpoonRow$Night", 226, "SpoonRow$Lier", "times", "I", "SpoonRow"), ("SpoonRow", 248, "SpoonRow$Lier", "times", "I", "SpoonRow"), ("SpoonRow$Night", 177, "SpoonRow$Lier", "begun", "I", "SpoonRow"), ("SpoonRow", 253, "SpoonRow$Lier", "begun", "I", "SpoonRow"), ("SpoonRow", 320, "SpoonRow$Night", "sums", "LSpoonRow$Row;", "SpoonRow"), ("SpoonRow", 269, "SpoonRow$Night", "watchedTurn", "LSpoonRow$Row;", "SpoonRow"), ("SpoonRow", 266, "SpoonRow$Night", "watched", "I", "SpoonRow"), ("SpoonRow", 227, "SpoonRow$Night", "turns", "I", "SpoonRow"), ("SpoonRow", 230, "SpoonRow$Night", "woken", "I", "SpoonRow"), ("SpoonRow", 233, "SpoonRow$Night", "quiet", "I", "SpoonRow")]
def nmL : List (String × Nat × MethodName × String) := [("SpoonRow$Bed", 11, ⟨"SpoonRow$Sleeper", "<init>", "()V"⟩, "SpoonRow"), ("SpoonRow$Bed", 33, ⟨"SpoonRow$Rule", "<init>", "()V"⟩, "SpoonRow"), ("SpoonRow", 46, ⟨"SpoonRow$State", "<init>", "()V"⟩, "SpoonRow"), ("SpoonRow$State", 11, ⟨"SpoonRow$Plan", "<init>", "()V"⟩, "SpoonRow"), ("SpoonRow", 66, ⟨"SpoonRow$Plan", "<init>", "()V"⟩, "SpoonRow"), ("SpoonRow$Night", 58, ⟨"SpoonRow$Sleeper", "<init>", "()V"⟩, "SpoonRow")]
def stL : List (String × Nat × String × List Int32) := [("SpoonRow$Tokens", 37, ";()+-*/<=", [59, 40, 41, 43, 45, 42, 47, 60, 61]), ("SpoonRow$Reader", 99, "sleeper", [115, 108, 101, 101, 112, 101, 114]), ("SpoonRow$Reader", 101, "child", [99, 104, 105, 108, 100]), ("SpoonRow$Reader", 103, "snorer", [115, 110, 111, 114, 101, 114]), ("SpoonRow$Reader", 105, "dog", [100, 111, 103]), ("SpoonRow$Reader", 70, "bolster", [98, 111, 108, 115, 116, 101, 114]), ("SpoonRow$Reader", 79, "never", [110, 101, 118, 101, 114]), ("SpoonRow$Reader", 84, "wakes", [119, 97, 107, 101, 115]), ("SpoonRow$Reader", 206, "not", [110, 111, 116]), ("SpoonRow$Reader", 226, "light", [108, 105, 103, 104, 116]), ("SpoonRow$Reader", 228, "off", [111, 102, 102]), ("SpoonRow$Reader", 230, "turns", [116, 117, 114, 110, 115]), ("SpoonRow$Reader", 232, "hour", [104, 111, 117, 114]), ("SpoonRow$Reader", 234, "snore", [115, 110, 111, 114, 101]), ("SpoonRow$Reader", 236, "edge", [101, 100, 103, 101]), ("SpoonRow$Reader", 238, "woken", [119, 111, 107, 101, 110]), ("SpoonRow$Reader", 204, "and", [97, 110, 100]), ("SpoonRow$Reader", 190, "or", [111, 114]), ("SpoonRow$Reader", 107, "bed", [98, 101, 100]), ("SpoonRow$Reader", 119, "night", [110, 105, 103, 104, 116]), ("SpoonRow$Reader", 124, "awake", [97, 119, 97, 107, 101]), ("SpoonRowModel", 11, "sleeper", [115, 108, 101, 101, 112, 101, 114]), ("SpoonRowModel", 13, "child", [99, 104, 105, 108, 100]), ("SpoonRowModel", 15, "snorer", [115, 110, 111, 114, 101, 114]), ("SpoonRowModel", 21, "light", [108, 105, 103, 104, 116]), ("SpoonRowModel", 23, "off", [111, 102, 102]), ("SpoonRowModel", 25, "turns", [116, 117, 114, 110, 115]), ("SpoonRowModel", 27, "hour", [104, 111, 117, 114]), ("SpoonRowModel", 29, "snore", [115, 110, 111, 114, 101]), ("SpoonRowModel", 31, "edge", [101, 100, 103, 101]), ("SpoonRowModel", 33, "woken", [119, 111, 107, 101, 110]), ("SpoonRowModel", 279, "bed", [98, 101, 100]), ("SpoonRowModel", 281, "night", [110, 105, 103, 104, 116]), ("SpoonRowModel", 283, "awake", [97, 119, 97, 107, 101]), ("SpoonRowModel", 285, "wakes", [119, 97, 107, 101, 115]), ("SpoonRowModel", 287, "dog", [100, 111, 103]), ("SpoonRowModel", 261, "not", [110, 111, 116]), ("SpoonRowModel", 269, "and", [97, 110, 100]), ("SpoonRowModel", 274, "or", [111, 114]), ("SpoonRowModel", 292, "bolster", [98, 111, 108, 115, 116, 101, 114]), ("SpoonRowModel", 297, "never", [110, 101, 118, 101, 114])]
def iaeN : String := "java/lang/IllegalArgumentException"
def nseN : String := "java/util/NoSuchElementException"
/-- the literals: each is a String cell that nobody writes, its bytes in an array that nobody writes -/
def KS (G : GG) (U : State) : Prop := ∀ (i : Nat) (q : String × Nat × String × List Int32), stL[i]? = some q → vk_R q.1 q.2.1 q.2.2.1 (G.2.1 (1000 + i)) U ∧ va_O "java/lang/String" (G.2.1 (1000 + i)) (fA G) U U.heap ∧ va_OF "java/lang/String" "coder" "B" (.int 0) (G.2.1 (1000 + i)) (fA G) U U.heap ∧ va_OF "java/lang/String" "value" "[B" (.ref (G.2.1 (1100 + i))) (G.2.1 (1000 + i)) (fA G) U U.heap ∧ va_T .byte (G.2.1 (1100 + i)) q.2.2.2.length (fun j => .int (q.2.2.2.getD j 0)) (fA G) U U.heap
/-- what every frame carries beside its words -/
def KK (G : GG) (U : State) : Prop := G.1 ≤ U.heap.size ∧ va_K G.2.2.1 vwCl (tyL G) U ∧ (∀ q ∈ nfL, va_Nw (.fieldLinkNest q.1 q.2.1 q.2.2.1 q.2.2.2.1 q.2.2.2.2.1 q.2.2.2.2.2) U) ∧ (∀ q ∈ nmL, va_Nw (.methodLinkNest q.1 q.2.1 q.2.2.1 q.2.2.2) U) ∧ va_Nw (.castable iaeN iaeN) U ∧ va_Nw (.castable nseN nseN) U ∧ va_Nc iaeN nseN U ∧ (∀ C ∈ [RX8, RX1, "java/lang/String"], va_AO C U) ∧ KS G U ∧ vx_Zq Bundle.tN "UNASSIGNED_STACK" Bundle.steD (fA G) U U.heap ∧ vx_Zq Bundle.tN "SUPPRESSED_SENTINEL" Bundle.listD (fA G) U U.heap ∧ va_Z "java/lang/String" "COMPACT_STRINGS" "Z" (.int 1) (fA G) U U.heap ∧ (va_Z "jdk/internal/util/Preconditions" "SIOOBE_FORMATTER" "Ljava/util/function/BiFunction;" .null (fA G) U U.heap ∨ va_Z "jdk/internal/util/Preconditions" "SIOOBE_FORMATTER" "Ljava/util/function/BiFunction;" (.ref (G.2.1 1999)) (fA G) U U.heap) ∧ (∀ Y ∈ ["java/lang/RuntimeException", "java/lang/Exception", Bundle.tN], va_Nw (.declares (Bundle.init0 Y)) U)
theorem KS_go {G : GG} {s U : State} {H : Heap} {locs : List Loc} (h : KS G s) (hS : va_S (fA G) s.heap H locs) (hU : U.heap = H) (hW : s.WarmedH U.vm) : KS G U := by
  subst hU
  intro i q hq
  obtain ⟨h1, h2, h3, h4, h5⟩ := h i q hq
  exact ⟨h1.warm hW, va_O.moved hW.alike (h2.kept hS.2.1), va_OF.moved hW.alike (h3.kept hS.2.1), va_OF.moved hW.alike (h4.kept hS.2.1), va_T.moved hW.alike (h5.kept hS.2.1)⟩
theorem KK_go {G : GG} {s U : State} {H : Heap} {locs : List Loc} (h : KK G s) (hS : va_S (fA G) s.heap H locs) (hU : U.heap = H) (hW : s.WarmedH U.vm) : KK G U := by
  obtain ⟨h1, h2, h3, h4, h5, h6, h7, h8, h9, h10, h11, h12, h13, h14⟩ := h
  refine ⟨?_, va_K.moved hW.alike h2, fun q hq => va_Nw.warmF hW (h3 q hq), fun q hq => va_Nw.warmM hW (h4 q hq), va_Nw.warmC hW h5, va_Nw.warmC hW h6, va_Nc.moved hW.alike h7, fun C hC => va_AO.moved hW.alike (h8 C hC), KS_go h9 hS hU hW, ?_, ?_, ?_, ?_, fun Y hY => va_Nw.warmD hW (h14 Y hY)⟩
  · rw [hU]; exact Nat.le_trans h1 hS.1
  · subst hU; exact vx_Zq.moved hW.alike (h10.kept hS.2.1)
  · subst hU; exact vx_Zq.moved hW.alike (h11.kept hS.2.1)
  · subst hU; exact va_Z.moved hW.alike (h12.kept hS.2.1)
  · subst hU
    exact h13.elim (fun h => Or.inl (va_Z.moved hW.alike (h.kept hS.2.1))) (fun h => Or.inr (va_Z.moved hW.alike (h.kept hS.2.1)))
abbrev WLd (G : GG) (E : HP) (n : Nat) (H : Heap) : Prop := WL sh NM G E n H
/-- how a method ends: with an answer, or by a throw of a class; the heap then, and how many ids are made -/
abbrev OUT : Type := (Option Value ⊕ String) × HP × Nat
def PC (G : GG) (args : List Value) (E : HP) (n : Nat) : Array Value → State → Prop := va_Pc (args.map (tr G)) (fun U => WLd G E n U.heap ∧ KK G U)
def QC (G : GG) (out : OUT) : Array Value → State → Outcome → State → Prop := fun _ st o t => ∃ (v : Option Value) (E : HP) (n : Nat), out = (.inl v, E, n) ∧ o = .returned (v.map (tr G)) ∧ WLd G E n t.heap ∧ va_F (fA G) st t
def XC (G : GG) (out : OUT) : String → State → State → Prop := fun X st t => ∃ (E : HP) (n : Nat), out = (.inr X, E, n) ∧ WLd G E n t.heap ∧ va_F (fA G) st t
theorem PC_blind {G : GG} {args : List Value} {E : HP} {n : Nat} : FrameBlind (PC G args E n) := fun _ U _ _ h => ⟨h.1, h.2.1, KK_go h.2.2 va_S.rf rfl (State.WarmedH.refl U)⟩
/-- a method: its class' number, bytes, locals, what it gives, handlers, whether it is a constructor, the law itself, the script -/
abbrev MI : Type := Nat × ByteArray × Nat × Option FieldType × List (Nat × Nat × Nat × Nat) × Bool × Bool × Nat × (Nat → Int32)
def MW (y : MethodName) (M : MI) : List Cond := (match M.2.2.2.2.1 with | [] => Cond.code y M.2.1 M.2.2.1 M.2.2.2.1 | h :: hh => Cond.codeWith y M.2.1 M.2.2.1 M.2.2.2.1 (h :: hh)) :: TB
def frR (d : Nat) : Nat := 2 * d + 16
def loR (d : Nat) : Nat := 64 * d + 400
def rmO (d bc bs : Nat) : Room := { frames := frR d, cells := bc, slots := bs, locals := loR d }
/-- a call: from every state that is the heap E with n ids, the method ends as 'out' says; at most bc cells of bs slots are new -/
def Cl (y : MethodName) (M : MI) (d bc bs : Nat) (args : List Value) (E : HP) (n : Nat) (out : OUT) : Prop :=
  ∀ (l : Launch) (G : GG), l.stackTraces = false → vx_Met l y (MW y M) (rmO d bc bs) (PC G args E n) (QC G out) (XC G out) bc bs (fA G)
def lh (G : GG) (lsA : Array Slot) (nL : Nat) (ls : List (Option Value)) : Prop := lsA.size = nL ∧ lv_wf lsA ∧ ∀ (i : Nat) (v : Value), ls[i]? = some (some v) → lsA[i]? = some (.val (tr G v))
/-- what a frame knows of its method -/
def Cx (G : GG) (M : MI) (d : Nat) (p : Program) (l : Launch) (s : State) (m : MethodId) (args : Array Value) (meth : Method) (c : Code) (R : Room) : Prop :=
  p.tables.exec = Jvm.exec ∧ c.code = M.2.1 ∧ c.maxLocals = M.2.2.1 ∧ s.vm.findClass (cn M.1) = some m.cls ∧ (∀ w ∈ TB, w.before args s = true) ∧ meth.sig.returnType = M.2.2.2.1 ∧ meth.locks = false ∧ c.exceptionTable.toList = tableOf M.2.2.2.2.1 ∧ l.stackTraces = false ∧ KK G s ∧ frR d ≤ R.frames ∧ loR d ≤ R.locals ∧ (M.2.2.2.2.2.1 = true → meth.name = "<init>") ∧ (M.2.2.2.2.2.2.1 = true → va_X (G.2.1 2000) M.2.2.2.2.2.2.2.1 M.2.2.2.2.2.2.2.2 s s.heap ∧ G.2.1 2000 < s.heap.size ∧ G.1 = s.heap.size)
/-- where a method's walk ends: as every method does, or as the law does -/
def Fn (G : GG) (M : MI) (s : State) (m : MethodId) (args : Array Value) (below : List Frame) (R : Room) (out : OUT) (Q : State → Prop) : Prop :=
  Q = vx_MQ below (QC G out) (XC G out) args s R.cells R.slots (fA G) ∨ (M.2.2.2.2.2.2.1 = true ∧ M.2.1 = code ∧ M.2.2.2.1 = ret ∧ R = room_1 ∧ (∃ b, args = #[.ref b]) ∧ Q = lw_Z below args s ∧ out.1 = .inl (some (.int 1)))
/-- from a place in a method, with locals and stack, to the method's end; bc, bs: the cells and slots that may still be made -/
def Sm (M : MI) (d bc bs : Nat) (out : OUT) (pc : Nat) (ls : List (Option Value)) (st : List Value) (E : HP) (n : Nat) : Prop :=
  ∀ (G : GG) (p : Program) (l : Launch) (e : Env) (s : State) (m : MethodId) (args : Array Value) (below : List Frame) (meth : Method) (c : Code) (R : Room) (H : Heap) (locs : List Loc) (cells slots : Nat) (lsA : Array Slot) (Q : State → Prop),
    Cx G M d p l s m args meth c R → Fn G M s m args below R out Q → va_S (fA G) s.heap H locs → WLd G E n H → lh G lsA M.2.2.1 ls → cells + bc ≤ R.cells → slots + bs ≤ R.slots →
    W p l e R s m args below meth c H locs cells slots Q (F0 m pc lsA (st.map (tr G)))
theorem tr_cat (G : GG) (v : Value) : (tr G v).category = v.category := by cases v <;> rfl
theorem tr_sum (G : GG) (st : List Value) : ((st.map (tr G)).map fun v => v.category).sum = (st.map fun v => v.category).sum := by
  rw [List.map_map]
  congr 1
  exact List.map_congr_left fun v _ => tr_cat G v
/-- the locals at a method's entry -/
def en0 (args : List Value) : List (Option Value) := args.flatMap fun v => if v.category = 2 then [some v, none] else [some v]
theorem lv_args_en0 (G : GG) : ∀ (args : List Value) (k i : Nat) (v : Value), (en0 args)[i]? = some (some v) → (k + i, tr G v) ∈ lv_args k (args.map (tr G)) := by
  intro args
  induction args with
  | nil => intro k i v h; simp [en0] at h
  | cons a as ih =>
    intro k i v h
    unfold en0 at h
    rw [List.flatMap_cons] at h
    show (k + i, tr G v) ∈ (k, tr G a) :: lv_args (if (tr G a).category = 2 then k + 2 else k + 1) (as.map (tr G))
    rw [tr_cat]
    by_cases hc : a.category = 2
    · rw [if_pos hc] at h ⊢
      match i, h with
      | 0, h => cases h; exact List.mem_cons_self
      | 1, h => cases h
      | j + 2, h =>
        have h2 := ih (k + 2) j v h
        rw [show k + 2 + j = k + (j + 2) by omega] at h2
        exact List.mem_cons_of_mem _ h2
    · rw [if_neg hc] at h ⊢
      match i, h with
      | 0, h => cases h; exact List.mem_cons_self
      | j + 1, h =>
        have h2 := ih (k + 1) j v h
        rw [show k + 1 + j = k + (j + 1) by omega] at h2
        exact List.mem_cons_of_mem _ h2
theorem lg_len (G : GG) (args : List Value) : (lg_sl (args.map (tr G))).length = (en0 args).length := by
  unfold lg_sl en0
  rw [List.flatMap_map]
  induction args with
  | nil => rfl
  | cons a as ih =>
    rw [List.flatMap_cons, List.flatMap_cons, List.length_append, List.length_append, ih, tr_cat]
    by_cases hc : a.category = 2
    · rw [if_pos hc, if_pos hc]; rfl
    · rw [if_neg hc, if_neg hc]; rfl
theorem lh_entry {G : GG} {args : List Value} {n : Nat} (h : (en0 args).length ≤ n) : lh G ((lg_sl (args.map (tr G)) ++ List.replicate (n - (lg_sl (args.map (tr G))).length) Slot.unset).toArray) n (en0 args) := by
  have h1 := lv_entry (args.map (tr G)) (n := n) (by rw [lg_len]; exact h)
  refine ⟨h1.1, h1.2.1, fun i v hv => ?_⟩
  have h2 := lv_args_en0 G args 0 i v hv
  rw [Nat.zero_add] at h2
  exact h1.2.2 _ h2
theorem lh_more {G : GG} {lsA : Array Slot} {nL : Nat} {ls : List (Option Value)} (h : lh G lsA nL ls) (k : Nat) : lh G lsA nL (ls ++ List.replicate k none) := by
  refine ⟨h.1, h.2.1, fun i v hv => h.2.2 i v ?_⟩
  by_cases hi : i < ls.length
  · rwa [List.getElem?_append_left hi] at hv
  · rw [List.getElem?_append_right (by omega)] at hv
    have := List.mem_of_getElem? hv
    have h2 := List.eq_of_mem_replicate this
    cases h2
/-- a method is what its walk from the entry is -/
theorem Cl.of {y : MethodName} {M : MI} {d bc bs n : Nat} {args : List Value} {E : HP} {out : OUT} (hy : plainName y.cls = true) (hc : cn M.1 = y.cls) (hi : M.2.2.2.2.2.1 = true → y.name = "<init>") (hlaw : M.2.2.2.2.2.2.1 = false) (hh : M.2.2.2.2.1 = []) (hn : (en0 args).length ≤ M.2.2.1)
    (h : Sm M d bc bs out 0 (en0 args ++ List.replicate (M.2.2.1 - (en0 args).length) none) [] E n) : Cl y M d bc bs args E n out := by
  intro l G hl
  refine vx_ofW (cc := M.2.1) (maxL := M.2.2.1) (ret := M.2.2.2.1) (ws' := TB) hy (by unfold MW; rw [hh]) ?_
  intro p e s m args' below meth c s₁ B hml ht hv
  obtain ⟨rfl, hW, hK⟩ := hv
  have hts := atoms_spec (ws := MW y M) B.pre
  rw [lg_entry_eq]
  refine h G p l e s m _ below meth c _ s.heap [] 0 0 _ _ ⟨B.exec, B.bytes, hml, ?_, fun w hw => hts w (List.mem_cons_of_mem _ hw), B.returns, B.notSynchronized, ?_, hl, hK, Nat.le_refl _, Nat.le_refl _, fun hi' => ?_, fun hl' => by rw [hlaw] at hl'; cases hl'⟩ (Or.inl rfl) va_S.rf hW (lh_more (lh_entry hn) _) (by show 0 + bc ≤ bc; omega) (by show 0 + bs ≤ bs; omega)
  · rw [hc]; exact findClass_of_methodNamed B.named
  · rw [hh]
    have : c.exceptionTable.toList = [] := by
      cases hq : c.exceptionTable.toList with
      | nil => rfl
      | cons x xs => exact (ht x (by rw [hq]; exact List.mem_cons_self)).elim
    rw [this]
    rfl
  · rw [← hi hi']; exact (name_of_methodNamed B.named B.method).1
/-- .. one with handlers -/
theorem Cl.ofH {y : MethodName} {M : MI} {d bc bs n : Nat} {args : List Value} {E : HP} {out : OUT} {h0 : Nat × Nat × Nat × Nat} {hh : List (Nat × Nat × Nat × Nat)} (hy : plainName y.cls = true) (hc : cn M.1 = y.cls) (hi : M.2.2.2.2.2.1 = false) (hlaw : M.2.2.2.2.2.2.1 = false) (hH : M.2.2.2.2.1 = h0 :: hh) (hn : (en0 args).length ≤ M.2.2.1)
    (h : Sm M d bc bs out 0 (en0 args ++ List.replicate (M.2.2.1 - (en0 args).length) none) [] E n) : Cl y M d bc bs args E n out := by
  intro l G hl
  have hw : MW y M = Cond.codeWith y M.2.1 M.2.2.1 M.2.2.2.1 (h0 :: hh) :: TB := by unfold MW; rw [hH]
  refine vx_ofWH (cc := M.2.1) (maxL := M.2.2.1) (ret := M.2.2.2.1) (hh := h0 :: hh) (ws' := TB) hy hw ?_
  intro p e s m args' below meth c s₁ B hml hv
  obtain ⟨rfl, hW, hK⟩ := hv
  have hts := atoms_spec (ws := MW y M) B.pre
  rw [lg_entry_eq]
  refine h G p l e s m _ below meth c _ s.heap [] 0 0 _ _ ⟨B.exec, B.bytes, hml, ?_, fun w hw' => hts w (List.mem_cons_of_mem _ hw'), B.returns, B.notSynchronized, ?_, hl, hK, Nat.le_refl _, Nat.le_refl _, fun hi' => (by rw [hi] at hi'; cases hi'), fun hl' => (by rw [hlaw] at hl'; cases hl')⟩ (Or.inl rfl) va_S.rf hW (lh_more (lh_entry hn) _) (by show 0 + bc ≤ bc; omega) (by show 0 + bs ≤ bs; omega)
  · rw [hc]; exact findClass_of_methodNamed B.named
  · rw [hH]
    exact vx_table (x := y) B (hts _ (by rw [hw]; exact List.mem_cons_self))

