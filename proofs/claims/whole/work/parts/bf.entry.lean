/-! THE LAW: what is given at its entry -/
def stC (q : String × Nat × String × List Int32) : List Cond := .exactly (.string q.1 q.2.1) "java/lang/String" :: .eq (.field (.string q.1 q.2.1) "java/lang/String" "coder" "B") (.int 0) :: .arrayOf (.field (.string q.1 q.2.1) "java/lang/String" "value" "[B") .byte :: .eq (.length (.field (.string q.1 q.2.1) "java/lang/String" "value" "[B")) (.int (Int32.ofNat q.2.2.2.length)) :: (List.range q.2.2.2.length).map fun j => .eq (.elem (.field (.string q.1 q.2.1) "java/lang/String" "value" "[B") (.int (Int32.ofNat j))) (.int (q.2.2.2.getD j 0))
def nstr : Cond → Bool
  | .eq (.string _ _) (.string _ _) => false
  | _ => true
abbrev pr0 : List Cond := flatC (Jvm.Cond.and given_1 narrow_1)
set_option maxRecDepth 100000 in
theorem st_flat : stL.flatMap stC = (pr0.filter nstr).drop 39 := by decide +kernel
theorem st_in {q : String × Nat × String × List Int32} (hq : q ∈ stL) {w : Cond} (hw : w ∈ stC q) : w ∈ pr0 := by
  have h : w ∈ stL.flatMap stC := List.mem_flatMap.mpr ⟨q, hq, hw⟩
  rw [st_flat] at h
  exact (List.mem_filter.mp (List.mem_of_mem_drop h)).1
set_option maxRecDepth 100000 in
theorem st_31 : ∀ q ∈ stL, q.2.2.2.length < 2 ^ 31 := by decide +kernel
set_option maxRecDepth 100000 in
theorem st_ref : ∀ q ∈ stL, Cond.stringRef q.1 q.2.1 q.2.2.1 ∈ lw_tbl := by decide +kernel
set_option maxRecDepth 100000 in
theorem nf_in : ∀ q ∈ nfL, Cond.fieldLinkNest q.1 q.2.1 q.2.2.1 q.2.2.2.1 q.2.2.2.2.1 q.2.2.2.2.2 ∈ lw_tbl := by decide +kernel
set_option maxRecDepth 100000 in
theorem nm_in : ∀ q ∈ nmL, Cond.methodLinkNest q.1 q.2.1 q.2.2.1 q.2.2.2 ∈ lw_tbl := by decide +kernel
set_option maxRecDepth 100000 in
theorem ao_in : ∀ C ∈ [RX8, RX1, "java/lang/String"], Cond.arrayOver (.object C) ∈ lw_tbl := by decide +kernel
set_option maxRecDepth 100000 in
theorem de_in : ∀ Y ∈ ["java/lang/RuntimeException", "java/lang/Exception", Bundle.tN], Cond.declares (Bundle.init0 Y) ∈ lw_tbl := by decide +kernel
set_option maxRecDepth 100000 in
theorem ks_start {s : State} {args : Array Value} (hw : ∀ w ∈ lw_tbl, w.before args s = true) (hn : ∀ c ∈ pr0, c.before args s = true) {A : Nat → Prop} (hA : ∀ a : Nat, a < s.heap.size → ¬ A a) : ∃ f : Nat → Nat × Nat, ∀ (i : Nat) (q : String × Nat × String × List Int32), stL[i]? = some q → vk_R q.1 q.2.1 q.2.2.1 (f i).1 s ∧ va_O "java/lang/String" (f i).1 A s s.heap ∧ va_OF "java/lang/String" "coder" "B" (.int 0) (f i).1 A s s.heap ∧ va_OF "java/lang/String" "value" "[B" (.ref (f i).2) (f i).1 A s s.heap ∧ va_T .byte (f i).2 q.2.2.2.length (fun j => .int (q.2.2.2.getD j 0)) A s s.heap := by
  refine Classical.axiomOfChoice (r := fun (i : Nat) (z : Nat × Nat) => ∀ q : String × Nat × String × List Int32, stL[i]? = some q → vk_R q.1 q.2.1 q.2.2.1 z.1 s ∧ va_O "java/lang/String" z.1 A s s.heap ∧ va_OF "java/lang/String" "coder" "B" (.int 0) z.1 A s s.heap ∧ va_OF "java/lang/String" "value" "[B" (.ref z.2) z.1 A s s.heap ∧ va_T .byte z.2 q.2.2.2.length (fun j => .int (q.2.2.2.getD j 0)) A s s.heap) fun i => ?_
  cases hi : stL[i]? with
  | none => exact ⟨(0, 0), fun q hq => (by cases hq)⟩
  | some q =>
    have hq : q ∈ stL := List.mem_of_getElem? hi
    have g : ∀ w ∈ stC q, w.before args s = true := fun w hw => hn w (st_in hq hw)
    obtain ⟨a, c, cA, kA, q1, q2, q3, q4, q5, q6, -⟩ := Cond.exactly_spec (args := args) (first := s) (o := none) (s := s) (idx := []) (t := .string q.1 q.2.1) (cls := "java/lang/String") (g _ List.mem_cons_self)
    obtain ⟨t, ht, hT⟩ := va_Tof (f := fun j => .int (q.2.2.2.getD j 0)) (A := A) (st_31 q hq) (g _ (List.mem_cons_of_mem _ (List.mem_cons_of_mem _ List.mem_cons_self))) (va_eqt (g _ (List.mem_cons_of_mem _ (List.mem_cons_of_mem _ (List.mem_cons_of_mem _ List.mem_cons_self))))) (fun j hj => va_eqt (g _ (List.mem_cons_of_mem _ (List.mem_cons_of_mem _ (List.mem_cons_of_mem _ (List.mem_cons_of_mem _ (List.mem_map.mpr ⟨j, List.mem_range.mpr hj, rfl⟩))))))) hA
    refine ⟨(a, t), fun q' hq' => ?_⟩
    cases hq'
    exact ⟨vk_R.of (A := args) (hw _ (st_ref q hq)) q1, ⟨cA, q3, q5, by rw [q6]; exact q2, hA a (Array.getElem?_eq_some_iff.mp q3).1⟩, vk_OFof q1 (va_eqt (g _ (List.mem_cons_of_mem _ List.mem_cons_self))) hA, vk_OFof q1 ht hA, hT⟩
theorem cl_start {s : State} {args : Array Value} (hw : ∀ w ∈ lw_tbl, w.before args s = true) : ∀ c, c < 13 → ∃ z : ClassId × (Nat → Nat), u_Kn s (cn c) (clT c) (clN c) z.1 z.2 := by
  have ht : ∀ w ∈ TB, w.before args s = true := fun w h => hw w (List.mem_filter.mp h).1
  have g : ∀ own idx c, NP own idx c → ∃ z : ClassId × (Nat → Nat), u_Kn s (cn c) (clT c) (clN c) z.1 z.2 := fun own idx c hp => by
    obtain ⟨h1, -, h3, -⟩ := hp
    obtain ⟨cC, iS, h⟩ := u_known (ws := TB) (C := cn c) (T := clT c) (N := clN c) (n := clN c) ht (cl_in c h1) (ht _ h3)
    exact ⟨(cC, iS), h⟩
  exact lt13 (g _ _ _ n11_25) (g _ _ _ n2_9) (g _ _ _ n11_71) (g _ _ _ n9_18) (g _ _ _ n9_9) (g _ _ _ n11_35) (g _ _ _ n11_7) (g _ _ _ n0_31) (g _ _ _ n0_9) (g _ _ _ n11_44) (g _ _ _ n5_9) (g _ _ _ n13_8) (g _ _ _ n13_74)
theorem ra_start {s : State} {args : Array Value} {ty : FieldType} (h : (Cond.arrayClass ty).before args s = true) : ∃ c, ArrOfT s c ty ∧ s.vm.findClass ("[" ++ ty.toString) = some c := by
  obtain ⟨c, k, comp, h1, h2, h3⟩ := Cond.arrayClass_spec h
  exact ⟨c, fun n z => ⟨fun j q => (by cases q), k, h2, comp, h3⟩, h1⟩
theorem rq_start {s : State} {args : Array Value} {C : String} (h : (Cond.arrayOver (.object C)).before args s = true) : ∃ c, ArrOfT s c (.object C) ∧ va_RA s c (.object C) := by
  obtain ⟨comp, c, k, h1, -, h3, h4, h5⟩ := Cond.arrayOver_spec h
  exact ⟨c, fun n z => ⟨fun j q => (by cases q), k, h3, comp, h4⟩, k, comp, h3, h4, h1, h5⟩
set_option maxHeartbeats 16000000 in
set_option maxRecDepth 100000 in
theorem kk_start {s : State} {b : Nat} {args : Array Value} (hw : ∀ w ∈ lw_tbl, w.before args s = true) (hn : ∀ c ∈ pr0, c.before args s = true) : ∃ G : GG, G.1 = s.heap.size ∧ G.2.1 2000 = b ∧ KK G s := by
  have hA : ∀ a : Nat, a < s.heap.size → ¬ s.heap.size ≤ a := fun a h => Nat.not_le.mpr h
  obtain ⟨f, hf⟩ := ks_start hw hn (A := fun q => s.heap.size ≤ q) hA
  have hcl : ∀ c : Nat, ∃ z : ClassId × (Nat → Nat), c < 13 → u_Kn s (cn c) (clT c) (clN c) z.1 z.2 := fun c => by
    by_cases h : c < 13
    · obtain ⟨z, hz⟩ := cl_start hw c h
      exact ⟨z, fun _ => hz⟩
    · exact ⟨(0, fun _ => 0), fun q => absurd q h⟩
  obtain ⟨D, hD⟩ := Classical.axiomOfChoice hcl
  obtain ⟨c0, a0, r0⟩ := ra_start (hw (.arrayClass .int) (by decide +kernel))
  obtain ⟨c1, a1, r1⟩ := ra_start (hw (.arrayClass .long) (by decide +kernel))
  obtain ⟨c2, a2, r2⟩ := rq_start (hw _ (ao_in RX8 (by decide)))
  obtain ⟨c3, a3, r3⟩ := rq_start (hw _ (ao_in RX1 (by decide)))
  obtain ⟨c4, a4, r4⟩ := rq_start (hw _ (ao_in "java/lang/String" (by decide)))
  obtain ⟨w, hz⟩ : ∃ w : Nat, va_Z "jdk/internal/util/Preconditions" "SIOOBE_FORMATTER" "Ljava/util/function/BiFunction;" .null (fun q => s.heap.size ≤ q) s s.heap ∨ va_Z "jdk/internal/util/Preconditions" "SIOOBE_FORMATTER" "Ljava/util/function/BiFunction;" (.ref w) (fun q => s.heap.size ≤ q) s s.heap := by
    rcases va_Zqof (A := fun q => s.heap.size ≤ q) (hw (.laysStatic "jdk/internal/util/Preconditions" "SIOOBE_FORMATTER" "Ljava/util/function/BiFunction;") (by decide +kernel)) (hw (.initialized "jdk/internal/util/Preconditions") (by decide +kernel)) (hn _ (List.mem_of_getElem? (i := 7) rfl)) hA with h | ⟨t, h⟩
    · exact ⟨0, Or.inl h⟩
    · exact ⟨t, Or.inr h⟩
  have hs41 : stL.length = 41 := by decide
  refine ⟨(s.heap.size, fun k => if k = 2000 then b else if k = 1999 then w else if k < 1100 then (f (k - 1000)).1 else (f (k - 1100)).2, (fun c => (D c).1, fun c => (D c).2), fun k => if k = 0 then c0 else if k = 1 then c1 else if k = 2 then c2 else if k = 3 then c3 else c4), rfl, rfl, ?_⟩
  refine ⟨Nat.le_refl _, ⟨fun c q hq => ?_, fun k q hq => ?_⟩, fun q hq => va_Nw.of rfl (hw _ (nf_in q hq)), fun q hq => va_Nw.of rfl (hw _ (nm_in q hq)), va_Nw.of rfl (hw (.castable iaeN iaeN) (by decide +kernel)), va_Nw.of rfl (hw (.castable nseN nseN) (by decide +kernel)), va_Nc.of (hn _ (List.mem_of_getElem? (i := 38) rfl)), fun C hC => va_AO.of (hw _ (ao_in C hC)), fun i q hq => ?_, vx_Zqof (hw (.laysStatic "java/lang/Throwable" "UNASSIGNED_STACK" "[Ljava/lang/StackTraceElement;") (by decide +kernel)) (hw (.initialized "java/lang/Throwable") (by decide +kernel)) (hn _ (List.mem_of_getElem? (i := 4) rfl)) hA, vx_Zqof (hw (.laysStatic "java/lang/Throwable" "SUPPRESSED_SENTINEL" "Ljava/util/List;") (by decide +kernel)) (hw (.initialized "java/lang/Throwable") (by decide +kernel)) (hn _ (List.mem_of_getElem? (i := 5) rfl)) hA, va_Zof (hw (.laysStatic "java/lang/String" "COMPACT_STRINGS" "Z") (by decide +kernel)) (hw (.initialized "java/lang/String") (by decide +kernel)) (va_eqt (hn _ (List.mem_of_getElem? (i := 6) rfl))) hA, hz, fun Y hY => va_Nw.of rfl (hw _ (de_in Y hY))⟩
  · have hc : c < 13 := (List.getElem?_eq_some_iff.mp hq).1
    rw [cl_cl c hc] at hq
    cases hq
    exact hD c hc
  · match k, hq with
    | 0, hq => cases hq; exact ⟨a0, r0⟩
    | 1, hq => cases hq; exact ⟨a1, r1⟩
    | 2, hq => cases hq; exact ⟨a2, r2⟩
    | 3, hq => cases hq; exact ⟨a3, r3⟩
    | 4, hq => cases hq; exact ⟨a4, r4⟩
    | k + 5, hq => cases hq
  · have hi : i < 41 := by rw [← hs41]; exact (List.getElem?_eq_some_iff.mp hq).1
    show _ ∧ _
    have e1 : (if 1000 + i = 2000 then b else if 1000 + i = 1999 then w else if 1000 + i < 1100 then (f (1000 + i - 1000)).1 else (f (1000 + i - 1100)).2) = (f i).1 := by rw [if_neg (by omega), if_neg (by omega), if_pos (by omega), Nat.add_sub_cancel_left]
    have e2 : (if 1100 + i = 2000 then b else if 1100 + i = 1999 then w else if 1100 + i < 1100 then (f (1100 + i - 1000)).1 else (f (1100 + i - 1100)).2) = (f i).2 := by rw [if_neg (by omega), if_neg (by omega), if_neg (by omega), Nat.add_sub_cancel_left]
    have h := hf i q hq
    rw [← e1, ← e2] at h
    exact h
/-- from the law's entry to its end -/
theorem whole_go {p : Program} {e : Env} {s : State} {m : MethodId} {below : List Frame} {meth : Method} {c : Code} (l : Launch) (hflags : l.flags = flags0) {b L : Nat} {xs : Nat → Int32} (hL : L ≤ 3072) (hH : c.exceptionTable.toList = []) (C0 : lw_At p s m meth c b L xs) : W p l e room_1 s m #[Value.ref b] below meth c s.heap [] 0 0 (lw_Z below #[Value.ref b] s) (entryFrame m ([Value.ref b] : List Value).toArray 7) := by
  obtain ⟨hx, hb, hr, hml, hown, hts, hX, hbl, hlocks, hgv⟩ := id C0
  obtain ⟨G, g1, g2, hK⟩ := kk_start (b := b) hts (flat_of_before _ hgv)
  obtain ⟨out, ho, hs⟩ := law_all (L := L) (xs := xs) hL
  rw [lg_entry_eq]
  have hW : WLd G HP0 0 s.heap := ⟨fun k q h => by simp [wl] at h, by decide, by decide, fun _ => by rw [g1]; rfl⟩
  have hlh := lh_more (lh_entry (G := G) (args := [.ref 2000]) (n := 7) (by decide)) 6
  have e9 : [Value.ref 2000].map (tr G) = [Value.ref b] := by
    show [tr G (.ref 2000)] = _
    rw [tr_hi (by decide), g2]
  rw [e9] at hlh
  have hst : l.stackTraces = false := by
    unfold Launch.stackTraces
    rw [hflags]
    decide
  exact hs G p l e s m _ below meth c room_1 s.heap [] 0 0 _ _ ⟨hx, hb, hml, hown, fun w hw => hts w (List.mem_filter.mp hw).1, hr, hlocks, hH, hst, hK, by decide, by decide, fun q => (by cases q), fun _ => ⟨by rw [g2]; exact hX, by rw [g2]; exact hbl, g1⟩⟩ (Or.inr ⟨rfl, rfl, rfl, rfl, ⟨b, rfl⟩, rfl, ho⟩) va_S.rf hW hlh (by decide) (by decide)
