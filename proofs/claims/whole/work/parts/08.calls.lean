/-! THE LAYER, 5: calls, answers, throws -/
/-- an instance method called by its name: what the tables say of it -/
def LV (own idx na : Nat) (y : MethodName) (M : MI) : Prop := Cond.methodLink (cn own) idx y ∈ TB ∧ Cond.instanceMethod y ∈ TB ∧ Cond.selects y.cls y y ∈ TB ∧ Cond.initialized y.cls ∈ TB ∧ Cond.code y M.2.1 M.2.2.1 M.2.2.2.1 ∈ TB ∧ (y.cls ≠ "java/lang/invoke/MethodHandle" ∧ y.cls ≠ "java/lang/invoke/VarHandle" ∧ (parseMethodDescriptor y.desc).map (fun d => d.parameters.length) = some na) ∧ M.2.2.1 ≤ 40 ∧ M.2.2.2.2.1 = []
def LSt (own idx na : Nat) (y : MethodName) (M : MI) : Prop := Cond.methodLink (cn own) idx y ∈ TB ∧ Cond.static y ∈ TB ∧ Cond.initialized y.cls ∈ TB ∧ Cond.code y M.2.1 M.2.2.1 M.2.2.2.1 ∈ TB ∧ (y.cls ≠ "java/lang/invoke/MethodHandle" ∧ y.cls ≠ "java/lang/invoke/VarHandle" ∧ (parseMethodDescriptor y.desc).map (fun d => d.parameters.length) = some na) ∧ M.2.2.1 ≤ 40 ∧ M.2.2.2.2.1 = []
def LSW (own idx na : Nat) (y : MethodName) (M : MI) (h0 : Nat × Nat × Nat × Nat) (hh : List (Nat × Nat × Nat × Nat)) : Prop := Cond.methodLink (cn own) idx y ∈ TB ∧ Cond.static y ∈ TB ∧ Cond.initialized y.cls ∈ TB ∧ Cond.codeWith y M.2.1 M.2.2.1 M.2.2.2.1 (h0 :: hh) ∈ TB ∧ (y.cls ≠ "java/lang/invoke/MethodHandle" ∧ y.cls ≠ "java/lang/invoke/VarHandle" ∧ (parseMethodDescriptor y.desc).map (fun d => d.parameters.length) = some na) ∧ M.2.2.1 ≤ 40 ∧ M.2.2.2.2.1 = h0 :: hh
/-- a constructor -/
def LI (own idx na : Nat) (y : MethodName) (M : MI) : Prop := (Cond.methodLink (cn own) idx y ∈ TB ∨ ∃ host, (cn own, idx, y, host) ∈ nmL) ∧ Cond.instanceMethod y ∈ TB ∧ Cond.initialized y.cls ∈ TB ∧ Cond.code y M.2.1 M.2.2.1 none ∈ TB ∧ (y.cls ≠ "java/lang/invoke/MethodHandle" ∧ y.cls ≠ "java/lang/invoke/VarHandle" ∧ (parseMethodDescriptor y.desc).map (fun d => d.parameters.length) = some na) ∧ M.2.2.1 ≤ 40 ∧ M.2.2.2.2.1 = [] ∧ M.2.2.2.1 = none ∧ y.name = "<init>"
theorem MW_0 {y : MethodName} {M : MI} (h : M.2.2.2.2.1 = []) : MW y M = Cond.code y M.2.1 M.2.2.1 M.2.2.2.1 :: TB := by unfold MW; rw [h]
theorem MW_1 {y : MethodName} {M : MI} {h0 : Nat × Nat × Nat × Nat} {hh : List (Nat × Nat × Nat × Nat)} (h : M.2.2.2.2.1 = h0 :: hh) : MW y M = Cond.codeWith y M.2.1 M.2.2.1 M.2.2.2.1 (h0 :: hh) :: TB := by unfold MW; rw [h]
theorem tb_cons {w : Cond} {ws : List Cond} (h : w ∈ TB) (hs : GoodIn TB ws) : GoodIn TB (w :: ws) := fun x hx => (List.mem_cons.mp hx).elim (fun e => by rw [e]; exact tb_good w h) (hs x)
section R4
variable {p : Program} {l : Launch} {e : Env} {R : Room} {s : State} {m : MethodId} {args : Array Value} {below : List Frame} {meth : Method} {c : Code} {H : Heap} {locs : List Loc} {cells slots mc ms : Nat} {Q : State → Prop} {G : GG} {lsA : Array Slot} {st0 rest : List Value} {a : Array Value} {E2 : HP} {n2 pc : Nat}
theorem run_ret {v : Option Value} (hrun : vx_Run p l e R s m args below meth c H locs cells slots mc ms (F0 m pc lsA st0) rest (QC G (.inl v, E2, n2) a) (XC G (.inl v, E2, n2)) (fA G)) (hS : va_S (fA G) s.heap H locs)
    (kk : ∀ (H1 : Heap) (locs1 : List Loc), va_S (fA G) s.heap H1 locs1 → WLd G E2 n2 H1 → W p l e R s m args below meth c H1 locs1 (cells + mc) (slots + ms) Q (F0 m (pc + 3) lsA ((v.map (tr G)).toList ++ rest))) : W p l e R s m args below meth c H locs cells slots Q (F0 m pc lsA st0) := by
  intro T hT X
  rcases hrun T hT X with ⟨v', st₀, t, T', L, h0, X', hL, e1, e2, ⟨w, E3, n3, ho, hr, hW, hF⟩, st⟩ | ⟨q, st₀, t, T', L, E, ce, h0, X', hL, e1, e2, ⟨E3, n3, ho, hW, hF⟩, hce, hcv, hcl, st⟩
  · cases ho
    cases hr
    obtain ⟨k1, k2, k3⟩ := vx_keep h0 e1 hS (fun _ _ h => h) (fun _ h => h) hL hF
    obtain ⟨t2, a1, b1⟩ := kk T'.heap (locs ++ L) k3 (by rw [e1]; exact hW) T' rfl X'
    exact ⟨t2, st t2 a1, b1⟩
  · cases ho
theorem run_thr {Y : String} (hrun : vx_Run p l e R s m args below meth c H locs cells slots mc ms (F0 m pc lsA st0) rest (QC G (.inr Y, E2, n2) a) (XC G (.inr Y, E2, n2)) (fA G)) (hS : va_S (fA G) s.heap H locs)
    (kx : ∀ (H1 : Heap) (locs1 : List Loc) (q : Addr) (ce : Cell), va_S (fA G) s.heap H1 locs1 → WLd G E2 n2 H1 → H1[q]? = some ce → ce.vm = .none → s.vm.findClass Y = some ce.cls → vx_W p l e R s m args below meth c H1 locs1 (cells + mc) (slots + ms) Q (F0 m pc lsA rest) q) : W p l e R s m args below meth c H locs cells slots Q (F0 m pc lsA st0) := by
  intro T hT X
  rcases hrun T hT X with ⟨v', st₀, t, T', L, h0, X', hL, e1, e2, ⟨w, E3, n3, ho, hr, hW, hF⟩, st⟩ | ⟨q, st₀, t, T', L, E, ce, h0, X', hL, e1, e2, ⟨E3, n3, ho, hW, hF⟩, hce, hcv, hcl, st⟩
  · cases ho
  · cases ho
    obtain ⟨k1, k2, k3⟩ := vx_keep h0 e1 hS (fun _ _ h => h) (fun _ h => h) hL hF
    obtain ⟨t2, a1, b1⟩ := kx T'.heap (locs ++ L) q ce k3 (by rw [e1]; exact hW) (by rw [e1]; exact hce) hcv hcl T' rfl X'
    exact ⟨t2, st.trans a1, b1⟩
/-- constructors: the kit's runs, their answer as vx_Run has it -/
theorem run_of_va {Qa : State → Outcome → State → Prop} {Y : String → State → State → Prop} {g : JFrame} {free : Addr → Prop} (h : va_Run p l e R s m args below meth c H locs cells slots mc ms g rest Qa free) : vx_Run p l e R s m args below meth c H locs cells slots mc ms g rest Qa Y free := fun T hT X => Or.inl (h T hT X)
end R4
section R5
variable {M M2 : MI} {d bc bs bc2 bs2 n pc : Nat} {out out2 : OUT} {ls : List (Option Value)} {st rest : List Value} {E : HP} {y : MethodName}
theorem cx_fix {G : GG} {p : Program} {l : Launch} {s : State} {m : MethodId} {args : Array Value} {meth : Method} {c : Code} {R : Room} (C : Cx G M d p l s m args meth c R) : CallFix p m c M.2.1 M.2.2.1 s args TB (cn M.1) := ⟨C.1, C.2.1, C.2.2.1, C.2.2.2.1, C.2.2.2.2.1⟩
set_option maxRecDepth 10000 in
theorem rm_fit {G : GG} {p : Program} {l : Launch} {s : State} {m : MethodId} {args : Array Value} {meth : Method} {c : Code} {R : Room} (C : Cx G M (d + 1) p l s m args meth c R) {k : Nat} (hk : k ≤ 40) : (rmO d bc2 bs2).frames + 1 ≤ R.frames ∧ 8 + (k + 11) + (rmO d bc2 bs2).locals ≤ R.locals := by
  have h1 := C.2.2.2.2.2.2.2.2.2.2.1
  have h2 := C.2.2.2.2.2.2.2.2.2.2.2.1
  unfold frR at h1
  unfold loR at h2
  refine ⟨?_, ?_⟩
  · show 2 * d + 16 + 1 ≤ R.frames; omega
  · show 8 + (k + 11) + (64 * d + 400) ≤ R.locals; omega
theorem pc_pre {G : GG} {s : State} {H : Heap} {locs : List Loc} {as : List Value} (hK : KK G s) (hS : va_S (fA G) s.heap H locs) (hW : WLd G E n H) : PreS s H (PC G as E n) (as.map (tr G)) := ⟨PC_blind, fun U hU hW' => ⟨rfl, by rw [hU]; exact hW, KK_go hK hS hU hW'⟩⟩
theorem run_V {G : GG} {p : Program} {l : Launch} {e : Env} {s : State} {m : MethodId} {args : Array Value} {below : List Frame} {meth : Method} {c : Code} {R : Room} {H : Heap} {locs : List Loc} {cells slots : Nat} {lsA : Array Slot} {idx na b ci l9 : Nat} {as : List Value} (C : Cx G M (d + 1) p l s m args meth c R) (hS : va_S (fA G) s.heap H locs) (hW : WLd G E n H) (hl : lh G lsA M.2.2.1 ls)
    (hd : decode M.2.1 pc = .ok (.invokevirtual idx, 3)) (lk : LV M.1 idx na y M2) (hc : Cl y M2 d bc2 bs2 (.ref b :: as) E n out2) (hst : st = as.reverse ++ .ref b :: rest) (hna : as.length = na) (hb : sh b = (ci, l9)) (hci : ci < 13) (hcn : cn ci = y.cls) (hbn : b < n) (hr : (rest.map fun v => v.category).sum ≤ 8) (h1 : cells + bc2 ≤ R.cells) (h2 : slots + bs2 ≤ R.slots) :
    vx_Run p l e R s m args below meth c H locs cells slots bc2 bs2 (F0 m pc lsA (st.map (tr G))) (rest.map (tr G)) (QC G out2 (Value.ref (ad G b) :: as.map (tr G)).toArray) (XC G out2) (fA G) := by
  obtain ⟨w1, w2, w3, w4, w5, w6, w7, w8⟩ := lk
  have hg : GoodIn TB (wsV (cn M.1) idx y.cls y (MW y M2)) := by
    rw [MW_0 w8]
    exact tb_cons w1 (tb_cons w2 (tb_cons w3 (tb_cons w4 (tb_cons w5 tb_good))))
  obtain ⟨cell, g1, g2, g3⟩ := va_recv C.2.2.2.2.2.2.2.2.2.1.2.1 hW.1 (cl_cl ci hci) (q0 := b) (by rw [wl_get hbn, ent_obj hb hci])
  refine vx_runV (C := y.cls) (As := as.map (tr G)) (n := na) (cx_fix C) (hc l G C.2.2.2.2.2.2.2.2.1) (cwV na C.2.2.2.2.1 hg (MW_0 w8) rfl rfl ⟨rfl, w6⟩ (rm_fit C w7)) ⟨PC_blind, ⟨cell, g1, g2, by rw [← hcn]; exact g3⟩, fun U hU hW' => ⟨rfl, by rw [hU]; exact hW, KK_go C.2.2.2.2.2.2.2.2.2.1 hS hU hW'⟩⟩ rfl (by rw [List.length_map]; exact hna) hl.1 ?_ (lv_room (by rw [tr_sum]; exact hr)) hd ⟨h1, h2⟩
  show st.map (tr G) = (as.map (tr G)).reverse ++ .ref (ad G b) :: rest.map (tr G)
  rw [hst, List.map_append, List.map_reverse]
  rfl
theorem r_callV {idx na b ci l9 n2 : Nat} {as : List Value} {v : Option Value} {E2 : HP} (pc2 : Nat) (hd : decode M.2.1 pc = .ok (.invokevirtual idx, 3)) (hp : pc + 3 = pc2) (lk : LV M.1 idx na y M2) (hc : Cl y M2 d bc2 bs2 (.ref b :: as) E n (.inl v, E2, n2)) (hst : st = as.reverse ++ .ref b :: rest) (hna : as.length = na) (hb : sh b = (ci, l9)) (hci : ci < 13) (hcn : cn ci = y.cls) (hbn : b < n) (hr : (rest.map fun v => v.category).sum ≤ 8)
    (kk : Sm M (d + 1) bc bs out pc2 ls (v.toList ++ rest) E2 n2) : Sm M (d + 1) (bc + bc2) (bs + bs2) out pc ls st E n := by
  subst hp
  intro G p l e s m args below meth c R H locs cells slots lsA Q C F hS hW hl h1 h2
  refine run_ret (run_V C hS hW hl hd lk hc hst hna hb hci hcn hbn hr (by omega) (by omega)) hS fun H1 locs1 hS1 hW1 => ?_
  have := kk G p l e s m args below meth c R H1 locs1 (cells + bc2) (slots + bs2) lsA Q C F hS1 hW1 hl (by omega) (by omega)
  rw [List.map_append] at this
  cases v <;> exact this
/-- what it calls throws, and it lets that out -/
theorem r_callVX {idx na b ci l9 n2 : Nat} {as : List Value} {Y : String} {E2 : HP} (hd : decode M.2.1 pc = .ok (.invokevirtual idx, 3)) (lk : LV M.1 idx na y M2) (hc : Cl y M2 d bc bs (.ref b :: as) E n (.inr Y, E2, n2)) (hst : st = as.reverse ++ .ref b :: rest) (hna : as.length = na) (hb : sh b = (ci, l9)) (hci : ci < 13) (hcn : cn ci = y.cls) (hbn : b < n) (hr : (rest.map fun v => v.category).sum ≤ 8) (hh : M.2.2.2.2.1 = []) (hlaw : M.2.2.2.2.2.2.1 = false) (ho : out = (.inr Y, E2, n2)) : Sm M (d + 1) bc bs out pc ls st E n := by
  subst ho
  intro G p l e s m args below meth c R H locs cells slots lsA Q C F hS hW hl h1 h2
  rcases F with F | ⟨F, -⟩
  · subst F
    refine run_thr (run_V C hS hW hl hd lk hc hst hna hb hci hcn hbn hr h1 h2) hS fun H1 locs1 q ce hS1 hW1 k1 k2 k3 => ?_
    refine vx_out (fun x hx => ?_) C.2.2.2.2.2.2.1 k1 k2 k3 (fun t ht hA => ⟨E2, n2, rfl, by rw [ht]; exact hW1, hS1.F ht⟩) hS1.2.2 h1 h2
    rw [C.2.2.2.2.2.2.2.1, hh] at hx
    cases hx
  · rw [hlaw] at F; cases F
theorem run_S {G : GG} {p : Program} {l : Launch} {e : Env} {s : State} {m : MethodId} {args : Array Value} {below : List Frame} {meth : Method} {c : Code} {R : Room} {H : Heap} {locs : List Loc} {cells slots : Nat} {lsA : Array Slot} {idx na : Nat} {as : List Value} (C : Cx G M (d + 1) p l s m args meth c R) (hS : va_S (fA G) s.heap H locs) (hW : WLd G E n H) (hl : lh G lsA M.2.2.1 ls)
    (hd : decode M.2.1 pc = .ok (.invokestatic idx, 3)) (lk : LSt M.1 idx na y M2) (hc : Cl y M2 d bc2 bs2 as E n out2) (hst : st = as.reverse ++ rest) (hna : as.length = na) (hr : (rest.map fun v => v.category).sum ≤ 8) (h1 : cells + bc2 ≤ R.cells) (h2 : slots + bs2 ≤ R.slots) :
    vx_Run p l e R s m args below meth c H locs cells slots bc2 bs2 (F0 m pc lsA (st.map (tr G))) (rest.map (tr G)) (QC G out2 (as.map (tr G)).toArray) (XC G out2) (fA G) := by
  obtain ⟨w1, w2, w4, w5, w6, w7, w8⟩ := lk
  have hg : GoodIn TB (va_wsS (cn M.1) idx y (MW y M2)) := by
    rw [MW_0 w8]
    exact tb_cons w1 (tb_cons w2 (tb_cons w4 (tb_cons w5 tb_good)))
  refine vx_runS (As := as.map (tr G)) (n := na) (cx_fix C) (hc l G C.2.2.2.2.2.2.2.2.1) (va_cwS na C.2.2.2.2.1 hg (MW_0 w8) rfl rfl w6 (rm_fit C w7)) (pc_pre C.2.2.2.2.2.2.2.2.2.1 hS hW) rfl (by rw [List.length_map]; exact hna) hl.1 ?_ (lv_room (by rw [tr_sum]; exact hr)) hd ⟨h1, h2⟩
  show st.map (tr G) = (as.map (tr G)).reverse ++ rest.map (tr G)
  rw [hst, List.map_append, List.map_reverse]
theorem r_callS {idx na n2 : Nat} {as : List Value} {v : Option Value} {E2 : HP} (pc2 : Nat) (hd : decode M.2.1 pc = .ok (.invokestatic idx, 3)) (hp : pc + 3 = pc2) (lk : LSt M.1 idx na y M2) (hc : Cl y M2 d bc2 bs2 as E n (.inl v, E2, n2)) (hst : st = as.reverse ++ rest) (hna : as.length = na) (hr : (rest.map fun v => v.category).sum ≤ 8)
    (kk : Sm M (d + 1) bc bs out pc2 ls (v.toList ++ rest) E2 n2) : Sm M (d + 1) (bc + bc2) (bs + bs2) out pc ls st E n := by
  subst hp
  intro G p l e s m args below meth c R H locs cells slots lsA Q C F hS hW hl h1 h2
  refine run_ret (run_S C hS hW hl hd lk hc hst hna hr (by omega) (by omega)) hS fun H1 locs1 hS1 hW1 => ?_
  have := kk G p l e s m args below meth c R H1 locs1 (cells + bc2) (slots + bs2) lsA Q C F hS1 hW1 hl (by omega) (by omega)
  rw [List.map_append] at this
  cases v <;> exact this
/-- a static method with handlers of its own -/
theorem r_callSW {idx na n2 : Nat} {as : List Value} {v : Option Value} {E2 : HP} {h0 : Nat × Nat × Nat × Nat} {hh : List (Nat × Nat × Nat × Nat)} (pc2 : Nat) (hd : decode M.2.1 pc = .ok (.invokestatic idx, 3)) (hp : pc + 3 = pc2) (lk : LSW M.1 idx na y M2 h0 hh) (hc : Cl y M2 d bc2 bs2 as E n (.inl v, E2, n2)) (hst : st = as.reverse ++ rest) (hna : as.length = na) (hr : (rest.map fun v => v.category).sum ≤ 8)
    (kk : Sm M (d + 1) bc bs out pc2 ls (v.toList ++ rest) E2 n2) : Sm M (d + 1) (bc + bc2) (bs + bs2) out pc ls st E n := by
  subst hp
  intro G p l e s m args below meth c R H locs cells slots lsA Q C F hS hW hl h1 h2
  obtain ⟨w1, w2, w4, w5, w6, w7, w8⟩ := lk
  have hg : GoodIn TB (va_wsS (cn M.1) idx y (MW y M2)) := by
    rw [MW_1 w8]
    exact tb_cons w1 (tb_cons w2 (tb_cons w4 (tb_cons w5 tb_good)))
  have hst2 : (F0 m pc lsA (st.map (tr G))).stack = (as.map (tr G)).reverse ++ rest.map (tr G) := by
    show st.map (tr G) = (as.map (tr G)).reverse ++ rest.map (tr G)
    rw [hst, List.map_append, List.map_reverse]
  refine run_ret (vx_runSX (As := as.map (tr G)) (n := na) (cx_fix C) (hc l G C.2.2.2.2.2.2.2.2.1) (vx_cwSW na C.2.2.2.2.1 hg (MW_1 w8) rfl rfl w6 (rm_fit C w7)) (pc_pre C.2.2.2.2.2.2.2.2.2.1 hS hW) rfl (by rw [List.length_map]; exact hna) hl.1 hst2 (lv_room (by rw [tr_sum]; exact hr)) hd ⟨by omega, by omega⟩) hS fun H1 locs1 hS1 hW1 => ?_
  have := kk G p l e s m args below meth c R H1 locs1 (cells + bc2) (slots + bs2) lsA Q C F hS1 hW1 hl (by omega) (by omega)
  rw [List.map_append] at this
  cases v <;> exact this
theorem cl_met {l : Launch} {G : GG} {v : Option Value} {E2 : HP} {n2 : Nat} {as : List Value} (h : vx_Met l y (MW y M2) (rmO d bc2 bs2) (PC G as E n) (QC G (.inl v, E2, n2)) (XC G (.inl v, E2, n2)) bc2 bs2 (fA G)) : Met l y (MW y M2) (rmO d bc2 bs2) (PC G as E n) (QC G (.inl v, E2, n2)) bc2 bs2 (fA G) := by
  refine MetFree.mono h (fun _ _ h => h) (fun _ _ _ _ _ h => h) ?_
  intro a st o t hP hq
  rcases hq with hq | ⟨q, -, E3, ce, L, ⟨E4, n4, ho, -⟩, -⟩
  · exact hq
  · cases ho
/-- a constructor called -/
theorem r_callI {idx na b n2 : Nat} {as : List Value} {E2 : HP} (pc2 : Nat) (hd : decode M.2.1 pc = .ok (.invokespecial idx, 3)) (hp : pc + 3 = pc2) (lk : LI M.1 idx na y M2) (hc : Cl y M2 d bc2 bs2 (.ref b :: as) E n (.inl none, E2, n2)) (hst : st = as.reverse ++ .ref b :: rest) (hna : as.length = na) (hr : (rest.map fun v => v.category).sum ≤ 8)
    (kk : Sm M (d + 1) bc bs out pc2 ls rest E2 n2) : Sm M (d + 1) (bc + bc2) (bs + bs2) out pc ls st E n := by
  subst hp
  intro G p l e s m args below meth c R H locs cells slots lsA Q C F hS hW hl h1 h2
  obtain ⟨w1, w2, w4, w5, w6, w7, w8, w9, w10⟩ := lk
  have hw0 : MW y M2 = Cond.code y M2.2.1 M2.2.2.1 none :: TB := by rw [MW_0 w8, w9]
  have hg : GoodIn TB (MW y M2) := by
    rw [hw0]
    exact tb_cons w5 tb_good
  have hst2 : (F0 m pc lsA (st.map (tr G))).stack = (as.map (tr G)).reverse ++ .ref (ad G b) :: rest.map (tr G) := by
    show st.map (tr G) = (as.map (tr G)).reverse ++ .ref (ad G b) :: rest.map (tr G)
    rw [hst, List.map_append, List.map_reverse]
    rfl
  have hM := cl_met (hc l G C.2.2.2.2.2.2.2.2.1)
  have hpre : PreS s H (PC G (.ref b :: as) E n) (.ref (ad G b) :: as.map (tr G)) := pc_pre C.2.2.2.2.2.2.2.2.2.1 hS hW
  have fin : vx_Run p l e R s m args below meth c H locs cells slots bc2 bs2 (F0 m pc lsA (st.map (tr G))) (rest.map (tr G)) (QC G (.inl none, E2, n2) (Value.ref (ad G b) :: as.map (tr G)).toArray) (XC G (.inl none, E2, n2)) (fA G) := by
    rcases w1 with w1 | ⟨host, w1⟩
    · exact run_of_va (va_runI (As := as.map (tr G)) (n := na) (cx_fix C) hM (cwI na C.2.2.2.2.1 hg hw0 rfl rfl (C.2.2.2.2.1 _ w4) (C.2.2.2.2.1 _ w1) (C.2.2.2.2.1 _ w2) w10 w6 (rm_fit C w7)) hpre rfl (by rw [List.length_map]; exact hna) hl.1 hst2 (lv_room (by rw [tr_sum]; exact hr)) hd ⟨by omega, by omega⟩)
    · exact run_of_va (va_runIN (As := as.map (tr G)) (n := na) (cx_fix C) hM ⟨va_cnB (host := host) na C.2.2.2.2.1 hg hw0 rfl rfl (C.2.2.2.2.2.2.2.2.2.1.2.2.2.1 _ w1) (C.2.2.2.2.1 _ w4) w6 (rm_fit C w7), w10, C.2.2.2.2.1 _ w2⟩ hpre rfl (by rw [List.length_map]; exact hna) hl.1 hst2 (lv_room (by rw [tr_sum]; exact hr)) hd ⟨by omega, by omega⟩)
  refine run_ret fin hS fun H1 locs1 hS1 hW1 => ?_
  exact kk G p l e s m args below meth c R H1 locs1 (cells + bc2) (slots + bs2) lsA Q C F hS1 hW1 hl (by omega) (by omega)
theorem r_objInit {idx a : Nat} (pc2 : Nat) (hd : decode M.2.1 pc = .ok (.invokespecial idx, 3)) (hp : pc + 3 = pc2) (w1 : Cond.methodLink (cn M.1) idx objectInit ∈ TB) (w2 : Cond.instanceMethod objectInit ∈ TB) (w3 : Cond.code objectInit ⟨#[0xb1]⟩ 1 none ∈ TB) (hr : (st.map fun v => v.category).sum ≤ 8) (kk : Sm M d bc bs out pc2 ls st E n) : Sm M d bc bs out pc ls (.ref a :: st) E n := by
  subst hp
  intro G p l e s m args below meth c R H locs cells slots lsA Q C F hS hW hl h1 h2
  have q1 := C.2.2.2.2.2.2.2.2.2.2.1
  have q2 := C.2.2.2.2.2.2.2.2.2.2.2.1
  unfold frR at q1
  unfold loR at q2
  refine W.objInit C.1 C.2.1 C.2.2.2.1 (C.2.2.2.2.1 _ w1) (C.2.2.2.2.1 _ w2) (C.2.2.2.2.1 _ w3) rfl (by rw [C.2.2.1]; exact hl.1) rfl hd (by omega) ?_ (kk G p l e s m args below meth c R H locs cells slots lsA Q C F hS hW hl h1 h2)
  show 2 * 0 + ((st.map (tr G)).map fun v => v.category).sum + 12 ≤ _
  rw [tr_sum]
  omega
/-- Math.max, min, abs of ints -/
def LM (own idx : Nat) (y : MethodName) (bytes : ByteArray) (nl : Nat) : Prop := Cond.methodLink (cn own) idx y ∈ TB ∧ Cond.static y ∈ TB ∧ Cond.initialized "java/lang/Math" ∈ TB ∧ Cond.code y bytes nl (some .int) ∈ TB
theorem r_max {idx : Nat} {x z : Int32} (pc2 : Nat) (hd : decode M.2.1 pc = .ok (.invokestatic idx, 3)) (hp : pc + 3 = pc2) (lm : LM M.1 idx Lib.Math.max.name Lib.Math.max.code 2) (hr : (st.map fun v => v.category).sum ≤ 8) (kk : Sm M d bc bs out pc2 ls (.int (if x < z then z else x) :: st) E n) : Sm M d bc bs out pc ls (.int z :: .int x :: st) E n := by
  subst hp
  intro G p l e s m args below meth c R H locs cells slots lsA Q C F hS hW hl h1 h2
  have q1 := C.2.2.2.2.2.2.2.2.2.2.1
  have q2 := C.2.2.2.2.2.2.2.2.2.2.2.1
  unfold frR at q1
  unfold loR at q2
  exact va_mmax C.1 C.2.1 (by rw [C.2.2.1]; exact hl.1.symm) C.2.2.2.1 (C.2.2.2.2.1 _ lm.1) (C.2.2.2.2.1 _ lm.2.1) (C.2.2.2.2.1 _ lm.2.2.1) (C.2.2.2.2.1 _ lm.2.2.2) (by omega) (by rw [tr_sum]; omega) (by omega) (by omega) hd (kk G p l e s m args below meth c R H locs cells slots lsA Q C F hS hW hl h1 h2)
theorem r_min {idx : Nat} {x z : Int32} (pc2 : Nat) (hd : decode M.2.1 pc = .ok (.invokestatic idx, 3)) (hp : pc + 3 = pc2) (lm : LM M.1 idx Lib.Math.min.name Lib.Math.min.code 2) (hr : (st.map fun v => v.category).sum ≤ 8) (kk : Sm M d bc bs out pc2 ls (.int (if z < x then z else x) :: st) E n) : Sm M d bc bs out pc ls (.int z :: .int x :: st) E n := by
  subst hp
  intro G p l e s m args below meth c R H locs cells slots lsA Q C F hS hW hl h1 h2
  have q1 := C.2.2.2.2.2.2.2.2.2.2.1
  have q2 := C.2.2.2.2.2.2.2.2.2.2.2.1
  unfold frR at q1
  unfold loR at q2
  exact va_mmin C.1 C.2.1 (by rw [C.2.2.1]; exact hl.1.symm) C.2.2.2.1 (C.2.2.2.2.1 _ lm.1) (C.2.2.2.2.1 _ lm.2.1) (C.2.2.2.2.1 _ lm.2.2.1) (C.2.2.2.2.1 _ lm.2.2.2) (by omega) (by rw [tr_sum]; omega) (by omega) (by omega) hd (kk G p l e s m args below meth c R H locs cells slots lsA Q C F hS hW hl h1 h2)
theorem r_abs {idx : Nat} {x : Int32} (pc2 : Nat) (hd : decode M.2.1 pc = .ok (.invokestatic idx, 3)) (hp : pc + 3 = pc2) (lm : LM M.1 idx Lib.Math.abs.name Lib.Math.abs.code 1) (hr : (st.map fun v => v.category).sum ≤ 8) (kk : Sm M d bc bs out pc2 ls (.int (if 0 ≤ x then x else 0 - x) :: st) E n) : Sm M d bc bs out pc ls (.int x :: st) E n := by
  subst hp
  intro G p l e s m args below meth c R H locs cells slots lsA Q C F hS hW hl h1 h2
  have q1 := C.2.2.2.2.2.2.2.2.2.2.1
  have q2 := C.2.2.2.2.2.2.2.2.2.2.2.1
  unfold frR at q1
  unfold loR at q2
  exact va_mabs C.1 C.2.1 (by rw [C.2.2.1]; exact hl.1.symm) C.2.2.2.1 (C.2.2.2.2.1 _ lm.1) (C.2.2.2.2.1 _ lm.2.1) (C.2.2.2.2.1 _ lm.2.2.1) (C.2.2.2.2.1 _ lm.2.2.2) (by omega) (by rw [tr_sum]; omega) (by omega) (by omega) hd (kk G p l e s m args below meth c R H locs cells slots lsA Q C F hS hW hl h1 h2)
/-- answers -/
theorem r_iret {v : Int32} (hd : decode M.2.1 pc = .ok (.ireturn, 1)) (hrt : M.2.2.2.1 = some .int) (hlaw : M.2.2.2.2.2.2.1 = false) (ho : out = (.inl (some (.int v)), E, n)) : Sm M d bc bs out pc ls [.int v] E n := by
  subst ho
  intro G p l e s m args below meth c R H locs cells slots lsA Q C F hS hW hl h1 h2
  rcases F with F | ⟨F, -⟩
  · subst F
    refine W.widen (show cells ≤ R.cells by omega) (show slots ≤ R.slots by omega) (vx_ret ?_)
    exact W.iret C.1 C.2.1 (by rw [C.2.2.2.2.2.1, hrt]) (fun t ht hA => ⟨some (.int v), E, n, rfl, rfl, by rw [ht]; exact hW, hS.F ht⟩) hS.2.2 hd C.2.2.2.2.2.2.1
  · rw [hlaw] at F; cases F
theorem r_zret {v : Int32} (hd : decode M.2.1 pc = .ok (.ireturn, 1)) (hrt : M.2.2.2.1 = some .boolean) (hlaw : M.2.2.2.2.2.2.1 = false) (hv : v = 0 ∨ v = 1) (ho : out = (.inl (some (.int v)), E, n)) : Sm M d bc bs out pc ls [.int v] E n := by
  subst ho
  intro G p l e s m args below meth c R H locs cells slots lsA Q C F hS hW hl h1 h2
  rcases F with F | ⟨F, -⟩
  · subst F
    refine W.widen (show cells ≤ R.cells by omega) (show slots ≤ R.slots by omega) (vx_ret ?_)
    exact W.zret (ty := .boolean) C.1 C.2.1 (by rw [C.2.2.2.2.2.1, hrt]) (by rcases hv with rfl | rfl <;> rfl) (fun t ht hA => ⟨some (.int v), E, n, rfl, rfl, by rw [ht]; exact hW, hS.F ht⟩) hS.2.2 hd C.2.2.2.2.2.2.1
  · rw [hlaw] at F; cases F
theorem r_vret (hd : decode M.2.1 pc = .ok (.return_, 1)) (hrt : M.2.2.2.1 = none) (hlaw : M.2.2.2.2.2.2.1 = false) (ho : out = (.inl none, E, n)) : Sm M d bc bs out pc ls [] E n := by
  subst ho
  intro G p l e s m args below meth c R H locs cells slots lsA Q C F hS hW hl h1 h2
  rcases F with F | ⟨F, -⟩
  · subst F
    refine W.widen (show cells ≤ R.cells by omega) (show slots ≤ R.slots by omega) (vx_ret ?_)
    exact W.vret C.1 C.2.1 (by rw [C.2.2.2.2.2.1, hrt]) (fun t ht hA => ⟨none, E, n, rfl, rfl, by rw [ht]; exact hW, hS.F ht⟩) hS.2.2 hd C.2.2.2.2.2.2.1
  · rw [hlaw] at F; cases F
theorem r_aret {r : Nat} {nm : String} (hd : decode M.2.1 pc = .ok (.areturn, 1)) (hrt : M.2.2.2.1 = some (.object nm)) (hlaw : M.2.2.2.2.2.2.1 = false) (ho : out = (.inl (some (.ref r)), E, n)) : Sm M d bc bs out pc ls [.ref r] E n := by
  subst ho
  intro G p l e s m args below meth c R H locs cells slots lsA Q C F hS hW hl h1 h2
  rcases F with F | ⟨F, -⟩
  · subst F
    refine W.widen (show cells ≤ R.cells by omega) (show slots ≤ R.slots by omega) (vx_ret ?_)
    exact W.aret (v := .ref (ad G r)) C.1 C.2.1 (by rw [C.2.2.2.2.2.1, hrt]) (Or.inl ⟨nm, rfl⟩) (Or.inr ⟨_, rfl⟩) (fun t ht hA => ⟨some (.ref r), E, n, rfl, rfl, by rw [ht]; exact hW, hS.F ht⟩) hS.2.2 hd C.2.2.2.2.2.2.1
  · rw [hlaw] at F; cases F
/-- the law's own end, true -/
theorem r_law (hd : decode M.2.1 pc = .ok (.ireturn, 1)) (hlaw : M.2.2.2.2.2.2.1 = true) (ho : out = (.inl (some (.int 1)), E, n)) (h0 : ∀ (G : GG) (m : MethodId) (s : State) (args : Array Value) (below : List Frame) (R : Room) (Q : State → Prop), Fn G M s m args below R out Q → Q = lw_Z below args s ∧ M.2.1 = code ∧ M.2.2.2.1 = ret ∧ R = room_1 ∧ ∃ b, args = #[.ref b]) : Sm M d bc bs out pc ls [.int 1] E n := by
  intro G p l e s m args below meth c R H locs cells slots lsA Q C F hS hW hl h1 h2
  obtain ⟨rfl, hcode, hret, rfl, b, rfl⟩ := h0 G m s args below R Q F
  obtain ⟨x1, x2, x3⟩ := C.2.2.2.2.2.2.2.2.2.2.2.2.2 hlaw
  refine va_forget (fun q hq => by rw [← x3]; exact hS.2.2 q hq) ?_
  refine W.widen (k := 601024) (n := 7293034) (by have : room_1.cells = 601024 := rfl; omega) (by have : room_1.slots = 7293034 := rfl; omega) ?_
  rw [hcode] at hd
  exact lw_ret C.1 (by rw [C.2.1, hcode]) (by rw [C.2.2.2.2.2.1, hret]) C.2.2.2.2.2.2.1 hd
end R5
