/-! THE LAYER, 4: fields, arrays, new things. The stores of the kit once more, with the heap's size told. -/
section R2
variable {p : Program} {l : Launch} {e : Env} {R : Room} {s : State} {m : MethodId} {args : Array Value} {below : List Frame} {meth : Method} {c : Code} {H : Heap} {locs : List Loc} {cells slots : Nat} {Q : State → Prop}
variable {cc : ByteArray} {pc : Nat} {ls : Array Slot} {rest : List Value} {D : va_G} {cl : List vw_C} {A : Nat → Prop} {a : Nat} {tys : List (ClassId × FieldType)} {ws : va_W} {H0 : Heap}
theorem w_put (hexec : p.tables.exec = Jvm.exec) (hb : c.code = cc) {own C : String} {T : u_T} {N ci index : Nat} {Ts : List Cond} (hts : ∀ w ∈ Ts, w.before args s = true) (hin : ∀ w ∈ u_ws C T N, w ∈ Ts) (ty0 : Nat → FieldType) (hty : ∀ k, k < N → parseFieldDescriptor (T k).2.2.1 = some (ty0 k)) (hnm : ∀ a, a < N → ∀ b, b < N → a ≠ b → (T a).2.1 ≠ (T b).2.1) (hown : s.vm.findClass own = some m.cls) (hK : va_K D cl tys s) (hP : va_P D cl ws H) (hD : va_D A ws) (hS0 : va_S A H0 H locs) (q0 : Nat) {fs : List Value} (he : ws[q0]? = some (a, .inr (ci, fs))) (hc : cl[ci]? = some (C, T, N)) (k : Nat) (hk : k < N)
    (hlink : ((Cond.fieldLink own index (T k).1 (T k).2.1 (T k).2.2.1).before args s = true ∧ ((T k).2.2.2 = false ∨ ((T k).2.2.2 = true ∧ meth.name = "<init>" ∧ (T k).1 = own))) ∨ (∃ host, (Cond.fieldLinkNest own index (T k).1 (T k).2.1 (T k).2.2.1 host).before args s = true ∧ (T k).2.2.2 = false))
    {v : Value} (hn : narrow (ty0 k) v = v) (hfit : fits (ty0 k) v = true) (hl : k < fs.length)
    (hdg : decode cc pc = .ok (.putfield index, 3)) (kk : ∀ (H1 : Heap) (locs1 : List Loc), va_P D cl (ws.set q0 (a, .inr (ci, fs.set k v))) H1 → va_S A H0 H1 locs1 → H1.size = H.size → W p l e R s m args below meth c H1 locs1 cells slots Q (F0 m (pc + 3) ls rest)) : W p l e R s m args below meth c H locs cells slots Q (F0 m pc ls (v :: .ref a :: rest)) := by
  have hd := hty k hk
  have hap := va_apart (own := own) hts hin ty0 hty hnm hK hc
  obtain ⟨r, h1, cell, q1, q2, q3, q4⟩ := hP q0 _ he
  have hr : r = (C, T, N) := Option.some.inj (h1.symm.trans hc)
  subst hr
  obtain ⟨hS, hfc, kC, hkC, hkind⟩ := hK.1 ci _ hc
  obtain ⟨cf, kf, fi, f, hi, hsl⟩ := hS k hk
  have hlay := hts _ (hin _ (u_in_lay hk))
  unfold u_lay at hlay
  have hst := (u_facts hfc hkC (u_lays hts hin hk) hi).1
  have fin : ∀ H' : Heap, H'[a]? = some (cell.setSlot f.slot v) → H'.size = H.size → (∀ q, q ≠ a → H'[q]? = H[q]?) → W p l e R s m args below meth c H' (locs ++ [⟨a, f.slot⟩]) cells slots Q (F0 m (pc + 3) ls rest) := by
    intro H' e1 e2 e3
    rw [hsl] at e1 ⊢
    exact kk H' _ (hP.set hD he ⟨_, hc, t_OB.to (V := updV (vp_V fs) k v) ⟨_, e1, q2, q3, t_set q4 hap hk v⟩ (fun j _ => vp_updV_set hl v j)⟩ e3) (hS0.put e2 e3 (hD.2 q0 _ he)) e2
  rcases hlink with ⟨hlink, hfin | ⟨hfin, hin2, hdecl⟩⟩ | ⟨host, hlink, hfin⟩
  · rw [if_neg (by rw [hfin]; decide)] at hlay
    have h6 := u_store hfc hkC hkind hlay hi hd hn hfit
    exact W.putK hexec hb (f := f) ⟨hown, hlink, ⟨_, _, _, hi⟩, hst⟩ (by rw [q2]; exact h6) q1 q3 (by rw [hsl]; exact k2_hasslot (q4 k hk)) rfl rfl hdg fin
  · rw [if_pos hfin] at hlay
    have hcf : m.cls = cf := by
      obtain ⟨_, _, c', _, _, _, -, -, hf', -, -, -, hown2, -⟩ := Cond.laysFinal_spec hlay
      have e1 : c' = cf := by have := hi.symm.trans hf'; simp at this; exact this.1.symm
      rw [hdecl] at hown2
      rw [← e1]; exact Option.some.inj (hown.symm.trans hown2)
    have h6 := u_fits hfc hkC hkind (Or.inr hlay) hi hd hn hfit
    exact W.putFinK hexec hb hown hlink hi hst hcf hin2 (by rw [q2]; exact h6) q1 q3 (by rw [hsl]; exact k2_hasslot (q4 k hk)) rfl rfl hdg fin
  · rw [if_neg (by rw [hfin]; decide)] at hlay
    have h6 := u_store hfc hkC hkind hlay hi hd hn hfit
    exact va_WputK hexec hb (f := f) hown hlink hi hst (by rw [q2]; exact h6) q1 q3 (by rw [hsl]; exact k2_hasslot (q4 k hk)) rfl rfl hdg fin
theorem w_iast (hexec : p.tables.exec = Jvm.exec) (hb : c.code = cc) (hK : va_K D cl tys s) (hP : va_P D cl ws H) (hD : va_D A ws) (hS : va_S A H0 H locs) (q0 t0 : Nat) {cA : ClassId} {n : Nat} {f : Nat → Int32} (ha : ws[q0]? = some (a, .inl (cA, n, .inl f))) (ht : tys[t0]? = some (cA, .int)) {i : Int32} {x : Int32} (hin : vp_in i n) (hdg : decode cc pc = .ok (.iastore, 1))
    (kk : ∀ (H1 : Heap) (locs1 : List Loc), va_P D cl (ws.set q0 (a, .inl (cA, n, .inl (upd f i.toNatClampNeg x)))) H1 → va_S A H0 H1 locs1 → H1.size = H.size → W p l e R s m args below meth c H1 locs1 cells slots Q (F0 m (pc + 1) ls rest)) : W p l e R s m args below meth c H locs cells slots Q (F0 m pc ls (.int x :: .int i :: .ref a :: rest)) := by
  refine W.iast hexec hb (hP q0 _ ha) ((hK.2 t0 _ ht).1 n (fun j => .int (f j))) (fun q => by cases q) (by show ¬ (i < 0 ∨ (arrV _ _ _).slots.size ≤ _); rw [arrV_size]; exact hin) rfl rfl hdg fun H1 e z oq => ?_
  refine kk H1 _ (hP.set hD ha ?_ oq) (hS.put z oq (hD.2 q0 _ ha)) z
  show H1[a]? = some (vp_cell _ _)
  rw [e, vp_cell_i, vp_cell_i, arrV_store]
  congr 2
  funext q
  by_cases hq : q = i.toNatClampNeg <;> simp [updV, upd, hq]
theorem w_last (hexec : p.tables.exec = Jvm.exec) (hb : c.code = cc) (hK : va_K D cl tys s) (hP : va_P D cl ws H) (hD : va_D A ws) (hS : va_S A H0 H locs) (q0 t0 : Nat) {cA : ClassId} {n : Nat} {f : Nat → Int64} (ha : ws[q0]? = some (a, .inl (cA, n, .inr (.inl f)))) (ht : tys[t0]? = some (cA, .long)) {i : Int32} {x : Int64} (hin : vp_in i n) (hdg : decode cc pc = .ok (.lastore, 1))
    (kk : ∀ (H1 : Heap) (locs1 : List Loc), va_P D cl (ws.set q0 (a, .inl (cA, n, .inr (.inl (vp_updL f i.toNatClampNeg x))))) H1 → va_S A H0 H1 locs1 → H1.size = H.size → W p l e R s m args below meth c H1 locs1 cells slots Q (F0 m (pc + 1) ls rest)) : W p l e R s m args below meth c H locs cells slots Q (F0 m pc ls (.long x :: .int i :: .ref a :: rest)) := by
  refine W.last hexec hb (hP q0 _ ha) ((hK.2 t0 _ ht).1 n (fun j => .long (f j))) (fun q => by cases q) (by show ¬ (i < 0 ∨ (arrV _ _ _).slots.size ≤ _); rw [arrV_size]; exact hin) rfl rfl hdg fun H1 e z oq => ?_
  refine kk H1 _ (hP.set hD ha ?_ oq) (hS.put z oq (hD.2 q0 _ ha)) z
  show H1[a]? = some (vp_cell _ _)
  rw [e, vp_cell_l, vp_cell_l, arrV_store]
  congr 2
  funext q
  by_cases hq : q = i.toNatClampNeg <;> simp [updV, vp_updL, hq]
/-- a reference stored in a row of references: the thing's cell, its class, and that it may lie there -/
theorem w_aast (hexec : p.tables.exec = Jvm.exec) (hb : c.code = cc) (hK : va_K D cl tys s) (hP : va_P D cl ws H) (hD : va_D A ws) (hS : va_S A H0 H locs) (q0 t0 : Nat) {cA cv : ClassId} {C : String} {n v : Nat} {f : Nat → Option Nat} {cellV : Cell} (ha : ws[q0]? = some (a, .inl (cA, n, .inr (.inr (.inr (.inr f)))))) (ht : tys[t0]? = some (cA, .object C)) (g1 : H[v]? = some cellV) (g3 : cellV.vm.isStatics = false) (hcv : s.vm.findClass C = some cellV.cls) (has : s.vm.assignable cellV.cls cellV.cls = true) {i : Int32} (hin : vp_in i n) (hdg : decode cc pc = .ok (.aastore, 1))
    (kk : ∀ (H1 : Heap) (locs1 : List Loc), va_P D cl (ws.set q0 (a, .inl (cA, n, .inr (.inr (.inr (.inr (va_up f i.toNatClampNeg (some v)))))))) H1 → va_S A H0 H1 locs1 → H1.size = H.size → W p l e R s m args below meth c H1 locs1 cells slots Q (F0 m (pc + 1) ls rest)) : W p l e R s m args below meth c H locs cells slots Q (F0 m pc ls (.ref v :: .int i :: .ref a :: rest)) := by
  have hlt : i.toNatClampNeg < n := Nat.not_le.mp fun q => hin (Or.inr q)
  have h0 : ¬ i < 0 := fun q => hin (Or.inl q)
  obtain ⟨kA, comp, k1, k2, k3, -⟩ := (hK.2 t0 _ ht).2
  have hcomp : comp = cellV.cls := Option.some.inj (k3.symm.trans hcv)
  subst hcomp
  obtain ⟨kC, hkC, -⟩ := Vm.findClass_spec k3
  refine W.aast hexec hb (hP q0 _ ha) (fun q h => by cases h) (fun h => by cases h) k1 k2 rfl hkC ⟨h0, by show _ < (arrV _ _ _).slots.size; rw [arrV_size]; exact hlt⟩ g1 (fun q h => by rw [h] at g3; cases g3) hkC has rfl rfl hdg fun H1 e z oq => ?_
  refine kk H1 _ (hP.set hD ha ?_ oq) (hS.put z oq (hD.2 q0 _ ha)) z
  show H1[a]? = some (vp_cell _ _)
  rw [e, vp_cell_q, vp_cell_q, arrV_store]
  congr 2
  funext q
  by_cases hq : q = i.toNatClampNeg <;> simp [updV, va_up, va_rf, hq]
theorem w_new (hexec : p.tables.exec = Jvm.exec) (hb : c.code = cc) {own C : String} {T : u_T} {N ci index : Nat} {Ts : List Cond} (hts : ∀ w ∈ Ts, w.before args s = true) (hin : ∀ w ∈ u_ws C T N, w ∈ Ts) (ty : Nat → FieldType) (hty : ∀ k, k < N → parseFieldDescriptor (T k).2.2.1 = some (ty k)) (hown : s.vm.findClass own = some m.cls) (hcl : (Cond.classLink own index C).before args s = true) (hinst : (Cond.instantiable C N).before args s = true) (hini : (Cond.initialized C).before args s = true)
    (hK : va_K D cl tys s) (hP : va_P D cl ws H) (hS : va_S A H0 H locs) (hc : cl[ci]? = some (C, T, N)) {fs : List Value} (hfs : ∀ j, j < N → defaultValue (ty j) = vp_V fs j) (hcells : cells + 1 ≤ R.cells) (hslots : slots + N ≤ R.slots) (hdg : decode cc pc = .ok (.new index, 3))
    (kk : ∀ (H1 : Heap), va_P D cl (ws ++ [(H.size, .inr (ci, fs))]) H1 → va_S A H0 H1 locs → H1.size = H.size + 1 → W p l e R s m args below meth c H1 locs (cells + 1) (slots + N) Q (F0 m (pc + 3) ls (.ref H.size :: rest))) : W p l e R s m args below meth c H locs cells slots Q (F0 m pc ls rest) := by
  have hKn := hK.1 ci _ hc
  refine W.newcK hexec hb hown hcl hinst hini rfl hdg hcells hslots hKn.2.1 rfl fun H1 kC hkC e1 z1 o1 => ?_
  have hk : ∀ (k : Nat) (x : Nat × va_E), ws[k]? = some x → H1[x.1]? = H[x.1]? := fun k x hx => o1 x.1 ((hP k x hx).lt)
  refine kk H1 ((hP.kept hk).app (fun k x hx => ?_)) ⟨Nat.le_trans hS.1 (by omega), fun x h1 h2 => (o1 x (Nat.lt_of_lt_of_le h1 hS.1)).trans (hS.2.1 x h1 h2), hS.2.2⟩ z1
  have hz : k < 1 := (List.getElem?_eq_some_iff.mp hx).1
  rw [show k = 0 by omega] at hx
  cases hx
  exact ⟨_, hc, (u_born ty hts hin hKn hkC e1 hty).to hfs⟩
theorem w_newa (hexec : p.tables.exec = Jvm.exec) (hb : c.code = cc) {atype : ArrayType} (harr : (Cond.arrayClass (newarray.typeOf atype)).before args s = true) (hP : va_P D cl ws H) (hS : va_S A H0 H locs)
    {n : Int32} {N' : Nat} {a0 : vp_A} {cA : ClassId} (hcA : s.vm.findClass ("[" ++ (newarray.typeOf atype).toString) = some cA) (ha : vp_cell cA a0 = arrV cA N' (fun _ => defaultValue (newarray.typeOf atype))) (hn : ¬ n < 0) (hN : n.toNatClampNeg = N') (hbytes : N' * componentBytes (newarray.typeOf atype) ≤ 536870912) (hcells : cells + 1 ≤ R.cells) (hslots : slots + N' ≤ R.slots) (hdg : decode cc pc = .ok (.newarray atype, 2))
    (kk : ∀ (H1 : Heap), va_P D cl (ws ++ [(H.size, .inl (cA, a0))]) H1 → va_S A H0 H1 locs → H1.size = H.size + 1 → W p l e R s m args below meth c H1 locs (cells + 1) (slots + N') Q (F0 m (pc + 2) ls (.ref H.size :: rest))) : W p l e R s m args below meth c H locs cells slots Q (F0 m pc ls (.int n :: rest)) := by
  refine va_newaK hexec hb harr rfl hdg rfl hn hN hbytes hcells hslots rfl fun H1 cB e1 z1 o1 hAr hNm => ?_
  have hcc : cB = cA := Option.some.inj (hNm.symm.trans hcA)
  subst hcc
  have hk : ∀ (k : Nat) (x : Nat × va_E), ws[k]? = some x → H1[x.1]? = H[x.1]? := fun k x hx => o1 x.1 ((hP k x hx).lt)
  refine kk H1 ((hP.kept hk).app (fun k x hx => ?_)) ⟨Nat.le_trans hS.1 (by omega), fun x h1 h2 => (o1 x (Nat.lt_of_lt_of_le h1 hS.1)).trans (hS.2.1 x h1 h2), hS.2.2⟩ z1
  have hz : k < 1 := (List.getElem?_eq_some_iff.mp hx).1
  rw [show k = 0 by omega] at hx
  cases hx
  show H1[H.size]? = some (vp_cell _ _)
  rw [ha]
  exact e1
theorem w_newq (hexec : p.tables.exec = Jvm.exec) (hb : c.code = cc) {own C : String} {index : Nat} (hown : s.vm.findClass own = some m.cls) (hclink : (Cond.classLink own index C).before args s = true) (hover : va_AO C s) (hP : va_P D cl ws H) (hS : va_S A H0 H locs)
    {n : Int32} {N' : Nat} {cA : ClassId} (hcA : s.vm.findClass ("[" ++ (FieldType.object C).toString) = some cA) (hn : ¬ n < 0) (hN : n.toNatClampNeg = N') (hbytes : N' * 4 ≤ 536870912) (hcells : cells + 1 ≤ R.cells) (hslots : slots + N' ≤ R.slots) (hdg : decode cc pc = .ok (.anewarray index, 3))
    (kk : ∀ (H1 : Heap), va_P D cl (ws ++ [(H.size, .inl (cA, N', .inr (.inr (.inr (.inr (fun _ => none))))))]) H1 → va_S A H0 H1 locs → H1.size = H.size + 1 → W p l e R s m args below meth c H1 locs (cells + 1) (slots + N') Q (F0 m (pc + 3) ls (.ref H.size :: rest))) : W p l e R s m args below meth c H locs cells slots Q (F0 m pc ls (.int n :: rest)) := by
  subst hN
  refine W.anew hexec hb hown hclink (va_AO.use hover) rfl hdg rfl hn hbytes hcells hslots fun cB kA comp f1 f2 f3 f4 => ?_
  have hcc : cB = cA := Option.some.inj (f1.symm.trans hcA)
  subst hcc
  generalize hH1 : H.push ({ cls := cB, slots := Array.replicate n.toNatClampNeg .null, vm := .none } : Cell) = H1
  have z1 : H1.size = H.size + 1 := by rw [← hH1, Array.size_push]
  have e1 : H1[H.size]? = some (arrV cB n.toNatClampNeg (fun _ => .null)) := by rw [← hH1, Array.getElem?_push_size, ← arrV_new]
  have o1 : ∀ q : Nat, q < H.size → H1[q]? = H[q]? := fun q hq => by rw [← hH1, Array.getElem?_push, if_neg (Nat.ne_of_lt hq)]
  have hk : ∀ (k : Nat) (x : Nat × va_E), ws[k]? = some x → H1[x.1]? = H[x.1]? := fun k x hx => o1 x.1 ((hP k x hx).lt)
  refine kk H1 ((hP.kept hk).app (fun k x hx => ?_)) ⟨Nat.le_trans hS.1 (by omega), fun x h1 h2 => (o1 x (Nat.lt_of_lt_of_le h1 hS.1)).trans (hS.2.1 x h1 h2), hS.2.2⟩ z1
  have hz : k < 1 := (List.getElem?_eq_some_iff.mp hx).1
  rw [show k = 0 by omega] at hx
  cases hx
  show H1[H.size]? = some (vp_cell _ _)
  rw [vp_cell_q]
  exact e1
end R2
/-- a field reference of a class: which class and field it means, its number, its type, whether it is final -/
def FP (own idx ci k g : Nat) (ty : FieldType) (fin : Bool) : Prop := ci < 13 ∧ k < clN ci ∧ g = 128 * ci + k ∧ clTy ci k = ty ∧ (clT ci k).2.2.2 = fin ∧ (Cond.fieldLink (cn own) idx (clT ci k).1 (clT ci k).2.1 (clT ci k).2.2.1 ∈ TB ∨ ∃ h, (cn own, idx, (clT ci k).1, (clT ci k).2.1, (clT ci k).2.2.1, h) ∈ nfL)
theorem clN_128 (c : Nat) : clN c ≤ 128 := by unfold clN; split <;> decide
theorem cl_df : ∀ c, c < 13 → ∀ j, j < clN c → defaultValue (clTy c j) = if isRf (clTy c j) then .null else .int 0 := lt13 (by decide) (by decide) (by decide) (by decide) (by decide) (by decide) (by decide) (by decide) (by decide) (by decide) (by decide) (by decide) (by decide)
theorem WL_up {G : GG} {E E' : HP} {n : Nat} {H H1 : Heap} (h : WLd G E n H) (hP : va_P G.2.2.1 vwCl (wl sh G E' n) H1) (hz : H1.size = H.size) : WLd G E' n H1 := ⟨hP, h.2.1, h.2.2.1, fun q => by rw [hz]; exact h.2.2.2 q⟩
theorem wl_Dn {G : GG} {E : HP} {n : Nat} {H : Heap} (h : WLd G E n H) : va_D (fA G) (wl sh G E n) := wl_D (Nat.le_trans h.2.1 h.2.2.1)
section R3
variable {M : MI} {d bc bs n pc : Nat} {out : OUT} {ls : List (Option Value)} {st : List Value} {E : HP}
theorem r_get {idx ci k g h l9 : Nat} {ty : FieldType} {fin : Bool} {v : Value} (pc2 : Nat) (hd : decode M.2.1 pc = .ok (.getfield idx, 3)) (hp : pc + 3 = pc2) (fl : FP M.1 idx ci k g ty fin) (hs : sh h = (ci, l9)) (hn : h < n)
    (hv : ∀ G : GG, fv G E ci h k = tr G v) (kk : Sm M d bc bs out pc2 ls (v :: st) E n) : Sm M d bc bs out pc ls (.ref h :: st) E n := by
  subst hp
  obtain ⟨hci, hk, rfl, rfl, -, hlk⟩ := fl
  intro G p l e s m args below meth c R H locs cells slots lsA Q C F hS hW hl h1 h2
  have he : (wl sh G E n)[h]? = some (ad G h, .inr (ci, (List.range (clN ci)).map (fv G E ci h))) := by rw [wl_get hn, ent_obj hs hci]
  have hv9 : ((List.range (clN ci)).map (fv G E ci h))[k]? = some (tr G v) := by rw [fv_get hk, hv]
  have kk' := kk G p l e s m args below meth c R H locs cells slots lsA Q C F hS hW hl h1 h2
  rcases hlk with hlk | ⟨host, hlk⟩
  · exact va_get C.1 C.2.1 (Ts := TB) C.2.2.2.2.1 (cl_in ci hci) C.2.2.2.1 C.2.2.2.2.2.2.2.2.2.1.2.1 hW.1 h he (cl_cl ci hci) k hk (C.2.2.2.2.1 _ hlk) (fun _ h9 => h9) hv9 hd kk'
  · exact va_getN C.1 C.2.1 (Ts := TB) C.2.2.2.2.1 (cl_in ci hci) C.2.2.2.1 C.2.2.2.2.2.2.2.2.2.1.2.1 hW.1 h he (cl_cl ci hci) k hk (va_Nw.use rfl (C.2.2.2.2.2.2.2.2.2.1.2.2.1 _ hlk)) (fun _ h9 => h9) hv9 hd kk'
theorem r_getI {idx ci k g h l9 : Nat} {ty : FieldType} {fin : Bool} (pc2 : Nat) (hd : decode M.2.1 pc = .ok (.getfield idx, 3)) (hp : pc + 3 = pc2) (fl : FP M.1 idx ci k g ty fin) (ht : isRf ty = false) (hs : sh h = (ci, l9)) (hn : h < n)
    (kk : Sm M d bc bs out pc2 ls (.int (gI E g h) :: st) E n) : Sm M d bc bs out pc ls (.ref h :: st) E n := by
  refine r_get pc2 hd hp fl hs hn (fun G => ?_) kk
  obtain ⟨hci, hk, rfl, rfl, -, hlk⟩ := fl
  unfold fv
  rw [ht]
  rfl
theorem r_getR {idx ci k g h l9 r : Nat} {ty : FieldType} {fin : Bool} (pc2 : Nat) (hd : decode M.2.1 pc = .ok (.getfield idx, 3)) (hp : pc + 3 = pc2) (fl : FP M.1 idx ci k g ty fin) (ht : isRf ty = true) (hs : sh h = (ci, l9)) (hn : h < n) (hr : gR E g h = some r)
    (kk : Sm M d bc bs out pc2 ls (.ref r :: st) E n) : Sm M d bc bs out pc ls (.ref h :: st) E n := by
  refine r_get pc2 hd hp fl hs hn (fun G => ?_) kk
  obtain ⟨hci, hk, rfl, rfl, -, hlk⟩ := fl
  unfold fv
  rw [ht, hr]
  rfl
theorem r_put {idx ci k g h l9 : Nat} {ty : FieldType} {fin : Bool} {v : Value} {E2 : HP} (pc2 : Nat) (hd : decode M.2.1 pc = .ok (.putfield idx, 3)) (hp : pc + 3 = pc2) (fl : FP M.1 idx ci k g ty fin) (hfin : fin = false ∨ (fin = true ∧ M.2.2.2.2.2.1 = true ∧ (clT ci k).1 = cn M.1 ∧ Cond.fieldLink (cn M.1) idx (clT ci k).1 (clT ci k).2.1 (clT ci k).2.2.1 ∈ TB)) (hs : sh h = (ci, l9)) (hn : h < n)
    (hw : ∀ G : GG, (wl sh G E n).set h (ad G h, .inr (ci, ((List.range (clN ci)).map (fv G E ci h)).set k (tr G v))) = wl sh G E2 n) (hnar : ∀ G : GG, narrow ty (tr G v) = tr G v) (hfit : ∀ G : GG, fits ty (tr G v) = true)
    (kk : Sm M d bc bs out pc2 ls st E2 n) : Sm M d bc bs out pc ls (v :: .ref h :: st) E n := by
  subst hp
  obtain ⟨hci, hk, rfl, rfl, hf, hlk⟩ := fl
  intro G p l e s m args below meth c R H locs cells slots lsA Q C F hS hW hl h1 h2
  have he : (wl sh G E n)[h]? = some (ad G h, .inr (ci, (List.range (clN ci)).map (fv G E ci h))) := by rw [wl_get hn, ent_obj hs hci]
  refine w_put C.1 C.2.1 (Ts := TB) (own := cn M.1) C.2.2.2.2.1 (cl_in ci hci) (clTy ci) (cl_ty ci hci) (cl_nm ci hci) C.2.2.2.1 C.2.2.2.2.2.2.2.2.2.1.2.1 hW.1 (wl_Dn hW) hS h he (cl_cl ci hci) k hk ?_ (hnar G) (hfit G) (by simpa using hk) hd (fun H1 locs1 hP1 hS1 hz => ?_)
  · rcases hfin with hfin | ⟨hfin, hi, hdecl, hl9⟩
    · rcases hlk with hlk | ⟨host, hlk⟩
      · exact Or.inl ⟨C.2.2.2.2.1 _ hlk, Or.inl (hf.trans hfin)⟩
      · exact Or.inr ⟨host, va_Nw.use rfl (C.2.2.2.2.2.2.2.2.2.1.2.2.1 _ hlk), hf.trans hfin⟩
    · exact Or.inl ⟨C.2.2.2.2.1 _ hl9, Or.inr ⟨hf.trans hfin, C.2.2.2.2.2.2.2.2.2.2.2.2.1 hi, hdecl⟩⟩
  · rw [hw G] at hP1
    exact kk G p l e s m args below meth c R H1 locs1 cells slots lsA Q C F hS1 (WL_up hW hP1 hz) hl h1 h2
theorem r_putI {idx ci k g h l9 : Nat} {x : Int32} (pc2 : Nat) (hd : decode M.2.1 pc = .ok (.putfield idx, 3)) (hp : pc + 3 = pc2) (fl : FP M.1 idx ci k g .int false) (hs : sh h = (ci, l9)) (hn : h < n)
    (kk : Sm M d bc bs out pc2 ls st (sI E g h x) n) : Sm M d bc bs out pc ls (.int x :: .ref h :: st) E n := by
  refine r_put pc2 hd hp fl (Or.inl rfl) hs hn (fun G => ?_) (fun G => rfl) (fun G => rfl) kk
  obtain ⟨hci, hk, rfl, hty, -, -⟩ := fl
  exact wl_sI hs hci hk (clN_128 _) (by rw [hty]; rfl)
theorem r_putZ {idx ci k g h l9 : Nat} {x : Int32} (pc2 : Nat) (hd : decode M.2.1 pc = .ok (.putfield idx, 3)) (hp : pc + 3 = pc2) (fl : FP M.1 idx ci k g .boolean false) (hs : sh h = (ci, l9)) (hn : h < n) (hx : x = 0 ∨ x = 1)
    (kk : Sm M d bc bs out pc2 ls st (sI E g h x) n) : Sm M d bc bs out pc ls (.int x :: .ref h :: st) E n := by
  refine r_put pc2 hd hp fl (Or.inl rfl) hs hn (fun G => ?_) (fun G => by rcases hx with rfl | rfl <;> rfl) (fun G => by rcases hx with rfl | rfl <;> rfl) kk
  obtain ⟨hci, hk, rfl, hty, -, -⟩ := fl
  exact wl_sI hs hci hk (clN_128 _) (by rw [hty]; rfl)
theorem r_putIF {idx ci k g h l9 : Nat} {x : Int32} (pc2 : Nat) (hd : decode M.2.1 pc = .ok (.putfield idx, 3)) (hp : pc + 3 = pc2) (fl : FP M.1 idx ci k g .int true) (hf : M.2.2.2.2.2.1 = true ∧ (clT ci k).1 = cn M.1 ∧ Cond.fieldLink (cn M.1) idx (clT ci k).1 (clT ci k).2.1 (clT ci k).2.2.1 ∈ TB) (hs : sh h = (ci, l9)) (hn : h < n)
    (kk : Sm M d bc bs out pc2 ls st (sI E g h x) n) : Sm M d bc bs out pc ls (.int x :: .ref h :: st) E n := by
  refine r_put pc2 hd hp fl (Or.inr ⟨rfl, hf⟩) hs hn (fun G => ?_) (fun G => rfl) (fun G => rfl) kk
  obtain ⟨hci, hk, rfl, hty, -, -⟩ := fl
  exact wl_sI hs hci hk (clN_128 _) (by rw [hty]; rfl)
theorem rf_nar {ty : FieldType} (ht : isRf ty = true) (a : Nat) : narrow ty (.ref a) = .ref a ∧ fits ty (.ref a) = true := by
  cases ty <;> first | exact ⟨rfl, rfl⟩ | cases ht
theorem r_putR {idx ci k g h l9 r : Nat} {ty : FieldType} {fin : Bool} (pc2 : Nat) (hd : decode M.2.1 pc = .ok (.putfield idx, 3)) (hp : pc + 3 = pc2) (fl : FP M.1 idx ci k g ty fin) (ht : isRf ty = true) (hf : fin = false ∨ (fin = true ∧ M.2.2.2.2.2.1 = true ∧ (clT ci k).1 = cn M.1 ∧ Cond.fieldLink (cn M.1) idx (clT ci k).1 (clT ci k).2.1 (clT ci k).2.2.1 ∈ TB)) (hs : sh h = (ci, l9)) (hn : h < n)
    (kk : Sm M d bc bs out pc2 ls st (sR E g h (some r)) n) : Sm M d bc bs out pc ls (.ref r :: .ref h :: st) E n := by
  refine r_put pc2 hd hp fl hf hs hn (fun G => ?_) (fun G => (rf_nar ht _).1) (fun G => (rf_nar ht _).2) kk
  obtain ⟨hci, hk, rfl, rfl, -, -⟩ := fl
  exact wl_sR (v := some r) hs hci hk (clN_128 _) ht
theorem r_iald {a l9 : Nat} {i : Int32} (pc2 : Nat) (hd : decode M.2.1 pc = .ok (.iaload, 1)) (hp : pc + 1 = pc2) (hs : sh a = (100, l9)) (hn : a < n) (hi : vp_in i l9) (kk : Sm M d bc bs out pc2 ls (.int (gA E a i.toNatClampNeg) :: st) E n) : Sm M d bc bs out pc ls (.int i :: .ref a :: st) E n := by
  subst hp
  intro G p l e s m args below meth c R H locs cells slots lsA Q C F hS hW hl h1 h2
  exact va_iald C.1 C.2.1 C.2.2.2.2.2.2.2.2.2.1.2.1 hW.1 a 0 (by rw [wl_get hn, ent_ia hs]) rfl hi hd (kk G p l e s m args below meth c R H locs cells slots lsA Q C F hS hW hl h1 h2)
theorem r_iast {a l9 : Nat} {i x : Int32} (pc2 : Nat) (hd : decode M.2.1 pc = .ok (.iastore, 1)) (hp : pc + 1 = pc2) (hs : sh a = (100, l9)) (hn : a < n) (hi : vp_in i l9) (kk : Sm M d bc bs out pc2 ls st (sA E a i.toNatClampNeg x) n) : Sm M d bc bs out pc ls (.int x :: .int i :: .ref a :: st) E n := by
  subst hp
  intro G p l e s m args below meth c R H locs cells slots lsA Q C F hS hW hl h1 h2
  refine w_iast C.1 C.2.1 C.2.2.2.2.2.2.2.2.2.1.2.1 hW.1 (wl_Dn hW) hS a 0 (by rw [wl_get hn, ent_ia hs]) rfl hi hd fun H1 locs1 hP1 hS1 hz => ?_
  rw [wl_sA hs] at hP1
  exact kk G p l e s m args below meth c R H1 locs1 cells slots lsA Q C F hS1 (WL_up hW hP1 hz) hl h1 h2
theorem r_lald {a l9 : Nat} {i : Int32} (pc2 : Nat) (hd : decode M.2.1 pc = .ok (.laload, 1)) (hp : pc + 1 = pc2) (hs : sh a = (101, l9)) (hn : a < n) (hi : vp_in i l9) (kk : Sm M d bc bs out pc2 ls (.long (gL E a i.toNatClampNeg) :: st) E n) : Sm M d bc bs out pc ls (.int i :: .ref a :: st) E n := by
  subst hp
  intro G p l e s m args below meth c R H locs cells slots lsA Q C F hS hW hl h1 h2
  exact va_lald C.1 C.2.1 C.2.2.2.2.2.2.2.2.2.1.2.1 hW.1 a 1 (by rw [wl_get hn, ent_la hs]) rfl hi hd (kk G p l e s m args below meth c R H locs cells slots lsA Q C F hS hW hl h1 h2)
theorem r_last {a l9 : Nat} {i : Int32} {x : Int64} (pc2 : Nat) (hd : decode M.2.1 pc = .ok (.lastore, 1)) (hp : pc + 1 = pc2) (hs : sh a = (101, l9)) (hn : a < n) (hi : vp_in i l9) (kk : Sm M d bc bs out pc2 ls st (sL E a i.toNatClampNeg x) n) : Sm M d bc bs out pc ls (.long x :: .int i :: .ref a :: st) E n := by
  subst hp
  intro G p l e s m args below meth c R H locs cells slots lsA Q C F hS hW hl h1 h2
  refine w_last C.1 C.2.1 C.2.2.2.2.2.2.2.2.2.1.2.1 hW.1 (wl_Dn hW) hS a 1 (by rw [wl_get hn, ent_la hs]) rfl hi hd fun H1 locs1 hP1 hS1 hz => ?_
  rw [wl_sL hs] at hP1
  exact kk G p l e s m args below meth c R H1 locs1 cells slots lsA Q C F hS1 (WL_up hW hP1 hz) hl h1 h2
/-- the class that a row of references holds -/
def qaC : Nat → String
  | 102 => RX8 | 103 => RX1 | _ => "java/lang/String"
theorem qa_ty {G : GG} {cq : Nat} (h1 : 102 ≤ cq) (h2 : cq ≤ 104) : (tyL G)[cq - 100]? = some (G.2.2.2 (cq - 100), .object (qaC cq)) := by
  have : cq = 102 ∨ cq = 103 ∨ cq = 104 := by omega
  rcases this with rfl | rfl | rfl <;> rfl
theorem r_aald {a cq l9 r : Nat} {i : Int32} (pc2 : Nat) (hd : decode M.2.1 pc = .ok (.aaload, 1)) (hp : pc + 1 = pc2) (hs : sh a = (cq, l9)) (hq1 : 102 ≤ cq) (hq2 : cq ≤ 104) (hn : a < n) (hi : vp_in i l9) (hr : gQ E a i.toNatClampNeg = some r) (kk : Sm M d bc bs out pc2 ls (.ref r :: st) E n) : Sm M d bc bs out pc ls (.int i :: .ref a :: st) E n := by
  subst hp
  intro G p l e s m args below meth c R H locs cells slots lsA Q C F hS hW hl h1 h2
  refine va_aldq C.1 C.2.1 C.2.2.2.2.2.2.2.2.2.1.2.1 hW.1 a (cq - 100) (by rw [wl_get hn, ent_qa hs hq1]) (qa_ty hq1 hq2) hi hd ?_
  show W p l e R s m args below meth c H locs cells slots Q (F0 m (pc + 1) lsA (va_rf ((gQ E a i.toNatClampNeg).map (ad G)) :: st.map (tr G)))
  rw [hr]
  exact kk G p l e s m args below meth c R H locs cells slots lsA Q C F hS hW hl h1 h2
theorem r_aast {a cq l9 v cv lv : Nat} {i : Int32} (pc2 : Nat) (hd : decode M.2.1 pc = .ok (.aastore, 1)) (hp : pc + 1 = pc2) (hs : sh a = (cq, l9)) (hq1 : 102 ≤ cq) (hq2 : cq ≤ 104) (hn : a < n) (hi : vp_in i l9) (hsv : sh v = (cv, lv)) (hcv : cv < 13) (hnv : v < n) (hc : cn cv = qaC cq) (kk : Sm M d bc bs out pc2 ls st (sQ E a i.toNatClampNeg (some v)) n) : Sm M d bc bs out pc ls (.ref v :: .int i :: .ref a :: st) E n := by
  subst hp
  intro G p l e s m args below meth c R H locs cells slots lsA Q C F hS hW hl h1 h2
  have hK := C.2.2.2.2.2.2.2.2.2.1.2.1
  obtain ⟨cell, g1, g2, g3⟩ := va_recv hK hW.1 (cl_cl cv hcv) (q0 := v) (by rw [wl_get hnv, ent_obj hsv hcv])
  have hcl := (hK.1 cv _ (cl_cl cv hcv)).2
  have hcc : cell.cls = G.2.2.1.1 cv := Option.some.inj (g3.symm.trans hcl.1)
  refine w_aast (cv := 0) C.1 C.2.1 hK hW.1 (wl_Dn hW) hS a (cq - 100) (by rw [wl_get hn, ent_qa hs hq1]) (qa_ty hq1 hq2) g1 g2 (by rw [← hc]; exact g3) (by rw [hcc]; exact va_assign hcl) hi hd fun H1 locs1 hP1 hS1 hz => ?_
  rw [wl_sQ hs hq1] at hP1
  exact kk G p l e s m args below meth c R H1 locs1 cells slots lsA Q C F hS1 (WL_up hW hP1 hz) hl h1 h2
theorem r_alenI {a l9 : Nat} (v : Int32) (pc2 : Nat) (hd : decode M.2.1 pc = .ok (.arraylength, 1)) (hp : pc + 1 = pc2) (hs : sh a = (100, l9)) (hn : a < n) (hv : Int32.ofNat l9 = v) (kk : Sm M d bc bs out pc2 ls (.int v :: st) E n) : Sm M d bc bs out pc ls (.ref a :: st) E n := by
  subst hp
  intro G p l e s m args below meth c R H locs cells slots lsA Q C F hS hW hl h1 h2
  exact va_alen C.1 C.2.1 C.2.2.2.2.2.2.2.2.2.1.2.1 hW.1 a 0 (by rw [wl_get hn, ent_ia hs]) rfl hv hd (kk G p l e s m args below meth c R H locs cells slots lsA Q C F hS hW hl h1 h2)
theorem r_alenQ {a cq l9 : Nat} (v : Int32) (pc2 : Nat) (hd : decode M.2.1 pc = .ok (.arraylength, 1)) (hp : pc + 1 = pc2) (hs : sh a = (cq, l9)) (hq1 : 102 ≤ cq) (hq2 : cq ≤ 104) (hn : a < n) (hv : Int32.ofNat l9 = v) (kk : Sm M d bc bs out pc2 ls (.int v :: st) E n) : Sm M d bc bs out pc ls (.ref a :: st) E n := by
  subst hp
  intro G p l e s m args below meth c R H locs cells slots lsA Q C F hS hW hl h1 h2
  exact va_alen C.1 C.2.1 C.2.2.2.2.2.2.2.2.2.1.2.1 hW.1 a (cq - 100) (by rw [wl_get hn, ent_qa hs hq1]) (qa_ty hq1 hq2) hv hd (kk G p l e s m args below meth c R H locs cells slots lsA Q C F hS hW hl h1 h2)
/-- the script's length, and its ints -/
theorem r_slen (pc2 : Nat) (hd : decode M.2.1 pc = .ok (.arraylength, 1)) (hp : pc + 1 = pc2) (hM : M.2.2.2.2.2.2.1 = true) (kk : Sm M d bc bs out pc2 ls (.int (Int32.ofNat M.2.2.2.2.2.2.2.1) :: st) E n) : Sm M d bc bs out pc ls (.ref 2000 :: st) E n := by
  subst hp
  intro G p l e s m args below meth c R H locs cells slots lsA Q C F hS hW hl h1 h2
  obtain ⟨x1, x2, x3⟩ := C.2.2.2.2.2.2.2.2.2.2.2.2.2 hM
  exact va_slen C.1 C.2.1 x1 x2 (by show ¬ G.1 ≤ G.2.1 2000; omega) hS hd (kk G p l e s m args below meth c R H locs cells slots lsA Q C F hS hW hl h1 h2)
theorem r_sld {i : Int32} (pc2 : Nat) (hd : decode M.2.1 pc = .ok (.iaload, 1)) (hp : pc + 1 = pc2) (hM : M.2.2.2.2.2.2.1 = true) (hi : vp_in i M.2.2.2.2.2.2.2.1) (kk : Sm M d bc bs out pc2 ls (.int (M.2.2.2.2.2.2.2.2 i.toNatClampNeg) :: st) E n) : Sm M d bc bs out pc ls (.int i :: .ref 2000 :: st) E n := by
  subst hp
  intro G p l e s m args below meth c R H locs cells slots lsA Q C F hS hW hl h1 h2
  obtain ⟨x1, x2, x3⟩ := C.2.2.2.2.2.2.2.2.2.2.2.2.2 hM
  exact va_sld C.1 C.2.1 x1 x2 (by show ¬ G.1 ≤ G.2.1 2000; omega) hS hi hd (kk G p l e s m args below meth c R H locs cells slots lsA Q C F hS hW hl h1 h2)
/-- a class reference by which things are made -/
def NP (own idx ci : Nat) : Prop := ci < 13 ∧ Cond.classLink (cn own) idx (cn ci) ∈ TB ∧ Cond.instantiable (cn ci) (clN ci) ∈ TB ∧ Cond.initialized (cn ci) ∈ TB
theorem WL_new {G : GG} {E : HP} {n : Nat} {H H1 : Heap} {x : va_E} (h : WLd G E n H) (hn : n < NM) (hx : x = ent sh G (zp E n) n) (hP : va_P G.2.2.1 vwCl (wl sh G E n ++ [(H.size, x)]) H1) (hz : H1.size = H.size + 1) : WLd G (zp E n) (n + 1) H1 ∧ H.size = ad G n := by
  have hs := h.2.2.2 hn
  have e : H.size = ad G n := by rw [ad_lo (show n < 1000 from Nat.lt_trans hn (by decide))]; exact hs
  refine ⟨⟨?_, hn, h.2.2.1, fun _ => by rw [hz, hs]; omega⟩, e⟩
  rw [e, hx, wl_zp] at hP
  exact hP
theorem r_new {idx ci l9 : Nat} (pc2 : Nat) (hd : decode M.2.1 pc = .ok (.new idx, 3)) (hp : pc + 3 = pc2) (np : NP M.1 idx ci) (hs : sh n = (ci, l9)) (kk : Sm M d bc bs out pc2 ls (.ref n :: st) (zp E n) (n + 1)) : Sm M d (bc + 1) (bs + clN ci) out pc ls st E n := by
  subst hp
  obtain ⟨hci, w1, w2, w3⟩ := np
  intro G p l e s m args below meth c R H locs cells slots lsA Q C F hS hW hl h1 h2
  have hn : n < NM := sh_lt hs (by omega)
  refine w_new C.1 C.2.1 (Ts := TB) (ci := ci) (fs := (List.range (clN ci)).map (fv G (zp E n) ci n)) C.2.2.2.2.1 (cl_in ci hci) (clTy ci) (cl_ty ci hci) C.2.2.2.1 (C.2.2.2.2.1 _ w1) (C.2.2.2.2.1 _ w2) (C.2.2.2.2.1 _ w3) C.2.2.2.2.2.2.2.2.2.1.2.1 hW.1 hS (cl_cl ci hci) (fun j hj => ?_) (by omega) (by omega) hd (fun H1 hP1 hS1 hz => ?_)
  · unfold vp_V
    rw [List.getD_eq_getElem?_getD, fv_get hj, cl_df ci hci j hj]
    show _ = fv G (zp E n) ci n j
    unfold fv
    rw [gI_zp, gR_zp, if_pos rfl, if_pos rfl]
    rfl
  · obtain ⟨k1, k2⟩ := WL_new hW hn (ent_obj hs hci).symm hP1 hz
    rw [k2]
    exact kk G p l e s m args below meth c R H1 locs (cells + 1) (slots + clN ci) lsA Q C F hS1 k1 hl (by omega) (by omega)
theorem r_newI {l9 : Nat} {x : Int32} (pc2 : Nat) (hd : decode M.2.1 pc = .ok (.newarray .int, 2)) (hp : pc + 2 = pc2) (hs : sh n = (100, l9)) (hx0 : ¬ x < 0) (hx : x.toNatClampNeg = l9) (hl9 : l9 ≤ 100000) (hw : Cond.arrayClass .int ∈ TB) (kk : Sm M d bc bs out pc2 ls (.ref n :: st) (zp E n) (n + 1)) : Sm M d (bc + 1) (bs + l9) out pc ls (.int x :: st) E n := by
  subst hp
  intro G p l e s m args below meth c R H locs cells slots lsA Q C F hS hW hl h1 h2
  have hn : n < NM := sh_lt hs (by omega)
  have hK := C.2.2.2.2.2.2.2.2.2.1.2.1
  refine w_newa C.1 C.2.1 (atype := .int) (cA := G.2.2.2 0) (a0 := (l9, .inl (gA (zp E n) n))) (C.2.2.2.2.1 _ hw) hW.1 hS ((hK.2 0 _ rfl).2) ?_ hx0 hx (by show l9 * 4 ≤ _; omega) (by omega) (by omega) hd (fun H1 hP1 hS1 hz => ?_)
  · rw [vp_cell_i]
    congr 1
    funext j
    rw [gA_zp, if_pos rfl]
    rfl
  · obtain ⟨k1, k2⟩ := WL_new hW hn (ent_ia hs).symm hP1 hz
    rw [k2]
    exact kk G p l e s m args below meth c R H1 locs (cells + 1) (slots + l9) lsA Q C F hS1 k1 hl (by omega) (by omega)
theorem r_newL {l9 : Nat} {x : Int32} (pc2 : Nat) (hd : decode M.2.1 pc = .ok (.newarray .long, 2)) (hp : pc + 2 = pc2) (hs : sh n = (101, l9)) (hx0 : ¬ x < 0) (hx : x.toNatClampNeg = l9) (hl9 : l9 ≤ 100000) (hw : Cond.arrayClass .long ∈ TB) (kk : Sm M d bc bs out pc2 ls (.ref n :: st) (zp E n) (n + 1)) : Sm M d (bc + 1) (bs + l9) out pc ls (.int x :: st) E n := by
  subst hp
  intro G p l e s m args below meth c R H locs cells slots lsA Q C F hS hW hl h1 h2
  have hn : n < NM := sh_lt hs (by omega)
  have hK := C.2.2.2.2.2.2.2.2.2.1.2.1
  refine w_newa C.1 C.2.1 (atype := .long) (cA := G.2.2.2 1) (a0 := (l9, .inr (.inl (gL (zp E n) n)))) (C.2.2.2.2.1 _ hw) hW.1 hS ((hK.2 1 _ rfl).2) ?_ hx0 hx (by show l9 * 8 ≤ _; omega) (by omega) (by omega) hd (fun H1 hP1 hS1 hz => ?_)
  · rw [vp_cell_l]
    congr 1
    funext j
    rw [gL_zp, if_pos rfl]
    rfl
  · obtain ⟨k1, k2⟩ := WL_new hW hn (ent_la hs).symm hP1 hz
    rw [k2]
    exact kk G p l e s m args below meth c R H1 locs (cells + 1) (slots + l9) lsA Q C F hS1 k1 hl (by omega) (by omega)
theorem r_newQ {idx cq l9 : Nat} {x : Int32} (pc2 : Nat) (hd : decode M.2.1 pc = .ok (.anewarray idx, 3)) (hp : pc + 3 = pc2) (hs : sh n = (cq, l9)) (hq1 : 102 ≤ cq) (hq2 : cq ≤ 104) (hx0 : ¬ x < 0) (hx : x.toNatClampNeg = l9) (hl9 : l9 ≤ 100000) (hw : Cond.classLink (cn M.1) idx (qaC cq) ∈ TB) (kk : Sm M d bc bs out pc2 ls (.ref n :: st) (zp E n) (n + 1)) : Sm M d (bc + 1) (bs + l9) out pc ls (.int x :: st) E n := by
  subst hp
  intro G p l e s m args below meth c R H locs cells slots lsA Q C F hS hW hl h1 h2
  have hn : n < NM := sh_lt hs (by omega)
  have hK := C.2.2.2.2.2.2.2.2.2.1
  have hC : qaC cq ∈ [RX8, RX1, "java/lang/String"] := by
    have : cq = 102 ∨ cq = 103 ∨ cq = 104 := by omega
    rcases this with rfl | rfl | rfl <;> simp [qaC]
  obtain ⟨kA, comp, -, -, -, hf⟩ := (hK.2.1.2 _ _ (qa_ty (G := G) hq1 hq2)).2
  refine w_newq C.1 C.2.1 C.2.2.2.1 (C.2.2.2.2.1 _ hw) (hK.2.2.2.2.2.2.2.1 _ hC) hW.1 hS hf hx0 hx (by omega) (by omega) (by omega) hd (fun H1 hP1 hS1 hz => ?_)
  obtain ⟨k1, k2⟩ := WL_new hW hn (by
    rw [ent_qa hs hq1]
    congr 7
    funext j
    rw [gQ_zp, if_pos rfl]
    rfl) hP1 hz
  rw [k2]
  exact kk G p l e s m args below meth c R H1 locs (cells + 1) (slots + l9) lsA Q C F hS1 k1 hl (by omega) (by omega)
end R3
