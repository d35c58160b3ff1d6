/-! THE LAYER, 6: throws of the class, and their catching by the law's helpers -/
def exNames : List String := ["java/lang/RuntimeException", "java/lang/Exception"]
/-- the tables' words of 'throw new Y()' in class 11, with the constructor's entry ic -/
def TP (idx ic : Nat) (Y : String) : Prop := Cond.classLink RX11 idx Y ∈ TB ∧ Cond.initialized Y ∈ TB ∧ (∀ w ∈ (vx_at0 RX11 ic Y exNames).filter goodWord, w ∈ TB) ∧ (∀ w ∈ (vx_at0 RX11 ic Y exNames).filter (fun w => !goodWord w), w ∈ [Cond.castable Y Y, .declares (Bundle.init0 "java/lang/RuntimeException"), .declares (Bundle.init0 "java/lang/Exception"), .declares (Bundle.init0 Bundle.tN)]) ∧ (∀ w ∈ Cond.classLink RX11 idx Y :: Cond.initialized Y :: vx_at0 RX11 ic Y exNames, vx_ot w = true) ∧ Bundle.fit Y = true
set_option maxRecDepth 20000 in
theorem tp_iae : TP 90 92 iaeN := ⟨tb_of 887 (by decide +kernel) (by decide +kernel), tb_of 118 (by decide +kernel) (by decide +kernel), fun w h => List.mem_filter.mpr ⟨in_iae w h, (List.mem_filter.mp h).2⟩, by decide +kernel, by decide +kernel, by decide +kernel⟩
set_option maxRecDepth 20000 in
theorem tp_nse : TP 156 158 nseN := ⟨tb_of 1240 (by decide +kernel) (by decide +kernel), tb_of 125 (by decide +kernel) (by decide +kernel), fun w h => List.mem_filter.mpr ⟨in_nse w h, (List.mem_filter.mp h).2⟩, by decide +kernel, by decide +kernel, by decide +kernel⟩
section R6
variable {M M2 : MI} {d bc bs n pc : Nat} {out : OUT} {ls : List (Option Value)} {st rest : List Value} {E : HP} {y : MethodName}
theorem r_throw {idx ic p3 p4 p7 : Nat} {Y : String} (hd : decode M.2.1 pc = .ok (.new idx, 3)) (e3 : pc + 3 = p3) (e4 : pc + 4 = p4) (e7 : pc + 7 = p7) (hd3 : decode M.2.1 p3 = .ok (.dup, 1)) (hd4 : decode M.2.1 p4 = .ok (.invokespecial ic, 3)) (hd7 : decode M.2.1 p7 = .ok (.athrow, 1)) (tp : TP idx ic Y) (hY : Y = iaeN ∨ Y = nseN) (hM : M.1 = 11) (hh : M.2.2.2.2.1 = []) (hlaw : M.2.2.2.2.2.2.1 = false) (hn : n = NM) (ho : out = (.inr Y, E, n)) (hr : (st.map fun v => v.category).sum ≤ 8) : Sm M d (bc + 1) (bs + 6) out pc ls st E n := by
  subst ho
  subst e3; subst e4; subst e7
  obtain ⟨w1, w2, w3, w4, w5, w6⟩ := tp
  intro G p l e s m args below meth c R H locs cells slots lsA Q C F hS hW hl h1 h2
  have q1 := C.2.2.2.2.2.2.2.2.2.2.1
  have q2 := C.2.2.2.2.2.2.2.2.2.2.2.1
  unfold frR at q1
  unfold loR at q2
  have hK := C.2.2.2.2.2.2.2.2.2.1
  have hts := C.2.2.2.2.1
  have hown : s.vm.findClass RX11 = some m.cls := by have := C.2.2.2.1; rw [hM] at this; exact this
  have hcast : (Cond.castable Y Y).before args s = true := by
    rcases hY with rfl | rfl
    · exact va_Nw.use rfl hK.2.2.2.2.1
    · exact va_Nw.use rfl hK.2.2.2.2.2.1
  have hDc := hK.2.2.2.2.2.2.2.2.2.2.2.2.2
  rcases F with F | ⟨F, -⟩
  · subst F
    refine vx_throw0 (names := exNames) (A := fA G) C.1 C.2.1 C.2.2.2.2.2.2.2.2.1 hown w6 (by decide +kernel) (hts _ w1) (hts _ w2) (vx_hat (fun w h => hts _ (w3 w h)) w4 (vx_c hcast (vx_c (va_Nw.use rfl (hDc _ (by simp))) (vx_c (va_Nw.use rfl (hDc _ (by simp))) (vx_c (va_Nw.use rfl (hDc _ (by simp))) vx_n))))) w5 hK.2.2.2.2.2.2.2.2.2.1 hK.2.2.2.2.2.2.2.2.2.2.1 hS (by rw [C.2.2.1]; exact hl.1) hd hd3 hd4 hd7 (fun x hx => ?_) (by show 2 + 3 < _; omega) (by rw [tr_sum]; show _ + (13 * (2 + 1) + 42) ≤ _; omega) (by omega) (by omega) C.2.2.2.2.2.2.1 (fun t hA hz hk => ?_) hS.2.2 (by omega) (by omega)
    · rw [C.2.2.2.2.2.2.2.1, hh] at hx
      cases hx
    · exact ⟨E, n, rfl, ⟨hW.1.kept fun k q hq => hk _ (hW.1 k q hq).lt, hW.2.1, hW.2.2.1, fun hn2 => absurd hn2 (by omega)⟩, Nat.le_trans hS.1 hz, fun q hq1 hq2 => (hk q (Nat.lt_of_lt_of_le hq1 hS.1)).trans (hS.2.1 q hq1 hq2)⟩
  · rw [hlaw] at F; cases F
theorem lh_setN {G : GG} {lsB : Array Slot} {nL i a : Nat} {ls : List (Option Value)} (hno : noL ls = true) (h : lv_has lsB nL ((i, Value.ref a) :: (prs G ls).filter (fun q => !(q.1 == i) && !(q.1 + 1 == i && q.2.category == 2)))) : lh G lsB nL (ls.set i none) := by
  refine ⟨h.1, h.2.1, fun j w hw => ?_⟩
  rw [List.getElem?_set] at hw
  by_cases hij : i = j
  · subst hij
    rw [if_pos rfl] at hw
    by_cases hl : i < ls.length
    · rw [if_pos hl] at hw; cases hw
    · rw [if_neg hl] at hw; cases hw
  · rw [if_neg hij] at hw
    have h1 := prs_in (G := G) hw
    have h2 : w.category = 1 := by
      have := List.all_eq_true.mp hno (some w) (List.mem_of_getElem? hw)
      simpa using this
    refine h.2.2 (j, tr G w) (List.mem_cons_of_mem _ (List.mem_filter.mpr ⟨h1, ?_⟩))
    have e1 : (j == i) = false := by simpa using fun e => hij e.symm
    simp [e1, tr_cat, h2]
/-- what it calls throws, and a handler of its own takes it, and puts it aside (by astore_3, or astore) -/
theorem r_callVC {idx na b ci l9 n2 i : Nat} {as : List Value} {Y : String} {E2 : HP} (pre : List ExceptionTableEntry) (x : ExceptionTableEntry) (suf : List ExceptionTableEntry) (pc2 : Nat) (hd : decode M.2.1 pc = .ok (.invokevirtual idx, 3)) (lk : LV M.1 idx na y M2) (hc : Cl y M2 d bc bs (.ref b :: as) E n (.inr Y, E2, n2)) (hst : st = as.reverse ++ .ref b :: rest) (hna : as.length = na) (hb : sh b = (ci, l9)) (hci : ci < 13) (hcn : cn ci = y.cls) (hbn : b < n) (hr : (rest.map fun v => v.category).sum ≤ 8)
    (hsplit : tableOf M.2.2.2.2.1 = pre ++ x :: suf) (hpass : ∀ z ∈ pre, covers z pc = false ∨ (z.catchType ≠ 0 ∧ Y = iaeN ∧ Cond.classLink (cn M.1) z.catchType nseN ∈ TB)) (hx : covers x pc = true) (h0 : x.catchType ≠ 0) (hlk : Cond.classLink (cn M.1) x.catchType Y ∈ TB) (hY : Y = iaeN ∨ Y = nseN)
    (hda : (∃ k : Fin 4, decode M.2.1 x.handlerPc = .ok (.astore_n k, 1) ∧ (k : Nat) = i ∧ x.handlerPc + 1 = pc2) ∨ (decode M.2.1 x.handlerPc = .ok (.astore i, 2) ∧ x.handlerPc + 2 = pc2)) (hi : i < M.2.2.1) (hno : noL ls = true) (kk : Sm M (d + 1) 0 0 out pc2 (ls.set i none) [] E2 n2) : Sm M (d + 1) bc bs out pc ls st E n := by
  intro G p l e s m args below meth c R H locs cells slots lsA Q C F hS hW hl h1 h2
  have hK := C.2.2.2.2.2.2.2.2.2.1
  refine run_thr (run_V C hS hW hl hd lk hc hst hna hb hci hcn hbn hr h1 h2) hS fun H1 locs1 q ce hS1 hW1 k1 k2 k3 => ?_
  have hcast : (Cond.castable Y Y).before args s = true := by
    rcases hY with rfl | rfl
    · exact va_Nw.use rfl hK.2.2.2.2.1
    · exact va_Nw.use rfl hK.2.2.2.2.2.1
  refine vx_catch (name := Y) C.2.2.2.1 pre x suf (by rw [C.2.2.2.2.2.2.2.1]; exact hsplit) (fun z hz => ?_) hx h0 (C.2.2.2.2.1 _ hlk) hcast k1 k2 k3 ?_
  · rcases hpass z hz with h | ⟨h, rfl, hn⟩
    · exact Or.inl h
    · exact Or.inr ⟨h, nseN, C.2.2.2.2.1 _ hn, hK.2.2.2.2.2.2.1⟩
  · rcases hda with ⟨k, hda, rfl, rfl⟩ | ⟨hda, rfl⟩
    · exact lv_astore_n C.1 C.2.1 hda rfl (lh_prs hl) hi rfl (fun lsB hB => kk G p l e s m args below meth c R H1 locs1 (cells + bc) (slots + bs) lsB Q C F hS1 hW1 (lh_setN hno hB) (by omega) (by omega))
    · exact lv_astore C.1 C.2.1 hda (lh_prs hl) hi rfl (fun lsB hB => kk G p l e s m args below meth c R H1 locs1 (cells + bc) (slots + bs) lsB Q C F hS1 hW1 (lh_setN hno hB) (by omega) (by omega))
/-- an answer of a narrow type -/
theorem r_nret {v : Int32} {ty : FieldType} (hd : decode M.2.1 pc = .ok (.ireturn, 1)) (hrt : M.2.2.2.1 = some ty) (hnar : narrow ty (.int v) = .int v) (hlaw : M.2.2.2.2.2.2.1 = false) (ho : out = (.inl (some (.int v)), E, n)) : Sm M d bc bs out pc ls [.int v] E n := by
  subst ho
  intro G p l e s m args below meth c R H locs cells slots lsA Q C F hS hW hl h1 h2
  rcases F with F | ⟨F, -⟩
  · subst F
    refine W.widen (show cells ≤ R.cells by omega) (show slots ≤ R.slots by omega) (vx_ret ?_)
    exact W.zret (ty := ty) C.1 C.2.1 (by rw [C.2.2.2.2.2.1, hrt]) hnar (fun t ht hA => ⟨some (.int v), E, n, rfl, rfl, by rw [ht]; exact hW, hS.F ht⟩) hS.2.2 hd C.2.2.2.2.2.2.1
  · rw [hlaw] at F; cases F
/-- less may be made than may be -/
theorem Sm.wide {bc2 bs2 : Nat} (h1 : bc2 ≤ bc) (h2 : bs2 ≤ bs) (kk : Sm M d bc2 bs2 out pc ls st E n) : Sm M d bc bs out pc ls st E n := by
  intro G p l e s m args below meth c R H locs cells slots lsA Q C F hS hW hl g1 g2
  exact kk G p l e s m args below meth c R H locs cells slots lsA Q C F hS hW hl (by omega) (by omega)
end R6
