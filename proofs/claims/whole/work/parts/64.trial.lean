/-! The class: turn; the trial; free -/
theorem inB_no {x : Int32} {l l2 : Nat} (h : ¬ inB x (nI l)) (h2 : l2 ≤ l) (hl : l < 100000) : ¬ inB x (nI l2) := fun z => h ⟨z.1, Int32.lt_of_lt_of_le z.2 (nI_le h2 (by omega))⟩
theorem tu_at {E : HP} {L : List (Int32 × Int32 × Int32 × Int32)} {i j : Nat} {e : Int32 × Int32 × Int32 × Int32} (hW : WT E L) (hi : gI E 260 80 = nI i) (hi2 : i < 100000) (he : L[i]? = some e) (hj : j < 4) : gA E 85 j = tuK e (nI j) := by
  obtain ⟨a, b, c, d⟩ := hW i e hi hi2 he
  match j, hj with
  | 0, _ => exact a
  | 1, _ => exact b
  | 2, _ => exact c
  | 3, _ => exact d
set_option maxRecDepth 20000 in
theorem c_X11_turn {d b L m i j : Nat} {R : List Int32} {E : HP} {e : Int32 × Int32 × Int32 × Int32} (hci : CI E b L m R) (hi : i < 1200) (hj : j < 4) (he : (nG (nightF (vNow E b L R) m))[i]? = some e) : ∃ E2, QF b E E2 ∧ Cl yX11_turn mX11_turn (d + 8) 1 6 [.ref 0, .int (nI i), .int (nI j)] E 137 (.inl (some (.int (tuK e (nI j)))), E2, 137) := by
  obtain ⟨hC, cL, c51, cok, csu, crl, c87, ⟨m1, m6, cmi⟩, cfr⟩ := id hci
  have hQ0 : QF b E (sI E 260 80 (nI i)) := qf_sI (Or.inl (Or.inl rfl)) qf_rfl
  obtain ⟨hci0, hv0⟩ := ci_qf hQ0 hci
  obtain ⟨E2, ⟨f1, f2, f3, f4⟩, hcl⟩ := c_X11_passNight (d := d + 1) hci0
  rw [hv0] at f4
  have hQ : QF b E E2 := qf_tr hQ0 (qf_pp f1 f2)
  have hC2 := cr_kr hQ.2 hC
  have h26 : gI E2 260 80 = nI i := by rw [f3, gI_sI, if_pos ⟨rfl, rfl⟩]
  obtain ⟨-, g1, -, -, -, g5⟩ := id f4
  have l7 := cok.2.1
  have hln := night_len (V := vNow E b L R) (show L ≤ 7 from l7) m
  have hil : i < (nG (nightF (vNow E b L R) m)).length := (List.getElem?_eq_some_iff.mp he).1
  have hat := c_X6_at (d := d + 7) (i := nI j) (cr_row84 hC2)
  rw [rAt_nI hj (by omega), tu_at g5 h26 (by omega) he hj] at hat
  refine ⟨E2, hQ, ?_⟩
  refine Cl.of (by decide) rfl (fun q => by cases q) rfl rfl (Nat.le_of_ble_eq_true rfl) ?_
  show Sm _ _ _ _ _ 0 [some (.ref 0), some (.int (nI i)), some (.int (nI j))] [] _ _
  refine r_aload_n 1 dX11_turn_0 rfl rfl ?_
  refine r_iload_n 2 dX11_turn_1 rfl rfl ?_
  refine r_sipush (1200) 5 dX11_turn_2 rfl (by decide) ?_
  refine r_callV (M := mX11_turn) (pc := 5) 8 dX11_turn_5 rfl k11_192 (c_X11_checkNumber (inB_of (L := 1200) hi (by omega))) rfl rfl (by first | with_reducible assumption | with_reducible exact cr_bs hC | rfl) (by decide) rfl (by first | with_reducible assumption | with_reducible exact cr_bn hC | exact Nat.le_of_ble_eq_true rfl) (Nat.le_of_ble_eq_true rfl) ?_
  refine r_aload_n 9 dX11_turn_8 rfl rfl ?_
  refine r_iload_n 10 dX11_turn_9 rfl rfl ?_
  refine r_iconst (4) 11 dX11_turn_10 rfl (by decide) ?_
  refine r_callV (M := mX11_turn) (pc := 11) 14 dX11_turn_11 rfl k11_192 (c_X11_checkNumber (inB_of (L := 4) hj (by omega))) rfl rfl (by first | with_reducible assumption | with_reducible exact cr_bs hC | rfl) (by decide) rfl (by first | with_reducible assumption | with_reducible exact cr_bn hC | exact Nat.le_of_ble_eq_true rfl) (Nat.le_of_ble_eq_true rfl) ?_
  refine r_aload_n 15 dX11_turn_14 rfl rfl ?_
  refine r_getR 18 dX11_turn_15 rfl f11_76 rfl (by first | with_reducible assumption | with_reducible exact cr_bs hC | rfl) (by first | with_reducible assumption | with_reducible exact cr_bn hC | exact Nat.le_of_ble_eq_true rfl) (cr_1420_0 hC) ?_
  refine r_iload_n 19 dX11_turn_18 rfl rfl ?_
  refine r_putI 22 dX11_turn_19 rfl f11_266 (by first | with_reducible assumption | with_reducible exact cr_bs hC | rfl) (by first | with_reducible assumption | with_reducible exact cr_bn hC | exact Nat.le_of_ble_eq_true rfl) ?_
  refine r_aload_n 23 dX11_turn_22 rfl rfl ?_
  refine r_callV (M := mX11_turn) (pc := 23) 26 dX11_turn_23 rfl k11_224 hcl rfl rfl (by first | with_reducible assumption | with_reducible exact cr_bs hC | rfl) (by decide) rfl (by first | with_reducible assumption | with_reducible exact cr_bn hC | exact Nat.le_of_ble_eq_true rfl) (Nat.le_of_ble_eq_true rfl) ?_
  refine r_aload_n 27 dX11_turn_26 rfl rfl ?_
  refine r_iload_n 28 dX11_turn_27 rfl rfl ?_
  refine r_aload_n 29 dX11_turn_28 rfl rfl ?_
  refine r_getR 32 dX11_turn_29 rfl f11_76 rfl (by first | with_reducible assumption | with_reducible exact cr_bs hC | rfl) (by first | with_reducible assumption | with_reducible exact cr_bn hC | exact Nat.le_of_ble_eq_true rfl) (cr_1420_0 hC2) ?_
  refine r_getIV (nI (nG (nightF (vNow E b L R) m)).length) 35 dX11_turn_32 rfl f11_227 rfl (by first | with_reducible assumption | with_reducible exact cr_bs hC | rfl) (by first | with_reducible assumption | with_reducible exact cr_bn hC | exact Nat.le_of_ble_eq_true rfl) (g1) ?_
  refine r_callV (M := mX11_turn) (pc := 35) 38 dX11_turn_35 rfl k11_192 (c_X11_checkNumber (inB_of hil (by omega))) rfl rfl (by first | with_reducible assumption | with_reducible exact cr_bs hC | rfl) (by decide) rfl (by first | with_reducible assumption | with_reducible exact cr_bn hC | exact Nat.le_of_ble_eq_true rfl) (Nat.le_of_ble_eq_true rfl) ?_
  refine r_aload_n 39 dX11_turn_38 rfl rfl ?_
  refine r_getR 42 dX11_turn_39 rfl f11_76 rfl (by first | with_reducible assumption | with_reducible exact cr_bs hC | rfl) (by first | with_reducible assumption | with_reducible exact cr_bn hC | exact Nat.le_of_ble_eq_true rfl) (cr_1420_0 hC2) ?_
  refine r_getR 45 dX11_turn_42 rfl f11_269 rfl (by first | with_reducible assumption | with_reducible exact cr_bs hC | rfl) (by first | with_reducible assumption | with_reducible exact cr_bn hC | exact Nat.le_of_ble_eq_true rfl) (cr_259_80 hC2) ?_
  refine r_iload_n 46 dX11_turn_45 rfl rfl ?_
  refine r_callV (M := mX11_turn) (pc := 46) 49 dX11_turn_46 rfl k11_152 hat rfl rfl (by first | with_reducible assumption | with_reducible exact cr_bs hC | rfl) (by decide) rfl (by first | with_reducible assumption | with_reducible exact cr_bn hC | exact Nat.le_of_ble_eq_true rfl) (Nat.le_of_ble_eq_true rfl) ?_
  exact r_iret dX11_turn_49 rfl rfl (rfl)
set_option maxRecDepth 20000 in
theorem x_turn1 {d b L m : Nat} {R : List Int32} {E : HP} {x w : Int32} (hci : CI E b L m R) (h : ¬ inB x 1200) : Cl yX11_turn mX11_turn (d + 8) 1 6 [.ref 0, .int (x), .int (w)] E 137 (.inr nseN, E, 137) := by
  have hC := hci.1
  have cL := hci.2.1
  have l7 : L ≤ 7 := hci.2.2.2.1.2.1
  refine Cl.of (by decide) rfl (fun q => by cases q) rfl rfl (Nat.le_of_ble_eq_true rfl) ?_
  show Sm _ _ _ _ _ 0 [some (.ref 0), some (.int (x)), some (.int (w))] [] _ _
  refine r_aload_n 1 dX11_turn_0 rfl rfl ?_
  refine r_iload_n 2 dX11_turn_1 rfl rfl ?_
  refine r_sipush (1200) 5 dX11_turn_2 rfl (by decide) ?_
  exact r_callVX (M := mX11_turn) (pc := 5) dX11_turn_5 k11_192 (x_checkNumber h) rfl rfl (by first | with_reducible assumption | with_reducible exact cr_bs hC | rfl) (by decide) rfl (by first | with_reducible assumption | with_reducible exact cr_bn hC | exact Nat.le_of_ble_eq_true rfl) (Nat.le_of_ble_eq_true rfl) rfl rfl (rfl)
set_option maxRecDepth 20000 in
theorem x_turn2 {d b L m i : Nat} {R : List Int32} {E : HP} {w : Int32} (hci : CI E b L m R) (hi : i < 1200) (h : ¬ inB w 4) : Cl yX11_turn mX11_turn (d + 8) 1 6 [.ref 0, .int (nI i), .int (w)] E 137 (.inr nseN, E, 137) := by
  have hC := hci.1
  have cL := hci.2.1
  have l7 : L ≤ 7 := hci.2.2.2.1.2.1
  refine Cl.of (by decide) rfl (fun q => by cases q) rfl rfl (Nat.le_of_ble_eq_true rfl) ?_
  show Sm _ _ _ _ _ 0 [some (.ref 0), some (.int (nI i)), some (.int (w))] [] _ _
  refine r_aload_n 1 dX11_turn_0 rfl rfl ?_
  refine r_iload_n 2 dX11_turn_1 rfl rfl ?_
  refine r_sipush (1200) 5 dX11_turn_2 rfl (by decide) ?_
  refine r_callV (M := mX11_turn) (pc := 5) 8 dX11_turn_5 rfl k11_192 (c_X11_checkNumber (inB_of (L := 1200) hi (by omega))) rfl rfl (by first | with_reducible assumption | with_reducible exact cr_bs hC | rfl) (by decide) rfl (by first | with_reducible assumption | with_reducible exact cr_bn hC | exact Nat.le_of_ble_eq_true rfl) (Nat.le_of_ble_eq_true rfl) ?_
  refine r_aload_n 9 dX11_turn_8 rfl rfl ?_
  refine r_iload_n 10 dX11_turn_9 rfl rfl ?_
  refine r_iconst (4) 11 dX11_turn_10 rfl (by decide) ?_
  exact r_callVX (M := mX11_turn) (pc := 11) dX11_turn_11 k11_192 (x_checkNumber h) rfl rfl (by first | with_reducible assumption | with_reducible exact cr_bs hC | rfl) (by decide) rfl (by first | with_reducible assumption | with_reducible exact cr_bn hC | exact Nat.le_of_ble_eq_true rfl) (Nat.le_of_ble_eq_true rfl) rfl rfl (rfl)
set_option maxRecDepth 20000 in
theorem x_turn3 {d b L m i j : Nat} {R : List Int32} {E : HP} (hci : CI E b L m R) (hi : i < 1200) (hj : j < 4) (he : (nG (nightF (vNow E b L R) m)).length ≤ i) : ∃ E2, QF b E E2 ∧ Cl yX11_turn mX11_turn (d + 8) 1 6 [.ref 0, .int (nI i), .int (nI j)] E 137 (.inr nseN, E2, 137) := by
  obtain ⟨hC, cL, c51, cok, csu, crl, c87, ⟨m1, m6, cmi⟩, cfr⟩ := id hci
  have hQ0 : QF b E (sI E 260 80 (nI i)) := qf_sI (Or.inl (Or.inl rfl)) qf_rfl
  obtain ⟨hci0, hv0⟩ := ci_qf hQ0 hci
  obtain ⟨E2, ⟨f1, f2, f3, f4⟩, hcl⟩ := c_X11_passNight (d := d + 1) hci0
  rw [hv0] at f4
  have hQ : QF b E E2 := qf_tr hQ0 (qf_pp f1 f2)
  have hC2 := cr_kr hQ.2 hC
  have h26 : gI E2 260 80 = nI i := by rw [f3, gI_sI, if_pos ⟨rfl, rfl⟩]
  obtain ⟨-, g1, -, -, -, g5⟩ := id f4
  have l7 := cok.2.1
  have hln := night_len (V := vNow E b L R) (show L ≤ 7 from l7) m
  refine ⟨E2, hQ, ?_⟩
  refine Cl.of (by decide) rfl (fun q => by cases q) rfl rfl (Nat.le_of_ble_eq_true rfl) ?_
  show Sm _ _ _ _ _ 0 [some (.ref 0), some (.int (nI i)), some (.int (nI j))] [] _ _
  refine r_aload_n 1 dX11_turn_0 rfl rfl ?_
  refine r_iload_n 2 dX11_turn_1 rfl rfl ?_
  refine r_sipush (1200) 5 dX11_turn_2 rfl (by decide) ?_
  refine r_callV (M := mX11_turn) (pc := 5) 8 dX11_turn_5 rfl k11_192 (c_X11_checkNumber (inB_of (L := 1200) hi (by omega))) rfl rfl (by first | with_reducible assumption | with_reducible exact cr_bs hC | rfl) (by decide) rfl (by first | with_reducible assumption | with_reducible exact cr_bn hC | exact Nat.le_of_ble_eq_true rfl) (Nat.le_of_ble_eq_true rfl) ?_
  refine r_aload_n 9 dX11_turn_8 rfl rfl ?_
  refine r_iload_n 10 dX11_turn_9 rfl rfl ?_
  refine r_iconst (4) 11 dX11_turn_10 rfl (by decide) ?_
  refine r_callV (M := mX11_turn) (pc := 11) 14 dX11_turn_11 rfl k11_192 (c_X11_checkNumber (inB_of (L := 4) hj (by omega))) rfl rfl (by first | with_reducible assumption | with_reducible exact cr_bs hC | rfl) (by decide) rfl (by first | with_reducible assumption | with_reducible exact cr_bn hC | exact Nat.le_of_ble_eq_true rfl) (Nat.le_of_ble_eq_true rfl) ?_
  refine r_aload_n 15 dX11_turn_14 rfl rfl ?_
  refine r_getR 18 dX11_turn_15 rfl f11_76 rfl (by first | with_reducible assumption | with_reducible exact cr_bs hC | rfl) (by first | with_reducible assumption | with_reducible exact cr_bn hC | exact Nat.le_of_ble_eq_true rfl) (cr_1420_0 hC) ?_
  refine r_iload_n 19 dX11_turn_18 rfl rfl ?_
  refine r_putI 22 dX11_turn_19 rfl f11_266 (by first | with_reducible assumption | with_reducible exact cr_bs hC | rfl) (by first | with_reducible assumption | with_reducible exact cr_bn hC | exact Nat.le_of_ble_eq_true rfl) ?_
  refine r_aload_n 23 dX11_turn_22 rfl rfl ?_
  refine r_callV (M := mX11_turn) (pc := 23) 26 dX11_turn_23 rfl k11_224 hcl rfl rfl (by first | with_reducible assumption | with_reducible exact cr_bs hC | rfl) (by decide) rfl (by first | with_reducible assumption | with_reducible exact cr_bn hC | exact Nat.le_of_ble_eq_true rfl) (Nat.le_of_ble_eq_true rfl) ?_
  refine r_aload_n 27 dX11_turn_26 rfl rfl ?_
  refine r_iload_n 28 dX11_turn_27 rfl rfl ?_
  refine r_aload_n 29 dX11_turn_28 rfl rfl ?_
  refine r_getR 32 dX11_turn_29 rfl f11_76 rfl (by first | with_reducible assumption | with_reducible exact cr_bs hC | rfl) (by first | with_reducible assumption | with_reducible exact cr_bn hC | exact Nat.le_of_ble_eq_true rfl) (cr_1420_0 hC2) ?_
  refine r_getIV (nI (nG (nightF (vNow E b L R) m)).length) 35 dX11_turn_32 rfl f11_227 rfl (by first | with_reducible assumption | with_reducible exact cr_bs hC | rfl) (by first | with_reducible assumption | with_reducible exact cr_bn hC | exact Nat.le_of_ble_eq_true rfl) (g1) ?_
  exact r_callVX (M := mX11_turn) (pc := 35) dX11_turn_35 k11_192 (x_checkNumber (fun z => absurd z.2 (nI_nlt he (by omega)))) rfl rfl (by first | with_reducible assumption | with_reducible exact cr_bs hC | rfl) (by decide) rfl (by first | with_reducible assumption | with_reducible exact cr_bn hC | exact Nat.le_of_ble_eq_true rfl) (Nat.le_of_ble_eq_true rfl) rfl rfl (rfl)
/-- a trial: a plan of its own, with all else as it was -/
def TR (E E1 : HP) (b L : Nat) (c : Cfg) (fr : Int32) : Prop := QF b E E1 ∧ gI E1 514 75 = nI L ∧ cfgEq E1 75 c ∧ gI E1 519 75 = fr
theorem tr_nvis {E E1 : HP} {b L L1 m : Nat} {R : List Int32} {c : Cfg} {fr : Int32} (h : TR E E1 b L1 c fr) (hci : CI E b L m R) (hc : cokN L1 L c) : NVis E1 b 75 (vMk L1 (slC E b) (gI E 8 b) R c fr) := by
  obtain ⟨h1, h2, h3, h4⟩ := h
  obtain ⟨hci1, hv⟩ := ci_qf h1 hci
  have hb := hci.1.1
  have hq : ∀ k, ((k < 75 ∧ k ≠ b + 9 ∧ k ≠ b + 11) ∨ k = 87) → ¬ Qq b k := fun k hk => qq_no hb (by omega)
  have esl : slC E1 b = slC E b := by
    funext k s
    unfold slC
    by_cases hs : s < 7
    · rw [if_pos hs, if_pos hs, fr_gI h1.1 (hq _ (by omega))]
    · rw [if_neg hs, if_neg hs]
  exact nvis_mk h2 h3 hc esl (fr_gI h1.1 (hq _ (by omega)) _) h4 hci1.2.2.2.2.2.1 hci1.2.2.2.2.2.2.1
theorem tr_pass {E E1 E2 : HP} {b L : Nat} {c : Cfg} {fr : Int32} (hb : b = 3 ∨ b = 22) (h : TR E E1 b L c fr) (f : Fr (Pp b) E1 E2) (k : KR E1 E2) : TR E E2 b L c fr := by
  obtain ⟨h1, h2, ⟨e1, e2, e3, e4, e5⟩, h4⟩ := h
  have hn : ∀ j, j = 75 ∨ j = 77 ∨ j = 79 → ¬ Pp b j := fun j hj => by unfold Pp; omega
  have i75 : ∀ g, gI E2 g 75 = gI E1 g 75 := fun g => fr_gI f (hn _ (by omega)) g
  refine ⟨qf_tr h1 (qf_pp f k), (i75 _).trans h2, ⟨fun i hi => ?_, (i75 _).trans e2, (i75 _).trans e3, (i75 _).trans e4, (i75 _).trans e5⟩, (i75 _).trans h4⟩
  rw [fr_gA f (hn (75 + 2) (by omega)), fr_gA f (hn (75 + 4) (by omega))]
  exact e1 i hi
theorem tr_copy {b L m : Nat} {R : List Int32} {E : HP} (hci : CI E b L m R) : TR E (plCopy 75 46 E) b L (cfgP E 46) (gI E 519 46) := by
  obtain ⟨hC, cL, c51, cok, csu, crl, c87, cm, cfr⟩ := id hci
  refine ⟨⟨?_, kr_sr (sr_plCopy sr_rfl)⟩, ?_, ⟨fun i hi => ⟨?_, ?_⟩, ?_, ?_, ?_, ?_⟩, ?_⟩
  · have q75 : Qq b 75 := Or.inr (Or.inl rfl)
    exact fr_sI q75 (fr_sI q75 (fr_sI q75 (fr_sI q75 (fr_sI q75 (fr_sI q75 (fr_copy (show Qq b (75 + 3 + 1) from Or.inr (Or.inr (Or.inr (Or.inl rfl)))) (fr_copy (show Qq b (75 + 1 + 1) from Or.inr (Or.inr (Or.inl rfl))) fr_rfl)))))))
  · simp only [plCopy, gI_sI, Nat.reduceEqDiff, false_and, if_false, and_self, if_true, gI_rCopy, reduceIte]
    exact c51
  · show gA (rCopy (75 + 3) (46 + 3) 7 7 (rCopy (75 + 1) (46 + 1) 7 7 E)) 77 i = gA E 48 i
    rw [show gA (rCopy (75 + 3) (46 + 3) 7 7 (rCopy (75 + 1) (46 + 1) 7 7 E)) 77 = gA (rCopy (75 + 1) (46 + 1) 7 7 E) 77 from fr_gA (P := fun k => k = 79) (fr_copy rfl fr_rfl) (by decide)]
    exact (copy_at (h := 76) (h2 := 47) (by decide) (Nat.le_refl _) (by decide)).trans (if_pos hi)
  · show gA (rCopy (75 + 3) (46 + 3) 7 7 (rCopy (75 + 1) (46 + 1) 7 7 E)) 79 i = gA E 50 i
    refine (copy_at (h := 78) (h2 := 49) (by decide) (Nat.le_refl _) (by decide)).trans ((if_pos hi).trans ?_)
    rw [show gA (rCopy (75 + 1) (46 + 1) 7 7 E) (49 + 1) = gA E 50 from fr_gA (P := fun k => k = 77) (fr_copy rfl fr_rfl) (by decide)]
  · simp [plCopy, gI_sI, gI_rCopy]; rfl
  · simp [plCopy, gI_sI, gI_rCopy]; rfl
  · simp [plCopy, gI_sI, gI_rCopy]; rfl
  · simp [plCopy, gI_sI, gI_rCopy]; rfl
  · simp [plCopy, gI_sI, gI_rCopy]
theorem c_copy {d b L m : Nat} {R : List Int32} {E : HP} (hci : CI E b L m R) : ∃ E1, TR E E1 b L (cfgP E 46) (gI E 519 46) ∧ Cl yX4_copy mX4_copy (d + 2) 0 0 [.ref 75, .ref 46] E 137 (.inl none, E1, 137) := ⟨_, tr_copy hci, c_X4_copy (cr_plan75 hci.1) (cr_plan46 hci.1) hci.2.2.2.2.2.2.2.2⟩
theorem tr_fr {E E1 : HP} {b L : Nat} {c : Cfg} {fr v : Int32} (h : TR E E1 b L c fr) : TR E (sI E1 519 75 v) b L c v := by
  obtain ⟨h1, h2, ⟨e1, e2, e3, e4, e5⟩, h4⟩ := h
  refine ⟨qf_sI (Or.inr (Or.inl rfl)) h1, ?_, ⟨e1, ?_, ?_, ?_, ?_⟩, by rw [gI_sI, if_pos ⟨rfl, rfl⟩]⟩
  all_goals (rw [gI_sI, if_neg (by omega)]; assumption)
def cSay (c : Cfg) (s e : Int32) : Cfg := (cO c, cU c, cF c, if e = 0 then -1 else s, e, cB c)
theorem tr_say {E E1 : HP} {b L : Nat} {c : Cfg} {fr s e : Int32} (h : TR E E1 b L c fr) : TR E (plSay E1 75 s e) b L (cSay c s e) fr := by
  obtain ⟨h1, h2, ⟨e1, e2, e3, e4, e5⟩, h4⟩ := h
  have q75 : Qq b 75 := Or.inr (Or.inl rfl)
  refine ⟨qf_sI q75 (qf_sI q75 h1), ?_, ⟨e1, ?_, ?_, ?_, ?_⟩, ?_⟩ <;> simp only [plSay, gI_sI, Nat.reduceEqDiff, false_and, if_false, and_self, if_true, reduceIte]
  · exact h2
  · exact e2
  · rfl
  · rfl
  · exact e5
  · exact h4
theorem tr_first {E E1 : HP} {b L : Nat} {c : Cfg} {fr v : Int32} (h : TR E E1 b L c fr) : TR E (sI E1 515 75 v) b L (cO c, cU c, v, cS c, cE c, cB c) fr := by
  obtain ⟨h1, h2, ⟨e1, e2, e3, e4, e5⟩, h4⟩ := h
  refine ⟨qf_sI (Or.inr (Or.inl rfl)) h1, ?_, ⟨e1, ?_, ?_, ?_, ?_⟩, ?_⟩ <;> simp only [gI_sI, Nat.reduceEqDiff, false_and, if_false, and_self, if_true, reduceIte]
  · exact h2
  · rfl
  · exact e3
  · exact e4
  · exact e5
  · exact h4
theorem tr_bol {E E1 : HP} {b L : Nat} {c : Cfg} {fr v : Int32} (h : TR E E1 b L c fr) : TR E (sI E1 518 75 v) b L (cO c, cU c, cF c, cS c, cE c, v) fr := by
  obtain ⟨h1, h2, ⟨e1, e2, e3, e4, e5⟩, h4⟩ := h
  refine ⟨qf_sI (Or.inr (Or.inl rfl)) h1, ?_, ⟨e1, ?_, ?_, ?_, ?_⟩, ?_⟩ <;> simp only [gI_sI, Nat.reduceEqDiff, false_and, if_false, and_self, if_true, reduceIte]
  · exact h2
  · exact e2
  · exact e3
  · exact e4
  · rfl
  · exact h4
def vFre (E : HP) (b L : Nat) (R : List Int32) : NV := vMk L (slC E b) (gI E 8 b) R (cfgP E 46) 1
set_option maxRecDepth 20000 in
theorem c_X11_free {d b L m s : Nat} {R : List Int32} {E : HP} (hci : CI E b L m R) (hs : s < L) : ∃ E2, QF b E E2 ∧ Cl yX11_free mX11_free (d + 8) 1 6 [.ref 0, .int (nI s)] E 137 (.inl (some (.int (byS (vFre E b L R) (nightF (vFre E b L R) m) 3 s))), E2, 137) := by
  obtain ⟨hC, cL, c51, cok, csu, crl, c87, ⟨m1, m6, cmi⟩, cfr⟩ := id hci
  obtain ⟨E1, t1, hcp⟩ := c_copy (d := d + 5) hci
  have t2 := tr_fr (v := 1) t1
  have hC1 := cr_kr t1.1.2 hC
  have hC2 := cr_kr t2.1.2 hC
  have ov := tr_nvis t2 hci cok
  have hb := hC.1
  have cmi2 : gI (sI E1 519 75 1) 7 b = nI m := (fr_gI t2.1.1 (qq_no hb (by omega)) _).trans cmi
  obtain ⟨E3, ⟨f1, f2, f3, f4⟩, hcl⟩ := c_X11_passTrial (d := d + 1) hC2 ov cok.2.2.2.2.1 m6 cmi2
  have t3 := tr_pass hb t2 f1 f2
  have hC3 := cr_kr t3.1.2 hC
  have l7 := cok.2.1
  obtain ⟨k, k7, kV, kE, kb, hli⟩ := c_lier (d := d + 5) f4 (s := s) (csu s hs)
  have hsl := sh_li k7
  have h88 : 88 + k < 137 := by omega
  refine ⟨E3, t3.1, ?_⟩
  refine Cl.of (by decide) rfl (fun q => by cases q) rfl rfl (Nat.le_of_ble_eq_true rfl) ?_
  show Sm _ _ _ _ _ 0 [some (.ref 0), some (.int (nI s))] [] _ _
  refine r_aload_n 1 dX11_free_0 rfl rfl ?_
  refine r_iload_n 2 dX11_free_1 rfl rfl ?_
  refine r_aload_n 3 dX11_free_2 rfl rfl ?_
  refine r_getR 6 dX11_free_3 rfl f11_28 rfl (by first | with_reducible assumption | with_reducible exact cr_bs hC | rfl) (by first | with_reducible assumption | with_reducible exact cr_bn hC | exact Nat.le_of_ble_eq_true rfl) (cr_told hC) ?_
  refine r_getIV (nI L) 9 dX11_free_6 rfl f11_101 rfl (by first | with_reducible assumption | with_reducible exact cr_bs hC | rfl) (by first | with_reducible assumption | with_reducible exact cr_bn hC | exact Nat.le_of_ble_eq_true rfl) (cL) ?_
  refine r_callV (M := mX11_free) (pc := 9) 12 dX11_free_9 rfl k11_192 (c_X11_checkNumber (inB_of hs (by omega))) rfl rfl (by first | with_reducible assumption | with_reducible exact cr_bs hC | rfl) (by decide) rfl (by first | with_reducible assumption | with_reducible exact cr_bn hC | exact Nat.le_of_ble_eq_true rfl) (Nat.le_of_ble_eq_true rfl) ?_
  refine r_aload_n 13 dX11_free_12 rfl rfl ?_
  refine r_getR 16 dX11_free_13 rfl f11_67 rfl (by first | with_reducible assumption | with_reducible exact cr_bs hC | rfl) (by first | with_reducible assumption | with_reducible exact cr_bn hC | exact Nat.le_of_ble_eq_true rfl) (cr_1419_0 hC) ?_
  refine r_aload_n 17 dX11_free_16 rfl rfl ?_
  refine r_getR 20 dX11_free_17 rfl f11_47 rfl (by first | with_reducible assumption | with_reducible exact cr_bs hC | rfl) (by first | with_reducible assumption | with_reducible exact cr_bn hC | exact Nat.le_of_ble_eq_true rfl) (cr_1414_0 hC) ?_
  refine r_getR 23 dX11_free_20 rfl f11_116 rfl (by first | with_reducible assumption | with_reducible exact cr_bs hC | rfl) (by first | with_reducible assumption | with_reducible exact cr_bn hC | exact Nat.le_of_ble_eq_true rfl) (cr_1152_45 hC) ?_
  refine r_callV (M := mX11_free) (pc := 23) 26 dX11_free_23 rfl k11_272 hcp rfl rfl (by first | with_reducible assumption | with_reducible exact cr_bs hC | rfl) (by decide) rfl (by first | with_reducible assumption | with_reducible exact cr_bn hC | exact Nat.le_of_ble_eq_true rfl) (Nat.le_of_ble_eq_true rfl) ?_
  refine r_aload_n 27 dX11_free_26 rfl rfl ?_
  refine r_getR 30 dX11_free_27 rfl f11_67 rfl (by first | with_reducible assumption | with_reducible exact cr_bs hC | rfl) (by first | with_reducible assumption | with_reducible exact cr_bn hC | exact Nat.le_of_ble_eq_true rfl) (cr_1419_0 hC1) ?_
  refine r_iconst (1) 31 dX11_free_30 rfl (by decide) ?_
  refine r_putZ 34 dX11_free_31 rfl f11_134 (by first | with_reducible assumption | with_reducible exact cr_bs hC | rfl) (by first | with_reducible assumption | with_reducible exact cr_bn hC | exact Nat.le_of_ble_eq_true rfl) (by decide) ?_
  refine r_aload_n 35 dX11_free_34 rfl rfl ?_
  refine r_callV (M := mX11_free) (pc := 35) 38 dX11_free_35 rfl k11_287 hcl rfl rfl (by first | with_reducible assumption | with_reducible exact cr_bs hC | rfl) (by decide) rfl (by first | with_reducible assumption | with_reducible exact cr_bn hC | exact Nat.le_of_ble_eq_true rfl) (Nat.le_of_ble_eq_true rfl) ?_
  refine r_pop 39 dX11_free_38 rfl rfl ?_
  refine r_aload_n 40 dX11_free_39 rfl rfl ?_
  refine r_getR 43 dX11_free_40 rfl f11_76 rfl (by first | with_reducible assumption | with_reducible exact cr_bs hC | rfl) (by first | with_reducible assumption | with_reducible exact cr_bn hC | exact Nat.le_of_ble_eq_true rfl) (cr_1420_0 hC3) ?_
  refine r_iload_n 44 dX11_free_43 rfl rfl ?_
  refine r_callV (M := mX11_free) (pc := 44) 47 dX11_free_44 rfl k11_244 hli rfl rfl (by first | with_reducible assumption | with_reducible exact cr_bs hC | rfl) (by decide) rfl (by first | with_reducible assumption | with_reducible exact cr_bn hC | exact Nat.le_of_ble_eq_true rfl) (Nat.le_of_ble_eq_true rfl) ?_
  refine r_getIV (_) 50 dX11_free_47 rfl f11_248 rfl (by first | with_reducible assumption | with_reducible exact cr_bs hC | rfl) (by first | with_reducible assumption | with_reducible exact cr_bn hC | exact Nat.le_of_ble_eq_true rfl) (kb 3 (by decide)) ?_
  exact r_iret dX11_free_50 rfl rfl (rfl)
set_option maxRecDepth 20000 in
theorem x_free {d b L m s : Nat} {R : List Int32} {E : HP} {x : Int32} (hci : CI E b L m R) (h : ¬ inB x (nI L)) : Cl yX11_free mX11_free (d + 8) 1 6 [.ref 0, .int (x)] E 137 (.inr nseN, E, 137) := by
  have hC := hci.1
  have cL := hci.2.1
  have l7 : L ≤ 7 := hci.2.2.2.1.2.1
  refine Cl.of (by decide) rfl (fun q => by cases q) rfl rfl (Nat.le_of_ble_eq_true rfl) ?_
  show Sm _ _ _ _ _ 0 [some (.ref 0), some (.int (x))] [] _ _
  refine r_aload_n 1 dX11_free_0 rfl rfl ?_
  refine r_iload_n 2 dX11_free_1 rfl rfl ?_
  refine r_aload_n 3 dX11_free_2 rfl rfl ?_
  refine r_getR 6 dX11_free_3 rfl f11_28 rfl (by first | with_reducible assumption | with_reducible exact cr_bs hC | rfl) (by first | with_reducible assumption | with_reducible exact cr_bn hC | exact Nat.le_of_ble_eq_true rfl) (cr_told hC) ?_
  refine r_getIV (nI L) 9 dX11_free_6 rfl f11_101 rfl (by first | with_reducible assumption | with_reducible exact cr_bs hC | rfl) (by first | with_reducible assumption | with_reducible exact cr_bn hC | exact Nat.le_of_ble_eq_true rfl) (cL) ?_
  exact r_callVX (M := mX11_free) (pc := 9) dX11_free_9 k11_192 (x_checkNumber h) rfl rfl (by first | with_reducible assumption | with_reducible exact cr_bs hC | rfl) (by decide) rfl (by first | with_reducible assumption | with_reducible exact cr_bn hC | exact Nat.le_of_ble_eq_true rfl) (Nat.le_of_ble_eq_true rfl) rfl rfl (rfl)
