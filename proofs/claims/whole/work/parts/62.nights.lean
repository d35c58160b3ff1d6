/-! The class: what a question may change; questions of one night -/
def Qq (b k : Nat) : Prop := Pp b k ∨ k = 75 ∨ k = 77 ∨ k = 79 ∨ k = 83
/-- all but what a question may change is as it was -/
def QF (b : Nat) (E E2 : HP) : Prop := Fr (Qq b) E E2 ∧ KR E E2
theorem qf_rfl {b : Nat} {E : HP} : QF b E E := ⟨fr_rfl, kr_rfl⟩
theorem qf_tr {b : Nat} {E E2 E3 : HP} (h : QF b E E2) (h2 : QF b E2 E3) : QF b E E3 := ⟨fr_tr h.1 h2.1, kr_tr h.2 h2.2⟩
theorem qf_pp {b : Nat} {E E2 : HP} (h : Fr (Pp b) E E2) (k : KR E E2) : QF b E E2 := ⟨fr_mono h (fun _ z => Or.inl z), k⟩
theorem qf_sI {b : Nat} {E E2 : HP} {g k : Nat} {v : Int32} (hk : Qq b k) (h : QF b E E2) : QF b E (sI E2 g k v) := ⟨fr_sI hk h.1, kr_tr h.2 (kr_sr (sr_sI sr_rfl))⟩
theorem qf_sA {b : Nat} {E E2 : HP} {a i : Nat} {v : Int32} (hk : Qq b a) (h : QF b E E2) : QF b E (sA E2 a i v) := ⟨fr_sA hk h.1, kr_tr h.2 (kr_sr (sr_sA sr_rfl))⟩
theorem qq_no {b k : Nat} (hb : b = 3 ∨ b = 22) (h : (k < 75 ∧ k ≠ b + 9 ∧ k ≠ b + 11) ∨ k = 87 ∨ 94 < k) : ¬ Qq b k := by
  unfold Qq Pp; omega
theorem ci_qf {b L m : Nat} {R : List Int32} {E E2 : HP} (h : QF b E E2) (c : CI E b L m R) : CI E2 b L m R ∧ vNow E2 b L R = vNow E b L R := by
  obtain ⟨c1, c2, c3, c4, c5, c6, c7, ⟨c8, c9, c10⟩, c11⟩ := c
  have hb := c1.1
  have hq : ∀ k, ((k < 75 ∧ k ≠ b + 9 ∧ k ≠ b + 11) ∨ k = 87) → ¬ Qq b k := fun k hk => qq_no hb (by omega)
  have i46 : ∀ g, gI E2 g 46 = gI E g 46 := fun g => fr_gI h.1 (hq _ (by omega)) g
  have ib : ∀ g, gI E2 g b = gI E g b := fun g => fr_gI h.1 (hq _ (by omega)) g
  have ecf : cfgP E2 46 = cfgP E 46 := by
    unfold cfgP
    rw [i46, i46, i46, i46, fr_gA h.1 (hq 48 (by omega)), fr_gA h.1 (hq 50 (by omega))]
  have esl : slC E2 b = slC E b := by
    funext k s
    unfold slC
    by_cases hs : s < 7
    · rw [if_pos hs, if_pos hs, fr_gI h.1 (hq _ (by omega))]
    · rw [if_neg hs, if_neg hs]
  refine ⟨⟨cr_kr h.2 c1, (ib 4).trans c2, (i46 514).trans c3, by rw [ecf]; exact c4, by rw [ecf]; exact c5, ⟨?_, c6.2.1, fun i hi => ?_, c6.2.2.2⟩, by rw [fr_gI h.1 (hq _ (Or.inr rfl))]; exact c7, ⟨c8, c9, (ib 7).trans c10⟩, by rw [i46]; exact c11⟩, ?_⟩
  · rw [fr_gI h.1 (hq _ (by omega))]; exact c6.1
  · rw [fr_gA h.1 (hq _ (by omega))]; exact c6.2.2.1 i hi
  · unfold vNow
    rw [ecf, esl, ib, i46]
theorem ci_qf1 {b L m : Nat} {R : List Int32} {E E2 : HP} (h : QF b E E2) (c : CI E b L m R) : CI E2 b L m R := (ci_qf h c).1
theorem fr_Qq {b : Nat} {P : Nat → Prop} {E E2 : HP} (h : Fr P E E2) (hp : ∀ k, P k → Qq b k) (hs : SR E E2) : QF b E E2 := ⟨fr_mono h hp, kr_sr hs⟩
/-- who lies: the one whose number is s -/
theorem c_lier {d b p m s : Nat} {V : NV} {E : HP} (hp : PR E b p V m) (h : ∃ i, i < vL V ∧ vA V 0 i = nI s) : ∃ k, k < 7 ∧ k < vL V ∧ k = plcF (vA V 0) (nI s) (vL V) ∧ (∀ j, j < 5 → gI E (132 + j) (88 + k) = byS V (nightF V m) j s) ∧ Cl yX2_lierOf mX2_lierOf (d + 2) 0 0 [.ref 80, .int (nI s)] E 137 (.inl (some (.ref (88 + k))), E, 137) := by
  obtain ⟨⟨t, hc⟩, p1, p2, p3, p4, p5⟩ := hp
  obtain ⟨i, hi, e⟩ := h
  obtain ⟨a1, a2, a3⟩ := plc_hit hi e
  have h7 := hc.2.1.2.1
  have ho : ∀ j, j < vL V → ordAt E p j = vA V 0 j := fun j hj => (hc.2.1.2.2.1 j hj).1
  have hpv : PV E p (vL V) (nI s) (nI (plcF (vA V 0) (nI s) (vL V))) := Or.inl ⟨_, a1, by rw [ho _ a1]; exact a2, fun j hj => by rw [ho j (by omega)]; exact a3 j hj, rfl⟩
  have hcl := c_X2_lierOf (d := d) hc hpv
  rw [liId_nI a1 h7] at hcl
  exact ⟨_, by omega, a1, rfl, fun j hj => p4 _ a1 j hj, hcl⟩
theorem sur_now {E : HP} {b L m s : Nat} {R : List Int32} (h : CI E b L m R) (hs : s < L) : ∃ i, i < vL (vNow E b L R) ∧ vA (vNow E b L R) 0 i = nI s := h.2.2.2.2.1 s hs
theorem inB_nI {x : Int32} {l : Nat} (h : inB x (nI l)) (hl : l < 100000) : ∃ s, s < l ∧ x = nI s := by
  obtain ⟨k, hk, e⟩ := vp_in_of (vp_of (l := l) h.1 (Int32.not_le.mpr h.2) hl) (by omega)
  exact ⟨k, hk, e⟩
theorem inC_nI {x : Int32} {l : Nat} (h : inC x (nI l)) (hl : l < 100000) : ∃ s, s ≤ l ∧ x = nI s := by
  obtain ⟨j, hj, e⟩ := nI_of h.1
  refine ⟨j, ?_, e⟩
  have := h.2
  rw [e, nI_leI hj (by omega)] at this
  exact this
/-- the worst off: who and how often, behind k of them -/
def worF (f : Nat → Int32) : Nat → Int32 × Int32
  | 0 => (-1, -1)
  | k + 1 => if (worF f k).2 < f k then (nI k, f k) else worF f k
theorem c_X11_worstOff {d b L m : Nat} {R : List Int32} {E E9 : HP} (hci : CI E b L m R) (hC : CR E9 b) (cL : gI E9 4 b = nI L) (hp : PR E9 b 46 (vNow E b L R) m) : Cl yX11_worstOff mX11_worstOff (d + 6) 0 0 [.ref 0] E9 137 (.inl (some (.int (worF (byS (vNow E b L R) (nightF (vNow E b L R) m) 3) L).1)), E9, 137) := by
  refine Cl.of (by decide) rfl (fun q => by cases q) rfl rfl (Nat.le_of_ble_eq_true rfl) ?_
  show Sm _ _ _ _ _ 0 [some (.ref 0), none, none, none, none] [] _ _
  have l7 : L ≤ 7 := hci.2.2.2.1.2.1
  have loop := loopUp (P := fun k9 => Sm mX11_worstOff (d + 6) 0 0 (.inl (some (.int (worF (byS (vNow E b L R) (nightF (vNow E b L R) m) 3) L).1)), E9, 137) 6 [some (.ref 0), some (.int (worF (byS (vNow E b L R) (nightF (vNow E b L R) m) 3) k9).1), some (.int (worF (byS (vNow E b L R) (nightF (vNow E b L R) m) 3) k9).2), some (.int (nI k9)), none] [] E9 137) (l := L) ?_ ?_
  refine r_iconst (-1) 1 dX11_worstOff_0 rfl (by decide) ?_
  refine r_istore_n 2 dX11_worstOff_1 rfl (by decide) rfl ?_
  refine r_iconst (-1) 3 dX11_worstOff_2 rfl (by decide) ?_
  refine r_istore_n 4 dX11_worstOff_3 rfl (by decide) rfl ?_
  refine r_iconst (0) 5 dX11_worstOff_4 rfl (by decide) ?_
  refine r_istore_n 6 dX11_worstOff_5 rfl (by decide) rfl ?_
  exact loop
  · show Sm _ _ _ _ _ 6 _ _ _ _
    refine r_iload_n 7 dX11_worstOff_6 rfl rfl ?_
    refine r_aload_n 8 dX11_worstOff_7 rfl rfl ?_
    refine r_getR 11 dX11_worstOff_8 rfl f11_28 rfl (by first | with_reducible assumption | with_reducible exact cr_bs hC | rfl) (by first | with_reducible assumption | with_reducible exact cr_bn hC | exact Nat.le_of_ble_eq_true rfl) (cr_told hC) ?_
    refine r_getIV (nI L) 14 dX11_worstOff_11 rfl f11_101 rfl (by first | with_reducible assumption | with_reducible exact cr_bs hC | rfl) (by first | with_reducible assumption | with_reducible exact cr_bn hC | exact Nat.le_of_ble_eq_true rfl) (cL) ?_
    refine r_icmp_ge 17 47 dX11_worstOff_14 rfl (by decide) (fun h14 => ?_) (fun h14 => absurd (nI_le (Nat.le_refl _) (by omega)) h14)
    refine r_iload_n 48 dX11_worstOff_47 rfl rfl ?_
    exact r_iret dX11_worstOff_48 rfl rfl (rfl)
  · intro k9 hk9 hq
    show Sm _ _ _ _ _ 6 _ _ _ _
    obtain ⟨k, k7, kV, kE, kb, hli⟩ := c_lier (d := d + 3) hp (sur_now hci hk9)
    have hsl := sh_li k7
    have h88 : 88 + k < 137 := by omega
    have hw : worF (byS (vNow E b L R) (nightF (vNow E b L R) m) 3) (k9 + 1) = if (worF (byS (vNow E b L R) (nightF (vNow E b L R) m) 3) k9).2 < byS (vNow E b L R) (nightF (vNow E b L R) m) 3 k9 then (nI k9, byS (vNow E b L R) (nightF (vNow E b L R) m) 3 k9) else worF (byS (vNow E b L R) (nightF (vNow E b L R) m) 3) k9 := rfl
    refine r_iload_n 7 dX11_worstOff_6 rfl rfl ?_
    refine r_aload_n 8 dX11_worstOff_7 rfl rfl ?_
    refine r_getR 11 dX11_worstOff_8 rfl f11_28 rfl (by first | with_reducible assumption | with_reducible exact cr_bs hC | rfl) (by first | with_reducible assumption | with_reducible exact cr_bn hC | exact Nat.le_of_ble_eq_true rfl) (cr_told hC) ?_
    refine r_getIV (nI L) 14 dX11_worstOff_11 rfl f11_101 rfl (by first | with_reducible assumption | with_reducible exact cr_bs hC | rfl) (by first | with_reducible assumption | with_reducible exact cr_bn hC | exact Nat.le_of_ble_eq_true rfl) (cL) ?_
    refine r_icmp_ge 17 47 dX11_worstOff_14 rfl (by decide) (fun h14 => absurd h14 (nI_ge hk9 (by omega))) (fun h14 => ?_)
    refine r_aload_n 18 dX11_worstOff_17 rfl rfl ?_
    refine r_getR 21 dX11_worstOff_18 rfl f11_76 rfl (by first | with_reducible assumption | with_reducible exact cr_bs hC | rfl) (by first | with_reducible assumption | with_reducible exact cr_bn hC | exact Nat.le_of_ble_eq_true rfl) (cr_1420_0 hC) ?_
    refine r_iload_n 22 dX11_worstOff_21 rfl rfl ?_
    refine r_callV (M := mX11_worstOff) (pc := 22) 25 dX11_worstOff_22 rfl k11_244 hli rfl rfl (by first | with_reducible assumption | with_reducible exact cr_bs hC | rfl) (by decide) rfl (by first | with_reducible assumption | with_reducible exact cr_bn hC | exact Nat.le_of_ble_eq_true rfl) (Nat.le_of_ble_eq_true rfl) ?_
    refine r_getIV (byS (vNow E b L R) (nightF (vNow E b L R) m) 3 k9) 28 dX11_worstOff_25 rfl f11_248 rfl (by first | with_reducible assumption | with_reducible exact cr_bs hC | rfl) (by first | with_reducible assumption | with_reducible exact cr_bn hC | exact Nat.le_of_ble_eq_true rfl) (kb 3 (by decide)) ?_
    refine r_istore 30 dX11_worstOff_28 rfl (by decide) rfl ?_
    refine r_iload 32 dX11_worstOff_30 rfl rfl ?_
    refine r_iload_n 33 dX11_worstOff_32 rfl rfl ?_
    refine r_icmp_le 36 41 dX11_worstOff_33 rfl (by decide) (fun h33 => ?_) (fun h33 => ?_)
    · refine r_iinc (1) 44 dX11_worstOff_41 rfl rfl (by decide) (by decide) rfl ?_
      refine r_goto 6 dX11_worstOff_44 (by decide) ?_
      rw [hw, if_neg (Int32.not_lt.mpr h33)] at hq
      rw [nI_pp]
      refine Sm.less (ls := [some (.ref 0), some (.int (worF (byS (vNow E b L R) (nightF (vNow E b L R) m) 3) k9).1), some (.int (worF (byS (vNow E b L R) (nightF (vNow E b L R) m) 3) k9).2), some (.int (nI (k9 + 1))), none]) ⟨rfl, rfl, rfl, rfl, trivial⟩ hq
    · refine r_iload 38 dX11_worstOff_36 rfl rfl ?_
      refine r_istore_n 39 dX11_worstOff_38 rfl (by decide) rfl ?_
      refine r_iload_n 40 dX11_worstOff_39 rfl rfl ?_
      refine r_istore_n 41 dX11_worstOff_40 rfl (by decide) rfl ?_
      refine r_iinc (1) 44 dX11_worstOff_41 rfl rfl (by decide) (by decide) rfl ?_
      refine r_goto 6 dX11_worstOff_44 (by decide) ?_
      rw [hw, if_pos (Int32.not_le.mp h33)] at hq
      rw [nI_pp]
      refine Sm.less (ls := [some (.ref 0), some (.int (nI k9)), some (.int (byS (vNow E b L R) (nightF (vNow E b L R) m) 3 k9)), some (.int (nI (k9 + 1))), none]) ⟨rfl, rfl, rfl, rfl, trivial⟩ hq
def ansN (V : NV) (m L : Nat) (what : Int32) : Int32 := if what = 0 then nI (nG (nightF V m)).length else if what = 1 then nS (nightF V m) 2 else if what = 2 then quF V m else (worF (byS V (nightF V m) 3) L).1
theorem c_X11_night {d b L m : Nat} {R : List Int32} {E : HP} {x : Int32} (hci : CI E b L m R) (h : inB x 4) : ∃ E2, QF b E E2 ∧ Cl yX11_night mX11_night (d + 8) 1 6 [.ref 0, .int x] E 137 (.inl (some (.int (ansN (vNow E b L R) m L x))), E2, 137) := by
  obtain ⟨hC, cL, c51, cok, csu, crl, c87, ⟨m1, m6, cmi⟩, cfr⟩ := id hci
  obtain ⟨E2, ⟨f1, f2, f3, f4⟩, hcl⟩ := c_X11_passNight (d := d + 1) hci
  have hQ : QF b E E2 := qf_pp f1 f2
  have hC2 := cr_kr f2 hC
  have hwo := c_X11_worstOff (d := d + 1) hci hC2 ((ci_qf1 hQ hci).2.1) f4
  obtain ⟨-, g1, g2, g3, -⟩ := id f4
  refine ⟨E2, hQ, ?_⟩
  refine Cl.of (by decide) rfl (fun q => by cases q) rfl rfl (Nat.le_of_ble_eq_true rfl) ?_
  show Sm _ _ _ _ _ 0 [some (.ref 0), some (.int x)] [] _ _
  obtain ⟨j, hj, rfl⟩ := inB_nI (l := 4) h (by decide)
  match j, hj with
  | 0, _ =>
    refine r_aload_n 1 dX11_night_0 rfl rfl ?_
    refine r_iload_n 2 dX11_night_1 rfl rfl ?_
    refine r_iconst (4) 3 dX11_night_2 rfl (by decide) ?_
    refine r_callV (M := mX11_night) (pc := 3) 6 dX11_night_3 rfl k11_192 (c_X11_checkNumber h) rfl rfl (by first | with_reducible assumption | with_reducible exact cr_bs hC | rfl) (by decide) rfl (by first | with_reducible assumption | with_reducible exact cr_bn hC | exact Nat.le_of_ble_eq_true rfl) (Nat.le_of_ble_eq_true rfl) ?_
    refine r_aload_n 7 dX11_night_6 rfl rfl ?_
    refine r_callV (M := mX11_night) (pc := 7) 10 dX11_night_7 rfl k11_224 hcl rfl rfl (by first | with_reducible assumption | with_reducible exact cr_bs hC | rfl) (by decide) rfl (by first | with_reducible assumption | with_reducible exact cr_bn hC | exact Nat.le_of_ble_eq_true rfl) (Nat.le_of_ble_eq_true rfl) ?_
    refine r_iload_n 11 dX11_night_10 rfl rfl ?_
    refine r_tableIn 36 dX11_night_11 (by decide) (by decide) rfl (by decide) ?_
    refine r_aload_n 37 dX11_night_36 rfl rfl ?_
    refine r_getR 40 dX11_night_37 rfl f11_76 rfl (by first | with_reducible assumption | with_reducible exact cr_bs hC | rfl) (by first | with_reducible assumption | with_reducible exact cr_bn hC | exact Nat.le_of_ble_eq_true rfl) (cr_1420_0 hC2) ?_
    refine r_getIV (nI (nG (nightF (vNow E b L R) m)).length) 43 dX11_night_40 rfl f11_227 rfl (by first | with_reducible assumption | with_reducible exact cr_bs hC | rfl) (by first | with_reducible assumption | with_reducible exact cr_bn hC | exact Nat.le_of_ble_eq_true rfl) (g1) ?_
    exact r_iret dX11_night_43 rfl rfl (rfl)
  | 1, _ =>
    refine r_aload_n 1 dX11_night_0 rfl rfl ?_
    refine r_iload_n 2 dX11_night_1 rfl rfl ?_
    refine r_iconst (4) 3 dX11_night_2 rfl (by decide) ?_
    refine r_callV (M := mX11_night) (pc := 3) 6 dX11_night_3 rfl k11_192 (c_X11_checkNumber h) rfl rfl (by first | with_reducible assumption | with_reducible exact cr_bs hC | rfl) (by decide) rfl (by first | with_reducible assumption | with_reducible exact cr_bn hC | exact Nat.le_of_ble_eq_true rfl) (Nat.le_of_ble_eq_true rfl) ?_
    refine r_aload_n 7 dX11_night_6 rfl rfl ?_
    refine r_callV (M := mX11_night) (pc := 7) 10 dX11_night_7 rfl k11_224 hcl rfl rfl (by first | with_reducible assumption | with_reducible exact cr_bs hC | rfl) (by decide) rfl (by first | with_reducible assumption | with_reducible exact cr_bn hC | exact Nat.le_of_ble_eq_true rfl) (Nat.le_of_ble_eq_true rfl) ?_
    refine r_iload_n 11 dX11_night_10 rfl rfl ?_
    refine r_tableIn 44 dX11_night_11 (by decide) (by decide) rfl (by decide) ?_
    refine r_aload_n 45 dX11_night_44 rfl rfl ?_
    refine r_getR 48 dX11_night_45 rfl f11_76 rfl (by first | with_reducible assumption | with_reducible exact cr_bs hC | rfl) (by first | with_reducible assumption | with_reducible exact cr_bn hC | exact Nat.le_of_ble_eq_true rfl) (cr_1420_0 hC2) ?_
    refine r_getIV (nS (nightF (vNow E b L R) m) 2) 51 dX11_night_48 rfl f11_230 rfl (by first | with_reducible assumption | with_reducible exact cr_bs hC | rfl) (by first | with_reducible assumption | with_reducible exact cr_bn hC | exact Nat.le_of_ble_eq_true rfl) (g2) ?_
    exact r_iret dX11_night_51 rfl rfl (rfl)
  | 2, _ =>
    refine r_aload_n 1 dX11_night_0 rfl rfl ?_
    refine r_iload_n 2 dX11_night_1 rfl rfl ?_
    refine r_iconst (4) 3 dX11_night_2 rfl (by decide) ?_
    refine r_callV (M := mX11_night) (pc := 3) 6 dX11_night_3 rfl k11_192 (c_X11_checkNumber h) rfl rfl (by first | with_reducible assumption | with_reducible exact cr_bs hC | rfl) (by decide) rfl (by first | with_reducible assumption | with_reducible exact cr_bn hC | exact Nat.le_of_ble_eq_true rfl) (Nat.le_of_ble_eq_true rfl) ?_
    refine r_aload_n 7 dX11_night_6 rfl rfl ?_
    refine r_callV (M := mX11_night) (pc := 7) 10 dX11_night_7 rfl k11_224 hcl rfl rfl (by first | with_reducible assumption | with_reducible exact cr_bs hC | rfl) (by decide) rfl (by first | with_reducible assumption | with_reducible exact cr_bn hC | exact Nat.le_of_ble_eq_true rfl) (Nat.le_of_ble_eq_true rfl) ?_
    refine r_iload_n 11 dX11_night_10 rfl rfl ?_
    refine r_tableIn 52 dX11_night_11 (by decide) (by decide) rfl (by decide) ?_
    refine r_aload_n 53 dX11_night_52 rfl rfl ?_
    refine r_getR 56 dX11_night_53 rfl f11_76 rfl (by first | with_reducible assumption | with_reducible exact cr_bs hC | rfl) (by first | with_reducible assumption | with_reducible exact cr_bn hC | exact Nat.le_of_ble_eq_true rfl) (cr_1420_0 hC2) ?_
    refine r_getIV (quF (vNow E b L R) m) 59 dX11_night_56 rfl f11_233 rfl (by first | with_reducible assumption | with_reducible exact cr_bs hC | rfl) (by first | with_reducible assumption | with_reducible exact cr_bn hC | exact Nat.le_of_ble_eq_true rfl) (g3) ?_
    exact r_iret dX11_night_59 rfl rfl (rfl)
  | 3, _ =>
    refine r_aload_n 1 dX11_night_0 rfl rfl ?_
    refine r_iload_n 2 dX11_night_1 rfl rfl ?_
    refine r_iconst (4) 3 dX11_night_2 rfl (by decide) ?_
    refine r_callV (M := mX11_night) (pc := 3) 6 dX11_night_3 rfl k11_192 (c_X11_checkNumber h) rfl rfl (by first | with_reducible assumption | with_reducible exact cr_bs hC | rfl) (by decide) rfl (by first | with_reducible assumption | with_reducible exact cr_bn hC | exact Nat.le_of_ble_eq_true rfl) (Nat.le_of_ble_eq_true rfl) ?_
    refine r_aload_n 7 dX11_night_6 rfl rfl ?_
    refine r_callV (M := mX11_night) (pc := 7) 10 dX11_night_7 rfl k11_224 hcl rfl rfl (by first | with_reducible assumption | with_reducible exact cr_bs hC | rfl) (by decide) rfl (by first | with_reducible assumption | with_reducible exact cr_bn hC | exact Nat.le_of_ble_eq_true rfl) (Nat.le_of_ble_eq_true rfl) ?_
    refine r_iload_n 11 dX11_night_10 rfl rfl ?_
    refine r_tableOut 60 dX11_night_11 (by decide) (by decide) ?_
    refine r_aload_n 61 dX11_night_60 rfl rfl ?_
    refine r_callV (M := mX11_night) (pc := 61) 64 dX11_night_61 rfl k11_236 hwo rfl rfl (by first | with_reducible assumption | with_reducible exact cr_bs hC | rfl) (by decide) rfl (by first | with_reducible assumption | with_reducible exact cr_bn hC | exact Nat.le_of_ble_eq_true rfl) (Nat.le_of_ble_eq_true rfl) ?_
    exact r_iret dX11_night_64 rfl rfl (rfl)
theorem x_night {d b L m : Nat} {R : List Int32} {E : HP} {x : Int32} (hci : CI E b L m R) (h : ¬ inB x 4) : Cl yX11_night mX11_night (d + 8) 1 6 [.ref 0, .int x] E 137 (.inr nseN, E, 137) := by
  have hC := hci.1
  refine Cl.of (by decide) rfl (fun q => by cases q) rfl rfl (Nat.le_of_ble_eq_true rfl) ?_
  show Sm _ _ _ _ _ 0 [some (.ref 0), some (.int x)] [] _ _
  refine r_aload_n 1 dX11_night_0 rfl rfl ?_
  refine r_iload_n 2 dX11_night_1 rfl rfl ?_
  refine r_iconst (4) 3 dX11_night_2 rfl (by decide) ?_
  exact r_callVX (M := mX11_night) (pc := 3) dX11_night_3 k11_192 (x_checkNumber h) rfl rfl (by first | with_reducible assumption | with_reducible exact cr_bs hC | rfl) (by decide) rfl (by first | with_reducible assumption | with_reducible exact cr_bn hC | exact Nat.le_of_ble_eq_true rfl) (Nat.le_of_ble_eq_true rfl) rfl rfl (rfl)
