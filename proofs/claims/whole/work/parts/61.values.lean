/-! What lies by values: the order, outs, first, who says, every, bolsters -/
abbrev Cfg : Type := (Nat → Int32) × (Nat → Int32) × Int32 × Int32 × Int32 × Int32
def cO (c : Cfg) : Nat → Int32 := c.1
def cU (c : Cfg) : Nat → Int32 := c.2.1
def cF (c : Cfg) : Int32 := c.2.2.1
def cS (c : Cfg) : Int32 := c.2.2.2.1
def cE (c : Cfg) : Int32 := c.2.2.2.2.1
def cB (c : Cfg) : Int32 := c.2.2.2.2.2
/-- the first place at which f is s; l if there is none -/
def plcF (f : Nat → Int32) (s : Int32) : Nat → Nat
  | 0 => 0
  | l + 1 => if plcF f s l < l then plcF f s l else if f l = s then l else l + 1
theorem plc_le {f : Nat → Int32} {s : Int32} : ∀ l, plcF f s l ≤ l ∧ (plcF f s l < l → f (plcF f s l) = s) ∧ (∀ j, j < plcF f s l → ¬ f j = s) := by
  intro l
  induction l with
  | zero => exact ⟨Nat.le_refl _, fun h => absurd h (Nat.not_lt_zero _), fun j h => absurd h (Nat.not_lt_zero j)⟩
  | succ l ih =>
    obtain ⟨h1, h2, h3⟩ := ih
    unfold plcF
    by_cases h : plcF f s l < l
    · rw [if_pos h]; exact ⟨by omega, fun _ => h2 h, h3⟩
    · rw [if_neg h]
      have he : plcF f s l = l := by omega
      rw [he] at h3
      by_cases hf : f l = s
      · rw [if_pos hf]; exact ⟨by omega, fun _ => hf, h3⟩
      · rw [if_neg hf]
        refine ⟨Nat.le_refl _, fun z => absurd z (by omega), fun j hj => ?_⟩
        rcases Nat.lt_or_ge j l with z | z
        · exact h3 j z
        · rw [show j = l by omega]; exact hf
theorem plc_hit {f : Nat → Int32} {s : Int32} {l i : Nat} (hi : i < l) (h : f i = s) : plcF f s l < l ∧ f (plcF f s l) = s ∧ (∀ j, j < plcF f s l → ¬ f j = s) := by
  obtain ⟨h1, h2, h3⟩ := plc_le (f := f) (s := s) l
  have h4 : plcF f s l < l := by
    rcases Nat.lt_or_ge (plcF f s l) l with z | z
    · exact z
    · exact absurd h (h3 i (by omega))
  exact ⟨h4, h2 h4, h3⟩
/-- a night's ground by values: L lie there, sl says who they are, aw how long one is awake, R the rule, c the plan, fr whether it is free -/
def vMk (L : Nat) (sl : Nat → Nat → Int32) (aw : Int32) (R : List Int32) (c : Cfg) (fr : Int32) : NV := (L, (fun k i => if k = 0 then cO c i else if k = 5 then cU c (cO c i).toNatClampNeg else sl k (cO c i).toNatClampNeg), (fun k => if k = 0 then cE c else if k = 1 then cB c else if k = 2 then fr else if k = 3 then aw else cF c), plcF (cO c) (cS c) L, R)
/-- what a plan must be: the first L of its order are different ones below L9 .. -/
def cokN (L L9 : Nat) (c : Cfg) : Prop := L ≤ L9 ∧ L9 ≤ 7 ∧ (∀ i, i < L → ∃ s, s < L9 ∧ cO c i = nI s) ∧ (∀ i j, i < L → j < L → cO c i = cO c j → i = j) ∧ (∃ e, e ≤ 240 ∧ cE c = nI e) ∧ (0 < cE c → ∃ i, i < L ∧ cO c i = cS c) ∧ (cF c = 0 ∨ cF c = 1)
def cfgP (E : HP) (p : Nat) : Cfg := (gA E (p + 2), gA E (p + 4), gI E 515 p, gI E 516 p, gI E 517 p, gI E 518 p)
def slC (E : HP) (b : Nat) : Nat → Nat → Int32 := fun k s => if s < 7 then gI E (1023 + k) (b + 12 + s) else 0
theorem slC_lt {E : HP} {b k s : Nat} (h : s < 7) : slC E b k s = gI E (1023 + k) (b + 12 + s) := if_pos h
/-- the plan p of the heap is c -/
def cfgEq (E : HP) (p : Nat) (c : Cfg) : Prop := (∀ i, i < 7 → gA E (p + 2) i = cO c i ∧ gA E (p + 4) i = cU c i) ∧ gI E 515 p = cF c ∧ gI E 516 p = cS c ∧ gI E 517 p = cE c ∧ gI E 518 p = cB c
theorem cfg_rfl {E : HP} {p : Nat} : cfgEq E p (cfgP E p) := ⟨fun _ _ => ⟨rfl, rfl⟩, rfl, rfl, rfl, rfl⟩
theorem nvis_mk {E : HP} {b p L L9 : Nat} {R : List Int32} {c : Cfg} {sl : Nat → Nat → Int32} {aw fr : Int32} (hl : gI E 514 p = nI L) (hcE : cfgEq E p c) (hc : cokN L L9 c) (hsl : slC E b = sl) (haw : gI E 8 b = aw) (hfr : gI E 519 p = fr) (hr : RuleIs E (b + 5) R) (h87 : gI E 1024 87 = 0) : NVis E b p (vMk L sl aw R c fr) := by
  subst hsl; subst haw; subst hfr
  obtain ⟨k1, k2, k3, k4, k5, k6, k7⟩ := hc
  obtain ⟨e1, e2, e3, e4, e5⟩ := hcE
  have ho : ∀ i, i < L → ordAt E p i = cO c i := fun i hi => by
    unfold ordAt
    rw [rAt_nI (by omega) (by omega)]
    exact (e1 i (by omega)).1
  refine ⟨hl, show L ≤ 7 by omega, fun i hi => ?_, e4, e5, rfl, rfl, e2, hr, fun h => ?_, h87⟩
  · obtain ⟨s, hs, e⟩ := k3 i hi
    have ew : wI b (vMk L (slC E b) (gI E 8 b) R c (gI E 519 p)) i = b + 12 + s := by
      show whoId b (cO c i) = _
      rw [e, whoId_nI (by omega)]
    have es : (cO c i).toNatClampNeg = s := by rw [e, nI_clamp (by omega)]
    rw [ew]
    refine ⟨ho i hi, ?_, ?_, ?_, ?_, ?_⟩
    · show _ = slC E b 1 (cO c i).toNatClampNeg; rw [es, slC_lt (by omega)]
    · show _ = slC E b 2 (cO c i).toNatClampNeg; rw [es, slC_lt (by omega)]
    · show _ = slC E b 3 (cO c i).toNatClampNeg; rw [es, slC_lt (by omega)]
    · show _ = slC E b 4 (cO c i).toNatClampNeg; rw [es, slC_lt (by omega)]
    · show rAt E (p + 3) 7 (cO c i) = cU c (cO c i).toNatClampNeg
      rw [es, e, rAt_nI (by omega) (by omega)]
      exact (e1 s (by omega)).2
  · obtain ⟨i, hi, e⟩ := k6 h
    obtain ⟨a1, a2, a3⟩ := plc_hit hi e
    rw [e3]
    refine ⟨Or.inl ⟨plcF (cO c) (cS c) L, a1, by rw [ho _ a1]; exact a2, fun j hj => ?_, rfl⟩, a1⟩
    rw [ho j (by omega)]
    exact a3 j hj
/-- the same in the model -/
theorem mvis_mk {E : HP} {L L9 : Nat} {sl : Nat → Nat → Int32} {aw : Int32} {R : List Int32} {c : Cfg} {fr : Int32} (hl : gI E 1581 95 = nI L) (hc : cokN L L9 c) (hL9 : gA E 98 0 = nI L9)
    (hrow : ∀ i, i < L → gA E 113 i = cO c i) (hgo : ∀ s, s < L9 → gA E 114 s = cU c s)
    (hsl : ∀ s, s < L9 → gA E 99 s = sl 1 s ∧ gA E 100 (2 * s) = sl 2 s ∧ gA E 100 (2 * s + 1) = sl 3 s ∧ gA E 101 s = sl 4 s ∧ (∃ a, a ≤ 240 ∧ sl 2 s = nI a) ∧ (∃ a, a ≤ 240 ∧ sl 3 s = nI a))
    (hw1 : (gI E 1582 95 = -1 ∨ ¬ 0 < gI E 1583 95) → ¬ 0 < cE c) (hw2 : ¬ gI E 1582 95 = -1 → 0 < gI E 1583 95 → cE c = gI E 1583 95 ∧ gI E 1582 95 = cS c)
    (hb : gI E 1584 95 = cB c) (hf : gI E 1589 95 = fr) (ha : gA E 98 4 = aw) (ha6 : ∃ a, a ≤ 60 ∧ aw = nI a)
    (hR : gA E 98 7 = nI R.length) (hR6 : R.length ≤ 600) (hRs : ∀ i, i < R.length → gA E 106 i = mS (R.getD i 0)) (hR1 : rule1 R) : MVis E (vMk L sl aw R c fr) L9 := by
  obtain ⟨k1, k2, k3, k4, k5, k6, k7⟩ := hc
  have hov : ∀ p, p < L → cO c p = nI (oV (vMk L sl aw R c fr) p) ∧ oV (vMk L sl aw R c fr) p < L9 := fun p hp => by
    obtain ⟨s, hs, e⟩ := k3 p hp
    have es : oV (vMk L sl aw R c fr) p = s := by
      show (cO c p).toNatClampNeg = s
      rw [e, nI_clamp (by omega)]
    rw [es]
    exact ⟨e, hs⟩
  refine ⟨hl, k1, k2, hL9, fun p hp => ?_, fun p q hp hq h => ?_, hw1, fun h1 h2 => ?_, hb, hf, ha, ha6, hR, hR6, hRs, hR1⟩
  · obtain ⟨a1, a2⟩ := hov p hp
    obtain ⟨b1, b2, b3, b4, b5, b6⟩ := hsl _ a2
    exact ⟨a1, a2, (hrow p hp).trans a1, b1, b2, b3, b4, hgo _ a2, b5, b6⟩
  · refine k4 p q hp hq ?_
    rw [(hov p hp).1, (hov q hq).1, h]
  · obtain ⟨e1, e2⟩ := hw2 h1 h2
    have h3 : 0 < cE c := by rw [e1]; exact h2
    obtain ⟨i, hi, e⟩ := k6 h3
    obtain ⟨p1, p2, p3⟩ := plc_hit hi e
    exact ⟨e1, by rw [e2, ← p2]; exact (hov _ p1).1, p1⟩
/-- how often sleeper s is woken, how many turns he began, his side .. -/
def byS (V : NV) (S : NS) (k s : Nat) : Int32 := nA S k (plcF (vA V 0) (nI s) (vL V))
/-- what the class holds: L sleepers, the rule R, m minutes -/
def CI (E : HP) (b L m : Nat) (R : List Int32) : Prop := CR E b ∧ gI E 4 b = nI L ∧ gI E 514 46 = nI L ∧ cokN L L (cfgP E 46) ∧ (∀ s, s < L → ∃ i, i < L ∧ cO (cfgP E 46) i = nI s) ∧ RuleIs E (b + 5) R ∧ gI E 1024 87 = 0 ∧ (1 ≤ m ∧ m ≤ 600 ∧ gI E 7 b = nI m) ∧ (gI E 519 46 = 0 ∨ gI E 519 46 = 1)
def vNow (E : HP) (b L : Nat) (R : List Int32) : NV := vMk L (slC E b) (gI E 8 b) R (cfgP E 46) (gI E 519 46)
theorem ci_nvis {E : HP} {b L m : Nat} {R : List Int32} (h : CI E b L m R) : NVis E b 46 (vNow E b L R) := nvis_mk h.2.2.1 cfg_rfl h.2.2.2.1 rfl rfl rfl h.2.2.2.2.2.1 h.2.2.2.2.2.2.1
def inB (x y : Int32) : Prop := ¬ x < 0 ∧ x < y
def inC (x y : Int32) : Prop := ¬ x < 0 ∧ x ≤ y
set_option maxRecDepth 20000 in
theorem c_X11_checkNumber {d : Nat} {E : HP} {x y : Int32} (h : inB x y) : Cl yX11_checkNumber mX11_checkNumber (d) 0 0 [.ref 0, .int x, .int y] E 137 (.inl none, E, 137) := by
  refine Cl.of (by decide) rfl (fun q => by cases q) rfl rfl (Nat.le_of_ble_eq_true rfl) ?_
  show Sm _ _ _ _ _ 0 [some (.ref 0), some (.int x), some (.int y)] [] _ _
  refine r_iload_n 1 dX11_checkNumber_0 rfl rfl ?_
  refine r_if_lt 4 9 dX11_checkNumber_1 rfl (by decide) (fun h1 => absurd h1 h.1) (fun h1 => ?_)
  refine r_iload_n 5 dX11_checkNumber_4 rfl rfl ?_
  refine r_iload_n 6 dX11_checkNumber_5 rfl rfl ?_
  refine r_icmp_lt 9 17 dX11_checkNumber_6 rfl (by decide) (fun h6 => ?_) (fun h6 => absurd h.2 h6)
  exact r_vret dX11_checkNumber_17 rfl rfl (rfl)
set_option maxRecDepth 20000 in
theorem x_checkNumber {d : Nat} {E : HP} {x y : Int32} (h : ¬ inB x y) : Cl yX11_checkNumber mX11_checkNumber (d) 1 6 [.ref 0, .int x, .int y] E 137 (.inr nseN, E, 137) := by
  refine Cl.of (by decide) rfl (fun q => by cases q) rfl rfl (Nat.le_of_ble_eq_true rfl) ?_
  show Sm _ _ _ _ _ 0 [some (.ref 0), some (.int x), some (.int y)] [] _ _
  refine r_iload_n 1 dX11_checkNumber_0 rfl rfl ?_
  refine r_if_lt 4 9 dX11_checkNumber_1 rfl (by decide) (fun h1 => ?_) (fun h1 => ?_)
  · exact r_throw dX11_checkNumber_9 rfl rfl rfl dX11_checkNumber_12 dX11_checkNumber_13 dX11_checkNumber_16 tp_nse (Or.inr rfl) rfl rfl rfl (by first | rfl | assumption) (rfl) (by decide)
  · refine r_iload_n 5 dX11_checkNumber_4 rfl rfl ?_
    refine r_iload_n 6 dX11_checkNumber_5 rfl rfl ?_
    refine r_icmp_lt 9 17 dX11_checkNumber_6 rfl (by decide) (fun h6 => ?_) (fun h6 => ?_)
    · exact absurd ⟨h1, h6⟩ h
    · exact r_throw dX11_checkNumber_9 rfl rfl rfl dX11_checkNumber_12 dX11_checkNumber_13 dX11_checkNumber_16 tp_nse (Or.inr rfl) rfl rfl rfl (by first | rfl | assumption) (rfl) (by decide)
set_option maxRecDepth 20000 in
theorem c_X11_checkBound {d : Nat} {E : HP} {x y : Int32} (h : inC x y) : Cl yX11_checkBound mX11_checkBound (d) 0 0 [.ref 0, .int x, .int y] E 137 (.inl none, E, 137) := by
  refine Cl.of (by decide) rfl (fun q => by cases q) rfl rfl (Nat.le_of_ble_eq_true rfl) ?_
  show Sm _ _ _ _ _ 0 [some (.ref 0), some (.int x), some (.int y)] [] _ _
  refine r_iload_n 1 dX11_checkBound_0 rfl rfl ?_
  refine r_if_lt 4 9 dX11_checkBound_1 rfl (by decide) (fun h1 => absurd h1 h.1) (fun h1 => ?_)
  refine r_iload_n 5 dX11_checkBound_4 rfl rfl ?_
  refine r_iload_n 6 dX11_checkBound_5 rfl rfl ?_
  refine r_icmp_le 9 17 dX11_checkBound_6 rfl (by decide) (fun h6 => ?_) (fun h6 => absurd h.2 h6)
  exact r_vret dX11_checkBound_17 rfl rfl (rfl)
set_option maxRecDepth 20000 in
theorem x_checkBound {d : Nat} {E : HP} {x y : Int32} (h : ¬ inC x y) : Cl yX11_checkBound mX11_checkBound (d) 1 6 [.ref 0, .int x, .int y] E 137 (.inr iaeN, E, 137) := by
  refine Cl.of (by decide) rfl (fun q => by cases q) rfl rfl (Nat.le_of_ble_eq_true rfl) ?_
  show Sm _ _ _ _ _ 0 [some (.ref 0), some (.int x), some (.int y)] [] _ _
  refine r_iload_n 1 dX11_checkBound_0 rfl rfl ?_
  refine r_if_lt 4 9 dX11_checkBound_1 rfl (by decide) (fun h1 => ?_) (fun h1 => ?_)
  · exact r_throw dX11_checkBound_9 rfl rfl rfl dX11_checkBound_12 dX11_checkBound_13 dX11_checkBound_16 tp_iae (Or.inl rfl) rfl rfl rfl (by first | rfl | assumption) (rfl) (by decide)
  · refine r_iload_n 5 dX11_checkBound_4 rfl rfl ?_
    refine r_iload_n 6 dX11_checkBound_5 rfl rfl ?_
    refine r_icmp_le 9 17 dX11_checkBound_6 rfl (by decide) (fun h6 => ?_) (fun h6 => ?_)
    · exact absurd ⟨h1, h6⟩ h
    · exact r_throw dX11_checkBound_9 rfl rfl rfl dX11_checkBound_12 dX11_checkBound_13 dX11_checkBound_16 tp_iae (Or.inl rfl) rfl rfl rfl (by first | rfl | assumption) (rfl) (by decide)
theorem c_X11_passNight {d b L m : Nat} {R : List Int32} {E : HP} (hci : CI E b L m R) : ∃ E2, (Fr (Pp b) E E2 ∧ KR E E2 ∧ gI E2 260 80 = gI E 260 80 ∧ PR E2 b 46 (vNow E b L R) m) ∧ Cl yX11_passNight mX11_passNight (d + 6) 0 0 [.ref 0] E 137 (.inl none, E2, 137) := by
  obtain ⟨hC, cL, c51, cok, csu, crl, c87, ⟨m1, m6, cmi⟩, cfr⟩ := id hci
  obtain ⟨E2, hE2, hcl⟩ := c_night (d := d) hC (Or.inl rfl) (ci_nvis hci) cok.2.2.2.2.1 m6
  refine ⟨E2, hE2, Cl.of (by decide) rfl (fun q => by cases q) rfl rfl (Nat.le_of_ble_eq_true rfl) ?_⟩
  show Sm _ _ _ _ _ 0 [some (.ref 0)] [] _ _
  refine r_aload_n 1 dX11_passNight_0 rfl rfl ?_
  refine r_getR 4 dX11_passNight_1 rfl f11_76 rfl (by first | with_reducible assumption | with_reducible exact cr_bs hC | rfl) (by first | with_reducible assumption | with_reducible exact cr_bn hC | exact Nat.le_of_ble_eq_true rfl) (cr_1420_0 hC) ?_
  refine r_aload_n 5 dX11_passNight_4 rfl rfl ?_
  refine r_getR 8 dX11_passNight_5 rfl f11_28 rfl (by first | with_reducible assumption | with_reducible exact cr_bs hC | rfl) (by first | with_reducible assumption | with_reducible exact cr_bn hC | exact Nat.le_of_ble_eq_true rfl) (cr_told hC) ?_
  refine r_aload_n 9 dX11_passNight_8 rfl rfl ?_
  refine r_getR 12 dX11_passNight_9 rfl f11_47 rfl (by first | with_reducible assumption | with_reducible exact cr_bs hC | rfl) (by first | with_reducible assumption | with_reducible exact cr_bn hC | exact Nat.le_of_ble_eq_true rfl) (cr_1414_0 hC) ?_
  refine r_getR 15 dX11_passNight_12 rfl f11_116 rfl (by first | with_reducible assumption | with_reducible exact cr_bs hC | rfl) (by first | with_reducible assumption | with_reducible exact cr_bn hC | exact Nat.le_of_ble_eq_true rfl) (cr_1152_45 hC) ?_
  refine r_aload_n 16 dX11_passNight_15 rfl rfl ?_
  refine r_getR 19 dX11_passNight_16 rfl f11_28 rfl (by first | with_reducible assumption | with_reducible exact cr_bs hC | rfl) (by first | with_reducible assumption | with_reducible exact cr_bn hC | exact Nat.le_of_ble_eq_true rfl) (cr_told hC) ?_
  refine r_getIV (nI m) 22 dX11_passNight_19 rfl f11_110 rfl (by first | with_reducible assumption | with_reducible exact cr_bs hC | rfl) (by first | with_reducible assumption | with_reducible exact cr_bn hC | exact Nat.le_of_ble_eq_true rfl) (cmi) ?_
  refine r_callV (M := mX11_passNight) (pc := 22) 25 dX11_passNight_22 rfl k11_240 hcl rfl rfl (by first | with_reducible assumption | with_reducible exact cr_bs hC | rfl) (by decide) rfl (by first | with_reducible assumption | with_reducible exact cr_bn hC | exact Nat.le_of_ble_eq_true rfl) (Nat.le_of_ble_eq_true rfl) ?_
  exact r_vret dX11_passNight_25 rfl rfl (rfl)
theorem c_X11_passTrial {d b m : Nat} {V : NV} {E : HP} (hC : CR E b) (ov : NVis E b 75 V) (he : ∃ e, e ≤ 240 ∧ vS V 0 = nI e) (m6 : m ≤ 600) (cmi : gI E 7 b = nI m) : ∃ E2, (Fr (Pp b) E E2 ∧ KR E E2 ∧ gI E2 260 80 = gI E 260 80 ∧ PR E2 b 75 V m) ∧ Cl yX11_passTrial mX11_passTrial (d + 6) 0 0 [.ref 0] E 137 (.inl (some (.int (nS (nightF V m) 2))), E2, 137) := by
  obtain ⟨E2, hE2, hcl⟩ := c_night (d := d) hC (Or.inr rfl) ov he m6
  refine ⟨E2, hE2, Cl.of (by decide) rfl (fun q => by cases q) rfl rfl (Nat.le_of_ble_eq_true rfl) ?_⟩
  show Sm _ _ _ _ _ 0 [some (.ref 0)] [] _ _
  have hC2 := cr_kr hE2.2.1 hC
  have hwo : gI E2 265 80 = nS (nightF V m) 2 := hE2.2.2.2.2.2.1
  refine r_aload_n 1 dX11_passTrial_0 rfl rfl ?_
  refine r_getR 4 dX11_passTrial_1 rfl f11_76 rfl (by first | with_reducible assumption | with_reducible exact cr_bs hC | rfl) (by first | with_reducible assumption | with_reducible exact cr_bn hC | exact Nat.le_of_ble_eq_true rfl) (cr_1420_0 hC) ?_
  refine r_aload_n 5 dX11_passTrial_4 rfl rfl ?_
  refine r_getR 8 dX11_passTrial_5 rfl f11_28 rfl (by first | with_reducible assumption | with_reducible exact cr_bs hC | rfl) (by first | with_reducible assumption | with_reducible exact cr_bn hC | exact Nat.le_of_ble_eq_true rfl) (cr_told hC) ?_
  refine r_aload_n 9 dX11_passTrial_8 rfl rfl ?_
  refine r_getR 12 dX11_passTrial_9 rfl f11_67 rfl (by first | with_reducible assumption | with_reducible exact cr_bs hC | rfl) (by first | with_reducible assumption | with_reducible exact cr_bn hC | exact Nat.le_of_ble_eq_true rfl) (cr_1419_0 hC) ?_
  refine r_aload_n 13 dX11_passTrial_12 rfl rfl ?_
  refine r_getR 16 dX11_passTrial_13 rfl f11_28 rfl (by first | with_reducible assumption | with_reducible exact cr_bs hC | rfl) (by first | with_reducible assumption | with_reducible exact cr_bn hC | exact Nat.le_of_ble_eq_true rfl) (cr_told hC) ?_
  refine r_getIV (nI m) 19 dX11_passTrial_16 rfl f11_110 rfl (by first | with_reducible assumption | with_reducible exact cr_bs hC | rfl) (by first | with_reducible assumption | with_reducible exact cr_bn hC | exact Nat.le_of_ble_eq_true rfl) (cmi) ?_
  refine r_callV (M := mX11_passTrial) (pc := 19) 22 dX11_passTrial_19 rfl k11_240 hcl rfl rfl (by first | with_reducible assumption | with_reducible exact cr_bs hC | rfl) (by decide) rfl (by first | with_reducible assumption | with_reducible exact cr_bn hC | exact Nat.le_of_ble_eq_true rfl) (Nat.le_of_ble_eq_true rfl) ?_
  refine r_aload_n 23 dX11_passTrial_22 rfl rfl ?_
  refine r_getR 26 dX11_passTrial_23 rfl f11_76 rfl (by first | with_reducible assumption | with_reducible exact cr_bs hC | rfl) (by first | with_reducible assumption | with_reducible exact cr_bn hC | exact Nat.le_of_ble_eq_true rfl) (cr_1420_0 hC2) ?_
  refine r_getIV (nS (nightF V m) 2) 29 dX11_passTrial_26 rfl f11_230 rfl (by first | with_reducible assumption | with_reducible exact cr_bs hC | rfl) (by first | with_reducible assumption | with_reducible exact cr_bn hC | exact Nat.le_of_ble_eq_true rfl) (hwo) ?_
  exact r_iret dX11_passTrial_29 rfl rfl (rfl)
