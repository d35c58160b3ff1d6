/-! The class: orders, order, edge -/
/-- what a question of orders may change besides: the kept one -/
def Qo (b k : Nat) : Prop := Qq b k ∨ k = 0 ∨ k = 74
def QO (b : Nat) (E E2 : HP) : Prop := Fr (Qo b) E E2 ∧ KR E E2 ∧ ∀ g, g ≠ 1418 → gI E2 g 0 = gI E g 0
theorem qo_no {b k : Nat} (hb : b = 3 ∨ b = 22) (h : (k < 75 ∧ k ≠ b + 9 ∧ k ≠ b + 11 ∧ k ≠ 0 ∧ k ≠ 74) ∨ k = 87 ∨ 94 < k) : ¬ Qo b k := by
  unfold Qo Qq Pp; omega
theorem qo_of {b : Nat} {E E2 : HP} (hb : b = 3 ∨ b = 22) (h : QF b E E2) : QO b E E2 := ⟨fr_mono h.1 (fun _ z => Or.inl z), h.2, fun g _ => fr_gI h.1 (qq_no hb (by omega)) g⟩
theorem qo_tr {b : Nat} {E E2 E3 : HP} (h : QO b E E2) (h2 : QO b E2 E3) : QO b E E3 := ⟨fr_tr h.1 h2.1, kr_tr h.2.1 h2.2.1, fun g hg => (h2.2.2 g hg).trans (h.2.2 g hg)⟩
theorem ci_qo {b L m : Nat} {R : List Int32} {E E2 : HP} (h : QO b E E2) (c : CI E b L m R) : CI E2 b L m R ∧ cfgP E2 46 = cfgP E 46 ∧ slC E2 b = slC E b ∧ gI E2 8 b = gI E 8 b ∧ gI E2 519 46 = gI E 519 46 := by
  obtain ⟨c1, c2, c3, c4, c5, c6, c7, ⟨c8, c9, c10⟩, c11⟩ := c
  have hb := c1.1
  have hq : ∀ k, ((k < 75 ∧ k ≠ b + 9 ∧ k ≠ b + 11 ∧ k ≠ 0 ∧ k ≠ 74) ∨ k = 87) → ¬ Qo b k := fun k hk => qo_no hb (by omega)
  have i46 : ∀ g, gI E2 g 46 = gI E g 46 := fun g => fr_gI h.1 (hq _ (by omega)) g
  have ib : ∀ g, gI E2 g b = gI E g b := fun g => fr_gI h.1 (hq _ (by omega)) g
  have ecf : cfgP E2 46 = cfgP E 46 := by
    unfold cfgP
    rw [i46, i46, i46, i46, fr_gA h.1 (hq (46 + 2) (by omega)), fr_gA h.1 (hq (46 + 4) (by omega))]
  have esl : slC E2 b = slC E b := by
    funext k s
    unfold slC
    by_cases hs : s < 7
    · rw [if_pos hs, if_pos hs, fr_gI h.1 (hq _ (by omega))]
    · rw [if_neg hs, if_neg hs]
  refine ⟨⟨cr_kr h.2.1 c1, (ib 4).trans c2, (i46 514).trans c3, by rw [ecf]; exact c4, by rw [ecf]; exact c5, ⟨?_, c6.2.1, fun i hi => ?_, c6.2.2.2⟩, by rw [fr_gI h.1 (hq _ (Or.inr rfl))]; exact c7, ⟨c8, c9, (ib 7).trans c10⟩, by rw [i46]; exact c11⟩, ecf, esl, ib 8, i46 519⟩
  · rw [fr_gI h.1 (hq _ (by omega))]; exact c6.1
  · rw [fr_gA h.1 (hq _ (by omega))]; exact c6.2.2.1 i hi
/-- a plan with another order -/
def cOrd (c : Cfg) (l : List Nat) : Cfg := (fun i => nI (gN l i), c.2)
theorem ful_ord {c : Cfg} {L : Nat} {l : List Nat} (h : cful L c) (hl : PermOK L l) : cful L (cOrd c l) := by
  obtain ⟨⟨k1, k2, k3, k4, k5, k6, k7⟩, hs⟩ := h
  obtain ⟨l1, l2, l3, l4⟩ := hl
  have hO : ∀ i, cO (cOrd c l) i = nI (gN l i) := fun _ => rfl
  refine ⟨⟨k1, k2, fun i hi => ⟨gN l i, l2 i hi, rfl⟩, fun i j hi hj e => ?_, k5, fun z => ?_, k7⟩, fun s h9 => ?_⟩
  · rw [hO, hO] at e
    have a := l2 i hi
    have b := l2 j hj
    exact l3 i j hi hj ((nI_eq (by omega) (by omega)).mp e)
  · obtain ⟨i, hi, e⟩ := k6 z
    obtain ⟨s, hs9, e2⟩ := k3 i hi
    obtain ⟨j, hj, e3⟩ := l4 s hs9
    exact ⟨j, hj, by rw [hO, e3, ← e2]; exact e⟩
  · obtain ⟨j, hj, e3⟩ := l4 s h9
    exact ⟨j, hj, by rw [hO, e3]⟩
/-- a night's ground: only those who lie count -/
theorem nvis_mk2 {E : HP} {b p L L9 : Nat} {R : List Int32} {c : Cfg} {sl : Nat → Nat → Int32} {aw fr : Int32} (hl : gI E 514 p = nI L) (e1 : ∀ i, i < L → gA E (p + 2) i = cO c i) (e6 : ∀ i, i < 7 → gA E (p + 4) i = cU c i) (e2 : gI E 515 p = cF c) (e3 : gI E 516 p = cS c) (e4 : gI E 517 p = cE c) (e5 : gI E 518 p = cB c) (hc : cokN L L9 c) (hsl : slC E b = sl) (haw : gI E 8 b = aw) (hfr : gI E 519 p = fr) (hr : RuleIs E (b + 5) R) (h87 : gI E 1024 87 = 0) : NVis E b p (vMk L sl aw R c fr) := by
  subst hsl; subst haw; subst hfr
  obtain ⟨k1, k2, k3, k4, k5, k6, k7⟩ := hc
  have ho : ∀ i, i < L → ordAt E p i = cO c i := fun i hi => by
    unfold ordAt
    rw [rAt_nI (by omega) (by omega)]
    exact e1 i hi
  refine ⟨hl, show L ≤ 7 by omega, fun i hi => ?_, e4, e5, rfl, rfl, e2, hr, fun h => ?_, h87⟩
  · obtain ⟨s, hs, e⟩ := k3 i hi
    have ew : wI b (vMk L (slC E b) (gI E 8 b) R c (gI E 519 p)) i = b + 12 + s := by
      show whoId b (cO c i) = _
      rw [e, whoId_nI (by omega)]
    have es : (cO c i).toNatClampNeg = s := by rw [e, nI_clamp (by omega)]
    rw [ew]
    refine ⟨ho i hi, ?_, ?_, ?_, ?_, ?_⟩
    · show _ = slC E b 1 (cO c i).toNatClampNeg; rw [es, slC_lt (by omega)]
    · show _ = slC E b 2 (cO c i).toNatClampNeg; rw [es, slC_lt (by omega)]
    · show _ = slC E b 3 (cO c i).toNatClampNeg; rw [es, slC_lt (by omega)]
    · show _ = slC E b 4 (cO c i).toNatClampNeg; rw [es, slC_lt (by omega)]
    · show rAt E (p + 3) 7 (cO c i) = cU c (cO c i).toNatClampNeg
      rw [es, e, rAt_nI (by omega) (by omega)]
      exact e6 s (by omega)
  · obtain ⟨i, hi, e⟩ := k6 h
    obtain ⟨a1, a2, a3⟩ := plc_hit hi e
    rw [e3]
    refine ⟨Or.inl ⟨plcF (cO c) (cS c) L, a1, by rw [ho _ a1]; exact a2, fun j hj => ?_, rfl⟩, a1⟩
    rw [ho j (by omega)]
    exact a3 j hj
/-- a trial with the order l -/
def TO (E E1 : HP) (b : Nat) (l : List Nat) (c : Cfg) (fr : Int32) : Prop := QO b E E1 ∧ gI E1 514 75 = nI l.length ∧ OrdL E1 75 l ∧ (∀ i, i < 7 → gA E1 79 i = cU c i) ∧ gI E1 515 75 = cF c ∧ gI E1 516 75 = cS c ∧ gI E1 517 75 = cE c ∧ gI E1 518 75 = cB c ∧ gI E1 519 75 = fr
theorem to_nvis {E E1 : HP} {b L m : Nat} {l : List Nat} {R : List Int32} {c : Cfg} {fr : Int32} (h : TO E E1 b l c fr) (hci : CI E b L m R) (hc : cokN L L (cOrd c l)) (hL : l.length = L) : NVis E1 b 75 (vMk L (slC E b) (gI E 8 b) R (cOrd c l) fr) := by
  obtain ⟨h1, h2, h3, h4, h5, h6, h7, h8, h9⟩ := h
  obtain ⟨hci1, -, esl, eaw, -⟩ := ci_qo h1 hci
  subst hL
  exact nvis_mk2 h2 (fun i hi => (h3.1 i hi).1) h4 h5 h6 h7 h8 hc esl eaw h9 hci1.2.2.2.2.2.1 hci1.2.2.2.2.2.2.1
theorem to_pass {E E1 E2 : HP} {b : Nat} {l : List Nat} {c : Cfg} {fr : Int32} (hb : b = 3 ∨ b = 22) (h : TO E E1 b l c fr) (f : Fr (Pp b) E1 E2) (k : KR E1 E2) : TO E E2 b l c fr := by
  obtain ⟨h1, h2, h3, h4, h5, h6, h7, h8, h9⟩ := h
  have hn : ∀ j, j = 75 ∨ j = 77 ∨ j = 79 → ¬ Pp b j := fun j hj => by unfold Pp; omega
  have i75 : ∀ g, gI E2 g 75 = gI E1 g 75 := fun g => fr_gI f (hn _ (by omega)) g
  refine ⟨qo_tr h1 (qo_of hb (qf_pp f k)), (i75 _).trans h2, ⟨fun i hi => ?_, h3.2⟩, fun i hi => ?_, (i75 _).trans h5, (i75 _).trans h6, (i75 _).trans h7, (i75 _).trans h8, (i75 _).trans h9⟩
  · rw [fr_gA f (hn (75 + 2) (by omega))]; exact h3.1 i hi
  · rw [fr_gA f (hn 79 (by omega))]; exact h4 i hi
theorem to_next {E E1 E2 : HP} {b : Nat} {l l2 : List Nat} {c : Cfg} {fr : Int32} (hb : b = 3 ∨ b = 22) (h : TO E E1 b l c fr) (s : SR E1 E2) (i75 : ∀ g k, gI E2 g k = gI E1 g k) (f : Fr (fun j => j = 75 + 2) E1 E2) (ho : OrdL E2 75 l2) (hl : l2.length = l.length) : TO E E2 b l2 c fr := by
  obtain ⟨h1, h2, h3, h4, h5, h6, h7, h8, h9⟩ := h
  refine ⟨qo_tr h1 (qo_of hb (fr_Qq f (fun k hk => by unfold Qq; omega) s)), by rw [i75, hl]; exact h2, ho, fun i hi => ?_, (i75 _ _).trans h5, (i75 _ _).trans h6, (i75 _ _).trans h7, (i75 _ _).trans h8, (i75 _ _).trans h9⟩
  rw [fr_gA f (by decide)]; exact h4 i hi
theorem to_start {E E1 : HP} {b L : Nat} {c : Cfg} {fr : Int32} (hb : b = 3 ∨ b = 22) (h7 : L ≤ 7) (h : TR E E1 b L c fr) : TO E (rUp 76 7 E1) b (List.range L) c fr := by
  obtain ⟨h1, h2, ⟨e1, e2, e3, e4, e5⟩, h4⟩ := h
  have hF : Fr (fun j => j = 75 + 2) E1 (rUp 76 7 E1) := fr_up rfl fr_rfl
  have g : ∀ g k, gI (rUp 76 7 E1) g k = gI E1 g k := fun _ _ => gI_rUp
  refine ⟨qo_of hb (qf_tr h1 (fr_Qq hF (fun k hk => by unfold Qq; omega) (sr_up sr_rfl))), by rw [g, List.length_range]; exact h2, ⟨fun i hi => ?_, by rw [List.length_range]; exact h7⟩, fun i hi => ?_, (g _ _).trans e2, (g _ _).trans e3, (g _ _).trans e4, (g _ _).trans e5, (g _ _).trans h4⟩
  · rw [List.length_range] at hi
    have hg : gN (List.range L) i = i := by
      unfold gN
      rw [List.getD_eq_getElem?_getD, List.getElem?_range hi]; rfl
    rw [hg]
    refine ⟨?_, by omega⟩
    have hu := up_at (E := E1) (h := 76) (k := 7) (m := i)
    exact hu.trans (if_pos (by omega))
  · rw [fr_gA hF (by decide)]; exact (e1 i hi).2
theorem alw_ok {E : HP} {b : Nat} {l : List Nat} {ne : Nat → Int32} (h : OrdL E 75 l) (hne : ∀ i, i < 7 → gA E (b + 4) i = ne i) : alwV E b 75 (if l.length = 0 then 1 else l.length) = (if okN ne 0 l = true then 1 else 0) := by
  have hk : ∀ k, k < l.length → ¬ k = 0 → (nevV E b (rAt E (75 + 1) 7 (nI k - 1)) (ordAt E 75 k) = 0 ↔ neV ne (gN l (k - 1)) (gN l k) = false) := fun k hk h0 => by
    obtain ⟨r, hr⟩ : ∃ r, k = r + 1 := ⟨k - 1, by omega⟩
    subst hr
    have h7 := h.2
    rw [dn1, ordAt_L h (by omega)]
    show nevV E b (nI (gN l r)) (rAt E (75 + 1) 7 (nI (r + 1))) = 0 ↔ _
    rw [ordAt_L h hk, Nat.add_sub_cancel]
    have a := (h.1 r (by omega)).2
    unfold nevV neV
    rw [rAt_nI a (by omega), show gA E (b + 3 + 1) (gN l r) = ne (gN l r) from hne _ a]
    by_cases hc : (ne (gN l r) >>> (nI (gN l (r + 1)) &&& 31)) &&& 1 = 1
    · rw [if_pos hc, decide_eq_true hc]
      exact ⟨fun z => absurd z (by decide), fun z => by cases z⟩
    · rw [if_neg hc, decide_eq_false hc]
      exact ⟨fun _ => rfl, fun _ => rfl⟩
  unfold alwV
  by_cases hc : okN ne 0 l = true
  · rw [if_pos hc]
    apply b01_t
    intro k h1 h2
    have h3 : k < l.length := by split at h2 <;> omega
    exact (hk k h3 (by omega)).mpr (okN_iff.mp hc k h3 (by omega) (Nat.zero_le _))
  · rw [if_neg hc]
    apply b01_f
    intro z
    apply hc
    rw [okN_iff]
    intro k h3 h0 _
    exact (hk k h3 h0).mp (z k (by omega) (by split <;> omega))
/-- how many of the first k rows are allowed -/
def ordN (ok : List Nat → Bool) (P : List (List Nat)) : Nat → Nat
  | 0 => 0
  | k + 1 => if ok (P.getD k []) = true then ordN ok P k + 1 else ordN ok P k
/-- the first of the first k rows by which the least comes, how much, and which -/
def ordB (ok : List Nat → Bool) (w : List Nat → Int32) (P : List (List Nat)) : Nat → Int32 × Option (List Nat)
  | 0 => (-1, none)
  | k + 1 => if ok (P.getD k []) = true ∧ ((ordB ok w P k).1 = -1 ∨ w (P.getD k []) < (ordB ok w P k).1) then (w (P.getD k []), some (P.getD k [])) else ordB ok w P k
theorem ordN_le {ok : List Nat → Bool} {P : List (List Nat)} : ∀ k, ordN ok P k ≤ k := by
  intro k
  induction k with
  | zero => exact Nat.le_refl _
  | succ k ih =>
    unfold ordN
    split
    · omega
    · omega
/-- which order is kept behind it -/
def KeptIs (E E2 : HP) (L : Nat) : Option (List Nat) → Prop
  | none => gI E2 1418 0 = gI E 1418 0 ∧ gA E2 74 = gA E 74
  | some l => gI E2 1418 0 = nI L ∧ ∀ i, i < L → gA E2 74 i = nI (gN l i)
theorem kept_fr {P : Nat → Prop} {E E1 E2 : HP} {L : Nat} {q : Option (List Nat)} (h : KeptIs E E1 L q) (f : Fr P E1 E2) (h0 : ¬ P 0) (h74 : ¬ P 74) : KeptIs E E2 L q := by
  cases q with
  | none => exact ⟨(fr_gI f h0 _).trans h.1, (fr_gA f h74).trans h.2⟩
  | some l => exact ⟨(fr_gI f h0 _).trans h.1, fun i hi => by rw [fr_gA f h74]; exact h.2 i hi⟩
theorem nx_flag {L k9 : Nat} {l : List Nat} (h6 : L < 7) (hl : (permL L)[k9]? = some l) : (if (nextF l).isSome = true then (1 : Int32) else 0) = (if k9 + 1 < (permL L).length then 1 else 0) := by
  rw [perm_next h6 hl]
  by_cases h : k9 + 1 < (permL L).length
  · rw [if_pos h, List.getElem?_eq_getElem h]; rfl
  · rw [if_neg h, List.getElem?_eq_none (by omega)]; rfl
theorem nx_row {L k9 : Nat} {l : List Nat} (h6 : L < 7) (hl : (permL L)[k9]? = some l) (hk : k9 + 1 < (permL L).length) : (permL L)[k9 + 1]? = some ((nextF l).getD l) := by
  rw [perm_next h6 hl, List.getElem?_eq_getElem hk]; rfl
theorem nx_len {L k9 : Nat} {l : List Nat} (h6 : L < 7) (hl : (permL L)[k9]? = some l) : ((nextF l).getD l).length = l.length := by
  rw [perm_next h6 hl]
  have a := (perm_ok h6 l (List.mem_of_getElem? hl)).1
  by_cases h : k9 + 1 < (permL L).length
  · rw [List.getElem?_eq_getElem h]
    show (permL L)[k9 + 1].length = _
    rw [(perm_ok h6 _ (List.getElem_mem h)).1, a]
  · rw [List.getElem?_eq_none (by omega)]; rfl
theorem getD_of {L k9 : Nat} {l : List Nat} (hl : (permL L)[k9]? = some l) : (permL L).getD k9 [] = l := by
  rw [List.getD_eq_getElem?_getD, hl]; rfl
theorem perm_pos {L : Nat} (h : L < 7) : 0 < (permL L).length := by
  have := perm_0 h
  rcases Nat.eq_zero_or_pos (permL L).length with z | z
  · rw [List.getElem?_eq_none (by omega)] at this; cases this
  · exact z
theorem kept_new {E E1 : HP} {b : Nat} {l : List Nat} {c : Cfg} {fr : Int32} (h : TO E E1 b l c fr) : TO E (sI (rCopy 73 76 7 7 E1) 1418 0 (nI l.length)) b l c fr ∧ KeptIs E (sI (rCopy 73 76 7 7 E1) 1418 0 (nI l.length)) l.length (some l) := by
  obtain ⟨h1, h2, h3, h4, h5, h6, h7, h8, h9⟩ := h
  have hF : Fr (fun k => k = 74) E1 (rCopy 73 76 7 7 E1) := fr_copy rfl fr_rfl
  have hS : SR E1 (rCopy 73 76 7 7 E1) := sr_copy sr_rfl
  have g : ∀ g k, k ≠ 0 → gI (sI (rCopy 73 76 7 7 E1) 1418 0 (nI l.length)) g k = gI E1 g k := fun g k hk => by
    rw [gI_sI, if_neg (fun z => hk z.2), gI_rCopy]
  have ga : ∀ a, a ≠ 74 → gA (sI (rCopy 73 76 7 7 E1) 1418 0 (nI l.length)) a = gA E1 a := fun a ha => fr_gA hF ha
  refine ⟨⟨⟨fr_tr h1.1 (fr_sI (Or.inr (Or.inl rfl)) (fr_mono hF (fun k z => Or.inr (Or.inr z)))), kr_tr h1.2.1 (kr_sr (sr_sI hS)), fun g9 hg => ?_⟩, (g _ _ (by decide)).trans h2, ⟨fun i hi => ?_, h3.2⟩, fun i hi => ?_, (g _ _ (by decide)).trans h5, (g _ _ (by decide)).trans h6, (g _ _ (by decide)).trans h7, (g _ _ (by decide)).trans h8, (g _ _ (by decide)).trans h9⟩, ?_, fun i hi => ?_⟩
  · rw [gI_sI, if_neg (fun z => hg z.1), gI_rCopy]; exact h1.2.2 g9 hg
  · rw [ga (75 + 2) (by decide)]; exact h3.1 i hi
  · rw [ga 79 (by decide)]; exact h4 i hi
  · rw [gI_sI, if_pos ⟨rfl, rfl⟩]
  · have h7' := h3.2
    show gA (rCopy 73 76 7 7 E1) 74 i = _
    refine (copy_at (h := 73) (h2 := 76) (by decide) (Nat.le_refl _) (by decide)).trans ((if_pos (by omega)).trans ?_)
    exact (h3.1 i hi).1
theorem c_X11_keep {d b l : Nat} {E : HP} (hC : CR E b) (hl : gI E 514 75 = nI l) : Cl yX11_keepTrialOrder mX11_keepTrialOrder (d + 2) 0 0 [.ref 0] E 137 (.inl none, sI (rCopy 73 76 7 7 E) 1418 0 (nI l), 137) := by
  have hC2 : CR (rCopy 73 76 7 7 E) b := cr_sr (sr_copy sr_rfl) hC
  have hl2 : gI (rCopy 73 76 7 7 E) 514 75 = nI l := gI_rCopy.trans hl
  have hcp := c_X6_copy (d := d) (cr_row73 hC) (cr_row76 hC)
  refine Cl.of (by decide) rfl (fun q => by cases q) rfl rfl (Nat.le_of_ble_eq_true rfl) ?_
  show Sm _ _ _ _ _ 0 [some (.ref 0)] [] _ _
  refine r_aload_n 1 dX11_keepTrialOrder_0 rfl rfl ?_
  refine r_getR 4 dX11_keepTrialOrder_1 rfl f11_58 rfl (by first | with_reducible assumption | with_reducible exact cr_bs hC | rfl) (by first | with_reducible assumption | with_reducible exact cr_bn hC | exact Nat.le_of_ble_eq_true rfl) (cr_1417_0 hC) ?_
  refine r_aload_n 5 dX11_keepTrialOrder_4 rfl rfl ?_
  refine r_getR 8 dX11_keepTrialOrder_5 rfl f11_67 rfl (by first | with_reducible assumption | with_reducible exact cr_bs hC | rfl) (by first | with_reducible assumption | with_reducible exact cr_bn hC | exact Nat.le_of_ble_eq_true rfl) (cr_1419_0 hC) ?_
  refine r_getR 11 dX11_keepTrialOrder_8 rfl f11_202 rfl (by first | with_reducible assumption | with_reducible exact cr_bs hC | rfl) (by first | with_reducible assumption | with_reducible exact cr_bn hC | exact Nat.le_of_ble_eq_true rfl) (cr_512_75 hC) ?_
  refine r_callV (M := mX11_keepTrialOrder) (pc := 11) 14 dX11_keepTrialOrder_11 rfl k11_293 hcp rfl rfl (by first | with_reducible assumption | with_reducible exact cr_bs hC | rfl) (by decide) rfl (by first | with_reducible assumption | with_reducible exact cr_bn hC | exact Nat.le_of_ble_eq_true rfl) (Nat.le_of_ble_eq_true rfl) ?_
  refine r_aload_n 15 dX11_keepTrialOrder_14 rfl rfl ?_
  refine r_aload_n 16 dX11_keepTrialOrder_15 rfl rfl ?_
  refine r_getR 19 dX11_keepTrialOrder_16 rfl f11_67 rfl (by first | with_reducible assumption | with_reducible exact cr_bs hC | rfl) (by first | with_reducible assumption | with_reducible exact cr_bn hC | exact Nat.le_of_ble_eq_true rfl) (cr_1419_0 hC2) ?_
  refine r_getIV (nI l) 22 dX11_keepTrialOrder_19 rfl f11_296 rfl (by first | with_reducible assumption | with_reducible exact cr_bs hC | rfl) (by first | with_reducible assumption | with_reducible exact cr_bn hC | exact Nat.le_of_ble_eq_true rfl) (hl2) ?_
  refine r_putI 25 dX11_keepTrialOrder_22 rfl f11_61 (by first | with_reducible assumption | with_reducible exact cr_bs hC | rfl) (by first | with_reducible assumption | with_reducible exact cr_bn hC | exact Nat.le_of_ble_eq_true rfl) ?_
  exact r_vret dX11_keepTrialOrder_25 rfl rfl (rfl)
set_option maxRecDepth 20000 in
theorem c_X11_orders {d b L m : Nat} {R : List Int32} {E : HP} (hci : CI E b L m R) (hL6 : L < 7) : ∃ o, (∃ E2, o = (.inl (some (.int ((nI (ordN (okN (gA E (b + 4)) 0) (permL L) (permL L).length))))), E2, 137) ∧ QO b E E2 ∧ KeptIs E E2 L none) ∧ Cl yX11_orders mX11_orders (d + 8) 0 0 [.ref 0] E 137 o := by
  obtain ⟨hC, cL, c51, cok, csu, crl, c87, ⟨m1, m6, cmi⟩, cfr⟩ := id hci
  have hb := hC.1
  have l7 : L ≤ 7 := cok.2.1
  have hful : cful L (cfgP E 46) := ⟨cok, csu⟩
  have hN := perm_len hL6
  have hN0 := perm_pos hL6
  obtain ⟨E1, t1, hcp⟩ := c_copy (d := d + 5) hci
  have hC1 := cr_kr t1.1.2 hC
  have hup := c_X6_countUp (d := d + 7) (cr_row76 hC1)
  have t2 := to_start hb l7 t1
  have h76 : gA E1 74 = gA E 74 := fr_gA t1.1.1 (qq_no hb (by omega))
  have k0 : KeptIs E (rUp 76 7 E1) L none := ⟨(by rw [gI_rUp]; exact fr_gI t1.1.1 (qq_no hb (by omega)) 1418), by rw [show gA (rUp 76 7 E1) 74 = gA E1 74 from fr_gA (P := fun k => k = 77) (fr_up (P := fun k => k = 77) rfl fr_rfl) (by decide)]; exact fr_gA t1.1.1 (qq_no hb (by omega))⟩
  refine Cx.of (by decide) rfl (fun q => by cases q) rfl rfl (Nat.le_of_ble_eq_true rfl) ?_
  show Sx _ _ _ _ _ 0 [some (.ref 0), none, none, none] [] _ _
  have loop := sxUp (S := fun k9 E2 => Sx mX11_orders (d + 8) 0 0 (fun o => ∃ E2, o = (.inl (some (.int ((nI (ordN (okN (gA E (b + 4)) 0) (permL L) (permL L).length))))), E2, 137) ∧ QO b E E2 ∧ KeptIs E E2 L none) 45 [some (.ref 0), some (.int (nI (ordN (okN (gA E (b + 4)) 0) (permL L) k9))), some (.int (if k9 < (permL L).length then (1 : Int32) else 0)), some (.int (nI k9))] [] E2 137) (Inv := fun k9 E2 => (∃ l, TO E E2 b l (cfgP E 46) (gI E 519 46) ∧ l.length = L ∧ (k9 < (permL L).length → (permL L)[k9]? = some l)) ∧ KeptIs E E2 L none) (a := 0) (l := (permL L).length) (by omega) ?_ ?_
  refine Sx.up (fun _ kk => r_aload_n 1 dX11_orders_0 rfl rfl kk) ?_
  refine Sx.up (fun _ kk => r_getR 4 dX11_orders_1 rfl f11_28 rfl (by first | with_reducible assumption | with_reducible exact cr_bs hC | rfl) (by first | with_reducible assumption | with_reducible exact cr_bn hC | exact Nat.le_of_ble_eq_true rfl) (cr_told hC) kk) ?_
  refine Sx.up (fun _ kk => r_getIV (nI L) 7 dX11_orders_4 rfl f11_101 rfl (by first | with_reducible assumption | with_reducible exact cr_bs hC | rfl) (by first | with_reducible assumption | with_reducible exact cr_bn hC | exact Nat.le_of_ble_eq_true rfl) (cL) kk) ?_
  refine Sx.up (fun _ kk => r_bipush (6) 9 dX11_orders_7 rfl (by decide) kk) ?_
  refine Sx.up (fun _ kk => r_icmp_le 12 15 dX11_orders_9 rfl (by decide) (fun _ => kk) (fun h9 => absurd (nI_le (b := 6) (by omega) (by omega)) h9)) ?_
  refine Sx.up (fun _ kk => r_iconst (0) 16 dX11_orders_15 rfl (by decide) kk) ?_
  refine Sx.up (fun _ kk => r_istore_n 17 dX11_orders_16 rfl (by decide) rfl kk) ?_
  refine Sx.up (fun _ kk => r_aload_n 18 dX11_orders_17 rfl rfl kk) ?_
  refine Sx.up (fun _ kk => r_getR 21 dX11_orders_18 rfl f11_67 rfl (by first | with_reducible assumption | with_reducible exact cr_bs hC | rfl) (by first | with_reducible assumption | with_reducible exact cr_bn hC | exact Nat.le_of_ble_eq_true rfl) (cr_1419_0 hC) kk) ?_
  refine Sx.up (fun _ kk => r_aload_n 22 dX11_orders_21 rfl rfl kk) ?_
  refine Sx.up (fun _ kk => r_getR 25 dX11_orders_22 rfl f11_47 rfl (by first | with_reducible assumption | with_reducible exact cr_bs hC | rfl) (by first | with_reducible assumption | with_reducible exact cr_bn hC | exact Nat.le_of_ble_eq_true rfl) (cr_1414_0 hC) kk) ?_
  refine Sx.up (fun _ kk => r_getR 28 dX11_orders_25 rfl f11_116 rfl (by first | with_reducible assumption | with_reducible exact cr_bs hC | rfl) (by first | with_reducible assumption | with_reducible exact cr_bn hC | exact Nat.le_of_ble_eq_true rfl) (cr_1152_45 hC) kk) ?_
  refine Sx.up (fun _ kk => r_callV (M := mX11_orders) (pc := 28) 31 dX11_orders_28 rfl k11_272 hcp rfl rfl (by first | with_reducible assumption | with_reducible exact cr_bs hC | rfl) (by decide) rfl (by first | with_reducible assumption | with_reducible exact cr_bn hC | exact Nat.le_of_ble_eq_true rfl) (Nat.le_of_ble_eq_true rfl) kk) ?_
  refine Sx.up (fun _ kk => r_aload_n 32 dX11_orders_31 rfl rfl kk) ?_
  refine Sx.up (fun _ kk => r_getR 35 dX11_orders_32 rfl f11_67 rfl (by first | with_reducible assumption | with_reducible exact cr_bs hC | rfl) (by first | with_reducible assumption | with_reducible exact cr_bn hC | exact Nat.le_of_ble_eq_true rfl) (cr_1419_0 hC1) kk) ?_
  refine Sx.up (fun _ kk => r_getR 38 dX11_orders_35 rfl f11_202 rfl (by first | with_reducible assumption | with_reducible exact cr_bs hC | rfl) (by first | with_reducible assumption | with_reducible exact cr_bn hC | exact Nat.le_of_ble_eq_true rfl) (cr_512_75 hC1) kk) ?_
  refine Sx.up (fun _ kk => r_callV (M := mX11_orders) (pc := 38) 41 dX11_orders_38 rfl k11_276 hup rfl rfl (by first | with_reducible assumption | with_reducible exact cr_bs hC | rfl) (by decide) rfl (by first | with_reducible assumption | with_reducible exact cr_bn hC | exact Nat.le_of_ble_eq_true rfl) (Nat.le_of_ble_eq_true rfl) kk) ?_
  refine Sx.up (fun _ kk => r_iconst (1) 42 dX11_orders_41 rfl (by decide) kk) ?_
  refine Sx.up (fun _ kk => r_istore_n 43 dX11_orders_42 rfl (by decide) rfl kk) ?_
  refine Sx.up (fun _ kk => r_iconst (0) 44 dX11_orders_43 rfl (by decide) kk) ?_
  refine Sx.up (fun _ kk => r_istore_n 45 dX11_orders_44 rfl (by decide) rfl kk) ?_
  have hgo := loop _ ⟨⟨List.range L, t2, List.length_range, fun _ => perm_0 hL6⟩, k0⟩
  rw [if_pos hN0] at hgo
  exact hgo
  · rintro E2 ⟨⟨l, t3, hll, -⟩, hke⟩
    have hz : ¬ (permL L).length < (permL L).length := Nat.lt_irrefl _
    refine Sx.up (fun _ kk => r_iload_n 46 dX11_orders_45 rfl rfl kk) ?_
    refine Sx.up (fun _ kk => r_sipush (720) 49 dX11_orders_46 rfl (by decide) kk) ?_
    refine Sx.br (fun _ ka kb => r_icmp_ge 52 87 dX11_orders_49 rfl (by decide) ka kb) (by first | exact em1 | exact em2) (fun h49 => ?_) (fun h49 => ?_)
    · refine Sx.up (fun _ kk => r_iload_n 88 dX11_orders_87 rfl rfl kk) ?_
      refine ⟨_, ?_, r_iret dX11_orders_88 rfl rfl rfl⟩
      exact ⟨E2, rfl, t3.1, hke⟩
    · refine Sx.up (fun _ kk => r_iload_n 53 dX11_orders_52 rfl rfl kk) ?_
      refine Sx.up (fun _ kk => r_if_eq 56 87 dX11_orders_53 rfl (by decide) (fun _ => kk) (fun h53 => absurd (if_neg hz) h53)) ?_
      refine Sx.up (fun _ kk => r_iload_n 88 dX11_orders_87 rfl rfl kk) ?_
      refine ⟨_, ?_, r_iret dX11_orders_88 rfl rfl rfl⟩
      exact ⟨E2, rfl, t3.1, hke⟩
  · intro k9 E2 hk0 hk9 hinv hq
    obtain ⟨⟨l, t3, hll, hlk⟩, hke⟩ := hinv
    have hlk := hlk hk9
    have hgd := getD_of hlk
    have hpo := perm_ok hL6 l (List.mem_of_getElem? hlk)
    have hC2 := cr_kr t3.1.2.1 hC
    have hful2 := ful_ord hful hpo
    have hle2 : gI E2 514 75 = nI L := by rw [← hll]; exact t3.2.1
    have hne : ∀ i, i < 7 → gA E2 (b + 4) i = gA E (b + 4) i := fun i _ => by rw [fr_gA t3.1.1 (qo_no hb (by omega))]
    have cL2 : gI E2 4 b = nI L := (fr_gI t3.1.1 (qo_no hb (by omega)) 4).trans cL
    have cmi2 : gI E2 7 b = nI m := (fr_gI t3.1.1 (qo_no hb (by omega)) 7).trans cmi
    have fin : ∀ E4 (x4 : Option Value), TO E E4 b l (cfgP E 46) (gI E 519 46) → KeptIs E E4 L none → Sx mX11_orders (d + 8) 0 0 (fun o => ∃ E2, o = (.inl (some (.int ((nI (ordN (okN (gA E (b + 4)) 0) (permL L) (permL L).length))))), E2, 137) ∧ QO b E E2 ∧ KeptIs E E2 L none) 73 [some (.ref 0), some (.int (nI (ordN (okN (gA E (b + 4)) 0) (permL L) (k9 + 1)))), some (.int (if k9 < (permL L).length then (1 : Int32) else 0)), some (.int (nI k9))] [] E4 137 := by
      intro E4 x4 t4 k4
      have hC4 := cr_kr t4.1.2.1 hC
      obtain ⟨_, ⟨E5, rfl, n1, n2, n3, n4⟩, hnx⟩ := c_X4_nextOrder (d := d + 5) (cr_plan75 hC4) t4.2.1 t4.2.2.1
      rw [nx_flag hL6 hlk] at hnx
      have t5 := to_next hb t4 n1 n2 n3 n4 (nx_len hL6 hlk)
      have k5 := kept_fr k4 n3 (by decide) (by decide)
      have hgo := hq E5 ⟨⟨_, t5, (nx_len hL6 hlk).trans hll, fun hz => nx_row hL6 hlk hz⟩, k5⟩
      refine Sx.up (fun _ kk => r_aload_n 74 dX11_orders_73 rfl rfl kk) ?_
      refine Sx.up (fun _ kk => r_getR 77 dX11_orders_74 rfl f11_67 rfl (by first | with_reducible assumption | with_reducible exact cr_bs hC4 | rfl) (by first | with_reducible assumption | with_reducible exact cr_bn hC4 | exact Nat.le_of_ble_eq_true rfl) (cr_1419_0 hC4) kk) ?_
      refine Sx.up (fun _ kk => r_callV (M := mX11_orders) (pc := 77) 80 dX11_orders_77 rfl k11_283 hnx rfl rfl (by first | with_reducible assumption | with_reducible exact cr_bs hC4 | rfl) (by decide) rfl (by first | with_reducible assumption | with_reducible exact cr_bn hC4 | exact Nat.le_of_ble_eq_true rfl) (Nat.le_of_ble_eq_true rfl) kk) ?_
      refine Sx.up (fun _ kk => r_istore_n 81 dX11_orders_80 rfl (by decide) rfl kk) ?_
      refine Sx.up (fun _ kk => r_iinc (1) 84 dX11_orders_81 rfl rfl (by decide) (by decide) rfl kk) ?_
      refine Sx.up (fun _ kk => r_goto 45 dX11_orders_84 (by decide) kk) ?_
      rw [nI_pp]
      exact Sx.less (by exact ⟨rfl, rfl, rfl, rfl, trivial⟩) hgo
    have hal := c_X0_allows (d := d + 5) (cr_bed hC2) (cr_plan75 hC2) t3.2.1 (by omega)
    rw [alw_ok t3.2.2.1 hne] at hal
    refine Sx.up (fun _ kk => r_iload_n 46 dX11_orders_45 rfl rfl kk) ?_
    refine Sx.up (fun _ kk => r_sipush (720) 49 dX11_orders_46 rfl (by decide) kk) ?_
    refine Sx.up (fun _ kk => r_icmp_ge 52 87 dX11_orders_49 rfl (by decide) (fun h49 => absurd h49 (fun z => absurd (show nI 720 ≤ nI k9 from z) (nI_ge (show k9 < 720 by omega) (by omega)))) (fun _ => kk)) ?_
    refine Sx.up (fun _ kk => r_iload_n 53 dX11_orders_52 rfl rfl kk) ?_
    refine Sx.up (fun _ kk => r_if_eq 56 87 dX11_orders_53 rfl (by decide) (fun h53 => absurd h53 (by rw [if_pos hk9]; decide)) (fun _ => kk)) ?_
    refine Sx.up (fun _ kk => r_aload_n 57 dX11_orders_56 rfl rfl kk) ?_
    refine Sx.up (fun _ kk => r_getR 60 dX11_orders_57 rfl f11_28 rfl (by first | with_reducible assumption | with_reducible exact cr_bs hC2 | rfl) (by first | with_reducible assumption | with_reducible exact cr_bn hC2 | exact Nat.le_of_ble_eq_true rfl) (cr_told hC2) kk) ?_
    refine Sx.up (fun _ kk => r_aload_n 61 dX11_orders_60 rfl rfl kk) ?_
    refine Sx.up (fun _ kk => r_getR 64 dX11_orders_61 rfl f11_67 rfl (by first | with_reducible assumption | with_reducible exact cr_bs hC2 | rfl) (by first | with_reducible assumption | with_reducible exact cr_bn hC2 | exact Nat.le_of_ble_eq_true rfl) (cr_1419_0 hC2) kk) ?_
    refine Sx.up (fun _ kk => r_callV (M := mX11_orders) (pc := 64) 67 dX11_orders_64 rfl k11_279 hal rfl rfl (by first | with_reducible assumption | with_reducible exact cr_bs hC2 | rfl) (by decide) rfl (by first | with_reducible assumption | with_reducible exact cr_bn hC2 | exact Nat.le_of_ble_eq_true rfl) (Nat.le_of_ble_eq_true rfl) kk) ?_
    refine Sx.br (fun _ ka kb => r_if_eq 70 73 dX11_orders_67 rfl (by decide) ka kb) (by first | exact em1 | exact em2) (fun h67 => ?_) (fun h67 => ?_)
    · have hok : ¬ okN (gA E (b + 4)) 0 l = true := fun z => by rw [if_pos z] at h67; exact absurd h67 (by decide)
      have e : ordN (okN (gA E (b + 4)) 0) (permL L) (k9 + 1) = ordN (okN (gA E (b + 4)) 0) (permL L) k9 := by
        show (if _ then _ else _) = _
        rw [hgd, if_neg hok]
      rw [e] at fin
      exact fin E2 none t3 hke
    · refine Sx.up (fun _ kk => r_iinc (1) 73 dX11_orders_70 rfl rfl (by decide) (by decide) rfl kk) ?_
      have hok : okN (gA E (b + 4)) 0 l = true := by
        rcases hz : okN (gA E (b + 4)) 0 l
        · rw [hz, if_neg (by decide)] at h67; exact absurd rfl h67
        · rfl
      have e : ordN (okN (gA E (b + 4)) 0) (permL L) (k9 + 1) = ordN (okN (gA E (b + 4)) 0) (permL L) k9 + 1 := by
        show (if _ then _ else _) = _
        rw [hgd, if_pos hok]
      rw [e] at fin
      rw [nI_pp]
      exact fin E2 none t3 hke
set_option maxRecDepth 20000 in
theorem c_X11_order {d b L m : Nat} {R : List Int32} {E : HP} (hci : CI E b L m R) (hL6 : L < 7) : ∃ o, (∃ E2, o = (.inl (some (.int ((ordB (okN (gA E (b + 4)) 0) (fun l => nS (nightF (vMk L (slC E b) (gI E 8 b) R (cOrd (cfgP E 46) l) (gI E 519 46)) m) 2) (permL L) (permL L).length).1))), E2, 137) ∧ QO b E E2 ∧ KeptIs E E2 L (ordB (okN (gA E (b + 4)) 0) (fun l => nS (nightF (vMk L (slC E b) (gI E 8 b) R (cOrd (cfgP E 46) l) (gI E 519 46)) m) 2) (permL L) (permL L).length).2) ∧ Cl yX11_order mX11_order (d + 8) 0 0 [.ref 0] E 137 o := by
  obtain ⟨hC, cL, c51, cok, csu, crl, c87, ⟨m1, m6, cmi⟩, cfr⟩ := id hci
  have hb := hC.1
  have l7 : L ≤ 7 := cok.2.1
  have hful : cful L (cfgP E 46) := ⟨cok, csu⟩
  have hN := perm_len hL6
  have hN0 := perm_pos hL6
  obtain ⟨E1, t1, hcp⟩ := c_copy (d := d + 5) hci
  have hC1 := cr_kr t1.1.2 hC
  have hup := c_X6_countUp (d := d + 7) (cr_row76 hC1)
  have t2 := to_start hb l7 t1
  have h76 : gA E1 74 = gA E 74 := fr_gA t1.1.1 (qq_no hb (by omega))
  have k0 : KeptIs E (rUp 76 7 E1) L none := ⟨(by rw [gI_rUp]; exact fr_gI t1.1.1 (qq_no hb (by omega)) 1418), by rw [show gA (rUp 76 7 E1) 74 = gA E1 74 from fr_gA (P := fun k => k = 77) (fr_up (P := fun k => k = 77) rfl fr_rfl) (by decide)]; exact fr_gA t1.1.1 (qq_no hb (by omega))⟩
  refine Cx.of (by decide) rfl (fun q => by cases q) rfl rfl (Nat.le_of_ble_eq_true rfl) ?_
  show Sx _ _ _ _ _ 0 [some (.ref 0), none, none, none, none] [] _ _
  have loop := sxUp (S := fun k9 E2 => Sx mX11_order (d + 8) 0 0 (fun o => ∃ E2, o = (.inl (some (.int ((ordB (okN (gA E (b + 4)) 0) (fun l => nS (nightF (vMk L (slC E b) (gI E 8 b) R (cOrd (cfgP E 46) l) (gI E 519 46)) m) 2) (permL L) (permL L).length).1))), E2, 137) ∧ QO b E E2 ∧ KeptIs E E2 L (ordB (okN (gA E (b + 4)) 0) (fun l => nS (nightF (vMk L (slC E b) (gI E 8 b) R (cOrd (cfgP E 46) l) (gI E 519 46)) m) 2) (permL L) (permL L).length).2) 45 [some (.ref 0), some (.int (ordB (okN (gA E (b + 4)) 0) (fun l => nS (nightF (vMk L (slC E b) (gI E 8 b) R (cOrd (cfgP E 46) l) (gI E 519 46)) m) 2) (permL L) k9).1), some (.int (if k9 < (permL L).length then (1 : Int32) else 0)), some (.int (nI k9)), none] [] E2 137) (Inv := fun k9 E2 => (∃ l, TO E E2 b l (cfgP E 46) (gI E 519 46) ∧ l.length = L ∧ (k9 < (permL L).length → (permL L)[k9]? = some l)) ∧ KeptIs E E2 L (ordB (okN (gA E (b + 4)) 0) (fun l => nS (nightF (vMk L (slC E b) (gI E 8 b) R (cOrd (cfgP E 46) l) (gI E 519 46)) m) 2) (permL L) k9).2) (a := 0) (l := (permL L).length) (by omega) ?_ ?_
  refine Sx.up (fun _ kk => r_aload_n 1 dX11_order_0 rfl rfl kk) ?_
  refine Sx.up (fun _ kk => r_getR 4 dX11_order_1 rfl f11_28 rfl (by first | with_reducible assumption | with_reducible exact cr_bs hC | rfl) (by first | with_reducible assumption | with_reducible exact cr_bn hC | exact Nat.le_of_ble_eq_true rfl) (cr_told hC) kk) ?_
  refine Sx.up (fun _ kk => r_getIV (nI L) 7 dX11_order_4 rfl f11_101 rfl (by first | with_reducible assumption | with_reducible exact cr_bs hC | rfl) (by first | with_reducible assumption | with_reducible exact cr_bn hC | exact Nat.le_of_ble_eq_true rfl) (cL) kk) ?_
  refine Sx.up (fun _ kk => r_bipush (6) 9 dX11_order_7 rfl (by decide) kk) ?_
  refine Sx.up (fun _ kk => r_icmp_le 12 15 dX11_order_9 rfl (by decide) (fun _ => kk) (fun h9 => absurd (nI_le (b := 6) (by omega) (by omega)) h9)) ?_
  refine Sx.up (fun _ kk => r_iconst (-1) 16 dX11_order_15 rfl (by decide) kk) ?_
  refine Sx.up (fun _ kk => r_istore_n 17 dX11_order_16 rfl (by decide) rfl kk) ?_
  refine Sx.up (fun _ kk => r_aload_n 18 dX11_order_17 rfl rfl kk) ?_
  refine Sx.up (fun _ kk => r_getR 21 dX11_order_18 rfl f11_67 rfl (by first | with_reducible assumption | with_reducible exact cr_bs hC | rfl) (by first | with_reducible assumption | with_reducible exact cr_bn hC | exact Nat.le_of_ble_eq_true rfl) (cr_1419_0 hC) kk) ?_
  refine Sx.up (fun _ kk => r_aload_n 22 dX11_order_21 rfl rfl kk) ?_
  refine Sx.up (fun _ kk => r_getR 25 dX11_order_22 rfl f11_47 rfl (by first | with_reducible assumption | with_reducible exact cr_bs hC | rfl) (by first | with_reducible assumption | with_reducible exact cr_bn hC | exact Nat.le_of_ble_eq_true rfl) (cr_1414_0 hC) kk) ?_
  refine Sx.up (fun _ kk => r_getR 28 dX11_order_25 rfl f11_116 rfl (by first | with_reducible assumption | with_reducible exact cr_bs hC | rfl) (by first | with_reducible assumption | with_reducible exact cr_bn hC | exact Nat.le_of_ble_eq_true rfl) (cr_1152_45 hC) kk) ?_
  refine Sx.up (fun _ kk => r_callV (M := mX11_order) (pc := 28) 31 dX11_order_28 rfl k11_272 hcp rfl rfl (by first | with_reducible assumption | with_reducible exact cr_bs hC | rfl) (by decide) rfl (by first | with_reducible assumption | with_reducible exact cr_bn hC | exact Nat.le_of_ble_eq_true rfl) (Nat.le_of_ble_eq_true rfl) kk) ?_
  refine Sx.up (fun _ kk => r_aload_n 32 dX11_order_31 rfl rfl kk) ?_
  refine Sx.up (fun _ kk => r_getR 35 dX11_order_32 rfl f11_67 rfl (by first | with_reducible assumption | with_reducible exact cr_bs hC | rfl) (by first | with_reducible assumption | with_reducible exact cr_bn hC | exact Nat.le_of_ble_eq_true rfl) (cr_1419_0 hC1) kk) ?_
  refine Sx.up (fun _ kk => r_getR 38 dX11_order_35 rfl f11_202 rfl (by first | with_reducible assumption | with_reducible exact cr_bs hC | rfl) (by first | with_reducible assumption | with_reducible exact cr_bn hC | exact Nat.le_of_ble_eq_true rfl) (cr_512_75 hC1) kk) ?_
  refine Sx.up (fun _ kk => r_callV (M := mX11_order) (pc := 38) 41 dX11_order_38 rfl k11_276 hup rfl rfl (by first | with_reducible assumption | with_reducible exact cr_bs hC | rfl) (by decide) rfl (by first | with_reducible assumption | with_reducible exact cr_bn hC | exact Nat.le_of_ble_eq_true rfl) (Nat.le_of_ble_eq_true rfl) kk) ?_
  refine Sx.up (fun _ kk => r_iconst (1) 42 dX11_order_41 rfl (by decide) kk) ?_
  refine Sx.up (fun _ kk => r_istore_n 43 dX11_order_42 rfl (by decide) rfl kk) ?_
  refine Sx.up (fun _ kk => r_iconst (0) 44 dX11_order_43 rfl (by decide) kk) ?_
  refine Sx.up (fun _ kk => r_istore_n 45 dX11_order_44 rfl (by decide) rfl kk) ?_
  have hgo := loop _ ⟨⟨List.range L, t2, List.length_range, fun _ => perm_0 hL6⟩, k0⟩
  rw [if_pos hN0] at hgo
  exact hgo
  · rintro E2 ⟨⟨l, t3, hll, -⟩, hke⟩
    have hz : ¬ (permL L).length < (permL L).length := Nat.lt_irrefl _
    refine Sx.up (fun _ kk => r_iload_n 46 dX11_order_45 rfl rfl kk) ?_
    refine Sx.up (fun _ kk => r_sipush (720) 49 dX11_order_46 rfl (by decide) kk) ?_
    refine Sx.br (fun _ ka kb => r_icmp_ge 52 108 dX11_order_49 rfl (by decide) ka kb) (by first | exact em1 | exact em2) (fun h49 => ?_) (fun h49 => ?_)
    · refine Sx.up (fun _ kk => r_iload_n 109 dX11_order_108 rfl rfl kk) ?_
      refine ⟨_, ?_, r_iret dX11_order_109 rfl rfl rfl⟩
      exact ⟨E2, rfl, t3.1, hke⟩
    · refine Sx.up (fun _ kk => r_iload_n 53 dX11_order_52 rfl rfl kk) ?_
      refine Sx.up (fun _ kk => r_if_eq 56 108 dX11_order_53 rfl (by decide) (fun _ => kk) (fun h53 => absurd (if_neg hz) h53)) ?_
      refine Sx.up (fun _ kk => r_iload_n 109 dX11_order_108 rfl rfl kk) ?_
      refine ⟨_, ?_, r_iret dX11_order_109 rfl rfl rfl⟩
      exact ⟨E2, rfl, t3.1, hke⟩
  · intro k9 E2 hk0 hk9 hinv hq
    obtain ⟨⟨l, t3, hll, hlk⟩, hke⟩ := hinv
    have hlk := hlk hk9
    have hgd := getD_of hlk
    have hpo := perm_ok hL6 l (List.mem_of_getElem? hlk)
    have hC2 := cr_kr t3.1.2.1 hC
    have hful2 := ful_ord hful hpo
    have hle2 : gI E2 514 75 = nI L := by rw [← hll]; exact t3.2.1
    have hne : ∀ i, i < 7 → gA E2 (b + 4) i = gA E (b + 4) i := fun i _ => by rw [fr_gA t3.1.1 (qo_no hb (by omega))]
    have cL2 : gI E2 4 b = nI L := (fr_gI t3.1.1 (qo_no hb (by omega)) 4).trans cL
    have cmi2 : gI E2 7 b = nI m := (fr_gI t3.1.1 (qo_no hb (by omega)) 7).trans cmi
    have fin : ∀ E4 (x4 : Option Value), TO E E4 b l (cfgP E 46) (gI E 519 46) → KeptIs E E4 L (ordB (okN (gA E (b + 4)) 0) (fun l => nS (nightF (vMk L (slC E b) (gI E 8 b) R (cOrd (cfgP E 46) l) (gI E 519 46)) m) 2) (permL L) (k9 + 1)).2 → Sx mX11_order (d + 8) 0 0 (fun o => ∃ E2, o = (.inl (some (.int ((ordB (okN (gA E (b + 4)) 0) (fun l => nS (nightF (vMk L (slC E b) (gI E 8 b) R (cOrd (cfgP E 46) l) (gI E 519 46)) m) 2) (permL L) (permL L).length).1))), E2, 137) ∧ QO b E E2 ∧ KeptIs E E2 L (ordB (okN (gA E (b + 4)) 0) (fun l => nS (nightF (vMk L (slC E b) (gI E 8 b) R (cOrd (cfgP E 46) l) (gI E 519 46)) m) 2) (permL L) (permL L).length).2) 94 [some (.ref 0), some (.int (ordB (okN (gA E (b + 4)) 0) (fun l => nS (nightF (vMk L (slC E b) (gI E 8 b) R (cOrd (cfgP E 46) l) (gI E 519 46)) m) 2) (permL L) (k9 + 1)).1), some (.int (if k9 < (permL L).length then (1 : Int32) else 0)), some (.int (nI k9)), x4] [] E4 137 := by
      intro E4 x4 t4 k4
      have hC4 := cr_kr t4.1.2.1 hC
      obtain ⟨_, ⟨E5, rfl, n1, n2, n3, n4⟩, hnx⟩ := c_X4_nextOrder (d := d + 5) (cr_plan75 hC4) t4.2.1 t4.2.2.1
      rw [nx_flag hL6 hlk] at hnx
      have t5 := to_next hb t4 n1 n2 n3 n4 (nx_len hL6 hlk)
      have k5 := kept_fr k4 n3 (by decide) (by decide)
      have hgo := hq E5 ⟨⟨_, t5, (nx_len hL6 hlk).trans hll, fun hz => nx_row hL6 hlk hz⟩, k5⟩
      refine Sx.less (ls := [some (.ref 0), some (.int (ordB (okN (gA E (b + 4)) 0) (fun l => nS (nightF (vMk L (slC E b) (gI E 8 b) R (cOrd (cfgP E 46) l) (gI E 519 46)) m) 2) (permL L) (k9 + 1)).1), some (.int (if k9 < (permL L).length then (1 : Int32) else 0)), some (.int (nI k9)), none]) (by exact ⟨rfl, rfl, rfl, rfl, trivial⟩) ?_
      refine Sx.up (fun _ kk => r_aload_n 95 dX11_order_94 rfl rfl kk) ?_
      refine Sx.up (fun _ kk => r_getR 98 dX11_order_95 rfl f11_67 rfl (by first | with_reducible assumption | with_reducible exact cr_bs hC4 | rfl) (by first | with_reducible assumption | with_reducible exact cr_bn hC4 | exact Nat.le_of_ble_eq_true rfl) (cr_1419_0 hC4) kk) ?_
      refine Sx.up (fun _ kk => r_callV (M := mX11_order) (pc := 98) 101 dX11_order_98 rfl k11_283 hnx rfl rfl (by first | with_reducible assumption | with_reducible exact cr_bs hC4 | rfl) (by decide) rfl (by first | with_reducible assumption | with_reducible exact cr_bn hC4 | exact Nat.le_of_ble_eq_true rfl) (Nat.le_of_ble_eq_true rfl) kk) ?_
      refine Sx.up (fun _ kk => r_istore_n 102 dX11_order_101 rfl (by decide) rfl kk) ?_
      refine Sx.up (fun _ kk => r_iinc (1) 105 dX11_order_102 rfl rfl (by decide) (by decide) rfl kk) ?_
      refine Sx.up (fun _ kk => r_goto 45 dX11_order_105 (by decide) kk) ?_
      rw [nI_pp]
      exact Sx.less (by exact ⟨rfl, rfl, rfl, rfl, trivial⟩) hgo
    have hy : (okN (gA E (b + 4)) 0) l = true → (((ordB (okN (gA E (b + 4)) 0) (fun l => nS (nightF (vMk L (slC E b) (gI E 8 b) R (cOrd (cfgP E 46) l) (gI E 519 46)) m) 2) (permL L) k9)).1 = -1 ∨ (nS (nightF (vMk L (slC E b) (gI E 8 b) R (cOrd (cfgP E 46) l) (gI E 519 46)) m) 2) < ((ordB (okN (gA E (b + 4)) 0) (fun l => nS (nightF (vMk L (slC E b) (gI E 8 b) R (cOrd (cfgP E 46) l) (gI E 519 46)) m) 2) (permL L) k9)).1) → (ordB (okN (gA E (b + 4)) 0) (fun l => nS (nightF (vMk L (slC E b) (gI E 8 b) R (cOrd (cfgP E 46) l) (gI E 519 46)) m) 2) (permL L) (k9 + 1)) = ((nS (nightF (vMk L (slC E b) (gI E 8 b) R (cOrd (cfgP E 46) l) (gI E 519 46)) m) 2), some l) := fun z1 z2 => by
      show (if _ then _ else _) = _
      rw [hgd, if_pos ⟨z1, z2⟩]
    have hn : ¬ ((okN (gA E (b + 4)) 0) l = true ∧ (((ordB (okN (gA E (b + 4)) 0) (fun l => nS (nightF (vMk L (slC E b) (gI E 8 b) R (cOrd (cfgP E 46) l) (gI E 519 46)) m) 2) (permL L) k9)).1 = -1 ∨ (nS (nightF (vMk L (slC E b) (gI E 8 b) R (cOrd (cfgP E 46) l) (gI E 519 46)) m) 2) < ((ordB (okN (gA E (b + 4)) 0) (fun l => nS (nightF (vMk L (slC E b) (gI E 8 b) R (cOrd (cfgP E 46) l) (gI E 519 46)) m) 2) (permL L) k9)).1)) → (ordB (okN (gA E (b + 4)) 0) (fun l => nS (nightF (vMk L (slC E b) (gI E 8 b) R (cOrd (cfgP E 46) l) (gI E 519 46)) m) 2) (permL L) (k9 + 1)) = (ordB (okN (gA E (b + 4)) 0) (fun l => nS (nightF (vMk L (slC E b) (gI E 8 b) R (cOrd (cfgP E 46) l) (gI E 519 46)) m) 2) (permL L) k9) := fun z => by
      show (if _ then _ else _) = _
      rw [hgd, if_neg z]
    have hal := c_X0_allows (d := d + 5) (cr_bed hC2) (cr_plan75 hC2) t3.2.1 (by omega)
    rw [alw_ok t3.2.2.1 hne] at hal
    have ov := to_nvis t3 hci hful2.1 hll
    obtain ⟨E3, ⟨f1, f2, f3, f4⟩, hcl⟩ := c_X11_passTrial (d := d + 1) hC2 ov hful2.1.2.2.2.2.1 m6 cmi2
    have t6 := to_pass hb t3 f1 f2
    have hke3 := kept_fr hke f1 (by unfold Pp; omega) (by unfold Pp; omega)
    have hC3 := cr_kr t6.1.2.1 hC
    have hle3 : gI E3 514 75 = nI l.length := t6.2.1
    obtain ⟨t7, k7⟩ := kept_new t6
    have hkp := c_X11_keep (d := d + 5) hC3 hle3
    rw [hll] at k7 t7 hkp
    refine Sx.up (fun _ kk => r_iload_n 46 dX11_order_45 rfl rfl kk) ?_
    refine Sx.up (fun _ kk => r_sipush (720) 49 dX11_order_46 rfl (by decide) kk) ?_
    refine Sx.up (fun _ kk => r_icmp_ge 52 108 dX11_order_49 rfl (by decide) (fun h49 => absurd h49 (fun z => absurd (show nI 720 ≤ nI k9 from z) (nI_ge (show k9 < 720 by omega) (by omega)))) (fun _ => kk)) ?_
    refine Sx.up (fun _ kk => r_iload_n 53 dX11_order_52 rfl rfl kk) ?_
    refine Sx.up (fun _ kk => r_if_eq 56 108 dX11_order_53 rfl (by decide) (fun h53 => absurd h53 (by rw [if_pos hk9]; decide)) (fun _ => kk)) ?_
    refine Sx.up (fun _ kk => r_aload_n 57 dX11_order_56 rfl rfl kk) ?_
    refine Sx.up (fun _ kk => r_getR 60 dX11_order_57 rfl f11_28 rfl (by first | with_reducible assumption | with_reducible exact cr_bs hC2 | rfl) (by first | with_reducible assumption | with_reducible exact cr_bn hC2 | exact Nat.le_of_ble_eq_true rfl) (cr_told hC2) kk) ?_
    refine Sx.up (fun _ kk => r_aload_n 61 dX11_order_60 rfl rfl kk) ?_
    refine Sx.up (fun _ kk => r_getR 64 dX11_order_61 rfl f11_67 rfl (by first | with_reducible assumption | with_reducible exact cr_bs hC2 | rfl) (by first | with_reducible assumption | with_reducible exact cr_bn hC2 | exact Nat.le_of_ble_eq_true rfl) (cr_1419_0 hC2) kk) ?_
    refine Sx.up (fun _ kk => r_callV (M := mX11_order) (pc := 64) 67 dX11_order_64 rfl k11_279 hal rfl rfl (by first | with_reducible assumption | with_reducible exact cr_bs hC2 | rfl) (by decide) rfl (by first | with_reducible assumption | with_reducible exact cr_bn hC2 | exact Nat.le_of_ble_eq_true rfl) (Nat.le_of_ble_eq_true rfl) kk) ?_
    refine Sx.br (fun _ ka kb => r_if_eq 70 94 dX11_order_67 rfl (by decide) ka kb) (by first | exact em1 | exact em2) (fun h67 => ?_) (fun h67 => ?_)
    · have hok : ¬ okN (gA E (b + 4)) 0 l = true := fun z => by rw [if_pos z] at h67; exact absurd h67 (by decide)
      rw [hn (fun z => hok z.1)] at fin
      exact fin E2 none t3 hke
    · refine Sx.up (fun _ kk => r_aload_n 71 dX11_order_70 rfl rfl kk) ?_
      refine Sx.up (fun _ kk => r_callV (M := mX11_order) (pc := 71) 74 dX11_order_71 rfl k11_287 hcl rfl rfl (by first | with_reducible assumption | with_reducible exact cr_bs hC2 | rfl) (by decide) rfl (by first | with_reducible assumption | with_reducible exact cr_bn hC2 | exact Nat.le_of_ble_eq_true rfl) (Nat.le_of_ble_eq_true rfl) kk) ?_
      refine Sx.up (fun _ kk => r_istore 76 dX11_order_74 rfl (by decide) rfl kk) ?_
      refine Sx.up (fun _ kk => r_iload_n 77 dX11_order_76 rfl rfl kk) ?_
      refine Sx.up (fun _ kk => r_iconst (-1) 78 dX11_order_77 rfl (by decide) kk) ?_
      refine Sx.br (fun _ ka kb => r_icmp_eq 81 87 dX11_order_78 rfl (by decide) ka kb) (by first | exact em1 | exact em2) (fun h78 => ?_) (fun h78 => ?_)
      · refine Sx.up (fun _ kk => r_iload 89 dX11_order_87 rfl rfl kk) ?_
        refine Sx.up (fun _ kk => r_istore_n 90 dX11_order_89 rfl (by decide) rfl kk) ?_
        refine Sx.up (fun _ kk => r_aload_n 91 dX11_order_90 rfl rfl kk) ?_
        refine Sx.up (fun _ kk => r_callV (M := mX11_order) (pc := 91) 94 dX11_order_91 rfl k11_290 hkp rfl rfl (by first | with_reducible assumption | with_reducible exact cr_bs hC2 | rfl) (by decide) rfl (by first | with_reducible assumption | with_reducible exact cr_bn hC2 | exact Nat.le_of_ble_eq_true rfl) (Nat.le_of_ble_eq_true rfl) kk) ?_
        have hok : okN (gA E (b + 4)) 0 l = true := by
          rcases hz : okN (gA E (b + 4)) 0 l
          · rw [hz, if_neg (by decide)] at h67; exact absurd rfl h67
          · rfl
        rw [hy hok (Or.inl h78)] at fin
        exact fin _ _ t7 k7
      · refine Sx.up (fun _ kk => r_iload 83 dX11_order_81 rfl rfl kk) ?_
        refine Sx.up (fun _ kk => r_iload_n 84 dX11_order_83 rfl rfl kk) ?_
        refine Sx.br (fun _ ka kb => r_icmp_ge 87 94 dX11_order_84 rfl (by decide) ka kb) (by first | exact em1 | exact em2) (fun h84 => ?_) (fun h84 => ?_)
        · have hok : okN (gA E (b + 4)) 0 l = true := by
            rcases hz : okN (gA E (b + 4)) 0 l
            · rw [hz, if_neg (by decide)] at h67; exact absurd rfl h67
            · rfl
          rw [hn (fun z => z.2.elim h78 (Int32.not_lt.mpr h84))] at fin
          exact fin _ _ t6 hke3
        · refine Sx.up (fun _ kk => r_iload 89 dX11_order_87 rfl rfl kk) ?_
          refine Sx.up (fun _ kk => r_istore_n 90 dX11_order_89 rfl (by decide) rfl kk) ?_
          refine Sx.up (fun _ kk => r_aload_n 91 dX11_order_90 rfl rfl kk) ?_
          refine Sx.up (fun _ kk => r_callV (M := mX11_order) (pc := 91) 94 dX11_order_91 rfl k11_290 hkp rfl rfl (by first | with_reducible assumption | with_reducible exact cr_bs hC2 | rfl) (by decide) rfl (by first | with_reducible assumption | with_reducible exact cr_bn hC2 | exact Nat.le_of_ble_eq_true rfl) (Nat.le_of_ble_eq_true rfl) kk) ?_
          have hok : okN (gA E (b + 4)) 0 l = true := by
            rcases hz : okN (gA E (b + 4)) 0 l
            · rw [hz, if_neg (by decide)] at h67; exact absurd rfl h67
            · rfl
          rw [hy hok (Or.inr (Int32.not_le.mp h84))] at fin
          exact fin _ _ t7 k7
/-- the mean of those woken by who goes out over them -/
def twF (sl : Nat → Nat → Int32) (ord : Nat → Int32) (L : Nat) : Nat → Int32 × Int32
  | 0 => (0, 0)
  | j + 1 => ((twF sl ord L j).1 + sl 7 (ord (L - 1 - j)).toNatClampNeg * (twF sl ord L j).2, (twF sl ord L j).2 + (if canS2 sl (ord (L - 1 - j)).toNatClampNeg = true then 1 else 0))
def twO (sl : Nat → Nat → Int32) (ord : Nat → Int32) (L : Nat) : Int32 := (twF sl ord L L).1
theorem can_if {sl : Nat → Nat → Int32} {s : Nat} : (if bI (decide (¬ sl 1 s = 1 ∧ ¬ sl 1 s = 3)) = 0 then (0 : Int32) else 1) = (if canS2 sl s = true then 1 else 0) := by
  unfold canS2
  by_cases hc : ¬ sl 1 s = 1 ∧ ¬ sl 1 s = 3
  · rw [decide_eq_true hc]; rfl
  · rw [decide_eq_false hc]; rfl
theorem tw_s {E E1 : HP} {b s : Nat} (h : QO b E E1) (hb : b = 3 ∨ b = 22) (hs : s < 7) : gI E1 1030 (b + 12 + s) = slC E b 7 s ∧ gI E1 1024 (b + 12 + s) = slC E b 1 s := by
  rw [slC_lt hs, slC_lt hs]
  exact ⟨fr_gI h.1 (qo_no hb (by omega)) _, fr_gI h.1 (qo_no hb (by omega)) _⟩
theorem tw_eq {E1 : HP} {b p L : Nat} {sl : Nat → Nat → Int32} {ord : Nat → Int32} (h : ∀ i, i < L → ordAt E1 p i = ord i ∧ ∃ s, s < 7 ∧ ord i = nI s ∧ gI E1 1030 (b + 12 + s) = sl 7 s ∧ gI E1 1024 (b + 12 + s) = sl 1 s) : (twV E1 b p L L).1 = twO sl ord L := by
  have key : ∀ j, j ≤ L → twV E1 b p L j = twF sl ord L j := by
    intro j
    induction j with
    | zero => intro _; rfl
    | succ j ih =>
      intro hj
      obtain ⟨ho, s, hs, e, e7, e1⟩ := h (L - 1 - j) (by omega)
      show ((twV E1 b p L j).1 + gI E1 1030 (whoId b (ordAt E1 p (L - 1 - j))) * (twV E1 b p L j).2, (twV E1 b p L j).2 + (if slCan (gI E1 1024 (whoId b (ordAt E1 p (L - 1 - j)))) = 0 then 0 else 1)) = ((twF sl ord L j).1 + sl 7 (ord (L - 1 - j)).toNatClampNeg * (twF sl ord L j).2, (twF sl ord L j).2 + (if canS2 sl (ord (L - 1 - j)).toNatClampNeg = true then 1 else 0))
      rw [ih (by omega), ho, e, whoId_nI hs, nI_clamp (by omega), e7, e1, can_sl, can_if]
  unfold twO
  rw [key L (Nat.le_refl L)]
set_option maxRecDepth 20000 in
theorem c_X11_edge {d b L m : Nat} {R : List Int32} {E : HP} (hci : CI E b L m R) (hL6 : L < 7) : ∃ o, (∃ E2, o = (.inl (some (.int ((ordB (fun _ => true) (fun l => twO (slC E b) (fun i => nI (gN l i)) L) (permL L) (permL L).length).1))), E2, 137) ∧ QO b E E2 ∧ KeptIs E E2 L (ordB (fun _ => true) (fun l => twO (slC E b) (fun i => nI (gN l i)) L) (permL L) (permL L).length).2) ∧ Cl yX11_edge mX11_edge (d + 8) 0 0 [.ref 0] E 137 o := by
  obtain ⟨hC, cL, c51, cok, csu, crl, c87, ⟨m1, m6, cmi⟩, cfr⟩ := id hci
  have hb := hC.1
  have l7 : L ≤ 7 := cok.2.1
  have hful : cful L (cfgP E 46) := ⟨cok, csu⟩
  have hN := perm_len hL6
  have hN0 := perm_pos hL6
  obtain ⟨E1, t1, hcp⟩ := c_copy (d := d + 5) hci
  have hC1 := cr_kr t1.1.2 hC
  have hup := c_X6_countUp (d := d + 7) (cr_row76 hC1)
  have t2 := to_start hb l7 t1
  have h76 : gA E1 74 = gA E 74 := fr_gA t1.1.1 (qq_no hb (by omega))
  have k0 : KeptIs E (rUp 76 7 E1) L none := ⟨(by rw [gI_rUp]; exact fr_gI t1.1.1 (qq_no hb (by omega)) 1418), by rw [show gA (rUp 76 7 E1) 74 = gA E1 74 from fr_gA (P := fun k => k = 77) (fr_up (P := fun k => k = 77) rfl fr_rfl) (by decide)]; exact fr_gA t1.1.1 (qq_no hb (by omega))⟩
  refine Cx.of (by decide) rfl (fun q => by cases q) rfl rfl (Nat.le_of_ble_eq_true rfl) ?_
  show Sx _ _ _ _ _ 0 [some (.ref 0), none, none, none, none] [] _ _
  have loop := sxUp (S := fun k9 E2 => Sx mX11_edge (d + 8) 0 0 (fun o => ∃ E2, o = (.inl (some (.int ((ordB (fun _ => true) (fun l => twO (slC E b) (fun i => nI (gN l i)) L) (permL L) (permL L).length).1))), E2, 137) ∧ QO b E E2 ∧ KeptIs E E2 L (ordB (fun _ => true) (fun l => twO (slC E b) (fun i => nI (gN l i)) L) (permL L) (permL L).length).2) 45 [some (.ref 0), some (.int (ordB (fun _ => true) (fun l => twO (slC E b) (fun i => nI (gN l i)) L) (permL L) k9).1), some (.int (if k9 < (permL L).length then (1 : Int32) else 0)), some (.int (nI k9)), none] [] E2 137) (Inv := fun k9 E2 => (∃ l, TO E E2 b l (cfgP E 46) (gI E 519 46) ∧ l.length = L ∧ (k9 < (permL L).length → (permL L)[k9]? = some l)) ∧ KeptIs E E2 L (ordB (fun _ => true) (fun l => twO (slC E b) (fun i => nI (gN l i)) L) (permL L) k9).2) (a := 0) (l := (permL L).length) (by omega) ?_ ?_
  refine Sx.up (fun _ kk => r_aload_n 1 dX11_edge_0 rfl rfl kk) ?_
  refine Sx.up (fun _ kk => r_getR 4 dX11_edge_1 rfl f11_28 rfl (by first | with_reducible assumption | with_reducible exact cr_bs hC | rfl) (by first | with_reducible assumption | with_reducible exact cr_bn hC | exact Nat.le_of_ble_eq_true rfl) (cr_told hC) kk) ?_
  refine Sx.up (fun _ kk => r_getIV (nI L) 7 dX11_edge_4 rfl f11_101 rfl (by first | with_reducible assumption | with_reducible exact cr_bs hC | rfl) (by first | with_reducible assumption | with_reducible exact cr_bn hC | exact Nat.le_of_ble_eq_true rfl) (cL) kk) ?_
  refine Sx.up (fun _ kk => r_bipush (6) 9 dX11_edge_7 rfl (by decide) kk) ?_
  refine Sx.up (fun _ kk => r_icmp_le 12 15 dX11_edge_9 rfl (by decide) (fun _ => kk) (fun h9 => absurd (nI_le (b := 6) (by omega) (by omega)) h9)) ?_
  refine Sx.up (fun _ kk => r_iconst (-1) 16 dX11_edge_15 rfl (by decide) kk) ?_
  refine Sx.up (fun _ kk => r_istore_n 17 dX11_edge_16 rfl (by decide) rfl kk) ?_
  refine Sx.up (fun _ kk => r_aload_n 18 dX11_edge_17 rfl rfl kk) ?_
  refine Sx.up (fun _ kk => r_getR 21 dX11_edge_18 rfl f11_67 rfl (by first | with_reducible assumption | with_reducible exact cr_bs hC | rfl) (by first | with_reducible assumption | with_reducible exact cr_bn hC | exact Nat.le_of_ble_eq_true rfl) (cr_1419_0 hC) kk) ?_
  refine Sx.up (fun _ kk => r_aload_n 22 dX11_edge_21 rfl rfl kk) ?_
  refine Sx.up (fun _ kk => r_getR 25 dX11_edge_22 rfl f11_47 rfl (by first | with_reducible assumption | with_reducible exact cr_bs hC | rfl) (by first | with_reducible assumption | with_reducible exact cr_bn hC | exact Nat.le_of_ble_eq_true rfl) (cr_1414_0 hC) kk) ?_
  refine Sx.up (fun _ kk => r_getR 28 dX11_edge_25 rfl f11_116 rfl (by first | with_reducible assumption | with_reducible exact cr_bs hC | rfl) (by first | with_reducible assumption | with_reducible exact cr_bn hC | exact Nat.le_of_ble_eq_true rfl) (cr_1152_45 hC) kk) ?_
  refine Sx.up (fun _ kk => r_callV (M := mX11_edge) (pc := 28) 31 dX11_edge_28 rfl k11_272 hcp rfl rfl (by first | with_reducible assumption | with_reducible exact cr_bs hC | rfl) (by decide) rfl (by first | with_reducible assumption | with_reducible exact cr_bn hC | exact Nat.le_of_ble_eq_true rfl) (Nat.le_of_ble_eq_true rfl) kk) ?_
  refine Sx.up (fun _ kk => r_aload_n 32 dX11_edge_31 rfl rfl kk) ?_
  refine Sx.up (fun _ kk => r_getR 35 dX11_edge_32 rfl f11_67 rfl (by first | with_reducible assumption | with_reducible exact cr_bs hC | rfl) (by first | with_reducible assumption | with_reducible exact cr_bn hC | exact Nat.le_of_ble_eq_true rfl) (cr_1419_0 hC1) kk) ?_
  refine Sx.up (fun _ kk => r_getR 38 dX11_edge_35 rfl f11_202 rfl (by first | with_reducible assumption | with_reducible exact cr_bs hC | rfl) (by first | with_reducible assumption | with_reducible exact cr_bn hC | exact Nat.le_of_ble_eq_true rfl) (cr_512_75 hC1) kk) ?_
  refine Sx.up (fun _ kk => r_callV (M := mX11_edge) (pc := 38) 41 dX11_edge_38 rfl k11_276 hup rfl rfl (by first | with_reducible assumption | with_reducible exact cr_bs hC | rfl) (by decide) rfl (by first | with_reducible assumption | with_reducible exact cr_bn hC | exact Nat.le_of_ble_eq_true rfl) (Nat.le_of_ble_eq_true rfl) kk) ?_
  refine Sx.up (fun _ kk => r_iconst (1) 42 dX11_edge_41 rfl (by decide) kk) ?_
  refine Sx.up (fun _ kk => r_istore_n 43 dX11_edge_42 rfl (by decide) rfl kk) ?_
  refine Sx.up (fun _ kk => r_iconst (0) 44 dX11_edge_43 rfl (by decide) kk) ?_
  refine Sx.up (fun _ kk => r_istore_n 45 dX11_edge_44 rfl (by decide) rfl kk) ?_
  have hgo := loop _ ⟨⟨List.range L, t2, List.length_range, fun _ => perm_0 hL6⟩, k0⟩
  rw [if_pos hN0] at hgo
  exact hgo
  · rintro E2 ⟨⟨l, t3, hll, -⟩, hke⟩
    have hz : ¬ (permL L).length < (permL L).length := Nat.lt_irrefl _
    refine Sx.up (fun _ kk => r_iload_n 46 dX11_edge_45 rfl rfl kk) ?_
    refine Sx.up (fun _ kk => r_sipush (720) 49 dX11_edge_46 rfl (by decide) kk) ?_
    refine Sx.br (fun _ ka kb => r_icmp_ge 52 101 dX11_edge_49 rfl (by decide) ka kb) (by first | exact em1 | exact em2) (fun h49 => ?_) (fun h49 => ?_)
    · refine Sx.up (fun _ kk => r_iload_n 102 dX11_edge_101 rfl rfl kk) ?_
      refine ⟨_, ?_, r_iret dX11_edge_102 rfl rfl rfl⟩
      exact ⟨E2, rfl, t3.1, hke⟩
    · refine Sx.up (fun _ kk => r_iload_n 53 dX11_edge_52 rfl rfl kk) ?_
      refine Sx.up (fun _ kk => r_if_eq 56 101 dX11_edge_53 rfl (by decide) (fun _ => kk) (fun h53 => absurd (if_neg hz) h53)) ?_
      refine Sx.up (fun _ kk => r_iload_n 102 dX11_edge_101 rfl rfl kk) ?_
      refine ⟨_, ?_, r_iret dX11_edge_102 rfl rfl rfl⟩
      exact ⟨E2, rfl, t3.1, hke⟩
  · intro k9 E2 hk0 hk9 hinv hq
    obtain ⟨⟨l, t3, hll, hlk⟩, hke⟩ := hinv
    have hlk := hlk hk9
    have hgd := getD_of hlk
    have hpo := perm_ok hL6 l (List.mem_of_getElem? hlk)
    have hC2 := cr_kr t3.1.2.1 hC
    have hful2 := ful_ord hful hpo
    have hle2 : gI E2 514 75 = nI L := by rw [← hll]; exact t3.2.1
    have hne : ∀ i, i < 7 → gA E2 (b + 4) i = gA E (b + 4) i := fun i _ => by rw [fr_gA t3.1.1 (qo_no hb (by omega))]
    have cL2 : gI E2 4 b = nI L := (fr_gI t3.1.1 (qo_no hb (by omega)) 4).trans cL
    have cmi2 : gI E2 7 b = nI m := (fr_gI t3.1.1 (qo_no hb (by omega)) 7).trans cmi
    have fin : ∀ E4 (x4 : Option Value), TO E E4 b l (cfgP E 46) (gI E 519 46) → KeptIs E E4 L (ordB (fun _ => true) (fun l => twO (slC E b) (fun i => nI (gN l i)) L) (permL L) (k9 + 1)).2 → Sx mX11_edge (d + 8) 0 0 (fun o => ∃ E2, o = (.inl (some (.int ((ordB (fun _ => true) (fun l => twO (slC E b) (fun i => nI (gN l i)) L) (permL L) (permL L).length).1))), E2, 137) ∧ QO b E E2 ∧ KeptIs E E2 L (ordB (fun _ => true) (fun l => twO (slC E b) (fun i => nI (gN l i)) L) (permL L) (permL L).length).2) 87 [some (.ref 0), some (.int (ordB (fun _ => true) (fun l => twO (slC E b) (fun i => nI (gN l i)) L) (permL L) (k9 + 1)).1), some (.int (if k9 < (permL L).length then (1 : Int32) else 0)), some (.int (nI k9)), x4] [] E4 137 := by
      intro E4 x4 t4 k4
      have hC4 := cr_kr t4.1.2.1 hC
      obtain ⟨_, ⟨E5, rfl, n1, n2, n3, n4⟩, hnx⟩ := c_X4_nextOrder (d := d + 5) (cr_plan75 hC4) t4.2.1 t4.2.2.1
      rw [nx_flag hL6 hlk] at hnx
      have t5 := to_next hb t4 n1 n2 n3 n4 (nx_len hL6 hlk)
      have k5 := kept_fr k4 n3 (by decide) (by decide)
      have hgo := hq E5 ⟨⟨_, t5, (nx_len hL6 hlk).trans hll, fun hz => nx_row hL6 hlk hz⟩, k5⟩
      refine Sx.less (ls := [some (.ref 0), some (.int (ordB (fun _ => true) (fun l => twO (slC E b) (fun i => nI (gN l i)) L) (permL L) (k9 + 1)).1), some (.int (if k9 < (permL L).length then (1 : Int32) else 0)), some (.int (nI k9)), none]) (by exact ⟨rfl, rfl, rfl, rfl, trivial⟩) ?_
      refine Sx.up (fun _ kk => r_aload_n 88 dX11_edge_87 rfl rfl kk) ?_
      refine Sx.up (fun _ kk => r_getR 91 dX11_edge_88 rfl f11_67 rfl (by first | with_reducible assumption | with_reducible exact cr_bs hC4 | rfl) (by first | with_reducible assumption | with_reducible exact cr_bn hC4 | exact Nat.le_of_ble_eq_true rfl) (cr_1419_0 hC4) kk) ?_
      refine Sx.up (fun _ kk => r_callV (M := mX11_edge) (pc := 91) 94 dX11_edge_91 rfl k11_283 hnx rfl rfl (by first | with_reducible assumption | with_reducible exact cr_bs hC4 | rfl) (by decide) rfl (by first | with_reducible assumption | with_reducible exact cr_bn hC4 | exact Nat.le_of_ble_eq_true rfl) (Nat.le_of_ble_eq_true rfl) kk) ?_
      refine Sx.up (fun _ kk => r_istore_n 95 dX11_edge_94 rfl (by decide) rfl kk) ?_
      refine Sx.up (fun _ kk => r_iinc (1) 98 dX11_edge_95 rfl rfl (by decide) (by decide) rfl kk) ?_
      refine Sx.up (fun _ kk => r_goto 45 dX11_edge_98 (by decide) kk) ?_
      rw [nI_pp]
      exact Sx.less (by exact ⟨rfl, rfl, rfl, rfl, trivial⟩) hgo
    have hy : (fun _ => true) l = true → (((ordB (fun _ => true) (fun l => twO (slC E b) (fun i => nI (gN l i)) L) (permL L) k9)).1 = -1 ∨ (twO (slC E b) (fun i => nI (gN l i)) L) < ((ordB (fun _ => true) (fun l => twO (slC E b) (fun i => nI (gN l i)) L) (permL L) k9)).1) → (ordB (fun _ => true) (fun l => twO (slC E b) (fun i => nI (gN l i)) L) (permL L) (k9 + 1)) = ((twO (slC E b) (fun i => nI (gN l i)) L), some l) := fun z1 z2 => by
      show (if _ then _ else _) = _
      rw [hgd, if_pos ⟨z1, z2⟩]
    have hn : ¬ ((fun _ => true) l = true ∧ (((ordB (fun _ => true) (fun l => twO (slC E b) (fun i => nI (gN l i)) L) (permL L) k9)).1 = -1 ∨ (twO (slC E b) (fun i => nI (gN l i)) L) < ((ordB (fun _ => true) (fun l => twO (slC E b) (fun i => nI (gN l i)) L) (permL L) k9)).1)) → (ordB (fun _ => true) (fun l => twO (slC E b) (fun i => nI (gN l i)) L) (permL L) (k9 + 1)) = (ordB (fun _ => true) (fun l => twO (slC E b) (fun i => nI (gN l i)) L) (permL L) k9) := fun z => by
      show (if _ then _ else _) = _
      rw [hgd, if_neg z]
    have htw := c_X0_tenthsWoken (d := d + 6) (cr_bed hC2) (cr_plan75 hC2) t3.2.1 (by omega)
    rw [tw_eq (sl := slC E b) (ord := fun i => nI (gN l i)) (fun i hi => ⟨ordAt_L t3.2.2.1 hi, gN l i, (t3.2.2.1.1 i hi).2, rfl, tw_s t3.1 hb (t3.2.2.1.1 i hi).2⟩), hll] at htw
    obtain ⟨t7, k7⟩ := kept_new t3
    have hkp := c_X11_keep (d := d + 5) hC2 t3.2.1
    rw [hll] at k7 t7 hkp
    refine Sx.up (fun _ kk => r_iload_n 46 dX11_edge_45 rfl rfl kk) ?_
    refine Sx.up (fun _ kk => r_sipush (720) 49 dX11_edge_46 rfl (by decide) kk) ?_
    refine Sx.up (fun _ kk => r_icmp_ge 52 101 dX11_edge_49 rfl (by decide) (fun h49 => absurd h49 (fun z => absurd (show nI 720 ≤ nI k9 from z) (nI_ge (show k9 < 720 by omega) (by omega)))) (fun _ => kk)) ?_
    refine Sx.up (fun _ kk => r_iload_n 53 dX11_edge_52 rfl rfl kk) ?_
    refine Sx.up (fun _ kk => r_if_eq 56 101 dX11_edge_53 rfl (by decide) (fun h53 => absurd h53 (by rw [if_pos hk9]; decide)) (fun _ => kk)) ?_
    refine Sx.up (fun _ kk => r_aload_n 57 dX11_edge_56 rfl rfl kk) ?_
    refine Sx.up (fun _ kk => r_getR 60 dX11_edge_57 rfl f11_28 rfl (by first | with_reducible assumption | with_reducible exact cr_bs hC2 | rfl) (by first | with_reducible assumption | with_reducible exact cr_bn hC2 | exact Nat.le_of_ble_eq_true rfl) (cr_told hC2) kk) ?_
    refine Sx.up (fun _ kk => r_aload_n 61 dX11_edge_60 rfl rfl kk) ?_
    refine Sx.up (fun _ kk => r_getR 64 dX11_edge_61 rfl f11_67 rfl (by first | with_reducible assumption | with_reducible exact cr_bs hC2 | rfl) (by first | with_reducible assumption | with_reducible exact cr_bn hC2 | exact Nat.le_of_ble_eq_true rfl) (cr_1419_0 hC2) kk) ?_
    refine Sx.up (fun _ kk => r_callV (M := mX11_edge) (pc := 64) 67 dX11_edge_64 rfl k11_304 htw rfl rfl (by first | with_reducible assumption | with_reducible exact cr_bs hC2 | rfl) (by decide) rfl (by first | with_reducible assumption | with_reducible exact cr_bn hC2 | exact Nat.le_of_ble_eq_true rfl) (Nat.le_of_ble_eq_true rfl) kk) ?_
    refine Sx.up (fun _ kk => r_istore 69 dX11_edge_67 rfl (by decide) rfl kk) ?_
    refine Sx.up (fun _ kk => r_iload_n 70 dX11_edge_69 rfl rfl kk) ?_
    refine Sx.up (fun _ kk => r_iconst (-1) 71 dX11_edge_70 rfl (by decide) kk) ?_
    refine Sx.br (fun _ ka kb => r_icmp_eq 74 80 dX11_edge_71 rfl (by decide) ka kb) (by first | exact em1 | exact em2) (fun h71 => ?_) (fun h71 => ?_)
    · refine Sx.up (fun _ kk => r_iload 82 dX11_edge_80 rfl rfl kk) ?_
      refine Sx.up (fun _ kk => r_istore_n 83 dX11_edge_82 rfl (by decide) rfl kk) ?_
      refine Sx.up (fun _ kk => r_aload_n 84 dX11_edge_83 rfl rfl kk) ?_
      refine Sx.up (fun _ kk => r_callV (M := mX11_edge) (pc := 84) 87 dX11_edge_84 rfl k11_290 hkp rfl rfl (by first | with_reducible assumption | with_reducible exact cr_bs hC2 | rfl) (by decide) rfl (by first | with_reducible assumption | with_reducible exact cr_bn hC2 | exact Nat.le_of_ble_eq_true rfl) (Nat.le_of_ble_eq_true rfl) kk) ?_
      have hok : (fun _ => true : List Nat → Bool) l = true := rfl
      rw [hy hok (Or.inl h71)] at fin
      exact fin _ _ t7 k7
    · refine Sx.up (fun _ kk => r_iload 76 dX11_edge_74 rfl rfl kk) ?_
      refine Sx.up (fun _ kk => r_iload_n 77 dX11_edge_76 rfl rfl kk) ?_
      refine Sx.br (fun _ ka kb => r_icmp_ge 80 87 dX11_edge_77 rfl (by decide) ka kb) (by first | exact em1 | exact em2) (fun h77 => ?_) (fun h77 => ?_)
      · have hok : (fun _ => true : List Nat → Bool) l = true := rfl
        rw [hn (fun z => z.2.elim h71 (Int32.not_lt.mpr h77))] at fin
        exact fin _ _ t3 hke
      · refine Sx.up (fun _ kk => r_iload 82 dX11_edge_80 rfl rfl kk) ?_
        refine Sx.up (fun _ kk => r_istore_n 83 dX11_edge_82 rfl (by decide) rfl kk) ?_
        refine Sx.up (fun _ kk => r_aload_n 84 dX11_edge_83 rfl rfl kk) ?_
        refine Sx.up (fun _ kk => r_callV (M := mX11_edge) (pc := 84) 87 dX11_edge_84 rfl k11_290 hkp rfl rfl (by first | with_reducible assumption | with_reducible exact cr_bs hC2 | rfl) (by decide) rfl (by first | with_reducible assumption | with_reducible exact cr_bn hC2 | exact Nat.le_of_ble_eq_true rfl) (Nat.le_of_ble_eq_true rfl) kk) ?_
        have hok : (fun _ => true : List Nat → Bool) l = true := rfl
        rw [hy hok (Or.inr (Int32.not_le.mp h77))] at fin
        exact fin _ _ t7 k7
set_option maxRecDepth 20000 in
theorem x_orders {d b m : Nat} {R : List Int32} {E : HP} (hci : CI E b 7 m R) : Cl yX11_orders mX11_orders (d + 8) 0 0 [.ref 0] E 137 (.inl (some (.int (-2))), E, 137) := by
  have hC := hci.1
  have cL := hci.2.1
  refine Cl.of (by decide) rfl (fun q => by cases q) rfl rfl (Nat.le_of_ble_eq_true rfl) ?_
  show Sm _ _ _ _ _ 0 [some (.ref 0), none, none, none] [] _ _
  refine r_aload_n 1 dX11_orders_0 rfl rfl ?_
  refine r_getR 4 dX11_orders_1 rfl f11_28 rfl (by first | with_reducible assumption | with_reducible exact cr_bs hC | rfl) (by first | with_reducible assumption | with_reducible exact cr_bn hC | exact Nat.le_of_ble_eq_true rfl) (cr_told hC) ?_
  refine r_getIV (nI 7) 7 dX11_orders_4 rfl f11_101 rfl (by first | with_reducible assumption | with_reducible exact cr_bs hC | rfl) (by first | with_reducible assumption | with_reducible exact cr_bn hC | exact Nat.le_of_ble_eq_true rfl) (cL) ?_
  refine r_bipush (6) 9 dX11_orders_7 rfl (by decide) ?_
  refine r_icmp_le 12 15 dX11_orders_9 rfl (by decide) (fun h9 => absurd h9 (by decide)) (fun h9 => ?_)
  refine r_bipush (-2) 14 dX11_orders_12 rfl (by decide) ?_
  exact r_iret dX11_orders_14 rfl rfl (rfl)
set_option maxRecDepth 20000 in
theorem x_order {d b m : Nat} {R : List Int32} {E : HP} (hci : CI E b 7 m R) : Cl yX11_order mX11_order (d + 8) 0 0 [.ref 0] E 137 (.inl (some (.int (-2))), E, 137) := by
  have hC := hci.1
  have cL := hci.2.1
  refine Cl.of (by decide) rfl (fun q => by cases q) rfl rfl (Nat.le_of_ble_eq_true rfl) ?_
  show Sm _ _ _ _ _ 0 [some (.ref 0), none, none, none, none] [] _ _
  refine r_aload_n 1 dX11_order_0 rfl rfl ?_
  refine r_getR 4 dX11_order_1 rfl f11_28 rfl (by first | with_reducible assumption | with_reducible exact cr_bs hC | rfl) (by first | with_reducible assumption | with_reducible exact cr_bn hC | exact Nat.le_of_ble_eq_true rfl) (cr_told hC) ?_
  refine r_getIV (nI 7) 7 dX11_order_4 rfl f11_101 rfl (by first | with_reducible assumption | with_reducible exact cr_bs hC | rfl) (by first | with_reducible assumption | with_reducible exact cr_bn hC | exact Nat.le_of_ble_eq_true rfl) (cL) ?_
  refine r_bipush (6) 9 dX11_order_7 rfl (by decide) ?_
  refine r_icmp_le 12 15 dX11_order_9 rfl (by decide) (fun h9 => absurd h9 (by decide)) (fun h9 => ?_)
  refine r_bipush (-2) 14 dX11_order_12 rfl (by decide) ?_
  exact r_iret dX11_order_14 rfl rfl (rfl)
set_option maxRecDepth 20000 in
theorem x_edge {d b m : Nat} {R : List Int32} {E : HP} (hci : CI E b 7 m R) : Cl yX11_edge mX11_edge (d + 8) 0 0 [.ref 0] E 137 (.inl (some (.int (-2))), E, 137) := by
  have hC := hci.1
  have cL := hci.2.1
  refine Cl.of (by decide) rfl (fun q => by cases q) rfl rfl (Nat.le_of_ble_eq_true rfl) ?_
  show Sm _ _ _ _ _ 0 [some (.ref 0), none, none, none, none] [] _ _
  refine r_aload_n 1 dX11_edge_0 rfl rfl ?_
  refine r_getR 4 dX11_edge_1 rfl f11_28 rfl (by first | with_reducible assumption | with_reducible exact cr_bs hC | rfl) (by first | with_reducible assumption | with_reducible exact cr_bn hC | exact Nat.le_of_ble_eq_true rfl) (cr_told hC) ?_
  refine r_getIV (nI 7) 7 dX11_edge_4 rfl f11_101 rfl (by first | with_reducible assumption | with_reducible exact cr_bs hC | rfl) (by first | with_reducible assumption | with_reducible exact cr_bn hC | exact Nat.le_of_ble_eq_true rfl) (cL) ?_
  refine r_bipush (6) 9 dX11_edge_7 rfl (by decide) ?_
  refine r_icmp_le 12 15 dX11_edge_9 rfl (by decide) (fun h9 => absurd h9 (by decide)) (fun h9 => ?_)
  refine r_bipush (-2) 14 dX11_edge_12 rfl (by decide) ?_
  exact r_iret dX11_edge_14 rfl rfl (rfl)
