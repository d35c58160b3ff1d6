/-! How often one may be woken; what class and model reckon comes to the same -/
def BdN (S : NS) (W : Nat) : Prop := (∃ w, w ≤ W ∧ nS S 2 = nI w) ∧ ∀ p, ∃ a, a ≤ W ∧ nA S 3 p = nI a
theorem cnt_le {f : Nat → Bool} {a : Nat} : ∀ k, cntF f a k ≤ k := by
  intro k
  induction k with
  | zero => exact Nat.le_refl _
  | succ k ih =>
    show cntF f a k + (if f (a + k) then 1 else 0) ≤ k + 1
    split <;> omega
theorem bd_turn {V : NV} {S : NS} {W a b q t : Nat} {w : Int32} (h : BdN S W) (hb : b ≤ 7) : BdN (turnF V S a b q w t) (W + 7) := by
  obtain ⟨⟨x, hx, e⟩, h2⟩ := h
  refine ⟨⟨x + cntF (wokeF V S a b q t) a (b - a), ?_, ?_⟩, fun p => ?_⟩
  · have := cnt_le (f := wokeF V S a b q t) (a := a) (b - a)
    omega
  · show nS S 2 + nI (cntF (wokeF V S a b q t) a (b - a)) = _
    rw [e, add_nI]
  · obtain ⟨y, hy, e2⟩ := h2 p
    show ∃ a9, a9 ≤ W + 7 ∧ begF (wokenF (flipF V (nA S) a b t) (wokeF V S a b q t) t) q 3 p = nI a9
    have e3 : begF (wokenF (flipF V (nA S) a b t) (wokeF V S a b q t) t) q 3 p = wokenF (flipF V (nA S) a b t) (wokeF V S a b q t) t 3 p := if_neg (fun z => absurd z.1 (by decide))
    have e4 : flipF V (nA S) a b t 3 p = nA S 3 p := by
      unfold flipF
      split
      · rw [if_neg (by decide), if_neg (by decide)]
      · rfl
    rw [e3]
    unfold wokenF
    split
    · rw [if_neg (by decide), if_pos rfl, e4, e2, nI_pp]
      exact ⟨y + 1, by omega, rfl⟩
    · rw [e4]; exact ⟨y, by omega, e2⟩
theorem bd_over {V : NV} {S : NS} {W p t : Nat} (h : BdN S W) (hb : vL V ≤ 7) : BdN (overF V S p t) (W + 7) := by
  obtain ⟨⟨x, hx, e⟩, h2⟩ := h
  refine ⟨⟨x + cntF (overW V S p t) (p + 1) (vL V - (p + 1)), ?_, ?_⟩, fun q => ?_⟩
  · have := cnt_le (f := overW V S p t) (a := p + 1) (vL V - (p + 1))
    omega
  · show nS S 2 + nI (cntF (overW V S p t) (p + 1) (vL V - (p + 1))) = _
    rw [e, add_nI]
  · obtain ⟨y, hy, e2⟩ := h2 q
    show ∃ a9, a9 ≤ W + 7 ∧ wokenF (nA S) (overW V S p t) t 3 q = nI a9
    unfold wokenF
    split
    · rw [if_neg (by decide), if_pos rfl, e2, nI_pp]
      exact ⟨y + 1, by omega, rfl⟩
    · exact ⟨y, by omega, e2⟩
theorem bd_mono {S : NS} {W W2 : Nat} (h : BdN S W) (hw : W ≤ W2) : BdN S W2 := by
  obtain ⟨⟨x, hx, e⟩, h2⟩ := h
  refine ⟨⟨x, by omega, e⟩, fun p => ?_⟩
  obtain ⟨y, hy, e2⟩ := h2 p
  exact ⟨y, by omega, e2⟩
theorem bd_group {V : NV} {S : NS} {W t : Nat} (h : BdN S W) : ∀ b, b ≤ 7 → BdN (groupF V t S b).1 (W + 7 * b) := by
  intro b
  induction b with
  | zero => intro _; exact h
  | succ b ih =>
    intro hb
    have h1 := ih (by omega)
    unfold groupF
    split
    · show BdN (match firstF V (groupF V t S b).1 t (groupF V t S b).2 (b + 1 - (groupF V t S b).2) with | none => (groupF V t S b).1 | some q => turnF V (groupF V t S b).1 (groupF V t S b).2 (b + 1) q 0 t) _
      split
      · exact bd_mono h1 (by omega)
      · exact bd_mono (bd_turn h1 (by omega)) (by omega)
    · exact bd_mono h1 (by omega)
theorem bd_gone {V : NV} {S : NS} {W t : Nat} (h : BdN S W) (h7 : vL V ≤ 7) : ∀ p, BdN (goneF V t S p) (W + 7 * p) := by
  intro p
  induction p with
  | zero => exact h
  | succ p ih =>
    unfold goneF
    split
    · exact bd_mono (bd_over ih h7) (by omega)
    · exact bd_mono ih (by omega)
theorem bd_night {V : NV} (h7 : vL V ≤ 7) : ∀ t, BdN (nightF V t) (105 * t) := by
  intro t
  induction t with
  | zero => exact ⟨⟨0, Nat.le_refl _, rfl⟩, fun p => ⟨0, Nat.le_refl _, rfl⟩⟩
  | succ t ih =>
    have h1 : BdN (if wordF V (t + 1) then turnF V (nightF V t) 0 (vL V) (vW V) 1 (t + 1) else nightF V t) (105 * t + 7) := by
      split
      · exact bd_turn ih h7
      · exact bd_mono ih (by omega)
    have h2 := bd_group (V := V) (t := t + 1) h1 (vL V) h7
    have h3 := bd_gone (V := V) (t := t + 1) h2 h7 (vL V)
    exact bd_mono h3 (by omega)
/-- all who are woken in a night; how often one is -/
theorem wk_all {V : NV} {m : Nat} (h7 : vL V ≤ 7) (m6 : m ≤ 600) : ∃ w, w ≤ 63000 ∧ nS (nightF V m) 2 = nI w := by
  obtain ⟨⟨w, hw, e⟩, -⟩ := bd_night h7 m
  exact ⟨w, by omega, e⟩
theorem wk_one {V : NV} {m s : Nat} (h7 : vL V ≤ 7) (m6 : m ≤ 600) : ∃ w, w ≤ 63000 ∧ byS V (nightF V m) 3 s = nI w := by
  obtain ⟨w, hw, e⟩ := (bd_night h7 m).2 (plcF (vA V 0) (nI s) (vL V))
  exact ⟨w, by omega, e⟩
theorem nI_no1 {k : Nat} (h : k < 2 ^ 31) : ¬ nI k = -1 := fun z => absurd (show nI k < 0 by rw [z]; decide) (nI_pos h)
theorem m1_lt {k : Nat} (h : k < 2 ^ 31) : (-1 : Int32) < nI k := Int32.lt_of_lt_of_le (show (-1 : Int32) < 0 by decide) (Int32.not_lt.mp (nI_pos h))
theorem wor_eq {f : Nat → Int32} : ∀ l, l ≤ 7 → (∀ i, i < l → ∃ a, a < 2 ^ 31 ∧ f i = nI a) → (l = 0 ∧ worM f l = -1 ∧ worF f l = (-1, -1)) ∨ ∃ j, j < l ∧ worM f l = nI j ∧ worF f l = (nI j, f j) := by
  intro l
  induction l with
  | zero => intro _ _; exact Or.inl ⟨rfl, rfl, rfl⟩
  | succ l ih =>
    intro hl hf
    right
    rcases ih (by omega) (fun i hi => hf i (by omega)) with ⟨e0, e1, e2⟩ | ⟨j, hj, e1, e2⟩
    · subst e0
      obtain ⟨a, ha, e⟩ := hf 0 (by omega)
      refine ⟨0, by omega, ?_, ?_⟩
      · unfold worM
        rw [if_pos (Or.inl e1)]
      · unfold worF
        rw [e2, if_pos (by show (-1 : Int32) < f 0; rw [e]; exact m1_lt ha)]
    · have hn : ¬ worM f l = -1 := by rw [e1]; exact nI_no1 (by omega)
      have hc : (worM f l).toNatClampNeg = j := by rw [e1, nI_clamp (by omega)]
      by_cases h : f j < f l
      · refine ⟨l, by omega, ?_, ?_⟩
        · unfold worM
          rw [if_pos (Or.inr (by rw [hc]; exact h))]
        · unfold worF
          rw [e2, if_pos h]
      · refine ⟨j, by omega, ?_, ?_⟩
        · unfold worM
          rw [if_neg (fun z => z.elim hn (by rw [hc]; exact h)), e1]
        · unfold worF
          rw [e2, if_neg h]
theorem wor_1 {f : Nat → Int32} {l : Nat} (hl : l ≤ 7) (hf : ∀ i, i < l → ∃ a, a < 2 ^ 31 ∧ f i = nI a) : (worF f l).1 = worM f l := by
  rcases wor_eq l hl hf with ⟨-, e1, e2⟩ | ⟨j, -, e1, e2⟩
  · rw [e1, e2]
  · rw [e1, e2]
set_option maxHeartbeats 16000000 in
/-- orders: counted one after another, and as a row -/
theorem ord_tie {ok : List Nat → Bool} {w : List Nat → Int32} {P : List (List Nat)} (hw : ∀ l ∈ P, ok l = true → ¬ w l = -1) : ∀ k, k ≤ P.length → ordN ok P k = ((P.take k).filter ok).length ∧ (ordB ok w P k = if ((P.take k).filter ok).length = 0 then (-1, none) else ((foldO w (0, 0, []) ((P.take k).filter ok)).2.1, some (foldO w (0, 0, []) ((P.take k).filter ok)).2.2)) ∧ (¬ ((P.take k).filter ok).length = 0 → ¬ (foldO w (0, 0, []) ((P.take k).filter ok)).2.1 = -1) := by
  intro k
  induction k with
  | zero =>
    intro _
    refine ⟨rfl, rfl, fun z => absurd rfl z⟩
  | succ k ih =>
    intro hk
    obtain ⟨h1, h2, h3⟩ := ih (by omega)
    have hk' : k < P.length := by omega
    obtain ⟨l, hl⟩ : ∃ l, P[k]? = some l := ⟨P[k], List.getElem?_eq_getElem hk'⟩
    have hmem : l ∈ P := List.mem_of_getElem? hl
    have hget : P.getD k [] = l := by rw [List.getD_eq_getElem?_getD, hl]; rfl
    have htake : P.take (k + 1) = P.take k ++ [l] := by rw [List.take_add_one, hl]; rfl
    obtain ⟨Q, hQ⟩ : ∃ Q, (P.take k).filter ok = Q := ⟨_, rfl⟩
    rw [hQ] at h1 h2 h3
    rw [htake, List.filter_append, hQ]
    have hN : ordN ok P (k + 1) = if ok l = true then ordN ok P k + 1 else ordN ok P k := by
      show (if ok (P.getD k []) = true then ordN ok P k + 1 else ordN ok P k) = _
      rw [hget]
    have hB : ordB ok w P (k + 1) = if ok l = true ∧ ((ordB ok w P k).1 = -1 ∨ w l < (ordB ok w P k).1) then (w l, some l) else ordB ok w P k := by
      show (if ok (P.getD k []) = true ∧ ((ordB ok w P k).1 = -1 ∨ w (P.getD k []) < (ordB ok w P k).1) then (w (P.getD k []), some (P.getD k [])) else ordB ok w P k) = _
      rw [hget]
    rw [hN, hB]
    by_cases ho : ok l = true
    · have e1 : [l].filter ok = [l] := by rw [List.filter_cons_of_pos ho]; rfl
      rw [e1, if_pos ho, fold_app]
      have e2 : foldO w (foldO w (0, 0, []) Q) [l] = stepO w (foldO w (0, 0, []) Q) l := rfl
      rw [e2, List.length_append]
      have hlen := fold_n (val := w) Q (0, 0, [])
      have hlen : (foldO w (0, 0, []) Q).1 = Q.length := by rw [hlen]; exact Nat.zero_add _
      have hne : ¬ Q.length + [l].length = 0 := by show ¬ Q.length + 1 = 0; omega
      rw [if_neg hne]
      refine ⟨by rw [h1]; rfl, ?_, fun _ => ?_⟩
      · unfold stepO
        rw [hlen, h2]
        by_cases q0 : Q.length = 0
        · rw [if_pos q0, if_pos ⟨ho, Or.inl rfl⟩, if_pos (Or.inl q0)]
        · rw [if_neg q0]
          by_cases z : w l < (foldO w (0, 0, []) Q).2.1
          · rw [if_pos ⟨ho, Or.inr z⟩, if_pos (Or.inr z)]
          · rw [if_neg (fun y => y.2.elim (h3 q0) z), if_neg (fun y => y.elim q0 z)]
      · unfold stepO
        by_cases q0 : Q.length = 0
        · rw [if_pos (Or.inl (hlen.trans q0))]
          exact hw l hmem ho
        · by_cases z : w l < (foldO w (0, 0, []) Q).2.1
          · rw [if_pos (Or.inr z)]
            exact hw l hmem ho
          · rw [if_neg (fun y => y.elim (fun y => q0 (hlen.symm.trans y)) z)]
            exact h3 q0
    · have e1 : [l].filter ok = [] := by rw [List.filter_cons_of_neg ho]; rfl
      rw [e1, List.append_nil, if_neg ho, if_neg (fun y => ho y.1)]
      exact ⟨h1, h2, h3⟩
theorem ord_tieA {ok : List Nat → Bool} {w : List Nat → Int32} {P : List (List Nat)} (hw : ∀ l ∈ P, ok l = true → ¬ w l = -1) : ordN ok P P.length = (P.filter ok).length ∧ ordB ok w P P.length = if P.filter ok = [] then (-1, none) else ((foldO w (0, 0, []) (P.filter ok)).2.1, some (foldO w (0, 0, []) (P.filter ok)).2.2) := by
  have h := ord_tie hw P.length (Nat.le_refl _)
  rw [List.take_length] at h
  refine ⟨h.1, ?_⟩
  rw [h.2.1]
  by_cases e : P.filter ok = []
  · rw [if_pos e, if_pos (by rw [e]; rfl)]
  · rw [if_neg e, if_neg (fun z => e (List.eq_nil_of_length_eq_zero z))]
theorem okn_cg {L : Nat} {ne ne2 : Nat → Int32} {l : List Nat} (hl : PermOK L l) (h : ∀ s, s < L → ne s = ne2 s) : okN ne 0 l = okN ne2 0 l := by
  rw [Bool.eq_iff_iff, okN_iff, okN_iff]
  have e : ∀ k, k < l.length → ¬ k = 0 → neV ne (gN l (k - 1)) (gN l k) = neV ne2 (gN l (k - 1)) (gN l k) := fun k hk _ => by
    unfold neV
    rw [h _ (hl.2.1 (k - 1) (by rw [← hl.1]; omega))]
  constructor
  · intro z k hk h0 hp
    rw [← e k hk h0]; exact z k hk h0 hp
  · intro z k hk h0 hp
    rw [e k hk h0]; exact z k hk h0 hp
theorem rows_cg {L so : Nat} {ne ne2 : Nat → Int32} (h6 : L < 7) (hso : so < 2) (h : ∀ s, s < L → ne s = ne2 s) : rowsO L ne2 so = (permL L).filter (okN ne 0) := by
  unfold rowsO
  refine List.filter_congr fun l hl => ?_
  rw [if_pos hso]
  exact (okn_cg (perm_ok h6 l hl) h).symm
theorem rows_2 {L : Nat} {ne : Nat → Int32} : rowsO L ne 2 = (permL L).filter (fun _ => true) := by
  unfold rowsO
  refine List.filter_congr fun l _ => ?_
  rw [if_neg (by decide)]
/-- fair nights -/
theorem max_ok {x y : Int32} {a : Nat} (ha : a < 2 ^ 31) (hy : y = nI a) : (if x = -1 ∨ x < y then y else x) = maxF x y := by
  unfold maxF
  by_cases h : x < y
  · rw [if_pos h, if_pos (Or.inr h)]
  · rw [if_neg h, if_neg (fun z => z.elim (fun z => h (by rw [z, hy]; exact m1_lt ha)) h)]
theorem apa_eq {cw : Nat → Bool} {f : Nat → Int32} : ∀ l, (∀ i, i < l → ∃ a, a < 2 ^ 31 ∧ f i = nI a) → apaF cw f l = apaM cw f l := by
  intro l
  induction l with
  | zero => intro _; rfl
  | succ l ih =>
    intro hf
    have e := ih (fun i hi => hf i (by omega))
    obtain ⟨a, ha, ea⟩ := hf l (by omega)
    unfold apaF apaM
    by_cases h : cw l = true
    · rw [if_pos h, if_pos h, e, max_ok ha ea]
      have e2 : (if (apaM cw f l).2 = -1 ∨ f l < (apaM cw f l).2 then f l else (apaM cw f l).2) = (if (apaM cw f l).2 = -1 then f l else minF (apaM cw f l).2 (f l)) := by
        unfold minF
        by_cases z : (apaM cw f l).2 = -1
        · rw [if_pos (Or.inl z), if_pos z]
        · rw [if_neg z]
          by_cases y : f l < (apaM cw f l).2
          · rw [if_pos (Or.inr y), if_pos y]
          · rw [if_neg (fun q => q.elim z y), if_neg y]
      rw [e2]
    · rw [if_neg h, if_neg h, e]
theorem fa_bd {L m : Nat} {sl : Nat → Nat → Int32} {aw : Int32} {R : List Int32} {c : Cfg} {fr : Int32} (h7 : L ≤ 7) (m6 : m ≤ 600) : ∀ k s, ∃ a, a ≤ 63000 * k ∧ faM L m sl aw R c fr k s = nI a := by
  intro k
  induction k with
  | zero => intro s; exact ⟨0, Nat.le_refl _, rfl⟩
  | succ k ih =>
    intro s
    obtain ⟨a, ha, e⟩ := ih s
    obtain ⟨w, hw, e2⟩ := wk_one (V := vMk L sl aw R (cRots L c k) fr) (s := s) h7 m6
    show ∃ a9, a9 ≤ 63000 * (k + 1) ∧ (if plcF (cO (cRots L c k)) (nI s) L < L then faM L m sl aw R c fr k s + byS (vMk L sl aw R (cRots L c k) fr) (nightF (vMk L sl aw R (cRots L c k) fr) m) 3 s else faM L m sl aw R c fr k s) = nI a9
    split
    · exact ⟨a + w, by omega, by rw [e, e2, add_nI]⟩
    · exact ⟨a, by omega, e⟩
