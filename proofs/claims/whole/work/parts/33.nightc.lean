/-! The class' night: what stands fast while it passes (NC), what has become (NR) -/
/-- what a night's minutes change -/
def NF (b : Nat) (E E2 : HP) : Prop := SR E E2 ∧ (∀ g k, ¬ (k = 80 ∧ 264 ≤ g) → ¬ (88 ≤ k ∧ k ≤ 94 ∧ 132 ≤ g ∧ g ≤ 136) → gI E2 g k = gI E g k) ∧ (∀ k, k ≠ 85 → k ≠ b + 9 → k ≠ b + 11 → gA E2 k = gA E k) ∧ E2.2.2.2.2 = E.2.2.2.2
theorem nf_rfl {b : Nat} {E : HP} : NF b E E := ⟨sr_rfl, fun _ _ _ _ => rfl, fun _ _ _ _ => rfl, rfl⟩
theorem nf_tr {b : Nat} {E E2 E3 : HP} (h : NF b E E2) (h2 : NF b E2 E3) : NF b E E3 := ⟨sr_tr h.1 h2.1, fun g k a c => (h2.2.1 g k a c).trans (h.2.1 g k a c), fun k a c e => (h2.2.2.1 k a c e).trans (h.2.2.1 k a c e), h2.2.2.2.trans h.2.2.2⟩
theorem nf_sI {b : Nat} {E E2 : HP} {g k : Nat} {v : Int32} (hk : (k = 80 ∧ 264 ≤ g) ∨ (88 ≤ k ∧ k ≤ 94 ∧ 132 ≤ g ∧ g ≤ 136)) (h : NF b E E2) : NF b E (sI E2 g k v) := by
  refine nf_tr h ⟨sr_sI sr_rfl, fun g2 k2 h1 h2 => ?_, fun _ _ _ _ => rfl, rfl⟩
  rw [gI_sI, if_neg]
  rintro ⟨e1, e2⟩
  subst e1; subst e2
  exact hk.elim h1 h2
theorem nf_sA {b : Nat} {E E2 : HP} {a i : Nat} {v : Int32} (hk : a = 85 ∨ a = b + 9 ∨ a = b + 11) (h : NF b E E2) : NF b E (sA E2 a i v) := by
  refine nf_tr h ⟨sr_sA sr_rfl, fun _ _ _ _ => rfl, fun k h1 h2 h3 => ?_, rfl⟩
  funext z
  rw [gA_sA, if_neg]
  rintro ⟨e1, -⟩
  omega
theorem nf_put {b : Nat} {E E2 : HP} {h l : Nat} {i v : Int32} (hk : h + 1 = 85 ∨ h + 1 = b + 9 ∨ h + 1 = b + 11) (q : NF b E E2) : NF b E (rPut E2 h l i v) := by
  unfold rPut
  split
  · exact q
  · split
    · exact q
    · exact nf_sA hk q
theorem nf_hold {b : Nat} {E E2 : HP} {k : Nat} (q : NF b E E2) : NF b E (ruIt (b + 5) E2 k).1 := by
  have h1 : SR E2 (ruIt (b + 5) E2 k).1 := ruIt_inv (P := fun E3 => SR E2 E3) (fun _ _ _ _ _ z => sr_put z) sr_rfl k
  have h2 : ∀ m, NF b E2 (ruIt (b + 5) E2 m).1 := by
    intro m
    induction m with
    | zero => exact nf_rfl
    | succ m ih =>
      show NF b E2 (ruStep (b + 5) (ruIt (b + 5) E2 m) m).1
      unfold ruStep
      by_cases a1 : rAt (ruIt (b + 5) E2 m).1 (b + 5 + 1) 600 (nI m) < 0
      · rw [if_pos a1]
        by_cases a2 : rAt (ruIt (b + 5) E2 m).1 (b + 5 + 1) 600 (nI m) < -7
        · rw [if_pos a2]
          by_cases a3 : rAt (ruIt (b + 5) E2 m).1 (b + 5 + 1) 600 (nI m) = -10
          · rw [if_pos a3]; exact nf_put (Or.inr (Or.inr (by omega))) ih
          · rw [if_neg a3]; exact nf_put (Or.inr (Or.inr (by omega))) ih
        · rw [if_neg a2]; exact nf_put (Or.inr (Or.inr (by omega))) ih
      · rw [if_neg a1]; exact nf_put (Or.inr (Or.inr (by omega))) ih
  exact nf_tr q (h2 k)
/-- the objects of the night -/
def NightOK (E : HP) (b p : Nat) : Prop := gR E 256 80 = some 86 ∧ gR E 257 80 = some 81 ∧ gR E 258 80 = some 82 ∧ gR E 259 80 = some 84 ∧ gR E 261 80 = some b ∧ gR E 262 80 = some p ∧ (∀ i, i < 7 → gQ E 81 i = some (88 + i)) ∧ RowOK E 137 82 7 ∧ RowOK E 137 84 4 ∧ BedOK E 137 b ∧ PlanOK E 137 p ∧ (b = 3 ∨ b = 22) ∧ (p = 46 ∨ p = 75) ∧ gR E 128 86 = some 87
def wI (b : Nat) (V : NV) (i : Nat) : Nat := whoId b (vA V 0 i)
/-- how all lie: V is what bed, plan and text say -/
def NVis (E : HP) (b p : Nat) (V : NV) : Prop := gI E 514 p = nI (vL V) ∧ vL V ≤ 7 ∧ (∀ i, i < vL V → ordAt E p i = vA V 0 i ∧ gI E 1024 (wI b V i) = vA V 1 i ∧ gI E 1025 (wI b V i) = vA V 2 i ∧ gI E 1026 (wI b V i) = vA V 3 i ∧ gI E 1027 (wI b V i) = vA V 4 i ∧ rAt E (p + 3) 7 (vA V 0 i) = vA V 5 i) ∧ gI E 517 p = vS V 0 ∧ gI E 518 p = vS V 1 ∧ gI E 519 p = vS V 2 ∧ gI E 8 b = vS V 3 ∧ gI E 515 p = vS V 4 ∧ RuleIs E (b + 5) (vR V) ∧ (0 < vS V 0 → PV E p (vL V) (gI E 516 p) (nI (vW V)) ∧ vW V < vL V) ∧ gI E 1024 87 = 0
def NC (E : HP) (b p : Nat) (V : NV) (t : Nat) : Prop := NightOK E b p ∧ NVis E b p V ∧ gI E 263 80 = nI t ∧ t ≤ 600 ∧ (∀ i, i < vL V → gR E 128 (88 + i) = some (wI b V i) ∧ gI E 129 (88 + i) = vA V 0 i ∧ gI E 130 (88 + i) = nI i ∧ gI E 131 (88 + i) = vA V 5 i)
/-- by place: side, since, woken at, times, begun -/
def LF (E : HP) (l : Nat) (f : Nat → Nat → Int32) : Prop := ∀ i, i < l → ∀ k, k < 5 → gI E (132 + k) (88 + i) = f k i
/-- the turn that is looked at -/
def WT (E : HP) (L : List (Int32 × Int32 × Int32 × Int32)) : Prop := ∀ i e, gI E 260 80 = nI i → i < 100000 → L[i]? = some e → gA E 85 0 = e.1 ∧ gA E 85 1 = e.2.1 ∧ gA E 85 2 = e.2.2.1 ∧ gA E 85 3 = e.2.2.2
def NR (E : HP) (V : NV) (S : NS) : Prop := gI E 264 80 = nI (nG S).length ∧ gI E 265 80 = nS S 2 ∧ gI E 266 80 = nS S 0 ∧ gI E 267 80 = nS S 1 ∧ LF E (vL V) (nA S) ∧ WT E (nG S)
theorem sr_night {E E2 : HP} {b p : Nat} (q : SR E E2) (o : NightOK E b p) : NightOK E2 b p := ⟨sr_gR q o.1, sr_gR q o.2.1, sr_gR q o.2.2.1, sr_gR q o.2.2.2.1, sr_gR q o.2.2.2.2.1, sr_gR q o.2.2.2.2.2.1, fun i hi => sr_gQ q (o.2.2.2.2.2.2.1 i hi), sr_row q o.2.2.2.2.2.2.2.1, sr_row q o.2.2.2.2.2.2.2.2.1, sr_bed q o.2.2.2.2.2.2.2.2.2.1, sr_plan q o.2.2.2.2.2.2.2.2.2.2.1, o.2.2.2.2.2.2.2.2.2.2.2.1, o.2.2.2.2.2.2.2.2.2.2.2.2.1, sr_gR q o.2.2.2.2.2.2.2.2.2.2.2.2.2⟩
theorem whoId_r {b : Nat} (hb : b = 3 ∨ b = 22) (s : Int32) : (b + 1 ≤ whoId b s ∧ whoId b s < b + 19) := by
  unfold whoId
  split
  · omega
  · split
    · omega
    · rename_i h1 h2
      obtain ⟨k, hk, rfl⟩ := vp_in_of (vp_of h1 h2 (by omega)) (by omega)
      rw [nI_clamp (by omega)]
      omega
theorem rAt_eq {E E2 : HP} {h l : Nat} {i : Int32} (e : gA E2 (h + 1) = gA E (h + 1)) : rAt E2 h l i = rAt E h l i := by
  unfold rAt; rw [e]
theorem nvis_nf {E E2 : HP} {b p : Nat} {V : NV} (hb : b = 3 ∨ b = 22) (hp : p = 46 ∨ p = 75) (q : NF b E E2) (o : NVis E b p V) : NVis E2 b p V := by
  obtain ⟨-, hI, hA, -⟩ := q
  have gp : ∀ g, gI E2 g p = gI E g p := fun g => hI g p (by omega) (by omega)
  have gb : ∀ g k, k < 46 → gI E2 g k = gI E g k := fun g k hk => hI g k (by omega) (by omega)
  have gw : ∀ g s, gI E2 g (whoId b s) = gI E g (whoId b s) := fun g s => gb g _ (by have := whoId_r hb s; omega)
  have a1 : gA E2 (p + 1 + 1) = gA E (p + 1 + 1) := hA _ (by omega) (by omega) (by omega)
  have a3 : gA E2 (p + 3 + 1) = gA E (p + 3 + 1) := hA _ (by omega) (by omega) (by omega)
  have ar : gA E2 (b + 5 + 2) = gA E (b + 5 + 2) := hA _ (by omega) (by omega) (by omega)
  obtain ⟨o1, o2, o3, o4, o5, o6, o7, o8, o9, o10, o11⟩ := o
  refine ⟨by rw [gp]; exact o1, o2, fun i hi => ?_, by rw [gp]; exact o4, by rw [gp]; exact o5, by rw [gp]; exact o6, by rw [gb _ b (by omega)]; exact o7, by rw [gp]; exact o8, ?_, ?_, by rw [hI _ _ (by omega) (by omega)]; exact o11⟩
  · obtain ⟨c1, c2, c3, c4, c5, c6⟩ := o3 i hi
    unfold wI at *
    refine ⟨by unfold ordAt at *; rw [rAt_eq a1]; exact c1, by rw [gw]; exact c2, by rw [gw]; exact c3, by rw [gw]; exact c4, by rw [gw]; exact c5, by rw [rAt_eq a3]; exact c6⟩
  · exact ⟨by rw [gb _ (b + 5) (by omega)]; exact o9.1, o9.2.1, fun i hi => by rw [ar]; exact o9.2.2.1 i hi, o9.2.2.2⟩
  · intro h
    obtain ⟨c1, c2⟩ := o10 h
    refine ⟨?_, c2⟩
    have eo : ∀ k, ordAt E2 p k = ordAt E p k := fun k => rAt_eq a1
    unfold PV at *
    rw [gp]
    simp only [eo]
    exact c1
theorem nc_nf {E E2 : HP} {b p t : Nat} {V : NV} (q : NF b E E2) (o : NC E b p V t) : NC E2 b p V t := by
  obtain ⟨o1, o2, o3, ot, o4⟩ := o
  have hb := o1.2.2.2.2.2.2.2.2.2.2.2.1
  have hp := o1.2.2.2.2.2.2.2.2.2.2.2.2.1
  refine ⟨sr_night q.1 o1, nvis_nf hb hp q o2, by rw [q.2.1 _ _ (by omega) (by omega)]; exact o3, ot, fun i hi => ?_⟩
  obtain ⟨c1, c2, c3, c4⟩ := o4 i hi
  exact ⟨sr_gR q.1 c1, by rw [q.2.1 _ _ (by omega) (by omega)]; exact c2, by rw [q.2.1 _ _ (by omega) (by omega)]; exact c3, by rw [q.2.1 _ _ (by omega) (by omega)]; exact c4⟩
def liId (l : Nat) (x : Int32) : Nat := if x < 0 then 86 else if nI l ≤ x then 86 else 88 + x.toNatClampNeg
theorem liId_nI {l k : Nat} (hk : k < l) (hl : l ≤ 7) : liId l (nI k) = 88 + k := by
  unfold liId
  rw [if_neg (nI_pos (by omega)), if_neg (nI_ge hk (by omega)), nI_clamp (by omega)]
theorem sh_li {i : Nat} (hi : i < 7) : sh (88 + i) = (1, 0) := by
  match i, hi with
  | 0, _ => rfl | 1, _ => rfl | 2, _ => rfl | 3, _ => rfl | 4, _ => rfl | 5, _ => rfl | 6, _ => rfl
set_option maxRecDepth 20000 in
theorem c_X2_lierIn {d b p l : Nat} {E : HP} {x : Int32} (okn : NightOK E b p) (hl : gI E 514 p = nI l) (hl7 : l ≤ 7) : Cl yX2_lierIn mX2_lierIn (d) 0 0 [.ref 80, .int x] E 137 (.inl (some (.ref (liId l x))), E, 137) := by
  obtain ⟨n1, n2, n3, n4, n5, n6, n7, n8, n9, n10, n11, n12, n13, n14⟩ := id okn
  obtain ⟨p1, p2, p3, p4, p5, p6⟩ := id n11
  refine Cl.of (by decide) rfl (fun q => by cases q) rfl rfl (Nat.le_of_ble_eq_true rfl) ?_
  show Sm _ _ _ _ _ 0 [some (.ref 80), some (.int x)] [] _ _
  by_cases z0 : x < 0
  · refine r_iload_n 1 dX2_lierIn_0 rfl rfl ?_
    refine r_if_lt 4 33 dX2_lierIn_1 rfl (by decide) (fun h1 => ?_) (fun h1 => absurd z0 h1)
    refine r_aload_n 34 dX2_lierIn_33 rfl rfl ?_
    refine r_getR 37 dX2_lierIn_34 rfl f2_62 rfl (by first | with_reducible assumption | exact Nat.le_of_ble_eq_true rfl | with_reducible exact bo_1 n10 | with_reducible exact bo_n n10 | with_reducible exact ro_1 p4 | with_reducible exact ro_6 p4 | with_reducible exact ro_1 p5 | with_reducible exact ro_6 p5 | with_reducible exact ro_1 n8 | with_reducible exact ro_6 n8 | with_reducible exact ro_1 n9 | with_reducible exact ro_6 n9 | rfl) (by first | with_reducible assumption | exact Nat.le_of_ble_eq_true rfl | with_reducible exact bo_1 n10 | with_reducible exact bo_n n10 | with_reducible exact ro_1 p4 | with_reducible exact ro_6 p4 | with_reducible exact ro_1 p5 | with_reducible exact ro_6 p5 | with_reducible exact ro_1 n8 | with_reducible exact ro_6 n8 | with_reducible exact ro_1 n9 | with_reducible exact ro_6 n9 | rfl) (by first | with_reducible assumption | exact Nat.le_of_ble_eq_true rfl | with_reducible exact bo_1 n10 | with_reducible exact bo_n n10 | with_reducible exact ro_1 p4 | with_reducible exact ro_6 p4 | with_reducible exact ro_1 p5 | with_reducible exact ro_6 p5 | with_reducible exact ro_1 n8 | with_reducible exact ro_6 n8 | with_reducible exact ro_1 n9 | with_reducible exact ro_6 n9 | rfl) ?_
    exact r_aret dX2_lierIn_37 rfl rfl (by rw [show liId l x = 86 by unfold liId; rw [if_pos z0]])
  by_cases z1 : nI l ≤ x
  · refine r_iload_n 1 dX2_lierIn_0 rfl rfl ?_
    refine r_if_lt 4 33 dX2_lierIn_1 rfl (by decide) (fun h1 => absurd h1 z0) (fun h1 => ?_)
    refine r_iload_n 5 dX2_lierIn_4 rfl rfl ?_
    refine r_aload_n 6 dX2_lierIn_5 rfl rfl ?_
    refine r_getR 9 dX2_lierIn_6 rfl f2_52 rfl (by first | with_reducible assumption | exact Nat.le_of_ble_eq_true rfl | with_reducible exact bo_1 n10 | with_reducible exact bo_n n10 | with_reducible exact ro_1 p4 | with_reducible exact ro_6 p4 | with_reducible exact ro_1 p5 | with_reducible exact ro_6 p5 | with_reducible exact ro_1 n8 | with_reducible exact ro_6 n8 | with_reducible exact ro_1 n9 | with_reducible exact ro_6 n9 | rfl) (by first | with_reducible assumption | exact Nat.le_of_ble_eq_true rfl | with_reducible exact bo_1 n10 | with_reducible exact bo_n n10 | with_reducible exact ro_1 p4 | with_reducible exact ro_6 p4 | with_reducible exact ro_1 p5 | with_reducible exact ro_6 p5 | with_reducible exact ro_1 n8 | with_reducible exact ro_6 n8 | with_reducible exact ro_1 n9 | with_reducible exact ro_6 n9 | rfl) (by first | with_reducible assumption | exact Nat.le_of_ble_eq_true rfl | with_reducible exact bo_1 n10 | with_reducible exact bo_n n10 | with_reducible exact ro_1 p4 | with_reducible exact ro_6 p4 | with_reducible exact ro_1 p5 | with_reducible exact ro_6 p5 | with_reducible exact ro_1 n8 | with_reducible exact ro_6 n8 | with_reducible exact ro_1 n9 | with_reducible exact ro_6 n9 | rfl) ?_
    refine r_getI 12 dX2_lierIn_9 rfl f2_86 rfl (by first | with_reducible assumption | exact Nat.le_of_ble_eq_true rfl | with_reducible exact bo_1 n10 | with_reducible exact bo_n n10 | with_reducible exact ro_1 p4 | with_reducible exact ro_6 p4 | with_reducible exact ro_1 p5 | with_reducible exact ro_6 p5 | with_reducible exact ro_1 n8 | with_reducible exact ro_6 n8 | with_reducible exact ro_1 n9 | with_reducible exact ro_6 n9 | rfl) (by first | with_reducible assumption | exact Nat.le_of_ble_eq_true rfl | with_reducible exact bo_1 n10 | with_reducible exact bo_n n10 | with_reducible exact ro_1 p4 | with_reducible exact ro_6 p4 | with_reducible exact ro_1 p5 | with_reducible exact ro_6 p5 | with_reducible exact ro_1 n8 | with_reducible exact ro_6 n8 | with_reducible exact ro_1 n9 | with_reducible exact ro_6 n9 | rfl) ?_
    refine r_icmp_ge 15 33 dX2_lierIn_12 rfl (by decide) (fun h12 => ?_) (fun h12 => absurd (by rw [hl]; exact z1) h12)
    refine r_aload_n 34 dX2_lierIn_33 rfl rfl ?_
    refine r_getR 37 dX2_lierIn_34 rfl f2_62 rfl (by first | with_reducible assumption | exact Nat.le_of_ble_eq_true rfl | with_reducible exact bo_1 n10 | with_reducible exact bo_n n10 | with_reducible exact ro_1 p4 | with_reducible exact ro_6 p4 | with_reducible exact ro_1 p5 | with_reducible exact ro_6 p5 | with_reducible exact ro_1 n8 | with_reducible exact ro_6 n8 | with_reducible exact ro_1 n9 | with_reducible exact ro_6 n9 | rfl) (by first | with_reducible assumption | exact Nat.le_of_ble_eq_true rfl | with_reducible exact bo_1 n10 | with_reducible exact bo_n n10 | with_reducible exact ro_1 p4 | with_reducible exact ro_6 p4 | with_reducible exact ro_1 p5 | with_reducible exact ro_6 p5 | with_reducible exact ro_1 n8 | with_reducible exact ro_6 n8 | with_reducible exact ro_1 n9 | with_reducible exact ro_6 n9 | rfl) (by first | with_reducible assumption | exact Nat.le_of_ble_eq_true rfl | with_reducible exact bo_1 n10 | with_reducible exact bo_n n10 | with_reducible exact ro_1 p4 | with_reducible exact ro_6 p4 | with_reducible exact ro_1 p5 | with_reducible exact ro_6 p5 | with_reducible exact ro_1 n8 | with_reducible exact ro_6 n8 | with_reducible exact ro_1 n9 | with_reducible exact ro_6 n9 | rfl) ?_
    exact r_aret dX2_lierIn_37 rfl rfl (by rw [show liId l x = 86 by unfold liId; rw [if_neg z0, if_pos z1]])
  obtain ⟨k, hk, rfl⟩ := vp_in_of (vp_of (l := l) z0 z1 (by omega)) (by omega)
  have hq := n7 k (by omega)
  refine r_iload_n 1 dX2_lierIn_0 rfl rfl ?_
  refine r_if_lt 4 33 dX2_lierIn_1 rfl (by decide) (fun h1 => absurd h1 z0) (fun h1 => ?_)
  refine r_iload_n 5 dX2_lierIn_4 rfl rfl ?_
  refine r_aload_n 6 dX2_lierIn_5 rfl rfl ?_
  refine r_getR 9 dX2_lierIn_6 rfl f2_52 rfl (by first | with_reducible assumption | exact Nat.le_of_ble_eq_true rfl | with_reducible exact bo_1 n10 | with_reducible exact bo_n n10 | with_reducible exact ro_1 p4 | with_reducible exact ro_6 p4 | with_reducible exact ro_1 p5 | with_reducible exact ro_6 p5 | with_reducible exact ro_1 n8 | with_reducible exact ro_6 n8 | with_reducible exact ro_1 n9 | with_reducible exact ro_6 n9 | rfl) (by first | with_reducible assumption | exact Nat.le_of_ble_eq_true rfl | with_reducible exact bo_1 n10 | with_reducible exact bo_n n10 | with_reducible exact ro_1 p4 | with_reducible exact ro_6 p4 | with_reducible exact ro_1 p5 | with_reducible exact ro_6 p5 | with_reducible exact ro_1 n8 | with_reducible exact ro_6 n8 | with_reducible exact ro_1 n9 | with_reducible exact ro_6 n9 | rfl) (by first | with_reducible assumption | exact Nat.le_of_ble_eq_true rfl | with_reducible exact bo_1 n10 | with_reducible exact bo_n n10 | with_reducible exact ro_1 p4 | with_reducible exact ro_6 p4 | with_reducible exact ro_1 p5 | with_reducible exact ro_6 p5 | with_reducible exact ro_1 n8 | with_reducible exact ro_6 n8 | with_reducible exact ro_1 n9 | with_reducible exact ro_6 n9 | rfl) ?_
  refine r_getI 12 dX2_lierIn_9 rfl f2_86 rfl (by first | with_reducible assumption | exact Nat.le_of_ble_eq_true rfl | with_reducible exact bo_1 n10 | with_reducible exact bo_n n10 | with_reducible exact ro_1 p4 | with_reducible exact ro_6 p4 | with_reducible exact ro_1 p5 | with_reducible exact ro_6 p5 | with_reducible exact ro_1 n8 | with_reducible exact ro_6 n8 | with_reducible exact ro_1 n9 | with_reducible exact ro_6 n9 | rfl) (by first | with_reducible assumption | exact Nat.le_of_ble_eq_true rfl | with_reducible exact bo_1 n10 | with_reducible exact bo_n n10 | with_reducible exact ro_1 p4 | with_reducible exact ro_6 p4 | with_reducible exact ro_1 p5 | with_reducible exact ro_6 p5 | with_reducible exact ro_1 n8 | with_reducible exact ro_6 n8 | with_reducible exact ro_1 n9 | with_reducible exact ro_6 n9 | rfl) ?_
  refine r_icmp_ge 15 33 dX2_lierIn_12 rfl (by decide) (fun h12 => absurd h12 (by rw [hl]; exact z1)) (fun h12 => ?_)
  refine r_iload_n 16 dX2_lierIn_15 rfl rfl ?_
  refine r_aload_n 17 dX2_lierIn_16 rfl rfl ?_
  refine r_getR 20 dX2_lierIn_17 rfl f2_11 rfl (by first | with_reducible assumption | exact Nat.le_of_ble_eq_true rfl | with_reducible exact bo_1 n10 | with_reducible exact bo_n n10 | with_reducible exact ro_1 p4 | with_reducible exact ro_6 p4 | with_reducible exact ro_1 p5 | with_reducible exact ro_6 p5 | with_reducible exact ro_1 n8 | with_reducible exact ro_6 n8 | with_reducible exact ro_1 n9 | with_reducible exact ro_6 n9 | rfl) (by first | with_reducible assumption | exact Nat.le_of_ble_eq_true rfl | with_reducible exact bo_1 n10 | with_reducible exact bo_n n10 | with_reducible exact ro_1 p4 | with_reducible exact ro_6 p4 | with_reducible exact ro_1 p5 | with_reducible exact ro_6 p5 | with_reducible exact ro_1 n8 | with_reducible exact ro_6 n8 | with_reducible exact ro_1 n9 | with_reducible exact ro_6 n9 | rfl) (by first | with_reducible assumption | exact Nat.le_of_ble_eq_true rfl | with_reducible exact bo_1 n10 | with_reducible exact bo_n n10 | with_reducible exact ro_1 p4 | with_reducible exact ro_6 p4 | with_reducible exact ro_1 p5 | with_reducible exact ro_6 p5 | with_reducible exact ro_1 n8 | with_reducible exact ro_6 n8 | with_reducible exact ro_1 n9 | with_reducible exact ro_6 n9 | rfl) ?_
  refine r_alenQ _ 21 dX2_lierIn_20 rfl (show sh 81 = (103, 7) from rfl) (by decide) (by decide) (Nat.le_of_ble_eq_true rfl) rfl ?_
  refine r_icmp_ge 24 33 dX2_lierIn_21 rfl (by decide) (fun h21 => absurd h21 (nI_ge (show k < 7 by omega) (by omega))) (fun h21 => ?_)
  refine r_aload_n 25 dX2_lierIn_24 rfl rfl ?_
  refine r_getR 28 dX2_lierIn_25 rfl f2_11 rfl (by first | with_reducible assumption | exact Nat.le_of_ble_eq_true rfl | with_reducible exact bo_1 n10 | with_reducible exact bo_n n10 | with_reducible exact ro_1 p4 | with_reducible exact ro_6 p4 | with_reducible exact ro_1 p5 | with_reducible exact ro_6 p5 | with_reducible exact ro_1 n8 | with_reducible exact ro_6 n8 | with_reducible exact ro_1 n9 | with_reducible exact ro_6 n9 | rfl) (by first | with_reducible assumption | exact Nat.le_of_ble_eq_true rfl | with_reducible exact bo_1 n10 | with_reducible exact bo_n n10 | with_reducible exact ro_1 p4 | with_reducible exact ro_6 p4 | with_reducible exact ro_1 p5 | with_reducible exact ro_6 p5 | with_reducible exact ro_1 n8 | with_reducible exact ro_6 n8 | with_reducible exact ro_1 n9 | with_reducible exact ro_6 n9 | rfl) (by first | with_reducible assumption | exact Nat.le_of_ble_eq_true rfl | with_reducible exact bo_1 n10 | with_reducible exact bo_n n10 | with_reducible exact ro_1 p4 | with_reducible exact ro_6 p4 | with_reducible exact ro_1 p5 | with_reducible exact ro_6 p5 | with_reducible exact ro_1 n8 | with_reducible exact ro_6 n8 | with_reducible exact ro_1 n9 | with_reducible exact ro_6 n9 | rfl) ?_
  refine r_iload_n 29 dX2_lierIn_28 rfl rfl ?_
  refine r_aald 30 dX2_lierIn_29 rfl (by first | with_reducible assumption | exact Nat.le_of_ble_eq_true rfl | with_reducible exact bo_1 n10 | with_reducible exact bo_n n10 | with_reducible exact ro_1 p4 | with_reducible exact ro_6 p4 | with_reducible exact ro_1 p5 | with_reducible exact ro_6 p5 | with_reducible exact ro_1 n8 | with_reducible exact ro_6 n8 | with_reducible exact ro_1 n9 | with_reducible exact ro_6 n9 | rfl) (by decide) (by decide) (by first | with_reducible assumption | exact Nat.le_of_ble_eq_true rfl | with_reducible exact bo_1 n10 | with_reducible exact bo_n n10 | with_reducible exact ro_1 p4 | with_reducible exact ro_6 p4 | with_reducible exact ro_1 p5 | with_reducible exact ro_6 p5 | with_reducible exact ro_1 n8 | with_reducible exact ro_6 n8 | with_reducible exact ro_1 n9 | with_reducible exact ro_6 n9 | rfl) (vp_in_nI (show k < 7 by omega) (by omega)) (by rw [nI_clamp (by omega)]; exact hq) ?_
  refine r_ifnonnull 38 dX2_lierIn_30 (by decide) ?_
  refine r_aload_n 39 dX2_lierIn_38 rfl rfl ?_
  refine r_getR 42 dX2_lierIn_39 rfl f2_11 rfl (by first | with_reducible assumption | exact Nat.le_of_ble_eq_true rfl | with_reducible exact bo_1 n10 | with_reducible exact bo_n n10 | with_reducible exact ro_1 p4 | with_reducible exact ro_6 p4 | with_reducible exact ro_1 p5 | with_reducible exact ro_6 p5 | with_reducible exact ro_1 n8 | with_reducible exact ro_6 n8 | with_reducible exact ro_1 n9 | with_reducible exact ro_6 n9 | rfl) (by first | with_reducible assumption | exact Nat.le_of_ble_eq_true rfl | with_reducible exact bo_1 n10 | with_reducible exact bo_n n10 | with_reducible exact ro_1 p4 | with_reducible exact ro_6 p4 | with_reducible exact ro_1 p5 | with_reducible exact ro_6 p5 | with_reducible exact ro_1 n8 | with_reducible exact ro_6 n8 | with_reducible exact ro_1 n9 | with_reducible exact ro_6 n9 | rfl) (by first | with_reducible assumption | exact Nat.le_of_ble_eq_true rfl | with_reducible exact bo_1 n10 | with_reducible exact bo_n n10 | with_reducible exact ro_1 p4 | with_reducible exact ro_6 p4 | with_reducible exact ro_1 p5 | with_reducible exact ro_6 p5 | with_reducible exact ro_1 n8 | with_reducible exact ro_6 n8 | with_reducible exact ro_1 n9 | with_reducible exact ro_6 n9 | rfl) ?_
  refine r_iload_n 43 dX2_lierIn_42 rfl rfl ?_
  refine r_aald 44 dX2_lierIn_43 rfl (by first | with_reducible assumption | exact Nat.le_of_ble_eq_true rfl | with_reducible exact bo_1 n10 | with_reducible exact bo_n n10 | with_reducible exact ro_1 p4 | with_reducible exact ro_6 p4 | with_reducible exact ro_1 p5 | with_reducible exact ro_6 p5 | with_reducible exact ro_1 n8 | with_reducible exact ro_6 n8 | with_reducible exact ro_1 n9 | with_reducible exact ro_6 n9 | rfl) (by decide) (by decide) (by first | with_reducible assumption | exact Nat.le_of_ble_eq_true rfl | with_reducible exact bo_1 n10 | with_reducible exact bo_n n10 | with_reducible exact ro_1 p4 | with_reducible exact ro_6 p4 | with_reducible exact ro_1 p5 | with_reducible exact ro_6 p5 | with_reducible exact ro_1 n8 | with_reducible exact ro_6 n8 | with_reducible exact ro_1 n9 | with_reducible exact ro_6 n9 | rfl) (vp_in_nI (show k < 7 by omega) (by omega)) (by rw [nI_clamp (by omega)]; exact hq) ?_
  exact r_aret dX2_lierIn_44 rfl rfl (by rw [liId_nI hk hl7])
