/-! Sums over an order -/
def smF (f : Nat → Int32) : Nat → Int32
  | 0 => 0
  | k + 1 => smF f k + f k
theorem sm_cg {f g : Nat → Int32} : ∀ k, (∀ i, i < k → f i = g i) → smF f k = smF g k := by
  intro k
  induction k with
  | zero => intro _; rfl
  | succ k ih =>
    intro h
    show smF f k + f k = smF g k + g k
    rw [ih (fun i hi => h i (by omega)), h k (by omega)]
theorem sm_0 : ∀ k, smF (fun _ => 0) k = 0 := by
  intro k
  induction k with
  | zero => rfl
  | succ k ih =>
    show smF (fun _ => 0) k + 0 = 0
    rw [ih]; rfl
theorem sm_add {f g : Nat → Int32} : ∀ k, smF (fun i => f i + g i) k = smF f k + smF g k := by
  intro k
  induction k with
  | zero => rfl
  | succ k ih =>
    show smF (fun i => f i + g i) k + (f k + g k) = smF f k + f k + (smF g k + g k)
    rw [ih]
    rw [Int32.add_assoc, Int32.add_assoc, ← Int32.add_assoc (smF g k) (f k) (g k), Int32.add_comm (smF g k) (f k), Int32.add_assoc (f k) (smF g k) (g k)]
theorem sm_swap {h : Nat → Nat → Int32} (m : Nat) : ∀ n, smF (fun i => smF (fun s => h i s) m) n = smF (fun s => smF (fun i => h i s) n) m := by
  intro n
  induction n with
  | zero => exact (sm_0 m).symm
  | succ n ih =>
    show smF (fun i => smF (fun s => h i s) m) n + smF (fun s => h n s) m = _
    rw [ih, ← sm_add]
    rfl
theorem sm_one {f : Nat → Int32} {t : Nat} : ∀ m, smF (fun s => if s = t then f s else 0) m = if t < m then f t else 0 := by
  intro m
  induction m with
  | zero => rfl
  | succ m ih =>
    show smF (fun s => if s = t then f s else 0) m + (if m = t then f m else 0) = _
    rw [ih]
    by_cases e : m = t
    · subst e
      rw [if_neg (Nat.lt_irrefl _), if_pos rfl, if_pos (Nat.lt_succ_self _), Int32.zero_add]
    · rw [if_neg e, Int32.add_zero]
      by_cases z : t < m
      · rw [if_pos z, if_pos (by omega)]
      · rw [if_neg z, if_neg (by omega)]
/-- a sum goes through an order as through the numbers -/
theorem sm_perm {f : Nat → Int32} {p : Nat → Nat} {L : Nat} (h1 : ∀ i, i < L → p i < L) (h2 : ∀ i j, i < L → j < L → p i = p j → i = j) (h3 : ∀ s, s < L → ∃ i, i < L ∧ p i = s) : smF (fun i => f (p i)) L = smF f L := by
  have e1 : smF (fun i => f (p i)) L = smF (fun i => smF (fun s => if s = p i then f s else 0) L) L := sm_cg L fun i hi => by rw [sm_one, if_pos (h1 i hi)]
  rw [e1, sm_swap]
  refine sm_cg L fun s hs => ?_
  obtain ⟨i0, hi0, e⟩ := h3 s hs
  have e2 : smF (fun i => if s = p i then f s else 0) L = smF (fun i => if i = i0 then f s else 0) L := sm_cg L fun i hi => by
    by_cases z : s = p i
    · rw [if_pos z, if_pos (h2 i i0 hi hi0 (by rw [← z, e]))]
    · rw [if_neg z, if_neg (fun y => z (by rw [y, e]))]
  rw [e2]
  have e3 := sm_one (f := fun _ => f s) (t := i0) L
  rw [if_pos hi0] at e3
  exact e3
/-- one that counts nothing may be left out -/
theorem sm_skip {f : Nat → Int32} {k : Nat} (h0 : f k = 0) : ∀ L, k < L + 1 → smF f (L + 1) = smF (fun j => if j < k then f j else f (j + 1)) L := by
  intro L
  induction L with
  | zero =>
    intro hk
    have e : k = 0 := by omega
    subst e
    show smF f 0 + f 0 = 0
    rw [h0]; rfl
  | succ L ih =>
    intro hk
    by_cases e : k = L + 1
    · show smF f (L + 1) + f (L + 1) = _
      rw [← e, h0, Int32.add_zero, e]
      exact sm_cg (L + 1) fun i hi => (if_pos hi).symm
    · show smF f (L + 1) + f (L + 1) = smF (fun j => if j < k then f j else f (j + 1)) L + (if L < k then f L else f (L + 1))
      rw [ih (by omega), if_neg (by omega)]
theorem wid_sm {ro : Int32} {w o : Nat → Int32} : ∀ k, widW ro w o k = ro + smF (fun i => w (o i).toNatClampNeg) k := by
  intro k
  induction k with
  | zero => exact (Int32.add_zero ro).symm
  | succ k ih =>
    show widW ro w o k + w (o k).toNatClampNeg = ro + (smF (fun i => w (o i).toNatClampNeg) k + w (o k).toNatClampNeg)
    rw [ih, Int32.add_assoc]
theorem need_sm {E : HP} {b L : Nat} {x : Int32} (hb : b = 3 ∨ b = 22) : ∀ k, k ≤ L → L ≤ 7 → needV E b x k = gI E 6 b + smF (fun i => if nI i = x then 0 else slC E b 5 i) k := by
  intro k
  induction k with
  | zero => intro _ _; exact (Int32.add_zero _).symm
  | succ k ih =>
    intro h1 h2
    have e := ih (by omega) h2
    show needV E b x k + (if nI k = x then 0 else gI E 1028 (whoId b (nI k))) = gI E 6 b + (smF (fun i => if nI i = x then 0 else slC E b 5 i) k + (if nI k = x then 0 else slC E b 5 k))
    rw [e, Int32.add_assoc, whoId_nI (by omega), slC_lt (by omega)]
theorem b01_not {p : Prop} [Decidable p] : b01 (¬ p) = if p then 0 else 1 := by
  by_cases h : p
  · rw [b01_f (fun z => z h), if_pos h]
  · rw [b01_t h, if_neg h]
/-- an order of all lies as wide as all -/
theorem fre_perm {wd ro : Int32} {w o : Nat → Int32} {L : Nat} (h7 : L ≤ 7) (h1 : ∀ i, i < L → ∃ s, s < L ∧ o i = nI s) (h2 : ∀ i j, i < L → j < L → o i = o j → i = j) (h3 : ∀ s, s < L → ∃ i, i < L ∧ o i = nI s) : freW wd ro w o L = freW wd ro w nI L := by
  have c : ∀ s, s < L → (nI s).toNatClampNeg = s := fun s hs => nI_clamp (by omega)
  unfold freW
  rw [wid_sm, wid_sm, sm_perm (f := w) (p := fun i => (o i).toNatClampNeg) (fun i hi => ?_) (fun i j hi hj e => ?_) (fun s hs => ?_), sm_cg (f := fun i => w (nI i).toNatClampNeg) (g := w) L (fun i hi => by rw [c i hi])]
  · obtain ⟨s, hs, e⟩ := h1 i hi
    show (o i).toNatClampNeg < L
    rw [e, c s hs]; exact hs
  · obtain ⟨s, hs, e1⟩ := h1 i hi
    obtain ⟨s2, hs2, e2⟩ := h1 j hj
    have e : (o i).toNatClampNeg = (o j).toNatClampNeg := e
    rw [e1, e2, c s hs, c s2 hs2] at e
    exact h2 i j hi hj (by rw [e1, e2, e])
  · obtain ⟨i, hi, e⟩ := h3 s hs
    exact ⟨i, hi, by show (o i).toNatClampNeg = s; rw [e, c s hs]⟩
theorem free_all {E : HP} {b L : Nat} {wd ro : Int32} (hb : b = 3 ∨ b = 22) (h7 : L ≤ 7) (h5 : gI E 5 b = wd) (h6 : gI E 6 b = ro) : freeV E b (-1) L = freW wd ro (slC E b 5) nI L := by
  subst h5; subst h6
  unfold freeV freW
  rw [b01_not, need_sm hb L (Nat.le_refl _) h7, wid_sm, sm_cg (f := fun i => if nI i = -1 then 0 else slC E b 5 i) (g := fun i => slC E b 5 (nI i).toNatClampNeg) L (fun i hi => ?_)]
  rw [if_neg (fun z => absurd (show nI i < 0 by rw [z]; decide) (nI_pos (by omega))), nI_clamp (by omega)]
set_option maxHeartbeats 16000000 in
theorem free_but {E : HP} {b L s : Nat} {wd ro : Int32} {c : Cfg} (hb : b = 3 ∨ b = 22) (hc : cful L c) (hs : s < L) (h5 : gI E 5 b = wd) (h6 : gI E 6 b = ro) : freeV E b (nI s) L = freW wd ro (slC E b 5) (cO (cGo c L (plcF (cO c) (nI s) L) (nI s))) (L - 1) := by
  subst h5; subst h6
  obtain ⟨⟨k1, h7, k3, k4, -⟩, k5⟩ := hc
  obtain ⟨i0, hi0, e0⟩ := k5 s hs
  obtain ⟨p1, p2, -⟩ := plc_hit hi0 e0
  obtain ⟨k, hk⟩ : ∃ k, plcF (cO c) (nI s) L = k := ⟨_, rfl⟩
  rw [hk] at p1 p2 ⊢
  have cl : ∀ s, s < L → (nI s).toNatClampNeg = s := fun s hs => nI_clamp (by omega)
  unfold freeV freW
  rw [b01_not, need_sm hb L (Nat.le_refl _) h7, wid_sm]
  have e1 : smF (fun i => if nI i = nI s then 0 else slC E b 5 i) L = smF (fun i => if (cO c i).toNatClampNeg = s then 0 else slC E b 5 (cO c i).toNatClampNeg) L := by
    rw [sm_perm (f := fun i => if i = s then 0 else slC E b 5 i) (p := fun i => (cO c i).toNatClampNeg) (fun i hi => ?_) (fun i j hi hj e => ?_) (fun s hs => ?_)]
    · refine sm_cg L fun i hi => ?_
      by_cases z : i = s
      · rw [if_pos (by rw [z]), if_pos z]
      · rw [if_neg (fun y => z ((nI_eq (by omega) (by omega)).mp y)), if_neg z]
    · obtain ⟨q, hq, e⟩ := k3 i hi
      show (cO c i).toNatClampNeg < L
      rw [e, cl q hq]; exact hq
    · obtain ⟨q, hq, e1⟩ := k3 i hi
      obtain ⟨q2, hq2, e2⟩ := k3 j hj
      have e : (cO c i).toNatClampNeg = (cO c j).toNatClampNeg := e
      rw [e1, e2, cl q hq, cl q2 hq2] at e
      exact k4 i j hi hj (by rw [e1, e2, e])
    · obtain ⟨i, hi, e⟩ := k5 s hs
      exact ⟨i, hi, by show (cO c i).toNatClampNeg = s; rw [e, cl s hs]⟩
  rw [e1]
  obtain ⟨L1, rfl⟩ : ∃ L1, L = L1 + 1 := ⟨L - 1, by omega⟩
  rw [sm_skip (f := fun i => if (cO c i).toNatClampNeg = s then 0 else slC E b 5 (cO c i).toNatClampNeg) (k := k) (by show (if (cO c k).toNatClampNeg = s then (0 : Int32) else slC E b 5 (cO c k).toNatClampNeg) = 0; rw [p2, cl s hs, if_pos rfl]) L1 p1]
  have e2 : smF (fun j => if j < k then (fun i => if (cO c i).toNatClampNeg = s then (0 : Int32) else slC E b 5 (cO c i).toNatClampNeg) j else (fun i => if (cO c i).toNatClampNeg = s then (0 : Int32) else slC E b 5 (cO c i).toNatClampNeg) (j + 1)) L1 = smF (fun i => slC E b 5 (cO (cGo c (L1 + 1) k (nI s)) i).toNatClampNeg) (L1 + 1 - 1) := by
    rw [show L1 + 1 - 1 = L1 from rfl]
    refine sm_cg L1 fun j hj => ?_
    have hne : ∀ i, i < L1 + 1 → ¬ i = k → ¬ (cO c i).toNatClampNeg = s := fun i hi z y => by
      obtain ⟨q, hq, e⟩ := k3 i hi
      rw [e, cl q hq] at y
      exact z (k4 i k hi p1 (by rw [e, y, p2]))
    show _ = slC E b 5 (if j < k then cO c j else if j + 1 < L1 + 1 then cO c (j + 1) else if j + 1 = L1 + 1 then cO c k else cO c j).toNatClampNeg
    by_cases z : j < k
    · rw [if_pos z, if_pos z]
      show (if (cO c j).toNatClampNeg = s then (0 : Int32) else slC E b 5 (cO c j).toNatClampNeg) = _
      rw [if_neg (hne j (by omega) (by omega))]
    · rw [if_neg z, if_neg z, if_pos (by omega)]
      show (if (cO c (j + 1)).toNatClampNeg = s then (0 : Int32) else slC E b 5 (cO c (j + 1)).toNatClampNeg) = _
      rw [if_neg (hne (j + 1) (by omega) (by omega))]
  rw [e2]
