/-! THE LAYER, 1: heaps by ids (fields by number and object, arrays by id), and the world of cells that such a heap is. An id below 1000 is the cell B + id. -/
abbrev HP : Type := (Nat → Nat → Int32) × (Nat → Nat → Option Nat) × (Nat → Nat → Int32) × (Nat → Nat → Option Nat) × (Nat → Nat → Int64)
def gI (E : HP) (g k : Nat) : Int32 := E.1 g k
def gR (E : HP) (g k : Nat) : Option Nat := E.2.1 g k
def gA (E : HP) (a : Nat) : Nat → Int32 := E.2.2.1 a
def gQ (E : HP) (a : Nat) : Nat → Option Nat := E.2.2.2.1 a
def gL (E : HP) (a : Nat) : Nat → Int64 := E.2.2.2.2 a
def sI (E : HP) (g k : Nat) (v : Int32) : HP := (fun a b => if a = g ∧ b = k then v else E.1 a b, E.2)
def sR (E : HP) (g k : Nat) (v : Option Nat) : HP := (E.1, fun a b => if a = g ∧ b = k then v else E.2.1 a b, E.2.2)
def sA (E : HP) (a i : Nat) (v : Int32) : HP := (E.1, E.2.1, fun x j => if x = a ∧ j = i then v else E.2.2.1 x j, E.2.2.2)
def sQ (E : HP) (a i : Nat) (v : Option Nat) : HP := (E.1, E.2.1, E.2.2.1, fun x j => if x = a ∧ j = i then v else E.2.2.2.1 x j, E.2.2.2.2)
def sL (E : HP) (a i : Nat) (v : Int64) : HP := (E.1, E.2.1, E.2.2.1, E.2.2.2.1, fun x j => if x = a ∧ j = i then v else E.2.2.2.2 x j)
/-- a new thing: all its fields and elements are 0, null -/
def zp (E : HP) (k : Nat) : HP := (fun a b => if b = k then 0 else E.1 a b, fun a b => if b = k then none else E.2.1 a b, fun x j => if x = k then 0 else E.2.2.1 x j, fun x j => if x = k then none else E.2.2.2.1 x j, fun x j => if x = k then 0 else E.2.2.2.2 x j)
theorem gI_sI (E : HP) (g k g' k' : Nat) (v : Int32) : gI (sI E g k v) g' k' = if g' = g ∧ k' = k then v else gI E g' k' := rfl
theorem gR_sI (E : HP) (g k g' k' : Nat) (v : Int32) : gR (sI E g k v) g' k' = gR E g' k' := rfl
theorem gA_sI (E : HP) (g k a : Nat) (v : Int32) : gA (sI E g k v) a = gA E a := rfl
theorem gQ_sI (E : HP) (g k a : Nat) (v : Int32) : gQ (sI E g k v) a = gQ E a := rfl
theorem gL_sI (E : HP) (g k a : Nat) (v : Int32) : gL (sI E g k v) a = gL E a := rfl
theorem gI_sR (E : HP) (g k g' k' : Nat) (v : Option Nat) : gI (sR E g k v) g' k' = gI E g' k' := rfl
theorem gR_sR (E : HP) (g k g' k' : Nat) (v : Option Nat) : gR (sR E g k v) g' k' = if g' = g ∧ k' = k then v else gR E g' k' := rfl
theorem gA_sR (E : HP) (g k a : Nat) (v : Option Nat) : gA (sR E g k v) a = gA E a := rfl
theorem gQ_sR (E : HP) (g k a : Nat) (v : Option Nat) : gQ (sR E g k v) a = gQ E a := rfl
theorem gL_sR (E : HP) (g k a : Nat) (v : Option Nat) : gL (sR E g k v) a = gL E a := rfl
theorem gI_sA (E : HP) (a i g k : Nat) (v : Int32) : gI (sA E a i v) g k = gI E g k := rfl
theorem gR_sA (E : HP) (a i g k : Nat) (v : Int32) : gR (sA E a i v) g k = gR E g k := rfl
theorem gA_sA (E : HP) (a i a' j : Nat) (v : Int32) : gA (sA E a i v) a' j = if a' = a ∧ j = i then v else gA E a' j := rfl
theorem gQ_sA (E : HP) (a i a' : Nat) (v : Int32) : gQ (sA E a i v) a' = gQ E a' := rfl
theorem gL_sA (E : HP) (a i a' : Nat) (v : Int32) : gL (sA E a i v) a' = gL E a' := rfl
theorem gI_sQ (E : HP) (a i g k : Nat) (v : Option Nat) : gI (sQ E a i v) g k = gI E g k := rfl
theorem gR_sQ (E : HP) (a i g k : Nat) (v : Option Nat) : gR (sQ E a i v) g k = gR E g k := rfl
theorem gA_sQ (E : HP) (a i a' : Nat) (v : Option Nat) : gA (sQ E a i v) a' = gA E a' := rfl
theorem gQ_sQ (E : HP) (a i a' j : Nat) (v : Option Nat) : gQ (sQ E a i v) a' j = if a' = a ∧ j = i then v else gQ E a' j := rfl
theorem gL_sQ (E : HP) (a i a' : Nat) (v : Option Nat) : gL (sQ E a i v) a' = gL E a' := rfl
theorem gI_sL (E : HP) (a i g k : Nat) (v : Int64) : gI (sL E a i v) g k = gI E g k := rfl
theorem gR_sL (E : HP) (a i g k : Nat) (v : Int64) : gR (sL E a i v) g k = gR E g k := rfl
theorem gA_sL (E : HP) (a i a' : Nat) (v : Int64) : gA (sL E a i v) a' = gA E a' := rfl
theorem gQ_sL (E : HP) (a i a' : Nat) (v : Int64) : gQ (sL E a i v) a' = gQ E a' := rfl
theorem gL_sL (E : HP) (a i a' j : Nat) (v : Int64) : gL (sL E a i v) a' j = if a' = a ∧ j = i then v else gL E a' j := rfl
theorem gI_zp (E : HP) (n g k : Nat) : gI (zp E n) g k = if k = n then 0 else gI E g k := rfl
theorem gR_zp (E : HP) (n g k : Nat) : gR (zp E n) g k = if k = n then none else gR E g k := rfl
theorem gA_zp (E : HP) (n a j : Nat) : gA (zp E n) a j = if a = n then 0 else gA E a j := rfl
theorem gQ_zp (E : HP) (n a j : Nat) : gQ (zp E n) a j = if a = n then none else gQ E a j := rfl
theorem gL_zp (E : HP) (n a j : Nat) : gL (zp E n) a j = if a = n then 0 else gL E a j := rfl
/-- classes by number; 13 is the law's, from 14 on the JDK's -/
def cn : Nat → String
  | 0 => RX0 | 1 => RX1 | 2 => RX2 | 3 => RX3 | 4 => RX4 | 5 => RX5 | 6 => RX6 | 7 => RX7 | 8 => RX8 | 9 => RX9 | 10 => RX10 | 11 => RX11 | 12 => RX12 | 13 => RL | 14 => RJ6 | 15 => RJ0 | 16 => RJ1 | 17 => RJ2 | _ => RJ3
def clT : Nat → u_T
  | 0 => TX0 | 1 => TX1 | 2 => TX2 | 3 => TX3 | 4 => TX4 | 5 => TX5 | 6 => TX6 | 7 => TX7 | 8 => TX8 | 9 => TX9 | 10 => TX10 | 11 => TX11 | _ => TX12
def clN : Nat → Nat
  | 0 => 11 | 1 => 9 | 2 => 12 | 3 => 3 | 4 => 8 | 5 => 5 | 6 => 1 | 7 => 4 | 8 => 7 | 9 => 4 | 10 => 5 | 11 => 13 | _ => 73
def clTy : Nat → Nat → FieldType
  | 0 => tyX0 | 1 => tyX1 | 2 => tyX2 | 3 => tyX3 | 4 => tyX4 | 5 => tyX5 | 6 => tyX6 | 7 => tyX7 | 8 => tyX8 | 9 => tyX9 | 10 => tyX10 | 11 => tyX11 | _ => tyX12
theorem lt13 {P : Nat → Prop} (h0 : P 0) (h1 : P 1) (h2 : P 2) (h3 : P 3) (h4 : P 4) (h5 : P 5) (h6 : P 6) (h7 : P 7) (h8 : P 8) (h9 : P 9) (h10 : P 10) (h11 : P 11) (h12 : P 12) : ∀ c, c < 13 → P c := by
  intro c hc
  match c, hc with
  | 0, _ => exact h0 | 1, _ => exact h1 | 2, _ => exact h2 | 3, _ => exact h3 | 4, _ => exact h4 | 5, _ => exact h5 | 6, _ => exact h6
  | 7, _ => exact h7 | 8, _ => exact h8 | 9, _ => exact h9 | 10, _ => exact h10 | 11, _ => exact h11 | 12, _ => exact h12
theorem cl_cl : ∀ c, c < 13 → vwCl[c]? = some (cn c, clT c, clN c) := lt13 rfl rfl rfl rfl rfl rfl rfl rfl rfl rfl rfl rfl rfl
theorem cl_in : ∀ c, c < 13 → ∀ w ∈ u_ws (cn c) (clT c) (clN c), w ∈ TB := lt13 inX0 inX1 inX2 inX3 inX4 inX5 inX6 inX7 inX8 inX9 inX10 inX11 inX12
theorem cl_ty : ∀ c, c < 13 → ∀ k, k < clN c → parseFieldDescriptor (clT c k).2.2.1 = some (clTy c k) := lt13 tyX0_ok tyX1_ok tyX2_ok tyX3_ok tyX4_ok tyX5_ok tyX6_ok tyX7_ok tyX8_ok tyX9_ok tyX10_ok tyX11_ok tyX12_ok
theorem cl_nm : ∀ c, c < 13 → ∀ a, a < clN c → ∀ b, b < clN c → a ≠ b → (clT c a).2.1 ≠ (clT c b).2.1 := lt13 nmX0 nmX1 nmX2 nmX3 nmX4 nmX5 nmX6 nmX7 nmX8 nmX9 nmX10 nmX11 nmX12
def isRf (t : FieldType) : Bool := match t with
  | .object _ => true
  | .array _ => true
  | _ => false
/-- the run's fixed numbers: B; the addresses of what is only read (ids from 1000 on); the classes' numbers and slots; the array classes' numbers -/
abbrev GG : Type := Nat × (Nat → Nat) × va_G × (Nat → ClassId)
def ad (G : GG) (k : Nat) : Nat := if k < 1000 then G.1 + k else G.2.1 k
def tr (G : GG) : Value → Value
  | .ref k => .ref (ad G k)
  | v => v
def fA (G : GG) : Nat → Prop := fun q => G.1 ≤ q
def tyL (G : GG) : List (ClassId × FieldType) := [(G.2.2.2 0, .int), (G.2.2.2 1, .long), (G.2.2.2 2, .object RX8), (G.2.2.2 3, .object RX1), (G.2.2.2 4, .object "java/lang/String")]
def fv (G : GG) (E : HP) (c k j : Nat) : Value := if isRf (clTy c j) then va_rf ((gR E (128 * c + j) k).map (ad G)) else .int (gI E (128 * c + j) k)
/-- the cell of an id: its shape says the class (below 13), or the kind of array, and how long it is -/
def ent (sh : Nat → Nat × Nat) (G : GG) (E : HP) (k : Nat) : va_E :=
  if (sh k).1 < 13 then .inr ((sh k).1, (List.range (clN (sh k).1)).map (fv G E (sh k).1 k))
  else if (sh k).1 = 100 then .inl (G.2.2.2 0, (sh k).2, .inl (gA E k))
  else if (sh k).1 = 101 then .inl (G.2.2.2 1, (sh k).2, .inr (.inl (gL E k)))
  else .inl (G.2.2.2 ((sh k).1 - 100), (sh k).2, .inr (.inr (.inr (.inr (fun i => (gQ E k i).map (ad G))))))
def wl (sh : Nat → Nat × Nat) (G : GG) (E : HP) (n : Nat) : va_W := (List.range n).map (fun k => (ad G k, ent sh G E k))
theorem wl_get {sh : Nat → Nat × Nat} {G : GG} {E : HP} {n k : Nat} (h : k < n) : (wl sh G E n)[k]? = some (ad G k, ent sh G E k) := by
  unfold wl
  rw [List.getElem?_map, List.getElem?_range h]
  rfl
theorem wl_len (sh : Nat → Nat × Nat) (G : GG) (E : HP) (n : Nat) : (wl sh G E n).length = n := by simp [wl]
theorem wl_push (sh : Nat → Nat × Nat) (G : GG) (E : HP) (n : Nat) : wl sh G E n ++ [(ad G n, ent sh G E n)] = wl sh G E (n + 1) := by
  unfold wl
  rw [List.range_succ, List.map_append]
  rfl
theorem wl_eq {sh : Nat → Nat × Nat} {G : GG} {E E' : HP} {n : Nat} (h : ∀ j, j < n → ent sh G E' j = ent sh G E j) : wl sh G E' n = wl sh G E n := by
  unfold wl
  refine List.map_congr_left fun k hk => ?_
  rw [h k (List.mem_range.mp hk)]
theorem wl_set {sh : Nat → Nat × Nat} {G : GG} {E E' : HP} {n k : Nat} (h : ∀ j, j < n → j ≠ k → ent sh G E' j = ent sh G E j) {x : va_E} (hx : x = ent sh G E' k) : (wl sh G E n).set k (ad G k, x) = wl sh G E' n := by
  subst hx
  refine List.ext_getElem? fun j => ?_
  rw [List.getElem?_set]
  by_cases hj : j < n
  · by_cases hk : k = j
    · subst hk
      rw [if_pos rfl, wl_len, if_pos hj, wl_get hj]
    · rw [if_neg hk, wl_get hj, wl_get hj, h j hj (fun e => hk e.symm)]
  · have e1 : (wl sh G E n)[j]? = none := List.getElem?_eq_none (by rw [wl_len]; omega)
    have e2 : (wl sh G E' n)[j]? = none := List.getElem?_eq_none (by rw [wl_len]; omega)
    rw [e1, e2, wl_len]
    by_cases hk : k = j
    · subst hk; rw [if_pos rfl, if_neg hj]
    · rw [if_neg hk]
theorem ad_lo {G : GG} {k : Nat} (h : k < 1000) : ad G k = G.1 + k := by unfold ad; rw [if_pos h]
theorem wl_D {sh : Nat → Nat × Nat} {G : GG} {E : HP} {n : Nat} (hn : n ≤ 1000) : va_D (fA G) (wl sh G E n) := by
  have lt : ∀ {i : Nat} {p : Nat × va_E}, (wl sh G E n)[i]? = some p → i < n := fun h => by
    have := (List.getElem?_eq_some_iff.mp h).1
    rwa [wl_len] at this
  refine ⟨fun i j p q hi hj e => ?_, fun k q hk => ?_⟩
  · have h1 := lt hi
    have h2 := lt hj
    rw [wl_get h1] at hi
    rw [wl_get h2] at hj
    cases hi
    cases hj
    have e' : ad G i = ad G j := e
    rw [ad_lo (by omega), ad_lo (by omega)] at e'
    omega
  · have h1 := lt hk
    rw [wl_get h1] at hk
    cases hk
    show G.1 ≤ ad G k
    rw [ad_lo (by omega)]
    omega
/-- a heap of JVM cells is the world of E, with n ids made; while not all NM are made, nothing else is -/
def WL (sh : Nat → Nat × Nat) (nm : Nat) (G : GG) (E : HP) (n : Nat) (H : Heap) : Prop := va_P G.2.2.1 vwCl (wl sh G E n) H ∧ n ≤ nm ∧ nm ≤ 1000 ∧ (n < nm → H.size = G.1 + n)
theorem ent_obj {sh : Nat → Nat × Nat} {G : GG} {E : HP} {k c l : Nat} (h : sh k = (c, l)) (hc : c < 13) : ent sh G E k = .inr (c, (List.range (clN c)).map (fv G E c k)) := by
  unfold ent; rw [h, if_pos hc]
theorem ent_ia {sh : Nat → Nat × Nat} {G : GG} {E : HP} {k l : Nat} (h : sh k = (100, l)) : ent sh G E k = .inl (G.2.2.2 0, l, .inl (gA E k)) := by
  unfold ent; rw [h, if_neg (by show ¬ 100 < 13; decide), if_pos rfl]
theorem ent_la {sh : Nat → Nat × Nat} {G : GG} {E : HP} {k l : Nat} (h : sh k = (101, l)) : ent sh G E k = .inl (G.2.2.2 1, l, .inr (.inl (gL E k))) := by
  unfold ent; rw [h, if_neg (by show ¬ 101 < 13; decide), if_neg (by show ¬ 101 = 100; decide), if_pos rfl]
theorem ent_qa {sh : Nat → Nat × Nat} {G : GG} {E : HP} {k c l : Nat} (h : sh k = (c, l)) (hc : 102 ≤ c) : ent sh G E k = .inl (G.2.2.2 (c - 100), l, .inr (.inr (.inr (.inr (fun i => (gQ E k i).map (ad G)))))) := by
  unfold ent; rw [h, if_neg (by show ¬ c < 13; omega), if_neg (by show ¬ c = 100; omega), if_neg (by show ¬ c = 101; omega)]
theorem fv_get {G : GG} {E : HP} {c k j : Nat} (hj : j < clN c) : ((List.range (clN c)).map (fv G E c k))[j]? = some (fv G E c k j) := by
  rw [List.getElem?_map, List.getElem?_range hj]; rfl
/-- a field written -/
theorem wl_sI {sh : Nat → Nat × Nat} {G : GG} {E : HP} {n h c l j : Nat} {v : Int32} (hs : sh h = (c, l)) (hc : c < 13) (hj : j < clN c) (hN : clN c ≤ 128) (ht : isRf (clTy c j) = false) :
    (wl sh G E n).set h (ad G h, .inr (c, ((List.range (clN c)).map (fv G E c h)).set j (.int v))) = wl sh G (sI E (128 * c + j) h v) n := by
  refine wl_set (fun i _ hi => ?_) ?_
  · unfold ent
    have e : ∀ c' j', fv G (sI E (128 * c + j) h v) c' i j' = fv G E c' i j' := fun c' j' => by
      simp [fv, gI_sI, gR_sI, hi]
    simp only [gA_sI, gQ_sI, gL_sI]
    rw [show fv G (sI E (128 * c + j) h v) (sh i).1 i = fv G E (sh i).1 i from funext fun j' => e _ j']
  · rw [ent_obj hs hc]
    congr 2
    refine List.ext_getElem? fun i => ?_
    rw [List.getElem?_set]
    by_cases hi : i < clN c
    · by_cases hji : j = i
      · subst hji
        rw [if_pos rfl, fv_get hi, if_pos (by simpa using hi)]
        simp [fv, ht, gI_sI]
      · rw [if_neg hji, fv_get hi, fv_get hi]
        have h9 : ¬ i = j := fun z => hji z.symm
        simp [fv, gI_sI, gR_sI, h9]
    · rw [List.getElem?_eq_none (by simpa using hi), List.getElem?_eq_none (by simpa using hi)]
      by_cases hji : j = i
      · omega
      · rw [if_neg hji]
theorem wl_sR {sh : Nat → Nat × Nat} {G : GG} {E : HP} {n h c l j : Nat} {v : Option Nat} (hs : sh h = (c, l)) (hc : c < 13) (hj : j < clN c) (hN : clN c ≤ 128) (ht : isRf (clTy c j) = true) :
    (wl sh G E n).set h (ad G h, .inr (c, ((List.range (clN c)).map (fv G E c h)).set j (va_rf (v.map (ad G))))) = wl sh G (sR E (128 * c + j) h v) n := by
  refine wl_set (fun i _ hi => ?_) ?_
  · unfold ent
    have e : ∀ c' j', fv G (sR E (128 * c + j) h v) c' i j' = fv G E c' i j' := fun c' j' => by
      simp [fv, gI_sR, gR_sR, hi]
    simp only [gA_sR, gQ_sR, gL_sR]
    rw [show fv G (sR E (128 * c + j) h v) (sh i).1 i = fv G E (sh i).1 i from funext fun j' => e _ j']
  · rw [ent_obj hs hc]
    congr 2
    refine List.ext_getElem? fun i => ?_
    rw [List.getElem?_set]
    by_cases hi : i < clN c
    · by_cases hji : j = i
      · subst hji
        rw [if_pos rfl, fv_get hi, if_pos (by simpa using hi)]
        simp [fv, ht, gR_sR]
      · rw [if_neg hji, fv_get hi, fv_get hi]
        have h9 : ¬ i = j := fun z => hji z.symm
        simp [fv, gI_sR, gR_sR, h9]
    · rw [List.getElem?_eq_none (by simpa using hi), List.getElem?_eq_none (by simpa using hi)]
      by_cases hji : j = i
      · omega
      · rw [if_neg hji]
theorem wl_sA {sh : Nat → Nat × Nat} {G : GG} {E : HP} {n a l i : Nat} {v : Int32} (hs : sh a = (100, l)) :
    (wl sh G E n).set a (ad G a, .inl (G.2.2.2 0, l, .inl (upd (gA E a) i v))) = wl sh G (sA E a i v) n := by
  refine wl_set (fun j _ hj => ?_) ?_
  · unfold ent
    have e : gA (sA E a i v) j = gA E j := funext fun z => by rw [gA_sA, if_neg (fun q => hj q.1)]
    have e2 : ∀ c', fv G (sA E a i v) c' j = fv G E c' j := fun c' => rfl
    rw [e, e2]
    rfl
  · rw [ent_ia hs]
    congr 4
    funext z
    rw [gA_sA]
    unfold upd
    by_cases hz : z = i
    · rw [if_pos hz, if_pos ⟨rfl, hz⟩]
    · rw [if_neg hz, if_neg (fun q => hz q.2)]
theorem wl_sL {sh : Nat → Nat × Nat} {G : GG} {E : HP} {n a l i : Nat} {v : Int64} (hs : sh a = (101, l)) :
    (wl sh G E n).set a (ad G a, .inl (G.2.2.2 1, l, .inr (.inl (vp_updL (gL E a) i v)))) = wl sh G (sL E a i v) n := by
  refine wl_set (fun j _ hj => ?_) ?_
  · unfold ent
    have e : gL (sL E a i v) j = gL E j := funext fun z => by rw [gL_sL, if_neg (fun q => hj q.1)]
    have e2 : ∀ c', fv G (sL E a i v) c' j = fv G E c' j := fun c' => rfl
    rw [e, e2]
    rfl
  · rw [ent_la hs]
    congr 5
    funext z
    rw [gL_sL]
    unfold vp_updL
    by_cases hz : z = i
    · rw [if_pos hz, if_pos ⟨rfl, hz⟩]
    · rw [if_neg hz, if_neg (fun q => hz q.2)]
theorem wl_sQ {sh : Nat → Nat × Nat} {G : GG} {E : HP} {n a c l i : Nat} {v : Nat} (hs : sh a = (c, l)) (hc : 102 ≤ c) :
    (wl sh G E n).set a (ad G a, .inl (G.2.2.2 (c - 100), l, .inr (.inr (.inr (.inr (va_up (fun i => (gQ E a i).map (ad G)) i (some (ad G v)))))))) = wl sh G (sQ E a i (some v)) n := by
  refine wl_set (fun j _ hj => ?_) ?_
  · unfold ent
    have e : gQ (sQ E a i (some v)) j = gQ E j := funext fun z => by rw [gQ_sQ, if_neg (fun q => hj q.1)]
    have e2 : ∀ c', fv G (sQ E a i (some v)) c' j = fv G E c' j := fun c' => rfl
    rw [e, e2]
    rfl
  · rw [ent_qa hs hc]
    congr 7
    funext z
    rw [gQ_sQ]
    unfold va_up
    by_cases hz : z = i
    · rw [if_pos hz, if_pos ⟨rfl, hz⟩]
      rfl
    · rw [if_neg hz, if_neg (fun q => hz q.2)]
theorem ent_zp {sh : Nat → Nat × Nat} {G : GG} {E : HP} {n j : Nat} (h : j ≠ n) : ent sh G (zp E n) j = ent sh G E j := by
  unfold ent
  have e : ∀ c' j', fv G (zp E n) c' j j' = fv G E c' j j' := fun c' j' => by
    unfold fv; rw [gI_zp, gR_zp, if_neg h, if_neg h]
  rw [show fv G (zp E n) (sh j).1 j = fv G E (sh j).1 j from funext fun j' => e _ j']
  rw [show gA (zp E n) j = gA E j from funext fun i => by rw [gA_zp, if_neg h], show gL (zp E n) j = gL E j from funext fun i => by rw [gL_zp, if_neg h], show gQ (zp E n) j = gQ E j from funext fun i => by rw [gQ_zp, if_neg h]]
theorem wl_zp (sh : Nat → Nat × Nat) (G : GG) (E : HP) (n : Nat) : wl sh G E n ++ [(ad G n, ent sh G (zp E n) n)] = wl sh G (zp E n) (n + 1) := by
  rw [← wl_push, wl_eq (E := E) (E' := zp E n) fun j hj => ent_zp (by omega)]
