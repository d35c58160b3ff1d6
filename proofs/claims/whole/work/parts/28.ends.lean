/-! Walks to some end of which Post holds. Frames. -/
def Sx (M : MI) (d bc bs : Nat) (Post : OUT → Prop) (pc : Nat) (ls : List (Option Value)) (st : List Value) (E : HP) (n : Nat) : Prop := ∃ out, Post out ∧ Sm M d bc bs out pc ls st E n
theorem Sx.up {M : MI} {d bc bs d2 bc2 bs2 pc pc2 n n2 : Nat} {Post : OUT → Prop} {ls ls2 : List (Option Value)} {st st2 : List Value} {E E2 : HP} (h : ∀ out, Sm M d2 bc2 bs2 out pc2 ls2 st2 E2 n2 → Sm M d bc bs out pc ls st E n) (k : Sx M d2 bc2 bs2 Post pc2 ls2 st2 E2 n2) : Sx M d bc bs Post pc ls st E n := by
  obtain ⟨out, hp, hs⟩ := k
  exact ⟨out, hp, h out hs⟩
theorem Sx.br {M : MI} {d bc bs d2 bc2 bs2 d3 bc3 bs3 pc pc2 pc3 n n2 n3 : Nat} {Post : OUT → Prop} {ls ls2 ls3 : List (Option Value)} {st st2 st3 : List Value} {E E2 E3 : HP} {A B : Prop} (h : ∀ out, (A → Sm M d2 bc2 bs2 out pc2 ls2 st2 E2 n2) → (B → Sm M d3 bc3 bs3 out pc3 ls3 st3 E3 n3) → Sm M d bc bs out pc ls st E n) (hab : (A ∨ B) ∧ ¬ (A ∧ B)) (ka : A → Sx M d2 bc2 bs2 Post pc2 ls2 st2 E2 n2) (kb : B → Sx M d3 bc3 bs3 Post pc3 ls3 st3 E3 n3) : Sx M d bc bs Post pc ls st E n := by
  by_cases ha : A
  · obtain ⟨out, hp, hs⟩ := ka ha
    exact ⟨out, hp, h out (fun _ => hs) (fun z => absurd ⟨ha, z⟩ hab.2)⟩
  · obtain ⟨out, hp, hs⟩ := kb (hab.1.resolve_left ha)
    exact ⟨out, hp, h out (fun z => absurd z ha) (fun _ => hs)⟩
theorem em1 {A : Prop} : (A ∨ ¬ A) ∧ ¬ (A ∧ ¬ A) := ⟨Classical.em A, fun q => q.2 q.1⟩
theorem em2 {A : Prop} : (¬ A ∨ A) ∧ ¬ (¬ A ∧ A) := ⟨(Classical.em A).symm, fun q => q.1 q.2⟩
theorem Sx.less {M : MI} {d bc bs n pc : Nat} {Post : OUT → Prop} {ls ls2 : List (Option Value)} {st : List Value} {E : HP} (h : lsub ls ls2) (kk : Sx M d bc bs Post pc ls st E n) : Sx M d bc bs Post pc ls2 st E n := kk.up fun _ q => q.less h
theorem Sx.wide {M : MI} {d bc bs bc2 bs2 n pc : Nat} {Post : OUT → Prop} {ls : List (Option Value)} {st : List Value} {E : HP} (h1 : bc2 ≤ bc) (h2 : bs2 ≤ bs) (kk : Sx M d bc2 bs2 Post pc ls st E n) : Sx M d bc bs Post pc ls st E n := kk.up fun _ q => q.wide h1 h2
theorem Sx.mono {M : MI} {d bc bs n pc : Nat} {Post Post2 : OUT → Prop} {ls : List (Option Value)} {st : List Value} {E : HP} (h : ∀ o, Post o → Post2 o) (kk : Sx M d bc bs Post pc ls st E n) : Sx M d bc bs Post2 pc ls st E n := by
  obtain ⟨out, hp, hs⟩ := kk
  exact ⟨out, h out hp, hs⟩
/-- a loop: what holds at its head for k, and goes on to k + 1, or leaves -/
theorem sxUp {σ : Type} {S Inv : Nat → σ → Prop} {a l : Nat} (hal : a ≤ l) (he : ∀ x, Inv l x → S l x) (hs : ∀ k x, a ≤ k → k < l → Inv k x → (∀ y, Inv (k + 1) y → S (k + 1) y) → S k x) : ∀ x, Inv a x → S a x := by
  have : ∀ m k, a ≤ k → k + m = l → ∀ x, Inv k x → S k x := by
    intro m
    induction m with
    | zero => intro k _ hk x hx; have hkl : k = l := by omega
              subst hkl; exact he x hx
    | succ m ih => intro k h1 hk x hx; exact hs k x h1 (by omega) hx (ih (k + 1) (by omega) (by omega))
  exact this (l - a) a (Nat.le_refl a) (by omega)
theorem sxDn {σ : Type} {S Inv : Nat → σ → Prop} (he : ∀ x, Inv 0 x → S 0 x) (hs : ∀ k x, Inv (k + 1) x → (∀ y, Inv k y → S k y) → S (k + 1) x) : ∀ l x, Inv l x → S l x := by
  intro l
  induction l with
  | zero => exact he
  | succ l ih => exact fun x hx => hs l x hx ih
/-! what lies outside P is as it was -/
def Fr (P : Nat → Prop) (E E2 : HP) : Prop := ∀ k, ¬ P k → (∀ g, gI E2 g k = gI E g k) ∧ (∀ g, gR E2 g k = gR E g k) ∧ gA E2 k = gA E k ∧ gQ E2 k = gQ E k ∧ gL E2 k = gL E k
theorem fr_rfl {P : Nat → Prop} {E : HP} : Fr P E E := fun _ _ => ⟨fun _ => rfl, fun _ => rfl, rfl, rfl, rfl⟩
theorem fr_tr {P : Nat → Prop} {E E2 E3 : HP} (h : Fr P E E2) (h2 : Fr P E2 E3) : Fr P E E3 := fun k hk => ⟨fun g => ((h2 k hk).1 g).trans ((h k hk).1 g), fun g => ((h2 k hk).2.1 g).trans ((h k hk).2.1 g), (h2 k hk).2.2.1.trans (h k hk).2.2.1, (h2 k hk).2.2.2.1.trans (h k hk).2.2.2.1, (h2 k hk).2.2.2.2.trans (h k hk).2.2.2.2⟩
theorem fr_mono {P Q : Nat → Prop} {E E2 : HP} (h : Fr P E E2) (hpq : ∀ k, P k → Q k) : Fr Q E E2 := fun k hk => h k (fun z => hk (hpq k z))
theorem fr_gI {P : Nat → Prop} {E E2 : HP} (h : Fr P E E2) {k : Nat} (hk : ¬ P k) (g : Nat) : gI E2 g k = gI E g k := (h k hk).1 g
theorem fr_gR {P : Nat → Prop} {E E2 : HP} (h : Fr P E E2) {k : Nat} (hk : ¬ P k) (g : Nat) : gR E2 g k = gR E g k := (h k hk).2.1 g
theorem fr_gA {P : Nat → Prop} {E E2 : HP} (h : Fr P E E2) {k : Nat} (hk : ¬ P k) : gA E2 k = gA E k := (h k hk).2.2.1
theorem fr_gQ {P : Nat → Prop} {E E2 : HP} (h : Fr P E E2) {k : Nat} (hk : ¬ P k) : gQ E2 k = gQ E k := (h k hk).2.2.2.1
theorem fr_gL {P : Nat → Prop} {E E2 : HP} (h : Fr P E E2) {k : Nat} (hk : ¬ P k) : gL E2 k = gL E k := (h k hk).2.2.2.2
theorem fr_sI {P : Nat → Prop} {E E2 : HP} {g k : Nat} {v : Int32} (hk : P k) (h : Fr P E E2) : Fr P E (sI E2 g k v) := by
  refine fr_tr h fun j hj => ⟨fun g2 => ?_, fun _ => rfl, rfl, rfl, rfl⟩
  rw [gI_sI, if_neg fun q => hj (by rw [q.2]; exact hk)]
theorem fr_sR {P : Nat → Prop} {E E2 : HP} {g k : Nat} {v : Option Nat} (hk : P k) (h : Fr P E E2) : Fr P E (sR E2 g k v) := by
  refine fr_tr h fun j hj => ⟨fun _ => rfl, fun g2 => ?_, rfl, rfl, rfl⟩
  rw [gR_sR, if_neg fun q => hj (by rw [q.2]; exact hk)]
theorem fr_sA {P : Nat → Prop} {E E2 : HP} {a i : Nat} {v : Int32} (hk : P a) (h : Fr P E E2) : Fr P E (sA E2 a i v) := by
  refine fr_tr h fun j hj => ⟨fun _ => rfl, fun _ => rfl, ?_, rfl, rfl⟩
  funext z
  rw [gA_sA, if_neg fun q => hj (by rw [q.1]; exact hk)]
theorem fr_sL {P : Nat → Prop} {E E2 : HP} {a i : Nat} {v : Int64} (hk : P a) (h : Fr P E E2) : Fr P E (sL E2 a i v) := by
  refine fr_tr h fun j hj => ⟨fun _ => rfl, fun _ => rfl, rfl, rfl, ?_⟩
  funext z
  rw [gL_sL, if_neg fun q => hj (by rw [q.1]; exact hk)]
theorem fr_put {P : Nat → Prop} {E E2 : HP} {h l : Nat} {i v : Int32} (hk : P (h + 1)) (q : Fr P E E2) : Fr P E (rPut E2 h l i v) := by
  unfold rPut
  split
  · exact q
  · split
    · exact q
    · exact fr_sA hk q
theorem fr_exch {P : Nat → Prop} {E E2 : HP} {h l : Nat} {i j : Int32} (hk : P (h + 1)) (q : Fr P E E2) : Fr P E (rExch h l i j E2) := fr_put hk (fr_put hk q)
theorem fr_it {P : Nat → Prop} {E E2 : HP} {f : Nat → HP → HP} (hf : ∀ i E3, Fr P E3 (f i E3)) (h : Fr P E E2) (k : Nat) : Fr P E (itF f k E2) := itF_keep (P := fun E3 => Fr P E E3) (fun i E3 q => fr_tr q (hf i E3)) k h
theorem fr_copy {P : Nat → Prop} {E E2 : HP} {g g2 l2 k : Nat} (hk : P (g + 1)) (h : Fr P E E2) : Fr P E (rCopy g g2 l2 k E2) := fr_it (fun _ _ => fr_sA hk fr_rfl) h k
theorem fr_up {P : Nat → Prop} {E E2 : HP} {g k : Nat} (hk : P (g + 1)) (h : Fr P E E2) : Fr P E (rUp g k E2) := fr_it (fun _ _ => fr_sA hk fr_rfl) h k
theorem fr_fill {P : Nat → Prop} {E E2 : HP} {g k : Nat} {v : Int32} (hk : P (g + 1)) (h : Fr P E E2) : Fr P E (rFill g v k E2) := fr_it (fun _ _ => fr_sA hk fr_rfl) h k
theorem exch_nI {E : HP} {h l i j : Nat} (hi : i < l) (hj : j < l) (hl : l < 100000) : rExch h l (nI i) (nI j) E = sA (sA E (h + 1) i (gA E (h + 1) j)) (h + 1) j (gA E (h + 1) i) := by
  unfold rExch
  rw [rPut_nI hi hl, rPut_nI hj hl, rAt_nI hi hl, rAt_nI hj hl]
theorem exch_at {E : HP} {h l i j m : Nat} (hi : i < l) (hj : j < l) (hl : l < 100000) : gA (rExch h l (nI i) (nI j) E) (h + 1) m = if m = j then gA E (h + 1) i else if m = i then gA E (h + 1) j else gA E (h + 1) m := by
  rw [exch_nI hi hj hl, gA_sA, gA_sA]
  simp only [true_and]
theorem up_at {E : HP} {h k m : Nat} : gA (rUp h k E) (h + 1) m = if m < k then nI m else gA E (h + 1) m := by
  induction k with
  | zero => simp [rUp, itF]
  | succ k ih =>
    show gA (sA (rUp h k E) (h + 1) k (nI k)) (h + 1) m = _
    rw [gA_sA, ih]
    by_cases hm : m = k
    · subst hm; simp
    · have e : (m < k + 1) = (m < k) := propext (by omega)
      simp [hm, e]
theorem fill_at {E : HP} {h k m : Nat} {v : Int32} : gA (rFill h v k E) (h + 1) m = if m < k then v else gA E (h + 1) m := by
  induction k with
  | zero => simp [rFill, itF]
  | succ k ih =>
    show gA (sA (rFill h v k E) (h + 1) k v) (h + 1) m = _
    rw [gA_sA, ih]
    by_cases hm : m = k
    · subst hm; simp
    · have e : (m < k + 1) = (m < k) := propext (by omega)
      simp [hm, e]
theorem copy_at {E : HP} {h h2 l2 k m : Nat} (hne : h ≠ h2) (hk : k ≤ l2) (hl : l2 < 100000) : gA (rCopy h h2 l2 k E) (h + 1) m = if m < k then gA E (h2 + 1) m else gA E (h + 1) m := by
  induction k with
  | zero => simp [rCopy, itF]
  | succ k ih =>
    show gA (sA (rCopy h h2 l2 k E) (h + 1) k (rAt (rCopy h h2 l2 k E) h2 l2 (nI k))) (h + 1) m = _
    rw [gA_sA, ih (by omega), rAt_nI (by omega) hl]
    have e0 : gA (rCopy h h2 l2 k E) (h2 + 1) k = gA E (h2 + 1) k := by rw [fr_gA (P := fun j => j = h + 1) (fr_copy (E := E) rfl fr_rfl) (by omega)]
    rw [e0]
    by_cases hm : m = k
    · subst hm; simp
    · have e : (m < k + 1) = (m < k) := propext (by omega)
      simp [hm, e]
theorem Cx.of {y : MethodName} {M : MI} {d bc bs n : Nat} {args : List Value} {E : HP} {Post : OUT → Prop} (hy : plainName y.cls = true) (hc : cn M.1 = y.cls) (hi : M.2.2.2.2.2.1 = true → y.name = "<init>") (hlaw : M.2.2.2.2.2.2.1 = false) (hh : M.2.2.2.2.1 = []) (hn : (en0 args).length ≤ M.2.2.1) (h : Sx M d bc bs Post 0 (en0 args ++ List.replicate (M.2.2.1 - (en0 args).length) none) [] E n) : ∃ o, Post o ∧ Cl y M d bc bs args E n o := by
  obtain ⟨out, hp, hs⟩ := h
  exact ⟨out, hp, Cl.of hy hc hi hlaw hh hn hs⟩
