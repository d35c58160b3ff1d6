/-! The class whole: its references -/
def crL : List (Nat × Nat × Nat) := [(1408, 0, 1), (1413, 0, 41), (1414, 0, 45), (1415, 0, 59), (1417, 0, 73), (1419, 0, 75), (1420, 0, 80), (768, 1, 2), (768, 43, 44), (768, 47, 48), (768, 49, 50), (768, 52, 53), (768, 55, 56), (768, 57, 58), (768, 61, 62), (768, 63, 64), (768, 66, 67), (768, 69, 70), (768, 71, 72), (768, 73, 74), (768, 76, 77), (768, 78, 79), (768, 82, 83), (768, 84, 85), (1152, 45, 46), (1153, 45, 51), (1154, 45, 54), (1155, 45, 57), (1152, 59, 60), (1153, 59, 65), (1154, 59, 68), (1155, 59, 71), (512, 46, 47), (513, 46, 49), (512, 60, 61), (513, 60, 63), (512, 75, 76), (513, 75, 78), (385, 51, 52), (385, 54, 55), (385, 65, 66), (385, 68, 69), (256, 80, 86), (257, 80, 81), (258, 80, 82), (259, 80, 84), (128, 86, 87), (640, 41, 42)]
/-- all that stands where it stood, with b the told bed -/
def CR (E : HP) (b : Nat) : Prop := (b = 3 ∨ b = 22) ∧ (∀ q ∈ crL, gR E q.1 q.2.1 = some q.2.2) ∧ gR E 1411 0 = some b ∧ gR E 1412 0 = some (25 - b) ∧ (∀ i, i < 7 → gQ E 81 i = some (88 + i)) ∧ BedOK E 137 3 ∧ BedOK E 137 22 ∧ (gR E 641 41 = some 3 ∨ gR E 641 41 = some 22) ∧ (gR E 1280 42 = some 43 ∨ gR E 1280 42 = some 1)
theorem cr_1408_0 {E : HP} {b : Nat} (h : CR E b) : gR E 1408 0 = some 1 := h.2.1 (1408, 0, 1) (by decide)
theorem cr_1413_0 {E : HP} {b : Nat} (h : CR E b) : gR E 1413 0 = some 41 := h.2.1 (1413, 0, 41) (by decide)
theorem cr_1414_0 {E : HP} {b : Nat} (h : CR E b) : gR E 1414 0 = some 45 := h.2.1 (1414, 0, 45) (by decide)
theorem cr_1415_0 {E : HP} {b : Nat} (h : CR E b) : gR E 1415 0 = some 59 := h.2.1 (1415, 0, 59) (by decide)
theorem cr_1417_0 {E : HP} {b : Nat} (h : CR E b) : gR E 1417 0 = some 73 := h.2.1 (1417, 0, 73) (by decide)
theorem cr_1419_0 {E : HP} {b : Nat} (h : CR E b) : gR E 1419 0 = some 75 := h.2.1 (1419, 0, 75) (by decide)
theorem cr_1420_0 {E : HP} {b : Nat} (h : CR E b) : gR E 1420 0 = some 80 := h.2.1 (1420, 0, 80) (by decide)
theorem cr_768_1 {E : HP} {b : Nat} (h : CR E b) : gR E 768 1 = some 2 := h.2.1 (768, 1, 2) (by decide)
theorem cr_768_43 {E : HP} {b : Nat} (h : CR E b) : gR E 768 43 = some 44 := h.2.1 (768, 43, 44) (by decide)
theorem cr_768_47 {E : HP} {b : Nat} (h : CR E b) : gR E 768 47 = some 48 := h.2.1 (768, 47, 48) (by decide)
theorem cr_768_49 {E : HP} {b : Nat} (h : CR E b) : gR E 768 49 = some 50 := h.2.1 (768, 49, 50) (by decide)
theorem cr_768_52 {E : HP} {b : Nat} (h : CR E b) : gR E 768 52 = some 53 := h.2.1 (768, 52, 53) (by decide)
theorem cr_768_55 {E : HP} {b : Nat} (h : CR E b) : gR E 768 55 = some 56 := h.2.1 (768, 55, 56) (by decide)
theorem cr_768_57 {E : HP} {b : Nat} (h : CR E b) : gR E 768 57 = some 58 := h.2.1 (768, 57, 58) (by decide)
theorem cr_768_61 {E : HP} {b : Nat} (h : CR E b) : gR E 768 61 = some 62 := h.2.1 (768, 61, 62) (by decide)
theorem cr_768_63 {E : HP} {b : Nat} (h : CR E b) : gR E 768 63 = some 64 := h.2.1 (768, 63, 64) (by decide)
theorem cr_768_66 {E : HP} {b : Nat} (h : CR E b) : gR E 768 66 = some 67 := h.2.1 (768, 66, 67) (by decide)
theorem cr_768_69 {E : HP} {b : Nat} (h : CR E b) : gR E 768 69 = some 70 := h.2.1 (768, 69, 70) (by decide)
theorem cr_768_71 {E : HP} {b : Nat} (h : CR E b) : gR E 768 71 = some 72 := h.2.1 (768, 71, 72) (by decide)
theorem cr_768_73 {E : HP} {b : Nat} (h : CR E b) : gR E 768 73 = some 74 := h.2.1 (768, 73, 74) (by decide)
theorem cr_768_76 {E : HP} {b : Nat} (h : CR E b) : gR E 768 76 = some 77 := h.2.1 (768, 76, 77) (by decide)
theorem cr_768_78 {E : HP} {b : Nat} (h : CR E b) : gR E 768 78 = some 79 := h.2.1 (768, 78, 79) (by decide)
theorem cr_768_82 {E : HP} {b : Nat} (h : CR E b) : gR E 768 82 = some 83 := h.2.1 (768, 82, 83) (by decide)
theorem cr_768_84 {E : HP} {b : Nat} (h : CR E b) : gR E 768 84 = some 85 := h.2.1 (768, 84, 85) (by decide)
theorem cr_1152_45 {E : HP} {b : Nat} (h : CR E b) : gR E 1152 45 = some 46 := h.2.1 (1152, 45, 46) (by decide)
theorem cr_1153_45 {E : HP} {b : Nat} (h : CR E b) : gR E 1153 45 = some 51 := h.2.1 (1153, 45, 51) (by decide)
theorem cr_1154_45 {E : HP} {b : Nat} (h : CR E b) : gR E 1154 45 = some 54 := h.2.1 (1154, 45, 54) (by decide)
theorem cr_1155_45 {E : HP} {b : Nat} (h : CR E b) : gR E 1155 45 = some 57 := h.2.1 (1155, 45, 57) (by decide)
theorem cr_1152_59 {E : HP} {b : Nat} (h : CR E b) : gR E 1152 59 = some 60 := h.2.1 (1152, 59, 60) (by decide)
theorem cr_1153_59 {E : HP} {b : Nat} (h : CR E b) : gR E 1153 59 = some 65 := h.2.1 (1153, 59, 65) (by decide)
theorem cr_1154_59 {E : HP} {b : Nat} (h : CR E b) : gR E 1154 59 = some 68 := h.2.1 (1154, 59, 68) (by decide)
theorem cr_1155_59 {E : HP} {b : Nat} (h : CR E b) : gR E 1155 59 = some 71 := h.2.1 (1155, 59, 71) (by decide)
theorem cr_512_46 {E : HP} {b : Nat} (h : CR E b) : gR E 512 46 = some 47 := h.2.1 (512, 46, 47) (by decide)
theorem cr_513_46 {E : HP} {b : Nat} (h : CR E b) : gR E 513 46 = some 49 := h.2.1 (513, 46, 49) (by decide)
theorem cr_512_60 {E : HP} {b : Nat} (h : CR E b) : gR E 512 60 = some 61 := h.2.1 (512, 60, 61) (by decide)
theorem cr_513_60 {E : HP} {b : Nat} (h : CR E b) : gR E 513 60 = some 63 := h.2.1 (513, 60, 63) (by decide)
theorem cr_512_75 {E : HP} {b : Nat} (h : CR E b) : gR E 512 75 = some 76 := h.2.1 (512, 75, 76) (by decide)
theorem cr_513_75 {E : HP} {b : Nat} (h : CR E b) : gR E 513 75 = some 78 := h.2.1 (513, 75, 78) (by decide)
theorem cr_385_51 {E : HP} {b : Nat} (h : CR E b) : gR E 385 51 = some 52 := h.2.1 (385, 51, 52) (by decide)
theorem cr_385_54 {E : HP} {b : Nat} (h : CR E b) : gR E 385 54 = some 55 := h.2.1 (385, 54, 55) (by decide)
theorem cr_385_65 {E : HP} {b : Nat} (h : CR E b) : gR E 385 65 = some 66 := h.2.1 (385, 65, 66) (by decide)
theorem cr_385_68 {E : HP} {b : Nat} (h : CR E b) : gR E 385 68 = some 69 := h.2.1 (385, 68, 69) (by decide)
theorem cr_256_80 {E : HP} {b : Nat} (h : CR E b) : gR E 256 80 = some 86 := h.2.1 (256, 80, 86) (by decide)
theorem cr_257_80 {E : HP} {b : Nat} (h : CR E b) : gR E 257 80 = some 81 := h.2.1 (257, 80, 81) (by decide)
theorem cr_258_80 {E : HP} {b : Nat} (h : CR E b) : gR E 258 80 = some 82 := h.2.1 (258, 80, 82) (by decide)
theorem cr_259_80 {E : HP} {b : Nat} (h : CR E b) : gR E 259 80 = some 84 := h.2.1 (259, 80, 84) (by decide)
theorem cr_128_86 {E : HP} {b : Nat} (h : CR E b) : gR E 128 86 = some 87 := h.2.1 (128, 86, 87) (by decide)
theorem cr_640_41 {E : HP} {b : Nat} (h : CR E b) : gR E 640 41 = some 42 := h.2.1 (640, 41, 42) (by decide)
theorem cr_row1 {E : HP} {b : Nat} (c : CR E b) : RowOK E 137 1 600 := ⟨rfl, cr_768_1 c, rfl, by decide, by decide, by decide⟩
theorem cr_row43 {E : HP} {b : Nat} (c : CR E b) : RowOK E 137 43 0 := ⟨rfl, cr_768_43 c, rfl, by decide, by decide, by decide⟩
theorem cr_row47 {E : HP} {b : Nat} (c : CR E b) : RowOK E 137 47 7 := ⟨rfl, cr_768_47 c, rfl, by decide, by decide, by decide⟩
theorem cr_row49 {E : HP} {b : Nat} (c : CR E b) : RowOK E 137 49 7 := ⟨rfl, cr_768_49 c, rfl, by decide, by decide, by decide⟩
theorem cr_row52 {E : HP} {b : Nat} (c : CR E b) : RowOK E 137 52 120 := ⟨rfl, cr_768_52 c, rfl, by decide, by decide, by decide⟩
theorem cr_row55 {E : HP} {b : Nat} (c : CR E b) : RowOK E 137 55 24 := ⟨rfl, cr_768_55 c, rfl, by decide, by decide, by decide⟩
theorem cr_row57 {E : HP} {b : Nat} (c : CR E b) : RowOK E 137 57 3 := ⟨rfl, cr_768_57 c, rfl, by decide, by decide, by decide⟩
theorem cr_row61 {E : HP} {b : Nat} (c : CR E b) : RowOK E 137 61 7 := ⟨rfl, cr_768_61 c, rfl, by decide, by decide, by decide⟩
theorem cr_row63 {E : HP} {b : Nat} (c : CR E b) : RowOK E 137 63 7 := ⟨rfl, cr_768_63 c, rfl, by decide, by decide, by decide⟩
theorem cr_row66 {E : HP} {b : Nat} (c : CR E b) : RowOK E 137 66 120 := ⟨rfl, cr_768_66 c, rfl, by decide, by decide, by decide⟩
theorem cr_row69 {E : HP} {b : Nat} (c : CR E b) : RowOK E 137 69 24 := ⟨rfl, cr_768_69 c, rfl, by decide, by decide, by decide⟩
theorem cr_row71 {E : HP} {b : Nat} (c : CR E b) : RowOK E 137 71 3 := ⟨rfl, cr_768_71 c, rfl, by decide, by decide, by decide⟩
theorem cr_row73 {E : HP} {b : Nat} (c : CR E b) : RowOK E 137 73 7 := ⟨rfl, cr_768_73 c, rfl, by decide, by decide, by decide⟩
theorem cr_row76 {E : HP} {b : Nat} (c : CR E b) : RowOK E 137 76 7 := ⟨rfl, cr_768_76 c, rfl, by decide, by decide, by decide⟩
theorem cr_row78 {E : HP} {b : Nat} (c : CR E b) : RowOK E 137 78 7 := ⟨rfl, cr_768_78 c, rfl, by decide, by decide, by decide⟩
theorem cr_row82 {E : HP} {b : Nat} (c : CR E b) : RowOK E 137 82 7 := ⟨rfl, cr_768_82 c, rfl, by decide, by decide, by decide⟩
theorem cr_row84 {E : HP} {b : Nat} (c : CR E b) : RowOK E 137 84 4 := ⟨rfl, cr_768_84 c, rfl, by decide, by decide, by decide⟩
theorem cr_plan46 {E : HP} {b : Nat} (c : CR E b) : PlanOK E 137 46 := ⟨rfl, cr_512_46 c, cr_513_46 c, cr_row47 c, cr_row49 c, by decide⟩
theorem cr_plan60 {E : HP} {b : Nat} (c : CR E b) : PlanOK E 137 60 := ⟨rfl, cr_512_60 c, cr_513_60 c, cr_row61 c, cr_row63 c, by decide⟩
theorem cr_plan75 {E : HP} {b : Nat} (c : CR E b) : PlanOK E 137 75 := ⟨rfl, cr_512_75 c, cr_513_75 c, cr_row76 c, cr_row78 c, by decide⟩
theorem cr_pile51 {E : HP} {b : Nat} (c : CR E b) : PileOK E 137 51 120 := ⟨rfl, cr_385_51 c, cr_row52 c, by decide⟩
theorem cr_pile54 {E : HP} {b : Nat} (c : CR E b) : PileOK E 137 54 24 := ⟨rfl, cr_385_54 c, cr_row55 c, by decide⟩
theorem cr_pile65 {E : HP} {b : Nat} (c : CR E b) : PileOK E 137 65 120 := ⟨rfl, cr_385_65 c, cr_row66 c, by decide⟩
theorem cr_pile68 {E : HP} {b : Nat} (c : CR E b) : PileOK E 137 68 24 := ⟨rfl, cr_385_68 c, cr_row69 c, by decide⟩
theorem cr_state45 {E : HP} {b : Nat} (c : CR E b) : StateOK E 137 45 := ⟨rfl, cr_1152_45 c, cr_1153_45 c, cr_1154_45 c, cr_1155_45 c, cr_plan46 c, cr_pile51 c, cr_pile54 c, cr_row57 c, by decide⟩
theorem cr_state59 {E : HP} {b : Nat} (c : CR E b) : StateOK E 137 59 := ⟨rfl, cr_1152_59 c, cr_1153_59 c, cr_1154_59 c, cr_1155_59 c, cr_plan60 c, cr_pile65 c, cr_pile68 c, cr_row71 c, by decide⟩
theorem cr_bed {E : HP} {b : Nat} (c : CR E b) : BedOK E 137 b := by
  rcases c.1 with z | z
  · rw [z]; exact c.2.2.2.2.2.1
  · rw [z]; exact c.2.2.2.2.2.2.1
theorem cr_told {E : HP} {b : Nat} (c : CR E b) : gR E 1411 0 = some b := c.2.2.1
theorem cr_bs {E : HP} {b : Nat} (c : CR E b) : sh b = (0, 0) := bo_1 (cr_bed c)
theorem cr_bn {E : HP} {b : Nat} (c : CR E b) : b < 137 := bo_n (cr_bed c)
/-- the references that a call may change are those of a night and of the reader -/
def KR (E E2 : HP) : Prop := (∀ g k, ¬ (k = 80 ∧ (g = 261 ∨ g = 262)) → ¬ (88 ≤ k ∧ k ≤ 94) → ¬ (k = 41 ∧ g = 641) → ¬ k = 42 → k ∉ [12, 14, 31, 33, 85] → gR E2 g k = gR E g k) ∧ (∀ a, a ∉ [12, 14, 31, 33] → a ≤ 81 → a ≠ 80 → gQ E2 a = gQ E a) ∧ gR E2 641 41 = gR E 641 41 ∧ gR E2 1280 42 = gR E 1280 42
theorem kr_sr {E E2 : HP} (h : SR E E2) : KR E E2 := ⟨fun _ _ _ _ _ _ _ => by unfold gR; rw [h.1], fun _ _ _ _ => by unfold gQ; rw [h.2], by unfold gR; rw [h.1], by unfold gR; rw [h.1]⟩
theorem kr_rfl {E : HP} : KR E E := kr_sr sr_rfl
theorem kr_tr {E E2 E3 : HP} (h : KR E E2) (h2 : KR E2 E3) : KR E E3 := ⟨fun g k a c d e f => (h2.1 g k a c d e f).trans (h.1 g k a c d e f), fun a x y z => (h2.2.1 a x y z).trans (h.2.1 a x y z), h2.2.2.1.trans h.2.2.1, h2.2.2.2.trans h.2.2.2⟩
theorem cr_kr {E E2 : HP} {b : Nat} (h : KR E E2) (c : CR E b) : CR E2 b := by
  obtain ⟨c1, c2, c3, c4, c5, c6, c7, c8, c9⟩ := c
  obtain ⟨h1, h2, h3, h4⟩ := h
  have hb : ∀ q, (q = 3 ∨ q = 22) → BedOK E 137 q → BedOK E2 137 q := fun q hq o => by
    have hF : Fr (fun k => 41 ≤ k ∨ k ∈ [12, 14, 31, 33]) (E.1, E.2) (E.1, E2.2.1, E.2.2.1, E2.2.2.2.1, E.2.2.2.2) := fun k hk => by
      have hk1 : k < 41 := Nat.lt_of_not_le (fun z => hk (Or.inl z))
      exact ⟨fun _ => rfl, fun g => h1 g k (by omega) (by omega) (by omega) (by omega) (fun z => hk (by simp at z ⊢; omega)), rfl, h2 k (fun z => hk (Or.inr z)) (by omega) (by omega), rfl⟩
    have o2 : BedOK (E.1, E2.2.1, E.2.2.1, E2.2.2.2.1, E.2.2.2.2) 137 q := by
      rcases hq with z | z <;> subst z <;> exact bed_fr hF (by decide) (by decide) (by decide) (by decide) (by decide) (by decide) (by decide) o
    exact o2
  refine ⟨c1, fun q hq => ?_, (h1 _ _ (by omega) (by omega) (by omega) (by omega) (by decide)).trans c3, (h1 _ _ (by omega) (by omega) (by omega) (by omega) (by decide)).trans c4, fun i hi => by rw [h2 81 (by decide) (by decide) (by decide)]; exact c5 i hi, hb 3 (Or.inl rfl) c6, hb 22 (Or.inr rfl) c7, by rw [h3]; exact c8, by rw [h4]; exact c9⟩
  have hd : ∀ q ∈ crL, ¬ (q.2.1 = 80 ∧ (q.1 = 261 ∨ q.1 = 262)) ∧ ¬ (88 ≤ q.2.1 ∧ q.2.1 ≤ 94) ∧ ¬ (q.2.1 = 41 ∧ q.1 = 641) ∧ ¬ q.2.1 = 42 ∧ q.2.1 ∉ [12, 14, 31, 33, 85] := by decide
  obtain ⟨d1, d2, d3, d4, d5⟩ := hd q hq
  exact (h1 _ _ d1 d2 d3 d4 d5).trans (c2 q hq)
theorem cr_sr {E E2 : HP} {b : Nat} (h : SR E E2) (c : CR E b) : CR E2 b := cr_kr (kr_sr h) c
theorem cr_night {E : HP} {b p : Nat} (c : CR E b) (hp : p = 46 ∨ p = 75) : NightOK (E2p E b p) b p := by
  have hF : KR E (E2p E b p) := ⟨fun g k a _ _ _ _ => by
    unfold E2p
    rw [gR_sR, gR_sR, if_neg (fun z => a ⟨z.2, Or.inr z.1⟩), if_neg (fun z => a ⟨z.2, Or.inl z.1⟩)], fun _ _ _ _ => rfl, rfl, rfl⟩
  have c2 := cr_kr hF c
  refine ⟨cr_256_80 c2, cr_257_80 c2, cr_258_80 c2, cr_259_80 c2, ?_, ?_, c2.2.2.2.2.1, cr_row82 c2, cr_row84 c2, cr_bed c2, ?_, c.1, hp, cr_128_86 c2⟩
  · unfold E2p; rw [gR_sR, if_neg (by decide), gR_sR, if_pos ⟨rfl, rfl⟩]
  · unfold E2p; rw [gR_sR, if_pos ⟨rfl, rfl⟩]
  · rcases hp with z | z
    · subst z; exact cr_plan46 c2
    · subst z; exact cr_plan75 c2
/-- a night that the class passes, by a plan of its own -/
theorem c_night {d b p m : Nat} {V : NV} {E : HP} (c : CR E b) (hp : p = 46 ∨ p = 75) (ov : NVis E b p V) (he : ∃ e, e ≤ 240 ∧ vS V 0 = nI e) (hm : m ≤ 600) : ∃ E2, (Fr (Pp b) E E2 ∧ KR E E2 ∧ gI E2 260 80 = gI E 260 80 ∧ PR E2 b p V m) ∧ Cl yX2_pass mX2_pass (d + 5) 0 0 [.ref 80, .ref b, .ref p, .int (nI m)] E 137 (.inl none, E2, 137) := by
  obtain ⟨_, ⟨E2, rfl, h1, h2, h3, h4⟩, hcl⟩ := c_X2_pass (d := d) (cr_night c hp) ov he hm
  refine ⟨E2, ⟨h1, ?_, h3, h4⟩, hcl⟩
  have hb := c.1
  refine ⟨fun g k a c d e f => ?_, fun a x y z => fr_gQ h1 (fun q => ?_), fr_gR h1 (by unfold Pp; omega) _, fr_gR h1 (by unfold Pp; omega) _⟩
  · by_cases hk : Pp b k
    · unfold Pp at hk
      simp at f
      have hk8 : k = 80 := by omega
      subst hk8
      exact h2 g (fun z => a ⟨rfl, Or.inl z⟩) (fun z => a ⟨rfl, Or.inr z⟩)
    · exact fr_gR h1 hk g
  · unfold Pp at q
    simp at x
    omega
