/-! The image; the tape -/
theorem gI_cp {g g2 l2 k x y : Nat} {E : HP} : gI (rCopy g g2 l2 k E) x y = gI E x y := gI_itF (f := fun k E => sA E (g + 1) k (rAt E g2 l2 (nI k))) (fun _ _ => rfl) k E
set_option maxHeartbeats 16000000 in
theorem st_copy59 {E : HP} : Fr (fun k => k = 60 ∨ k = 62 ∨ k = 64 ∨ k = 65 ∨ k = 67 ∨ k = 68 ∨ k = 70 ∨ k = 72) E (stCopy 59 45 E) ∧ (∀ g, 514 ≤ g → g ≤ 519 → gI (stCopy 59 45 E) g 60 = gI E g 46) ∧ (∀ j, j < 18 → pcF (stCopy 59 45 E) 60 j = pcF E 46 j) ∧ gI (stCopy 59 45 E) 386 65 = gI E 386 51 ∧ gI (stCopy 59 45 E) 386 68 = gI E 386 54 ∧ gI (stCopy 59 45 E) 384 65 = gI E 384 65 ∧ gI (stCopy 59 45 E) 384 68 = gI E 384 68 ∧ (∀ i, i < 120 → gA (stCopy 59 45 E) 67 i = gA E 53 i) ∧ (∀ i, i < 24 → gA (stCopy 59 45 E) 70 i = gA E 56 i) ∧ (∀ i, i < 3 → gA (stCopy 59 45 E) 72 i = gA E 58 i) := by
  obtain ⟨e1, h1⟩ : ∃ e1, rCopy 61 47 7 7 E = e1 := ⟨_, rfl⟩
  obtain ⟨e2, h2⟩ : ∃ e2, rCopy 63 49 7 7 e1 = e2 := ⟨_, rfl⟩
  obtain ⟨e3, h3⟩ : ∃ e3, sI (sI (sI (sI (sI (sI e2 514 60 (gI E 514 46)) 515 60 (gI E 515 46)) 516 60 (gI E 516 46)) 517 60 (gI E 517 46)) 518 60 (gI E 518 46)) 519 60 (gI E 519 46) = e3 := ⟨_, rfl⟩
  obtain ⟨e4, h4⟩ : ∃ e4, rCopy 66 52 120 120 e3 = e4 := ⟨_, rfl⟩
  obtain ⟨e5, h5⟩ : ∃ e5, sI e4 386 65 (gI e4 386 51) = e5 := ⟨_, rfl⟩
  obtain ⟨e6, h6⟩ : ∃ e6, rCopy 69 55 24 24 e5 = e6 := ⟨_, rfl⟩
  obtain ⟨e7, h7⟩ : ∃ e7, sI e6 386 68 (gI e6 386 54) = e7 := ⟨_, rfl⟩
  obtain ⟨e8, h8⟩ : ∃ e8, rCopy 71 57 3 3 e7 = e8 := ⟨_, rfl⟩
  have hh : stCopy 59 45 E = e8 := by
    rw [← h8, ← h7, ← h6, ← h5, ← h4, ← h3, ← h2, ← h1]
    rfl
  rw [hh]
  have f1 : Fr (fun k => k = 62) E e1 := by rw [← h1]; exact fr_copy (P := fun k => k = 62) rfl fr_rfl
  have f2 : Fr (fun k => k = 64) e1 e2 := by rw [← h2]; exact fr_copy (P := fun k => k = 64) rfl fr_rfl
  have f3 : Fr (fun k => k = 60) e2 e3 := by rw [← h3]; exact fr_sI rfl (fr_sI rfl (fr_sI rfl (fr_sI rfl (fr_sI rfl (fr_sI rfl fr_rfl)))))
  have f4 : Fr (fun k => k = 67) e3 e4 := by rw [← h4]; exact fr_copy (P := fun k => k = 67) rfl fr_rfl
  have f5 : Fr (fun k => k = 65) e4 e5 := by rw [← h5]; exact fr_sI rfl fr_rfl
  have f6 : Fr (fun k => k = 70) e5 e6 := by rw [← h6]; exact fr_copy (P := fun k => k = 70) rfl fr_rfl
  have f7 : Fr (fun k => k = 68) e6 e7 := by rw [← h7]; exact fr_sI rfl fr_rfl
  have f8 : Fr (fun k => k = 72) e7 e8 := by rw [← h8]; exact fr_copy (P := fun k => k = 72) rfl fr_rfl
  have i1 : ∀ g k, gI e1 g k = gI E g k := fun g k => by rw [← h1, gI_cp]
  have i2 : ∀ g k, gI e2 g k = gI E g k := fun g k => by rw [← h2, gI_cp, i1]
  have i4 : ∀ g k, gI e4 g k = gI e3 g k := fun g k => by rw [← h4, gI_cp]
  have i6 : ∀ g k, gI e6 g k = gI e5 g k := fun g k => by rw [← h6, gI_cp]
  have i8 : ∀ g k, gI e8 g k = gI e7 g k := fun g k => by rw [← h8, gI_cp]
  have a3 : ∀ k, gA e3 k = gA e2 k := fun k => by rw [← h3]; rfl
  have a5 : ∀ k, gA e5 k = gA e4 k := fun k => by rw [← h5]; rfl
  have a7 : ∀ k, gA e7 k = gA e6 k := fun k => by rw [← h7]; rfl
  have c1 : ∀ i, i < 7 → gA e1 62 i = gA E 48 i := fun i hi => by
    have e := copy_at (E := E) (h := 61) (h2 := 47) (l2 := 7) (k := 7) (m := i) (by decide) (by decide) (by decide)
    rw [if_pos hi, h1] at e
    exact e
  have c2 : ∀ i, i < 7 → gA e2 64 i = gA E 50 i := fun i hi => by
    have e := copy_at (E := e1) (h := 63) (h2 := 49) (l2 := 7) (k := 7) (m := i) (by decide) (by decide) (by decide)
    rw [if_pos hi, h2] at e
    exact e.trans (congrFun (fr_gA f1 (by decide)) i)
  have c4 : ∀ i, i < 120 → gA e4 67 i = gA E 53 i := fun i hi => by
    have e := copy_at (E := e3) (h := 66) (h2 := 52) (l2 := 120) (k := 120) (m := i) (by decide) (by decide) (by decide)
    rw [if_pos hi, h4] at e
    refine e.trans ?_
    show gA e3 53 i = _
    rw [a3, fr_gA f2 (by decide), fr_gA f1 (by decide)]
  have c6 : ∀ i, i < 24 → gA e6 70 i = gA E 56 i := fun i hi => by
    have e := copy_at (E := e5) (h := 69) (h2 := 55) (l2 := 24) (k := 24) (m := i) (by decide) (by decide) (by decide)
    rw [if_pos hi, h6] at e
    refine e.trans ?_
    show gA e5 56 i = _
    rw [a5, fr_gA f4 (by decide), a3, fr_gA f2 (by decide), fr_gA f1 (by decide)]
  have c8 : ∀ i, i < 3 → gA e8 72 i = gA E 58 i := fun i hi => by
    have e := copy_at (E := e7) (h := 71) (h2 := 57) (l2 := 3) (k := 3) (m := i) (by decide) (by decide) (by decide)
    rw [if_pos hi, h8] at e
    refine e.trans ?_
    show gA e7 58 i = _
    rw [a7, fr_gA f6 (by decide), a5, fr_gA f4 (by decide), a3, fr_gA f2 (by decide), fr_gA f1 (by decide)]
  have g3 : ∀ g, 514 ≤ g → g ≤ 519 → gI e8 g 60 = gI E g 46 := fun g z1 z2 => by
    rw [i8, fr_gI f7 (by decide), i6, fr_gI f5 (by decide), i4, ← h3]
    have hg : g = 514 ∨ g = 515 ∨ g = 516 ∨ g = 517 ∨ g = 518 ∨ g = 519 := by omega
    rcases hg with z | z | z | z | z | z <;> subst z <;> simp [gI_sI]
  refine ⟨?_, g3, ?_, ?_, ?_, ?_, ?_, fun i hi => ?_, fun i hi => ?_, c8⟩
  · exact fr_tr (fr_mono f1 (fun k z => by omega)) (fr_tr (fr_mono f2 (fun k z => by omega)) (fr_tr (fr_mono f3 (fun k z => by omega)) (fr_tr (fr_mono f4 (fun k z => by omega)) (fr_tr (fr_mono f5 (fun k z => by omega)) (fr_tr (fr_mono f6 (fun k z => by omega)) (fr_tr (fr_mono f7 (fun k z => by omega)) (fr_mono f8 (fun k z => by omega))))))))
  · refine fun j hj => pc_mk (L := 7) (p := 60) (v := pcF E 46) (fun i hi _ => ?_) (fun i hi => ?_) (g3 515 (by decide) (by decide)) (g3 516 (by decide) (by decide)) (g3 517 (by decide) (by decide)) (g3 518 (by decide) (by decide)) j ⟨hj, by omega, by omega⟩
    · show gA e8 62 i = _
      rw [fr_gA f8 (by decide), a7, fr_gA f6 (by decide), a5, fr_gA f4 (by decide), a3, fr_gA f2 (by decide), c1 i hi]
      unfold pcF
      rw [if_pos hi] <;> rfl
    · show gA e8 64 i = _
      rw [fr_gA f8 (by decide), a7, fr_gA f6 (by decide), a5, fr_gA f4 (by decide), a3, c2 i hi]
      unfold pcF
      rw [if_neg (by omega), if_pos (by omega), show 7 + i - 7 = i by omega] <;> rfl
  · rw [i8, fr_gI f7 (by decide), i6, ← h5, gI_sI, if_pos ⟨rfl, rfl⟩, i4, fr_gI f3 (by decide), i2]
  · rw [i8, ← h7, gI_sI, if_pos ⟨rfl, rfl⟩, i6, fr_gI f5 (by decide), i4, fr_gI f3 (by decide), i2]
  · rw [i8, fr_gI f7 (by decide), i6, ← h5, gI_sI, if_neg (by decide), i4, fr_gI f3 (by decide), i2]
  · rw [i8, ← h7, gI_sI, if_neg (by decide), i6, fr_gI f5 (by decide), i4, fr_gI f3 (by decide), i2]
  · rw [fr_gA f8 (by decide), a7, fr_gA f6 (by decide), a5]; exact c4 i hi
  · rw [fr_gA f8 (by decide), a7]; exact c6 i hi
set_option maxHeartbeats 16000000 in
theorem st_copy45 {E : HP} : Fr (fun k => k = 46 ∨ k = 48 ∨ k = 50 ∨ k = 51 ∨ k = 53 ∨ k = 54 ∨ k = 56 ∨ k = 58) E (stCopy 45 59 E) ∧ (∀ g, 514 ≤ g → g ≤ 519 → gI (stCopy 45 59 E) g 46 = gI E g 60) ∧ (∀ j, j < 18 → pcF (stCopy 45 59 E) 46 j = pcF E 60 j) ∧ gI (stCopy 45 59 E) 386 51 = gI E 386 65 ∧ gI (stCopy 45 59 E) 386 54 = gI E 386 68 ∧ gI (stCopy 45 59 E) 384 51 = gI E 384 51 ∧ gI (stCopy 45 59 E) 384 54 = gI E 384 54 ∧ (∀ i, i < 120 → gA (stCopy 45 59 E) 53 i = gA E 67 i) ∧ (∀ i, i < 24 → gA (stCopy 45 59 E) 56 i = gA E 70 i) ∧ (∀ i, i < 3 → gA (stCopy 45 59 E) 58 i = gA E 72 i) := by
  obtain ⟨e1, h1⟩ : ∃ e1, rCopy 47 61 7 7 E = e1 := ⟨_, rfl⟩
  obtain ⟨e2, h2⟩ : ∃ e2, rCopy 49 63 7 7 e1 = e2 := ⟨_, rfl⟩
  obtain ⟨e3, h3⟩ : ∃ e3, sI (sI (sI (sI (sI (sI e2 514 46 (gI E 514 60)) 515 46 (gI E 515 60)) 516 46 (gI E 516 60)) 517 46 (gI E 517 60)) 518 46 (gI E 518 60)) 519 46 (gI E 519 60) = e3 := ⟨_, rfl⟩
  obtain ⟨e4, h4⟩ : ∃ e4, rCopy 52 66 120 120 e3 = e4 := ⟨_, rfl⟩
  obtain ⟨e5, h5⟩ : ∃ e5, sI e4 386 51 (gI e4 386 65) = e5 := ⟨_, rfl⟩
  obtain ⟨e6, h6⟩ : ∃ e6, rCopy 55 69 24 24 e5 = e6 := ⟨_, rfl⟩
  obtain ⟨e7, h7⟩ : ∃ e7, sI e6 386 54 (gI e6 386 68) = e7 := ⟨_, rfl⟩
  obtain ⟨e8, h8⟩ : ∃ e8, rCopy 57 71 3 3 e7 = e8 := ⟨_, rfl⟩
  have hh : stCopy 45 59 E = e8 := by
    rw [← h8, ← h7, ← h6, ← h5, ← h4, ← h3, ← h2, ← h1]
    rfl
  rw [hh]
  have f1 : Fr (fun k => k = 48) E e1 := by rw [← h1]; exact fr_copy (P := fun k => k = 48) rfl fr_rfl
  have f2 : Fr (fun k => k = 50) e1 e2 := by rw [← h2]; exact fr_copy (P := fun k => k = 50) rfl fr_rfl
  have f3 : Fr (fun k => k = 46) e2 e3 := by rw [← h3]; exact fr_sI rfl (fr_sI rfl (fr_sI rfl (fr_sI rfl (fr_sI rfl (fr_sI rfl fr_rfl)))))
  have f4 : Fr (fun k => k = 53) e3 e4 := by rw [← h4]; exact fr_copy (P := fun k => k = 53) rfl fr_rfl
  have f5 : Fr (fun k => k = 51) e4 e5 := by rw [← h5]; exact fr_sI rfl fr_rfl
  have f6 : Fr (fun k => k = 56) e5 e6 := by rw [← h6]; exact fr_copy (P := fun k => k = 56) rfl fr_rfl
  have f7 : Fr (fun k => k = 54) e6 e7 := by rw [← h7]; exact fr_sI rfl fr_rfl
  have f8 : Fr (fun k => k = 58) e7 e8 := by rw [← h8]; exact fr_copy (P := fun k => k = 58) rfl fr_rfl
  have i1 : ∀ g k, gI e1 g k = gI E g k := fun g k => by rw [← h1, gI_cp]
  have i2 : ∀ g k, gI e2 g k = gI E g k := fun g k => by rw [← h2, gI_cp, i1]
  have i4 : ∀ g k, gI e4 g k = gI e3 g k := fun g k => by rw [← h4, gI_cp]
  have i6 : ∀ g k, gI e6 g k = gI e5 g k := fun g k => by rw [← h6, gI_cp]
  have i8 : ∀ g k, gI e8 g k = gI e7 g k := fun g k => by rw [← h8, gI_cp]
  have a3 : ∀ k, gA e3 k = gA e2 k := fun k => by rw [← h3]; rfl
  have a5 : ∀ k, gA e5 k = gA e4 k := fun k => by rw [← h5]; rfl
  have a7 : ∀ k, gA e7 k = gA e6 k := fun k => by rw [← h7]; rfl
  have c1 : ∀ i, i < 7 → gA e1 48 i = gA E 62 i := fun i hi => by
    have e := copy_at (E := E) (h := 47) (h2 := 61) (l2 := 7) (k := 7) (m := i) (by decide) (by decide) (by decide)
    rw [if_pos hi, h1] at e
    exact e
  have c2 : ∀ i, i < 7 → gA e2 50 i = gA E 64 i := fun i hi => by
    have e := copy_at (E := e1) (h := 49) (h2 := 63) (l2 := 7) (k := 7) (m := i) (by decide) (by decide) (by decide)
    rw [if_pos hi, h2] at e
    exact e.trans (congrFun (fr_gA f1 (by decide)) i)
  have c4 : ∀ i, i < 120 → gA e4 53 i = gA E 67 i := fun i hi => by
    have e := copy_at (E := e3) (h := 52) (h2 := 66) (l2 := 120) (k := 120) (m := i) (by decide) (by decide) (by decide)
    rw [if_pos hi, h4] at e
    refine e.trans ?_
    show gA e3 67 i = _
    rw [a3, fr_gA f2 (by decide), fr_gA f1 (by decide)]
  have c6 : ∀ i, i < 24 → gA e6 56 i = gA E 70 i := fun i hi => by
    have e := copy_at (E := e5) (h := 55) (h2 := 69) (l2 := 24) (k := 24) (m := i) (by decide) (by decide) (by decide)
    rw [if_pos hi, h6] at e
    refine e.trans ?_
    show gA e5 70 i = _
    rw [a5, fr_gA f4 (by decide), a3, fr_gA f2 (by decide), fr_gA f1 (by decide)]
  have c8 : ∀ i, i < 3 → gA e8 58 i = gA E 72 i := fun i hi => by
    have e := copy_at (E := e7) (h := 57) (h2 := 71) (l2 := 3) (k := 3) (m := i) (by decide) (by decide) (by decide)
    rw [if_pos hi, h8] at e
    refine e.trans ?_
    show gA e7 72 i = _
    rw [a7, fr_gA f6 (by decide), a5, fr_gA f4 (by decide), a3, fr_gA f2 (by decide), fr_gA f1 (by decide)]
  have g3 : ∀ g, 514 ≤ g → g ≤ 519 → gI e8 g 46 = gI E g 60 := fun g z1 z2 => by
    rw [i8, fr_gI f7 (by decide), i6, fr_gI f5 (by decide), i4, ← h3]
    have hg : g = 514 ∨ g = 515 ∨ g = 516 ∨ g = 517 ∨ g = 518 ∨ g = 519 := by omega
    rcases hg with z | z | z | z | z | z <;> subst z <;> simp [gI_sI]
  refine ⟨?_, g3, ?_, ?_, ?_, ?_, ?_, fun i hi => ?_, fun i hi => ?_, c8⟩
  · exact fr_tr (fr_mono f1 (fun k z => by omega)) (fr_tr (fr_mono f2 (fun k z => by omega)) (fr_tr (fr_mono f3 (fun k z => by omega)) (fr_tr (fr_mono f4 (fun k z => by omega)) (fr_tr (fr_mono f5 (fun k z => by omega)) (fr_tr (fr_mono f6 (fun k z => by omega)) (fr_tr (fr_mono f7 (fun k z => by omega)) (fr_mono f8 (fun k z => by omega))))))))
  · refine fun j hj => pc_mk (L := 7) (p := 46) (v := pcF E 60) (fun i hi _ => ?_) (fun i hi => ?_) (g3 515 (by decide) (by decide)) (g3 516 (by decide) (by decide)) (g3 517 (by decide) (by decide)) (g3 518 (by decide) (by decide)) j ⟨hj, by omega, by omega⟩
    · show gA e8 48 i = _
      rw [fr_gA f8 (by decide), a7, fr_gA f6 (by decide), a5, fr_gA f4 (by decide), a3, fr_gA f2 (by decide), c1 i hi]
      unfold pcF
      rw [if_pos hi] <;> rfl
    · show gA e8 50 i = _
      rw [fr_gA f8 (by decide), a7, fr_gA f6 (by decide), a5, fr_gA f4 (by decide), a3, c2 i hi]
      unfold pcF
      rw [if_neg (by omega), if_pos (by omega), show 7 + i - 7 = i by omega] <;> rfl
  · rw [i8, fr_gI f7 (by decide), i6, ← h5, gI_sI, if_pos ⟨rfl, rfl⟩, i4, fr_gI f3 (by decide), i2]
  · rw [i8, ← h7, gI_sI, if_pos ⟨rfl, rfl⟩, i6, fr_gI f5 (by decide), i4, fr_gI f3 (by decide), i2]
  · rw [i8, fr_gI f7 (by decide), i6, ← h5, gI_sI, if_neg (by decide), i4, fr_gI f3 (by decide), i2]
  · rw [i8, ← h7, gI_sI, if_neg (by decide), i6, fr_gI f5 (by decide), i4, fr_gI f3 (by decide), i2]
  · rw [fr_gA f8 (by decide), a7, fr_gA f6 (by decide), a5]; exact c4 i hi
  · rw [fr_gA f8 (by decide), a7]; exact c6 i hi
/-- what an image leaves -/
abbrev gsI : List Nat := [1538, 1600, 1601, 1602]
abbrev asI : List Nat := [130, 131, 132, 133, 134, 135]
theorem td_lI : ∀ q ∈ tdL, q.1 ∉ asI ∧ (q.1 < 60 ∨ 72 < q.1) := by decide
theorem td_lF : ∀ q ∈ tdL, q.1 ≠ 108 ∧ q.1 ≠ 2 ∧ q.1 ≠ 0 := by decide
set_option maxHeartbeats 16000000 in
theorem o_image {E : HP} {b L m k S t : Nat} {R : List Int32} (h : RelN E b L m R k S t) (hk : KpR E L) : OpN yX11_image mX11_image yX12_image mX12_image [] E := by
  have ci := (ci_of h).1
  obtain ⟨l7, m1, m6⟩ := l7_of h
  obtain ⟨hC, hM, hQ⟩ := rel_td h
  obtain ⟨n1, n2, n3, ⟨n4, n5, n6⟩, ⟨n7, n8, n9⟩, ⟨s1, s2, s3, s4⟩⟩ := id h.2.1
  have hL : gA E 98 0 = nI L := h.1.2.1.2
  have k40 : k ≤ 40 := s2.1
  have ac : piSz E 137 51 120 k 40 := ⟨cr_pile51 hC, n4, n5, rfl, k40, by decide, by decide⟩
  obtain ⟨co, cu, c14, c15, c16, c17⟩ := pc_at l7 n3
  obtain ⟨mo, mu⟩ := pk_at (E := E)
  have hcl := c_X11_image (d := 52) ci
  obtain ⟨w1, w2, w3, w4, w5, -, -, w6, w7, w8⟩ := st_copy59 (E := E)
  obtain ⟨EX, hEX⟩ : ∃ EX, stCopy 59 45 E = EX := ⟨_, rfl⟩
  have sX : SR E EX := by rw [← hEX]; exact sr_stCopy sr_rfl
  rw [hEX] at w1 w2 w3 w4 w5 w6 w7 w8 hcl
  obtain ⟨EC, hEC⟩ : ∃ EC, sI EX 1416 0 1 = EC := ⟨_, rfl⟩
  rw [hEC] at hcl
  have iC : ∀ g q, ¬ (g = 1416 ∧ q = 0) → gI EC g q = gI EX g q := fun g q z => by rw [← hEC, gI_sI, if_neg z]
  have aC : ∀ q, gA EC q = gA EX q := fun q => by rw [← hEC]; rfl
  have sC : SR E EC := by rw [← hEC]; exact sr_sI sX
  have hMC : MoOK EC := fun q hq => sr_gR sC (hM q hq)
  obtain ⟨EM, mf, m0, mi, ma, ms, mr, mp, mw, mt, hm⟩ := m_image (d := 52) hMC
  have ia : ∀ g q, q ≠ 95 → gI EM g q = gI EC g q := fun g q z => mf_gI2 mf z
  have im : ∀ g, g ∉ gsI → gI EM g 95 = gI EC g 95 := fun g z => mf_gI mf z
  have aa : ∀ q, q ∉ asI → gA EM q = gA EC q := fun q z => mf_gA mf z
  -- what stands
  have ki : ∀ g q, ¬ (g = 1416 ∧ q = 0) → (q < 60 ∨ 72 < q) → gI EC g q = gI E g q := fun g q z1 z2 => (iC g q z1).trans (fr_gI w1 (by omega) g)
  have ka : ∀ q, (q < 60 ∨ 72 < q) → gA EC q = gA E q := fun q z => (aC q).trans (fr_gA w1 (by omega))
  have hsl : slC EM b = slC E b := by
    have hb := hC.1
    funext j s
    unfold slC
    by_cases z : s < 7
    · rw [if_pos z, if_pos z, ia _ _ (by omega), ki _ _ (by omega) (by omega)]
    · rw [if_neg z, if_neg z]
  have hb := hC.1
  have hmd : ∀ g, g ∉ gsI → gI EM g 95 = gI E g 95 := fun g z => (im g z).trans (ki g 95 (by omega) (by omega))
  have hmo : ∀ q, q ∉ asI → (q < 60 ∨ 72 < q) → gA EM q = gA E q := fun q z1 z2 => (aa q z1).trans (ka q z2)
  have hcI : ∀ g q, ¬ (g = 1416 ∧ q = 0) → (q < 60 ∨ 72 < q) → q ≠ 95 → gI EM g q = gI E g q := fun g q z1 z2 z3 => (ia g q z3).trans (ki g q z1 z2)
  have hS : CR EM b := cr_mf mf (cr_sr sC hC)
  have hTd : TdC b E EM := ⟨hS, mf_mo mf hMC, qs_mf mf ⟨fun i hi => sr_gQ sC (hQ.1 i hi), fun i hi => sr_gQ sC (hQ.2 i hi)⟩, hsl, fun g hg => hcI g b (by omega) (by omega) (by omega), hcI _ _ (by omega) (by omega) (by omega), hcI _ _ (by decide) (by decide) (by decide), hmo _ (by simp; omega) (by omega), hmo _ (by simp; omega) (by omega), fun q hq i _ => congrFun (hmo q.1 (td_lI q hq).1 (td_lI q hq).2) i⟩
  have hpc : pcF EM 46 = pcF E 46 := pc_cg (hmo _ (by decide) (by decide)) (hmo _ (by decide) (by decide)) (fun g => hcI g 46 (by omega) (by decide) (by decide))
  have hpk : pkF EM = pkF E := pk_cg (hmo _ (by decide) (by decide)) (hmo _ (by decide) (by decide)) (fun g hg => hmd g (by simp at hg ⊢; omega))
  have hpkC : pkF EC = pkF E := pk_cg (ka _ (by decide)) (ka _ (by decide)) (fun g hg => ki g 95 (by omega) (by decide))
  refine ⟨EC, 0, 0, by decide, by decide, hcl, EM, hm, b, L, m, R, k, S, t, ⟨td_cg h.1 hTd, ?_, ?_, ?_, ?_⟩, ?_⟩
  · rw [hsl]
    unfold NoR
    rw [hpc, hpk, hcI 514 46 (by decide) (by decide) (by decide), hcI 519 46 (by decide) (by decide) (by decide), hcI 386 51 (by decide) (by decide) (by decide), hcI 384 51 (by decide) (by decide) (by decide), hcI 386 54 (by decide) (by decide) (by decide), hcI 384 54 (by decide) (by decide) (by decide), hmd 1566 (by decide), hmd 1567 (by decide), hmo 98 (by decide) (by decide), hmo 53 (by decide) (by decide), hmo 110 (by decide) (by decide), hmo 56 (by decide) (by decide), hmo 127 (by decide) (by decide), hmo 128 (by decide) (by decide), hmo 129 (by decide) (by decide), hmo 58 (by decide) (by decide), hmo 107 (by decide) (by decide)]
    exact ⟨n1, n2, n3, ⟨n4, n5, n6⟩, ⟨n7, n8, n9⟩, s1, s2, s3, s4⟩
  · have e130 : ∀ j, j < 18 → gA EM 130 j = pkF E j := fun j hj => by rw [mr j hj, hpkC]
    refine Or.inr ⟨by rw [ia _ _ (by decide), ← hEC, gI_sI, if_pos ⟨rfl, rfl⟩], mi, k, S, ?_, ?_, fun j hj => ?_, ⟨?_, ?_⟩, ⟨?_, ?_⟩, ?_⟩
    · rw [ia _ _ (by decide), iC _ _ (by decide), w2 514 (by decide) (by decide)]; exact n1
    · rw [hsl, ia _ _ (by decide), iC _ _ (by decide), w2 519 (by decide) (by decide), hmo 98 (by decide) (by decide)]; exact n2
    · rw [e130 j hj.1, pc_cg (E := EX) (E2 := EM) (p := 60) ((aa 62 (by decide)).trans (aC 62)) ((aa 64 (by decide)).trans (aC 64)) (fun g => (ia g 60 (by decide)).trans (iC g 60 (by omega))), w3 j hj.1]
      exact n3 j hj
    · rw [ia _ _ (by decide), iC _ _ (by decide), w4]; exact n4
    · rw [ma, ki _ _ (by decide) (by decide)]; exact n6
    · rw [ia _ _ (by decide), iC _ _ (by decide), w5]; exact n7
    · rw [ms, ki _ _ (by decide) (by decide)]; exact n9
    · rw [hsl]
      refine str_cg l7 (v := pkF E) ⟨s1, s2, s3, s4⟩ e130 (fun i hi => ?_) (fun i hi => ?_) (fun i hi => ?_) (fun i hi => ?_) (fun i hi => ⟨?_, ?_⟩)
      · rw [aa 67 (by decide), aC]; exact w6 i hi
      · rw [mp i hi, ka 110 (by decide)]
      · rw [aa 70 (by decide), aC]; exact w7 i hi
      · obtain ⟨x1, x2, x3⟩ := mw i hi
        rw [x1, x2, x3, ka 127 (by decide), ka 128 (by decide), ka 129 (by decide)]
        exact ⟨rfl, rfl, rfl⟩
      · rw [aa 72 (by decide), aC]; exact w8 i hi
      · rw [mt i hi, ka 107 (by decide)]
  · obtain ⟨t1, t2, t3, t4⟩ := h.2.2.2.1
    unfold TpR
    rw [hcI 1409 0 (by decide) (by decide) (by decide), hmd 1550 (by decide), hmo 2 (by decide) (by decide), hmo 108 (by decide) (by decide)]
    exact ⟨t1, t2, t3, t4⟩
  · rw [hcI 1410 0 (by decide) (by decide) (by decide), hmd 1559 (by decide)]
    exact h.2.2.2.2
  · unfold KpR at *
    rw [hcI 1418 0 (by decide) (by decide) (by decide), hmd 1594 (by decide), hmo 74 (by decide) (by decide), hmo 124 (by decide) (by decide)]
    exact hk
set_option maxHeartbeats 16000000 in
theorem o_restore {E : HP} {b L m k S t : Nat} {R : List Int32} (h : RelN E b L m R k S t) (hk : KpR E L) : OpP yX11_restore mX11_restore yX12_restore mX12_restore [] E := by
  have ci := (ci_of h).1
  obtain ⟨l7, m1, m6⟩ := l7_of h
  obtain ⟨hC, hM, hQ⟩ := rel_td h
  obtain ⟨n1, n2, n3, ⟨n4, n5, n6⟩, ⟨n7, n8, n9⟩, ⟨s1, s2, s3, s4⟩⟩ := id h.2.1
  have hL : gA E 98 0 = nI L := h.1.2.1.2
  have k40 : k ≤ 40 := s2.1
  have ac : piSz E 137 51 120 k 40 := ⟨cr_pile51 hC, n4, n5, rfl, k40, by decide, by decide⟩
  obtain ⟨co, cu, c14, c15, c16, c17⟩ := pc_at l7 n3
  obtain ⟨mo, mu⟩ := pk_at (E := E)
  rcases h.2.2.1 with ⟨z1, z2⟩ | ⟨z1, z2, k2, S2, r1, r2, r3, ⟨r4, r5⟩, ⟨r6, r7⟩, r8⟩
  · have hcl := c_X11_restore0 (d := 52) ci z1
    have hm := m_restore0 (d := 52) hM z2
    have a3 : AQ E (sI E 1538 95 0) 0 := ⟨mf_sI (by decide) mf_rfl, by rw [gI_sI, if_pos ⟨rfl, rfl⟩]⟩
    exact ⟨_, E, 0, 0, by decide, by decide, hcl, _, hm, b, L, m, R, k, S, t, rel_aq h a3, kp_aq hk a3⟩
  have h01 : gI E 519 60 = 0 ∨ gI E 519 60 = 1 := by
    rw [r2]
    unfold freW
    split
    · exact Or.inl rfl
    · exact Or.inr rfl
  have hcl := c_X11_restore (d := 52) ci (by rw [z1]; decide) h01
  obtain ⟨w1, w2, w3, w4, w5, w9, w10, w6, w7, w8⟩ := st_copy45 (E := E)
  obtain ⟨EC, hEC⟩ : ∃ EC, stCopy 45 59 E = EC := ⟨_, rfl⟩
  have sC : SR E EC := by rw [← hEC]; exact sr_stCopy sr_rfl
  rw [hEC] at w1 w2 w3 w4 w5 w6 w7 w8 w9 w10 hcl
  have hMC : MoOK EC := fun q hq => sr_gR sC (hM q hq)
  have ki : ∀ q, (q < 46 ∨ 58 < q) → ∀ g, gI EC g q = gI E g q := fun q z g => fr_gI w1 (by omega) g
  have ka : ∀ q, (q < 46 ∨ 58 < q) → gA EC q = gA E q := fun q z => fr_gA w1 (by omega)
  obtain ⟨EM, mf, m0, ma, ms, mo, u14, u15, u16, u17, mp, mw, mt, hm⟩ := m_restore (d := 52) hMC (by rw [ki 95 (by decide), z2]; decide)
  rw [ka 130 (by decide)] at mo u14 u15 u16 u17
  have f1 : FrN b E EC := frn_cls hC hM hQ (fr_mono w1 (fun q z => by unfold PNow; omega)) sC
  have f3 : FrN b EC EM := frn_mf f1.1 f1.2.1 f1.2.2.1 (mf_mono mf (by decide) (by decide))
  have ff := frn_tr f1 f3
  have ia : ∀ g q, q ≠ 95 → gI EM g q = gI EC g q := fun g q z => mf_gI2 mf z
  have aa : ∀ q, q ∉ asNw → gA EM q = gA EC q := fun q z => mf_gA mf z
  have hpk : ∀ j, j < 18 → pkF EM j = gA E 130 j := pk_mk (fun i hi => (mo i hi).1) (fun i hi => (mo i hi).2) u14 u15 u16 u17
  have e98 : gA EM 98 = gA E 98 := ff.2.2.2.2.2.2.2 98 (by decide) (by decide)
  refine ⟨_, EC, 0, 0, by decide, by decide, hcl, EM, hm, rel_now h hk ff (k2 := k2) (S2 := S2) ⟨?_, ?_, fun j hj => ?_, ⟨?_, ?_, ?_⟩, ⟨?_, ?_, ?_⟩, ?_⟩⟩
  · rw [ia _ _ (by decide), w2 514 (by decide) (by decide)]; exact r1
  · rw [ia _ _ (by decide), w2 519 (by decide) (by decide), e98]; exact r2
  · rw [hpk j hj.1, pc_cg (E := EC) (E2 := EM) (p := 46) (aa 48 (by decide)) (aa 50 (by decide)) (fun g => ia g 46 (by decide)), w3 j hj.1]
    exact r3 j hj
  · rw [ia _ _ (by decide), w4]; exact r4
  · rw [ia _ _ (by decide), w9]; exact n5
  · rw [ma, ki 95 (by decide)]; exact r5
  · rw [ia _ _ (by decide), w5]; exact r6
  · rw [ia _ _ (by decide), w10]; exact n8
  · rw [ms, ki 95 (by decide)]; exact r7
  · refine str_cg l7 (v := gA E 130) r8 hpk (fun i hi => ?_) (fun i hi => ?_) (fun i hi => ?_) (fun i hi => ?_) (fun i hi => ⟨?_, ?_⟩)
    · rw [aa 53 (by decide)]; exact w6 i hi
    · rw [mp i hi, ka 131 (by decide)]
    · rw [aa 56 (by decide)]; exact w7 i hi
    · obtain ⟨x1, x2, x3⟩ := mw i hi
      rw [x1, x2, x3, ka 132 (by decide), ka 133 (by decide), ka 134 (by decide)]
      exact ⟨rfl, rfl, rfl⟩
    · rw [aa 58 (by decide)]; exact w8 i hi
    · rw [mt i hi, ka 135 (by decide)]
theorem okv_by {x : Int32} {k : Nat} : okv (byF x k) 255 := by
  obtain ⟨j, hj, e⟩ := pk_andE (usr x (shV k)) (m := 255) 8 (by decide)
  exact ⟨j, Nat.le_of_lt_succ (show j < 256 from hj), e⟩
theorem okv_by5 {a c e f g : Int32} {j : Nat} : okv (by5 a c e f g j) 255 := by
  unfold by5
  split
  · split
    · split
      · split
        · exact okv_by
        · exact okv_by
      · exact okv_by
    · exact okv_by
  · exact okv_by
set_option maxHeartbeats 16000000 in
theorem o_feed {E : HP} {b L m k S t : Nat} {R : List Int32} {x w q v u : Int32} (h : RelN E b L m R k S t) (hk : KpR E L) : OpP yX11_feed mX11_feed yX12_feed mX12_feed [.int x, .int w, .int q, .int v, .int u] E := by
  have ci := (ci_of h).1
  obtain ⟨l7, m1, m6⟩ := l7_of h
  obtain ⟨hC, hM, hQ⟩ := rel_td h
  obtain ⟨n1, n2, n3, ⟨n4, n5, n6⟩, ⟨n7, n8, n9⟩, ⟨s1, s2, s3, s4⟩⟩ := id h.2.1
  have hL : gA E 98 0 = nI L := h.1.2.1.2
  have k40 : k ≤ 40 := s2.1
  have ac : piSz E 137 51 120 k 40 := ⟨cr_pile51 hC, n4, n5, rfl, k40, by decide, by decide⟩
  obtain ⟨co, cu, c14, c15, c16, c17⟩ := pc_at l7 n3
  obtain ⟨mo, mu⟩ := pk_at (E := E)
  obtain ⟨t6, t1, t2, t3⟩ := h.2.2.2.1
  by_cases hz : t + 20 ≤ 600
  rotate_left
  · have hcl := c_X11_feed0 (d := 52) (a := x) (b9 := w) (c := q) (e := v) (f := u) ci t1 hz t6
    have hm := m_feed0 (d := 52) (a := x) (b := w) (c := q) (e := v) (f := u) hM t2 hz t6
    have a3 : AQ E (sI E 1538 95 0) 0 := ⟨mf_sI (by decide) mf_rfl, by rw [gI_sI, if_pos ⟨rfl, rfl⟩]⟩
    exact ⟨_, E, 0, 0, by decide, by decide, hcl, _, hm, b, L, m, R, k, S, t, rel_aq h a3, kp_aq hk a3⟩
  obtain ⟨EC, ⟨f1, sC, i1, a1, -, i2⟩, hcl⟩ := c_X11_feed (d := 52) (a := x) (b9 := w) (c := q) (e := v) (f := u) ci t1 hz
  have hMC : MoOK EC := fun q hq => sr_gR sC (hM q hq)
  obtain ⟨_, ⟨EM, rfl, mf, m0, m1, ma⟩, hm⟩ := m_feed (d := 52) (a := x) (b := w) (c := q) (e := v) (f := u) hMC (show gI EC 1550 95 = nI t by rw [fr_gI f1 (by decide)]; exact t2) hz
  have hb := hC.1
  have ci9 : ∀ g k, k ≠ 95 → ¬ (g = 1409 ∧ k = 0) → k ≠ 2 → gI EM g k = gI E g k := fun g k z1 z2 z3 => by
    rw [mf_gI2 mf z1]
    by_cases y : k = 0
    · rw [y]; exact i1 g (fun z => z2 ⟨z, y⟩)
    · exact fr_gI f1 (by omega) g
  have cm9 : ∀ g, g ∉ [1538, 1550] → gI EM g 95 = gI E g 95 := fun g z => (mf_gI mf z).trans (fr_gI f1 (by decide) g)
  have ca9 : ∀ k, k ≠ 108 → k ≠ 2 → k ≠ 0 → gA EM k = gA E k := fun k z1 z2 z3 => (mf_gA mf (by simp; exact z1)).trans (fr_gA f1 (by omega))
  have hsl : slC EM b = slC E b := by
    funext j s
    unfold slC
    by_cases z : s < 7
    · rw [if_pos z, if_pos z, ci9 _ _ (by omega) (by omega) (by omega)]
    · rw [if_neg z, if_neg z]
  have hTd : TdC b E EM := ⟨cr_mf mf (cr_sr sC hC), mf_mo mf hMC, qs_mf mf ⟨fun i hi => sr_gQ sC (hQ.1 i hi), fun i hi => sr_gQ sC (hQ.2 i hi)⟩, hsl, fun g hg => ci9 g b (by omega) (by omega) (by omega), ci9 _ _ (by omega) (by omega) (by omega), ci9 _ _ (by decide) (by decide) (by decide), ca9 _ (by omega) (by omega) (by omega), ca9 _ (by omega) (by omega) (by omega), fun q hq i _ => congrFun (ca9 q.1 (td_lF q hq).1 (td_lF q hq).2.1 (td_lF q hq).2.2) i⟩
  have hpc : ∀ p, p = 46 ∨ p = 60 → pcF EM p = pcF E p := fun p hp => pc_cg (ca9 _ (by omega) (by omega) (by omega)) (ca9 _ (by omega) (by omega) (by omega)) (fun g => ci9 g p (by omega) (by omega) (by omega))
  have hpk : pkF EM = pkF E := pk_cg (ca9 _ (by decide) (by decide) (by decide)) (ca9 _ (by decide) (by decide) (by decide)) (fun g hg => cm9 g (by simp at hg ⊢; omega))
  refine ⟨_, EC, 0, 0, by decide, by decide, hcl, EM, hm, b, L, m, R, k, S, t + 20, ⟨td_cg h.1 hTd, ?_, ?_, ?_, ?_⟩, ?_⟩
  · rw [hsl]
    unfold NoR
    rw [hpc 46 (Or.inl rfl), hpk, ci9 514 46 (by decide) (by decide) (by decide), ci9 519 46 (by decide) (by decide) (by decide), ci9 386 51 (by decide) (by decide) (by decide), ci9 384 51 (by decide) (by decide) (by decide), ci9 386 54 (by decide) (by decide) (by decide), ci9 384 54 (by decide) (by decide) (by decide), cm9 1566 (by decide), cm9 1567 (by decide), ca9 98 (by decide) (by decide) (by decide), ca9 53 (by decide) (by decide) (by decide), ca9 110 (by decide) (by decide) (by decide), ca9 56 (by decide) (by decide) (by decide), ca9 127 (by decide) (by decide) (by decide), ca9 128 (by decide) (by decide) (by decide), ca9 129 (by decide) (by decide) (by decide), ca9 58 (by decide) (by decide) (by decide), ca9 107 (by decide) (by decide) (by decide)]
    exact ⟨n1, n2, n3, ⟨n4, n5, n6⟩, ⟨n7, n8, n9⟩, s1, s2, s3, s4⟩
  · rw [hsl]
    have h3 := h.2.2.1
    unfold ThR at *
    rw [hpc 60 (Or.inr rfl), ci9 1416 0 (by decide) (by decide) (by decide), cm9 1600 (by decide), cm9 1601 (by decide), cm9 1602 (by decide), ci9 514 60 (by decide) (by decide) (by decide), ci9 519 60 (by decide) (by decide) (by decide), ci9 386 65 (by decide) (by decide) (by decide), ci9 386 68 (by decide) (by decide) (by decide), ca9 98 (by decide) (by decide) (by decide), ca9 67 (by decide) (by decide) (by decide), ca9 70 (by decide) (by decide) (by decide), ca9 72 (by decide) (by decide) (by decide), ca9 130 (by decide) (by decide) (by decide), ca9 131 (by decide) (by decide) (by decide), ca9 132 (by decide) (by decide) (by decide), ca9 133 (by decide) (by decide) (by decide), ca9 134 (by decide) (by decide) (by decide), ca9 135 (by decide) (by decide) (by decide)]
    exact h3
  · refine ⟨hz, (mf_gI2 mf (by decide)).trans i2, m1, fun i hi => ?_⟩
    rw [ma i, mf_gA mf (by decide), a1 i, fr_gA f1 (by decide)]
    by_cases z : t ≤ i ∧ i < t + 20
    · rw [if_pos z, if_pos z]
      exact ⟨rfl, okv_by5⟩
    · rw [if_neg z, if_neg z]
      exact t3 i (by omega)
  · rw [ci9 1410 0 (by decide) (by decide) (by decide), cm9 1559 (by decide)]
    exact h.2.2.2.2
  · unfold KpR at *
    rw [ci9 1418 0 (by decide) (by decide) (by decide), cm9 1594 (by decide), ca9 74 (by decide) (by decide) (by decide), ca9 124 (by decide) (by decide) (by decide)]
    exact hk
