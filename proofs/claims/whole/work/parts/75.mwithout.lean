/-! The model: without -/
theorem mf_gA0 {gs as : List Nat} {E E2 : HP} {x : Int32} {a : Nat} (h : MF gs as (sI E 1538 95 x) E2) (ha : a ∉ as) : gA E2 a = gA E a := (mf_gA h ha : gA E2 a = gA (sI E 1538 95 x) a)
theorem sI_same {E : HP} {g k : Nat} {v : Int32} (h : gI E g k = v) : sI E g k v = E := by
  have e : (fun a b => if a = g ∧ b = k then v else E.1 a b) = E.1 := by
    funext a b
    by_cases z : a = g ∧ b = k
    · rw [if_pos z, z.1, z.2]; exact h.symm
    · rw [if_neg z]
  show ((fun a b => if a = g ∧ b = k then v else E.1 a b), E.2) = E
  rw [e]
set_option maxRecDepth 20000 in
theorem m_without {d L m s : Nat} {sl : Nat → Nat → Int32} {aw : Int32} {R : List Int32} {c : Cfg} {fr : Int32} {E : HP} (h : MD E L m sl aw R c fr) (hs : s < L) : ∃ o, (∃ E9, o = (.inl (some (.int ((nS (nightF (vMk L sl aw R c fr) m) 2 - byS (vMk L sl aw R c fr) (nightF (vMk L sl aw R c fr) m) 3 s) - nS (nightF (vMk (L - 1) sl aw R (cGo c L (plcF (cO c) (nI s) L) (nI s)) (freW (gA E 98 1) (gA E 98 2) (sl 5) (cO (cGo c L (plcF (cO c) (nI s) L) (nI s))) (L - 1))) m) 2))), E9, 137) ∧ AQ E E9 0) ∧ Cl yX12_without mX12_without (d + 8) 0 0 [.ref 95, .int (nI s)] E 137 o := by
  obtain ⟨E2, ⟨f2, hg⟩, hni⟩ := m_night (d := d + 1) (md_0 (x := 0) h)
  obtain ⟨hM, hL, ⟨cok, csu⟩, hoc, h62, h63, h64, h65, hsy, hsl, ⟨m1, m6, hm⟩, -⟩ := id h
  obtain ⟨hM2, hv2, g1, g2, g3, g4, g5, g6⟩ := id hg
  have l7 : L ≤ 7 := cok.2.1
  have g98 : gA E2 98 = gA E 98 := (mf_gA f2 (a := 98) (by decide) : gA E2 98 = gA (sI E 1538 95 0) 98)
  have hq := mq_of f2 (by decide) (by decide) (by decide)
  have hM0 : MoOK (sI E 1538 95 0) := hM
  have hL0 : gA (sI E 1538 95 0) 98 0 = nI L := hL
  have his := c_isSl (d := d + 6) (E := sI E 1538 95 0) (x := nI s) hM0 hL0 l7
  rw [b01_t (inB_of hs (by omega))] at his
  have haw := c_X12_allWoken (d := d + 7) hM2 (by rw [g98]; exact hL) l7
  rw [g4] at haw
  obtain ⟨b1, b2, b3, b4⟩ := gr_by ⟨cok, csu⟩ hg hs
  have hMD2 : MD E2 L m sl aw R c fr := md_mf hq.1 h
  obtain ⟨E3, ⟨f3, hv3, hr3, s1, s2⟩, hse⟩ := m_set (d := d + 6) hMD2
  have hM3 := mf_mo f3 hM2
  obtain ⟨i0, hi0, he0⟩ := csu s hs
  obtain ⟨p1, p2, p3⟩ := plc_hit hi0 he0
  obtain ⟨k, hkd⟩ : ∃ k, (plcF (cO c) (nI s) L) = k := ⟨_, rfl⟩
  rw [hkd] at p1 p2 p3
  have hmin : gI E3 1586 95 = nI m := (mf_gI f3 (by decide)).trans g1
  have hpo := c_X12_placeOf (d := d + 7) (V := (vMk L sl aw R c fr)) (p := k) ⟨hM3, hv3, hmin, m6⟩ p1
  rw [show oV (vMk L sl aw R c fr) k = s by show (cO c k).toNatClampNeg = s; rw [p2, nI_clamp (by omega)]] at hpo
  have hcg := cok_go cok p1 p2
  have f03 : MF gsS asS (sI E 1538 95 0) E3 := mf_tr f2 (mf_mono f3 (by decide) (by decide))
  refine Cx.of (by decide) rfl (fun q => by cases q) rfl rfl (Nat.le_of_ble_eq_true rfl) ?_
  show Sx _ _ _ _ _ 0 [some (.ref 95), some (.int (nI s)), none, none, none] [] _ _
  have fin : ∀ E4, MF [1581] [113] E3 E4 → gI E4 1581 95 = nI (L - 1) → (∀ j, j < L - 1 → gA E4 113 j = cO c (if j < k then j else j + 1)) → ∀ x3 x4, Sx mX12_without (d + 8) 0 0 (fun o => ∃ E9, o = (.inl (some (.int ((nS (nightF (vMk L sl aw R c fr) m) 2 - byS (vMk L sl aw R c fr) (nightF (vMk L sl aw R c fr) m) 3 s) - nS (nightF (vMk (L - 1) sl aw R (cGo c L (plcF (cO c) (nI s) L) (nI s)) (freW (gA E 98 1) (gA E 98 2) (sl 5) (cO (cGo c L (plcF (cO c) (nI s) L) (nI s))) (L - 1))) m) 2))), E9, 137) ∧ AQ E E9 0) 89 [some (.ref 95), some (.int (nI s)), some (.int (nS (nightF (vMk L sl aw R c fr) m) 2 - byS (vMk L sl aw R c fr) (nightF (vMk L sl aw R c fr) m) 3 s)), x3, x4] [] E4 137 := by
    intro E4 f4 hmany hrow x3 x4
    have hM4 := mf_mo f4 hM3
    have g113 : ∀ j, j < L - 1 → gA E4 113 j = cO (cGo c L k (nI s)) j := fun j hj => by
      rw [hrow j hj]
      show _ = (if j < k then cO c j else if j + 1 < L then cO c (j + 1) else _)
      by_cases h9 : j < k
      · rw [if_pos h9, if_pos h9]
      · rw [if_neg h9, if_neg h9, if_pos (by omega)]
    have w0 : gI E4 1582 95 = cS c := (mf_gI f4 (by decide)).trans s1
    have w1 : gI E4 1583 95 = (if cS c = -1 then 0 else cE c) := (mf_gI f4 (by decide)).trans s2
    have tail : ∀ v, v = (if cS c = nI s then -1 else cS c) → Sx mX12_without (d + 8) 0 0 (fun o => ∃ E9, o = (.inl (some (.int ((nS (nightF (vMk L sl aw R c fr) m) 2 - byS (vMk L sl aw R c fr) (nightF (vMk L sl aw R c fr) m) 3 s) - nS (nightF (vMk (L - 1) sl aw R (cGo c L (plcF (cO c) (nI s) L) (nI s)) (freW (gA E 98 1) (gA E 98 2) (sl 5) (cO (cGo c L (plcF (cO c) (nI s) L) (nI s))) (L - 1))) m) 2))), E9, 137) ∧ AQ E E9 0) 102 [some (.ref 95), some (.int (nI s)), some (.int (nS (nightF (vMk L sl aw R c fr) m) 2 - byS (vMk L sl aw R c fr) (nightF (vMk L sl aw R c fr) m) 3 s)), x3, x4] [] (sI E4 1582 95 v) 137 := by
      intro v hv
      have f5 : MF gsS asS (sI E 1538 95 0) (sI E4 1582 95 v) := mf_sI (by decide) (mf_tr f03 (mf_mono f4 (by decide) (by decide)))
      have htf := c_X12_tellFree (d := d + 7) (l := L - 1) (E := sI E4 1582 95 v) hM4 (by rw [gI_sI, if_neg (by decide)]; exact hmany) (by omega) (fun p hp => by obtain ⟨q, hq9, e⟩ := hcg.2.2.1 p hp; exact ⟨q, by omega, (g113 p hp).trans e⟩)
      obtain ⟨E6, hE6⟩ : ∃ E6, E6 = sI (sI E4 1582 95 v) 1589 95 (freM (sI E4 1582 95 v) (L - 1)) := ⟨_, rfl⟩
      have f6 : MF gsS asS (sI E 1538 95 0) E6 := by rw [hE6]; exact mf_sI (by decide) f5
      have a98 : gA E6 98 = gA E 98 := (mf_gA f6 (a := 98) (by decide) : gA E6 98 = gA (sI E 1538 95 0) 98)
      have hfr : gI E6 1589 95 = (freW (gA E 98 1) (gA E 98 2) (sl 5) (cO (cGo c L (plcF (cO c) (nI s) L) (nI s))) (L - 1)) := by
        rw [hE6, gI_sI, if_pos ⟨rfl, rfl⟩, hkd]
        unfold freM freW
        rw [show gA (sI E4 1582 95 v) 98 = gA E 98 from mf_gA0 f5 (by decide), wid_eq (E := sI E4 1582 95 v) (ro := gA E 98 2) (w := sl 5) (ord := cO (cGo c L k (nI s))) (by rw [show gA (sI E4 1582 95 v) 98 = gA E 98 from mf_gA0 f5 (by decide)]) (L - 1) (fun i hi => ⟨g113 i hi, ?_⟩)]
        obtain ⟨q, hq9, e⟩ := hcg.2.2.1 i hi
        rw [e, nI_clamp (by omega), show gA (sI E4 1582 95 v) 102 = gA E 102 from mf_gA0 f5 (by decide)]
        exact (hsl q hq9).2.2.2.2.1
      have i82 : gI E6 1582 95 = v := by rw [hE6, gI_sI, if_neg (by decide), gI_sI, if_pos ⟨rfl, rfl⟩]
      have i83 : gI E6 1583 95 = (if cS c = -1 then 0 else cE c) := by rw [hE6, gI_sI, if_neg (by decide), gI_sI, if_neg (by decide)]; exact w1
      have hv6 : MVis E6 (vMk (L - 1) sl aw R (cGo c L (plcF (cO c) (nI s) L) (nI s)) (freW (gA E 98 1) (gA E 98 2) (sl 5) (cO (cGo c L (plcF (cO c) (nI s) L) (nI s))) (L - 1))) L := by
        rw [hkd]
        rw [hkd] at hfr
        refine mvis_mk (by rw [hE6, gI_sI, if_neg (by decide), gI_sI, if_neg (by decide)]; exact hmany) hcg (by rw [a98]; exact hL) (fun i hi => by rw [hE6]; exact g113 i hi) (fun q hq9 => ?_) (fun q hq9 => ?_) (fun z => ?_) (fun z1 z2 => ?_) ?_ hfr (by rw [a98]; exact (id h).2.2.2.2.2.2.2.2.2.2.2.1) (id h).2.2.2.2.2.2.2.2.2.2.2.2.1 (by rw [a98]; exact (id h).2.2.2.2.2.2.2.2.2.2.2.2.2.1) (id h).2.2.2.2.2.2.2.2.2.2.2.2.2.2.1 (fun i hi => by rw [show gA E6 106 = gA E 106 from mf_gA0 f6 (by decide)]; exact (id h).2.2.2.2.2.2.2.2.2.2.2.2.2.2.2.1 i hi) (id h).2.2.2.2.2.2.2.2.2.2.2.2.2.2.2.2.1
        · rw [hE6]
          show gA E4 114 q = _
          rw [mf_gA f4 (by decide)]
          exact (hr3 q hq9).2
        · obtain ⟨a1, a2, a3, a4, a5, a6, a7, a8⟩ := hsl q hq9
          rw [show gA E6 99 = gA E 99 from mf_gA0 f6 (by decide), show gA E6 100 = gA E 100 from mf_gA0 f6 (by decide), show gA E6 101 = gA E 101 from mf_gA0 f6 (by decide)]
          exact ⟨a1, a2, a3, a4, a7, a8⟩
        · rw [i82, i83, hv] at z
          show ¬ 0 < (if cS c = nI s then 0 else cE c)
          by_cases h9 : cS c = nI s
          · rw [if_pos h9]; decide
          · rw [if_neg h9] at z ⊢
            intro y
            rcases z with z | z
            · exact hsy y z
            · rw [if_neg (hsy y)] at z; exact z y
        · rw [i82, hv] at z1
          rw [i83] at z2 ⊢
          rw [i82, hv]
          show (if cS c = nI s then 0 else cE c) = _ ∧ _ = (if cS c = nI s then -1 else cS c)
          by_cases h9 : cS c = nI s
          · rw [if_pos h9] at z1; exact absurd rfl z1
          · rw [if_neg h9] at z1 ⊢
            rw [if_neg z1, if_neg h9]
            exact ⟨rfl, rfl⟩
        · rw [hE6, gI_sI, if_neg (by decide), gI_sI, if_neg (by decide)]
          exact (mf_gI f4 (by decide)).trans ((hv3.2.2.2.2.2.2.2.2.1).trans rfl)
      have hM6 := mf_mo f6 hM0
      have hF6 : gI E6 1562 95 = vS (vMk (L - 1) sl aw R (cGo c L (plcF (cO c) (nI s) L) (nI s)) (freW (gA E 98 1) (gA E 98 2) (sl 5) (cO (cGo c L (plcF (cO c) (nI s) L) (nI s))) (L - 1))) 4 := (mf_gI f6 (by decide)).trans h62
      have hm6 : gA E6 98 3 = nI m := by rw [a98]; exact hm
      obtain ⟨_, ⟨E7, rfl, f7, hg7⟩, hgo⟩ := c_X12_go (d := d + 2) (m := m) hM6 hv6 cok.2.2.2.2.2.2 m6
      have haw7 := c_X12_allWoken (d := d + 7) hg7.1 (by rw [mf_gA f7 (by decide), a98]; exact hL) l7
      rw [hg7.2.2.2.2.2.1] at haw7
      rw [← hE6] at htf
      have hq7 : AQ E E7 0 := mq_of (mf_tr f6 (mf_mono f7 (by decide) (by decide))) (by decide) (by decide) (by decide)
      refine Sx.up (fun _ kk => r_aload_n 103 dX12_without_102 rfl rfl kk) ?_
      refine Sx.up (fun _ kk => r_callV (M := mX12_without) (pc := 103) 106 dX12_without_103 rfl k12_353 htf rfl rfl rfl (by decide) rfl lt95 (Nat.le_of_ble_eq_true rfl) kk) ?_
      refine Sx.up (fun _ kk => r_aload_n 107 dX12_without_106 rfl rfl kk) ?_
      refine Sx.up (fun _ kk => r_aload_n 108 dX12_without_107 rfl rfl kk) ?_
      refine Sx.up (fun _ kk => r_getIV (vS (vMk (L - 1) sl aw R (cGo c L (plcF (cO c) (nI s) L) (nI s)) (freW (gA E 98 1) (gA E 98 2) (sl 5) (cO (cGo c L (plcF (cO c) (nI s) L) (nI s))) (L - 1))) 4) 111 dX12_without_108 rfl f12_315 rfl rfl lt95 (hF6) kk) ?_
      refine Sx.up (fun _ kk => r_aload_n 112 dX12_without_111 rfl rfl kk) ?_
      refine Sx.up (fun _ kk => r_getR 115 dX12_without_112 rfl f12_38 rfl rfl lt95 (mo_3 hM6) kk) ?_
      refine Sx.up (fun _ kk => r_iconst (3) 116 dX12_without_115 rfl (by decide) kk) ?_
      refine Sx.up (fun _ kk => r_ialdN (3) (nI m) 117 dX12_without_116 rfl rfl (Nat.le_of_ble_eq_true rfl) (by decide) (Nat.le_of_ble_eq_true rfl) (Nat.le_of_ble_eq_true rfl) (hm6) kk) ?_
      refine Sx.up (fun _ kk => r_callV (M := mX12_without) (pc := 117) 120 dX12_without_117 rfl k12_416 hgo rfl rfl rfl (by decide) rfl lt95 (Nat.le_of_ble_eq_true rfl) kk) ?_
      refine Sx.up (fun _ kk => r_iload_n 121 dX12_without_120 rfl rfl kk) ?_
      refine Sx.up (fun _ kk => r_aload_n 122 dX12_without_121 rfl rfl kk) ?_
      refine Sx.up (fun _ kk => r_callV (M := mX12_without) (pc := 122) 125 dX12_without_122 rfl k12_447 haw7 rfl rfl rfl (by decide) rfl lt95 (Nat.le_of_ble_eq_true rfl) kk) ?_
      refine Sx.up (fun _ kk => r_isub 126 dX12_without_125 rfl kk) ?_
      refine ⟨_, ?_, r_iret dX12_without_126 rfl rfl rfl⟩
      refine ⟨E7, rfl, hq7⟩
    refine Sx.up (fun _ kk => r_aload_n 90 dX12_without_89 rfl rfl kk) ?_
    refine Sx.up (fun _ kk => r_getIV (cS c) 93 dX12_without_90 rfl f12_344 rfl rfl lt95 (w0) kk) ?_
    refine Sx.up (fun _ kk => r_iload_n 94 dX12_without_93 rfl rfl kk) ?_
    refine Sx.br (fun _ ka kb => r_icmp_ne 97 102 dX12_without_94 rfl (by decide) ka kb) (by first | exact em1 | exact em2) (fun h94 => ?_) (fun h94 => ?_)
    · have := tail (cS c) (by rw [if_neg h94])
      rw [show sI E4 1582 95 (cS c) = E4 from sI_same w0] at this
      exact this
    · refine Sx.up (fun _ kk => r_aload_n 98 dX12_without_97 rfl rfl kk) ?_
      refine Sx.up (fun _ kk => r_iconst (-1) 99 dX12_without_98 rfl (by decide) kk) ?_
      refine Sx.up (fun _ kk => r_putI 102 dX12_without_99 rfl f12_344 rfl lt95 kk) ?_
      exact tail (-1) (by rw [if_pos h94])
  have loop := sxUp (S := fun k9 E4 => Sx mX12_without (d + 8) 0 0 (fun o => ∃ E9, o = (.inl (some (.int ((nS (nightF (vMk L sl aw R c fr) m) 2 - byS (vMk L sl aw R c fr) (nightF (vMk L sl aw R c fr) m) 3 s) - nS (nightF (vMk (L - 1) sl aw R (cGo c L (plcF (cO c) (nI s) L) (nI s)) (freW (gA E 98 1) (gA E 98 2) (sl 5) (cO (cGo c L (plcF (cO c) (nI s) L) (nI s))) (L - 1))) m) 2))), E9, 137) ∧ AQ E E9 0) 58 [some (.ref 95), some (.int (nI s)), some (.int (nS (nightF (vMk L sl aw R c fr) m) 2 - byS (vMk L sl aw R c fr) (nightF (vMk L sl aw R c fr) m) 3 s)), some (.int (nI k)), some (.int (nI k9))] [] E4 137) (Inv := fun k9 E4 => MF [1581] [113] E3 E4 ∧ gI E4 1581 95 = nI (L - 1) ∧ (∀ j, j < L → gA E4 113 j = cO c (if j < k then j else if j < k9 then j + 1 else j))) (a := k) (l := L - 1) (by omega) ?_ ?_ (sI E3 1581 95 (nI (L - 1))) ⟨mf_sI (by decide) mf_rfl, by rw [gI_sI, if_pos ⟨rfl, rfl⟩], fun j hj => by
    show gA E3 113 j = _
    rw [(hr3 j hj).1]
    by_cases h9 : j < k
    · rw [if_pos h9]
    · rw [if_neg h9, if_neg h9]⟩
  refine Sx.up (fun _ kk => r_aload_n 1 dX12_without_0 rfl rfl kk) ?_
  refine Sx.up (fun _ kk => r_iconst (0) 2 dX12_without_1 rfl (by decide) kk) ?_
  refine Sx.up (fun _ kk => r_putI 5 dX12_without_2 rfl f12_159 rfl lt95 kk) ?_
  refine Sx.up (fun _ kk => r_aload_n 6 dX12_without_5 rfl rfl kk) ?_
  refine Sx.up (fun _ kk => r_iload_n 7 dX12_without_6 rfl rfl kk) ?_
  refine Sx.up (fun _ kk => r_callV (M := mX12_without) (pc := 7) 10 dX12_without_7 rfl k12_420 his rfl rfl rfl (by decide) rfl lt95 (Nat.le_of_ble_eq_true rfl) kk) ?_
  refine Sx.up (fun _ kk => r_if_ne 13 19 dX12_without_10 rfl (by decide) (fun _ => kk) (fun h10 => absurd h10 (by decide))) ?_
  refine Sx.up (fun _ kk => r_aload_n 20 dX12_without_19 rfl rfl kk) ?_
  refine Sx.up (fun _ kk => r_callV (M := mX12_without) (pc := 20) 23 dX12_without_20 rfl k12_444 hni rfl rfl rfl (by decide) rfl lt95 (Nat.le_of_ble_eq_true rfl) kk) ?_
  refine Sx.up (fun _ kk => r_aload_n 24 dX12_without_23 rfl rfl kk) ?_
  refine Sx.up (fun _ kk => r_callV (M := mX12_without) (pc := 24) 27 dX12_without_24 rfl k12_447 haw rfl rfl rfl (by decide) rfl lt95 (Nat.le_of_ble_eq_true rfl) kk) ?_
  refine Sx.up (fun _ kk => r_aload_n 28 dX12_without_27 rfl rfl kk) ?_
  refine Sx.up (fun _ kk => r_getR 31 dX12_without_28 rfl f12_105 rfl rfl lt95 (mo_39 hM2) kk) ?_
  refine Sx.up (fun _ kk => r_iload_n 32 dX12_without_31 rfl rfl kk) ?_
  refine Sx.up (fun _ kk => r_ialdN (s) (_) 33 dX12_without_32 rfl rfl (Nat.le_of_ble_eq_true rfl) (rfl) (by omega) (Nat.le_of_ble_eq_true rfl) (b3) kk) ?_
  refine Sx.up (fun _ kk => r_isub 34 dX12_without_33 rfl kk) ?_
  refine Sx.up (fun _ kk => r_istore_n 35 dX12_without_34 rfl (by decide) rfl kk) ?_
  refine Sx.up (fun _ kk => r_aload_n 36 dX12_without_35 rfl rfl kk) ?_
  refine Sx.up (fun _ kk => r_callV (M := mX12_without) (pc := 36) 39 dX12_without_36 rfl k12_413 hse rfl rfl rfl (by decide) rfl lt95 (Nat.le_of_ble_eq_true rfl) kk) ?_
  refine Sx.up (fun _ kk => r_aload_n 40 dX12_without_39 rfl rfl kk) ?_
  refine Sx.up (fun _ kk => r_iload_n 41 dX12_without_40 rfl rfl kk) ?_
  refine Sx.up (fun _ kk => r_callV (M := mX12_without) (pc := 41) 44 dX12_without_41 rfl k12_394 hpo rfl rfl rfl (by decide) rfl lt95 (Nat.le_of_ble_eq_true rfl) kk) ?_
  refine Sx.up (fun _ kk => r_istore_n 45 dX12_without_44 rfl (by decide) rfl kk) ?_
  refine Sx.up (fun _ kk => r_aload_n 46 dX12_without_45 rfl rfl kk) ?_
  refine Sx.up (fun _ kk => r_dup 47 dX12_without_46 rfl rfl kk) ?_
  refine Sx.up (fun _ kk => r_getIV (nI L) 50 dX12_without_47 rfl f12_341 rfl rfl lt95 (hv3.1) kk) ?_
  refine Sx.up (fun _ kk => r_iconst (1) 51 dX12_without_50 rfl (by decide) kk) ?_
  refine Sx.up (fun _ kk => r_isub 52 dX12_without_51 rfl kk) ?_
  rw [show nI L - 1 = nI (L - 1) by rw [show L = L - 1 + 1 by omega, nI_pred]; rfl]
  refine Sx.up (fun _ kk => r_putI 55 dX12_without_52 rfl f12_341 rfl lt95 kk) ?_
  refine Sx.up (fun _ kk => r_iload_n 56 dX12_without_55 rfl rfl kk) ?_
  refine Sx.up (fun _ kk => r_istore 58 dX12_without_56 rfl (by decide) rfl kk) ?_
  exact loop
  · intro E4 ⟨f4, hmany, hrow⟩
    have hM4 := mf_mo f4 hM3
    refine Sx.up (fun _ kk => r_iload 60 dX12_without_58 rfl rfl kk) ?_
    refine Sx.up (fun _ kk => r_aload_n 61 dX12_without_60 rfl rfl kk) ?_
    refine Sx.up (fun _ kk => r_getIV (nI (L - 1)) 64 dX12_without_61 rfl f12_341 rfl rfl lt95 (hmany) kk) ?_
    refine Sx.up (fun _ kk => r_icmp_ge 67 89 dX12_without_64 rfl (by decide) (fun _ => kk) (fun h64 => absurd (nI_le (Nat.le_refl _) (by omega)) h64)) ?_
    refine fin E4 f4 hmany (fun j hj => ?_) _ _
    rw [hrow j (by omega)]
    by_cases h9 : j < k
    · rw [if_pos h9, if_pos h9]
    · rw [if_neg h9, if_neg h9, if_pos hj]
  · intro k9 E4 hk0 hk9 ⟨f4, hmany, hrow⟩ hq9
    have hM4 := mf_mo f4 hM3
    have hnx : gA E4 113 (k9 + 1) = cO c (k9 + 1) := by
      rw [hrow (k9 + 1) (by omega), if_neg (by omega), if_neg (by omega)]
    refine Sx.up (fun _ kk => r_iload 60 dX12_without_58 rfl rfl kk) ?_
    refine Sx.up (fun _ kk => r_aload_n 61 dX12_without_60 rfl rfl kk) ?_
    refine Sx.up (fun _ kk => r_getIV (nI (L - 1)) 64 dX12_without_61 rfl f12_341 rfl rfl lt95 (hmany) kk) ?_
    refine Sx.up (fun _ kk => r_icmp_ge 67 89 dX12_without_64 rfl (by decide) (fun h64 => absurd h64 (nI_ge hk9 (by omega))) (fun _ => kk)) ?_
    refine Sx.up (fun _ kk => r_aload_n 68 dX12_without_67 rfl rfl kk) ?_
    refine Sx.up (fun _ kk => r_getR 71 dX12_without_68 rfl f12_90 rfl rfl lt95 (mo_34 hM4) kk) ?_
    refine Sx.up (fun _ kk => r_iload 73 dX12_without_71 rfl rfl kk) ?_
    refine Sx.up (fun _ kk => r_aload_n 74 dX12_without_73 rfl rfl kk) ?_
    refine Sx.up (fun _ kk => r_getR 77 dX12_without_74 rfl f12_90 rfl rfl lt95 (mo_34 hM4) kk) ?_
    refine Sx.up (fun _ kk => r_iload 79 dX12_without_77 rfl rfl kk) ?_
    refine Sx.up (fun _ kk => r_iconst (1) 80 dX12_without_79 rfl (by decide) kk) ?_
    refine Sx.up (fun _ kk => r_iadd 81 dX12_without_80 rfl kk) ?_
    refine Sx.up (fun _ kk => r_ialdN (k9 + 1) (cO c (k9 + 1)) 82 dX12_without_81 rfl rfl (Nat.le_of_ble_eq_true rfl) (nI_pp _) (by omega) (Nat.le_of_ble_eq_true rfl) (hnx) kk) ?_
    refine Sx.up (fun _ kk => r_iastN (k9) 83 dX12_without_82 rfl rfl (Nat.le_of_ble_eq_true rfl) (rfl) (by omega) (Nat.le_of_ble_eq_true rfl) kk) ?_
    refine Sx.up (fun _ kk => r_iinc (1) 86 dX12_without_83 rfl rfl (by decide) (by decide) rfl kk) ?_
    refine Sx.up (fun _ kk => r_goto 58 dX12_without_86 (by decide) kk) ?_
    rw [nI_pp]
    refine hq9 _ ⟨mf_sA (by decide) f4, hmany, fun j hj => ?_⟩
    rw [gA_sA]
    by_cases hjk : j = k9
    · subst hjk
      rw [if_pos ⟨rfl, rfl⟩, if_neg (by omega), if_pos (by omega)]
    · rw [if_neg (fun z => hjk z.2), hrow j hj]
      by_cases h9 : j < k
      · rw [if_pos h9, if_pos h9]
      · rw [if_neg h9, if_neg h9]
        by_cases h8 : j < k9
        · rw [if_pos h8, if_pos (by omega)]
        · rw [if_neg h8, if_neg (by omega)]
set_option maxRecDepth 20000 in
theorem m_withoutX {d L m : Nat} {sl : Nat → Nat → Int32} {aw : Int32} {R : List Int32} {c : Cfg} {fr : Int32} {E : HP} {x : Int32} (h : MD E L m sl aw R c fr) (hx : ¬ inB x (nI L)) : ∃ E2, AQ E E2 1 ∧ Cl yX12_without mX12_without (d + 8) 0 0 [.ref 95, .int (x)] E 137 (.inl (some (.int 0)), E2, 137) := by
  obtain ⟨hM, hL, ⟨cok, csu⟩, hoc, h62, h63, h64, h65, hsy, hsl, ⟨m1, m6, hm⟩, -⟩ := id h
  have l7 : L ≤ 7 := cok.2.1
  have hM0 : MoOK (sI E 1538 95 0) := hM
  have hL0 : gA (sI E 1538 95 0) 98 0 = nI L := hL
  have his := c_isSl (d := d + 6) (E := sI E 1538 95 0) (x := x) hM0 hL0 l7
  rw [b01_f hx] at his
  refine ⟨_, mq_fail (x := 0), ?_⟩
  refine Cl.of (by decide) rfl (fun q => by cases q) rfl rfl (Nat.le_of_ble_eq_true rfl) ?_
  show Sm _ _ _ _ _ 0 [some (.ref 95), some (.int (x)), none, none, none] [] _ _
  refine r_aload_n 1 dX12_without_0 rfl rfl ?_
  refine r_iconst (0) 2 dX12_without_1 rfl (by decide) ?_
  refine r_putI 5 dX12_without_2 rfl f12_159 rfl lt95 ?_
  refine r_aload_n 6 dX12_without_5 rfl rfl ?_
  refine r_iload_n 7 dX12_without_6 rfl rfl ?_
  refine r_callV (M := mX12_without) (pc := 7) 10 dX12_without_7 rfl k12_420 his rfl rfl rfl (by decide) rfl lt95 (Nat.le_of_ble_eq_true rfl) ?_
  refine r_if_ne 13 19 dX12_without_10 rfl (by decide) (fun h10 => absurd h10 (fun z => z rfl)) (fun h10 => ?_)
  refine r_aload_n 14 dX12_without_13 rfl rfl ?_
  refine r_iconst (1) 15 dX12_without_14 rfl (by decide) ?_
  refine r_callV (M := mX12_without) (pc := 15) 18 dX12_without_15 rfl k12_302 c_fail rfl rfl rfl (by decide) rfl lt95 (Nat.le_of_ble_eq_true rfl) ?_
  exact r_iret dX12_without_18 rfl rfl (rfl)
