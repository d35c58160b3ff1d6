/-! The questions -/
theorem l7_of {E : HP} {b L m k S t : Nat} {R : List Int32} (h : RelN E b L m R k S t) : L ≤ 7 ∧ 1 ≤ m ∧ m ≤ 600 := ⟨h.1.1.2.2.2.1, h.1.2.2.1.1, h.1.2.2.1.2.1⟩
theorem fa_eq {E : HP} {b L m : Nat} {R : List Int32} : ∀ n, faF E b L m R n = faM L m (slC E b) (gI E 8 b) R (cfgP E 46) (gI E 519 46) n := by
  intro n
  induction n with
  | zero => rfl
  | succ n ih =>
    funext s
    unfold faF faM
    rw [ih]
    rfl
theorem o_night {E : HP} {b L m k S t : Nat} {R : List Int32} {x w q : Int32}  (h : RelN E b L m R k S t) (hk : KpR E L) : OpT false yX11_night mX11_night yX12_night mX12_night [.int x] E := by
  have ci := (ci_of h).1
  obtain ⟨l7, m1, m6⟩ := l7_of h
  by_cases hx : inB x 4
  · obtain ⟨E2, f, hcl⟩ := c_X11_night (d := 52) ci hx
    refine op_val h hk (by decide) (by decide) hcl f fun Ex fK hMD hR hKp h4 => ?_
    obtain ⟨E3, a3, hm⟩ := m_nightQ (d := 52) hMD hx
    refine ⟨E3, a3, ?_⟩
    have e : ansN (vNow E b L R) m L x = (if x = 0 then nI (nG (nightF (vNow E b L R) m)).length else if x = 1 then nS (nightF (vNow E b L R) m) 2 else if x = 2 then quF (vNow E b L R) m else worM (byS (vNow E b L R) (nightF (vNow E b L R) m) 3) L) := by
      unfold ansN
      rw [wor_1 l7 (fun i _ => by obtain ⟨a, ha, e⟩ := wk_one (V := vNow E b L R) (s := i) l7 m6; exact ⟨a, by omega, e⟩)]
    rw [e]
    exact hm
  · exact op_nse h hk (x_night (d := 52) ci hx) qf_rfl fun Ex hMD _ _ => m_nightX (d := 52) hMD hx
theorem o_woken {E : HP} {b L m k S t : Nat} {R : List Int32} {x w q : Int32}  (h : RelN E b L m R k S t) (hk : KpR E L) : OpT false yX11_woken mX11_woken yX12_woken mX12_woken [.int x, .int w] E := by
  have ci := (ci_of h).1
  obtain ⟨l7, m1, m6⟩ := l7_of h
  by_cases hx : inB x (nI L)
  rotate_left
  · exact op_nse h hk (x_woken1 (d := 52) (s := 0) ci hx) qf_rfl fun Ex hMD _ _ => m_woken1 (d := 52) (y := 0) hMD hx
  obtain ⟨s, hs, rfl⟩ := inB_nI hx (by omega)
  by_cases hw : inB w 2
  · obtain ⟨E2, f, hcl⟩ := c_X11_woken (d := 52) ci hs hw
    refine op_val h hk (by decide) (by decide) hcl f fun Ex fK hMD hR hKp h4 => ?_
    exact m_woken (d := 52) hMD hs hw
  · exact op_nse h hk (x_woken2 (d := 52) ci hs hw) qf_rfl fun Ex hMD _ _ => m_woken2 (d := 52) (y := 0) hMD hs hw
theorem o_lies {E : HP} {b L m k S t : Nat} {R : List Int32} {x w q : Int32}  (h : RelN E b L m R k S t) (hk : KpR E L) : OpT true yX11_lies mX11_lies yX12_lies mX12_lies [.int x, .int q, .int w] E := by
  have ci := (ci_of h).1
  obtain ⟨l7, m1, m6⟩ := l7_of h
  by_cases hx : inB x (nI L)
  rotate_left
  · exact op_nse h hk (x_lies1 (d := 52) (s := 0) ci hx) qf_rfl fun Ex hMD _ _ => m_lies1 (d := 52) hMD hx
  obtain ⟨s, hs, rfl⟩ := inB_nI hx (by omega)
  by_cases hw : inB w 2
  rotate_left
  · exact op_nse h hk (x_lies2 (d := 52) ci hs hw) qf_rfl fun Ex hMD _ _ => m_lies2 (d := 52) hMD hs hw
  by_cases hq : inC q (nI m)
  rotate_left
  · exact op_iae h hk (x_lies3 (d := 52) ci hs hw hq) qf_rfl fun Ex hMD _ _ => m_lies3 (d := 52) hMD hs hw hq
  obtain ⟨q9, hq9, rfl⟩ := inC_nI hq (by omega)
  obtain ⟨E2, f, hcl⟩ := c_X11_lies (d := 52) ci hs hw hq9
  refine op_val h hk (by decide) (by decide) hcl f fun Ex fK hMD hR hKp h4 => ?_
  exact m_lies (d := 52) hMD hs hw hq9
theorem o_turn {E : HP} {b L m k S t : Nat} {R : List Int32} {x w q : Int32}  (h : RelN E b L m R k S t) (hk : KpR E L) : OpT false yX11_turn mX11_turn yX12_turn mX12_turn [.int x, .int w] E := by
  have ci := (ci_of h).1
  obtain ⟨l7, m1, m6⟩ := l7_of h
  obtain ⟨n, hn⟩ : ∃ n, (nG (nightF (vNow E b L R) m)).length = n := ⟨_, rfl⟩
  by_cases hw : inB w 4
  rotate_left
  · by_cases hx : inB x 1200
    · obtain ⟨i, hi, rfl⟩ := inB_nI (l := 1200) hx (by decide)
      exact op_nse h hk (x_turn2 (d := 52) ci hi hw) qf_rfl fun Ex hMD _ _ => m_turnX1 (d := 52) hMD hw
    · exact op_nse h hk (x_turn1 (d := 52) ci hx) qf_rfl fun Ex hMD _ _ => m_turnX1 (d := 52) hMD hw
  by_cases hx : inB x 1200
  rotate_left
  · refine op_nse h hk (x_turn1 (d := 52) ci hx) qf_rfl fun Ex hMD _ _ => m_turnX2 (d := 52) hMD hw (fun z => hx ?_)
    exact ⟨z.1, Int32.lt_of_lt_of_le z.2 (nI_le (b := 1200) (Nat.min_le_right _ _) (by omega))⟩
  obtain ⟨i, hi, rfl⟩ := inB_nI (l := 1200) hx (by decide)
  obtain ⟨j, hj, rfl⟩ := inB_nI (l := 4) hw (by decide)
  by_cases hi2 : i < n
  · obtain ⟨e, he⟩ : ∃ e, (nG (nightF (vNow E b L R) m))[i]? = some e := ⟨_, List.getElem?_eq_getElem (by omega)⟩
    obtain ⟨E2, f, hcl⟩ := c_X11_turn (d := 52) ci hi hj he
    refine op_val h hk (by decide) (by decide) hcl f fun Ex fK hMD hR hKp h4 => ?_
    exact m_turn (d := 52) hMD hi hj he
  · obtain ⟨E2, f, hcl⟩ := x_turn3 (d := 52) ci hi hj (by omega)
    refine op_nse h hk hcl f fun Ex hMD _ _ => m_turnX2 (d := 52) hMD hw (fun z => ?_)
    obtain ⟨i2, hi3, e⟩ := inB_nI z (by omega)
    have e := (nI_eq (by omega) (by omega)).mp e
    have hm9 : i2 < min (nG (nightF (vNow E b L R) m)).length 1200 := hi3
    rw [hn] at hm9
    omega
theorem o_every {E : HP} {b L m k S t : Nat} {R : List Int32} {x w q : Int32}  (h : RelN E b L m R k S t) (hk : KpR E L) : OpT true yX11_every mX11_every yX12_every mX12_every [.int x, .int w] E := by
  have ci := (ci_of h).1
  obtain ⟨l7, m1, m6⟩ := l7_of h
  by_cases hx : inB x (nI L)
  rotate_left
  · exact op_nse h hk (x_every1 (d := 52) (s := 0) ci hx) qf_rfl fun Ex hMD _ _ => m_every1 (d := 52) hMD hx
  obtain ⟨s, hs, rfl⟩ := inB_nI hx (by omega)
  by_cases hw : inB w 2
  rotate_left
  · exact op_nse h hk (x_every2 (d := 52) ci hs hw) qf_rfl fun Ex hMD _ _ => m_every2 (d := 52) hMD hs hw
  by_cases h3 : slC E b 1 s = 3
  · exact op_iae h hk (x_every3 (d := 52) ci hs hw h3) qf_rfl fun Ex hMD _ _ => m_every3 (d := 52) hMD hs hw h3
  obtain ⟨_, ⟨E2, rfl, f⟩, hcl⟩ := c_X11_every (d := 52) ci hs hw h3
  refine op_val h hk (by decide) (by decide) hcl f fun Ex fK hMD hR hKp h4 => ?_
  obtain ⟨_, ⟨E3, rfl, a3⟩, hm⟩ := m_every (d := 52) hMD hs hw h3
  refine ⟨E3, a3, ?_⟩
  rw [bes_eq 240] at hm
  exact hm
theorem o_bolsters {E : HP} {b L m k S t : Nat} {R : List Int32} {x w q : Int32}  (h : RelN E b L m R k S t) (hk : KpR E L) : OpT false yX11_bolsters mX11_bolsters yX12_bolsters mX12_bolsters [.int w] E := by
  have ci := (ci_of h).1
  obtain ⟨l7, m1, m6⟩ := l7_of h
  by_cases hw : inB w 2
  rotate_left
  · exact op_nse h hk (x_bolsters (d := 52) ci hw) qf_rfl fun Ex hMD _ _ => m_bolstersX (d := 52) hMD hw
  obtain ⟨_, ⟨E2, rfl, f⟩, hcl⟩ := c_X11_bolsters (d := 52) ci hw
  refine op_val h hk (by decide) (by decide) hcl f fun Ex fK hMD hR hKp h4 => ?_
  obtain ⟨_, ⟨E3, rfl, a3⟩, hm⟩ := m_bolsters (d := 52) hMD hw
  refine ⟨E3, a3, ?_⟩
  obtain ⟨k9, hk9⟩ : ∃ k9, 2 ^ (L - 1) = k9 + 1 := ⟨2 ^ (L - 1) - 1, by have := Nat.one_le_two_pow (n := L - 1); omega⟩
  rw [hk9] at hm ⊢
  rw [bol_z (z := 0) (z2 := -1)] at hm
  exact hm
theorem o_free {E : HP} {b L m k S t : Nat} {R : List Int32} {x w q : Int32}  (h : RelN E b L m R k S t) (hk : KpR E L) : OpT false yX11_free mX11_free yX12_free mX12_free [.int x] E := by
  have ci := (ci_of h).1
  obtain ⟨l7, m1, m6⟩ := l7_of h
  by_cases hx : inB x (nI L)
  rotate_left
  · exact op_nse h hk (x_free (d := 52) (s := 0) ci hx) qf_rfl fun Ex hMD _ _ => m_freeX (d := 52) hMD hx
  obtain ⟨s, hs, rfl⟩ := inB_nI hx (by omega)
  obtain ⟨E2, f, hcl⟩ := c_X11_free (d := 52) ci hs
  refine op_val h hk (by decide) (by decide) hcl f fun Ex fK hMD hR hKp h4 => ?_
  exact m_free (d := 52) hMD hs
theorem o_outs {E : HP} {b L m k S t : Nat} {R : List Int32} {x w q : Int32}  (h : RelN E b L m R k S t) (hk : KpR E L) : OpT false yX11_outs mX11_outs yX12_outs mX12_outs [.int w] E := by
  have ci := (ci_of h).1
  obtain ⟨l7, m1, m6⟩ := l7_of h
  by_cases hw : inB w 2
  rotate_left
  · exact op_nse h hk (x_outs (d := 52) ci hw) qf_rfl fun Ex hMD _ _ => m_outsX (d := 52) hMD hw
  have ht : ∀ s, s < L → ∃ a, a ≤ 10 ∧ slC E b 7 s = nI a := fun s hs => (h.1.2.2.2.2.2 s hs).2.2.2.2.2.2.2.2.2
  have hcl := c_X11_outs (d := 52) ci hw
  have f : QF b E E := qf_rfl
  refine op_val h hk (by decide) (by decide) hcl f fun Ex fK hMD hR hKp h4 => ?_
  exact m_outs (d := 52) hMD hw ht
theorem o_fair {E : HP} {b L m k S t : Nat} {R : List Int32} {x w q : Int32}  (h : RelN E b L m R k S t) (hk : KpR E L) : OpT true yX11_fair mX11_fair yX12_fair mX12_fair [.int x, .int q] E := by
  have ci := (ci_of h).1
  obtain ⟨l7, m1, m6⟩ := l7_of h
  by_cases h1 : q = -1
  · subst h1
    by_cases hx : inC x 30
    · obtain ⟨n, hn, rfl⟩ := inC_nI (l := 30) hx (by decide)
      obtain ⟨_, ⟨E2, rfl, f⟩, hcl⟩ := c_X11_fairA (d := 52) (s := 0) ci hn
      refine op_val h hk (by decide) (by decide) hcl f fun Ex fK hMD hR hKp h4 => ?_
      obtain ⟨_, ⟨E3, rfl, a3⟩, hm⟩ := m_fairA (d := 52) (s := 0) hMD hn
      refine ⟨E3, a3, ?_⟩
      rw [fa_eq, apa_eq L (fun i _ => by obtain ⟨a, ha, e⟩ := fa_bd (L := L) (m := m) (sl := slC E b) (aw := gI E 8 b) (R := R) (c := cfgP E 46) (fr := gI E 519 46) l7 m6 n i; exact ⟨a, by omega, e⟩)]
      exact hm
    · exact op_iae h hk (x_fair3 (d := 52) ci hx) qf_rfl fun Ex hMD _ _ => m_fair3 (d := 52) hMD hx
  by_cases hq : inB q (nI L)
  rotate_left
  · exact op_nse h hk (x_fair1 (d := 52) ci h1 hq) qf_rfl fun Ex hMD _ _ => m_fair1 (d := 52) hMD h1 hq
  obtain ⟨s, hs, rfl⟩ := inB_nI hq (by omega)
  by_cases hx : inC x 30
  · obtain ⟨n, hn, rfl⟩ := inC_nI (l := 30) hx (by decide)
    obtain ⟨_, ⟨E2, rfl, f⟩, hcl⟩ := c_X11_fair (d := 52) ci hn hs
    refine op_val h hk (by decide) (by decide) hcl f fun Ex fK hMD hR hKp h4 => ?_
    obtain ⟨_, ⟨E3, rfl, a3⟩, hm⟩ := m_fair (d := 52) hMD hn hs
    refine ⟨E3, a3, ?_⟩
    rw [fa_eq]
    exact hm
  · exact op_iae h hk (x_fair2 (d := 52) ci hs hx) qf_rfl fun Ex hMD _ _ => m_fair2 (d := 52) hMD hs hx
theorem o_fits {E : HP} {b L m k S t : Nat} {R : List Int32} {x w q : Int32}  (h : RelN E b L m R k S t) (hk : KpR E L) : OpT false yX11_fits mX11_fits yX12_fits mX12_fits [.int w] E := by
  have ci := (ci_of h).1
  obtain ⟨l7, m1, m6⟩ := l7_of h
  by_cases hw : inB w 2
  rotate_left
  · exact op_nse h hk (x_fits (d := 51) ci hw) qf_rfl fun Ex hMD _ _ => m_fitsX (d := 51) hMD hw
  have hsa : cS (cfgP E 46) = -1 ∨ ∃ s, s < L ∧ cS (cfgP E 46) = nI s := by
    have o6 := h.2.1.2.2.2.2.2.1.2.2.2.2.2.1
    have e : pcF E 46 15 = pkF E 15 := h.2.1.2.2.1 15 ⟨by decide, by omega⟩
    rw [← e] at o6
    exact o6
  obtain ⟨_, ⟨E2, rfl, f⟩, hcl⟩ := c_X11_fits (d := 51) ci hw (seen_c l7 h.2.1) hsa
  refine op_val h hk (by decide) (by decide) hcl f fun Ex fK hMD hR hKp h4 => ?_
  have sm := seen_m l7 hR.2.1
  rw [fK.2.2.2.2.2.2 127 (by decide) (by decide), fK.2.2.2.2.2.2 128 (by decide) (by decide), fK.2.2.2.2.2.2 129 (by decide) (by decide)] at sm
  obtain ⟨_, ⟨E3, rfl, a3⟩, hm⟩ := m_fits (d := 51) hMD hw sm hsa
  exact ⟨E3, a3, hm⟩
theorem o_without {E : HP} {b L m k S t : Nat} {R : List Int32} {x w q : Int32}  (h : RelN E b L m R k S t) (hk : KpR E L) : OpT false yX11_without mX11_without yX12_without mX12_without [.int x] E := by
  have ci := (ci_of h).1
  obtain ⟨l7, m1, m6⟩ := l7_of h
  by_cases hx : inB x (nI L)
  rotate_left
  · exact op_nse h hk (x_without (d := 52) (s := 0) ci hx) qf_rfl fun Ex hMD _ _ => m_withoutX (d := 52) hMD hx
  obtain ⟨s, hs, rfl⟩ := inB_nI hx (by omega)
  obtain ⟨E2, f, hcl⟩ := c_X11_without (d := 52) ci hs
  refine op_val h hk (by decide) (by decide) hcl f fun Ex fK hMD hR hKp h4 => ?_
  obtain ⟨_, ⟨E3, rfl, a3⟩, hm⟩ := m_without (d := 52) hMD hs
  refine ⟨E3, a3, ?_⟩
  have e98 : gA Ex 98 = gA E 98 := fK.2.2.2.2.2.2 98 (by decide) (by decide)
  have ew := h.1.2.2.2.1
  have e := free_but (b := b) (wd := gA E 98 1) (ro := gA E 98 2) (rel_td h).1.1 (ci_of h).2 hs ew.1 ew.2.1
  rw [e98, ← e] at hm
  exact hm
theorem o_year {E : HP} {b L m k S t : Nat} {R : List Int32} {x w q : Int32}  (h : RelN E b L m R k S t) (hk : KpR E L) : OpT true yX11_year mX11_year yX12_year mX12_year [.int x, .int q, .int w] E := by
  have ci := (ci_of h).1
  obtain ⟨l7, m1, m6⟩ := l7_of h
  by_cases hw : inB w 3
  rotate_left
  · exact op_nse h hk (x_year1 (d := 52) ci hw) qf_rfl fun Ex hMD _ _ => m_year1 (d := 52) hMD hw
  by_cases hq : inC q 40
  rotate_left
  · exact op_iae h hk (x_year2 (d := 52) ci hw hq) qf_rfl fun Ex hMD _ _ => m_year2 (d := 52) hMD hw hq
  obtain ⟨n, hn, rfl⟩ := inC_nI (l := 40) hq (by decide)
  have hdog : ∀ s, s < L → slC E b 1 s = 3 → cU (cfgP E 46) s = 0 := fun s hs h3 => by
    have o9 := (h.2.1.2.2.2.2.2.1.2.2.2.2.2.2.2 s hs).2 h3
    have e : pcF E 46 (7 + s) = pkF E (7 + s) := h.2.1.2.2.1 (7 + s) ⟨by omega, by omega⟩
    rw [← e] at o9
    unfold pcF at o9
    rw [if_neg (by omega), if_pos (by omega), show 7 + s - 7 = s by omega] at o9
    exact o9
  obtain ⟨_, ⟨E2, rfl, f⟩, hcl⟩ := c_X11_year (d := 52) (x := x) ci hw hn
  refine op_val h hk (by decide) (by decide) hcl f fun Ex fK hMD hR hKp h4 => ?_
  obtain ⟨_, ⟨E3, rfl, a3⟩, hm⟩ := m_year (d := 52) (x := x) hMD hw hn hdog
  exact ⟨E3, a3, hm⟩
theorem o_kept {E : HP} {b L m k S t : Nat} {R : List Int32} {x w q : Int32} (h : RelN E b L m R k S t) (hk : KpR E L) : OpT false yX11_kept mX11_kept yX12_kept mX12_kept [.int x] E := by
  have ci := (ci_of h).1
  obtain ⟨l7, m1, m6⟩ := l7_of h
  rcases id hk with ⟨k1, k2⟩ | ⟨k1, k2, l, hl⟩
  · have hcl := x_kept (d := 52) (x := x) (y := -1) ci k1 (fun z => absurd (Int32.lt_trans z.2 (show (-1 : Int32) < 0 by decide)) z.1)
    obtain ⟨E3, a3, hm⟩ := m_keptX2 (d := 52) (x := x) (md_of h) k2
    exact Or.inr (Or.inl ⟨E, hcl, 0, E3, hm, a3.2, b, L, m, R, k, S, t, rel_aq h a3, kp_aq hk a3⟩)
  · by_cases hx : inB x (nI L)
    · obtain ⟨s, hs, rfl⟩ := inB_nI hx (by omega)
      have hcl := c_X11_kept (d := 52) ci k1 hs l7
      rw [(hl s hs).1] at hcl
      refine op_val h hk (by decide) (by decide) hcl qf_rfl fun Ex fK hMD hR hKp h4 => ?_
      exact m_kept (d := 52) (l := l) hMD hs (h4.2.2.1.trans k2) (by rw [h4.2.2.2]; exact (hl s hs).2)
    · exact op_nse h hk (x_kept (d := 52) ci k1 hx) qf_rfl fun Ex hMD _ _ => m_keptX1 (d := 52) hMD hx
theorem cnt_tie {E : HP} {b L m k S t j : Nat} {R : List Int32} (h : RelN E b L m R k S t) (hj : j < 17) : cntM E (gI E 519 46) j = cntV E b j := by
  obtain ⟨⟨-, ⟨a1, a2⟩, ⟨-, -, a3, a4⟩, ⟨a5, a6, a7, a8, -⟩, -⟩, ⟨n1, n2, n3, ⟨n4, -, n5⟩, ⟨n6, -, n7⟩, n8⟩, -, ⟨-, t1, t2, -⟩, -⟩ := h
  have st := n8.2.2.2
  have p14 : gI E 515 46 = gI E 1562 95 := n3 14 ⟨by decide, by omega⟩
  have p15 : gI E 516 46 = gI E 1563 95 := n3 15 ⟨by decide, by omega⟩
  have p16 : gI E 517 46 = gI E 1564 95 := n3 16 ⟨by decide, by omega⟩
  have p17 : gI E 518 46 = gI E 1565 95 := n3 17 ⟨by decide, by omega⟩
  match j, hj with
  | 0, _ => exact a2.trans a1.symm
  | 1, _ => exact a5.symm
  | 2, _ => exact a6.symm
  | 3, _ => exact a4.trans a3.symm
  | 4, _ => exact a8.symm
  | 5, _ => exact p17.symm
  | 6, _ => exact a7.symm
  | 7, _ => exact p14.symm
  | 8, _ => exact p15.symm
  | 9, _ => exact p16.symm
  | 10, _ => rfl
  | 11, _ => exact n5.trans n4.symm
  | 12, _ => exact n7.trans n6.symm
  | 13, _ => exact t2.trans t1.symm
  | 14, _ => exact (st 0 (by decide)).symm
  | 15, _ => exact (st 1 (by decide)).symm
  | 16, _ => exact (st 2 (by decide)).symm
  | n + 17, z => exact absurd z (by omega)
theorem cnt_K {E E2 : HP} {b j : Nat} (f : FrK b E E2) : cntV E2 b j = cntV E b j := by
  have hb := f.1.1
  have fi : ∀ k, ((0 < k ∧ k < 74 ∧ k ≠ b + 9 ∧ k ≠ b + 11) ∨ k = 87) → ∀ g, gI E2 g k = gI E g k := fun k z => (f.2.2.2.2.1 k z).1
  have fa : ∀ k, ((0 < k ∧ k < 74 ∧ k ≠ b + 9 ∧ k ≠ b + 11) ∨ k = 87) → gA E2 k = gA E k := fun k z => (f.2.2.2.2.1 k z).2
  unfold cntV
  simp only [fi b (by omega), fi 46 (by omega), fi 51 (by omega), fi 54 (by omega), fa 58 (by omega), f.2.2.2.1 1409 (by decide)]
theorem o_count {E : HP} {b L m k S t : Nat} {R : List Int32} {x w q : Int32}  (h : RelN E b L m R k S t) (hk : KpR E L) : OpT false yX11_count mX11_count yX12_count mX12_count [.int x] E := by
  have ci := (ci_of h).1
  obtain ⟨l7, m1, m6⟩ := l7_of h
  by_cases hx : inB x 17
  rotate_left
  · exact op_nse h hk (x_count (d := 52) ci hx) qf_rfl fun Ex hMD hR _ => m_countX (d := 52) (rel_td hR).2.1 hx
  obtain ⟨j, hj, rfl⟩ := inB_nI (l := 17) hx (by decide)
  have hcl := c_X11_count (d := 52) ci hj
  have f : QF b E E := qf_rfl
  refine op_val h hk (by decide) (by decide) hcl f fun Ex fK hMD hR hKp h4 => ?_
  obtain ⟨E3, a3, hm⟩ := m_count (d := 52) hMD ci.2.2.2.2.2.2.2.2 hj
  refine ⟨E3, a3, ?_⟩
  have e : cntM Ex (gI E 519 46) j = cntV E b j := by
    rw [← (frk_vals fK).2.2.2, cnt_tie hR hj, cnt_K fK]
  rw [e] at hm
  exact hm
theorem sle_tie {E : HP} {b L m k S t j s p : Nat} {R : List Int32} (h : RelN E b L m R k S t) (hs : s < L) (hj : j < 9) : sleM (slC E b) E s p j = sleV E b s p j := by
  have l7 := (l7_of h).1
  have e5 : gA E 103 s = gA E 50 s := by
    have e : pcF E 46 (7 + s) = pkF E (7 + s) := h.2.1.2.2.1 (7 + s) ⟨by omega, by omega⟩
    unfold pcF pkF at e
    rw [if_neg (by omega), if_pos (by omega), if_neg (by omega), if_pos (by omega), show 7 + s - 7 = s by omega] at e
    exact e.symm
  have e8 := (h.1.2.2.2.2.2 s hs).2.2.2.2.2.2.1
  match j, hj with
  | 0, _ => rfl
  | 1, _ => rfl
  | 2, _ => rfl
  | 3, _ => rfl
  | 4, _ => rfl
  | 5, _ => exact e5
  | 6, _ => rfl
  | 7, _ => rfl
  | 8, _ => exact e8.symm
  | n + 9, z => exact absurd z (by omega)
theorem sle_K {E E2 : HP} {b s p j : Nat} (f : FrK b E E2) : sleV E2 b s p j = sleV E b s p j := by
  have hb := f.1.1
  have fa : ∀ k, ((0 < k ∧ k < 74 ∧ k ≠ b + 9 ∧ k ≠ b + 11) ∨ k = 87) → gA E2 k = gA E k := fun k z => (f.2.2.2.2.1 k z).2
  unfold sleV
  simp only [(frk_vals f).1, fa 50 (by omega), fa (b + 4) (by omega)]
theorem o_sleeper {E : HP} {b L m k S t : Nat} {R : List Int32} {x w q : Int32}  (h : RelN E b L m R k S t) (hk : KpR E L) : OpT false yX11_sleeper mX11_sleeper yX12_sleeper mX12_sleeper [.int x, .int w] E := by
  have ci := (ci_of h).1
  obtain ⟨l7, m1, m6⟩ := l7_of h
  by_cases hx : inB x (nI L)
  rotate_left
  · exact op_nse h hk (x_sleeper1 (d := 52) (s := 0) ci hx) qf_rfl fun Ex hMD _ _ => m_sleeper1 (d := 52) hMD hx
  obtain ⟨s, hs, rfl⟩ := inB_nI hx (by omega)
  by_cases hw : inB w 9
  rotate_left
  · exact op_nse h hk (x_sleeper2 (d := 52) ci hs hw) qf_rfl fun Ex hMD _ _ => m_sleeper2 (d := 52) hMD hs hw
  obtain ⟨j, hj, rfl⟩ := inB_nI (l := 9) hw (by decide)
  have hcl := c_X11_sleeper (d := 52) ci hs hj
  have f : QF b E E := qf_rfl
  refine op_val h hk (by decide) (by decide) hcl f fun Ex fK hMD hR hKp h4 => ?_
  obtain ⟨E3, a3, hm⟩ := m_sleeper (d := 52) hMD hs hj
  refine ⟨E3, a3, ?_⟩
  have e := sle_tie (p := plcF (cO (cfgP E 46)) (nI s) L) hR hs hj
  rw [(frk_vals fK).1, sle_K fK] at e
  rw [e] at hm
  exact hm
theorem o_fault {E : HP} {b L m k S t : Nat} {R : List Int32} (h : RelN E b L m R k S t) (hk : KpR E L) : OpP yX11_fault mX11_fault yX12_fault mX12_fault [] E := by
  have ci := (ci_of h).1
  have hcl := c_X11_fault (d := 52) ci
  have hm := m_fault (d := 52) (rel_td h).2.1
  have e : gI E 1559 95 = gI E 1410 0 := h.2.2.2.2.symm
  rw [e] at hm
  have a3 : AQ E (sI E 1538 95 0) 0 := ⟨mf_sI (by decide) mf_rfl, by rw [gI_sI, if_pos ⟨rfl, rfl⟩]⟩
  exact ⟨_, E, 0, 0, by decide, by decide, hcl, _, hm, b, L, m, R, k, S, t, rel_aq h a3, kp_aq hk a3⟩
theorem kp_none {E E2 : HP} {b L : Nat} (hb : b = 3 ∨ b = 22) (h : KpR E L) (f : QO b E E2) (q : KeptIs E E2 L none) : KpR E2 L := by
  unfold KpR at *
  rw [q.1, q.2, fr_gI f.1 (k := 95) (qo_no hb (by omega)), fr_gA f.1 (k := 124) (qo_no hb (by omega))]
  exact h
theorem o_orders {E : HP} {b L m k S t : Nat} {R : List Int32} (h : RelN E b L m R k S t) (hk : KpR E L) : OpP yX11_orders mX11_orders yX12_orders mX12_orders [] E := by
  have ci := (ci_of h).1
  obtain ⟨l7, m1, m6⟩ := l7_of h
  by_cases h6 : L < 7
  · obtain ⟨_, ⟨E2, rfl, f, kp⟩, hcl⟩ := c_X11_orders (d := 52) ci h6
    have fK := frk_qo (rel_td h).1 (rel_td h).2.1 (rel_td h).2.2 f
    have r2 := rel_K h fK
    have k2 := kp_none (rel_td h).1.1 hk f kp
    obtain ⟨E3, a3, hm⟩ := m_orders (d := 45) (md_K h fK) h6
    have e105 : gA E2 105 = gA E 105 := fK.2.2.2.2.2.2 105 (by decide) (by decide)
    have er := rows_cg (so := 0) (ne := gA E (b + 4)) (ne2 := gA E2 105) h6 (by decide) (fun s hs => by rw [e105]; exact (h.1.2.2.2.2.2 s hs).2.2.2.2.2.2.1)
    have eo := (ord_tieA (ok := okN (gA E (b + 4)) 0) (w := fun _ => 0) (P := permL L) (fun l _ _ => by decide)).1
    rw [er, ← eo] at hm
    exact ⟨_, E2, 0, 0, by decide, by decide, hcl, E3, hm, b, L, m, R, k, S, t, rel_aq r2 a3, kp_aq k2 a3⟩
  · have e7 : L = 7 := by omega
    subst e7
    obtain ⟨E3, a3, hm⟩ := m_ordersX (d := 45) (md_of h)
    exact ⟨_, E, 0, 0, by decide, by decide, x_orders (d := 52) ci, E3, hm, b, 7, m, R, k, S, t, rel_aq h a3, kp_aq hk a3⟩
theorem kp_some {E E2 E3 : HP} {b L : Nat} {l : List Nat} (hb : b = 3 ∨ b = 22) (q : KeptIs E E2 L (some l)) (ko : KO E2 E3 L l) : KpR E3 L := by
  refine Or.inr ⟨(mf_gI2 ko.1 (by decide)).trans q.1, ko.2.2.1, l, fun i hi => ⟨?_, ko.2.2.2 i hi⟩⟩
  rw [mf_gA ko.1 (by decide)]
  exact q.2 i hi
theorem o_order {E : HP} {b L m k S t : Nat} {R : List Int32} (h : RelN E b L m R k S t) (hk : KpR E L) : OpP yX11_order mX11_order yX12_order mX12_order [] E := by
  have ci := (ci_of h).1
  obtain ⟨l7, m1, m6⟩ := l7_of h
  by_cases h6 : L < 7
  · obtain ⟨_, ⟨E2, rfl, f, kp⟩, hcl⟩ := c_X11_order (d := 52) ci h6
    have fK := frk_qo (rel_td h).1 (rel_td h).2.1 (rel_td h).2.2 f
    have r2 := rel_K h fK
    have e105 : gA E2 105 = gA E 105 := fK.2.2.2.2.2.2 105 (by decide) (by decide)
    have er := rows_cg (so := 1) (ne := gA E (b + 4)) (ne2 := gA E2 105) h6 (by decide) (fun s hs => by rw [e105]; exact (h.1.2.2.2.2.2 s hs).2.2.2.2.2.2.1)
    have eo := (ord_tieA (ok := okN (gA E (b + 4)) 0) (w := fun l => nS (nightF (vMk L (slC E b) (gI E 8 b) R (cOrd (cfgP E 46) l) (gI E 519 46)) m) 2) (P := permL L) (fun l _ _ => by obtain ⟨a, ha, e⟩ := wk_all (V := vMk L (slC E b) (gI E 8 b) R (cOrd (cfgP E 46) l) (gI E 519 46)) l7 m6; show ¬ nS _ 2 = -1; rw [e]; exact nI_no1 (by omega))).2
    rw [eo] at hcl kp
    by_cases hz : (permL L).filter (okN (gA E (b + 4)) 0) = []
    · rw [if_pos hz] at hcl kp
      have k2 := kp_none (rel_td h).1.1 hk f kp
      obtain ⟨E3, a3, hm⟩ := m_orderN (d := 45) (md_K h fK) h6 (er.trans hz)
      exact ⟨_, E2, 0, 0, by decide, by decide, hcl, E3, hm, b, L, m, R, k, S, t, rel_aq r2 a3, kp_aq k2 a3⟩
    · rw [if_neg hz] at hcl kp
      obtain ⟨E3, a3, hm⟩ := m_order (d := 45) (md_K h fK) h6 (fun y => hz (er.symm.trans y))
      rw [er] at a3 hm
      have ev : valO L m (slC E b) (gI E 8 b) R (cfgP E 46) (gI E 519 46) 1 = fun l => nS (nightF (vMk L (slC E b) (gI E 8 b) R (cOrd (cfgP E 46) l) (gI E 519 46)) m) 2 := by
        funext l
        unfold valO
        rw [if_neg (by decide), if_pos rfl]
      rw [ev] at a3 hm
      exact ⟨_, E2, 0, 0, by decide, by decide, hcl, E3, hm, b, L, m, R, k, S, t, rel_mf r2 a3.1, kp_some (rel_td h).1.1 kp a3⟩
  · have e7 : L = 7 := by omega
    subst e7
    obtain ⟨E3, a3, hm⟩ := m_orderX (d := 45) (md_of h)
    exact ⟨_, E, 0, 0, by decide, by decide, x_order (d := 52) ci, E3, hm, b, 7, m, R, k, S, t, rel_aq h a3, kp_aq hk a3⟩
set_option maxHeartbeats 16000000 in
theorem o_edge {E : HP} {b L m k S t : Nat} {R : List Int32} (h : RelN E b L m R k S t) (hk : KpR E L) : OpP yX11_edge mX11_edge yX12_edge mX12_edge [] E := by
  have ci := (ci_of h).1
  obtain ⟨l7, m1, m6⟩ := l7_of h
  by_cases h6 : L < 7
  · obtain ⟨_, ⟨E2, rfl, f, kp⟩, hcl⟩ := c_X11_edge (d := 52) ci h6
    have fK := frk_qo (rel_td h).1 (rel_td h).2.1 (rel_td h).2.2 f
    have r2 := rel_K h fK
    have ht : ∀ s, s < L → ∃ a, a ≤ 10 ∧ slC E b 7 s = nI a := fun s hs => (h.1.2.2.2.2.2 s hs).2.2.2.2.2.2.2.2.2
    have eo := (ord_tieA (ok := fun _ => true) (w := fun l => twO (slC E b) (fun i => nI (gN l i)) L) (P := permL L) (fun l hl _ => by
      obtain ⟨u, hu, e⟩ := tw_le (sl := slC E b) (ord := fun i => nI (gN l i)) l7 (fun i hi => by
        have := (perm_ok h6 l hl).2.1 i hi
        show ∃ a, a ≤ 10 ∧ slC E b 7 (nI (gN l i)).toNatClampNeg = nI a
        rw [nI_clamp (by omega)]
        exact ht _ this)
      show ¬ twO (slC E b) (fun i => nI (gN l i)) L = -1
      rw [e]
      exact nI_no1 (by omega))).2
    rw [eo] at hcl kp
    have hz : ¬ (permL L).filter (fun _ => true) = [] := fun z => by
      have h0 := perm_0 h6
      have hmem := List.mem_of_getElem? h0
      have h1 : List.range L ∈ (permL L).filter (fun _ => true) := List.mem_filter.mpr ⟨hmem, rfl⟩
      rw [z] at h1
      exact absurd h1 List.not_mem_nil
    rw [if_neg hz] at hcl kp
    obtain ⟨E3, a3, hm⟩ := m_edge (d := 45) (md_K h fK) h6
    rw [rows_2] at a3 hm
    have ev : valO L m (slC E b) (gI E 8 b) R (cfgP E 46) (gI E 519 46) 2 = fun l => twO (slC E b) (fun i => nI (gN l i)) L := by
      funext l
      unfold valO
      rw [if_neg (by decide), if_neg (by decide)]
    rw [ev] at a3 hm
    exact ⟨_, E2, 0, 0, by decide, by decide, hcl, E3, hm, b, L, m, R, k, S, t, rel_mf r2 a3.1, kp_some (rel_td h).1.1 kp a3⟩
  · have e7 : L = 7 := by omega
    subst e7
    obtain ⟨E3, a3, hm⟩ := m_edgeX (d := 45) (md_of h)
    exact ⟨_, E, 0, 0, by decide, by decide, x_edge (d := 52) ci, E3, hm, b, 7, m, R, k, S, t, rel_aq h a3, kp_aq hk a3⟩
