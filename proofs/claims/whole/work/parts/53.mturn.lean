/-! The model: turnAll -/
theorem mlf_congr {E : HP} {V : NV} {f g : Nat → Nat → Int32} (h : MLF E V f) (e : ∀ k i, f k i = g k i) : MLF E V g := by
  have : f = g := funext fun k => funext fun i => e k i
  rw [← this]; exact h
theorem mlf_mf {E E2 : HP} {V : NV} {f : Nat → Nat → Int32} {gs as : List Nat} (h : MF gs as E E2) (a5 : 115 ∉ as) (a6 : 116 ∉ as) (a7 : 117 ∉ as) (a8 : 118 ∉ as) (a9 : 119 ∉ as) (hf : MLF E V f) : MLF E2 V f := by
  unfold MLF at *
  rw [mf_gA h a5, mf_gA h a6, mf_gA h a7, mf_gA h a8, mf_gA h a9]
  exact hf
theorem mlf_flip {E1 : HP} {V : NV} {f : Nat → Nat → Int32} {a k9 t : Nat} (hinj : ∀ p q, p < vL V → q < vL V → oV V p = oV V q → p = q) (hL : MLF E1 V (flipF V f a k9 t)) (hk0 : a ≤ k9) (hk9 : k9 < vL V) (ht : t ≤ 600) (h3 : ¬ vA V 1 k9 = 3) : MLF (sA (sA E1 115 (oV V k9) (1 - f 0 k9)) 116 (oV V k9) (nI t)) V (flipF V f a (k9 + 1) t) := by
  intro i hi
  obtain ⟨j1, j2, j3, j4, j5, j6, j7⟩ := hL i hi
  simp only [gA_sA, Nat.reduceEqDiff, false_and, if_false, true_and]
  simp only [flip_s hk0]
  by_cases hik : i = k9
  · subst hik
    rw [flip_at] at j1 j2 j3 j4 j5 j6 j7
    refine ⟨by simp [h3], ?_, by simp [h3], ⟨t, ht, by simp [h3]⟩, by simpa [h3, flip_at] using j5, by simpa [h3, flip_at] using j6, by simpa [h3, flip_at] using j7⟩
    rcases j2 with z | z <;> simp [h3, z]
  · have e1 : ¬ oV V i = oV V k9 := fun z => hik (hinj i k9 hi hk9 z)
    have e9 : (i = k9 ∧ ¬ vA V 1 k9 = 3) = False := by simp [hik]
    simp only [e1, e9, if_false]
    exact ⟨j1, j2, j3, j4, j5, j6, j7⟩
theorem mlf_wake {E1 : HP} {V : NV} {f : Nat → Nat → Int32} {k9 t : Nat} (hinj : ∀ p q, p < vL V → q < vL V → oV V p = oV V q → p = q) (hL : MLF E1 V f) (hk9 : k9 < vL V) (ht : t ≤ 600) (h0 : 0 < t) : MLF (mWake E1 (oV V k9) t) V (wokenF f (fun i => decide (i = k9)) t) := by
  intro i hi
  obtain ⟨j1, j2, j3, j4, j5, j6, j7⟩ := hL i hi
  unfold mWake wokenF
  simp only [gA_sA, Nat.reduceEqDiff, false_and, if_false, true_and, decide_eq_true_eq]
  by_cases hik : i = k9
  · subst hik
    simp only [if_true]
    refine ⟨by simpa using j1, by simpa using j2, by simpa using j3, by simpa using j4, Or.inr ⟨t, h0, ht, by simp, by simp⟩, by simp [j6], by simpa using j7⟩
  · have e1 : ¬ oV V i = oV V k9 := fun z => hik (hinj i k9 hi hk9 z)
    simp only [e1, hik, if_false]
    exact ⟨j1, j2, j3, j4, j5, j6, j7⟩
theorem sum_upd {f : Nat → Int32} {k : Nat} {v : Int32} : ∀ l, k < l → sumM (fun j => if j = k then v else f j) l = sumM f l + (v - f k) := by
  have hlo : ∀ l, l ≤ k → sumM (fun j => if j = k then v else f j) l = sumM f l := by
    intro l
    induction l with
    | zero => intro _; rfl
    | succ l ih =>
      intro h
      show sumM _ l + (if l = k then v else f l) = sumM f l + f l
      rw [ih (by omega), if_neg (by omega)]
  intro l
  induction l with
  | zero => intro h; exact absurd h (by omega)
  | succ l ih =>
    intro h
    show sumM _ l + (if l = k then v else f l) = sumM f l + f l + (v - f k)
    by_cases hl : l = k
    · subst hl
      rw [hlo l (Nat.le_refl _), if_pos rfl, Int32.sub_eq_add_neg, Int32.add_assoc, ← Int32.add_assoc (f l) v, Int32.add_comm (f l) v, Int32.add_assoc v, Int32.add_right_neg, Int32.add_zero]
    · rw [ih (by omega), if_neg hl, Int32.add_assoc, Int32.add_assoc, Int32.add_comm (v - f k)]
theorem sum_wake {E : HP} {k t L : Nat} (h : k < L) : sumM (gA (mWake E k t) 118) L = sumM (gA E 118) L + 1 := by
  have e : gA (mWake E k t) 118 = fun j => if j = k then gA E 118 k + 1 else gA E 118 j := by
    funext j
    unfold mWake
    simp only [gA_sA, true_and]
    rfl
  rw [e, sum_upd L h, Int32.add_comm (gA E 118 k), Int32.add_sub_cancel]
theorem mf_wake {gs as : List Nat} {E E2 : HP} {k t : Nat} (h7 : 117 ∈ as) (h8 : 118 ∈ as) (h : MF gs as E E2) : MF gs as E (mWake E2 k t) := mf_sA h8 (mf_sA h7 h)
theorem not_b0 {q : Bool} (h : bI (!q) = 0) : q = true := by cases q; exact absurd h (by decide); rfl
theorem not_b1 {q : Bool} (h : ¬ bI (!q) = 0) : q = false := by cases q; rfl; exact absurd rfl h
set_option maxRecDepth 20000 in
theorem c_X12_turnAll {d L t a e q : Nat} {V : NV} {S : NS} {E : HP} {w : Int32} (hc : MC E V L t) (hr : MR E V S L) (h0 : 0 < t) (hae : a ≤ e) (hel : e ≤ vL V) (hq : q < vL V) (hw : w = 0 ∨ w = 1) (hlen : (nG S).length < 90000) : ∃ o, (∃ E2, o = (.inl none, E2, 137) ∧ MF gsN asN E E2 ∧ MR E2 V (turnF V S a e q w t) L) ∧ Cl yX12_turnAll mX12_turnAll (d + 3) 0 0 [.ref 95, .int (nI a), .int (nI e), .int (nI q), .int w] E 137 o := by
  obtain ⟨hM, hv, hmi, ht6⟩ := id hc
  obtain ⟨v1, v2, v3, v4, v5, v6, v7, v8, v9, v10, v11, v12, v13, v14, v15, v16⟩ := id hv
  obtain ⟨r1, r2, r3, r4, r5, r6⟩ := id hr
  refine Cx.of (by decide) rfl (fun q => by cases q) rfl rfl (Nat.le_of_ble_eq_true rfl) ?_
  show Sx _ _ _ _ _ 0 [some (.ref 95), some (.int (nI a)), some (.int (nI e)), some (.int (nI q)), some (.int w), none, none, none] [] _ _
  have fin2 : ∀ E3 x6 x7, MF gsN asN E E3 → MLF E3 V (wokenF (flipF V (nA S) a e t) (wokeF V S a e q t) t) → gI E3 1585 95 = gI E 1585 95 → gI E3 1587 95 = gI E 1587 95 → gI E3 1588 95 = gI E 1588 95 → sumM (gA E3 118) L = nS S 2 + nI (cntF (wokeF V S a e q t) a (e - a)) → MWT E3 (nG S ++ [(nI t, vA V 0 q, nI (cntF (wokeF V S a e q t) a (e - a)), w)]) → Sx mX12_turnAll (d + 3) 0 0 (fun o => ∃ E2, o = (.inl none, E2, 137) ∧ MF gsN asN E E2 ∧ MR E2 V (turnF V S a e q w t) L) 206 [some (.ref 95), some (.int (nI a)), some (.int (nI e)), some (.int (nI q)), some (.int w), some (.int (nI (cntF (wokeF V S a e q t) a (e - a)))), x6, x7] [] E3 137 := by
    intro E3 x6 x7 hN hL g1 g2 g3 hsm hWT
    have hc1 := mc_mf hN hc
    have hM1 := hc1.1
    have hmi1 := hc1.2.2.1
    have hqq := v5 q hq
    have hro : gA E3 113 q = nI (oV V q) := (hc1.2.1.2.2.2.2.1 q hq).2.2.1
    refine Sx.up (fun _ kk => r_aload_n 207 dX12_turnAll_206 rfl rfl kk) ?_
    refine Sx.up (fun _ kk => r_getR 210 dX12_turnAll_207 rfl f12_108 rfl rfl lt95 (mo_40 hM1) kk) ?_
    refine Sx.up (fun _ kk => r_aload_n 211 dX12_turnAll_210 rfl rfl kk) ?_
    refine Sx.up (fun _ kk => r_getR 214 dX12_turnAll_211 rfl f12_90 rfl rfl lt95 (mo_34 hM1) kk) ?_
    refine Sx.up (fun _ kk => r_iload_n 215 dX12_turnAll_214 rfl rfl kk) ?_
    refine Sx.up (fun _ kk => r_ialdN (q) (nI (oV V q)) 216 dX12_turnAll_215 rfl rfl (Nat.le_of_ble_eq_true rfl) (rfl) (by omega) (Nat.le_of_ble_eq_true rfl) (hro) kk) ?_
    refine Sx.up (fun _ kk => r_dup2 217 dX12_turnAll_216 rfl rfl rfl kk) ?_
    refine Sx.up (fun _ kk => r_ialdN (oV V q) (_) 218 dX12_turnAll_217 rfl rfl (Nat.le_of_ble_eq_true rfl) (rfl) (by omega) (Nat.le_of_ble_eq_true rfl) (rfl) kk) ?_
    refine Sx.up (fun _ kk => r_iconst (1) 219 dX12_turnAll_218 rfl (by decide) kk) ?_
    refine Sx.up (fun _ kk => r_iadd 220 dX12_turnAll_219 rfl kk) ?_
    refine Sx.up (fun _ kk => r_iastN (oV V q) 221 dX12_turnAll_220 rfl rfl (Nat.le_of_ble_eq_true rfl) (rfl) (by omega) (Nat.le_of_ble_eq_true rfl) kk) ?_
    refine Sx.up (fun _ kk => r_aload_n 222 dX12_turnAll_221 rfl rfl kk) ?_
    refine Sx.up (fun _ kk => r_dup 223 dX12_turnAll_222 rfl rfl kk) ?_
    refine Sx.up (fun _ kk => r_getI 226 dX12_turnAll_223 rfl f12_365 rfl rfl lt95 kk) ?_
    refine Sx.up (fun _ kk => r_iconst (1) 227 dX12_turnAll_226 rfl (by decide) kk) ?_
    refine Sx.up (fun _ kk => r_iadd 228 dX12_turnAll_227 rfl kk) ?_
    refine Sx.up (fun _ kk => r_putI 231 dX12_turnAll_228 rfl f12_365 rfl lt95 kk) ?_
    refine Sx.up (fun _ kk => r_aload_n 232 dX12_turnAll_231 rfl rfl kk) ?_
    refine Sx.up (fun _ kk => r_aload_n 233 dX12_turnAll_232 rfl rfl kk) ?_
    refine Sx.up (fun _ kk => r_getI 236 dX12_turnAll_233 rfl f12_385 rfl rfl lt95 kk) ?_
    refine Sx.up (fun _ kk => r_aload_n 237 dX12_turnAll_236 rfl rfl kk) ?_
    refine Sx.up (fun _ kk => r_getIV (nI t) 240 dX12_turnAll_237 rfl f12_359 rfl rfl lt95 (hmi1) kk) ?_
    refine Sx.up (fun _ kk => r_aload_n 241 dX12_turnAll_240 rfl rfl kk) ?_
    refine Sx.up (fun _ kk => r_getI 244 dX12_turnAll_241 rfl f12_388 rfl rfl lt95 kk) ?_
    refine Sx.up (fun _ kk => r_isub 245 dX12_turnAll_244 rfl kk) ?_
    refine Sx.up (fun _ kk => r_iconst (1) 246 dX12_turnAll_245 rfl (by decide) kk) ?_
    refine Sx.up (fun _ kk => r_isub 247 dX12_turnAll_246 rfl kk) ?_
    refine Sx.up (fun _ kk => r_max 250 dX12_turnAll_247 rfl k12_391 (Nat.le_of_ble_eq_true rfl) kk) ?_
    refine Sx.up (fun _ kk => r_putI 253 dX12_turnAll_250 rfl f12_385 rfl lt95 kk) ?_
    refine Sx.up (fun _ kk => r_aload_n 254 dX12_turnAll_253 rfl rfl kk) ?_
    refine Sx.up (fun _ kk => r_aload_n 255 dX12_turnAll_254 rfl rfl kk) ?_
    refine Sx.up (fun _ kk => r_getIV (nI t) 258 dX12_turnAll_255 rfl f12_359 rfl rfl lt95 (hmi1) kk) ?_
    refine Sx.up (fun _ kk => r_putI 261 dX12_turnAll_258 rfl f12_388 rfl lt95 kk) ?_
    refine ⟨_, ?_, r_vret dX12_turnAll_261 rfl rfl rfl⟩
    refine ⟨_, rfl, mf_sI (by decide) (mf_sI (by decide) (mf_sI (by decide) (mf_sA (by decide) hN))), ?_, ?_, ?_, ?_, fun i hi => ?_, fun i x z1 z2 => hWT i x z1 z2⟩
    · simp only [gI_sI, gI_sA, Nat.reduceEqDiff, false_and, if_false, and_self, if_true, and_true]
      rw [g1, r1, nI_pp]
      show _ = nI (nG S ++ [_]).length
      rw [List.length_append]
      rfl
    · simp only [gI_sI, gI_sA, Nat.reduceEqDiff, false_and, if_false, and_self, if_true, and_true]
      rw [g2, g3, r2, r3]
      rfl
    · simp only [gI_sI, gI_sA, Nat.reduceEqDiff, false_and, if_false, and_self, if_true, and_true]
      rfl
    · exact hsm
    · obtain ⟨j1, j2, j3, j4, j5, j6, j7⟩ := hL i hi
      refine ⟨j1, j2, j3, j4, j5, j6, ?_⟩
      show gA (sA E3 119 (oV V q) (gA E3 119 (oV V q) + 1)) 119 (oV V i) = begF _ q 4 i
      unfold begF
      rw [gA_sA]
      by_cases hiq : i = q
      · subst hiq
        rw [if_pos ⟨rfl, rfl⟩, if_pos ⟨rfl, rfl⟩, j7]
      · rw [if_neg (fun z => hiq (v6 i q hi hq z.2)), if_neg (fun z => hiq z.2)]
        exact j7
  have fin : ∀ E1 x6 x7, MF gsN asN E E1 → MLF E1 V (wokenF (flipF V (nA S) a e t) (wokeF V S a e q t) t) → gI E1 1585 95 = gI E 1585 95 → gI E1 1587 95 = gI E 1587 95 → gI E1 1588 95 = gI E 1588 95 → sumM (gA E1 118) L = nS S 2 + nI (cntF (wokeF V S a e q t) a (e - a)) → MWT E1 (nG S) → Sx mX12_turnAll (d + 3) 0 0 (fun o => ∃ E2, o = (.inl none, E2, 137) ∧ MF gsN asN E E2 ∧ MR E2 V (turnF V S a e q w t) L) 138 [some (.ref 95), some (.int (nI a)), some (.int (nI e)), some (.int (nI q)), some (.int w), some (.int (nI (cntF (wokeF V S a e q t) a (e - a)))), x6, x7] [] E1 137 := by
    intro E1 x6 x7 hN hL g1 g2 g3 hsm hWT
    have hc1 := mc_mf hN hc
    have hM1 := hc1.1
    have hmi1 := hc1.2.2.1
    have hqq := v5 q hq
    have hro : gA E1 113 q = nI (oV V q) := (hc1.2.1.2.2.2.2.1 q hq).2.2.1
    have hlast : ∀ E9 i x, MWT E9 (nG S) → i < (nG S).length → (nG S ++ [(nI t, vA V 0 q, nI (cntF (wokeF V S a e q t) a (e - a)), w)])[i]? = some x → i < 1200 → gA E9 120 i = x.1 ∧ gA E9 121 i = x.2.1 ∧ gA E9 122 i = x.2.2.1 ∧ gA E9 123 i = x.2.2.2 := fun E9 i x hW z1 z2 z3 => by
      rw [List.getElem?_append_left z1] at z2
      exact hW i x z3 z2
    have hin : ∀ i x, (nG S ++ [(nI t, vA V 0 q, nI (cntF (wokeF V S a e q t) a (e - a)), w)])[i]? = some x → ¬ i < (nG S).length → i = (nG S).length ∧ x = (nI t, vA V 0 q, nI (cntF (wokeF V S a e q t) a (e - a)), w) := fun i x z1 z2 => by
      have z3 := (List.getElem?_eq_some_iff.mp z1).1
      rw [List.length_append] at z3
      have z4 : i = (nG S).length := by simp at z3; omega
      subst z4
      rw [List.getElem?_append_right (Nat.le_refl _), Nat.sub_self] at z1
      cases z1
      exact ⟨rfl, rfl⟩
    by_cases h12 : (nG S).length < 1200
    · refine Sx.up (fun _ kk => r_aload_n 139 dX12_turnAll_138 rfl rfl kk) ?_
      refine Sx.up (fun _ kk => r_getIV (nI (nG S).length) 142 dX12_turnAll_139 rfl f12_365 rfl rfl lt95 (g1.trans r1) kk) ?_
      refine Sx.up (fun _ kk => r_sipush (1200) 145 dX12_turnAll_142 rfl (by decide) kk) ?_
      refine Sx.up (fun _ kk => r_icmp_ge 148 206 dX12_turnAll_145 rfl (by decide) (fun h145 => absurd h145 (nI_ge (b := 1200) h12 (by omega))) (fun _ => kk)) ?_
      refine Sx.up (fun _ kk => r_aload_n 149 dX12_turnAll_148 rfl rfl kk) ?_
      refine Sx.up (fun _ kk => r_getR 152 dX12_turnAll_149 rfl f12_111 rfl rfl lt95 (mo_41 hM1) kk) ?_
      refine Sx.up (fun _ kk => r_aload_n 153 dX12_turnAll_152 rfl rfl kk) ?_
      refine Sx.up (fun _ kk => r_getIV (nI (nG S).length) 156 dX12_turnAll_153 rfl f12_365 rfl rfl lt95 (g1.trans r1) kk) ?_
      refine Sx.up (fun _ kk => r_aload_n 157 dX12_turnAll_156 rfl rfl kk) ?_
      refine Sx.up (fun _ kk => r_getIV (nI t) 160 dX12_turnAll_157 rfl f12_359 rfl rfl lt95 (hmi1) kk) ?_
      refine Sx.up (fun _ kk => r_iastN ((nG S).length) 161 dX12_turnAll_160 rfl rfl (Nat.le_of_ble_eq_true rfl) (rfl) (h12) (Nat.le_of_ble_eq_true rfl) kk) ?_
      refine Sx.up (fun _ kk => r_aload_n 162 dX12_turnAll_161 rfl rfl kk) ?_
      refine Sx.up (fun _ kk => r_getR 165 dX12_turnAll_162 rfl f12_114 rfl rfl lt95 (mo_42 hM1) kk) ?_
      refine Sx.up (fun _ kk => r_aload_n 166 dX12_turnAll_165 rfl rfl kk) ?_
      refine Sx.up (fun _ kk => r_getIV (nI (nG S).length) 169 dX12_turnAll_166 rfl f12_365 rfl rfl lt95 (g1.trans r1) kk) ?_
      refine Sx.up (fun _ kk => r_aload_n 170 dX12_turnAll_169 rfl rfl kk) ?_
      refine Sx.up (fun _ kk => r_getR 173 dX12_turnAll_170 rfl f12_90 rfl rfl lt95 (mo_34 hM1) kk) ?_
      refine Sx.up (fun _ kk => r_iload_n 174 dX12_turnAll_173 rfl rfl kk) ?_
      refine Sx.up (fun _ kk => r_ialdN (q) (nI (oV V q)) 175 dX12_turnAll_174 rfl rfl (Nat.le_of_ble_eq_true rfl) (rfl) (by omega) (Nat.le_of_ble_eq_true rfl) (hro) kk) ?_
      refine Sx.up (fun _ kk => r_iastN ((nG S).length) 176 dX12_turnAll_175 rfl rfl (Nat.le_of_ble_eq_true rfl) (rfl) (h12) (Nat.le_of_ble_eq_true rfl) kk) ?_
      refine Sx.up (fun _ kk => r_aload_n 177 dX12_turnAll_176 rfl rfl kk) ?_
      refine Sx.up (fun _ kk => r_getR 180 dX12_turnAll_177 rfl f12_117 rfl rfl lt95 (mo_43 hM1) kk) ?_
      refine Sx.up (fun _ kk => r_aload_n 181 dX12_turnAll_180 rfl rfl kk) ?_
      refine Sx.up (fun _ kk => r_getIV (nI (nG S).length) 184 dX12_turnAll_181 rfl f12_365 rfl rfl lt95 (g1.trans r1) kk) ?_
      refine Sx.up (fun _ kk => r_iload 186 dX12_turnAll_184 rfl rfl kk) ?_
      refine Sx.up (fun _ kk => r_iastN ((nG S).length) 187 dX12_turnAll_186 rfl rfl (Nat.le_of_ble_eq_true rfl) (rfl) (h12) (Nat.le_of_ble_eq_true rfl) kk) ?_
      refine Sx.up (fun _ kk => r_aload_n 188 dX12_turnAll_187 rfl rfl kk) ?_
      refine Sx.up (fun _ kk => r_getR 191 dX12_turnAll_188 rfl f12_120 rfl rfl lt95 (mo_44 hM1) kk) ?_
      refine Sx.up (fun _ kk => r_aload_n 192 dX12_turnAll_191 rfl rfl kk) ?_
      refine Sx.up (fun _ kk => r_getIV (nI (nG S).length) 195 dX12_turnAll_192 rfl f12_365 rfl rfl lt95 (g1.trans r1) kk) ?_
      refine Sx.up (fun _ kk => r_iload 197 dX12_turnAll_195 rfl rfl kk) ?_
      refine Sx.br (fun _ ka kb => r_if_eq 200 204 dX12_turnAll_197 rfl (by decide) ka kb) (by first | exact em1 | exact em2) (fun h197 => ?_) (fun h197 => ?_)
      · refine Sx.up (fun _ kk => r_iconst (0) 205 dX12_turnAll_204 rfl (by decide) kk) ?_
        refine Sx.up (fun _ kk => r_iastN ((nG S).length) 206 dX12_turnAll_205 rfl rfl (Nat.le_of_ble_eq_true rfl) (rfl) (h12) (Nat.le_of_ble_eq_true rfl) kk) ?_
        obtain ⟨i1, -⟩ := v5 q hq
        refine fin2 _ _ _ (mf_sA (by decide) (mf_sA (by decide) (mf_sA (by decide) (mf_sA (by decide) hN)))) hL g1 g2 g3 hsm (fun i x z1 z2 => ?_)
        by_cases zi : i < (nG S).length
        · have := hlast E1 i x hWT zi z2 z1
          simp only [gA_sA, Nat.reduceEqDiff, false_and, if_false, true_and, show ¬ i = (nG S).length by omega]
          exact this
        · obtain ⟨rfl, rfl⟩ := hin i x z2 zi
          exact ⟨by simp [gA_sA], by simp [gA_sA, i1], by simp [gA_sA], by simp [gA_sA, h197]⟩
      · refine Sx.up (fun _ kk => r_iconst (1) 201 dX12_turnAll_200 rfl (by decide) kk) ?_
        refine Sx.up (fun _ kk => r_goto 205 dX12_turnAll_201 (by decide) kk) ?_
        refine Sx.up (fun _ kk => r_iastN ((nG S).length) 206 dX12_turnAll_205 rfl rfl (Nat.le_of_ble_eq_true rfl) (rfl) (h12) (Nat.le_of_ble_eq_true rfl) kk) ?_
        obtain ⟨i1, -⟩ := v5 q hq
        refine fin2 _ _ _ (mf_sA (by decide) (mf_sA (by decide) (mf_sA (by decide) (mf_sA (by decide) hN)))) hL g1 g2 g3 hsm (fun i x z1 z2 => ?_)
        by_cases zi : i < (nG S).length
        · have := hlast E1 i x hWT zi z2 z1
          simp only [gA_sA, Nat.reduceEqDiff, false_and, if_false, true_and, show ¬ i = (nG S).length by omega]
          exact this
        · obtain ⟨rfl, rfl⟩ := hin i x z2 zi
          exact ⟨by simp [gA_sA], by simp [gA_sA, i1], by simp [gA_sA], by simp [gA_sA, hw.resolve_left h197]⟩
    · refine Sx.up (fun _ kk => r_aload_n 139 dX12_turnAll_138 rfl rfl kk) ?_
      refine Sx.up (fun _ kk => r_getIV (nI (nG S).length) 142 dX12_turnAll_139 rfl f12_365 rfl rfl lt95 (g1.trans r1) kk) ?_
      refine Sx.up (fun _ kk => r_sipush (1200) 145 dX12_turnAll_142 rfl (by decide) kk) ?_
      refine Sx.up (fun _ kk => r_icmp_ge 148 206 dX12_turnAll_145 rfl (by decide) (fun _ => kk) (fun h145 => absurd (nI_le (a := 1200) (by omega) (by omega)) h145)) ?_
      refine fin2 E1 _ _ hN hL g1 g2 g3 hsm (fun i x z1 z2 => ?_)
      exact hlast E1 i x hWT (by omega) z2 z1
  have loop2 : ∀ E1, MF [] [115, 116] E E1 → MLF E1 V (flipF V (nA S) a e t) → ∀ x7, Sx mX12_turnAll (d + 3) 0 0 (fun o => ∃ E2, o = (.inl none, E2, 137) ∧ MF gsN asN E E2 ∧ MR E2 V (turnF V S a e q w t) L) 71 [some (.ref 95), some (.int (nI a)), some (.int (nI e)), some (.int (nI q)), some (.int w), some (.int (nI 0)), some (.int (nI a)), x7] [] E1 137 := by
    intro E0 hN0 hL0 x7
    refine Sx.less (ls := [some (.ref 95), some (.int (nI a)), some (.int (nI e)), some (.int (nI q)), some (.int w), some (.int (nI 0)), some (.int (nI a)), none]) ⟨rfl, rfl, rfl, rfl, rfl, rfl, rfl, trivial⟩ ?_
    refine sxUp (S := fun k9 E1 => Sx mX12_turnAll (d + 3) 0 0 (fun o => ∃ E2, o = (.inl none, E2, 137) ∧ MF gsN asN E E2 ∧ MR E2 V (turnF V S a e q w t) L) 71 [some (.ref 95), some (.int (nI a)), some (.int (nI e)), some (.int (nI q)), some (.int w), some (.int (nI (cntF (wokeF V S a e q t) a (k9 - a)))), some (.int (nI k9)), none] [] E1 137) (Inv := fun k9 E1 => MF [] [111, 112, 115, 116, 117, 118] E E1 ∧ MLF E1 V (wokenF (flipF V (nA S) a e t) (wB V S a e q t k9) t) ∧ sumM (gA E1 118) L = nS S 2 + nI (cntF (wokeF V S a e q t) a (k9 - a))) (a := a) (l := e) hae ?_ ?_ E0 ⟨mf_mono hN0 (by decide) (by decide), mlf_congr hL0 (fun k i => ?_), ?_⟩ |> (fun z => by rw [Nat.sub_self] at z; exact z)
    · intro E1 ⟨hN, hL, hS⟩
      have hM1 := mf_mo hN hM
      refine Sx.up (fun _ kk => r_iload 73 dX12_turnAll_71 rfl rfl kk) ?_
      refine Sx.up (fun _ kk => r_iload_n 74 dX12_turnAll_73 rfl rfl kk) ?_
      refine Sx.up (fun _ kk => r_icmp_ge 77 138 dX12_turnAll_74 rfl (by decide) (fun _ => kk) (fun h74 => absurd (nI_le (Nat.le_refl _) (by omega)) h74)) ?_
      refine fin E1 _ _ (mf_mono hN (by decide) (by decide)) (mlf_congr hL (fun k i => ?_)) (mf_gI hN (by decide)) (mf_gI hN (by decide)) (mf_gI hN (by decide)) hS (fun i x z1 z2 => by rw [mf_gA hN (by decide), mf_gA hN (by decide), mf_gA hN (by decide), mf_gA hN (by decide)]; exact r6 i x z1 z2)
      unfold wokenF wB
      by_cases hi : i < e
      · simp [hi]
      · have : wokeF V S a e q t i = false := by unfold wokeF; simp [hi]
        simp [this]
    · intro k9 E1 hk0 hk9 ⟨hN, hL, hS⟩ hgo
      have hkl : k9 < vL V := by omega
      have hN1 : MF gsN asN E E1 := mf_mono hN (by decide) (by decide)
      have hc1 := mc_mf hN1 hc
      have hM1 := hc1.1
      have hro : gA E1 113 k9 = nI (oV V k9) := (hc1.2.1.2.2.2.2.1 k9 hkl).2.2.1
      have hat : ∀ k, 2 ≤ k → wokenF (flipF V (nA S) a e t) (wB V S a e q t k9) t k k9 = nA S k k9 := fun k hk => by
        show wokenF _ (fun i => decide (i < k9) && wokeF V S a e q t i) t k k9 = _
        rw [woken_at, flip_23 hk]
      have hdf := c_X12_isDeaf (d := d + 2) hc1 hkl
      have haw := c_X12_isAwake (d := d + 2) hc1 hL hkl
      rw [awk_congr (hat 2 (by omega))] at haw
      obtain ⟨_, ⟨Ew, rfl, hNw⟩, hwk⟩ := c_X12_wakes (d := d) (g := (nG S).length) hc1 hL ((mf_gI hN (by decide)).trans r1) hkl hq
      rw [wak_congr (hat 3 (by omega))] at hwk
      have hcw := mc_mf (mf_mono hNw (by decide) (by decide)) hc1
      have hLw : MLF Ew V (wokenF (flipF V (nA S) a e t) (wB V S a e q t k9) t) := mlf_mf hNw (by decide) (by decide) (by decide) (by decide) (by decide) hL
      have hSw : sumM (gA Ew 118) L = nS S 2 + nI (cntF (wokeF V S a e q t) a (k9 - a)) := by rw [mf_gA hNw (by decide)]; exact hS
      have hNw2 : MF [] [111, 112, 115, 116, 117, 118] E Ew := mf_tr hN (mf_mono hNw (by decide) (by decide))
      have hwc := c_X12_wake (d := d + 2) (k := oV V k9) hcw.1 hcw.2.2.1 (by have := (v5 k9 hkl).2.1; omega)
      have hno : wokeF V S a e q t k9 = false → ∀ E2, MF [] [111, 112, 115, 116, 117, 118] E E2 → MLF E2 V (wokenF (flipF V (nA S) a e t) (wB V S a e q t k9) t) → sumM (gA E2 118) L = nS S 2 + nI (cntF (wokeF V S a e q t) a (k9 - a)) → ∀ x7, Sx mX12_turnAll (d + 3) 0 0 (fun o => ∃ E2, o = (.inl none, E2, 137) ∧ MF gsN asN E E2 ∧ MR E2 V (turnF V S a e q w t) L) 71 [some (.ref 95), some (.int (nI a)), some (.int (nI e)), some (.int (nI q)), some (.int w), some (.int (nI (cntF (wokeF V S a e q t) a (k9 - a)))), some (.int (nI (k9 + 1))), x7] [] E2 137 := by
        intro hz E2 a1 a2 a3 x7
        refine Sx.less (ls := [some (.ref 95), some (.int (nI a)), some (.int (nI e)), some (.int (nI q)), some (.int w), some (.int (nI (cntF (wokeF V S a e q t) a (k9 - a)))), some (.int (nI (k9 + 1))), none]) ⟨rfl, rfl, rfl, rfl, rfl, rfl, rfl, trivial⟩ ?_
        have := hgo E2 ⟨a1, mlf_congr a2 (fun k i => woken_no hz k i), by rw [cntF_s hk0, hz]; exact a3⟩
        rw [cntF_s hk0, hz] at this
        exact this
      have hwo : wokeF V S a e q t k9 = (decide (¬ k9 = q) && canF V k9 && !awkF V (nA S) k9 t && wakF V (nA S) (nG S).length k9 q t) := by
        unfold wokeF
        have h1 : (a ≤ k9 ∧ k9 < e ∧ ¬ k9 = q) = (¬ k9 = q) := propext ⟨fun z => z.2.2, fun z => ⟨hk0, hk9, z⟩⟩
        simp only [h1]
      have heq : ¬ nI k9 = nI q → ¬ k9 = q := fun z y => z (by rw [y])
      have heq2 : nI k9 = nI q → k9 = q := fun z => (nI_eq (by omega) (by omega)).mp z
      refine Sx.up (fun _ kk => r_iload 73 dX12_turnAll_71 rfl rfl kk) ?_
      refine Sx.up (fun _ kk => r_iload_n 74 dX12_turnAll_73 rfl rfl kk) ?_
      refine Sx.up (fun _ kk => r_icmp_ge 77 138 dX12_turnAll_74 rfl (by decide) (fun h74 => absurd h74 (nI_ge hk9 (by omega))) (fun _ => kk)) ?_
      refine Sx.up (fun _ kk => r_aload_n 78 dX12_turnAll_77 rfl rfl kk) ?_
      refine Sx.up (fun _ kk => r_getR 81 dX12_turnAll_78 rfl f12_90 rfl rfl lt95 (mo_34 hM1) kk) ?_
      refine Sx.up (fun _ kk => r_iload 83 dX12_turnAll_81 rfl rfl kk) ?_
      refine Sx.up (fun _ kk => r_ialdN (k9) (nI (oV V k9)) 84 dX12_turnAll_83 rfl rfl (Nat.le_of_ble_eq_true rfl) (rfl) (by omega) (Nat.le_of_ble_eq_true rfl) (hro) kk) ?_
      refine Sx.up (fun _ kk => r_istore 86 dX12_turnAll_84 rfl (by decide) rfl kk) ?_
      refine Sx.up (fun _ kk => r_iload 88 dX12_turnAll_86 rfl rfl kk) ?_
      refine Sx.up (fun _ kk => r_iload_n 89 dX12_turnAll_88 rfl rfl kk) ?_
      refine Sx.br (fun _ ka kb => r_icmp_eq 92 132 dX12_turnAll_89 rfl (by decide) ka kb) (by first | exact em1 | exact em2) (fun h89 => ?_) (fun h89 => ?_)
      · refine Sx.up (fun _ kk => r_iinc (1) 135 dX12_turnAll_132 rfl rfl (by decide) (by decide) rfl kk) ?_
        refine Sx.up (fun _ kk => r_goto 71 dX12_turnAll_135 (by decide) kk) ?_
        rw [nI_pp]; exact hno (by rw [hwo, decide_eq_false (p := ¬ k9 = q) (fun z => z (heq2 h89))]; rfl) _ hN hL hS _
      · refine Sx.up (fun _ kk => r_aload_n 93 dX12_turnAll_92 rfl rfl kk) ?_
        refine Sx.up (fun _ kk => r_iload 95 dX12_turnAll_93 rfl rfl kk) ?_
        refine Sx.up (fun _ kk => r_callV (M := mX12_turnAll) (pc := 95) 98 dX12_turnAll_95 rfl k12_373 hdf rfl rfl rfl (by decide) rfl lt95 (Nat.le_of_ble_eq_true rfl) kk) ?_
        refine Sx.br (fun _ ka kb => r_if_ne 101 132 dX12_turnAll_98 rfl (by decide) ka kb) (by first | exact em1 | exact em2) (fun h98 => ?_) (fun h98 => ?_)
        · refine Sx.up (fun _ kk => r_iinc (1) 135 dX12_turnAll_132 rfl rfl (by decide) (by decide) rfl kk) ?_
          refine Sx.up (fun _ kk => r_goto 71 dX12_turnAll_135 (by decide) kk) ?_
          rw [nI_pp]; exact hno (by rw [hwo, not_b1 h98]; simp) _ hN hL hS _
        · refine Sx.up (fun _ kk => r_aload_n 102 dX12_turnAll_101 rfl rfl kk) ?_
          refine Sx.up (fun _ kk => r_iload 104 dX12_turnAll_102 rfl rfl kk) ?_
          refine Sx.up (fun _ kk => r_callV (M := mX12_turnAll) (pc := 104) 107 dX12_turnAll_104 rfl k12_376 haw rfl rfl rfl (by decide) rfl lt95 (Nat.le_of_ble_eq_true rfl) kk) ?_
          refine Sx.br (fun _ ka kb => r_if_ne 110 132 dX12_turnAll_107 rfl (by decide) ka kb) (by first | exact em1 | exact em2) (fun h107 => ?_) (fun h107 => ?_)
          · refine Sx.up (fun _ kk => r_iinc (1) 135 dX12_turnAll_132 rfl rfl (by decide) (by decide) rfl kk) ?_
            refine Sx.up (fun _ kk => r_goto 71 dX12_turnAll_135 (by decide) kk) ?_
            rw [nI_pp]; exact hno (by rw [hwo, b1 h107]; simp) _ hN hL hS _
          · refine Sx.up (fun _ kk => r_aload_n 111 dX12_turnAll_110 rfl rfl kk) ?_
            refine Sx.up (fun _ kk => r_iload 113 dX12_turnAll_111 rfl rfl kk) ?_
            refine Sx.up (fun _ kk => r_iload_n 114 dX12_turnAll_113 rfl rfl kk) ?_
            refine Sx.up (fun _ kk => r_callV (M := mX12_turnAll) (pc := 114) 117 dX12_turnAll_114 rfl k12_379 hwk rfl rfl rfl (by decide) rfl lt95 (Nat.le_of_ble_eq_true rfl) kk) ?_
            refine Sx.br (fun _ ka kb => r_if_ne 120 123 dX12_turnAll_117 rfl (by decide) ka kb) (by first | exact em1 | exact em2) (fun h117 => ?_) (fun h117 => ?_)
            · refine Sx.up (fun _ kk => r_aload_n 124 dX12_turnAll_123 rfl rfl kk) ?_
              refine Sx.up (fun _ kk => r_iload 126 dX12_turnAll_124 rfl rfl kk) ?_
              refine Sx.up (fun _ kk => r_callV (M := mX12_turnAll) (pc := 126) 129 dX12_turnAll_126 rfl k12_382 hwc rfl rfl rfl (by decide) rfl lt95 (Nat.le_of_ble_eq_true rfl) kk) ?_
              refine Sx.up (fun _ kk => r_iinc (1) 132 dX12_turnAll_129 rfl rfl (by decide) (by decide) rfl kk) ?_
              refine Sx.up (fun _ kk => r_iinc (1) 135 dX12_turnAll_132 rfl rfl (by decide) (by decide) rfl kk) ?_
              refine Sx.up (fun _ kk => r_goto 71 dX12_turnAll_135 (by decide) kk) ?_
              have hz : wokeF V S a e q t k9 = true := by rw [hwo, decide_eq_true (p := ¬ k9 = q) (heq h89), not_b0 h98, b0 h107, b1 h117]; rfl
              rw [nI_pp, nI_pp]
              refine Sx.less (ls := [some (.ref 95), some (.int (nI a)), some (.int (nI e)), some (.int (nI q)), some (.int w), some (.int (nI (cntF (wokeF V S a e q t) a (k9 - a) + 1))), some (.int (nI (k9 + 1))), none]) ⟨rfl, rfl, rfl, rfl, rfl, rfl, rfl, trivial⟩ ?_
              have := hgo (mWake Ew (oV V k9) t) ⟨mf_wake (by decide) (by decide) hNw2, mlf_congr (mlf_wake v6 hLw hkl ht6 h0) (fun k i => woken_yes hz k i), by rw [sum_wake (v5 k9 hkl).2.1, hSw, cntF_s hk0, hz, Int32.add_assoc, nI_pp]; rfl⟩
              rw [cntF_s hk0, hz] at this
              exact this
            · refine Sx.up (fun _ kk => r_goto 132 dX12_turnAll_120 (by decide) kk) ?_
              refine Sx.up (fun _ kk => r_iinc (1) 135 dX12_turnAll_132 rfl rfl (by decide) (by decide) rfl kk) ?_
              refine Sx.up (fun _ kk => r_goto 71 dX12_turnAll_135 (by decide) kk) ?_
              rw [nI_pp]; exact hno (by rw [hwo, b0 h117]; simp) _ hNw2 hLw hSw _
    · show flipF V (nA S) a e t k i = wokenF (flipF V (nA S) a e t) (wB V S a e q t a) t k i
      unfold wokenF wB
      by_cases hi : i < a
      · have : wokeF V S a e q t i = false := by unfold wokeF; simp [show ¬ a ≤ i by omega]
        simp [this]
      · simp [hi]
    · rw [mf_gA hN0 (by decide), r4, Nat.sub_self]
      show _ = _ + nI 0
      rw [nI_0, Int32.add_zero]
  have loop1 := sxUp (S := fun k9 E1 => Sx mX12_turnAll (d + 3) 0 0 (fun o => ∃ E2, o = (.inl none, E2, 137) ∧ MF gsN asN E E2 ∧ MR E2 V (turnF V S a e q w t) L) 3 [some (.ref 95), some (.int (nI a)), some (.int (nI e)), some (.int (nI q)), some (.int w), some (.int (nI k9)), none, none] [] E1 137) (Inv := fun k9 E1 => MF [] [115, 116] E E1 ∧ MLF E1 V (flipF V (nA S) a k9 t)) (a := a) (l := e) hae ?_ ?_ E ⟨mf_rfl, mlf_congr r5 (fun k i => flip_0.symm)⟩
  refine Sx.up (fun _ kk => r_iload_n 1 dX12_turnAll_0 rfl rfl kk) ?_
  refine Sx.up (fun _ kk => r_istore 3 dX12_turnAll_1 rfl (by decide) rfl kk) ?_
  exact loop1
  · intro E1 ⟨hN, hL⟩
    refine Sx.up (fun _ kk => r_iload 5 dX12_turnAll_3 rfl rfl kk) ?_
    refine Sx.up (fun _ kk => r_iload_n 6 dX12_turnAll_5 rfl rfl kk) ?_
    refine Sx.up (fun _ kk => r_icmp_ge 9 65 dX12_turnAll_6 rfl (by decide) (fun _ => kk) (fun h6 => absurd (nI_le (Nat.le_refl _) (by omega)) h6)) ?_
    refine Sx.up (fun _ kk => r_iconst (0) 66 dX12_turnAll_65 rfl (by decide) kk) ?_
    refine Sx.up (fun _ kk => r_istore 68 dX12_turnAll_66 rfl (by decide) rfl kk) ?_
    refine Sx.up (fun _ kk => r_iload_n 69 dX12_turnAll_68 rfl rfl kk) ?_
    refine Sx.up (fun _ kk => r_istore 71 dX12_turnAll_69 rfl (by decide) rfl kk) ?_
    exact loop2 E1 hN hL _
  · intro k9 E1 hk0 hk9 ⟨hN, hL⟩ hgo
    have hkl : k9 < vL V := by omega
    have hN1 : MF gsN asN E E1 := mf_mono hN (by decide) (by decide)
    have hc1 := mc_mf hN1 hc
    have hM1 := hc1.1
    have hmi1 := hc1.2.2.1
    have hov := (v5 k9 hkl).2.1
    have hro : gA E1 113 k9 = nI (oV V k9) := (hc1.2.1.2.2.2.2.1 k9 hkl).2.2.1
    have hki : gA E1 99 (oV V k9) = vA V 1 k9 := (hc1.2.1.2.2.2.2.1 k9 hkl).2.2.2.1
    have hsd : gA E1 115 (oV V k9) = nA S 0 k9 := by rw [(hL k9 hkl).1, flip_at]
    refine Sx.up (fun _ kk => r_iload 5 dX12_turnAll_3 rfl rfl kk) ?_
    refine Sx.up (fun _ kk => r_iload_n 6 dX12_turnAll_5 rfl rfl kk) ?_
    refine Sx.up (fun _ kk => r_icmp_ge 9 65 dX12_turnAll_6 rfl (by decide) (fun h6 => absurd h6 (nI_ge hk9 (by omega))) (fun _ => kk)) ?_
    refine Sx.up (fun _ kk => r_aload_n 10 dX12_turnAll_9 rfl rfl kk) ?_
    refine Sx.up (fun _ kk => r_getR 13 dX12_turnAll_10 rfl f12_90 rfl rfl lt95 (mo_34 hM1) kk) ?_
    refine Sx.up (fun _ kk => r_iload 15 dX12_turnAll_13 rfl rfl kk) ?_
    refine Sx.up (fun _ kk => r_ialdN (k9) (nI (oV V k9)) 16 dX12_turnAll_15 rfl rfl (Nat.le_of_ble_eq_true rfl) (rfl) (by omega) (Nat.le_of_ble_eq_true rfl) (hro) kk) ?_
    refine Sx.up (fun _ kk => r_istore 18 dX12_turnAll_16 rfl (by decide) rfl kk) ?_
    refine Sx.up (fun _ kk => r_aload_n 19 dX12_turnAll_18 rfl rfl kk) ?_
    refine Sx.up (fun _ kk => r_getR 22 dX12_turnAll_19 rfl f12_42 rfl rfl lt95 (mo_4 hM1) kk) ?_
    refine Sx.up (fun _ kk => r_iload 24 dX12_turnAll_22 rfl rfl kk) ?_
    refine Sx.up (fun _ kk => r_ialdN (oV V k9) (vA V 1 k9) 25 dX12_turnAll_24 rfl rfl (Nat.le_of_ble_eq_true rfl) (rfl) (by omega) (Nat.le_of_ble_eq_true rfl) (hki) kk) ?_
    refine Sx.up (fun _ kk => r_iconst (3) 26 dX12_turnAll_25 rfl (by decide) kk) ?_
    refine Sx.br (fun _ ka kb => r_icmp_ne 29 32 dX12_turnAll_26 rfl (by decide) ka kb) (by first | exact em1 | exact em2) (fun h26 => ?_) (fun h26 => ?_)
    · refine Sx.up (fun _ kk => r_aload_n 33 dX12_turnAll_32 rfl rfl kk) ?_
      refine Sx.up (fun _ kk => r_getR 36 dX12_turnAll_33 rfl f12_96 rfl rfl lt95 (mo_36 hM1) kk) ?_
      refine Sx.up (fun _ kk => r_iload 38 dX12_turnAll_36 rfl rfl kk) ?_
      refine Sx.up (fun _ kk => r_iconst (1) 39 dX12_turnAll_38 rfl (by decide) kk) ?_
      refine Sx.up (fun _ kk => r_aload_n 40 dX12_turnAll_39 rfl rfl kk) ?_
      refine Sx.up (fun _ kk => r_getR 43 dX12_turnAll_40 rfl f12_96 rfl rfl lt95 (mo_36 hM1) kk) ?_
      refine Sx.up (fun _ kk => r_iload 45 dX12_turnAll_43 rfl rfl kk) ?_
      refine Sx.up (fun _ kk => r_ialdN (oV V k9) (nA S 0 k9) 46 dX12_turnAll_45 rfl rfl (Nat.le_of_ble_eq_true rfl) (rfl) (by omega) (Nat.le_of_ble_eq_true rfl) (hsd) kk) ?_
      refine Sx.up (fun _ kk => r_isub 47 dX12_turnAll_46 rfl kk) ?_
      refine Sx.up (fun _ kk => r_iastN (oV V k9) 48 dX12_turnAll_47 rfl rfl (Nat.le_of_ble_eq_true rfl) (rfl) (by omega) (Nat.le_of_ble_eq_true rfl) kk) ?_
      refine Sx.up (fun _ kk => r_aload_n 49 dX12_turnAll_48 rfl rfl kk) ?_
      refine Sx.up (fun _ kk => r_getR 52 dX12_turnAll_49 rfl f12_99 rfl rfl lt95 (mo_37 hM1) kk) ?_
      refine Sx.up (fun _ kk => r_iload 54 dX12_turnAll_52 rfl rfl kk) ?_
      refine Sx.up (fun _ kk => r_aload_n 55 dX12_turnAll_54 rfl rfl kk) ?_
      refine Sx.up (fun _ kk => r_getIV (nI t) 58 dX12_turnAll_55 rfl f12_359 rfl rfl lt95 (hmi1) kk) ?_
      refine Sx.up (fun _ kk => r_iastN (oV V k9) 59 dX12_turnAll_58 rfl rfl (Nat.le_of_ble_eq_true rfl) (rfl) (by omega) (Nat.le_of_ble_eq_true rfl) kk) ?_
      refine Sx.up (fun _ kk => r_iinc (1) 62 dX12_turnAll_59 rfl rfl (by decide) (by decide) rfl kk) ?_
      refine Sx.up (fun _ kk => r_goto 3 dX12_turnAll_62 (by decide) kk) ?_
      rw [nI_pp]
      refine Sx.less (ls := [some (.ref 95), some (.int (nI a)), some (.int (nI e)), some (.int (nI q)), some (.int w), some (.int (nI (k9 + 1))), none, none]) ⟨rfl, rfl, rfl, rfl, rfl, rfl, trivial⟩ (hgo _ ⟨mf_sA (by decide) (mf_sA (by decide) hN), mlf_flip v6 hL hk0 hkl ht6 h26⟩)
    · refine Sx.up (fun _ kk => r_goto 59 dX12_turnAll_29 (by decide) kk) ?_
      refine Sx.up (fun _ kk => r_iinc (1) 62 dX12_turnAll_59 rfl rfl (by decide) (by decide) rfl kk) ?_
      refine Sx.up (fun _ kk => r_goto 3 dX12_turnAll_62 (by decide) kk) ?_
      rw [nI_pp]
      refine Sx.less (ls := [some (.ref 95), some (.int (nI a)), some (.int (nI e)), some (.int (nI q)), some (.int w), some (.int (nI (k9 + 1))), none, none]) ⟨rfl, rfl, rfl, rfl, rfl, rfl, trivial⟩ (hgo _ ⟨hN, mlf_congr hL (fun k i => by rw [flip_s hk0, if_neg (fun z => z.2 h26)])⟩)
