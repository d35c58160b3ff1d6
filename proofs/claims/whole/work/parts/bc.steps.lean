/-! THE LAW: a step for each word of the script -/
theorem nI_c1 (j : Nat) : nI j + 1 = nI (j + 1) := nI_p j
theorem nI_c2 (j : Nat) : nI j + 2 = nI (j + 2) := by rw [show (2 : Int32) = 1 + 1 by decide, ← Int32.add_assoc, nI_p, nI_p]
theorem nI_c3 (j : Nat) : nI j + 3 = nI (j + 3) := by rw [show (3 : Int32) = 2 + 1 by decide, ← Int32.add_assoc, nI_c2, nI_p]
theorem nI_c4 (j : Nat) : nI j + 4 = nI (j + 4) := by rw [show (4 : Int32) = 3 + 1 by decide, ← Int32.add_assoc, nI_c3, nI_p]
theorem nI_c5 (j : Nat) : nI j + 5 = nI (j + 5) := by rw [show (5 : Int32) = 4 + 1 by decide, ← Int32.add_assoc, nI_c4, nI_p]
theorem nI_c6 (j : Nat) : nI j + 6 = nI (j + 6) := by rw [show (6 : Int32) = 5 + 1 by decide, ← Int32.add_assoc, nI_c5, nI_p]
theorem r_sldN {M : MI} {d bc bs n pc : Nat} {out : OUT} {ls : List (Option Value)} {st : List Value} {E : HP} {i : Int32} (k : Nat) (v : Int32) (pc2 : Nat) (hd : decode M.2.1 pc = .ok (.iaload, 1)) (hp : pc + 1 = pc2) (hM : M.2.2.2.2.2.2.1 = true) (hi : i = nI k) (hk : k < M.2.2.2.2.2.2.2.1) (hl : M.2.2.2.2.2.2.2.1 ≤ 3072) (hv : M.2.2.2.2.2.2.2.2 k = v) (kk : Sm M d bc bs out pc2 ls (.int v :: st) E n) : Sm M d bc bs out pc ls (.int i :: .ref 2000 :: st) E n := by
  subst hi; subst hv
  refine r_sld pc2 hd hp hM (vp_in_nI hk (by omega)) ?_
  rw [nI_clamp (by omega)]
  exact kk
/-- true, the law's answer: as any method, or as the law -/
theorem r_lawB {M : MI} {d bc bs n pc : Nat} {out : OUT} {ls : List (Option Value)} {E : HP} (hd : decode M.2.1 pc = .ok (.ireturn, 1)) (hrt : M.2.2.2.1 = some .boolean) (hlaw : M.2.2.2.2.2.2.1 = true) (ho : out = (.inl (some (.int 1)), E, n)) : Sm M d bc bs out pc ls [.int 1] E n := by
  subst ho
  intro G p l e s m args below meth c R H locs cells slots lsA Q C F hS hW hl h1 h2
  rcases F with F | ⟨-, hcode, hret, rfl, ⟨b, rfl⟩, rfl, -⟩
  · subst F
    refine W.widen (show cells ≤ R.cells by omega) (show slots ≤ R.slots by omega) (vx_ret ?_)
    exact W.zret (ty := .boolean) C.1 C.2.1 (by rw [C.2.2.2.2.2.1, hrt]) rfl (fun t ht hA => ⟨some (.int 1), E, n, rfl, rfl, by rw [ht]; exact hW, hS.F ht⟩) hS.2.2 hd C.2.2.2.2.2.2.1
  · obtain ⟨x1, x2, x3⟩ := C.2.2.2.2.2.2.2.2.2.2.2.2.2 hlaw
    refine va_forget (fun q hq => by rw [← x3]; exact hS.2.2 q hq) ?_
    refine W.widen (k := 601024) (n := 7293034) (by have : room_1.cells = 601024 := rfl; omega) (by have : room_1.slots = 7293034 := rfl; omega) ?_
    rw [hcode] at hd
    exact lw_ret C.1 (by rw [C.2.1, hcode]) (by rw [C.2.2.2.2.2.1, hret]) C.2.2.2.2.2.2.1 hd
theorem lcmp_0 {x y : Int64} (h : x = y) : lg_cmp x y = 0 := by
  subst h
  have h1 := (lg_cmp_ge x x).mpr (Int64.le_refl x)
  have h2 := (lg_cmp_le x x).mpr (Int64.le_refl x)
  exact Int32.le_antisymm h2 h1
set_option maxHeartbeats 16000000 in
set_option maxRecDepth 20000 in
theorem s_feed {L j bc bs : Nat} {xs : Nat → Int32} {Post : OUT → Prop} {E : HP} (hj : j + 5 < L) (hL : L ≤ 3072) (h : OpP yX11_feed mX11_feed yX12_feed mX12_feed [.int (xs (j + 1)), .int (xs (j + 2)), .int (xs (j + 3)), .int (xs (j + 4)), .int (xs (j + 5))] E) (kk : ∀ E3, Rel E3 → Sx (mL_law L xs) 62 bc bs Post 1690 [some (.ref 2000), some (.ref 0), some (.ref 95), some (.ref 136), some (.int (nI j)), none, none] [] E3 137) : Sx (mL_law L xs) 62 (bc + 1) (bs + 6) Post 180 [some (.ref 2000), some (.ref 0), some (.ref 95), some (.ref 136), some (.int (nI j)), none, none] [] E 137 := by
  obtain ⟨v, E2, bc2, bs2, h1, h2, hc, E3, hm, hR⟩ := h
  refine Sx.up (fun _ kk => r_aload_n 181 dL_law_180 rfl rfl kk) ?_
  refine Sx.up (fun _ kk => r_aload_n 182 dL_law_181 rfl rfl kk) ?_
  refine Sx.up (fun _ kk => r_iload 184 dL_law_182 rfl rfl kk) ?_
  refine Sx.up (fun _ kk => r_iconst (1) 185 dL_law_184 rfl (by decide) kk) ?_
  refine Sx.up (fun _ kk => r_iadd 186 dL_law_185 rfl kk) ?_
  refine Sx.up (fun _ kk => r_sldN (j + 1) (xs (j + 1)) 187 dL_law_186 rfl rfl (nI_c1 j) (show j + 1 < L by omega) hL rfl kk) ?_
  refine Sx.up (fun _ kk => r_aload_n 188 dL_law_187 rfl rfl kk) ?_
  refine Sx.up (fun _ kk => r_iload 190 dL_law_188 rfl rfl kk) ?_
  refine Sx.up (fun _ kk => r_iconst (2) 191 dL_law_190 rfl (by decide) kk) ?_
  refine Sx.up (fun _ kk => r_iadd 192 dL_law_191 rfl kk) ?_
  refine Sx.up (fun _ kk => r_sldN (j + 2) (xs (j + 2)) 193 dL_law_192 rfl rfl (nI_c2 j) (show j + 2 < L by omega) hL rfl kk) ?_
  refine Sx.up (fun _ kk => r_aload_n 194 dL_law_193 rfl rfl kk) ?_
  refine Sx.up (fun _ kk => r_iload 196 dL_law_194 rfl rfl kk) ?_
  refine Sx.up (fun _ kk => r_iconst (3) 197 dL_law_196 rfl (by decide) kk) ?_
  refine Sx.up (fun _ kk => r_iadd 198 dL_law_197 rfl kk) ?_
  refine Sx.up (fun _ kk => r_sldN (j + 3) (xs (j + 3)) 199 dL_law_198 rfl rfl (nI_c3 j) (show j + 3 < L by omega) hL rfl kk) ?_
  refine Sx.up (fun _ kk => r_aload_n 200 dL_law_199 rfl rfl kk) ?_
  refine Sx.up (fun _ kk => r_iload 202 dL_law_200 rfl rfl kk) ?_
  refine Sx.up (fun _ kk => r_iconst (4) 203 dL_law_202 rfl (by decide) kk) ?_
  refine Sx.up (fun _ kk => r_iadd 204 dL_law_203 rfl kk) ?_
  refine Sx.up (fun _ kk => r_sldN (j + 4) (xs (j + 4)) 205 dL_law_204 rfl rfl (nI_c4 j) (show j + 4 < L by omega) hL rfl kk) ?_
  refine Sx.up (fun _ kk => r_aload_n 206 dL_law_205 rfl rfl kk) ?_
  refine Sx.up (fun _ kk => r_iload 208 dL_law_206 rfl rfl kk) ?_
  refine Sx.up (fun _ kk => r_iconst (5) 209 dL_law_208 rfl (by decide) kk) ?_
  refine Sx.up (fun _ kk => r_iadd 210 dL_law_209 rfl kk) ?_
  refine Sx.up (fun _ kk => r_sldN (j + 5) (xs (j + 5)) 211 dL_law_210 rfl rfl (nI_c5 j) (show j + 5 < L by omega) hL rfl kk) ?_
  refine Sx.wide (bc2 := bc + bc2) (bs2 := bs + bs2) (by omega) (by omega) ?_
  refine Sx.up (fun _ kk => r_callVd (M := mL_law L xs) (pc := 211) (d := 61) (bc := bc) (bs := bs) (by decide) 214 dL_law_211 rfl k13_77 hc rfl rfl rfl (by decide) rfl (Nat.le_of_ble_eq_true rfl) (Nat.le_of_ble_eq_true rfl) kk) ?_
  refine Sx.up (fun _ kk => r_aload_n 215 dL_law_214 rfl rfl kk) ?_
  refine Sx.up (fun _ kk => r_aload_n 216 dL_law_215 rfl rfl kk) ?_
  refine Sx.up (fun _ kk => r_iload 218 dL_law_216 rfl rfl kk) ?_
  refine Sx.up (fun _ kk => r_iconst (1) 219 dL_law_218 rfl (by decide) kk) ?_
  refine Sx.up (fun _ kk => r_iadd 220 dL_law_219 rfl kk) ?_
  refine Sx.up (fun _ kk => r_sldN (j + 1) (xs (j + 1)) 221 dL_law_220 rfl rfl (nI_c1 j) (show j + 1 < L by omega) hL rfl kk) ?_
  refine Sx.up (fun _ kk => r_aload_n 222 dL_law_221 rfl rfl kk) ?_
  refine Sx.up (fun _ kk => r_iload 224 dL_law_222 rfl rfl kk) ?_
  refine Sx.up (fun _ kk => r_iconst (2) 225 dL_law_224 rfl (by decide) kk) ?_
  refine Sx.up (fun _ kk => r_iadd 226 dL_law_225 rfl kk) ?_
  refine Sx.up (fun _ kk => r_sldN (j + 2) (xs (j + 2)) 227 dL_law_226 rfl rfl (nI_c2 j) (show j + 2 < L by omega) hL rfl kk) ?_
  refine Sx.up (fun _ kk => r_aload_n 228 dL_law_227 rfl rfl kk) ?_
  refine Sx.up (fun _ kk => r_iload 230 dL_law_228 rfl rfl kk) ?_
  refine Sx.up (fun _ kk => r_iconst (3) 231 dL_law_230 rfl (by decide) kk) ?_
  refine Sx.up (fun _ kk => r_iadd 232 dL_law_231 rfl kk) ?_
  refine Sx.up (fun _ kk => r_sldN (j + 3) (xs (j + 3)) 233 dL_law_232 rfl rfl (nI_c3 j) (show j + 3 < L by omega) hL rfl kk) ?_
  refine Sx.up (fun _ kk => r_aload_n 234 dL_law_233 rfl rfl kk) ?_
  refine Sx.up (fun _ kk => r_iload 236 dL_law_234 rfl rfl kk) ?_
  refine Sx.up (fun _ kk => r_iconst (4) 237 dL_law_236 rfl (by decide) kk) ?_
  refine Sx.up (fun _ kk => r_iadd 238 dL_law_237 rfl kk) ?_
  refine Sx.up (fun _ kk => r_sldN (j + 4) (xs (j + 4)) 239 dL_law_238 rfl rfl (nI_c4 j) (show j + 4 < L by omega) hL rfl kk) ?_
  refine Sx.up (fun _ kk => r_aload_n 240 dL_law_239 rfl rfl kk) ?_
  refine Sx.up (fun _ kk => r_iload 242 dL_law_240 rfl rfl kk) ?_
  refine Sx.up (fun _ kk => r_iconst (5) 243 dL_law_242 rfl (by decide) kk) ?_
  refine Sx.up (fun _ kk => r_iadd 244 dL_law_243 rfl kk) ?_
  refine Sx.up (fun _ kk => r_sldN (j + 5) (xs (j + 5)) 245 dL_law_244 rfl rfl (nI_c5 j) (show j + 5 < L by omega) hL rfl kk) ?_
  refine Sx.up (fun _ kk => r_callVd (M := mL_law L xs) (pc := 245) (d := 61) (bc := bc) (bs := bs) (by decide) 248 dL_law_245 rfl k13_81 hm rfl rfl rfl (by decide) rfl (Nat.le_of_ble_eq_true rfl) (Nat.le_of_ble_eq_true rfl) kk) ?_
  refine Sx.up (fun _ kk => r_icmp_eq 251 1690 dL_law_248 rfl (by decide) (fun _ => kk) (fun z => absurd rfl z)) ?_
  exact kk E3 hR
set_option maxHeartbeats 16000000 in
set_option maxRecDepth 20000 in
theorem s_bed {L j bc bs : Nat} {xs : Nat → Int32} {Post : OUT → Prop} {E : HP} (hj : j + 5 < L) (hL : L ≤ 3072) (h : OpH yL_bed mL_bed yX12_bed mX12_bed [.int (xs (j + 1))] E) (kk : ∀ E3, Rel E3 → Sx (mL_law L xs) 62 bc bs Post 1690 [some (.ref 2000), some (.ref 0), some (.ref 95), some (.ref 136), some (.int (nI j)), none, none] [] E3 137) : Sx (mL_law L xs) 62 (bc + 1) (bs + 6) Post 253 [some (.ref 2000), some (.ref 0), some (.ref 95), some (.ref 136), some (.int (nI j)), none, none] [] E 137 := by
  obtain ⟨k, E2, bc2, bs2, h1, h2, hc, w, E3, hm, g1, g2, hR⟩ := h
  obtain ⟨b9, L9, m9, R9, k9, S9, t9, hN, hK⟩ := id hR
  refine Sx.up (fun _ kk => r_aload_n 254 dL_law_253 rfl rfl kk) ?_
  refine Sx.up (fun _ kk => r_aload_n 255 dL_law_254 rfl rfl kk) ?_
  refine Sx.up (fun _ kk => r_iload 257 dL_law_255 rfl rfl kk) ?_
  refine Sx.up (fun _ kk => r_iconst (1) 258 dL_law_257 rfl (by decide) kk) ?_
  refine Sx.up (fun _ kk => r_iadd 259 dL_law_258 rfl kk) ?_
  refine Sx.up (fun _ kk => r_sldN (j + 1) (xs (j + 1)) 260 dL_law_259 rfl rfl (nI_c1 j) (show j + 1 < L by omega) hL rfl kk) ?_
  refine Sx.up (fun _ kk => r_aload_n 261 dL_law_260 rfl rfl kk) ?_
  refine Sx.wide (bc2 := bc + bc2) (bs2 := bs + bs2) (by omega) (by omega) ?_
  refine Sx.up (fun _ kk => r_callSW (M := mL_law L xs) (pc := 261) (d := 61) (bc := bc) (bs := bs) 264 dL_law_261 rfl k13_82 hc rfl rfl (Nat.le_of_ble_eq_true rfl) kk) ?_
  refine Sx.up (fun _ kk => r_istore 266 dL_law_264 rfl (Nat.le_of_ble_eq_true rfl) rfl kk) ?_
  refine Sx.up (fun _ kk => r_aload_n 267 dL_law_266 rfl rfl kk) ?_
  refine Sx.up (fun _ kk => r_aload_n 268 dL_law_267 rfl rfl kk) ?_
  refine Sx.up (fun _ kk => r_iload 270 dL_law_268 rfl rfl kk) ?_
  refine Sx.up (fun _ kk => r_iconst (1) 271 dL_law_270 rfl (by decide) kk) ?_
  refine Sx.up (fun _ kk => r_iadd 272 dL_law_271 rfl kk) ?_
  refine Sx.up (fun _ kk => r_sldN (j + 1) (xs (j + 1)) 273 dL_law_272 rfl rfl (nI_c1 j) (show j + 1 < L by omega) hL rfl kk) ?_
  refine Sx.up (fun _ kk => r_callVd (M := mL_law L xs) (pc := 273) (d := 61) (bc := bc) (bs := bs) (by decide) 276 dL_law_273 rfl k13_87 hm rfl rfl rfl (by decide) rfl (Nat.le_of_ble_eq_true rfl) (Nat.le_of_ble_eq_true rfl) kk) ?_
  refine Sx.up (fun _ kk => r_istore 278 dL_law_276 rfl (Nat.le_of_ble_eq_true rfl) rfl kk) ?_
  refine Sx.up (fun _ kk => r_aload_n 279 dL_law_278 rfl rfl kk) ?_
  refine Sx.up (fun _ kk => r_callVd (M := mL_law L xs) (pc := 279) (d := 61) (bc := bc) (bs := bs) (by decide) 282 dL_law_279 rfl k13_88 (m_thrown (d := 52) (rel_td hN).2.1) rfl rfl rfl (by decide) rfl (Nat.le_of_ble_eq_true rfl) (Nat.le_of_ble_eq_true rfl) kk) ?_
  refine Sx.up (fun _ kk => r_iload 284 dL_law_282 rfl rfl kk) ?_
  refine Sx.up (fun _ kk => r_icmp_eq 287 289 dL_law_284 rfl (by decide) (fun _ => kk) (fun z => absurd g1 z)) ?_
  refine Sx.up (fun _ kk => r_iload 291 dL_law_289 rfl rfl kk) ?_
  refine Sx.br (fun _ ka kb => r_if_ne 294 306 dL_law_291 rfl (by decide) ka kb) (by first | exact em1 | exact em2) (fun hz => ?_) (fun hz => ?_)
  · refine Sx.up (fun _ kk => r_goto 1690 dL_law_306 (by decide) kk) ?_
    exact Sx.less (ls := [some (.ref 2000), some (.ref 0), some (.ref 95), some (.ref 136), some (.int (nI j)), none, none]) (by exact ⟨rfl, rfl, rfl, rfl, rfl, trivial⟩) (kk E3 hR)
  · refine Sx.up (fun _ kk => r_aload_n 295 dL_law_294 rfl rfl kk) ?_
    refine Sx.up (fun _ kk => r_iconst (0) 296 dL_law_295 rfl (by decide) kk) ?_
    refine Sx.up (fun _ kk => r_lald (l9 := 1) 297 dL_law_296 rfl rfl (Nat.le_of_ble_eq_true rfl) (by unfold vp_in; decide) kk) ?_
    refine Sx.up (fun _ kk => r_iload 299 dL_law_297 rfl rfl kk) ?_
    refine Sx.up (fun _ kk => r_i2l 300 dL_law_299 rfl kk) ?_
    refine Sx.up (fun _ kk => r_lcmp 301 dL_law_300 rfl kk) ?_
    refine Sx.up (fun _ kk => r_if_eq 304 306 dL_law_301 rfl (by decide) (fun _ => kk) (fun z => absurd (lcmp_0 (g2 hz)) z)) ?_
    refine Sx.up (fun _ kk => r_goto 1690 dL_law_306 (by decide) kk) ?_
    exact Sx.less (ls := [some (.ref 2000), some (.ref 0), some (.ref 95), some (.ref 136), some (.int (nI j)), none, none]) (by exact ⟨rfl, rfl, rfl, rfl, rfl, trivial⟩) (kk E3 hR)
set_option maxRecDepth 20000 in
theorem s_fault {L j bc bs : Nat} {xs : Nat → Int32} {Post : OUT → Prop} {E : HP} (hj : j + 5 < L) (hL : L ≤ 3072) (h : OpP yX11_fault mX11_fault yX12_fault mX12_fault [] E) (kk : ∀ E3, Rel E3 → Sx (mL_law L xs) 62 bc bs Post 1690 [some (.ref 2000), some (.ref 0), some (.ref 95), some (.ref 136), some (.int (nI j)), none, none] [] E3 137) : Sx (mL_law L xs) 62 (bc + 1) (bs + 6) Post 309 [some (.ref 2000), some (.ref 0), some (.ref 95), some (.ref 136), some (.int (nI j)), none, none] [] E 137 := by
  obtain ⟨v, E2, bc2, bs2, h1, h2, hc, E3, hm, hR⟩ := h
  refine Sx.up (fun _ kk => r_aload_n 310 dL_law_309 rfl rfl kk) ?_
  refine Sx.wide (bc2 := bc + bc2) (bs2 := bs + bs2) (by omega) (by omega) ?_
  refine Sx.up (fun _ kk => r_callVd (M := mL_law L xs) (pc := 310) (d := 61) (bc := bc) (bs := bs) (by decide) 313 dL_law_310 rfl k13_92 hc rfl rfl rfl (by decide) rfl (Nat.le_of_ble_eq_true rfl) (Nat.le_of_ble_eq_true rfl) kk) ?_
  refine Sx.up (fun _ kk => r_aload_n 314 dL_law_313 rfl rfl kk) ?_
  refine Sx.up (fun _ kk => r_callVd (M := mL_law L xs) (pc := 314) (d := 61) (bc := bc) (bs := bs) (by decide) 317 dL_law_314 rfl k13_95 hm rfl rfl rfl (by decide) rfl (Nat.le_of_ble_eq_true rfl) (Nat.le_of_ble_eq_true rfl) kk) ?_
  refine Sx.up (fun _ kk => r_icmp_eq 320 1690 dL_law_317 rfl (by decide) (fun _ => kk) (fun z => absurd rfl z)) ?_
  exact kk E3 hR
set_option maxHeartbeats 16000000 in
set_option maxRecDepth 20000 in
theorem s_count {L j bc bs : Nat} {xs : Nat → Int32} {Post : OUT → Prop} {E : HP} (hj : j + 5 < L) (hL : L ≤ 3072) (h : OpH yL_count mL_count yX12_count mX12_count [.int (xs (j + 1))] E) (kk : ∀ E3, Rel E3 → Sx (mL_law L xs) 62 bc bs Post 1690 [some (.ref 2000), some (.ref 0), some (.ref 95), some (.ref 136), some (.int (nI j)), none, none] [] E3 137) : Sx (mL_law L xs) 62 (bc + 1) (bs + 6) Post 322 [some (.ref 2000), some (.ref 0), some (.ref 95), some (.ref 136), some (.int (nI j)), none, none] [] E 137 := by
  obtain ⟨k, E2, bc2, bs2, h1, h2, hc, w, E3, hm, g1, g2, hR⟩ := h
  obtain ⟨b9, L9, m9, R9, k9, S9, t9, hN, hK⟩ := id hR
  refine Sx.up (fun _ kk => r_aload_n 323 dL_law_322 rfl rfl kk) ?_
  refine Sx.up (fun _ kk => r_aload_n 324 dL_law_323 rfl rfl kk) ?_
  refine Sx.up (fun _ kk => r_iload 326 dL_law_324 rfl rfl kk) ?_
  refine Sx.up (fun _ kk => r_iconst (1) 327 dL_law_326 rfl (by decide) kk) ?_
  refine Sx.up (fun _ kk => r_iadd 328 dL_law_327 rfl kk) ?_
  refine Sx.up (fun _ kk => r_sldN (j + 1) (xs (j + 1)) 329 dL_law_328 rfl rfl (nI_c1 j) (show j + 1 < L by omega) hL rfl kk) ?_
  refine Sx.up (fun _ kk => r_aload_n 330 dL_law_329 rfl rfl kk) ?_
  refine Sx.wide (bc2 := bc + bc2) (bs2 := bs + bs2) (by omega) (by omega) ?_
  refine Sx.up (fun _ kk => r_callSW (M := mL_law L xs) (pc := 330) (d := 61) (bc := bc) (bs := bs) 333 dL_law_330 rfl k13_96 hc rfl rfl (Nat.le_of_ble_eq_true rfl) kk) ?_
  refine Sx.up (fun _ kk => r_istore 335 dL_law_333 rfl (Nat.le_of_ble_eq_true rfl) rfl kk) ?_
  refine Sx.up (fun _ kk => r_aload_n 336 dL_law_335 rfl rfl kk) ?_
  refine Sx.up (fun _ kk => r_aload_n 337 dL_law_336 rfl rfl kk) ?_
  refine Sx.up (fun _ kk => r_iload 339 dL_law_337 rfl rfl kk) ?_
  refine Sx.up (fun _ kk => r_iconst (1) 340 dL_law_339 rfl (by decide) kk) ?_
  refine Sx.up (fun _ kk => r_iadd 341 dL_law_340 rfl kk) ?_
  refine Sx.up (fun _ kk => r_sldN (j + 1) (xs (j + 1)) 342 dL_law_341 rfl rfl (nI_c1 j) (show j + 1 < L by omega) hL rfl kk) ?_
  refine Sx.up (fun _ kk => r_callVd (M := mL_law L xs) (pc := 342) (d := 61) (bc := bc) (bs := bs) (by decide) 345 dL_law_342 rfl k13_98 hm rfl rfl rfl (by decide) rfl (Nat.le_of_ble_eq_true rfl) (Nat.le_of_ble_eq_true rfl) kk) ?_
  refine Sx.up (fun _ kk => r_istore 347 dL_law_345 rfl (Nat.le_of_ble_eq_true rfl) rfl kk) ?_
  refine Sx.up (fun _ kk => r_aload_n 348 dL_law_347 rfl rfl kk) ?_
  refine Sx.up (fun _ kk => r_callVd (M := mL_law L xs) (pc := 348) (d := 61) (bc := bc) (bs := bs) (by decide) 351 dL_law_348 rfl k13_88 (m_thrown (d := 52) (rel_td hN).2.1) rfl rfl rfl (by decide) rfl (Nat.le_of_ble_eq_true rfl) (Nat.le_of_ble_eq_true rfl) kk) ?_
  refine Sx.up (fun _ kk => r_iload 353 dL_law_351 rfl rfl kk) ?_
  refine Sx.up (fun _ kk => r_icmp_eq 356 358 dL_law_353 rfl (by decide) (fun _ => kk) (fun z => absurd g1 z)) ?_
  refine Sx.up (fun _ kk => r_iload 360 dL_law_358 rfl rfl kk) ?_
  refine Sx.br (fun _ ka kb => r_if_ne 363 375 dL_law_360 rfl (by decide) ka kb) (by first | exact em1 | exact em2) (fun hz => ?_) (fun hz => ?_)
  · refine Sx.up (fun _ kk => r_goto 1690 dL_law_375 (by decide) kk) ?_
    exact Sx.less (ls := [some (.ref 2000), some (.ref 0), some (.ref 95), some (.ref 136), some (.int (nI j)), none, none]) (by exact ⟨rfl, rfl, rfl, rfl, rfl, trivial⟩) (kk E3 hR)
  · refine Sx.up (fun _ kk => r_aload_n 364 dL_law_363 rfl rfl kk) ?_
    refine Sx.up (fun _ kk => r_iconst (0) 365 dL_law_364 rfl (by decide) kk) ?_
    refine Sx.up (fun _ kk => r_lald (l9 := 1) 366 dL_law_365 rfl rfl (Nat.le_of_ble_eq_true rfl) (by unfold vp_in; decide) kk) ?_
    refine Sx.up (fun _ kk => r_iload 368 dL_law_366 rfl rfl kk) ?_
    refine Sx.up (fun _ kk => r_i2l 369 dL_law_368 rfl kk) ?_
    refine Sx.up (fun _ kk => r_lcmp 370 dL_law_369 rfl kk) ?_
    refine Sx.up (fun _ kk => r_if_eq 373 375 dL_law_370 rfl (by decide) (fun _ => kk) (fun z => absurd (lcmp_0 (g2 hz)) z)) ?_
    refine Sx.up (fun _ kk => r_goto 1690 dL_law_375 (by decide) kk) ?_
    exact Sx.less (ls := [some (.ref 2000), some (.ref 0), some (.ref 95), some (.ref 136), some (.int (nI j)), none, none]) (by exact ⟨rfl, rfl, rfl, rfl, rfl, trivial⟩) (kk E3 hR)
set_option maxHeartbeats 16000000 in
set_option maxRecDepth 20000 in
theorem s_sleeper {L j bc bs : Nat} {xs : Nat → Int32} {Post : OUT → Prop} {E : HP} (hj : j + 5 < L) (hL : L ≤ 3072) (h : OpH yL_sleeper mL_sleeper yX12_sleeper mX12_sleeper [.int (xs (j + 1)), .int (xs (j + 2))] E) (kk : ∀ E3, Rel E3 → Sx (mL_law L xs) 62 bc bs Post 1690 [some (.ref 2000), some (.ref 0), some (.ref 95), some (.ref 136), some (.int (nI j)), none, none] [] E3 137) : Sx (mL_law L xs) 62 (bc + 1) (bs + 6) Post 378 [some (.ref 2000), some (.ref 0), some (.ref 95), some (.ref 136), some (.int (nI j)), none, none] [] E 137 := by
  obtain ⟨k, E2, bc2, bs2, h1, h2, hc, w, E3, hm, g1, g2, hR⟩ := h
  obtain ⟨b9, L9, m9, R9, k9, S9, t9, hN, hK⟩ := id hR
  refine Sx.up (fun _ kk => r_aload_n 379 dL_law_378 rfl rfl kk) ?_
  refine Sx.up (fun _ kk => r_aload_n 380 dL_law_379 rfl rfl kk) ?_
  refine Sx.up (fun _ kk => r_iload 382 dL_law_380 rfl rfl kk) ?_
  refine Sx.up (fun _ kk => r_iconst (1) 383 dL_law_382 rfl (by decide) kk) ?_
  refine Sx.up (fun _ kk => r_iadd 384 dL_law_383 rfl kk) ?_
  refine Sx.up (fun _ kk => r_sldN (j + 1) (xs (j + 1)) 385 dL_law_384 rfl rfl (nI_c1 j) (show j + 1 < L by omega) hL rfl kk) ?_
  refine Sx.up (fun _ kk => r_aload_n 386 dL_law_385 rfl rfl kk) ?_
  refine Sx.up (fun _ kk => r_iload 388 dL_law_386 rfl rfl kk) ?_
  refine Sx.up (fun _ kk => r_iconst (2) 389 dL_law_388 rfl (by decide) kk) ?_
  refine Sx.up (fun _ kk => r_iadd 390 dL_law_389 rfl kk) ?_
  refine Sx.up (fun _ kk => r_sldN (j + 2) (xs (j + 2)) 391 dL_law_390 rfl rfl (nI_c2 j) (show j + 2 < L by omega) hL rfl kk) ?_
  refine Sx.up (fun _ kk => r_aload_n 392 dL_law_391 rfl rfl kk) ?_
  refine Sx.wide (bc2 := bc + bc2) (bs2 := bs + bs2) (by omega) (by omega) ?_
  refine Sx.up (fun _ kk => r_callSW (M := mL_law L xs) (pc := 392) (d := 61) (bc := bc) (bs := bs) 395 dL_law_392 rfl k13_99 hc rfl rfl (Nat.le_of_ble_eq_true rfl) kk) ?_
  refine Sx.up (fun _ kk => r_istore 397 dL_law_395 rfl (Nat.le_of_ble_eq_true rfl) rfl kk) ?_
  refine Sx.up (fun _ kk => r_aload_n 398 dL_law_397 rfl rfl kk) ?_
  refine Sx.up (fun _ kk => r_aload_n 399 dL_law_398 rfl rfl kk) ?_
  refine Sx.up (fun _ kk => r_iload 401 dL_law_399 rfl rfl kk) ?_
  refine Sx.up (fun _ kk => r_iconst (1) 402 dL_law_401 rfl (by decide) kk) ?_
  refine Sx.up (fun _ kk => r_iadd 403 dL_law_402 rfl kk) ?_
  refine Sx.up (fun _ kk => r_sldN (j + 1) (xs (j + 1)) 404 dL_law_403 rfl rfl (nI_c1 j) (show j + 1 < L by omega) hL rfl kk) ?_
  refine Sx.up (fun _ kk => r_aload_n 405 dL_law_404 rfl rfl kk) ?_
  refine Sx.up (fun _ kk => r_iload 407 dL_law_405 rfl rfl kk) ?_
  refine Sx.up (fun _ kk => r_iconst (2) 408 dL_law_407 rfl (by decide) kk) ?_
  refine Sx.up (fun _ kk => r_iadd 409 dL_law_408 rfl kk) ?_
  refine Sx.up (fun _ kk => r_sldN (j + 2) (xs (j + 2)) 410 dL_law_409 rfl rfl (nI_c2 j) (show j + 2 < L by omega) hL rfl kk) ?_
  refine Sx.up (fun _ kk => r_callVd (M := mL_law L xs) (pc := 410) (d := 61) (bc := bc) (bs := bs) (by decide) 413 dL_law_410 rfl k13_102 hm rfl rfl rfl (by decide) rfl (Nat.le_of_ble_eq_true rfl) (Nat.le_of_ble_eq_true rfl) kk) ?_
  refine Sx.up (fun _ kk => r_istore 415 dL_law_413 rfl (Nat.le_of_ble_eq_true rfl) rfl kk) ?_
  refine Sx.up (fun _ kk => r_aload_n 416 dL_law_415 rfl rfl kk) ?_
  refine Sx.up (fun _ kk => r_callVd (M := mL_law L xs) (pc := 416) (d := 61) (bc := bc) (bs := bs) (by decide) 419 dL_law_416 rfl k13_88 (m_thrown (d := 52) (rel_td hN).2.1) rfl rfl rfl (by decide) rfl (Nat.le_of_ble_eq_true rfl) (Nat.le_of_ble_eq_true rfl) kk) ?_
  refine Sx.up (fun _ kk => r_iload 421 dL_law_419 rfl rfl kk) ?_
  refine Sx.up (fun _ kk => r_icmp_eq 424 426 dL_law_421 rfl (by decide) (fun _ => kk) (fun z => absurd g1 z)) ?_
  refine Sx.up (fun _ kk => r_iload 428 dL_law_426 rfl rfl kk) ?_
  refine Sx.br (fun _ ka kb => r_if_ne 431 443 dL_law_428 rfl (by decide) ka kb) (by first | exact em1 | exact em2) (fun hz => ?_) (fun hz => ?_)
  · refine Sx.up (fun _ kk => r_goto 1690 dL_law_443 (by decide) kk) ?_
    exact Sx.less (ls := [some (.ref 2000), some (.ref 0), some (.ref 95), some (.ref 136), some (.int (nI j)), none, none]) (by exact ⟨rfl, rfl, rfl, rfl, rfl, trivial⟩) (kk E3 hR)
  · refine Sx.up (fun _ kk => r_aload_n 432 dL_law_431 rfl rfl kk) ?_
    refine Sx.up (fun _ kk => r_iconst (0) 433 dL_law_432 rfl (by decide) kk) ?_
    refine Sx.up (fun _ kk => r_lald (l9 := 1) 434 dL_law_433 rfl rfl (Nat.le_of_ble_eq_true rfl) (by unfold vp_in; decide) kk) ?_
    refine Sx.up (fun _ kk => r_iload 436 dL_law_434 rfl rfl kk) ?_
    refine Sx.up (fun _ kk => r_i2l 437 dL_law_436 rfl kk) ?_
    refine Sx.up (fun _ kk => r_lcmp 438 dL_law_437 rfl kk) ?_
    refine Sx.up (fun _ kk => r_if_eq 441 443 dL_law_438 rfl (by decide) (fun _ => kk) (fun z => absurd (lcmp_0 (g2 hz)) z)) ?_
    refine Sx.up (fun _ kk => r_goto 1690 dL_law_443 (by decide) kk) ?_
    exact Sx.less (ls := [some (.ref 2000), some (.ref 0), some (.ref 95), some (.ref 136), some (.int (nI j)), none, none]) (by exact ⟨rfl, rfl, rfl, rfl, rfl, trivial⟩) (kk E3 hR)
set_option maxRecDepth 20000 in
theorem s_swap {L j bc bs : Nat} {xs : Nat → Int32} {Post : OUT → Prop} {E : HP} (hj : j + 5 < L) (hL : L ≤ 3072) (h : OpP yX11_swap mX11_swap yX12_swap mX12_swap [.int (xs (j + 1)), .int (xs (j + 2))] E) (kk : ∀ E3, Rel E3 → Sx (mL_law L xs) 62 bc bs Post 1690 [some (.ref 2000), some (.ref 0), some (.ref 95), some (.ref 136), some (.int (nI j)), none, none] [] E3 137) : Sx (mL_law L xs) 62 (bc + 1) (bs + 6) Post 446 [some (.ref 2000), some (.ref 0), some (.ref 95), some (.ref 136), some (.int (nI j)), none, none] [] E 137 := by
  obtain ⟨v, E2, bc2, bs2, h1, h2, hc, E3, hm, hR⟩ := h
  refine Sx.up (fun _ kk => r_aload_n 447 dL_law_446 rfl rfl kk) ?_
  refine Sx.up (fun _ kk => r_aload_n 448 dL_law_447 rfl rfl kk) ?_
  refine Sx.up (fun _ kk => r_iload 450 dL_law_448 rfl rfl kk) ?_
  refine Sx.up (fun _ kk => r_iconst (1) 451 dL_law_450 rfl (by decide) kk) ?_
  refine Sx.up (fun _ kk => r_iadd 452 dL_law_451 rfl kk) ?_
  refine Sx.up (fun _ kk => r_sldN (j + 1) (xs (j + 1)) 453 dL_law_452 rfl rfl (nI_c1 j) (show j + 1 < L by omega) hL rfl kk) ?_
  refine Sx.up (fun _ kk => r_aload_n 454 dL_law_453 rfl rfl kk) ?_
  refine Sx.up (fun _ kk => r_iload 456 dL_law_454 rfl rfl kk) ?_
  refine Sx.up (fun _ kk => r_iconst (2) 457 dL_law_456 rfl (by decide) kk) ?_
  refine Sx.up (fun _ kk => r_iadd 458 dL_law_457 rfl kk) ?_
  refine Sx.up (fun _ kk => r_sldN (j + 2) (xs (j + 2)) 459 dL_law_458 rfl rfl (nI_c2 j) (show j + 2 < L by omega) hL rfl kk) ?_
  refine Sx.wide (bc2 := bc + bc2) (bs2 := bs + bs2) (by omega) (by omega) ?_
  refine Sx.up (fun _ kk => r_callVd (M := mL_law L xs) (pc := 459) (d := 61) (bc := bc) (bs := bs) (by decide) 462 dL_law_459 rfl k13_103 hc rfl rfl rfl (by decide) rfl (Nat.le_of_ble_eq_true rfl) (Nat.le_of_ble_eq_true rfl) kk) ?_
  refine Sx.up (fun _ kk => r_aload_n 463 dL_law_462 rfl rfl kk) ?_
  refine Sx.up (fun _ kk => r_aload_n 464 dL_law_463 rfl rfl kk) ?_
  refine Sx.up (fun _ kk => r_iload 466 dL_law_464 rfl rfl kk) ?_
  refine Sx.up (fun _ kk => r_iconst (1) 467 dL_law_466 rfl (by decide) kk) ?_
  refine Sx.up (fun _ kk => r_iadd 468 dL_law_467 rfl kk) ?_
  refine Sx.up (fun _ kk => r_sldN (j + 1) (xs (j + 1)) 469 dL_law_468 rfl rfl (nI_c1 j) (show j + 1 < L by omega) hL rfl kk) ?_
  refine Sx.up (fun _ kk => r_aload_n 470 dL_law_469 rfl rfl kk) ?_
  refine Sx.up (fun _ kk => r_iload 472 dL_law_470 rfl rfl kk) ?_
  refine Sx.up (fun _ kk => r_iconst (2) 473 dL_law_472 rfl (by decide) kk) ?_
  refine Sx.up (fun _ kk => r_iadd 474 dL_law_473 rfl kk) ?_
  refine Sx.up (fun _ kk => r_sldN (j + 2) (xs (j + 2)) 475 dL_law_474 rfl rfl (nI_c2 j) (show j + 2 < L by omega) hL rfl kk) ?_
  refine Sx.up (fun _ kk => r_callVd (M := mL_law L xs) (pc := 475) (d := 61) (bc := bc) (bs := bs) (by decide) 478 dL_law_475 rfl k13_107 hm rfl rfl rfl (by decide) rfl (Nat.le_of_ble_eq_true rfl) (Nat.le_of_ble_eq_true rfl) kk) ?_
  refine Sx.up (fun _ kk => r_icmp_eq 481 1690 dL_law_478 rfl (by decide) (fun _ => kk) (fun z => absurd rfl z)) ?_
  exact kk E3 hR
set_option maxRecDepth 20000 in
theorem s_side {L j bc bs : Nat} {xs : Nat → Int32} {Post : OUT → Prop} {E : HP} (hj : j + 5 < L) (hL : L ≤ 3072) (h : OpP yX11_side mX11_side yX12_side mX12_side [.int (xs (j + 1))] E) (kk : ∀ E3, Rel E3 → Sx (mL_law L xs) 62 bc bs Post 1690 [some (.ref 2000), some (.ref 0), some (.ref 95), some (.ref 136), some (.int (nI j)), none, none] [] E3 137) : Sx (mL_law L xs) 62 (bc + 1) (bs + 6) Post 483 [some (.ref 2000), some (.ref 0), some (.ref 95), some (.ref 136), some (.int (nI j)), none, none] [] E 137 := by
  obtain ⟨v, E2, bc2, bs2, h1, h2, hc, E3, hm, hR⟩ := h
  refine Sx.up (fun _ kk => r_aload_n 484 dL_law_483 rfl rfl kk) ?_
  refine Sx.up (fun _ kk => r_aload_n 485 dL_law_484 rfl rfl kk) ?_
  refine Sx.up (fun _ kk => r_iload 487 dL_law_485 rfl rfl kk) ?_
  refine Sx.up (fun _ kk => r_iconst (1) 488 dL_law_487 rfl (by decide) kk) ?_
  refine Sx.up (fun _ kk => r_iadd 489 dL_law_488 rfl kk) ?_
  refine Sx.up (fun _ kk => r_sldN (j + 1) (xs (j + 1)) 490 dL_law_489 rfl rfl (nI_c1 j) (show j + 1 < L by omega) hL rfl kk) ?_
  refine Sx.wide (bc2 := bc + bc2) (bs2 := bs + bs2) (by omega) (by omega) ?_
  refine Sx.up (fun _ kk => r_callVd (M := mL_law L xs) (pc := 490) (d := 61) (bc := bc) (bs := bs) (by decide) 493 dL_law_490 rfl k13_108 hc rfl rfl rfl (by decide) rfl (Nat.le_of_ble_eq_true rfl) (Nat.le_of_ble_eq_true rfl) kk) ?_
  refine Sx.up (fun _ kk => r_aload_n 494 dL_law_493 rfl rfl kk) ?_
  refine Sx.up (fun _ kk => r_aload_n 495 dL_law_494 rfl rfl kk) ?_
  refine Sx.up (fun _ kk => r_iload 497 dL_law_495 rfl rfl kk) ?_
  refine Sx.up (fun _ kk => r_iconst (1) 498 dL_law_497 rfl (by decide) kk) ?_
  refine Sx.up (fun _ kk => r_iadd 499 dL_law_498 rfl kk) ?_
  refine Sx.up (fun _ kk => r_sldN (j + 1) (xs (j + 1)) 500 dL_law_499 rfl rfl (nI_c1 j) (show j + 1 < L by omega) hL rfl kk) ?_
  refine Sx.up (fun _ kk => r_callVd (M := mL_law L xs) (pc := 500) (d := 61) (bc := bc) (bs := bs) (by decide) 503 dL_law_500 rfl k13_111 hm rfl rfl rfl (by decide) rfl (Nat.le_of_ble_eq_true rfl) (Nat.le_of_ble_eq_true rfl) kk) ?_
  refine Sx.up (fun _ kk => r_icmp_eq 506 1690 dL_law_503 rfl (by decide) (fun _ => kk) (fun z => absurd rfl z)) ?_
  exact kk E3 hR
set_option maxHeartbeats 16000000 in
set_option maxRecDepth 20000 in
theorem s_word {L j bc bs : Nat} {xs : Nat → Int32} {Post : OUT → Prop} {E : HP} (hj : j + 5 < L) (hL : L ≤ 3072) (h : OpH yL_word mL_word yX12_word mX12_word [.int (xs (j + 1)), .int (xs (j + 2))] E) (kk : ∀ E3, Rel E3 → Sx (mL_law L xs) 62 bc bs Post 1690 [some (.ref 2000), some (.ref 0), some (.ref 95), some (.ref 136), some (.int (nI j)), none, none] [] E3 137) : Sx (mL_law L xs) 62 (bc + 1) (bs + 6) Post 508 [some (.ref 2000), some (.ref 0), some (.ref 95), some (.ref 136), some (.int (nI j)), none, none] [] E 137 := by
  obtain ⟨k, E2, bc2, bs2, h1, h2, hc, w, E3, hm, g1, g2, hR⟩ := h
  obtain ⟨b9, L9, m9, R9, k9, S9, t9, hN, hK⟩ := id hR
  refine Sx.up (fun _ kk => r_aload_n 509 dL_law_508 rfl rfl kk) ?_
  refine Sx.up (fun _ kk => r_aload_n 510 dL_law_509 rfl rfl kk) ?_
  refine Sx.up (fun _ kk => r_iload 512 dL_law_510 rfl rfl kk) ?_
  refine Sx.up (fun _ kk => r_iconst (1) 513 dL_law_512 rfl (by decide) kk) ?_
  refine Sx.up (fun _ kk => r_iadd 514 dL_law_513 rfl kk) ?_
  refine Sx.up (fun _ kk => r_sldN (j + 1) (xs (j + 1)) 515 dL_law_514 rfl rfl (nI_c1 j) (show j + 1 < L by omega) hL rfl kk) ?_
  refine Sx.up (fun _ kk => r_aload_n 516 dL_law_515 rfl rfl kk) ?_
  refine Sx.up (fun _ kk => r_iload 518 dL_law_516 rfl rfl kk) ?_
  refine Sx.up (fun _ kk => r_iconst (2) 519 dL_law_518 rfl (by decide) kk) ?_
  refine Sx.up (fun _ kk => r_iadd 520 dL_law_519 rfl kk) ?_
  refine Sx.up (fun _ kk => r_sldN (j + 2) (xs (j + 2)) 521 dL_law_520 rfl rfl (nI_c2 j) (show j + 2 < L by omega) hL rfl kk) ?_
  refine Sx.up (fun _ kk => r_aload_n 522 dL_law_521 rfl rfl kk) ?_
  refine Sx.wide (bc2 := bc + bc2) (bs2 := bs + bs2) (by omega) (by omega) ?_
  refine Sx.up (fun _ kk => r_callSW (M := mL_law L xs) (pc := 522) (d := 61) (bc := bc) (bs := bs) 525 dL_law_522 rfl k13_112 hc rfl rfl (Nat.le_of_ble_eq_true rfl) kk) ?_
  refine Sx.up (fun _ kk => r_istore 527 dL_law_525 rfl (Nat.le_of_ble_eq_true rfl) rfl kk) ?_
  refine Sx.up (fun _ kk => r_aload_n 528 dL_law_527 rfl rfl kk) ?_
  refine Sx.up (fun _ kk => r_aload_n 529 dL_law_528 rfl rfl kk) ?_
  refine Sx.up (fun _ kk => r_iload 531 dL_law_529 rfl rfl kk) ?_
  refine Sx.up (fun _ kk => r_iconst (1) 532 dL_law_531 rfl (by decide) kk) ?_
  refine Sx.up (fun _ kk => r_iadd 533 dL_law_532 rfl kk) ?_
  refine Sx.up (fun _ kk => r_sldN (j + 1) (xs (j + 1)) 534 dL_law_533 rfl rfl (nI_c1 j) (show j + 1 < L by omega) hL rfl kk) ?_
  refine Sx.up (fun _ kk => r_aload_n 535 dL_law_534 rfl rfl kk) ?_
  refine Sx.up (fun _ kk => r_iload 537 dL_law_535 rfl rfl kk) ?_
  refine Sx.up (fun _ kk => r_iconst (2) 538 dL_law_537 rfl (by decide) kk) ?_
  refine Sx.up (fun _ kk => r_iadd 539 dL_law_538 rfl kk) ?_
  refine Sx.up (fun _ kk => r_sldN (j + 2) (xs (j + 2)) 540 dL_law_539 rfl rfl (nI_c2 j) (show j + 2 < L by omega) hL rfl kk) ?_
  refine Sx.up (fun _ kk => r_callVd (M := mL_law L xs) (pc := 540) (d := 61) (bc := bc) (bs := bs) (by decide) 543 dL_law_540 rfl k13_114 hm rfl rfl rfl (by decide) rfl (Nat.le_of_ble_eq_true rfl) (Nat.le_of_ble_eq_true rfl) kk) ?_
  refine Sx.up (fun _ kk => r_istore 545 dL_law_543 rfl (Nat.le_of_ble_eq_true rfl) rfl kk) ?_
  refine Sx.up (fun _ kk => r_aload_n 546 dL_law_545 rfl rfl kk) ?_
  refine Sx.up (fun _ kk => r_callVd (M := mL_law L xs) (pc := 546) (d := 61) (bc := bc) (bs := bs) (by decide) 549 dL_law_546 rfl k13_88 (m_thrown (d := 52) (rel_td hN).2.1) rfl rfl rfl (by decide) rfl (Nat.le_of_ble_eq_true rfl) (Nat.le_of_ble_eq_true rfl) kk) ?_
  refine Sx.up (fun _ kk => r_iload 551 dL_law_549 rfl rfl kk) ?_
  refine Sx.up (fun _ kk => r_icmp_eq 554 556 dL_law_551 rfl (by decide) (fun _ => kk) (fun z => absurd g1 z)) ?_
  refine Sx.up (fun _ kk => r_iload 558 dL_law_556 rfl rfl kk) ?_
  refine Sx.br (fun _ ka kb => r_if_ne 561 573 dL_law_558 rfl (by decide) ka kb) (by first | exact em1 | exact em2) (fun hz => ?_) (fun hz => ?_)
  · refine Sx.up (fun _ kk => r_goto 1690 dL_law_573 (by decide) kk) ?_
    exact Sx.less (ls := [some (.ref 2000), some (.ref 0), some (.ref 95), some (.ref 136), some (.int (nI j)), none, none]) (by exact ⟨rfl, rfl, rfl, rfl, rfl, trivial⟩) (kk E3 hR)
  · refine Sx.up (fun _ kk => r_aload_n 562 dL_law_561 rfl rfl kk) ?_
    refine Sx.up (fun _ kk => r_iconst (0) 563 dL_law_562 rfl (by decide) kk) ?_
    refine Sx.up (fun _ kk => r_lald (l9 := 1) 564 dL_law_563 rfl rfl (Nat.le_of_ble_eq_true rfl) (by unfold vp_in; decide) kk) ?_
    refine Sx.up (fun _ kk => r_iload 566 dL_law_564 rfl rfl kk) ?_
    refine Sx.up (fun _ kk => r_i2l 567 dL_law_566 rfl kk) ?_
    refine Sx.up (fun _ kk => r_lcmp 568 dL_law_567 rfl kk) ?_
    refine Sx.up (fun _ kk => r_if_eq 571 573 dL_law_568 rfl (by decide) (fun _ => kk) (fun z => absurd (lcmp_0 (g2 hz)) z)) ?_
    refine Sx.up (fun _ kk => r_goto 1690 dL_law_573 (by decide) kk) ?_
    exact Sx.less (ls := [some (.ref 2000), some (.ref 0), some (.ref 95), some (.ref 136), some (.int (nI j)), none, none]) (by exact ⟨rfl, rfl, rfl, rfl, rfl, trivial⟩) (kk E3 hR)
set_option maxHeartbeats 16000000 in
set_option maxRecDepth 20000 in
theorem s_bolster {L j bc bs : Nat} {xs : Nat → Int32} {Post : OUT → Prop} {E : HP} (hj : j + 5 < L) (hL : L ≤ 3072) (h : ∀ w : Int32, w = 0 ∨ w = 1 → OpP yX11_bolster mX11_bolster yX12_bolster mX12_bolster [.int (xs (j + 1)), .int w] E) (kk : ∀ E3, Rel E3 → Sx (mL_law L xs) 62 bc bs Post 1690 [some (.ref 2000), some (.ref 0), some (.ref 95), some (.ref 136), some (.int (nI j)), none, none] [] E3 137) : Sx (mL_law L xs) 62 (bc + 1) (bs + 6) Post 576 [some (.ref 2000), some (.ref 0), some (.ref 95), some (.ref 136), some (.int (nI j)), none, none] [] E 137 := by
  by_cases hz : xs (j + 2) = 0
  · obtain ⟨v, E2, bc2, bs2, h1, h2, hc, E3, hm, hR⟩ := h 0 (by decide)
    refine Sx.up (fun _ kk => r_aload_n 577 dL_law_576 rfl rfl kk) ?_
    refine Sx.up (fun _ kk => r_aload_n 578 dL_law_577 rfl rfl kk) ?_
    refine Sx.up (fun _ kk => r_iload 580 dL_law_578 rfl rfl kk) ?_
    refine Sx.up (fun _ kk => r_iconst (1) 581 dL_law_580 rfl (by decide) kk) ?_
    refine Sx.up (fun _ kk => r_iadd 582 dL_law_581 rfl kk) ?_
    refine Sx.up (fun _ kk => r_sldN (j + 1) (xs (j + 1)) 583 dL_law_582 rfl rfl (nI_c1 j) (show j + 1 < L by omega) hL rfl kk) ?_
    refine Sx.up (fun _ kk => r_aload_n 584 dL_law_583 rfl rfl kk) ?_
    refine Sx.up (fun _ kk => r_iload 586 dL_law_584 rfl rfl kk) ?_
    refine Sx.up (fun _ kk => r_iconst (2) 587 dL_law_586 rfl (by decide) kk) ?_
    refine Sx.up (fun _ kk => r_iadd 588 dL_law_587 rfl kk) ?_
    refine Sx.up (fun _ kk => r_sldN (j + 2) (xs (j + 2)) 589 dL_law_588 rfl rfl (nI_c2 j) (show j + 2 < L by omega) hL rfl kk) ?_
    refine Sx.up (fun _ kk => r_if_eq 592 596 dL_law_589 rfl (by decide) (fun _ => kk) (fun z => absurd hz z)) ?_
    refine Sx.up (fun _ kk => r_iconst (0) 597 dL_law_596 rfl (by decide) kk) ?_
    refine Sx.wide (bc2 := bc + bc2) (bs2 := bs + bs2) (by omega) (by omega) ?_
    refine Sx.up (fun _ kk => r_callVd (M := mL_law L xs) (pc := 597) (d := 61) (bc := bc) (bs := bs) (by decide) 600 dL_law_597 rfl k13_115 hc rfl rfl rfl (by decide) rfl (Nat.le_of_ble_eq_true rfl) (Nat.le_of_ble_eq_true rfl) kk) ?_
    refine Sx.up (fun _ kk => r_aload_n 601 dL_law_600 rfl rfl kk) ?_
    refine Sx.up (fun _ kk => r_aload_n 602 dL_law_601 rfl rfl kk) ?_
    refine Sx.up (fun _ kk => r_iload 604 dL_law_602 rfl rfl kk) ?_
    refine Sx.up (fun _ kk => r_iconst (1) 605 dL_law_604 rfl (by decide) kk) ?_
    refine Sx.up (fun _ kk => r_iadd 606 dL_law_605 rfl kk) ?_
    refine Sx.up (fun _ kk => r_sldN (j + 1) (xs (j + 1)) 607 dL_law_606 rfl rfl (nI_c1 j) (show j + 1 < L by omega) hL rfl kk) ?_
    refine Sx.up (fun _ kk => r_aload_n 608 dL_law_607 rfl rfl kk) ?_
    refine Sx.up (fun _ kk => r_iload 610 dL_law_608 rfl rfl kk) ?_
    refine Sx.up (fun _ kk => r_iconst (2) 611 dL_law_610 rfl (by decide) kk) ?_
    refine Sx.up (fun _ kk => r_iadd 612 dL_law_611 rfl kk) ?_
    refine Sx.up (fun _ kk => r_sldN (j + 2) (xs (j + 2)) 613 dL_law_612 rfl rfl (nI_c2 j) (show j + 2 < L by omega) hL rfl kk) ?_
    refine Sx.up (fun _ kk => r_if_eq 616 620 dL_law_613 rfl (by decide) (fun _ => kk) (fun z => absurd hz z)) ?_
    refine Sx.up (fun _ kk => r_iconst (0) 621 dL_law_620 rfl (by decide) kk) ?_
    refine Sx.up (fun _ kk => r_callVd (M := mL_law L xs) (pc := 621) (d := 61) (bc := bc) (bs := bs) (by decide) 624 dL_law_621 rfl k13_119 hm rfl rfl rfl (by decide) rfl (Nat.le_of_ble_eq_true rfl) (Nat.le_of_ble_eq_true rfl) kk) ?_
    refine Sx.up (fun _ kk => r_icmp_eq 627 1690 dL_law_624 rfl (by decide) (fun _ => kk) (fun z => absurd rfl z)) ?_
    exact kk E3 hR
  · obtain ⟨v, E2, bc2, bs2, h1, h2, hc, E3, hm, hR⟩ := h 1 (by decide)
    refine Sx.up (fun _ kk => r_aload_n 577 dL_law_576 rfl rfl kk) ?_
    refine Sx.up (fun _ kk => r_aload_n 578 dL_law_577 rfl rfl kk) ?_
    refine Sx.up (fun _ kk => r_iload 580 dL_law_578 rfl rfl kk) ?_
    refine Sx.up (fun _ kk => r_iconst (1) 581 dL_law_580 rfl (by decide) kk) ?_
    refine Sx.up (fun _ kk => r_iadd 582 dL_law_581 rfl kk) ?_
    refine Sx.up (fun _ kk => r_sldN (j + 1) (xs (j + 1)) 583 dL_law_582 rfl rfl (nI_c1 j) (show j + 1 < L by omega) hL rfl kk) ?_
    refine Sx.up (fun _ kk => r_aload_n 584 dL_law_583 rfl rfl kk) ?_
    refine Sx.up (fun _ kk => r_iload 586 dL_law_584 rfl rfl kk) ?_
    refine Sx.up (fun _ kk => r_iconst (2) 587 dL_law_586 rfl (by decide) kk) ?_
    refine Sx.up (fun _ kk => r_iadd 588 dL_law_587 rfl kk) ?_
    refine Sx.up (fun _ kk => r_sldN (j + 2) (xs (j + 2)) 589 dL_law_588 rfl rfl (nI_c2 j) (show j + 2 < L by omega) hL rfl kk) ?_
    refine Sx.up (fun _ kk => r_if_eq 592 596 dL_law_589 rfl (by decide) (fun z => absurd z hz) (fun _ => kk)) ?_
    refine Sx.up (fun _ kk => r_iconst (1) 593 dL_law_592 rfl (by decide) kk) ?_
    refine Sx.up (fun _ kk => r_goto 597 dL_law_593 (by decide) kk) ?_
    refine Sx.wide (bc2 := bc + bc2) (bs2 := bs + bs2) (by omega) (by omega) ?_
    refine Sx.up (fun _ kk => r_callVd (M := mL_law L xs) (pc := 597) (d := 61) (bc := bc) (bs := bs) (by decide) 600 dL_law_597 rfl k13_115 hc rfl rfl rfl (by decide) rfl (Nat.le_of_ble_eq_true rfl) (Nat.le_of_ble_eq_true rfl) kk) ?_
    refine Sx.up (fun _ kk => r_aload_n 601 dL_law_600 rfl rfl kk) ?_
    refine Sx.up (fun _ kk => r_aload_n 602 dL_law_601 rfl rfl kk) ?_
    refine Sx.up (fun _ kk => r_iload 604 dL_law_602 rfl rfl kk) ?_
    refine Sx.up (fun _ kk => r_iconst (1) 605 dL_law_604 rfl (by decide) kk) ?_
    refine Sx.up (fun _ kk => r_iadd 606 dL_law_605 rfl kk) ?_
    refine Sx.up (fun _ kk => r_sldN (j + 1) (xs (j + 1)) 607 dL_law_606 rfl rfl (nI_c1 j) (show j + 1 < L by omega) hL rfl kk) ?_
    refine Sx.up (fun _ kk => r_aload_n 608 dL_law_607 rfl rfl kk) ?_
    refine Sx.up (fun _ kk => r_iload 610 dL_law_608 rfl rfl kk) ?_
    refine Sx.up (fun _ kk => r_iconst (2) 611 dL_law_610 rfl (by decide) kk) ?_
    refine Sx.up (fun _ kk => r_iadd 612 dL_law_611 rfl kk) ?_
    refine Sx.up (fun _ kk => r_sldN (j + 2) (xs (j + 2)) 613 dL_law_612 rfl rfl (nI_c2 j) (show j + 2 < L by omega) hL rfl kk) ?_
    refine Sx.up (fun _ kk => r_if_eq 616 620 dL_law_613 rfl (by decide) (fun z => absurd z hz) (fun _ => kk)) ?_
    refine Sx.up (fun _ kk => r_iconst (1) 617 dL_law_616 rfl (by decide) kk) ?_
    refine Sx.up (fun _ kk => r_goto 621 dL_law_617 (by decide) kk) ?_
    refine Sx.up (fun _ kk => r_callVd (M := mL_law L xs) (pc := 621) (d := 61) (bc := bc) (bs := bs) (by decide) 624 dL_law_621 rfl k13_119 hm rfl rfl rfl (by decide) rfl (Nat.le_of_ble_eq_true rfl) (Nat.le_of_ble_eq_true rfl) kk) ?_
    refine Sx.up (fun _ kk => r_icmp_eq 627 1690 dL_law_624 rfl (by decide) (fun _ => kk) (fun z => absurd rfl z)) ?_
    exact kk E3 hR
set_option maxHeartbeats 16000000 in
set_option maxRecDepth 20000 in
theorem s_out {L j bc bs : Nat} {xs : Nat → Int32} {Post : OUT → Prop} {E : HP} (hj : j + 5 < L) (hL : L ≤ 3072) (h : OpH yL_out mL_out yX12_out mX12_out [.int (xs (j + 1)), .int (xs (j + 2))] E) (kk : ∀ E3, Rel E3 → Sx (mL_law L xs) 62 bc bs Post 1690 [some (.ref 2000), some (.ref 0), some (.ref 95), some (.ref 136), some (.int (nI j)), none, none] [] E3 137) : Sx (mL_law L xs) 62 (bc + 1) (bs + 6) Post 629 [some (.ref 2000), some (.ref 0), some (.ref 95), some (.ref 136), some (.int (nI j)), none, none] [] E 137 := by
  obtain ⟨k, E2, bc2, bs2, h1, h2, hc, w, E3, hm, g1, g2, hR⟩ := h
  obtain ⟨b9, L9, m9, R9, k9, S9, t9, hN, hK⟩ := id hR
  refine Sx.up (fun _ kk => r_aload_n 630 dL_law_629 rfl rfl kk) ?_
  refine Sx.up (fun _ kk => r_aload_n 631 dL_law_630 rfl rfl kk) ?_
  refine Sx.up (fun _ kk => r_iload 633 dL_law_631 rfl rfl kk) ?_
  refine Sx.up (fun _ kk => r_iconst (1) 634 dL_law_633 rfl (by decide) kk) ?_
  refine Sx.up (fun _ kk => r_iadd 635 dL_law_634 rfl kk) ?_
  refine Sx.up (fun _ kk => r_sldN (j + 1) (xs (j + 1)) 636 dL_law_635 rfl rfl (nI_c1 j) (show j + 1 < L by omega) hL rfl kk) ?_
  refine Sx.up (fun _ kk => r_aload_n 637 dL_law_636 rfl rfl kk) ?_
  refine Sx.up (fun _ kk => r_iload 639 dL_law_637 rfl rfl kk) ?_
  refine Sx.up (fun _ kk => r_iconst (2) 640 dL_law_639 rfl (by decide) kk) ?_
  refine Sx.up (fun _ kk => r_iadd 641 dL_law_640 rfl kk) ?_
  refine Sx.up (fun _ kk => r_sldN (j + 2) (xs (j + 2)) 642 dL_law_641 rfl rfl (nI_c2 j) (show j + 2 < L by omega) hL rfl kk) ?_
  refine Sx.up (fun _ kk => r_aload_n 643 dL_law_642 rfl rfl kk) ?_
  refine Sx.wide (bc2 := bc + bc2) (bs2 := bs + bs2) (by omega) (by omega) ?_
  refine Sx.up (fun _ kk => r_callSW (M := mL_law L xs) (pc := 643) (d := 61) (bc := bc) (bs := bs) 646 dL_law_643 rfl k13_120 hc rfl rfl (Nat.le_of_ble_eq_true rfl) kk) ?_
  refine Sx.up (fun _ kk => r_istore 648 dL_law_646 rfl (Nat.le_of_ble_eq_true rfl) rfl kk) ?_
  refine Sx.up (fun _ kk => r_aload_n 649 dL_law_648 rfl rfl kk) ?_
  refine Sx.up (fun _ kk => r_aload_n 650 dL_law_649 rfl rfl kk) ?_
  refine Sx.up (fun _ kk => r_iload 652 dL_law_650 rfl rfl kk) ?_
  refine Sx.up (fun _ kk => r_iconst (1) 653 dL_law_652 rfl (by decide) kk) ?_
  refine Sx.up (fun _ kk => r_iadd 654 dL_law_653 rfl kk) ?_
  refine Sx.up (fun _ kk => r_sldN (j + 1) (xs (j + 1)) 655 dL_law_654 rfl rfl (nI_c1 j) (show j + 1 < L by omega) hL rfl kk) ?_
  refine Sx.up (fun _ kk => r_aload_n 656 dL_law_655 rfl rfl kk) ?_
  refine Sx.up (fun _ kk => r_iload 658 dL_law_656 rfl rfl kk) ?_
  refine Sx.up (fun _ kk => r_iconst (2) 659 dL_law_658 rfl (by decide) kk) ?_
  refine Sx.up (fun _ kk => r_iadd 660 dL_law_659 rfl kk) ?_
  refine Sx.up (fun _ kk => r_sldN (j + 2) (xs (j + 2)) 661 dL_law_660 rfl rfl (nI_c2 j) (show j + 2 < L by omega) hL rfl kk) ?_
  refine Sx.up (fun _ kk => r_callVd (M := mL_law L xs) (pc := 661) (d := 61) (bc := bc) (bs := bs) (by decide) 664 dL_law_661 rfl k13_122 hm rfl rfl rfl (by decide) rfl (Nat.le_of_ble_eq_true rfl) (Nat.le_of_ble_eq_true rfl) kk) ?_
  refine Sx.up (fun _ kk => r_istore 666 dL_law_664 rfl (Nat.le_of_ble_eq_true rfl) rfl kk) ?_
  refine Sx.up (fun _ kk => r_aload_n 667 dL_law_666 rfl rfl kk) ?_
  refine Sx.up (fun _ kk => r_callVd (M := mL_law L xs) (pc := 667) (d := 61) (bc := bc) (bs := bs) (by decide) 670 dL_law_667 rfl k13_88 (m_thrown (d := 52) (rel_td hN).2.1) rfl rfl rfl (by decide) rfl (Nat.le_of_ble_eq_true rfl) (Nat.le_of_ble_eq_true rfl) kk) ?_
  refine Sx.up (fun _ kk => r_iload 672 dL_law_670 rfl rfl kk) ?_
  refine Sx.up (fun _ kk => r_icmp_eq 675 677 dL_law_672 rfl (by decide) (fun _ => kk) (fun z => absurd g1 z)) ?_
  refine Sx.up (fun _ kk => r_iload 679 dL_law_677 rfl rfl kk) ?_
  refine Sx.br (fun _ ka kb => r_if_ne 682 694 dL_law_679 rfl (by decide) ka kb) (by first | exact em1 | exact em2) (fun hz => ?_) (fun hz => ?_)
  · refine Sx.up (fun _ kk => r_goto 1690 dL_law_694 (by decide) kk) ?_
    exact Sx.less (ls := [some (.ref 2000), some (.ref 0), some (.ref 95), some (.ref 136), some (.int (nI j)), none, none]) (by exact ⟨rfl, rfl, rfl, rfl, rfl, trivial⟩) (kk E3 hR)
  · refine Sx.up (fun _ kk => r_aload_n 683 dL_law_682 rfl rfl kk) ?_
    refine Sx.up (fun _ kk => r_iconst (0) 684 dL_law_683 rfl (by decide) kk) ?_
    refine Sx.up (fun _ kk => r_lald (l9 := 1) 685 dL_law_684 rfl rfl (Nat.le_of_ble_eq_true rfl) (by unfold vp_in; decide) kk) ?_
    refine Sx.up (fun _ kk => r_iload 687 dL_law_685 rfl rfl kk) ?_
    refine Sx.up (fun _ kk => r_i2l 688 dL_law_687 rfl kk) ?_
    refine Sx.up (fun _ kk => r_lcmp 689 dL_law_688 rfl kk) ?_
    refine Sx.up (fun _ kk => r_if_eq 692 694 dL_law_689 rfl (by decide) (fun _ => kk) (fun z => absurd (lcmp_0 (g2 hz)) z)) ?_
    refine Sx.up (fun _ kk => r_goto 1690 dL_law_694 (by decide) kk) ?_
    exact Sx.less (ls := [some (.ref 2000), some (.ref 0), some (.ref 95), some (.ref 136), some (.int (nI j)), none, none]) (by exact ⟨rfl, rfl, rfl, rfl, rfl, trivial⟩) (kk E3 hR)
set_option maxRecDepth 20000 in
theorem s_undo {L j bc bs : Nat} {xs : Nat → Int32} {Post : OUT → Prop} {E : HP} (hj : j + 5 < L) (hL : L ≤ 3072) (h : OpP yX11_undo mX11_undo yX12_undo mX12_undo [] E) (kk : ∀ E3, Rel E3 → Sx (mL_law L xs) 62 bc bs Post 1690 [some (.ref 2000), some (.ref 0), some (.ref 95), some (.ref 136), some (.int (nI j)), none, none] [] E3 137) : Sx (mL_law L xs) 62 (bc + 1) (bs + 6) Post 697 [some (.ref 2000), some (.ref 0), some (.ref 95), some (.ref 136), some (.int (nI j)), none, none] [] E 137 := by
  obtain ⟨v, E2, bc2, bs2, h1, h2, hc, E3, hm, hR⟩ := h
  refine Sx.up (fun _ kk => r_aload_n 698 dL_law_697 rfl rfl kk) ?_
  refine Sx.wide (bc2 := bc + bc2) (bs2 := bs + bs2) (by omega) (by omega) ?_
  refine Sx.up (fun _ kk => r_callVd (M := mL_law L xs) (pc := 698) (d := 61) (bc := bc) (bs := bs) (by decide) 701 dL_law_698 rfl k13_123 hc rfl rfl rfl (by decide) rfl (Nat.le_of_ble_eq_true rfl) (Nat.le_of_ble_eq_true rfl) kk) ?_
  refine Sx.up (fun _ kk => r_aload_n 702 dL_law_701 rfl rfl kk) ?_
  refine Sx.up (fun _ kk => r_callVd (M := mL_law L xs) (pc := 702) (d := 61) (bc := bc) (bs := bs) (by decide) 705 dL_law_702 rfl k13_126 hm rfl rfl rfl (by decide) rfl (Nat.le_of_ble_eq_true rfl) (Nat.le_of_ble_eq_true rfl) kk) ?_
  refine Sx.up (fun _ kk => r_icmp_eq 708 1690 dL_law_705 rfl (by decide) (fun _ => kk) (fun z => absurd rfl z)) ?_
  exact kk E3 hR
set_option maxHeartbeats 16000000 in
set_option maxRecDepth 20000 in
theorem s_night {L j bc bs : Nat} {xs : Nat → Int32} {Post : OUT → Prop} {E : HP} (hj : j + 5 < L) (hL : L ≤ 3072) (h : OpH yL_night mL_night yX12_night mX12_night [.int (xs (j + 1))] E) (kk : ∀ E3, Rel E3 → Sx (mL_law L xs) 62 bc bs Post 1690 [some (.ref 2000), some (.ref 0), some (.ref 95), some (.ref 136), some (.int (nI j)), none, none] [] E3 137) : Sx (mL_law L xs) 62 (bc + 1) (bs + 6) Post 710 [some (.ref 2000), some (.ref 0), some (.ref 95), some (.ref 136), some (.int (nI j)), none, none] [] E 137 := by
  obtain ⟨k, E2, bc2, bs2, h1, h2, hc, w, E3, hm, g1, g2, hR⟩ := h
  obtain ⟨b9, L9, m9, R9, k9, S9, t9, hN, hK⟩ := id hR
  refine Sx.up (fun _ kk => r_aload_n 711 dL_law_710 rfl rfl kk) ?_
  refine Sx.up (fun _ kk => r_aload_n 712 dL_law_711 rfl rfl kk) ?_
  refine Sx.up (fun _ kk => r_iload 714 dL_law_712 rfl rfl kk) ?_
  refine Sx.up (fun _ kk => r_iconst (1) 715 dL_law_714 rfl (by decide) kk) ?_
  refine Sx.up (fun _ kk => r_iadd 716 dL_law_715 rfl kk) ?_
  refine Sx.up (fun _ kk => r_sldN (j + 1) (xs (j + 1)) 717 dL_law_716 rfl rfl (nI_c1 j) (show j + 1 < L by omega) hL rfl kk) ?_
  refine Sx.up (fun _ kk => r_aload_n 718 dL_law_717 rfl rfl kk) ?_
  refine Sx.wide (bc2 := bc + bc2) (bs2 := bs + bs2) (by omega) (by omega) ?_
  refine Sx.up (fun _ kk => r_callSW (M := mL_law L xs) (pc := 718) (d := 61) (bc := bc) (bs := bs) 721 dL_law_718 rfl k13_127 hc rfl rfl (Nat.le_of_ble_eq_true rfl) kk) ?_
  refine Sx.up (fun _ kk => r_istore 723 dL_law_721 rfl (Nat.le_of_ble_eq_true rfl) rfl kk) ?_
  refine Sx.up (fun _ kk => r_aload_n 724 dL_law_723 rfl rfl kk) ?_
  refine Sx.up (fun _ kk => r_aload_n 725 dL_law_724 rfl rfl kk) ?_
  refine Sx.up (fun _ kk => r_iload 727 dL_law_725 rfl rfl kk) ?_
  refine Sx.up (fun _ kk => r_iconst (1) 728 dL_law_727 rfl (by decide) kk) ?_
  refine Sx.up (fun _ kk => r_iadd 729 dL_law_728 rfl kk) ?_
  refine Sx.up (fun _ kk => r_sldN (j + 1) (xs (j + 1)) 730 dL_law_729 rfl rfl (nI_c1 j) (show j + 1 < L by omega) hL rfl kk) ?_
  refine Sx.up (fun _ kk => r_callVd (M := mL_law L xs) (pc := 730) (d := 61) (bc := bc) (bs := bs) (by decide) 733 dL_law_730 rfl k13_129 hm rfl rfl rfl (by decide) rfl (Nat.le_of_ble_eq_true rfl) (Nat.le_of_ble_eq_true rfl) kk) ?_
  refine Sx.up (fun _ kk => r_istore 735 dL_law_733 rfl (Nat.le_of_ble_eq_true rfl) rfl kk) ?_
  refine Sx.up (fun _ kk => r_aload_n 736 dL_law_735 rfl rfl kk) ?_
  refine Sx.up (fun _ kk => r_callVd (M := mL_law L xs) (pc := 736) (d := 61) (bc := bc) (bs := bs) (by decide) 739 dL_law_736 rfl k13_88 (m_thrown (d := 52) (rel_td hN).2.1) rfl rfl rfl (by decide) rfl (Nat.le_of_ble_eq_true rfl) (Nat.le_of_ble_eq_true rfl) kk) ?_
  refine Sx.up (fun _ kk => r_iload 741 dL_law_739 rfl rfl kk) ?_
  refine Sx.up (fun _ kk => r_icmp_eq 744 746 dL_law_741 rfl (by decide) (fun _ => kk) (fun z => absurd g1 z)) ?_
  refine Sx.up (fun _ kk => r_iload 748 dL_law_746 rfl rfl kk) ?_
  refine Sx.br (fun _ ka kb => r_if_ne 751 763 dL_law_748 rfl (by decide) ka kb) (by first | exact em1 | exact em2) (fun hz => ?_) (fun hz => ?_)
  · refine Sx.up (fun _ kk => r_goto 1690 dL_law_763 (by decide) kk) ?_
    exact Sx.less (ls := [some (.ref 2000), some (.ref 0), some (.ref 95), some (.ref 136), some (.int (nI j)), none, none]) (by exact ⟨rfl, rfl, rfl, rfl, rfl, trivial⟩) (kk E3 hR)
  · refine Sx.up (fun _ kk => r_aload_n 752 dL_law_751 rfl rfl kk) ?_
    refine Sx.up (fun _ kk => r_iconst (0) 753 dL_law_752 rfl (by decide) kk) ?_
    refine Sx.up (fun _ kk => r_lald (l9 := 1) 754 dL_law_753 rfl rfl (Nat.le_of_ble_eq_true rfl) (by unfold vp_in; decide) kk) ?_
    refine Sx.up (fun _ kk => r_iload 756 dL_law_754 rfl rfl kk) ?_
    refine Sx.up (fun _ kk => r_i2l 757 dL_law_756 rfl kk) ?_
    refine Sx.up (fun _ kk => r_lcmp 758 dL_law_757 rfl kk) ?_
    refine Sx.up (fun _ kk => r_if_eq 761 763 dL_law_758 rfl (by decide) (fun _ => kk) (fun z => absurd (lcmp_0 (g2 hz)) z)) ?_
    refine Sx.up (fun _ kk => r_goto 1690 dL_law_763 (by decide) kk) ?_
    exact Sx.less (ls := [some (.ref 2000), some (.ref 0), some (.ref 95), some (.ref 136), some (.int (nI j)), none, none]) (by exact ⟨rfl, rfl, rfl, rfl, rfl, trivial⟩) (kk E3 hR)
set_option maxHeartbeats 16000000 in
set_option maxRecDepth 20000 in
theorem s_woken {L j bc bs : Nat} {xs : Nat → Int32} {Post : OUT → Prop} {E : HP} (hj : j + 5 < L) (hL : L ≤ 3072) (h : OpH yL_woken mL_woken yX12_woken mX12_woken [.int (xs (j + 1)), .int (xs (j + 2))] E) (kk : ∀ E3, Rel E3 → Sx (mL_law L xs) 62 bc bs Post 1690 [some (.ref 2000), some (.ref 0), some (.ref 95), some (.ref 136), some (.int (nI j)), none, none] [] E3 137) : Sx (mL_law L xs) 62 (bc + 1) (bs + 6) Post 766 [some (.ref 2000), some (.ref 0), some (.ref 95), some (.ref 136), some (.int (nI j)), none, none] [] E 137 := by
  obtain ⟨k, E2, bc2, bs2, h1, h2, hc, w, E3, hm, g1, g2, hR⟩ := h
  obtain ⟨b9, L9, m9, R9, k9, S9, t9, hN, hK⟩ := id hR
  refine Sx.up (fun _ kk => r_aload_n 767 dL_law_766 rfl rfl kk) ?_
  refine Sx.up (fun _ kk => r_aload_n 768 dL_law_767 rfl rfl kk) ?_
  refine Sx.up (fun _ kk => r_iload 770 dL_law_768 rfl rfl kk) ?_
  refine Sx.up (fun _ kk => r_iconst (1) 771 dL_law_770 rfl (by decide) kk) ?_
  refine Sx.up (fun _ kk => r_iadd 772 dL_law_771 rfl kk) ?_
  refine Sx.up (fun _ kk => r_sldN (j + 1) (xs (j + 1)) 773 dL_law_772 rfl rfl (nI_c1 j) (show j + 1 < L by omega) hL rfl kk) ?_
  refine Sx.up (fun _ kk => r_aload_n 774 dL_law_773 rfl rfl kk) ?_
  refine Sx.up (fun _ kk => r_iload 776 dL_law_774 rfl rfl kk) ?_
  refine Sx.up (fun _ kk => r_iconst (2) 777 dL_law_776 rfl (by decide) kk) ?_
  refine Sx.up (fun _ kk => r_iadd 778 dL_law_777 rfl kk) ?_
  refine Sx.up (fun _ kk => r_sldN (j + 2) (xs (j + 2)) 779 dL_law_778 rfl rfl (nI_c2 j) (show j + 2 < L by omega) hL rfl kk) ?_
  refine Sx.up (fun _ kk => r_aload_n 780 dL_law_779 rfl rfl kk) ?_
  refine Sx.wide (bc2 := bc + bc2) (bs2 := bs + bs2) (by omega) (by omega) ?_
  refine Sx.up (fun _ kk => r_callSW (M := mL_law L xs) (pc := 780) (d := 61) (bc := bc) (bs := bs) 783 dL_law_780 rfl k13_130 hc rfl rfl (Nat.le_of_ble_eq_true rfl) kk) ?_
  refine Sx.up (fun _ kk => r_istore 785 dL_law_783 rfl (Nat.le_of_ble_eq_true rfl) rfl kk) ?_
  refine Sx.up (fun _ kk => r_aload_n 786 dL_law_785 rfl rfl kk) ?_
  refine Sx.up (fun _ kk => r_aload_n 787 dL_law_786 rfl rfl kk) ?_
  refine Sx.up (fun _ kk => r_iload 789 dL_law_787 rfl rfl kk) ?_
  refine Sx.up (fun _ kk => r_iconst (1) 790 dL_law_789 rfl (by decide) kk) ?_
  refine Sx.up (fun _ kk => r_iadd 791 dL_law_790 rfl kk) ?_
  refine Sx.up (fun _ kk => r_sldN (j + 1) (xs (j + 1)) 792 dL_law_791 rfl rfl (nI_c1 j) (show j + 1 < L by omega) hL rfl kk) ?_
  refine Sx.up (fun _ kk => r_aload_n 793 dL_law_792 rfl rfl kk) ?_
  refine Sx.up (fun _ kk => r_iload 795 dL_law_793 rfl rfl kk) ?_
  refine Sx.up (fun _ kk => r_iconst (2) 796 dL_law_795 rfl (by decide) kk) ?_
  refine Sx.up (fun _ kk => r_iadd 797 dL_law_796 rfl kk) ?_
  refine Sx.up (fun _ kk => r_sldN (j + 2) (xs (j + 2)) 798 dL_law_797 rfl rfl (nI_c2 j) (show j + 2 < L by omega) hL rfl kk) ?_
  refine Sx.up (fun _ kk => r_callVd (M := mL_law L xs) (pc := 798) (d := 61) (bc := bc) (bs := bs) (by decide) 801 dL_law_798 rfl k13_132 hm rfl rfl rfl (by decide) rfl (Nat.le_of_ble_eq_true rfl) (Nat.le_of_ble_eq_true rfl) kk) ?_
  refine Sx.up (fun _ kk => r_istore 803 dL_law_801 rfl (Nat.le_of_ble_eq_true rfl) rfl kk) ?_
  refine Sx.up (fun _ kk => r_aload_n 804 dL_law_803 rfl rfl kk) ?_
  refine Sx.up (fun _ kk => r_callVd (M := mL_law L xs) (pc := 804) (d := 61) (bc := bc) (bs := bs) (by decide) 807 dL_law_804 rfl k13_88 (m_thrown (d := 52) (rel_td hN).2.1) rfl rfl rfl (by decide) rfl (Nat.le_of_ble_eq_true rfl) (Nat.le_of_ble_eq_true rfl) kk) ?_
  refine Sx.up (fun _ kk => r_iload 809 dL_law_807 rfl rfl kk) ?_
  refine Sx.up (fun _ kk => r_icmp_eq 812 814 dL_law_809 rfl (by decide) (fun _ => kk) (fun z => absurd g1 z)) ?_
  refine Sx.up (fun _ kk => r_iload 816 dL_law_814 rfl rfl kk) ?_
  refine Sx.br (fun _ ka kb => r_if_ne 819 831 dL_law_816 rfl (by decide) ka kb) (by first | exact em1 | exact em2) (fun hz => ?_) (fun hz => ?_)
  · refine Sx.up (fun _ kk => r_goto 1690 dL_law_831 (by decide) kk) ?_
    exact Sx.less (ls := [some (.ref 2000), some (.ref 0), some (.ref 95), some (.ref 136), some (.int (nI j)), none, none]) (by exact ⟨rfl, rfl, rfl, rfl, rfl, trivial⟩) (kk E3 hR)
  · refine Sx.up (fun _ kk => r_aload_n 820 dL_law_819 rfl rfl kk) ?_
    refine Sx.up (fun _ kk => r_iconst (0) 821 dL_law_820 rfl (by decide) kk) ?_
    refine Sx.up (fun _ kk => r_lald (l9 := 1) 822 dL_law_821 rfl rfl (Nat.le_of_ble_eq_true rfl) (by unfold vp_in; decide) kk) ?_
    refine Sx.up (fun _ kk => r_iload 824 dL_law_822 rfl rfl kk) ?_
    refine Sx.up (fun _ kk => r_i2l 825 dL_law_824 rfl kk) ?_
    refine Sx.up (fun _ kk => r_lcmp 826 dL_law_825 rfl kk) ?_
    refine Sx.up (fun _ kk => r_if_eq 829 831 dL_law_826 rfl (by decide) (fun _ => kk) (fun z => absurd (lcmp_0 (g2 hz)) z)) ?_
    refine Sx.up (fun _ kk => r_goto 1690 dL_law_831 (by decide) kk) ?_
    exact Sx.less (ls := [some (.ref 2000), some (.ref 0), some (.ref 95), some (.ref 136), some (.int (nI j)), none, none]) (by exact ⟨rfl, rfl, rfl, rfl, rfl, trivial⟩) (kk E3 hR)
set_option maxHeartbeats 16000000 in
set_option maxRecDepth 20000 in
theorem s_lies {L j bc bs : Nat} {xs : Nat → Int32} {Post : OUT → Prop} {E : HP} (hj : j + 5 < L) (hL : L ≤ 3072) (h : OpH yL_lies mL_lies yX12_lies mX12_lies [.int (xs (j + 1)), .int (xs (j + 2)), .int (xs (j + 3))] E) (kk : ∀ E3, Rel E3 → Sx (mL_law L xs) 62 bc bs Post 1690 [some (.ref 2000), some (.ref 0), some (.ref 95), some (.ref 136), some (.int (nI j)), none, none] [] E3 137) : Sx (mL_law L xs) 62 (bc + 1) (bs + 6) Post 834 [some (.ref 2000), some (.ref 0), some (.ref 95), some (.ref 136), some (.int (nI j)), none, none] [] E 137 := by
  obtain ⟨k, E2, bc2, bs2, h1, h2, hc, w, E3, hm, g1, g2, hR⟩ := h
  obtain ⟨b9, L9, m9, R9, k9, S9, t9, hN, hK⟩ := id hR
  refine Sx.up (fun _ kk => r_aload_n 835 dL_law_834 rfl rfl kk) ?_
  refine Sx.up (fun _ kk => r_aload_n 836 dL_law_835 rfl rfl kk) ?_
  refine Sx.up (fun _ kk => r_iload 838 dL_law_836 rfl rfl kk) ?_
  refine Sx.up (fun _ kk => r_iconst (1) 839 dL_law_838 rfl (by decide) kk) ?_
  refine Sx.up (fun _ kk => r_iadd 840 dL_law_839 rfl kk) ?_
  refine Sx.up (fun _ kk => r_sldN (j + 1) (xs (j + 1)) 841 dL_law_840 rfl rfl (nI_c1 j) (show j + 1 < L by omega) hL rfl kk) ?_
  refine Sx.up (fun _ kk => r_aload_n 842 dL_law_841 rfl rfl kk) ?_
  refine Sx.up (fun _ kk => r_iload 844 dL_law_842 rfl rfl kk) ?_
  refine Sx.up (fun _ kk => r_iconst (2) 845 dL_law_844 rfl (by decide) kk) ?_
  refine Sx.up (fun _ kk => r_iadd 846 dL_law_845 rfl kk) ?_
  refine Sx.up (fun _ kk => r_sldN (j + 2) (xs (j + 2)) 847 dL_law_846 rfl rfl (nI_c2 j) (show j + 2 < L by omega) hL rfl kk) ?_
  refine Sx.up (fun _ kk => r_aload_n 848 dL_law_847 rfl rfl kk) ?_
  refine Sx.up (fun _ kk => r_iload 850 dL_law_848 rfl rfl kk) ?_
  refine Sx.up (fun _ kk => r_iconst (3) 851 dL_law_850 rfl (by decide) kk) ?_
  refine Sx.up (fun _ kk => r_iadd 852 dL_law_851 rfl kk) ?_
  refine Sx.up (fun _ kk => r_sldN (j + 3) (xs (j + 3)) 853 dL_law_852 rfl rfl (nI_c3 j) (show j + 3 < L by omega) hL rfl kk) ?_
  refine Sx.up (fun _ kk => r_aload_n 854 dL_law_853 rfl rfl kk) ?_
  refine Sx.wide (bc2 := bc + bc2) (bs2 := bs + bs2) (by omega) (by omega) ?_
  refine Sx.up (fun _ kk => r_callSW (M := mL_law L xs) (pc := 854) (d := 61) (bc := bc) (bs := bs) 857 dL_law_854 rfl k13_133 hc rfl rfl (Nat.le_of_ble_eq_true rfl) kk) ?_
  refine Sx.up (fun _ kk => r_istore 859 dL_law_857 rfl (Nat.le_of_ble_eq_true rfl) rfl kk) ?_
  refine Sx.up (fun _ kk => r_aload_n 860 dL_law_859 rfl rfl kk) ?_
  refine Sx.up (fun _ kk => r_aload_n 861 dL_law_860 rfl rfl kk) ?_
  refine Sx.up (fun _ kk => r_iload 863 dL_law_861 rfl rfl kk) ?_
  refine Sx.up (fun _ kk => r_iconst (1) 864 dL_law_863 rfl (by decide) kk) ?_
  refine Sx.up (fun _ kk => r_iadd 865 dL_law_864 rfl kk) ?_
  refine Sx.up (fun _ kk => r_sldN (j + 1) (xs (j + 1)) 866 dL_law_865 rfl rfl (nI_c1 j) (show j + 1 < L by omega) hL rfl kk) ?_
  refine Sx.up (fun _ kk => r_aload_n 867 dL_law_866 rfl rfl kk) ?_
  refine Sx.up (fun _ kk => r_iload 869 dL_law_867 rfl rfl kk) ?_
  refine Sx.up (fun _ kk => r_iconst (2) 870 dL_law_869 rfl (by decide) kk) ?_
  refine Sx.up (fun _ kk => r_iadd 871 dL_law_870 rfl kk) ?_
  refine Sx.up (fun _ kk => r_sldN (j + 2) (xs (j + 2)) 872 dL_law_871 rfl rfl (nI_c2 j) (show j + 2 < L by omega) hL rfl kk) ?_
  refine Sx.up (fun _ kk => r_aload_n 873 dL_law_872 rfl rfl kk) ?_
  refine Sx.up (fun _ kk => r_iload 875 dL_law_873 rfl rfl kk) ?_
  refine Sx.up (fun _ kk => r_iconst (3) 876 dL_law_875 rfl (by decide) kk) ?_
  refine Sx.up (fun _ kk => r_iadd 877 dL_law_876 rfl kk) ?_
  refine Sx.up (fun _ kk => r_sldN (j + 3) (xs (j + 3)) 878 dL_law_877 rfl rfl (nI_c3 j) (show j + 3 < L by omega) hL rfl kk) ?_
  refine Sx.up (fun _ kk => r_callVd (M := mL_law L xs) (pc := 878) (d := 61) (bc := bc) (bs := bs) (by decide) 881 dL_law_878 rfl k13_136 hm rfl rfl rfl (by decide) rfl (Nat.le_of_ble_eq_true rfl) (Nat.le_of_ble_eq_true rfl) kk) ?_
  refine Sx.up (fun _ kk => r_istore 883 dL_law_881 rfl (Nat.le_of_ble_eq_true rfl) rfl kk) ?_
  refine Sx.up (fun _ kk => r_aload_n 884 dL_law_883 rfl rfl kk) ?_
  refine Sx.up (fun _ kk => r_callVd (M := mL_law L xs) (pc := 884) (d := 61) (bc := bc) (bs := bs) (by decide) 887 dL_law_884 rfl k13_88 (m_thrown (d := 52) (rel_td hN).2.1) rfl rfl rfl (by decide) rfl (Nat.le_of_ble_eq_true rfl) (Nat.le_of_ble_eq_true rfl) kk) ?_
  refine Sx.up (fun _ kk => r_iload 889 dL_law_887 rfl rfl kk) ?_
  refine Sx.up (fun _ kk => r_icmp_eq 892 894 dL_law_889 rfl (by decide) (fun _ => kk) (fun z => absurd g1 z)) ?_
  refine Sx.up (fun _ kk => r_iload 896 dL_law_894 rfl rfl kk) ?_
  refine Sx.br (fun _ ka kb => r_if_ne 899 911 dL_law_896 rfl (by decide) ka kb) (by first | exact em1 | exact em2) (fun hz => ?_) (fun hz => ?_)
  · refine Sx.up (fun _ kk => r_goto 1690 dL_law_911 (by decide) kk) ?_
    exact Sx.less (ls := [some (.ref 2000), some (.ref 0), some (.ref 95), some (.ref 136), some (.int (nI j)), none, none]) (by exact ⟨rfl, rfl, rfl, rfl, rfl, trivial⟩) (kk E3 hR)
  · refine Sx.up (fun _ kk => r_aload_n 900 dL_law_899 rfl rfl kk) ?_
    refine Sx.up (fun _ kk => r_iconst (0) 901 dL_law_900 rfl (by decide) kk) ?_
    refine Sx.up (fun _ kk => r_lald (l9 := 1) 902 dL_law_901 rfl rfl (Nat.le_of_ble_eq_true rfl) (by unfold vp_in; decide) kk) ?_
    refine Sx.up (fun _ kk => r_iload 904 dL_law_902 rfl rfl kk) ?_
    refine Sx.up (fun _ kk => r_i2l 905 dL_law_904 rfl kk) ?_
    refine Sx.up (fun _ kk => r_lcmp 906 dL_law_905 rfl kk) ?_
    refine Sx.up (fun _ kk => r_if_eq 909 911 dL_law_906 rfl (by decide) (fun _ => kk) (fun z => absurd (lcmp_0 (g2 hz)) z)) ?_
    refine Sx.up (fun _ kk => r_goto 1690 dL_law_911 (by decide) kk) ?_
    exact Sx.less (ls := [some (.ref 2000), some (.ref 0), some (.ref 95), some (.ref 136), some (.int (nI j)), none, none]) (by exact ⟨rfl, rfl, rfl, rfl, rfl, trivial⟩) (kk E3 hR)
set_option maxHeartbeats 16000000 in
set_option maxRecDepth 20000 in
theorem s_turn {L j bc bs : Nat} {xs : Nat → Int32} {Post : OUT → Prop} {E : HP} (hj : j + 5 < L) (hL : L ≤ 3072) (h : OpH yL_turn mL_turn yX12_turn mX12_turn [.int (xs (j + 1)), .int (xs (j + 2))] E) (kk : ∀ E3, Rel E3 → Sx (mL_law L xs) 62 bc bs Post 1690 [some (.ref 2000), some (.ref 0), some (.ref 95), some (.ref 136), some (.int (nI j)), none, none] [] E3 137) : Sx (mL_law L xs) 62 (bc + 1) (bs + 6) Post 914 [some (.ref 2000), some (.ref 0), some (.ref 95), some (.ref 136), some (.int (nI j)), none, none] [] E 137 := by
  obtain ⟨k, E2, bc2, bs2, h1, h2, hc, w, E3, hm, g1, g2, hR⟩ := h
  obtain ⟨b9, L9, m9, R9, k9, S9, t9, hN, hK⟩ := id hR
  refine Sx.up (fun _ kk => r_aload_n 915 dL_law_914 rfl rfl kk) ?_
  refine Sx.up (fun _ kk => r_aload_n 916 dL_law_915 rfl rfl kk) ?_
  refine Sx.up (fun _ kk => r_iload 918 dL_law_916 rfl rfl kk) ?_
  refine Sx.up (fun _ kk => r_iconst (1) 919 dL_law_918 rfl (by decide) kk) ?_
  refine Sx.up (fun _ kk => r_iadd 920 dL_law_919 rfl kk) ?_
  refine Sx.up (fun _ kk => r_sldN (j + 1) (xs (j + 1)) 921 dL_law_920 rfl rfl (nI_c1 j) (show j + 1 < L by omega) hL rfl kk) ?_
  refine Sx.up (fun _ kk => r_aload_n 922 dL_law_921 rfl rfl kk) ?_
  refine Sx.up (fun _ kk => r_iload 924 dL_law_922 rfl rfl kk) ?_
  refine Sx.up (fun _ kk => r_iconst (2) 925 dL_law_924 rfl (by decide) kk) ?_
  refine Sx.up (fun _ kk => r_iadd 926 dL_law_925 rfl kk) ?_
  refine Sx.up (fun _ kk => r_sldN (j + 2) (xs (j + 2)) 927 dL_law_926 rfl rfl (nI_c2 j) (show j + 2 < L by omega) hL rfl kk) ?_
  refine Sx.up (fun _ kk => r_aload_n 928 dL_law_927 rfl rfl kk) ?_
  refine Sx.wide (bc2 := bc + bc2) (bs2 := bs + bs2) (by omega) (by omega) ?_
  refine Sx.up (fun _ kk => r_callSW (M := mL_law L xs) (pc := 928) (d := 61) (bc := bc) (bs := bs) 931 dL_law_928 rfl k13_137 hc rfl rfl (Nat.le_of_ble_eq_true rfl) kk) ?_
  refine Sx.up (fun _ kk => r_istore 933 dL_law_931 rfl (Nat.le_of_ble_eq_true rfl) rfl kk) ?_
  refine Sx.up (fun _ kk => r_aload_n 934 dL_law_933 rfl rfl kk) ?_
  refine Sx.up (fun _ kk => r_aload_n 935 dL_law_934 rfl rfl kk) ?_
  refine Sx.up (fun _ kk => r_iload 937 dL_law_935 rfl rfl kk) ?_
  refine Sx.up (fun _ kk => r_iconst (1) 938 dL_law_937 rfl (by decide) kk) ?_
  refine Sx.up (fun _ kk => r_iadd 939 dL_law_938 rfl kk) ?_
  refine Sx.up (fun _ kk => r_sldN (j + 1) (xs (j + 1)) 940 dL_law_939 rfl rfl (nI_c1 j) (show j + 1 < L by omega) hL rfl kk) ?_
  refine Sx.up (fun _ kk => r_aload_n 941 dL_law_940 rfl rfl kk) ?_
  refine Sx.up (fun _ kk => r_iload 943 dL_law_941 rfl rfl kk) ?_
  refine Sx.up (fun _ kk => r_iconst (2) 944 dL_law_943 rfl (by decide) kk) ?_
  refine Sx.up (fun _ kk => r_iadd 945 dL_law_944 rfl kk) ?_
  refine Sx.up (fun _ kk => r_sldN (j + 2) (xs (j + 2)) 946 dL_law_945 rfl rfl (nI_c2 j) (show j + 2 < L by omega) hL rfl kk) ?_
  refine Sx.up (fun _ kk => r_callVd (M := mL_law L xs) (pc := 946) (d := 61) (bc := bc) (bs := bs) (by decide) 949 dL_law_946 rfl k13_139 hm rfl rfl rfl (by decide) rfl (Nat.le_of_ble_eq_true rfl) (Nat.le_of_ble_eq_true rfl) kk) ?_
  refine Sx.up (fun _ kk => r_istore 951 dL_law_949 rfl (Nat.le_of_ble_eq_true rfl) rfl kk) ?_
  refine Sx.up (fun _ kk => r_aload_n 952 dL_law_951 rfl rfl kk) ?_
  refine Sx.up (fun _ kk => r_callVd (M := mL_law L xs) (pc := 952) (d := 61) (bc := bc) (bs := bs) (by decide) 955 dL_law_952 rfl k13_88 (m_thrown (d := 52) (rel_td hN).2.1) rfl rfl rfl (by decide) rfl (Nat.le_of_ble_eq_true rfl) (Nat.le_of_ble_eq_true rfl) kk) ?_
  refine Sx.up (fun _ kk => r_iload 957 dL_law_955 rfl rfl kk) ?_
  refine Sx.up (fun _ kk => r_icmp_eq 960 962 dL_law_957 rfl (by decide) (fun _ => kk) (fun z => absurd g1 z)) ?_
  refine Sx.up (fun _ kk => r_iload 964 dL_law_962 rfl rfl kk) ?_
  refine Sx.br (fun _ ka kb => r_if_ne 967 979 dL_law_964 rfl (by decide) ka kb) (by first | exact em1 | exact em2) (fun hz => ?_) (fun hz => ?_)
  · refine Sx.up (fun _ kk => r_goto 1690 dL_law_979 (by decide) kk) ?_
    exact Sx.less (ls := [some (.ref 2000), some (.ref 0), some (.ref 95), some (.ref 136), some (.int (nI j)), none, none]) (by exact ⟨rfl, rfl, rfl, rfl, rfl, trivial⟩) (kk E3 hR)
  · refine Sx.up (fun _ kk => r_aload_n 968 dL_law_967 rfl rfl kk) ?_
    refine Sx.up (fun _ kk => r_iconst (0) 969 dL_law_968 rfl (by decide) kk) ?_
    refine Sx.up (fun _ kk => r_lald (l9 := 1) 970 dL_law_969 rfl rfl (Nat.le_of_ble_eq_true rfl) (by unfold vp_in; decide) kk) ?_
    refine Sx.up (fun _ kk => r_iload 972 dL_law_970 rfl rfl kk) ?_
    refine Sx.up (fun _ kk => r_i2l 973 dL_law_972 rfl kk) ?_
    refine Sx.up (fun _ kk => r_lcmp 974 dL_law_973 rfl kk) ?_
    refine Sx.up (fun _ kk => r_if_eq 977 979 dL_law_974 rfl (by decide) (fun _ => kk) (fun z => absurd (lcmp_0 (g2 hz)) z)) ?_
    refine Sx.up (fun _ kk => r_goto 1690 dL_law_979 (by decide) kk) ?_
    exact Sx.less (ls := [some (.ref 2000), some (.ref 0), some (.ref 95), some (.ref 136), some (.int (nI j)), none, none]) (by exact ⟨rfl, rfl, rfl, rfl, rfl, trivial⟩) (kk E3 hR)
set_option maxRecDepth 20000 in
theorem s_orders {L j bc bs : Nat} {xs : Nat → Int32} {Post : OUT → Prop} {E : HP} (hj : j + 5 < L) (hL : L ≤ 3072) (h : OpP yX11_orders mX11_orders yX12_orders mX12_orders [] E) (kk : ∀ E3, Rel E3 → Sx (mL_law L xs) 62 bc bs Post 1690 [some (.ref 2000), some (.ref 0), some (.ref 95), some (.ref 136), some (.int (nI j)), none, none] [] E3 137) : Sx (mL_law L xs) 62 (bc + 1) (bs + 6) Post 982 [some (.ref 2000), some (.ref 0), some (.ref 95), some (.ref 136), some (.int (nI j)), none, none] [] E 137 := by
  obtain ⟨v, E2, bc2, bs2, h1, h2, hc, E3, hm, hR⟩ := h
  refine Sx.up (fun _ kk => r_aload_n 983 dL_law_982 rfl rfl kk) ?_
  refine Sx.wide (bc2 := bc + bc2) (bs2 := bs + bs2) (by omega) (by omega) ?_
  refine Sx.up (fun _ kk => r_callVd (M := mL_law L xs) (pc := 983) (d := 61) (bc := bc) (bs := bs) (by decide) 986 dL_law_983 rfl k13_140 hc rfl rfl rfl (by decide) rfl (Nat.le_of_ble_eq_true rfl) (Nat.le_of_ble_eq_true rfl) kk) ?_
  refine Sx.up (fun _ kk => r_aload_n 987 dL_law_986 rfl rfl kk) ?_
  refine Sx.up (fun _ kk => r_callVd (M := mL_law L xs) (pc := 987) (d := 61) (bc := bc) (bs := bs) (by decide) 990 dL_law_987 rfl k13_143 hm rfl rfl rfl (by decide) rfl (Nat.le_of_ble_eq_true rfl) (Nat.le_of_ble_eq_true rfl) kk) ?_
  refine Sx.up (fun _ kk => r_icmp_eq 993 1690 dL_law_990 rfl (by decide) (fun _ => kk) (fun z => absurd rfl z)) ?_
  exact kk E3 hR
set_option maxRecDepth 20000 in
theorem s_order {L j bc bs : Nat} {xs : Nat → Int32} {Post : OUT → Prop} {E : HP} (hj : j + 5 < L) (hL : L ≤ 3072) (h : OpP yX11_order mX11_order yX12_order mX12_order [] E) (kk : ∀ E3, Rel E3 → Sx (mL_law L xs) 62 bc bs Post 1690 [some (.ref 2000), some (.ref 0), some (.ref 95), some (.ref 136), some (.int (nI j)), none, none] [] E3 137) : Sx (mL_law L xs) 62 (bc + 1) (bs + 6) Post 995 [some (.ref 2000), some (.ref 0), some (.ref 95), some (.ref 136), some (.int (nI j)), none, none] [] E 137 := by
  obtain ⟨v, E2, bc2, bs2, h1, h2, hc, E3, hm, hR⟩ := h
  refine Sx.up (fun _ kk => r_aload_n 996 dL_law_995 rfl rfl kk) ?_
  refine Sx.wide (bc2 := bc + bc2) (bs2 := bs + bs2) (by omega) (by omega) ?_
  refine Sx.up (fun _ kk => r_callVd (M := mL_law L xs) (pc := 996) (d := 61) (bc := bc) (bs := bs) (by decide) 999 dL_law_996 rfl k13_144 hc rfl rfl rfl (by decide) rfl (Nat.le_of_ble_eq_true rfl) (Nat.le_of_ble_eq_true rfl) kk) ?_
  refine Sx.up (fun _ kk => r_aload_n 1000 dL_law_999 rfl rfl kk) ?_
  refine Sx.up (fun _ kk => r_callVd (M := mL_law L xs) (pc := 1000) (d := 61) (bc := bc) (bs := bs) (by decide) 1003 dL_law_1000 rfl k13_147 hm rfl rfl rfl (by decide) rfl (Nat.le_of_ble_eq_true rfl) (Nat.le_of_ble_eq_true rfl) kk) ?_
  refine Sx.up (fun _ kk => r_icmp_eq 1006 1690 dL_law_1003 rfl (by decide) (fun _ => kk) (fun z => absurd rfl z)) ?_
  exact kk E3 hR
set_option maxHeartbeats 16000000 in
set_option maxRecDepth 20000 in
theorem s_kept {L j bc bs : Nat} {xs : Nat → Int32} {Post : OUT → Prop} {E : HP} (hj : j + 5 < L) (hL : L ≤ 3072) (h : OpH yL_kept mL_kept yX12_kept mX12_kept [.int (xs (j + 1))] E) (kk : ∀ E3, Rel E3 → Sx (mL_law L xs) 62 bc bs Post 1690 [some (.ref 2000), some (.ref 0), some (.ref 95), some (.ref 136), some (.int (nI j)), none, none] [] E3 137) : Sx (mL_law L xs) 62 (bc + 1) (bs + 6) Post 1008 [some (.ref 2000), some (.ref 0), some (.ref 95), some (.ref 136), some (.int (nI j)), none, none] [] E 137 := by
  obtain ⟨k, E2, bc2, bs2, h1, h2, hc, w, E3, hm, g1, g2, hR⟩ := h
  obtain ⟨b9, L9, m9, R9, k9, S9, t9, hN, hK⟩ := id hR
  refine Sx.up (fun _ kk => r_aload_n 1009 dL_law_1008 rfl rfl kk) ?_
  refine Sx.up (fun _ kk => r_aload_n 1010 dL_law_1009 rfl rfl kk) ?_
  refine Sx.up (fun _ kk => r_iload 1012 dL_law_1010 rfl rfl kk) ?_
  refine Sx.up (fun _ kk => r_iconst (1) 1013 dL_law_1012 rfl (by decide) kk) ?_
  refine Sx.up (fun _ kk => r_iadd 1014 dL_law_1013 rfl kk) ?_
  refine Sx.up (fun _ kk => r_sldN (j + 1) (xs (j + 1)) 1015 dL_law_1014 rfl rfl (nI_c1 j) (show j + 1 < L by omega) hL rfl kk) ?_
  refine Sx.up (fun _ kk => r_aload_n 1016 dL_law_1015 rfl rfl kk) ?_
  refine Sx.wide (bc2 := bc + bc2) (bs2 := bs + bs2) (by omega) (by omega) ?_
  refine Sx.up (fun _ kk => r_callSW (M := mL_law L xs) (pc := 1016) (d := 61) (bc := bc) (bs := bs) 1019 dL_law_1016 rfl k13_148 hc rfl rfl (Nat.le_of_ble_eq_true rfl) kk) ?_
  refine Sx.up (fun _ kk => r_istore 1021 dL_law_1019 rfl (Nat.le_of_ble_eq_true rfl) rfl kk) ?_
  refine Sx.up (fun _ kk => r_aload_n 1022 dL_law_1021 rfl rfl kk) ?_
  refine Sx.up (fun _ kk => r_aload_n 1023 dL_law_1022 rfl rfl kk) ?_
  refine Sx.up (fun _ kk => r_iload 1025 dL_law_1023 rfl rfl kk) ?_
  refine Sx.up (fun _ kk => r_iconst (1) 1026 dL_law_1025 rfl (by decide) kk) ?_
  refine Sx.up (fun _ kk => r_iadd 1027 dL_law_1026 rfl kk) ?_
  refine Sx.up (fun _ kk => r_sldN (j + 1) (xs (j + 1)) 1028 dL_law_1027 rfl rfl (nI_c1 j) (show j + 1 < L by omega) hL rfl kk) ?_
  refine Sx.up (fun _ kk => r_callVd (M := mL_law L xs) (pc := 1028) (d := 61) (bc := bc) (bs := bs) (by decide) 1031 dL_law_1028 rfl k13_150 hm rfl rfl rfl (by decide) rfl (Nat.le_of_ble_eq_true rfl) (Nat.le_of_ble_eq_true rfl) kk) ?_
  refine Sx.up (fun _ kk => r_istore 1033 dL_law_1031 rfl (Nat.le_of_ble_eq_true rfl) rfl kk) ?_
  refine Sx.up (fun _ kk => r_aload_n 1034 dL_law_1033 rfl rfl kk) ?_
  refine Sx.up (fun _ kk => r_callVd (M := mL_law L xs) (pc := 1034) (d := 61) (bc := bc) (bs := bs) (by decide) 1037 dL_law_1034 rfl k13_88 (m_thrown (d := 52) (rel_td hN).2.1) rfl rfl rfl (by decide) rfl (Nat.le_of_ble_eq_true rfl) (Nat.le_of_ble_eq_true rfl) kk) ?_
  refine Sx.up (fun _ kk => r_iload 1039 dL_law_1037 rfl rfl kk) ?_
  refine Sx.up (fun _ kk => r_icmp_eq 1042 1044 dL_law_1039 rfl (by decide) (fun _ => kk) (fun z => absurd g1 z)) ?_
  refine Sx.up (fun _ kk => r_iload 1046 dL_law_1044 rfl rfl kk) ?_
  refine Sx.br (fun _ ka kb => r_if_ne 1049 1061 dL_law_1046 rfl (by decide) ka kb) (by first | exact em1 | exact em2) (fun hz => ?_) (fun hz => ?_)
  · refine Sx.up (fun _ kk => r_goto 1690 dL_law_1061 (by decide) kk) ?_
    exact Sx.less (ls := [some (.ref 2000), some (.ref 0), some (.ref 95), some (.ref 136), some (.int (nI j)), none, none]) (by exact ⟨rfl, rfl, rfl, rfl, rfl, trivial⟩) (kk E3 hR)
  · refine Sx.up (fun _ kk => r_aload_n 1050 dL_law_1049 rfl rfl kk) ?_
    refine Sx.up (fun _ kk => r_iconst (0) 1051 dL_law_1050 rfl (by decide) kk) ?_
    refine Sx.up (fun _ kk => r_lald (l9 := 1) 1052 dL_law_1051 rfl rfl (Nat.le_of_ble_eq_true rfl) (by unfold vp_in; decide) kk) ?_
    refine Sx.up (fun _ kk => r_iload 1054 dL_law_1052 rfl rfl kk) ?_
    refine Sx.up (fun _ kk => r_i2l 1055 dL_law_1054 rfl kk) ?_
    refine Sx.up (fun _ kk => r_lcmp 1056 dL_law_1055 rfl kk) ?_
    refine Sx.up (fun _ kk => r_if_eq 1059 1061 dL_law_1056 rfl (by decide) (fun _ => kk) (fun z => absurd (lcmp_0 (g2 hz)) z)) ?_
    refine Sx.up (fun _ kk => r_goto 1690 dL_law_1061 (by decide) kk) ?_
    exact Sx.less (ls := [some (.ref 2000), some (.ref 0), some (.ref 95), some (.ref 136), some (.int (nI j)), none, none]) (by exact ⟨rfl, rfl, rfl, rfl, rfl, trivial⟩) (kk E3 hR)
set_option maxHeartbeats 16000000 in
set_option maxRecDepth 20000 in
theorem s_every {L j bc bs : Nat} {xs : Nat → Int32} {Post : OUT → Prop} {E : HP} (hj : j + 5 < L) (hL : L ≤ 3072) (h : OpH yL_every mL_every yX12_every mX12_every [.int (xs (j + 1)), .int (xs (j + 2))] E) (kk : ∀ E3, Rel E3 → Sx (mL_law L xs) 62 bc bs Post 1690 [some (.ref 2000), some (.ref 0), some (.ref 95), some (.ref 136), some (.int (nI j)), none, none] [] E3 137) : Sx (mL_law L xs) 62 (bc + 1) (bs + 6) Post 1064 [some (.ref 2000), some (.ref 0), some (.ref 95), some (.ref 136), some (.int (nI j)), none, none] [] E 137 := by
  obtain ⟨k, E2, bc2, bs2, h1, h2, hc, w, E3, hm, g1, g2, hR⟩ := h
  obtain ⟨b9, L9, m9, R9, k9, S9, t9, hN, hK⟩ := id hR
  refine Sx.up (fun _ kk => r_aload_n 1065 dL_law_1064 rfl rfl kk) ?_
  refine Sx.up (fun _ kk => r_aload_n 1066 dL_law_1065 rfl rfl kk) ?_
  refine Sx.up (fun _ kk => r_iload 1068 dL_law_1066 rfl rfl kk) ?_
  refine Sx.up (fun _ kk => r_iconst (1) 1069 dL_law_1068 rfl (by decide) kk) ?_
  refine Sx.up (fun _ kk => r_iadd 1070 dL_law_1069 rfl kk) ?_
  refine Sx.up (fun _ kk => r_sldN (j + 1) (xs (j + 1)) 1071 dL_law_1070 rfl rfl (nI_c1 j) (show j + 1 < L by omega) hL rfl kk) ?_
  refine Sx.up (fun _ kk => r_aload_n 1072 dL_law_1071 rfl rfl kk) ?_
  refine Sx.up (fun _ kk => r_iload 1074 dL_law_1072 rfl rfl kk) ?_
  refine Sx.up (fun _ kk => r_iconst (2) 1075 dL_law_1074 rfl (by decide) kk) ?_
  refine Sx.up (fun _ kk => r_iadd 1076 dL_law_1075 rfl kk) ?_
  refine Sx.up (fun _ kk => r_sldN (j + 2) (xs (j + 2)) 1077 dL_law_1076 rfl rfl (nI_c2 j) (show j + 2 < L by omega) hL rfl kk) ?_
  refine Sx.up (fun _ kk => r_aload_n 1078 dL_law_1077 rfl rfl kk) ?_
  refine Sx.wide (bc2 := bc + bc2) (bs2 := bs + bs2) (by omega) (by omega) ?_
  refine Sx.up (fun _ kk => r_callSW (M := mL_law L xs) (pc := 1078) (d := 61) (bc := bc) (bs := bs) 1081 dL_law_1078 rfl k13_151 hc rfl rfl (Nat.le_of_ble_eq_true rfl) kk) ?_
  refine Sx.up (fun _ kk => r_istore 1083 dL_law_1081 rfl (Nat.le_of_ble_eq_true rfl) rfl kk) ?_
  refine Sx.up (fun _ kk => r_aload_n 1084 dL_law_1083 rfl rfl kk) ?_
  refine Sx.up (fun _ kk => r_aload_n 1085 dL_law_1084 rfl rfl kk) ?_
  refine Sx.up (fun _ kk => r_iload 1087 dL_law_1085 rfl rfl kk) ?_
  refine Sx.up (fun _ kk => r_iconst (1) 1088 dL_law_1087 rfl (by decide) kk) ?_
  refine Sx.up (fun _ kk => r_iadd 1089 dL_law_1088 rfl kk) ?_
  refine Sx.up (fun _ kk => r_sldN (j + 1) (xs (j + 1)) 1090 dL_law_1089 rfl rfl (nI_c1 j) (show j + 1 < L by omega) hL rfl kk) ?_
  refine Sx.up (fun _ kk => r_aload_n 1091 dL_law_1090 rfl rfl kk) ?_
  refine Sx.up (fun _ kk => r_iload 1093 dL_law_1091 rfl rfl kk) ?_
  refine Sx.up (fun _ kk => r_iconst (2) 1094 dL_law_1093 rfl (by decide) kk) ?_
  refine Sx.up (fun _ kk => r_iadd 1095 dL_law_1094 rfl kk) ?_
  refine Sx.up (fun _ kk => r_sldN (j + 2) (xs (j + 2)) 1096 dL_law_1095 rfl rfl (nI_c2 j) (show j + 2 < L by omega) hL rfl kk) ?_
  refine Sx.up (fun _ kk => r_callVd (M := mL_law L xs) (pc := 1096) (d := 61) (bc := bc) (bs := bs) (by decide) 1099 dL_law_1096 rfl k13_153 hm rfl rfl rfl (by decide) rfl (Nat.le_of_ble_eq_true rfl) (Nat.le_of_ble_eq_true rfl) kk) ?_
  refine Sx.up (fun _ kk => r_istore 1101 dL_law_1099 rfl (Nat.le_of_ble_eq_true rfl) rfl kk) ?_
  refine Sx.up (fun _ kk => r_aload_n 1102 dL_law_1101 rfl rfl kk) ?_
  refine Sx.up (fun _ kk => r_callVd (M := mL_law L xs) (pc := 1102) (d := 61) (bc := bc) (bs := bs) (by decide) 1105 dL_law_1102 rfl k13_88 (m_thrown (d := 52) (rel_td hN).2.1) rfl rfl rfl (by decide) rfl (Nat.le_of_ble_eq_true rfl) (Nat.le_of_ble_eq_true rfl) kk) ?_
  refine Sx.up (fun _ kk => r_iload 1107 dL_law_1105 rfl rfl kk) ?_
  refine Sx.up (fun _ kk => r_icmp_eq 1110 1112 dL_law_1107 rfl (by decide) (fun _ => kk) (fun z => absurd g1 z)) ?_
  refine Sx.up (fun _ kk => r_iload 1114 dL_law_1112 rfl rfl kk) ?_
  refine Sx.br (fun _ ka kb => r_if_ne 1117 1129 dL_law_1114 rfl (by decide) ka kb) (by first | exact em1 | exact em2) (fun hz => ?_) (fun hz => ?_)
  · refine Sx.up (fun _ kk => r_goto 1690 dL_law_1129 (by decide) kk) ?_
    exact Sx.less (ls := [some (.ref 2000), some (.ref 0), some (.ref 95), some (.ref 136), some (.int (nI j)), none, none]) (by exact ⟨rfl, rfl, rfl, rfl, rfl, trivial⟩) (kk E3 hR)
  · refine Sx.up (fun _ kk => r_aload_n 1118 dL_law_1117 rfl rfl kk) ?_
    refine Sx.up (fun _ kk => r_iconst (0) 1119 dL_law_1118 rfl (by decide) kk) ?_
    refine Sx.up (fun _ kk => r_lald (l9 := 1) 1120 dL_law_1119 rfl rfl (Nat.le_of_ble_eq_true rfl) (by unfold vp_in; decide) kk) ?_
    refine Sx.up (fun _ kk => r_iload 1122 dL_law_1120 rfl rfl kk) ?_
    refine Sx.up (fun _ kk => r_i2l 1123 dL_law_1122 rfl kk) ?_
    refine Sx.up (fun _ kk => r_lcmp 1124 dL_law_1123 rfl kk) ?_
    refine Sx.up (fun _ kk => r_if_eq 1127 1129 dL_law_1124 rfl (by decide) (fun _ => kk) (fun z => absurd (lcmp_0 (g2 hz)) z)) ?_
    refine Sx.up (fun _ kk => r_goto 1690 dL_law_1129 (by decide) kk) ?_
    exact Sx.less (ls := [some (.ref 2000), some (.ref 0), some (.ref 95), some (.ref 136), some (.int (nI j)), none, none]) (by exact ⟨rfl, rfl, rfl, rfl, rfl, trivial⟩) (kk E3 hR)
set_option maxHeartbeats 16000000 in
set_option maxRecDepth 20000 in
theorem s_bolsters {L j bc bs : Nat} {xs : Nat → Int32} {Post : OUT → Prop} {E : HP} (hj : j + 5 < L) (hL : L ≤ 3072) (h : OpH yL_bolsters mL_bolsters yX12_bolsters mX12_bolsters [.int (xs (j + 1))] E) (kk : ∀ E3, Rel E3 → Sx (mL_law L xs) 62 bc bs Post 1690 [some (.ref 2000), some (.ref 0), some (.ref 95), some (.ref 136), some (.int (nI j)), none, none] [] E3 137) : Sx (mL_law L xs) 62 (bc + 1) (bs + 6) Post 1132 [some (.ref 2000), some (.ref 0), some (.ref 95), some (.ref 136), some (.int (nI j)), none, none] [] E 137 := by
  obtain ⟨k, E2, bc2, bs2, h1, h2, hc, w, E3, hm, g1, g2, hR⟩ := h
  obtain ⟨b9, L9, m9, R9, k9, S9, t9, hN, hK⟩ := id hR
  refine Sx.up (fun _ kk => r_aload_n 1133 dL_law_1132 rfl rfl kk) ?_
  refine Sx.up (fun _ kk => r_aload_n 1134 dL_law_1133 rfl rfl kk) ?_
  refine Sx.up (fun _ kk => r_iload 1136 dL_law_1134 rfl rfl kk) ?_
  refine Sx.up (fun _ kk => r_iconst (1) 1137 dL_law_1136 rfl (by decide) kk) ?_
  refine Sx.up (fun _ kk => r_iadd 1138 dL_law_1137 rfl kk) ?_
  refine Sx.up (fun _ kk => r_sldN (j + 1) (xs (j + 1)) 1139 dL_law_1138 rfl rfl (nI_c1 j) (show j + 1 < L by omega) hL rfl kk) ?_
  refine Sx.up (fun _ kk => r_aload_n 1140 dL_law_1139 rfl rfl kk) ?_
  refine Sx.wide (bc2 := bc + bc2) (bs2 := bs + bs2) (by omega) (by omega) ?_
  refine Sx.up (fun _ kk => r_callSW (M := mL_law L xs) (pc := 1140) (d := 61) (bc := bc) (bs := bs) 1143 dL_law_1140 rfl k13_154 hc rfl rfl (Nat.le_of_ble_eq_true rfl) kk) ?_
  refine Sx.up (fun _ kk => r_istore 1145 dL_law_1143 rfl (Nat.le_of_ble_eq_true rfl) rfl kk) ?_
  refine Sx.up (fun _ kk => r_aload_n 1146 dL_law_1145 rfl rfl kk) ?_
  refine Sx.up (fun _ kk => r_aload_n 1147 dL_law_1146 rfl rfl kk) ?_
  refine Sx.up (fun _ kk => r_iload 1149 dL_law_1147 rfl rfl kk) ?_
  refine Sx.up (fun _ kk => r_iconst (1) 1150 dL_law_1149 rfl (by decide) kk) ?_
  refine Sx.up (fun _ kk => r_iadd 1151 dL_law_1150 rfl kk) ?_
  refine Sx.up (fun _ kk => r_sldN (j + 1) (xs (j + 1)) 1152 dL_law_1151 rfl rfl (nI_c1 j) (show j + 1 < L by omega) hL rfl kk) ?_
  refine Sx.up (fun _ kk => r_callVd (M := mL_law L xs) (pc := 1152) (d := 61) (bc := bc) (bs := bs) (by decide) 1155 dL_law_1152 rfl k13_156 hm rfl rfl rfl (by decide) rfl (Nat.le_of_ble_eq_true rfl) (Nat.le_of_ble_eq_true rfl) kk) ?_
  refine Sx.up (fun _ kk => r_istore 1157 dL_law_1155 rfl (Nat.le_of_ble_eq_true rfl) rfl kk) ?_
  refine Sx.up (fun _ kk => r_aload_n 1158 dL_law_1157 rfl rfl kk) ?_
  refine Sx.up (fun _ kk => r_callVd (M := mL_law L xs) (pc := 1158) (d := 61) (bc := bc) (bs := bs) (by decide) 1161 dL_law_1158 rfl k13_88 (m_thrown (d := 52) (rel_td hN).2.1) rfl rfl rfl (by decide) rfl (Nat.le_of_ble_eq_true rfl) (Nat.le_of_ble_eq_true rfl) kk) ?_
  refine Sx.up (fun _ kk => r_iload 1163 dL_law_1161 rfl rfl kk) ?_
  refine Sx.up (fun _ kk => r_icmp_eq 1166 1168 dL_law_1163 rfl (by decide) (fun _ => kk) (fun z => absurd g1 z)) ?_
  refine Sx.up (fun _ kk => r_iload 1170 dL_law_1168 rfl rfl kk) ?_
  refine Sx.br (fun _ ka kb => r_if_ne 1173 1185 dL_law_1170 rfl (by decide) ka kb) (by first | exact em1 | exact em2) (fun hz => ?_) (fun hz => ?_)
  · refine Sx.up (fun _ kk => r_goto 1690 dL_law_1185 (by decide) kk) ?_
    exact Sx.less (ls := [some (.ref 2000), some (.ref 0), some (.ref 95), some (.ref 136), some (.int (nI j)), none, none]) (by exact ⟨rfl, rfl, rfl, rfl, rfl, trivial⟩) (kk E3 hR)
  · refine Sx.up (fun _ kk => r_aload_n 1174 dL_law_1173 rfl rfl kk) ?_
    refine Sx.up (fun _ kk => r_iconst (0) 1175 dL_law_1174 rfl (by decide) kk) ?_
    refine Sx.up (fun _ kk => r_lald (l9 := 1) 1176 dL_law_1175 rfl rfl (Nat.le_of_ble_eq_true rfl) (by unfold vp_in; decide) kk) ?_
    refine Sx.up (fun _ kk => r_iload 1178 dL_law_1176 rfl rfl kk) ?_
    refine Sx.up (fun _ kk => r_i2l 1179 dL_law_1178 rfl kk) ?_
    refine Sx.up (fun _ kk => r_lcmp 1180 dL_law_1179 rfl kk) ?_
    refine Sx.up (fun _ kk => r_if_eq 1183 1185 dL_law_1180 rfl (by decide) (fun _ => kk) (fun z => absurd (lcmp_0 (g2 hz)) z)) ?_
    refine Sx.up (fun _ kk => r_goto 1690 dL_law_1185 (by decide) kk) ?_
    exact Sx.less (ls := [some (.ref 2000), some (.ref 0), some (.ref 95), some (.ref 136), some (.int (nI j)), none, none]) (by exact ⟨rfl, rfl, rfl, rfl, rfl, trivial⟩) (kk E3 hR)
set_option maxHeartbeats 16000000 in
set_option maxRecDepth 20000 in
theorem s_free {L j bc bs : Nat} {xs : Nat → Int32} {Post : OUT → Prop} {E : HP} (hj : j + 5 < L) (hL : L ≤ 3072) (h : OpH yL_free mL_free yX12_free mX12_free [.int (xs (j + 1))] E) (kk : ∀ E3, Rel E3 → Sx (mL_law L xs) 62 bc bs Post 1690 [some (.ref 2000), some (.ref 0), some (.ref 95), some (.ref 136), some (.int (nI j)), none, none] [] E3 137) : Sx (mL_law L xs) 62 (bc + 1) (bs + 6) Post 1188 [some (.ref 2000), some (.ref 0), some (.ref 95), some (.ref 136), some (.int (nI j)), none, none] [] E 137 := by
  obtain ⟨k, E2, bc2, bs2, h1, h2, hc, w, E3, hm, g1, g2, hR⟩ := h
  obtain ⟨b9, L9, m9, R9, k9, S9, t9, hN, hK⟩ := id hR
  refine Sx.up (fun _ kk => r_aload_n 1189 dL_law_1188 rfl rfl kk) ?_
  refine Sx.up (fun _ kk => r_aload_n 1190 dL_law_1189 rfl rfl kk) ?_
  refine Sx.up (fun _ kk => r_iload 1192 dL_law_1190 rfl rfl kk) ?_
  refine Sx.up (fun _ kk => r_iconst (1) 1193 dL_law_1192 rfl (by decide) kk) ?_
  refine Sx.up (fun _ kk => r_iadd 1194 dL_law_1193 rfl kk) ?_
  refine Sx.up (fun _ kk => r_sldN (j + 1) (xs (j + 1)) 1195 dL_law_1194 rfl rfl (nI_c1 j) (show j + 1 < L by omega) hL rfl kk) ?_
  refine Sx.up (fun _ kk => r_aload_n 1196 dL_law_1195 rfl rfl kk) ?_
  refine Sx.wide (bc2 := bc + bc2) (bs2 := bs + bs2) (by omega) (by omega) ?_
  refine Sx.up (fun _ kk => r_callSW (M := mL_law L xs) (pc := 1196) (d := 61) (bc := bc) (bs := bs) 1199 dL_law_1196 rfl k13_157 hc rfl rfl (Nat.le_of_ble_eq_true rfl) kk) ?_
  refine Sx.up (fun _ kk => r_istore 1201 dL_law_1199 rfl (Nat.le_of_ble_eq_true rfl) rfl kk) ?_
  refine Sx.up (fun _ kk => r_aload_n 1202 dL_law_1201 rfl rfl kk) ?_
  refine Sx.up (fun _ kk => r_aload_n 1203 dL_law_1202 rfl rfl kk) ?_
  refine Sx.up (fun _ kk => r_iload 1205 dL_law_1203 rfl rfl kk) ?_
  refine Sx.up (fun _ kk => r_iconst (1) 1206 dL_law_1205 rfl (by decide) kk) ?_
  refine Sx.up (fun _ kk => r_iadd 1207 dL_law_1206 rfl kk) ?_
  refine Sx.up (fun _ kk => r_sldN (j + 1) (xs (j + 1)) 1208 dL_law_1207 rfl rfl (nI_c1 j) (show j + 1 < L by omega) hL rfl kk) ?_
  refine Sx.up (fun _ kk => r_callVd (M := mL_law L xs) (pc := 1208) (d := 61) (bc := bc) (bs := bs) (by decide) 1211 dL_law_1208 rfl k13_159 hm rfl rfl rfl (by decide) rfl (Nat.le_of_ble_eq_true rfl) (Nat.le_of_ble_eq_true rfl) kk) ?_
  refine Sx.up (fun _ kk => r_istore 1213 dL_law_1211 rfl (Nat.le_of_ble_eq_true rfl) rfl kk) ?_
  refine Sx.up (fun _ kk => r_aload_n 1214 dL_law_1213 rfl rfl kk) ?_
  refine Sx.up (fun _ kk => r_callVd (M := mL_law L xs) (pc := 1214) (d := 61) (bc := bc) (bs := bs) (by decide) 1217 dL_law_1214 rfl k13_88 (m_thrown (d := 52) (rel_td hN).2.1) rfl rfl rfl (by decide) rfl (Nat.le_of_ble_eq_true rfl) (Nat.le_of_ble_eq_true rfl) kk) ?_
  refine Sx.up (fun _ kk => r_iload 1219 dL_law_1217 rfl rfl kk) ?_
  refine Sx.up (fun _ kk => r_icmp_eq 1222 1224 dL_law_1219 rfl (by decide) (fun _ => kk) (fun z => absurd g1 z)) ?_
  refine Sx.up (fun _ kk => r_iload 1226 dL_law_1224 rfl rfl kk) ?_
  refine Sx.br (fun _ ka kb => r_if_ne 1229 1241 dL_law_1226 rfl (by decide) ka kb) (by first | exact em1 | exact em2) (fun hz => ?_) (fun hz => ?_)
  · refine Sx.up (fun _ kk => r_goto 1690 dL_law_1241 (by decide) kk) ?_
    exact Sx.less (ls := [some (.ref 2000), some (.ref 0), some (.ref 95), some (.ref 136), some (.int (nI j)), none, none]) (by exact ⟨rfl, rfl, rfl, rfl, rfl, trivial⟩) (kk E3 hR)
  · refine Sx.up (fun _ kk => r_aload_n 1230 dL_law_1229 rfl rfl kk) ?_
    refine Sx.up (fun _ kk => r_iconst (0) 1231 dL_law_1230 rfl (by decide) kk) ?_
    refine Sx.up (fun _ kk => r_lald (l9 := 1) 1232 dL_law_1231 rfl rfl (Nat.le_of_ble_eq_true rfl) (by unfold vp_in; decide) kk) ?_
    refine Sx.up (fun _ kk => r_iload 1234 dL_law_1232 rfl rfl kk) ?_
    refine Sx.up (fun _ kk => r_i2l 1235 dL_law_1234 rfl kk) ?_
    refine Sx.up (fun _ kk => r_lcmp 1236 dL_law_1235 rfl kk) ?_
    refine Sx.up (fun _ kk => r_if_eq 1239 1241 dL_law_1236 rfl (by decide) (fun _ => kk) (fun z => absurd (lcmp_0 (g2 hz)) z)) ?_
    refine Sx.up (fun _ kk => r_goto 1690 dL_law_1241 (by decide) kk) ?_
    exact Sx.less (ls := [some (.ref 2000), some (.ref 0), some (.ref 95), some (.ref 136), some (.int (nI j)), none, none]) (by exact ⟨rfl, rfl, rfl, rfl, rfl, trivial⟩) (kk E3 hR)
set_option maxHeartbeats 16000000 in
set_option maxRecDepth 20000 in
theorem s_outs {L j bc bs : Nat} {xs : Nat → Int32} {Post : OUT → Prop} {E : HP} (hj : j + 5 < L) (hL : L ≤ 3072) (h : OpH yL_outs mL_outs yX12_outs mX12_outs [.int (xs (j + 1))] E) (kk : ∀ E3, Rel E3 → Sx (mL_law L xs) 62 bc bs Post 1690 [some (.ref 2000), some (.ref 0), some (.ref 95), some (.ref 136), some (.int (nI j)), none, none] [] E3 137) : Sx (mL_law L xs) 62 (bc + 1) (bs + 6) Post 1244 [some (.ref 2000), some (.ref 0), some (.ref 95), some (.ref 136), some (.int (nI j)), none, none] [] E 137 := by
  obtain ⟨k, E2, bc2, bs2, h1, h2, hc, w, E3, hm, g1, g2, hR⟩ := h
  obtain ⟨b9, L9, m9, R9, k9, S9, t9, hN, hK⟩ := id hR
  refine Sx.up (fun _ kk => r_aload_n 1245 dL_law_1244 rfl rfl kk) ?_
  refine Sx.up (fun _ kk => r_aload_n 1246 dL_law_1245 rfl rfl kk) ?_
  refine Sx.up (fun _ kk => r_iload 1248 dL_law_1246 rfl rfl kk) ?_
  refine Sx.up (fun _ kk => r_iconst (1) 1249 dL_law_1248 rfl (by decide) kk) ?_
  refine Sx.up (fun _ kk => r_iadd 1250 dL_law_1249 rfl kk) ?_
  refine Sx.up (fun _ kk => r_sldN (j + 1) (xs (j + 1)) 1251 dL_law_1250 rfl rfl (nI_c1 j) (show j + 1 < L by omega) hL rfl kk) ?_
  refine Sx.up (fun _ kk => r_aload_n 1252 dL_law_1251 rfl rfl kk) ?_
  refine Sx.wide (bc2 := bc + bc2) (bs2 := bs + bs2) (by omega) (by omega) ?_
  refine Sx.up (fun _ kk => r_callSW (M := mL_law L xs) (pc := 1252) (d := 61) (bc := bc) (bs := bs) 1255 dL_law_1252 rfl k13_160 hc rfl rfl (Nat.le_of_ble_eq_true rfl) kk) ?_
  refine Sx.up (fun _ kk => r_istore 1257 dL_law_1255 rfl (Nat.le_of_ble_eq_true rfl) rfl kk) ?_
  refine Sx.up (fun _ kk => r_aload_n 1258 dL_law_1257 rfl rfl kk) ?_
  refine Sx.up (fun _ kk => r_aload_n 1259 dL_law_1258 rfl rfl kk) ?_
  refine Sx.up (fun _ kk => r_iload 1261 dL_law_1259 rfl rfl kk) ?_
  refine Sx.up (fun _ kk => r_iconst (1) 1262 dL_law_1261 rfl (by decide) kk) ?_
  refine Sx.up (fun _ kk => r_iadd 1263 dL_law_1262 rfl kk) ?_
  refine Sx.up (fun _ kk => r_sldN (j + 1) (xs (j + 1)) 1264 dL_law_1263 rfl rfl (nI_c1 j) (show j + 1 < L by omega) hL rfl kk) ?_
  refine Sx.up (fun _ kk => r_callVd (M := mL_law L xs) (pc := 1264) (d := 61) (bc := bc) (bs := bs) (by decide) 1267 dL_law_1264 rfl k13_162 hm rfl rfl rfl (by decide) rfl (Nat.le_of_ble_eq_true rfl) (Nat.le_of_ble_eq_true rfl) kk) ?_
  refine Sx.up (fun _ kk => r_istore 1269 dL_law_1267 rfl (Nat.le_of_ble_eq_true rfl) rfl kk) ?_
  refine Sx.up (fun _ kk => r_aload_n 1270 dL_law_1269 rfl rfl kk) ?_
  refine Sx.up (fun _ kk => r_callVd (M := mL_law L xs) (pc := 1270) (d := 61) (bc := bc) (bs := bs) (by decide) 1273 dL_law_1270 rfl k13_88 (m_thrown (d := 52) (rel_td hN).2.1) rfl rfl rfl (by decide) rfl (Nat.le_of_ble_eq_true rfl) (Nat.le_of_ble_eq_true rfl) kk) ?_
  refine Sx.up (fun _ kk => r_iload 1275 dL_law_1273 rfl rfl kk) ?_
  refine Sx.up (fun _ kk => r_icmp_eq 1278 1280 dL_law_1275 rfl (by decide) (fun _ => kk) (fun z => absurd g1 z)) ?_
  refine Sx.up (fun _ kk => r_iload 1282 dL_law_1280 rfl rfl kk) ?_
  refine Sx.br (fun _ ka kb => r_if_ne 1285 1297 dL_law_1282 rfl (by decide) ka kb) (by first | exact em1 | exact em2) (fun hz => ?_) (fun hz => ?_)
  · refine Sx.up (fun _ kk => r_goto 1690 dL_law_1297 (by decide) kk) ?_
    exact Sx.less (ls := [some (.ref 2000), some (.ref 0), some (.ref 95), some (.ref 136), some (.int (nI j)), none, none]) (by exact ⟨rfl, rfl, rfl, rfl, rfl, trivial⟩) (kk E3 hR)
  · refine Sx.up (fun _ kk => r_aload_n 1286 dL_law_1285 rfl rfl kk) ?_
    refine Sx.up (fun _ kk => r_iconst (0) 1287 dL_law_1286 rfl (by decide) kk) ?_
    refine Sx.up (fun _ kk => r_lald (l9 := 1) 1288 dL_law_1287 rfl rfl (Nat.le_of_ble_eq_true rfl) (by unfold vp_in; decide) kk) ?_
    refine Sx.up (fun _ kk => r_iload 1290 dL_law_1288 rfl rfl kk) ?_
    refine Sx.up (fun _ kk => r_i2l 1291 dL_law_1290 rfl kk) ?_
    refine Sx.up (fun _ kk => r_lcmp 1292 dL_law_1291 rfl kk) ?_
    refine Sx.up (fun _ kk => r_if_eq 1295 1297 dL_law_1292 rfl (by decide) (fun _ => kk) (fun z => absurd (lcmp_0 (g2 hz)) z)) ?_
    refine Sx.up (fun _ kk => r_goto 1690 dL_law_1297 (by decide) kk) ?_
    exact Sx.less (ls := [some (.ref 2000), some (.ref 0), some (.ref 95), some (.ref 136), some (.int (nI j)), none, none]) (by exact ⟨rfl, rfl, rfl, rfl, rfl, trivial⟩) (kk E3 hR)
set_option maxRecDepth 20000 in
theorem s_edge {L j bc bs : Nat} {xs : Nat → Int32} {Post : OUT → Prop} {E : HP} (hj : j + 5 < L) (hL : L ≤ 3072) (h : OpP yX11_edge mX11_edge yX12_edge mX12_edge [] E) (kk : ∀ E3, Rel E3 → Sx (mL_law L xs) 62 bc bs Post 1690 [some (.ref 2000), some (.ref 0), some (.ref 95), some (.ref 136), some (.int (nI j)), none, none] [] E3 137) : Sx (mL_law L xs) 62 (bc + 1) (bs + 6) Post 1300 [some (.ref 2000), some (.ref 0), some (.ref 95), some (.ref 136), some (.int (nI j)), none, none] [] E 137 := by
  obtain ⟨v, E2, bc2, bs2, h1, h2, hc, E3, hm, hR⟩ := h
  refine Sx.up (fun _ kk => r_aload_n 1301 dL_law_1300 rfl rfl kk) ?_
  refine Sx.wide (bc2 := bc + bc2) (bs2 := bs + bs2) (by omega) (by omega) ?_
  refine Sx.up (fun _ kk => r_callVd (M := mL_law L xs) (pc := 1301) (d := 61) (bc := bc) (bs := bs) (by decide) 1304 dL_law_1301 rfl k13_163 hc rfl rfl rfl (by decide) rfl (Nat.le_of_ble_eq_true rfl) (Nat.le_of_ble_eq_true rfl) kk) ?_
  refine Sx.up (fun _ kk => r_aload_n 1305 dL_law_1304 rfl rfl kk) ?_
  refine Sx.up (fun _ kk => r_callVd (M := mL_law L xs) (pc := 1305) (d := 61) (bc := bc) (bs := bs) (by decide) 1308 dL_law_1305 rfl k13_166 hm rfl rfl rfl (by decide) rfl (Nat.le_of_ble_eq_true rfl) (Nat.le_of_ble_eq_true rfl) kk) ?_
  refine Sx.up (fun _ kk => r_icmp_eq 1311 1690 dL_law_1308 rfl (by decide) (fun _ => kk) (fun z => absurd rfl z)) ?_
  exact kk E3 hR
set_option maxHeartbeats 16000000 in
set_option maxRecDepth 20000 in
theorem s_fair {L j bc bs : Nat} {xs : Nat → Int32} {Post : OUT → Prop} {E : HP} (hj : j + 5 < L) (hL : L ≤ 3072) (h : OpH yL_fair mL_fair yX12_fair mX12_fair [.int (xs (j + 1)), .int (xs (j + 2))] E) (kk : ∀ E3, Rel E3 → Sx (mL_law L xs) 62 bc bs Post 1690 [some (.ref 2000), some (.ref 0), some (.ref 95), some (.ref 136), some (.int (nI j)), none, none] [] E3 137) : Sx (mL_law L xs) 62 (bc + 1) (bs + 6) Post 1313 [some (.ref 2000), some (.ref 0), some (.ref 95), some (.ref 136), some (.int (nI j)), none, none] [] E 137 := by
  obtain ⟨k, E2, bc2, bs2, h1, h2, hc, w, E3, hm, g1, g2, hR⟩ := h
  obtain ⟨b9, L9, m9, R9, k9, S9, t9, hN, hK⟩ := id hR
  refine Sx.up (fun _ kk => r_aload_n 1314 dL_law_1313 rfl rfl kk) ?_
  refine Sx.up (fun _ kk => r_aload_n 1315 dL_law_1314 rfl rfl kk) ?_
  refine Sx.up (fun _ kk => r_iload 1317 dL_law_1315 rfl rfl kk) ?_
  refine Sx.up (fun _ kk => r_iconst (1) 1318 dL_law_1317 rfl (by decide) kk) ?_
  refine Sx.up (fun _ kk => r_iadd 1319 dL_law_1318 rfl kk) ?_
  refine Sx.up (fun _ kk => r_sldN (j + 1) (xs (j + 1)) 1320 dL_law_1319 rfl rfl (nI_c1 j) (show j + 1 < L by omega) hL rfl kk) ?_
  refine Sx.up (fun _ kk => r_aload_n 1321 dL_law_1320 rfl rfl kk) ?_
  refine Sx.up (fun _ kk => r_iload 1323 dL_law_1321 rfl rfl kk) ?_
  refine Sx.up (fun _ kk => r_iconst (2) 1324 dL_law_1323 rfl (by decide) kk) ?_
  refine Sx.up (fun _ kk => r_iadd 1325 dL_law_1324 rfl kk) ?_
  refine Sx.up (fun _ kk => r_sldN (j + 2) (xs (j + 2)) 1326 dL_law_1325 rfl rfl (nI_c2 j) (show j + 2 < L by omega) hL rfl kk) ?_
  refine Sx.up (fun _ kk => r_aload_n 1327 dL_law_1326 rfl rfl kk) ?_
  refine Sx.wide (bc2 := bc + bc2) (bs2 := bs + bs2) (by omega) (by omega) ?_
  refine Sx.up (fun _ kk => r_callSW (M := mL_law L xs) (pc := 1327) (d := 61) (bc := bc) (bs := bs) 1330 dL_law_1327 rfl k13_167 hc rfl rfl (Nat.le_of_ble_eq_true rfl) kk) ?_
  refine Sx.up (fun _ kk => r_istore 1332 dL_law_1330 rfl (Nat.le_of_ble_eq_true rfl) rfl kk) ?_
  refine Sx.up (fun _ kk => r_aload_n 1333 dL_law_1332 rfl rfl kk) ?_
  refine Sx.up (fun _ kk => r_aload_n 1334 dL_law_1333 rfl rfl kk) ?_
  refine Sx.up (fun _ kk => r_iload 1336 dL_law_1334 rfl rfl kk) ?_
  refine Sx.up (fun _ kk => r_iconst (1) 1337 dL_law_1336 rfl (by decide) kk) ?_
  refine Sx.up (fun _ kk => r_iadd 1338 dL_law_1337 rfl kk) ?_
  refine Sx.up (fun _ kk => r_sldN (j + 1) (xs (j + 1)) 1339 dL_law_1338 rfl rfl (nI_c1 j) (show j + 1 < L by omega) hL rfl kk) ?_
  refine Sx.up (fun _ kk => r_aload_n 1340 dL_law_1339 rfl rfl kk) ?_
  refine Sx.up (fun _ kk => r_iload 1342 dL_law_1340 rfl rfl kk) ?_
  refine Sx.up (fun _ kk => r_iconst (2) 1343 dL_law_1342 rfl (by decide) kk) ?_
  refine Sx.up (fun _ kk => r_iadd 1344 dL_law_1343 rfl kk) ?_
  refine Sx.up (fun _ kk => r_sldN (j + 2) (xs (j + 2)) 1345 dL_law_1344 rfl rfl (nI_c2 j) (show j + 2 < L by omega) hL rfl kk) ?_
  refine Sx.up (fun _ kk => r_callVd (M := mL_law L xs) (pc := 1345) (d := 61) (bc := bc) (bs := bs) (by decide) 1348 dL_law_1345 rfl k13_169 hm rfl rfl rfl (by decide) rfl (Nat.le_of_ble_eq_true rfl) (Nat.le_of_ble_eq_true rfl) kk) ?_
  refine Sx.up (fun _ kk => r_istore 1350 dL_law_1348 rfl (Nat.le_of_ble_eq_true rfl) rfl kk) ?_
  refine Sx.up (fun _ kk => r_aload_n 1351 dL_law_1350 rfl rfl kk) ?_
  refine Sx.up (fun _ kk => r_callVd (M := mL_law L xs) (pc := 1351) (d := 61) (bc := bc) (bs := bs) (by decide) 1354 dL_law_1351 rfl k13_88 (m_thrown (d := 52) (rel_td hN).2.1) rfl rfl rfl (by decide) rfl (Nat.le_of_ble_eq_true rfl) (Nat.le_of_ble_eq_true rfl) kk) ?_
  refine Sx.up (fun _ kk => r_iload 1356 dL_law_1354 rfl rfl kk) ?_
  refine Sx.up (fun _ kk => r_icmp_eq 1359 1361 dL_law_1356 rfl (by decide) (fun _ => kk) (fun z => absurd g1 z)) ?_
  refine Sx.up (fun _ kk => r_iload 1363 dL_law_1361 rfl rfl kk) ?_
  refine Sx.br (fun _ ka kb => r_if_ne 1366 1378 dL_law_1363 rfl (by decide) ka kb) (by first | exact em1 | exact em2) (fun hz => ?_) (fun hz => ?_)
  · refine Sx.up (fun _ kk => r_goto 1690 dL_law_1378 (by decide) kk) ?_
    exact Sx.less (ls := [some (.ref 2000), some (.ref 0), some (.ref 95), some (.ref 136), some (.int (nI j)), none, none]) (by exact ⟨rfl, rfl, rfl, rfl, rfl, trivial⟩) (kk E3 hR)
  · refine Sx.up (fun _ kk => r_aload_n 1367 dL_law_1366 rfl rfl kk) ?_
    refine Sx.up (fun _ kk => r_iconst (0) 1368 dL_law_1367 rfl (by decide) kk) ?_
    refine Sx.up (fun _ kk => r_lald (l9 := 1) 1369 dL_law_1368 rfl rfl (Nat.le_of_ble_eq_true rfl) (by unfold vp_in; decide) kk) ?_
    refine Sx.up (fun _ kk => r_iload 1371 dL_law_1369 rfl rfl kk) ?_
    refine Sx.up (fun _ kk => r_i2l 1372 dL_law_1371 rfl kk) ?_
    refine Sx.up (fun _ kk => r_lcmp 1373 dL_law_1372 rfl kk) ?_
    refine Sx.up (fun _ kk => r_if_eq 1376 1378 dL_law_1373 rfl (by decide) (fun _ => kk) (fun z => absurd (lcmp_0 (g2 hz)) z)) ?_
    refine Sx.up (fun _ kk => r_goto 1690 dL_law_1378 (by decide) kk) ?_
    exact Sx.less (ls := [some (.ref 2000), some (.ref 0), some (.ref 95), some (.ref 136), some (.int (nI j)), none, none]) (by exact ⟨rfl, rfl, rfl, rfl, rfl, trivial⟩) (kk E3 hR)
set_option maxHeartbeats 16000000 in
set_option maxRecDepth 20000 in
theorem s_see {L j bc bs : Nat} {xs : Nat → Int32} {Post : OUT → Prop} {E : HP} (hj : j + 5 < L) (hL : L ≤ 3072) (h : OpH yL_see mL_see yX12_see mX12_see [.int (xs (j + 1)), .int (xs (j + 2)), .int (xs (j + 3))] E) (kk : ∀ E3, Rel E3 → Sx (mL_law L xs) 62 bc bs Post 1690 [some (.ref 2000), some (.ref 0), some (.ref 95), some (.ref 136), some (.int (nI j)), none, none] [] E3 137) : Sx (mL_law L xs) 62 (bc + 1) (bs + 6) Post 1381 [some (.ref 2000), some (.ref 0), some (.ref 95), some (.ref 136), some (.int (nI j)), none, none] [] E 137 := by
  obtain ⟨k, E2, bc2, bs2, h1, h2, hc, w, E3, hm, g1, g2, hR⟩ := h
  obtain ⟨b9, L9, m9, R9, k9, S9, t9, hN, hK⟩ := id hR
  refine Sx.up (fun _ kk => r_aload_n 1382 dL_law_1381 rfl rfl kk) ?_
  refine Sx.up (fun _ kk => r_aload_n 1383 dL_law_1382 rfl rfl kk) ?_
  refine Sx.up (fun _ kk => r_iload 1385 dL_law_1383 rfl rfl kk) ?_
  refine Sx.up (fun _ kk => r_iconst (1) 1386 dL_law_1385 rfl (by decide) kk) ?_
  refine Sx.up (fun _ kk => r_iadd 1387 dL_law_1386 rfl kk) ?_
  refine Sx.up (fun _ kk => r_sldN (j + 1) (xs (j + 1)) 1388 dL_law_1387 rfl rfl (nI_c1 j) (show j + 1 < L by omega) hL rfl kk) ?_
  refine Sx.up (fun _ kk => r_aload_n 1389 dL_law_1388 rfl rfl kk) ?_
  refine Sx.up (fun _ kk => r_iload 1391 dL_law_1389 rfl rfl kk) ?_
  refine Sx.up (fun _ kk => r_iconst (2) 1392 dL_law_1391 rfl (by decide) kk) ?_
  refine Sx.up (fun _ kk => r_iadd 1393 dL_law_1392 rfl kk) ?_
  refine Sx.up (fun _ kk => r_sldN (j + 2) (xs (j + 2)) 1394 dL_law_1393 rfl rfl (nI_c2 j) (show j + 2 < L by omega) hL rfl kk) ?_
  refine Sx.up (fun _ kk => r_aload_n 1395 dL_law_1394 rfl rfl kk) ?_
  refine Sx.up (fun _ kk => r_iload 1397 dL_law_1395 rfl rfl kk) ?_
  refine Sx.up (fun _ kk => r_iconst (3) 1398 dL_law_1397 rfl (by decide) kk) ?_
  refine Sx.up (fun _ kk => r_iadd 1399 dL_law_1398 rfl kk) ?_
  refine Sx.up (fun _ kk => r_sldN (j + 3) (xs (j + 3)) 1400 dL_law_1399 rfl rfl (nI_c3 j) (show j + 3 < L by omega) hL rfl kk) ?_
  refine Sx.up (fun _ kk => r_aload_n 1401 dL_law_1400 rfl rfl kk) ?_
  refine Sx.wide (bc2 := bc + bc2) (bs2 := bs + bs2) (by omega) (by omega) ?_
  refine Sx.up (fun _ kk => r_callSW (M := mL_law L xs) (pc := 1401) (d := 61) (bc := bc) (bs := bs) 1404 dL_law_1401 rfl k13_170 hc rfl rfl (Nat.le_of_ble_eq_true rfl) kk) ?_
  refine Sx.up (fun _ kk => r_istore 1406 dL_law_1404 rfl (Nat.le_of_ble_eq_true rfl) rfl kk) ?_
  refine Sx.up (fun _ kk => r_aload_n 1407 dL_law_1406 rfl rfl kk) ?_
  refine Sx.up (fun _ kk => r_aload_n 1408 dL_law_1407 rfl rfl kk) ?_
  refine Sx.up (fun _ kk => r_iload 1410 dL_law_1408 rfl rfl kk) ?_
  refine Sx.up (fun _ kk => r_iconst (1) 1411 dL_law_1410 rfl (by decide) kk) ?_
  refine Sx.up (fun _ kk => r_iadd 1412 dL_law_1411 rfl kk) ?_
  refine Sx.up (fun _ kk => r_sldN (j + 1) (xs (j + 1)) 1413 dL_law_1412 rfl rfl (nI_c1 j) (show j + 1 < L by omega) hL rfl kk) ?_
  refine Sx.up (fun _ kk => r_aload_n 1414 dL_law_1413 rfl rfl kk) ?_
  refine Sx.up (fun _ kk => r_iload 1416 dL_law_1414 rfl rfl kk) ?_
  refine Sx.up (fun _ kk => r_iconst (2) 1417 dL_law_1416 rfl (by decide) kk) ?_
  refine Sx.up (fun _ kk => r_iadd 1418 dL_law_1417 rfl kk) ?_
  refine Sx.up (fun _ kk => r_sldN (j + 2) (xs (j + 2)) 1419 dL_law_1418 rfl rfl (nI_c2 j) (show j + 2 < L by omega) hL rfl kk) ?_
  refine Sx.up (fun _ kk => r_aload_n 1420 dL_law_1419 rfl rfl kk) ?_
  refine Sx.up (fun _ kk => r_iload 1422 dL_law_1420 rfl rfl kk) ?_
  refine Sx.up (fun _ kk => r_iconst (3) 1423 dL_law_1422 rfl (by decide) kk) ?_
  refine Sx.up (fun _ kk => r_iadd 1424 dL_law_1423 rfl kk) ?_
  refine Sx.up (fun _ kk => r_sldN (j + 3) (xs (j + 3)) 1425 dL_law_1424 rfl rfl (nI_c3 j) (show j + 3 < L by omega) hL rfl kk) ?_
  refine Sx.up (fun _ kk => r_callVd (M := mL_law L xs) (pc := 1425) (d := 61) (bc := bc) (bs := bs) (by decide) 1428 dL_law_1425 rfl k13_172 hm rfl rfl rfl (by decide) rfl (Nat.le_of_ble_eq_true rfl) (Nat.le_of_ble_eq_true rfl) kk) ?_
  refine Sx.up (fun _ kk => r_istore 1430 dL_law_1428 rfl (Nat.le_of_ble_eq_true rfl) rfl kk) ?_
  refine Sx.up (fun _ kk => r_aload_n 1431 dL_law_1430 rfl rfl kk) ?_
  refine Sx.up (fun _ kk => r_callVd (M := mL_law L xs) (pc := 1431) (d := 61) (bc := bc) (bs := bs) (by decide) 1434 dL_law_1431 rfl k13_88 (m_thrown (d := 52) (rel_td hN).2.1) rfl rfl rfl (by decide) rfl (Nat.le_of_ble_eq_true rfl) (Nat.le_of_ble_eq_true rfl) kk) ?_
  refine Sx.up (fun _ kk => r_iload 1436 dL_law_1434 rfl rfl kk) ?_
  refine Sx.up (fun _ kk => r_icmp_eq 1439 1441 dL_law_1436 rfl (by decide) (fun _ => kk) (fun z => absurd g1 z)) ?_
  refine Sx.up (fun _ kk => r_iload 1443 dL_law_1441 rfl rfl kk) ?_
  refine Sx.br (fun _ ka kb => r_if_ne 1446 1458 dL_law_1443 rfl (by decide) ka kb) (by first | exact em1 | exact em2) (fun hz => ?_) (fun hz => ?_)
  · refine Sx.up (fun _ kk => r_goto 1690 dL_law_1458 (by decide) kk) ?_
    exact Sx.less (ls := [some (.ref 2000), some (.ref 0), some (.ref 95), some (.ref 136), some (.int (nI j)), none, none]) (by exact ⟨rfl, rfl, rfl, rfl, rfl, trivial⟩) (kk E3 hR)
  · refine Sx.up (fun _ kk => r_aload_n 1447 dL_law_1446 rfl rfl kk) ?_
    refine Sx.up (fun _ kk => r_iconst (0) 1448 dL_law_1447 rfl (by decide) kk) ?_
    refine Sx.up (fun _ kk => r_lald (l9 := 1) 1449 dL_law_1448 rfl rfl (Nat.le_of_ble_eq_true rfl) (by unfold vp_in; decide) kk) ?_
    refine Sx.up (fun _ kk => r_iload 1451 dL_law_1449 rfl rfl kk) ?_
    refine Sx.up (fun _ kk => r_i2l 1452 dL_law_1451 rfl kk) ?_
    refine Sx.up (fun _ kk => r_lcmp 1453 dL_law_1452 rfl kk) ?_
    refine Sx.up (fun _ kk => r_if_eq 1456 1458 dL_law_1453 rfl (by decide) (fun _ => kk) (fun z => absurd (lcmp_0 (g2 hz)) z)) ?_
    refine Sx.up (fun _ kk => r_goto 1690 dL_law_1458 (by decide) kk) ?_
    exact Sx.less (ls := [some (.ref 2000), some (.ref 0), some (.ref 95), some (.ref 136), some (.int (nI j)), none, none]) (by exact ⟨rfl, rfl, rfl, rfl, rfl, trivial⟩) (kk E3 hR)
set_option maxRecDepth 20000 in
theorem s_forget {L j bc bs : Nat} {xs : Nat → Int32} {Post : OUT → Prop} {E : HP} (hj : j + 5 < L) (hL : L ≤ 3072) (h : OpP yX11_forget mX11_forget yX12_forget mX12_forget [] E) (kk : ∀ E3, Rel E3 → Sx (mL_law L xs) 62 bc bs Post 1690 [some (.ref 2000), some (.ref 0), some (.ref 95), some (.ref 136), some (.int (nI j)), none, none] [] E3 137) : Sx (mL_law L xs) 62 (bc + 1) (bs + 6) Post 1461 [some (.ref 2000), some (.ref 0), some (.ref 95), some (.ref 136), some (.int (nI j)), none, none] [] E 137 := by
  obtain ⟨v, E2, bc2, bs2, h1, h2, hc, E3, hm, hR⟩ := h
  refine Sx.up (fun _ kk => r_aload_n 1462 dL_law_1461 rfl rfl kk) ?_
  refine Sx.wide (bc2 := bc + bc2) (bs2 := bs + bs2) (by omega) (by omega) ?_
  refine Sx.up (fun _ kk => r_callVd (M := mL_law L xs) (pc := 1462) (d := 61) (bc := bc) (bs := bs) (by decide) 1465 dL_law_1462 rfl k13_173 hc rfl rfl rfl (by decide) rfl (Nat.le_of_ble_eq_true rfl) (Nat.le_of_ble_eq_true rfl) kk) ?_
  refine Sx.up (fun _ kk => r_aload_n 1466 dL_law_1465 rfl rfl kk) ?_
  refine Sx.up (fun _ kk => r_callVd (M := mL_law L xs) (pc := 1466) (d := 61) (bc := bc) (bs := bs) (by decide) 1469 dL_law_1466 rfl k13_176 hm rfl rfl rfl (by decide) rfl (Nat.le_of_ble_eq_true rfl) (Nat.le_of_ble_eq_true rfl) kk) ?_
  refine Sx.up (fun _ kk => r_icmp_eq 1472 1690 dL_law_1469 rfl (by decide) (fun _ => kk) (fun z => absurd rfl z)) ?_
  exact kk E3 hR
set_option maxHeartbeats 16000000 in
set_option maxRecDepth 20000 in
theorem s_fits {L j bc bs : Nat} {xs : Nat → Int32} {Post : OUT → Prop} {E : HP} (hj : j + 5 < L) (hL : L ≤ 3072) (h : OpH yL_fits mL_fits yX12_fits mX12_fits [.int (xs (j + 1))] E) (kk : ∀ E3, Rel E3 → Sx (mL_law L xs) 62 bc bs Post 1690 [some (.ref 2000), some (.ref 0), some (.ref 95), some (.ref 136), some (.int (nI j)), none, none] [] E3 137) : Sx (mL_law L xs) 62 (bc + 1) (bs + 6) Post 1474 [some (.ref 2000), some (.ref 0), some (.ref 95), some (.ref 136), some (.int (nI j)), none, none] [] E 137 := by
  obtain ⟨k, E2, bc2, bs2, h1, h2, hc, w, E3, hm, g1, g2, hR⟩ := h
  obtain ⟨b9, L9, m9, R9, k9, S9, t9, hN, hK⟩ := id hR
  refine Sx.up (fun _ kk => r_aload_n 1475 dL_law_1474 rfl rfl kk) ?_
  refine Sx.up (fun _ kk => r_aload_n 1476 dL_law_1475 rfl rfl kk) ?_
  refine Sx.up (fun _ kk => r_iload 1478 dL_law_1476 rfl rfl kk) ?_
  refine Sx.up (fun _ kk => r_iconst (1) 1479 dL_law_1478 rfl (by decide) kk) ?_
  refine Sx.up (fun _ kk => r_iadd 1480 dL_law_1479 rfl kk) ?_
  refine Sx.up (fun _ kk => r_sldN (j + 1) (xs (j + 1)) 1481 dL_law_1480 rfl rfl (nI_c1 j) (show j + 1 < L by omega) hL rfl kk) ?_
  refine Sx.up (fun _ kk => r_aload_n 1482 dL_law_1481 rfl rfl kk) ?_
  refine Sx.wide (bc2 := bc + bc2) (bs2 := bs + bs2) (by omega) (by omega) ?_
  refine Sx.up (fun _ kk => r_callSW (M := mL_law L xs) (pc := 1482) (d := 61) (bc := bc) (bs := bs) 1485 dL_law_1482 rfl k13_177 hc rfl rfl (Nat.le_of_ble_eq_true rfl) kk) ?_
  refine Sx.up (fun _ kk => r_istore 1487 dL_law_1485 rfl (Nat.le_of_ble_eq_true rfl) rfl kk) ?_
  refine Sx.up (fun _ kk => r_aload_n 1488 dL_law_1487 rfl rfl kk) ?_
  refine Sx.up (fun _ kk => r_aload_n 1489 dL_law_1488 rfl rfl kk) ?_
  refine Sx.up (fun _ kk => r_iload 1491 dL_law_1489 rfl rfl kk) ?_
  refine Sx.up (fun _ kk => r_iconst (1) 1492 dL_law_1491 rfl (by decide) kk) ?_
  refine Sx.up (fun _ kk => r_iadd 1493 dL_law_1492 rfl kk) ?_
  refine Sx.up (fun _ kk => r_sldN (j + 1) (xs (j + 1)) 1494 dL_law_1493 rfl rfl (nI_c1 j) (show j + 1 < L by omega) hL rfl kk) ?_
  refine Sx.up (fun _ kk => r_callVd (M := mL_law L xs) (pc := 1494) (d := 61) (bc := bc) (bs := bs) (by decide) 1497 dL_law_1494 rfl k13_179 hm rfl rfl rfl (by decide) rfl (Nat.le_of_ble_eq_true rfl) (Nat.le_of_ble_eq_true rfl) kk) ?_
  refine Sx.up (fun _ kk => r_istore 1499 dL_law_1497 rfl (Nat.le_of_ble_eq_true rfl) rfl kk) ?_
  refine Sx.up (fun _ kk => r_aload_n 1500 dL_law_1499 rfl rfl kk) ?_
  refine Sx.up (fun _ kk => r_callVd (M := mL_law L xs) (pc := 1500) (d := 61) (bc := bc) (bs := bs) (by decide) 1503 dL_law_1500 rfl k13_88 (m_thrown (d := 52) (rel_td hN).2.1) rfl rfl rfl (by decide) rfl (Nat.le_of_ble_eq_true rfl) (Nat.le_of_ble_eq_true rfl) kk) ?_
  refine Sx.up (fun _ kk => r_iload 1505 dL_law_1503 rfl rfl kk) ?_
  refine Sx.up (fun _ kk => r_icmp_eq 1508 1510 dL_law_1505 rfl (by decide) (fun _ => kk) (fun z => absurd g1 z)) ?_
  refine Sx.up (fun _ kk => r_iload 1512 dL_law_1510 rfl rfl kk) ?_
  refine Sx.br (fun _ ka kb => r_if_ne 1515 1527 dL_law_1512 rfl (by decide) ka kb) (by first | exact em1 | exact em2) (fun hz => ?_) (fun hz => ?_)
  · refine Sx.up (fun _ kk => r_goto 1690 dL_law_1527 (by decide) kk) ?_
    exact Sx.less (ls := [some (.ref 2000), some (.ref 0), some (.ref 95), some (.ref 136), some (.int (nI j)), none, none]) (by exact ⟨rfl, rfl, rfl, rfl, rfl, trivial⟩) (kk E3 hR)
  · refine Sx.up (fun _ kk => r_aload_n 1516 dL_law_1515 rfl rfl kk) ?_
    refine Sx.up (fun _ kk => r_iconst (0) 1517 dL_law_1516 rfl (by decide) kk) ?_
    refine Sx.up (fun _ kk => r_lald (l9 := 1) 1518 dL_law_1517 rfl rfl (Nat.le_of_ble_eq_true rfl) (by unfold vp_in; decide) kk) ?_
    refine Sx.up (fun _ kk => r_iload 1520 dL_law_1518 rfl rfl kk) ?_
    refine Sx.up (fun _ kk => r_i2l 1521 dL_law_1520 rfl kk) ?_
    refine Sx.up (fun _ kk => r_lcmp 1522 dL_law_1521 rfl kk) ?_
    refine Sx.up (fun _ kk => r_if_eq 1525 1527 dL_law_1522 rfl (by decide) (fun _ => kk) (fun z => absurd (lcmp_0 (g2 hz)) z)) ?_
    refine Sx.up (fun _ kk => r_goto 1690 dL_law_1527 (by decide) kk) ?_
    exact Sx.less (ls := [some (.ref 2000), some (.ref 0), some (.ref 95), some (.ref 136), some (.int (nI j)), none, none]) (by exact ⟨rfl, rfl, rfl, rfl, rfl, trivial⟩) (kk E3 hR)
set_option maxHeartbeats 16000000 in
set_option maxRecDepth 20000 in
theorem s_without {L j bc bs : Nat} {xs : Nat → Int32} {Post : OUT → Prop} {E : HP} (hj : j + 5 < L) (hL : L ≤ 3072) (h : OpH yL_without mL_without yX12_without mX12_without [.int (xs (j + 1))] E) (kk : ∀ E3, Rel E3 → Sx (mL_law L xs) 62 bc bs Post 1690 [some (.ref 2000), some (.ref 0), some (.ref 95), some (.ref 136), some (.int (nI j)), none, none] [] E3 137) : Sx (mL_law L xs) 62 (bc + 1) (bs + 6) Post 1530 [some (.ref 2000), some (.ref 0), some (.ref 95), some (.ref 136), some (.int (nI j)), none, none] [] E 137 := by
  obtain ⟨k, E2, bc2, bs2, h1, h2, hc, w, E3, hm, g1, g2, hR⟩ := h
  obtain ⟨b9, L9, m9, R9, k9, S9, t9, hN, hK⟩ := id hR
  refine Sx.up (fun _ kk => r_aload_n 1531 dL_law_1530 rfl rfl kk) ?_
  refine Sx.up (fun _ kk => r_aload_n 1532 dL_law_1531 rfl rfl kk) ?_
  refine Sx.up (fun _ kk => r_iload 1534 dL_law_1532 rfl rfl kk) ?_
  refine Sx.up (fun _ kk => r_iconst (1) 1535 dL_law_1534 rfl (by decide) kk) ?_
  refine Sx.up (fun _ kk => r_iadd 1536 dL_law_1535 rfl kk) ?_
  refine Sx.up (fun _ kk => r_sldN (j + 1) (xs (j + 1)) 1537 dL_law_1536 rfl rfl (nI_c1 j) (show j + 1 < L by omega) hL rfl kk) ?_
  refine Sx.up (fun _ kk => r_aload_n 1538 dL_law_1537 rfl rfl kk) ?_
  refine Sx.wide (bc2 := bc + bc2) (bs2 := bs + bs2) (by omega) (by omega) ?_
  refine Sx.up (fun _ kk => r_callSW (M := mL_law L xs) (pc := 1538) (d := 61) (bc := bc) (bs := bs) 1541 dL_law_1538 rfl k13_180 hc rfl rfl (Nat.le_of_ble_eq_true rfl) kk) ?_
  refine Sx.up (fun _ kk => r_istore 1543 dL_law_1541 rfl (Nat.le_of_ble_eq_true rfl) rfl kk) ?_
  refine Sx.up (fun _ kk => r_aload_n 1544 dL_law_1543 rfl rfl kk) ?_
  refine Sx.up (fun _ kk => r_aload_n 1545 dL_law_1544 rfl rfl kk) ?_
  refine Sx.up (fun _ kk => r_iload 1547 dL_law_1545 rfl rfl kk) ?_
  refine Sx.up (fun _ kk => r_iconst (1) 1548 dL_law_1547 rfl (by decide) kk) ?_
  refine Sx.up (fun _ kk => r_iadd 1549 dL_law_1548 rfl kk) ?_
  refine Sx.up (fun _ kk => r_sldN (j + 1) (xs (j + 1)) 1550 dL_law_1549 rfl rfl (nI_c1 j) (show j + 1 < L by omega) hL rfl kk) ?_
  refine Sx.up (fun _ kk => r_callVd (M := mL_law L xs) (pc := 1550) (d := 61) (bc := bc) (bs := bs) (by decide) 1553 dL_law_1550 rfl k13_182 hm rfl rfl rfl (by decide) rfl (Nat.le_of_ble_eq_true rfl) (Nat.le_of_ble_eq_true rfl) kk) ?_
  refine Sx.up (fun _ kk => r_istore 1555 dL_law_1553 rfl (Nat.le_of_ble_eq_true rfl) rfl kk) ?_
  refine Sx.up (fun _ kk => r_aload_n 1556 dL_law_1555 rfl rfl kk) ?_
  refine Sx.up (fun _ kk => r_callVd (M := mL_law L xs) (pc := 1556) (d := 61) (bc := bc) (bs := bs) (by decide) 1559 dL_law_1556 rfl k13_88 (m_thrown (d := 52) (rel_td hN).2.1) rfl rfl rfl (by decide) rfl (Nat.le_of_ble_eq_true rfl) (Nat.le_of_ble_eq_true rfl) kk) ?_
  refine Sx.up (fun _ kk => r_iload 1561 dL_law_1559 rfl rfl kk) ?_
  refine Sx.up (fun _ kk => r_icmp_eq 1564 1566 dL_law_1561 rfl (by decide) (fun _ => kk) (fun z => absurd g1 z)) ?_
  refine Sx.up (fun _ kk => r_iload 1568 dL_law_1566 rfl rfl kk) ?_
  refine Sx.br (fun _ ka kb => r_if_ne 1571 1583 dL_law_1568 rfl (by decide) ka kb) (by first | exact em1 | exact em2) (fun hz => ?_) (fun hz => ?_)
  · refine Sx.up (fun _ kk => r_goto 1690 dL_law_1583 (by decide) kk) ?_
    exact Sx.less (ls := [some (.ref 2000), some (.ref 0), some (.ref 95), some (.ref 136), some (.int (nI j)), none, none]) (by exact ⟨rfl, rfl, rfl, rfl, rfl, trivial⟩) (kk E3 hR)
  · refine Sx.up (fun _ kk => r_aload_n 1572 dL_law_1571 rfl rfl kk) ?_
    refine Sx.up (fun _ kk => r_iconst (0) 1573 dL_law_1572 rfl (by decide) kk) ?_
    refine Sx.up (fun _ kk => r_lald (l9 := 1) 1574 dL_law_1573 rfl rfl (Nat.le_of_ble_eq_true rfl) (by unfold vp_in; decide) kk) ?_
    refine Sx.up (fun _ kk => r_iload 1576 dL_law_1574 rfl rfl kk) ?_
    refine Sx.up (fun _ kk => r_i2l 1577 dL_law_1576 rfl kk) ?_
    refine Sx.up (fun _ kk => r_lcmp 1578 dL_law_1577 rfl kk) ?_
    refine Sx.up (fun _ kk => r_if_eq 1581 1583 dL_law_1578 rfl (by decide) (fun _ => kk) (fun z => absurd (lcmp_0 (g2 hz)) z)) ?_
    refine Sx.up (fun _ kk => r_goto 1690 dL_law_1583 (by decide) kk) ?_
    exact Sx.less (ls := [some (.ref 2000), some (.ref 0), some (.ref 95), some (.ref 136), some (.int (nI j)), none, none]) (by exact ⟨rfl, rfl, rfl, rfl, rfl, trivial⟩) (kk E3 hR)
set_option maxHeartbeats 16000000 in
set_option maxRecDepth 20000 in
theorem s_year {L j bc bs : Nat} {xs : Nat → Int32} {Post : OUT → Prop} {E : HP} (hj : j + 5 < L) (hL : L ≤ 3072) (h : OpH yL_year mL_year yX12_year mX12_year [.int (xs (j + 1)), .int (xs (j + 2)), .int (xs (j + 3))] E) (kk : ∀ E3, Rel E3 → Sx (mL_law L xs) 62 bc bs Post 1690 [some (.ref 2000), some (.ref 0), some (.ref 95), some (.ref 136), some (.int (nI j)), none, none] [] E3 137) : Sx (mL_law L xs) 62 (bc + 1) (bs + 6) Post 1586 [some (.ref 2000), some (.ref 0), some (.ref 95), some (.ref 136), some (.int (nI j)), none, none] [] E 137 := by
  obtain ⟨k, E2, bc2, bs2, h1, h2, hc, w, E3, hm, g1, g2, hR⟩ := h
  obtain ⟨b9, L9, m9, R9, k9, S9, t9, hN, hK⟩ := id hR
  refine Sx.up (fun _ kk => r_aload_n 1587 dL_law_1586 rfl rfl kk) ?_
  refine Sx.up (fun _ kk => r_aload_n 1588 dL_law_1587 rfl rfl kk) ?_
  refine Sx.up (fun _ kk => r_iload 1590 dL_law_1588 rfl rfl kk) ?_
  refine Sx.up (fun _ kk => r_iconst (1) 1591 dL_law_1590 rfl (by decide) kk) ?_
  refine Sx.up (fun _ kk => r_iadd 1592 dL_law_1591 rfl kk) ?_
  refine Sx.up (fun _ kk => r_sldN (j + 1) (xs (j + 1)) 1593 dL_law_1592 rfl rfl (nI_c1 j) (show j + 1 < L by omega) hL rfl kk) ?_
  refine Sx.up (fun _ kk => r_aload_n 1594 dL_law_1593 rfl rfl kk) ?_
  refine Sx.up (fun _ kk => r_iload 1596 dL_law_1594 rfl rfl kk) ?_
  refine Sx.up (fun _ kk => r_iconst (2) 1597 dL_law_1596 rfl (by decide) kk) ?_
  refine Sx.up (fun _ kk => r_iadd 1598 dL_law_1597 rfl kk) ?_
  refine Sx.up (fun _ kk => r_sldN (j + 2) (xs (j + 2)) 1599 dL_law_1598 rfl rfl (nI_c2 j) (show j + 2 < L by omega) hL rfl kk) ?_
  refine Sx.up (fun _ kk => r_aload_n 1600 dL_law_1599 rfl rfl kk) ?_
  refine Sx.up (fun _ kk => r_iload 1602 dL_law_1600 rfl rfl kk) ?_
  refine Sx.up (fun _ kk => r_iconst (3) 1603 dL_law_1602 rfl (by decide) kk) ?_
  refine Sx.up (fun _ kk => r_iadd 1604 dL_law_1603 rfl kk) ?_
  refine Sx.up (fun _ kk => r_sldN (j + 3) (xs (j + 3)) 1605 dL_law_1604 rfl rfl (nI_c3 j) (show j + 3 < L by omega) hL rfl kk) ?_
  refine Sx.up (fun _ kk => r_aload_n 1606 dL_law_1605 rfl rfl kk) ?_
  refine Sx.wide (bc2 := bc + bc2) (bs2 := bs + bs2) (by omega) (by omega) ?_
  refine Sx.up (fun _ kk => r_callSW (M := mL_law L xs) (pc := 1606) (d := 61) (bc := bc) (bs := bs) 1609 dL_law_1606 rfl k13_183 hc rfl rfl (Nat.le_of_ble_eq_true rfl) kk) ?_
  refine Sx.up (fun _ kk => r_istore 1611 dL_law_1609 rfl (Nat.le_of_ble_eq_true rfl) rfl kk) ?_
  refine Sx.up (fun _ kk => r_aload_n 1612 dL_law_1611 rfl rfl kk) ?_
  refine Sx.up (fun _ kk => r_aload_n 1613 dL_law_1612 rfl rfl kk) ?_
  refine Sx.up (fun _ kk => r_iload 1615 dL_law_1613 rfl rfl kk) ?_
  refine Sx.up (fun _ kk => r_iconst (1) 1616 dL_law_1615 rfl (by decide) kk) ?_
  refine Sx.up (fun _ kk => r_iadd 1617 dL_law_1616 rfl kk) ?_
  refine Sx.up (fun _ kk => r_sldN (j + 1) (xs (j + 1)) 1618 dL_law_1617 rfl rfl (nI_c1 j) (show j + 1 < L by omega) hL rfl kk) ?_
  refine Sx.up (fun _ kk => r_aload_n 1619 dL_law_1618 rfl rfl kk) ?_
  refine Sx.up (fun _ kk => r_iload 1621 dL_law_1619 rfl rfl kk) ?_
  refine Sx.up (fun _ kk => r_iconst (2) 1622 dL_law_1621 rfl (by decide) kk) ?_
  refine Sx.up (fun _ kk => r_iadd 1623 dL_law_1622 rfl kk) ?_
  refine Sx.up (fun _ kk => r_sldN (j + 2) (xs (j + 2)) 1624 dL_law_1623 rfl rfl (nI_c2 j) (show j + 2 < L by omega) hL rfl kk) ?_
  refine Sx.up (fun _ kk => r_aload_n 1625 dL_law_1624 rfl rfl kk) ?_
  refine Sx.up (fun _ kk => r_iload 1627 dL_law_1625 rfl rfl kk) ?_
  refine Sx.up (fun _ kk => r_iconst (3) 1628 dL_law_1627 rfl (by decide) kk) ?_
  refine Sx.up (fun _ kk => r_iadd 1629 dL_law_1628 rfl kk) ?_
  refine Sx.up (fun _ kk => r_sldN (j + 3) (xs (j + 3)) 1630 dL_law_1629 rfl rfl (nI_c3 j) (show j + 3 < L by omega) hL rfl kk) ?_
  refine Sx.up (fun _ kk => r_callVd (M := mL_law L xs) (pc := 1630) (d := 61) (bc := bc) (bs := bs) (by decide) 1633 dL_law_1630 rfl k13_185 hm rfl rfl rfl (by decide) rfl (Nat.le_of_ble_eq_true rfl) (Nat.le_of_ble_eq_true rfl) kk) ?_
  refine Sx.up (fun _ kk => r_istore 1635 dL_law_1633 rfl (Nat.le_of_ble_eq_true rfl) rfl kk) ?_
  refine Sx.up (fun _ kk => r_aload_n 1636 dL_law_1635 rfl rfl kk) ?_
  refine Sx.up (fun _ kk => r_callVd (M := mL_law L xs) (pc := 1636) (d := 61) (bc := bc) (bs := bs) (by decide) 1639 dL_law_1636 rfl k13_88 (m_thrown (d := 52) (rel_td hN).2.1) rfl rfl rfl (by decide) rfl (Nat.le_of_ble_eq_true rfl) (Nat.le_of_ble_eq_true rfl) kk) ?_
  refine Sx.up (fun _ kk => r_iload 1641 dL_law_1639 rfl rfl kk) ?_
  refine Sx.up (fun _ kk => r_icmp_eq 1644 1646 dL_law_1641 rfl (by decide) (fun _ => kk) (fun z => absurd g1 z)) ?_
  refine Sx.up (fun _ kk => r_iload 1648 dL_law_1646 rfl rfl kk) ?_
  refine Sx.br (fun _ ka kb => r_if_ne 1651 1663 dL_law_1648 rfl (by decide) ka kb) (by first | exact em1 | exact em2) (fun hz => ?_) (fun hz => ?_)
  · refine Sx.up (fun _ kk => r_goto 1690 dL_law_1663 (by decide) kk) ?_
    exact Sx.less (ls := [some (.ref 2000), some (.ref 0), some (.ref 95), some (.ref 136), some (.int (nI j)), none, none]) (by exact ⟨rfl, rfl, rfl, rfl, rfl, trivial⟩) (kk E3 hR)
  · refine Sx.up (fun _ kk => r_aload_n 1652 dL_law_1651 rfl rfl kk) ?_
    refine Sx.up (fun _ kk => r_iconst (0) 1653 dL_law_1652 rfl (by decide) kk) ?_
    refine Sx.up (fun _ kk => r_lald (l9 := 1) 1654 dL_law_1653 rfl rfl (Nat.le_of_ble_eq_true rfl) (by unfold vp_in; decide) kk) ?_
    refine Sx.up (fun _ kk => r_iload 1656 dL_law_1654 rfl rfl kk) ?_
    refine Sx.up (fun _ kk => r_i2l 1657 dL_law_1656 rfl kk) ?_
    refine Sx.up (fun _ kk => r_lcmp 1658 dL_law_1657 rfl kk) ?_
    refine Sx.up (fun _ kk => r_if_eq 1661 1663 dL_law_1658 rfl (by decide) (fun _ => kk) (fun z => absurd (lcmp_0 (g2 hz)) z)) ?_
    refine Sx.up (fun _ kk => r_goto 1690 dL_law_1663 (by decide) kk) ?_
    exact Sx.less (ls := [some (.ref 2000), some (.ref 0), some (.ref 95), some (.ref 136), some (.int (nI j)), none, none]) (by exact ⟨rfl, rfl, rfl, rfl, rfl, trivial⟩) (kk E3 hR)
set_option maxRecDepth 20000 in
theorem s_image {L j bc bs : Nat} {xs : Nat → Int32} {Post : OUT → Prop} {E : HP} (hj : j + 5 < L) (hL : L ≤ 3072) (h : OpN yX11_image mX11_image yX12_image mX12_image [] E) (kk : ∀ E3, Rel E3 → Sx (mL_law L xs) 62 bc bs Post 1690 [some (.ref 2000), some (.ref 0), some (.ref 95), some (.ref 136), some (.int (nI j)), none, none] [] E3 137) : Sx (mL_law L xs) 62 (bc + 1) (bs + 6) Post 1666 [some (.ref 2000), some (.ref 0), some (.ref 95), some (.ref 136), some (.int (nI j)), none, none] [] E 137 := by
  obtain ⟨E2, bc2, bs2, h1, h2, hc, E3, hm, hR⟩ := h
  refine Sx.up (fun _ kk => r_aload_n 1667 dL_law_1666 rfl rfl kk) ?_
  refine Sx.wide (bc2 := bc + bc2) (bs2 := bs + bs2) (by omega) (by omega) ?_
  refine Sx.up (fun _ kk => r_callVd (M := mL_law L xs) (pc := 1667) (d := 61) (bc := bc) (bs := bs) (by decide) 1670 dL_law_1667 rfl k13_186 hc rfl rfl rfl (by decide) rfl (Nat.le_of_ble_eq_true rfl) (Nat.le_of_ble_eq_true rfl) kk) ?_
  refine Sx.up (fun _ kk => r_aload_n 1671 dL_law_1670 rfl rfl kk) ?_
  refine Sx.up (fun _ kk => r_callVd (M := mL_law L xs) (pc := 1671) (d := 61) (bc := bc) (bs := bs) (by decide) 1674 dL_law_1671 rfl k13_189 hm rfl rfl rfl (by decide) rfl (Nat.le_of_ble_eq_true rfl) (Nat.le_of_ble_eq_true rfl) kk) ?_
  refine Sx.up (fun _ kk => r_goto 1690 dL_law_1674 (by decide) kk) ?_
  exact kk E3 hR
set_option maxRecDepth 20000 in
theorem s_restore {L j bc bs : Nat} {xs : Nat → Int32} {Post : OUT → Prop} {E : HP} (hj : j + 5 < L) (hL : L ≤ 3072) (h : OpP yX11_restore mX11_restore yX12_restore mX12_restore [] E) (kk : ∀ E3, Rel E3 → Sx (mL_law L xs) 62 bc bs Post 1690 [some (.ref 2000), some (.ref 0), some (.ref 95), some (.ref 136), some (.int (nI j)), none, none] [] E3 137) : Sx (mL_law L xs) 62 (bc + 1) (bs + 6) Post 1677 [some (.ref 2000), some (.ref 0), some (.ref 95), some (.ref 136), some (.int (nI j)), none, none] [] E 137 := by
  obtain ⟨v, E2, bc2, bs2, h1, h2, hc, E3, hm, hR⟩ := h
  refine Sx.up (fun _ kk => r_aload_n 1678 dL_law_1677 rfl rfl kk) ?_
  refine Sx.wide (bc2 := bc + bc2) (bs2 := bs + bs2) (by omega) (by omega) ?_
  refine Sx.up (fun _ kk => r_callVd (M := mL_law L xs) (pc := 1678) (d := 61) (bc := bc) (bs := bs) (by decide) 1681 dL_law_1678 rfl k13_190 hc rfl rfl rfl (by decide) rfl (Nat.le_of_ble_eq_true rfl) (Nat.le_of_ble_eq_true rfl) kk) ?_
  refine Sx.up (fun _ kk => r_aload_n 1682 dL_law_1681 rfl rfl kk) ?_
  refine Sx.up (fun _ kk => r_callVd (M := mL_law L xs) (pc := 1682) (d := 61) (bc := bc) (bs := bs) (by decide) 1685 dL_law_1682 rfl k13_194 hm rfl rfl rfl (by decide) rfl (Nat.le_of_ble_eq_true rfl) (Nat.le_of_ble_eq_true rfl) kk) ?_
  refine Sx.up (fun _ kk => r_icmp_eq 1688 1690 dL_law_1685 rfl (by decide) (fun _ => kk) (fun z => absurd rfl z)) ?_
  exact kk E3 hR
