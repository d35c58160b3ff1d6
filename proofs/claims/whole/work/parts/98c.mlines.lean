/-! mlines, further on -/
set_option maxHeartbeats 16000000 in
set_option maxRecDepth 20000 in
theorem md_line {d : Nat} {E0 E : HP} {T : TX} {a : Nat} {B : BD} {dn9 : Int32} (y1 : CMd E0 E T (.inr (a, B))) (h0 : slk 0 (.inr (a, B))) (hdn : dn9 = bX B 5) : ∃ o, (∃ E2 v, o = (.inl (some (.int v)), E2, 137) ∧ CMd E0 E2 T (liS T (.inr (a, B))) ∧ (∀ a2 B2, liS T (.inr (a, B)) = .inr (a2, B2) → v = bX B2 5)) ∧ Cl yX12_readLine mX12_readLine (d + 46) 0 0 [.ref 95, .int dn9] E 137 o := by
  subst hdn
  have hx5 : x5S (bX B 5) (.inr (a, B)) := fun a2 B2 z => by
    have z := Sum.inr.inj z
    cases z
    rfl
  have hb1 := md_0b y1 ⟨_, rfl⟩
  have hwh := md_whichK (d := d + 40) y1
  have k253 : ∀ kk E x3 t, CMd E0 E T t → lineS T (.inr (a, B)) = t → x5S (bX B 5 ||| kk) t → Sx mX12_readLine (d + 46) 0 0 (fun o => ∃ E2 v, o = (.inl (some (.int v)), E2, 137) ∧ CMd E0 E2 T (liS T (.inr (a, B))) ∧ (∀ a2 B2, liS T (.inr (a, B)) = .inr (a2, B2) → v = bX B2 5)) 253 [some (.ref 95), some (.int (bX B 5)), some (.int kk), x3] [] E 137 := by
    intro kk E x3 t y1 ht hx
    refine Sx.up (fun _ kk => r_aload_n 254 dX12_readLine_253 rfl rfl kk) ?_
    refine Sx.up (fun _ kk => r_bipush (59) 256 dX12_readLine_254 rfl (by decide) kk) ?_
    obtain ⟨_, ⟨E2, rfl, y2⟩, hcl2⟩ := md_mark (d := d + 43) (c := 59) y1
    refine Sx.up (fun _ kk => r_callV (M := mX12_readLine) (pc := 256) 259 dX12_readLine_256 rfl k12_249 hcl2 rfl rfl rfl (by decide) rfl lt95 (Nat.le_of_ble_eq_true rfl) kk) ?_
    refine Sx.up (fun _ kk => r_iload_n 260 dX12_readLine_259 rfl rfl kk) ?_
    refine Sx.up (fun _ kk => r_iload_n 261 dX12_readLine_260 rfl rfl kk) ?_
    refine Sx.up (fun _ kk => r_ior 262 dX12_readLine_261 rfl kk) ?_
    refine ⟨_, ?_, r_iret dX12_readLine_262 rfl rfl rfl⟩
    refine ⟨_, _, rfl, by unfold liS; rw [ht]; exact y2, fun a2 B2 z => ?_⟩
    unfold liS at z
    rw [ht] at z
    exact (x5_sgn hx a2 B2 z).symm
  refine Cx.of (by decide) rfl (fun q => by cases q) rfl rfl (Nat.le_of_ble_eq_true rfl) ?_
  show Sx _ _ _ _ _ 0 [some (.ref 95), some (.int (bX B 5)), none, none] [] _ _
  by_cases n_sleeper : wdS T w_sleeper (.inr (a, B)) = true
  · have n_child : ¬ wdS T w_child (.inr (a, B)) = true := wd_no n_sleeper (by decide)
    have n_snorer : ¬ wdS T w_snorer (.inr (a, B)) = true := wd_no n_sleeper (by decide)
    have n_dog : ¬ wdS T w_dog (.inr (a, B)) = true := wd_no n_sleeper (by decide)
    have n_bolster : ¬ wdS T w_bolster (.inr (a, B)) = true := wd_no n_sleeper (by decide)
    have n_never : ¬ wdS T w_never (.inr (a, B)) = true := wd_no n_sleeper (by decide)
    have n_wakes : ¬ wdS T w_wakes (.inr (a, B)) = true := wd_no n_sleeper (by decide)
    have n_bed : ¬ wdS T w_bed (.inr (a, B)) = true := wd_no n_sleeper (by decide)
    have n_night : ¬ wdS T w_night (.inr (a, B)) = true := wd_no n_sleeper (by decide)
    have n_awake : ¬ wdS T w_awake (.inr (a, B)) = true := wd_no n_sleeper (by decide)
    have hwk : whF T (.inr (a, B)) w_kinds 0 = nI 0 := by unfold w_kinds; unfold whF; rw [if_pos n_sleeper]
    rw [hwk] at hwh
    have hln : lineS T (.inr (a, B)) = peS T 0 (.inr (a, B)) := by unfold lineS; rw [if_pos n_sleeper]
    have hsl := md_sleep (d := d + 42) (kd := 0) y1 (by first | exact Or.inl rfl | exact Or.inr (by decide))
    rw [if_neg (by decide)] at hsl
    obtain ⟨_, ⟨E2, rfl, y2⟩, hcl2⟩ := hsl
    refine Sx.up (fun _ kk => r_aload_n 1 dX12_readLine_0 rfl rfl kk) ?_
    refine Sx.up (fun _ kk => r_ldcwS (i := 31) 4 dX12_readLine_1 rfl rfl kk) ?_
    refine Sx.up (fun _ kk => r_callV (M := mX12_readLine) (pc := 4) 7 dX12_readLine_4 rfl k12_222 (md_is (d := d + 41) (i := 31) (q := ("SpoonRowModel", 279, "bed", w_bed)) y1 rfl) rfl rfl rfl (by decide) rfl lt95 (Nat.le_of_ble_eq_true rfl) kk) ?_
    refine Sx.up (fun _ kk => r_if_eq 10 14 dX12_readLine_7 rfl (by decide) (fun _ => kk) (fun h7 => absurd (bI_f n_bed) h7)) ?_
    refine Sx.up (fun _ kk => r_aload_n 15 dX12_readLine_14 rfl rfl kk) ?_
    refine Sx.up (fun _ kk => r_ldcwS (i := 32) 18 dX12_readLine_15 rfl rfl kk) ?_
    refine Sx.up (fun _ kk => r_callV (M := mX12_readLine) (pc := 18) 21 dX12_readLine_18 rfl k12_222 (md_is (d := d + 41) (i := 32) (q := ("SpoonRowModel", 281, "night", w_night)) y1 rfl) rfl rfl rfl (by decide) rfl lt95 (Nat.le_of_ble_eq_true rfl) kk) ?_
    refine Sx.up (fun _ kk => r_if_eq 24 28 dX12_readLine_21 rfl (by decide) (fun _ => kk) (fun h21 => absurd (bI_f n_night) h21)) ?_
    refine Sx.up (fun _ kk => r_aload_n 29 dX12_readLine_28 rfl rfl kk) ?_
    refine Sx.up (fun _ kk => r_ldcwS (i := 33) 32 dX12_readLine_29 rfl rfl kk) ?_
    refine Sx.up (fun _ kk => r_callV (M := mX12_readLine) (pc := 32) 35 dX12_readLine_32 rfl k12_222 (md_is (d := d + 41) (i := 33) (q := ("SpoonRowModel", 283, "awake", w_awake)) y1 rfl) rfl rfl rfl (by decide) rfl lt95 (Nat.le_of_ble_eq_true rfl) kk) ?_
    refine Sx.up (fun _ kk => r_if_eq 38 42 dX12_readLine_35 rfl (by decide) (fun _ => kk) (fun h35 => absurd (bI_f n_awake) h35)) ?_
    refine Sx.up (fun _ kk => r_aload_n 43 dX12_readLine_42 rfl rfl kk) ?_
    refine Sx.up (fun _ kk => r_ldcwS (i := 34) 46 dX12_readLine_43 rfl rfl kk) ?_
    refine Sx.up (fun _ kk => r_callV (M := mX12_readLine) (pc := 46) 49 dX12_readLine_46 rfl k12_222 (md_is (d := d + 41) (i := 34) (q := ("SpoonRowModel", 285, "wakes", w_wakes)) y1 rfl) rfl rfl rfl (by decide) rfl lt95 (Nat.le_of_ble_eq_true rfl) kk) ?_
    refine Sx.up (fun _ kk => r_if_eq 52 57 dX12_readLine_49 rfl (by decide) (fun _ => kk) (fun h49 => absurd (bI_f n_wakes) h49)) ?_
    refine Sx.up (fun _ kk => r_iconst (0) 58 dX12_readLine_57 rfl (by decide) kk) ?_
    refine Sx.up (fun _ kk => r_istore_n 59 dX12_readLine_58 rfl (by decide) rfl kk) ?_
    refine Sx.up (fun _ kk => r_aload_n 60 dX12_readLine_59 rfl rfl kk) ?_
    refine Sx.up (fun _ kk => r_ldcwS (i := 35) 63 dX12_readLine_60 rfl rfl kk) ?_
    refine Sx.up (fun _ kk => r_callV (M := mX12_readLine) (pc := 63) 66 dX12_readLine_63 rfl k12_222 (md_is (d := d + 41) (i := 35) (q := ("SpoonRowModel", 287, "dog", w_dog)) y1 rfl) rfl rfl rfl (by decide) rfl lt95 (Nat.le_of_ble_eq_true rfl) kk) ?_
    refine Sx.up (fun _ kk => r_if_eq 69 73 dX12_readLine_66 rfl (by decide) (fun _ => kk) (fun h66 => absurd (bI_f n_dog) h66)) ?_
    refine Sx.up (fun _ kk => r_aload_n 74 dX12_readLine_73 rfl rfl kk) ?_
    refine Sx.up (fun _ kk => r_aload_n 75 dX12_readLine_74 rfl rfl kk) ?_
    refine Sx.up (fun _ kk => r_getR 78 dX12_readLine_75 rfl f12_17 rfl rfl lt95 (mo_0 (md_M y1)) kk) ?_
    refine Sx.up (fun _ kk => r_callV (M := mX12_readLine) (pc := 78) 81 dX12_readLine_78 rfl k12_245 hwh rfl rfl rfl (by decide) rfl lt95 (Nat.le_of_ble_eq_true rfl) kk) ?_
    refine Sx.up (fun _ kk => r_istore_n 82 dX12_readLine_81 rfl (by decide) rfl kk) ?_
    refine Sx.up (fun _ kk => r_iload_n 83 dX12_readLine_82 rfl rfl kk) ?_
    refine Sx.up (fun _ kk => r_iload_n 84 dX12_readLine_83 rfl rfl kk) ?_
    refine Sx.up (fun _ kk => r_iand 85 dX12_readLine_84 rfl kk) ?_
    refine Sx.up (fun _ kk => r_if_eq 88 93 dX12_readLine_85 rfl (by decide) (fun _ => kk) (fun h85 => absurd (Int32.zero_and) h85)) ?_
    refine Sx.up (fun _ kk => r_iload_n 94 dX12_readLine_93 rfl rfl kk) ?_
    refine Sx.up (fun _ kk => r_if_le 97 197 dX12_readLine_94 rfl (by decide) (fun _ => kk) (fun h94 => absurd (by decide) h94)) ?_
    refine Sx.up (fun _ kk => r_iload_n 198 dX12_readLine_197 rfl rfl kk) ?_
    refine Sx.up (fun _ kk => r_iconst (-1) 199 dX12_readLine_198 rfl (by decide) kk) ?_
    refine Sx.up (fun _ kk => r_icmp_eq 202 210 dX12_readLine_199 rfl (by decide) (fun h199 => absurd h199 (by decide)) (fun _ => kk)) ?_
    refine Sx.up (fun _ kk => r_aload_n 203 dX12_readLine_202 rfl rfl kk) ?_
    refine Sx.up (fun _ kk => r_iload_n 204 dX12_readLine_203 rfl rfl kk) ?_
    refine Sx.up (fun _ kk => r_callV (M := mX12_readLine) (pc := 204) 207 dX12_readLine_204 rfl k12_289 hcl2 rfl rfl rfl (by decide) rfl lt95 (Nat.le_of_ble_eq_true rfl) kk) ?_
    refine Sx.up (fun _ kk => r_goto 253 dX12_readLine_207 (by decide) kk) ?_
    exact k253 0 E2 _ _ y2 hln (by rw [show bX B 5 ||| 0 = bX B 5 from Int32.or_zero]; exact x5_pe hx5)
  by_cases n_child : wdS T w_child (.inr (a, B)) = true
  · have n_sleeper : ¬ wdS T w_sleeper (.inr (a, B)) = true := wd_no n_child (by decide)
    have n_snorer : ¬ wdS T w_snorer (.inr (a, B)) = true := wd_no n_child (by decide)
    have n_dog : ¬ wdS T w_dog (.inr (a, B)) = true := wd_no n_child (by decide)
    have n_bolster : ¬ wdS T w_bolster (.inr (a, B)) = true := wd_no n_child (by decide)
    have n_never : ¬ wdS T w_never (.inr (a, B)) = true := wd_no n_child (by decide)
    have n_wakes : ¬ wdS T w_wakes (.inr (a, B)) = true := wd_no n_child (by decide)
    have n_bed : ¬ wdS T w_bed (.inr (a, B)) = true := wd_no n_child (by decide)
    have n_night : ¬ wdS T w_night (.inr (a, B)) = true := wd_no n_child (by decide)
    have n_awake : ¬ wdS T w_awake (.inr (a, B)) = true := wd_no n_child (by decide)
    have hwk : whF T (.inr (a, B)) w_kinds 0 = nI 1 := by unfold w_kinds; unfold whF; rw [if_neg n_sleeper]; unfold whF; rw [if_pos n_child]
    rw [hwk] at hwh
    have hln : lineS T (.inr (a, B)) = peS T 1 (.inr (a, B)) := by unfold lineS; rw [if_neg n_sleeper, if_pos n_child]
    have hsl := md_sleep (d := d + 42) (kd := 1) y1 (by first | exact Or.inl rfl | exact Or.inr (by decide))
    rw [if_neg (by decide)] at hsl
    obtain ⟨_, ⟨E2, rfl, y2⟩, hcl2⟩ := hsl
    refine Sx.up (fun _ kk => r_aload_n 1 dX12_readLine_0 rfl rfl kk) ?_
    refine Sx.up (fun _ kk => r_ldcwS (i := 31) 4 dX12_readLine_1 rfl rfl kk) ?_
    refine Sx.up (fun _ kk => r_callV (M := mX12_readLine) (pc := 4) 7 dX12_readLine_4 rfl k12_222 (md_is (d := d + 41) (i := 31) (q := ("SpoonRowModel", 279, "bed", w_bed)) y1 rfl) rfl rfl rfl (by decide) rfl lt95 (Nat.le_of_ble_eq_true rfl) kk) ?_
    refine Sx.up (fun _ kk => r_if_eq 10 14 dX12_readLine_7 rfl (by decide) (fun _ => kk) (fun h7 => absurd (bI_f n_bed) h7)) ?_
    refine Sx.up (fun _ kk => r_aload_n 15 dX12_readLine_14 rfl rfl kk) ?_
    refine Sx.up (fun _ kk => r_ldcwS (i := 32) 18 dX12_readLine_15 rfl rfl kk) ?_
    refine Sx.up (fun _ kk => r_callV (M := mX12_readLine) (pc := 18) 21 dX12_readLine_18 rfl k12_222 (md_is (d := d + 41) (i := 32) (q := ("SpoonRowModel", 281, "night", w_night)) y1 rfl) rfl rfl rfl (by decide) rfl lt95 (Nat.le_of_ble_eq_true rfl) kk) ?_
    refine Sx.up (fun _ kk => r_if_eq 24 28 dX12_readLine_21 rfl (by decide) (fun _ => kk) (fun h21 => absurd (bI_f n_night) h21)) ?_
    refine Sx.up (fun _ kk => r_aload_n 29 dX12_readLine_28 rfl rfl kk) ?_
    refine Sx.up (fun _ kk => r_ldcwS (i := 33) 32 dX12_readLine_29 rfl rfl kk) ?_
    refine Sx.up (fun _ kk => r_callV (M := mX12_readLine) (pc := 32) 35 dX12_readLine_32 rfl k12_222 (md_is (d := d + 41) (i := 33) (q := ("SpoonRowModel", 283, "awake", w_awake)) y1 rfl) rfl rfl rfl (by decide) rfl lt95 (Nat.le_of_ble_eq_true rfl) kk) ?_
    refine Sx.up (fun _ kk => r_if_eq 38 42 dX12_readLine_35 rfl (by decide) (fun _ => kk) (fun h35 => absurd (bI_f n_awake) h35)) ?_
    refine Sx.up (fun _ kk => r_aload_n 43 dX12_readLine_42 rfl rfl kk) ?_
    refine Sx.up (fun _ kk => r_ldcwS (i := 34) 46 dX12_readLine_43 rfl rfl kk) ?_
    refine Sx.up (fun _ kk => r_callV (M := mX12_readLine) (pc := 46) 49 dX12_readLine_46 rfl k12_222 (md_is (d := d + 41) (i := 34) (q := ("SpoonRowModel", 285, "wakes", w_wakes)) y1 rfl) rfl rfl rfl (by decide) rfl lt95 (Nat.le_of_ble_eq_true rfl) kk) ?_
    refine Sx.up (fun _ kk => r_if_eq 52 57 dX12_readLine_49 rfl (by decide) (fun _ => kk) (fun h49 => absurd (bI_f n_wakes) h49)) ?_
    refine Sx.up (fun _ kk => r_iconst (0) 58 dX12_readLine_57 rfl (by decide) kk) ?_
    refine Sx.up (fun _ kk => r_istore_n 59 dX12_readLine_58 rfl (by decide) rfl kk) ?_
    refine Sx.up (fun _ kk => r_aload_n 60 dX12_readLine_59 rfl rfl kk) ?_
    refine Sx.up (fun _ kk => r_ldcwS (i := 35) 63 dX12_readLine_60 rfl rfl kk) ?_
    refine Sx.up (fun _ kk => r_callV (M := mX12_readLine) (pc := 63) 66 dX12_readLine_63 rfl k12_222 (md_is (d := d + 41) (i := 35) (q := ("SpoonRowModel", 287, "dog", w_dog)) y1 rfl) rfl rfl rfl (by decide) rfl lt95 (Nat.le_of_ble_eq_true rfl) kk) ?_
    refine Sx.up (fun _ kk => r_if_eq 69 73 dX12_readLine_66 rfl (by decide) (fun _ => kk) (fun h66 => absurd (bI_f n_dog) h66)) ?_
    refine Sx.up (fun _ kk => r_aload_n 74 dX12_readLine_73 rfl rfl kk) ?_
    refine Sx.up (fun _ kk => r_aload_n 75 dX12_readLine_74 rfl rfl kk) ?_
    refine Sx.up (fun _ kk => r_getR 78 dX12_readLine_75 rfl f12_17 rfl rfl lt95 (mo_0 (md_M y1)) kk) ?_
    refine Sx.up (fun _ kk => r_callV (M := mX12_readLine) (pc := 78) 81 dX12_readLine_78 rfl k12_245 hwh rfl rfl rfl (by decide) rfl lt95 (Nat.le_of_ble_eq_true rfl) kk) ?_
    refine Sx.up (fun _ kk => r_istore_n 82 dX12_readLine_81 rfl (by decide) rfl kk) ?_
    refine Sx.up (fun _ kk => r_iload_n 83 dX12_readLine_82 rfl rfl kk) ?_
    refine Sx.up (fun _ kk => r_iload_n 84 dX12_readLine_83 rfl rfl kk) ?_
    refine Sx.up (fun _ kk => r_iand 85 dX12_readLine_84 rfl kk) ?_
    refine Sx.up (fun _ kk => r_if_eq 88 93 dX12_readLine_85 rfl (by decide) (fun _ => kk) (fun h85 => absurd (Int32.zero_and) h85)) ?_
    refine Sx.up (fun _ kk => r_iload_n 94 dX12_readLine_93 rfl rfl kk) ?_
    refine Sx.up (fun _ kk => r_if_le 97 197 dX12_readLine_94 rfl (by decide) (fun _ => kk) (fun h94 => absurd (by decide) h94)) ?_
    refine Sx.up (fun _ kk => r_iload_n 198 dX12_readLine_197 rfl rfl kk) ?_
    refine Sx.up (fun _ kk => r_iconst (-1) 199 dX12_readLine_198 rfl (by decide) kk) ?_
    refine Sx.up (fun _ kk => r_icmp_eq 202 210 dX12_readLine_199 rfl (by decide) (fun h199 => absurd h199 (by decide)) (fun _ => kk)) ?_
    refine Sx.up (fun _ kk => r_aload_n 203 dX12_readLine_202 rfl rfl kk) ?_
    refine Sx.up (fun _ kk => r_iload_n 204 dX12_readLine_203 rfl rfl kk) ?_
    refine Sx.up (fun _ kk => r_callV (M := mX12_readLine) (pc := 204) 207 dX12_readLine_204 rfl k12_289 hcl2 rfl rfl rfl (by decide) rfl lt95 (Nat.le_of_ble_eq_true rfl) kk) ?_
    refine Sx.up (fun _ kk => r_goto 253 dX12_readLine_207 (by decide) kk) ?_
    exact k253 0 E2 _ _ y2 hln (by rw [show bX B 5 ||| 0 = bX B 5 from Int32.or_zero]; exact x5_pe hx5)
  by_cases n_snorer : wdS T w_snorer (.inr (a, B)) = true
  · have n_sleeper : ¬ wdS T w_sleeper (.inr (a, B)) = true := wd_no n_snorer (by decide)
    have n_child : ¬ wdS T w_child (.inr (a, B)) = true := wd_no n_snorer (by decide)
    have n_dog : ¬ wdS T w_dog (.inr (a, B)) = true := wd_no n_snorer (by decide)
    have n_bolster : ¬ wdS T w_bolster (.inr (a, B)) = true := wd_no n_snorer (by decide)
    have n_never : ¬ wdS T w_never (.inr (a, B)) = true := wd_no n_snorer (by decide)
    have n_wakes : ¬ wdS T w_wakes (.inr (a, B)) = true := wd_no n_snorer (by decide)
    have n_bed : ¬ wdS T w_bed (.inr (a, B)) = true := wd_no n_snorer (by decide)
    have n_night : ¬ wdS T w_night (.inr (a, B)) = true := wd_no n_snorer (by decide)
    have n_awake : ¬ wdS T w_awake (.inr (a, B)) = true := wd_no n_snorer (by decide)
    have hwk : whF T (.inr (a, B)) w_kinds 0 = nI 2 := by unfold w_kinds; unfold whF; rw [if_neg n_sleeper]; unfold whF; rw [if_neg n_child]; unfold whF; rw [if_pos n_snorer]
    rw [hwk] at hwh
    have hln : lineS T (.inr (a, B)) = peS T 2 (.inr (a, B)) := by unfold lineS; rw [if_neg n_sleeper, if_neg n_child, if_pos n_snorer]
    have hsl := md_sleep (d := d + 42) (kd := 2) y1 (by first | exact Or.inl rfl | exact Or.inr (by decide))
    rw [if_neg (by decide)] at hsl
    obtain ⟨_, ⟨E2, rfl, y2⟩, hcl2⟩ := hsl
    refine Sx.up (fun _ kk => r_aload_n 1 dX12_readLine_0 rfl rfl kk) ?_
    refine Sx.up (fun _ kk => r_ldcwS (i := 31) 4 dX12_readLine_1 rfl rfl kk) ?_
    refine Sx.up (fun _ kk => r_callV (M := mX12_readLine) (pc := 4) 7 dX12_readLine_4 rfl k12_222 (md_is (d := d + 41) (i := 31) (q := ("SpoonRowModel", 279, "bed", w_bed)) y1 rfl) rfl rfl rfl (by decide) rfl lt95 (Nat.le_of_ble_eq_true rfl) kk) ?_
    refine Sx.up (fun _ kk => r_if_eq 10 14 dX12_readLine_7 rfl (by decide) (fun _ => kk) (fun h7 => absurd (bI_f n_bed) h7)) ?_
    refine Sx.up (fun _ kk => r_aload_n 15 dX12_readLine_14 rfl rfl kk) ?_
    refine Sx.up (fun _ kk => r_ldcwS (i := 32) 18 dX12_readLine_15 rfl rfl kk) ?_
    refine Sx.up (fun _ kk => r_callV (M := mX12_readLine) (pc := 18) 21 dX12_readLine_18 rfl k12_222 (md_is (d := d + 41) (i := 32) (q := ("SpoonRowModel", 281, "night", w_night)) y1 rfl) rfl rfl rfl (by decide) rfl lt95 (Nat.le_of_ble_eq_true rfl) kk) ?_
    refine Sx.up (fun _ kk => r_if_eq 24 28 dX12_readLine_21 rfl (by decide) (fun _ => kk) (fun h21 => absurd (bI_f n_night) h21)) ?_
    refine Sx.up (fun _ kk => r_aload_n 29 dX12_readLine_28 rfl rfl kk) ?_
    refine Sx.up (fun _ kk => r_ldcwS (i := 33) 32 dX12_readLine_29 rfl rfl kk) ?_
    refine Sx.up (fun _ kk => r_callV (M := mX12_readLine) (pc := 32) 35 dX12_readLine_32 rfl k12_222 (md_is (d := d + 41) (i := 33) (q := ("SpoonRowModel", 283, "awake", w_awake)) y1 rfl) rfl rfl rfl (by decide) rfl lt95 (Nat.le_of_ble_eq_true rfl) kk) ?_
    refine Sx.up (fun _ kk => r_if_eq 38 42 dX12_readLine_35 rfl (by decide) (fun _ => kk) (fun h35 => absurd (bI_f n_awake) h35)) ?_
    refine Sx.up (fun _ kk => r_aload_n 43 dX12_readLine_42 rfl rfl kk) ?_
    refine Sx.up (fun _ kk => r_ldcwS (i := 34) 46 dX12_readLine_43 rfl rfl kk) ?_
    refine Sx.up (fun _ kk => r_callV (M := mX12_readLine) (pc := 46) 49 dX12_readLine_46 rfl k12_222 (md_is (d := d + 41) (i := 34) (q := ("SpoonRowModel", 285, "wakes", w_wakes)) y1 rfl) rfl rfl rfl (by decide) rfl lt95 (Nat.le_of_ble_eq_true rfl) kk) ?_
    refine Sx.up (fun _ kk => r_if_eq 52 57 dX12_readLine_49 rfl (by decide) (fun _ => kk) (fun h49 => absurd (bI_f n_wakes) h49)) ?_
    refine Sx.up (fun _ kk => r_iconst (0) 58 dX12_readLine_57 rfl (by decide) kk) ?_
    refine Sx.up (fun _ kk => r_istore_n 59 dX12_readLine_58 rfl (by decide) rfl kk) ?_
    refine Sx.up (fun _ kk => r_aload_n 60 dX12_readLine_59 rfl rfl kk) ?_
    refine Sx.up (fun _ kk => r_ldcwS (i := 35) 63 dX12_readLine_60 rfl rfl kk) ?_
    refine Sx.up (fun _ kk => r_callV (M := mX12_readLine) (pc := 63) 66 dX12_readLine_63 rfl k12_222 (md_is (d := d + 41) (i := 35) (q := ("SpoonRowModel", 287, "dog", w_dog)) y1 rfl) rfl rfl rfl (by decide) rfl lt95 (Nat.le_of_ble_eq_true rfl) kk) ?_
    refine Sx.up (fun _ kk => r_if_eq 69 73 dX12_readLine_66 rfl (by decide) (fun _ => kk) (fun h66 => absurd (bI_f n_dog) h66)) ?_
    refine Sx.up (fun _ kk => r_aload_n 74 dX12_readLine_73 rfl rfl kk) ?_
    refine Sx.up (fun _ kk => r_aload_n 75 dX12_readLine_74 rfl rfl kk) ?_
    refine Sx.up (fun _ kk => r_getR 78 dX12_readLine_75 rfl f12_17 rfl rfl lt95 (mo_0 (md_M y1)) kk) ?_
    refine Sx.up (fun _ kk => r_callV (M := mX12_readLine) (pc := 78) 81 dX12_readLine_78 rfl k12_245 hwh rfl rfl rfl (by decide) rfl lt95 (Nat.le_of_ble_eq_true rfl) kk) ?_
    refine Sx.up (fun _ kk => r_istore_n 82 dX12_readLine_81 rfl (by decide) rfl kk) ?_
    refine Sx.up (fun _ kk => r_iload_n 83 dX12_readLine_82 rfl rfl kk) ?_
    refine Sx.up (fun _ kk => r_iload_n 84 dX12_readLine_83 rfl rfl kk) ?_
    refine Sx.up (fun _ kk => r_iand 85 dX12_readLine_84 rfl kk) ?_
    refine Sx.up (fun _ kk => r_if_eq 88 93 dX12_readLine_85 rfl (by decide) (fun _ => kk) (fun h85 => absurd (Int32.zero_and) h85)) ?_
    refine Sx.up (fun _ kk => r_iload_n 94 dX12_readLine_93 rfl rfl kk) ?_
    refine Sx.up (fun _ kk => r_if_le 97 197 dX12_readLine_94 rfl (by decide) (fun _ => kk) (fun h94 => absurd (by decide) h94)) ?_
    refine Sx.up (fun _ kk => r_iload_n 198 dX12_readLine_197 rfl rfl kk) ?_
    refine Sx.up (fun _ kk => r_iconst (-1) 199 dX12_readLine_198 rfl (by decide) kk) ?_
    refine Sx.up (fun _ kk => r_icmp_eq 202 210 dX12_readLine_199 rfl (by decide) (fun h199 => absurd h199 (by decide)) (fun _ => kk)) ?_
    refine Sx.up (fun _ kk => r_aload_n 203 dX12_readLine_202 rfl rfl kk) ?_
    refine Sx.up (fun _ kk => r_iload_n 204 dX12_readLine_203 rfl rfl kk) ?_
    refine Sx.up (fun _ kk => r_callV (M := mX12_readLine) (pc := 204) 207 dX12_readLine_204 rfl k12_289 hcl2 rfl rfl rfl (by decide) rfl lt95 (Nat.le_of_ble_eq_true rfl) kk) ?_
    refine Sx.up (fun _ kk => r_goto 253 dX12_readLine_207 (by decide) kk) ?_
    exact k253 0 E2 _ _ y2 hln (by rw [show bX B 5 ||| 0 = bX B 5 from Int32.or_zero]; exact x5_pe hx5)
  by_cases n_dog : wdS T w_dog (.inr (a, B)) = true
  · have n_sleeper : ¬ wdS T w_sleeper (.inr (a, B)) = true := wd_no n_dog (by decide)
    have n_child : ¬ wdS T w_child (.inr (a, B)) = true := wd_no n_dog (by decide)
    have n_snorer : ¬ wdS T w_snorer (.inr (a, B)) = true := wd_no n_dog (by decide)
    have n_bolster : ¬ wdS T w_bolster (.inr (a, B)) = true := wd_no n_dog (by decide)
    have n_never : ¬ wdS T w_never (.inr (a, B)) = true := wd_no n_dog (by decide)
    have n_wakes : ¬ wdS T w_wakes (.inr (a, B)) = true := wd_no n_dog (by decide)
    have n_bed : ¬ wdS T w_bed (.inr (a, B)) = true := wd_no n_dog (by decide)
    have n_night : ¬ wdS T w_night (.inr (a, B)) = true := wd_no n_dog (by decide)
    have n_awake : ¬ wdS T w_awake (.inr (a, B)) = true := wd_no n_dog (by decide)
    have hwk : whF T (.inr (a, B)) w_kinds 0 = -1 := by unfold w_kinds; unfold whF; rw [if_neg n_sleeper]; unfold whF; rw [if_neg n_child]; unfold whF; rw [if_neg n_snorer]; rfl
    rw [hwk] at hwh
    have hln : lineS T (.inr (a, B)) = dgS T (.inr (a, B)) := by unfold lineS; rw [if_neg n_sleeper, if_neg n_child, if_neg n_snorer, if_pos n_dog]
    have hsl := md_sleep (d := d + 42) (kd := 3) y1 (by first | exact Or.inl rfl | exact Or.inr (by decide))
    rw [if_pos rfl] at hsl
    obtain ⟨_, ⟨E2, rfl, y2⟩, hcl2⟩ := hsl
    refine Sx.up (fun _ kk => r_aload_n 1 dX12_readLine_0 rfl rfl kk) ?_
    refine Sx.up (fun _ kk => r_ldcwS (i := 31) 4 dX12_readLine_1 rfl rfl kk) ?_
    refine Sx.up (fun _ kk => r_callV (M := mX12_readLine) (pc := 4) 7 dX12_readLine_4 rfl k12_222 (md_is (d := d + 41) (i := 31) (q := ("SpoonRowModel", 279, "bed", w_bed)) y1 rfl) rfl rfl rfl (by decide) rfl lt95 (Nat.le_of_ble_eq_true rfl) kk) ?_
    refine Sx.up (fun _ kk => r_if_eq 10 14 dX12_readLine_7 rfl (by decide) (fun _ => kk) (fun h7 => absurd (bI_f n_bed) h7)) ?_
    refine Sx.up (fun _ kk => r_aload_n 15 dX12_readLine_14 rfl rfl kk) ?_
    refine Sx.up (fun _ kk => r_ldcwS (i := 32) 18 dX12_readLine_15 rfl rfl kk) ?_
    refine Sx.up (fun _ kk => r_callV (M := mX12_readLine) (pc := 18) 21 dX12_readLine_18 rfl k12_222 (md_is (d := d + 41) (i := 32) (q := ("SpoonRowModel", 281, "night", w_night)) y1 rfl) rfl rfl rfl (by decide) rfl lt95 (Nat.le_of_ble_eq_true rfl) kk) ?_
    refine Sx.up (fun _ kk => r_if_eq 24 28 dX12_readLine_21 rfl (by decide) (fun _ => kk) (fun h21 => absurd (bI_f n_night) h21)) ?_
    refine Sx.up (fun _ kk => r_aload_n 29 dX12_readLine_28 rfl rfl kk) ?_
    refine Sx.up (fun _ kk => r_ldcwS (i := 33) 32 dX12_readLine_29 rfl rfl kk) ?_
    refine Sx.up (fun _ kk => r_callV (M := mX12_readLine) (pc := 32) 35 dX12_readLine_32 rfl k12_222 (md_is (d := d + 41) (i := 33) (q := ("SpoonRowModel", 283, "awake", w_awake)) y1 rfl) rfl rfl rfl (by decide) rfl lt95 (Nat.le_of_ble_eq_true rfl) kk) ?_
    refine Sx.up (fun _ kk => r_if_eq 38 42 dX12_readLine_35 rfl (by decide) (fun _ => kk) (fun h35 => absurd (bI_f n_awake) h35)) ?_
    refine Sx.up (fun _ kk => r_aload_n 43 dX12_readLine_42 rfl rfl kk) ?_
    refine Sx.up (fun _ kk => r_ldcwS (i := 34) 46 dX12_readLine_43 rfl rfl kk) ?_
    refine Sx.up (fun _ kk => r_callV (M := mX12_readLine) (pc := 46) 49 dX12_readLine_46 rfl k12_222 (md_is (d := d + 41) (i := 34) (q := ("SpoonRowModel", 285, "wakes", w_wakes)) y1 rfl) rfl rfl rfl (by decide) rfl lt95 (Nat.le_of_ble_eq_true rfl) kk) ?_
    refine Sx.up (fun _ kk => r_if_eq 52 57 dX12_readLine_49 rfl (by decide) (fun _ => kk) (fun h49 => absurd (bI_f n_wakes) h49)) ?_
    refine Sx.up (fun _ kk => r_iconst (0) 58 dX12_readLine_57 rfl (by decide) kk) ?_
    refine Sx.up (fun _ kk => r_istore_n 59 dX12_readLine_58 rfl (by decide) rfl kk) ?_
    refine Sx.up (fun _ kk => r_aload_n 60 dX12_readLine_59 rfl rfl kk) ?_
    refine Sx.up (fun _ kk => r_ldcwS (i := 35) 63 dX12_readLine_60 rfl rfl kk) ?_
    refine Sx.up (fun _ kk => r_callV (M := mX12_readLine) (pc := 63) 66 dX12_readLine_63 rfl k12_222 (md_is (d := d + 41) (i := 35) (q := ("SpoonRowModel", 287, "dog", w_dog)) y1 rfl) rfl rfl rfl (by decide) rfl lt95 (Nat.le_of_ble_eq_true rfl) kk) ?_
    refine Sx.up (fun _ kk => r_if_eq 69 73 dX12_readLine_66 rfl (by decide) (fun h66 => absurd h66 (by rw [bI_t n_dog]; decide)) (fun _ => kk)) ?_
    refine Sx.up (fun _ kk => r_iconst (3) 70 dX12_readLine_69 rfl (by decide) kk) ?_
    refine Sx.up (fun _ kk => r_goto 81 dX12_readLine_70 (by decide) kk) ?_
    refine Sx.up (fun _ kk => r_istore_n 82 dX12_readLine_81 rfl (by decide) rfl kk) ?_
    refine Sx.up (fun _ kk => r_iload_n 83 dX12_readLine_82 rfl rfl kk) ?_
    refine Sx.up (fun _ kk => r_iload_n 84 dX12_readLine_83 rfl rfl kk) ?_
    refine Sx.up (fun _ kk => r_iand 85 dX12_readLine_84 rfl kk) ?_
    refine Sx.up (fun _ kk => r_if_eq 88 93 dX12_readLine_85 rfl (by decide) (fun _ => kk) (fun h85 => absurd (Int32.zero_and) h85)) ?_
    refine Sx.up (fun _ kk => r_iload_n 94 dX12_readLine_93 rfl rfl kk) ?_
    refine Sx.up (fun _ kk => r_if_le 97 197 dX12_readLine_94 rfl (by decide) (fun _ => kk) (fun h94 => absurd (by decide) h94)) ?_
    refine Sx.up (fun _ kk => r_iload_n 198 dX12_readLine_197 rfl rfl kk) ?_
    refine Sx.up (fun _ kk => r_iconst (-1) 199 dX12_readLine_198 rfl (by decide) kk) ?_
    refine Sx.up (fun _ kk => r_icmp_eq 202 210 dX12_readLine_199 rfl (by decide) (fun h199 => absurd h199 (by decide)) (fun _ => kk)) ?_
    refine Sx.up (fun _ kk => r_aload_n 203 dX12_readLine_202 rfl rfl kk) ?_
    refine Sx.up (fun _ kk => r_iload_n 204 dX12_readLine_203 rfl rfl kk) ?_
    refine Sx.up (fun _ kk => r_callV (M := mX12_readLine) (pc := 204) 207 dX12_readLine_204 rfl k12_289 hcl2 rfl rfl rfl (by decide) rfl lt95 (Nat.le_of_ble_eq_true rfl) kk) ?_
    refine Sx.up (fun _ kk => r_goto 253 dX12_readLine_207 (by decide) kk) ?_
    exact k253 0 E2 _ _ y2 hln (by rw [show bX B 5 ||| 0 = bX B 5 from Int32.or_zero]; exact x5_dg hx5)
  by_cases n_bolster : wdS T w_bolster (.inr (a, B)) = true
  · have n_sleeper : ¬ wdS T w_sleeper (.inr (a, B)) = true := wd_no n_bolster (by decide)
    have n_child : ¬ wdS T w_child (.inr (a, B)) = true := wd_no n_bolster (by decide)
    have n_snorer : ¬ wdS T w_snorer (.inr (a, B)) = true := wd_no n_bolster (by decide)
    have n_dog : ¬ wdS T w_dog (.inr (a, B)) = true := wd_no n_bolster (by decide)
    have n_never : ¬ wdS T w_never (.inr (a, B)) = true := wd_no n_bolster (by decide)
    have n_wakes : ¬ wdS T w_wakes (.inr (a, B)) = true := wd_no n_bolster (by decide)
    have n_bed : ¬ wdS T w_bed (.inr (a, B)) = true := wd_no n_bolster (by decide)
    have n_night : ¬ wdS T w_night (.inr (a, B)) = true := wd_no n_bolster (by decide)
    have n_awake : ¬ wdS T w_awake (.inr (a, B)) = true := wd_no n_bolster (by decide)
    have hwk : whF T (.inr (a, B)) w_kinds 0 = -1 := by unfold w_kinds; unfold whF; rw [if_neg n_sleeper]; unfold whF; rw [if_neg n_child]; unfold whF; rw [if_neg n_snorer]; rfl
    rw [hwk] at hwh
    have hln : lineS T (.inr (a, B)) = boS T (.inr (a, B)) := by unfold lineS; rw [if_neg n_sleeper, if_neg n_child, if_neg n_snorer, if_neg n_dog, if_pos n_bolster]
    obtain ⟨_, ⟨E2, rfl, y2⟩, hcl2⟩ := md_bol (d := d + 43) y1
    refine Sx.up (fun _ kk => r_aload_n 1 dX12_readLine_0 rfl rfl kk) ?_
    refine Sx.up (fun _ kk => r_ldcwS (i := 31) 4 dX12_readLine_1 rfl rfl kk) ?_
    refine Sx.up (fun _ kk => r_callV (M := mX12_readLine) (pc := 4) 7 dX12_readLine_4 rfl k12_222 (md_is (d := d + 41) (i := 31) (q := ("SpoonRowModel", 279, "bed", w_bed)) y1 rfl) rfl rfl rfl (by decide) rfl lt95 (Nat.le_of_ble_eq_true rfl) kk) ?_
    refine Sx.up (fun _ kk => r_if_eq 10 14 dX12_readLine_7 rfl (by decide) (fun _ => kk) (fun h7 => absurd (bI_f n_bed) h7)) ?_
    refine Sx.up (fun _ kk => r_aload_n 15 dX12_readLine_14 rfl rfl kk) ?_
    refine Sx.up (fun _ kk => r_ldcwS (i := 32) 18 dX12_readLine_15 rfl rfl kk) ?_
    refine Sx.up (fun _ kk => r_callV (M := mX12_readLine) (pc := 18) 21 dX12_readLine_18 rfl k12_222 (md_is (d := d + 41) (i := 32) (q := ("SpoonRowModel", 281, "night", w_night)) y1 rfl) rfl rfl rfl (by decide) rfl lt95 (Nat.le_of_ble_eq_true rfl) kk) ?_
    refine Sx.up (fun _ kk => r_if_eq 24 28 dX12_readLine_21 rfl (by decide) (fun _ => kk) (fun h21 => absurd (bI_f n_night) h21)) ?_
    refine Sx.up (fun _ kk => r_aload_n 29 dX12_readLine_28 rfl rfl kk) ?_
    refine Sx.up (fun _ kk => r_ldcwS (i := 33) 32 dX12_readLine_29 rfl rfl kk) ?_
    refine Sx.up (fun _ kk => r_callV (M := mX12_readLine) (pc := 32) 35 dX12_readLine_32 rfl k12_222 (md_is (d := d + 41) (i := 33) (q := ("SpoonRowModel", 283, "awake", w_awake)) y1 rfl) rfl rfl rfl (by decide) rfl lt95 (Nat.le_of_ble_eq_true rfl) kk) ?_
    refine Sx.up (fun _ kk => r_if_eq 38 42 dX12_readLine_35 rfl (by decide) (fun _ => kk) (fun h35 => absurd (bI_f n_awake) h35)) ?_
    refine Sx.up (fun _ kk => r_aload_n 43 dX12_readLine_42 rfl rfl kk) ?_
    refine Sx.up (fun _ kk => r_ldcwS (i := 34) 46 dX12_readLine_43 rfl rfl kk) ?_
    refine Sx.up (fun _ kk => r_callV (M := mX12_readLine) (pc := 46) 49 dX12_readLine_46 rfl k12_222 (md_is (d := d + 41) (i := 34) (q := ("SpoonRowModel", 285, "wakes", w_wakes)) y1 rfl) rfl rfl rfl (by decide) rfl lt95 (Nat.le_of_ble_eq_true rfl) kk) ?_
    refine Sx.up (fun _ kk => r_if_eq 52 57 dX12_readLine_49 rfl (by decide) (fun _ => kk) (fun h49 => absurd (bI_f n_wakes) h49)) ?_
    refine Sx.up (fun _ kk => r_iconst (0) 58 dX12_readLine_57 rfl (by decide) kk) ?_
    refine Sx.up (fun _ kk => r_istore_n 59 dX12_readLine_58 rfl (by decide) rfl kk) ?_
    refine Sx.up (fun _ kk => r_aload_n 60 dX12_readLine_59 rfl rfl kk) ?_
    refine Sx.up (fun _ kk => r_ldcwS (i := 35) 63 dX12_readLine_60 rfl rfl kk) ?_
    refine Sx.up (fun _ kk => r_callV (M := mX12_readLine) (pc := 63) 66 dX12_readLine_63 rfl k12_222 (md_is (d := d + 41) (i := 35) (q := ("SpoonRowModel", 287, "dog", w_dog)) y1 rfl) rfl rfl rfl (by decide) rfl lt95 (Nat.le_of_ble_eq_true rfl) kk) ?_
    refine Sx.up (fun _ kk => r_if_eq 69 73 dX12_readLine_66 rfl (by decide) (fun _ => kk) (fun h66 => absurd (bI_f n_dog) h66)) ?_
    refine Sx.up (fun _ kk => r_aload_n 74 dX12_readLine_73 rfl rfl kk) ?_
    refine Sx.up (fun _ kk => r_aload_n 75 dX12_readLine_74 rfl rfl kk) ?_
    refine Sx.up (fun _ kk => r_getR 78 dX12_readLine_75 rfl f12_17 rfl rfl lt95 (mo_0 (md_M y1)) kk) ?_
    refine Sx.up (fun _ kk => r_callV (M := mX12_readLine) (pc := 78) 81 dX12_readLine_78 rfl k12_245 hwh rfl rfl rfl (by decide) rfl lt95 (Nat.le_of_ble_eq_true rfl) kk) ?_
    refine Sx.up (fun _ kk => r_istore_n 82 dX12_readLine_81 rfl (by decide) rfl kk) ?_
    refine Sx.up (fun _ kk => r_iload_n 83 dX12_readLine_82 rfl rfl kk) ?_
    refine Sx.up (fun _ kk => r_iload_n 84 dX12_readLine_83 rfl rfl kk) ?_
    refine Sx.up (fun _ kk => r_iand 85 dX12_readLine_84 rfl kk) ?_
    refine Sx.up (fun _ kk => r_if_eq 88 93 dX12_readLine_85 rfl (by decide) (fun _ => kk) (fun h85 => absurd (Int32.zero_and) h85)) ?_
    refine Sx.up (fun _ kk => r_iload_n 94 dX12_readLine_93 rfl rfl kk) ?_
    refine Sx.up (fun _ kk => r_if_le 97 197 dX12_readLine_94 rfl (by decide) (fun _ => kk) (fun h94 => absurd (by decide) h94)) ?_
    refine Sx.up (fun _ kk => r_iload_n 198 dX12_readLine_197 rfl rfl kk) ?_
    refine Sx.up (fun _ kk => r_iconst (-1) 199 dX12_readLine_198 rfl (by decide) kk) ?_
    refine Sx.up (fun _ kk => r_icmp_eq 202 210 dX12_readLine_199 rfl (by decide) (fun _ => kk) (fun h199 => absurd rfl h199)) ?_
    refine Sx.up (fun _ kk => r_aload_n 211 dX12_readLine_210 rfl rfl kk) ?_
    refine Sx.up (fun _ kk => r_ldcwS (i := 39) 214 dX12_readLine_211 rfl rfl kk) ?_
    refine Sx.up (fun _ kk => r_callV (M := mX12_readLine) (pc := 214) 217 dX12_readLine_214 rfl k12_222 (md_is (d := d + 41) (i := 39) (q := ("SpoonRowModel", 292, "bolster", w_bolster)) y1 rfl) rfl rfl rfl (by decide) rfl lt95 (Nat.le_of_ble_eq_true rfl) kk) ?_
    refine Sx.up (fun _ kk => r_if_eq 220 227 dX12_readLine_217 rfl (by decide) (fun h217 => absurd h217 (by rw [bI_t n_bolster]; decide)) (fun _ => kk)) ?_
    refine Sx.up (fun _ kk => r_aload_n 221 dX12_readLine_220 rfl rfl kk) ?_
    refine Sx.up (fun _ kk => r_callV (M := mX12_readLine) (pc := 221) 224 dX12_readLine_221 rfl k12_294 hcl2 rfl rfl rfl (by decide) rfl lt95 (Nat.le_of_ble_eq_true rfl) kk) ?_
    refine Sx.up (fun _ kk => r_goto 253 dX12_readLine_224 (by decide) kk) ?_
    exact k253 0 E2 _ _ y2 hln (by rw [show bX B 5 ||| 0 = bX B 5 from Int32.or_zero]; exact x5_bo hx5)
  by_cases n_never : wdS T w_never (.inr (a, B)) = true
  · have n_sleeper : ¬ wdS T w_sleeper (.inr (a, B)) = true := wd_no n_never (by decide)
    have n_child : ¬ wdS T w_child (.inr (a, B)) = true := wd_no n_never (by decide)
    have n_snorer : ¬ wdS T w_snorer (.inr (a, B)) = true := wd_no n_never (by decide)
    have n_dog : ¬ wdS T w_dog (.inr (a, B)) = true := wd_no n_never (by decide)
    have n_bolster : ¬ wdS T w_bolster (.inr (a, B)) = true := wd_no n_never (by decide)
    have n_wakes : ¬ wdS T w_wakes (.inr (a, B)) = true := wd_no n_never (by decide)
    have n_bed : ¬ wdS T w_bed (.inr (a, B)) = true := wd_no n_never (by decide)
    have n_night : ¬ wdS T w_night (.inr (a, B)) = true := wd_no n_never (by decide)
    have n_awake : ¬ wdS T w_awake (.inr (a, B)) = true := wd_no n_never (by decide)
    have hwk : whF T (.inr (a, B)) w_kinds 0 = -1 := by unfold w_kinds; unfold whF; rw [if_neg n_sleeper]; unfold whF; rw [if_neg n_child]; unfold whF; rw [if_neg n_snorer]; rfl
    rw [hwk] at hwh
    have hln : lineS T (.inr (a, B)) = neS T (.inr (a, B)) := by unfold lineS; rw [if_neg n_sleeper, if_neg n_child, if_neg n_snorer, if_neg n_dog, if_neg n_bolster, if_pos n_never]
    obtain ⟨_, ⟨E2, rfl, y2⟩, hcl2⟩ := md_nev (d := d + 42) y1
    refine Sx.up (fun _ kk => r_aload_n 1 dX12_readLine_0 rfl rfl kk) ?_
    refine Sx.up (fun _ kk => r_ldcwS (i := 31) 4 dX12_readLine_1 rfl rfl kk) ?_
    refine Sx.up (fun _ kk => r_callV (M := mX12_readLine) (pc := 4) 7 dX12_readLine_4 rfl k12_222 (md_is (d := d + 41) (i := 31) (q := ("SpoonRowModel", 279, "bed", w_bed)) y1 rfl) rfl rfl rfl (by decide) rfl lt95 (Nat.le_of_ble_eq_true rfl) kk) ?_
    refine Sx.up (fun _ kk => r_if_eq 10 14 dX12_readLine_7 rfl (by decide) (fun _ => kk) (fun h7 => absurd (bI_f n_bed) h7)) ?_
    refine Sx.up (fun _ kk => r_aload_n 15 dX12_readLine_14 rfl rfl kk) ?_
    refine Sx.up (fun _ kk => r_ldcwS (i := 32) 18 dX12_readLine_15 rfl rfl kk) ?_
    refine Sx.up (fun _ kk => r_callV (M := mX12_readLine) (pc := 18) 21 dX12_readLine_18 rfl k12_222 (md_is (d := d + 41) (i := 32) (q := ("SpoonRowModel", 281, "night", w_night)) y1 rfl) rfl rfl rfl (by decide) rfl lt95 (Nat.le_of_ble_eq_true rfl) kk) ?_
    refine Sx.up (fun _ kk => r_if_eq 24 28 dX12_readLine_21 rfl (by decide) (fun _ => kk) (fun h21 => absurd (bI_f n_night) h21)) ?_
    refine Sx.up (fun _ kk => r_aload_n 29 dX12_readLine_28 rfl rfl kk) ?_
    refine Sx.up (fun _ kk => r_ldcwS (i := 33) 32 dX12_readLine_29 rfl rfl kk) ?_
    refine Sx.up (fun _ kk => r_callV (M := mX12_readLine) (pc := 32) 35 dX12_readLine_32 rfl k12_222 (md_is (d := d + 41) (i := 33) (q := ("SpoonRowModel", 283, "awake", w_awake)) y1 rfl) rfl rfl rfl (by decide) rfl lt95 (Nat.le_of_ble_eq_true rfl) kk) ?_
    refine Sx.up (fun _ kk => r_if_eq 38 42 dX12_readLine_35 rfl (by decide) (fun _ => kk) (fun h35 => absurd (bI_f n_awake) h35)) ?_
    refine Sx.up (fun _ kk => r_aload_n 43 dX12_readLine_42 rfl rfl kk) ?_
    refine Sx.up (fun _ kk => r_ldcwS (i := 34) 46 dX12_readLine_43 rfl rfl kk) ?_
    refine Sx.up (fun _ kk => r_callV (M := mX12_readLine) (pc := 46) 49 dX12_readLine_46 rfl k12_222 (md_is (d := d + 41) (i := 34) (q := ("SpoonRowModel", 285, "wakes", w_wakes)) y1 rfl) rfl rfl rfl (by decide) rfl lt95 (Nat.le_of_ble_eq_true rfl) kk) ?_
    refine Sx.up (fun _ kk => r_if_eq 52 57 dX12_readLine_49 rfl (by decide) (fun _ => kk) (fun h49 => absurd (bI_f n_wakes) h49)) ?_
    refine Sx.up (fun _ kk => r_iconst (0) 58 dX12_readLine_57 rfl (by decide) kk) ?_
    refine Sx.up (fun _ kk => r_istore_n 59 dX12_readLine_58 rfl (by decide) rfl kk) ?_
    refine Sx.up (fun _ kk => r_aload_n 60 dX12_readLine_59 rfl rfl kk) ?_
    refine Sx.up (fun _ kk => r_ldcwS (i := 35) 63 dX12_readLine_60 rfl rfl kk) ?_
    refine Sx.up (fun _ kk => r_callV (M := mX12_readLine) (pc := 63) 66 dX12_readLine_63 rfl k12_222 (md_is (d := d + 41) (i := 35) (q := ("SpoonRowModel", 287, "dog", w_dog)) y1 rfl) rfl rfl rfl (by decide) rfl lt95 (Nat.le_of_ble_eq_true rfl) kk) ?_
    refine Sx.up (fun _ kk => r_if_eq 69 73 dX12_readLine_66 rfl (by decide) (fun _ => kk) (fun h66 => absurd (bI_f n_dog) h66)) ?_
    refine Sx.up (fun _ kk => r_aload_n 74 dX12_readLine_73 rfl rfl kk) ?_
    refine Sx.up (fun _ kk => r_aload_n 75 dX12_readLine_74 rfl rfl kk) ?_
    refine Sx.up (fun _ kk => r_getR 78 dX12_readLine_75 rfl f12_17 rfl rfl lt95 (mo_0 (md_M y1)) kk) ?_
    refine Sx.up (fun _ kk => r_callV (M := mX12_readLine) (pc := 78) 81 dX12_readLine_78 rfl k12_245 hwh rfl rfl rfl (by decide) rfl lt95 (Nat.le_of_ble_eq_true rfl) kk) ?_
    refine Sx.up (fun _ kk => r_istore_n 82 dX12_readLine_81 rfl (by decide) rfl kk) ?_
    refine Sx.up (fun _ kk => r_iload_n 83 dX12_readLine_82 rfl rfl kk) ?_
    refine Sx.up (fun _ kk => r_iload_n 84 dX12_readLine_83 rfl rfl kk) ?_
    refine Sx.up (fun _ kk => r_iand 85 dX12_readLine_84 rfl kk) ?_
    refine Sx.up (fun _ kk => r_if_eq 88 93 dX12_readLine_85 rfl (by decide) (fun _ => kk) (fun h85 => absurd (Int32.zero_and) h85)) ?_
    refine Sx.up (fun _ kk => r_iload_n 94 dX12_readLine_93 rfl rfl kk) ?_
    refine Sx.up (fun _ kk => r_if_le 97 197 dX12_readLine_94 rfl (by decide) (fun _ => kk) (fun h94 => absurd (by decide) h94)) ?_
    refine Sx.up (fun _ kk => r_iload_n 198 dX12_readLine_197 rfl rfl kk) ?_
    refine Sx.up (fun _ kk => r_iconst (-1) 199 dX12_readLine_198 rfl (by decide) kk) ?_
    refine Sx.up (fun _ kk => r_icmp_eq 202 210 dX12_readLine_199 rfl (by decide) (fun _ => kk) (fun h199 => absurd rfl h199)) ?_
    refine Sx.up (fun _ kk => r_aload_n 211 dX12_readLine_210 rfl rfl kk) ?_
    refine Sx.up (fun _ kk => r_ldcwS (i := 39) 214 dX12_readLine_211 rfl rfl kk) ?_
    refine Sx.up (fun _ kk => r_callV (M := mX12_readLine) (pc := 214) 217 dX12_readLine_214 rfl k12_222 (md_is (d := d + 41) (i := 39) (q := ("SpoonRowModel", 292, "bolster", w_bolster)) y1 rfl) rfl rfl rfl (by decide) rfl lt95 (Nat.le_of_ble_eq_true rfl) kk) ?_
    refine Sx.up (fun _ kk => r_if_eq 220 227 dX12_readLine_217 rfl (by decide) (fun _ => kk) (fun h217 => absurd (bI_f n_bolster) h217)) ?_
    refine Sx.up (fun _ kk => r_aload_n 228 dX12_readLine_227 rfl rfl kk) ?_
    refine Sx.up (fun _ kk => r_ldcwS (i := 40) 231 dX12_readLine_228 rfl rfl kk) ?_
    refine Sx.up (fun _ kk => r_callV (M := mX12_readLine) (pc := 231) 234 dX12_readLine_231 rfl k12_222 (md_is (d := d + 41) (i := 40) (q := ("SpoonRowModel", 297, "never", w_never)) y1 rfl) rfl rfl rfl (by decide) rfl lt95 (Nat.le_of_ble_eq_true rfl) kk) ?_
    refine Sx.up (fun _ kk => r_if_ne 237 242 dX12_readLine_234 rfl (by decide) (fun _ => kk) (fun h234 => absurd h234 (by rw [bI_t n_never]; decide))) ?_
    refine Sx.up (fun _ kk => r_aload_n 243 dX12_readLine_242 rfl rfl kk) ?_
    refine Sx.up (fun _ kk => r_getI 246 dX12_readLine_243 rfl f12_208 rfl rfl lt95 kk) ?_
    refine Sx.up (fun _ kk => r_if_ne 249 253 dX12_readLine_246 rfl (by decide) (fun h246 => absurd h246 (fun z => z hb1)) (fun _ => kk)) ?_
    refine Sx.up (fun _ kk => r_aload_n 250 dX12_readLine_249 rfl rfl kk) ?_
    refine Sx.up (fun _ kk => r_callV (M := mX12_readLine) (pc := 250) 253 dX12_readLine_250 rfl k12_299 hcl2 rfl rfl rfl (by decide) rfl lt95 (Nat.le_of_ble_eq_true rfl) kk) ?_
    exact k253 0 E2 _ _ y2 hln (by rw [show bX B 5 ||| 0 = bX B 5 from Int32.or_zero]; exact x5_ne hx5)
  by_cases n_wakes : wdS T w_wakes (.inr (a, B)) = true
  · have n_sleeper : ¬ wdS T w_sleeper (.inr (a, B)) = true := wd_no n_wakes (by decide)
    have n_child : ¬ wdS T w_child (.inr (a, B)) = true := wd_no n_wakes (by decide)
    have n_snorer : ¬ wdS T w_snorer (.inr (a, B)) = true := wd_no n_wakes (by decide)
    have n_dog : ¬ wdS T w_dog (.inr (a, B)) = true := wd_no n_wakes (by decide)
    have n_bolster : ¬ wdS T w_bolster (.inr (a, B)) = true := wd_no n_wakes (by decide)
    have n_never : ¬ wdS T w_never (.inr (a, B)) = true := wd_no n_wakes (by decide)
    have n_bed : ¬ wdS T w_bed (.inr (a, B)) = true := wd_no n_wakes (by decide)
    have n_night : ¬ wdS T w_night (.inr (a, B)) = true := wd_no n_wakes (by decide)
    have n_awake : ¬ wdS T w_awake (.inr (a, B)) = true := wd_no n_wakes (by decide)
    have hwk : whF T (.inr (a, B)) w_kinds 0 = -1 := by unfold w_kinds; unfold whF; rw [if_neg n_sleeper]; unfold whF; rw [if_neg n_child]; unfold whF; rw [if_neg n_snorer]; rfl
    rw [hwk] at hwh
    have hln : lineS T (.inr (a, B)) = exprS T 6 (onS T 8 (.inr (a, B))) := by unfold lineS; rw [if_neg n_sleeper, if_neg n_child, if_neg n_snorer, if_neg n_dog, if_neg n_bolster, if_neg n_never, if_pos n_wakes]
    have k108 : ∀ E, CMd E0 E T (onS T 8 (.inr (a, B))) → Sx mX12_readLine (d + 46) 0 0 (fun o => ∃ E2 v, o = (.inl (some (.int v)), E2, 137) ∧ CMd E0 E2 T (liS T (.inr (a, B))) ∧ (∀ a2 B2, liS T (.inr (a, B)) = .inr (a2, B2) → v = bX B2 5)) 108 [some (.ref 95), some (.int (bX B 5)), some (.int 8), some (.int (-1))] [] E 137 := by
      intro E y1
      refine Sx.up (fun _ kk => r_iload_n 109 dX12_readLine_108 rfl rfl kk) ?_
      refine Sx.up (fun _ kk => r_iconst (1) 110 dX12_readLine_109 rfl (by decide) kk) ?_
      refine Sx.up (fun _ kk => r_icmp_ne 113 144 dX12_readLine_110 rfl (by decide) (fun _ => kk) (fun h110 => absurd h110 (by decide))) ?_
      refine Sx.up (fun _ kk => r_iload_n 145 dX12_readLine_144 rfl rfl kk) ?_
      refine Sx.up (fun _ kk => r_iconst (2) 146 dX12_readLine_145 rfl (by decide) kk) ?_
      refine Sx.up (fun _ kk => r_icmp_ne 149 167 dX12_readLine_146 rfl (by decide) (fun _ => kk) (fun h146 => absurd h146 (by decide))) ?_
      refine Sx.up (fun _ kk => r_iload_n 168 dX12_readLine_167 rfl rfl kk) ?_
      refine Sx.up (fun _ kk => r_iconst (4) 169 dX12_readLine_168 rfl (by decide) kk) ?_
      refine Sx.up (fun _ kk => r_icmp_ne 172 189 dX12_readLine_169 rfl (by decide) (fun _ => kk) (fun h169 => absurd h169 (by decide))) ?_
      refine Sx.up (fun _ kk => r_aload_n 190 dX12_readLine_189 rfl rfl kk) ?_
      refine Sx.up (fun _ kk => r_iconst (0) 191 dX12_readLine_190 rfl (by decide) kk) ?_
      obtain ⟨_, ⟨E2, rfl, y2⟩, hcl2⟩ := md_expr6 (d := d + 1) y1 (slk_on8 n_wakes h0)
      refine Sx.up (fun _ kk => r_callV (M := mX12_readLine) (pc := 191) 194 dX12_readLine_191 rfl k12_252 hcl2 rfl rfl rfl (by decide) rfl lt95 (Nat.le_of_ble_eq_true rfl) kk) ?_
      refine Sx.up (fun _ kk => r_goto 253 dX12_readLine_194 (by decide) kk) ?_
      exact k253 8 E2 _ _ y2 hln (x5_ext (expr_ext 6 _) (x5_on hx5))
    have hkd : (8 : Int32) &&& bX B 5 = bX B 5 &&& 8 := Int32.and_comm _ _
    by_cases ho : bX B 5 &&& 8 = 0
    · refine Sx.up (fun _ kk => r_aload_n 1 dX12_readLine_0 rfl rfl kk) ?_
      refine Sx.up (fun _ kk => r_ldcwS (i := 31) 4 dX12_readLine_1 rfl rfl kk) ?_
      refine Sx.up (fun _ kk => r_callV (M := mX12_readLine) (pc := 4) 7 dX12_readLine_4 rfl k12_222 (md_is (d := d + 41) (i := 31) (q := ("SpoonRowModel", 279, "bed", w_bed)) y1 rfl) rfl rfl rfl (by decide) rfl lt95 (Nat.le_of_ble_eq_true rfl) kk) ?_
      refine Sx.up (fun _ kk => r_if_eq 10 14 dX12_readLine_7 rfl (by decide) (fun _ => kk) (fun h7 => absurd (bI_f n_bed) h7)) ?_
      refine Sx.up (fun _ kk => r_aload_n 15 dX12_readLine_14 rfl rfl kk) ?_
      refine Sx.up (fun _ kk => r_ldcwS (i := 32) 18 dX12_readLine_15 rfl rfl kk) ?_
      refine Sx.up (fun _ kk => r_callV (M := mX12_readLine) (pc := 18) 21 dX12_readLine_18 rfl k12_222 (md_is (d := d + 41) (i := 32) (q := ("SpoonRowModel", 281, "night", w_night)) y1 rfl) rfl rfl rfl (by decide) rfl lt95 (Nat.le_of_ble_eq_true rfl) kk) ?_
      refine Sx.up (fun _ kk => r_if_eq 24 28 dX12_readLine_21 rfl (by decide) (fun _ => kk) (fun h21 => absurd (bI_f n_night) h21)) ?_
      refine Sx.up (fun _ kk => r_aload_n 29 dX12_readLine_28 rfl rfl kk) ?_
      refine Sx.up (fun _ kk => r_ldcwS (i := 33) 32 dX12_readLine_29 rfl rfl kk) ?_
      refine Sx.up (fun _ kk => r_callV (M := mX12_readLine) (pc := 32) 35 dX12_readLine_32 rfl k12_222 (md_is (d := d + 41) (i := 33) (q := ("SpoonRowModel", 283, "awake", w_awake)) y1 rfl) rfl rfl rfl (by decide) rfl lt95 (Nat.le_of_ble_eq_true rfl) kk) ?_
      refine Sx.up (fun _ kk => r_if_eq 38 42 dX12_readLine_35 rfl (by decide) (fun _ => kk) (fun h35 => absurd (bI_f n_awake) h35)) ?_
      refine Sx.up (fun _ kk => r_aload_n 43 dX12_readLine_42 rfl rfl kk) ?_
      refine Sx.up (fun _ kk => r_ldcwS (i := 34) 46 dX12_readLine_43 rfl rfl kk) ?_
      refine Sx.up (fun _ kk => r_callV (M := mX12_readLine) (pc := 46) 49 dX12_readLine_46 rfl k12_222 (md_is (d := d + 41) (i := 34) (q := ("SpoonRowModel", 285, "wakes", w_wakes)) y1 rfl) rfl rfl rfl (by decide) rfl lt95 (Nat.le_of_ble_eq_true rfl) kk) ?_
      refine Sx.up (fun _ kk => r_if_eq 52 57 dX12_readLine_49 rfl (by decide) (fun h49 => absurd h49 (by rw [bI_t n_wakes]; decide)) (fun _ => kk)) ?_
      refine Sx.up (fun _ kk => r_bipush (8) 54 dX12_readLine_52 rfl (by decide) kk) ?_
      refine Sx.up (fun _ kk => r_goto 58 dX12_readLine_54 (by decide) kk) ?_
      refine Sx.up (fun _ kk => r_istore_n 59 dX12_readLine_58 rfl (by decide) rfl kk) ?_
      refine Sx.up (fun _ kk => r_aload_n 60 dX12_readLine_59 rfl rfl kk) ?_
      refine Sx.up (fun _ kk => r_ldcwS (i := 35) 63 dX12_readLine_60 rfl rfl kk) ?_
      refine Sx.up (fun _ kk => r_callV (M := mX12_readLine) (pc := 63) 66 dX12_readLine_63 rfl k12_222 (md_is (d := d + 41) (i := 35) (q := ("SpoonRowModel", 287, "dog", w_dog)) y1 rfl) rfl rfl rfl (by decide) rfl lt95 (Nat.le_of_ble_eq_true rfl) kk) ?_
      refine Sx.up (fun _ kk => r_if_eq 69 73 dX12_readLine_66 rfl (by decide) (fun _ => kk) (fun h66 => absurd (bI_f n_dog) h66)) ?_
      refine Sx.up (fun _ kk => r_aload_n 74 dX12_readLine_73 rfl rfl kk) ?_
      refine Sx.up (fun _ kk => r_aload_n 75 dX12_readLine_74 rfl rfl kk) ?_
      refine Sx.up (fun _ kk => r_getR 78 dX12_readLine_75 rfl f12_17 rfl rfl lt95 (mo_0 (md_M y1)) kk) ?_
      refine Sx.up (fun _ kk => r_callV (M := mX12_readLine) (pc := 78) 81 dX12_readLine_78 rfl k12_245 hwh rfl rfl rfl (by decide) rfl lt95 (Nat.le_of_ble_eq_true rfl) kk) ?_
      refine Sx.up (fun _ kk => r_istore_n 82 dX12_readLine_81 rfl (by decide) rfl kk) ?_
      refine Sx.up (fun _ kk => r_iload_n 83 dX12_readLine_82 rfl rfl kk) ?_
      refine Sx.up (fun _ kk => r_iload_n 84 dX12_readLine_83 rfl rfl kk) ?_
      refine Sx.up (fun _ kk => r_iand 85 dX12_readLine_84 rfl kk) ?_
      refine Sx.up (fun _ kk => r_if_eq 88 93 dX12_readLine_85 rfl (by decide) (fun _ => kk) (fun h85 => absurd (hkd.trans ho) h85)) ?_
      refine Sx.up (fun _ kk => r_iload_n 94 dX12_readLine_93 rfl rfl kk) ?_
      refine Sx.up (fun _ kk => r_if_le 97 197 dX12_readLine_94 rfl (by decide) (fun h94 => absurd h94 (by decide)) (fun _ => kk)) ?_
      refine Sx.up (fun _ kk => r_aload_n 98 dX12_readLine_97 rfl rfl kk) ?_
      refine Sx.up (fun _ kk => r_getI 101 dX12_readLine_98 rfl f12_208 rfl rfl lt95 kk) ?_
      refine Sx.up (fun _ kk => r_if_ne 104 108 dX12_readLine_101 rfl (by decide) (fun h101 => absurd h101 (fun z => z hb1)) (fun _ => kk)) ?_
      refine Sx.up (fun _ kk => r_aload_n 105 dX12_readLine_104 rfl rfl kk) ?_
      obtain ⟨_, ⟨E9, rfl, y9⟩, hcl9⟩ := md_adv (d := d + 44) y1 ⟨_, rfl⟩
      have y9 := md_set5 (v := bX B 5 ||| 8) y9
      refine Sx.up (fun _ kk => r_callV (M := mX12_readLine) (pc := 105) 108 dX12_readLine_105 rfl k12_233 hcl9 rfl rfl rfl (by decide) rfl lt95 (Nat.le_of_ble_eq_true rfl) kk) ?_
      exact k108 E9 (by rw [on_a ho]; exact y9)
    · refine Sx.up (fun _ kk => r_aload_n 1 dX12_readLine_0 rfl rfl kk) ?_
      refine Sx.up (fun _ kk => r_ldcwS (i := 31) 4 dX12_readLine_1 rfl rfl kk) ?_
      refine Sx.up (fun _ kk => r_callV (M := mX12_readLine) (pc := 4) 7 dX12_readLine_4 rfl k12_222 (md_is (d := d + 41) (i := 31) (q := ("SpoonRowModel", 279, "bed", w_bed)) y1 rfl) rfl rfl rfl (by decide) rfl lt95 (Nat.le_of_ble_eq_true rfl) kk) ?_
      refine Sx.up (fun _ kk => r_if_eq 10 14 dX12_readLine_7 rfl (by decide) (fun _ => kk) (fun h7 => absurd (bI_f n_bed) h7)) ?_
      refine Sx.up (fun _ kk => r_aload_n 15 dX12_readLine_14 rfl rfl kk) ?_
      refine Sx.up (fun _ kk => r_ldcwS (i := 32) 18 dX12_readLine_15 rfl rfl kk) ?_
      refine Sx.up (fun _ kk => r_callV (M := mX12_readLine) (pc := 18) 21 dX12_readLine_18 rfl k12_222 (md_is (d := d + 41) (i := 32) (q := ("SpoonRowModel", 281, "night", w_night)) y1 rfl) rfl rfl rfl (by decide) rfl lt95 (Nat.le_of_ble_eq_true rfl) kk) ?_
      refine Sx.up (fun _ kk => r_if_eq 24 28 dX12_readLine_21 rfl (by decide) (fun _ => kk) (fun h21 => absurd (bI_f n_night) h21)) ?_
      refine Sx.up (fun _ kk => r_aload_n 29 dX12_readLine_28 rfl rfl kk) ?_
      refine Sx.up (fun _ kk => r_ldcwS (i := 33) 32 dX12_readLine_29 rfl rfl kk) ?_
      refine Sx.up (fun _ kk => r_callV (M := mX12_readLine) (pc := 32) 35 dX12_readLine_32 rfl k12_222 (md_is (d := d + 41) (i := 33) (q := ("SpoonRowModel", 283, "awake", w_awake)) y1 rfl) rfl rfl rfl (by decide) rfl lt95 (Nat.le_of_ble_eq_true rfl) kk) ?_
      refine Sx.up (fun _ kk => r_if_eq 38 42 dX12_readLine_35 rfl (by decide) (fun _ => kk) (fun h35 => absurd (bI_f n_awake) h35)) ?_
      refine Sx.up (fun _ kk => r_aload_n 43 dX12_readLine_42 rfl rfl kk) ?_
      refine Sx.up (fun _ kk => r_ldcwS (i := 34) 46 dX12_readLine_43 rfl rfl kk) ?_
      refine Sx.up (fun _ kk => r_callV (M := mX12_readLine) (pc := 46) 49 dX12_readLine_46 rfl k12_222 (md_is (d := d + 41) (i := 34) (q := ("SpoonRowModel", 285, "wakes", w_wakes)) y1 rfl) rfl rfl rfl (by decide) rfl lt95 (Nat.le_of_ble_eq_true rfl) kk) ?_
      refine Sx.up (fun _ kk => r_if_eq 52 57 dX12_readLine_49 rfl (by decide) (fun h49 => absurd h49 (by rw [bI_t n_wakes]; decide)) (fun _ => kk)) ?_
      refine Sx.up (fun _ kk => r_bipush (8) 54 dX12_readLine_52 rfl (by decide) kk) ?_
      refine Sx.up (fun _ kk => r_goto 58 dX12_readLine_54 (by decide) kk) ?_
      refine Sx.up (fun _ kk => r_istore_n 59 dX12_readLine_58 rfl (by decide) rfl kk) ?_
      refine Sx.up (fun _ kk => r_aload_n 60 dX12_readLine_59 rfl rfl kk) ?_
      refine Sx.up (fun _ kk => r_ldcwS (i := 35) 63 dX12_readLine_60 rfl rfl kk) ?_
      refine Sx.up (fun _ kk => r_callV (M := mX12_readLine) (pc := 63) 66 dX12_readLine_63 rfl k12_222 (md_is (d := d + 41) (i := 35) (q := ("SpoonRowModel", 287, "dog", w_dog)) y1 rfl) rfl rfl rfl (by decide) rfl lt95 (Nat.le_of_ble_eq_true rfl) kk) ?_
      refine Sx.up (fun _ kk => r_if_eq 69 73 dX12_readLine_66 rfl (by decide) (fun _ => kk) (fun h66 => absurd (bI_f n_dog) h66)) ?_
      refine Sx.up (fun _ kk => r_aload_n 74 dX12_readLine_73 rfl rfl kk) ?_
      refine Sx.up (fun _ kk => r_aload_n 75 dX12_readLine_74 rfl rfl kk) ?_
      refine Sx.up (fun _ kk => r_getR 78 dX12_readLine_75 rfl f12_17 rfl rfl lt95 (mo_0 (md_M y1)) kk) ?_
      refine Sx.up (fun _ kk => r_callV (M := mX12_readLine) (pc := 78) 81 dX12_readLine_78 rfl k12_245 hwh rfl rfl rfl (by decide) rfl lt95 (Nat.le_of_ble_eq_true rfl) kk) ?_
      refine Sx.up (fun _ kk => r_istore_n 82 dX12_readLine_81 rfl (by decide) rfl kk) ?_
      refine Sx.up (fun _ kk => r_iload_n 83 dX12_readLine_82 rfl rfl kk) ?_
      refine Sx.up (fun _ kk => r_iload_n 84 dX12_readLine_83 rfl rfl kk) ?_
      refine Sx.up (fun _ kk => r_iand 85 dX12_readLine_84 rfl kk) ?_
      refine Sx.up (fun _ kk => r_if_eq 88 93 dX12_readLine_85 rfl (by decide) (fun h85 => absurd h85 (fun z => ho (hkd.symm.trans z))) (fun _ => kk)) ?_
      refine Sx.up (fun _ kk => r_aload_n 89 dX12_readLine_88 rfl rfl kk) ?_
      refine Sx.up (fun _ kk => r_iconst (5) 90 dX12_readLine_89 rfl (by decide) kk) ?_
      obtain ⟨_, ⟨E9, rfl, y9⟩, hcl9⟩ := md_wrong (d := d + 45) y1 (k := 5) (k9 := 5) rfl (by decide) (by decide)
      refine Sx.up (fun _ kk => r_callV (M := mX12_readLine) (pc := 90) 93 dX12_readLine_90 rfl k12_229 hcl9 rfl rfl rfl (by decide) rfl lt95 (Nat.le_of_ble_eq_true rfl) kk) ?_
      refine Sx.up (fun _ kk => r_iload_n 94 dX12_readLine_93 rfl rfl kk) ?_
      refine Sx.up (fun _ kk => r_if_le 97 197 dX12_readLine_94 rfl (by decide) (fun h94 => absurd h94 (by decide)) (fun _ => kk)) ?_
      refine Sx.up (fun _ kk => r_aload_n 98 dX12_readLine_97 rfl rfl kk) ?_
      refine Sx.up (fun _ kk => r_getI 101 dX12_readLine_98 rfl f12_208 rfl rfl lt95 kk) ?_
      refine Sx.up (fun _ kk => r_if_ne 104 108 dX12_readLine_101 rfl (by decide) (fun _ => kk) (fun h101 => absurd h101 (md_1b y9))) ?_
      exact k108 E9 (by rw [on_b ho]; exact y9)
  by_cases n_bed : wdS T w_bed (.inr (a, B)) = true
  · have n_sleeper : ¬ wdS T w_sleeper (.inr (a, B)) = true := wd_no n_bed (by decide)
    have n_child : ¬ wdS T w_child (.inr (a, B)) = true := wd_no n_bed (by decide)
    have n_snorer : ¬ wdS T w_snorer (.inr (a, B)) = true := wd_no n_bed (by decide)
    have n_dog : ¬ wdS T w_dog (.inr (a, B)) = true := wd_no n_bed (by decide)
    have n_bolster : ¬ wdS T w_bolster (.inr (a, B)) = true := wd_no n_bed (by decide)
    have n_never : ¬ wdS T w_never (.inr (a, B)) = true := wd_no n_bed (by decide)
    have n_wakes : ¬ wdS T w_wakes (.inr (a, B)) = true := wd_no n_bed (by decide)
    have n_night : ¬ wdS T w_night (.inr (a, B)) = true := wd_no n_bed (by decide)
    have n_awake : ¬ wdS T w_awake (.inr (a, B)) = true := wd_no n_bed (by decide)
    have hwk : whF T (.inr (a, B)) w_kinds 0 = -1 := by unfold w_kinds; unfold whF; rw [if_neg n_sleeper]; unfold whF; rw [if_neg n_child]; unfold whF; rw [if_neg n_snorer]; rfl
    rw [hwk] at hwh
    have hln : lineS T (.inr (a, B)) = bdS T (.inr (a, B)) := by unfold lineS; rw [if_neg n_sleeper, if_neg n_child, if_neg n_snorer, if_neg n_dog, if_neg n_bolster, if_neg n_never, if_neg n_wakes, if_pos n_bed]
    have k108 : ∀ E, CMd E0 E T (onS T 1 (.inr (a, B))) → Sx mX12_readLine (d + 46) 0 0 (fun o => ∃ E2 v, o = (.inl (some (.int v)), E2, 137) ∧ CMd E0 E2 T (liS T (.inr (a, B))) ∧ (∀ a2 B2, liS T (.inr (a, B)) = .inr (a2, B2) → v = bX B2 5)) 108 [some (.ref 95), some (.int (bX B 5)), some (.int 1), some (.int (-1))] [] E 137 := by
      intro E y1
      refine Sx.up (fun _ kk => r_iload_n 109 dX12_readLine_108 rfl rfl kk) ?_
      refine Sx.up (fun _ kk => r_iconst (1) 110 dX12_readLine_109 rfl (by decide) kk) ?_
      refine Sx.up (fun _ kk => r_icmp_ne 113 144 dX12_readLine_110 rfl (by decide) (fun h110 => absurd h110 (fun z => z rfl)) (fun _ => kk)) ?_
      refine Sx.up (fun _ kk => r_aload_n 114 dX12_readLine_113 rfl rfl kk) ?_
      refine Sx.up (fun _ kk => r_getR 117 dX12_readLine_114 rfl f12_38 rfl rfl lt95 (mo_3 (by first | exact md_M y1 | exact md_M ys | exact md_M y1)) kk) ?_
      refine Sx.up (fun _ kk => r_bipush (9) 119 dX12_readLine_117 rfl (by decide) kk) ?_
      refine Sx.up (fun _ kk => r_aload_n 120 dX12_readLine_119 rfl rfl kk) ?_
      refine Sx.up (fun _ kk => r_iconst (1) 121 dX12_readLine_120 rfl (by decide) kk) ?_
      refine Sx.up (fun _ kk => r_bipush (99) 123 dX12_readLine_121 rfl (by decide) kk) ?_
      obtain ⟨_, ⟨E2, v2, rfl, y2, hv2, w2⟩, hcl2⟩ := md_rnM (d := d + 43) (lo := 1) (hi := 99) y1 rfl rfl (by decide) (by decide)
      refine Sx.up (fun _ kk => r_callV (M := mX12_readLine) (pc := 123) 126 dX12_readLine_123 rfl k12_239 hcl2 rfl rfl rfl (by decide) rfl lt95 (Nat.le_of_ble_eq_true rfl) kk) ?_
      have ys := md_scal (i := 0) (v := v2) y2 (by decide)
      rw [scs_eq hv2] at ys
      refine Sx.up (fun _ kk => r_iastN (9) 127 dX12_readLine_126 rfl rfl (Nat.le_of_ble_eq_true rfl) (by decide) (Nat.le_of_ble_eq_true rfl) (Nat.le_of_ble_eq_true rfl) kk) ?_
      refine Sx.up (fun _ kk => r_aload_n 128 dX12_readLine_127 rfl rfl kk) ?_
      refine Sx.up (fun _ kk => r_getR 131 dX12_readLine_128 rfl f12_38 rfl rfl lt95 (mo_3 (by first | exact md_M y2 | exact md_M ys | exact md_M y1)) kk) ?_
      refine Sx.up (fun _ kk => r_bipush (10) 133 dX12_readLine_131 rfl (by decide) kk) ?_
      refine Sx.up (fun _ kk => r_aload_n 134 dX12_readLine_133 rfl rfl kk) ?_
      refine Sx.up (fun _ kk => r_iconst (0) 135 dX12_readLine_134 rfl (by decide) kk) ?_
      refine Sx.up (fun _ kk => r_bipush (9) 137 dX12_readLine_135 rfl (by decide) kk) ?_
      obtain ⟨_, ⟨E3, v3, rfl, y3, hv3, w3⟩, hcl3⟩ := md_rnM (d := d + 43) (lo := 0) (hi := 9) ys rfl rfl (by decide) (by decide)
      refine Sx.up (fun _ kk => r_callV (M := mX12_readLine) (pc := 137) 140 dX12_readLine_137 rfl k12_239 hcl3 rfl rfl rfl (by decide) rfl lt95 (Nat.le_of_ble_eq_true rfl) kk) ?_
      have yt := md_scal (i := 1) (v := v3) y3 (by decide)
      rw [scs_eq hv3] at yt
      refine Sx.up (fun _ kk => r_iastN (10) 141 dX12_readLine_140 rfl rfl (Nat.le_of_ble_eq_true rfl) (by decide) (Nat.le_of_ble_eq_true rfl) (Nat.le_of_ble_eq_true rfl) kk) ?_
      refine Sx.up (fun _ kk => r_goto 253 dX12_readLine_141 (by decide) kk) ?_
      exact k253 1 _ _ _ yt hln (x5_sc (by decide) (x5_tk (x5_sc (by decide) (x5_tk (x5_on hx5)))))
    have hkd : (1 : Int32) &&& bX B 5 = bX B 5 &&& 1 := Int32.and_comm _ _
    by_cases ho : bX B 5 &&& 1 = 0
    · refine Sx.up (fun _ kk => r_aload_n 1 dX12_readLine_0 rfl rfl kk) ?_
      refine Sx.up (fun _ kk => r_ldcwS (i := 31) 4 dX12_readLine_1 rfl rfl kk) ?_
      refine Sx.up (fun _ kk => r_callV (M := mX12_readLine) (pc := 4) 7 dX12_readLine_4 rfl k12_222 (md_is (d := d + 41) (i := 31) (q := ("SpoonRowModel", 279, "bed", w_bed)) y1 rfl) rfl rfl rfl (by decide) rfl lt95 (Nat.le_of_ble_eq_true rfl) kk) ?_
      refine Sx.up (fun _ kk => r_if_eq 10 14 dX12_readLine_7 rfl (by decide) (fun h7 => absurd h7 (by rw [bI_t n_bed]; decide)) (fun _ => kk)) ?_
      refine Sx.up (fun _ kk => r_iconst (1) 11 dX12_readLine_10 rfl (by decide) kk) ?_
      refine Sx.up (fun _ kk => r_goto 58 dX12_readLine_11 (by decide) kk) ?_
      refine Sx.up (fun _ kk => r_istore_n 59 dX12_readLine_58 rfl (by decide) rfl kk) ?_
      refine Sx.up (fun _ kk => r_aload_n 60 dX12_readLine_59 rfl rfl kk) ?_
      refine Sx.up (fun _ kk => r_ldcwS (i := 35) 63 dX12_readLine_60 rfl rfl kk) ?_
      refine Sx.up (fun _ kk => r_callV (M := mX12_readLine) (pc := 63) 66 dX12_readLine_63 rfl k12_222 (md_is (d := d + 41) (i := 35) (q := ("SpoonRowModel", 287, "dog", w_dog)) y1 rfl) rfl rfl rfl (by decide) rfl lt95 (Nat.le_of_ble_eq_true rfl) kk) ?_
      refine Sx.up (fun _ kk => r_if_eq 69 73 dX12_readLine_66 rfl (by decide) (fun _ => kk) (fun h66 => absurd (bI_f n_dog) h66)) ?_
      refine Sx.up (fun _ kk => r_aload_n 74 dX12_readLine_73 rfl rfl kk) ?_
      refine Sx.up (fun _ kk => r_aload_n 75 dX12_readLine_74 rfl rfl kk) ?_
      refine Sx.up (fun _ kk => r_getR 78 dX12_readLine_75 rfl f12_17 rfl rfl lt95 (mo_0 (md_M y1)) kk) ?_
      refine Sx.up (fun _ kk => r_callV (M := mX12_readLine) (pc := 78) 81 dX12_readLine_78 rfl k12_245 hwh rfl rfl rfl (by decide) rfl lt95 (Nat.le_of_ble_eq_true rfl) kk) ?_
      refine Sx.up (fun _ kk => r_istore_n 82 dX12_readLine_81 rfl (by decide) rfl kk) ?_
      refine Sx.up (fun _ kk => r_iload_n 83 dX12_readLine_82 rfl rfl kk) ?_
      refine Sx.up (fun _ kk => r_iload_n 84 dX12_readLine_83 rfl rfl kk) ?_
      refine Sx.up (fun _ kk => r_iand 85 dX12_readLine_84 rfl kk) ?_
      refine Sx.up (fun _ kk => r_if_eq 88 93 dX12_readLine_85 rfl (by decide) (fun _ => kk) (fun h85 => absurd (hkd.trans ho) h85)) ?_
      refine Sx.up (fun _ kk => r_iload_n 94 dX12_readLine_93 rfl rfl kk) ?_
      refine Sx.up (fun _ kk => r_if_le 97 197 dX12_readLine_94 rfl (by decide) (fun h94 => absurd h94 (by decide)) (fun _ => kk)) ?_
      refine Sx.up (fun _ kk => r_aload_n 98 dX12_readLine_97 rfl rfl kk) ?_
      refine Sx.up (fun _ kk => r_getI 101 dX12_readLine_98 rfl f12_208 rfl rfl lt95 kk) ?_
      refine Sx.up (fun _ kk => r_if_ne 104 108 dX12_readLine_101 rfl (by decide) (fun h101 => absurd h101 (fun z => z hb1)) (fun _ => kk)) ?_
      refine Sx.up (fun _ kk => r_aload_n 105 dX12_readLine_104 rfl rfl kk) ?_
      obtain ⟨_, ⟨E9, rfl, y9⟩, hcl9⟩ := md_adv (d := d + 44) y1 ⟨_, rfl⟩
      have y9 := md_set5 (v := bX B 5 ||| 1) y9
      refine Sx.up (fun _ kk => r_callV (M := mX12_readLine) (pc := 105) 108 dX12_readLine_105 rfl k12_233 hcl9 rfl rfl rfl (by decide) rfl lt95 (Nat.le_of_ble_eq_true rfl) kk) ?_
      exact k108 E9 (by rw [on_a ho]; exact y9)
    · refine Sx.up (fun _ kk => r_aload_n 1 dX12_readLine_0 rfl rfl kk) ?_
      refine Sx.up (fun _ kk => r_ldcwS (i := 31) 4 dX12_readLine_1 rfl rfl kk) ?_
      refine Sx.up (fun _ kk => r_callV (M := mX12_readLine) (pc := 4) 7 dX12_readLine_4 rfl k12_222 (md_is (d := d + 41) (i := 31) (q := ("SpoonRowModel", 279, "bed", w_bed)) y1 rfl) rfl rfl rfl (by decide) rfl lt95 (Nat.le_of_ble_eq_true rfl) kk) ?_
      refine Sx.up (fun _ kk => r_if_eq 10 14 dX12_readLine_7 rfl (by decide) (fun h7 => absurd h7 (by rw [bI_t n_bed]; decide)) (fun _ => kk)) ?_
      refine Sx.up (fun _ kk => r_iconst (1) 11 dX12_readLine_10 rfl (by decide) kk) ?_
      refine Sx.up (fun _ kk => r_goto 58 dX12_readLine_11 (by decide) kk) ?_
      refine Sx.up (fun _ kk => r_istore_n 59 dX12_readLine_58 rfl (by decide) rfl kk) ?_
      refine Sx.up (fun _ kk => r_aload_n 60 dX12_readLine_59 rfl rfl kk) ?_
      refine Sx.up (fun _ kk => r_ldcwS (i := 35) 63 dX12_readLine_60 rfl rfl kk) ?_
      refine Sx.up (fun _ kk => r_callV (M := mX12_readLine) (pc := 63) 66 dX12_readLine_63 rfl k12_222 (md_is (d := d + 41) (i := 35) (q := ("SpoonRowModel", 287, "dog", w_dog)) y1 rfl) rfl rfl rfl (by decide) rfl lt95 (Nat.le_of_ble_eq_true rfl) kk) ?_
      refine Sx.up (fun _ kk => r_if_eq 69 73 dX12_readLine_66 rfl (by decide) (fun _ => kk) (fun h66 => absurd (bI_f n_dog) h66)) ?_
      refine Sx.up (fun _ kk => r_aload_n 74 dX12_readLine_73 rfl rfl kk) ?_
      refine Sx.up (fun _ kk => r_aload_n 75 dX12_readLine_74 rfl rfl kk) ?_
      refine Sx.up (fun _ kk => r_getR 78 dX12_readLine_75 rfl f12_17 rfl rfl lt95 (mo_0 (md_M y1)) kk) ?_
      refine Sx.up (fun _ kk => r_callV (M := mX12_readLine) (pc := 78) 81 dX12_readLine_78 rfl k12_245 hwh rfl rfl rfl (by decide) rfl lt95 (Nat.le_of_ble_eq_true rfl) kk) ?_
      refine Sx.up (fun _ kk => r_istore_n 82 dX12_readLine_81 rfl (by decide) rfl kk) ?_
      refine Sx.up (fun _ kk => r_iload_n 83 dX12_readLine_82 rfl rfl kk) ?_
      refine Sx.up (fun _ kk => r_iload_n 84 dX12_readLine_83 rfl rfl kk) ?_
      refine Sx.up (fun _ kk => r_iand 85 dX12_readLine_84 rfl kk) ?_
      refine Sx.up (fun _ kk => r_if_eq 88 93 dX12_readLine_85 rfl (by decide) (fun h85 => absurd h85 (fun z => ho (hkd.symm.trans z))) (fun _ => kk)) ?_
      refine Sx.up (fun _ kk => r_aload_n 89 dX12_readLine_88 rfl rfl kk) ?_
      refine Sx.up (fun _ kk => r_iconst (5) 90 dX12_readLine_89 rfl (by decide) kk) ?_
      obtain ⟨_, ⟨E9, rfl, y9⟩, hcl9⟩ := md_wrong (d := d + 45) y1 (k := 5) (k9 := 5) rfl (by decide) (by decide)
      refine Sx.up (fun _ kk => r_callV (M := mX12_readLine) (pc := 90) 93 dX12_readLine_90 rfl k12_229 hcl9 rfl rfl rfl (by decide) rfl lt95 (Nat.le_of_ble_eq_true rfl) kk) ?_
      refine Sx.up (fun _ kk => r_iload_n 94 dX12_readLine_93 rfl rfl kk) ?_
      refine Sx.up (fun _ kk => r_if_le 97 197 dX12_readLine_94 rfl (by decide) (fun h94 => absurd h94 (by decide)) (fun _ => kk)) ?_
      refine Sx.up (fun _ kk => r_aload_n 98 dX12_readLine_97 rfl rfl kk) ?_
      refine Sx.up (fun _ kk => r_getI 101 dX12_readLine_98 rfl f12_208 rfl rfl lt95 kk) ?_
      refine Sx.up (fun _ kk => r_if_ne 104 108 dX12_readLine_101 rfl (by decide) (fun _ => kk) (fun h101 => absurd h101 (md_1b y9))) ?_
      exact k108 E9 (by rw [on_b ho]; exact y9)
  by_cases n_night : wdS T w_night (.inr (a, B)) = true
  · have n_sleeper : ¬ wdS T w_sleeper (.inr (a, B)) = true := wd_no n_night (by decide)
    have n_child : ¬ wdS T w_child (.inr (a, B)) = true := wd_no n_night (by decide)
    have n_snorer : ¬ wdS T w_snorer (.inr (a, B)) = true := wd_no n_night (by decide)
    have n_dog : ¬ wdS T w_dog (.inr (a, B)) = true := wd_no n_night (by decide)
    have n_bolster : ¬ wdS T w_bolster (.inr (a, B)) = true := wd_no n_night (by decide)
    have n_never : ¬ wdS T w_never (.inr (a, B)) = true := wd_no n_night (by decide)
    have n_wakes : ¬ wdS T w_wakes (.inr (a, B)) = true := wd_no n_night (by decide)
    have n_bed : ¬ wdS T w_bed (.inr (a, B)) = true := wd_no n_night (by decide)
    have n_awake : ¬ wdS T w_awake (.inr (a, B)) = true := wd_no n_night (by decide)
    have hwk : whF T (.inr (a, B)) w_kinds 0 = -1 := by unfold w_kinds; unfold whF; rw [if_neg n_sleeper]; unfold whF; rw [if_neg n_child]; unfold whF; rw [if_neg n_snorer]; rfl
    rw [hwk] at hwh
    have hln : lineS T (.inr (a, B)) = niS T (.inr (a, B)) := by unfold lineS; rw [if_neg n_sleeper, if_neg n_child, if_neg n_snorer, if_neg n_dog, if_neg n_bolster, if_neg n_never, if_neg n_wakes, if_neg n_bed, if_pos n_night]
    have k108 : ∀ E, CMd E0 E T (onS T 2 (.inr (a, B))) → Sx mX12_readLine (d + 46) 0 0 (fun o => ∃ E2 v, o = (.inl (some (.int v)), E2, 137) ∧ CMd E0 E2 T (liS T (.inr (a, B))) ∧ (∀ a2 B2, liS T (.inr (a, B)) = .inr (a2, B2) → v = bX B2 5)) 108 [some (.ref 95), some (.int (bX B 5)), some (.int 2), some (.int (-1))] [] E 137 := by
      intro E y1
      refine Sx.up (fun _ kk => r_iload_n 109 dX12_readLine_108 rfl rfl kk) ?_
      refine Sx.up (fun _ kk => r_iconst (1) 110 dX12_readLine_109 rfl (by decide) kk) ?_
      refine Sx.up (fun _ kk => r_icmp_ne 113 144 dX12_readLine_110 rfl (by decide) (fun _ => kk) (fun h110 => absurd h110 (by decide))) ?_
      refine Sx.up (fun _ kk => r_iload_n 145 dX12_readLine_144 rfl rfl kk) ?_
      refine Sx.up (fun _ kk => r_iconst (2) 146 dX12_readLine_145 rfl (by decide) kk) ?_
      refine Sx.up (fun _ kk => r_icmp_ne 149 167 dX12_readLine_146 rfl (by decide) (fun h146 => absurd h146 (fun z => z rfl)) (fun _ => kk)) ?_
      refine Sx.up (fun _ kk => r_aload_n 150 dX12_readLine_149 rfl rfl kk) ?_
      refine Sx.up (fun _ kk => r_getR 153 dX12_readLine_150 rfl f12_38 rfl rfl lt95 (mo_3 (by first | exact md_M y1 | exact md_M ys | exact md_M y1)) kk) ?_
      refine Sx.up (fun _ kk => r_bipush (11) 155 dX12_readLine_153 rfl (by decide) kk) ?_
      refine Sx.up (fun _ kk => r_aload_n 156 dX12_readLine_155 rfl rfl kk) ?_
      refine Sx.up (fun _ kk => r_iconst (1) 157 dX12_readLine_156 rfl (by decide) kk) ?_
      refine Sx.up (fun _ kk => r_sipush (600) 160 dX12_readLine_157 rfl (by decide) kk) ?_
      obtain ⟨_, ⟨E2, v2, rfl, y2, hv2, w2⟩, hcl2⟩ := md_rnM (d := d + 43) (lo := 1) (hi := 600) y1 rfl rfl (by decide) (by decide)
      refine Sx.up (fun _ kk => r_callV (M := mX12_readLine) (pc := 160) 163 dX12_readLine_160 rfl k12_239 hcl2 rfl rfl rfl (by decide) rfl lt95 (Nat.le_of_ble_eq_true rfl) kk) ?_
      have yt := md_scal (i := 2) (v := v2) y2 (by decide)
      rw [scs_eq hv2] at yt
      refine Sx.up (fun _ kk => r_iastN (11) 164 dX12_readLine_163 rfl rfl (Nat.le_of_ble_eq_true rfl) (by decide) (Nat.le_of_ble_eq_true rfl) (Nat.le_of_ble_eq_true rfl) kk) ?_
      refine Sx.up (fun _ kk => r_goto 253 dX12_readLine_164 (by decide) kk) ?_
      exact k253 2 _ _ _ yt hln (x5_sc (by decide) (x5_tk (x5_on hx5)))
    have hkd : (2 : Int32) &&& bX B 5 = bX B 5 &&& 2 := Int32.and_comm _ _
    by_cases ho : bX B 5 &&& 2 = 0
    · refine Sx.up (fun _ kk => r_aload_n 1 dX12_readLine_0 rfl rfl kk) ?_
      refine Sx.up (fun _ kk => r_ldcwS (i := 31) 4 dX12_readLine_1 rfl rfl kk) ?_
      refine Sx.up (fun _ kk => r_callV (M := mX12_readLine) (pc := 4) 7 dX12_readLine_4 rfl k12_222 (md_is (d := d + 41) (i := 31) (q := ("SpoonRowModel", 279, "bed", w_bed)) y1 rfl) rfl rfl rfl (by decide) rfl lt95 (Nat.le_of_ble_eq_true rfl) kk) ?_
      refine Sx.up (fun _ kk => r_if_eq 10 14 dX12_readLine_7 rfl (by decide) (fun _ => kk) (fun h7 => absurd (bI_f n_bed) h7)) ?_
      refine Sx.up (fun _ kk => r_aload_n 15 dX12_readLine_14 rfl rfl kk) ?_
      refine Sx.up (fun _ kk => r_ldcwS (i := 32) 18 dX12_readLine_15 rfl rfl kk) ?_
      refine Sx.up (fun _ kk => r_callV (M := mX12_readLine) (pc := 18) 21 dX12_readLine_18 rfl k12_222 (md_is (d := d + 41) (i := 32) (q := ("SpoonRowModel", 281, "night", w_night)) y1 rfl) rfl rfl rfl (by decide) rfl lt95 (Nat.le_of_ble_eq_true rfl) kk) ?_
      refine Sx.up (fun _ kk => r_if_eq 24 28 dX12_readLine_21 rfl (by decide) (fun h21 => absurd h21 (by rw [bI_t n_night]; decide)) (fun _ => kk)) ?_
      refine Sx.up (fun _ kk => r_iconst (2) 25 dX12_readLine_24 rfl (by decide) kk) ?_
      refine Sx.up (fun _ kk => r_goto 58 dX12_readLine_25 (by decide) kk) ?_
      refine Sx.up (fun _ kk => r_istore_n 59 dX12_readLine_58 rfl (by decide) rfl kk) ?_
      refine Sx.up (fun _ kk => r_aload_n 60 dX12_readLine_59 rfl rfl kk) ?_
      refine Sx.up (fun _ kk => r_ldcwS (i := 35) 63 dX12_readLine_60 rfl rfl kk) ?_
      refine Sx.up (fun _ kk => r_callV (M := mX12_readLine) (pc := 63) 66 dX12_readLine_63 rfl k12_222 (md_is (d := d + 41) (i := 35) (q := ("SpoonRowModel", 287, "dog", w_dog)) y1 rfl) rfl rfl rfl (by decide) rfl lt95 (Nat.le_of_ble_eq_true rfl) kk) ?_
      refine Sx.up (fun _ kk => r_if_eq 69 73 dX12_readLine_66 rfl (by decide) (fun _ => kk) (fun h66 => absurd (bI_f n_dog) h66)) ?_
      refine Sx.up (fun _ kk => r_aload_n 74 dX12_readLine_73 rfl rfl kk) ?_
      refine Sx.up (fun _ kk => r_aload_n 75 dX12_readLine_74 rfl rfl kk) ?_
      refine Sx.up (fun _ kk => r_getR 78 dX12_readLine_75 rfl f12_17 rfl rfl lt95 (mo_0 (md_M y1)) kk) ?_
      refine Sx.up (fun _ kk => r_callV (M := mX12_readLine) (pc := 78) 81 dX12_readLine_78 rfl k12_245 hwh rfl rfl rfl (by decide) rfl lt95 (Nat.le_of_ble_eq_true rfl) kk) ?_
      refine Sx.up (fun _ kk => r_istore_n 82 dX12_readLine_81 rfl (by decide) rfl kk) ?_
      refine Sx.up (fun _ kk => r_iload_n 83 dX12_readLine_82 rfl rfl kk) ?_
      refine Sx.up (fun _ kk => r_iload_n 84 dX12_readLine_83 rfl rfl kk) ?_
      refine Sx.up (fun _ kk => r_iand 85 dX12_readLine_84 rfl kk) ?_
      refine Sx.up (fun _ kk => r_if_eq 88 93 dX12_readLine_85 rfl (by decide) (fun _ => kk) (fun h85 => absurd (hkd.trans ho) h85)) ?_
      refine Sx.up (fun _ kk => r_iload_n 94 dX12_readLine_93 rfl rfl kk) ?_
      refine Sx.up (fun _ kk => r_if_le 97 197 dX12_readLine_94 rfl (by decide) (fun h94 => absurd h94 (by decide)) (fun _ => kk)) ?_
      refine Sx.up (fun _ kk => r_aload_n 98 dX12_readLine_97 rfl rfl kk) ?_
      refine Sx.up (fun _ kk => r_getI 101 dX12_readLine_98 rfl f12_208 rfl rfl lt95 kk) ?_
      refine Sx.up (fun _ kk => r_if_ne 104 108 dX12_readLine_101 rfl (by decide) (fun h101 => absurd h101 (fun z => z hb1)) (fun _ => kk)) ?_
      refine Sx.up (fun _ kk => r_aload_n 105 dX12_readLine_104 rfl rfl kk) ?_
      obtain ⟨_, ⟨E9, rfl, y9⟩, hcl9⟩ := md_adv (d := d + 44) y1 ⟨_, rfl⟩
      have y9 := md_set5 (v := bX B 5 ||| 2) y9
      refine Sx.up (fun _ kk => r_callV (M := mX12_readLine) (pc := 105) 108 dX12_readLine_105 rfl k12_233 hcl9 rfl rfl rfl (by decide) rfl lt95 (Nat.le_of_ble_eq_true rfl) kk) ?_
      exact k108 E9 (by rw [on_a ho]; exact y9)
    · refine Sx.up (fun _ kk => r_aload_n 1 dX12_readLine_0 rfl rfl kk) ?_
      refine Sx.up (fun _ kk => r_ldcwS (i := 31) 4 dX12_readLine_1 rfl rfl kk) ?_
      refine Sx.up (fun _ kk => r_callV (M := mX12_readLine) (pc := 4) 7 dX12_readLine_4 rfl k12_222 (md_is (d := d + 41) (i := 31) (q := ("SpoonRowModel", 279, "bed", w_bed)) y1 rfl) rfl rfl rfl (by decide) rfl lt95 (Nat.le_of_ble_eq_true rfl) kk) ?_
      refine Sx.up (fun _ kk => r_if_eq 10 14 dX12_readLine_7 rfl (by decide) (fun _ => kk) (fun h7 => absurd (bI_f n_bed) h7)) ?_
      refine Sx.up (fun _ kk => r_aload_n 15 dX12_readLine_14 rfl rfl kk) ?_
      refine Sx.up (fun _ kk => r_ldcwS (i := 32) 18 dX12_readLine_15 rfl rfl kk) ?_
      refine Sx.up (fun _ kk => r_callV (M := mX12_readLine) (pc := 18) 21 dX12_readLine_18 rfl k12_222 (md_is (d := d + 41) (i := 32) (q := ("SpoonRowModel", 281, "night", w_night)) y1 rfl) rfl rfl rfl (by decide) rfl lt95 (Nat.le_of_ble_eq_true rfl) kk) ?_
      refine Sx.up (fun _ kk => r_if_eq 24 28 dX12_readLine_21 rfl (by decide) (fun h21 => absurd h21 (by rw [bI_t n_night]; decide)) (fun _ => kk)) ?_
      refine Sx.up (fun _ kk => r_iconst (2) 25 dX12_readLine_24 rfl (by decide) kk) ?_
      refine Sx.up (fun _ kk => r_goto 58 dX12_readLine_25 (by decide) kk) ?_
      refine Sx.up (fun _ kk => r_istore_n 59 dX12_readLine_58 rfl (by decide) rfl kk) ?_
      refine Sx.up (fun _ kk => r_aload_n 60 dX12_readLine_59 rfl rfl kk) ?_
      refine Sx.up (fun _ kk => r_ldcwS (i := 35) 63 dX12_readLine_60 rfl rfl kk) ?_
      refine Sx.up (fun _ kk => r_callV (M := mX12_readLine) (pc := 63) 66 dX12_readLine_63 rfl k12_222 (md_is (d := d + 41) (i := 35) (q := ("SpoonRowModel", 287, "dog", w_dog)) y1 rfl) rfl rfl rfl (by decide) rfl lt95 (Nat.le_of_ble_eq_true rfl) kk) ?_
      refine Sx.up (fun _ kk => r_if_eq 69 73 dX12_readLine_66 rfl (by decide) (fun _ => kk) (fun h66 => absurd (bI_f n_dog) h66)) ?_
      refine Sx.up (fun _ kk => r_aload_n 74 dX12_readLine_73 rfl rfl kk) ?_
      refine Sx.up (fun _ kk => r_aload_n 75 dX12_readLine_74 rfl rfl kk) ?_
      refine Sx.up (fun _ kk => r_getR 78 dX12_readLine_75 rfl f12_17 rfl rfl lt95 (mo_0 (md_M y1)) kk) ?_
      refine Sx.up (fun _ kk => r_callV (M := mX12_readLine) (pc := 78) 81 dX12_readLine_78 rfl k12_245 hwh rfl rfl rfl (by decide) rfl lt95 (Nat.le_of_ble_eq_true rfl) kk) ?_
      refine Sx.up (fun _ kk => r_istore_n 82 dX12_readLine_81 rfl (by decide) rfl kk) ?_
      refine Sx.up (fun _ kk => r_iload_n 83 dX12_readLine_82 rfl rfl kk) ?_
      refine Sx.up (fun _ kk => r_iload_n 84 dX12_readLine_83 rfl rfl kk) ?_
      refine Sx.up (fun _ kk => r_iand 85 dX12_readLine_84 rfl kk) ?_
      refine Sx.up (fun _ kk => r_if_eq 88 93 dX12_readLine_85 rfl (by decide) (fun h85 => absurd h85 (fun z => ho (hkd.symm.trans z))) (fun _ => kk)) ?_
      refine Sx.up (fun _ kk => r_aload_n 89 dX12_readLine_88 rfl rfl kk) ?_
      refine Sx.up (fun _ kk => r_iconst (5) 90 dX12_readLine_89 rfl (by decide) kk) ?_
      obtain ⟨_, ⟨E9, rfl, y9⟩, hcl9⟩ := md_wrong (d := d + 45) y1 (k := 5) (k9 := 5) rfl (by decide) (by decide)
      refine Sx.up (fun _ kk => r_callV (M := mX12_readLine) (pc := 90) 93 dX12_readLine_90 rfl k12_229 hcl9 rfl rfl rfl (by decide) rfl lt95 (Nat.le_of_ble_eq_true rfl) kk) ?_
      refine Sx.up (fun _ kk => r_iload_n 94 dX12_readLine_93 rfl rfl kk) ?_
      refine Sx.up (fun _ kk => r_if_le 97 197 dX12_readLine_94 rfl (by decide) (fun h94 => absurd h94 (by decide)) (fun _ => kk)) ?_
      refine Sx.up (fun _ kk => r_aload_n 98 dX12_readLine_97 rfl rfl kk) ?_
      refine Sx.up (fun _ kk => r_getI 101 dX12_readLine_98 rfl f12_208 rfl rfl lt95 kk) ?_
      refine Sx.up (fun _ kk => r_if_ne 104 108 dX12_readLine_101 rfl (by decide) (fun _ => kk) (fun h101 => absurd h101 (md_1b y9))) ?_
      exact k108 E9 (by rw [on_b ho]; exact y9)
  by_cases n_awake : wdS T w_awake (.inr (a, B)) = true
  · have n_sleeper : ¬ wdS T w_sleeper (.inr (a, B)) = true := wd_no n_awake (by decide)
    have n_child : ¬ wdS T w_child (.inr (a, B)) = true := wd_no n_awake (by decide)
    have n_snorer : ¬ wdS T w_snorer (.inr (a, B)) = true := wd_no n_awake (by decide)
    have n_dog : ¬ wdS T w_dog (.inr (a, B)) = true := wd_no n_awake (by decide)
    have n_bolster : ¬ wdS T w_bolster (.inr (a, B)) = true := wd_no n_awake (by decide)
    have n_never : ¬ wdS T w_never (.inr (a, B)) = true := wd_no n_awake (by decide)
    have n_wakes : ¬ wdS T w_wakes (.inr (a, B)) = true := wd_no n_awake (by decide)
    have n_bed : ¬ wdS T w_bed (.inr (a, B)) = true := wd_no n_awake (by decide)
    have n_night : ¬ wdS T w_night (.inr (a, B)) = true := wd_no n_awake (by decide)
    have hwk : whF T (.inr (a, B)) w_kinds 0 = -1 := by unfold w_kinds; unfold whF; rw [if_neg n_sleeper]; unfold whF; rw [if_neg n_child]; unfold whF; rw [if_neg n_snorer]; rfl
    rw [hwk] at hwh
    have hln : lineS T (.inr (a, B)) = awS T (.inr (a, B)) := by unfold lineS; rw [if_neg n_sleeper, if_neg n_child, if_neg n_snorer, if_neg n_dog, if_neg n_bolster, if_neg n_never, if_neg n_wakes, if_neg n_bed, if_neg n_night, if_pos n_awake]
    have k108 : ∀ E, CMd E0 E T (onS T 4 (.inr (a, B))) → Sx mX12_readLine (d + 46) 0 0 (fun o => ∃ E2 v, o = (.inl (some (.int v)), E2, 137) ∧ CMd E0 E2 T (liS T (.inr (a, B))) ∧ (∀ a2 B2, liS T (.inr (a, B)) = .inr (a2, B2) → v = bX B2 5)) 108 [some (.ref 95), some (.int (bX B 5)), some (.int 4), some (.int (-1))] [] E 137 := by
      intro E y1
      refine Sx.up (fun _ kk => r_iload_n 109 dX12_readLine_108 rfl rfl kk) ?_
      refine Sx.up (fun _ kk => r_iconst (1) 110 dX12_readLine_109 rfl (by decide) kk) ?_
      refine Sx.up (fun _ kk => r_icmp_ne 113 144 dX12_readLine_110 rfl (by decide) (fun _ => kk) (fun h110 => absurd h110 (by decide))) ?_
      refine Sx.up (fun _ kk => r_iload_n 145 dX12_readLine_144 rfl rfl kk) ?_
      refine Sx.up (fun _ kk => r_iconst (2) 146 dX12_readLine_145 rfl (by decide) kk) ?_
      refine Sx.up (fun _ kk => r_icmp_ne 149 167 dX12_readLine_146 rfl (by decide) (fun _ => kk) (fun h146 => absurd h146 (by decide))) ?_
      refine Sx.up (fun _ kk => r_iload_n 168 dX12_readLine_167 rfl rfl kk) ?_
      refine Sx.up (fun _ kk => r_iconst (4) 169 dX12_readLine_168 rfl (by decide) kk) ?_
      refine Sx.up (fun _ kk => r_icmp_ne 172 189 dX12_readLine_169 rfl (by decide) (fun h169 => absurd h169 (fun z => z rfl)) (fun _ => kk)) ?_
      refine Sx.up (fun _ kk => r_aload_n 173 dX12_readLine_172 rfl rfl kk) ?_
      refine Sx.up (fun _ kk => r_getR 176 dX12_readLine_173 rfl f12_38 rfl rfl lt95 (mo_3 (by first | exact md_M y1 | exact md_M ys | exact md_M y1)) kk) ?_
      refine Sx.up (fun _ kk => r_bipush (12) 178 dX12_readLine_176 rfl (by decide) kk) ?_
      refine Sx.up (fun _ kk => r_aload_n 179 dX12_readLine_178 rfl rfl kk) ?_
      refine Sx.up (fun _ kk => r_iconst (0) 180 dX12_readLine_179 rfl (by decide) kk) ?_
      refine Sx.up (fun _ kk => r_bipush (60) 182 dX12_readLine_180 rfl (by decide) kk) ?_
      obtain ⟨_, ⟨E2, v2, rfl, y2, hv2, w2⟩, hcl2⟩ := md_rnM (d := d + 43) (lo := 0) (hi := 60) y1 rfl rfl (by decide) (by decide)
      refine Sx.up (fun _ kk => r_callV (M := mX12_readLine) (pc := 182) 185 dX12_readLine_182 rfl k12_239 hcl2 rfl rfl rfl (by decide) rfl lt95 (Nat.le_of_ble_eq_true rfl) kk) ?_
      have yt := md_scal (i := 3) (v := v2) y2 (by decide)
      rw [scs_eq hv2] at yt
      refine Sx.up (fun _ kk => r_iastN (12) 186 dX12_readLine_185 rfl rfl (Nat.le_of_ble_eq_true rfl) (by decide) (Nat.le_of_ble_eq_true rfl) (Nat.le_of_ble_eq_true rfl) kk) ?_
      refine Sx.up (fun _ kk => r_goto 253 dX12_readLine_186 (by decide) kk) ?_
      exact k253 4 _ _ _ yt hln (x5_sc (by decide) (x5_tk (x5_on hx5)))
    have hkd : (4 : Int32) &&& bX B 5 = bX B 5 &&& 4 := Int32.and_comm _ _
    by_cases ho : bX B 5 &&& 4 = 0
    · refine Sx.up (fun _ kk => r_aload_n 1 dX12_readLine_0 rfl rfl kk) ?_
      refine Sx.up (fun _ kk => r_ldcwS (i := 31) 4 dX12_readLine_1 rfl rfl kk) ?_
      refine Sx.up (fun _ kk => r_callV (M := mX12_readLine) (pc := 4) 7 dX12_readLine_4 rfl k12_222 (md_is (d := d + 41) (i := 31) (q := ("SpoonRowModel", 279, "bed", w_bed)) y1 rfl) rfl rfl rfl (by decide) rfl lt95 (Nat.le_of_ble_eq_true rfl) kk) ?_
      refine Sx.up (fun _ kk => r_if_eq 10 14 dX12_readLine_7 rfl (by decide) (fun _ => kk) (fun h7 => absurd (bI_f n_bed) h7)) ?_
      refine Sx.up (fun _ kk => r_aload_n 15 dX12_readLine_14 rfl rfl kk) ?_
      refine Sx.up (fun _ kk => r_ldcwS (i := 32) 18 dX12_readLine_15 rfl rfl kk) ?_
      refine Sx.up (fun _ kk => r_callV (M := mX12_readLine) (pc := 18) 21 dX12_readLine_18 rfl k12_222 (md_is (d := d + 41) (i := 32) (q := ("SpoonRowModel", 281, "night", w_night)) y1 rfl) rfl rfl rfl (by decide) rfl lt95 (Nat.le_of_ble_eq_true rfl) kk) ?_
      refine Sx.up (fun _ kk => r_if_eq 24 28 dX12_readLine_21 rfl (by decide) (fun _ => kk) (fun h21 => absurd (bI_f n_night) h21)) ?_
      refine Sx.up (fun _ kk => r_aload_n 29 dX12_readLine_28 rfl rfl kk) ?_
      refine Sx.up (fun _ kk => r_ldcwS (i := 33) 32 dX12_readLine_29 rfl rfl kk) ?_
      refine Sx.up (fun _ kk => r_callV (M := mX12_readLine) (pc := 32) 35 dX12_readLine_32 rfl k12_222 (md_is (d := d + 41) (i := 33) (q := ("SpoonRowModel", 283, "awake", w_awake)) y1 rfl) rfl rfl rfl (by decide) rfl lt95 (Nat.le_of_ble_eq_true rfl) kk) ?_
      refine Sx.up (fun _ kk => r_if_eq 38 42 dX12_readLine_35 rfl (by decide) (fun h35 => absurd h35 (by rw [bI_t n_awake]; decide)) (fun _ => kk)) ?_
      refine Sx.up (fun _ kk => r_iconst (4) 39 dX12_readLine_38 rfl (by decide) kk) ?_
      refine Sx.up (fun _ kk => r_goto 58 dX12_readLine_39 (by decide) kk) ?_
      refine Sx.up (fun _ kk => r_istore_n 59 dX12_readLine_58 rfl (by decide) rfl kk) ?_
      refine Sx.up (fun _ kk => r_aload_n 60 dX12_readLine_59 rfl rfl kk) ?_
      refine Sx.up (fun _ kk => r_ldcwS (i := 35) 63 dX12_readLine_60 rfl rfl kk) ?_
      refine Sx.up (fun _ kk => r_callV (M := mX12_readLine) (pc := 63) 66 dX12_readLine_63 rfl k12_222 (md_is (d := d + 41) (i := 35) (q := ("SpoonRowModel", 287, "dog", w_dog)) y1 rfl) rfl rfl rfl (by decide) rfl lt95 (Nat.le_of_ble_eq_true rfl) kk) ?_
      refine Sx.up (fun _ kk => r_if_eq 69 73 dX12_readLine_66 rfl (by decide) (fun _ => kk) (fun h66 => absurd (bI_f n_dog) h66)) ?_
      refine Sx.up (fun _ kk => r_aload_n 74 dX12_readLine_73 rfl rfl kk) ?_
      refine Sx.up (fun _ kk => r_aload_n 75 dX12_readLine_74 rfl rfl kk) ?_
      refine Sx.up (fun _ kk => r_getR 78 dX12_readLine_75 rfl f12_17 rfl rfl lt95 (mo_0 (md_M y1)) kk) ?_
      refine Sx.up (fun _ kk => r_callV (M := mX12_readLine) (pc := 78) 81 dX12_readLine_78 rfl k12_245 hwh rfl rfl rfl (by decide) rfl lt95 (Nat.le_of_ble_eq_true rfl) kk) ?_
      refine Sx.up (fun _ kk => r_istore_n 82 dX12_readLine_81 rfl (by decide) rfl kk) ?_
      refine Sx.up (fun _ kk => r_iload_n 83 dX12_readLine_82 rfl rfl kk) ?_
      refine Sx.up (fun _ kk => r_iload_n 84 dX12_readLine_83 rfl rfl kk) ?_
      refine Sx.up (fun _ kk => r_iand 85 dX12_readLine_84 rfl kk) ?_
      refine Sx.up (fun _ kk => r_if_eq 88 93 dX12_readLine_85 rfl (by decide) (fun _ => kk) (fun h85 => absurd (hkd.trans ho) h85)) ?_
      refine Sx.up (fun _ kk => r_iload_n 94 dX12_readLine_93 rfl rfl kk) ?_
      refine Sx.up (fun _ kk => r_if_le 97 197 dX12_readLine_94 rfl (by decide) (fun h94 => absurd h94 (by decide)) (fun _ => kk)) ?_
      refine Sx.up (fun _ kk => r_aload_n 98 dX12_readLine_97 rfl rfl kk) ?_
      refine Sx.up (fun _ kk => r_getI 101 dX12_readLine_98 rfl f12_208 rfl rfl lt95 kk) ?_
      refine Sx.up (fun _ kk => r_if_ne 104 108 dX12_readLine_101 rfl (by decide) (fun h101 => absurd h101 (fun z => z hb1)) (fun _ => kk)) ?_
      refine Sx.up (fun _ kk => r_aload_n 105 dX12_readLine_104 rfl rfl kk) ?_
      obtain ⟨_, ⟨E9, rfl, y9⟩, hcl9⟩ := md_adv (d := d + 44) y1 ⟨_, rfl⟩
      have y9 := md_set5 (v := bX B 5 ||| 4) y9
      refine Sx.up (fun _ kk => r_callV (M := mX12_readLine) (pc := 105) 108 dX12_readLine_105 rfl k12_233 hcl9 rfl rfl rfl (by decide) rfl lt95 (Nat.le_of_ble_eq_true rfl) kk) ?_
      exact k108 E9 (by rw [on_a ho]; exact y9)
    · refine Sx.up (fun _ kk => r_aload_n 1 dX12_readLine_0 rfl rfl kk) ?_
      refine Sx.up (fun _ kk => r_ldcwS (i := 31) 4 dX12_readLine_1 rfl rfl kk) ?_
      refine Sx.up (fun _ kk => r_callV (M := mX12_readLine) (pc := 4) 7 dX12_readLine_4 rfl k12_222 (md_is (d := d + 41) (i := 31) (q := ("SpoonRowModel", 279, "bed", w_bed)) y1 rfl) rfl rfl rfl (by decide) rfl lt95 (Nat.le_of_ble_eq_true rfl) kk) ?_
      refine Sx.up (fun _ kk => r_if_eq 10 14 dX12_readLine_7 rfl (by decide) (fun _ => kk) (fun h7 => absurd (bI_f n_bed) h7)) ?_
      refine Sx.up (fun _ kk => r_aload_n 15 dX12_readLine_14 rfl rfl kk) ?_
      refine Sx.up (fun _ kk => r_ldcwS (i := 32) 18 dX12_readLine_15 rfl rfl kk) ?_
      refine Sx.up (fun _ kk => r_callV (M := mX12_readLine) (pc := 18) 21 dX12_readLine_18 rfl k12_222 (md_is (d := d + 41) (i := 32) (q := ("SpoonRowModel", 281, "night", w_night)) y1 rfl) rfl rfl rfl (by decide) rfl lt95 (Nat.le_of_ble_eq_true rfl) kk) ?_
      refine Sx.up (fun _ kk => r_if_eq 24 28 dX12_readLine_21 rfl (by decide) (fun _ => kk) (fun h21 => absurd (bI_f n_night) h21)) ?_
      refine Sx.up (fun _ kk => r_aload_n 29 dX12_readLine_28 rfl rfl kk) ?_
      refine Sx.up (fun _ kk => r_ldcwS (i := 33) 32 dX12_readLine_29 rfl rfl kk) ?_
      refine Sx.up (fun _ kk => r_callV (M := mX12_readLine) (pc := 32) 35 dX12_readLine_32 rfl k12_222 (md_is (d := d + 41) (i := 33) (q := ("SpoonRowModel", 283, "awake", w_awake)) y1 rfl) rfl rfl rfl (by decide) rfl lt95 (Nat.le_of_ble_eq_true rfl) kk) ?_
      refine Sx.up (fun _ kk => r_if_eq 38 42 dX12_readLine_35 rfl (by decide) (fun h35 => absurd h35 (by rw [bI_t n_awake]; decide)) (fun _ => kk)) ?_
      refine Sx.up (fun _ kk => r_iconst (4) 39 dX12_readLine_38 rfl (by decide) kk) ?_
      refine Sx.up (fun _ kk => r_goto 58 dX12_readLine_39 (by decide) kk) ?_
      refine Sx.up (fun _ kk => r_istore_n 59 dX12_readLine_58 rfl (by decide) rfl kk) ?_
      refine Sx.up (fun _ kk => r_aload_n 60 dX12_readLine_59 rfl rfl kk) ?_
      refine Sx.up (fun _ kk => r_ldcwS (i := 35) 63 dX12_readLine_60 rfl rfl kk) ?_
      refine Sx.up (fun _ kk => r_callV (M := mX12_readLine) (pc := 63) 66 dX12_readLine_63 rfl k12_222 (md_is (d := d + 41) (i := 35) (q := ("SpoonRowModel", 287, "dog", w_dog)) y1 rfl) rfl rfl rfl (by decide) rfl lt95 (Nat.le_of_ble_eq_true rfl) kk) ?_
      refine Sx.up (fun _ kk => r_if_eq 69 73 dX12_readLine_66 rfl (by decide) (fun _ => kk) (fun h66 => absurd (bI_f n_dog) h66)) ?_
      refine Sx.up (fun _ kk => r_aload_n 74 dX12_readLine_73 rfl rfl kk) ?_
      refine Sx.up (fun _ kk => r_aload_n 75 dX12_readLine_74 rfl rfl kk) ?_
      refine Sx.up (fun _ kk => r_getR 78 dX12_readLine_75 rfl f12_17 rfl rfl lt95 (mo_0 (md_M y1)) kk) ?_
      refine Sx.up (fun _ kk => r_callV (M := mX12_readLine) (pc := 78) 81 dX12_readLine_78 rfl k12_245 hwh rfl rfl rfl (by decide) rfl lt95 (Nat.le_of_ble_eq_true rfl) kk) ?_
      refine Sx.up (fun _ kk => r_istore_n 82 dX12_readLine_81 rfl (by decide) rfl kk) ?_
      refine Sx.up (fun _ kk => r_iload_n 83 dX12_readLine_82 rfl rfl kk) ?_
      refine Sx.up (fun _ kk => r_iload_n 84 dX12_readLine_83 rfl rfl kk) ?_
      refine Sx.up (fun _ kk => r_iand 85 dX12_readLine_84 rfl kk) ?_
      refine Sx.up (fun _ kk => r_if_eq 88 93 dX12_readLine_85 rfl (by decide) (fun h85 => absurd h85 (fun z => ho (hkd.symm.trans z))) (fun _ => kk)) ?_
      refine Sx.up (fun _ kk => r_aload_n 89 dX12_readLine_88 rfl rfl kk) ?_
      refine Sx.up (fun _ kk => r_iconst (5) 90 dX12_readLine_89 rfl (by decide) kk) ?_
      obtain ⟨_, ⟨E9, rfl, y9⟩, hcl9⟩ := md_wrong (d := d + 45) y1 (k := 5) (k9 := 5) rfl (by decide) (by decide)
      refine Sx.up (fun _ kk => r_callV (M := mX12_readLine) (pc := 90) 93 dX12_readLine_90 rfl k12_229 hcl9 rfl rfl rfl (by decide) rfl lt95 (Nat.le_of_ble_eq_true rfl) kk) ?_
      refine Sx.up (fun _ kk => r_iload_n 94 dX12_readLine_93 rfl rfl kk) ?_
      refine Sx.up (fun _ kk => r_if_le 97 197 dX12_readLine_94 rfl (by decide) (fun h94 => absurd h94 (by decide)) (fun _ => kk)) ?_
      refine Sx.up (fun _ kk => r_aload_n 98 dX12_readLine_97 rfl rfl kk) ?_
      refine Sx.up (fun _ kk => r_getI 101 dX12_readLine_98 rfl f12_208 rfl rfl lt95 kk) ?_
      refine Sx.up (fun _ kk => r_if_ne 104 108 dX12_readLine_101 rfl (by decide) (fun _ => kk) (fun h101 => absurd h101 (md_1b y9))) ?_
      exact k108 E9 (by rw [on_b ho]; exact y9)
  have hwk : whF T (.inr (a, B)) w_kinds 0 = -1 := by unfold w_kinds; unfold whF; rw [if_neg n_sleeper]; unfold whF; rw [if_neg n_child]; unfold whF; rw [if_neg n_snorer]; rfl
  rw [hwk] at hwh
  have hln : lineS T (.inr (a, B)) = fltS 1 (.inr (a, B)) := by unfold lineS; rw [if_neg n_sleeper, if_neg n_child, if_neg n_snorer, if_neg n_dog, if_neg n_bolster, if_neg n_never, if_neg n_wakes, if_neg n_bed, if_neg n_night, if_neg n_awake]
  refine Sx.up (fun _ kk => r_aload_n 1 dX12_readLine_0 rfl rfl kk) ?_
  refine Sx.up (fun _ kk => r_ldcwS (i := 31) 4 dX12_readLine_1 rfl rfl kk) ?_
  refine Sx.up (fun _ kk => r_callV (M := mX12_readLine) (pc := 4) 7 dX12_readLine_4 rfl k12_222 (md_is (d := d + 41) (i := 31) (q := ("SpoonRowModel", 279, "bed", w_bed)) y1 rfl) rfl rfl rfl (by decide) rfl lt95 (Nat.le_of_ble_eq_true rfl) kk) ?_
  refine Sx.up (fun _ kk => r_if_eq 10 14 dX12_readLine_7 rfl (by decide) (fun _ => kk) (fun h7 => absurd (bI_f n_bed) h7)) ?_
  refine Sx.up (fun _ kk => r_aload_n 15 dX12_readLine_14 rfl rfl kk) ?_
  refine Sx.up (fun _ kk => r_ldcwS (i := 32) 18 dX12_readLine_15 rfl rfl kk) ?_
  refine Sx.up (fun _ kk => r_callV (M := mX12_readLine) (pc := 18) 21 dX12_readLine_18 rfl k12_222 (md_is (d := d + 41) (i := 32) (q := ("SpoonRowModel", 281, "night", w_night)) y1 rfl) rfl rfl rfl (by decide) rfl lt95 (Nat.le_of_ble_eq_true rfl) kk) ?_
  refine Sx.up (fun _ kk => r_if_eq 24 28 dX12_readLine_21 rfl (by decide) (fun _ => kk) (fun h21 => absurd (bI_f n_night) h21)) ?_
  refine Sx.up (fun _ kk => r_aload_n 29 dX12_readLine_28 rfl rfl kk) ?_
  refine Sx.up (fun _ kk => r_ldcwS (i := 33) 32 dX12_readLine_29 rfl rfl kk) ?_
  refine Sx.up (fun _ kk => r_callV (M := mX12_readLine) (pc := 32) 35 dX12_readLine_32 rfl k12_222 (md_is (d := d + 41) (i := 33) (q := ("SpoonRowModel", 283, "awake", w_awake)) y1 rfl) rfl rfl rfl (by decide) rfl lt95 (Nat.le_of_ble_eq_true rfl) kk) ?_
  refine Sx.up (fun _ kk => r_if_eq 38 42 dX12_readLine_35 rfl (by decide) (fun _ => kk) (fun h35 => absurd (bI_f n_awake) h35)) ?_
  refine Sx.up (fun _ kk => r_aload_n 43 dX12_readLine_42 rfl rfl kk) ?_
  refine Sx.up (fun _ kk => r_ldcwS (i := 34) 46 dX12_readLine_43 rfl rfl kk) ?_
  refine Sx.up (fun _ kk => r_callV (M := mX12_readLine) (pc := 46) 49 dX12_readLine_46 rfl k12_222 (md_is (d := d + 41) (i := 34) (q := ("SpoonRowModel", 285, "wakes", w_wakes)) y1 rfl) rfl rfl rfl (by decide) rfl lt95 (Nat.le_of_ble_eq_true rfl) kk) ?_
  refine Sx.up (fun _ kk => r_if_eq 52 57 dX12_readLine_49 rfl (by decide) (fun _ => kk) (fun h49 => absurd (bI_f n_wakes) h49)) ?_
  refine Sx.up (fun _ kk => r_iconst (0) 58 dX12_readLine_57 rfl (by decide) kk) ?_
  refine Sx.up (fun _ kk => r_istore_n 59 dX12_readLine_58 rfl (by decide) rfl kk) ?_
  refine Sx.up (fun _ kk => r_aload_n 60 dX12_readLine_59 rfl rfl kk) ?_
  refine Sx.up (fun _ kk => r_ldcwS (i := 35) 63 dX12_readLine_60 rfl rfl kk) ?_
  refine Sx.up (fun _ kk => r_callV (M := mX12_readLine) (pc := 63) 66 dX12_readLine_63 rfl k12_222 (md_is (d := d + 41) (i := 35) (q := ("SpoonRowModel", 287, "dog", w_dog)) y1 rfl) rfl rfl rfl (by decide) rfl lt95 (Nat.le_of_ble_eq_true rfl) kk) ?_
  refine Sx.up (fun _ kk => r_if_eq 69 73 dX12_readLine_66 rfl (by decide) (fun _ => kk) (fun h66 => absurd (bI_f n_dog) h66)) ?_
  refine Sx.up (fun _ kk => r_aload_n 74 dX12_readLine_73 rfl rfl kk) ?_
  refine Sx.up (fun _ kk => r_aload_n 75 dX12_readLine_74 rfl rfl kk) ?_
  refine Sx.up (fun _ kk => r_getR 78 dX12_readLine_75 rfl f12_17 rfl rfl lt95 (mo_0 (md_M y1)) kk) ?_
  refine Sx.up (fun _ kk => r_callV (M := mX12_readLine) (pc := 78) 81 dX12_readLine_78 rfl k12_245 hwh rfl rfl rfl (by decide) rfl lt95 (Nat.le_of_ble_eq_true rfl) kk) ?_
  refine Sx.up (fun _ kk => r_istore_n 82 dX12_readLine_81 rfl (by decide) rfl kk) ?_
  refine Sx.up (fun _ kk => r_iload_n 83 dX12_readLine_82 rfl rfl kk) ?_
  refine Sx.up (fun _ kk => r_iload_n 84 dX12_readLine_83 rfl rfl kk) ?_
  refine Sx.up (fun _ kk => r_iand 85 dX12_readLine_84 rfl kk) ?_
  refine Sx.up (fun _ kk => r_if_eq 88 93 dX12_readLine_85 rfl (by decide) (fun _ => kk) (fun h85 => absurd (Int32.zero_and) h85)) ?_
  refine Sx.up (fun _ kk => r_iload_n 94 dX12_readLine_93 rfl rfl kk) ?_
  refine Sx.up (fun _ kk => r_if_le 97 197 dX12_readLine_94 rfl (by decide) (fun _ => kk) (fun h94 => absurd (by decide) h94)) ?_
  refine Sx.up (fun _ kk => r_iload_n 198 dX12_readLine_197 rfl rfl kk) ?_
  refine Sx.up (fun _ kk => r_iconst (-1) 199 dX12_readLine_198 rfl (by decide) kk) ?_
  refine Sx.up (fun _ kk => r_icmp_eq 202 210 dX12_readLine_199 rfl (by decide) (fun _ => kk) (fun h199 => absurd rfl h199)) ?_
  refine Sx.up (fun _ kk => r_aload_n 211 dX12_readLine_210 rfl rfl kk) ?_
  refine Sx.up (fun _ kk => r_ldcwS (i := 39) 214 dX12_readLine_211 rfl rfl kk) ?_
  refine Sx.up (fun _ kk => r_callV (M := mX12_readLine) (pc := 214) 217 dX12_readLine_214 rfl k12_222 (md_is (d := d + 41) (i := 39) (q := ("SpoonRowModel", 292, "bolster", w_bolster)) y1 rfl) rfl rfl rfl (by decide) rfl lt95 (Nat.le_of_ble_eq_true rfl) kk) ?_
  refine Sx.up (fun _ kk => r_if_eq 220 227 dX12_readLine_217 rfl (by decide) (fun _ => kk) (fun h217 => absurd (bI_f n_bolster) h217)) ?_
  refine Sx.up (fun _ kk => r_aload_n 228 dX12_readLine_227 rfl rfl kk) ?_
  refine Sx.up (fun _ kk => r_ldcwS (i := 40) 231 dX12_readLine_228 rfl rfl kk) ?_
  refine Sx.up (fun _ kk => r_callV (M := mX12_readLine) (pc := 231) 234 dX12_readLine_231 rfl k12_222 (md_is (d := d + 41) (i := 40) (q := ("SpoonRowModel", 297, "never", w_never)) y1 rfl) rfl rfl rfl (by decide) rfl lt95 (Nat.le_of_ble_eq_true rfl) kk) ?_
  refine Sx.up (fun _ kk => r_if_ne 237 242 dX12_readLine_234 rfl (by decide) (fun h234 => absurd h234 (fun z => z (bI_f n_never))) (fun _ => kk)) ?_
  refine Sx.up (fun _ kk => r_aload_n 238 dX12_readLine_237 rfl rfl kk) ?_
  refine Sx.up (fun _ kk => r_iconst (1) 239 dX12_readLine_238 rfl (by decide) kk) ?_
  obtain ⟨_, ⟨E9, rfl, y9⟩, hcl9⟩ := md_wrong (d := d + 45) y1 (k := 1) (k9 := 1) rfl (by decide) (by decide)
  refine Sx.up (fun _ kk => r_callV (M := mX12_readLine) (pc := 239) 242 dX12_readLine_239 rfl k12_229 hcl9 rfl rfl rfl (by decide) rfl lt95 (Nat.le_of_ble_eq_true rfl) kk) ?_
  refine Sx.up (fun _ kk => r_aload_n 243 dX12_readLine_242 rfl rfl kk) ?_
  refine Sx.up (fun _ kk => r_getI 246 dX12_readLine_243 rfl f12_208 rfl rfl lt95 kk) ?_
  refine Sx.up (fun _ kk => r_if_ne 249 253 dX12_readLine_246 rfl (by decide) (fun _ => kk) (fun h246 => absurd h246 (md_1b y9))) ?_
  exact k253 0 E9 _ _ y9 hln (by rw [show bX B 5 ||| 0 = bX B 5 from Int32.or_zero]; exact x5_flt)
