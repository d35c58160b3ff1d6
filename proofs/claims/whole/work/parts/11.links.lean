/-! references of the classes: fields (f), methods (k), classes (n), constants (c) -/
theorem n13_8 : NP 13 8 11 := ⟨by decide, tb_of 127 (by decide +kernel) (by decide +kernel), tb_of 128 (by decide +kernel) (by decide +kernel), tb_of 102 (by decide +kernel) (by decide +kernel)⟩
theorem nl13_8 : Cond.classLink (cn 13) 8 "SpoonRow" ∈ TB := tb_of 127 (by decide +kernel) (by decide +kernel)
theorem k13_73 : LI 13 73 0 yX11_init mX11_init := ⟨Or.inl (tb_of 129 (by decide +kernel) (by decide +kernel)), t_X11_init⟩
theorem k11_1 : Cond.methodLink (cn 11) 1 objectInit ∈ TB := tb_of 132 (by decide +kernel) (by decide +kernel)
theorem n11_7 : NP 11 7 6 := ⟨by decide, tb_of 135 (by decide +kernel) (by decide +kernel), tb_of 136 (by decide +kernel) (by decide +kernel), tb_of 103 (by decide +kernel) (by decide +kernel)⟩
theorem nl11_7 : Cond.classLink (cn 11) 7 "SpoonRow$Row" ∈ TB := tb_of 135 (by decide +kernel) (by decide +kernel)
theorem k11_11 : LI 11 11 1 yX6_init mX6_init := ⟨Or.inl (tb_of 137 (by decide +kernel) (by decide +kernel)), t_X6_init⟩
theorem k6_1 : Cond.methodLink (cn 6) 1 objectInit ∈ TB := tb_of 140 (by decide +kernel) (by decide +kernel)
theorem f6_7 : FP 6 7 6 0 768 (.array .int) true := ⟨by decide, by decide, rfl, rfl, rfl, Or.inl (tb_of 141 (by decide +kernel) (by decide +kernel))⟩
theorem ff6_7 : (clT 6 0).1 = cn 6 ∧ Cond.fieldLink (cn 6) 7 (clT 6 0).1 (clT 6 0).2.1 (clT 6 0).2.2.1 ∈ TB := ⟨rfl, tb_of 141 (by decide +kernel) (by decide +kernel)⟩
theorem n11_25 : NP 11 25 0 := ⟨by decide, tb_of 146 (by decide +kernel) (by decide +kernel), tb_of 147 (by decide +kernel) (by decide +kernel), tb_of 104 (by decide +kernel) (by decide +kernel)⟩
theorem nl11_25 : Cond.classLink (cn 11) 25 "SpoonRow$Bed" ∈ TB := tb_of 146 (by decide +kernel) (by decide +kernel)
theorem k11_27 : LI 11 27 0 yX0_init mX0_init := ⟨Or.inl (tb_of 148 (by decide +kernel) (by decide +kernel)), t_X0_init⟩
theorem k0_3 : Cond.methodLink (cn 0) 3 objectInit ∈ TB := tb_of 151 (by decide +kernel) (by decide +kernel)
theorem n0_9 : NP 0 9 8 := ⟨by decide, tb_of 152 (by decide +kernel) (by decide +kernel), tb_of 153 (by decide +kernel) (by decide +kernel), tb_of 105 (by decide +kernel) (by decide +kernel)⟩
theorem nl0_9 : Cond.classLink (cn 0) 9 "SpoonRow$Sleeper" ∈ TB := tb_of 152 (by decide +kernel) (by decide +kernel)
theorem k0_11 : LI 0 11 0 yX8_init mX8_init := ⟨Or.inr ⟨_, List.mem_of_getElem? (i := 0) rfl⟩, t_X8_init⟩
theorem k8_3 : Cond.methodLink (cn 8) 3 objectInit ∈ TB := tb_of 157 (by decide +kernel) (by decide +kernel)
theorem f8_9 : FP 8 9 8 0 1024 .int false := ⟨by decide, by decide, rfl, rfl, rfl, Or.inl (tb_of 158 (by decide +kernel) (by decide +kernel))⟩
theorem f1_48 : FP 1 48 8 0 1024 .int false := ⟨by decide, by decide, rfl, rfl, rfl, Or.inr ⟨_, List.mem_of_getElem? (i := 0) rfl⟩⟩
theorem f2_125 : FP 2 125 8 0 1024 .int false := ⟨by decide, by decide, rfl, rfl, rfl, Or.inr ⟨_, List.mem_of_getElem? (i := 1) rfl⟩⟩
theorem f11_163 : FP 11 163 8 0 1024 .int false := ⟨by decide, by decide, rfl, rfl, rfl, Or.inr ⟨_, List.mem_of_getElem? (i := 2) rfl⟩⟩
theorem f4_86 : FP 4 86 8 0 1024 .int false := ⟨by decide, by decide, rfl, rfl, rfl, Or.inr ⟨_, List.mem_of_getElem? (i := 3) rfl⟩⟩
theorem f8_15 : FP 8 15 8 1 1025 .int false := ⟨by decide, by decide, rfl, rfl, rfl, Or.inl (tb_of 163 (by decide +kernel) (by decide +kernel))⟩
theorem f1_40 : FP 1 40 8 1 1025 .int false := ⟨by decide, by decide, rfl, rfl, rfl, Or.inr ⟨_, List.mem_of_getElem? (i := 4) rfl⟩⟩
theorem f11_168 : FP 11 168 8 1 1025 .int false := ⟨by decide, by decide, rfl, rfl, rfl, Or.inr ⟨_, List.mem_of_getElem? (i := 5) rfl⟩⟩
theorem f8_18 : FP 8 18 8 2 1026 .int false := ⟨by decide, by decide, rfl, rfl, rfl, Or.inl (tb_of 166 (by decide +kernel) (by decide +kernel))⟩
theorem f1_45 : FP 1 45 8 2 1026 .int false := ⟨by decide, by decide, rfl, rfl, rfl, Or.inr ⟨_, List.mem_of_getElem? (i := 6) rfl⟩⟩
theorem f11_171 : FP 11 171 8 2 1026 .int false := ⟨by decide, by decide, rfl, rfl, rfl, Or.inr ⟨_, List.mem_of_getElem? (i := 7) rfl⟩⟩
theorem f8_21 : FP 8 21 8 3 1027 .int false := ⟨by decide, by decide, rfl, rfl, rfl, Or.inl (tb_of 169 (by decide +kernel) (by decide +kernel))⟩
theorem f11_174 : FP 11 174 8 3 1027 .int false := ⟨by decide, by decide, rfl, rfl, rfl, Or.inr ⟨_, List.mem_of_getElem? (i := 8) rfl⟩⟩
theorem f2_217 : FP 2 217 8 3 1027 .int false := ⟨by decide, by decide, rfl, rfl, rfl, Or.inr ⟨_, List.mem_of_getElem? (i := 9) rfl⟩⟩
theorem f8_24 : FP 8 24 8 4 1028 .int false := ⟨by decide, by decide, rfl, rfl, rfl, Or.inl (tb_of 172 (by decide +kernel) (by decide +kernel))⟩
theorem f0_93 : FP 0 93 8 4 1028 .int false := ⟨by decide, by decide, rfl, rfl, rfl, Or.inr ⟨_, List.mem_of_getElem? (i := 10) rfl⟩⟩
theorem f11_177 : FP 11 177 8 4 1028 .int false := ⟨by decide, by decide, rfl, rfl, rfl, Or.inr ⟨_, List.mem_of_getElem? (i := 11) rfl⟩⟩
theorem f8_27 : FP 8 27 8 5 1029 .int false := ⟨by decide, by decide, rfl, rfl, rfl, Or.inl (tb_of 175 (by decide +kernel) (by decide +kernel))⟩
theorem f4_55 : FP 4 55 8 5 1029 .int false := ⟨by decide, by decide, rfl, rfl, rfl, Or.inr ⟨_, List.mem_of_getElem? (i := 12) rfl⟩⟩
theorem f8_30 : FP 8 30 8 6 1030 .int false := ⟨by decide, by decide, rfl, rfl, rfl, Or.inl (tb_of 177 (by decide +kernel) (by decide +kernel))⟩
theorem f11_183 : FP 11 183 8 6 1030 .int false := ⟨by decide, by decide, rfl, rfl, rfl, Or.inr ⟨_, List.mem_of_getElem? (i := 13) rfl⟩⟩
theorem f0_96 : FP 0 96 8 6 1030 .int false := ⟨by decide, by decide, rfl, rfl, rfl, Or.inr ⟨_, List.mem_of_getElem? (i := 14) rfl⟩⟩
theorem f4_96 : FP 4 96 8 6 1030 .int false := ⟨by decide, by decide, rfl, rfl, rfl, Or.inr ⟨_, List.mem_of_getElem? (i := 15) rfl⟩⟩
theorem n0_22 : NP 0 22 6 := ⟨by decide, tb_of 197 (by decide +kernel) (by decide +kernel), tb_of 136 (by decide +kernel) (by decide +kernel), tb_of 103 (by decide +kernel) (by decide +kernel)⟩
theorem nl0_22 : Cond.classLink (cn 0) 22 "SpoonRow$Row" ∈ TB := tb_of 197 (by decide +kernel) (by decide +kernel)
theorem k0_24 : LI 0 24 1 yX6_init mX6_init := ⟨Or.inl (tb_of 198 (by decide +kernel) (by decide +kernel)), t_X6_init⟩
theorem n0_31 : NP 0 31 7 := ⟨by decide, tb_of 199 (by decide +kernel) (by decide +kernel), tb_of 200 (by decide +kernel) (by decide +kernel), tb_of 106 (by decide +kernel) (by decide +kernel)⟩
theorem nl0_31 : Cond.classLink (cn 0) 31 "SpoonRow$Rule" ∈ TB := tb_of 199 (by decide +kernel) (by decide +kernel)
theorem k0_33 : LI 0 33 0 yX7_init mX7_init := ⟨Or.inr ⟨_, List.mem_of_getElem? (i := 1) rfl⟩, t_X7_init⟩
theorem k7_3 : Cond.methodLink (cn 7) 3 objectInit ∈ TB := tb_of 204 (by decide +kernel) (by decide +kernel)
theorem n7_9 : NP 7 9 6 := ⟨by decide, tb_of 205 (by decide +kernel) (by decide +kernel), tb_of 136 (by decide +kernel) (by decide +kernel), tb_of 103 (by decide +kernel) (by decide +kernel)⟩
theorem nl7_9 : Cond.classLink (cn 7) 9 "SpoonRow$Row" ∈ TB := tb_of 205 (by decide +kernel) (by decide +kernel)
theorem k7_11 : LI 7 11 1 yX6_init mX6_init := ⟨Or.inl (tb_of 206 (by decide +kernel) (by decide +kernel)), t_X6_init⟩
theorem f7_14 : FP 7 14 7 0 896 (.object "SpoonRow$Row") true := ⟨by decide, by decide, rfl, rfl, rfl, Or.inl (tb_of 207 (by decide +kernel) (by decide +kernel))⟩
theorem ff7_14 : (clT 7 0).1 = cn 7 ∧ Cond.fieldLink (cn 7) 14 (clT 7 0).1 (clT 7 0).2.1 (clT 7 0).2.2.1 ∈ TB := ⟨rfl, tb_of 207 (by decide +kernel) (by decide +kernel)⟩
theorem f7_20 : FP 7 20 7 1 897 .int false := ⟨by decide, by decide, rfl, rfl, rfl, Or.inl (tb_of 208 (by decide +kernel) (by decide +kernel))⟩
theorem f7_24 : FP 7 24 7 2 898 (.object "SpoonRow$Row") true := ⟨by decide, by decide, rfl, rfl, rfl, Or.inl (tb_of 209 (by decide +kernel) (by decide +kernel))⟩
theorem ff7_24 : (clT 7 2).1 = cn 7 ∧ Cond.fieldLink (cn 7) 24 (clT 7 2).1 (clT 7 2).2.1 (clT 7 2).2.2.1 ∈ TB := ⟨rfl, tb_of 209 (by decide +kernel) (by decide +kernel)⟩
theorem f7_27 : FP 7 27 7 3 899 (.object "SpoonRow$Row") true := ⟨by decide, by decide, rfl, rfl, rfl, Or.inl (tb_of 210 (by decide +kernel) (by decide +kernel))⟩
theorem ff7_27 : (clT 7 3).1 = cn 7 ∧ Cond.fieldLink (cn 7) 27 (clT 7 3).1 (clT 7 3).2.1 (clT 7 3).2.2.1 ∈ TB := ⟨rfl, tb_of 210 (by decide +kernel) (by decide +kernel)⟩
theorem k0_38 : LV 0 38 0 yX0_makeAnew mX0_makeAnew := ⟨tb_of 220 (by decide +kernel) (by decide +kernel), t_X0_makeAnew⟩
theorem k0_41 : LV 0 41 1 yX6_fill mX6_fill := ⟨tb_of 224 (by decide +kernel) (by decide +kernel), t_X6_fill⟩
theorem k0_44 : LV 0 44 0 yX7_clear mX7_clear := ⟨tb_of 228 (by decide +kernel) (by decide +kernel), t_X7_clear⟩
theorem f0_12 : FP 0 12 0 0 0 (.object "SpoonRow$Sleeper") true := ⟨by decide, by decide, rfl, rfl, rfl, Or.inl (tb_of 232 (by decide +kernel) (by decide +kernel))⟩
theorem ff0_12 : (clT 0 0).1 = cn 0 ∧ Cond.fieldLink (cn 0) 12 (clT 0 0).1 (clT 0 0).2.1 (clT 0 0).2.2.1 ∈ TB := ⟨rfl, tb_of 232 (by decide +kernel) (by decide +kernel)⟩
theorem f0_18 : FP 0 18 0 1 1 (.array (.object "SpoonRow$Sleeper")) true := ⟨by decide, by decide, rfl, rfl, rfl, Or.inl (tb_of 233 (by decide +kernel) (by decide +kernel))⟩
theorem ff0_18 : (clT 0 1).1 = cn 0 ∧ Cond.fieldLink (cn 0) 18 (clT 0 1).1 (clT 0 1).2.1 (clT 0 1).2.2.1 ∈ TB := ⟨rfl, tb_of 233 (by decide +kernel) (by decide +kernel)⟩
theorem f0_27 : FP 0 27 0 2 2 (.object "SpoonRow$Row") true := ⟨by decide, by decide, rfl, rfl, rfl, Or.inl (tb_of 234 (by decide +kernel) (by decide +kernel))⟩
theorem ff0_27 : (clT 0 2).1 = cn 0 ∧ Cond.fieldLink (cn 0) 27 (clT 0 2).1 (clT 0 2).2.1 (clT 0 2).2.2.1 ∈ TB := ⟨rfl, tb_of 234 (by decide +kernel) (by decide +kernel)⟩
theorem f11_189 : FP 11 189 0 2 2 (.object "SpoonRow$Row") true := ⟨by decide, by decide, rfl, rfl, rfl, Or.inr ⟨_, List.mem_of_getElem? (i := 16) rfl⟩⟩
theorem f0_34 : FP 0 34 0 3 3 (.object "SpoonRow$Rule") true := ⟨by decide, by decide, rfl, rfl, rfl, Or.inl (tb_of 236 (by decide +kernel) (by decide +kernel))⟩
theorem ff0_34 : (clT 0 3).1 = cn 0 ∧ Cond.fieldLink (cn 0) 34 (clT 0 3).1 (clT 0 3).2.1 (clT 0 3).2.2.1 ∈ TB := ⟨rfl, tb_of 236 (by decide +kernel) (by decide +kernel)⟩
theorem f2_208 : FP 2 208 0 3 3 (.object "SpoonRow$Rule") true := ⟨by decide, by decide, rfl, rfl, rfl, Or.inr ⟨_, List.mem_of_getElem? (i := 17) rfl⟩⟩
theorem f5_192 : FP 5 192 0 3 3 (.object "SpoonRow$Rule") true := ⟨by decide, by decide, rfl, rfl, rfl, Or.inr ⟨_, List.mem_of_getElem? (i := 18) rfl⟩⟩
theorem f4_46 : FP 4 46 0 4 4 .int false := ⟨by decide, by decide, rfl, rfl, rfl, Or.inr ⟨_, List.mem_of_getElem? (i := 19) rfl⟩⟩
theorem f0_47 : FP 0 47 0 4 4 .int false := ⟨by decide, by decide, rfl, rfl, rfl, Or.inl (tb_of 240 (by decide +kernel) (by decide +kernel))⟩
theorem f11_101 : FP 11 101 0 4 4 .int false := ⟨by decide, by decide, rfl, rfl, rfl, Or.inr ⟨_, List.mem_of_getElem? (i := 20) rfl⟩⟩
theorem f5_145 : FP 5 145 0 4 4 .int false := ⟨by decide, by decide, rfl, rfl, rfl, Or.inr ⟨_, List.mem_of_getElem? (i := 21) rfl⟩⟩
theorem f0_51 : FP 0 51 0 5 5 .int false := ⟨by decide, by decide, rfl, rfl, rfl, Or.inl (tb_of 243 (by decide +kernel) (by decide +kernel))⟩
theorem f5_113 : FP 5 113 0 5 5 .int false := ⟨by decide, by decide, rfl, rfl, rfl, Or.inr ⟨_, List.mem_of_getElem? (i := 22) rfl⟩⟩
theorem f11_104 : FP 11 104 0 5 5 .int false := ⟨by decide, by decide, rfl, rfl, rfl, Or.inr ⟨_, List.mem_of_getElem? (i := 23) rfl⟩⟩
theorem f0_54 : FP 0 54 0 6 6 .int false := ⟨by decide, by decide, rfl, rfl, rfl, Or.inl (tb_of 246 (by decide +kernel) (by decide +kernel))⟩
theorem f5_116 : FP 5 116 0 6 6 .int false := ⟨by decide, by decide, rfl, rfl, rfl, Or.inr ⟨_, List.mem_of_getElem? (i := 24) rfl⟩⟩
theorem f11_107 : FP 11 107 0 6 6 .int false := ⟨by decide, by decide, rfl, rfl, rfl, Or.inr ⟨_, List.mem_of_getElem? (i := 25) rfl⟩⟩
theorem f0_57 : FP 0 57 0 7 7 .int false := ⟨by decide, by decide, rfl, rfl, rfl, Or.inl (tb_of 249 (by decide +kernel) (by decide +kernel))⟩
theorem f5_121 : FP 5 121 0 7 7 .int false := ⟨by decide, by decide, rfl, rfl, rfl, Or.inr ⟨_, List.mem_of_getElem? (i := 26) rfl⟩⟩
theorem f11_110 : FP 11 110 0 7 7 .int false := ⟨by decide, by decide, rfl, rfl, rfl, Or.inr ⟨_, List.mem_of_getElem? (i := 27) rfl⟩⟩
theorem f4_99 : FP 4 99 0 7 7 .int false := ⟨by decide, by decide, rfl, rfl, rfl, Or.inr ⟨_, List.mem_of_getElem? (i := 28) rfl⟩⟩
theorem f0_60 : FP 0 60 0 8 8 .int false := ⟨by decide, by decide, rfl, rfl, rfl, Or.inl (tb_of 253 (by decide +kernel) (by decide +kernel))⟩
theorem f5_126 : FP 5 126 0 8 8 .int false := ⟨by decide, by decide, rfl, rfl, rfl, Or.inr ⟨_, List.mem_of_getElem? (i := 29) rfl⟩⟩
theorem f11_113 : FP 11 113 0 8 8 .int false := ⟨by decide, by decide, rfl, rfl, rfl, Or.inr ⟨_, List.mem_of_getElem? (i := 30) rfl⟩⟩
theorem f2_195 : FP 2 195 0 8 8 .int false := ⟨by decide, by decide, rfl, rfl, rfl, Or.inr ⟨_, List.mem_of_getElem? (i := 31) rfl⟩⟩
theorem f0_63 : FP 0 63 0 9 9 .int false := ⟨by decide, by decide, rfl, rfl, rfl, Or.inl (tb_of 257 (by decide +kernel) (by decide +kernel))⟩
theorem f4_67 : FP 4 67 0 9 9 .int false := ⟨by decide, by decide, rfl, rfl, rfl, Or.inr ⟨_, List.mem_of_getElem? (i := 32) rfl⟩⟩
theorem f5_168 : FP 5 168 0 9 9 .int false := ⟨by decide, by decide, rfl, rfl, rfl, Or.inr ⟨_, List.mem_of_getElem? (i := 33) rfl⟩⟩
theorem f0_66 : FP 0 66 0 10 10 .int false := ⟨by decide, by decide, rfl, rfl, rfl, Or.inl (tb_of 260 (by decide +kernel) (by decide +kernel))⟩
theorem f11_122 : FP 11 122 0 10 10 .int false := ⟨by decide, by decide, rfl, rfl, rfl, Or.inr ⟨_, List.mem_of_getElem? (i := 34) rfl⟩⟩
theorem f5_171 : FP 5 171 0 10 10 .int false := ⟨by decide, by decide, rfl, rfl, rfl, Or.inr ⟨_, List.mem_of_getElem? (i := 35) rfl⟩⟩
theorem n11_35 : NP 11 35 5 := ⟨by decide, tb_of 286 (by decide +kernel) (by decide +kernel), tb_of 287 (by decide +kernel) (by decide +kernel), tb_of 107 (by decide +kernel) (by decide +kernel)⟩
theorem nl11_35 : Cond.classLink (cn 11) 35 "SpoonRow$Reader" ∈ TB := tb_of 286 (by decide +kernel) (by decide +kernel)
theorem k11_37 : LI 11 37 1 yX5_init mX5_init := ⟨Or.inl (tb_of 288 (by decide +kernel) (by decide +kernel)), t_X5_init⟩
theorem k5_3 : Cond.methodLink (cn 5) 3 objectInit ∈ TB := tb_of 291 (by decide +kernel) (by decide +kernel)
theorem n5_9 : NP 5 9 10 := ⟨by decide, tb_of 292 (by decide +kernel) (by decide +kernel), tb_of 293 (by decide +kernel) (by decide +kernel), tb_of 108 (by decide +kernel) (by decide +kernel)⟩
theorem nl5_9 : Cond.classLink (cn 5) 9 "SpoonRow$Tokens" ∈ TB := tb_of 292 (by decide +kernel) (by decide +kernel)
theorem n5_11 : NP 5 11 6 := ⟨by decide, tb_of 294 (by decide +kernel) (by decide +kernel), tb_of 136 (by decide +kernel) (by decide +kernel), tb_of 103 (by decide +kernel) (by decide +kernel)⟩
theorem nl5_11 : Cond.classLink (cn 5) 11 "SpoonRow$Row" ∈ TB := tb_of 294 (by decide +kernel) (by decide +kernel)
theorem k5_13 : LI 5 13 1 yX6_init mX6_init := ⟨Or.inl (tb_of 295 (by decide +kernel) (by decide +kernel)), t_X6_init⟩
theorem k5_16 : LI 5 16 1 yX10_init mX10_init := ⟨Or.inl (tb_of 296 (by decide +kernel) (by decide +kernel)), t_X10_init⟩
theorem k10_1 : Cond.methodLink (cn 10) 1 objectInit ∈ TB := tb_of 299 (by decide +kernel) (by decide +kernel)
theorem f10_22 : FP 10 22 10 0 1280 (.object "SpoonRow$Row") false := ⟨by decide, by decide, rfl, rfl, rfl, Or.inl (tb_of 300 (by decide +kernel) (by decide +kernel))⟩
theorem f10_7 : FP 10 7 10 1 1281 .int false := ⟨by decide, by decide, rfl, rfl, rfl, Or.inl (tb_of 301 (by decide +kernel) (by decide +kernel))⟩
theorem f10_13 : FP 10 13 10 2 1282 .int false := ⟨by decide, by decide, rfl, rfl, rfl, Or.inl (tb_of 302 (by decide +kernel) (by decide +kernel))⟩
theorem f5_54 : FP 5 54 10 2 1282 .int false := ⟨by decide, by decide, rfl, rfl, rfl, Or.inr ⟨_, List.mem_of_getElem? (i := 36) rfl⟩⟩
theorem f10_16 : FP 10 16 10 3 1283 .int false := ⟨by decide, by decide, rfl, rfl, rfl, Or.inl (tb_of 304 (by decide +kernel) (by decide +kernel))⟩
theorem f10_19 : FP 10 19 10 4 1284 .int false := ⟨by decide, by decide, rfl, rfl, rfl, Or.inl (tb_of 305 (by decide +kernel) (by decide +kernel))⟩
theorem f5_48 : FP 5 48 10 4 1284 .int false := ⟨by decide, by decide, rfl, rfl, rfl, Or.inr ⟨_, List.mem_of_getElem? (i := 37) rfl⟩⟩
theorem f5_19 : FP 5 19 5 0 640 (.object "SpoonRow$Tokens") true := ⟨by decide, by decide, rfl, rfl, rfl, Or.inl (tb_of 318 (by decide +kernel) (by decide +kernel))⟩
theorem ff5_19 : (clT 5 0).1 = cn 5 ∧ Cond.fieldLink (cn 5) 19 (clT 5 0).1 (clT 5 0).2.1 (clT 5 0).2.2.1 ∈ TB := ⟨rfl, tb_of 318 (by decide +kernel) (by decide +kernel)⟩
theorem f5_35 : FP 5 35 5 1 641 (.object "SpoonRow$Bed") false := ⟨by decide, by decide, rfl, rfl, rfl, Or.inl (tb_of 319 (by decide +kernel) (by decide +kernel))⟩
theorem f5_25 : FP 5 25 5 2 642 .int false := ⟨by decide, by decide, rfl, rfl, rfl, Or.inl (tb_of 320 (by decide +kernel) (by decide +kernel))⟩
theorem f5_29 : FP 5 29 5 3 643 .int false := ⟨by decide, by decide, rfl, rfl, rfl, Or.inl (tb_of 321 (by decide +kernel) (by decide +kernel))⟩
theorem f11_97 : FP 11 97 5 3 643 .int false := ⟨by decide, by decide, rfl, rfl, rfl, Or.inr ⟨_, List.mem_of_getElem? (i := 38) rfl⟩⟩
theorem f5_32 : FP 5 32 5 4 644 .int false := ⟨by decide, by decide, rfl, rfl, rfl, Or.inl (tb_of 323 (by decide +kernel) (by decide +kernel))⟩
theorem n11_44 : NP 11 44 9 := ⟨by decide, tb_of 335 (by decide +kernel) (by decide +kernel), tb_of 336 (by decide +kernel) (by decide +kernel), tb_of 109 (by decide +kernel) (by decide +kernel)⟩
theorem nl11_44 : Cond.classLink (cn 11) 44 "SpoonRow$State" ∈ TB := tb_of 335 (by decide +kernel) (by decide +kernel)
theorem k11_46 : LI 11 46 0 yX9_init mX9_init := ⟨Or.inr ⟨_, List.mem_of_getElem? (i := 2) rfl⟩, t_X9_init⟩
theorem k9_3 : Cond.methodLink (cn 9) 3 objectInit ∈ TB := tb_of 340 (by decide +kernel) (by decide +kernel)
theorem n9_9 : NP 9 9 4 := ⟨by decide, tb_of 341 (by decide +kernel) (by decide +kernel), tb_of 342 (by decide +kernel) (by decide +kernel), tb_of 110 (by decide +kernel) (by decide +kernel)⟩
theorem nl9_9 : Cond.classLink (cn 9) 9 "SpoonRow$Plan" ∈ TB := tb_of 341 (by decide +kernel) (by decide +kernel)
theorem k9_11 : LI 9 11 0 yX4_init mX4_init := ⟨Or.inr ⟨_, List.mem_of_getElem? (i := 3) rfl⟩, t_X4_init⟩
theorem k4_3 : Cond.methodLink (cn 4) 3 objectInit ∈ TB := tb_of 346 (by decide +kernel) (by decide +kernel)
theorem n4_9 : NP 4 9 6 := ⟨by decide, tb_of 347 (by decide +kernel) (by decide +kernel), tb_of 136 (by decide +kernel) (by decide +kernel), tb_of 103 (by decide +kernel) (by decide +kernel)⟩
theorem nl4_9 : Cond.classLink (cn 4) 9 "SpoonRow$Row" ∈ TB := tb_of 347 (by decide +kernel) (by decide +kernel)
theorem k4_11 : LI 4 11 1 yX6_init mX6_init := ⟨Or.inl (tb_of 348 (by decide +kernel) (by decide +kernel)), t_X6_init⟩
theorem f4_14 : FP 4 14 4 0 512 (.object "SpoonRow$Row") true := ⟨by decide, by decide, rfl, rfl, rfl, Or.inl (tb_of 349 (by decide +kernel) (by decide +kernel))⟩
theorem ff4_14 : (clT 4 0).1 = cn 4 ∧ Cond.fieldLink (cn 4) 14 (clT 4 0).1 (clT 4 0).2.1 (clT 4 0).2.2.1 ∈ TB := ⟨rfl, tb_of 349 (by decide +kernel) (by decide +kernel)⟩
theorem f2_91 : FP 2 91 4 0 512 (.object "SpoonRow$Row") true := ⟨by decide, by decide, rfl, rfl, rfl, Or.inr ⟨_, List.mem_of_getElem? (i := 39) rfl⟩⟩
theorem f9_66 : FP 9 66 4 0 512 (.object "SpoonRow$Row") true := ⟨by decide, by decide, rfl, rfl, rfl, Or.inr ⟨_, List.mem_of_getElem? (i := 40) rfl⟩⟩
theorem f0_82 : FP 0 82 4 0 512 (.object "SpoonRow$Row") true := ⟨by decide, by decide, rfl, rfl, rfl, Or.inr ⟨_, List.mem_of_getElem? (i := 41) rfl⟩⟩
theorem f11_202 : FP 11 202 4 0 512 (.object "SpoonRow$Row") true := ⟨by decide, by decide, rfl, rfl, rfl, Or.inr ⟨_, List.mem_of_getElem? (i := 42) rfl⟩⟩
theorem f4_20 : FP 4 20 4 1 513 (.object "SpoonRow$Row") true := ⟨by decide, by decide, rfl, rfl, rfl, Or.inl (tb_of 354 (by decide +kernel) (by decide +kernel))⟩
theorem ff4_20 : (clT 4 1).1 = cn 4 ∧ Cond.fieldLink (cn 4) 20 (clT 4 1).1 (clT 4 1).2.1 (clT 4 1).2.2.1 ∈ TB := ⟨rfl, tb_of 354 (by decide +kernel) (by decide +kernel)⟩
theorem f2_107 : FP 2 107 4 1 513 (.object "SpoonRow$Row") true := ⟨by decide, by decide, rfl, rfl, rfl, Or.inr ⟨_, List.mem_of_getElem? (i := 43) rfl⟩⟩
theorem f9_81 : FP 9 81 4 1 513 (.object "SpoonRow$Row") true := ⟨by decide, by decide, rfl, rfl, rfl, Or.inr ⟨_, List.mem_of_getElem? (i := 44) rfl⟩⟩
theorem f11_180 : FP 11 180 4 1 513 (.object "SpoonRow$Row") true := ⟨by decide, by decide, rfl, rfl, rfl, Or.inr ⟨_, List.mem_of_getElem? (i := 45) rfl⟩⟩
theorem f4_23 : FP 4 23 4 2 514 .int false := ⟨by decide, by decide, rfl, rfl, rfl, Or.inl (tb_of 358 (by decide +kernel) (by decide +kernel))⟩
theorem f2_86 : FP 2 86 4 2 514 .int false := ⟨by decide, by decide, rfl, rfl, rfl, Or.inr ⟨_, List.mem_of_getElem? (i := 46) rfl⟩⟩
theorem f0_77 : FP 0 77 4 2 514 .int false := ⟨by decide, by decide, rfl, rfl, rfl, Or.inr ⟨_, List.mem_of_getElem? (i := 47) rfl⟩⟩
theorem f11_296 : FP 11 296 4 2 514 .int false := ⟨by decide, by decide, rfl, rfl, rfl, Or.inr ⟨_, List.mem_of_getElem? (i := 48) rfl⟩⟩
theorem f4_27 : FP 4 27 4 3 515 .int false := ⟨by decide, by decide, rfl, rfl, rfl, Or.inl (tb_of 362 (by decide +kernel) (by decide +kernel))⟩
theorem f2_110 : FP 2 110 4 3 515 .int false := ⟨by decide, by decide, rfl, rfl, rfl, Or.inr ⟨_, List.mem_of_getElem? (i := 49) rfl⟩⟩
theorem f9_72 : FP 9 72 4 3 515 .int false := ⟨by decide, by decide, rfl, rfl, rfl, Or.inr ⟨_, List.mem_of_getElem? (i := 50) rfl⟩⟩
theorem f11_125 : FP 11 125 4 3 515 .int false := ⟨by decide, by decide, rfl, rfl, rfl, Or.inr ⟨_, List.mem_of_getElem? (i := 51) rfl⟩⟩
theorem f4_30 : FP 4 30 4 4 516 .int false := ⟨by decide, by decide, rfl, rfl, rfl, Or.inl (tb_of 366 (by decide +kernel) (by decide +kernel))⟩
theorem f11_128 : FP 11 128 4 4 516 .int false := ⟨by decide, by decide, rfl, rfl, rfl, Or.inr ⟨_, List.mem_of_getElem? (i := 52) rfl⟩⟩
theorem f2_134 : FP 2 134 4 4 516 .int false := ⟨by decide, by decide, rfl, rfl, rfl, Or.inr ⟨_, List.mem_of_getElem? (i := 53) rfl⟩⟩
theorem f4_33 : FP 4 33 4 5 517 .int false := ⟨by decide, by decide, rfl, rfl, rfl, Or.inl (tb_of 369 (by decide +kernel) (by decide +kernel))⟩
theorem f2_119 : FP 2 119 4 5 517 .int false := ⟨by decide, by decide, rfl, rfl, rfl, Or.inr ⟨_, List.mem_of_getElem? (i := 54) rfl⟩⟩
theorem f11_131 : FP 11 131 4 5 517 .int false := ⟨by decide, by decide, rfl, rfl, rfl, Or.inr ⟨_, List.mem_of_getElem? (i := 55) rfl⟩⟩
theorem f4_36 : FP 4 36 4 6 518 .int false := ⟨by decide, by decide, rfl, rfl, rfl, Or.inl (tb_of 372 (by decide +kernel) (by decide +kernel))⟩
theorem f11_119 : FP 11 119 4 6 518 .int false := ⟨by decide, by decide, rfl, rfl, rfl, Or.inr ⟨_, List.mem_of_getElem? (i := 56) rfl⟩⟩
theorem f4_39 : FP 4 39 4 7 519 .boolean false := ⟨by decide, by decide, rfl, rfl, rfl, Or.inl (tb_of 374 (by decide +kernel) (by decide +kernel))⟩
theorem f11_134 : FP 11 134 4 7 519 .boolean false := ⟨by decide, by decide, rfl, rfl, rfl, Or.inr ⟨_, List.mem_of_getElem? (i := 57) rfl⟩⟩
theorem f2_144 : FP 2 144 4 7 519 .boolean false := ⟨by decide, by decide, rfl, rfl, rfl, Or.inr ⟨_, List.mem_of_getElem? (i := 58) rfl⟩⟩
theorem n9_18 : NP 9 18 3 := ⟨by decide, tb_of 394 (by decide +kernel) (by decide +kernel), tb_of 395 (by decide +kernel) (by decide +kernel), tb_of 111 (by decide +kernel) (by decide +kernel)⟩
theorem nl9_18 : Cond.classLink (cn 9) 18 "SpoonRow$Pile" ∈ TB := tb_of 394 (by decide +kernel) (by decide +kernel)
theorem k9_20 : LI 9 20 1 yX3_init mX3_init := ⟨Or.inl (tb_of 396 (by decide +kernel) (by decide +kernel)), t_X3_init⟩
theorem k3_1 : Cond.methodLink (cn 3) 1 objectInit ∈ TB := tb_of 399 (by decide +kernel) (by decide +kernel)
theorem n3_16 : NP 3 16 6 := ⟨by decide, tb_of 400 (by decide +kernel) (by decide +kernel), tb_of 136 (by decide +kernel) (by decide +kernel), tb_of 103 (by decide +kernel) (by decide +kernel)⟩
theorem nl3_16 : Cond.classLink (cn 3) 16 "SpoonRow$Row" ∈ TB := tb_of 400 (by decide +kernel) (by decide +kernel)
theorem k3_18 : LI 3 18 1 yX6_init mX6_init := ⟨Or.inl (tb_of 401 (by decide +kernel) (by decide +kernel)), t_X6_init⟩
theorem f3_13 : FP 3 13 3 0 384 .int true := ⟨by decide, by decide, rfl, rfl, rfl, Or.inl (tb_of 402 (by decide +kernel) (by decide +kernel))⟩
theorem ff3_13 : (clT 3 0).1 = cn 3 ∧ Cond.fieldLink (cn 3) 13 (clT 3 0).1 (clT 3 0).2.1 (clT 3 0).2.2.1 ∈ TB := ⟨rfl, tb_of 402 (by decide +kernel) (by decide +kernel)⟩
theorem f3_21 : FP 3 21 3 1 385 (.object "SpoonRow$Row") true := ⟨by decide, by decide, rfl, rfl, rfl, Or.inl (tb_of 403 (by decide +kernel) (by decide +kernel))⟩
theorem ff3_21 : (clT 3 1).1 = cn 3 ∧ Cond.fieldLink (cn 3) 21 (clT 3 1).1 (clT 3 1).2.1 (clT 3 1).2.2.1 ∈ TB := ⟨rfl, tb_of 403 (by decide +kernel) (by decide +kernel)⟩
theorem f3_7 : FP 3 7 3 2 386 .int false := ⟨by decide, by decide, rfl, rfl, rfl, Or.inl (tb_of 404 (by decide +kernel) (by decide +kernel))⟩
theorem f9_58 : FP 9 58 3 2 386 .int false := ⟨by decide, by decide, rfl, rfl, rfl, Or.inr ⟨_, List.mem_of_getElem? (i := 59) rfl⟩⟩
theorem f11_141 : FP 11 141 3 2 386 .int false := ⟨by decide, by decide, rfl, rfl, rfl, Or.inr ⟨_, List.mem_of_getElem? (i := 60) rfl⟩⟩
theorem n9_30 : NP 9 30 6 := ⟨by decide, tb_of 414 (by decide +kernel) (by decide +kernel), tb_of 136 (by decide +kernel) (by decide +kernel), tb_of 103 (by decide +kernel) (by decide +kernel)⟩
theorem nl9_30 : Cond.classLink (cn 9) 30 "SpoonRow$Row" ∈ TB := tb_of 414 (by decide +kernel) (by decide +kernel)
theorem k9_32 : LI 9 32 1 yX6_init mX6_init := ⟨Or.inl (tb_of 415 (by decide +kernel) (by decide +kernel)), t_X6_init⟩
theorem f9_12 : FP 9 12 9 0 1152 (.object "SpoonRow$Plan") true := ⟨by decide, by decide, rfl, rfl, rfl, Or.inl (tb_of 416 (by decide +kernel) (by decide +kernel))⟩
theorem ff9_12 : (clT 9 0).1 = cn 9 ∧ Cond.fieldLink (cn 9) 12 (clT 9 0).1 (clT 9 0).2.1 (clT 9 0).2.2.1 ∈ TB := ⟨rfl, tb_of 416 (by decide +kernel) (by decide +kernel)⟩
theorem f11_116 : FP 11 116 9 0 1152 (.object "SpoonRow$Plan") true := ⟨by decide, by decide, rfl, rfl, rfl, Or.inr ⟨_, List.mem_of_getElem? (i := 61) rfl⟩⟩
theorem f9_23 : FP 9 23 9 1 1153 (.object "SpoonRow$Pile") true := ⟨by decide, by decide, rfl, rfl, rfl, Or.inl (tb_of 418 (by decide +kernel) (by decide +kernel))⟩
theorem ff9_23 : (clT 9 1).1 = cn 9 ∧ Cond.fieldLink (cn 9) 23 (clT 9 1).1 (clT 9 1).2.1 (clT 9 1).2.2.1 ∈ TB := ⟨rfl, tb_of 418 (by decide +kernel) (by decide +kernel)⟩
theorem f11_137 : FP 11 137 9 1 1153 (.object "SpoonRow$Pile") true := ⟨by decide, by decide, rfl, rfl, rfl, Or.inr ⟨_, List.mem_of_getElem? (i := 62) rfl⟩⟩
theorem f9_27 : FP 9 27 9 2 1154 (.object "SpoonRow$Pile") true := ⟨by decide, by decide, rfl, rfl, rfl, Or.inl (tb_of 420 (by decide +kernel) (by decide +kernel))⟩
theorem ff9_27 : (clT 9 2).1 = cn 9 ∧ Cond.fieldLink (cn 9) 27 (clT 9 2).1 (clT 9 2).2.1 (clT 9 2).2.2.1 ∈ TB := ⟨rfl, tb_of 420 (by decide +kernel) (by decide +kernel)⟩
theorem f11_146 : FP 11 146 9 2 1154 (.object "SpoonRow$Pile") true := ⟨by decide, by decide, rfl, rfl, rfl, Or.inr ⟨_, List.mem_of_getElem? (i := 63) rfl⟩⟩
theorem f9_33 : FP 9 33 9 3 1155 (.object "SpoonRow$Row") true := ⟨by decide, by decide, rfl, rfl, rfl, Or.inl (tb_of 422 (by decide +kernel) (by decide +kernel))⟩
theorem ff9_33 : (clT 9 3).1 = cn 9 ∧ Cond.fieldLink (cn 9) 33 (clT 9 3).1 (clT 9 3).2.1 (clT 9 3).2.2.1 ∈ TB := ⟨rfl, tb_of 422 (by decide +kernel) (by decide +kernel)⟩
theorem f11_149 : FP 11 149 9 3 1155 (.object "SpoonRow$Row") true := ⟨by decide, by decide, rfl, rfl, rfl, Or.inr ⟨_, List.mem_of_getElem? (i := 64) rfl⟩⟩
theorem n11_64 : NP 11 64 4 := ⟨by decide, tb_of 433 (by decide +kernel) (by decide +kernel), tb_of 342 (by decide +kernel) (by decide +kernel), tb_of 110 (by decide +kernel) (by decide +kernel)⟩
theorem nl11_64 : Cond.classLink (cn 11) 64 "SpoonRow$Plan" ∈ TB := tb_of 433 (by decide +kernel) (by decide +kernel)
theorem k11_66 : LI 11 66 0 yX4_init mX4_init := ⟨Or.inr ⟨_, List.mem_of_getElem? (i := 4) rfl⟩, t_X4_init⟩
theorem n11_71 : NP 11 71 2 := ⟨by decide, tb_of 435 (by decide +kernel) (by decide +kernel), tb_of 436 (by decide +kernel) (by decide +kernel), tb_of 112 (by decide +kernel) (by decide +kernel)⟩
theorem nl11_71 : Cond.classLink (cn 11) 71 "SpoonRow$Night" ∈ TB := tb_of 435 (by decide +kernel) (by decide +kernel)
theorem k11_73 : LI 11 73 2 yX2_init mX2_init := ⟨Or.inl (tb_of 437 (by decide +kernel) (by decide +kernel)), t_X2_init⟩
theorem k2_3 : Cond.methodLink (cn 2) 3 objectInit ∈ TB := tb_of 440 (by decide +kernel) (by decide +kernel)
theorem n2_9 : NP 2 9 1 := ⟨by decide, tb_of 441 (by decide +kernel) (by decide +kernel), tb_of 445 (by decide +kernel) (by decide +kernel), tb_of 113 (by decide +kernel) (by decide +kernel)⟩
theorem nl2_9 : Cond.classLink (cn 2) 9 "SpoonRow$Lier" ∈ TB := tb_of 441 (by decide +kernel) (by decide +kernel)
theorem n2_17 : NP 2 17 6 := ⟨by decide, tb_of 443 (by decide +kernel) (by decide +kernel), tb_of 136 (by decide +kernel) (by decide +kernel), tb_of 103 (by decide +kernel) (by decide +kernel)⟩
theorem nl2_17 : Cond.classLink (cn 2) 17 "SpoonRow$Row" ∈ TB := tb_of 443 (by decide +kernel) (by decide +kernel)
theorem k2_19 : LI 2 19 1 yX6_init mX6_init := ⟨Or.inl (tb_of 444 (by decide +kernel) (by decide +kernel)), t_X6_init⟩
theorem n2_56 : NP 2 56 8 := ⟨by decide, tb_of 446 (by decide +kernel) (by decide +kernel), tb_of 153 (by decide +kernel) (by decide +kernel), tb_of 105 (by decide +kernel) (by decide +kernel)⟩
theorem nl2_56 : Cond.classLink (cn 2) 56 "SpoonRow$Sleeper" ∈ TB := tb_of 446 (by decide +kernel) (by decide +kernel)
theorem k2_58 : LI 2 58 0 yX8_init mX8_init := ⟨Or.inr ⟨_, List.mem_of_getElem? (i := 5) rfl⟩, t_X8_init⟩
theorem k2_59 : LI 2 59 1 yX1_init mX1_init := ⟨Or.inl (tb_of 448 (by decide +kernel) (by decide +kernel)), t_X1_init⟩
theorem k1_3 : Cond.methodLink (cn 1) 3 objectInit ∈ TB := tb_of 451 (by decide +kernel) (by decide +kernel)
theorem f1_36 : FP 1 36 1 0 128 (.object "SpoonRow$Sleeper") false := ⟨by decide, by decide, rfl, rfl, rfl, Or.inl (tb_of 452 (by decide +kernel) (by decide +kernel))⟩
theorem f2_66 : FP 2 66 1 0 128 (.object "SpoonRow$Sleeper") false := ⟨by decide, by decide, rfl, rfl, rfl, Or.inr ⟨_, List.mem_of_getElem? (i := 65) rfl⟩⟩
theorem f1_9 : FP 1 9 1 1 129 .int false := ⟨by decide, by decide, rfl, rfl, rfl, Or.inl (tb_of 454 (by decide +kernel) (by decide +kernel))⟩
theorem f2_180 : FP 2 180 1 1 129 .int false := ⟨by decide, by decide, rfl, rfl, rfl, Or.inr ⟨_, List.mem_of_getElem? (i := 66) rfl⟩⟩
theorem f1_15 : FP 1 15 1 2 130 .int false := ⟨by decide, by decide, rfl, rfl, rfl, Or.inl (tb_of 456 (by decide +kernel) (by decide +kernel))⟩
theorem f2_202 : FP 2 202 1 2 130 .int false := ⟨by decide, by decide, rfl, rfl, rfl, Or.inr ⟨_, List.mem_of_getElem? (i := 67) rfl⟩⟩
theorem f1_18 : FP 1 18 1 3 131 .int false := ⟨by decide, by decide, rfl, rfl, rfl, Or.inl (tb_of 458 (by decide +kernel) (by decide +kernel))⟩
theorem f2_131 : FP 2 131 1 3 131 .int false := ⟨by decide, by decide, rfl, rfl, rfl, Or.inr ⟨_, List.mem_of_getElem? (i := 68) rfl⟩⟩
theorem f1_21 : FP 1 21 1 4 132 .int false := ⟨by decide, by decide, rfl, rfl, rfl, Or.inl (tb_of 460 (by decide +kernel) (by decide +kernel))⟩
theorem f11_259 : FP 11 259 1 4 132 .int false := ⟨by decide, by decide, rfl, rfl, rfl, Or.inr ⟨_, List.mem_of_getElem? (i := 69) rfl⟩⟩
theorem f1_24 : FP 1 24 1 5 133 .int false := ⟨by decide, by decide, rfl, rfl, rfl, Or.inl (tb_of 462 (by decide +kernel) (by decide +kernel))⟩
theorem f1_27 : FP 1 27 1 6 134 .int false := ⟨by decide, by decide, rfl, rfl, rfl, Or.inl (tb_of 463 (by decide +kernel) (by decide +kernel))⟩
theorem f2_232 : FP 2 232 1 6 134 .int false := ⟨by decide, by decide, rfl, rfl, rfl, Or.inr ⟨_, List.mem_of_getElem? (i := 70) rfl⟩⟩
theorem f1_30 : FP 1 30 1 7 135 .int false := ⟨by decide, by decide, rfl, rfl, rfl, Or.inl (tb_of 465 (by decide +kernel) (by decide +kernel))⟩
theorem f2_226 : FP 2 226 1 7 135 .int false := ⟨by decide, by decide, rfl, rfl, rfl, Or.inr ⟨_, List.mem_of_getElem? (i := 71) rfl⟩⟩
theorem f11_248 : FP 11 248 1 7 135 .int false := ⟨by decide, by decide, rfl, rfl, rfl, Or.inr ⟨_, List.mem_of_getElem? (i := 72) rfl⟩⟩
theorem f1_33 : FP 1 33 1 8 136 .int false := ⟨by decide, by decide, rfl, rfl, rfl, Or.inl (tb_of 468 (by decide +kernel) (by decide +kernel))⟩
theorem f2_177 : FP 2 177 1 8 136 .int false := ⟨by decide, by decide, rfl, rfl, rfl, Or.inr ⟨_, List.mem_of_getElem? (i := 73) rfl⟩⟩
theorem f11_253 : FP 11 253 1 8 136 .int false := ⟨by decide, by decide, rfl, rfl, rfl, Or.inr ⟨_, List.mem_of_getElem? (i := 74) rfl⟩⟩
theorem f2_62 : FP 2 62 2 0 256 (.object "SpoonRow$Lier") true := ⟨by decide, by decide, rfl, rfl, rfl, Or.inl (tb_of 490 (by decide +kernel) (by decide +kernel))⟩
theorem ff2_62 : (clT 2 0).1 = cn 2 ∧ Cond.fieldLink (cn 2) 62 (clT 2 0).1 (clT 2 0).2.1 (clT 2 0).2.2.1 ∈ TB := ⟨rfl, tb_of 490 (by decide +kernel) (by decide +kernel)⟩
theorem f2_11 : FP 2 11 2 1 257 (.array (.object "SpoonRow$Lier")) true := ⟨by decide, by decide, rfl, rfl, rfl, Or.inl (tb_of 491 (by decide +kernel) (by decide +kernel))⟩
theorem ff2_11 : (clT 2 1).1 = cn 2 ∧ Cond.fieldLink (cn 2) 11 (clT 2 1).1 (clT 2 1).2.1 (clT 2 1).2.2.1 ∈ TB := ⟨rfl, tb_of 491 (by decide +kernel) (by decide +kernel)⟩
theorem f2_22 : FP 2 22 2 2 258 (.object "SpoonRow$Row") true := ⟨by decide, by decide, rfl, rfl, rfl, Or.inl (tb_of 492 (by decide +kernel) (by decide +kernel))⟩
theorem ff2_22 : (clT 2 2).1 = cn 2 ∧ Cond.fieldLink (cn 2) 22 (clT 2 2).1 (clT 2 2).2.1 (clT 2 2).2.2.1 ∈ TB := ⟨rfl, tb_of 492 (by decide +kernel) (by decide +kernel)⟩
theorem f11_320 : FP 11 320 2 2 258 (.object "SpoonRow$Row") true := ⟨by decide, by decide, rfl, rfl, rfl, Or.inr ⟨_, List.mem_of_getElem? (i := 75) rfl⟩⟩
theorem f2_26 : FP 2 26 2 3 259 (.object "SpoonRow$Row") true := ⟨by decide, by decide, rfl, rfl, rfl, Or.inl (tb_of 494 (by decide +kernel) (by decide +kernel))⟩
theorem ff2_26 : (clT 2 3).1 = cn 2 ∧ Cond.fieldLink (cn 2) 26 (clT 2 3).1 (clT 2 3).2.1 (clT 2 3).2.2.1 ∈ TB := ⟨rfl, tb_of 494 (by decide +kernel) (by decide +kernel)⟩
theorem f11_269 : FP 11 269 2 3 259 (.object "SpoonRow$Row") true := ⟨by decide, by decide, rfl, rfl, rfl, Or.inr ⟨_, List.mem_of_getElem? (i := 76) rfl⟩⟩
theorem f2_29 : FP 2 29 2 4 260 .int false := ⟨by decide, by decide, rfl, rfl, rfl, Or.inl (tb_of 496 (by decide +kernel) (by decide +kernel))⟩
theorem f11_266 : FP 11 266 2 4 260 .int false := ⟨by decide, by decide, rfl, rfl, rfl, Or.inr ⟨_, List.mem_of_getElem? (i := 77) rfl⟩⟩
theorem f2_48 : FP 2 48 2 5 261 (.object "SpoonRow$Bed") false := ⟨by decide, by decide, rfl, rfl, rfl, Or.inl (tb_of 498 (by decide +kernel) (by decide +kernel))⟩
theorem f2_52 : FP 2 52 2 6 262 (.object "SpoonRow$Plan") false := ⟨by decide, by decide, rfl, rfl, rfl, Or.inl (tb_of 499 (by decide +kernel) (by decide +kernel))⟩
theorem f2_33 : FP 2 33 2 7 263 .int false := ⟨by decide, by decide, rfl, rfl, rfl, Or.inl (tb_of 500 (by decide +kernel) (by decide +kernel))⟩
theorem f2_36 : FP 2 36 2 8 264 .int false := ⟨by decide, by decide, rfl, rfl, rfl, Or.inl (tb_of 501 (by decide +kernel) (by decide +kernel))⟩
theorem f11_227 : FP 11 227 2 8 264 .int false := ⟨by decide, by decide, rfl, rfl, rfl, Or.inr ⟨_, List.mem_of_getElem? (i := 78) rfl⟩⟩
theorem f2_39 : FP 2 39 2 9 265 .int false := ⟨by decide, by decide, rfl, rfl, rfl, Or.inl (tb_of 503 (by decide +kernel) (by decide +kernel))⟩
theorem f11_230 : FP 11 230 2 9 265 .int false := ⟨by decide, by decide, rfl, rfl, rfl, Or.inr ⟨_, List.mem_of_getElem? (i := 79) rfl⟩⟩
theorem f2_42 : FP 2 42 2 10 266 .int false := ⟨by decide, by decide, rfl, rfl, rfl, Or.inl (tb_of 505 (by decide +kernel) (by decide +kernel))⟩
theorem f11_233 : FP 11 233 2 10 266 .int false := ⟨by decide, by decide, rfl, rfl, rfl, Or.inr ⟨_, List.mem_of_getElem? (i := 80) rfl⟩⟩
theorem f2_45 : FP 2 45 2 11 267 .int false := ⟨by decide, by decide, rfl, rfl, rfl, Or.inl (tb_of 507 (by decide +kernel) (by decide +kernel))⟩
theorem k11_80 : LV 11 80 1 yX9_settle mX9_settle := ⟨tb_of 533 (by decide +kernel) (by decide +kernel), t_X9_settle⟩
theorem k9_37 : LV 9 37 1 yX4_settle mX4_settle := ⟨tb_of 537 (by decide +kernel) (by decide +kernel), t_X4_settle⟩
theorem k4_43 : LV 4 43 0 yX6_countUp mX6_countUp := ⟨tb_of 541 (by decide +kernel) (by decide +kernel), t_X6_countUp⟩
theorem k4_51 : LV 4 51 1 yX0_who mX0_who := ⟨tb_of 545 (by decide +kernel) (by decide +kernel), t_X0_who⟩
theorem k4_60 : LV 4 60 2 yX6_put mX6_put := ⟨tb_of 549 (by decide +kernel) (by decide +kernel), t_X6_put⟩
theorem k4_64 : LV 4 64 2 yX4_letSay mX4_letSay := ⟨tb_of 553 (by decide +kernel) (by decide +kernel), t_X4_letSay⟩
theorem k4_68 : LV 4 68 1 yX0_isFreeWithout mX0_isFreeWithout := ⟨tb_of 557 (by decide +kernel) (by decide +kernel), t_X0_isFreeWithout⟩
theorem k0_89 : LV 0 89 1 yX0_who mX0_who := ⟨tb_of 561 (by decide +kernel) (by decide +kernel), t_X0_who⟩
theorem k9_41 : LV 9 41 0 yX3_clear mX3_clear := ⟨tb_of 562 (by decide +kernel) (by decide +kernel), t_X3_clear⟩
theorem f11_14 : FP 11 14 11 0 1408 (.object "SpoonRow$Row") true := ⟨by decide, by decide, rfl, rfl, rfl, Or.inl (tb_of 566 (by decide +kernel) (by decide +kernel))⟩
theorem ff11_14 : (clT 11 0).1 = cn 11 ∧ Cond.fieldLink (cn 11) 14 (clT 11 0).1 (clT 11 0).2.1 (clT 11 0).2.2.1 ∈ TB := ⟨rfl, tb_of 566 (by decide +kernel) (by decide +kernel)⟩
theorem f11_18 : FP 11 18 11 1 1409 .int false := ⟨by decide, by decide, rfl, rfl, rfl, Or.inl (tb_of 567 (by decide +kernel) (by decide +kernel))⟩
theorem f11_22 : FP 11 22 11 2 1410 .int false := ⟨by decide, by decide, rfl, rfl, rfl, Or.inl (tb_of 568 (by decide +kernel) (by decide +kernel))⟩
theorem f11_28 : FP 11 28 11 3 1411 (.object "SpoonRow$Bed") false := ⟨by decide, by decide, rfl, rfl, rfl, Or.inl (tb_of 569 (by decide +kernel) (by decide +kernel))⟩
theorem f11_32 : FP 11 32 11 4 1412 (.object "SpoonRow$Bed") false := ⟨by decide, by decide, rfl, rfl, rfl, Or.inl (tb_of 570 (by decide +kernel) (by decide +kernel))⟩
theorem f11_40 : FP 11 40 11 5 1413 (.object "SpoonRow$Reader") true := ⟨by decide, by decide, rfl, rfl, rfl, Or.inl (tb_of 571 (by decide +kernel) (by decide +kernel))⟩
theorem ff11_40 : (clT 11 5).1 = cn 11 ∧ Cond.fieldLink (cn 11) 40 (clT 11 5).1 (clT 11 5).2.1 (clT 11 5).2.2.1 ∈ TB := ⟨rfl, tb_of 571 (by decide +kernel) (by decide +kernel)⟩
theorem f11_47 : FP 11 47 11 6 1414 (.object "SpoonRow$State") true := ⟨by decide, by decide, rfl, rfl, rfl, Or.inl (tb_of 572 (by decide +kernel) (by decide +kernel))⟩
theorem ff11_47 : (clT 11 6).1 = cn 11 ∧ Cond.fieldLink (cn 11) 47 (clT 11 6).1 (clT 11 6).2.1 (clT 11 6).2.2.1 ∈ TB := ⟨rfl, tb_of 572 (by decide +kernel) (by decide +kernel)⟩
theorem f11_51 : FP 11 51 11 7 1415 (.object "SpoonRow$State") true := ⟨by decide, by decide, rfl, rfl, rfl, Or.inl (tb_of 573 (by decide +kernel) (by decide +kernel))⟩
theorem ff11_51 : (clT 11 7).1 = cn 11 ∧ Cond.fieldLink (cn 11) 51 (clT 11 7).1 (clT 11 7).2.1 (clT 11 7).2.2.1 ∈ TB := ⟨rfl, tb_of 573 (by decide +kernel) (by decide +kernel)⟩
theorem f11_54 : FP 11 54 11 8 1416 .boolean false := ⟨by decide, by decide, rfl, rfl, rfl, Or.inl (tb_of 574 (by decide +kernel) (by decide +kernel))⟩
theorem f11_58 : FP 11 58 11 9 1417 (.object "SpoonRow$Row") true := ⟨by decide, by decide, rfl, rfl, rfl, Or.inl (tb_of 575 (by decide +kernel) (by decide +kernel))⟩
theorem ff11_58 : (clT 11 9).1 = cn 11 ∧ Cond.fieldLink (cn 11) 58 (clT 11 9).1 (clT 11 9).2.1 (clT 11 9).2.2.1 ∈ TB := ⟨rfl, tb_of 575 (by decide +kernel) (by decide +kernel)⟩
theorem f11_61 : FP 11 61 11 10 1418 .int false := ⟨by decide, by decide, rfl, rfl, rfl, Or.inl (tb_of 576 (by decide +kernel) (by decide +kernel))⟩
theorem f11_67 : FP 11 67 11 11 1419 (.object "SpoonRow$Plan") true := ⟨by decide, by decide, rfl, rfl, rfl, Or.inl (tb_of 577 (by decide +kernel) (by decide +kernel))⟩
theorem ff11_67 : (clT 11 11).1 = cn 11 ∧ Cond.fieldLink (cn 11) 67 (clT 11 11).1 (clT 11 11).2.1 (clT 11 11).2.2.1 ∈ TB := ⟨rfl, tb_of 577 (by decide +kernel) (by decide +kernel)⟩
theorem f11_76 : FP 11 76 11 12 1420 (.object "SpoonRow$Night") true := ⟨by decide, by decide, rfl, rfl, rfl, Or.inl (tb_of 578 (by decide +kernel) (by decide +kernel))⟩
theorem ff11_76 : (clT 11 12).1 = cn 11 ∧ Cond.fieldLink (cn 11) 76 (clT 11 12).1 (clT 11 12).2.1 (clT 11 12).2.2.1 ∈ TB := ⟨rfl, tb_of 578 (by decide +kernel) (by decide +kernel)⟩
theorem k13_77 : LV 13 77 5 yX11_feed mX11_feed := ⟨tb_of 606 (by decide +kernel) (by decide +kernel), t_X11_feed⟩
theorem k11_83 : LV 11 83 1 yX11_feedNumber mX11_feedNumber := ⟨tb_of 610 (by decide +kernel) (by decide +kernel), t_X11_feedNumber⟩
theorem k11_86 : LV 11 86 2 yX6_put mX6_put := ⟨tb_of 614 (by decide +kernel) (by decide +kernel), t_X6_put⟩
theorem k13_92 : LV 13 92 0 yX11_fault mX11_fault := ⟨tb_of 615 (by decide +kernel) (by decide +kernel), t_X11_fault⟩
theorem k13_103 : LV 13 103 2 yX11_swap mX11_swap := ⟨tb_of 619 (by decide +kernel) (by decide +kernel), t_X11_swap⟩
theorem k11_198 : LV 11 198 1 yX11_isPlace mX11_isPlace := ⟨tb_of 623 (by decide +kernel) (by decide +kernel), t_X11_isPlace⟩
theorem k11_98 : LV 11 98 1 yX9_refuse mX9_refuse := ⟨tb_of 627 (by decide +kernel) (by decide +kernel), t_X9_refuse⟩
theorem k9_54 : LV 9 54 2 yX6_add mX6_add := ⟨tb_of 631 (by decide +kernel) (by decide +kernel), t_X6_add⟩
theorem k6_13 : LV 6 13 1 yX6_at mX6_at := ⟨tb_of 635 (by decide +kernel) (by decide +kernel), t_X6_at⟩
theorem k6_17 : LV 6 17 2 yX6_put mX6_put := ⟨tb_of 639 (by decide +kernel) (by decide +kernel), t_X6_put⟩
theorem k11_205 : LV 11 205 2 yX6_exchange mX6_exchange := ⟨tb_of 640 (by decide +kernel) (by decide +kernel), t_X6_exchange⟩
theorem k11_208 : LV 11 208 3 yX3_add mX3_add := ⟨tb_of 644 (by decide +kernel) (by decide +kernel), t_X3_add⟩
theorem k3_25 : LV 3 25 0 yX3_dropOldest mX3_dropOldest := ⟨tb_of 648 (by decide +kernel) (by decide +kernel), t_X3_dropOldest⟩
theorem k3_32 : LV 3 32 1 yX6_at mX6_at := ⟨tb_of 652 (by decide +kernel) (by decide +kernel), t_X6_at⟩
theorem k3_28 : LV 3 28 2 yX6_put mX6_put := ⟨tb_of 653 (by decide +kernel) (by decide +kernel), t_X6_put⟩
theorem k13_108 : LV 13 108 1 yX11_side mX11_side := ⟨tb_of 654 (by decide +kernel) (by decide +kernel), t_X11_side⟩
theorem k13_115 : LV 13 115 2 yX11_bolster mX11_bolster := ⟨tb_of 658 (by decide +kernel) (by decide +kernel), t_X11_bolster⟩
theorem k11_215 : LV 11 215 1 yX4_isBolsterAhead mX4_isBolsterAhead := ⟨tb_of 662 (by decide +kernel) (by decide +kernel), t_X4_isBolsterAhead⟩
theorem k11_218 : LV 11 218 1 yX4_changeBolster mX4_changeBolster := ⟨tb_of 666 (by decide +kernel) (by decide +kernel), t_X4_changeBolster⟩
theorem k13_123 : LV 13 123 0 yX11_undo mX11_undo := ⟨tb_of 670 (by decide +kernel) (by decide +kernel), t_X11_undo⟩
theorem k11_221 : LV 11 221 0 yX9_undoLatest mX9_undoLatest := ⟨tb_of 674 (by decide +kernel) (by decide +kernel), t_X9_undoLatest⟩
theorem k9_62 : LV 9 62 2 yX3_at mX3_at := ⟨tb_of 678 (by decide +kernel) (by decide +kernel), t_X3_at⟩
theorem k9_69 : LV 9 69 2 yX6_exchange mX6_exchange := ⟨tb_of 682 (by decide +kernel) (by decide +kernel), t_X6_exchange⟩
theorem k9_75 : LV 9 75 2 yX4_letSay mX4_letSay := ⟨tb_of 683 (by decide +kernel) (by decide +kernel), t_X4_letSay⟩
theorem k9_78 : LV 9 78 1 yX4_changeBolster mX4_changeBolster := ⟨tb_of 684 (by decide +kernel) (by decide +kernel), t_X4_changeBolster⟩
theorem k9_84 : LV 9 84 2 yX6_put mX6_put := ⟨tb_of 685 (by decide +kernel) (by decide +kernel), t_X6_put⟩
theorem k9_87 : LV 9 87 0 yX3_dropLatest mX3_dropLatest := ⟨tb_of 686 (by decide +kernel) (by decide +kernel), t_X3_dropLatest⟩
theorem k13_140 : LV 13 140 0 yX11_orders mX11_orders := ⟨tb_of 690 (by decide +kernel) (by decide +kernel), t_X11_orders⟩
theorem k11_272 : LV 11 272 1 yX4_copy mX4_copy := ⟨tb_of 694 (by decide +kernel) (by decide +kernel), t_X4_copy⟩
theorem k4_72 : LV 4 72 1 yX6_copy mX6_copy := ⟨tb_of 698 (by decide +kernel) (by decide +kernel), t_X6_copy⟩
theorem k11_276 : LV 11 276 0 yX6_countUp mX6_countUp := ⟨tb_of 702 (by decide +kernel) (by decide +kernel), t_X6_countUp⟩
theorem k11_279 : LV 11 279 1 yX0_allows mX0_allows := ⟨tb_of 703 (by decide +kernel) (by decide +kernel), t_X0_allows⟩
theorem k0_69 : LV 0 69 1 yX6_at mX6_at := ⟨tb_of 707 (by decide +kernel) (by decide +kernel), t_X6_at⟩
theorem k0_85 : LV 0 85 2 yX0_isNever mX0_isNever := ⟨tb_of 708 (by decide +kernel) (by decide +kernel), t_X0_isNever⟩
theorem k11_283 : LV 11 283 0 yX4_nextOrder mX4_nextOrder := ⟨tb_of 712 (by decide +kernel) (by decide +kernel), t_X4_nextOrder⟩
theorem k4_76 : LV 4 76 1 yX6_at mX6_at := ⟨tb_of 716 (by decide +kernel) (by decide +kernel), t_X6_at⟩
theorem k4_80 : LV 4 80 2 yX6_exchange mX6_exchange := ⟨tb_of 717 (by decide +kernel) (by decide +kernel), t_X6_exchange⟩
theorem k13_144 : LV 13 144 0 yX11_order mX11_order := ⟨tb_of 718 (by decide +kernel) (by decide +kernel), t_X11_order⟩
theorem k11_287 : LV 11 287 0 yX11_passTrial mX11_passTrial := ⟨tb_of 722 (by decide +kernel) (by decide +kernel), t_X11_passTrial⟩
theorem k11_240 : LV 11 240 3 yX2_pass mX2_pass := ⟨tb_of 726 (by decide +kernel) (by decide +kernel), t_X2_pass⟩
theorem k2_70 : LV 2 70 0 yX2_lieDown mX2_lieDown := ⟨tb_of 730 (by decide +kernel) (by decide +kernel), t_X2_lieDown⟩
theorem k2_94 : LV 2 94 1 yX6_at mX6_at := ⟨tb_of 734 (by decide +kernel) (by decide +kernel), t_X6_at⟩
theorem k2_98 : LV 2 98 1 yX2_lierIn mX2_lierIn := ⟨tb_of 735 (by decide +kernel) (by decide +kernel), t_X2_lierIn⟩
theorem k2_102 : LV 2 102 1 yX0_who mX0_who := ⟨tb_of 739 (by decide +kernel) (by decide +kernel), t_X0_who⟩
theorem k2_113 : LV 2 113 5 yX1_lieDown mX1_lieDown := ⟨tb_of 740 (by decide +kernel) (by decide +kernel), t_X1_lieDown⟩
theorem k2_73 : LV 2 73 0 yX2_nextEvent mX2_nextEvent := ⟨tb_of 744 (by decide +kernel) (by decide +kernel), t_X2_nextEvent⟩
theorem k2_122 : LM 2 122 Lib.Math.min.name Lib.Math.min.code 2 := ⟨tb_of 748 (by decide +kernel) (by decide +kernel), tb_of 749 (by decide +kernel) (by decide +kernel), tb_of 121 (by decide +kernel) (by decide +kernel), tb_of 750 (by decide +kernel) (by decide +kernel)⟩
theorem k2_128 : LV 2 128 0 yX1_tiredAt mX1_tiredAt := ⟨tb_of 751 (by decide +kernel) (by decide +kernel), t_X1_tiredAt⟩
theorem k2_77 : LV 2 77 0 yX2_passMinute mX2_passMinute := ⟨tb_of 755 (by decide +kernel) (by decide +kernel), t_X2_passMinute⟩
theorem k2_137 : LV 2 137 1 yX2_lierOf mX2_lierOf := ⟨tb_of 759 (by decide +kernel) (by decide +kernel), t_X2_lierOf⟩
theorem k2_116 : LV 2 116 1 yX4_placeOf mX4_placeOf := ⟨tb_of 763 (by decide +kernel) (by decide +kernel), t_X4_placeOf⟩
theorem k2_140 : LV 2 140 4 yX2_turnAll mX2_turnAll := ⟨tb_of 767 (by decide +kernel) (by decide +kernel), t_X2_turnAll⟩
theorem k2_162 : LV 2 162 1 yX1_turnOver mX1_turnOver := ⟨tb_of 771 (by decide +kernel) (by decide +kernel), t_X1_turnOver⟩
theorem k2_165 : LV 2 165 1 yX2_canBeWoken mX2_canBeWoken := ⟨tb_of 775 (by decide +kernel) (by decide +kernel), t_X2_canBeWoken⟩
theorem k2_191 : LV 2 191 0 yX8_canWake mX8_canWake := ⟨tb_of 779 (by decide +kernel) (by decide +kernel), t_X8_canWake⟩
theorem k2_198 : LV 2 198 2 yX1_isAwake mX1_isAwake := ⟨tb_of 783 (by decide +kernel) (by decide +kernel), t_X1_isAwake⟩
theorem k2_169 : LV 2 169 2 yX2_wakes mX2_wakes := ⟨tb_of 787 (by decide +kernel) (by decide +kernel), t_X2_wakes⟩
theorem k2_205 : LM 2 205 Lib.Math.abs.name Lib.Math.abs.code 1 := ⟨tb_of 791 (by decide +kernel) (by decide +kernel), tb_of 792 (by decide +kernel) (by decide +kernel), tb_of 121 (by decide +kernel) (by decide +kernel), tb_of 793 (by decide +kernel) (by decide +kernel)⟩
theorem k2_212 : LV 2 212 0 yX7_isTold mX7_isTold := ⟨tb_of 794 (by decide +kernel) (by decide +kernel), t_X7_isTold⟩
theorem k2_220 : LV 2 220 2 yX7_setValue mX7_setValue := ⟨tb_of 798 (by decide +kernel) (by decide +kernel), t_X7_setValue⟩
theorem k7_30 : LV 7 30 2 yX6_put mX6_put := ⟨tb_of 802 (by decide +kernel) (by decide +kernel), t_X6_put⟩
theorem k2_223 : LV 2 223 1 yX2_snorersIn mX2_snorersIn := ⟨tb_of 803 (by decide +kernel) (by decide +kernel), t_X2_snorersIn⟩
theorem k2_229 : LV 2 229 0 yX7_holds mX7_holds := ⟨tb_of 807 (by decide +kernel) (by decide +kernel), t_X7_holds⟩
theorem k7_34 : LV 7 34 1 yX6_at mX6_at := ⟨tb_of 811 (by decide +kernel) (by decide +kernel), t_X6_at⟩
theorem k7_38 : LSt 7 38 3 yX7_joined mX7_joined := ⟨tb_of 812 (by decide +kernel) (by decide +kernel), t_X7_joined⟩
theorem k2_173 : LV 2 173 1 yX2_wake mX2_wake := ⟨tb_of 815 (by decide +kernel) (by decide +kernel), t_X2_wake⟩
theorem k2_183 : LV 2 183 3 yX2_noteTurn mX2_noteTurn := ⟨tb_of 819 (by decide +kernel) (by decide +kernel), t_X2_noteTurn⟩
theorem k2_187 : LV 2 187 2 yX6_put mX6_put := ⟨tb_of 823 (by decide +kernel) (by decide +kernel), t_X6_put⟩
theorem k2_80 : LM 2 80 Lib.Math.max.name Lib.Math.max.code 2 := ⟨tb_of 824 (by decide +kernel) (by decide +kernel), tb_of 825 (by decide +kernel) (by decide +kernel), tb_of 121 (by decide +kernel) (by decide +kernel), tb_of 826 (by decide +kernel) (by decide +kernel)⟩
theorem k2_148 : LV 2 148 1 yX4_isBolsterAhead mX4_isBolsterAhead := ⟨tb_of 827 (by decide +kernel) (by decide +kernel), t_X4_isBolsterAhead⟩
theorem k2_152 : LV 2 152 2 yX2_firstTired mX2_firstTired := ⟨tb_of 828 (by decide +kernel) (by decide +kernel), t_X2_firstTired⟩
theorem k2_159 : LV 2 159 1 yX1_isTired mX1_isTired := ⟨tb_of 832 (by decide +kernel) (by decide +kernel), t_X1_isTired⟩
theorem k1_51 : LV 1 51 0 yX1_tiredAt mX1_tiredAt := ⟨tb_of 836 (by decide +kernel) (by decide +kernel), t_X1_tiredAt⟩
theorem k2_156 : LV 2 156 1 yX2_goOver mX2_goOver := ⟨tb_of 837 (by decide +kernel) (by decide +kernel), t_X2_goOver⟩
theorem k11_290 : LV 11 290 0 yX11_keepTrialOrder mX11_keepTrialOrder := ⟨tb_of 841 (by decide +kernel) (by decide +kernel), t_X11_keepTrialOrder⟩
theorem k11_293 : LV 11 293 1 yX6_copy mX6_copy := ⟨tb_of 845 (by decide +kernel) (by decide +kernel), t_X6_copy⟩
theorem k13_163 : LV 13 163 0 yX11_edge mX11_edge := ⟨tb_of 846 (by decide +kernel) (by decide +kernel), t_X11_edge⟩
theorem k11_304 : LV 11 304 1 yX0_tenthsWoken mX0_tenthsWoken := ⟨tb_of 850 (by decide +kernel) (by decide +kernel), t_X0_tenthsWoken⟩
theorem k0_99 : LV 0 99 0 yX8_canWake mX8_canWake := ⟨tb_of 854 (by decide +kernel) (by decide +kernel), t_X8_canWake⟩
theorem k13_173 : LV 13 173 0 yX11_forget mX11_forget := ⟨tb_of 855 (by decide +kernel) (by decide +kernel), t_X11_forget⟩
theorem k11_326 : LV 11 326 0 yX3_dropLatest mX3_dropLatest := ⟨tb_of 859 (by decide +kernel) (by decide +kernel), t_X3_dropLatest⟩
theorem k13_186 : LV 13 186 0 yX11_image mX11_image := ⟨tb_of 860 (by decide +kernel) (by decide +kernel), t_X11_image⟩
theorem k11_353 : LV 11 353 1 yX9_copy mX9_copy := ⟨tb_of 864 (by decide +kernel) (by decide +kernel), t_X9_copy⟩
theorem k9_44 : LV 9 44 1 yX4_copy mX4_copy := ⟨tb_of 868 (by decide +kernel) (by decide +kernel), t_X4_copy⟩
theorem k9_48 : LV 9 48 1 yX3_copy mX3_copy := ⟨tb_of 869 (by decide +kernel) (by decide +kernel), t_X3_copy⟩
theorem k3_36 : LV 3 36 1 yX6_copy mX6_copy := ⟨tb_of 873 (by decide +kernel) (by decide +kernel), t_X6_copy⟩
theorem k9_51 : LV 9 51 1 yX6_copy mX6_copy := ⟨tb_of 874 (by decide +kernel) (by decide +kernel), t_X6_copy⟩
theorem k13_190 : LV 13 190 0 yX11_restore mX11_restore := ⟨tb_of 875 (by decide +kernel) (by decide +kernel), t_X11_restore⟩
theorem k13_82 : LSW 13 82 3 yL_bed mL_bed (0, 9, 12, 13) [] := ⟨tb_of 879 (by decide +kernel) (by decide +kernel), t_L_bed⟩
theorem nl13_13 : Cond.classLink (cn 13) 13 "java/lang/IllegalArgumentException" ∈ TB := tb_of 882 (by decide +kernel) (by decide +kernel)
theorem k13_7 : LV 13 7 1 yX11_bed mX11_bed := ⟨tb_of 883 (by decide +kernel) (by decide +kernel), t_X11_bed⟩
theorem nl11_90 : Cond.classLink (cn 11) 90 "java/lang/IllegalArgumentException" ∈ TB := tb_of 887 (by decide +kernel) (by decide +kernel)
theorem k11_93 : LV 11 93 3 yX5_read mX5_read := ⟨tb_of 949 (by decide +kernel) (by decide +kernel), t_X5_read⟩
theorem k5_39 : LV 5 39 0 yX0_makeAnew mX0_makeAnew := ⟨tb_of 953 (by decide +kernel) (by decide +kernel), t_X0_makeAnew⟩
theorem k5_44 : LV 5 44 2 yX10_start mX10_start := ⟨tb_of 954 (by decide +kernel) (by decide +kernel), t_X10_start⟩
theorem k10_26 : LV 10 26 0 yX10_advance mX10_advance := ⟨tb_of 958 (by decide +kernel) (by decide +kernel), t_X10_advance⟩
theorem k10_29 : LV 10 29 1 yX10_kindAt mX10_kindAt := ⟨tb_of 962 (by decide +kernel) (by decide +kernel), t_X10_kindAt⟩
theorem k10_33 : LV 10 33 1 yX6_at mX6_at := ⟨tb_of 966 (by decide +kernel) (by decide +kernel), t_X6_at⟩
theorem c17_227 : Cond.constant (cn 17) 227 65536 ∈ TB := tb_of 1006 (by decide +kernel) (by decide +kernel)
theorem k5_51 : LV 5 51 0 yX5_readLine mX5_readLine := ⟨tb_of 1050 (by decide +kernel) (by decide +kernel), t_X5_readLine⟩
theorem k5_60 : LV 5 60 0 yX5_kindOfWord mX5_kindOfWord := ⟨tb_of 1054 (by decide +kernel) (by decide +kernel), t_X5_kindOfWord⟩
theorem k5_72 : LV 5 72 1 yX10_isWord mX10_isWord := ⟨tb_of 1059 (by decide +kernel) (by decide +kernel), t_X10_isWord⟩
theorem k5_64 : LV 5 64 0 yX5_readDog mX5_readDog := ⟨tb_of 1087 (by decide +kernel) (by decide +kernel), t_X5_readDog⟩
theorem k5_148 : LV 5 148 0 yX5_takeNewSleeper mX5_takeNewSleeper := ⟨tb_of 1091 (by decide +kernel) (by decide +kernel), t_X5_takeNewSleeper⟩
theorem k5_128 : LV 5 128 1 yX5_refuse mX5_refuse := ⟨tb_of 1095 (by decide +kernel) (by decide +kernel), t_X5_refuse⟩
theorem k5_57 : LV 5 57 0 yX10_stop mX10_stop := ⟨tb_of 1099 (by decide +kernel) (by decide +kernel), t_X10_stop⟩
theorem k5_131 : LV 5 131 0 yX10_advance mX10_advance := ⟨tb_of 1103 (by decide +kernel) (by decide +kernel), t_X10_advance⟩
theorem k5_109 : LV 5 109 2 yX5_takeNumber mX5_takeNumber := ⟨tb_of 1104 (by decide +kernel) (by decide +kernel), t_X5_takeNumber⟩
theorem k5_134 : LV 5 134 2 yX10_isNumberWithin mX10_isNumberWithin := ⟨tb_of 1108 (by decide +kernel) (by decide +kernel), t_X10_isNumberWithin⟩
theorem k10_51 : LV 10 51 0 yX10_number mX10_number := ⟨tb_of 1112 (by decide +kernel) (by decide +kernel), t_X10_number⟩
theorem k5_138 : LV 5 138 0 yX10_number mX10_number := ⟨tb_of 1116 (by decide +kernel) (by decide +kernel), t_X10_number⟩
theorem k5_151 : LV 5 151 1 yX0_who mX0_who := ⟨tb_of 1117 (by decide +kernel) (by decide +kernel), t_X0_who⟩
theorem k5_155 : LV 5 155 2 yX8_tell mX8_tell := ⟨tb_of 1118 (by decide +kernel) (by decide +kernel), t_X8_tell⟩
theorem k8_33 : LV 8 33 3 yX8_tellSides mX8_tellSides := ⟨tb_of 1122 (by decide +kernel) (by decide +kernel), t_X8_tellSides⟩
theorem k8_37 : LV 8 37 2 yX8_tellOut mX8_tellOut := ⟨tb_of 1126 (by decide +kernel) (by decide +kernel), t_X8_tellOut⟩
theorem k5_67 : LV 5 67 1 yX5_readPerson mX5_readPerson := ⟨tb_of 1130 (by decide +kernel) (by decide +kernel), t_X5_readPerson⟩
theorem k5_161 : LV 5 161 3 yX8_tellSides mX8_tellSides := ⟨tb_of 1134 (by decide +kernel) (by decide +kernel), t_X8_tellSides⟩
theorem k5_165 : LV 5 165 2 yX8_tellOut mX8_tellOut := ⟨tb_of 1135 (by decide +kernel) (by decide +kernel), t_X8_tellOut⟩
theorem k5_76 : LV 5 76 0 yX5_readBolster mX5_readBolster := ⟨tb_of 1137 (by decide +kernel) (by decide +kernel), t_X5_readBolster⟩
theorem k5_81 : LV 5 81 0 yX5_readNever mX5_readNever := ⟨tb_of 1142 (by decide +kernel) (by decide +kernel), t_X5_readNever⟩
theorem k5_174 : LV 5 174 0 yX5_refuseUntold mX5_refuseUntold := ⟨tb_of 1146 (by decide +kernel) (by decide +kernel), t_X5_refuseUntold⟩
theorem k5_177 : LV 5 177 2 yX0_isNever mX0_isNever := ⟨tb_of 1150 (by decide +kernel) (by decide +kernel), t_X0_isNever⟩
theorem k5_180 : LV 5 180 2 yX0_addNever mX0_addNever := ⟨tb_of 1151 (by decide +kernel) (by decide +kernel), t_X0_addNever⟩
theorem k0_73 : LV 0 73 2 yX6_put mX6_put := ⟨tb_of 1155 (by decide +kernel) (by decide +kernel), t_X6_put⟩
theorem k5_86 : LV 5 86 1 yX5_takeOnce mX5_takeOnce := ⟨tb_of 1157 (by decide +kernel) (by decide +kernel), t_X5_takeOnce⟩
theorem k5_89 : LV 5 89 1 yX5_readExpr mX5_readExpr := ⟨tb_of 1161 (by decide +kernel) (by decide +kernel), t_X5_readExpr⟩
theorem k5_183 : LV 5 183 0 yX5_canBeginPart mX5_canBeginPart := ⟨tb_of 1165 (by decide +kernel) (by decide +kernel), t_X5_canBeginPart⟩
theorem k5_141 : LV 5 141 1 yX10_isSign mX10_isSign := ⟨tb_of 1169 (by decide +kernel) (by decide +kernel), t_X10_isSign⟩
theorem k5_187 : LV 5 187 1 yX5_readAnd mX5_readAnd := ⟨tb_of 1173 (by decide +kernel) (by decide +kernel), t_X5_readAnd⟩
theorem k5_201 : LV 5 201 1 yX5_readNot mX5_readNot := ⟨tb_of 1177 (by decide +kernel) (by decide +kernel), t_X5_readNot⟩
theorem k5_208 : LV 5 208 1 yX5_readTest mX5_readTest := ⟨tb_of 1182 (by decide +kernel) (by decide +kernel), t_X5_readTest⟩
theorem k5_211 : LV 5 211 1 yX5_readSum mX5_readSum := ⟨tb_of 1186 (by decide +kernel) (by decide +kernel), t_X5_readSum⟩
theorem k5_214 : LV 5 214 1 yX5_readProduct mX5_readProduct := ⟨tb_of 1190 (by decide +kernel) (by decide +kernel), t_X5_readProduct⟩
theorem k5_217 : LV 5 217 1 yX5_readPart mX5_readPart := ⟨tb_of 1194 (by decide +kernel) (by decide +kernel), t_X5_readPart⟩
theorem k5_95 : LV 5 95 1 yX5_takeSign mX5_takeSign := ⟨tb_of 1198 (by decide +kernel) (by decide +kernel), t_X5_takeSign⟩
theorem k5_220 : LV 5 220 0 yX5_readValue mX5_readValue := ⟨tb_of 1202 (by decide +kernel) (by decide +kernel), t_X5_readValue⟩
theorem k5_223 : LV 5 223 0 yX5_valueOfWord mX5_valueOfWord := ⟨tb_of 1206 (by decide +kernel) (by decide +kernel), t_X5_valueOfWord⟩
theorem k5_198 : LV 5 198 1 yX7_add mX7_add := ⟨tb_of 1217 (by decide +kernel) (by decide +kernel), t_X7_add⟩
theorem k5_92 : LV 5 92 0 yX5_readSetting mX5_readSetting := ⟨tb_of 1223 (by decide +kernel) (by decide +kernel), t_X5_readSetting⟩
theorem k13_96 : LSW 13 96 3 yL_count mL_count (0, 9, 12, 18) [] := ⟨tb_of 1231 (by decide +kernel) (by decide +kernel), t_L_count⟩
theorem nl13_18 : Cond.classLink (cn 13) 18 "java/util/NoSuchElementException" ∈ TB := tb_of 1234 (by decide +kernel) (by decide +kernel)
theorem k13_15 : LV 13 15 1 yX11_count mX11_count := ⟨tb_of 1235 (by decide +kernel) (by decide +kernel), t_X11_count⟩
theorem k11_152 : LV 11 152 1 yX6_at mX6_at := ⟨tb_of 1239 (by decide +kernel) (by decide +kernel), t_X6_at⟩
theorem nl11_156 : Cond.classLink (cn 11) 156 "java/util/NoSuchElementException" ∈ TB := tb_of 1240 (by decide +kernel) (by decide +kernel)
theorem k13_99 : LSW 13 99 4 yL_sleeper mL_sleeper (0, 10, 13, 18) [] := ⟨tb_of 1255 (by decide +kernel) (by decide +kernel), t_L_sleeper⟩
theorem k13_20 : LV 13 20 2 yX11_sleeper mX11_sleeper := ⟨tb_of 1258 (by decide +kernel) (by decide +kernel), t_X11_sleeper⟩
theorem k11_159 : LV 11 159 1 yX11_toldSleeper mX11_toldSleeper := ⟨tb_of 1262 (by decide +kernel) (by decide +kernel), t_X11_toldSleeper⟩
theorem k11_192 : LV 11 192 2 yX11_checkNumber mX11_checkNumber := ⟨tb_of 1266 (by decide +kernel) (by decide +kernel), t_X11_checkNumber⟩
theorem k11_195 : LV 11 195 1 yX0_who mX0_who := ⟨tb_of 1270 (by decide +kernel) (by decide +kernel), t_X0_who⟩
theorem k11_186 : LV 11 186 1 yX4_placeOf mX4_placeOf := ⟨tb_of 1271 (by decide +kernel) (by decide +kernel), t_X4_placeOf⟩
theorem k13_112 : LSW 13 112 4 yL_word mL_word (0, 10, 13, 18) [] := ⟨tb_of 1272 (by decide +kernel) (by decide +kernel), t_L_word⟩
theorem k13_24 : LV 13 24 2 yX11_word mX11_word := ⟨tb_of 1275 (by decide +kernel) (by decide +kernel), t_X11_word⟩
theorem k11_212 : LV 11 212 2 yX4_letSay mX4_letSay := ⟨tb_of 1279 (by decide +kernel) (by decide +kernel), t_X4_letSay⟩
theorem k13_120 : LSW 13 120 4 yL_out mL_out (0, 10, 13, 18) [] := ⟨tb_of 1280 (by decide +kernel) (by decide +kernel), t_L_out⟩
theorem k13_27 : LV 13 27 2 yX11_out mX11_out := ⟨tb_of 1283 (by decide +kernel) (by decide +kernel), t_X11_out⟩
theorem k13_127 : LSW 13 127 3 yL_night mL_night (0, 9, 12, 18) [] := ⟨tb_of 1287 (by decide +kernel) (by decide +kernel), t_L_night⟩
theorem k13_30 : LV 13 30 1 yX11_night mX11_night := ⟨tb_of 1290 (by decide +kernel) (by decide +kernel), t_X11_night⟩
theorem k11_224 : LV 11 224 0 yX11_passNight mX11_passNight := ⟨tb_of 1294 (by decide +kernel) (by decide +kernel), t_X11_passNight⟩
theorem k11_236 : LV 11 236 0 yX11_worstOff mX11_worstOff := ⟨tb_of 1298 (by decide +kernel) (by decide +kernel), t_X11_worstOff⟩
theorem k11_244 : LV 11 244 1 yX2_lierOf mX2_lierOf := ⟨tb_of 1302 (by decide +kernel) (by decide +kernel), t_X2_lierOf⟩
theorem k13_130 : LSW 13 130 4 yL_woken mL_woken (0, 10, 13, 18) [] := ⟨tb_of 1303 (by decide +kernel) (by decide +kernel), t_L_woken⟩
theorem k13_33 : LV 13 33 2 yX11_woken mX11_woken := ⟨tb_of 1306 (by decide +kernel) (by decide +kernel), t_X11_woken⟩
theorem k13_133 : LSW 13 133 5 yL_lies mL_lies (0, 12, 15, 18) [(0, 12, 19, 13)] := ⟨tb_of 1310 (by decide +kernel) (by decide +kernel), t_L_lies⟩
theorem k13_36 : LV 13 36 3 yX11_lies mX11_lies := ⟨tb_of 1313 (by decide +kernel) (by decide +kernel), t_X11_lies⟩
theorem k11_256 : LV 11 256 2 yX11_checkBound mX11_checkBound := ⟨tb_of 1317 (by decide +kernel) (by decide +kernel), t_X11_checkBound⟩
theorem k11_262 : LV 11 262 2 yX1_isAwake mX1_isAwake := ⟨tb_of 1321 (by decide +kernel) (by decide +kernel), t_X1_isAwake⟩
theorem k13_137 : LSW 13 137 4 yL_turn mL_turn (0, 10, 13, 18) [] := ⟨tb_of 1322 (by decide +kernel) (by decide +kernel), t_L_turn⟩
theorem k13_40 : LV 13 40 2 yX11_turn mX11_turn := ⟨tb_of 1325 (by decide +kernel) (by decide +kernel), t_X11_turn⟩
theorem k13_148 : LSW 13 148 3 yL_kept mL_kept (0, 9, 12, 18) [] := ⟨tb_of 1329 (by decide +kernel) (by decide +kernel), t_L_kept⟩
theorem k13_43 : LV 13 43 1 yX11_kept mX11_kept := ⟨tb_of 1332 (by decide +kernel) (by decide +kernel), t_X11_kept⟩
theorem k13_151 : LSW 13 151 4 yL_every mL_every (0, 10, 13, 18) [(0, 10, 17, 13)] := ⟨tb_of 1336 (by decide +kernel) (by decide +kernel), t_L_every⟩
theorem k13_46 : LV 13 46 2 yX11_every mX11_every := ⟨tb_of 1339 (by decide +kernel) (by decide +kernel), t_X11_every⟩
theorem k13_154 : LSW 13 154 3 yL_bolsters mL_bolsters (0, 9, 12, 18) [] := ⟨tb_of 1343 (by decide +kernel) (by decide +kernel), t_L_bolsters⟩
theorem k13_49 : LV 13 49 1 yX11_bolsters mX11_bolsters := ⟨tb_of 1346 (by decide +kernel) (by decide +kernel), t_X11_bolsters⟩
theorem c14_265 : Cond.constant (cn 14) 265 1431655765 ∈ TB := tb_of 1353 (by decide +kernel) (by decide +kernel)
theorem c14_266 : Cond.constant (cn 14) 266 858993459 ∈ TB := tb_of 1354 (by decide +kernel) (by decide +kernel)
theorem c14_267 : Cond.constant (cn 14) 267 252645135 ∈ TB := tb_of 1355 (by decide +kernel) (by decide +kernel)
theorem k13_157 : LSW 13 157 3 yL_free mL_free (0, 9, 12, 18) [] := ⟨tb_of 1356 (by decide +kernel) (by decide +kernel), t_L_free⟩
theorem k13_52 : LV 13 52 1 yX11_free mX11_free := ⟨tb_of 1359 (by decide +kernel) (by decide +kernel), t_X11_free⟩
theorem k13_160 : LSW 13 160 3 yL_outs mL_outs (0, 9, 12, 18) [] := ⟨tb_of 1363 (by decide +kernel) (by decide +kernel), t_L_outs⟩
theorem k13_55 : LV 13 55 1 yX11_outs mX11_outs := ⟨tb_of 1366 (by decide +kernel) (by decide +kernel), t_X11_outs⟩
theorem k13_167 : LSW 13 167 4 yL_fair mL_fair (0, 10, 13, 18) [(0, 10, 17, 13)] := ⟨tb_of 1370 (by decide +kernel) (by decide +kernel), t_L_fair⟩
theorem k13_58 : LV 13 58 2 yX11_fair mX11_fair := ⟨tb_of 1373 (by decide +kernel) (by decide +kernel), t_X11_fair⟩
theorem k11_308 : LV 11 308 0 yX2_forgetSums mX2_forgetSums := ⟨tb_of 1377 (by decide +kernel) (by decide +kernel), t_X2_forgetSums⟩
theorem k2_235 : LV 2 235 1 yX6_fill mX6_fill := ⟨tb_of 1381 (by decide +kernel) (by decide +kernel), t_X6_fill⟩
theorem k11_311 : LV 11 311 0 yX2_addToSums mX2_addToSums := ⟨tb_of 1382 (by decide +kernel) (by decide +kernel), t_X2_addToSums⟩
theorem k2_238 : LV 2 238 2 yX6_add mX6_add := ⟨tb_of 1386 (by decide +kernel) (by decide +kernel), t_X6_add⟩
theorem k11_314 : LV 11 314 0 yX4_moveToEdge mX4_moveToEdge := ⟨tb_of 1387 (by decide +kernel) (by decide +kernel), t_X4_moveToEdge⟩
theorem k11_317 : LV 11 317 0 yX11_apart mX11_apart := ⟨tb_of 1391 (by decide +kernel) (by decide +kernel), t_X11_apart⟩
theorem k11_323 : LV 11 323 0 yX8_canWake mX8_canWake := ⟨tb_of 1395 (by decide +kernel) (by decide +kernel), t_X8_canWake⟩
theorem k13_170 : LSW 13 170 5 yL_see mL_see (0, 12, 15, 18) [] := ⟨tb_of 1396 (by decide +kernel) (by decide +kernel), t_L_see⟩
theorem k13_61 : LV 13 61 3 yX11_see mX11_see := ⟨tb_of 1399 (by decide +kernel) (by decide +kernel), t_X11_see⟩
theorem k13_177 : LSW 13 177 3 yL_fits mL_fits (0, 9, 12, 18) [] := ⟨tb_of 1403 (by decide +kernel) (by decide +kernel), t_L_fits⟩
theorem k13_64 : LV 13 64 1 yX11_fits mX11_fits := ⟨tb_of 1406 (by decide +kernel) (by decide +kernel), t_X11_fits⟩
theorem k11_329 : LV 11 329 0 yX11_trialFits mX11_trialFits := ⟨tb_of 1410 (by decide +kernel) (by decide +kernel), t_X11_trialFits⟩
theorem k11_332 : LV 11 332 2 yX3_at mX3_at := ⟨tb_of 1414 (by decide +kernel) (by decide +kernel), t_X3_at⟩
theorem k11_335 : LM 11 335 Lib.Math.min.name Lib.Math.min.code 2 := ⟨tb_of 1415 (by decide +kernel) (by decide +kernel), tb_of 749 (by decide +kernel) (by decide +kernel), tb_of 121 (by decide +kernel) (by decide +kernel), tb_of 750 (by decide +kernel) (by decide +kernel)⟩
theorem k13_180 : LSW 13 180 3 yL_without mL_without (0, 9, 12, 18) [] := ⟨tb_of 1416 (by decide +kernel) (by decide +kernel), t_L_without⟩
theorem k13_67 : LV 13 67 1 yX11_without mX11_without := ⟨tb_of 1419 (by decide +kernel) (by decide +kernel), t_X11_without⟩
theorem k11_340 : LV 11 340 1 yX4_leaveOut mX4_leaveOut := ⟨tb_of 1423 (by decide +kernel) (by decide +kernel), t_X4_leaveOut⟩
theorem k4_83 : LV 4 83 1 yX4_placeOf mX4_placeOf := ⟨tb_of 1427 (by decide +kernel) (by decide +kernel), t_X4_placeOf⟩
theorem k11_343 : LV 11 343 1 yX0_isFreeWithout mX0_isFreeWithout := ⟨tb_of 1428 (by decide +kernel) (by decide +kernel), t_X0_isFreeWithout⟩
theorem k13_183 : LSW 13 183 5 yL_year mL_year (0, 12, 15, 18) [(0, 12, 19, 13)] := ⟨tb_of 1429 (by decide +kernel) (by decide +kernel), t_L_year⟩
theorem k13_70 : LV 13 70 3 yX11_year mX11_year := ⟨tb_of 1432 (by decide +kernel) (by decide +kernel), t_X11_year⟩
theorem k11_346 : LV 11 346 2 yX4_drawOuts mX4_drawOuts := ⟨tb_of 1436 (by decide +kernel) (by decide +kernel), t_X4_drawOuts⟩
theorem k4_89 : LSt 4 89 1 yX4_nextSeed mX4_nextSeed := ⟨tb_of 1440 (by decide +kernel) (by decide +kernel), t_X4_nextSeed⟩
theorem c4_102 : Cond.constant (cn 4) 102 1103515245 ∈ TB := tb_of 1443 (by decide +kernel) (by decide +kernel)
theorem k4_92 : LSt 4 92 2 yX4_draw mX4_draw := ⟨tb_of 1444 (by decide +kernel) (by decide +kernel), t_X4_draw⟩
theorem k11_350 : LM 11 350 Lib.Math.max.name Lib.Math.max.code 2 := ⟨tb_of 1447 (by decide +kernel) (by decide +kernel), tb_of 825 (by decide +kernel) (by decide +kernel), tb_of 121 (by decide +kernel) (by decide +kernel), tb_of 826 (by decide +kernel) (by decide +kernel)⟩
theorem n13_74 : NP 13 74 12 := ⟨by decide, tb_of 1448 (by decide +kernel) (by decide +kernel), tb_of 1449 (by decide +kernel) (by decide +kernel), tb_of 114 (by decide +kernel) (by decide +kernel)⟩
theorem nl13_74 : Cond.classLink (cn 13) 74 "SpoonRowModel" ∈ TB := tb_of 1448 (by decide +kernel) (by decide +kernel)
theorem k13_76 : LI 13 76 0 yX12_init mX12_init := ⟨Or.inl (tb_of 1450 (by decide +kernel) (by decide +kernel)), t_X12_init⟩
theorem k12_3 : Cond.methodLink (cn 12) 3 objectInit ∈ TB := tb_of 1453 (by decide +kernel) (by decide +kernel)
theorem nl12_9 : Cond.classLink (cn 12) 9 "java/lang/String" ∈ TB := tb_of 1454 (by decide +kernel) (by decide +kernel)
theorem f12_17 : FP 12 17 12 0 1536 (.array (.object "java/lang/String")) true := ⟨by decide, by decide, rfl, rfl, rfl, Or.inl (tb_of 1466 (by decide +kernel) (by decide +kernel))⟩
theorem ff12_17 : (clT 12 0).1 = cn 12 ∧ Cond.fieldLink (cn 12) 17 (clT 12 0).1 (clT 12 0).2.1 (clT 12 0).2.2.1 ∈ TB := ⟨rfl, tb_of 1466 (by decide +kernel) (by decide +kernel)⟩
theorem f12_35 : FP 12 35 12 1 1537 (.array (.object "java/lang/String")) true := ⟨by decide, by decide, rfl, rfl, rfl, Or.inl (tb_of 1467 (by decide +kernel) (by decide +kernel))⟩
theorem ff12_35 : (clT 12 1).1 = cn 12 ∧ Cond.fieldLink (cn 12) 35 (clT 12 1).1 (clT 12 1).2.1 (clT 12 1).2.2.1 ∈ TB := ⟨rfl, tb_of 1467 (by decide +kernel) (by decide +kernel)⟩
theorem f12_159 : FP 12 159 12 2 1538 .int false := ⟨by decide, by decide, rfl, rfl, rfl, Or.inl (tb_of 1468 (by decide +kernel) (by decide +kernel))⟩
theorem f12_38 : FP 12 38 12 3 1539 (.array .int) true := ⟨by decide, by decide, rfl, rfl, rfl, Or.inl (tb_of 1469 (by decide +kernel) (by decide +kernel))⟩
theorem ff12_38 : (clT 12 3).1 = cn 12 ∧ Cond.fieldLink (cn 12) 38 (clT 12 3).1 (clT 12 3).2.1 (clT 12 3).2.2.1 ∈ TB := ⟨rfl, tb_of 1469 (by decide +kernel) (by decide +kernel)⟩
theorem f12_42 : FP 12 42 12 4 1540 (.array .int) true := ⟨by decide, by decide, rfl, rfl, rfl, Or.inl (tb_of 1470 (by decide +kernel) (by decide +kernel))⟩
theorem ff12_42 : (clT 12 4).1 = cn 12 ∧ Cond.fieldLink (cn 12) 42 (clT 12 4).1 (clT 12 4).2.1 (clT 12 4).2.2.1 ∈ TB := ⟨rfl, tb_of 1470 (by decide +kernel) (by decide +kernel)⟩
theorem f12_45 : FP 12 45 12 5 1541 (.array .int) true := ⟨by decide, by decide, rfl, rfl, rfl, Or.inl (tb_of 1471 (by decide +kernel) (by decide +kernel))⟩
theorem ff12_45 : (clT 12 5).1 = cn 12 ∧ Cond.fieldLink (cn 12) 45 (clT 12 5).1 (clT 12 5).2.1 (clT 12 5).2.2.1 ∈ TB := ⟨rfl, tb_of 1471 (by decide +kernel) (by decide +kernel)⟩
theorem f12_48 : FP 12 48 12 6 1542 (.array .int) true := ⟨by decide, by decide, rfl, rfl, rfl, Or.inl (tb_of 1472 (by decide +kernel) (by decide +kernel))⟩
theorem ff12_48 : (clT 12 6).1 = cn 12 ∧ Cond.fieldLink (cn 12) 48 (clT 12 6).1 (clT 12 6).2.1 (clT 12 6).2.2.1 ∈ TB := ⟨rfl, tb_of 1472 (by decide +kernel) (by decide +kernel)⟩
theorem f12_50 : FP 12 50 12 7 1543 (.array .int) true := ⟨by decide, by decide, rfl, rfl, rfl, Or.inl (tb_of 1473 (by decide +kernel) (by decide +kernel))⟩
theorem ff12_50 : (clT 12 7).1 = cn 12 ∧ Cond.fieldLink (cn 12) 50 (clT 12 7).1 (clT 12 7).2.1 (clT 12 7).2.2.1 ∈ TB := ⟨rfl, tb_of 1473 (by decide +kernel) (by decide +kernel)⟩
theorem f12_53 : FP 12 53 12 8 1544 (.array .int) true := ⟨by decide, by decide, rfl, rfl, rfl, Or.inl (tb_of 1474 (by decide +kernel) (by decide +kernel))⟩
theorem ff12_53 : (clT 12 8).1 = cn 12 ∧ Cond.fieldLink (cn 12) 53 (clT 12 8).1 (clT 12 8).2.1 (clT 12 8).2.2.1 ∈ TB := ⟨rfl, tb_of 1474 (by decide +kernel) (by decide +kernel)⟩
theorem f12_56 : FP 12 56 12 9 1545 (.array .int) true := ⟨by decide, by decide, rfl, rfl, rfl, Or.inl (tb_of 1475 (by decide +kernel) (by decide +kernel))⟩
theorem ff12_56 : (clT 12 9).1 = cn 12 ∧ Cond.fieldLink (cn 12) 56 (clT 12 9).1 (clT 12 9).2.1 (clT 12 9).2.2.1 ∈ TB := ⟨rfl, tb_of 1475 (by decide +kernel) (by decide +kernel)⟩
theorem f12_59 : FP 12 59 12 10 1546 (.array .int) true := ⟨by decide, by decide, rfl, rfl, rfl, Or.inl (tb_of 1476 (by decide +kernel) (by decide +kernel))⟩
theorem ff12_59 : (clT 12 10).1 = cn 12 ∧ Cond.fieldLink (cn 12) 59 (clT 12 10).1 (clT 12 10).2.1 (clT 12 10).2.2.1 ∈ TB := ⟨rfl, tb_of 1476 (by decide +kernel) (by decide +kernel)⟩
theorem f12_62 : FP 12 62 12 11 1547 (.array .int) true := ⟨by decide, by decide, rfl, rfl, rfl, Or.inl (tb_of 1477 (by decide +kernel) (by decide +kernel))⟩
theorem ff12_62 : (clT 12 11).1 = cn 12 ∧ Cond.fieldLink (cn 12) 62 (clT 12 11).1 (clT 12 11).2.1 (clT 12 11).2.2.1 ∈ TB := ⟨rfl, tb_of 1477 (by decide +kernel) (by decide +kernel)⟩
theorem f12_65 : FP 12 65 12 12 1548 (.array .int) true := ⟨by decide, by decide, rfl, rfl, rfl, Or.inl (tb_of 1478 (by decide +kernel) (by decide +kernel))⟩
theorem ff12_65 : (clT 12 12).1 = cn 12 ∧ Cond.fieldLink (cn 12) 65 (clT 12 12).1 (clT 12 12).2.1 (clT 12 12).2.2.1 ∈ TB := ⟨rfl, tb_of 1478 (by decide +kernel) (by decide +kernel)⟩
theorem f12_68 : FP 12 68 12 13 1549 (.array .int) true := ⟨by decide, by decide, rfl, rfl, rfl, Or.inl (tb_of 1479 (by decide +kernel) (by decide +kernel))⟩
theorem ff12_68 : (clT 12 13).1 = cn 12 ∧ Cond.fieldLink (cn 12) 68 (clT 12 13).1 (clT 12 13).2.1 (clT 12 13).2.2.1 ∈ TB := ⟨rfl, tb_of 1479 (by decide +kernel) (by decide +kernel)⟩
theorem f12_166 : FP 12 166 12 14 1550 .int false := ⟨by decide, by decide, rfl, rfl, rfl, Or.inl (tb_of 1480 (by decide +kernel) (by decide +kernel))⟩
theorem f12_172 : FP 12 172 12 15 1551 .int false := ⟨by decide, by decide, rfl, rfl, rfl, Or.inl (tb_of 1481 (by decide +kernel) (by decide +kernel))⟩
theorem f12_169 : FP 12 169 12 16 1552 .int false := ⟨by decide, by decide, rfl, rfl, rfl, Or.inl (tb_of 1482 (by decide +kernel) (by decide +kernel))⟩
theorem f12_182 : FP 12 182 12 17 1553 .int false := ⟨by decide, by decide, rfl, rfl, rfl, Or.inl (tb_of 1483 (by decide +kernel) (by decide +kernel))⟩
theorem f12_192 : FP 12 192 12 18 1554 .int false := ⟨by decide, by decide, rfl, rfl, rfl, Or.inl (tb_of 1484 (by decide +kernel) (by decide +kernel))⟩
theorem f12_179 : FP 12 179 12 19 1555 .int false := ⟨by decide, by decide, rfl, rfl, rfl, Or.inl (tb_of 1485 (by decide +kernel) (by decide +kernel))⟩
theorem f12_205 : FP 12 205 12 20 1556 .int false := ⟨by decide, by decide, rfl, rfl, rfl, Or.inl (tb_of 1486 (by decide +kernel) (by decide +kernel))⟩
theorem f12_208 : FP 12 208 12 21 1557 .int false := ⟨by decide, by decide, rfl, rfl, rfl, Or.inl (tb_of 1487 (by decide +kernel) (by decide +kernel))⟩
theorem f12_211 : FP 12 211 12 22 1558 .int false := ⟨by decide, by decide, rfl, rfl, rfl, Or.inl (tb_of 1488 (by decide +kernel) (by decide +kernel))⟩
theorem f12_71 : FP 12 71 12 23 1559 .int false := ⟨by decide, by decide, rfl, rfl, rfl, Or.inl (tb_of 1489 (by decide +kernel) (by decide +kernel))⟩
theorem f12_75 : FP 12 75 12 24 1560 (.array .int) true := ⟨by decide, by decide, rfl, rfl, rfl, Or.inl (tb_of 1490 (by decide +kernel) (by decide +kernel))⟩
theorem ff12_75 : (clT 12 24).1 = cn 12 ∧ Cond.fieldLink (cn 12) 75 (clT 12 24).1 (clT 12 24).2.1 (clT 12 24).2.2.1 ∈ TB := ⟨rfl, tb_of 1490 (by decide +kernel) (by decide +kernel)⟩
theorem f12_78 : FP 12 78 12 25 1561 (.array .int) true := ⟨by decide, by decide, rfl, rfl, rfl, Or.inl (tb_of 1491 (by decide +kernel) (by decide +kernel))⟩
theorem ff12_78 : (clT 12 25).1 = cn 12 ∧ Cond.fieldLink (cn 12) 78 (clT 12 25).1 (clT 12 25).2.1 (clT 12 25).2.2.1 ∈ TB := ⟨rfl, tb_of 1491 (by decide +kernel) (by decide +kernel)⟩
theorem f12_315 : FP 12 315 12 26 1562 .int false := ⟨by decide, by decide, rfl, rfl, rfl, Or.inl (tb_of 1492 (by decide +kernel) (by decide +kernel))⟩
theorem f12_81 : FP 12 81 12 27 1563 .int false := ⟨by decide, by decide, rfl, rfl, rfl, Or.inl (tb_of 1493 (by decide +kernel) (by decide +kernel))⟩
theorem f12_318 : FP 12 318 12 28 1564 .int false := ⟨by decide, by decide, rfl, rfl, rfl, Or.inl (tb_of 1494 (by decide +kernel) (by decide +kernel))⟩
theorem f12_321 : FP 12 321 12 29 1565 .int false := ⟨by decide, by decide, rfl, rfl, rfl, Or.inl (tb_of 1495 (by decide +kernel) (by decide +kernel))⟩
theorem f12_324 : FP 12 324 12 30 1566 .int false := ⟨by decide, by decide, rfl, rfl, rfl, Or.inl (tb_of 1496 (by decide +kernel) (by decide +kernel))⟩
theorem f12_327 : FP 12 327 12 31 1567 .int false := ⟨by decide, by decide, rfl, rfl, rfl, Or.inl (tb_of 1497 (by decide +kernel) (by decide +kernel))⟩
theorem f12_84 : FP 12 84 12 32 1568 (.array .int) true := ⟨by decide, by decide, rfl, rfl, rfl, Or.inl (tb_of 1498 (by decide +kernel) (by decide +kernel))⟩
theorem ff12_84 : (clT 12 32).1 = cn 12 ∧ Cond.fieldLink (cn 12) 84 (clT 12 32).1 (clT 12 32).2.1 (clT 12 32).2.2.1 ∈ TB := ⟨rfl, tb_of 1498 (by decide +kernel) (by decide +kernel)⟩
theorem f12_87 : FP 12 87 12 33 1569 (.array .int) true := ⟨by decide, by decide, rfl, rfl, rfl, Or.inl (tb_of 1499 (by decide +kernel) (by decide +kernel))⟩
theorem ff12_87 : (clT 12 33).1 = cn 12 ∧ Cond.fieldLink (cn 12) 87 (clT 12 33).1 (clT 12 33).2.1 (clT 12 33).2.2.1 ∈ TB := ⟨rfl, tb_of 1499 (by decide +kernel) (by decide +kernel)⟩
theorem f12_90 : FP 12 90 12 34 1570 (.array .int) true := ⟨by decide, by decide, rfl, rfl, rfl, Or.inl (tb_of 1500 (by decide +kernel) (by decide +kernel))⟩
theorem ff12_90 : (clT 12 34).1 = cn 12 ∧ Cond.fieldLink (cn 12) 90 (clT 12 34).1 (clT 12 34).2.1 (clT 12 34).2.2.1 ∈ TB := ⟨rfl, tb_of 1500 (by decide +kernel) (by decide +kernel)⟩
theorem f12_93 : FP 12 93 12 35 1571 (.array .int) true := ⟨by decide, by decide, rfl, rfl, rfl, Or.inl (tb_of 1501 (by decide +kernel) (by decide +kernel))⟩
theorem ff12_93 : (clT 12 35).1 = cn 12 ∧ Cond.fieldLink (cn 12) 93 (clT 12 35).1 (clT 12 35).2.1 (clT 12 35).2.2.1 ∈ TB := ⟨rfl, tb_of 1501 (by decide +kernel) (by decide +kernel)⟩
theorem f12_96 : FP 12 96 12 36 1572 (.array .int) true := ⟨by decide, by decide, rfl, rfl, rfl, Or.inl (tb_of 1502 (by decide +kernel) (by decide +kernel))⟩
theorem ff12_96 : (clT 12 36).1 = cn 12 ∧ Cond.fieldLink (cn 12) 96 (clT 12 36).1 (clT 12 36).2.1 (clT 12 36).2.2.1 ∈ TB := ⟨rfl, tb_of 1502 (by decide +kernel) (by decide +kernel)⟩
theorem f12_99 : FP 12 99 12 37 1573 (.array .int) true := ⟨by decide, by decide, rfl, rfl, rfl, Or.inl (tb_of 1503 (by decide +kernel) (by decide +kernel))⟩
theorem ff12_99 : (clT 12 37).1 = cn 12 ∧ Cond.fieldLink (cn 12) 99 (clT 12 37).1 (clT 12 37).2.1 (clT 12 37).2.2.1 ∈ TB := ⟨rfl, tb_of 1503 (by decide +kernel) (by decide +kernel)⟩
theorem f12_102 : FP 12 102 12 38 1574 (.array .int) true := ⟨by decide, by decide, rfl, rfl, rfl, Or.inl (tb_of 1504 (by decide +kernel) (by decide +kernel))⟩
theorem ff12_102 : (clT 12 38).1 = cn 12 ∧ Cond.fieldLink (cn 12) 102 (clT 12 38).1 (clT 12 38).2.1 (clT 12 38).2.2.1 ∈ TB := ⟨rfl, tb_of 1504 (by decide +kernel) (by decide +kernel)⟩
theorem f12_105 : FP 12 105 12 39 1575 (.array .int) true := ⟨by decide, by decide, rfl, rfl, rfl, Or.inl (tb_of 1505 (by decide +kernel) (by decide +kernel))⟩
theorem ff12_105 : (clT 12 39).1 = cn 12 ∧ Cond.fieldLink (cn 12) 105 (clT 12 39).1 (clT 12 39).2.1 (clT 12 39).2.2.1 ∈ TB := ⟨rfl, tb_of 1505 (by decide +kernel) (by decide +kernel)⟩
theorem f12_108 : FP 12 108 12 40 1576 (.array .int) true := ⟨by decide, by decide, rfl, rfl, rfl, Or.inl (tb_of 1506 (by decide +kernel) (by decide +kernel))⟩
theorem ff12_108 : (clT 12 40).1 = cn 12 ∧ Cond.fieldLink (cn 12) 108 (clT 12 40).1 (clT 12 40).2.1 (clT 12 40).2.2.1 ∈ TB := ⟨rfl, tb_of 1506 (by decide +kernel) (by decide +kernel)⟩
theorem f12_111 : FP 12 111 12 41 1577 (.array .int) true := ⟨by decide, by decide, rfl, rfl, rfl, Or.inl (tb_of 1507 (by decide +kernel) (by decide +kernel))⟩
theorem ff12_111 : (clT 12 41).1 = cn 12 ∧ Cond.fieldLink (cn 12) 111 (clT 12 41).1 (clT 12 41).2.1 (clT 12 41).2.2.1 ∈ TB := ⟨rfl, tb_of 1507 (by decide +kernel) (by decide +kernel)⟩
theorem f12_114 : FP 12 114 12 42 1578 (.array .int) true := ⟨by decide, by decide, rfl, rfl, rfl, Or.inl (tb_of 1508 (by decide +kernel) (by decide +kernel))⟩
theorem ff12_114 : (clT 12 42).1 = cn 12 ∧ Cond.fieldLink (cn 12) 114 (clT 12 42).1 (clT 12 42).2.1 (clT 12 42).2.2.1 ∈ TB := ⟨rfl, tb_of 1508 (by decide +kernel) (by decide +kernel)⟩
theorem f12_117 : FP 12 117 12 43 1579 (.array .int) true := ⟨by decide, by decide, rfl, rfl, rfl, Or.inl (tb_of 1509 (by decide +kernel) (by decide +kernel))⟩
theorem ff12_117 : (clT 12 43).1 = cn 12 ∧ Cond.fieldLink (cn 12) 117 (clT 12 43).1 (clT 12 43).2.1 (clT 12 43).2.2.1 ∈ TB := ⟨rfl, tb_of 1509 (by decide +kernel) (by decide +kernel)⟩
theorem f12_120 : FP 12 120 12 44 1580 (.array .int) true := ⟨by decide, by decide, rfl, rfl, rfl, Or.inl (tb_of 1510 (by decide +kernel) (by decide +kernel))⟩
theorem ff12_120 : (clT 12 44).1 = cn 12 ∧ Cond.fieldLink (cn 12) 120 (clT 12 44).1 (clT 12 44).2.1 (clT 12 44).2.2.1 ∈ TB := ⟨rfl, tb_of 1510 (by decide +kernel) (by decide +kernel)⟩
theorem f12_341 : FP 12 341 12 45 1581 .int false := ⟨by decide, by decide, rfl, rfl, rfl, Or.inl (tb_of 1511 (by decide +kernel) (by decide +kernel))⟩
theorem f12_344 : FP 12 344 12 46 1582 .int false := ⟨by decide, by decide, rfl, rfl, rfl, Or.inl (tb_of 1512 (by decide +kernel) (by decide +kernel))⟩
theorem f12_347 : FP 12 347 12 47 1583 .int false := ⟨by decide, by decide, rfl, rfl, rfl, Or.inl (tb_of 1513 (by decide +kernel) (by decide +kernel))⟩
theorem f12_350 : FP 12 350 12 48 1584 .int false := ⟨by decide, by decide, rfl, rfl, rfl, Or.inl (tb_of 1514 (by decide +kernel) (by decide +kernel))⟩
theorem f12_365 : FP 12 365 12 49 1585 .int false := ⟨by decide, by decide, rfl, rfl, rfl, Or.inl (tb_of 1515 (by decide +kernel) (by decide +kernel))⟩
theorem f12_359 : FP 12 359 12 50 1586 .int false := ⟨by decide, by decide, rfl, rfl, rfl, Or.inl (tb_of 1516 (by decide +kernel) (by decide +kernel))⟩
theorem f12_385 : FP 12 385 12 51 1587 .int false := ⟨by decide, by decide, rfl, rfl, rfl, Or.inl (tb_of 1517 (by decide +kernel) (by decide +kernel))⟩
theorem f12_388 : FP 12 388 12 52 1588 .int false := ⟨by decide, by decide, rfl, rfl, rfl, Or.inl (tb_of 1518 (by decide +kernel) (by decide +kernel))⟩
theorem f12_356 : FP 12 356 12 53 1589 .boolean false := ⟨by decide, by decide, rfl, rfl, rfl, Or.inl (tb_of 1519 (by decide +kernel) (by decide +kernel))⟩
theorem f12_123 : FP 12 123 12 54 1590 (.array .int) true := ⟨by decide, by decide, rfl, rfl, rfl, Or.inl (tb_of 1520 (by decide +kernel) (by decide +kernel))⟩
theorem ff12_123 : (clT 12 54).1 = cn 12 ∧ Cond.fieldLink (cn 12) 123 (clT 12 54).1 (clT 12 54).2.1 (clT 12 54).2.2.1 ∈ TB := ⟨rfl, tb_of 1520 (by decide +kernel) (by decide +kernel)⟩
theorem f12_126 : FP 12 126 12 55 1591 (.array .int) true := ⟨by decide, by decide, rfl, rfl, rfl, Or.inl (tb_of 1521 (by decide +kernel) (by decide +kernel))⟩
theorem ff12_126 : (clT 12 55).1 = cn 12 ∧ Cond.fieldLink (cn 12) 126 (clT 12 55).1 (clT 12 55).2.1 (clT 12 55).2.2.1 ∈ TB := ⟨rfl, tb_of 1521 (by decide +kernel) (by decide +kernel)⟩
theorem f12_456 : FP 12 456 12 56 1592 .int false := ⟨by decide, by decide, rfl, rfl, rfl, Or.inl (tb_of 1522 (by decide +kernel) (by decide +kernel))⟩
theorem f12_462 : FP 12 462 12 57 1593 .int false := ⟨by decide, by decide, rfl, rfl, rfl, Or.inl (tb_of 1523 (by decide +kernel) (by decide +kernel))⟩
theorem f12_330 : FP 12 330 12 58 1594 .boolean false := ⟨by decide, by decide, rfl, rfl, rfl, Or.inl (tb_of 1524 (by decide +kernel) (by decide +kernel))⟩
theorem f12_129 : FP 12 129 12 59 1595 (.array .int) true := ⟨by decide, by decide, rfl, rfl, rfl, Or.inl (tb_of 1525 (by decide +kernel) (by decide +kernel))⟩
theorem ff12_129 : (clT 12 59).1 = cn 12 ∧ Cond.fieldLink (cn 12) 129 (clT 12 59).1 (clT 12 59).2.1 (clT 12 59).2.2.1 ∈ TB := ⟨rfl, tb_of 1525 (by decide +kernel) (by decide +kernel)⟩
theorem f12_132 : FP 12 132 12 60 1596 (.array .int) true := ⟨by decide, by decide, rfl, rfl, rfl, Or.inl (tb_of 1526 (by decide +kernel) (by decide +kernel))⟩
theorem ff12_132 : (clT 12 60).1 = cn 12 ∧ Cond.fieldLink (cn 12) 132 (clT 12 60).1 (clT 12 60).2.1 (clT 12 60).2.2.1 ∈ TB := ⟨rfl, tb_of 1526 (by decide +kernel) (by decide +kernel)⟩
theorem f12_135 : FP 12 135 12 61 1597 (.array .int) true := ⟨by decide, by decide, rfl, rfl, rfl, Or.inl (tb_of 1527 (by decide +kernel) (by decide +kernel))⟩
theorem ff12_135 : (clT 12 61).1 = cn 12 ∧ Cond.fieldLink (cn 12) 135 (clT 12 61).1 (clT 12 61).2.1 (clT 12 61).2.2.1 ∈ TB := ⟨rfl, tb_of 1527 (by decide +kernel) (by decide +kernel)⟩
theorem f12_138 : FP 12 138 12 62 1598 (.array .int) true := ⟨by decide, by decide, rfl, rfl, rfl, Or.inl (tb_of 1528 (by decide +kernel) (by decide +kernel))⟩
theorem ff12_138 : (clT 12 62).1 = cn 12 ∧ Cond.fieldLink (cn 12) 138 (clT 12 62).1 (clT 12 62).2.1 (clT 12 62).2.2.1 ∈ TB := ⟨rfl, tb_of 1528 (by decide +kernel) (by decide +kernel)⟩
theorem f12_488 : FP 12 488 12 63 1599 .int false := ⟨by decide, by decide, rfl, rfl, rfl, Or.inl (tb_of 1529 (by decide +kernel) (by decide +kernel))⟩
theorem f12_334 : FP 12 334 12 64 1600 .boolean false := ⟨by decide, by decide, rfl, rfl, rfl, Or.inl (tb_of 1530 (by decide +kernel) (by decide +kernel))⟩
theorem f12_499 : FP 12 499 12 65 1601 .int false := ⟨by decide, by decide, rfl, rfl, rfl, Or.inl (tb_of 1531 (by decide +kernel) (by decide +kernel))⟩
theorem f12_502 : FP 12 502 12 66 1602 .int false := ⟨by decide, by decide, rfl, rfl, rfl, Or.inl (tb_of 1532 (by decide +kernel) (by decide +kernel))⟩
theorem f12_141 : FP 12 141 12 67 1603 (.array .int) true := ⟨by decide, by decide, rfl, rfl, rfl, Or.inl (tb_of 1533 (by decide +kernel) (by decide +kernel))⟩
theorem ff12_141 : (clT 12 67).1 = cn 12 ∧ Cond.fieldLink (cn 12) 141 (clT 12 67).1 (clT 12 67).2.1 (clT 12 67).2.2.1 ∈ TB := ⟨rfl, tb_of 1533 (by decide +kernel) (by decide +kernel)⟩
theorem f12_144 : FP 12 144 12 68 1604 (.array .int) true := ⟨by decide, by decide, rfl, rfl, rfl, Or.inl (tb_of 1534 (by decide +kernel) (by decide +kernel))⟩
theorem ff12_144 : (clT 12 68).1 = cn 12 ∧ Cond.fieldLink (cn 12) 144 (clT 12 68).1 (clT 12 68).2.1 (clT 12 68).2.2.1 ∈ TB := ⟨rfl, tb_of 1534 (by decide +kernel) (by decide +kernel)⟩
theorem f12_147 : FP 12 147 12 69 1605 (.array .int) true := ⟨by decide, by decide, rfl, rfl, rfl, Or.inl (tb_of 1535 (by decide +kernel) (by decide +kernel))⟩
theorem ff12_147 : (clT 12 69).1 = cn 12 ∧ Cond.fieldLink (cn 12) 147 (clT 12 69).1 (clT 12 69).2.1 (clT 12 69).2.2.1 ∈ TB := ⟨rfl, tb_of 1535 (by decide +kernel) (by decide +kernel)⟩
theorem f12_150 : FP 12 150 12 70 1606 (.array .int) true := ⟨by decide, by decide, rfl, rfl, rfl, Or.inl (tb_of 1536 (by decide +kernel) (by decide +kernel))⟩
theorem ff12_150 : (clT 12 70).1 = cn 12 ∧ Cond.fieldLink (cn 12) 150 (clT 12 70).1 (clT 12 70).2.1 (clT 12 70).2.2.1 ∈ TB := ⟨rfl, tb_of 1536 (by decide +kernel) (by decide +kernel)⟩
theorem f12_153 : FP 12 153 12 71 1607 (.array .int) true := ⟨by decide, by decide, rfl, rfl, rfl, Or.inl (tb_of 1537 (by decide +kernel) (by decide +kernel))⟩
theorem ff12_153 : (clT 12 71).1 = cn 12 ∧ Cond.fieldLink (cn 12) 153 (clT 12 71).1 (clT 12 71).2.1 (clT 12 71).2.2.1 ∈ TB := ⟨rfl, tb_of 1537 (by decide +kernel) (by decide +kernel)⟩
theorem f12_156 : FP 12 156 12 72 1608 (.array .int) true := ⟨by decide, by decide, rfl, rfl, rfl, Or.inl (tb_of 1538 (by decide +kernel) (by decide +kernel))⟩
theorem ff12_156 : (clT 12 72).1 = cn 12 ∧ Cond.fieldLink (cn 12) 156 (clT 12 72).1 (clT 12 72).2.1 (clT 12 72).2.2.1 ∈ TB := ⟨rfl, tb_of 1538 (by decide +kernel) (by decide +kernel)⟩
theorem k13_88 : LV 13 88 0 yX12_thrown mX12_thrown := ⟨tb_of 1686 (by decide +kernel) (by decide +kernel), t_X12_thrown⟩
theorem k13_81 : LV 13 81 5 yX12_feed mX12_feed := ⟨tb_of 1690 (by decide +kernel) (by decide +kernel), t_X12_feed⟩
theorem k13_87 : LV 13 87 1 yX12_bed mX12_bed := ⟨tb_of 1694 (by decide +kernel) (by decide +kernel), t_X12_bed⟩
theorem k12_302 : LV 12 302 1 yX12_fail mX12_fail := ⟨tb_of 1698 (by decide +kernel) (by decide +kernel), t_X12_fail⟩
theorem k12_233 : LV 12 233 0 yX12_stepOn mX12_stepOn := ⟨tb_of 1702 (by decide +kernel) (by decide +kernel), t_X12_stepOn⟩
theorem k12_175 : LV 12 175 1 yX12_byteAt mX12_byteAt := ⟨tb_of 1706 (by decide +kernel) (by decide +kernel), t_X12_byteAt⟩
theorem k12_185 : LSt 12 185 1 yX12_isLetter mX12_isLetter := ⟨tb_of 1710 (by decide +kernel) (by decide +kernel), t_X12_isLetter⟩
theorem k12_189 : LSt 12 189 1 yX12_isDigit mX12_isDigit := ⟨tb_of 1713 (by decide +kernel) (by decide +kernel), t_X12_isDigit⟩
theorem c12_195 : Cond.constant (cn 12) 195 100000 ∈ TB := tb_of 1716 (by decide +kernel) (by decide +kernel)
theorem k12_196 : LM 12 196 Lib.Math.min.name Lib.Math.min.code 2 := ⟨tb_of 1717 (by decide +kernel) (by decide +kernel), tb_of 749 (by decide +kernel) (by decide +kernel), tb_of 121 (by decide +kernel) (by decide +kernel), tb_of 750 (by decide +kernel) (by decide +kernel)⟩
theorem k12_202 : LSt 12 202 1 yX12_isMark mX12_isMark := ⟨tb_of 1718 (by decide +kernel) (by decide +kernel), t_X12_isMark⟩
theorem k12_305 : LV 12 305 1 yX12_readLine mX12_readLine := ⟨tb_of 1721 (by decide +kernel) (by decide +kernel), t_X12_readLine⟩
theorem k12_222 : LV 12 222 1 yX12_is mX12_is := ⟨tb_of 1726 (by decide +kernel) (by decide +kernel), t_X12_is⟩
theorem k12_245 : LV 12 245 1 yX12_which mX12_which := ⟨tb_of 1736 (by decide +kernel) (by decide +kernel), t_X12_which⟩
theorem k12_229 : LV 12 229 1 yX12_wrong mX12_wrong := ⟨tb_of 1740 (by decide +kernel) (by decide +kernel), t_X12_wrong⟩
theorem k12_239 : LV 12 239 2 yX12_readNumber mX12_readNumber := ⟨tb_of 1744 (by decide +kernel) (by decide +kernel), t_X12_readNumber⟩
theorem k12_236 : LV 12 236 2 yX12_numberNow mX12_numberNow := ⟨tb_of 1748 (by decide +kernel) (by decide +kernel), t_X12_numberNow⟩
theorem k12_252 : LV 12 252 1 yX12_readExpression mX12_readExpression := ⟨tb_of 1752 (by decide +kernel) (by decide +kernel), t_X12_readExpression⟩
theorem k12_226 : LV 12 226 1 yX12_isMarked mX12_isMarked := ⟨tb_of 1756 (by decide +kernel) (by decide +kernel), t_X12_isMarked⟩
theorem k12_271 : LV 12 271 1 yX12_readAnd mX12_readAnd := ⟨tb_of 1760 (by decide +kernel) (by decide +kernel), t_X12_readAnd⟩
theorem k12_266 : LV 12 266 1 yX12_readNot mX12_readNot := ⟨tb_of 1764 (by decide +kernel) (by decide +kernel), t_X12_readNot⟩
theorem k12_263 : LV 12 263 1 yX12_readSum mX12_readSum := ⟨tb_of 1769 (by decide +kernel) (by decide +kernel), t_X12_readSum⟩
theorem k12_258 : LV 12 258 1 yX12_readProduct mX12_readProduct := ⟨tb_of 1773 (by decide +kernel) (by decide +kernel), t_X12_readProduct⟩
theorem k12_255 : LV 12 255 1 yX12_readPart mX12_readPart := ⟨tb_of 1777 (by decide +kernel) (by decide +kernel), t_X12_readPart⟩
theorem k12_242 : LV 12 242 1 yX12_lay mX12_lay := ⟨tb_of 1781 (by decide +kernel) (by decide +kernel), t_X12_lay⟩
theorem k12_249 : LV 12 249 1 yX12_mark mX12_mark := ⟨tb_of 1785 (by decide +kernel) (by decide +kernel), t_X12_mark⟩
theorem k12_289 : LV 12 289 1 yX12_readSleeper mX12_readSleeper := ⟨tb_of 1791 (by decide +kernel) (by decide +kernel), t_X12_readSleeper⟩
theorem k12_294 : LV 12 294 0 yX12_readBolster mX12_readBolster := ⟨tb_of 1796 (by decide +kernel) (by decide +kernel), t_X12_readBolster⟩
theorem k12_299 : LV 12 299 0 yX12_readNever mX12_readNever := ⟨tb_of 1801 (by decide +kernel) (by decide +kernel), t_X12_readNever⟩
theorem k12_276 : LV 12 276 0 yX12_sleeperNow mX12_sleeperNow := ⟨tb_of 1805 (by decide +kernel) (by decide +kernel), t_X12_sleeperNow⟩
theorem k12_308 : LV 12 308 0 yX12_takeOver mX12_takeOver := ⟨tb_of 1809 (by decide +kernel) (by decide +kernel), t_X12_takeOver⟩
theorem k12_311 : LSt 12 311 1 yX12_takeHalf mX12_takeHalf := ⟨tb_of 1813 (by decide +kernel) (by decide +kernel), t_X12_takeHalf⟩
theorem k13_95 : LV 13 95 0 yX12_fault mX12_fault := ⟨tb_of 1816 (by decide +kernel) (by decide +kernel), t_X12_fault⟩
theorem k13_98 : LV 13 98 1 yX12_count mX12_count := ⟨tb_of 1820 (by decide +kernel) (by decide +kernel), t_X12_count⟩
theorem k12_413 : LV 12 413 0 yX12_set mX12_set := ⟨tb_of 1824 (by decide +kernel) (by decide +kernel), t_X12_set⟩
theorem k12_353 : LV 12 353 0 yX12_tellFree mX12_tellFree := ⟨tb_of 1828 (by decide +kernel) (by decide +kernel), t_X12_tellFree⟩
theorem k13_102 : LV 13 102 2 yX12_sleeper mX12_sleeper := ⟨tb_of 1832 (by decide +kernel) (by decide +kernel), t_X12_sleeper⟩
theorem k12_420 : LV 12 420 1 yX12_isSleeper mX12_isSleeper := ⟨tb_of 1836 (by decide +kernel) (by decide +kernel), t_X12_isSleeper⟩
theorem k12_162 : LSt 12 162 3 yX12_isIn mX12_isIn := ⟨tb_of 1840 (by decide +kernel) (by decide +kernel), t_X12_isIn⟩
theorem k12_394 : LV 12 394 1 yX12_placeOf mX12_placeOf := ⟨tb_of 1843 (by decide +kernel) (by decide +kernel), t_X12_placeOf⟩
theorem k13_107 : LV 13 107 2 yX12_swap mX12_swap := ⟨tb_of 1847 (by decide +kernel) (by decide +kernel), t_X12_swap⟩
theorem k12_427 : LV 12 427 0 yX12_keep mX12_keep := ⟨tb_of 1851 (by decide +kernel) (by decide +kernel), t_X12_keep⟩
theorem k12_423 : LV 12 423 2 yX12_pack mX12_pack := ⟨tb_of 1855 (by decide +kernel) (by decide +kernel), t_X12_pack⟩
theorem k13_111 : LV 13 111 1 yX12_side mX12_side := ⟨tb_of 1859 (by decide +kernel) (by decide +kernel), t_X12_side⟩
theorem k12_430 : LV 12 430 1 yX12_refuse mX12_refuse := ⟨tb_of 1863 (by decide +kernel) (by decide +kernel), t_X12_refuse⟩
theorem k13_114 : LV 13 114 2 yX12_word mX12_word := ⟨tb_of 1867 (by decide +kernel) (by decide +kernel), t_X12_word⟩
theorem c12_433 : Cond.constantLong (cn 12) 433 240 ∈ TB := tb_of 1871 (by decide +kernel) (by decide +kernel)
theorem k13_119 : LV 13 119 2 yX12_bolster mX12_bolster := ⟨tb_of 1872 (by decide +kernel) (by decide +kernel), t_X12_bolster⟩
theorem c12_435 : Cond.constantLong (cn 12) 435 6 ∈ TB := tb_of 1876 (by decide +kernel) (by decide +kernel)
theorem k13_122 : LV 13 122 2 yX12_out mX12_out := ⟨tb_of 1877 (by decide +kernel) (by decide +kernel), t_X12_out⟩
theorem c12_437 : Cond.constantLong (cn 12) 437 600 ∈ TB := tb_of 1881 (by decide +kernel) (by decide +kernel)
theorem k13_126 : LV 13 126 0 yX12_undo mX12_undo := ⟨tb_of 1882 (by decide +kernel) (by decide +kernel), t_X12_undo⟩
theorem k12_439 : LV 12 439 2 yX12_unpack mX12_unpack := ⟨tb_of 1886 (by decide +kernel) (by decide +kernel), t_X12_unpack⟩
theorem k13_129 : LV 13 129 1 yX12_night mX12_night := ⟨tb_of 1890 (by decide +kernel) (by decide +kernel), t_X12_night⟩
theorem c12_442 : Cond.constantLong (cn 12) 442 3 ∈ TB := tb_of 1894 (by decide +kernel) (by decide +kernel)
theorem k12_444 : LV 12 444 0 yX12_nightNow mX12_nightNow := ⟨tb_of 1895 (by decide +kernel) (by decide +kernel), t_X12_nightNow⟩
theorem k12_416 : LV 12 416 2 yX12_go mX12_go := ⟨tb_of 1899 (by decide +kernel) (by decide +kernel), t_X12_go⟩
theorem k12_407 : LV 12 407 1 yX12_begin mX12_begin := ⟨tb_of 1903 (by decide +kernel) (by decide +kernel), t_X12_begin⟩
theorem k12_410 : LV 12 410 0 yX12_minuteNow mX12_minuteNow := ⟨tb_of 1907 (by decide +kernel) (by decide +kernel), t_X12_minuteNow⟩
theorem k12_397 : LV 12 397 4 yX12_turnAll mX12_turnAll := ⟨tb_of 1911 (by decide +kernel) (by decide +kernel), t_X12_turnAll⟩
theorem k12_373 : LV 12 373 1 yX12_isDeaf mX12_isDeaf := ⟨tb_of 1915 (by decide +kernel) (by decide +kernel), t_X12_isDeaf⟩
theorem k12_376 : LV 12 376 1 yX12_isAwake mX12_isAwake := ⟨tb_of 1919 (by decide +kernel) (by decide +kernel), t_X12_isAwake⟩
theorem k12_379 : LV 12 379 2 yX12_wakes mX12_wakes := ⟨tb_of 1923 (by decide +kernel) (by decide +kernel), t_X12_wakes⟩
theorem k12_362 : LM 12 362 Lib.Math.abs.name Lib.Math.abs.code 1 := ⟨tb_of 1927 (by decide +kernel) (by decide +kernel), tb_of 792 (by decide +kernel) (by decide +kernel), tb_of 121 (by decide +kernel) (by decide +kernel), tb_of 793 (by decide +kernel) (by decide +kernel)⟩
theorem k12_367 : LV 12 367 1 yX12_snorersBeside mX12_snorersBeside := ⟨tb_of 1928 (by decide +kernel) (by decide +kernel), t_X12_snorersBeside⟩
theorem k12_370 : LV 12 370 0 yX12_valueNow mX12_valueNow := ⟨tb_of 1932 (by decide +kernel) (by decide +kernel), t_X12_valueNow⟩
theorem k12_337 : LSt 12 337 3 yX12_reckon mX12_reckon := ⟨tb_of 1936 (by decide +kernel) (by decide +kernel), t_X12_reckon⟩
theorem k12_382 : LV 12 382 1 yX12_wake mX12_wake := ⟨tb_of 1939 (by decide +kernel) (by decide +kernel), t_X12_wake⟩
theorem k12_391 : LM 12 391 Lib.Math.max.name Lib.Math.max.code 2 := ⟨tb_of 1943 (by decide +kernel) (by decide +kernel), tb_of 825 (by decide +kernel) (by decide +kernel), tb_of 121 (by decide +kernel) (by decide +kernel), tb_of 826 (by decide +kernel) (by decide +kernel)⟩
theorem k12_401 : LV 12 401 1 yX12_groupEnd mX12_groupEnd := ⟨tb_of 1944 (by decide +kernel) (by decide +kernel), t_X12_groupEnd⟩
theorem k12_404 : LV 12 404 1 yX12_hasEnough mX12_hasEnough := ⟨tb_of 1948 (by decide +kernel) (by decide +kernel), t_X12_hasEnough⟩
theorem k12_447 : LV 12 447 0 yX12_allWoken mX12_allWoken := ⟨tb_of 1952 (by decide +kernel) (by decide +kernel), t_X12_allWoken⟩
theorem k12_450 : LV 12 450 0 yX12_worst mX12_worst := ⟨tb_of 1956 (by decide +kernel) (by decide +kernel), t_X12_worst⟩
theorem k13_132 : LV 13 132 2 yX12_woken mX12_woken := ⟨tb_of 1960 (by decide +kernel) (by decide +kernel), t_X12_woken⟩
theorem k13_136 : LV 13 136 3 yX12_lies mX12_lies := ⟨tb_of 1964 (by decide +kernel) (by decide +kernel), t_X12_lies⟩
theorem k13_139 : LV 13 139 2 yX12_turn mX12_turn := ⟨tb_of 1968 (by decide +kernel) (by decide +kernel), t_X12_turn⟩
theorem k13_143 : LV 13 143 0 yX12_orders mX12_orders := ⟨tb_of 1972 (by decide +kernel) (by decide +kernel), t_X12_orders⟩
theorem k12_469 : LV 12 469 1 yX12_tellOrders mX12_tellOrders := ⟨tb_of 1976 (by decide +kernel) (by decide +kernel), t_X12_tellOrders⟩
theorem k12_465 : LV 12 465 3 yX12_orderOn mX12_orderOn := ⟨tb_of 1980 (by decide +kernel) (by decide +kernel), t_X12_orderOn⟩
theorem k12_459 : LV 12 459 1 yX12_valueOf mX12_valueOf := ⟨tb_of 1984 (by decide +kernel) (by decide +kernel), t_X12_valueOf⟩
theorem k12_453 : LV 12 453 0 yX12_tenthsNow mX12_tenthsNow := ⟨tb_of 1988 (by decide +kernel) (by decide +kernel), t_X12_tenthsNow⟩
theorem k13_147 : LV 13 147 0 yX12_order mX12_order := ⟨tb_of 1992 (by decide +kernel) (by decide +kernel), t_X12_order⟩
theorem k12_472 : LV 12 472 0 yX12_keepBest mX12_keepBest := ⟨tb_of 1996 (by decide +kernel) (by decide +kernel), t_X12_keepBest⟩
theorem k13_150 : LV 13 150 1 yX12_kept mX12_kept := ⟨tb_of 2000 (by decide +kernel) (by decide +kernel), t_X12_kept⟩
theorem k13_153 : LV 13 153 2 yX12_every mX12_every := ⟨tb_of 2004 (by decide +kernel) (by decide +kernel), t_X12_every⟩
theorem k13_156 : LV 13 156 1 yX12_bolsters mX12_bolsters := ⟨tb_of 2008 (by decide +kernel) (by decide +kernel), t_X12_bolsters⟩
theorem k12_475 : LSt 12 475 1 yX12_bitsOf mX12_bitsOf := ⟨tb_of 2012 (by decide +kernel) (by decide +kernel), t_X12_bitsOf⟩
theorem k13_159 : LV 13 159 1 yX12_free mX12_free := ⟨tb_of 2015 (by decide +kernel) (by decide +kernel), t_X12_free⟩
theorem k13_162 : LV 13 162 1 yX12_outs mX12_outs := ⟨tb_of 2019 (by decide +kernel) (by decide +kernel), t_X12_outs⟩
theorem k12_478 : LSt 12 478 2 yX12_common mX12_common := ⟨tb_of 2023 (by decide +kernel) (by decide +kernel), t_X12_common⟩
theorem k13_166 : LV 13 166 0 yX12_edge mX12_edge := ⟨tb_of 2026 (by decide +kernel) (by decide +kernel), t_X12_edge⟩
theorem k13_169 : LV 13 169 2 yX12_fair mX12_fair := ⟨tb_of 2030 (by decide +kernel) (by decide +kernel), t_X12_fair⟩
theorem c12_481 : Cond.constantLong (cn 12) 481 (-1) ∈ TB := tb_of 2034 (by decide +kernel) (by decide +kernel)
theorem c12_483 : Cond.constantLong (cn 12) 483 30 ∈ TB := tb_of 2035 (by decide +kernel) (by decide +kernel)
theorem k13_172 : LV 13 172 3 yX12_see mX12_see := ⟨tb_of 2036 (by decide +kernel) (by decide +kernel), t_X12_see⟩
theorem k13_176 : LV 13 176 0 yX12_forget mX12_forget := ⟨tb_of 2040 (by decide +kernel) (by decide +kernel), t_X12_forget⟩
theorem k13_179 : LV 13 179 1 yX12_fits mX12_fits := ⟨tb_of 2044 (by decide +kernel) (by decide +kernel), t_X12_fits⟩
theorem k12_485 : LV 12 485 1 yX12_isAsSeen mX12_isAsSeen := ⟨tb_of 2048 (by decide +kernel) (by decide +kernel), t_X12_isAsSeen⟩
theorem k13_182 : LV 13 182 1 yX12_without mX12_without := ⟨tb_of 2052 (by decide +kernel) (by decide +kernel), t_X12_without⟩
theorem k13_185 : LV 13 185 3 yX12_year mX12_year := ⟨tb_of 2056 (by decide +kernel) (by decide +kernel), t_X12_year⟩
theorem c12_492 : Cond.constantLong (cn 12) 492 2 ∈ TB := tb_of 2060 (by decide +kernel) (by decide +kernel)
theorem c12_494 : Cond.constantLong (cn 12) 494 40 ∈ TB := tb_of 2061 (by decide +kernel) (by decide +kernel)
theorem k12_496 : LV 12 496 1 yX12_drawOf mX12_drawOf := ⟨tb_of 2062 (by decide +kernel) (by decide +kernel), t_X12_drawOf⟩
theorem c12_491 : Cond.constant (cn 12) 491 1103515245 ∈ TB := tb_of 2066 (by decide +kernel) (by decide +kernel)
theorem k13_189 : LV 13 189 0 yX12_image mX12_image := ⟨tb_of 2067 (by decide +kernel) (by decide +kernel), t_X12_image⟩
theorem k12_505 : LSt 12 505 2 yX12_be mX12_be := ⟨tb_of 2071 (by decide +kernel) (by decide +kernel), t_X12_be⟩
theorem k13_194 : LV 13 194 0 yX12_restore mX12_restore := ⟨tb_of 2074 (by decide +kernel) (by decide +kernel), t_X12_restore⟩
theorem w_oi : Cond.instanceMethod objectInit ∈ TB := tb_of 133 (by decide +kernel) (by decide +kernel)
theorem w_oc : Cond.code objectInit ⟨#[0xb1]⟩ 1 none ∈ TB := tb_of 134 (by decide +kernel) (by decide +kernel)
theorem w_ac_int : Cond.arrayClass .int ∈ TB := tb_of 145 (by decide +kernel) (by decide +kernel)
theorem w_ac_long : Cond.arrayClass .long ∈ TB := tb_of 2078 (by decide +kernel) (by decide +kernel)
