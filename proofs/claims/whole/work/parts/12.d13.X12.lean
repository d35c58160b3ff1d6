theorem dX12_init_0 : decode cX12_init 0 = .ok (.aload_n 0, 1) := by decide +kernel
theorem dX12_init_1 : decode cX12_init 1 = .ok (.invokespecial 3, 3) := by decide +kernel
theorem dX12_init_4 : decode cX12_init 4 = .ok (.aload_n 0, 1) := by decide +kernel
theorem dX12_init_5 : decode cX12_init 5 = .ok (.iconst 3, 1) := by decide +kernel
theorem dX12_init_6 : decode cX12_init 6 = .ok (.anewarray 9, 3) := by decide +kernel
theorem dX12_init_9 : decode cX12_init 9 = .ok (.dup, 1) := by decide +kernel
theorem dX12_init_10 : decode cX12_init 10 = .ok (.iconst 0, 1) := by decide +kernel
theorem dX12_init_11 : decode cX12_init 11 = .ok (.ldc 11, 2) := by decide +kernel
theorem dX12_init_13 : decode cX12_init 13 = .ok (.aastore, 1) := by decide +kernel
theorem dX12_init_14 : decode cX12_init 14 = .ok (.dup, 1) := by decide +kernel
theorem dX12_init_15 : decode cX12_init 15 = .ok (.iconst 1, 1) := by decide +kernel
theorem dX12_init_16 : decode cX12_init 16 = .ok (.ldc 13, 2) := by decide +kernel
theorem dX12_init_18 : decode cX12_init 18 = .ok (.aastore, 1) := by decide +kernel
theorem dX12_init_19 : decode cX12_init 19 = .ok (.dup, 1) := by decide +kernel
theorem dX12_init_20 : decode cX12_init 20 = .ok (.iconst 2, 1) := by decide +kernel
theorem dX12_init_21 : decode cX12_init 21 = .ok (.ldc 15, 2) := by decide +kernel
theorem dX12_init_23 : decode cX12_init 23 = .ok (.aastore, 1) := by decide +kernel
theorem dX12_init_24 : decode cX12_init 24 = .ok (.putfield 17, 3) := by decide +kernel
theorem dX12_init_27 : decode cX12_init 27 = .ok (.aload_n 0, 1) := by decide +kernel
theorem dX12_init_28 : decode cX12_init 28 = .ok (.bipush 7, 2) := by decide +kernel
theorem dX12_init_30 : decode cX12_init 30 = .ok (.anewarray 9, 3) := by decide +kernel
theorem dX12_init_33 : decode cX12_init 33 = .ok (.dup, 1) := by decide +kernel
theorem dX12_init_34 : decode cX12_init 34 = .ok (.iconst 0, 1) := by decide +kernel
theorem dX12_init_35 : decode cX12_init 35 = .ok (.ldc 21, 2) := by decide +kernel
theorem dX12_init_37 : decode cX12_init 37 = .ok (.aastore, 1) := by decide +kernel
theorem dX12_init_38 : decode cX12_init 38 = .ok (.dup, 1) := by decide +kernel
theorem dX12_init_39 : decode cX12_init 39 = .ok (.iconst 1, 1) := by decide +kernel
theorem dX12_init_40 : decode cX12_init 40 = .ok (.ldc 23, 2) := by decide +kernel
theorem dX12_init_42 : decode cX12_init 42 = .ok (.aastore, 1) := by decide +kernel
theorem dX12_init_43 : decode cX12_init 43 = .ok (.dup, 1) := by decide +kernel
theorem dX12_init_44 : decode cX12_init 44 = .ok (.iconst 2, 1) := by decide +kernel
theorem dX12_init_45 : decode cX12_init 45 = .ok (.ldc 25, 2) := by decide +kernel
theorem dX12_init_47 : decode cX12_init 47 = .ok (.aastore, 1) := by decide +kernel
theorem dX12_init_48 : decode cX12_init 48 = .ok (.dup, 1) := by decide +kernel
theorem dX12_init_49 : decode cX12_init 49 = .ok (.iconst 3, 1) := by decide +kernel
theorem dX12_init_50 : decode cX12_init 50 = .ok (.ldc 27, 2) := by decide +kernel
theorem dX12_init_52 : decode cX12_init 52 = .ok (.aastore, 1) := by decide +kernel
theorem dX12_init_53 : decode cX12_init 53 = .ok (.dup, 1) := by decide +kernel
theorem dX12_init_54 : decode cX12_init 54 = .ok (.iconst 4, 1) := by decide +kernel
theorem dX12_init_55 : decode cX12_init 55 = .ok (.ldc 29, 2) := by decide +kernel
theorem dX12_init_57 : decode cX12_init 57 = .ok (.aastore, 1) := by decide +kernel
theorem dX12_init_58 : decode cX12_init 58 = .ok (.dup, 1) := by decide +kernel
theorem dX12_init_59 : decode cX12_init 59 = .ok (.iconst 5, 1) := by decide +kernel
theorem dX12_init_60 : decode cX12_init 60 = .ok (.ldc 31, 2) := by decide +kernel
theorem dX12_init_62 : decode cX12_init 62 = .ok (.aastore, 1) := by decide +kernel
theorem dX12_init_63 : decode cX12_init 63 = .ok (.dup, 1) := by decide +kernel
theorem dX12_init_64 : decode cX12_init 64 = .ok (.bipush 6, 2) := by decide +kernel
theorem dX12_init_66 : decode cX12_init 66 = .ok (.ldc 33, 2) := by decide +kernel
theorem dX12_init_68 : decode cX12_init 68 = .ok (.aastore, 1) := by decide +kernel
theorem dX12_init_69 : decode cX12_init 69 = .ok (.putfield 35, 3) := by decide +kernel
theorem dX12_init_72 : decode cX12_init 72 = .ok (.aload_n 0, 1) := by decide +kernel
theorem dX12_init_73 : decode cX12_init 73 = .ok (.bipush 16, 2) := by decide +kernel
theorem dX12_init_75 : decode cX12_init 75 = .ok (.newarray .int, 2) := by decide +kernel
theorem dX12_init_77 : decode cX12_init 77 = .ok (.dup, 1) := by decide +kernel
theorem dX12_init_78 : decode cX12_init 78 = .ok (.iconst 0, 1) := by decide +kernel
theorem dX12_init_79 : decode cX12_init 79 = .ok (.iconst 0, 1) := by decide +kernel
theorem dX12_init_80 : decode cX12_init 80 = .ok (.iastore, 1) := by decide +kernel
theorem dX12_init_81 : decode cX12_init 81 = .ok (.dup, 1) := by decide +kernel
theorem dX12_init_82 : decode cX12_init 82 = .ok (.iconst 1, 1) := by decide +kernel
theorem dX12_init_83 : decode cX12_init 83 = .ok (.bipush 20, 2) := by decide +kernel
theorem dX12_init_85 : decode cX12_init 85 = .ok (.iastore, 1) := by decide +kernel
theorem dX12_init_86 : decode cX12_init 86 = .ok (.dup, 1) := by decide +kernel
theorem dX12_init_87 : decode cX12_init 87 = .ok (.iconst 2, 1) := by decide +kernel
theorem dX12_init_88 : decode cX12_init 88 = .ok (.iconst 3, 1) := by decide +kernel
theorem dX12_init_89 : decode cX12_init 89 = .ok (.iastore, 1) := by decide +kernel
theorem dX12_init_90 : decode cX12_init 90 = .ok (.dup, 1) := by decide +kernel
theorem dX12_init_91 : decode cX12_init 91 = .ok (.iconst 3, 1) := by decide +kernel
theorem dX12_init_92 : decode cX12_init 92 = .ok (.sipush 480, 3) := by decide +kernel
theorem dX12_init_95 : decode cX12_init 95 = .ok (.iastore, 1) := by decide +kernel
theorem dX12_init_96 : decode cX12_init 96 = .ok (.dup, 1) := by decide +kernel
theorem dX12_init_97 : decode cX12_init 97 = .ok (.iconst 4, 1) := by decide +kernel
theorem dX12_init_98 : decode cX12_init 98 = .ok (.bipush 15, 2) := by decide +kernel
theorem dX12_init_100 : decode cX12_init 100 = .ok (.iastore, 1) := by decide +kernel
theorem dX12_init_101 : decode cX12_init 101 = .ok (.dup, 1) := by decide +kernel
theorem dX12_init_102 : decode cX12_init 102 = .ok (.iconst 5, 1) := by decide +kernel
theorem dX12_init_103 : decode cX12_init 103 = .ok (.iconst 0, 1) := by decide +kernel
theorem dX12_init_104 : decode cX12_init 104 = .ok (.iastore, 1) := by decide +kernel
theorem dX12_init_105 : decode cX12_init 105 = .ok (.dup, 1) := by decide +kernel
theorem dX12_init_106 : decode cX12_init 106 = .ok (.bipush 6, 2) := by decide +kernel
theorem dX12_init_108 : decode cX12_init 108 = .ok (.iconst 0, 1) := by decide +kernel
theorem dX12_init_109 : decode cX12_init 109 = .ok (.iastore, 1) := by decide +kernel
theorem dX12_init_110 : decode cX12_init 110 = .ok (.dup, 1) := by decide +kernel
theorem dX12_init_111 : decode cX12_init 111 = .ok (.bipush 7, 2) := by decide +kernel
theorem dX12_init_113 : decode cX12_init 113 = .ok (.iconst 0, 1) := by decide +kernel
theorem dX12_init_114 : decode cX12_init 114 = .ok (.iastore, 1) := by decide +kernel
theorem dX12_init_115 : decode cX12_init 115 = .ok (.dup, 1) := by decide +kernel
theorem dX12_init_116 : decode cX12_init 116 = .ok (.bipush 8, 2) := by decide +kernel
theorem dX12_init_118 : decode cX12_init 118 = .ok (.iconst 0, 1) := by decide +kernel
theorem dX12_init_119 : decode cX12_init 119 = .ok (.iastore, 1) := by decide +kernel
theorem dX12_init_120 : decode cX12_init 120 = .ok (.dup, 1) := by decide +kernel
theorem dX12_init_121 : decode cX12_init 121 = .ok (.bipush 9, 2) := by decide +kernel
theorem dX12_init_123 : decode cX12_init 123 = .ok (.bipush 20, 2) := by decide +kernel
theorem dX12_init_125 : decode cX12_init 125 = .ok (.iastore, 1) := by decide +kernel
theorem dX12_init_126 : decode cX12_init 126 = .ok (.dup, 1) := by decide +kernel
theorem dX12_init_127 : decode cX12_init 127 = .ok (.bipush 10, 2) := by decide +kernel
theorem dX12_init_129 : decode cX12_init 129 = .ok (.iconst 3, 1) := by decide +kernel
theorem dX12_init_130 : decode cX12_init 130 = .ok (.iastore, 1) := by decide +kernel
theorem dX12_init_131 : decode cX12_init 131 = .ok (.dup, 1) := by decide +kernel
theorem dX12_init_132 : decode cX12_init 132 = .ok (.bipush 11, 2) := by decide +kernel
theorem dX12_init_134 : decode cX12_init 134 = .ok (.sipush 480, 3) := by decide +kernel
theorem dX12_init_137 : decode cX12_init 137 = .ok (.iastore, 1) := by decide +kernel
theorem dX12_init_138 : decode cX12_init 138 = .ok (.dup, 1) := by decide +kernel
theorem dX12_init_139 : decode cX12_init 139 = .ok (.bipush 12, 2) := by decide +kernel
theorem dX12_init_141 : decode cX12_init 141 = .ok (.bipush 15, 2) := by decide +kernel
theorem dX12_init_143 : decode cX12_init 143 = .ok (.iastore, 1) := by decide +kernel
theorem dX12_init_144 : decode cX12_init 144 = .ok (.dup, 1) := by decide +kernel
theorem dX12_init_145 : decode cX12_init 145 = .ok (.bipush 13, 2) := by decide +kernel
theorem dX12_init_147 : decode cX12_init 147 = .ok (.iconst 0, 1) := by decide +kernel
theorem dX12_init_148 : decode cX12_init 148 = .ok (.iastore, 1) := by decide +kernel
theorem dX12_init_149 : decode cX12_init 149 = .ok (.dup, 1) := by decide +kernel
theorem dX12_init_150 : decode cX12_init 150 = .ok (.bipush 14, 2) := by decide +kernel
theorem dX12_init_152 : decode cX12_init 152 = .ok (.iconst 0, 1) := by decide +kernel
theorem dX12_init_153 : decode cX12_init 153 = .ok (.iastore, 1) := by decide +kernel
theorem dX12_init_154 : decode cX12_init 154 = .ok (.dup, 1) := by decide +kernel
theorem dX12_init_155 : decode cX12_init 155 = .ok (.bipush 15, 2) := by decide +kernel
theorem dX12_init_157 : decode cX12_init 157 = .ok (.iconst 0, 1) := by decide +kernel
theorem dX12_init_158 : decode cX12_init 158 = .ok (.iastore, 1) := by decide +kernel
theorem dX12_init_159 : decode cX12_init 159 = .ok (.putfield 38, 3) := by decide +kernel
theorem dX12_init_162 : decode cX12_init 162 = .ok (.aload_n 0, 1) := by decide +kernel
theorem dX12_init_163 : decode cX12_init 163 = .ok (.bipush 14, 2) := by decide +kernel
theorem dX12_init_165 : decode cX12_init 165 = .ok (.newarray .int, 2) := by decide +kernel
theorem dX12_init_167 : decode cX12_init 167 = .ok (.putfield 42, 3) := by decide +kernel
theorem dX12_init_170 : decode cX12_init 170 = .ok (.aload_n 0, 1) := by decide +kernel
theorem dX12_init_171 : decode cX12_init 171 = .ok (.bipush 28, 2) := by decide +kernel
theorem dX12_init_173 : decode cX12_init 173 = .ok (.newarray .int, 2) := by decide +kernel
theorem dX12_init_175 : decode cX12_init 175 = .ok (.putfield 45, 3) := by decide +kernel
theorem dX12_init_178 : decode cX12_init 178 = .ok (.aload_n 0, 1) := by decide +kernel
theorem dX12_init_179 : decode cX12_init 179 = .ok (.bipush 14, 2) := by decide +kernel
theorem dX12_init_181 : decode cX12_init 181 = .ok (.newarray .int, 2) := by decide +kernel
theorem dX12_init_183 : decode cX12_init 183 = .ok (.putfield 48, 3) := by decide +kernel
theorem dX12_init_186 : decode cX12_init 186 = .ok (.aload_n 0, 1) := by decide +kernel
theorem dX12_init_187 : decode cX12_init 187 = .ok (.bipush 14, 2) := by decide +kernel
theorem dX12_init_189 : decode cX12_init 189 = .ok (.newarray .int, 2) := by decide +kernel
theorem dX12_init_191 : decode cX12_init 191 = .ok (.putfield 50, 3) := by decide +kernel
theorem dX12_init_194 : decode cX12_init 194 = .ok (.aload_n 0, 1) := by decide +kernel
theorem dX12_init_195 : decode cX12_init 195 = .ok (.bipush 14, 2) := by decide +kernel
theorem dX12_init_197 : decode cX12_init 197 = .ok (.newarray .int, 2) := by decide +kernel
theorem dX12_init_199 : decode cX12_init 199 = .ok (.putfield 53, 3) := by decide +kernel
theorem dX12_init_202 : decode cX12_init 202 = .ok (.aload_n 0, 1) := by decide +kernel
theorem dX12_init_203 : decode cX12_init 203 = .ok (.bipush 14, 2) := by decide +kernel
theorem dX12_init_205 : decode cX12_init 205 = .ok (.newarray .int, 2) := by decide +kernel
theorem dX12_init_207 : decode cX12_init 207 = .ok (.putfield 56, 3) := by decide +kernel
theorem dX12_init_210 : decode cX12_init 210 = .ok (.aload_n 0, 1) := by decide +kernel
theorem dX12_init_211 : decode cX12_init 211 = .ok (.bipush 14, 2) := by decide +kernel
theorem dX12_init_213 : decode cX12_init 213 = .ok (.newarray .int, 2) := by decide +kernel
theorem dX12_init_215 : decode cX12_init 215 = .ok (.putfield 59, 3) := by decide +kernel
theorem dX12_init_218 : decode cX12_init 218 = .ok (.aload_n 0, 1) := by decide +kernel
theorem dX12_init_219 : decode cX12_init 219 = .ok (.sipush 1200, 3) := by decide +kernel
theorem dX12_init_222 : decode cX12_init 222 = .ok (.newarray .int, 2) := by decide +kernel
theorem dX12_init_224 : decode cX12_init 224 = .ok (.putfield 62, 3) := by decide +kernel
theorem dX12_init_227 : decode cX12_init 227 = .ok (.aload_n 0, 1) := by decide +kernel
theorem dX12_init_228 : decode cX12_init 228 = .ok (.iconst 3, 1) := by decide +kernel
theorem dX12_init_229 : decode cX12_init 229 = .ok (.newarray .int, 2) := by decide +kernel
theorem dX12_init_231 : decode cX12_init 231 = .ok (.putfield 65, 3) := by decide +kernel
theorem dX12_init_234 : decode cX12_init 234 = .ok (.aload_n 0, 1) := by decide +kernel
theorem dX12_init_235 : decode cX12_init 235 = .ok (.sipush 600, 3) := by decide +kernel
theorem dX12_init_238 : decode cX12_init 238 = .ok (.newarray .int, 2) := by decide +kernel
theorem dX12_init_240 : decode cX12_init 240 = .ok (.putfield 68, 3) := by decide +kernel
theorem dX12_init_243 : decode cX12_init 243 = .ok (.aload_n 0, 1) := by decide +kernel
theorem dX12_init_244 : decode cX12_init 244 = .ok (.iconst (-1), 1) := by decide +kernel
theorem dX12_init_245 : decode cX12_init 245 = .ok (.putfield 71, 3) := by decide +kernel
theorem dX12_init_248 : decode cX12_init 248 = .ok (.aload_n 0, 1) := by decide +kernel
theorem dX12_init_249 : decode cX12_init 249 = .ok (.bipush 7, 2) := by decide +kernel
theorem dX12_init_251 : decode cX12_init 251 = .ok (.newarray .int, 2) := by decide +kernel
theorem dX12_init_253 : decode cX12_init 253 = .ok (.putfield 75, 3) := by decide +kernel
theorem dX12_init_256 : decode cX12_init 256 = .ok (.aload_n 0, 1) := by decide +kernel
theorem dX12_init_257 : decode cX12_init 257 = .ok (.sipush 720, 3) := by decide +kernel
theorem dX12_init_260 : decode cX12_init 260 = .ok (.newarray .int, 2) := by decide +kernel
theorem dX12_init_262 : decode cX12_init 262 = .ok (.putfield 78, 3) := by decide +kernel
theorem dX12_init_265 : decode cX12_init 265 = .ok (.aload_n 0, 1) := by decide +kernel
theorem dX12_init_266 : decode cX12_init 266 = .ok (.iconst (-1), 1) := by decide +kernel
theorem dX12_init_267 : decode cX12_init 267 = .ok (.putfield 81, 3) := by decide +kernel
theorem dX12_init_270 : decode cX12_init 270 = .ok (.aload_n 0, 1) := by decide +kernel
theorem dX12_init_271 : decode cX12_init 271 = .ok (.bipush 7, 2) := by decide +kernel
theorem dX12_init_273 : decode cX12_init 273 = .ok (.newarray .int, 2) := by decide +kernel
theorem dX12_init_275 : decode cX12_init 275 = .ok (.putfield 84, 3) := by decide +kernel
theorem dX12_init_278 : decode cX12_init 278 = .ok (.aload_n 0, 1) := by decide +kernel
theorem dX12_init_279 : decode cX12_init 279 = .ok (.bipush 64, 2) := by decide +kernel
theorem dX12_init_281 : decode cX12_init 281 = .ok (.newarray .int, 2) := by decide +kernel
theorem dX12_init_283 : decode cX12_init 283 = .ok (.putfield 87, 3) := by decide +kernel
theorem dX12_init_286 : decode cX12_init 286 = .ok (.aload_n 0, 1) := by decide +kernel
theorem dX12_init_287 : decode cX12_init 287 = .ok (.bipush 7, 2) := by decide +kernel
theorem dX12_init_289 : decode cX12_init 289 = .ok (.newarray .int, 2) := by decide +kernel
theorem dX12_init_291 : decode cX12_init 291 = .ok (.putfield 90, 3) := by decide +kernel
theorem dX12_init_294 : decode cX12_init 294 = .ok (.aload_n 0, 1) := by decide +kernel
theorem dX12_init_295 : decode cX12_init 295 = .ok (.bipush 7, 2) := by decide +kernel
theorem dX12_init_297 : decode cX12_init 297 = .ok (.newarray .int, 2) := by decide +kernel
theorem dX12_init_299 : decode cX12_init 299 = .ok (.putfield 93, 3) := by decide +kernel
theorem dX12_init_302 : decode cX12_init 302 = .ok (.aload_n 0, 1) := by decide +kernel
theorem dX12_init_303 : decode cX12_init 303 = .ok (.bipush 7, 2) := by decide +kernel
theorem dX12_init_305 : decode cX12_init 305 = .ok (.newarray .int, 2) := by decide +kernel
theorem dX12_init_307 : decode cX12_init 307 = .ok (.putfield 96, 3) := by decide +kernel
theorem dX12_init_310 : decode cX12_init 310 = .ok (.aload_n 0, 1) := by decide +kernel
theorem dX12_init_311 : decode cX12_init 311 = .ok (.bipush 7, 2) := by decide +kernel
theorem dX12_init_313 : decode cX12_init 313 = .ok (.newarray .int, 2) := by decide +kernel
theorem dX12_init_315 : decode cX12_init 315 = .ok (.putfield 99, 3) := by decide +kernel
theorem dX12_init_318 : decode cX12_init 318 = .ok (.aload_n 0, 1) := by decide +kernel
theorem dX12_init_319 : decode cX12_init 319 = .ok (.bipush 7, 2) := by decide +kernel
theorem dX12_init_321 : decode cX12_init 321 = .ok (.newarray .int, 2) := by decide +kernel
theorem dX12_init_323 : decode cX12_init 323 = .ok (.putfield 102, 3) := by decide +kernel
theorem dX12_init_326 : decode cX12_init 326 = .ok (.aload_n 0, 1) := by decide +kernel
theorem dX12_init_327 : decode cX12_init 327 = .ok (.bipush 7, 2) := by decide +kernel
theorem dX12_init_329 : decode cX12_init 329 = .ok (.newarray .int, 2) := by decide +kernel
theorem dX12_init_331 : decode cX12_init 331 = .ok (.putfield 105, 3) := by decide +kernel
theorem dX12_init_334 : decode cX12_init 334 = .ok (.aload_n 0, 1) := by decide +kernel
theorem dX12_init_335 : decode cX12_init 335 = .ok (.bipush 7, 2) := by decide +kernel
theorem dX12_init_337 : decode cX12_init 337 = .ok (.newarray .int, 2) := by decide +kernel
theorem dX12_init_339 : decode cX12_init 339 = .ok (.putfield 108, 3) := by decide +kernel
theorem dX12_init_342 : decode cX12_init 342 = .ok (.aload_n 0, 1) := by decide +kernel
theorem dX12_init_343 : decode cX12_init 343 = .ok (.sipush 1200, 3) := by decide +kernel
theorem dX12_init_346 : decode cX12_init 346 = .ok (.newarray .int, 2) := by decide +kernel
theorem dX12_init_348 : decode cX12_init 348 = .ok (.putfield 111, 3) := by decide +kernel
theorem dX12_init_351 : decode cX12_init 351 = .ok (.aload_n 0, 1) := by decide +kernel
theorem dX12_init_352 : decode cX12_init 352 = .ok (.sipush 1200, 3) := by decide +kernel
theorem dX12_init_355 : decode cX12_init 355 = .ok (.newarray .int, 2) := by decide +kernel
theorem dX12_init_357 : decode cX12_init 357 = .ok (.putfield 114, 3) := by decide +kernel
theorem dX12_init_360 : decode cX12_init 360 = .ok (.aload_n 0, 1) := by decide +kernel
theorem dX12_init_361 : decode cX12_init 361 = .ok (.sipush 1200, 3) := by decide +kernel
theorem dX12_init_364 : decode cX12_init 364 = .ok (.newarray .int, 2) := by decide +kernel
theorem dX12_init_366 : decode cX12_init 366 = .ok (.putfield 117, 3) := by decide +kernel
theorem dX12_init_369 : decode cX12_init 369 = .ok (.aload_n 0, 1) := by decide +kernel
theorem dX12_init_370 : decode cX12_init 370 = .ok (.sipush 1200, 3) := by decide +kernel
theorem dX12_init_373 : decode cX12_init 373 = .ok (.newarray .int, 2) := by decide +kernel
theorem dX12_init_375 : decode cX12_init 375 = .ok (.putfield 120, 3) := by decide +kernel
theorem dX12_init_378 : decode cX12_init 378 = .ok (.aload_n 0, 1) := by decide +kernel
theorem dX12_init_379 : decode cX12_init 379 = .ok (.bipush 7, 2) := by decide +kernel
theorem dX12_init_381 : decode cX12_init 381 = .ok (.newarray .int, 2) := by decide +kernel
theorem dX12_init_383 : decode cX12_init 383 = .ok (.putfield 123, 3) := by decide +kernel
theorem dX12_init_386 : decode cX12_init 386 = .ok (.aload_n 0, 1) := by decide +kernel
theorem dX12_init_387 : decode cX12_init 387 = .ok (.bipush 7, 2) := by decide +kernel
theorem dX12_init_389 : decode cX12_init 389 = .ok (.newarray .int, 2) := by decide +kernel
theorem dX12_init_391 : decode cX12_init 391 = .ok (.putfield 126, 3) := by decide +kernel
theorem dX12_init_394 : decode cX12_init 394 = .ok (.aload_n 0, 1) := by decide +kernel
theorem dX12_init_395 : decode cX12_init 395 = .ok (.bipush 7, 2) := by decide +kernel
theorem dX12_init_397 : decode cX12_init 397 = .ok (.newarray .int, 2) := by decide +kernel
theorem dX12_init_399 : decode cX12_init 399 = .ok (.putfield 129, 3) := by decide +kernel
theorem dX12_init_402 : decode cX12_init 402 = .ok (.aload_n 0, 1) := by decide +kernel
theorem dX12_init_403 : decode cX12_init 403 = .ok (.bipush 8, 2) := by decide +kernel
theorem dX12_init_405 : decode cX12_init 405 = .ok (.newarray .int, 2) := by decide +kernel
theorem dX12_init_407 : decode cX12_init 407 = .ok (.putfield 132, 3) := by decide +kernel
theorem dX12_init_410 : decode cX12_init 410 = .ok (.aload_n 0, 1) := by decide +kernel
theorem dX12_init_411 : decode cX12_init 411 = .ok (.bipush 8, 2) := by decide +kernel
theorem dX12_init_413 : decode cX12_init 413 = .ok (.newarray .int, 2) := by decide +kernel
theorem dX12_init_415 : decode cX12_init 415 = .ok (.putfield 135, 3) := by decide +kernel
theorem dX12_init_418 : decode cX12_init 418 = .ok (.aload_n 0, 1) := by decide +kernel
theorem dX12_init_419 : decode cX12_init 419 = .ok (.bipush 8, 2) := by decide +kernel
theorem dX12_init_421 : decode cX12_init 421 = .ok (.newarray .int, 2) := by decide +kernel
theorem dX12_init_423 : decode cX12_init 423 = .ok (.putfield 138, 3) := by decide +kernel
theorem dX12_init_426 : decode cX12_init 426 = .ok (.aload_n 0, 1) := by decide +kernel
theorem dX12_init_427 : decode cX12_init 427 = .ok (.bipush 18, 2) := by decide +kernel
theorem dX12_init_429 : decode cX12_init 429 = .ok (.newarray .int, 2) := by decide +kernel
theorem dX12_init_431 : decode cX12_init 431 = .ok (.putfield 141, 3) := by decide +kernel
theorem dX12_init_434 : decode cX12_init 434 = .ok (.aload_n 0, 1) := by decide +kernel
theorem dX12_init_435 : decode cX12_init 435 = .ok (.sipush 720, 3) := by decide +kernel
theorem dX12_init_438 : decode cX12_init 438 = .ok (.newarray .int, 2) := by decide +kernel
theorem dX12_init_440 : decode cX12_init 440 = .ok (.putfield 144, 3) := by decide +kernel
theorem dX12_init_443 : decode cX12_init 443 = .ok (.aload_n 0, 1) := by decide +kernel
theorem dX12_init_444 : decode cX12_init 444 = .ok (.bipush 8, 2) := by decide +kernel
theorem dX12_init_446 : decode cX12_init 446 = .ok (.newarray .int, 2) := by decide +kernel
theorem dX12_init_448 : decode cX12_init 448 = .ok (.putfield 147, 3) := by decide +kernel
theorem dX12_init_451 : decode cX12_init 451 = .ok (.aload_n 0, 1) := by decide +kernel
theorem dX12_init_452 : decode cX12_init 452 = .ok (.bipush 8, 2) := by decide +kernel
theorem dX12_init_454 : decode cX12_init 454 = .ok (.newarray .int, 2) := by decide +kernel
theorem dX12_init_456 : decode cX12_init 456 = .ok (.putfield 150, 3) := by decide +kernel
theorem dX12_init_459 : decode cX12_init 459 = .ok (.aload_n 0, 1) := by decide +kernel
theorem dX12_init_460 : decode cX12_init 460 = .ok (.bipush 8, 2) := by decide +kernel
theorem dX12_init_462 : decode cX12_init 462 = .ok (.newarray .int, 2) := by decide +kernel
theorem dX12_init_464 : decode cX12_init 464 = .ok (.putfield 153, 3) := by decide +kernel
theorem dX12_init_467 : decode cX12_init 467 = .ok (.aload_n 0, 1) := by decide +kernel
theorem dX12_init_468 : decode cX12_init 468 = .ok (.iconst 3, 1) := by decide +kernel
theorem dX12_init_469 : decode cX12_init 469 = .ok (.newarray .int, 2) := by decide +kernel
theorem dX12_init_471 : decode cX12_init 471 = .ok (.putfield 156, 3) := by decide +kernel
theorem dX12_init_474 : decode cX12_init 474 = .ok (.return_, 1) := by decide +kernel
theorem dX12_thrown_0 : decode cX12_thrown 0 = .ok (.aload_n 0, 1) := by decide +kernel
theorem dX12_thrown_1 : decode cX12_thrown 1 = .ok (.getfield 159, 3) := by decide +kernel
theorem dX12_thrown_4 : decode cX12_thrown 4 = .ok (.ireturn, 1) := by decide +kernel
theorem dX12_fail_0 : decode cX12_fail 0 = .ok (.aload_n 0, 1) := by decide +kernel
theorem dX12_fail_1 : decode cX12_fail 1 = .ok (.iload_n 1, 1) := by decide +kernel
theorem dX12_fail_2 : decode cX12_fail 2 = .ok (.putfield 159, 3) := by decide +kernel
theorem dX12_fail_5 : decode cX12_fail 5 = .ok (.iconst 0, 1) := by decide +kernel
theorem dX12_fail_6 : decode cX12_fail 6 = .ok (.ireturn, 1) := by decide +kernel
theorem dX12_isIn_0 : decode cX12_isIn 0 = .ok (.lload_n 0, 1) := by decide +kernel
theorem dX12_isIn_1 : decode cX12_isIn 1 = .ok (.lload_n 2, 1) := by decide +kernel
theorem dX12_isIn_2 : decode cX12_isIn 2 = .ok (.lcmp, 1) := by decide +kernel
theorem dX12_isIn_3 : decode cX12_isIn 3 = .ok (.ifCond .lt 14, 3) := by decide +kernel
theorem dX12_isIn_6 : decode cX12_isIn 6 = .ok (.lload_n 0, 1) := by decide +kernel
theorem dX12_isIn_7 : decode cX12_isIn 7 = .ok (.lload 4, 2) := by decide +kernel
theorem dX12_isIn_9 : decode cX12_isIn 9 = .ok (.lcmp, 1) := by decide +kernel
theorem dX12_isIn_10 : decode cX12_isIn 10 = .ok (.ifCond .gt 7, 3) := by decide +kernel
theorem dX12_isIn_13 : decode cX12_isIn 13 = .ok (.iconst 1, 1) := by decide +kernel
theorem dX12_isIn_14 : decode cX12_isIn 14 = .ok (.goto 4, 3) := by decide +kernel
theorem dX12_isIn_17 : decode cX12_isIn 17 = .ok (.iconst 0, 1) := by decide +kernel
theorem dX12_isIn_18 : decode cX12_isIn 18 = .ok (.ireturn, 1) := by decide +kernel
theorem dX12_isSleeper_0 : decode cX12_isSleeper 0 = .ok (.iload_n 1, 1) := by decide +kernel
theorem dX12_isSleeper_1 : decode cX12_isSleeper 1 = .ok (.i2l, 1) := by decide +kernel
theorem dX12_isSleeper_2 : decode cX12_isSleeper 2 = .ok (.lconst 0, 1) := by decide +kernel
theorem dX12_isSleeper_3 : decode cX12_isSleeper 3 = .ok (.aload_n 0, 1) := by decide +kernel
theorem dX12_isSleeper_4 : decode cX12_isSleeper 4 = .ok (.getfield 38, 3) := by decide +kernel
theorem dX12_isSleeper_7 : decode cX12_isSleeper 7 = .ok (.iconst 0, 1) := by decide +kernel
theorem dX12_isSleeper_8 : decode cX12_isSleeper 8 = .ok (.iaload, 1) := by decide +kernel
theorem dX12_isSleeper_9 : decode cX12_isSleeper 9 = .ok (.iconst 1, 1) := by decide +kernel
theorem dX12_isSleeper_10 : decode cX12_isSleeper 10 = .ok (.isub, 1) := by decide +kernel
theorem dX12_isSleeper_11 : decode cX12_isSleeper 11 = .ok (.i2l, 1) := by decide +kernel
theorem dX12_isSleeper_12 : decode cX12_isSleeper 12 = .ok (.invokestatic 162, 3) := by decide +kernel
theorem dX12_isSleeper_15 : decode cX12_isSleeper 15 = .ok (.ireturn, 1) := by decide +kernel
theorem dX12_feed_0 : decode cX12_feed 0 = .ok (.aload_n 0, 1) := by decide +kernel
theorem dX12_feed_1 : decode cX12_feed 1 = .ok (.iconst 0, 1) := by decide +kernel
theorem dX12_feed_2 : decode cX12_feed 2 = .ok (.putfield 159, 3) := by decide +kernel
theorem dX12_feed_5 : decode cX12_feed 5 = .ok (.aload_n 0, 1) := by decide +kernel
theorem dX12_feed_6 : decode cX12_feed 6 = .ok (.getfield 166, 3) := by decide +kernel
theorem dX12_feed_9 : decode cX12_feed 9 = .ok (.bipush 20, 2) := by decide +kernel
theorem dX12_feed_11 : decode cX12_feed 11 = .ok (.iadd, 1) := by decide +kernel
theorem dX12_feed_12 : decode cX12_feed 12 = .ok (.sipush 600, 3) := by decide +kernel
theorem dX12_feed_15 : decode cX12_feed 15 = .ok (.if_icmp .le 5, 3) := by decide +kernel
theorem dX12_feed_18 : decode cX12_feed 18 = .ok (.iconst (-1), 1) := by decide +kernel
theorem dX12_feed_19 : decode cX12_feed 19 = .ok (.ireturn, 1) := by decide +kernel
theorem dX12_feed_20 : decode cX12_feed 20 = .ok (.iconst 0, 1) := by decide +kernel
theorem dX12_feed_21 : decode cX12_feed 21 = .ok (.istore 6, 2) := by decide +kernel
theorem dX12_feed_23 : decode cX12_feed 23 = .ok (.iload 6, 2) := by decide +kernel
theorem dX12_feed_25 : decode cX12_feed 25 = .ok (.bipush 20, 2) := by decide +kernel
theorem dX12_feed_27 : decode cX12_feed 27 = .ok (.if_icmp .ge 93, 3) := by decide +kernel
theorem dX12_feed_30 : decode cX12_feed 30 = .ok (.iload 6, 2) := by decide +kernel
theorem dX12_feed_32 : decode cX12_feed 32 = .ok (.iconst 4, 1) := by decide +kernel
theorem dX12_feed_33 : decode cX12_feed 33 = .ok (.if_icmp .ge 7, 3) := by decide +kernel
theorem dX12_feed_36 : decode cX12_feed 36 = .ok (.iload_n 1, 1) := by decide +kernel
theorem dX12_feed_37 : decode cX12_feed 37 = .ok (.goto 39, 3) := by decide +kernel
theorem dX12_feed_40 : decode cX12_feed 40 = .ok (.iload 6, 2) := by decide +kernel
theorem dX12_feed_42 : decode cX12_feed 42 = .ok (.bipush 8, 2) := by decide +kernel
theorem dX12_feed_44 : decode cX12_feed 44 = .ok (.if_icmp .ge 7, 3) := by decide +kernel
theorem dX12_feed_47 : decode cX12_feed 47 = .ok (.iload_n 2, 1) := by decide +kernel
theorem dX12_feed_48 : decode cX12_feed 48 = .ok (.goto 28, 3) := by decide +kernel
theorem dX12_feed_51 : decode cX12_feed 51 = .ok (.iload 6, 2) := by decide +kernel
theorem dX12_feed_53 : decode cX12_feed 53 = .ok (.bipush 12, 2) := by decide +kernel
theorem dX12_feed_55 : decode cX12_feed 55 = .ok (.if_icmp .ge 7, 3) := by decide +kernel
theorem dX12_feed_58 : decode cX12_feed 58 = .ok (.iload_n 3, 1) := by decide +kernel
theorem dX12_feed_59 : decode cX12_feed 59 = .ok (.goto 17, 3) := by decide +kernel
theorem dX12_feed_62 : decode cX12_feed 62 = .ok (.iload 6, 2) := by decide +kernel
theorem dX12_feed_64 : decode cX12_feed 64 = .ok (.bipush 16, 2) := by decide +kernel
theorem dX12_feed_66 : decode cX12_feed 66 = .ok (.if_icmp .ge 8, 3) := by decide +kernel
theorem dX12_feed_69 : decode cX12_feed 69 = .ok (.iload 4, 2) := by decide +kernel
theorem dX12_feed_71 : decode cX12_feed 71 = .ok (.goto 5, 3) := by decide +kernel
theorem dX12_feed_74 : decode cX12_feed 74 = .ok (.iload 5, 2) := by decide +kernel
theorem dX12_feed_76 : decode cX12_feed 76 = .ok (.istore 7, 2) := by decide +kernel
theorem dX12_feed_78 : decode cX12_feed 78 = .ok (.aload_n 0, 1) := by decide +kernel
theorem dX12_feed_79 : decode cX12_feed 79 = .ok (.getfield 68, 3) := by decide +kernel
theorem dX12_feed_82 : decode cX12_feed 82 = .ok (.aload_n 0, 1) := by decide +kernel
theorem dX12_feed_83 : decode cX12_feed 83 = .ok (.getfield 166, 3) := by decide +kernel
theorem dX12_feed_86 : decode cX12_feed 86 = .ok (.iload 7, 2) := by decide +kernel
theorem dX12_feed_88 : decode cX12_feed 88 = .ok (.bipush 24, 2) := by decide +kernel
theorem dX12_feed_90 : decode cX12_feed 90 = .ok (.bipush 8, 2) := by decide +kernel
theorem dX12_feed_92 : decode cX12_feed 92 = .ok (.iload 6, 2) := by decide +kernel
theorem dX12_feed_94 : decode cX12_feed 94 = .ok (.iconst 4, 1) := by decide +kernel
theorem dX12_feed_95 : decode cX12_feed 95 = .ok (.irem, 1) := by decide +kernel
theorem dX12_feed_96 : decode cX12_feed 96 = .ok (.imul, 1) := by decide +kernel
theorem dX12_feed_97 : decode cX12_feed 97 = .ok (.isub, 1) := by decide +kernel
theorem dX12_feed_98 : decode cX12_feed 98 = .ok (.ishr, 1) := by decide +kernel
theorem dX12_feed_99 : decode cX12_feed 99 = .ok (.sipush 255, 3) := by decide +kernel
theorem dX12_feed_102 : decode cX12_feed 102 = .ok (.iand, 1) := by decide +kernel
theorem dX12_feed_103 : decode cX12_feed 103 = .ok (.iastore, 1) := by decide +kernel
theorem dX12_feed_104 : decode cX12_feed 104 = .ok (.aload_n 0, 1) := by decide +kernel
theorem dX12_feed_105 : decode cX12_feed 105 = .ok (.dup, 1) := by decide +kernel
theorem dX12_feed_106 : decode cX12_feed 106 = .ok (.getfield 166, 3) := by decide +kernel
theorem dX12_feed_109 : decode cX12_feed 109 = .ok (.iconst 1, 1) := by decide +kernel
theorem dX12_feed_110 : decode cX12_feed 110 = .ok (.iadd, 1) := by decide +kernel
theorem dX12_feed_111 : decode cX12_feed 111 = .ok (.putfield 166, 3) := by decide +kernel
theorem dX12_feed_114 : decode cX12_feed 114 = .ok (.iinc 6 1, 3) := by decide +kernel
theorem dX12_feed_117 : decode cX12_feed 117 = .ok (.goto (-94), 3) := by decide +kernel
theorem dX12_feed_120 : decode cX12_feed 120 = .ok (.aload_n 0, 1) := by decide +kernel
theorem dX12_feed_121 : decode cX12_feed 121 = .ok (.getfield 166, 3) := by decide +kernel
theorem dX12_feed_124 : decode cX12_feed 124 = .ok (.ireturn, 1) := by decide +kernel
theorem dX12_byteAt_0 : decode cX12_byteAt 0 = .ok (.iload_n 1, 1) := by decide +kernel
theorem dX12_byteAt_1 : decode cX12_byteAt 1 = .ok (.aload_n 0, 1) := by decide +kernel
theorem dX12_byteAt_2 : decode cX12_byteAt 2 = .ok (.getfield 169, 3) := by decide +kernel
theorem dX12_byteAt_5 : decode cX12_byteAt 5 = .ok (.if_icmp .ge 12, 3) := by decide +kernel
theorem dX12_byteAt_8 : decode cX12_byteAt 8 = .ok (.aload_n 0, 1) := by decide +kernel
theorem dX12_byteAt_9 : decode cX12_byteAt 9 = .ok (.getfield 68, 3) := by decide +kernel
theorem dX12_byteAt_12 : decode cX12_byteAt 12 = .ok (.iload_n 1, 1) := by decide +kernel
theorem dX12_byteAt_13 : decode cX12_byteAt 13 = .ok (.iaload, 1) := by decide +kernel
theorem dX12_byteAt_14 : decode cX12_byteAt 14 = .ok (.goto 4, 3) := by decide +kernel
theorem dX12_byteAt_17 : decode cX12_byteAt 17 = .ok (.iconst (-1), 1) := by decide +kernel
theorem dX12_byteAt_18 : decode cX12_byteAt 18 = .ok (.ireturn, 1) := by decide +kernel
theorem dX12_isLetter_0 : decode cX12_isLetter 0 = .ok (.iload_n 0, 1) := by decide +kernel
theorem dX12_isLetter_1 : decode cX12_isLetter 1 = .ok (.bipush 97, 2) := by decide +kernel
theorem dX12_isLetter_3 : decode cX12_isLetter 3 = .ok (.if_icmp .lt 13, 3) := by decide +kernel
theorem dX12_isLetter_6 : decode cX12_isLetter 6 = .ok (.iload_n 0, 1) := by decide +kernel
theorem dX12_isLetter_7 : decode cX12_isLetter 7 = .ok (.bipush 122, 2) := by decide +kernel
theorem dX12_isLetter_9 : decode cX12_isLetter 9 = .ok (.if_icmp .gt 7, 3) := by decide +kernel
theorem dX12_isLetter_12 : decode cX12_isLetter 12 = .ok (.iconst 1, 1) := by decide +kernel
theorem dX12_isLetter_13 : decode cX12_isLetter 13 = .ok (.goto 4, 3) := by decide +kernel
theorem dX12_isLetter_16 : decode cX12_isLetter 16 = .ok (.iconst 0, 1) := by decide +kernel
theorem dX12_isLetter_17 : decode cX12_isLetter 17 = .ok (.ireturn, 1) := by decide +kernel
theorem dX12_isDigit_0 : decode cX12_isDigit 0 = .ok (.iload_n 0, 1) := by decide +kernel
theorem dX12_isDigit_1 : decode cX12_isDigit 1 = .ok (.bipush 48, 2) := by decide +kernel
theorem dX12_isDigit_3 : decode cX12_isDigit 3 = .ok (.if_icmp .lt 13, 3) := by decide +kernel
theorem dX12_isDigit_6 : decode cX12_isDigit 6 = .ok (.iload_n 0, 1) := by decide +kernel
theorem dX12_isDigit_7 : decode cX12_isDigit 7 = .ok (.bipush 57, 2) := by decide +kernel
theorem dX12_isDigit_9 : decode cX12_isDigit 9 = .ok (.if_icmp .gt 7, 3) := by decide +kernel
theorem dX12_isDigit_12 : decode cX12_isDigit 12 = .ok (.iconst 1, 1) := by decide +kernel
theorem dX12_isDigit_13 : decode cX12_isDigit 13 = .ok (.goto 4, 3) := by decide +kernel
theorem dX12_isDigit_16 : decode cX12_isDigit 16 = .ok (.iconst 0, 1) := by decide +kernel
theorem dX12_isDigit_17 : decode cX12_isDigit 17 = .ok (.ireturn, 1) := by decide +kernel
theorem dX12_isMark_0 : decode cX12_isMark 0 = .ok (.iload_n 0, 1) := by decide +kernel
theorem dX12_isMark_1 : decode cX12_isMark 1 = .ok (.bipush 59, 2) := by decide +kernel
theorem dX12_isMark_3 : decode cX12_isMark 3 = .ok (.if_icmp .eq 51, 3) := by decide +kernel
theorem dX12_isMark_6 : decode cX12_isMark 6 = .ok (.iload_n 0, 1) := by decide +kernel
theorem dX12_isMark_7 : decode cX12_isMark 7 = .ok (.bipush 40, 2) := by decide +kernel
theorem dX12_isMark_9 : decode cX12_isMark 9 = .ok (.if_icmp .eq 45, 3) := by decide +kernel
theorem dX12_isMark_12 : decode cX12_isMark 12 = .ok (.iload_n 0, 1) := by decide +kernel
theorem dX12_isMark_13 : decode cX12_isMark 13 = .ok (.bipush 41, 2) := by decide +kernel
theorem dX12_isMark_15 : decode cX12_isMark 15 = .ok (.if_icmp .eq 39, 3) := by decide +kernel
theorem dX12_isMark_18 : decode cX12_isMark 18 = .ok (.iload_n 0, 1) := by decide +kernel
theorem dX12_isMark_19 : decode cX12_isMark 19 = .ok (.bipush 43, 2) := by decide +kernel
theorem dX12_isMark_21 : decode cX12_isMark 21 = .ok (.if_icmp .eq 33, 3) := by decide +kernel
theorem dX12_isMark_24 : decode cX12_isMark 24 = .ok (.iload_n 0, 1) := by decide +kernel
theorem dX12_isMark_25 : decode cX12_isMark 25 = .ok (.bipush 45, 2) := by decide +kernel
theorem dX12_isMark_27 : decode cX12_isMark 27 = .ok (.if_icmp .eq 27, 3) := by decide +kernel
theorem dX12_isMark_30 : decode cX12_isMark 30 = .ok (.iload_n 0, 1) := by decide +kernel
theorem dX12_isMark_31 : decode cX12_isMark 31 = .ok (.bipush 42, 2) := by decide +kernel
theorem dX12_isMark_33 : decode cX12_isMark 33 = .ok (.if_icmp .eq 21, 3) := by decide +kernel
theorem dX12_isMark_36 : decode cX12_isMark 36 = .ok (.iload_n 0, 1) := by decide +kernel
theorem dX12_isMark_37 : decode cX12_isMark 37 = .ok (.bipush 47, 2) := by decide +kernel
theorem dX12_isMark_39 : decode cX12_isMark 39 = .ok (.if_icmp .eq 15, 3) := by decide +kernel
theorem dX12_isMark_42 : decode cX12_isMark 42 = .ok (.iload_n 0, 1) := by decide +kernel
theorem dX12_isMark_43 : decode cX12_isMark 43 = .ok (.bipush 60, 2) := by decide +kernel
theorem dX12_isMark_45 : decode cX12_isMark 45 = .ok (.if_icmp .eq 9, 3) := by decide +kernel
theorem dX12_isMark_48 : decode cX12_isMark 48 = .ok (.iload_n 0, 1) := by decide +kernel
theorem dX12_isMark_49 : decode cX12_isMark 49 = .ok (.bipush 61, 2) := by decide +kernel
theorem dX12_isMark_51 : decode cX12_isMark 51 = .ok (.if_icmp .ne 7, 3) := by decide +kernel
theorem dX12_isMark_54 : decode cX12_isMark 54 = .ok (.iconst 1, 1) := by decide +kernel
theorem dX12_isMark_55 : decode cX12_isMark 55 = .ok (.goto 4, 3) := by decide +kernel
theorem dX12_isMark_58 : decode cX12_isMark 58 = .ok (.iconst 0, 1) := by decide +kernel
theorem dX12_isMark_59 : decode cX12_isMark 59 = .ok (.ireturn, 1) := by decide +kernel
theorem dX12_stepOn_0 : decode cX12_stepOn 0 = .ok (.aload_n 0, 1) := by decide +kernel
theorem dX12_stepOn_1 : decode cX12_stepOn 1 = .ok (.aload_n 0, 1) := by decide +kernel
theorem dX12_stepOn_2 : decode cX12_stepOn 2 = .ok (.getfield 172, 3) := by decide +kernel
theorem dX12_stepOn_5 : decode cX12_stepOn 5 = .ok (.invokevirtual 175, 3) := by decide +kernel
theorem dX12_stepOn_8 : decode cX12_stepOn 8 = .ok (.bipush 32, 2) := by decide +kernel
theorem dX12_stepOn_10 : decode cX12_stepOn 10 = .ok (.if_icmp .eq 16, 3) := by decide +kernel
theorem dX12_stepOn_13 : decode cX12_stepOn 13 = .ok (.aload_n 0, 1) := by decide +kernel
theorem dX12_stepOn_14 : decode cX12_stepOn 14 = .ok (.aload_n 0, 1) := by decide +kernel
theorem dX12_stepOn_15 : decode cX12_stepOn 15 = .ok (.getfield 172, 3) := by decide +kernel
theorem dX12_stepOn_18 : decode cX12_stepOn 18 = .ok (.invokevirtual 175, 3) := by decide +kernel
theorem dX12_stepOn_21 : decode cX12_stepOn 21 = .ok (.bipush 10, 2) := by decide +kernel
theorem dX12_stepOn_23 : decode cX12_stepOn 23 = .ok (.if_icmp .ne 16, 3) := by decide +kernel
theorem dX12_stepOn_26 : decode cX12_stepOn 26 = .ok (.aload_n 0, 1) := by decide +kernel
theorem dX12_stepOn_27 : decode cX12_stepOn 27 = .ok (.dup, 1) := by decide +kernel
theorem dX12_stepOn_28 : decode cX12_stepOn 28 = .ok (.getfield 172, 3) := by decide +kernel
theorem dX12_stepOn_31 : decode cX12_stepOn 31 = .ok (.iconst 1, 1) := by decide +kernel
theorem dX12_stepOn_32 : decode cX12_stepOn 32 = .ok (.iadd, 1) := by decide +kernel
theorem dX12_stepOn_33 : decode cX12_stepOn 33 = .ok (.putfield 172, 3) := by decide +kernel
theorem dX12_stepOn_36 : decode cX12_stepOn 36 = .ok (.goto (-36), 3) := by decide +kernel
theorem dX12_stepOn_39 : decode cX12_stepOn 39 = .ok (.aload_n 0, 1) := by decide +kernel
theorem dX12_stepOn_40 : decode cX12_stepOn 40 = .ok (.aload_n 0, 1) := by decide +kernel
theorem dX12_stepOn_41 : decode cX12_stepOn 41 = .ok (.getfield 172, 3) := by decide +kernel
theorem dX12_stepOn_44 : decode cX12_stepOn 44 = .ok (.putfield 179, 3) := by decide +kernel
theorem dX12_stepOn_47 : decode cX12_stepOn 47 = .ok (.aload_n 0, 1) := by decide +kernel
theorem dX12_stepOn_48 : decode cX12_stepOn 48 = .ok (.aload_n 0, 1) := by decide +kernel
theorem dX12_stepOn_49 : decode cX12_stepOn 49 = .ok (.getfield 172, 3) := by decide +kernel
theorem dX12_stepOn_52 : decode cX12_stepOn 52 = .ok (.invokevirtual 175, 3) := by decide +kernel
theorem dX12_stepOn_55 : decode cX12_stepOn 55 = .ok (.istore_n 1, 1) := by decide +kernel
theorem dX12_stepOn_56 : decode cX12_stepOn 56 = .ok (.iload_n 1, 1) := by decide +kernel
theorem dX12_stepOn_57 : decode cX12_stepOn 57 = .ok (.iconst (-1), 1) := by decide +kernel
theorem dX12_stepOn_58 : decode cX12_stepOn 58 = .ok (.if_icmp .ne 11, 3) := by decide +kernel
theorem dX12_stepOn_61 : decode cX12_stepOn 61 = .ok (.aload_n 0, 1) := by decide +kernel
theorem dX12_stepOn_62 : decode cX12_stepOn 62 = .ok (.iconst 0, 1) := by decide +kernel
theorem dX12_stepOn_63 : decode cX12_stepOn 63 = .ok (.putfield 182, 3) := by decide +kernel
theorem dX12_stepOn_66 : decode cX12_stepOn 66 = .ok (.goto 146, 3) := by decide +kernel
theorem dX12_stepOn_69 : decode cX12_stepOn 69 = .ok (.iload_n 1, 1) := by decide +kernel
theorem dX12_stepOn_70 : decode cX12_stepOn 70 = .ok (.invokestatic 185, 3) := by decide +kernel
theorem dX12_stepOn_73 : decode cX12_stepOn 73 = .ok (.ifCond .eq 38, 3) := by decide +kernel
theorem dX12_stepOn_76 : decode cX12_stepOn 76 = .ok (.aload_n 0, 1) := by decide +kernel
theorem dX12_stepOn_77 : decode cX12_stepOn 77 = .ok (.aload_n 0, 1) := by decide +kernel
theorem dX12_stepOn_78 : decode cX12_stepOn 78 = .ok (.getfield 172, 3) := by decide +kernel
theorem dX12_stepOn_81 : decode cX12_stepOn 81 = .ok (.invokevirtual 175, 3) := by decide +kernel
theorem dX12_stepOn_84 : decode cX12_stepOn 84 = .ok (.invokestatic 185, 3) := by decide +kernel
theorem dX12_stepOn_87 : decode cX12_stepOn 87 = .ok (.ifCond .eq 16, 3) := by decide +kernel
theorem dX12_stepOn_90 : decode cX12_stepOn 90 = .ok (.aload_n 0, 1) := by decide +kernel
theorem dX12_stepOn_91 : decode cX12_stepOn 91 = .ok (.dup, 1) := by decide +kernel
theorem dX12_stepOn_92 : decode cX12_stepOn 92 = .ok (.getfield 172, 3) := by decide +kernel
theorem dX12_stepOn_95 : decode cX12_stepOn 95 = .ok (.iconst 1, 1) := by decide +kernel
theorem dX12_stepOn_96 : decode cX12_stepOn 96 = .ok (.iadd, 1) := by decide +kernel
theorem dX12_stepOn_97 : decode cX12_stepOn 97 = .ok (.putfield 172, 3) := by decide +kernel
theorem dX12_stepOn_100 : decode cX12_stepOn 100 = .ok (.goto (-24), 3) := by decide +kernel
theorem dX12_stepOn_103 : decode cX12_stepOn 103 = .ok (.aload_n 0, 1) := by decide +kernel
theorem dX12_stepOn_104 : decode cX12_stepOn 104 = .ok (.iconst 1, 1) := by decide +kernel
theorem dX12_stepOn_105 : decode cX12_stepOn 105 = .ok (.putfield 182, 3) := by decide +kernel
theorem dX12_stepOn_108 : decode cX12_stepOn 108 = .ok (.goto 104, 3) := by decide +kernel
theorem dX12_stepOn_111 : decode cX12_stepOn 111 = .ok (.iload_n 1, 1) := by decide +kernel
theorem dX12_stepOn_112 : decode cX12_stepOn 112 = .ok (.invokestatic 189, 3) := by decide +kernel
theorem dX12_stepOn_115 : decode cX12_stepOn 115 = .ok (.ifCond .eq 71, 3) := by decide +kernel
theorem dX12_stepOn_118 : decode cX12_stepOn 118 = .ok (.aload_n 0, 1) := by decide +kernel
theorem dX12_stepOn_119 : decode cX12_stepOn 119 = .ok (.iconst 0, 1) := by decide +kernel
theorem dX12_stepOn_120 : decode cX12_stepOn 120 = .ok (.putfield 192, 3) := by decide +kernel
theorem dX12_stepOn_123 : decode cX12_stepOn 123 = .ok (.aload_n 0, 1) := by decide +kernel
theorem dX12_stepOn_124 : decode cX12_stepOn 124 = .ok (.aload_n 0, 1) := by decide +kernel
theorem dX12_stepOn_125 : decode cX12_stepOn 125 = .ok (.getfield 172, 3) := by decide +kernel
theorem dX12_stepOn_128 : decode cX12_stepOn 128 = .ok (.invokevirtual 175, 3) := by decide +kernel
theorem dX12_stepOn_131 : decode cX12_stepOn 131 = .ok (.invokestatic 189, 3) := by decide +kernel
theorem dX12_stepOn_134 : decode cX12_stepOn 134 = .ok (.ifCond .eq 44, 3) := by decide +kernel
theorem dX12_stepOn_137 : decode cX12_stepOn 137 = .ok (.aload_n 0, 1) := by decide +kernel
theorem dX12_stepOn_138 : decode cX12_stepOn 138 = .ok (.ldc 195, 2) := by decide +kernel
theorem dX12_stepOn_140 : decode cX12_stepOn 140 = .ok (.bipush 10, 2) := by decide +kernel
theorem dX12_stepOn_142 : decode cX12_stepOn 142 = .ok (.aload_n 0, 1) := by decide +kernel
theorem dX12_stepOn_143 : decode cX12_stepOn 143 = .ok (.getfield 192, 3) := by decide +kernel
theorem dX12_stepOn_146 : decode cX12_stepOn 146 = .ok (.imul, 1) := by decide +kernel
theorem dX12_stepOn_147 : decode cX12_stepOn 147 = .ok (.aload_n 0, 1) := by decide +kernel
theorem dX12_stepOn_148 : decode cX12_stepOn 148 = .ok (.aload_n 0, 1) := by decide +kernel
theorem dX12_stepOn_149 : decode cX12_stepOn 149 = .ok (.getfield 172, 3) := by decide +kernel
theorem dX12_stepOn_152 : decode cX12_stepOn 152 = .ok (.invokevirtual 175, 3) := by decide +kernel
theorem dX12_stepOn_155 : decode cX12_stepOn 155 = .ok (.iadd, 1) := by decide +kernel
theorem dX12_stepOn_156 : decode cX12_stepOn 156 = .ok (.bipush 48, 2) := by decide +kernel
theorem dX12_stepOn_158 : decode cX12_stepOn 158 = .ok (.isub, 1) := by decide +kernel
theorem dX12_stepOn_159 : decode cX12_stepOn 159 = .ok (.invokestatic 196, 3) := by decide +kernel
theorem dX12_stepOn_162 : decode cX12_stepOn 162 = .ok (.putfield 192, 3) := by decide +kernel
theorem dX12_stepOn_165 : decode cX12_stepOn 165 = .ok (.aload_n 0, 1) := by decide +kernel
theorem dX12_stepOn_166 : decode cX12_stepOn 166 = .ok (.dup, 1) := by decide +kernel
theorem dX12_stepOn_167 : decode cX12_stepOn 167 = .ok (.getfield 172, 3) := by decide +kernel
theorem dX12_stepOn_170 : decode cX12_stepOn 170 = .ok (.iconst 1, 1) := by decide +kernel
theorem dX12_stepOn_171 : decode cX12_stepOn 171 = .ok (.iadd, 1) := by decide +kernel
theorem dX12_stepOn_172 : decode cX12_stepOn 172 = .ok (.putfield 172, 3) := by decide +kernel
theorem dX12_stepOn_175 : decode cX12_stepOn 175 = .ok (.goto (-52), 3) := by decide +kernel
theorem dX12_stepOn_178 : decode cX12_stepOn 178 = .ok (.aload_n 0, 1) := by decide +kernel
theorem dX12_stepOn_179 : decode cX12_stepOn 179 = .ok (.iconst 2, 1) := by decide +kernel
theorem dX12_stepOn_180 : decode cX12_stepOn 180 = .ok (.putfield 182, 3) := by decide +kernel
theorem dX12_stepOn_183 : decode cX12_stepOn 183 = .ok (.goto 29, 3) := by decide +kernel
theorem dX12_stepOn_186 : decode cX12_stepOn 186 = .ok (.aload_n 0, 1) := by decide +kernel
theorem dX12_stepOn_187 : decode cX12_stepOn 187 = .ok (.dup, 1) := by decide +kernel
theorem dX12_stepOn_188 : decode cX12_stepOn 188 = .ok (.getfield 172, 3) := by decide +kernel
theorem dX12_stepOn_191 : decode cX12_stepOn 191 = .ok (.iconst 1, 1) := by decide +kernel
theorem dX12_stepOn_192 : decode cX12_stepOn 192 = .ok (.iadd, 1) := by decide +kernel
theorem dX12_stepOn_193 : decode cX12_stepOn 193 = .ok (.putfield 172, 3) := by decide +kernel
theorem dX12_stepOn_196 : decode cX12_stepOn 196 = .ok (.aload_n 0, 1) := by decide +kernel
theorem dX12_stepOn_197 : decode cX12_stepOn 197 = .ok (.iload_n 1, 1) := by decide +kernel
theorem dX12_stepOn_198 : decode cX12_stepOn 198 = .ok (.invokestatic 202, 3) := by decide +kernel
theorem dX12_stepOn_201 : decode cX12_stepOn 201 = .ok (.ifCond .eq 7, 3) := by decide +kernel
theorem dX12_stepOn_204 : decode cX12_stepOn 204 = .ok (.iconst 3, 1) := by decide +kernel
theorem dX12_stepOn_205 : decode cX12_stepOn 205 = .ok (.goto 4, 3) := by decide +kernel
theorem dX12_stepOn_208 : decode cX12_stepOn 208 = .ok (.iconst 4, 1) := by decide +kernel
theorem dX12_stepOn_209 : decode cX12_stepOn 209 = .ok (.putfield 182, 3) := by decide +kernel
theorem dX12_stepOn_212 : decode cX12_stepOn 212 = .ok (.aload_n 0, 1) := by decide +kernel
theorem dX12_stepOn_213 : decode cX12_stepOn 213 = .ok (.aload_n 0, 1) := by decide +kernel
theorem dX12_stepOn_214 : decode cX12_stepOn 214 = .ok (.getfield 172, 3) := by decide +kernel
theorem dX12_stepOn_217 : decode cX12_stepOn 217 = .ok (.putfield 205, 3) := by decide +kernel
theorem dX12_stepOn_220 : decode cX12_stepOn 220 = .ok (.return_, 1) := by decide +kernel
theorem dX12_wrong_0 : decode cX12_wrong 0 = .ok (.aload_n 0, 1) := by decide +kernel
theorem dX12_wrong_1 : decode cX12_wrong 1 = .ok (.getfield 208, 3) := by decide +kernel
theorem dX12_wrong_4 : decode cX12_wrong 4 = .ok (.ifCond .eq 4, 3) := by decide +kernel
theorem dX12_wrong_7 : decode cX12_wrong 7 = .ok (.return_, 1) := by decide +kernel
theorem dX12_wrong_8 : decode cX12_wrong 8 = .ok (.aload_n 0, 1) := by decide +kernel
theorem dX12_wrong_9 : decode cX12_wrong 9 = .ok (.iload_n 1, 1) := by decide +kernel
theorem dX12_wrong_10 : decode cX12_wrong 10 = .ok (.putfield 208, 3) := by decide +kernel
theorem dX12_wrong_13 : decode cX12_wrong 13 = .ok (.aload_n 0, 1) := by decide +kernel
theorem dX12_wrong_14 : decode cX12_wrong 14 = .ok (.aload_n 0, 1) := by decide +kernel
theorem dX12_wrong_15 : decode cX12_wrong 15 = .ok (.getfield 179, 3) := by decide +kernel
theorem dX12_wrong_18 : decode cX12_wrong 18 = .ok (.putfield 211, 3) := by decide +kernel
theorem dX12_wrong_21 : decode cX12_wrong 21 = .ok (.return_, 1) := by decide +kernel
theorem dX12_is_0 : decode cX12_is 0 = .ok (.aload_n 0, 1) := by decide +kernel
theorem dX12_is_1 : decode cX12_is 1 = .ok (.getfield 208, 3) := by decide +kernel
theorem dX12_is_4 : decode cX12_is 4 = .ok (.ifCond .ne 31, 3) := by decide +kernel
theorem dX12_is_7 : decode cX12_is 7 = .ok (.aload_n 0, 1) := by decide +kernel
theorem dX12_is_8 : decode cX12_is 8 = .ok (.getfield 182, 3) := by decide +kernel
theorem dX12_is_11 : decode cX12_is 11 = .ok (.iconst 1, 1) := by decide +kernel
theorem dX12_is_12 : decode cX12_is 12 = .ok (.if_icmp .ne 23, 3) := by decide +kernel
theorem dX12_is_15 : decode cX12_is 15 = .ok (.aload_n 1, 1) := by decide +kernel
theorem dX12_is_16 : decode cX12_is 16 = .ok (.invokevirtual 214, 3) := by decide +kernel
theorem dX12_is_19 : decode cX12_is 19 = .ok (.aload_n 0, 1) := by decide +kernel
theorem dX12_is_20 : decode cX12_is 20 = .ok (.getfield 205, 3) := by decide +kernel
theorem dX12_is_23 : decode cX12_is 23 = .ok (.aload_n 0, 1) := by decide +kernel
theorem dX12_is_24 : decode cX12_is 24 = .ok (.getfield 179, 3) := by decide +kernel
theorem dX12_is_27 : decode cX12_is 27 = .ok (.isub, 1) := by decide +kernel
theorem dX12_is_28 : decode cX12_is 28 = .ok (.if_icmp .ne 7, 3) := by decide +kernel
theorem dX12_is_31 : decode cX12_is 31 = .ok (.iconst 1, 1) := by decide +kernel
theorem dX12_is_32 : decode cX12_is 32 = .ok (.goto 4, 3) := by decide +kernel
theorem dX12_is_35 : decode cX12_is 35 = .ok (.iconst 0, 1) := by decide +kernel
theorem dX12_is_36 : decode cX12_is 36 = .ok (.istore_n 2, 1) := by decide +kernel
theorem dX12_is_37 : decode cX12_is 37 = .ok (.iconst 0, 1) := by decide +kernel
theorem dX12_is_38 : decode cX12_is 38 = .ok (.istore_n 3, 1) := by decide +kernel
theorem dX12_is_39 : decode cX12_is 39 = .ok (.iload_n 2, 1) := by decide +kernel
theorem dX12_is_40 : decode cX12_is 40 = .ok (.ifCond .eq 42, 3) := by decide +kernel
theorem dX12_is_43 : decode cX12_is 43 = .ok (.iload_n 3, 1) := by decide +kernel
theorem dX12_is_44 : decode cX12_is 44 = .ok (.aload_n 1, 1) := by decide +kernel
theorem dX12_is_45 : decode cX12_is 45 = .ok (.invokevirtual 214, 3) := by decide +kernel
theorem dX12_is_48 : decode cX12_is 48 = .ok (.if_icmp .ge 34, 3) := by decide +kernel
theorem dX12_is_51 : decode cX12_is 51 = .ok (.aload_n 1, 1) := by decide +kernel
theorem dX12_is_52 : decode cX12_is 52 = .ok (.iload_n 3, 1) := by decide +kernel
theorem dX12_is_53 : decode cX12_is 53 = .ok (.invokevirtual 218, 3) := by decide +kernel
theorem dX12_is_56 : decode cX12_is 56 = .ok (.aload_n 0, 1) := by decide +kernel
theorem dX12_is_57 : decode cX12_is 57 = .ok (.getfield 68, 3) := by decide +kernel
theorem dX12_is_60 : decode cX12_is 60 = .ok (.aload_n 0, 1) := by decide +kernel
theorem dX12_is_61 : decode cX12_is 61 = .ok (.getfield 179, 3) := by decide +kernel
theorem dX12_is_64 : decode cX12_is 64 = .ok (.iload_n 3, 1) := by decide +kernel
theorem dX12_is_65 : decode cX12_is 65 = .ok (.iadd, 1) := by decide +kernel
theorem dX12_is_66 : decode cX12_is 66 = .ok (.iaload, 1) := by decide +kernel
theorem dX12_is_67 : decode cX12_is 67 = .ok (.if_icmp .ne 7, 3) := by decide +kernel
theorem dX12_is_70 : decode cX12_is 70 = .ok (.iconst 1, 1) := by decide +kernel
theorem dX12_is_71 : decode cX12_is 71 = .ok (.goto 4, 3) := by decide +kernel
theorem dX12_is_74 : decode cX12_is 74 = .ok (.iconst 0, 1) := by decide +kernel
theorem dX12_is_75 : decode cX12_is 75 = .ok (.istore_n 2, 1) := by decide +kernel
theorem dX12_is_76 : decode cX12_is 76 = .ok (.iinc 3 1, 3) := by decide +kernel
theorem dX12_is_79 : decode cX12_is 79 = .ok (.goto (-40), 3) := by decide +kernel
theorem dX12_is_82 : decode cX12_is 82 = .ok (.iload_n 2, 1) := by decide +kernel
theorem dX12_is_83 : decode cX12_is 83 = .ok (.ireturn, 1) := by decide +kernel
theorem dX12_which_0 : decode cX12_which 0 = .ok (.iconst 0, 1) := by decide +kernel
theorem dX12_which_1 : decode cX12_which 1 = .ok (.istore_n 2, 1) := by decide +kernel
theorem dX12_which_2 : decode cX12_which 2 = .ok (.iload_n 2, 1) := by decide +kernel
theorem dX12_which_3 : decode cX12_which 3 = .ok (.aload_n 1, 1) := by decide +kernel
theorem dX12_which_4 : decode cX12_which 4 = .ok (.arraylength, 1) := by decide +kernel
theorem dX12_which_5 : decode cX12_which 5 = .ok (.if_icmp .ge 21, 3) := by decide +kernel
theorem dX12_which_8 : decode cX12_which 8 = .ok (.aload_n 0, 1) := by decide +kernel
theorem dX12_which_9 : decode cX12_which 9 = .ok (.aload_n 1, 1) := by decide +kernel
theorem dX12_which_10 : decode cX12_which 10 = .ok (.iload_n 2, 1) := by decide +kernel
theorem dX12_which_11 : decode cX12_which 11 = .ok (.aaload, 1) := by decide +kernel
theorem dX12_which_12 : decode cX12_which 12 = .ok (.invokevirtual 222, 3) := by decide +kernel
theorem dX12_which_15 : decode cX12_which 15 = .ok (.ifCond .eq 5, 3) := by decide +kernel
theorem dX12_which_18 : decode cX12_which 18 = .ok (.iload_n 2, 1) := by decide +kernel
theorem dX12_which_19 : decode cX12_which 19 = .ok (.ireturn, 1) := by decide +kernel
theorem dX12_which_20 : decode cX12_which 20 = .ok (.iinc 2 1, 3) := by decide +kernel
theorem dX12_which_23 : decode cX12_which 23 = .ok (.goto (-21), 3) := by decide +kernel
theorem dX12_which_26 : decode cX12_which 26 = .ok (.iconst (-1), 1) := by decide +kernel
theorem dX12_which_27 : decode cX12_which 27 = .ok (.ireturn, 1) := by decide +kernel
theorem dX12_isMarked_0 : decode cX12_isMarked 0 = .ok (.aload_n 0, 1) := by decide +kernel
theorem dX12_isMarked_1 : decode cX12_isMarked 1 = .ok (.getfield 208, 3) := by decide +kernel
theorem dX12_isMarked_4 : decode cX12_isMarked 4 = .ok (.ifCond .ne 28, 3) := by decide +kernel
theorem dX12_isMarked_7 : decode cX12_isMarked 7 = .ok (.aload_n 0, 1) := by decide +kernel
theorem dX12_isMarked_8 : decode cX12_isMarked 8 = .ok (.getfield 182, 3) := by decide +kernel
theorem dX12_isMarked_11 : decode cX12_isMarked 11 = .ok (.iconst 3, 1) := by decide +kernel
theorem dX12_isMarked_12 : decode cX12_isMarked 12 = .ok (.if_icmp .ne 20, 3) := by decide +kernel
theorem dX12_isMarked_15 : decode cX12_isMarked 15 = .ok (.aload_n 0, 1) := by decide +kernel
theorem dX12_isMarked_16 : decode cX12_isMarked 16 = .ok (.getfield 68, 3) := by decide +kernel
theorem dX12_isMarked_19 : decode cX12_isMarked 19 = .ok (.aload_n 0, 1) := by decide +kernel
theorem dX12_isMarked_20 : decode cX12_isMarked 20 = .ok (.getfield 179, 3) := by decide +kernel
theorem dX12_isMarked_23 : decode cX12_isMarked 23 = .ok (.iaload, 1) := by decide +kernel
theorem dX12_isMarked_24 : decode cX12_isMarked 24 = .ok (.iload_n 1, 1) := by decide +kernel
theorem dX12_isMarked_25 : decode cX12_isMarked 25 = .ok (.if_icmp .ne 7, 3) := by decide +kernel
theorem dX12_isMarked_28 : decode cX12_isMarked 28 = .ok (.iconst 1, 1) := by decide +kernel
theorem dX12_isMarked_29 : decode cX12_isMarked 29 = .ok (.goto 4, 3) := by decide +kernel
theorem dX12_isMarked_32 : decode cX12_isMarked 32 = .ok (.iconst 0, 1) := by decide +kernel
theorem dX12_isMarked_33 : decode cX12_isMarked 33 = .ok (.ireturn, 1) := by decide +kernel
theorem dX12_mark_0 : decode cX12_mark 0 = .ok (.aload_n 0, 1) := by decide +kernel
theorem dX12_mark_1 : decode cX12_mark 1 = .ok (.getfield 208, 3) := by decide +kernel
theorem dX12_mark_4 : decode cX12_mark 4 = .ok (.ifCond .ne 16, 3) := by decide +kernel
theorem dX12_mark_7 : decode cX12_mark 7 = .ok (.aload_n 0, 1) := by decide +kernel
theorem dX12_mark_8 : decode cX12_mark 8 = .ok (.iload_n 1, 1) := by decide +kernel
theorem dX12_mark_9 : decode cX12_mark 9 = .ok (.invokevirtual 226, 3) := by decide +kernel
theorem dX12_mark_12 : decode cX12_mark 12 = .ok (.ifCond .ne 8, 3) := by decide +kernel
theorem dX12_mark_15 : decode cX12_mark 15 = .ok (.aload_n 0, 1) := by decide +kernel
theorem dX12_mark_16 : decode cX12_mark 16 = .ok (.iconst 1, 1) := by decide +kernel
theorem dX12_mark_17 : decode cX12_mark 17 = .ok (.invokevirtual 229, 3) := by decide +kernel
theorem dX12_mark_20 : decode cX12_mark 20 = .ok (.aload_n 0, 1) := by decide +kernel
theorem dX12_mark_21 : decode cX12_mark 21 = .ok (.getfield 208, 3) := by decide +kernel
theorem dX12_mark_24 : decode cX12_mark 24 = .ok (.ifCond .ne 7, 3) := by decide +kernel
theorem dX12_mark_27 : decode cX12_mark 27 = .ok (.aload_n 0, 1) := by decide +kernel
theorem dX12_mark_28 : decode cX12_mark 28 = .ok (.invokevirtual 233, 3) := by decide +kernel
theorem dX12_mark_31 : decode cX12_mark 31 = .ok (.return_, 1) := by decide +kernel
theorem dX12_numberNow_0 : decode cX12_numberNow 0 = .ok (.aload_n 0, 1) := by decide +kernel
theorem dX12_numberNow_1 : decode cX12_numberNow 1 = .ok (.getfield 208, 3) := by decide +kernel
theorem dX12_numberNow_4 : decode cX12_numberNow 4 = .ok (.ifCond .eq 5, 3) := by decide +kernel
theorem dX12_numberNow_7 : decode cX12_numberNow 7 = .ok (.iconst 0, 1) := by decide +kernel
theorem dX12_numberNow_8 : decode cX12_numberNow 8 = .ok (.ireturn, 1) := by decide +kernel
theorem dX12_numberNow_9 : decode cX12_numberNow 9 = .ok (.aload_n 0, 1) := by decide +kernel
theorem dX12_numberNow_10 : decode cX12_numberNow 10 = .ok (.getfield 182, 3) := by decide +kernel
theorem dX12_numberNow_13 : decode cX12_numberNow 13 = .ok (.iconst 2, 1) := by decide +kernel
theorem dX12_numberNow_14 : decode cX12_numberNow 14 = .ok (.if_icmp .eq 11, 3) := by decide +kernel
theorem dX12_numberNow_17 : decode cX12_numberNow 17 = .ok (.aload_n 0, 1) := by decide +kernel
theorem dX12_numberNow_18 : decode cX12_numberNow 18 = .ok (.iconst 1, 1) := by decide +kernel
theorem dX12_numberNow_19 : decode cX12_numberNow 19 = .ok (.invokevirtual 229, 3) := by decide +kernel
theorem dX12_numberNow_22 : decode cX12_numberNow 22 = .ok (.goto 37, 3) := by decide +kernel
theorem dX12_numberNow_25 : decode cX12_numberNow 25 = .ok (.aload_n 0, 1) := by decide +kernel
theorem dX12_numberNow_26 : decode cX12_numberNow 26 = .ok (.getfield 205, 3) := by decide +kernel
theorem dX12_numberNow_29 : decode cX12_numberNow 29 = .ok (.aload_n 0, 1) := by decide +kernel
theorem dX12_numberNow_30 : decode cX12_numberNow 30 = .ok (.getfield 179, 3) := by decide +kernel
theorem dX12_numberNow_33 : decode cX12_numberNow 33 = .ok (.isub, 1) := by decide +kernel
theorem dX12_numberNow_34 : decode cX12_numberNow 34 = .ok (.iconst 4, 1) := by decide +kernel
theorem dX12_numberNow_35 : decode cX12_numberNow 35 = .ok (.if_icmp .gt 19, 3) := by decide +kernel
theorem dX12_numberNow_38 : decode cX12_numberNow 38 = .ok (.aload_n 0, 1) := by decide +kernel
theorem dX12_numberNow_39 : decode cX12_numberNow 39 = .ok (.getfield 192, 3) := by decide +kernel
theorem dX12_numberNow_42 : decode cX12_numberNow 42 = .ok (.iload_n 1, 1) := by decide +kernel
theorem dX12_numberNow_43 : decode cX12_numberNow 43 = .ok (.if_icmp .lt 11, 3) := by decide +kernel
theorem dX12_numberNow_46 : decode cX12_numberNow 46 = .ok (.aload_n 0, 1) := by decide +kernel
theorem dX12_numberNow_47 : decode cX12_numberNow 47 = .ok (.getfield 192, 3) := by decide +kernel
theorem dX12_numberNow_50 : decode cX12_numberNow 50 = .ok (.iload_n 2, 1) := by decide +kernel
theorem dX12_numberNow_51 : decode cX12_numberNow 51 = .ok (.if_icmp .le 8, 3) := by decide +kernel
theorem dX12_numberNow_54 : decode cX12_numberNow 54 = .ok (.aload_n 0, 1) := by decide +kernel
theorem dX12_numberNow_55 : decode cX12_numberNow 55 = .ok (.iconst 2, 1) := by decide +kernel
theorem dX12_numberNow_56 : decode cX12_numberNow 56 = .ok (.invokevirtual 229, 3) := by decide +kernel
theorem dX12_numberNow_59 : decode cX12_numberNow 59 = .ok (.aload_n 0, 1) := by decide +kernel
theorem dX12_numberNow_60 : decode cX12_numberNow 60 = .ok (.getfield 208, 3) := by decide +kernel
theorem dX12_numberNow_63 : decode cX12_numberNow 63 = .ok (.ifCond .ne 10, 3) := by decide +kernel
theorem dX12_numberNow_66 : decode cX12_numberNow 66 = .ok (.aload_n 0, 1) := by decide +kernel
theorem dX12_numberNow_67 : decode cX12_numberNow 67 = .ok (.getfield 192, 3) := by decide +kernel
theorem dX12_numberNow_70 : decode cX12_numberNow 70 = .ok (.goto 4, 3) := by decide +kernel
theorem dX12_numberNow_73 : decode cX12_numberNow 73 = .ok (.iconst 0, 1) := by decide +kernel
theorem dX12_numberNow_74 : decode cX12_numberNow 74 = .ok (.ireturn, 1) := by decide +kernel
theorem dX12_readNumber_0 : decode cX12_readNumber 0 = .ok (.aload_n 0, 1) := by decide +kernel
theorem dX12_readNumber_1 : decode cX12_readNumber 1 = .ok (.iload_n 1, 1) := by decide +kernel
theorem dX12_readNumber_2 : decode cX12_readNumber 2 = .ok (.iload_n 2, 1) := by decide +kernel
theorem dX12_readNumber_3 : decode cX12_readNumber 3 = .ok (.invokevirtual 236, 3) := by decide +kernel
theorem dX12_readNumber_6 : decode cX12_readNumber 6 = .ok (.istore_n 3, 1) := by decide +kernel
theorem dX12_readNumber_7 : decode cX12_readNumber 7 = .ok (.aload_n 0, 1) := by decide +kernel
theorem dX12_readNumber_8 : decode cX12_readNumber 8 = .ok (.getfield 208, 3) := by decide +kernel
theorem dX12_readNumber_11 : decode cX12_readNumber 11 = .ok (.ifCond .ne 7, 3) := by decide +kernel
theorem dX12_readNumber_14 : decode cX12_readNumber 14 = .ok (.aload_n 0, 1) := by decide +kernel
theorem dX12_readNumber_15 : decode cX12_readNumber 15 = .ok (.invokevirtual 233, 3) := by decide +kernel
theorem dX12_readNumber_18 : decode cX12_readNumber 18 = .ok (.iload_n 3, 1) := by decide +kernel
theorem dX12_readNumber_19 : decode cX12_readNumber 19 = .ok (.ireturn, 1) := by decide +kernel
theorem dX12_sleeperNow_0 : decode cX12_sleeperNow 0 = .ok (.aload_n 0, 1) := by decide +kernel
theorem dX12_sleeperNow_1 : decode cX12_sleeperNow 1 = .ok (.iconst 0, 1) := by decide +kernel
theorem dX12_sleeperNow_2 : decode cX12_sleeperNow 2 = .ok (.sipush 9999, 3) := by decide +kernel
theorem dX12_sleeperNow_5 : decode cX12_sleeperNow 5 = .ok (.invokevirtual 236, 3) := by decide +kernel
theorem dX12_sleeperNow_8 : decode cX12_sleeperNow 8 = .ok (.istore_n 1, 1) := by decide +kernel
theorem dX12_sleeperNow_9 : decode cX12_sleeperNow 9 = .ok (.aload_n 0, 1) := by decide +kernel
theorem dX12_sleeperNow_10 : decode cX12_sleeperNow 10 = .ok (.getfield 208, 3) := by decide +kernel
theorem dX12_sleeperNow_13 : decode cX12_sleeperNow 13 = .ok (.ifCond .ne 19, 3) := by decide +kernel
theorem dX12_sleeperNow_16 : decode cX12_sleeperNow 16 = .ok (.iload_n 1, 1) := by decide +kernel
theorem dX12_sleeperNow_17 : decode cX12_sleeperNow 17 = .ok (.aload_n 0, 1) := by decide +kernel
theorem dX12_sleeperNow_18 : decode cX12_sleeperNow 18 = .ok (.getfield 38, 3) := by decide +kernel
theorem dX12_sleeperNow_21 : decode cX12_sleeperNow 21 = .ok (.bipush 8, 2) := by decide +kernel
theorem dX12_sleeperNow_23 : decode cX12_sleeperNow 23 = .ok (.iaload, 1) := by decide +kernel
theorem dX12_sleeperNow_24 : decode cX12_sleeperNow 24 = .ok (.if_icmp .lt 8, 3) := by decide +kernel
theorem dX12_sleeperNow_27 : decode cX12_sleeperNow 27 = .ok (.aload_n 0, 1) := by decide +kernel
theorem dX12_sleeperNow_28 : decode cX12_sleeperNow 28 = .ok (.iconst 3, 1) := by decide +kernel
theorem dX12_sleeperNow_29 : decode cX12_sleeperNow 29 = .ok (.invokevirtual 229, 3) := by decide +kernel
theorem dX12_sleeperNow_32 : decode cX12_sleeperNow 32 = .ok (.aload_n 0, 1) := by decide +kernel
theorem dX12_sleeperNow_33 : decode cX12_sleeperNow 33 = .ok (.getfield 208, 3) := by decide +kernel
theorem dX12_sleeperNow_36 : decode cX12_sleeperNow 36 = .ok (.ifCond .ne 7, 3) := by decide +kernel
theorem dX12_sleeperNow_39 : decode cX12_sleeperNow 39 = .ok (.iload_n 1, 1) := by decide +kernel
theorem dX12_sleeperNow_40 : decode cX12_sleeperNow 40 = .ok (.goto 4, 3) := by decide +kernel
theorem dX12_sleeperNow_43 : decode cX12_sleeperNow 43 = .ok (.iconst 0, 1) := by decide +kernel
theorem dX12_sleeperNow_44 : decode cX12_sleeperNow 44 = .ok (.ireturn, 1) := by decide +kernel
theorem dX12_lay_0 : decode cX12_lay 0 = .ok (.aload_n 0, 1) := by decide +kernel
theorem dX12_lay_1 : decode cX12_lay 1 = .ok (.getfield 208, 3) := by decide +kernel
theorem dX12_lay_4 : decode cX12_lay 4 = .ok (.ifCond .eq 4, 3) := by decide +kernel
theorem dX12_lay_7 : decode cX12_lay 7 = .ok (.return_, 1) := by decide +kernel
theorem dX12_lay_8 : decode cX12_lay 8 = .ok (.aload_n 0, 1) := by decide +kernel
theorem dX12_lay_9 : decode cX12_lay 9 = .ok (.getfield 62, 3) := by decide +kernel
theorem dX12_lay_12 : decode cX12_lay 12 = .ok (.sipush 600, 3) := by decide +kernel
theorem dX12_lay_15 : decode cX12_lay 15 = .ok (.aload_n 0, 1) := by decide +kernel
theorem dX12_lay_16 : decode cX12_lay 16 = .ok (.getfield 38, 3) := by decide +kernel
theorem dX12_lay_19 : decode cX12_lay 19 = .ok (.bipush 15, 2) := by decide +kernel
theorem dX12_lay_21 : decode cX12_lay 21 = .ok (.iaload, 1) := by decide +kernel
theorem dX12_lay_22 : decode cX12_lay 22 = .ok (.iadd, 1) := by decide +kernel
theorem dX12_lay_23 : decode cX12_lay 23 = .ok (.iload_n 1, 1) := by decide +kernel
theorem dX12_lay_24 : decode cX12_lay 24 = .ok (.iastore, 1) := by decide +kernel
theorem dX12_lay_25 : decode cX12_lay 25 = .ok (.aload_n 0, 1) := by decide +kernel
theorem dX12_lay_26 : decode cX12_lay 26 = .ok (.getfield 38, 3) := by decide +kernel
theorem dX12_lay_29 : decode cX12_lay 29 = .ok (.bipush 15, 2) := by decide +kernel
theorem dX12_lay_31 : decode cX12_lay 31 = .ok (.dup2, 1) := by decide +kernel
theorem dX12_lay_32 : decode cX12_lay 32 = .ok (.iaload, 1) := by decide +kernel
theorem dX12_lay_33 : decode cX12_lay 33 = .ok (.iconst 1, 1) := by decide +kernel
theorem dX12_lay_34 : decode cX12_lay 34 = .ok (.iadd, 1) := by decide +kernel
theorem dX12_lay_35 : decode cX12_lay 35 = .ok (.iastore, 1) := by decide +kernel
theorem dX12_lay_36 : decode cX12_lay 36 = .ok (.return_, 1) := by decide +kernel
theorem dX12_readPart_0 : decode cX12_readPart 0 = .ok (.aload_n 0, 1) := by decide +kernel
theorem dX12_readPart_1 : decode cX12_readPart 1 = .ok (.getfield 208, 3) := by decide +kernel
theorem dX12_readPart_4 : decode cX12_readPart 4 = .ok (.ifCond .eq 4, 3) := by decide +kernel
theorem dX12_readPart_7 : decode cX12_readPart 7 = .ok (.return_, 1) := by decide +kernel
theorem dX12_readPart_8 : decode cX12_readPart 8 = .ok (.aload_n 0, 1) := by decide +kernel
theorem dX12_readPart_9 : decode cX12_readPart 9 = .ok (.getfield 182, 3) := by decide +kernel
theorem dX12_readPart_12 : decode cX12_readPart 12 = .ok (.iconst 2, 1) := by decide +kernel
theorem dX12_readPart_13 : decode cX12_readPart 13 = .ok (.if_icmp .ne 16, 3) := by decide +kernel
theorem dX12_readPart_16 : decode cX12_readPart 16 = .ok (.aload_n 0, 1) := by decide +kernel
theorem dX12_readPart_17 : decode cX12_readPart 17 = .ok (.aload_n 0, 1) := by decide +kernel
theorem dX12_readPart_18 : decode cX12_readPart 18 = .ok (.iconst 0, 1) := by decide +kernel
theorem dX12_readPart_19 : decode cX12_readPart 19 = .ok (.sipush 9999, 3) := by decide +kernel
theorem dX12_readPart_22 : decode cX12_readPart 22 = .ok (.invokevirtual 239, 3) := by decide +kernel
theorem dX12_readPart_25 : decode cX12_readPart 25 = .ok (.invokevirtual 242, 3) := by decide +kernel
theorem dX12_readPart_28 : decode cX12_readPart 28 = .ok (.return_, 1) := by decide +kernel
theorem dX12_readPart_29 : decode cX12_readPart 29 = .ok (.aload_n 0, 1) := by decide +kernel
theorem dX12_readPart_30 : decode cX12_readPart 30 = .ok (.getfield 182, 3) := by decide +kernel
theorem dX12_readPart_33 : decode cX12_readPart 33 = .ok (.iconst 1, 1) := by decide +kernel
theorem dX12_readPart_34 : decode cX12_readPart 34 = .ok (.if_icmp .ne 41, 3) := by decide +kernel
theorem dX12_readPart_37 : decode cX12_readPart 37 = .ok (.aload_n 0, 1) := by decide +kernel
theorem dX12_readPart_38 : decode cX12_readPart 38 = .ok (.aload_n 0, 1) := by decide +kernel
theorem dX12_readPart_39 : decode cX12_readPart 39 = .ok (.getfield 35, 3) := by decide +kernel
theorem dX12_readPart_42 : decode cX12_readPart 42 = .ok (.invokevirtual 245, 3) := by decide +kernel
theorem dX12_readPart_45 : decode cX12_readPart 45 = .ok (.istore_n 2, 1) := by decide +kernel
theorem dX12_readPart_46 : decode cX12_readPart 46 = .ok (.iload_n 2, 1) := by decide +kernel
theorem dX12_readPart_47 : decode cX12_readPart 47 = .ok (.iconst (-1), 1) := by decide +kernel
theorem dX12_readPart_48 : decode cX12_readPart 48 = .ok (.if_icmp .ne 8, 3) := by decide +kernel
theorem dX12_readPart_51 : decode cX12_readPart 51 = .ok (.aload_n 0, 1) := by decide +kernel
theorem dX12_readPart_52 : decode cX12_readPart 52 = .ok (.iconst 3, 1) := by decide +kernel
theorem dX12_readPart_53 : decode cX12_readPart 53 = .ok (.invokevirtual 229, 3) := by decide +kernel
theorem dX12_readPart_56 : decode cX12_readPart 56 = .ok (.aload_n 0, 1) := by decide +kernel
theorem dX12_readPart_57 : decode cX12_readPart 57 = .ok (.iconst (-1), 1) := by decide +kernel
theorem dX12_readPart_58 : decode cX12_readPart 58 = .ok (.iload_n 2, 1) := by decide +kernel
theorem dX12_readPart_59 : decode cX12_readPart 59 = .ok (.isub, 1) := by decide +kernel
theorem dX12_readPart_60 : decode cX12_readPart 60 = .ok (.invokevirtual 242, 3) := by decide +kernel
theorem dX12_readPart_63 : decode cX12_readPart 63 = .ok (.aload_n 0, 1) := by decide +kernel
theorem dX12_readPart_64 : decode cX12_readPart 64 = .ok (.getfield 208, 3) := by decide +kernel
theorem dX12_readPart_67 : decode cX12_readPart 67 = .ok (.ifCond .ne 7, 3) := by decide +kernel
theorem dX12_readPart_70 : decode cX12_readPart 70 = .ok (.aload_n 0, 1) := by decide +kernel
theorem dX12_readPart_71 : decode cX12_readPart 71 = .ok (.invokevirtual 233, 3) := by decide +kernel
theorem dX12_readPart_74 : decode cX12_readPart 74 = .ok (.return_, 1) := by decide +kernel
theorem dX12_readPart_75 : decode cX12_readPart 75 = .ok (.aload_n 0, 1) := by decide +kernel
theorem dX12_readPart_76 : decode cX12_readPart 76 = .ok (.bipush 40, 2) := by decide +kernel
theorem dX12_readPart_78 : decode cX12_readPart 78 = .ok (.invokevirtual 249, 3) := by decide +kernel
theorem dX12_readPart_81 : decode cX12_readPart 81 = .ok (.aload_n 0, 1) := by decide +kernel
theorem dX12_readPart_82 : decode cX12_readPart 82 = .ok (.iload_n 1, 1) := by decide +kernel
theorem dX12_readPart_83 : decode cX12_readPart 83 = .ok (.iconst 1, 1) := by decide +kernel
theorem dX12_readPart_84 : decode cX12_readPart 84 = .ok (.iadd, 1) := by decide +kernel
theorem dX12_readPart_85 : decode cX12_readPart 85 = .ok (.invokevirtual 252, 3) := by decide +kernel
theorem dX12_readPart_88 : decode cX12_readPart 88 = .ok (.aload_n 0, 1) := by decide +kernel
theorem dX12_readPart_89 : decode cX12_readPart 89 = .ok (.bipush 41, 2) := by decide +kernel
theorem dX12_readPart_91 : decode cX12_readPart 91 = .ok (.invokevirtual 249, 3) := by decide +kernel
theorem dX12_readPart_94 : decode cX12_readPart 94 = .ok (.return_, 1) := by decide +kernel
theorem dX12_readProduct_0 : decode cX12_readProduct 0 = .ok (.aload_n 0, 1) := by decide +kernel
theorem dX12_readProduct_1 : decode cX12_readProduct 1 = .ok (.iload_n 1, 1) := by decide +kernel
theorem dX12_readProduct_2 : decode cX12_readProduct 2 = .ok (.invokevirtual 255, 3) := by decide +kernel
theorem dX12_readProduct_5 : decode cX12_readProduct 5 = .ok (.aload_n 0, 1) := by decide +kernel
theorem dX12_readProduct_6 : decode cX12_readProduct 6 = .ok (.bipush 42, 2) := by decide +kernel
theorem dX12_readProduct_8 : decode cX12_readProduct 8 = .ok (.invokevirtual 226, 3) := by decide +kernel
theorem dX12_readProduct_11 : decode cX12_readProduct 11 = .ok (.ifCond .ne 12, 3) := by decide +kernel
theorem dX12_readProduct_14 : decode cX12_readProduct 14 = .ok (.aload_n 0, 1) := by decide +kernel
theorem dX12_readProduct_15 : decode cX12_readProduct 15 = .ok (.bipush 47, 2) := by decide +kernel
theorem dX12_readProduct_17 : decode cX12_readProduct 17 = .ok (.invokevirtual 226, 3) := by decide +kernel
theorem dX12_readProduct_20 : decode cX12_readProduct 20 = .ok (.ifCond .eq 37, 3) := by decide +kernel
theorem dX12_readProduct_23 : decode cX12_readProduct 23 = .ok (.aload_n 0, 1) := by decide +kernel
theorem dX12_readProduct_24 : decode cX12_readProduct 24 = .ok (.bipush 42, 2) := by decide +kernel
theorem dX12_readProduct_26 : decode cX12_readProduct 26 = .ok (.invokevirtual 226, 3) := by decide +kernel
theorem dX12_readProduct_29 : decode cX12_readProduct 29 = .ok (.ifCond .eq 8, 3) := by decide +kernel
theorem dX12_readProduct_32 : decode cX12_readProduct 32 = .ok (.bipush (-22), 2) := by decide +kernel
theorem dX12_readProduct_34 : decode cX12_readProduct 34 = .ok (.goto 5, 3) := by decide +kernel
theorem dX12_readProduct_37 : decode cX12_readProduct 37 = .ok (.bipush (-23), 2) := by decide +kernel
theorem dX12_readProduct_39 : decode cX12_readProduct 39 = .ok (.istore_n 2, 1) := by decide +kernel
theorem dX12_readProduct_40 : decode cX12_readProduct 40 = .ok (.aload_n 0, 1) := by decide +kernel
theorem dX12_readProduct_41 : decode cX12_readProduct 41 = .ok (.invokevirtual 233, 3) := by decide +kernel
theorem dX12_readProduct_44 : decode cX12_readProduct 44 = .ok (.aload_n 0, 1) := by decide +kernel
theorem dX12_readProduct_45 : decode cX12_readProduct 45 = .ok (.iload_n 1, 1) := by decide +kernel
theorem dX12_readProduct_46 : decode cX12_readProduct 46 = .ok (.invokevirtual 255, 3) := by decide +kernel
theorem dX12_readProduct_49 : decode cX12_readProduct 49 = .ok (.aload_n 0, 1) := by decide +kernel
theorem dX12_readProduct_50 : decode cX12_readProduct 50 = .ok (.iload_n 2, 1) := by decide +kernel
theorem dX12_readProduct_51 : decode cX12_readProduct 51 = .ok (.invokevirtual 242, 3) := by decide +kernel
theorem dX12_readProduct_54 : decode cX12_readProduct 54 = .ok (.goto (-49), 3) := by decide +kernel
theorem dX12_readProduct_57 : decode cX12_readProduct 57 = .ok (.return_, 1) := by decide +kernel
theorem dX12_readSum_0 : decode cX12_readSum 0 = .ok (.aload_n 0, 1) := by decide +kernel
theorem dX12_readSum_1 : decode cX12_readSum 1 = .ok (.iload_n 1, 1) := by decide +kernel
theorem dX12_readSum_2 : decode cX12_readSum 2 = .ok (.invokevirtual 258, 3) := by decide +kernel
theorem dX12_readSum_5 : decode cX12_readSum 5 = .ok (.aload_n 0, 1) := by decide +kernel
theorem dX12_readSum_6 : decode cX12_readSum 6 = .ok (.bipush 43, 2) := by decide +kernel
theorem dX12_readSum_8 : decode cX12_readSum 8 = .ok (.invokevirtual 226, 3) := by decide +kernel
theorem dX12_readSum_11 : decode cX12_readSum 11 = .ok (.ifCond .ne 12, 3) := by decide +kernel
theorem dX12_readSum_14 : decode cX12_readSum 14 = .ok (.aload_n 0, 1) := by decide +kernel
theorem dX12_readSum_15 : decode cX12_readSum 15 = .ok (.bipush 45, 2) := by decide +kernel
theorem dX12_readSum_17 : decode cX12_readSum 17 = .ok (.invokevirtual 226, 3) := by decide +kernel
theorem dX12_readSum_20 : decode cX12_readSum 20 = .ok (.ifCond .eq 37, 3) := by decide +kernel
theorem dX12_readSum_23 : decode cX12_readSum 23 = .ok (.aload_n 0, 1) := by decide +kernel
theorem dX12_readSum_24 : decode cX12_readSum 24 = .ok (.bipush 43, 2) := by decide +kernel
theorem dX12_readSum_26 : decode cX12_readSum 26 = .ok (.invokevirtual 226, 3) := by decide +kernel
theorem dX12_readSum_29 : decode cX12_readSum 29 = .ok (.ifCond .eq 8, 3) := by decide +kernel
theorem dX12_readSum_32 : decode cX12_readSum 32 = .ok (.bipush (-20), 2) := by decide +kernel
theorem dX12_readSum_34 : decode cX12_readSum 34 = .ok (.goto 5, 3) := by decide +kernel
theorem dX12_readSum_37 : decode cX12_readSum 37 = .ok (.bipush (-21), 2) := by decide +kernel
theorem dX12_readSum_39 : decode cX12_readSum 39 = .ok (.istore_n 2, 1) := by decide +kernel
theorem dX12_readSum_40 : decode cX12_readSum 40 = .ok (.aload_n 0, 1) := by decide +kernel
theorem dX12_readSum_41 : decode cX12_readSum 41 = .ok (.invokevirtual 233, 3) := by decide +kernel
theorem dX12_readSum_44 : decode cX12_readSum 44 = .ok (.aload_n 0, 1) := by decide +kernel
theorem dX12_readSum_45 : decode cX12_readSum 45 = .ok (.iload_n 1, 1) := by decide +kernel
theorem dX12_readSum_46 : decode cX12_readSum 46 = .ok (.invokevirtual 258, 3) := by decide +kernel
theorem dX12_readSum_49 : decode cX12_readSum 49 = .ok (.aload_n 0, 1) := by decide +kernel
theorem dX12_readSum_50 : decode cX12_readSum 50 = .ok (.iload_n 2, 1) := by decide +kernel
theorem dX12_readSum_51 : decode cX12_readSum 51 = .ok (.invokevirtual 242, 3) := by decide +kernel
theorem dX12_readSum_54 : decode cX12_readSum 54 = .ok (.goto (-49), 3) := by decide +kernel
theorem dX12_readSum_57 : decode cX12_readSum 57 = .ok (.return_, 1) := by decide +kernel
theorem dX12_readNot_0 : decode cX12_readNot 0 = .ok (.iconst 0, 1) := by decide +kernel
theorem dX12_readNot_1 : decode cX12_readNot 1 = .ok (.istore_n 2, 1) := by decide +kernel
theorem dX12_readNot_2 : decode cX12_readNot 2 = .ok (.aload_n 0, 1) := by decide +kernel
theorem dX12_readNot_3 : decode cX12_readNot 3 = .ok (.ldc_w 261, 3) := by decide +kernel
theorem dX12_readNot_6 : decode cX12_readNot 6 = .ok (.invokevirtual 222, 3) := by decide +kernel
theorem dX12_readNot_9 : decode cX12_readNot 9 = .ok (.ifCond .eq 31, 3) := by decide +kernel
theorem dX12_readNot_12 : decode cX12_readNot 12 = .ok (.iload_n 2, 1) := by decide +kernel
theorem dX12_readNot_13 : decode cX12_readNot 13 = .ok (.bipush 6, 2) := by decide +kernel
theorem dX12_readNot_15 : decode cX12_readNot 15 = .ok (.if_icmp .ne 8, 3) := by decide +kernel
theorem dX12_readNot_18 : decode cX12_readNot 18 = .ok (.aload_n 0, 1) := by decide +kernel
theorem dX12_readNot_19 : decode cX12_readNot 19 = .ok (.iconst 2, 1) := by decide +kernel
theorem dX12_readNot_20 : decode cX12_readNot 20 = .ok (.invokevirtual 229, 3) := by decide +kernel
theorem dX12_readNot_23 : decode cX12_readNot 23 = .ok (.iinc 2 1, 3) := by decide +kernel
theorem dX12_readNot_26 : decode cX12_readNot 26 = .ok (.aload_n 0, 1) := by decide +kernel
theorem dX12_readNot_27 : decode cX12_readNot 27 = .ok (.getfield 208, 3) := by decide +kernel
theorem dX12_readNot_30 : decode cX12_readNot 30 = .ok (.ifCond .ne (-28), 3) := by decide +kernel
theorem dX12_readNot_33 : decode cX12_readNot 33 = .ok (.aload_n 0, 1) := by decide +kernel
theorem dX12_readNot_34 : decode cX12_readNot 34 = .ok (.invokevirtual 233, 3) := by decide +kernel
theorem dX12_readNot_37 : decode cX12_readNot 37 = .ok (.goto (-35), 3) := by decide +kernel
theorem dX12_readNot_40 : decode cX12_readNot 40 = .ok (.aload_n 0, 1) := by decide +kernel
theorem dX12_readNot_41 : decode cX12_readNot 41 = .ok (.iload_n 1, 1) := by decide +kernel
theorem dX12_readNot_42 : decode cX12_readNot 42 = .ok (.invokevirtual 263, 3) := by decide +kernel
theorem dX12_readNot_45 : decode cX12_readNot 45 = .ok (.aload_n 0, 1) := by decide +kernel
theorem dX12_readNot_46 : decode cX12_readNot 46 = .ok (.bipush 60, 2) := by decide +kernel
theorem dX12_readNot_48 : decode cX12_readNot 48 = .ok (.invokevirtual 226, 3) := by decide +kernel
theorem dX12_readNot_51 : decode cX12_readNot 51 = .ok (.ifCond .ne 12, 3) := by decide +kernel
theorem dX12_readNot_54 : decode cX12_readNot 54 = .ok (.aload_n 0, 1) := by decide +kernel
theorem dX12_readNot_55 : decode cX12_readNot 55 = .ok (.bipush 61, 2) := by decide +kernel
theorem dX12_readNot_57 : decode cX12_readNot 57 = .ok (.invokevirtual 226, 3) := by decide +kernel
theorem dX12_readNot_60 : decode cX12_readNot 60 = .ok (.ifCond .eq 34, 3) := by decide +kernel
theorem dX12_readNot_63 : decode cX12_readNot 63 = .ok (.aload_n 0, 1) := by decide +kernel
theorem dX12_readNot_64 : decode cX12_readNot 64 = .ok (.bipush 60, 2) := by decide +kernel
theorem dX12_readNot_66 : decode cX12_readNot 66 = .ok (.invokevirtual 226, 3) := by decide +kernel
theorem dX12_readNot_69 : decode cX12_readNot 69 = .ok (.ifCond .eq 8, 3) := by decide +kernel
theorem dX12_readNot_72 : decode cX12_readNot 72 = .ok (.bipush (-24), 2) := by decide +kernel
theorem dX12_readNot_74 : decode cX12_readNot 74 = .ok (.goto 5, 3) := by decide +kernel
theorem dX12_readNot_77 : decode cX12_readNot 77 = .ok (.bipush (-25), 2) := by decide +kernel
theorem dX12_readNot_79 : decode cX12_readNot 79 = .ok (.istore_n 3, 1) := by decide +kernel
theorem dX12_readNot_80 : decode cX12_readNot 80 = .ok (.aload_n 0, 1) := by decide +kernel
theorem dX12_readNot_81 : decode cX12_readNot 81 = .ok (.invokevirtual 233, 3) := by decide +kernel
theorem dX12_readNot_84 : decode cX12_readNot 84 = .ok (.aload_n 0, 1) := by decide +kernel
theorem dX12_readNot_85 : decode cX12_readNot 85 = .ok (.iload_n 1, 1) := by decide +kernel
theorem dX12_readNot_86 : decode cX12_readNot 86 = .ok (.invokevirtual 263, 3) := by decide +kernel
theorem dX12_readNot_89 : decode cX12_readNot 89 = .ok (.aload_n 0, 1) := by decide +kernel
theorem dX12_readNot_90 : decode cX12_readNot 90 = .ok (.iload_n 3, 1) := by decide +kernel
theorem dX12_readNot_91 : decode cX12_readNot 91 = .ok (.invokevirtual 242, 3) := by decide +kernel
theorem dX12_readNot_94 : decode cX12_readNot 94 = .ok (.iconst 0, 1) := by decide +kernel
theorem dX12_readNot_95 : decode cX12_readNot 95 = .ok (.istore_n 3, 1) := by decide +kernel
theorem dX12_readNot_96 : decode cX12_readNot 96 = .ok (.iload_n 3, 1) := by decide +kernel
theorem dX12_readNot_97 : decode cX12_readNot 97 = .ok (.iload_n 2, 1) := by decide +kernel
theorem dX12_readNot_98 : decode cX12_readNot 98 = .ok (.if_icmp .ge 15, 3) := by decide +kernel
theorem dX12_readNot_101 : decode cX12_readNot 101 = .ok (.aload_n 0, 1) := by decide +kernel
theorem dX12_readNot_102 : decode cX12_readNot 102 = .ok (.bipush (-28), 2) := by decide +kernel
theorem dX12_readNot_104 : decode cX12_readNot 104 = .ok (.invokevirtual 242, 3) := by decide +kernel
theorem dX12_readNot_107 : decode cX12_readNot 107 = .ok (.iinc 3 1, 3) := by decide +kernel
theorem dX12_readNot_110 : decode cX12_readNot 110 = .ok (.goto (-14), 3) := by decide +kernel
theorem dX12_readNot_113 : decode cX12_readNot 113 = .ok (.return_, 1) := by decide +kernel
theorem dX12_readAnd_0 : decode cX12_readAnd 0 = .ok (.aload_n 0, 1) := by decide +kernel
theorem dX12_readAnd_1 : decode cX12_readAnd 1 = .ok (.iload_n 1, 1) := by decide +kernel
theorem dX12_readAnd_2 : decode cX12_readAnd 2 = .ok (.invokevirtual 266, 3) := by decide +kernel
theorem dX12_readAnd_5 : decode cX12_readAnd 5 = .ok (.aload_n 0, 1) := by decide +kernel
theorem dX12_readAnd_6 : decode cX12_readAnd 6 = .ok (.ldc_w 269, 3) := by decide +kernel
theorem dX12_readAnd_9 : decode cX12_readAnd 9 = .ok (.invokevirtual 222, 3) := by decide +kernel
theorem dX12_readAnd_12 : decode cX12_readAnd 12 = .ok (.ifCond .eq 21, 3) := by decide +kernel
theorem dX12_readAnd_15 : decode cX12_readAnd 15 = .ok (.aload_n 0, 1) := by decide +kernel
theorem dX12_readAnd_16 : decode cX12_readAnd 16 = .ok (.invokevirtual 233, 3) := by decide +kernel
theorem dX12_readAnd_19 : decode cX12_readAnd 19 = .ok (.aload_n 0, 1) := by decide +kernel
theorem dX12_readAnd_20 : decode cX12_readAnd 20 = .ok (.iload_n 1, 1) := by decide +kernel
theorem dX12_readAnd_21 : decode cX12_readAnd 21 = .ok (.invokevirtual 266, 3) := by decide +kernel
theorem dX12_readAnd_24 : decode cX12_readAnd 24 = .ok (.aload_n 0, 1) := by decide +kernel
theorem dX12_readAnd_25 : decode cX12_readAnd 25 = .ok (.bipush (-26), 2) := by decide +kernel
theorem dX12_readAnd_27 : decode cX12_readAnd 27 = .ok (.invokevirtual 242, 3) := by decide +kernel
theorem dX12_readAnd_30 : decode cX12_readAnd 30 = .ok (.goto (-25), 3) := by decide +kernel
theorem dX12_readAnd_33 : decode cX12_readAnd 33 = .ok (.return_, 1) := by decide +kernel
theorem dX12_readExpression_0 : decode cX12_readExpression 0 = .ok (.aload_n 0, 1) := by decide +kernel
theorem dX12_readExpression_1 : decode cX12_readExpression 1 = .ok (.getfield 208, 3) := by decide +kernel
theorem dX12_readExpression_4 : decode cX12_readExpression 4 = .ok (.ifCond .eq 4, 3) := by decide +kernel
theorem dX12_readExpression_7 : decode cX12_readExpression 7 = .ok (.return_, 1) := by decide +kernel
theorem dX12_readExpression_8 : decode cX12_readExpression 8 = .ok (.aload_n 0, 1) := by decide +kernel
theorem dX12_readExpression_9 : decode cX12_readExpression 9 = .ok (.getfield 182, 3) := by decide +kernel
theorem dX12_readExpression_12 : decode cX12_readExpression 12 = .ok (.iconst 2, 1) := by decide +kernel
theorem dX12_readExpression_13 : decode cX12_readExpression 13 = .ok (.if_icmp .eq 20, 3) := by decide +kernel
theorem dX12_readExpression_16 : decode cX12_readExpression 16 = .ok (.aload_n 0, 1) := by decide +kernel
theorem dX12_readExpression_17 : decode cX12_readExpression 17 = .ok (.getfield 182, 3) := by decide +kernel
theorem dX12_readExpression_20 : decode cX12_readExpression 20 = .ok (.iconst 1, 1) := by decide +kernel
theorem dX12_readExpression_21 : decode cX12_readExpression 21 = .ok (.if_icmp .eq 12, 3) := by decide +kernel
theorem dX12_readExpression_24 : decode cX12_readExpression 24 = .ok (.aload_n 0, 1) := by decide +kernel
theorem dX12_readExpression_25 : decode cX12_readExpression 25 = .ok (.bipush 40, 2) := by decide +kernel
theorem dX12_readExpression_27 : decode cX12_readExpression 27 = .ok (.invokevirtual 226, 3) := by decide +kernel
theorem dX12_readExpression_30 : decode cX12_readExpression 30 = .ok (.ifCond .eq 7, 3) := by decide +kernel
theorem dX12_readExpression_33 : decode cX12_readExpression 33 = .ok (.iconst 1, 1) := by decide +kernel
theorem dX12_readExpression_34 : decode cX12_readExpression 34 = .ok (.goto 4, 3) := by decide +kernel
theorem dX12_readExpression_37 : decode cX12_readExpression 37 = .ok (.iconst 0, 1) := by decide +kernel
theorem dX12_readExpression_38 : decode cX12_readExpression 38 = .ok (.istore_n 2, 1) := by decide +kernel
theorem dX12_readExpression_39 : decode cX12_readExpression 39 = .ok (.iload_n 2, 1) := by decide +kernel
theorem dX12_readExpression_40 : decode cX12_readExpression 40 = .ok (.ifCond .ne 11, 3) := by decide +kernel
theorem dX12_readExpression_43 : decode cX12_readExpression 43 = .ok (.aload_n 0, 1) := by decide +kernel
theorem dX12_readExpression_44 : decode cX12_readExpression 44 = .ok (.iconst 1, 1) := by decide +kernel
theorem dX12_readExpression_45 : decode cX12_readExpression 45 = .ok (.invokevirtual 229, 3) := by decide +kernel
theorem dX12_readExpression_48 : decode cX12_readExpression 48 = .ok (.goto 14, 3) := by decide +kernel
theorem dX12_readExpression_51 : decode cX12_readExpression 51 = .ok (.iload_n 1, 1) := by decide +kernel
theorem dX12_readExpression_52 : decode cX12_readExpression 52 = .ok (.bipush 6, 2) := by decide +kernel
theorem dX12_readExpression_54 : decode cX12_readExpression 54 = .ok (.if_icmp .ne 8, 3) := by decide +kernel
theorem dX12_readExpression_57 : decode cX12_readExpression 57 = .ok (.aload_n 0, 1) := by decide +kernel
theorem dX12_readExpression_58 : decode cX12_readExpression 58 = .ok (.iconst 2, 1) := by decide +kernel
theorem dX12_readExpression_59 : decode cX12_readExpression 59 = .ok (.invokevirtual 229, 3) := by decide +kernel
theorem dX12_readExpression_62 : decode cX12_readExpression 62 = .ok (.aload_n 0, 1) := by decide +kernel
theorem dX12_readExpression_63 : decode cX12_readExpression 63 = .ok (.iload_n 1, 1) := by decide +kernel
theorem dX12_readExpression_64 : decode cX12_readExpression 64 = .ok (.invokevirtual 271, 3) := by decide +kernel
theorem dX12_readExpression_67 : decode cX12_readExpression 67 = .ok (.aload_n 0, 1) := by decide +kernel
theorem dX12_readExpression_68 : decode cX12_readExpression 68 = .ok (.ldc_w 274, 3) := by decide +kernel
theorem dX12_readExpression_71 : decode cX12_readExpression 71 = .ok (.invokevirtual 222, 3) := by decide +kernel
theorem dX12_readExpression_74 : decode cX12_readExpression 74 = .ok (.ifCond .eq 21, 3) := by decide +kernel
theorem dX12_readExpression_77 : decode cX12_readExpression 77 = .ok (.aload_n 0, 1) := by decide +kernel
theorem dX12_readExpression_78 : decode cX12_readExpression 78 = .ok (.invokevirtual 233, 3) := by decide +kernel
theorem dX12_readExpression_81 : decode cX12_readExpression 81 = .ok (.aload_n 0, 1) := by decide +kernel
theorem dX12_readExpression_82 : decode cX12_readExpression 82 = .ok (.iload_n 1, 1) := by decide +kernel
theorem dX12_readExpression_83 : decode cX12_readExpression 83 = .ok (.invokevirtual 271, 3) := by decide +kernel
theorem dX12_readExpression_86 : decode cX12_readExpression 86 = .ok (.aload_n 0, 1) := by decide +kernel
theorem dX12_readExpression_87 : decode cX12_readExpression 87 = .ok (.bipush (-27), 2) := by decide +kernel
theorem dX12_readExpression_89 : decode cX12_readExpression 89 = .ok (.invokevirtual 242, 3) := by decide +kernel
theorem dX12_readExpression_92 : decode cX12_readExpression 92 = .ok (.goto (-25), 3) := by decide +kernel
theorem dX12_readExpression_95 : decode cX12_readExpression 95 = .ok (.return_, 1) := by decide +kernel
theorem dX12_readSleeper_0 : decode cX12_readSleeper 0 = .ok (.aload_n 0, 1) := by decide +kernel
theorem dX12_readSleeper_1 : decode cX12_readSleeper 1 = .ok (.getfield 38, 3) := by decide +kernel
theorem dX12_readSleeper_4 : decode cX12_readSleeper 4 = .ok (.bipush 8, 2) := by decide +kernel
theorem dX12_readSleeper_6 : decode cX12_readSleeper 6 = .ok (.iaload, 1) := by decide +kernel
theorem dX12_readSleeper_7 : decode cX12_readSleeper 7 = .ok (.bipush 7, 2) := by decide +kernel
theorem dX12_readSleeper_9 : decode cX12_readSleeper 9 = .ok (.if_icmp .ne 8, 3) := by decide +kernel
theorem dX12_readSleeper_12 : decode cX12_readSleeper 12 = .ok (.aload_n 0, 1) := by decide +kernel
theorem dX12_readSleeper_13 : decode cX12_readSleeper 13 = .ok (.iconst 2, 1) := by decide +kernel
theorem dX12_readSleeper_14 : decode cX12_readSleeper 14 = .ok (.invokevirtual 229, 3) := by decide +kernel
theorem dX12_readSleeper_17 : decode cX12_readSleeper 17 = .ok (.aload_n 0, 1) := by decide +kernel
theorem dX12_readSleeper_18 : decode cX12_readSleeper 18 = .ok (.getfield 208, 3) := by decide +kernel
theorem dX12_readSleeper_21 : decode cX12_readSleeper 21 = .ok (.ifCond .eq 4, 3) := by decide +kernel
theorem dX12_readSleeper_24 : decode cX12_readSleeper 24 = .ok (.return_, 1) := by decide +kernel
theorem dX12_readSleeper_25 : decode cX12_readSleeper 25 = .ok (.aload_n 0, 1) := by decide +kernel
theorem dX12_readSleeper_26 : decode cX12_readSleeper 26 = .ok (.invokevirtual 233, 3) := by decide +kernel
theorem dX12_readSleeper_29 : decode cX12_readSleeper 29 = .ok (.bipush 7, 2) := by decide +kernel
theorem dX12_readSleeper_31 : decode cX12_readSleeper 31 = .ok (.aload_n 0, 1) := by decide +kernel
theorem dX12_readSleeper_32 : decode cX12_readSleeper 32 = .ok (.getfield 38, 3) := by decide +kernel
theorem dX12_readSleeper_35 : decode cX12_readSleeper 35 = .ok (.bipush 8, 2) := by decide +kernel
theorem dX12_readSleeper_37 : decode cX12_readSleeper 37 = .ok (.iaload, 1) := by decide +kernel
theorem dX12_readSleeper_38 : decode cX12_readSleeper 38 = .ok (.iadd, 1) := by decide +kernel
theorem dX12_readSleeper_39 : decode cX12_readSleeper 39 = .ok (.istore_n 2, 1) := by decide +kernel
theorem dX12_readSleeper_40 : decode cX12_readSleeper 40 = .ok (.iload_n 1, 1) := by decide +kernel
theorem dX12_readSleeper_41 : decode cX12_readSleeper 41 = .ok (.iconst 3, 1) := by decide +kernel
theorem dX12_readSleeper_42 : decode cX12_readSleeper 42 = .ok (.if_icmp .ne 7, 3) := by decide +kernel
theorem dX12_readSleeper_45 : decode cX12_readSleeper 45 = .ok (.iconst 1, 1) := by decide +kernel
theorem dX12_readSleeper_46 : decode cX12_readSleeper 46 = .ok (.goto 4, 3) := by decide +kernel
theorem dX12_readSleeper_49 : decode cX12_readSleeper 49 = .ok (.iconst 0, 1) := by decide +kernel
theorem dX12_readSleeper_50 : decode cX12_readSleeper 50 = .ok (.istore_n 3, 1) := by decide +kernel
theorem dX12_readSleeper_51 : decode cX12_readSleeper 51 = .ok (.aload_n 0, 1) := by decide +kernel
theorem dX12_readSleeper_52 : decode cX12_readSleeper 52 = .ok (.getfield 42, 3) := by decide +kernel
theorem dX12_readSleeper_55 : decode cX12_readSleeper 55 = .ok (.iload_n 2, 1) := by decide +kernel
theorem dX12_readSleeper_56 : decode cX12_readSleeper 56 = .ok (.iload_n 1, 1) := by decide +kernel
theorem dX12_readSleeper_57 : decode cX12_readSleeper 57 = .ok (.iastore, 1) := by decide +kernel
theorem dX12_readSleeper_58 : decode cX12_readSleeper 58 = .ok (.aload_n 0, 1) := by decide +kernel
theorem dX12_readSleeper_59 : decode cX12_readSleeper 59 = .ok (.getfield 45, 3) := by decide +kernel
theorem dX12_readSleeper_62 : decode cX12_readSleeper 62 = .ok (.iconst 2, 1) := by decide +kernel
theorem dX12_readSleeper_63 : decode cX12_readSleeper 63 = .ok (.iload_n 2, 1) := by decide +kernel
theorem dX12_readSleeper_64 : decode cX12_readSleeper 64 = .ok (.imul, 1) := by decide +kernel
theorem dX12_readSleeper_65 : decode cX12_readSleeper 65 = .ok (.iload_n 3, 1) := by decide +kernel
theorem dX12_readSleeper_66 : decode cX12_readSleeper 66 = .ok (.ifCond .eq 7, 3) := by decide +kernel
theorem dX12_readSleeper_69 : decode cX12_readSleeper 69 = .ok (.iconst 0, 1) := by decide +kernel
theorem dX12_readSleeper_70 : decode cX12_readSleeper 70 = .ok (.goto 11, 3) := by decide +kernel
theorem dX12_readSleeper_73 : decode cX12_readSleeper 73 = .ok (.aload_n 0, 1) := by decide +kernel
theorem dX12_readSleeper_74 : decode cX12_readSleeper 74 = .ok (.iconst 1, 1) := by decide +kernel
theorem dX12_readSleeper_75 : decode cX12_readSleeper 75 = .ok (.sipush 240, 3) := by decide +kernel
theorem dX12_readSleeper_78 : decode cX12_readSleeper 78 = .ok (.invokevirtual 239, 3) := by decide +kernel
theorem dX12_readSleeper_81 : decode cX12_readSleeper 81 = .ok (.iastore, 1) := by decide +kernel
theorem dX12_readSleeper_82 : decode cX12_readSleeper 82 = .ok (.aload_n 0, 1) := by decide +kernel
theorem dX12_readSleeper_83 : decode cX12_readSleeper 83 = .ok (.getfield 45, 3) := by decide +kernel
theorem dX12_readSleeper_86 : decode cX12_readSleeper 86 = .ok (.iconst 2, 1) := by decide +kernel
theorem dX12_readSleeper_87 : decode cX12_readSleeper 87 = .ok (.iload_n 2, 1) := by decide +kernel
theorem dX12_readSleeper_88 : decode cX12_readSleeper 88 = .ok (.imul, 1) := by decide +kernel
theorem dX12_readSleeper_89 : decode cX12_readSleeper 89 = .ok (.iconst 1, 1) := by decide +kernel
theorem dX12_readSleeper_90 : decode cX12_readSleeper 90 = .ok (.iadd, 1) := by decide +kernel
theorem dX12_readSleeper_91 : decode cX12_readSleeper 91 = .ok (.iload_n 3, 1) := by decide +kernel
theorem dX12_readSleeper_92 : decode cX12_readSleeper 92 = .ok (.ifCond .eq 7, 3) := by decide +kernel
theorem dX12_readSleeper_95 : decode cX12_readSleeper 95 = .ok (.iconst 0, 1) := by decide +kernel
theorem dX12_readSleeper_96 : decode cX12_readSleeper 96 = .ok (.goto 11, 3) := by decide +kernel
theorem dX12_readSleeper_99 : decode cX12_readSleeper 99 = .ok (.aload_n 0, 1) := by decide +kernel
theorem dX12_readSleeper_100 : decode cX12_readSleeper 100 = .ok (.iconst 1, 1) := by decide +kernel
theorem dX12_readSleeper_101 : decode cX12_readSleeper 101 = .ok (.sipush 240, 3) := by decide +kernel
theorem dX12_readSleeper_104 : decode cX12_readSleeper 104 = .ok (.invokevirtual 239, 3) := by decide +kernel
theorem dX12_readSleeper_107 : decode cX12_readSleeper 107 = .ok (.iastore, 1) := by decide +kernel
theorem dX12_readSleeper_108 : decode cX12_readSleeper 108 = .ok (.aload_n 0, 1) := by decide +kernel
theorem dX12_readSleeper_109 : decode cX12_readSleeper 109 = .ok (.getfield 48, 3) := by decide +kernel
theorem dX12_readSleeper_112 : decode cX12_readSleeper 112 = .ok (.iload_n 2, 1) := by decide +kernel
theorem dX12_readSleeper_113 : decode cX12_readSleeper 113 = .ok (.iload_n 3, 1) := by decide +kernel
theorem dX12_readSleeper_114 : decode cX12_readSleeper 114 = .ok (.ifCond .eq 7, 3) := by decide +kernel
theorem dX12_readSleeper_117 : decode cX12_readSleeper 117 = .ok (.iconst 0, 1) := by decide +kernel
theorem dX12_readSleeper_118 : decode cX12_readSleeper 118 = .ok (.goto 10, 3) := by decide +kernel
theorem dX12_readSleeper_121 : decode cX12_readSleeper 121 = .ok (.aload_n 0, 1) := by decide +kernel
theorem dX12_readSleeper_122 : decode cX12_readSleeper 122 = .ok (.iconst 0, 1) := by decide +kernel
theorem dX12_readSleeper_123 : decode cX12_readSleeper 123 = .ok (.bipush 9, 2) := by decide +kernel
theorem dX12_readSleeper_125 : decode cX12_readSleeper 125 = .ok (.invokevirtual 239, 3) := by decide +kernel
theorem dX12_readSleeper_128 : decode cX12_readSleeper 128 = .ok (.iastore, 1) := by decide +kernel
theorem dX12_readSleeper_129 : decode cX12_readSleeper 129 = .ok (.aload_n 0, 1) := by decide +kernel
theorem dX12_readSleeper_130 : decode cX12_readSleeper 130 = .ok (.getfield 50, 3) := by decide +kernel
theorem dX12_readSleeper_133 : decode cX12_readSleeper 133 = .ok (.iload_n 2, 1) := by decide +kernel
theorem dX12_readSleeper_134 : decode cX12_readSleeper 134 = .ok (.aload_n 0, 1) := by decide +kernel
theorem dX12_readSleeper_135 : decode cX12_readSleeper 135 = .ok (.iconst 1, 1) := by decide +kernel
theorem dX12_readSleeper_136 : decode cX12_readSleeper 136 = .ok (.bipush 9, 2) := by decide +kernel
theorem dX12_readSleeper_138 : decode cX12_readSleeper 138 = .ok (.invokevirtual 239, 3) := by decide +kernel
theorem dX12_readSleeper_141 : decode cX12_readSleeper 141 = .ok (.iastore, 1) := by decide +kernel
theorem dX12_readSleeper_142 : decode cX12_readSleeper 142 = .ok (.aload_n 0, 1) := by decide +kernel
theorem dX12_readSleeper_143 : decode cX12_readSleeper 143 = .ok (.getfield 53, 3) := by decide +kernel
theorem dX12_readSleeper_146 : decode cX12_readSleeper 146 = .ok (.iload_n 2, 1) := by decide +kernel
theorem dX12_readSleeper_147 : decode cX12_readSleeper 147 = .ok (.iload_n 3, 1) := by decide +kernel
theorem dX12_readSleeper_148 : decode cX12_readSleeper 148 = .ok (.ifCond .eq 7, 3) := by decide +kernel
theorem dX12_readSleeper_151 : decode cX12_readSleeper 151 = .ok (.iconst 0, 1) := by decide +kernel
theorem dX12_readSleeper_152 : decode cX12_readSleeper 152 = .ok (.goto 11, 3) := by decide +kernel
theorem dX12_readSleeper_155 : decode cX12_readSleeper 155 = .ok (.aload_n 0, 1) := by decide +kernel
theorem dX12_readSleeper_156 : decode cX12_readSleeper 156 = .ok (.iconst 0, 1) := by decide +kernel
theorem dX12_readSleeper_157 : decode cX12_readSleeper 157 = .ok (.sipush 600, 3) := by decide +kernel
theorem dX12_readSleeper_160 : decode cX12_readSleeper 160 = .ok (.invokevirtual 239, 3) := by decide +kernel
theorem dX12_readSleeper_163 : decode cX12_readSleeper 163 = .ok (.iastore, 1) := by decide +kernel
theorem dX12_readSleeper_164 : decode cX12_readSleeper 164 = .ok (.aload_n 0, 1) := by decide +kernel
theorem dX12_readSleeper_165 : decode cX12_readSleeper 165 = .ok (.getfield 56, 3) := by decide +kernel
theorem dX12_readSleeper_168 : decode cX12_readSleeper 168 = .ok (.iload_n 2, 1) := by decide +kernel
theorem dX12_readSleeper_169 : decode cX12_readSleeper 169 = .ok (.iload_n 3, 1) := by decide +kernel
theorem dX12_readSleeper_170 : decode cX12_readSleeper 170 = .ok (.ifCond .eq 7, 3) := by decide +kernel
theorem dX12_readSleeper_173 : decode cX12_readSleeper 173 = .ok (.iconst 0, 1) := by decide +kernel
theorem dX12_readSleeper_174 : decode cX12_readSleeper 174 = .ok (.goto 10, 3) := by decide +kernel
theorem dX12_readSleeper_177 : decode cX12_readSleeper 177 = .ok (.aload_n 0, 1) := by decide +kernel
theorem dX12_readSleeper_178 : decode cX12_readSleeper 178 = .ok (.iconst 0, 1) := by decide +kernel
theorem dX12_readSleeper_179 : decode cX12_readSleeper 179 = .ok (.bipush 10, 2) := by decide +kernel
theorem dX12_readSleeper_181 : decode cX12_readSleeper 181 = .ok (.invokevirtual 239, 3) := by decide +kernel
theorem dX12_readSleeper_184 : decode cX12_readSleeper 184 = .ok (.iastore, 1) := by decide +kernel
theorem dX12_readSleeper_185 : decode cX12_readSleeper 185 = .ok (.aload_n 0, 1) := by decide +kernel
theorem dX12_readSleeper_186 : decode cX12_readSleeper 186 = .ok (.getfield 59, 3) := by decide +kernel
theorem dX12_readSleeper_189 : decode cX12_readSleeper 189 = .ok (.iload_n 2, 1) := by decide +kernel
theorem dX12_readSleeper_190 : decode cX12_readSleeper 190 = .ok (.iconst 0, 1) := by decide +kernel
theorem dX12_readSleeper_191 : decode cX12_readSleeper 191 = .ok (.iastore, 1) := by decide +kernel
theorem dX12_readSleeper_192 : decode cX12_readSleeper 192 = .ok (.aload_n 0, 1) := by decide +kernel
theorem dX12_readSleeper_193 : decode cX12_readSleeper 193 = .ok (.getfield 38, 3) := by decide +kernel
theorem dX12_readSleeper_196 : decode cX12_readSleeper 196 = .ok (.bipush 8, 2) := by decide +kernel
theorem dX12_readSleeper_198 : decode cX12_readSleeper 198 = .ok (.dup2, 1) := by decide +kernel
theorem dX12_readSleeper_199 : decode cX12_readSleeper 199 = .ok (.iaload, 1) := by decide +kernel
theorem dX12_readSleeper_200 : decode cX12_readSleeper 200 = .ok (.iconst 1, 1) := by decide +kernel
theorem dX12_readSleeper_201 : decode cX12_readSleeper 201 = .ok (.iadd, 1) := by decide +kernel
theorem dX12_readSleeper_202 : decode cX12_readSleeper 202 = .ok (.iastore, 1) := by decide +kernel
theorem dX12_readSleeper_203 : decode cX12_readSleeper 203 = .ok (.return_, 1) := by decide +kernel
theorem dX12_readNever_0 : decode cX12_readNever 0 = .ok (.aload_n 0, 1) := by decide +kernel
theorem dX12_readNever_1 : decode cX12_readNever 1 = .ok (.getfield 38, 3) := by decide +kernel
theorem dX12_readNever_4 : decode cX12_readNever 4 = .ok (.bipush 14, 2) := by decide +kernel
theorem dX12_readNever_6 : decode cX12_readNever 6 = .ok (.iaload, 1) := by decide +kernel
theorem dX12_readNever_7 : decode cX12_readNever 7 = .ok (.bipush 6, 2) := by decide +kernel
theorem dX12_readNever_9 : decode cX12_readNever 9 = .ok (.if_icmp .ne 8, 3) := by decide +kernel
theorem dX12_readNever_12 : decode cX12_readNever 12 = .ok (.aload_n 0, 1) := by decide +kernel
theorem dX12_readNever_13 : decode cX12_readNever 13 = .ok (.iconst 2, 1) := by decide +kernel
theorem dX12_readNever_14 : decode cX12_readNever 14 = .ok (.invokevirtual 229, 3) := by decide +kernel
theorem dX12_readNever_17 : decode cX12_readNever 17 = .ok (.aload_n 0, 1) := by decide +kernel
theorem dX12_readNever_18 : decode cX12_readNever 18 = .ok (.getfield 208, 3) := by decide +kernel
theorem dX12_readNever_21 : decode cX12_readNever 21 = .ok (.ifCond .eq 4, 3) := by decide +kernel
theorem dX12_readNever_24 : decode cX12_readNever 24 = .ok (.return_, 1) := by decide +kernel
theorem dX12_readNever_25 : decode cX12_readNever 25 = .ok (.aload_n 0, 1) := by decide +kernel
theorem dX12_readNever_26 : decode cX12_readNever 26 = .ok (.invokevirtual 233, 3) := by decide +kernel
theorem dX12_readNever_29 : decode cX12_readNever 29 = .ok (.aload_n 0, 1) := by decide +kernel
theorem dX12_readNever_30 : decode cX12_readNever 30 = .ok (.invokevirtual 276, 3) := by decide +kernel
theorem dX12_readNever_33 : decode cX12_readNever 33 = .ok (.istore_n 1, 1) := by decide +kernel
theorem dX12_readNever_34 : decode cX12_readNever 34 = .ok (.aload_n 0, 1) := by decide +kernel
theorem dX12_readNever_35 : decode cX12_readNever 35 = .ok (.getfield 208, 3) := by decide +kernel
theorem dX12_readNever_38 : decode cX12_readNever 38 = .ok (.ifCond .ne 7, 3) := by decide +kernel
theorem dX12_readNever_41 : decode cX12_readNever 41 = .ok (.aload_n 0, 1) := by decide +kernel
theorem dX12_readNever_42 : decode cX12_readNever 42 = .ok (.invokevirtual 233, 3) := by decide +kernel
theorem dX12_readNever_45 : decode cX12_readNever 45 = .ok (.aload_n 0, 1) := by decide +kernel
theorem dX12_readNever_46 : decode cX12_readNever 46 = .ok (.invokevirtual 276, 3) := by decide +kernel
theorem dX12_readNever_49 : decode cX12_readNever 49 = .ok (.istore_n 2, 1) := by decide +kernel
theorem dX12_readNever_50 : decode cX12_readNever 50 = .ok (.aload_n 0, 1) := by decide +kernel
theorem dX12_readNever_51 : decode cX12_readNever 51 = .ok (.getfield 208, 3) := by decide +kernel
theorem dX12_readNever_54 : decode cX12_readNever 54 = .ok (.ifCond .ne 30, 3) := by decide +kernel
theorem dX12_readNever_57 : decode cX12_readNever 57 = .ok (.iload_n 1, 1) := by decide +kernel
theorem dX12_readNever_58 : decode cX12_readNever 58 = .ok (.iload_n 2, 1) := by decide +kernel
theorem dX12_readNever_59 : decode cX12_readNever 59 = .ok (.if_icmp .eq 20, 3) := by decide +kernel
theorem dX12_readNever_62 : decode cX12_readNever 62 = .ok (.aload_n 0, 1) := by decide +kernel
theorem dX12_readNever_63 : decode cX12_readNever 63 = .ok (.getfield 59, 3) := by decide +kernel
theorem dX12_readNever_66 : decode cX12_readNever 66 = .ok (.bipush 7, 2) := by decide +kernel
theorem dX12_readNever_68 : decode cX12_readNever 68 = .ok (.iload_n 1, 1) := by decide +kernel
theorem dX12_readNever_69 : decode cX12_readNever 69 = .ok (.iadd, 1) := by decide +kernel
theorem dX12_readNever_70 : decode cX12_readNever 70 = .ok (.iaload, 1) := by decide +kernel
theorem dX12_readNever_71 : decode cX12_readNever 71 = .ok (.iload_n 2, 1) := by decide +kernel
theorem dX12_readNever_72 : decode cX12_readNever 72 = .ok (.ishr, 1) := by decide +kernel
theorem dX12_readNever_73 : decode cX12_readNever 73 = .ok (.iconst 1, 1) := by decide +kernel
theorem dX12_readNever_74 : decode cX12_readNever 74 = .ok (.iand, 1) := by decide +kernel
theorem dX12_readNever_75 : decode cX12_readNever 75 = .ok (.iconst 1, 1) := by decide +kernel
theorem dX12_readNever_76 : decode cX12_readNever 76 = .ok (.if_icmp .ne 8, 3) := by decide +kernel
theorem dX12_readNever_79 : decode cX12_readNever 79 = .ok (.aload_n 0, 1) := by decide +kernel
theorem dX12_readNever_80 : decode cX12_readNever 80 = .ok (.iconst 4, 1) := by decide +kernel
theorem dX12_readNever_81 : decode cX12_readNever 81 = .ok (.invokevirtual 229, 3) := by decide +kernel
theorem dX12_readNever_84 : decode cX12_readNever 84 = .ok (.aload_n 0, 1) := by decide +kernel
theorem dX12_readNever_85 : decode cX12_readNever 85 = .ok (.getfield 208, 3) := by decide +kernel
theorem dX12_readNever_88 : decode cX12_readNever 88 = .ok (.ifCond .eq 4, 3) := by decide +kernel
theorem dX12_readNever_91 : decode cX12_readNever 91 = .ok (.return_, 1) := by decide +kernel
theorem dX12_readNever_92 : decode cX12_readNever 92 = .ok (.aload_n 0, 1) := by decide +kernel
theorem dX12_readNever_93 : decode cX12_readNever 93 = .ok (.invokevirtual 233, 3) := by decide +kernel
theorem dX12_readNever_96 : decode cX12_readNever 96 = .ok (.aload_n 0, 1) := by decide +kernel
theorem dX12_readNever_97 : decode cX12_readNever 97 = .ok (.getfield 59, 3) := by decide +kernel
theorem dX12_readNever_100 : decode cX12_readNever 100 = .ok (.bipush 7, 2) := by decide +kernel
theorem dX12_readNever_102 : decode cX12_readNever 102 = .ok (.iload_n 1, 1) := by decide +kernel
theorem dX12_readNever_103 : decode cX12_readNever 103 = .ok (.iadd, 1) := by decide +kernel
theorem dX12_readNever_104 : decode cX12_readNever 104 = .ok (.dup2, 1) := by decide +kernel
theorem dX12_readNever_105 : decode cX12_readNever 105 = .ok (.iaload, 1) := by decide +kernel
theorem dX12_readNever_106 : decode cX12_readNever 106 = .ok (.iconst 1, 1) := by decide +kernel
theorem dX12_readNever_107 : decode cX12_readNever 107 = .ok (.iload_n 2, 1) := by decide +kernel
theorem dX12_readNever_108 : decode cX12_readNever 108 = .ok (.ishl, 1) := by decide +kernel
theorem dX12_readNever_109 : decode cX12_readNever 109 = .ok (.ior, 1) := by decide +kernel
theorem dX12_readNever_110 : decode cX12_readNever 110 = .ok (.iastore, 1) := by decide +kernel
theorem dX12_readNever_111 : decode cX12_readNever 111 = .ok (.aload_n 0, 1) := by decide +kernel
theorem dX12_readNever_112 : decode cX12_readNever 112 = .ok (.getfield 59, 3) := by decide +kernel
theorem dX12_readNever_115 : decode cX12_readNever 115 = .ok (.bipush 7, 2) := by decide +kernel
theorem dX12_readNever_117 : decode cX12_readNever 117 = .ok (.iload_n 2, 1) := by decide +kernel
theorem dX12_readNever_118 : decode cX12_readNever 118 = .ok (.iadd, 1) := by decide +kernel
theorem dX12_readNever_119 : decode cX12_readNever 119 = .ok (.dup2, 1) := by decide +kernel
theorem dX12_readNever_120 : decode cX12_readNever 120 = .ok (.iaload, 1) := by decide +kernel
theorem dX12_readNever_121 : decode cX12_readNever 121 = .ok (.iconst 1, 1) := by decide +kernel
theorem dX12_readNever_122 : decode cX12_readNever 122 = .ok (.iload_n 1, 1) := by decide +kernel
theorem dX12_readNever_123 : decode cX12_readNever 123 = .ok (.ishl, 1) := by decide +kernel
theorem dX12_readNever_124 : decode cX12_readNever 124 = .ok (.ior, 1) := by decide +kernel
theorem dX12_readNever_125 : decode cX12_readNever 125 = .ok (.iastore, 1) := by decide +kernel
theorem dX12_readNever_126 : decode cX12_readNever 126 = .ok (.aload_n 0, 1) := by decide +kernel
theorem dX12_readNever_127 : decode cX12_readNever 127 = .ok (.getfield 38, 3) := by decide +kernel
theorem dX12_readNever_130 : decode cX12_readNever 130 = .ok (.bipush 14, 2) := by decide +kernel
theorem dX12_readNever_132 : decode cX12_readNever 132 = .ok (.dup2, 1) := by decide +kernel
theorem dX12_readNever_133 : decode cX12_readNever 133 = .ok (.iaload, 1) := by decide +kernel
theorem dX12_readNever_134 : decode cX12_readNever 134 = .ok (.iconst 1, 1) := by decide +kernel
theorem dX12_readNever_135 : decode cX12_readNever 135 = .ok (.iadd, 1) := by decide +kernel
theorem dX12_readNever_136 : decode cX12_readNever 136 = .ok (.iastore, 1) := by decide +kernel
theorem dX12_readNever_137 : decode cX12_readNever 137 = .ok (.return_, 1) := by decide +kernel
theorem dX12_readBolster_0 : decode cX12_readBolster 0 = .ok (.aload_n 0, 1) := by decide +kernel
theorem dX12_readBolster_1 : decode cX12_readBolster 1 = .ok (.invokevirtual 233, 3) := by decide +kernel
theorem dX12_readBolster_4 : decode cX12_readBolster 4 = .ok (.aload_n 0, 1) := by decide +kernel
theorem dX12_readBolster_5 : decode cX12_readBolster 5 = .ok (.iconst 1, 1) := by decide +kernel
theorem dX12_readBolster_6 : decode cX12_readBolster 6 = .ok (.bipush 6, 2) := by decide +kernel
theorem dX12_readBolster_8 : decode cX12_readBolster 8 = .ok (.invokevirtual 236, 3) := by decide +kernel
theorem dX12_readBolster_11 : decode cX12_readBolster 11 = .ok (.istore_n 1, 1) := by decide +kernel
theorem dX12_readBolster_12 : decode cX12_readBolster 12 = .ok (.aload_n 0, 1) := by decide +kernel
theorem dX12_readBolster_13 : decode cX12_readBolster 13 = .ok (.getfield 208, 3) := by decide +kernel
theorem dX12_readBolster_16 : decode cX12_readBolster 16 = .ok (.ifCond .ne 23, 3) := by decide +kernel
theorem dX12_readBolster_19 : decode cX12_readBolster 19 = .ok (.aload_n 0, 1) := by decide +kernel
theorem dX12_readBolster_20 : decode cX12_readBolster 20 = .ok (.getfield 38, 3) := by decide +kernel
theorem dX12_readBolster_23 : decode cX12_readBolster 23 = .ok (.bipush 13, 2) := by decide +kernel
theorem dX12_readBolster_25 : decode cX12_readBolster 25 = .ok (.iaload, 1) := by decide +kernel
theorem dX12_readBolster_26 : decode cX12_readBolster 26 = .ok (.iload_n 1, 1) := by decide +kernel
theorem dX12_readBolster_27 : decode cX12_readBolster 27 = .ok (.ishr, 1) := by decide +kernel
theorem dX12_readBolster_28 : decode cX12_readBolster 28 = .ok (.iconst 1, 1) := by decide +kernel
theorem dX12_readBolster_29 : decode cX12_readBolster 29 = .ok (.iand, 1) := by decide +kernel
theorem dX12_readBolster_30 : decode cX12_readBolster 30 = .ok (.iconst 1, 1) := by decide +kernel
theorem dX12_readBolster_31 : decode cX12_readBolster 31 = .ok (.if_icmp .ne 8, 3) := by decide +kernel
theorem dX12_readBolster_34 : decode cX12_readBolster 34 = .ok (.aload_n 0, 1) := by decide +kernel
theorem dX12_readBolster_35 : decode cX12_readBolster 35 = .ok (.iconst 5, 1) := by decide +kernel
theorem dX12_readBolster_36 : decode cX12_readBolster 36 = .ok (.invokevirtual 229, 3) := by decide +kernel
theorem dX12_readBolster_39 : decode cX12_readBolster 39 = .ok (.aload_n 0, 1) := by decide +kernel
theorem dX12_readBolster_40 : decode cX12_readBolster 40 = .ok (.getfield 208, 3) := by decide +kernel
theorem dX12_readBolster_43 : decode cX12_readBolster 43 = .ok (.ifCond .eq 4, 3) := by decide +kernel
theorem dX12_readBolster_46 : decode cX12_readBolster 46 = .ok (.return_, 1) := by decide +kernel
theorem dX12_readBolster_47 : decode cX12_readBolster 47 = .ok (.aload_n 0, 1) := by decide +kernel
theorem dX12_readBolster_48 : decode cX12_readBolster 48 = .ok (.invokevirtual 233, 3) := by decide +kernel
theorem dX12_readBolster_51 : decode cX12_readBolster 51 = .ok (.aload_n 0, 1) := by decide +kernel
theorem dX12_readBolster_52 : decode cX12_readBolster 52 = .ok (.getfield 38, 3) := by decide +kernel
theorem dX12_readBolster_55 : decode cX12_readBolster 55 = .ok (.bipush 13, 2) := by decide +kernel
theorem dX12_readBolster_57 : decode cX12_readBolster 57 = .ok (.dup2, 1) := by decide +kernel
theorem dX12_readBolster_58 : decode cX12_readBolster 58 = .ok (.iaload, 1) := by decide +kernel
theorem dX12_readBolster_59 : decode cX12_readBolster 59 = .ok (.iconst 1, 1) := by decide +kernel
theorem dX12_readBolster_60 : decode cX12_readBolster 60 = .ok (.iload_n 1, 1) := by decide +kernel
theorem dX12_readBolster_61 : decode cX12_readBolster 61 = .ok (.ishl, 1) := by decide +kernel
theorem dX12_readBolster_62 : decode cX12_readBolster 62 = .ok (.ior, 1) := by decide +kernel
theorem dX12_readBolster_63 : decode cX12_readBolster 63 = .ok (.iastore, 1) := by decide +kernel
theorem dX12_readBolster_64 : decode cX12_readBolster 64 = .ok (.return_, 1) := by decide +kernel
theorem dX12_readLine_0 : decode cX12_readLine 0 = .ok (.aload_n 0, 1) := by decide +kernel
theorem dX12_readLine_1 : decode cX12_readLine 1 = .ok (.ldc_w 279, 3) := by decide +kernel
theorem dX12_readLine_4 : decode cX12_readLine 4 = .ok (.invokevirtual 222, 3) := by decide +kernel
theorem dX12_readLine_7 : decode cX12_readLine 7 = .ok (.ifCond .eq 7, 3) := by decide +kernel
theorem dX12_readLine_10 : decode cX12_readLine 10 = .ok (.iconst 1, 1) := by decide +kernel
theorem dX12_readLine_11 : decode cX12_readLine 11 = .ok (.goto 47, 3) := by decide +kernel
theorem dX12_readLine_14 : decode cX12_readLine 14 = .ok (.aload_n 0, 1) := by decide +kernel
theorem dX12_readLine_15 : decode cX12_readLine 15 = .ok (.ldc_w 281, 3) := by decide +kernel
theorem dX12_readLine_18 : decode cX12_readLine 18 = .ok (.invokevirtual 222, 3) := by decide +kernel
theorem dX12_readLine_21 : decode cX12_readLine 21 = .ok (.ifCond .eq 7, 3) := by decide +kernel
theorem dX12_readLine_24 : decode cX12_readLine 24 = .ok (.iconst 2, 1) := by decide +kernel
theorem dX12_readLine_25 : decode cX12_readLine 25 = .ok (.goto 33, 3) := by decide +kernel
theorem dX12_readLine_28 : decode cX12_readLine 28 = .ok (.aload_n 0, 1) := by decide +kernel
theorem dX12_readLine_29 : decode cX12_readLine 29 = .ok (.ldc_w 283, 3) := by decide +kernel
theorem dX12_readLine_32 : decode cX12_readLine 32 = .ok (.invokevirtual 222, 3) := by decide +kernel
theorem dX12_readLine_35 : decode cX12_readLine 35 = .ok (.ifCond .eq 7, 3) := by decide +kernel
theorem dX12_readLine_38 : decode cX12_readLine 38 = .ok (.iconst 4, 1) := by decide +kernel
theorem dX12_readLine_39 : decode cX12_readLine 39 = .ok (.goto 19, 3) := by decide +kernel
theorem dX12_readLine_42 : decode cX12_readLine 42 = .ok (.aload_n 0, 1) := by decide +kernel
theorem dX12_readLine_43 : decode cX12_readLine 43 = .ok (.ldc_w 285, 3) := by decide +kernel
theorem dX12_readLine_46 : decode cX12_readLine 46 = .ok (.invokevirtual 222, 3) := by decide +kernel
theorem dX12_readLine_49 : decode cX12_readLine 49 = .ok (.ifCond .eq 8, 3) := by decide +kernel
theorem dX12_readLine_52 : decode cX12_readLine 52 = .ok (.bipush 8, 2) := by decide +kernel
theorem dX12_readLine_54 : decode cX12_readLine 54 = .ok (.goto 4, 3) := by decide +kernel
theorem dX12_readLine_57 : decode cX12_readLine 57 = .ok (.iconst 0, 1) := by decide +kernel
theorem dX12_readLine_58 : decode cX12_readLine 58 = .ok (.istore_n 2, 1) := by decide +kernel
theorem dX12_readLine_59 : decode cX12_readLine 59 = .ok (.aload_n 0, 1) := by decide +kernel
theorem dX12_readLine_60 : decode cX12_readLine 60 = .ok (.ldc_w 287, 3) := by decide +kernel
theorem dX12_readLine_63 : decode cX12_readLine 63 = .ok (.invokevirtual 222, 3) := by decide +kernel
theorem dX12_readLine_66 : decode cX12_readLine 66 = .ok (.ifCond .eq 7, 3) := by decide +kernel
theorem dX12_readLine_69 : decode cX12_readLine 69 = .ok (.iconst 3, 1) := by decide +kernel
theorem dX12_readLine_70 : decode cX12_readLine 70 = .ok (.goto 11, 3) := by decide +kernel
theorem dX12_readLine_73 : decode cX12_readLine 73 = .ok (.aload_n 0, 1) := by decide +kernel
theorem dX12_readLine_74 : decode cX12_readLine 74 = .ok (.aload_n 0, 1) := by decide +kernel
theorem dX12_readLine_75 : decode cX12_readLine 75 = .ok (.getfield 17, 3) := by decide +kernel
theorem dX12_readLine_78 : decode cX12_readLine 78 = .ok (.invokevirtual 245, 3) := by decide +kernel
theorem dX12_readLine_81 : decode cX12_readLine 81 = .ok (.istore_n 3, 1) := by decide +kernel
theorem dX12_readLine_82 : decode cX12_readLine 82 = .ok (.iload_n 2, 1) := by decide +kernel
theorem dX12_readLine_83 : decode cX12_readLine 83 = .ok (.iload_n 1, 1) := by decide +kernel
theorem dX12_readLine_84 : decode cX12_readLine 84 = .ok (.iand, 1) := by decide +kernel
theorem dX12_readLine_85 : decode cX12_readLine 85 = .ok (.ifCond .eq 8, 3) := by decide +kernel
theorem dX12_readLine_88 : decode cX12_readLine 88 = .ok (.aload_n 0, 1) := by decide +kernel
theorem dX12_readLine_89 : decode cX12_readLine 89 = .ok (.iconst 5, 1) := by decide +kernel
theorem dX12_readLine_90 : decode cX12_readLine 90 = .ok (.invokevirtual 229, 3) := by decide +kernel
theorem dX12_readLine_93 : decode cX12_readLine 93 = .ok (.iload_n 2, 1) := by decide +kernel
theorem dX12_readLine_94 : decode cX12_readLine 94 = .ok (.ifCond .le 103, 3) := by decide +kernel
theorem dX12_readLine_97 : decode cX12_readLine 97 = .ok (.aload_n 0, 1) := by decide +kernel
theorem dX12_readLine_98 : decode cX12_readLine 98 = .ok (.getfield 208, 3) := by decide +kernel
theorem dX12_readLine_101 : decode cX12_readLine 101 = .ok (.ifCond .ne 7, 3) := by decide +kernel
theorem dX12_readLine_104 : decode cX12_readLine 104 = .ok (.aload_n 0, 1) := by decide +kernel
theorem dX12_readLine_105 : decode cX12_readLine 105 = .ok (.invokevirtual 233, 3) := by decide +kernel
theorem dX12_readLine_108 : decode cX12_readLine 108 = .ok (.iload_n 2, 1) := by decide +kernel
theorem dX12_readLine_109 : decode cX12_readLine 109 = .ok (.iconst 1, 1) := by decide +kernel
theorem dX12_readLine_110 : decode cX12_readLine 110 = .ok (.if_icmp .ne 34, 3) := by decide +kernel
theorem dX12_readLine_113 : decode cX12_readLine 113 = .ok (.aload_n 0, 1) := by decide +kernel
theorem dX12_readLine_114 : decode cX12_readLine 114 = .ok (.getfield 38, 3) := by decide +kernel
theorem dX12_readLine_117 : decode cX12_readLine 117 = .ok (.bipush 9, 2) := by decide +kernel
theorem dX12_readLine_119 : decode cX12_readLine 119 = .ok (.aload_n 0, 1) := by decide +kernel
theorem dX12_readLine_120 : decode cX12_readLine 120 = .ok (.iconst 1, 1) := by decide +kernel
theorem dX12_readLine_121 : decode cX12_readLine 121 = .ok (.bipush 99, 2) := by decide +kernel
theorem dX12_readLine_123 : decode cX12_readLine 123 = .ok (.invokevirtual 239, 3) := by decide +kernel
theorem dX12_readLine_126 : decode cX12_readLine 126 = .ok (.iastore, 1) := by decide +kernel
theorem dX12_readLine_127 : decode cX12_readLine 127 = .ok (.aload_n 0, 1) := by decide +kernel
theorem dX12_readLine_128 : decode cX12_readLine 128 = .ok (.getfield 38, 3) := by decide +kernel
theorem dX12_readLine_131 : decode cX12_readLine 131 = .ok (.bipush 10, 2) := by decide +kernel
theorem dX12_readLine_133 : decode cX12_readLine 133 = .ok (.aload_n 0, 1) := by decide +kernel
theorem dX12_readLine_134 : decode cX12_readLine 134 = .ok (.iconst 0, 1) := by decide +kernel
theorem dX12_readLine_135 : decode cX12_readLine 135 = .ok (.bipush 9, 2) := by decide +kernel
theorem dX12_readLine_137 : decode cX12_readLine 137 = .ok (.invokevirtual 239, 3) := by decide +kernel
theorem dX12_readLine_140 : decode cX12_readLine 140 = .ok (.iastore, 1) := by decide +kernel
theorem dX12_readLine_141 : decode cX12_readLine 141 = .ok (.goto 112, 3) := by decide +kernel
theorem dX12_readLine_144 : decode cX12_readLine 144 = .ok (.iload_n 2, 1) := by decide +kernel
theorem dX12_readLine_145 : decode cX12_readLine 145 = .ok (.iconst 2, 1) := by decide +kernel
theorem dX12_readLine_146 : decode cX12_readLine 146 = .ok (.if_icmp .ne 21, 3) := by decide +kernel
theorem dX12_readLine_149 : decode cX12_readLine 149 = .ok (.aload_n 0, 1) := by decide +kernel
theorem dX12_readLine_150 : decode cX12_readLine 150 = .ok (.getfield 38, 3) := by decide +kernel
theorem dX12_readLine_153 : decode cX12_readLine 153 = .ok (.bipush 11, 2) := by decide +kernel
theorem dX12_readLine_155 : decode cX12_readLine 155 = .ok (.aload_n 0, 1) := by decide +kernel
theorem dX12_readLine_156 : decode cX12_readLine 156 = .ok (.iconst 1, 1) := by decide +kernel
theorem dX12_readLine_157 : decode cX12_readLine 157 = .ok (.sipush 600, 3) := by decide +kernel
theorem dX12_readLine_160 : decode cX12_readLine 160 = .ok (.invokevirtual 239, 3) := by decide +kernel
theorem dX12_readLine_163 : decode cX12_readLine 163 = .ok (.iastore, 1) := by decide +kernel
theorem dX12_readLine_164 : decode cX12_readLine 164 = .ok (.goto 89, 3) := by decide +kernel
theorem dX12_readLine_167 : decode cX12_readLine 167 = .ok (.iload_n 2, 1) := by decide +kernel
theorem dX12_readLine_168 : decode cX12_readLine 168 = .ok (.iconst 4, 1) := by decide +kernel
theorem dX12_readLine_169 : decode cX12_readLine 169 = .ok (.if_icmp .ne 20, 3) := by decide +kernel
theorem dX12_readLine_172 : decode cX12_readLine 172 = .ok (.aload_n 0, 1) := by decide +kernel
theorem dX12_readLine_173 : decode cX12_readLine 173 = .ok (.getfield 38, 3) := by decide +kernel
theorem dX12_readLine_176 : decode cX12_readLine 176 = .ok (.bipush 12, 2) := by decide +kernel
theorem dX12_readLine_178 : decode cX12_readLine 178 = .ok (.aload_n 0, 1) := by decide +kernel
theorem dX12_readLine_179 : decode cX12_readLine 179 = .ok (.iconst 0, 1) := by decide +kernel
theorem dX12_readLine_180 : decode cX12_readLine 180 = .ok (.bipush 60, 2) := by decide +kernel
theorem dX12_readLine_182 : decode cX12_readLine 182 = .ok (.invokevirtual 239, 3) := by decide +kernel
theorem dX12_readLine_185 : decode cX12_readLine 185 = .ok (.iastore, 1) := by decide +kernel
theorem dX12_readLine_186 : decode cX12_readLine 186 = .ok (.goto 67, 3) := by decide +kernel
theorem dX12_readLine_189 : decode cX12_readLine 189 = .ok (.aload_n 0, 1) := by decide +kernel
theorem dX12_readLine_190 : decode cX12_readLine 190 = .ok (.iconst 0, 1) := by decide +kernel
theorem dX12_readLine_191 : decode cX12_readLine 191 = .ok (.invokevirtual 252, 3) := by decide +kernel
theorem dX12_readLine_194 : decode cX12_readLine 194 = .ok (.goto 59, 3) := by decide +kernel
theorem dX12_readLine_197 : decode cX12_readLine 197 = .ok (.iload_n 3, 1) := by decide +kernel
theorem dX12_readLine_198 : decode cX12_readLine 198 = .ok (.iconst (-1), 1) := by decide +kernel
theorem dX12_readLine_199 : decode cX12_readLine 199 = .ok (.if_icmp .eq 11, 3) := by decide +kernel
theorem dX12_readLine_202 : decode cX12_readLine 202 = .ok (.aload_n 0, 1) := by decide +kernel
theorem dX12_readLine_203 : decode cX12_readLine 203 = .ok (.iload_n 3, 1) := by decide +kernel
theorem dX12_readLine_204 : decode cX12_readLine 204 = .ok (.invokevirtual 289, 3) := by decide +kernel
theorem dX12_readLine_207 : decode cX12_readLine 207 = .ok (.goto 46, 3) := by decide +kernel
theorem dX12_readLine_210 : decode cX12_readLine 210 = .ok (.aload_n 0, 1) := by decide +kernel
theorem dX12_readLine_211 : decode cX12_readLine 211 = .ok (.ldc_w 292, 3) := by decide +kernel
theorem dX12_readLine_214 : decode cX12_readLine 214 = .ok (.invokevirtual 222, 3) := by decide +kernel
theorem dX12_readLine_217 : decode cX12_readLine 217 = .ok (.ifCond .eq 10, 3) := by decide +kernel
theorem dX12_readLine_220 : decode cX12_readLine 220 = .ok (.aload_n 0, 1) := by decide +kernel
theorem dX12_readLine_221 : decode cX12_readLine 221 = .ok (.invokevirtual 294, 3) := by decide +kernel
theorem dX12_readLine_224 : decode cX12_readLine 224 = .ok (.goto 29, 3) := by decide +kernel
theorem dX12_readLine_227 : decode cX12_readLine 227 = .ok (.aload_n 0, 1) := by decide +kernel
theorem dX12_readLine_228 : decode cX12_readLine 228 = .ok (.ldc_w 297, 3) := by decide +kernel
theorem dX12_readLine_231 : decode cX12_readLine 231 = .ok (.invokevirtual 222, 3) := by decide +kernel
theorem dX12_readLine_234 : decode cX12_readLine 234 = .ok (.ifCond .ne 8, 3) := by decide +kernel
theorem dX12_readLine_237 : decode cX12_readLine 237 = .ok (.aload_n 0, 1) := by decide +kernel
theorem dX12_readLine_238 : decode cX12_readLine 238 = .ok (.iconst 1, 1) := by decide +kernel
theorem dX12_readLine_239 : decode cX12_readLine 239 = .ok (.invokevirtual 229, 3) := by decide +kernel
theorem dX12_readLine_242 : decode cX12_readLine 242 = .ok (.aload_n 0, 1) := by decide +kernel
theorem dX12_readLine_243 : decode cX12_readLine 243 = .ok (.getfield 208, 3) := by decide +kernel
theorem dX12_readLine_246 : decode cX12_readLine 246 = .ok (.ifCond .ne 7, 3) := by decide +kernel
theorem dX12_readLine_249 : decode cX12_readLine 249 = .ok (.aload_n 0, 1) := by decide +kernel
theorem dX12_readLine_250 : decode cX12_readLine 250 = .ok (.invokevirtual 299, 3) := by decide +kernel
theorem dX12_readLine_253 : decode cX12_readLine 253 = .ok (.aload_n 0, 1) := by decide +kernel
theorem dX12_readLine_254 : decode cX12_readLine 254 = .ok (.bipush 59, 2) := by decide +kernel
theorem dX12_readLine_256 : decode cX12_readLine 256 = .ok (.invokevirtual 249, 3) := by decide +kernel
theorem dX12_readLine_259 : decode cX12_readLine 259 = .ok (.iload_n 1, 1) := by decide +kernel
theorem dX12_readLine_260 : decode cX12_readLine 260 = .ok (.iload_n 2, 1) := by decide +kernel
theorem dX12_readLine_261 : decode cX12_readLine 261 = .ok (.ior, 1) := by decide +kernel
theorem dX12_readLine_262 : decode cX12_readLine 262 = .ok (.ireturn, 1) := by decide +kernel
theorem dX12_bed_0 : decode cX12_bed 0 = .ok (.aload_n 0, 1) := by decide +kernel
theorem dX12_bed_1 : decode cX12_bed 1 = .ok (.iconst 0, 1) := by decide +kernel
theorem dX12_bed_2 : decode cX12_bed 2 = .ok (.putfield 159, 3) := by decide +kernel
theorem dX12_bed_5 : decode cX12_bed 5 = .ok (.iload_n 1, 1) := by decide +kernel
theorem dX12_bed_6 : decode cX12_bed 6 = .ok (.ifCond .lt 11, 3) := by decide +kernel
theorem dX12_bed_9 : decode cX12_bed 9 = .ok (.iload_n 1, 1) := by decide +kernel
theorem dX12_bed_10 : decode cX12_bed 10 = .ok (.aload_n 0, 1) := by decide +kernel
theorem dX12_bed_11 : decode cX12_bed 11 = .ok (.getfield 166, 3) := by decide +kernel
theorem dX12_bed_14 : decode cX12_bed 14 = .ok (.if_icmp .le 9, 3) := by decide +kernel
theorem dX12_bed_17 : decode cX12_bed 17 = .ok (.aload_n 0, 1) := by decide +kernel
theorem dX12_bed_18 : decode cX12_bed 18 = .ok (.iconst 1, 1) := by decide +kernel
theorem dX12_bed_19 : decode cX12_bed 19 = .ok (.invokevirtual 302, 3) := by decide +kernel
theorem dX12_bed_22 : decode cX12_bed 22 = .ok (.ireturn, 1) := by decide +kernel
theorem dX12_bed_23 : decode cX12_bed 23 = .ok (.aload_n 0, 1) := by decide +kernel
theorem dX12_bed_24 : decode cX12_bed 24 = .ok (.iconst 0, 1) := by decide +kernel
theorem dX12_bed_25 : decode cX12_bed 25 = .ok (.putfield 166, 3) := by decide +kernel
theorem dX12_bed_28 : decode cX12_bed 28 = .ok (.aload_n 0, 1) := by decide +kernel
theorem dX12_bed_29 : decode cX12_bed 29 = .ok (.iload_n 1, 1) := by decide +kernel
theorem dX12_bed_30 : decode cX12_bed 30 = .ok (.putfield 169, 3) := by decide +kernel
theorem dX12_bed_33 : decode cX12_bed 33 = .ok (.aload_n 0, 1) := by decide +kernel
theorem dX12_bed_34 : decode cX12_bed 34 = .ok (.iconst 0, 1) := by decide +kernel
theorem dX12_bed_35 : decode cX12_bed 35 = .ok (.putfield 172, 3) := by decide +kernel
theorem dX12_bed_38 : decode cX12_bed 38 = .ok (.aload_n 0, 1) := by decide +kernel
theorem dX12_bed_39 : decode cX12_bed 39 = .ok (.iconst 0, 1) := by decide +kernel
theorem dX12_bed_40 : decode cX12_bed 40 = .ok (.putfield 208, 3) := by decide +kernel
theorem dX12_bed_43 : decode cX12_bed 43 = .ok (.aload_n 0, 1) := by decide +kernel
theorem dX12_bed_44 : decode cX12_bed 44 = .ok (.iconst (-1), 1) := by decide +kernel
theorem dX12_bed_45 : decode cX12_bed 45 = .ok (.putfield 71, 3) := by decide +kernel
theorem dX12_bed_48 : decode cX12_bed 48 = .ok (.iconst 0, 1) := by decide +kernel
theorem dX12_bed_49 : decode cX12_bed 49 = .ok (.istore_n 2, 1) := by decide +kernel
theorem dX12_bed_50 : decode cX12_bed 50 = .ok (.iload_n 2, 1) := by decide +kernel
theorem dX12_bed_51 : decode cX12_bed 51 = .ok (.bipush 8, 2) := by decide +kernel
theorem dX12_bed_53 : decode cX12_bed 53 = .ok (.if_icmp .ge 59, 3) := by decide +kernel
theorem dX12_bed_56 : decode cX12_bed 56 = .ok (.aload_n 0, 1) := by decide +kernel
theorem dX12_bed_57 : decode cX12_bed 57 = .ok (.getfield 38, 3) := by decide +kernel
theorem dX12_bed_60 : decode cX12_bed 60 = .ok (.bipush 8, 2) := by decide +kernel
theorem dX12_bed_62 : decode cX12_bed 62 = .ok (.iload_n 2, 1) := by decide +kernel
theorem dX12_bed_63 : decode cX12_bed 63 = .ok (.iadd, 1) := by decide +kernel
theorem dX12_bed_64 : decode cX12_bed 64 = .ok (.iload_n 2, 1) := by decide +kernel
theorem dX12_bed_65 : decode cX12_bed 65 = .ok (.iconst 1, 1) := by decide +kernel
theorem dX12_bed_66 : decode cX12_bed 66 = .ok (.if_icmp .ne 8, 3) := by decide +kernel
theorem dX12_bed_69 : decode cX12_bed 69 = .ok (.bipush 20, 2) := by decide +kernel
theorem dX12_bed_71 : decode cX12_bed 71 = .ok (.goto 34, 3) := by decide +kernel
theorem dX12_bed_74 : decode cX12_bed 74 = .ok (.iload_n 2, 1) := by decide +kernel
theorem dX12_bed_75 : decode cX12_bed 75 = .ok (.iconst 2, 1) := by decide +kernel
theorem dX12_bed_76 : decode cX12_bed 76 = .ok (.if_icmp .ne 7, 3) := by decide +kernel
theorem dX12_bed_79 : decode cX12_bed 79 = .ok (.iconst 3, 1) := by decide +kernel
theorem dX12_bed_80 : decode cX12_bed 80 = .ok (.goto 25, 3) := by decide +kernel
theorem dX12_bed_83 : decode cX12_bed 83 = .ok (.iload_n 2, 1) := by decide +kernel
theorem dX12_bed_84 : decode cX12_bed 84 = .ok (.iconst 3, 1) := by decide +kernel
theorem dX12_bed_85 : decode cX12_bed 85 = .ok (.if_icmp .ne 9, 3) := by decide +kernel
theorem dX12_bed_88 : decode cX12_bed 88 = .ok (.sipush 480, 3) := by decide +kernel
theorem dX12_bed_91 : decode cX12_bed 91 = .ok (.goto 14, 3) := by decide +kernel
theorem dX12_bed_94 : decode cX12_bed 94 = .ok (.iload_n 2, 1) := by decide +kernel
theorem dX12_bed_95 : decode cX12_bed 95 = .ok (.iconst 4, 1) := by decide +kernel
theorem dX12_bed_96 : decode cX12_bed 96 = .ok (.if_icmp .ne 8, 3) := by decide +kernel
theorem dX12_bed_99 : decode cX12_bed 99 = .ok (.bipush 15, 2) := by decide +kernel
theorem dX12_bed_101 : decode cX12_bed 101 = .ok (.goto 4, 3) := by decide +kernel
theorem dX12_bed_104 : decode cX12_bed 104 = .ok (.iconst 0, 1) := by decide +kernel
theorem dX12_bed_105 : decode cX12_bed 105 = .ok (.iastore, 1) := by decide +kernel
theorem dX12_bed_106 : decode cX12_bed 106 = .ok (.iinc 2 1, 3) := by decide +kernel
theorem dX12_bed_109 : decode cX12_bed 109 = .ok (.goto (-59), 3) := by decide +kernel
theorem dX12_bed_112 : decode cX12_bed 112 = .ok (.aload_n 0, 1) := by decide +kernel
theorem dX12_bed_113 : decode cX12_bed 113 = .ok (.invokevirtual 233, 3) := by decide +kernel
theorem dX12_bed_116 : decode cX12_bed 116 = .ok (.iconst 0, 1) := by decide +kernel
theorem dX12_bed_117 : decode cX12_bed 117 = .ok (.istore_n 2, 1) := by decide +kernel
theorem dX12_bed_118 : decode cX12_bed 118 = .ok (.aload_n 0, 1) := by decide +kernel
theorem dX12_bed_119 : decode cX12_bed 119 = .ok (.getfield 208, 3) := by decide +kernel
theorem dX12_bed_122 : decode cX12_bed 122 = .ok (.ifCond .ne 19, 3) := by decide +kernel
theorem dX12_bed_125 : decode cX12_bed 125 = .ok (.aload_n 0, 1) := by decide +kernel
theorem dX12_bed_126 : decode cX12_bed 126 = .ok (.getfield 182, 3) := by decide +kernel
theorem dX12_bed_129 : decode cX12_bed 129 = .ok (.ifCond .eq 12, 3) := by decide +kernel
theorem dX12_bed_132 : decode cX12_bed 132 = .ok (.aload_n 0, 1) := by decide +kernel
theorem dX12_bed_133 : decode cX12_bed 133 = .ok (.iload_n 2, 1) := by decide +kernel
theorem dX12_bed_134 : decode cX12_bed 134 = .ok (.invokevirtual 305, 3) := by decide +kernel
theorem dX12_bed_137 : decode cX12_bed 137 = .ok (.istore_n 2, 1) := by decide +kernel
theorem dX12_bed_138 : decode cX12_bed 138 = .ok (.goto (-20), 3) := by decide +kernel
theorem dX12_bed_141 : decode cX12_bed 141 = .ok (.aload_n 0, 1) := by decide +kernel
theorem dX12_bed_142 : decode cX12_bed 142 = .ok (.getfield 208, 3) := by decide +kernel
theorem dX12_bed_145 : decode cX12_bed 145 = .ok (.ifCond .eq 26, 3) := by decide +kernel
theorem dX12_bed_148 : decode cX12_bed 148 = .ok (.aload_n 0, 1) := by decide +kernel
theorem dX12_bed_149 : decode cX12_bed 149 = .ok (.aload_n 0, 1) := by decide +kernel
theorem dX12_bed_150 : decode cX12_bed 150 = .ok (.getfield 211, 3) := by decide +kernel
theorem dX12_bed_153 : decode cX12_bed 153 = .ok (.putfield 71, 3) := by decide +kernel
theorem dX12_bed_156 : decode cX12_bed 156 = .ok (.aload_n 0, 1) := by decide +kernel
theorem dX12_bed_157 : decode cX12_bed 157 = .ok (.getfield 65, 3) := by decide +kernel
theorem dX12_bed_160 : decode cX12_bed 160 = .ok (.iconst 0, 1) := by decide +kernel
theorem dX12_bed_161 : decode cX12_bed 161 = .ok (.dup2, 1) := by decide +kernel
theorem dX12_bed_162 : decode cX12_bed 162 = .ok (.iaload, 1) := by decide +kernel
theorem dX12_bed_163 : decode cX12_bed 163 = .ok (.iconst 1, 1) := by decide +kernel
theorem dX12_bed_164 : decode cX12_bed 164 = .ok (.iadd, 1) := by decide +kernel
theorem dX12_bed_165 : decode cX12_bed 165 = .ok (.iastore, 1) := by decide +kernel
theorem dX12_bed_166 : decode cX12_bed 166 = .ok (.aload_n 0, 1) := by decide +kernel
theorem dX12_bed_167 : decode cX12_bed 167 = .ok (.getfield 208, 3) := by decide +kernel
theorem dX12_bed_170 : decode cX12_bed 170 = .ok (.ireturn, 1) := by decide +kernel
theorem dX12_bed_171 : decode cX12_bed 171 = .ok (.aload_n 0, 1) := by decide +kernel
theorem dX12_bed_172 : decode cX12_bed 172 = .ok (.invokevirtual 308, 3) := by decide +kernel
theorem dX12_bed_175 : decode cX12_bed 175 = .ok (.iconst 0, 1) := by decide +kernel
theorem dX12_bed_176 : decode cX12_bed 176 = .ok (.ireturn, 1) := by decide +kernel
theorem dX12_takeHalf_0 : decode cX12_takeHalf 0 = .ok (.iconst 0, 1) := by decide +kernel
theorem dX12_takeHalf_1 : decode cX12_takeHalf 1 = .ok (.istore_n 1, 1) := by decide +kernel
theorem dX12_takeHalf_2 : decode cX12_takeHalf 2 = .ok (.iload_n 1, 1) := by decide +kernel
theorem dX12_takeHalf_3 : decode cX12_takeHalf 3 = .ok (.aload_n 0, 1) := by decide +kernel
theorem dX12_takeHalf_4 : decode cX12_takeHalf 4 = .ok (.arraylength, 1) := by decide +kernel
theorem dX12_takeHalf_5 : decode cX12_takeHalf 5 = .ok (.iconst 2, 1) := by decide +kernel
theorem dX12_takeHalf_6 : decode cX12_takeHalf 6 = .ok (.idiv, 1) := by decide +kernel
theorem dX12_takeHalf_7 : decode cX12_takeHalf 7 = .ok (.if_icmp .ge 20, 3) := by decide +kernel
theorem dX12_takeHalf_10 : decode cX12_takeHalf 10 = .ok (.aload_n 0, 1) := by decide +kernel
theorem dX12_takeHalf_11 : decode cX12_takeHalf 11 = .ok (.iload_n 1, 1) := by decide +kernel
theorem dX12_takeHalf_12 : decode cX12_takeHalf 12 = .ok (.aload_n 0, 1) := by decide +kernel
theorem dX12_takeHalf_13 : decode cX12_takeHalf 13 = .ok (.aload_n 0, 1) := by decide +kernel
theorem dX12_takeHalf_14 : decode cX12_takeHalf 14 = .ok (.arraylength, 1) := by decide +kernel
theorem dX12_takeHalf_15 : decode cX12_takeHalf 15 = .ok (.iconst 2, 1) := by decide +kernel
theorem dX12_takeHalf_16 : decode cX12_takeHalf 16 = .ok (.idiv, 1) := by decide +kernel
theorem dX12_takeHalf_17 : decode cX12_takeHalf 17 = .ok (.iload_n 1, 1) := by decide +kernel
theorem dX12_takeHalf_18 : decode cX12_takeHalf 18 = .ok (.iadd, 1) := by decide +kernel
theorem dX12_takeHalf_19 : decode cX12_takeHalf 19 = .ok (.iaload, 1) := by decide +kernel
theorem dX12_takeHalf_20 : decode cX12_takeHalf 20 = .ok (.iastore, 1) := by decide +kernel
theorem dX12_takeHalf_21 : decode cX12_takeHalf 21 = .ok (.iinc 1 1, 3) := by decide +kernel
theorem dX12_takeHalf_24 : decode cX12_takeHalf 24 = .ok (.goto (-22), 3) := by decide +kernel
theorem dX12_takeHalf_27 : decode cX12_takeHalf 27 = .ok (.return_, 1) := by decide +kernel
theorem dX12_takeOver_0 : decode cX12_takeOver 0 = .ok (.aload_n 0, 1) := by decide +kernel
theorem dX12_takeOver_1 : decode cX12_takeOver 1 = .ok (.getfield 38, 3) := by decide +kernel
theorem dX12_takeOver_4 : decode cX12_takeOver 4 = .ok (.invokestatic 311, 3) := by decide +kernel
theorem dX12_takeOver_7 : decode cX12_takeOver 7 = .ok (.aload_n 0, 1) := by decide +kernel
theorem dX12_takeOver_8 : decode cX12_takeOver 8 = .ok (.getfield 42, 3) := by decide +kernel
theorem dX12_takeOver_11 : decode cX12_takeOver 11 = .ok (.invokestatic 311, 3) := by decide +kernel
theorem dX12_takeOver_14 : decode cX12_takeOver 14 = .ok (.aload_n 0, 1) := by decide +kernel
theorem dX12_takeOver_15 : decode cX12_takeOver 15 = .ok (.getfield 45, 3) := by decide +kernel
theorem dX12_takeOver_18 : decode cX12_takeOver 18 = .ok (.invokestatic 311, 3) := by decide +kernel
theorem dX12_takeOver_21 : decode cX12_takeOver 21 = .ok (.aload_n 0, 1) := by decide +kernel
theorem dX12_takeOver_22 : decode cX12_takeOver 22 = .ok (.getfield 48, 3) := by decide +kernel
theorem dX12_takeOver_25 : decode cX12_takeOver 25 = .ok (.invokestatic 311, 3) := by decide +kernel
theorem dX12_takeOver_28 : decode cX12_takeOver 28 = .ok (.aload_n 0, 1) := by decide +kernel
