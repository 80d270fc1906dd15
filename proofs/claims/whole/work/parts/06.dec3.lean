theorem dX12_init_0 : decode cX12_init 0 = .ok (.aload_n 0, 1) := by decide +kernel
theorem dX12_init_1 : decode cX12_init 1 = .ok (.invokespecial 3, 3) := by decide +kernel
theorem dX12_init_4 : decode cX12_init 4 = .ok (.aload_n 0, 1) := by decide +kernel
theorem dX12_init_5 : decode cX12_init 5 = .ok (.iconst 2, 1) := by decide +kernel
theorem dX12_init_6 : decode cX12_init 6 = .ok (.anewarray 9, 3) := by decide +kernel
theorem dX12_init_9 : decode cX12_init 9 = .ok (.dup, 1) := by decide +kernel
theorem dX12_init_10 : decode cX12_init 10 = .ok (.iconst 0, 1) := by decide +kernel
theorem dX12_init_11 : decode cX12_init 11 = .ok (.ldc 11, 2) := by decide +kernel
theorem dX12_init_13 : decode cX12_init 13 = .ok (.aastore, 1) := by decide +kernel
theorem dX12_init_14 : decode cX12_init 14 = .ok (.dup, 1) := by decide +kernel
theorem dX12_init_15 : decode cX12_init 15 = .ok (.iconst 1, 1) := by decide +kernel
theorem dX12_init_16 : decode cX12_init 16 = .ok (.ldc 13, 2) := by decide +kernel
theorem dX12_init_18 : decode cX12_init 18 = .ok (.aastore, 1) := by decide +kernel
theorem dX12_init_19 : decode cX12_init 19 = .ok (.putfield 15, 3) := by decide +kernel
theorem dX12_init_22 : decode cX12_init 22 = .ok (.aload_n 0, 1) := by decide +kernel
theorem dX12_init_23 : decode cX12_init 23 = .ok (.iconst 2, 1) := by decide +kernel
theorem dX12_init_24 : decode cX12_init 24 = .ok (.anewarray 9, 3) := by decide +kernel
theorem dX12_init_27 : decode cX12_init 27 = .ok (.dup, 1) := by decide +kernel
theorem dX12_init_28 : decode cX12_init 28 = .ok (.iconst 0, 1) := by decide +kernel
theorem dX12_init_29 : decode cX12_init 29 = .ok (.ldc 19, 2) := by decide +kernel
theorem dX12_init_31 : decode cX12_init 31 = .ok (.aastore, 1) := by decide +kernel
theorem dX12_init_32 : decode cX12_init 32 = .ok (.dup, 1) := by decide +kernel
theorem dX12_init_33 : decode cX12_init 33 = .ok (.iconst 1, 1) := by decide +kernel
theorem dX12_init_34 : decode cX12_init 34 = .ok (.ldc 21, 2) := by decide +kernel
theorem dX12_init_36 : decode cX12_init 36 = .ok (.aastore, 1) := by decide +kernel
theorem dX12_init_37 : decode cX12_init 37 = .ok (.putfield 23, 3) := by decide +kernel
theorem dX12_init_40 : decode cX12_init 40 = .ok (.aload_n 0, 1) := by decide +kernel
theorem dX12_init_41 : decode cX12_init 41 = .ok (.bipush 6, 2) := by decide +kernel
theorem dX12_init_43 : decode cX12_init 43 = .ok (.anewarray 9, 3) := by decide +kernel
theorem dX12_init_46 : decode cX12_init 46 = .ok (.dup, 1) := by decide +kernel
theorem dX12_init_47 : decode cX12_init 47 = .ok (.iconst 0, 1) := by decide +kernel
theorem dX12_init_48 : decode cX12_init 48 = .ok (.ldc 26, 2) := by decide +kernel
theorem dX12_init_50 : decode cX12_init 50 = .ok (.aastore, 1) := by decide +kernel
theorem dX12_init_51 : decode cX12_init 51 = .ok (.dup, 1) := by decide +kernel
theorem dX12_init_52 : decode cX12_init 52 = .ok (.iconst 1, 1) := by decide +kernel
theorem dX12_init_53 : decode cX12_init 53 = .ok (.ldc 28, 2) := by decide +kernel
theorem dX12_init_55 : decode cX12_init 55 = .ok (.aastore, 1) := by decide +kernel
theorem dX12_init_56 : decode cX12_init 56 = .ok (.dup, 1) := by decide +kernel
theorem dX12_init_57 : decode cX12_init 57 = .ok (.iconst 2, 1) := by decide +kernel
theorem dX12_init_58 : decode cX12_init 58 = .ok (.ldc 30, 2) := by decide +kernel
theorem dX12_init_60 : decode cX12_init 60 = .ok (.aastore, 1) := by decide +kernel
theorem dX12_init_61 : decode cX12_init 61 = .ok (.dup, 1) := by decide +kernel
theorem dX12_init_62 : decode cX12_init 62 = .ok (.iconst 3, 1) := by decide +kernel
theorem dX12_init_63 : decode cX12_init 63 = .ok (.ldc 32, 2) := by decide +kernel
theorem dX12_init_65 : decode cX12_init 65 = .ok (.aastore, 1) := by decide +kernel
theorem dX12_init_66 : decode cX12_init 66 = .ok (.dup, 1) := by decide +kernel
theorem dX12_init_67 : decode cX12_init 67 = .ok (.iconst 4, 1) := by decide +kernel
theorem dX12_init_68 : decode cX12_init 68 = .ok (.ldc 34, 2) := by decide +kernel
theorem dX12_init_70 : decode cX12_init 70 = .ok (.aastore, 1) := by decide +kernel
theorem dX12_init_71 : decode cX12_init 71 = .ok (.dup, 1) := by decide +kernel
theorem dX12_init_72 : decode cX12_init 72 = .ok (.iconst 5, 1) := by decide +kernel
theorem dX12_init_73 : decode cX12_init 73 = .ok (.ldc 36, 2) := by decide +kernel
theorem dX12_init_75 : decode cX12_init 75 = .ok (.aastore, 1) := by decide +kernel
theorem dX12_init_76 : decode cX12_init 76 = .ok (.putfield 38, 3) := by decide +kernel
theorem dX12_init_79 : decode cX12_init 79 = .ok (.aload_n 0, 1) := by decide +kernel
theorem dX12_init_80 : decode cX12_init 80 = .ok (.bipush 8, 2) := by decide +kernel
theorem dX12_init_82 : decode cX12_init 82 = .ok (.newarray .int, 2) := by decide +kernel
theorem dX12_init_84 : decode cX12_init 84 = .ok (.putfield 41, 3) := by decide +kernel
theorem dX12_init_87 : decode cX12_init 87 = .ok (.aload_n 0, 1) := by decide +kernel
theorem dX12_init_88 : decode cX12_init 88 = .ok (.bipush 12, 2) := by decide +kernel
theorem dX12_init_90 : decode cX12_init 90 = .ok (.newarray .int, 2) := by decide +kernel
theorem dX12_init_92 : decode cX12_init 92 = .ok (.putfield 45, 3) := by decide +kernel
theorem dX12_init_95 : decode cX12_init 95 = .ok (.aload_n 0, 1) := by decide +kernel
theorem dX12_init_96 : decode cX12_init 96 = .ok (.bipush 12, 2) := by decide +kernel
theorem dX12_init_98 : decode cX12_init 98 = .ok (.newarray .int, 2) := by decide +kernel
theorem dX12_init_100 : decode cX12_init 100 = .ok (.putfield 47, 3) := by decide +kernel
theorem dX12_init_103 : decode cX12_init 103 = .ok (.aload_n 0, 1) := by decide +kernel
theorem dX12_init_104 : decode cX12_init 104 = .ok (.bipush 96, 2) := by decide +kernel
theorem dX12_init_106 : decode cX12_init 106 = .ok (.newarray .int, 2) := by decide +kernel
theorem dX12_init_108 : decode cX12_init 108 = .ok (.putfield 50, 3) := by decide +kernel
theorem dX12_init_111 : decode cX12_init 111 = .ok (.aload_n 0, 1) := by decide +kernel
theorem dX12_init_112 : decode cX12_init 112 = .ok (.bipush 14, 2) := by decide +kernel
theorem dX12_init_114 : decode cX12_init 114 = .ok (.newarray .int, 2) := by decide +kernel
theorem dX12_init_116 : decode cX12_init 116 = .ok (.putfield 52, 3) := by decide +kernel
theorem dX12_init_119 : decode cX12_init 119 = .ok (.aload_n 0, 1) := by decide +kernel
theorem dX12_init_120 : decode cX12_init 120 = .ok (.bipush 14, 2) := by decide +kernel
theorem dX12_init_122 : decode cX12_init 122 = .ok (.newarray .int, 2) := by decide +kernel
theorem dX12_init_124 : decode cX12_init 124 = .ok (.putfield 54, 3) := by decide +kernel
theorem dX12_init_127 : decode cX12_init 127 = .ok (.aload_n 0, 1) := by decide +kernel
theorem dX12_init_128 : decode cX12_init 128 = .ok (.bipush 14, 2) := by decide +kernel
theorem dX12_init_130 : decode cX12_init 130 = .ok (.newarray .int, 2) := by decide +kernel
theorem dX12_init_132 : decode cX12_init 132 = .ok (.putfield 57, 3) := by decide +kernel
theorem dX12_init_135 : decode cX12_init 135 = .ok (.aload_n 0, 1) := by decide +kernel
theorem dX12_init_136 : decode cX12_init 136 = .ok (.bipush 14, 2) := by decide +kernel
theorem dX12_init_138 : decode cX12_init 138 = .ok (.newarray .int, 2) := by decide +kernel
theorem dX12_init_140 : decode cX12_init 140 = .ok (.putfield 60, 3) := by decide +kernel
theorem dX12_init_143 : decode cX12_init 143 = .ok (.aload_n 0, 1) := by decide +kernel
theorem dX12_init_144 : decode cX12_init 144 = .ok (.sipush 1400, 3) := by decide +kernel
theorem dX12_init_147 : decode cX12_init 147 = .ok (.newarray .int, 2) := by decide +kernel
theorem dX12_init_149 : decode cX12_init 149 = .ok (.putfield 63, 3) := by decide +kernel
theorem dX12_init_152 : decode cX12_init 152 = .ok (.aload_n 0, 1) := by decide +kernel
theorem dX12_init_153 : decode cX12_init 153 = .ok (.iconst 3, 1) := by decide +kernel
theorem dX12_init_154 : decode cX12_init 154 = .ok (.newarray .int, 2) := by decide +kernel
theorem dX12_init_156 : decode cX12_init 156 = .ok (.putfield 66, 3) := by decide +kernel
theorem dX12_init_159 : decode cX12_init 159 = .ok (.aload_n 0, 1) := by decide +kernel
theorem dX12_init_160 : decode cX12_init 160 = .ok (.sipush 700, 3) := by decide +kernel
theorem dX12_init_163 : decode cX12_init 163 = .ok (.newarray .int, 2) := by decide +kernel
theorem dX12_init_165 : decode cX12_init 165 = .ok (.putfield 69, 3) := by decide +kernel
theorem dX12_init_168 : decode cX12_init 168 = .ok (.aload_n 0, 1) := by decide +kernel
theorem dX12_init_169 : decode cX12_init 169 = .ok (.iconst (-1), 1) := by decide +kernel
theorem dX12_init_170 : decode cX12_init 170 = .ok (.putfield 72, 3) := by decide +kernel
theorem dX12_init_173 : decode cX12_init 173 = .ok (.aload_n 0, 1) := by decide +kernel
theorem dX12_init_174 : decode cX12_init 174 = .ok (.bipush 7, 2) := by decide +kernel
theorem dX12_init_176 : decode cX12_init 176 = .ok (.newarray .int, 2) := by decide +kernel
theorem dX12_init_178 : decode cX12_init 178 = .ok (.putfield 76, 3) := by decide +kernel
theorem dX12_init_181 : decode cX12_init 181 = .ok (.aload_n 0, 1) := by decide +kernel
theorem dX12_init_182 : decode cX12_init 182 = .ok (.bipush 7, 2) := by decide +kernel
theorem dX12_init_184 : decode cX12_init 184 = .ok (.newarray .int, 2) := by decide +kernel
theorem dX12_init_186 : decode cX12_init 186 = .ok (.putfield 79, 3) := by decide +kernel
theorem dX12_init_189 : decode cX12_init 189 = .ok (.aload_n 0, 1) := by decide +kernel
theorem dX12_init_190 : decode cX12_init 190 = .ok (.bipush 7, 2) := by decide +kernel
theorem dX12_init_192 : decode cX12_init 192 = .ok (.newarray .int, 2) := by decide +kernel
theorem dX12_init_194 : decode cX12_init 194 = .ok (.putfield 82, 3) := by decide +kernel
theorem dX12_init_197 : decode cX12_init 197 = .ok (.aload_n 0, 1) := by decide +kernel
theorem dX12_init_198 : decode cX12_init 198 = .ok (.bipush 7, 2) := by decide +kernel
theorem dX12_init_200 : decode cX12_init 200 = .ok (.newarray .int, 2) := by decide +kernel
theorem dX12_init_202 : decode cX12_init 202 = .ok (.putfield 85, 3) := by decide +kernel
theorem dX12_init_205 : decode cX12_init 205 = .ok (.aload_n 0, 1) := by decide +kernel
theorem dX12_init_206 : decode cX12_init 206 = .ok (.bipush 7, 2) := by decide +kernel
theorem dX12_init_208 : decode cX12_init 208 = .ok (.newarray .int, 2) := by decide +kernel
theorem dX12_init_210 : decode cX12_init 210 = .ok (.putfield 87, 3) := by decide +kernel
theorem dX12_init_213 : decode cX12_init 213 = .ok (.aload_n 0, 1) := by decide +kernel
theorem dX12_init_214 : decode cX12_init 214 = .ok (.sipush 1480, 3) := by decide +kernel
theorem dX12_init_217 : decode cX12_init 217 = .ok (.newarray .int, 2) := by decide +kernel
theorem dX12_init_219 : decode cX12_init 219 = .ok (.putfield 89, 3) := by decide +kernel
theorem dX12_init_222 : decode cX12_init 222 = .ok (.aload_n 0, 1) := by decide +kernel
theorem dX12_init_223 : decode cX12_init 223 = .ok (.bipush 6, 2) := by decide +kernel
theorem dX12_init_225 : decode cX12_init 225 = .ok (.newarray .int, 2) := by decide +kernel
theorem dX12_init_227 : decode cX12_init 227 = .ok (.putfield 92, 3) := by decide +kernel
theorem dX12_init_230 : decode cX12_init 230 = .ok (.aload_n 0, 1) := by decide +kernel
theorem dX12_init_231 : decode cX12_init 231 = .ok (.bipush 64, 2) := by decide +kernel
theorem dX12_init_233 : decode cX12_init 233 = .ok (.newarray .int, 2) := by decide +kernel
theorem dX12_init_235 : decode cX12_init 235 = .ok (.putfield 95, 3) := by decide +kernel
theorem dX12_init_238 : decode cX12_init 238 = .ok (.aload_n 0, 1) := by decide +kernel
theorem dX12_init_239 : decode cX12_init 239 = .ok (.bipush 37, 2) := by decide +kernel
theorem dX12_init_241 : decode cX12_init 241 = .ok (.newarray .int, 2) := by decide +kernel
theorem dX12_init_243 : decode cX12_init 243 = .ok (.putfield 98, 3) := by decide +kernel
theorem dX12_init_246 : decode cX12_init 246 = .ok (.aload_n 0, 1) := by decide +kernel
theorem dX12_init_247 : decode cX12_init 247 = .ok (.bipush 37, 2) := by decide +kernel
theorem dX12_init_249 : decode cX12_init 249 = .ok (.newarray .int, 2) := by decide +kernel
theorem dX12_init_251 : decode cX12_init 251 = .ok (.putfield 101, 3) := by decide +kernel
theorem dX12_init_254 : decode cX12_init 254 = .ok (.aload_n 0, 1) := by decide +kernel
theorem dX12_init_255 : decode cX12_init 255 = .ok (.sipush 512, 3) := by decide +kernel
theorem dX12_init_258 : decode cX12_init 258 = .ok (.newarray .int, 2) := by decide +kernel
theorem dX12_init_260 : decode cX12_init 260 = .ok (.putfield 104, 3) := by decide +kernel
theorem dX12_init_263 : decode cX12_init 263 = .ok (.aload_n 0, 1) := by decide +kernel
theorem dX12_init_264 : decode cX12_init 264 = .ok (.bipush 81, 2) := by decide +kernel
theorem dX12_init_266 : decode cX12_init 266 = .ok (.newarray .int, 2) := by decide +kernel
theorem dX12_init_268 : decode cX12_init 268 = .ok (.putfield 107, 3) := by decide +kernel
theorem dX12_init_271 : decode cX12_init 271 = .ok (.aload_n 0, 1) := by decide +kernel
theorem dX12_init_272 : decode cX12_init 272 = .ok (.bipush 8, 2) := by decide +kernel
theorem dX12_init_274 : decode cX12_init 274 = .ok (.newarray .int, 2) := by decide +kernel
theorem dX12_init_276 : decode cX12_init 276 = .ok (.putfield 110, 3) := by decide +kernel
theorem dX12_init_279 : decode cX12_init 279 = .ok (.aload_n 0, 1) := by decide +kernel
theorem dX12_init_280 : decode cX12_init 280 = .ok (.bipush 8, 2) := by decide +kernel
theorem dX12_init_282 : decode cX12_init 282 = .ok (.newarray .int, 2) := by decide +kernel
theorem dX12_init_284 : decode cX12_init 284 = .ok (.putfield 113, 3) := by decide +kernel
theorem dX12_init_287 : decode cX12_init 287 = .ok (.aload_n 0, 1) := by decide +kernel
theorem dX12_init_288 : decode cX12_init 288 = .ok (.bipush 8, 2) := by decide +kernel
theorem dX12_init_290 : decode cX12_init 290 = .ok (.newarray .int, 2) := by decide +kernel
theorem dX12_init_292 : decode cX12_init 292 = .ok (.putfield 116, 3) := by decide +kernel
theorem dX12_init_295 : decode cX12_init 295 = .ok (.aload_n 0, 1) := by decide +kernel
theorem dX12_init_296 : decode cX12_init 296 = .ok (.bipush 37, 2) := by decide +kernel
theorem dX12_init_298 : decode cX12_init 298 = .ok (.newarray .int, 2) := by decide +kernel
theorem dX12_init_300 : decode cX12_init 300 = .ok (.putfield 119, 3) := by decide +kernel
theorem dX12_init_303 : decode cX12_init 303 = .ok (.aload_n 0, 1) := by decide +kernel
theorem dX12_init_304 : decode cX12_init 304 = .ok (.sipush 140, 3) := by decide +kernel
theorem dX12_init_307 : decode cX12_init 307 = .ok (.newarray .int, 2) := by decide +kernel
theorem dX12_init_309 : decode cX12_init 309 = .ok (.putfield 122, 3) := by decide +kernel
theorem dX12_init_312 : decode cX12_init 312 = .ok (.aload_n 0, 1) := by decide +kernel
theorem dX12_init_313 : decode cX12_init 313 = .ok (.sipush 980, 3) := by decide +kernel
theorem dX12_init_316 : decode cX12_init 316 = .ok (.newarray .int, 2) := by decide +kernel
theorem dX12_init_318 : decode cX12_init 318 = .ok (.putfield 125, 3) := by decide +kernel
theorem dX12_init_321 : decode cX12_init 321 = .ok (.aload_n 0, 1) := by decide +kernel
theorem dX12_init_322 : decode cX12_init 322 = .ok (.bipush 8, 2) := by decide +kernel
theorem dX12_init_324 : decode cX12_init 324 = .ok (.newarray .int, 2) := by decide +kernel
theorem dX12_init_326 : decode cX12_init 326 = .ok (.putfield 128, 3) := by decide +kernel
theorem dX12_init_329 : decode cX12_init 329 = .ok (.aload_n 0, 1) := by decide +kernel
theorem dX12_init_330 : decode cX12_init 330 = .ok (.bipush 37, 2) := by decide +kernel
theorem dX12_init_332 : decode cX12_init 332 = .ok (.newarray .int, 2) := by decide +kernel
theorem dX12_init_334 : decode cX12_init 334 = .ok (.putfield 131, 3) := by decide +kernel
theorem dX12_init_337 : decode cX12_init 337 = .ok (.aload_n 0, 1) := by decide +kernel
theorem dX12_init_338 : decode cX12_init 338 = .ok (.sipush 1480, 3) := by decide +kernel
theorem dX12_init_341 : decode cX12_init 341 = .ok (.newarray .int, 2) := by decide +kernel
theorem dX12_init_343 : decode cX12_init 343 = .ok (.putfield 134, 3) := by decide +kernel
theorem dX12_init_346 : decode cX12_init 346 = .ok (.aload_n 0, 1) := by decide +kernel
theorem dX12_init_347 : decode cX12_init 347 = .ok (.bipush 8, 2) := by decide +kernel
theorem dX12_init_349 : decode cX12_init 349 = .ok (.newarray .int, 2) := by decide +kernel
theorem dX12_init_351 : decode cX12_init 351 = .ok (.putfield 137, 3) := by decide +kernel
theorem dX12_init_354 : decode cX12_init 354 = .ok (.aload_n 0, 1) := by decide +kernel
theorem dX12_init_355 : decode cX12_init 355 = .ok (.bipush 8, 2) := by decide +kernel
theorem dX12_init_357 : decode cX12_init 357 = .ok (.newarray .int, 2) := by decide +kernel
theorem dX12_init_359 : decode cX12_init 359 = .ok (.putfield 140, 3) := by decide +kernel
theorem dX12_init_362 : decode cX12_init 362 = .ok (.aload_n 0, 1) := by decide +kernel
theorem dX12_init_363 : decode cX12_init 363 = .ok (.bipush 8, 2) := by decide +kernel
theorem dX12_init_365 : decode cX12_init 365 = .ok (.newarray .int, 2) := by decide +kernel
theorem dX12_init_367 : decode cX12_init 367 = .ok (.putfield 143, 3) := by decide +kernel
theorem dX12_init_370 : decode cX12_init 370 = .ok (.aload_n 0, 1) := by decide +kernel
theorem dX12_init_371 : decode cX12_init 371 = .ok (.iconst 3, 1) := by decide +kernel
theorem dX12_init_372 : decode cX12_init 372 = .ok (.newarray .int, 2) := by decide +kernel
theorem dX12_init_374 : decode cX12_init 374 = .ok (.putfield 146, 3) := by decide +kernel
theorem dX12_init_377 : decode cX12_init 377 = .ok (.aload_n 0, 1) := by decide +kernel
theorem dX12_init_378 : decode cX12_init 378 = .ok (.getfield 41, 3) := by decide +kernel
theorem dX12_init_381 : decode cX12_init 381 = .ok (.iconst 2, 1) := by decide +kernel
theorem dX12_init_382 : decode cX12_init 382 = .ok (.iconst 2, 1) := by decide +kernel
theorem dX12_init_383 : decode cX12_init 383 = .ok (.iastore, 1) := by decide +kernel
theorem dX12_init_384 : decode cX12_init 384 = .ok (.aload_n 0, 1) := by decide +kernel
theorem dX12_init_385 : decode cX12_init 385 = .ok (.iconst 2, 1) := by decide +kernel
theorem dX12_init_386 : decode cX12_init 386 = .ok (.putfield 149, 3) := by decide +kernel
theorem dX12_init_389 : decode cX12_init 389 = .ok (.return_, 1) := by decide +kernel
theorem dX12_thrown_0 : decode cX12_thrown 0 = .ok (.aload_n 0, 1) := by decide +kernel
theorem dX12_thrown_1 : decode cX12_thrown 1 = .ok (.getfield 152, 3) := by decide +kernel
theorem dX12_thrown_4 : decode cX12_thrown 4 = .ok (.ireturn, 1) := by decide +kernel
theorem dX12_fail_0 : decode cX12_fail 0 = .ok (.aload_n 0, 1) := by decide +kernel
theorem dX12_fail_1 : decode cX12_fail 1 = .ok (.iload_n 1, 1) := by decide +kernel
theorem dX12_fail_2 : decode cX12_fail 2 = .ok (.putfield 152, 3) := by decide +kernel
theorem dX12_fail_5 : decode cX12_fail 5 = .ok (.iconst 0, 1) := by decide +kernel
theorem dX12_fail_6 : decode cX12_fail 6 = .ok (.ireturn, 1) := by decide +kernel
theorem dX12_isIn_0 : decode cX12_isIn 0 = .ok (.lload_n 0, 1) := by decide +kernel
theorem dX12_isIn_1 : decode cX12_isIn 1 = .ok (.lload_n 2, 1) := by decide +kernel
theorem dX12_isIn_2 : decode cX12_isIn 2 = .ok (.lcmp, 1) := by decide +kernel
theorem dX12_isIn_3 : decode cX12_isIn 3 = .ok (.ifCond .lt 14, 3) := by decide +kernel
theorem dX12_isIn_6 : decode cX12_isIn 6 = .ok (.lload_n 0, 1) := by decide +kernel
theorem dX12_isIn_7 : decode cX12_isIn 7 = .ok (.lload 4, 2) := by decide +kernel
theorem dX12_isIn_9 : decode cX12_isIn 9 = .ok (.lcmp, 1) := by decide +kernel
theorem dX12_isIn_10 : decode cX12_isIn 10 = .ok (.ifCond .gt 7, 3) := by decide +kernel
theorem dX12_isIn_13 : decode cX12_isIn 13 = .ok (.iconst 1, 1) := by decide +kernel
theorem dX12_isIn_14 : decode cX12_isIn 14 = .ok (.goto 4, 3) := by decide +kernel
theorem dX12_isIn_17 : decode cX12_isIn 17 = .ok (.iconst 0, 1) := by decide +kernel
theorem dX12_isIn_18 : decode cX12_isIn 18 = .ok (.ireturn, 1) := by decide +kernel
theorem dX12_isOf_0 : decode cX12_isOf 0 = .ok (.iload_n 0, 1) := by decide +kernel
theorem dX12_isOf_1 : decode cX12_isOf 1 = .ok (.iload_n 1, 1) := by decide +kernel
theorem dX12_isOf_2 : decode cX12_isOf 2 = .ok (.ishr, 1) := by decide +kernel
theorem dX12_isOf_3 : decode cX12_isOf 3 = .ok (.iconst 1, 1) := by decide +kernel
theorem dX12_isOf_4 : decode cX12_isOf 4 = .ok (.iand, 1) := by decide +kernel
theorem dX12_isOf_5 : decode cX12_isOf 5 = .ok (.iconst 1, 1) := by decide +kernel
theorem dX12_isOf_6 : decode cX12_isOf 6 = .ok (.if_icmp .ne 7, 3) := by decide +kernel
theorem dX12_isOf_9 : decode cX12_isOf 9 = .ok (.iconst 1, 1) := by decide +kernel
theorem dX12_isOf_10 : decode cX12_isOf 10 = .ok (.goto 4, 3) := by decide +kernel
theorem dX12_isOf_13 : decode cX12_isOf 13 = .ok (.iconst 0, 1) := by decide +kernel
theorem dX12_isOf_14 : decode cX12_isOf 14 = .ok (.ireturn, 1) := by decide +kernel
theorem dX12_bitsOf_0 : decode cX12_bitsOf 0 = .ok (.iconst 0, 1) := by decide +kernel
theorem dX12_bitsOf_1 : decode cX12_bitsOf 1 = .ok (.istore_n 1, 1) := by decide +kernel
theorem dX12_bitsOf_2 : decode cX12_bitsOf 2 = .ok (.iload_n 0, 1) := by decide +kernel
theorem dX12_bitsOf_3 : decode cX12_bitsOf 3 = .ok (.istore_n 2, 1) := by decide +kernel
theorem dX12_bitsOf_4 : decode cX12_bitsOf 4 = .ok (.iload_n 2, 1) := by decide +kernel
theorem dX12_bitsOf_5 : decode cX12_bitsOf 5 = .ok (.ifCond .eq 15, 3) := by decide +kernel
theorem dX12_bitsOf_8 : decode cX12_bitsOf 8 = .ok (.iinc 1 1, 3) := by decide +kernel
theorem dX12_bitsOf_11 : decode cX12_bitsOf 11 = .ok (.iload_n 2, 1) := by decide +kernel
theorem dX12_bitsOf_12 : decode cX12_bitsOf 12 = .ok (.iload_n 2, 1) := by decide +kernel
theorem dX12_bitsOf_13 : decode cX12_bitsOf 13 = .ok (.iconst 1, 1) := by decide +kernel
theorem dX12_bitsOf_14 : decode cX12_bitsOf 14 = .ok (.isub, 1) := by decide +kernel
theorem dX12_bitsOf_15 : decode cX12_bitsOf 15 = .ok (.iand, 1) := by decide +kernel
theorem dX12_bitsOf_16 : decode cX12_bitsOf 16 = .ok (.istore_n 2, 1) := by decide +kernel
theorem dX12_bitsOf_17 : decode cX12_bitsOf 17 = .ok (.goto (-13), 3) := by decide +kernel
theorem dX12_bitsOf_20 : decode cX12_bitsOf 20 = .ok (.iload_n 1, 1) := by decide +kernel
theorem dX12_bitsOf_21 : decode cX12_bitsOf 21 = .ok (.ireturn, 1) := by decide +kernel
theorem dX12_isPiece_0 : decode cX12_isPiece 0 = .ok (.iload_n 1, 1) := by decide +kernel
theorem dX12_isPiece_1 : decode cX12_isPiece 1 = .ok (.i2l, 1) := by decide +kernel
theorem dX12_isPiece_2 : decode cX12_isPiece 2 = .ok (.lconst 0, 1) := by decide +kernel
theorem dX12_isPiece_3 : decode cX12_isPiece 3 = .ok (.aload_n 0, 1) := by decide +kernel
theorem dX12_isPiece_4 : decode cX12_isPiece 4 = .ok (.getfield 41, 3) := by decide +kernel
theorem dX12_isPiece_7 : decode cX12_isPiece 7 = .ok (.iconst 0, 1) := by decide +kernel
theorem dX12_isPiece_8 : decode cX12_isPiece 8 = .ok (.iaload, 1) := by decide +kernel
theorem dX12_isPiece_9 : decode cX12_isPiece 9 = .ok (.iconst 1, 1) := by decide +kernel
theorem dX12_isPiece_10 : decode cX12_isPiece 10 = .ok (.isub, 1) := by decide +kernel
theorem dX12_isPiece_11 : decode cX12_isPiece 11 = .ok (.i2l, 1) := by decide +kernel
theorem dX12_isPiece_12 : decode cX12_isPiece 12 = .ok (.invokestatic 155, 3) := by decide +kernel
theorem dX12_isPiece_15 : decode cX12_isPiece 15 = .ok (.ireturn, 1) := by decide +kernel
theorem dX12_isPupil_0 : decode cX12_isPupil 0 = .ok (.iload_n 1, 1) := by decide +kernel
theorem dX12_isPupil_1 : decode cX12_isPupil 1 = .ok (.i2l, 1) := by decide +kernel
theorem dX12_isPupil_2 : decode cX12_isPupil 2 = .ok (.lconst 0, 1) := by decide +kernel
theorem dX12_isPupil_3 : decode cX12_isPupil 3 = .ok (.aload_n 0, 1) := by decide +kernel
theorem dX12_isPupil_4 : decode cX12_isPupil 4 = .ok (.getfield 41, 3) := by decide +kernel
theorem dX12_isPupil_7 : decode cX12_isPupil 7 = .ok (.iconst 1, 1) := by decide +kernel
theorem dX12_isPupil_8 : decode cX12_isPupil 8 = .ok (.iaload, 1) := by decide +kernel
theorem dX12_isPupil_9 : decode cX12_isPupil 9 = .ok (.iconst 1, 1) := by decide +kernel
theorem dX12_isPupil_10 : decode cX12_isPupil 10 = .ok (.isub, 1) := by decide +kernel
theorem dX12_isPupil_11 : decode cX12_isPupil 11 = .ok (.i2l, 1) := by decide +kernel
theorem dX12_isPupil_12 : decode cX12_isPupil 12 = .ok (.invokestatic 155, 3) := by decide +kernel
theorem dX12_isPupil_15 : decode cX12_isPupil 15 = .ok (.ireturn, 1) := by decide +kernel
theorem dX12_feed_0 : decode cX12_feed 0 = .ok (.aload_n 0, 1) := by decide +kernel
theorem dX12_feed_1 : decode cX12_feed 1 = .ok (.iconst 0, 1) := by decide +kernel
theorem dX12_feed_2 : decode cX12_feed 2 = .ok (.putfield 152, 3) := by decide +kernel
theorem dX12_feed_5 : decode cX12_feed 5 = .ok (.aload_n 0, 1) := by decide +kernel
theorem dX12_feed_6 : decode cX12_feed 6 = .ok (.getfield 159, 3) := by decide +kernel
theorem dX12_feed_9 : decode cX12_feed 9 = .ok (.bipush 20, 2) := by decide +kernel
theorem dX12_feed_11 : decode cX12_feed 11 = .ok (.iadd, 1) := by decide +kernel
theorem dX12_feed_12 : decode cX12_feed 12 = .ok (.sipush 700, 3) := by decide +kernel
theorem dX12_feed_15 : decode cX12_feed 15 = .ok (.if_icmp .le 5, 3) := by decide +kernel
theorem dX12_feed_18 : decode cX12_feed 18 = .ok (.iconst (-1), 1) := by decide +kernel
theorem dX12_feed_19 : decode cX12_feed 19 = .ok (.ireturn, 1) := by decide +kernel
theorem dX12_feed_20 : decode cX12_feed 20 = .ok (.iconst 0, 1) := by decide +kernel
theorem dX12_feed_21 : decode cX12_feed 21 = .ok (.istore 6, 2) := by decide +kernel
theorem dX12_feed_23 : decode cX12_feed 23 = .ok (.iload 6, 2) := by decide +kernel
theorem dX12_feed_25 : decode cX12_feed 25 = .ok (.bipush 20, 2) := by decide +kernel
theorem dX12_feed_27 : decode cX12_feed 27 = .ok (.if_icmp .ge 93, 3) := by decide +kernel
theorem dX12_feed_30 : decode cX12_feed 30 = .ok (.iload 6, 2) := by decide +kernel
theorem dX12_feed_32 : decode cX12_feed 32 = .ok (.iconst 4, 1) := by decide +kernel
theorem dX12_feed_33 : decode cX12_feed 33 = .ok (.if_icmp .ge 7, 3) := by decide +kernel
theorem dX12_feed_36 : decode cX12_feed 36 = .ok (.iload_n 1, 1) := by decide +kernel
theorem dX12_feed_37 : decode cX12_feed 37 = .ok (.goto 39, 3) := by decide +kernel
theorem dX12_feed_40 : decode cX12_feed 40 = .ok (.iload 6, 2) := by decide +kernel
theorem dX12_feed_42 : decode cX12_feed 42 = .ok (.bipush 8, 2) := by decide +kernel
theorem dX12_feed_44 : decode cX12_feed 44 = .ok (.if_icmp .ge 7, 3) := by decide +kernel
theorem dX12_feed_47 : decode cX12_feed 47 = .ok (.iload_n 2, 1) := by decide +kernel
theorem dX12_feed_48 : decode cX12_feed 48 = .ok (.goto 28, 3) := by decide +kernel
theorem dX12_feed_51 : decode cX12_feed 51 = .ok (.iload 6, 2) := by decide +kernel
theorem dX12_feed_53 : decode cX12_feed 53 = .ok (.bipush 12, 2) := by decide +kernel
theorem dX12_feed_55 : decode cX12_feed 55 = .ok (.if_icmp .ge 7, 3) := by decide +kernel
theorem dX12_feed_58 : decode cX12_feed 58 = .ok (.iload_n 3, 1) := by decide +kernel
theorem dX12_feed_59 : decode cX12_feed 59 = .ok (.goto 17, 3) := by decide +kernel
theorem dX12_feed_62 : decode cX12_feed 62 = .ok (.iload 6, 2) := by decide +kernel
theorem dX12_feed_64 : decode cX12_feed 64 = .ok (.bipush 16, 2) := by decide +kernel
theorem dX12_feed_66 : decode cX12_feed 66 = .ok (.if_icmp .ge 8, 3) := by decide +kernel
theorem dX12_feed_69 : decode cX12_feed 69 = .ok (.iload 4, 2) := by decide +kernel
theorem dX12_feed_71 : decode cX12_feed 71 = .ok (.goto 5, 3) := by decide +kernel
theorem dX12_feed_74 : decode cX12_feed 74 = .ok (.iload 5, 2) := by decide +kernel
theorem dX12_feed_76 : decode cX12_feed 76 = .ok (.istore 7, 2) := by decide +kernel
theorem dX12_feed_78 : decode cX12_feed 78 = .ok (.aload_n 0, 1) := by decide +kernel
theorem dX12_feed_79 : decode cX12_feed 79 = .ok (.getfield 69, 3) := by decide +kernel
theorem dX12_feed_82 : decode cX12_feed 82 = .ok (.aload_n 0, 1) := by decide +kernel
theorem dX12_feed_83 : decode cX12_feed 83 = .ok (.getfield 159, 3) := by decide +kernel
theorem dX12_feed_86 : decode cX12_feed 86 = .ok (.iload 7, 2) := by decide +kernel
theorem dX12_feed_88 : decode cX12_feed 88 = .ok (.bipush 24, 2) := by decide +kernel
theorem dX12_feed_90 : decode cX12_feed 90 = .ok (.bipush 8, 2) := by decide +kernel
theorem dX12_feed_92 : decode cX12_feed 92 = .ok (.iload 6, 2) := by decide +kernel
theorem dX12_feed_94 : decode cX12_feed 94 = .ok (.iconst 4, 1) := by decide +kernel
theorem dX12_feed_95 : decode cX12_feed 95 = .ok (.irem, 1) := by decide +kernel
theorem dX12_feed_96 : decode cX12_feed 96 = .ok (.imul, 1) := by decide +kernel
theorem dX12_feed_97 : decode cX12_feed 97 = .ok (.isub, 1) := by decide +kernel
theorem dX12_feed_98 : decode cX12_feed 98 = .ok (.ishr, 1) := by decide +kernel
theorem dX12_feed_99 : decode cX12_feed 99 = .ok (.sipush 255, 3) := by decide +kernel
theorem dX12_feed_102 : decode cX12_feed 102 = .ok (.iand, 1) := by decide +kernel
theorem dX12_feed_103 : decode cX12_feed 103 = .ok (.iastore, 1) := by decide +kernel
theorem dX12_feed_104 : decode cX12_feed 104 = .ok (.aload_n 0, 1) := by decide +kernel
theorem dX12_feed_105 : decode cX12_feed 105 = .ok (.dup, 1) := by decide +kernel
theorem dX12_feed_106 : decode cX12_feed 106 = .ok (.getfield 159, 3) := by decide +kernel
theorem dX12_feed_109 : decode cX12_feed 109 = .ok (.iconst 1, 1) := by decide +kernel
theorem dX12_feed_110 : decode cX12_feed 110 = .ok (.iadd, 1) := by decide +kernel
theorem dX12_feed_111 : decode cX12_feed 111 = .ok (.putfield 159, 3) := by decide +kernel
theorem dX12_feed_114 : decode cX12_feed 114 = .ok (.iinc 6 1, 3) := by decide +kernel
theorem dX12_feed_117 : decode cX12_feed 117 = .ok (.goto (-94), 3) := by decide +kernel
theorem dX12_feed_120 : decode cX12_feed 120 = .ok (.aload_n 0, 1) := by decide +kernel
theorem dX12_feed_121 : decode cX12_feed 121 = .ok (.getfield 159, 3) := by decide +kernel
theorem dX12_feed_124 : decode cX12_feed 124 = .ok (.ireturn, 1) := by decide +kernel
theorem dX12_byteAt_0 : decode cX12_byteAt 0 = .ok (.iload_n 1, 1) := by decide +kernel
theorem dX12_byteAt_1 : decode cX12_byteAt 1 = .ok (.aload_n 0, 1) := by decide +kernel
theorem dX12_byteAt_2 : decode cX12_byteAt 2 = .ok (.getfield 162, 3) := by decide +kernel
theorem dX12_byteAt_5 : decode cX12_byteAt 5 = .ok (.if_icmp .ge 12, 3) := by decide +kernel
theorem dX12_byteAt_8 : decode cX12_byteAt 8 = .ok (.aload_n 0, 1) := by decide +kernel
theorem dX12_byteAt_9 : decode cX12_byteAt 9 = .ok (.getfield 69, 3) := by decide +kernel
theorem dX12_byteAt_12 : decode cX12_byteAt 12 = .ok (.iload_n 1, 1) := by decide +kernel
theorem dX12_byteAt_13 : decode cX12_byteAt 13 = .ok (.iaload, 1) := by decide +kernel
theorem dX12_byteAt_14 : decode cX12_byteAt 14 = .ok (.goto 4, 3) := by decide +kernel
theorem dX12_byteAt_17 : decode cX12_byteAt 17 = .ok (.iconst (-1), 1) := by decide +kernel
theorem dX12_byteAt_18 : decode cX12_byteAt 18 = .ok (.ireturn, 1) := by decide +kernel
theorem dX12_isLetter_0 : decode cX12_isLetter 0 = .ok (.iload_n 0, 1) := by decide +kernel
theorem dX12_isLetter_1 : decode cX12_isLetter 1 = .ok (.bipush 97, 2) := by decide +kernel
theorem dX12_isLetter_3 : decode cX12_isLetter 3 = .ok (.if_icmp .lt 13, 3) := by decide +kernel
theorem dX12_isLetter_6 : decode cX12_isLetter 6 = .ok (.iload_n 0, 1) := by decide +kernel
theorem dX12_isLetter_7 : decode cX12_isLetter 7 = .ok (.bipush 122, 2) := by decide +kernel
theorem dX12_isLetter_9 : decode cX12_isLetter 9 = .ok (.if_icmp .gt 7, 3) := by decide +kernel
theorem dX12_isLetter_12 : decode cX12_isLetter 12 = .ok (.iconst 1, 1) := by decide +kernel
theorem dX12_isLetter_13 : decode cX12_isLetter 13 = .ok (.goto 4, 3) := by decide +kernel
theorem dX12_isLetter_16 : decode cX12_isLetter 16 = .ok (.iconst 0, 1) := by decide +kernel
theorem dX12_isLetter_17 : decode cX12_isLetter 17 = .ok (.ireturn, 1) := by decide +kernel
theorem dX12_isDigit_0 : decode cX12_isDigit 0 = .ok (.iload_n 0, 1) := by decide +kernel
theorem dX12_isDigit_1 : decode cX12_isDigit 1 = .ok (.bipush 48, 2) := by decide +kernel
theorem dX12_isDigit_3 : decode cX12_isDigit 3 = .ok (.if_icmp .lt 13, 3) := by decide +kernel
theorem dX12_isDigit_6 : decode cX12_isDigit 6 = .ok (.iload_n 0, 1) := by decide +kernel
theorem dX12_isDigit_7 : decode cX12_isDigit 7 = .ok (.bipush 57, 2) := by decide +kernel
theorem dX12_isDigit_9 : decode cX12_isDigit 9 = .ok (.if_icmp .gt 7, 3) := by decide +kernel
theorem dX12_isDigit_12 : decode cX12_isDigit 12 = .ok (.iconst 1, 1) := by decide +kernel
theorem dX12_isDigit_13 : decode cX12_isDigit 13 = .ok (.goto 4, 3) := by decide +kernel
theorem dX12_isDigit_16 : decode cX12_isDigit 16 = .ok (.iconst 0, 1) := by decide +kernel
theorem dX12_isDigit_17 : decode cX12_isDigit 17 = .ok (.ireturn, 1) := by decide +kernel
theorem dX12_isMark_0 : decode cX12_isMark 0 = .ok (.iload_n 0, 1) := by decide +kernel
theorem dX12_isMark_1 : decode cX12_isMark 1 = .ok (.bipush 59, 2) := by decide +kernel
theorem dX12_isMark_3 : decode cX12_isMark 3 = .ok (.if_icmp .eq 51, 3) := by decide +kernel
theorem dX12_isMark_6 : decode cX12_isMark 6 = .ok (.iload_n 0, 1) := by decide +kernel
theorem dX12_isMark_7 : decode cX12_isMark 7 = .ok (.bipush 40, 2) := by decide +kernel
theorem dX12_isMark_9 : decode cX12_isMark 9 = .ok (.if_icmp .eq 45, 3) := by decide +kernel
theorem dX12_isMark_12 : decode cX12_isMark 12 = .ok (.iload_n 0, 1) := by decide +kernel
theorem dX12_isMark_13 : decode cX12_isMark 13 = .ok (.bipush 41, 2) := by decide +kernel
theorem dX12_isMark_15 : decode cX12_isMark 15 = .ok (.if_icmp .eq 39, 3) := by decide +kernel
theorem dX12_isMark_18 : decode cX12_isMark 18 = .ok (.iload_n 0, 1) := by decide +kernel
theorem dX12_isMark_19 : decode cX12_isMark 19 = .ok (.bipush 43, 2) := by decide +kernel
theorem dX12_isMark_21 : decode cX12_isMark 21 = .ok (.if_icmp .eq 33, 3) := by decide +kernel
theorem dX12_isMark_24 : decode cX12_isMark 24 = .ok (.iload_n 0, 1) := by decide +kernel
theorem dX12_isMark_25 : decode cX12_isMark 25 = .ok (.bipush 45, 2) := by decide +kernel
theorem dX12_isMark_27 : decode cX12_isMark 27 = .ok (.if_icmp .eq 27, 3) := by decide +kernel
theorem dX12_isMark_30 : decode cX12_isMark 30 = .ok (.iload_n 0, 1) := by decide +kernel
theorem dX12_isMark_31 : decode cX12_isMark 31 = .ok (.bipush 42, 2) := by decide +kernel
theorem dX12_isMark_33 : decode cX12_isMark 33 = .ok (.if_icmp .eq 21, 3) := by decide +kernel
theorem dX12_isMark_36 : decode cX12_isMark 36 = .ok (.iload_n 0, 1) := by decide +kernel
theorem dX12_isMark_37 : decode cX12_isMark 37 = .ok (.bipush 47, 2) := by decide +kernel
theorem dX12_isMark_39 : decode cX12_isMark 39 = .ok (.if_icmp .eq 15, 3) := by decide +kernel
theorem dX12_isMark_42 : decode cX12_isMark 42 = .ok (.iload_n 0, 1) := by decide +kernel
theorem dX12_isMark_43 : decode cX12_isMark 43 = .ok (.bipush 60, 2) := by decide +kernel
theorem dX12_isMark_45 : decode cX12_isMark 45 = .ok (.if_icmp .eq 9, 3) := by decide +kernel
theorem dX12_isMark_48 : decode cX12_isMark 48 = .ok (.iload_n 0, 1) := by decide +kernel
theorem dX12_isMark_49 : decode cX12_isMark 49 = .ok (.bipush 61, 2) := by decide +kernel
theorem dX12_isMark_51 : decode cX12_isMark 51 = .ok (.if_icmp .ne 7, 3) := by decide +kernel
theorem dX12_isMark_54 : decode cX12_isMark 54 = .ok (.iconst 1, 1) := by decide +kernel
theorem dX12_isMark_55 : decode cX12_isMark 55 = .ok (.goto 4, 3) := by decide +kernel
theorem dX12_isMark_58 : decode cX12_isMark 58 = .ok (.iconst 0, 1) := by decide +kernel
theorem dX12_isMark_59 : decode cX12_isMark 59 = .ok (.ireturn, 1) := by decide +kernel
theorem dX12_stepOn_0 : decode cX12_stepOn 0 = .ok (.aload_n 0, 1) := by decide +kernel
theorem dX12_stepOn_1 : decode cX12_stepOn 1 = .ok (.aload_n 0, 1) := by decide +kernel
theorem dX12_stepOn_2 : decode cX12_stepOn 2 = .ok (.getfield 165, 3) := by decide +kernel
theorem dX12_stepOn_5 : decode cX12_stepOn 5 = .ok (.invokevirtual 168, 3) := by decide +kernel
theorem dX12_stepOn_8 : decode cX12_stepOn 8 = .ok (.bipush 32, 2) := by decide +kernel
theorem dX12_stepOn_10 : decode cX12_stepOn 10 = .ok (.if_icmp .eq 16, 3) := by decide +kernel
theorem dX12_stepOn_13 : decode cX12_stepOn 13 = .ok (.aload_n 0, 1) := by decide +kernel
theorem dX12_stepOn_14 : decode cX12_stepOn 14 = .ok (.aload_n 0, 1) := by decide +kernel
theorem dX12_stepOn_15 : decode cX12_stepOn 15 = .ok (.getfield 165, 3) := by decide +kernel
theorem dX12_stepOn_18 : decode cX12_stepOn 18 = .ok (.invokevirtual 168, 3) := by decide +kernel
theorem dX12_stepOn_21 : decode cX12_stepOn 21 = .ok (.bipush 10, 2) := by decide +kernel
theorem dX12_stepOn_23 : decode cX12_stepOn 23 = .ok (.if_icmp .ne 16, 3) := by decide +kernel
theorem dX12_stepOn_26 : decode cX12_stepOn 26 = .ok (.aload_n 0, 1) := by decide +kernel
theorem dX12_stepOn_27 : decode cX12_stepOn 27 = .ok (.dup, 1) := by decide +kernel
theorem dX12_stepOn_28 : decode cX12_stepOn 28 = .ok (.getfield 165, 3) := by decide +kernel
theorem dX12_stepOn_31 : decode cX12_stepOn 31 = .ok (.iconst 1, 1) := by decide +kernel
theorem dX12_stepOn_32 : decode cX12_stepOn 32 = .ok (.iadd, 1) := by decide +kernel
theorem dX12_stepOn_33 : decode cX12_stepOn 33 = .ok (.putfield 165, 3) := by decide +kernel
theorem dX12_stepOn_36 : decode cX12_stepOn 36 = .ok (.goto (-36), 3) := by decide +kernel
theorem dX12_stepOn_39 : decode cX12_stepOn 39 = .ok (.aload_n 0, 1) := by decide +kernel
theorem dX12_stepOn_40 : decode cX12_stepOn 40 = .ok (.aload_n 0, 1) := by decide +kernel
theorem dX12_stepOn_41 : decode cX12_stepOn 41 = .ok (.getfield 165, 3) := by decide +kernel
theorem dX12_stepOn_44 : decode cX12_stepOn 44 = .ok (.putfield 172, 3) := by decide +kernel
theorem dX12_stepOn_47 : decode cX12_stepOn 47 = .ok (.aload_n 0, 1) := by decide +kernel
theorem dX12_stepOn_48 : decode cX12_stepOn 48 = .ok (.aload_n 0, 1) := by decide +kernel
theorem dX12_stepOn_49 : decode cX12_stepOn 49 = .ok (.getfield 165, 3) := by decide +kernel
theorem dX12_stepOn_52 : decode cX12_stepOn 52 = .ok (.invokevirtual 168, 3) := by decide +kernel
theorem dX12_stepOn_55 : decode cX12_stepOn 55 = .ok (.istore_n 1, 1) := by decide +kernel
theorem dX12_stepOn_56 : decode cX12_stepOn 56 = .ok (.iload_n 1, 1) := by decide +kernel
theorem dX12_stepOn_57 : decode cX12_stepOn 57 = .ok (.iconst (-1), 1) := by decide +kernel
theorem dX12_stepOn_58 : decode cX12_stepOn 58 = .ok (.if_icmp .ne 11, 3) := by decide +kernel
theorem dX12_stepOn_61 : decode cX12_stepOn 61 = .ok (.aload_n 0, 1) := by decide +kernel
theorem dX12_stepOn_62 : decode cX12_stepOn 62 = .ok (.iconst 0, 1) := by decide +kernel
theorem dX12_stepOn_63 : decode cX12_stepOn 63 = .ok (.putfield 175, 3) := by decide +kernel
theorem dX12_stepOn_66 : decode cX12_stepOn 66 = .ok (.goto 146, 3) := by decide +kernel
theorem dX12_stepOn_69 : decode cX12_stepOn 69 = .ok (.iload_n 1, 1) := by decide +kernel
theorem dX12_stepOn_70 : decode cX12_stepOn 70 = .ok (.invokestatic 178, 3) := by decide +kernel
theorem dX12_stepOn_73 : decode cX12_stepOn 73 = .ok (.ifCond .eq 38, 3) := by decide +kernel
theorem dX12_stepOn_76 : decode cX12_stepOn 76 = .ok (.aload_n 0, 1) := by decide +kernel
theorem dX12_stepOn_77 : decode cX12_stepOn 77 = .ok (.aload_n 0, 1) := by decide +kernel
theorem dX12_stepOn_78 : decode cX12_stepOn 78 = .ok (.getfield 165, 3) := by decide +kernel
theorem dX12_stepOn_81 : decode cX12_stepOn 81 = .ok (.invokevirtual 168, 3) := by decide +kernel
theorem dX12_stepOn_84 : decode cX12_stepOn 84 = .ok (.invokestatic 178, 3) := by decide +kernel
theorem dX12_stepOn_87 : decode cX12_stepOn 87 = .ok (.ifCond .eq 16, 3) := by decide +kernel
theorem dX12_stepOn_90 : decode cX12_stepOn 90 = .ok (.aload_n 0, 1) := by decide +kernel
theorem dX12_stepOn_91 : decode cX12_stepOn 91 = .ok (.dup, 1) := by decide +kernel
theorem dX12_stepOn_92 : decode cX12_stepOn 92 = .ok (.getfield 165, 3) := by decide +kernel
theorem dX12_stepOn_95 : decode cX12_stepOn 95 = .ok (.iconst 1, 1) := by decide +kernel
theorem dX12_stepOn_96 : decode cX12_stepOn 96 = .ok (.iadd, 1) := by decide +kernel
theorem dX12_stepOn_97 : decode cX12_stepOn 97 = .ok (.putfield 165, 3) := by decide +kernel
theorem dX12_stepOn_100 : decode cX12_stepOn 100 = .ok (.goto (-24), 3) := by decide +kernel
theorem dX12_stepOn_103 : decode cX12_stepOn 103 = .ok (.aload_n 0, 1) := by decide +kernel
theorem dX12_stepOn_104 : decode cX12_stepOn 104 = .ok (.iconst 1, 1) := by decide +kernel
theorem dX12_stepOn_105 : decode cX12_stepOn 105 = .ok (.putfield 175, 3) := by decide +kernel
theorem dX12_stepOn_108 : decode cX12_stepOn 108 = .ok (.goto 104, 3) := by decide +kernel
theorem dX12_stepOn_111 : decode cX12_stepOn 111 = .ok (.iload_n 1, 1) := by decide +kernel
theorem dX12_stepOn_112 : decode cX12_stepOn 112 = .ok (.invokestatic 182, 3) := by decide +kernel
theorem dX12_stepOn_115 : decode cX12_stepOn 115 = .ok (.ifCond .eq 71, 3) := by decide +kernel
theorem dX12_stepOn_118 : decode cX12_stepOn 118 = .ok (.aload_n 0, 1) := by decide +kernel
theorem dX12_stepOn_119 : decode cX12_stepOn 119 = .ok (.iconst 0, 1) := by decide +kernel
theorem dX12_stepOn_120 : decode cX12_stepOn 120 = .ok (.putfield 185, 3) := by decide +kernel
theorem dX12_stepOn_123 : decode cX12_stepOn 123 = .ok (.aload_n 0, 1) := by decide +kernel
theorem dX12_stepOn_124 : decode cX12_stepOn 124 = .ok (.aload_n 0, 1) := by decide +kernel
theorem dX12_stepOn_125 : decode cX12_stepOn 125 = .ok (.getfield 165, 3) := by decide +kernel
theorem dX12_stepOn_128 : decode cX12_stepOn 128 = .ok (.invokevirtual 168, 3) := by decide +kernel
theorem dX12_stepOn_131 : decode cX12_stepOn 131 = .ok (.invokestatic 182, 3) := by decide +kernel
theorem dX12_stepOn_134 : decode cX12_stepOn 134 = .ok (.ifCond .eq 44, 3) := by decide +kernel
theorem dX12_stepOn_137 : decode cX12_stepOn 137 = .ok (.aload_n 0, 1) := by decide +kernel
theorem dX12_stepOn_138 : decode cX12_stepOn 138 = .ok (.ldc 188, 2) := by decide +kernel
theorem dX12_stepOn_140 : decode cX12_stepOn 140 = .ok (.bipush 10, 2) := by decide +kernel
theorem dX12_stepOn_142 : decode cX12_stepOn 142 = .ok (.aload_n 0, 1) := by decide +kernel
theorem dX12_stepOn_143 : decode cX12_stepOn 143 = .ok (.getfield 185, 3) := by decide +kernel
theorem dX12_stepOn_146 : decode cX12_stepOn 146 = .ok (.imul, 1) := by decide +kernel
theorem dX12_stepOn_147 : decode cX12_stepOn 147 = .ok (.aload_n 0, 1) := by decide +kernel
theorem dX12_stepOn_148 : decode cX12_stepOn 148 = .ok (.aload_n 0, 1) := by decide +kernel
theorem dX12_stepOn_149 : decode cX12_stepOn 149 = .ok (.getfield 165, 3) := by decide +kernel
theorem dX12_stepOn_152 : decode cX12_stepOn 152 = .ok (.invokevirtual 168, 3) := by decide +kernel
theorem dX12_stepOn_155 : decode cX12_stepOn 155 = .ok (.iadd, 1) := by decide +kernel
theorem dX12_stepOn_156 : decode cX12_stepOn 156 = .ok (.bipush 48, 2) := by decide +kernel
theorem dX12_stepOn_158 : decode cX12_stepOn 158 = .ok (.isub, 1) := by decide +kernel
theorem dX12_stepOn_159 : decode cX12_stepOn 159 = .ok (.invokestatic 189, 3) := by decide +kernel
theorem dX12_stepOn_162 : decode cX12_stepOn 162 = .ok (.putfield 185, 3) := by decide +kernel
theorem dX12_stepOn_165 : decode cX12_stepOn 165 = .ok (.aload_n 0, 1) := by decide +kernel
theorem dX12_stepOn_166 : decode cX12_stepOn 166 = .ok (.dup, 1) := by decide +kernel
theorem dX12_stepOn_167 : decode cX12_stepOn 167 = .ok (.getfield 165, 3) := by decide +kernel
theorem dX12_stepOn_170 : decode cX12_stepOn 170 = .ok (.iconst 1, 1) := by decide +kernel
theorem dX12_stepOn_171 : decode cX12_stepOn 171 = .ok (.iadd, 1) := by decide +kernel
theorem dX12_stepOn_172 : decode cX12_stepOn 172 = .ok (.putfield 165, 3) := by decide +kernel
theorem dX12_stepOn_175 : decode cX12_stepOn 175 = .ok (.goto (-52), 3) := by decide +kernel
theorem dX12_stepOn_178 : decode cX12_stepOn 178 = .ok (.aload_n 0, 1) := by decide +kernel
theorem dX12_stepOn_179 : decode cX12_stepOn 179 = .ok (.iconst 2, 1) := by decide +kernel
theorem dX12_stepOn_180 : decode cX12_stepOn 180 = .ok (.putfield 175, 3) := by decide +kernel
theorem dX12_stepOn_183 : decode cX12_stepOn 183 = .ok (.goto 29, 3) := by decide +kernel
theorem dX12_stepOn_186 : decode cX12_stepOn 186 = .ok (.aload_n 0, 1) := by decide +kernel
theorem dX12_stepOn_187 : decode cX12_stepOn 187 = .ok (.dup, 1) := by decide +kernel
theorem dX12_stepOn_188 : decode cX12_stepOn 188 = .ok (.getfield 165, 3) := by decide +kernel
theorem dX12_stepOn_191 : decode cX12_stepOn 191 = .ok (.iconst 1, 1) := by decide +kernel
theorem dX12_stepOn_192 : decode cX12_stepOn 192 = .ok (.iadd, 1) := by decide +kernel
theorem dX12_stepOn_193 : decode cX12_stepOn 193 = .ok (.putfield 165, 3) := by decide +kernel
theorem dX12_stepOn_196 : decode cX12_stepOn 196 = .ok (.aload_n 0, 1) := by decide +kernel
theorem dX12_stepOn_197 : decode cX12_stepOn 197 = .ok (.iload_n 1, 1) := by decide +kernel
theorem dX12_stepOn_198 : decode cX12_stepOn 198 = .ok (.invokestatic 195, 3) := by decide +kernel
theorem dX12_stepOn_201 : decode cX12_stepOn 201 = .ok (.ifCond .eq 7, 3) := by decide +kernel
theorem dX12_stepOn_204 : decode cX12_stepOn 204 = .ok (.iconst 3, 1) := by decide +kernel
theorem dX12_stepOn_205 : decode cX12_stepOn 205 = .ok (.goto 4, 3) := by decide +kernel
theorem dX12_stepOn_208 : decode cX12_stepOn 208 = .ok (.iconst 4, 1) := by decide +kernel
theorem dX12_stepOn_209 : decode cX12_stepOn 209 = .ok (.putfield 175, 3) := by decide +kernel
theorem dX12_stepOn_212 : decode cX12_stepOn 212 = .ok (.aload_n 0, 1) := by decide +kernel
theorem dX12_stepOn_213 : decode cX12_stepOn 213 = .ok (.aload_n 0, 1) := by decide +kernel
theorem dX12_stepOn_214 : decode cX12_stepOn 214 = .ok (.getfield 165, 3) := by decide +kernel
theorem dX12_stepOn_217 : decode cX12_stepOn 217 = .ok (.putfield 198, 3) := by decide +kernel
theorem dX12_stepOn_220 : decode cX12_stepOn 220 = .ok (.return_, 1) := by decide +kernel
theorem dX12_wrong_0 : decode cX12_wrong 0 = .ok (.aload_n 0, 1) := by decide +kernel
theorem dX12_wrong_1 : decode cX12_wrong 1 = .ok (.getfield 201, 3) := by decide +kernel
theorem dX12_wrong_4 : decode cX12_wrong 4 = .ok (.ifCond .eq 4, 3) := by decide +kernel
theorem dX12_wrong_7 : decode cX12_wrong 7 = .ok (.return_, 1) := by decide +kernel
theorem dX12_wrong_8 : decode cX12_wrong 8 = .ok (.aload_n 0, 1) := by decide +kernel
theorem dX12_wrong_9 : decode cX12_wrong 9 = .ok (.iload_n 1, 1) := by decide +kernel
theorem dX12_wrong_10 : decode cX12_wrong 10 = .ok (.putfield 201, 3) := by decide +kernel
theorem dX12_wrong_13 : decode cX12_wrong 13 = .ok (.aload_n 0, 1) := by decide +kernel
theorem dX12_wrong_14 : decode cX12_wrong 14 = .ok (.aload_n 0, 1) := by decide +kernel
theorem dX12_wrong_15 : decode cX12_wrong 15 = .ok (.getfield 172, 3) := by decide +kernel
theorem dX12_wrong_18 : decode cX12_wrong 18 = .ok (.putfield 204, 3) := by decide +kernel
theorem dX12_wrong_21 : decode cX12_wrong 21 = .ok (.return_, 1) := by decide +kernel
theorem dX12_is_0 : decode cX12_is 0 = .ok (.aload_n 0, 1) := by decide +kernel
theorem dX12_is_1 : decode cX12_is 1 = .ok (.getfield 201, 3) := by decide +kernel
theorem dX12_is_4 : decode cX12_is 4 = .ok (.ifCond .ne 31, 3) := by decide +kernel
theorem dX12_is_7 : decode cX12_is 7 = .ok (.aload_n 0, 1) := by decide +kernel
theorem dX12_is_8 : decode cX12_is 8 = .ok (.getfield 175, 3) := by decide +kernel
theorem dX12_is_11 : decode cX12_is 11 = .ok (.iconst 1, 1) := by decide +kernel
theorem dX12_is_12 : decode cX12_is 12 = .ok (.if_icmp .ne 23, 3) := by decide +kernel
theorem dX12_is_15 : decode cX12_is 15 = .ok (.aload_n 1, 1) := by decide +kernel
theorem dX12_is_16 : decode cX12_is 16 = .ok (.invokevirtual 207, 3) := by decide +kernel
theorem dX12_is_19 : decode cX12_is 19 = .ok (.aload_n 0, 1) := by decide +kernel
theorem dX12_is_20 : decode cX12_is 20 = .ok (.getfield 198, 3) := by decide +kernel
theorem dX12_is_23 : decode cX12_is 23 = .ok (.aload_n 0, 1) := by decide +kernel
theorem dX12_is_24 : decode cX12_is 24 = .ok (.getfield 172, 3) := by decide +kernel
theorem dX12_is_27 : decode cX12_is 27 = .ok (.isub, 1) := by decide +kernel
theorem dX12_is_28 : decode cX12_is 28 = .ok (.if_icmp .ne 7, 3) := by decide +kernel
theorem dX12_is_31 : decode cX12_is 31 = .ok (.iconst 1, 1) := by decide +kernel
theorem dX12_is_32 : decode cX12_is 32 = .ok (.goto 4, 3) := by decide +kernel
theorem dX12_is_35 : decode cX12_is 35 = .ok (.iconst 0, 1) := by decide +kernel
theorem dX12_is_36 : decode cX12_is 36 = .ok (.istore_n 2, 1) := by decide +kernel
theorem dX12_is_37 : decode cX12_is 37 = .ok (.iconst 0, 1) := by decide +kernel
theorem dX12_is_38 : decode cX12_is 38 = .ok (.istore_n 3, 1) := by decide +kernel
theorem dX12_is_39 : decode cX12_is 39 = .ok (.iload_n 2, 1) := by decide +kernel
theorem dX12_is_40 : decode cX12_is 40 = .ok (.ifCond .eq 42, 3) := by decide +kernel
theorem dX12_is_43 : decode cX12_is 43 = .ok (.iload_n 3, 1) := by decide +kernel
theorem dX12_is_44 : decode cX12_is 44 = .ok (.aload_n 1, 1) := by decide +kernel
theorem dX12_is_45 : decode cX12_is 45 = .ok (.invokevirtual 207, 3) := by decide +kernel
theorem dX12_is_48 : decode cX12_is 48 = .ok (.if_icmp .ge 34, 3) := by decide +kernel
theorem dX12_is_51 : decode cX12_is 51 = .ok (.aload_n 1, 1) := by decide +kernel
theorem dX12_is_52 : decode cX12_is 52 = .ok (.iload_n 3, 1) := by decide +kernel
theorem dX12_is_53 : decode cX12_is 53 = .ok (.invokevirtual 211, 3) := by decide +kernel
theorem dX12_is_56 : decode cX12_is 56 = .ok (.aload_n 0, 1) := by decide +kernel
theorem dX12_is_57 : decode cX12_is 57 = .ok (.getfield 69, 3) := by decide +kernel
theorem dX12_is_60 : decode cX12_is 60 = .ok (.aload_n 0, 1) := by decide +kernel
theorem dX12_is_61 : decode cX12_is 61 = .ok (.getfield 172, 3) := by decide +kernel
theorem dX12_is_64 : decode cX12_is 64 = .ok (.iload_n 3, 1) := by decide +kernel
theorem dX12_is_65 : decode cX12_is 65 = .ok (.iadd, 1) := by decide +kernel
theorem dX12_is_66 : decode cX12_is 66 = .ok (.iaload, 1) := by decide +kernel
theorem dX12_is_67 : decode cX12_is 67 = .ok (.if_icmp .ne 7, 3) := by decide +kernel
theorem dX12_is_70 : decode cX12_is 70 = .ok (.iconst 1, 1) := by decide +kernel
theorem dX12_is_71 : decode cX12_is 71 = .ok (.goto 4, 3) := by decide +kernel
theorem dX12_is_74 : decode cX12_is 74 = .ok (.iconst 0, 1) := by decide +kernel
theorem dX12_is_75 : decode cX12_is 75 = .ok (.istore_n 2, 1) := by decide +kernel
theorem dX12_is_76 : decode cX12_is 76 = .ok (.iinc 3 1, 3) := by decide +kernel
theorem dX12_is_79 : decode cX12_is 79 = .ok (.goto (-40), 3) := by decide +kernel
theorem dX12_is_82 : decode cX12_is 82 = .ok (.iload_n 2, 1) := by decide +kernel
theorem dX12_is_83 : decode cX12_is 83 = .ok (.ireturn, 1) := by decide +kernel
theorem dX12_which_0 : decode cX12_which 0 = .ok (.iconst 0, 1) := by decide +kernel
theorem dX12_which_1 : decode cX12_which 1 = .ok (.istore_n 2, 1) := by decide +kernel
theorem dX12_which_2 : decode cX12_which 2 = .ok (.iload_n 2, 1) := by decide +kernel
theorem dX12_which_3 : decode cX12_which 3 = .ok (.aload_n 1, 1) := by decide +kernel
theorem dX12_which_4 : decode cX12_which 4 = .ok (.arraylength, 1) := by decide +kernel
theorem dX12_which_5 : decode cX12_which 5 = .ok (.if_icmp .ge 21, 3) := by decide +kernel
theorem dX12_which_8 : decode cX12_which 8 = .ok (.aload_n 0, 1) := by decide +kernel
theorem dX12_which_9 : decode cX12_which 9 = .ok (.aload_n 1, 1) := by decide +kernel
theorem dX12_which_10 : decode cX12_which 10 = .ok (.iload_n 2, 1) := by decide +kernel
theorem dX12_which_11 : decode cX12_which 11 = .ok (.aaload, 1) := by decide +kernel
theorem dX12_which_12 : decode cX12_which 12 = .ok (.invokevirtual 215, 3) := by decide +kernel
theorem dX12_which_15 : decode cX12_which 15 = .ok (.ifCond .eq 5, 3) := by decide +kernel
theorem dX12_which_18 : decode cX12_which 18 = .ok (.iload_n 2, 1) := by decide +kernel
theorem dX12_which_19 : decode cX12_which 19 = .ok (.ireturn, 1) := by decide +kernel
theorem dX12_which_20 : decode cX12_which 20 = .ok (.iinc 2 1, 3) := by decide +kernel
theorem dX12_which_23 : decode cX12_which 23 = .ok (.goto (-21), 3) := by decide +kernel
theorem dX12_which_26 : decode cX12_which 26 = .ok (.iconst (-1), 1) := by decide +kernel
theorem dX12_which_27 : decode cX12_which 27 = .ok (.ireturn, 1) := by decide +kernel
theorem dX12_isMarked_0 : decode cX12_isMarked 0 = .ok (.aload_n 0, 1) := by decide +kernel
theorem dX12_isMarked_1 : decode cX12_isMarked 1 = .ok (.getfield 201, 3) := by decide +kernel
theorem dX12_isMarked_4 : decode cX12_isMarked 4 = .ok (.ifCond .ne 28, 3) := by decide +kernel
theorem dX12_isMarked_7 : decode cX12_isMarked 7 = .ok (.aload_n 0, 1) := by decide +kernel
theorem dX12_isMarked_8 : decode cX12_isMarked 8 = .ok (.getfield 175, 3) := by decide +kernel
theorem dX12_isMarked_11 : decode cX12_isMarked 11 = .ok (.iconst 3, 1) := by decide +kernel
theorem dX12_isMarked_12 : decode cX12_isMarked 12 = .ok (.if_icmp .ne 20, 3) := by decide +kernel
theorem dX12_isMarked_15 : decode cX12_isMarked 15 = .ok (.aload_n 0, 1) := by decide +kernel
theorem dX12_isMarked_16 : decode cX12_isMarked 16 = .ok (.getfield 69, 3) := by decide +kernel
theorem dX12_isMarked_19 : decode cX12_isMarked 19 = .ok (.aload_n 0, 1) := by decide +kernel
theorem dX12_isMarked_20 : decode cX12_isMarked 20 = .ok (.getfield 172, 3) := by decide +kernel
theorem dX12_isMarked_23 : decode cX12_isMarked 23 = .ok (.iaload, 1) := by decide +kernel
theorem dX12_isMarked_24 : decode cX12_isMarked 24 = .ok (.iload_n 1, 1) := by decide +kernel
theorem dX12_isMarked_25 : decode cX12_isMarked 25 = .ok (.if_icmp .ne 7, 3) := by decide +kernel
theorem dX12_isMarked_28 : decode cX12_isMarked 28 = .ok (.iconst 1, 1) := by decide +kernel
theorem dX12_isMarked_29 : decode cX12_isMarked 29 = .ok (.goto 4, 3) := by decide +kernel
theorem dX12_isMarked_32 : decode cX12_isMarked 32 = .ok (.iconst 0, 1) := by decide +kernel
theorem dX12_isMarked_33 : decode cX12_isMarked 33 = .ok (.ireturn, 1) := by decide +kernel
theorem dX12_mark_0 : decode cX12_mark 0 = .ok (.aload_n 0, 1) := by decide +kernel
theorem dX12_mark_1 : decode cX12_mark 1 = .ok (.getfield 201, 3) := by decide +kernel
theorem dX12_mark_4 : decode cX12_mark 4 = .ok (.ifCond .ne 16, 3) := by decide +kernel
theorem dX12_mark_7 : decode cX12_mark 7 = .ok (.aload_n 0, 1) := by decide +kernel
theorem dX12_mark_8 : decode cX12_mark 8 = .ok (.iload_n 1, 1) := by decide +kernel
theorem dX12_mark_9 : decode cX12_mark 9 = .ok (.invokevirtual 219, 3) := by decide +kernel
theorem dX12_mark_12 : decode cX12_mark 12 = .ok (.ifCond .ne 8, 3) := by decide +kernel
theorem dX12_mark_15 : decode cX12_mark 15 = .ok (.aload_n 0, 1) := by decide +kernel
theorem dX12_mark_16 : decode cX12_mark 16 = .ok (.iconst 1, 1) := by decide +kernel
theorem dX12_mark_17 : decode cX12_mark 17 = .ok (.invokevirtual 222, 3) := by decide +kernel
theorem dX12_mark_20 : decode cX12_mark 20 = .ok (.aload_n 0, 1) := by decide +kernel
theorem dX12_mark_21 : decode cX12_mark 21 = .ok (.getfield 201, 3) := by decide +kernel
theorem dX12_mark_24 : decode cX12_mark 24 = .ok (.ifCond .ne 7, 3) := by decide +kernel
theorem dX12_mark_27 : decode cX12_mark 27 = .ok (.aload_n 0, 1) := by decide +kernel
theorem dX12_mark_28 : decode cX12_mark 28 = .ok (.invokevirtual 226, 3) := by decide +kernel
theorem dX12_mark_31 : decode cX12_mark 31 = .ok (.return_, 1) := by decide +kernel
theorem dX12_numberNow_0 : decode cX12_numberNow 0 = .ok (.aload_n 0, 1) := by decide +kernel
theorem dX12_numberNow_1 : decode cX12_numberNow 1 = .ok (.getfield 201, 3) := by decide +kernel
theorem dX12_numberNow_4 : decode cX12_numberNow 4 = .ok (.ifCond .eq 5, 3) := by decide +kernel
theorem dX12_numberNow_7 : decode cX12_numberNow 7 = .ok (.iconst 0, 1) := by decide +kernel
theorem dX12_numberNow_8 : decode cX12_numberNow 8 = .ok (.ireturn, 1) := by decide +kernel
theorem dX12_numberNow_9 : decode cX12_numberNow 9 = .ok (.aload_n 0, 1) := by decide +kernel
theorem dX12_numberNow_10 : decode cX12_numberNow 10 = .ok (.getfield 175, 3) := by decide +kernel
theorem dX12_numberNow_13 : decode cX12_numberNow 13 = .ok (.iconst 2, 1) := by decide +kernel
theorem dX12_numberNow_14 : decode cX12_numberNow 14 = .ok (.if_icmp .eq 11, 3) := by decide +kernel
theorem dX12_numberNow_17 : decode cX12_numberNow 17 = .ok (.aload_n 0, 1) := by decide +kernel
theorem dX12_numberNow_18 : decode cX12_numberNow 18 = .ok (.iconst 1, 1) := by decide +kernel
theorem dX12_numberNow_19 : decode cX12_numberNow 19 = .ok (.invokevirtual 222, 3) := by decide +kernel
theorem dX12_numberNow_22 : decode cX12_numberNow 22 = .ok (.goto 37, 3) := by decide +kernel
theorem dX12_numberNow_25 : decode cX12_numberNow 25 = .ok (.aload_n 0, 1) := by decide +kernel
theorem dX12_numberNow_26 : decode cX12_numberNow 26 = .ok (.getfield 198, 3) := by decide +kernel
theorem dX12_numberNow_29 : decode cX12_numberNow 29 = .ok (.aload_n 0, 1) := by decide +kernel
theorem dX12_numberNow_30 : decode cX12_numberNow 30 = .ok (.getfield 172, 3) := by decide +kernel
theorem dX12_numberNow_33 : decode cX12_numberNow 33 = .ok (.isub, 1) := by decide +kernel
theorem dX12_numberNow_34 : decode cX12_numberNow 34 = .ok (.iconst 4, 1) := by decide +kernel
theorem dX12_numberNow_35 : decode cX12_numberNow 35 = .ok (.if_icmp .gt 19, 3) := by decide +kernel
theorem dX12_numberNow_38 : decode cX12_numberNow 38 = .ok (.aload_n 0, 1) := by decide +kernel
theorem dX12_numberNow_39 : decode cX12_numberNow 39 = .ok (.getfield 185, 3) := by decide +kernel
theorem dX12_numberNow_42 : decode cX12_numberNow 42 = .ok (.iload_n 1, 1) := by decide +kernel
theorem dX12_numberNow_43 : decode cX12_numberNow 43 = .ok (.if_icmp .lt 11, 3) := by decide +kernel
theorem dX12_numberNow_46 : decode cX12_numberNow 46 = .ok (.aload_n 0, 1) := by decide +kernel
theorem dX12_numberNow_47 : decode cX12_numberNow 47 = .ok (.getfield 185, 3) := by decide +kernel
theorem dX12_numberNow_50 : decode cX12_numberNow 50 = .ok (.iload_n 2, 1) := by decide +kernel
theorem dX12_numberNow_51 : decode cX12_numberNow 51 = .ok (.if_icmp .le 8, 3) := by decide +kernel
theorem dX12_numberNow_54 : decode cX12_numberNow 54 = .ok (.aload_n 0, 1) := by decide +kernel
theorem dX12_numberNow_55 : decode cX12_numberNow 55 = .ok (.iconst 2, 1) := by decide +kernel
theorem dX12_numberNow_56 : decode cX12_numberNow 56 = .ok (.invokevirtual 222, 3) := by decide +kernel
theorem dX12_numberNow_59 : decode cX12_numberNow 59 = .ok (.aload_n 0, 1) := by decide +kernel
theorem dX12_numberNow_60 : decode cX12_numberNow 60 = .ok (.getfield 201, 3) := by decide +kernel
theorem dX12_numberNow_63 : decode cX12_numberNow 63 = .ok (.ifCond .ne 10, 3) := by decide +kernel
theorem dX12_numberNow_66 : decode cX12_numberNow 66 = .ok (.aload_n 0, 1) := by decide +kernel
theorem dX12_numberNow_67 : decode cX12_numberNow 67 = .ok (.getfield 185, 3) := by decide +kernel
theorem dX12_numberNow_70 : decode cX12_numberNow 70 = .ok (.goto 4, 3) := by decide +kernel
theorem dX12_numberNow_73 : decode cX12_numberNow 73 = .ok (.iconst 0, 1) := by decide +kernel
theorem dX12_numberNow_74 : decode cX12_numberNow 74 = .ok (.ireturn, 1) := by decide +kernel
theorem dX12_readNumber_0 : decode cX12_readNumber 0 = .ok (.aload_n 0, 1) := by decide +kernel
theorem dX12_readNumber_1 : decode cX12_readNumber 1 = .ok (.iload_n 1, 1) := by decide +kernel
theorem dX12_readNumber_2 : decode cX12_readNumber 2 = .ok (.iload_n 2, 1) := by decide +kernel
theorem dX12_readNumber_3 : decode cX12_readNumber 3 = .ok (.invokevirtual 229, 3) := by decide +kernel
theorem dX12_readNumber_6 : decode cX12_readNumber 6 = .ok (.istore_n 3, 1) := by decide +kernel
theorem dX12_readNumber_7 : decode cX12_readNumber 7 = .ok (.aload_n 0, 1) := by decide +kernel
theorem dX12_readNumber_8 : decode cX12_readNumber 8 = .ok (.getfield 201, 3) := by decide +kernel
theorem dX12_readNumber_11 : decode cX12_readNumber 11 = .ok (.ifCond .ne 7, 3) := by decide +kernel
theorem dX12_readNumber_14 : decode cX12_readNumber 14 = .ok (.aload_n 0, 1) := by decide +kernel
theorem dX12_readNumber_15 : decode cX12_readNumber 15 = .ok (.invokevirtual 226, 3) := by decide +kernel
theorem dX12_readNumber_18 : decode cX12_readNumber 18 = .ok (.iload_n 3, 1) := by decide +kernel
theorem dX12_readNumber_19 : decode cX12_readNumber 19 = .ok (.ireturn, 1) := by decide +kernel
theorem dX12_lay_0 : decode cX12_lay 0 = .ok (.aload_n 0, 1) := by decide +kernel
theorem dX12_lay_1 : decode cX12_lay 1 = .ok (.getfield 201, 3) := by decide +kernel
theorem dX12_lay_4 : decode cX12_lay 4 = .ok (.ifCond .eq 4, 3) := by decide +kernel
theorem dX12_lay_7 : decode cX12_lay 7 = .ok (.return_, 1) := by decide +kernel
theorem dX12_lay_8 : decode cX12_lay 8 = .ok (.aload_n 0, 1) := by decide +kernel
theorem dX12_lay_9 : decode cX12_lay 9 = .ok (.getfield 63, 3) := by decide +kernel
theorem dX12_lay_12 : decode cX12_lay 12 = .ok (.sipush 700, 3) := by decide +kernel
theorem dX12_lay_15 : decode cX12_lay 15 = .ok (.aload_n 0, 1) := by decide +kernel
theorem dX12_lay_16 : decode cX12_lay 16 = .ok (.getfield 41, 3) := by decide +kernel
theorem dX12_lay_19 : decode cX12_lay 19 = .ok (.bipush 7, 2) := by decide +kernel
theorem dX12_lay_21 : decode cX12_lay 21 = .ok (.iaload, 1) := by decide +kernel
theorem dX12_lay_22 : decode cX12_lay 22 = .ok (.iadd, 1) := by decide +kernel
theorem dX12_lay_23 : decode cX12_lay 23 = .ok (.iload_n 1, 1) := by decide +kernel
theorem dX12_lay_24 : decode cX12_lay 24 = .ok (.iastore, 1) := by decide +kernel
theorem dX12_lay_25 : decode cX12_lay 25 = .ok (.aload_n 0, 1) := by decide +kernel
theorem dX12_lay_26 : decode cX12_lay 26 = .ok (.getfield 41, 3) := by decide +kernel
theorem dX12_lay_29 : decode cX12_lay 29 = .ok (.bipush 7, 2) := by decide +kernel
theorem dX12_lay_31 : decode cX12_lay 31 = .ok (.dup2, 1) := by decide +kernel
theorem dX12_lay_32 : decode cX12_lay 32 = .ok (.iaload, 1) := by decide +kernel
theorem dX12_lay_33 : decode cX12_lay 33 = .ok (.iconst 1, 1) := by decide +kernel
theorem dX12_lay_34 : decode cX12_lay 34 = .ok (.iadd, 1) := by decide +kernel
theorem dX12_lay_35 : decode cX12_lay 35 = .ok (.iastore, 1) := by decide +kernel
theorem dX12_lay_36 : decode cX12_lay 36 = .ok (.return_, 1) := by decide +kernel
theorem dX12_readPart_0 : decode cX12_readPart 0 = .ok (.aload_n 0, 1) := by decide +kernel
theorem dX12_readPart_1 : decode cX12_readPart 1 = .ok (.getfield 201, 3) := by decide +kernel
theorem dX12_readPart_4 : decode cX12_readPart 4 = .ok (.ifCond .eq 4, 3) := by decide +kernel
theorem dX12_readPart_7 : decode cX12_readPart 7 = .ok (.return_, 1) := by decide +kernel
theorem dX12_readPart_8 : decode cX12_readPart 8 = .ok (.aload_n 0, 1) := by decide +kernel
theorem dX12_readPart_9 : decode cX12_readPart 9 = .ok (.getfield 175, 3) := by decide +kernel
theorem dX12_readPart_12 : decode cX12_readPart 12 = .ok (.iconst 2, 1) := by decide +kernel
theorem dX12_readPart_13 : decode cX12_readPart 13 = .ok (.if_icmp .ne 16, 3) := by decide +kernel
theorem dX12_readPart_16 : decode cX12_readPart 16 = .ok (.aload_n 0, 1) := by decide +kernel
theorem dX12_readPart_17 : decode cX12_readPart 17 = .ok (.aload_n 0, 1) := by decide +kernel
theorem dX12_readPart_18 : decode cX12_readPart 18 = .ok (.iconst 0, 1) := by decide +kernel
theorem dX12_readPart_19 : decode cX12_readPart 19 = .ok (.sipush 9999, 3) := by decide +kernel
theorem dX12_readPart_22 : decode cX12_readPart 22 = .ok (.invokevirtual 232, 3) := by decide +kernel
theorem dX12_readPart_25 : decode cX12_readPart 25 = .ok (.invokevirtual 235, 3) := by decide +kernel
theorem dX12_readPart_28 : decode cX12_readPart 28 = .ok (.return_, 1) := by decide +kernel
theorem dX12_readPart_29 : decode cX12_readPart 29 = .ok (.aload_n 0, 1) := by decide +kernel
theorem dX12_readPart_30 : decode cX12_readPart 30 = .ok (.getfield 175, 3) := by decide +kernel
theorem dX12_readPart_33 : decode cX12_readPart 33 = .ok (.iconst 1, 1) := by decide +kernel
theorem dX12_readPart_34 : decode cX12_readPart 34 = .ok (.if_icmp .ne 41, 3) := by decide +kernel
theorem dX12_readPart_37 : decode cX12_readPart 37 = .ok (.aload_n 0, 1) := by decide +kernel
theorem dX12_readPart_38 : decode cX12_readPart 38 = .ok (.aload_n 0, 1) := by decide +kernel
theorem dX12_readPart_39 : decode cX12_readPart 39 = .ok (.getfield 38, 3) := by decide +kernel
theorem dX12_readPart_42 : decode cX12_readPart 42 = .ok (.invokevirtual 238, 3) := by decide +kernel
theorem dX12_readPart_45 : decode cX12_readPart 45 = .ok (.istore_n 2, 1) := by decide +kernel
theorem dX12_readPart_46 : decode cX12_readPart 46 = .ok (.iload_n 2, 1) := by decide +kernel
theorem dX12_readPart_47 : decode cX12_readPart 47 = .ok (.iconst (-1), 1) := by decide +kernel
theorem dX12_readPart_48 : decode cX12_readPart 48 = .ok (.if_icmp .ne 8, 3) := by decide +kernel
theorem dX12_readPart_51 : decode cX12_readPart 51 = .ok (.aload_n 0, 1) := by decide +kernel
theorem dX12_readPart_52 : decode cX12_readPart 52 = .ok (.iconst 3, 1) := by decide +kernel
theorem dX12_readPart_53 : decode cX12_readPart 53 = .ok (.invokevirtual 222, 3) := by decide +kernel
theorem dX12_readPart_56 : decode cX12_readPart 56 = .ok (.aload_n 0, 1) := by decide +kernel
theorem dX12_readPart_57 : decode cX12_readPart 57 = .ok (.iconst (-1), 1) := by decide +kernel
theorem dX12_readPart_58 : decode cX12_readPart 58 = .ok (.iload_n 2, 1) := by decide +kernel
theorem dX12_readPart_59 : decode cX12_readPart 59 = .ok (.isub, 1) := by decide +kernel
theorem dX12_readPart_60 : decode cX12_readPart 60 = .ok (.invokevirtual 235, 3) := by decide +kernel
theorem dX12_readPart_63 : decode cX12_readPart 63 = .ok (.aload_n 0, 1) := by decide +kernel
theorem dX12_readPart_64 : decode cX12_readPart 64 = .ok (.getfield 201, 3) := by decide +kernel
theorem dX12_readPart_67 : decode cX12_readPart 67 = .ok (.ifCond .ne 7, 3) := by decide +kernel
theorem dX12_readPart_70 : decode cX12_readPart 70 = .ok (.aload_n 0, 1) := by decide +kernel
theorem dX12_readPart_71 : decode cX12_readPart 71 = .ok (.invokevirtual 226, 3) := by decide +kernel
theorem dX12_readPart_74 : decode cX12_readPart 74 = .ok (.return_, 1) := by decide +kernel
theorem dX12_readPart_75 : decode cX12_readPart 75 = .ok (.aload_n 0, 1) := by decide +kernel
theorem dX12_readPart_76 : decode cX12_readPart 76 = .ok (.bipush 40, 2) := by decide +kernel
theorem dX12_readPart_78 : decode cX12_readPart 78 = .ok (.invokevirtual 242, 3) := by decide +kernel
theorem dX12_readPart_81 : decode cX12_readPart 81 = .ok (.aload_n 0, 1) := by decide +kernel
theorem dX12_readPart_82 : decode cX12_readPart 82 = .ok (.iload_n 1, 1) := by decide +kernel
theorem dX12_readPart_83 : decode cX12_readPart 83 = .ok (.iconst 1, 1) := by decide +kernel
theorem dX12_readPart_84 : decode cX12_readPart 84 = .ok (.iadd, 1) := by decide +kernel
theorem dX12_readPart_85 : decode cX12_readPart 85 = .ok (.invokevirtual 245, 3) := by decide +kernel
theorem dX12_readPart_88 : decode cX12_readPart 88 = .ok (.aload_n 0, 1) := by decide +kernel
theorem dX12_readPart_89 : decode cX12_readPart 89 = .ok (.bipush 41, 2) := by decide +kernel
theorem dX12_readPart_91 : decode cX12_readPart 91 = .ok (.invokevirtual 242, 3) := by decide +kernel
theorem dX12_readPart_94 : decode cX12_readPart 94 = .ok (.return_, 1) := by decide +kernel
theorem dX12_readProduct_0 : decode cX12_readProduct 0 = .ok (.aload_n 0, 1) := by decide +kernel
theorem dX12_readProduct_1 : decode cX12_readProduct 1 = .ok (.iload_n 1, 1) := by decide +kernel
theorem dX12_readProduct_2 : decode cX12_readProduct 2 = .ok (.invokevirtual 248, 3) := by decide +kernel
theorem dX12_readProduct_5 : decode cX12_readProduct 5 = .ok (.aload_n 0, 1) := by decide +kernel
theorem dX12_readProduct_6 : decode cX12_readProduct 6 = .ok (.bipush 42, 2) := by decide +kernel
theorem dX12_readProduct_8 : decode cX12_readProduct 8 = .ok (.invokevirtual 219, 3) := by decide +kernel
theorem dX12_readProduct_11 : decode cX12_readProduct 11 = .ok (.ifCond .ne 12, 3) := by decide +kernel
theorem dX12_readProduct_14 : decode cX12_readProduct 14 = .ok (.aload_n 0, 1) := by decide +kernel
theorem dX12_readProduct_15 : decode cX12_readProduct 15 = .ok (.bipush 47, 2) := by decide +kernel
theorem dX12_readProduct_17 : decode cX12_readProduct 17 = .ok (.invokevirtual 219, 3) := by decide +kernel
theorem dX12_readProduct_20 : decode cX12_readProduct 20 = .ok (.ifCond .eq 37, 3) := by decide +kernel
theorem dX12_readProduct_23 : decode cX12_readProduct 23 = .ok (.aload_n 0, 1) := by decide +kernel
theorem dX12_readProduct_24 : decode cX12_readProduct 24 = .ok (.bipush 42, 2) := by decide +kernel
theorem dX12_readProduct_26 : decode cX12_readProduct 26 = .ok (.invokevirtual 219, 3) := by decide +kernel
theorem dX12_readProduct_29 : decode cX12_readProduct 29 = .ok (.ifCond .eq 8, 3) := by decide +kernel
theorem dX12_readProduct_32 : decode cX12_readProduct 32 = .ok (.bipush (-22), 2) := by decide +kernel
theorem dX12_readProduct_34 : decode cX12_readProduct 34 = .ok (.goto 5, 3) := by decide +kernel
theorem dX12_readProduct_37 : decode cX12_readProduct 37 = .ok (.bipush (-23), 2) := by decide +kernel
theorem dX12_readProduct_39 : decode cX12_readProduct 39 = .ok (.istore_n 2, 1) := by decide +kernel
theorem dX12_readProduct_40 : decode cX12_readProduct 40 = .ok (.aload_n 0, 1) := by decide +kernel
theorem dX12_readProduct_41 : decode cX12_readProduct 41 = .ok (.invokevirtual 226, 3) := by decide +kernel
theorem dX12_readProduct_44 : decode cX12_readProduct 44 = .ok (.aload_n 0, 1) := by decide +kernel
theorem dX12_readProduct_45 : decode cX12_readProduct 45 = .ok (.iload_n 1, 1) := by decide +kernel
theorem dX12_readProduct_46 : decode cX12_readProduct 46 = .ok (.invokevirtual 248, 3) := by decide +kernel
theorem dX12_readProduct_49 : decode cX12_readProduct 49 = .ok (.aload_n 0, 1) := by decide +kernel
theorem dX12_readProduct_50 : decode cX12_readProduct 50 = .ok (.iload_n 2, 1) := by decide +kernel
theorem dX12_readProduct_51 : decode cX12_readProduct 51 = .ok (.invokevirtual 235, 3) := by decide +kernel
theorem dX12_readProduct_54 : decode cX12_readProduct 54 = .ok (.goto (-49), 3) := by decide +kernel
theorem dX12_readProduct_57 : decode cX12_readProduct 57 = .ok (.return_, 1) := by decide +kernel
theorem dX12_readSum_0 : decode cX12_readSum 0 = .ok (.aload_n 0, 1) := by decide +kernel
theorem dX12_readSum_1 : decode cX12_readSum 1 = .ok (.iload_n 1, 1) := by decide +kernel
theorem dX12_readSum_2 : decode cX12_readSum 2 = .ok (.invokevirtual 251, 3) := by decide +kernel
theorem dX12_readSum_5 : decode cX12_readSum 5 = .ok (.aload_n 0, 1) := by decide +kernel
theorem dX12_readSum_6 : decode cX12_readSum 6 = .ok (.bipush 43, 2) := by decide +kernel
theorem dX12_readSum_8 : decode cX12_readSum 8 = .ok (.invokevirtual 219, 3) := by decide +kernel
theorem dX12_readSum_11 : decode cX12_readSum 11 = .ok (.ifCond .ne 12, 3) := by decide +kernel
theorem dX12_readSum_14 : decode cX12_readSum 14 = .ok (.aload_n 0, 1) := by decide +kernel
theorem dX12_readSum_15 : decode cX12_readSum 15 = .ok (.bipush 45, 2) := by decide +kernel
theorem dX12_readSum_17 : decode cX12_readSum 17 = .ok (.invokevirtual 219, 3) := by decide +kernel
theorem dX12_readSum_20 : decode cX12_readSum 20 = .ok (.ifCond .eq 37, 3) := by decide +kernel
theorem dX12_readSum_23 : decode cX12_readSum 23 = .ok (.aload_n 0, 1) := by decide +kernel
theorem dX12_readSum_24 : decode cX12_readSum 24 = .ok (.bipush 43, 2) := by decide +kernel
theorem dX12_readSum_26 : decode cX12_readSum 26 = .ok (.invokevirtual 219, 3) := by decide +kernel
theorem dX12_readSum_29 : decode cX12_readSum 29 = .ok (.ifCond .eq 8, 3) := by decide +kernel
theorem dX12_readSum_32 : decode cX12_readSum 32 = .ok (.bipush (-20), 2) := by decide +kernel
theorem dX12_readSum_34 : decode cX12_readSum 34 = .ok (.goto 5, 3) := by decide +kernel
theorem dX12_readSum_37 : decode cX12_readSum 37 = .ok (.bipush (-21), 2) := by decide +kernel
theorem dX12_readSum_39 : decode cX12_readSum 39 = .ok (.istore_n 2, 1) := by decide +kernel
theorem dX12_readSum_40 : decode cX12_readSum 40 = .ok (.aload_n 0, 1) := by decide +kernel
theorem dX12_readSum_41 : decode cX12_readSum 41 = .ok (.invokevirtual 226, 3) := by decide +kernel
theorem dX12_readSum_44 : decode cX12_readSum 44 = .ok (.aload_n 0, 1) := by decide +kernel
theorem dX12_readSum_45 : decode cX12_readSum 45 = .ok (.iload_n 1, 1) := by decide +kernel
theorem dX12_readSum_46 : decode cX12_readSum 46 = .ok (.invokevirtual 251, 3) := by decide +kernel
theorem dX12_readSum_49 : decode cX12_readSum 49 = .ok (.aload_n 0, 1) := by decide +kernel
theorem dX12_readSum_50 : decode cX12_readSum 50 = .ok (.iload_n 2, 1) := by decide +kernel
theorem dX12_readSum_51 : decode cX12_readSum 51 = .ok (.invokevirtual 235, 3) := by decide +kernel
theorem dX12_readSum_54 : decode cX12_readSum 54 = .ok (.goto (-49), 3) := by decide +kernel
theorem dX12_readSum_57 : decode cX12_readSum 57 = .ok (.return_, 1) := by decide +kernel
theorem dX12_readNot_0 : decode cX12_readNot 0 = .ok (.iconst 0, 1) := by decide +kernel
theorem dX12_readNot_1 : decode cX12_readNot 1 = .ok (.istore_n 2, 1) := by decide +kernel
theorem dX12_readNot_2 : decode cX12_readNot 2 = .ok (.aload_n 0, 1) := by decide +kernel
theorem dX12_readNot_3 : decode cX12_readNot 3 = .ok (.ldc 254, 2) := by decide +kernel
theorem dX12_readNot_5 : decode cX12_readNot 5 = .ok (.invokevirtual 215, 3) := by decide +kernel
theorem dX12_readNot_8 : decode cX12_readNot 8 = .ok (.ifCond .eq 31, 3) := by decide +kernel
theorem dX12_readNot_11 : decode cX12_readNot 11 = .ok (.iload_n 2, 1) := by decide +kernel
theorem dX12_readNot_12 : decode cX12_readNot 12 = .ok (.bipush 6, 2) := by decide +kernel
theorem dX12_readNot_14 : decode cX12_readNot 14 = .ok (.if_icmp .ne 8, 3) := by decide +kernel
theorem dX12_readNot_17 : decode cX12_readNot 17 = .ok (.aload_n 0, 1) := by decide +kernel
theorem dX12_readNot_18 : decode cX12_readNot 18 = .ok (.iconst 2, 1) := by decide +kernel
theorem dX12_readNot_19 : decode cX12_readNot 19 = .ok (.invokevirtual 222, 3) := by decide +kernel
theorem dX12_readNot_22 : decode cX12_readNot 22 = .ok (.iinc 2 1, 3) := by decide +kernel
theorem dX12_readNot_25 : decode cX12_readNot 25 = .ok (.aload_n 0, 1) := by decide +kernel
theorem dX12_readNot_26 : decode cX12_readNot 26 = .ok (.getfield 201, 3) := by decide +kernel
theorem dX12_readNot_29 : decode cX12_readNot 29 = .ok (.ifCond .ne (-27), 3) := by decide +kernel
theorem dX12_readNot_32 : decode cX12_readNot 32 = .ok (.aload_n 0, 1) := by decide +kernel
theorem dX12_readNot_33 : decode cX12_readNot 33 = .ok (.invokevirtual 226, 3) := by decide +kernel
theorem dX12_readNot_36 : decode cX12_readNot 36 = .ok (.goto (-34), 3) := by decide +kernel
theorem dX12_readNot_39 : decode cX12_readNot 39 = .ok (.aload_n 0, 1) := by decide +kernel
theorem dX12_readNot_40 : decode cX12_readNot 40 = .ok (.iload_n 1, 1) := by decide +kernel
theorem dX12_readNot_41 : decode cX12_readNot 41 = .ok (.invokevirtual 256, 3) := by decide +kernel
theorem dX12_readNot_44 : decode cX12_readNot 44 = .ok (.aload_n 0, 1) := by decide +kernel
theorem dX12_readNot_45 : decode cX12_readNot 45 = .ok (.bipush 60, 2) := by decide +kernel
theorem dX12_readNot_47 : decode cX12_readNot 47 = .ok (.invokevirtual 219, 3) := by decide +kernel
theorem dX12_readNot_50 : decode cX12_readNot 50 = .ok (.ifCond .ne 12, 3) := by decide +kernel
theorem dX12_readNot_53 : decode cX12_readNot 53 = .ok (.aload_n 0, 1) := by decide +kernel
theorem dX12_readNot_54 : decode cX12_readNot 54 = .ok (.bipush 61, 2) := by decide +kernel
theorem dX12_readNot_56 : decode cX12_readNot 56 = .ok (.invokevirtual 219, 3) := by decide +kernel
theorem dX12_readNot_59 : decode cX12_readNot 59 = .ok (.ifCond .eq 34, 3) := by decide +kernel
theorem dX12_readNot_62 : decode cX12_readNot 62 = .ok (.aload_n 0, 1) := by decide +kernel
theorem dX12_readNot_63 : decode cX12_readNot 63 = .ok (.bipush 60, 2) := by decide +kernel
theorem dX12_readNot_65 : decode cX12_readNot 65 = .ok (.invokevirtual 219, 3) := by decide +kernel
theorem dX12_readNot_68 : decode cX12_readNot 68 = .ok (.ifCond .eq 8, 3) := by decide +kernel
theorem dX12_readNot_71 : decode cX12_readNot 71 = .ok (.bipush (-24), 2) := by decide +kernel
theorem dX12_readNot_73 : decode cX12_readNot 73 = .ok (.goto 5, 3) := by decide +kernel
theorem dX12_readNot_76 : decode cX12_readNot 76 = .ok (.bipush (-25), 2) := by decide +kernel
theorem dX12_readNot_78 : decode cX12_readNot 78 = .ok (.istore_n 3, 1) := by decide +kernel
theorem dX12_readNot_79 : decode cX12_readNot 79 = .ok (.aload_n 0, 1) := by decide +kernel
theorem dX12_readNot_80 : decode cX12_readNot 80 = .ok (.invokevirtual 226, 3) := by decide +kernel
theorem dX12_readNot_83 : decode cX12_readNot 83 = .ok (.aload_n 0, 1) := by decide +kernel
theorem dX12_readNot_84 : decode cX12_readNot 84 = .ok (.iload_n 1, 1) := by decide +kernel
theorem dX12_readNot_85 : decode cX12_readNot 85 = .ok (.invokevirtual 256, 3) := by decide +kernel
theorem dX12_readNot_88 : decode cX12_readNot 88 = .ok (.aload_n 0, 1) := by decide +kernel
theorem dX12_readNot_89 : decode cX12_readNot 89 = .ok (.iload_n 3, 1) := by decide +kernel
theorem dX12_readNot_90 : decode cX12_readNot 90 = .ok (.invokevirtual 235, 3) := by decide +kernel
theorem dX12_readNot_93 : decode cX12_readNot 93 = .ok (.iconst 0, 1) := by decide +kernel
theorem dX12_readNot_94 : decode cX12_readNot 94 = .ok (.istore_n 3, 1) := by decide +kernel
theorem dX12_readNot_95 : decode cX12_readNot 95 = .ok (.iload_n 3, 1) := by decide +kernel
theorem dX12_readNot_96 : decode cX12_readNot 96 = .ok (.iload_n 2, 1) := by decide +kernel
theorem dX12_readNot_97 : decode cX12_readNot 97 = .ok (.if_icmp .ge 15, 3) := by decide +kernel
theorem dX12_readNot_100 : decode cX12_readNot 100 = .ok (.aload_n 0, 1) := by decide +kernel
theorem dX12_readNot_101 : decode cX12_readNot 101 = .ok (.bipush (-28), 2) := by decide +kernel
theorem dX12_readNot_103 : decode cX12_readNot 103 = .ok (.invokevirtual 235, 3) := by decide +kernel
theorem dX12_readNot_106 : decode cX12_readNot 106 = .ok (.iinc 3 1, 3) := by decide +kernel
theorem dX12_readNot_109 : decode cX12_readNot 109 = .ok (.goto (-14), 3) := by decide +kernel
theorem dX12_readNot_112 : decode cX12_readNot 112 = .ok (.return_, 1) := by decide +kernel
theorem dX12_readAnd_0 : decode cX12_readAnd 0 = .ok (.aload_n 0, 1) := by decide +kernel
theorem dX12_readAnd_1 : decode cX12_readAnd 1 = .ok (.iload_n 1, 1) := by decide +kernel
theorem dX12_readAnd_2 : decode cX12_readAnd 2 = .ok (.invokevirtual 259, 3) := by decide +kernel
theorem dX12_readAnd_5 : decode cX12_readAnd 5 = .ok (.aload_n 0, 1) := by decide +kernel
theorem dX12_readAnd_6 : decode cX12_readAnd 6 = .ok (.ldc_w 262, 3) := by decide +kernel
theorem dX12_readAnd_9 : decode cX12_readAnd 9 = .ok (.invokevirtual 215, 3) := by decide +kernel
theorem dX12_readAnd_12 : decode cX12_readAnd 12 = .ok (.ifCond .eq 21, 3) := by decide +kernel
theorem dX12_readAnd_15 : decode cX12_readAnd 15 = .ok (.aload_n 0, 1) := by decide +kernel
theorem dX12_readAnd_16 : decode cX12_readAnd 16 = .ok (.invokevirtual 226, 3) := by decide +kernel
theorem dX12_readAnd_19 : decode cX12_readAnd 19 = .ok (.aload_n 0, 1) := by decide +kernel
theorem dX12_readAnd_20 : decode cX12_readAnd 20 = .ok (.iload_n 1, 1) := by decide +kernel
theorem dX12_readAnd_21 : decode cX12_readAnd 21 = .ok (.invokevirtual 259, 3) := by decide +kernel
theorem dX12_readAnd_24 : decode cX12_readAnd 24 = .ok (.aload_n 0, 1) := by decide +kernel
theorem dX12_readAnd_25 : decode cX12_readAnd 25 = .ok (.bipush (-26), 2) := by decide +kernel
theorem dX12_readAnd_27 : decode cX12_readAnd 27 = .ok (.invokevirtual 235, 3) := by decide +kernel
theorem dX12_readAnd_30 : decode cX12_readAnd 30 = .ok (.goto (-25), 3) := by decide +kernel
theorem dX12_readAnd_33 : decode cX12_readAnd 33 = .ok (.return_, 1) := by decide +kernel
theorem dX12_readExpression_0 : decode cX12_readExpression 0 = .ok (.aload_n 0, 1) := by decide +kernel
theorem dX12_readExpression_1 : decode cX12_readExpression 1 = .ok (.getfield 201, 3) := by decide +kernel
theorem dX12_readExpression_4 : decode cX12_readExpression 4 = .ok (.ifCond .eq 4, 3) := by decide +kernel
theorem dX12_readExpression_7 : decode cX12_readExpression 7 = .ok (.return_, 1) := by decide +kernel
theorem dX12_readExpression_8 : decode cX12_readExpression 8 = .ok (.aload_n 0, 1) := by decide +kernel
theorem dX12_readExpression_9 : decode cX12_readExpression 9 = .ok (.getfield 175, 3) := by decide +kernel
theorem dX12_readExpression_12 : decode cX12_readExpression 12 = .ok (.iconst 2, 1) := by decide +kernel
theorem dX12_readExpression_13 : decode cX12_readExpression 13 = .ok (.if_icmp .eq 20, 3) := by decide +kernel
theorem dX12_readExpression_16 : decode cX12_readExpression 16 = .ok (.aload_n 0, 1) := by decide +kernel
theorem dX12_readExpression_17 : decode cX12_readExpression 17 = .ok (.getfield 175, 3) := by decide +kernel
theorem dX12_readExpression_20 : decode cX12_readExpression 20 = .ok (.iconst 1, 1) := by decide +kernel
theorem dX12_readExpression_21 : decode cX12_readExpression 21 = .ok (.if_icmp .eq 12, 3) := by decide +kernel
theorem dX12_readExpression_24 : decode cX12_readExpression 24 = .ok (.aload_n 0, 1) := by decide +kernel
theorem dX12_readExpression_25 : decode cX12_readExpression 25 = .ok (.bipush 40, 2) := by decide +kernel
theorem dX12_readExpression_27 : decode cX12_readExpression 27 = .ok (.invokevirtual 219, 3) := by decide +kernel
theorem dX12_readExpression_30 : decode cX12_readExpression 30 = .ok (.ifCond .eq 7, 3) := by decide +kernel
theorem dX12_readExpression_33 : decode cX12_readExpression 33 = .ok (.iconst 1, 1) := by decide +kernel
theorem dX12_readExpression_34 : decode cX12_readExpression 34 = .ok (.goto 4, 3) := by decide +kernel
theorem dX12_readExpression_37 : decode cX12_readExpression 37 = .ok (.iconst 0, 1) := by decide +kernel
theorem dX12_readExpression_38 : decode cX12_readExpression 38 = .ok (.istore_n 2, 1) := by decide +kernel
theorem dX12_readExpression_39 : decode cX12_readExpression 39 = .ok (.iload_n 2, 1) := by decide +kernel
theorem dX12_readExpression_40 : decode cX12_readExpression 40 = .ok (.ifCond .ne 11, 3) := by decide +kernel
theorem dX12_readExpression_43 : decode cX12_readExpression 43 = .ok (.aload_n 0, 1) := by decide +kernel
theorem dX12_readExpression_44 : decode cX12_readExpression 44 = .ok (.iconst 1, 1) := by decide +kernel
theorem dX12_readExpression_45 : decode cX12_readExpression 45 = .ok (.invokevirtual 222, 3) := by decide +kernel
theorem dX12_readExpression_48 : decode cX12_readExpression 48 = .ok (.goto 14, 3) := by decide +kernel
theorem dX12_readExpression_51 : decode cX12_readExpression 51 = .ok (.iload_n 1, 1) := by decide +kernel
theorem dX12_readExpression_52 : decode cX12_readExpression 52 = .ok (.bipush 6, 2) := by decide +kernel
theorem dX12_readExpression_54 : decode cX12_readExpression 54 = .ok (.if_icmp .ne 8, 3) := by decide +kernel
theorem dX12_readExpression_57 : decode cX12_readExpression 57 = .ok (.aload_n 0, 1) := by decide +kernel
theorem dX12_readExpression_58 : decode cX12_readExpression 58 = .ok (.iconst 2, 1) := by decide +kernel
theorem dX12_readExpression_59 : decode cX12_readExpression 59 = .ok (.invokevirtual 222, 3) := by decide +kernel
theorem dX12_readExpression_62 : decode cX12_readExpression 62 = .ok (.aload_n 0, 1) := by decide +kernel
theorem dX12_readExpression_63 : decode cX12_readExpression 63 = .ok (.iload_n 1, 1) := by decide +kernel
theorem dX12_readExpression_64 : decode cX12_readExpression 64 = .ok (.invokevirtual 264, 3) := by decide +kernel
theorem dX12_readExpression_67 : decode cX12_readExpression 67 = .ok (.aload_n 0, 1) := by decide +kernel
theorem dX12_readExpression_68 : decode cX12_readExpression 68 = .ok (.ldc_w 267, 3) := by decide +kernel
theorem dX12_readExpression_71 : decode cX12_readExpression 71 = .ok (.invokevirtual 215, 3) := by decide +kernel
theorem dX12_readExpression_74 : decode cX12_readExpression 74 = .ok (.ifCond .eq 21, 3) := by decide +kernel
theorem dX12_readExpression_77 : decode cX12_readExpression 77 = .ok (.aload_n 0, 1) := by decide +kernel
theorem dX12_readExpression_78 : decode cX12_readExpression 78 = .ok (.invokevirtual 226, 3) := by decide +kernel
theorem dX12_readExpression_81 : decode cX12_readExpression 81 = .ok (.aload_n 0, 1) := by decide +kernel
theorem dX12_readExpression_82 : decode cX12_readExpression 82 = .ok (.iload_n 1, 1) := by decide +kernel
theorem dX12_readExpression_83 : decode cX12_readExpression 83 = .ok (.invokevirtual 264, 3) := by decide +kernel
theorem dX12_readExpression_86 : decode cX12_readExpression 86 = .ok (.aload_n 0, 1) := by decide +kernel
theorem dX12_readExpression_87 : decode cX12_readExpression 87 = .ok (.bipush (-27), 2) := by decide +kernel
theorem dX12_readExpression_89 : decode cX12_readExpression 89 = .ok (.invokevirtual 235, 3) := by decide +kernel
theorem dX12_readExpression_92 : decode cX12_readExpression 92 = .ok (.goto (-25), 3) := by decide +kernel
theorem dX12_readExpression_95 : decode cX12_readExpression 95 = .ok (.return_, 1) := by decide +kernel
theorem dX12_another_0 : decode cX12_another 0 = .ok (.aload_n 0, 1) := by decide +kernel
theorem dX12_another_1 : decode cX12_another 1 = .ok (.getfield 41, 3) := by decide +kernel
theorem dX12_another_4 : decode cX12_another 4 = .ok (.iconst 4, 1) := by decide +kernel
theorem dX12_another_5 : decode cX12_another 5 = .ok (.iload_n 1, 1) := by decide +kernel
theorem dX12_another_6 : decode cX12_another 6 = .ok (.iadd, 1) := by decide +kernel
theorem dX12_another_7 : decode cX12_another 7 = .ok (.iaload, 1) := by decide +kernel
theorem dX12_another_8 : decode cX12_another 8 = .ok (.iload_n 2, 1) := by decide +kernel
theorem dX12_another_9 : decode cX12_another 9 = .ok (.if_icmp .ne 8, 3) := by decide +kernel
theorem dX12_another_12 : decode cX12_another 12 = .ok (.aload_n 0, 1) := by decide +kernel
theorem dX12_another_13 : decode cX12_another 13 = .ok (.iconst 2, 1) := by decide +kernel
theorem dX12_another_14 : decode cX12_another 14 = .ok (.invokevirtual 222, 3) := by decide +kernel
theorem dX12_another_17 : decode cX12_another 17 = .ok (.aload_n 0, 1) := by decide +kernel
theorem dX12_another_18 : decode cX12_another 18 = .ok (.getfield 201, 3) := by decide +kernel
theorem dX12_another_21 : decode cX12_another 21 = .ok (.ifCond .eq 5, 3) := by decide +kernel
theorem dX12_another_24 : decode cX12_another 24 = .ok (.iconst 0, 1) := by decide +kernel
theorem dX12_another_25 : decode cX12_another 25 = .ok (.ireturn, 1) := by decide +kernel
theorem dX12_another_26 : decode cX12_another 26 = .ok (.aload_n 0, 1) := by decide +kernel
theorem dX12_another_27 : decode cX12_another 27 = .ok (.invokevirtual 226, 3) := by decide +kernel
theorem dX12_another_30 : decode cX12_another 30 = .ok (.iconst 1, 1) := by decide +kernel
theorem dX12_another_31 : decode cX12_another 31 = .ok (.ireturn, 1) := by decide +kernel
theorem dX12_sayPiece_0 : decode cX12_sayPiece 0 = .ok (.aload_n 0, 1) := by decide +kernel
theorem dX12_sayPiece_1 : decode cX12_sayPiece 1 = .ok (.iconst 0, 1) := by decide +kernel
theorem dX12_sayPiece_2 : decode cX12_sayPiece 2 = .ok (.bipush 6, 2) := by decide +kernel
theorem dX12_sayPiece_4 : decode cX12_sayPiece 4 = .ok (.invokevirtual 269, 3) := by decide +kernel
theorem dX12_sayPiece_7 : decode cX12_sayPiece 7 = .ok (.ifCond .ne 4, 3) := by decide +kernel
theorem dX12_sayPiece_10 : decode cX12_sayPiece 10 = .ok (.return_, 1) := by decide +kernel
theorem dX12_sayPiece_11 : decode cX12_sayPiece 11 = .ok (.bipush 6, 2) := by decide +kernel
theorem dX12_sayPiece_13 : decode cX12_sayPiece 13 = .ok (.aload_n 0, 1) := by decide +kernel
theorem dX12_sayPiece_14 : decode cX12_sayPiece 14 = .ok (.getfield 41, 3) := by decide +kernel
theorem dX12_sayPiece_17 : decode cX12_sayPiece 17 = .ok (.iconst 4, 1) := by decide +kernel
theorem dX12_sayPiece_18 : decode cX12_sayPiece 18 = .ok (.iaload, 1) := by decide +kernel
theorem dX12_sayPiece_19 : decode cX12_sayPiece 19 = .ok (.iadd, 1) := by decide +kernel
theorem dX12_sayPiece_20 : decode cX12_sayPiece 20 = .ok (.istore_n 2, 1) := by decide +kernel
theorem dX12_sayPiece_21 : decode cX12_sayPiece 21 = .ok (.iconst 0, 1) := by decide +kernel
theorem dX12_sayPiece_22 : decode cX12_sayPiece 22 = .ok (.istore_n 3, 1) := by decide +kernel
theorem dX12_sayPiece_23 : decode cX12_sayPiece 23 = .ok (.aload_n 0, 1) := by decide +kernel
theorem dX12_sayPiece_24 : decode cX12_sayPiece 24 = .ok (.getfield 175, 3) := by decide +kernel
theorem dX12_sayPiece_27 : decode cX12_sayPiece 27 = .ok (.iconst 2, 1) := by decide +kernel
theorem dX12_sayPiece_28 : decode cX12_sayPiece 28 = .ok (.if_icmp .eq 8, 3) := by decide +kernel
theorem dX12_sayPiece_31 : decode cX12_sayPiece 31 = .ok (.aload_n 0, 1) := by decide +kernel
theorem dX12_sayPiece_32 : decode cX12_sayPiece 32 = .ok (.iconst 1, 1) := by decide +kernel
theorem dX12_sayPiece_33 : decode cX12_sayPiece 33 = .ok (.invokevirtual 222, 3) := by decide +kernel
theorem dX12_sayPiece_36 : decode cX12_sayPiece 36 = .ok (.aload_n 0, 1) := by decide +kernel
theorem dX12_sayPiece_37 : decode cX12_sayPiece 37 = .ok (.getfield 201, 3) := by decide +kernel
theorem dX12_sayPiece_40 : decode cX12_sayPiece 40 = .ok (.ifCond .ne 60, 3) := by decide +kernel
theorem dX12_sayPiece_43 : decode cX12_sayPiece 43 = .ok (.aload_n 0, 1) := by decide +kernel
theorem dX12_sayPiece_44 : decode cX12_sayPiece 44 = .ok (.getfield 175, 3) := by decide +kernel
theorem dX12_sayPiece_47 : decode cX12_sayPiece 47 = .ok (.iconst 2, 1) := by decide +kernel
theorem dX12_sayPiece_48 : decode cX12_sayPiece 48 = .ok (.if_icmp .ne 52, 3) := by decide +kernel
theorem dX12_sayPiece_51 : decode cX12_sayPiece 51 = .ok (.iload_n 3, 1) := by decide +kernel
theorem dX12_sayPiece_52 : decode cX12_sayPiece 52 = .ok (.bipush 8, 2) := by decide +kernel
theorem dX12_sayPiece_54 : decode cX12_sayPiece 54 = .ok (.if_icmp .ne 8, 3) := by decide +kernel
theorem dX12_sayPiece_57 : decode cX12_sayPiece 57 = .ok (.aload_n 0, 1) := by decide +kernel
theorem dX12_sayPiece_58 : decode cX12_sayPiece 58 = .ok (.iconst 2, 1) := by decide +kernel
theorem dX12_sayPiece_59 : decode cX12_sayPiece 59 = .ok (.invokevirtual 222, 3) := by decide +kernel
theorem dX12_sayPiece_62 : decode cX12_sayPiece 62 = .ok (.aload_n 0, 1) := by decide +kernel
theorem dX12_sayPiece_63 : decode cX12_sayPiece 63 = .ok (.iconst 1, 1) := by decide +kernel
theorem dX12_sayPiece_64 : decode cX12_sayPiece 64 = .ok (.bipush 99, 2) := by decide +kernel
theorem dX12_sayPiece_66 : decode cX12_sayPiece 66 = .ok (.invokevirtual 232, 3) := by decide +kernel
theorem dX12_sayPiece_69 : decode cX12_sayPiece 69 = .ok (.istore 4, 2) := by decide +kernel
theorem dX12_sayPiece_71 : decode cX12_sayPiece 71 = .ok (.aload_n 0, 1) := by decide +kernel
theorem dX12_sayPiece_72 : decode cX12_sayPiece 72 = .ok (.getfield 201, 3) := by decide +kernel
theorem dX12_sayPiece_75 : decode cX12_sayPiece 75 = .ok (.ifCond .eq 6, 3) := by decide +kernel
theorem dX12_sayPiece_78 : decode cX12_sayPiece 78 = .ok (.goto (-42), 3) := by decide +kernel
theorem dX12_sayPiece_81 : decode cX12_sayPiece 81 = .ok (.aload_n 0, 1) := by decide +kernel
theorem dX12_sayPiece_82 : decode cX12_sayPiece 82 = .ok (.getfield 50, 3) := by decide +kernel
theorem dX12_sayPiece_85 : decode cX12_sayPiece 85 = .ok (.bipush 8, 2) := by decide +kernel
theorem dX12_sayPiece_87 : decode cX12_sayPiece 87 = .ok (.iload_n 2, 1) := by decide +kernel
theorem dX12_sayPiece_88 : decode cX12_sayPiece 88 = .ok (.imul, 1) := by decide +kernel
theorem dX12_sayPiece_89 : decode cX12_sayPiece 89 = .ok (.iload_n 3, 1) := by decide +kernel
theorem dX12_sayPiece_90 : decode cX12_sayPiece 90 = .ok (.iadd, 1) := by decide +kernel
theorem dX12_sayPiece_91 : decode cX12_sayPiece 91 = .ok (.iload 4, 2) := by decide +kernel
theorem dX12_sayPiece_93 : decode cX12_sayPiece 93 = .ok (.iastore, 1) := by decide +kernel
theorem dX12_sayPiece_94 : decode cX12_sayPiece 94 = .ok (.iinc 3 1, 3) := by decide +kernel
theorem dX12_sayPiece_97 : decode cX12_sayPiece 97 = .ok (.goto (-61), 3) := by decide +kernel
theorem dX12_sayPiece_100 : decode cX12_sayPiece 100 = .ok (.aload_n 0, 1) := by decide +kernel
theorem dX12_sayPiece_101 : decode cX12_sayPiece 101 = .ok (.getfield 45, 3) := by decide +kernel
theorem dX12_sayPiece_104 : decode cX12_sayPiece 104 = .ok (.iload_n 2, 1) := by decide +kernel
theorem dX12_sayPiece_105 : decode cX12_sayPiece 105 = .ok (.iload_n 1, 1) := by decide +kernel
theorem dX12_sayPiece_106 : decode cX12_sayPiece 106 = .ok (.iastore, 1) := by decide +kernel
theorem dX12_sayPiece_107 : decode cX12_sayPiece 107 = .ok (.aload_n 0, 1) := by decide +kernel
theorem dX12_sayPiece_108 : decode cX12_sayPiece 108 = .ok (.getfield 47, 3) := by decide +kernel
theorem dX12_sayPiece_111 : decode cX12_sayPiece 111 = .ok (.iload_n 2, 1) := by decide +kernel
theorem dX12_sayPiece_112 : decode cX12_sayPiece 112 = .ok (.iload_n 3, 1) := by decide +kernel
theorem dX12_sayPiece_113 : decode cX12_sayPiece 113 = .ok (.iastore, 1) := by decide +kernel
theorem dX12_sayPiece_114 : decode cX12_sayPiece 114 = .ok (.aload_n 0, 1) := by decide +kernel
theorem dX12_sayPiece_115 : decode cX12_sayPiece 115 = .ok (.getfield 41, 3) := by decide +kernel
theorem dX12_sayPiece_118 : decode cX12_sayPiece 118 = .ok (.iconst 4, 1) := by decide +kernel
theorem dX12_sayPiece_119 : decode cX12_sayPiece 119 = .ok (.dup2, 1) := by decide +kernel
theorem dX12_sayPiece_120 : decode cX12_sayPiece 120 = .ok (.iaload, 1) := by decide +kernel
theorem dX12_sayPiece_121 : decode cX12_sayPiece 121 = .ok (.iconst 1, 1) := by decide +kernel
theorem dX12_sayPiece_122 : decode cX12_sayPiece 122 = .ok (.iadd, 1) := by decide +kernel
theorem dX12_sayPiece_123 : decode cX12_sayPiece 123 = .ok (.iastore, 1) := by decide +kernel
theorem dX12_sayPiece_124 : decode cX12_sayPiece 124 = .ok (.return_, 1) := by decide +kernel
theorem dX12_sayPupil_0 : decode cX12_sayPupil 0 = .ok (.aload_n 0, 1) := by decide +kernel
theorem dX12_sayPupil_1 : decode cX12_sayPupil 1 = .ok (.iconst 1, 1) := by decide +kernel
theorem dX12_sayPupil_2 : decode cX12_sayPupil 2 = .ok (.bipush 7, 2) := by decide +kernel
theorem dX12_sayPupil_4 : decode cX12_sayPupil 4 = .ok (.invokevirtual 269, 3) := by decide +kernel
theorem dX12_sayPupil_7 : decode cX12_sayPupil 7 = .ok (.ifCond .ne 4, 3) := by decide +kernel
theorem dX12_sayPupil_10 : decode cX12_sayPupil 10 = .ok (.return_, 1) := by decide +kernel
theorem dX12_sayPupil_11 : decode cX12_sayPupil 11 = .ok (.bipush 7, 2) := by decide +kernel
theorem dX12_sayPupil_13 : decode cX12_sayPupil 13 = .ok (.aload_n 0, 1) := by decide +kernel
theorem dX12_sayPupil_14 : decode cX12_sayPupil 14 = .ok (.getfield 41, 3) := by decide +kernel
theorem dX12_sayPupil_17 : decode cX12_sayPupil 17 = .ok (.iconst 5, 1) := by decide +kernel
theorem dX12_sayPupil_18 : decode cX12_sayPupil 18 = .ok (.iaload, 1) := by decide +kernel
theorem dX12_sayPupil_19 : decode cX12_sayPupil 19 = .ok (.iadd, 1) := by decide +kernel
theorem dX12_sayPupil_20 : decode cX12_sayPupil 20 = .ok (.istore_n 2, 1) := by decide +kernel
theorem dX12_sayPupil_21 : decode cX12_sayPupil 21 = .ok (.aload_n 0, 1) := by decide +kernel
theorem dX12_sayPupil_22 : decode cX12_sayPupil 22 = .ok (.getfield 52, 3) := by decide +kernel
theorem dX12_sayPupil_25 : decode cX12_sayPupil 25 = .ok (.iload_n 2, 1) := by decide +kernel
theorem dX12_sayPupil_26 : decode cX12_sayPupil 26 = .ok (.iload_n 1, 1) := by decide +kernel
theorem dX12_sayPupil_27 : decode cX12_sayPupil 27 = .ok (.iastore, 1) := by decide +kernel
theorem dX12_sayPupil_28 : decode cX12_sayPupil 28 = .ok (.aload_n 0, 1) := by decide +kernel
theorem dX12_sayPupil_29 : decode cX12_sayPupil 29 = .ok (.getfield 54, 3) := by decide +kernel
theorem dX12_sayPupil_32 : decode cX12_sayPupil 32 = .ok (.iload_n 2, 1) := by decide +kernel
theorem dX12_sayPupil_33 : decode cX12_sayPupil 33 = .ok (.aload_n 0, 1) := by decide +kernel
theorem dX12_sayPupil_34 : decode cX12_sayPupil 34 = .ok (.iconst 0, 1) := by decide +kernel
theorem dX12_sayPupil_35 : decode cX12_sayPupil 35 = .ok (.bipush 99, 2) := by decide +kernel
theorem dX12_sayPupil_37 : decode cX12_sayPupil 37 = .ok (.invokevirtual 232, 3) := by decide +kernel
theorem dX12_sayPupil_40 : decode cX12_sayPupil 40 = .ok (.iastore, 1) := by decide +kernel
theorem dX12_sayPupil_41 : decode cX12_sayPupil 41 = .ok (.aload_n 0, 1) := by decide +kernel
theorem dX12_sayPupil_42 : decode cX12_sayPupil 42 = .ok (.getfield 57, 3) := by decide +kernel
theorem dX12_sayPupil_45 : decode cX12_sayPupil 45 = .ok (.iload_n 2, 1) := by decide +kernel
theorem dX12_sayPupil_46 : decode cX12_sayPupil 46 = .ok (.aload_n 0, 1) := by decide +kernel
theorem dX12_sayPupil_47 : decode cX12_sayPupil 47 = .ok (.iconst 0, 1) := by decide +kernel
theorem dX12_sayPupil_48 : decode cX12_sayPupil 48 = .ok (.bipush 9, 2) := by decide +kernel
theorem dX12_sayPupil_50 : decode cX12_sayPupil 50 = .ok (.invokevirtual 232, 3) := by decide +kernel
theorem dX12_sayPupil_53 : decode cX12_sayPupil 53 = .ok (.iastore, 1) := by decide +kernel
theorem dX12_sayPupil_54 : decode cX12_sayPupil 54 = .ok (.aload_n 0, 1) := by decide +kernel
theorem dX12_sayPupil_55 : decode cX12_sayPupil 55 = .ok (.iconst 0, 1) := by decide +kernel
theorem dX12_sayPupil_56 : decode cX12_sayPupil 56 = .ok (.sipush 9999, 3) := by decide +kernel
theorem dX12_sayPupil_59 : decode cX12_sayPupil 59 = .ok (.invokevirtual 229, 3) := by decide +kernel
theorem dX12_sayPupil_62 : decode cX12_sayPupil 62 = .ok (.istore_n 3, 1) := by decide +kernel
theorem dX12_sayPupil_63 : decode cX12_sayPupil 63 = .ok (.aload_n 0, 1) := by decide +kernel
theorem dX12_sayPupil_64 : decode cX12_sayPupil 64 = .ok (.getfield 201, 3) := by decide +kernel
theorem dX12_sayPupil_67 : decode cX12_sayPupil 67 = .ok (.ifCond .ne 18, 3) := by decide +kernel
theorem dX12_sayPupil_70 : decode cX12_sayPupil 70 = .ok (.iload_n 3, 1) := by decide +kernel
theorem dX12_sayPupil_71 : decode cX12_sayPupil 71 = .ok (.aload_n 0, 1) := by decide +kernel
theorem dX12_sayPupil_72 : decode cX12_sayPupil 72 = .ok (.getfield 41, 3) := by decide +kernel
theorem dX12_sayPupil_75 : decode cX12_sayPupil 75 = .ok (.iconst 4, 1) := by decide +kernel
theorem dX12_sayPupil_76 : decode cX12_sayPupil 76 = .ok (.iaload, 1) := by decide +kernel
theorem dX12_sayPupil_77 : decode cX12_sayPupil 77 = .ok (.if_icmp .lt 8, 3) := by decide +kernel
theorem dX12_sayPupil_80 : decode cX12_sayPupil 80 = .ok (.aload_n 0, 1) := by decide +kernel
theorem dX12_sayPupil_81 : decode cX12_sayPupil 81 = .ok (.iconst 3, 1) := by decide +kernel
theorem dX12_sayPupil_82 : decode cX12_sayPupil 82 = .ok (.invokevirtual 222, 3) := by decide +kernel
theorem dX12_sayPupil_85 : decode cX12_sayPupil 85 = .ok (.aload_n 0, 1) := by decide +kernel
theorem dX12_sayPupil_86 : decode cX12_sayPupil 86 = .ok (.getfield 201, 3) := by decide +kernel
theorem dX12_sayPupil_89 : decode cX12_sayPupil 89 = .ok (.ifCond .ne 7, 3) := by decide +kernel
theorem dX12_sayPupil_92 : decode cX12_sayPupil 92 = .ok (.aload_n 0, 1) := by decide +kernel
theorem dX12_sayPupil_93 : decode cX12_sayPupil 93 = .ok (.invokevirtual 226, 3) := by decide +kernel
theorem dX12_sayPupil_96 : decode cX12_sayPupil 96 = .ok (.aload_n 0, 1) := by decide +kernel
theorem dX12_sayPupil_97 : decode cX12_sayPupil 97 = .ok (.getfield 60, 3) := by decide +kernel
theorem dX12_sayPupil_100 : decode cX12_sayPupil 100 = .ok (.iload_n 2, 1) := by decide +kernel
theorem dX12_sayPupil_101 : decode cX12_sayPupil 101 = .ok (.iload_n 3, 1) := by decide +kernel
theorem dX12_sayPupil_102 : decode cX12_sayPupil 102 = .ok (.iastore, 1) := by decide +kernel
theorem dX12_sayPupil_103 : decode cX12_sayPupil 103 = .ok (.aload_n 0, 1) := by decide +kernel
theorem dX12_sayPupil_104 : decode cX12_sayPupil 104 = .ok (.getfield 41, 3) := by decide +kernel
theorem dX12_sayPupil_107 : decode cX12_sayPupil 107 = .ok (.iconst 5, 1) := by decide +kernel
theorem dX12_sayPupil_108 : decode cX12_sayPupil 108 = .ok (.dup2, 1) := by decide +kernel
theorem dX12_sayPupil_109 : decode cX12_sayPupil 109 = .ok (.iaload, 1) := by decide +kernel
theorem dX12_sayPupil_110 : decode cX12_sayPupil 110 = .ok (.iconst 1, 1) := by decide +kernel
theorem dX12_sayPupil_111 : decode cX12_sayPupil 111 = .ok (.iadd, 1) := by decide +kernel
theorem dX12_sayPupil_112 : decode cX12_sayPupil 112 = .ok (.iastore, 1) := by decide +kernel
theorem dX12_sayPupil_113 : decode cX12_sayPupil 113 = .ok (.return_, 1) := by decide +kernel
theorem dX12_readLine_0 : decode cX12_readLine 0 = .ok (.aload_n 0, 1) := by decide +kernel
theorem dX12_readLine_1 : decode cX12_readLine 1 = .ok (.aload_n 0, 1) := by decide +kernel
theorem dX12_readLine_2 : decode cX12_readLine 2 = .ok (.getfield 15, 3) := by decide +kernel
theorem dX12_readLine_5 : decode cX12_readLine 5 = .ok (.invokevirtual 238, 3) := by decide +kernel
theorem dX12_readLine_8 : decode cX12_readLine 8 = .ok (.istore_n 2, 1) := by decide +kernel
theorem dX12_readLine_9 : decode cX12_readLine 9 = .ok (.aload_n 0, 1) := by decide +kernel
theorem dX12_readLine_10 : decode cX12_readLine 10 = .ok (.aload_n 0, 1) := by decide +kernel
theorem dX12_readLine_11 : decode cX12_readLine 11 = .ok (.getfield 23, 3) := by decide +kernel
theorem dX12_readLine_14 : decode cX12_readLine 14 = .ok (.invokevirtual 238, 3) := by decide +kernel
theorem dX12_readLine_17 : decode cX12_readLine 17 = .ok (.istore_n 3, 1) := by decide +kernel
theorem dX12_readLine_18 : decode cX12_readLine 18 = .ok (.aload_n 0, 1) := by decide +kernel
theorem dX12_readLine_19 : decode cX12_readLine 19 = .ok (.ldc_w 273, 3) := by decide +kernel
theorem dX12_readLine_22 : decode cX12_readLine 22 = .ok (.invokevirtual 215, 3) := by decide +kernel
theorem dX12_readLine_25 : decode cX12_readLine 25 = .ok (.ifCond .eq 7, 3) := by decide +kernel
theorem dX12_readLine_28 : decode cX12_readLine 28 = .ok (.iconst 1, 1) := by decide +kernel
theorem dX12_readLine_29 : decode cX12_readLine 29 = .ok (.goto 18, 3) := by decide +kernel
theorem dX12_readLine_32 : decode cX12_readLine 32 = .ok (.aload_n 0, 1) := by decide +kernel
theorem dX12_readLine_33 : decode cX12_readLine 33 = .ok (.ldc_w 275, 3) := by decide +kernel
theorem dX12_readLine_36 : decode cX12_readLine 36 = .ok (.invokevirtual 215, 3) := by decide +kernel
theorem dX12_readLine_39 : decode cX12_readLine 39 = .ok (.ifCond .eq 7, 3) := by decide +kernel
theorem dX12_readLine_42 : decode cX12_readLine 42 = .ok (.iconst 2, 1) := by decide +kernel
theorem dX12_readLine_43 : decode cX12_readLine 43 = .ok (.goto 4, 3) := by decide +kernel
theorem dX12_readLine_46 : decode cX12_readLine 46 = .ok (.iconst 0, 1) := by decide +kernel
theorem dX12_readLine_47 : decode cX12_readLine 47 = .ok (.istore 4, 2) := by decide +kernel
theorem dX12_readLine_49 : decode cX12_readLine 49 = .ok (.iload 4, 2) := by decide +kernel
theorem dX12_readLine_51 : decode cX12_readLine 51 = .ok (.iload_n 1, 1) := by decide +kernel
theorem dX12_readLine_52 : decode cX12_readLine 52 = .ok (.iand, 1) := by decide +kernel
theorem dX12_readLine_53 : decode cX12_readLine 53 = .ok (.ifCond .eq 8, 3) := by decide +kernel
theorem dX12_readLine_56 : decode cX12_readLine 56 = .ok (.aload_n 0, 1) := by decide +kernel
theorem dX12_readLine_57 : decode cX12_readLine 57 = .ok (.iconst 5, 1) := by decide +kernel
theorem dX12_readLine_58 : decode cX12_readLine 58 = .ok (.invokevirtual 222, 3) := by decide +kernel
theorem dX12_readLine_61 : decode cX12_readLine 61 = .ok (.iload 4, 2) := by decide +kernel
theorem dX12_readLine_63 : decode cX12_readLine 63 = .ok (.ifCond .le 44, 3) := by decide +kernel
theorem dX12_readLine_66 : decode cX12_readLine 66 = .ok (.aload_n 0, 1) := by decide +kernel
theorem dX12_readLine_67 : decode cX12_readLine 67 = .ok (.getfield 201, 3) := by decide +kernel
theorem dX12_readLine_70 : decode cX12_readLine 70 = .ok (.ifCond .ne 7, 3) := by decide +kernel
theorem dX12_readLine_73 : decode cX12_readLine 73 = .ok (.aload_n 0, 1) := by decide +kernel
theorem dX12_readLine_74 : decode cX12_readLine 74 = .ok (.invokevirtual 226, 3) := by decide +kernel
theorem dX12_readLine_77 : decode cX12_readLine 77 = .ok (.iload 4, 2) := by decide +kernel
theorem dX12_readLine_79 : decode cX12_readLine 79 = .ok (.iconst 1, 1) := by decide +kernel
theorem dX12_readLine_80 : decode cX12_readLine 80 = .ok (.if_icmp .ne 19, 3) := by decide +kernel
theorem dX12_readLine_83 : decode cX12_readLine 83 = .ok (.aload_n 0, 1) := by decide +kernel
theorem dX12_readLine_84 : decode cX12_readLine 84 = .ok (.getfield 41, 3) := by decide +kernel
theorem dX12_readLine_87 : decode cX12_readLine 87 = .ok (.bipush 6, 2) := by decide +kernel
theorem dX12_readLine_89 : decode cX12_readLine 89 = .ok (.aload_n 0, 1) := by decide +kernel
theorem dX12_readLine_90 : decode cX12_readLine 90 = .ok (.iconst 1, 1) := by decide +kernel
theorem dX12_readLine_91 : decode cX12_readLine 91 = .ok (.iconst 4, 1) := by decide +kernel
theorem dX12_readLine_92 : decode cX12_readLine 92 = .ok (.invokevirtual 232, 3) := by decide +kernel
theorem dX12_readLine_95 : decode cX12_readLine 95 = .ok (.iastore, 1) := by decide +kernel
theorem dX12_readLine_96 : decode cX12_readLine 96 = .ok (.goto 42, 3) := by decide +kernel
theorem dX12_readLine_99 : decode cX12_readLine 99 = .ok (.aload_n 0, 1) := by decide +kernel
theorem dX12_readLine_100 : decode cX12_readLine 100 = .ok (.iconst 0, 1) := by decide +kernel
theorem dX12_readLine_101 : decode cX12_readLine 101 = .ok (.invokevirtual 245, 3) := by decide +kernel
theorem dX12_readLine_104 : decode cX12_readLine 104 = .ok (.goto 34, 3) := by decide +kernel
theorem dX12_readLine_107 : decode cX12_readLine 107 = .ok (.iload_n 2, 1) := by decide +kernel
theorem dX12_readLine_108 : decode cX12_readLine 108 = .ok (.iconst (-1), 1) := by decide +kernel
theorem dX12_readLine_109 : decode cX12_readLine 109 = .ok (.if_icmp .eq 11, 3) := by decide +kernel
theorem dX12_readLine_112 : decode cX12_readLine 112 = .ok (.aload_n 0, 1) := by decide +kernel
theorem dX12_readLine_113 : decode cX12_readLine 113 = .ok (.iload_n 2, 1) := by decide +kernel
theorem dX12_readLine_114 : decode cX12_readLine 114 = .ok (.invokevirtual 277, 3) := by decide +kernel
theorem dX12_readLine_117 : decode cX12_readLine 117 = .ok (.goto 21, 3) := by decide +kernel
theorem dX12_readLine_120 : decode cX12_readLine 120 = .ok (.iload_n 3, 1) := by decide +kernel
theorem dX12_readLine_121 : decode cX12_readLine 121 = .ok (.iconst (-1), 1) := by decide +kernel
theorem dX12_readLine_122 : decode cX12_readLine 122 = .ok (.if_icmp .eq 11, 3) := by decide +kernel
theorem dX12_readLine_125 : decode cX12_readLine 125 = .ok (.aload_n 0, 1) := by decide +kernel
theorem dX12_readLine_126 : decode cX12_readLine 126 = .ok (.iload_n 3, 1) := by decide +kernel
theorem dX12_readLine_127 : decode cX12_readLine 127 = .ok (.invokevirtual 280, 3) := by decide +kernel
theorem dX12_readLine_130 : decode cX12_readLine 130 = .ok (.goto 8, 3) := by decide +kernel
theorem dX12_readLine_133 : decode cX12_readLine 133 = .ok (.aload_n 0, 1) := by decide +kernel
theorem dX12_readLine_134 : decode cX12_readLine 134 = .ok (.iconst 1, 1) := by decide +kernel
theorem dX12_readLine_135 : decode cX12_readLine 135 = .ok (.invokevirtual 222, 3) := by decide +kernel
theorem dX12_readLine_138 : decode cX12_readLine 138 = .ok (.aload_n 0, 1) := by decide +kernel
theorem dX12_readLine_139 : decode cX12_readLine 139 = .ok (.bipush 59, 2) := by decide +kernel
theorem dX12_readLine_141 : decode cX12_readLine 141 = .ok (.invokevirtual 242, 3) := by decide +kernel
theorem dX12_readLine_144 : decode cX12_readLine 144 = .ok (.iload_n 1, 1) := by decide +kernel
theorem dX12_readLine_145 : decode cX12_readLine 145 = .ok (.iload 4, 2) := by decide +kernel
theorem dX12_readLine_147 : decode cX12_readLine 147 = .ok (.ior, 1) := by decide +kernel
theorem dX12_readLine_148 : decode cX12_readLine 148 = .ok (.ireturn, 1) := by decide +kernel
theorem dX12_school_0 : decode cX12_school 0 = .ok (.aload_n 0, 1) := by decide +kernel
theorem dX12_school_1 : decode cX12_school 1 = .ok (.iconst 0, 1) := by decide +kernel
theorem dX12_school_2 : decode cX12_school 2 = .ok (.putfield 152, 3) := by decide +kernel
theorem dX12_school_5 : decode cX12_school 5 = .ok (.iload_n 1, 1) := by decide +kernel
theorem dX12_school_6 : decode cX12_school 6 = .ok (.ifCond .lt 11, 3) := by decide +kernel
theorem dX12_school_9 : decode cX12_school 9 = .ok (.iload_n 1, 1) := by decide +kernel
theorem dX12_school_10 : decode cX12_school 10 = .ok (.aload_n 0, 1) := by decide +kernel
theorem dX12_school_11 : decode cX12_school 11 = .ok (.getfield 159, 3) := by decide +kernel
theorem dX12_school_14 : decode cX12_school 14 = .ok (.if_icmp .le 9, 3) := by decide +kernel
theorem dX12_school_17 : decode cX12_school 17 = .ok (.aload_n 0, 1) := by decide +kernel
theorem dX12_school_18 : decode cX12_school 18 = .ok (.iconst 1, 1) := by decide +kernel
theorem dX12_school_19 : decode cX12_school 19 = .ok (.invokevirtual 283, 3) := by decide +kernel
theorem dX12_school_22 : decode cX12_school 22 = .ok (.ireturn, 1) := by decide +kernel
theorem dX12_school_23 : decode cX12_school 23 = .ok (.aload_n 0, 1) := by decide +kernel
theorem dX12_school_24 : decode cX12_school 24 = .ok (.iconst 0, 1) := by decide +kernel
theorem dX12_school_25 : decode cX12_school 25 = .ok (.putfield 159, 3) := by decide +kernel
theorem dX12_school_28 : decode cX12_school 28 = .ok (.aload_n 0, 1) := by decide +kernel
theorem dX12_school_29 : decode cX12_school 29 = .ok (.iload_n 1, 1) := by decide +kernel
theorem dX12_school_30 : decode cX12_school 30 = .ok (.putfield 162, 3) := by decide +kernel
theorem dX12_school_33 : decode cX12_school 33 = .ok (.aload_n 0, 1) := by decide +kernel
theorem dX12_school_34 : decode cX12_school 34 = .ok (.iconst 0, 1) := by decide +kernel
theorem dX12_school_35 : decode cX12_school 35 = .ok (.putfield 165, 3) := by decide +kernel
theorem dX12_school_38 : decode cX12_school 38 = .ok (.aload_n 0, 1) := by decide +kernel
theorem dX12_school_39 : decode cX12_school 39 = .ok (.iconst 0, 1) := by decide +kernel
theorem dX12_school_40 : decode cX12_school 40 = .ok (.putfield 201, 3) := by decide +kernel
theorem dX12_school_43 : decode cX12_school 43 = .ok (.aload_n 0, 1) := by decide +kernel
theorem dX12_school_44 : decode cX12_school 44 = .ok (.iconst (-1), 1) := by decide +kernel
theorem dX12_school_45 : decode cX12_school 45 = .ok (.putfield 72, 3) := by decide +kernel
theorem dX12_school_48 : decode cX12_school 48 = .ok (.iconst 0, 1) := by decide +kernel
theorem dX12_school_49 : decode cX12_school 49 = .ok (.istore_n 2, 1) := by decide +kernel
theorem dX12_school_50 : decode cX12_school 50 = .ok (.iload_n 2, 1) := by decide +kernel
theorem dX12_school_51 : decode cX12_school 51 = .ok (.iconst 4, 1) := by decide +kernel
theorem dX12_school_52 : decode cX12_school 52 = .ok (.if_icmp .ge 27, 3) := by decide +kernel
theorem dX12_school_55 : decode cX12_school 55 = .ok (.aload_n 0, 1) := by decide +kernel
theorem dX12_school_56 : decode cX12_school 56 = .ok (.getfield 41, 3) := by decide +kernel
theorem dX12_school_59 : decode cX12_school 59 = .ok (.iconst 4, 1) := by decide +kernel
theorem dX12_school_60 : decode cX12_school 60 = .ok (.iload_n 2, 1) := by decide +kernel
theorem dX12_school_61 : decode cX12_school 61 = .ok (.iadd, 1) := by decide +kernel
theorem dX12_school_62 : decode cX12_school 62 = .ok (.iload_n 2, 1) := by decide +kernel
theorem dX12_school_63 : decode cX12_school 63 = .ok (.iconst 2, 1) := by decide +kernel
theorem dX12_school_64 : decode cX12_school 64 = .ok (.if_icmp .ne 7, 3) := by decide +kernel
theorem dX12_school_67 : decode cX12_school 67 = .ok (.iconst 2, 1) := by decide +kernel
theorem dX12_school_68 : decode cX12_school 68 = .ok (.goto 4, 3) := by decide +kernel
theorem dX12_school_71 : decode cX12_school 71 = .ok (.iconst 0, 1) := by decide +kernel
theorem dX12_school_72 : decode cX12_school 72 = .ok (.iastore, 1) := by decide +kernel
theorem dX12_school_73 : decode cX12_school 73 = .ok (.iinc 2 1, 3) := by decide +kernel
theorem dX12_school_76 : decode cX12_school 76 = .ok (.goto (-26), 3) := by decide +kernel
theorem dX12_school_79 : decode cX12_school 79 = .ok (.aload_n 0, 1) := by decide +kernel
theorem dX12_school_80 : decode cX12_school 80 = .ok (.invokevirtual 226, 3) := by decide +kernel
theorem dX12_school_83 : decode cX12_school 83 = .ok (.iconst 0, 1) := by decide +kernel
theorem dX12_school_84 : decode cX12_school 84 = .ok (.istore_n 2, 1) := by decide +kernel
theorem dX12_school_85 : decode cX12_school 85 = .ok (.aload_n 0, 1) := by decide +kernel
theorem dX12_school_86 : decode cX12_school 86 = .ok (.getfield 201, 3) := by decide +kernel
theorem dX12_school_89 : decode cX12_school 89 = .ok (.ifCond .ne 19, 3) := by decide +kernel
theorem dX12_school_92 : decode cX12_school 92 = .ok (.aload_n 0, 1) := by decide +kernel
theorem dX12_school_93 : decode cX12_school 93 = .ok (.getfield 175, 3) := by decide +kernel
theorem dX12_school_96 : decode cX12_school 96 = .ok (.ifCond .eq 12, 3) := by decide +kernel
theorem dX12_school_99 : decode cX12_school 99 = .ok (.aload_n 0, 1) := by decide +kernel
theorem dX12_school_100 : decode cX12_school 100 = .ok (.iload_n 2, 1) := by decide +kernel
theorem dX12_school_101 : decode cX12_school 101 = .ok (.invokevirtual 286, 3) := by decide +kernel
theorem dX12_school_104 : decode cX12_school 104 = .ok (.istore_n 2, 1) := by decide +kernel
theorem dX12_school_105 : decode cX12_school 105 = .ok (.goto (-20), 3) := by decide +kernel
theorem dX12_school_108 : decode cX12_school 108 = .ok (.aload_n 0, 1) := by decide +kernel
theorem dX12_school_109 : decode cX12_school 109 = .ok (.getfield 201, 3) := by decide +kernel
theorem dX12_school_112 : decode cX12_school 112 = .ok (.ifCond .eq 26, 3) := by decide +kernel
theorem dX12_school_115 : decode cX12_school 115 = .ok (.aload_n 0, 1) := by decide +kernel
theorem dX12_school_116 : decode cX12_school 116 = .ok (.aload_n 0, 1) := by decide +kernel
theorem dX12_school_117 : decode cX12_school 117 = .ok (.getfield 204, 3) := by decide +kernel
theorem dX12_school_120 : decode cX12_school 120 = .ok (.putfield 72, 3) := by decide +kernel
theorem dX12_school_123 : decode cX12_school 123 = .ok (.aload_n 0, 1) := by decide +kernel
theorem dX12_school_124 : decode cX12_school 124 = .ok (.getfield 66, 3) := by decide +kernel
theorem dX12_school_127 : decode cX12_school 127 = .ok (.iconst 0, 1) := by decide +kernel
theorem dX12_school_128 : decode cX12_school 128 = .ok (.dup2, 1) := by decide +kernel
theorem dX12_school_129 : decode cX12_school 129 = .ok (.iaload, 1) := by decide +kernel
theorem dX12_school_130 : decode cX12_school 130 = .ok (.iconst 1, 1) := by decide +kernel
theorem dX12_school_131 : decode cX12_school 131 = .ok (.iadd, 1) := by decide +kernel
theorem dX12_school_132 : decode cX12_school 132 = .ok (.iastore, 1) := by decide +kernel
theorem dX12_school_133 : decode cX12_school 133 = .ok (.aload_n 0, 1) := by decide +kernel
theorem dX12_school_134 : decode cX12_school 134 = .ok (.getfield 201, 3) := by decide +kernel
theorem dX12_school_137 : decode cX12_school 137 = .ok (.ireturn, 1) := by decide +kernel
theorem dX12_school_138 : decode cX12_school 138 = .ok (.aload_n 0, 1) := by decide +kernel
theorem dX12_school_139 : decode cX12_school 139 = .ok (.invokevirtual 289, 3) := by decide +kernel
theorem dX12_school_142 : decode cX12_school 142 = .ok (.iconst 0, 1) := by decide +kernel
theorem dX12_school_143 : decode cX12_school 143 = .ok (.ireturn, 1) := by decide +kernel
theorem dX12_takeHalf_0 : decode cX12_takeHalf 0 = .ok (.iconst 0, 1) := by decide +kernel
theorem dX12_takeHalf_1 : decode cX12_takeHalf 1 = .ok (.istore_n 1, 1) := by decide +kernel
theorem dX12_takeHalf_2 : decode cX12_takeHalf 2 = .ok (.iload_n 1, 1) := by decide +kernel
theorem dX12_takeHalf_3 : decode cX12_takeHalf 3 = .ok (.aload_n 0, 1) := by decide +kernel
theorem dX12_takeHalf_4 : decode cX12_takeHalf 4 = .ok (.arraylength, 1) := by decide +kernel
theorem dX12_takeHalf_5 : decode cX12_takeHalf 5 = .ok (.iconst 2, 1) := by decide +kernel
theorem dX12_takeHalf_6 : decode cX12_takeHalf 6 = .ok (.idiv, 1) := by decide +kernel
theorem dX12_takeHalf_7 : decode cX12_takeHalf 7 = .ok (.if_icmp .ge 20, 3) := by decide +kernel
theorem dX12_takeHalf_10 : decode cX12_takeHalf 10 = .ok (.aload_n 0, 1) := by decide +kernel
theorem dX12_takeHalf_11 : decode cX12_takeHalf 11 = .ok (.iload_n 1, 1) := by decide +kernel
theorem dX12_takeHalf_12 : decode cX12_takeHalf 12 = .ok (.aload_n 0, 1) := by decide +kernel
theorem dX12_takeHalf_13 : decode cX12_takeHalf 13 = .ok (.aload_n 0, 1) := by decide +kernel
theorem dX12_takeHalf_14 : decode cX12_takeHalf 14 = .ok (.arraylength, 1) := by decide +kernel
theorem dX12_takeHalf_15 : decode cX12_takeHalf 15 = .ok (.iconst 2, 1) := by decide +kernel
theorem dX12_takeHalf_16 : decode cX12_takeHalf 16 = .ok (.idiv, 1) := by decide +kernel
theorem dX12_takeHalf_17 : decode cX12_takeHalf 17 = .ok (.iload_n 1, 1) := by decide +kernel
theorem dX12_takeHalf_18 : decode cX12_takeHalf 18 = .ok (.iadd, 1) := by decide +kernel
theorem dX12_takeHalf_19 : decode cX12_takeHalf 19 = .ok (.iaload, 1) := by decide +kernel
theorem dX12_takeHalf_20 : decode cX12_takeHalf 20 = .ok (.iastore, 1) := by decide +kernel
theorem dX12_takeHalf_21 : decode cX12_takeHalf 21 = .ok (.iinc 1 1, 3) := by decide +kernel
theorem dX12_takeHalf_24 : decode cX12_takeHalf 24 = .ok (.goto (-22), 3) := by decide +kernel
theorem dX12_takeHalf_27 : decode cX12_takeHalf 27 = .ok (.return_, 1) := by decide +kernel
theorem dX12_takeOver_0 : decode cX12_takeOver 0 = .ok (.aload_n 0, 1) := by decide +kernel
theorem dX12_takeOver_1 : decode cX12_takeOver 1 = .ok (.getfield 41, 3) := by decide +kernel
theorem dX12_takeOver_4 : decode cX12_takeOver 4 = .ok (.invokestatic 292, 3) := by decide +kernel
theorem dX12_takeOver_7 : decode cX12_takeOver 7 = .ok (.aload_n 0, 1) := by decide +kernel
theorem dX12_takeOver_8 : decode cX12_takeOver 8 = .ok (.getfield 45, 3) := by decide +kernel
theorem dX12_takeOver_11 : decode cX12_takeOver 11 = .ok (.invokestatic 292, 3) := by decide +kernel
theorem dX12_takeOver_14 : decode cX12_takeOver 14 = .ok (.aload_n 0, 1) := by decide +kernel
theorem dX12_takeOver_15 : decode cX12_takeOver 15 = .ok (.getfield 47, 3) := by decide +kernel
theorem dX12_takeOver_18 : decode cX12_takeOver 18 = .ok (.invokestatic 292, 3) := by decide +kernel
theorem dX12_takeOver_21 : decode cX12_takeOver 21 = .ok (.aload_n 0, 1) := by decide +kernel
theorem dX12_takeOver_22 : decode cX12_takeOver 22 = .ok (.getfield 50, 3) := by decide +kernel
theorem dX12_takeOver_25 : decode cX12_takeOver 25 = .ok (.invokestatic 292, 3) := by decide +kernel
theorem dX12_takeOver_28 : decode cX12_takeOver 28 = .ok (.aload_n 0, 1) := by decide +kernel
theorem dX12_takeOver_29 : decode cX12_takeOver 29 = .ok (.getfield 52, 3) := by decide +kernel
theorem dX12_takeOver_32 : decode cX12_takeOver 32 = .ok (.invokestatic 292, 3) := by decide +kernel
theorem dX12_takeOver_35 : decode cX12_takeOver 35 = .ok (.aload_n 0, 1) := by decide +kernel
theorem dX12_takeOver_36 : decode cX12_takeOver 36 = .ok (.getfield 54, 3) := by decide +kernel
theorem dX12_takeOver_39 : decode cX12_takeOver 39 = .ok (.invokestatic 292, 3) := by decide +kernel
theorem dX12_takeOver_42 : decode cX12_takeOver 42 = .ok (.aload_n 0, 1) := by decide +kernel
theorem dX12_takeOver_43 : decode cX12_takeOver 43 = .ok (.getfield 57, 3) := by decide +kernel
theorem dX12_takeOver_46 : decode cX12_takeOver 46 = .ok (.invokestatic 292, 3) := by decide +kernel
theorem dX12_takeOver_49 : decode cX12_takeOver 49 = .ok (.aload_n 0, 1) := by decide +kernel
theorem dX12_takeOver_50 : decode cX12_takeOver 50 = .ok (.getfield 60, 3) := by decide +kernel
theorem dX12_takeOver_53 : decode cX12_takeOver 53 = .ok (.invokestatic 292, 3) := by decide +kernel
theorem dX12_takeOver_56 : decode cX12_takeOver 56 = .ok (.aload_n 0, 1) := by decide +kernel
theorem dX12_takeOver_57 : decode cX12_takeOver 57 = .ok (.getfield 63, 3) := by decide +kernel
theorem dX12_takeOver_60 : decode cX12_takeOver 60 = .ok (.invokestatic 292, 3) := by decide +kernel
theorem dX12_takeOver_63 : decode cX12_takeOver 63 = .ok (.aload_n 0, 1) := by decide +kernel
theorem dX12_takeOver_64 : decode cX12_takeOver 64 = .ok (.iconst 0, 1) := by decide +kernel
theorem dX12_takeOver_65 : decode cX12_takeOver 65 = .ok (.putfield 296, 3) := by decide +kernel
theorem dX12_takeOver_68 : decode cX12_takeOver 68 = .ok (.aload_n 0, 1) := by decide +kernel
theorem dX12_takeOver_69 : decode cX12_takeOver 69 = .ok (.aload_n 0, 1) := by decide +kernel
theorem dX12_takeOver_70 : decode cX12_takeOver 70 = .ok (.getfield 41, 3) := by decide +kernel
theorem dX12_takeOver_73 : decode cX12_takeOver 73 = .ok (.iconst 2, 1) := by decide +kernel
theorem dX12_takeOver_74 : decode cX12_takeOver 74 = .ok (.iaload, 1) := by decide +kernel
theorem dX12_takeOver_75 : decode cX12_takeOver 75 = .ok (.putfield 149, 3) := by decide +kernel
theorem dX12_takeOver_78 : decode cX12_takeOver 78 = .ok (.iconst 0, 1) := by decide +kernel
theorem dX12_takeOver_79 : decode cX12_takeOver 79 = .ok (.istore_n 1, 1) := by decide +kernel
theorem dX12_takeOver_80 : decode cX12_takeOver 80 = .ok (.iload_n 1, 1) := by decide +kernel
theorem dX12_takeOver_81 : decode cX12_takeOver 81 = .ok (.bipush 7, 2) := by decide +kernel
theorem dX12_takeOver_83 : decode cX12_takeOver 83 = .ok (.if_icmp .ge 99, 3) := by decide +kernel
theorem dX12_takeOver_86 : decode cX12_takeOver 86 = .ok (.iload_n 1, 1) := by decide +kernel
theorem dX12_takeOver_87 : decode cX12_takeOver 87 = .ok (.aload_n 0, 1) := by decide +kernel
theorem dX12_takeOver_88 : decode cX12_takeOver 88 = .ok (.getfield 41, 3) := by decide +kernel
theorem dX12_takeOver_91 : decode cX12_takeOver 91 = .ok (.iconst 1, 1) := by decide +kernel
theorem dX12_takeOver_92 : decode cX12_takeOver 92 = .ok (.iaload, 1) := by decide +kernel
theorem dX12_takeOver_93 : decode cX12_takeOver 93 = .ok (.if_icmp .ge 7, 3) := by decide +kernel
theorem dX12_takeOver_96 : decode cX12_takeOver 96 = .ok (.iconst 1, 1) := by decide +kernel
theorem dX12_takeOver_97 : decode cX12_takeOver 97 = .ok (.goto 4, 3) := by decide +kernel
theorem dX12_takeOver_100 : decode cX12_takeOver 100 = .ok (.iconst 0, 1) := by decide +kernel
theorem dX12_takeOver_101 : decode cX12_takeOver 101 = .ok (.istore_n 2, 1) := by decide +kernel
theorem dX12_takeOver_102 : decode cX12_takeOver 102 = .ok (.aload_n 0, 1) := by decide +kernel
theorem dX12_takeOver_103 : decode cX12_takeOver 103 = .ok (.getfield 76, 3) := by decide +kernel
theorem dX12_takeOver_106 : decode cX12_takeOver 106 = .ok (.iload_n 1, 1) := by decide +kernel
theorem dX12_takeOver_107 : decode cX12_takeOver 107 = .ok (.iload_n 2, 1) := by decide +kernel
theorem dX12_takeOver_108 : decode cX12_takeOver 108 = .ok (.ifCond .eq 12, 3) := by decide +kernel
theorem dX12_takeOver_111 : decode cX12_takeOver 111 = .ok (.aload_n 0, 1) := by decide +kernel
theorem dX12_takeOver_112 : decode cX12_takeOver 112 = .ok (.getfield 54, 3) := by decide +kernel
theorem dX12_takeOver_115 : decode cX12_takeOver 115 = .ok (.iload_n 1, 1) := by decide +kernel
theorem dX12_takeOver_116 : decode cX12_takeOver 116 = .ok (.iaload, 1) := by decide +kernel
theorem dX12_takeOver_117 : decode cX12_takeOver 117 = .ok (.goto 4, 3) := by decide +kernel
theorem dX12_takeOver_120 : decode cX12_takeOver 120 = .ok (.iconst 0, 1) := by decide +kernel
theorem dX12_takeOver_121 : decode cX12_takeOver 121 = .ok (.iastore, 1) := by decide +kernel
theorem dX12_takeOver_122 : decode cX12_takeOver 122 = .ok (.aload_n 0, 1) := by decide +kernel
theorem dX12_takeOver_123 : decode cX12_takeOver 123 = .ok (.getfield 79, 3) := by decide +kernel
theorem dX12_takeOver_126 : decode cX12_takeOver 126 = .ok (.iload_n 1, 1) := by decide +kernel
theorem dX12_takeOver_127 : decode cX12_takeOver 127 = .ok (.iload_n 2, 1) := by decide +kernel
theorem dX12_takeOver_128 : decode cX12_takeOver 128 = .ok (.ifCond .eq 12, 3) := by decide +kernel
theorem dX12_takeOver_131 : decode cX12_takeOver 131 = .ok (.aload_n 0, 1) := by decide +kernel
theorem dX12_takeOver_132 : decode cX12_takeOver 132 = .ok (.getfield 57, 3) := by decide +kernel
theorem dX12_takeOver_135 : decode cX12_takeOver 135 = .ok (.iload_n 1, 1) := by decide +kernel
theorem dX12_takeOver_136 : decode cX12_takeOver 136 = .ok (.iaload, 1) := by decide +kernel
theorem dX12_takeOver_137 : decode cX12_takeOver 137 = .ok (.goto 4, 3) := by decide +kernel
theorem dX12_takeOver_140 : decode cX12_takeOver 140 = .ok (.iconst 0, 1) := by decide +kernel
theorem dX12_takeOver_141 : decode cX12_takeOver 141 = .ok (.iastore, 1) := by decide +kernel
theorem dX12_takeOver_142 : decode cX12_takeOver 142 = .ok (.aload_n 0, 1) := by decide +kernel
theorem dX12_takeOver_143 : decode cX12_takeOver 143 = .ok (.getfield 82, 3) := by decide +kernel
theorem dX12_takeOver_146 : decode cX12_takeOver 146 = .ok (.iload_n 1, 1) := by decide +kernel
theorem dX12_takeOver_147 : decode cX12_takeOver 147 = .ok (.iload_n 2, 1) := by decide +kernel
theorem dX12_takeOver_148 : decode cX12_takeOver 148 = .ok (.ifCond .eq 12, 3) := by decide +kernel
theorem dX12_takeOver_151 : decode cX12_takeOver 151 = .ok (.aload_n 0, 1) := by decide +kernel
theorem dX12_takeOver_152 : decode cX12_takeOver 152 = .ok (.getfield 60, 3) := by decide +kernel
theorem dX12_takeOver_155 : decode cX12_takeOver 155 = .ok (.iload_n 1, 1) := by decide +kernel
theorem dX12_takeOver_156 : decode cX12_takeOver 156 = .ok (.iaload, 1) := by decide +kernel
theorem dX12_takeOver_157 : decode cX12_takeOver 157 = .ok (.goto 4, 3) := by decide +kernel
theorem dX12_takeOver_160 : decode cX12_takeOver 160 = .ok (.iconst 0, 1) := by decide +kernel
theorem dX12_takeOver_161 : decode cX12_takeOver 161 = .ok (.iastore, 1) := by decide +kernel
theorem dX12_takeOver_162 : decode cX12_takeOver 162 = .ok (.aload_n 0, 1) := by decide +kernel
theorem dX12_takeOver_163 : decode cX12_takeOver 163 = .ok (.getfield 85, 3) := by decide +kernel
theorem dX12_takeOver_166 : decode cX12_takeOver 166 = .ok (.iload_n 1, 1) := by decide +kernel
theorem dX12_takeOver_167 : decode cX12_takeOver 167 = .ok (.iconst 0, 1) := by decide +kernel
theorem dX12_takeOver_168 : decode cX12_takeOver 168 = .ok (.iastore, 1) := by decide +kernel
theorem dX12_takeOver_169 : decode cX12_takeOver 169 = .ok (.aload_n 0, 1) := by decide +kernel
theorem dX12_takeOver_170 : decode cX12_takeOver 170 = .ok (.getfield 87, 3) := by decide +kernel
theorem dX12_takeOver_173 : decode cX12_takeOver 173 = .ok (.iload_n 1, 1) := by decide +kernel
theorem dX12_takeOver_174 : decode cX12_takeOver 174 = .ok (.iconst 0, 1) := by decide +kernel
theorem dX12_takeOver_175 : decode cX12_takeOver 175 = .ok (.iastore, 1) := by decide +kernel
theorem dX12_takeOver_176 : decode cX12_takeOver 176 = .ok (.iinc 1 1, 3) := by decide +kernel
theorem dX12_takeOver_179 : decode cX12_takeOver 179 = .ok (.goto (-99), 3) := by decide +kernel
theorem dX12_takeOver_182 : decode cX12_takeOver 182 = .ok (.aload_n 0, 1) := by decide +kernel
theorem dX12_takeOver_183 : decode cX12_takeOver 183 = .ok (.iconst 0, 1) := by decide +kernel
theorem dX12_takeOver_184 : decode cX12_takeOver 184 = .ok (.putfield 299, 3) := by decide +kernel
theorem dX12_takeOver_187 : decode cX12_takeOver 187 = .ok (.aload_n 0, 1) := by decide +kernel
theorem dX12_takeOver_188 : decode cX12_takeOver 188 = .ok (.iconst 0, 1) := by decide +kernel
theorem dX12_takeOver_189 : decode cX12_takeOver 189 = .ok (.putfield 302, 3) := by decide +kernel
theorem dX12_takeOver_192 : decode cX12_takeOver 192 = .ok (.aload_n 0, 1) := by decide +kernel
theorem dX12_takeOver_193 : decode cX12_takeOver 193 = .ok (.iconst 0, 1) := by decide +kernel
theorem dX12_takeOver_194 : decode cX12_takeOver 194 = .ok (.putfield 305, 3) := by decide +kernel
theorem dX12_takeOver_197 : decode cX12_takeOver 197 = .ok (.return_, 1) := by decide +kernel
theorem dX12_fault_0 : decode cX12_fault 0 = .ok (.aload_n 0, 1) := by decide +kernel
theorem dX12_fault_1 : decode cX12_fault 1 = .ok (.iconst 0, 1) := by decide +kernel
theorem dX12_fault_2 : decode cX12_fault 2 = .ok (.putfield 152, 3) := by decide +kernel
theorem dX12_fault_5 : decode cX12_fault 5 = .ok (.aload_n 0, 1) := by decide +kernel
theorem dX12_fault_6 : decode cX12_fault 6 = .ok (.getfield 72, 3) := by decide +kernel
theorem dX12_fault_9 : decode cX12_fault 9 = .ok (.ireturn, 1) := by decide +kernel
theorem dX12_pack_0 : decode cX12_pack 0 = .ok (.aload_n 1, 1) := by decide +kernel
theorem dX12_pack_1 : decode cX12_pack 1 = .ok (.iload_n 2, 1) := by decide +kernel
theorem dX12_pack_2 : decode cX12_pack 2 = .ok (.aload_n 0, 1) := by decide +kernel
theorem dX12_pack_3 : decode cX12_pack 3 = .ok (.getfield 296, 3) := by decide +kernel
theorem dX12_pack_6 : decode cX12_pack 6 = .ok (.iastore, 1) := by decide +kernel
theorem dX12_pack_7 : decode cX12_pack 7 = .ok (.aload_n 1, 1) := by decide +kernel
theorem dX12_pack_8 : decode cX12_pack 8 = .ok (.iload_n 2, 1) := by decide +kernel
theorem dX12_pack_9 : decode cX12_pack 9 = .ok (.iconst 1, 1) := by decide +kernel
theorem dX12_pack_10 : decode cX12_pack 10 = .ok (.iadd, 1) := by decide +kernel
theorem dX12_pack_11 : decode cX12_pack 11 = .ok (.aload_n 0, 1) := by decide +kernel
theorem dX12_pack_12 : decode cX12_pack 12 = .ok (.getfield 149, 3) := by decide +kernel
theorem dX12_pack_15 : decode cX12_pack 15 = .ok (.iastore, 1) := by decide +kernel
theorem dX12_pack_16 : decode cX12_pack 16 = .ok (.iload_n 2, 1) := by decide +kernel
theorem dX12_pack_17 : decode cX12_pack 17 = .ok (.iconst 2, 1) := by decide +kernel
theorem dX12_pack_18 : decode cX12_pack 18 = .ok (.iadd, 1) := by decide +kernel
theorem dX12_pack_19 : decode cX12_pack 19 = .ok (.istore_n 3, 1) := by decide +kernel
theorem dX12_pack_20 : decode cX12_pack 20 = .ok (.iconst 0, 1) := by decide +kernel
theorem dX12_pack_21 : decode cX12_pack 21 = .ok (.istore 4, 2) := by decide +kernel
theorem dX12_pack_23 : decode cX12_pack 23 = .ok (.iload 4, 2) := by decide +kernel
theorem dX12_pack_25 : decode cX12_pack 25 = .ok (.bipush 7, 2) := by decide +kernel
theorem dX12_pack_27 : decode cX12_pack 27 = .ok (.if_icmp .ge 86, 3) := by decide +kernel
theorem dX12_pack_30 : decode cX12_pack 30 = .ok (.aload_n 1, 1) := by decide +kernel
theorem dX12_pack_31 : decode cX12_pack 31 = .ok (.iload_n 3, 1) := by decide +kernel
theorem dX12_pack_32 : decode cX12_pack 32 = .ok (.iload 4, 2) := by decide +kernel
theorem dX12_pack_34 : decode cX12_pack 34 = .ok (.iadd, 1) := by decide +kernel
theorem dX12_pack_35 : decode cX12_pack 35 = .ok (.aload_n 0, 1) := by decide +kernel
theorem dX12_pack_36 : decode cX12_pack 36 = .ok (.getfield 76, 3) := by decide +kernel
theorem dX12_pack_39 : decode cX12_pack 39 = .ok (.iload 4, 2) := by decide +kernel
theorem dX12_pack_41 : decode cX12_pack 41 = .ok (.iaload, 1) := by decide +kernel
theorem dX12_pack_42 : decode cX12_pack 42 = .ok (.iastore, 1) := by decide +kernel
theorem dX12_pack_43 : decode cX12_pack 43 = .ok (.aload_n 1, 1) := by decide +kernel
theorem dX12_pack_44 : decode cX12_pack 44 = .ok (.iload_n 3, 1) := by decide +kernel
theorem dX12_pack_45 : decode cX12_pack 45 = .ok (.bipush 7, 2) := by decide +kernel
theorem dX12_pack_47 : decode cX12_pack 47 = .ok (.iadd, 1) := by decide +kernel
theorem dX12_pack_48 : decode cX12_pack 48 = .ok (.iload 4, 2) := by decide +kernel
theorem dX12_pack_50 : decode cX12_pack 50 = .ok (.iadd, 1) := by decide +kernel
theorem dX12_pack_51 : decode cX12_pack 51 = .ok (.aload_n 0, 1) := by decide +kernel
theorem dX12_pack_52 : decode cX12_pack 52 = .ok (.getfield 79, 3) := by decide +kernel
theorem dX12_pack_55 : decode cX12_pack 55 = .ok (.iload 4, 2) := by decide +kernel
theorem dX12_pack_57 : decode cX12_pack 57 = .ok (.iaload, 1) := by decide +kernel
theorem dX12_pack_58 : decode cX12_pack 58 = .ok (.iastore, 1) := by decide +kernel
theorem dX12_pack_59 : decode cX12_pack 59 = .ok (.aload_n 1, 1) := by decide +kernel
theorem dX12_pack_60 : decode cX12_pack 60 = .ok (.iload_n 3, 1) := by decide +kernel
theorem dX12_pack_61 : decode cX12_pack 61 = .ok (.bipush 14, 2) := by decide +kernel
theorem dX12_pack_63 : decode cX12_pack 63 = .ok (.iadd, 1) := by decide +kernel
theorem dX12_pack_64 : decode cX12_pack 64 = .ok (.iload 4, 2) := by decide +kernel
theorem dX12_pack_66 : decode cX12_pack 66 = .ok (.iadd, 1) := by decide +kernel
theorem dX12_pack_67 : decode cX12_pack 67 = .ok (.aload_n 0, 1) := by decide +kernel
theorem dX12_pack_68 : decode cX12_pack 68 = .ok (.getfield 82, 3) := by decide +kernel
theorem dX12_pack_71 : decode cX12_pack 71 = .ok (.iload 4, 2) := by decide +kernel
theorem dX12_pack_73 : decode cX12_pack 73 = .ok (.iaload, 1) := by decide +kernel
theorem dX12_pack_74 : decode cX12_pack 74 = .ok (.iastore, 1) := by decide +kernel
theorem dX12_pack_75 : decode cX12_pack 75 = .ok (.aload_n 1, 1) := by decide +kernel
theorem dX12_pack_76 : decode cX12_pack 76 = .ok (.iload_n 3, 1) := by decide +kernel
theorem dX12_pack_77 : decode cX12_pack 77 = .ok (.bipush 21, 2) := by decide +kernel
theorem dX12_pack_79 : decode cX12_pack 79 = .ok (.iadd, 1) := by decide +kernel
theorem dX12_pack_80 : decode cX12_pack 80 = .ok (.iload 4, 2) := by decide +kernel
theorem dX12_pack_82 : decode cX12_pack 82 = .ok (.iadd, 1) := by decide +kernel
theorem dX12_pack_83 : decode cX12_pack 83 = .ok (.aload_n 0, 1) := by decide +kernel
theorem dX12_pack_84 : decode cX12_pack 84 = .ok (.getfield 85, 3) := by decide +kernel
theorem dX12_pack_87 : decode cX12_pack 87 = .ok (.iload 4, 2) := by decide +kernel
theorem dX12_pack_89 : decode cX12_pack 89 = .ok (.iaload, 1) := by decide +kernel
theorem dX12_pack_90 : decode cX12_pack 90 = .ok (.iastore, 1) := by decide +kernel
theorem dX12_pack_91 : decode cX12_pack 91 = .ok (.aload_n 1, 1) := by decide +kernel
theorem dX12_pack_92 : decode cX12_pack 92 = .ok (.iload_n 3, 1) := by decide +kernel
theorem dX12_pack_93 : decode cX12_pack 93 = .ok (.bipush 28, 2) := by decide +kernel
theorem dX12_pack_95 : decode cX12_pack 95 = .ok (.iadd, 1) := by decide +kernel
theorem dX12_pack_96 : decode cX12_pack 96 = .ok (.iload 4, 2) := by decide +kernel
theorem dX12_pack_98 : decode cX12_pack 98 = .ok (.iadd, 1) := by decide +kernel
theorem dX12_pack_99 : decode cX12_pack 99 = .ok (.aload_n 0, 1) := by decide +kernel
theorem dX12_pack_100 : decode cX12_pack 100 = .ok (.getfield 87, 3) := by decide +kernel
theorem dX12_pack_103 : decode cX12_pack 103 = .ok (.iload 4, 2) := by decide +kernel
theorem dX12_pack_105 : decode cX12_pack 105 = .ok (.iaload, 1) := by decide +kernel
theorem dX12_pack_106 : decode cX12_pack 106 = .ok (.iastore, 1) := by decide +kernel
theorem dX12_pack_107 : decode cX12_pack 107 = .ok (.iinc 4 1, 3) := by decide +kernel
theorem dX12_pack_110 : decode cX12_pack 110 = .ok (.goto (-87), 3) := by decide +kernel
theorem dX12_pack_113 : decode cX12_pack 113 = .ok (.return_, 1) := by decide +kernel
theorem dX12_unpack_0 : decode cX12_unpack 0 = .ok (.aload_n 0, 1) := by decide +kernel
theorem dX12_unpack_1 : decode cX12_unpack 1 = .ok (.aload_n 1, 1) := by decide +kernel
theorem dX12_unpack_2 : decode cX12_unpack 2 = .ok (.iload_n 2, 1) := by decide +kernel
theorem dX12_unpack_3 : decode cX12_unpack 3 = .ok (.iaload, 1) := by decide +kernel
theorem dX12_unpack_4 : decode cX12_unpack 4 = .ok (.putfield 296, 3) := by decide +kernel
theorem dX12_unpack_7 : decode cX12_unpack 7 = .ok (.aload_n 0, 1) := by decide +kernel
theorem dX12_unpack_8 : decode cX12_unpack 8 = .ok (.aload_n 1, 1) := by decide +kernel
theorem dX12_unpack_9 : decode cX12_unpack 9 = .ok (.iload_n 2, 1) := by decide +kernel
theorem dX12_unpack_10 : decode cX12_unpack 10 = .ok (.iconst 1, 1) := by decide +kernel
theorem dX12_unpack_11 : decode cX12_unpack 11 = .ok (.iadd, 1) := by decide +kernel
theorem dX12_unpack_12 : decode cX12_unpack 12 = .ok (.iaload, 1) := by decide +kernel
theorem dX12_unpack_13 : decode cX12_unpack 13 = .ok (.putfield 149, 3) := by decide +kernel
theorem dX12_unpack_16 : decode cX12_unpack 16 = .ok (.iload_n 2, 1) := by decide +kernel
theorem dX12_unpack_17 : decode cX12_unpack 17 = .ok (.iconst 2, 1) := by decide +kernel
theorem dX12_unpack_18 : decode cX12_unpack 18 = .ok (.iadd, 1) := by decide +kernel
theorem dX12_unpack_19 : decode cX12_unpack 19 = .ok (.istore_n 3, 1) := by decide +kernel
theorem dX12_unpack_20 : decode cX12_unpack 20 = .ok (.iconst 0, 1) := by decide +kernel
theorem dX12_unpack_21 : decode cX12_unpack 21 = .ok (.istore 4, 2) := by decide +kernel
theorem dX12_unpack_23 : decode cX12_unpack 23 = .ok (.iload 4, 2) := by decide +kernel
theorem dX12_unpack_25 : decode cX12_unpack 25 = .ok (.bipush 7, 2) := by decide +kernel
theorem dX12_unpack_27 : decode cX12_unpack 27 = .ok (.if_icmp .ge 86, 3) := by decide +kernel
theorem dX12_unpack_30 : decode cX12_unpack 30 = .ok (.aload_n 0, 1) := by decide +kernel
theorem dX12_unpack_31 : decode cX12_unpack 31 = .ok (.getfield 76, 3) := by decide +kernel
theorem dX12_unpack_34 : decode cX12_unpack 34 = .ok (.iload 4, 2) := by decide +kernel
theorem dX12_unpack_36 : decode cX12_unpack 36 = .ok (.aload_n 1, 1) := by decide +kernel
theorem dX12_unpack_37 : decode cX12_unpack 37 = .ok (.iload_n 3, 1) := by decide +kernel
theorem dX12_unpack_38 : decode cX12_unpack 38 = .ok (.iload 4, 2) := by decide +kernel
theorem dX12_unpack_40 : decode cX12_unpack 40 = .ok (.iadd, 1) := by decide +kernel
theorem dX12_unpack_41 : decode cX12_unpack 41 = .ok (.iaload, 1) := by decide +kernel
theorem dX12_unpack_42 : decode cX12_unpack 42 = .ok (.iastore, 1) := by decide +kernel
theorem dX12_unpack_43 : decode cX12_unpack 43 = .ok (.aload_n 0, 1) := by decide +kernel
theorem dX12_unpack_44 : decode cX12_unpack 44 = .ok (.getfield 79, 3) := by decide +kernel
theorem dX12_unpack_47 : decode cX12_unpack 47 = .ok (.iload 4, 2) := by decide +kernel
theorem dX12_unpack_49 : decode cX12_unpack 49 = .ok (.aload_n 1, 1) := by decide +kernel
theorem dX12_unpack_50 : decode cX12_unpack 50 = .ok (.iload_n 3, 1) := by decide +kernel
theorem dX12_unpack_51 : decode cX12_unpack 51 = .ok (.bipush 7, 2) := by decide +kernel
theorem dX12_unpack_53 : decode cX12_unpack 53 = .ok (.iadd, 1) := by decide +kernel
theorem dX12_unpack_54 : decode cX12_unpack 54 = .ok (.iload 4, 2) := by decide +kernel
theorem dX12_unpack_56 : decode cX12_unpack 56 = .ok (.iadd, 1) := by decide +kernel
theorem dX12_unpack_57 : decode cX12_unpack 57 = .ok (.iaload, 1) := by decide +kernel
theorem dX12_unpack_58 : decode cX12_unpack 58 = .ok (.iastore, 1) := by decide +kernel
theorem dX12_unpack_59 : decode cX12_unpack 59 = .ok (.aload_n 0, 1) := by decide +kernel
theorem dX12_unpack_60 : decode cX12_unpack 60 = .ok (.getfield 82, 3) := by decide +kernel
theorem dX12_unpack_63 : decode cX12_unpack 63 = .ok (.iload 4, 2) := by decide +kernel
theorem dX12_unpack_65 : decode cX12_unpack 65 = .ok (.aload_n 1, 1) := by decide +kernel
theorem dX12_unpack_66 : decode cX12_unpack 66 = .ok (.iload_n 3, 1) := by decide +kernel
theorem dX12_unpack_67 : decode cX12_unpack 67 = .ok (.bipush 14, 2) := by decide +kernel
theorem dX12_unpack_69 : decode cX12_unpack 69 = .ok (.iadd, 1) := by decide +kernel
theorem dX12_unpack_70 : decode cX12_unpack 70 = .ok (.iload 4, 2) := by decide +kernel
theorem dX12_unpack_72 : decode cX12_unpack 72 = .ok (.iadd, 1) := by decide +kernel
theorem dX12_unpack_73 : decode cX12_unpack 73 = .ok (.iaload, 1) := by decide +kernel
theorem dX12_unpack_74 : decode cX12_unpack 74 = .ok (.iastore, 1) := by decide +kernel
theorem dX12_unpack_75 : decode cX12_unpack 75 = .ok (.aload_n 0, 1) := by decide +kernel
theorem dX12_unpack_76 : decode cX12_unpack 76 = .ok (.getfield 85, 3) := by decide +kernel
theorem dX12_unpack_79 : decode cX12_unpack 79 = .ok (.iload 4, 2) := by decide +kernel
theorem dX12_unpack_81 : decode cX12_unpack 81 = .ok (.aload_n 1, 1) := by decide +kernel
theorem dX12_unpack_82 : decode cX12_unpack 82 = .ok (.iload_n 3, 1) := by decide +kernel
theorem dX12_unpack_83 : decode cX12_unpack 83 = .ok (.bipush 21, 2) := by decide +kernel
theorem dX12_unpack_85 : decode cX12_unpack 85 = .ok (.iadd, 1) := by decide +kernel
theorem dX12_unpack_86 : decode cX12_unpack 86 = .ok (.iload 4, 2) := by decide +kernel
theorem dX12_unpack_88 : decode cX12_unpack 88 = .ok (.iadd, 1) := by decide +kernel
theorem dX12_unpack_89 : decode cX12_unpack 89 = .ok (.iaload, 1) := by decide +kernel
theorem dX12_unpack_90 : decode cX12_unpack 90 = .ok (.iastore, 1) := by decide +kernel
theorem dX12_unpack_91 : decode cX12_unpack 91 = .ok (.aload_n 0, 1) := by decide +kernel
theorem dX12_unpack_92 : decode cX12_unpack 92 = .ok (.getfield 87, 3) := by decide +kernel
theorem dX12_unpack_95 : decode cX12_unpack 95 = .ok (.iload 4, 2) := by decide +kernel
theorem dX12_unpack_97 : decode cX12_unpack 97 = .ok (.aload_n 1, 1) := by decide +kernel
theorem dX12_unpack_98 : decode cX12_unpack 98 = .ok (.iload_n 3, 1) := by decide +kernel
theorem dX12_unpack_99 : decode cX12_unpack 99 = .ok (.bipush 28, 2) := by decide +kernel
theorem dX12_unpack_101 : decode cX12_unpack 101 = .ok (.iadd, 1) := by decide +kernel
theorem dX12_unpack_102 : decode cX12_unpack 102 = .ok (.iload 4, 2) := by decide +kernel
theorem dX12_unpack_104 : decode cX12_unpack 104 = .ok (.iadd, 1) := by decide +kernel
theorem dX12_unpack_105 : decode cX12_unpack 105 = .ok (.iaload, 1) := by decide +kernel
theorem dX12_unpack_106 : decode cX12_unpack 106 = .ok (.iastore, 1) := by decide +kernel
theorem dX12_unpack_107 : decode cX12_unpack 107 = .ok (.iinc 4 1, 3) := by decide +kernel
theorem dX12_unpack_110 : decode cX12_unpack 110 = .ok (.goto (-87), 3) := by decide +kernel
theorem dX12_unpack_113 : decode cX12_unpack 113 = .ok (.return_, 1) := by decide +kernel
theorem dX12_reckon_0 : decode cX12_reckon 0 = .ok (.iload_n 0, 1) := by decide +kernel
theorem dX12_reckon_1 : decode cX12_reckon 1 = .ok (.tableswitch 103 (-26) (-20) #[89, 78, 67, 55, 51, 47, 43], 43) := by decide +kernel
theorem dX12_reckon_44 : decode cX12_reckon 44 = .ok (.iload_n 1, 1) := by decide +kernel
theorem dX12_reckon_45 : decode cX12_reckon 45 = .ok (.iload_n 2, 1) := by decide +kernel
theorem dX12_reckon_46 : decode cX12_reckon 46 = .ok (.iadd, 1) := by decide +kernel
theorem dX12_reckon_47 : decode cX12_reckon 47 = .ok (.ireturn, 1) := by decide +kernel
theorem dX12_reckon_48 : decode cX12_reckon 48 = .ok (.iload_n 1, 1) := by decide +kernel
theorem dX12_reckon_49 : decode cX12_reckon 49 = .ok (.iload_n 2, 1) := by decide +kernel
theorem dX12_reckon_50 : decode cX12_reckon 50 = .ok (.isub, 1) := by decide +kernel
theorem dX12_reckon_51 : decode cX12_reckon 51 = .ok (.ireturn, 1) := by decide +kernel
theorem dX12_reckon_52 : decode cX12_reckon 52 = .ok (.iload_n 1, 1) := by decide +kernel
theorem dX12_reckon_53 : decode cX12_reckon 53 = .ok (.iload_n 2, 1) := by decide +kernel
theorem dX12_reckon_54 : decode cX12_reckon 54 = .ok (.imul, 1) := by decide +kernel
theorem dX12_reckon_55 : decode cX12_reckon 55 = .ok (.ireturn, 1) := by decide +kernel
theorem dX12_reckon_56 : decode cX12_reckon 56 = .ok (.iload_n 2, 1) := by decide +kernel
theorem dX12_reckon_57 : decode cX12_reckon 57 = .ok (.ifCond .ne 7, 3) := by decide +kernel
theorem dX12_reckon_60 : decode cX12_reckon 60 = .ok (.iconst 0, 1) := by decide +kernel
theorem dX12_reckon_61 : decode cX12_reckon 61 = .ok (.goto 6, 3) := by decide +kernel
theorem dX12_reckon_64 : decode cX12_reckon 64 = .ok (.iload_n 1, 1) := by decide +kernel
theorem dX12_reckon_65 : decode cX12_reckon 65 = .ok (.iload_n 2, 1) := by decide +kernel
theorem dX12_reckon_66 : decode cX12_reckon 66 = .ok (.idiv, 1) := by decide +kernel
theorem dX12_reckon_67 : decode cX12_reckon 67 = .ok (.ireturn, 1) := by decide +kernel
theorem dX12_reckon_68 : decode cX12_reckon 68 = .ok (.iload_n 1, 1) := by decide +kernel
theorem dX12_reckon_69 : decode cX12_reckon 69 = .ok (.iload_n 2, 1) := by decide +kernel
theorem dX12_reckon_70 : decode cX12_reckon 70 = .ok (.if_icmp .ge 7, 3) := by decide +kernel
theorem dX12_reckon_73 : decode cX12_reckon 73 = .ok (.iconst 1, 1) := by decide +kernel
theorem dX12_reckon_74 : decode cX12_reckon 74 = .ok (.goto 4, 3) := by decide +kernel
theorem dX12_reckon_77 : decode cX12_reckon 77 = .ok (.iconst 0, 1) := by decide +kernel
theorem dX12_reckon_78 : decode cX12_reckon 78 = .ok (.ireturn, 1) := by decide +kernel
theorem dX12_reckon_79 : decode cX12_reckon 79 = .ok (.iload_n 1, 1) := by decide +kernel
theorem dX12_reckon_80 : decode cX12_reckon 80 = .ok (.iload_n 2, 1) := by decide +kernel
theorem dX12_reckon_81 : decode cX12_reckon 81 = .ok (.if_icmp .ne 7, 3) := by decide +kernel
theorem dX12_reckon_84 : decode cX12_reckon 84 = .ok (.iconst 1, 1) := by decide +kernel
theorem dX12_reckon_85 : decode cX12_reckon 85 = .ok (.goto 4, 3) := by decide +kernel
theorem dX12_reckon_88 : decode cX12_reckon 88 = .ok (.iconst 0, 1) := by decide +kernel
theorem dX12_reckon_89 : decode cX12_reckon 89 = .ok (.ireturn, 1) := by decide +kernel
theorem dX12_reckon_90 : decode cX12_reckon 90 = .ok (.iload_n 1, 1) := by decide +kernel
theorem dX12_reckon_91 : decode cX12_reckon 91 = .ok (.ifCond .eq 11, 3) := by decide +kernel
theorem dX12_reckon_94 : decode cX12_reckon 94 = .ok (.iload_n 2, 1) := by decide +kernel
theorem dX12_reckon_95 : decode cX12_reckon 95 = .ok (.ifCond .eq 7, 3) := by decide +kernel
theorem dX12_reckon_98 : decode cX12_reckon 98 = .ok (.iconst 1, 1) := by decide +kernel
theorem dX12_reckon_99 : decode cX12_reckon 99 = .ok (.goto 4, 3) := by decide +kernel
theorem dX12_reckon_102 : decode cX12_reckon 102 = .ok (.iconst 0, 1) := by decide +kernel
theorem dX12_reckon_103 : decode cX12_reckon 103 = .ok (.ireturn, 1) := by decide +kernel
theorem dX12_reckon_104 : decode cX12_reckon 104 = .ok (.iload_n 1, 1) := by decide +kernel
theorem dX12_reckon_105 : decode cX12_reckon 105 = .ok (.ifCond .ne 7, 3) := by decide +kernel
theorem dX12_reckon_108 : decode cX12_reckon 108 = .ok (.iload_n 2, 1) := by decide +kernel
theorem dX12_reckon_109 : decode cX12_reckon 109 = .ok (.ifCond .eq 7, 3) := by decide +kernel
theorem dX12_reckon_112 : decode cX12_reckon 112 = .ok (.iconst 1, 1) := by decide +kernel
theorem dX12_reckon_113 : decode cX12_reckon 113 = .ok (.goto 4, 3) := by decide +kernel
theorem dX12_reckon_116 : decode cX12_reckon 116 = .ok (.iconst 0, 1) := by decide +kernel
theorem dX12_reckon_117 : decode cX12_reckon 117 = .ok (.ireturn, 1) := by decide +kernel
theorem dX12_valueNow_0 : decode cX12_valueNow 0 = .ok (.iconst 0, 1) := by decide +kernel
theorem dX12_valueNow_1 : decode cX12_valueNow 1 = .ok (.istore_n 1, 1) := by decide +kernel
theorem dX12_valueNow_2 : decode cX12_valueNow 2 = .ok (.iconst 0, 1) := by decide +kernel
theorem dX12_valueNow_3 : decode cX12_valueNow 3 = .ok (.istore_n 2, 1) := by decide +kernel
theorem dX12_valueNow_4 : decode cX12_valueNow 4 = .ok (.iload_n 2, 1) := by decide +kernel
theorem dX12_valueNow_5 : decode cX12_valueNow 5 = .ok (.aload_n 0, 1) := by decide +kernel
theorem dX12_valueNow_6 : decode cX12_valueNow 6 = .ok (.getfield 41, 3) := by decide +kernel
theorem dX12_valueNow_9 : decode cX12_valueNow 9 = .ok (.iconst 3, 1) := by decide +kernel
theorem dX12_valueNow_10 : decode cX12_valueNow 10 = .ok (.iaload, 1) := by decide +kernel
theorem dX12_valueNow_11 : decode cX12_valueNow 11 = .ok (.if_icmp .ge 112, 3) := by decide +kernel
theorem dX12_valueNow_14 : decode cX12_valueNow 14 = .ok (.aload_n 0, 1) := by decide +kernel
theorem dX12_valueNow_15 : decode cX12_valueNow 15 = .ok (.getfield 63, 3) := by decide +kernel
theorem dX12_valueNow_18 : decode cX12_valueNow 18 = .ok (.iload_n 2, 1) := by decide +kernel
theorem dX12_valueNow_19 : decode cX12_valueNow 19 = .ok (.iaload, 1) := by decide +kernel
theorem dX12_valueNow_20 : decode cX12_valueNow 20 = .ok (.istore_n 3, 1) := by decide +kernel
theorem dX12_valueNow_21 : decode cX12_valueNow 21 = .ok (.iload_n 3, 1) := by decide +kernel
theorem dX12_valueNow_22 : decode cX12_valueNow 22 = .ok (.bipush (-20), 2) := by decide +kernel
theorem dX12_valueNow_24 : decode cX12_valueNow 24 = .ok (.if_icmp .le 31, 3) := by decide +kernel
theorem dX12_valueNow_27 : decode cX12_valueNow 27 = .ok (.aload_n 0, 1) := by decide +kernel
theorem dX12_valueNow_28 : decode cX12_valueNow 28 = .ok (.getfield 95, 3) := by decide +kernel
theorem dX12_valueNow_31 : decode cX12_valueNow 31 = .ok (.iload_n 1, 1) := by decide +kernel
theorem dX12_valueNow_32 : decode cX12_valueNow 32 = .ok (.iload_n 3, 1) := by decide +kernel
theorem dX12_valueNow_33 : decode cX12_valueNow 33 = .ok (.ifCond .lt 7, 3) := by decide +kernel
theorem dX12_valueNow_36 : decode cX12_valueNow 36 = .ok (.iload_n 3, 1) := by decide +kernel
theorem dX12_valueNow_37 : decode cX12_valueNow 37 = .ok (.goto 11, 3) := by decide +kernel
theorem dX12_valueNow_40 : decode cX12_valueNow 40 = .ok (.aload_n 0, 1) := by decide +kernel
theorem dX12_valueNow_41 : decode cX12_valueNow 41 = .ok (.getfield 92, 3) := by decide +kernel
theorem dX12_valueNow_44 : decode cX12_valueNow 44 = .ok (.iconst (-1), 1) := by decide +kernel
theorem dX12_valueNow_45 : decode cX12_valueNow 45 = .ok (.iload_n 3, 1) := by decide +kernel
theorem dX12_valueNow_46 : decode cX12_valueNow 46 = .ok (.isub, 1) := by decide +kernel
theorem dX12_valueNow_47 : decode cX12_valueNow 47 = .ok (.iaload, 1) := by decide +kernel
theorem dX12_valueNow_48 : decode cX12_valueNow 48 = .ok (.iastore, 1) := by decide +kernel
theorem dX12_valueNow_49 : decode cX12_valueNow 49 = .ok (.iinc 1 1, 3) := by decide +kernel
theorem dX12_valueNow_52 : decode cX12_valueNow 52 = .ok (.goto 65, 3) := by decide +kernel
theorem dX12_valueNow_55 : decode cX12_valueNow 55 = .ok (.iload_n 3, 1) := by decide +kernel
theorem dX12_valueNow_56 : decode cX12_valueNow 56 = .ok (.bipush (-28), 2) := by decide +kernel
theorem dX12_valueNow_58 : decode cX12_valueNow 58 = .ok (.if_icmp .ne 30, 3) := by decide +kernel
theorem dX12_valueNow_61 : decode cX12_valueNow 61 = .ok (.aload_n 0, 1) := by decide +kernel
theorem dX12_valueNow_62 : decode cX12_valueNow 62 = .ok (.getfield 95, 3) := by decide +kernel
theorem dX12_valueNow_65 : decode cX12_valueNow 65 = .ok (.iload_n 1, 1) := by decide +kernel
theorem dX12_valueNow_66 : decode cX12_valueNow 66 = .ok (.iconst 1, 1) := by decide +kernel
theorem dX12_valueNow_67 : decode cX12_valueNow 67 = .ok (.isub, 1) := by decide +kernel
theorem dX12_valueNow_68 : decode cX12_valueNow 68 = .ok (.aload_n 0, 1) := by decide +kernel
theorem dX12_valueNow_69 : decode cX12_valueNow 69 = .ok (.getfield 95, 3) := by decide +kernel
theorem dX12_valueNow_72 : decode cX12_valueNow 72 = .ok (.iload_n 1, 1) := by decide +kernel
theorem dX12_valueNow_73 : decode cX12_valueNow 73 = .ok (.iconst 1, 1) := by decide +kernel
theorem dX12_valueNow_74 : decode cX12_valueNow 74 = .ok (.isub, 1) := by decide +kernel
theorem dX12_valueNow_75 : decode cX12_valueNow 75 = .ok (.iaload, 1) := by decide +kernel
theorem dX12_valueNow_76 : decode cX12_valueNow 76 = .ok (.ifCond .eq 7, 3) := by decide +kernel
theorem dX12_valueNow_79 : decode cX12_valueNow 79 = .ok (.iconst 0, 1) := by decide +kernel
theorem dX12_valueNow_80 : decode cX12_valueNow 80 = .ok (.goto 4, 3) := by decide +kernel
theorem dX12_valueNow_83 : decode cX12_valueNow 83 = .ok (.iconst 1, 1) := by decide +kernel
theorem dX12_valueNow_84 : decode cX12_valueNow 84 = .ok (.iastore, 1) := by decide +kernel
theorem dX12_valueNow_85 : decode cX12_valueNow 85 = .ok (.goto 32, 3) := by decide +kernel
theorem dX12_valueNow_88 : decode cX12_valueNow 88 = .ok (.iinc 1 (-1), 3) := by decide +kernel
theorem dX12_valueNow_91 : decode cX12_valueNow 91 = .ok (.aload_n 0, 1) := by decide +kernel
theorem dX12_valueNow_92 : decode cX12_valueNow 92 = .ok (.getfield 95, 3) := by decide +kernel
theorem dX12_valueNow_95 : decode cX12_valueNow 95 = .ok (.iload_n 1, 1) := by decide +kernel
theorem dX12_valueNow_96 : decode cX12_valueNow 96 = .ok (.iconst 1, 1) := by decide +kernel
theorem dX12_valueNow_97 : decode cX12_valueNow 97 = .ok (.isub, 1) := by decide +kernel
theorem dX12_valueNow_98 : decode cX12_valueNow 98 = .ok (.iload_n 3, 1) := by decide +kernel
theorem dX12_valueNow_99 : decode cX12_valueNow 99 = .ok (.aload_n 0, 1) := by decide +kernel
theorem dX12_valueNow_100 : decode cX12_valueNow 100 = .ok (.getfield 95, 3) := by decide +kernel
theorem dX12_valueNow_103 : decode cX12_valueNow 103 = .ok (.iload_n 1, 1) := by decide +kernel
theorem dX12_valueNow_104 : decode cX12_valueNow 104 = .ok (.iconst 1, 1) := by decide +kernel
theorem dX12_valueNow_105 : decode cX12_valueNow 105 = .ok (.isub, 1) := by decide +kernel
theorem dX12_valueNow_106 : decode cX12_valueNow 106 = .ok (.iaload, 1) := by decide +kernel
theorem dX12_valueNow_107 : decode cX12_valueNow 107 = .ok (.aload_n 0, 1) := by decide +kernel
theorem dX12_valueNow_108 : decode cX12_valueNow 108 = .ok (.getfield 95, 3) := by decide +kernel
theorem dX12_valueNow_111 : decode cX12_valueNow 111 = .ok (.iload_n 1, 1) := by decide +kernel
theorem dX12_valueNow_112 : decode cX12_valueNow 112 = .ok (.iaload, 1) := by decide +kernel
theorem dX12_valueNow_113 : decode cX12_valueNow 113 = .ok (.invokestatic 309, 3) := by decide +kernel
theorem dX12_valueNow_116 : decode cX12_valueNow 116 = .ok (.iastore, 1) := by decide +kernel
theorem dX12_valueNow_117 : decode cX12_valueNow 117 = .ok (.iinc 2 1, 3) := by decide +kernel
theorem dX12_valueNow_120 : decode cX12_valueNow 120 = .ok (.goto (-116), 3) := by decide +kernel
theorem dX12_valueNow_123 : decode cX12_valueNow 123 = .ok (.aload_n 0, 1) := by decide +kernel
theorem dX12_valueNow_124 : decode cX12_valueNow 124 = .ok (.getfield 95, 3) := by decide +kernel
theorem dX12_valueNow_127 : decode cX12_valueNow 127 = .ok (.iconst 0, 1) := by decide +kernel
theorem dX12_valueNow_128 : decode cX12_valueNow 128 = .ok (.iaload, 1) := by decide +kernel
theorem dX12_valueNow_129 : decode cX12_valueNow 129 = .ok (.ireturn, 1) := by decide +kernel
theorem dX12_isDone_0 : decode cX12_isDone 0 = .ok (.aload_n 0, 1) := by decide +kernel
theorem dX12_isDone_1 : decode cX12_isDone 1 = .ok (.getfield 85, 3) := by decide +kernel
theorem dX12_isDone_4 : decode cX12_isDone 4 = .ok (.iload_n 1, 1) := by decide +kernel
theorem dX12_isDone_5 : decode cX12_isDone 5 = .ok (.iaload, 1) := by decide +kernel
theorem dX12_isDone_6 : decode cX12_isDone 6 = .ok (.aload_n 0, 1) := by decide +kernel
theorem dX12_isDone_7 : decode cX12_isDone 7 = .ok (.getfield 47, 3) := by decide +kernel
theorem dX12_isDone_10 : decode cX12_isDone 10 = .ok (.aload_n 0, 1) := by decide +kernel
theorem dX12_isDone_11 : decode cX12_isDone 11 = .ok (.getfield 82, 3) := by decide +kernel
theorem dX12_isDone_14 : decode cX12_isDone 14 = .ok (.iload_n 1, 1) := by decide +kernel
theorem dX12_isDone_15 : decode cX12_isDone 15 = .ok (.iaload, 1) := by decide +kernel
theorem dX12_isDone_16 : decode cX12_isDone 16 = .ok (.iaload, 1) := by decide +kernel
theorem dX12_isDone_17 : decode cX12_isDone 17 = .ok (.if_icmp .ne 7, 3) := by decide +kernel
theorem dX12_isDone_20 : decode cX12_isDone 20 = .ok (.iconst 1, 1) := by decide +kernel
theorem dX12_isDone_21 : decode cX12_isDone 21 = .ok (.goto 4, 3) := by decide +kernel
theorem dX12_isDone_24 : decode cX12_isDone 24 = .ok (.iconst 0, 1) := by decide +kernel
theorem dX12_isDone_25 : decode cX12_isDone 25 = .ok (.ireturn, 1) := by decide +kernel
theorem dX12_hardOf_0 : decode cX12_hardOf 0 = .ok (.aload_n 0, 1) := by decide +kernel
theorem dX12_hardOf_1 : decode cX12_hardOf 1 = .ok (.getfield 50, 3) := by decide +kernel
theorem dX12_hardOf_4 : decode cX12_hardOf 4 = .ok (.bipush 8, 2) := by decide +kernel
theorem dX12_hardOf_6 : decode cX12_hardOf 6 = .ok (.iload_n 1, 1) := by decide +kernel
theorem dX12_hardOf_7 : decode cX12_hardOf 7 = .ok (.imul, 1) := by decide +kernel
theorem dX12_hardOf_8 : decode cX12_hardOf 8 = .ok (.iload_n 2, 1) := by decide +kernel
theorem dX12_hardOf_9 : decode cX12_hardOf 9 = .ok (.iadd, 1) := by decide +kernel
theorem dX12_hardOf_10 : decode cX12_hardOf 10 = .ok (.iaload, 1) := by decide +kernel
theorem dX12_hardOf_11 : decode cX12_hardOf 11 = .ok (.ireturn, 1) := by decide +kernel
theorem dX12_nextHard_0 : decode cX12_nextHard 0 = .ok (.aload_n 0, 1) := by decide +kernel
theorem dX12_nextHard_1 : decode cX12_nextHard 1 = .ok (.iload_n 1, 1) := by decide +kernel
theorem dX12_nextHard_2 : decode cX12_nextHard 2 = .ok (.invokevirtual 313, 3) := by decide +kernel
theorem dX12_nextHard_5 : decode cX12_nextHard 5 = .ok (.ifCond .eq 7, 3) := by decide +kernel
theorem dX12_nextHard_8 : decode cX12_nextHard 8 = .ok (.iconst 0, 1) := by decide +kernel
theorem dX12_nextHard_9 : decode cX12_nextHard 9 = .ok (.goto 19, 3) := by decide +kernel
theorem dX12_nextHard_12 : decode cX12_nextHard 12 = .ok (.aload_n 0, 1) := by decide +kernel
theorem dX12_nextHard_13 : decode cX12_nextHard 13 = .ok (.aload_n 0, 1) := by decide +kernel
theorem dX12_nextHard_14 : decode cX12_nextHard 14 = .ok (.getfield 82, 3) := by decide +kernel
theorem dX12_nextHard_17 : decode cX12_nextHard 17 = .ok (.iload_n 1, 1) := by decide +kernel
theorem dX12_nextHard_18 : decode cX12_nextHard 18 = .ok (.iaload, 1) := by decide +kernel
theorem dX12_nextHard_19 : decode cX12_nextHard 19 = .ok (.aload_n 0, 1) := by decide +kernel
theorem dX12_nextHard_20 : decode cX12_nextHard 20 = .ok (.getfield 85, 3) := by decide +kernel
theorem dX12_nextHard_23 : decode cX12_nextHard 23 = .ok (.iload_n 1, 1) := by decide +kernel
theorem dX12_nextHard_24 : decode cX12_nextHard 24 = .ok (.iaload, 1) := by decide +kernel
theorem dX12_nextHard_25 : decode cX12_nextHard 25 = .ok (.invokevirtual 316, 3) := by decide +kernel
theorem dX12_nextHard_28 : decode cX12_nextHard 28 = .ok (.ireturn, 1) := by decide +kernel
theorem dX12_gainOf_0 : decode cX12_gainOf 0 = .ok (.iconst 5, 1) := by decide +kernel
theorem dX12_gainOf_1 : decode cX12_gainOf 1 = .ok (.aload_n 0, 1) := by decide +kernel
theorem dX12_gainOf_2 : decode cX12_gainOf 2 = .ok (.getfield 79, 3) := by decide +kernel
theorem dX12_gainOf_5 : decode cX12_gainOf 5 = .ok (.iload_n 1, 1) := by decide +kernel
theorem dX12_gainOf_6 : decode cX12_gainOf 6 = .ok (.iaload, 1) := by decide +kernel
theorem dX12_gainOf_7 : decode cX12_gainOf 7 = .ok (.iconst 2, 1) := by decide +kernel
theorem dX12_gainOf_8 : decode cX12_gainOf 8 = .ok (.idiv, 1) := by decide +kernel
theorem dX12_gainOf_9 : decode cX12_gainOf 9 = .ok (.isub, 1) := by decide +kernel
theorem dX12_gainOf_10 : decode cX12_gainOf 10 = .ok (.istore_n 2, 1) := by decide +kernel
theorem dX12_gainOf_11 : decode cX12_gainOf 11 = .ok (.aload_n 0, 1) := by decide +kernel
theorem dX12_gainOf_12 : decode cX12_gainOf 12 = .ok (.getfield 41, 3) := by decide +kernel
theorem dX12_gainOf_15 : decode cX12_gainOf 15 = .ok (.iconst 3, 1) := by decide +kernel
theorem dX12_gainOf_16 : decode cX12_gainOf 16 = .ok (.iaload, 1) := by decide +kernel
theorem dX12_gainOf_17 : decode cX12_gainOf 17 = .ok (.ifCond .le 87, 3) := by decide +kernel
theorem dX12_gainOf_20 : decode cX12_gainOf 20 = .ok (.aload_n 0, 1) := by decide +kernel
theorem dX12_gainOf_21 : decode cX12_gainOf 21 = .ok (.getfield 92, 3) := by decide +kernel
theorem dX12_gainOf_24 : decode cX12_gainOf 24 = .ok (.iconst 0, 1) := by decide +kernel
theorem dX12_gainOf_25 : decode cX12_gainOf 25 = .ok (.aload_n 0, 1) := by decide +kernel
theorem dX12_gainOf_26 : decode cX12_gainOf 26 = .ok (.getfield 76, 3) := by decide +kernel
theorem dX12_gainOf_29 : decode cX12_gainOf 29 = .ok (.iload_n 1, 1) := by decide +kernel
theorem dX12_gainOf_30 : decode cX12_gainOf 30 = .ok (.iaload, 1) := by decide +kernel
theorem dX12_gainOf_31 : decode cX12_gainOf 31 = .ok (.iastore, 1) := by decide +kernel
theorem dX12_gainOf_32 : decode cX12_gainOf 32 = .ok (.aload_n 0, 1) := by decide +kernel
theorem dX12_gainOf_33 : decode cX12_gainOf 33 = .ok (.getfield 92, 3) := by decide +kernel
theorem dX12_gainOf_36 : decode cX12_gainOf 36 = .ok (.iconst 1, 1) := by decide +kernel
theorem dX12_gainOf_37 : decode cX12_gainOf 37 = .ok (.aload_n 0, 1) := by decide +kernel
theorem dX12_gainOf_38 : decode cX12_gainOf 38 = .ok (.getfield 79, 3) := by decide +kernel
theorem dX12_gainOf_41 : decode cX12_gainOf 41 = .ok (.iload_n 1, 1) := by decide +kernel
theorem dX12_gainOf_42 : decode cX12_gainOf 42 = .ok (.iaload, 1) := by decide +kernel
theorem dX12_gainOf_43 : decode cX12_gainOf 43 = .ok (.iastore, 1) := by decide +kernel
theorem dX12_gainOf_44 : decode cX12_gainOf 44 = .ok (.aload_n 0, 1) := by decide +kernel
theorem dX12_gainOf_45 : decode cX12_gainOf 45 = .ok (.getfield 92, 3) := by decide +kernel
theorem dX12_gainOf_48 : decode cX12_gainOf 48 = .ok (.iconst 2, 1) := by decide +kernel
theorem dX12_gainOf_49 : decode cX12_gainOf 49 = .ok (.aload_n 0, 1) := by decide +kernel
theorem dX12_gainOf_50 : decode cX12_gainOf 50 = .ok (.iload_n 1, 1) := by decide +kernel
theorem dX12_gainOf_51 : decode cX12_gainOf 51 = .ok (.invokevirtual 319, 3) := by decide +kernel
theorem dX12_gainOf_54 : decode cX12_gainOf 54 = .ok (.iastore, 1) := by decide +kernel
theorem dX12_gainOf_55 : decode cX12_gainOf 55 = .ok (.aload_n 0, 1) := by decide +kernel
theorem dX12_gainOf_56 : decode cX12_gainOf 56 = .ok (.getfield 92, 3) := by decide +kernel
theorem dX12_gainOf_59 : decode cX12_gainOf 59 = .ok (.iconst 3, 1) := by decide +kernel
theorem dX12_gainOf_60 : decode cX12_gainOf 60 = .ok (.aload_n 0, 1) := by decide +kernel
theorem dX12_gainOf_61 : decode cX12_gainOf 61 = .ok (.getfield 85, 3) := by decide +kernel
theorem dX12_gainOf_64 : decode cX12_gainOf 64 = .ok (.iload_n 1, 1) := by decide +kernel
theorem dX12_gainOf_65 : decode cX12_gainOf 65 = .ok (.iaload, 1) := by decide +kernel
theorem dX12_gainOf_66 : decode cX12_gainOf 66 = .ok (.iastore, 1) := by decide +kernel
theorem dX12_gainOf_67 : decode cX12_gainOf 67 = .ok (.aload_n 0, 1) := by decide +kernel
theorem dX12_gainOf_68 : decode cX12_gainOf 68 = .ok (.getfield 92, 3) := by decide +kernel
theorem dX12_gainOf_71 : decode cX12_gainOf 71 = .ok (.iconst 4, 1) := by decide +kernel
theorem dX12_gainOf_72 : decode cX12_gainOf 72 = .ok (.aload_n 0, 1) := by decide +kernel
theorem dX12_gainOf_73 : decode cX12_gainOf 73 = .ok (.getfield 47, 3) := by decide +kernel
theorem dX12_gainOf_76 : decode cX12_gainOf 76 = .ok (.aload_n 0, 1) := by decide +kernel
theorem dX12_gainOf_77 : decode cX12_gainOf 77 = .ok (.getfield 82, 3) := by decide +kernel
theorem dX12_gainOf_80 : decode cX12_gainOf 80 = .ok (.iload_n 1, 1) := by decide +kernel
theorem dX12_gainOf_81 : decode cX12_gainOf 81 = .ok (.iaload, 1) := by decide +kernel
theorem dX12_gainOf_82 : decode cX12_gainOf 82 = .ok (.iaload, 1) := by decide +kernel
theorem dX12_gainOf_83 : decode cX12_gainOf 83 = .ok (.iastore, 1) := by decide +kernel
theorem dX12_gainOf_84 : decode cX12_gainOf 84 = .ok (.aload_n 0, 1) := by decide +kernel
theorem dX12_gainOf_85 : decode cX12_gainOf 85 = .ok (.getfield 92, 3) := by decide +kernel
theorem dX12_gainOf_88 : decode cX12_gainOf 88 = .ok (.iconst 5, 1) := by decide +kernel
theorem dX12_gainOf_89 : decode cX12_gainOf 89 = .ok (.aload_n 0, 1) := by decide +kernel
theorem dX12_gainOf_90 : decode cX12_gainOf 90 = .ok (.getfield 87, 3) := by decide +kernel
theorem dX12_gainOf_93 : decode cX12_gainOf 93 = .ok (.iload_n 1, 1) := by decide +kernel
theorem dX12_gainOf_94 : decode cX12_gainOf 94 = .ok (.iaload, 1) := by decide +kernel
theorem dX12_gainOf_95 : decode cX12_gainOf 95 = .ok (.invokestatic 322, 3) := by decide +kernel
theorem dX12_gainOf_98 : decode cX12_gainOf 98 = .ok (.iastore, 1) := by decide +kernel
theorem dX12_gainOf_99 : decode cX12_gainOf 99 = .ok (.aload_n 0, 1) := by decide +kernel
theorem dX12_gainOf_100 : decode cX12_gainOf 100 = .ok (.invokevirtual 325, 3) := by decide +kernel
theorem dX12_gainOf_103 : decode cX12_gainOf 103 = .ok (.istore_n 2, 1) := by decide +kernel
theorem dX12_gainOf_104 : decode cX12_gainOf 104 = .ok (.iconst 0, 1) := by decide +kernel
theorem dX12_gainOf_105 : decode cX12_gainOf 105 = .ok (.bipush 20, 2) := by decide +kernel
theorem dX12_gainOf_107 : decode cX12_gainOf 107 = .ok (.iload_n 2, 1) := by decide +kernel
theorem dX12_gainOf_108 : decode cX12_gainOf 108 = .ok (.invokestatic 189, 3) := by decide +kernel
theorem dX12_gainOf_111 : decode cX12_gainOf 111 = .ok (.invokestatic 328, 3) := by decide +kernel
theorem dX12_gainOf_114 : decode cX12_gainOf 114 = .ok (.istore_n 2, 1) := by decide +kernel
theorem dX12_gainOf_115 : decode cX12_gainOf 115 = .ok (.bipush 99, 2) := by decide +kernel
theorem dX12_gainOf_117 : decode cX12_gainOf 117 = .ok (.aload_n 0, 1) := by decide +kernel
theorem dX12_gainOf_118 : decode cX12_gainOf 118 = .ok (.getfield 76, 3) := by decide +kernel
theorem dX12_gainOf_121 : decode cX12_gainOf 121 = .ok (.iload_n 1, 1) := by decide +kernel
theorem dX12_gainOf_122 : decode cX12_gainOf 122 = .ok (.iaload, 1) := by decide +kernel
theorem dX12_gainOf_123 : decode cX12_gainOf 123 = .ok (.isub, 1) := by decide +kernel
theorem dX12_gainOf_124 : decode cX12_gainOf 124 = .ok (.aload_n 0, 1) := by decide +kernel
theorem dX12_gainOf_125 : decode cX12_gainOf 125 = .ok (.getfield 52, 3) := by decide +kernel
theorem dX12_gainOf_128 : decode cX12_gainOf 128 = .ok (.iload_n 1, 1) := by decide +kernel
theorem dX12_gainOf_129 : decode cX12_gainOf 129 = .ok (.iaload, 1) := by decide +kernel
theorem dX12_gainOf_130 : decode cX12_gainOf 130 = .ok (.iconst 1, 1) := by decide +kernel
theorem dX12_gainOf_131 : decode cX12_gainOf 131 = .ok (.if_icmp .ne 9, 3) := by decide +kernel
theorem dX12_gainOf_134 : decode cX12_gainOf 134 = .ok (.iconst 2, 1) := by decide +kernel
theorem dX12_gainOf_135 : decode cX12_gainOf 135 = .ok (.iload_n 2, 1) := by decide +kernel
theorem dX12_gainOf_136 : decode cX12_gainOf 136 = .ok (.imul, 1) := by decide +kernel
theorem dX12_gainOf_137 : decode cX12_gainOf 137 = .ok (.goto 4, 3) := by decide +kernel
theorem dX12_gainOf_140 : decode cX12_gainOf 140 = .ok (.iload_n 2, 1) := by decide +kernel
theorem dX12_gainOf_141 : decode cX12_gainOf 141 = .ok (.invokestatic 189, 3) := by decide +kernel
theorem dX12_gainOf_144 : decode cX12_gainOf 144 = .ok (.ireturn, 1) := by decide +kernel
theorem dX12_practise_0 : decode cX12_practise 0 = .ok (.aload_n 0, 1) := by decide +kernel
theorem dX12_practise_1 : decode cX12_practise 1 = .ok (.getfield 76, 3) := by decide +kernel
theorem dX12_practise_4 : decode cX12_practise 4 = .ok (.iload_n 1, 1) := by decide +kernel
theorem dX12_practise_5 : decode cX12_practise 5 = .ok (.dup2, 1) := by decide +kernel
theorem dX12_practise_6 : decode cX12_practise 6 = .ok (.iaload, 1) := by decide +kernel
theorem dX12_practise_7 : decode cX12_practise 7 = .ok (.aload_n 0, 1) := by decide +kernel
theorem dX12_practise_8 : decode cX12_practise 8 = .ok (.iload_n 1, 1) := by decide +kernel
theorem dX12_practise_9 : decode cX12_practise 9 = .ok (.invokevirtual 331, 3) := by decide +kernel
theorem dX12_practise_12 : decode cX12_practise 12 = .ok (.iadd, 1) := by decide +kernel
theorem dX12_practise_13 : decode cX12_practise 13 = .ok (.iastore, 1) := by decide +kernel
theorem dX12_practise_14 : decode cX12_practise 14 = .ok (.return_, 1) := by decide +kernel
theorem dX12_mayGoOn_0 : decode cX12_mayGoOn 0 = .ok (.aload_n 0, 1) := by decide +kernel
theorem dX12_mayGoOn_1 : decode cX12_mayGoOn 1 = .ok (.iload_n 1, 1) := by decide +kernel
theorem dX12_mayGoOn_2 : decode cX12_mayGoOn 2 = .ok (.invokevirtual 313, 3) := by decide +kernel
theorem dX12_mayGoOn_5 : decode cX12_mayGoOn 5 = .ok (.ifCond .ne 21, 3) := by decide +kernel
theorem dX12_mayGoOn_8 : decode cX12_mayGoOn 8 = .ok (.aload_n 0, 1) := by decide +kernel
theorem dX12_mayGoOn_9 : decode cX12_mayGoOn 9 = .ok (.getfield 76, 3) := by decide +kernel
theorem dX12_mayGoOn_12 : decode cX12_mayGoOn 12 = .ok (.iload_n 1, 1) := by decide +kernel
theorem dX12_mayGoOn_13 : decode cX12_mayGoOn 13 = .ok (.iaload, 1) := by decide +kernel
theorem dX12_mayGoOn_14 : decode cX12_mayGoOn 14 = .ok (.aload_n 0, 1) := by decide +kernel
theorem dX12_mayGoOn_15 : decode cX12_mayGoOn 15 = .ok (.iload_n 1, 1) := by decide +kernel
theorem dX12_mayGoOn_16 : decode cX12_mayGoOn 16 = .ok (.invokevirtual 319, 3) := by decide +kernel
theorem dX12_mayGoOn_19 : decode cX12_mayGoOn 19 = .ok (.if_icmp .lt 7, 3) := by decide +kernel
theorem dX12_mayGoOn_22 : decode cX12_mayGoOn 22 = .ok (.iconst 1, 1) := by decide +kernel
theorem dX12_mayGoOn_23 : decode cX12_mayGoOn 23 = .ok (.goto 4, 3) := by decide +kernel
theorem dX12_mayGoOn_26 : decode cX12_mayGoOn 26 = .ok (.iconst 0, 1) := by decide +kernel
theorem dX12_mayGoOn_27 : decode cX12_mayGoOn 27 = .ok (.ireturn, 1) := by decide +kernel
theorem dX12_lesson_0 : decode cX12_lesson 0 = .ok (.aload_n 0, 1) := by decide +kernel
theorem dX12_lesson_1 : decode cX12_lesson 1 = .ok (.iload_n 1, 1) := by decide +kernel
theorem dX12_lesson_2 : decode cX12_lesson 2 = .ok (.invokevirtual 334, 3) := by decide +kernel
theorem dX12_lesson_5 : decode cX12_lesson 5 = .ok (.ifCond .eq 13, 3) := by decide +kernel
theorem dX12_lesson_8 : decode cX12_lesson 8 = .ok (.aload_n 0, 1) := by decide +kernel
theorem dX12_lesson_9 : decode cX12_lesson 9 = .ok (.getfield 85, 3) := by decide +kernel
theorem dX12_lesson_12 : decode cX12_lesson 12 = .ok (.iload_n 1, 1) := by decide +kernel
theorem dX12_lesson_13 : decode cX12_lesson 13 = .ok (.dup2, 1) := by decide +kernel
theorem dX12_lesson_14 : decode cX12_lesson 14 = .ok (.iaload, 1) := by decide +kernel
theorem dX12_lesson_15 : decode cX12_lesson 15 = .ok (.iconst 1, 1) := by decide +kernel
theorem dX12_lesson_16 : decode cX12_lesson 16 = .ok (.iadd, 1) := by decide +kernel
theorem dX12_lesson_17 : decode cX12_lesson 17 = .ok (.iastore, 1) := by decide +kernel
theorem dX12_lesson_18 : decode cX12_lesson 18 = .ok (.aload_n 0, 1) := by decide +kernel
theorem dX12_lesson_19 : decode cX12_lesson 19 = .ok (.getfield 45, 3) := by decide +kernel
theorem dX12_lesson_22 : decode cX12_lesson 22 = .ok (.aload_n 0, 1) := by decide +kernel
theorem dX12_lesson_23 : decode cX12_lesson 23 = .ok (.getfield 82, 3) := by decide +kernel
theorem dX12_lesson_26 : decode cX12_lesson 26 = .ok (.iload_n 1, 1) := by decide +kernel
theorem dX12_lesson_27 : decode cX12_lesson 27 = .ok (.iaload, 1) := by decide +kernel
theorem dX12_lesson_28 : decode cX12_lesson 28 = .ok (.iaload, 1) := by decide +kernel
theorem dX12_lesson_29 : decode cX12_lesson 29 = .ok (.iconst 1, 1) := by decide +kernel
theorem dX12_lesson_30 : decode cX12_lesson 30 = .ok (.if_icmp .ne 24, 3) := by decide +kernel
theorem dX12_lesson_33 : decode cX12_lesson 33 = .ok (.aload_n 0, 1) := by decide +kernel
theorem dX12_lesson_34 : decode cX12_lesson 34 = .ok (.iload_n 1, 1) := by decide +kernel
theorem dX12_lesson_35 : decode cX12_lesson 35 = .ok (.invokevirtual 334, 3) := by decide +kernel
theorem dX12_lesson_38 : decode cX12_lesson 38 = .ok (.ifCond .eq 16, 3) := by decide +kernel
theorem dX12_lesson_41 : decode cX12_lesson 41 = .ok (.aload_n 0, 1) := by decide +kernel
theorem dX12_lesson_42 : decode cX12_lesson 42 = .ok (.getfield 85, 3) := by decide +kernel
theorem dX12_lesson_45 : decode cX12_lesson 45 = .ok (.iload_n 1, 1) := by decide +kernel
theorem dX12_lesson_46 : decode cX12_lesson 46 = .ok (.dup2, 1) := by decide +kernel
theorem dX12_lesson_47 : decode cX12_lesson 47 = .ok (.iaload, 1) := by decide +kernel
theorem dX12_lesson_48 : decode cX12_lesson 48 = .ok (.iconst 1, 1) := by decide +kernel
theorem dX12_lesson_49 : decode cX12_lesson 49 = .ok (.iadd, 1) := by decide +kernel
theorem dX12_lesson_50 : decode cX12_lesson 50 = .ok (.iastore, 1) := by decide +kernel
theorem dX12_lesson_51 : decode cX12_lesson 51 = .ok (.goto (-33), 3) := by decide +kernel
theorem dX12_lesson_54 : decode cX12_lesson 54 = .ok (.return_, 1) := by decide +kernel
theorem dX12_aWeek_0 : decode cX12_aWeek 0 = .ok (.iconst 0, 1) := by decide +kernel
theorem dX12_aWeek_1 : decode cX12_aWeek 1 = .ok (.istore_n 1, 1) := by decide +kernel
theorem dX12_aWeek_2 : decode cX12_aWeek 2 = .ok (.iload_n 1, 1) := by decide +kernel
theorem dX12_aWeek_3 : decode cX12_aWeek 3 = .ok (.aload_n 0, 1) := by decide +kernel
theorem dX12_aWeek_4 : decode cX12_aWeek 4 = .ok (.getfield 41, 3) := by decide +kernel
theorem dX12_aWeek_7 : decode cX12_aWeek 7 = .ok (.iconst 1, 1) := by decide +kernel
theorem dX12_aWeek_8 : decode cX12_aWeek 8 = .ok (.iaload, 1) := by decide +kernel
theorem dX12_aWeek_9 : decode cX12_aWeek 9 = .ok (.if_icmp .ge 60, 3) := by decide +kernel
theorem dX12_aWeek_12 : decode cX12_aWeek 12 = .ok (.aload_n 0, 1) := by decide +kernel
theorem dX12_aWeek_13 : decode cX12_aWeek 13 = .ok (.getfield 87, 3) := by decide +kernel
theorem dX12_aWeek_16 : decode cX12_aWeek 16 = .ok (.iload_n 1, 1) := by decide +kernel
theorem dX12_aWeek_17 : decode cX12_aWeek 17 = .ok (.iaload, 1) := by decide +kernel
theorem dX12_aWeek_18 : decode cX12_aWeek 18 = .ok (.iconst 0, 1) := by decide +kernel
theorem dX12_aWeek_19 : decode cX12_aWeek 19 = .ok (.invokestatic 337, 3) := by decide +kernel
theorem dX12_aWeek_22 : decode cX12_aWeek 22 = .ok (.ifCond .ne 31, 3) := by decide +kernel
theorem dX12_aWeek_25 : decode cX12_aWeek 25 = .ok (.aload_n 0, 1) := by decide +kernel
theorem dX12_aWeek_26 : decode cX12_aWeek 26 = .ok (.iload_n 1, 1) := by decide +kernel
theorem dX12_aWeek_27 : decode cX12_aWeek 27 = .ok (.invokevirtual 340, 3) := by decide +kernel
theorem dX12_aWeek_30 : decode cX12_aWeek 30 = .ok (.aload_n 0, 1) := by decide +kernel
theorem dX12_aWeek_31 : decode cX12_aWeek 31 = .ok (.iload_n 1, 1) := by decide +kernel
theorem dX12_aWeek_32 : decode cX12_aWeek 32 = .ok (.invokevirtual 343, 3) := by decide +kernel
theorem dX12_aWeek_35 : decode cX12_aWeek 35 = .ok (.aload_n 0, 1) := by decide +kernel
theorem dX12_aWeek_36 : decode cX12_aWeek 36 = .ok (.getfield 79, 3) := by decide +kernel
theorem dX12_aWeek_39 : decode cX12_aWeek 39 = .ok (.iload_n 1, 1) := by decide +kernel
theorem dX12_aWeek_40 : decode cX12_aWeek 40 = .ok (.iconst 0, 1) := by decide +kernel
theorem dX12_aWeek_41 : decode cX12_aWeek 41 = .ok (.aload_n 0, 1) := by decide +kernel
theorem dX12_aWeek_42 : decode cX12_aWeek 42 = .ok (.getfield 79, 3) := by decide +kernel
theorem dX12_aWeek_45 : decode cX12_aWeek 45 = .ok (.iload_n 1, 1) := by decide +kernel
theorem dX12_aWeek_46 : decode cX12_aWeek 46 = .ok (.iaload, 1) := by decide +kernel
theorem dX12_aWeek_47 : decode cX12_aWeek 47 = .ok (.iconst 1, 1) := by decide +kernel
theorem dX12_aWeek_48 : decode cX12_aWeek 48 = .ok (.isub, 1) := by decide +kernel
theorem dX12_aWeek_49 : decode cX12_aWeek 49 = .ok (.invokestatic 328, 3) := by decide +kernel
theorem dX12_aWeek_52 : decode cX12_aWeek 52 = .ok (.iastore, 1) := by decide +kernel
theorem dX12_aWeek_53 : decode cX12_aWeek 53 = .ok (.aload_n 0, 1) := by decide +kernel
theorem dX12_aWeek_54 : decode cX12_aWeek 54 = .ok (.getfield 87, 3) := by decide +kernel
theorem dX12_aWeek_57 : decode cX12_aWeek 57 = .ok (.iload_n 1, 1) := by decide +kernel
theorem dX12_aWeek_58 : decode cX12_aWeek 58 = .ok (.dup2, 1) := by decide +kernel
theorem dX12_aWeek_59 : decode cX12_aWeek 59 = .ok (.iaload, 1) := by decide +kernel
theorem dX12_aWeek_60 : decode cX12_aWeek 60 = .ok (.iconst 1, 1) := by decide +kernel
theorem dX12_aWeek_61 : decode cX12_aWeek 61 = .ok (.ishr, 1) := by decide +kernel
theorem dX12_aWeek_62 : decode cX12_aWeek 62 = .ok (.iastore, 1) := by decide +kernel
theorem dX12_aWeek_63 : decode cX12_aWeek 63 = .ok (.iinc 1 1, 3) := by decide +kernel
theorem dX12_aWeek_66 : decode cX12_aWeek 66 = .ok (.goto (-64), 3) := by decide +kernel
theorem dX12_aWeek_69 : decode cX12_aWeek 69 = .ok (.aload_n 0, 1) := by decide +kernel
theorem dX12_aWeek_70 : decode cX12_aWeek 70 = .ok (.dup, 1) := by decide +kernel
theorem dX12_aWeek_71 : decode cX12_aWeek 71 = .ok (.getfield 296, 3) := by decide +kernel
theorem dX12_aWeek_74 : decode cX12_aWeek 74 = .ok (.iconst 1, 1) := by decide +kernel
theorem dX12_aWeek_75 : decode cX12_aWeek 75 = .ok (.iadd, 1) := by decide +kernel
theorem dX12_aWeek_76 : decode cX12_aWeek 76 = .ok (.putfield 296, 3) := by decide +kernel
theorem dX12_aWeek_79 : decode cX12_aWeek 79 = .ok (.return_, 1) := by decide +kernel
theorem dX12_goOn_0 : decode cX12_goOn 0 = .ok (.iconst 0, 1) := by decide +kernel
theorem dX12_goOn_1 : decode cX12_goOn 1 = .ok (.istore_n 2, 1) := by decide +kernel
theorem dX12_goOn_2 : decode cX12_goOn 2 = .ok (.iload_n 2, 1) := by decide +kernel
theorem dX12_goOn_3 : decode cX12_goOn 3 = .ok (.iload_n 1, 1) := by decide +kernel
theorem dX12_goOn_4 : decode cX12_goOn 4 = .ok (.if_icmp .ge 13, 3) := by decide +kernel
theorem dX12_goOn_7 : decode cX12_goOn 7 = .ok (.aload_n 0, 1) := by decide +kernel
theorem dX12_goOn_8 : decode cX12_goOn 8 = .ok (.invokevirtual 346, 3) := by decide +kernel
theorem dX12_goOn_11 : decode cX12_goOn 11 = .ok (.iinc 2 1, 3) := by decide +kernel
theorem dX12_goOn_14 : decode cX12_goOn 14 = .ok (.goto (-12), 3) := by decide +kernel
theorem dX12_goOn_17 : decode cX12_goOn 17 = .ok (.return_, 1) := by decide +kernel
theorem dX12_awayIn_0 : decode cX12_awayIn 0 = .ok (.iconst 0, 1) := by decide +kernel
theorem dX12_awayIn_1 : decode cX12_awayIn 1 = .ok (.istore_n 2, 1) := by decide +kernel
theorem dX12_awayIn_2 : decode cX12_awayIn 2 = .ok (.iconst 0, 1) := by decide +kernel
theorem dX12_awayIn_3 : decode cX12_awayIn 3 = .ok (.istore_n 3, 1) := by decide +kernel
theorem dX12_awayIn_4 : decode cX12_awayIn 4 = .ok (.iload_n 3, 1) := by decide +kernel
theorem dX12_awayIn_5 : decode cX12_awayIn 5 = .ok (.aload_n 0, 1) := by decide +kernel
theorem dX12_awayIn_6 : decode cX12_awayIn 6 = .ok (.getfield 41, 3) := by decide +kernel
theorem dX12_awayIn_9 : decode cX12_awayIn 9 = .ok (.iconst 1, 1) := by decide +kernel
theorem dX12_awayIn_10 : decode cX12_awayIn 10 = .ok (.iaload, 1) := by decide +kernel
theorem dX12_awayIn_11 : decode cX12_awayIn 11 = .ok (.if_icmp .ge 34, 3) := by decide +kernel
theorem dX12_awayIn_14 : decode cX12_awayIn 14 = .ok (.iload_n 2, 1) := by decide +kernel
theorem dX12_awayIn_15 : decode cX12_awayIn 15 = .ok (.aload_n 0, 1) := by decide +kernel
theorem dX12_awayIn_16 : decode cX12_awayIn 16 = .ok (.getfield 87, 3) := by decide +kernel
theorem dX12_awayIn_19 : decode cX12_awayIn 19 = .ok (.iload_n 3, 1) := by decide +kernel
theorem dX12_awayIn_20 : decode cX12_awayIn 20 = .ok (.iaload, 1) := by decide +kernel
theorem dX12_awayIn_21 : decode cX12_awayIn 21 = .ok (.iload_n 1, 1) := by decide +kernel
theorem dX12_awayIn_22 : decode cX12_awayIn 22 = .ok (.iconst 1, 1) := by decide +kernel
theorem dX12_awayIn_23 : decode cX12_awayIn 23 = .ok (.isub, 1) := by decide +kernel
theorem dX12_awayIn_24 : decode cX12_awayIn 24 = .ok (.invokestatic 337, 3) := by decide +kernel
theorem dX12_awayIn_27 : decode cX12_awayIn 27 = .ok (.ifCond .eq 9, 3) := by decide +kernel
theorem dX12_awayIn_30 : decode cX12_awayIn 30 = .ok (.iconst 1, 1) := by decide +kernel
theorem dX12_awayIn_31 : decode cX12_awayIn 31 = .ok (.iload_n 3, 1) := by decide +kernel
theorem dX12_awayIn_32 : decode cX12_awayIn 32 = .ok (.ishl, 1) := by decide +kernel
theorem dX12_awayIn_33 : decode cX12_awayIn 33 = .ok (.goto 4, 3) := by decide +kernel
theorem dX12_awayIn_36 : decode cX12_awayIn 36 = .ok (.iconst 0, 1) := by decide +kernel
theorem dX12_awayIn_37 : decode cX12_awayIn 37 = .ok (.ior, 1) := by decide +kernel
theorem dX12_awayIn_38 : decode cX12_awayIn 38 = .ok (.istore_n 2, 1) := by decide +kernel
theorem dX12_awayIn_39 : decode cX12_awayIn 39 = .ok (.iinc 3 1, 3) := by decide +kernel
theorem dX12_awayIn_42 : decode cX12_awayIn 42 = .ok (.goto (-38), 3) := by decide +kernel
theorem dX12_awayIn_45 : decode cX12_awayIn 45 = .ok (.iload_n 2, 1) := by decide +kernel
theorem dX12_awayIn_46 : decode cX12_awayIn 46 = .ok (.ireturn, 1) := by decide +kernel
theorem dX12_mayGo_0 : decode cX12_mayGo 0 = .ok (.iload_n 2, 1) := by decide +kernel
theorem dX12_mayGo_1 : decode cX12_mayGo 1 = .ok (.i2l, 1) := by decide +kernel
theorem dX12_mayGo_2 : decode cX12_mayGo 2 = .ok (.lconst 1, 1) := by decide +kernel
theorem dX12_mayGo_3 : decode cX12_mayGo 3 = .ok (.ldc2_w 349, 3) := by decide +kernel
theorem dX12_mayGo_6 : decode cX12_mayGo 6 = .ok (.invokestatic 155, 3) := by decide +kernel
theorem dX12_mayGo_9 : decode cX12_mayGo 9 = .ok (.ifCond .eq 37, 3) := by decide +kernel
theorem dX12_mayGo_12 : decode cX12_mayGo 12 = .ok (.aload_n 0, 1) := by decide +kernel
theorem dX12_mayGo_13 : decode cX12_mayGo 13 = .ok (.getfield 87, 3) := by decide +kernel
theorem dX12_mayGo_16 : decode cX12_mayGo 16 = .ok (.iload_n 1, 1) := by decide +kernel
theorem dX12_mayGo_17 : decode cX12_mayGo 17 = .ok (.iaload, 1) := by decide +kernel
theorem dX12_mayGo_18 : decode cX12_mayGo 18 = .ok (.iload_n 2, 1) := by decide +kernel
theorem dX12_mayGo_19 : decode cX12_mayGo 19 = .ok (.iconst 1, 1) := by decide +kernel
theorem dX12_mayGo_20 : decode cX12_mayGo 20 = .ok (.isub, 1) := by decide +kernel
theorem dX12_mayGo_21 : decode cX12_mayGo 21 = .ok (.invokestatic 337, 3) := by decide +kernel
theorem dX12_mayGo_24 : decode cX12_mayGo 24 = .ok (.ifCond .ne 22, 3) := by decide +kernel
theorem dX12_mayGo_27 : decode cX12_mayGo 27 = .ok (.aload_n 0, 1) := by decide +kernel
theorem dX12_mayGo_28 : decode cX12_mayGo 28 = .ok (.iload_n 2, 1) := by decide +kernel
theorem dX12_mayGo_29 : decode cX12_mayGo 29 = .ok (.invokevirtual 351, 3) := by decide +kernel
theorem dX12_mayGo_32 : decode cX12_mayGo 32 = .ok (.invokestatic 322, 3) := by decide +kernel
theorem dX12_mayGo_35 : decode cX12_mayGo 35 = .ok (.aload_n 0, 1) := by decide +kernel
theorem dX12_mayGo_36 : decode cX12_mayGo 36 = .ok (.getfield 149, 3) := by decide +kernel
theorem dX12_mayGo_39 : decode cX12_mayGo 39 = .ok (.if_icmp .ge 7, 3) := by decide +kernel
theorem dX12_mayGo_42 : decode cX12_mayGo 42 = .ok (.iconst 1, 1) := by decide +kernel
theorem dX12_mayGo_43 : decode cX12_mayGo 43 = .ok (.goto 4, 3) := by decide +kernel
theorem dX12_mayGo_46 : decode cX12_mayGo 46 = .ok (.iconst 0, 1) := by decide +kernel
theorem dX12_mayGo_47 : decode cX12_mayGo 47 = .ok (.ireturn, 1) := by decide +kernel
theorem dX12_tire_0 : decode cX12_tire 0 = .ok (.aload_n 0, 1) := by decide +kernel
theorem dX12_tire_1 : decode cX12_tire 1 = .ok (.getfield 79, 3) := by decide +kernel
theorem dX12_tire_4 : decode cX12_tire 4 = .ok (.iload_n 1, 1) := by decide +kernel
theorem dX12_tire_5 : decode cX12_tire 5 = .ok (.bipush 9, 2) := by decide +kernel
theorem dX12_tire_7 : decode cX12_tire 7 = .ok (.aload_n 0, 1) := by decide +kernel
theorem dX12_tire_8 : decode cX12_tire 8 = .ok (.getfield 79, 3) := by decide +kernel
theorem dX12_tire_11 : decode cX12_tire 11 = .ok (.iload_n 1, 1) := by decide +kernel
theorem dX12_tire_12 : decode cX12_tire 12 = .ok (.iaload, 1) := by decide +kernel
theorem dX12_tire_13 : decode cX12_tire 13 = .ok (.iload_n 2, 1) := by decide +kernel
theorem dX12_tire_14 : decode cX12_tire 14 = .ok (.iadd, 1) := by decide +kernel
theorem dX12_tire_15 : decode cX12_tire 15 = .ok (.invokestatic 189, 3) := by decide +kernel
theorem dX12_tire_18 : decode cX12_tire 18 = .ok (.iastore, 1) := by decide +kernel
theorem dX12_tire_19 : decode cX12_tire 19 = .ok (.return_, 1) := by decide +kernel
theorem dX12_go_0 : decode cX12_go 0 = .ok (.aload_n 0, 1) := by decide +kernel
theorem dX12_go_1 : decode cX12_go 1 = .ok (.iload_n 1, 1) := by decide +kernel
theorem dX12_go_2 : decode cX12_go 2 = .ok (.invokevirtual 340, 3) := by decide +kernel
theorem dX12_go_5 : decode cX12_go 5 = .ok (.aload_n 0, 1) := by decide +kernel
theorem dX12_go_6 : decode cX12_go 6 = .ok (.iload_n 1, 1) := by decide +kernel
theorem dX12_go_7 : decode cX12_go 7 = .ok (.iconst 2, 1) := by decide +kernel
theorem dX12_go_8 : decode cX12_go 8 = .ok (.invokevirtual 354, 3) := by decide +kernel
theorem dX12_go_11 : decode cX12_go 11 = .ok (.aload_n 0, 1) := by decide +kernel
theorem dX12_go_12 : decode cX12_go 12 = .ok (.getfield 87, 3) := by decide +kernel
theorem dX12_go_15 : decode cX12_go 15 = .ok (.iload_n 1, 1) := by decide +kernel
theorem dX12_go_16 : decode cX12_go 16 = .ok (.dup2, 1) := by decide +kernel
theorem dX12_go_17 : decode cX12_go 17 = .ok (.iaload, 1) := by decide +kernel
theorem dX12_go_18 : decode cX12_go 18 = .ok (.iconst 1, 1) := by decide +kernel
theorem dX12_go_19 : decode cX12_go 19 = .ok (.iload_n 2, 1) := by decide +kernel
theorem dX12_go_20 : decode cX12_go 20 = .ok (.iconst 1, 1) := by decide +kernel
theorem dX12_go_21 : decode cX12_go 21 = .ok (.isub, 1) := by decide +kernel
theorem dX12_go_22 : decode cX12_go 22 = .ok (.ishl, 1) := by decide +kernel
theorem dX12_go_23 : decode cX12_go 23 = .ok (.ior, 1) := by decide +kernel
theorem dX12_go_24 : decode cX12_go 24 = .ok (.iastore, 1) := by decide +kernel
theorem dX12_go_25 : decode cX12_go 25 = .ok (.return_, 1) := by decide +kernel
theorem dX12_freeOf_0 : decode cX12_freeOf 0 = .ok (.iconst 0, 1) := by decide +kernel
theorem dX12_freeOf_1 : decode cX12_freeOf 1 = .ok (.istore_n 2, 1) := by decide +kernel
theorem dX12_freeOf_2 : decode cX12_freeOf 2 = .ok (.iconst 1, 1) := by decide +kernel
theorem dX12_freeOf_3 : decode cX12_freeOf 3 = .ok (.istore_n 3, 1) := by decide +kernel
theorem dX12_freeOf_4 : decode cX12_freeOf 4 = .ok (.iload_n 3, 1) := by decide +kernel
theorem dX12_freeOf_5 : decode cX12_freeOf 5 = .ok (.bipush 30, 2) := by decide +kernel
theorem dX12_freeOf_7 : decode cX12_freeOf 7 = .ok (.if_icmp .gt 30, 3) := by decide +kernel
theorem dX12_freeOf_10 : decode cX12_freeOf 10 = .ok (.iload_n 2, 1) := by decide +kernel
theorem dX12_freeOf_11 : decode cX12_freeOf 11 = .ok (.aload_n 0, 1) := by decide +kernel
theorem dX12_freeOf_12 : decode cX12_freeOf 12 = .ok (.iload_n 1, 1) := by decide +kernel
theorem dX12_freeOf_13 : decode cX12_freeOf 13 = .ok (.iload_n 3, 1) := by decide +kernel
theorem dX12_freeOf_14 : decode cX12_freeOf 14 = .ok (.invokevirtual 358, 3) := by decide +kernel
theorem dX12_freeOf_17 : decode cX12_freeOf 17 = .ok (.ifCond .eq 11, 3) := by decide +kernel
theorem dX12_freeOf_20 : decode cX12_freeOf 20 = .ok (.iconst 1, 1) := by decide +kernel
theorem dX12_freeOf_21 : decode cX12_freeOf 21 = .ok (.iload_n 3, 1) := by decide +kernel
theorem dX12_freeOf_22 : decode cX12_freeOf 22 = .ok (.iconst 1, 1) := by decide +kernel
theorem dX12_freeOf_23 : decode cX12_freeOf 23 = .ok (.isub, 1) := by decide +kernel
theorem dX12_freeOf_24 : decode cX12_freeOf 24 = .ok (.ishl, 1) := by decide +kernel
theorem dX12_freeOf_25 : decode cX12_freeOf 25 = .ok (.goto 4, 3) := by decide +kernel
theorem dX12_freeOf_28 : decode cX12_freeOf 28 = .ok (.iconst 0, 1) := by decide +kernel
theorem dX12_freeOf_29 : decode cX12_freeOf 29 = .ok (.ior, 1) := by decide +kernel
theorem dX12_freeOf_30 : decode cX12_freeOf 30 = .ok (.istore_n 2, 1) := by decide +kernel
theorem dX12_freeOf_31 : decode cX12_freeOf 31 = .ok (.iinc 3 1, 3) := by decide +kernel
theorem dX12_freeOf_34 : decode cX12_freeOf 34 = .ok (.goto (-30), 3) := by decide +kernel
theorem dX12_freeOf_37 : decode cX12_freeOf 37 = .ok (.iload_n 2, 1) := by decide +kernel
theorem dX12_freeOf_38 : decode cX12_freeOf 38 = .ok (.ireturn, 1) := by decide +kernel
theorem dX12_allDone_0 : decode cX12_allDone 0 = .ok (.iconst 0, 1) := by decide +kernel
theorem dX12_allDone_1 : decode cX12_allDone 1 = .ok (.istore_n 1, 1) := by decide +kernel
theorem dX12_allDone_2 : decode cX12_allDone 2 = .ok (.iconst 0, 1) := by decide +kernel
theorem dX12_allDone_3 : decode cX12_allDone 3 = .ok (.istore_n 2, 1) := by decide +kernel
theorem dX12_allDone_4 : decode cX12_allDone 4 = .ok (.iload_n 2, 1) := by decide +kernel
theorem dX12_allDone_5 : decode cX12_allDone 5 = .ok (.aload_n 0, 1) := by decide +kernel
theorem dX12_allDone_6 : decode cX12_allDone 6 = .ok (.getfield 41, 3) := by decide +kernel
theorem dX12_allDone_9 : decode cX12_allDone 9 = .ok (.iconst 1, 1) := by decide +kernel
theorem dX12_allDone_10 : decode cX12_allDone 10 = .ok (.iaload, 1) := by decide +kernel
theorem dX12_allDone_11 : decode cX12_allDone 11 = .ok (.if_icmp .ge 27, 3) := by decide +kernel
theorem dX12_allDone_14 : decode cX12_allDone 14 = .ok (.iload_n 1, 1) := by decide +kernel
theorem dX12_allDone_15 : decode cX12_allDone 15 = .ok (.aload_n 0, 1) := by decide +kernel
theorem dX12_allDone_16 : decode cX12_allDone 16 = .ok (.iload_n 2, 1) := by decide +kernel
theorem dX12_allDone_17 : decode cX12_allDone 17 = .ok (.invokevirtual 313, 3) := by decide +kernel
theorem dX12_allDone_20 : decode cX12_allDone 20 = .ok (.ifCond .eq 9, 3) := by decide +kernel
theorem dX12_allDone_23 : decode cX12_allDone 23 = .ok (.iconst 1, 1) := by decide +kernel
theorem dX12_allDone_24 : decode cX12_allDone 24 = .ok (.iload_n 2, 1) := by decide +kernel
theorem dX12_allDone_25 : decode cX12_allDone 25 = .ok (.ishl, 1) := by decide +kernel
theorem dX12_allDone_26 : decode cX12_allDone 26 = .ok (.goto 4, 3) := by decide +kernel
theorem dX12_allDone_29 : decode cX12_allDone 29 = .ok (.iconst 0, 1) := by decide +kernel
theorem dX12_allDone_30 : decode cX12_allDone 30 = .ok (.ior, 1) := by decide +kernel
theorem dX12_allDone_31 : decode cX12_allDone 31 = .ok (.istore_n 1, 1) := by decide +kernel
theorem dX12_allDone_32 : decode cX12_allDone 32 = .ok (.iinc 2 1, 3) := by decide +kernel
theorem dX12_allDone_35 : decode cX12_allDone 35 = .ok (.goto (-31), 3) := by decide +kernel
theorem dX12_allDone_38 : decode cX12_allDone 38 = .ok (.iload_n 1, 1) := by decide +kernel
theorem dX12_allDone_39 : decode cX12_allDone 39 = .ok (.ireturn, 1) := by decide +kernel
theorem dX12_allSkill_0 : decode cX12_allSkill 0 = .ok (.iconst 0, 1) := by decide +kernel
theorem dX12_allSkill_1 : decode cX12_allSkill 1 = .ok (.istore_n 1, 1) := by decide +kernel
theorem dX12_allSkill_2 : decode cX12_allSkill 2 = .ok (.iconst 0, 1) := by decide +kernel
theorem dX12_allSkill_3 : decode cX12_allSkill 3 = .ok (.istore_n 2, 1) := by decide +kernel
theorem dX12_allSkill_4 : decode cX12_allSkill 4 = .ok (.iload_n 2, 1) := by decide +kernel
theorem dX12_allSkill_5 : decode cX12_allSkill 5 = .ok (.aload_n 0, 1) := by decide +kernel
theorem dX12_allSkill_6 : decode cX12_allSkill 6 = .ok (.getfield 41, 3) := by decide +kernel
theorem dX12_allSkill_9 : decode cX12_allSkill 9 = .ok (.iconst 1, 1) := by decide +kernel
theorem dX12_allSkill_10 : decode cX12_allSkill 10 = .ok (.iaload, 1) := by decide +kernel
theorem dX12_allSkill_11 : decode cX12_allSkill 11 = .ok (.if_icmp .ge 18, 3) := by decide +kernel
theorem dX12_allSkill_14 : decode cX12_allSkill 14 = .ok (.iload_n 1, 1) := by decide +kernel
theorem dX12_allSkill_15 : decode cX12_allSkill 15 = .ok (.aload_n 0, 1) := by decide +kernel
theorem dX12_allSkill_16 : decode cX12_allSkill 16 = .ok (.getfield 76, 3) := by decide +kernel
theorem dX12_allSkill_19 : decode cX12_allSkill 19 = .ok (.iload_n 2, 1) := by decide +kernel
theorem dX12_allSkill_20 : decode cX12_allSkill 20 = .ok (.iaload, 1) := by decide +kernel
theorem dX12_allSkill_21 : decode cX12_allSkill 21 = .ok (.iadd, 1) := by decide +kernel
theorem dX12_allSkill_22 : decode cX12_allSkill 22 = .ok (.istore_n 1, 1) := by decide +kernel
theorem dX12_allSkill_23 : decode cX12_allSkill 23 = .ok (.iinc 2 1, 3) := by decide +kernel
theorem dX12_allSkill_26 : decode cX12_allSkill 26 = .ok (.goto (-22), 3) := by decide +kernel
theorem dX12_allSkill_29 : decode cX12_allSkill 29 = .ok (.iload_n 1, 1) := by decide +kernel
theorem dX12_allSkill_30 : decode cX12_allSkill 30 = .ok (.ireturn, 1) := by decide +kernel
theorem dX12_allBars_0 : decode cX12_allBars 0 = .ok (.iconst 0, 1) := by decide +kernel
theorem dX12_allBars_1 : decode cX12_allBars 1 = .ok (.istore_n 1, 1) := by decide +kernel
theorem dX12_allBars_2 : decode cX12_allBars 2 = .ok (.iconst 0, 1) := by decide +kernel
theorem dX12_allBars_3 : decode cX12_allBars 3 = .ok (.istore_n 2, 1) := by decide +kernel
theorem dX12_allBars_4 : decode cX12_allBars 4 = .ok (.iload_n 2, 1) := by decide +kernel
theorem dX12_allBars_5 : decode cX12_allBars 5 = .ok (.aload_n 0, 1) := by decide +kernel
theorem dX12_allBars_6 : decode cX12_allBars 6 = .ok (.getfield 41, 3) := by decide +kernel
theorem dX12_allBars_9 : decode cX12_allBars 9 = .ok (.iconst 1, 1) := by decide +kernel
theorem dX12_allBars_10 : decode cX12_allBars 10 = .ok (.iaload, 1) := by decide +kernel
theorem dX12_allBars_11 : decode cX12_allBars 11 = .ok (.if_icmp .ge 18, 3) := by decide +kernel
theorem dX12_allBars_14 : decode cX12_allBars 14 = .ok (.iload_n 1, 1) := by decide +kernel
theorem dX12_allBars_15 : decode cX12_allBars 15 = .ok (.aload_n 0, 1) := by decide +kernel
theorem dX12_allBars_16 : decode cX12_allBars 16 = .ok (.getfield 85, 3) := by decide +kernel
theorem dX12_allBars_19 : decode cX12_allBars 19 = .ok (.iload_n 2, 1) := by decide +kernel
theorem dX12_allBars_20 : decode cX12_allBars 20 = .ok (.iaload, 1) := by decide +kernel
theorem dX12_allBars_21 : decode cX12_allBars 21 = .ok (.iadd, 1) := by decide +kernel
theorem dX12_allBars_22 : decode cX12_allBars 22 = .ok (.istore_n 1, 1) := by decide +kernel
theorem dX12_allBars_23 : decode cX12_allBars 23 = .ok (.iinc 2 1, 3) := by decide +kernel
theorem dX12_allBars_26 : decode cX12_allBars 26 = .ok (.goto (-22), 3) := by decide +kernel
theorem dX12_allBars_29 : decode cX12_allBars 29 = .ok (.iload_n 1, 1) := by decide +kernel
theorem dX12_allBars_30 : decode cX12_allBars 30 = .ok (.ireturn, 1) := by decide +kernel
theorem dX12_count_0 : decode cX12_count 0 = .ok (.aload_n 0, 1) := by decide +kernel
theorem dX12_count_1 : decode cX12_count 1 = .ok (.iconst 0, 1) := by decide +kernel
theorem dX12_count_2 : decode cX12_count 2 = .ok (.putfield 152, 3) := by decide +kernel
theorem dX12_count_5 : decode cX12_count 5 = .ok (.iload_n 1, 1) := by decide +kernel
theorem dX12_count_6 : decode cX12_count 6 = .ok (.tableswitch 124 0 12 #[66, 66, 73, 78, 83, 89, 94, 99, 104, 109, 114, 114, 114], 66) := by decide +kernel
theorem dX12_count_72 : decode cX12_count 72 = .ok (.aload_n 0, 1) := by decide +kernel
theorem dX12_count_73 : decode cX12_count 73 = .ok (.getfield 41, 3) := by decide +kernel
theorem dX12_count_76 : decode cX12_count 76 = .ok (.iload_n 1, 1) := by decide +kernel
theorem dX12_count_77 : decode cX12_count 77 = .ok (.iaload, 1) := by decide +kernel
theorem dX12_count_78 : decode cX12_count 78 = .ok (.ireturn, 1) := by decide +kernel
theorem dX12_count_79 : decode cX12_count 79 = .ok (.aload_n 0, 1) := by decide +kernel
theorem dX12_count_80 : decode cX12_count 80 = .ok (.getfield 149, 3) := by decide +kernel
theorem dX12_count_83 : decode cX12_count 83 = .ok (.ireturn, 1) := by decide +kernel
theorem dX12_count_84 : decode cX12_count 84 = .ok (.aload_n 0, 1) := by decide +kernel
theorem dX12_count_85 : decode cX12_count 85 = .ok (.getfield 296, 3) := by decide +kernel
theorem dX12_count_88 : decode cX12_count 88 = .ok (.ireturn, 1) := by decide +kernel
theorem dX12_count_89 : decode cX12_count 89 = .ok (.aload_n 0, 1) := by decide +kernel
theorem dX12_count_90 : decode cX12_count 90 = .ok (.iconst 1, 1) := by decide +kernel
theorem dX12_count_91 : decode cX12_count 91 = .ok (.invokevirtual 351, 3) := by decide +kernel
theorem dX12_count_94 : decode cX12_count 94 = .ok (.ireturn, 1) := by decide +kernel
theorem dX12_count_95 : decode cX12_count 95 = .ok (.aload_n 0, 1) := by decide +kernel
theorem dX12_count_96 : decode cX12_count 96 = .ok (.invokevirtual 361, 3) := by decide +kernel
theorem dX12_count_99 : decode cX12_count 99 = .ok (.ireturn, 1) := by decide +kernel
theorem dX12_count_100 : decode cX12_count 100 = .ok (.aload_n 0, 1) := by decide +kernel
theorem dX12_count_101 : decode cX12_count 101 = .ok (.invokevirtual 364, 3) := by decide +kernel
theorem dX12_count_104 : decode cX12_count 104 = .ok (.ireturn, 1) := by decide +kernel
theorem dX12_count_105 : decode cX12_count 105 = .ok (.aload_n 0, 1) := by decide +kernel
theorem dX12_count_106 : decode cX12_count 106 = .ok (.getfield 299, 3) := by decide +kernel
theorem dX12_count_109 : decode cX12_count 109 = .ok (.ireturn, 1) := by decide +kernel
theorem dX12_count_110 : decode cX12_count 110 = .ok (.aload_n 0, 1) := by decide +kernel
theorem dX12_count_111 : decode cX12_count 111 = .ok (.getfield 302, 3) := by decide +kernel
theorem dX12_count_114 : decode cX12_count 114 = .ok (.ireturn, 1) := by decide +kernel
theorem dX12_count_115 : decode cX12_count 115 = .ok (.aload_n 0, 1) := by decide +kernel
theorem dX12_count_116 : decode cX12_count 116 = .ok (.getfield 159, 3) := by decide +kernel
theorem dX12_count_119 : decode cX12_count 119 = .ok (.ireturn, 1) := by decide +kernel
theorem dX12_count_120 : decode cX12_count 120 = .ok (.aload_n 0, 1) := by decide +kernel
theorem dX12_count_121 : decode cX12_count 121 = .ok (.getfield 66, 3) := by decide +kernel
theorem dX12_count_124 : decode cX12_count 124 = .ok (.iload_n 1, 1) := by decide +kernel
theorem dX12_count_125 : decode cX12_count 125 = .ok (.bipush 10, 2) := by decide +kernel
theorem dX12_count_127 : decode cX12_count 127 = .ok (.isub, 1) := by decide +kernel
theorem dX12_count_128 : decode cX12_count 128 = .ok (.iaload, 1) := by decide +kernel
theorem dX12_count_129 : decode cX12_count 129 = .ok (.ireturn, 1) := by decide +kernel
theorem dX12_count_130 : decode cX12_count 130 = .ok (.aload_n 0, 1) := by decide +kernel
theorem dX12_count_131 : decode cX12_count 131 = .ok (.iconst 1, 1) := by decide +kernel
theorem dX12_count_132 : decode cX12_count 132 = .ok (.invokevirtual 283, 3) := by decide +kernel
theorem dX12_count_135 : decode cX12_count 135 = .ok (.ireturn, 1) := by decide +kernel
theorem dX12_stepOf_0 : decode cX12_stepOf 0 = .ok (.iconst 0, 1) := by decide +kernel
theorem dX12_stepOf_1 : decode cX12_stepOf 1 = .ok (.istore_n 2, 1) := by decide +kernel
theorem dX12_stepOf_2 : decode cX12_stepOf 2 = .ok (.iconst 1, 1) := by decide +kernel
theorem dX12_stepOf_3 : decode cX12_stepOf 3 = .ok (.istore_n 3, 1) := by decide +kernel
theorem dX12_stepOf_4 : decode cX12_stepOf 4 = .ok (.iload_n 3, 1) := by decide +kernel
theorem dX12_stepOf_5 : decode cX12_stepOf 5 = .ok (.aload_n 0, 1) := by decide +kernel
theorem dX12_stepOf_6 : decode cX12_stepOf 6 = .ok (.getfield 47, 3) := by decide +kernel
theorem dX12_stepOf_9 : decode cX12_stepOf 9 = .ok (.iload_n 1, 1) := by decide +kernel
theorem dX12_stepOf_10 : decode cX12_stepOf 10 = .ok (.iaload, 1) := by decide +kernel
theorem dX12_stepOf_11 : decode cX12_stepOf 11 = .ok (.if_icmp .ge 29, 3) := by decide +kernel
theorem dX12_stepOf_14 : decode cX12_stepOf 14 = .ok (.iload_n 2, 1) := by decide +kernel
theorem dX12_stepOf_15 : decode cX12_stepOf 15 = .ok (.aload_n 0, 1) := by decide +kernel
theorem dX12_stepOf_16 : decode cX12_stepOf 16 = .ok (.iload_n 1, 1) := by decide +kernel
theorem dX12_stepOf_17 : decode cX12_stepOf 17 = .ok (.iload_n 3, 1) := by decide +kernel
theorem dX12_stepOf_18 : decode cX12_stepOf 18 = .ok (.invokevirtual 316, 3) := by decide +kernel
theorem dX12_stepOf_21 : decode cX12_stepOf 21 = .ok (.aload_n 0, 1) := by decide +kernel
theorem dX12_stepOf_22 : decode cX12_stepOf 22 = .ok (.iload_n 1, 1) := by decide +kernel
theorem dX12_stepOf_23 : decode cX12_stepOf 23 = .ok (.iload_n 3, 1) := by decide +kernel
theorem dX12_stepOf_24 : decode cX12_stepOf 24 = .ok (.iconst 1, 1) := by decide +kernel
theorem dX12_stepOf_25 : decode cX12_stepOf 25 = .ok (.isub, 1) := by decide +kernel
theorem dX12_stepOf_26 : decode cX12_stepOf 26 = .ok (.invokevirtual 316, 3) := by decide +kernel
theorem dX12_stepOf_29 : decode cX12_stepOf 29 = .ok (.isub, 1) := by decide +kernel
theorem dX12_stepOf_30 : decode cX12_stepOf 30 = .ok (.invokestatic 328, 3) := by decide +kernel
theorem dX12_stepOf_33 : decode cX12_stepOf 33 = .ok (.istore_n 2, 1) := by decide +kernel
theorem dX12_stepOf_34 : decode cX12_stepOf 34 = .ok (.iinc 3 1, 3) := by decide +kernel
theorem dX12_stepOf_37 : decode cX12_stepOf 37 = .ok (.goto (-33), 3) := by decide +kernel
theorem dX12_stepOf_40 : decode cX12_stepOf 40 = .ok (.iload_n 2, 1) := by decide +kernel
theorem dX12_stepOf_41 : decode cX12_stepOf 41 = .ok (.ireturn, 1) := by decide +kernel
theorem dX12_piece_0 : decode cX12_piece 0 = .ok (.aload_n 0, 1) := by decide +kernel
theorem dX12_piece_1 : decode cX12_piece 1 = .ok (.iconst 0, 1) := by decide +kernel
theorem dX12_piece_2 : decode cX12_piece 2 = .ok (.putfield 152, 3) := by decide +kernel
theorem dX12_piece_5 : decode cX12_piece 5 = .ok (.aload_n 0, 1) := by decide +kernel
theorem dX12_piece_6 : decode cX12_piece 6 = .ok (.iload_n 1, 1) := by decide +kernel
theorem dX12_piece_7 : decode cX12_piece 7 = .ok (.invokevirtual 367, 3) := by decide +kernel
theorem dX12_piece_10 : decode cX12_piece 10 = .ok (.ifCond .eq 15, 3) := by decide +kernel
theorem dX12_piece_13 : decode cX12_piece 13 = .ok (.iload_n 2, 1) := by decide +kernel
theorem dX12_piece_14 : decode cX12_piece 14 = .ok (.i2l, 1) := by decide +kernel
theorem dX12_piece_15 : decode cX12_piece 15 = .ok (.lconst 0, 1) := by decide +kernel
theorem dX12_piece_16 : decode cX12_piece 16 = .ok (.ldc2_w 370, 3) := by decide +kernel
theorem dX12_piece_19 : decode cX12_piece 19 = .ok (.invokestatic 155, 3) := by decide +kernel
theorem dX12_piece_22 : decode cX12_piece 22 = .ok (.ifCond .ne 9, 3) := by decide +kernel
theorem dX12_piece_25 : decode cX12_piece 25 = .ok (.aload_n 0, 1) := by decide +kernel
theorem dX12_piece_26 : decode cX12_piece 26 = .ok (.iconst 1, 1) := by decide +kernel
theorem dX12_piece_27 : decode cX12_piece 27 = .ok (.invokevirtual 283, 3) := by decide +kernel
theorem dX12_piece_30 : decode cX12_piece 30 = .ok (.ireturn, 1) := by decide +kernel
theorem dX12_piece_31 : decode cX12_piece 31 = .ok (.iload_n 2, 1) := by decide +kernel
theorem dX12_piece_32 : decode cX12_piece 32 = .ok (.ifCond .ne 12, 3) := by decide +kernel
theorem dX12_piece_35 : decode cX12_piece 35 = .ok (.aload_n 0, 1) := by decide +kernel
theorem dX12_piece_36 : decode cX12_piece 36 = .ok (.getfield 47, 3) := by decide +kernel
theorem dX12_piece_39 : decode cX12_piece 39 = .ok (.iload_n 1, 1) := by decide +kernel
theorem dX12_piece_40 : decode cX12_piece 40 = .ok (.iaload, 1) := by decide +kernel
theorem dX12_piece_41 : decode cX12_piece 41 = .ok (.goto 22, 3) := by decide +kernel
theorem dX12_piece_44 : decode cX12_piece 44 = .ok (.iload_n 2, 1) := by decide +kernel
theorem dX12_piece_45 : decode cX12_piece 45 = .ok (.iconst 1, 1) := by decide +kernel
theorem dX12_piece_46 : decode cX12_piece 46 = .ok (.if_icmp .ne 12, 3) := by decide +kernel
theorem dX12_piece_49 : decode cX12_piece 49 = .ok (.aload_n 0, 1) := by decide +kernel
theorem dX12_piece_50 : decode cX12_piece 50 = .ok (.getfield 45, 3) := by decide +kernel
theorem dX12_piece_53 : decode cX12_piece 53 = .ok (.iload_n 1, 1) := by decide +kernel
theorem dX12_piece_54 : decode cX12_piece 54 = .ok (.iaload, 1) := by decide +kernel
theorem dX12_piece_55 : decode cX12_piece 55 = .ok (.goto 8, 3) := by decide +kernel
theorem dX12_piece_58 : decode cX12_piece 58 = .ok (.aload_n 0, 1) := by decide +kernel
theorem dX12_piece_59 : decode cX12_piece 59 = .ok (.iload_n 1, 1) := by decide +kernel
theorem dX12_piece_60 : decode cX12_piece 60 = .ok (.invokevirtual 372, 3) := by decide +kernel
theorem dX12_piece_63 : decode cX12_piece 63 = .ok (.ireturn, 1) := by decide +kernel
theorem dX12_bar_0 : decode cX12_bar 0 = .ok (.aload_n 0, 1) := by decide +kernel
theorem dX12_bar_1 : decode cX12_bar 1 = .ok (.iconst 0, 1) := by decide +kernel
theorem dX12_bar_2 : decode cX12_bar 2 = .ok (.putfield 152, 3) := by decide +kernel
theorem dX12_bar_5 : decode cX12_bar 5 = .ok (.aload_n 0, 1) := by decide +kernel
theorem dX12_bar_6 : decode cX12_bar 6 = .ok (.iload_n 1, 1) := by decide +kernel
theorem dX12_bar_7 : decode cX12_bar 7 = .ok (.invokevirtual 367, 3) := by decide +kernel
theorem dX12_bar_10 : decode cX12_bar 10 = .ok (.ifCond .eq 30, 3) := by decide +kernel
theorem dX12_bar_13 : decode cX12_bar 13 = .ok (.iload_n 2, 1) := by decide +kernel
theorem dX12_bar_14 : decode cX12_bar 14 = .ok (.i2l, 1) := by decide +kernel
theorem dX12_bar_15 : decode cX12_bar 15 = .ok (.lconst 0, 1) := by decide +kernel
theorem dX12_bar_16 : decode cX12_bar 16 = .ok (.aload_n 0, 1) := by decide +kernel
theorem dX12_bar_17 : decode cX12_bar 17 = .ok (.getfield 47, 3) := by decide +kernel
theorem dX12_bar_20 : decode cX12_bar 20 = .ok (.iload_n 1, 1) := by decide +kernel
theorem dX12_bar_21 : decode cX12_bar 21 = .ok (.iaload, 1) := by decide +kernel
theorem dX12_bar_22 : decode cX12_bar 22 = .ok (.iconst 1, 1) := by decide +kernel
theorem dX12_bar_23 : decode cX12_bar 23 = .ok (.isub, 1) := by decide +kernel
theorem dX12_bar_24 : decode cX12_bar 24 = .ok (.i2l, 1) := by decide +kernel
theorem dX12_bar_25 : decode cX12_bar 25 = .ok (.invokestatic 155, 3) := by decide +kernel
theorem dX12_bar_28 : decode cX12_bar 28 = .ok (.ifCond .eq 12, 3) := by decide +kernel
theorem dX12_bar_31 : decode cX12_bar 31 = .ok (.aload_n 0, 1) := by decide +kernel
theorem dX12_bar_32 : decode cX12_bar 32 = .ok (.iload_n 1, 1) := by decide +kernel
theorem dX12_bar_33 : decode cX12_bar 33 = .ok (.iload_n 2, 1) := by decide +kernel
theorem dX12_bar_34 : decode cX12_bar 34 = .ok (.invokevirtual 316, 3) := by decide +kernel
theorem dX12_bar_37 : decode cX12_bar 37 = .ok (.goto 8, 3) := by decide +kernel
theorem dX12_bar_40 : decode cX12_bar 40 = .ok (.aload_n 0, 1) := by decide +kernel
theorem dX12_bar_41 : decode cX12_bar 41 = .ok (.iconst 1, 1) := by decide +kernel
theorem dX12_bar_42 : decode cX12_bar 42 = .ok (.invokevirtual 283, 3) := by decide +kernel
theorem dX12_bar_45 : decode cX12_bar 45 = .ok (.ireturn, 1) := by decide +kernel
theorem dX12_pupil_0 : decode cX12_pupil 0 = .ok (.aload_n 0, 1) := by decide +kernel
theorem dX12_pupil_1 : decode cX12_pupil 1 = .ok (.iconst 0, 1) := by decide +kernel
theorem dX12_pupil_2 : decode cX12_pupil 2 = .ok (.putfield 152, 3) := by decide +kernel
theorem dX12_pupil_5 : decode cX12_pupil 5 = .ok (.aload_n 0, 1) := by decide +kernel
theorem dX12_pupil_6 : decode cX12_pupil 6 = .ok (.iload_n 1, 1) := by decide +kernel
theorem dX12_pupil_7 : decode cX12_pupil 7 = .ok (.invokevirtual 375, 3) := by decide +kernel
theorem dX12_pupil_10 : decode cX12_pupil 10 = .ok (.ifCond .ne 9, 3) := by decide +kernel
theorem dX12_pupil_13 : decode cX12_pupil 13 = .ok (.aload_n 0, 1) := by decide +kernel
theorem dX12_pupil_14 : decode cX12_pupil 14 = .ok (.iconst 1, 1) := by decide +kernel
theorem dX12_pupil_15 : decode cX12_pupil 15 = .ok (.invokevirtual 283, 3) := by decide +kernel
theorem dX12_pupil_18 : decode cX12_pupil 18 = .ok (.ireturn, 1) := by decide +kernel
theorem dX12_pupil_19 : decode cX12_pupil 19 = .ok (.iload_n 2, 1) := by decide +kernel
theorem dX12_pupil_20 : decode cX12_pupil 20 = .ok (.tableswitch 92 0 6 #[44, 51, 58, 65, 72, 79, 86], 44) := by decide +kernel
theorem dX12_pupil_64 : decode cX12_pupil 64 = .ok (.aload_n 0, 1) := by decide +kernel
theorem dX12_pupil_65 : decode cX12_pupil 65 = .ok (.getfield 76, 3) := by decide +kernel
theorem dX12_pupil_68 : decode cX12_pupil 68 = .ok (.iload_n 1, 1) := by decide +kernel
theorem dX12_pupil_69 : decode cX12_pupil 69 = .ok (.iaload, 1) := by decide +kernel
theorem dX12_pupil_70 : decode cX12_pupil 70 = .ok (.ireturn, 1) := by decide +kernel
theorem dX12_pupil_71 : decode cX12_pupil 71 = .ok (.aload_n 0, 1) := by decide +kernel
theorem dX12_pupil_72 : decode cX12_pupil 72 = .ok (.getfield 79, 3) := by decide +kernel
theorem dX12_pupil_75 : decode cX12_pupil 75 = .ok (.iload_n 1, 1) := by decide +kernel
theorem dX12_pupil_76 : decode cX12_pupil 76 = .ok (.iaload, 1) := by decide +kernel
theorem dX12_pupil_77 : decode cX12_pupil 77 = .ok (.ireturn, 1) := by decide +kernel
theorem dX12_pupil_78 : decode cX12_pupil 78 = .ok (.aload_n 0, 1) := by decide +kernel
theorem dX12_pupil_79 : decode cX12_pupil 79 = .ok (.getfield 82, 3) := by decide +kernel
theorem dX12_pupil_82 : decode cX12_pupil 82 = .ok (.iload_n 1, 1) := by decide +kernel
theorem dX12_pupil_83 : decode cX12_pupil 83 = .ok (.iaload, 1) := by decide +kernel
theorem dX12_pupil_84 : decode cX12_pupil 84 = .ok (.ireturn, 1) := by decide +kernel
theorem dX12_pupil_85 : decode cX12_pupil 85 = .ok (.aload_n 0, 1) := by decide +kernel
theorem dX12_pupil_86 : decode cX12_pupil 86 = .ok (.getfield 85, 3) := by decide +kernel
theorem dX12_pupil_89 : decode cX12_pupil 89 = .ok (.iload_n 1, 1) := by decide +kernel
theorem dX12_pupil_90 : decode cX12_pupil 90 = .ok (.iaload, 1) := by decide +kernel
theorem dX12_pupil_91 : decode cX12_pupil 91 = .ok (.ireturn, 1) := by decide +kernel
theorem dX12_pupil_92 : decode cX12_pupil 92 = .ok (.aload_n 0, 1) := by decide +kernel
theorem dX12_pupil_93 : decode cX12_pupil 93 = .ok (.getfield 87, 3) := by decide +kernel
theorem dX12_pupil_96 : decode cX12_pupil 96 = .ok (.iload_n 1, 1) := by decide +kernel
theorem dX12_pupil_97 : decode cX12_pupil 97 = .ok (.iaload, 1) := by decide +kernel
theorem dX12_pupil_98 : decode cX12_pupil 98 = .ok (.ireturn, 1) := by decide +kernel
theorem dX12_pupil_99 : decode cX12_pupil 99 = .ok (.aload_n 0, 1) := by decide +kernel
theorem dX12_pupil_100 : decode cX12_pupil 100 = .ok (.getfield 52, 3) := by decide +kernel
theorem dX12_pupil_103 : decode cX12_pupil 103 = .ok (.iload_n 1, 1) := by decide +kernel
theorem dX12_pupil_104 : decode cX12_pupil 104 = .ok (.iaload, 1) := by decide +kernel
theorem dX12_pupil_105 : decode cX12_pupil 105 = .ok (.ireturn, 1) := by decide +kernel
theorem dX12_pupil_106 : decode cX12_pupil 106 = .ok (.aload_n 0, 1) := by decide +kernel
theorem dX12_pupil_107 : decode cX12_pupil 107 = .ok (.iload_n 1, 1) := by decide +kernel
theorem dX12_pupil_108 : decode cX12_pupil 108 = .ok (.invokevirtual 331, 3) := by decide +kernel
theorem dX12_pupil_111 : decode cX12_pupil 111 = .ok (.ireturn, 1) := by decide +kernel
theorem dX12_pupil_112 : decode cX12_pupil 112 = .ok (.aload_n 0, 1) := by decide +kernel
theorem dX12_pupil_113 : decode cX12_pupil 113 = .ok (.iconst 1, 1) := by decide +kernel
theorem dX12_pupil_114 : decode cX12_pupil 114 = .ok (.invokevirtual 283, 3) := by decide +kernel
theorem dX12_pupil_117 : decode cX12_pupil 117 = .ok (.ireturn, 1) := by decide +kernel
theorem dX12_refuse_0 : decode cX12_refuse 0 = .ok (.aload_n 0, 1) := by decide +kernel
theorem dX12_refuse_1 : decode cX12_refuse 1 = .ok (.getfield 66, 3) := by decide +kernel
theorem dX12_refuse_4 : decode cX12_refuse 4 = .ok (.iload_n 1, 1) := by decide +kernel
theorem dX12_refuse_5 : decode cX12_refuse 5 = .ok (.dup2, 1) := by decide +kernel
theorem dX12_refuse_6 : decode cX12_refuse 6 = .ok (.iaload, 1) := by decide +kernel
theorem dX12_refuse_7 : decode cX12_refuse 7 = .ok (.iconst 1, 1) := by decide +kernel
theorem dX12_refuse_8 : decode cX12_refuse 8 = .ok (.iadd, 1) := by decide +kernel
theorem dX12_refuse_9 : decode cX12_refuse 9 = .ok (.iastore, 1) := by decide +kernel
theorem dX12_refuse_10 : decode cX12_refuse 10 = .ok (.iconst (-1), 1) := by decide +kernel
theorem dX12_refuse_11 : decode cX12_refuse 11 = .ok (.ireturn, 1) := by decide +kernel
theorem dX12_keep_0 : decode cX12_keep 0 = .ok (.aload_n 0, 1) := by decide +kernel
theorem dX12_keep_1 : decode cX12_keep 1 = .ok (.getfield 299, 3) := by decide +kernel
theorem dX12_keep_4 : decode cX12_keep 4 = .ok (.bipush 40, 2) := by decide +kernel
theorem dX12_keep_6 : decode cX12_keep 6 = .ok (.if_icmp .ne 46, 3) := by decide +kernel
theorem dX12_keep_9 : decode cX12_keep 9 = .ok (.bipush 37, 2) := by decide +kernel
theorem dX12_keep_11 : decode cX12_keep 11 = .ok (.istore_n 1, 1) := by decide +kernel
theorem dX12_keep_12 : decode cX12_keep 12 = .ok (.iload_n 1, 1) := by decide +kernel
theorem dX12_keep_13 : decode cX12_keep 13 = .ok (.aload_n 0, 1) := by decide +kernel
theorem dX12_keep_14 : decode cX12_keep 14 = .ok (.getfield 89, 3) := by decide +kernel
theorem dX12_keep_17 : decode cX12_keep 17 = .ok (.arraylength, 1) := by decide +kernel
theorem dX12_keep_18 : decode cX12_keep 18 = .ok (.if_icmp .ge 24, 3) := by decide +kernel
theorem dX12_keep_21 : decode cX12_keep 21 = .ok (.aload_n 0, 1) := by decide +kernel
theorem dX12_keep_22 : decode cX12_keep 22 = .ok (.getfield 89, 3) := by decide +kernel
theorem dX12_keep_25 : decode cX12_keep 25 = .ok (.iload_n 1, 1) := by decide +kernel
theorem dX12_keep_26 : decode cX12_keep 26 = .ok (.bipush 37, 2) := by decide +kernel
theorem dX12_keep_28 : decode cX12_keep 28 = .ok (.isub, 1) := by decide +kernel
theorem dX12_keep_29 : decode cX12_keep 29 = .ok (.aload_n 0, 1) := by decide +kernel
theorem dX12_keep_30 : decode cX12_keep 30 = .ok (.getfield 89, 3) := by decide +kernel
theorem dX12_keep_33 : decode cX12_keep 33 = .ok (.iload_n 1, 1) := by decide +kernel
theorem dX12_keep_34 : decode cX12_keep 34 = .ok (.iaload, 1) := by decide +kernel
theorem dX12_keep_35 : decode cX12_keep 35 = .ok (.iastore, 1) := by decide +kernel
theorem dX12_keep_36 : decode cX12_keep 36 = .ok (.iinc 1 1, 3) := by decide +kernel
theorem dX12_keep_39 : decode cX12_keep 39 = .ok (.goto (-27), 3) := by decide +kernel
theorem dX12_keep_42 : decode cX12_keep 42 = .ok (.aload_n 0, 1) := by decide +kernel
theorem dX12_keep_43 : decode cX12_keep 43 = .ok (.dup, 1) := by decide +kernel
theorem dX12_keep_44 : decode cX12_keep 44 = .ok (.getfield 299, 3) := by decide +kernel
theorem dX12_keep_47 : decode cX12_keep 47 = .ok (.iconst 1, 1) := by decide +kernel
theorem dX12_keep_48 : decode cX12_keep 48 = .ok (.isub, 1) := by decide +kernel
theorem dX12_keep_49 : decode cX12_keep 49 = .ok (.putfield 299, 3) := by decide +kernel
theorem dX12_keep_52 : decode cX12_keep 52 = .ok (.aload_n 0, 1) := by decide +kernel
theorem dX12_keep_53 : decode cX12_keep 53 = .ok (.aload_n 0, 1) := by decide +kernel
theorem dX12_keep_54 : decode cX12_keep 54 = .ok (.getfield 89, 3) := by decide +kernel
theorem dX12_keep_57 : decode cX12_keep 57 = .ok (.bipush 37, 2) := by decide +kernel
theorem dX12_keep_59 : decode cX12_keep 59 = .ok (.aload_n 0, 1) := by decide +kernel
theorem dX12_keep_60 : decode cX12_keep 60 = .ok (.getfield 299, 3) := by decide +kernel
theorem dX12_keep_63 : decode cX12_keep 63 = .ok (.imul, 1) := by decide +kernel
theorem dX12_keep_64 : decode cX12_keep 64 = .ok (.invokevirtual 378, 3) := by decide +kernel
theorem dX12_keep_67 : decode cX12_keep 67 = .ok (.aload_n 0, 1) := by decide +kernel
theorem dX12_keep_68 : decode cX12_keep 68 = .ok (.dup, 1) := by decide +kernel
theorem dX12_keep_69 : decode cX12_keep 69 = .ok (.getfield 299, 3) := by decide +kernel
theorem dX12_keep_72 : decode cX12_keep 72 = .ok (.iconst 1, 1) := by decide +kernel
theorem dX12_keep_73 : decode cX12_keep 73 = .ok (.iadd, 1) := by decide +kernel
theorem dX12_keep_74 : decode cX12_keep 74 = .ok (.putfield 299, 3) := by decide +kernel
theorem dX12_keep_77 : decode cX12_keep 77 = .ok (.return_, 1) := by decide +kernel
theorem dX12_weeks_0 : decode cX12_weeks 0 = .ok (.aload_n 0, 1) := by decide +kernel
theorem dX12_weeks_1 : decode cX12_weeks 1 = .ok (.iconst 0, 1) := by decide +kernel
theorem dX12_weeks_2 : decode cX12_weeks 2 = .ok (.putfield 152, 3) := by decide +kernel
theorem dX12_weeks_5 : decode cX12_weeks 5 = .ok (.iload_n 1, 1) := by decide +kernel
theorem dX12_weeks_6 : decode cX12_weeks 6 = .ok (.i2l, 1) := by decide +kernel
theorem dX12_weeks_7 : decode cX12_weeks 7 = .ok (.lconst 1, 1) := by decide +kernel
theorem dX12_weeks_8 : decode cX12_weeks 8 = .ok (.ldc2_w 382, 3) := by decide +kernel
theorem dX12_weeks_11 : decode cX12_weeks 11 = .ok (.invokestatic 155, 3) := by decide +kernel
theorem dX12_weeks_14 : decode cX12_weeks 14 = .ok (.ifCond .eq 15, 3) := by decide +kernel
theorem dX12_weeks_17 : decode cX12_weeks 17 = .ok (.aload_n 0, 1) := by decide +kernel
theorem dX12_weeks_18 : decode cX12_weeks 18 = .ok (.getfield 296, 3) := by decide +kernel
theorem dX12_weeks_21 : decode cX12_weeks 21 = .ok (.iload_n 1, 1) := by decide +kernel
theorem dX12_weeks_22 : decode cX12_weeks 22 = .ok (.iadd, 1) := by decide +kernel
theorem dX12_weeks_23 : decode cX12_weeks 23 = .ok (.sipush 999, 3) := by decide +kernel
theorem dX12_weeks_26 : decode cX12_weeks 26 = .ok (.if_icmp .le 9, 3) := by decide +kernel
theorem dX12_weeks_29 : decode cX12_weeks 29 = .ok (.aload_n 0, 1) := by decide +kernel
theorem dX12_weeks_30 : decode cX12_weeks 30 = .ok (.iconst 1, 1) := by decide +kernel
theorem dX12_weeks_31 : decode cX12_weeks 31 = .ok (.invokevirtual 384, 3) := by decide +kernel
theorem dX12_weeks_34 : decode cX12_weeks 34 = .ok (.ireturn, 1) := by decide +kernel
theorem dX12_weeks_35 : decode cX12_weeks 35 = .ok (.aload_n 0, 1) := by decide +kernel
theorem dX12_weeks_36 : decode cX12_weeks 36 = .ok (.invokevirtual 387, 3) := by decide +kernel
theorem dX12_weeks_39 : decode cX12_weeks 39 = .ok (.aload_n 0, 1) := by decide +kernel
theorem dX12_weeks_40 : decode cX12_weeks 40 = .ok (.iload_n 1, 1) := by decide +kernel
theorem dX12_weeks_41 : decode cX12_weeks 41 = .ok (.invokevirtual 390, 3) := by decide +kernel
theorem dX12_weeks_44 : decode cX12_weeks 44 = .ok (.aload_n 0, 1) := by decide +kernel
theorem dX12_weeks_45 : decode cX12_weeks 45 = .ok (.getfield 296, 3) := by decide +kernel
theorem dX12_weeks_48 : decode cX12_weeks 48 = .ok (.ireturn, 1) := by decide +kernel
theorem dX12_door_0 : decode cX12_door 0 = .ok (.aload_n 0, 1) := by decide +kernel
theorem dX12_door_1 : decode cX12_door 1 = .ok (.iconst 0, 1) := by decide +kernel
theorem dX12_door_2 : decode cX12_door 2 = .ok (.putfield 152, 3) := by decide +kernel
theorem dX12_door_5 : decode cX12_door 5 = .ok (.aload_n 0, 1) := by decide +kernel
theorem dX12_door_6 : decode cX12_door 6 = .ok (.iload_n 1, 1) := by decide +kernel
theorem dX12_door_7 : decode cX12_door 7 = .ok (.invokevirtual 375, 3) := by decide +kernel
theorem dX12_door_10 : decode cX12_door 10 = .ok (.ifCond .ne 9, 3) := by decide +kernel
theorem dX12_door_13 : decode cX12_door 13 = .ok (.aload_n 0, 1) := by decide +kernel
theorem dX12_door_14 : decode cX12_door 14 = .ok (.iconst 1, 1) := by decide +kernel
theorem dX12_door_15 : decode cX12_door 15 = .ok (.invokevirtual 283, 3) := by decide +kernel
theorem dX12_door_18 : decode cX12_door 18 = .ok (.ireturn, 1) := by decide +kernel
theorem dX12_door_19 : decode cX12_door 19 = .ok (.aload_n 0, 1) := by decide +kernel
theorem dX12_door_20 : decode cX12_door 20 = .ok (.iload_n 1, 1) := by decide +kernel
theorem dX12_door_21 : decode cX12_door 21 = .ok (.iload_n 2, 1) := by decide +kernel
theorem dX12_door_22 : decode cX12_door 22 = .ok (.invokevirtual 358, 3) := by decide +kernel
theorem dX12_door_25 : decode cX12_door 25 = .ok (.ifCond .ne 9, 3) := by decide +kernel
theorem dX12_door_28 : decode cX12_door 28 = .ok (.aload_n 0, 1) := by decide +kernel
theorem dX12_door_29 : decode cX12_door 29 = .ok (.iconst 1, 1) := by decide +kernel
theorem dX12_door_30 : decode cX12_door 30 = .ok (.invokevirtual 384, 3) := by decide +kernel
theorem dX12_door_33 : decode cX12_door 33 = .ok (.ireturn, 1) := by decide +kernel
theorem dX12_door_34 : decode cX12_door 34 = .ok (.aload_n 0, 1) := by decide +kernel
theorem dX12_door_35 : decode cX12_door 35 = .ok (.invokevirtual 387, 3) := by decide +kernel
theorem dX12_door_38 : decode cX12_door 38 = .ok (.aload_n 0, 1) := by decide +kernel
theorem dX12_door_39 : decode cX12_door 39 = .ok (.iload_n 1, 1) := by decide +kernel
theorem dX12_door_40 : decode cX12_door 40 = .ok (.iload_n 2, 1) := by decide +kernel
theorem dX12_door_41 : decode cX12_door 41 = .ok (.invokevirtual 393, 3) := by decide +kernel
theorem dX12_door_44 : decode cX12_door 44 = .ok (.aload_n 0, 1) := by decide +kernel
theorem dX12_door_45 : decode cX12_door 45 = .ok (.getfield 76, 3) := by decide +kernel
theorem dX12_door_48 : decode cX12_door 48 = .ok (.iload_n 1, 1) := by decide +kernel
theorem dX12_door_49 : decode cX12_door 49 = .ok (.iaload, 1) := by decide +kernel
theorem dX12_door_50 : decode cX12_door 50 = .ok (.ireturn, 1) := by decide +kernel
theorem dX12_gloves_0 : decode cX12_gloves 0 = .ok (.aload_n 0, 1) := by decide +kernel
theorem dX12_gloves_1 : decode cX12_gloves 1 = .ok (.iconst 0, 1) := by decide +kernel
theorem dX12_gloves_2 : decode cX12_gloves 2 = .ok (.putfield 152, 3) := by decide +kernel
theorem dX12_gloves_5 : decode cX12_gloves 5 = .ok (.aload_n 0, 1) := by decide +kernel
theorem dX12_gloves_6 : decode cX12_gloves 6 = .ok (.iload_n 1, 1) := by decide +kernel
theorem dX12_gloves_7 : decode cX12_gloves 7 = .ok (.invokevirtual 375, 3) := by decide +kernel
theorem dX12_gloves_10 : decode cX12_gloves 10 = .ok (.ifCond .ne 9, 3) := by decide +kernel
theorem dX12_gloves_13 : decode cX12_gloves 13 = .ok (.aload_n 0, 1) := by decide +kernel
theorem dX12_gloves_14 : decode cX12_gloves 14 = .ok (.iconst 1, 1) := by decide +kernel
theorem dX12_gloves_15 : decode cX12_gloves 15 = .ok (.invokevirtual 283, 3) := by decide +kernel
theorem dX12_gloves_18 : decode cX12_gloves 18 = .ok (.ireturn, 1) := by decide +kernel
theorem dX12_gloves_19 : decode cX12_gloves 19 = .ok (.iload_n 2, 1) := by decide +kernel
theorem dX12_gloves_20 : decode cX12_gloves 20 = .ok (.i2l, 1) := by decide +kernel
theorem dX12_gloves_21 : decode cX12_gloves 21 = .ok (.lconst 1, 1) := by decide +kernel
theorem dX12_gloves_22 : decode cX12_gloves 22 = .ok (.ldc2_w 396, 3) := by decide +kernel
theorem dX12_gloves_25 : decode cX12_gloves 25 = .ok (.invokestatic 155, 3) := by decide +kernel
theorem dX12_gloves_28 : decode cX12_gloves 28 = .ok (.ifCond .ne 9, 3) := by decide +kernel
theorem dX12_gloves_31 : decode cX12_gloves 31 = .ok (.aload_n 0, 1) := by decide +kernel
theorem dX12_gloves_32 : decode cX12_gloves 32 = .ok (.iconst 1, 1) := by decide +kernel
theorem dX12_gloves_33 : decode cX12_gloves 33 = .ok (.invokevirtual 384, 3) := by decide +kernel
theorem dX12_gloves_36 : decode cX12_gloves 36 = .ok (.ireturn, 1) := by decide +kernel
theorem dX12_gloves_37 : decode cX12_gloves 37 = .ok (.aload_n 0, 1) := by decide +kernel
theorem dX12_gloves_38 : decode cX12_gloves 38 = .ok (.invokevirtual 387, 3) := by decide +kernel
theorem dX12_gloves_41 : decode cX12_gloves 41 = .ok (.aload_n 0, 1) := by decide +kernel
theorem dX12_gloves_42 : decode cX12_gloves 42 = .ok (.getfield 79, 3) := by decide +kernel
theorem dX12_gloves_45 : decode cX12_gloves 45 = .ok (.iload_n 1, 1) := by decide +kernel
theorem dX12_gloves_46 : decode cX12_gloves 46 = .ok (.iconst 0, 1) := by decide +kernel
theorem dX12_gloves_47 : decode cX12_gloves 47 = .ok (.aload_n 0, 1) := by decide +kernel
theorem dX12_gloves_48 : decode cX12_gloves 48 = .ok (.getfield 79, 3) := by decide +kernel
theorem dX12_gloves_51 : decode cX12_gloves 51 = .ok (.iload_n 1, 1) := by decide +kernel
theorem dX12_gloves_52 : decode cX12_gloves 52 = .ok (.iaload, 1) := by decide +kernel
theorem dX12_gloves_53 : decode cX12_gloves 53 = .ok (.iload_n 2, 1) := by decide +kernel
theorem dX12_gloves_54 : decode cX12_gloves 54 = .ok (.isub, 1) := by decide +kernel
theorem dX12_gloves_55 : decode cX12_gloves 55 = .ok (.invokestatic 328, 3) := by decide +kernel
theorem dX12_gloves_58 : decode cX12_gloves 58 = .ok (.iastore, 1) := by decide +kernel
theorem dX12_gloves_59 : decode cX12_gloves 59 = .ok (.aload_n 0, 1) := by decide +kernel
theorem dX12_gloves_60 : decode cX12_gloves 60 = .ok (.getfield 79, 3) := by decide +kernel
theorem dX12_gloves_63 : decode cX12_gloves 63 = .ok (.iload_n 1, 1) := by decide +kernel
theorem dX12_gloves_64 : decode cX12_gloves 64 = .ok (.iaload, 1) := by decide +kernel
theorem dX12_gloves_65 : decode cX12_gloves 65 = .ok (.ireturn, 1) := by decide +kernel
theorem dX12_begin_0 : decode cX12_begin 0 = .ok (.aload_n 0, 1) := by decide +kernel
theorem dX12_begin_1 : decode cX12_begin 1 = .ok (.iconst 0, 1) := by decide +kernel
theorem dX12_begin_2 : decode cX12_begin 2 = .ok (.putfield 152, 3) := by decide +kernel
theorem dX12_begin_5 : decode cX12_begin 5 = .ok (.aload_n 0, 1) := by decide +kernel
theorem dX12_begin_6 : decode cX12_begin 6 = .ok (.iload_n 1, 1) := by decide +kernel
theorem dX12_begin_7 : decode cX12_begin 7 = .ok (.invokevirtual 375, 3) := by decide +kernel
theorem dX12_begin_10 : decode cX12_begin 10 = .ok (.ifCond .eq 11, 3) := by decide +kernel
theorem dX12_begin_13 : decode cX12_begin 13 = .ok (.aload_n 0, 1) := by decide +kernel
theorem dX12_begin_14 : decode cX12_begin 14 = .ok (.iload_n 2, 1) := by decide +kernel
theorem dX12_begin_15 : decode cX12_begin 15 = .ok (.invokevirtual 367, 3) := by decide +kernel
theorem dX12_begin_18 : decode cX12_begin 18 = .ok (.ifCond .ne 9, 3) := by decide +kernel
theorem dX12_begin_21 : decode cX12_begin 21 = .ok (.aload_n 0, 1) := by decide +kernel
theorem dX12_begin_22 : decode cX12_begin 22 = .ok (.iconst 1, 1) := by decide +kernel
theorem dX12_begin_23 : decode cX12_begin 23 = .ok (.invokevirtual 283, 3) := by decide +kernel
theorem dX12_begin_26 : decode cX12_begin 26 = .ok (.ireturn, 1) := by decide +kernel
theorem dX12_begin_27 : decode cX12_begin 27 = .ok (.aload_n 0, 1) := by decide +kernel
theorem dX12_begin_28 : decode cX12_begin 28 = .ok (.getfield 82, 3) := by decide +kernel
theorem dX12_begin_31 : decode cX12_begin 31 = .ok (.iload_n 1, 1) := by decide +kernel
theorem dX12_begin_32 : decode cX12_begin 32 = .ok (.iaload, 1) := by decide +kernel
theorem dX12_begin_33 : decode cX12_begin 33 = .ok (.iload_n 2, 1) := by decide +kernel
theorem dX12_begin_34 : decode cX12_begin 34 = .ok (.if_icmp .ne 9, 3) := by decide +kernel
theorem dX12_begin_37 : decode cX12_begin 37 = .ok (.aload_n 0, 1) := by decide +kernel
theorem dX12_begin_38 : decode cX12_begin 38 = .ok (.iconst 1, 1) := by decide +kernel
theorem dX12_begin_39 : decode cX12_begin 39 = .ok (.invokevirtual 384, 3) := by decide +kernel
theorem dX12_begin_42 : decode cX12_begin 42 = .ok (.ireturn, 1) := by decide +kernel
theorem dX12_begin_43 : decode cX12_begin 43 = .ok (.aload_n 0, 1) := by decide +kernel
theorem dX12_begin_44 : decode cX12_begin 44 = .ok (.invokevirtual 387, 3) := by decide +kernel
theorem dX12_begin_47 : decode cX12_begin 47 = .ok (.aload_n 0, 1) := by decide +kernel
theorem dX12_begin_48 : decode cX12_begin 48 = .ok (.getfield 82, 3) := by decide +kernel
theorem dX12_begin_51 : decode cX12_begin 51 = .ok (.iload_n 1, 1) := by decide +kernel
theorem dX12_begin_52 : decode cX12_begin 52 = .ok (.iaload, 1) := by decide +kernel
