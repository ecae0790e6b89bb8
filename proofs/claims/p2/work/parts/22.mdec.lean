/-- the cells of a fresh reference -/
abbrev mW (ca : Nat → ClassId) (h0 : Nat) (q : Nat → Nat) (hf : List Value) (qa : Nat) : va_W := [(h0, .inr (0, mF q 0)), (q 1, .inr (1, hf)), (q 2, .inr (2, [.ref qa, .int 0])), (qa, .inl (ca 0, 16, .inl (fun _ => 0))), (q 12, .inl (ca 4, 148, .inr (.inr (.inr (.inr (fun _ => none)))))), (q 110, .inl (ca 1, 2, .inl (fun _ => 0))), (q 111, .inl (ca 2, 2, .inr (.inl (fun _ => 0)))), (q 112, .inl (ca 1, 2, .inl (fun _ => 0))), (q 113, .inl (ca 2, 2, .inr (.inl (fun _ => 0)))), (q 114, .inl (ca 2, 2, .inr (.inl (fun _ => 0)))), (q 117, .inl (ca 1, 2, .inl (fun _ => 0))), (q 118, .inl (ca 1, 2, .inl (fun _ => 0))), (q 120, .inl (ca 1, 8000, .inl (fun _ => 0))), (q 122, .inl (ca 1, 2, .inl (fun _ => 0)))]
theorem d_MM_init_0 : decode b_MM_init 0 = .ok (.aload_n 0, 1) := by decide +kernel
theorem d_MM_init_1 : decode b_MM_init 1 = .ok (.invokespecial 1, 3) := by decide +kernel
theorem d_MM_init_4 : decode b_MM_init 4 = .ok (.aload_n 0, 1) := by decide +kernel
theorem d_MM_init_5 : decode b_MM_init 5 = .ok (.new 7, 3) := by decide +kernel
theorem d_MM_init_8 : decode b_MM_init 8 = .ok (.dup, 1) := by decide +kernel
theorem d_MM_init_9 : decode b_MM_init 9 = .ok (.invokespecial 9, 3) := by decide +kernel
theorem d_MM_init_12 : decode b_MM_init 12 = .ok (.putfield 10, 3) := by decide +kernel
theorem d_MM_init_15 : decode b_MM_init 15 = .ok (.aload_n 0, 1) := by decide +kernel
theorem d_MM_init_16 : decode b_MM_init 16 = .ok (.new 16, 3) := by decide +kernel
theorem d_MM_init_19 : decode b_MM_init 19 = .ok (.dup, 1) := by decide +kernel
theorem d_MM_init_20 : decode b_MM_init 20 = .ok (.invokespecial 18, 3) := by decide +kernel
theorem d_MM_init_23 : decode b_MM_init 23 = .ok (.putfield 19, 3) := by decide +kernel
theorem d_MM_init_26 : decode b_MM_init 26 = .ok (.aload_n 0, 1) := by decide +kernel
theorem d_MM_init_27 : decode b_MM_init 27 = .ok (.new 16, 3) := by decide +kernel
theorem d_MM_init_30 : decode b_MM_init 30 = .ok (.dup, 1) := by decide +kernel
theorem d_MM_init_31 : decode b_MM_init 31 = .ok (.invokespecial 18, 3) := by decide +kernel
theorem d_MM_init_34 : decode b_MM_init 34 = .ok (.putfield 23, 3) := by decide +kernel
theorem d_MM_init_37 : decode b_MM_init 37 = .ok (.aload_n 0, 1) := by decide +kernel
theorem d_MM_init_38 : decode b_MM_init 38 = .ok (.new 26, 3) := by decide +kernel
theorem d_MM_init_41 : decode b_MM_init 41 = .ok (.dup, 1) := by decide +kernel
theorem d_MM_init_42 : decode b_MM_init 42 = .ok (.iconst 4, 1) := by decide +kernel
theorem d_MM_init_43 : decode b_MM_init 43 = .ok (.invokespecial 28, 3) := by decide +kernel
theorem d_MM_init_46 : decode b_MM_init 46 = .ok (.putfield 31, 3) := by decide +kernel
theorem d_MM_init_49 : decode b_MM_init 49 = .ok (.aload_n 0, 1) := by decide +kernel
theorem d_MM_init_50 : decode b_MM_init 50 = .ok (.new 26, 3) := by decide +kernel
theorem d_MM_init_53 : decode b_MM_init 53 = .ok (.dup, 1) := by decide +kernel
theorem d_MM_init_54 : decode b_MM_init 54 = .ok (.iconst 4, 1) := by decide +kernel
theorem d_MM_init_55 : decode b_MM_init 55 = .ok (.invokespecial 28, 3) := by decide +kernel
theorem d_MM_init_58 : decode b_MM_init 58 = .ok (.putfield 35, 3) := by decide +kernel
theorem d_MM_init_61 : decode b_MM_init 61 = .ok (.aload_n 0, 1) := by decide +kernel
theorem d_MM_init_62 : decode b_MM_init 62 = .ok (.bipush 16, 2) := by decide +kernel
theorem d_MM_init_64 : decode b_MM_init 64 = .ok (.anewarray 38, 3) := by decide +kernel
theorem d_MM_init_67 : decode b_MM_init 67 = .ok (.putfield 40, 3) := by decide +kernel
theorem d_MM_init_70 : decode b_MM_init 70 = .ok (.aload_n 0, 1) := by decide +kernel
theorem d_MM_init_71 : decode b_MM_init 71 = .ok (.sipush 128, 3) := by decide +kernel
theorem d_MM_init_74 : decode b_MM_init 74 = .ok (.anewarray 38, 3) := by decide +kernel
theorem d_MM_init_77 : decode b_MM_init 77 = .ok (.putfield 44, 3) := by decide +kernel
theorem d_MM_init_80 : decode b_MM_init 80 = .ok (.aload_n 0, 1) := by decide +kernel
theorem d_MM_init_81 : decode b_MM_init 81 = .ok (.bipush 16, 2) := by decide +kernel
theorem d_MM_init_83 : decode b_MM_init 83 = .ok (.newarray .int, 2) := by decide +kernel
theorem d_MM_init_85 : decode b_MM_init 85 = .ok (.putfield 47, 3) := by decide +kernel
theorem d_MM_init_88 : decode b_MM_init 88 = .ok (.aload_n 0, 1) := by decide +kernel
theorem d_MM_init_89 : decode b_MM_init 89 = .ok (.sipush 148, 3) := by decide +kernel
theorem d_MM_init_92 : decode b_MM_init 92 = .ok (.anewarray 38, 3) := by decide +kernel
theorem d_MM_init_95 : decode b_MM_init 95 = .ok (.putfield 51, 3) := by decide +kernel
theorem d_MM_init_98 : decode b_MM_init 98 = .ok (.aload_n 0, 1) := by decide +kernel
theorem d_MM_init_99 : decode b_MM_init 99 = .ok (.new 26, 3) := by decide +kernel
theorem d_MM_init_102 : decode b_MM_init 102 = .ok (.dup, 1) := by decide +kernel
theorem d_MM_init_103 : decode b_MM_init 103 = .ok (.iconst 4, 1) := by decide +kernel
theorem d_MM_init_104 : decode b_MM_init 104 = .ok (.invokespecial 28, 3) := by decide +kernel
theorem d_MM_init_107 : decode b_MM_init 107 = .ok (.putfield 54, 3) := by decide +kernel
theorem d_MM_init_110 : decode b_MM_init 110 = .ok (.aload_n 0, 1) := by decide +kernel
theorem d_MM_init_111 : decode b_MM_init 111 = .ok (.new 57, 3) := by decide +kernel
theorem d_MM_init_114 : decode b_MM_init 114 = .ok (.dup, 1) := by decide +kernel
theorem d_MM_init_115 : decode b_MM_init 115 = .ok (.iconst 4, 1) := by decide +kernel
theorem d_MM_init_116 : decode b_MM_init 116 = .ok (.iconst 4, 1) := by decide +kernel
theorem d_MM_init_117 : decode b_MM_init 117 = .ok (.invokespecial 59, 3) := by decide +kernel
theorem d_MM_init_120 : decode b_MM_init 120 = .ok (.putfield 62, 3) := by decide +kernel
theorem d_MM_init_123 : decode b_MM_init 123 = .ok (.aload_n 0, 1) := by decide +kernel
theorem d_MM_init_124 : decode b_MM_init 124 = .ok (.ldc 66, 2) := by decide +kernel
theorem d_MM_init_126 : decode b_MM_init 126 = .ok (.newarray .byte, 2) := by decide +kernel
theorem d_MM_init_128 : decode b_MM_init 128 = .ok (.putfield 67, 3) := by decide +kernel
theorem d_MM_init_131 : decode b_MM_init 131 = .ok (.aload_n 0, 1) := by decide +kernel
theorem d_MM_init_132 : decode b_MM_init 132 = .ok (.ldc 71, 2) := by decide +kernel
theorem d_MM_init_134 : decode b_MM_init 134 = .ok (.newarray .byte, 2) := by decide +kernel
theorem d_MM_init_136 : decode b_MM_init 136 = .ok (.putfield 72, 3) := by decide +kernel
theorem d_MM_init_139 : decode b_MM_init 139 = .ok (.aload_n 0, 1) := by decide +kernel
theorem d_MM_init_140 : decode b_MM_init 140 = .ok (.sipush 4000, 3) := by decide +kernel
theorem d_MM_init_143 : decode b_MM_init 143 = .ok (.newarray .int, 2) := by decide +kernel
theorem d_MM_init_145 : decode b_MM_init 145 = .ok (.putfield 75, 3) := by decide +kernel
theorem d_MM_init_148 : decode b_MM_init 148 = .ok (.aload_n 0, 1) := by decide +kernel
theorem d_MM_init_149 : decode b_MM_init 149 = .ok (.bipush 60, 2) := by decide +kernel
theorem d_MM_init_151 : decode b_MM_init 151 = .ok (.newarray .byte, 2) := by decide +kernel
theorem d_MM_init_153 : decode b_MM_init 153 = .ok (.putfield 78, 3) := by decide +kernel
theorem d_MM_init_156 : decode b_MM_init 156 = .ok (.aload_n 0, 1) := by decide +kernel
theorem d_MM_init_157 : decode b_MM_init 157 = .ok (.bipush 80, 2) := by decide +kernel
theorem d_MM_init_159 : decode b_MM_init 159 = .ok (.newarray .byte, 2) := by decide +kernel
theorem d_MM_init_161 : decode b_MM_init 161 = .ok (.putfield 81, 3) := by decide +kernel
theorem d_MM_init_164 : decode b_MM_init 164 = .ok (.aload_n 0, 1) := by decide +kernel
theorem d_MM_init_165 : decode b_MM_init 165 = .ok (.sipush 4001, 3) := by decide +kernel
theorem d_MM_init_168 : decode b_MM_init 168 = .ok (.newarray .boolean, 2) := by decide +kernel
theorem d_MM_init_170 : decode b_MM_init 170 = .ok (.putfield 84, 3) := by decide +kernel
theorem d_MM_init_173 : decode b_MM_init 173 = .ok (.aload_n 0, 1) := by decide +kernel
theorem d_MM_init_174 : decode b_MM_init 174 = .ok (.sipush 4000, 3) := by decide +kernel
theorem d_MM_init_177 : decode b_MM_init 177 = .ok (.newarray .int, 2) := by decide +kernel
theorem d_MM_init_179 : decode b_MM_init 179 = .ok (.putfield 88, 3) := by decide +kernel
theorem d_MM_init_182 : decode b_MM_init 182 = .ok (.aload_n 0, 1) := by decide +kernel
theorem d_MM_init_183 : decode b_MM_init 183 = .ok (.sipush 4000, 3) := by decide +kernel
theorem d_MM_init_186 : decode b_MM_init 186 = .ok (.newarray .int, 2) := by decide +kernel
theorem d_MM_init_188 : decode b_MM_init 188 = .ok (.putfield 91, 3) := by decide +kernel
theorem d_MM_init_191 : decode b_MM_init 191 = .ok (.aload_n 0, 1) := by decide +kernel
theorem d_MM_init_192 : decode b_MM_init 192 = .ok (.sipush 4000, 3) := by decide +kernel
theorem d_MM_init_195 : decode b_MM_init 195 = .ok (.newarray .int, 2) := by decide +kernel
theorem d_MM_init_197 : decode b_MM_init 197 = .ok (.putfield 94, 3) := by decide +kernel
theorem d_MM_init_200 : decode b_MM_init 200 = .ok (.aload_n 0, 1) := by decide +kernel
theorem d_MM_init_201 : decode b_MM_init 201 = .ok (.sipush 4000, 3) := by decide +kernel
theorem d_MM_init_204 : decode b_MM_init 204 = .ok (.newarray .int, 2) := by decide +kernel
theorem d_MM_init_206 : decode b_MM_init 206 = .ok (.putfield 97, 3) := by decide +kernel
theorem d_MM_init_209 : decode b_MM_init 209 = .ok (.aload_n 0, 1) := by decide +kernel
theorem d_MM_init_210 : decode b_MM_init 210 = .ok (.sipush 4000, 3) := by decide +kernel
theorem d_MM_init_213 : decode b_MM_init 213 = .ok (.newarray .boolean, 2) := by decide +kernel
theorem d_MM_init_215 : decode b_MM_init 215 = .ok (.putfield 100, 3) := by decide +kernel
theorem d_MM_init_218 : decode b_MM_init 218 = .ok (.aload_n 0, 1) := by decide +kernel
theorem d_MM_init_219 : decode b_MM_init 219 = .ok (.sipush 4000, 3) := by decide +kernel
theorem d_MM_init_222 : decode b_MM_init 222 = .ok (.newarray .boolean, 2) := by decide +kernel
theorem d_MM_init_224 : decode b_MM_init 224 = .ok (.putfield 103, 3) := by decide +kernel
theorem d_MM_init_227 : decode b_MM_init 227 = .ok (.aload_n 0, 1) := by decide +kernel
theorem d_MM_init_228 : decode b_MM_init 228 = .ok (.sipush 4001, 3) := by decide +kernel
theorem d_MM_init_231 : decode b_MM_init 231 = .ok (.newarray .int, 2) := by decide +kernel
theorem d_MM_init_233 : decode b_MM_init 233 = .ok (.putfield 106, 3) := by decide +kernel
theorem d_MM_init_236 : decode b_MM_init 236 = .ok (.aload_n 0, 1) := by decide +kernel
theorem d_MM_init_237 : decode b_MM_init 237 = .ok (.new 26, 3) := by decide +kernel
theorem d_MM_init_240 : decode b_MM_init 240 = .ok (.dup, 1) := by decide +kernel
theorem d_MM_init_241 : decode b_MM_init 241 = .ok (.iconst 4, 1) := by decide +kernel
theorem d_MM_init_242 : decode b_MM_init 242 = .ok (.invokespecial 28, 3) := by decide +kernel
theorem d_MM_init_245 : decode b_MM_init 245 = .ok (.putfield 109, 3) := by decide +kernel
theorem d_MM_init_248 : decode b_MM_init 248 = .ok (.aload_n 0, 1) := by decide +kernel
theorem d_MM_init_249 : decode b_MM_init 249 = .ok (.new 26, 3) := by decide +kernel
theorem d_MM_init_252 : decode b_MM_init 252 = .ok (.dup, 1) := by decide +kernel
theorem d_MM_init_253 : decode b_MM_init 253 = .ok (.iconst 4, 1) := by decide +kernel
theorem d_MM_init_254 : decode b_MM_init 254 = .ok (.invokespecial 28, 3) := by decide +kernel
theorem d_MM_init_257 : decode b_MM_init 257 = .ok (.putfield 112, 3) := by decide +kernel
theorem d_MM_init_260 : decode b_MM_init 260 = .ok (.aload_n 0, 1) := by decide +kernel
theorem d_MM_init_261 : decode b_MM_init 261 = .ok (.new 26, 3) := by decide +kernel
theorem d_MM_init_264 : decode b_MM_init 264 = .ok (.dup, 1) := by decide +kernel
theorem d_MM_init_265 : decode b_MM_init 265 = .ok (.iconst 4, 1) := by decide +kernel
theorem d_MM_init_266 : decode b_MM_init 266 = .ok (.invokespecial 28, 3) := by decide +kernel
theorem d_MM_init_269 : decode b_MM_init 269 = .ok (.putfield 115, 3) := by decide +kernel
theorem d_MM_init_272 : decode b_MM_init 272 = .ok (.aload_n 0, 1) := by decide +kernel
theorem d_MM_init_273 : decode b_MM_init 273 = .ok (.new 26, 3) := by decide +kernel
theorem d_MM_init_276 : decode b_MM_init 276 = .ok (.dup, 1) := by decide +kernel
theorem d_MM_init_277 : decode b_MM_init 277 = .ok (.iconst 4, 1) := by decide +kernel
theorem d_MM_init_278 : decode b_MM_init 278 = .ok (.invokespecial 28, 3) := by decide +kernel
theorem d_MM_init_281 : decode b_MM_init 281 = .ok (.putfield 118, 3) := by decide +kernel
theorem d_MM_init_284 : decode b_MM_init 284 = .ok (.aload_n 0, 1) := by decide +kernel
theorem d_MM_init_285 : decode b_MM_init 285 = .ok (.new 26, 3) := by decide +kernel
theorem d_MM_init_288 : decode b_MM_init 288 = .ok (.dup, 1) := by decide +kernel
theorem d_MM_init_289 : decode b_MM_init 289 = .ok (.iconst 4, 1) := by decide +kernel
theorem d_MM_init_290 : decode b_MM_init 290 = .ok (.invokespecial 28, 3) := by decide +kernel
theorem d_MM_init_293 : decode b_MM_init 293 = .ok (.putfield 121, 3) := by decide +kernel
theorem d_MM_init_296 : decode b_MM_init 296 = .ok (.aload_n 0, 1) := by decide +kernel
theorem d_MM_init_297 : decode b_MM_init 297 = .ok (.sipush 4000, 3) := by decide +kernel
theorem d_MM_init_300 : decode b_MM_init 300 = .ok (.newarray .int, 2) := by decide +kernel
theorem d_MM_init_302 : decode b_MM_init 302 = .ok (.putfield 124, 3) := by decide +kernel
theorem d_MM_init_305 : decode b_MM_init 305 = .ok (.aload_n 0, 1) := by decide +kernel
theorem d_MM_init_306 : decode b_MM_init 306 = .ok (.new 26, 3) := by decide +kernel
theorem d_MM_init_309 : decode b_MM_init 309 = .ok (.dup, 1) := by decide +kernel
theorem d_MM_init_310 : decode b_MM_init 310 = .ok (.iconst 4, 1) := by decide +kernel
theorem d_MM_init_311 : decode b_MM_init 311 = .ok (.invokespecial 28, 3) := by decide +kernel
theorem d_MM_init_314 : decode b_MM_init 314 = .ok (.putfield 127, 3) := by decide +kernel
theorem d_MM_init_317 : decode b_MM_init 317 = .ok (.aload_n 0, 1) := by decide +kernel
theorem d_MM_init_318 : decode b_MM_init 318 = .ok (.new 26, 3) := by decide +kernel
theorem d_MM_init_321 : decode b_MM_init 321 = .ok (.dup, 1) := by decide +kernel
theorem d_MM_init_322 : decode b_MM_init 322 = .ok (.iconst 4, 1) := by decide +kernel
theorem d_MM_init_323 : decode b_MM_init 323 = .ok (.invokespecial 28, 3) := by decide +kernel
theorem d_MM_init_326 : decode b_MM_init 326 = .ok (.putfield 130, 3) := by decide +kernel
theorem d_MM_init_329 : decode b_MM_init 329 = .ok (.aload_n 0, 1) := by decide +kernel
theorem d_MM_init_330 : decode b_MM_init 330 = .ok (.new 26, 3) := by decide +kernel
theorem d_MM_init_333 : decode b_MM_init 333 = .ok (.dup, 1) := by decide +kernel
theorem d_MM_init_334 : decode b_MM_init 334 = .ok (.iconst 4, 1) := by decide +kernel
theorem d_MM_init_335 : decode b_MM_init 335 = .ok (.invokespecial 28, 3) := by decide +kernel
theorem d_MM_init_338 : decode b_MM_init 338 = .ok (.putfield 133, 3) := by decide +kernel
theorem d_MM_init_341 : decode b_MM_init 341 = .ok (.aload_n 0, 1) := by decide +kernel
theorem d_MM_init_342 : decode b_MM_init 342 = .ok (.new 26, 3) := by decide +kernel
theorem d_MM_init_345 : decode b_MM_init 345 = .ok (.dup, 1) := by decide +kernel
theorem d_MM_init_346 : decode b_MM_init 346 = .ok (.iconst 4, 1) := by decide +kernel
theorem d_MM_init_347 : decode b_MM_init 347 = .ok (.invokespecial 28, 3) := by decide +kernel
theorem d_MM_init_350 : decode b_MM_init 350 = .ok (.putfield 136, 3) := by decide +kernel
theorem d_MM_init_353 : decode b_MM_init 353 = .ok (.aload_n 0, 1) := by decide +kernel
theorem d_MM_init_354 : decode b_MM_init 354 = .ok (.new 139, 3) := by decide +kernel
theorem d_MM_init_357 : decode b_MM_init 357 = .ok (.dup, 1) := by decide +kernel
theorem d_MM_init_358 : decode b_MM_init 358 = .ok (.iconst 4, 1) := by decide +kernel
theorem d_MM_init_359 : decode b_MM_init 359 = .ok (.invokespecial 141, 3) := by decide +kernel
theorem d_MM_init_362 : decode b_MM_init 362 = .ok (.putfield 142, 3) := by decide +kernel
theorem d_MM_init_365 : decode b_MM_init 365 = .ok (.aload_n 0, 1) := by decide +kernel
theorem d_MM_init_366 : decode b_MM_init 366 = .ok (.new 26, 3) := by decide +kernel
theorem d_MM_init_369 : decode b_MM_init 369 = .ok (.dup, 1) := by decide +kernel
theorem d_MM_init_370 : decode b_MM_init 370 = .ok (.iconst 4, 1) := by decide +kernel
theorem d_MM_init_371 : decode b_MM_init 371 = .ok (.invokespecial 28, 3) := by decide +kernel
theorem d_MM_init_374 : decode b_MM_init 374 = .ok (.putfield 146, 3) := by decide +kernel
theorem d_MM_init_377 : decode b_MM_init 377 = .ok (.aload_n 0, 1) := by decide +kernel
theorem d_MM_init_378 : decode b_MM_init 378 = .ok (.new 26, 3) := by decide +kernel
theorem d_MM_init_381 : decode b_MM_init 381 = .ok (.dup, 1) := by decide +kernel
theorem d_MM_init_382 : decode b_MM_init 382 = .ok (.iconst 4, 1) := by decide +kernel
theorem d_MM_init_383 : decode b_MM_init 383 = .ok (.invokespecial 28, 3) := by decide +kernel
theorem d_MM_init_386 : decode b_MM_init 386 = .ok (.putfield 149, 3) := by decide +kernel
theorem d_MM_init_389 : decode b_MM_init 389 = .ok (.aload_n 0, 1) := by decide +kernel
theorem d_MM_init_390 : decode b_MM_init 390 = .ok (.new 26, 3) := by decide +kernel
theorem d_MM_init_393 : decode b_MM_init 393 = .ok (.dup, 1) := by decide +kernel
theorem d_MM_init_394 : decode b_MM_init 394 = .ok (.iconst 4, 1) := by decide +kernel
theorem d_MM_init_395 : decode b_MM_init 395 = .ok (.invokespecial 28, 3) := by decide +kernel
theorem d_MM_init_398 : decode b_MM_init 398 = .ok (.putfield 152, 3) := by decide +kernel
theorem d_MM_init_401 : decode b_MM_init 401 = .ok (.aload_n 0, 1) := by decide +kernel
theorem d_MM_init_402 : decode b_MM_init 402 = .ok (.new 26, 3) := by decide +kernel
theorem d_MM_init_405 : decode b_MM_init 405 = .ok (.dup, 1) := by decide +kernel
theorem d_MM_init_406 : decode b_MM_init 406 = .ok (.iconst 4, 1) := by decide +kernel
theorem d_MM_init_407 : decode b_MM_init 407 = .ok (.invokespecial 28, 3) := by decide +kernel
theorem d_MM_init_410 : decode b_MM_init 410 = .ok (.putfield 155, 3) := by decide +kernel
theorem d_MM_init_413 : decode b_MM_init 413 = .ok (.aload_n 0, 1) := by decide +kernel
theorem d_MM_init_414 : decode b_MM_init 414 = .ok (.new 26, 3) := by decide +kernel
theorem d_MM_init_417 : decode b_MM_init 417 = .ok (.dup, 1) := by decide +kernel
theorem d_MM_init_418 : decode b_MM_init 418 = .ok (.iconst 4, 1) := by decide +kernel
theorem d_MM_init_419 : decode b_MM_init 419 = .ok (.invokespecial 28, 3) := by decide +kernel
theorem d_MM_init_422 : decode b_MM_init 422 = .ok (.putfield 158, 3) := by decide +kernel
theorem d_MM_init_425 : decode b_MM_init 425 = .ok (.aload_n 0, 1) := by decide +kernel
theorem d_MM_init_426 : decode b_MM_init 426 = .ok (.new 26, 3) := by decide +kernel
theorem d_MM_init_429 : decode b_MM_init 429 = .ok (.dup, 1) := by decide +kernel
theorem d_MM_init_430 : decode b_MM_init 430 = .ok (.iconst 4, 1) := by decide +kernel
theorem d_MM_init_431 : decode b_MM_init 431 = .ok (.invokespecial 28, 3) := by decide +kernel
theorem d_MM_init_434 : decode b_MM_init 434 = .ok (.putfield 161, 3) := by decide +kernel
theorem d_MM_init_437 : decode b_MM_init 437 = .ok (.aload_n 0, 1) := by decide +kernel
theorem d_MM_init_438 : decode b_MM_init 438 = .ok (.new 139, 3) := by decide +kernel
theorem d_MM_init_441 : decode b_MM_init 441 = .ok (.dup, 1) := by decide +kernel
theorem d_MM_init_442 : decode b_MM_init 442 = .ok (.iconst 4, 1) := by decide +kernel
theorem d_MM_init_443 : decode b_MM_init 443 = .ok (.invokespecial 141, 3) := by decide +kernel
theorem d_MM_init_446 : decode b_MM_init 446 = .ok (.putfield 164, 3) := by decide +kernel
theorem d_MM_init_449 : decode b_MM_init 449 = .ok (.aload_n 0, 1) := by decide +kernel
theorem d_MM_init_450 : decode b_MM_init 450 = .ok (.new 26, 3) := by decide +kernel
theorem d_MM_init_453 : decode b_MM_init 453 = .ok (.dup, 1) := by decide +kernel
theorem d_MM_init_454 : decode b_MM_init 454 = .ok (.iconst 4, 1) := by decide +kernel
theorem d_MM_init_455 : decode b_MM_init 455 = .ok (.invokespecial 28, 3) := by decide +kernel
theorem d_MM_init_458 : decode b_MM_init 458 = .ok (.putfield 167, 3) := by decide +kernel
theorem d_MM_init_461 : decode b_MM_init 461 = .ok (.aload_n 0, 1) := by decide +kernel
theorem d_MM_init_462 : decode b_MM_init 462 = .ok (.new 26, 3) := by decide +kernel
theorem d_MM_init_465 : decode b_MM_init 465 = .ok (.dup, 1) := by decide +kernel
theorem d_MM_init_466 : decode b_MM_init 466 = .ok (.iconst 4, 1) := by decide +kernel
theorem d_MM_init_467 : decode b_MM_init 467 = .ok (.invokespecial 28, 3) := by decide +kernel
theorem d_MM_init_470 : decode b_MM_init 470 = .ok (.putfield 170, 3) := by decide +kernel
theorem d_MM_init_473 : decode b_MM_init 473 = .ok (.aload_n 0, 1) := by decide +kernel
theorem d_MM_init_474 : decode b_MM_init 474 = .ok (.new 26, 3) := by decide +kernel
theorem d_MM_init_477 : decode b_MM_init 477 = .ok (.dup, 1) := by decide +kernel
theorem d_MM_init_478 : decode b_MM_init 478 = .ok (.iconst 4, 1) := by decide +kernel
theorem d_MM_init_479 : decode b_MM_init 479 = .ok (.invokespecial 28, 3) := by decide +kernel
theorem d_MM_init_482 : decode b_MM_init 482 = .ok (.putfield 173, 3) := by decide +kernel
theorem d_MM_init_485 : decode b_MM_init 485 = .ok (.aload_n 0, 1) := by decide +kernel
theorem d_MM_init_486 : decode b_MM_init 486 = .ok (.new 26, 3) := by decide +kernel
theorem d_MM_init_489 : decode b_MM_init 489 = .ok (.dup, 1) := by decide +kernel
theorem d_MM_init_490 : decode b_MM_init 490 = .ok (.iconst 4, 1) := by decide +kernel
theorem d_MM_init_491 : decode b_MM_init 491 = .ok (.invokespecial 28, 3) := by decide +kernel
theorem d_MM_init_494 : decode b_MM_init 494 = .ok (.putfield 176, 3) := by decide +kernel
theorem d_MM_init_497 : decode b_MM_init 497 = .ok (.aload_n 0, 1) := by decide +kernel
theorem d_MM_init_498 : decode b_MM_init 498 = .ok (.new 26, 3) := by decide +kernel
theorem d_MM_init_501 : decode b_MM_init 501 = .ok (.dup, 1) := by decide +kernel
theorem d_MM_init_502 : decode b_MM_init 502 = .ok (.iconst 4, 1) := by decide +kernel
theorem d_MM_init_503 : decode b_MM_init 503 = .ok (.invokespecial 28, 3) := by decide +kernel
theorem d_MM_init_506 : decode b_MM_init 506 = .ok (.putfield 179, 3) := by decide +kernel
theorem d_MM_init_509 : decode b_MM_init 509 = .ok (.aload_n 0, 1) := by decide +kernel
theorem d_MM_init_510 : decode b_MM_init 510 = .ok (.new 26, 3) := by decide +kernel
theorem d_MM_init_513 : decode b_MM_init 513 = .ok (.dup, 1) := by decide +kernel
theorem d_MM_init_514 : decode b_MM_init 514 = .ok (.iconst 4, 1) := by decide +kernel
theorem d_MM_init_515 : decode b_MM_init 515 = .ok (.invokespecial 28, 3) := by decide +kernel
theorem d_MM_init_518 : decode b_MM_init 518 = .ok (.putfield 182, 3) := by decide +kernel
theorem d_MM_init_521 : decode b_MM_init 521 = .ok (.aload_n 0, 1) := by decide +kernel
theorem d_MM_init_522 : decode b_MM_init 522 = .ok (.new 26, 3) := by decide +kernel
theorem d_MM_init_525 : decode b_MM_init 525 = .ok (.dup, 1) := by decide +kernel
theorem d_MM_init_526 : decode b_MM_init 526 = .ok (.iconst 4, 1) := by decide +kernel
theorem d_MM_init_527 : decode b_MM_init 527 = .ok (.invokespecial 28, 3) := by decide +kernel
theorem d_MM_init_530 : decode b_MM_init 530 = .ok (.putfield 185, 3) := by decide +kernel
theorem d_MM_init_533 : decode b_MM_init 533 = .ok (.aload_n 0, 1) := by decide +kernel
theorem d_MM_init_534 : decode b_MM_init 534 = .ok (.new 139, 3) := by decide +kernel
theorem d_MM_init_537 : decode b_MM_init 537 = .ok (.dup, 1) := by decide +kernel
theorem d_MM_init_538 : decode b_MM_init 538 = .ok (.iconst 4, 1) := by decide +kernel
theorem d_MM_init_539 : decode b_MM_init 539 = .ok (.invokespecial 141, 3) := by decide +kernel
theorem d_MM_init_542 : decode b_MM_init 542 = .ok (.putfield 188, 3) := by decide +kernel
theorem d_MM_init_545 : decode b_MM_init 545 = .ok (.aload_n 0, 1) := by decide +kernel
theorem d_MM_init_546 : decode b_MM_init 546 = .ok (.bipush 80, 2) := by decide +kernel
theorem d_MM_init_548 : decode b_MM_init 548 = .ok (.newarray .int, 2) := by decide +kernel
theorem d_MM_init_550 : decode b_MM_init 550 = .ok (.putfield 191, 3) := by decide +kernel
theorem d_MM_init_553 : decode b_MM_init 553 = .ok (.aload_n 0, 1) := by decide +kernel
theorem d_MM_init_554 : decode b_MM_init 554 = .ok (.new 26, 3) := by decide +kernel
theorem d_MM_init_557 : decode b_MM_init 557 = .ok (.dup, 1) := by decide +kernel
theorem d_MM_init_558 : decode b_MM_init 558 = .ok (.iconst 4, 1) := by decide +kernel
theorem d_MM_init_559 : decode b_MM_init 559 = .ok (.invokespecial 28, 3) := by decide +kernel
theorem d_MM_init_562 : decode b_MM_init 562 = .ok (.putfield 194, 3) := by decide +kernel
theorem d_MM_init_565 : decode b_MM_init 565 = .ok (.aload_n 0, 1) := by decide +kernel
theorem d_MM_init_566 : decode b_MM_init 566 = .ok (.new 26, 3) := by decide +kernel
theorem d_MM_init_569 : decode b_MM_init 569 = .ok (.dup, 1) := by decide +kernel
theorem d_MM_init_570 : decode b_MM_init 570 = .ok (.iconst 4, 1) := by decide +kernel
theorem d_MM_init_571 : decode b_MM_init 571 = .ok (.invokespecial 28, 3) := by decide +kernel
theorem d_MM_init_574 : decode b_MM_init 574 = .ok (.putfield 197, 3) := by decide +kernel
theorem d_MM_init_577 : decode b_MM_init 577 = .ok (.aload_n 0, 1) := by decide +kernel
theorem d_MM_init_578 : decode b_MM_init 578 = .ok (.bipush 120, 2) := by decide +kernel
theorem d_MM_init_580 : decode b_MM_init 580 = .ok (.newarray .boolean, 2) := by decide +kernel
theorem d_MM_init_582 : decode b_MM_init 582 = .ok (.putfield 200, 3) := by decide +kernel
theorem d_MM_init_585 : decode b_MM_init 585 = .ok (.aload_n 0, 1) := by decide +kernel
theorem d_MM_init_586 : decode b_MM_init 586 = .ok (.new 26, 3) := by decide +kernel
theorem d_MM_init_589 : decode b_MM_init 589 = .ok (.dup, 1) := by decide +kernel
theorem d_MM_init_590 : decode b_MM_init 590 = .ok (.iconst 4, 1) := by decide +kernel
theorem d_MM_init_591 : decode b_MM_init 591 = .ok (.invokespecial 28, 3) := by decide +kernel
theorem d_MM_init_594 : decode b_MM_init 594 = .ok (.putfield 203, 3) := by decide +kernel
theorem d_MM_init_597 : decode b_MM_init 597 = .ok (.aload_n 0, 1) := by decide +kernel
theorem d_MM_init_598 : decode b_MM_init 598 = .ok (.new 26, 3) := by decide +kernel
theorem d_MM_init_601 : decode b_MM_init 601 = .ok (.dup, 1) := by decide +kernel
theorem d_MM_init_602 : decode b_MM_init 602 = .ok (.iconst 4, 1) := by decide +kernel
theorem d_MM_init_603 : decode b_MM_init 603 = .ok (.invokespecial 28, 3) := by decide +kernel
theorem d_MM_init_606 : decode b_MM_init 606 = .ok (.putfield 206, 3) := by decide +kernel
theorem d_MM_init_609 : decode b_MM_init 609 = .ok (.aload_n 0, 1) := by decide +kernel
theorem d_MM_init_610 : decode b_MM_init 610 = .ok (.bipush 10, 2) := by decide +kernel
theorem d_MM_init_612 : decode b_MM_init 612 = .ok (.anewarray 209, 3) := by decide +kernel
theorem d_MM_init_615 : decode b_MM_init 615 = .ok (.dup, 1) := by decide +kernel
theorem d_MM_init_616 : decode b_MM_init 616 = .ok (.iconst 0, 1) := by decide +kernel
theorem d_MM_init_617 : decode b_MM_init 617 = .ok (.ldc 211, 2) := by decide +kernel
theorem d_MM_init_619 : decode b_MM_init 619 = .ok (.aastore, 1) := by decide +kernel
theorem d_MM_init_620 : decode b_MM_init 620 = .ok (.dup, 1) := by decide +kernel
theorem d_MM_init_621 : decode b_MM_init 621 = .ok (.iconst 1, 1) := by decide +kernel
theorem d_MM_init_622 : decode b_MM_init 622 = .ok (.ldc 213, 2) := by decide +kernel
theorem d_MM_init_624 : decode b_MM_init 624 = .ok (.aastore, 1) := by decide +kernel
theorem d_MM_init_625 : decode b_MM_init 625 = .ok (.dup, 1) := by decide +kernel
theorem d_MM_init_626 : decode b_MM_init 626 = .ok (.iconst 2, 1) := by decide +kernel
theorem d_MM_init_627 : decode b_MM_init 627 = .ok (.ldc 215, 2) := by decide +kernel
theorem d_MM_init_629 : decode b_MM_init 629 = .ok (.aastore, 1) := by decide +kernel
theorem d_MM_init_630 : decode b_MM_init 630 = .ok (.dup, 1) := by decide +kernel
theorem d_MM_init_631 : decode b_MM_init 631 = .ok (.iconst 3, 1) := by decide +kernel
theorem d_MM_init_632 : decode b_MM_init 632 = .ok (.ldc 217, 2) := by decide +kernel
theorem d_MM_init_634 : decode b_MM_init 634 = .ok (.aastore, 1) := by decide +kernel
theorem d_MM_init_635 : decode b_MM_init 635 = .ok (.dup, 1) := by decide +kernel
theorem d_MM_init_636 : decode b_MM_init 636 = .ok (.iconst 4, 1) := by decide +kernel
theorem d_MM_init_637 : decode b_MM_init 637 = .ok (.ldc 219, 2) := by decide +kernel
theorem d_MM_init_639 : decode b_MM_init 639 = .ok (.aastore, 1) := by decide +kernel
theorem d_MM_init_640 : decode b_MM_init 640 = .ok (.dup, 1) := by decide +kernel
theorem d_MM_init_641 : decode b_MM_init 641 = .ok (.iconst 5, 1) := by decide +kernel
theorem d_MM_init_642 : decode b_MM_init 642 = .ok (.ldc 221, 2) := by decide +kernel
theorem d_MM_init_644 : decode b_MM_init 644 = .ok (.aastore, 1) := by decide +kernel
theorem d_MM_init_645 : decode b_MM_init 645 = .ok (.dup, 1) := by decide +kernel
theorem d_MM_init_646 : decode b_MM_init 646 = .ok (.bipush 6, 2) := by decide +kernel
theorem d_MM_init_648 : decode b_MM_init 648 = .ok (.ldc 223, 2) := by decide +kernel
theorem d_MM_init_650 : decode b_MM_init 650 = .ok (.aastore, 1) := by decide +kernel
theorem d_MM_init_651 : decode b_MM_init 651 = .ok (.dup, 1) := by decide +kernel
theorem d_MM_init_652 : decode b_MM_init 652 = .ok (.bipush 7, 2) := by decide +kernel
theorem d_MM_init_654 : decode b_MM_init 654 = .ok (.ldc 225, 2) := by decide +kernel
theorem d_MM_init_656 : decode b_MM_init 656 = .ok (.aastore, 1) := by decide +kernel
theorem d_MM_init_657 : decode b_MM_init 657 = .ok (.dup, 1) := by decide +kernel
theorem d_MM_init_658 : decode b_MM_init 658 = .ok (.bipush 8, 2) := by decide +kernel
theorem d_MM_init_660 : decode b_MM_init 660 = .ok (.ldc 227, 2) := by decide +kernel
theorem d_MM_init_662 : decode b_MM_init 662 = .ok (.aastore, 1) := by decide +kernel
theorem d_MM_init_663 : decode b_MM_init 663 = .ok (.dup, 1) := by decide +kernel
theorem d_MM_init_664 : decode b_MM_init 664 = .ok (.bipush 9, 2) := by decide +kernel
theorem d_MM_init_666 : decode b_MM_init 666 = .ok (.ldc 229, 2) := by decide +kernel
theorem d_MM_init_668 : decode b_MM_init 668 = .ok (.aastore, 1) := by decide +kernel
theorem d_MM_init_669 : decode b_MM_init 669 = .ok (.putfield 231, 3) := by decide +kernel
theorem d_MM_init_672 : decode b_MM_init 672 = .ok (.aload_n 0, 1) := by decide +kernel
theorem d_MM_init_673 : decode b_MM_init 673 = .ok (.bipush 6, 2) := by decide +kernel
theorem d_MM_init_675 : decode b_MM_init 675 = .ok (.anewarray 209, 3) := by decide +kernel
theorem d_MM_init_678 : decode b_MM_init 678 = .ok (.dup, 1) := by decide +kernel
theorem d_MM_init_679 : decode b_MM_init 679 = .ok (.iconst 0, 1) := by decide +kernel
theorem d_MM_init_680 : decode b_MM_init 680 = .ok (.ldc 235, 2) := by decide +kernel
theorem d_MM_init_682 : decode b_MM_init 682 = .ok (.aastore, 1) := by decide +kernel
theorem d_MM_init_683 : decode b_MM_init 683 = .ok (.dup, 1) := by decide +kernel
theorem d_MM_init_684 : decode b_MM_init 684 = .ok (.iconst 1, 1) := by decide +kernel
theorem d_MM_init_685 : decode b_MM_init 685 = .ok (.ldc 237, 2) := by decide +kernel
theorem d_MM_init_687 : decode b_MM_init 687 = .ok (.aastore, 1) := by decide +kernel
theorem d_MM_init_688 : decode b_MM_init 688 = .ok (.dup, 1) := by decide +kernel
theorem d_MM_init_689 : decode b_MM_init 689 = .ok (.iconst 2, 1) := by decide +kernel
theorem d_MM_init_690 : decode b_MM_init 690 = .ok (.ldc 239, 2) := by decide +kernel
theorem d_MM_init_692 : decode b_MM_init 692 = .ok (.aastore, 1) := by decide +kernel
theorem d_MM_init_693 : decode b_MM_init 693 = .ok (.dup, 1) := by decide +kernel
theorem d_MM_init_694 : decode b_MM_init 694 = .ok (.iconst 3, 1) := by decide +kernel
theorem d_MM_init_695 : decode b_MM_init 695 = .ok (.ldc 241, 2) := by decide +kernel
theorem d_MM_init_697 : decode b_MM_init 697 = .ok (.aastore, 1) := by decide +kernel
theorem d_MM_init_698 : decode b_MM_init 698 = .ok (.dup, 1) := by decide +kernel
theorem d_MM_init_699 : decode b_MM_init 699 = .ok (.iconst 4, 1) := by decide +kernel
theorem d_MM_init_700 : decode b_MM_init 700 = .ok (.ldc 243, 2) := by decide +kernel
theorem d_MM_init_702 : decode b_MM_init 702 = .ok (.aastore, 1) := by decide +kernel
theorem d_MM_init_703 : decode b_MM_init 703 = .ok (.dup, 1) := by decide +kernel
theorem d_MM_init_704 : decode b_MM_init 704 = .ok (.iconst 5, 1) := by decide +kernel
theorem d_MM_init_705 : decode b_MM_init 705 = .ok (.ldc 245, 2) := by decide +kernel
theorem d_MM_init_707 : decode b_MM_init 707 = .ok (.aastore, 1) := by decide +kernel
theorem d_MM_init_708 : decode b_MM_init 708 = .ok (.putfield 247, 3) := by decide +kernel
theorem d_MM_init_711 : decode b_MM_init 711 = .ok (.aload_n 0, 1) := by decide +kernel
theorem d_MM_init_712 : decode b_MM_init 712 = .ok (.bipush 64, 2) := by decide +kernel
theorem d_MM_init_714 : decode b_MM_init 714 = .ok (.newarray .int, 2) := by decide +kernel
theorem d_MM_init_716 : decode b_MM_init 716 = .ok (.putfield 250, 3) := by decide +kernel
theorem d_MM_init_719 : decode b_MM_init 719 = .ok (.aload_n 0, 1) := by decide +kernel
theorem d_MM_init_720 : decode b_MM_init 720 = .ok (.bipush 64, 2) := by decide +kernel
theorem d_MM_init_722 : decode b_MM_init 722 = .ok (.newarray .int, 2) := by decide +kernel
theorem d_MM_init_724 : decode b_MM_init 724 = .ok (.putfield 253, 3) := by decide +kernel
theorem d_MM_init_727 : decode b_MM_init 727 = .ok (.aload_n 0, 1) := by decide +kernel
theorem d_MM_init_728 : decode b_MM_init 728 = .ok (.bipush 80, 2) := by decide +kernel
theorem d_MM_init_730 : decode b_MM_init 730 = .ok (.newarray .int, 2) := by decide +kernel
theorem d_MM_init_732 : decode b_MM_init 732 = .ok (.putfield 256, 3) := by decide +kernel
theorem d_MM_init_735 : decode b_MM_init 735 = .ok (.aload_n 0, 1) := by decide +kernel
theorem d_MM_init_736 : decode b_MM_init 736 = .ok (.bipush 80, 2) := by decide +kernel
theorem d_MM_init_738 : decode b_MM_init 738 = .ok (.newarray .boolean, 2) := by decide +kernel
theorem d_MM_init_740 : decode b_MM_init 740 = .ok (.putfield 259, 3) := by decide +kernel
theorem d_MM_init_743 : decode b_MM_init 743 = .ok (.aload_n 0, 1) := by decide +kernel
theorem d_MM_init_744 : decode b_MM_init 744 = .ok (.bipush 80, 2) := by decide +kernel
theorem d_MM_init_746 : decode b_MM_init 746 = .ok (.newarray .int, 2) := by decide +kernel
theorem d_MM_init_748 : decode b_MM_init 748 = .ok (.putfield 262, 3) := by decide +kernel
theorem d_MM_init_751 : decode b_MM_init 751 = .ok (.aload_n 0, 1) := by decide +kernel
theorem d_MM_init_752 : decode b_MM_init 752 = .ok (.bipush 80, 2) := by decide +kernel
theorem d_MM_init_754 : decode b_MM_init 754 = .ok (.newarray .int, 2) := by decide +kernel
theorem d_MM_init_756 : decode b_MM_init 756 = .ok (.putfield 265, 3) := by decide +kernel
theorem d_MM_init_759 : decode b_MM_init 759 = .ok (.aload_n 0, 1) := by decide +kernel
theorem d_MM_init_760 : decode b_MM_init 760 = .ok (.new 139, 3) := by decide +kernel
theorem d_MM_init_763 : decode b_MM_init 763 = .ok (.dup, 1) := by decide +kernel
theorem d_MM_init_764 : decode b_MM_init 764 = .ok (.iconst 4, 1) := by decide +kernel
theorem d_MM_init_765 : decode b_MM_init 765 = .ok (.invokespecial 141, 3) := by decide +kernel
theorem d_MM_init_768 : decode b_MM_init 768 = .ok (.putfield 268, 3) := by decide +kernel
theorem d_MM_init_771 : decode b_MM_init 771 = .ok (.aload_n 0, 1) := by decide +kernel
theorem d_MM_init_772 : decode b_MM_init 772 = .ok (.new 26, 3) := by decide +kernel
theorem d_MM_init_775 : decode b_MM_init 775 = .ok (.dup, 1) := by decide +kernel
theorem d_MM_init_776 : decode b_MM_init 776 = .ok (.iconst 4, 1) := by decide +kernel
theorem d_MM_init_777 : decode b_MM_init 777 = .ok (.invokespecial 28, 3) := by decide +kernel
theorem d_MM_init_780 : decode b_MM_init 780 = .ok (.putfield 271, 3) := by decide +kernel
theorem d_MM_init_783 : decode b_MM_init 783 = .ok (.aload_n 0, 1) := by decide +kernel
theorem d_MM_init_784 : decode b_MM_init 784 = .ok (.new 57, 3) := by decide +kernel
theorem d_MM_init_787 : decode b_MM_init 787 = .ok (.dup, 1) := by decide +kernel
theorem d_MM_init_788 : decode b_MM_init 788 = .ok (.iconst 4, 1) := by decide +kernel
theorem d_MM_init_789 : decode b_MM_init 789 = .ok (.iconst 4, 1) := by decide +kernel
theorem d_MM_init_790 : decode b_MM_init 790 = .ok (.invokespecial 59, 3) := by decide +kernel
theorem d_MM_init_793 : decode b_MM_init 793 = .ok (.putfield 274, 3) := by decide +kernel
theorem d_MM_init_796 : decode b_MM_init 796 = .ok (.aload_n 0, 1) := by decide +kernel
theorem d_MM_init_797 : decode b_MM_init 797 = .ok (.new 16, 3) := by decide +kernel
theorem d_MM_init_800 : decode b_MM_init 800 = .ok (.dup, 1) := by decide +kernel
theorem d_MM_init_801 : decode b_MM_init 801 = .ok (.invokespecial 18, 3) := by decide +kernel
theorem d_MM_init_804 : decode b_MM_init 804 = .ok (.putfield 277, 3) := by decide +kernel
theorem d_MM_init_807 : decode b_MM_init 807 = .ok (.aload_n 0, 1) := by decide +kernel
theorem d_MM_init_808 : decode b_MM_init 808 = .ok (.new 16, 3) := by decide +kernel
theorem d_MM_init_811 : decode b_MM_init 811 = .ok (.dup, 1) := by decide +kernel
theorem d_MM_init_812 : decode b_MM_init 812 = .ok (.invokespecial 18, 3) := by decide +kernel
theorem d_MM_init_815 : decode b_MM_init 815 = .ok (.putfield 280, 3) := by decide +kernel
theorem d_MM_init_818 : decode b_MM_init 818 = .ok (.aload_n 0, 1) := by decide +kernel
theorem d_MM_init_819 : decode b_MM_init 819 = .ok (.iconst 2, 1) := by decide +kernel
theorem d_MM_init_820 : decode b_MM_init 820 = .ok (.newarray .int, 2) := by decide +kernel
theorem d_MM_init_822 : decode b_MM_init 822 = .ok (.putfield 283, 3) := by decide +kernel
theorem d_MM_init_825 : decode b_MM_init 825 = .ok (.aload_n 0, 1) := by decide +kernel
theorem d_MM_init_826 : decode b_MM_init 826 = .ok (.iconst 2, 1) := by decide +kernel
theorem d_MM_init_827 : decode b_MM_init 827 = .ok (.newarray .long, 2) := by decide +kernel
theorem d_MM_init_829 : decode b_MM_init 829 = .ok (.putfield 286, 3) := by decide +kernel
theorem d_MM_init_832 : decode b_MM_init 832 = .ok (.aload_n 0, 1) := by decide +kernel
theorem d_MM_init_833 : decode b_MM_init 833 = .ok (.iconst 2, 1) := by decide +kernel
theorem d_MM_init_834 : decode b_MM_init 834 = .ok (.newarray .int, 2) := by decide +kernel
theorem d_MM_init_836 : decode b_MM_init 836 = .ok (.putfield 290, 3) := by decide +kernel
theorem d_MM_init_839 : decode b_MM_init 839 = .ok (.aload_n 0, 1) := by decide +kernel
theorem d_MM_init_840 : decode b_MM_init 840 = .ok (.iconst 2, 1) := by decide +kernel
theorem d_MM_init_841 : decode b_MM_init 841 = .ok (.newarray .long, 2) := by decide +kernel
theorem d_MM_init_843 : decode b_MM_init 843 = .ok (.putfield 293, 3) := by decide +kernel
theorem d_MM_init_846 : decode b_MM_init 846 = .ok (.aload_n 0, 1) := by decide +kernel
theorem d_MM_init_847 : decode b_MM_init 847 = .ok (.iconst 2, 1) := by decide +kernel
theorem d_MM_init_848 : decode b_MM_init 848 = .ok (.newarray .long, 2) := by decide +kernel
theorem d_MM_init_850 : decode b_MM_init 850 = .ok (.putfield 296, 3) := by decide +kernel
theorem d_MM_init_853 : decode b_MM_init 853 = .ok (.aload_n 0, 1) := by decide +kernel
theorem d_MM_init_854 : decode b_MM_init 854 = .ok (.sipush 3200, 3) := by decide +kernel
theorem d_MM_init_857 : decode b_MM_init 857 = .ok (.newarray .long, 2) := by decide +kernel
theorem d_MM_init_859 : decode b_MM_init 859 = .ok (.putfield 299, 3) := by decide +kernel
theorem d_MM_init_862 : decode b_MM_init 862 = .ok (.aload_n 0, 1) := by decide +kernel
theorem d_MM_init_863 : decode b_MM_init 863 = .ok (.iconst 2, 1) := by decide +kernel
theorem d_MM_init_864 : decode b_MM_init 864 = .ok (.newarray .int, 2) := by decide +kernel
theorem d_MM_init_866 : decode b_MM_init 866 = .ok (.putfield 302, 3) := by decide +kernel
theorem d_MM_init_869 : decode b_MM_init 869 = .ok (.aload_n 0, 1) := by decide +kernel
theorem d_MM_init_870 : decode b_MM_init 870 = .ok (.iconst 2, 1) := by decide +kernel
theorem d_MM_init_871 : decode b_MM_init 871 = .ok (.newarray .int, 2) := by decide +kernel
theorem d_MM_init_873 : decode b_MM_init 873 = .ok (.putfield 305, 3) := by decide +kernel
theorem d_MM_init_876 : decode b_MM_init 876 = .ok (.aload_n 0, 1) := by decide +kernel
theorem d_MM_init_877 : decode b_MM_init 877 = .ok (.sipush 8000, 3) := by decide +kernel
theorem d_MM_init_880 : decode b_MM_init 880 = .ok (.newarray .int, 2) := by decide +kernel
theorem d_MM_init_882 : decode b_MM_init 882 = .ok (.putfield 308, 3) := by decide +kernel
theorem d_MM_init_885 : decode b_MM_init 885 = .ok (.aload_n 0, 1) := by decide +kernel
theorem d_MM_init_886 : decode b_MM_init 886 = .ok (.sipush 8000, 3) := by decide +kernel
theorem d_MM_init_889 : decode b_MM_init 889 = .ok (.newarray .int, 2) := by decide +kernel
theorem d_MM_init_891 : decode b_MM_init 891 = .ok (.putfield 311, 3) := by decide +kernel
theorem d_MM_init_894 : decode b_MM_init 894 = .ok (.aload_n 0, 1) := by decide +kernel
theorem d_MM_init_895 : decode b_MM_init 895 = .ok (.ldc_w 314, 3) := by decide +kernel
theorem d_MM_init_898 : decode b_MM_init 898 = .ok (.newarray .long, 2) := by decide +kernel
theorem d_MM_init_900 : decode b_MM_init 900 = .ok (.putfield 315, 3) := by decide +kernel
theorem d_MM_init_903 : decode b_MM_init 903 = .ok (.aload_n 0, 1) := by decide +kernel
theorem d_MM_init_904 : decode b_MM_init 904 = .ok (.iconst 2, 1) := by decide +kernel
theorem d_MM_init_905 : decode b_MM_init 905 = .ok (.newarray .int, 2) := by decide +kernel
theorem d_MM_init_907 : decode b_MM_init 907 = .ok (.putfield 318, 3) := by decide +kernel
theorem d_MM_init_910 : decode b_MM_init 910 = .ok (.aload_n 0, 1) := by decide +kernel
theorem d_MM_init_911 : decode b_MM_init 911 = .ok (.bipush 120, 2) := by decide +kernel
theorem d_MM_init_913 : decode b_MM_init 913 = .ok (.newarray .int, 2) := by decide +kernel
theorem d_MM_init_915 : decode b_MM_init 915 = .ok (.putfield 321, 3) := by decide +kernel
theorem d_MM_init_918 : decode b_MM_init 918 = .ok (.aload_n 0, 1) := by decide +kernel
theorem d_MM_init_919 : decode b_MM_init 919 = .ok (.bipush 120, 2) := by decide +kernel
theorem d_MM_init_921 : decode b_MM_init 921 = .ok (.newarray .int, 2) := by decide +kernel
theorem d_MM_init_923 : decode b_MM_init 923 = .ok (.putfield 324, 3) := by decide +kernel
theorem d_MM_init_926 : decode b_MM_init 926 = .ok (.aload_n 0, 1) := by decide +kernel
theorem d_MM_init_927 : decode b_MM_init 927 = .ok (.bipush 120, 2) := by decide +kernel
theorem d_MM_init_929 : decode b_MM_init 929 = .ok (.anewarray 57, 3) := by decide +kernel
theorem d_MM_init_932 : decode b_MM_init 932 = .ok (.putfield 327, 3) := by decide +kernel
theorem d_MM_init_935 : decode b_MM_init 935 = .ok (.aload_n 0, 1) := by decide +kernel
theorem d_MM_init_936 : decode b_MM_init 936 = .ok (.bipush 120, 2) := by decide +kernel
theorem d_MM_init_938 : decode b_MM_init 938 = .ok (.newarray .int, 2) := by decide +kernel
theorem d_MM_init_940 : decode b_MM_init 940 = .ok (.putfield 331, 3) := by decide +kernel
theorem d_MM_init_943 : decode b_MM_init 943 = .ok (.aload_n 0, 1) := by decide +kernel
theorem d_MM_init_944 : decode b_MM_init 944 = .ok (.bipush 120, 2) := by decide +kernel
theorem d_MM_init_946 : decode b_MM_init 946 = .ok (.newarray .int, 2) := by decide +kernel
theorem d_MM_init_948 : decode b_MM_init 948 = .ok (.putfield 334, 3) := by decide +kernel
theorem d_MM_init_951 : decode b_MM_init 951 = .ok (.aload_n 0, 1) := by decide +kernel
theorem d_MM_init_952 : decode b_MM_init 952 = .ok (.sipush 7200, 3) := by decide +kernel
theorem d_MM_init_955 : decode b_MM_init 955 = .ok (.newarray .long, 2) := by decide +kernel
theorem d_MM_init_957 : decode b_MM_init 957 = .ok (.putfield 337, 3) := by decide +kernel
theorem d_MM_init_960 : decode b_MM_init 960 = .ok (.aload_n 0, 1) := by decide +kernel
theorem d_MM_init_961 : decode b_MM_init 961 = .ok (.sipush 7440, 3) := by decide +kernel
theorem d_MM_init_964 : decode b_MM_init 964 = .ok (.newarray .long, 2) := by decide +kernel
theorem d_MM_init_966 : decode b_MM_init 966 = .ok (.putfield 340, 3) := by decide +kernel
theorem d_MM_init_969 : decode b_MM_init 969 = .ok (.return_, 1) := by decide +kernel
