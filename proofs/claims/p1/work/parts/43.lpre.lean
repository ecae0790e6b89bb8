/-! THE LAW'S CASES -/
def lC (p : Program) (s : State) (m : MethodId) (args : Array Value) (c : Code) (dC : Nat → ClassId) (dI : Nat → Nat → Nat) (ca : Nat → ClassId) (A : Nat → Prop) (b : Nat) (xs : Nat → Int32) : Prop :=
  p.tables.exec = Jvm.exec ∧ c.code = code ∧ c.maxLocals = 8 ∧ s.vm.findClass R_LW = some m.cls ∧ (∀ w ∈ lk, w.before args s = true) ∧ mK dC dI ca s ∧ lE dC dI ca s ∧ (∀ q : Nat, s.heap.size ≤ q → A q) ∧ (∀ q : Nat, A q → s.heap.size ≤ q) ∧ va_X b 8 xs s s.heap ∧ b < s.heap.size ∧ ¬ A b
/-- behind a case -/
def lkk (p : Program) (l : Launch) (e : Env) (s : State) (m : MethodId) (args : Array Value) (below : List Frame) (meth : Method) (c : Code) (A : Nat → Prop) (b : Nat) (Q : State → Prop) : Prop :=
  ∀ (H : Heap) (locs : List Loc) (ls : Array Slot), va_S A s.heap H locs → lv_has ls 8 [(4, .int 0), (0, .ref b)] → W p l e room_1 s m args below meth c H locs 300 650000 Q (F0 m 1327 ls [])
theorem l_st {s : State} {A : Nat → Prop} {H : Heap} {locs : List Loc} (hS : va_S A s.heap H locs) (hAs : ∀ q : Nat, A q → s.heap.size ≤ q) : ∀ (q : Nat) (cell : Cell), s.heap[q]? = some cell → cell.vm.isStatics = true → H[q]? = some cell := by
  intro q cell h _
  have hlt := (Array.getElem?_eq_some_iff.mp h).1
  rw [hS.2.1 q hlt (fun h9 => absurd (hAs q h9) (Nat.not_le.mpr hlt))]
  exact h
theorem lg_cmp_self (x : Int64) : lg_cmp x x = 0 := by
  have h : ¬ x < x := by rw [Int64.lt_iff_toInt_lt]; omega
  simp [lg_cmp, h]
theorem cs_of {s0 n : Int32} (h : (0 ≤ s0.toInt64 ∧ s0.toInt64 ≤ 1) ∧ (1 ≤ n.toInt64 ∧ n.toInt64 ≤ 4000)) : (¬ s0 < 0 ∧ ¬ 1 < s0) ∧ (¬ n < 1 ∧ n ≤ 4000) := by
  simp only [Int64.le_iff_toInt_le, Int32.lt_iff_toInt_lt, Int32.le_iff_toInt_le, Int32.toInt_toInt64] at h ⊢
  have e0 : (0 : Int64).toInt = 0 := by decide
  have e1 : (1 : Int64).toInt = 1 := by decide
  have e2 : (4000 : Int64).toInt = 4000 := by decide
  have f0 : (0 : Int32).toInt = 0 := by decide
  have f1 : (1 : Int32).toInt = 1 := by decide
  have f2 : (4000 : Int32).toInt = 4000 := by decide
  omega
theorem cs_to {s0 n : Int32} (h : (¬ s0 < 0 ∧ ¬ 1 < s0) ∧ (¬ n < 1 ∧ n ≤ 4000)) : (0 ≤ s0.toInt64 ∧ s0.toInt64 ≤ 1) ∧ (1 ≤ n.toInt64 ∧ n.toInt64 ≤ 4000) := by
  simp only [Int64.le_iff_toInt_le, Int32.lt_iff_toInt_lt, Int32.le_iff_toInt_le, Int32.toInt_toInt64] at h ⊢
  have e0 : (0 : Int64).toInt = 0 := by decide
  have e1 : (1 : Int64).toInt = 1 := by decide
  have e2 : (4000 : Int64).toInt = 4000 := by decide
  have f0 : (0 : Int32).toInt = 0 := by decide
  have f1 : (1 : Int32).toInt = 1 := by decide
  have f2 : (4000 : Int32).toInt = 4000 := by decide
  omega
theorem ct_of {s0 n : Int32} (h : (0 ≤ s0.toInt64 ∧ s0.toInt64 ≤ 1) ∧ (0 ≤ n.toInt64 ∧ n.toInt64 ≤ 8)) : (¬ s0 < 0 ∧ ¬ 1 < s0) ∧ (¬ n < 0 ∧ n ≤ 8) := by
  simp only [Int64.le_iff_toInt_le, Int32.lt_iff_toInt_lt, Int32.le_iff_toInt_le, Int32.toInt_toInt64] at h ⊢
  have e0 : (0 : Int64).toInt = 0 := by decide
  have e1 : (1 : Int64).toInt = 1 := by decide
  have e2 : (8 : Int64).toInt = 8 := by decide
  have f0 : (0 : Int32).toInt = 0 := by decide
  have f1 : (1 : Int32).toInt = 1 := by decide
  have f2 : (8 : Int32).toInt = 8 := by decide
  omega
theorem ct_to {s0 n : Int32} (h : (¬ s0 < 0 ∧ ¬ 1 < s0) ∧ (¬ n < 0 ∧ n ≤ 8)) : (0 ≤ s0.toInt64 ∧ s0.toInt64 ≤ 1) ∧ (0 ≤ n.toInt64 ∧ n.toInt64 ≤ 8) := by
  simp only [Int64.le_iff_toInt_le, Int32.lt_iff_toInt_lt, Int32.le_iff_toInt_le, Int32.toInt_toInt64] at h ⊢
  have e0 : (0 : Int64).toInt = 0 := by decide
  have e1 : (1 : Int64).toInt = 1 := by decide
  have e2 : (8 : Int64).toInt = 8 := by decide
  have f0 : (0 : Int32).toInt = 0 := by decide
  have f1 : (1 : Int32).toInt = 1 := by decide
  have f2 : (8 : Int32).toInt = 8 := by decide
  omega
theorem td_st {s0 i : Int32} (h : (¬ s0 < 0 ∧ ¬ 1 < s0) ∧ (¬ i < 0 ∧ i ≤ 8)) : stV i = tdV i := by
  have h2 := h.2
  simp only [Int32.lt_iff_toInt_lt, Int32.le_iff_toInt_le] at h2
  have f0 : (0 : Int32).toInt = 0 := by decide
  have f2 : (8 : Int32).toInt = 8 := by decide
  have hj : ∃ k : Nat, k ≤ 8 ∧ i = nI k := ⟨i.toInt.toNat, by omega, Int32.toInt_inj.mp (by rw [nI_toInt (by omega)]; omega)⟩
  obtain ⟨k, hk, rfl⟩ := hj
  have hk2 : k = 0 ∨ k = 1 ∨ k = 2 ∨ k = 3 ∨ k = 4 ∨ k = 5 ∨ k = 6 ∨ k = 7 ∨ k = 8 := by omega
  rcases hk2 with rfl | rfl | rfl | rfl | rfl | rfl | rfl | rfl | rfl <;> decide
theorem d_law_144 : decode code 144 = .ok (.aload_n 1, 1) := by decide +kernel
theorem d_law_145 : decode code 145 = .ok (.aload_n 0, 1) := by decide +kernel
theorem d_law_146 : decode code 146 = .ok (.iload 4, 2) := by decide +kernel
theorem d_law_148 : decode code 148 = .ok (.iconst 1, 1) := by decide +kernel
theorem d_law_149 : decode code 149 = .ok (.iadd, 1) := by decide +kernel
theorem d_law_150 : decode code 150 = .ok (.iaload, 1) := by decide +kernel
theorem d_law_151 : decode code 151 = .ok (.i2l, 1) := by decide +kernel
theorem d_law_152 : decode code 152 = .ok (.bipush 32, 2) := by decide +kernel
theorem d_law_154 : decode code 154 = .ok (.lshl, 1) := by decide +kernel
theorem d_law_155 : decode code 155 = .ok (.aload_n 0, 1) := by decide +kernel
theorem d_law_156 : decode code 156 = .ok (.iload 4, 2) := by decide +kernel
theorem d_law_158 : decode code 158 = .ok (.iconst 2, 1) := by decide +kernel
theorem d_law_159 : decode code 159 = .ok (.iadd, 1) := by decide +kernel
theorem d_law_160 : decode code 160 = .ok (.iaload, 1) := by decide +kernel
theorem d_law_161 : decode code 161 = .ok (.i2l, 1) := by decide +kernel
theorem d_law_162 : decode code 162 = .ok (.ldc2_w 37, 3) := by decide +kernel
theorem d_law_165 : decode code 165 = .ok (.land, 1) := by decide +kernel
theorem d_law_166 : decode code 166 = .ok (.lor, 1) := by decide +kernel
theorem d_law_167 : decode code 167 = .ok (.aload_n 0, 1) := by decide +kernel
theorem d_law_168 : decode code 168 = .ok (.iload 4, 2) := by decide +kernel
theorem d_law_170 : decode code 170 = .ok (.iconst 3, 1) := by decide +kernel
theorem d_law_171 : decode code 171 = .ok (.iadd, 1) := by decide +kernel
theorem d_law_172 : decode code 172 = .ok (.iaload, 1) := by decide +kernel
theorem d_law_173 : decode code 173 = .ok (.invokevirtual 39, 3) := by decide +kernel
theorem d_law_176 : decode code 176 = .ok (.aload_n 2, 1) := by decide +kernel
theorem d_law_177 : decode code 177 = .ok (.aload_n 0, 1) := by decide +kernel
theorem d_law_178 : decode code 178 = .ok (.iload 4, 2) := by decide +kernel
theorem d_law_180 : decode code 180 = .ok (.iconst 1, 1) := by decide +kernel
theorem d_law_181 : decode code 181 = .ok (.iadd, 1) := by decide +kernel
theorem d_law_182 : decode code 182 = .ok (.iaload, 1) := by decide +kernel
theorem d_law_183 : decode code 183 = .ok (.i2l, 1) := by decide +kernel
theorem d_law_184 : decode code 184 = .ok (.bipush 32, 2) := by decide +kernel
theorem d_law_186 : decode code 186 = .ok (.lshl, 1) := by decide +kernel
theorem d_law_187 : decode code 187 = .ok (.aload_n 0, 1) := by decide +kernel
theorem d_law_188 : decode code 188 = .ok (.iload 4, 2) := by decide +kernel
theorem d_law_190 : decode code 190 = .ok (.iconst 2, 1) := by decide +kernel
theorem d_law_191 : decode code 191 = .ok (.iadd, 1) := by decide +kernel
theorem d_law_192 : decode code 192 = .ok (.iaload, 1) := by decide +kernel
theorem d_law_193 : decode code 193 = .ok (.i2l, 1) := by decide +kernel
theorem d_law_194 : decode code 194 = .ok (.ldc2_w 37, 3) := by decide +kernel
theorem d_law_197 : decode code 197 = .ok (.land, 1) := by decide +kernel
theorem d_law_198 : decode code 198 = .ok (.lor, 1) := by decide +kernel
theorem d_law_199 : decode code 199 = .ok (.aload_n 0, 1) := by decide +kernel
theorem d_law_200 : decode code 200 = .ok (.iload 4, 2) := by decide +kernel
theorem d_law_202 : decode code 202 = .ok (.iconst 3, 1) := by decide +kernel
theorem d_law_203 : decode code 203 = .ok (.iadd, 1) := by decide +kernel
theorem d_law_204 : decode code 204 = .ok (.iaload, 1) := by decide +kernel
theorem d_law_205 : decode code 205 = .ok (.invokevirtual 43, 3) := by decide +kernel
theorem d_law_208 : decode code 208 = .ok (.if_icmp .eq 1119, 3) := by decide +kernel
theorem d_law_213 : decode code 213 = .ok (.aload_n 1, 1) := by decide +kernel
theorem d_law_214 : decode code 214 = .ok (.invokevirtual 44, 3) := by decide +kernel
theorem d_law_217 : decode code 217 = .ok (.aload_n 2, 1) := by decide +kernel
theorem d_law_218 : decode code 218 = .ok (.invokevirtual 48, 3) := by decide +kernel
theorem d_law_221 : decode code 221 = .ok (.if_icmp .eq 1106, 3) := by decide +kernel
theorem d_law_226 : decode code 226 = .ok (.aload_n 1, 1) := by decide +kernel
theorem d_law_227 : decode code 227 = .ok (.aload_n 0, 1) := by decide +kernel
theorem d_law_228 : decode code 228 = .ok (.iload 4, 2) := by decide +kernel
theorem d_law_230 : decode code 230 = .ok (.iconst 1, 1) := by decide +kernel
theorem d_law_231 : decode code 231 = .ok (.iadd, 1) := by decide +kernel
theorem d_law_232 : decode code 232 = .ok (.iaload, 1) := by decide +kernel
theorem d_law_233 : decode code 233 = .ok (.aload_n 0, 1) := by decide +kernel
theorem d_law_234 : decode code 234 = .ok (.iload 4, 2) := by decide +kernel
theorem d_law_236 : decode code 236 = .ok (.iconst 2, 1) := by decide +kernel
theorem d_law_237 : decode code 237 = .ok (.iadd, 1) := by decide +kernel
theorem d_law_238 : decode code 238 = .ok (.iaload, 1) := by decide +kernel
theorem d_law_239 : decode code 239 = .ok (.invokevirtual 49, 3) := by decide +kernel
theorem d_law_242 : decode code 242 = .ok (.aload_n 2, 1) := by decide +kernel
theorem d_law_243 : decode code 243 = .ok (.aload_n 0, 1) := by decide +kernel
theorem d_law_244 : decode code 244 = .ok (.iload 4, 2) := by decide +kernel
theorem d_law_246 : decode code 246 = .ok (.iconst 1, 1) := by decide +kernel
theorem d_law_247 : decode code 247 = .ok (.iadd, 1) := by decide +kernel
theorem d_law_248 : decode code 248 = .ok (.iaload, 1) := by decide +kernel
theorem d_law_249 : decode code 249 = .ok (.aload_n 0, 1) := by decide +kernel
theorem d_law_250 : decode code 250 = .ok (.iload 4, 2) := by decide +kernel
theorem d_law_252 : decode code 252 = .ok (.iconst 2, 1) := by decide +kernel
theorem d_law_253 : decode code 253 = .ok (.iadd, 1) := by decide +kernel
theorem d_law_254 : decode code 254 = .ok (.iaload, 1) := by decide +kernel
theorem d_law_255 : decode code 255 = .ok (.invokevirtual 52, 3) := by decide +kernel
theorem d_law_258 : decode code 258 = .ok (.if_icmp .eq 1069, 3) := by decide +kernel
theorem d_law_263 : decode code 263 = .ok (.aload_n 1, 1) := by decide +kernel
theorem d_law_264 : decode code 264 = .ok (.aload_n 0, 1) := by decide +kernel
theorem d_law_265 : decode code 265 = .ok (.iload 4, 2) := by decide +kernel
theorem d_law_267 : decode code 267 = .ok (.iconst 1, 1) := by decide +kernel
theorem d_law_268 : decode code 268 = .ok (.iadd, 1) := by decide +kernel
theorem d_law_269 : decode code 269 = .ok (.iaload, 1) := by decide +kernel
theorem d_law_270 : decode code 270 = .ok (.aload_n 0, 1) := by decide +kernel
theorem d_law_271 : decode code 271 = .ok (.iload 4, 2) := by decide +kernel
theorem d_law_273 : decode code 273 = .ok (.iconst 2, 1) := by decide +kernel
theorem d_law_274 : decode code 274 = .ok (.iadd, 1) := by decide +kernel
theorem d_law_275 : decode code 275 = .ok (.iaload, 1) := by decide +kernel
theorem d_law_276 : decode code 276 = .ok (.aload_n 0, 1) := by decide +kernel
theorem d_law_277 : decode code 277 = .ok (.iload 4, 2) := by decide +kernel
theorem d_law_279 : decode code 279 = .ok (.iconst 3, 1) := by decide +kernel
theorem d_law_280 : decode code 280 = .ok (.iadd, 1) := by decide +kernel
theorem d_law_281 : decode code 281 = .ok (.iaload, 1) := by decide +kernel
theorem d_law_282 : decode code 282 = .ok (.invokevirtual 53, 3) := by decide +kernel
theorem d_law_285 : decode code 285 = .ok (.aload_n 2, 1) := by decide +kernel
theorem d_law_286 : decode code 286 = .ok (.aload_n 0, 1) := by decide +kernel
theorem d_law_287 : decode code 287 = .ok (.iload 4, 2) := by decide +kernel
theorem d_law_289 : decode code 289 = .ok (.iconst 1, 1) := by decide +kernel
theorem d_law_290 : decode code 290 = .ok (.iadd, 1) := by decide +kernel
theorem d_law_291 : decode code 291 = .ok (.iaload, 1) := by decide +kernel
theorem d_law_292 : decode code 292 = .ok (.aload_n 0, 1) := by decide +kernel
theorem d_law_293 : decode code 293 = .ok (.iload 4, 2) := by decide +kernel
theorem d_law_295 : decode code 295 = .ok (.iconst 2, 1) := by decide +kernel
theorem d_law_296 : decode code 296 = .ok (.iadd, 1) := by decide +kernel
theorem d_law_297 : decode code 297 = .ok (.iaload, 1) := by decide +kernel
theorem d_law_298 : decode code 298 = .ok (.aload_n 0, 1) := by decide +kernel
theorem d_law_299 : decode code 299 = .ok (.iload 4, 2) := by decide +kernel
theorem d_law_301 : decode code 301 = .ok (.iconst 3, 1) := by decide +kernel
theorem d_law_302 : decode code 302 = .ok (.iadd, 1) := by decide +kernel
theorem d_law_303 : decode code 303 = .ok (.iaload, 1) := by decide +kernel
theorem d_law_304 : decode code 304 = .ok (.invokevirtual 57, 3) := by decide +kernel
theorem d_law_307 : decode code 307 = .ok (.if_icmp .eq 1020, 3) := by decide +kernel
theorem d_law_312 : decode code 312 = .ok (.aload_n 1, 1) := by decide +kernel
theorem d_law_313 : decode code 313 = .ok (.aload_n 0, 1) := by decide +kernel
theorem d_law_314 : decode code 314 = .ok (.iload 4, 2) := by decide +kernel
theorem d_law_316 : decode code 316 = .ok (.iconst 1, 1) := by decide +kernel
theorem d_law_317 : decode code 317 = .ok (.iadd, 1) := by decide +kernel
theorem d_law_318 : decode code 318 = .ok (.iaload, 1) := by decide +kernel
theorem d_law_319 : decode code 319 = .ok (.aload_n 0, 1) := by decide +kernel
theorem d_law_320 : decode code 320 = .ok (.iload 4, 2) := by decide +kernel
theorem d_law_322 : decode code 322 = .ok (.iconst 2, 1) := by decide +kernel
theorem d_law_323 : decode code 323 = .ok (.iadd, 1) := by decide +kernel
theorem d_law_324 : decode code 324 = .ok (.iaload, 1) := by decide +kernel
theorem d_law_325 : decode code 325 = .ok (.aload_n 0, 1) := by decide +kernel
theorem d_law_326 : decode code 326 = .ok (.iload 4, 2) := by decide +kernel
theorem d_law_328 : decode code 328 = .ok (.iconst 3, 1) := by decide +kernel
theorem d_law_329 : decode code 329 = .ok (.iadd, 1) := by decide +kernel
theorem d_law_330 : decode code 330 = .ok (.iaload, 1) := by decide +kernel
theorem d_law_331 : decode code 331 = .ok (.aload_n 3, 1) := by decide +kernel
theorem d_law_332 : decode code 332 = .ok (.invokestatic 58, 3) := by decide +kernel
theorem d_law_335 : decode code 335 = .ok (.istore 5, 2) := by decide +kernel
theorem d_law_337 : decode code 337 = .ok (.aload_n 2, 1) := by decide +kernel
theorem d_law_338 : decode code 338 = .ok (.aload_n 0, 1) := by decide +kernel
theorem d_law_339 : decode code 339 = .ok (.iload 4, 2) := by decide +kernel
theorem d_law_341 : decode code 341 = .ok (.iconst 1, 1) := by decide +kernel
theorem d_law_342 : decode code 342 = .ok (.iadd, 1) := by decide +kernel
theorem d_law_343 : decode code 343 = .ok (.iaload, 1) := by decide +kernel
theorem d_law_344 : decode code 344 = .ok (.aload_n 0, 1) := by decide +kernel
theorem d_law_345 : decode code 345 = .ok (.iload 4, 2) := by decide +kernel
theorem d_law_347 : decode code 347 = .ok (.iconst 2, 1) := by decide +kernel
theorem d_law_348 : decode code 348 = .ok (.iadd, 1) := by decide +kernel
theorem d_law_349 : decode code 349 = .ok (.iaload, 1) := by decide +kernel
theorem d_law_350 : decode code 350 = .ok (.aload_n 0, 1) := by decide +kernel
theorem d_law_351 : decode code 351 = .ok (.iload 4, 2) := by decide +kernel
theorem d_law_353 : decode code 353 = .ok (.iconst 3, 1) := by decide +kernel
theorem d_law_354 : decode code 354 = .ok (.iadd, 1) := by decide +kernel
theorem d_law_355 : decode code 355 = .ok (.iaload, 1) := by decide +kernel
theorem d_law_356 : decode code 356 = .ok (.invokevirtual 63, 3) := by decide +kernel
theorem d_law_359 : decode code 359 = .ok (.lstore 6, 2) := by decide +kernel
theorem d_law_361 : decode code 361 = .ok (.aload_n 2, 1) := by decide +kernel
theorem d_law_362 : decode code 362 = .ok (.invokevirtual 64, 3) := by decide +kernel
theorem d_law_365 : decode code 365 = .ok (.iload 5, 2) := by decide +kernel
theorem d_law_367 : decode code 367 = .ok (.if_icmp .eq 5, 3) := by decide +kernel
theorem d_law_372 : decode code 372 = .ok (.iload 5, 2) := by decide +kernel
theorem d_law_374 : decode code 374 = .ok (.ifCond .ne 14, 3) := by decide +kernel
theorem d_law_388 : decode code 388 = .ok (.goto 939, 3) := by decide +kernel
theorem d_law_391 : decode code 391 = .ok (.aload_n 1, 1) := by decide +kernel
theorem d_law_392 : decode code 392 = .ok (.aload_n 0, 1) := by decide +kernel
theorem d_law_393 : decode code 393 = .ok (.iload 4, 2) := by decide +kernel
theorem d_law_395 : decode code 395 = .ok (.iconst 1, 1) := by decide +kernel
theorem d_law_396 : decode code 396 = .ok (.iadd, 1) := by decide +kernel
theorem d_law_397 : decode code 397 = .ok (.iaload, 1) := by decide +kernel
theorem d_law_398 : decode code 398 = .ok (.aload_n 0, 1) := by decide +kernel
theorem d_law_399 : decode code 399 = .ok (.iload 4, 2) := by decide +kernel
theorem d_law_401 : decode code 401 = .ok (.iconst 2, 1) := by decide +kernel
theorem d_law_402 : decode code 402 = .ok (.iadd, 1) := by decide +kernel
theorem d_law_403 : decode code 403 = .ok (.iaload, 1) := by decide +kernel
theorem d_law_404 : decode code 404 = .ok (.aload_n 0, 1) := by decide +kernel
theorem d_law_405 : decode code 405 = .ok (.iload 4, 2) := by decide +kernel
theorem d_law_407 : decode code 407 = .ok (.iconst 3, 1) := by decide +kernel
theorem d_law_408 : decode code 408 = .ok (.iadd, 1) := by decide +kernel
theorem d_law_409 : decode code 409 = .ok (.iaload, 1) := by decide +kernel
theorem d_law_410 : decode code 410 = .ok (.invokevirtual 67, 3) := by decide +kernel
theorem d_law_413 : decode code 413 = .ok (.aload_n 2, 1) := by decide +kernel
theorem d_law_414 : decode code 414 = .ok (.aload_n 0, 1) := by decide +kernel
theorem d_law_415 : decode code 415 = .ok (.iload 4, 2) := by decide +kernel
theorem d_law_417 : decode code 417 = .ok (.iconst 1, 1) := by decide +kernel
theorem d_law_418 : decode code 418 = .ok (.iadd, 1) := by decide +kernel
theorem d_law_419 : decode code 419 = .ok (.iaload, 1) := by decide +kernel
theorem d_law_420 : decode code 420 = .ok (.aload_n 0, 1) := by decide +kernel
theorem d_law_421 : decode code 421 = .ok (.iload 4, 2) := by decide +kernel
theorem d_law_423 : decode code 423 = .ok (.iconst 2, 1) := by decide +kernel
theorem d_law_424 : decode code 424 = .ok (.iadd, 1) := by decide +kernel
theorem d_law_425 : decode code 425 = .ok (.iaload, 1) := by decide +kernel
theorem d_law_426 : decode code 426 = .ok (.aload_n 0, 1) := by decide +kernel
theorem d_law_427 : decode code 427 = .ok (.iload 4, 2) := by decide +kernel
theorem d_law_429 : decode code 429 = .ok (.iconst 3, 1) := by decide +kernel
theorem d_law_430 : decode code 430 = .ok (.iadd, 1) := by decide +kernel
theorem d_law_431 : decode code 431 = .ok (.iaload, 1) := by decide +kernel
theorem d_law_432 : decode code 432 = .ok (.invokevirtual 70, 3) := by decide +kernel
theorem d_law_435 : decode code 435 = .ok (.if_icmp .eq 892, 3) := by decide +kernel
theorem d_law_440 : decode code 440 = .ok (.aload_n 1, 1) := by decide +kernel
theorem d_law_441 : decode code 441 = .ok (.aload_n 0, 1) := by decide +kernel
theorem d_law_442 : decode code 442 = .ok (.iload 4, 2) := by decide +kernel
theorem d_law_444 : decode code 444 = .ok (.iconst 1, 1) := by decide +kernel
theorem d_law_445 : decode code 445 = .ok (.iadd, 1) := by decide +kernel
theorem d_law_446 : decode code 446 = .ok (.iaload, 1) := by decide +kernel
theorem d_law_447 : decode code 447 = .ok (.aload_n 0, 1) := by decide +kernel
theorem d_law_448 : decode code 448 = .ok (.iload 4, 2) := by decide +kernel
theorem d_law_450 : decode code 450 = .ok (.iconst 2, 1) := by decide +kernel
theorem d_law_451 : decode code 451 = .ok (.iadd, 1) := by decide +kernel
theorem d_law_452 : decode code 452 = .ok (.iaload, 1) := by decide +kernel
theorem d_law_453 : decode code 453 = .ok (.aload_n 0, 1) := by decide +kernel
theorem d_law_454 : decode code 454 = .ok (.iload 4, 2) := by decide +kernel
theorem d_law_456 : decode code 456 = .ok (.iconst 3, 1) := by decide +kernel
theorem d_law_457 : decode code 457 = .ok (.iadd, 1) := by decide +kernel
theorem d_law_458 : decode code 458 = .ok (.iaload, 1) := by decide +kernel
theorem d_law_459 : decode code 459 = .ok (.aload_n 0, 1) := by decide +kernel
theorem d_law_460 : decode code 460 = .ok (.iload 4, 2) := by decide +kernel
theorem d_law_462 : decode code 462 = .ok (.iconst 4, 1) := by decide +kernel
theorem d_law_463 : decode code 463 = .ok (.iadd, 1) := by decide +kernel
theorem d_law_464 : decode code 464 = .ok (.iaload, 1) := by decide +kernel
theorem d_law_465 : decode code 465 = .ok (.invokevirtual 71, 3) := by decide +kernel
theorem d_law_468 : decode code 468 = .ok (.aload_n 2, 1) := by decide +kernel
theorem d_law_469 : decode code 469 = .ok (.aload_n 0, 1) := by decide +kernel
theorem d_law_470 : decode code 470 = .ok (.iload 4, 2) := by decide +kernel
theorem d_law_472 : decode code 472 = .ok (.iconst 1, 1) := by decide +kernel
theorem d_law_473 : decode code 473 = .ok (.iadd, 1) := by decide +kernel
theorem d_law_474 : decode code 474 = .ok (.iaload, 1) := by decide +kernel
theorem d_law_475 : decode code 475 = .ok (.aload_n 0, 1) := by decide +kernel
theorem d_law_476 : decode code 476 = .ok (.iload 4, 2) := by decide +kernel
theorem d_law_478 : decode code 478 = .ok (.iconst 2, 1) := by decide +kernel
theorem d_law_479 : decode code 479 = .ok (.iadd, 1) := by decide +kernel
theorem d_law_480 : decode code 480 = .ok (.iaload, 1) := by decide +kernel
theorem d_law_481 : decode code 481 = .ok (.aload_n 0, 1) := by decide +kernel
theorem d_law_482 : decode code 482 = .ok (.iload 4, 2) := by decide +kernel
theorem d_law_484 : decode code 484 = .ok (.iconst 3, 1) := by decide +kernel
theorem d_law_485 : decode code 485 = .ok (.iadd, 1) := by decide +kernel
theorem d_law_486 : decode code 486 = .ok (.iaload, 1) := by decide +kernel
theorem d_law_487 : decode code 487 = .ok (.aload_n 0, 1) := by decide +kernel
theorem d_law_488 : decode code 488 = .ok (.iload 4, 2) := by decide +kernel
theorem d_law_490 : decode code 490 = .ok (.iconst 4, 1) := by decide +kernel
theorem d_law_491 : decode code 491 = .ok (.iadd, 1) := by decide +kernel
theorem d_law_492 : decode code 492 = .ok (.iaload, 1) := by decide +kernel
theorem d_law_493 : decode code 493 = .ok (.invokevirtual 75, 3) := by decide +kernel
theorem d_law_496 : decode code 496 = .ok (.if_icmp .eq 831, 3) := by decide +kernel
theorem d_law_501 : decode code 501 = .ok (.aload_n 1, 1) := by decide +kernel
theorem d_law_502 : decode code 502 = .ok (.aload_n 0, 1) := by decide +kernel
theorem d_law_503 : decode code 503 = .ok (.iload 4, 2) := by decide +kernel
theorem d_law_505 : decode code 505 = .ok (.iconst 1, 1) := by decide +kernel
theorem d_law_506 : decode code 506 = .ok (.iadd, 1) := by decide +kernel
theorem d_law_507 : decode code 507 = .ok (.iaload, 1) := by decide +kernel
theorem d_law_508 : decode code 508 = .ok (.aload_n 0, 1) := by decide +kernel
theorem d_law_509 : decode code 509 = .ok (.iload 4, 2) := by decide +kernel
theorem d_law_511 : decode code 511 = .ok (.iconst 2, 1) := by decide +kernel
theorem d_law_512 : decode code 512 = .ok (.iadd, 1) := by decide +kernel
theorem d_law_513 : decode code 513 = .ok (.iaload, 1) := by decide +kernel
theorem d_law_514 : decode code 514 = .ok (.aload_n 0, 1) := by decide +kernel
theorem d_law_515 : decode code 515 = .ok (.iload 4, 2) := by decide +kernel
theorem d_law_517 : decode code 517 = .ok (.iconst 3, 1) := by decide +kernel
theorem d_law_518 : decode code 518 = .ok (.iadd, 1) := by decide +kernel
theorem d_law_519 : decode code 519 = .ok (.iaload, 1) := by decide +kernel
theorem d_law_520 : decode code 520 = .ok (.aload_n 0, 1) := by decide +kernel
theorem d_law_521 : decode code 521 = .ok (.iload 4, 2) := by decide +kernel
theorem d_law_523 : decode code 523 = .ok (.iconst 4, 1) := by decide +kernel
theorem d_law_524 : decode code 524 = .ok (.iadd, 1) := by decide +kernel
theorem d_law_525 : decode code 525 = .ok (.iaload, 1) := by decide +kernel
theorem d_law_526 : decode code 526 = .ok (.invokevirtual 76, 3) := by decide +kernel
theorem d_law_529 : decode code 529 = .ok (.aload_n 2, 1) := by decide +kernel
theorem d_law_530 : decode code 530 = .ok (.aload_n 0, 1) := by decide +kernel
theorem d_law_531 : decode code 531 = .ok (.iload 4, 2) := by decide +kernel
theorem d_law_533 : decode code 533 = .ok (.iconst 1, 1) := by decide +kernel
theorem d_law_534 : decode code 534 = .ok (.iadd, 1) := by decide +kernel
theorem d_law_535 : decode code 535 = .ok (.iaload, 1) := by decide +kernel
theorem d_law_536 : decode code 536 = .ok (.aload_n 0, 1) := by decide +kernel
theorem d_law_537 : decode code 537 = .ok (.iload 4, 2) := by decide +kernel
theorem d_law_539 : decode code 539 = .ok (.iconst 2, 1) := by decide +kernel
theorem d_law_540 : decode code 540 = .ok (.iadd, 1) := by decide +kernel
theorem d_law_541 : decode code 541 = .ok (.iaload, 1) := by decide +kernel
theorem d_law_542 : decode code 542 = .ok (.aload_n 0, 1) := by decide +kernel
theorem d_law_543 : decode code 543 = .ok (.iload 4, 2) := by decide +kernel
theorem d_law_545 : decode code 545 = .ok (.iconst 3, 1) := by decide +kernel
theorem d_law_546 : decode code 546 = .ok (.iadd, 1) := by decide +kernel
theorem d_law_547 : decode code 547 = .ok (.iaload, 1) := by decide +kernel
theorem d_law_548 : decode code 548 = .ok (.aload_n 0, 1) := by decide +kernel
theorem d_law_549 : decode code 549 = .ok (.iload 4, 2) := by decide +kernel
theorem d_law_551 : decode code 551 = .ok (.iconst 4, 1) := by decide +kernel
theorem d_law_552 : decode code 552 = .ok (.iadd, 1) := by decide +kernel
theorem d_law_553 : decode code 553 = .ok (.iaload, 1) := by decide +kernel
theorem d_law_554 : decode code 554 = .ok (.invokevirtual 79, 3) := by decide +kernel
theorem d_law_557 : decode code 557 = .ok (.if_icmp .eq 770, 3) := by decide +kernel
theorem d_law_562 : decode code 562 = .ok (.aload_n 1, 1) := by decide +kernel
theorem d_law_563 : decode code 563 = .ok (.aload_n 0, 1) := by decide +kernel
theorem d_law_564 : decode code 564 = .ok (.iload 4, 2) := by decide +kernel
theorem d_law_566 : decode code 566 = .ok (.iconst 1, 1) := by decide +kernel
theorem d_law_567 : decode code 567 = .ok (.iadd, 1) := by decide +kernel
theorem d_law_568 : decode code 568 = .ok (.iaload, 1) := by decide +kernel
theorem d_law_569 : decode code 569 = .ok (.aload_n 0, 1) := by decide +kernel
theorem d_law_570 : decode code 570 = .ok (.iload 4, 2) := by decide +kernel
theorem d_law_572 : decode code 572 = .ok (.iconst 2, 1) := by decide +kernel
theorem d_law_573 : decode code 573 = .ok (.iadd, 1) := by decide +kernel
theorem d_law_574 : decode code 574 = .ok (.iaload, 1) := by decide +kernel
theorem d_law_575 : decode code 575 = .ok (.aload_n 0, 1) := by decide +kernel
theorem d_law_576 : decode code 576 = .ok (.iload 4, 2) := by decide +kernel
theorem d_law_578 : decode code 578 = .ok (.iconst 3, 1) := by decide +kernel
theorem d_law_579 : decode code 579 = .ok (.iadd, 1) := by decide +kernel
theorem d_law_580 : decode code 580 = .ok (.iaload, 1) := by decide +kernel
theorem d_law_581 : decode code 581 = .ok (.aload_n 0, 1) := by decide +kernel
theorem d_law_582 : decode code 582 = .ok (.iload 4, 2) := by decide +kernel
theorem d_law_584 : decode code 584 = .ok (.iconst 4, 1) := by decide +kernel
theorem d_law_585 : decode code 585 = .ok (.iadd, 1) := by decide +kernel
theorem d_law_586 : decode code 586 = .ok (.iaload, 1) := by decide +kernel
theorem d_law_587 : decode code 587 = .ok (.invokevirtual 80, 3) := by decide +kernel
theorem d_law_590 : decode code 590 = .ok (.aload_n 2, 1) := by decide +kernel
theorem d_law_591 : decode code 591 = .ok (.aload_n 0, 1) := by decide +kernel
theorem d_law_592 : decode code 592 = .ok (.iload 4, 2) := by decide +kernel
theorem d_law_594 : decode code 594 = .ok (.iconst 1, 1) := by decide +kernel
theorem d_law_595 : decode code 595 = .ok (.iadd, 1) := by decide +kernel
theorem d_law_596 : decode code 596 = .ok (.iaload, 1) := by decide +kernel
theorem d_law_597 : decode code 597 = .ok (.aload_n 0, 1) := by decide +kernel
theorem d_law_598 : decode code 598 = .ok (.iload 4, 2) := by decide +kernel
theorem d_law_600 : decode code 600 = .ok (.iconst 2, 1) := by decide +kernel
theorem d_law_601 : decode code 601 = .ok (.iadd, 1) := by decide +kernel
theorem d_law_602 : decode code 602 = .ok (.iaload, 1) := by decide +kernel
theorem d_law_603 : decode code 603 = .ok (.aload_n 0, 1) := by decide +kernel
theorem d_law_604 : decode code 604 = .ok (.iload 4, 2) := by decide +kernel
theorem d_law_606 : decode code 606 = .ok (.iconst 3, 1) := by decide +kernel
theorem d_law_607 : decode code 607 = .ok (.iadd, 1) := by decide +kernel
theorem d_law_608 : decode code 608 = .ok (.iaload, 1) := by decide +kernel
theorem d_law_609 : decode code 609 = .ok (.aload_n 0, 1) := by decide +kernel
theorem d_law_610 : decode code 610 = .ok (.iload 4, 2) := by decide +kernel
theorem d_law_612 : decode code 612 = .ok (.iconst 4, 1) := by decide +kernel
theorem d_law_613 : decode code 613 = .ok (.iadd, 1) := by decide +kernel
theorem d_law_614 : decode code 614 = .ok (.iaload, 1) := by decide +kernel
theorem d_law_615 : decode code 615 = .ok (.invokevirtual 83, 3) := by decide +kernel
theorem d_law_618 : decode code 618 = .ok (.if_icmp .eq 709, 3) := by decide +kernel
theorem d_law_623 : decode code 623 = .ok (.aload_n 1, 1) := by decide +kernel
theorem d_law_624 : decode code 624 = .ok (.aload_n 0, 1) := by decide +kernel
theorem d_law_625 : decode code 625 = .ok (.iload 4, 2) := by decide +kernel
theorem d_law_627 : decode code 627 = .ok (.iconst 1, 1) := by decide +kernel
theorem d_law_628 : decode code 628 = .ok (.iadd, 1) := by decide +kernel
theorem d_law_629 : decode code 629 = .ok (.iaload, 1) := by decide +kernel
theorem d_law_630 : decode code 630 = .ok (.aload_n 0, 1) := by decide +kernel
theorem d_law_631 : decode code 631 = .ok (.iload 4, 2) := by decide +kernel
theorem d_law_633 : decode code 633 = .ok (.iconst 2, 1) := by decide +kernel
theorem d_law_634 : decode code 634 = .ok (.iadd, 1) := by decide +kernel
theorem d_law_635 : decode code 635 = .ok (.iaload, 1) := by decide +kernel
theorem d_law_636 : decode code 636 = .ok (.aload_n 0, 1) := by decide +kernel
theorem d_law_637 : decode code 637 = .ok (.iload 4, 2) := by decide +kernel
theorem d_law_639 : decode code 639 = .ok (.iconst 3, 1) := by decide +kernel
theorem d_law_640 : decode code 640 = .ok (.iadd, 1) := by decide +kernel
theorem d_law_641 : decode code 641 = .ok (.iaload, 1) := by decide +kernel
theorem d_law_642 : decode code 642 = .ok (.invokevirtual 84, 3) := by decide +kernel
theorem d_law_645 : decode code 645 = .ok (.aload_n 2, 1) := by decide +kernel
theorem d_law_646 : decode code 646 = .ok (.aload_n 0, 1) := by decide +kernel
theorem d_law_647 : decode code 647 = .ok (.iload 4, 2) := by decide +kernel
theorem d_law_649 : decode code 649 = .ok (.iconst 1, 1) := by decide +kernel
theorem d_law_650 : decode code 650 = .ok (.iadd, 1) := by decide +kernel
theorem d_law_651 : decode code 651 = .ok (.iaload, 1) := by decide +kernel
theorem d_law_652 : decode code 652 = .ok (.aload_n 0, 1) := by decide +kernel
theorem d_law_653 : decode code 653 = .ok (.iload 4, 2) := by decide +kernel
theorem d_law_655 : decode code 655 = .ok (.iconst 2, 1) := by decide +kernel
theorem d_law_656 : decode code 656 = .ok (.iadd, 1) := by decide +kernel
theorem d_law_657 : decode code 657 = .ok (.iaload, 1) := by decide +kernel
theorem d_law_658 : decode code 658 = .ok (.aload_n 0, 1) := by decide +kernel
theorem d_law_659 : decode code 659 = .ok (.iload 4, 2) := by decide +kernel
theorem d_law_661 : decode code 661 = .ok (.iconst 3, 1) := by decide +kernel
theorem d_law_662 : decode code 662 = .ok (.iadd, 1) := by decide +kernel
theorem d_law_663 : decode code 663 = .ok (.iaload, 1) := by decide +kernel
theorem d_law_664 : decode code 664 = .ok (.invokevirtual 87, 3) := by decide +kernel
theorem d_law_667 : decode code 667 = .ok (.if_icmp .eq 660, 3) := by decide +kernel
theorem d_law_672 : decode code 672 = .ok (.aload_n 1, 1) := by decide +kernel
theorem d_law_673 : decode code 673 = .ok (.aload_n 0, 1) := by decide +kernel
theorem d_law_674 : decode code 674 = .ok (.iload 4, 2) := by decide +kernel
theorem d_law_676 : decode code 676 = .ok (.iconst 1, 1) := by decide +kernel
theorem d_law_677 : decode code 677 = .ok (.iadd, 1) := by decide +kernel
theorem d_law_678 : decode code 678 = .ok (.iaload, 1) := by decide +kernel
theorem d_law_679 : decode code 679 = .ok (.invokevirtual 88, 3) := by decide +kernel
theorem d_law_682 : decode code 682 = .ok (.aload_n 2, 1) := by decide +kernel
theorem d_law_683 : decode code 683 = .ok (.aload_n 0, 1) := by decide +kernel
theorem d_law_684 : decode code 684 = .ok (.iload 4, 2) := by decide +kernel
theorem d_law_686 : decode code 686 = .ok (.iconst 1, 1) := by decide +kernel
theorem d_law_687 : decode code 687 = .ok (.iadd, 1) := by decide +kernel
theorem d_law_688 : decode code 688 = .ok (.iaload, 1) := by decide +kernel
theorem d_law_689 : decode code 689 = .ok (.invokevirtual 92, 3) := by decide +kernel
theorem d_law_692 : decode code 692 = .ok (.if_icmp .eq 635, 3) := by decide +kernel
theorem d_law_697 : decode code 697 = .ok (.aload_n 1, 1) := by decide +kernel
theorem d_law_698 : decode code 698 = .ok (.aload_n 0, 1) := by decide +kernel
theorem d_law_699 : decode code 699 = .ok (.iload 4, 2) := by decide +kernel
theorem d_law_701 : decode code 701 = .ok (.iconst 1, 1) := by decide +kernel
theorem d_law_702 : decode code 702 = .ok (.iadd, 1) := by decide +kernel
theorem d_law_703 : decode code 703 = .ok (.iaload, 1) := by decide +kernel
theorem d_law_704 : decode code 704 = .ok (.aload_n 0, 1) := by decide +kernel
theorem d_law_705 : decode code 705 = .ok (.iload 4, 2) := by decide +kernel
theorem d_law_707 : decode code 707 = .ok (.iconst 2, 1) := by decide +kernel
theorem d_law_708 : decode code 708 = .ok (.iadd, 1) := by decide +kernel
theorem d_law_709 : decode code 709 = .ok (.iaload, 1) := by decide +kernel
theorem d_law_710 : decode code 710 = .ok (.invokevirtual 93, 3) := by decide +kernel
theorem d_law_713 : decode code 713 = .ok (.aload_n 2, 1) := by decide +kernel
theorem d_law_714 : decode code 714 = .ok (.aload_n 0, 1) := by decide +kernel
theorem d_law_715 : decode code 715 = .ok (.iload 4, 2) := by decide +kernel
theorem d_law_717 : decode code 717 = .ok (.iconst 1, 1) := by decide +kernel
theorem d_law_718 : decode code 718 = .ok (.iadd, 1) := by decide +kernel
theorem d_law_719 : decode code 719 = .ok (.iaload, 1) := by decide +kernel
theorem d_law_720 : decode code 720 = .ok (.aload_n 0, 1) := by decide +kernel
theorem d_law_721 : decode code 721 = .ok (.iload 4, 2) := by decide +kernel
theorem d_law_723 : decode code 723 = .ok (.iconst 2, 1) := by decide +kernel
theorem d_law_724 : decode code 724 = .ok (.iadd, 1) := by decide +kernel
theorem d_law_725 : decode code 725 = .ok (.iaload, 1) := by decide +kernel
theorem d_law_726 : decode code 726 = .ok (.invokevirtual 96, 3) := by decide +kernel
theorem d_law_729 : decode code 729 = .ok (.if_icmp .eq 598, 3) := by decide +kernel
theorem d_law_734 : decode code 734 = .ok (.aload_n 1, 1) := by decide +kernel
theorem d_law_735 : decode code 735 = .ok (.aload_n 0, 1) := by decide +kernel
theorem d_law_736 : decode code 736 = .ok (.iload 4, 2) := by decide +kernel
theorem d_law_738 : decode code 738 = .ok (.iconst 1, 1) := by decide +kernel
theorem d_law_739 : decode code 739 = .ok (.iadd, 1) := by decide +kernel
theorem d_law_740 : decode code 740 = .ok (.iaload, 1) := by decide +kernel
theorem d_law_741 : decode code 741 = .ok (.invokevirtual 97, 3) := by decide +kernel
theorem d_law_744 : decode code 744 = .ok (.aload_n 2, 1) := by decide +kernel
theorem d_law_745 : decode code 745 = .ok (.aload_n 0, 1) := by decide +kernel
theorem d_law_746 : decode code 746 = .ok (.iload 4, 2) := by decide +kernel
theorem d_law_748 : decode code 748 = .ok (.iconst 1, 1) := by decide +kernel
theorem d_law_749 : decode code 749 = .ok (.iadd, 1) := by decide +kernel
theorem d_law_750 : decode code 750 = .ok (.iaload, 1) := by decide +kernel
theorem d_law_751 : decode code 751 = .ok (.invokevirtual 101, 3) := by decide +kernel
theorem d_law_754 : decode code 754 = .ok (.if_icmp .eq 573, 3) := by decide +kernel
theorem d_law_759 : decode code 759 = .ok (.aload_n 1, 1) := by decide +kernel
theorem d_law_760 : decode code 760 = .ok (.aload_n 0, 1) := by decide +kernel
theorem d_law_761 : decode code 761 = .ok (.iload 4, 2) := by decide +kernel
theorem d_law_763 : decode code 763 = .ok (.iconst 1, 1) := by decide +kernel
theorem d_law_764 : decode code 764 = .ok (.iadd, 1) := by decide +kernel
theorem d_law_765 : decode code 765 = .ok (.iaload, 1) := by decide +kernel
theorem d_law_766 : decode code 766 = .ok (.aload_n 0, 1) := by decide +kernel
theorem d_law_767 : decode code 767 = .ok (.iload 4, 2) := by decide +kernel
theorem d_law_769 : decode code 769 = .ok (.iconst 2, 1) := by decide +kernel
theorem d_law_770 : decode code 770 = .ok (.iadd, 1) := by decide +kernel
theorem d_law_771 : decode code 771 = .ok (.iaload, 1) := by decide +kernel
theorem d_law_772 : decode code 772 = .ok (.aload_n 0, 1) := by decide +kernel
theorem d_law_773 : decode code 773 = .ok (.iload 4, 2) := by decide +kernel
theorem d_law_775 : decode code 775 = .ok (.iconst 3, 1) := by decide +kernel
theorem d_law_776 : decode code 776 = .ok (.iadd, 1) := by decide +kernel
theorem d_law_777 : decode code 777 = .ok (.iaload, 1) := by decide +kernel
theorem d_law_778 : decode code 778 = .ok (.invokevirtual 102, 3) := by decide +kernel
theorem d_law_781 : decode code 781 = .ok (.aload_n 2, 1) := by decide +kernel
theorem d_law_782 : decode code 782 = .ok (.aload_n 0, 1) := by decide +kernel
theorem d_law_783 : decode code 783 = .ok (.iload 4, 2) := by decide +kernel
theorem d_law_785 : decode code 785 = .ok (.iconst 1, 1) := by decide +kernel
theorem d_law_786 : decode code 786 = .ok (.iadd, 1) := by decide +kernel
theorem d_law_787 : decode code 787 = .ok (.iaload, 1) := by decide +kernel
theorem d_law_788 : decode code 788 = .ok (.aload_n 0, 1) := by decide +kernel
theorem d_law_789 : decode code 789 = .ok (.iload 4, 2) := by decide +kernel
theorem d_law_791 : decode code 791 = .ok (.iconst 2, 1) := by decide +kernel
theorem d_law_792 : decode code 792 = .ok (.iadd, 1) := by decide +kernel
theorem d_law_793 : decode code 793 = .ok (.iaload, 1) := by decide +kernel
theorem d_law_794 : decode code 794 = .ok (.aload_n 0, 1) := by decide +kernel
theorem d_law_795 : decode code 795 = .ok (.iload 4, 2) := by decide +kernel
theorem d_law_797 : decode code 797 = .ok (.iconst 3, 1) := by decide +kernel
theorem d_law_798 : decode code 798 = .ok (.iadd, 1) := by decide +kernel
theorem d_law_799 : decode code 799 = .ok (.iaload, 1) := by decide +kernel
theorem d_law_800 : decode code 800 = .ok (.invokevirtual 105, 3) := by decide +kernel
theorem d_law_803 : decode code 803 = .ok (.if_icmp .eq 524, 3) := by decide +kernel
theorem d_law_808 : decode code 808 = .ok (.aload_n 1, 1) := by decide +kernel
theorem d_law_809 : decode code 809 = .ok (.aload_n 0, 1) := by decide +kernel
theorem d_law_810 : decode code 810 = .ok (.iload 4, 2) := by decide +kernel
theorem d_law_812 : decode code 812 = .ok (.iconst 1, 1) := by decide +kernel
theorem d_law_813 : decode code 813 = .ok (.iadd, 1) := by decide +kernel
theorem d_law_814 : decode code 814 = .ok (.iaload, 1) := by decide +kernel
theorem d_law_815 : decode code 815 = .ok (.aload_n 0, 1) := by decide +kernel
theorem d_law_816 : decode code 816 = .ok (.iload 4, 2) := by decide +kernel
theorem d_law_818 : decode code 818 = .ok (.iconst 2, 1) := by decide +kernel
theorem d_law_819 : decode code 819 = .ok (.iadd, 1) := by decide +kernel
theorem d_law_820 : decode code 820 = .ok (.iaload, 1) := by decide +kernel
theorem d_law_821 : decode code 821 = .ok (.aload_n 0, 1) := by decide +kernel
theorem d_law_822 : decode code 822 = .ok (.iload 4, 2) := by decide +kernel
theorem d_law_824 : decode code 824 = .ok (.iconst 3, 1) := by decide +kernel
theorem d_law_825 : decode code 825 = .ok (.iadd, 1) := by decide +kernel
theorem d_law_826 : decode code 826 = .ok (.iaload, 1) := by decide +kernel
theorem d_law_827 : decode code 827 = .ok (.invokevirtual 106, 3) := by decide +kernel
theorem d_law_830 : decode code 830 = .ok (.aload_n 2, 1) := by decide +kernel
theorem d_law_831 : decode code 831 = .ok (.aload_n 0, 1) := by decide +kernel
theorem d_law_832 : decode code 832 = .ok (.iload 4, 2) := by decide +kernel
theorem d_law_834 : decode code 834 = .ok (.iconst 1, 1) := by decide +kernel
theorem d_law_835 : decode code 835 = .ok (.iadd, 1) := by decide +kernel
theorem d_law_836 : decode code 836 = .ok (.iaload, 1) := by decide +kernel
theorem d_law_837 : decode code 837 = .ok (.aload_n 0, 1) := by decide +kernel
theorem d_law_838 : decode code 838 = .ok (.iload 4, 2) := by decide +kernel
theorem d_law_840 : decode code 840 = .ok (.iconst 2, 1) := by decide +kernel
theorem d_law_841 : decode code 841 = .ok (.iadd, 1) := by decide +kernel
theorem d_law_842 : decode code 842 = .ok (.iaload, 1) := by decide +kernel
theorem d_law_843 : decode code 843 = .ok (.aload_n 0, 1) := by decide +kernel
theorem d_law_844 : decode code 844 = .ok (.iload 4, 2) := by decide +kernel
theorem d_law_846 : decode code 846 = .ok (.iconst 3, 1) := by decide +kernel
theorem d_law_847 : decode code 847 = .ok (.iadd, 1) := by decide +kernel
theorem d_law_848 : decode code 848 = .ok (.iaload, 1) := by decide +kernel
theorem d_law_849 : decode code 849 = .ok (.invokevirtual 109, 3) := by decide +kernel
theorem d_law_852 : decode code 852 = .ok (.if_icmp .eq 475, 3) := by decide +kernel
theorem d_law_857 : decode code 857 = .ok (.aload_n 1, 1) := by decide +kernel
theorem d_law_858 : decode code 858 = .ok (.aload_n 0, 1) := by decide +kernel
theorem d_law_859 : decode code 859 = .ok (.iload 4, 2) := by decide +kernel
theorem d_law_861 : decode code 861 = .ok (.iconst 1, 1) := by decide +kernel
theorem d_law_862 : decode code 862 = .ok (.iadd, 1) := by decide +kernel
theorem d_law_863 : decode code 863 = .ok (.iaload, 1) := by decide +kernel
theorem d_law_864 : decode code 864 = .ok (.aload_n 0, 1) := by decide +kernel
theorem d_law_865 : decode code 865 = .ok (.iload 4, 2) := by decide +kernel
theorem d_law_867 : decode code 867 = .ok (.iconst 2, 1) := by decide +kernel
theorem d_law_868 : decode code 868 = .ok (.iadd, 1) := by decide +kernel
theorem d_law_869 : decode code 869 = .ok (.iaload, 1) := by decide +kernel
theorem d_law_870 : decode code 870 = .ok (.aload_n 0, 1) := by decide +kernel
theorem d_law_871 : decode code 871 = .ok (.iload 4, 2) := by decide +kernel
theorem d_law_873 : decode code 873 = .ok (.iconst 3, 1) := by decide +kernel
theorem d_law_874 : decode code 874 = .ok (.iadd, 1) := by decide +kernel
theorem d_law_875 : decode code 875 = .ok (.iaload, 1) := by decide +kernel
theorem d_law_876 : decode code 876 = .ok (.aload_n 0, 1) := by decide +kernel
theorem d_law_877 : decode code 877 = .ok (.iload 4, 2) := by decide +kernel
theorem d_law_879 : decode code 879 = .ok (.iconst 4, 1) := by decide +kernel
theorem d_law_880 : decode code 880 = .ok (.iadd, 1) := by decide +kernel
theorem d_law_881 : decode code 881 = .ok (.iaload, 1) := by decide +kernel
theorem d_law_882 : decode code 882 = .ok (.i2l, 1) := by decide +kernel
theorem d_law_883 : decode code 883 = .ok (.bipush 32, 2) := by decide +kernel
theorem d_law_885 : decode code 885 = .ok (.lshl, 1) := by decide +kernel
theorem d_law_886 : decode code 886 = .ok (.aload_n 0, 1) := by decide +kernel
theorem d_law_887 : decode code 887 = .ok (.iload 4, 2) := by decide +kernel
theorem d_law_889 : decode code 889 = .ok (.iconst 5, 1) := by decide +kernel
theorem d_law_890 : decode code 890 = .ok (.iadd, 1) := by decide +kernel
theorem d_law_891 : decode code 891 = .ok (.iaload, 1) := by decide +kernel
theorem d_law_892 : decode code 892 = .ok (.i2l, 1) := by decide +kernel
theorem d_law_893 : decode code 893 = .ok (.ldc2_w 37, 3) := by decide +kernel
theorem d_law_896 : decode code 896 = .ok (.land, 1) := by decide +kernel
theorem d_law_897 : decode code 897 = .ok (.lor, 1) := by decide +kernel
theorem d_law_898 : decode code 898 = .ok (.aload_n 0, 1) := by decide +kernel
theorem d_law_899 : decode code 899 = .ok (.iload 4, 2) := by decide +kernel
theorem d_law_901 : decode code 901 = .ok (.bipush 6, 2) := by decide +kernel
theorem d_law_903 : decode code 903 = .ok (.iadd, 1) := by decide +kernel
theorem d_law_904 : decode code 904 = .ok (.iaload, 1) := by decide +kernel
theorem d_law_905 : decode code 905 = .ok (.i2l, 1) := by decide +kernel
theorem d_law_906 : decode code 906 = .ok (.bipush 32, 2) := by decide +kernel
theorem d_law_908 : decode code 908 = .ok (.lshl, 1) := by decide +kernel
theorem d_law_909 : decode code 909 = .ok (.aload_n 0, 1) := by decide +kernel
theorem d_law_910 : decode code 910 = .ok (.iload 4, 2) := by decide +kernel
theorem d_law_912 : decode code 912 = .ok (.bipush 7, 2) := by decide +kernel
theorem d_law_914 : decode code 914 = .ok (.iadd, 1) := by decide +kernel
theorem d_law_915 : decode code 915 = .ok (.iaload, 1) := by decide +kernel
theorem d_law_916 : decode code 916 = .ok (.i2l, 1) := by decide +kernel
theorem d_law_917 : decode code 917 = .ok (.ldc2_w 37, 3) := by decide +kernel
theorem d_law_920 : decode code 920 = .ok (.land, 1) := by decide +kernel
theorem d_law_921 : decode code 921 = .ok (.lor, 1) := by decide +kernel
theorem d_law_922 : decode code 922 = .ok (.invokevirtual 110, 3) := by decide +kernel
theorem d_law_925 : decode code 925 = .ok (.aload_n 2, 1) := by decide +kernel
theorem d_law_926 : decode code 926 = .ok (.aload_n 0, 1) := by decide +kernel
theorem d_law_927 : decode code 927 = .ok (.iload 4, 2) := by decide +kernel
theorem d_law_929 : decode code 929 = .ok (.iconst 1, 1) := by decide +kernel
theorem d_law_930 : decode code 930 = .ok (.iadd, 1) := by decide +kernel
theorem d_law_931 : decode code 931 = .ok (.iaload, 1) := by decide +kernel
theorem d_law_932 : decode code 932 = .ok (.aload_n 0, 1) := by decide +kernel
theorem d_law_933 : decode code 933 = .ok (.iload 4, 2) := by decide +kernel
theorem d_law_935 : decode code 935 = .ok (.iconst 2, 1) := by decide +kernel
theorem d_law_936 : decode code 936 = .ok (.iadd, 1) := by decide +kernel
theorem d_law_937 : decode code 937 = .ok (.iaload, 1) := by decide +kernel
theorem d_law_938 : decode code 938 = .ok (.aload_n 0, 1) := by decide +kernel
theorem d_law_939 : decode code 939 = .ok (.iload 4, 2) := by decide +kernel
theorem d_law_941 : decode code 941 = .ok (.iconst 3, 1) := by decide +kernel
theorem d_law_942 : decode code 942 = .ok (.iadd, 1) := by decide +kernel
theorem d_law_943 : decode code 943 = .ok (.iaload, 1) := by decide +kernel
theorem d_law_944 : decode code 944 = .ok (.aload_n 0, 1) := by decide +kernel
theorem d_law_945 : decode code 945 = .ok (.iload 4, 2) := by decide +kernel
theorem d_law_947 : decode code 947 = .ok (.iconst 4, 1) := by decide +kernel
theorem d_law_948 : decode code 948 = .ok (.iadd, 1) := by decide +kernel
theorem d_law_949 : decode code 949 = .ok (.iaload, 1) := by decide +kernel
theorem d_law_950 : decode code 950 = .ok (.i2l, 1) := by decide +kernel
theorem d_law_951 : decode code 951 = .ok (.bipush 32, 2) := by decide +kernel
theorem d_law_953 : decode code 953 = .ok (.lshl, 1) := by decide +kernel
theorem d_law_954 : decode code 954 = .ok (.aload_n 0, 1) := by decide +kernel
theorem d_law_955 : decode code 955 = .ok (.iload 4, 2) := by decide +kernel
theorem d_law_957 : decode code 957 = .ok (.iconst 5, 1) := by decide +kernel
theorem d_law_958 : decode code 958 = .ok (.iadd, 1) := by decide +kernel
theorem d_law_959 : decode code 959 = .ok (.iaload, 1) := by decide +kernel
theorem d_law_960 : decode code 960 = .ok (.i2l, 1) := by decide +kernel
theorem d_law_961 : decode code 961 = .ok (.ldc2_w 37, 3) := by decide +kernel
theorem d_law_964 : decode code 964 = .ok (.land, 1) := by decide +kernel
theorem d_law_965 : decode code 965 = .ok (.lor, 1) := by decide +kernel
theorem d_law_966 : decode code 966 = .ok (.aload_n 0, 1) := by decide +kernel
theorem d_law_967 : decode code 967 = .ok (.iload 4, 2) := by decide +kernel
theorem d_law_969 : decode code 969 = .ok (.bipush 6, 2) := by decide +kernel
theorem d_law_971 : decode code 971 = .ok (.iadd, 1) := by decide +kernel
theorem d_law_972 : decode code 972 = .ok (.iaload, 1) := by decide +kernel
theorem d_law_973 : decode code 973 = .ok (.i2l, 1) := by decide +kernel
theorem d_law_974 : decode code 974 = .ok (.bipush 32, 2) := by decide +kernel
theorem d_law_976 : decode code 976 = .ok (.lshl, 1) := by decide +kernel
theorem d_law_977 : decode code 977 = .ok (.aload_n 0, 1) := by decide +kernel
theorem d_law_978 : decode code 978 = .ok (.iload 4, 2) := by decide +kernel
theorem d_law_980 : decode code 980 = .ok (.bipush 7, 2) := by decide +kernel
theorem d_law_982 : decode code 982 = .ok (.iadd, 1) := by decide +kernel
theorem d_law_983 : decode code 983 = .ok (.iaload, 1) := by decide +kernel
theorem d_law_984 : decode code 984 = .ok (.i2l, 1) := by decide +kernel
theorem d_law_985 : decode code 985 = .ok (.ldc2_w 37, 3) := by decide +kernel
theorem d_law_988 : decode code 988 = .ok (.land, 1) := by decide +kernel
theorem d_law_989 : decode code 989 = .ok (.lor, 1) := by decide +kernel
theorem d_law_990 : decode code 990 = .ok (.invokevirtual 114, 3) := by decide +kernel
theorem d_law_993 : decode code 993 = .ok (.if_icmp .eq 334, 3) := by decide +kernel
theorem d_law_998 : decode code 998 = .ok (.aload_n 1, 1) := by decide +kernel
theorem d_law_999 : decode code 999 = .ok (.aload_n 0, 1) := by decide +kernel
theorem d_law_1000 : decode code 1000 = .ok (.iload 4, 2) := by decide +kernel
theorem d_law_1002 : decode code 1002 = .ok (.iconst 1, 1) := by decide +kernel
theorem d_law_1003 : decode code 1003 = .ok (.iadd, 1) := by decide +kernel
theorem d_law_1004 : decode code 1004 = .ok (.iaload, 1) := by decide +kernel
theorem d_law_1005 : decode code 1005 = .ok (.aload_n 0, 1) := by decide +kernel
theorem d_law_1006 : decode code 1006 = .ok (.iload 4, 2) := by decide +kernel
theorem d_law_1008 : decode code 1008 = .ok (.iconst 2, 1) := by decide +kernel
theorem d_law_1009 : decode code 1009 = .ok (.iadd, 1) := by decide +kernel
theorem d_law_1010 : decode code 1010 = .ok (.iaload, 1) := by decide +kernel
theorem d_law_1011 : decode code 1011 = .ok (.aload_n 3, 1) := by decide +kernel
theorem d_law_1012 : decode code 1012 = .ok (.invokestatic 115, 3) := by decide +kernel
theorem d_law_1015 : decode code 1015 = .ok (.istore 5, 2) := by decide +kernel
theorem d_law_1017 : decode code 1017 = .ok (.aload_n 2, 1) := by decide +kernel
theorem d_law_1018 : decode code 1018 = .ok (.aload_n 0, 1) := by decide +kernel
theorem d_law_1019 : decode code 1019 = .ok (.iload 4, 2) := by decide +kernel
theorem d_law_1021 : decode code 1021 = .ok (.iconst 1, 1) := by decide +kernel
theorem d_law_1022 : decode code 1022 = .ok (.iadd, 1) := by decide +kernel
theorem d_law_1023 : decode code 1023 = .ok (.iaload, 1) := by decide +kernel
theorem d_law_1024 : decode code 1024 = .ok (.aload_n 0, 1) := by decide +kernel
theorem d_law_1025 : decode code 1025 = .ok (.iload 4, 2) := by decide +kernel
theorem d_law_1027 : decode code 1027 = .ok (.iconst 2, 1) := by decide +kernel
theorem d_law_1028 : decode code 1028 = .ok (.iadd, 1) := by decide +kernel
theorem d_law_1029 : decode code 1029 = .ok (.iaload, 1) := by decide +kernel
theorem d_law_1030 : decode code 1030 = .ok (.invokevirtual 118, 3) := by decide +kernel
theorem d_law_1033 : decode code 1033 = .ok (.istore 6, 2) := by decide +kernel
theorem d_law_1035 : decode code 1035 = .ok (.aload_n 2, 1) := by decide +kernel
theorem d_law_1036 : decode code 1036 = .ok (.invokevirtual 64, 3) := by decide +kernel
theorem d_law_1039 : decode code 1039 = .ok (.iload 5, 2) := by decide +kernel
theorem d_law_1041 : decode code 1041 = .ok (.if_icmp .eq 5, 3) := by decide +kernel
theorem d_law_1046 : decode code 1046 = .ok (.iload 5, 2) := by decide +kernel
theorem d_law_1048 : decode code 1048 = .ok (.ifCond .ne 15, 3) := by decide +kernel
theorem d_law_1063 : decode code 1063 = .ok (.goto 264, 3) := by decide +kernel
theorem d_law_1066 : decode code 1066 = .ok (.aload_n 1, 1) := by decide +kernel
theorem d_law_1067 : decode code 1067 = .ok (.aload_n 0, 1) := by decide +kernel
theorem d_law_1068 : decode code 1068 = .ok (.iload 4, 2) := by decide +kernel
theorem d_law_1070 : decode code 1070 = .ok (.iconst 1, 1) := by decide +kernel
theorem d_law_1071 : decode code 1071 = .ok (.iadd, 1) := by decide +kernel
theorem d_law_1072 : decode code 1072 = .ok (.iaload, 1) := by decide +kernel
theorem d_law_1073 : decode code 1073 = .ok (.aload_n 0, 1) := by decide +kernel
theorem d_law_1074 : decode code 1074 = .ok (.iload 4, 2) := by decide +kernel
theorem d_law_1076 : decode code 1076 = .ok (.iconst 2, 1) := by decide +kernel
theorem d_law_1077 : decode code 1077 = .ok (.iadd, 1) := by decide +kernel
theorem d_law_1078 : decode code 1078 = .ok (.iaload, 1) := by decide +kernel
theorem d_law_1079 : decode code 1079 = .ok (.aload_n 3, 1) := by decide +kernel
theorem d_law_1080 : decode code 1080 = .ok (.invokestatic 119, 3) := by decide +kernel
theorem d_law_1083 : decode code 1083 = .ok (.istore 5, 2) := by decide +kernel
theorem d_law_1085 : decode code 1085 = .ok (.aload_n 2, 1) := by decide +kernel
theorem d_law_1086 : decode code 1086 = .ok (.aload_n 0, 1) := by decide +kernel
theorem d_law_1087 : decode code 1087 = .ok (.iload 4, 2) := by decide +kernel
theorem d_law_1089 : decode code 1089 = .ok (.iconst 1, 1) := by decide +kernel
theorem d_law_1090 : decode code 1090 = .ok (.iadd, 1) := by decide +kernel
theorem d_law_1091 : decode code 1091 = .ok (.iaload, 1) := by decide +kernel
theorem d_law_1092 : decode code 1092 = .ok (.aload_n 0, 1) := by decide +kernel
theorem d_law_1093 : decode code 1093 = .ok (.iload 4, 2) := by decide +kernel
theorem d_law_1095 : decode code 1095 = .ok (.iconst 2, 1) := by decide +kernel
theorem d_law_1096 : decode code 1096 = .ok (.iadd, 1) := by decide +kernel
theorem d_law_1097 : decode code 1097 = .ok (.iaload, 1) := by decide +kernel
theorem d_law_1098 : decode code 1098 = .ok (.invokevirtual 121, 3) := by decide +kernel
theorem d_law_1101 : decode code 1101 = .ok (.lstore 6, 2) := by decide +kernel
theorem d_law_1103 : decode code 1103 = .ok (.aload_n 2, 1) := by decide +kernel
theorem d_law_1104 : decode code 1104 = .ok (.invokevirtual 64, 3) := by decide +kernel
theorem d_law_1107 : decode code 1107 = .ok (.iload 5, 2) := by decide +kernel
theorem d_law_1109 : decode code 1109 = .ok (.if_icmp .eq 5, 3) := by decide +kernel
theorem d_law_1114 : decode code 1114 = .ok (.iload 5, 2) := by decide +kernel
theorem d_law_1116 : decode code 1116 = .ok (.ifCond .ne 14, 3) := by decide +kernel
theorem d_law_1119 : decode code 1119 = .ok (.aload_n 3, 1) := by decide +kernel
theorem d_law_1120 : decode code 1120 = .ok (.iconst 0, 1) := by decide +kernel
theorem d_law_1121 : decode code 1121 = .ok (.laload, 1) := by decide +kernel
theorem d_law_1122 : decode code 1122 = .ok (.lload 6, 2) := by decide +kernel
theorem d_law_1124 : decode code 1124 = .ok (.lcmp, 1) := by decide +kernel
theorem d_law_1125 : decode code 1125 = .ok (.ifCond .eq 5, 3) := by decide +kernel
theorem d_law_1130 : decode code 1130 = .ok (.goto 197, 3) := by decide +kernel
theorem d_law_1133 : decode code 1133 = .ok (.aload_n 1, 1) := by decide +kernel
theorem d_law_1134 : decode code 1134 = .ok (.aload_n 0, 1) := by decide +kernel
theorem d_law_1135 : decode code 1135 = .ok (.iload 4, 2) := by decide +kernel
theorem d_law_1137 : decode code 1137 = .ok (.iconst 1, 1) := by decide +kernel
theorem d_law_1138 : decode code 1138 = .ok (.iadd, 1) := by decide +kernel
theorem d_law_1139 : decode code 1139 = .ok (.iaload, 1) := by decide +kernel
theorem d_law_1140 : decode code 1140 = .ok (.aload_n 0, 1) := by decide +kernel
theorem d_law_1141 : decode code 1141 = .ok (.iload 4, 2) := by decide +kernel
theorem d_law_1143 : decode code 1143 = .ok (.iconst 2, 1) := by decide +kernel
theorem d_law_1144 : decode code 1144 = .ok (.iadd, 1) := by decide +kernel
theorem d_law_1145 : decode code 1145 = .ok (.iaload, 1) := by decide +kernel
theorem d_law_1146 : decode code 1146 = .ok (.aload_n 0, 1) := by decide +kernel
theorem d_law_1147 : decode code 1147 = .ok (.iload 4, 2) := by decide +kernel
theorem d_law_1149 : decode code 1149 = .ok (.iconst 3, 1) := by decide +kernel
theorem d_law_1150 : decode code 1150 = .ok (.iadd, 1) := by decide +kernel
theorem d_law_1151 : decode code 1151 = .ok (.iaload, 1) := by decide +kernel
theorem d_law_1152 : decode code 1152 = .ok (.aload_n 3, 1) := by decide +kernel
theorem d_law_1153 : decode code 1153 = .ok (.invokestatic 122, 3) := by decide +kernel
theorem d_law_1156 : decode code 1156 = .ok (.istore 5, 2) := by decide +kernel
theorem d_law_1158 : decode code 1158 = .ok (.aload_n 2, 1) := by decide +kernel
theorem d_law_1159 : decode code 1159 = .ok (.aload_n 0, 1) := by decide +kernel
theorem d_law_1160 : decode code 1160 = .ok (.iload 4, 2) := by decide +kernel
theorem d_law_1162 : decode code 1162 = .ok (.iconst 1, 1) := by decide +kernel
theorem d_law_1163 : decode code 1163 = .ok (.iadd, 1) := by decide +kernel
theorem d_law_1164 : decode code 1164 = .ok (.iaload, 1) := by decide +kernel
theorem d_law_1165 : decode code 1165 = .ok (.aload_n 0, 1) := by decide +kernel
theorem d_law_1166 : decode code 1166 = .ok (.iload 4, 2) := by decide +kernel
theorem d_law_1168 : decode code 1168 = .ok (.iconst 2, 1) := by decide +kernel
theorem d_law_1169 : decode code 1169 = .ok (.iadd, 1) := by decide +kernel
theorem d_law_1170 : decode code 1170 = .ok (.iaload, 1) := by decide +kernel
theorem d_law_1171 : decode code 1171 = .ok (.aload_n 0, 1) := by decide +kernel
theorem d_law_1172 : decode code 1172 = .ok (.iload 4, 2) := by decide +kernel
theorem d_law_1174 : decode code 1174 = .ok (.iconst 3, 1) := by decide +kernel
theorem d_law_1175 : decode code 1175 = .ok (.iadd, 1) := by decide +kernel
theorem d_law_1176 : decode code 1176 = .ok (.iaload, 1) := by decide +kernel
theorem d_law_1177 : decode code 1177 = .ok (.invokevirtual 124, 3) := by decide +kernel
theorem d_law_1180 : decode code 1180 = .ok (.lstore 6, 2) := by decide +kernel
theorem d_law_1182 : decode code 1182 = .ok (.aload_n 2, 1) := by decide +kernel
theorem d_law_1183 : decode code 1183 = .ok (.invokevirtual 64, 3) := by decide +kernel
theorem d_law_1186 : decode code 1186 = .ok (.iload 5, 2) := by decide +kernel
theorem d_law_1188 : decode code 1188 = .ok (.if_icmp .eq 5, 3) := by decide +kernel
theorem d_law_1193 : decode code 1193 = .ok (.iload 5, 2) := by decide +kernel
theorem d_law_1195 : decode code 1195 = .ok (.ifCond .ne 14, 3) := by decide +kernel
theorem d_law_1209 : decode code 1209 = .ok (.goto 118, 3) := by decide +kernel
theorem d_law_1212 : decode code 1212 = .ok (.aload_n 1, 1) := by decide +kernel
theorem d_law_1213 : decode code 1213 = .ok (.aload_n 0, 1) := by decide +kernel
theorem d_law_1214 : decode code 1214 = .ok (.iload 4, 2) := by decide +kernel
theorem d_law_1216 : decode code 1216 = .ok (.iconst 1, 1) := by decide +kernel
theorem d_law_1217 : decode code 1217 = .ok (.iadd, 1) := by decide +kernel
theorem d_law_1218 : decode code 1218 = .ok (.iaload, 1) := by decide +kernel
theorem d_law_1219 : decode code 1219 = .ok (.aload_n 0, 1) := by decide +kernel
theorem d_law_1220 : decode code 1220 = .ok (.iload 4, 2) := by decide +kernel
theorem d_law_1222 : decode code 1222 = .ok (.iconst 2, 1) := by decide +kernel
theorem d_law_1223 : decode code 1223 = .ok (.iadd, 1) := by decide +kernel
theorem d_law_1224 : decode code 1224 = .ok (.iaload, 1) := by decide +kernel
theorem d_law_1225 : decode code 1225 = .ok (.aload_n 0, 1) := by decide +kernel
theorem d_law_1226 : decode code 1226 = .ok (.iload 4, 2) := by decide +kernel
theorem d_law_1228 : decode code 1228 = .ok (.iconst 3, 1) := by decide +kernel
theorem d_law_1229 : decode code 1229 = .ok (.iadd, 1) := by decide +kernel
theorem d_law_1230 : decode code 1230 = .ok (.iaload, 1) := by decide +kernel
theorem d_law_1231 : decode code 1231 = .ok (.aload_n 3, 1) := by decide +kernel
theorem d_law_1232 : decode code 1232 = .ok (.invokestatic 125, 3) := by decide +kernel
theorem d_law_1235 : decode code 1235 = .ok (.istore 5, 2) := by decide +kernel
theorem d_law_1237 : decode code 1237 = .ok (.aload_n 2, 1) := by decide +kernel
theorem d_law_1238 : decode code 1238 = .ok (.aload_n 0, 1) := by decide +kernel
theorem d_law_1239 : decode code 1239 = .ok (.iload 4, 2) := by decide +kernel
theorem d_law_1241 : decode code 1241 = .ok (.iconst 1, 1) := by decide +kernel
theorem d_law_1242 : decode code 1242 = .ok (.iadd, 1) := by decide +kernel
theorem d_law_1243 : decode code 1243 = .ok (.iaload, 1) := by decide +kernel
theorem d_law_1244 : decode code 1244 = .ok (.aload_n 0, 1) := by decide +kernel
theorem d_law_1245 : decode code 1245 = .ok (.iload 4, 2) := by decide +kernel
theorem d_law_1247 : decode code 1247 = .ok (.iconst 2, 1) := by decide +kernel
theorem d_law_1248 : decode code 1248 = .ok (.iadd, 1) := by decide +kernel
theorem d_law_1249 : decode code 1249 = .ok (.iaload, 1) := by decide +kernel
theorem d_law_1250 : decode code 1250 = .ok (.aload_n 0, 1) := by decide +kernel
theorem d_law_1251 : decode code 1251 = .ok (.iload 4, 2) := by decide +kernel
theorem d_law_1253 : decode code 1253 = .ok (.iconst 3, 1) := by decide +kernel
theorem d_law_1254 : decode code 1254 = .ok (.iadd, 1) := by decide +kernel
theorem d_law_1255 : decode code 1255 = .ok (.iaload, 1) := by decide +kernel
theorem d_law_1256 : decode code 1256 = .ok (.invokevirtual 127, 3) := by decide +kernel
theorem d_law_1259 : decode code 1259 = .ok (.lstore 6, 2) := by decide +kernel
theorem d_law_1261 : decode code 1261 = .ok (.aload_n 2, 1) := by decide +kernel
theorem d_law_1262 : decode code 1262 = .ok (.invokevirtual 64, 3) := by decide +kernel
theorem d_law_1265 : decode code 1265 = .ok (.iload 5, 2) := by decide +kernel
theorem d_law_1267 : decode code 1267 = .ok (.if_icmp .eq 5, 3) := by decide +kernel
theorem d_law_1272 : decode code 1272 = .ok (.iload 5, 2) := by decide +kernel
theorem d_law_1274 : decode code 1274 = .ok (.ifCond .ne 14, 3) := by decide +kernel
theorem d_law_1288 : decode code 1288 = .ok (.goto 39, 3) := by decide +kernel
theorem d_law_1291 : decode code 1291 = .ok (.aload_n 1, 1) := by decide +kernel
theorem d_law_1292 : decode code 1292 = .ok (.invokevirtual 128, 3) := by decide +kernel
theorem d_law_1295 : decode code 1295 = .ok (.aload_n 2, 1) := by decide +kernel
theorem d_law_1296 : decode code 1296 = .ok (.invokevirtual 131, 3) := by decide +kernel
theorem d_law_1299 : decode code 1299 = .ok (.goto 28, 3) := by decide +kernel
theorem d_law_1302 : decode code 1302 = .ok (.aload_n 1, 1) := by decide +kernel
theorem d_law_1303 : decode code 1303 = .ok (.aload_n 0, 1) := by decide +kernel
theorem d_law_1304 : decode code 1304 = .ok (.iload 4, 2) := by decide +kernel
theorem d_law_1306 : decode code 1306 = .ok (.iconst 1, 1) := by decide +kernel
theorem d_law_1307 : decode code 1307 = .ok (.iadd, 1) := by decide +kernel
theorem d_law_1308 : decode code 1308 = .ok (.iaload, 1) := by decide +kernel
theorem d_law_1309 : decode code 1309 = .ok (.invokevirtual 132, 3) := by decide +kernel
theorem d_law_1312 : decode code 1312 = .ok (.aload_n 2, 1) := by decide +kernel
theorem d_law_1313 : decode code 1313 = .ok (.aload_n 0, 1) := by decide +kernel
theorem d_law_1314 : decode code 1314 = .ok (.iload 4, 2) := by decide +kernel
theorem d_law_1316 : decode code 1316 = .ok (.iconst 1, 1) := by decide +kernel
theorem d_law_1317 : decode code 1317 = .ok (.iadd, 1) := by decide +kernel
theorem d_law_1318 : decode code 1318 = .ok (.iaload, 1) := by decide +kernel
theorem d_law_1319 : decode code 1319 = .ok (.invokevirtual 135, 3) := by decide +kernel
theorem d_law_1322 : decode code 1322 = .ok (.if_icmp .eq 5, 3) := by decide +kernel
