-- the law
/-! THE CLAIM OUT OF ONE WALK OF THE LAW'S BODY. Your part is whole_start (and what it stands on); all else here is the same for every law, but numbers. -/
def R_law : String := "MuckForFourLaw"
def lw_P (b : Addr) (xs : List Int32) (args : Array Value) (s : State) : Prop := args = #[.ref b] ∧ s.IntsAt b xs ∧ xs.length ≤ 2048 ∧ (Jvm.Cond.and given_1 narrow_1).before args s = true
def lw_Q (_ : Array Value) (s : State) (o : Outcome) (t : State) : Prop := o = .returned (some (.int 1)) ∧ Framed s o t [] 600000 7302250
def lw_Z (below : List Frame) (a : Array Value) (s : State) : State → Prop := fun t => ∃ o, t.status = .running ∧ Ended t below o ∧ lw_Q a s o t
/-- the law's own end, with 1 on the stack, nothing written that was there before, its room as the claim has it -/
theorem lw_ret {p : Program} {l : Launch} {e : Env} {s : State} {m : MethodId} {below : List Frame} {meth : Method} {c : Code} {b : Nat} (hx : p.tables.exec = Jvm.exec) (hb : c.code = code) (hr : meth.sig.returnType = ret) (hlocks : meth.locks = false) {pc : Nat} {H : Heap} {ls : Array Slot} (hdg : decode code pc = .ok (.ireturn, 1)) : W p l e room_1 s m #[Value.ref b] below meth c H [] 600000 7302250 (lw_Z below #[Value.ref b] s) (F0 m pc ls [.int 1]) := by
  intro T hT X
  obtain ⟨fs, hret, hrun, hended, hW, hframe⟩ := X.leave (v := some (.int 1)) (hlocks := hlocks) (fun h => by rw [hr] at h; cases h)
  have hmeth' : T.vm.method? m = some meth := X.method'
  refine ⟨T.setFrames fs, ?_, .returned (some (.int 1)), hrun, hended, rfl, ⟨_, rfl⟩, hW, hframe⟩
  jvm_step X.here [X.here.top, hx, hb, hdg, hmeth', hr, ret, narrow_b1]
  (try refine ⟨rfl, ?_⟩); (try refine ⟨rfl, ?_⟩)
  first | (intro acts; rw [hret _ acts rfl rfl rfl]) | rw [hret _ _ rfl rfl rfl]
  exact Steps.refl _
/-- what holds at the law's entry: the machine, the code, the tables' words (any of lw_tbl by 'hts w (by decide +kernel)'), the script of L ints xs at the cell b, what the Statement gives of the start (any of its parts by flat_of_before) -/
def lw_At (p : Program) (s : State) (m : MethodId) (meth : Method) (c : Code) (b L : Nat) (xs : Nat → Int32) : Prop :=
  p.tables.exec = Jvm.exec ∧ c.code = code ∧ meth.sig.returnType = ret ∧ c.maxLocals = 4 ∧ s.vm.findClass R_law = some m.cls ∧ (∀ w ∈ lw_tbl, w.before #[Value.ref b] s = true) ∧ va_X b L xs s s.heap ∧ b < s.heap.size ∧ meth.locks = false ∧ (Jvm.Cond.and given_1 narrow_1).before #[Value.ref b] s = true
-- ===== YOUR PART BEGINS =====
theorem dl_0 : decode code 0 = .ok (.new 7, 3) := by decide +kernel
theorem dl_3 : decode code 3 = .ok (.dup, 1) := by decide +kernel
theorem dl_4 : decode code 4 = .ok (.invokespecial 9, 3) := by decide +kernel
theorem dl_7 : decode code 7 = .ok (.astore_n 1, 1) := by decide +kernel
theorem dl_8 : decode code 8 = .ok (.new 10, 3) := by decide +kernel
theorem dl_11 : decode code 11 = .ok (.dup, 1) := by decide +kernel
theorem dl_12 : decode code 12 = .ok (.invokespecial 12, 3) := by decide +kernel
theorem dl_15 : decode code 15 = .ok (.astore_n 2, 1) := by decide +kernel
theorem dl_16 : decode code 16 = .ok (.iconst 0, 1) := by decide +kernel
theorem dl_17 : decode code 17 = .ok (.istore_n 3, 1) := by decide +kernel
theorem dl_18 : decode code 18 = .ok (.iload_n 3, 1) := by decide +kernel
theorem dl_19 : decode code 19 = .ok (.aload_n 0, 1) := by decide +kernel
theorem dl_20 : decode code 20 = .ok (.arraylength, 1) := by decide +kernel
theorem dl_21 : decode code 21 = .ok (.iconst 4, 1) := by decide +kernel
theorem dl_22 : decode code 22 = .ok (.isub, 1) := by decide +kernel
theorem dl_23 : decode code 23 = .ok (.if_icmp .gt 924, 3) := by decide +kernel
theorem dl_26 : decode code 26 = .ok (.aload_n 0, 1) := by decide +kernel
theorem dl_27 : decode code 27 = .ok (.iload_n 3, 1) := by decide +kernel
theorem dl_28 : decode code 28 = .ok (.iaload, 1) := by decide +kernel
theorem dl_29 : decode code 29 = .ok (.bipush 31, 2) := by decide +kernel
theorem dl_31 : decode code 31 = .ok (.iand, 1) := by decide +kernel
theorem dl_32 : decode code 32 = .ok (.tableswitch 909 0 28 #[132, 155, 168, 201, 244, 277, 300, 333, 366, 399, 442, 465, 488, 511, 534, 557, 590, 613, 636, 659, 692, 735, 778, 791, 814, 827, 860, 873, 886], 132) := by decide +kernel
theorem dl_164 : decode code 164 = .ok (.aload_n 1, 1) := by decide +kernel
theorem dl_165 : decode code 165 = .ok (.aload_n 0, 1) := by decide +kernel
theorem dl_166 : decode code 166 = .ok (.iload_n 3, 1) := by decide +kernel
theorem dl_167 : decode code 167 = .ok (.iconst 1, 1) := by decide +kernel
theorem dl_168 : decode code 168 = .ok (.iadd, 1) := by decide +kernel
theorem dl_169 : decode code 169 = .ok (.iaload, 1) := by decide +kernel
theorem dl_170 : decode code 170 = .ok (.invokevirtual 13, 3) := by decide +kernel
theorem dl_173 : decode code 173 = .ok (.aload_n 2, 1) := by decide +kernel
theorem dl_174 : decode code 174 = .ok (.aload_n 0, 1) := by decide +kernel
theorem dl_175 : decode code 175 = .ok (.iload_n 3, 1) := by decide +kernel
theorem dl_176 : decode code 176 = .ok (.iconst 1, 1) := by decide +kernel
theorem dl_177 : decode code 177 = .ok (.iadd, 1) := by decide +kernel
theorem dl_178 : decode code 178 = .ok (.iaload, 1) := by decide +kernel
theorem dl_179 : decode code 179 = .ok (.invokevirtual 17, 3) := by decide +kernel
theorem dl_182 : decode code 182 = .ok (.if_icmp .eq 759, 3) := by decide +kernel
theorem dl_185 : decode code 185 = .ok (.iconst 0, 1) := by decide +kernel
theorem dl_186 : decode code 186 = .ok (.ireturn, 1) := by decide +kernel
theorem dl_187 : decode code 187 = .ok (.aload_n 1, 1) := by decide +kernel
theorem dl_188 : decode code 188 = .ok (.invokevirtual 18, 3) := by decide +kernel
theorem dl_191 : decode code 191 = .ok (.aload_n 2, 1) := by decide +kernel
theorem dl_192 : decode code 192 = .ok (.invokevirtual 22, 3) := by decide +kernel
theorem dl_195 : decode code 195 = .ok (.if_icmp .eq 746, 3) := by decide +kernel
theorem dl_198 : decode code 198 = .ok (.iconst 0, 1) := by decide +kernel
theorem dl_199 : decode code 199 = .ok (.ireturn, 1) := by decide +kernel
theorem dl_200 : decode code 200 = .ok (.aload_n 1, 1) := by decide +kernel
theorem dl_201 : decode code 201 = .ok (.aload_n 0, 1) := by decide +kernel
theorem dl_202 : decode code 202 = .ok (.iload_n 3, 1) := by decide +kernel
theorem dl_203 : decode code 203 = .ok (.iconst 1, 1) := by decide +kernel
theorem dl_204 : decode code 204 = .ok (.iadd, 1) := by decide +kernel
theorem dl_205 : decode code 205 = .ok (.iaload, 1) := by decide +kernel
theorem dl_206 : decode code 206 = .ok (.aload_n 0, 1) := by decide +kernel
theorem dl_207 : decode code 207 = .ok (.iload_n 3, 1) := by decide +kernel
theorem dl_208 : decode code 208 = .ok (.iconst 2, 1) := by decide +kernel
theorem dl_209 : decode code 209 = .ok (.iadd, 1) := by decide +kernel
theorem dl_210 : decode code 210 = .ok (.iaload, 1) := by decide +kernel
theorem dl_211 : decode code 211 = .ok (.invokevirtual 23, 3) := by decide +kernel
theorem dl_214 : decode code 214 = .ok (.aload_n 2, 1) := by decide +kernel
theorem dl_215 : decode code 215 = .ok (.aload_n 0, 1) := by decide +kernel
theorem dl_216 : decode code 216 = .ok (.iload_n 3, 1) := by decide +kernel
theorem dl_217 : decode code 217 = .ok (.iconst 1, 1) := by decide +kernel
theorem dl_218 : decode code 218 = .ok (.iadd, 1) := by decide +kernel
theorem dl_219 : decode code 219 = .ok (.iaload, 1) := by decide +kernel
theorem dl_220 : decode code 220 = .ok (.aload_n 0, 1) := by decide +kernel
theorem dl_221 : decode code 221 = .ok (.iload_n 3, 1) := by decide +kernel
theorem dl_222 : decode code 222 = .ok (.iconst 2, 1) := by decide +kernel
theorem dl_223 : decode code 223 = .ok (.iadd, 1) := by decide +kernel
theorem dl_224 : decode code 224 = .ok (.iaload, 1) := by decide +kernel
theorem dl_225 : decode code 225 = .ok (.invokevirtual 27, 3) := by decide +kernel
theorem dl_228 : decode code 228 = .ok (.if_icmp .eq 713, 3) := by decide +kernel
theorem dl_231 : decode code 231 = .ok (.iconst 0, 1) := by decide +kernel
theorem dl_232 : decode code 232 = .ok (.ireturn, 1) := by decide +kernel
theorem dl_233 : decode code 233 = .ok (.aload_n 1, 1) := by decide +kernel
theorem dl_234 : decode code 234 = .ok (.aload_n 0, 1) := by decide +kernel
theorem dl_235 : decode code 235 = .ok (.iload_n 3, 1) := by decide +kernel
theorem dl_236 : decode code 236 = .ok (.iconst 1, 1) := by decide +kernel
theorem dl_237 : decode code 237 = .ok (.iadd, 1) := by decide +kernel
theorem dl_238 : decode code 238 = .ok (.iaload, 1) := by decide +kernel
theorem dl_239 : decode code 239 = .ok (.aload_n 0, 1) := by decide +kernel
theorem dl_240 : decode code 240 = .ok (.iload_n 3, 1) := by decide +kernel
theorem dl_241 : decode code 241 = .ok (.iconst 2, 1) := by decide +kernel
theorem dl_242 : decode code 242 = .ok (.iadd, 1) := by decide +kernel
theorem dl_243 : decode code 243 = .ok (.iaload, 1) := by decide +kernel
theorem dl_244 : decode code 244 = .ok (.aload_n 0, 1) := by decide +kernel
theorem dl_245 : decode code 245 = .ok (.iload_n 3, 1) := by decide +kernel
theorem dl_246 : decode code 246 = .ok (.iconst 3, 1) := by decide +kernel
theorem dl_247 : decode code 247 = .ok (.iadd, 1) := by decide +kernel
theorem dl_248 : decode code 248 = .ok (.iaload, 1) := by decide +kernel
theorem dl_249 : decode code 249 = .ok (.invokevirtual 28, 3) := by decide +kernel
theorem dl_252 : decode code 252 = .ok (.aload_n 2, 1) := by decide +kernel
theorem dl_253 : decode code 253 = .ok (.aload_n 0, 1) := by decide +kernel
theorem dl_254 : decode code 254 = .ok (.iload_n 3, 1) := by decide +kernel
theorem dl_255 : decode code 255 = .ok (.iconst 1, 1) := by decide +kernel
theorem dl_256 : decode code 256 = .ok (.iadd, 1) := by decide +kernel
theorem dl_257 : decode code 257 = .ok (.iaload, 1) := by decide +kernel
theorem dl_258 : decode code 258 = .ok (.aload_n 0, 1) := by decide +kernel
theorem dl_259 : decode code 259 = .ok (.iload_n 3, 1) := by decide +kernel
theorem dl_260 : decode code 260 = .ok (.iconst 2, 1) := by decide +kernel
theorem dl_261 : decode code 261 = .ok (.iadd, 1) := by decide +kernel
theorem dl_262 : decode code 262 = .ok (.iaload, 1) := by decide +kernel
theorem dl_263 : decode code 263 = .ok (.aload_n 0, 1) := by decide +kernel
theorem dl_264 : decode code 264 = .ok (.iload_n 3, 1) := by decide +kernel
theorem dl_265 : decode code 265 = .ok (.iconst 3, 1) := by decide +kernel
theorem dl_266 : decode code 266 = .ok (.iadd, 1) := by decide +kernel
theorem dl_267 : decode code 267 = .ok (.iaload, 1) := by decide +kernel
theorem dl_268 : decode code 268 = .ok (.invokevirtual 32, 3) := by decide +kernel
theorem dl_271 : decode code 271 = .ok (.if_icmp .eq 670, 3) := by decide +kernel
theorem dl_274 : decode code 274 = .ok (.iconst 0, 1) := by decide +kernel
theorem dl_275 : decode code 275 = .ok (.ireturn, 1) := by decide +kernel
theorem dl_276 : decode code 276 = .ok (.aload_n 1, 1) := by decide +kernel
theorem dl_277 : decode code 277 = .ok (.aload_n 0, 1) := by decide +kernel
theorem dl_278 : decode code 278 = .ok (.iload_n 3, 1) := by decide +kernel
theorem dl_279 : decode code 279 = .ok (.iconst 1, 1) := by decide +kernel
theorem dl_280 : decode code 280 = .ok (.iadd, 1) := by decide +kernel
theorem dl_281 : decode code 281 = .ok (.iaload, 1) := by decide +kernel
theorem dl_282 : decode code 282 = .ok (.aload_n 0, 1) := by decide +kernel
theorem dl_283 : decode code 283 = .ok (.iload_n 3, 1) := by decide +kernel
theorem dl_284 : decode code 284 = .ok (.iconst 2, 1) := by decide +kernel
theorem dl_285 : decode code 285 = .ok (.iadd, 1) := by decide +kernel
theorem dl_286 : decode code 286 = .ok (.iaload, 1) := by decide +kernel
theorem dl_287 : decode code 287 = .ok (.invokevirtual 33, 3) := by decide +kernel
theorem dl_290 : decode code 290 = .ok (.aload_n 2, 1) := by decide +kernel
theorem dl_291 : decode code 291 = .ok (.aload_n 0, 1) := by decide +kernel
theorem dl_292 : decode code 292 = .ok (.iload_n 3, 1) := by decide +kernel
theorem dl_293 : decode code 293 = .ok (.iconst 1, 1) := by decide +kernel
theorem dl_294 : decode code 294 = .ok (.iadd, 1) := by decide +kernel
theorem dl_295 : decode code 295 = .ok (.iaload, 1) := by decide +kernel
theorem dl_296 : decode code 296 = .ok (.aload_n 0, 1) := by decide +kernel
theorem dl_297 : decode code 297 = .ok (.iload_n 3, 1) := by decide +kernel
theorem dl_298 : decode code 298 = .ok (.iconst 2, 1) := by decide +kernel
theorem dl_299 : decode code 299 = .ok (.iadd, 1) := by decide +kernel
theorem dl_300 : decode code 300 = .ok (.iaload, 1) := by decide +kernel
theorem dl_301 : decode code 301 = .ok (.invokevirtual 36, 3) := by decide +kernel
theorem dl_304 : decode code 304 = .ok (.if_icmp .eq 637, 3) := by decide +kernel
theorem dl_307 : decode code 307 = .ok (.iconst 0, 1) := by decide +kernel
theorem dl_308 : decode code 308 = .ok (.ireturn, 1) := by decide +kernel
theorem dl_309 : decode code 309 = .ok (.aload_n 1, 1) := by decide +kernel
theorem dl_310 : decode code 310 = .ok (.aload_n 0, 1) := by decide +kernel
theorem dl_311 : decode code 311 = .ok (.iload_n 3, 1) := by decide +kernel
theorem dl_312 : decode code 312 = .ok (.iconst 1, 1) := by decide +kernel
theorem dl_313 : decode code 313 = .ok (.iadd, 1) := by decide +kernel
theorem dl_314 : decode code 314 = .ok (.iaload, 1) := by decide +kernel
theorem dl_315 : decode code 315 = .ok (.invokevirtual 37, 3) := by decide +kernel
theorem dl_318 : decode code 318 = .ok (.aload_n 2, 1) := by decide +kernel
theorem dl_319 : decode code 319 = .ok (.aload_n 0, 1) := by decide +kernel
theorem dl_320 : decode code 320 = .ok (.iload_n 3, 1) := by decide +kernel
theorem dl_321 : decode code 321 = .ok (.iconst 1, 1) := by decide +kernel
theorem dl_322 : decode code 322 = .ok (.iadd, 1) := by decide +kernel
theorem dl_323 : decode code 323 = .ok (.iaload, 1) := by decide +kernel
theorem dl_324 : decode code 324 = .ok (.invokevirtual 40, 3) := by decide +kernel
theorem dl_327 : decode code 327 = .ok (.if_icmp .eq 614, 3) := by decide +kernel
theorem dl_330 : decode code 330 = .ok (.iconst 0, 1) := by decide +kernel
theorem dl_331 : decode code 331 = .ok (.ireturn, 1) := by decide +kernel
theorem dl_332 : decode code 332 = .ok (.aload_n 1, 1) := by decide +kernel
theorem dl_333 : decode code 333 = .ok (.aload_n 0, 1) := by decide +kernel
theorem dl_334 : decode code 334 = .ok (.iload_n 3, 1) := by decide +kernel
theorem dl_335 : decode code 335 = .ok (.iconst 1, 1) := by decide +kernel
theorem dl_336 : decode code 336 = .ok (.iadd, 1) := by decide +kernel
theorem dl_337 : decode code 337 = .ok (.iaload, 1) := by decide +kernel
theorem dl_338 : decode code 338 = .ok (.aload_n 0, 1) := by decide +kernel
theorem dl_339 : decode code 339 = .ok (.iload_n 3, 1) := by decide +kernel
theorem dl_340 : decode code 340 = .ok (.iconst 2, 1) := by decide +kernel
theorem dl_341 : decode code 341 = .ok (.iadd, 1) := by decide +kernel
theorem dl_342 : decode code 342 = .ok (.iaload, 1) := by decide +kernel
theorem dl_343 : decode code 343 = .ok (.invokevirtual 41, 3) := by decide +kernel
theorem dl_346 : decode code 346 = .ok (.aload_n 2, 1) := by decide +kernel
theorem dl_347 : decode code 347 = .ok (.aload_n 0, 1) := by decide +kernel
theorem dl_348 : decode code 348 = .ok (.iload_n 3, 1) := by decide +kernel
theorem dl_349 : decode code 349 = .ok (.iconst 1, 1) := by decide +kernel
theorem dl_350 : decode code 350 = .ok (.iadd, 1) := by decide +kernel
theorem dl_351 : decode code 351 = .ok (.iaload, 1) := by decide +kernel
theorem dl_352 : decode code 352 = .ok (.aload_n 0, 1) := by decide +kernel
theorem dl_353 : decode code 353 = .ok (.iload_n 3, 1) := by decide +kernel
theorem dl_354 : decode code 354 = .ok (.iconst 2, 1) := by decide +kernel
theorem dl_355 : decode code 355 = .ok (.iadd, 1) := by decide +kernel
theorem dl_356 : decode code 356 = .ok (.iaload, 1) := by decide +kernel
theorem dl_357 : decode code 357 = .ok (.invokevirtual 44, 3) := by decide +kernel
theorem dl_360 : decode code 360 = .ok (.if_icmp .eq 581, 3) := by decide +kernel
theorem dl_363 : decode code 363 = .ok (.iconst 0, 1) := by decide +kernel
theorem dl_364 : decode code 364 = .ok (.ireturn, 1) := by decide +kernel
theorem dl_365 : decode code 365 = .ok (.aload_n 1, 1) := by decide +kernel
theorem dl_366 : decode code 366 = .ok (.aload_n 0, 1) := by decide +kernel
theorem dl_367 : decode code 367 = .ok (.iload_n 3, 1) := by decide +kernel
theorem dl_368 : decode code 368 = .ok (.iconst 1, 1) := by decide +kernel
theorem dl_369 : decode code 369 = .ok (.iadd, 1) := by decide +kernel
theorem dl_370 : decode code 370 = .ok (.iaload, 1) := by decide +kernel
theorem dl_371 : decode code 371 = .ok (.aload_n 0, 1) := by decide +kernel
theorem dl_372 : decode code 372 = .ok (.iload_n 3, 1) := by decide +kernel
theorem dl_373 : decode code 373 = .ok (.iconst 2, 1) := by decide +kernel
theorem dl_374 : decode code 374 = .ok (.iadd, 1) := by decide +kernel
theorem dl_375 : decode code 375 = .ok (.iaload, 1) := by decide +kernel
theorem dl_376 : decode code 376 = .ok (.invokevirtual 45, 3) := by decide +kernel
theorem dl_379 : decode code 379 = .ok (.aload_n 2, 1) := by decide +kernel
theorem dl_380 : decode code 380 = .ok (.aload_n 0, 1) := by decide +kernel
theorem dl_381 : decode code 381 = .ok (.iload_n 3, 1) := by decide +kernel
theorem dl_382 : decode code 382 = .ok (.iconst 1, 1) := by decide +kernel
theorem dl_383 : decode code 383 = .ok (.iadd, 1) := by decide +kernel
theorem dl_384 : decode code 384 = .ok (.iaload, 1) := by decide +kernel
theorem dl_385 : decode code 385 = .ok (.aload_n 0, 1) := by decide +kernel
theorem dl_386 : decode code 386 = .ok (.iload_n 3, 1) := by decide +kernel
theorem dl_387 : decode code 387 = .ok (.iconst 2, 1) := by decide +kernel
theorem dl_388 : decode code 388 = .ok (.iadd, 1) := by decide +kernel
theorem dl_389 : decode code 389 = .ok (.iaload, 1) := by decide +kernel
theorem dl_390 : decode code 390 = .ok (.invokevirtual 48, 3) := by decide +kernel
theorem dl_393 : decode code 393 = .ok (.if_icmp .eq 548, 3) := by decide +kernel
theorem dl_396 : decode code 396 = .ok (.iconst 0, 1) := by decide +kernel
theorem dl_397 : decode code 397 = .ok (.ireturn, 1) := by decide +kernel
theorem dl_398 : decode code 398 = .ok (.aload_n 1, 1) := by decide +kernel
theorem dl_399 : decode code 399 = .ok (.aload_n 0, 1) := by decide +kernel
theorem dl_400 : decode code 400 = .ok (.iload_n 3, 1) := by decide +kernel
theorem dl_401 : decode code 401 = .ok (.iconst 1, 1) := by decide +kernel
theorem dl_402 : decode code 402 = .ok (.iadd, 1) := by decide +kernel
theorem dl_403 : decode code 403 = .ok (.iaload, 1) := by decide +kernel
theorem dl_404 : decode code 404 = .ok (.aload_n 0, 1) := by decide +kernel
theorem dl_405 : decode code 405 = .ok (.iload_n 3, 1) := by decide +kernel
theorem dl_406 : decode code 406 = .ok (.iconst 2, 1) := by decide +kernel
theorem dl_407 : decode code 407 = .ok (.iadd, 1) := by decide +kernel
theorem dl_408 : decode code 408 = .ok (.iaload, 1) := by decide +kernel
theorem dl_409 : decode code 409 = .ok (.invokevirtual 49, 3) := by decide +kernel
theorem dl_412 : decode code 412 = .ok (.aload_n 2, 1) := by decide +kernel
theorem dl_413 : decode code 413 = .ok (.aload_n 0, 1) := by decide +kernel
theorem dl_414 : decode code 414 = .ok (.iload_n 3, 1) := by decide +kernel
theorem dl_415 : decode code 415 = .ok (.iconst 1, 1) := by decide +kernel
theorem dl_416 : decode code 416 = .ok (.iadd, 1) := by decide +kernel
theorem dl_417 : decode code 417 = .ok (.iaload, 1) := by decide +kernel
theorem dl_418 : decode code 418 = .ok (.aload_n 0, 1) := by decide +kernel
theorem dl_419 : decode code 419 = .ok (.iload_n 3, 1) := by decide +kernel
theorem dl_420 : decode code 420 = .ok (.iconst 2, 1) := by decide +kernel
theorem dl_421 : decode code 421 = .ok (.iadd, 1) := by decide +kernel
theorem dl_422 : decode code 422 = .ok (.iaload, 1) := by decide +kernel
theorem dl_423 : decode code 423 = .ok (.invokevirtual 52, 3) := by decide +kernel
theorem dl_426 : decode code 426 = .ok (.if_icmp .eq 515, 3) := by decide +kernel
theorem dl_429 : decode code 429 = .ok (.iconst 0, 1) := by decide +kernel
theorem dl_430 : decode code 430 = .ok (.ireturn, 1) := by decide +kernel
theorem dl_431 : decode code 431 = .ok (.aload_n 1, 1) := by decide +kernel
theorem dl_432 : decode code 432 = .ok (.aload_n 0, 1) := by decide +kernel
theorem dl_433 : decode code 433 = .ok (.iload_n 3, 1) := by decide +kernel
theorem dl_434 : decode code 434 = .ok (.iconst 1, 1) := by decide +kernel
theorem dl_435 : decode code 435 = .ok (.iadd, 1) := by decide +kernel
theorem dl_436 : decode code 436 = .ok (.iaload, 1) := by decide +kernel
theorem dl_437 : decode code 437 = .ok (.aload_n 0, 1) := by decide +kernel
theorem dl_438 : decode code 438 = .ok (.iload_n 3, 1) := by decide +kernel
theorem dl_439 : decode code 439 = .ok (.iconst 2, 1) := by decide +kernel
theorem dl_440 : decode code 440 = .ok (.iadd, 1) := by decide +kernel
theorem dl_441 : decode code 441 = .ok (.iaload, 1) := by decide +kernel
theorem dl_442 : decode code 442 = .ok (.aload_n 0, 1) := by decide +kernel
theorem dl_443 : decode code 443 = .ok (.iload_n 3, 1) := by decide +kernel
theorem dl_444 : decode code 444 = .ok (.iconst 3, 1) := by decide +kernel
theorem dl_445 : decode code 445 = .ok (.iadd, 1) := by decide +kernel
theorem dl_446 : decode code 446 = .ok (.iaload, 1) := by decide +kernel
theorem dl_447 : decode code 447 = .ok (.invokevirtual 53, 3) := by decide +kernel
theorem dl_450 : decode code 450 = .ok (.aload_n 2, 1) := by decide +kernel
theorem dl_451 : decode code 451 = .ok (.aload_n 0, 1) := by decide +kernel
theorem dl_452 : decode code 452 = .ok (.iload_n 3, 1) := by decide +kernel
theorem dl_453 : decode code 453 = .ok (.iconst 1, 1) := by decide +kernel
theorem dl_454 : decode code 454 = .ok (.iadd, 1) := by decide +kernel
theorem dl_455 : decode code 455 = .ok (.iaload, 1) := by decide +kernel
theorem dl_456 : decode code 456 = .ok (.aload_n 0, 1) := by decide +kernel
theorem dl_457 : decode code 457 = .ok (.iload_n 3, 1) := by decide +kernel
theorem dl_458 : decode code 458 = .ok (.iconst 2, 1) := by decide +kernel
theorem dl_459 : decode code 459 = .ok (.iadd, 1) := by decide +kernel
theorem dl_460 : decode code 460 = .ok (.iaload, 1) := by decide +kernel
theorem dl_461 : decode code 461 = .ok (.aload_n 0, 1) := by decide +kernel
theorem dl_462 : decode code 462 = .ok (.iload_n 3, 1) := by decide +kernel
theorem dl_463 : decode code 463 = .ok (.iconst 3, 1) := by decide +kernel
theorem dl_464 : decode code 464 = .ok (.iadd, 1) := by decide +kernel
theorem dl_465 : decode code 465 = .ok (.iaload, 1) := by decide +kernel
theorem dl_466 : decode code 466 = .ok (.invokevirtual 56, 3) := by decide +kernel
theorem dl_469 : decode code 469 = .ok (.if_icmp .eq 472, 3) := by decide +kernel
theorem dl_472 : decode code 472 = .ok (.iconst 0, 1) := by decide +kernel
theorem dl_473 : decode code 473 = .ok (.ireturn, 1) := by decide +kernel
theorem dl_474 : decode code 474 = .ok (.aload_n 1, 1) := by decide +kernel
theorem dl_475 : decode code 475 = .ok (.aload_n 0, 1) := by decide +kernel
theorem dl_476 : decode code 476 = .ok (.iload_n 3, 1) := by decide +kernel
theorem dl_477 : decode code 477 = .ok (.iconst 1, 1) := by decide +kernel
theorem dl_478 : decode code 478 = .ok (.iadd, 1) := by decide +kernel
theorem dl_479 : decode code 479 = .ok (.iaload, 1) := by decide +kernel
theorem dl_480 : decode code 480 = .ok (.invokevirtual 57, 3) := by decide +kernel
theorem dl_483 : decode code 483 = .ok (.aload_n 2, 1) := by decide +kernel
theorem dl_484 : decode code 484 = .ok (.aload_n 0, 1) := by decide +kernel
theorem dl_485 : decode code 485 = .ok (.iload_n 3, 1) := by decide +kernel
theorem dl_486 : decode code 486 = .ok (.iconst 1, 1) := by decide +kernel
theorem dl_487 : decode code 487 = .ok (.iadd, 1) := by decide +kernel
theorem dl_488 : decode code 488 = .ok (.iaload, 1) := by decide +kernel
theorem dl_489 : decode code 489 = .ok (.invokevirtual 60, 3) := by decide +kernel
theorem dl_492 : decode code 492 = .ok (.if_icmp .eq 449, 3) := by decide +kernel
theorem dl_495 : decode code 495 = .ok (.iconst 0, 1) := by decide +kernel
theorem dl_496 : decode code 496 = .ok (.ireturn, 1) := by decide +kernel
theorem dl_497 : decode code 497 = .ok (.aload_n 1, 1) := by decide +kernel
theorem dl_498 : decode code 498 = .ok (.aload_n 0, 1) := by decide +kernel
theorem dl_499 : decode code 499 = .ok (.iload_n 3, 1) := by decide +kernel
theorem dl_500 : decode code 500 = .ok (.iconst 1, 1) := by decide +kernel
theorem dl_501 : decode code 501 = .ok (.iadd, 1) := by decide +kernel
theorem dl_502 : decode code 502 = .ok (.iaload, 1) := by decide +kernel
theorem dl_503 : decode code 503 = .ok (.invokevirtual 61, 3) := by decide +kernel
theorem dl_506 : decode code 506 = .ok (.aload_n 2, 1) := by decide +kernel
theorem dl_507 : decode code 507 = .ok (.aload_n 0, 1) := by decide +kernel
theorem dl_508 : decode code 508 = .ok (.iload_n 3, 1) := by decide +kernel
theorem dl_509 : decode code 509 = .ok (.iconst 1, 1) := by decide +kernel
theorem dl_510 : decode code 510 = .ok (.iadd, 1) := by decide +kernel
theorem dl_511 : decode code 511 = .ok (.iaload, 1) := by decide +kernel
theorem dl_512 : decode code 512 = .ok (.invokevirtual 64, 3) := by decide +kernel
theorem dl_515 : decode code 515 = .ok (.if_icmp .eq 426, 3) := by decide +kernel
theorem dl_518 : decode code 518 = .ok (.iconst 0, 1) := by decide +kernel
theorem dl_519 : decode code 519 = .ok (.ireturn, 1) := by decide +kernel
theorem dl_520 : decode code 520 = .ok (.aload_n 1, 1) := by decide +kernel
theorem dl_521 : decode code 521 = .ok (.aload_n 0, 1) := by decide +kernel
theorem dl_522 : decode code 522 = .ok (.iload_n 3, 1) := by decide +kernel
theorem dl_523 : decode code 523 = .ok (.iconst 1, 1) := by decide +kernel
theorem dl_524 : decode code 524 = .ok (.iadd, 1) := by decide +kernel
theorem dl_525 : decode code 525 = .ok (.iaload, 1) := by decide +kernel
theorem dl_526 : decode code 526 = .ok (.invokevirtual 65, 3) := by decide +kernel
theorem dl_529 : decode code 529 = .ok (.aload_n 2, 1) := by decide +kernel
theorem dl_530 : decode code 530 = .ok (.aload_n 0, 1) := by decide +kernel
theorem dl_531 : decode code 531 = .ok (.iload_n 3, 1) := by decide +kernel
theorem dl_532 : decode code 532 = .ok (.iconst 1, 1) := by decide +kernel
theorem dl_533 : decode code 533 = .ok (.iadd, 1) := by decide +kernel
theorem dl_534 : decode code 534 = .ok (.iaload, 1) := by decide +kernel
theorem dl_535 : decode code 535 = .ok (.invokevirtual 68, 3) := by decide +kernel
theorem dl_538 : decode code 538 = .ok (.if_icmp .eq 403, 3) := by decide +kernel
theorem dl_541 : decode code 541 = .ok (.iconst 0, 1) := by decide +kernel
theorem dl_542 : decode code 542 = .ok (.ireturn, 1) := by decide +kernel
theorem dl_543 : decode code 543 = .ok (.aload_n 1, 1) := by decide +kernel
theorem dl_544 : decode code 544 = .ok (.aload_n 0, 1) := by decide +kernel
theorem dl_545 : decode code 545 = .ok (.iload_n 3, 1) := by decide +kernel
theorem dl_546 : decode code 546 = .ok (.iconst 1, 1) := by decide +kernel
theorem dl_547 : decode code 547 = .ok (.iadd, 1) := by decide +kernel
theorem dl_548 : decode code 548 = .ok (.iaload, 1) := by decide +kernel
theorem dl_549 : decode code 549 = .ok (.invokevirtual 69, 3) := by decide +kernel
theorem dl_552 : decode code 552 = .ok (.aload_n 2, 1) := by decide +kernel
theorem dl_553 : decode code 553 = .ok (.aload_n 0, 1) := by decide +kernel
theorem dl_554 : decode code 554 = .ok (.iload_n 3, 1) := by decide +kernel
theorem dl_555 : decode code 555 = .ok (.iconst 1, 1) := by decide +kernel
theorem dl_556 : decode code 556 = .ok (.iadd, 1) := by decide +kernel
theorem dl_557 : decode code 557 = .ok (.iaload, 1) := by decide +kernel
theorem dl_558 : decode code 558 = .ok (.invokevirtual 72, 3) := by decide +kernel
theorem dl_561 : decode code 561 = .ok (.if_icmp .eq 380, 3) := by decide +kernel
theorem dl_564 : decode code 564 = .ok (.iconst 0, 1) := by decide +kernel
theorem dl_565 : decode code 565 = .ok (.ireturn, 1) := by decide +kernel
theorem dl_566 : decode code 566 = .ok (.aload_n 1, 1) := by decide +kernel
theorem dl_567 : decode code 567 = .ok (.aload_n 0, 1) := by decide +kernel
theorem dl_568 : decode code 568 = .ok (.iload_n 3, 1) := by decide +kernel
theorem dl_569 : decode code 569 = .ok (.iconst 1, 1) := by decide +kernel
theorem dl_570 : decode code 570 = .ok (.iadd, 1) := by decide +kernel
theorem dl_571 : decode code 571 = .ok (.iaload, 1) := by decide +kernel
theorem dl_572 : decode code 572 = .ok (.invokevirtual 73, 3) := by decide +kernel
theorem dl_575 : decode code 575 = .ok (.aload_n 2, 1) := by decide +kernel
theorem dl_576 : decode code 576 = .ok (.aload_n 0, 1) := by decide +kernel
theorem dl_577 : decode code 577 = .ok (.iload_n 3, 1) := by decide +kernel
theorem dl_578 : decode code 578 = .ok (.iconst 1, 1) := by decide +kernel
theorem dl_579 : decode code 579 = .ok (.iadd, 1) := by decide +kernel
theorem dl_580 : decode code 580 = .ok (.iaload, 1) := by decide +kernel
theorem dl_581 : decode code 581 = .ok (.invokevirtual 76, 3) := by decide +kernel
theorem dl_584 : decode code 584 = .ok (.if_icmp .eq 357, 3) := by decide +kernel
theorem dl_587 : decode code 587 = .ok (.iconst 0, 1) := by decide +kernel
theorem dl_588 : decode code 588 = .ok (.ireturn, 1) := by decide +kernel
theorem dl_589 : decode code 589 = .ok (.aload_n 1, 1) := by decide +kernel
theorem dl_590 : decode code 590 = .ok (.aload_n 0, 1) := by decide +kernel
theorem dl_591 : decode code 591 = .ok (.iload_n 3, 1) := by decide +kernel
theorem dl_592 : decode code 592 = .ok (.iconst 1, 1) := by decide +kernel
theorem dl_593 : decode code 593 = .ok (.iadd, 1) := by decide +kernel
theorem dl_594 : decode code 594 = .ok (.iaload, 1) := by decide +kernel
theorem dl_595 : decode code 595 = .ok (.aload_n 0, 1) := by decide +kernel
theorem dl_596 : decode code 596 = .ok (.iload_n 3, 1) := by decide +kernel
theorem dl_597 : decode code 597 = .ok (.iconst 2, 1) := by decide +kernel
theorem dl_598 : decode code 598 = .ok (.iadd, 1) := by decide +kernel
theorem dl_599 : decode code 599 = .ok (.iaload, 1) := by decide +kernel
theorem dl_600 : decode code 600 = .ok (.invokevirtual 77, 3) := by decide +kernel
theorem dl_603 : decode code 603 = .ok (.aload_n 2, 1) := by decide +kernel
theorem dl_604 : decode code 604 = .ok (.aload_n 0, 1) := by decide +kernel
theorem dl_605 : decode code 605 = .ok (.iload_n 3, 1) := by decide +kernel
theorem dl_606 : decode code 606 = .ok (.iconst 1, 1) := by decide +kernel
theorem dl_607 : decode code 607 = .ok (.iadd, 1) := by decide +kernel
theorem dl_608 : decode code 608 = .ok (.iaload, 1) := by decide +kernel
theorem dl_609 : decode code 609 = .ok (.aload_n 0, 1) := by decide +kernel
theorem dl_610 : decode code 610 = .ok (.iload_n 3, 1) := by decide +kernel
theorem dl_611 : decode code 611 = .ok (.iconst 2, 1) := by decide +kernel
theorem dl_612 : decode code 612 = .ok (.iadd, 1) := by decide +kernel
theorem dl_613 : decode code 613 = .ok (.iaload, 1) := by decide +kernel
theorem dl_614 : decode code 614 = .ok (.invokevirtual 80, 3) := by decide +kernel
theorem dl_617 : decode code 617 = .ok (.if_icmp .eq 324, 3) := by decide +kernel
theorem dl_620 : decode code 620 = .ok (.iconst 0, 1) := by decide +kernel
theorem dl_621 : decode code 621 = .ok (.ireturn, 1) := by decide +kernel
theorem dl_622 : decode code 622 = .ok (.aload_n 1, 1) := by decide +kernel
theorem dl_623 : decode code 623 = .ok (.aload_n 0, 1) := by decide +kernel
theorem dl_624 : decode code 624 = .ok (.iload_n 3, 1) := by decide +kernel
theorem dl_625 : decode code 625 = .ok (.iconst 1, 1) := by decide +kernel
theorem dl_626 : decode code 626 = .ok (.iadd, 1) := by decide +kernel
theorem dl_627 : decode code 627 = .ok (.iaload, 1) := by decide +kernel
theorem dl_628 : decode code 628 = .ok (.invokevirtual 81, 3) := by decide +kernel
theorem dl_631 : decode code 631 = .ok (.aload_n 2, 1) := by decide +kernel
theorem dl_632 : decode code 632 = .ok (.aload_n 0, 1) := by decide +kernel
theorem dl_633 : decode code 633 = .ok (.iload_n 3, 1) := by decide +kernel
theorem dl_634 : decode code 634 = .ok (.iconst 1, 1) := by decide +kernel
theorem dl_635 : decode code 635 = .ok (.iadd, 1) := by decide +kernel
theorem dl_636 : decode code 636 = .ok (.iaload, 1) := by decide +kernel
theorem dl_637 : decode code 637 = .ok (.invokevirtual 84, 3) := by decide +kernel
theorem dl_640 : decode code 640 = .ok (.if_icmp .eq 301, 3) := by decide +kernel
theorem dl_643 : decode code 643 = .ok (.iconst 0, 1) := by decide +kernel
theorem dl_644 : decode code 644 = .ok (.ireturn, 1) := by decide +kernel
theorem dl_645 : decode code 645 = .ok (.aload_n 1, 1) := by decide +kernel
theorem dl_646 : decode code 646 = .ok (.aload_n 0, 1) := by decide +kernel
theorem dl_647 : decode code 647 = .ok (.iload_n 3, 1) := by decide +kernel
theorem dl_648 : decode code 648 = .ok (.iconst 1, 1) := by decide +kernel
theorem dl_649 : decode code 649 = .ok (.iadd, 1) := by decide +kernel
theorem dl_650 : decode code 650 = .ok (.iaload, 1) := by decide +kernel
theorem dl_651 : decode code 651 = .ok (.invokevirtual 85, 3) := by decide +kernel
theorem dl_654 : decode code 654 = .ok (.aload_n 2, 1) := by decide +kernel
theorem dl_655 : decode code 655 = .ok (.aload_n 0, 1) := by decide +kernel
theorem dl_656 : decode code 656 = .ok (.iload_n 3, 1) := by decide +kernel
theorem dl_657 : decode code 657 = .ok (.iconst 1, 1) := by decide +kernel
theorem dl_658 : decode code 658 = .ok (.iadd, 1) := by decide +kernel
theorem dl_659 : decode code 659 = .ok (.iaload, 1) := by decide +kernel
theorem dl_660 : decode code 660 = .ok (.invokevirtual 88, 3) := by decide +kernel
theorem dl_663 : decode code 663 = .ok (.if_icmp .eq 278, 3) := by decide +kernel
theorem dl_666 : decode code 666 = .ok (.iconst 0, 1) := by decide +kernel
theorem dl_667 : decode code 667 = .ok (.ireturn, 1) := by decide +kernel
theorem dl_668 : decode code 668 = .ok (.aload_n 1, 1) := by decide +kernel
theorem dl_669 : decode code 669 = .ok (.aload_n 0, 1) := by decide +kernel
theorem dl_670 : decode code 670 = .ok (.iload_n 3, 1) := by decide +kernel
theorem dl_671 : decode code 671 = .ok (.iconst 1, 1) := by decide +kernel
theorem dl_672 : decode code 672 = .ok (.iadd, 1) := by decide +kernel
theorem dl_673 : decode code 673 = .ok (.iaload, 1) := by decide +kernel
theorem dl_674 : decode code 674 = .ok (.invokevirtual 89, 3) := by decide +kernel
theorem dl_677 : decode code 677 = .ok (.aload_n 2, 1) := by decide +kernel
theorem dl_678 : decode code 678 = .ok (.aload_n 0, 1) := by decide +kernel
theorem dl_679 : decode code 679 = .ok (.iload_n 3, 1) := by decide +kernel
theorem dl_680 : decode code 680 = .ok (.iconst 1, 1) := by decide +kernel
theorem dl_681 : decode code 681 = .ok (.iadd, 1) := by decide +kernel
theorem dl_682 : decode code 682 = .ok (.iaload, 1) := by decide +kernel
theorem dl_683 : decode code 683 = .ok (.invokevirtual 92, 3) := by decide +kernel
theorem dl_686 : decode code 686 = .ok (.if_icmp .eq 255, 3) := by decide +kernel
theorem dl_689 : decode code 689 = .ok (.iconst 0, 1) := by decide +kernel
theorem dl_690 : decode code 690 = .ok (.ireturn, 1) := by decide +kernel
theorem dl_691 : decode code 691 = .ok (.aload_n 1, 1) := by decide +kernel
theorem dl_692 : decode code 692 = .ok (.aload_n 0, 1) := by decide +kernel
theorem dl_693 : decode code 693 = .ok (.iload_n 3, 1) := by decide +kernel
theorem dl_694 : decode code 694 = .ok (.iconst 1, 1) := by decide +kernel
theorem dl_695 : decode code 695 = .ok (.iadd, 1) := by decide +kernel
theorem dl_696 : decode code 696 = .ok (.iaload, 1) := by decide +kernel
theorem dl_697 : decode code 697 = .ok (.aload_n 0, 1) := by decide +kernel
theorem dl_698 : decode code 698 = .ok (.iload_n 3, 1) := by decide +kernel
theorem dl_699 : decode code 699 = .ok (.iconst 2, 1) := by decide +kernel
theorem dl_700 : decode code 700 = .ok (.iadd, 1) := by decide +kernel
theorem dl_701 : decode code 701 = .ok (.iaload, 1) := by decide +kernel
theorem dl_702 : decode code 702 = .ok (.invokevirtual 93, 3) := by decide +kernel
theorem dl_705 : decode code 705 = .ok (.aload_n 2, 1) := by decide +kernel
theorem dl_706 : decode code 706 = .ok (.aload_n 0, 1) := by decide +kernel
theorem dl_707 : decode code 707 = .ok (.iload_n 3, 1) := by decide +kernel
theorem dl_708 : decode code 708 = .ok (.iconst 1, 1) := by decide +kernel
theorem dl_709 : decode code 709 = .ok (.iadd, 1) := by decide +kernel
theorem dl_710 : decode code 710 = .ok (.iaload, 1) := by decide +kernel
theorem dl_711 : decode code 711 = .ok (.aload_n 0, 1) := by decide +kernel
theorem dl_712 : decode code 712 = .ok (.iload_n 3, 1) := by decide +kernel
theorem dl_713 : decode code 713 = .ok (.iconst 2, 1) := by decide +kernel
theorem dl_714 : decode code 714 = .ok (.iadd, 1) := by decide +kernel
theorem dl_715 : decode code 715 = .ok (.iaload, 1) := by decide +kernel
theorem dl_716 : decode code 716 = .ok (.invokevirtual 96, 3) := by decide +kernel
theorem dl_719 : decode code 719 = .ok (.if_icmp .eq 222, 3) := by decide +kernel
theorem dl_722 : decode code 722 = .ok (.iconst 0, 1) := by decide +kernel
theorem dl_723 : decode code 723 = .ok (.ireturn, 1) := by decide +kernel
theorem dl_724 : decode code 724 = .ok (.aload_n 1, 1) := by decide +kernel
theorem dl_725 : decode code 725 = .ok (.aload_n 0, 1) := by decide +kernel
theorem dl_726 : decode code 726 = .ok (.iload_n 3, 1) := by decide +kernel
theorem dl_727 : decode code 727 = .ok (.iconst 1, 1) := by decide +kernel
theorem dl_728 : decode code 728 = .ok (.iadd, 1) := by decide +kernel
theorem dl_729 : decode code 729 = .ok (.iaload, 1) := by decide +kernel
theorem dl_730 : decode code 730 = .ok (.aload_n 0, 1) := by decide +kernel
theorem dl_731 : decode code 731 = .ok (.iload_n 3, 1) := by decide +kernel
theorem dl_732 : decode code 732 = .ok (.iconst 2, 1) := by decide +kernel
theorem dl_733 : decode code 733 = .ok (.iadd, 1) := by decide +kernel
theorem dl_734 : decode code 734 = .ok (.iaload, 1) := by decide +kernel
theorem dl_735 : decode code 735 = .ok (.aload_n 0, 1) := by decide +kernel
theorem dl_736 : decode code 736 = .ok (.iload_n 3, 1) := by decide +kernel
theorem dl_737 : decode code 737 = .ok (.iconst 3, 1) := by decide +kernel
theorem dl_738 : decode code 738 = .ok (.iadd, 1) := by decide +kernel
theorem dl_739 : decode code 739 = .ok (.iaload, 1) := by decide +kernel
theorem dl_740 : decode code 740 = .ok (.invokevirtual 97, 3) := by decide +kernel
theorem dl_743 : decode code 743 = .ok (.aload_n 2, 1) := by decide +kernel
theorem dl_744 : decode code 744 = .ok (.aload_n 0, 1) := by decide +kernel
theorem dl_745 : decode code 745 = .ok (.iload_n 3, 1) := by decide +kernel
theorem dl_746 : decode code 746 = .ok (.iconst 1, 1) := by decide +kernel
theorem dl_747 : decode code 747 = .ok (.iadd, 1) := by decide +kernel
theorem dl_748 : decode code 748 = .ok (.iaload, 1) := by decide +kernel
theorem dl_749 : decode code 749 = .ok (.aload_n 0, 1) := by decide +kernel
theorem dl_750 : decode code 750 = .ok (.iload_n 3, 1) := by decide +kernel
theorem dl_751 : decode code 751 = .ok (.iconst 2, 1) := by decide +kernel
theorem dl_752 : decode code 752 = .ok (.iadd, 1) := by decide +kernel
theorem dl_753 : decode code 753 = .ok (.iaload, 1) := by decide +kernel
theorem dl_754 : decode code 754 = .ok (.aload_n 0, 1) := by decide +kernel
theorem dl_755 : decode code 755 = .ok (.iload_n 3, 1) := by decide +kernel
theorem dl_756 : decode code 756 = .ok (.iconst 3, 1) := by decide +kernel
theorem dl_757 : decode code 757 = .ok (.iadd, 1) := by decide +kernel
theorem dl_758 : decode code 758 = .ok (.iaload, 1) := by decide +kernel
theorem dl_759 : decode code 759 = .ok (.invokevirtual 100, 3) := by decide +kernel
theorem dl_762 : decode code 762 = .ok (.if_icmp .eq 179, 3) := by decide +kernel
theorem dl_765 : decode code 765 = .ok (.iconst 0, 1) := by decide +kernel
theorem dl_766 : decode code 766 = .ok (.ireturn, 1) := by decide +kernel
theorem dl_767 : decode code 767 = .ok (.aload_n 1, 1) := by decide +kernel
theorem dl_768 : decode code 768 = .ok (.aload_n 0, 1) := by decide +kernel
theorem dl_769 : decode code 769 = .ok (.iload_n 3, 1) := by decide +kernel
theorem dl_770 : decode code 770 = .ok (.iconst 1, 1) := by decide +kernel
theorem dl_771 : decode code 771 = .ok (.iadd, 1) := by decide +kernel
theorem dl_772 : decode code 772 = .ok (.iaload, 1) := by decide +kernel
theorem dl_773 : decode code 773 = .ok (.aload_n 0, 1) := by decide +kernel
theorem dl_774 : decode code 774 = .ok (.iload_n 3, 1) := by decide +kernel
theorem dl_775 : decode code 775 = .ok (.iconst 2, 1) := by decide +kernel
theorem dl_776 : decode code 776 = .ok (.iadd, 1) := by decide +kernel
theorem dl_777 : decode code 777 = .ok (.iaload, 1) := by decide +kernel
theorem dl_778 : decode code 778 = .ok (.aload_n 0, 1) := by decide +kernel
theorem dl_779 : decode code 779 = .ok (.iload_n 3, 1) := by decide +kernel
theorem dl_780 : decode code 780 = .ok (.iconst 3, 1) := by decide +kernel
theorem dl_781 : decode code 781 = .ok (.iadd, 1) := by decide +kernel
theorem dl_782 : decode code 782 = .ok (.iaload, 1) := by decide +kernel
theorem dl_783 : decode code 783 = .ok (.invokevirtual 101, 3) := by decide +kernel
theorem dl_786 : decode code 786 = .ok (.aload_n 2, 1) := by decide +kernel
theorem dl_787 : decode code 787 = .ok (.aload_n 0, 1) := by decide +kernel
theorem dl_788 : decode code 788 = .ok (.iload_n 3, 1) := by decide +kernel
theorem dl_789 : decode code 789 = .ok (.iconst 1, 1) := by decide +kernel
theorem dl_790 : decode code 790 = .ok (.iadd, 1) := by decide +kernel
theorem dl_791 : decode code 791 = .ok (.iaload, 1) := by decide +kernel
theorem dl_792 : decode code 792 = .ok (.aload_n 0, 1) := by decide +kernel
theorem dl_793 : decode code 793 = .ok (.iload_n 3, 1) := by decide +kernel
theorem dl_794 : decode code 794 = .ok (.iconst 2, 1) := by decide +kernel
theorem dl_795 : decode code 795 = .ok (.iadd, 1) := by decide +kernel
theorem dl_796 : decode code 796 = .ok (.iaload, 1) := by decide +kernel
theorem dl_797 : decode code 797 = .ok (.aload_n 0, 1) := by decide +kernel
theorem dl_798 : decode code 798 = .ok (.iload_n 3, 1) := by decide +kernel
theorem dl_799 : decode code 799 = .ok (.iconst 3, 1) := by decide +kernel
theorem dl_800 : decode code 800 = .ok (.iadd, 1) := by decide +kernel
theorem dl_801 : decode code 801 = .ok (.iaload, 1) := by decide +kernel
theorem dl_802 : decode code 802 = .ok (.invokevirtual 104, 3) := by decide +kernel
theorem dl_805 : decode code 805 = .ok (.if_icmp .eq 136, 3) := by decide +kernel
theorem dl_808 : decode code 808 = .ok (.iconst 0, 1) := by decide +kernel
theorem dl_809 : decode code 809 = .ok (.ireturn, 1) := by decide +kernel
theorem dl_810 : decode code 810 = .ok (.aload_n 1, 1) := by decide +kernel
theorem dl_811 : decode code 811 = .ok (.invokevirtual 105, 3) := by decide +kernel
theorem dl_814 : decode code 814 = .ok (.aload_n 2, 1) := by decide +kernel
theorem dl_815 : decode code 815 = .ok (.invokevirtual 108, 3) := by decide +kernel
theorem dl_818 : decode code 818 = .ok (.if_icmp .eq 123, 3) := by decide +kernel
theorem dl_821 : decode code 821 = .ok (.iconst 0, 1) := by decide +kernel
theorem dl_822 : decode code 822 = .ok (.ireturn, 1) := by decide +kernel
theorem dl_823 : decode code 823 = .ok (.aload_n 1, 1) := by decide +kernel
theorem dl_824 : decode code 824 = .ok (.aload_n 0, 1) := by decide +kernel
theorem dl_825 : decode code 825 = .ok (.iload_n 3, 1) := by decide +kernel
theorem dl_826 : decode code 826 = .ok (.iconst 1, 1) := by decide +kernel
theorem dl_827 : decode code 827 = .ok (.iadd, 1) := by decide +kernel
theorem dl_828 : decode code 828 = .ok (.iaload, 1) := by decide +kernel
theorem dl_829 : decode code 829 = .ok (.invokevirtual 109, 3) := by decide +kernel
theorem dl_832 : decode code 832 = .ok (.aload_n 2, 1) := by decide +kernel
theorem dl_833 : decode code 833 = .ok (.aload_n 0, 1) := by decide +kernel
theorem dl_834 : decode code 834 = .ok (.iload_n 3, 1) := by decide +kernel
theorem dl_835 : decode code 835 = .ok (.iconst 1, 1) := by decide +kernel
theorem dl_836 : decode code 836 = .ok (.iadd, 1) := by decide +kernel
theorem dl_837 : decode code 837 = .ok (.iaload, 1) := by decide +kernel
theorem dl_838 : decode code 838 = .ok (.invokevirtual 112, 3) := by decide +kernel
theorem dl_841 : decode code 841 = .ok (.if_icmp .eq 100, 3) := by decide +kernel
theorem dl_844 : decode code 844 = .ok (.iconst 0, 1) := by decide +kernel
theorem dl_845 : decode code 845 = .ok (.ireturn, 1) := by decide +kernel
theorem dl_846 : decode code 846 = .ok (.aload_n 1, 1) := by decide +kernel
theorem dl_847 : decode code 847 = .ok (.invokevirtual 113, 3) := by decide +kernel
theorem dl_850 : decode code 850 = .ok (.aload_n 2, 1) := by decide +kernel
theorem dl_851 : decode code 851 = .ok (.invokevirtual 116, 3) := by decide +kernel
theorem dl_854 : decode code 854 = .ok (.if_icmp .eq 87, 3) := by decide +kernel
theorem dl_857 : decode code 857 = .ok (.iconst 0, 1) := by decide +kernel
theorem dl_858 : decode code 858 = .ok (.ireturn, 1) := by decide +kernel
theorem dl_859 : decode code 859 = .ok (.aload_n 1, 1) := by decide +kernel
theorem dl_860 : decode code 860 = .ok (.aload_n 0, 1) := by decide +kernel
theorem dl_861 : decode code 861 = .ok (.iload_n 3, 1) := by decide +kernel
theorem dl_862 : decode code 862 = .ok (.iconst 1, 1) := by decide +kernel
theorem dl_863 : decode code 863 = .ok (.iadd, 1) := by decide +kernel
theorem dl_864 : decode code 864 = .ok (.iaload, 1) := by decide +kernel
theorem dl_865 : decode code 865 = .ok (.aload_n 0, 1) := by decide +kernel
theorem dl_866 : decode code 866 = .ok (.iload_n 3, 1) := by decide +kernel
theorem dl_867 : decode code 867 = .ok (.iconst 2, 1) := by decide +kernel
theorem dl_868 : decode code 868 = .ok (.iadd, 1) := by decide +kernel
theorem dl_869 : decode code 869 = .ok (.iaload, 1) := by decide +kernel
theorem dl_870 : decode code 870 = .ok (.invokevirtual 117, 3) := by decide +kernel
theorem dl_873 : decode code 873 = .ok (.aload_n 2, 1) := by decide +kernel
theorem dl_874 : decode code 874 = .ok (.aload_n 0, 1) := by decide +kernel
theorem dl_875 : decode code 875 = .ok (.iload_n 3, 1) := by decide +kernel
theorem dl_876 : decode code 876 = .ok (.iconst 1, 1) := by decide +kernel
theorem dl_877 : decode code 877 = .ok (.iadd, 1) := by decide +kernel
theorem dl_878 : decode code 878 = .ok (.iaload, 1) := by decide +kernel
theorem dl_879 : decode code 879 = .ok (.aload_n 0, 1) := by decide +kernel
theorem dl_880 : decode code 880 = .ok (.iload_n 3, 1) := by decide +kernel
theorem dl_881 : decode code 881 = .ok (.iconst 2, 1) := by decide +kernel
theorem dl_882 : decode code 882 = .ok (.iadd, 1) := by decide +kernel
theorem dl_883 : decode code 883 = .ok (.iaload, 1) := by decide +kernel
theorem dl_884 : decode code 884 = .ok (.invokevirtual 120, 3) := by decide +kernel
theorem dl_887 : decode code 887 = .ok (.if_icmp .eq 54, 3) := by decide +kernel
theorem dl_890 : decode code 890 = .ok (.iconst 0, 1) := by decide +kernel
theorem dl_891 : decode code 891 = .ok (.ireturn, 1) := by decide +kernel
theorem dl_892 : decode code 892 = .ok (.aload_n 1, 1) := by decide +kernel
theorem dl_893 : decode code 893 = .ok (.invokevirtual 121, 3) := by decide +kernel
theorem dl_896 : decode code 896 = .ok (.aload_n 2, 1) := by decide +kernel
theorem dl_897 : decode code 897 = .ok (.invokevirtual 124, 3) := by decide +kernel
theorem dl_900 : decode code 900 = .ok (.if_icmp .eq 41, 3) := by decide +kernel
theorem dl_903 : decode code 903 = .ok (.iconst 0, 1) := by decide +kernel
theorem dl_904 : decode code 904 = .ok (.ireturn, 1) := by decide +kernel
theorem dl_905 : decode code 905 = .ok (.aload_n 1, 1) := by decide +kernel
theorem dl_906 : decode code 906 = .ok (.invokevirtual 125, 3) := by decide +kernel
theorem dl_909 : decode code 909 = .ok (.aload_n 2, 1) := by decide +kernel
theorem dl_910 : decode code 910 = .ok (.invokevirtual 128, 3) := by decide +kernel
theorem dl_913 : decode code 913 = .ok (.if_icmp .eq 28, 3) := by decide +kernel
theorem dl_916 : decode code 916 = .ok (.iconst 0, 1) := by decide +kernel
theorem dl_917 : decode code 917 = .ok (.ireturn, 1) := by decide +kernel
theorem dl_918 : decode code 918 = .ok (.aload_n 1, 1) := by decide +kernel
theorem dl_919 : decode code 919 = .ok (.aload_n 0, 1) := by decide +kernel
theorem dl_920 : decode code 920 = .ok (.iload_n 3, 1) := by decide +kernel
theorem dl_921 : decode code 921 = .ok (.iconst 1, 1) := by decide +kernel
theorem dl_922 : decode code 922 = .ok (.iadd, 1) := by decide +kernel
theorem dl_923 : decode code 923 = .ok (.iaload, 1) := by decide +kernel
theorem dl_924 : decode code 924 = .ok (.invokevirtual 129, 3) := by decide +kernel
theorem dl_927 : decode code 927 = .ok (.aload_n 2, 1) := by decide +kernel
theorem dl_928 : decode code 928 = .ok (.aload_n 0, 1) := by decide +kernel
theorem dl_929 : decode code 929 = .ok (.iload_n 3, 1) := by decide +kernel
theorem dl_930 : decode code 930 = .ok (.iconst 1, 1) := by decide +kernel
theorem dl_931 : decode code 931 = .ok (.iadd, 1) := by decide +kernel
theorem dl_932 : decode code 932 = .ok (.iaload, 1) := by decide +kernel
theorem dl_933 : decode code 933 = .ok (.invokevirtual 132, 3) := by decide +kernel
theorem dl_936 : decode code 936 = .ok (.if_icmp .eq 5, 3) := by decide +kernel
theorem dl_939 : decode code 939 = .ok (.iconst 0, 1) := by decide +kernel
theorem dl_940 : decode code 940 = .ok (.ireturn, 1) := by decide +kernel
theorem dl_941 : decode code 941 = .ok (.iinc 3 4, 3) := by decide +kernel
theorem dl_944 : decode code 944 = .ok (.goto (-926), 3) := by decide +kernel
theorem dl_947 : decode code 947 = .ok (.iconst 1, 1) := by decide +kernel
theorem dl_948 : decode code 948 = .ok (.ireturn, 1) := by decide +kernel
theorem okS_nil : okS [] := fun _ h => by cases h
theorem law_in {i L : Nat} (hi : i + 4 ≤ L) (hL : L ≤ 2048) {a : Nat} (ha : a ≤ 3) : vp_in (nI i + nI a) L := by
  rw [nI_add]
  exact vp_of (vp_t (by omega) (by omega))
section Law
variable {p : Program} {l : Launch} {e : Env} {s : State} {m : MethodId} {below : List Frame} {meth : Method} {c : Code} {D : va_G} {cI cL cM : ClassId} {ad : Cd → Nat} {Q : State → Prop} {pc : Nat} {M : Mm} {b L : Nat} {xs : Nat → Int32}
theorem law_call {y idx pl g : Nat} (hy : y < 163) (hst : mst y = false) (C0 : lw_At p s m meth c b L xs) (hK : va_K D vwCl (tysO cI cL cM) s) (hE : Ext ad (fun q : Nat => s.heap.size ≤ q) s s.heap) (hw : lw_tbl[pl]? = some (Cond.methodLink R_law idx (mN y))) (hd : decode code pc = .ok (.invokevirtual idx, 3)) (hc : (g, cKi (mcl y), 0) ∈ cellsL) {as : List AV} {v : Int32} {M' : Mm} (hlen : as.length = mnp y) (hoS : okS as) (ec : call y (aR g (cKi (mcl y)) 0 :: as) M = some (some v, M')) (hlv : lvl y < 11 ∧ 8 + (mxL y + 11) + (32 * lvl y + 64) ≤ 502) {st rest : List Value} (hstk : st = (as.map (cv ad)).reverse ++ .ref (ad (g, cKi (mcl y), 0)) :: rest) (h8 : (rest.map fun v => v.category).sum ≤ 8) {H : Heap} {locs : List Loc} {sl : Array Slot} (hsz : sl.size = 4) (hP : va_P D vwCl (wsO cI cL cM ad M) H) (hD : va_D (fun q : Nat => s.heap.size ≤ q) (wsO cI cL cM ad M)) (hS : va_S (fun q : Nat => s.heap.size ≤ q) s.heap H locs)
    (kk : ∀ (H1 : Heap) (locs1 : List Loc), va_P D vwCl (wsO cI cL cM ad M') H1 → va_D (fun q : Nat => s.heap.size ≤ q) (wsO cI cL cM ad M') → va_S (fun q : Nat => s.heap.size ≤ q) s.heap H1 locs1 → W p l e room_1 s m #[Value.ref b] below meth c H1 locs1 600000 7302250 Q (F0 m (pc + 3) sl (.int v :: rest))) : W p l e room_1 s m #[Value.ref b] below meth c H locs 600000 7302250 Q (F0 m pc sl st) := by
  obtain ⟨hx, hb, hr, hml, hown, hts0, hX, hbl, hlocks, hgv⟩ := C0
  have hts : ∀ w ∈ gt, w.before #[Value.ref b] s = true := fun w hw => hts0 w (List.mem_filter.mp hw).1
  have hA : ∀ q : Nat, s.heap.size ≤ q → (fun q : Nat => s.heap.size ≤ q) q := fun _ h => h
  have hM := snd_all (ix_met l) 11 y hy hlv.1 D cI cL cM ad (aR g (cKi (mcl y)) 0 :: as) M M' (some v) H.size ec (okS_cons (okV_r (Or.inl hc)) hoS) (by rw [List.length_cons, hlen, hst]; rfl)
  obtain ⟨m1, m2, m3⟩ := mFacts hy
  simp only [mOk, hst, Bool.false_eq_true, if_false, Bool.false_or, Bool.and_eq_true, decide_eq_true_eq] at m1
  simp only [mOd, Bool.and_eq_true, decide_eq_true_eq] at m2
  simp only [mOn, hst, Bool.false_eq_true, if_false, Bool.and_eq_true, decide_eq_true_eq] at m3
  have hroom : (rmL (lvl y)).frames + 1 ≤ room_1.frames ∧ 8 + (mxL y + 11) + (rmL (lvl y)).locals ≤ room_1.locals := by
    constructor
    · show lvl y + 2 + 1 ≤ 13; omega
    · exact hlv.2
  have hini : (Cond.initialized (mN y).cls).before #[Value.ref b] s = true := hts _ (gt_of m1.2 rfl)
  have hdd : (mN y).cls ≠ "java/lang/invoke/MethodHandle" ∧ (mN y).cls ≠ "java/lang/invoke/VarHandle" ∧ (parseMethodDescriptor (mN y).desc).map (fun d => d.parameters.length) = some (mnp y) := ⟨m2.1.2, m2.2, m2.1.1.1.2⟩
  have hci : mcl y < 7 := m3.1.1.1.1.2
  obtain ⟨q0, hq, hws⟩ := ws_in (cI := cI) (cL := cL) (cM := cM) (ad := ad) (M := M) hc
  rw [ent_obj hci] at hws
  have hcls : (mN y).cls = clR (mcl y) := m2.1.1.1.1
  have hG : GoodIn gt (wsV R_law idx (mN y).cls (mN y) (wsM y)) := by
    intro w hw2
    unfold wsV at hw2
    rcases List.mem_append.mp hw2 with h9 | h9
    · have h8' : w ∈ gt := by
        rcases List.mem_cons.mp h9 with rfl | h9
        · exact gt_of hw rfl
        · rcases List.mem_cons.mp h9 with rfl | h9
          · exact gt_of m1.1.1 rfl
          · rcases List.mem_cons.mp h9 with rfl | h9
            · exact gt_of m1.1.2 rfl
            · rcases List.mem_cons.mp h9 with rfl | h9
              · exact gt_of m1.2 rfl
              · cases h9
      exact ⟨h8', good_of_word (gt_good w h8')⟩
    · exact good_M hy w h9
  have hrc := va_recv hK hP (vwCl_at _ hci) hws
  rw [← hcls] at hrc
  have hF := free_of (s := s) (A := (fun q : Nat => s.heap.size ≤ q)) hA hD hS
  refine va_calli (S := Mm) (a := ((aR g (cKi (mcl y)) 0 :: as).map (cv ad)).toArray) (va_runV (Ts := gt) (nL := 4) (As := as.map (cv ad)) (rest := rest) ⟨hx, hb, hml, hown, hts⟩ hM (cwV (mnp y) hts hG rfl rfl rfl ⟨rfl, hdd⟩ hroom) ⟨Pre.blind, hrc, fun U hU hW => ⟨rfl, pre_of (s := s) (A := (fun q : Nat => s.heap.size ≤ q)) hK hA hE hP hD hS U hU hW⟩⟩ rfl (by rw [List.length_map]; exact hlen) hsz hstk (lv_room h8) hd ⟨Nat.le_refl _, Nat.le_refl _⟩) hS (fun z _ hz => hF z hz) hF (fun r u t H1 locs1 ht hvm hw hB _ _ hS1 => ?_)
  obtain ⟨rfl, rfl⟩ := hw
  subst ht
  exact kk _ locs1 hB (D_to hD _) hS1
theorem case_0 (l : Launch) {i : Nat} (hi : i + 4 ≤ L) (hL : L ≤ 2048) (C0 : lw_At p s m meth c b L xs) (hK : va_K D vwCl (tysO cI cL cM) s) (hE : Ext ad (fun q : Nat => s.heap.size ≤ q) s s.heap) {H : Heap} {locs : List Loc} {ls : Array Slot} (hl : lv_has ls 4 [(0, .ref b), (1, .ref (ad (0, 7, 0))), (2, .ref (ad (4, 12, 0))), (3, .int (nI i))]) (hT : TS M) (hP : va_P D vwCl (wsO cI cL cM ad M) H) (hD : va_D (fun q : Nat => s.heap.size ≤ q) (wsO cI cL cM ad M)) (hS : va_S (fun q : Nat => s.heap.size ≤ q) s.heap H locs) (J : ∀ (M : Mm) (H : Heap) (locs : List Loc), TS M → va_P D vwCl (wsO cI cL cM ad M) H → va_D (fun q : Nat => s.heap.size ≤ q) (wsO cI cL cM ad M) → va_S (fun q : Nat => s.heap.size ≤ q) s.heap H locs → W p l e room_1 s m #[Value.ref b] below meth c H locs 600000 7302250 Q (F0 m 941 ls [])) : W p l e room_1 s m #[Value.ref b] below meth c H locs 600000 7302250 Q (F0 m 164 ls []) := by
  obtain ⟨hx, hb, hr, hml, hown, hts0, hX, hbl, hlocks, hgv⟩ := id C0
  have hbA : ¬ (fun q : Nat => s.heap.size ≤ q) b := Nat.not_le.mpr hbl
  refine lv_aload_n hx hb dl_164 rfl (lv_at hl 1 rfl) ?_
  refine lv_aload_n hx hb dl_165 rfl (lv_at hl 0 rfl) ?_
  refine lv_iload_n hx hb dl_166 rfl (lv_at hl 3 rfl) ?_
  refine lv_iconst (v := nI 1) hx hb dl_167 (by decide) ?_
  refine lv_iadd hx hb dl_168 ?_
  refine va_sld hx hb hX hbl hbA hS (law_in hi hL (a := 1) (by decide)) dl_169 ?_
  obtain ⟨v, M1, M2, e1, e2, t2⟩ := ans_letter (xs (nI i + nI 1).toNatClampNeg) M hT
  refine law_call (D := D) (cI := cI) (cL := cL) (cM := cM) (ad := ad) (y := 37) (idx := 13) (pl := 317) (g := 0) (as := [aI (xs (nI i + nI 1).toNatClampNeg)]) (rest := []) (by decide) rfl C0 hK hE (by decide +kernel) dl_170 (by decide +kernel) rfl (okS_cons (okV_i _) okS_nil) e1 (by decide +kernel) rfl (Nat.le_of_ble_eq_true rfl) hl.1 hP hD hS (fun H locs hP hD hS => ?_)
  refine lv_aload_n hx hb dl_173 rfl (lv_at hl 2 rfl) ?_
  refine lv_aload_n hx hb dl_174 rfl (lv_at hl 0 rfl) ?_
  refine lv_iload_n hx hb dl_175 rfl (lv_at hl 3 rfl) ?_
  refine lv_iconst (v := nI 1) hx hb dl_176 (by decide) ?_
  refine lv_iadd hx hb dl_177 ?_
  refine va_sld hx hb hX hbl hbA hS (law_in hi hL (a := 1) (by decide)) dl_178 ?_
  refine law_call (D := D) (cI := cI) (cL := cL) (cM := cM) (ad := ad) (y := 88) (idx := 17) (pl := 891) (g := 4) (as := [aI (xs (nI i + nI 1).toNatClampNeg)]) (rest := [.int v]) (by decide) rfl C0 hK hE (by decide +kernel) dl_179 (by decide +kernel) rfl (okS_cons (okV_i _) okS_nil) e2 (by decide +kernel) rfl (Nat.le_of_ble_eq_true rfl) hl.1 hP hD hS (fun H locs hP hD hS => ?_)
  refine lv_icmp_eq (tgt := 941) hx hb dl_182 (by decide) (fun _ => ?_) (fun h => absurd rfl h)
  exact J M2 _ _ t2 hP hD hS
theorem case_1 (l : Launch) {i : Nat} (hi : i + 4 ≤ L) (hL : L ≤ 2048) (C0 : lw_At p s m meth c b L xs) (hK : va_K D vwCl (tysO cI cL cM) s) (hE : Ext ad (fun q : Nat => s.heap.size ≤ q) s s.heap) {H : Heap} {locs : List Loc} {ls : Array Slot} (hl : lv_has ls 4 [(0, .ref b), (1, .ref (ad (0, 7, 0))), (2, .ref (ad (4, 12, 0))), (3, .int (nI i))]) (hT : TS M) (hP : va_P D vwCl (wsO cI cL cM ad M) H) (hD : va_D (fun q : Nat => s.heap.size ≤ q) (wsO cI cL cM ad M)) (hS : va_S (fun q : Nat => s.heap.size ≤ q) s.heap H locs) (J : ∀ (M : Mm) (H : Heap) (locs : List Loc), TS M → va_P D vwCl (wsO cI cL cM ad M) H → va_D (fun q : Nat => s.heap.size ≤ q) (wsO cI cL cM ad M) → va_S (fun q : Nat => s.heap.size ≤ q) s.heap H locs → W p l e room_1 s m #[Value.ref b] below meth c H locs 600000 7302250 Q (F0 m 941 ls [])) : W p l e room_1 s m #[Value.ref b] below meth c H locs 600000 7302250 Q (F0 m 187 ls []) := by
  obtain ⟨hx, hb, hr, hml, hown, hts0, hX, hbl, hlocks, hgv⟩ := id C0
  have hbA : ¬ (fun q : Nat => s.heap.size ≤ q) b := Nat.not_le.mpr hbl
  refine lv_aload_n hx hb dl_187 rfl (lv_at hl 1 rfl) ?_
  obtain ⟨v, M1, M2, e1, e2, t2⟩ := ans_site M hT
  refine law_call (D := D) (cI := cI) (cL := cL) (cM := cM) (ad := ad) (y := 38) (idx := 18) (pl := 329) (g := 0) (as := []) (rest := []) (by decide) rfl C0 hK hE (by decide +kernel) dl_188 (by decide +kernel) rfl okS_nil e1 (by decide +kernel) rfl (Nat.le_of_ble_eq_true rfl) hl.1 hP hD hS (fun H locs hP hD hS => ?_)
  refine lv_aload_n hx hb dl_191 rfl (lv_at hl 2 rfl) ?_
  refine law_call (D := D) (cI := cI) (cL := cL) (cM := cM) (ad := ad) (y := 100) (idx := 22) (pl := 902) (g := 4) (as := []) (rest := [.int v]) (by decide) rfl C0 hK hE (by decide +kernel) dl_192 (by decide +kernel) rfl okS_nil e2 (by decide +kernel) rfl (Nat.le_of_ble_eq_true rfl) hl.1 hP hD hS (fun H locs hP hD hS => ?_)
  refine lv_icmp_eq (tgt := 941) hx hb dl_195 (by decide) (fun _ => ?_) (fun h => absurd rfl h)
  exact J M2 _ _ t2 hP hD hS
theorem case_2 (l : Launch) {i : Nat} (hi : i + 4 ≤ L) (hL : L ≤ 2048) (C0 : lw_At p s m meth c b L xs) (hK : va_K D vwCl (tysO cI cL cM) s) (hE : Ext ad (fun q : Nat => s.heap.size ≤ q) s s.heap) {H : Heap} {locs : List Loc} {ls : Array Slot} (hl : lv_has ls 4 [(0, .ref b), (1, .ref (ad (0, 7, 0))), (2, .ref (ad (4, 12, 0))), (3, .int (nI i))]) (hT : TS M) (hP : va_P D vwCl (wsO cI cL cM ad M) H) (hD : va_D (fun q : Nat => s.heap.size ≤ q) (wsO cI cL cM ad M)) (hS : va_S (fun q : Nat => s.heap.size ≤ q) s.heap H locs) (J : ∀ (M : Mm) (H : Heap) (locs : List Loc), TS M → va_P D vwCl (wsO cI cL cM ad M) H → va_D (fun q : Nat => s.heap.size ≤ q) (wsO cI cL cM ad M) → va_S (fun q : Nat => s.heap.size ≤ q) s.heap H locs → W p l e room_1 s m #[Value.ref b] below meth c H locs 600000 7302250 Q (F0 m 941 ls [])) : W p l e room_1 s m #[Value.ref b] below meth c H locs 600000 7302250 Q (F0 m 200 ls []) := by
  obtain ⟨hx, hb, hr, hml, hown, hts0, hX, hbl, hlocks, hgv⟩ := id C0
  have hbA : ¬ (fun q : Nat => s.heap.size ≤ q) b := Nat.not_le.mpr hbl
  refine lv_aload_n hx hb dl_200 rfl (lv_at hl 1 rfl) ?_
  refine lv_aload_n hx hb dl_201 rfl (lv_at hl 0 rfl) ?_
  refine lv_iload_n hx hb dl_202 rfl (lv_at hl 3 rfl) ?_
  refine lv_iconst (v := nI 1) hx hb dl_203 (by decide) ?_
  refine lv_iadd hx hb dl_204 ?_
  refine va_sld hx hb hX hbl hbA hS (law_in hi hL (a := 1) (by decide)) dl_205 ?_
  refine lv_aload_n hx hb dl_206 rfl (lv_at hl 0 rfl) ?_
  refine lv_iload_n hx hb dl_207 rfl (lv_at hl 3 rfl) ?_
  refine lv_iconst (v := nI 2) hx hb dl_208 (by decide) ?_
  refine lv_iadd hx hb dl_209 ?_
  refine va_sld hx hb hX hbl hbA hS (law_in hi hL (a := 2) (by decide)) dl_210 ?_
  obtain ⟨v, M1, M2, e1, e2, t2⟩ := ans_layer (xs (nI i + nI 1).toNatClampNeg) (xs (nI i + nI 2).toNatClampNeg) M hT
  refine law_call (D := D) (cI := cI) (cL := cL) (cM := cM) (ad := ad) (y := 39) (idx := 23) (pl := 583) (g := 0) (as := [aI (xs (nI i + nI 1).toNatClampNeg), aI (xs (nI i + nI 2).toNatClampNeg)]) (rest := []) (by decide) rfl C0 hK hE (by decide +kernel) dl_211 (by decide +kernel) rfl (okS_cons (okV_i _) (okS_cons (okV_i _) okS_nil)) e1 (by decide +kernel) rfl (Nat.le_of_ble_eq_true rfl) hl.1 hP hD hS (fun H locs hP hD hS => ?_)
  refine lv_aload_n hx hb dl_214 rfl (lv_at hl 2 rfl) ?_
  refine lv_aload_n hx hb dl_215 rfl (lv_at hl 0 rfl) ?_
  refine lv_iload_n hx hb dl_216 rfl (lv_at hl 3 rfl) ?_
  refine lv_iconst (v := nI 1) hx hb dl_217 (by decide) ?_
  refine lv_iadd hx hb dl_218 ?_
  refine va_sld hx hb hX hbl hbA hS (law_in hi hL (a := 1) (by decide)) dl_219 ?_
  refine lv_aload_n hx hb dl_220 rfl (lv_at hl 0 rfl) ?_
  refine lv_iload_n hx hb dl_221 rfl (lv_at hl 3 rfl) ?_
  refine lv_iconst (v := nI 2) hx hb dl_222 (by decide) ?_
  refine lv_iadd hx hb dl_223 ?_
  refine va_sld hx hb hX hbl hbA hS (law_in hi hL (a := 2) (by decide)) dl_224 ?_
  refine law_call (D := D) (cI := cI) (cL := cL) (cM := cM) (ad := ad) (y := 131) (idx := 27) (pl := 1067) (g := 4) (as := [aI (xs (nI i + nI 1).toNatClampNeg), aI (xs (nI i + nI 2).toNatClampNeg)]) (rest := [.int v]) (by decide) rfl C0 hK hE (by decide +kernel) dl_225 (by decide +kernel) rfl (okS_cons (okV_i _) (okS_cons (okV_i _) okS_nil)) e2 (by decide +kernel) rfl (Nat.le_of_ble_eq_true rfl) hl.1 hP hD hS (fun H locs hP hD hS => ?_)
  refine lv_icmp_eq (tgt := 941) hx hb dl_228 (by decide) (fun _ => ?_) (fun h => absurd rfl h)
  exact J M2 _ _ t2 hP hD hS
theorem case_3 (l : Launch) {i : Nat} (hi : i + 4 ≤ L) (hL : L ≤ 2048) (C0 : lw_At p s m meth c b L xs) (hK : va_K D vwCl (tysO cI cL cM) s) (hE : Ext ad (fun q : Nat => s.heap.size ≤ q) s s.heap) {H : Heap} {locs : List Loc} {ls : Array Slot} (hl : lv_has ls 4 [(0, .ref b), (1, .ref (ad (0, 7, 0))), (2, .ref (ad (4, 12, 0))), (3, .int (nI i))]) (hT : TS M) (hP : va_P D vwCl (wsO cI cL cM ad M) H) (hD : va_D (fun q : Nat => s.heap.size ≤ q) (wsO cI cL cM ad M)) (hS : va_S (fun q : Nat => s.heap.size ≤ q) s.heap H locs) (J : ∀ (M : Mm) (H : Heap) (locs : List Loc), TS M → va_P D vwCl (wsO cI cL cM ad M) H → va_D (fun q : Nat => s.heap.size ≤ q) (wsO cI cL cM ad M) → va_S (fun q : Nat => s.heap.size ≤ q) s.heap H locs → W p l e room_1 s m #[Value.ref b] below meth c H locs 600000 7302250 Q (F0 m 941 ls [])) : W p l e room_1 s m #[Value.ref b] below meth c H locs 600000 7302250 Q (F0 m 233 ls []) := by
  obtain ⟨hx, hb, hr, hml, hown, hts0, hX, hbl, hlocks, hgv⟩ := id C0
  have hbA : ¬ (fun q : Nat => s.heap.size ≤ q) b := Nat.not_le.mpr hbl
  refine lv_aload_n hx hb dl_233 rfl (lv_at hl 1 rfl) ?_
  refine lv_aload_n hx hb dl_234 rfl (lv_at hl 0 rfl) ?_
  refine lv_iload_n hx hb dl_235 rfl (lv_at hl 3 rfl) ?_
  refine lv_iconst (v := nI 1) hx hb dl_236 (by decide) ?_
  refine lv_iadd hx hb dl_237 ?_
  refine va_sld hx hb hX hbl hbA hS (law_in hi hL (a := 1) (by decide)) dl_238 ?_
  refine lv_aload_n hx hb dl_239 rfl (lv_at hl 0 rfl) ?_
  refine lv_iload_n hx hb dl_240 rfl (lv_at hl 3 rfl) ?_
  refine lv_iconst (v := nI 2) hx hb dl_241 (by decide) ?_
  refine lv_iadd hx hb dl_242 ?_
  refine va_sld hx hb hX hbl hbA hS (law_in hi hL (a := 2) (by decide)) dl_243 ?_
  refine lv_aload_n hx hb dl_244 rfl (lv_at hl 0 rfl) ?_
  refine lv_iload_n hx hb dl_245 rfl (lv_at hl 3 rfl) ?_
  refine lv_iconst (v := nI 3) hx hb dl_246 (by decide) ?_
  refine lv_iadd hx hb dl_247 ?_
  refine va_sld hx hb hX hbl hbA hS (law_in hi hL (a := 3) (by decide)) dl_248 ?_
  obtain ⟨v, M1, M2, e1, e2, t2⟩ := ans_put (xs (nI i + nI 1).toNatClampNeg) (xs (nI i + nI 2).toNatClampNeg) (xs (nI i + nI 3).toNatClampNeg) M hT
  refine law_call (D := D) (cI := cI) (cL := cL) (cM := cM) (ad := ad) (y := 40) (idx := 28) (pl := 589) (g := 0) (as := [aI (xs (nI i + nI 1).toNatClampNeg), aI (xs (nI i + nI 2).toNatClampNeg), aI (xs (nI i + nI 3).toNatClampNeg)]) (rest := []) (by decide) rfl C0 hK hE (by decide +kernel) dl_249 (by decide +kernel) rfl (okS_cons (okV_i _) (okS_cons (okV_i _) (okS_cons (okV_i _) okS_nil))) e1 (by decide +kernel) rfl (Nat.le_of_ble_eq_true rfl) hl.1 hP hD hS (fun H locs hP hD hS => ?_)
  refine lv_aload_n hx hb dl_252 rfl (lv_at hl 2 rfl) ?_
  refine lv_aload_n hx hb dl_253 rfl (lv_at hl 0 rfl) ?_
  refine lv_iload_n hx hb dl_254 rfl (lv_at hl 3 rfl) ?_
  refine lv_iconst (v := nI 1) hx hb dl_255 (by decide) ?_
  refine lv_iadd hx hb dl_256 ?_
  refine va_sld hx hb hX hbl hbA hS (law_in hi hL (a := 1) (by decide)) dl_257 ?_
  refine lv_aload_n hx hb dl_258 rfl (lv_at hl 0 rfl) ?_
  refine lv_iload_n hx hb dl_259 rfl (lv_at hl 3 rfl) ?_
  refine lv_iconst (v := nI 2) hx hb dl_260 (by decide) ?_
  refine lv_iadd hx hb dl_261 ?_
  refine va_sld hx hb hX hbl hbA hS (law_in hi hL (a := 2) (by decide)) dl_262 ?_
  refine lv_aload_n hx hb dl_263 rfl (lv_at hl 0 rfl) ?_
  refine lv_iload_n hx hb dl_264 rfl (lv_at hl 3 rfl) ?_
  refine lv_iconst (v := nI 3) hx hb dl_265 (by decide) ?_
  refine lv_iadd hx hb dl_266 ?_
  refine va_sld hx hb hX hbl hbA hS (law_in hi hL (a := 3) (by decide)) dl_267 ?_
  refine law_call (D := D) (cI := cI) (cL := cL) (cM := cM) (ad := ad) (y := 132) (idx := 32) (pl := 1075) (g := 4) (as := [aI (xs (nI i + nI 1).toNatClampNeg), aI (xs (nI i + nI 2).toNatClampNeg), aI (xs (nI i + nI 3).toNatClampNeg)]) (rest := [.int v]) (by decide) rfl C0 hK hE (by decide +kernel) dl_268 (by decide +kernel) rfl (okS_cons (okV_i _) (okS_cons (okV_i _) (okS_cons (okV_i _) okS_nil))) e2 (by decide +kernel) rfl (Nat.le_of_ble_eq_true rfl) hl.1 hP hD hS (fun H locs hP hD hS => ?_)
  refine lv_icmp_eq (tgt := 941) hx hb dl_271 (by decide) (fun _ => ?_) (fun h => absurd rfl h)
  exact J M2 _ _ t2 hP hD hS
theorem case_4 (l : Launch) {i : Nat} (hi : i + 4 ≤ L) (hL : L ≤ 2048) (C0 : lw_At p s m meth c b L xs) (hK : va_K D vwCl (tysO cI cL cM) s) (hE : Ext ad (fun q : Nat => s.heap.size ≤ q) s s.heap) {H : Heap} {locs : List Loc} {ls : Array Slot} (hl : lv_has ls 4 [(0, .ref b), (1, .ref (ad (0, 7, 0))), (2, .ref (ad (4, 12, 0))), (3, .int (nI i))]) (hT : TS M) (hP : va_P D vwCl (wsO cI cL cM ad M) H) (hD : va_D (fun q : Nat => s.heap.size ≤ q) (wsO cI cL cM ad M)) (hS : va_S (fun q : Nat => s.heap.size ≤ q) s.heap H locs) (J : ∀ (M : Mm) (H : Heap) (locs : List Loc), TS M → va_P D vwCl (wsO cI cL cM ad M) H → va_D (fun q : Nat => s.heap.size ≤ q) (wsO cI cL cM ad M) → va_S (fun q : Nat => s.heap.size ≤ q) s.heap H locs → W p l e room_1 s m #[Value.ref b] below meth c H locs 600000 7302250 Q (F0 m 941 ls [])) : W p l e room_1 s m #[Value.ref b] below meth c H locs 600000 7302250 Q (F0 m 276 ls []) := by
  obtain ⟨hx, hb, hr, hml, hown, hts0, hX, hbl, hlocks, hgv⟩ := id C0
  have hbA : ¬ (fun q : Nat => s.heap.size ≤ q) b := Nat.not_le.mpr hbl
  refine lv_aload_n hx hb dl_276 rfl (lv_at hl 1 rfl) ?_
  refine lv_aload_n hx hb dl_277 rfl (lv_at hl 0 rfl) ?_
  refine lv_iload_n hx hb dl_278 rfl (lv_at hl 3 rfl) ?_
  refine lv_iconst (v := nI 1) hx hb dl_279 (by decide) ?_
  refine lv_iadd hx hb dl_280 ?_
  refine va_sld hx hb hX hbl hbA hS (law_in hi hL (a := 1) (by decide)) dl_281 ?_
  refine lv_aload_n hx hb dl_282 rfl (lv_at hl 0 rfl) ?_
  refine lv_iload_n hx hb dl_283 rfl (lv_at hl 3 rfl) ?_
  refine lv_iconst (v := nI 2) hx hb dl_284 (by decide) ?_
  refine lv_iadd hx hb dl_285 ?_
  refine va_sld hx hb hX hbl hbA hS (law_in hi hL (a := 2) (by decide)) dl_286 ?_
  obtain ⟨v, M1, M2, e1, e2, t2⟩ := ans_set (xs (nI i + nI 1).toNatClampNeg) (xs (nI i + nI 2).toNatClampNeg) M hT
  refine law_call (D := D) (cI := cI) (cL := cL) (cM := cM) (ad := ad) (y := 41) (idx := 33) (pl := 593) (g := 0) (as := [aI (xs (nI i + nI 1).toNatClampNeg), aI (xs (nI i + nI 2).toNatClampNeg)]) (rest := []) (by decide) rfl C0 hK hE (by decide +kernel) dl_287 (by decide +kernel) rfl (okS_cons (okV_i _) (okS_cons (okV_i _) okS_nil)) e1 (by decide +kernel) rfl (Nat.le_of_ble_eq_true rfl) hl.1 hP hD hS (fun H locs hP hD hS => ?_)
  refine lv_aload_n hx hb dl_290 rfl (lv_at hl 2 rfl) ?_
  refine lv_aload_n hx hb dl_291 rfl (lv_at hl 0 rfl) ?_
  refine lv_iload_n hx hb dl_292 rfl (lv_at hl 3 rfl) ?_
  refine lv_iconst (v := nI 1) hx hb dl_293 (by decide) ?_
  refine lv_iadd hx hb dl_294 ?_
  refine va_sld hx hb hX hbl hbA hS (law_in hi hL (a := 1) (by decide)) dl_295 ?_
  refine lv_aload_n hx hb dl_296 rfl (lv_at hl 0 rfl) ?_
  refine lv_iload_n hx hb dl_297 rfl (lv_at hl 3 rfl) ?_
  refine lv_iconst (v := nI 2) hx hb dl_298 (by decide) ?_
  refine lv_iadd hx hb dl_299 ?_
  refine va_sld hx hb hX hbl hbA hS (law_in hi hL (a := 2) (by decide)) dl_300 ?_
  refine law_call (D := D) (cI := cI) (cL := cL) (cM := cM) (ad := ad) (y := 133) (idx := 36) (pl := 1079) (g := 4) (as := [aI (xs (nI i + nI 1).toNatClampNeg), aI (xs (nI i + nI 2).toNatClampNeg)]) (rest := [.int v]) (by decide) rfl C0 hK hE (by decide +kernel) dl_301 (by decide +kernel) rfl (okS_cons (okV_i _) (okS_cons (okV_i _) okS_nil)) e2 (by decide +kernel) rfl (Nat.le_of_ble_eq_true rfl) hl.1 hP hD hS (fun H locs hP hD hS => ?_)
  refine lv_icmp_eq (tgt := 941) hx hb dl_304 (by decide) (fun _ => ?_) (fun h => absurd rfl h)
  exact J M2 _ _ t2 hP hD hS
theorem case_5 (l : Launch) {i : Nat} (hi : i + 4 ≤ L) (hL : L ≤ 2048) (C0 : lw_At p s m meth c b L xs) (hK : va_K D vwCl (tysO cI cL cM) s) (hE : Ext ad (fun q : Nat => s.heap.size ≤ q) s s.heap) {H : Heap} {locs : List Loc} {ls : Array Slot} (hl : lv_has ls 4 [(0, .ref b), (1, .ref (ad (0, 7, 0))), (2, .ref (ad (4, 12, 0))), (3, .int (nI i))]) (hT : TS M) (hP : va_P D vwCl (wsO cI cL cM ad M) H) (hD : va_D (fun q : Nat => s.heap.size ≤ q) (wsO cI cL cM ad M)) (hS : va_S (fun q : Nat => s.heap.size ≤ q) s.heap H locs) (J : ∀ (M : Mm) (H : Heap) (locs : List Loc), TS M → va_P D vwCl (wsO cI cL cM ad M) H → va_D (fun q : Nat => s.heap.size ≤ q) (wsO cI cL cM ad M) → va_S (fun q : Nat => s.heap.size ≤ q) s.heap H locs → W p l e room_1 s m #[Value.ref b] below meth c H locs 600000 7302250 Q (F0 m 941 ls [])) : W p l e room_1 s m #[Value.ref b] below meth c H locs 600000 7302250 Q (F0 m 309 ls []) := by
  obtain ⟨hx, hb, hr, hml, hown, hts0, hX, hbl, hlocks, hgv⟩ := id C0
  have hbA : ¬ (fun q : Nat => s.heap.size ≤ q) b := Nat.not_le.mpr hbl
  refine lv_aload_n hx hb dl_309 rfl (lv_at hl 1 rfl) ?_
  refine lv_aload_n hx hb dl_310 rfl (lv_at hl 0 rfl) ?_
  refine lv_iload_n hx hb dl_311 rfl (lv_at hl 3 rfl) ?_
  refine lv_iconst (v := nI 1) hx hb dl_312 (by decide) ?_
  refine lv_iadd hx hb dl_313 ?_
  refine va_sld hx hb hX hbl hbA hS (law_in hi hL (a := 1) (by decide)) dl_314 ?_
  obtain ⟨v, M1, M2, e1, e2, t2⟩ := ans_go (xs (nI i + nI 1).toNatClampNeg) M hT
  refine law_call (D := D) (cI := cI) (cL := cL) (cM := cM) (ad := ad) (y := 42) (idx := 37) (pl := 601) (g := 0) (as := [aI (xs (nI i + nI 1).toNatClampNeg)]) (rest := []) (by decide) rfl C0 hK hE (by decide +kernel) dl_315 (by decide +kernel) rfl (okS_cons (okV_i _) okS_nil) e1 (by decide +kernel) rfl (Nat.le_of_ble_eq_true rfl) hl.1 hP hD hS (fun H locs hP hD hS => ?_)
  refine lv_aload_n hx hb dl_318 rfl (lv_at hl 2 rfl) ?_
  refine lv_aload_n hx hb dl_319 rfl (lv_at hl 0 rfl) ?_
  refine lv_iload_n hx hb dl_320 rfl (lv_at hl 3 rfl) ?_
  refine lv_iconst (v := nI 1) hx hb dl_321 (by decide) ?_
  refine lv_iadd hx hb dl_322 ?_
  refine va_sld hx hb hX hbl hbA hS (law_in hi hL (a := 1) (by decide)) dl_323 ?_
  refine law_call (D := D) (cI := cI) (cL := cL) (cM := cM) (ad := ad) (y := 134) (idx := 40) (pl := 1083) (g := 4) (as := [aI (xs (nI i + nI 1).toNatClampNeg)]) (rest := [.int v]) (by decide) rfl C0 hK hE (by decide +kernel) dl_324 (by decide +kernel) rfl (okS_cons (okV_i _) okS_nil) e2 (by decide +kernel) rfl (Nat.le_of_ble_eq_true rfl) hl.1 hP hD hS (fun H locs hP hD hS => ?_)
  refine lv_icmp_eq (tgt := 941) hx hb dl_327 (by decide) (fun _ => ?_) (fun h => absurd rfl h)
  exact J M2 _ _ t2 hP hD hS
theorem case_6 (l : Launch) {i : Nat} (hi : i + 4 ≤ L) (hL : L ≤ 2048) (C0 : lw_At p s m meth c b L xs) (hK : va_K D vwCl (tysO cI cL cM) s) (hE : Ext ad (fun q : Nat => s.heap.size ≤ q) s s.heap) {H : Heap} {locs : List Loc} {ls : Array Slot} (hl : lv_has ls 4 [(0, .ref b), (1, .ref (ad (0, 7, 0))), (2, .ref (ad (4, 12, 0))), (3, .int (nI i))]) (hT : TS M) (hP : va_P D vwCl (wsO cI cL cM ad M) H) (hD : va_D (fun q : Nat => s.heap.size ≤ q) (wsO cI cL cM ad M)) (hS : va_S (fun q : Nat => s.heap.size ≤ q) s.heap H locs) (J : ∀ (M : Mm) (H : Heap) (locs : List Loc), TS M → va_P D vwCl (wsO cI cL cM ad M) H → va_D (fun q : Nat => s.heap.size ≤ q) (wsO cI cL cM ad M) → va_S (fun q : Nat => s.heap.size ≤ q) s.heap H locs → W p l e room_1 s m #[Value.ref b] below meth c H locs 600000 7302250 Q (F0 m 941 ls [])) : W p l e room_1 s m #[Value.ref b] below meth c H locs 600000 7302250 Q (F0 m 332 ls []) := by
  obtain ⟨hx, hb, hr, hml, hown, hts0, hX, hbl, hlocks, hgv⟩ := id C0
  have hbA : ¬ (fun q : Nat => s.heap.size ≤ q) b := Nat.not_le.mpr hbl
  refine lv_aload_n hx hb dl_332 rfl (lv_at hl 1 rfl) ?_
  refine lv_aload_n hx hb dl_333 rfl (lv_at hl 0 rfl) ?_
  refine lv_iload_n hx hb dl_334 rfl (lv_at hl 3 rfl) ?_
  refine lv_iconst (v := nI 1) hx hb dl_335 (by decide) ?_
  refine lv_iadd hx hb dl_336 ?_
  refine va_sld hx hb hX hbl hbA hS (law_in hi hL (a := 1) (by decide)) dl_337 ?_
  refine lv_aload_n hx hb dl_338 rfl (lv_at hl 0 rfl) ?_
  refine lv_iload_n hx hb dl_339 rfl (lv_at hl 3 rfl) ?_
  refine lv_iconst (v := nI 2) hx hb dl_340 (by decide) ?_
  refine lv_iadd hx hb dl_341 ?_
  refine va_sld hx hb hX hbl hbA hS (law_in hi hL (a := 2) (by decide)) dl_342 ?_
  obtain ⟨v, M1, M2, e1, e2, t2⟩ := ans_mates (xs (nI i + nI 1).toNatClampNeg) (xs (nI i + nI 2).toNatClampNeg) M hT
  refine law_call (D := D) (cI := cI) (cL := cL) (cM := cM) (ad := ad) (y := 43) (idx := 41) (pl := 605) (g := 0) (as := [aI (xs (nI i + nI 1).toNatClampNeg), aI (xs (nI i + nI 2).toNatClampNeg)]) (rest := []) (by decide) rfl C0 hK hE (by decide +kernel) dl_343 (by decide +kernel) rfl (okS_cons (okV_i _) (okS_cons (okV_i _) okS_nil)) e1 (by decide +kernel) rfl (Nat.le_of_ble_eq_true rfl) hl.1 hP hD hS (fun H locs hP hD hS => ?_)
  refine lv_aload_n hx hb dl_346 rfl (lv_at hl 2 rfl) ?_
  refine lv_aload_n hx hb dl_347 rfl (lv_at hl 0 rfl) ?_
  refine lv_iload_n hx hb dl_348 rfl (lv_at hl 3 rfl) ?_
  refine lv_iconst (v := nI 1) hx hb dl_349 (by decide) ?_
  refine lv_iadd hx hb dl_350 ?_
  refine va_sld hx hb hX hbl hbA hS (law_in hi hL (a := 1) (by decide)) dl_351 ?_
  refine lv_aload_n hx hb dl_352 rfl (lv_at hl 0 rfl) ?_
  refine lv_iload_n hx hb dl_353 rfl (lv_at hl 3 rfl) ?_
  refine lv_iconst (v := nI 2) hx hb dl_354 (by decide) ?_
  refine lv_iadd hx hb dl_355 ?_
  refine va_sld hx hb hX hbl hbA hS (law_in hi hL (a := 2) (by decide)) dl_356 ?_
  refine law_call (D := D) (cI := cI) (cL := cL) (cM := cM) (ad := ad) (y := 135) (idx := 44) (pl := 1087) (g := 4) (as := [aI (xs (nI i + nI 1).toNatClampNeg), aI (xs (nI i + nI 2).toNatClampNeg)]) (rest := [.int v]) (by decide) rfl C0 hK hE (by decide +kernel) dl_357 (by decide +kernel) rfl (okS_cons (okV_i _) (okS_cons (okV_i _) okS_nil)) e2 (by decide +kernel) rfl (Nat.le_of_ble_eq_true rfl) hl.1 hP hD hS (fun H locs hP hD hS => ?_)
  refine lv_icmp_eq (tgt := 941) hx hb dl_360 (by decide) (fun _ => ?_) (fun h => absurd rfl h)
  exact J M2 _ _ t2 hP hD hS
theorem case_7 (l : Launch) {i : Nat} (hi : i + 4 ≤ L) (hL : L ≤ 2048) (C0 : lw_At p s m meth c b L xs) (hK : va_K D vwCl (tysO cI cL cM) s) (hE : Ext ad (fun q : Nat => s.heap.size ≤ q) s s.heap) {H : Heap} {locs : List Loc} {ls : Array Slot} (hl : lv_has ls 4 [(0, .ref b), (1, .ref (ad (0, 7, 0))), (2, .ref (ad (4, 12, 0))), (3, .int (nI i))]) (hT : TS M) (hP : va_P D vwCl (wsO cI cL cM ad M) H) (hD : va_D (fun q : Nat => s.heap.size ≤ q) (wsO cI cL cM ad M)) (hS : va_S (fun q : Nat => s.heap.size ≤ q) s.heap H locs) (J : ∀ (M : Mm) (H : Heap) (locs : List Loc), TS M → va_P D vwCl (wsO cI cL cM ad M) H → va_D (fun q : Nat => s.heap.size ≤ q) (wsO cI cL cM ad M) → va_S (fun q : Nat => s.heap.size ≤ q) s.heap H locs → W p l e room_1 s m #[Value.ref b] below meth c H locs 600000 7302250 Q (F0 m 941 ls [])) : W p l e room_1 s m #[Value.ref b] below meth c H locs 600000 7302250 Q (F0 m 365 ls []) := by
  obtain ⟨hx, hb, hr, hml, hown, hts0, hX, hbl, hlocks, hgv⟩ := id C0
  have hbA : ¬ (fun q : Nat => s.heap.size ≤ q) b := Nat.not_le.mpr hbl
  refine lv_aload_n hx hb dl_365 rfl (lv_at hl 1 rfl) ?_
  refine lv_aload_n hx hb dl_366 rfl (lv_at hl 0 rfl) ?_
  refine lv_iload_n hx hb dl_367 rfl (lv_at hl 3 rfl) ?_
  refine lv_iconst (v := nI 1) hx hb dl_368 (by decide) ?_
  refine lv_iadd hx hb dl_369 ?_
  refine va_sld hx hb hX hbl hbA hS (law_in hi hL (a := 1) (by decide)) dl_370 ?_
  refine lv_aload_n hx hb dl_371 rfl (lv_at hl 0 rfl) ?_
  refine lv_iload_n hx hb dl_372 rfl (lv_at hl 3 rfl) ?_
  refine lv_iconst (v := nI 2) hx hb dl_373 (by decide) ?_
  refine lv_iadd hx hb dl_374 ?_
  refine va_sld hx hb hX hbl hbA hS (law_in hi hL (a := 2) (by decide)) dl_375 ?_
  obtain ⟨v, M1, M2, e1, e2, t2⟩ := ans_total (xs (nI i + nI 1).toNatClampNeg) (xs (nI i + nI 2).toNatClampNeg) M hT
  refine law_call (D := D) (cI := cI) (cL := cL) (cM := cM) (ad := ad) (y := 44) (idx := 45) (pl := 609) (g := 0) (as := [aI (xs (nI i + nI 1).toNatClampNeg), aI (xs (nI i + nI 2).toNatClampNeg)]) (rest := []) (by decide) rfl C0 hK hE (by decide +kernel) dl_376 (by decide +kernel) rfl (okS_cons (okV_i _) (okS_cons (okV_i _) okS_nil)) e1 (by decide +kernel) rfl (Nat.le_of_ble_eq_true rfl) hl.1 hP hD hS (fun H locs hP hD hS => ?_)
  refine lv_aload_n hx hb dl_379 rfl (lv_at hl 2 rfl) ?_
  refine lv_aload_n hx hb dl_380 rfl (lv_at hl 0 rfl) ?_
  refine lv_iload_n hx hb dl_381 rfl (lv_at hl 3 rfl) ?_
  refine lv_iconst (v := nI 1) hx hb dl_382 (by decide) ?_
  refine lv_iadd hx hb dl_383 ?_
  refine va_sld hx hb hX hbl hbA hS (law_in hi hL (a := 1) (by decide)) dl_384 ?_
  refine lv_aload_n hx hb dl_385 rfl (lv_at hl 0 rfl) ?_
  refine lv_iload_n hx hb dl_386 rfl (lv_at hl 3 rfl) ?_
  refine lv_iconst (v := nI 2) hx hb dl_387 (by decide) ?_
  refine lv_iadd hx hb dl_388 ?_
  refine va_sld hx hb hX hbl hbA hS (law_in hi hL (a := 2) (by decide)) dl_389 ?_
  refine law_call (D := D) (cI := cI) (cL := cL) (cM := cM) (ad := ad) (y := 136) (idx := 48) (pl := 1091) (g := 4) (as := [aI (xs (nI i + nI 1).toNatClampNeg), aI (xs (nI i + nI 2).toNatClampNeg)]) (rest := [.int v]) (by decide) rfl C0 hK hE (by decide +kernel) dl_390 (by decide +kernel) rfl (okS_cons (okV_i _) (okS_cons (okV_i _) okS_nil)) e2 (by decide +kernel) rfl (Nat.le_of_ble_eq_true rfl) hl.1 hP hD hS (fun H locs hP hD hS => ?_)
  refine lv_icmp_eq (tgt := 941) hx hb dl_393 (by decide) (fun _ => ?_) (fun h => absurd rfl h)
  exact J M2 _ _ t2 hP hD hS
theorem case_8 (l : Launch) {i : Nat} (hi : i + 4 ≤ L) (hL : L ≤ 2048) (C0 : lw_At p s m meth c b L xs) (hK : va_K D vwCl (tysO cI cL cM) s) (hE : Ext ad (fun q : Nat => s.heap.size ≤ q) s s.heap) {H : Heap} {locs : List Loc} {ls : Array Slot} (hl : lv_has ls 4 [(0, .ref b), (1, .ref (ad (0, 7, 0))), (2, .ref (ad (4, 12, 0))), (3, .int (nI i))]) (hT : TS M) (hP : va_P D vwCl (wsO cI cL cM ad M) H) (hD : va_D (fun q : Nat => s.heap.size ≤ q) (wsO cI cL cM ad M)) (hS : va_S (fun q : Nat => s.heap.size ≤ q) s.heap H locs) (J : ∀ (M : Mm) (H : Heap) (locs : List Loc), TS M → va_P D vwCl (wsO cI cL cM ad M) H → va_D (fun q : Nat => s.heap.size ≤ q) (wsO cI cL cM ad M) → va_S (fun q : Nat => s.heap.size ≤ q) s.heap H locs → W p l e room_1 s m #[Value.ref b] below meth c H locs 600000 7302250 Q (F0 m 941 ls [])) : W p l e room_1 s m #[Value.ref b] below meth c H locs 600000 7302250 Q (F0 m 398 ls []) := by
  obtain ⟨hx, hb, hr, hml, hown, hts0, hX, hbl, hlocks, hgv⟩ := id C0
  have hbA : ¬ (fun q : Nat => s.heap.size ≤ q) b := Nat.not_le.mpr hbl
  refine lv_aload_n hx hb dl_398 rfl (lv_at hl 1 rfl) ?_
  refine lv_aload_n hx hb dl_399 rfl (lv_at hl 0 rfl) ?_
  refine lv_iload_n hx hb dl_400 rfl (lv_at hl 3 rfl) ?_
  refine lv_iconst (v := nI 1) hx hb dl_401 (by decide) ?_
  refine lv_iadd hx hb dl_402 ?_
  refine va_sld hx hb hX hbl hbA hS (law_in hi hL (a := 1) (by decide)) dl_403 ?_
  refine lv_aload_n hx hb dl_404 rfl (lv_at hl 0 rfl) ?_
  refine lv_iload_n hx hb dl_405 rfl (lv_at hl 3 rfl) ?_
  refine lv_iconst (v := nI 2) hx hb dl_406 (by decide) ?_
  refine lv_iadd hx hb dl_407 ?_
  refine va_sld hx hb hX hbl hbA hS (law_in hi hL (a := 2) (by decide)) dl_408 ?_
  obtain ⟨v, M1, M2, e1, e2, t2⟩ := ans_stood (xs (nI i + nI 1).toNatClampNeg) (xs (nI i + nI 2).toNatClampNeg) M hT
  refine law_call (D := D) (cI := cI) (cL := cL) (cM := cM) (ad := ad) (y := 45) (idx := 49) (pl := 621) (g := 0) (as := [aI (xs (nI i + nI 1).toNatClampNeg), aI (xs (nI i + nI 2).toNatClampNeg)]) (rest := []) (by decide) rfl C0 hK hE (by decide +kernel) dl_409 (by decide +kernel) rfl (okS_cons (okV_i _) (okS_cons (okV_i _) okS_nil)) e1 (by decide +kernel) rfl (Nat.le_of_ble_eq_true rfl) hl.1 hP hD hS (fun H locs hP hD hS => ?_)
  refine lv_aload_n hx hb dl_412 rfl (lv_at hl 2 rfl) ?_
  refine lv_aload_n hx hb dl_413 rfl (lv_at hl 0 rfl) ?_
  refine lv_iload_n hx hb dl_414 rfl (lv_at hl 3 rfl) ?_
  refine lv_iconst (v := nI 1) hx hb dl_415 (by decide) ?_
  refine lv_iadd hx hb dl_416 ?_
  refine va_sld hx hb hX hbl hbA hS (law_in hi hL (a := 1) (by decide)) dl_417 ?_
  refine lv_aload_n hx hb dl_418 rfl (lv_at hl 0 rfl) ?_
  refine lv_iload_n hx hb dl_419 rfl (lv_at hl 3 rfl) ?_
  refine lv_iconst (v := nI 2) hx hb dl_420 (by decide) ?_
  refine lv_iadd hx hb dl_421 ?_
  refine va_sld hx hb hX hbl hbA hS (law_in hi hL (a := 2) (by decide)) dl_422 ?_
  refine law_call (D := D) (cI := cI) (cL := cL) (cM := cM) (ad := ad) (y := 137) (idx := 52) (pl := 1103) (g := 4) (as := [aI (xs (nI i + nI 1).toNatClampNeg), aI (xs (nI i + nI 2).toNatClampNeg)]) (rest := [.int v]) (by decide) rfl C0 hK hE (by decide +kernel) dl_423 (by decide +kernel) rfl (okS_cons (okV_i _) (okS_cons (okV_i _) okS_nil)) e2 (by decide +kernel) rfl (Nat.le_of_ble_eq_true rfl) hl.1 hP hD hS (fun H locs hP hD hS => ?_)
  refine lv_icmp_eq (tgt := 941) hx hb dl_426 (by decide) (fun _ => ?_) (fun h => absurd rfl h)
  exact J M2 _ _ t2 hP hD hS
theorem case_9 (l : Launch) {i : Nat} (hi : i + 4 ≤ L) (hL : L ≤ 2048) (C0 : lw_At p s m meth c b L xs) (hK : va_K D vwCl (tysO cI cL cM) s) (hE : Ext ad (fun q : Nat => s.heap.size ≤ q) s s.heap) {H : Heap} {locs : List Loc} {ls : Array Slot} (hl : lv_has ls 4 [(0, .ref b), (1, .ref (ad (0, 7, 0))), (2, .ref (ad (4, 12, 0))), (3, .int (nI i))]) (hT : TS M) (hP : va_P D vwCl (wsO cI cL cM ad M) H) (hD : va_D (fun q : Nat => s.heap.size ≤ q) (wsO cI cL cM ad M)) (hS : va_S (fun q : Nat => s.heap.size ≤ q) s.heap H locs) (J : ∀ (M : Mm) (H : Heap) (locs : List Loc), TS M → va_P D vwCl (wsO cI cL cM ad M) H → va_D (fun q : Nat => s.heap.size ≤ q) (wsO cI cL cM ad M) → va_S (fun q : Nat => s.heap.size ≤ q) s.heap H locs → W p l e room_1 s m #[Value.ref b] below meth c H locs 600000 7302250 Q (F0 m 941 ls [])) : W p l e room_1 s m #[Value.ref b] below meth c H locs 600000 7302250 Q (F0 m 431 ls []) := by
  obtain ⟨hx, hb, hr, hml, hown, hts0, hX, hbl, hlocks, hgv⟩ := id C0
  have hbA : ¬ (fun q : Nat => s.heap.size ≤ q) b := Nat.not_le.mpr hbl
  refine lv_aload_n hx hb dl_431 rfl (lv_at hl 1 rfl) ?_
  refine lv_aload_n hx hb dl_432 rfl (lv_at hl 0 rfl) ?_
  refine lv_iload_n hx hb dl_433 rfl (lv_at hl 3 rfl) ?_
  refine lv_iconst (v := nI 1) hx hb dl_434 (by decide) ?_
  refine lv_iadd hx hb dl_435 ?_
  refine va_sld hx hb hX hbl hbA hS (law_in hi hL (a := 1) (by decide)) dl_436 ?_
  refine lv_aload_n hx hb dl_437 rfl (lv_at hl 0 rfl) ?_
  refine lv_iload_n hx hb dl_438 rfl (lv_at hl 3 rfl) ?_
  refine lv_iconst (v := nI 2) hx hb dl_439 (by decide) ?_
  refine lv_iadd hx hb dl_440 ?_
  refine va_sld hx hb hX hbl hbA hS (law_in hi hL (a := 2) (by decide)) dl_441 ?_
  refine lv_aload_n hx hb dl_442 rfl (lv_at hl 0 rfl) ?_
  refine lv_iload_n hx hb dl_443 rfl (lv_at hl 3 rfl) ?_
  refine lv_iconst (v := nI 3) hx hb dl_444 (by decide) ?_
  refine lv_iadd hx hb dl_445 ?_
  refine va_sld hx hb hX hbl hbA hS (law_in hi hL (a := 3) (by decide)) dl_446 ?_
  obtain ⟨v, M1, M2, e1, e2, t2⟩ := ans_left (xs (nI i + nI 1).toNatClampNeg) (xs (nI i + nI 2).toNatClampNeg) (xs (nI i + nI 3).toNatClampNeg) M hT
  refine law_call (D := D) (cI := cI) (cL := cL) (cM := cM) (ad := ad) (y := 46) (idx := 53) (pl := 625) (g := 0) (as := [aI (xs (nI i + nI 1).toNatClampNeg), aI (xs (nI i + nI 2).toNatClampNeg), aI (xs (nI i + nI 3).toNatClampNeg)]) (rest := []) (by decide) rfl C0 hK hE (by decide +kernel) dl_447 (by decide +kernel) rfl (okS_cons (okV_i _) (okS_cons (okV_i _) (okS_cons (okV_i _) okS_nil))) e1 (by decide +kernel) rfl (Nat.le_of_ble_eq_true rfl) hl.1 hP hD hS (fun H locs hP hD hS => ?_)
  refine lv_aload_n hx hb dl_450 rfl (lv_at hl 2 rfl) ?_
  refine lv_aload_n hx hb dl_451 rfl (lv_at hl 0 rfl) ?_
  refine lv_iload_n hx hb dl_452 rfl (lv_at hl 3 rfl) ?_
  refine lv_iconst (v := nI 1) hx hb dl_453 (by decide) ?_
  refine lv_iadd hx hb dl_454 ?_
  refine va_sld hx hb hX hbl hbA hS (law_in hi hL (a := 1) (by decide)) dl_455 ?_
  refine lv_aload_n hx hb dl_456 rfl (lv_at hl 0 rfl) ?_
  refine lv_iload_n hx hb dl_457 rfl (lv_at hl 3 rfl) ?_
  refine lv_iconst (v := nI 2) hx hb dl_458 (by decide) ?_
  refine lv_iadd hx hb dl_459 ?_
  refine va_sld hx hb hX hbl hbA hS (law_in hi hL (a := 2) (by decide)) dl_460 ?_
  refine lv_aload_n hx hb dl_461 rfl (lv_at hl 0 rfl) ?_
  refine lv_iload_n hx hb dl_462 rfl (lv_at hl 3 rfl) ?_
  refine lv_iconst (v := nI 3) hx hb dl_463 (by decide) ?_
  refine lv_iadd hx hb dl_464 ?_
  refine va_sld hx hb hX hbl hbA hS (law_in hi hL (a := 3) (by decide)) dl_465 ?_
  refine law_call (D := D) (cI := cI) (cL := cL) (cM := cM) (ad := ad) (y := 138) (idx := 56) (pl := 1107) (g := 4) (as := [aI (xs (nI i + nI 1).toNatClampNeg), aI (xs (nI i + nI 2).toNatClampNeg), aI (xs (nI i + nI 3).toNatClampNeg)]) (rest := [.int v]) (by decide) rfl C0 hK hE (by decide +kernel) dl_466 (by decide +kernel) rfl (okS_cons (okV_i _) (okS_cons (okV_i _) (okS_cons (okV_i _) okS_nil))) e2 (by decide +kernel) rfl (Nat.le_of_ble_eq_true rfl) hl.1 hP hD hS (fun H locs hP hD hS => ?_)
  refine lv_icmp_eq (tgt := 941) hx hb dl_469 (by decide) (fun _ => ?_) (fun h => absurd rfl h)
  exact J M2 _ _ t2 hP hD hS
theorem case_10 (l : Launch) {i : Nat} (hi : i + 4 ≤ L) (hL : L ≤ 2048) (C0 : lw_At p s m meth c b L xs) (hK : va_K D vwCl (tysO cI cL cM) s) (hE : Ext ad (fun q : Nat => s.heap.size ≤ q) s s.heap) {H : Heap} {locs : List Loc} {ls : Array Slot} (hl : lv_has ls 4 [(0, .ref b), (1, .ref (ad (0, 7, 0))), (2, .ref (ad (4, 12, 0))), (3, .int (nI i))]) (hT : TS M) (hP : va_P D vwCl (wsO cI cL cM ad M) H) (hD : va_D (fun q : Nat => s.heap.size ≤ q) (wsO cI cL cM ad M)) (hS : va_S (fun q : Nat => s.heap.size ≤ q) s.heap H locs) (J : ∀ (M : Mm) (H : Heap) (locs : List Loc), TS M → va_P D vwCl (wsO cI cL cM ad M) H → va_D (fun q : Nat => s.heap.size ≤ q) (wsO cI cL cM ad M) → va_S (fun q : Nat => s.heap.size ≤ q) s.heap H locs → W p l e room_1 s m #[Value.ref b] below meth c H locs 600000 7302250 Q (F0 m 941 ls [])) : W p l e room_1 s m #[Value.ref b] below meth c H locs 600000 7302250 Q (F0 m 474 ls []) := by
  obtain ⟨hx, hb, hr, hml, hown, hts0, hX, hbl, hlocks, hgv⟩ := id C0
  have hbA : ¬ (fun q : Nat => s.heap.size ≤ q) b := Nat.not_le.mpr hbl
  refine lv_aload_n hx hb dl_474 rfl (lv_at hl 1 rfl) ?_
  refine lv_aload_n hx hb dl_475 rfl (lv_at hl 0 rfl) ?_
  refine lv_iload_n hx hb dl_476 rfl (lv_at hl 3 rfl) ?_
  refine lv_iconst (v := nI 1) hx hb dl_477 (by decide) ?_
  refine lv_iadd hx hb dl_478 ?_
  refine va_sld hx hb hX hbl hbA hS (law_in hi hL (a := 1) (by decide)) dl_479 ?_
  obtain ⟨v, M1, M2, e1, e2, t2⟩ := ans_bestRule (xs (nI i + nI 1).toNatClampNeg) M hT
  refine law_call (D := D) (cI := cI) (cL := cL) (cM := cM) (ad := ad) (y := 47) (idx := 57) (pl := 633) (g := 0) (as := [aI (xs (nI i + nI 1).toNatClampNeg)]) (rest := []) (by decide) rfl C0 hK hE (by decide +kernel) dl_480 (by decide +kernel) rfl (okS_cons (okV_i _) okS_nil) e1 (by decide +kernel) rfl (Nat.le_of_ble_eq_true rfl) hl.1 hP hD hS (fun H locs hP hD hS => ?_)
  refine lv_aload_n hx hb dl_483 rfl (lv_at hl 2 rfl) ?_
  refine lv_aload_n hx hb dl_484 rfl (lv_at hl 0 rfl) ?_
  refine lv_iload_n hx hb dl_485 rfl (lv_at hl 3 rfl) ?_
  refine lv_iconst (v := nI 1) hx hb dl_486 (by decide) ?_
  refine lv_iadd hx hb dl_487 ?_
  refine va_sld hx hb hX hbl hbA hS (law_in hi hL (a := 1) (by decide)) dl_488 ?_
  refine law_call (D := D) (cI := cI) (cL := cL) (cM := cM) (ad := ad) (y := 139) (idx := 60) (pl := 1111) (g := 4) (as := [aI (xs (nI i + nI 1).toNatClampNeg)]) (rest := [.int v]) (by decide) rfl C0 hK hE (by decide +kernel) dl_489 (by decide +kernel) rfl (okS_cons (okV_i _) okS_nil) e2 (by decide +kernel) rfl (Nat.le_of_ble_eq_true rfl) hl.1 hP hD hS (fun H locs hP hD hS => ?_)
  refine lv_icmp_eq (tgt := 941) hx hb dl_492 (by decide) (fun _ => ?_) (fun h => absurd rfl h)
  exact J M2 _ _ t2 hP hD hS
theorem case_11 (l : Launch) {i : Nat} (hi : i + 4 ≤ L) (hL : L ≤ 2048) (C0 : lw_At p s m meth c b L xs) (hK : va_K D vwCl (tysO cI cL cM) s) (hE : Ext ad (fun q : Nat => s.heap.size ≤ q) s s.heap) {H : Heap} {locs : List Loc} {ls : Array Slot} (hl : lv_has ls 4 [(0, .ref b), (1, .ref (ad (0, 7, 0))), (2, .ref (ad (4, 12, 0))), (3, .int (nI i))]) (hT : TS M) (hP : va_P D vwCl (wsO cI cL cM ad M) H) (hD : va_D (fun q : Nat => s.heap.size ≤ q) (wsO cI cL cM ad M)) (hS : va_S (fun q : Nat => s.heap.size ≤ q) s.heap H locs) (J : ∀ (M : Mm) (H : Heap) (locs : List Loc), TS M → va_P D vwCl (wsO cI cL cM ad M) H → va_D (fun q : Nat => s.heap.size ≤ q) (wsO cI cL cM ad M) → va_S (fun q : Nat => s.heap.size ≤ q) s.heap H locs → W p l e room_1 s m #[Value.ref b] below meth c H locs 600000 7302250 Q (F0 m 941 ls [])) : W p l e room_1 s m #[Value.ref b] below meth c H locs 600000 7302250 Q (F0 m 497 ls []) := by
  obtain ⟨hx, hb, hr, hml, hown, hts0, hX, hbl, hlocks, hgv⟩ := id C0
  have hbA : ¬ (fun q : Nat => s.heap.size ≤ q) b := Nat.not_le.mpr hbl
  refine lv_aload_n hx hb dl_497 rfl (lv_at hl 1 rfl) ?_
  refine lv_aload_n hx hb dl_498 rfl (lv_at hl 0 rfl) ?_
  refine lv_iload_n hx hb dl_499 rfl (lv_at hl 3 rfl) ?_
  refine lv_iconst (v := nI 1) hx hb dl_500 (by decide) ?_
  refine lv_iadd hx hb dl_501 ?_
  refine va_sld hx hb hX hbl hbA hS (law_in hi hL (a := 1) (by decide)) dl_502 ?_
  obtain ⟨v, M1, M2, e1, e2, t2⟩ := ans_bestHod (xs (nI i + nI 1).toNatClampNeg) M hT
  refine law_call (D := D) (cI := cI) (cL := cL) (cM := cM) (ad := ad) (y := 48) (idx := 61) (pl := 641) (g := 0) (as := [aI (xs (nI i + nI 1).toNatClampNeg)]) (rest := []) (by decide) rfl C0 hK hE (by decide +kernel) dl_503 (by decide +kernel) rfl (okS_cons (okV_i _) okS_nil) e1 (by decide +kernel) rfl (Nat.le_of_ble_eq_true rfl) hl.1 hP hD hS (fun H locs hP hD hS => ?_)
  refine lv_aload_n hx hb dl_506 rfl (lv_at hl 2 rfl) ?_
  refine lv_aload_n hx hb dl_507 rfl (lv_at hl 0 rfl) ?_
  refine lv_iload_n hx hb dl_508 rfl (lv_at hl 3 rfl) ?_
  refine lv_iconst (v := nI 1) hx hb dl_509 (by decide) ?_
  refine lv_iadd hx hb dl_510 ?_
  refine va_sld hx hb hX hbl hbA hS (law_in hi hL (a := 1) (by decide)) dl_511 ?_
  refine law_call (D := D) (cI := cI) (cL := cL) (cM := cM) (ad := ad) (y := 141) (idx := 64) (pl := 1115) (g := 4) (as := [aI (xs (nI i + nI 1).toNatClampNeg)]) (rest := [.int v]) (by decide) rfl C0 hK hE (by decide +kernel) dl_512 (by decide +kernel) rfl (okS_cons (okV_i _) okS_nil) e2 (by decide +kernel) rfl (Nat.le_of_ble_eq_true rfl) hl.1 hP hD hS (fun H locs hP hD hS => ?_)
  refine lv_icmp_eq (tgt := 941) hx hb dl_515 (by decide) (fun _ => ?_) (fun h => absurd rfl h)
  exact J M2 _ _ t2 hP hD hS
theorem case_12 (l : Launch) {i : Nat} (hi : i + 4 ≤ L) (hL : L ≤ 2048) (C0 : lw_At p s m meth c b L xs) (hK : va_K D vwCl (tysO cI cL cM) s) (hE : Ext ad (fun q : Nat => s.heap.size ≤ q) s s.heap) {H : Heap} {locs : List Loc} {ls : Array Slot} (hl : lv_has ls 4 [(0, .ref b), (1, .ref (ad (0, 7, 0))), (2, .ref (ad (4, 12, 0))), (3, .int (nI i))]) (hT : TS M) (hP : va_P D vwCl (wsO cI cL cM ad M) H) (hD : va_D (fun q : Nat => s.heap.size ≤ q) (wsO cI cL cM ad M)) (hS : va_S (fun q : Nat => s.heap.size ≤ q) s.heap H locs) (J : ∀ (M : Mm) (H : Heap) (locs : List Loc), TS M → va_P D vwCl (wsO cI cL cM ad M) H → va_D (fun q : Nat => s.heap.size ≤ q) (wsO cI cL cM ad M) → va_S (fun q : Nat => s.heap.size ≤ q) s.heap H locs → W p l e room_1 s m #[Value.ref b] below meth c H locs 600000 7302250 Q (F0 m 941 ls [])) : W p l e room_1 s m #[Value.ref b] below meth c H locs 600000 7302250 Q (F0 m 520 ls []) := by
  obtain ⟨hx, hb, hr, hml, hown, hts0, hX, hbl, hlocks, hgv⟩ := id C0
  have hbA : ¬ (fun q : Nat => s.heap.size ≤ q) b := Nat.not_le.mpr hbl
  refine lv_aload_n hx hb dl_520 rfl (lv_at hl 1 rfl) ?_
  refine lv_aload_n hx hb dl_521 rfl (lv_at hl 0 rfl) ?_
  refine lv_iload_n hx hb dl_522 rfl (lv_at hl 3 rfl) ?_
  refine lv_iconst (v := nI 1) hx hb dl_523 (by decide) ?_
  refine lv_iadd hx hb dl_524 ?_
  refine va_sld hx hb hX hbl hbA hS (law_in hi hL (a := 1) (by decide)) dl_525 ?_
  obtain ⟨v, M1, M2, e1, e2, t2⟩ := ans_bestBatch (xs (nI i + nI 1).toNatClampNeg) M hT
  refine law_call (D := D) (cI := cI) (cL := cL) (cM := cM) (ad := ad) (y := 49) (idx := 65) (pl := 649) (g := 0) (as := [aI (xs (nI i + nI 1).toNatClampNeg)]) (rest := []) (by decide) rfl C0 hK hE (by decide +kernel) dl_526 (by decide +kernel) rfl (okS_cons (okV_i _) okS_nil) e1 (by decide +kernel) rfl (Nat.le_of_ble_eq_true rfl) hl.1 hP hD hS (fun H locs hP hD hS => ?_)
  refine lv_aload_n hx hb dl_529 rfl (lv_at hl 2 rfl) ?_
  refine lv_aload_n hx hb dl_530 rfl (lv_at hl 0 rfl) ?_
  refine lv_iload_n hx hb dl_531 rfl (lv_at hl 3 rfl) ?_
  refine lv_iconst (v := nI 1) hx hb dl_532 (by decide) ?_
  refine lv_iadd hx hb dl_533 ?_
  refine va_sld hx hb hX hbl hbA hS (law_in hi hL (a := 1) (by decide)) dl_534 ?_
  refine law_call (D := D) (cI := cI) (cL := cL) (cM := cM) (ad := ad) (y := 142) (idx := 68) (pl := 1123) (g := 4) (as := [aI (xs (nI i + nI 1).toNatClampNeg)]) (rest := [.int v]) (by decide) rfl C0 hK hE (by decide +kernel) dl_535 (by decide +kernel) rfl (okS_cons (okV_i _) okS_nil) e2 (by decide +kernel) rfl (Nat.le_of_ble_eq_true rfl) hl.1 hP hD hS (fun H locs hP hD hS => ?_)
  refine lv_icmp_eq (tgt := 941) hx hb dl_538 (by decide) (fun _ => ?_) (fun h => absurd rfl h)
  exact J M2 _ _ t2 hP hD hS
theorem case_13 (l : Launch) {i : Nat} (hi : i + 4 ≤ L) (hL : L ≤ 2048) (C0 : lw_At p s m meth c b L xs) (hK : va_K D vwCl (tysO cI cL cM) s) (hE : Ext ad (fun q : Nat => s.heap.size ≤ q) s s.heap) {H : Heap} {locs : List Loc} {ls : Array Slot} (hl : lv_has ls 4 [(0, .ref b), (1, .ref (ad (0, 7, 0))), (2, .ref (ad (4, 12, 0))), (3, .int (nI i))]) (hT : TS M) (hP : va_P D vwCl (wsO cI cL cM ad M) H) (hD : va_D (fun q : Nat => s.heap.size ≤ q) (wsO cI cL cM ad M)) (hS : va_S (fun q : Nat => s.heap.size ≤ q) s.heap H locs) (J : ∀ (M : Mm) (H : Heap) (locs : List Loc), TS M → va_P D vwCl (wsO cI cL cM ad M) H → va_D (fun q : Nat => s.heap.size ≤ q) (wsO cI cL cM ad M) → va_S (fun q : Nat => s.heap.size ≤ q) s.heap H locs → W p l e room_1 s m #[Value.ref b] below meth c H locs 600000 7302250 Q (F0 m 941 ls [])) : W p l e room_1 s m #[Value.ref b] below meth c H locs 600000 7302250 Q (F0 m 543 ls []) := by
  obtain ⟨hx, hb, hr, hml, hown, hts0, hX, hbl, hlocks, hgv⟩ := id C0
  have hbA : ¬ (fun q : Nat => s.heap.size ≤ q) b := Nat.not_le.mpr hbl
  refine lv_aload_n hx hb dl_543 rfl (lv_at hl 1 rfl) ?_
  refine lv_aload_n hx hb dl_544 rfl (lv_at hl 0 rfl) ?_
  refine lv_iload_n hx hb dl_545 rfl (lv_at hl 3 rfl) ?_
  refine lv_iconst (v := nI 1) hx hb dl_546 (by decide) ?_
  refine lv_iadd hx hb dl_547 ?_
  refine va_sld hx hb hX hbl hbA hS (law_in hi hL (a := 1) (by decide)) dl_548 ?_
  obtain ⟨v, M1, M2, e1, e2, t2⟩ := ans_mate (xs (nI i + nI 1).toNatClampNeg) M hT
  refine law_call (D := D) (cI := cI) (cL := cL) (cM := cM) (ad := ad) (y := 50) (idx := 69) (pl := 653) (g := 0) (as := [aI (xs (nI i + nI 1).toNatClampNeg)]) (rest := []) (by decide) rfl C0 hK hE (by decide +kernel) dl_549 (by decide +kernel) rfl (okS_cons (okV_i _) okS_nil) e1 (by decide +kernel) rfl (Nat.le_of_ble_eq_true rfl) hl.1 hP hD hS (fun H locs hP hD hS => ?_)
  refine lv_aload_n hx hb dl_552 rfl (lv_at hl 2 rfl) ?_
  refine lv_aload_n hx hb dl_553 rfl (lv_at hl 0 rfl) ?_
  refine lv_iload_n hx hb dl_554 rfl (lv_at hl 3 rfl) ?_
  refine lv_iconst (v := nI 1) hx hb dl_555 (by decide) ?_
  refine lv_iadd hx hb dl_556 ?_
  refine va_sld hx hb hX hbl hbA hS (law_in hi hL (a := 1) (by decide)) dl_557 ?_
  refine law_call (D := D) (cI := cI) (cL := cL) (cM := cM) (ad := ad) (y := 144) (idx := 72) (pl := 1127) (g := 4) (as := [aI (xs (nI i + nI 1).toNatClampNeg)]) (rest := [.int v]) (by decide) rfl C0 hK hE (by decide +kernel) dl_558 (by decide +kernel) rfl (okS_cons (okV_i _) okS_nil) e2 (by decide +kernel) rfl (Nat.le_of_ble_eq_true rfl) hl.1 hP hD hS (fun H locs hP hD hS => ?_)
  refine lv_icmp_eq (tgt := 941) hx hb dl_561 (by decide) (fun _ => ?_) (fun h => absurd rfl h)
  exact J M2 _ _ t2 hP hD hS
theorem case_14 (l : Launch) {i : Nat} (hi : i + 4 ≤ L) (hL : L ≤ 2048) (C0 : lw_At p s m meth c b L xs) (hK : va_K D vwCl (tysO cI cL cM) s) (hE : Ext ad (fun q : Nat => s.heap.size ≤ q) s s.heap) {H : Heap} {locs : List Loc} {ls : Array Slot} (hl : lv_has ls 4 [(0, .ref b), (1, .ref (ad (0, 7, 0))), (2, .ref (ad (4, 12, 0))), (3, .int (nI i))]) (hT : TS M) (hP : va_P D vwCl (wsO cI cL cM ad M) H) (hD : va_D (fun q : Nat => s.heap.size ≤ q) (wsO cI cL cM ad M)) (hS : va_S (fun q : Nat => s.heap.size ≤ q) s.heap H locs) (J : ∀ (M : Mm) (H : Heap) (locs : List Loc), TS M → va_P D vwCl (wsO cI cL cM ad M) H → va_D (fun q : Nat => s.heap.size ≤ q) (wsO cI cL cM ad M) → va_S (fun q : Nat => s.heap.size ≤ q) s.heap H locs → W p l e room_1 s m #[Value.ref b] below meth c H locs 600000 7302250 Q (F0 m 941 ls [])) : W p l e room_1 s m #[Value.ref b] below meth c H locs 600000 7302250 Q (F0 m 566 ls []) := by
  obtain ⟨hx, hb, hr, hml, hown, hts0, hX, hbl, hlocks, hgv⟩ := id C0
  have hbA : ¬ (fun q : Nat => s.heap.size ≤ q) b := Nat.not_le.mpr hbl
  refine lv_aload_n hx hb dl_566 rfl (lv_at hl 1 rfl) ?_
  refine lv_aload_n hx hb dl_567 rfl (lv_at hl 0 rfl) ?_
  refine lv_iload_n hx hb dl_568 rfl (lv_at hl 3 rfl) ?_
  refine lv_iconst (v := nI 1) hx hb dl_569 (by decide) ?_
  refine lv_iadd hx hb dl_570 ?_
  refine va_sld hx hb hX hbl hbA hS (law_in hi hL (a := 1) (by decide)) dl_571 ?_
  obtain ⟨v, M1, M2, e1, e2, t2⟩ := ans_hoist (xs (nI i + nI 1).toNatClampNeg) M hT
  refine law_call (D := D) (cI := cI) (cL := cL) (cM := cM) (ad := ad) (y := 51) (idx := 73) (pl := 662) (g := 0) (as := [aI (xs (nI i + nI 1).toNatClampNeg)]) (rest := []) (by decide) rfl C0 hK hE (by decide +kernel) dl_572 (by decide +kernel) rfl (okS_cons (okV_i _) okS_nil) e1 (by decide +kernel) rfl (Nat.le_of_ble_eq_true rfl) hl.1 hP hD hS (fun H locs hP hD hS => ?_)
  refine lv_aload_n hx hb dl_575 rfl (lv_at hl 2 rfl) ?_
  refine lv_aload_n hx hb dl_576 rfl (lv_at hl 0 rfl) ?_
  refine lv_iload_n hx hb dl_577 rfl (lv_at hl 3 rfl) ?_
  refine lv_iconst (v := nI 1) hx hb dl_578 (by decide) ?_
  refine lv_iadd hx hb dl_579 ?_
  refine va_sld hx hb hX hbl hbA hS (law_in hi hL (a := 1) (by decide)) dl_580 ?_
  refine law_call (D := D) (cI := cI) (cL := cL) (cM := cM) (ad := ad) (y := 145) (idx := 76) (pl := 1140) (g := 4) (as := [aI (xs (nI i + nI 1).toNatClampNeg)]) (rest := [.int v]) (by decide) rfl C0 hK hE (by decide +kernel) dl_581 (by decide +kernel) rfl (okS_cons (okV_i _) okS_nil) e2 (by decide +kernel) rfl (Nat.le_of_ble_eq_true rfl) hl.1 hP hD hS (fun H locs hP hD hS => ?_)
  refine lv_icmp_eq (tgt := 941) hx hb dl_584 (by decide) (fun _ => ?_) (fun h => absurd rfl h)
  exact J M2 _ _ t2 hP hD hS
theorem case_15 (l : Launch) {i : Nat} (hi : i + 4 ≤ L) (hL : L ≤ 2048) (C0 : lw_At p s m meth c b L xs) (hK : va_K D vwCl (tysO cI cL cM) s) (hE : Ext ad (fun q : Nat => s.heap.size ≤ q) s s.heap) {H : Heap} {locs : List Loc} {ls : Array Slot} (hl : lv_has ls 4 [(0, .ref b), (1, .ref (ad (0, 7, 0))), (2, .ref (ad (4, 12, 0))), (3, .int (nI i))]) (hT : TS M) (hP : va_P D vwCl (wsO cI cL cM ad M) H) (hD : va_D (fun q : Nat => s.heap.size ≤ q) (wsO cI cL cM ad M)) (hS : va_S (fun q : Nat => s.heap.size ≤ q) s.heap H locs) (J : ∀ (M : Mm) (H : Heap) (locs : List Loc), TS M → va_P D vwCl (wsO cI cL cM ad M) H → va_D (fun q : Nat => s.heap.size ≤ q) (wsO cI cL cM ad M) → va_S (fun q : Nat => s.heap.size ≤ q) s.heap H locs → W p l e room_1 s m #[Value.ref b] below meth c H locs 600000 7302250 Q (F0 m 941 ls [])) : W p l e room_1 s m #[Value.ref b] below meth c H locs 600000 7302250 Q (F0 m 589 ls []) := by
  obtain ⟨hx, hb, hr, hml, hown, hts0, hX, hbl, hlocks, hgv⟩ := id C0
  have hbA : ¬ (fun q : Nat => s.heap.size ≤ q) b := Nat.not_le.mpr hbl
  refine lv_aload_n hx hb dl_589 rfl (lv_at hl 1 rfl) ?_
  refine lv_aload_n hx hb dl_590 rfl (lv_at hl 0 rfl) ?_
  refine lv_iload_n hx hb dl_591 rfl (lv_at hl 3 rfl) ?_
  refine lv_iconst (v := nI 1) hx hb dl_592 (by decide) ?_
  refine lv_iadd hx hb dl_593 ?_
  refine va_sld hx hb hX hbl hbA hS (law_in hi hL (a := 1) (by decide)) dl_594 ?_
  refine lv_aload_n hx hb dl_595 rfl (lv_at hl 0 rfl) ?_
  refine lv_iload_n hx hb dl_596 rfl (lv_at hl 3 rfl) ?_
  refine lv_iconst (v := nI 2) hx hb dl_597 (by decide) ?_
  refine lv_iadd hx hb dl_598 ?_
  refine va_sld hx hb hX hbl hbA hS (law_in hi hL (a := 2) (by decide)) dl_599 ?_
  obtain ⟨v, M1, M2, e1, e2, t2⟩ := ans_ahead (xs (nI i + nI 1).toNatClampNeg) (xs (nI i + nI 2).toNatClampNeg) M hT
  refine law_call (D := D) (cI := cI) (cL := cL) (cM := cM) (ad := ad) (y := 52) (idx := 77) (pl := 666) (g := 0) (as := [aI (xs (nI i + nI 1).toNatClampNeg), aI (xs (nI i + nI 2).toNatClampNeg)]) (rest := []) (by decide) rfl C0 hK hE (by decide +kernel) dl_600 (by decide +kernel) rfl (okS_cons (okV_i _) (okS_cons (okV_i _) okS_nil)) e1 (by decide +kernel) rfl (Nat.le_of_ble_eq_true rfl) hl.1 hP hD hS (fun H locs hP hD hS => ?_)
  refine lv_aload_n hx hb dl_603 rfl (lv_at hl 2 rfl) ?_
  refine lv_aload_n hx hb dl_604 rfl (lv_at hl 0 rfl) ?_
  refine lv_iload_n hx hb dl_605 rfl (lv_at hl 3 rfl) ?_
  refine lv_iconst (v := nI 1) hx hb dl_606 (by decide) ?_
  refine lv_iadd hx hb dl_607 ?_
  refine va_sld hx hb hX hbl hbA hS (law_in hi hL (a := 1) (by decide)) dl_608 ?_
  refine lv_aload_n hx hb dl_609 rfl (lv_at hl 0 rfl) ?_
  refine lv_iload_n hx hb dl_610 rfl (lv_at hl 3 rfl) ?_
  refine lv_iconst (v := nI 2) hx hb dl_611 (by decide) ?_
  refine lv_iadd hx hb dl_612 ?_
  refine va_sld hx hb hX hbl hbA hS (law_in hi hL (a := 2) (by decide)) dl_613 ?_
  refine law_call (D := D) (cI := cI) (cL := cL) (cM := cM) (ad := ad) (y := 146) (idx := 80) (pl := 1144) (g := 4) (as := [aI (xs (nI i + nI 1).toNatClampNeg), aI (xs (nI i + nI 2).toNatClampNeg)]) (rest := [.int v]) (by decide) rfl C0 hK hE (by decide +kernel) dl_614 (by decide +kernel) rfl (okS_cons (okV_i _) (okS_cons (okV_i _) okS_nil)) e2 (by decide +kernel) rfl (Nat.le_of_ble_eq_true rfl) hl.1 hP hD hS (fun H locs hP hD hS => ?_)
  refine lv_icmp_eq (tgt := 941) hx hb dl_617 (by decide) (fun _ => ?_) (fun h => absurd rfl h)
  exact J M2 _ _ t2 hP hD hS
theorem case_16 (l : Launch) {i : Nat} (hi : i + 4 ≤ L) (hL : L ≤ 2048) (C0 : lw_At p s m meth c b L xs) (hK : va_K D vwCl (tysO cI cL cM) s) (hE : Ext ad (fun q : Nat => s.heap.size ≤ q) s s.heap) {H : Heap} {locs : List Loc} {ls : Array Slot} (hl : lv_has ls 4 [(0, .ref b), (1, .ref (ad (0, 7, 0))), (2, .ref (ad (4, 12, 0))), (3, .int (nI i))]) (hT : TS M) (hP : va_P D vwCl (wsO cI cL cM ad M) H) (hD : va_D (fun q : Nat => s.heap.size ≤ q) (wsO cI cL cM ad M)) (hS : va_S (fun q : Nat => s.heap.size ≤ q) s.heap H locs) (J : ∀ (M : Mm) (H : Heap) (locs : List Loc), TS M → va_P D vwCl (wsO cI cL cM ad M) H → va_D (fun q : Nat => s.heap.size ≤ q) (wsO cI cL cM ad M) → va_S (fun q : Nat => s.heap.size ≤ q) s.heap H locs → W p l e room_1 s m #[Value.ref b] below meth c H locs 600000 7302250 Q (F0 m 941 ls [])) : W p l e room_1 s m #[Value.ref b] below meth c H locs 600000 7302250 Q (F0 m 622 ls []) := by
  obtain ⟨hx, hb, hr, hml, hown, hts0, hX, hbl, hlocks, hgv⟩ := id C0
  have hbA : ¬ (fun q : Nat => s.heap.size ≤ q) b := Nat.not_le.mpr hbl
  refine lv_aload_n hx hb dl_622 rfl (lv_at hl 1 rfl) ?_
  refine lv_aload_n hx hb dl_623 rfl (lv_at hl 0 rfl) ?_
  refine lv_iload_n hx hb dl_624 rfl (lv_at hl 3 rfl) ?_
  refine lv_iconst (v := nI 1) hx hb dl_625 (by decide) ?_
  refine lv_iadd hx hb dl_626 ?_
  refine va_sld hx hb hX hbl hbA hS (law_in hi hL (a := 1) (by decide)) dl_627 ?_
  obtain ⟨v, M1, M2, e1, e2, t2⟩ := ans_inStep (xs (nI i + nI 1).toNatClampNeg) M hT
  refine law_call (D := D) (cI := cI) (cL := cL) (cM := cM) (ad := ad) (y := 53) (idx := 81) (pl := 674) (g := 0) (as := [aI (xs (nI i + nI 1).toNatClampNeg)]) (rest := []) (by decide) rfl C0 hK hE (by decide +kernel) dl_628 (by decide +kernel) rfl (okS_cons (okV_i _) okS_nil) e1 (by decide +kernel) rfl (Nat.le_of_ble_eq_true rfl) hl.1 hP hD hS (fun H locs hP hD hS => ?_)
  refine lv_aload_n hx hb dl_631 rfl (lv_at hl 2 rfl) ?_
  refine lv_aload_n hx hb dl_632 rfl (lv_at hl 0 rfl) ?_
  refine lv_iload_n hx hb dl_633 rfl (lv_at hl 3 rfl) ?_
  refine lv_iconst (v := nI 1) hx hb dl_634 (by decide) ?_
  refine lv_iadd hx hb dl_635 ?_
  refine va_sld hx hb hX hbl hbA hS (law_in hi hL (a := 1) (by decide)) dl_636 ?_
  refine law_call (D := D) (cI := cI) (cL := cL) (cM := cM) (ad := ad) (y := 147) (idx := 84) (pl := 1148) (g := 4) (as := [aI (xs (nI i + nI 1).toNatClampNeg)]) (rest := [.int v]) (by decide) rfl C0 hK hE (by decide +kernel) dl_637 (by decide +kernel) rfl (okS_cons (okV_i _) okS_nil) e2 (by decide +kernel) rfl (Nat.le_of_ble_eq_true rfl) hl.1 hP hD hS (fun H locs hP hD hS => ?_)
  refine lv_icmp_eq (tgt := 941) hx hb dl_640 (by decide) (fun _ => ?_) (fun h => absurd rfl h)
  exact J M2 _ _ t2 hP hD hS
theorem case_17 (l : Launch) {i : Nat} (hi : i + 4 ≤ L) (hL : L ≤ 2048) (C0 : lw_At p s m meth c b L xs) (hK : va_K D vwCl (tysO cI cL cM) s) (hE : Ext ad (fun q : Nat => s.heap.size ≤ q) s s.heap) {H : Heap} {locs : List Loc} {ls : Array Slot} (hl : lv_has ls 4 [(0, .ref b), (1, .ref (ad (0, 7, 0))), (2, .ref (ad (4, 12, 0))), (3, .int (nI i))]) (hT : TS M) (hP : va_P D vwCl (wsO cI cL cM ad M) H) (hD : va_D (fun q : Nat => s.heap.size ≤ q) (wsO cI cL cM ad M)) (hS : va_S (fun q : Nat => s.heap.size ≤ q) s.heap H locs) (J : ∀ (M : Mm) (H : Heap) (locs : List Loc), TS M → va_P D vwCl (wsO cI cL cM ad M) H → va_D (fun q : Nat => s.heap.size ≤ q) (wsO cI cL cM ad M) → va_S (fun q : Nat => s.heap.size ≤ q) s.heap H locs → W p l e room_1 s m #[Value.ref b] below meth c H locs 600000 7302250 Q (F0 m 941 ls [])) : W p l e room_1 s m #[Value.ref b] below meth c H locs 600000 7302250 Q (F0 m 645 ls []) := by
  obtain ⟨hx, hb, hr, hml, hown, hts0, hX, hbl, hlocks, hgv⟩ := id C0
  have hbA : ¬ (fun q : Nat => s.heap.size ≤ q) b := Nat.not_le.mpr hbl
  refine lv_aload_n hx hb dl_645 rfl (lv_at hl 1 rfl) ?_
  refine lv_aload_n hx hb dl_646 rfl (lv_at hl 0 rfl) ?_
  refine lv_iload_n hx hb dl_647 rfl (lv_at hl 3 rfl) ?_
  refine lv_iconst (v := nI 1) hx hb dl_648 (by decide) ?_
  refine lv_iadd hx hb dl_649 ?_
  refine va_sld hx hb hX hbl hbA hS (law_in hi hL (a := 1) (by decide)) dl_650 ?_
  obtain ⟨v, M1, M2, e1, e2, t2⟩ := ans_keeps (xs (nI i + nI 1).toNatClampNeg) M hT
  refine law_call (D := D) (cI := cI) (cL := cL) (cM := cM) (ad := ad) (y := 54) (idx := 85) (pl := 678) (g := 0) (as := [aI (xs (nI i + nI 1).toNatClampNeg)]) (rest := []) (by decide) rfl C0 hK hE (by decide +kernel) dl_651 (by decide +kernel) rfl (okS_cons (okV_i _) okS_nil) e1 (by decide +kernel) rfl (Nat.le_of_ble_eq_true rfl) hl.1 hP hD hS (fun H locs hP hD hS => ?_)
  refine lv_aload_n hx hb dl_654 rfl (lv_at hl 2 rfl) ?_
  refine lv_aload_n hx hb dl_655 rfl (lv_at hl 0 rfl) ?_
  refine lv_iload_n hx hb dl_656 rfl (lv_at hl 3 rfl) ?_
  refine lv_iconst (v := nI 1) hx hb dl_657 (by decide) ?_
  refine lv_iadd hx hb dl_658 ?_
  refine va_sld hx hb hX hbl hbA hS (law_in hi hL (a := 1) (by decide)) dl_659 ?_
  refine law_call (D := D) (cI := cI) (cL := cL) (cM := cM) (ad := ad) (y := 149) (idx := 88) (pl := 1152) (g := 4) (as := [aI (xs (nI i + nI 1).toNatClampNeg)]) (rest := [.int v]) (by decide) rfl C0 hK hE (by decide +kernel) dl_660 (by decide +kernel) rfl (okS_cons (okV_i _) okS_nil) e2 (by decide +kernel) rfl (Nat.le_of_ble_eq_true rfl) hl.1 hP hD hS (fun H locs hP hD hS => ?_)
  refine lv_icmp_eq (tgt := 941) hx hb dl_663 (by decide) (fun _ => ?_) (fun h => absurd rfl h)
  exact J M2 _ _ t2 hP hD hS
theorem case_18 (l : Launch) {i : Nat} (hi : i + 4 ≤ L) (hL : L ≤ 2048) (C0 : lw_At p s m meth c b L xs) (hK : va_K D vwCl (tysO cI cL cM) s) (hE : Ext ad (fun q : Nat => s.heap.size ≤ q) s s.heap) {H : Heap} {locs : List Loc} {ls : Array Slot} (hl : lv_has ls 4 [(0, .ref b), (1, .ref (ad (0, 7, 0))), (2, .ref (ad (4, 12, 0))), (3, .int (nI i))]) (hT : TS M) (hP : va_P D vwCl (wsO cI cL cM ad M) H) (hD : va_D (fun q : Nat => s.heap.size ≤ q) (wsO cI cL cM ad M)) (hS : va_S (fun q : Nat => s.heap.size ≤ q) s.heap H locs) (J : ∀ (M : Mm) (H : Heap) (locs : List Loc), TS M → va_P D vwCl (wsO cI cL cM ad M) H → va_D (fun q : Nat => s.heap.size ≤ q) (wsO cI cL cM ad M) → va_S (fun q : Nat => s.heap.size ≤ q) s.heap H locs → W p l e room_1 s m #[Value.ref b] below meth c H locs 600000 7302250 Q (F0 m 941 ls [])) : W p l e room_1 s m #[Value.ref b] below meth c H locs 600000 7302250 Q (F0 m 668 ls []) := by
  obtain ⟨hx, hb, hr, hml, hown, hts0, hX, hbl, hlocks, hgv⟩ := id C0
  have hbA : ¬ (fun q : Nat => s.heap.size ≤ q) b := Nat.not_le.mpr hbl
  refine lv_aload_n hx hb dl_668 rfl (lv_at hl 1 rfl) ?_
  refine lv_aload_n hx hb dl_669 rfl (lv_at hl 0 rfl) ?_
  refine lv_iload_n hx hb dl_670 rfl (lv_at hl 3 rfl) ?_
  refine lv_iconst (v := nI 1) hx hb dl_671 (by decide) ?_
  refine lv_iadd hx hb dl_672 ?_
  refine va_sld hx hb hX hbl hbA hS (law_in hi hL (a := 1) (by decide)) dl_673 ?_
  obtain ⟨v, M1, M2, e1, e2, t2⟩ := ans_emptyFirst (xs (nI i + nI 1).toNatClampNeg) M hT
  refine law_call (D := D) (cI := cI) (cL := cL) (cM := cM) (ad := ad) (y := 55) (idx := 89) (pl := 686) (g := 0) (as := [aI (xs (nI i + nI 1).toNatClampNeg)]) (rest := []) (by decide) rfl C0 hK hE (by decide +kernel) dl_674 (by decide +kernel) rfl (okS_cons (okV_i _) okS_nil) e1 (by decide +kernel) rfl (Nat.le_of_ble_eq_true rfl) hl.1 hP hD hS (fun H locs hP hD hS => ?_)
  refine lv_aload_n hx hb dl_677 rfl (lv_at hl 2 rfl) ?_
  refine lv_aload_n hx hb dl_678 rfl (lv_at hl 0 rfl) ?_
  refine lv_iload_n hx hb dl_679 rfl (lv_at hl 3 rfl) ?_
  refine lv_iconst (v := nI 1) hx hb dl_680 (by decide) ?_
  refine lv_iadd hx hb dl_681 ?_
  refine va_sld hx hb hX hbl hbA hS (law_in hi hL (a := 1) (by decide)) dl_682 ?_
  refine law_call (D := D) (cI := cI) (cL := cL) (cM := cM) (ad := ad) (y := 150) (idx := 92) (pl := 1160) (g := 4) (as := [aI (xs (nI i + nI 1).toNatClampNeg)]) (rest := [.int v]) (by decide) rfl C0 hK hE (by decide +kernel) dl_683 (by decide +kernel) rfl (okS_cons (okV_i _) okS_nil) e2 (by decide +kernel) rfl (Nat.le_of_ble_eq_true rfl) hl.1 hP hD hS (fun H locs hP hD hS => ?_)
  refine lv_icmp_eq (tgt := 941) hx hb dl_686 (by decide) (fun _ => ?_) (fun h => absurd rfl h)
  exact J M2 _ _ t2 hP hD hS
theorem case_19 (l : Launch) {i : Nat} (hi : i + 4 ≤ L) (hL : L ≤ 2048) (C0 : lw_At p s m meth c b L xs) (hK : va_K D vwCl (tysO cI cL cM) s) (hE : Ext ad (fun q : Nat => s.heap.size ≤ q) s s.heap) {H : Heap} {locs : List Loc} {ls : Array Slot} (hl : lv_has ls 4 [(0, .ref b), (1, .ref (ad (0, 7, 0))), (2, .ref (ad (4, 12, 0))), (3, .int (nI i))]) (hT : TS M) (hP : va_P D vwCl (wsO cI cL cM ad M) H) (hD : va_D (fun q : Nat => s.heap.size ≤ q) (wsO cI cL cM ad M)) (hS : va_S (fun q : Nat => s.heap.size ≤ q) s.heap H locs) (J : ∀ (M : Mm) (H : Heap) (locs : List Loc), TS M → va_P D vwCl (wsO cI cL cM ad M) H → va_D (fun q : Nat => s.heap.size ≤ q) (wsO cI cL cM ad M) → va_S (fun q : Nat => s.heap.size ≤ q) s.heap H locs → W p l e room_1 s m #[Value.ref b] below meth c H locs 600000 7302250 Q (F0 m 941 ls [])) : W p l e room_1 s m #[Value.ref b] below meth c H locs 600000 7302250 Q (F0 m 691 ls []) := by
  obtain ⟨hx, hb, hr, hml, hown, hts0, hX, hbl, hlocks, hgv⟩ := id C0
  have hbA : ¬ (fun q : Nat => s.heap.size ≤ q) b := Nat.not_le.mpr hbl
  refine lv_aload_n hx hb dl_691 rfl (lv_at hl 1 rfl) ?_
  refine lv_aload_n hx hb dl_692 rfl (lv_at hl 0 rfl) ?_
  refine lv_iload_n hx hb dl_693 rfl (lv_at hl 3 rfl) ?_
  refine lv_iconst (v := nI 1) hx hb dl_694 (by decide) ?_
  refine lv_iadd hx hb dl_695 ?_
  refine va_sld hx hb hX hbl hbA hS (law_in hi hL (a := 1) (by decide)) dl_696 ?_
  refine lv_aload_n hx hb dl_697 rfl (lv_at hl 0 rfl) ?_
  refine lv_iload_n hx hb dl_698 rfl (lv_at hl 3 rfl) ?_
  refine lv_iconst (v := nI 2) hx hb dl_699 (by decide) ?_
  refine lv_iadd hx hb dl_700 ?_
  refine va_sld hx hb hX hbl hbA hS (law_in hi hL (a := 2) (by decide)) dl_701 ?_
  obtain ⟨v, M1, M2, e1, e2, t2⟩ := ans_tea (xs (nI i + nI 1).toNatClampNeg) (xs (nI i + nI 2).toNatClampNeg) M hT
  refine law_call (D := D) (cI := cI) (cL := cL) (cM := cM) (ad := ad) (y := 56) (idx := 93) (pl := 690) (g := 0) (as := [aI (xs (nI i + nI 1).toNatClampNeg), aI (xs (nI i + nI 2).toNatClampNeg)]) (rest := []) (by decide) rfl C0 hK hE (by decide +kernel) dl_702 (by decide +kernel) rfl (okS_cons (okV_i _) (okS_cons (okV_i _) okS_nil)) e1 (by decide +kernel) rfl (Nat.le_of_ble_eq_true rfl) hl.1 hP hD hS (fun H locs hP hD hS => ?_)
  refine lv_aload_n hx hb dl_705 rfl (lv_at hl 2 rfl) ?_
  refine lv_aload_n hx hb dl_706 rfl (lv_at hl 0 rfl) ?_
  refine lv_iload_n hx hb dl_707 rfl (lv_at hl 3 rfl) ?_
  refine lv_iconst (v := nI 1) hx hb dl_708 (by decide) ?_
  refine lv_iadd hx hb dl_709 ?_
  refine va_sld hx hb hX hbl hbA hS (law_in hi hL (a := 1) (by decide)) dl_710 ?_
  refine lv_aload_n hx hb dl_711 rfl (lv_at hl 0 rfl) ?_
  refine lv_iload_n hx hb dl_712 rfl (lv_at hl 3 rfl) ?_
  refine lv_iconst (v := nI 2) hx hb dl_713 (by decide) ?_
  refine lv_iadd hx hb dl_714 ?_
  refine va_sld hx hb hX hbl hbA hS (law_in hi hL (a := 2) (by decide)) dl_715 ?_
  refine law_call (D := D) (cI := cI) (cL := cL) (cM := cM) (ad := ad) (y := 152) (idx := 96) (pl := 1164) (g := 4) (as := [aI (xs (nI i + nI 1).toNatClampNeg), aI (xs (nI i + nI 2).toNatClampNeg)]) (rest := [.int v]) (by decide) rfl C0 hK hE (by decide +kernel) dl_716 (by decide +kernel) rfl (okS_cons (okV_i _) (okS_cons (okV_i _) okS_nil)) e2 (by decide +kernel) rfl (Nat.le_of_ble_eq_true rfl) hl.1 hP hD hS (fun H locs hP hD hS => ?_)
  refine lv_icmp_eq (tgt := 941) hx hb dl_719 (by decide) (fun _ => ?_) (fun h => absurd rfl h)
  exact J M2 _ _ t2 hP hD hS
theorem case_20 (l : Launch) {i : Nat} (hi : i + 4 ≤ L) (hL : L ≤ 2048) (C0 : lw_At p s m meth c b L xs) (hK : va_K D vwCl (tysO cI cL cM) s) (hE : Ext ad (fun q : Nat => s.heap.size ≤ q) s s.heap) {H : Heap} {locs : List Loc} {ls : Array Slot} (hl : lv_has ls 4 [(0, .ref b), (1, .ref (ad (0, 7, 0))), (2, .ref (ad (4, 12, 0))), (3, .int (nI i))]) (hT : TS M) (hP : va_P D vwCl (wsO cI cL cM ad M) H) (hD : va_D (fun q : Nat => s.heap.size ≤ q) (wsO cI cL cM ad M)) (hS : va_S (fun q : Nat => s.heap.size ≤ q) s.heap H locs) (J : ∀ (M : Mm) (H : Heap) (locs : List Loc), TS M → va_P D vwCl (wsO cI cL cM ad M) H → va_D (fun q : Nat => s.heap.size ≤ q) (wsO cI cL cM ad M) → va_S (fun q : Nat => s.heap.size ≤ q) s.heap H locs → W p l e room_1 s m #[Value.ref b] below meth c H locs 600000 7302250 Q (F0 m 941 ls [])) : W p l e room_1 s m #[Value.ref b] below meth c H locs 600000 7302250 Q (F0 m 724 ls []) := by
  obtain ⟨hx, hb, hr, hml, hown, hts0, hX, hbl, hlocks, hgv⟩ := id C0
  have hbA : ¬ (fun q : Nat => s.heap.size ≤ q) b := Nat.not_le.mpr hbl
  refine lv_aload_n hx hb dl_724 rfl (lv_at hl 1 rfl) ?_
  refine lv_aload_n hx hb dl_725 rfl (lv_at hl 0 rfl) ?_
  refine lv_iload_n hx hb dl_726 rfl (lv_at hl 3 rfl) ?_
  refine lv_iconst (v := nI 1) hx hb dl_727 (by decide) ?_
  refine lv_iadd hx hb dl_728 ?_
  refine va_sld hx hb hX hbl hbA hS (law_in hi hL (a := 1) (by decide)) dl_729 ?_
  refine lv_aload_n hx hb dl_730 rfl (lv_at hl 0 rfl) ?_
  refine lv_iload_n hx hb dl_731 rfl (lv_at hl 3 rfl) ?_
  refine lv_iconst (v := nI 2) hx hb dl_732 (by decide) ?_
  refine lv_iadd hx hb dl_733 ?_
  refine va_sld hx hb hX hbl hbA hS (law_in hi hL (a := 2) (by decide)) dl_734 ?_
  refine lv_aload_n hx hb dl_735 rfl (lv_at hl 0 rfl) ?_
  refine lv_iload_n hx hb dl_736 rfl (lv_at hl 3 rfl) ?_
  refine lv_iconst (v := nI 3) hx hb dl_737 (by decide) ?_
  refine lv_iadd hx hb dl_738 ?_
  refine va_sld hx hb hX hbl hbA hS (law_in hi hL (a := 3) (by decide)) dl_739 ?_
  obtain ⟨v, M1, M2, e1, e2, t2⟩ := ans_fault (xs (nI i + nI 1).toNatClampNeg) (xs (nI i + nI 2).toNatClampNeg) (xs (nI i + nI 3).toNatClampNeg) M hT
  refine law_call (D := D) (cI := cI) (cL := cL) (cM := cM) (ad := ad) (y := 57) (idx := 97) (pl := 698) (g := 0) (as := [aI (xs (nI i + nI 1).toNatClampNeg), aI (xs (nI i + nI 2).toNatClampNeg), aI (xs (nI i + nI 3).toNatClampNeg)]) (rest := []) (by decide) rfl C0 hK hE (by decide +kernel) dl_740 (by decide +kernel) rfl (okS_cons (okV_i _) (okS_cons (okV_i _) (okS_cons (okV_i _) okS_nil))) e1 (by decide +kernel) rfl (Nat.le_of_ble_eq_true rfl) hl.1 hP hD hS (fun H locs hP hD hS => ?_)
  refine lv_aload_n hx hb dl_743 rfl (lv_at hl 2 rfl) ?_
  refine lv_aload_n hx hb dl_744 rfl (lv_at hl 0 rfl) ?_
  refine lv_iload_n hx hb dl_745 rfl (lv_at hl 3 rfl) ?_
  refine lv_iconst (v := nI 1) hx hb dl_746 (by decide) ?_
  refine lv_iadd hx hb dl_747 ?_
  refine va_sld hx hb hX hbl hbA hS (law_in hi hL (a := 1) (by decide)) dl_748 ?_
  refine lv_aload_n hx hb dl_749 rfl (lv_at hl 0 rfl) ?_
  refine lv_iload_n hx hb dl_750 rfl (lv_at hl 3 rfl) ?_
  refine lv_iconst (v := nI 2) hx hb dl_751 (by decide) ?_
  refine lv_iadd hx hb dl_752 ?_
  refine va_sld hx hb hX hbl hbA hS (law_in hi hL (a := 2) (by decide)) dl_753 ?_
  refine lv_aload_n hx hb dl_754 rfl (lv_at hl 0 rfl) ?_
  refine lv_iload_n hx hb dl_755 rfl (lv_at hl 3 rfl) ?_
  refine lv_iconst (v := nI 3) hx hb dl_756 (by decide) ?_
  refine lv_iadd hx hb dl_757 ?_
  refine va_sld hx hb hX hbl hbA hS (law_in hi hL (a := 3) (by decide)) dl_758 ?_
  refine law_call (D := D) (cI := cI) (cL := cL) (cM := cM) (ad := ad) (y := 153) (idx := 100) (pl := 1172) (g := 4) (as := [aI (xs (nI i + nI 1).toNatClampNeg), aI (xs (nI i + nI 2).toNatClampNeg), aI (xs (nI i + nI 3).toNatClampNeg)]) (rest := [.int v]) (by decide) rfl C0 hK hE (by decide +kernel) dl_759 (by decide +kernel) rfl (okS_cons (okV_i _) (okS_cons (okV_i _) (okS_cons (okV_i _) okS_nil))) e2 (by decide +kernel) rfl (Nat.le_of_ble_eq_true rfl) hl.1 hP hD hS (fun H locs hP hD hS => ?_)
  refine lv_icmp_eq (tgt := 941) hx hb dl_762 (by decide) (fun _ => ?_) (fun h => absurd rfl h)
  exact J M2 _ _ t2 hP hD hS
theorem case_21 (l : Launch) {i : Nat} (hi : i + 4 ≤ L) (hL : L ≤ 2048) (C0 : lw_At p s m meth c b L xs) (hK : va_K D vwCl (tysO cI cL cM) s) (hE : Ext ad (fun q : Nat => s.heap.size ≤ q) s s.heap) {H : Heap} {locs : List Loc} {ls : Array Slot} (hl : lv_has ls 4 [(0, .ref b), (1, .ref (ad (0, 7, 0))), (2, .ref (ad (4, 12, 0))), (3, .int (nI i))]) (hT : TS M) (hP : va_P D vwCl (wsO cI cL cM ad M) H) (hD : va_D (fun q : Nat => s.heap.size ≤ q) (wsO cI cL cM ad M)) (hS : va_S (fun q : Nat => s.heap.size ≤ q) s.heap H locs) (J : ∀ (M : Mm) (H : Heap) (locs : List Loc), TS M → va_P D vwCl (wsO cI cL cM ad M) H → va_D (fun q : Nat => s.heap.size ≤ q) (wsO cI cL cM ad M) → va_S (fun q : Nat => s.heap.size ≤ q) s.heap H locs → W p l e room_1 s m #[Value.ref b] below meth c H locs 600000 7302250 Q (F0 m 941 ls [])) : W p l e room_1 s m #[Value.ref b] below meth c H locs 600000 7302250 Q (F0 m 767 ls []) := by
  obtain ⟨hx, hb, hr, hml, hown, hts0, hX, hbl, hlocks, hgv⟩ := id C0
  have hbA : ¬ (fun q : Nat => s.heap.size ≤ q) b := Nat.not_le.mpr hbl
  refine lv_aload_n hx hb dl_767 rfl (lv_at hl 1 rfl) ?_
  refine lv_aload_n hx hb dl_768 rfl (lv_at hl 0 rfl) ?_
  refine lv_iload_n hx hb dl_769 rfl (lv_at hl 3 rfl) ?_
  refine lv_iconst (v := nI 1) hx hb dl_770 (by decide) ?_
  refine lv_iadd hx hb dl_771 ?_
  refine va_sld hx hb hX hbl hbA hS (law_in hi hL (a := 1) (by decide)) dl_772 ?_
  refine lv_aload_n hx hb dl_773 rfl (lv_at hl 0 rfl) ?_
  refine lv_iload_n hx hb dl_774 rfl (lv_at hl 3 rfl) ?_
  refine lv_iconst (v := nI 2) hx hb dl_775 (by decide) ?_
  refine lv_iadd hx hb dl_776 ?_
  refine va_sld hx hb hX hbl hbA hS (law_in hi hL (a := 2) (by decide)) dl_777 ?_
  refine lv_aload_n hx hb dl_778 rfl (lv_at hl 0 rfl) ?_
  refine lv_iload_n hx hb dl_779 rfl (lv_at hl 3 rfl) ?_
  refine lv_iconst (v := nI 3) hx hb dl_780 (by decide) ?_
  refine lv_iadd hx hb dl_781 ?_
  refine va_sld hx hb hX hbl hbA hS (law_in hi hL (a := 3) (by decide)) dl_782 ?_
  obtain ⟨v, M1, M2, e1, e2, t2⟩ := ans_watered (xs (nI i + nI 1).toNatClampNeg) (xs (nI i + nI 2).toNatClampNeg) (xs (nI i + nI 3).toNatClampNeg) M hT
  refine law_call (D := D) (cI := cI) (cL := cL) (cM := cM) (ad := ad) (y := 58) (idx := 101) (pl := 702) (g := 0) (as := [aI (xs (nI i + nI 1).toNatClampNeg), aI (xs (nI i + nI 2).toNatClampNeg), aI (xs (nI i + nI 3).toNatClampNeg)]) (rest := []) (by decide) rfl C0 hK hE (by decide +kernel) dl_783 (by decide +kernel) rfl (okS_cons (okV_i _) (okS_cons (okV_i _) (okS_cons (okV_i _) okS_nil))) e1 (by decide +kernel) rfl (Nat.le_of_ble_eq_true rfl) hl.1 hP hD hS (fun H locs hP hD hS => ?_)
  refine lv_aload_n hx hb dl_786 rfl (lv_at hl 2 rfl) ?_
  refine lv_aload_n hx hb dl_787 rfl (lv_at hl 0 rfl) ?_
  refine lv_iload_n hx hb dl_788 rfl (lv_at hl 3 rfl) ?_
  refine lv_iconst (v := nI 1) hx hb dl_789 (by decide) ?_
  refine lv_iadd hx hb dl_790 ?_
  refine va_sld hx hb hX hbl hbA hS (law_in hi hL (a := 1) (by decide)) dl_791 ?_
  refine lv_aload_n hx hb dl_792 rfl (lv_at hl 0 rfl) ?_
  refine lv_iload_n hx hb dl_793 rfl (lv_at hl 3 rfl) ?_
  refine lv_iconst (v := nI 2) hx hb dl_794 (by decide) ?_
  refine lv_iadd hx hb dl_795 ?_
  refine va_sld hx hb hX hbl hbA hS (law_in hi hL (a := 2) (by decide)) dl_796 ?_
  refine lv_aload_n hx hb dl_797 rfl (lv_at hl 0 rfl) ?_
  refine lv_iload_n hx hb dl_798 rfl (lv_at hl 3 rfl) ?_
  refine lv_iconst (v := nI 3) hx hb dl_799 (by decide) ?_
  refine lv_iadd hx hb dl_800 ?_
  refine va_sld hx hb hX hbl hbA hS (law_in hi hL (a := 3) (by decide)) dl_801 ?_
  refine law_call (D := D) (cI := cI) (cL := cL) (cM := cM) (ad := ad) (y := 154) (idx := 104) (pl := 1176) (g := 4) (as := [aI (xs (nI i + nI 1).toNatClampNeg), aI (xs (nI i + nI 2).toNatClampNeg), aI (xs (nI i + nI 3).toNatClampNeg)]) (rest := [.int v]) (by decide) rfl C0 hK hE (by decide +kernel) dl_802 (by decide +kernel) rfl (okS_cons (okV_i _) (okS_cons (okV_i _) (okS_cons (okV_i _) okS_nil))) e2 (by decide +kernel) rfl (Nat.le_of_ble_eq_true rfl) hl.1 hP hD hS (fun H locs hP hD hS => ?_)
  refine lv_icmp_eq (tgt := 941) hx hb dl_805 (by decide) (fun _ => ?_) (fun h => absurd rfl h)
  exact J M2 _ _ t2 hP hD hS
theorem case_22 (l : Launch) {i : Nat} (hi : i + 4 ≤ L) (hL : L ≤ 2048) (C0 : lw_At p s m meth c b L xs) (hK : va_K D vwCl (tysO cI cL cM) s) (hE : Ext ad (fun q : Nat => s.heap.size ≤ q) s s.heap) {H : Heap} {locs : List Loc} {ls : Array Slot} (hl : lv_has ls 4 [(0, .ref b), (1, .ref (ad (0, 7, 0))), (2, .ref (ad (4, 12, 0))), (3, .int (nI i))]) (hT : TS M) (hP : va_P D vwCl (wsO cI cL cM ad M) H) (hD : va_D (fun q : Nat => s.heap.size ≤ q) (wsO cI cL cM ad M)) (hS : va_S (fun q : Nat => s.heap.size ≤ q) s.heap H locs) (J : ∀ (M : Mm) (H : Heap) (locs : List Loc), TS M → va_P D vwCl (wsO cI cL cM ad M) H → va_D (fun q : Nat => s.heap.size ≤ q) (wsO cI cL cM ad M) → va_S (fun q : Nat => s.heap.size ≤ q) s.heap H locs → W p l e room_1 s m #[Value.ref b] below meth c H locs 600000 7302250 Q (F0 m 941 ls [])) : W p l e room_1 s m #[Value.ref b] below meth c H locs 600000 7302250 Q (F0 m 810 ls []) := by
  obtain ⟨hx, hb, hr, hml, hown, hts0, hX, hbl, hlocks, hgv⟩ := id C0
  have hbA : ¬ (fun q : Nat => s.heap.size ≤ q) b := Nat.not_le.mpr hbl
  refine lv_aload_n hx hb dl_810 rfl (lv_at hl 1 rfl) ?_
  obtain ⟨v, M1, M2, e1, e2, t2⟩ := ans_badly M hT
  refine law_call (D := D) (cI := cI) (cL := cL) (cM := cM) (ad := ad) (y := 59) (idx := 105) (pl := 709) (g := 0) (as := []) (rest := []) (by decide) rfl C0 hK hE (by decide +kernel) dl_811 (by decide +kernel) rfl okS_nil e1 (by decide +kernel) rfl (Nat.le_of_ble_eq_true rfl) hl.1 hP hD hS (fun H locs hP hD hS => ?_)
  refine lv_aload_n hx hb dl_814 rfl (lv_at hl 2 rfl) ?_
  refine law_call (D := D) (cI := cI) (cL := cL) (cM := cM) (ad := ad) (y := 155) (idx := 108) (pl := 1180) (g := 4) (as := []) (rest := [.int v]) (by decide) rfl C0 hK hE (by decide +kernel) dl_815 (by decide +kernel) rfl okS_nil e2 (by decide +kernel) rfl (Nat.le_of_ble_eq_true rfl) hl.1 hP hD hS (fun H locs hP hD hS => ?_)
  refine lv_icmp_eq (tgt := 941) hx hb dl_818 (by decide) (fun _ => ?_) (fun h => absurd rfl h)
  exact J M2 _ _ t2 hP hD hS
theorem case_23 (l : Launch) {i : Nat} (hi : i + 4 ≤ L) (hL : L ≤ 2048) (C0 : lw_At p s m meth c b L xs) (hK : va_K D vwCl (tysO cI cL cM) s) (hE : Ext ad (fun q : Nat => s.heap.size ≤ q) s s.heap) {H : Heap} {locs : List Loc} {ls : Array Slot} (hl : lv_has ls 4 [(0, .ref b), (1, .ref (ad (0, 7, 0))), (2, .ref (ad (4, 12, 0))), (3, .int (nI i))]) (hT : TS M) (hP : va_P D vwCl (wsO cI cL cM ad M) H) (hD : va_D (fun q : Nat => s.heap.size ≤ q) (wsO cI cL cM ad M)) (hS : va_S (fun q : Nat => s.heap.size ≤ q) s.heap H locs) (J : ∀ (M : Mm) (H : Heap) (locs : List Loc), TS M → va_P D vwCl (wsO cI cL cM ad M) H → va_D (fun q : Nat => s.heap.size ≤ q) (wsO cI cL cM ad M) → va_S (fun q : Nat => s.heap.size ≤ q) s.heap H locs → W p l e room_1 s m #[Value.ref b] below meth c H locs 600000 7302250 Q (F0 m 941 ls [])) : W p l e room_1 s m #[Value.ref b] below meth c H locs 600000 7302250 Q (F0 m 823 ls []) := by
  obtain ⟨hx, hb, hr, hml, hown, hts0, hX, hbl, hlocks, hgv⟩ := id C0
  have hbA : ¬ (fun q : Nat => s.heap.size ≤ q) b := Nat.not_le.mpr hbl
  refine lv_aload_n hx hb dl_823 rfl (lv_at hl 1 rfl) ?_
  refine lv_aload_n hx hb dl_824 rfl (lv_at hl 0 rfl) ?_
  refine lv_iload_n hx hb dl_825 rfl (lv_at hl 3 rfl) ?_
  refine lv_iconst (v := nI 1) hx hb dl_826 (by decide) ?_
  refine lv_iadd hx hb dl_827 ?_
  refine va_sld hx hb hX hbl hbA hS (law_in hi hL (a := 1) (by decide)) dl_828 ?_
  obtain ⟨v, M1, M2, e1, e2, t2⟩ := ans_row (xs (nI i + nI 1).toNatClampNeg) M hT
  refine law_call (D := D) (cI := cI) (cL := cL) (cM := cM) (ad := ad) (y := 60) (idx := 109) (pl := 718) (g := 0) (as := [aI (xs (nI i + nI 1).toNatClampNeg)]) (rest := []) (by decide) rfl C0 hK hE (by decide +kernel) dl_829 (by decide +kernel) rfl (okS_cons (okV_i _) okS_nil) e1 (by decide +kernel) rfl (Nat.le_of_ble_eq_true rfl) hl.1 hP hD hS (fun H locs hP hD hS => ?_)
  refine lv_aload_n hx hb dl_832 rfl (lv_at hl 2 rfl) ?_
  refine lv_aload_n hx hb dl_833 rfl (lv_at hl 0 rfl) ?_
  refine lv_iload_n hx hb dl_834 rfl (lv_at hl 3 rfl) ?_
  refine lv_iconst (v := nI 1) hx hb dl_835 (by decide) ?_
  refine lv_iadd hx hb dl_836 ?_
  refine va_sld hx hb hX hbl hbA hS (law_in hi hL (a := 1) (by decide)) dl_837 ?_
  refine law_call (D := D) (cI := cI) (cL := cL) (cM := cM) (ad := ad) (y := 156) (idx := 112) (pl := 1184) (g := 4) (as := [aI (xs (nI i + nI 1).toNatClampNeg)]) (rest := [.int v]) (by decide) rfl C0 hK hE (by decide +kernel) dl_838 (by decide +kernel) rfl (okS_cons (okV_i _) okS_nil) e2 (by decide +kernel) rfl (Nat.le_of_ble_eq_true rfl) hl.1 hP hD hS (fun H locs hP hD hS => ?_)
  refine lv_icmp_eq (tgt := 941) hx hb dl_841 (by decide) (fun _ => ?_) (fun h => absurd rfl h)
  exact J M2 _ _ t2 hP hD hS
theorem case_24 (l : Launch) {i : Nat} (hi : i + 4 ≤ L) (hL : L ≤ 2048) (C0 : lw_At p s m meth c b L xs) (hK : va_K D vwCl (tysO cI cL cM) s) (hE : Ext ad (fun q : Nat => s.heap.size ≤ q) s s.heap) {H : Heap} {locs : List Loc} {ls : Array Slot} (hl : lv_has ls 4 [(0, .ref b), (1, .ref (ad (0, 7, 0))), (2, .ref (ad (4, 12, 0))), (3, .int (nI i))]) (hT : TS M) (hP : va_P D vwCl (wsO cI cL cM ad M) H) (hD : va_D (fun q : Nat => s.heap.size ≤ q) (wsO cI cL cM ad M)) (hS : va_S (fun q : Nat => s.heap.size ≤ q) s.heap H locs) (J : ∀ (M : Mm) (H : Heap) (locs : List Loc), TS M → va_P D vwCl (wsO cI cL cM ad M) H → va_D (fun q : Nat => s.heap.size ≤ q) (wsO cI cL cM ad M) → va_S (fun q : Nat => s.heap.size ≤ q) s.heap H locs → W p l e room_1 s m #[Value.ref b] below meth c H locs 600000 7302250 Q (F0 m 941 ls [])) : W p l e room_1 s m #[Value.ref b] below meth c H locs 600000 7302250 Q (F0 m 846 ls []) := by
  obtain ⟨hx, hb, hr, hml, hown, hts0, hX, hbl, hlocks, hgv⟩ := id C0
  have hbA : ¬ (fun q : Nat => s.heap.size ≤ q) b := Nat.not_le.mpr hbl
  refine lv_aload_n hx hb dl_846 rfl (lv_at hl 1 rfl) ?_
  obtain ⟨v, M1, M2, e1, e2, t2⟩ := ans_judge M hT
  refine law_call (D := D) (cI := cI) (cL := cL) (cM := cM) (ad := ad) (y := 61) (idx := 113) (pl := 722) (g := 0) (as := []) (rest := []) (by decide) rfl C0 hK hE (by decide +kernel) dl_847 (by decide +kernel) rfl okS_nil e1 (by decide +kernel) rfl (Nat.le_of_ble_eq_true rfl) hl.1 hP hD hS (fun H locs hP hD hS => ?_)
  refine lv_aload_n hx hb dl_850 rfl (lv_at hl 2 rfl) ?_
  refine law_call (D := D) (cI := cI) (cL := cL) (cM := cM) (ad := ad) (y := 157) (idx := 116) (pl := 1188) (g := 4) (as := []) (rest := [.int v]) (by decide) rfl C0 hK hE (by decide +kernel) dl_851 (by decide +kernel) rfl okS_nil e2 (by decide +kernel) rfl (Nat.le_of_ble_eq_true rfl) hl.1 hP hD hS (fun H locs hP hD hS => ?_)
  refine lv_icmp_eq (tgt := 941) hx hb dl_854 (by decide) (fun _ => ?_) (fun h => absurd rfl h)
  exact J M2 _ _ t2 hP hD hS
theorem case_25 (l : Launch) {i : Nat} (hi : i + 4 ≤ L) (hL : L ≤ 2048) (C0 : lw_At p s m meth c b L xs) (hK : va_K D vwCl (tysO cI cL cM) s) (hE : Ext ad (fun q : Nat => s.heap.size ≤ q) s s.heap) {H : Heap} {locs : List Loc} {ls : Array Slot} (hl : lv_has ls 4 [(0, .ref b), (1, .ref (ad (0, 7, 0))), (2, .ref (ad (4, 12, 0))), (3, .int (nI i))]) (hT : TS M) (hP : va_P D vwCl (wsO cI cL cM ad M) H) (hD : va_D (fun q : Nat => s.heap.size ≤ q) (wsO cI cL cM ad M)) (hS : va_S (fun q : Nat => s.heap.size ≤ q) s.heap H locs) (J : ∀ (M : Mm) (H : Heap) (locs : List Loc), TS M → va_P D vwCl (wsO cI cL cM ad M) H → va_D (fun q : Nat => s.heap.size ≤ q) (wsO cI cL cM ad M) → va_S (fun q : Nat => s.heap.size ≤ q) s.heap H locs → W p l e room_1 s m #[Value.ref b] below meth c H locs 600000 7302250 Q (F0 m 941 ls [])) : W p l e room_1 s m #[Value.ref b] below meth c H locs 600000 7302250 Q (F0 m 859 ls []) := by
  obtain ⟨hx, hb, hr, hml, hown, hts0, hX, hbl, hlocks, hgv⟩ := id C0
  have hbA : ¬ (fun q : Nat => s.heap.size ≤ q) b := Nat.not_le.mpr hbl
  refine lv_aload_n hx hb dl_859 rfl (lv_at hl 1 rfl) ?_
  refine lv_aload_n hx hb dl_860 rfl (lv_at hl 0 rfl) ?_
  refine lv_iload_n hx hb dl_861 rfl (lv_at hl 3 rfl) ?_
  refine lv_iconst (v := nI 1) hx hb dl_862 (by decide) ?_
  refine lv_iadd hx hb dl_863 ?_
  refine va_sld hx hb hX hbl hbA hS (law_in hi hL (a := 1) (by decide)) dl_864 ?_
  refine lv_aload_n hx hb dl_865 rfl (lv_at hl 0 rfl) ?_
  refine lv_iload_n hx hb dl_866 rfl (lv_at hl 3 rfl) ?_
  refine lv_iconst (v := nI 2) hx hb dl_867 (by decide) ?_
  refine lv_iadd hx hb dl_868 ?_
  refine va_sld hx hb hX hbl hbA hS (law_in hi hL (a := 2) (by decide)) dl_869 ?_
  obtain ⟨v, M1, M2, e1, e2, t2⟩ := ans_lots (xs (nI i + nI 1).toNatClampNeg) (xs (nI i + nI 2).toNatClampNeg) M hT
  refine law_call (D := D) (cI := cI) (cL := cL) (cM := cM) (ad := ad) (y := 62) (idx := 117) (pl := 726) (g := 0) (as := [aI (xs (nI i + nI 1).toNatClampNeg), aI (xs (nI i + nI 2).toNatClampNeg)]) (rest := []) (by decide) rfl C0 hK hE (by decide +kernel) dl_870 (by decide +kernel) rfl (okS_cons (okV_i _) (okS_cons (okV_i _) okS_nil)) e1 (by decide +kernel) rfl (Nat.le_of_ble_eq_true rfl) hl.1 hP hD hS (fun H locs hP hD hS => ?_)
  refine lv_aload_n hx hb dl_873 rfl (lv_at hl 2 rfl) ?_
  refine lv_aload_n hx hb dl_874 rfl (lv_at hl 0 rfl) ?_
  refine lv_iload_n hx hb dl_875 rfl (lv_at hl 3 rfl) ?_
  refine lv_iconst (v := nI 1) hx hb dl_876 (by decide) ?_
  refine lv_iadd hx hb dl_877 ?_
  refine va_sld hx hb hX hbl hbA hS (law_in hi hL (a := 1) (by decide)) dl_878 ?_
  refine lv_aload_n hx hb dl_879 rfl (lv_at hl 0 rfl) ?_
  refine lv_iload_n hx hb dl_880 rfl (lv_at hl 3 rfl) ?_
  refine lv_iconst (v := nI 2) hx hb dl_881 (by decide) ?_
  refine lv_iadd hx hb dl_882 ?_
  refine va_sld hx hb hX hbl hbA hS (law_in hi hL (a := 2) (by decide)) dl_883 ?_
  refine law_call (D := D) (cI := cI) (cL := cL) (cM := cM) (ad := ad) (y := 159) (idx := 120) (pl := 1192) (g := 4) (as := [aI (xs (nI i + nI 1).toNatClampNeg), aI (xs (nI i + nI 2).toNatClampNeg)]) (rest := [.int v]) (by decide) rfl C0 hK hE (by decide +kernel) dl_884 (by decide +kernel) rfl (okS_cons (okV_i _) (okS_cons (okV_i _) okS_nil)) e2 (by decide +kernel) rfl (Nat.le_of_ble_eq_true rfl) hl.1 hP hD hS (fun H locs hP hD hS => ?_)
  refine lv_icmp_eq (tgt := 941) hx hb dl_887 (by decide) (fun _ => ?_) (fun h => absurd rfl h)
  exact J M2 _ _ t2 hP hD hS
theorem case_26 (l : Launch) {i : Nat} (hi : i + 4 ≤ L) (hL : L ≤ 2048) (C0 : lw_At p s m meth c b L xs) (hK : va_K D vwCl (tysO cI cL cM) s) (hE : Ext ad (fun q : Nat => s.heap.size ≤ q) s s.heap) {H : Heap} {locs : List Loc} {ls : Array Slot} (hl : lv_has ls 4 [(0, .ref b), (1, .ref (ad (0, 7, 0))), (2, .ref (ad (4, 12, 0))), (3, .int (nI i))]) (hT : TS M) (hP : va_P D vwCl (wsO cI cL cM ad M) H) (hD : va_D (fun q : Nat => s.heap.size ≤ q) (wsO cI cL cM ad M)) (hS : va_S (fun q : Nat => s.heap.size ≤ q) s.heap H locs) (J : ∀ (M : Mm) (H : Heap) (locs : List Loc), TS M → va_P D vwCl (wsO cI cL cM ad M) H → va_D (fun q : Nat => s.heap.size ≤ q) (wsO cI cL cM ad M) → va_S (fun q : Nat => s.heap.size ≤ q) s.heap H locs → W p l e room_1 s m #[Value.ref b] below meth c H locs 600000 7302250 Q (F0 m 941 ls [])) : W p l e room_1 s m #[Value.ref b] below meth c H locs 600000 7302250 Q (F0 m 892 ls []) := by
  obtain ⟨hx, hb, hr, hml, hown, hts0, hX, hbl, hlocks, hgv⟩ := id C0
  have hbA : ¬ (fun q : Nat => s.heap.size ≤ q) b := Nat.not_le.mpr hbl
  refine lv_aload_n hx hb dl_892 rfl (lv_at hl 1 rfl) ?_
  obtain ⟨v, M1, M2, e1, e2, t2⟩ := ans_image M hT
  refine law_call (D := D) (cI := cI) (cL := cL) (cM := cM) (ad := ad) (y := 63) (idx := 121) (pl := 739) (g := 0) (as := []) (rest := []) (by decide) rfl C0 hK hE (by decide +kernel) dl_893 (by decide +kernel) rfl okS_nil e1 (by decide +kernel) rfl (Nat.le_of_ble_eq_true rfl) hl.1 hP hD hS (fun H locs hP hD hS => ?_)
  refine lv_aload_n hx hb dl_896 rfl (lv_at hl 2 rfl) ?_
  refine law_call (D := D) (cI := cI) (cL := cL) (cM := cM) (ad := ad) (y := 104) (idx := 124) (pl := 1059) (g := 4) (as := []) (rest := [.int v]) (by decide) rfl C0 hK hE (by decide +kernel) dl_897 (by decide +kernel) rfl okS_nil e2 (by decide +kernel) rfl (Nat.le_of_ble_eq_true rfl) hl.1 hP hD hS (fun H locs hP hD hS => ?_)
  refine lv_icmp_eq (tgt := 941) hx hb dl_900 (by decide) (fun _ => ?_) (fun h => absurd rfl h)
  exact J M2 _ _ t2 hP hD hS
theorem case_27 (l : Launch) {i : Nat} (hi : i + 4 ≤ L) (hL : L ≤ 2048) (C0 : lw_At p s m meth c b L xs) (hK : va_K D vwCl (tysO cI cL cM) s) (hE : Ext ad (fun q : Nat => s.heap.size ≤ q) s s.heap) {H : Heap} {locs : List Loc} {ls : Array Slot} (hl : lv_has ls 4 [(0, .ref b), (1, .ref (ad (0, 7, 0))), (2, .ref (ad (4, 12, 0))), (3, .int (nI i))]) (hT : TS M) (hP : va_P D vwCl (wsO cI cL cM ad M) H) (hD : va_D (fun q : Nat => s.heap.size ≤ q) (wsO cI cL cM ad M)) (hS : va_S (fun q : Nat => s.heap.size ≤ q) s.heap H locs) (J : ∀ (M : Mm) (H : Heap) (locs : List Loc), TS M → va_P D vwCl (wsO cI cL cM ad M) H → va_D (fun q : Nat => s.heap.size ≤ q) (wsO cI cL cM ad M) → va_S (fun q : Nat => s.heap.size ≤ q) s.heap H locs → W p l e room_1 s m #[Value.ref b] below meth c H locs 600000 7302250 Q (F0 m 941 ls [])) : W p l e room_1 s m #[Value.ref b] below meth c H locs 600000 7302250 Q (F0 m 905 ls []) := by
  obtain ⟨hx, hb, hr, hml, hown, hts0, hX, hbl, hlocks, hgv⟩ := id C0
  have hbA : ¬ (fun q : Nat => s.heap.size ≤ q) b := Nat.not_le.mpr hbl
  refine lv_aload_n hx hb dl_905 rfl (lv_at hl 1 rfl) ?_
  obtain ⟨v, M1, M2, e1, e2, t2⟩ := ans_on M hT
  refine law_call (D := D) (cI := cI) (cL := cL) (cM := cM) (ad := ad) (y := 64) (idx := 125) (pl := 743) (g := 0) (as := []) (rest := []) (by decide) rfl C0 hK hE (by decide +kernel) dl_906 (by decide +kernel) rfl okS_nil e1 (by decide +kernel) rfl (Nat.le_of_ble_eq_true rfl) hl.1 hP hD hS (fun H locs hP hD hS => ?_)
  refine lv_aload_n hx hb dl_909 rfl (lv_at hl 2 rfl) ?_
  refine law_call (D := D) (cI := cI) (cL := cL) (cM := cM) (ad := ad) (y := 105) (idx := 128) (pl := 1063) (g := 4) (as := []) (rest := [.int v]) (by decide) rfl C0 hK hE (by decide +kernel) dl_910 (by decide +kernel) rfl okS_nil e2 (by decide +kernel) rfl (Nat.le_of_ble_eq_true rfl) hl.1 hP hD hS (fun H locs hP hD hS => ?_)
  refine lv_icmp_eq (tgt := 941) hx hb dl_913 (by decide) (fun _ => ?_) (fun h => absurd rfl h)
  exact J M2 _ _ t2 hP hD hS
theorem case_28 (l : Launch) {i : Nat} (hi : i + 4 ≤ L) (hL : L ≤ 2048) (C0 : lw_At p s m meth c b L xs) (hK : va_K D vwCl (tysO cI cL cM) s) (hE : Ext ad (fun q : Nat => s.heap.size ≤ q) s s.heap) {H : Heap} {locs : List Loc} {ls : Array Slot} (hl : lv_has ls 4 [(0, .ref b), (1, .ref (ad (0, 7, 0))), (2, .ref (ad (4, 12, 0))), (3, .int (nI i))]) (hT : TS M) (hP : va_P D vwCl (wsO cI cL cM ad M) H) (hD : va_D (fun q : Nat => s.heap.size ≤ q) (wsO cI cL cM ad M)) (hS : va_S (fun q : Nat => s.heap.size ≤ q) s.heap H locs) (J : ∀ (M : Mm) (H : Heap) (locs : List Loc), TS M → va_P D vwCl (wsO cI cL cM ad M) H → va_D (fun q : Nat => s.heap.size ≤ q) (wsO cI cL cM ad M) → va_S (fun q : Nat => s.heap.size ≤ q) s.heap H locs → W p l e room_1 s m #[Value.ref b] below meth c H locs 600000 7302250 Q (F0 m 941 ls [])) : W p l e room_1 s m #[Value.ref b] below meth c H locs 600000 7302250 Q (F0 m 918 ls []) := by
  obtain ⟨hx, hb, hr, hml, hown, hts0, hX, hbl, hlocks, hgv⟩ := id C0
  have hbA : ¬ (fun q : Nat => s.heap.size ≤ q) b := Nat.not_le.mpr hbl
  refine lv_aload_n hx hb dl_918 rfl (lv_at hl 1 rfl) ?_
  refine lv_aload_n hx hb dl_919 rfl (lv_at hl 0 rfl) ?_
  refine lv_iload_n hx hb dl_920 rfl (lv_at hl 3 rfl) ?_
  refine lv_iconst (v := nI 1) hx hb dl_921 (by decide) ?_
  refine lv_iadd hx hb dl_922 ?_
  refine va_sld hx hb hX hbl hbA hS (law_in hi hL (a := 1) (by decide)) dl_923 ?_
  obtain ⟨v, M1, M2, e1, e2, t2⟩ := ans_count (xs (nI i + nI 1).toNatClampNeg) M hT
  refine law_call (D := D) (cI := cI) (cL := cL) (cM := cM) (ad := ad) (y := 65) (idx := 129) (pl := 747) (g := 0) (as := [aI (xs (nI i + nI 1).toNatClampNeg)]) (rest := []) (by decide) rfl C0 hK hE (by decide +kernel) dl_924 (by decide +kernel) rfl (okS_cons (okV_i _) okS_nil) e1 (by decide +kernel) rfl (Nat.le_of_ble_eq_true rfl) hl.1 hP hD hS (fun H locs hP hD hS => ?_)
  refine lv_aload_n hx hb dl_927 rfl (lv_at hl 2 rfl) ?_
  refine lv_aload_n hx hb dl_928 rfl (lv_at hl 0 rfl) ?_
  refine lv_iload_n hx hb dl_929 rfl (lv_at hl 3 rfl) ?_
  refine lv_iconst (v := nI 1) hx hb dl_930 (by decide) ?_
  refine lv_iadd hx hb dl_931 ?_
  refine va_sld hx hb hX hbl hbA hS (law_in hi hL (a := 1) (by decide)) dl_932 ?_
  refine law_call (D := D) (cI := cI) (cL := cL) (cM := cM) (ad := ad) (y := 160) (idx := 132) (pl := 1203) (g := 4) (as := [aI (xs (nI i + nI 1).toNatClampNeg)]) (rest := [.int v]) (by decide) rfl C0 hK hE (by decide +kernel) dl_933 (by decide +kernel) rfl (okS_cons (okV_i _) okS_nil) e2 (by decide +kernel) rfl (Nat.le_of_ble_eq_true rfl) hl.1 hP hD hS (fun H locs hP hD hS => ?_)
  refine lv_icmp_eq (tgt := 941) hx hb dl_936 (by decide) (fun _ => ?_) (fun h => absurd rfl h)
  exact J M2 _ _ t2 hP hD hS
end Law
