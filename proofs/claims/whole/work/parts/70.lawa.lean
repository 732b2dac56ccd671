/-! the law's instructions -/
def R_law : String := "CoatGoalsLaw"
def lw_P (b : Addr) (xs : List Int32) (args : Array Value) (s : State) : Prop := args = #[.ref b] ∧ s.IntsAt b xs ∧ xs.length ≤ 384 ∧ (Jvm.Cond.and given_1 narrow_1).before args s = true
def lw_Q (_ : Array Value) (s : State) (o : Outcome) (t : State) : Prop := o = .returned (some (.int 1)) ∧ Framed s o t [] 600000 7302250
def lw_Z (below : List Frame) (a : Array Value) (s : State) : State → Prop := fun t => ∃ o, t.status = .running ∧ Ended t below o ∧ lw_Q a s o t
/-- the law's own end, with 1 on the stack, nothing written that was there before, its room as the claim has it -/
theorem lw_ret {p : Program} {l : Launch} {e : Env} {s : State} {m : MethodId} {below : List Frame} {meth : Method} {c : Code} {b : Nat} (hx : p.tables.exec = Jvm.exec) (hb : c.code = code) (hr : meth.sig.returnType = ret) (hlocks : meth.locks = false) {pc : Nat} {H : Heap} {ls : Array Slot} (hdg : decode code pc = .ok (.ireturn, 1)) : W p l e room_1 s m #[Value.ref b] below meth c H [] 600000 7302250 (lw_Z below #[Value.ref b] s) (F0 m pc ls [.int 1]) := by
  intro T hT X
  obtain ⟨fs, hret, hrun, hended, hW, hframe⟩ := X.leave (v := some (.int 1)) (hlocks := hlocks) (fun h => by rw [hr] at h; cases h)
  have hmeth' : T.vm.method? m = some meth := X.method'
  refine ⟨T.setFrames fs, ?_, .returned (some (.int 1)), hrun, hended, rfl, ⟨_, rfl⟩, hW, hframe⟩
  jvm_step X.here [X.here.top, hx, hb, hdg, hmeth', hr, ret, narrow_b1]
  (try refine ⟨rfl, ?_⟩); (try refine ⟨rfl, ?_⟩)
  first | (intro acts; rw [hret _ acts rfl rfl rfl]) | rw [hret _ _ rfl rfl rfl]
  exact Steps.refl _
/-- what holds at the law's entry: the machine, the code, the tables' words (any of lw_tbl by 'hts w (by decide +kernel)'), the script of L ints xs at the cell b, what the Statement gives of the start (any of its parts by flat_of_before) -/
def lw_At (p : Program) (s : State) (m : MethodId) (meth : Method) (c : Code) (b L : Nat) (xs : Nat → Int32) : Prop :=
  p.tables.exec = Jvm.exec ∧ c.code = code ∧ meth.sig.returnType = ret ∧ c.maxLocals = 4 ∧ s.vm.findClass R_law = some m.cls ∧ (∀ w ∈ lw_tbl, w.before #[Value.ref b] s = true) ∧ va_X b L xs s s.heap ∧ b < s.heap.size ∧ meth.locks = false ∧ (Jvm.Cond.and given_1 narrow_1).before #[Value.ref b] s = true
theorem dl_0 : decode code 0 = .ok (.new 7, 3) := by decide +kernel
theorem dl_3 : decode code 3 = .ok (.dup, 1) := by decide +kernel
theorem dl_4 : decode code 4 = .ok (.invokespecial 9, 3) := by decide +kernel
theorem dl_7 : decode code 7 = .ok (.astore_n 1, 1) := by decide +kernel
theorem dl_8 : decode code 8 = .ok (.new 10, 3) := by decide +kernel
theorem dl_11 : decode code 11 = .ok (.dup, 1) := by decide +kernel
theorem dl_12 : decode code 12 = .ok (.invokespecial 12, 3) := by decide +kernel
theorem dl_15 : decode code 15 = .ok (.astore_n 2, 1) := by decide +kernel
theorem dl_16 : decode code 16 = .ok (.iconst 0, 1) := by decide +kernel
theorem dl_17 : decode code 17 = .ok (.istore_n 3, 1) := by decide +kernel
theorem dl_18 : decode code 18 = .ok (.iload_n 3, 1) := by decide +kernel
theorem dl_19 : decode code 19 = .ok (.aload_n 0, 1) := by decide +kernel
theorem dl_20 : decode code 20 = .ok (.arraylength, 1) := by decide +kernel
theorem dl_21 : decode code 21 = .ok (.bipush 6, 2) := by decide +kernel
theorem dl_23 : decode code 23 = .ok (.isub, 1) := by decide +kernel
theorem dl_24 : decode code 24 = .ok (.if_icmp .gt 1377, 3) := by decide +kernel
theorem dl_27 : decode code 27 = .ok (.aload_n 0, 1) := by decide +kernel
theorem dl_28 : decode code 28 = .ok (.iload_n 3, 1) := by decide +kernel
theorem dl_29 : decode code 29 = .ok (.iaload, 1) := by decide +kernel
theorem dl_30 : decode code 30 = .ok (.bipush 63, 2) := by decide +kernel
theorem dl_32 : decode code 32 = .ok (.iand, 1) := by decide +kernel
theorem dl_33 : decode code 33 = .ok (.tableswitch 1362 0 41 #[183, 216, 259, 292, 315, 378, 401, 434, 477, 500, 523, 556, 589, 602, 635, 658, 691, 714, 737, 760, 803, 836, 859, 882, 925, 958, 991, 1024, 1057, 1090, 1113, 1136, 1159, 1192, 1215, 1248, 1261, 1275, 1289, 1312, 1325, 1348], 183) := by decide +kernel
theorem dl_216 : decode code 216 = .ok (.aload_n 1, 1) := by decide +kernel
theorem dl_217 : decode code 217 = .ok (.aload_n 0, 1) := by decide +kernel
theorem dl_218 : decode code 218 = .ok (.iload_n 3, 1) := by decide +kernel
theorem dl_219 : decode code 219 = .ok (.iconst 1, 1) := by decide +kernel
theorem dl_220 : decode code 220 = .ok (.iadd, 1) := by decide +kernel
theorem dl_221 : decode code 221 = .ok (.iaload, 1) := by decide +kernel
theorem dl_222 : decode code 222 = .ok (.aload_n 0, 1) := by decide +kernel
theorem dl_223 : decode code 223 = .ok (.iload_n 3, 1) := by decide +kernel
theorem dl_224 : decode code 224 = .ok (.iconst 2, 1) := by decide +kernel
theorem dl_225 : decode code 225 = .ok (.iadd, 1) := by decide +kernel
theorem dl_226 : decode code 226 = .ok (.iaload, 1) := by decide +kernel
theorem dl_227 : decode code 227 = .ok (.invokevirtual 13, 3) := by decide +kernel
theorem dl_230 : decode code 230 = .ok (.aload_n 2, 1) := by decide +kernel
theorem dl_231 : decode code 231 = .ok (.aload_n 0, 1) := by decide +kernel
theorem dl_232 : decode code 232 = .ok (.iload_n 3, 1) := by decide +kernel
theorem dl_233 : decode code 233 = .ok (.iconst 1, 1) := by decide +kernel
theorem dl_234 : decode code 234 = .ok (.iadd, 1) := by decide +kernel
theorem dl_235 : decode code 235 = .ok (.iaload, 1) := by decide +kernel
theorem dl_236 : decode code 236 = .ok (.aload_n 0, 1) := by decide +kernel
theorem dl_237 : decode code 237 = .ok (.iload_n 3, 1) := by decide +kernel
theorem dl_238 : decode code 238 = .ok (.iconst 2, 1) := by decide +kernel
theorem dl_239 : decode code 239 = .ok (.iadd, 1) := by decide +kernel
theorem dl_240 : decode code 240 = .ok (.iaload, 1) := by decide +kernel
theorem dl_241 : decode code 241 = .ok (.invokevirtual 17, 3) := by decide +kernel
theorem dl_244 : decode code 244 = .ok (.if_icmp .eq 1151, 3) := by decide +kernel
theorem dl_247 : decode code 247 = .ok (.iconst 0, 1) := by decide +kernel
theorem dl_248 : decode code 248 = .ok (.ireturn, 1) := by decide +kernel
theorem dl_249 : decode code 249 = .ok (.aload_n 1, 1) := by decide +kernel
theorem dl_250 : decode code 250 = .ok (.aload_n 0, 1) := by decide +kernel
theorem dl_251 : decode code 251 = .ok (.iload_n 3, 1) := by decide +kernel
theorem dl_252 : decode code 252 = .ok (.iconst 1, 1) := by decide +kernel
theorem dl_253 : decode code 253 = .ok (.iadd, 1) := by decide +kernel
theorem dl_254 : decode code 254 = .ok (.iaload, 1) := by decide +kernel
theorem dl_255 : decode code 255 = .ok (.aload_n 0, 1) := by decide +kernel
theorem dl_256 : decode code 256 = .ok (.iload_n 3, 1) := by decide +kernel
theorem dl_257 : decode code 257 = .ok (.iconst 2, 1) := by decide +kernel
theorem dl_258 : decode code 258 = .ok (.iadd, 1) := by decide +kernel
theorem dl_259 : decode code 259 = .ok (.iaload, 1) := by decide +kernel
theorem dl_260 : decode code 260 = .ok (.aload_n 0, 1) := by decide +kernel
theorem dl_261 : decode code 261 = .ok (.iload_n 3, 1) := by decide +kernel
theorem dl_262 : decode code 262 = .ok (.iconst 3, 1) := by decide +kernel
theorem dl_263 : decode code 263 = .ok (.iadd, 1) := by decide +kernel
theorem dl_264 : decode code 264 = .ok (.iaload, 1) := by decide +kernel
theorem dl_265 : decode code 265 = .ok (.invokevirtual 18, 3) := by decide +kernel
theorem dl_268 : decode code 268 = .ok (.aload_n 2, 1) := by decide +kernel
theorem dl_269 : decode code 269 = .ok (.aload_n 0, 1) := by decide +kernel
theorem dl_270 : decode code 270 = .ok (.iload_n 3, 1) := by decide +kernel
theorem dl_271 : decode code 271 = .ok (.iconst 1, 1) := by decide +kernel
theorem dl_272 : decode code 272 = .ok (.iadd, 1) := by decide +kernel
theorem dl_273 : decode code 273 = .ok (.iaload, 1) := by decide +kernel
theorem dl_274 : decode code 274 = .ok (.aload_n 0, 1) := by decide +kernel
theorem dl_275 : decode code 275 = .ok (.iload_n 3, 1) := by decide +kernel
theorem dl_276 : decode code 276 = .ok (.iconst 2, 1) := by decide +kernel
theorem dl_277 : decode code 277 = .ok (.iadd, 1) := by decide +kernel
theorem dl_278 : decode code 278 = .ok (.iaload, 1) := by decide +kernel
theorem dl_279 : decode code 279 = .ok (.aload_n 0, 1) := by decide +kernel
theorem dl_280 : decode code 280 = .ok (.iload_n 3, 1) := by decide +kernel
theorem dl_281 : decode code 281 = .ok (.iconst 3, 1) := by decide +kernel
theorem dl_282 : decode code 282 = .ok (.iadd, 1) := by decide +kernel
theorem dl_283 : decode code 283 = .ok (.iaload, 1) := by decide +kernel
theorem dl_284 : decode code 284 = .ok (.invokevirtual 22, 3) := by decide +kernel
theorem dl_287 : decode code 287 = .ok (.if_icmp .eq 1108, 3) := by decide +kernel
theorem dl_290 : decode code 290 = .ok (.iconst 0, 1) := by decide +kernel
theorem dl_291 : decode code 291 = .ok (.ireturn, 1) := by decide +kernel
theorem dl_292 : decode code 292 = .ok (.aload_n 1, 1) := by decide +kernel
theorem dl_293 : decode code 293 = .ok (.aload_n 0, 1) := by decide +kernel
theorem dl_294 : decode code 294 = .ok (.iload_n 3, 1) := by decide +kernel
theorem dl_295 : decode code 295 = .ok (.iconst 1, 1) := by decide +kernel
theorem dl_296 : decode code 296 = .ok (.iadd, 1) := by decide +kernel
theorem dl_297 : decode code 297 = .ok (.iaload, 1) := by decide +kernel
theorem dl_298 : decode code 298 = .ok (.aload_n 0, 1) := by decide +kernel
theorem dl_299 : decode code 299 = .ok (.iload_n 3, 1) := by decide +kernel
theorem dl_300 : decode code 300 = .ok (.iconst 2, 1) := by decide +kernel
theorem dl_301 : decode code 301 = .ok (.iadd, 1) := by decide +kernel
theorem dl_302 : decode code 302 = .ok (.iaload, 1) := by decide +kernel
theorem dl_303 : decode code 303 = .ok (.invokevirtual 23, 3) := by decide +kernel
theorem dl_306 : decode code 306 = .ok (.aload_n 2, 1) := by decide +kernel
theorem dl_307 : decode code 307 = .ok (.aload_n 0, 1) := by decide +kernel
theorem dl_308 : decode code 308 = .ok (.iload_n 3, 1) := by decide +kernel
theorem dl_309 : decode code 309 = .ok (.iconst 1, 1) := by decide +kernel
theorem dl_310 : decode code 310 = .ok (.iadd, 1) := by decide +kernel
theorem dl_311 : decode code 311 = .ok (.iaload, 1) := by decide +kernel
theorem dl_312 : decode code 312 = .ok (.aload_n 0, 1) := by decide +kernel
theorem dl_313 : decode code 313 = .ok (.iload_n 3, 1) := by decide +kernel
theorem dl_314 : decode code 314 = .ok (.iconst 2, 1) := by decide +kernel
theorem dl_315 : decode code 315 = .ok (.iadd, 1) := by decide +kernel
theorem dl_316 : decode code 316 = .ok (.iaload, 1) := by decide +kernel
theorem dl_317 : decode code 317 = .ok (.invokevirtual 26, 3) := by decide +kernel
theorem dl_320 : decode code 320 = .ok (.if_icmp .eq 1075, 3) := by decide +kernel
theorem dl_323 : decode code 323 = .ok (.iconst 0, 1) := by decide +kernel
theorem dl_324 : decode code 324 = .ok (.ireturn, 1) := by decide +kernel
theorem dl_325 : decode code 325 = .ok (.aload_n 1, 1) := by decide +kernel
theorem dl_326 : decode code 326 = .ok (.aload_n 0, 1) := by decide +kernel
theorem dl_327 : decode code 327 = .ok (.iload_n 3, 1) := by decide +kernel
theorem dl_328 : decode code 328 = .ok (.iconst 1, 1) := by decide +kernel
theorem dl_329 : decode code 329 = .ok (.iadd, 1) := by decide +kernel
theorem dl_330 : decode code 330 = .ok (.iaload, 1) := by decide +kernel
theorem dl_331 : decode code 331 = .ok (.invokevirtual 27, 3) := by decide +kernel
theorem dl_334 : decode code 334 = .ok (.aload_n 2, 1) := by decide +kernel
theorem dl_335 : decode code 335 = .ok (.aload_n 0, 1) := by decide +kernel
theorem dl_336 : decode code 336 = .ok (.iload_n 3, 1) := by decide +kernel
theorem dl_337 : decode code 337 = .ok (.iconst 1, 1) := by decide +kernel
theorem dl_338 : decode code 338 = .ok (.iadd, 1) := by decide +kernel
theorem dl_339 : decode code 339 = .ok (.iaload, 1) := by decide +kernel
theorem dl_340 : decode code 340 = .ok (.invokevirtual 31, 3) := by decide +kernel
theorem dl_343 : decode code 343 = .ok (.if_icmp .eq 1052, 3) := by decide +kernel
theorem dl_346 : decode code 346 = .ok (.iconst 0, 1) := by decide +kernel
theorem dl_347 : decode code 347 = .ok (.ireturn, 1) := by decide +kernel
theorem dl_348 : decode code 348 = .ok (.aload_n 1, 1) := by decide +kernel
theorem dl_349 : decode code 349 = .ok (.aload_n 0, 1) := by decide +kernel
theorem dl_350 : decode code 350 = .ok (.iload_n 3, 1) := by decide +kernel
theorem dl_351 : decode code 351 = .ok (.iconst 1, 1) := by decide +kernel
theorem dl_352 : decode code 352 = .ok (.iadd, 1) := by decide +kernel
theorem dl_353 : decode code 353 = .ok (.iaload, 1) := by decide +kernel
theorem dl_354 : decode code 354 = .ok (.aload_n 0, 1) := by decide +kernel
theorem dl_355 : decode code 355 = .ok (.iload_n 3, 1) := by decide +kernel
theorem dl_356 : decode code 356 = .ok (.iconst 2, 1) := by decide +kernel
theorem dl_357 : decode code 357 = .ok (.iadd, 1) := by decide +kernel
theorem dl_358 : decode code 358 = .ok (.iaload, 1) := by decide +kernel
theorem dl_359 : decode code 359 = .ok (.aload_n 0, 1) := by decide +kernel
theorem dl_360 : decode code 360 = .ok (.iload_n 3, 1) := by decide +kernel
theorem dl_361 : decode code 361 = .ok (.iconst 3, 1) := by decide +kernel
theorem dl_362 : decode code 362 = .ok (.iadd, 1) := by decide +kernel
theorem dl_363 : decode code 363 = .ok (.iaload, 1) := by decide +kernel
theorem dl_364 : decode code 364 = .ok (.aload_n 0, 1) := by decide +kernel
theorem dl_365 : decode code 365 = .ok (.iload_n 3, 1) := by decide +kernel
theorem dl_366 : decode code 366 = .ok (.iconst 4, 1) := by decide +kernel
theorem dl_367 : decode code 367 = .ok (.iadd, 1) := by decide +kernel
theorem dl_368 : decode code 368 = .ok (.iaload, 1) := by decide +kernel
theorem dl_369 : decode code 369 = .ok (.aload_n 0, 1) := by decide +kernel
theorem dl_370 : decode code 370 = .ok (.iload_n 3, 1) := by decide +kernel
theorem dl_371 : decode code 371 = .ok (.iconst 5, 1) := by decide +kernel
theorem dl_372 : decode code 372 = .ok (.iadd, 1) := by decide +kernel
theorem dl_373 : decode code 373 = .ok (.iaload, 1) := by decide +kernel
theorem dl_374 : decode code 374 = .ok (.invokevirtual 32, 3) := by decide +kernel
theorem dl_377 : decode code 377 = .ok (.aload_n 2, 1) := by decide +kernel
theorem dl_378 : decode code 378 = .ok (.aload_n 0, 1) := by decide +kernel
theorem dl_379 : decode code 379 = .ok (.iload_n 3, 1) := by decide +kernel
theorem dl_380 : decode code 380 = .ok (.iconst 1, 1) := by decide +kernel
theorem dl_381 : decode code 381 = .ok (.iadd, 1) := by decide +kernel
theorem dl_382 : decode code 382 = .ok (.iaload, 1) := by decide +kernel
theorem dl_383 : decode code 383 = .ok (.aload_n 0, 1) := by decide +kernel
theorem dl_384 : decode code 384 = .ok (.iload_n 3, 1) := by decide +kernel
theorem dl_385 : decode code 385 = .ok (.iconst 2, 1) := by decide +kernel
theorem dl_386 : decode code 386 = .ok (.iadd, 1) := by decide +kernel
theorem dl_387 : decode code 387 = .ok (.iaload, 1) := by decide +kernel
theorem dl_388 : decode code 388 = .ok (.aload_n 0, 1) := by decide +kernel
theorem dl_389 : decode code 389 = .ok (.iload_n 3, 1) := by decide +kernel
theorem dl_390 : decode code 390 = .ok (.iconst 3, 1) := by decide +kernel
theorem dl_391 : decode code 391 = .ok (.iadd, 1) := by decide +kernel
theorem dl_392 : decode code 392 = .ok (.iaload, 1) := by decide +kernel
theorem dl_393 : decode code 393 = .ok (.aload_n 0, 1) := by decide +kernel
theorem dl_394 : decode code 394 = .ok (.iload_n 3, 1) := by decide +kernel
theorem dl_395 : decode code 395 = .ok (.iconst 4, 1) := by decide +kernel
theorem dl_396 : decode code 396 = .ok (.iadd, 1) := by decide +kernel
theorem dl_397 : decode code 397 = .ok (.iaload, 1) := by decide +kernel
theorem dl_398 : decode code 398 = .ok (.aload_n 0, 1) := by decide +kernel
theorem dl_399 : decode code 399 = .ok (.iload_n 3, 1) := by decide +kernel
theorem dl_400 : decode code 400 = .ok (.iconst 5, 1) := by decide +kernel
theorem dl_401 : decode code 401 = .ok (.iadd, 1) := by decide +kernel
theorem dl_402 : decode code 402 = .ok (.iaload, 1) := by decide +kernel
theorem dl_403 : decode code 403 = .ok (.invokevirtual 36, 3) := by decide +kernel
theorem dl_406 : decode code 406 = .ok (.if_icmp .eq 989, 3) := by decide +kernel
theorem dl_409 : decode code 409 = .ok (.iconst 0, 1) := by decide +kernel
theorem dl_410 : decode code 410 = .ok (.ireturn, 1) := by decide +kernel
theorem dl_411 : decode code 411 = .ok (.aload_n 1, 1) := by decide +kernel
theorem dl_412 : decode code 412 = .ok (.aload_n 0, 1) := by decide +kernel
theorem dl_413 : decode code 413 = .ok (.iload_n 3, 1) := by decide +kernel
theorem dl_414 : decode code 414 = .ok (.iconst 1, 1) := by decide +kernel
theorem dl_415 : decode code 415 = .ok (.iadd, 1) := by decide +kernel
theorem dl_416 : decode code 416 = .ok (.iaload, 1) := by decide +kernel
theorem dl_417 : decode code 417 = .ok (.invokevirtual 37, 3) := by decide +kernel
theorem dl_420 : decode code 420 = .ok (.aload_n 2, 1) := by decide +kernel
theorem dl_421 : decode code 421 = .ok (.aload_n 0, 1) := by decide +kernel
theorem dl_422 : decode code 422 = .ok (.iload_n 3, 1) := by decide +kernel
theorem dl_423 : decode code 423 = .ok (.iconst 1, 1) := by decide +kernel
theorem dl_424 : decode code 424 = .ok (.iadd, 1) := by decide +kernel
theorem dl_425 : decode code 425 = .ok (.iaload, 1) := by decide +kernel
theorem dl_426 : decode code 426 = .ok (.invokevirtual 40, 3) := by decide +kernel
theorem dl_429 : decode code 429 = .ok (.if_icmp .eq 966, 3) := by decide +kernel
theorem dl_432 : decode code 432 = .ok (.iconst 0, 1) := by decide +kernel
theorem dl_433 : decode code 433 = .ok (.ireturn, 1) := by decide +kernel
theorem dl_434 : decode code 434 = .ok (.aload_n 1, 1) := by decide +kernel
theorem dl_435 : decode code 435 = .ok (.aload_n 0, 1) := by decide +kernel
theorem dl_436 : decode code 436 = .ok (.iload_n 3, 1) := by decide +kernel
theorem dl_437 : decode code 437 = .ok (.iconst 1, 1) := by decide +kernel
theorem dl_438 : decode code 438 = .ok (.iadd, 1) := by decide +kernel
theorem dl_439 : decode code 439 = .ok (.iaload, 1) := by decide +kernel
theorem dl_440 : decode code 440 = .ok (.aload_n 0, 1) := by decide +kernel
theorem dl_441 : decode code 441 = .ok (.iload_n 3, 1) := by decide +kernel
theorem dl_442 : decode code 442 = .ok (.iconst 2, 1) := by decide +kernel
theorem dl_443 : decode code 443 = .ok (.iadd, 1) := by decide +kernel
theorem dl_444 : decode code 444 = .ok (.iaload, 1) := by decide +kernel
theorem dl_445 : decode code 445 = .ok (.invokevirtual 41, 3) := by decide +kernel
theorem dl_448 : decode code 448 = .ok (.aload_n 2, 1) := by decide +kernel
theorem dl_449 : decode code 449 = .ok (.aload_n 0, 1) := by decide +kernel
theorem dl_450 : decode code 450 = .ok (.iload_n 3, 1) := by decide +kernel
theorem dl_451 : decode code 451 = .ok (.iconst 1, 1) := by decide +kernel
theorem dl_452 : decode code 452 = .ok (.iadd, 1) := by decide +kernel
theorem dl_453 : decode code 453 = .ok (.iaload, 1) := by decide +kernel
theorem dl_454 : decode code 454 = .ok (.aload_n 0, 1) := by decide +kernel
theorem dl_455 : decode code 455 = .ok (.iload_n 3, 1) := by decide +kernel
theorem dl_456 : decode code 456 = .ok (.iconst 2, 1) := by decide +kernel
theorem dl_457 : decode code 457 = .ok (.iadd, 1) := by decide +kernel
theorem dl_458 : decode code 458 = .ok (.iaload, 1) := by decide +kernel
theorem dl_459 : decode code 459 = .ok (.invokevirtual 44, 3) := by decide +kernel
theorem dl_462 : decode code 462 = .ok (.if_icmp .eq 933, 3) := by decide +kernel
theorem dl_465 : decode code 465 = .ok (.iconst 0, 1) := by decide +kernel
theorem dl_466 : decode code 466 = .ok (.ireturn, 1) := by decide +kernel
theorem dl_467 : decode code 467 = .ok (.aload_n 1, 1) := by decide +kernel
theorem dl_468 : decode code 468 = .ok (.aload_n 0, 1) := by decide +kernel
theorem dl_469 : decode code 469 = .ok (.iload_n 3, 1) := by decide +kernel
theorem dl_470 : decode code 470 = .ok (.iconst 1, 1) := by decide +kernel
theorem dl_471 : decode code 471 = .ok (.iadd, 1) := by decide +kernel
theorem dl_472 : decode code 472 = .ok (.iaload, 1) := by decide +kernel
theorem dl_473 : decode code 473 = .ok (.aload_n 0, 1) := by decide +kernel
theorem dl_474 : decode code 474 = .ok (.iload_n 3, 1) := by decide +kernel
theorem dl_475 : decode code 475 = .ok (.iconst 2, 1) := by decide +kernel
theorem dl_476 : decode code 476 = .ok (.iadd, 1) := by decide +kernel
theorem dl_477 : decode code 477 = .ok (.iaload, 1) := by decide +kernel
theorem dl_478 : decode code 478 = .ok (.aload_n 0, 1) := by decide +kernel
theorem dl_479 : decode code 479 = .ok (.iload_n 3, 1) := by decide +kernel
theorem dl_480 : decode code 480 = .ok (.iconst 3, 1) := by decide +kernel
theorem dl_481 : decode code 481 = .ok (.iadd, 1) := by decide +kernel
theorem dl_482 : decode code 482 = .ok (.iaload, 1) := by decide +kernel
theorem dl_483 : decode code 483 = .ok (.invokevirtual 45, 3) := by decide +kernel
theorem dl_486 : decode code 486 = .ok (.aload_n 2, 1) := by decide +kernel
theorem dl_487 : decode code 487 = .ok (.aload_n 0, 1) := by decide +kernel
theorem dl_488 : decode code 488 = .ok (.iload_n 3, 1) := by decide +kernel
theorem dl_489 : decode code 489 = .ok (.iconst 1, 1) := by decide +kernel
theorem dl_490 : decode code 490 = .ok (.iadd, 1) := by decide +kernel
theorem dl_491 : decode code 491 = .ok (.iaload, 1) := by decide +kernel
theorem dl_492 : decode code 492 = .ok (.aload_n 0, 1) := by decide +kernel
theorem dl_493 : decode code 493 = .ok (.iload_n 3, 1) := by decide +kernel
theorem dl_494 : decode code 494 = .ok (.iconst 2, 1) := by decide +kernel
theorem dl_495 : decode code 495 = .ok (.iadd, 1) := by decide +kernel
theorem dl_496 : decode code 496 = .ok (.iaload, 1) := by decide +kernel
theorem dl_497 : decode code 497 = .ok (.aload_n 0, 1) := by decide +kernel
theorem dl_498 : decode code 498 = .ok (.iload_n 3, 1) := by decide +kernel
theorem dl_499 : decode code 499 = .ok (.iconst 3, 1) := by decide +kernel
theorem dl_500 : decode code 500 = .ok (.iadd, 1) := by decide +kernel
theorem dl_501 : decode code 501 = .ok (.iaload, 1) := by decide +kernel
theorem dl_502 : decode code 502 = .ok (.invokevirtual 48, 3) := by decide +kernel
theorem dl_505 : decode code 505 = .ok (.if_icmp .eq 890, 3) := by decide +kernel
theorem dl_508 : decode code 508 = .ok (.iconst 0, 1) := by decide +kernel
theorem dl_509 : decode code 509 = .ok (.ireturn, 1) := by decide +kernel
theorem dl_510 : decode code 510 = .ok (.aload_n 1, 1) := by decide +kernel
theorem dl_511 : decode code 511 = .ok (.aload_n 0, 1) := by decide +kernel
theorem dl_512 : decode code 512 = .ok (.iload_n 3, 1) := by decide +kernel
theorem dl_513 : decode code 513 = .ok (.iconst 1, 1) := by decide +kernel
theorem dl_514 : decode code 514 = .ok (.iadd, 1) := by decide +kernel
theorem dl_515 : decode code 515 = .ok (.iaload, 1) := by decide +kernel
theorem dl_516 : decode code 516 = .ok (.invokevirtual 49, 3) := by decide +kernel
theorem dl_519 : decode code 519 = .ok (.aload_n 2, 1) := by decide +kernel
theorem dl_520 : decode code 520 = .ok (.aload_n 0, 1) := by decide +kernel
theorem dl_521 : decode code 521 = .ok (.iload_n 3, 1) := by decide +kernel
theorem dl_522 : decode code 522 = .ok (.iconst 1, 1) := by decide +kernel
theorem dl_523 : decode code 523 = .ok (.iadd, 1) := by decide +kernel
