/-! THE LAW'S LOOP OVER PURE MEMORY (own work): X is any property of states that one instruction carries backwards; WL: from this place on it is good -/
def wlX (kt : Nat → Option mc_E) (CB SB : Nat) (X : mc_S → Prop) : Prop :=
  (∀ (F : Nat) (x : Instr) (n : Nat) (S0 S : mc_S), mc_lawcd S0.1 = some (x, n) → mc_step kt (mc_call kt F 11) 11 7 false (some .boolean) x n S0 = some (.inl S) → S.2.2.2.length ≤ CB ∧ mc_sz S.2.2.2 ≤ SB → X S → X S0) ∧
  (∀ (pc : Nat) (L L' : List (Nat × Value)) (st : List Value) (M : mc_M), (∀ q ∈ L, q ∈ L') → X (pc, L, st, M) → X (pc, L', st, M)) ∧
  ∀ (L : List (Nat × Value)) (M : mc_M), M.length ≤ CB → mc_sz M ≤ SB → X (1660, L, [.int 1], M)
theorem wmem_s {l : List (Nat × Nat)} {n j : Nat} (h : l.all (fun q => decide (q.1 < 1000)) = true) : wmem l (1000 + n) j = false := wmem_no (fun q hq hh => by
  have h1 := of_decide_eq_true (List.all_eq_true.mp h q hq)
  have h2 := hh.1
  omega)
def WL (kt : Nat → Option mc_E) (CB SB : Nat) (X : mc_S → Prop) (pc : Nat) (L : List (Nat × Value)) (st : List Value) (T : wq_T) (H : wq_H) : Prop := (T.2.1 ≤ CB ∧ T.2.2.1 ≤ SB) ∧ ∀ M, wq_R kt M T H → X (pc, L, st, M)
theorem wl_of {kt : Nat → Option mc_E} {CB SB : Nat} {X : mc_S → Prop} (hX : wlX kt CB SB X) {pc : Nat} {L : List (Nat × Value)} {st : List Value} {T : wq_T} {H : wq_H} (hb : T.2.1 ≤ CB ∧ T.2.2.1 ≤ SB) {x : Instr} {n : Nat} (hd : mc_lawcd pc = some (x, n)) (h : wq_s kt 11 (11, 7, false, some .boolean) x n pc L st T H (WL kt CB SB X)) : WL kt CB SB X pc L st T H := ⟨hb, fun M hM => by
  obtain ⟨F, pc', L', st', M', T', H', h1, h2, h3⟩ := h M hM
  have hl := h2.1
  have hz := h2.2.1
  have hb' := h3.1
  exact hX.1 F x n (pc, L, st, M) (pc', L', st', M') hd h1 ⟨by show M'.length ≤ CB; omega, by show mc_sz M' ≤ SB; omega⟩ (h3.2 M' h2)⟩
theorem WL.loc {kt : Nat → Option mc_E} {CB SB : Nat} {X : mc_S → Prop} (hX : wlX kt CB SB X) {pc : Nat} {L L' : List (Nat × Value)} {st : List Value} {T : wq_T} {H : wq_H} (hq : ∀ q ∈ L, q ∈ L') (h : WL kt CB SB X pc L st T H) : WL kt CB SB X pc L' st T H := ⟨h.1, fun M hM => hX.2.1 pc L L' st M hq (h.2 M hM)⟩
theorem WL.fin {kt : Nat → Option mc_E} {CB SB : Nat} {X : mc_S → Prop} (hX : wlX kt CB SB X) {L : List (Nat × Value)} {T : wq_T} {H : wq_H} (hb : T.2.1 ≤ CB ∧ T.2.2.1 ≤ SB) : WL kt CB SB X 1660 L [vI 1] T H := ⟨hb, fun M hM => hX.2.2 L M (by have := hM.1; omega) (by have := hM.2.1; omega)⟩
/-- what holds at the head of the law's loop -/
def wlI (Len x m o : Nat) (T : wq_T) (H : wq_H) : Prop := WT T H ∧ T.2.2.2 0 = some (1000 + Len) ∧ T.2.2.2 x = some 1 ∧ T.2.2.2 m = some 42 ∧ T.2.2.2 o = some 73 ∧ wKI H m = 1 ∧ H x 9 = H m 6
abbrev wlL (i : Int) (x m o : Nat) : List (Nat × Value) := [(4, vI i), (3, .ref o), (2, .ref m), (1, .ref x), (0, .ref 0)]

theorem cL_20 : mc_lawcd 20 = some (.iconst 0, 1) := by decide +kernel
theorem cL_21 : mc_lawcd 21 = some (.istore 4, 2) := by decide +kernel
theorem cL_23 : mc_lawcd 23 = some (.iload 4, 2) := by decide +kernel
theorem cL_25 : mc_lawcd 25 = some (.aload_n 0, 1) := by decide +kernel
theorem cL_26 : mc_lawcd 26 = some (.arraylength, 1) := by decide +kernel
theorem cL_27 : mc_lawcd 27 = some (.bipush 6, 2) := by decide +kernel
theorem cL_29 : mc_lawcd 29 = some (.isub, 1) := by decide +kernel
theorem cL_30 : mc_lawcd 30 = some (.if_icmp .gt 1629, 3) := by decide +kernel
theorem cL_33 : mc_lawcd 33 = some (.aload_n 0, 1) := by decide +kernel
theorem cL_34 : mc_lawcd 34 = some (.iload 4, 2) := by decide +kernel
theorem cL_36 : mc_lawcd 36 = some (.iaload, 1) := by decide +kernel
theorem cL_37 : mc_lawcd 37 = some (.bipush 63, 2) := by decide +kernel
theorem cL_39 : mc_lawcd 39 = some (.iand, 1) := by decide +kernel
theorem cL_40 : mc_lawcd 40 = some (.tableswitch 1613 0 49 #[216, 289, 314, 327, 340, 365, 414, 463, 476, 513, 538, 563, 576, 589, 602, 615, 628, 665, 678, 715, 752, 789, 842, 879, 904, 917, 954, 979, 1016, 1069, 1122, 1135, 1160, 1185, 1210, 1223, 1276, 1289, 1302, 1327, 1364, 1389, 1414, 1427, 1464, 1477, 1490, 1547, 1575, 1600], 216) := by decide +kernel
theorem cL_256 : mc_lawcd 256 = some (.aload_n 1, 1) := by decide +kernel
theorem cL_257 : mc_lawcd 257 = some (.aload_n 0, 1) := by decide +kernel
theorem cL_258 : mc_lawcd 258 = some (.iload 4, 2) := by decide +kernel
theorem cL_260 : mc_lawcd 260 = some (.iconst 1, 1) := by decide +kernel
theorem cL_261 : mc_lawcd 261 = some (.iadd, 1) := by decide +kernel
theorem cL_262 : mc_lawcd 262 = some (.iaload, 1) := by decide +kernel
theorem cL_263 : mc_lawcd 263 = some (.aload_n 0, 1) := by decide +kernel
theorem cL_264 : mc_lawcd 264 = some (.iload 4, 2) := by decide +kernel
theorem cL_266 : mc_lawcd 266 = some (.iconst 2, 1) := by decide +kernel
theorem cL_267 : mc_lawcd 267 = some (.iadd, 1) := by decide +kernel
theorem cL_268 : mc_lawcd 268 = some (.iaload, 1) := by decide +kernel
theorem cL_269 : mc_lawcd 269 = some (.aload_n 0, 1) := by decide +kernel
theorem cL_270 : mc_lawcd 270 = some (.iload 4, 2) := by decide +kernel
theorem cL_272 : mc_lawcd 272 = some (.iconst 3, 1) := by decide +kernel
theorem cL_273 : mc_lawcd 273 = some (.iadd, 1) := by decide +kernel
theorem cL_274 : mc_lawcd 274 = some (.iaload, 1) := by decide +kernel
theorem cL_275 : mc_lawcd 275 = some (.aload_n 0, 1) := by decide +kernel
theorem cL_276 : mc_lawcd 276 = some (.iload 4, 2) := by decide +kernel
theorem cL_278 : mc_lawcd 278 = some (.iconst 4, 1) := by decide +kernel
theorem cL_279 : mc_lawcd 279 = some (.iadd, 1) := by decide +kernel
theorem cL_280 : mc_lawcd 280 = some (.iaload, 1) := by decide +kernel
theorem cL_281 : mc_lawcd 281 = some (.aload_n 0, 1) := by decide +kernel
theorem cL_282 : mc_lawcd 282 = some (.iload 4, 2) := by decide +kernel
theorem cL_284 : mc_lawcd 284 = some (.iconst 5, 1) := by decide +kernel
theorem cL_285 : mc_lawcd 285 = some (.iadd, 1) := by decide +kernel
theorem cL_286 : mc_lawcd 286 = some (.iaload, 1) := by decide +kernel
theorem cL_287 : mc_lawcd 287 = some (.invokevirtual 19, 3) := by decide +kernel
theorem cL_290 : mc_lawcd 290 = some (.aload_n 2, 1) := by decide +kernel
theorem cL_291 : mc_lawcd 291 = some (.aload_n 0, 1) := by decide +kernel
theorem cL_292 : mc_lawcd 292 = some (.iload 4, 2) := by decide +kernel
theorem cL_294 : mc_lawcd 294 = some (.iconst 1, 1) := by decide +kernel
theorem cL_295 : mc_lawcd 295 = some (.iadd, 1) := by decide +kernel
theorem cL_296 : mc_lawcd 296 = some (.iaload, 1) := by decide +kernel
theorem cL_297 : mc_lawcd 297 = some (.aload_n 0, 1) := by decide +kernel
theorem cL_298 : mc_lawcd 298 = some (.iload 4, 2) := by decide +kernel
theorem cL_300 : mc_lawcd 300 = some (.iconst 2, 1) := by decide +kernel
theorem cL_301 : mc_lawcd 301 = some (.iadd, 1) := by decide +kernel
theorem cL_302 : mc_lawcd 302 = some (.iaload, 1) := by decide +kernel
theorem cL_303 : mc_lawcd 303 = some (.aload_n 0, 1) := by decide +kernel
theorem cL_304 : mc_lawcd 304 = some (.iload 4, 2) := by decide +kernel
theorem cL_306 : mc_lawcd 306 = some (.iconst 3, 1) := by decide +kernel
theorem cL_307 : mc_lawcd 307 = some (.iadd, 1) := by decide +kernel
theorem cL_308 : mc_lawcd 308 = some (.iaload, 1) := by decide +kernel
theorem cL_309 : mc_lawcd 309 = some (.aload_n 0, 1) := by decide +kernel
theorem cL_310 : mc_lawcd 310 = some (.iload 4, 2) := by decide +kernel
theorem cL_312 : mc_lawcd 312 = some (.iconst 4, 1) := by decide +kernel
theorem cL_313 : mc_lawcd 313 = some (.iadd, 1) := by decide +kernel
theorem cL_314 : mc_lawcd 314 = some (.iaload, 1) := by decide +kernel
theorem cL_315 : mc_lawcd 315 = some (.aload_n 0, 1) := by decide +kernel
theorem cL_316 : mc_lawcd 316 = some (.iload 4, 2) := by decide +kernel
theorem cL_318 : mc_lawcd 318 = some (.iconst 5, 1) := by decide +kernel
theorem cL_319 : mc_lawcd 319 = some (.iadd, 1) := by decide +kernel
theorem cL_320 : mc_lawcd 320 = some (.iaload, 1) := by decide +kernel
theorem cL_321 : mc_lawcd 321 = some (.invokevirtual 23, 3) := by decide +kernel
theorem cL_324 : mc_lawcd 324 = some (.if_icmp .eq 1329, 3) := by decide +kernel
theorem cL_327 : mc_lawcd 327 = some (.iconst 0, 1) := by decide +kernel
theorem cL_328 : mc_lawcd 328 = some (.ireturn, 1) := by decide +kernel
theorem cL_329 : mc_lawcd 329 = some (.aload_n 1, 1) := by decide +kernel
theorem cL_330 : mc_lawcd 330 = some (.aload_n 0, 1) := by decide +kernel
theorem cL_331 : mc_lawcd 331 = some (.iload 4, 2) := by decide +kernel
theorem cL_333 : mc_lawcd 333 = some (.iconst 1, 1) := by decide +kernel
theorem cL_334 : mc_lawcd 334 = some (.iadd, 1) := by decide +kernel
theorem cL_335 : mc_lawcd 335 = some (.iaload, 1) := by decide +kernel
theorem cL_336 : mc_lawcd 336 = some (.invokevirtual 24, 3) := by decide +kernel
theorem cL_339 : mc_lawcd 339 = some (.pop, 1) := by decide +kernel
theorem cL_340 : mc_lawcd 340 = some (.aload_n 2, 1) := by decide +kernel
theorem cL_341 : mc_lawcd 341 = some (.aload_n 0, 1) := by decide +kernel
theorem cL_342 : mc_lawcd 342 = some (.iload 4, 2) := by decide +kernel
theorem cL_344 : mc_lawcd 344 = some (.iconst 1, 1) := by decide +kernel
theorem cL_345 : mc_lawcd 345 = some (.iadd, 1) := by decide +kernel
theorem cL_346 : mc_lawcd 346 = some (.iaload, 1) := by decide +kernel
theorem cL_347 : mc_lawcd 347 = some (.invokevirtual 27, 3) := by decide +kernel
theorem cL_350 : mc_lawcd 350 = some (.pop, 1) := by decide +kernel
theorem cL_351 : mc_lawcd 351 = some (.goto 1302, 3) := by decide +kernel
theorem cL_354 : mc_lawcd 354 = some (.aload_n 1, 1) := by decide +kernel
theorem cL_355 : mc_lawcd 355 = some (.invokevirtual 28, 3) := by decide +kernel
theorem cL_358 : mc_lawcd 358 = some (.pop, 1) := by decide +kernel
theorem cL_359 : mc_lawcd 359 = some (.aload_n 2, 1) := by decide +kernel
theorem cL_360 : mc_lawcd 360 = some (.invokevirtual 32, 3) := by decide +kernel
theorem cL_363 : mc_lawcd 363 = some (.pop, 1) := by decide +kernel
theorem cL_364 : mc_lawcd 364 = some (.goto 1289, 3) := by decide +kernel
theorem cL_367 : mc_lawcd 367 = some (.aload_n 1, 1) := by decide +kernel
theorem cL_368 : mc_lawcd 368 = some (.invokevirtual 33, 3) := by decide +kernel
theorem cL_371 : mc_lawcd 371 = some (.pop, 1) := by decide +kernel
theorem cL_372 : mc_lawcd 372 = some (.aload_n 2, 1) := by decide +kernel
theorem cL_373 : mc_lawcd 373 = some (.invokevirtual 36, 3) := by decide +kernel
theorem cL_376 : mc_lawcd 376 = some (.pop, 1) := by decide +kernel
theorem cL_377 : mc_lawcd 377 = some (.goto 1276, 3) := by decide +kernel
theorem cL_380 : mc_lawcd 380 = some (.aload_n 1, 1) := by decide +kernel
theorem cL_381 : mc_lawcd 381 = some (.aload_n 0, 1) := by decide +kernel
theorem cL_382 : mc_lawcd 382 = some (.iload 4, 2) := by decide +kernel
theorem cL_384 : mc_lawcd 384 = some (.iconst 1, 1) := by decide +kernel
theorem cL_385 : mc_lawcd 385 = some (.iadd, 1) := by decide +kernel
theorem cL_386 : mc_lawcd 386 = some (.iaload, 1) := by decide +kernel
theorem cL_387 : mc_lawcd 387 = some (.invokevirtual 37, 3) := by decide +kernel
theorem cL_390 : mc_lawcd 390 = some (.pop, 1) := by decide +kernel
theorem cL_391 : mc_lawcd 391 = some (.aload_n 2, 1) := by decide +kernel
theorem cL_392 : mc_lawcd 392 = some (.aload_n 0, 1) := by decide +kernel
theorem cL_393 : mc_lawcd 393 = some (.iload 4, 2) := by decide +kernel
theorem cL_395 : mc_lawcd 395 = some (.iconst 1, 1) := by decide +kernel
theorem cL_396 : mc_lawcd 396 = some (.iadd, 1) := by decide +kernel
theorem cL_397 : mc_lawcd 397 = some (.iaload, 1) := by decide +kernel
theorem cL_398 : mc_lawcd 398 = some (.invokevirtual 40, 3) := by decide +kernel
theorem cL_401 : mc_lawcd 401 = some (.pop, 1) := by decide +kernel
theorem cL_402 : mc_lawcd 402 = some (.goto 1251, 3) := by decide +kernel
theorem cL_405 : mc_lawcd 405 = some (.aload_n 1, 1) := by decide +kernel
theorem cL_406 : mc_lawcd 406 = some (.aload_n 0, 1) := by decide +kernel
theorem cL_407 : mc_lawcd 407 = some (.iload 4, 2) := by decide +kernel
theorem cL_409 : mc_lawcd 409 = some (.iconst 1, 1) := by decide +kernel
theorem cL_410 : mc_lawcd 410 = some (.iadd, 1) := by decide +kernel
theorem cL_411 : mc_lawcd 411 = some (.iaload, 1) := by decide +kernel
theorem cL_412 : mc_lawcd 412 = some (.aload_n 0, 1) := by decide +kernel
theorem cL_413 : mc_lawcd 413 = some (.iload 4, 2) := by decide +kernel
theorem cL_415 : mc_lawcd 415 = some (.iconst 2, 1) := by decide +kernel
theorem cL_416 : mc_lawcd 416 = some (.iadd, 1) := by decide +kernel
theorem cL_417 : mc_lawcd 417 = some (.iaload, 1) := by decide +kernel
theorem cL_418 : mc_lawcd 418 = some (.aload_n 0, 1) := by decide +kernel
theorem cL_419 : mc_lawcd 419 = some (.iload 4, 2) := by decide +kernel
theorem cL_421 : mc_lawcd 421 = some (.iconst 3, 1) := by decide +kernel
theorem cL_422 : mc_lawcd 422 = some (.iadd, 1) := by decide +kernel
theorem cL_423 : mc_lawcd 423 = some (.iaload, 1) := by decide +kernel
theorem cL_424 : mc_lawcd 424 = some (.invokevirtual 41, 3) := by decide +kernel
theorem cL_427 : mc_lawcd 427 = some (.pop, 1) := by decide +kernel
theorem cL_428 : mc_lawcd 428 = some (.aload_n 2, 1) := by decide +kernel
theorem cL_429 : mc_lawcd 429 = some (.aload_n 0, 1) := by decide +kernel
theorem cL_430 : mc_lawcd 430 = some (.iload 4, 2) := by decide +kernel
theorem cL_432 : mc_lawcd 432 = some (.iconst 1, 1) := by decide +kernel
theorem cL_433 : mc_lawcd 433 = some (.iadd, 1) := by decide +kernel
theorem cL_434 : mc_lawcd 434 = some (.iaload, 1) := by decide +kernel
theorem cL_435 : mc_lawcd 435 = some (.aload_n 0, 1) := by decide +kernel
theorem cL_436 : mc_lawcd 436 = some (.iload 4, 2) := by decide +kernel
theorem cL_438 : mc_lawcd 438 = some (.iconst 2, 1) := by decide +kernel
theorem cL_439 : mc_lawcd 439 = some (.iadd, 1) := by decide +kernel
theorem cL_440 : mc_lawcd 440 = some (.iaload, 1) := by decide +kernel
theorem cL_441 : mc_lawcd 441 = some (.aload_n 0, 1) := by decide +kernel
theorem cL_442 : mc_lawcd 442 = some (.iload 4, 2) := by decide +kernel
theorem cL_444 : mc_lawcd 444 = some (.iconst 3, 1) := by decide +kernel
theorem cL_445 : mc_lawcd 445 = some (.iadd, 1) := by decide +kernel
theorem cL_446 : mc_lawcd 446 = some (.iaload, 1) := by decide +kernel
theorem cL_447 : mc_lawcd 447 = some (.invokevirtual 45, 3) := by decide +kernel
theorem cL_450 : mc_lawcd 450 = some (.pop, 1) := by decide +kernel
theorem cL_451 : mc_lawcd 451 = some (.goto 1202, 3) := by decide +kernel
theorem cL_454 : mc_lawcd 454 = some (.aload_n 1, 1) := by decide +kernel
theorem cL_455 : mc_lawcd 455 = some (.aload_n 0, 1) := by decide +kernel
theorem cL_456 : mc_lawcd 456 = some (.iload 4, 2) := by decide +kernel
theorem cL_458 : mc_lawcd 458 = some (.iconst 1, 1) := by decide +kernel
theorem cL_459 : mc_lawcd 459 = some (.iadd, 1) := by decide +kernel
theorem cL_460 : mc_lawcd 460 = some (.iaload, 1) := by decide +kernel
theorem cL_461 : mc_lawcd 461 = some (.aload_n 0, 1) := by decide +kernel
theorem cL_462 : mc_lawcd 462 = some (.iload 4, 2) := by decide +kernel
theorem cL_464 : mc_lawcd 464 = some (.iconst 2, 1) := by decide +kernel
theorem cL_465 : mc_lawcd 465 = some (.iadd, 1) := by decide +kernel
theorem cL_466 : mc_lawcd 466 = some (.iaload, 1) := by decide +kernel
theorem cL_467 : mc_lawcd 467 = some (.aload_n 0, 1) := by decide +kernel
theorem cL_468 : mc_lawcd 468 = some (.iload 4, 2) := by decide +kernel
theorem cL_470 : mc_lawcd 470 = some (.iconst 3, 1) := by decide +kernel
theorem cL_471 : mc_lawcd 471 = some (.iadd, 1) := by decide +kernel
theorem cL_472 : mc_lawcd 472 = some (.iaload, 1) := by decide +kernel
theorem cL_473 : mc_lawcd 473 = some (.invokevirtual 46, 3) := by decide +kernel
theorem cL_476 : mc_lawcd 476 = some (.pop, 1) := by decide +kernel
theorem cL_477 : mc_lawcd 477 = some (.aload_n 2, 1) := by decide +kernel
theorem cL_478 : mc_lawcd 478 = some (.aload_n 0, 1) := by decide +kernel
theorem cL_479 : mc_lawcd 479 = some (.iload 4, 2) := by decide +kernel
theorem cL_481 : mc_lawcd 481 = some (.iconst 1, 1) := by decide +kernel
theorem cL_482 : mc_lawcd 482 = some (.iadd, 1) := by decide +kernel
theorem cL_483 : mc_lawcd 483 = some (.iaload, 1) := by decide +kernel
theorem cL_484 : mc_lawcd 484 = some (.aload_n 0, 1) := by decide +kernel
theorem cL_485 : mc_lawcd 485 = some (.iload 4, 2) := by decide +kernel
theorem cL_487 : mc_lawcd 487 = some (.iconst 2, 1) := by decide +kernel
theorem cL_488 : mc_lawcd 488 = some (.iadd, 1) := by decide +kernel
theorem cL_489 : mc_lawcd 489 = some (.iaload, 1) := by decide +kernel
theorem cL_490 : mc_lawcd 490 = some (.aload_n 0, 1) := by decide +kernel
theorem cL_491 : mc_lawcd 491 = some (.iload 4, 2) := by decide +kernel
theorem cL_493 : mc_lawcd 493 = some (.iconst 3, 1) := by decide +kernel
theorem cL_494 : mc_lawcd 494 = some (.iadd, 1) := by decide +kernel
theorem cL_495 : mc_lawcd 495 = some (.iaload, 1) := by decide +kernel
theorem cL_496 : mc_lawcd 496 = some (.invokevirtual 49, 3) := by decide +kernel
theorem cL_499 : mc_lawcd 499 = some (.pop, 1) := by decide +kernel
theorem cL_500 : mc_lawcd 500 = some (.goto 1153, 3) := by decide +kernel
theorem cL_503 : mc_lawcd 503 = some (.aload_n 1, 1) := by decide +kernel
theorem cL_504 : mc_lawcd 504 = some (.invokevirtual 50, 3) := by decide +kernel
theorem cL_507 : mc_lawcd 507 = some (.pop2, 1) := by decide +kernel
theorem cL_508 : mc_lawcd 508 = some (.aload_n 2, 1) := by decide +kernel
theorem cL_509 : mc_lawcd 509 = some (.invokevirtual 54, 3) := by decide +kernel
theorem cL_512 : mc_lawcd 512 = some (.pop2, 1) := by decide +kernel
theorem cL_513 : mc_lawcd 513 = some (.goto 1140, 3) := by decide +kernel
theorem cL_516 : mc_lawcd 516 = some (.aload_n 1, 1) := by decide +kernel
theorem cL_517 : mc_lawcd 517 = some (.aload_n 0, 1) := by decide +kernel
theorem cL_518 : mc_lawcd 518 = some (.iload 4, 2) := by decide +kernel
theorem cL_520 : mc_lawcd 520 = some (.iconst 1, 1) := by decide +kernel
theorem cL_521 : mc_lawcd 521 = some (.iadd, 1) := by decide +kernel
theorem cL_522 : mc_lawcd 522 = some (.iaload, 1) := by decide +kernel
theorem cL_523 : mc_lawcd 523 = some (.aload_n 0, 1) := by decide +kernel
theorem cL_524 : mc_lawcd 524 = some (.iload 4, 2) := by decide +kernel
theorem cL_526 : mc_lawcd 526 = some (.iconst 2, 1) := by decide +kernel
theorem cL_527 : mc_lawcd 527 = some (.iadd, 1) := by decide +kernel
theorem cL_528 : mc_lawcd 528 = some (.iaload, 1) := by decide +kernel
theorem cL_529 : mc_lawcd 529 = some (.invokevirtual 55, 3) := by decide +kernel
theorem cL_532 : mc_lawcd 532 = some (.pop, 1) := by decide +kernel
theorem cL_533 : mc_lawcd 533 = some (.aload_n 2, 1) := by decide +kernel
theorem cL_534 : mc_lawcd 534 = some (.aload_n 0, 1) := by decide +kernel
theorem cL_535 : mc_lawcd 535 = some (.iload 4, 2) := by decide +kernel
theorem cL_537 : mc_lawcd 537 = some (.iconst 1, 1) := by decide +kernel
theorem cL_538 : mc_lawcd 538 = some (.iadd, 1) := by decide +kernel
theorem cL_539 : mc_lawcd 539 = some (.iaload, 1) := by decide +kernel
theorem cL_540 : mc_lawcd 540 = some (.aload_n 0, 1) := by decide +kernel
theorem cL_541 : mc_lawcd 541 = some (.iload 4, 2) := by decide +kernel
theorem cL_543 : mc_lawcd 543 = some (.iconst 2, 1) := by decide +kernel
theorem cL_544 : mc_lawcd 544 = some (.iadd, 1) := by decide +kernel
theorem cL_545 : mc_lawcd 545 = some (.iaload, 1) := by decide +kernel
theorem cL_546 : mc_lawcd 546 = some (.invokevirtual 59, 3) := by decide +kernel
theorem cL_549 : mc_lawcd 549 = some (.pop, 1) := by decide +kernel
theorem cL_550 : mc_lawcd 550 = some (.goto 1103, 3) := by decide +kernel
theorem cL_553 : mc_lawcd 553 = some (.aload_n 1, 1) := by decide +kernel
theorem cL_554 : mc_lawcd 554 = some (.aload_n 0, 1) := by decide +kernel
theorem cL_555 : mc_lawcd 555 = some (.iload 4, 2) := by decide +kernel
theorem cL_557 : mc_lawcd 557 = some (.iconst 1, 1) := by decide +kernel
theorem cL_558 : mc_lawcd 558 = some (.iadd, 1) := by decide +kernel
theorem cL_559 : mc_lawcd 559 = some (.iaload, 1) := by decide +kernel
theorem cL_560 : mc_lawcd 560 = some (.invokevirtual 60, 3) := by decide +kernel
theorem cL_563 : mc_lawcd 563 = some (.pop, 1) := by decide +kernel
theorem cL_564 : mc_lawcd 564 = some (.aload_n 2, 1) := by decide +kernel
theorem cL_565 : mc_lawcd 565 = some (.aload_n 0, 1) := by decide +kernel
theorem cL_566 : mc_lawcd 566 = some (.iload 4, 2) := by decide +kernel
theorem cL_568 : mc_lawcd 568 = some (.iconst 1, 1) := by decide +kernel
theorem cL_569 : mc_lawcd 569 = some (.iadd, 1) := by decide +kernel
theorem cL_570 : mc_lawcd 570 = some (.iaload, 1) := by decide +kernel
theorem cL_571 : mc_lawcd 571 = some (.invokevirtual 63, 3) := by decide +kernel
theorem cL_574 : mc_lawcd 574 = some (.pop, 1) := by decide +kernel
theorem cL_575 : mc_lawcd 575 = some (.goto 1078, 3) := by decide +kernel
theorem cL_578 : mc_lawcd 578 = some (.aload_n 1, 1) := by decide +kernel
theorem cL_579 : mc_lawcd 579 = some (.aload_n 0, 1) := by decide +kernel
theorem cL_580 : mc_lawcd 580 = some (.iload 4, 2) := by decide +kernel
theorem cL_582 : mc_lawcd 582 = some (.iconst 1, 1) := by decide +kernel
theorem cL_583 : mc_lawcd 583 = some (.iadd, 1) := by decide +kernel
theorem cL_584 : mc_lawcd 584 = some (.iaload, 1) := by decide +kernel
theorem cL_585 : mc_lawcd 585 = some (.invokevirtual 64, 3) := by decide +kernel
theorem cL_588 : mc_lawcd 588 = some (.pop, 1) := by decide +kernel
theorem cL_589 : mc_lawcd 589 = some (.aload_n 2, 1) := by decide +kernel
theorem cL_590 : mc_lawcd 590 = some (.aload_n 0, 1) := by decide +kernel
theorem cL_591 : mc_lawcd 591 = some (.iload 4, 2) := by decide +kernel
theorem cL_593 : mc_lawcd 593 = some (.iconst 1, 1) := by decide +kernel
theorem cL_594 : mc_lawcd 594 = some (.iadd, 1) := by decide +kernel
theorem cL_595 : mc_lawcd 595 = some (.iaload, 1) := by decide +kernel
theorem cL_596 : mc_lawcd 596 = some (.invokevirtual 67, 3) := by decide +kernel
theorem cL_599 : mc_lawcd 599 = some (.pop, 1) := by decide +kernel
theorem cL_600 : mc_lawcd 600 = some (.goto 1053, 3) := by decide +kernel
theorem cL_603 : mc_lawcd 603 = some (.aload_n 1, 1) := by decide +kernel
theorem cL_604 : mc_lawcd 604 = some (.invokevirtual 68, 3) := by decide +kernel
theorem cL_607 : mc_lawcd 607 = some (.pop, 1) := by decide +kernel
theorem cL_608 : mc_lawcd 608 = some (.aload_n 2, 1) := by decide +kernel
theorem cL_609 : mc_lawcd 609 = some (.invokevirtual 71, 3) := by decide +kernel
theorem cL_612 : mc_lawcd 612 = some (.pop, 1) := by decide +kernel
theorem cL_613 : mc_lawcd 613 = some (.goto 1040, 3) := by decide +kernel
theorem cL_616 : mc_lawcd 616 = some (.aload_n 1, 1) := by decide +kernel
theorem cL_617 : mc_lawcd 617 = some (.invokevirtual 72, 3) := by decide +kernel
theorem cL_620 : mc_lawcd 620 = some (.pop, 1) := by decide +kernel
theorem cL_621 : mc_lawcd 621 = some (.aload_n 2, 1) := by decide +kernel
theorem cL_622 : mc_lawcd 622 = some (.invokevirtual 75, 3) := by decide +kernel
theorem cL_625 : mc_lawcd 625 = some (.pop, 1) := by decide +kernel
theorem cL_626 : mc_lawcd 626 = some (.goto 1027, 3) := by decide +kernel
theorem cL_629 : mc_lawcd 629 = some (.aload_n 1, 1) := by decide +kernel
theorem cL_630 : mc_lawcd 630 = some (.invokevirtual 76, 3) := by decide +kernel
theorem cL_633 : mc_lawcd 633 = some (.pop, 1) := by decide +kernel
theorem cL_634 : mc_lawcd 634 = some (.aload_n 2, 1) := by decide +kernel
theorem cL_635 : mc_lawcd 635 = some (.invokevirtual 79, 3) := by decide +kernel
theorem cL_638 : mc_lawcd 638 = some (.pop, 1) := by decide +kernel
theorem cL_639 : mc_lawcd 639 = some (.goto 1014, 3) := by decide +kernel
theorem cL_642 : mc_lawcd 642 = some (.aload_n 1, 1) := by decide +kernel
theorem cL_643 : mc_lawcd 643 = some (.invokevirtual 80, 3) := by decide +kernel
theorem cL_646 : mc_lawcd 646 = some (.pop, 1) := by decide +kernel
theorem cL_647 : mc_lawcd 647 = some (.aload_n 2, 1) := by decide +kernel
theorem cL_648 : mc_lawcd 648 = some (.invokevirtual 83, 3) := by decide +kernel
theorem cL_651 : mc_lawcd 651 = some (.pop, 1) := by decide +kernel
theorem cL_652 : mc_lawcd 652 = some (.goto 1001, 3) := by decide +kernel
theorem cL_655 : mc_lawcd 655 = some (.aload_n 1, 1) := by decide +kernel
theorem cL_656 : mc_lawcd 656 = some (.invokevirtual 84, 3) := by decide +kernel
theorem cL_659 : mc_lawcd 659 = some (.pop, 1) := by decide +kernel
theorem cL_660 : mc_lawcd 660 = some (.aload_n 2, 1) := by decide +kernel
theorem cL_661 : mc_lawcd 661 = some (.invokevirtual 87, 3) := by decide +kernel
theorem cL_664 : mc_lawcd 664 = some (.pop, 1) := by decide +kernel
theorem cL_665 : mc_lawcd 665 = some (.goto 988, 3) := by decide +kernel
theorem cL_668 : mc_lawcd 668 = some (.aload_n 1, 1) := by decide +kernel
theorem cL_669 : mc_lawcd 669 = some (.aload_n 0, 1) := by decide +kernel
theorem cL_670 : mc_lawcd 670 = some (.iload 4, 2) := by decide +kernel
theorem cL_672 : mc_lawcd 672 = some (.iconst 1, 1) := by decide +kernel
theorem cL_673 : mc_lawcd 673 = some (.iadd, 1) := by decide +kernel
theorem cL_674 : mc_lawcd 674 = some (.iaload, 1) := by decide +kernel
theorem cL_675 : mc_lawcd 675 = some (.aload_n 0, 1) := by decide +kernel
theorem cL_676 : mc_lawcd 676 = some (.iload 4, 2) := by decide +kernel
theorem cL_678 : mc_lawcd 678 = some (.iconst 2, 1) := by decide +kernel
theorem cL_679 : mc_lawcd 679 = some (.iadd, 1) := by decide +kernel
theorem cL_680 : mc_lawcd 680 = some (.iaload, 1) := by decide +kernel
theorem cL_681 : mc_lawcd 681 = some (.invokevirtual 88, 3) := by decide +kernel
theorem cL_684 : mc_lawcd 684 = some (.pop, 1) := by decide +kernel
theorem cL_685 : mc_lawcd 685 = some (.aload_n 2, 1) := by decide +kernel
theorem cL_686 : mc_lawcd 686 = some (.aload_n 0, 1) := by decide +kernel
theorem cL_687 : mc_lawcd 687 = some (.iload 4, 2) := by decide +kernel
theorem cL_689 : mc_lawcd 689 = some (.iconst 1, 1) := by decide +kernel
theorem cL_690 : mc_lawcd 690 = some (.iadd, 1) := by decide +kernel
theorem cL_691 : mc_lawcd 691 = some (.iaload, 1) := by decide +kernel
theorem cL_692 : mc_lawcd 692 = some (.aload_n 0, 1) := by decide +kernel
theorem cL_693 : mc_lawcd 693 = some (.iload 4, 2) := by decide +kernel
theorem cL_695 : mc_lawcd 695 = some (.iconst 2, 1) := by decide +kernel
theorem cL_696 : mc_lawcd 696 = some (.iadd, 1) := by decide +kernel
theorem cL_697 : mc_lawcd 697 = some (.iaload, 1) := by decide +kernel
theorem cL_698 : mc_lawcd 698 = some (.invokevirtual 92, 3) := by decide +kernel
theorem cL_701 : mc_lawcd 701 = some (.pop, 1) := by decide +kernel
theorem cL_702 : mc_lawcd 702 = some (.goto 951, 3) := by decide +kernel
theorem cL_705 : mc_lawcd 705 = some (.aload_n 1, 1) := by decide +kernel
theorem cL_706 : mc_lawcd 706 = some (.invokevirtual 93, 3) := by decide +kernel
theorem cL_709 : mc_lawcd 709 = some (.pop2, 1) := by decide +kernel
theorem cL_710 : mc_lawcd 710 = some (.aload_n 2, 1) := by decide +kernel
theorem cL_711 : mc_lawcd 711 = some (.invokevirtual 96, 3) := by decide +kernel
theorem cL_714 : mc_lawcd 714 = some (.pop2, 1) := by decide +kernel
theorem cL_715 : mc_lawcd 715 = some (.goto 938, 3) := by decide +kernel
theorem cL_718 : mc_lawcd 718 = some (.aload_n 1, 1) := by decide +kernel
theorem cL_719 : mc_lawcd 719 = some (.aload_n 0, 1) := by decide +kernel
theorem cL_720 : mc_lawcd 720 = some (.iload 4, 2) := by decide +kernel
theorem cL_722 : mc_lawcd 722 = some (.iconst 1, 1) := by decide +kernel
theorem cL_723 : mc_lawcd 723 = some (.iadd, 1) := by decide +kernel
theorem cL_724 : mc_lawcd 724 = some (.iaload, 1) := by decide +kernel
theorem cL_725 : mc_lawcd 725 = some (.aload_n 0, 1) := by decide +kernel
theorem cL_726 : mc_lawcd 726 = some (.iload 4, 2) := by decide +kernel
theorem cL_728 : mc_lawcd 728 = some (.iconst 2, 1) := by decide +kernel
theorem cL_729 : mc_lawcd 729 = some (.iadd, 1) := by decide +kernel
theorem cL_730 : mc_lawcd 730 = some (.iaload, 1) := by decide +kernel
theorem cL_731 : mc_lawcd 731 = some (.invokevirtual 97, 3) := by decide +kernel
theorem cL_734 : mc_lawcd 734 = some (.pop, 1) := by decide +kernel
theorem cL_735 : mc_lawcd 735 = some (.aload_n 2, 1) := by decide +kernel
theorem cL_736 : mc_lawcd 736 = some (.aload_n 0, 1) := by decide +kernel
theorem cL_737 : mc_lawcd 737 = some (.iload 4, 2) := by decide +kernel
theorem cL_739 : mc_lawcd 739 = some (.iconst 1, 1) := by decide +kernel
theorem cL_740 : mc_lawcd 740 = some (.iadd, 1) := by decide +kernel
theorem cL_741 : mc_lawcd 741 = some (.iaload, 1) := by decide +kernel
theorem cL_742 : mc_lawcd 742 = some (.aload_n 0, 1) := by decide +kernel
theorem cL_743 : mc_lawcd 743 = some (.iload 4, 2) := by decide +kernel
theorem cL_745 : mc_lawcd 745 = some (.iconst 2, 1) := by decide +kernel
theorem cL_746 : mc_lawcd 746 = some (.iadd, 1) := by decide +kernel
theorem cL_747 : mc_lawcd 747 = some (.iaload, 1) := by decide +kernel
theorem cL_748 : mc_lawcd 748 = some (.invokevirtual 100, 3) := by decide +kernel
theorem cL_751 : mc_lawcd 751 = some (.pop, 1) := by decide +kernel
theorem cL_752 : mc_lawcd 752 = some (.goto 901, 3) := by decide +kernel
theorem cL_755 : mc_lawcd 755 = some (.aload_n 1, 1) := by decide +kernel
theorem cL_756 : mc_lawcd 756 = some (.aload_n 0, 1) := by decide +kernel
theorem cL_757 : mc_lawcd 757 = some (.iload 4, 2) := by decide +kernel
theorem cL_759 : mc_lawcd 759 = some (.iconst 1, 1) := by decide +kernel
theorem cL_760 : mc_lawcd 760 = some (.iadd, 1) := by decide +kernel
theorem cL_761 : mc_lawcd 761 = some (.iaload, 1) := by decide +kernel
theorem cL_762 : mc_lawcd 762 = some (.aload_n 0, 1) := by decide +kernel
theorem cL_763 : mc_lawcd 763 = some (.iload 4, 2) := by decide +kernel
theorem cL_765 : mc_lawcd 765 = some (.iconst 2, 1) := by decide +kernel
theorem cL_766 : mc_lawcd 766 = some (.iadd, 1) := by decide +kernel
theorem cL_767 : mc_lawcd 767 = some (.iaload, 1) := by decide +kernel
theorem cL_768 : mc_lawcd 768 = some (.invokevirtual 101, 3) := by decide +kernel
theorem cL_771 : mc_lawcd 771 = some (.pop, 1) := by decide +kernel
theorem cL_772 : mc_lawcd 772 = some (.aload_n 2, 1) := by decide +kernel
theorem cL_773 : mc_lawcd 773 = some (.aload_n 0, 1) := by decide +kernel
theorem cL_774 : mc_lawcd 774 = some (.iload 4, 2) := by decide +kernel
theorem cL_776 : mc_lawcd 776 = some (.iconst 1, 1) := by decide +kernel
theorem cL_777 : mc_lawcd 777 = some (.iadd, 1) := by decide +kernel
theorem cL_778 : mc_lawcd 778 = some (.iaload, 1) := by decide +kernel
theorem cL_779 : mc_lawcd 779 = some (.aload_n 0, 1) := by decide +kernel
theorem cL_780 : mc_lawcd 780 = some (.iload 4, 2) := by decide +kernel
theorem cL_782 : mc_lawcd 782 = some (.iconst 2, 1) := by decide +kernel
theorem cL_783 : mc_lawcd 783 = some (.iadd, 1) := by decide +kernel
theorem cL_784 : mc_lawcd 784 = some (.iaload, 1) := by decide +kernel
theorem cL_785 : mc_lawcd 785 = some (.invokevirtual 104, 3) := by decide +kernel
theorem cL_788 : mc_lawcd 788 = some (.pop, 1) := by decide +kernel
theorem cL_789 : mc_lawcd 789 = some (.goto 864, 3) := by decide +kernel
theorem cL_792 : mc_lawcd 792 = some (.aload_n 1, 1) := by decide +kernel
theorem cL_793 : mc_lawcd 793 = some (.aload_n 0, 1) := by decide +kernel
theorem cL_794 : mc_lawcd 794 = some (.iload 4, 2) := by decide +kernel
theorem cL_796 : mc_lawcd 796 = some (.iconst 1, 1) := by decide +kernel
theorem cL_797 : mc_lawcd 797 = some (.iadd, 1) := by decide +kernel
theorem cL_798 : mc_lawcd 798 = some (.iaload, 1) := by decide +kernel
theorem cL_799 : mc_lawcd 799 = some (.aload_n 0, 1) := by decide +kernel
theorem cL_800 : mc_lawcd 800 = some (.iload 4, 2) := by decide +kernel
theorem cL_802 : mc_lawcd 802 = some (.iconst 2, 1) := by decide +kernel
theorem cL_803 : mc_lawcd 803 = some (.iadd, 1) := by decide +kernel
theorem cL_804 : mc_lawcd 804 = some (.iaload, 1) := by decide +kernel
theorem cL_805 : mc_lawcd 805 = some (.invokevirtual 105, 3) := by decide +kernel
theorem cL_808 : mc_lawcd 808 = some (.pop, 1) := by decide +kernel
theorem cL_809 : mc_lawcd 809 = some (.aload_n 2, 1) := by decide +kernel
theorem cL_810 : mc_lawcd 810 = some (.aload_n 0, 1) := by decide +kernel
theorem cL_811 : mc_lawcd 811 = some (.iload 4, 2) := by decide +kernel
theorem cL_813 : mc_lawcd 813 = some (.iconst 1, 1) := by decide +kernel
theorem cL_814 : mc_lawcd 814 = some (.iadd, 1) := by decide +kernel
theorem cL_815 : mc_lawcd 815 = some (.iaload, 1) := by decide +kernel
theorem cL_816 : mc_lawcd 816 = some (.aload_n 0, 1) := by decide +kernel
theorem cL_817 : mc_lawcd 817 = some (.iload 4, 2) := by decide +kernel
theorem cL_819 : mc_lawcd 819 = some (.iconst 2, 1) := by decide +kernel
theorem cL_820 : mc_lawcd 820 = some (.iadd, 1) := by decide +kernel
theorem cL_821 : mc_lawcd 821 = some (.iaload, 1) := by decide +kernel
theorem cL_822 : mc_lawcd 822 = some (.invokevirtual 108, 3) := by decide +kernel
theorem cL_825 : mc_lawcd 825 = some (.pop, 1) := by decide +kernel
theorem cL_826 : mc_lawcd 826 = some (.goto 827, 3) := by decide +kernel
theorem cL_829 : mc_lawcd 829 = some (.aload_n 1, 1) := by decide +kernel
theorem cL_830 : mc_lawcd 830 = some (.aload_n 0, 1) := by decide +kernel
theorem cL_831 : mc_lawcd 831 = some (.iload 4, 2) := by decide +kernel
theorem cL_833 : mc_lawcd 833 = some (.iconst 1, 1) := by decide +kernel
theorem cL_834 : mc_lawcd 834 = some (.iadd, 1) := by decide +kernel
theorem cL_835 : mc_lawcd 835 = some (.iaload, 1) := by decide +kernel
theorem cL_836 : mc_lawcd 836 = some (.aload_n 0, 1) := by decide +kernel
theorem cL_837 : mc_lawcd 837 = some (.iload 4, 2) := by decide +kernel
theorem cL_839 : mc_lawcd 839 = some (.iconst 2, 1) := by decide +kernel
theorem cL_840 : mc_lawcd 840 = some (.iadd, 1) := by decide +kernel
theorem cL_841 : mc_lawcd 841 = some (.iaload, 1) := by decide +kernel
theorem cL_842 : mc_lawcd 842 = some (.ifCond .eq 7, 3) := by decide +kernel
theorem cL_845 : mc_lawcd 845 = some (.iconst 1, 1) := by decide +kernel
theorem cL_846 : mc_lawcd 846 = some (.goto 4, 3) := by decide +kernel
theorem cL_849 : mc_lawcd 849 = some (.iconst 0, 1) := by decide +kernel
theorem cL_850 : mc_lawcd 850 = some (.invokevirtual 109, 3) := by decide +kernel
theorem cL_853 : mc_lawcd 853 = some (.pop, 1) := by decide +kernel
theorem cL_854 : mc_lawcd 854 = some (.aload_n 2, 1) := by decide +kernel
theorem cL_855 : mc_lawcd 855 = some (.aload_n 0, 1) := by decide +kernel
theorem cL_856 : mc_lawcd 856 = some (.iload 4, 2) := by decide +kernel
theorem cL_858 : mc_lawcd 858 = some (.iconst 1, 1) := by decide +kernel
theorem cL_859 : mc_lawcd 859 = some (.iadd, 1) := by decide +kernel
theorem cL_860 : mc_lawcd 860 = some (.iaload, 1) := by decide +kernel
theorem cL_861 : mc_lawcd 861 = some (.aload_n 0, 1) := by decide +kernel
theorem cL_862 : mc_lawcd 862 = some (.iload 4, 2) := by decide +kernel
theorem cL_864 : mc_lawcd 864 = some (.iconst 2, 1) := by decide +kernel
theorem cL_865 : mc_lawcd 865 = some (.iadd, 1) := by decide +kernel
theorem cL_866 : mc_lawcd 866 = some (.iaload, 1) := by decide +kernel
theorem cL_867 : mc_lawcd 867 = some (.ifCond .eq 7, 3) := by decide +kernel
theorem cL_870 : mc_lawcd 870 = some (.iconst 1, 1) := by decide +kernel
theorem cL_871 : mc_lawcd 871 = some (.goto 4, 3) := by decide +kernel
theorem cL_874 : mc_lawcd 874 = some (.iconst 0, 1) := by decide +kernel
theorem cL_875 : mc_lawcd 875 = some (.invokevirtual 113, 3) := by decide +kernel
theorem cL_878 : mc_lawcd 878 = some (.pop, 1) := by decide +kernel
theorem cL_879 : mc_lawcd 879 = some (.goto 774, 3) := by decide +kernel
theorem cL_882 : mc_lawcd 882 = some (.aload_n 1, 1) := by decide +kernel
theorem cL_883 : mc_lawcd 883 = some (.aload_n 0, 1) := by decide +kernel
theorem cL_884 : mc_lawcd 884 = some (.iload 4, 2) := by decide +kernel
theorem cL_886 : mc_lawcd 886 = some (.iconst 1, 1) := by decide +kernel
theorem cL_887 : mc_lawcd 887 = some (.iadd, 1) := by decide +kernel
theorem cL_888 : mc_lawcd 888 = some (.iaload, 1) := by decide +kernel
theorem cL_889 : mc_lawcd 889 = some (.aload_n 0, 1) := by decide +kernel
theorem cL_890 : mc_lawcd 890 = some (.iload 4, 2) := by decide +kernel
theorem cL_892 : mc_lawcd 892 = some (.iconst 2, 1) := by decide +kernel
theorem cL_893 : mc_lawcd 893 = some (.iadd, 1) := by decide +kernel
theorem cL_894 : mc_lawcd 894 = some (.iaload, 1) := by decide +kernel
theorem cL_895 : mc_lawcd 895 = some (.invokevirtual 114, 3) := by decide +kernel
theorem cL_898 : mc_lawcd 898 = some (.pop, 1) := by decide +kernel
theorem cL_899 : mc_lawcd 899 = some (.aload_n 2, 1) := by decide +kernel
theorem cL_900 : mc_lawcd 900 = some (.aload_n 0, 1) := by decide +kernel
theorem cL_901 : mc_lawcd 901 = some (.iload 4, 2) := by decide +kernel
theorem cL_903 : mc_lawcd 903 = some (.iconst 1, 1) := by decide +kernel
theorem cL_904 : mc_lawcd 904 = some (.iadd, 1) := by decide +kernel
theorem cL_905 : mc_lawcd 905 = some (.iaload, 1) := by decide +kernel
theorem cL_906 : mc_lawcd 906 = some (.aload_n 0, 1) := by decide +kernel
theorem cL_907 : mc_lawcd 907 = some (.iload 4, 2) := by decide +kernel
theorem cL_909 : mc_lawcd 909 = some (.iconst 2, 1) := by decide +kernel
theorem cL_910 : mc_lawcd 910 = some (.iadd, 1) := by decide +kernel
theorem cL_911 : mc_lawcd 911 = some (.iaload, 1) := by decide +kernel
theorem cL_912 : mc_lawcd 912 = some (.invokevirtual 117, 3) := by decide +kernel
theorem cL_915 : mc_lawcd 915 = some (.pop, 1) := by decide +kernel
theorem cL_916 : mc_lawcd 916 = some (.goto 737, 3) := by decide +kernel
theorem cL_919 : mc_lawcd 919 = some (.aload_n 1, 1) := by decide +kernel
theorem cL_920 : mc_lawcd 920 = some (.aload_n 0, 1) := by decide +kernel
theorem cL_921 : mc_lawcd 921 = some (.iload 4, 2) := by decide +kernel
theorem cL_923 : mc_lawcd 923 = some (.iconst 1, 1) := by decide +kernel
theorem cL_924 : mc_lawcd 924 = some (.iadd, 1) := by decide +kernel
theorem cL_925 : mc_lawcd 925 = some (.iaload, 1) := by decide +kernel
theorem cL_926 : mc_lawcd 926 = some (.invokevirtual 118, 3) := by decide +kernel
theorem cL_929 : mc_lawcd 929 = some (.pop, 1) := by decide +kernel
theorem cL_930 : mc_lawcd 930 = some (.aload_n 2, 1) := by decide +kernel
theorem cL_931 : mc_lawcd 931 = some (.aload_n 0, 1) := by decide +kernel
theorem cL_932 : mc_lawcd 932 = some (.iload 4, 2) := by decide +kernel
theorem cL_934 : mc_lawcd 934 = some (.iconst 1, 1) := by decide +kernel
theorem cL_935 : mc_lawcd 935 = some (.iadd, 1) := by decide +kernel
theorem cL_936 : mc_lawcd 936 = some (.iaload, 1) := by decide +kernel
theorem cL_937 : mc_lawcd 937 = some (.invokevirtual 121, 3) := by decide +kernel
theorem cL_940 : mc_lawcd 940 = some (.pop, 1) := by decide +kernel
theorem cL_941 : mc_lawcd 941 = some (.goto 712, 3) := by decide +kernel
theorem cL_944 : mc_lawcd 944 = some (.aload_n 1, 1) := by decide +kernel
theorem cL_945 : mc_lawcd 945 = some (.invokevirtual 122, 3) := by decide +kernel
theorem cL_948 : mc_lawcd 948 = some (.pop2, 1) := by decide +kernel
theorem cL_949 : mc_lawcd 949 = some (.aload_n 2, 1) := by decide +kernel
theorem cL_950 : mc_lawcd 950 = some (.invokevirtual 125, 3) := by decide +kernel
theorem cL_953 : mc_lawcd 953 = some (.pop2, 1) := by decide +kernel
theorem cL_954 : mc_lawcd 954 = some (.goto 699, 3) := by decide +kernel
theorem cL_957 : mc_lawcd 957 = some (.aload_n 1, 1) := by decide +kernel
theorem cL_958 : mc_lawcd 958 = some (.aload_n 0, 1) := by decide +kernel
theorem cL_959 : mc_lawcd 959 = some (.iload 4, 2) := by decide +kernel
theorem cL_961 : mc_lawcd 961 = some (.iconst 1, 1) := by decide +kernel
theorem cL_962 : mc_lawcd 962 = some (.iadd, 1) := by decide +kernel
theorem cL_963 : mc_lawcd 963 = some (.iaload, 1) := by decide +kernel
theorem cL_964 : mc_lawcd 964 = some (.aload_n 0, 1) := by decide +kernel
theorem cL_965 : mc_lawcd 965 = some (.iload 4, 2) := by decide +kernel
theorem cL_967 : mc_lawcd 967 = some (.iconst 2, 1) := by decide +kernel
theorem cL_968 : mc_lawcd 968 = some (.iadd, 1) := by decide +kernel
theorem cL_969 : mc_lawcd 969 = some (.iaload, 1) := by decide +kernel
theorem cL_970 : mc_lawcd 970 = some (.invokevirtual 126, 3) := by decide +kernel
theorem cL_973 : mc_lawcd 973 = some (.pop, 1) := by decide +kernel
theorem cL_974 : mc_lawcd 974 = some (.aload_n 2, 1) := by decide +kernel
theorem cL_975 : mc_lawcd 975 = some (.aload_n 0, 1) := by decide +kernel
theorem cL_976 : mc_lawcd 976 = some (.iload 4, 2) := by decide +kernel
theorem cL_978 : mc_lawcd 978 = some (.iconst 1, 1) := by decide +kernel
theorem cL_979 : mc_lawcd 979 = some (.iadd, 1) := by decide +kernel
theorem cL_980 : mc_lawcd 980 = some (.iaload, 1) := by decide +kernel
theorem cL_981 : mc_lawcd 981 = some (.aload_n 0, 1) := by decide +kernel
theorem cL_982 : mc_lawcd 982 = some (.iload 4, 2) := by decide +kernel
theorem cL_984 : mc_lawcd 984 = some (.iconst 2, 1) := by decide +kernel
theorem cL_985 : mc_lawcd 985 = some (.iadd, 1) := by decide +kernel
theorem cL_986 : mc_lawcd 986 = some (.iaload, 1) := by decide +kernel
theorem cL_987 : mc_lawcd 987 = some (.invokevirtual 129, 3) := by decide +kernel
theorem cL_990 : mc_lawcd 990 = some (.pop, 1) := by decide +kernel
theorem cL_991 : mc_lawcd 991 = some (.goto 662, 3) := by decide +kernel
theorem cL_994 : mc_lawcd 994 = some (.aload_n 1, 1) := by decide +kernel
theorem cL_995 : mc_lawcd 995 = some (.aload_n 0, 1) := by decide +kernel
theorem cL_996 : mc_lawcd 996 = some (.iload 4, 2) := by decide +kernel
theorem cL_998 : mc_lawcd 998 = some (.iconst 1, 1) := by decide +kernel
theorem cL_999 : mc_lawcd 999 = some (.iadd, 1) := by decide +kernel
theorem cL_1000 : mc_lawcd 1000 = some (.iaload, 1) := by decide +kernel
theorem cL_1001 : mc_lawcd 1001 = some (.invokevirtual 130, 3) := by decide +kernel
theorem cL_1004 : mc_lawcd 1004 = some (.pop2, 1) := by decide +kernel
theorem cL_1005 : mc_lawcd 1005 = some (.aload_n 2, 1) := by decide +kernel
theorem cL_1006 : mc_lawcd 1006 = some (.aload_n 0, 1) := by decide +kernel
theorem cL_1007 : mc_lawcd 1007 = some (.iload 4, 2) := by decide +kernel
theorem cL_1009 : mc_lawcd 1009 = some (.iconst 1, 1) := by decide +kernel
theorem cL_1010 : mc_lawcd 1010 = some (.iadd, 1) := by decide +kernel
theorem cL_1011 : mc_lawcd 1011 = some (.iaload, 1) := by decide +kernel
theorem cL_1012 : mc_lawcd 1012 = some (.invokevirtual 134, 3) := by decide +kernel
theorem cL_1015 : mc_lawcd 1015 = some (.pop2, 1) := by decide +kernel
theorem cL_1016 : mc_lawcd 1016 = some (.goto 637, 3) := by decide +kernel
theorem cL_1019 : mc_lawcd 1019 = some (.aload_n 1, 1) := by decide +kernel
theorem cL_1020 : mc_lawcd 1020 = some (.aload_n 0, 1) := by decide +kernel
theorem cL_1021 : mc_lawcd 1021 = some (.iload 4, 2) := by decide +kernel
theorem cL_1023 : mc_lawcd 1023 = some (.iconst 1, 1) := by decide +kernel
theorem cL_1024 : mc_lawcd 1024 = some (.iadd, 1) := by decide +kernel
theorem cL_1025 : mc_lawcd 1025 = some (.iaload, 1) := by decide +kernel
theorem cL_1026 : mc_lawcd 1026 = some (.aload_n 0, 1) := by decide +kernel
theorem cL_1027 : mc_lawcd 1027 = some (.iload 4, 2) := by decide +kernel
theorem cL_1029 : mc_lawcd 1029 = some (.iconst 2, 1) := by decide +kernel
theorem cL_1030 : mc_lawcd 1030 = some (.iadd, 1) := by decide +kernel
theorem cL_1031 : mc_lawcd 1031 = some (.iaload, 1) := by decide +kernel
theorem cL_1032 : mc_lawcd 1032 = some (.invokevirtual 135, 3) := by decide +kernel
theorem cL_1035 : mc_lawcd 1035 = some (.pop, 1) := by decide +kernel
theorem cL_1036 : mc_lawcd 1036 = some (.aload_n 2, 1) := by decide +kernel
theorem cL_1037 : mc_lawcd 1037 = some (.aload_n 0, 1) := by decide +kernel
theorem cL_1038 : mc_lawcd 1038 = some (.iload 4, 2) := by decide +kernel
theorem cL_1040 : mc_lawcd 1040 = some (.iconst 1, 1) := by decide +kernel
theorem cL_1041 : mc_lawcd 1041 = some (.iadd, 1) := by decide +kernel
theorem cL_1042 : mc_lawcd 1042 = some (.iaload, 1) := by decide +kernel
theorem cL_1043 : mc_lawcd 1043 = some (.aload_n 0, 1) := by decide +kernel
theorem cL_1044 : mc_lawcd 1044 = some (.iload 4, 2) := by decide +kernel
theorem cL_1046 : mc_lawcd 1046 = some (.iconst 2, 1) := by decide +kernel
theorem cL_1047 : mc_lawcd 1047 = some (.iadd, 1) := by decide +kernel
theorem cL_1048 : mc_lawcd 1048 = some (.iaload, 1) := by decide +kernel
theorem cL_1049 : mc_lawcd 1049 = some (.invokevirtual 138, 3) := by decide +kernel
theorem cL_1052 : mc_lawcd 1052 = some (.pop, 1) := by decide +kernel
theorem cL_1053 : mc_lawcd 1053 = some (.goto 600, 3) := by decide +kernel
theorem cL_1056 : mc_lawcd 1056 = some (.aload_n 1, 1) := by decide +kernel
theorem cL_1057 : mc_lawcd 1057 = some (.aload_n 0, 1) := by decide +kernel
theorem cL_1058 : mc_lawcd 1058 = some (.iload 4, 2) := by decide +kernel
theorem cL_1060 : mc_lawcd 1060 = some (.iconst 1, 1) := by decide +kernel
theorem cL_1061 : mc_lawcd 1061 = some (.iadd, 1) := by decide +kernel
theorem cL_1062 : mc_lawcd 1062 = some (.iaload, 1) := by decide +kernel
theorem cL_1063 : mc_lawcd 1063 = some (.aload_n 0, 1) := by decide +kernel
theorem cL_1064 : mc_lawcd 1064 = some (.iload 4, 2) := by decide +kernel
theorem cL_1066 : mc_lawcd 1066 = some (.iconst 2, 1) := by decide +kernel
theorem cL_1067 : mc_lawcd 1067 = some (.iadd, 1) := by decide +kernel
theorem cL_1068 : mc_lawcd 1068 = some (.iaload, 1) := by decide +kernel
theorem cL_1069 : mc_lawcd 1069 = some (.ifCond .eq 7, 3) := by decide +kernel
theorem cL_1072 : mc_lawcd 1072 = some (.iconst 1, 1) := by decide +kernel
theorem cL_1073 : mc_lawcd 1073 = some (.goto 4, 3) := by decide +kernel
theorem cL_1076 : mc_lawcd 1076 = some (.iconst 0, 1) := by decide +kernel
theorem cL_1077 : mc_lawcd 1077 = some (.invokevirtual 139, 3) := by decide +kernel
theorem cL_1080 : mc_lawcd 1080 = some (.pop, 1) := by decide +kernel
theorem cL_1081 : mc_lawcd 1081 = some (.aload_n 2, 1) := by decide +kernel
theorem cL_1082 : mc_lawcd 1082 = some (.aload_n 0, 1) := by decide +kernel
theorem cL_1083 : mc_lawcd 1083 = some (.iload 4, 2) := by decide +kernel
theorem cL_1085 : mc_lawcd 1085 = some (.iconst 1, 1) := by decide +kernel
theorem cL_1086 : mc_lawcd 1086 = some (.iadd, 1) := by decide +kernel
theorem cL_1087 : mc_lawcd 1087 = some (.iaload, 1) := by decide +kernel
theorem cL_1088 : mc_lawcd 1088 = some (.aload_n 0, 1) := by decide +kernel
theorem cL_1089 : mc_lawcd 1089 = some (.iload 4, 2) := by decide +kernel
theorem cL_1091 : mc_lawcd 1091 = some (.iconst 2, 1) := by decide +kernel
theorem cL_1092 : mc_lawcd 1092 = some (.iadd, 1) := by decide +kernel
theorem cL_1093 : mc_lawcd 1093 = some (.iaload, 1) := by decide +kernel
theorem cL_1094 : mc_lawcd 1094 = some (.ifCond .eq 7, 3) := by decide +kernel
theorem cL_1097 : mc_lawcd 1097 = some (.iconst 1, 1) := by decide +kernel
theorem cL_1098 : mc_lawcd 1098 = some (.goto 4, 3) := by decide +kernel
theorem cL_1101 : mc_lawcd 1101 = some (.iconst 0, 1) := by decide +kernel
theorem cL_1102 : mc_lawcd 1102 = some (.invokevirtual 142, 3) := by decide +kernel
theorem cL_1105 : mc_lawcd 1105 = some (.pop, 1) := by decide +kernel
theorem cL_1106 : mc_lawcd 1106 = some (.goto 547, 3) := by decide +kernel
theorem cL_1109 : mc_lawcd 1109 = some (.aload_n 1, 1) := by decide +kernel
theorem cL_1110 : mc_lawcd 1110 = some (.aload_n 0, 1) := by decide +kernel
theorem cL_1111 : mc_lawcd 1111 = some (.iload 4, 2) := by decide +kernel
theorem cL_1113 : mc_lawcd 1113 = some (.iconst 1, 1) := by decide +kernel
theorem cL_1114 : mc_lawcd 1114 = some (.iadd, 1) := by decide +kernel
theorem cL_1115 : mc_lawcd 1115 = some (.iaload, 1) := by decide +kernel
theorem cL_1116 : mc_lawcd 1116 = some (.aload_n 0, 1) := by decide +kernel
theorem cL_1117 : mc_lawcd 1117 = some (.iload 4, 2) := by decide +kernel
theorem cL_1119 : mc_lawcd 1119 = some (.iconst 2, 1) := by decide +kernel
theorem cL_1120 : mc_lawcd 1120 = some (.iadd, 1) := by decide +kernel
theorem cL_1121 : mc_lawcd 1121 = some (.iaload, 1) := by decide +kernel
theorem cL_1122 : mc_lawcd 1122 = some (.ifCond .eq 7, 3) := by decide +kernel
theorem cL_1125 : mc_lawcd 1125 = some (.iconst 1, 1) := by decide +kernel
theorem cL_1126 : mc_lawcd 1126 = some (.goto 4, 3) := by decide +kernel
theorem cL_1129 : mc_lawcd 1129 = some (.iconst 0, 1) := by decide +kernel
theorem cL_1130 : mc_lawcd 1130 = some (.invokevirtual 143, 3) := by decide +kernel
theorem cL_1133 : mc_lawcd 1133 = some (.pop, 1) := by decide +kernel
theorem cL_1134 : mc_lawcd 1134 = some (.aload_n 2, 1) := by decide +kernel
theorem cL_1135 : mc_lawcd 1135 = some (.aload_n 0, 1) := by decide +kernel
theorem cL_1136 : mc_lawcd 1136 = some (.iload 4, 2) := by decide +kernel
theorem cL_1138 : mc_lawcd 1138 = some (.iconst 1, 1) := by decide +kernel
theorem cL_1139 : mc_lawcd 1139 = some (.iadd, 1) := by decide +kernel
theorem cL_1140 : mc_lawcd 1140 = some (.iaload, 1) := by decide +kernel
theorem cL_1141 : mc_lawcd 1141 = some (.aload_n 0, 1) := by decide +kernel
theorem cL_1142 : mc_lawcd 1142 = some (.iload 4, 2) := by decide +kernel
theorem cL_1144 : mc_lawcd 1144 = some (.iconst 2, 1) := by decide +kernel
theorem cL_1145 : mc_lawcd 1145 = some (.iadd, 1) := by decide +kernel
theorem cL_1146 : mc_lawcd 1146 = some (.iaload, 1) := by decide +kernel
theorem cL_1147 : mc_lawcd 1147 = some (.ifCond .eq 7, 3) := by decide +kernel
theorem cL_1150 : mc_lawcd 1150 = some (.iconst 1, 1) := by decide +kernel
theorem cL_1151 : mc_lawcd 1151 = some (.goto 4, 3) := by decide +kernel
theorem cL_1154 : mc_lawcd 1154 = some (.iconst 0, 1) := by decide +kernel
theorem cL_1155 : mc_lawcd 1155 = some (.invokevirtual 146, 3) := by decide +kernel
theorem cL_1158 : mc_lawcd 1158 = some (.pop, 1) := by decide +kernel
theorem cL_1159 : mc_lawcd 1159 = some (.goto 494, 3) := by decide +kernel
theorem cL_1162 : mc_lawcd 1162 = some (.aload_n 1, 1) := by decide +kernel
theorem cL_1163 : mc_lawcd 1163 = some (.invokevirtual 147, 3) := by decide +kernel
theorem cL_1166 : mc_lawcd 1166 = some (.pop, 1) := by decide +kernel
theorem cL_1167 : mc_lawcd 1167 = some (.aload_n 2, 1) := by decide +kernel
theorem cL_1168 : mc_lawcd 1168 = some (.invokevirtual 150, 3) := by decide +kernel
theorem cL_1171 : mc_lawcd 1171 = some (.pop, 1) := by decide +kernel
theorem cL_1172 : mc_lawcd 1172 = some (.goto 481, 3) := by decide +kernel
theorem cL_1175 : mc_lawcd 1175 = some (.aload_n 1, 1) := by decide +kernel
theorem cL_1176 : mc_lawcd 1176 = some (.aload_n 0, 1) := by decide +kernel
theorem cL_1177 : mc_lawcd 1177 = some (.iload 4, 2) := by decide +kernel
theorem cL_1179 : mc_lawcd 1179 = some (.iconst 1, 1) := by decide +kernel
theorem cL_1180 : mc_lawcd 1180 = some (.iadd, 1) := by decide +kernel
theorem cL_1181 : mc_lawcd 1181 = some (.iaload, 1) := by decide +kernel
theorem cL_1182 : mc_lawcd 1182 = some (.invokevirtual 151, 3) := by decide +kernel
theorem cL_1185 : mc_lawcd 1185 = some (.pop, 1) := by decide +kernel
theorem cL_1186 : mc_lawcd 1186 = some (.aload_n 2, 1) := by decide +kernel
theorem cL_1187 : mc_lawcd 1187 = some (.aload_n 0, 1) := by decide +kernel
theorem cL_1188 : mc_lawcd 1188 = some (.iload 4, 2) := by decide +kernel
theorem cL_1190 : mc_lawcd 1190 = some (.iconst 1, 1) := by decide +kernel
theorem cL_1191 : mc_lawcd 1191 = some (.iadd, 1) := by decide +kernel
theorem cL_1192 : mc_lawcd 1192 = some (.iaload, 1) := by decide +kernel
theorem cL_1193 : mc_lawcd 1193 = some (.invokevirtual 154, 3) := by decide +kernel
theorem cL_1196 : mc_lawcd 1196 = some (.pop, 1) := by decide +kernel
theorem cL_1197 : mc_lawcd 1197 = some (.goto 456, 3) := by decide +kernel
theorem cL_1200 : mc_lawcd 1200 = some (.aload_n 1, 1) := by decide +kernel
theorem cL_1201 : mc_lawcd 1201 = some (.aload_n 0, 1) := by decide +kernel
theorem cL_1202 : mc_lawcd 1202 = some (.iload 4, 2) := by decide +kernel
theorem cL_1204 : mc_lawcd 1204 = some (.iconst 1, 1) := by decide +kernel
theorem cL_1205 : mc_lawcd 1205 = some (.iadd, 1) := by decide +kernel
theorem cL_1206 : mc_lawcd 1206 = some (.iaload, 1) := by decide +kernel
theorem cL_1207 : mc_lawcd 1207 = some (.invokevirtual 155, 3) := by decide +kernel
theorem cL_1210 : mc_lawcd 1210 = some (.pop, 1) := by decide +kernel
theorem cL_1211 : mc_lawcd 1211 = some (.aload_n 2, 1) := by decide +kernel
theorem cL_1212 : mc_lawcd 1212 = some (.aload_n 0, 1) := by decide +kernel
theorem cL_1213 : mc_lawcd 1213 = some (.iload 4, 2) := by decide +kernel
theorem cL_1215 : mc_lawcd 1215 = some (.iconst 1, 1) := by decide +kernel
theorem cL_1216 : mc_lawcd 1216 = some (.iadd, 1) := by decide +kernel
theorem cL_1217 : mc_lawcd 1217 = some (.iaload, 1) := by decide +kernel
theorem cL_1218 : mc_lawcd 1218 = some (.invokevirtual 158, 3) := by decide +kernel
theorem cL_1221 : mc_lawcd 1221 = some (.pop, 1) := by decide +kernel
theorem cL_1222 : mc_lawcd 1222 = some (.goto 431, 3) := by decide +kernel
theorem cL_1225 : mc_lawcd 1225 = some (.aload_n 1, 1) := by decide +kernel
theorem cL_1226 : mc_lawcd 1226 = some (.aload_n 0, 1) := by decide +kernel
theorem cL_1227 : mc_lawcd 1227 = some (.iload 4, 2) := by decide +kernel
theorem cL_1229 : mc_lawcd 1229 = some (.iconst 1, 1) := by decide +kernel
theorem cL_1230 : mc_lawcd 1230 = some (.iadd, 1) := by decide +kernel
theorem cL_1231 : mc_lawcd 1231 = some (.iaload, 1) := by decide +kernel
theorem cL_1232 : mc_lawcd 1232 = some (.invokevirtual 159, 3) := by decide +kernel
theorem cL_1235 : mc_lawcd 1235 = some (.pop, 1) := by decide +kernel
theorem cL_1236 : mc_lawcd 1236 = some (.aload_n 2, 1) := by decide +kernel
theorem cL_1237 : mc_lawcd 1237 = some (.aload_n 0, 1) := by decide +kernel
theorem cL_1238 : mc_lawcd 1238 = some (.iload 4, 2) := by decide +kernel
theorem cL_1240 : mc_lawcd 1240 = some (.iconst 1, 1) := by decide +kernel
theorem cL_1241 : mc_lawcd 1241 = some (.iadd, 1) := by decide +kernel
theorem cL_1242 : mc_lawcd 1242 = some (.iaload, 1) := by decide +kernel
theorem cL_1243 : mc_lawcd 1243 = some (.invokevirtual 162, 3) := by decide +kernel
theorem cL_1246 : mc_lawcd 1246 = some (.pop, 1) := by decide +kernel
theorem cL_1247 : mc_lawcd 1247 = some (.goto 406, 3) := by decide +kernel
theorem cL_1250 : mc_lawcd 1250 = some (.aload_n 1, 1) := by decide +kernel
theorem cL_1251 : mc_lawcd 1251 = some (.invokevirtual 163, 3) := by decide +kernel
theorem cL_1254 : mc_lawcd 1254 = some (.pop, 1) := by decide +kernel
theorem cL_1255 : mc_lawcd 1255 = some (.aload_n 2, 1) := by decide +kernel
theorem cL_1256 : mc_lawcd 1256 = some (.invokevirtual 166, 3) := by decide +kernel
theorem cL_1259 : mc_lawcd 1259 = some (.pop, 1) := by decide +kernel
theorem cL_1260 : mc_lawcd 1260 = some (.goto 393, 3) := by decide +kernel
theorem cL_1263 : mc_lawcd 1263 = some (.aload_n 1, 1) := by decide +kernel
theorem cL_1264 : mc_lawcd 1264 = some (.aload_n 0, 1) := by decide +kernel
theorem cL_1265 : mc_lawcd 1265 = some (.iload 4, 2) := by decide +kernel
theorem cL_1267 : mc_lawcd 1267 = some (.iconst 1, 1) := by decide +kernel
theorem cL_1268 : mc_lawcd 1268 = some (.iadd, 1) := by decide +kernel
theorem cL_1269 : mc_lawcd 1269 = some (.iaload, 1) := by decide +kernel
theorem cL_1270 : mc_lawcd 1270 = some (.aload_n 0, 1) := by decide +kernel
theorem cL_1271 : mc_lawcd 1271 = some (.iload 4, 2) := by decide +kernel
theorem cL_1273 : mc_lawcd 1273 = some (.iconst 2, 1) := by decide +kernel
theorem cL_1274 : mc_lawcd 1274 = some (.iadd, 1) := by decide +kernel
theorem cL_1275 : mc_lawcd 1275 = some (.iaload, 1) := by decide +kernel
theorem cL_1276 : mc_lawcd 1276 = some (.ifCond .eq 7, 3) := by decide +kernel
theorem cL_1279 : mc_lawcd 1279 = some (.iconst 1, 1) := by decide +kernel
theorem cL_1280 : mc_lawcd 1280 = some (.goto 4, 3) := by decide +kernel
theorem cL_1283 : mc_lawcd 1283 = some (.iconst 0, 1) := by decide +kernel
theorem cL_1284 : mc_lawcd 1284 = some (.invokevirtual 167, 3) := by decide +kernel
theorem cL_1287 : mc_lawcd 1287 = some (.pop, 1) := by decide +kernel
theorem cL_1288 : mc_lawcd 1288 = some (.aload_n 2, 1) := by decide +kernel
theorem cL_1289 : mc_lawcd 1289 = some (.aload_n 0, 1) := by decide +kernel
theorem cL_1290 : mc_lawcd 1290 = some (.iload 4, 2) := by decide +kernel
theorem cL_1292 : mc_lawcd 1292 = some (.iconst 1, 1) := by decide +kernel
theorem cL_1293 : mc_lawcd 1293 = some (.iadd, 1) := by decide +kernel
theorem cL_1294 : mc_lawcd 1294 = some (.iaload, 1) := by decide +kernel
theorem cL_1295 : mc_lawcd 1295 = some (.aload_n 0, 1) := by decide +kernel
theorem cL_1296 : mc_lawcd 1296 = some (.iload 4, 2) := by decide +kernel
theorem cL_1298 : mc_lawcd 1298 = some (.iconst 2, 1) := by decide +kernel
theorem cL_1299 : mc_lawcd 1299 = some (.iadd, 1) := by decide +kernel
theorem cL_1300 : mc_lawcd 1300 = some (.iaload, 1) := by decide +kernel
theorem cL_1301 : mc_lawcd 1301 = some (.ifCond .eq 7, 3) := by decide +kernel
theorem cL_1304 : mc_lawcd 1304 = some (.iconst 1, 1) := by decide +kernel
theorem cL_1305 : mc_lawcd 1305 = some (.goto 4, 3) := by decide +kernel
theorem cL_1308 : mc_lawcd 1308 = some (.iconst 0, 1) := by decide +kernel
theorem cL_1309 : mc_lawcd 1309 = some (.invokevirtual 170, 3) := by decide +kernel
theorem cL_1312 : mc_lawcd 1312 = some (.pop, 1) := by decide +kernel
theorem cL_1313 : mc_lawcd 1313 = some (.goto 340, 3) := by decide +kernel
theorem cL_1316 : mc_lawcd 1316 = some (.aload_n 1, 1) := by decide +kernel
theorem cL_1317 : mc_lawcd 1317 = some (.invokevirtual 171, 3) := by decide +kernel
theorem cL_1320 : mc_lawcd 1320 = some (.pop, 1) := by decide +kernel
theorem cL_1321 : mc_lawcd 1321 = some (.aload_n 2, 1) := by decide +kernel
theorem cL_1322 : mc_lawcd 1322 = some (.invokevirtual 174, 3) := by decide +kernel
theorem cL_1325 : mc_lawcd 1325 = some (.pop, 1) := by decide +kernel
theorem cL_1326 : mc_lawcd 1326 = some (.goto 327, 3) := by decide +kernel
theorem cL_1329 : mc_lawcd 1329 = some (.aload_n 1, 1) := by decide +kernel
theorem cL_1330 : mc_lawcd 1330 = some (.invokevirtual 175, 3) := by decide +kernel
theorem cL_1333 : mc_lawcd 1333 = some (.pop, 1) := by decide +kernel
theorem cL_1334 : mc_lawcd 1334 = some (.aload_n 2, 1) := by decide +kernel
theorem cL_1335 : mc_lawcd 1335 = some (.invokevirtual 178, 3) := by decide +kernel
theorem cL_1338 : mc_lawcd 1338 = some (.pop, 1) := by decide +kernel
theorem cL_1339 : mc_lawcd 1339 = some (.goto 314, 3) := by decide +kernel
theorem cL_1342 : mc_lawcd 1342 = some (.aload_n 1, 1) := by decide +kernel
theorem cL_1343 : mc_lawcd 1343 = some (.aload_n 0, 1) := by decide +kernel
theorem cL_1344 : mc_lawcd 1344 = some (.iload 4, 2) := by decide +kernel
theorem cL_1346 : mc_lawcd 1346 = some (.iconst 1, 1) := by decide +kernel
theorem cL_1347 : mc_lawcd 1347 = some (.iadd, 1) := by decide +kernel
theorem cL_1348 : mc_lawcd 1348 = some (.iaload, 1) := by decide +kernel
theorem cL_1349 : mc_lawcd 1349 = some (.invokevirtual 179, 3) := by decide +kernel
theorem cL_1352 : mc_lawcd 1352 = some (.pop, 1) := by decide +kernel
theorem cL_1353 : mc_lawcd 1353 = some (.aload_n 2, 1) := by decide +kernel
theorem cL_1354 : mc_lawcd 1354 = some (.aload_n 0, 1) := by decide +kernel
theorem cL_1355 : mc_lawcd 1355 = some (.iload 4, 2) := by decide +kernel
theorem cL_1357 : mc_lawcd 1357 = some (.iconst 1, 1) := by decide +kernel
theorem cL_1358 : mc_lawcd 1358 = some (.iadd, 1) := by decide +kernel
theorem cL_1359 : mc_lawcd 1359 = some (.iaload, 1) := by decide +kernel
theorem cL_1360 : mc_lawcd 1360 = some (.invokevirtual 182, 3) := by decide +kernel
theorem cL_1363 : mc_lawcd 1363 = some (.pop, 1) := by decide +kernel
theorem cL_1364 : mc_lawcd 1364 = some (.goto 289, 3) := by decide +kernel
theorem cL_1367 : mc_lawcd 1367 = some (.aload_n 1, 1) := by decide +kernel
theorem cL_1368 : mc_lawcd 1368 = some (.aload_n 0, 1) := by decide +kernel
theorem cL_1369 : mc_lawcd 1369 = some (.iload 4, 2) := by decide +kernel
theorem cL_1371 : mc_lawcd 1371 = some (.iconst 1, 1) := by decide +kernel
theorem cL_1372 : mc_lawcd 1372 = some (.iadd, 1) := by decide +kernel
theorem cL_1373 : mc_lawcd 1373 = some (.iaload, 1) := by decide +kernel
theorem cL_1374 : mc_lawcd 1374 = some (.aload_n 0, 1) := by decide +kernel
theorem cL_1375 : mc_lawcd 1375 = some (.iload 4, 2) := by decide +kernel
theorem cL_1377 : mc_lawcd 1377 = some (.iconst 2, 1) := by decide +kernel
theorem cL_1378 : mc_lawcd 1378 = some (.iadd, 1) := by decide +kernel
theorem cL_1379 : mc_lawcd 1379 = some (.iaload, 1) := by decide +kernel
theorem cL_1380 : mc_lawcd 1380 = some (.invokevirtual 183, 3) := by decide +kernel
theorem cL_1383 : mc_lawcd 1383 = some (.pop, 1) := by decide +kernel
theorem cL_1384 : mc_lawcd 1384 = some (.aload_n 2, 1) := by decide +kernel
theorem cL_1385 : mc_lawcd 1385 = some (.aload_n 0, 1) := by decide +kernel
theorem cL_1386 : mc_lawcd 1386 = some (.iload 4, 2) := by decide +kernel
theorem cL_1388 : mc_lawcd 1388 = some (.iconst 1, 1) := by decide +kernel
theorem cL_1389 : mc_lawcd 1389 = some (.iadd, 1) := by decide +kernel
theorem cL_1390 : mc_lawcd 1390 = some (.iaload, 1) := by decide +kernel
theorem cL_1391 : mc_lawcd 1391 = some (.aload_n 0, 1) := by decide +kernel
theorem cL_1392 : mc_lawcd 1392 = some (.iload 4, 2) := by decide +kernel
theorem cL_1394 : mc_lawcd 1394 = some (.iconst 2, 1) := by decide +kernel
theorem cL_1395 : mc_lawcd 1395 = some (.iadd, 1) := by decide +kernel
theorem cL_1396 : mc_lawcd 1396 = some (.iaload, 1) := by decide +kernel
theorem cL_1397 : mc_lawcd 1397 = some (.invokevirtual 186, 3) := by decide +kernel
theorem cL_1400 : mc_lawcd 1400 = some (.pop, 1) := by decide +kernel
theorem cL_1401 : mc_lawcd 1401 = some (.goto 252, 3) := by decide +kernel
theorem cL_1404 : mc_lawcd 1404 = some (.aload_n 1, 1) := by decide +kernel
theorem cL_1405 : mc_lawcd 1405 = some (.aload_n 0, 1) := by decide +kernel
theorem cL_1406 : mc_lawcd 1406 = some (.iload 4, 2) := by decide +kernel
theorem cL_1408 : mc_lawcd 1408 = some (.iconst 1, 1) := by decide +kernel
theorem cL_1409 : mc_lawcd 1409 = some (.iadd, 1) := by decide +kernel
theorem cL_1410 : mc_lawcd 1410 = some (.iaload, 1) := by decide +kernel
theorem cL_1411 : mc_lawcd 1411 = some (.invokevirtual 187, 3) := by decide +kernel
theorem cL_1414 : mc_lawcd 1414 = some (.pop, 1) := by decide +kernel
theorem cL_1415 : mc_lawcd 1415 = some (.aload_n 2, 1) := by decide +kernel
theorem cL_1416 : mc_lawcd 1416 = some (.aload_n 0, 1) := by decide +kernel
theorem cL_1417 : mc_lawcd 1417 = some (.iload 4, 2) := by decide +kernel
theorem cL_1419 : mc_lawcd 1419 = some (.iconst 1, 1) := by decide +kernel
theorem cL_1420 : mc_lawcd 1420 = some (.iadd, 1) := by decide +kernel
theorem cL_1421 : mc_lawcd 1421 = some (.iaload, 1) := by decide +kernel
theorem cL_1422 : mc_lawcd 1422 = some (.invokevirtual 191, 3) := by decide +kernel
theorem cL_1425 : mc_lawcd 1425 = some (.pop, 1) := by decide +kernel
theorem cL_1426 : mc_lawcd 1426 = some (.goto 227, 3) := by decide +kernel
theorem cL_1429 : mc_lawcd 1429 = some (.aload_n 1, 1) := by decide +kernel
theorem cL_1430 : mc_lawcd 1430 = some (.aload_n 0, 1) := by decide +kernel
theorem cL_1431 : mc_lawcd 1431 = some (.iload 4, 2) := by decide +kernel
theorem cL_1433 : mc_lawcd 1433 = some (.iconst 1, 1) := by decide +kernel
theorem cL_1434 : mc_lawcd 1434 = some (.iadd, 1) := by decide +kernel
theorem cL_1435 : mc_lawcd 1435 = some (.iaload, 1) := by decide +kernel
theorem cL_1436 : mc_lawcd 1436 = some (.invokevirtual 192, 3) := by decide +kernel
theorem cL_1439 : mc_lawcd 1439 = some (.pop, 1) := by decide +kernel
theorem cL_1440 : mc_lawcd 1440 = some (.aload_n 2, 1) := by decide +kernel
theorem cL_1441 : mc_lawcd 1441 = some (.aload_n 0, 1) := by decide +kernel
theorem cL_1442 : mc_lawcd 1442 = some (.iload 4, 2) := by decide +kernel
theorem cL_1444 : mc_lawcd 1444 = some (.iconst 1, 1) := by decide +kernel
theorem cL_1445 : mc_lawcd 1445 = some (.iadd, 1) := by decide +kernel
theorem cL_1446 : mc_lawcd 1446 = some (.iaload, 1) := by decide +kernel
theorem cL_1447 : mc_lawcd 1447 = some (.invokevirtual 195, 3) := by decide +kernel
theorem cL_1450 : mc_lawcd 1450 = some (.pop, 1) := by decide +kernel
theorem cL_1451 : mc_lawcd 1451 = some (.goto 202, 3) := by decide +kernel
theorem cL_1454 : mc_lawcd 1454 = some (.aload_n 1, 1) := by decide +kernel
theorem cL_1455 : mc_lawcd 1455 = some (.invokevirtual 196, 3) := by decide +kernel
theorem cL_1458 : mc_lawcd 1458 = some (.pop, 1) := by decide +kernel
theorem cL_1459 : mc_lawcd 1459 = some (.aload_n 2, 1) := by decide +kernel
theorem cL_1460 : mc_lawcd 1460 = some (.invokevirtual 199, 3) := by decide +kernel
theorem cL_1463 : mc_lawcd 1463 = some (.pop, 1) := by decide +kernel
theorem cL_1464 : mc_lawcd 1464 = some (.goto 189, 3) := by decide +kernel
theorem cL_1467 : mc_lawcd 1467 = some (.aload_n 1, 1) := by decide +kernel
theorem cL_1468 : mc_lawcd 1468 = some (.aload_n 0, 1) := by decide +kernel
theorem cL_1469 : mc_lawcd 1469 = some (.iload 4, 2) := by decide +kernel
theorem cL_1471 : mc_lawcd 1471 = some (.iconst 1, 1) := by decide +kernel
theorem cL_1472 : mc_lawcd 1472 = some (.iadd, 1) := by decide +kernel
theorem cL_1473 : mc_lawcd 1473 = some (.iaload, 1) := by decide +kernel
theorem cL_1474 : mc_lawcd 1474 = some (.aload_n 0, 1) := by decide +kernel
theorem cL_1475 : mc_lawcd 1475 = some (.iload 4, 2) := by decide +kernel
theorem cL_1477 : mc_lawcd 1477 = some (.iconst 2, 1) := by decide +kernel
theorem cL_1478 : mc_lawcd 1478 = some (.iadd, 1) := by decide +kernel
theorem cL_1479 : mc_lawcd 1479 = some (.iaload, 1) := by decide +kernel
theorem cL_1480 : mc_lawcd 1480 = some (.invokevirtual 200, 3) := by decide +kernel
theorem cL_1483 : mc_lawcd 1483 = some (.pop, 1) := by decide +kernel
theorem cL_1484 : mc_lawcd 1484 = some (.aload_n 2, 1) := by decide +kernel
theorem cL_1485 : mc_lawcd 1485 = some (.aload_n 0, 1) := by decide +kernel
theorem cL_1486 : mc_lawcd 1486 = some (.iload 4, 2) := by decide +kernel
theorem cL_1488 : mc_lawcd 1488 = some (.iconst 1, 1) := by decide +kernel
theorem cL_1489 : mc_lawcd 1489 = some (.iadd, 1) := by decide +kernel
theorem cL_1490 : mc_lawcd 1490 = some (.iaload, 1) := by decide +kernel
theorem cL_1491 : mc_lawcd 1491 = some (.aload_n 0, 1) := by decide +kernel
theorem cL_1492 : mc_lawcd 1492 = some (.iload 4, 2) := by decide +kernel
theorem cL_1494 : mc_lawcd 1494 = some (.iconst 2, 1) := by decide +kernel
theorem cL_1495 : mc_lawcd 1495 = some (.iadd, 1) := by decide +kernel
theorem cL_1496 : mc_lawcd 1496 = some (.iaload, 1) := by decide +kernel
theorem cL_1497 : mc_lawcd 1497 = some (.invokevirtual 203, 3) := by decide +kernel
theorem cL_1500 : mc_lawcd 1500 = some (.pop, 1) := by decide +kernel
theorem cL_1501 : mc_lawcd 1501 = some (.goto 152, 3) := by decide +kernel
theorem cL_1504 : mc_lawcd 1504 = some (.aload_n 1, 1) := by decide +kernel
theorem cL_1505 : mc_lawcd 1505 = some (.invokevirtual 204, 3) := by decide +kernel
theorem cL_1508 : mc_lawcd 1508 = some (.pop, 1) := by decide +kernel
theorem cL_1509 : mc_lawcd 1509 = some (.aload_n 2, 1) := by decide +kernel
theorem cL_1510 : mc_lawcd 1510 = some (.invokevirtual 208, 3) := by decide +kernel
theorem cL_1513 : mc_lawcd 1513 = some (.pop, 1) := by decide +kernel
theorem cL_1514 : mc_lawcd 1514 = some (.goto 139, 3) := by decide +kernel
theorem cL_1517 : mc_lawcd 1517 = some (.aload_n 1, 1) := by decide +kernel
theorem cL_1518 : mc_lawcd 1518 = some (.invokevirtual 209, 3) := by decide +kernel
theorem cL_1521 : mc_lawcd 1521 = some (.pop2, 1) := by decide +kernel
theorem cL_1522 : mc_lawcd 1522 = some (.aload_n 2, 1) := by decide +kernel
theorem cL_1523 : mc_lawcd 1523 = some (.invokevirtual 212, 3) := by decide +kernel
theorem cL_1526 : mc_lawcd 1526 = some (.pop2, 1) := by decide +kernel
theorem cL_1527 : mc_lawcd 1527 = some (.goto 126, 3) := by decide +kernel
theorem cL_1530 : mc_lawcd 1530 = some (.aload_n 1, 1) := by decide +kernel
theorem cL_1531 : mc_lawcd 1531 = some (.aload_n 0, 1) := by decide +kernel
theorem cL_1532 : mc_lawcd 1532 = some (.iload 4, 2) := by decide +kernel
theorem cL_1534 : mc_lawcd 1534 = some (.iconst 1, 1) := by decide +kernel
theorem cL_1535 : mc_lawcd 1535 = some (.iadd, 1) := by decide +kernel
theorem cL_1536 : mc_lawcd 1536 = some (.iaload, 1) := by decide +kernel
theorem cL_1537 : mc_lawcd 1537 = some (.i2l, 1) := by decide +kernel
theorem cL_1538 : mc_lawcd 1538 = some (.bipush 32, 2) := by decide +kernel
theorem cL_1540 : mc_lawcd 1540 = some (.lshl, 1) := by decide +kernel
theorem cL_1541 : mc_lawcd 1541 = some (.aload_n 0, 1) := by decide +kernel
theorem cL_1542 : mc_lawcd 1542 = some (.iload 4, 2) := by decide +kernel
theorem cL_1544 : mc_lawcd 1544 = some (.iconst 2, 1) := by decide +kernel
theorem cL_1545 : mc_lawcd 1545 = some (.iadd, 1) := by decide +kernel
theorem cL_1546 : mc_lawcd 1546 = some (.iaload, 1) := by decide +kernel
theorem cL_1547 : mc_lawcd 1547 = some (.i2l, 1) := by decide +kernel
theorem cL_1548 : mc_lawcd 1548 = some (.ldc2_w 213, 3) := by decide +kernel
theorem cL_1551 : mc_lawcd 1551 = some (.land, 1) := by decide +kernel
theorem cL_1552 : mc_lawcd 1552 = some (.lor, 1) := by decide +kernel
theorem cL_1553 : mc_lawcd 1553 = some (.invokevirtual 215, 3) := by decide +kernel
theorem cL_1556 : mc_lawcd 1556 = some (.pop, 1) := by decide +kernel
theorem cL_1557 : mc_lawcd 1557 = some (.aload_n 2, 1) := by decide +kernel
theorem cL_1558 : mc_lawcd 1558 = some (.aload_n 0, 1) := by decide +kernel
theorem cL_1559 : mc_lawcd 1559 = some (.iload 4, 2) := by decide +kernel
theorem cL_1561 : mc_lawcd 1561 = some (.iconst 1, 1) := by decide +kernel
theorem cL_1562 : mc_lawcd 1562 = some (.iadd, 1) := by decide +kernel
theorem cL_1563 : mc_lawcd 1563 = some (.iaload, 1) := by decide +kernel
theorem cL_1564 : mc_lawcd 1564 = some (.i2l, 1) := by decide +kernel
theorem cL_1565 : mc_lawcd 1565 = some (.bipush 32, 2) := by decide +kernel
theorem cL_1567 : mc_lawcd 1567 = some (.lshl, 1) := by decide +kernel
theorem cL_1568 : mc_lawcd 1568 = some (.aload_n 0, 1) := by decide +kernel
theorem cL_1569 : mc_lawcd 1569 = some (.iload 4, 2) := by decide +kernel
theorem cL_1571 : mc_lawcd 1571 = some (.iconst 2, 1) := by decide +kernel
theorem cL_1572 : mc_lawcd 1572 = some (.iadd, 1) := by decide +kernel
theorem cL_1573 : mc_lawcd 1573 = some (.iaload, 1) := by decide +kernel
theorem cL_1574 : mc_lawcd 1574 = some (.i2l, 1) := by decide +kernel
theorem cL_1575 : mc_lawcd 1575 = some (.ldc2_w 213, 3) := by decide +kernel
theorem cL_1578 : mc_lawcd 1578 = some (.land, 1) := by decide +kernel
theorem cL_1579 : mc_lawcd 1579 = some (.lor, 1) := by decide +kernel
theorem cL_1580 : mc_lawcd 1580 = some (.invokevirtual 219, 3) := by decide +kernel
theorem cL_1583 : mc_lawcd 1583 = some (.pop, 1) := by decide +kernel
theorem cL_1584 : mc_lawcd 1584 = some (.goto 69, 3) := by decide +kernel
theorem cL_1587 : mc_lawcd 1587 = some (.aload_n 1, 1) := by decide +kernel
theorem cL_1588 : mc_lawcd 1588 = some (.aload_n 0, 1) := by decide +kernel
theorem cL_1589 : mc_lawcd 1589 = some (.iload 4, 2) := by decide +kernel
theorem cL_1591 : mc_lawcd 1591 = some (.iconst 1, 1) := by decide +kernel
theorem cL_1592 : mc_lawcd 1592 = some (.iadd, 1) := by decide +kernel
theorem cL_1593 : mc_lawcd 1593 = some (.iaload, 1) := by decide +kernel
theorem cL_1594 : mc_lawcd 1594 = some (.aload_n 3, 1) := by decide +kernel
theorem cL_1595 : mc_lawcd 1595 = some (.invokestatic 220, 3) := by decide +kernel
theorem cL_1598 : mc_lawcd 1598 = some (.istore 5, 2) := by decide +kernel
theorem cL_1600 : mc_lawcd 1600 = some (.aload_n 2, 1) := by decide +kernel
theorem cL_1601 : mc_lawcd 1601 = some (.aload_n 0, 1) := by decide +kernel
theorem cL_1602 : mc_lawcd 1602 = some (.iload 4, 2) := by decide +kernel
theorem cL_1604 : mc_lawcd 1604 = some (.iconst 1, 1) := by decide +kernel
theorem cL_1605 : mc_lawcd 1605 = some (.iadd, 1) := by decide +kernel
theorem cL_1606 : mc_lawcd 1606 = some (.iaload, 1) := by decide +kernel
theorem cL_1607 : mc_lawcd 1607 = some (.invokevirtual 225, 3) := by decide +kernel
theorem cL_1610 : mc_lawcd 1610 = some (.istore 6, 2) := by decide +kernel
theorem cL_1612 : mc_lawcd 1612 = some (.goto 41, 3) := by decide +kernel
theorem cL_1615 : mc_lawcd 1615 = some (.aload_n 1, 1) := by decide +kernel
theorem cL_1616 : mc_lawcd 1616 = some (.aload_n 0, 1) := by decide +kernel
theorem cL_1617 : mc_lawcd 1617 = some (.iload 4, 2) := by decide +kernel
theorem cL_1619 : mc_lawcd 1619 = some (.iconst 1, 1) := by decide +kernel
theorem cL_1620 : mc_lawcd 1620 = some (.iadd, 1) := by decide +kernel
theorem cL_1621 : mc_lawcd 1621 = some (.iaload, 1) := by decide +kernel
theorem cL_1622 : mc_lawcd 1622 = some (.invokevirtual 226, 3) := by decide +kernel
theorem cL_1625 : mc_lawcd 1625 = some (.pop, 1) := by decide +kernel
theorem cL_1626 : mc_lawcd 1626 = some (.aload_n 2, 1) := by decide +kernel
theorem cL_1627 : mc_lawcd 1627 = some (.aload_n 0, 1) := by decide +kernel
theorem cL_1628 : mc_lawcd 1628 = some (.iload 4, 2) := by decide +kernel
theorem cL_1630 : mc_lawcd 1630 = some (.iconst 1, 1) := by decide +kernel
theorem cL_1631 : mc_lawcd 1631 = some (.iadd, 1) := by decide +kernel
theorem cL_1632 : mc_lawcd 1632 = some (.iaload, 1) := by decide +kernel
theorem cL_1633 : mc_lawcd 1633 = some (.invokevirtual 229, 3) := by decide +kernel
theorem cL_1636 : mc_lawcd 1636 = some (.pop, 1) := by decide +kernel
theorem cL_1637 : mc_lawcd 1637 = some (.goto 16, 3) := by decide +kernel
theorem cL_1640 : mc_lawcd 1640 = some (.aload_n 1, 1) := by decide +kernel
theorem cL_1641 : mc_lawcd 1641 = some (.invokevirtual 230, 3) := by decide +kernel
theorem cL_1644 : mc_lawcd 1644 = some (.pop, 1) := by decide +kernel
theorem cL_1645 : mc_lawcd 1645 = some (.aload_n 2, 1) := by decide +kernel
theorem cL_1646 : mc_lawcd 1646 = some (.invokevirtual 233, 3) := by decide +kernel
theorem cL_1649 : mc_lawcd 1649 = some (.pop, 1) := by decide +kernel
theorem cL_1650 : mc_lawcd 1650 = some (.goto 3, 3) := by decide +kernel
theorem cL_1653 : mc_lawcd 1653 = some (.iinc 4 6, 3) := by decide +kernel
theorem cL_1656 : mc_lawcd 1656 = some (.goto (-1633), 3) := by decide +kernel
theorem cL_1659 : mc_lawcd 1659 = some (.iconst 1, 1) := by decide +kernel
theorem cL_1660 : mc_lawcd 1660 = some (.ireturn, 1) := by decide +kernel
set_option maxHeartbeats 4000000 in
theorem wl_c0 {kt : Nat → Option mc_E} {CB SB : Nat} {X : mc_S → Prop} {T : wq_T} {H : wq_H} {Len x m o : Nat} {i : Int} (hX : wlX kt CB SB X) (hb : T.2.1 ≤ CB ∧ T.2.2.1 ≤ SB) (hI : wlI Len x m o T H) (hL : Len ≤ 3072) (hi : 0 ≤ i ∧ i + 6 ≤ Len) (hb2 : T.2.1 + 20 ≤ CB ∧ T.2.2.1 + 500 ≤ SB)  (next : ∀ T' H', wlI Len x m o T' H' → T'.2.1 ≤ T.2.1 + 20 → T'.2.2.1 ≤ T.2.2.1 + 500 → WL kt CB SB X 1653 (wlL i x m o) [] T' H') : WL kt CB SB X 256 (wlL i x m o) [] T H := by
  obtain ⟨hW, g0, gx, gm, go, hK, hr⟩ := hI
  refine wl_of hX hb cL_256 (rw_aload_n (pc' := 257) (v := .ref x) rfl rfl rfl ?_)
  refine wl_of hX hb cL_257 (rw_aload_n (pc' := 258) (v := .ref 0) rfl rfl rfl ?_)
  refine wl_of hX hb cL_258 (rw_iload (pc' := 260) (z := i) rfl rfl ?_)
  refine wl_of hX hb cL_260 (rw_iconst (pc' := 261) rfl ?_)
  refine wl_of hX hb cL_261 (rw_iadd (pc' := 262) rfl ?_)
  refine wl_of hX hb cL_262 (xa_I (so := 0) (pc' := 263) (a := 0) hW g0 (wsh_s _) (by omega) (wty_s _ _) (by omega) (by omega) rfl (fun b226890 b226891 => ?_))
  refine wl_of hX hb cL_263 (rw_aload_n (pc' := 264) (v := .ref 0) rfl rfl rfl ?_)
  refine wl_of hX hb cL_264 (rw_iload (pc' := 266) (z := i) rfl rfl ?_)
  refine wl_of hX hb cL_266 (rw_iconst (pc' := 267) rfl ?_)
  refine wl_of hX hb cL_267 (rw_iadd (pc' := 268) rfl ?_)
  refine wl_of hX hb cL_268 (xa_I (so := 0) (pc' := 269) (a := 0) hW g0 (wsh_s _) (by omega) (wty_s _ _) (by omega) (by omega) rfl (fun b226892 b226893 => ?_))
  refine wl_of hX hb cL_269 (rw_aload_n (pc' := 270) (v := .ref 0) rfl rfl rfl ?_)
  refine wl_of hX hb cL_270 (rw_iload (pc' := 272) (z := i) rfl rfl ?_)
  refine wl_of hX hb cL_272 (rw_iconst (pc' := 273) rfl ?_)
  refine wl_of hX hb cL_273 (rw_iadd (pc' := 274) rfl ?_)
  refine wl_of hX hb cL_274 (xa_I (so := 0) (pc' := 275) (a := 0) hW g0 (wsh_s _) (by omega) (wty_s _ _) (by omega) (by omega) rfl (fun b226894 b226895 => ?_))
  refine wl_of hX hb cL_275 (rw_aload_n (pc' := 276) (v := .ref 0) rfl rfl rfl ?_)
  refine wl_of hX hb cL_276 (rw_iload (pc' := 278) (z := i) rfl rfl ?_)
  refine wl_of hX hb cL_278 (rw_iconst (pc' := 279) rfl ?_)
  refine wl_of hX hb cL_279 (rw_iadd (pc' := 280) rfl ?_)
  refine wl_of hX hb cL_280 (xa_I (so := 0) (pc' := 281) (a := 0) hW g0 (wsh_s _) (by omega) (wty_s _ _) (by omega) (by omega) rfl (fun b226896 b226897 => ?_))
  refine wl_of hX hb cL_281 (rw_aload_n (pc' := 282) (v := .ref 0) rfl rfl rfl ?_)
  refine wl_of hX hb cL_282 (rw_iload (pc' := 284) (z := i) rfl rfl ?_)
  refine wl_of hX hb cL_284 (rw_iconst (pc' := 285) rfl ?_)
  refine wl_of hX hb cL_285 (rw_iadd (pc' := 286) rfl ?_)
  refine wl_of hX hb cL_286 (xa_I (so := 0) (pc' := 287) (a := 0) hW g0 (wsh_s _) (by omega) (wty_s _ _) (by omega) (by omega) rfl (fun b226898 b226899 => ?_))
  refine wl_of hX hb cL_287 (xc_V (pc' := 290) (r := x) (as := [vI (H 0 ((i + 1).toNat)), vI (H 0 ((i + 2).toNat)), vI (H 0 ((i + 3).toNat)), vI (H 0 ((i + 4).toNat)), vI (H 0 ((i + 5).toNat))]) (st := []) (lm_11_19) rfl rfl (Nat.le_of_ble_eq_true rfl) hW gx sh_1 (by decide) rfl (by decide) (s_9 hW gx ⟨by omega, by omega⟩ ⟨by omega, by omega⟩ ⟨by omega, by omega⟩ ⟨by omega, by omega⟩ ⟨by omega, by omega⟩) (fun R226900 T226901 H226902 p226903 => ?_))
  obtain ⟨e226904, w226906, f226907, z226909, e226905, b226910, p226908⟩ := p226903
  subst e226904
  subst e226905
  show WL _ _ _ _ 290 [(4, vI i), (3, .ref o), (2, .ref m), (1, .ref x), (0, .ref 0)] [vI z226909] _ H226902
  refine wl_of hX hb cL_290 (rw_aload_n (pc' := 291) (v := .ref m) rfl rfl rfl ?_)
  refine wl_of hX hb cL_291 (rw_aload_n (pc' := 292) (v := .ref 0) rfl rfl rfl ?_)
  refine wl_of hX hb cL_292 (rw_iload (pc' := 294) (z := i) rfl rfl ?_)
  refine wl_of hX hb cL_294 (rw_iconst (pc' := 295) rfl ?_)
  refine wl_of hX hb cL_295 (rw_iadd (pc' := 296) rfl ?_)
  have k226913 : H226902 0 ((i + 1).toNat) = H 0 ((i + 1).toNat) := (f226907 0 ((i + 1).toNat) _ g0 (wmem_s rfl))
  refine wl_of hX hb cL_296 (xa_I (so := 0) (pc' := 297) (a := 0) w226906 g0 (wsh_s _) (by omega) (wty_s _ _) (by omega) (by omega) rfl (fun b226911 b226912 => ?_))
  refine wl_of hX hb cL_297 (rw_aload_n (pc' := 298) (v := .ref 0) rfl rfl rfl ?_)
  refine wl_of hX hb cL_298 (rw_iload (pc' := 300) (z := i) rfl rfl ?_)
  refine wl_of hX hb cL_300 (rw_iconst (pc' := 301) rfl ?_)
  refine wl_of hX hb cL_301 (rw_iadd (pc' := 302) rfl ?_)
  have k226916 : H226902 0 ((i + 2).toNat) = H 0 ((i + 2).toNat) := (f226907 0 ((i + 2).toNat) _ g0 (wmem_s rfl))
  refine wl_of hX hb cL_302 (xa_I (so := 0) (pc' := 303) (a := 0) w226906 g0 (wsh_s _) (by omega) (wty_s _ _) (by omega) (by omega) rfl (fun b226914 b226915 => ?_))
  refine wl_of hX hb cL_303 (rw_aload_n (pc' := 304) (v := .ref 0) rfl rfl rfl ?_)
  refine wl_of hX hb cL_304 (rw_iload (pc' := 306) (z := i) rfl rfl ?_)
  refine wl_of hX hb cL_306 (rw_iconst (pc' := 307) rfl ?_)
  refine wl_of hX hb cL_307 (rw_iadd (pc' := 308) rfl ?_)
  have k226919 : H226902 0 ((i + 3).toNat) = H 0 ((i + 3).toNat) := (f226907 0 ((i + 3).toNat) _ g0 (wmem_s rfl))
  refine wl_of hX hb cL_308 (xa_I (so := 0) (pc' := 309) (a := 0) w226906 g0 (wsh_s _) (by omega) (wty_s _ _) (by omega) (by omega) rfl (fun b226917 b226918 => ?_))
  refine wl_of hX hb cL_309 (rw_aload_n (pc' := 310) (v := .ref 0) rfl rfl rfl ?_)
  refine wl_of hX hb cL_310 (rw_iload (pc' := 312) (z := i) rfl rfl ?_)
  refine wl_of hX hb cL_312 (rw_iconst (pc' := 313) rfl ?_)
  refine wl_of hX hb cL_313 (rw_iadd (pc' := 314) rfl ?_)
  have k226922 : H226902 0 ((i + 4).toNat) = H 0 ((i + 4).toNat) := (f226907 0 ((i + 4).toNat) _ g0 (wmem_s rfl))
  refine wl_of hX hb cL_314 (xa_I (so := 0) (pc' := 315) (a := 0) w226906 g0 (wsh_s _) (by omega) (wty_s _ _) (by omega) (by omega) rfl (fun b226920 b226921 => ?_))
  refine wl_of hX hb cL_315 (rw_aload_n (pc' := 316) (v := .ref 0) rfl rfl rfl ?_)
  refine wl_of hX hb cL_316 (rw_iload (pc' := 318) (z := i) rfl rfl ?_)
  refine wl_of hX hb cL_318 (rw_iconst (pc' := 319) rfl ?_)
  refine wl_of hX hb cL_319 (rw_iadd (pc' := 320) rfl ?_)
  have k226925 : H226902 0 ((i + 5).toNat) = H 0 ((i + 5).toNat) := (f226907 0 ((i + 5).toNat) _ g0 (wmem_s rfl))
  refine wl_of hX hb cL_320 (xa_I (so := 0) (pc' := 321) (a := 0) w226906 g0 (wsh_s _) (by omega) (wty_s _ _) (by omega) (by omega) rfl (fun b226923 b226924 => ?_))
  have k226926 : wKI H226902 m = wKI H m := (wKI_fr hW gm f226907 rfl)
  have k226927 : H226902 m 6 = H m 6 := (f226907 m 6 _ gm rfl)
  refine wl_of hX hb cL_321 (xc_V (pc' := 324) (r := m) (as := [vI (H226902 0 ((i + 1).toNat)), vI (H226902 0 ((i + 2).toNat)), vI (H226902 0 ((i + 3).toNat)), vI (H226902 0 ((i + 4).toNat)), vI (H226902 0 ((i + 5).toNat))]) (st := [vI z226909]) (lm_11_23) rfl rfl (Nat.le_of_ble_eq_true rfl) w226906 gm sh_42 (by decide) rfl (by decide) (s_168 w226906 gm ⟨by omega, by omega⟩ ⟨by omega, by omega⟩ ⟨by omega, by omega⟩ ⟨by omega, by omega⟩ ⟨by omega, by omega⟩ (by omega)) (fun R226928 T226929 H226930 p226931 => ?_))
  obtain ⟨e226932, w226934, f226935, z226938, e226933, b226939, p226936, p226937⟩ := p226931
  subst e226932
  subst e226933
  show WL _ _ _ _ 324 [(4, vI i), (3, .ref o), (2, .ref m), (1, .ref x), (0, .ref 0)] [vI z226938, vI z226909] _ H226930
  refine wl_of hX hb cL_324 (rw_icmp_eq (p1 := 1653) (p2 := 327) (by decide) rfl ⟨by omega, by omega⟩ ⟨by omega, by omega⟩ (fun c226940 => ?_) (fun c226940 => ?_))
  · have k226941 : H226930 x 9 = H226902 x 9 := (f226935 x 9 _ gx rfl)
    exact WL.loc hX (by simp) (next T H226930 ⟨w226934, g0, gx, gm, go, by omega, by omega⟩ (by omega) (by omega))
  · refine wl_of hX hb cL_327 (rw_iconst (pc' := 328) rfl ?_)
    exfalso
    omega
set_option maxHeartbeats 4000000 in
theorem wl_c1 {kt : Nat → Option mc_E} {CB SB : Nat} {X : mc_S → Prop} {T : wq_T} {H : wq_H} {Len x m o : Nat} {i : Int} (hX : wlX kt CB SB X) (hb : T.2.1 ≤ CB ∧ T.2.2.1 ≤ SB) (hI : wlI Len x m o T H) (hL : Len ≤ 3072) (hi : 0 ≤ i ∧ i + 6 ≤ Len) (hb2 : T.2.1 + 20 ≤ CB ∧ T.2.2.1 + 500 ≤ SB)  (next : ∀ T' H', wlI Len x m o T' H' → T'.2.1 ≤ T.2.1 + 20 → T'.2.2.1 ≤ T.2.2.1 + 500 → WL kt CB SB X 1653 (wlL i x m o) [] T' H') : WL kt CB SB X 329 (wlL i x m o) [] T H := by
  obtain ⟨hW, g0, gx, gm, go, hK, hr⟩ := hI
  refine wl_of hX hb cL_329 (rw_aload_n (pc' := 330) (v := .ref x) rfl rfl rfl ?_)
  refine wl_of hX hb cL_330 (rw_aload_n (pc' := 331) (v := .ref 0) rfl rfl rfl ?_)
  refine wl_of hX hb cL_331 (rw_iload (pc' := 333) (z := i) rfl rfl ?_)
  refine wl_of hX hb cL_333 (rw_iconst (pc' := 334) rfl ?_)
  refine wl_of hX hb cL_334 (rw_iadd (pc' := 335) rfl ?_)
  refine wl_of hX hb cL_335 (xa_I (so := 0) (pc' := 336) (a := 0) hW g0 (wsh_s _) (by omega) (wty_s _ _) (by omega) (by omega) rfl (fun b226942 b226943 => ?_))
  refine wl_of hX hb cL_336 (xc_V (pc' := 339) (r := x) (as := [vI (H 0 ((i + 1).toNat))]) (st := []) (lm_11_24) rfl rfl (Nat.le_of_ble_eq_true rfl) hW gx sh_1 (by decide) rfl (by decide) (s_11 hW gx ⟨by omega, by omega⟩) (fun R226944 T226945 H226946 p226947 => ?_))
  obtain ⟨e226948, w226950, f226951, z226953, e226949, b226954, p226952⟩ := p226947
  subst e226948
  subst e226949
  show WL _ _ _ _ 339 [(4, vI i), (3, .ref o), (2, .ref m), (1, .ref x), (0, .ref 0)] [vI z226953] _ H226946
  refine wl_of hX hb cL_339 (rw_pop (pc' := 340) rfl rfl ?_)
  refine wl_of hX hb cL_340 (rw_aload_n (pc' := 341) (v := .ref m) rfl rfl rfl ?_)
  refine wl_of hX hb cL_341 (rw_aload_n (pc' := 342) (v := .ref 0) rfl rfl rfl ?_)
  refine wl_of hX hb cL_342 (rw_iload (pc' := 344) (z := i) rfl rfl ?_)
  refine wl_of hX hb cL_344 (rw_iconst (pc' := 345) rfl ?_)
  refine wl_of hX hb cL_345 (rw_iadd (pc' := 346) rfl ?_)
  have k226957 : H226946 0 ((i + 1).toNat) = H 0 ((i + 1).toNat) := (f226951 0 ((i + 1).toNat) _ g0 (wmem_s rfl))
  refine wl_of hX hb cL_346 (xa_I (so := 0) (pc' := 347) (a := 0) w226950 g0 (wsh_s _) (by omega) (wty_s _ _) (by omega) (by omega) rfl (fun b226955 b226956 => ?_))
  have k226958 : wKI H226946 m = wKI H m := (wKI_fr hW gm f226951 rfl)
  have k226959 : H226946 m 6 = H m 6 := (f226951 m 6 _ gm rfl)
  refine wl_of hX hb cL_347 (xc_V (pc' := 350) (r := m) (as := [vI (H226946 0 ((i + 1).toNat))]) (st := []) lm_11_27 rfl rfl (Nat.le_of_ble_eq_true rfl) w226950 gm sh_42 (by decide) rfl (by decide) (s_169 w226950 gm ⟨by omega, by omega⟩ (by omega)) (fun R9 T9 H9 p9 => ?_))
  obtain ⟨mT, nT, zT, w9, f9, z9, e9, b9, p0, p1⟩ := p9
  subst e9
  have k226960 : H9 x 9 = H226946 x 9 := (f9 x 9 _ gx rfl)
  have hb : T9.2.1 ≤ CB ∧ T9.2.2.1 ≤ SB := ⟨by omega, by omega⟩
  have g0 := mT _ _ g0
  have gx := mT _ _ gx
  have gm := mT _ _ gm
  have go := mT _ _ go
  show WL _ _ _ _ 350 [(4, vI i), (3, .ref o), (2, .ref m), (1, .ref x), (0, .ref 0)] [vI z9] _ H9
  refine wl_of hX hb cL_350 (rw_pop (pc' := 351) rfl rfl ?_)
  refine wl_of hX hb cL_351 (rw_goto (p1 := 1653) (by decide) ?_)
  exact WL.loc hX (by simp) (next T9 H9 ⟨w9, g0, gx, gm, go, by omega, by omega⟩ (by omega) (by omega))
set_option maxHeartbeats 4000000 in
theorem wl_c2 {kt : Nat → Option mc_E} {CB SB : Nat} {X : mc_S → Prop} {T : wq_T} {H : wq_H} {Len x m o : Nat} {i : Int} (hX : wlX kt CB SB X) (hb : T.2.1 ≤ CB ∧ T.2.2.1 ≤ SB) (hI : wlI Len x m o T H) (hL : Len ≤ 3072) (hi : 0 ≤ i ∧ i + 6 ≤ Len) (hb2 : T.2.1 + 20 ≤ CB ∧ T.2.2.1 + 500 ≤ SB)  (next : ∀ T' H', wlI Len x m o T' H' → T'.2.1 ≤ T.2.1 + 20 → T'.2.2.1 ≤ T.2.2.1 + 500 → WL kt CB SB X 1653 (wlL i x m o) [] T' H') : WL kt CB SB X 354 (wlL i x m o) [] T H := by
  obtain ⟨hW, g0, gx, gm, go, hK, hr⟩ := hI
  refine wl_of hX hb cL_354 (rw_aload_n (pc' := 355) (v := .ref x) rfl rfl rfl ?_)
  refine wl_of hX hb cL_355 (xc_V (pc' := 358) (r := x) (as := []) (st := []) (lm_11_28) rfl rfl (Nat.le_of_ble_eq_true rfl) hW gx sh_1 (by decide) rfl (by decide) (s_52 hW gx) (fun R226961 T226962 H226963 p226964 => ?_))
  obtain ⟨e226965, e226967, z226968, e226966, b226969⟩ := p226964
  subst e226965
  subst e226966
  subst e226967
  show WL _ _ _ _ 358 [(4, vI i), (3, .ref o), (2, .ref m), (1, .ref x), (0, .ref 0)] [vI z226968] _ H
  refine wl_of hX hb cL_358 (rw_pop (pc' := 359) rfl rfl ?_)
  refine wl_of hX hb cL_359 (rw_aload_n (pc' := 360) (v := .ref m) rfl rfl rfl ?_)
  refine wl_of hX hb cL_360 (xc_V (pc' := 363) (r := m) (as := []) (st := []) (lm_11_32) rfl rfl (Nat.le_of_ble_eq_true rfl) hW gm sh_42 (by decide) rfl (by decide) (s_210 hW gm (by omega)) (fun R226970 T226971 H226972 p226973 => ?_))
  obtain ⟨e226974, w226976, f226977, z226979, e226975, b226980, p226978⟩ := p226973
  subst e226974
  subst e226975
  show WL _ _ _ _ 363 [(4, vI i), (3, .ref o), (2, .ref m), (1, .ref x), (0, .ref 0)] [vI z226979] _ H226972
  refine wl_of hX hb cL_363 (rw_pop (pc' := 364) rfl rfl ?_)
  refine wl_of hX hb cL_364 (rw_goto (p1 := 1653) (by decide) ?_)
  have k226981 : H226972 x 9 = H x 9 := (f226977 x 9 _ gx rfl)
  have k226982 : H226972 m 6 = H m 6 := (f226977 m 6 _ gm rfl)
  exact WL.loc hX (by simp) (next T H226972 ⟨w226976, g0, gx, gm, go, by omega, by omega⟩ (by omega) (by omega))
set_option maxHeartbeats 4000000 in
theorem wl_c3 {kt : Nat → Option mc_E} {CB SB : Nat} {X : mc_S → Prop} {T : wq_T} {H : wq_H} {Len x m o : Nat} {i : Int} (hX : wlX kt CB SB X) (hb : T.2.1 ≤ CB ∧ T.2.2.1 ≤ SB) (hI : wlI Len x m o T H) (hL : Len ≤ 3072) (hi : 0 ≤ i ∧ i + 6 ≤ Len) (hb2 : T.2.1 + 20 ≤ CB ∧ T.2.2.1 + 500 ≤ SB)  (next : ∀ T' H', wlI Len x m o T' H' → T'.2.1 ≤ T.2.1 + 20 → T'.2.2.1 ≤ T.2.2.1 + 500 → WL kt CB SB X 1653 (wlL i x m o) [] T' H') : WL kt CB SB X 367 (wlL i x m o) [] T H := by
  obtain ⟨hW, g0, gx, gm, go, hK, hr⟩ := hI
  refine wl_of hX hb cL_367 (rw_aload_n (pc' := 368) (v := .ref x) rfl rfl rfl ?_)
  refine wl_of hX hb cL_368 (xc_V (pc' := 371) (r := x) (as := []) (st := []) (lm_11_33) rfl rfl (Nat.le_of_ble_eq_true rfl) hW gx sh_1 (by decide) rfl (by decide) (s_53 hW gx) (fun R226983 T226984 H226985 p226986 => ?_))
  obtain ⟨e226987, e226989, z226990, e226988, b226991⟩ := p226986
  subst e226987
  subst e226988
  subst e226989
  show WL _ _ _ _ 371 [(4, vI i), (3, .ref o), (2, .ref m), (1, .ref x), (0, .ref 0)] [vI z226990] _ H
  refine wl_of hX hb cL_371 (rw_pop (pc' := 372) rfl rfl ?_)
  refine wl_of hX hb cL_372 (rw_aload_n (pc' := 373) (v := .ref m) rfl rfl rfl ?_)
  refine wl_of hX hb cL_373 (xc_V (pc' := 376) (r := m) (as := []) (st := []) (lm_11_36) rfl rfl (Nat.le_of_ble_eq_true rfl) hW gm sh_42 (by decide) rfl (by decide) (s_211 hW gm (by omega)) (fun R226992 T226993 H226994 p226995 => ?_))
  obtain ⟨e226996, w226998, f226999, z227001, e226997, b227002, p227000⟩ := p226995
  subst e226996
  subst e226997
  show WL _ _ _ _ 376 [(4, vI i), (3, .ref o), (2, .ref m), (1, .ref x), (0, .ref 0)] [vI z227001] _ H226994
  refine wl_of hX hb cL_376 (rw_pop (pc' := 377) rfl rfl ?_)
  refine wl_of hX hb cL_377 (rw_goto (p1 := 1653) (by decide) ?_)
  have k227003 : H226994 x 9 = H x 9 := (f226999 x 9 _ gx rfl)
  have k227004 : H226994 m 6 = H m 6 := (f226999 m 6 _ gm rfl)
  exact WL.loc hX (by simp) (next T H226994 ⟨w226998, g0, gx, gm, go, by omega, by omega⟩ (by omega) (by omega))
set_option maxHeartbeats 4000000 in
theorem wl_c4 {kt : Nat → Option mc_E} {CB SB : Nat} {X : mc_S → Prop} {T : wq_T} {H : wq_H} {Len x m o : Nat} {i : Int} (hX : wlX kt CB SB X) (hb : T.2.1 ≤ CB ∧ T.2.2.1 ≤ SB) (hI : wlI Len x m o T H) (hL : Len ≤ 3072) (hi : 0 ≤ i ∧ i + 6 ≤ Len) (hb2 : T.2.1 + 20 ≤ CB ∧ T.2.2.1 + 500 ≤ SB)  (next : ∀ T' H', wlI Len x m o T' H' → T'.2.1 ≤ T.2.1 + 20 → T'.2.2.1 ≤ T.2.2.1 + 500 → WL kt CB SB X 1653 (wlL i x m o) [] T' H') : WL kt CB SB X 380 (wlL i x m o) [] T H := by
  obtain ⟨hW, g0, gx, gm, go, hK, hr⟩ := hI
  refine wl_of hX hb cL_380 (rw_aload_n (pc' := 381) (v := .ref x) rfl rfl rfl ?_)
  refine wl_of hX hb cL_381 (rw_aload_n (pc' := 382) (v := .ref 0) rfl rfl rfl ?_)
  refine wl_of hX hb cL_382 (rw_iload (pc' := 384) (z := i) rfl rfl ?_)
  refine wl_of hX hb cL_384 (rw_iconst (pc' := 385) rfl ?_)
  refine wl_of hX hb cL_385 (rw_iadd (pc' := 386) rfl ?_)
  refine wl_of hX hb cL_386 (xa_I (so := 0) (pc' := 387) (a := 0) hW g0 (wsh_s _) (by omega) (wty_s _ _) (by omega) (by omega) rfl (fun b227005 b227006 => ?_))
  refine wl_of hX hb cL_387 (xc_V (pc' := 390) (r := x) (as := [vI (H 0 ((i + 1).toNat))]) (st := []) (lm_11_37) rfl rfl (Nat.le_of_ble_eq_true rfl) hW gx sh_1 (by decide) rfl (by decide) (s_54 hW gx ⟨by omega, by omega⟩) (fun R227007 T227008 H227009 p227010 => ?_))
  obtain ⟨e227011, w227013, f227014, z227015, e227012, b227016⟩ := p227010
  subst e227011
  subst e227012
  show WL _ _ _ _ 390 [(4, vI i), (3, .ref o), (2, .ref m), (1, .ref x), (0, .ref 0)] [vI z227015] _ H227009
  refine wl_of hX hb cL_390 (rw_pop (pc' := 391) rfl rfl ?_)
  refine wl_of hX hb cL_391 (rw_aload_n (pc' := 392) (v := .ref m) rfl rfl rfl ?_)
  refine wl_of hX hb cL_392 (rw_aload_n (pc' := 393) (v := .ref 0) rfl rfl rfl ?_)
  refine wl_of hX hb cL_393 (rw_iload (pc' := 395) (z := i) rfl rfl ?_)
  refine wl_of hX hb cL_395 (rw_iconst (pc' := 396) rfl ?_)
  refine wl_of hX hb cL_396 (rw_iadd (pc' := 397) rfl ?_)
  have k227019 : H227009 0 ((i + 1).toNat) = H 0 ((i + 1).toNat) := (f227014 0 ((i + 1).toNat) _ g0 (wmem_s rfl))
  refine wl_of hX hb cL_397 (xa_I (so := 0) (pc' := 398) (a := 0) w227013 g0 (wsh_s _) (by omega) (wty_s _ _) (by omega) (by omega) rfl (fun b227017 b227018 => ?_))
  have k227020 : wKI H227009 m = wKI H m := (wKI_fr hW gm f227014 rfl)
  have k227021 : H227009 x 9 = H x 9 := (f227014 x 9 _ gx rfl)
  have k227022 : H227009 m 6 = H m 6 := (f227014 m 6 _ gm rfl)
  refine wl_of hX hb cL_398 (xc_V (pc' := 401) (r := m) (as := [vI (H227009 0 ((i + 1).toNat))]) (st := []) (lm_11_40) rfl rfl (Nat.le_of_ble_eq_true rfl) w227013 gm sh_42 (by decide) rfl (by decide) (s_212 w227013 gm ⟨by omega, by omega⟩ (by omega)) (fun R227023 T227024 H227025 p227026 => ?_))
  obtain ⟨e227027, w227029, f227030, z227032, e227028, b227033, p227031⟩ := p227026
  subst e227027
  subst e227028
  show WL _ _ _ _ 401 [(4, vI i), (3, .ref o), (2, .ref m), (1, .ref x), (0, .ref 0)] [vI z227032] _ H227025
  refine wl_of hX hb cL_401 (rw_pop (pc' := 402) rfl rfl ?_)
  refine wl_of hX hb cL_402 (rw_goto (p1 := 1653) (by decide) ?_)
  have k227034 : H227025 x 9 = H227009 x 9 := (f227030 x 9 _ gx rfl)
  have k227035 : H227025 m 6 = H227009 m 6 := (f227030 m 6 _ gm rfl)
  exact WL.loc hX (by simp) (next T H227025 ⟨w227029, g0, gx, gm, go, by omega, by omega⟩ (by omega) (by omega))
set_option maxHeartbeats 4000000 in
theorem wl_c5 {kt : Nat → Option mc_E} {CB SB : Nat} {X : mc_S → Prop} {T : wq_T} {H : wq_H} {Len x m o : Nat} {i : Int} (hX : wlX kt CB SB X) (hb : T.2.1 ≤ CB ∧ T.2.2.1 ≤ SB) (hI : wlI Len x m o T H) (hL : Len ≤ 3072) (hi : 0 ≤ i ∧ i + 6 ≤ Len) (hb2 : T.2.1 + 20 ≤ CB ∧ T.2.2.1 + 500 ≤ SB)  (next : ∀ T' H', wlI Len x m o T' H' → T'.2.1 ≤ T.2.1 + 20 → T'.2.2.1 ≤ T.2.2.1 + 500 → WL kt CB SB X 1653 (wlL i x m o) [] T' H') : WL kt CB SB X 405 (wlL i x m o) [] T H := by
  obtain ⟨hW, g0, gx, gm, go, hK, hr⟩ := hI
  refine wl_of hX hb cL_405 (rw_aload_n (pc' := 406) (v := .ref x) rfl rfl rfl ?_)
  refine wl_of hX hb cL_406 (rw_aload_n (pc' := 407) (v := .ref 0) rfl rfl rfl ?_)
  refine wl_of hX hb cL_407 (rw_iload (pc' := 409) (z := i) rfl rfl ?_)
  refine wl_of hX hb cL_409 (rw_iconst (pc' := 410) rfl ?_)
  refine wl_of hX hb cL_410 (rw_iadd (pc' := 411) rfl ?_)
  refine wl_of hX hb cL_411 (xa_I (so := 0) (pc' := 412) (a := 0) hW g0 (wsh_s _) (by omega) (wty_s _ _) (by omega) (by omega) rfl (fun b227036 b227037 => ?_))
  refine wl_of hX hb cL_412 (rw_aload_n (pc' := 413) (v := .ref 0) rfl rfl rfl ?_)
  refine wl_of hX hb cL_413 (rw_iload (pc' := 415) (z := i) rfl rfl ?_)
  refine wl_of hX hb cL_415 (rw_iconst (pc' := 416) rfl ?_)
  refine wl_of hX hb cL_416 (rw_iadd (pc' := 417) rfl ?_)
  refine wl_of hX hb cL_417 (xa_I (so := 0) (pc' := 418) (a := 0) hW g0 (wsh_s _) (by omega) (wty_s _ _) (by omega) (by omega) rfl (fun b227038 b227039 => ?_))
  refine wl_of hX hb cL_418 (rw_aload_n (pc' := 419) (v := .ref 0) rfl rfl rfl ?_)
  refine wl_of hX hb cL_419 (rw_iload (pc' := 421) (z := i) rfl rfl ?_)
  refine wl_of hX hb cL_421 (rw_iconst (pc' := 422) rfl ?_)
  refine wl_of hX hb cL_422 (rw_iadd (pc' := 423) rfl ?_)
  refine wl_of hX hb cL_423 (xa_I (so := 0) (pc' := 424) (a := 0) hW g0 (wsh_s _) (by omega) (wty_s _ _) (by omega) (by omega) rfl (fun b227040 b227041 => ?_))
  refine wl_of hX hb cL_424 (xc_V (pc' := 427) (r := x) (as := [vI (H 0 ((i + 1).toNat)), vI (H 0 ((i + 2).toNat)), vI (H 0 ((i + 3).toNat))]) (st := []) (lm_11_41) rfl rfl (Nat.le_of_ble_eq_true rfl) hW gx sh_1 (by decide) rfl (by decide) (s_56 hW gx ⟨by omega, by omega⟩ ⟨by omega, by omega⟩ ⟨by omega, by omega⟩) (fun R227042 T227043 H227044 p227045 => ?_))
  obtain ⟨e227046, w227048, f227049, z227050, e227047, b227051⟩ := p227045
  subst e227046
  subst e227047
  show WL _ _ _ _ 427 [(4, vI i), (3, .ref o), (2, .ref m), (1, .ref x), (0, .ref 0)] [vI z227050] _ H227044
  refine wl_of hX hb cL_427 (rw_pop (pc' := 428) rfl rfl ?_)
  refine wl_of hX hb cL_428 (rw_aload_n (pc' := 429) (v := .ref m) rfl rfl rfl ?_)
  refine wl_of hX hb cL_429 (rw_aload_n (pc' := 430) (v := .ref 0) rfl rfl rfl ?_)
  refine wl_of hX hb cL_430 (rw_iload (pc' := 432) (z := i) rfl rfl ?_)
  refine wl_of hX hb cL_432 (rw_iconst (pc' := 433) rfl ?_)
  refine wl_of hX hb cL_433 (rw_iadd (pc' := 434) rfl ?_)
  have k227054 : H227044 0 ((i + 1).toNat) = H 0 ((i + 1).toNat) := (f227049 0 ((i + 1).toNat) _ g0 (wmem_s rfl))
  refine wl_of hX hb cL_434 (xa_I (so := 0) (pc' := 435) (a := 0) w227048 g0 (wsh_s _) (by omega) (wty_s _ _) (by omega) (by omega) rfl (fun b227052 b227053 => ?_))
  refine wl_of hX hb cL_435 (rw_aload_n (pc' := 436) (v := .ref 0) rfl rfl rfl ?_)
  refine wl_of hX hb cL_436 (rw_iload (pc' := 438) (z := i) rfl rfl ?_)
  refine wl_of hX hb cL_438 (rw_iconst (pc' := 439) rfl ?_)
  refine wl_of hX hb cL_439 (rw_iadd (pc' := 440) rfl ?_)
  have k227057 : H227044 0 ((i + 2).toNat) = H 0 ((i + 2).toNat) := (f227049 0 ((i + 2).toNat) _ g0 (wmem_s rfl))
  refine wl_of hX hb cL_440 (xa_I (so := 0) (pc' := 441) (a := 0) w227048 g0 (wsh_s _) (by omega) (wty_s _ _) (by omega) (by omega) rfl (fun b227055 b227056 => ?_))
  refine wl_of hX hb cL_441 (rw_aload_n (pc' := 442) (v := .ref 0) rfl rfl rfl ?_)
  refine wl_of hX hb cL_442 (rw_iload (pc' := 444) (z := i) rfl rfl ?_)
  refine wl_of hX hb cL_444 (rw_iconst (pc' := 445) rfl ?_)
  refine wl_of hX hb cL_445 (rw_iadd (pc' := 446) rfl ?_)
  have k227060 : H227044 0 ((i + 3).toNat) = H 0 ((i + 3).toNat) := (f227049 0 ((i + 3).toNat) _ g0 (wmem_s rfl))
  refine wl_of hX hb cL_446 (xa_I (so := 0) (pc' := 447) (a := 0) w227048 g0 (wsh_s _) (by omega) (wty_s _ _) (by omega) (by omega) rfl (fun b227058 b227059 => ?_))
  have k227061 : wKI H227044 m = wKI H m := (wKI_fr hW gm f227049 rfl)
  have k227062 : H227044 x 9 = H x 9 := (f227049 x 9 _ gx rfl)
  have k227063 : H227044 m 6 = H m 6 := (f227049 m 6 _ gm rfl)
  refine wl_of hX hb cL_447 (xc_V (pc' := 450) (r := m) (as := [vI (H227044 0 ((i + 1).toNat)), vI (H227044 0 ((i + 2).toNat)), vI (H227044 0 ((i + 3).toNat))]) (st := []) (lm_11_45) rfl rfl (Nat.le_of_ble_eq_true rfl) w227048 gm sh_42 (by decide) rfl (by decide) (s_214 w227048 gm ⟨by omega, by omega⟩ ⟨by omega, by omega⟩ ⟨by omega, by omega⟩ (by omega)) (fun R227064 T227065 H227066 p227067 => ?_))
  obtain ⟨e227068, w227070, f227071, z227073, e227069, b227074, p227072⟩ := p227067
  subst e227068
  subst e227069
  show WL _ _ _ _ 450 [(4, vI i), (3, .ref o), (2, .ref m), (1, .ref x), (0, .ref 0)] [vI z227073] _ H227066
  refine wl_of hX hb cL_450 (rw_pop (pc' := 451) rfl rfl ?_)
  refine wl_of hX hb cL_451 (rw_goto (p1 := 1653) (by decide) ?_)
  have k227075 : H227066 x 9 = H227044 x 9 := (f227071 x 9 _ gx rfl)
  have k227076 : H227066 m 6 = H227044 m 6 := (f227071 m 6 _ gm rfl)
  exact WL.loc hX (by simp) (next T H227066 ⟨w227070, g0, gx, gm, go, by omega, by omega⟩ (by omega) (by omega))
set_option maxHeartbeats 4000000 in
theorem wl_c6 {kt : Nat → Option mc_E} {CB SB : Nat} {X : mc_S → Prop} {T : wq_T} {H : wq_H} {Len x m o : Nat} {i : Int} (hX : wlX kt CB SB X) (hb : T.2.1 ≤ CB ∧ T.2.2.1 ≤ SB) (hI : wlI Len x m o T H) (hL : Len ≤ 3072) (hi : 0 ≤ i ∧ i + 6 ≤ Len) (hb2 : T.2.1 + 20 ≤ CB ∧ T.2.2.1 + 500 ≤ SB)  (next : ∀ T' H', wlI Len x m o T' H' → T'.2.1 ≤ T.2.1 + 20 → T'.2.2.1 ≤ T.2.2.1 + 500 → WL kt CB SB X 1653 (wlL i x m o) [] T' H') : WL kt CB SB X 454 (wlL i x m o) [] T H := by
  obtain ⟨hW, g0, gx, gm, go, hK, hr⟩ := hI
  refine wl_of hX hb cL_454 (rw_aload_n (pc' := 455) (v := .ref x) rfl rfl rfl ?_)
  refine wl_of hX hb cL_455 (rw_aload_n (pc' := 456) (v := .ref 0) rfl rfl rfl ?_)
  refine wl_of hX hb cL_456 (rw_iload (pc' := 458) (z := i) rfl rfl ?_)
  refine wl_of hX hb cL_458 (rw_iconst (pc' := 459) rfl ?_)
  refine wl_of hX hb cL_459 (rw_iadd (pc' := 460) rfl ?_)
  refine wl_of hX hb cL_460 (xa_I (so := 0) (pc' := 461) (a := 0) hW g0 (wsh_s _) (by omega) (wty_s _ _) (by omega) (by omega) rfl (fun b227077 b227078 => ?_))
  refine wl_of hX hb cL_461 (rw_aload_n (pc' := 462) (v := .ref 0) rfl rfl rfl ?_)
  refine wl_of hX hb cL_462 (rw_iload (pc' := 464) (z := i) rfl rfl ?_)
  refine wl_of hX hb cL_464 (rw_iconst (pc' := 465) rfl ?_)
  refine wl_of hX hb cL_465 (rw_iadd (pc' := 466) rfl ?_)
  refine wl_of hX hb cL_466 (xa_I (so := 0) (pc' := 467) (a := 0) hW g0 (wsh_s _) (by omega) (wty_s _ _) (by omega) (by omega) rfl (fun b227079 b227080 => ?_))
  refine wl_of hX hb cL_467 (rw_aload_n (pc' := 468) (v := .ref 0) rfl rfl rfl ?_)
  refine wl_of hX hb cL_468 (rw_iload (pc' := 470) (z := i) rfl rfl ?_)
  refine wl_of hX hb cL_470 (rw_iconst (pc' := 471) rfl ?_)
  refine wl_of hX hb cL_471 (rw_iadd (pc' := 472) rfl ?_)
  refine wl_of hX hb cL_472 (xa_I (so := 0) (pc' := 473) (a := 0) hW g0 (wsh_s _) (by omega) (wty_s _ _) (by omega) (by omega) rfl (fun b227081 b227082 => ?_))
  refine wl_of hX hb cL_473 (xc_V (pc' := 476) (r := x) (as := [vI (H 0 ((i + 1).toNat)), vI (H 0 ((i + 2).toNat)), vI (H 0 ((i + 3).toNat))]) (st := []) (lm_11_46) rfl rfl (Nat.le_of_ble_eq_true rfl) hW gx sh_1 (by decide) rfl (by decide) (s_59 hW gx ⟨by omega, by omega⟩ ⟨by omega, by omega⟩ ⟨by omega, by omega⟩) (fun R227083 T227084 H227085 p227086 => ?_))
  obtain ⟨e227087, w227089, f227090, z227091, e227088, b227092⟩ := p227086
  subst e227087
  subst e227088
  show WL _ _ _ _ 476 [(4, vI i), (3, .ref o), (2, .ref m), (1, .ref x), (0, .ref 0)] [vI z227091] _ H227085
  refine wl_of hX hb cL_476 (rw_pop (pc' := 477) rfl rfl ?_)
  refine wl_of hX hb cL_477 (rw_aload_n (pc' := 478) (v := .ref m) rfl rfl rfl ?_)
  refine wl_of hX hb cL_478 (rw_aload_n (pc' := 479) (v := .ref 0) rfl rfl rfl ?_)
  refine wl_of hX hb cL_479 (rw_iload (pc' := 481) (z := i) rfl rfl ?_)
  refine wl_of hX hb cL_481 (rw_iconst (pc' := 482) rfl ?_)
  refine wl_of hX hb cL_482 (rw_iadd (pc' := 483) rfl ?_)
  have k227095 : H227085 0 ((i + 1).toNat) = H 0 ((i + 1).toNat) := (f227090 0 ((i + 1).toNat) _ g0 (wmem_s rfl))
  refine wl_of hX hb cL_483 (xa_I (so := 0) (pc' := 484) (a := 0) w227089 g0 (wsh_s _) (by omega) (wty_s _ _) (by omega) (by omega) rfl (fun b227093 b227094 => ?_))
  refine wl_of hX hb cL_484 (rw_aload_n (pc' := 485) (v := .ref 0) rfl rfl rfl ?_)
  refine wl_of hX hb cL_485 (rw_iload (pc' := 487) (z := i) rfl rfl ?_)
  refine wl_of hX hb cL_487 (rw_iconst (pc' := 488) rfl ?_)
  refine wl_of hX hb cL_488 (rw_iadd (pc' := 489) rfl ?_)
  have k227098 : H227085 0 ((i + 2).toNat) = H 0 ((i + 2).toNat) := (f227090 0 ((i + 2).toNat) _ g0 (wmem_s rfl))
  refine wl_of hX hb cL_489 (xa_I (so := 0) (pc' := 490) (a := 0) w227089 g0 (wsh_s _) (by omega) (wty_s _ _) (by omega) (by omega) rfl (fun b227096 b227097 => ?_))
  refine wl_of hX hb cL_490 (rw_aload_n (pc' := 491) (v := .ref 0) rfl rfl rfl ?_)
  refine wl_of hX hb cL_491 (rw_iload (pc' := 493) (z := i) rfl rfl ?_)
  refine wl_of hX hb cL_493 (rw_iconst (pc' := 494) rfl ?_)
  refine wl_of hX hb cL_494 (rw_iadd (pc' := 495) rfl ?_)
  have k227101 : H227085 0 ((i + 3).toNat) = H 0 ((i + 3).toNat) := (f227090 0 ((i + 3).toNat) _ g0 (wmem_s rfl))
  refine wl_of hX hb cL_495 (xa_I (so := 0) (pc' := 496) (a := 0) w227089 g0 (wsh_s _) (by omega) (wty_s _ _) (by omega) (by omega) rfl (fun b227099 b227100 => ?_))
  have k227102 : wKI H227085 m = wKI H m := (wKI_fr hW gm f227090 rfl)
  have k227103 : H227085 x 9 = H x 9 := (f227090 x 9 _ gx rfl)
  have k227104 : H227085 m 6 = H m 6 := (f227090 m 6 _ gm rfl)
  refine wl_of hX hb cL_496 (xc_V (pc' := 499) (r := m) (as := [vI (H227085 0 ((i + 1).toNat)), vI (H227085 0 ((i + 2).toNat)), vI (H227085 0 ((i + 3).toNat))]) (st := []) (lm_11_49) rfl rfl (Nat.le_of_ble_eq_true rfl) w227089 gm sh_42 (by decide) rfl (by decide) (s_217 w227089 gm ⟨by omega, by omega⟩ ⟨by omega, by omega⟩ ⟨by omega, by omega⟩ (by omega)) (fun R227105 T227106 H227107 p227108 => ?_))
  obtain ⟨e227109, w227111, f227112, z227114, e227110, b227115, p227113⟩ := p227108
  subst e227109
  subst e227110
  show WL _ _ _ _ 499 [(4, vI i), (3, .ref o), (2, .ref m), (1, .ref x), (0, .ref 0)] [vI z227114] _ H227107
  refine wl_of hX hb cL_499 (rw_pop (pc' := 500) rfl rfl ?_)
  refine wl_of hX hb cL_500 (rw_goto (p1 := 1653) (by decide) ?_)
  have k227116 : H227107 x 9 = H227085 x 9 := (f227112 x 9 _ gx rfl)
  have k227117 : H227107 m 6 = H227085 m 6 := (f227112 m 6 _ gm rfl)
  exact WL.loc hX (by simp) (next T H227107 ⟨w227111, g0, gx, gm, go, by omega, by omega⟩ (by omega) (by omega))
set_option maxHeartbeats 4000000 in
theorem wl_c7 {kt : Nat → Option mc_E} {CB SB : Nat} {X : mc_S → Prop} {T : wq_T} {H : wq_H} {Len x m o : Nat} {i : Int} (hX : wlX kt CB SB X) (hb : T.2.1 ≤ CB ∧ T.2.2.1 ≤ SB) (hI : wlI Len x m o T H) (hL : Len ≤ 3072) (hi : 0 ≤ i ∧ i + 6 ≤ Len) (hb2 : T.2.1 + 20 ≤ CB ∧ T.2.2.1 + 500 ≤ SB)  (next : ∀ T' H', wlI Len x m o T' H' → T'.2.1 ≤ T.2.1 + 20 → T'.2.2.1 ≤ T.2.2.1 + 500 → WL kt CB SB X 1653 (wlL i x m o) [] T' H') : WL kt CB SB X 503 (wlL i x m o) [] T H := by
  obtain ⟨hW, g0, gx, gm, go, hK, hr⟩ := hI
  refine wl_of hX hb cL_503 (rw_aload_n (pc' := 504) (v := .ref x) rfl rfl rfl ?_)
  refine wl_of hX hb cL_504 (xc_V (pc' := 507) (r := x) (as := []) (st := []) (lm_11_50) rfl rfl (Nat.le_of_ble_eq_true rfl) hW gx sh_1 (by decide) rfl (by decide) (s_61 hW gx) (fun R227118 T227119 H227120 p227121 => ?_))
  obtain ⟨e227122, w227124, f227125, z227126, e227123, b227127⟩ := p227121
  subst e227122
  subst e227123
  show WL _ _ _ _ 507 [(4, vI i), (3, .ref o), (2, .ref m), (1, .ref x), (0, .ref 0)] [vL z227126] _ H227120
  refine wl_of hX hb cL_507 (rw_pop2 (pc' := 508) rfl rfl ?_)
  refine wl_of hX hb cL_508 (rw_aload_n (pc' := 509) (v := .ref m) rfl rfl rfl ?_)
  have k227128 : wKI H227120 m = wKI H m := (wKI_fr hW gm f227125 rfl)
  have k227129 : H227120 x 9 = H x 9 := (f227125 x 9 _ gx rfl)
  have k227130 : H227120 m 6 = H m 6 := (f227125 m 6 _ gm rfl)
  refine wl_of hX hb cL_509 (xc_V (pc' := 512) (r := m) (as := []) (st := []) (lm_11_54) rfl rfl (Nat.le_of_ble_eq_true rfl) w227124 gm sh_42 (by decide) rfl (by decide) (s_219 w227124 gm (by omega)) (fun R227131 T227132 H227133 p227134 => ?_))
  obtain ⟨e227135, w227137, f227138, z227140, e227136, b227141, p227139⟩ := p227134
  subst e227135
  subst e227136
  show WL _ _ _ _ 512 [(4, vI i), (3, .ref o), (2, .ref m), (1, .ref x), (0, .ref 0)] [vL z227140] _ H227133
  refine wl_of hX hb cL_512 (rw_pop2 (pc' := 513) rfl rfl ?_)
  refine wl_of hX hb cL_513 (rw_goto (p1 := 1653) (by decide) ?_)
  have k227142 : H227133 x 9 = H227120 x 9 := (f227138 x 9 _ gx rfl)
  have k227143 : H227133 m 6 = H227120 m 6 := (f227138 m 6 _ gm rfl)
  exact WL.loc hX (by simp) (next T H227133 ⟨w227137, g0, gx, gm, go, by omega, by omega⟩ (by omega) (by omega))
set_option maxHeartbeats 4000000 in
theorem wl_c8 {kt : Nat → Option mc_E} {CB SB : Nat} {X : mc_S → Prop} {T : wq_T} {H : wq_H} {Len x m o : Nat} {i : Int} (hX : wlX kt CB SB X) (hb : T.2.1 ≤ CB ∧ T.2.2.1 ≤ SB) (hI : wlI Len x m o T H) (hL : Len ≤ 3072) (hi : 0 ≤ i ∧ i + 6 ≤ Len) (hb2 : T.2.1 + 20 ≤ CB ∧ T.2.2.1 + 500 ≤ SB)  (next : ∀ T' H', wlI Len x m o T' H' → T'.2.1 ≤ T.2.1 + 20 → T'.2.2.1 ≤ T.2.2.1 + 500 → WL kt CB SB X 1653 (wlL i x m o) [] T' H') : WL kt CB SB X 516 (wlL i x m o) [] T H := by
  obtain ⟨hW, g0, gx, gm, go, hK, hr⟩ := hI
  refine wl_of hX hb cL_516 (rw_aload_n (pc' := 517) (v := .ref x) rfl rfl rfl ?_)
  refine wl_of hX hb cL_517 (rw_aload_n (pc' := 518) (v := .ref 0) rfl rfl rfl ?_)
  refine wl_of hX hb cL_518 (rw_iload (pc' := 520) (z := i) rfl rfl ?_)
  refine wl_of hX hb cL_520 (rw_iconst (pc' := 521) rfl ?_)
  refine wl_of hX hb cL_521 (rw_iadd (pc' := 522) rfl ?_)
  refine wl_of hX hb cL_522 (xa_I (so := 0) (pc' := 523) (a := 0) hW g0 (wsh_s _) (by omega) (wty_s _ _) (by omega) (by omega) rfl (fun b227144 b227145 => ?_))
  refine wl_of hX hb cL_523 (rw_aload_n (pc' := 524) (v := .ref 0) rfl rfl rfl ?_)
  refine wl_of hX hb cL_524 (rw_iload (pc' := 526) (z := i) rfl rfl ?_)
  refine wl_of hX hb cL_526 (rw_iconst (pc' := 527) rfl ?_)
  refine wl_of hX hb cL_527 (rw_iadd (pc' := 528) rfl ?_)
  refine wl_of hX hb cL_528 (xa_I (so := 0) (pc' := 529) (a := 0) hW g0 (wsh_s _) (by omega) (wty_s _ _) (by omega) (by omega) rfl (fun b227146 b227147 => ?_))
  refine wl_of hX hb cL_529 (xc_V (pc' := 532) (r := x) (as := [vI (H 0 ((i + 1).toNat)), vI (H 0 ((i + 2).toNat))]) (st := []) (lm_11_55) rfl rfl (Nat.le_of_ble_eq_true rfl) hW gx sh_1 (by decide) rfl (by decide) (s_62 hW gx ⟨by omega, by omega⟩ ⟨by omega, by omega⟩) (fun R227148 T227149 H227150 p227151 => ?_))
  obtain ⟨e227152, w227154, f227155, z227156, e227153, b227157⟩ := p227151
  subst e227152
  subst e227153
  show WL _ _ _ _ 532 [(4, vI i), (3, .ref o), (2, .ref m), (1, .ref x), (0, .ref 0)] [vI z227156] _ H227150
  refine wl_of hX hb cL_532 (rw_pop (pc' := 533) rfl rfl ?_)
  refine wl_of hX hb cL_533 (rw_aload_n (pc' := 534) (v := .ref m) rfl rfl rfl ?_)
  refine wl_of hX hb cL_534 (rw_aload_n (pc' := 535) (v := .ref 0) rfl rfl rfl ?_)
  refine wl_of hX hb cL_535 (rw_iload (pc' := 537) (z := i) rfl rfl ?_)
  refine wl_of hX hb cL_537 (rw_iconst (pc' := 538) rfl ?_)
  refine wl_of hX hb cL_538 (rw_iadd (pc' := 539) rfl ?_)
  have k227160 : H227150 0 ((i + 1).toNat) = H 0 ((i + 1).toNat) := (f227155 0 ((i + 1).toNat) _ g0 (wmem_s rfl))
  refine wl_of hX hb cL_539 (xa_I (so := 0) (pc' := 540) (a := 0) w227154 g0 (wsh_s _) (by omega) (wty_s _ _) (by omega) (by omega) rfl (fun b227158 b227159 => ?_))
  refine wl_of hX hb cL_540 (rw_aload_n (pc' := 541) (v := .ref 0) rfl rfl rfl ?_)
  refine wl_of hX hb cL_541 (rw_iload (pc' := 543) (z := i) rfl rfl ?_)
  refine wl_of hX hb cL_543 (rw_iconst (pc' := 544) rfl ?_)
  refine wl_of hX hb cL_544 (rw_iadd (pc' := 545) rfl ?_)
  have k227163 : H227150 0 ((i + 2).toNat) = H 0 ((i + 2).toNat) := (f227155 0 ((i + 2).toNat) _ g0 (wmem_s rfl))
  refine wl_of hX hb cL_545 (xa_I (so := 0) (pc' := 546) (a := 0) w227154 g0 (wsh_s _) (by omega) (wty_s _ _) (by omega) (by omega) rfl (fun b227161 b227162 => ?_))
  have k227164 : wKI H227150 m = wKI H m := (wKI_fr hW gm f227155 rfl)
  have k227165 : H227150 x 9 = H x 9 := (f227155 x 9 _ gx rfl)
  have k227166 : H227150 m 6 = H m 6 := (f227155 m 6 _ gm rfl)
  refine wl_of hX hb cL_546 (xc_V (pc' := 549) (r := m) (as := [vI (H227150 0 ((i + 1).toNat)), vI (H227150 0 ((i + 2).toNat))]) (st := []) (lm_11_59) rfl rfl (Nat.le_of_ble_eq_true rfl) w227154 gm sh_42 (by decide) rfl (by decide) (s_222 w227154 gm ⟨by omega, by omega⟩ ⟨by omega, by omega⟩ (by omega)) (fun R227167 T227168 H227169 p227170 => ?_))
  obtain ⟨e227171, w227173, f227174, z227176, e227172, b227177, p227175⟩ := p227170
  subst e227171
  subst e227172
  show WL _ _ _ _ 549 [(4, vI i), (3, .ref o), (2, .ref m), (1, .ref x), (0, .ref 0)] [vI z227176] _ H227169
  refine wl_of hX hb cL_549 (rw_pop (pc' := 550) rfl rfl ?_)
  refine wl_of hX hb cL_550 (rw_goto (p1 := 1653) (by decide) ?_)
  have k227178 : H227169 x 9 = H227150 x 9 := (f227174 x 9 _ gx rfl)
  have k227179 : H227169 m 6 = H227150 m 6 := (f227174 m 6 _ gm rfl)
  exact WL.loc hX (by simp) (next T H227169 ⟨w227173, g0, gx, gm, go, by omega, by omega⟩ (by omega) (by omega))
set_option maxHeartbeats 4000000 in
theorem wl_c9 {kt : Nat → Option mc_E} {CB SB : Nat} {X : mc_S → Prop} {T : wq_T} {H : wq_H} {Len x m o : Nat} {i : Int} (hX : wlX kt CB SB X) (hb : T.2.1 ≤ CB ∧ T.2.2.1 ≤ SB) (hI : wlI Len x m o T H) (hL : Len ≤ 3072) (hi : 0 ≤ i ∧ i + 6 ≤ Len) (hb2 : T.2.1 + 20 ≤ CB ∧ T.2.2.1 + 500 ≤ SB)  (next : ∀ T' H', wlI Len x m o T' H' → T'.2.1 ≤ T.2.1 + 20 → T'.2.2.1 ≤ T.2.2.1 + 500 → WL kt CB SB X 1653 (wlL i x m o) [] T' H') : WL kt CB SB X 553 (wlL i x m o) [] T H := by
  obtain ⟨hW, g0, gx, gm, go, hK, hr⟩ := hI
  refine wl_of hX hb cL_553 (rw_aload_n (pc' := 554) (v := .ref x) rfl rfl rfl ?_)
  refine wl_of hX hb cL_554 (rw_aload_n (pc' := 555) (v := .ref 0) rfl rfl rfl ?_)
  refine wl_of hX hb cL_555 (rw_iload (pc' := 557) (z := i) rfl rfl ?_)
  refine wl_of hX hb cL_557 (rw_iconst (pc' := 558) rfl ?_)
  refine wl_of hX hb cL_558 (rw_iadd (pc' := 559) rfl ?_)
  refine wl_of hX hb cL_559 (xa_I (so := 0) (pc' := 560) (a := 0) hW g0 (wsh_s _) (by omega) (wty_s _ _) (by omega) (by omega) rfl (fun b227180 b227181 => ?_))
  refine wl_of hX hb cL_560 (xc_V (pc' := 563) (r := x) (as := [vI (H 0 ((i + 1).toNat))]) (st := []) (lm_11_60) rfl rfl (Nat.le_of_ble_eq_true rfl) hW gx sh_1 (by decide) rfl (by decide) (s_65 hW gx ⟨by omega, by omega⟩) (fun R227182 T227183 H227184 p227185 => ?_))
  obtain ⟨e227186, w227188, f227189, z227190, e227187, b227191⟩ := p227185
  subst e227186
  subst e227187
  show WL _ _ _ _ 563 [(4, vI i), (3, .ref o), (2, .ref m), (1, .ref x), (0, .ref 0)] [vI z227190] _ H227184
  refine wl_of hX hb cL_563 (rw_pop (pc' := 564) rfl rfl ?_)
  refine wl_of hX hb cL_564 (rw_aload_n (pc' := 565) (v := .ref m) rfl rfl rfl ?_)
  refine wl_of hX hb cL_565 (rw_aload_n (pc' := 566) (v := .ref 0) rfl rfl rfl ?_)
  refine wl_of hX hb cL_566 (rw_iload (pc' := 568) (z := i) rfl rfl ?_)
  refine wl_of hX hb cL_568 (rw_iconst (pc' := 569) rfl ?_)
  refine wl_of hX hb cL_569 (rw_iadd (pc' := 570) rfl ?_)
  have k227194 : H227184 0 ((i + 1).toNat) = H 0 ((i + 1).toNat) := (f227189 0 ((i + 1).toNat) _ g0 (wmem_s rfl))
  refine wl_of hX hb cL_570 (xa_I (so := 0) (pc' := 571) (a := 0) w227188 g0 (wsh_s _) (by omega) (wty_s _ _) (by omega) (by omega) rfl (fun b227192 b227193 => ?_))
  have k227195 : wKI H227184 m = wKI H m := (wKI_fr hW gm f227189 rfl)
  have k227196 : H227184 x 9 = H x 9 := (f227189 x 9 _ gx rfl)
  have k227197 : H227184 m 6 = H m 6 := (f227189 m 6 _ gm rfl)
  refine wl_of hX hb cL_571 (xc_V (pc' := 574) (r := m) (as := [vI (H227184 0 ((i + 1).toNat))]) (st := []) (lm_11_63) rfl rfl (Nat.le_of_ble_eq_true rfl) w227188 gm sh_42 (by decide) rfl (by decide) (s_225 w227188 gm ⟨by omega, by omega⟩ (by omega)) (fun R227198 T227199 H227200 p227201 => ?_))
  obtain ⟨e227202, w227204, f227205, z227207, e227203, b227208, p227206⟩ := p227201
  subst e227202
  subst e227203
  show WL _ _ _ _ 574 [(4, vI i), (3, .ref o), (2, .ref m), (1, .ref x), (0, .ref 0)] [vI z227207] _ H227200
  refine wl_of hX hb cL_574 (rw_pop (pc' := 575) rfl rfl ?_)
  refine wl_of hX hb cL_575 (rw_goto (p1 := 1653) (by decide) ?_)
  have k227209 : H227200 x 9 = H227184 x 9 := (f227205 x 9 _ gx rfl)
  have k227210 : H227200 m 6 = H227184 m 6 := (f227205 m 6 _ gm rfl)
  exact WL.loc hX (by simp) (next T H227200 ⟨w227204, g0, gx, gm, go, by omega, by omega⟩ (by omega) (by omega))
set_option maxHeartbeats 4000000 in
theorem wl_c10 {kt : Nat → Option mc_E} {CB SB : Nat} {X : mc_S → Prop} {T : wq_T} {H : wq_H} {Len x m o : Nat} {i : Int} (hX : wlX kt CB SB X) (hb : T.2.1 ≤ CB ∧ T.2.2.1 ≤ SB) (hI : wlI Len x m o T H) (hL : Len ≤ 3072) (hi : 0 ≤ i ∧ i + 6 ≤ Len) (hb2 : T.2.1 + 20 ≤ CB ∧ T.2.2.1 + 500 ≤ SB)  (next : ∀ T' H', wlI Len x m o T' H' → T'.2.1 ≤ T.2.1 + 20 → T'.2.2.1 ≤ T.2.2.1 + 500 → WL kt CB SB X 1653 (wlL i x m o) [] T' H') : WL kt CB SB X 578 (wlL i x m o) [] T H := by
  obtain ⟨hW, g0, gx, gm, go, hK, hr⟩ := hI
  refine wl_of hX hb cL_578 (rw_aload_n (pc' := 579) (v := .ref x) rfl rfl rfl ?_)
  refine wl_of hX hb cL_579 (rw_aload_n (pc' := 580) (v := .ref 0) rfl rfl rfl ?_)
  refine wl_of hX hb cL_580 (rw_iload (pc' := 582) (z := i) rfl rfl ?_)
  refine wl_of hX hb cL_582 (rw_iconst (pc' := 583) rfl ?_)
  refine wl_of hX hb cL_583 (rw_iadd (pc' := 584) rfl ?_)
  refine wl_of hX hb cL_584 (xa_I (so := 0) (pc' := 585) (a := 0) hW g0 (wsh_s _) (by omega) (wty_s _ _) (by omega) (by omega) rfl (fun b227211 b227212 => ?_))
  refine wl_of hX hb cL_585 (xc_V (pc' := 588) (r := x) (as := [vI (H 0 ((i + 1).toNat))]) (st := []) (lm_11_64) rfl rfl (Nat.le_of_ble_eq_true rfl) hW gx sh_1 (by decide) rfl (by decide) (s_66 hW gx ⟨by omega, by omega⟩) (fun R227213 T227214 H227215 p227216 => ?_))
  obtain ⟨e227217, w227219, f227220, z227221, e227218, b227222⟩ := p227216
  subst e227217
  subst e227218
  show WL _ _ _ _ 588 [(4, vI i), (3, .ref o), (2, .ref m), (1, .ref x), (0, .ref 0)] [vI z227221] _ H227215
  refine wl_of hX hb cL_588 (rw_pop (pc' := 589) rfl rfl ?_)
  refine wl_of hX hb cL_589 (rw_aload_n (pc' := 590) (v := .ref m) rfl rfl rfl ?_)
  refine wl_of hX hb cL_590 (rw_aload_n (pc' := 591) (v := .ref 0) rfl rfl rfl ?_)
  refine wl_of hX hb cL_591 (rw_iload (pc' := 593) (z := i) rfl rfl ?_)
  refine wl_of hX hb cL_593 (rw_iconst (pc' := 594) rfl ?_)
  refine wl_of hX hb cL_594 (rw_iadd (pc' := 595) rfl ?_)
  have k227225 : H227215 0 ((i + 1).toNat) = H 0 ((i + 1).toNat) := (f227220 0 ((i + 1).toNat) _ g0 (wmem_s rfl))
  refine wl_of hX hb cL_595 (xa_I (so := 0) (pc' := 596) (a := 0) w227219 g0 (wsh_s _) (by omega) (wty_s _ _) (by omega) (by omega) rfl (fun b227223 b227224 => ?_))
  have k227226 : wKI H227215 m = wKI H m := (wKI_fr hW gm f227220 rfl)
  have k227227 : H227215 x 9 = H x 9 := (f227220 x 9 _ gx rfl)
  have k227228 : H227215 m 6 = H m 6 := (f227220 m 6 _ gm rfl)
  refine wl_of hX hb cL_596 (xc_V (pc' := 599) (r := m) (as := [vI (H227215 0 ((i + 1).toNat))]) (st := []) (lm_11_67) rfl rfl (Nat.le_of_ble_eq_true rfl) w227219 gm sh_42 (by decide) rfl (by decide) (s_226 w227219 gm ⟨by omega, by omega⟩ (by omega)) (fun R227229 T227230 H227231 p227232 => ?_))
  obtain ⟨e227233, w227235, f227236, z227238, e227234, b227239, p227237⟩ := p227232
  subst e227233
  subst e227234
  show WL _ _ _ _ 599 [(4, vI i), (3, .ref o), (2, .ref m), (1, .ref x), (0, .ref 0)] [vI z227238] _ H227231
  refine wl_of hX hb cL_599 (rw_pop (pc' := 600) rfl rfl ?_)
  refine wl_of hX hb cL_600 (rw_goto (p1 := 1653) (by decide) ?_)
  have k227240 : H227231 x 9 = H227215 x 9 := (f227236 x 9 _ gx rfl)
  have k227241 : H227231 m 6 = H227215 m 6 := (f227236 m 6 _ gm rfl)
  exact WL.loc hX (by simp) (next T H227231 ⟨w227235, g0, gx, gm, go, by omega, by omega⟩ (by omega) (by omega))
set_option maxHeartbeats 4000000 in
theorem wl_c11 {kt : Nat → Option mc_E} {CB SB : Nat} {X : mc_S → Prop} {T : wq_T} {H : wq_H} {Len x m o : Nat} {i : Int} (hX : wlX kt CB SB X) (hb : T.2.1 ≤ CB ∧ T.2.2.1 ≤ SB) (hI : wlI Len x m o T H) (hL : Len ≤ 3072) (hi : 0 ≤ i ∧ i + 6 ≤ Len) (hb2 : T.2.1 + 20 ≤ CB ∧ T.2.2.1 + 500 ≤ SB)  (next : ∀ T' H', wlI Len x m o T' H' → T'.2.1 ≤ T.2.1 + 20 → T'.2.2.1 ≤ T.2.2.1 + 500 → WL kt CB SB X 1653 (wlL i x m o) [] T' H') : WL kt CB SB X 603 (wlL i x m o) [] T H := by
  obtain ⟨hW, g0, gx, gm, go, hK, hr⟩ := hI
  refine wl_of hX hb cL_603 (rw_aload_n (pc' := 604) (v := .ref x) rfl rfl rfl ?_)
  refine wl_of hX hb cL_604 (xc_V (pc' := 607) (r := x) (as := []) (st := []) (lm_11_68) rfl rfl (Nat.le_of_ble_eq_true rfl) hW gx sh_1 (by decide) rfl (by decide) (s_73 hW gx) (fun R227242 T227243 H227244 p227245 => ?_))
  obtain ⟨e227246, w227248, f227249, z227250, e227247, b227251⟩ := p227245
  subst e227246
  subst e227247
  show WL _ _ _ _ 607 [(4, vI i), (3, .ref o), (2, .ref m), (1, .ref x), (0, .ref 0)] [vI z227250] _ H227244
  refine wl_of hX hb cL_607 (rw_pop (pc' := 608) rfl rfl ?_)
  refine wl_of hX hb cL_608 (rw_aload_n (pc' := 609) (v := .ref m) rfl rfl rfl ?_)
  have k227252 : wKI H227244 m = wKI H m := (wKI_fr hW gm f227249 rfl)
  have k227253 : H227244 x 9 = H x 9 := (f227249 x 9 _ gx rfl)
  have k227254 : H227244 m 6 = H m 6 := (f227249 m 6 _ gm rfl)
  refine wl_of hX hb cL_609 (xc_V (pc' := 612) (r := m) (as := []) (st := []) (lm_11_71) rfl rfl (Nat.le_of_ble_eq_true rfl) w227248 gm sh_42 (by decide) rfl (by decide) (s_230 w227248 gm (by omega)) (fun R227255 T227256 H227257 p227258 => ?_))
  obtain ⟨e227259, w227261, f227262, z227264, e227260, b227265, p227263⟩ := p227258
  subst e227259
  subst e227260
  show WL _ _ _ _ 612 [(4, vI i), (3, .ref o), (2, .ref m), (1, .ref x), (0, .ref 0)] [vI z227264] _ H227257
  refine wl_of hX hb cL_612 (rw_pop (pc' := 613) rfl rfl ?_)
  refine wl_of hX hb cL_613 (rw_goto (p1 := 1653) (by decide) ?_)
  have k227266 : H227257 x 9 = H227244 x 9 := (f227262 x 9 _ gx rfl)
  have k227267 : H227257 m 6 = H227244 m 6 := (f227262 m 6 _ gm rfl)
  exact WL.loc hX (by simp) (next T H227257 ⟨w227261, g0, gx, gm, go, by omega, by omega⟩ (by omega) (by omega))
set_option maxHeartbeats 4000000 in
theorem wl_c12 {kt : Nat → Option mc_E} {CB SB : Nat} {X : mc_S → Prop} {T : wq_T} {H : wq_H} {Len x m o : Nat} {i : Int} (hX : wlX kt CB SB X) (hb : T.2.1 ≤ CB ∧ T.2.2.1 ≤ SB) (hI : wlI Len x m o T H) (hL : Len ≤ 3072) (hi : 0 ≤ i ∧ i + 6 ≤ Len) (hb2 : T.2.1 + 20 ≤ CB ∧ T.2.2.1 + 500 ≤ SB)  (next : ∀ T' H', wlI Len x m o T' H' → T'.2.1 ≤ T.2.1 + 20 → T'.2.2.1 ≤ T.2.2.1 + 500 → WL kt CB SB X 1653 (wlL i x m o) [] T' H') : WL kt CB SB X 616 (wlL i x m o) [] T H := by
  obtain ⟨hW, g0, gx, gm, go, hK, hr⟩ := hI
  refine wl_of hX hb cL_616 (rw_aload_n (pc' := 617) (v := .ref x) rfl rfl rfl ?_)
  refine wl_of hX hb cL_617 (xc_V (pc' := 620) (r := x) (as := []) (st := []) (lm_11_72) rfl rfl (Nat.le_of_ble_eq_true rfl) hW gx sh_1 (by decide) rfl (by decide) (s_77 hW gx) (fun R227268 T227269 H227270 p227271 => ?_))
  obtain ⟨e227272, w227274, f227275, z227276, e227273, b227277⟩ := p227271
  subst e227272
  subst e227273
  show WL _ _ _ _ 620 [(4, vI i), (3, .ref o), (2, .ref m), (1, .ref x), (0, .ref 0)] [vI z227276] _ H227270
  refine wl_of hX hb cL_620 (rw_pop (pc' := 621) rfl rfl ?_)
  refine wl_of hX hb cL_621 (rw_aload_n (pc' := 622) (v := .ref m) rfl rfl rfl ?_)
  have k227278 : wKI H227270 m = wKI H m := (wKI_fr hW gm f227275 rfl)
  have k227279 : H227270 x 9 = H x 9 := (f227275 x 9 _ gx rfl)
  have k227280 : H227270 m 6 = H m 6 := (f227275 m 6 _ gm rfl)
  refine wl_of hX hb cL_622 (xc_V (pc' := 625) (r := m) (as := []) (st := []) (lm_11_75) rfl rfl (Nat.le_of_ble_eq_true rfl) w227274 gm sh_42 (by decide) rfl (by decide) (s_236 w227274 gm (by omega)) (fun R227281 T227282 H227283 p227284 => ?_))
  obtain ⟨e227285, w227287, f227288, z227290, e227286, b227291, p227289⟩ := p227284
  subst e227285
  subst e227286
  show WL _ _ _ _ 625 [(4, vI i), (3, .ref o), (2, .ref m), (1, .ref x), (0, .ref 0)] [vI z227290] _ H227283
  refine wl_of hX hb cL_625 (rw_pop (pc' := 626) rfl rfl ?_)
  refine wl_of hX hb cL_626 (rw_goto (p1 := 1653) (by decide) ?_)
  have k227292 : H227283 x 9 = H227270 x 9 := (f227288 x 9 _ gx rfl)
  have k227293 : H227283 m 6 = H227270 m 6 := (f227288 m 6 _ gm rfl)
  exact WL.loc hX (by simp) (next T H227283 ⟨w227287, g0, gx, gm, go, by omega, by omega⟩ (by omega) (by omega))
set_option maxHeartbeats 4000000 in
theorem wl_c13 {kt : Nat → Option mc_E} {CB SB : Nat} {X : mc_S → Prop} {T : wq_T} {H : wq_H} {Len x m o : Nat} {i : Int} (hX : wlX kt CB SB X) (hb : T.2.1 ≤ CB ∧ T.2.2.1 ≤ SB) (hI : wlI Len x m o T H) (hL : Len ≤ 3072) (hi : 0 ≤ i ∧ i + 6 ≤ Len) (hb2 : T.2.1 + 20 ≤ CB ∧ T.2.2.1 + 500 ≤ SB)  (next : ∀ T' H', wlI Len x m o T' H' → T'.2.1 ≤ T.2.1 + 20 → T'.2.2.1 ≤ T.2.2.1 + 500 → WL kt CB SB X 1653 (wlL i x m o) [] T' H') : WL kt CB SB X 629 (wlL i x m o) [] T H := by
  obtain ⟨hW, g0, gx, gm, go, hK, hr⟩ := hI
  refine wl_of hX hb cL_629 (rw_aload_n (pc' := 630) (v := .ref x) rfl rfl rfl ?_)
  refine wl_of hX hb cL_630 (xc_V (pc' := 633) (r := x) (as := []) (st := []) (lm_11_76) rfl rfl (Nat.le_of_ble_eq_true rfl) hW gx sh_1 (by decide) rfl (by decide) (s_78 hW gx) (fun R227294 T227295 H227296 p227297 => ?_))
  obtain ⟨e227298, w227300, f227301, z227302, e227299, b227303⟩ := p227297
  subst e227298
  subst e227299
  show WL _ _ _ _ 633 [(4, vI i), (3, .ref o), (2, .ref m), (1, .ref x), (0, .ref 0)] [vI z227302] _ H227296
  refine wl_of hX hb cL_633 (rw_pop (pc' := 634) rfl rfl ?_)
  refine wl_of hX hb cL_634 (rw_aload_n (pc' := 635) (v := .ref m) rfl rfl rfl ?_)
  have k227304 : wKI H227296 m = wKI H m := (wKI_fr hW gm f227301 rfl)
  have k227305 : H227296 x 9 = H x 9 := (f227301 x 9 _ gx rfl)
  have k227306 : H227296 m 6 = H m 6 := (f227301 m 6 _ gm rfl)
  refine wl_of hX hb cL_635 (xc_V (pc' := 638) (r := m) (as := []) (st := []) (lm_11_79) rfl rfl (Nat.le_of_ble_eq_true rfl) w227300 gm sh_42 (by decide) rfl (by decide) (s_237 w227300 gm (by omega)) (fun R227307 T227308 H227309 p227310 => ?_))
  obtain ⟨e227311, w227313, f227314, z227316, e227312, b227317, p227315⟩ := p227310
  subst e227311
  subst e227312
  show WL _ _ _ _ 638 [(4, vI i), (3, .ref o), (2, .ref m), (1, .ref x), (0, .ref 0)] [vI z227316] _ H227309
  refine wl_of hX hb cL_638 (rw_pop (pc' := 639) rfl rfl ?_)
  refine wl_of hX hb cL_639 (rw_goto (p1 := 1653) (by decide) ?_)
  have k227318 : H227309 x 9 = H227296 x 9 := (f227314 x 9 _ gx rfl)
  have k227319 : H227309 m 6 = H227296 m 6 := (f227314 m 6 _ gm rfl)
  exact WL.loc hX (by simp) (next T H227309 ⟨w227313, g0, gx, gm, go, by omega, by omega⟩ (by omega) (by omega))
set_option maxHeartbeats 4000000 in
theorem wl_c14 {kt : Nat → Option mc_E} {CB SB : Nat} {X : mc_S → Prop} {T : wq_T} {H : wq_H} {Len x m o : Nat} {i : Int} (hX : wlX kt CB SB X) (hb : T.2.1 ≤ CB ∧ T.2.2.1 ≤ SB) (hI : wlI Len x m o T H) (hL : Len ≤ 3072) (hi : 0 ≤ i ∧ i + 6 ≤ Len) (hb2 : T.2.1 + 20 ≤ CB ∧ T.2.2.1 + 500 ≤ SB)  (next : ∀ T' H', wlI Len x m o T' H' → T'.2.1 ≤ T.2.1 + 20 → T'.2.2.1 ≤ T.2.2.1 + 500 → WL kt CB SB X 1653 (wlL i x m o) [] T' H') : WL kt CB SB X 642 (wlL i x m o) [] T H := by
  obtain ⟨hW, g0, gx, gm, go, hK, hr⟩ := hI
  refine wl_of hX hb cL_642 (rw_aload_n (pc' := 643) (v := .ref x) rfl rfl rfl ?_)
  refine wl_of hX hb cL_643 (xc_V (pc' := 646) (r := x) (as := []) (st := []) (lm_11_80) rfl rfl (Nat.le_of_ble_eq_true rfl) hW gx sh_1 (by decide) rfl (by decide) (s_82 hW gx) (fun R227320 T227321 H227322 p227323 => ?_))
  obtain ⟨e227324, w227326, f227327, z227328, e227325, b227329⟩ := p227323
  subst e227324
  subst e227325
  show WL _ _ _ _ 646 [(4, vI i), (3, .ref o), (2, .ref m), (1, .ref x), (0, .ref 0)] [vI z227328] _ H227322
  refine wl_of hX hb cL_646 (rw_pop (pc' := 647) rfl rfl ?_)
  refine wl_of hX hb cL_647 (rw_aload_n (pc' := 648) (v := .ref m) rfl rfl rfl ?_)
  have k227330 : wKI H227322 m = wKI H m := (wKI_fr hW gm f227327 rfl)
  have k227331 : H227322 x 9 = H x 9 := (f227327 x 9 _ gx rfl)
  have k227332 : H227322 m 6 = H m 6 := (f227327 m 6 _ gm rfl)
  refine wl_of hX hb cL_648 (xc_V (pc' := 651) (r := m) (as := []) (st := []) (lm_11_83) rfl rfl (Nat.le_of_ble_eq_true rfl) w227326 gm sh_42 (by decide) rfl (by decide) (s_240 w227326 gm (by omega)) (fun R227333 T227334 H227335 p227336 => ?_))
  obtain ⟨e227337, w227339, f227340, z227342, e227338, b227343, p227341⟩ := p227336
  subst e227337
  subst e227338
  show WL _ _ _ _ 651 [(4, vI i), (3, .ref o), (2, .ref m), (1, .ref x), (0, .ref 0)] [vI z227342] _ H227335
  refine wl_of hX hb cL_651 (rw_pop (pc' := 652) rfl rfl ?_)
  refine wl_of hX hb cL_652 (rw_goto (p1 := 1653) (by decide) ?_)
  have k227344 : H227335 x 9 = H227322 x 9 := (f227340 x 9 _ gx rfl)
  have k227345 : H227335 m 6 = H227322 m 6 := (f227340 m 6 _ gm rfl)
  exact WL.loc hX (by simp) (next T H227335 ⟨w227339, g0, gx, gm, go, by omega, by omega⟩ (by omega) (by omega))
set_option maxHeartbeats 4000000 in
theorem wl_c15 {kt : Nat → Option mc_E} {CB SB : Nat} {X : mc_S → Prop} {T : wq_T} {H : wq_H} {Len x m o : Nat} {i : Int} (hX : wlX kt CB SB X) (hb : T.2.1 ≤ CB ∧ T.2.2.1 ≤ SB) (hI : wlI Len x m o T H) (hL : Len ≤ 3072) (hi : 0 ≤ i ∧ i + 6 ≤ Len) (hb2 : T.2.1 + 20 ≤ CB ∧ T.2.2.1 + 500 ≤ SB)  (next : ∀ T' H', wlI Len x m o T' H' → T'.2.1 ≤ T.2.1 + 20 → T'.2.2.1 ≤ T.2.2.1 + 500 → WL kt CB SB X 1653 (wlL i x m o) [] T' H') : WL kt CB SB X 655 (wlL i x m o) [] T H := by
  obtain ⟨hW, g0, gx, gm, go, hK, hr⟩ := hI
  refine wl_of hX hb cL_655 (rw_aload_n (pc' := 656) (v := .ref x) rfl rfl rfl ?_)
  refine wl_of hX hb cL_656 (xc_V (pc' := 659) (r := x) (as := []) (st := []) (lm_11_84) rfl rfl (Nat.le_of_ble_eq_true rfl) hW gx sh_1 (by decide) rfl (by decide) (s_92 hW gx) (fun R227346 T227347 H227348 p227349 => ?_))
  obtain ⟨e227350, w227352, f227353, z227354, e227351, b227355⟩ := p227349
  subst e227350
  subst e227351
  show WL _ _ _ _ 659 [(4, vI i), (3, .ref o), (2, .ref m), (1, .ref x), (0, .ref 0)] [vI z227354] _ H227348
  refine wl_of hX hb cL_659 (rw_pop (pc' := 660) rfl rfl ?_)
  refine wl_of hX hb cL_660 (rw_aload_n (pc' := 661) (v := .ref m) rfl rfl rfl ?_)
  have k227356 : wKI H227348 m = wKI H m := (wKI_fr hW gm f227353 rfl)
  have k227357 : H227348 x 9 = H x 9 := (f227353 x 9 _ gx rfl)
  have k227358 : H227348 m 6 = H m 6 := (f227353 m 6 _ gm rfl)
  refine wl_of hX hb cL_661 (xc_V (pc' := 664) (r := m) (as := []) (st := []) (lm_11_87) rfl rfl (Nat.le_of_ble_eq_true rfl) w227352 gm sh_42 (by decide) rfl (by decide) (s_244 w227352 gm (by omega)) (fun R227359 T227360 H227361 p227362 => ?_))
  obtain ⟨e227363, w227365, f227366, z227368, e227364, b227369, p227367⟩ := p227362
  subst e227363
  subst e227364
  show WL _ _ _ _ 664 [(4, vI i), (3, .ref o), (2, .ref m), (1, .ref x), (0, .ref 0)] [vI z227368] _ H227361
  refine wl_of hX hb cL_664 (rw_pop (pc' := 665) rfl rfl ?_)
  refine wl_of hX hb cL_665 (rw_goto (p1 := 1653) (by decide) ?_)
  have k227370 : H227361 x 9 = H227348 x 9 := (f227366 x 9 _ gx rfl)
  have k227371 : H227361 m 6 = H227348 m 6 := (f227366 m 6 _ gm rfl)
  exact WL.loc hX (by simp) (next T H227361 ⟨w227365, g0, gx, gm, go, by omega, by omega⟩ (by omega) (by omega))
set_option maxHeartbeats 4000000 in
theorem wl_c16 {kt : Nat → Option mc_E} {CB SB : Nat} {X : mc_S → Prop} {T : wq_T} {H : wq_H} {Len x m o : Nat} {i : Int} (hX : wlX kt CB SB X) (hb : T.2.1 ≤ CB ∧ T.2.2.1 ≤ SB) (hI : wlI Len x m o T H) (hL : Len ≤ 3072) (hi : 0 ≤ i ∧ i + 6 ≤ Len) (hb2 : T.2.1 + 20 ≤ CB ∧ T.2.2.1 + 500 ≤ SB)  (next : ∀ T' H', wlI Len x m o T' H' → T'.2.1 ≤ T.2.1 + 20 → T'.2.2.1 ≤ T.2.2.1 + 500 → WL kt CB SB X 1653 (wlL i x m o) [] T' H') : WL kt CB SB X 668 (wlL i x m o) [] T H := by
  obtain ⟨hW, g0, gx, gm, go, hK, hr⟩ := hI
  refine wl_of hX hb cL_668 (rw_aload_n (pc' := 669) (v := .ref x) rfl rfl rfl ?_)
  refine wl_of hX hb cL_669 (rw_aload_n (pc' := 670) (v := .ref 0) rfl rfl rfl ?_)
  refine wl_of hX hb cL_670 (rw_iload (pc' := 672) (z := i) rfl rfl ?_)
  refine wl_of hX hb cL_672 (rw_iconst (pc' := 673) rfl ?_)
  refine wl_of hX hb cL_673 (rw_iadd (pc' := 674) rfl ?_)
  refine wl_of hX hb cL_674 (xa_I (so := 0) (pc' := 675) (a := 0) hW g0 (wsh_s _) (by omega) (wty_s _ _) (by omega) (by omega) rfl (fun b227372 b227373 => ?_))
  refine wl_of hX hb cL_675 (rw_aload_n (pc' := 676) (v := .ref 0) rfl rfl rfl ?_)
  refine wl_of hX hb cL_676 (rw_iload (pc' := 678) (z := i) rfl rfl ?_)
  refine wl_of hX hb cL_678 (rw_iconst (pc' := 679) rfl ?_)
  refine wl_of hX hb cL_679 (rw_iadd (pc' := 680) rfl ?_)
  refine wl_of hX hb cL_680 (xa_I (so := 0) (pc' := 681) (a := 0) hW g0 (wsh_s _) (by omega) (wty_s _ _) (by omega) (by omega) rfl (fun b227374 b227375 => ?_))
  refine wl_of hX hb cL_681 (xc_V (pc' := 684) (r := x) (as := [vI (H 0 ((i + 1).toNat)), vI (H 0 ((i + 2).toNat))]) (st := []) (lm_11_88) rfl rfl (Nat.le_of_ble_eq_true rfl) hW gx sh_1 (by decide) rfl (by decide) (s_93 hW gx ⟨by omega, by omega⟩ ⟨by omega, by omega⟩) (fun R227376 T227377 H227378 p227379 => ?_))
  obtain ⟨e227380, w227382, f227383, z227384, e227381, b227385⟩ := p227379
  subst e227380
  subst e227381
  show WL _ _ _ _ 684 [(4, vI i), (3, .ref o), (2, .ref m), (1, .ref x), (0, .ref 0)] [vI z227384] _ H227378
  refine wl_of hX hb cL_684 (rw_pop (pc' := 685) rfl rfl ?_)
  refine wl_of hX hb cL_685 (rw_aload_n (pc' := 686) (v := .ref m) rfl rfl rfl ?_)
  refine wl_of hX hb cL_686 (rw_aload_n (pc' := 687) (v := .ref 0) rfl rfl rfl ?_)
  refine wl_of hX hb cL_687 (rw_iload (pc' := 689) (z := i) rfl rfl ?_)
  refine wl_of hX hb cL_689 (rw_iconst (pc' := 690) rfl ?_)
  refine wl_of hX hb cL_690 (rw_iadd (pc' := 691) rfl ?_)
  have k227388 : H227378 0 ((i + 1).toNat) = H 0 ((i + 1).toNat) := (f227383 0 ((i + 1).toNat) _ g0 (wmem_s rfl))
  refine wl_of hX hb cL_691 (xa_I (so := 0) (pc' := 692) (a := 0) w227382 g0 (wsh_s _) (by omega) (wty_s _ _) (by omega) (by omega) rfl (fun b227386 b227387 => ?_))
  refine wl_of hX hb cL_692 (rw_aload_n (pc' := 693) (v := .ref 0) rfl rfl rfl ?_)
  refine wl_of hX hb cL_693 (rw_iload (pc' := 695) (z := i) rfl rfl ?_)
  refine wl_of hX hb cL_695 (rw_iconst (pc' := 696) rfl ?_)
  refine wl_of hX hb cL_696 (rw_iadd (pc' := 697) rfl ?_)
  have k227391 : H227378 0 ((i + 2).toNat) = H 0 ((i + 2).toNat) := (f227383 0 ((i + 2).toNat) _ g0 (wmem_s rfl))
  refine wl_of hX hb cL_697 (xa_I (so := 0) (pc' := 698) (a := 0) w227382 g0 (wsh_s _) (by omega) (wty_s _ _) (by omega) (by omega) rfl (fun b227389 b227390 => ?_))
  have k227392 : wKI H227378 m = wKI H m := (wKI_fr hW gm f227383 rfl)
  have k227393 : H227378 x 9 = H x 9 := (f227383 x 9 _ gx rfl)
  have k227394 : H227378 m 6 = H m 6 := (f227383 m 6 _ gm rfl)
  refine wl_of hX hb cL_698 (xc_V (pc' := 701) (r := m) (as := [vI (H227378 0 ((i + 1).toNat)), vI (H227378 0 ((i + 2).toNat))]) (st := []) (lm_11_92) rfl rfl (Nat.le_of_ble_eq_true rfl) w227382 gm sh_42 (by decide) rfl (by decide) (s_245 w227382 gm ⟨by omega, by omega⟩ ⟨by omega, by omega⟩ (by omega)) (fun R227395 T227396 H227397 p227398 => ?_))
  obtain ⟨e227399, w227401, f227402, z227404, e227400, b227405, p227403⟩ := p227398
  subst e227399
  subst e227400
  show WL _ _ _ _ 701 [(4, vI i), (3, .ref o), (2, .ref m), (1, .ref x), (0, .ref 0)] [vI z227404] _ H227397
  refine wl_of hX hb cL_701 (rw_pop (pc' := 702) rfl rfl ?_)
  refine wl_of hX hb cL_702 (rw_goto (p1 := 1653) (by decide) ?_)
  have k227406 : H227397 x 9 = H227378 x 9 := (f227402 x 9 _ gx rfl)
  have k227407 : H227397 m 6 = H227378 m 6 := (f227402 m 6 _ gm rfl)
  exact WL.loc hX (by simp) (next T H227397 ⟨w227401, g0, gx, gm, go, by omega, by omega⟩ (by omega) (by omega))
set_option maxHeartbeats 4000000 in
theorem wl_c17 {kt : Nat → Option mc_E} {CB SB : Nat} {X : mc_S → Prop} {T : wq_T} {H : wq_H} {Len x m o : Nat} {i : Int} (hX : wlX kt CB SB X) (hb : T.2.1 ≤ CB ∧ T.2.2.1 ≤ SB) (hI : wlI Len x m o T H) (hL : Len ≤ 3072) (hi : 0 ≤ i ∧ i + 6 ≤ Len) (hb2 : T.2.1 + 20 ≤ CB ∧ T.2.2.1 + 500 ≤ SB)  (next : ∀ T' H', wlI Len x m o T' H' → T'.2.1 ≤ T.2.1 + 20 → T'.2.2.1 ≤ T.2.2.1 + 500 → WL kt CB SB X 1653 (wlL i x m o) [] T' H') : WL kt CB SB X 705 (wlL i x m o) [] T H := by
  obtain ⟨hW, g0, gx, gm, go, hK, hr⟩ := hI
  refine wl_of hX hb cL_705 (rw_aload_n (pc' := 706) (v := .ref x) rfl rfl rfl ?_)
  refine wl_of hX hb cL_706 (xc_V (pc' := 709) (r := x) (as := []) (st := []) (lm_11_93) rfl rfl (Nat.le_of_ble_eq_true rfl) hW gx sh_1 (by decide) rfl (by decide) (s_97 hW gx) (fun R227408 T227409 H227410 p227411 => ?_))
  obtain ⟨e227412, w227414, f227415, z227416, e227413, b227417⟩ := p227411
  subst e227412
  subst e227413
  show WL _ _ _ _ 709 [(4, vI i), (3, .ref o), (2, .ref m), (1, .ref x), (0, .ref 0)] [vL z227416] _ H227410
  refine wl_of hX hb cL_709 (rw_pop2 (pc' := 710) rfl rfl ?_)
  refine wl_of hX hb cL_710 (rw_aload_n (pc' := 711) (v := .ref m) rfl rfl rfl ?_)
  have k227418 : wKI H227410 m = wKI H m := (wKI_fr hW gm f227415 rfl)
  have k227419 : H227410 x 9 = H x 9 := (f227415 x 9 _ gx rfl)
  have k227420 : H227410 m 6 = H m 6 := (f227415 m 6 _ gm rfl)
  refine wl_of hX hb cL_711 (xc_V (pc' := 714) (r := m) (as := []) (st := []) (lm_11_96) rfl rfl (Nat.le_of_ble_eq_true rfl) w227414 gm sh_42 (by decide) rfl (by decide) (s_246 w227414 gm (by omega)) (fun R227421 T227422 H227423 p227424 => ?_))
  obtain ⟨e227425, w227427, f227428, z227430, e227426, b227431, p227429⟩ := p227424
  subst e227425
  subst e227426
  show WL _ _ _ _ 714 [(4, vI i), (3, .ref o), (2, .ref m), (1, .ref x), (0, .ref 0)] [vL z227430] _ H227423
  refine wl_of hX hb cL_714 (rw_pop2 (pc' := 715) rfl rfl ?_)
  refine wl_of hX hb cL_715 (rw_goto (p1 := 1653) (by decide) ?_)
  have k227432 : H227423 x 9 = H227410 x 9 := (f227428 x 9 _ gx rfl)
  have k227433 : H227423 m 6 = H227410 m 6 := (f227428 m 6 _ gm rfl)
  exact WL.loc hX (by simp) (next T H227423 ⟨w227427, g0, gx, gm, go, by omega, by omega⟩ (by omega) (by omega))
set_option maxHeartbeats 4000000 in
theorem wl_c18 {kt : Nat → Option mc_E} {CB SB : Nat} {X : mc_S → Prop} {T : wq_T} {H : wq_H} {Len x m o : Nat} {i : Int} (hX : wlX kt CB SB X) (hb : T.2.1 ≤ CB ∧ T.2.2.1 ≤ SB) (hI : wlI Len x m o T H) (hL : Len ≤ 3072) (hi : 0 ≤ i ∧ i + 6 ≤ Len) (hb2 : T.2.1 + 20 ≤ CB ∧ T.2.2.1 + 500 ≤ SB)  (next : ∀ T' H', wlI Len x m o T' H' → T'.2.1 ≤ T.2.1 + 20 → T'.2.2.1 ≤ T.2.2.1 + 500 → WL kt CB SB X 1653 (wlL i x m o) [] T' H') : WL kt CB SB X 718 (wlL i x m o) [] T H := by
  obtain ⟨hW, g0, gx, gm, go, hK, hr⟩ := hI
  refine wl_of hX hb cL_718 (rw_aload_n (pc' := 719) (v := .ref x) rfl rfl rfl ?_)
  refine wl_of hX hb cL_719 (rw_aload_n (pc' := 720) (v := .ref 0) rfl rfl rfl ?_)
  refine wl_of hX hb cL_720 (rw_iload (pc' := 722) (z := i) rfl rfl ?_)
  refine wl_of hX hb cL_722 (rw_iconst (pc' := 723) rfl ?_)
  refine wl_of hX hb cL_723 (rw_iadd (pc' := 724) rfl ?_)
  refine wl_of hX hb cL_724 (xa_I (so := 0) (pc' := 725) (a := 0) hW g0 (wsh_s _) (by omega) (wty_s _ _) (by omega) (by omega) rfl (fun b227434 b227435 => ?_))
  refine wl_of hX hb cL_725 (rw_aload_n (pc' := 726) (v := .ref 0) rfl rfl rfl ?_)
  refine wl_of hX hb cL_726 (rw_iload (pc' := 728) (z := i) rfl rfl ?_)
  refine wl_of hX hb cL_728 (rw_iconst (pc' := 729) rfl ?_)
  refine wl_of hX hb cL_729 (rw_iadd (pc' := 730) rfl ?_)
  refine wl_of hX hb cL_730 (xa_I (so := 0) (pc' := 731) (a := 0) hW g0 (wsh_s _) (by omega) (wty_s _ _) (by omega) (by omega) rfl (fun b227436 b227437 => ?_))
  refine wl_of hX hb cL_731 (xc_V (pc' := 734) (r := x) (as := [vI (H 0 ((i + 1).toNat)), vI (H 0 ((i + 2).toNat))]) (st := []) (lm_11_97) rfl rfl (Nat.le_of_ble_eq_true rfl) hW gx sh_1 (by decide) rfl (by decide) (s_98 hW gx ⟨by omega, by omega⟩ ⟨by omega, by omega⟩) (fun R227438 T227439 H227440 p227441 => ?_))
  obtain ⟨e227442, w227444, f227445, z227446, e227443, b227447⟩ := p227441
  subst e227442
  subst e227443
  show WL _ _ _ _ 734 [(4, vI i), (3, .ref o), (2, .ref m), (1, .ref x), (0, .ref 0)] [vI z227446] _ H227440
  refine wl_of hX hb cL_734 (rw_pop (pc' := 735) rfl rfl ?_)
  refine wl_of hX hb cL_735 (rw_aload_n (pc' := 736) (v := .ref m) rfl rfl rfl ?_)
  refine wl_of hX hb cL_736 (rw_aload_n (pc' := 737) (v := .ref 0) rfl rfl rfl ?_)
  refine wl_of hX hb cL_737 (rw_iload (pc' := 739) (z := i) rfl rfl ?_)
  refine wl_of hX hb cL_739 (rw_iconst (pc' := 740) rfl ?_)
  refine wl_of hX hb cL_740 (rw_iadd (pc' := 741) rfl ?_)
  have k227450 : H227440 0 ((i + 1).toNat) = H 0 ((i + 1).toNat) := (f227445 0 ((i + 1).toNat) _ g0 (wmem_s rfl))
  refine wl_of hX hb cL_741 (xa_I (so := 0) (pc' := 742) (a := 0) w227444 g0 (wsh_s _) (by omega) (wty_s _ _) (by omega) (by omega) rfl (fun b227448 b227449 => ?_))
  refine wl_of hX hb cL_742 (rw_aload_n (pc' := 743) (v := .ref 0) rfl rfl rfl ?_)
  refine wl_of hX hb cL_743 (rw_iload (pc' := 745) (z := i) rfl rfl ?_)
  refine wl_of hX hb cL_745 (rw_iconst (pc' := 746) rfl ?_)
  refine wl_of hX hb cL_746 (rw_iadd (pc' := 747) rfl ?_)
  have k227453 : H227440 0 ((i + 2).toNat) = H 0 ((i + 2).toNat) := (f227445 0 ((i + 2).toNat) _ g0 (wmem_s rfl))
  refine wl_of hX hb cL_747 (xa_I (so := 0) (pc' := 748) (a := 0) w227444 g0 (wsh_s _) (by omega) (wty_s _ _) (by omega) (by omega) rfl (fun b227451 b227452 => ?_))
  have k227454 : wKI H227440 m = wKI H m := (wKI_fr hW gm f227445 rfl)
  have k227455 : H227440 x 9 = H x 9 := (f227445 x 9 _ gx rfl)
  have k227456 : H227440 m 6 = H m 6 := (f227445 m 6 _ gm rfl)
  refine wl_of hX hb cL_748 (xc_V (pc' := 751) (r := m) (as := [vI (H227440 0 ((i + 1).toNat)), vI (H227440 0 ((i + 2).toNat))]) (st := []) (lm_11_100) rfl rfl (Nat.le_of_ble_eq_true rfl) w227444 gm sh_42 (by decide) rfl (by decide) (s_249 w227444 gm ⟨by omega, by omega⟩ ⟨by omega, by omega⟩ (by omega)) (fun R227457 T227458 H227459 p227460 => ?_))
  obtain ⟨e227461, w227463, f227464, z227466, e227462, b227467, p227465⟩ := p227460
  subst e227461
  subst e227462
  show WL _ _ _ _ 751 [(4, vI i), (3, .ref o), (2, .ref m), (1, .ref x), (0, .ref 0)] [vI z227466] _ H227459
  refine wl_of hX hb cL_751 (rw_pop (pc' := 752) rfl rfl ?_)
  refine wl_of hX hb cL_752 (rw_goto (p1 := 1653) (by decide) ?_)
  have k227468 : H227459 x 9 = H227440 x 9 := (f227464 x 9 _ gx rfl)
  have k227469 : H227459 m 6 = H227440 m 6 := (f227464 m 6 _ gm rfl)
  exact WL.loc hX (by simp) (next T H227459 ⟨w227463, g0, gx, gm, go, by omega, by omega⟩ (by omega) (by omega))
set_option maxHeartbeats 4000000 in
theorem wl_c19 {kt : Nat → Option mc_E} {CB SB : Nat} {X : mc_S → Prop} {T : wq_T} {H : wq_H} {Len x m o : Nat} {i : Int} (hX : wlX kt CB SB X) (hb : T.2.1 ≤ CB ∧ T.2.2.1 ≤ SB) (hI : wlI Len x m o T H) (hL : Len ≤ 3072) (hi : 0 ≤ i ∧ i + 6 ≤ Len) (hb2 : T.2.1 + 20 ≤ CB ∧ T.2.2.1 + 500 ≤ SB)  (next : ∀ T' H', wlI Len x m o T' H' → T'.2.1 ≤ T.2.1 + 20 → T'.2.2.1 ≤ T.2.2.1 + 500 → WL kt CB SB X 1653 (wlL i x m o) [] T' H') : WL kt CB SB X 755 (wlL i x m o) [] T H := by
  obtain ⟨hW, g0, gx, gm, go, hK, hr⟩ := hI
  refine wl_of hX hb cL_755 (rw_aload_n (pc' := 756) (v := .ref x) rfl rfl rfl ?_)
  refine wl_of hX hb cL_756 (rw_aload_n (pc' := 757) (v := .ref 0) rfl rfl rfl ?_)
  refine wl_of hX hb cL_757 (rw_iload (pc' := 759) (z := i) rfl rfl ?_)
  refine wl_of hX hb cL_759 (rw_iconst (pc' := 760) rfl ?_)
  refine wl_of hX hb cL_760 (rw_iadd (pc' := 761) rfl ?_)
  refine wl_of hX hb cL_761 (xa_I (so := 0) (pc' := 762) (a := 0) hW g0 (wsh_s _) (by omega) (wty_s _ _) (by omega) (by omega) rfl (fun b227470 b227471 => ?_))
  refine wl_of hX hb cL_762 (rw_aload_n (pc' := 763) (v := .ref 0) rfl rfl rfl ?_)
  refine wl_of hX hb cL_763 (rw_iload (pc' := 765) (z := i) rfl rfl ?_)
  refine wl_of hX hb cL_765 (rw_iconst (pc' := 766) rfl ?_)
  refine wl_of hX hb cL_766 (rw_iadd (pc' := 767) rfl ?_)
  refine wl_of hX hb cL_767 (xa_I (so := 0) (pc' := 768) (a := 0) hW g0 (wsh_s _) (by omega) (wty_s _ _) (by omega) (by omega) rfl (fun b227472 b227473 => ?_))
  refine wl_of hX hb cL_768 (xc_V (pc' := 771) (r := x) (as := [vI (H 0 ((i + 1).toNat)), vI (H 0 ((i + 2).toNat))]) (st := []) (lm_11_101) rfl rfl (Nat.le_of_ble_eq_true rfl) hW gx sh_1 (by decide) rfl (by decide) (s_99 hW gx ⟨by omega, by omega⟩ ⟨by omega, by omega⟩) (fun R227474 T227475 H227476 p227477 => ?_))
  obtain ⟨e227478, w227480, f227481, z227482, e227479, b227483⟩ := p227477
  subst e227478
  subst e227479
  show WL _ _ _ _ 771 [(4, vI i), (3, .ref o), (2, .ref m), (1, .ref x), (0, .ref 0)] [vI z227482] _ H227476
  refine wl_of hX hb cL_771 (rw_pop (pc' := 772) rfl rfl ?_)
  refine wl_of hX hb cL_772 (rw_aload_n (pc' := 773) (v := .ref m) rfl rfl rfl ?_)
  refine wl_of hX hb cL_773 (rw_aload_n (pc' := 774) (v := .ref 0) rfl rfl rfl ?_)
  refine wl_of hX hb cL_774 (rw_iload (pc' := 776) (z := i) rfl rfl ?_)
  refine wl_of hX hb cL_776 (rw_iconst (pc' := 777) rfl ?_)
  refine wl_of hX hb cL_777 (rw_iadd (pc' := 778) rfl ?_)
  have k227486 : H227476 0 ((i + 1).toNat) = H 0 ((i + 1).toNat) := (f227481 0 ((i + 1).toNat) _ g0 (wmem_s rfl))
  refine wl_of hX hb cL_778 (xa_I (so := 0) (pc' := 779) (a := 0) w227480 g0 (wsh_s _) (by omega) (wty_s _ _) (by omega) (by omega) rfl (fun b227484 b227485 => ?_))
  refine wl_of hX hb cL_779 (rw_aload_n (pc' := 780) (v := .ref 0) rfl rfl rfl ?_)
  refine wl_of hX hb cL_780 (rw_iload (pc' := 782) (z := i) rfl rfl ?_)
  refine wl_of hX hb cL_782 (rw_iconst (pc' := 783) rfl ?_)
  refine wl_of hX hb cL_783 (rw_iadd (pc' := 784) rfl ?_)
  have k227489 : H227476 0 ((i + 2).toNat) = H 0 ((i + 2).toNat) := (f227481 0 ((i + 2).toNat) _ g0 (wmem_s rfl))
  refine wl_of hX hb cL_784 (xa_I (so := 0) (pc' := 785) (a := 0) w227480 g0 (wsh_s _) (by omega) (wty_s _ _) (by omega) (by omega) rfl (fun b227487 b227488 => ?_))
  have k227490 : wKI H227476 m = wKI H m := (wKI_fr hW gm f227481 rfl)
  have k227491 : H227476 x 9 = H x 9 := (f227481 x 9 _ gx rfl)
  have k227492 : H227476 m 6 = H m 6 := (f227481 m 6 _ gm rfl)
  refine wl_of hX hb cL_785 (xc_V (pc' := 788) (r := m) (as := [vI (H227476 0 ((i + 1).toNat)), vI (H227476 0 ((i + 2).toNat))]) (st := []) (lm_11_104) rfl rfl (Nat.le_of_ble_eq_true rfl) w227480 gm sh_42 (by decide) rfl (by decide) (s_250 w227480 gm ⟨by omega, by omega⟩ ⟨by omega, by omega⟩ (by omega)) (fun R227493 T227494 H227495 p227496 => ?_))
  obtain ⟨e227497, w227499, f227500, z227502, e227498, b227503, p227501⟩ := p227496
  subst e227497
  subst e227498
  show WL _ _ _ _ 788 [(4, vI i), (3, .ref o), (2, .ref m), (1, .ref x), (0, .ref 0)] [vI z227502] _ H227495
  refine wl_of hX hb cL_788 (rw_pop (pc' := 789) rfl rfl ?_)
  refine wl_of hX hb cL_789 (rw_goto (p1 := 1653) (by decide) ?_)
  have k227504 : H227495 x 9 = H227476 x 9 := (f227500 x 9 _ gx rfl)
  have k227505 : H227495 m 6 = H227476 m 6 := (f227500 m 6 _ gm rfl)
  exact WL.loc hX (by simp) (next T H227495 ⟨w227499, g0, gx, gm, go, by omega, by omega⟩ (by omega) (by omega))
set_option maxHeartbeats 4000000 in
theorem wl_c20 {kt : Nat → Option mc_E} {CB SB : Nat} {X : mc_S → Prop} {T : wq_T} {H : wq_H} {Len x m o : Nat} {i : Int} (hX : wlX kt CB SB X) (hb : T.2.1 ≤ CB ∧ T.2.2.1 ≤ SB) (hI : wlI Len x m o T H) (hL : Len ≤ 3072) (hi : 0 ≤ i ∧ i + 6 ≤ Len) (hb2 : T.2.1 + 20 ≤ CB ∧ T.2.2.1 + 500 ≤ SB)  (next : ∀ T' H', wlI Len x m o T' H' → T'.2.1 ≤ T.2.1 + 20 → T'.2.2.1 ≤ T.2.2.1 + 500 → WL kt CB SB X 1653 (wlL i x m o) [] T' H') : WL kt CB SB X 792 (wlL i x m o) [] T H := by
  obtain ⟨hW, g0, gx, gm, go, hK, hr⟩ := hI
  refine wl_of hX hb cL_792 (rw_aload_n (pc' := 793) (v := .ref x) rfl rfl rfl ?_)
  refine wl_of hX hb cL_793 (rw_aload_n (pc' := 794) (v := .ref 0) rfl rfl rfl ?_)
  refine wl_of hX hb cL_794 (rw_iload (pc' := 796) (z := i) rfl rfl ?_)
  refine wl_of hX hb cL_796 (rw_iconst (pc' := 797) rfl ?_)
  refine wl_of hX hb cL_797 (rw_iadd (pc' := 798) rfl ?_)
  refine wl_of hX hb cL_798 (xa_I (so := 0) (pc' := 799) (a := 0) hW g0 (wsh_s _) (by omega) (wty_s _ _) (by omega) (by omega) rfl (fun b227506 b227507 => ?_))
  refine wl_of hX hb cL_799 (rw_aload_n (pc' := 800) (v := .ref 0) rfl rfl rfl ?_)
  refine wl_of hX hb cL_800 (rw_iload (pc' := 802) (z := i) rfl rfl ?_)
  refine wl_of hX hb cL_802 (rw_iconst (pc' := 803) rfl ?_)
  refine wl_of hX hb cL_803 (rw_iadd (pc' := 804) rfl ?_)
  refine wl_of hX hb cL_804 (xa_I (so := 0) (pc' := 805) (a := 0) hW g0 (wsh_s _) (by omega) (wty_s _ _) (by omega) (by omega) rfl (fun b227508 b227509 => ?_))
  refine wl_of hX hb cL_805 (xc_V (pc' := 808) (r := x) (as := [vI (H 0 ((i + 1).toNat)), vI (H 0 ((i + 2).toNat))]) (st := []) (lm_11_105) rfl rfl (Nat.le_of_ble_eq_true rfl) hW gx sh_1 (by decide) rfl (by decide) (s_101 hW gx ⟨by omega, by omega⟩ ⟨by omega, by omega⟩) (fun R227510 T227511 H227512 p227513 => ?_))
  obtain ⟨e227514, w227516, f227517, z227518, e227515, b227519⟩ := p227513
  subst e227514
  subst e227515
  show WL _ _ _ _ 808 [(4, vI i), (3, .ref o), (2, .ref m), (1, .ref x), (0, .ref 0)] [vI z227518] _ H227512
  refine wl_of hX hb cL_808 (rw_pop (pc' := 809) rfl rfl ?_)
  refine wl_of hX hb cL_809 (rw_aload_n (pc' := 810) (v := .ref m) rfl rfl rfl ?_)
  refine wl_of hX hb cL_810 (rw_aload_n (pc' := 811) (v := .ref 0) rfl rfl rfl ?_)
  refine wl_of hX hb cL_811 (rw_iload (pc' := 813) (z := i) rfl rfl ?_)
  refine wl_of hX hb cL_813 (rw_iconst (pc' := 814) rfl ?_)
  refine wl_of hX hb cL_814 (rw_iadd (pc' := 815) rfl ?_)
  have k227522 : H227512 0 ((i + 1).toNat) = H 0 ((i + 1).toNat) := (f227517 0 ((i + 1).toNat) _ g0 (wmem_s rfl))
  refine wl_of hX hb cL_815 (xa_I (so := 0) (pc' := 816) (a := 0) w227516 g0 (wsh_s _) (by omega) (wty_s _ _) (by omega) (by omega) rfl (fun b227520 b227521 => ?_))
  refine wl_of hX hb cL_816 (rw_aload_n (pc' := 817) (v := .ref 0) rfl rfl rfl ?_)
  refine wl_of hX hb cL_817 (rw_iload (pc' := 819) (z := i) rfl rfl ?_)
  refine wl_of hX hb cL_819 (rw_iconst (pc' := 820) rfl ?_)
  refine wl_of hX hb cL_820 (rw_iadd (pc' := 821) rfl ?_)
  have k227525 : H227512 0 ((i + 2).toNat) = H 0 ((i + 2).toNat) := (f227517 0 ((i + 2).toNat) _ g0 (wmem_s rfl))
  refine wl_of hX hb cL_821 (xa_I (so := 0) (pc' := 822) (a := 0) w227516 g0 (wsh_s _) (by omega) (wty_s _ _) (by omega) (by omega) rfl (fun b227523 b227524 => ?_))
  have k227526 : wKI H227512 m = wKI H m := (wKI_fr hW gm f227517 rfl)
  have k227527 : H227512 x 9 = H x 9 := (f227517 x 9 _ gx rfl)
  have k227528 : H227512 m 6 = H m 6 := (f227517 m 6 _ gm rfl)
  refine wl_of hX hb cL_822 (xc_V (pc' := 825) (r := m) (as := [vI (H227512 0 ((i + 1).toNat)), vI (H227512 0 ((i + 2).toNat))]) (st := []) (lm_11_108) rfl rfl (Nat.le_of_ble_eq_true rfl) w227516 gm sh_42 (by decide) rfl (by decide) (s_252 w227516 gm ⟨by omega, by omega⟩ ⟨by omega, by omega⟩ (by omega)) (fun R227529 T227530 H227531 p227532 => ?_))
  obtain ⟨e227533, w227535, f227536, z227538, e227534, b227539, p227537⟩ := p227532
  subst e227533
  subst e227534
  show WL _ _ _ _ 825 [(4, vI i), (3, .ref o), (2, .ref m), (1, .ref x), (0, .ref 0)] [vI z227538] _ H227531
  refine wl_of hX hb cL_825 (rw_pop (pc' := 826) rfl rfl ?_)
  refine wl_of hX hb cL_826 (rw_goto (p1 := 1653) (by decide) ?_)
  have k227540 : H227531 x 9 = H227512 x 9 := (f227536 x 9 _ gx rfl)
  have k227541 : H227531 m 6 = H227512 m 6 := (f227536 m 6 _ gm rfl)
  exact WL.loc hX (by simp) (next T H227531 ⟨w227535, g0, gx, gm, go, by omega, by omega⟩ (by omega) (by omega))
set_option maxHeartbeats 4000000 in
theorem wl_c21 {kt : Nat → Option mc_E} {CB SB : Nat} {X : mc_S → Prop} {T : wq_T} {H : wq_H} {Len x m o : Nat} {i : Int} (hX : wlX kt CB SB X) (hb : T.2.1 ≤ CB ∧ T.2.2.1 ≤ SB) (hI : wlI Len x m o T H) (hL : Len ≤ 3072) (hi : 0 ≤ i ∧ i + 6 ≤ Len) (hb2 : T.2.1 + 20 ≤ CB ∧ T.2.2.1 + 500 ≤ SB)  (next : ∀ T' H', wlI Len x m o T' H' → T'.2.1 ≤ T.2.1 + 20 → T'.2.2.1 ≤ T.2.2.1 + 500 → WL kt CB SB X 1653 (wlL i x m o) [] T' H') : WL kt CB SB X 829 (wlL i x m o) [] T H := by
  obtain ⟨hW, g0, gx, gm, go, hK, hr⟩ := hI
  refine wl_of hX hb cL_829 (rw_aload_n (pc' := 830) (v := .ref x) rfl rfl rfl ?_)
  refine wl_of hX hb cL_830 (rw_aload_n (pc' := 831) (v := .ref 0) rfl rfl rfl ?_)
  refine wl_of hX hb cL_831 (rw_iload (pc' := 833) (z := i) rfl rfl ?_)
  refine wl_of hX hb cL_833 (rw_iconst (pc' := 834) rfl ?_)
  refine wl_of hX hb cL_834 (rw_iadd (pc' := 835) rfl ?_)
  refine wl_of hX hb cL_835 (xa_I (so := 0) (pc' := 836) (a := 0) hW g0 (wsh_s _) (by omega) (wty_s _ _) (by omega) (by omega) rfl (fun b227542 b227543 => ?_))
  refine wl_of hX hb cL_836 (rw_aload_n (pc' := 837) (v := .ref 0) rfl rfl rfl ?_)
  refine wl_of hX hb cL_837 (rw_iload (pc' := 839) (z := i) rfl rfl ?_)
  refine wl_of hX hb cL_839 (rw_iconst (pc' := 840) rfl ?_)
  refine wl_of hX hb cL_840 (rw_iadd (pc' := 841) rfl ?_)
  refine wl_of hX hb cL_841 (xa_I (so := 0) (pc' := 842) (a := 0) hW g0 (wsh_s _) (by omega) (wty_s _ _) (by omega) (by omega) rfl (fun b227544 b227545 => ?_))
  refine wl_of hX hb cL_842 (rw_if_eq (p1 := 849) (p2 := 845) (by decide) rfl ⟨by omega, by omega⟩ (fun c227546 => ?_) (fun c227546 => ?_))
  · refine wl_of hX hb cL_849 (rw_iconst (pc' := 850) rfl ?_)
    refine wl_of hX hb cL_850 (xc_V (pc' := 853) (r := x) (as := [vI (H 0 ((i + 1).toNat)), vI 0]) (st := []) (lm_11_109) rfl rfl (Nat.le_of_ble_eq_true rfl) hW gx sh_1 (by decide) rfl (by decide) (s_104 hW gx ⟨by omega, by omega⟩ ⟨by omega, by omega⟩) (fun R227547 T227548 H227549 p227550 => ?_))
    obtain ⟨e227551, w227553, f227554, z227555, e227552, b227556⟩ := p227550
    subst e227551
    subst e227552
    show WL _ _ _ _ 853 [(4, vI i), (3, .ref o), (2, .ref m), (1, .ref x), (0, .ref 0)] [vI z227555] _ H227549
    refine wl_of hX hb cL_853 (rw_pop (pc' := 854) rfl rfl ?_)
    refine wl_of hX hb cL_854 (rw_aload_n (pc' := 855) (v := .ref m) rfl rfl rfl ?_)
    refine wl_of hX hb cL_855 (rw_aload_n (pc' := 856) (v := .ref 0) rfl rfl rfl ?_)
    refine wl_of hX hb cL_856 (rw_iload (pc' := 858) (z := i) rfl rfl ?_)
    refine wl_of hX hb cL_858 (rw_iconst (pc' := 859) rfl ?_)
    refine wl_of hX hb cL_859 (rw_iadd (pc' := 860) rfl ?_)
    have k227559 : H227549 0 ((i + 1).toNat) = H 0 ((i + 1).toNat) := (f227554 0 ((i + 1).toNat) _ g0 (wmem_s rfl))
    refine wl_of hX hb cL_860 (xa_I (so := 0) (pc' := 861) (a := 0) w227553 g0 (wsh_s _) (by omega) (wty_s _ _) (by omega) (by omega) rfl (fun b227557 b227558 => ?_))
    refine wl_of hX hb cL_861 (rw_aload_n (pc' := 862) (v := .ref 0) rfl rfl rfl ?_)
    refine wl_of hX hb cL_862 (rw_iload (pc' := 864) (z := i) rfl rfl ?_)
    refine wl_of hX hb cL_864 (rw_iconst (pc' := 865) rfl ?_)
    refine wl_of hX hb cL_865 (rw_iadd (pc' := 866) rfl ?_)
    have k227562 : H227549 0 ((i + 2).toNat) = H 0 ((i + 2).toNat) := (f227554 0 ((i + 2).toNat) _ g0 (wmem_s rfl))
    refine wl_of hX hb cL_866 (xa_I (so := 0) (pc' := 867) (a := 0) w227553 g0 (wsh_s _) (by omega) (wty_s _ _) (by omega) (by omega) rfl (fun b227560 b227561 => ?_))
    refine wl_of hX hb cL_867 (rw_if_eq (p1 := 874) (p2 := 870) (by decide) rfl ⟨by omega, by omega⟩ (fun c227563 => ?_) (fun c227563 => ?_))
    · refine wl_of hX hb cL_874 (rw_iconst (pc' := 875) rfl ?_)
      have k227564 : wKI H227549 m = wKI H m := (wKI_fr hW gm f227554 rfl)
      have k227565 : H227549 x 9 = H x 9 := (f227554 x 9 _ gx rfl)
      have k227566 : H227549 m 6 = H m 6 := (f227554 m 6 _ gm rfl)
      refine wl_of hX hb cL_875 (xc_V (pc' := 878) (r := m) (as := [vI (H227549 0 ((i + 1).toNat)), vI 0]) (st := []) (lm_11_113) rfl rfl (Nat.le_of_ble_eq_true rfl) w227553 gm sh_42 (by decide) rfl (by decide) (s_254 w227553 gm ⟨by omega, by omega⟩ ⟨by omega, by omega⟩ (by omega)) (fun R227567 T227568 H227569 p227570 => ?_))
      obtain ⟨e227571, w227573, f227574, z227576, e227572, b227577, p227575⟩ := p227570
      subst e227571
      subst e227572
      show WL _ _ _ _ 878 [(4, vI i), (3, .ref o), (2, .ref m), (1, .ref x), (0, .ref 0)] [vI z227576] _ H227569
      refine wl_of hX hb cL_878 (rw_pop (pc' := 879) rfl rfl ?_)
      refine wl_of hX hb cL_879 (rw_goto (p1 := 1653) (by decide) ?_)
      have k227578 : H227569 x 9 = H227549 x 9 := (f227574 x 9 _ gx rfl)
      have k227579 : H227569 m 6 = H227549 m 6 := (f227574 m 6 _ gm rfl)
      exact WL.loc hX (by simp) (next T H227569 ⟨w227573, g0, gx, gm, go, by omega, by omega⟩ (by omega) (by omega))
    · exfalso
      omega
  · refine wl_of hX hb cL_845 (rw_iconst (pc' := 846) rfl ?_)
    refine wl_of hX hb cL_846 (rw_goto (p1 := 850) (by decide) ?_)
    refine wl_of hX hb cL_850 (xc_V (pc' := 853) (r := x) (as := [vI (H 0 ((i + 1).toNat)), vI 1]) (st := []) (lm_11_109) rfl rfl (Nat.le_of_ble_eq_true rfl) hW gx sh_1 (by decide) rfl (by decide) (s_104 hW gx ⟨by omega, by omega⟩ ⟨by omega, by omega⟩) (fun R227580 T227581 H227582 p227583 => ?_))
    obtain ⟨e227584, w227586, f227587, z227588, e227585, b227589⟩ := p227583
    subst e227584
    subst e227585
    show WL _ _ _ _ 853 [(4, vI i), (3, .ref o), (2, .ref m), (1, .ref x), (0, .ref 0)] [vI z227588] _ H227582
    refine wl_of hX hb cL_853 (rw_pop (pc' := 854) rfl rfl ?_)
    refine wl_of hX hb cL_854 (rw_aload_n (pc' := 855) (v := .ref m) rfl rfl rfl ?_)
    refine wl_of hX hb cL_855 (rw_aload_n (pc' := 856) (v := .ref 0) rfl rfl rfl ?_)
    refine wl_of hX hb cL_856 (rw_iload (pc' := 858) (z := i) rfl rfl ?_)
    refine wl_of hX hb cL_858 (rw_iconst (pc' := 859) rfl ?_)
    refine wl_of hX hb cL_859 (rw_iadd (pc' := 860) rfl ?_)
    have k227592 : H227582 0 ((i + 1).toNat) = H 0 ((i + 1).toNat) := (f227587 0 ((i + 1).toNat) _ g0 (wmem_s rfl))
    refine wl_of hX hb cL_860 (xa_I (so := 0) (pc' := 861) (a := 0) w227586 g0 (wsh_s _) (by omega) (wty_s _ _) (by omega) (by omega) rfl (fun b227590 b227591 => ?_))
    refine wl_of hX hb cL_861 (rw_aload_n (pc' := 862) (v := .ref 0) rfl rfl rfl ?_)
    refine wl_of hX hb cL_862 (rw_iload (pc' := 864) (z := i) rfl rfl ?_)
    refine wl_of hX hb cL_864 (rw_iconst (pc' := 865) rfl ?_)
    refine wl_of hX hb cL_865 (rw_iadd (pc' := 866) rfl ?_)
    have k227595 : H227582 0 ((i + 2).toNat) = H 0 ((i + 2).toNat) := (f227587 0 ((i + 2).toNat) _ g0 (wmem_s rfl))
    refine wl_of hX hb cL_866 (xa_I (so := 0) (pc' := 867) (a := 0) w227586 g0 (wsh_s _) (by omega) (wty_s _ _) (by omega) (by omega) rfl (fun b227593 b227594 => ?_))
    refine wl_of hX hb cL_867 (rw_if_eq (p1 := 874) (p2 := 870) (by decide) rfl ⟨by omega, by omega⟩ (fun c227596 => ?_) (fun c227596 => ?_))
    · refine wl_of hX hb cL_874 (rw_iconst (pc' := 875) rfl ?_)
      have k227597 : wKI H227582 m = wKI H m := (wKI_fr hW gm f227587 rfl)
      have k227598 : H227582 x 9 = H x 9 := (f227587 x 9 _ gx rfl)
      have k227599 : H227582 m 6 = H m 6 := (f227587 m 6 _ gm rfl)
      refine wl_of hX hb cL_875 (xc_V (pc' := 878) (r := m) (as := [vI (H227582 0 ((i + 1).toNat)), vI 0]) (st := []) (lm_11_113) rfl rfl (Nat.le_of_ble_eq_true rfl) w227586 gm sh_42 (by decide) rfl (by decide) (s_254 w227586 gm ⟨by omega, by omega⟩ ⟨by omega, by omega⟩ (by omega)) (fun R227600 T227601 H227602 p227603 => ?_))
      obtain ⟨e227604, w227606, f227607, z227609, e227605, b227610, p227608⟩ := p227603
      subst e227604
      subst e227605
      show WL _ _ _ _ 878 [(4, vI i), (3, .ref o), (2, .ref m), (1, .ref x), (0, .ref 0)] [vI z227609] _ H227602
      refine wl_of hX hb cL_878 (rw_pop (pc' := 879) rfl rfl ?_)
      refine wl_of hX hb cL_879 (rw_goto (p1 := 1653) (by decide) ?_)
      have k227611 : H227602 x 9 = H227582 x 9 := (f227607 x 9 _ gx rfl)
      have k227612 : H227602 m 6 = H227582 m 6 := (f227607 m 6 _ gm rfl)
      exact WL.loc hX (by simp) (next T H227602 ⟨w227606, g0, gx, gm, go, by omega, by omega⟩ (by omega) (by omega))
    · refine wl_of hX hb cL_870 (rw_iconst (pc' := 871) rfl ?_)
      refine wl_of hX hb cL_871 (rw_goto (p1 := 875) (by decide) ?_)
      have k227613 : wKI H227582 m = wKI H m := (wKI_fr hW gm f227587 rfl)
      have k227614 : H227582 x 9 = H x 9 := (f227587 x 9 _ gx rfl)
      have k227615 : H227582 m 6 = H m 6 := (f227587 m 6 _ gm rfl)
      refine wl_of hX hb cL_875 (xc_V (pc' := 878) (r := m) (as := [vI (H227582 0 ((i + 1).toNat)), vI 1]) (st := []) (lm_11_113) rfl rfl (Nat.le_of_ble_eq_true rfl) w227586 gm sh_42 (by decide) rfl (by decide) (s_254 w227586 gm ⟨by omega, by omega⟩ ⟨by omega, by omega⟩ (by omega)) (fun R227616 T227617 H227618 p227619 => ?_))
      obtain ⟨e227620, w227622, f227623, z227625, e227621, b227626, p227624⟩ := p227619
      subst e227620
      subst e227621
      show WL _ _ _ _ 878 [(4, vI i), (3, .ref o), (2, .ref m), (1, .ref x), (0, .ref 0)] [vI z227625] _ H227618
      refine wl_of hX hb cL_878 (rw_pop (pc' := 879) rfl rfl ?_)
      refine wl_of hX hb cL_879 (rw_goto (p1 := 1653) (by decide) ?_)
      have k227627 : H227618 x 9 = H227582 x 9 := (f227623 x 9 _ gx rfl)
      have k227628 : H227618 m 6 = H227582 m 6 := (f227623 m 6 _ gm rfl)
      exact WL.loc hX (by simp) (next T H227618 ⟨w227622, g0, gx, gm, go, by omega, by omega⟩ (by omega) (by omega))
set_option maxHeartbeats 4000000 in
theorem wl_c22 {kt : Nat → Option mc_E} {CB SB : Nat} {X : mc_S → Prop} {T : wq_T} {H : wq_H} {Len x m o : Nat} {i : Int} (hX : wlX kt CB SB X) (hb : T.2.1 ≤ CB ∧ T.2.2.1 ≤ SB) (hI : wlI Len x m o T H) (hL : Len ≤ 3072) (hi : 0 ≤ i ∧ i + 6 ≤ Len) (hb2 : T.2.1 + 20 ≤ CB ∧ T.2.2.1 + 500 ≤ SB)  (next : ∀ T' H', wlI Len x m o T' H' → T'.2.1 ≤ T.2.1 + 20 → T'.2.2.1 ≤ T.2.2.1 + 500 → WL kt CB SB X 1653 (wlL i x m o) [] T' H') : WL kt CB SB X 882 (wlL i x m o) [] T H := by
  obtain ⟨hW, g0, gx, gm, go, hK, hr⟩ := hI
  refine wl_of hX hb cL_882 (rw_aload_n (pc' := 883) (v := .ref x) rfl rfl rfl ?_)
  refine wl_of hX hb cL_883 (rw_aload_n (pc' := 884) (v := .ref 0) rfl rfl rfl ?_)
  refine wl_of hX hb cL_884 (rw_iload (pc' := 886) (z := i) rfl rfl ?_)
  refine wl_of hX hb cL_886 (rw_iconst (pc' := 887) rfl ?_)
  refine wl_of hX hb cL_887 (rw_iadd (pc' := 888) rfl ?_)
  refine wl_of hX hb cL_888 (xa_I (so := 0) (pc' := 889) (a := 0) hW g0 (wsh_s _) (by omega) (wty_s _ _) (by omega) (by omega) rfl (fun b227629 b227630 => ?_))
  refine wl_of hX hb cL_889 (rw_aload_n (pc' := 890) (v := .ref 0) rfl rfl rfl ?_)
  refine wl_of hX hb cL_890 (rw_iload (pc' := 892) (z := i) rfl rfl ?_)
  refine wl_of hX hb cL_892 (rw_iconst (pc' := 893) rfl ?_)
  refine wl_of hX hb cL_893 (rw_iadd (pc' := 894) rfl ?_)
  refine wl_of hX hb cL_894 (xa_I (so := 0) (pc' := 895) (a := 0) hW g0 (wsh_s _) (by omega) (wty_s _ _) (by omega) (by omega) rfl (fun b227631 b227632 => ?_))
  refine wl_of hX hb cL_895 (xc_V (pc' := 898) (r := x) (as := [vI (H 0 ((i + 1).toNat)), vI (H 0 ((i + 2).toNat))]) (st := []) (lm_11_114) rfl rfl (Nat.le_of_ble_eq_true rfl) hW gx sh_1 (by decide) rfl (by decide) (s_105 hW gx ⟨by omega, by omega⟩ ⟨by omega, by omega⟩) (fun R227633 T227634 H227635 p227636 => ?_))
  obtain ⟨e227637, w227639, f227640, z227641, e227638, b227642⟩ := p227636
  subst e227637
  subst e227638
  show WL _ _ _ _ 898 [(4, vI i), (3, .ref o), (2, .ref m), (1, .ref x), (0, .ref 0)] [vI z227641] _ H227635
  refine wl_of hX hb cL_898 (rw_pop (pc' := 899) rfl rfl ?_)
  refine wl_of hX hb cL_899 (rw_aload_n (pc' := 900) (v := .ref m) rfl rfl rfl ?_)
  refine wl_of hX hb cL_900 (rw_aload_n (pc' := 901) (v := .ref 0) rfl rfl rfl ?_)
  refine wl_of hX hb cL_901 (rw_iload (pc' := 903) (z := i) rfl rfl ?_)
  refine wl_of hX hb cL_903 (rw_iconst (pc' := 904) rfl ?_)
  refine wl_of hX hb cL_904 (rw_iadd (pc' := 905) rfl ?_)
  have k227645 : H227635 0 ((i + 1).toNat) = H 0 ((i + 1).toNat) := (f227640 0 ((i + 1).toNat) _ g0 (wmem_s rfl))
  refine wl_of hX hb cL_905 (xa_I (so := 0) (pc' := 906) (a := 0) w227639 g0 (wsh_s _) (by omega) (wty_s _ _) (by omega) (by omega) rfl (fun b227643 b227644 => ?_))
  refine wl_of hX hb cL_906 (rw_aload_n (pc' := 907) (v := .ref 0) rfl rfl rfl ?_)
  refine wl_of hX hb cL_907 (rw_iload (pc' := 909) (z := i) rfl rfl ?_)
  refine wl_of hX hb cL_909 (rw_iconst (pc' := 910) rfl ?_)
  refine wl_of hX hb cL_910 (rw_iadd (pc' := 911) rfl ?_)
  have k227648 : H227635 0 ((i + 2).toNat) = H 0 ((i + 2).toNat) := (f227640 0 ((i + 2).toNat) _ g0 (wmem_s rfl))
  refine wl_of hX hb cL_911 (xa_I (so := 0) (pc' := 912) (a := 0) w227639 g0 (wsh_s _) (by omega) (wty_s _ _) (by omega) (by omega) rfl (fun b227646 b227647 => ?_))
  have k227649 : wKI H227635 m = wKI H m := (wKI_fr hW gm f227640 rfl)
  have k227650 : H227635 x 9 = H x 9 := (f227640 x 9 _ gx rfl)
  have k227651 : H227635 m 6 = H m 6 := (f227640 m 6 _ gm rfl)
  refine wl_of hX hb cL_912 (xc_V (pc' := 915) (r := m) (as := [vI (H227635 0 ((i + 1).toNat)), vI (H227635 0 ((i + 2).toNat))]) (st := []) (lm_11_117) rfl rfl (Nat.le_of_ble_eq_true rfl) w227639 gm sh_42 (by decide) rfl (by decide) (s_255 w227639 gm ⟨by omega, by omega⟩ ⟨by omega, by omega⟩ (by omega)) (fun R227652 T227653 H227654 p227655 => ?_))
  obtain ⟨e227656, w227658, f227659, z227661, e227657, b227662, p227660⟩ := p227655
  subst e227656
  subst e227657
  show WL _ _ _ _ 915 [(4, vI i), (3, .ref o), (2, .ref m), (1, .ref x), (0, .ref 0)] [vI z227661] _ H227654
  refine wl_of hX hb cL_915 (rw_pop (pc' := 916) rfl rfl ?_)
  refine wl_of hX hb cL_916 (rw_goto (p1 := 1653) (by decide) ?_)
  have k227663 : H227654 x 9 = H227635 x 9 := (f227659 x 9 _ gx rfl)
  have k227664 : H227654 m 6 = H227635 m 6 := (f227659 m 6 _ gm rfl)
  exact WL.loc hX (by simp) (next T H227654 ⟨w227658, g0, gx, gm, go, by omega, by omega⟩ (by omega) (by omega))
set_option maxHeartbeats 4000000 in
theorem wl_c23 {kt : Nat → Option mc_E} {CB SB : Nat} {X : mc_S → Prop} {T : wq_T} {H : wq_H} {Len x m o : Nat} {i : Int} (hX : wlX kt CB SB X) (hb : T.2.1 ≤ CB ∧ T.2.2.1 ≤ SB) (hI : wlI Len x m o T H) (hL : Len ≤ 3072) (hi : 0 ≤ i ∧ i + 6 ≤ Len) (hb2 : T.2.1 + 20 ≤ CB ∧ T.2.2.1 + 500 ≤ SB)  (next : ∀ T' H', wlI Len x m o T' H' → T'.2.1 ≤ T.2.1 + 20 → T'.2.2.1 ≤ T.2.2.1 + 500 → WL kt CB SB X 1653 (wlL i x m o) [] T' H') : WL kt CB SB X 919 (wlL i x m o) [] T H := by
  obtain ⟨hW, g0, gx, gm, go, hK, hr⟩ := hI
  refine wl_of hX hb cL_919 (rw_aload_n (pc' := 920) (v := .ref x) rfl rfl rfl ?_)
  refine wl_of hX hb cL_920 (rw_aload_n (pc' := 921) (v := .ref 0) rfl rfl rfl ?_)
  refine wl_of hX hb cL_921 (rw_iload (pc' := 923) (z := i) rfl rfl ?_)
  refine wl_of hX hb cL_923 (rw_iconst (pc' := 924) rfl ?_)
  refine wl_of hX hb cL_924 (rw_iadd (pc' := 925) rfl ?_)
  refine wl_of hX hb cL_925 (xa_I (so := 0) (pc' := 926) (a := 0) hW g0 (wsh_s _) (by omega) (wty_s _ _) (by omega) (by omega) rfl (fun b227665 b227666 => ?_))
  refine wl_of hX hb cL_926 (xc_V (pc' := 929) (r := x) (as := [vI (H 0 ((i + 1).toNat))]) (st := []) (lm_11_118) rfl rfl (Nat.le_of_ble_eq_true rfl) hW gx sh_1 (by decide) rfl (by decide) (s_107 hW gx ⟨by omega, by omega⟩) (fun R227667 T227668 H227669 p227670 => ?_))
  obtain ⟨e227671, w227673, f227674, z227675, e227672, b227676⟩ := p227670
  subst e227671
  subst e227672
  show WL _ _ _ _ 929 [(4, vI i), (3, .ref o), (2, .ref m), (1, .ref x), (0, .ref 0)] [vI z227675] _ H227669
  refine wl_of hX hb cL_929 (rw_pop (pc' := 930) rfl rfl ?_)
  refine wl_of hX hb cL_930 (rw_aload_n (pc' := 931) (v := .ref m) rfl rfl rfl ?_)
  refine wl_of hX hb cL_931 (rw_aload_n (pc' := 932) (v := .ref 0) rfl rfl rfl ?_)
  refine wl_of hX hb cL_932 (rw_iload (pc' := 934) (z := i) rfl rfl ?_)
  refine wl_of hX hb cL_934 (rw_iconst (pc' := 935) rfl ?_)
  refine wl_of hX hb cL_935 (rw_iadd (pc' := 936) rfl ?_)
  have k227679 : H227669 0 ((i + 1).toNat) = H 0 ((i + 1).toNat) := (f227674 0 ((i + 1).toNat) _ g0 (wmem_s rfl))
  refine wl_of hX hb cL_936 (xa_I (so := 0) (pc' := 937) (a := 0) w227673 g0 (wsh_s _) (by omega) (wty_s _ _) (by omega) (by omega) rfl (fun b227677 b227678 => ?_))
  have k227680 : wKI H227669 m = wKI H m := (wKI_fr hW gm f227674 rfl)
  have k227681 : H227669 x 9 = H x 9 := (f227674 x 9 _ gx rfl)
  have k227682 : H227669 m 6 = H m 6 := (f227674 m 6 _ gm rfl)
  refine wl_of hX hb cL_937 (xc_V (pc' := 940) (r := m) (as := [vI (H227669 0 ((i + 1).toNat))]) (st := []) (lm_11_121) rfl rfl (Nat.le_of_ble_eq_true rfl) w227673 gm sh_42 (by decide) rfl (by decide) (s_256 w227673 gm ⟨by omega, by omega⟩ (by omega)) (fun R227683 T227684 H227685 p227686 => ?_))
  obtain ⟨e227687, w227689, f227690, z227692, e227688, b227693, p227691⟩ := p227686
  subst e227687
  subst e227688
  show WL _ _ _ _ 940 [(4, vI i), (3, .ref o), (2, .ref m), (1, .ref x), (0, .ref 0)] [vI z227692] _ H227685
  refine wl_of hX hb cL_940 (rw_pop (pc' := 941) rfl rfl ?_)
  refine wl_of hX hb cL_941 (rw_goto (p1 := 1653) (by decide) ?_)
  have k227694 : H227685 x 9 = H227669 x 9 := (f227690 x 9 _ gx rfl)
  have k227695 : H227685 m 6 = H227669 m 6 := (f227690 m 6 _ gm rfl)
  exact WL.loc hX (by simp) (next T H227685 ⟨w227689, g0, gx, gm, go, by omega, by omega⟩ (by omega) (by omega))
set_option maxHeartbeats 4000000 in
theorem wl_c24 {kt : Nat → Option mc_E} {CB SB : Nat} {X : mc_S → Prop} {T : wq_T} {H : wq_H} {Len x m o : Nat} {i : Int} (hX : wlX kt CB SB X) (hb : T.2.1 ≤ CB ∧ T.2.2.1 ≤ SB) (hI : wlI Len x m o T H) (hL : Len ≤ 3072) (hi : 0 ≤ i ∧ i + 6 ≤ Len) (hb2 : T.2.1 + 20 ≤ CB ∧ T.2.2.1 + 500 ≤ SB)  (next : ∀ T' H', wlI Len x m o T' H' → T'.2.1 ≤ T.2.1 + 20 → T'.2.2.1 ≤ T.2.2.1 + 500 → WL kt CB SB X 1653 (wlL i x m o) [] T' H') : WL kt CB SB X 944 (wlL i x m o) [] T H := by
  obtain ⟨hW, g0, gx, gm, go, hK, hr⟩ := hI
  refine wl_of hX hb cL_944 (rw_aload_n (pc' := 945) (v := .ref x) rfl rfl rfl ?_)
  refine wl_of hX hb cL_945 (xc_V (pc' := 948) (r := x) (as := []) (st := []) (lm_11_122) rfl rfl (Nat.le_of_ble_eq_true rfl) hW gx sh_1 (by decide) rfl (by decide) (s_108 hW gx) (fun R227696 T227697 H227698 p227699 => ?_))
  obtain ⟨e227700, w227702, f227703, z227704, e227701, b227705⟩ := p227699
  subst e227700
  subst e227701
  show WL _ _ _ _ 948 [(4, vI i), (3, .ref o), (2, .ref m), (1, .ref x), (0, .ref 0)] [vL z227704] _ H227698
  refine wl_of hX hb cL_948 (rw_pop2 (pc' := 949) rfl rfl ?_)
  refine wl_of hX hb cL_949 (rw_aload_n (pc' := 950) (v := .ref m) rfl rfl rfl ?_)
  have k227706 : wKI H227698 m = wKI H m := (wKI_fr hW gm f227703 rfl)
  have k227707 : H227698 x 9 = H x 9 := (f227703 x 9 _ gx rfl)
  have k227708 : H227698 m 6 = H m 6 := (f227703 m 6 _ gm rfl)
  refine wl_of hX hb cL_950 (xc_V (pc' := 953) (r := m) (as := []) (st := []) (lm_11_125) rfl rfl (Nat.le_of_ble_eq_true rfl) w227702 gm sh_42 (by decide) rfl (by decide) (s_258 w227702 gm (by omega)) (fun R227709 T227710 H227711 p227712 => ?_))
  obtain ⟨e227713, w227715, f227716, z227718, e227714, b227719, p227717⟩ := p227712
  subst e227713
  subst e227714
  show WL _ _ _ _ 953 [(4, vI i), (3, .ref o), (2, .ref m), (1, .ref x), (0, .ref 0)] [vL z227718] _ H227711
  refine wl_of hX hb cL_953 (rw_pop2 (pc' := 954) rfl rfl ?_)
  refine wl_of hX hb cL_954 (rw_goto (p1 := 1653) (by decide) ?_)
  have k227720 : H227711 x 9 = H227698 x 9 := (f227716 x 9 _ gx rfl)
  have k227721 : H227711 m 6 = H227698 m 6 := (f227716 m 6 _ gm rfl)
  exact WL.loc hX (by simp) (next T H227711 ⟨w227715, g0, gx, gm, go, by omega, by omega⟩ (by omega) (by omega))
set_option maxHeartbeats 4000000 in
theorem wl_c25 {kt : Nat → Option mc_E} {CB SB : Nat} {X : mc_S → Prop} {T : wq_T} {H : wq_H} {Len x m o : Nat} {i : Int} (hX : wlX kt CB SB X) (hb : T.2.1 ≤ CB ∧ T.2.2.1 ≤ SB) (hI : wlI Len x m o T H) (hL : Len ≤ 3072) (hi : 0 ≤ i ∧ i + 6 ≤ Len) (hb2 : T.2.1 + 20 ≤ CB ∧ T.2.2.1 + 500 ≤ SB)  (next : ∀ T' H', wlI Len x m o T' H' → T'.2.1 ≤ T.2.1 + 20 → T'.2.2.1 ≤ T.2.2.1 + 500 → WL kt CB SB X 1653 (wlL i x m o) [] T' H') : WL kt CB SB X 957 (wlL i x m o) [] T H := by
  obtain ⟨hW, g0, gx, gm, go, hK, hr⟩ := hI
  refine wl_of hX hb cL_957 (rw_aload_n (pc' := 958) (v := .ref x) rfl rfl rfl ?_)
  refine wl_of hX hb cL_958 (rw_aload_n (pc' := 959) (v := .ref 0) rfl rfl rfl ?_)
  refine wl_of hX hb cL_959 (rw_iload (pc' := 961) (z := i) rfl rfl ?_)
  refine wl_of hX hb cL_961 (rw_iconst (pc' := 962) rfl ?_)
  refine wl_of hX hb cL_962 (rw_iadd (pc' := 963) rfl ?_)
  refine wl_of hX hb cL_963 (xa_I (so := 0) (pc' := 964) (a := 0) hW g0 (wsh_s _) (by omega) (wty_s _ _) (by omega) (by omega) rfl (fun b227722 b227723 => ?_))
  refine wl_of hX hb cL_964 (rw_aload_n (pc' := 965) (v := .ref 0) rfl rfl rfl ?_)
  refine wl_of hX hb cL_965 (rw_iload (pc' := 967) (z := i) rfl rfl ?_)
  refine wl_of hX hb cL_967 (rw_iconst (pc' := 968) rfl ?_)
  refine wl_of hX hb cL_968 (rw_iadd (pc' := 969) rfl ?_)
  refine wl_of hX hb cL_969 (xa_I (so := 0) (pc' := 970) (a := 0) hW g0 (wsh_s _) (by omega) (wty_s _ _) (by omega) (by omega) rfl (fun b227724 b227725 => ?_))
  refine wl_of hX hb cL_970 (xc_V (pc' := 973) (r := x) (as := [vI (H 0 ((i + 1).toNat)), vI (H 0 ((i + 2).toNat))]) (st := []) (lm_11_126) rfl rfl (Nat.le_of_ble_eq_true rfl) hW gx sh_1 (by decide) rfl (by decide) (s_109 hW gx ⟨by omega, by omega⟩ ⟨by omega, by omega⟩) (fun R227726 T227727 H227728 p227729 => ?_))
  obtain ⟨e227730, w227732, f227733, z227734, e227731, b227735⟩ := p227729
  subst e227730
  subst e227731
  show WL _ _ _ _ 973 [(4, vI i), (3, .ref o), (2, .ref m), (1, .ref x), (0, .ref 0)] [vI z227734] _ H227728
  refine wl_of hX hb cL_973 (rw_pop (pc' := 974) rfl rfl ?_)
  refine wl_of hX hb cL_974 (rw_aload_n (pc' := 975) (v := .ref m) rfl rfl rfl ?_)
  refine wl_of hX hb cL_975 (rw_aload_n (pc' := 976) (v := .ref 0) rfl rfl rfl ?_)
  refine wl_of hX hb cL_976 (rw_iload (pc' := 978) (z := i) rfl rfl ?_)
  refine wl_of hX hb cL_978 (rw_iconst (pc' := 979) rfl ?_)
  refine wl_of hX hb cL_979 (rw_iadd (pc' := 980) rfl ?_)
  have k227738 : H227728 0 ((i + 1).toNat) = H 0 ((i + 1).toNat) := (f227733 0 ((i + 1).toNat) _ g0 (wmem_s rfl))
  refine wl_of hX hb cL_980 (xa_I (so := 0) (pc' := 981) (a := 0) w227732 g0 (wsh_s _) (by omega) (wty_s _ _) (by omega) (by omega) rfl (fun b227736 b227737 => ?_))
  refine wl_of hX hb cL_981 (rw_aload_n (pc' := 982) (v := .ref 0) rfl rfl rfl ?_)
  refine wl_of hX hb cL_982 (rw_iload (pc' := 984) (z := i) rfl rfl ?_)
  refine wl_of hX hb cL_984 (rw_iconst (pc' := 985) rfl ?_)
  refine wl_of hX hb cL_985 (rw_iadd (pc' := 986) rfl ?_)
  have k227741 : H227728 0 ((i + 2).toNat) = H 0 ((i + 2).toNat) := (f227733 0 ((i + 2).toNat) _ g0 (wmem_s rfl))
  refine wl_of hX hb cL_986 (xa_I (so := 0) (pc' := 987) (a := 0) w227732 g0 (wsh_s _) (by omega) (wty_s _ _) (by omega) (by omega) rfl (fun b227739 b227740 => ?_))
  have k227742 : wKI H227728 m = wKI H m := (wKI_fr hW gm f227733 rfl)
  have k227743 : H227728 x 9 = H x 9 := (f227733 x 9 _ gx rfl)
  have k227744 : H227728 m 6 = H m 6 := (f227733 m 6 _ gm rfl)
  refine wl_of hX hb cL_987 (xc_V (pc' := 990) (r := m) (as := [vI (H227728 0 ((i + 1).toNat)), vI (H227728 0 ((i + 2).toNat))]) (st := []) (lm_11_129) rfl rfl (Nat.le_of_ble_eq_true rfl) w227732 gm sh_42 (by decide) rfl (by decide) (s_259 w227732 gm ⟨by omega, by omega⟩ ⟨by omega, by omega⟩ (by omega)) (fun R227745 T227746 H227747 p227748 => ?_))
  obtain ⟨e227749, w227751, f227752, z227754, e227750, b227755, p227753⟩ := p227748
  subst e227749
  subst e227750
  show WL _ _ _ _ 990 [(4, vI i), (3, .ref o), (2, .ref m), (1, .ref x), (0, .ref 0)] [vI z227754] _ H227747
  refine wl_of hX hb cL_990 (rw_pop (pc' := 991) rfl rfl ?_)
  refine wl_of hX hb cL_991 (rw_goto (p1 := 1653) (by decide) ?_)
  have k227756 : H227747 x 9 = H227728 x 9 := (f227752 x 9 _ gx rfl)
  have k227757 : H227747 m 6 = H227728 m 6 := (f227752 m 6 _ gm rfl)
  exact WL.loc hX (by simp) (next T H227747 ⟨w227751, g0, gx, gm, go, by omega, by omega⟩ (by omega) (by omega))
set_option maxHeartbeats 4000000 in
theorem wl_c26 {kt : Nat → Option mc_E} {CB SB : Nat} {X : mc_S → Prop} {T : wq_T} {H : wq_H} {Len x m o : Nat} {i : Int} (hX : wlX kt CB SB X) (hb : T.2.1 ≤ CB ∧ T.2.2.1 ≤ SB) (hI : wlI Len x m o T H) (hL : Len ≤ 3072) (hi : 0 ≤ i ∧ i + 6 ≤ Len) (hb2 : T.2.1 + 20 ≤ CB ∧ T.2.2.1 + 500 ≤ SB)  (next : ∀ T' H', wlI Len x m o T' H' → T'.2.1 ≤ T.2.1 + 20 → T'.2.2.1 ≤ T.2.2.1 + 500 → WL kt CB SB X 1653 (wlL i x m o) [] T' H') : WL kt CB SB X 994 (wlL i x m o) [] T H := by
  obtain ⟨hW, g0, gx, gm, go, hK, hr⟩ := hI
  refine wl_of hX hb cL_994 (rw_aload_n (pc' := 995) (v := .ref x) rfl rfl rfl ?_)
  refine wl_of hX hb cL_995 (rw_aload_n (pc' := 996) (v := .ref 0) rfl rfl rfl ?_)
  refine wl_of hX hb cL_996 (rw_iload (pc' := 998) (z := i) rfl rfl ?_)
  refine wl_of hX hb cL_998 (rw_iconst (pc' := 999) rfl ?_)
  refine wl_of hX hb cL_999 (rw_iadd (pc' := 1000) rfl ?_)
  refine wl_of hX hb cL_1000 (xa_I (so := 0) (pc' := 1001) (a := 0) hW g0 (wsh_s _) (by omega) (wty_s _ _) (by omega) (by omega) rfl (fun b227758 b227759 => ?_))
  refine wl_of hX hb cL_1001 (xc_V (pc' := 1004) (r := x) (as := [vI (H 0 ((i + 1).toNat))]) (st := []) (lm_11_130) rfl rfl (Nat.le_of_ble_eq_true rfl) hW gx sh_1 (by decide) rfl (by decide) (s_112 hW gx ⟨by omega, by omega⟩) (fun R227760 T227761 H227762 p227763 => ?_))
  obtain ⟨e227764, w227766, f227767, z227768, e227765, b227769⟩ := p227763
  subst e227764
  subst e227765
  show WL _ _ _ _ 1004 [(4, vI i), (3, .ref o), (2, .ref m), (1, .ref x), (0, .ref 0)] [vL z227768] _ H227762
  refine wl_of hX hb cL_1004 (rw_pop2 (pc' := 1005) rfl rfl ?_)
  refine wl_of hX hb cL_1005 (rw_aload_n (pc' := 1006) (v := .ref m) rfl rfl rfl ?_)
  refine wl_of hX hb cL_1006 (rw_aload_n (pc' := 1007) (v := .ref 0) rfl rfl rfl ?_)
  refine wl_of hX hb cL_1007 (rw_iload (pc' := 1009) (z := i) rfl rfl ?_)
  refine wl_of hX hb cL_1009 (rw_iconst (pc' := 1010) rfl ?_)
  refine wl_of hX hb cL_1010 (rw_iadd (pc' := 1011) rfl ?_)
  have k227772 : H227762 0 ((i + 1).toNat) = H 0 ((i + 1).toNat) := (f227767 0 ((i + 1).toNat) _ g0 (wmem_s rfl))
  refine wl_of hX hb cL_1011 (xa_I (so := 0) (pc' := 1012) (a := 0) w227766 g0 (wsh_s _) (by omega) (wty_s _ _) (by omega) (by omega) rfl (fun b227770 b227771 => ?_))
  have k227773 : wKI H227762 m = wKI H m := (wKI_fr hW gm f227767 rfl)
  have k227774 : H227762 x 9 = H x 9 := (f227767 x 9 _ gx rfl)
  have k227775 : H227762 m 6 = H m 6 := (f227767 m 6 _ gm rfl)
  refine wl_of hX hb cL_1012 (xc_V (pc' := 1015) (r := m) (as := [vI (H227762 0 ((i + 1).toNat))]) (st := []) (lm_11_134) rfl rfl (Nat.le_of_ble_eq_true rfl) w227766 gm sh_42 (by decide) rfl (by decide) (s_260 w227766 gm ⟨by omega, by omega⟩ (by omega)) (fun R227776 T227777 H227778 p227779 => ?_))
  obtain ⟨e227780, w227782, f227783, z227785, e227781, b227786, p227784⟩ := p227779
  subst e227780
  subst e227781
  show WL _ _ _ _ 1015 [(4, vI i), (3, .ref o), (2, .ref m), (1, .ref x), (0, .ref 0)] [vL z227785] _ H227778
  refine wl_of hX hb cL_1015 (rw_pop2 (pc' := 1016) rfl rfl ?_)
  refine wl_of hX hb cL_1016 (rw_goto (p1 := 1653) (by decide) ?_)
  have k227787 : H227778 x 9 = H227762 x 9 := (f227783 x 9 _ gx rfl)
  have k227788 : H227778 m 6 = H227762 m 6 := (f227783 m 6 _ gm rfl)
  exact WL.loc hX (by simp) (next T H227778 ⟨w227782, g0, gx, gm, go, by omega, by omega⟩ (by omega) (by omega))
set_option maxHeartbeats 4000000 in
theorem wl_c27 {kt : Nat → Option mc_E} {CB SB : Nat} {X : mc_S → Prop} {T : wq_T} {H : wq_H} {Len x m o : Nat} {i : Int} (hX : wlX kt CB SB X) (hb : T.2.1 ≤ CB ∧ T.2.2.1 ≤ SB) (hI : wlI Len x m o T H) (hL : Len ≤ 3072) (hi : 0 ≤ i ∧ i + 6 ≤ Len) (hb2 : T.2.1 + 20 ≤ CB ∧ T.2.2.1 + 500 ≤ SB)  (next : ∀ T' H', wlI Len x m o T' H' → T'.2.1 ≤ T.2.1 + 20 → T'.2.2.1 ≤ T.2.2.1 + 500 → WL kt CB SB X 1653 (wlL i x m o) [] T' H') : WL kt CB SB X 1019 (wlL i x m o) [] T H := by
  obtain ⟨hW, g0, gx, gm, go, hK, hr⟩ := hI
  refine wl_of hX hb cL_1019 (rw_aload_n (pc' := 1020) (v := .ref x) rfl rfl rfl ?_)
  refine wl_of hX hb cL_1020 (rw_aload_n (pc' := 1021) (v := .ref 0) rfl rfl rfl ?_)
  refine wl_of hX hb cL_1021 (rw_iload (pc' := 1023) (z := i) rfl rfl ?_)
  refine wl_of hX hb cL_1023 (rw_iconst (pc' := 1024) rfl ?_)
  refine wl_of hX hb cL_1024 (rw_iadd (pc' := 1025) rfl ?_)
  refine wl_of hX hb cL_1025 (xa_I (so := 0) (pc' := 1026) (a := 0) hW g0 (wsh_s _) (by omega) (wty_s _ _) (by omega) (by omega) rfl (fun b227789 b227790 => ?_))
  refine wl_of hX hb cL_1026 (rw_aload_n (pc' := 1027) (v := .ref 0) rfl rfl rfl ?_)
  refine wl_of hX hb cL_1027 (rw_iload (pc' := 1029) (z := i) rfl rfl ?_)
  refine wl_of hX hb cL_1029 (rw_iconst (pc' := 1030) rfl ?_)
  refine wl_of hX hb cL_1030 (rw_iadd (pc' := 1031) rfl ?_)
  refine wl_of hX hb cL_1031 (xa_I (so := 0) (pc' := 1032) (a := 0) hW g0 (wsh_s _) (by omega) (wty_s _ _) (by omega) (by omega) rfl (fun b227791 b227792 => ?_))
  refine wl_of hX hb cL_1032 (xc_V (pc' := 1035) (r := x) (as := [vI (H 0 ((i + 1).toNat)), vI (H 0 ((i + 2).toNat))]) (st := []) (lm_11_135) rfl rfl (Nat.le_of_ble_eq_true rfl) hW gx sh_1 (by decide) rfl (by decide) (s_114 hW gx ⟨by omega, by omega⟩ ⟨by omega, by omega⟩) (fun R227793 T227794 H227795 p227796 => ?_))
  obtain ⟨e227797, w227799, f227800, z227801, e227798, b227802⟩ := p227796
  subst e227797
  subst e227798
  show WL _ _ _ _ 1035 [(4, vI i), (3, .ref o), (2, .ref m), (1, .ref x), (0, .ref 0)] [vI z227801] _ H227795
  refine wl_of hX hb cL_1035 (rw_pop (pc' := 1036) rfl rfl ?_)
  refine wl_of hX hb cL_1036 (rw_aload_n (pc' := 1037) (v := .ref m) rfl rfl rfl ?_)
  refine wl_of hX hb cL_1037 (rw_aload_n (pc' := 1038) (v := .ref 0) rfl rfl rfl ?_)
  refine wl_of hX hb cL_1038 (rw_iload (pc' := 1040) (z := i) rfl rfl ?_)
  refine wl_of hX hb cL_1040 (rw_iconst (pc' := 1041) rfl ?_)
  refine wl_of hX hb cL_1041 (rw_iadd (pc' := 1042) rfl ?_)
  have k227805 : H227795 0 ((i + 1).toNat) = H 0 ((i + 1).toNat) := (f227800 0 ((i + 1).toNat) _ g0 (wmem_s rfl))
  refine wl_of hX hb cL_1042 (xa_I (so := 0) (pc' := 1043) (a := 0) w227799 g0 (wsh_s _) (by omega) (wty_s _ _) (by omega) (by omega) rfl (fun b227803 b227804 => ?_))
  refine wl_of hX hb cL_1043 (rw_aload_n (pc' := 1044) (v := .ref 0) rfl rfl rfl ?_)
  refine wl_of hX hb cL_1044 (rw_iload (pc' := 1046) (z := i) rfl rfl ?_)
  refine wl_of hX hb cL_1046 (rw_iconst (pc' := 1047) rfl ?_)
  refine wl_of hX hb cL_1047 (rw_iadd (pc' := 1048) rfl ?_)
  have k227808 : H227795 0 ((i + 2).toNat) = H 0 ((i + 2).toNat) := (f227800 0 ((i + 2).toNat) _ g0 (wmem_s rfl))
  refine wl_of hX hb cL_1048 (xa_I (so := 0) (pc' := 1049) (a := 0) w227799 g0 (wsh_s _) (by omega) (wty_s _ _) (by omega) (by omega) rfl (fun b227806 b227807 => ?_))
  have k227809 : wKI H227795 m = wKI H m := (wKI_fr hW gm f227800 rfl)
  have k227810 : H227795 x 9 = H x 9 := (f227800 x 9 _ gx rfl)
  have k227811 : H227795 m 6 = H m 6 := (f227800 m 6 _ gm rfl)
  refine wl_of hX hb cL_1049 (xc_V (pc' := 1052) (r := m) (as := [vI (H227795 0 ((i + 1).toNat)), vI (H227795 0 ((i + 2).toNat))]) (st := []) (lm_11_138) rfl rfl (Nat.le_of_ble_eq_true rfl) w227799 gm sh_42 (by decide) rfl (by decide) (s_261 w227799 gm ⟨by omega, by omega⟩ ⟨by omega, by omega⟩ (by omega)) (fun R227812 T227813 H227814 p227815 => ?_))
  obtain ⟨e227816, w227818, f227819, z227821, e227817, b227822, p227820⟩ := p227815
  subst e227816
  subst e227817
  show WL _ _ _ _ 1052 [(4, vI i), (3, .ref o), (2, .ref m), (1, .ref x), (0, .ref 0)] [vI z227821] _ H227814
  refine wl_of hX hb cL_1052 (rw_pop (pc' := 1053) rfl rfl ?_)
  refine wl_of hX hb cL_1053 (rw_goto (p1 := 1653) (by decide) ?_)
  have k227823 : H227814 x 9 = H227795 x 9 := (f227819 x 9 _ gx rfl)
  have k227824 : H227814 m 6 = H227795 m 6 := (f227819 m 6 _ gm rfl)
  exact WL.loc hX (by simp) (next T H227814 ⟨w227818, g0, gx, gm, go, by omega, by omega⟩ (by omega) (by omega))
set_option maxHeartbeats 4000000 in
theorem wl_c28 {kt : Nat → Option mc_E} {CB SB : Nat} {X : mc_S → Prop} {T : wq_T} {H : wq_H} {Len x m o : Nat} {i : Int} (hX : wlX kt CB SB X) (hb : T.2.1 ≤ CB ∧ T.2.2.1 ≤ SB) (hI : wlI Len x m o T H) (hL : Len ≤ 3072) (hi : 0 ≤ i ∧ i + 6 ≤ Len) (hb2 : T.2.1 + 20 ≤ CB ∧ T.2.2.1 + 500 ≤ SB)  (next : ∀ T' H', wlI Len x m o T' H' → T'.2.1 ≤ T.2.1 + 20 → T'.2.2.1 ≤ T.2.2.1 + 500 → WL kt CB SB X 1653 (wlL i x m o) [] T' H') : WL kt CB SB X 1056 (wlL i x m o) [] T H := by
  obtain ⟨hW, g0, gx, gm, go, hK, hr⟩ := hI
  refine wl_of hX hb cL_1056 (rw_aload_n (pc' := 1057) (v := .ref x) rfl rfl rfl ?_)
  refine wl_of hX hb cL_1057 (rw_aload_n (pc' := 1058) (v := .ref 0) rfl rfl rfl ?_)
  refine wl_of hX hb cL_1058 (rw_iload (pc' := 1060) (z := i) rfl rfl ?_)
  refine wl_of hX hb cL_1060 (rw_iconst (pc' := 1061) rfl ?_)
  refine wl_of hX hb cL_1061 (rw_iadd (pc' := 1062) rfl ?_)
  refine wl_of hX hb cL_1062 (xa_I (so := 0) (pc' := 1063) (a := 0) hW g0 (wsh_s _) (by omega) (wty_s _ _) (by omega) (by omega) rfl (fun b227825 b227826 => ?_))
  refine wl_of hX hb cL_1063 (rw_aload_n (pc' := 1064) (v := .ref 0) rfl rfl rfl ?_)
  refine wl_of hX hb cL_1064 (rw_iload (pc' := 1066) (z := i) rfl rfl ?_)
  refine wl_of hX hb cL_1066 (rw_iconst (pc' := 1067) rfl ?_)
  refine wl_of hX hb cL_1067 (rw_iadd (pc' := 1068) rfl ?_)
  refine wl_of hX hb cL_1068 (xa_I (so := 0) (pc' := 1069) (a := 0) hW g0 (wsh_s _) (by omega) (wty_s _ _) (by omega) (by omega) rfl (fun b227827 b227828 => ?_))
  refine wl_of hX hb cL_1069 (rw_if_eq (p1 := 1076) (p2 := 1072) (by decide) rfl ⟨by omega, by omega⟩ (fun c227829 => ?_) (fun c227829 => ?_))
  · refine wl_of hX hb cL_1076 (rw_iconst (pc' := 1077) rfl ?_)
    refine wl_of hX hb cL_1077 (xc_V (pc' := 1080) (r := x) (as := [vI (H 0 ((i + 1).toNat)), vI 0]) (st := []) (lm_11_139) rfl rfl (Nat.le_of_ble_eq_true rfl) hW gx sh_1 (by decide) rfl (by decide) (s_117 hW gx ⟨by omega, by omega⟩ ⟨by omega, by omega⟩) (fun R227830 T227831 H227832 p227833 => ?_))
    obtain ⟨e227834, w227836, f227837, z227838, e227835, b227839⟩ := p227833
    subst e227834
    subst e227835
    show WL _ _ _ _ 1080 [(4, vI i), (3, .ref o), (2, .ref m), (1, .ref x), (0, .ref 0)] [vI z227838] _ H227832
    refine wl_of hX hb cL_1080 (rw_pop (pc' := 1081) rfl rfl ?_)
    refine wl_of hX hb cL_1081 (rw_aload_n (pc' := 1082) (v := .ref m) rfl rfl rfl ?_)
    refine wl_of hX hb cL_1082 (rw_aload_n (pc' := 1083) (v := .ref 0) rfl rfl rfl ?_)
    refine wl_of hX hb cL_1083 (rw_iload (pc' := 1085) (z := i) rfl rfl ?_)
    refine wl_of hX hb cL_1085 (rw_iconst (pc' := 1086) rfl ?_)
    refine wl_of hX hb cL_1086 (rw_iadd (pc' := 1087) rfl ?_)
    have k227842 : H227832 0 ((i + 1).toNat) = H 0 ((i + 1).toNat) := (f227837 0 ((i + 1).toNat) _ g0 (wmem_s rfl))
    refine wl_of hX hb cL_1087 (xa_I (so := 0) (pc' := 1088) (a := 0) w227836 g0 (wsh_s _) (by omega) (wty_s _ _) (by omega) (by omega) rfl (fun b227840 b227841 => ?_))
    refine wl_of hX hb cL_1088 (rw_aload_n (pc' := 1089) (v := .ref 0) rfl rfl rfl ?_)
    refine wl_of hX hb cL_1089 (rw_iload (pc' := 1091) (z := i) rfl rfl ?_)
    refine wl_of hX hb cL_1091 (rw_iconst (pc' := 1092) rfl ?_)
    refine wl_of hX hb cL_1092 (rw_iadd (pc' := 1093) rfl ?_)
    have k227845 : H227832 0 ((i + 2).toNat) = H 0 ((i + 2).toNat) := (f227837 0 ((i + 2).toNat) _ g0 (wmem_s rfl))
    refine wl_of hX hb cL_1093 (xa_I (so := 0) (pc' := 1094) (a := 0) w227836 g0 (wsh_s _) (by omega) (wty_s _ _) (by omega) (by omega) rfl (fun b227843 b227844 => ?_))
    refine wl_of hX hb cL_1094 (rw_if_eq (p1 := 1101) (p2 := 1097) (by decide) rfl ⟨by omega, by omega⟩ (fun c227846 => ?_) (fun c227846 => ?_))
    · refine wl_of hX hb cL_1101 (rw_iconst (pc' := 1102) rfl ?_)
      have k227847 : wKI H227832 m = wKI H m := (wKI_fr hW gm f227837 rfl)
      have k227848 : H227832 x 9 = H x 9 := (f227837 x 9 _ gx rfl)
      have k227849 : H227832 m 6 = H m 6 := (f227837 m 6 _ gm rfl)
      refine wl_of hX hb cL_1102 (xc_V (pc' := 1105) (r := m) (as := [vI (H227832 0 ((i + 1).toNat)), vI 0]) (st := []) (lm_11_142) rfl rfl (Nat.le_of_ble_eq_true rfl) w227836 gm sh_42 (by decide) rfl (by decide) (s_263 w227836 gm ⟨by omega, by omega⟩ ⟨by omega, by omega⟩ (by omega)) (fun R227850 T227851 H227852 p227853 => ?_))
      obtain ⟨e227854, w227856, f227857, z227859, e227855, b227860, p227858⟩ := p227853
      subst e227854
      subst e227855
      show WL _ _ _ _ 1105 [(4, vI i), (3, .ref o), (2, .ref m), (1, .ref x), (0, .ref 0)] [vI z227859] _ H227852
      refine wl_of hX hb cL_1105 (rw_pop (pc' := 1106) rfl rfl ?_)
      refine wl_of hX hb cL_1106 (rw_goto (p1 := 1653) (by decide) ?_)
      have k227861 : H227852 x 9 = H227832 x 9 := (f227857 x 9 _ gx rfl)
      have k227862 : H227852 m 6 = H227832 m 6 := (f227857 m 6 _ gm rfl)
      exact WL.loc hX (by simp) (next T H227852 ⟨w227856, g0, gx, gm, go, by omega, by omega⟩ (by omega) (by omega))
    · exfalso
      omega
  · refine wl_of hX hb cL_1072 (rw_iconst (pc' := 1073) rfl ?_)
    refine wl_of hX hb cL_1073 (rw_goto (p1 := 1077) (by decide) ?_)
    refine wl_of hX hb cL_1077 (xc_V (pc' := 1080) (r := x) (as := [vI (H 0 ((i + 1).toNat)), vI 1]) (st := []) (lm_11_139) rfl rfl (Nat.le_of_ble_eq_true rfl) hW gx sh_1 (by decide) rfl (by decide) (s_117 hW gx ⟨by omega, by omega⟩ ⟨by omega, by omega⟩) (fun R227863 T227864 H227865 p227866 => ?_))
    obtain ⟨e227867, w227869, f227870, z227871, e227868, b227872⟩ := p227866
    subst e227867
    subst e227868
    show WL _ _ _ _ 1080 [(4, vI i), (3, .ref o), (2, .ref m), (1, .ref x), (0, .ref 0)] [vI z227871] _ H227865
    refine wl_of hX hb cL_1080 (rw_pop (pc' := 1081) rfl rfl ?_)
    refine wl_of hX hb cL_1081 (rw_aload_n (pc' := 1082) (v := .ref m) rfl rfl rfl ?_)
    refine wl_of hX hb cL_1082 (rw_aload_n (pc' := 1083) (v := .ref 0) rfl rfl rfl ?_)
    refine wl_of hX hb cL_1083 (rw_iload (pc' := 1085) (z := i) rfl rfl ?_)
    refine wl_of hX hb cL_1085 (rw_iconst (pc' := 1086) rfl ?_)
    refine wl_of hX hb cL_1086 (rw_iadd (pc' := 1087) rfl ?_)
    have k227875 : H227865 0 ((i + 1).toNat) = H 0 ((i + 1).toNat) := (f227870 0 ((i + 1).toNat) _ g0 (wmem_s rfl))
    refine wl_of hX hb cL_1087 (xa_I (so := 0) (pc' := 1088) (a := 0) w227869 g0 (wsh_s _) (by omega) (wty_s _ _) (by omega) (by omega) rfl (fun b227873 b227874 => ?_))
    refine wl_of hX hb cL_1088 (rw_aload_n (pc' := 1089) (v := .ref 0) rfl rfl rfl ?_)
    refine wl_of hX hb cL_1089 (rw_iload (pc' := 1091) (z := i) rfl rfl ?_)
    refine wl_of hX hb cL_1091 (rw_iconst (pc' := 1092) rfl ?_)
    refine wl_of hX hb cL_1092 (rw_iadd (pc' := 1093) rfl ?_)
    have k227878 : H227865 0 ((i + 2).toNat) = H 0 ((i + 2).toNat) := (f227870 0 ((i + 2).toNat) _ g0 (wmem_s rfl))
    refine wl_of hX hb cL_1093 (xa_I (so := 0) (pc' := 1094) (a := 0) w227869 g0 (wsh_s _) (by omega) (wty_s _ _) (by omega) (by omega) rfl (fun b227876 b227877 => ?_))
    refine wl_of hX hb cL_1094 (rw_if_eq (p1 := 1101) (p2 := 1097) (by decide) rfl ⟨by omega, by omega⟩ (fun c227879 => ?_) (fun c227879 => ?_))
    · refine wl_of hX hb cL_1101 (rw_iconst (pc' := 1102) rfl ?_)
      have k227880 : wKI H227865 m = wKI H m := (wKI_fr hW gm f227870 rfl)
      have k227881 : H227865 x 9 = H x 9 := (f227870 x 9 _ gx rfl)
      have k227882 : H227865 m 6 = H m 6 := (f227870 m 6 _ gm rfl)
      refine wl_of hX hb cL_1102 (xc_V (pc' := 1105) (r := m) (as := [vI (H227865 0 ((i + 1).toNat)), vI 0]) (st := []) (lm_11_142) rfl rfl (Nat.le_of_ble_eq_true rfl) w227869 gm sh_42 (by decide) rfl (by decide) (s_263 w227869 gm ⟨by omega, by omega⟩ ⟨by omega, by omega⟩ (by omega)) (fun R227883 T227884 H227885 p227886 => ?_))
      obtain ⟨e227887, w227889, f227890, z227892, e227888, b227893, p227891⟩ := p227886
      subst e227887
      subst e227888
      show WL _ _ _ _ 1105 [(4, vI i), (3, .ref o), (2, .ref m), (1, .ref x), (0, .ref 0)] [vI z227892] _ H227885
      refine wl_of hX hb cL_1105 (rw_pop (pc' := 1106) rfl rfl ?_)
      refine wl_of hX hb cL_1106 (rw_goto (p1 := 1653) (by decide) ?_)
      have k227894 : H227885 x 9 = H227865 x 9 := (f227890 x 9 _ gx rfl)
      have k227895 : H227885 m 6 = H227865 m 6 := (f227890 m 6 _ gm rfl)
      exact WL.loc hX (by simp) (next T H227885 ⟨w227889, g0, gx, gm, go, by omega, by omega⟩ (by omega) (by omega))
    · refine wl_of hX hb cL_1097 (rw_iconst (pc' := 1098) rfl ?_)
      refine wl_of hX hb cL_1098 (rw_goto (p1 := 1102) (by decide) ?_)
      have k227896 : wKI H227865 m = wKI H m := (wKI_fr hW gm f227870 rfl)
      have k227897 : H227865 x 9 = H x 9 := (f227870 x 9 _ gx rfl)
      have k227898 : H227865 m 6 = H m 6 := (f227870 m 6 _ gm rfl)
      refine wl_of hX hb cL_1102 (xc_V (pc' := 1105) (r := m) (as := [vI (H227865 0 ((i + 1).toNat)), vI 1]) (st := []) (lm_11_142) rfl rfl (Nat.le_of_ble_eq_true rfl) w227869 gm sh_42 (by decide) rfl (by decide) (s_263 w227869 gm ⟨by omega, by omega⟩ ⟨by omega, by omega⟩ (by omega)) (fun R227899 T227900 H227901 p227902 => ?_))
      obtain ⟨e227903, w227905, f227906, z227908, e227904, b227909, p227907⟩ := p227902
      subst e227903
      subst e227904
      show WL _ _ _ _ 1105 [(4, vI i), (3, .ref o), (2, .ref m), (1, .ref x), (0, .ref 0)] [vI z227908] _ H227901
      refine wl_of hX hb cL_1105 (rw_pop (pc' := 1106) rfl rfl ?_)
      refine wl_of hX hb cL_1106 (rw_goto (p1 := 1653) (by decide) ?_)
      have k227910 : H227901 x 9 = H227865 x 9 := (f227906 x 9 _ gx rfl)
      have k227911 : H227901 m 6 = H227865 m 6 := (f227906 m 6 _ gm rfl)
      exact WL.loc hX (by simp) (next T H227901 ⟨w227905, g0, gx, gm, go, by omega, by omega⟩ (by omega) (by omega))
set_option maxHeartbeats 4000000 in
theorem wl_c29 {kt : Nat → Option mc_E} {CB SB : Nat} {X : mc_S → Prop} {T : wq_T} {H : wq_H} {Len x m o : Nat} {i : Int} (hX : wlX kt CB SB X) (hb : T.2.1 ≤ CB ∧ T.2.2.1 ≤ SB) (hI : wlI Len x m o T H) (hL : Len ≤ 3072) (hi : 0 ≤ i ∧ i + 6 ≤ Len) (hb2 : T.2.1 + 20 ≤ CB ∧ T.2.2.1 + 500 ≤ SB)  (next : ∀ T' H', wlI Len x m o T' H' → T'.2.1 ≤ T.2.1 + 20 → T'.2.2.1 ≤ T.2.2.1 + 500 → WL kt CB SB X 1653 (wlL i x m o) [] T' H') : WL kt CB SB X 1109 (wlL i x m o) [] T H := by
  obtain ⟨hW, g0, gx, gm, go, hK, hr⟩ := hI
  refine wl_of hX hb cL_1109 (rw_aload_n (pc' := 1110) (v := .ref x) rfl rfl rfl ?_)
  refine wl_of hX hb cL_1110 (rw_aload_n (pc' := 1111) (v := .ref 0) rfl rfl rfl ?_)
  refine wl_of hX hb cL_1111 (rw_iload (pc' := 1113) (z := i) rfl rfl ?_)
  refine wl_of hX hb cL_1113 (rw_iconst (pc' := 1114) rfl ?_)
  refine wl_of hX hb cL_1114 (rw_iadd (pc' := 1115) rfl ?_)
  refine wl_of hX hb cL_1115 (xa_I (so := 0) (pc' := 1116) (a := 0) hW g0 (wsh_s _) (by omega) (wty_s _ _) (by omega) (by omega) rfl (fun b227912 b227913 => ?_))
  refine wl_of hX hb cL_1116 (rw_aload_n (pc' := 1117) (v := .ref 0) rfl rfl rfl ?_)
  refine wl_of hX hb cL_1117 (rw_iload (pc' := 1119) (z := i) rfl rfl ?_)
  refine wl_of hX hb cL_1119 (rw_iconst (pc' := 1120) rfl ?_)
  refine wl_of hX hb cL_1120 (rw_iadd (pc' := 1121) rfl ?_)
  refine wl_of hX hb cL_1121 (xa_I (so := 0) (pc' := 1122) (a := 0) hW g0 (wsh_s _) (by omega) (wty_s _ _) (by omega) (by omega) rfl (fun b227914 b227915 => ?_))
  refine wl_of hX hb cL_1122 (rw_if_eq (p1 := 1129) (p2 := 1125) (by decide) rfl ⟨by omega, by omega⟩ (fun c227916 => ?_) (fun c227916 => ?_))
  · refine wl_of hX hb cL_1129 (rw_iconst (pc' := 1130) rfl ?_)
    refine wl_of hX hb cL_1130 (xc_V (pc' := 1133) (r := x) (as := [vI (H 0 ((i + 1).toNat)), vI 0]) (st := []) (lm_11_143) rfl rfl (Nat.le_of_ble_eq_true rfl) hW gx sh_1 (by decide) rfl (by decide) (s_119 hW gx ⟨by omega, by omega⟩ ⟨by omega, by omega⟩) (fun R227917 T227918 H227919 p227920 => ?_))
    obtain ⟨e227921, w227923, f227924, z227925, e227922, b227926⟩ := p227920
    subst e227921
    subst e227922
    show WL _ _ _ _ 1133 [(4, vI i), (3, .ref o), (2, .ref m), (1, .ref x), (0, .ref 0)] [vI z227925] _ H227919
    refine wl_of hX hb cL_1133 (rw_pop (pc' := 1134) rfl rfl ?_)
    refine wl_of hX hb cL_1134 (rw_aload_n (pc' := 1135) (v := .ref m) rfl rfl rfl ?_)
    refine wl_of hX hb cL_1135 (rw_aload_n (pc' := 1136) (v := .ref 0) rfl rfl rfl ?_)
    refine wl_of hX hb cL_1136 (rw_iload (pc' := 1138) (z := i) rfl rfl ?_)
    refine wl_of hX hb cL_1138 (rw_iconst (pc' := 1139) rfl ?_)
    refine wl_of hX hb cL_1139 (rw_iadd (pc' := 1140) rfl ?_)
    have k227929 : H227919 0 ((i + 1).toNat) = H 0 ((i + 1).toNat) := (f227924 0 ((i + 1).toNat) _ g0 (wmem_s rfl))
    refine wl_of hX hb cL_1140 (xa_I (so := 0) (pc' := 1141) (a := 0) w227923 g0 (wsh_s _) (by omega) (wty_s _ _) (by omega) (by omega) rfl (fun b227927 b227928 => ?_))
    refine wl_of hX hb cL_1141 (rw_aload_n (pc' := 1142) (v := .ref 0) rfl rfl rfl ?_)
    refine wl_of hX hb cL_1142 (rw_iload (pc' := 1144) (z := i) rfl rfl ?_)
    refine wl_of hX hb cL_1144 (rw_iconst (pc' := 1145) rfl ?_)
    refine wl_of hX hb cL_1145 (rw_iadd (pc' := 1146) rfl ?_)
    have k227932 : H227919 0 ((i + 2).toNat) = H 0 ((i + 2).toNat) := (f227924 0 ((i + 2).toNat) _ g0 (wmem_s rfl))
    refine wl_of hX hb cL_1146 (xa_I (so := 0) (pc' := 1147) (a := 0) w227923 g0 (wsh_s _) (by omega) (wty_s _ _) (by omega) (by omega) rfl (fun b227930 b227931 => ?_))
    refine wl_of hX hb cL_1147 (rw_if_eq (p1 := 1154) (p2 := 1150) (by decide) rfl ⟨by omega, by omega⟩ (fun c227933 => ?_) (fun c227933 => ?_))
    · refine wl_of hX hb cL_1154 (rw_iconst (pc' := 1155) rfl ?_)
      have k227934 : wKI H227919 m = wKI H m := (wKI_fr hW gm f227924 rfl)
      have k227935 : H227919 x 9 = H x 9 := (f227924 x 9 _ gx rfl)
      have k227936 : H227919 m 6 = H m 6 := (f227924 m 6 _ gm rfl)
      refine wl_of hX hb cL_1155 (xc_V (pc' := 1158) (r := m) (as := [vI (H227919 0 ((i + 1).toNat)), vI 0]) (st := []) (lm_11_146) rfl rfl (Nat.le_of_ble_eq_true rfl) w227923 gm sh_42 (by decide) rfl (by decide) (s_265 w227923 gm ⟨by omega, by omega⟩ ⟨by omega, by omega⟩ (by omega)) (fun R227937 T227938 H227939 p227940 => ?_))
      obtain ⟨e227941, w227943, f227944, z227946, e227942, b227947, p227945⟩ := p227940
      subst e227941
      subst e227942
      show WL _ _ _ _ 1158 [(4, vI i), (3, .ref o), (2, .ref m), (1, .ref x), (0, .ref 0)] [vI z227946] _ H227939
      refine wl_of hX hb cL_1158 (rw_pop (pc' := 1159) rfl rfl ?_)
      refine wl_of hX hb cL_1159 (rw_goto (p1 := 1653) (by decide) ?_)
      have k227948 : H227939 x 9 = H227919 x 9 := (f227944 x 9 _ gx rfl)
      have k227949 : H227939 m 6 = H227919 m 6 := (f227944 m 6 _ gm rfl)
      exact WL.loc hX (by simp) (next T H227939 ⟨w227943, g0, gx, gm, go, by omega, by omega⟩ (by omega) (by omega))
    · exfalso
      omega
  · refine wl_of hX hb cL_1125 (rw_iconst (pc' := 1126) rfl ?_)
    refine wl_of hX hb cL_1126 (rw_goto (p1 := 1130) (by decide) ?_)
    refine wl_of hX hb cL_1130 (xc_V (pc' := 1133) (r := x) (as := [vI (H 0 ((i + 1).toNat)), vI 1]) (st := []) (lm_11_143) rfl rfl (Nat.le_of_ble_eq_true rfl) hW gx sh_1 (by decide) rfl (by decide) (s_119 hW gx ⟨by omega, by omega⟩ ⟨by omega, by omega⟩) (fun R227950 T227951 H227952 p227953 => ?_))
    obtain ⟨e227954, w227956, f227957, z227958, e227955, b227959⟩ := p227953
    subst e227954
    subst e227955
    show WL _ _ _ _ 1133 [(4, vI i), (3, .ref o), (2, .ref m), (1, .ref x), (0, .ref 0)] [vI z227958] _ H227952
    refine wl_of hX hb cL_1133 (rw_pop (pc' := 1134) rfl rfl ?_)
    refine wl_of hX hb cL_1134 (rw_aload_n (pc' := 1135) (v := .ref m) rfl rfl rfl ?_)
    refine wl_of hX hb cL_1135 (rw_aload_n (pc' := 1136) (v := .ref 0) rfl rfl rfl ?_)
    refine wl_of hX hb cL_1136 (rw_iload (pc' := 1138) (z := i) rfl rfl ?_)
    refine wl_of hX hb cL_1138 (rw_iconst (pc' := 1139) rfl ?_)
    refine wl_of hX hb cL_1139 (rw_iadd (pc' := 1140) rfl ?_)
    have k227962 : H227952 0 ((i + 1).toNat) = H 0 ((i + 1).toNat) := (f227957 0 ((i + 1).toNat) _ g0 (wmem_s rfl))
    refine wl_of hX hb cL_1140 (xa_I (so := 0) (pc' := 1141) (a := 0) w227956 g0 (wsh_s _) (by omega) (wty_s _ _) (by omega) (by omega) rfl (fun b227960 b227961 => ?_))
    refine wl_of hX hb cL_1141 (rw_aload_n (pc' := 1142) (v := .ref 0) rfl rfl rfl ?_)
    refine wl_of hX hb cL_1142 (rw_iload (pc' := 1144) (z := i) rfl rfl ?_)
    refine wl_of hX hb cL_1144 (rw_iconst (pc' := 1145) rfl ?_)
    refine wl_of hX hb cL_1145 (rw_iadd (pc' := 1146) rfl ?_)
    have k227965 : H227952 0 ((i + 2).toNat) = H 0 ((i + 2).toNat) := (f227957 0 ((i + 2).toNat) _ g0 (wmem_s rfl))
    refine wl_of hX hb cL_1146 (xa_I (so := 0) (pc' := 1147) (a := 0) w227956 g0 (wsh_s _) (by omega) (wty_s _ _) (by omega) (by omega) rfl (fun b227963 b227964 => ?_))
    refine wl_of hX hb cL_1147 (rw_if_eq (p1 := 1154) (p2 := 1150) (by decide) rfl ⟨by omega, by omega⟩ (fun c227966 => ?_) (fun c227966 => ?_))
    · refine wl_of hX hb cL_1154 (rw_iconst (pc' := 1155) rfl ?_)
      have k227967 : wKI H227952 m = wKI H m := (wKI_fr hW gm f227957 rfl)
      have k227968 : H227952 x 9 = H x 9 := (f227957 x 9 _ gx rfl)
      have k227969 : H227952 m 6 = H m 6 := (f227957 m 6 _ gm rfl)
      refine wl_of hX hb cL_1155 (xc_V (pc' := 1158) (r := m) (as := [vI (H227952 0 ((i + 1).toNat)), vI 0]) (st := []) (lm_11_146) rfl rfl (Nat.le_of_ble_eq_true rfl) w227956 gm sh_42 (by decide) rfl (by decide) (s_265 w227956 gm ⟨by omega, by omega⟩ ⟨by omega, by omega⟩ (by omega)) (fun R227970 T227971 H227972 p227973 => ?_))
      obtain ⟨e227974, w227976, f227977, z227979, e227975, b227980, p227978⟩ := p227973
      subst e227974
      subst e227975
      show WL _ _ _ _ 1158 [(4, vI i), (3, .ref o), (2, .ref m), (1, .ref x), (0, .ref 0)] [vI z227979] _ H227972
      refine wl_of hX hb cL_1158 (rw_pop (pc' := 1159) rfl rfl ?_)
      refine wl_of hX hb cL_1159 (rw_goto (p1 := 1653) (by decide) ?_)
      have k227981 : H227972 x 9 = H227952 x 9 := (f227977 x 9 _ gx rfl)
      have k227982 : H227972 m 6 = H227952 m 6 := (f227977 m 6 _ gm rfl)
      exact WL.loc hX (by simp) (next T H227972 ⟨w227976, g0, gx, gm, go, by omega, by omega⟩ (by omega) (by omega))
    · refine wl_of hX hb cL_1150 (rw_iconst (pc' := 1151) rfl ?_)
      refine wl_of hX hb cL_1151 (rw_goto (p1 := 1155) (by decide) ?_)
      have k227983 : wKI H227952 m = wKI H m := (wKI_fr hW gm f227957 rfl)
      have k227984 : H227952 x 9 = H x 9 := (f227957 x 9 _ gx rfl)
      have k227985 : H227952 m 6 = H m 6 := (f227957 m 6 _ gm rfl)
      refine wl_of hX hb cL_1155 (xc_V (pc' := 1158) (r := m) (as := [vI (H227952 0 ((i + 1).toNat)), vI 1]) (st := []) (lm_11_146) rfl rfl (Nat.le_of_ble_eq_true rfl) w227956 gm sh_42 (by decide) rfl (by decide) (s_265 w227956 gm ⟨by omega, by omega⟩ ⟨by omega, by omega⟩ (by omega)) (fun R227986 T227987 H227988 p227989 => ?_))
      obtain ⟨e227990, w227992, f227993, z227995, e227991, b227996, p227994⟩ := p227989
      subst e227990
      subst e227991
      show WL _ _ _ _ 1158 [(4, vI i), (3, .ref o), (2, .ref m), (1, .ref x), (0, .ref 0)] [vI z227995] _ H227988
      refine wl_of hX hb cL_1158 (rw_pop (pc' := 1159) rfl rfl ?_)
      refine wl_of hX hb cL_1159 (rw_goto (p1 := 1653) (by decide) ?_)
      have k227997 : H227988 x 9 = H227952 x 9 := (f227993 x 9 _ gx rfl)
      have k227998 : H227988 m 6 = H227952 m 6 := (f227993 m 6 _ gm rfl)
      exact WL.loc hX (by simp) (next T H227988 ⟨w227992, g0, gx, gm, go, by omega, by omega⟩ (by omega) (by omega))
set_option maxHeartbeats 4000000 in
theorem wl_c30 {kt : Nat → Option mc_E} {CB SB : Nat} {X : mc_S → Prop} {T : wq_T} {H : wq_H} {Len x m o : Nat} {i : Int} (hX : wlX kt CB SB X) (hb : T.2.1 ≤ CB ∧ T.2.2.1 ≤ SB) (hI : wlI Len x m o T H) (hL : Len ≤ 3072) (hi : 0 ≤ i ∧ i + 6 ≤ Len) (hb2 : T.2.1 + 20 ≤ CB ∧ T.2.2.1 + 500 ≤ SB)  (next : ∀ T' H', wlI Len x m o T' H' → T'.2.1 ≤ T.2.1 + 20 → T'.2.2.1 ≤ T.2.2.1 + 500 → WL kt CB SB X 1653 (wlL i x m o) [] T' H') : WL kt CB SB X 1162 (wlL i x m o) [] T H := by
  obtain ⟨hW, g0, gx, gm, go, hK, hr⟩ := hI
  refine wl_of hX hb cL_1162 (rw_aload_n (pc' := 1163) (v := .ref x) rfl rfl rfl ?_)
  refine wl_of hX hb cL_1163 (xc_V (pc' := 1166) (r := x) (as := []) (st := []) (lm_11_147) rfl rfl (Nat.le_of_ble_eq_true rfl) hW gx sh_1 (by decide) rfl (by decide) (s_120 hW gx) (fun R227999 T228000 H228001 p228002 => ?_))
  obtain ⟨e228003, w228005, f228006, z228007, e228004, b228008⟩ := p228002
  subst e228003
  subst e228004
  show WL _ _ _ _ 1166 [(4, vI i), (3, .ref o), (2, .ref m), (1, .ref x), (0, .ref 0)] [vI z228007] _ H228001
  refine wl_of hX hb cL_1166 (rw_pop (pc' := 1167) rfl rfl ?_)
  refine wl_of hX hb cL_1167 (rw_aload_n (pc' := 1168) (v := .ref m) rfl rfl rfl ?_)
  have k228009 : wKI H228001 m = wKI H m := (wKI_fr hW gm f228006 rfl)
  have k228010 : H228001 x 9 = H x 9 := (f228006 x 9 _ gx rfl)
  have k228011 : H228001 m 6 = H m 6 := (f228006 m 6 _ gm rfl)
  refine wl_of hX hb cL_1168 (xc_V (pc' := 1171) (r := m) (as := []) (st := []) (lm_11_150) rfl rfl (Nat.le_of_ble_eq_true rfl) w228005 gm sh_42 (by decide) rfl (by decide) (s_266 w228005 gm (by omega)) (fun R228012 T228013 H228014 p228015 => ?_))
  obtain ⟨e228016, w228018, f228019, z228021, e228017, b228022, p228020⟩ := p228015
  subst e228016
  subst e228017
  show WL _ _ _ _ 1171 [(4, vI i), (3, .ref o), (2, .ref m), (1, .ref x), (0, .ref 0)] [vI z228021] _ H228014
  refine wl_of hX hb cL_1171 (rw_pop (pc' := 1172) rfl rfl ?_)
  refine wl_of hX hb cL_1172 (rw_goto (p1 := 1653) (by decide) ?_)
  have k228023 : H228014 x 9 = H228001 x 9 := (f228019 x 9 _ gx rfl)
  have k228024 : H228014 m 6 = H228001 m 6 := (f228019 m 6 _ gm rfl)
  exact WL.loc hX (by simp) (next T H228014 ⟨w228018, g0, gx, gm, go, by omega, by omega⟩ (by omega) (by omega))
set_option maxHeartbeats 4000000 in
theorem wl_c31 {kt : Nat → Option mc_E} {CB SB : Nat} {X : mc_S → Prop} {T : wq_T} {H : wq_H} {Len x m o : Nat} {i : Int} (hX : wlX kt CB SB X) (hb : T.2.1 ≤ CB ∧ T.2.2.1 ≤ SB) (hI : wlI Len x m o T H) (hL : Len ≤ 3072) (hi : 0 ≤ i ∧ i + 6 ≤ Len) (hb2 : T.2.1 + 20 ≤ CB ∧ T.2.2.1 + 500 ≤ SB)  (next : ∀ T' H', wlI Len x m o T' H' → T'.2.1 ≤ T.2.1 + 20 → T'.2.2.1 ≤ T.2.2.1 + 500 → WL kt CB SB X 1653 (wlL i x m o) [] T' H') : WL kt CB SB X 1175 (wlL i x m o) [] T H := by
  obtain ⟨hW, g0, gx, gm, go, hK, hr⟩ := hI
  refine wl_of hX hb cL_1175 (rw_aload_n (pc' := 1176) (v := .ref x) rfl rfl rfl ?_)
  refine wl_of hX hb cL_1176 (rw_aload_n (pc' := 1177) (v := .ref 0) rfl rfl rfl ?_)
  refine wl_of hX hb cL_1177 (rw_iload (pc' := 1179) (z := i) rfl rfl ?_)
  refine wl_of hX hb cL_1179 (rw_iconst (pc' := 1180) rfl ?_)
  refine wl_of hX hb cL_1180 (rw_iadd (pc' := 1181) rfl ?_)
  refine wl_of hX hb cL_1181 (xa_I (so := 0) (pc' := 1182) (a := 0) hW g0 (wsh_s _) (by omega) (wty_s _ _) (by omega) (by omega) rfl (fun b228025 b228026 => ?_))
  refine wl_of hX hb cL_1182 (xc_V (pc' := 1185) (r := x) (as := [vI (H 0 ((i + 1).toNat))]) (st := []) (lm_11_151) rfl rfl (Nat.le_of_ble_eq_true rfl) hW gx sh_1 (by decide) rfl (by decide) (s_130 hW gx ⟨by omega, by omega⟩) (fun R228027 T228028 H228029 p228030 => ?_))
  obtain ⟨e228031, w228033, f228034, z228035, e228032, b228036⟩ := p228030
  subst e228031
  subst e228032
  show WL _ _ _ _ 1185 [(4, vI i), (3, .ref o), (2, .ref m), (1, .ref x), (0, .ref 0)] [vI z228035] _ H228029
  refine wl_of hX hb cL_1185 (rw_pop (pc' := 1186) rfl rfl ?_)
  refine wl_of hX hb cL_1186 (rw_aload_n (pc' := 1187) (v := .ref m) rfl rfl rfl ?_)
  refine wl_of hX hb cL_1187 (rw_aload_n (pc' := 1188) (v := .ref 0) rfl rfl rfl ?_)
  refine wl_of hX hb cL_1188 (rw_iload (pc' := 1190) (z := i) rfl rfl ?_)
  refine wl_of hX hb cL_1190 (rw_iconst (pc' := 1191) rfl ?_)
  refine wl_of hX hb cL_1191 (rw_iadd (pc' := 1192) rfl ?_)
  have k228039 : H228029 0 ((i + 1).toNat) = H 0 ((i + 1).toNat) := (f228034 0 ((i + 1).toNat) _ g0 (wmem_s rfl))
  refine wl_of hX hb cL_1192 (xa_I (so := 0) (pc' := 1193) (a := 0) w228033 g0 (wsh_s _) (by omega) (wty_s _ _) (by omega) (by omega) rfl (fun b228037 b228038 => ?_))
  have k228040 : wKI H228029 m = wKI H m := (wKI_fr hW gm f228034 rfl)
  have k228041 : H228029 x 9 = H x 9 := (f228034 x 9 _ gx rfl)
  have k228042 : H228029 m 6 = H m 6 := (f228034 m 6 _ gm rfl)
  refine wl_of hX hb cL_1193 (xc_V (pc' := 1196) (r := m) (as := [vI (H228029 0 ((i + 1).toNat))]) (st := []) (lm_11_154) rfl rfl (Nat.le_of_ble_eq_true rfl) w228033 gm sh_42 (by decide) rfl (by decide) (s_271 w228033 gm ⟨by omega, by omega⟩ (by omega)) (fun R228043 T228044 H228045 p228046 => ?_))
  obtain ⟨e228047, w228049, f228050, z228052, e228048, b228053, p228051⟩ := p228046
  subst e228047
  subst e228048
  show WL _ _ _ _ 1196 [(4, vI i), (3, .ref o), (2, .ref m), (1, .ref x), (0, .ref 0)] [vI z228052] _ H228045
  refine wl_of hX hb cL_1196 (rw_pop (pc' := 1197) rfl rfl ?_)
  refine wl_of hX hb cL_1197 (rw_goto (p1 := 1653) (by decide) ?_)
  have k228054 : H228045 x 9 = H228029 x 9 := (f228050 x 9 _ gx rfl)
  have k228055 : H228045 m 6 = H228029 m 6 := (f228050 m 6 _ gm rfl)
  exact WL.loc hX (by simp) (next T H228045 ⟨w228049, g0, gx, gm, go, by omega, by omega⟩ (by omega) (by omega))
set_option maxHeartbeats 4000000 in
theorem wl_c32 {kt : Nat → Option mc_E} {CB SB : Nat} {X : mc_S → Prop} {T : wq_T} {H : wq_H} {Len x m o : Nat} {i : Int} (hX : wlX kt CB SB X) (hb : T.2.1 ≤ CB ∧ T.2.2.1 ≤ SB) (hI : wlI Len x m o T H) (hL : Len ≤ 3072) (hi : 0 ≤ i ∧ i + 6 ≤ Len) (hb2 : T.2.1 + 20 ≤ CB ∧ T.2.2.1 + 500 ≤ SB)  (next : ∀ T' H', wlI Len x m o T' H' → T'.2.1 ≤ T.2.1 + 20 → T'.2.2.1 ≤ T.2.2.1 + 500 → WL kt CB SB X 1653 (wlL i x m o) [] T' H') : WL kt CB SB X 1200 (wlL i x m o) [] T H := by
  obtain ⟨hW, g0, gx, gm, go, hK, hr⟩ := hI
  refine wl_of hX hb cL_1200 (rw_aload_n (pc' := 1201) (v := .ref x) rfl rfl rfl ?_)
  refine wl_of hX hb cL_1201 (rw_aload_n (pc' := 1202) (v := .ref 0) rfl rfl rfl ?_)
  refine wl_of hX hb cL_1202 (rw_iload (pc' := 1204) (z := i) rfl rfl ?_)
  refine wl_of hX hb cL_1204 (rw_iconst (pc' := 1205) rfl ?_)
  refine wl_of hX hb cL_1205 (rw_iadd (pc' := 1206) rfl ?_)
  refine wl_of hX hb cL_1206 (xa_I (so := 0) (pc' := 1207) (a := 0) hW g0 (wsh_s _) (by omega) (wty_s _ _) (by omega) (by omega) rfl (fun b228056 b228057 => ?_))
  refine wl_of hX hb cL_1207 (xc_V (pc' := 1210) (r := x) (as := [vI (H 0 ((i + 1).toNat))]) (st := []) (lm_11_155) rfl rfl (Nat.le_of_ble_eq_true rfl) hW gx sh_1 (by decide) rfl (by decide) (s_132 hW gx ⟨by omega, by omega⟩) (fun R228058 T228059 H228060 p228061 => ?_))
  obtain ⟨e228062, w228064, f228065, z228066, e228063, b228067⟩ := p228061
  subst e228062
  subst e228063
  show WL _ _ _ _ 1210 [(4, vI i), (3, .ref o), (2, .ref m), (1, .ref x), (0, .ref 0)] [vI z228066] _ H228060
  refine wl_of hX hb cL_1210 (rw_pop (pc' := 1211) rfl rfl ?_)
  refine wl_of hX hb cL_1211 (rw_aload_n (pc' := 1212) (v := .ref m) rfl rfl rfl ?_)
  refine wl_of hX hb cL_1212 (rw_aload_n (pc' := 1213) (v := .ref 0) rfl rfl rfl ?_)
  refine wl_of hX hb cL_1213 (rw_iload (pc' := 1215) (z := i) rfl rfl ?_)
  refine wl_of hX hb cL_1215 (rw_iconst (pc' := 1216) rfl ?_)
  refine wl_of hX hb cL_1216 (rw_iadd (pc' := 1217) rfl ?_)
  have k228070 : H228060 0 ((i + 1).toNat) = H 0 ((i + 1).toNat) := (f228065 0 ((i + 1).toNat) _ g0 (wmem_s rfl))
  refine wl_of hX hb cL_1217 (xa_I (so := 0) (pc' := 1218) (a := 0) w228064 g0 (wsh_s _) (by omega) (wty_s _ _) (by omega) (by omega) rfl (fun b228068 b228069 => ?_))
  have k228071 : wKI H228060 m = wKI H m := (wKI_fr hW gm f228065 rfl)
  have k228072 : H228060 x 9 = H x 9 := (f228065 x 9 _ gx rfl)
  have k228073 : H228060 m 6 = H m 6 := (f228065 m 6 _ gm rfl)
  refine wl_of hX hb cL_1218 (xc_V (pc' := 1221) (r := m) (as := [vI (H228060 0 ((i + 1).toNat))]) (st := []) (lm_11_158) rfl rfl (Nat.le_of_ble_eq_true rfl) w228064 gm sh_42 (by decide) rfl (by decide) (s_272 w228064 gm ⟨by omega, by omega⟩ (by omega)) (fun R228074 T228075 H228076 p228077 => ?_))
  obtain ⟨e228078, w228080, f228081, z228083, e228079, b228084, p228082⟩ := p228077
  subst e228078
  subst e228079
  show WL _ _ _ _ 1221 [(4, vI i), (3, .ref o), (2, .ref m), (1, .ref x), (0, .ref 0)] [vI z228083] _ H228076
  refine wl_of hX hb cL_1221 (rw_pop (pc' := 1222) rfl rfl ?_)
  refine wl_of hX hb cL_1222 (rw_goto (p1 := 1653) (by decide) ?_)
  have k228085 : H228076 x 9 = H228060 x 9 := (f228081 x 9 _ gx rfl)
  have k228086 : H228076 m 6 = H228060 m 6 := (f228081 m 6 _ gm rfl)
  exact WL.loc hX (by simp) (next T H228076 ⟨w228080, g0, gx, gm, go, by omega, by omega⟩ (by omega) (by omega))
set_option maxHeartbeats 4000000 in
theorem wl_c33 {kt : Nat → Option mc_E} {CB SB : Nat} {X : mc_S → Prop} {T : wq_T} {H : wq_H} {Len x m o : Nat} {i : Int} (hX : wlX kt CB SB X) (hb : T.2.1 ≤ CB ∧ T.2.2.1 ≤ SB) (hI : wlI Len x m o T H) (hL : Len ≤ 3072) (hi : 0 ≤ i ∧ i + 6 ≤ Len) (hb2 : T.2.1 + 20 ≤ CB ∧ T.2.2.1 + 500 ≤ SB)  (next : ∀ T' H', wlI Len x m o T' H' → T'.2.1 ≤ T.2.1 + 20 → T'.2.2.1 ≤ T.2.2.1 + 500 → WL kt CB SB X 1653 (wlL i x m o) [] T' H') : WL kt CB SB X 1225 (wlL i x m o) [] T H := by
  obtain ⟨hW, g0, gx, gm, go, hK, hr⟩ := hI
  refine wl_of hX hb cL_1225 (rw_aload_n (pc' := 1226) (v := .ref x) rfl rfl rfl ?_)
  refine wl_of hX hb cL_1226 (rw_aload_n (pc' := 1227) (v := .ref 0) rfl rfl rfl ?_)
  refine wl_of hX hb cL_1227 (rw_iload (pc' := 1229) (z := i) rfl rfl ?_)
  refine wl_of hX hb cL_1229 (rw_iconst (pc' := 1230) rfl ?_)
  refine wl_of hX hb cL_1230 (rw_iadd (pc' := 1231) rfl ?_)
  refine wl_of hX hb cL_1231 (xa_I (so := 0) (pc' := 1232) (a := 0) hW g0 (wsh_s _) (by omega) (wty_s _ _) (by omega) (by omega) rfl (fun b228087 b228088 => ?_))
  refine wl_of hX hb cL_1232 (xc_V (pc' := 1235) (r := x) (as := [vI (H 0 ((i + 1).toNat))]) (st := []) (lm_11_159) rfl rfl (Nat.le_of_ble_eq_true rfl) hW gx sh_1 (by decide) rfl (by decide) (s_135 hW gx ⟨by omega, by omega⟩) (fun R228089 T228090 H228091 p228092 => ?_))
  obtain ⟨e228093, w228095, f228096, z228097, e228094, b228098⟩ := p228092
  subst e228093
  subst e228094
  show WL _ _ _ _ 1235 [(4, vI i), (3, .ref o), (2, .ref m), (1, .ref x), (0, .ref 0)] [vI z228097] _ H228091
  refine wl_of hX hb cL_1235 (rw_pop (pc' := 1236) rfl rfl ?_)
  refine wl_of hX hb cL_1236 (rw_aload_n (pc' := 1237) (v := .ref m) rfl rfl rfl ?_)
  refine wl_of hX hb cL_1237 (rw_aload_n (pc' := 1238) (v := .ref 0) rfl rfl rfl ?_)
  refine wl_of hX hb cL_1238 (rw_iload (pc' := 1240) (z := i) rfl rfl ?_)
  refine wl_of hX hb cL_1240 (rw_iconst (pc' := 1241) rfl ?_)
  refine wl_of hX hb cL_1241 (rw_iadd (pc' := 1242) rfl ?_)
  have k228101 : H228091 0 ((i + 1).toNat) = H 0 ((i + 1).toNat) := (f228096 0 ((i + 1).toNat) _ g0 (wmem_s rfl))
  refine wl_of hX hb cL_1242 (xa_I (so := 0) (pc' := 1243) (a := 0) w228095 g0 (wsh_s _) (by omega) (wty_s _ _) (by omega) (by omega) rfl (fun b228099 b228100 => ?_))
  have k228102 : wKI H228091 m = wKI H m := (wKI_fr hW gm f228096 rfl)
  have k228103 : H228091 x 9 = H x 9 := (f228096 x 9 _ gx rfl)
  have k228104 : H228091 m 6 = H m 6 := (f228096 m 6 _ gm rfl)
  refine wl_of hX hb cL_1243 (xc_V (pc' := 1246) (r := m) (as := [vI (H228091 0 ((i + 1).toNat))]) (st := []) (lm_11_162) rfl rfl (Nat.le_of_ble_eq_true rfl) w228095 gm sh_42 (by decide) rfl (by decide) (s_275 w228095 gm ⟨by omega, by omega⟩ (by omega)) (fun R228105 T228106 H228107 p228108 => ?_))
  obtain ⟨e228109, w228111, f228112, z228114, e228110, b228115, p228113⟩ := p228108
  subst e228109
  subst e228110
  show WL _ _ _ _ 1246 [(4, vI i), (3, .ref o), (2, .ref m), (1, .ref x), (0, .ref 0)] [vI z228114] _ H228107
  refine wl_of hX hb cL_1246 (rw_pop (pc' := 1247) rfl rfl ?_)
  refine wl_of hX hb cL_1247 (rw_goto (p1 := 1653) (by decide) ?_)
  have k228116 : H228107 x 9 = H228091 x 9 := (f228112 x 9 _ gx rfl)
  have k228117 : H228107 m 6 = H228091 m 6 := (f228112 m 6 _ gm rfl)
  exact WL.loc hX (by simp) (next T H228107 ⟨w228111, g0, gx, gm, go, by omega, by omega⟩ (by omega) (by omega))
set_option maxHeartbeats 4000000 in
theorem wl_c34 {kt : Nat → Option mc_E} {CB SB : Nat} {X : mc_S → Prop} {T : wq_T} {H : wq_H} {Len x m o : Nat} {i : Int} (hX : wlX kt CB SB X) (hb : T.2.1 ≤ CB ∧ T.2.2.1 ≤ SB) (hI : wlI Len x m o T H) (hL : Len ≤ 3072) (hi : 0 ≤ i ∧ i + 6 ≤ Len) (hb2 : T.2.1 + 20 ≤ CB ∧ T.2.2.1 + 500 ≤ SB)  (next : ∀ T' H', wlI Len x m o T' H' → T'.2.1 ≤ T.2.1 + 20 → T'.2.2.1 ≤ T.2.2.1 + 500 → WL kt CB SB X 1653 (wlL i x m o) [] T' H') : WL kt CB SB X 1250 (wlL i x m o) [] T H := by
  obtain ⟨hW, g0, gx, gm, go, hK, hr⟩ := hI
  refine wl_of hX hb cL_1250 (rw_aload_n (pc' := 1251) (v := .ref x) rfl rfl rfl ?_)
  refine wl_of hX hb cL_1251 (xc_V (pc' := 1254) (r := x) (as := []) (st := []) (lm_11_163) rfl rfl (Nat.le_of_ble_eq_true rfl) hW gx sh_1 (by decide) rfl (by decide) (s_137 hW gx) (fun R228118 T228119 H228120 p228121 => ?_))
  obtain ⟨e228122, w228124, f228125, z228126, e228123, b228127⟩ := p228121
  subst e228122
  subst e228123
  show WL _ _ _ _ 1254 [(4, vI i), (3, .ref o), (2, .ref m), (1, .ref x), (0, .ref 0)] [vI z228126] _ H228120
  refine wl_of hX hb cL_1254 (rw_pop (pc' := 1255) rfl rfl ?_)
  refine wl_of hX hb cL_1255 (rw_aload_n (pc' := 1256) (v := .ref m) rfl rfl rfl ?_)
  have k228128 : wKI H228120 m = wKI H m := (wKI_fr hW gm f228125 rfl)
  have k228129 : H228120 x 9 = H x 9 := (f228125 x 9 _ gx rfl)
  have k228130 : H228120 m 6 = H m 6 := (f228125 m 6 _ gm rfl)
  refine wl_of hX hb cL_1256 (xc_V (pc' := 1259) (r := m) (as := []) (st := []) (lm_11_166) rfl rfl (Nat.le_of_ble_eq_true rfl) w228124 gm sh_42 (by decide) rfl (by decide) (s_276 w228124 gm (by omega)) (fun R228131 T228132 H228133 p228134 => ?_))
  obtain ⟨e228135, w228137, f228138, z228140, e228136, b228141, p228139⟩ := p228134
  subst e228135
  subst e228136
  show WL _ _ _ _ 1259 [(4, vI i), (3, .ref o), (2, .ref m), (1, .ref x), (0, .ref 0)] [vI z228140] _ H228133
  refine wl_of hX hb cL_1259 (rw_pop (pc' := 1260) rfl rfl ?_)
  refine wl_of hX hb cL_1260 (rw_goto (p1 := 1653) (by decide) ?_)
  have k228142 : H228133 x 9 = H228120 x 9 := (f228138 x 9 _ gx rfl)
  have k228143 : H228133 m 6 = H228120 m 6 := (f228138 m 6 _ gm rfl)
  exact WL.loc hX (by simp) (next T H228133 ⟨w228137, g0, gx, gm, go, by omega, by omega⟩ (by omega) (by omega))
set_option maxHeartbeats 4000000 in
theorem wl_c35 {kt : Nat → Option mc_E} {CB SB : Nat} {X : mc_S → Prop} {T : wq_T} {H : wq_H} {Len x m o : Nat} {i : Int} (hX : wlX kt CB SB X) (hb : T.2.1 ≤ CB ∧ T.2.2.1 ≤ SB) (hI : wlI Len x m o T H) (hL : Len ≤ 3072) (hi : 0 ≤ i ∧ i + 6 ≤ Len) (hb2 : T.2.1 + 20 ≤ CB ∧ T.2.2.1 + 500 ≤ SB)  (next : ∀ T' H', wlI Len x m o T' H' → T'.2.1 ≤ T.2.1 + 20 → T'.2.2.1 ≤ T.2.2.1 + 500 → WL kt CB SB X 1653 (wlL i x m o) [] T' H') : WL kt CB SB X 1263 (wlL i x m o) [] T H := by
  obtain ⟨hW, g0, gx, gm, go, hK, hr⟩ := hI
  refine wl_of hX hb cL_1263 (rw_aload_n (pc' := 1264) (v := .ref x) rfl rfl rfl ?_)
  refine wl_of hX hb cL_1264 (rw_aload_n (pc' := 1265) (v := .ref 0) rfl rfl rfl ?_)
  refine wl_of hX hb cL_1265 (rw_iload (pc' := 1267) (z := i) rfl rfl ?_)
  refine wl_of hX hb cL_1267 (rw_iconst (pc' := 1268) rfl ?_)
  refine wl_of hX hb cL_1268 (rw_iadd (pc' := 1269) rfl ?_)
  refine wl_of hX hb cL_1269 (xa_I (so := 0) (pc' := 1270) (a := 0) hW g0 (wsh_s _) (by omega) (wty_s _ _) (by omega) (by omega) rfl (fun b228144 b228145 => ?_))
  refine wl_of hX hb cL_1270 (rw_aload_n (pc' := 1271) (v := .ref 0) rfl rfl rfl ?_)
  refine wl_of hX hb cL_1271 (rw_iload (pc' := 1273) (z := i) rfl rfl ?_)
  refine wl_of hX hb cL_1273 (rw_iconst (pc' := 1274) rfl ?_)
  refine wl_of hX hb cL_1274 (rw_iadd (pc' := 1275) rfl ?_)
  refine wl_of hX hb cL_1275 (xa_I (so := 0) (pc' := 1276) (a := 0) hW g0 (wsh_s _) (by omega) (wty_s _ _) (by omega) (by omega) rfl (fun b228146 b228147 => ?_))
  refine wl_of hX hb cL_1276 (rw_if_eq (p1 := 1283) (p2 := 1279) (by decide) rfl ⟨by omega, by omega⟩ (fun c228148 => ?_) (fun c228148 => ?_))
  · refine wl_of hX hb cL_1283 (rw_iconst (pc' := 1284) rfl ?_)
    refine wl_of hX hb cL_1284 (xc_V (pc' := 1287) (r := x) (as := [vI (H 0 ((i + 1).toNat)), vI 0]) (st := []) (lm_11_167) rfl rfl (Nat.le_of_ble_eq_true rfl) hW gx sh_1 (by decide) rfl (by decide) (s_146 hW gx ⟨by omega, by omega⟩ ⟨by omega, by omega⟩) (fun R228149 T228150 H228151 p228152 => ?_))
    obtain ⟨e228153, w228155, f228156, z228157, e228154, b228158⟩ := p228152
    subst e228153
    subst e228154
    show WL _ _ _ _ 1287 [(4, vI i), (3, .ref o), (2, .ref m), (1, .ref x), (0, .ref 0)] [vI z228157] _ H228151
    refine wl_of hX hb cL_1287 (rw_pop (pc' := 1288) rfl rfl ?_)
    refine wl_of hX hb cL_1288 (rw_aload_n (pc' := 1289) (v := .ref m) rfl rfl rfl ?_)
    refine wl_of hX hb cL_1289 (rw_aload_n (pc' := 1290) (v := .ref 0) rfl rfl rfl ?_)
    refine wl_of hX hb cL_1290 (rw_iload (pc' := 1292) (z := i) rfl rfl ?_)
    refine wl_of hX hb cL_1292 (rw_iconst (pc' := 1293) rfl ?_)
    refine wl_of hX hb cL_1293 (rw_iadd (pc' := 1294) rfl ?_)
    have k228161 : H228151 0 ((i + 1).toNat) = H 0 ((i + 1).toNat) := (f228156 0 ((i + 1).toNat) _ g0 (wmem_s rfl))
    refine wl_of hX hb cL_1294 (xa_I (so := 0) (pc' := 1295) (a := 0) w228155 g0 (wsh_s _) (by omega) (wty_s _ _) (by omega) (by omega) rfl (fun b228159 b228160 => ?_))
    refine wl_of hX hb cL_1295 (rw_aload_n (pc' := 1296) (v := .ref 0) rfl rfl rfl ?_)
    refine wl_of hX hb cL_1296 (rw_iload (pc' := 1298) (z := i) rfl rfl ?_)
    refine wl_of hX hb cL_1298 (rw_iconst (pc' := 1299) rfl ?_)
    refine wl_of hX hb cL_1299 (rw_iadd (pc' := 1300) rfl ?_)
    have k228164 : H228151 0 ((i + 2).toNat) = H 0 ((i + 2).toNat) := (f228156 0 ((i + 2).toNat) _ g0 (wmem_s rfl))
    refine wl_of hX hb cL_1300 (xa_I (so := 0) (pc' := 1301) (a := 0) w228155 g0 (wsh_s _) (by omega) (wty_s _ _) (by omega) (by omega) rfl (fun b228162 b228163 => ?_))
    refine wl_of hX hb cL_1301 (rw_if_eq (p1 := 1308) (p2 := 1304) (by decide) rfl ⟨by omega, by omega⟩ (fun c228165 => ?_) (fun c228165 => ?_))
    · refine wl_of hX hb cL_1308 (rw_iconst (pc' := 1309) rfl ?_)
      have k228166 : wKI H228151 m = wKI H m := (wKI_fr hW gm f228156 rfl)
      have k228167 : H228151 x 9 = H x 9 := (f228156 x 9 _ gx rfl)
      have k228168 : H228151 m 6 = H m 6 := (f228156 m 6 _ gm rfl)
      refine wl_of hX hb cL_1309 (xc_V (pc' := 1312) (r := m) (as := [vI (H228151 0 ((i + 1).toNat)), vI 0]) (st := []) (lm_11_170) rfl rfl (Nat.le_of_ble_eq_true rfl) w228155 gm sh_42 (by decide) rfl (by decide) (s_279 w228155 gm ⟨by omega, by omega⟩ ⟨by omega, by omega⟩ (by omega)) (fun R228169 T228170 H228171 p228172 => ?_))
      obtain ⟨e228173, w228175, f228176, z228178, e228174, b228179, p228177⟩ := p228172
      subst e228173
      subst e228174
      show WL _ _ _ _ 1312 [(4, vI i), (3, .ref o), (2, .ref m), (1, .ref x), (0, .ref 0)] [vI z228178] _ H228171
      refine wl_of hX hb cL_1312 (rw_pop (pc' := 1313) rfl rfl ?_)
      refine wl_of hX hb cL_1313 (rw_goto (p1 := 1653) (by decide) ?_)
      have k228180 : H228171 x 9 = H228151 x 9 := (f228176 x 9 _ gx rfl)
      have k228181 : H228171 m 6 = H228151 m 6 := (f228176 m 6 _ gm rfl)
      exact WL.loc hX (by simp) (next T H228171 ⟨w228175, g0, gx, gm, go, by omega, by omega⟩ (by omega) (by omega))
    · exfalso
      omega
  · refine wl_of hX hb cL_1279 (rw_iconst (pc' := 1280) rfl ?_)
    refine wl_of hX hb cL_1280 (rw_goto (p1 := 1284) (by decide) ?_)
    refine wl_of hX hb cL_1284 (xc_V (pc' := 1287) (r := x) (as := [vI (H 0 ((i + 1).toNat)), vI 1]) (st := []) (lm_11_167) rfl rfl (Nat.le_of_ble_eq_true rfl) hW gx sh_1 (by decide) rfl (by decide) (s_146 hW gx ⟨by omega, by omega⟩ ⟨by omega, by omega⟩) (fun R228182 T228183 H228184 p228185 => ?_))
    obtain ⟨e228186, w228188, f228189, z228190, e228187, b228191⟩ := p228185
    subst e228186
    subst e228187
    show WL _ _ _ _ 1287 [(4, vI i), (3, .ref o), (2, .ref m), (1, .ref x), (0, .ref 0)] [vI z228190] _ H228184
    refine wl_of hX hb cL_1287 (rw_pop (pc' := 1288) rfl rfl ?_)
    refine wl_of hX hb cL_1288 (rw_aload_n (pc' := 1289) (v := .ref m) rfl rfl rfl ?_)
    refine wl_of hX hb cL_1289 (rw_aload_n (pc' := 1290) (v := .ref 0) rfl rfl rfl ?_)
    refine wl_of hX hb cL_1290 (rw_iload (pc' := 1292) (z := i) rfl rfl ?_)
    refine wl_of hX hb cL_1292 (rw_iconst (pc' := 1293) rfl ?_)
    refine wl_of hX hb cL_1293 (rw_iadd (pc' := 1294) rfl ?_)
    have k228194 : H228184 0 ((i + 1).toNat) = H 0 ((i + 1).toNat) := (f228189 0 ((i + 1).toNat) _ g0 (wmem_s rfl))
    refine wl_of hX hb cL_1294 (xa_I (so := 0) (pc' := 1295) (a := 0) w228188 g0 (wsh_s _) (by omega) (wty_s _ _) (by omega) (by omega) rfl (fun b228192 b228193 => ?_))
    refine wl_of hX hb cL_1295 (rw_aload_n (pc' := 1296) (v := .ref 0) rfl rfl rfl ?_)
    refine wl_of hX hb cL_1296 (rw_iload (pc' := 1298) (z := i) rfl rfl ?_)
    refine wl_of hX hb cL_1298 (rw_iconst (pc' := 1299) rfl ?_)
    refine wl_of hX hb cL_1299 (rw_iadd (pc' := 1300) rfl ?_)
    have k228197 : H228184 0 ((i + 2).toNat) = H 0 ((i + 2).toNat) := (f228189 0 ((i + 2).toNat) _ g0 (wmem_s rfl))
    refine wl_of hX hb cL_1300 (xa_I (so := 0) (pc' := 1301) (a := 0) w228188 g0 (wsh_s _) (by omega) (wty_s _ _) (by omega) (by omega) rfl (fun b228195 b228196 => ?_))
    refine wl_of hX hb cL_1301 (rw_if_eq (p1 := 1308) (p2 := 1304) (by decide) rfl ⟨by omega, by omega⟩ (fun c228198 => ?_) (fun c228198 => ?_))
    · refine wl_of hX hb cL_1308 (rw_iconst (pc' := 1309) rfl ?_)
      have k228199 : wKI H228184 m = wKI H m := (wKI_fr hW gm f228189 rfl)
      have k228200 : H228184 x 9 = H x 9 := (f228189 x 9 _ gx rfl)
      have k228201 : H228184 m 6 = H m 6 := (f228189 m 6 _ gm rfl)
      refine wl_of hX hb cL_1309 (xc_V (pc' := 1312) (r := m) (as := [vI (H228184 0 ((i + 1).toNat)), vI 0]) (st := []) (lm_11_170) rfl rfl (Nat.le_of_ble_eq_true rfl) w228188 gm sh_42 (by decide) rfl (by decide) (s_279 w228188 gm ⟨by omega, by omega⟩ ⟨by omega, by omega⟩ (by omega)) (fun R228202 T228203 H228204 p228205 => ?_))
      obtain ⟨e228206, w228208, f228209, z228211, e228207, b228212, p228210⟩ := p228205
      subst e228206
      subst e228207
      show WL _ _ _ _ 1312 [(4, vI i), (3, .ref o), (2, .ref m), (1, .ref x), (0, .ref 0)] [vI z228211] _ H228204
      refine wl_of hX hb cL_1312 (rw_pop (pc' := 1313) rfl rfl ?_)
      refine wl_of hX hb cL_1313 (rw_goto (p1 := 1653) (by decide) ?_)
      have k228213 : H228204 x 9 = H228184 x 9 := (f228209 x 9 _ gx rfl)
      have k228214 : H228204 m 6 = H228184 m 6 := (f228209 m 6 _ gm rfl)
      exact WL.loc hX (by simp) (next T H228204 ⟨w228208, g0, gx, gm, go, by omega, by omega⟩ (by omega) (by omega))
    · refine wl_of hX hb cL_1304 (rw_iconst (pc' := 1305) rfl ?_)
      refine wl_of hX hb cL_1305 (rw_goto (p1 := 1309) (by decide) ?_)
      have k228215 : wKI H228184 m = wKI H m := (wKI_fr hW gm f228189 rfl)
      have k228216 : H228184 x 9 = H x 9 := (f228189 x 9 _ gx rfl)
      have k228217 : H228184 m 6 = H m 6 := (f228189 m 6 _ gm rfl)
      refine wl_of hX hb cL_1309 (xc_V (pc' := 1312) (r := m) (as := [vI (H228184 0 ((i + 1).toNat)), vI 1]) (st := []) (lm_11_170) rfl rfl (Nat.le_of_ble_eq_true rfl) w228188 gm sh_42 (by decide) rfl (by decide) (s_279 w228188 gm ⟨by omega, by omega⟩ ⟨by omega, by omega⟩ (by omega)) (fun R228218 T228219 H228220 p228221 => ?_))
      obtain ⟨e228222, w228224, f228225, z228227, e228223, b228228, p228226⟩ := p228221
      subst e228222
      subst e228223
      show WL _ _ _ _ 1312 [(4, vI i), (3, .ref o), (2, .ref m), (1, .ref x), (0, .ref 0)] [vI z228227] _ H228220
      refine wl_of hX hb cL_1312 (rw_pop (pc' := 1313) rfl rfl ?_)
      refine wl_of hX hb cL_1313 (rw_goto (p1 := 1653) (by decide) ?_)
      have k228229 : H228220 x 9 = H228184 x 9 := (f228225 x 9 _ gx rfl)
      have k228230 : H228220 m 6 = H228184 m 6 := (f228225 m 6 _ gm rfl)
      exact WL.loc hX (by simp) (next T H228220 ⟨w228224, g0, gx, gm, go, by omega, by omega⟩ (by omega) (by omega))
set_option maxHeartbeats 4000000 in
theorem wl_c36 {kt : Nat → Option mc_E} {CB SB : Nat} {X : mc_S → Prop} {T : wq_T} {H : wq_H} {Len x m o : Nat} {i : Int} (hX : wlX kt CB SB X) (hb : T.2.1 ≤ CB ∧ T.2.2.1 ≤ SB) (hI : wlI Len x m o T H) (hL : Len ≤ 3072) (hi : 0 ≤ i ∧ i + 6 ≤ Len) (hb2 : T.2.1 + 20 ≤ CB ∧ T.2.2.1 + 500 ≤ SB)  (next : ∀ T' H', wlI Len x m o T' H' → T'.2.1 ≤ T.2.1 + 20 → T'.2.2.1 ≤ T.2.2.1 + 500 → WL kt CB SB X 1653 (wlL i x m o) [] T' H') : WL kt CB SB X 1316 (wlL i x m o) [] T H := by
  obtain ⟨hW, g0, gx, gm, go, hK, hr⟩ := hI
  refine wl_of hX hb cL_1316 (rw_aload_n (pc' := 1317) (v := .ref x) rfl rfl rfl ?_)
  refine wl_of hX hb cL_1317 (xc_V (pc' := 1320) (r := x) (as := []) (st := []) (lm_11_171) rfl rfl (Nat.le_of_ble_eq_true rfl) hW gx sh_1 (by decide) rfl (by decide) (s_147 hW gx) (fun R228231 T228232 H228233 p228234 => ?_))
  obtain ⟨e228235, w228237, f228238, z228239, e228236, b228240⟩ := p228234
  subst e228235
  subst e228236
  show WL _ _ _ _ 1320 [(4, vI i), (3, .ref o), (2, .ref m), (1, .ref x), (0, .ref 0)] [vI z228239] _ H228233
  refine wl_of hX hb cL_1320 (rw_pop (pc' := 1321) rfl rfl ?_)
  refine wl_of hX hb cL_1321 (rw_aload_n (pc' := 1322) (v := .ref m) rfl rfl rfl ?_)
  have k228241 : wKI H228233 m = wKI H m := (wKI_fr hW gm f228238 rfl)
  have k228242 : H228233 x 9 = H x 9 := (f228238 x 9 _ gx rfl)
  have k228243 : H228233 m 6 = H m 6 := (f228238 m 6 _ gm rfl)
  refine wl_of hX hb cL_1322 (xc_V (pc' := 1325) (r := m) (as := []) (st := []) (lm_11_174) rfl rfl (Nat.le_of_ble_eq_true rfl) w228237 gm sh_42 (by decide) rfl (by decide) (s_282 w228237 gm (by omega)) (fun R228244 T228245 H228246 p228247 => ?_))
  obtain ⟨e228248, w228250, f228251, z228253, e228249, b228254, p228252⟩ := p228247
  subst e228248
  subst e228249
  show WL _ _ _ _ 1325 [(4, vI i), (3, .ref o), (2, .ref m), (1, .ref x), (0, .ref 0)] [vI z228253] _ H228246
  refine wl_of hX hb cL_1325 (rw_pop (pc' := 1326) rfl rfl ?_)
  refine wl_of hX hb cL_1326 (rw_goto (p1 := 1653) (by decide) ?_)
  have k228255 : H228246 x 9 = H228233 x 9 := (f228251 x 9 _ gx rfl)
  have k228256 : H228246 m 6 = H228233 m 6 := (f228251 m 6 _ gm rfl)
  exact WL.loc hX (by simp) (next T H228246 ⟨w228250, g0, gx, gm, go, by omega, by omega⟩ (by omega) (by omega))
set_option maxHeartbeats 4000000 in
theorem wl_c37 {kt : Nat → Option mc_E} {CB SB : Nat} {X : mc_S → Prop} {T : wq_T} {H : wq_H} {Len x m o : Nat} {i : Int} (hX : wlX kt CB SB X) (hb : T.2.1 ≤ CB ∧ T.2.2.1 ≤ SB) (hI : wlI Len x m o T H) (hL : Len ≤ 3072) (hi : 0 ≤ i ∧ i + 6 ≤ Len) (hb2 : T.2.1 + 20 ≤ CB ∧ T.2.2.1 + 500 ≤ SB)  (next : ∀ T' H', wlI Len x m o T' H' → T'.2.1 ≤ T.2.1 + 20 → T'.2.2.1 ≤ T.2.2.1 + 500 → WL kt CB SB X 1653 (wlL i x m o) [] T' H') : WL kt CB SB X 1329 (wlL i x m o) [] T H := by
  obtain ⟨hW, g0, gx, gm, go, hK, hr⟩ := hI
  refine wl_of hX hb cL_1329 (rw_aload_n (pc' := 1330) (v := .ref x) rfl rfl rfl ?_)
  refine wl_of hX hb cL_1330 (xc_V (pc' := 1333) (r := x) (as := []) (st := []) (lm_11_175) rfl rfl (Nat.le_of_ble_eq_true rfl) hW gx sh_1 (by decide) rfl (by decide) (s_149 hW gx) (fun R228257 T228258 H228259 p228260 => ?_))
  obtain ⟨e228261, w228263, f228264, z228265, e228262, b228266⟩ := p228260
  subst e228261
  subst e228262
  show WL _ _ _ _ 1333 [(4, vI i), (3, .ref o), (2, .ref m), (1, .ref x), (0, .ref 0)] [vI z228265] _ H228259
  refine wl_of hX hb cL_1333 (rw_pop (pc' := 1334) rfl rfl ?_)
  refine wl_of hX hb cL_1334 (rw_aload_n (pc' := 1335) (v := .ref m) rfl rfl rfl ?_)
  have k228267 : wKI H228259 m = wKI H m := (wKI_fr hW gm f228264 rfl)
  have k228268 : H228259 x 9 = H x 9 := (f228264 x 9 _ gx rfl)
  have k228269 : H228259 m 6 = H m 6 := (f228264 m 6 _ gm rfl)
  refine wl_of hX hb cL_1335 (xc_V (pc' := 1338) (r := m) (as := []) (st := []) (lm_11_178) rfl rfl (Nat.le_of_ble_eq_true rfl) w228263 gm sh_42 (by decide) rfl (by decide) (s_283 w228263 gm (by omega)) (fun R228270 T228271 H228272 p228273 => ?_))
  obtain ⟨e228274, w228276, f228277, z228279, e228275, b228280, p228278⟩ := p228273
  subst e228274
  subst e228275
  show WL _ _ _ _ 1338 [(4, vI i), (3, .ref o), (2, .ref m), (1, .ref x), (0, .ref 0)] [vI z228279] _ H228272
  refine wl_of hX hb cL_1338 (rw_pop (pc' := 1339) rfl rfl ?_)
  refine wl_of hX hb cL_1339 (rw_goto (p1 := 1653) (by decide) ?_)
  have k228281 : H228272 x 9 = H228259 x 9 := (f228277 x 9 _ gx rfl)
  have k228282 : H228272 m 6 = H228259 m 6 := (f228277 m 6 _ gm rfl)
  exact WL.loc hX (by simp) (next T H228272 ⟨w228276, g0, gx, gm, go, by omega, by omega⟩ (by omega) (by omega))
set_option maxHeartbeats 4000000 in
theorem wl_c38 {kt : Nat → Option mc_E} {CB SB : Nat} {X : mc_S → Prop} {T : wq_T} {H : wq_H} {Len x m o : Nat} {i : Int} (hX : wlX kt CB SB X) (hb : T.2.1 ≤ CB ∧ T.2.2.1 ≤ SB) (hI : wlI Len x m o T H) (hL : Len ≤ 3072) (hi : 0 ≤ i ∧ i + 6 ≤ Len) (hb2 : T.2.1 + 20 ≤ CB ∧ T.2.2.1 + 500 ≤ SB)  (next : ∀ T' H', wlI Len x m o T' H' → T'.2.1 ≤ T.2.1 + 20 → T'.2.2.1 ≤ T.2.2.1 + 500 → WL kt CB SB X 1653 (wlL i x m o) [] T' H') : WL kt CB SB X 1342 (wlL i x m o) [] T H := by
  obtain ⟨hW, g0, gx, gm, go, hK, hr⟩ := hI
  refine wl_of hX hb cL_1342 (rw_aload_n (pc' := 1343) (v := .ref x) rfl rfl rfl ?_)
  refine wl_of hX hb cL_1343 (rw_aload_n (pc' := 1344) (v := .ref 0) rfl rfl rfl ?_)
  refine wl_of hX hb cL_1344 (rw_iload (pc' := 1346) (z := i) rfl rfl ?_)
  refine wl_of hX hb cL_1346 (rw_iconst (pc' := 1347) rfl ?_)
  refine wl_of hX hb cL_1347 (rw_iadd (pc' := 1348) rfl ?_)
  refine wl_of hX hb cL_1348 (xa_I (so := 0) (pc' := 1349) (a := 0) hW g0 (wsh_s _) (by omega) (wty_s _ _) (by omega) (by omega) rfl (fun b228283 b228284 => ?_))
  refine wl_of hX hb cL_1349 (xc_V (pc' := 1352) (r := x) (as := [vI (H 0 ((i + 1).toNat))]) (st := []) (lm_11_179) rfl rfl (Nat.le_of_ble_eq_true rfl) hW gx sh_1 (by decide) rfl (by decide) (s_152 hW gx ⟨by omega, by omega⟩) (fun R228285 T228286 H228287 p228288 => ?_))
  obtain ⟨e228289, w228291, f228292, z228293, e228290, b228294⟩ := p228288
  subst e228289
  subst e228290
  show WL _ _ _ _ 1352 [(4, vI i), (3, .ref o), (2, .ref m), (1, .ref x), (0, .ref 0)] [vI z228293] _ H228287
  refine wl_of hX hb cL_1352 (rw_pop (pc' := 1353) rfl rfl ?_)
  refine wl_of hX hb cL_1353 (rw_aload_n (pc' := 1354) (v := .ref m) rfl rfl rfl ?_)
  refine wl_of hX hb cL_1354 (rw_aload_n (pc' := 1355) (v := .ref 0) rfl rfl rfl ?_)
  refine wl_of hX hb cL_1355 (rw_iload (pc' := 1357) (z := i) rfl rfl ?_)
  refine wl_of hX hb cL_1357 (rw_iconst (pc' := 1358) rfl ?_)
  refine wl_of hX hb cL_1358 (rw_iadd (pc' := 1359) rfl ?_)
  have k228297 : H228287 0 ((i + 1).toNat) = H 0 ((i + 1).toNat) := (f228292 0 ((i + 1).toNat) _ g0 (wmem_s rfl))
  refine wl_of hX hb cL_1359 (xa_I (so := 0) (pc' := 1360) (a := 0) w228291 g0 (wsh_s _) (by omega) (wty_s _ _) (by omega) (by omega) rfl (fun b228295 b228296 => ?_))
  have k228298 : wKI H228287 m = wKI H m := (wKI_fr hW gm f228292 rfl)
  have k228299 : H228287 x 9 = H x 9 := (f228292 x 9 _ gx rfl)
  have k228300 : H228287 m 6 = H m 6 := (f228292 m 6 _ gm rfl)
  refine wl_of hX hb cL_1360 (xc_V (pc' := 1363) (r := m) (as := [vI (H228287 0 ((i + 1).toNat))]) (st := []) (lm_11_182) rfl rfl (Nat.le_of_ble_eq_true rfl) w228291 gm sh_42 (by decide) rfl (by decide) (s_284 w228291 gm ⟨by omega, by omega⟩ (by omega)) (fun R228301 T228302 H228303 p228304 => ?_))
  obtain ⟨e228305, w228307, f228308, z228310, e228306, b228311, p228309⟩ := p228304
  subst e228305
  subst e228306
  show WL _ _ _ _ 1363 [(4, vI i), (3, .ref o), (2, .ref m), (1, .ref x), (0, .ref 0)] [vI z228310] _ H228303
  refine wl_of hX hb cL_1363 (rw_pop (pc' := 1364) rfl rfl ?_)
  refine wl_of hX hb cL_1364 (rw_goto (p1 := 1653) (by decide) ?_)
  have k228312 : H228303 x 9 = H228287 x 9 := (f228308 x 9 _ gx rfl)
  have k228313 : H228303 m 6 = H228287 m 6 := (f228308 m 6 _ gm rfl)
  exact WL.loc hX (by simp) (next T H228303 ⟨w228307, g0, gx, gm, go, by omega, by omega⟩ (by omega) (by omega))
set_option maxHeartbeats 4000000 in
theorem wl_c39 {kt : Nat → Option mc_E} {CB SB : Nat} {X : mc_S → Prop} {T : wq_T} {H : wq_H} {Len x m o : Nat} {i : Int} (hX : wlX kt CB SB X) (hb : T.2.1 ≤ CB ∧ T.2.2.1 ≤ SB) (hI : wlI Len x m o T H) (hL : Len ≤ 3072) (hi : 0 ≤ i ∧ i + 6 ≤ Len) (hb2 : T.2.1 + 20 ≤ CB ∧ T.2.2.1 + 500 ≤ SB)  (next : ∀ T' H', wlI Len x m o T' H' → T'.2.1 ≤ T.2.1 + 20 → T'.2.2.1 ≤ T.2.2.1 + 500 → WL kt CB SB X 1653 (wlL i x m o) [] T' H') : WL kt CB SB X 1367 (wlL i x m o) [] T H := by
  obtain ⟨hW, g0, gx, gm, go, hK, hr⟩ := hI
  refine wl_of hX hb cL_1367 (rw_aload_n (pc' := 1368) (v := .ref x) rfl rfl rfl ?_)
  refine wl_of hX hb cL_1368 (rw_aload_n (pc' := 1369) (v := .ref 0) rfl rfl rfl ?_)
  refine wl_of hX hb cL_1369 (rw_iload (pc' := 1371) (z := i) rfl rfl ?_)
  refine wl_of hX hb cL_1371 (rw_iconst (pc' := 1372) rfl ?_)
  refine wl_of hX hb cL_1372 (rw_iadd (pc' := 1373) rfl ?_)
  refine wl_of hX hb cL_1373 (xa_I (so := 0) (pc' := 1374) (a := 0) hW g0 (wsh_s _) (by omega) (wty_s _ _) (by omega) (by omega) rfl (fun b228314 b228315 => ?_))
  refine wl_of hX hb cL_1374 (rw_aload_n (pc' := 1375) (v := .ref 0) rfl rfl rfl ?_)
  refine wl_of hX hb cL_1375 (rw_iload (pc' := 1377) (z := i) rfl rfl ?_)
  refine wl_of hX hb cL_1377 (rw_iconst (pc' := 1378) rfl ?_)
  refine wl_of hX hb cL_1378 (rw_iadd (pc' := 1379) rfl ?_)
  refine wl_of hX hb cL_1379 (xa_I (so := 0) (pc' := 1380) (a := 0) hW g0 (wsh_s _) (by omega) (wty_s _ _) (by omega) (by omega) rfl (fun b228316 b228317 => ?_))
  refine wl_of hX hb cL_1380 (xc_V (pc' := 1383) (r := x) (as := [vI (H 0 ((i + 1).toNat)), vI (H 0 ((i + 2).toNat))]) (st := []) (lm_11_183) rfl rfl (Nat.le_of_ble_eq_true rfl) hW gx sh_1 (by decide) rfl (by decide) (s_153 hW gx ⟨by omega, by omega⟩ ⟨by omega, by omega⟩) (fun R228318 T228319 H228320 p228321 => ?_))
  obtain ⟨e228322, w228324, f228325, z228326, e228323, b228327⟩ := p228321
  subst e228322
  subst e228323
  show WL _ _ _ _ 1383 [(4, vI i), (3, .ref o), (2, .ref m), (1, .ref x), (0, .ref 0)] [vI z228326] _ H228320
  refine wl_of hX hb cL_1383 (rw_pop (pc' := 1384) rfl rfl ?_)
  refine wl_of hX hb cL_1384 (rw_aload_n (pc' := 1385) (v := .ref m) rfl rfl rfl ?_)
  refine wl_of hX hb cL_1385 (rw_aload_n (pc' := 1386) (v := .ref 0) rfl rfl rfl ?_)
  refine wl_of hX hb cL_1386 (rw_iload (pc' := 1388) (z := i) rfl rfl ?_)
  refine wl_of hX hb cL_1388 (rw_iconst (pc' := 1389) rfl ?_)
  refine wl_of hX hb cL_1389 (rw_iadd (pc' := 1390) rfl ?_)
  have k228330 : H228320 0 ((i + 1).toNat) = H 0 ((i + 1).toNat) := (f228325 0 ((i + 1).toNat) _ g0 (wmem_s rfl))
  refine wl_of hX hb cL_1390 (xa_I (so := 0) (pc' := 1391) (a := 0) w228324 g0 (wsh_s _) (by omega) (wty_s _ _) (by omega) (by omega) rfl (fun b228328 b228329 => ?_))
  refine wl_of hX hb cL_1391 (rw_aload_n (pc' := 1392) (v := .ref 0) rfl rfl rfl ?_)
  refine wl_of hX hb cL_1392 (rw_iload (pc' := 1394) (z := i) rfl rfl ?_)
  refine wl_of hX hb cL_1394 (rw_iconst (pc' := 1395) rfl ?_)
  refine wl_of hX hb cL_1395 (rw_iadd (pc' := 1396) rfl ?_)
  have k228333 : H228320 0 ((i + 2).toNat) = H 0 ((i + 2).toNat) := (f228325 0 ((i + 2).toNat) _ g0 (wmem_s rfl))
  refine wl_of hX hb cL_1396 (xa_I (so := 0) (pc' := 1397) (a := 0) w228324 g0 (wsh_s _) (by omega) (wty_s _ _) (by omega) (by omega) rfl (fun b228331 b228332 => ?_))
  have k228334 : wKI H228320 m = wKI H m := (wKI_fr hW gm f228325 rfl)
  have k228335 : H228320 x 9 = H x 9 := (f228325 x 9 _ gx rfl)
  have k228336 : H228320 m 6 = H m 6 := (f228325 m 6 _ gm rfl)
  refine wl_of hX hb cL_1397 (xc_V (pc' := 1400) (r := m) (as := [vI (H228320 0 ((i + 1).toNat)), vI (H228320 0 ((i + 2).toNat))]) (st := []) (lm_11_186) rfl rfl (Nat.le_of_ble_eq_true rfl) w228324 gm sh_42 (by decide) rfl (by decide) (s_285 w228324 gm ⟨by omega, by omega⟩ ⟨by omega, by omega⟩ (by omega)) (fun R228337 T228338 H228339 p228340 => ?_))
  obtain ⟨e228341, w228343, f228344, z228346, e228342, b228347, p228345⟩ := p228340
  subst e228341
  subst e228342
  show WL _ _ _ _ 1400 [(4, vI i), (3, .ref o), (2, .ref m), (1, .ref x), (0, .ref 0)] [vI z228346] _ H228339
  refine wl_of hX hb cL_1400 (rw_pop (pc' := 1401) rfl rfl ?_)
  refine wl_of hX hb cL_1401 (rw_goto (p1 := 1653) (by decide) ?_)
  have k228348 : H228339 x 9 = H228320 x 9 := (f228344 x 9 _ gx rfl)
  have k228349 : H228339 m 6 = H228320 m 6 := (f228344 m 6 _ gm rfl)
  exact WL.loc hX (by simp) (next T H228339 ⟨w228343, g0, gx, gm, go, by omega, by omega⟩ (by omega) (by omega))
set_option maxHeartbeats 4000000 in
theorem wl_c40 {kt : Nat → Option mc_E} {CB SB : Nat} {X : mc_S → Prop} {T : wq_T} {H : wq_H} {Len x m o : Nat} {i : Int} (hX : wlX kt CB SB X) (hb : T.2.1 ≤ CB ∧ T.2.2.1 ≤ SB) (hI : wlI Len x m o T H) (hL : Len ≤ 3072) (hi : 0 ≤ i ∧ i + 6 ≤ Len) (hb2 : T.2.1 + 20 ≤ CB ∧ T.2.2.1 + 500 ≤ SB)  (next : ∀ T' H', wlI Len x m o T' H' → T'.2.1 ≤ T.2.1 + 20 → T'.2.2.1 ≤ T.2.2.1 + 500 → WL kt CB SB X 1653 (wlL i x m o) [] T' H') : WL kt CB SB X 1404 (wlL i x m o) [] T H := by
  obtain ⟨hW, g0, gx, gm, go, hK, hr⟩ := hI
  refine wl_of hX hb cL_1404 (rw_aload_n (pc' := 1405) (v := .ref x) rfl rfl rfl ?_)
  refine wl_of hX hb cL_1405 (rw_aload_n (pc' := 1406) (v := .ref 0) rfl rfl rfl ?_)
  refine wl_of hX hb cL_1406 (rw_iload (pc' := 1408) (z := i) rfl rfl ?_)
  refine wl_of hX hb cL_1408 (rw_iconst (pc' := 1409) rfl ?_)
  refine wl_of hX hb cL_1409 (rw_iadd (pc' := 1410) rfl ?_)
  refine wl_of hX hb cL_1410 (xa_I (so := 0) (pc' := 1411) (a := 0) hW g0 (wsh_s _) (by omega) (wty_s _ _) (by omega) (by omega) rfl (fun b228350 b228351 => ?_))
  refine wl_of hX hb cL_1411 (xc_V (pc' := 1414) (r := x) (as := [vI (H 0 ((i + 1).toNat))]) (st := []) (lm_11_187) rfl rfl (Nat.le_of_ble_eq_true rfl) hW gx sh_1 (by decide) rfl (by decide) (s_154 hW gx ⟨by omega, by omega⟩) (fun R228352 T228353 H228354 p228355 => ?_))
  obtain ⟨e228356, w228358, f228359, z228360, e228357, b228361⟩ := p228355
  subst e228356
  subst e228357
  show WL _ _ _ _ 1414 [(4, vI i), (3, .ref o), (2, .ref m), (1, .ref x), (0, .ref 0)] [vI z228360] _ H228354
  refine wl_of hX hb cL_1414 (rw_pop (pc' := 1415) rfl rfl ?_)
  refine wl_of hX hb cL_1415 (rw_aload_n (pc' := 1416) (v := .ref m) rfl rfl rfl ?_)
  refine wl_of hX hb cL_1416 (rw_aload_n (pc' := 1417) (v := .ref 0) rfl rfl rfl ?_)
  refine wl_of hX hb cL_1417 (rw_iload (pc' := 1419) (z := i) rfl rfl ?_)
  refine wl_of hX hb cL_1419 (rw_iconst (pc' := 1420) rfl ?_)
  refine wl_of hX hb cL_1420 (rw_iadd (pc' := 1421) rfl ?_)
  have k228364 : H228354 0 ((i + 1).toNat) = H 0 ((i + 1).toNat) := (f228359 0 ((i + 1).toNat) _ g0 (wmem_s rfl))
  refine wl_of hX hb cL_1421 (xa_I (so := 0) (pc' := 1422) (a := 0) w228358 g0 (wsh_s _) (by omega) (wty_s _ _) (by omega) (by omega) rfl (fun b228362 b228363 => ?_))
  have k228365 : wKI H228354 m = wKI H m := (wKI_fr hW gm f228359 rfl)
  have k228366 : H228354 x 9 = H x 9 := (f228359 x 9 _ gx rfl)
  have k228367 : H228354 m 6 = H m 6 := (f228359 m 6 _ gm rfl)
  refine wl_of hX hb cL_1422 (xc_V (pc' := 1425) (r := m) (as := [vI (H228354 0 ((i + 1).toNat))]) (st := []) (lm_11_191) rfl rfl (Nat.le_of_ble_eq_true rfl) w228358 gm sh_42 (by decide) rfl (by decide) (s_286 w228358 gm ⟨by omega, by omega⟩ (by omega)) (fun R228368 T228369 H228370 p228371 => ?_))
  obtain ⟨e228372, w228374, f228375, z228377, e228373, b228378, p228376⟩ := p228371
  subst e228372
  subst e228373
  show WL _ _ _ _ 1425 [(4, vI i), (3, .ref o), (2, .ref m), (1, .ref x), (0, .ref 0)] [vI z228377] _ H228370
  refine wl_of hX hb cL_1425 (rw_pop (pc' := 1426) rfl rfl ?_)
  refine wl_of hX hb cL_1426 (rw_goto (p1 := 1653) (by decide) ?_)
  have k228379 : H228370 x 9 = H228354 x 9 := (f228375 x 9 _ gx rfl)
  have k228380 : H228370 m 6 = H228354 m 6 := (f228375 m 6 _ gm rfl)
  exact WL.loc hX (by simp) (next T H228370 ⟨w228374, g0, gx, gm, go, by omega, by omega⟩ (by omega) (by omega))
set_option maxHeartbeats 4000000 in
theorem wl_c41 {kt : Nat → Option mc_E} {CB SB : Nat} {X : mc_S → Prop} {T : wq_T} {H : wq_H} {Len x m o : Nat} {i : Int} (hX : wlX kt CB SB X) (hb : T.2.1 ≤ CB ∧ T.2.2.1 ≤ SB) (hI : wlI Len x m o T H) (hL : Len ≤ 3072) (hi : 0 ≤ i ∧ i + 6 ≤ Len) (hb2 : T.2.1 + 20 ≤ CB ∧ T.2.2.1 + 500 ≤ SB)  (next : ∀ T' H', wlI Len x m o T' H' → T'.2.1 ≤ T.2.1 + 20 → T'.2.2.1 ≤ T.2.2.1 + 500 → WL kt CB SB X 1653 (wlL i x m o) [] T' H') : WL kt CB SB X 1429 (wlL i x m o) [] T H := by
  obtain ⟨hW, g0, gx, gm, go, hK, hr⟩ := hI
  refine wl_of hX hb cL_1429 (rw_aload_n (pc' := 1430) (v := .ref x) rfl rfl rfl ?_)
  refine wl_of hX hb cL_1430 (rw_aload_n (pc' := 1431) (v := .ref 0) rfl rfl rfl ?_)
  refine wl_of hX hb cL_1431 (rw_iload (pc' := 1433) (z := i) rfl rfl ?_)
  refine wl_of hX hb cL_1433 (rw_iconst (pc' := 1434) rfl ?_)
  refine wl_of hX hb cL_1434 (rw_iadd (pc' := 1435) rfl ?_)
  refine wl_of hX hb cL_1435 (xa_I (so := 0) (pc' := 1436) (a := 0) hW g0 (wsh_s _) (by omega) (wty_s _ _) (by omega) (by omega) rfl (fun b228381 b228382 => ?_))
  refine wl_of hX hb cL_1436 (xc_V (pc' := 1439) (r := x) (as := [vI (H 0 ((i + 1).toNat))]) (st := []) (lm_11_192) rfl rfl (Nat.le_of_ble_eq_true rfl) hW gx sh_1 (by decide) rfl (by decide) (s_155 hW gx ⟨by omega, by omega⟩) (fun R228383 T228384 H228385 p228386 => ?_))
  obtain ⟨e228387, w228389, f228390, z228391, e228388, b228392⟩ := p228386
  subst e228387
  subst e228388
  show WL _ _ _ _ 1439 [(4, vI i), (3, .ref o), (2, .ref m), (1, .ref x), (0, .ref 0)] [vI z228391] _ H228385
  refine wl_of hX hb cL_1439 (rw_pop (pc' := 1440) rfl rfl ?_)
  refine wl_of hX hb cL_1440 (rw_aload_n (pc' := 1441) (v := .ref m) rfl rfl rfl ?_)
  refine wl_of hX hb cL_1441 (rw_aload_n (pc' := 1442) (v := .ref 0) rfl rfl rfl ?_)
  refine wl_of hX hb cL_1442 (rw_iload (pc' := 1444) (z := i) rfl rfl ?_)
  refine wl_of hX hb cL_1444 (rw_iconst (pc' := 1445) rfl ?_)
  refine wl_of hX hb cL_1445 (rw_iadd (pc' := 1446) rfl ?_)
  have k228395 : H228385 0 ((i + 1).toNat) = H 0 ((i + 1).toNat) := (f228390 0 ((i + 1).toNat) _ g0 (wmem_s rfl))
  refine wl_of hX hb cL_1446 (xa_I (so := 0) (pc' := 1447) (a := 0) w228389 g0 (wsh_s _) (by omega) (wty_s _ _) (by omega) (by omega) rfl (fun b228393 b228394 => ?_))
  have k228396 : wKI H228385 m = wKI H m := (wKI_fr hW gm f228390 rfl)
  have k228397 : H228385 x 9 = H x 9 := (f228390 x 9 _ gx rfl)
  have k228398 : H228385 m 6 = H m 6 := (f228390 m 6 _ gm rfl)
  refine wl_of hX hb cL_1447 (xc_V (pc' := 1450) (r := m) (as := [vI (H228385 0 ((i + 1).toNat))]) (st := []) (lm_11_195) rfl rfl (Nat.le_of_ble_eq_true rfl) w228389 gm sh_42 (by decide) rfl (by decide) (s_287 w228389 gm ⟨by omega, by omega⟩ (by omega)) (fun R228399 T228400 H228401 p228402 => ?_))
  obtain ⟨e228403, w228405, f228406, z228408, e228404, b228409, p228407⟩ := p228402
  subst e228403
  subst e228404
  show WL _ _ _ _ 1450 [(4, vI i), (3, .ref o), (2, .ref m), (1, .ref x), (0, .ref 0)] [vI z228408] _ H228401
  refine wl_of hX hb cL_1450 (rw_pop (pc' := 1451) rfl rfl ?_)
  refine wl_of hX hb cL_1451 (rw_goto (p1 := 1653) (by decide) ?_)
  have k228410 : H228401 x 9 = H228385 x 9 := (f228406 x 9 _ gx rfl)
  have k228411 : H228401 m 6 = H228385 m 6 := (f228406 m 6 _ gm rfl)
  exact WL.loc hX (by simp) (next T H228401 ⟨w228405, g0, gx, gm, go, by omega, by omega⟩ (by omega) (by omega))
set_option maxHeartbeats 4000000 in
theorem wl_c42 {kt : Nat → Option mc_E} {CB SB : Nat} {X : mc_S → Prop} {T : wq_T} {H : wq_H} {Len x m o : Nat} {i : Int} (hX : wlX kt CB SB X) (hb : T.2.1 ≤ CB ∧ T.2.2.1 ≤ SB) (hI : wlI Len x m o T H) (hL : Len ≤ 3072) (hi : 0 ≤ i ∧ i + 6 ≤ Len) (hb2 : T.2.1 + 20 ≤ CB ∧ T.2.2.1 + 500 ≤ SB)  (next : ∀ T' H', wlI Len x m o T' H' → T'.2.1 ≤ T.2.1 + 20 → T'.2.2.1 ≤ T.2.2.1 + 500 → WL kt CB SB X 1653 (wlL i x m o) [] T' H') : WL kt CB SB X 1454 (wlL i x m o) [] T H := by
  obtain ⟨hW, g0, gx, gm, go, hK, hr⟩ := hI
  refine wl_of hX hb cL_1454 (rw_aload_n (pc' := 1455) (v := .ref x) rfl rfl rfl ?_)
  refine wl_of hX hb cL_1455 (xc_V (pc' := 1458) (r := x) (as := []) (st := []) (lm_11_196) rfl rfl (Nat.le_of_ble_eq_true rfl) hW gx sh_1 (by decide) rfl (by decide) (s_156 hW gx) (fun R228412 T228413 H228414 p228415 => ?_))
  obtain ⟨e228416, w228418, f228419, z228420, e228417, b228421⟩ := p228415
  subst e228416
  subst e228417
  show WL _ _ _ _ 1458 [(4, vI i), (3, .ref o), (2, .ref m), (1, .ref x), (0, .ref 0)] [vI z228420] _ H228414
  refine wl_of hX hb cL_1458 (rw_pop (pc' := 1459) rfl rfl ?_)
  refine wl_of hX hb cL_1459 (rw_aload_n (pc' := 1460) (v := .ref m) rfl rfl rfl ?_)
  have k228422 : wKI H228414 m = wKI H m := (wKI_fr hW gm f228419 rfl)
  have k228423 : H228414 x 9 = H x 9 := (f228419 x 9 _ gx rfl)
  have k228424 : H228414 m 6 = H m 6 := (f228419 m 6 _ gm rfl)
  refine wl_of hX hb cL_1460 (xc_V (pc' := 1463) (r := m) (as := []) (st := []) (lm_11_199) rfl rfl (Nat.le_of_ble_eq_true rfl) w228418 gm sh_42 (by decide) rfl (by decide) (s_288 w228418 gm (by omega)) (fun R228425 T228426 H228427 p228428 => ?_))
  obtain ⟨e228429, w228431, f228432, z228434, e228430, b228435, p228433⟩ := p228428
  subst e228429
  subst e228430
  show WL _ _ _ _ 1463 [(4, vI i), (3, .ref o), (2, .ref m), (1, .ref x), (0, .ref 0)] [vI z228434] _ H228427
  refine wl_of hX hb cL_1463 (rw_pop (pc' := 1464) rfl rfl ?_)
  refine wl_of hX hb cL_1464 (rw_goto (p1 := 1653) (by decide) ?_)
  have k228436 : H228427 x 9 = H228414 x 9 := (f228432 x 9 _ gx rfl)
  have k228437 : H228427 m 6 = H228414 m 6 := (f228432 m 6 _ gm rfl)
  exact WL.loc hX (by simp) (next T H228427 ⟨w228431, g0, gx, gm, go, by omega, by omega⟩ (by omega) (by omega))
set_option maxHeartbeats 4000000 in
theorem wl_c43 {kt : Nat → Option mc_E} {CB SB : Nat} {X : mc_S → Prop} {T : wq_T} {H : wq_H} {Len x m o : Nat} {i : Int} (hX : wlX kt CB SB X) (hb : T.2.1 ≤ CB ∧ T.2.2.1 ≤ SB) (hI : wlI Len x m o T H) (hL : Len ≤ 3072) (hi : 0 ≤ i ∧ i + 6 ≤ Len) (hb2 : T.2.1 + 20 ≤ CB ∧ T.2.2.1 + 500 ≤ SB)  (next : ∀ T' H', wlI Len x m o T' H' → T'.2.1 ≤ T.2.1 + 20 → T'.2.2.1 ≤ T.2.2.1 + 500 → WL kt CB SB X 1653 (wlL i x m o) [] T' H') : WL kt CB SB X 1467 (wlL i x m o) [] T H := by
  obtain ⟨hW, g0, gx, gm, go, hK, hr⟩ := hI
  refine wl_of hX hb cL_1467 (rw_aload_n (pc' := 1468) (v := .ref x) rfl rfl rfl ?_)
  refine wl_of hX hb cL_1468 (rw_aload_n (pc' := 1469) (v := .ref 0) rfl rfl rfl ?_)
  refine wl_of hX hb cL_1469 (rw_iload (pc' := 1471) (z := i) rfl rfl ?_)
  refine wl_of hX hb cL_1471 (rw_iconst (pc' := 1472) rfl ?_)
  refine wl_of hX hb cL_1472 (rw_iadd (pc' := 1473) rfl ?_)
  refine wl_of hX hb cL_1473 (xa_I (so := 0) (pc' := 1474) (a := 0) hW g0 (wsh_s _) (by omega) (wty_s _ _) (by omega) (by omega) rfl (fun b228438 b228439 => ?_))
  refine wl_of hX hb cL_1474 (rw_aload_n (pc' := 1475) (v := .ref 0) rfl rfl rfl ?_)
  refine wl_of hX hb cL_1475 (rw_iload (pc' := 1477) (z := i) rfl rfl ?_)
  refine wl_of hX hb cL_1477 (rw_iconst (pc' := 1478) rfl ?_)
  refine wl_of hX hb cL_1478 (rw_iadd (pc' := 1479) rfl ?_)
  refine wl_of hX hb cL_1479 (xa_I (so := 0) (pc' := 1480) (a := 0) hW g0 (wsh_s _) (by omega) (wty_s _ _) (by omega) (by omega) rfl (fun b228440 b228441 => ?_))
  refine wl_of hX hb cL_1480 (xc_V (pc' := 1483) (r := x) (as := [vI (H 0 ((i + 1).toNat)), vI (H 0 ((i + 2).toNat))]) (st := []) (lm_11_200) rfl rfl (Nat.le_of_ble_eq_true rfl) hW gx sh_1 (by decide) rfl (by decide) (s_157 hW gx ⟨by omega, by omega⟩ ⟨by omega, by omega⟩) (fun R228442 T228443 H228444 p228445 => ?_))
  obtain ⟨e228446, w228448, f228449, z228450, e228447, b228451⟩ := p228445
  subst e228446
  subst e228447
  show WL _ _ _ _ 1483 [(4, vI i), (3, .ref o), (2, .ref m), (1, .ref x), (0, .ref 0)] [vI z228450] _ H228444
  refine wl_of hX hb cL_1483 (rw_pop (pc' := 1484) rfl rfl ?_)
  refine wl_of hX hb cL_1484 (rw_aload_n (pc' := 1485) (v := .ref m) rfl rfl rfl ?_)
  refine wl_of hX hb cL_1485 (rw_aload_n (pc' := 1486) (v := .ref 0) rfl rfl rfl ?_)
  refine wl_of hX hb cL_1486 (rw_iload (pc' := 1488) (z := i) rfl rfl ?_)
  refine wl_of hX hb cL_1488 (rw_iconst (pc' := 1489) rfl ?_)
  refine wl_of hX hb cL_1489 (rw_iadd (pc' := 1490) rfl ?_)
  have k228454 : H228444 0 ((i + 1).toNat) = H 0 ((i + 1).toNat) := (f228449 0 ((i + 1).toNat) _ g0 (wmem_s rfl))
  refine wl_of hX hb cL_1490 (xa_I (so := 0) (pc' := 1491) (a := 0) w228448 g0 (wsh_s _) (by omega) (wty_s _ _) (by omega) (by omega) rfl (fun b228452 b228453 => ?_))
  refine wl_of hX hb cL_1491 (rw_aload_n (pc' := 1492) (v := .ref 0) rfl rfl rfl ?_)
  refine wl_of hX hb cL_1492 (rw_iload (pc' := 1494) (z := i) rfl rfl ?_)
  refine wl_of hX hb cL_1494 (rw_iconst (pc' := 1495) rfl ?_)
  refine wl_of hX hb cL_1495 (rw_iadd (pc' := 1496) rfl ?_)
  have k228457 : H228444 0 ((i + 2).toNat) = H 0 ((i + 2).toNat) := (f228449 0 ((i + 2).toNat) _ g0 (wmem_s rfl))
  refine wl_of hX hb cL_1496 (xa_I (so := 0) (pc' := 1497) (a := 0) w228448 g0 (wsh_s _) (by omega) (wty_s _ _) (by omega) (by omega) rfl (fun b228455 b228456 => ?_))
  have k228458 : wKI H228444 m = wKI H m := (wKI_fr hW gm f228449 rfl)
  have k228459 : H228444 x 9 = H x 9 := (f228449 x 9 _ gx rfl)
  have k228460 : H228444 m 6 = H m 6 := (f228449 m 6 _ gm rfl)
  refine wl_of hX hb cL_1497 (xc_V (pc' := 1500) (r := m) (as := [vI (H228444 0 ((i + 1).toNat)), vI (H228444 0 ((i + 2).toNat))]) (st := []) (lm_11_203) rfl rfl (Nat.le_of_ble_eq_true rfl) w228448 gm sh_42 (by decide) rfl (by decide) (s_289 w228448 gm ⟨by omega, by omega⟩ ⟨by omega, by omega⟩ (by omega)) (fun R228461 T228462 H228463 p228464 => ?_))
  obtain ⟨e228465, w228467, f228468, z228470, e228466, b228471, p228469⟩ := p228464
  subst e228465
  subst e228466
  show WL _ _ _ _ 1500 [(4, vI i), (3, .ref o), (2, .ref m), (1, .ref x), (0, .ref 0)] [vI z228470] _ H228463
  refine wl_of hX hb cL_1500 (rw_pop (pc' := 1501) rfl rfl ?_)
  refine wl_of hX hb cL_1501 (rw_goto (p1 := 1653) (by decide) ?_)
  have k228472 : H228463 x 9 = H228444 x 9 := (f228468 x 9 _ gx rfl)
  have k228473 : H228463 m 6 = H228444 m 6 := (f228468 m 6 _ gm rfl)
  exact WL.loc hX (by simp) (next T H228463 ⟨w228467, g0, gx, gm, go, by omega, by omega⟩ (by omega) (by omega))
set_option maxHeartbeats 4000000 in
theorem wl_c44 {kt : Nat → Option mc_E} {CB SB : Nat} {X : mc_S → Prop} {T : wq_T} {H : wq_H} {Len x m o : Nat} {i : Int} (hX : wlX kt CB SB X) (hb : T.2.1 ≤ CB ∧ T.2.2.1 ≤ SB) (hI : wlI Len x m o T H) (hL : Len ≤ 3072) (hi : 0 ≤ i ∧ i + 6 ≤ Len) (hb2 : T.2.1 + 20 ≤ CB ∧ T.2.2.1 + 500 ≤ SB)  (next : ∀ T' H', wlI Len x m o T' H' → T'.2.1 ≤ T.2.1 + 20 → T'.2.2.1 ≤ T.2.2.1 + 500 → WL kt CB SB X 1653 (wlL i x m o) [] T' H') : WL kt CB SB X 1504 (wlL i x m o) [] T H := by
  obtain ⟨hW, g0, gx, gm, go, hK, hr⟩ := hI
  refine wl_of hX hb cL_1504 (rw_aload_n (pc' := 1505) (v := .ref x) rfl rfl rfl ?_)
  refine wl_of hX hb cL_1505 (xc_V (pc' := 1508) (r := x) (as := []) (st := []) (lm_11_204) rfl rfl (Nat.le_of_ble_eq_true rfl) hW gx sh_1 (by decide) rfl (by decide) (s_158 hW gx) (fun R228474 T228475 H228476 p228477 => ?_))
  obtain ⟨e228478, w228480, f228481, z228482, e228479, b228483⟩ := p228477
  subst e228478
  subst e228479
  show WL _ _ _ _ 1508 [(4, vI i), (3, .ref o), (2, .ref m), (1, .ref x), (0, .ref 0)] [vI z228482] _ H228476
  refine wl_of hX hb cL_1508 (rw_pop (pc' := 1509) rfl rfl ?_)
  refine wl_of hX hb cL_1509 (rw_aload_n (pc' := 1510) (v := .ref m) rfl rfl rfl ?_)
  have k228484 : wKI H228476 m = wKI H m := (wKI_fr hW gm f228481 rfl)
  have k228485 : H228476 x 9 = H x 9 := (f228481 x 9 _ gx rfl)
  have k228486 : H228476 m 6 = H m 6 := (f228481 m 6 _ gm rfl)
  refine wl_of hX hb cL_1510 (xc_V (pc' := 1513) (r := m) (as := []) (st := []) (lm_11_208) rfl rfl (Nat.le_of_ble_eq_true rfl) w228480 gm sh_42 (by decide) rfl (by decide) (s_290 w228480 gm (by omega)) (fun R228487 T228488 H228489 p228490 => ?_))
  obtain ⟨e228491, w228493, f228494, z228496, e228492, b228497, p228495⟩ := p228490
  subst e228491
  subst e228492
  show WL _ _ _ _ 1513 [(4, vI i), (3, .ref o), (2, .ref m), (1, .ref x), (0, .ref 0)] [vI z228496] _ H228489
  refine wl_of hX hb cL_1513 (rw_pop (pc' := 1514) rfl rfl ?_)
  refine wl_of hX hb cL_1514 (rw_goto (p1 := 1653) (by decide) ?_)
  have k228498 : H228489 x 9 = H228476 x 9 := (f228494 x 9 _ gx rfl)
  have k228499 : H228489 m 6 = H228476 m 6 := (f228494 m 6 _ gm rfl)
  exact WL.loc hX (by simp) (next T H228489 ⟨w228493, g0, gx, gm, go, by omega, by omega⟩ (by omega) (by omega))
set_option maxHeartbeats 4000000 in
theorem wl_c45 {kt : Nat → Option mc_E} {CB SB : Nat} {X : mc_S → Prop} {T : wq_T} {H : wq_H} {Len x m o : Nat} {i : Int} (hX : wlX kt CB SB X) (hb : T.2.1 ≤ CB ∧ T.2.2.1 ≤ SB) (hI : wlI Len x m o T H) (hL : Len ≤ 3072) (hi : 0 ≤ i ∧ i + 6 ≤ Len) (hb2 : T.2.1 + 20 ≤ CB ∧ T.2.2.1 + 500 ≤ SB)  (next : ∀ T' H', wlI Len x m o T' H' → T'.2.1 ≤ T.2.1 + 20 → T'.2.2.1 ≤ T.2.2.1 + 500 → WL kt CB SB X 1653 (wlL i x m o) [] T' H') : WL kt CB SB X 1517 (wlL i x m o) [] T H := by
  obtain ⟨hW, g0, gx, gm, go, hK, hr⟩ := hI
  refine wl_of hX hb cL_1517 (rw_aload_n (pc' := 1518) (v := .ref x) rfl rfl rfl ?_)
  refine wl_of hX hb cL_1518 (xc_V (pc' := 1521) (r := x) (as := []) (st := []) (lm_11_209) rfl rfl (Nat.le_of_ble_eq_true rfl) hW gx sh_1 (by decide) rfl (by decide) (s_159 hW gx) (fun R228500 T228501 H228502 p228503 => ?_))
  obtain ⟨e228504, w228506, f228507, z228508, e228505, b228509⟩ := p228503
  subst e228504
  subst e228505
  show WL _ _ _ _ 1521 [(4, vI i), (3, .ref o), (2, .ref m), (1, .ref x), (0, .ref 0)] [vL z228508] _ H228502
  refine wl_of hX hb cL_1521 (rw_pop2 (pc' := 1522) rfl rfl ?_)
  refine wl_of hX hb cL_1522 (rw_aload_n (pc' := 1523) (v := .ref m) rfl rfl rfl ?_)
  have k228510 : wKI H228502 m = wKI H m := (wKI_fr hW gm f228507 rfl)
  have k228511 : H228502 x 9 = H x 9 := (f228507 x 9 _ gx rfl)
  have k228512 : H228502 m 6 = H m 6 := (f228507 m 6 _ gm rfl)
  refine wl_of hX hb cL_1523 (xc_V (pc' := 1526) (r := m) (as := []) (st := []) (lm_11_212) rfl rfl (Nat.le_of_ble_eq_true rfl) w228506 gm sh_42 (by decide) rfl (by decide) (s_291 w228506 gm (by omega)) (fun R228513 T228514 H228515 p228516 => ?_))
  obtain ⟨e228517, w228519, f228520, z228522, e228518, b228523, p228521⟩ := p228516
  subst e228517
  subst e228518
  show WL _ _ _ _ 1526 [(4, vI i), (3, .ref o), (2, .ref m), (1, .ref x), (0, .ref 0)] [vL z228522] _ H228515
  refine wl_of hX hb cL_1526 (rw_pop2 (pc' := 1527) rfl rfl ?_)
  refine wl_of hX hb cL_1527 (rw_goto (p1 := 1653) (by decide) ?_)
  have k228524 : H228515 x 9 = H228502 x 9 := (f228520 x 9 _ gx rfl)
  have k228525 : H228515 m 6 = H228502 m 6 := (f228520 m 6 _ gm rfl)
  exact WL.loc hX (by simp) (next T H228515 ⟨w228519, g0, gx, gm, go, by omega, by omega⟩ (by omega) (by omega))
set_option maxHeartbeats 4000000 in
theorem wl_c46 {kt : Nat → Option mc_E} {CB SB : Nat} {X : mc_S → Prop} {T : wq_T} {H : wq_H} {Len x m o : Nat} {i : Int} (hX : wlX kt CB SB X) (hb : T.2.1 ≤ CB ∧ T.2.2.1 ≤ SB) (hI : wlI Len x m o T H) (hL : Len ≤ 3072) (hi : 0 ≤ i ∧ i + 6 ≤ Len) (hb2 : T.2.1 + 20 ≤ CB ∧ T.2.2.1 + 500 ≤ SB)  (next : ∀ T' H', wlI Len x m o T' H' → T'.2.1 ≤ T.2.1 + 20 → T'.2.2.1 ≤ T.2.2.1 + 500 → WL kt CB SB X 1653 (wlL i x m o) [] T' H') : WL kt CB SB X 1530 (wlL i x m o) [] T H := by
  obtain ⟨hW, g0, gx, gm, go, hK, hr⟩ := hI
  refine wl_of hX hb cL_1530 (rw_aload_n (pc' := 1531) (v := .ref x) rfl rfl rfl ?_)
  refine wl_of hX hb cL_1531 (rw_aload_n (pc' := 1532) (v := .ref 0) rfl rfl rfl ?_)
  refine wl_of hX hb cL_1532 (rw_iload (pc' := 1534) (z := i) rfl rfl ?_)
  refine wl_of hX hb cL_1534 (rw_iconst (pc' := 1535) rfl ?_)
  refine wl_of hX hb cL_1535 (rw_iadd (pc' := 1536) rfl ?_)
  refine wl_of hX hb cL_1536 (xa_I (so := 0) (pc' := 1537) (a := 0) hW g0 (wsh_s _) (by omega) (wty_s _ _) (by omega) (by omega) rfl (fun b228526 b228527 => ?_))
  refine wl_of hX hb cL_1537 (rw_i2l (pc' := 1538) rfl ⟨by omega, by omega⟩ ?_)
  refine wl_of hX hb cL_1538 (rw_bipush (pc' := 1540) (z := 32) rfl (by decide) ?_)
  refine wl_of hX hb cL_1540 (rw_lshl (pc' := 1541) rfl ?_)
  obtain ⟨v228528, e228529⟩ : ∃ x : Int, x = wl_shl (H 0 ((i + 1).toNat)) 32 := ⟨_, rfl⟩
  rw [← e228529]
  have b228530 : -9223372036854775808 ≤ v228528 ∧ v228528 ≤ 9223372036854775807 := by
    rw [e228529]
    exact wL_shl _ _
  refine wl_of hX hb cL_1541 (rw_aload_n (pc' := 1542) (v := .ref 0) rfl rfl rfl ?_)
  refine wl_of hX hb cL_1542 (rw_iload (pc' := 1544) (z := i) rfl rfl ?_)
  refine wl_of hX hb cL_1544 (rw_iconst (pc' := 1545) rfl ?_)
  refine wl_of hX hb cL_1545 (rw_iadd (pc' := 1546) rfl ?_)
  refine wl_of hX hb cL_1546 (xa_I (so := 0) (pc' := 1547) (a := 0) hW g0 (wsh_s _) (by omega) (wty_s _ _) (by omega) (by omega) rfl (fun b228531 b228532 => ?_))
  refine wl_of hX hb cL_1547 (rw_i2l (pc' := 1548) rfl ⟨by omega, by omega⟩ ?_)
  refine wl_of hX hb cL_1548 (rw_ldc2 (pc' := 1551) (z := 4294967295) rfl rfl rfl ?_)
  refine wl_of hX hb cL_1551 (rw_land (pc' := 1552) rfl ?_)
  obtain ⟨v228533, e228534⟩ : ∃ x : Int, x = wl_and (H 0 ((i + 2).toNat)) 4294967295 := ⟨_, rfl⟩
  rw [← e228534]
  have b228535 : -9223372036854775808 ≤ v228533 ∧ v228533 ≤ 9223372036854775807 := by
    rw [e228534]
    exact wL_and _ _
  refine wl_of hX hb cL_1552 (rw_lor (pc' := 1553) rfl ?_)
  obtain ⟨v228536, e228537⟩ : ∃ x : Int, x = wl_or v228528 v228533 := ⟨_, rfl⟩
  rw [← e228537]
  have b228538 : -9223372036854775808 ≤ v228536 ∧ v228536 ≤ 9223372036854775807 := by
    rw [e228537]
    exact wL_or _ _
  refine wl_of hX hb cL_1553 (xc_V (pc' := 1556) (r := x) (as := [vL v228536]) (st := []) (lm_11_215) rfl rfl (Nat.le_of_ble_eq_true rfl) hW gx sh_1 (by decide) rfl (by decide) (s_161 hW gx ⟨by omega, by omega⟩) (fun R228539 T228540 H228541 p228542 => ?_))
  obtain ⟨e228543, w228545, f228546, z228547, e228544, b228548⟩ := p228542
  subst e228543
  subst e228544
  show WL _ _ _ _ 1556 [(4, vI i), (3, .ref o), (2, .ref m), (1, .ref x), (0, .ref 0)] [vI z228547] _ H228541
  refine wl_of hX hb cL_1556 (rw_pop (pc' := 1557) rfl rfl ?_)
  refine wl_of hX hb cL_1557 (rw_aload_n (pc' := 1558) (v := .ref m) rfl rfl rfl ?_)
  refine wl_of hX hb cL_1558 (rw_aload_n (pc' := 1559) (v := .ref 0) rfl rfl rfl ?_)
  refine wl_of hX hb cL_1559 (rw_iload (pc' := 1561) (z := i) rfl rfl ?_)
  refine wl_of hX hb cL_1561 (rw_iconst (pc' := 1562) rfl ?_)
  refine wl_of hX hb cL_1562 (rw_iadd (pc' := 1563) rfl ?_)
  have k228551 : H228541 0 ((i + 1).toNat) = H 0 ((i + 1).toNat) := (f228546 0 ((i + 1).toNat) _ g0 (wmem_s rfl))
  refine wl_of hX hb cL_1563 (xa_I (so := 0) (pc' := 1564) (a := 0) w228545 g0 (wsh_s _) (by omega) (wty_s _ _) (by omega) (by omega) rfl (fun b228549 b228550 => ?_))
  refine wl_of hX hb cL_1564 (rw_i2l (pc' := 1565) rfl ⟨by omega, by omega⟩ ?_)
  refine wl_of hX hb cL_1565 (rw_bipush (pc' := 1567) (z := 32) rfl (by decide) ?_)
  refine wl_of hX hb cL_1567 (rw_lshl (pc' := 1568) rfl ?_)
  obtain ⟨v228552, e228553⟩ : ∃ x : Int, x = wl_shl (H228541 0 ((i + 1).toNat)) 32 := ⟨_, rfl⟩
  rw [← e228553]
  have b228554 : -9223372036854775808 ≤ v228552 ∧ v228552 ≤ 9223372036854775807 := by
    rw [e228553]
    exact wL_shl _ _
  refine wl_of hX hb cL_1568 (rw_aload_n (pc' := 1569) (v := .ref 0) rfl rfl rfl ?_)
  refine wl_of hX hb cL_1569 (rw_iload (pc' := 1571) (z := i) rfl rfl ?_)
  refine wl_of hX hb cL_1571 (rw_iconst (pc' := 1572) rfl ?_)
  refine wl_of hX hb cL_1572 (rw_iadd (pc' := 1573) rfl ?_)
  have k228557 : H228541 0 ((i + 2).toNat) = H 0 ((i + 2).toNat) := (f228546 0 ((i + 2).toNat) _ g0 (wmem_s rfl))
  refine wl_of hX hb cL_1573 (xa_I (so := 0) (pc' := 1574) (a := 0) w228545 g0 (wsh_s _) (by omega) (wty_s _ _) (by omega) (by omega) rfl (fun b228555 b228556 => ?_))
  refine wl_of hX hb cL_1574 (rw_i2l (pc' := 1575) rfl ⟨by omega, by omega⟩ ?_)
  refine wl_of hX hb cL_1575 (rw_ldc2 (pc' := 1578) (z := 4294967295) rfl rfl rfl ?_)
  refine wl_of hX hb cL_1578 (rw_land (pc' := 1579) rfl ?_)
  obtain ⟨v228558, e228559⟩ : ∃ x : Int, x = wl_and (H228541 0 ((i + 2).toNat)) 4294967295 := ⟨_, rfl⟩
  rw [← e228559]
  have b228560 : -9223372036854775808 ≤ v228558 ∧ v228558 ≤ 9223372036854775807 := by
    rw [e228559]
    exact wL_and _ _
  refine wl_of hX hb cL_1579 (rw_lor (pc' := 1580) rfl ?_)
  obtain ⟨v228561, e228562⟩ : ∃ x : Int, x = wl_or v228552 v228558 := ⟨_, rfl⟩
  rw [← e228562]
  have b228563 : -9223372036854775808 ≤ v228561 ∧ v228561 ≤ 9223372036854775807 := by
    rw [e228562]
    exact wL_or _ _
  have k228564 : wKI H228541 m = wKI H m := (wKI_fr hW gm f228546 rfl)
  have k228565 : H228541 x 9 = H x 9 := (f228546 x 9 _ gx rfl)
  have k228566 : H228541 m 6 = H m 6 := (f228546 m 6 _ gm rfl)
  refine wl_of hX hb cL_1580 (xc_V (pc' := 1583) (r := m) (as := [vL v228561]) (st := []) (lm_11_219) rfl rfl (Nat.le_of_ble_eq_true rfl) w228545 gm sh_42 (by decide) rfl (by decide) (s_292 w228545 gm ⟨by omega, by omega⟩ (by omega)) (fun R228567 T228568 H228569 p228570 => ?_))
  obtain ⟨e228571, w228573, f228574, z228576, e228572, b228577, p228575⟩ := p228570
  subst e228571
  subst e228572
  show WL _ _ _ _ 1583 [(4, vI i), (3, .ref o), (2, .ref m), (1, .ref x), (0, .ref 0)] [vI z228576] _ H228569
  refine wl_of hX hb cL_1583 (rw_pop (pc' := 1584) rfl rfl ?_)
  refine wl_of hX hb cL_1584 (rw_goto (p1 := 1653) (by decide) ?_)
  have k228578 : H228569 x 9 = H228541 x 9 := (f228574 x 9 _ gx rfl)
  have k228579 : H228569 m 6 = H228541 m 6 := (f228574 m 6 _ gm rfl)
  exact WL.loc hX (by simp) (next T H228569 ⟨w228573, g0, gx, gm, go, by omega, by omega⟩ (by omega) (by omega))
set_option maxHeartbeats 4000000 in
theorem wl_c47 {kt : Nat → Option mc_E} {CB SB : Nat} {X : mc_S → Prop} {T : wq_T} {H : wq_H} {Len x m o : Nat} {i : Int} (hX : wlX kt CB SB X) (hb : T.2.1 ≤ CB ∧ T.2.2.1 ≤ SB) (hI : wlI Len x m o T H) (hL : Len ≤ 3072) (hi : 0 ≤ i ∧ i + 6 ≤ Len) (hb2 : T.2.1 + 20 ≤ CB ∧ T.2.2.1 + 500 ≤ SB) (hled : ∀ {z : Int}, wI z → T.2.1 ≤ CB ∧ T.2.2.1 ≤ SB → wlI Len x m o T H → (∀ (z' : Int), wI z' → ∀ (T' : wq_T) (H' : wq_H), wlI Len x m o T' H' → T'.2.1 ≤ T.2.1 + 20 → T'.2.2.1 ≤ T.2.2.1 + 500 → WL kt CB SB X 1598 (wlL i x m o) [vI z'] T' H') → WL kt CB SB X 1595 (wlL i x m o) [.ref o, vI z, .ref x] T H) (next : ∀ T' H', wlI Len x m o T' H' → T'.2.1 ≤ T.2.1 + 20 → T'.2.2.1 ≤ T.2.2.1 + 500 → WL kt CB SB X 1653 (wlL i x m o) [] T' H') : WL kt CB SB X 1587 (wlL i x m o) [] T H := by
  obtain ⟨hW, g0, gx, gm, go, hK, hr⟩ := hI
  refine wl_of hX hb cL_1587 (rw_aload_n (pc' := 1588) (v := .ref x) rfl rfl rfl ?_)
  refine wl_of hX hb cL_1588 (rw_aload_n (pc' := 1589) (v := .ref 0) rfl rfl rfl ?_)
  refine wl_of hX hb cL_1589 (rw_iload (pc' := 1591) (z := i) rfl rfl ?_)
  refine wl_of hX hb cL_1591 (rw_iconst (pc' := 1592) rfl ?_)
  refine wl_of hX hb cL_1592 (rw_iadd (pc' := 1593) rfl ?_)
  refine wl_of hX hb cL_1593 (xa_I (so := 0) (pc' := 1594) (a := 0) hW g0 (wsh_s _) (by omega) (wty_s _ _) (by omega) (by omega) rfl (fun b228580 b228581 => ?_))
  refine wl_of hX hb cL_1594 (rw_aload_n (pc' := 1595) (v := .ref o) rfl rfl rfl ?_)
  refine hled ⟨by omega, by omega⟩ hb ⟨hW, g0, gx, gm, go, by omega, by omega⟩ (fun z9 b9 T9 H9 hI9 n9 s9 => ?_)
  obtain ⟨w9, g0, gx, gm, go, hK, hr⟩ := hI9
  have hb : T9.2.1 ≤ CB ∧ T9.2.2.1 ≤ SB := ⟨by omega, by omega⟩
  refine wl_of hX hb cL_1598 (rw_istore (pc' := 1600) (z := z9) (L' := [(5, vI z9), (4, vI i), (3, .ref o), (2, .ref m), (1, .ref x), (0, .ref 0)]) rfl rfl rfl ?_)
  refine wl_of hX hb cL_1600 (rw_aload_n (pc' := 1601) (v := .ref m) rfl rfl rfl ?_)
  refine wl_of hX hb cL_1601 (rw_aload_n (pc' := 1602) (v := .ref 0) rfl rfl rfl ?_)
  refine wl_of hX hb cL_1602 (rw_iload (pc' := 1604) (z := i) rfl rfl ?_)
  refine wl_of hX hb cL_1604 (rw_iconst (pc' := 1605) rfl ?_)
  refine wl_of hX hb cL_1605 (rw_iadd (pc' := 1606) rfl ?_)
  refine wl_of hX hb cL_1606 (xa_I (so := 0) (pc' := 1607) (a := 0) w9 g0 (wsh_s _) (by omega) (wty_s _ _) (by omega) (by omega) rfl (fun b228582 b228583 => ?_))
  refine wl_of hX hb cL_1607 (xc_V (pc' := 1610) (r := m) (as := [vI (H9 0 ((i + 1).toNat))]) (st := []) (lm_11_225) rfl rfl (Nat.le_of_ble_eq_true rfl) w9 gm sh_42 (by decide) rfl (by decide) (s_293 w9 gm ⟨by omega, by omega⟩ (by omega)) (fun R228584 T228585 H228586 p228587 => ?_))
  obtain ⟨e228588, w228590, f228591, z228593, e228589, b228594, p228592⟩ := p228587
  subst e228588
  subst e228589
  show WL _ _ _ _ 1610 [(5, vI z9), (4, vI i), (3, .ref o), (2, .ref m), (1, .ref x), (0, .ref 0)] [vI z228593] _ H228586
  refine wl_of hX hb cL_1610 (rw_istore (pc' := 1612) (z := z228593) (L' := [(6, vI z228593), (5, vI z9), (4, vI i), (3, .ref o), (2, .ref m), (1, .ref x), (0, .ref 0)]) rfl rfl rfl ?_)
  refine wl_of hX hb cL_1612 (rw_goto (p1 := 1653) (by decide) ?_)
  have k228595 : H228586 x 9 = H9 x 9 := (f228591 x 9 _ gx rfl)
  have k228596 : H228586 m 6 = H9 m 6 := (f228591 m 6 _ gm rfl)
  exact WL.loc hX (by simp) (next T9 H228586 ⟨w228590, g0, gx, gm, go, by omega, by omega⟩ (by omega) (by omega))
set_option maxHeartbeats 4000000 in
theorem wl_c48 {kt : Nat → Option mc_E} {CB SB : Nat} {X : mc_S → Prop} {T : wq_T} {H : wq_H} {Len x m o : Nat} {i : Int} (hX : wlX kt CB SB X) (hb : T.2.1 ≤ CB ∧ T.2.2.1 ≤ SB) (hI : wlI Len x m o T H) (hL : Len ≤ 3072) (hi : 0 ≤ i ∧ i + 6 ≤ Len) (hb2 : T.2.1 + 20 ≤ CB ∧ T.2.2.1 + 500 ≤ SB)  (next : ∀ T' H', wlI Len x m o T' H' → T'.2.1 ≤ T.2.1 + 20 → T'.2.2.1 ≤ T.2.2.1 + 500 → WL kt CB SB X 1653 (wlL i x m o) [] T' H') : WL kt CB SB X 1615 (wlL i x m o) [] T H := by
  obtain ⟨hW, g0, gx, gm, go, hK, hr⟩ := hI
  refine wl_of hX hb cL_1615 (rw_aload_n (pc' := 1616) (v := .ref x) rfl rfl rfl ?_)
  refine wl_of hX hb cL_1616 (rw_aload_n (pc' := 1617) (v := .ref 0) rfl rfl rfl ?_)
  refine wl_of hX hb cL_1617 (rw_iload (pc' := 1619) (z := i) rfl rfl ?_)
  refine wl_of hX hb cL_1619 (rw_iconst (pc' := 1620) rfl ?_)
  refine wl_of hX hb cL_1620 (rw_iadd (pc' := 1621) rfl ?_)
  refine wl_of hX hb cL_1621 (xa_I (so := 0) (pc' := 1622) (a := 0) hW g0 (wsh_s _) (by omega) (wty_s _ _) (by omega) (by omega) rfl (fun b228597 b228598 => ?_))
  refine wl_of hX hb cL_1622 (xc_V (pc' := 1625) (r := x) (as := [vI (H 0 ((i + 1).toNat))]) (st := []) (lm_11_226) rfl rfl (Nat.le_of_ble_eq_true rfl) hW gx sh_1 (by decide) rfl (by decide) (s_164 hW gx ⟨by omega, by omega⟩) (fun R228599 T228600 H228601 p228602 => ?_))
  obtain ⟨e228603, e228605, z228606, e228604, b228607⟩ := p228602
  subst e228603
  subst e228604
  subst e228605
  show WL _ _ _ _ 1625 [(4, vI i), (3, .ref o), (2, .ref m), (1, .ref x), (0, .ref 0)] [vI z228606] _ H
  refine wl_of hX hb cL_1625 (rw_pop (pc' := 1626) rfl rfl ?_)
  refine wl_of hX hb cL_1626 (rw_aload_n (pc' := 1627) (v := .ref m) rfl rfl rfl ?_)
  refine wl_of hX hb cL_1627 (rw_aload_n (pc' := 1628) (v := .ref 0) rfl rfl rfl ?_)
  refine wl_of hX hb cL_1628 (rw_iload (pc' := 1630) (z := i) rfl rfl ?_)
  refine wl_of hX hb cL_1630 (rw_iconst (pc' := 1631) rfl ?_)
  refine wl_of hX hb cL_1631 (rw_iadd (pc' := 1632) rfl ?_)
  refine wl_of hX hb cL_1632 (xa_I (so := 0) (pc' := 1633) (a := 0) hW g0 (wsh_s _) (by omega) (wty_s _ _) (by omega) (by omega) rfl (fun b228608 b228609 => ?_))
  refine wl_of hX hb cL_1633 (xc_V (pc' := 1636) (r := m) (as := [vI (H 0 ((i + 1).toNat))]) (st := []) (lm_11_229) rfl rfl (Nat.le_of_ble_eq_true rfl) hW gm sh_42 (by decide) rfl (by decide) (s_294 hW gm ⟨by omega, by omega⟩ (by omega)) (fun R228610 T228611 H228612 p228613 => ?_))
  obtain ⟨e228614, w228616, f228617, z228619, e228615, b228620, p228618⟩ := p228613
  subst e228614
  subst e228615
  show WL _ _ _ _ 1636 [(4, vI i), (3, .ref o), (2, .ref m), (1, .ref x), (0, .ref 0)] [vI z228619] _ H228612
  refine wl_of hX hb cL_1636 (rw_pop (pc' := 1637) rfl rfl ?_)
  refine wl_of hX hb cL_1637 (rw_goto (p1 := 1653) (by decide) ?_)
  have k228621 : H228612 x 9 = H x 9 := (f228617 x 9 _ gx rfl)
  have k228622 : H228612 m 6 = H m 6 := (f228617 m 6 _ gm rfl)
  exact WL.loc hX (by simp) (next T H228612 ⟨w228616, g0, gx, gm, go, by omega, by omega⟩ (by omega) (by omega))
set_option maxHeartbeats 4000000 in
theorem wl_c49 {kt : Nat → Option mc_E} {CB SB : Nat} {X : mc_S → Prop} {T : wq_T} {H : wq_H} {Len x m o : Nat} {i : Int} (hX : wlX kt CB SB X) (hb : T.2.1 ≤ CB ∧ T.2.2.1 ≤ SB) (hI : wlI Len x m o T H) (hL : Len ≤ 3072) (hi : 0 ≤ i ∧ i + 6 ≤ Len) (hb2 : T.2.1 + 20 ≤ CB ∧ T.2.2.1 + 500 ≤ SB)  (next : ∀ T' H', wlI Len x m o T' H' → T'.2.1 ≤ T.2.1 + 20 → T'.2.2.1 ≤ T.2.2.1 + 500 → WL kt CB SB X 1653 (wlL i x m o) [] T' H') : WL kt CB SB X 1640 (wlL i x m o) [] T H := by
  obtain ⟨hW, g0, gx, gm, go, hK, hr⟩ := hI
  refine wl_of hX hb cL_1640 (rw_aload_n (pc' := 1641) (v := .ref x) rfl rfl rfl ?_)
  refine wl_of hX hb cL_1641 (xc_V (pc' := 1644) (r := x) (as := []) (st := []) (lm_11_230) rfl rfl (Nat.le_of_ble_eq_true rfl) hW gx sh_1 (by decide) rfl (by decide) (s_165 hW gx) (fun R228623 T228624 H228625 p228626 => ?_))
  obtain ⟨e228627, e228629, z228630, e228628, b228631⟩ := p228626
  subst e228627
  subst e228628
  subst e228629
  show WL _ _ _ _ 1644 [(4, vI i), (3, .ref o), (2, .ref m), (1, .ref x), (0, .ref 0)] [vI z228630] _ H
  refine wl_of hX hb cL_1644 (rw_pop (pc' := 1645) rfl rfl ?_)
  refine wl_of hX hb cL_1645 (rw_aload_n (pc' := 1646) (v := .ref m) rfl rfl rfl ?_)
  refine wl_of hX hb cL_1646 (xc_V (pc' := 1649) (r := m) (as := []) (st := []) (lm_11_233) rfl rfl (Nat.le_of_ble_eq_true rfl) hW gm sh_42 (by decide) rfl (by decide) (s_295 hW gm (by omega)) (fun R228632 T228633 H228634 p228635 => ?_))
  obtain ⟨e228636, w228638, f228639, z228641, e228637, b228642, p228640⟩ := p228635
  subst e228636
  subst e228637
  show WL _ _ _ _ 1649 [(4, vI i), (3, .ref o), (2, .ref m), (1, .ref x), (0, .ref 0)] [vI z228641] _ H228634
  refine wl_of hX hb cL_1649 (rw_pop (pc' := 1650) rfl rfl ?_)
  refine wl_of hX hb cL_1650 (rw_goto (p1 := 1653) (by decide) ?_)
  have k228643 : H228634 x 9 = H x 9 := (f228639 x 9 _ gx rfl)
  have k228644 : H228634 m 6 = H m 6 := (f228639 m 6 _ gm rfl)
  exact WL.loc hX (by simp) (next T H228634 ⟨w228638, g0, gx, gm, go, by omega, by omega⟩ (by omega) (by omega))
set_option maxHeartbeats 4000000 in
theorem wl_head {kt : Nat → Option mc_E} {CB SB : Nat} {X : mc_S → Prop} {T : wq_T} {H : wq_H} {Len x m o : Nat} {i : Int} (hX : wlX kt CB SB X) (hb : T.2.1 ≤ CB ∧ T.2.2.1 ≤ SB) (hI : wlI Len x m o T H) (hL : Len ≤ 3072) (hi : 0 ≤ i ∧ i ≤ Len) (cases : ∀ t, t ∈ [256, 329, 354, 367, 380, 405, 454, 503, 516, 553, 578, 603, 616, 629, 642, 655, 668, 705, 718, 755, 792, 829, 882, 919, 944, 957, 994, 1019, 1056, 1109, 1162, 1175, 1200, 1225, 1250, 1263, 1316, 1329, 1342, 1367, 1404, 1429, 1454, 1467, 1504, 1517, 1530, 1587, 1615, 1640] → i + 6 ≤ Len → WL kt CB SB X t (wlL i x m o) [] T H) (next : i + 6 ≤ Len → WL kt CB SB X 1653 (wlL i x m o) [] T H) : WL kt CB SB X 23 (wlL i x m o) [] T H := by
  obtain ⟨hW, g0, gx, gm, go, hK, hr⟩ := hI
  refine wl_of hX hb cL_23 (rw_iload (pc' := 25) (z := i) rfl rfl ?_)
  refine wl_of hX hb cL_25 (rw_aload_n (pc' := 26) (v := .ref 0) rfl rfl rfl ?_)
  refine wl_of hX hb cL_26 (xa_N (pc' := 27) (a := 0) (n := Len) hW g0 (wsh_s _) (by decide) rfl ?_)
  refine wl_of hX hb cL_27 (rw_bipush (pc' := 29) (z := 6) rfl (by decide) ?_)
  refine wl_of hX hb cL_29 (rw_isub (pc' := 30) rfl ?_)
  refine wl_of hX hb cL_30 (rw_icmp_gt (p1 := 1659) (p2 := 33) (by decide) rfl ⟨by omega, by omega⟩ ⟨by omega, by omega⟩ (fun c228645 => ?_) (fun c228645 => ?_))
  · refine wl_of hX hb cL_1659 (rw_iconst (pc' := 1660) rfl ?_)
    exact WL.fin hX hb
  · refine wl_of hX hb cL_33 (rw_aload_n (pc' := 34) (v := .ref 0) rfl rfl rfl ?_)
    refine wl_of hX hb cL_34 (rw_iload (pc' := 36) (z := i) rfl rfl ?_)
    refine wl_of hX hb cL_36 (xa_I (so := 0) (pc' := 37) (a := 0) hW g0 (wsh_s _) (by omega) (wty_s _ _) (by omega) (by omega) rfl (fun b228646 b228647 => ?_))
    refine wl_of hX hb cL_37 (rw_bipush (pc' := 39) (z := 63) rfl (by decide) ?_)
    refine wl_of hX hb cL_39 (rw_iand (pc' := 40) rfl ?_)
    obtain ⟨v228648, e228649⟩ : ∃ x : Int, x = wq_and (H 0 (i.toNat)) 63 := ⟨_, rfl⟩
    rw [← e228649]
    have b228650 : 0 ≤ v228648 ∧ v228648 ≤ 63 := by
      rw [e228649]
      exact wq_and_b _ (by omega) (by omega)
    have c228651 : v228648 = 0 ∨ v228648 = 1 ∨ v228648 = 2 ∨ v228648 = 3 ∨ v228648 = 4 ∨ v228648 = 5 ∨ v228648 = 6 ∨ v228648 = 7 ∨ v228648 = 8 ∨ v228648 = 9 ∨ v228648 = 10 ∨ v228648 = 11 ∨ v228648 = 12 ∨ v228648 = 13 ∨ v228648 = 14 ∨ v228648 = 15 ∨ v228648 = 16 ∨ v228648 = 17 ∨ v228648 = 18 ∨ v228648 = 19 ∨ v228648 = 20 ∨ v228648 = 21 ∨ v228648 = 22 ∨ v228648 = 23 ∨ v228648 = 24 ∨ v228648 = 25 ∨ v228648 = 26 ∨ v228648 = 27 ∨ v228648 = 28 ∨ v228648 = 29 ∨ v228648 = 30 ∨ v228648 = 31 ∨ v228648 = 32 ∨ v228648 = 33 ∨ v228648 = 34 ∨ v228648 = 35 ∨ v228648 = 36 ∨ v228648 = 37 ∨ v228648 = 38 ∨ v228648 = 39 ∨ v228648 = 40 ∨ v228648 = 41 ∨ v228648 = 42 ∨ v228648 = 43 ∨ v228648 = 44 ∨ v228648 = 45 ∨ v228648 = 46 ∨ v228648 = 47 ∨ v228648 = 48 ∨ v228648 = 49 ∨ (v228648 < 0 ∨ 49 < v228648) := by omega
    rcases c228651 with c228651 | c228651 | c228651 | c228651 | c228651 | c228651 | c228651 | c228651 | c228651 | c228651 | c228651 | c228651 | c228651 | c228651 | c228651 | c228651 | c228651 | c228651 | c228651 | c228651 | c228651 | c228651 | c228651 | c228651 | c228651 | c228651 | c228651 | c228651 | c228651 | c228651 | c228651 | c228651 | c228651 | c228651 | c228651 | c228651 | c228651 | c228651 | c228651 | c228651 | c228651 | c228651 | c228651 | c228651 | c228651 | c228651 | c228651 | c228651 | c228651 | c228651 | c228651
    · refine wl_of hX hb cL_40 (rw_tsw (p1 := 256) ⟨by omega, by omega⟩ (by rw [c228651]; decide) ?_)
      exact cases 256 (by decide) (by omega)
    · refine wl_of hX hb cL_40 (rw_tsw (p1 := 329) ⟨by omega, by omega⟩ (by rw [c228651]; decide) ?_)
      exact cases 329 (by decide) (by omega)
    · refine wl_of hX hb cL_40 (rw_tsw (p1 := 354) ⟨by omega, by omega⟩ (by rw [c228651]; decide) ?_)
      exact cases 354 (by decide) (by omega)
    · refine wl_of hX hb cL_40 (rw_tsw (p1 := 367) ⟨by omega, by omega⟩ (by rw [c228651]; decide) ?_)
      exact cases 367 (by decide) (by omega)
    · refine wl_of hX hb cL_40 (rw_tsw (p1 := 380) ⟨by omega, by omega⟩ (by rw [c228651]; decide) ?_)
      exact cases 380 (by decide) (by omega)
    · refine wl_of hX hb cL_40 (rw_tsw (p1 := 405) ⟨by omega, by omega⟩ (by rw [c228651]; decide) ?_)
      exact cases 405 (by decide) (by omega)
    · refine wl_of hX hb cL_40 (rw_tsw (p1 := 454) ⟨by omega, by omega⟩ (by rw [c228651]; decide) ?_)
      exact cases 454 (by decide) (by omega)
    · refine wl_of hX hb cL_40 (rw_tsw (p1 := 503) ⟨by omega, by omega⟩ (by rw [c228651]; decide) ?_)
      exact cases 503 (by decide) (by omega)
    · refine wl_of hX hb cL_40 (rw_tsw (p1 := 516) ⟨by omega, by omega⟩ (by rw [c228651]; decide) ?_)
      exact cases 516 (by decide) (by omega)
    · refine wl_of hX hb cL_40 (rw_tsw (p1 := 553) ⟨by omega, by omega⟩ (by rw [c228651]; decide) ?_)
      exact cases 553 (by decide) (by omega)
    · refine wl_of hX hb cL_40 (rw_tsw (p1 := 578) ⟨by omega, by omega⟩ (by rw [c228651]; decide) ?_)
      exact cases 578 (by decide) (by omega)
    · refine wl_of hX hb cL_40 (rw_tsw (p1 := 603) ⟨by omega, by omega⟩ (by rw [c228651]; decide) ?_)
      exact cases 603 (by decide) (by omega)
    · refine wl_of hX hb cL_40 (rw_tsw (p1 := 616) ⟨by omega, by omega⟩ (by rw [c228651]; decide) ?_)
      exact cases 616 (by decide) (by omega)
    · refine wl_of hX hb cL_40 (rw_tsw (p1 := 629) ⟨by omega, by omega⟩ (by rw [c228651]; decide) ?_)
      exact cases 629 (by decide) (by omega)
    · refine wl_of hX hb cL_40 (rw_tsw (p1 := 642) ⟨by omega, by omega⟩ (by rw [c228651]; decide) ?_)
      exact cases 642 (by decide) (by omega)
    · refine wl_of hX hb cL_40 (rw_tsw (p1 := 655) ⟨by omega, by omega⟩ (by rw [c228651]; decide) ?_)
      exact cases 655 (by decide) (by omega)
    · refine wl_of hX hb cL_40 (rw_tsw (p1 := 668) ⟨by omega, by omega⟩ (by rw [c228651]; decide) ?_)
      exact cases 668 (by decide) (by omega)
    · refine wl_of hX hb cL_40 (rw_tsw (p1 := 705) ⟨by omega, by omega⟩ (by rw [c228651]; decide) ?_)
      exact cases 705 (by decide) (by omega)
    · refine wl_of hX hb cL_40 (rw_tsw (p1 := 718) ⟨by omega, by omega⟩ (by rw [c228651]; decide) ?_)
      exact cases 718 (by decide) (by omega)
    · refine wl_of hX hb cL_40 (rw_tsw (p1 := 755) ⟨by omega, by omega⟩ (by rw [c228651]; decide) ?_)
      exact cases 755 (by decide) (by omega)
    · refine wl_of hX hb cL_40 (rw_tsw (p1 := 792) ⟨by omega, by omega⟩ (by rw [c228651]; decide) ?_)
      exact cases 792 (by decide) (by omega)
    · refine wl_of hX hb cL_40 (rw_tsw (p1 := 829) ⟨by omega, by omega⟩ (by rw [c228651]; decide) ?_)
      exact cases 829 (by decide) (by omega)
    · refine wl_of hX hb cL_40 (rw_tsw (p1 := 882) ⟨by omega, by omega⟩ (by rw [c228651]; decide) ?_)
      exact cases 882 (by decide) (by omega)
    · refine wl_of hX hb cL_40 (rw_tsw (p1 := 919) ⟨by omega, by omega⟩ (by rw [c228651]; decide) ?_)
      exact cases 919 (by decide) (by omega)
    · refine wl_of hX hb cL_40 (rw_tsw (p1 := 944) ⟨by omega, by omega⟩ (by rw [c228651]; decide) ?_)
      exact cases 944 (by decide) (by omega)
    · refine wl_of hX hb cL_40 (rw_tsw (p1 := 957) ⟨by omega, by omega⟩ (by rw [c228651]; decide) ?_)
      exact cases 957 (by decide) (by omega)
    · refine wl_of hX hb cL_40 (rw_tsw (p1 := 994) ⟨by omega, by omega⟩ (by rw [c228651]; decide) ?_)
      exact cases 994 (by decide) (by omega)
    · refine wl_of hX hb cL_40 (rw_tsw (p1 := 1019) ⟨by omega, by omega⟩ (by rw [c228651]; decide) ?_)
      exact cases 1019 (by decide) (by omega)
    · refine wl_of hX hb cL_40 (rw_tsw (p1 := 1056) ⟨by omega, by omega⟩ (by rw [c228651]; decide) ?_)
      exact cases 1056 (by decide) (by omega)
    · refine wl_of hX hb cL_40 (rw_tsw (p1 := 1109) ⟨by omega, by omega⟩ (by rw [c228651]; decide) ?_)
      exact cases 1109 (by decide) (by omega)
    · refine wl_of hX hb cL_40 (rw_tsw (p1 := 1162) ⟨by omega, by omega⟩ (by rw [c228651]; decide) ?_)
      exact cases 1162 (by decide) (by omega)
    · refine wl_of hX hb cL_40 (rw_tsw (p1 := 1175) ⟨by omega, by omega⟩ (by rw [c228651]; decide) ?_)
      exact cases 1175 (by decide) (by omega)
    · refine wl_of hX hb cL_40 (rw_tsw (p1 := 1200) ⟨by omega, by omega⟩ (by rw [c228651]; decide) ?_)
      exact cases 1200 (by decide) (by omega)
    · refine wl_of hX hb cL_40 (rw_tsw (p1 := 1225) ⟨by omega, by omega⟩ (by rw [c228651]; decide) ?_)
      exact cases 1225 (by decide) (by omega)
    · refine wl_of hX hb cL_40 (rw_tsw (p1 := 1250) ⟨by omega, by omega⟩ (by rw [c228651]; decide) ?_)
      exact cases 1250 (by decide) (by omega)
    · refine wl_of hX hb cL_40 (rw_tsw (p1 := 1263) ⟨by omega, by omega⟩ (by rw [c228651]; decide) ?_)
      exact cases 1263 (by decide) (by omega)
    · refine wl_of hX hb cL_40 (rw_tsw (p1 := 1316) ⟨by omega, by omega⟩ (by rw [c228651]; decide) ?_)
      exact cases 1316 (by decide) (by omega)
    · refine wl_of hX hb cL_40 (rw_tsw (p1 := 1329) ⟨by omega, by omega⟩ (by rw [c228651]; decide) ?_)
      exact cases 1329 (by decide) (by omega)
    · refine wl_of hX hb cL_40 (rw_tsw (p1 := 1342) ⟨by omega, by omega⟩ (by rw [c228651]; decide) ?_)
      exact cases 1342 (by decide) (by omega)
    · refine wl_of hX hb cL_40 (rw_tsw (p1 := 1367) ⟨by omega, by omega⟩ (by rw [c228651]; decide) ?_)
      exact cases 1367 (by decide) (by omega)
    · refine wl_of hX hb cL_40 (rw_tsw (p1 := 1404) ⟨by omega, by omega⟩ (by rw [c228651]; decide) ?_)
      exact cases 1404 (by decide) (by omega)
    · refine wl_of hX hb cL_40 (rw_tsw (p1 := 1429) ⟨by omega, by omega⟩ (by rw [c228651]; decide) ?_)
      exact cases 1429 (by decide) (by omega)
    · refine wl_of hX hb cL_40 (rw_tsw (p1 := 1454) ⟨by omega, by omega⟩ (by rw [c228651]; decide) ?_)
      exact cases 1454 (by decide) (by omega)
    · refine wl_of hX hb cL_40 (rw_tsw (p1 := 1467) ⟨by omega, by omega⟩ (by rw [c228651]; decide) ?_)
      exact cases 1467 (by decide) (by omega)
    · refine wl_of hX hb cL_40 (rw_tsw (p1 := 1504) ⟨by omega, by omega⟩ (by rw [c228651]; decide) ?_)
      exact cases 1504 (by decide) (by omega)
    · refine wl_of hX hb cL_40 (rw_tsw (p1 := 1517) ⟨by omega, by omega⟩ (by rw [c228651]; decide) ?_)
      exact cases 1517 (by decide) (by omega)
    · refine wl_of hX hb cL_40 (rw_tsw (p1 := 1530) ⟨by omega, by omega⟩ (by rw [c228651]; decide) ?_)
      exact cases 1530 (by decide) (by omega)
    · refine wl_of hX hb cL_40 (rw_tsw (p1 := 1587) ⟨by omega, by omega⟩ (by rw [c228651]; decide) ?_)
      exact cases 1587 (by decide) (by omega)
    · refine wl_of hX hb cL_40 (rw_tsw (p1 := 1615) ⟨by omega, by omega⟩ (by rw [c228651]; decide) ?_)
      exact cases 1615 (by decide) (by omega)
    · refine wl_of hX hb cL_40 (rw_tsw (p1 := 1640) ⟨by omega, by omega⟩ (by rw [c228651]; decide) ?_)
      exact cases 1640 (by decide) (by omega)
    · refine wl_of hX hb cL_40 (rw_tsw (p1 := 1653) ⟨by omega, by omega⟩ (by rw [if_pos c228651]; decide) ?_)
      exact next (by omega)
theorem wl_back {kt : Nat → Option mc_E} {CB SB : Nat} {X : mc_S → Prop} {T : wq_T} {H : wq_H} {Len x m o : Nat} {i : Int} (hX : wlX kt CB SB X) (hb : T.2.1 ≤ CB ∧ T.2.2.1 ≤ SB) (hI : wlI Len x m o T H) (hL : Len ≤ 3072) (hi : 0 ≤ i ∧ i + 6 ≤ Len) (next : WL kt CB SB X 23 (wlL (i + 6) x m o) [] T H) : WL kt CB SB X 1653 (wlL i x m o) [] T H := by
  obtain ⟨hW, g0, gx, gm, go, hK, hr⟩ := hI
  refine wl_of hX hb cL_1653 (rw_iinc (pc' := 1656) (z := i) (L' := [(4, vI (i + 6)), (3, .ref o), (2, .ref m), (1, .ref x), (0, .ref 0)]) rfl rfl rfl rfl ?_)
  refine wl_of hX hb cL_1656 (rw_goto (p1 := 23) (by decide) ?_)
  exact next
/-- the call that may throw, as the loop wants it -/
def wlLed (kt : Nat → Option mc_E) (CB SB : Nat) (X : mc_S → Prop) (Len x m o : Nat) : Prop := ∀ (T : wq_T) (H : wq_H) (i z : Int), T.2.1 + 20 ≤ CB ∧ T.2.2.1 + 500 ≤ SB → wI z → wlI Len x m o T H → (∀ (z' : Int), wI z' → ∀ (T' : wq_T) (H' : wq_H), wlI Len x m o T' H' → T'.2.1 ≤ T.2.1 + 20 → T'.2.2.1 ≤ T.2.2.1 + 500 → WL kt CB SB X 1598 (wlL i x m o) [vI z'] T' H') → WL kt CB SB X 1595 (wlL i x m o) [.ref o, vI z, .ref x] T H
set_option maxRecDepth 40000 in
theorem wl_loopL {kt : Nat → Option mc_E} {CB SB : Nat} {X : mc_S → Prop} {Len x m o : Nat} (hX : wlX kt CB SB X) (hL : Len ≤ 3072) (hled : wlLed kt CB SB X Len x m o) : ∀ (n : Nat) (T : wq_T) (H : wq_H) (i : Int), 0 ≤ i ∧ i ≤ Len → (Len - i).toNat = n → T.2.1 + 4 * (n + 6) ≤ CB → T.2.2.1 + 100 * (n + 6) ≤ SB → wlI Len x m o T H → WL kt CB SB X 23 (wlL i x m o) [] T H := by
  intro n
  induction n using Nat.strongRecOn with
  | _ n ih =>
    intro T H i hi hn hc hs hI
    have hb : T.2.1 ≤ CB ∧ T.2.2.1 ≤ SB := ⟨by omega, by omega⟩
    have hb2 : T.2.1 + 20 ≤ CB ∧ T.2.2.1 + 500 ≤ SB := ⟨by omega, by omega⟩
    refine wl_head hX hb hI hL hi (fun t ht h6 => ?_) (fun h6 => wl_back hX hb hI hL ⟨hi.1, h6⟩ (ih (Len - (i + 6)).toNat (by omega) T H (i + 6) ⟨by omega, by omega⟩ rfl (by omega) (by omega) hI))
    have next : ∀ T' H', wlI Len x m o T' H' → T'.2.1 ≤ T.2.1 + 20 → T'.2.2.1 ≤ T.2.2.1 + 500 → WL kt CB SB X 1653 (wlL i x m o) [] T' H' := fun T' H' hI' h1 h2 => wl_back hX ⟨by omega, by omega⟩ hI' hL ⟨hi.1, h6⟩ (ih (Len - (i + 6)).toNat (by omega) T' H' (i + 6) ⟨by omega, by omega⟩ rfl (by omega) (by omega) hI')
    rcases List.mem_cons.mp ht with rfl | ht
    · exact wl_c0 hX hb hI hL ⟨hi.1, h6⟩ hb2 next
    rcases List.mem_cons.mp ht with rfl | ht
    · exact wl_c1 hX hb hI hL ⟨hi.1, h6⟩ hb2 next
    rcases List.mem_cons.mp ht with rfl | ht
    · exact wl_c2 hX hb hI hL ⟨hi.1, h6⟩ hb2 next
    rcases List.mem_cons.mp ht with rfl | ht
    · exact wl_c3 hX hb hI hL ⟨hi.1, h6⟩ hb2 next
    rcases List.mem_cons.mp ht with rfl | ht
    · exact wl_c4 hX hb hI hL ⟨hi.1, h6⟩ hb2 next
    rcases List.mem_cons.mp ht with rfl | ht
    · exact wl_c5 hX hb hI hL ⟨hi.1, h6⟩ hb2 next
    rcases List.mem_cons.mp ht with rfl | ht
    · exact wl_c6 hX hb hI hL ⟨hi.1, h6⟩ hb2 next
    rcases List.mem_cons.mp ht with rfl | ht
    · exact wl_c7 hX hb hI hL ⟨hi.1, h6⟩ hb2 next
    rcases List.mem_cons.mp ht with rfl | ht
    · exact wl_c8 hX hb hI hL ⟨hi.1, h6⟩ hb2 next
    rcases List.mem_cons.mp ht with rfl | ht
    · exact wl_c9 hX hb hI hL ⟨hi.1, h6⟩ hb2 next
    rcases List.mem_cons.mp ht with rfl | ht
    · exact wl_c10 hX hb hI hL ⟨hi.1, h6⟩ hb2 next
    rcases List.mem_cons.mp ht with rfl | ht
    · exact wl_c11 hX hb hI hL ⟨hi.1, h6⟩ hb2 next
    rcases List.mem_cons.mp ht with rfl | ht
    · exact wl_c12 hX hb hI hL ⟨hi.1, h6⟩ hb2 next
    rcases List.mem_cons.mp ht with rfl | ht
    · exact wl_c13 hX hb hI hL ⟨hi.1, h6⟩ hb2 next
    rcases List.mem_cons.mp ht with rfl | ht
    · exact wl_c14 hX hb hI hL ⟨hi.1, h6⟩ hb2 next
    rcases List.mem_cons.mp ht with rfl | ht
    · exact wl_c15 hX hb hI hL ⟨hi.1, h6⟩ hb2 next
    rcases List.mem_cons.mp ht with rfl | ht
    · exact wl_c16 hX hb hI hL ⟨hi.1, h6⟩ hb2 next
    rcases List.mem_cons.mp ht with rfl | ht
    · exact wl_c17 hX hb hI hL ⟨hi.1, h6⟩ hb2 next
    rcases List.mem_cons.mp ht with rfl | ht
    · exact wl_c18 hX hb hI hL ⟨hi.1, h6⟩ hb2 next
    rcases List.mem_cons.mp ht with rfl | ht
    · exact wl_c19 hX hb hI hL ⟨hi.1, h6⟩ hb2 next
    rcases List.mem_cons.mp ht with rfl | ht
    · exact wl_c20 hX hb hI hL ⟨hi.1, h6⟩ hb2 next
    rcases List.mem_cons.mp ht with rfl | ht
    · exact wl_c21 hX hb hI hL ⟨hi.1, h6⟩ hb2 next
    rcases List.mem_cons.mp ht with rfl | ht
    · exact wl_c22 hX hb hI hL ⟨hi.1, h6⟩ hb2 next
    rcases List.mem_cons.mp ht with rfl | ht
    · exact wl_c23 hX hb hI hL ⟨hi.1, h6⟩ hb2 next
    rcases List.mem_cons.mp ht with rfl | ht
    · exact wl_c24 hX hb hI hL ⟨hi.1, h6⟩ hb2 next
    rcases List.mem_cons.mp ht with rfl | ht
    · exact wl_c25 hX hb hI hL ⟨hi.1, h6⟩ hb2 next
    rcases List.mem_cons.mp ht with rfl | ht
    · exact wl_c26 hX hb hI hL ⟨hi.1, h6⟩ hb2 next
    rcases List.mem_cons.mp ht with rfl | ht
    · exact wl_c27 hX hb hI hL ⟨hi.1, h6⟩ hb2 next
    rcases List.mem_cons.mp ht with rfl | ht
    · exact wl_c28 hX hb hI hL ⟨hi.1, h6⟩ hb2 next
    rcases List.mem_cons.mp ht with rfl | ht
    · exact wl_c29 hX hb hI hL ⟨hi.1, h6⟩ hb2 next
    rcases List.mem_cons.mp ht with rfl | ht
    · exact wl_c30 hX hb hI hL ⟨hi.1, h6⟩ hb2 next
    rcases List.mem_cons.mp ht with rfl | ht
    · exact wl_c31 hX hb hI hL ⟨hi.1, h6⟩ hb2 next
    rcases List.mem_cons.mp ht with rfl | ht
    · exact wl_c32 hX hb hI hL ⟨hi.1, h6⟩ hb2 next
    rcases List.mem_cons.mp ht with rfl | ht
    · exact wl_c33 hX hb hI hL ⟨hi.1, h6⟩ hb2 next
    rcases List.mem_cons.mp ht with rfl | ht
    · exact wl_c34 hX hb hI hL ⟨hi.1, h6⟩ hb2 next
    rcases List.mem_cons.mp ht with rfl | ht
    · exact wl_c35 hX hb hI hL ⟨hi.1, h6⟩ hb2 next
    rcases List.mem_cons.mp ht with rfl | ht
    · exact wl_c36 hX hb hI hL ⟨hi.1, h6⟩ hb2 next
    rcases List.mem_cons.mp ht with rfl | ht
    · exact wl_c37 hX hb hI hL ⟨hi.1, h6⟩ hb2 next
    rcases List.mem_cons.mp ht with rfl | ht
    · exact wl_c38 hX hb hI hL ⟨hi.1, h6⟩ hb2 next
    rcases List.mem_cons.mp ht with rfl | ht
    · exact wl_c39 hX hb hI hL ⟨hi.1, h6⟩ hb2 next
    rcases List.mem_cons.mp ht with rfl | ht
    · exact wl_c40 hX hb hI hL ⟨hi.1, h6⟩ hb2 next
    rcases List.mem_cons.mp ht with rfl | ht
    · exact wl_c41 hX hb hI hL ⟨hi.1, h6⟩ hb2 next
    rcases List.mem_cons.mp ht with rfl | ht
    · exact wl_c42 hX hb hI hL ⟨hi.1, h6⟩ hb2 next
    rcases List.mem_cons.mp ht with rfl | ht
    · exact wl_c43 hX hb hI hL ⟨hi.1, h6⟩ hb2 next
    rcases List.mem_cons.mp ht with rfl | ht
    · exact wl_c44 hX hb hI hL ⟨hi.1, h6⟩ hb2 next
    rcases List.mem_cons.mp ht with rfl | ht
    · exact wl_c45 hX hb hI hL ⟨hi.1, h6⟩ hb2 next
    rcases List.mem_cons.mp ht with rfl | ht
    · exact wl_c46 hX hb hI hL ⟨hi.1, h6⟩ hb2 next
    rcases List.mem_cons.mp ht with rfl | ht
    · exact wl_c47 hX hb hI hL ⟨hi.1, h6⟩ hb2 (fun hz _ hI2 k => hled T H i _ hb2 hz hI2 k) next
    rcases List.mem_cons.mp ht with rfl | ht
    · exact wl_c48 hX hb hI hL ⟨hi.1, h6⟩ hb2 next
    rcases List.mem_cons.mp ht with rfl | ht
    · exact wl_c49 hX hb hI hL ⟨hi.1, h6⟩ hb2 next
    cases ht
